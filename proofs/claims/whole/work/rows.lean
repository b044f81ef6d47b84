section
-- ===== PART A: goes FIRST, ahead of the names: the tables' words, and 'selects' of the private methods out of them =====
/-- a private method of a class that the tables say can be made, by its rows of tables_1 -/
def lw_okq (q : MethodName × Nat) : Prop := (q.1.cls ≠ "java/lang/invoke/MethodHandle" ∧ q.1.cls ≠ "java/lang/invoke/VarHandle") ∧ Cond.instantiable q.1.cls q.2 ∈ tables_1 ∧ Cond.privateMethod q.1 ∈ tables_1 ∧ Cond.instanceMethod q.1 ∈ tables_1
theorem lw_p0 : lw_okq (⟨"StrokeBoard", "isSite", "(I)Z"⟩, 9) := ⟨⟨by decide +kernel, by decide +kernel⟩, List.mem_of_getElem? (i := 12) (by decide +kernel), List.mem_of_getElem? (i := 217) (by decide +kernel), List.mem_of_getElem? (i := 218) (by decide +kernel)⟩
theorem lw_p1 : lw_okq (⟨"StrokeBoard$Board", "apply", "(LStrokeBoard$Log;I)V"⟩, 4) := ⟨⟨by decide +kernel, by decide +kernel⟩, List.mem_of_getElem? (i := 121) (by decide +kernel), List.mem_of_getElem? (i := 258) (by decide +kernel), List.mem_of_getElem? (i := 259) (by decide +kernel)⟩
theorem lw_p2 : lw_okq (⟨"StrokeBoard$Board", "collect", "(LStrokeBoard$Log;LStrokeBoard$Knowledge;II)V"⟩, 4) := ⟨⟨by decide +kernel, by decide +kernel⟩, List.mem_of_getElem? (i := 121) (by decide +kernel), List.mem_of_getElem? (i := 278) (by decide +kernel), List.mem_of_getElem? (i := 279) (by decide +kernel)⟩
theorem lw_p3 : lw_okq (⟨"StrokeBoard", "hasMadeAll", "(I)Z"⟩, 9) := ⟨⟨by decide +kernel, by decide +kernel⟩, List.mem_of_getElem? (i := 12) (by decide +kernel), List.mem_of_getElem? (i := 334) (by decide +kernel), List.mem_of_getElem? (i := 335) (by decide +kernel)⟩
theorem lw_p4 : lw_okq (⟨"StrokeBoard", "tick", "(I)I"⟩, 9) := ⟨⟨by decide +kernel, by decide +kernel⟩, List.mem_of_getElem? (i := 12) (by decide +kernel), List.mem_of_getElem? (i := 338) (by decide +kernel), List.mem_of_getElem? (i := 339) (by decide +kernel)⟩
theorem lw_p5 : lw_okq (⟨"StrokeBoard$Log", "addOperation", "(III)I"⟩, 8) := ⟨⟨by decide +kernel, by decide +kernel⟩, List.mem_of_getElem? (i := 20) (by decide +kernel), List.mem_of_getElem? (i := 347) (by decide +kernel), List.mem_of_getElem? (i := 348) (by decide +kernel)⟩
theorem lw_p6 : lw_okq (⟨"StrokeBoard$Log", "insert", "(I)V"⟩, 8) := ⟨⟨by decide +kernel, by decide +kernel⟩, List.mem_of_getElem? (i := 20) (by decide +kernel), List.mem_of_getElem? (i := 355) (by decide +kernel), List.mem_of_getElem? (i := 356) (by decide +kernel)⟩
theorem lw_p7 : lw_okq (⟨"StrokeBoard$Log", "comesAfter", "(II)Z"⟩, 8) := ⟨⟨by decide +kernel, by decide +kernel⟩, List.mem_of_getElem? (i := 20) (by decide +kernel), List.mem_of_getElem? (i := 359) (by decide +kernel), List.mem_of_getElem? (i := 360) (by decide +kernel)⟩
theorem lw_p8 : lw_okq (⟨"StrokeBoard", "publish", "(II)V"⟩, 9) := ⟨⟨by decide +kernel, by decide +kernel⟩, List.mem_of_getElem? (i := 12) (by decide +kernel), List.mem_of_getElem? (i := 388) (by decide +kernel), List.mem_of_getElem? (i := 389) (by decide +kernel)⟩
theorem lw_p9 : lw_okq (⟨"StrokeBoard", "lastVisibleOwn", "(I)I"⟩, 9) := ⟨⟨by decide +kernel, by decide +kernel⟩, List.mem_of_getElem? (i := 12) (by decide +kernel), List.mem_of_getElem? (i := 410) (by decide +kernel), List.mem_of_getElem? (i := 411) (by decide +kernel)⟩
theorem lw_p10 : lw_okq (⟨"StrokeBoard", "changeOwn", "(III)I"⟩, 9) := ⟨⟨by decide +kernel, by decide +kernel⟩, List.mem_of_getElem? (i := 12) (by decide +kernel), List.mem_of_getElem? (i := 417) (by decide +kernel), List.mem_of_getElem? (i := 418) (by decide +kernel)⟩
theorem lw_p11 : lw_okq (⟨"StrokeBoard", "lastUndoneOwn", "(I)I"⟩, 9) := ⟨⟨by decide +kernel, by decide +kernel⟩, List.mem_of_getElem? (i := 12) (by decide +kernel), List.mem_of_getElem? (i := 429) (by decide +kernel), List.mem_of_getElem? (i := 430) (by decide +kernel)⟩
theorem lw_p12 : lw_okq (⟨"StrokeBoard", "areTwoSites", "(II)Z"⟩, 9) := ⟨⟨by decide +kernel, by decide +kernel⟩, List.mem_of_getElem? (i := 12) (by decide +kernel), List.mem_of_getElem? (i := 447) (by decide +kernel), List.mem_of_getElem? (i := 448) (by decide +kernel)⟩
theorem lw_p13 : lw_okq (⟨"StrokeBoard", "receive", "(II)V"⟩, 9) := ⟨⟨by decide +kernel, by decide +kernel⟩, List.mem_of_getElem? (i := 12) (by decide +kernel), List.mem_of_getElem? (i := 465) (by decide +kernel), List.mem_of_getElem? (i := 466) (by decide +kernel)⟩
theorem lw_p14 : lw_okq (⟨"StrokeBoard", "deliverLink", "(II)I"⟩, 9) := ⟨⟨by decide +kernel, by decide +kernel⟩, List.mem_of_getElem? (i := 12) (by decide +kernel), List.mem_of_getElem? (i := 483) (by decide +kernel), List.mem_of_getElem? (i := 484) (by decide +kernel)⟩
theorem lw_p15 : lw_okq (⟨"StrokeBoard", "canRepair", "(III)Z"⟩, 9) := ⟨⟨by decide +kernel, by decide +kernel⟩, List.mem_of_getElem? (i := 12) (by decide +kernel), List.mem_of_getElem? (i := 500) (by decide +kernel), List.mem_of_getElem? (i := 501) (by decide +kernel)⟩
def lw_privs_1 : List (MethodName × Nat) := [(⟨"StrokeBoard", "isSite", "(I)Z"⟩, 9), (⟨"StrokeBoard$Board", "apply", "(LStrokeBoard$Log;I)V"⟩, 4), (⟨"StrokeBoard$Board", "collect", "(LStrokeBoard$Log;LStrokeBoard$Knowledge;II)V"⟩, 4), (⟨"StrokeBoard", "hasMadeAll", "(I)Z"⟩, 9), (⟨"StrokeBoard", "tick", "(I)I"⟩, 9), (⟨"StrokeBoard$Log", "addOperation", "(III)I"⟩, 8), (⟨"StrokeBoard$Log", "insert", "(I)V"⟩, 8), (⟨"StrokeBoard$Log", "comesAfter", "(II)Z"⟩, 8), (⟨"StrokeBoard", "publish", "(II)V"⟩, 9), (⟨"StrokeBoard", "lastVisibleOwn", "(I)I"⟩, 9), (⟨"StrokeBoard", "changeOwn", "(III)I"⟩, 9), (⟨"StrokeBoard", "lastUndoneOwn", "(I)I"⟩, 9), (⟨"StrokeBoard", "areTwoSites", "(II)Z"⟩, 9), (⟨"StrokeBoard", "receive", "(II)V"⟩, 9), (⟨"StrokeBoard", "deliverLink", "(II)I"⟩, 9), (⟨"StrokeBoard", "canRepair", "(III)Z"⟩, 9)]
theorem lw_r1 : ∀ q ∈ lw_privs_1, lw_okq q := List.forall_mem_cons.mpr ⟨lw_p0, List.forall_mem_cons.mpr ⟨lw_p1, List.forall_mem_cons.mpr ⟨lw_p2, List.forall_mem_cons.mpr ⟨lw_p3, List.forall_mem_cons.mpr ⟨lw_p4, List.forall_mem_cons.mpr ⟨lw_p5, List.forall_mem_cons.mpr ⟨lw_p6, List.forall_mem_cons.mpr ⟨lw_p7, List.forall_mem_cons.mpr ⟨lw_p8, List.forall_mem_cons.mpr ⟨lw_p9, List.forall_mem_cons.mpr ⟨lw_p10, List.forall_mem_cons.mpr ⟨lw_p11, List.forall_mem_cons.mpr ⟨lw_p12, List.forall_mem_cons.mpr ⟨lw_p13, List.forall_mem_cons.mpr ⟨lw_p14, List.forall_mem_cons.mpr ⟨lw_p15, fun _ h => absurd h List.not_mem_nil⟩⟩⟩⟩⟩⟩⟩⟩⟩⟩⟩⟩⟩⟩⟩⟩
theorem lw_p16 : lw_okq (⟨"StrokeBoard$Knowledge", "hasLaterOfAuthor", "(II)Z"⟩, 1) := ⟨⟨by decide +kernel, by decide +kernel⟩, List.mem_of_getElem? (i := 94) (by decide +kernel), List.mem_of_getElem? (i := 508) (by decide +kernel), List.mem_of_getElem? (i := 509) (by decide +kernel)⟩
theorem lw_p17 : lw_okq (⟨"StrokeBoard", "coordinate", "(II)I"⟩, 9) := ⟨⟨by decide +kernel, by decide +kernel⟩, List.mem_of_getElem? (i := 12) (by decide +kernel), List.mem_of_getElem? (i := 541) (by decide +kernel), List.mem_of_getElem? (i := 542) (by decide +kernel)⟩
theorem lw_p18 : lw_okq (⟨"StrokeBoard", "strokeValue", "(II)I"⟩, 9) := ⟨⟨by decide +kernel, by decide +kernel⟩, List.mem_of_getElem? (i := 12) (by decide +kernel), List.mem_of_getElem? (i := 545) (by decide +kernel), List.mem_of_getElem? (i := 546) (by decide +kernel)⟩
theorem lw_p19 : lw_okq (⟨"StrokeBoard$Board", "hashPoints", "(ILStrokeBoard$Ink;I)I"⟩, 4) := ⟨⟨by decide +kernel, by decide +kernel⟩, List.mem_of_getElem? (i := 121) (by decide +kernel), List.mem_of_getElem? (i := 573) (by decide +kernel), List.mem_of_getElem? (i := 574) (by decide +kernel)⟩
theorem lw_p20 : lw_okq (⟨"StrokeBoard", "showSame", "(LStrokeBoard$Knowledge;II)Z"⟩, 9) := ⟨⟨by decide +kernel, by decide +kernel⟩, List.mem_of_getElem? (i := 12) (by decide +kernel), List.mem_of_getElem? (i := 584) (by decide +kernel), List.mem_of_getElem? (i := 585) (by decide +kernel)⟩
theorem lw_p21 : lw_okq (⟨"StrokeBoard", "lookAhead", "()V"⟩, 9) := ⟨⟨by decide +kernel, by decide +kernel⟩, List.mem_of_getElem? (i := 12) (by decide +kernel), List.mem_of_getElem? (i := 598) (by decide +kernel), List.mem_of_getElem? (i := 599) (by decide +kernel)⟩
theorem lw_p22 : lw_okq (⟨"StrokeBoard", "repairable", "(II)I"⟩, 9) := ⟨⟨by decide +kernel, by decide +kernel⟩, List.mem_of_getElem? (i := 12) (by decide +kernel), List.mem_of_getElem? (i := 611) (by decide +kernel), List.mem_of_getElem? (i := 612) (by decide +kernel)⟩
theorem lw_p23 : lw_okq (⟨"StrokeBoard", "isKnownBeside", "(II)Z"⟩, 9) := ⟨⟨by decide +kernel, by decide +kernel⟩, List.mem_of_getElem? (i := 12) (by decide +kernel), List.mem_of_getElem? (i := 619) (by decide +kernel), List.mem_of_getElem? (i := 620) (by decide +kernel)⟩
theorem lw_p24 : lw_okq (⟨"StrokeBoardModel", "clearSite", "(I)V"⟩, 14) := ⟨⟨by decide +kernel, by decide +kernel⟩, List.mem_of_getElem? (i := 627) (by decide +kernel), List.mem_of_getElem? (i := 684) (by decide +kernel), List.mem_of_getElem? (i := 685) (by decide +kernel)⟩
theorem lw_p25 : lw_okq (⟨"StrokeBoardModel", "isSite", "(I)Z"⟩, 14) := ⟨⟨by decide +kernel, by decide +kernel⟩, List.mem_of_getElem? (i := 627) (by decide +kernel), List.mem_of_getElem? (i := 701) (by decide +kernel), List.mem_of_getElem? (i := 702) (by decide +kernel)⟩
theorem lw_p26 : lw_okq (⟨"StrokeBoardModel", "knownMany", "(I)I"⟩, 14) := ⟨⟨by decide +kernel, by decide +kernel⟩, List.mem_of_getElem? (i := 627) (by decide +kernel), List.mem_of_getElem? (i := 705) (by decide +kernel), List.mem_of_getElem? (i := 706) (by decide +kernel)⟩
theorem lw_p27 : lw_okq (⟨"StrokeBoardModel", "workOut", "(I)V"⟩, 14) := ⟨⟨by decide +kernel, by decide +kernel⟩, List.mem_of_getElem? (i := 627) (by decide +kernel), List.mem_of_getElem? (i := 709) (by decide +kernel), List.mem_of_getElem? (i := 710) (by decide +kernel)⟩
theorem lw_p28 : lw_okq (⟨"StrokeBoardModel", "isVisible", "(II)Z"⟩, 14) := ⟨⟨by decide +kernel, by decide +kernel⟩, List.mem_of_getElem? (i := 627) (by decide +kernel), List.mem_of_getElem? (i := 713) (by decide +kernel), List.mem_of_getElem? (i := 714) (by decide +kernel)⟩
theorem lw_p29 : lw_okq (⟨"StrokeBoardModel", "doesKnow", "(II)Z"⟩, 14) := ⟨⟨by decide +kernel, by decide +kernel⟩, List.mem_of_getElem? (i := 627) (by decide +kernel), List.mem_of_getElem? (i := 717) (by decide +kernel), List.mem_of_getElem? (i := 718) (by decide +kernel)⟩
theorem lw_p30 : lw_okq (⟨"StrokeBoardModel", "of", "(II)I"⟩, 14) := ⟨⟨by decide +kernel, by decide +kernel⟩, List.mem_of_getElem? (i := 627) (by decide +kernel), List.mem_of_getElem? (i := 721) (by decide +kernel), List.mem_of_getElem? (i := 722) (by decide +kernel)⟩
theorem lw_p31 : lw_okq (⟨"StrokeBoardModel", "last", "(IIII)I"⟩, 14) := ⟨⟨by decide +kernel, by decide +kernel⟩, List.mem_of_getElem? (i := 627) (by decide +kernel), List.mem_of_getElem? (i := 725) (by decide +kernel), List.mem_of_getElem? (i := 726) (by decide +kernel)⟩
def lw_privs_2 : List (MethodName × Nat) := [(⟨"StrokeBoard$Knowledge", "hasLaterOfAuthor", "(II)Z"⟩, 1), (⟨"StrokeBoard", "coordinate", "(II)I"⟩, 9), (⟨"StrokeBoard", "strokeValue", "(II)I"⟩, 9), (⟨"StrokeBoard$Board", "hashPoints", "(ILStrokeBoard$Ink;I)I"⟩, 4), (⟨"StrokeBoard", "showSame", "(LStrokeBoard$Knowledge;II)Z"⟩, 9), (⟨"StrokeBoard", "lookAhead", "()V"⟩, 9), (⟨"StrokeBoard", "repairable", "(II)I"⟩, 9), (⟨"StrokeBoard", "isKnownBeside", "(II)Z"⟩, 9), (⟨"StrokeBoardModel", "clearSite", "(I)V"⟩, 14), (⟨"StrokeBoardModel", "isSite", "(I)Z"⟩, 14), (⟨"StrokeBoardModel", "knownMany", "(I)I"⟩, 14), (⟨"StrokeBoardModel", "workOut", "(I)V"⟩, 14), (⟨"StrokeBoardModel", "isVisible", "(II)Z"⟩, 14), (⟨"StrokeBoardModel", "doesKnow", "(II)Z"⟩, 14), (⟨"StrokeBoardModel", "of", "(II)I"⟩, 14), (⟨"StrokeBoardModel", "last", "(IIII)I"⟩, 14)]
theorem lw_r2 : ∀ q ∈ lw_privs_2, lw_okq q := List.forall_mem_cons.mpr ⟨lw_p16, List.forall_mem_cons.mpr ⟨lw_p17, List.forall_mem_cons.mpr ⟨lw_p18, List.forall_mem_cons.mpr ⟨lw_p19, List.forall_mem_cons.mpr ⟨lw_p20, List.forall_mem_cons.mpr ⟨lw_p21, List.forall_mem_cons.mpr ⟨lw_p22, List.forall_mem_cons.mpr ⟨lw_p23, List.forall_mem_cons.mpr ⟨lw_p24, List.forall_mem_cons.mpr ⟨lw_p25, List.forall_mem_cons.mpr ⟨lw_p26, List.forall_mem_cons.mpr ⟨lw_p27, List.forall_mem_cons.mpr ⟨lw_p28, List.forall_mem_cons.mpr ⟨lw_p29, List.forall_mem_cons.mpr ⟨lw_p30, List.forall_mem_cons.mpr ⟨lw_p31, fun _ h => absurd h List.not_mem_nil⟩⟩⟩⟩⟩⟩⟩⟩⟩⟩⟩⟩⟩⟩⟩⟩
theorem lw_p32 : lw_okq (⟨"StrokeBoardModel", "aim", "(I)I"⟩, 14) := ⟨⟨by decide +kernel, by decide +kernel⟩, List.mem_of_getElem? (i := 627) (by decide +kernel), List.mem_of_getElem? (i := 729) (by decide +kernel), List.mem_of_getElem? (i := 730) (by decide +kernel)⟩
theorem lw_p33 : lw_okq (⟨"StrokeBoardModel", "isAfter", "(II)Z"⟩, 14) := ⟨⟨by decide +kernel, by decide +kernel⟩, List.mem_of_getElem? (i := 627) (by decide +kernel), List.mem_of_getElem? (i := 736) (by decide +kernel), List.mem_of_getElem? (i := 737) (by decide +kernel)⟩
theorem lw_p34 : lw_okq (⟨"StrokeBoardModel", "layerFor", "(II)I"⟩, 14) := ⟨⟨by decide +kernel, by decide +kernel⟩, List.mem_of_getElem? (i := 627) (by decide +kernel), List.mem_of_getElem? (i := 740) (by decide +kernel), List.mem_of_getElem? (i := 741) (by decide +kernel)⟩
theorem lw_p35 : lw_okq (⟨"StrokeBoardModel", "make", "(IIIII)I"⟩, 14) := ⟨⟨by decide +kernel, by decide +kernel⟩, List.mem_of_getElem? (i := 627) (by decide +kernel), List.mem_of_getElem? (i := 757) (by decide +kernel), List.mem_of_getElem? (i := 758) (by decide +kernel)⟩
theorem lw_p36 : lw_okq (⟨"StrokeBoardModel", "isPair", "(II)Z"⟩, 14) := ⟨⟨by decide +kernel, by decide +kernel⟩, List.mem_of_getElem? (i := 627) (by decide +kernel), List.mem_of_getElem? (i := 777) (by decide +kernel), List.mem_of_getElem? (i := 778) (by decide +kernel)⟩
theorem lw_p37 : lw_okq (⟨"StrokeBoardModel", "take", "(I)I"⟩, 14) := ⟨⟨by decide +kernel, by decide +kernel⟩, List.mem_of_getElem? (i := 627) (by decide +kernel), List.mem_of_getElem? (i := 782) (by decide +kernel), List.mem_of_getElem? (i := 783) (by decide +kernel)⟩
theorem lw_p38 : lw_okq (⟨"StrokeBoardModel", "learns", "(II)V"⟩, 14) := ⟨⟨by decide +kernel, by decide +kernel⟩, List.mem_of_getElem? (i := 627) (by decide +kernel), List.mem_of_getElem? (i := 786) (by decide +kernel), List.mem_of_getElem? (i := 787) (by decide +kernel)⟩
theorem lw_p39 : lw_okq (⟨"StrokeBoardModel", "greatest", "(II)I"⟩, 14) := ⟨⟨by decide +kernel, by decide +kernel⟩, List.mem_of_getElem? (i := 627) (by decide +kernel), List.mem_of_getElem? (i := 806) (by decide +kernel), List.mem_of_getElem? (i := 807) (by decide +kernel)⟩
theorem lw_p40 : lw_okq (⟨"StrokeBoardModel", "isGiven", "(III)Z"⟩, 14) := ⟨⟨by decide +kernel, by decide +kernel⟩, List.mem_of_getElem? (i := 627) (by decide +kernel), List.mem_of_getElem? (i := 814) (by decide +kernel), List.mem_of_getElem? (i := 815) (by decide +kernel)⟩
theorem lw_p41 : lw_okq (⟨"StrokeBoardModel", "sizeOf", "(I)I"⟩, 14) := ⟨⟨by decide +kernel, by decide +kernel⟩, List.mem_of_getElem? (i := 627) (by decide +kernel), List.mem_of_getElem? (i := 822) (by decide +kernel), List.mem_of_getElem? (i := 823) (by decide +kernel)⟩
theorem lw_p42 : lw_okq (⟨"StrokeBoardModel", "doShowSame", "(II)Z"⟩, 14) := ⟨⟨by decide +kernel, by decide +kernel⟩, List.mem_of_getElem? (i := 627) (by decide +kernel), List.mem_of_getElem? (i := 850) (by decide +kernel), List.mem_of_getElem? (i := 851) (by decide +kernel)⟩
theorem lw_p43 : lw_okq (⟨"StrokeBoardModel", "givenMany", "(II)I"⟩, 14) := ⟨⟨by decide +kernel, by decide +kernel⟩, List.mem_of_getElem? (i := 627) (by decide +kernel), List.mem_of_getElem? (i := 862) (by decide +kernel), List.mem_of_getElem? (i := 863) (by decide +kernel)⟩
theorem lw_p44 : lw_okq (⟨"StrokeBoardModel", "isSafe", "(II)Z"⟩, 14) := ⟨⟨by decide +kernel, by decide +kernel⟩, List.mem_of_getElem? (i := 627) (by decide +kernel), List.mem_of_getElem? (i := 870) (by decide +kernel), List.mem_of_getElem? (i := 871) (by decide +kernel)⟩
def lw_privs_3 : List (MethodName × Nat) := [(⟨"StrokeBoardModel", "aim", "(I)I"⟩, 14), (⟨"StrokeBoardModel", "isAfter", "(II)Z"⟩, 14), (⟨"StrokeBoardModel", "layerFor", "(II)I"⟩, 14), (⟨"StrokeBoardModel", "make", "(IIIII)I"⟩, 14), (⟨"StrokeBoardModel", "isPair", "(II)Z"⟩, 14), (⟨"StrokeBoardModel", "take", "(I)I"⟩, 14), (⟨"StrokeBoardModel", "learns", "(II)V"⟩, 14), (⟨"StrokeBoardModel", "greatest", "(II)I"⟩, 14), (⟨"StrokeBoardModel", "isGiven", "(III)Z"⟩, 14), (⟨"StrokeBoardModel", "sizeOf", "(I)I"⟩, 14), (⟨"StrokeBoardModel", "doShowSame", "(II)Z"⟩, 14), (⟨"StrokeBoardModel", "givenMany", "(II)I"⟩, 14), (⟨"StrokeBoardModel", "isSafe", "(II)Z"⟩, 14)]
theorem lw_r3 : ∀ q ∈ lw_privs_3, lw_okq q := List.forall_mem_cons.mpr ⟨lw_p32, List.forall_mem_cons.mpr ⟨lw_p33, List.forall_mem_cons.mpr ⟨lw_p34, List.forall_mem_cons.mpr ⟨lw_p35, List.forall_mem_cons.mpr ⟨lw_p36, List.forall_mem_cons.mpr ⟨lw_p37, List.forall_mem_cons.mpr ⟨lw_p38, List.forall_mem_cons.mpr ⟨lw_p39, List.forall_mem_cons.mpr ⟨lw_p40, List.forall_mem_cons.mpr ⟨lw_p41, List.forall_mem_cons.mpr ⟨lw_p42, List.forall_mem_cons.mpr ⟨lw_p43, List.forall_mem_cons.mpr ⟨lw_p44, fun _ h => absurd h List.not_mem_nil⟩⟩⟩⟩⟩⟩⟩⟩⟩⟩⟩⟩⟩
def lw_privs : List (MethodName × Nat) := lw_privs_1 ++ (lw_privs_2 ++ (lw_privs_3))
def lw_tbl : List Cond := k2_sels lw_privs ++ tables_1
theorem lw_privs_ok : ∀ q ∈ lw_privs, lw_okq q := by
  show ∀ q ∈ lw_privs_1 ++ (lw_privs_2 ++ (lw_privs_3)), lw_okq q
  exact List.forall_mem_append.mpr ⟨lw_r1, List.forall_mem_append.mpr ⟨lw_r2, lw_r3⟩⟩
/-! ===== BEGIN words of one list among another's, by their places ===== -/
theorem goodIn_r {big : List Cond} (ws : List Cond) (ps : List Nat) (hp : ws = ps.filterMap (fun i => big[i]?)) (h : ws.all goodWord = true) : GoodIn big ws := by
  intro w hw
  have h1 := List.all_eq_true.mp h w hw
  rw [hp] at hw
  obtain ⟨i, -, hi⟩ := List.mem_filterMap.mp hw
  have hm : w ∈ big := by first | exact List.mem_of_getElem? hi | exact List.getElem?_mem hi
  exact ⟨hm, good_of_word h1⟩
theorem goodIn_app {big a b : List Cond} (ha : GoodIn big a) (hb : GoodIn big b) : GoodIn big (a ++ b) := fun w h => (List.mem_append.mp h).elim (ha w) (hb w)
theorem goodIn_ca {big a b : List Cond} {c : Cond} (ha : GoodIn big (c :: a)) (hb : GoodIn big b) : GoodIn big (c :: (a ++ b)) := fun w h => (List.mem_cons.mp h).elim (fun e => ha w (List.mem_cons.mpr (Or.inl e))) (fun h => (List.mem_append.mp h).elim (fun h => ha w (List.mem_cons.mpr (Or.inr h))) (hb w))
theorem goodIn_sub {big ws : List Cond} (hm : ∀ w ∈ ws, w ∈ big) (h : ws.all goodWord = true) : GoodIn big ws := fun w hw => ⟨hm w hw, good_of_word (List.all_eq_true.mp h w hw)⟩
/-! ===== END ===== -/

/-! ===== BEGIN printed: names, fields, word lists, decode rows ===== -/
def RX0 : String := "StrokeBoard$Board"
def TX0 : u_T := fun k => match k with
  | 0 => ("StrokeBoard$Board", "undone", "LStrokeBoard$Row;", true)
  | 1 => ("StrokeBoard$Board", "layers", "LStrokeBoard$Row;", true)
  | 2 => ("StrokeBoard$Board", "strokes", "LStrokeBoard$Row;", true)
  | _ => ("StrokeBoard$Board", "count", "I", false)
def tyX0 : Nat → FieldType := fun k => match k with
  | 0 => .object "StrokeBoard$Row"
  | 1 => .object "StrokeBoard$Row"
  | 2 => .object "StrokeBoard$Row"
  | _ => .int
abbrev wsX00 : List Cond := u_ws RX0 TX0 4
theorem nmX0 : ∀ a, a < 4 → ∀ b, b < 4 → a ≠ b → (TX0 a).2.1 ≠ (TX0 b).2.1 := by decide +kernel
theorem tyX0_ok : ∀ k, k < 4 → parseFieldDescriptor (TX0 k).2.2.1 = some (tyX0 k) := by decide +kernel
abbrev cX0_init : ByteArray := prog_2_method_1_code
def yX0_init : MethodName := ⟨RX0, "<init>", "()V"⟩
abbrev cX0_show : ByteArray := prog_2_method_2_code
def yX0_show : MethodName := ⟨RX0, "show", "(LStrokeBoard$Log;LStrokeBoard$Knowledge;I)V"⟩
abbrev cX0_apply : ByteArray := prog_2_method_3_code
def yX0_apply : MethodName := ⟨RX0, "apply", "(LStrokeBoard$Log;I)V"⟩
abbrev cX0_collect : ByteArray := prog_2_method_4_code
def yX0_collect : MethodName := ⟨RX0, "collect", "(LStrokeBoard$Log;LStrokeBoard$Knowledge;II)V"⟩
abbrev cX0_isUndone : ByteArray := prog_2_method_5_code
def yX0_isUndone : MethodName := ⟨RX0, "isUndone", "(I)Z"⟩
abbrev cX0_strokeCount : ByteArray := prog_2_method_6_code
def yX0_strokeCount : MethodName := ⟨RX0, "strokeCount", "()I"⟩
abbrev cX0_strokeIn : ByteArray := prog_2_method_7_code
def yX0_strokeIn : MethodName := ⟨RX0, "strokeIn", "(I)I"⟩
abbrev cX0_layerOf : ByteArray := prog_2_method_8_code
def yX0_layerOf : MethodName := ⟨RX0, "layerOf", "(I)I"⟩
abbrev cX0_matches : ByteArray := prog_2_method_9_code
def yX0_matches : MethodName := ⟨RX0, "matches", "(LStrokeBoard$Board;)Z"⟩
abbrev cX0_hash : ByteArray := prog_2_method_10_code
def yX0_hash : MethodName := ⟨RX0, "hash", "(LStrokeBoard$Log;)I"⟩
abbrev cX0_hashPoints : ByteArray := prog_2_method_11_code
def yX0_hashPoints : MethodName := ⟨RX0, "hashPoints", "(ILStrokeBoard$Ink;I)I"⟩
def RX1 : String := "StrokeBoard$Ink"
def TX1 : u_T := fun k => match k with
  | 0 => ("StrokeBoard$Ink", "counts", "LStrokeBoard$Row;", true)
  | 1 => ("StrokeBoard$Ink", "colors", "LStrokeBoard$Row;", true)
  | 2 => ("StrokeBoard$Ink", "layers", "LStrokeBoard$Row;", true)
  | 3 => ("StrokeBoard$Ink", "xs", "LStrokeBoard$Row;", true)
  | _ => ("StrokeBoard$Ink", "ys", "LStrokeBoard$Row;", true)
def tyX1 : Nat → FieldType := fun k => match k with
  | 0 => .object "StrokeBoard$Row"
  | 1 => .object "StrokeBoard$Row"
  | 2 => .object "StrokeBoard$Row"
  | 3 => .object "StrokeBoard$Row"
  | _ => .object "StrokeBoard$Row"
abbrev wsX10 : List Cond := u_ws RX1 TX1 5
theorem nmX1 : ∀ a, a < 5 → ∀ b, b < 5 → a ≠ b → (TX1 a).2.1 ≠ (TX1 b).2.1 := by decide +kernel
theorem tyX1_ok : ∀ k, k < 5 → parseFieldDescriptor (TX1 k).2.2.1 = some (tyX1 k) := by decide +kernel
abbrev cX1_init : ByteArray := prog_3_method_1_code
def yX1_init : MethodName := ⟨RX1, "<init>", "(I)V"⟩
abbrev cX1_clear : ByteArray := prog_3_method_2_code
def yX1_clear : MethodName := ⟨RX1, "clear", "()V"⟩
abbrev cX1_empty : ByteArray := prog_3_method_3_code
def yX1_empty : MethodName := ⟨RX1, "empty", "(I)V"⟩
abbrev cX1_start : ByteArray := prog_3_method_4_code
def yX1_start : MethodName := ⟨RX1, "start", "(III)V"⟩
abbrev cX1_addPoint : ByteArray := prog_3_method_5_code
def yX1_addPoint : MethodName := ⟨RX1, "addPoint", "(III)V"⟩
abbrev cX1_copyFrom : ByteArray := prog_3_method_6_code
def yX1_copyFrom : MethodName := ⟨RX1, "copyFrom", "(LStrokeBoard$Ink;II)V"⟩
abbrev cX1_pointCount : ByteArray := prog_3_method_7_code
def yX1_pointCount : MethodName := ⟨RX1, "pointCount", "(I)I"⟩
abbrev cX1_colorOf : ByteArray := prog_3_method_8_code
def yX1_colorOf : MethodName := ⟨RX1, "colorOf", "(I)I"⟩
abbrev cX1_layerOf : ByteArray := prog_3_method_9_code
def yX1_layerOf : MethodName := ⟨RX1, "layerOf", "(I)I"⟩
abbrev cX1_xOf : ByteArray := prog_3_method_10_code
def yX1_xOf : MethodName := ⟨RX1, "xOf", "(II)I"⟩
abbrev cX1_yOf : ByteArray := prog_3_method_11_code
def yX1_yOf : MethodName := ⟨RX1, "yOf", "(II)I"⟩
abbrev cX1_hasPoint : ByteArray := prog_3_method_12_code
def yX1_hasPoint : MethodName := ⟨RX1, "hasPoint", "(III)Z"⟩
abbrev cX1_sizeOf : ByteArray := prog_3_method_13_code
def yX1_sizeOf : MethodName := ⟨RX1, "sizeOf", "(I)I"⟩
def RX2 : String := "StrokeBoard$Knowledge"
def TX2 : u_T := fun k => match k with
  | _ => ("StrokeBoard$Knowledge", "known", "LStrokeBoard$Row;", true)
def tyX2 : Nat → FieldType := fun k => match k with
  | _ => .object "StrokeBoard$Row"
abbrev wsX20 : List Cond := u_ws RX2 TX2 1
theorem nmX2 : ∀ a, a < 1 → ∀ b, b < 1 → a ≠ b → (TX2 a).2.1 ≠ (TX2 b).2.1 := by decide +kernel
theorem tyX2_ok : ∀ k, k < 1 → parseFieldDescriptor (TX2 k).2.2.1 = some (tyX2 k) := by decide +kernel
abbrev cX2_init : ByteArray := prog_4_method_1_code
def yX2_init : MethodName := ⟨RX2, "<init>", "()V"⟩
abbrev cX2_clear : ByteArray := prog_4_method_2_code
def yX2_clear : MethodName := ⟨RX2, "clear", "()V"⟩
abbrev cX2_copyFrom : ByteArray := prog_4_method_3_code
def yX2_copyFrom : MethodName := ⟨RX2, "copyFrom", "(LStrokeBoard$Knowledge;)V"⟩
abbrev cX2_learn : ByteArray := prog_4_method_4_code
def yX2_learn : MethodName := ⟨RX2, "learn", "(II)V"⟩
abbrev cX2_has : ByteArray := prog_4_method_5_code
def yX2_has : MethodName := ⟨RX2, "has", "(II)Z"⟩
abbrev cX2_countOf : ByteArray := prog_4_method_6_code
def yX2_countOf : MethodName := ⟨RX2, "countOf", "(I)I"⟩
abbrev cX2_isInGap : ByteArray := prog_4_method_7_code
def yX2_isInGap : MethodName := ⟨RX2, "isInGap", "(II)Z"⟩
abbrev cX2_hasLaterOfAuthor : ByteArray := prog_4_method_8_code
def yX2_hasLaterOfAuthor : MethodName := ⟨RX2, "hasLaterOfAuthor", "(II)Z"⟩
def RX3 : String := "StrokeBoard$Links"
def TX3 : u_T := fun k => match k with
  | 0 => ("StrokeBoard$Links", "counts", "LStrokeBoard$Row;", true)
  | _ => ("StrokeBoard$Links", "messages", "LStrokeBoard$Row;", true)
def tyX3 : Nat → FieldType := fun k => match k with
  | 0 => .object "StrokeBoard$Row"
  | _ => .object "StrokeBoard$Row"
abbrev wsX30 : List Cond := u_ws RX3 TX3 2
theorem nmX3 : ∀ a, a < 2 → ∀ b, b < 2 → a ≠ b → (TX3 a).2.1 ≠ (TX3 b).2.1 := by decide +kernel
theorem tyX3_ok : ∀ k, k < 2 → parseFieldDescriptor (TX3 k).2.2.1 = some (tyX3 k) := by decide +kernel
abbrev cX3_init : ByteArray := prog_5_method_1_code
def yX3_init : MethodName := ⟨RX3, "<init>", "()V"⟩
abbrev cX3_clear : ByteArray := prog_5_method_2_code
def yX3_clear : MethodName := ⟨RX3, "clear", "()V"⟩
abbrev cX3_send : ByteArray := prog_5_method_3_code
def yX3_send : MethodName := ⟨RX3, "send", "(III)V"⟩
abbrev cX3_countIn : ByteArray := prog_5_method_4_code
def yX3_countIn : MethodName := ⟨RX3, "countIn", "(II)I"⟩
abbrev cX3_messageIn : ByteArray := prog_5_method_5_code
def yX3_messageIn : MethodName := ⟨RX3, "messageIn", "(III)I"⟩
abbrev cX3_dropFirst : ByteArray := prog_5_method_6_code
def yX3_dropFirst : MethodName := ⟨RX3, "dropFirst", "(II)V"⟩
abbrev cX3_carry : ByteArray := prog_5_method_7_code
def yX3_carry : MethodName := ⟨RX3, "carry", "(I)Z"⟩
def RX4 : String := "StrokeBoard$Log"
def TX4 : u_T := fun k => match k with
  | 0 => ("StrokeBoard$Log", "made", "LStrokeBoard$Row;", true)
  | 1 => ("StrokeBoard$Log", "kinds", "LStrokeBoard$Row;", true)
  | 2 => ("StrokeBoard$Log", "times", "LStrokeBoard$Row;", true)
  | 3 => ("StrokeBoard$Log", "targets", "LStrokeBoard$Row;", true)
  | 4 => ("StrokeBoard$Log", "layers", "LStrokeBoard$Row;", true)
  | 5 => ("StrokeBoard$Log", "order", "LStrokeBoard$Row;", true)
  | 6 => ("StrokeBoard$Log", "ink", "LStrokeBoard$Ink;", true)
  | _ => ("StrokeBoard$Log", "total", "I", false)
def tyX4 : Nat → FieldType := fun k => match k with
  | 0 => .object "StrokeBoard$Row"
  | 1 => .object "StrokeBoard$Row"
  | 2 => .object "StrokeBoard$Row"
  | 3 => .object "StrokeBoard$Row"
  | 4 => .object "StrokeBoard$Row"
  | 5 => .object "StrokeBoard$Row"
  | 6 => .object "StrokeBoard$Ink"
  | _ => .int
abbrev wsX40 : List Cond := u_ws RX4 TX4 8
theorem nmX4 : ∀ a, a < 8 → ∀ b, b < 8 → a ≠ b → (TX4 a).2.1 ≠ (TX4 b).2.1 := by decide +kernel
theorem tyX4_ok : ∀ k, k < 8 → parseFieldDescriptor (TX4 k).2.2.1 = some (tyX4 k) := by decide +kernel
abbrev cX4_init : ByteArray := prog_6_method_1_code
def yX4_init : MethodName := ⟨RX4, "<init>", "()V"⟩
abbrev cX4_clear : ByteArray := prog_6_method_2_code
def yX4_clear : MethodName := ⟨RX4, "clear", "()V"⟩
abbrev cX4_addStroke : ByteArray := prog_6_method_3_code
def yX4_addStroke : MethodName := ⟨RX4, "addStroke", "(IILStrokeBoard$Ink;)I"⟩
abbrev cX4_addChange : ByteArray := prog_6_method_4_code
def yX4_addChange : MethodName := ⟨RX4, "addChange", "(IIIII)I"⟩
abbrev cX4_addOperation : ByteArray := prog_6_method_5_code
def yX4_addOperation : MethodName := ⟨RX4, "addOperation", "(III)I"⟩
abbrev cX4_insert : ByteArray := prog_6_method_6_code
def yX4_insert : MethodName := ⟨RX4, "insert", "(I)V"⟩
abbrev cX4_comesAfter : ByteArray := prog_6_method_7_code
def yX4_comesAfter : MethodName := ⟨RX4, "comesAfter", "(II)Z"⟩
abbrev cX4_madeBy : ByteArray := prog_6_method_8_code
def yX4_madeBy : MethodName := ⟨RX4, "madeBy", "(I)I"⟩
abbrev cX4_totalCount : ByteArray := prog_6_method_9_code
def yX4_totalCount : MethodName := ⟨RX4, "totalCount", "()I"⟩
abbrev cX4_inOrder : ByteArray := prog_6_method_10_code
def yX4_inOrder : MethodName := ⟨RX4, "inOrder", "(I)I"⟩
abbrev cX4_kindOf : ByteArray := prog_6_method_11_code
def yX4_kindOf : MethodName := ⟨RX4, "kindOf", "(I)I"⟩
abbrev cX4_isStroke : ByteArray := prog_6_method_12_code
def yX4_isStroke : MethodName := ⟨RX4, "isStroke", "(I)Z"⟩
abbrev cX4_timeOf : ByteArray := prog_6_method_13_code
def yX4_timeOf : MethodName := ⟨RX4, "timeOf", "(I)I"⟩
abbrev cX4_targetOf : ByteArray := prog_6_method_14_code
def yX4_targetOf : MethodName := ⟨RX4, "targetOf", "(I)I"⟩
abbrev cX4_layerOf : ByteArray := prog_6_method_15_code
def yX4_layerOf : MethodName := ⟨RX4, "layerOf", "(I)I"⟩
abbrev cX4_sizeOf : ByteArray := prog_6_method_16_code
def yX4_sizeOf : MethodName := ⟨RX4, "sizeOf", "(I)I"⟩
def RX5 : String := "StrokeBoard$Row"
def TX5 : u_T := fun k => match k with
  | _ => ("StrokeBoard$Row", "cells", "[I", true)
def tyX5 : Nat → FieldType := fun k => match k with
  | _ => .array .int
abbrev wsX50 : List Cond := u_ws RX5 TX5 1
theorem nmX5 : ∀ a, a < 1 → ∀ b, b < 1 → a ≠ b → (TX5 a).2.1 ≠ (TX5 b).2.1 := by decide +kernel
theorem tyX5_ok : ∀ k, k < 1 → parseFieldDescriptor (TX5 k).2.2.1 = some (tyX5 k) := by decide +kernel
abbrev cX5_init : ByteArray := prog_7_method_1_code
def yX5_init : MethodName := ⟨RX5, "<init>", "(I)V"⟩
abbrev cX5_get : ByteArray := prog_7_method_2_code
def yX5_get : MethodName := ⟨RX5, "get", "(I)I"⟩
abbrev cX5_set : ByteArray := prog_7_method_3_code
def yX5_set : MethodName := ⟨RX5, "set", "(II)V"⟩
abbrev cX5_fill : ByteArray := prog_7_method_4_code
def yX5_fill : MethodName := ⟨RX5, "fill", "(I)V"⟩
abbrev cX5_copyFrom : ByteArray := prog_7_method_5_code
def yX5_copyFrom : MethodName := ⟨RX5, "copyFrom", "(LStrokeBoard$Row;)V"⟩
def RX6 : String := "StrokeBoard"
def TX6 : u_T := fun k => match k with
  | 0 => ("StrokeBoard", "log", "LStrokeBoard$Log;", true)
  | 1 => ("StrokeBoard", "pens", "LStrokeBoard$Ink;", true)
  | 2 => ("StrokeBoard", "knowledge", "LStrokeBoard$Knowledge;", true)
  | 3 => ("StrokeBoard", "future", "LStrokeBoard$Knowledge;", true)
  | 4 => ("StrokeBoard", "links", "LStrokeBoard$Links;", true)
  | 5 => ("StrokeBoard", "board", "LStrokeBoard$Board;", true)
  | 6 => ("StrokeBoard", "secondBoard", "LStrokeBoard$Board;", true)
  | 7 => ("StrokeBoard", "clocks", "LStrokeBoard$Row;", true)
  | _ => ("StrokeBoard", "siteCount", "I", false)
def tyX6 : Nat → FieldType := fun k => match k with
  | 0 => .object "StrokeBoard$Log"
  | 1 => .object "StrokeBoard$Ink"
  | 2 => .object "StrokeBoard$Knowledge"
  | 3 => .object "StrokeBoard$Knowledge"
  | 4 => .object "StrokeBoard$Links"
  | 5 => .object "StrokeBoard$Board"
  | 6 => .object "StrokeBoard$Board"
  | 7 => .object "StrokeBoard$Row"
  | _ => .int
abbrev wsX60 : List Cond := u_ws RX6 TX6 9
theorem nmX6 : ∀ a, a < 9 → ∀ b, b < 9 → a ≠ b → (TX6 a).2.1 ≠ (TX6 b).2.1 := by decide +kernel
theorem tyX6_ok : ∀ k, k < 9 → parseFieldDescriptor (TX6 k).2.2.1 = some (tyX6 k) := by decide +kernel
abbrev cX6_init : ByteArray := prog_1_method_1_code
def yX6_init : MethodName := ⟨RX6, "<init>", "()V"⟩
abbrev cX6_reset : ByteArray := prog_1_method_2_code
def yX6_reset : MethodName := ⟨RX6, "reset", "(I)I"⟩
abbrev cX6_join : ByteArray := prog_1_method_3_code
def yX6_join : MethodName := ⟨RX6, "join", "()I"⟩
abbrev cX6_sites : ByteArray := prog_1_method_4_code
def yX6_sites : MethodName := ⟨RX6, "sites", "()I"⟩
abbrev cX6_siteInfo : ByteArray := prog_1_method_5_code
def yX6_siteInfo : MethodName := ⟨RX6, "siteInfo", "(II)I"⟩
abbrev cX6_penDown : ByteArray := prog_1_method_6_code
def yX6_penDown : MethodName := ⟨RX6, "penDown", "(IIIII)I"⟩
abbrev cX6_penMove : ByteArray := prog_1_method_7_code
def yX6_penMove : MethodName := ⟨RX6, "penMove", "(III)I"⟩
abbrev cX6_penUp : ByteArray := prog_1_method_8_code
def yX6_penUp : MethodName := ⟨RX6, "penUp", "(I)I"⟩
abbrev cX6_undo : ByteArray := prog_1_method_9_code
def yX6_undo : MethodName := ⟨RX6, "undo", "(I)I"⟩
abbrev cX6_redo : ByteArray := prog_1_method_10_code
def yX6_redo : MethodName := ⟨RX6, "redo", "(I)I"⟩
abbrev cX6_lift : ByteArray := prog_1_method_11_code
def yX6_lift : MethodName := ⟨RX6, "lift", "(III)I"⟩
abbrev cX6_deliver : ByteArray := prog_1_method_12_code
def yX6_deliver : MethodName := ⟨RX6, "deliver", "(II)I"⟩
abbrev cX6_lose : ByteArray := prog_1_method_13_code
def yX6_lose : MethodName := ⟨RX6, "lose", "(II)I"⟩
abbrev cX6_deliverAll : ByteArray := prog_1_method_14_code
def yX6_deliverAll : MethodName := ⟨RX6, "deliverAll", "()I"⟩
abbrev cX6_waiting : ByteArray := prog_1_method_15_code
def yX6_waiting : MethodName := ⟨RX6, "waiting", "(II)I"⟩
abbrev cX6_gap : ByteArray := prog_1_method_16_code
def yX6_gap : MethodName := ⟨RX6, "gap", "(III)I"⟩
abbrev cX6_repair : ByteArray := prog_1_method_17_code
def yX6_repair : MethodName := ⟨RX6, "repair", "(II)I"⟩
abbrev cX6_transfer : ByteArray := prog_1_method_18_code
def yX6_transfer : MethodName := ⟨RX6, "transfer", "(II)I"⟩
abbrev cX6_operation : ByteArray := prog_1_method_19_code
def yX6_operation : MethodName := ⟨RX6, "operation", "(III)I"⟩
abbrev cX6_knows : ByteArray := prog_1_method_20_code
def yX6_knows : MethodName := ⟨RX6, "knows", "(III)I"⟩
abbrev cX6_stroke : ByteArray := prog_1_method_21_code
def yX6_stroke : MethodName := ⟨RX6, "stroke", "(III)I"⟩
abbrev cX6_strokeAt : ByteArray := prog_1_method_22_code
def yX6_strokeAt : MethodName := ⟨RX6, "strokeAt", "(III)I"⟩
abbrev cX6_digest : ByteArray := prog_1_method_23_code
def yX6_digest : MethodName := ⟨RX6, "digest", "(I)I"⟩
abbrev cX6_areSame : ByteArray := prog_1_method_24_code
def yX6_areSame : MethodName := ⟨RX6, "areSame", "(II)I"⟩
abbrev cX6_differing : ByteArray := prog_1_method_25_code
def yX6_differing : MethodName := ⟨RX6, "differing", "()I"⟩
abbrev cX6_bestHelper : ByteArray := prog_1_method_26_code
def yX6_bestHelper : MethodName := ⟨RX6, "bestHelper", "(I)I"⟩
abbrev cX6_endangered : ByteArray := prog_1_method_27_code
def yX6_endangered : MethodName := ⟨RX6, "endangered", "(I)I"⟩
abbrev cX6_isWithin : ByteArray := prog_1_method_28_code
def yX6_isWithin : MethodName := ⟨RX6, "isWithin", "(III)Z"⟩
abbrev cX6_isSite : ByteArray := prog_1_method_29_code
def yX6_isSite : MethodName := ⟨RX6, "isSite", "(I)Z"⟩
abbrev cX6_areTwoSites : ByteArray := prog_1_method_30_code
def yX6_areTwoSites : MethodName := ⟨RX6, "areTwoSites", "(II)Z"⟩
abbrev cX6_hasMadeAll : ByteArray := prog_1_method_31_code
def yX6_hasMadeAll : MethodName := ⟨RX6, "hasMadeAll", "(I)Z"⟩
abbrev cX6_idOf : ByteArray := prog_1_method_32_code
def yX6_idOf : MethodName := ⟨RX6, "idOf", "(II)I"⟩
abbrev cX6_authorOf : ByteArray := prog_1_method_33_code
def yX6_authorOf : MethodName := ⟨RX6, "authorOf", "(I)I"⟩
abbrev cX6_numberOf : ByteArray := prog_1_method_34_code
def yX6_numberOf : MethodName := ⟨RX6, "numberOf", "(I)I"⟩
abbrev cX6_tick : ByteArray := prog_1_method_35_code
def yX6_tick : MethodName := ⟨RX6, "tick", "(I)I"⟩
abbrev cX6_publish : ByteArray := prog_1_method_36_code
def yX6_publish : MethodName := ⟨RX6, "publish", "(II)V"⟩
abbrev cX6_receive : ByteArray := prog_1_method_37_code
def yX6_receive : MethodName := ⟨RX6, "receive", "(II)V"⟩
abbrev cX6_changeOwn : ByteArray := prog_1_method_38_code
def yX6_changeOwn : MethodName := ⟨RX6, "changeOwn", "(III)I"⟩
abbrev cX6_lastVisibleOwn : ByteArray := prog_1_method_39_code
def yX6_lastVisibleOwn : MethodName := ⟨RX6, "lastVisibleOwn", "(I)I"⟩
abbrev cX6_lastUndoneOwn : ByteArray := prog_1_method_40_code
def yX6_lastUndoneOwn : MethodName := ⟨RX6, "lastUndoneOwn", "(I)I"⟩
abbrev cX6_deliverLink : ByteArray := prog_1_method_41_code
def yX6_deliverLink : MethodName := ⟨RX6, "deliverLink", "(II)I"⟩
abbrev cX6_canRepair : ByteArray := prog_1_method_42_code
def yX6_canRepair : MethodName := ⟨RX6, "canRepair", "(III)Z"⟩
abbrev cX6_repairable : ByteArray := prog_1_method_43_code
def yX6_repairable : MethodName := ⟨RX6, "repairable", "(II)I"⟩
abbrev cX6_strokeValue : ByteArray := prog_1_method_44_code
def yX6_strokeValue : MethodName := ⟨RX6, "strokeValue", "(II)I"⟩
abbrev cX6_coordinate : ByteArray := prog_1_method_45_code
def yX6_coordinate : MethodName := ⟨RX6, "coordinate", "(II)I"⟩
abbrev cX6_showSame : ByteArray := prog_1_method_46_code
def yX6_showSame : MethodName := ⟨RX6, "showSame", "(LStrokeBoard$Knowledge;II)Z"⟩
abbrev cX6_lookAhead : ByteArray := prog_1_method_47_code
def yX6_lookAhead : MethodName := ⟨RX6, "lookAhead", "()V"⟩
abbrev cX6_isKnownBeside : ByteArray := prog_1_method_48_code
def yX6_isKnownBeside : MethodName := ⟨RX6, "isKnownBeside", "(II)Z"⟩
def RX7 : String := "StrokeBoardModel"
def TX7 : u_T := fun k => match k with
  | 0 => ("StrokeBoardModel", "sites", "I", false)
  | 1 => ("StrokeBoardModel", "ops", "[I", true)
  | 2 => ("StrokeBoardModel", "made", "[I", true)
  | 3 => ("StrokeBoardModel", "clock", "[I", true)
  | 4 => ("StrokeBoardModel", "known", "[I", true)
  | 5 => ("StrokeBoardModel", "pens", "[I", true)
  | 6 => ("StrokeBoardModel", "links", "[I", true)
  | 7 => ("StrokeBoardModel", "linkMany", "[I", true)
  | 8 => ("StrokeBoardModel", "board", "[I", true)
  | 9 => ("StrokeBoardModel", "layers", "[I", true)
  | 10 => ("StrokeBoardModel", "boardMany", "I", false)
  | 11 => ("StrokeBoardModel", "otherBoard", "[I", true)
  | 12 => ("StrokeBoardModel", "otherLayers", "[I", true)
  | _ => ("StrokeBoardModel", "aside", "[I", true)
def tyX7 : Nat → FieldType := fun k => match k with
  | 0 => .int
  | 1 => .array .int
  | 2 => .array .int
  | 3 => .array .int
  | 4 => .array .int
  | 5 => .array .int
  | 6 => .array .int
  | 7 => .array .int
  | 8 => .array .int
  | 9 => .array .int
  | 10 => .int
  | 11 => .array .int
  | 12 => .array .int
  | _ => .array .int
abbrev wsX70 : List Cond := u_ws RX7 TX7 14
theorem nmX7 : ∀ a, a < 14 → ∀ b, b < 14 → a ≠ b → (TX7 a).2.1 ≠ (TX7 b).2.1 := by decide +kernel
theorem tyX7_ok : ∀ k, k < 14 → parseFieldDescriptor (TX7 k).2.2.1 = some (tyX7 k) := by decide +kernel
abbrev cX7_init : ByteArray := prog_9_method_1_code
def yX7_init : MethodName := ⟨RX7, "<init>", "()V"⟩
abbrev cX7_in : ByteArray := prog_9_method_3_code
def yX7_in : MethodName := ⟨RX7, "in", "(III)Z"⟩
abbrev cX7_isSite : ByteArray := prog_9_method_4_code
def yX7_isSite : MethodName := ⟨RX7, "isSite", "(I)Z"⟩
abbrev cX7_isPair : ByteArray := prog_9_method_5_code
def yX7_isPair : MethodName := ⟨RX7, "isPair", "(II)Z"⟩
abbrev cX7_place : ByteArray := prog_9_method_6_code
def yX7_place : MethodName := ⟨RX7, "place", "(II)I"⟩
abbrev cX7_of : ByteArray := prog_9_method_7_code
def yX7_of : MethodName := ⟨RX7, "of", "(II)I"⟩
abbrev cX7_doesKnow : ByteArray := prog_9_method_8_code
def yX7_doesKnow : MethodName := ⟨RX7, "doesKnow", "(II)Z"⟩
abbrev cX7_learns : ByteArray := prog_9_method_9_code
def yX7_learns : MethodName := ⟨RX7, "learns", "(II)V"⟩
abbrev cX7_isAfter : ByteArray := prog_9_method_10_code
def yX7_isAfter : MethodName := ⟨RX7, "isAfter", "(II)Z"⟩
abbrev cX7_aim : ByteArray := prog_9_method_11_code
def yX7_aim : MethodName := ⟨RX7, "aim", "(I)I"⟩
abbrev cX7_last : ByteArray := prog_9_method_12_code
def yX7_last : MethodName := ⟨RX7, "last", "(IIII)I"⟩
abbrev cX7_isVisible : ByteArray := prog_9_method_13_code
def yX7_isVisible : MethodName := ⟨RX7, "isVisible", "(II)Z"⟩
abbrev cX7_layerFor : ByteArray := prog_9_method_14_code
def yX7_layerFor : MethodName := ⟨RX7, "layerFor", "(II)I"⟩
abbrev cX7_workOut : ByteArray := prog_9_method_15_code
def yX7_workOut : MethodName := ⟨RX7, "workOut", "(I)V"⟩
abbrev cX7_clearSite : ByteArray := prog_9_method_16_code
def yX7_clearSite : MethodName := ⟨RX7, "clearSite", "(I)V"⟩
abbrev cX7_reset : ByteArray := prog_9_method_17_code
def yX7_reset : MethodName := ⟨RX7, "reset", "(I)I"⟩
abbrev cX7_join : ByteArray := prog_9_method_18_code
def yX7_join : MethodName := ⟨RX7, "join", "()I"⟩
abbrev cX7_sites : ByteArray := prog_9_method_19_code
def yX7_sites : MethodName := ⟨RX7, "sites", "()I"⟩
abbrev cX7_knownMany : ByteArray := prog_9_method_20_code
def yX7_knownMany : MethodName := ⟨RX7, "knownMany", "(I)I"⟩
abbrev cX7_siteInfo : ByteArray := prog_9_method_21_code
def yX7_siteInfo : MethodName := ⟨RX7, "siteInfo", "(II)I"⟩
abbrev cX7_penDown : ByteArray := prog_9_method_22_code
def yX7_penDown : MethodName := ⟨RX7, "penDown", "(IIIII)I"⟩
abbrev cX7_penMove : ByteArray := prog_9_method_23_code
def yX7_penMove : MethodName := ⟨RX7, "penMove", "(III)I"⟩
abbrev cX7_make : ByteArray := prog_9_method_24_code
def yX7_make : MethodName := ⟨RX7, "make", "(IIIII)I"⟩
abbrev cX7_penUp : ByteArray := prog_9_method_25_code
def yX7_penUp : MethodName := ⟨RX7, "penUp", "(I)I"⟩
abbrev cX7_undo : ByteArray := prog_9_method_26_code
def yX7_undo : MethodName := ⟨RX7, "undo", "(I)I"⟩
abbrev cX7_redo : ByteArray := prog_9_method_27_code
def yX7_redo : MethodName := ⟨RX7, "redo", "(I)I"⟩
abbrev cX7_lift : ByteArray := prog_9_method_28_code
def yX7_lift : MethodName := ⟨RX7, "lift", "(III)I"⟩
abbrev cX7_take : ByteArray := prog_9_method_29_code
def yX7_take : MethodName := ⟨RX7, "take", "(I)I"⟩
abbrev cX7_deliver : ByteArray := prog_9_method_30_code
def yX7_deliver : MethodName := ⟨RX7, "deliver", "(II)I"⟩
abbrev cX7_lose : ByteArray := prog_9_method_31_code
def yX7_lose : MethodName := ⟨RX7, "lose", "(II)I"⟩
abbrev cX7_deliverAll : ByteArray := prog_9_method_32_code
def yX7_deliverAll : MethodName := ⟨RX7, "deliverAll", "()I"⟩
abbrev cX7_waiting : ByteArray := prog_9_method_33_code
def yX7_waiting : MethodName := ⟨RX7, "waiting", "(II)I"⟩
abbrev cX7_greatest : ByteArray := prog_9_method_34_code
def yX7_greatest : MethodName := ⟨RX7, "greatest", "(II)I"⟩
abbrev cX7_gap : ByteArray := prog_9_method_35_code
def yX7_gap : MethodName := ⟨RX7, "gap", "(III)I"⟩
abbrev cX7_isGiven : ByteArray := prog_9_method_36_code
def yX7_isGiven : MethodName := ⟨RX7, "isGiven", "(III)Z"⟩
abbrev cX7_givenMany : ByteArray := prog_9_method_37_code
def yX7_givenMany : MethodName := ⟨RX7, "givenMany", "(II)I"⟩
abbrev cX7_repair : ByteArray := prog_9_method_38_code
def yX7_repair : MethodName := ⟨RX7, "repair", "(II)I"⟩
abbrev cX7_sizeOf : ByteArray := prog_9_method_39_code
def yX7_sizeOf : MethodName := ⟨RX7, "sizeOf", "(I)I"⟩
abbrev cX7_transfer : ByteArray := prog_9_method_40_code
def yX7_transfer : MethodName := ⟨RX7, "transfer", "(II)I"⟩
abbrev cX7_operation : ByteArray := prog_9_method_41_code
def yX7_operation : MethodName := ⟨RX7, "operation", "(III)I"⟩
abbrev cX7_knows : ByteArray := prog_9_method_42_code
def yX7_knows : MethodName := ⟨RX7, "knows", "(III)I"⟩
abbrev cX7_stroke : ByteArray := prog_9_method_43_code
def yX7_stroke : MethodName := ⟨RX7, "stroke", "(III)I"⟩
abbrev cX7_strokeAt : ByteArray := prog_9_method_44_code
def yX7_strokeAt : MethodName := ⟨RX7, "strokeAt", "(III)I"⟩
abbrev cX7_digest : ByteArray := prog_9_method_45_code
def yX7_digest : MethodName := ⟨RX7, "digest", "(I)I"⟩
abbrev cX7_doShowSame : ByteArray := prog_9_method_46_code
def yX7_doShowSame : MethodName := ⟨RX7, "doShowSame", "(II)Z"⟩
abbrev cX7_areSame : ByteArray := prog_9_method_47_code
def yX7_areSame : MethodName := ⟨RX7, "areSame", "(II)I"⟩
abbrev cX7_differing : ByteArray := prog_9_method_48_code
def yX7_differing : MethodName := ⟨RX7, "differing", "()I"⟩
abbrev cX7_bestHelper : ByteArray := prog_9_method_49_code
def yX7_bestHelper : MethodName := ⟨RX7, "bestHelper", "(I)I"⟩
abbrev cX7_isSafe : ByteArray := prog_9_method_50_code
def yX7_isSafe : MethodName := ⟨RX7, "isSafe", "(II)Z"⟩
abbrev cX7_endangered : ByteArray := prog_9_method_51_code
def yX7_endangered : MethodName := ⟨RX7, "endangered", "(I)I"⟩
def RJ6 : String := "java/lang/Integer"
def TJ6 : u_T := fun k => match k with
  | _ => ("", "", "", false)
def tyJ6 : Nat → FieldType := fun k => match k with
  | _ => .int
abbrev wsJ60 : List Cond := u_ws RJ6 TJ6 0
theorem nmJ6 : ∀ a, a < 0 → ∀ b, b < 0 → a ≠ b → (TJ6 a).2.1 ≠ (TJ6 b).2.1 := by decide +kernel
theorem tyJ6_ok : ∀ k, k < 0 → parseFieldDescriptor (TJ6 k).2.2.1 = some (tyJ6 k) := by decide +kernel
abbrev cJ6_compare_7cf53 : ByteArray := prog_10_method_40_code
def yJ6_compare_7cf53 : MethodName := ⟨RJ6, "compare", "(II)I"⟩
def RJ9 : String := "java/lang/Math"
def TJ9 : u_T := fun k => match k with
  | _ => ("", "", "", false)
def tyJ9 : Nat → FieldType := fun k => match k with
  | _ => .int
abbrev wsJ90 : List Cond := u_ws RJ9 TJ9 0
theorem nmJ9 : ∀ a, a < 0 → ∀ b, b < 0 → a ≠ b → (TJ9 a).2.1 ≠ (TJ9 b).2.1 := by decide +kernel
theorem tyJ9_ok : ∀ k, k < 0 → parseFieldDescriptor (TJ9 k).2.2.1 = some (tyJ9 k) := by decide +kernel
abbrev cJ9_max_7cf53 : ByteArray := prog_11_method_65_code
def yJ9_max_7cf53 : MethodName := ⟨RJ9, "max", "(II)I"⟩
def RL : String := "StrokeBoardLaw"
abbrev cL_law : ByteArray := code
def yL_law : MethodName := ⟨RL, "law", "([I)Z"⟩
def wsX5_init : List Cond := .code yX5_init cX5_init 2 none :: ([.methodLink RX5 1 objectInit, .instanceMethod objectInit, .code objectInit ⟨#[0xb1]⟩ 1 none, .methodLink RX5 7 Lib.Math.max.name, .static Lib.Math.max.name, .initialized "java/lang/Math", .code Lib.Math.max.name Lib.Math.max.code 2 (some .int), .arrayClass .int, .fieldLink RX5 13 "StrokeBoard$Row" "cells" "[I"] ++ wsX50)
def wsX0_init : List Cond := .code yX0_init cX0_init 1 none :: ([.methodLink RX0 3 objectInit, .instanceMethod objectInit, .code objectInit ⟨#[0xb1]⟩ 1 none, .classLink RX0 9 RX5, .instantiable RX5 1, .initialized RX5, .fieldLink RX0 14 "StrokeBoard$Board" "undone" "LStrokeBoard$Row;", .fieldLink RX0 20 "StrokeBoard$Board" "layers" "LStrokeBoard$Row;", .fieldLink RX0 23 "StrokeBoard$Board" "strokes" "LStrokeBoard$Row;", .methodLink RX0 11 yX5_init, .instanceMethod yX5_init, .code yX5_init cX5_init 2 none, .methodLink RX5 1 objectInit, .methodLink RX5 7 Lib.Math.max.name, .static Lib.Math.max.name, .initialized "java/lang/Math", .code Lib.Math.max.name Lib.Math.max.code 2 (some .int), .arrayClass .int, .fieldLink RX5 13 "StrokeBoard$Row" "cells" "[I"] ++ wsX50 ++ wsX00)
def wsX4_totalCount : List Cond := .code yX4_totalCount cX4_totalCount 1 (some .int) :: ([.fieldLink RX4 45 "StrokeBoard$Log" "total" "I"] ++ wsX40)
def wsX5_fill : List Cond := .code yX5_fill cX5_fill 3 none :: ([.fieldLink RX5 13 "StrokeBoard$Row" "cells" "[I"] ++ wsX50)
def wsX5_get : List Cond := .code yX5_get cX5_get 2 (some .int) :: ([.fieldLink RX5 13 "StrokeBoard$Row" "cells" "[I"] ++ wsX50)
def wsX5_copyFrom : List Cond := .code yX5_copyFrom cX5_copyFrom 3 none :: ([.fieldLink RX5 13 "StrokeBoard$Row" "cells" "[I", .methodLink RX5 19 yX5_get, .instanceMethod yX5_get, .selects RX5 yX5_get yX5_get, .initialized RX5, .code yX5_get cX5_get 2 (some .int)] ++ wsX50)
def wsX4_inOrder : List Cond := .code yX4_inOrder cX4_inOrder 2 (some .int) :: ([.fieldLink RX4 32 "StrokeBoard$Log" "order" "LStrokeBoard$Row;", .methodLink RX4 65 yX5_get, .instanceMethod yX5_get, .selects RX5 yX5_get yX5_get, .initialized RX5, .code yX5_get cX5_get 2 (some .int), .fieldLink RX5 13 "StrokeBoard$Row" "cells" "[I"] ++ wsX40 ++ wsX50)
def wsX2_has : List Cond := .code yX2_has cX2_has 3 (some .boolean) :: ([.fieldLink RX2 14 "StrokeBoard$Knowledge" "known" "LStrokeBoard$Row;", .methodLink RX2 31 yX5_get, .instanceMethod yX5_get, .selects RX5 yX5_get yX5_get, .initialized RX5, .code yX5_get cX5_get 2 (some .int), .fieldLink RX5 13 "StrokeBoard$Row" "cells" "[I"] ++ wsX20 ++ wsX50)
def wsX4_targetOf : List Cond := .code yX4_targetOf cX4_targetOf 2 (some .int) :: ([.fieldLink RX4 26 "StrokeBoard$Log" "targets" "LStrokeBoard$Row;", .methodLink RX4 65 yX5_get, .instanceMethod yX5_get, .selects RX5 yX5_get yX5_get, .initialized RX5, .code yX5_get cX5_get 2 (some .int), .fieldLink RX5 13 "StrokeBoard$Row" "cells" "[I"] ++ wsX40 ++ wsX50)
def wsX4_kindOf : List Cond := .code yX4_kindOf cX4_kindOf 2 (some .int) :: ([.fieldLink RX4 20 "StrokeBoard$Log" "kinds" "LStrokeBoard$Row;", .methodLink RX4 65 yX5_get, .instanceMethod yX5_get, .selects RX5 yX5_get yX5_get, .initialized RX5, .code yX5_get cX5_get 2 (some .int), .fieldLink RX5 13 "StrokeBoard$Row" "cells" "[I"] ++ wsX40 ++ wsX50)
def wsX5_set : List Cond := .code yX5_set cX5_set 3 none :: ([.fieldLink RX5 13 "StrokeBoard$Row" "cells" "[I"] ++ wsX50)
def wsX4_layerOf : List Cond := .code yX4_layerOf cX4_layerOf 2 (some .int) :: ([.fieldLink RX4 29 "StrokeBoard$Log" "layers" "LStrokeBoard$Row;", .methodLink RX4 65 yX5_get, .instanceMethod yX5_get, .selects RX5 yX5_get yX5_get, .initialized RX5, .code yX5_get cX5_get 2 (some .int), .fieldLink RX5 13 "StrokeBoard$Row" "cells" "[I"] ++ wsX40 ++ wsX50)
def wsX0_apply_r1 : List Cond := [Cond.fieldLink RX0 14 "StrokeBoard$Board" "undone" "LStrokeBoard$Row;", Cond.fieldLink RX0 20 "StrokeBoard$Board" "layers" "LStrokeBoard$Row;", Cond.methodLink RX0 62 yX4_targetOf, Cond.instanceMethod yX4_targetOf, Cond.selects RX4 yX4_targetOf yX4_targetOf, Cond.initialized RX4, Cond.code yX4_targetOf cX4_targetOf 2 (some .int), Cond.fieldLink RX4 26 "StrokeBoard$Log" "targets" "LStrokeBoard$Row;", Cond.methodLink RX4 65 yX5_get, Cond.instanceMethod yX5_get, Cond.selects RX5 yX5_get yX5_get, Cond.initialized RX5, Cond.code yX5_get cX5_get 2 (some .int), Cond.fieldLink RX5 13 "StrokeBoard$Row" "cells" "[I", Cond.methodLink RX0 65 yX4_kindOf, Cond.instanceMethod yX4_kindOf, Cond.selects RX4 yX4_kindOf yX4_kindOf, Cond.code yX4_kindOf cX4_kindOf 2 (some .int), Cond.fieldLink RX4 20 "StrokeBoard$Log" "kinds" "LStrokeBoard$Row;", Cond.methodLink RX0 68 yX5_set, Cond.instanceMethod yX5_set, Cond.selects RX5 yX5_set yX5_set, Cond.code yX5_set cX5_set 3 none, Cond.methodLink RX0 72 yX4_layerOf]
def wsX0_apply_r2 : List Cond := [Cond.instanceMethod yX4_layerOf, Cond.selects RX4 yX4_layerOf yX4_layerOf, Cond.code yX4_layerOf cX4_layerOf 2 (some .int), Cond.fieldLink RX4 29 "StrokeBoard$Log" "layers" "LStrokeBoard$Row;"]
def wsX0_apply : List Cond := .code yX0_apply cX0_apply 4 none :: ((wsX0_apply_r1 ++ wsX0_apply_r2) ++ wsX00 ++ wsX40 ++ wsX50)
def wsX4_isStroke : List Cond := .code yX4_isStroke cX4_isStroke 2 (some .boolean) :: ([.fieldLink RX4 20 "StrokeBoard$Log" "kinds" "LStrokeBoard$Row;", .methodLink RX4 65 yX5_get, .instanceMethod yX5_get, .selects RX5 yX5_get yX5_get, .initialized RX5, .code yX5_get cX5_get 2 (some .int), .fieldLink RX5 13 "StrokeBoard$Row" "cells" "[I"] ++ wsX40 ++ wsX50)
def wsX0_isUndone : List Cond := .code yX0_isUndone cX0_isUndone 2 (some .boolean) :: ([.fieldLink RX0 14 "StrokeBoard$Board" "undone" "LStrokeBoard$Row;", .methodLink RX0 79 yX5_get, .instanceMethod yX5_get, .selects RX5 yX5_get yX5_get, .initialized RX5, .code yX5_get cX5_get 2 (some .int), .fieldLink RX5 13 "StrokeBoard$Row" "cells" "[I"] ++ wsX00 ++ wsX50)
def wsX0_collect_r1 : List Cond := [Cond.fieldLink RX0 20 "StrokeBoard$Board" "layers" "LStrokeBoard$Row;", Cond.fieldLink RX0 23 "StrokeBoard$Board" "strokes" "LStrokeBoard$Row;", Cond.fieldLink RX0 40 "StrokeBoard$Board" "count" "I", Cond.methodLink RX0 26 yX4_totalCount, Cond.instanceMethod yX4_totalCount, Cond.selects RX4 yX4_totalCount yX4_totalCount, Cond.initialized RX4, Cond.code yX4_totalCount cX4_totalCount 1 (some .int), Cond.fieldLink RX4 45 "StrokeBoard$Log" "total" "I", Cond.methodLink RX0 44 yX4_inOrder, Cond.instanceMethod yX4_inOrder, Cond.selects RX4 yX4_inOrder yX4_inOrder, Cond.code yX4_inOrder cX4_inOrder 2 (some .int), Cond.fieldLink RX4 32 "StrokeBoard$Log" "order" "LStrokeBoard$Row;", Cond.methodLink RX4 65 yX5_get, Cond.instanceMethod yX5_get, Cond.selects RX5 yX5_get yX5_get, Cond.initialized RX5, Cond.code yX5_get cX5_get 2 (some .int), Cond.fieldLink RX5 13 "StrokeBoard$Row" "cells" "[I", Cond.methodLink RX0 75 yX4_isStroke, Cond.instanceMethod yX4_isStroke, Cond.selects RX4 yX4_isStroke yX4_isStroke, Cond.code yX4_isStroke cX4_isStroke 2 (some .boolean)]
def wsX0_collect_r2 : List Cond := [Cond.fieldLink RX4 20 "StrokeBoard$Log" "kinds" "LStrokeBoard$Row;", Cond.methodLink RX0 79 yX5_get, Cond.methodLink RX0 82 yX0_isUndone, Cond.instanceMethod yX0_isUndone, Cond.selects RX0 yX0_isUndone yX0_isUndone, Cond.initialized RX0, Cond.code yX0_isUndone cX0_isUndone 2 (some .boolean), Cond.fieldLink RX0 14 "StrokeBoard$Board" "undone" "LStrokeBoard$Row;", Cond.methodLink RX0 48 yX2_has, Cond.instanceMethod yX2_has, Cond.selects RX2 yX2_has yX2_has, Cond.initialized RX2, Cond.code yX2_has cX2_has 3 (some .boolean), Cond.fieldLink RX2 14 "StrokeBoard$Knowledge" "known" "LStrokeBoard$Row;", Cond.methodLink RX2 31 yX5_get, Cond.methodLink RX0 68 yX5_set, Cond.instanceMethod yX5_set, Cond.selects RX5 yX5_set yX5_set, Cond.code yX5_set cX5_set 3 none]
def wsX0_collect : List Cond := .code yX0_collect cX0_collect 8 none :: ((wsX0_collect_r1 ++ wsX0_collect_r2) ++ wsX00 ++ wsX40 ++ wsX50 ++ wsX20)
def wsX0_show_r1 : List Cond := [Cond.fieldLink RX0 14 "StrokeBoard$Board" "undone" "LStrokeBoard$Row;", Cond.fieldLink RX0 20 "StrokeBoard$Board" "layers" "LStrokeBoard$Row;", Cond.fieldLink RX0 40 "StrokeBoard$Board" "count" "I", Cond.methodLink RX0 26 yX4_totalCount, Cond.instanceMethod yX4_totalCount, Cond.selects RX4 yX4_totalCount yX4_totalCount, Cond.initialized RX4, Cond.code yX4_totalCount cX4_totalCount 1 (some .int), Cond.fieldLink RX4 45 "StrokeBoard$Log" "total" "I", Cond.methodLink RX0 32 yX5_fill, Cond.instanceMethod yX5_fill, Cond.selects RX5 yX5_fill yX5_fill, Cond.initialized RX5, Cond.code yX5_fill cX5_fill 3 none, Cond.fieldLink RX5 13 "StrokeBoard$Row" "cells" "[I", Cond.methodLink RX0 36 yX5_copyFrom, Cond.instanceMethod yX5_copyFrom, Cond.selects RX5 yX5_copyFrom yX5_copyFrom, Cond.code yX5_copyFrom cX5_copyFrom 3 none, Cond.methodLink RX5 19 yX5_get, Cond.instanceMethod yX5_get, Cond.selects RX5 yX5_get yX5_get, Cond.code yX5_get cX5_get 2 (some .int), Cond.methodLink RX0 44 yX4_inOrder]
def wsX0_show_r2 : List Cond := [Cond.instanceMethod yX4_inOrder, Cond.selects RX4 yX4_inOrder yX4_inOrder, Cond.code yX4_inOrder cX4_inOrder 2 (some .int), Cond.fieldLink RX4 32 "StrokeBoard$Log" "order" "LStrokeBoard$Row;", Cond.methodLink RX4 65 yX5_get, Cond.methodLink RX0 48 yX2_has, Cond.instanceMethod yX2_has, Cond.selects RX2 yX2_has yX2_has, Cond.initialized RX2, Cond.code yX2_has cX2_has 3 (some .boolean), Cond.fieldLink RX2 14 "StrokeBoard$Knowledge" "known" "LStrokeBoard$Row;", Cond.methodLink RX2 31 yX5_get, Cond.methodLink RX0 54 yX0_apply, Cond.instanceMethod yX0_apply, Cond.selects RX0 yX0_apply yX0_apply, Cond.initialized RX0, Cond.code yX0_apply cX0_apply 4 none, Cond.methodLink RX0 62 yX4_targetOf, Cond.instanceMethod yX4_targetOf, Cond.selects RX4 yX4_targetOf yX4_targetOf, Cond.code yX4_targetOf cX4_targetOf 2 (some .int), Cond.fieldLink RX4 26 "StrokeBoard$Log" "targets" "LStrokeBoard$Row;", Cond.methodLink RX0 65 yX4_kindOf, Cond.instanceMethod yX4_kindOf]
def wsX0_show_r3 : List Cond := [Cond.selects RX4 yX4_kindOf yX4_kindOf, Cond.code yX4_kindOf cX4_kindOf 2 (some .int), Cond.fieldLink RX4 20 "StrokeBoard$Log" "kinds" "LStrokeBoard$Row;", Cond.methodLink RX0 68 yX5_set, Cond.instanceMethod yX5_set, Cond.selects RX5 yX5_set yX5_set, Cond.code yX5_set cX5_set 3 none, Cond.methodLink RX0 72 yX4_layerOf, Cond.instanceMethod yX4_layerOf, Cond.selects RX4 yX4_layerOf yX4_layerOf, Cond.code yX4_layerOf cX4_layerOf 2 (some .int), Cond.fieldLink RX4 29 "StrokeBoard$Log" "layers" "LStrokeBoard$Row;", Cond.methodLink RX0 58 yX0_collect, Cond.instanceMethod yX0_collect, Cond.selects RX0 yX0_collect yX0_collect, Cond.code yX0_collect cX0_collect 8 none, Cond.fieldLink RX0 23 "StrokeBoard$Board" "strokes" "LStrokeBoard$Row;", Cond.methodLink RX0 75 yX4_isStroke, Cond.instanceMethod yX4_isStroke, Cond.selects RX4 yX4_isStroke yX4_isStroke, Cond.code yX4_isStroke cX4_isStroke 2 (some .boolean), Cond.methodLink RX0 79 yX5_get, Cond.methodLink RX0 82 yX0_isUndone, Cond.instanceMethod yX0_isUndone]
def wsX0_show_r4 : List Cond := [Cond.selects RX0 yX0_isUndone yX0_isUndone, Cond.code yX0_isUndone cX0_isUndone 2 (some .boolean)]
def wsX0_show : List Cond := .code yX0_show cX0_show 7 none :: ((wsX0_show_r1 ++ (wsX0_show_r2 ++ (wsX0_show_r3 ++ wsX0_show_r4))) ++ wsX00 ++ wsX40 ++ wsX50 ++ wsX20)
def wsX0_strokeCount : List Cond := .code yX0_strokeCount cX0_strokeCount 1 (some .int) :: ([.fieldLink RX0 40 "StrokeBoard$Board" "count" "I"] ++ wsX00)
def wsX0_strokeIn : List Cond := .code yX0_strokeIn cX0_strokeIn 2 (some .int) :: ([.fieldLink RX0 23 "StrokeBoard$Board" "strokes" "LStrokeBoard$Row;", .methodLink RX0 79 yX5_get, .instanceMethod yX5_get, .selects RX5 yX5_get yX5_get, .initialized RX5, .code yX5_get cX5_get 2 (some .int), .fieldLink RX5 13 "StrokeBoard$Row" "cells" "[I"] ++ wsX00 ++ wsX50)
def wsX0_layerOf : List Cond := .code yX0_layerOf cX0_layerOf 2 (some .int) :: ([.fieldLink RX0 20 "StrokeBoard$Board" "layers" "LStrokeBoard$Row;", .methodLink RX0 79 yX5_get, .instanceMethod yX5_get, .selects RX5 yX5_get yX5_get, .initialized RX5, .code yX5_get cX5_get 2 (some .int), .fieldLink RX5 13 "StrokeBoard$Row" "cells" "[I"] ++ wsX00 ++ wsX50)
def wsX0_matches : List Cond := .code yX0_matches cX0_matches 4 (some .boolean) :: ([.fieldLink RX0 40 "StrokeBoard$Board" "count" "I", .fieldLink RX0 23 "StrokeBoard$Board" "strokes" "LStrokeBoard$Row;", .fieldLink RX0 20 "StrokeBoard$Board" "layers" "LStrokeBoard$Row;", .methodLink RX0 79 yX5_get, .instanceMethod yX5_get, .selects RX5 yX5_get yX5_get, .initialized RX5, .code yX5_get cX5_get 2 (some .int), .fieldLink RX5 13 "StrokeBoard$Row" "cells" "[I", .methodLink RX0 85 yX0_strokeIn, .instanceMethod yX0_strokeIn, .selects RX0 yX0_strokeIn yX0_strokeIn, .initialized RX0, .code yX0_strokeIn cX0_strokeIn 2 (some .int), .methodLink RX0 88 yX0_layerOf, .instanceMethod yX0_layerOf, .selects RX0 yX0_layerOf yX0_layerOf, .code yX0_layerOf cX0_layerOf 2 (some .int)] ++ wsX00 ++ wsX50)
def wsX6_authorOf : List Cond := .code yX6_authorOf cX6_authorOf 1 (some .int) :: ([])
def wsX6_numberOf : List Cond := .code yX6_numberOf cX6_numberOf 1 (some .int) :: ([])
def wsX1_colorOf : List Cond := .code yX1_colorOf cX1_colorOf 2 (some .int) :: ([.fieldLink RX1 20 "StrokeBoard$Ink" "colors" "LStrokeBoard$Row;", .methodLink RX1 42 yX5_get, .instanceMethod yX5_get, .selects RX5 yX5_get yX5_get, .initialized RX5, .code yX5_get cX5_get 2 (some .int), .fieldLink RX5 13 "StrokeBoard$Row" "cells" "[I"] ++ wsX10 ++ wsX50)
def wsX1_pointCount : List Cond := .code yX1_pointCount cX1_pointCount 2 (some .int) :: ([.fieldLink RX1 14 "StrokeBoard$Ink" "counts" "LStrokeBoard$Row;", .methodLink RX1 42 yX5_get, .instanceMethod yX5_get, .selects RX5 yX5_get yX5_get, .initialized RX5, .code yX5_get cX5_get 2 (some .int), .fieldLink RX5 13 "StrokeBoard$Row" "cells" "[I"] ++ wsX10 ++ wsX50)
def wsX1_xOf : List Cond := .code yX1_xOf cX1_xOf 3 (some .int) :: ([.fieldLink RX1 26 "StrokeBoard$Ink" "xs" "LStrokeBoard$Row;", .methodLink RX1 42 yX5_get, .instanceMethod yX5_get, .selects RX5 yX5_get yX5_get, .initialized RX5, .code yX5_get cX5_get 2 (some .int), .fieldLink RX5 13 "StrokeBoard$Row" "cells" "[I"] ++ wsX10 ++ wsX50)
def wsX1_yOf : List Cond := .code yX1_yOf cX1_yOf 3 (some .int) :: ([.fieldLink RX1 29 "StrokeBoard$Ink" "ys" "LStrokeBoard$Row;", .methodLink RX1 42 yX5_get, .instanceMethod yX5_get, .selects RX5 yX5_get yX5_get, .initialized RX5, .code yX5_get cX5_get 2 (some .int), .fieldLink RX5 13 "StrokeBoard$Row" "cells" "[I"] ++ wsX10 ++ wsX50)
def wsX0_hashPoints : List Cond := .code yX0_hashPoints cX0_hashPoints 6 (some .int) :: ([.methodLink RX0 108 yX1_pointCount, .instanceMethod yX1_pointCount, .selects RX1 yX1_pointCount yX1_pointCount, .initialized RX1, .code yX1_pointCount cX1_pointCount 2 (some .int), .fieldLink RX1 14 "StrokeBoard$Ink" "counts" "LStrokeBoard$Row;", .methodLink RX1 42 yX5_get, .instanceMethod yX5_get, .selects RX5 yX5_get yX5_get, .initialized RX5, .code yX5_get cX5_get 2 (some .int), .fieldLink RX5 13 "StrokeBoard$Row" "cells" "[I", .methodLink RX0 111 yX1_xOf, .instanceMethod yX1_xOf, .selects RX1 yX1_xOf yX1_xOf, .code yX1_xOf cX1_xOf 3 (some .int), .fieldLink RX1 26 "StrokeBoard$Ink" "xs" "LStrokeBoard$Row;", .methodLink RX0 115 yX1_yOf, .instanceMethod yX1_yOf, .selects RX1 yX1_yOf yX1_yOf, .code yX1_yOf cX1_yOf 3 (some .int), .fieldLink RX1 29 "StrokeBoard$Ink" "ys" "LStrokeBoard$Row;"] ++ wsX10 ++ wsX50)
def wsX0_hash_r1 : List Cond := [Cond.fieldLink RX0 40 "StrokeBoard$Board" "count" "I", Cond.fieldLink RX0 23 "StrokeBoard$Board" "strokes" "LStrokeBoard$Row;", Cond.fieldLink RX0 20 "StrokeBoard$Board" "layers" "LStrokeBoard$Row;", Cond.methodLink RX0 79 yX5_get, Cond.instanceMethod yX5_get, Cond.selects RX5 yX5_get yX5_get, Cond.initialized RX5, Cond.code yX5_get cX5_get 2 (some .int), Cond.fieldLink RX5 13 "StrokeBoard$Row" "cells" "[I", Cond.static yX6_authorOf, Cond.initialized RX6, Cond.code yX6_authorOf cX6_authorOf 1 (some .int), Cond.static yX6_numberOf, Cond.code yX6_numberOf cX6_numberOf 1 (some .int), Cond.methodLink RX0 99 yX1_colorOf, Cond.instanceMethod yX1_colorOf, Cond.selects RX1 yX1_colorOf yX1_colorOf, Cond.initialized RX1, Cond.code yX1_colorOf cX1_colorOf 2 (some .int), Cond.fieldLink RX1 20 "StrokeBoard$Ink" "colors" "LStrokeBoard$Row;", Cond.methodLink RX1 42 yX5_get, Cond.methodLink RX0 104 yX0_hashPoints, Cond.instanceMethod yX0_hashPoints, Cond.selects RX0 yX0_hashPoints yX0_hashPoints]
def wsX0_hash_r2 : List Cond := [Cond.initialized RX0, Cond.code yX0_hashPoints cX0_hashPoints 6 (some .int), Cond.methodLink RX0 108 yX1_pointCount, Cond.instanceMethod yX1_pointCount, Cond.selects RX1 yX1_pointCount yX1_pointCount, Cond.code yX1_pointCount cX1_pointCount 2 (some .int), Cond.fieldLink RX1 14 "StrokeBoard$Ink" "counts" "LStrokeBoard$Row;", Cond.methodLink RX0 111 yX1_xOf, Cond.instanceMethod yX1_xOf, Cond.selects RX1 yX1_xOf yX1_xOf, Cond.code yX1_xOf cX1_xOf 3 (some .int), Cond.fieldLink RX1 26 "StrokeBoard$Ink" "xs" "LStrokeBoard$Row;", Cond.methodLink RX0 115 yX1_yOf, Cond.instanceMethod yX1_yOf, Cond.selects RX1 yX1_yOf yX1_yOf, Cond.code yX1_yOf cX1_yOf 3 (some .int), Cond.fieldLink RX1 29 "StrokeBoard$Ink" "ys" "LStrokeBoard$Row;"]
def wsX0_hash : List Cond := .code yX0_hash cX0_hash 5 (some .int) :: ((wsX0_hash_r1 ++ wsX0_hash_r2) ++ wsX00 ++ wsX40 ++ wsX50 ++ wsX10)
def wsX1_init : List Cond := .code yX1_init cX1_init 2 none :: ([.methodLink RX1 3 objectInit, .instanceMethod objectInit, .code objectInit ⟨#[0xb1]⟩ 1 none, .classLink RX1 9 RX5, .instantiable RX5 1, .initialized RX5, .fieldLink RX1 14 "StrokeBoard$Ink" "counts" "LStrokeBoard$Row;", .fieldLink RX1 20 "StrokeBoard$Ink" "colors" "LStrokeBoard$Row;", .fieldLink RX1 23 "StrokeBoard$Ink" "layers" "LStrokeBoard$Row;", .fieldLink RX1 26 "StrokeBoard$Ink" "xs" "LStrokeBoard$Row;", .fieldLink RX1 29 "StrokeBoard$Ink" "ys" "LStrokeBoard$Row;", .methodLink RX1 11 yX5_init, .instanceMethod yX5_init, .code yX5_init cX5_init 2 none, .methodLink RX5 1 objectInit, .methodLink RX5 7 Lib.Math.max.name, .static Lib.Math.max.name, .initialized "java/lang/Math", .code Lib.Math.max.name Lib.Math.max.code 2 (some .int), .arrayClass .int, .fieldLink RX5 13 "StrokeBoard$Row" "cells" "[I"] ++ wsX50 ++ wsX10)
def wsX1_clear : List Cond := .code yX1_clear cX1_clear 1 none :: ([.fieldLink RX1 14 "StrokeBoard$Ink" "counts" "LStrokeBoard$Row;", .methodLink RX1 32 yX5_fill, .instanceMethod yX5_fill, .selects RX5 yX5_fill yX5_fill, .initialized RX5, .code yX5_fill cX5_fill 3 none, .fieldLink RX5 13 "StrokeBoard$Row" "cells" "[I"] ++ wsX10 ++ wsX50)
def wsX1_empty : List Cond := .code yX1_empty cX1_empty 2 none :: ([.fieldLink RX1 14 "StrokeBoard$Ink" "counts" "LStrokeBoard$Row;", .methodLink RX1 35 yX5_set, .instanceMethod yX5_set, .selects RX5 yX5_set yX5_set, .initialized RX5, .code yX5_set cX5_set 3 none, .fieldLink RX5 13 "StrokeBoard$Row" "cells" "[I"] ++ wsX10 ++ wsX50)
def wsX1_start : List Cond := .code yX1_start cX1_start 4 none :: ([.fieldLink RX1 20 "StrokeBoard$Ink" "colors" "LStrokeBoard$Row;", .fieldLink RX1 23 "StrokeBoard$Ink" "layers" "LStrokeBoard$Row;", .methodLink RX1 39 yX1_empty, .instanceMethod yX1_empty, .selects RX1 yX1_empty yX1_empty, .initialized RX1, .code yX1_empty cX1_empty 2 none, .fieldLink RX1 14 "StrokeBoard$Ink" "counts" "LStrokeBoard$Row;", .methodLink RX1 35 yX5_set, .instanceMethod yX5_set, .selects RX5 yX5_set yX5_set, .initialized RX5, .code yX5_set cX5_set 3 none, .fieldLink RX5 13 "StrokeBoard$Row" "cells" "[I"] ++ wsX10 ++ wsX50)
def wsX1_addPoint : List Cond := .code yX1_addPoint cX1_addPoint 5 none :: ([.fieldLink RX1 14 "StrokeBoard$Ink" "counts" "LStrokeBoard$Row;", .fieldLink RX1 26 "StrokeBoard$Ink" "xs" "LStrokeBoard$Row;", .fieldLink RX1 29 "StrokeBoard$Ink" "ys" "LStrokeBoard$Row;", .methodLink RX1 42 yX5_get, .instanceMethod yX5_get, .selects RX5 yX5_get yX5_get, .initialized RX5, .code yX5_get cX5_get 2 (some .int), .fieldLink RX5 13 "StrokeBoard$Row" "cells" "[I", .methodLink RX1 35 yX5_set, .instanceMethod yX5_set, .selects RX5 yX5_set yX5_set, .code yX5_set cX5_set 3 none] ++ wsX10 ++ wsX50)
def wsX1_layerOf : List Cond := .code yX1_layerOf cX1_layerOf 2 (some .int) :: ([.fieldLink RX1 23 "StrokeBoard$Ink" "layers" "LStrokeBoard$Row;", .methodLink RX1 42 yX5_get, .instanceMethod yX5_get, .selects RX5 yX5_get yX5_get, .initialized RX5, .code yX5_get cX5_get 2 (some .int), .fieldLink RX5 13 "StrokeBoard$Row" "cells" "[I"] ++ wsX10 ++ wsX50)
def wsX1_copyFrom_r1 : List Cond := [Cond.methodLink RX1 46 yX1_pointCount, Cond.instanceMethod yX1_pointCount, Cond.selects RX1 yX1_pointCount yX1_pointCount, Cond.initialized RX1, Cond.code yX1_pointCount cX1_pointCount 2 (some .int), Cond.fieldLink RX1 14 "StrokeBoard$Ink" "counts" "LStrokeBoard$Row;", Cond.methodLink RX1 42 yX5_get, Cond.instanceMethod yX5_get, Cond.selects RX5 yX5_get yX5_get, Cond.initialized RX5, Cond.code yX5_get cX5_get 2 (some .int), Cond.fieldLink RX5 13 "StrokeBoard$Row" "cells" "[I", Cond.methodLink RX1 49 yX1_colorOf, Cond.instanceMethod yX1_colorOf, Cond.selects RX1 yX1_colorOf yX1_colorOf, Cond.code yX1_colorOf cX1_colorOf 2 (some .int), Cond.fieldLink RX1 20 "StrokeBoard$Ink" "colors" "LStrokeBoard$Row;", Cond.methodLink RX1 52 yX1_layerOf, Cond.instanceMethod yX1_layerOf, Cond.selects RX1 yX1_layerOf yX1_layerOf, Cond.code yX1_layerOf cX1_layerOf 2 (some .int), Cond.fieldLink RX1 23 "StrokeBoard$Ink" "layers" "LStrokeBoard$Row;", Cond.methodLink RX1 55 yX1_start, Cond.instanceMethod yX1_start]
def wsX1_copyFrom_r2 : List Cond := [Cond.selects RX1 yX1_start yX1_start, Cond.code yX1_start cX1_start 4 none, Cond.methodLink RX1 39 yX1_empty, Cond.instanceMethod yX1_empty, Cond.selects RX1 yX1_empty yX1_empty, Cond.code yX1_empty cX1_empty 2 none, Cond.methodLink RX1 35 yX5_set, Cond.instanceMethod yX5_set, Cond.selects RX5 yX5_set yX5_set, Cond.code yX5_set cX5_set 3 none, Cond.methodLink RX1 59 yX1_xOf, Cond.instanceMethod yX1_xOf, Cond.selects RX1 yX1_xOf yX1_xOf, Cond.code yX1_xOf cX1_xOf 3 (some .int), Cond.fieldLink RX1 26 "StrokeBoard$Ink" "xs" "LStrokeBoard$Row;", Cond.methodLink RX1 63 yX1_yOf, Cond.instanceMethod yX1_yOf, Cond.selects RX1 yX1_yOf yX1_yOf, Cond.code yX1_yOf cX1_yOf 3 (some .int), Cond.fieldLink RX1 29 "StrokeBoard$Ink" "ys" "LStrokeBoard$Row;", Cond.methodLink RX1 66 yX1_addPoint, Cond.instanceMethod yX1_addPoint, Cond.selects RX1 yX1_addPoint yX1_addPoint, Cond.code yX1_addPoint cX1_addPoint 5 none]
def wsX1_copyFrom : List Cond := .code yX1_copyFrom cX1_copyFrom 6 none :: ((wsX1_copyFrom_r1 ++ wsX1_copyFrom_r2) ++ wsX10 ++ wsX50)
def wsX1_hasPoint : List Cond := .code yX1_hasPoint cX1_hasPoint 5 (some .boolean) :: ([.fieldLink RX1 14 "StrokeBoard$Ink" "counts" "LStrokeBoard$Row;", .methodLink RX1 42 yX5_get, .instanceMethod yX5_get, .selects RX5 yX5_get yX5_get, .initialized RX5, .code yX5_get cX5_get 2 (some .int), .fieldLink RX5 13 "StrokeBoard$Row" "cells" "[I", .methodLink RX1 59 yX1_xOf, .instanceMethod yX1_xOf, .selects RX1 yX1_xOf yX1_xOf, .initialized RX1, .code yX1_xOf cX1_xOf 3 (some .int), .fieldLink RX1 26 "StrokeBoard$Ink" "xs" "LStrokeBoard$Row;", .methodLink RX1 63 yX1_yOf, .instanceMethod yX1_yOf, .selects RX1 yX1_yOf yX1_yOf, .code yX1_yOf cX1_yOf 3 (some .int), .fieldLink RX1 29 "StrokeBoard$Ink" "ys" "LStrokeBoard$Row;"] ++ wsX10 ++ wsX50)
def wsX6_isWithin : List Cond := .code yX6_isWithin cX6_isWithin 3 (some .boolean) :: ([])
def wsX1_sizeOf : List Cond := .code yX1_sizeOf cX1_sizeOf 5 (some .int) :: ([.fieldLink RX1 14 "StrokeBoard$Ink" "counts" "LStrokeBoard$Row;", .methodLink RX1 42 yX5_get, .instanceMethod yX5_get, .selects RX5 yX5_get yX5_get, .initialized RX5, .code yX5_get cX5_get 2 (some .int), .fieldLink RX5 13 "StrokeBoard$Row" "cells" "[I", .methodLink RX1 59 yX1_xOf, .instanceMethod yX1_xOf, .selects RX1 yX1_xOf yX1_xOf, .initialized RX1, .code yX1_xOf cX1_xOf 3 (some .int), .fieldLink RX1 26 "StrokeBoard$Ink" "xs" "LStrokeBoard$Row;", .static yX6_isWithin, .initialized RX6, .code yX6_isWithin cX6_isWithin 3 (some .boolean), .methodLink RX1 63 yX1_yOf, .instanceMethod yX1_yOf, .selects RX1 yX1_yOf yX1_yOf, .code yX1_yOf cX1_yOf 3 (some .int), .fieldLink RX1 29 "StrokeBoard$Ink" "ys" "LStrokeBoard$Row;"] ++ wsX10 ++ wsX50)
def wsX2_init : List Cond := .code yX2_init cX2_init 1 none :: ([.methodLink RX2 3 objectInit, .instanceMethod objectInit, .code objectInit ⟨#[0xb1]⟩ 1 none, .classLink RX2 9 RX5, .instantiable RX5 1, .initialized RX5, .fieldLink RX2 14 "StrokeBoard$Knowledge" "known" "LStrokeBoard$Row;", .methodLink RX2 11 yX5_init, .instanceMethod yX5_init, .code yX5_init cX5_init 2 none, .methodLink RX5 1 objectInit, .methodLink RX5 7 Lib.Math.max.name, .static Lib.Math.max.name, .initialized "java/lang/Math", .code Lib.Math.max.name Lib.Math.max.code 2 (some .int), .arrayClass .int, .fieldLink RX5 13 "StrokeBoard$Row" "cells" "[I"] ++ wsX50 ++ wsX20)
def wsX2_clear : List Cond := .code yX2_clear cX2_clear 1 none :: ([.fieldLink RX2 14 "StrokeBoard$Knowledge" "known" "LStrokeBoard$Row;", .methodLink RX2 20 yX5_fill, .instanceMethod yX5_fill, .selects RX5 yX5_fill yX5_fill, .initialized RX5, .code yX5_fill cX5_fill 3 none, .fieldLink RX5 13 "StrokeBoard$Row" "cells" "[I"] ++ wsX20 ++ wsX50)
def wsX2_copyFrom : List Cond := .code yX2_copyFrom cX2_copyFrom 2 none :: ([.fieldLink RX2 14 "StrokeBoard$Knowledge" "known" "LStrokeBoard$Row;", .methodLink RX2 23 yX5_copyFrom, .instanceMethod yX5_copyFrom, .selects RX5 yX5_copyFrom yX5_copyFrom, .initialized RX5, .code yX5_copyFrom cX5_copyFrom 3 none, .fieldLink RX5 13 "StrokeBoard$Row" "cells" "[I", .methodLink RX5 19 yX5_get, .instanceMethod yX5_get, .selects RX5 yX5_get yX5_get, .code yX5_get cX5_get 2 (some .int)] ++ wsX20 ++ wsX50)
def wsX2_learn : List Cond := .code yX2_learn cX2_learn 3 none :: ([.fieldLink RX2 14 "StrokeBoard$Knowledge" "known" "LStrokeBoard$Row;", .methodLink RX2 27 yX5_set, .instanceMethod yX5_set, .selects RX5 yX5_set yX5_set, .initialized RX5, .code yX5_set cX5_set 3 none, .fieldLink RX5 13 "StrokeBoard$Row" "cells" "[I"] ++ wsX20 ++ wsX50)
def wsX2_countOf : List Cond := .code yX2_countOf cX2_countOf 4 (some .int) :: ([.methodLink RX2 35 yX2_has, .instanceMethod yX2_has, .selects RX2 yX2_has yX2_has, .initialized RX2, .code yX2_has cX2_has 3 (some .boolean), .fieldLink RX2 14 "StrokeBoard$Knowledge" "known" "LStrokeBoard$Row;", .methodLink RX2 31 yX5_get, .instanceMethod yX5_get, .selects RX5 yX5_get yX5_get, .initialized RX5, .code yX5_get cX5_get 2 (some .int), .fieldLink RX5 13 "StrokeBoard$Row" "cells" "[I"] ++ wsX20 ++ wsX50)
def wsX6_idOf : List Cond := .code yX6_idOf cX6_idOf 2 (some .int) :: ([])
def wsX2_hasLaterOfAuthor : List Cond := .code yX2_hasLaterOfAuthor cX2_hasLaterOfAuthor 5 (some .boolean) :: ([.static yX6_authorOf, .initialized RX6, .code yX6_authorOf cX6_authorOf 1 (some .int), .static yX6_numberOf, .code yX6_numberOf cX6_numberOf 1 (some .int), .static yX6_idOf, .code yX6_idOf cX6_idOf 2 (some .int), .methodLink RX2 35 yX2_has, .instanceMethod yX2_has, .selects RX2 yX2_has yX2_has, .initialized RX2, .code yX2_has cX2_has 3 (some .boolean), .fieldLink RX2 14 "StrokeBoard$Knowledge" "known" "LStrokeBoard$Row;", .methodLink RX2 31 yX5_get, .instanceMethod yX5_get, .selects RX5 yX5_get yX5_get, .initialized RX5, .code yX5_get cX5_get 2 (some .int), .fieldLink RX5 13 "StrokeBoard$Row" "cells" "[I"] ++ wsX20 ++ wsX50)
def wsX2_isInGap : List Cond := .code yX2_isInGap cX2_isInGap 3 (some .boolean) :: ([.methodLink RX2 35 yX2_has, .instanceMethod yX2_has, .selects RX2 yX2_has yX2_has, .initialized RX2, .code yX2_has cX2_has 3 (some .boolean), .fieldLink RX2 14 "StrokeBoard$Knowledge" "known" "LStrokeBoard$Row;", .methodLink RX2 31 yX5_get, .instanceMethod yX5_get, .selects RX5 yX5_get yX5_get, .initialized RX5, .code yX5_get cX5_get 2 (some .int), .fieldLink RX5 13 "StrokeBoard$Row" "cells" "[I", .methodLink RX2 39 yX2_hasLaterOfAuthor, .instanceMethod yX2_hasLaterOfAuthor, .selects RX2 yX2_hasLaterOfAuthor yX2_hasLaterOfAuthor, .code yX2_hasLaterOfAuthor cX2_hasLaterOfAuthor 5 (some .boolean), .static yX6_authorOf, .initialized RX6, .code yX6_authorOf cX6_authorOf 1 (some .int), .static yX6_numberOf, .code yX6_numberOf cX6_numberOf 1 (some .int), .static yX6_idOf, .code yX6_idOf cX6_idOf 2 (some .int)] ++ wsX20 ++ wsX50)
def wsX3_init : List Cond := .code yX3_init cX3_init 1 none :: ([.methodLink RX3 3 objectInit, .instanceMethod objectInit, .code objectInit ⟨#[0xb1]⟩ 1 none, .classLink RX3 9 RX5, .instantiable RX5 1, .initialized RX5, .fieldLink RX3 14 "StrokeBoard$Links" "counts" "LStrokeBoard$Row;", .fieldLink RX3 20 "StrokeBoard$Links" "messages" "LStrokeBoard$Row;", .methodLink RX3 11 yX5_init, .instanceMethod yX5_init, .code yX5_init cX5_init 2 none, .methodLink RX5 1 objectInit, .methodLink RX5 7 Lib.Math.max.name, .static Lib.Math.max.name, .initialized "java/lang/Math", .code Lib.Math.max.name Lib.Math.max.code 2 (some .int), .arrayClass .int, .fieldLink RX5 13 "StrokeBoard$Row" "cells" "[I"] ++ wsX50 ++ wsX30)
def wsX3_clear : List Cond := .code yX3_clear cX3_clear 1 none :: ([.fieldLink RX3 14 "StrokeBoard$Links" "counts" "LStrokeBoard$Row;", .methodLink RX3 23 yX5_fill, .instanceMethod yX5_fill, .selects RX5 yX5_fill yX5_fill, .initialized RX5, .code yX5_fill cX5_fill 3 none, .fieldLink RX5 13 "StrokeBoard$Row" "cells" "[I"] ++ wsX30 ++ wsX50)
def wsX3_send : List Cond := .code yX3_send cX3_send 6 none :: ([.fieldLink RX3 14 "StrokeBoard$Links" "counts" "LStrokeBoard$Row;", .fieldLink RX3 20 "StrokeBoard$Links" "messages" "LStrokeBoard$Row;", .methodLink RX3 26 yX5_get, .instanceMethod yX5_get, .selects RX5 yX5_get yX5_get, .initialized RX5, .code yX5_get cX5_get 2 (some .int), .fieldLink RX5 13 "StrokeBoard$Row" "cells" "[I", .methodLink RX3 30 yX5_set, .instanceMethod yX5_set, .selects RX5 yX5_set yX5_set, .code yX5_set cX5_set 3 none] ++ wsX30 ++ wsX50)
def wsX3_countIn : List Cond := .code yX3_countIn cX3_countIn 3 (some .int) :: ([.fieldLink RX3 14 "StrokeBoard$Links" "counts" "LStrokeBoard$Row;", .methodLink RX3 26 yX5_get, .instanceMethod yX5_get, .selects RX5 yX5_get yX5_get, .initialized RX5, .code yX5_get cX5_get 2 (some .int), .fieldLink RX5 13 "StrokeBoard$Row" "cells" "[I"] ++ wsX30 ++ wsX50)
def wsX3_messageIn : List Cond := .code yX3_messageIn cX3_messageIn 4 (some .int) :: ([.fieldLink RX3 20 "StrokeBoard$Links" "messages" "LStrokeBoard$Row;", .methodLink RX3 26 yX5_get, .instanceMethod yX5_get, .selects RX5 yX5_get yX5_get, .initialized RX5, .code yX5_get cX5_get 2 (some .int), .fieldLink RX5 13 "StrokeBoard$Row" "cells" "[I"] ++ wsX30 ++ wsX50)
def wsX3_dropFirst : List Cond := .code yX3_dropFirst cX3_dropFirst 7 none :: ([.fieldLink RX3 14 "StrokeBoard$Links" "counts" "LStrokeBoard$Row;", .fieldLink RX3 20 "StrokeBoard$Links" "messages" "LStrokeBoard$Row;", .methodLink RX3 34 Lib.Math.max.name, .static Lib.Math.max.name, .initialized "java/lang/Math", .code Lib.Math.max.name Lib.Math.max.code 2 (some .int), .methodLink RX3 26 yX5_get, .instanceMethod yX5_get, .selects RX5 yX5_get yX5_get, .initialized RX5, .code yX5_get cX5_get 2 (some .int), .fieldLink RX5 13 "StrokeBoard$Row" "cells" "[I", .methodLink RX3 30 yX5_set, .instanceMethod yX5_set, .selects RX5 yX5_set yX5_set, .code yX5_set cX5_set 3 none] ++ wsX30 ++ wsX50)
def wsX3_carry : List Cond := .code yX3_carry cX3_carry 4 (some .boolean) :: ([.fieldLink RX3 14 "StrokeBoard$Links" "counts" "LStrokeBoard$Row;", .fieldLink RX3 20 "StrokeBoard$Links" "messages" "LStrokeBoard$Row;", .methodLink RX3 26 yX5_get, .instanceMethod yX5_get, .selects RX5 yX5_get yX5_get, .initialized RX5, .code yX5_get cX5_get 2 (some .int), .fieldLink RX5 13 "StrokeBoard$Row" "cells" "[I"] ++ wsX30 ++ wsX50)
def wsX4_init_r1 : List Cond := [Cond.methodLink RX4 3 objectInit, Cond.instanceMethod objectInit, Cond.code objectInit ⟨#[0xb1]⟩ 1 none, Cond.classLink RX4 9 RX5, Cond.instantiable RX5 1, Cond.initialized RX5, Cond.fieldLink RX4 14 "StrokeBoard$Log" "made" "LStrokeBoard$Row;", Cond.fieldLink RX4 20 "StrokeBoard$Log" "kinds" "LStrokeBoard$Row;", Cond.fieldLink RX4 23 "StrokeBoard$Log" "times" "LStrokeBoard$Row;", Cond.fieldLink RX4 26 "StrokeBoard$Log" "targets" "LStrokeBoard$Row;", Cond.fieldLink RX4 29 "StrokeBoard$Log" "layers" "LStrokeBoard$Row;", Cond.fieldLink RX4 32 "StrokeBoard$Log" "order" "LStrokeBoard$Row;", Cond.classLink RX4 35 RX1, Cond.instantiable RX1 5, Cond.initialized RX1, Cond.fieldLink RX4 38 "StrokeBoard$Log" "ink" "LStrokeBoard$Ink;", Cond.methodLink RX4 11 yX5_init, Cond.instanceMethod yX5_init, Cond.code yX5_init cX5_init 2 none, Cond.methodLink RX5 1 objectInit, Cond.methodLink RX5 7 Lib.Math.max.name, Cond.static Lib.Math.max.name, Cond.initialized "java/lang/Math", Cond.code Lib.Math.max.name Lib.Math.max.code 2 (some .int)]
def wsX4_init_r2 : List Cond := [Cond.arrayClass .int, Cond.fieldLink RX5 13 "StrokeBoard$Row" "cells" "[I", Cond.methodLink RX4 37 yX1_init, Cond.instanceMethod yX1_init, Cond.code yX1_init cX1_init 2 none, Cond.methodLink RX1 3 objectInit, Cond.classLink RX1 9 RX5, Cond.fieldLink RX1 14 "StrokeBoard$Ink" "counts" "LStrokeBoard$Row;", Cond.fieldLink RX1 20 "StrokeBoard$Ink" "colors" "LStrokeBoard$Row;", Cond.fieldLink RX1 23 "StrokeBoard$Ink" "layers" "LStrokeBoard$Row;", Cond.fieldLink RX1 26 "StrokeBoard$Ink" "xs" "LStrokeBoard$Row;", Cond.fieldLink RX1 29 "StrokeBoard$Ink" "ys" "LStrokeBoard$Row;", Cond.methodLink RX1 11 yX5_init]
def wsX4_init : List Cond := .code yX4_init cX4_init 1 none :: ((wsX4_init_r1 ++ wsX4_init_r2) ++ wsX50 ++ wsX40 ++ wsX10)
def wsX4_clear : List Cond := .code yX4_clear cX4_clear 1 none :: ([.fieldLink RX4 14 "StrokeBoard$Log" "made" "LStrokeBoard$Row;", .fieldLink RX4 45 "StrokeBoard$Log" "total" "I", .methodLink RX4 42 yX5_fill, .instanceMethod yX5_fill, .selects RX5 yX5_fill yX5_fill, .initialized RX5, .code yX5_fill cX5_fill 3 none, .fieldLink RX5 13 "StrokeBoard$Row" "cells" "[I"] ++ wsX40 ++ wsX50)
def wsJ6_compare_7cf53 : List Cond := .code yJ6_compare_7cf53 cJ6_compare_7cf53 2 (some .int) :: ([])
def wsX4_comesAfter : List Cond := .code yX4_comesAfter cX4_comesAfter 4 (some .boolean) :: ([.fieldLink RX4 23 "StrokeBoard$Log" "times" "LStrokeBoard$Row;", .methodLink RX4 65 yX5_get, .instanceMethod yX5_get, .selects RX5 yX5_get yX5_get, .initialized RX5, .code yX5_get cX5_get 2 (some .int), .fieldLink RX5 13 "StrokeBoard$Row" "cells" "[I", .methodLink RX4 79 yJ6_compare_7cf53, .static yJ6_compare_7cf53, .initialized RJ6, .code yJ6_compare_7cf53 cJ6_compare_7cf53 2 (some .int), .static yX6_authorOf, .initialized RX6, .code yX6_authorOf cX6_authorOf 1 (some .int)] ++ wsX40 ++ wsX50)
def wsX4_insert_r1 : List Cond := [Cond.fieldLink RX4 45 "StrokeBoard$Log" "total" "I", Cond.fieldLink RX4 32 "StrokeBoard$Log" "order" "LStrokeBoard$Row;", Cond.methodLink RX4 65 yX5_get, Cond.instanceMethod yX5_get, Cond.selects RX5 yX5_get yX5_get, Cond.initialized RX5, Cond.code yX5_get cX5_get 2 (some .int), Cond.fieldLink RX5 13 "StrokeBoard$Row" "cells" "[I", Cond.methodLink RX4 75 yX4_comesAfter, Cond.instanceMethod yX4_comesAfter, Cond.selects RX4 yX4_comesAfter yX4_comesAfter, Cond.initialized RX4, Cond.code yX4_comesAfter cX4_comesAfter 4 (some .boolean), Cond.fieldLink RX4 23 "StrokeBoard$Log" "times" "LStrokeBoard$Row;", Cond.methodLink RX4 79 yJ6_compare_7cf53, Cond.static yJ6_compare_7cf53, Cond.initialized RJ6, Cond.code yJ6_compare_7cf53 cJ6_compare_7cf53 2 (some .int), Cond.static yX6_authorOf, Cond.initialized RX6, Cond.code yX6_authorOf cX6_authorOf 1 (some .int), Cond.methodLink RX4 61 yX5_set, Cond.instanceMethod yX5_set, Cond.selects RX5 yX5_set yX5_set]
def wsX4_insert_r2 : List Cond := [Cond.code yX5_set cX5_set 3 none]
def wsX4_insert : List Cond := .code yX4_insert cX4_insert 3 none :: ((wsX4_insert_r1 ++ wsX4_insert_r2) ++ wsX40 ++ wsX50)
def wsX4_addOperation_r1 : List Cond := [Cond.fieldLink RX4 14 "StrokeBoard$Log" "made" "LStrokeBoard$Row;", Cond.fieldLink RX4 23 "StrokeBoard$Log" "times" "LStrokeBoard$Row;", Cond.fieldLink RX4 20 "StrokeBoard$Log" "kinds" "LStrokeBoard$Row;", Cond.methodLink RX4 65 yX5_get, Cond.instanceMethod yX5_get, Cond.selects RX5 yX5_get yX5_get, Cond.initialized RX5, Cond.code yX5_get cX5_get 2 (some .int), Cond.fieldLink RX5 13 "StrokeBoard$Row" "cells" "[I", Cond.static yX6_idOf, Cond.initialized RX6, Cond.code yX6_idOf cX6_idOf 2 (some .int), Cond.methodLink RX4 61 yX5_set, Cond.instanceMethod yX5_set, Cond.selects RX5 yX5_set yX5_set, Cond.code yX5_set cX5_set 3 none, Cond.methodLink RX4 72 yX4_insert, Cond.instanceMethod yX4_insert, Cond.selects RX4 yX4_insert yX4_insert, Cond.initialized RX4, Cond.code yX4_insert cX4_insert 3 none, Cond.fieldLink RX4 45 "StrokeBoard$Log" "total" "I", Cond.fieldLink RX4 32 "StrokeBoard$Log" "order" "LStrokeBoard$Row;", Cond.methodLink RX4 75 yX4_comesAfter]
def wsX4_addOperation_r2 : List Cond := [Cond.instanceMethod yX4_comesAfter, Cond.selects RX4 yX4_comesAfter yX4_comesAfter, Cond.code yX4_comesAfter cX4_comesAfter 4 (some .boolean), Cond.methodLink RX4 79 yJ6_compare_7cf53, Cond.static yJ6_compare_7cf53, Cond.initialized RJ6, Cond.code yJ6_compare_7cf53 cJ6_compare_7cf53 2 (some .int), Cond.static yX6_authorOf, Cond.code yX6_authorOf cX6_authorOf 1 (some .int)]
def wsX4_addOperation : List Cond := .code yX4_addOperation cX4_addOperation 6 (some .int) :: ((wsX4_addOperation_r1 ++ wsX4_addOperation_r2) ++ wsX40 ++ wsX50)
def wsX4_addStroke_r1 : List Cond := [Cond.fieldLink RX4 38 "StrokeBoard$Log" "ink" "LStrokeBoard$Ink;", Cond.fieldLink RX4 29 "StrokeBoard$Log" "layers" "LStrokeBoard$Row;", Cond.methodLink RX4 49 yX4_addOperation, Cond.instanceMethod yX4_addOperation, Cond.selects RX4 yX4_addOperation yX4_addOperation, Cond.initialized RX4, Cond.code yX4_addOperation cX4_addOperation 6 (some .int), Cond.fieldLink RX4 14 "StrokeBoard$Log" "made" "LStrokeBoard$Row;", Cond.fieldLink RX4 23 "StrokeBoard$Log" "times" "LStrokeBoard$Row;", Cond.fieldLink RX4 20 "StrokeBoard$Log" "kinds" "LStrokeBoard$Row;", Cond.methodLink RX4 65 yX5_get, Cond.instanceMethod yX5_get, Cond.selects RX5 yX5_get yX5_get, Cond.initialized RX5, Cond.code yX5_get cX5_get 2 (some .int), Cond.fieldLink RX5 13 "StrokeBoard$Row" "cells" "[I", Cond.static yX6_idOf, Cond.initialized RX6, Cond.code yX6_idOf cX6_idOf 2 (some .int), Cond.methodLink RX4 61 yX5_set, Cond.instanceMethod yX5_set, Cond.selects RX5 yX5_set yX5_set, Cond.code yX5_set cX5_set 3 none, Cond.methodLink RX4 72 yX4_insert]
def wsX4_addStroke_r2 : List Cond := [Cond.instanceMethod yX4_insert, Cond.selects RX4 yX4_insert yX4_insert, Cond.code yX4_insert cX4_insert 3 none, Cond.fieldLink RX4 45 "StrokeBoard$Log" "total" "I", Cond.fieldLink RX4 32 "StrokeBoard$Log" "order" "LStrokeBoard$Row;", Cond.methodLink RX4 75 yX4_comesAfter, Cond.instanceMethod yX4_comesAfter, Cond.selects RX4 yX4_comesAfter yX4_comesAfter, Cond.code yX4_comesAfter cX4_comesAfter 4 (some .boolean), Cond.methodLink RX4 79 yJ6_compare_7cf53, Cond.static yJ6_compare_7cf53, Cond.initialized RJ6, Cond.code yJ6_compare_7cf53 cJ6_compare_7cf53 2 (some .int), Cond.static yX6_authorOf, Cond.code yX6_authorOf cX6_authorOf 1 (some .int), Cond.methodLink RX4 53 yX1_copyFrom, Cond.instanceMethod yX1_copyFrom, Cond.selects RX1 yX1_copyFrom yX1_copyFrom, Cond.initialized RX1, Cond.code yX1_copyFrom cX1_copyFrom 6 none, Cond.methodLink RX1 46 yX1_pointCount, Cond.instanceMethod yX1_pointCount, Cond.selects RX1 yX1_pointCount yX1_pointCount, Cond.code yX1_pointCount cX1_pointCount 2 (some .int)]
def wsX4_addStroke_r3 : List Cond := [Cond.fieldLink RX1 14 "StrokeBoard$Ink" "counts" "LStrokeBoard$Row;", Cond.methodLink RX1 42 yX5_get, Cond.methodLink RX1 49 yX1_colorOf, Cond.instanceMethod yX1_colorOf, Cond.selects RX1 yX1_colorOf yX1_colorOf, Cond.code yX1_colorOf cX1_colorOf 2 (some .int), Cond.fieldLink RX1 20 "StrokeBoard$Ink" "colors" "LStrokeBoard$Row;", Cond.methodLink RX1 52 yX1_layerOf, Cond.instanceMethod yX1_layerOf, Cond.selects RX1 yX1_layerOf yX1_layerOf, Cond.code yX1_layerOf cX1_layerOf 2 (some .int), Cond.fieldLink RX1 23 "StrokeBoard$Ink" "layers" "LStrokeBoard$Row;", Cond.methodLink RX1 55 yX1_start, Cond.instanceMethod yX1_start, Cond.selects RX1 yX1_start yX1_start, Cond.code yX1_start cX1_start 4 none, Cond.methodLink RX1 39 yX1_empty, Cond.instanceMethod yX1_empty, Cond.selects RX1 yX1_empty yX1_empty, Cond.code yX1_empty cX1_empty 2 none, Cond.methodLink RX1 35 yX5_set, Cond.methodLink RX1 59 yX1_xOf, Cond.instanceMethod yX1_xOf, Cond.selects RX1 yX1_xOf yX1_xOf]
def wsX4_addStroke_r4 : List Cond := [Cond.code yX1_xOf cX1_xOf 3 (some .int), Cond.fieldLink RX1 26 "StrokeBoard$Ink" "xs" "LStrokeBoard$Row;", Cond.methodLink RX1 63 yX1_yOf, Cond.instanceMethod yX1_yOf, Cond.selects RX1 yX1_yOf yX1_yOf, Cond.code yX1_yOf cX1_yOf 3 (some .int), Cond.fieldLink RX1 29 "StrokeBoard$Ink" "ys" "LStrokeBoard$Row;", Cond.methodLink RX1 66 yX1_addPoint, Cond.instanceMethod yX1_addPoint, Cond.selects RX1 yX1_addPoint yX1_addPoint, Cond.code yX1_addPoint cX1_addPoint 5 none, Cond.methodLink RX4 57 yX1_layerOf]
def wsX4_addStroke : List Cond := .code yX4_addStroke cX4_addStroke 5 (some .int) :: ((wsX4_addStroke_r1 ++ (wsX4_addStroke_r2 ++ (wsX4_addStroke_r3 ++ wsX4_addStroke_r4))) ++ wsX40 ++ wsX50 ++ wsX10)
def wsX4_addChange_r1 : List Cond := [Cond.fieldLink RX4 26 "StrokeBoard$Log" "targets" "LStrokeBoard$Row;", Cond.fieldLink RX4 29 "StrokeBoard$Log" "layers" "LStrokeBoard$Row;", Cond.methodLink RX4 49 yX4_addOperation, Cond.instanceMethod yX4_addOperation, Cond.selects RX4 yX4_addOperation yX4_addOperation, Cond.initialized RX4, Cond.code yX4_addOperation cX4_addOperation 6 (some .int), Cond.fieldLink RX4 14 "StrokeBoard$Log" "made" "LStrokeBoard$Row;", Cond.fieldLink RX4 23 "StrokeBoard$Log" "times" "LStrokeBoard$Row;", Cond.fieldLink RX4 20 "StrokeBoard$Log" "kinds" "LStrokeBoard$Row;", Cond.methodLink RX4 65 yX5_get, Cond.instanceMethod yX5_get, Cond.selects RX5 yX5_get yX5_get, Cond.initialized RX5, Cond.code yX5_get cX5_get 2 (some .int), Cond.fieldLink RX5 13 "StrokeBoard$Row" "cells" "[I", Cond.static yX6_idOf, Cond.initialized RX6, Cond.code yX6_idOf cX6_idOf 2 (some .int), Cond.methodLink RX4 61 yX5_set, Cond.instanceMethod yX5_set, Cond.selects RX5 yX5_set yX5_set, Cond.code yX5_set cX5_set 3 none, Cond.methodLink RX4 72 yX4_insert]
def wsX4_addChange_r2 : List Cond := [Cond.instanceMethod yX4_insert, Cond.selects RX4 yX4_insert yX4_insert, Cond.code yX4_insert cX4_insert 3 none, Cond.fieldLink RX4 45 "StrokeBoard$Log" "total" "I", Cond.fieldLink RX4 32 "StrokeBoard$Log" "order" "LStrokeBoard$Row;", Cond.methodLink RX4 75 yX4_comesAfter, Cond.instanceMethod yX4_comesAfter, Cond.selects RX4 yX4_comesAfter yX4_comesAfter, Cond.code yX4_comesAfter cX4_comesAfter 4 (some .boolean), Cond.methodLink RX4 79 yJ6_compare_7cf53, Cond.static yJ6_compare_7cf53, Cond.initialized RJ6, Cond.code yJ6_compare_7cf53 cJ6_compare_7cf53 2 (some .int), Cond.static yX6_authorOf, Cond.code yX6_authorOf cX6_authorOf 1 (some .int)]
def wsX4_addChange : List Cond := .code yX4_addChange cX4_addChange 7 (some .int) :: ((wsX4_addChange_r1 ++ wsX4_addChange_r2) ++ wsX40 ++ wsX50)
def wsX4_madeBy : List Cond := .code yX4_madeBy cX4_madeBy 2 (some .int) :: ([.fieldLink RX4 14 "StrokeBoard$Log" "made" "LStrokeBoard$Row;", .methodLink RX4 65 yX5_get, .instanceMethod yX5_get, .selects RX5 yX5_get yX5_get, .initialized RX5, .code yX5_get cX5_get 2 (some .int), .fieldLink RX5 13 "StrokeBoard$Row" "cells" "[I"] ++ wsX40 ++ wsX50)
def wsX4_timeOf : List Cond := .code yX4_timeOf cX4_timeOf 2 (some .int) :: ([.fieldLink RX4 23 "StrokeBoard$Log" "times" "LStrokeBoard$Row;", .methodLink RX4 65 yX5_get, .instanceMethod yX5_get, .selects RX5 yX5_get yX5_get, .initialized RX5, .code yX5_get cX5_get 2 (some .int), .fieldLink RX5 13 "StrokeBoard$Row" "cells" "[I"] ++ wsX40 ++ wsX50)
def wsX4_sizeOf_r1 : List Cond := [Cond.fieldLink RX4 20 "StrokeBoard$Log" "kinds" "LStrokeBoard$Row;", Cond.fieldLink RX4 38 "StrokeBoard$Log" "ink" "LStrokeBoard$Ink;", Cond.methodLink RX4 65 yX5_get, Cond.instanceMethod yX5_get, Cond.selects RX5 yX5_get yX5_get, Cond.initialized RX5, Cond.code yX5_get cX5_get 2 (some .int), Cond.fieldLink RX5 13 "StrokeBoard$Row" "cells" "[I", Cond.methodLink RX4 87 yX1_sizeOf, Cond.instanceMethod yX1_sizeOf, Cond.selects RX1 yX1_sizeOf yX1_sizeOf, Cond.initialized RX1, Cond.code yX1_sizeOf cX1_sizeOf 5 (some .int), Cond.fieldLink RX1 14 "StrokeBoard$Ink" "counts" "LStrokeBoard$Row;", Cond.methodLink RX1 42 yX5_get, Cond.methodLink RX1 59 yX1_xOf, Cond.instanceMethod yX1_xOf, Cond.selects RX1 yX1_xOf yX1_xOf, Cond.code yX1_xOf cX1_xOf 3 (some .int), Cond.fieldLink RX1 26 "StrokeBoard$Ink" "xs" "LStrokeBoard$Row;", Cond.static yX6_isWithin, Cond.initialized RX6, Cond.code yX6_isWithin cX6_isWithin 3 (some .boolean), Cond.methodLink RX1 63 yX1_yOf]
def wsX4_sizeOf_r2 : List Cond := [Cond.instanceMethod yX1_yOf, Cond.selects RX1 yX1_yOf yX1_yOf, Cond.code yX1_yOf cX1_yOf 3 (some .int), Cond.fieldLink RX1 29 "StrokeBoard$Ink" "ys" "LStrokeBoard$Row;"]
def wsX4_sizeOf : List Cond := .code yX4_sizeOf cX4_sizeOf 2 (some .int) :: ((wsX4_sizeOf_r1 ++ wsX4_sizeOf_r2) ++ wsX40 ++ wsX50 ++ wsX10)
def wsX6_init_r1 : List Cond := [Cond.methodLink RX6 3 objectInit, Cond.instanceMethod objectInit, Cond.code objectInit ⟨#[0xb1]⟩ 1 none, Cond.classLink RX6 9 RX4, Cond.instantiable RX4 8, Cond.initialized RX4, Cond.fieldLink RX6 12 "StrokeBoard" "log" "LStrokeBoard$Log;", Cond.classLink RX6 16 RX1, Cond.instantiable RX1 5, Cond.initialized RX1, Cond.fieldLink RX6 21 "StrokeBoard" "pens" "LStrokeBoard$Ink;", Cond.classLink RX6 25 RX2, Cond.instantiable RX2 1, Cond.initialized RX2, Cond.fieldLink RX6 28 "StrokeBoard" "knowledge" "LStrokeBoard$Knowledge;", Cond.fieldLink RX6 32 "StrokeBoard" "future" "LStrokeBoard$Knowledge;", Cond.classLink RX6 35 RX3, Cond.instantiable RX3 2, Cond.initialized RX3, Cond.fieldLink RX6 38 "StrokeBoard" "links" "LStrokeBoard$Links;", Cond.classLink RX6 42 RX0, Cond.instantiable RX0 4, Cond.initialized RX0, Cond.fieldLink RX6 45 "StrokeBoard" "board" "LStrokeBoard$Board;"]
def wsX6_init_r2 : List Cond := [Cond.fieldLink RX6 49 "StrokeBoard" "secondBoard" "LStrokeBoard$Board;", Cond.classLink RX6 52 RX5, Cond.instantiable RX5 1, Cond.initialized RX5, Cond.fieldLink RX6 55 "StrokeBoard" "clocks" "LStrokeBoard$Row;", Cond.fieldLink RX6 59 "StrokeBoard" "siteCount" "I", Cond.instanceMethod yX4_init, Cond.code yX4_init cX4_init 1 none, Cond.methodLink RX4 3 objectInit, Cond.classLink RX4 9 RX5, Cond.fieldLink RX4 14 "StrokeBoard$Log" "made" "LStrokeBoard$Row;", Cond.fieldLink RX4 20 "StrokeBoard$Log" "kinds" "LStrokeBoard$Row;", Cond.fieldLink RX4 23 "StrokeBoard$Log" "times" "LStrokeBoard$Row;", Cond.fieldLink RX4 26 "StrokeBoard$Log" "targets" "LStrokeBoard$Row;", Cond.fieldLink RX4 29 "StrokeBoard$Log" "layers" "LStrokeBoard$Row;", Cond.fieldLink RX4 32 "StrokeBoard$Log" "order" "LStrokeBoard$Row;", Cond.classLink RX4 35 RX1, Cond.fieldLink RX4 38 "StrokeBoard$Log" "ink" "LStrokeBoard$Ink;", Cond.methodLink RX4 11 yX5_init, Cond.instanceMethod yX5_init, Cond.code yX5_init cX5_init 2 none, Cond.methodLink RX5 1 objectInit, Cond.methodLink RX5 7 Lib.Math.max.name, Cond.static Lib.Math.max.name]
def wsX6_init_r3 : List Cond := [Cond.initialized "java/lang/Math", Cond.code Lib.Math.max.name Lib.Math.max.code 2 (some .int), Cond.arrayClass .int, Cond.fieldLink RX5 13 "StrokeBoard$Row" "cells" "[I", Cond.methodLink RX4 37 yX1_init, Cond.instanceMethod yX1_init, Cond.code yX1_init cX1_init 2 none, Cond.methodLink RX1 3 objectInit, Cond.classLink RX1 9 RX5, Cond.fieldLink RX1 14 "StrokeBoard$Ink" "counts" "LStrokeBoard$Row;", Cond.fieldLink RX1 20 "StrokeBoard$Ink" "colors" "LStrokeBoard$Row;", Cond.fieldLink RX1 23 "StrokeBoard$Ink" "layers" "LStrokeBoard$Row;", Cond.fieldLink RX1 26 "StrokeBoard$Ink" "xs" "LStrokeBoard$Row;", Cond.fieldLink RX1 29 "StrokeBoard$Ink" "ys" "LStrokeBoard$Row;", Cond.methodLink RX1 11 yX5_init, Cond.methodLink RX6 18 yX1_init, Cond.instanceMethod yX2_init, Cond.code yX2_init cX2_init 1 none, Cond.methodLink RX2 3 objectInit, Cond.classLink RX2 9 RX5, Cond.fieldLink RX2 14 "StrokeBoard$Knowledge" "known" "LStrokeBoard$Row;", Cond.methodLink RX2 11 yX5_init, Cond.instanceMethod yX3_init, Cond.code yX3_init cX3_init 1 none]
def wsX6_init_r4 : List Cond := [Cond.methodLink RX3 3 objectInit, Cond.classLink RX3 9 RX5, Cond.fieldLink RX3 14 "StrokeBoard$Links" "counts" "LStrokeBoard$Row;", Cond.fieldLink RX3 20 "StrokeBoard$Links" "messages" "LStrokeBoard$Row;", Cond.methodLink RX3 11 yX5_init, Cond.instanceMethod yX0_init, Cond.code yX0_init cX0_init 1 none, Cond.methodLink RX0 3 objectInit, Cond.classLink RX0 9 RX5, Cond.fieldLink RX0 14 "StrokeBoard$Board" "undone" "LStrokeBoard$Row;", Cond.fieldLink RX0 20 "StrokeBoard$Board" "layers" "LStrokeBoard$Row;", Cond.fieldLink RX0 23 "StrokeBoard$Board" "strokes" "LStrokeBoard$Row;", Cond.methodLink RX0 11 yX5_init, Cond.methodLink RX6 54 yX5_init]
def wsX6_init : List Cond := .code yX6_init cX6_init 1 none :: ((wsX6_init_r1 ++ (wsX6_init_r2 ++ (wsX6_init_r3 ++ wsX6_init_r4))) ++ wsX40 ++ wsX60 ++ wsX10 ++ wsX20 ++ wsX30 ++ wsX00 ++ wsX50)
def wsX6_reset_r1 : List Cond := [Cond.constant RX6 67 (-1000000001), Cond.fieldLink RX6 59 "StrokeBoard" "siteCount" "I", Cond.fieldLink RX6 12 "StrokeBoard" "log" "LStrokeBoard$Log;", Cond.fieldLink RX6 21 "StrokeBoard" "pens" "LStrokeBoard$Ink;", Cond.fieldLink RX6 28 "StrokeBoard" "knowledge" "LStrokeBoard$Knowledge;", Cond.fieldLink RX6 38 "StrokeBoard" "links" "LStrokeBoard$Links;", Cond.fieldLink RX6 55 "StrokeBoard" "clocks" "LStrokeBoard$Row;", Cond.methodLink RX6 63 yX6_isWithin, Cond.static yX6_isWithin, Cond.initialized RX6, Cond.code yX6_isWithin cX6_isWithin 3 (some .boolean), Cond.methodLink RX6 68 yX4_clear, Cond.instanceMethod yX4_clear, Cond.selects RX4 yX4_clear yX4_clear, Cond.initialized RX4, Cond.code yX4_clear cX4_clear 1 none, Cond.fieldLink RX4 14 "StrokeBoard$Log" "made" "LStrokeBoard$Row;", Cond.fieldLink RX4 45 "StrokeBoard$Log" "total" "I", Cond.methodLink RX4 42 yX5_fill, Cond.instanceMethod yX5_fill, Cond.selects RX5 yX5_fill yX5_fill, Cond.initialized RX5, Cond.code yX5_fill cX5_fill 3 none, Cond.fieldLink RX5 13 "StrokeBoard$Row" "cells" "[I"]
def wsX6_reset_r2 : List Cond := [Cond.methodLink RX6 71 yX1_clear, Cond.instanceMethod yX1_clear, Cond.selects RX1 yX1_clear yX1_clear, Cond.initialized RX1, Cond.code yX1_clear cX1_clear 1 none, Cond.fieldLink RX1 14 "StrokeBoard$Ink" "counts" "LStrokeBoard$Row;", Cond.methodLink RX1 32 yX5_fill, Cond.methodLink RX6 72 yX2_clear, Cond.instanceMethod yX2_clear, Cond.selects RX2 yX2_clear yX2_clear, Cond.initialized RX2, Cond.code yX2_clear cX2_clear 1 none, Cond.fieldLink RX2 14 "StrokeBoard$Knowledge" "known" "LStrokeBoard$Row;", Cond.methodLink RX2 20 yX5_fill, Cond.methodLink RX6 73 yX3_clear, Cond.instanceMethod yX3_clear, Cond.selects RX3 yX3_clear yX3_clear, Cond.initialized RX3, Cond.code yX3_clear cX3_clear 1 none, Cond.fieldLink RX3 14 "StrokeBoard$Links" "counts" "LStrokeBoard$Row;", Cond.methodLink RX3 23 yX5_fill, Cond.methodLink RX6 74 yX5_fill]
def wsX6_reset : List Cond := .code yX6_reset cX6_reset 3 (some .int) :: ((wsX6_reset_r1 ++ wsX6_reset_r2) ++ wsX60 ++ wsX40 ++ wsX50 ++ wsX10 ++ wsX20 ++ wsX30)
def wsX6_join : List Cond := .code yX6_join cX6_join 1 (some .int) :: ([.fieldLink RX6 59 "StrokeBoard" "siteCount" "I", .constant RX6 77 (-1000000003)] ++ wsX60)
def wsX6_sites : List Cond := .code yX6_sites cX6_sites 1 (some .int) :: ([.fieldLink RX6 59 "StrokeBoard" "siteCount" "I"] ++ wsX60)
def wsX6_isSite : List Cond := .code yX6_isSite cX6_isSite 2 (some .boolean) :: ([.fieldLink RX6 59 "StrokeBoard" "siteCount" "I", .methodLink RX6 63 yX6_isWithin, .static yX6_isWithin, .initialized RX6, .code yX6_isWithin cX6_isWithin 3 (some .boolean)] ++ wsX60)
def wsX6_siteInfo_r1 : List Cond := [Cond.constant RX6 67 (-1000000001), Cond.fieldLink RX6 55 "StrokeBoard" "clocks" "LStrokeBoard$Row;", Cond.fieldLink RX6 28 "StrokeBoard" "knowledge" "LStrokeBoard$Knowledge;", Cond.fieldLink RX6 12 "StrokeBoard" "log" "LStrokeBoard$Log;", Cond.fieldLink RX6 45 "StrokeBoard" "board" "LStrokeBoard$Board;", Cond.fieldLink RX6 21 "StrokeBoard" "pens" "LStrokeBoard$Ink;", Cond.methodLink RX6 78 yX6_isSite, Cond.instanceMethod yX6_isSite, Cond.selects RX6 yX6_isSite yX6_isSite, Cond.initialized RX6, Cond.code yX6_isSite cX6_isSite 2 (some .boolean), Cond.fieldLink RX6 59 "StrokeBoard" "siteCount" "I", Cond.methodLink RX6 63 yX6_isWithin, Cond.static yX6_isWithin, Cond.code yX6_isWithin cX6_isWithin 3 (some .boolean), Cond.methodLink RX6 82 yX5_get, Cond.instanceMethod yX5_get, Cond.selects RX5 yX5_get yX5_get, Cond.initialized RX5, Cond.code yX5_get cX5_get 2 (some .int), Cond.fieldLink RX5 13 "StrokeBoard$Row" "cells" "[I", Cond.methodLink RX6 86 yX2_countOf, Cond.instanceMethod yX2_countOf, Cond.selects RX2 yX2_countOf yX2_countOf]
def wsX6_siteInfo_r2 : List Cond := [Cond.initialized RX2, Cond.code yX2_countOf cX2_countOf 4 (some .int), Cond.methodLink RX2 35 yX2_has, Cond.instanceMethod yX2_has, Cond.selects RX2 yX2_has yX2_has, Cond.code yX2_has cX2_has 3 (some .boolean), Cond.fieldLink RX2 14 "StrokeBoard$Knowledge" "known" "LStrokeBoard$Row;", Cond.methodLink RX2 31 yX5_get, Cond.methodLink RX6 89 yX4_madeBy, Cond.instanceMethod yX4_madeBy, Cond.selects RX4 yX4_madeBy yX4_madeBy, Cond.initialized RX4, Cond.code yX4_madeBy cX4_madeBy 2 (some .int), Cond.fieldLink RX4 14 "StrokeBoard$Log" "made" "LStrokeBoard$Row;", Cond.methodLink RX4 65 yX5_get, Cond.methodLink RX6 92 yX0_show, Cond.instanceMethod yX0_show, Cond.selects RX0 yX0_show yX0_show, Cond.initialized RX0, Cond.code yX0_show cX0_show 7 none, Cond.fieldLink RX0 14 "StrokeBoard$Board" "undone" "LStrokeBoard$Row;", Cond.fieldLink RX0 20 "StrokeBoard$Board" "layers" "LStrokeBoard$Row;", Cond.fieldLink RX0 40 "StrokeBoard$Board" "count" "I", Cond.methodLink RX0 26 yX4_totalCount]
def wsX6_siteInfo_r3 : List Cond := [Cond.instanceMethod yX4_totalCount, Cond.selects RX4 yX4_totalCount yX4_totalCount, Cond.code yX4_totalCount cX4_totalCount 1 (some .int), Cond.fieldLink RX4 45 "StrokeBoard$Log" "total" "I", Cond.methodLink RX0 32 yX5_fill, Cond.instanceMethod yX5_fill, Cond.selects RX5 yX5_fill yX5_fill, Cond.code yX5_fill cX5_fill 3 none, Cond.methodLink RX0 36 yX5_copyFrom, Cond.instanceMethod yX5_copyFrom, Cond.selects RX5 yX5_copyFrom yX5_copyFrom, Cond.code yX5_copyFrom cX5_copyFrom 3 none, Cond.methodLink RX5 19 yX5_get, Cond.methodLink RX0 44 yX4_inOrder, Cond.instanceMethod yX4_inOrder, Cond.selects RX4 yX4_inOrder yX4_inOrder, Cond.code yX4_inOrder cX4_inOrder 2 (some .int), Cond.fieldLink RX4 32 "StrokeBoard$Log" "order" "LStrokeBoard$Row;", Cond.methodLink RX0 48 yX2_has, Cond.methodLink RX0 54 yX0_apply, Cond.instanceMethod yX0_apply, Cond.selects RX0 yX0_apply yX0_apply, Cond.code yX0_apply cX0_apply 4 none, Cond.methodLink RX0 62 yX4_targetOf]
def wsX6_siteInfo_r4 : List Cond := [Cond.instanceMethod yX4_targetOf, Cond.selects RX4 yX4_targetOf yX4_targetOf, Cond.code yX4_targetOf cX4_targetOf 2 (some .int), Cond.fieldLink RX4 26 "StrokeBoard$Log" "targets" "LStrokeBoard$Row;", Cond.methodLink RX0 65 yX4_kindOf, Cond.instanceMethod yX4_kindOf, Cond.selects RX4 yX4_kindOf yX4_kindOf, Cond.code yX4_kindOf cX4_kindOf 2 (some .int), Cond.fieldLink RX4 20 "StrokeBoard$Log" "kinds" "LStrokeBoard$Row;", Cond.methodLink RX0 68 yX5_set, Cond.instanceMethod yX5_set, Cond.selects RX5 yX5_set yX5_set, Cond.code yX5_set cX5_set 3 none, Cond.methodLink RX0 72 yX4_layerOf, Cond.instanceMethod yX4_layerOf, Cond.selects RX4 yX4_layerOf yX4_layerOf, Cond.code yX4_layerOf cX4_layerOf 2 (some .int), Cond.fieldLink RX4 29 "StrokeBoard$Log" "layers" "LStrokeBoard$Row;", Cond.methodLink RX0 58 yX0_collect, Cond.instanceMethod yX0_collect, Cond.selects RX0 yX0_collect yX0_collect, Cond.code yX0_collect cX0_collect 8 none, Cond.fieldLink RX0 23 "StrokeBoard$Board" "strokes" "LStrokeBoard$Row;", Cond.methodLink RX0 75 yX4_isStroke]
def wsX6_siteInfo_r5 : List Cond := [Cond.instanceMethod yX4_isStroke, Cond.selects RX4 yX4_isStroke yX4_isStroke, Cond.code yX4_isStroke cX4_isStroke 2 (some .boolean), Cond.methodLink RX0 79 yX5_get, Cond.methodLink RX0 82 yX0_isUndone, Cond.instanceMethod yX0_isUndone, Cond.selects RX0 yX0_isUndone yX0_isUndone, Cond.code yX0_isUndone cX0_isUndone 2 (some .boolean), Cond.methodLink RX6 96 yX0_strokeCount, Cond.instanceMethod yX0_strokeCount, Cond.selects RX0 yX0_strokeCount yX0_strokeCount, Cond.code yX0_strokeCount cX0_strokeCount 1 (some .int), Cond.methodLink RX6 100 yX1_pointCount, Cond.instanceMethod yX1_pointCount, Cond.selects RX1 yX1_pointCount yX1_pointCount, Cond.initialized RX1, Cond.code yX1_pointCount cX1_pointCount 2 (some .int), Cond.fieldLink RX1 14 "StrokeBoard$Ink" "counts" "LStrokeBoard$Row;", Cond.methodLink RX1 42 yX5_get]
def wsX6_siteInfo : List Cond := .code yX6_siteInfo cX6_siteInfo 3 (some .int) :: ((wsX6_siteInfo_r1 ++ (wsX6_siteInfo_r2 ++ (wsX6_siteInfo_r3 ++ (wsX6_siteInfo_r4 ++ wsX6_siteInfo_r5)))) ++ wsX60 ++ wsX50 ++ wsX20 ++ wsX40 ++ wsX00 ++ wsX10)
def wsX6_penDown_r1 : List Cond := [Cond.constant RX6 67 (-1000000001), Cond.fieldLink RX6 21 "StrokeBoard" "pens" "LStrokeBoard$Ink;", Cond.methodLink RX6 78 yX6_isSite, Cond.instanceMethod yX6_isSite, Cond.selects RX6 yX6_isSite yX6_isSite, Cond.initialized RX6, Cond.code yX6_isSite cX6_isSite 2 (some .boolean), Cond.fieldLink RX6 59 "StrokeBoard" "siteCount" "I", Cond.methodLink RX6 63 yX6_isWithin, Cond.static yX6_isWithin, Cond.code yX6_isWithin cX6_isWithin 3 (some .boolean), Cond.methodLink RX6 103 yX1_start, Cond.instanceMethod yX1_start, Cond.selects RX1 yX1_start yX1_start, Cond.initialized RX1, Cond.code yX1_start cX1_start 4 none, Cond.fieldLink RX1 20 "StrokeBoard$Ink" "colors" "LStrokeBoard$Row;", Cond.fieldLink RX1 23 "StrokeBoard$Ink" "layers" "LStrokeBoard$Row;", Cond.methodLink RX1 39 yX1_empty, Cond.instanceMethod yX1_empty, Cond.selects RX1 yX1_empty yX1_empty, Cond.code yX1_empty cX1_empty 2 none, Cond.fieldLink RX1 14 "StrokeBoard$Ink" "counts" "LStrokeBoard$Row;", Cond.methodLink RX1 35 yX5_set]
def wsX6_penDown_r2 : List Cond := [Cond.instanceMethod yX5_set, Cond.selects RX5 yX5_set yX5_set, Cond.initialized RX5, Cond.code yX5_set cX5_set 3 none, Cond.fieldLink RX5 13 "StrokeBoard$Row" "cells" "[I", Cond.methodLink RX6 107 yX1_addPoint, Cond.instanceMethod yX1_addPoint, Cond.selects RX1 yX1_addPoint yX1_addPoint, Cond.code yX1_addPoint cX1_addPoint 5 none, Cond.fieldLink RX1 26 "StrokeBoard$Ink" "xs" "LStrokeBoard$Row;", Cond.fieldLink RX1 29 "StrokeBoard$Ink" "ys" "LStrokeBoard$Row;", Cond.methodLink RX1 42 yX5_get, Cond.instanceMethod yX5_get, Cond.selects RX5 yX5_get yX5_get, Cond.code yX5_get cX5_get 2 (some .int), Cond.methodLink RX6 100 yX1_pointCount, Cond.instanceMethod yX1_pointCount, Cond.selects RX1 yX1_pointCount yX1_pointCount, Cond.code yX1_pointCount cX1_pointCount 2 (some .int)]
def wsX6_penDown : List Cond := .code yX6_penDown cX6_penDown 6 (some .int) :: ((wsX6_penDown_r1 ++ wsX6_penDown_r2) ++ wsX60 ++ wsX10 ++ wsX50)
def wsX6_penMove_r1 : List Cond := [Cond.constant RX6 67 (-1000000001), Cond.fieldLink RX6 21 "StrokeBoard" "pens" "LStrokeBoard$Ink;", Cond.constant RX6 110 (-1000000002), Cond.constant RX6 77 (-1000000003), Cond.methodLink RX6 78 yX6_isSite, Cond.instanceMethod yX6_isSite, Cond.selects RX6 yX6_isSite yX6_isSite, Cond.initialized RX6, Cond.code yX6_isSite cX6_isSite 2 (some .boolean), Cond.fieldLink RX6 59 "StrokeBoard" "siteCount" "I", Cond.methodLink RX6 63 yX6_isWithin, Cond.static yX6_isWithin, Cond.code yX6_isWithin cX6_isWithin 3 (some .boolean), Cond.methodLink RX6 100 yX1_pointCount, Cond.instanceMethod yX1_pointCount, Cond.selects RX1 yX1_pointCount yX1_pointCount, Cond.initialized RX1, Cond.code yX1_pointCount cX1_pointCount 2 (some .int), Cond.fieldLink RX1 14 "StrokeBoard$Ink" "counts" "LStrokeBoard$Row;", Cond.methodLink RX1 42 yX5_get, Cond.instanceMethod yX5_get, Cond.selects RX5 yX5_get yX5_get, Cond.initialized RX5, Cond.code yX5_get cX5_get 2 (some .int)]
def wsX6_penMove_r2 : List Cond := [Cond.fieldLink RX5 13 "StrokeBoard$Row" "cells" "[I", Cond.methodLink RX6 111 yX1_xOf, Cond.instanceMethod yX1_xOf, Cond.selects RX1 yX1_xOf yX1_xOf, Cond.code yX1_xOf cX1_xOf 3 (some .int), Cond.fieldLink RX1 26 "StrokeBoard$Ink" "xs" "LStrokeBoard$Row;", Cond.methodLink RX6 115 yX1_yOf, Cond.instanceMethod yX1_yOf, Cond.selects RX1 yX1_yOf yX1_yOf, Cond.code yX1_yOf cX1_yOf 3 (some .int), Cond.fieldLink RX1 29 "StrokeBoard$Ink" "ys" "LStrokeBoard$Row;", Cond.methodLink RX6 107 yX1_addPoint, Cond.instanceMethod yX1_addPoint, Cond.selects RX1 yX1_addPoint yX1_addPoint, Cond.code yX1_addPoint cX1_addPoint 5 none, Cond.methodLink RX1 35 yX5_set, Cond.instanceMethod yX5_set, Cond.selects RX5 yX5_set yX5_set, Cond.code yX5_set cX5_set 3 none]
def wsX6_penMove : List Cond := .code yX6_penMove cX6_penMove 5 (some .int) :: ((wsX6_penMove_r1 ++ wsX6_penMove_r2) ++ wsX60 ++ wsX10 ++ wsX50)
def wsX6_hasMadeAll : List Cond := .code yX6_hasMadeAll cX6_hasMadeAll 2 (some .boolean) :: ([.fieldLink RX6 12 "StrokeBoard" "log" "LStrokeBoard$Log;", .methodLink RX6 89 yX4_madeBy, .instanceMethod yX4_madeBy, .selects RX4 yX4_madeBy yX4_madeBy, .initialized RX4, .code yX4_madeBy cX4_madeBy 2 (some .int), .fieldLink RX4 14 "StrokeBoard$Log" "made" "LStrokeBoard$Row;", .methodLink RX4 65 yX5_get, .instanceMethod yX5_get, .selects RX5 yX5_get yX5_get, .initialized RX5, .code yX5_get cX5_get 2 (some .int), .fieldLink RX5 13 "StrokeBoard$Row" "cells" "[I"] ++ wsX60 ++ wsX40 ++ wsX50)
def wsX6_tick : List Cond := .code yX6_tick cX6_tick 2 (some .int) :: ([.fieldLink RX6 55 "StrokeBoard" "clocks" "LStrokeBoard$Row;", .methodLink RX6 82 yX5_get, .instanceMethod yX5_get, .selects RX5 yX5_get yX5_get, .initialized RX5, .code yX5_get cX5_get 2 (some .int), .fieldLink RX5 13 "StrokeBoard$Row" "cells" "[I", .methodLink RX6 195 yX5_set, .instanceMethod yX5_set, .selects RX5 yX5_set yX5_set, .code yX5_set cX5_set 3 none] ++ wsX60 ++ wsX50)
def wsX6_publish_r1 : List Cond := [Cond.fieldLink RX6 28 "StrokeBoard" "knowledge" "LStrokeBoard$Knowledge;", Cond.fieldLink RX6 59 "StrokeBoard" "siteCount" "I", Cond.fieldLink RX6 38 "StrokeBoard" "links" "LStrokeBoard$Links;", Cond.methodLink RX6 245 yX2_learn, Cond.instanceMethod yX2_learn, Cond.selects RX2 yX2_learn yX2_learn, Cond.initialized RX2, Cond.code yX2_learn cX2_learn 3 none, Cond.fieldLink RX2 14 "StrokeBoard$Knowledge" "known" "LStrokeBoard$Row;", Cond.methodLink RX2 27 yX5_set, Cond.instanceMethod yX5_set, Cond.selects RX5 yX5_set yX5_set, Cond.initialized RX5, Cond.code yX5_set cX5_set 3 none, Cond.fieldLink RX5 13 "StrokeBoard$Row" "cells" "[I", Cond.methodLink RX6 248 yX3_send, Cond.instanceMethod yX3_send, Cond.selects RX3 yX3_send yX3_send, Cond.initialized RX3, Cond.code yX3_send cX3_send 6 none, Cond.fieldLink RX3 14 "StrokeBoard$Links" "counts" "LStrokeBoard$Row;", Cond.fieldLink RX3 20 "StrokeBoard$Links" "messages" "LStrokeBoard$Row;", Cond.methodLink RX3 26 yX5_get, Cond.instanceMethod yX5_get]
def wsX6_publish_r2 : List Cond := [Cond.selects RX5 yX5_get yX5_get, Cond.code yX5_get cX5_get 2 (some .int), Cond.methodLink RX3 30 yX5_set]
def wsX6_publish : List Cond := .code yX6_publish cX6_publish 4 none :: ((wsX6_publish_r1 ++ wsX6_publish_r2) ++ wsX60 ++ wsX20 ++ wsX50 ++ wsX30)
def wsX6_penUp_r1 : List Cond := [Cond.constant RX6 67 (-1000000001), Cond.fieldLink RX6 21 "StrokeBoard" "pens" "LStrokeBoard$Ink;", Cond.constant RX6 110 (-1000000002), Cond.constant RX6 77 (-1000000003), Cond.fieldLink RX6 12 "StrokeBoard" "log" "LStrokeBoard$Log;", Cond.methodLink RX6 78 yX6_isSite, Cond.instanceMethod yX6_isSite, Cond.selects RX6 yX6_isSite yX6_isSite, Cond.initialized RX6, Cond.code yX6_isSite cX6_isSite 2 (some .boolean), Cond.fieldLink RX6 59 "StrokeBoard" "siteCount" "I", Cond.methodLink RX6 63 yX6_isWithin, Cond.static yX6_isWithin, Cond.code yX6_isWithin cX6_isWithin 3 (some .boolean), Cond.methodLink RX6 100 yX1_pointCount, Cond.instanceMethod yX1_pointCount, Cond.selects RX1 yX1_pointCount yX1_pointCount, Cond.initialized RX1, Cond.code yX1_pointCount cX1_pointCount 2 (some .int), Cond.fieldLink RX1 14 "StrokeBoard$Ink" "counts" "LStrokeBoard$Row;", Cond.methodLink RX1 42 yX5_get, Cond.instanceMethod yX5_get, Cond.selects RX5 yX5_get yX5_get, Cond.initialized RX5]
def wsX6_penUp_r2 : List Cond := [Cond.code yX5_get cX5_get 2 (some .int), Cond.fieldLink RX5 13 "StrokeBoard$Row" "cells" "[I", Cond.methodLink RX6 118 yX6_hasMadeAll, Cond.instanceMethod yX6_hasMadeAll, Cond.selects RX6 yX6_hasMadeAll yX6_hasMadeAll, Cond.code yX6_hasMadeAll cX6_hasMadeAll 2 (some .boolean), Cond.methodLink RX6 89 yX4_madeBy, Cond.instanceMethod yX4_madeBy, Cond.selects RX4 yX4_madeBy yX4_madeBy, Cond.initialized RX4, Cond.code yX4_madeBy cX4_madeBy 2 (some .int), Cond.fieldLink RX4 14 "StrokeBoard$Log" "made" "LStrokeBoard$Row;", Cond.methodLink RX4 65 yX5_get, Cond.methodLink RX6 121 yX6_tick, Cond.instanceMethod yX6_tick, Cond.selects RX6 yX6_tick yX6_tick, Cond.code yX6_tick cX6_tick 2 (some .int), Cond.fieldLink RX6 55 "StrokeBoard" "clocks" "LStrokeBoard$Row;", Cond.methodLink RX6 82 yX5_get, Cond.methodLink RX6 195 yX5_set, Cond.instanceMethod yX5_set, Cond.selects RX5 yX5_set yX5_set, Cond.code yX5_set cX5_set 3 none, Cond.methodLink RX6 124 yX4_addStroke]
def wsX6_penUp_r3 : List Cond := [Cond.instanceMethod yX4_addStroke, Cond.selects RX4 yX4_addStroke yX4_addStroke, Cond.code yX4_addStroke cX4_addStroke 5 (some .int), Cond.fieldLink RX4 38 "StrokeBoard$Log" "ink" "LStrokeBoard$Ink;", Cond.fieldLink RX4 29 "StrokeBoard$Log" "layers" "LStrokeBoard$Row;", Cond.methodLink RX4 49 yX4_addOperation, Cond.instanceMethod yX4_addOperation, Cond.selects RX4 yX4_addOperation yX4_addOperation, Cond.code yX4_addOperation cX4_addOperation 6 (some .int), Cond.fieldLink RX4 23 "StrokeBoard$Log" "times" "LStrokeBoard$Row;", Cond.fieldLink RX4 20 "StrokeBoard$Log" "kinds" "LStrokeBoard$Row;", Cond.static yX6_idOf, Cond.code yX6_idOf cX6_idOf 2 (some .int), Cond.methodLink RX4 61 yX5_set, Cond.methodLink RX4 72 yX4_insert, Cond.instanceMethod yX4_insert, Cond.selects RX4 yX4_insert yX4_insert, Cond.code yX4_insert cX4_insert 3 none, Cond.fieldLink RX4 45 "StrokeBoard$Log" "total" "I", Cond.fieldLink RX4 32 "StrokeBoard$Log" "order" "LStrokeBoard$Row;", Cond.methodLink RX4 75 yX4_comesAfter, Cond.instanceMethod yX4_comesAfter, Cond.selects RX4 yX4_comesAfter yX4_comesAfter, Cond.code yX4_comesAfter cX4_comesAfter 4 (some .boolean)]
def wsX6_penUp_r4 : List Cond := [Cond.methodLink RX4 79 yJ6_compare_7cf53, Cond.static yJ6_compare_7cf53, Cond.initialized RJ6, Cond.code yJ6_compare_7cf53 cJ6_compare_7cf53 2 (some .int), Cond.static yX6_authorOf, Cond.code yX6_authorOf cX6_authorOf 1 (some .int), Cond.methodLink RX4 53 yX1_copyFrom, Cond.instanceMethod yX1_copyFrom, Cond.selects RX1 yX1_copyFrom yX1_copyFrom, Cond.code yX1_copyFrom cX1_copyFrom 6 none, Cond.methodLink RX1 46 yX1_pointCount, Cond.methodLink RX1 49 yX1_colorOf, Cond.instanceMethod yX1_colorOf, Cond.selects RX1 yX1_colorOf yX1_colorOf, Cond.code yX1_colorOf cX1_colorOf 2 (some .int), Cond.fieldLink RX1 20 "StrokeBoard$Ink" "colors" "LStrokeBoard$Row;", Cond.methodLink RX1 52 yX1_layerOf, Cond.instanceMethod yX1_layerOf, Cond.selects RX1 yX1_layerOf yX1_layerOf, Cond.code yX1_layerOf cX1_layerOf 2 (some .int), Cond.fieldLink RX1 23 "StrokeBoard$Ink" "layers" "LStrokeBoard$Row;", Cond.methodLink RX1 55 yX1_start, Cond.instanceMethod yX1_start, Cond.selects RX1 yX1_start yX1_start]
def wsX6_penUp_r5 : List Cond := [Cond.code yX1_start cX1_start 4 none, Cond.methodLink RX1 39 yX1_empty, Cond.instanceMethod yX1_empty, Cond.selects RX1 yX1_empty yX1_empty, Cond.code yX1_empty cX1_empty 2 none, Cond.methodLink RX1 35 yX5_set, Cond.methodLink RX1 59 yX1_xOf, Cond.instanceMethod yX1_xOf, Cond.selects RX1 yX1_xOf yX1_xOf, Cond.code yX1_xOf cX1_xOf 3 (some .int), Cond.fieldLink RX1 26 "StrokeBoard$Ink" "xs" "LStrokeBoard$Row;", Cond.methodLink RX1 63 yX1_yOf, Cond.instanceMethod yX1_yOf, Cond.selects RX1 yX1_yOf yX1_yOf, Cond.code yX1_yOf cX1_yOf 3 (some .int), Cond.fieldLink RX1 29 "StrokeBoard$Ink" "ys" "LStrokeBoard$Row;", Cond.methodLink RX1 66 yX1_addPoint, Cond.instanceMethod yX1_addPoint, Cond.selects RX1 yX1_addPoint yX1_addPoint, Cond.code yX1_addPoint cX1_addPoint 5 none, Cond.methodLink RX4 57 yX1_layerOf, Cond.methodLink RX6 128 yX1_empty, Cond.methodLink RX6 131 yX6_publish, Cond.instanceMethod yX6_publish]
def wsX6_penUp_r6 : List Cond := [Cond.selects RX6 yX6_publish yX6_publish, Cond.code yX6_publish cX6_publish 4 none, Cond.fieldLink RX6 28 "StrokeBoard" "knowledge" "LStrokeBoard$Knowledge;", Cond.fieldLink RX6 38 "StrokeBoard" "links" "LStrokeBoard$Links;", Cond.methodLink RX6 245 yX2_learn, Cond.instanceMethod yX2_learn, Cond.selects RX2 yX2_learn yX2_learn, Cond.initialized RX2, Cond.code yX2_learn cX2_learn 3 none, Cond.fieldLink RX2 14 "StrokeBoard$Knowledge" "known" "LStrokeBoard$Row;", Cond.methodLink RX2 27 yX5_set, Cond.methodLink RX6 248 yX3_send, Cond.instanceMethod yX3_send, Cond.selects RX3 yX3_send yX3_send, Cond.initialized RX3, Cond.code yX3_send cX3_send 6 none, Cond.fieldLink RX3 14 "StrokeBoard$Links" "counts" "LStrokeBoard$Row;", Cond.fieldLink RX3 20 "StrokeBoard$Links" "messages" "LStrokeBoard$Row;", Cond.methodLink RX3 26 yX5_get, Cond.methodLink RX3 30 yX5_set, Cond.methodLink RX6 135 yX6_numberOf, Cond.static yX6_numberOf, Cond.code yX6_numberOf cX6_numberOf 1 (some .int)]
def wsX6_penUp : List Cond := .code yX6_penUp cX6_penUp 3 (some .int) :: ((wsX6_penUp_r1 ++ (wsX6_penUp_r2 ++ (wsX6_penUp_r3 ++ (wsX6_penUp_r4 ++ (wsX6_penUp_r5 ++ wsX6_penUp_r6))))) ++ wsX60 ++ wsX10 ++ wsX50 ++ wsX40 ++ wsX20 ++ wsX30)
def wsX6_lastVisibleOwn_r1 : List Cond := [Cond.fieldLink RX6 45 "StrokeBoard" "board" "LStrokeBoard$Board;", Cond.fieldLink RX6 12 "StrokeBoard" "log" "LStrokeBoard$Log;", Cond.fieldLink RX6 28 "StrokeBoard" "knowledge" "LStrokeBoard$Knowledge;", Cond.methodLink RX6 92 yX0_show, Cond.instanceMethod yX0_show, Cond.selects RX0 yX0_show yX0_show, Cond.initialized RX0, Cond.code yX0_show cX0_show 7 none, Cond.fieldLink RX0 14 "StrokeBoard$Board" "undone" "LStrokeBoard$Row;", Cond.fieldLink RX0 20 "StrokeBoard$Board" "layers" "LStrokeBoard$Row;", Cond.fieldLink RX0 40 "StrokeBoard$Board" "count" "I", Cond.methodLink RX0 26 yX4_totalCount, Cond.instanceMethod yX4_totalCount, Cond.selects RX4 yX4_totalCount yX4_totalCount, Cond.initialized RX4, Cond.code yX4_totalCount cX4_totalCount 1 (some .int), Cond.fieldLink RX4 45 "StrokeBoard$Log" "total" "I", Cond.methodLink RX0 32 yX5_fill, Cond.instanceMethod yX5_fill, Cond.selects RX5 yX5_fill yX5_fill, Cond.initialized RX5, Cond.code yX5_fill cX5_fill 3 none, Cond.fieldLink RX5 13 "StrokeBoard$Row" "cells" "[I", Cond.methodLink RX0 36 yX5_copyFrom]
def wsX6_lastVisibleOwn_r2 : List Cond := [Cond.instanceMethod yX5_copyFrom, Cond.selects RX5 yX5_copyFrom yX5_copyFrom, Cond.code yX5_copyFrom cX5_copyFrom 3 none, Cond.methodLink RX5 19 yX5_get, Cond.instanceMethod yX5_get, Cond.selects RX5 yX5_get yX5_get, Cond.code yX5_get cX5_get 2 (some .int), Cond.methodLink RX0 44 yX4_inOrder, Cond.instanceMethod yX4_inOrder, Cond.selects RX4 yX4_inOrder yX4_inOrder, Cond.code yX4_inOrder cX4_inOrder 2 (some .int), Cond.fieldLink RX4 32 "StrokeBoard$Log" "order" "LStrokeBoard$Row;", Cond.methodLink RX4 65 yX5_get, Cond.methodLink RX0 48 yX2_has, Cond.instanceMethod yX2_has, Cond.selects RX2 yX2_has yX2_has, Cond.initialized RX2, Cond.code yX2_has cX2_has 3 (some .boolean), Cond.fieldLink RX2 14 "StrokeBoard$Knowledge" "known" "LStrokeBoard$Row;", Cond.methodLink RX2 31 yX5_get, Cond.methodLink RX0 54 yX0_apply, Cond.instanceMethod yX0_apply, Cond.selects RX0 yX0_apply yX0_apply, Cond.code yX0_apply cX0_apply 4 none]
def wsX6_lastVisibleOwn_r3 : List Cond := [Cond.methodLink RX0 62 yX4_targetOf, Cond.instanceMethod yX4_targetOf, Cond.selects RX4 yX4_targetOf yX4_targetOf, Cond.code yX4_targetOf cX4_targetOf 2 (some .int), Cond.fieldLink RX4 26 "StrokeBoard$Log" "targets" "LStrokeBoard$Row;", Cond.methodLink RX0 65 yX4_kindOf, Cond.instanceMethod yX4_kindOf, Cond.selects RX4 yX4_kindOf yX4_kindOf, Cond.code yX4_kindOf cX4_kindOf 2 (some .int), Cond.fieldLink RX4 20 "StrokeBoard$Log" "kinds" "LStrokeBoard$Row;", Cond.methodLink RX0 68 yX5_set, Cond.instanceMethod yX5_set, Cond.selects RX5 yX5_set yX5_set, Cond.code yX5_set cX5_set 3 none, Cond.methodLink RX0 72 yX4_layerOf, Cond.instanceMethod yX4_layerOf, Cond.selects RX4 yX4_layerOf yX4_layerOf, Cond.code yX4_layerOf cX4_layerOf 2 (some .int), Cond.fieldLink RX4 29 "StrokeBoard$Log" "layers" "LStrokeBoard$Row;", Cond.methodLink RX0 58 yX0_collect, Cond.instanceMethod yX0_collect, Cond.selects RX0 yX0_collect yX0_collect, Cond.code yX0_collect cX0_collect 8 none, Cond.fieldLink RX0 23 "StrokeBoard$Board" "strokes" "LStrokeBoard$Row;"]
def wsX6_lastVisibleOwn_r4 : List Cond := [Cond.methodLink RX0 75 yX4_isStroke, Cond.instanceMethod yX4_isStroke, Cond.selects RX4 yX4_isStroke yX4_isStroke, Cond.code yX4_isStroke cX4_isStroke 2 (some .boolean), Cond.methodLink RX0 79 yX5_get, Cond.methodLink RX0 82 yX0_isUndone, Cond.instanceMethod yX0_isUndone, Cond.selects RX0 yX0_isUndone yX0_isUndone, Cond.code yX0_isUndone cX0_isUndone 2 (some .boolean), Cond.methodLink RX6 89 yX4_madeBy, Cond.instanceMethod yX4_madeBy, Cond.selects RX4 yX4_madeBy yX4_madeBy, Cond.code yX4_madeBy cX4_madeBy 2 (some .int), Cond.fieldLink RX4 14 "StrokeBoard$Log" "made" "LStrokeBoard$Row;", Cond.methodLink RX6 178 yX6_idOf, Cond.static yX6_idOf, Cond.initialized RX6, Cond.code yX6_idOf cX6_idOf 2 (some .int), Cond.methodLink RX6 204 yX4_isStroke, Cond.methodLink RX6 251 yX0_isUndone]
def wsX6_lastVisibleOwn : List Cond := .code yX6_lastVisibleOwn cX6_lastVisibleOwn 4 (some .int) :: ((wsX6_lastVisibleOwn_r1 ++ (wsX6_lastVisibleOwn_r2 ++ (wsX6_lastVisibleOwn_r3 ++ wsX6_lastVisibleOwn_r4))) ++ wsX60 ++ wsX00 ++ wsX40 ++ wsX50 ++ wsX20)
def wsX6_changeOwn_r1 : List Cond := [Cond.constant RX6 110 (-1000000002), Cond.constant RX6 77 (-1000000003), Cond.fieldLink RX6 12 "StrokeBoard" "log" "LStrokeBoard$Log;", Cond.methodLink RX6 118 yX6_hasMadeAll, Cond.instanceMethod yX6_hasMadeAll, Cond.selects RX6 yX6_hasMadeAll yX6_hasMadeAll, Cond.initialized RX6, Cond.code yX6_hasMadeAll cX6_hasMadeAll 2 (some .boolean), Cond.methodLink RX6 89 yX4_madeBy, Cond.instanceMethod yX4_madeBy, Cond.selects RX4 yX4_madeBy yX4_madeBy, Cond.initialized RX4, Cond.code yX4_madeBy cX4_madeBy 2 (some .int), Cond.fieldLink RX4 14 "StrokeBoard$Log" "made" "LStrokeBoard$Row;", Cond.methodLink RX4 65 yX5_get, Cond.instanceMethod yX5_get, Cond.selects RX5 yX5_get yX5_get, Cond.initialized RX5, Cond.code yX5_get cX5_get 2 (some .int), Cond.fieldLink RX5 13 "StrokeBoard$Row" "cells" "[I", Cond.methodLink RX6 121 yX6_tick, Cond.instanceMethod yX6_tick, Cond.selects RX6 yX6_tick yX6_tick, Cond.code yX6_tick cX6_tick 2 (some .int)]
def wsX6_changeOwn_r2 : List Cond := [Cond.fieldLink RX6 55 "StrokeBoard" "clocks" "LStrokeBoard$Row;", Cond.methodLink RX6 82 yX5_get, Cond.methodLink RX6 195 yX5_set, Cond.instanceMethod yX5_set, Cond.selects RX5 yX5_set yX5_set, Cond.code yX5_set cX5_set 3 none, Cond.methodLink RX6 151 yX4_addChange, Cond.instanceMethod yX4_addChange, Cond.selects RX4 yX4_addChange yX4_addChange, Cond.code yX4_addChange cX4_addChange 7 (some .int), Cond.fieldLink RX4 26 "StrokeBoard$Log" "targets" "LStrokeBoard$Row;", Cond.fieldLink RX4 29 "StrokeBoard$Log" "layers" "LStrokeBoard$Row;", Cond.methodLink RX4 49 yX4_addOperation, Cond.instanceMethod yX4_addOperation, Cond.selects RX4 yX4_addOperation yX4_addOperation, Cond.code yX4_addOperation cX4_addOperation 6 (some .int), Cond.fieldLink RX4 23 "StrokeBoard$Log" "times" "LStrokeBoard$Row;", Cond.fieldLink RX4 20 "StrokeBoard$Log" "kinds" "LStrokeBoard$Row;", Cond.static yX6_idOf, Cond.code yX6_idOf cX6_idOf 2 (some .int), Cond.methodLink RX4 61 yX5_set, Cond.methodLink RX4 72 yX4_insert, Cond.instanceMethod yX4_insert, Cond.selects RX4 yX4_insert yX4_insert]
def wsX6_changeOwn_r3 : List Cond := [Cond.code yX4_insert cX4_insert 3 none, Cond.fieldLink RX4 45 "StrokeBoard$Log" "total" "I", Cond.fieldLink RX4 32 "StrokeBoard$Log" "order" "LStrokeBoard$Row;", Cond.methodLink RX4 75 yX4_comesAfter, Cond.instanceMethod yX4_comesAfter, Cond.selects RX4 yX4_comesAfter yX4_comesAfter, Cond.code yX4_comesAfter cX4_comesAfter 4 (some .boolean), Cond.methodLink RX4 79 yJ6_compare_7cf53, Cond.static yJ6_compare_7cf53, Cond.initialized RJ6, Cond.code yJ6_compare_7cf53 cJ6_compare_7cf53 2 (some .int), Cond.static yX6_authorOf, Cond.code yX6_authorOf cX6_authorOf 1 (some .int), Cond.methodLink RX6 131 yX6_publish, Cond.instanceMethod yX6_publish, Cond.selects RX6 yX6_publish yX6_publish, Cond.code yX6_publish cX6_publish 4 none, Cond.fieldLink RX6 28 "StrokeBoard" "knowledge" "LStrokeBoard$Knowledge;", Cond.fieldLink RX6 59 "StrokeBoard" "siteCount" "I", Cond.fieldLink RX6 38 "StrokeBoard" "links" "LStrokeBoard$Links;", Cond.methodLink RX6 245 yX2_learn, Cond.instanceMethod yX2_learn, Cond.selects RX2 yX2_learn yX2_learn, Cond.initialized RX2]
def wsX6_changeOwn_r4 : List Cond := [Cond.code yX2_learn cX2_learn 3 none, Cond.fieldLink RX2 14 "StrokeBoard$Knowledge" "known" "LStrokeBoard$Row;", Cond.methodLink RX2 27 yX5_set, Cond.methodLink RX6 248 yX3_send, Cond.instanceMethod yX3_send, Cond.selects RX3 yX3_send yX3_send, Cond.initialized RX3, Cond.code yX3_send cX3_send 6 none, Cond.fieldLink RX3 14 "StrokeBoard$Links" "counts" "LStrokeBoard$Row;", Cond.fieldLink RX3 20 "StrokeBoard$Links" "messages" "LStrokeBoard$Row;", Cond.methodLink RX3 26 yX5_get, Cond.methodLink RX3 30 yX5_set, Cond.methodLink RX6 135 yX6_numberOf, Cond.static yX6_numberOf, Cond.code yX6_numberOf cX6_numberOf 1 (some .int)]
def wsX6_changeOwn : List Cond := .code yX6_changeOwn cX6_changeOwn 4 (some .int) :: ((wsX6_changeOwn_r1 ++ (wsX6_changeOwn_r2 ++ (wsX6_changeOwn_r3 ++ wsX6_changeOwn_r4))) ++ wsX60 ++ wsX40 ++ wsX50 ++ wsX20 ++ wsX30)
def wsX6_undo_r1 : List Cond := [Cond.constant RX6 67 (-1000000001), Cond.methodLink RX6 78 yX6_isSite, Cond.instanceMethod yX6_isSite, Cond.selects RX6 yX6_isSite yX6_isSite, Cond.initialized RX6, Cond.code yX6_isSite cX6_isSite 2 (some .boolean), Cond.fieldLink RX6 59 "StrokeBoard" "siteCount" "I", Cond.methodLink RX6 63 yX6_isWithin, Cond.static yX6_isWithin, Cond.code yX6_isWithin cX6_isWithin 3 (some .boolean), Cond.methodLink RX6 138 yX6_lastVisibleOwn, Cond.instanceMethod yX6_lastVisibleOwn, Cond.selects RX6 yX6_lastVisibleOwn yX6_lastVisibleOwn, Cond.code yX6_lastVisibleOwn cX6_lastVisibleOwn 4 (some .int), Cond.fieldLink RX6 45 "StrokeBoard" "board" "LStrokeBoard$Board;", Cond.fieldLink RX6 12 "StrokeBoard" "log" "LStrokeBoard$Log;", Cond.fieldLink RX6 28 "StrokeBoard" "knowledge" "LStrokeBoard$Knowledge;", Cond.methodLink RX6 92 yX0_show, Cond.instanceMethod yX0_show, Cond.selects RX0 yX0_show yX0_show, Cond.initialized RX0, Cond.code yX0_show cX0_show 7 none, Cond.fieldLink RX0 14 "StrokeBoard$Board" "undone" "LStrokeBoard$Row;", Cond.fieldLink RX0 20 "StrokeBoard$Board" "layers" "LStrokeBoard$Row;"]
def wsX6_undo_r2 : List Cond := [Cond.fieldLink RX0 40 "StrokeBoard$Board" "count" "I", Cond.methodLink RX0 26 yX4_totalCount, Cond.instanceMethod yX4_totalCount, Cond.selects RX4 yX4_totalCount yX4_totalCount, Cond.initialized RX4, Cond.code yX4_totalCount cX4_totalCount 1 (some .int), Cond.fieldLink RX4 45 "StrokeBoard$Log" "total" "I", Cond.methodLink RX0 32 yX5_fill, Cond.instanceMethod yX5_fill, Cond.selects RX5 yX5_fill yX5_fill, Cond.initialized RX5, Cond.code yX5_fill cX5_fill 3 none, Cond.fieldLink RX5 13 "StrokeBoard$Row" "cells" "[I", Cond.methodLink RX0 36 yX5_copyFrom, Cond.instanceMethod yX5_copyFrom, Cond.selects RX5 yX5_copyFrom yX5_copyFrom, Cond.code yX5_copyFrom cX5_copyFrom 3 none, Cond.methodLink RX5 19 yX5_get, Cond.instanceMethod yX5_get, Cond.selects RX5 yX5_get yX5_get, Cond.code yX5_get cX5_get 2 (some .int), Cond.methodLink RX0 44 yX4_inOrder, Cond.instanceMethod yX4_inOrder, Cond.selects RX4 yX4_inOrder yX4_inOrder]
def wsX6_undo_r3 : List Cond := [Cond.code yX4_inOrder cX4_inOrder 2 (some .int), Cond.fieldLink RX4 32 "StrokeBoard$Log" "order" "LStrokeBoard$Row;", Cond.methodLink RX4 65 yX5_get, Cond.methodLink RX0 48 yX2_has, Cond.instanceMethod yX2_has, Cond.selects RX2 yX2_has yX2_has, Cond.initialized RX2, Cond.code yX2_has cX2_has 3 (some .boolean), Cond.fieldLink RX2 14 "StrokeBoard$Knowledge" "known" "LStrokeBoard$Row;", Cond.methodLink RX2 31 yX5_get, Cond.methodLink RX0 54 yX0_apply, Cond.instanceMethod yX0_apply, Cond.selects RX0 yX0_apply yX0_apply, Cond.code yX0_apply cX0_apply 4 none, Cond.methodLink RX0 62 yX4_targetOf, Cond.instanceMethod yX4_targetOf, Cond.selects RX4 yX4_targetOf yX4_targetOf, Cond.code yX4_targetOf cX4_targetOf 2 (some .int), Cond.fieldLink RX4 26 "StrokeBoard$Log" "targets" "LStrokeBoard$Row;", Cond.methodLink RX0 65 yX4_kindOf, Cond.instanceMethod yX4_kindOf, Cond.selects RX4 yX4_kindOf yX4_kindOf, Cond.code yX4_kindOf cX4_kindOf 2 (some .int), Cond.fieldLink RX4 20 "StrokeBoard$Log" "kinds" "LStrokeBoard$Row;"]
def wsX6_undo_r4 : List Cond := [Cond.methodLink RX0 68 yX5_set, Cond.instanceMethod yX5_set, Cond.selects RX5 yX5_set yX5_set, Cond.code yX5_set cX5_set 3 none, Cond.methodLink RX0 72 yX4_layerOf, Cond.instanceMethod yX4_layerOf, Cond.selects RX4 yX4_layerOf yX4_layerOf, Cond.code yX4_layerOf cX4_layerOf 2 (some .int), Cond.fieldLink RX4 29 "StrokeBoard$Log" "layers" "LStrokeBoard$Row;", Cond.methodLink RX0 58 yX0_collect, Cond.instanceMethod yX0_collect, Cond.selects RX0 yX0_collect yX0_collect, Cond.code yX0_collect cX0_collect 8 none, Cond.fieldLink RX0 23 "StrokeBoard$Board" "strokes" "LStrokeBoard$Row;", Cond.methodLink RX0 75 yX4_isStroke, Cond.instanceMethod yX4_isStroke, Cond.selects RX4 yX4_isStroke yX4_isStroke, Cond.code yX4_isStroke cX4_isStroke 2 (some .boolean), Cond.methodLink RX0 79 yX5_get, Cond.methodLink RX0 82 yX0_isUndone, Cond.instanceMethod yX0_isUndone, Cond.selects RX0 yX0_isUndone yX0_isUndone, Cond.code yX0_isUndone cX0_isUndone 2 (some .boolean), Cond.methodLink RX6 89 yX4_madeBy]
def wsX6_undo_r5 : List Cond := [Cond.instanceMethod yX4_madeBy, Cond.selects RX4 yX4_madeBy yX4_madeBy, Cond.code yX4_madeBy cX4_madeBy 2 (some .int), Cond.fieldLink RX4 14 "StrokeBoard$Log" "made" "LStrokeBoard$Row;", Cond.methodLink RX6 178 yX6_idOf, Cond.static yX6_idOf, Cond.code yX6_idOf cX6_idOf 2 (some .int), Cond.methodLink RX6 204 yX4_isStroke, Cond.methodLink RX6 251 yX0_isUndone, Cond.methodLink RX6 141 yX6_changeOwn, Cond.instanceMethod yX6_changeOwn, Cond.selects RX6 yX6_changeOwn yX6_changeOwn, Cond.code yX6_changeOwn cX6_changeOwn 4 (some .int), Cond.constant RX6 110 (-1000000002), Cond.constant RX6 77 (-1000000003), Cond.methodLink RX6 118 yX6_hasMadeAll, Cond.instanceMethod yX6_hasMadeAll, Cond.selects RX6 yX6_hasMadeAll yX6_hasMadeAll, Cond.code yX6_hasMadeAll cX6_hasMadeAll 2 (some .boolean), Cond.methodLink RX6 121 yX6_tick, Cond.instanceMethod yX6_tick, Cond.selects RX6 yX6_tick yX6_tick, Cond.code yX6_tick cX6_tick 2 (some .int), Cond.fieldLink RX6 55 "StrokeBoard" "clocks" "LStrokeBoard$Row;"]
def wsX6_undo_r6 : List Cond := [Cond.methodLink RX6 82 yX5_get, Cond.methodLink RX6 195 yX5_set, Cond.methodLink RX6 151 yX4_addChange, Cond.instanceMethod yX4_addChange, Cond.selects RX4 yX4_addChange yX4_addChange, Cond.code yX4_addChange cX4_addChange 7 (some .int), Cond.methodLink RX4 49 yX4_addOperation, Cond.instanceMethod yX4_addOperation, Cond.selects RX4 yX4_addOperation yX4_addOperation, Cond.code yX4_addOperation cX4_addOperation 6 (some .int), Cond.fieldLink RX4 23 "StrokeBoard$Log" "times" "LStrokeBoard$Row;", Cond.methodLink RX4 61 yX5_set, Cond.methodLink RX4 72 yX4_insert, Cond.instanceMethod yX4_insert, Cond.selects RX4 yX4_insert yX4_insert, Cond.code yX4_insert cX4_insert 3 none, Cond.methodLink RX4 75 yX4_comesAfter, Cond.instanceMethod yX4_comesAfter, Cond.selects RX4 yX4_comesAfter yX4_comesAfter, Cond.code yX4_comesAfter cX4_comesAfter 4 (some .boolean), Cond.methodLink RX4 79 yJ6_compare_7cf53, Cond.static yJ6_compare_7cf53, Cond.initialized RJ6, Cond.code yJ6_compare_7cf53 cJ6_compare_7cf53 2 (some .int)]
def wsX6_undo_r7 : List Cond := [Cond.static yX6_authorOf, Cond.code yX6_authorOf cX6_authorOf 1 (some .int), Cond.methodLink RX6 131 yX6_publish, Cond.instanceMethod yX6_publish, Cond.selects RX6 yX6_publish yX6_publish, Cond.code yX6_publish cX6_publish 4 none, Cond.fieldLink RX6 38 "StrokeBoard" "links" "LStrokeBoard$Links;", Cond.methodLink RX6 245 yX2_learn, Cond.instanceMethod yX2_learn, Cond.selects RX2 yX2_learn yX2_learn, Cond.code yX2_learn cX2_learn 3 none, Cond.methodLink RX2 27 yX5_set, Cond.methodLink RX6 248 yX3_send, Cond.instanceMethod yX3_send, Cond.selects RX3 yX3_send yX3_send, Cond.initialized RX3, Cond.code yX3_send cX3_send 6 none, Cond.fieldLink RX3 14 "StrokeBoard$Links" "counts" "LStrokeBoard$Row;", Cond.fieldLink RX3 20 "StrokeBoard$Links" "messages" "LStrokeBoard$Row;", Cond.methodLink RX3 26 yX5_get, Cond.methodLink RX3 30 yX5_set, Cond.methodLink RX6 135 yX6_numberOf, Cond.static yX6_numberOf, Cond.code yX6_numberOf cX6_numberOf 1 (some .int)]
def wsX6_undo : List Cond := .code yX6_undo cX6_undo 2 (some .int) :: ((wsX6_undo_r1 ++ (wsX6_undo_r2 ++ (wsX6_undo_r3 ++ (wsX6_undo_r4 ++ (wsX6_undo_r5 ++ (wsX6_undo_r6 ++ wsX6_undo_r7)))))) ++ wsX60 ++ wsX00 ++ wsX40 ++ wsX50 ++ wsX20 ++ wsX30)
def wsX6_lastUndoneOwn_r1 : List Cond := [Cond.fieldLink RX6 45 "StrokeBoard" "board" "LStrokeBoard$Board;", Cond.fieldLink RX6 12 "StrokeBoard" "log" "LStrokeBoard$Log;", Cond.fieldLink RX6 28 "StrokeBoard" "knowledge" "LStrokeBoard$Knowledge;", Cond.methodLink RX6 92 yX0_show, Cond.instanceMethod yX0_show, Cond.selects RX0 yX0_show yX0_show, Cond.initialized RX0, Cond.code yX0_show cX0_show 7 none, Cond.fieldLink RX0 14 "StrokeBoard$Board" "undone" "LStrokeBoard$Row;", Cond.fieldLink RX0 20 "StrokeBoard$Board" "layers" "LStrokeBoard$Row;", Cond.fieldLink RX0 40 "StrokeBoard$Board" "count" "I", Cond.methodLink RX0 26 yX4_totalCount, Cond.instanceMethod yX4_totalCount, Cond.selects RX4 yX4_totalCount yX4_totalCount, Cond.initialized RX4, Cond.code yX4_totalCount cX4_totalCount 1 (some .int), Cond.fieldLink RX4 45 "StrokeBoard$Log" "total" "I", Cond.methodLink RX0 32 yX5_fill, Cond.instanceMethod yX5_fill, Cond.selects RX5 yX5_fill yX5_fill, Cond.initialized RX5, Cond.code yX5_fill cX5_fill 3 none, Cond.fieldLink RX5 13 "StrokeBoard$Row" "cells" "[I", Cond.methodLink RX0 36 yX5_copyFrom]
def wsX6_lastUndoneOwn_r2 : List Cond := [Cond.instanceMethod yX5_copyFrom, Cond.selects RX5 yX5_copyFrom yX5_copyFrom, Cond.code yX5_copyFrom cX5_copyFrom 3 none, Cond.methodLink RX5 19 yX5_get, Cond.instanceMethod yX5_get, Cond.selects RX5 yX5_get yX5_get, Cond.code yX5_get cX5_get 2 (some .int), Cond.methodLink RX0 44 yX4_inOrder, Cond.instanceMethod yX4_inOrder, Cond.selects RX4 yX4_inOrder yX4_inOrder, Cond.code yX4_inOrder cX4_inOrder 2 (some .int), Cond.fieldLink RX4 32 "StrokeBoard$Log" "order" "LStrokeBoard$Row;", Cond.methodLink RX4 65 yX5_get, Cond.methodLink RX0 48 yX2_has, Cond.instanceMethod yX2_has, Cond.selects RX2 yX2_has yX2_has, Cond.initialized RX2, Cond.code yX2_has cX2_has 3 (some .boolean), Cond.fieldLink RX2 14 "StrokeBoard$Knowledge" "known" "LStrokeBoard$Row;", Cond.methodLink RX2 31 yX5_get, Cond.methodLink RX0 54 yX0_apply, Cond.instanceMethod yX0_apply, Cond.selects RX0 yX0_apply yX0_apply, Cond.code yX0_apply cX0_apply 4 none]
def wsX6_lastUndoneOwn_r3 : List Cond := [Cond.methodLink RX0 62 yX4_targetOf, Cond.instanceMethod yX4_targetOf, Cond.selects RX4 yX4_targetOf yX4_targetOf, Cond.code yX4_targetOf cX4_targetOf 2 (some .int), Cond.fieldLink RX4 26 "StrokeBoard$Log" "targets" "LStrokeBoard$Row;", Cond.methodLink RX0 65 yX4_kindOf, Cond.instanceMethod yX4_kindOf, Cond.selects RX4 yX4_kindOf yX4_kindOf, Cond.code yX4_kindOf cX4_kindOf 2 (some .int), Cond.fieldLink RX4 20 "StrokeBoard$Log" "kinds" "LStrokeBoard$Row;", Cond.methodLink RX0 68 yX5_set, Cond.instanceMethod yX5_set, Cond.selects RX5 yX5_set yX5_set, Cond.code yX5_set cX5_set 3 none, Cond.methodLink RX0 72 yX4_layerOf, Cond.instanceMethod yX4_layerOf, Cond.selects RX4 yX4_layerOf yX4_layerOf, Cond.code yX4_layerOf cX4_layerOf 2 (some .int), Cond.fieldLink RX4 29 "StrokeBoard$Log" "layers" "LStrokeBoard$Row;", Cond.methodLink RX0 58 yX0_collect, Cond.instanceMethod yX0_collect, Cond.selects RX0 yX0_collect yX0_collect, Cond.code yX0_collect cX0_collect 8 none, Cond.fieldLink RX0 23 "StrokeBoard$Board" "strokes" "LStrokeBoard$Row;"]
def wsX6_lastUndoneOwn_r4 : List Cond := [Cond.methodLink RX0 75 yX4_isStroke, Cond.instanceMethod yX4_isStroke, Cond.selects RX4 yX4_isStroke yX4_isStroke, Cond.code yX4_isStroke cX4_isStroke 2 (some .boolean), Cond.methodLink RX0 79 yX5_get, Cond.methodLink RX0 82 yX0_isUndone, Cond.instanceMethod yX0_isUndone, Cond.selects RX0 yX0_isUndone yX0_isUndone, Cond.code yX0_isUndone cX0_isUndone 2 (some .boolean), Cond.methodLink RX6 89 yX4_madeBy, Cond.instanceMethod yX4_madeBy, Cond.selects RX4 yX4_madeBy yX4_madeBy, Cond.code yX4_madeBy cX4_madeBy 2 (some .int), Cond.fieldLink RX4 14 "StrokeBoard$Log" "made" "LStrokeBoard$Row;", Cond.methodLink RX6 178 yX6_idOf, Cond.static yX6_idOf, Cond.initialized RX6, Cond.code yX6_idOf cX6_idOf 2 (some .int), Cond.methodLink RX6 198 yX4_kindOf, Cond.methodLink RX6 210 yX4_targetOf, Cond.methodLink RX6 251 yX0_isUndone]
def wsX6_lastUndoneOwn : List Cond := .code yX6_lastUndoneOwn cX6_lastUndoneOwn 4 (some .int) :: ((wsX6_lastUndoneOwn_r1 ++ (wsX6_lastUndoneOwn_r2 ++ (wsX6_lastUndoneOwn_r3 ++ wsX6_lastUndoneOwn_r4))) ++ wsX60 ++ wsX00 ++ wsX40 ++ wsX50 ++ wsX20)
def wsX6_redo_r1 : List Cond := [Cond.constant RX6 67 (-1000000001), Cond.methodLink RX6 78 yX6_isSite, Cond.instanceMethod yX6_isSite, Cond.selects RX6 yX6_isSite yX6_isSite, Cond.initialized RX6, Cond.code yX6_isSite cX6_isSite 2 (some .boolean), Cond.fieldLink RX6 59 "StrokeBoard" "siteCount" "I", Cond.methodLink RX6 63 yX6_isWithin, Cond.static yX6_isWithin, Cond.code yX6_isWithin cX6_isWithin 3 (some .boolean), Cond.methodLink RX6 145 yX6_lastUndoneOwn, Cond.instanceMethod yX6_lastUndoneOwn, Cond.selects RX6 yX6_lastUndoneOwn yX6_lastUndoneOwn, Cond.code yX6_lastUndoneOwn cX6_lastUndoneOwn 4 (some .int), Cond.fieldLink RX6 45 "StrokeBoard" "board" "LStrokeBoard$Board;", Cond.fieldLink RX6 12 "StrokeBoard" "log" "LStrokeBoard$Log;", Cond.fieldLink RX6 28 "StrokeBoard" "knowledge" "LStrokeBoard$Knowledge;", Cond.methodLink RX6 92 yX0_show, Cond.instanceMethod yX0_show, Cond.selects RX0 yX0_show yX0_show, Cond.initialized RX0, Cond.code yX0_show cX0_show 7 none, Cond.fieldLink RX0 14 "StrokeBoard$Board" "undone" "LStrokeBoard$Row;", Cond.fieldLink RX0 20 "StrokeBoard$Board" "layers" "LStrokeBoard$Row;"]
def wsX6_redo_r2 : List Cond := [Cond.fieldLink RX0 40 "StrokeBoard$Board" "count" "I", Cond.methodLink RX0 26 yX4_totalCount, Cond.instanceMethod yX4_totalCount, Cond.selects RX4 yX4_totalCount yX4_totalCount, Cond.initialized RX4, Cond.code yX4_totalCount cX4_totalCount 1 (some .int), Cond.fieldLink RX4 45 "StrokeBoard$Log" "total" "I", Cond.methodLink RX0 32 yX5_fill, Cond.instanceMethod yX5_fill, Cond.selects RX5 yX5_fill yX5_fill, Cond.initialized RX5, Cond.code yX5_fill cX5_fill 3 none, Cond.fieldLink RX5 13 "StrokeBoard$Row" "cells" "[I", Cond.methodLink RX0 36 yX5_copyFrom, Cond.instanceMethod yX5_copyFrom, Cond.selects RX5 yX5_copyFrom yX5_copyFrom, Cond.code yX5_copyFrom cX5_copyFrom 3 none, Cond.methodLink RX5 19 yX5_get, Cond.instanceMethod yX5_get, Cond.selects RX5 yX5_get yX5_get, Cond.code yX5_get cX5_get 2 (some .int), Cond.methodLink RX0 44 yX4_inOrder, Cond.instanceMethod yX4_inOrder, Cond.selects RX4 yX4_inOrder yX4_inOrder]
def wsX6_redo_r3 : List Cond := [Cond.code yX4_inOrder cX4_inOrder 2 (some .int), Cond.fieldLink RX4 32 "StrokeBoard$Log" "order" "LStrokeBoard$Row;", Cond.methodLink RX4 65 yX5_get, Cond.methodLink RX0 48 yX2_has, Cond.instanceMethod yX2_has, Cond.selects RX2 yX2_has yX2_has, Cond.initialized RX2, Cond.code yX2_has cX2_has 3 (some .boolean), Cond.fieldLink RX2 14 "StrokeBoard$Knowledge" "known" "LStrokeBoard$Row;", Cond.methodLink RX2 31 yX5_get, Cond.methodLink RX0 54 yX0_apply, Cond.instanceMethod yX0_apply, Cond.selects RX0 yX0_apply yX0_apply, Cond.code yX0_apply cX0_apply 4 none, Cond.methodLink RX0 62 yX4_targetOf, Cond.instanceMethod yX4_targetOf, Cond.selects RX4 yX4_targetOf yX4_targetOf, Cond.code yX4_targetOf cX4_targetOf 2 (some .int), Cond.fieldLink RX4 26 "StrokeBoard$Log" "targets" "LStrokeBoard$Row;", Cond.methodLink RX0 65 yX4_kindOf, Cond.instanceMethod yX4_kindOf, Cond.selects RX4 yX4_kindOf yX4_kindOf, Cond.code yX4_kindOf cX4_kindOf 2 (some .int), Cond.fieldLink RX4 20 "StrokeBoard$Log" "kinds" "LStrokeBoard$Row;"]
def wsX6_redo_r4 : List Cond := [Cond.methodLink RX0 68 yX5_set, Cond.instanceMethod yX5_set, Cond.selects RX5 yX5_set yX5_set, Cond.code yX5_set cX5_set 3 none, Cond.methodLink RX0 72 yX4_layerOf, Cond.instanceMethod yX4_layerOf, Cond.selects RX4 yX4_layerOf yX4_layerOf, Cond.code yX4_layerOf cX4_layerOf 2 (some .int), Cond.fieldLink RX4 29 "StrokeBoard$Log" "layers" "LStrokeBoard$Row;", Cond.methodLink RX0 58 yX0_collect, Cond.instanceMethod yX0_collect, Cond.selects RX0 yX0_collect yX0_collect, Cond.code yX0_collect cX0_collect 8 none, Cond.fieldLink RX0 23 "StrokeBoard$Board" "strokes" "LStrokeBoard$Row;", Cond.methodLink RX0 75 yX4_isStroke, Cond.instanceMethod yX4_isStroke, Cond.selects RX4 yX4_isStroke yX4_isStroke, Cond.code yX4_isStroke cX4_isStroke 2 (some .boolean), Cond.methodLink RX0 79 yX5_get, Cond.methodLink RX0 82 yX0_isUndone, Cond.instanceMethod yX0_isUndone, Cond.selects RX0 yX0_isUndone yX0_isUndone, Cond.code yX0_isUndone cX0_isUndone 2 (some .boolean), Cond.methodLink RX6 89 yX4_madeBy]
def wsX6_redo_r5 : List Cond := [Cond.instanceMethod yX4_madeBy, Cond.selects RX4 yX4_madeBy yX4_madeBy, Cond.code yX4_madeBy cX4_madeBy 2 (some .int), Cond.fieldLink RX4 14 "StrokeBoard$Log" "made" "LStrokeBoard$Row;", Cond.methodLink RX6 178 yX6_idOf, Cond.static yX6_idOf, Cond.code yX6_idOf cX6_idOf 2 (some .int), Cond.methodLink RX6 198 yX4_kindOf, Cond.methodLink RX6 210 yX4_targetOf, Cond.methodLink RX6 251 yX0_isUndone, Cond.methodLink RX6 141 yX6_changeOwn, Cond.instanceMethod yX6_changeOwn, Cond.selects RX6 yX6_changeOwn yX6_changeOwn, Cond.code yX6_changeOwn cX6_changeOwn 4 (some .int), Cond.constant RX6 110 (-1000000002), Cond.constant RX6 77 (-1000000003), Cond.methodLink RX6 118 yX6_hasMadeAll, Cond.instanceMethod yX6_hasMadeAll, Cond.selects RX6 yX6_hasMadeAll yX6_hasMadeAll, Cond.code yX6_hasMadeAll cX6_hasMadeAll 2 (some .boolean), Cond.methodLink RX6 121 yX6_tick, Cond.instanceMethod yX6_tick, Cond.selects RX6 yX6_tick yX6_tick, Cond.code yX6_tick cX6_tick 2 (some .int)]
def wsX6_redo_r6 : List Cond := [Cond.fieldLink RX6 55 "StrokeBoard" "clocks" "LStrokeBoard$Row;", Cond.methodLink RX6 82 yX5_get, Cond.methodLink RX6 195 yX5_set, Cond.methodLink RX6 151 yX4_addChange, Cond.instanceMethod yX4_addChange, Cond.selects RX4 yX4_addChange yX4_addChange, Cond.code yX4_addChange cX4_addChange 7 (some .int), Cond.methodLink RX4 49 yX4_addOperation, Cond.instanceMethod yX4_addOperation, Cond.selects RX4 yX4_addOperation yX4_addOperation, Cond.code yX4_addOperation cX4_addOperation 6 (some .int), Cond.fieldLink RX4 23 "StrokeBoard$Log" "times" "LStrokeBoard$Row;", Cond.methodLink RX4 61 yX5_set, Cond.methodLink RX4 72 yX4_insert, Cond.instanceMethod yX4_insert, Cond.selects RX4 yX4_insert yX4_insert, Cond.code yX4_insert cX4_insert 3 none, Cond.methodLink RX4 75 yX4_comesAfter, Cond.instanceMethod yX4_comesAfter, Cond.selects RX4 yX4_comesAfter yX4_comesAfter, Cond.code yX4_comesAfter cX4_comesAfter 4 (some .boolean), Cond.methodLink RX4 79 yJ6_compare_7cf53, Cond.static yJ6_compare_7cf53, Cond.initialized RJ6]
def wsX6_redo_r7 : List Cond := [Cond.code yJ6_compare_7cf53 cJ6_compare_7cf53 2 (some .int), Cond.static yX6_authorOf, Cond.code yX6_authorOf cX6_authorOf 1 (some .int), Cond.methodLink RX6 131 yX6_publish, Cond.instanceMethod yX6_publish, Cond.selects RX6 yX6_publish yX6_publish, Cond.code yX6_publish cX6_publish 4 none, Cond.fieldLink RX6 38 "StrokeBoard" "links" "LStrokeBoard$Links;", Cond.methodLink RX6 245 yX2_learn, Cond.instanceMethod yX2_learn, Cond.selects RX2 yX2_learn yX2_learn, Cond.code yX2_learn cX2_learn 3 none, Cond.methodLink RX2 27 yX5_set, Cond.methodLink RX6 248 yX3_send, Cond.instanceMethod yX3_send, Cond.selects RX3 yX3_send yX3_send, Cond.initialized RX3, Cond.code yX3_send cX3_send 6 none, Cond.fieldLink RX3 14 "StrokeBoard$Links" "counts" "LStrokeBoard$Row;", Cond.fieldLink RX3 20 "StrokeBoard$Links" "messages" "LStrokeBoard$Row;", Cond.methodLink RX3 26 yX5_get, Cond.methodLink RX3 30 yX5_set, Cond.methodLink RX6 135 yX6_numberOf, Cond.static yX6_numberOf]
def wsX6_redo_r8 : List Cond := [Cond.code yX6_numberOf cX6_numberOf 1 (some .int)]
def wsX6_redo : List Cond := .code yX6_redo cX6_redo 2 (some .int) :: ((wsX6_redo_r1 ++ (wsX6_redo_r2 ++ (wsX6_redo_r3 ++ (wsX6_redo_r4 ++ (wsX6_redo_r5 ++ (wsX6_redo_r6 ++ (wsX6_redo_r7 ++ wsX6_redo_r8))))))) ++ wsX60 ++ wsX00 ++ wsX40 ++ wsX50 ++ wsX20 ++ wsX30)
def wsX6_lift_r1 : List Cond := [Cond.constant RX6 67 (-1000000001), Cond.fieldLink RX6 45 "StrokeBoard" "board" "LStrokeBoard$Board;", Cond.fieldLink RX6 12 "StrokeBoard" "log" "LStrokeBoard$Log;", Cond.fieldLink RX6 28 "StrokeBoard" "knowledge" "LStrokeBoard$Knowledge;", Cond.constant RX6 110 (-1000000002), Cond.constant RX6 77 (-1000000003), Cond.methodLink RX6 78 yX6_isSite, Cond.instanceMethod yX6_isSite, Cond.selects RX6 yX6_isSite yX6_isSite, Cond.initialized RX6, Cond.code yX6_isSite cX6_isSite 2 (some .boolean), Cond.fieldLink RX6 59 "StrokeBoard" "siteCount" "I", Cond.methodLink RX6 63 yX6_isWithin, Cond.static yX6_isWithin, Cond.code yX6_isWithin cX6_isWithin 3 (some .boolean), Cond.methodLink RX6 92 yX0_show, Cond.instanceMethod yX0_show, Cond.selects RX0 yX0_show yX0_show, Cond.initialized RX0, Cond.code yX0_show cX0_show 7 none, Cond.fieldLink RX0 14 "StrokeBoard$Board" "undone" "LStrokeBoard$Row;", Cond.fieldLink RX0 20 "StrokeBoard$Board" "layers" "LStrokeBoard$Row;", Cond.fieldLink RX0 40 "StrokeBoard$Board" "count" "I", Cond.methodLink RX0 26 yX4_totalCount]
def wsX6_lift_r2 : List Cond := [Cond.instanceMethod yX4_totalCount, Cond.selects RX4 yX4_totalCount yX4_totalCount, Cond.initialized RX4, Cond.code yX4_totalCount cX4_totalCount 1 (some .int), Cond.fieldLink RX4 45 "StrokeBoard$Log" "total" "I", Cond.methodLink RX0 32 yX5_fill, Cond.instanceMethod yX5_fill, Cond.selects RX5 yX5_fill yX5_fill, Cond.initialized RX5, Cond.code yX5_fill cX5_fill 3 none, Cond.fieldLink RX5 13 "StrokeBoard$Row" "cells" "[I", Cond.methodLink RX0 36 yX5_copyFrom, Cond.instanceMethod yX5_copyFrom, Cond.selects RX5 yX5_copyFrom yX5_copyFrom, Cond.code yX5_copyFrom cX5_copyFrom 3 none, Cond.methodLink RX5 19 yX5_get, Cond.instanceMethod yX5_get, Cond.selects RX5 yX5_get yX5_get, Cond.code yX5_get cX5_get 2 (some .int), Cond.methodLink RX0 44 yX4_inOrder, Cond.instanceMethod yX4_inOrder, Cond.selects RX4 yX4_inOrder yX4_inOrder, Cond.code yX4_inOrder cX4_inOrder 2 (some .int), Cond.fieldLink RX4 32 "StrokeBoard$Log" "order" "LStrokeBoard$Row;"]
def wsX6_lift_r3 : List Cond := [Cond.methodLink RX4 65 yX5_get, Cond.methodLink RX0 48 yX2_has, Cond.instanceMethod yX2_has, Cond.selects RX2 yX2_has yX2_has, Cond.initialized RX2, Cond.code yX2_has cX2_has 3 (some .boolean), Cond.fieldLink RX2 14 "StrokeBoard$Knowledge" "known" "LStrokeBoard$Row;", Cond.methodLink RX2 31 yX5_get, Cond.methodLink RX0 54 yX0_apply, Cond.instanceMethod yX0_apply, Cond.selects RX0 yX0_apply yX0_apply, Cond.code yX0_apply cX0_apply 4 none, Cond.methodLink RX0 62 yX4_targetOf, Cond.instanceMethod yX4_targetOf, Cond.selects RX4 yX4_targetOf yX4_targetOf, Cond.code yX4_targetOf cX4_targetOf 2 (some .int), Cond.fieldLink RX4 26 "StrokeBoard$Log" "targets" "LStrokeBoard$Row;", Cond.methodLink RX0 65 yX4_kindOf, Cond.instanceMethod yX4_kindOf, Cond.selects RX4 yX4_kindOf yX4_kindOf, Cond.code yX4_kindOf cX4_kindOf 2 (some .int), Cond.fieldLink RX4 20 "StrokeBoard$Log" "kinds" "LStrokeBoard$Row;", Cond.methodLink RX0 68 yX5_set, Cond.instanceMethod yX5_set]
def wsX6_lift_r4 : List Cond := [Cond.selects RX5 yX5_set yX5_set, Cond.code yX5_set cX5_set 3 none, Cond.methodLink RX0 72 yX4_layerOf, Cond.instanceMethod yX4_layerOf, Cond.selects RX4 yX4_layerOf yX4_layerOf, Cond.code yX4_layerOf cX4_layerOf 2 (some .int), Cond.fieldLink RX4 29 "StrokeBoard$Log" "layers" "LStrokeBoard$Row;", Cond.methodLink RX0 58 yX0_collect, Cond.instanceMethod yX0_collect, Cond.selects RX0 yX0_collect yX0_collect, Cond.code yX0_collect cX0_collect 8 none, Cond.fieldLink RX0 23 "StrokeBoard$Board" "strokes" "LStrokeBoard$Row;", Cond.methodLink RX0 75 yX4_isStroke, Cond.instanceMethod yX4_isStroke, Cond.selects RX4 yX4_isStroke yX4_isStroke, Cond.code yX4_isStroke cX4_isStroke 2 (some .boolean), Cond.methodLink RX0 79 yX5_get, Cond.methodLink RX0 82 yX0_isUndone, Cond.instanceMethod yX0_isUndone, Cond.selects RX0 yX0_isUndone yX0_isUndone, Cond.code yX0_isUndone cX0_isUndone 2 (some .boolean), Cond.methodLink RX6 96 yX0_strokeCount, Cond.instanceMethod yX0_strokeCount, Cond.selects RX0 yX0_strokeCount yX0_strokeCount]
def wsX6_lift_r5 : List Cond := [Cond.code yX0_strokeCount cX0_strokeCount 1 (some .int), Cond.methodLink RX6 118 yX6_hasMadeAll, Cond.instanceMethod yX6_hasMadeAll, Cond.selects RX6 yX6_hasMadeAll yX6_hasMadeAll, Cond.code yX6_hasMadeAll cX6_hasMadeAll 2 (some .boolean), Cond.methodLink RX6 89 yX4_madeBy, Cond.instanceMethod yX4_madeBy, Cond.selects RX4 yX4_madeBy yX4_madeBy, Cond.code yX4_madeBy cX4_madeBy 2 (some .int), Cond.fieldLink RX4 14 "StrokeBoard$Log" "made" "LStrokeBoard$Row;", Cond.methodLink RX6 121 yX6_tick, Cond.instanceMethod yX6_tick, Cond.selects RX6 yX6_tick yX6_tick, Cond.code yX6_tick cX6_tick 2 (some .int), Cond.fieldLink RX6 55 "StrokeBoard" "clocks" "LStrokeBoard$Row;", Cond.methodLink RX6 82 yX5_get, Cond.methodLink RX6 195 yX5_set, Cond.methodLink RX6 148 yX0_strokeIn, Cond.instanceMethod yX0_strokeIn, Cond.selects RX0 yX0_strokeIn yX0_strokeIn, Cond.code yX0_strokeIn cX0_strokeIn 2 (some .int), Cond.methodLink RX6 151 yX4_addChange, Cond.instanceMethod yX4_addChange, Cond.selects RX4 yX4_addChange yX4_addChange]
def wsX6_lift_r6 : List Cond := [Cond.code yX4_addChange cX4_addChange 7 (some .int), Cond.methodLink RX4 49 yX4_addOperation, Cond.instanceMethod yX4_addOperation, Cond.selects RX4 yX4_addOperation yX4_addOperation, Cond.code yX4_addOperation cX4_addOperation 6 (some .int), Cond.fieldLink RX4 23 "StrokeBoard$Log" "times" "LStrokeBoard$Row;", Cond.static yX6_idOf, Cond.code yX6_idOf cX6_idOf 2 (some .int), Cond.methodLink RX4 61 yX5_set, Cond.methodLink RX4 72 yX4_insert, Cond.instanceMethod yX4_insert, Cond.selects RX4 yX4_insert yX4_insert, Cond.code yX4_insert cX4_insert 3 none, Cond.methodLink RX4 75 yX4_comesAfter, Cond.instanceMethod yX4_comesAfter, Cond.selects RX4 yX4_comesAfter yX4_comesAfter, Cond.code yX4_comesAfter cX4_comesAfter 4 (some .boolean), Cond.methodLink RX4 79 yJ6_compare_7cf53, Cond.static yJ6_compare_7cf53, Cond.initialized RJ6, Cond.code yJ6_compare_7cf53 cJ6_compare_7cf53 2 (some .int), Cond.static yX6_authorOf, Cond.code yX6_authorOf cX6_authorOf 1 (some .int), Cond.methodLink RX6 131 yX6_publish]
def wsX6_lift_r7 : List Cond := [Cond.instanceMethod yX6_publish, Cond.selects RX6 yX6_publish yX6_publish, Cond.code yX6_publish cX6_publish 4 none, Cond.fieldLink RX6 38 "StrokeBoard" "links" "LStrokeBoard$Links;", Cond.methodLink RX6 245 yX2_learn, Cond.instanceMethod yX2_learn, Cond.selects RX2 yX2_learn yX2_learn, Cond.code yX2_learn cX2_learn 3 none, Cond.methodLink RX2 27 yX5_set, Cond.methodLink RX6 248 yX3_send, Cond.instanceMethod yX3_send, Cond.selects RX3 yX3_send yX3_send, Cond.initialized RX3, Cond.code yX3_send cX3_send 6 none, Cond.fieldLink RX3 14 "StrokeBoard$Links" "counts" "LStrokeBoard$Row;", Cond.fieldLink RX3 20 "StrokeBoard$Links" "messages" "LStrokeBoard$Row;", Cond.methodLink RX3 26 yX5_get, Cond.methodLink RX3 30 yX5_set, Cond.methodLink RX6 135 yX6_numberOf, Cond.static yX6_numberOf, Cond.code yX6_numberOf cX6_numberOf 1 (some .int)]
def wsX6_lift : List Cond := .code yX6_lift cX6_lift 5 (some .int) :: ((wsX6_lift_r1 ++ (wsX6_lift_r2 ++ (wsX6_lift_r3 ++ (wsX6_lift_r4 ++ (wsX6_lift_r5 ++ (wsX6_lift_r6 ++ wsX6_lift_r7)))))) ++ wsX60 ++ wsX00 ++ wsX40 ++ wsX50 ++ wsX20 ++ wsX30)
def wsX6_areTwoSites : List Cond := .code yX6_areTwoSites cX6_areTwoSites 3 (some .boolean) :: ([.methodLink RX6 78 yX6_isSite, .instanceMethod yX6_isSite, .selects RX6 yX6_isSite yX6_isSite, .initialized RX6, .code yX6_isSite cX6_isSite 2 (some .boolean), .fieldLink RX6 59 "StrokeBoard" "siteCount" "I", .methodLink RX6 63 yX6_isWithin, .static yX6_isWithin, .code yX6_isWithin cX6_isWithin 3 (some .boolean)] ++ wsX60)
def wsX6_receive_r1 : List Cond := [Cond.fieldLink RX6 28 "StrokeBoard" "knowledge" "LStrokeBoard$Knowledge;", Cond.fieldLink RX6 55 "StrokeBoard" "clocks" "LStrokeBoard$Row;", Cond.fieldLink RX6 12 "StrokeBoard" "log" "LStrokeBoard$Log;", Cond.methodLink RX6 190 Lib.Math.max.name, Cond.static Lib.Math.max.name, Cond.initialized "java/lang/Math", Cond.code Lib.Math.max.name Lib.Math.max.code 2 (some .int), Cond.methodLink RX6 245 yX2_learn, Cond.instanceMethod yX2_learn, Cond.selects RX2 yX2_learn yX2_learn, Cond.initialized RX2, Cond.code yX2_learn cX2_learn 3 none, Cond.fieldLink RX2 14 "StrokeBoard$Knowledge" "known" "LStrokeBoard$Row;", Cond.methodLink RX2 27 yX5_set, Cond.instanceMethod yX5_set, Cond.selects RX5 yX5_set yX5_set, Cond.initialized RX5, Cond.code yX5_set cX5_set 3 none, Cond.fieldLink RX5 13 "StrokeBoard$Row" "cells" "[I", Cond.methodLink RX6 82 yX5_get, Cond.instanceMethod yX5_get, Cond.selects RX5 yX5_get yX5_get, Cond.code yX5_get cX5_get 2 (some .int), Cond.methodLink RX6 201 yX4_timeOf]
def wsX6_receive_r2 : List Cond := [Cond.instanceMethod yX4_timeOf, Cond.selects RX4 yX4_timeOf yX4_timeOf, Cond.initialized RX4, Cond.code yX4_timeOf cX4_timeOf 2 (some .int), Cond.fieldLink RX4 23 "StrokeBoard$Log" "times" "LStrokeBoard$Row;", Cond.methodLink RX4 65 yX5_get, Cond.methodLink RX6 195 yX5_set]
def wsX6_receive : List Cond := .code yX6_receive cX6_receive 3 none :: ((wsX6_receive_r1 ++ wsX6_receive_r2) ++ wsX60 ++ wsX20 ++ wsX50 ++ wsX40)
def wsX6_deliver_r1 : List Cond := [Cond.constant RX6 67 (-1000000001), Cond.fieldLink RX6 38 "StrokeBoard" "links" "LStrokeBoard$Links;", Cond.constant RX6 162 (-1000000004), Cond.methodLink RX6 155 yX6_areTwoSites, Cond.instanceMethod yX6_areTwoSites, Cond.selects RX6 yX6_areTwoSites yX6_areTwoSites, Cond.initialized RX6, Cond.code yX6_areTwoSites cX6_areTwoSites 3 (some .boolean), Cond.methodLink RX6 78 yX6_isSite, Cond.instanceMethod yX6_isSite, Cond.selects RX6 yX6_isSite yX6_isSite, Cond.code yX6_isSite cX6_isSite 2 (some .boolean), Cond.fieldLink RX6 59 "StrokeBoard" "siteCount" "I", Cond.methodLink RX6 63 yX6_isWithin, Cond.static yX6_isWithin, Cond.code yX6_isWithin cX6_isWithin 3 (some .boolean), Cond.methodLink RX6 159 yX3_countIn, Cond.instanceMethod yX3_countIn, Cond.selects RX3 yX3_countIn yX3_countIn, Cond.initialized RX3, Cond.code yX3_countIn cX3_countIn 3 (some .int), Cond.fieldLink RX3 14 "StrokeBoard$Links" "counts" "LStrokeBoard$Row;", Cond.methodLink RX3 26 yX5_get, Cond.instanceMethod yX5_get]
def wsX6_deliver_r2 : List Cond := [Cond.selects RX5 yX5_get yX5_get, Cond.initialized RX5, Cond.code yX5_get cX5_get 2 (some .int), Cond.fieldLink RX5 13 "StrokeBoard$Row" "cells" "[I", Cond.methodLink RX6 163 yX3_messageIn, Cond.instanceMethod yX3_messageIn, Cond.selects RX3 yX3_messageIn yX3_messageIn, Cond.code yX3_messageIn cX3_messageIn 4 (some .int), Cond.fieldLink RX3 20 "StrokeBoard$Links" "messages" "LStrokeBoard$Row;", Cond.methodLink RX6 166 yX3_dropFirst, Cond.instanceMethod yX3_dropFirst, Cond.selects RX3 yX3_dropFirst yX3_dropFirst, Cond.code yX3_dropFirst cX3_dropFirst 7 none, Cond.methodLink RX3 34 Lib.Math.max.name, Cond.static Lib.Math.max.name, Cond.initialized "java/lang/Math", Cond.code Lib.Math.max.name Lib.Math.max.code 2 (some .int), Cond.methodLink RX3 30 yX5_set, Cond.instanceMethod yX5_set, Cond.selects RX5 yX5_set yX5_set, Cond.code yX5_set cX5_set 3 none, Cond.methodLink RX6 169 yX6_receive, Cond.instanceMethod yX6_receive, Cond.selects RX6 yX6_receive yX6_receive]
def wsX6_deliver_r3 : List Cond := [Cond.code yX6_receive cX6_receive 3 none, Cond.fieldLink RX6 28 "StrokeBoard" "knowledge" "LStrokeBoard$Knowledge;", Cond.fieldLink RX6 55 "StrokeBoard" "clocks" "LStrokeBoard$Row;", Cond.fieldLink RX6 12 "StrokeBoard" "log" "LStrokeBoard$Log;", Cond.methodLink RX6 190 Lib.Math.max.name, Cond.methodLink RX6 245 yX2_learn, Cond.instanceMethod yX2_learn, Cond.selects RX2 yX2_learn yX2_learn, Cond.initialized RX2, Cond.code yX2_learn cX2_learn 3 none, Cond.fieldLink RX2 14 "StrokeBoard$Knowledge" "known" "LStrokeBoard$Row;", Cond.methodLink RX2 27 yX5_set, Cond.methodLink RX6 82 yX5_get, Cond.methodLink RX6 201 yX4_timeOf, Cond.instanceMethod yX4_timeOf, Cond.selects RX4 yX4_timeOf yX4_timeOf, Cond.initialized RX4, Cond.code yX4_timeOf cX4_timeOf 2 (some .int), Cond.fieldLink RX4 23 "StrokeBoard$Log" "times" "LStrokeBoard$Row;", Cond.methodLink RX4 65 yX5_get, Cond.methodLink RX6 195 yX5_set, Cond.methodLink RX6 172 yX6_authorOf, Cond.static yX6_authorOf, Cond.code yX6_authorOf cX6_authorOf 1 (some .int)]
def wsX6_deliver_r4 : List Cond := [Cond.methodLink RX6 135 yX6_numberOf, Cond.static yX6_numberOf, Cond.code yX6_numberOf cX6_numberOf 1 (some .int)]
def wsX6_deliver : List Cond := .code yX6_deliver cX6_deliver 4 (some .int) :: ((wsX6_deliver_r1 ++ (wsX6_deliver_r2 ++ (wsX6_deliver_r3 ++ wsX6_deliver_r4))) ++ wsX60 ++ wsX30 ++ wsX50 ++ wsX20 ++ wsX40)
def wsX6_lose_r1 : List Cond := [Cond.constant RX6 67 (-1000000001), Cond.fieldLink RX6 38 "StrokeBoard" "links" "LStrokeBoard$Links;", Cond.constant RX6 162 (-1000000004), Cond.methodLink RX6 155 yX6_areTwoSites, Cond.instanceMethod yX6_areTwoSites, Cond.selects RX6 yX6_areTwoSites yX6_areTwoSites, Cond.initialized RX6, Cond.code yX6_areTwoSites cX6_areTwoSites 3 (some .boolean), Cond.methodLink RX6 78 yX6_isSite, Cond.instanceMethod yX6_isSite, Cond.selects RX6 yX6_isSite yX6_isSite, Cond.code yX6_isSite cX6_isSite 2 (some .boolean), Cond.fieldLink RX6 59 "StrokeBoard" "siteCount" "I", Cond.methodLink RX6 63 yX6_isWithin, Cond.static yX6_isWithin, Cond.code yX6_isWithin cX6_isWithin 3 (some .boolean), Cond.methodLink RX6 159 yX3_countIn, Cond.instanceMethod yX3_countIn, Cond.selects RX3 yX3_countIn yX3_countIn, Cond.initialized RX3, Cond.code yX3_countIn cX3_countIn 3 (some .int), Cond.fieldLink RX3 14 "StrokeBoard$Links" "counts" "LStrokeBoard$Row;", Cond.methodLink RX3 26 yX5_get, Cond.instanceMethod yX5_get]
def wsX6_lose_r2 : List Cond := [Cond.selects RX5 yX5_get yX5_get, Cond.initialized RX5, Cond.code yX5_get cX5_get 2 (some .int), Cond.fieldLink RX5 13 "StrokeBoard$Row" "cells" "[I", Cond.methodLink RX6 166 yX3_dropFirst, Cond.instanceMethod yX3_dropFirst, Cond.selects RX3 yX3_dropFirst yX3_dropFirst, Cond.code yX3_dropFirst cX3_dropFirst 7 none, Cond.fieldLink RX3 20 "StrokeBoard$Links" "messages" "LStrokeBoard$Row;", Cond.methodLink RX3 34 Lib.Math.max.name, Cond.static Lib.Math.max.name, Cond.initialized "java/lang/Math", Cond.code Lib.Math.max.name Lib.Math.max.code 2 (some .int), Cond.methodLink RX3 30 yX5_set, Cond.instanceMethod yX5_set, Cond.selects RX5 yX5_set yX5_set, Cond.code yX5_set cX5_set 3 none]
def wsX6_lose : List Cond := .code yX6_lose cX6_lose 3 (some .int) :: ((wsX6_lose_r1 ++ wsX6_lose_r2) ++ wsX60 ++ wsX30 ++ wsX50)
def wsX6_deliverLink_r1 : List Cond := [Cond.fieldLink RX6 38 "StrokeBoard" "links" "LStrokeBoard$Links;", Cond.methodLink RX6 159 yX3_countIn, Cond.instanceMethod yX3_countIn, Cond.selects RX3 yX3_countIn yX3_countIn, Cond.initialized RX3, Cond.code yX3_countIn cX3_countIn 3 (some .int), Cond.fieldLink RX3 14 "StrokeBoard$Links" "counts" "LStrokeBoard$Row;", Cond.methodLink RX3 26 yX5_get, Cond.instanceMethod yX5_get, Cond.selects RX5 yX5_get yX5_get, Cond.initialized RX5, Cond.code yX5_get cX5_get 2 (some .int), Cond.fieldLink RX5 13 "StrokeBoard$Row" "cells" "[I", Cond.methodLink RX6 163 yX3_messageIn, Cond.instanceMethod yX3_messageIn, Cond.selects RX3 yX3_messageIn yX3_messageIn, Cond.code yX3_messageIn cX3_messageIn 4 (some .int), Cond.fieldLink RX3 20 "StrokeBoard$Links" "messages" "LStrokeBoard$Row;", Cond.methodLink RX6 169 yX6_receive, Cond.instanceMethod yX6_receive, Cond.selects RX6 yX6_receive yX6_receive, Cond.initialized RX6, Cond.code yX6_receive cX6_receive 3 none, Cond.fieldLink RX6 28 "StrokeBoard" "knowledge" "LStrokeBoard$Knowledge;"]
def wsX6_deliverLink_r2 : List Cond := [Cond.fieldLink RX6 55 "StrokeBoard" "clocks" "LStrokeBoard$Row;", Cond.fieldLink RX6 12 "StrokeBoard" "log" "LStrokeBoard$Log;", Cond.methodLink RX6 190 Lib.Math.max.name, Cond.static Lib.Math.max.name, Cond.initialized "java/lang/Math", Cond.code Lib.Math.max.name Lib.Math.max.code 2 (some .int), Cond.methodLink RX6 245 yX2_learn, Cond.instanceMethod yX2_learn, Cond.selects RX2 yX2_learn yX2_learn, Cond.initialized RX2, Cond.code yX2_learn cX2_learn 3 none, Cond.fieldLink RX2 14 "StrokeBoard$Knowledge" "known" "LStrokeBoard$Row;", Cond.methodLink RX2 27 yX5_set, Cond.instanceMethod yX5_set, Cond.selects RX5 yX5_set yX5_set, Cond.code yX5_set cX5_set 3 none, Cond.methodLink RX6 82 yX5_get, Cond.methodLink RX6 201 yX4_timeOf, Cond.instanceMethod yX4_timeOf, Cond.selects RX4 yX4_timeOf yX4_timeOf, Cond.initialized RX4, Cond.code yX4_timeOf cX4_timeOf 2 (some .int), Cond.fieldLink RX4 23 "StrokeBoard$Log" "times" "LStrokeBoard$Row;", Cond.methodLink RX4 65 yX5_get]
def wsX6_deliverLink_r3 : List Cond := [Cond.methodLink RX6 195 yX5_set, Cond.methodLink RX6 166 yX3_dropFirst, Cond.instanceMethod yX3_dropFirst, Cond.selects RX3 yX3_dropFirst yX3_dropFirst, Cond.code yX3_dropFirst cX3_dropFirst 7 none, Cond.methodLink RX3 34 Lib.Math.max.name, Cond.methodLink RX3 30 yX5_set]
def wsX6_deliverLink : List Cond := .code yX6_deliverLink cX6_deliverLink 5 (some .int) :: ((wsX6_deliverLink_r1 ++ (wsX6_deliverLink_r2 ++ wsX6_deliverLink_r3)) ++ wsX60 ++ wsX30 ++ wsX50 ++ wsX20 ++ wsX40)
def wsX6_deliverAll_r1 : List Cond := [Cond.fieldLink RX6 59 "StrokeBoard" "siteCount" "I", Cond.methodLink RX6 175 yX6_deliverLink, Cond.instanceMethod yX6_deliverLink, Cond.selects RX6 yX6_deliverLink yX6_deliverLink, Cond.initialized RX6, Cond.code yX6_deliverLink cX6_deliverLink 5 (some .int), Cond.fieldLink RX6 38 "StrokeBoard" "links" "LStrokeBoard$Links;", Cond.methodLink RX6 159 yX3_countIn, Cond.instanceMethod yX3_countIn, Cond.selects RX3 yX3_countIn yX3_countIn, Cond.initialized RX3, Cond.code yX3_countIn cX3_countIn 3 (some .int), Cond.fieldLink RX3 14 "StrokeBoard$Links" "counts" "LStrokeBoard$Row;", Cond.methodLink RX3 26 yX5_get, Cond.instanceMethod yX5_get, Cond.selects RX5 yX5_get yX5_get, Cond.initialized RX5, Cond.code yX5_get cX5_get 2 (some .int), Cond.fieldLink RX5 13 "StrokeBoard$Row" "cells" "[I", Cond.methodLink RX6 163 yX3_messageIn, Cond.instanceMethod yX3_messageIn, Cond.selects RX3 yX3_messageIn yX3_messageIn, Cond.code yX3_messageIn cX3_messageIn 4 (some .int), Cond.fieldLink RX3 20 "StrokeBoard$Links" "messages" "LStrokeBoard$Row;"]
def wsX6_deliverAll_r2 : List Cond := [Cond.methodLink RX6 169 yX6_receive, Cond.instanceMethod yX6_receive, Cond.selects RX6 yX6_receive yX6_receive, Cond.code yX6_receive cX6_receive 3 none, Cond.fieldLink RX6 28 "StrokeBoard" "knowledge" "LStrokeBoard$Knowledge;", Cond.fieldLink RX6 55 "StrokeBoard" "clocks" "LStrokeBoard$Row;", Cond.fieldLink RX6 12 "StrokeBoard" "log" "LStrokeBoard$Log;", Cond.methodLink RX6 190 Lib.Math.max.name, Cond.static Lib.Math.max.name, Cond.initialized "java/lang/Math", Cond.code Lib.Math.max.name Lib.Math.max.code 2 (some .int), Cond.methodLink RX6 245 yX2_learn, Cond.instanceMethod yX2_learn, Cond.selects RX2 yX2_learn yX2_learn, Cond.initialized RX2, Cond.code yX2_learn cX2_learn 3 none, Cond.fieldLink RX2 14 "StrokeBoard$Knowledge" "known" "LStrokeBoard$Row;", Cond.methodLink RX2 27 yX5_set, Cond.instanceMethod yX5_set, Cond.selects RX5 yX5_set yX5_set, Cond.code yX5_set cX5_set 3 none, Cond.methodLink RX6 82 yX5_get, Cond.methodLink RX6 201 yX4_timeOf, Cond.instanceMethod yX4_timeOf]
def wsX6_deliverAll_r3 : List Cond := [Cond.selects RX4 yX4_timeOf yX4_timeOf, Cond.initialized RX4, Cond.code yX4_timeOf cX4_timeOf 2 (some .int), Cond.fieldLink RX4 23 "StrokeBoard$Log" "times" "LStrokeBoard$Row;", Cond.methodLink RX4 65 yX5_get, Cond.methodLink RX6 195 yX5_set, Cond.methodLink RX6 166 yX3_dropFirst, Cond.instanceMethod yX3_dropFirst, Cond.selects RX3 yX3_dropFirst yX3_dropFirst, Cond.code yX3_dropFirst cX3_dropFirst 7 none, Cond.methodLink RX3 34 Lib.Math.max.name, Cond.methodLink RX3 30 yX5_set]
def wsX6_deliverAll : List Cond := .code yX6_deliverAll cX6_deliverAll 4 (some .int) :: ((wsX6_deliverAll_r1 ++ (wsX6_deliverAll_r2 ++ wsX6_deliverAll_r3)) ++ wsX60 ++ wsX30 ++ wsX50 ++ wsX20 ++ wsX40)
def wsX6_waiting_r1 : List Cond := [Cond.fieldLink RX6 38 "StrokeBoard" "links" "LStrokeBoard$Links;", Cond.constant RX6 67 (-1000000001), Cond.methodLink RX6 155 yX6_areTwoSites, Cond.instanceMethod yX6_areTwoSites, Cond.selects RX6 yX6_areTwoSites yX6_areTwoSites, Cond.initialized RX6, Cond.code yX6_areTwoSites cX6_areTwoSites 3 (some .boolean), Cond.methodLink RX6 78 yX6_isSite, Cond.instanceMethod yX6_isSite, Cond.selects RX6 yX6_isSite yX6_isSite, Cond.code yX6_isSite cX6_isSite 2 (some .boolean), Cond.fieldLink RX6 59 "StrokeBoard" "siteCount" "I", Cond.methodLink RX6 63 yX6_isWithin, Cond.static yX6_isWithin, Cond.code yX6_isWithin cX6_isWithin 3 (some .boolean), Cond.methodLink RX6 159 yX3_countIn, Cond.instanceMethod yX3_countIn, Cond.selects RX3 yX3_countIn yX3_countIn, Cond.initialized RX3, Cond.code yX3_countIn cX3_countIn 3 (some .int), Cond.fieldLink RX3 14 "StrokeBoard$Links" "counts" "LStrokeBoard$Row;", Cond.methodLink RX3 26 yX5_get, Cond.instanceMethod yX5_get, Cond.selects RX5 yX5_get yX5_get]
def wsX6_waiting_r2 : List Cond := [Cond.initialized RX5, Cond.code yX5_get cX5_get 2 (some .int), Cond.fieldLink RX5 13 "StrokeBoard$Row" "cells" "[I"]
def wsX6_waiting : List Cond := .code yX6_waiting cX6_waiting 3 (some .int) :: ((wsX6_waiting_r1 ++ wsX6_waiting_r2) ++ wsX60 ++ wsX30 ++ wsX50)
def wsX6_gap_r1 : List Cond := [Cond.constant RX6 67 (-1000000001), Cond.fieldLink RX6 28 "StrokeBoard" "knowledge" "LStrokeBoard$Knowledge;", Cond.constant RX6 162 (-1000000004), Cond.methodLink RX6 78 yX6_isSite, Cond.instanceMethod yX6_isSite, Cond.selects RX6 yX6_isSite yX6_isSite, Cond.initialized RX6, Cond.code yX6_isSite cX6_isSite 2 (some .boolean), Cond.fieldLink RX6 59 "StrokeBoard" "siteCount" "I", Cond.methodLink RX6 63 yX6_isWithin, Cond.static yX6_isWithin, Cond.code yX6_isWithin cX6_isWithin 3 (some .boolean), Cond.methodLink RX6 178 yX6_idOf, Cond.static yX6_idOf, Cond.code yX6_idOf cX6_idOf 2 (some .int), Cond.methodLink RX6 181 yX2_has, Cond.instanceMethod yX2_has, Cond.selects RX2 yX2_has yX2_has, Cond.initialized RX2, Cond.code yX2_has cX2_has 3 (some .boolean), Cond.fieldLink RX2 14 "StrokeBoard$Knowledge" "known" "LStrokeBoard$Row;", Cond.methodLink RX2 31 yX5_get, Cond.instanceMethod yX5_get, Cond.selects RX5 yX5_get yX5_get]
def wsX6_gap_r2 : List Cond := [Cond.initialized RX5, Cond.code yX5_get cX5_get 2 (some .int), Cond.fieldLink RX5 13 "StrokeBoard$Row" "cells" "[I"]
def wsX6_gap : List Cond := .code yX6_gap cX6_gap 8 (some .int) :: ((wsX6_gap_r1 ++ wsX6_gap_r2) ++ wsX60 ++ wsX20 ++ wsX50)
def wsX6_canRepair_r1 : List Cond := [Cond.fieldLink RX6 28 "StrokeBoard" "knowledge" "LStrokeBoard$Knowledge;", Cond.methodLink RX6 254 yX2_isInGap, Cond.instanceMethod yX2_isInGap, Cond.selects RX2 yX2_isInGap yX2_isInGap, Cond.initialized RX2, Cond.code yX2_isInGap cX2_isInGap 3 (some .boolean), Cond.methodLink RX2 35 yX2_has, Cond.instanceMethod yX2_has, Cond.selects RX2 yX2_has yX2_has, Cond.code yX2_has cX2_has 3 (some .boolean), Cond.fieldLink RX2 14 "StrokeBoard$Knowledge" "known" "LStrokeBoard$Row;", Cond.methodLink RX2 31 yX5_get, Cond.instanceMethod yX5_get, Cond.selects RX5 yX5_get yX5_get, Cond.initialized RX5, Cond.code yX5_get cX5_get 2 (some .int), Cond.fieldLink RX5 13 "StrokeBoard$Row" "cells" "[I", Cond.methodLink RX2 39 yX2_hasLaterOfAuthor, Cond.instanceMethod yX2_hasLaterOfAuthor, Cond.selects RX2 yX2_hasLaterOfAuthor yX2_hasLaterOfAuthor, Cond.code yX2_hasLaterOfAuthor cX2_hasLaterOfAuthor 5 (some .boolean), Cond.static yX6_authorOf, Cond.initialized RX6, Cond.code yX6_authorOf cX6_authorOf 1 (some .int)]
def wsX6_canRepair_r2 : List Cond := [Cond.static yX6_numberOf, Cond.code yX6_numberOf cX6_numberOf 1 (some .int), Cond.static yX6_idOf, Cond.code yX6_idOf cX6_idOf 2 (some .int), Cond.methodLink RX6 181 yX2_has]
def wsX6_canRepair : List Cond := .code yX6_canRepair cX6_canRepair 4 (some .boolean) :: ((wsX6_canRepair_r1 ++ wsX6_canRepair_r2) ++ wsX60 ++ wsX20 ++ wsX50)
def wsX6_repair_r1 : List Cond := [Cond.constant RX6 67 (-1000000001), Cond.methodLink RX6 155 yX6_areTwoSites, Cond.instanceMethod yX6_areTwoSites, Cond.selects RX6 yX6_areTwoSites yX6_areTwoSites, Cond.initialized RX6, Cond.code yX6_areTwoSites cX6_areTwoSites 3 (some .boolean), Cond.methodLink RX6 78 yX6_isSite, Cond.instanceMethod yX6_isSite, Cond.selects RX6 yX6_isSite yX6_isSite, Cond.code yX6_isSite cX6_isSite 2 (some .boolean), Cond.fieldLink RX6 59 "StrokeBoard" "siteCount" "I", Cond.methodLink RX6 63 yX6_isWithin, Cond.static yX6_isWithin, Cond.code yX6_isWithin cX6_isWithin 3 (some .boolean), Cond.methodLink RX6 184 yX6_canRepair, Cond.instanceMethod yX6_canRepair, Cond.selects RX6 yX6_canRepair yX6_canRepair, Cond.code yX6_canRepair cX6_canRepair 4 (some .boolean), Cond.fieldLink RX6 28 "StrokeBoard" "knowledge" "LStrokeBoard$Knowledge;", Cond.methodLink RX6 254 yX2_isInGap, Cond.instanceMethod yX2_isInGap, Cond.selects RX2 yX2_isInGap yX2_isInGap, Cond.initialized RX2, Cond.code yX2_isInGap cX2_isInGap 3 (some .boolean)]
def wsX6_repair_r2 : List Cond := [Cond.methodLink RX2 35 yX2_has, Cond.instanceMethod yX2_has, Cond.selects RX2 yX2_has yX2_has, Cond.code yX2_has cX2_has 3 (some .boolean), Cond.fieldLink RX2 14 "StrokeBoard$Knowledge" "known" "LStrokeBoard$Row;", Cond.methodLink RX2 31 yX5_get, Cond.instanceMethod yX5_get, Cond.selects RX5 yX5_get yX5_get, Cond.initialized RX5, Cond.code yX5_get cX5_get 2 (some .int), Cond.fieldLink RX5 13 "StrokeBoard$Row" "cells" "[I", Cond.methodLink RX2 39 yX2_hasLaterOfAuthor, Cond.instanceMethod yX2_hasLaterOfAuthor, Cond.selects RX2 yX2_hasLaterOfAuthor yX2_hasLaterOfAuthor, Cond.code yX2_hasLaterOfAuthor cX2_hasLaterOfAuthor 5 (some .boolean), Cond.static yX6_authorOf, Cond.code yX6_authorOf cX6_authorOf 1 (some .int), Cond.static yX6_numberOf, Cond.code yX6_numberOf cX6_numberOf 1 (some .int), Cond.static yX6_idOf, Cond.code yX6_idOf cX6_idOf 2 (some .int), Cond.methodLink RX6 181 yX2_has, Cond.methodLink RX6 169 yX6_receive, Cond.instanceMethod yX6_receive]
def wsX6_repair_r3 : List Cond := [Cond.selects RX6 yX6_receive yX6_receive, Cond.code yX6_receive cX6_receive 3 none, Cond.fieldLink RX6 55 "StrokeBoard" "clocks" "LStrokeBoard$Row;", Cond.fieldLink RX6 12 "StrokeBoard" "log" "LStrokeBoard$Log;", Cond.methodLink RX6 190 Lib.Math.max.name, Cond.static Lib.Math.max.name, Cond.initialized "java/lang/Math", Cond.code Lib.Math.max.name Lib.Math.max.code 2 (some .int), Cond.methodLink RX6 245 yX2_learn, Cond.instanceMethod yX2_learn, Cond.selects RX2 yX2_learn yX2_learn, Cond.code yX2_learn cX2_learn 3 none, Cond.methodLink RX2 27 yX5_set, Cond.instanceMethod yX5_set, Cond.selects RX5 yX5_set yX5_set, Cond.code yX5_set cX5_set 3 none, Cond.methodLink RX6 82 yX5_get, Cond.methodLink RX6 201 yX4_timeOf, Cond.instanceMethod yX4_timeOf, Cond.selects RX4 yX4_timeOf yX4_timeOf, Cond.initialized RX4, Cond.code yX4_timeOf cX4_timeOf 2 (some .int), Cond.fieldLink RX4 23 "StrokeBoard$Log" "times" "LStrokeBoard$Row;", Cond.methodLink RX4 65 yX5_get]
def wsX6_repair_r4 : List Cond := [Cond.methodLink RX6 195 yX5_set]
def wsX6_repair : List Cond := .code yX6_repair cX6_repair 5 (some .int) :: ((wsX6_repair_r1 ++ (wsX6_repair_r2 ++ (wsX6_repair_r3 ++ wsX6_repair_r4))) ++ wsX60 ++ wsX20 ++ wsX50 ++ wsX40)
def wsX6_transfer_r1 : List Cond := [Cond.constant RX6 67 (-1000000001), Cond.fieldLink RX6 28 "StrokeBoard" "knowledge" "LStrokeBoard$Knowledge;", Cond.fieldLink RX6 12 "StrokeBoard" "log" "LStrokeBoard$Log;", Cond.fieldLink RX6 55 "StrokeBoard" "clocks" "LStrokeBoard$Row;", Cond.methodLink RX6 190 Lib.Math.max.name, Cond.static Lib.Math.max.name, Cond.initialized "java/lang/Math", Cond.code Lib.Math.max.name Lib.Math.max.code 2 (some .int), Cond.methodLink RX6 155 yX6_areTwoSites, Cond.instanceMethod yX6_areTwoSites, Cond.selects RX6 yX6_areTwoSites yX6_areTwoSites, Cond.initialized RX6, Cond.code yX6_areTwoSites cX6_areTwoSites 3 (some .boolean), Cond.methodLink RX6 78 yX6_isSite, Cond.instanceMethod yX6_isSite, Cond.selects RX6 yX6_isSite yX6_isSite, Cond.code yX6_isSite cX6_isSite 2 (some .boolean), Cond.fieldLink RX6 59 "StrokeBoard" "siteCount" "I", Cond.methodLink RX6 63 yX6_isWithin, Cond.static yX6_isWithin, Cond.code yX6_isWithin cX6_isWithin 3 (some .boolean), Cond.methodLink RX6 181 yX2_has, Cond.instanceMethod yX2_has, Cond.selects RX2 yX2_has yX2_has]
def wsX6_transfer_r2 : List Cond := [Cond.initialized RX2, Cond.code yX2_has cX2_has 3 (some .boolean), Cond.fieldLink RX2 14 "StrokeBoard$Knowledge" "known" "LStrokeBoard$Row;", Cond.methodLink RX2 31 yX5_get, Cond.instanceMethod yX5_get, Cond.selects RX5 yX5_get yX5_get, Cond.initialized RX5, Cond.code yX5_get cX5_get 2 (some .int), Cond.fieldLink RX5 13 "StrokeBoard$Row" "cells" "[I", Cond.methodLink RX6 169 yX6_receive, Cond.instanceMethod yX6_receive, Cond.selects RX6 yX6_receive yX6_receive, Cond.code yX6_receive cX6_receive 3 none, Cond.methodLink RX6 245 yX2_learn, Cond.instanceMethod yX2_learn, Cond.selects RX2 yX2_learn yX2_learn, Cond.code yX2_learn cX2_learn 3 none, Cond.methodLink RX2 27 yX5_set, Cond.instanceMethod yX5_set, Cond.selects RX5 yX5_set yX5_set, Cond.code yX5_set cX5_set 3 none, Cond.methodLink RX6 82 yX5_get, Cond.methodLink RX6 201 yX4_timeOf, Cond.instanceMethod yX4_timeOf]
def wsX6_transfer_r3 : List Cond := [Cond.selects RX4 yX4_timeOf yX4_timeOf, Cond.initialized RX4, Cond.code yX4_timeOf cX4_timeOf 2 (some .int), Cond.fieldLink RX4 23 "StrokeBoard$Log" "times" "LStrokeBoard$Row;", Cond.methodLink RX4 65 yX5_get, Cond.methodLink RX6 195 yX5_set, Cond.methodLink RX6 187 yX4_sizeOf, Cond.instanceMethod yX4_sizeOf, Cond.selects RX4 yX4_sizeOf yX4_sizeOf, Cond.code yX4_sizeOf cX4_sizeOf 2 (some .int), Cond.fieldLink RX4 20 "StrokeBoard$Log" "kinds" "LStrokeBoard$Row;", Cond.fieldLink RX4 38 "StrokeBoard$Log" "ink" "LStrokeBoard$Ink;", Cond.methodLink RX4 87 yX1_sizeOf, Cond.instanceMethod yX1_sizeOf, Cond.selects RX1 yX1_sizeOf yX1_sizeOf, Cond.initialized RX1, Cond.code yX1_sizeOf cX1_sizeOf 5 (some .int), Cond.fieldLink RX1 14 "StrokeBoard$Ink" "counts" "LStrokeBoard$Row;", Cond.methodLink RX1 42 yX5_get, Cond.methodLink RX1 59 yX1_xOf, Cond.instanceMethod yX1_xOf, Cond.selects RX1 yX1_xOf yX1_xOf, Cond.code yX1_xOf cX1_xOf 3 (some .int), Cond.fieldLink RX1 26 "StrokeBoard$Ink" "xs" "LStrokeBoard$Row;"]
def wsX6_transfer_r4 : List Cond := [Cond.methodLink RX1 63 yX1_yOf, Cond.instanceMethod yX1_yOf, Cond.selects RX1 yX1_yOf yX1_yOf, Cond.code yX1_yOf cX1_yOf 3 (some .int), Cond.fieldLink RX1 29 "StrokeBoard$Ink" "ys" "LStrokeBoard$Row;"]
def wsX6_transfer : List Cond := .code yX6_transfer cX6_transfer 5 (some .int) :: ((wsX6_transfer_r1 ++ (wsX6_transfer_r2 ++ (wsX6_transfer_r3 ++ wsX6_transfer_r4))) ++ wsX60 ++ wsX20 ++ wsX50 ++ wsX40 ++ wsX10)
def wsX6_operation_r1 : List Cond := [Cond.constant RX6 67 (-1000000001), Cond.fieldLink RX6 12 "StrokeBoard" "log" "LStrokeBoard$Log;", Cond.constant RX6 162 (-1000000004), Cond.methodLink RX6 78 yX6_isSite, Cond.instanceMethod yX6_isSite, Cond.selects RX6 yX6_isSite yX6_isSite, Cond.initialized RX6, Cond.code yX6_isSite cX6_isSite 2 (some .boolean), Cond.fieldLink RX6 59 "StrokeBoard" "siteCount" "I", Cond.methodLink RX6 63 yX6_isWithin, Cond.static yX6_isWithin, Cond.code yX6_isWithin cX6_isWithin 3 (some .boolean), Cond.methodLink RX6 89 yX4_madeBy, Cond.instanceMethod yX4_madeBy, Cond.selects RX4 yX4_madeBy yX4_madeBy, Cond.initialized RX4, Cond.code yX4_madeBy cX4_madeBy 2 (some .int), Cond.fieldLink RX4 14 "StrokeBoard$Log" "made" "LStrokeBoard$Row;", Cond.methodLink RX4 65 yX5_get, Cond.instanceMethod yX5_get, Cond.selects RX5 yX5_get yX5_get, Cond.initialized RX5, Cond.code yX5_get cX5_get 2 (some .int), Cond.fieldLink RX5 13 "StrokeBoard$Row" "cells" "[I"]
def wsX6_operation_r2 : List Cond := [Cond.methodLink RX6 178 yX6_idOf, Cond.static yX6_idOf, Cond.code yX6_idOf cX6_idOf 2 (some .int), Cond.methodLink RX6 198 yX4_kindOf, Cond.instanceMethod yX4_kindOf, Cond.selects RX4 yX4_kindOf yX4_kindOf, Cond.code yX4_kindOf cX4_kindOf 2 (some .int), Cond.fieldLink RX4 20 "StrokeBoard$Log" "kinds" "LStrokeBoard$Row;", Cond.methodLink RX6 201 yX4_timeOf, Cond.instanceMethod yX4_timeOf, Cond.selects RX4 yX4_timeOf yX4_timeOf, Cond.code yX4_timeOf cX4_timeOf 2 (some .int), Cond.fieldLink RX4 23 "StrokeBoard$Log" "times" "LStrokeBoard$Row;", Cond.methodLink RX6 187 yX4_sizeOf, Cond.instanceMethod yX4_sizeOf, Cond.selects RX4 yX4_sizeOf yX4_sizeOf, Cond.code yX4_sizeOf cX4_sizeOf 2 (some .int), Cond.fieldLink RX4 38 "StrokeBoard$Log" "ink" "LStrokeBoard$Ink;", Cond.methodLink RX4 87 yX1_sizeOf, Cond.instanceMethod yX1_sizeOf, Cond.selects RX1 yX1_sizeOf yX1_sizeOf, Cond.initialized RX1, Cond.code yX1_sizeOf cX1_sizeOf 5 (some .int), Cond.fieldLink RX1 14 "StrokeBoard$Ink" "counts" "LStrokeBoard$Row;"]
def wsX6_operation_r3 : List Cond := [Cond.methodLink RX1 42 yX5_get, Cond.methodLink RX1 59 yX1_xOf, Cond.instanceMethod yX1_xOf, Cond.selects RX1 yX1_xOf yX1_xOf, Cond.code yX1_xOf cX1_xOf 3 (some .int), Cond.fieldLink RX1 26 "StrokeBoard$Ink" "xs" "LStrokeBoard$Row;", Cond.methodLink RX1 63 yX1_yOf, Cond.instanceMethod yX1_yOf, Cond.selects RX1 yX1_yOf yX1_yOf, Cond.code yX1_yOf cX1_yOf 3 (some .int), Cond.fieldLink RX1 29 "StrokeBoard$Ink" "ys" "LStrokeBoard$Row;", Cond.methodLink RX6 204 yX4_isStroke, Cond.instanceMethod yX4_isStroke, Cond.selects RX4 yX4_isStroke yX4_isStroke, Cond.code yX4_isStroke cX4_isStroke 2 (some .boolean), Cond.methodLink RX6 100 yX1_pointCount, Cond.instanceMethod yX1_pointCount, Cond.selects RX1 yX1_pointCount yX1_pointCount, Cond.code yX1_pointCount cX1_pointCount 2 (some .int), Cond.methodLink RX6 210 yX4_targetOf, Cond.instanceMethod yX4_targetOf, Cond.selects RX4 yX4_targetOf yX4_targetOf, Cond.code yX4_targetOf cX4_targetOf 2 (some .int), Cond.fieldLink RX4 26 "StrokeBoard$Log" "targets" "LStrokeBoard$Row;"]
def wsX6_operation_r4 : List Cond := [Cond.methodLink RX6 135 yX6_numberOf, Cond.static yX6_numberOf, Cond.code yX6_numberOf cX6_numberOf 1 (some .int), Cond.methodLink RX6 172 yX6_authorOf, Cond.static yX6_authorOf, Cond.code yX6_authorOf cX6_authorOf 1 (some .int), Cond.methodLink RX6 213 yX4_layerOf, Cond.instanceMethod yX4_layerOf, Cond.selects RX4 yX4_layerOf yX4_layerOf, Cond.code yX4_layerOf cX4_layerOf 2 (some .int), Cond.fieldLink RX4 29 "StrokeBoard$Log" "layers" "LStrokeBoard$Row;"]
def wsX6_operation : List Cond := .code yX6_operation cX6_operation 5 (some .int) :: ((wsX6_operation_r1 ++ (wsX6_operation_r2 ++ (wsX6_operation_r3 ++ wsX6_operation_r4))) ++ wsX60 ++ wsX40 ++ wsX50 ++ wsX10)
def wsX6_knows_r1 : List Cond := [Cond.constant RX6 67 (-1000000001), Cond.fieldLink RX6 12 "StrokeBoard" "log" "LStrokeBoard$Log;", Cond.constant RX6 162 (-1000000004), Cond.fieldLink RX6 28 "StrokeBoard" "knowledge" "LStrokeBoard$Knowledge;", Cond.methodLink RX6 78 yX6_isSite, Cond.instanceMethod yX6_isSite, Cond.selects RX6 yX6_isSite yX6_isSite, Cond.initialized RX6, Cond.code yX6_isSite cX6_isSite 2 (some .boolean), Cond.fieldLink RX6 59 "StrokeBoard" "siteCount" "I", Cond.methodLink RX6 63 yX6_isWithin, Cond.static yX6_isWithin, Cond.code yX6_isWithin cX6_isWithin 3 (some .boolean), Cond.methodLink RX6 89 yX4_madeBy, Cond.instanceMethod yX4_madeBy, Cond.selects RX4 yX4_madeBy yX4_madeBy, Cond.initialized RX4, Cond.code yX4_madeBy cX4_madeBy 2 (some .int), Cond.fieldLink RX4 14 "StrokeBoard$Log" "made" "LStrokeBoard$Row;", Cond.methodLink RX4 65 yX5_get, Cond.instanceMethod yX5_get, Cond.selects RX5 yX5_get yX5_get, Cond.initialized RX5, Cond.code yX5_get cX5_get 2 (some .int)]
def wsX6_knows_r2 : List Cond := [Cond.fieldLink RX5 13 "StrokeBoard$Row" "cells" "[I", Cond.methodLink RX6 178 yX6_idOf, Cond.static yX6_idOf, Cond.code yX6_idOf cX6_idOf 2 (some .int), Cond.methodLink RX6 181 yX2_has, Cond.instanceMethod yX2_has, Cond.selects RX2 yX2_has yX2_has, Cond.initialized RX2, Cond.code yX2_has cX2_has 3 (some .boolean), Cond.fieldLink RX2 14 "StrokeBoard$Knowledge" "known" "LStrokeBoard$Row;", Cond.methodLink RX2 31 yX5_get]
def wsX6_knows : List Cond := .code yX6_knows cX6_knows 4 (some .int) :: ((wsX6_knows_r1 ++ wsX6_knows_r2) ++ wsX60 ++ wsX40 ++ wsX50 ++ wsX20)
def wsX6_coordinate : List Cond := .code yX6_coordinate cX6_coordinate 4 (some .int) :: ([.fieldLink RX6 12 "StrokeBoard" "log" "LStrokeBoard$Log;", .constant RX6 162 (-1000000004), .methodLink RX6 100 yX1_pointCount, .instanceMethod yX1_pointCount, .selects RX1 yX1_pointCount yX1_pointCount, .initialized RX1, .code yX1_pointCount cX1_pointCount 2 (some .int), .fieldLink RX1 14 "StrokeBoard$Ink" "counts" "LStrokeBoard$Row;", .methodLink RX1 42 yX5_get, .instanceMethod yX5_get, .selects RX5 yX5_get yX5_get, .initialized RX5, .code yX5_get cX5_get 2 (some .int), .fieldLink RX5 13 "StrokeBoard$Row" "cells" "[I", .methodLink RX6 111 yX1_xOf, .instanceMethod yX1_xOf, .selects RX1 yX1_xOf yX1_xOf, .code yX1_xOf cX1_xOf 3 (some .int), .fieldLink RX1 26 "StrokeBoard$Ink" "xs" "LStrokeBoard$Row;", .methodLink RX6 115 yX1_yOf, .instanceMethod yX1_yOf, .selects RX1 yX1_yOf yX1_yOf, .code yX1_yOf cX1_yOf 3 (some .int), .fieldLink RX1 29 "StrokeBoard$Ink" "ys" "LStrokeBoard$Row;"] ++ wsX60 ++ wsX40 ++ wsX10 ++ wsX50)
def wsX6_strokeValue_r1 : List Cond := [Cond.fieldLink RX6 45 "StrokeBoard" "board" "LStrokeBoard$Board;", Cond.fieldLink RX6 12 "StrokeBoard" "log" "LStrokeBoard$Log;", Cond.methodLink RX6 172 yX6_authorOf, Cond.static yX6_authorOf, Cond.initialized RX6, Cond.code yX6_authorOf cX6_authorOf 1 (some .int), Cond.methodLink RX6 135 yX6_numberOf, Cond.static yX6_numberOf, Cond.code yX6_numberOf cX6_numberOf 1 (some .int), Cond.methodLink RX6 257 yX0_layerOf, Cond.instanceMethod yX0_layerOf, Cond.selects RX0 yX0_layerOf yX0_layerOf, Cond.initialized RX0, Cond.code yX0_layerOf cX0_layerOf 2 (some .int), Cond.fieldLink RX0 20 "StrokeBoard$Board" "layers" "LStrokeBoard$Row;", Cond.methodLink RX0 79 yX5_get, Cond.instanceMethod yX5_get, Cond.selects RX5 yX5_get yX5_get, Cond.initialized RX5, Cond.code yX5_get cX5_get 2 (some .int), Cond.fieldLink RX5 13 "StrokeBoard$Row" "cells" "[I", Cond.methodLink RX6 258 yX1_colorOf, Cond.instanceMethod yX1_colorOf, Cond.selects RX1 yX1_colorOf yX1_colorOf]
def wsX6_strokeValue_r2 : List Cond := [Cond.initialized RX1, Cond.code yX1_colorOf cX1_colorOf 2 (some .int), Cond.fieldLink RX1 20 "StrokeBoard$Ink" "colors" "LStrokeBoard$Row;", Cond.methodLink RX1 42 yX5_get, Cond.methodLink RX6 100 yX1_pointCount, Cond.instanceMethod yX1_pointCount, Cond.selects RX1 yX1_pointCount yX1_pointCount, Cond.code yX1_pointCount cX1_pointCount 2 (some .int), Cond.fieldLink RX1 14 "StrokeBoard$Ink" "counts" "LStrokeBoard$Row;"]
def wsX6_strokeValue : List Cond := .code yX6_strokeValue cX6_strokeValue 3 (some .int) :: ((wsX6_strokeValue_r1 ++ wsX6_strokeValue_r2) ++ wsX60 ++ wsX40 ++ wsX00 ++ wsX50 ++ wsX10)
def wsX6_stroke_r1 : List Cond := [Cond.constant RX6 67 (-1000000001), Cond.fieldLink RX6 45 "StrokeBoard" "board" "LStrokeBoard$Board;", Cond.fieldLink RX6 12 "StrokeBoard" "log" "LStrokeBoard$Log;", Cond.fieldLink RX6 28 "StrokeBoard" "knowledge" "LStrokeBoard$Knowledge;", Cond.constant RX6 162 (-1000000004), Cond.methodLink RX6 63 yX6_isWithin, Cond.static yX6_isWithin, Cond.initialized RX6, Cond.code yX6_isWithin cX6_isWithin 3 (some .boolean), Cond.methodLink RX6 78 yX6_isSite, Cond.instanceMethod yX6_isSite, Cond.selects RX6 yX6_isSite yX6_isSite, Cond.code yX6_isSite cX6_isSite 2 (some .boolean), Cond.fieldLink RX6 59 "StrokeBoard" "siteCount" "I", Cond.methodLink RX6 92 yX0_show, Cond.instanceMethod yX0_show, Cond.selects RX0 yX0_show yX0_show, Cond.initialized RX0, Cond.code yX0_show cX0_show 7 none, Cond.fieldLink RX0 14 "StrokeBoard$Board" "undone" "LStrokeBoard$Row;", Cond.fieldLink RX0 20 "StrokeBoard$Board" "layers" "LStrokeBoard$Row;", Cond.fieldLink RX0 40 "StrokeBoard$Board" "count" "I", Cond.methodLink RX0 26 yX4_totalCount, Cond.instanceMethod yX4_totalCount]
def wsX6_stroke_r2 : List Cond := [Cond.selects RX4 yX4_totalCount yX4_totalCount, Cond.initialized RX4, Cond.code yX4_totalCount cX4_totalCount 1 (some .int), Cond.fieldLink RX4 45 "StrokeBoard$Log" "total" "I", Cond.methodLink RX0 32 yX5_fill, Cond.instanceMethod yX5_fill, Cond.selects RX5 yX5_fill yX5_fill, Cond.initialized RX5, Cond.code yX5_fill cX5_fill 3 none, Cond.fieldLink RX5 13 "StrokeBoard$Row" "cells" "[I", Cond.methodLink RX0 36 yX5_copyFrom, Cond.instanceMethod yX5_copyFrom, Cond.selects RX5 yX5_copyFrom yX5_copyFrom, Cond.code yX5_copyFrom cX5_copyFrom 3 none, Cond.methodLink RX5 19 yX5_get, Cond.instanceMethod yX5_get, Cond.selects RX5 yX5_get yX5_get, Cond.code yX5_get cX5_get 2 (some .int), Cond.methodLink RX0 44 yX4_inOrder, Cond.instanceMethod yX4_inOrder, Cond.selects RX4 yX4_inOrder yX4_inOrder, Cond.code yX4_inOrder cX4_inOrder 2 (some .int), Cond.fieldLink RX4 32 "StrokeBoard$Log" "order" "LStrokeBoard$Row;", Cond.methodLink RX4 65 yX5_get]
def wsX6_stroke_r3 : List Cond := [Cond.methodLink RX0 48 yX2_has, Cond.instanceMethod yX2_has, Cond.selects RX2 yX2_has yX2_has, Cond.initialized RX2, Cond.code yX2_has cX2_has 3 (some .boolean), Cond.fieldLink RX2 14 "StrokeBoard$Knowledge" "known" "LStrokeBoard$Row;", Cond.methodLink RX2 31 yX5_get, Cond.methodLink RX0 54 yX0_apply, Cond.instanceMethod yX0_apply, Cond.selects RX0 yX0_apply yX0_apply, Cond.code yX0_apply cX0_apply 4 none, Cond.methodLink RX0 62 yX4_targetOf, Cond.instanceMethod yX4_targetOf, Cond.selects RX4 yX4_targetOf yX4_targetOf, Cond.code yX4_targetOf cX4_targetOf 2 (some .int), Cond.fieldLink RX4 26 "StrokeBoard$Log" "targets" "LStrokeBoard$Row;", Cond.methodLink RX0 65 yX4_kindOf, Cond.instanceMethod yX4_kindOf, Cond.selects RX4 yX4_kindOf yX4_kindOf, Cond.code yX4_kindOf cX4_kindOf 2 (some .int), Cond.fieldLink RX4 20 "StrokeBoard$Log" "kinds" "LStrokeBoard$Row;", Cond.methodLink RX0 68 yX5_set, Cond.instanceMethod yX5_set, Cond.selects RX5 yX5_set yX5_set]
def wsX6_stroke_r4 : List Cond := [Cond.code yX5_set cX5_set 3 none, Cond.methodLink RX0 72 yX4_layerOf, Cond.instanceMethod yX4_layerOf, Cond.selects RX4 yX4_layerOf yX4_layerOf, Cond.code yX4_layerOf cX4_layerOf 2 (some .int), Cond.fieldLink RX4 29 "StrokeBoard$Log" "layers" "LStrokeBoard$Row;", Cond.methodLink RX0 58 yX0_collect, Cond.instanceMethod yX0_collect, Cond.selects RX0 yX0_collect yX0_collect, Cond.code yX0_collect cX0_collect 8 none, Cond.fieldLink RX0 23 "StrokeBoard$Board" "strokes" "LStrokeBoard$Row;", Cond.methodLink RX0 75 yX4_isStroke, Cond.instanceMethod yX4_isStroke, Cond.selects RX4 yX4_isStroke yX4_isStroke, Cond.code yX4_isStroke cX4_isStroke 2 (some .boolean), Cond.methodLink RX0 79 yX5_get, Cond.methodLink RX0 82 yX0_isUndone, Cond.instanceMethod yX0_isUndone, Cond.selects RX0 yX0_isUndone yX0_isUndone, Cond.code yX0_isUndone cX0_isUndone 2 (some .boolean), Cond.methodLink RX6 96 yX0_strokeCount, Cond.instanceMethod yX0_strokeCount, Cond.selects RX0 yX0_strokeCount yX0_strokeCount, Cond.code yX0_strokeCount cX0_strokeCount 1 (some .int)]
def wsX6_stroke_r5 : List Cond := [Cond.methodLink RX6 148 yX0_strokeIn, Cond.instanceMethod yX0_strokeIn, Cond.selects RX0 yX0_strokeIn yX0_strokeIn, Cond.code yX0_strokeIn cX0_strokeIn 2 (some .int), Cond.methodLink RX6 216 yX6_coordinate, Cond.instanceMethod yX6_coordinate, Cond.selects RX6 yX6_coordinate yX6_coordinate, Cond.code yX6_coordinate cX6_coordinate 4 (some .int), Cond.methodLink RX6 100 yX1_pointCount, Cond.instanceMethod yX1_pointCount, Cond.selects RX1 yX1_pointCount yX1_pointCount, Cond.initialized RX1, Cond.code yX1_pointCount cX1_pointCount 2 (some .int), Cond.fieldLink RX1 14 "StrokeBoard$Ink" "counts" "LStrokeBoard$Row;", Cond.methodLink RX1 42 yX5_get, Cond.methodLink RX6 111 yX1_xOf, Cond.instanceMethod yX1_xOf, Cond.selects RX1 yX1_xOf yX1_xOf, Cond.code yX1_xOf cX1_xOf 3 (some .int), Cond.fieldLink RX1 26 "StrokeBoard$Ink" "xs" "LStrokeBoard$Row;", Cond.methodLink RX6 115 yX1_yOf, Cond.instanceMethod yX1_yOf, Cond.selects RX1 yX1_yOf yX1_yOf, Cond.code yX1_yOf cX1_yOf 3 (some .int)]
def wsX6_stroke_r6 : List Cond := [Cond.fieldLink RX1 29 "StrokeBoard$Ink" "ys" "LStrokeBoard$Row;", Cond.methodLink RX6 219 yX6_strokeValue, Cond.instanceMethod yX6_strokeValue, Cond.selects RX6 yX6_strokeValue yX6_strokeValue, Cond.code yX6_strokeValue cX6_strokeValue 3 (some .int), Cond.methodLink RX6 172 yX6_authorOf, Cond.static yX6_authorOf, Cond.code yX6_authorOf cX6_authorOf 1 (some .int), Cond.methodLink RX6 135 yX6_numberOf, Cond.static yX6_numberOf, Cond.code yX6_numberOf cX6_numberOf 1 (some .int), Cond.methodLink RX6 257 yX0_layerOf, Cond.instanceMethod yX0_layerOf, Cond.selects RX0 yX0_layerOf yX0_layerOf, Cond.code yX0_layerOf cX0_layerOf 2 (some .int), Cond.methodLink RX6 258 yX1_colorOf, Cond.instanceMethod yX1_colorOf, Cond.selects RX1 yX1_colorOf yX1_colorOf, Cond.code yX1_colorOf cX1_colorOf 2 (some .int), Cond.fieldLink RX1 20 "StrokeBoard$Ink" "colors" "LStrokeBoard$Row;"]
def wsX6_stroke : List Cond := .code yX6_stroke cX6_stroke 6 (some .int) :: ((wsX6_stroke_r1 ++ (wsX6_stroke_r2 ++ (wsX6_stroke_r3 ++ (wsX6_stroke_r4 ++ (wsX6_stroke_r5 ++ wsX6_stroke_r6))))) ++ wsX60 ++ wsX00 ++ wsX40 ++ wsX50 ++ wsX20 ++ wsX10)
def wsX6_strokeAt_r1 : List Cond := [Cond.constant RX6 67 (-1000000001), Cond.fieldLink RX6 45 "StrokeBoard" "board" "LStrokeBoard$Board;", Cond.fieldLink RX6 12 "StrokeBoard" "log" "LStrokeBoard$Log;", Cond.fieldLink RX6 28 "StrokeBoard" "knowledge" "LStrokeBoard$Knowledge;", Cond.constant RX6 162 (-1000000004), Cond.methodLink RX6 78 yX6_isSite, Cond.instanceMethod yX6_isSite, Cond.selects RX6 yX6_isSite yX6_isSite, Cond.initialized RX6, Cond.code yX6_isSite cX6_isSite 2 (some .boolean), Cond.fieldLink RX6 59 "StrokeBoard" "siteCount" "I", Cond.methodLink RX6 63 yX6_isWithin, Cond.static yX6_isWithin, Cond.code yX6_isWithin cX6_isWithin 3 (some .boolean), Cond.methodLink RX6 92 yX0_show, Cond.instanceMethod yX0_show, Cond.selects RX0 yX0_show yX0_show, Cond.initialized RX0, Cond.code yX0_show cX0_show 7 none, Cond.fieldLink RX0 14 "StrokeBoard$Board" "undone" "LStrokeBoard$Row;", Cond.fieldLink RX0 20 "StrokeBoard$Board" "layers" "LStrokeBoard$Row;", Cond.fieldLink RX0 40 "StrokeBoard$Board" "count" "I", Cond.methodLink RX0 26 yX4_totalCount, Cond.instanceMethod yX4_totalCount]
def wsX6_strokeAt_r2 : List Cond := [Cond.selects RX4 yX4_totalCount yX4_totalCount, Cond.initialized RX4, Cond.code yX4_totalCount cX4_totalCount 1 (some .int), Cond.fieldLink RX4 45 "StrokeBoard$Log" "total" "I", Cond.methodLink RX0 32 yX5_fill, Cond.instanceMethod yX5_fill, Cond.selects RX5 yX5_fill yX5_fill, Cond.initialized RX5, Cond.code yX5_fill cX5_fill 3 none, Cond.fieldLink RX5 13 "StrokeBoard$Row" "cells" "[I", Cond.methodLink RX0 36 yX5_copyFrom, Cond.instanceMethod yX5_copyFrom, Cond.selects RX5 yX5_copyFrom yX5_copyFrom, Cond.code yX5_copyFrom cX5_copyFrom 3 none, Cond.methodLink RX5 19 yX5_get, Cond.instanceMethod yX5_get, Cond.selects RX5 yX5_get yX5_get, Cond.code yX5_get cX5_get 2 (some .int), Cond.methodLink RX0 44 yX4_inOrder, Cond.instanceMethod yX4_inOrder, Cond.selects RX4 yX4_inOrder yX4_inOrder, Cond.code yX4_inOrder cX4_inOrder 2 (some .int), Cond.fieldLink RX4 32 "StrokeBoard$Log" "order" "LStrokeBoard$Row;", Cond.methodLink RX4 65 yX5_get]
def wsX6_strokeAt_r3 : List Cond := [Cond.methodLink RX0 48 yX2_has, Cond.instanceMethod yX2_has, Cond.selects RX2 yX2_has yX2_has, Cond.initialized RX2, Cond.code yX2_has cX2_has 3 (some .boolean), Cond.fieldLink RX2 14 "StrokeBoard$Knowledge" "known" "LStrokeBoard$Row;", Cond.methodLink RX2 31 yX5_get, Cond.methodLink RX0 54 yX0_apply, Cond.instanceMethod yX0_apply, Cond.selects RX0 yX0_apply yX0_apply, Cond.code yX0_apply cX0_apply 4 none, Cond.methodLink RX0 62 yX4_targetOf, Cond.instanceMethod yX4_targetOf, Cond.selects RX4 yX4_targetOf yX4_targetOf, Cond.code yX4_targetOf cX4_targetOf 2 (some .int), Cond.fieldLink RX4 26 "StrokeBoard$Log" "targets" "LStrokeBoard$Row;", Cond.methodLink RX0 65 yX4_kindOf, Cond.instanceMethod yX4_kindOf, Cond.selects RX4 yX4_kindOf yX4_kindOf, Cond.code yX4_kindOf cX4_kindOf 2 (some .int), Cond.fieldLink RX4 20 "StrokeBoard$Log" "kinds" "LStrokeBoard$Row;", Cond.methodLink RX0 68 yX5_set, Cond.instanceMethod yX5_set, Cond.selects RX5 yX5_set yX5_set]
def wsX6_strokeAt_r4 : List Cond := [Cond.code yX5_set cX5_set 3 none, Cond.methodLink RX0 72 yX4_layerOf, Cond.instanceMethod yX4_layerOf, Cond.selects RX4 yX4_layerOf yX4_layerOf, Cond.code yX4_layerOf cX4_layerOf 2 (some .int), Cond.fieldLink RX4 29 "StrokeBoard$Log" "layers" "LStrokeBoard$Row;", Cond.methodLink RX0 58 yX0_collect, Cond.instanceMethod yX0_collect, Cond.selects RX0 yX0_collect yX0_collect, Cond.code yX0_collect cX0_collect 8 none, Cond.fieldLink RX0 23 "StrokeBoard$Board" "strokes" "LStrokeBoard$Row;", Cond.methodLink RX0 75 yX4_isStroke, Cond.instanceMethod yX4_isStroke, Cond.selects RX4 yX4_isStroke yX4_isStroke, Cond.code yX4_isStroke cX4_isStroke 2 (some .boolean), Cond.methodLink RX0 79 yX5_get, Cond.methodLink RX0 82 yX0_isUndone, Cond.instanceMethod yX0_isUndone, Cond.selects RX0 yX0_isUndone yX0_isUndone, Cond.code yX0_isUndone cX0_isUndone 2 (some .boolean), Cond.methodLink RX6 96 yX0_strokeCount, Cond.instanceMethod yX0_strokeCount, Cond.selects RX0 yX0_strokeCount yX0_strokeCount, Cond.code yX0_strokeCount cX0_strokeCount 1 (some .int)]
def wsX6_strokeAt_r5 : List Cond := [Cond.methodLink RX6 148 yX0_strokeIn, Cond.instanceMethod yX0_strokeIn, Cond.selects RX0 yX0_strokeIn yX0_strokeIn, Cond.code yX0_strokeIn cX0_strokeIn 2 (some .int), Cond.methodLink RX6 222 yX1_hasPoint, Cond.instanceMethod yX1_hasPoint, Cond.selects RX1 yX1_hasPoint yX1_hasPoint, Cond.initialized RX1, Cond.code yX1_hasPoint cX1_hasPoint 5 (some .boolean), Cond.fieldLink RX1 14 "StrokeBoard$Ink" "counts" "LStrokeBoard$Row;", Cond.methodLink RX1 42 yX5_get, Cond.methodLink RX1 59 yX1_xOf, Cond.instanceMethod yX1_xOf, Cond.selects RX1 yX1_xOf yX1_xOf, Cond.code yX1_xOf cX1_xOf 3 (some .int), Cond.fieldLink RX1 26 "StrokeBoard$Ink" "xs" "LStrokeBoard$Row;", Cond.methodLink RX1 63 yX1_yOf, Cond.instanceMethod yX1_yOf, Cond.selects RX1 yX1_yOf yX1_yOf, Cond.code yX1_yOf cX1_yOf 3 (some .int), Cond.fieldLink RX1 29 "StrokeBoard$Ink" "ys" "LStrokeBoard$Row;"]
def wsX6_strokeAt : List Cond := .code yX6_strokeAt cX6_strokeAt 5 (some .int) :: ((wsX6_strokeAt_r1 ++ (wsX6_strokeAt_r2 ++ (wsX6_strokeAt_r3 ++ (wsX6_strokeAt_r4 ++ wsX6_strokeAt_r5)))) ++ wsX60 ++ wsX40 ++ wsX00 ++ wsX50 ++ wsX20 ++ wsX10)
def wsX6_digest_r1 : List Cond := [Cond.fieldLink RX6 45 "StrokeBoard" "board" "LStrokeBoard$Board;", Cond.fieldLink RX6 12 "StrokeBoard" "log" "LStrokeBoard$Log;", Cond.fieldLink RX6 28 "StrokeBoard" "knowledge" "LStrokeBoard$Knowledge;", Cond.methodLink RX6 78 yX6_isSite, Cond.instanceMethod yX6_isSite, Cond.selects RX6 yX6_isSite yX6_isSite, Cond.initialized RX6, Cond.code yX6_isSite cX6_isSite 2 (some .boolean), Cond.fieldLink RX6 59 "StrokeBoard" "siteCount" "I", Cond.methodLink RX6 63 yX6_isWithin, Cond.static yX6_isWithin, Cond.code yX6_isWithin cX6_isWithin 3 (some .boolean), Cond.methodLink RX6 92 yX0_show, Cond.instanceMethod yX0_show, Cond.selects RX0 yX0_show yX0_show, Cond.initialized RX0, Cond.code yX0_show cX0_show 7 none, Cond.fieldLink RX0 14 "StrokeBoard$Board" "undone" "LStrokeBoard$Row;", Cond.fieldLink RX0 20 "StrokeBoard$Board" "layers" "LStrokeBoard$Row;", Cond.fieldLink RX0 40 "StrokeBoard$Board" "count" "I", Cond.methodLink RX0 26 yX4_totalCount, Cond.instanceMethod yX4_totalCount, Cond.selects RX4 yX4_totalCount yX4_totalCount, Cond.initialized RX4]
def wsX6_digest_r2 : List Cond := [Cond.code yX4_totalCount cX4_totalCount 1 (some .int), Cond.fieldLink RX4 45 "StrokeBoard$Log" "total" "I", Cond.methodLink RX0 32 yX5_fill, Cond.instanceMethod yX5_fill, Cond.selects RX5 yX5_fill yX5_fill, Cond.initialized RX5, Cond.code yX5_fill cX5_fill 3 none, Cond.fieldLink RX5 13 "StrokeBoard$Row" "cells" "[I", Cond.methodLink RX0 36 yX5_copyFrom, Cond.instanceMethod yX5_copyFrom, Cond.selects RX5 yX5_copyFrom yX5_copyFrom, Cond.code yX5_copyFrom cX5_copyFrom 3 none, Cond.methodLink RX5 19 yX5_get, Cond.instanceMethod yX5_get, Cond.selects RX5 yX5_get yX5_get, Cond.code yX5_get cX5_get 2 (some .int), Cond.methodLink RX0 44 yX4_inOrder, Cond.instanceMethod yX4_inOrder, Cond.selects RX4 yX4_inOrder yX4_inOrder, Cond.code yX4_inOrder cX4_inOrder 2 (some .int), Cond.fieldLink RX4 32 "StrokeBoard$Log" "order" "LStrokeBoard$Row;", Cond.methodLink RX4 65 yX5_get, Cond.methodLink RX0 48 yX2_has, Cond.instanceMethod yX2_has]
def wsX6_digest_r3 : List Cond := [Cond.selects RX2 yX2_has yX2_has, Cond.initialized RX2, Cond.code yX2_has cX2_has 3 (some .boolean), Cond.fieldLink RX2 14 "StrokeBoard$Knowledge" "known" "LStrokeBoard$Row;", Cond.methodLink RX2 31 yX5_get, Cond.methodLink RX0 54 yX0_apply, Cond.instanceMethod yX0_apply, Cond.selects RX0 yX0_apply yX0_apply, Cond.code yX0_apply cX0_apply 4 none, Cond.methodLink RX0 62 yX4_targetOf, Cond.instanceMethod yX4_targetOf, Cond.selects RX4 yX4_targetOf yX4_targetOf, Cond.code yX4_targetOf cX4_targetOf 2 (some .int), Cond.fieldLink RX4 26 "StrokeBoard$Log" "targets" "LStrokeBoard$Row;", Cond.methodLink RX0 65 yX4_kindOf, Cond.instanceMethod yX4_kindOf, Cond.selects RX4 yX4_kindOf yX4_kindOf, Cond.code yX4_kindOf cX4_kindOf 2 (some .int), Cond.fieldLink RX4 20 "StrokeBoard$Log" "kinds" "LStrokeBoard$Row;", Cond.methodLink RX0 68 yX5_set, Cond.instanceMethod yX5_set, Cond.selects RX5 yX5_set yX5_set, Cond.code yX5_set cX5_set 3 none, Cond.methodLink RX0 72 yX4_layerOf]
def wsX6_digest_r4 : List Cond := [Cond.instanceMethod yX4_layerOf, Cond.selects RX4 yX4_layerOf yX4_layerOf, Cond.code yX4_layerOf cX4_layerOf 2 (some .int), Cond.fieldLink RX4 29 "StrokeBoard$Log" "layers" "LStrokeBoard$Row;", Cond.methodLink RX0 58 yX0_collect, Cond.instanceMethod yX0_collect, Cond.selects RX0 yX0_collect yX0_collect, Cond.code yX0_collect cX0_collect 8 none, Cond.fieldLink RX0 23 "StrokeBoard$Board" "strokes" "LStrokeBoard$Row;", Cond.methodLink RX0 75 yX4_isStroke, Cond.instanceMethod yX4_isStroke, Cond.selects RX4 yX4_isStroke yX4_isStroke, Cond.code yX4_isStroke cX4_isStroke 2 (some .boolean), Cond.methodLink RX0 79 yX5_get, Cond.methodLink RX0 82 yX0_isUndone, Cond.instanceMethod yX0_isUndone, Cond.selects RX0 yX0_isUndone yX0_isUndone, Cond.code yX0_isUndone cX0_isUndone 2 (some .boolean), Cond.methodLink RX6 225 yX0_hash, Cond.instanceMethod yX0_hash, Cond.selects RX0 yX0_hash yX0_hash, Cond.code yX0_hash cX0_hash 5 (some .int), Cond.static yX6_authorOf, Cond.code yX6_authorOf cX6_authorOf 1 (some .int)]
def wsX6_digest_r5 : List Cond := [Cond.static yX6_numberOf, Cond.code yX6_numberOf cX6_numberOf 1 (some .int), Cond.methodLink RX0 99 yX1_colorOf, Cond.instanceMethod yX1_colorOf, Cond.selects RX1 yX1_colorOf yX1_colorOf, Cond.initialized RX1, Cond.code yX1_colorOf cX1_colorOf 2 (some .int), Cond.fieldLink RX1 20 "StrokeBoard$Ink" "colors" "LStrokeBoard$Row;", Cond.methodLink RX1 42 yX5_get, Cond.methodLink RX0 104 yX0_hashPoints, Cond.instanceMethod yX0_hashPoints, Cond.selects RX0 yX0_hashPoints yX0_hashPoints, Cond.code yX0_hashPoints cX0_hashPoints 6 (some .int), Cond.methodLink RX0 108 yX1_pointCount, Cond.instanceMethod yX1_pointCount, Cond.selects RX1 yX1_pointCount yX1_pointCount, Cond.code yX1_pointCount cX1_pointCount 2 (some .int), Cond.fieldLink RX1 14 "StrokeBoard$Ink" "counts" "LStrokeBoard$Row;", Cond.methodLink RX0 111 yX1_xOf, Cond.instanceMethod yX1_xOf, Cond.selects RX1 yX1_xOf yX1_xOf, Cond.code yX1_xOf cX1_xOf 3 (some .int), Cond.fieldLink RX1 26 "StrokeBoard$Ink" "xs" "LStrokeBoard$Row;", Cond.methodLink RX0 115 yX1_yOf]
def wsX6_digest_r6 : List Cond := [Cond.instanceMethod yX1_yOf, Cond.selects RX1 yX1_yOf yX1_yOf, Cond.code yX1_yOf cX1_yOf 3 (some .int), Cond.fieldLink RX1 29 "StrokeBoard$Ink" "ys" "LStrokeBoard$Row;"]
def wsX6_digest : List Cond := .code yX6_digest cX6_digest 2 (some .int) :: ((wsX6_digest_r1 ++ (wsX6_digest_r2 ++ (wsX6_digest_r3 ++ (wsX6_digest_r4 ++ (wsX6_digest_r5 ++ wsX6_digest_r6))))) ++ wsX60 ++ wsX00 ++ wsX40 ++ wsX50 ++ wsX20 ++ wsX10)
def wsX6_showSame_r1 : List Cond := [Cond.fieldLink RX6 45 "StrokeBoard" "board" "LStrokeBoard$Board;", Cond.fieldLink RX6 12 "StrokeBoard" "log" "LStrokeBoard$Log;", Cond.fieldLink RX6 49 "StrokeBoard" "secondBoard" "LStrokeBoard$Board;", Cond.methodLink RX6 92 yX0_show, Cond.instanceMethod yX0_show, Cond.selects RX0 yX0_show yX0_show, Cond.initialized RX0, Cond.code yX0_show cX0_show 7 none, Cond.fieldLink RX0 14 "StrokeBoard$Board" "undone" "LStrokeBoard$Row;", Cond.fieldLink RX0 20 "StrokeBoard$Board" "layers" "LStrokeBoard$Row;", Cond.fieldLink RX0 40 "StrokeBoard$Board" "count" "I", Cond.methodLink RX0 26 yX4_totalCount, Cond.instanceMethod yX4_totalCount, Cond.selects RX4 yX4_totalCount yX4_totalCount, Cond.initialized RX4, Cond.code yX4_totalCount cX4_totalCount 1 (some .int), Cond.fieldLink RX4 45 "StrokeBoard$Log" "total" "I", Cond.methodLink RX0 32 yX5_fill, Cond.instanceMethod yX5_fill, Cond.selects RX5 yX5_fill yX5_fill, Cond.initialized RX5, Cond.code yX5_fill cX5_fill 3 none, Cond.fieldLink RX5 13 "StrokeBoard$Row" "cells" "[I", Cond.methodLink RX0 36 yX5_copyFrom]
def wsX6_showSame_r2 : List Cond := [Cond.instanceMethod yX5_copyFrom, Cond.selects RX5 yX5_copyFrom yX5_copyFrom, Cond.code yX5_copyFrom cX5_copyFrom 3 none, Cond.methodLink RX5 19 yX5_get, Cond.instanceMethod yX5_get, Cond.selects RX5 yX5_get yX5_get, Cond.code yX5_get cX5_get 2 (some .int), Cond.methodLink RX0 44 yX4_inOrder, Cond.instanceMethod yX4_inOrder, Cond.selects RX4 yX4_inOrder yX4_inOrder, Cond.code yX4_inOrder cX4_inOrder 2 (some .int), Cond.fieldLink RX4 32 "StrokeBoard$Log" "order" "LStrokeBoard$Row;", Cond.methodLink RX4 65 yX5_get, Cond.methodLink RX0 48 yX2_has, Cond.instanceMethod yX2_has, Cond.selects RX2 yX2_has yX2_has, Cond.initialized RX2, Cond.code yX2_has cX2_has 3 (some .boolean), Cond.fieldLink RX2 14 "StrokeBoard$Knowledge" "known" "LStrokeBoard$Row;", Cond.methodLink RX2 31 yX5_get, Cond.methodLink RX0 54 yX0_apply, Cond.instanceMethod yX0_apply, Cond.selects RX0 yX0_apply yX0_apply, Cond.code yX0_apply cX0_apply 4 none]
def wsX6_showSame_r3 : List Cond := [Cond.methodLink RX0 62 yX4_targetOf, Cond.instanceMethod yX4_targetOf, Cond.selects RX4 yX4_targetOf yX4_targetOf, Cond.code yX4_targetOf cX4_targetOf 2 (some .int), Cond.fieldLink RX4 26 "StrokeBoard$Log" "targets" "LStrokeBoard$Row;", Cond.methodLink RX0 65 yX4_kindOf, Cond.instanceMethod yX4_kindOf, Cond.selects RX4 yX4_kindOf yX4_kindOf, Cond.code yX4_kindOf cX4_kindOf 2 (some .int), Cond.fieldLink RX4 20 "StrokeBoard$Log" "kinds" "LStrokeBoard$Row;", Cond.methodLink RX0 68 yX5_set, Cond.instanceMethod yX5_set, Cond.selects RX5 yX5_set yX5_set, Cond.code yX5_set cX5_set 3 none, Cond.methodLink RX0 72 yX4_layerOf, Cond.instanceMethod yX4_layerOf, Cond.selects RX4 yX4_layerOf yX4_layerOf, Cond.code yX4_layerOf cX4_layerOf 2 (some .int), Cond.fieldLink RX4 29 "StrokeBoard$Log" "layers" "LStrokeBoard$Row;", Cond.methodLink RX0 58 yX0_collect, Cond.instanceMethod yX0_collect, Cond.selects RX0 yX0_collect yX0_collect, Cond.code yX0_collect cX0_collect 8 none, Cond.fieldLink RX0 23 "StrokeBoard$Board" "strokes" "LStrokeBoard$Row;"]
def wsX6_showSame_r4 : List Cond := [Cond.methodLink RX0 75 yX4_isStroke, Cond.instanceMethod yX4_isStroke, Cond.selects RX4 yX4_isStroke yX4_isStroke, Cond.code yX4_isStroke cX4_isStroke 2 (some .boolean), Cond.methodLink RX0 79 yX5_get, Cond.methodLink RX0 82 yX0_isUndone, Cond.instanceMethod yX0_isUndone, Cond.selects RX0 yX0_isUndone yX0_isUndone, Cond.code yX0_isUndone cX0_isUndone 2 (some .boolean), Cond.methodLink RX6 261 yX0_matches, Cond.instanceMethod yX0_matches, Cond.selects RX0 yX0_matches yX0_matches, Cond.code yX0_matches cX0_matches 4 (some .boolean), Cond.methodLink RX0 85 yX0_strokeIn, Cond.instanceMethod yX0_strokeIn, Cond.selects RX0 yX0_strokeIn yX0_strokeIn, Cond.code yX0_strokeIn cX0_strokeIn 2 (some .int), Cond.methodLink RX0 88 yX0_layerOf, Cond.instanceMethod yX0_layerOf, Cond.selects RX0 yX0_layerOf yX0_layerOf, Cond.code yX0_layerOf cX0_layerOf 2 (some .int)]
def wsX6_showSame : List Cond := .code yX6_showSame cX6_showSame 4 (some .boolean) :: ((wsX6_showSame_r1 ++ (wsX6_showSame_r2 ++ (wsX6_showSame_r3 ++ wsX6_showSame_r4))) ++ wsX60 ++ wsX00 ++ wsX40 ++ wsX50 ++ wsX20)
def wsX6_areSame_r1 : List Cond := [Cond.constant RX6 67 (-1000000001), Cond.fieldLink RX6 28 "StrokeBoard" "knowledge" "LStrokeBoard$Knowledge;", Cond.methodLink RX6 78 yX6_isSite, Cond.instanceMethod yX6_isSite, Cond.selects RX6 yX6_isSite yX6_isSite, Cond.initialized RX6, Cond.code yX6_isSite cX6_isSite 2 (some .boolean), Cond.fieldLink RX6 59 "StrokeBoard" "siteCount" "I", Cond.methodLink RX6 63 yX6_isWithin, Cond.static yX6_isWithin, Cond.code yX6_isWithin cX6_isWithin 3 (some .boolean), Cond.methodLink RX6 229 yX6_showSame, Cond.instanceMethod yX6_showSame, Cond.selects RX6 yX6_showSame yX6_showSame, Cond.code yX6_showSame cX6_showSame 4 (some .boolean), Cond.fieldLink RX6 45 "StrokeBoard" "board" "LStrokeBoard$Board;", Cond.fieldLink RX6 12 "StrokeBoard" "log" "LStrokeBoard$Log;", Cond.fieldLink RX6 49 "StrokeBoard" "secondBoard" "LStrokeBoard$Board;", Cond.methodLink RX6 92 yX0_show, Cond.instanceMethod yX0_show, Cond.selects RX0 yX0_show yX0_show, Cond.initialized RX0, Cond.code yX0_show cX0_show 7 none, Cond.fieldLink RX0 14 "StrokeBoard$Board" "undone" "LStrokeBoard$Row;"]
def wsX6_areSame_r2 : List Cond := [Cond.fieldLink RX0 20 "StrokeBoard$Board" "layers" "LStrokeBoard$Row;", Cond.fieldLink RX0 40 "StrokeBoard$Board" "count" "I", Cond.methodLink RX0 26 yX4_totalCount, Cond.instanceMethod yX4_totalCount, Cond.selects RX4 yX4_totalCount yX4_totalCount, Cond.initialized RX4, Cond.code yX4_totalCount cX4_totalCount 1 (some .int), Cond.fieldLink RX4 45 "StrokeBoard$Log" "total" "I", Cond.methodLink RX0 32 yX5_fill, Cond.instanceMethod yX5_fill, Cond.selects RX5 yX5_fill yX5_fill, Cond.initialized RX5, Cond.code yX5_fill cX5_fill 3 none, Cond.fieldLink RX5 13 "StrokeBoard$Row" "cells" "[I", Cond.methodLink RX0 36 yX5_copyFrom, Cond.instanceMethod yX5_copyFrom, Cond.selects RX5 yX5_copyFrom yX5_copyFrom, Cond.code yX5_copyFrom cX5_copyFrom 3 none, Cond.methodLink RX5 19 yX5_get, Cond.instanceMethod yX5_get, Cond.selects RX5 yX5_get yX5_get, Cond.code yX5_get cX5_get 2 (some .int), Cond.methodLink RX0 44 yX4_inOrder, Cond.instanceMethod yX4_inOrder]
def wsX6_areSame_r3 : List Cond := [Cond.selects RX4 yX4_inOrder yX4_inOrder, Cond.code yX4_inOrder cX4_inOrder 2 (some .int), Cond.fieldLink RX4 32 "StrokeBoard$Log" "order" "LStrokeBoard$Row;", Cond.methodLink RX4 65 yX5_get, Cond.methodLink RX0 48 yX2_has, Cond.instanceMethod yX2_has, Cond.selects RX2 yX2_has yX2_has, Cond.initialized RX2, Cond.code yX2_has cX2_has 3 (some .boolean), Cond.fieldLink RX2 14 "StrokeBoard$Knowledge" "known" "LStrokeBoard$Row;", Cond.methodLink RX2 31 yX5_get, Cond.methodLink RX0 54 yX0_apply, Cond.instanceMethod yX0_apply, Cond.selects RX0 yX0_apply yX0_apply, Cond.code yX0_apply cX0_apply 4 none, Cond.methodLink RX0 62 yX4_targetOf, Cond.instanceMethod yX4_targetOf, Cond.selects RX4 yX4_targetOf yX4_targetOf, Cond.code yX4_targetOf cX4_targetOf 2 (some .int), Cond.fieldLink RX4 26 "StrokeBoard$Log" "targets" "LStrokeBoard$Row;", Cond.methodLink RX0 65 yX4_kindOf, Cond.instanceMethod yX4_kindOf, Cond.selects RX4 yX4_kindOf yX4_kindOf, Cond.code yX4_kindOf cX4_kindOf 2 (some .int)]
def wsX6_areSame_r4 : List Cond := [Cond.fieldLink RX4 20 "StrokeBoard$Log" "kinds" "LStrokeBoard$Row;", Cond.methodLink RX0 68 yX5_set, Cond.instanceMethod yX5_set, Cond.selects RX5 yX5_set yX5_set, Cond.code yX5_set cX5_set 3 none, Cond.methodLink RX0 72 yX4_layerOf, Cond.instanceMethod yX4_layerOf, Cond.selects RX4 yX4_layerOf yX4_layerOf, Cond.code yX4_layerOf cX4_layerOf 2 (some .int), Cond.fieldLink RX4 29 "StrokeBoard$Log" "layers" "LStrokeBoard$Row;", Cond.methodLink RX0 58 yX0_collect, Cond.instanceMethod yX0_collect, Cond.selects RX0 yX0_collect yX0_collect, Cond.code yX0_collect cX0_collect 8 none, Cond.fieldLink RX0 23 "StrokeBoard$Board" "strokes" "LStrokeBoard$Row;", Cond.methodLink RX0 75 yX4_isStroke, Cond.instanceMethod yX4_isStroke, Cond.selects RX4 yX4_isStroke yX4_isStroke, Cond.code yX4_isStroke cX4_isStroke 2 (some .boolean), Cond.methodLink RX0 79 yX5_get, Cond.methodLink RX0 82 yX0_isUndone, Cond.instanceMethod yX0_isUndone, Cond.selects RX0 yX0_isUndone yX0_isUndone, Cond.code yX0_isUndone cX0_isUndone 2 (some .boolean)]
def wsX6_areSame_r5 : List Cond := [Cond.methodLink RX6 261 yX0_matches, Cond.instanceMethod yX0_matches, Cond.selects RX0 yX0_matches yX0_matches, Cond.code yX0_matches cX0_matches 4 (some .boolean), Cond.methodLink RX0 85 yX0_strokeIn, Cond.instanceMethod yX0_strokeIn, Cond.selects RX0 yX0_strokeIn yX0_strokeIn, Cond.code yX0_strokeIn cX0_strokeIn 2 (some .int), Cond.methodLink RX0 88 yX0_layerOf, Cond.instanceMethod yX0_layerOf, Cond.selects RX0 yX0_layerOf yX0_layerOf, Cond.code yX0_layerOf cX0_layerOf 2 (some .int)]
def wsX6_areSame : List Cond := .code yX6_areSame cX6_areSame 3 (some .int) :: ((wsX6_areSame_r1 ++ (wsX6_areSame_r2 ++ (wsX6_areSame_r3 ++ (wsX6_areSame_r4 ++ wsX6_areSame_r5)))) ++ wsX60 ++ wsX00 ++ wsX40 ++ wsX50 ++ wsX20)
def wsX6_lookAhead_r1 : List Cond := [Cond.fieldLink RX6 32 "StrokeBoard" "future" "LStrokeBoard$Knowledge;", Cond.fieldLink RX6 28 "StrokeBoard" "knowledge" "LStrokeBoard$Knowledge;", Cond.fieldLink RX6 59 "StrokeBoard" "siteCount" "I", Cond.fieldLink RX6 38 "StrokeBoard" "links" "LStrokeBoard$Links;", Cond.methodLink RX6 265 yX2_copyFrom, Cond.instanceMethod yX2_copyFrom, Cond.selects RX2 yX2_copyFrom yX2_copyFrom, Cond.initialized RX2, Cond.code yX2_copyFrom cX2_copyFrom 2 none, Cond.fieldLink RX2 14 "StrokeBoard$Knowledge" "known" "LStrokeBoard$Row;", Cond.methodLink RX2 23 yX5_copyFrom, Cond.instanceMethod yX5_copyFrom, Cond.selects RX5 yX5_copyFrom yX5_copyFrom, Cond.initialized RX5, Cond.code yX5_copyFrom cX5_copyFrom 3 none, Cond.fieldLink RX5 13 "StrokeBoard$Row" "cells" "[I", Cond.methodLink RX5 19 yX5_get, Cond.instanceMethod yX5_get, Cond.selects RX5 yX5_get yX5_get, Cond.code yX5_get cX5_get 2 (some .int), Cond.methodLink RX6 159 yX3_countIn, Cond.instanceMethod yX3_countIn, Cond.selects RX3 yX3_countIn yX3_countIn, Cond.initialized RX3]
def wsX6_lookAhead_r2 : List Cond := [Cond.code yX3_countIn cX3_countIn 3 (some .int), Cond.fieldLink RX3 14 "StrokeBoard$Links" "counts" "LStrokeBoard$Row;", Cond.methodLink RX3 26 yX5_get, Cond.methodLink RX6 163 yX3_messageIn, Cond.instanceMethod yX3_messageIn, Cond.selects RX3 yX3_messageIn yX3_messageIn, Cond.code yX3_messageIn cX3_messageIn 4 (some .int), Cond.fieldLink RX3 20 "StrokeBoard$Links" "messages" "LStrokeBoard$Row;", Cond.methodLink RX6 245 yX2_learn, Cond.instanceMethod yX2_learn, Cond.selects RX2 yX2_learn yX2_learn, Cond.code yX2_learn cX2_learn 3 none, Cond.methodLink RX2 27 yX5_set, Cond.instanceMethod yX5_set, Cond.selects RX5 yX5_set yX5_set, Cond.code yX5_set cX5_set 3 none]
def wsX6_lookAhead : List Cond := .code yX6_lookAhead cX6_lookAhead 4 none :: ((wsX6_lookAhead_r1 ++ wsX6_lookAhead_r2) ++ wsX60 ++ wsX20 ++ wsX50 ++ wsX30)
def wsX6_differing_r1 : List Cond := [Cond.fieldLink RX6 59 "StrokeBoard" "siteCount" "I", Cond.fieldLink RX6 32 "StrokeBoard" "future" "LStrokeBoard$Knowledge;", Cond.methodLink RX6 233 yX6_lookAhead, Cond.instanceMethod yX6_lookAhead, Cond.selects RX6 yX6_lookAhead yX6_lookAhead, Cond.initialized RX6, Cond.code yX6_lookAhead cX6_lookAhead 4 none, Cond.fieldLink RX6 28 "StrokeBoard" "knowledge" "LStrokeBoard$Knowledge;", Cond.fieldLink RX6 38 "StrokeBoard" "links" "LStrokeBoard$Links;", Cond.methodLink RX6 265 yX2_copyFrom, Cond.instanceMethod yX2_copyFrom, Cond.selects RX2 yX2_copyFrom yX2_copyFrom, Cond.initialized RX2, Cond.code yX2_copyFrom cX2_copyFrom 2 none, Cond.fieldLink RX2 14 "StrokeBoard$Knowledge" "known" "LStrokeBoard$Row;", Cond.methodLink RX2 23 yX5_copyFrom, Cond.instanceMethod yX5_copyFrom, Cond.selects RX5 yX5_copyFrom yX5_copyFrom, Cond.initialized RX5, Cond.code yX5_copyFrom cX5_copyFrom 3 none, Cond.fieldLink RX5 13 "StrokeBoard$Row" "cells" "[I", Cond.methodLink RX5 19 yX5_get, Cond.instanceMethod yX5_get, Cond.selects RX5 yX5_get yX5_get]
def wsX6_differing_r2 : List Cond := [Cond.code yX5_get cX5_get 2 (some .int), Cond.methodLink RX6 159 yX3_countIn, Cond.instanceMethod yX3_countIn, Cond.selects RX3 yX3_countIn yX3_countIn, Cond.initialized RX3, Cond.code yX3_countIn cX3_countIn 3 (some .int), Cond.fieldLink RX3 14 "StrokeBoard$Links" "counts" "LStrokeBoard$Row;", Cond.methodLink RX3 26 yX5_get, Cond.methodLink RX6 163 yX3_messageIn, Cond.instanceMethod yX3_messageIn, Cond.selects RX3 yX3_messageIn yX3_messageIn, Cond.code yX3_messageIn cX3_messageIn 4 (some .int), Cond.fieldLink RX3 20 "StrokeBoard$Links" "messages" "LStrokeBoard$Row;", Cond.methodLink RX6 245 yX2_learn, Cond.instanceMethod yX2_learn, Cond.selects RX2 yX2_learn yX2_learn, Cond.code yX2_learn cX2_learn 3 none, Cond.methodLink RX2 27 yX5_set, Cond.instanceMethod yX5_set, Cond.selects RX5 yX5_set yX5_set, Cond.code yX5_set cX5_set 3 none, Cond.methodLink RX6 229 yX6_showSame, Cond.instanceMethod yX6_showSame, Cond.selects RX6 yX6_showSame yX6_showSame]
def wsX6_differing_r3 : List Cond := [Cond.code yX6_showSame cX6_showSame 4 (some .boolean), Cond.fieldLink RX6 45 "StrokeBoard" "board" "LStrokeBoard$Board;", Cond.fieldLink RX6 12 "StrokeBoard" "log" "LStrokeBoard$Log;", Cond.fieldLink RX6 49 "StrokeBoard" "secondBoard" "LStrokeBoard$Board;", Cond.methodLink RX6 92 yX0_show, Cond.instanceMethod yX0_show, Cond.selects RX0 yX0_show yX0_show, Cond.initialized RX0, Cond.code yX0_show cX0_show 7 none, Cond.fieldLink RX0 14 "StrokeBoard$Board" "undone" "LStrokeBoard$Row;", Cond.fieldLink RX0 20 "StrokeBoard$Board" "layers" "LStrokeBoard$Row;", Cond.fieldLink RX0 40 "StrokeBoard$Board" "count" "I", Cond.methodLink RX0 26 yX4_totalCount, Cond.instanceMethod yX4_totalCount, Cond.selects RX4 yX4_totalCount yX4_totalCount, Cond.initialized RX4, Cond.code yX4_totalCount cX4_totalCount 1 (some .int), Cond.fieldLink RX4 45 "StrokeBoard$Log" "total" "I", Cond.methodLink RX0 32 yX5_fill, Cond.instanceMethod yX5_fill, Cond.selects RX5 yX5_fill yX5_fill, Cond.code yX5_fill cX5_fill 3 none, Cond.methodLink RX0 36 yX5_copyFrom, Cond.methodLink RX0 44 yX4_inOrder]
def wsX6_differing_r4 : List Cond := [Cond.instanceMethod yX4_inOrder, Cond.selects RX4 yX4_inOrder yX4_inOrder, Cond.code yX4_inOrder cX4_inOrder 2 (some .int), Cond.fieldLink RX4 32 "StrokeBoard$Log" "order" "LStrokeBoard$Row;", Cond.methodLink RX4 65 yX5_get, Cond.methodLink RX0 48 yX2_has, Cond.instanceMethod yX2_has, Cond.selects RX2 yX2_has yX2_has, Cond.code yX2_has cX2_has 3 (some .boolean), Cond.methodLink RX2 31 yX5_get, Cond.methodLink RX0 54 yX0_apply, Cond.instanceMethod yX0_apply, Cond.selects RX0 yX0_apply yX0_apply, Cond.code yX0_apply cX0_apply 4 none, Cond.methodLink RX0 62 yX4_targetOf, Cond.instanceMethod yX4_targetOf, Cond.selects RX4 yX4_targetOf yX4_targetOf, Cond.code yX4_targetOf cX4_targetOf 2 (some .int), Cond.fieldLink RX4 26 "StrokeBoard$Log" "targets" "LStrokeBoard$Row;", Cond.methodLink RX0 65 yX4_kindOf, Cond.instanceMethod yX4_kindOf, Cond.selects RX4 yX4_kindOf yX4_kindOf, Cond.code yX4_kindOf cX4_kindOf 2 (some .int), Cond.fieldLink RX4 20 "StrokeBoard$Log" "kinds" "LStrokeBoard$Row;"]
def wsX6_differing_r5 : List Cond := [Cond.methodLink RX0 68 yX5_set, Cond.methodLink RX0 72 yX4_layerOf, Cond.instanceMethod yX4_layerOf, Cond.selects RX4 yX4_layerOf yX4_layerOf, Cond.code yX4_layerOf cX4_layerOf 2 (some .int), Cond.fieldLink RX4 29 "StrokeBoard$Log" "layers" "LStrokeBoard$Row;", Cond.methodLink RX0 58 yX0_collect, Cond.instanceMethod yX0_collect, Cond.selects RX0 yX0_collect yX0_collect, Cond.code yX0_collect cX0_collect 8 none, Cond.fieldLink RX0 23 "StrokeBoard$Board" "strokes" "LStrokeBoard$Row;", Cond.methodLink RX0 75 yX4_isStroke, Cond.instanceMethod yX4_isStroke, Cond.selects RX4 yX4_isStroke yX4_isStroke, Cond.code yX4_isStroke cX4_isStroke 2 (some .boolean), Cond.methodLink RX0 79 yX5_get, Cond.methodLink RX0 82 yX0_isUndone, Cond.instanceMethod yX0_isUndone, Cond.selects RX0 yX0_isUndone yX0_isUndone, Cond.code yX0_isUndone cX0_isUndone 2 (some .boolean), Cond.methodLink RX6 261 yX0_matches, Cond.instanceMethod yX0_matches, Cond.selects RX0 yX0_matches yX0_matches, Cond.code yX0_matches cX0_matches 4 (some .boolean)]
def wsX6_differing_r6 : List Cond := [Cond.methodLink RX0 85 yX0_strokeIn, Cond.instanceMethod yX0_strokeIn, Cond.selects RX0 yX0_strokeIn yX0_strokeIn, Cond.code yX0_strokeIn cX0_strokeIn 2 (some .int), Cond.methodLink RX0 88 yX0_layerOf, Cond.instanceMethod yX0_layerOf, Cond.selects RX0 yX0_layerOf yX0_layerOf, Cond.code yX0_layerOf cX0_layerOf 2 (some .int)]
def wsX6_differing : List Cond := .code yX6_differing cX6_differing 4 (some .int) :: ((wsX6_differing_r1 ++ (wsX6_differing_r2 ++ (wsX6_differing_r3 ++ (wsX6_differing_r4 ++ (wsX6_differing_r5 ++ wsX6_differing_r6))))) ++ wsX60 ++ wsX20 ++ wsX50 ++ wsX30 ++ wsX00 ++ wsX40)
def wsX6_repairable_r1 : List Cond := [Cond.methodLink RX6 184 yX6_canRepair, Cond.instanceMethod yX6_canRepair, Cond.selects RX6 yX6_canRepair yX6_canRepair, Cond.initialized RX6, Cond.code yX6_canRepair cX6_canRepair 4 (some .boolean), Cond.fieldLink RX6 28 "StrokeBoard" "knowledge" "LStrokeBoard$Knowledge;", Cond.methodLink RX6 254 yX2_isInGap, Cond.instanceMethod yX2_isInGap, Cond.selects RX2 yX2_isInGap yX2_isInGap, Cond.initialized RX2, Cond.code yX2_isInGap cX2_isInGap 3 (some .boolean), Cond.methodLink RX2 35 yX2_has, Cond.instanceMethod yX2_has, Cond.selects RX2 yX2_has yX2_has, Cond.code yX2_has cX2_has 3 (some .boolean), Cond.fieldLink RX2 14 "StrokeBoard$Knowledge" "known" "LStrokeBoard$Row;", Cond.methodLink RX2 31 yX5_get, Cond.instanceMethod yX5_get, Cond.selects RX5 yX5_get yX5_get, Cond.initialized RX5, Cond.code yX5_get cX5_get 2 (some .int), Cond.fieldLink RX5 13 "StrokeBoard$Row" "cells" "[I", Cond.methodLink RX2 39 yX2_hasLaterOfAuthor, Cond.instanceMethod yX2_hasLaterOfAuthor]
def wsX6_repairable_r2 : List Cond := [Cond.selects RX2 yX2_hasLaterOfAuthor yX2_hasLaterOfAuthor, Cond.code yX2_hasLaterOfAuthor cX2_hasLaterOfAuthor 5 (some .boolean), Cond.static yX6_authorOf, Cond.code yX6_authorOf cX6_authorOf 1 (some .int), Cond.static yX6_numberOf, Cond.code yX6_numberOf cX6_numberOf 1 (some .int), Cond.static yX6_idOf, Cond.code yX6_idOf cX6_idOf 2 (some .int), Cond.methodLink RX6 181 yX2_has]
def wsX6_repairable : List Cond := .code yX6_repairable cX6_repairable 5 (some .int) :: ((wsX6_repairable_r1 ++ wsX6_repairable_r2) ++ wsX60 ++ wsX20 ++ wsX50)
def wsX6_bestHelper_r1 : List Cond := [Cond.constant RX6 67 (-1000000001), Cond.constant RX6 162 (-1000000004), Cond.fieldLink RX6 59 "StrokeBoard" "siteCount" "I", Cond.methodLink RX6 78 yX6_isSite, Cond.instanceMethod yX6_isSite, Cond.selects RX6 yX6_isSite yX6_isSite, Cond.initialized RX6, Cond.code yX6_isSite cX6_isSite 2 (some .boolean), Cond.methodLink RX6 63 yX6_isWithin, Cond.static yX6_isWithin, Cond.code yX6_isWithin cX6_isWithin 3 (some .boolean), Cond.methodLink RX6 236 yX6_repairable, Cond.instanceMethod yX6_repairable, Cond.selects RX6 yX6_repairable yX6_repairable, Cond.code yX6_repairable cX6_repairable 5 (some .int), Cond.methodLink RX6 184 yX6_canRepair, Cond.instanceMethod yX6_canRepair, Cond.selects RX6 yX6_canRepair yX6_canRepair, Cond.code yX6_canRepair cX6_canRepair 4 (some .boolean), Cond.fieldLink RX6 28 "StrokeBoard" "knowledge" "LStrokeBoard$Knowledge;", Cond.methodLink RX6 254 yX2_isInGap, Cond.instanceMethod yX2_isInGap, Cond.selects RX2 yX2_isInGap yX2_isInGap, Cond.initialized RX2]
def wsX6_bestHelper_r2 : List Cond := [Cond.code yX2_isInGap cX2_isInGap 3 (some .boolean), Cond.methodLink RX2 35 yX2_has, Cond.instanceMethod yX2_has, Cond.selects RX2 yX2_has yX2_has, Cond.code yX2_has cX2_has 3 (some .boolean), Cond.fieldLink RX2 14 "StrokeBoard$Knowledge" "known" "LStrokeBoard$Row;", Cond.methodLink RX2 31 yX5_get, Cond.instanceMethod yX5_get, Cond.selects RX5 yX5_get yX5_get, Cond.initialized RX5, Cond.code yX5_get cX5_get 2 (some .int), Cond.fieldLink RX5 13 "StrokeBoard$Row" "cells" "[I", Cond.methodLink RX2 39 yX2_hasLaterOfAuthor, Cond.instanceMethod yX2_hasLaterOfAuthor, Cond.selects RX2 yX2_hasLaterOfAuthor yX2_hasLaterOfAuthor, Cond.code yX2_hasLaterOfAuthor cX2_hasLaterOfAuthor 5 (some .boolean), Cond.static yX6_authorOf, Cond.code yX6_authorOf cX6_authorOf 1 (some .int), Cond.static yX6_numberOf, Cond.code yX6_numberOf cX6_numberOf 1 (some .int), Cond.static yX6_idOf, Cond.code yX6_idOf cX6_idOf 2 (some .int), Cond.methodLink RX6 181 yX2_has]
def wsX6_bestHelper : List Cond := .code yX6_bestHelper cX6_bestHelper 6 (some .int) :: ((wsX6_bestHelper_r1 ++ wsX6_bestHelper_r2) ++ wsX60 ++ wsX20 ++ wsX50)
def wsX6_isKnownBeside : List Cond := .code yX6_isKnownBeside cX6_isKnownBeside 4 (some .boolean) :: ([.fieldLink RX6 59 "StrokeBoard" "siteCount" "I", .fieldLink RX6 28 "StrokeBoard" "knowledge" "LStrokeBoard$Knowledge;", .methodLink RX6 181 yX2_has, .instanceMethod yX2_has, .selects RX2 yX2_has yX2_has, .initialized RX2, .code yX2_has cX2_has 3 (some .boolean), .fieldLink RX2 14 "StrokeBoard$Knowledge" "known" "LStrokeBoard$Row;", .methodLink RX2 31 yX5_get, .instanceMethod yX5_get, .selects RX5 yX5_get yX5_get, .initialized RX5, .code yX5_get cX5_get 2 (some .int), .fieldLink RX5 13 "StrokeBoard$Row" "cells" "[I"] ++ wsX60 ++ wsX20 ++ wsX50)
def wsX6_endangered_r1 : List Cond := [Cond.constant RX6 67 (-1000000001), Cond.fieldLink RX6 12 "StrokeBoard" "log" "LStrokeBoard$Log;", Cond.fieldLink RX6 38 "StrokeBoard" "links" "LStrokeBoard$Links;", Cond.methodLink RX6 78 yX6_isSite, Cond.instanceMethod yX6_isSite, Cond.selects RX6 yX6_isSite yX6_isSite, Cond.initialized RX6, Cond.code yX6_isSite cX6_isSite 2 (some .boolean), Cond.fieldLink RX6 59 "StrokeBoard" "siteCount" "I", Cond.methodLink RX6 63 yX6_isWithin, Cond.static yX6_isWithin, Cond.code yX6_isWithin cX6_isWithin 3 (some .boolean), Cond.methodLink RX6 89 yX4_madeBy, Cond.instanceMethod yX4_madeBy, Cond.selects RX4 yX4_madeBy yX4_madeBy, Cond.initialized RX4, Cond.code yX4_madeBy cX4_madeBy 2 (some .int), Cond.fieldLink RX4 14 "StrokeBoard$Log" "made" "LStrokeBoard$Row;", Cond.methodLink RX4 65 yX5_get, Cond.instanceMethod yX5_get, Cond.selects RX5 yX5_get yX5_get, Cond.initialized RX5, Cond.code yX5_get cX5_get 2 (some .int), Cond.fieldLink RX5 13 "StrokeBoard$Row" "cells" "[I"]
def wsX6_endangered_r2 : List Cond := [Cond.methodLink RX6 178 yX6_idOf, Cond.static yX6_idOf, Cond.code yX6_idOf cX6_idOf 2 (some .int), Cond.methodLink RX6 239 yX6_isKnownBeside, Cond.instanceMethod yX6_isKnownBeside, Cond.selects RX6 yX6_isKnownBeside yX6_isKnownBeside, Cond.code yX6_isKnownBeside cX6_isKnownBeside 4 (some .boolean), Cond.fieldLink RX6 28 "StrokeBoard" "knowledge" "LStrokeBoard$Knowledge;", Cond.methodLink RX6 181 yX2_has, Cond.instanceMethod yX2_has, Cond.selects RX2 yX2_has yX2_has, Cond.initialized RX2, Cond.code yX2_has cX2_has 3 (some .boolean), Cond.fieldLink RX2 14 "StrokeBoard$Knowledge" "known" "LStrokeBoard$Row;", Cond.methodLink RX2 31 yX5_get, Cond.methodLink RX6 242 yX3_carry, Cond.instanceMethod yX3_carry, Cond.selects RX3 yX3_carry yX3_carry, Cond.initialized RX3, Cond.code yX3_carry cX3_carry 4 (some .boolean), Cond.fieldLink RX3 14 "StrokeBoard$Links" "counts" "LStrokeBoard$Row;", Cond.fieldLink RX3 20 "StrokeBoard$Links" "messages" "LStrokeBoard$Row;", Cond.methodLink RX3 26 yX5_get]
def wsX6_endangered : List Cond := .code yX6_endangered cX6_endangered 5 (some .int) :: ((wsX6_endangered_r1 ++ wsX6_endangered_r2) ++ wsX60 ++ wsX40 ++ wsX50 ++ wsX20 ++ wsX30)
def wsX7_init : List Cond := .code yX7_init cX7_init 1 none :: ([.methodLink RX7 1 objectInit, .instanceMethod objectInit, .code objectInit ⟨#[0xb1]⟩ 1 none, .fieldLink RX7 7 "StrokeBoardModel" "sites" "I", .arrayClass .int, .fieldLink RX7 13 "StrokeBoardModel" "ops" "[I", .fieldLink RX7 17 "StrokeBoardModel" "made" "[I", .fieldLink RX7 20 "StrokeBoardModel" "clock" "[I", .fieldLink RX7 23 "StrokeBoardModel" "known" "[I", .fieldLink RX7 26 "StrokeBoardModel" "pens" "[I", .fieldLink RX7 29 "StrokeBoardModel" "links" "[I", .fieldLink RX7 32 "StrokeBoardModel" "linkMany" "[I", .fieldLink RX7 35 "StrokeBoardModel" "board" "[I", .fieldLink RX7 38 "StrokeBoardModel" "layers" "[I", .fieldLink RX7 41 "StrokeBoardModel" "otherBoard" "[I", .fieldLink RX7 44 "StrokeBoardModel" "otherLayers" "[I", .fieldLink RX7 47 "StrokeBoardModel" "aside" "[I"] ++ wsX70)
def wsX7_in : List Cond := .code yX7_in cX7_in 3 (some .boolean) :: ([])
def wsX7_isSite : List Cond := .code yX7_isSite cX7_isSite 2 (some .boolean) :: ([.fieldLink RX7 7 "StrokeBoardModel" "sites" "I", .methodLink RX7 50 yX7_in, .static yX7_in, .initialized RX7, .code yX7_in cX7_in 3 (some .boolean)] ++ wsX70)
def wsX7_isPair : List Cond := .code yX7_isPair cX7_isPair 3 (some .boolean) :: ([.methodLink RX7 54 yX7_isSite, .instanceMethod yX7_isSite, .selects RX7 yX7_isSite yX7_isSite, .initialized RX7, .code yX7_isSite cX7_isSite 2 (some .boolean), .fieldLink RX7 7 "StrokeBoardModel" "sites" "I", .methodLink RX7 50 yX7_in, .static yX7_in, .code yX7_in cX7_in 3 (some .boolean)] ++ wsX70)
def wsX7_place : List Cond := .code yX7_place cX7_place 2 (some .int) :: ([])
def wsX7_of : List Cond := .code yX7_of cX7_of 3 (some .int) :: ([.fieldLink RX7 13 "StrokeBoardModel" "ops" "[I"] ++ wsX70)
def wsX7_doesKnow : List Cond := .code yX7_doesKnow cX7_doesKnow 3 (some .boolean) :: ([.fieldLink RX7 23 "StrokeBoardModel" "known" "[I"] ++ wsX70)
def wsX7_learns : List Cond := .code yX7_learns cX7_learns 3 none :: ([.fieldLink RX7 23 "StrokeBoardModel" "known" "[I", .fieldLink RX7 20 "StrokeBoardModel" "clock" "[I", .methodLink RX7 58 yX7_of, .instanceMethod yX7_of, .selects RX7 yX7_of yX7_of, .initialized RX7, .code yX7_of cX7_of 3 (some .int), .fieldLink RX7 13 "StrokeBoardModel" "ops" "[I"] ++ wsX70)
def wsX7_isAfter : List Cond := .code yX7_isAfter cX7_isAfter 3 (some .boolean) :: ([.methodLink RX7 58 yX7_of, .instanceMethod yX7_of, .selects RX7 yX7_of yX7_of, .initialized RX7, .code yX7_of cX7_of 3 (some .int), .fieldLink RX7 13 "StrokeBoardModel" "ops" "[I"] ++ wsX70)
def wsX7_aim : List Cond := .code yX7_aim cX7_aim 2 (some .int) :: ([.methodLink RX7 58 yX7_of, .instanceMethod yX7_of, .selects RX7 yX7_of yX7_of, .initialized RX7, .code yX7_of cX7_of 3 (some .int), .fieldLink RX7 13 "StrokeBoardModel" "ops" "[I", .methodLink RX7 62 yX7_place, .static yX7_place, .code yX7_place cX7_place 2 (some .int)] ++ wsX70)
def wsX7_last_r1 : List Cond := [Cond.methodLink RX7 65 yX7_doesKnow, Cond.instanceMethod yX7_doesKnow, Cond.selects RX7 yX7_doesKnow yX7_doesKnow, Cond.initialized RX7, Cond.code yX7_doesKnow cX7_doesKnow 3 (some .boolean), Cond.fieldLink RX7 23 "StrokeBoardModel" "known" "[I", Cond.methodLink RX7 58 yX7_of, Cond.instanceMethod yX7_of, Cond.selects RX7 yX7_of yX7_of, Cond.code yX7_of cX7_of 3 (some .int), Cond.fieldLink RX7 13 "StrokeBoardModel" "ops" "[I", Cond.methodLink RX7 50 yX7_in, Cond.static yX7_in, Cond.code yX7_in cX7_in 3 (some .boolean), Cond.methodLink RX7 69 yX7_aim, Cond.instanceMethod yX7_aim, Cond.selects RX7 yX7_aim yX7_aim, Cond.code yX7_aim cX7_aim 2 (some .int), Cond.methodLink RX7 62 yX7_place, Cond.static yX7_place, Cond.code yX7_place cX7_place 2 (some .int), Cond.methodLink RX7 73 yX7_isAfter, Cond.instanceMethod yX7_isAfter, Cond.selects RX7 yX7_isAfter yX7_isAfter]
def wsX7_last_r2 : List Cond := [Cond.code yX7_isAfter cX7_isAfter 3 (some .boolean)]
def wsX7_last : List Cond := .code yX7_last cX7_last 8 (some .int) :: ((wsX7_last_r1 ++ wsX7_last_r2) ++ wsX70)
def wsX7_isVisible_r1 : List Cond := [Cond.methodLink RX7 65 yX7_doesKnow, Cond.instanceMethod yX7_doesKnow, Cond.selects RX7 yX7_doesKnow yX7_doesKnow, Cond.initialized RX7, Cond.code yX7_doesKnow cX7_doesKnow 3 (some .boolean), Cond.fieldLink RX7 23 "StrokeBoardModel" "known" "[I", Cond.methodLink RX7 58 yX7_of, Cond.instanceMethod yX7_of, Cond.selects RX7 yX7_of yX7_of, Cond.code yX7_of cX7_of 3 (some .int), Cond.fieldLink RX7 13 "StrokeBoardModel" "ops" "[I", Cond.methodLink RX7 76 yX7_last, Cond.instanceMethod yX7_last, Cond.selects RX7 yX7_last yX7_last, Cond.code yX7_last cX7_last 8 (some .int), Cond.methodLink RX7 50 yX7_in, Cond.static yX7_in, Cond.code yX7_in cX7_in 3 (some .boolean), Cond.methodLink RX7 69 yX7_aim, Cond.instanceMethod yX7_aim, Cond.selects RX7 yX7_aim yX7_aim, Cond.code yX7_aim cX7_aim 2 (some .int), Cond.methodLink RX7 62 yX7_place, Cond.static yX7_place]
def wsX7_isVisible_r2 : List Cond := [Cond.code yX7_place cX7_place 2 (some .int), Cond.methodLink RX7 73 yX7_isAfter, Cond.instanceMethod yX7_isAfter, Cond.selects RX7 yX7_isAfter yX7_isAfter, Cond.code yX7_isAfter cX7_isAfter 3 (some .boolean)]
def wsX7_isVisible : List Cond := .code yX7_isVisible cX7_isVisible 4 (some .boolean) :: ((wsX7_isVisible_r1 ++ wsX7_isVisible_r2) ++ wsX70)
def wsX7_layerFor_r1 : List Cond := [Cond.methodLink RX7 76 yX7_last, Cond.instanceMethod yX7_last, Cond.selects RX7 yX7_last yX7_last, Cond.initialized RX7, Cond.code yX7_last cX7_last 8 (some .int), Cond.methodLink RX7 65 yX7_doesKnow, Cond.instanceMethod yX7_doesKnow, Cond.selects RX7 yX7_doesKnow yX7_doesKnow, Cond.code yX7_doesKnow cX7_doesKnow 3 (some .boolean), Cond.fieldLink RX7 23 "StrokeBoardModel" "known" "[I", Cond.methodLink RX7 58 yX7_of, Cond.instanceMethod yX7_of, Cond.selects RX7 yX7_of yX7_of, Cond.code yX7_of cX7_of 3 (some .int), Cond.fieldLink RX7 13 "StrokeBoardModel" "ops" "[I", Cond.methodLink RX7 50 yX7_in, Cond.static yX7_in, Cond.code yX7_in cX7_in 3 (some .boolean), Cond.methodLink RX7 69 yX7_aim, Cond.instanceMethod yX7_aim, Cond.selects RX7 yX7_aim yX7_aim, Cond.code yX7_aim cX7_aim 2 (some .int), Cond.methodLink RX7 62 yX7_place, Cond.static yX7_place]
def wsX7_layerFor_r2 : List Cond := [Cond.code yX7_place cX7_place 2 (some .int), Cond.methodLink RX7 73 yX7_isAfter, Cond.instanceMethod yX7_isAfter, Cond.selects RX7 yX7_isAfter yX7_isAfter, Cond.code yX7_isAfter cX7_isAfter 3 (some .boolean)]
def wsX7_layerFor : List Cond := .code yX7_layerFor cX7_layerFor 4 (some .int) :: ((wsX7_layerFor_r1 ++ wsX7_layerFor_r2) ++ wsX70)
def wsX7_workOut_r1 : List Cond := [Cond.fieldLink RX7 80 "StrokeBoardModel" "boardMany" "I", Cond.fieldLink RX7 38 "StrokeBoardModel" "layers" "[I", Cond.fieldLink RX7 35 "StrokeBoardModel" "board" "[I", Cond.methodLink RX7 83 yX7_isVisible, Cond.instanceMethod yX7_isVisible, Cond.selects RX7 yX7_isVisible yX7_isVisible, Cond.initialized RX7, Cond.code yX7_isVisible cX7_isVisible 4 (some .boolean), Cond.methodLink RX7 65 yX7_doesKnow, Cond.instanceMethod yX7_doesKnow, Cond.selects RX7 yX7_doesKnow yX7_doesKnow, Cond.code yX7_doesKnow cX7_doesKnow 3 (some .boolean), Cond.fieldLink RX7 23 "StrokeBoardModel" "known" "[I", Cond.methodLink RX7 58 yX7_of, Cond.instanceMethod yX7_of, Cond.selects RX7 yX7_of yX7_of, Cond.code yX7_of cX7_of 3 (some .int), Cond.fieldLink RX7 13 "StrokeBoardModel" "ops" "[I", Cond.methodLink RX7 76 yX7_last, Cond.instanceMethod yX7_last, Cond.selects RX7 yX7_last yX7_last, Cond.code yX7_last cX7_last 8 (some .int), Cond.methodLink RX7 50 yX7_in, Cond.static yX7_in]
def wsX7_workOut_r2 : List Cond := [Cond.code yX7_in cX7_in 3 (some .boolean), Cond.methodLink RX7 69 yX7_aim, Cond.instanceMethod yX7_aim, Cond.selects RX7 yX7_aim yX7_aim, Cond.code yX7_aim cX7_aim 2 (some .int), Cond.methodLink RX7 62 yX7_place, Cond.static yX7_place, Cond.code yX7_place cX7_place 2 (some .int), Cond.methodLink RX7 73 yX7_isAfter, Cond.instanceMethod yX7_isAfter, Cond.selects RX7 yX7_isAfter yX7_isAfter, Cond.code yX7_isAfter cX7_isAfter 3 (some .boolean), Cond.methodLink RX7 86 yX7_layerFor, Cond.instanceMethod yX7_layerFor, Cond.selects RX7 yX7_layerFor yX7_layerFor, Cond.code yX7_layerFor cX7_layerFor 4 (some .int)]
def wsX7_workOut : List Cond := .code yX7_workOut cX7_workOut 5 none :: ((wsX7_workOut_r1 ++ wsX7_workOut_r2) ++ wsX70)
def wsX7_clearSite : List Cond := .code yX7_clearSite cX7_clearSite 3 none :: ([.fieldLink RX7 17 "StrokeBoardModel" "made" "[I", .fieldLink RX7 20 "StrokeBoardModel" "clock" "[I", .fieldLink RX7 26 "StrokeBoardModel" "pens" "[I", .fieldLink RX7 23 "StrokeBoardModel" "known" "[I", .fieldLink RX7 32 "StrokeBoardModel" "linkMany" "[I"] ++ wsX70)
def wsX7_reset : List Cond := .code yX7_reset cX7_reset 4 (some .int) :: ([.constant RX7 89 (-1000000001), .fieldLink RX7 7 "StrokeBoardModel" "sites" "I", .methodLink RX7 50 yX7_in, .static yX7_in, .initialized RX7, .code yX7_in cX7_in 3 (some .boolean), .methodLink RX7 90 yX7_clearSite, .instanceMethod yX7_clearSite, .selects RX7 yX7_clearSite yX7_clearSite, .code yX7_clearSite cX7_clearSite 3 none, .fieldLink RX7 17 "StrokeBoardModel" "made" "[I", .fieldLink RX7 20 "StrokeBoardModel" "clock" "[I", .fieldLink RX7 26 "StrokeBoardModel" "pens" "[I", .fieldLink RX7 23 "StrokeBoardModel" "known" "[I", .fieldLink RX7 32 "StrokeBoardModel" "linkMany" "[I"] ++ wsX70)
def wsX7_join : List Cond := .code yX7_join cX7_join 1 (some .int) :: ([.fieldLink RX7 7 "StrokeBoardModel" "sites" "I", .constant RX7 94 (-1000000003), .methodLink RX7 90 yX7_clearSite, .instanceMethod yX7_clearSite, .selects RX7 yX7_clearSite yX7_clearSite, .initialized RX7, .code yX7_clearSite cX7_clearSite 3 none, .fieldLink RX7 17 "StrokeBoardModel" "made" "[I", .fieldLink RX7 20 "StrokeBoardModel" "clock" "[I", .fieldLink RX7 26 "StrokeBoardModel" "pens" "[I", .fieldLink RX7 23 "StrokeBoardModel" "known" "[I", .fieldLink RX7 32 "StrokeBoardModel" "linkMany" "[I"] ++ wsX70)
def wsX7_sites : List Cond := .code yX7_sites cX7_sites 1 (some .int) :: ([.fieldLink RX7 7 "StrokeBoardModel" "sites" "I"] ++ wsX70)
def wsX7_knownMany : List Cond := .code yX7_knownMany cX7_knownMany 4 (some .int) :: ([.fieldLink RX7 23 "StrokeBoardModel" "known" "[I"] ++ wsX70)
def wsX7_siteInfo_r1 : List Cond := [Cond.constant RX7 89 (-1000000001), Cond.fieldLink RX7 20 "StrokeBoardModel" "clock" "[I", Cond.fieldLink RX7 17 "StrokeBoardModel" "made" "[I", Cond.fieldLink RX7 80 "StrokeBoardModel" "boardMany" "I", Cond.fieldLink RX7 26 "StrokeBoardModel" "pens" "[I", Cond.methodLink RX7 54 yX7_isSite, Cond.instanceMethod yX7_isSite, Cond.selects RX7 yX7_isSite yX7_isSite, Cond.initialized RX7, Cond.code yX7_isSite cX7_isSite 2 (some .boolean), Cond.fieldLink RX7 7 "StrokeBoardModel" "sites" "I", Cond.methodLink RX7 50 yX7_in, Cond.static yX7_in, Cond.code yX7_in cX7_in 3 (some .boolean), Cond.methodLink RX7 95 yX7_knownMany, Cond.instanceMethod yX7_knownMany, Cond.selects RX7 yX7_knownMany yX7_knownMany, Cond.code yX7_knownMany cX7_knownMany 4 (some .int), Cond.fieldLink RX7 23 "StrokeBoardModel" "known" "[I", Cond.methodLink RX7 98 yX7_workOut, Cond.instanceMethod yX7_workOut, Cond.selects RX7 yX7_workOut yX7_workOut, Cond.code yX7_workOut cX7_workOut 5 none, Cond.fieldLink RX7 38 "StrokeBoardModel" "layers" "[I"]
def wsX7_siteInfo_r2 : List Cond := [Cond.fieldLink RX7 35 "StrokeBoardModel" "board" "[I", Cond.methodLink RX7 83 yX7_isVisible, Cond.instanceMethod yX7_isVisible, Cond.selects RX7 yX7_isVisible yX7_isVisible, Cond.code yX7_isVisible cX7_isVisible 4 (some .boolean), Cond.methodLink RX7 65 yX7_doesKnow, Cond.instanceMethod yX7_doesKnow, Cond.selects RX7 yX7_doesKnow yX7_doesKnow, Cond.code yX7_doesKnow cX7_doesKnow 3 (some .boolean), Cond.methodLink RX7 58 yX7_of, Cond.instanceMethod yX7_of, Cond.selects RX7 yX7_of yX7_of, Cond.code yX7_of cX7_of 3 (some .int), Cond.fieldLink RX7 13 "StrokeBoardModel" "ops" "[I", Cond.methodLink RX7 76 yX7_last, Cond.instanceMethod yX7_last, Cond.selects RX7 yX7_last yX7_last, Cond.code yX7_last cX7_last 8 (some .int), Cond.methodLink RX7 69 yX7_aim, Cond.instanceMethod yX7_aim, Cond.selects RX7 yX7_aim yX7_aim, Cond.code yX7_aim cX7_aim 2 (some .int), Cond.methodLink RX7 62 yX7_place, Cond.static yX7_place]
def wsX7_siteInfo_r3 : List Cond := [Cond.code yX7_place cX7_place 2 (some .int), Cond.methodLink RX7 73 yX7_isAfter, Cond.instanceMethod yX7_isAfter, Cond.selects RX7 yX7_isAfter yX7_isAfter, Cond.code yX7_isAfter cX7_isAfter 3 (some .boolean), Cond.methodLink RX7 86 yX7_layerFor, Cond.instanceMethod yX7_layerFor, Cond.selects RX7 yX7_layerFor yX7_layerFor, Cond.code yX7_layerFor cX7_layerFor 4 (some .int)]
def wsX7_siteInfo : List Cond := .code yX7_siteInfo cX7_siteInfo 3 (some .int) :: ((wsX7_siteInfo_r1 ++ (wsX7_siteInfo_r2 ++ wsX7_siteInfo_r3)) ++ wsX70)
def wsX7_penDown : List Cond := .code yX7_penDown cX7_penDown 7 (some .int) :: ([.constant RX7 89 (-1000000001), .fieldLink RX7 26 "StrokeBoardModel" "pens" "[I", .methodLink RX7 54 yX7_isSite, .instanceMethod yX7_isSite, .selects RX7 yX7_isSite yX7_isSite, .initialized RX7, .code yX7_isSite cX7_isSite 2 (some .boolean), .fieldLink RX7 7 "StrokeBoardModel" "sites" "I", .methodLink RX7 50 yX7_in, .static yX7_in, .code yX7_in cX7_in 3 (some .boolean)] ++ wsX70)
def wsX7_penMove : List Cond := .code yX7_penMove cX7_penMove 6 (some .int) :: ([.constant RX7 89 (-1000000001), .fieldLink RX7 26 "StrokeBoardModel" "pens" "[I", .constant RX7 101 (-1000000002), .constant RX7 94 (-1000000003), .methodLink RX7 54 yX7_isSite, .instanceMethod yX7_isSite, .selects RX7 yX7_isSite yX7_isSite, .initialized RX7, .code yX7_isSite cX7_isSite 2 (some .boolean), .fieldLink RX7 7 "StrokeBoardModel" "sites" "I", .methodLink RX7 50 yX7_in, .static yX7_in, .code yX7_in cX7_in 3 (some .boolean)] ++ wsX70)
def wsX7_make : List Cond := .code yX7_make cX7_make 10 (some .int) :: ([.fieldLink RX7 17 "StrokeBoardModel" "made" "[I", .fieldLink RX7 20 "StrokeBoardModel" "clock" "[I", .fieldLink RX7 13 "StrokeBoardModel" "ops" "[I", .fieldLink RX7 23 "StrokeBoardModel" "known" "[I", .fieldLink RX7 7 "StrokeBoardModel" "sites" "I", .fieldLink RX7 32 "StrokeBoardModel" "linkMany" "[I", .fieldLink RX7 29 "StrokeBoardModel" "links" "[I", .methodLink RX7 62 yX7_place, .static yX7_place, .initialized RX7, .code yX7_place cX7_place 2 (some .int)] ++ wsX70)
def wsX7_penUp_r1 : List Cond := [Cond.constant RX7 89 (-1000000001), Cond.fieldLink RX7 26 "StrokeBoardModel" "pens" "[I", Cond.constant RX7 101 (-1000000002), Cond.fieldLink RX7 17 "StrokeBoardModel" "made" "[I", Cond.constant RX7 94 (-1000000003), Cond.fieldLink RX7 13 "StrokeBoardModel" "ops" "[I", Cond.methodLink RX7 54 yX7_isSite, Cond.instanceMethod yX7_isSite, Cond.selects RX7 yX7_isSite yX7_isSite, Cond.initialized RX7, Cond.code yX7_isSite cX7_isSite 2 (some .boolean), Cond.fieldLink RX7 7 "StrokeBoardModel" "sites" "I", Cond.methodLink RX7 50 yX7_in, Cond.static yX7_in, Cond.code yX7_in cX7_in 3 (some .boolean), Cond.methodLink RX7 102 yX7_make, Cond.instanceMethod yX7_make, Cond.selects RX7 yX7_make yX7_make, Cond.code yX7_make cX7_make 10 (some .int), Cond.fieldLink RX7 20 "StrokeBoardModel" "clock" "[I", Cond.fieldLink RX7 23 "StrokeBoardModel" "known" "[I", Cond.fieldLink RX7 32 "StrokeBoardModel" "linkMany" "[I", Cond.fieldLink RX7 29 "StrokeBoardModel" "links" "[I", Cond.methodLink RX7 62 yX7_place]
def wsX7_penUp_r2 : List Cond := [Cond.static yX7_place, Cond.code yX7_place cX7_place 2 (some .int)]
def wsX7_penUp : List Cond := .code yX7_penUp cX7_penUp 5 (some .int) :: ((wsX7_penUp_r1 ++ wsX7_penUp_r2) ++ wsX70)
def wsX7_undo_r1 : List Cond := [Cond.constant RX7 89 (-1000000001), Cond.fieldLink RX7 17 "StrokeBoardModel" "made" "[I", Cond.constant RX7 101 (-1000000002), Cond.constant RX7 94 (-1000000003), Cond.methodLink RX7 54 yX7_isSite, Cond.instanceMethod yX7_isSite, Cond.selects RX7 yX7_isSite yX7_isSite, Cond.initialized RX7, Cond.code yX7_isSite cX7_isSite 2 (some .boolean), Cond.fieldLink RX7 7 "StrokeBoardModel" "sites" "I", Cond.methodLink RX7 50 yX7_in, Cond.static yX7_in, Cond.code yX7_in cX7_in 3 (some .boolean), Cond.methodLink RX7 62 yX7_place, Cond.static yX7_place, Cond.code yX7_place cX7_place 2 (some .int), Cond.methodLink RX7 83 yX7_isVisible, Cond.instanceMethod yX7_isVisible, Cond.selects RX7 yX7_isVisible yX7_isVisible, Cond.code yX7_isVisible cX7_isVisible 4 (some .boolean), Cond.methodLink RX7 65 yX7_doesKnow, Cond.instanceMethod yX7_doesKnow, Cond.selects RX7 yX7_doesKnow yX7_doesKnow, Cond.code yX7_doesKnow cX7_doesKnow 3 (some .boolean)]
def wsX7_undo_r2 : List Cond := [Cond.fieldLink RX7 23 "StrokeBoardModel" "known" "[I", Cond.methodLink RX7 58 yX7_of, Cond.instanceMethod yX7_of, Cond.selects RX7 yX7_of yX7_of, Cond.code yX7_of cX7_of 3 (some .int), Cond.fieldLink RX7 13 "StrokeBoardModel" "ops" "[I", Cond.methodLink RX7 76 yX7_last, Cond.instanceMethod yX7_last, Cond.selects RX7 yX7_last yX7_last, Cond.code yX7_last cX7_last 8 (some .int), Cond.methodLink RX7 69 yX7_aim, Cond.instanceMethod yX7_aim, Cond.selects RX7 yX7_aim yX7_aim, Cond.code yX7_aim cX7_aim 2 (some .int), Cond.methodLink RX7 73 yX7_isAfter, Cond.instanceMethod yX7_isAfter, Cond.selects RX7 yX7_isAfter yX7_isAfter, Cond.code yX7_isAfter cX7_isAfter 3 (some .boolean), Cond.methodLink RX7 102 yX7_make, Cond.instanceMethod yX7_make, Cond.selects RX7 yX7_make yX7_make, Cond.code yX7_make cX7_make 10 (some .int), Cond.fieldLink RX7 20 "StrokeBoardModel" "clock" "[I", Cond.fieldLink RX7 32 "StrokeBoardModel" "linkMany" "[I"]
def wsX7_undo_r3 : List Cond := [Cond.fieldLink RX7 29 "StrokeBoardModel" "links" "[I"]
def wsX7_undo : List Cond := .code yX7_undo cX7_undo 4 (some .int) :: ((wsX7_undo_r1 ++ (wsX7_undo_r2 ++ wsX7_undo_r3)) ++ wsX70)
def wsX7_redo_r1 : List Cond := [Cond.constant RX7 89 (-1000000001), Cond.fieldLink RX7 17 "StrokeBoardModel" "made" "[I", Cond.constant RX7 101 (-1000000002), Cond.constant RX7 94 (-1000000003), Cond.methodLink RX7 54 yX7_isSite, Cond.instanceMethod yX7_isSite, Cond.selects RX7 yX7_isSite yX7_isSite, Cond.initialized RX7, Cond.code yX7_isSite cX7_isSite 2 (some .boolean), Cond.fieldLink RX7 7 "StrokeBoardModel" "sites" "I", Cond.methodLink RX7 50 yX7_in, Cond.static yX7_in, Cond.code yX7_in cX7_in 3 (some .boolean), Cond.methodLink RX7 62 yX7_place, Cond.static yX7_place, Cond.code yX7_place cX7_place 2 (some .int), Cond.methodLink RX7 58 yX7_of, Cond.instanceMethod yX7_of, Cond.selects RX7 yX7_of yX7_of, Cond.code yX7_of cX7_of 3 (some .int), Cond.fieldLink RX7 13 "StrokeBoardModel" "ops" "[I", Cond.methodLink RX7 69 yX7_aim, Cond.instanceMethod yX7_aim, Cond.selects RX7 yX7_aim yX7_aim]
def wsX7_redo_r2 : List Cond := [Cond.code yX7_aim cX7_aim 2 (some .int), Cond.methodLink RX7 83 yX7_isVisible, Cond.instanceMethod yX7_isVisible, Cond.selects RX7 yX7_isVisible yX7_isVisible, Cond.code yX7_isVisible cX7_isVisible 4 (some .boolean), Cond.methodLink RX7 65 yX7_doesKnow, Cond.instanceMethod yX7_doesKnow, Cond.selects RX7 yX7_doesKnow yX7_doesKnow, Cond.code yX7_doesKnow cX7_doesKnow 3 (some .boolean), Cond.fieldLink RX7 23 "StrokeBoardModel" "known" "[I", Cond.methodLink RX7 76 yX7_last, Cond.instanceMethod yX7_last, Cond.selects RX7 yX7_last yX7_last, Cond.code yX7_last cX7_last 8 (some .int), Cond.methodLink RX7 73 yX7_isAfter, Cond.instanceMethod yX7_isAfter, Cond.selects RX7 yX7_isAfter yX7_isAfter, Cond.code yX7_isAfter cX7_isAfter 3 (some .boolean), Cond.methodLink RX7 102 yX7_make, Cond.instanceMethod yX7_make, Cond.selects RX7 yX7_make yX7_make, Cond.code yX7_make cX7_make 10 (some .int), Cond.fieldLink RX7 20 "StrokeBoardModel" "clock" "[I", Cond.fieldLink RX7 32 "StrokeBoardModel" "linkMany" "[I"]
def wsX7_redo_r3 : List Cond := [Cond.fieldLink RX7 29 "StrokeBoardModel" "links" "[I"]
def wsX7_redo : List Cond := .code yX7_redo cX7_redo 6 (some .int) :: ((wsX7_redo_r1 ++ (wsX7_redo_r2 ++ wsX7_redo_r3)) ++ wsX70)
def wsX7_lift_r1 : List Cond := [Cond.constant RX7 89 (-1000000001), Cond.fieldLink RX7 80 "StrokeBoardModel" "boardMany" "I", Cond.constant RX7 101 (-1000000002), Cond.fieldLink RX7 17 "StrokeBoardModel" "made" "[I", Cond.constant RX7 94 (-1000000003), Cond.fieldLink RX7 35 "StrokeBoardModel" "board" "[I", Cond.methodLink RX7 54 yX7_isSite, Cond.instanceMethod yX7_isSite, Cond.selects RX7 yX7_isSite yX7_isSite, Cond.initialized RX7, Cond.code yX7_isSite cX7_isSite 2 (some .boolean), Cond.fieldLink RX7 7 "StrokeBoardModel" "sites" "I", Cond.methodLink RX7 50 yX7_in, Cond.static yX7_in, Cond.code yX7_in cX7_in 3 (some .boolean), Cond.methodLink RX7 98 yX7_workOut, Cond.instanceMethod yX7_workOut, Cond.selects RX7 yX7_workOut yX7_workOut, Cond.code yX7_workOut cX7_workOut 5 none, Cond.fieldLink RX7 38 "StrokeBoardModel" "layers" "[I", Cond.methodLink RX7 83 yX7_isVisible, Cond.instanceMethod yX7_isVisible, Cond.selects RX7 yX7_isVisible yX7_isVisible, Cond.code yX7_isVisible cX7_isVisible 4 (some .boolean)]
def wsX7_lift_r2 : List Cond := [Cond.methodLink RX7 65 yX7_doesKnow, Cond.instanceMethod yX7_doesKnow, Cond.selects RX7 yX7_doesKnow yX7_doesKnow, Cond.code yX7_doesKnow cX7_doesKnow 3 (some .boolean), Cond.fieldLink RX7 23 "StrokeBoardModel" "known" "[I", Cond.methodLink RX7 58 yX7_of, Cond.instanceMethod yX7_of, Cond.selects RX7 yX7_of yX7_of, Cond.code yX7_of cX7_of 3 (some .int), Cond.fieldLink RX7 13 "StrokeBoardModel" "ops" "[I", Cond.methodLink RX7 76 yX7_last, Cond.instanceMethod yX7_last, Cond.selects RX7 yX7_last yX7_last, Cond.code yX7_last cX7_last 8 (some .int), Cond.methodLink RX7 69 yX7_aim, Cond.instanceMethod yX7_aim, Cond.selects RX7 yX7_aim yX7_aim, Cond.code yX7_aim cX7_aim 2 (some .int), Cond.methodLink RX7 62 yX7_place, Cond.static yX7_place, Cond.code yX7_place cX7_place 2 (some .int), Cond.methodLink RX7 73 yX7_isAfter, Cond.instanceMethod yX7_isAfter, Cond.selects RX7 yX7_isAfter yX7_isAfter]
def wsX7_lift_r3 : List Cond := [Cond.code yX7_isAfter cX7_isAfter 3 (some .boolean), Cond.methodLink RX7 86 yX7_layerFor, Cond.instanceMethod yX7_layerFor, Cond.selects RX7 yX7_layerFor yX7_layerFor, Cond.code yX7_layerFor cX7_layerFor 4 (some .int), Cond.methodLink RX7 102 yX7_make, Cond.instanceMethod yX7_make, Cond.selects RX7 yX7_make yX7_make, Cond.code yX7_make cX7_make 10 (some .int), Cond.fieldLink RX7 20 "StrokeBoardModel" "clock" "[I", Cond.fieldLink RX7 32 "StrokeBoardModel" "linkMany" "[I", Cond.fieldLink RX7 29 "StrokeBoardModel" "links" "[I"]
def wsX7_lift : List Cond := .code yX7_lift cX7_lift 4 (some .int) :: ((wsX7_lift_r1 ++ (wsX7_lift_r2 ++ wsX7_lift_r3)) ++ wsX70)
def wsX7_take : List Cond := .code yX7_take cX7_take 4 (some .int) :: ([.fieldLink RX7 29 "StrokeBoardModel" "links" "[I", .fieldLink RX7 32 "StrokeBoardModel" "linkMany" "[I"] ++ wsX70)
def wsX7_deliver_r1 : List Cond := [Cond.constant RX7 89 (-1000000001), Cond.fieldLink RX7 32 "StrokeBoardModel" "linkMany" "[I", Cond.constant RX7 109 (-1000000004), Cond.methodLink RX7 106 yX7_isPair, Cond.instanceMethod yX7_isPair, Cond.selects RX7 yX7_isPair yX7_isPair, Cond.initialized RX7, Cond.code yX7_isPair cX7_isPair 3 (some .boolean), Cond.methodLink RX7 54 yX7_isSite, Cond.instanceMethod yX7_isSite, Cond.selects RX7 yX7_isSite yX7_isSite, Cond.code yX7_isSite cX7_isSite 2 (some .boolean), Cond.fieldLink RX7 7 "StrokeBoardModel" "sites" "I", Cond.methodLink RX7 50 yX7_in, Cond.static yX7_in, Cond.code yX7_in cX7_in 3 (some .boolean), Cond.methodLink RX7 110 yX7_take, Cond.instanceMethod yX7_take, Cond.selects RX7 yX7_take yX7_take, Cond.code yX7_take cX7_take 4 (some .int), Cond.fieldLink RX7 29 "StrokeBoardModel" "links" "[I", Cond.methodLink RX7 62 yX7_place, Cond.static yX7_place, Cond.code yX7_place cX7_place 2 (some .int)]
def wsX7_deliver_r2 : List Cond := [Cond.methodLink RX7 113 yX7_learns, Cond.instanceMethod yX7_learns, Cond.selects RX7 yX7_learns yX7_learns, Cond.code yX7_learns cX7_learns 3 none, Cond.fieldLink RX7 23 "StrokeBoardModel" "known" "[I", Cond.fieldLink RX7 20 "StrokeBoardModel" "clock" "[I", Cond.methodLink RX7 58 yX7_of, Cond.instanceMethod yX7_of, Cond.selects RX7 yX7_of yX7_of, Cond.code yX7_of cX7_of 3 (some .int), Cond.fieldLink RX7 13 "StrokeBoardModel" "ops" "[I"]
def wsX7_deliver : List Cond := .code yX7_deliver cX7_deliver 5 (some .int) :: ((wsX7_deliver_r1 ++ wsX7_deliver_r2) ++ wsX70)
def wsX7_lose : List Cond := .code yX7_lose cX7_lose 5 (some .int) :: ([.constant RX7 89 (-1000000001), .fieldLink RX7 32 "StrokeBoardModel" "linkMany" "[I", .constant RX7 109 (-1000000004), .methodLink RX7 106 yX7_isPair, .instanceMethod yX7_isPair, .selects RX7 yX7_isPair yX7_isPair, .initialized RX7, .code yX7_isPair cX7_isPair 3 (some .boolean), .methodLink RX7 54 yX7_isSite, .instanceMethod yX7_isSite, .selects RX7 yX7_isSite yX7_isSite, .code yX7_isSite cX7_isSite 2 (some .boolean), .fieldLink RX7 7 "StrokeBoardModel" "sites" "I", .methodLink RX7 50 yX7_in, .static yX7_in, .code yX7_in cX7_in 3 (some .boolean), .methodLink RX7 110 yX7_take, .instanceMethod yX7_take, .selects RX7 yX7_take yX7_take, .code yX7_take cX7_take 4 (some .int), .fieldLink RX7 29 "StrokeBoardModel" "links" "[I"] ++ wsX70)
def wsX7_deliverAll : List Cond := .code yX7_deliverAll cX7_deliverAll 3 (some .int) :: ([.fieldLink RX7 32 "StrokeBoardModel" "linkMany" "[I", .methodLink RX7 110 yX7_take, .instanceMethod yX7_take, .selects RX7 yX7_take yX7_take, .initialized RX7, .code yX7_take cX7_take 4 (some .int), .fieldLink RX7 29 "StrokeBoardModel" "links" "[I", .methodLink RX7 62 yX7_place, .static yX7_place, .code yX7_place cX7_place 2 (some .int), .methodLink RX7 113 yX7_learns, .instanceMethod yX7_learns, .selects RX7 yX7_learns yX7_learns, .code yX7_learns cX7_learns 3 none, .fieldLink RX7 23 "StrokeBoardModel" "known" "[I", .fieldLink RX7 20 "StrokeBoardModel" "clock" "[I", .methodLink RX7 58 yX7_of, .instanceMethod yX7_of, .selects RX7 yX7_of yX7_of, .code yX7_of cX7_of 3 (some .int), .fieldLink RX7 13 "StrokeBoardModel" "ops" "[I"] ++ wsX70)
def wsX7_waiting : List Cond := .code yX7_waiting cX7_waiting 3 (some .int) :: ([.fieldLink RX7 32 "StrokeBoardModel" "linkMany" "[I", .constant RX7 89 (-1000000001), .methodLink RX7 106 yX7_isPair, .instanceMethod yX7_isPair, .selects RX7 yX7_isPair yX7_isPair, .initialized RX7, .code yX7_isPair cX7_isPair 3 (some .boolean), .methodLink RX7 54 yX7_isSite, .instanceMethod yX7_isSite, .selects RX7 yX7_isSite yX7_isSite, .code yX7_isSite cX7_isSite 2 (some .boolean), .fieldLink RX7 7 "StrokeBoardModel" "sites" "I", .methodLink RX7 50 yX7_in, .static yX7_in, .code yX7_in cX7_in 3 (some .boolean)] ++ wsX70)
def wsX7_greatest : List Cond := .code yX7_greatest cX7_greatest 5 (some .int) :: ([.fieldLink RX7 17 "StrokeBoardModel" "made" "[I", .methodLink RX7 62 yX7_place, .static yX7_place, .initialized RX7, .code yX7_place cX7_place 2 (some .int), .methodLink RX7 65 yX7_doesKnow, .instanceMethod yX7_doesKnow, .selects RX7 yX7_doesKnow yX7_doesKnow, .code yX7_doesKnow cX7_doesKnow 3 (some .boolean), .fieldLink RX7 23 "StrokeBoardModel" "known" "[I"] ++ wsX70)
def wsX7_gap : List Cond := .code yX7_gap cX7_gap 9 (some .int) :: ([.constant RX7 89 (-1000000001), .constant RX7 109 (-1000000004), .methodLink RX7 54 yX7_isSite, .instanceMethod yX7_isSite, .selects RX7 yX7_isSite yX7_isSite, .initialized RX7, .code yX7_isSite cX7_isSite 2 (some .boolean), .fieldLink RX7 7 "StrokeBoardModel" "sites" "I", .methodLink RX7 50 yX7_in, .static yX7_in, .code yX7_in cX7_in 3 (some .boolean), .methodLink RX7 117 yX7_greatest, .instanceMethod yX7_greatest, .selects RX7 yX7_greatest yX7_greatest, .code yX7_greatest cX7_greatest 5 (some .int), .fieldLink RX7 17 "StrokeBoardModel" "made" "[I", .methodLink RX7 62 yX7_place, .static yX7_place, .code yX7_place cX7_place 2 (some .int), .methodLink RX7 65 yX7_doesKnow, .instanceMethod yX7_doesKnow, .selects RX7 yX7_doesKnow yX7_doesKnow, .code yX7_doesKnow cX7_doesKnow 3 (some .boolean), .fieldLink RX7 23 "StrokeBoardModel" "known" "[I"] ++ wsX70)
def wsX7_isGiven : List Cond := .code yX7_isGiven cX7_isGiven 4 (some .boolean) :: ([.methodLink RX7 65 yX7_doesKnow, .instanceMethod yX7_doesKnow, .selects RX7 yX7_doesKnow yX7_doesKnow, .initialized RX7, .code yX7_doesKnow cX7_doesKnow 3 (some .boolean), .fieldLink RX7 23 "StrokeBoardModel" "known" "[I", .methodLink RX7 117 yX7_greatest, .instanceMethod yX7_greatest, .selects RX7 yX7_greatest yX7_greatest, .code yX7_greatest cX7_greatest 5 (some .int), .fieldLink RX7 17 "StrokeBoardModel" "made" "[I", .methodLink RX7 62 yX7_place, .static yX7_place, .code yX7_place cX7_place 2 (some .int)] ++ wsX70)
def wsX7_givenMany : List Cond := .code yX7_givenMany cX7_givenMany 5 (some .int) :: ([.methodLink RX7 120 yX7_isGiven, .instanceMethod yX7_isGiven, .selects RX7 yX7_isGiven yX7_isGiven, .initialized RX7, .code yX7_isGiven cX7_isGiven 4 (some .boolean), .methodLink RX7 65 yX7_doesKnow, .instanceMethod yX7_doesKnow, .selects RX7 yX7_doesKnow yX7_doesKnow, .code yX7_doesKnow cX7_doesKnow 3 (some .boolean), .fieldLink RX7 23 "StrokeBoardModel" "known" "[I", .methodLink RX7 117 yX7_greatest, .instanceMethod yX7_greatest, .selects RX7 yX7_greatest yX7_greatest, .code yX7_greatest cX7_greatest 5 (some .int), .fieldLink RX7 17 "StrokeBoardModel" "made" "[I", .methodLink RX7 62 yX7_place, .static yX7_place, .code yX7_place cX7_place 2 (some .int)] ++ wsX70)
def wsX7_repair_r1 : List Cond := [Cond.constant RX7 89 (-1000000001), Cond.methodLink RX7 106 yX7_isPair, Cond.instanceMethod yX7_isPair, Cond.selects RX7 yX7_isPair yX7_isPair, Cond.initialized RX7, Cond.code yX7_isPair cX7_isPair 3 (some .boolean), Cond.methodLink RX7 54 yX7_isSite, Cond.instanceMethod yX7_isSite, Cond.selects RX7 yX7_isSite yX7_isSite, Cond.code yX7_isSite cX7_isSite 2 (some .boolean), Cond.fieldLink RX7 7 "StrokeBoardModel" "sites" "I", Cond.methodLink RX7 50 yX7_in, Cond.static yX7_in, Cond.code yX7_in cX7_in 3 (some .boolean), Cond.methodLink RX7 120 yX7_isGiven, Cond.instanceMethod yX7_isGiven, Cond.selects RX7 yX7_isGiven yX7_isGiven, Cond.code yX7_isGiven cX7_isGiven 4 (some .boolean), Cond.methodLink RX7 65 yX7_doesKnow, Cond.instanceMethod yX7_doesKnow, Cond.selects RX7 yX7_doesKnow yX7_doesKnow, Cond.code yX7_doesKnow cX7_doesKnow 3 (some .boolean), Cond.fieldLink RX7 23 "StrokeBoardModel" "known" "[I", Cond.methodLink RX7 117 yX7_greatest]
def wsX7_repair_r2 : List Cond := [Cond.instanceMethod yX7_greatest, Cond.selects RX7 yX7_greatest yX7_greatest, Cond.code yX7_greatest cX7_greatest 5 (some .int), Cond.fieldLink RX7 17 "StrokeBoardModel" "made" "[I", Cond.methodLink RX7 62 yX7_place, Cond.static yX7_place, Cond.code yX7_place cX7_place 2 (some .int), Cond.methodLink RX7 113 yX7_learns, Cond.instanceMethod yX7_learns, Cond.selects RX7 yX7_learns yX7_learns, Cond.code yX7_learns cX7_learns 3 none, Cond.fieldLink RX7 20 "StrokeBoardModel" "clock" "[I", Cond.methodLink RX7 58 yX7_of, Cond.instanceMethod yX7_of, Cond.selects RX7 yX7_of yX7_of, Cond.code yX7_of cX7_of 3 (some .int), Cond.fieldLink RX7 13 "StrokeBoardModel" "ops" "[I"]
def wsX7_repair : List Cond := .code yX7_repair cX7_repair 5 (some .int) :: ((wsX7_repair_r1 ++ wsX7_repair_r2) ++ wsX70)
def wsX7_sizeOf : List Cond := .code yX7_sizeOf cX7_sizeOf 6 (some .int) :: ([.methodLink RX7 58 yX7_of, .instanceMethod yX7_of, .selects RX7 yX7_of yX7_of, .initialized RX7, .code yX7_of cX7_of 3 (some .int), .fieldLink RX7 13 "StrokeBoardModel" "ops" "[I", .methodLink RX7 50 yX7_in, .static yX7_in, .code yX7_in cX7_in 3 (some .boolean)] ++ wsX70)
def wsX7_transfer_r1 : List Cond := [Cond.constant RX7 89 (-1000000001), Cond.fieldLink RX7 20 "StrokeBoardModel" "clock" "[I", Cond.methodLink RX7 106 yX7_isPair, Cond.instanceMethod yX7_isPair, Cond.selects RX7 yX7_isPair yX7_isPair, Cond.initialized RX7, Cond.code yX7_isPair cX7_isPair 3 (some .boolean), Cond.methodLink RX7 54 yX7_isSite, Cond.instanceMethod yX7_isSite, Cond.selects RX7 yX7_isSite yX7_isSite, Cond.code yX7_isSite cX7_isSite 2 (some .boolean), Cond.fieldLink RX7 7 "StrokeBoardModel" "sites" "I", Cond.methodLink RX7 50 yX7_in, Cond.static yX7_in, Cond.code yX7_in cX7_in 3 (some .boolean), Cond.methodLink RX7 65 yX7_doesKnow, Cond.instanceMethod yX7_doesKnow, Cond.selects RX7 yX7_doesKnow yX7_doesKnow, Cond.code yX7_doesKnow cX7_doesKnow 3 (some .boolean), Cond.fieldLink RX7 23 "StrokeBoardModel" "known" "[I", Cond.methodLink RX7 113 yX7_learns, Cond.instanceMethod yX7_learns, Cond.selects RX7 yX7_learns yX7_learns, Cond.code yX7_learns cX7_learns 3 none]
def wsX7_transfer_r2 : List Cond := [Cond.methodLink RX7 58 yX7_of, Cond.instanceMethod yX7_of, Cond.selects RX7 yX7_of yX7_of, Cond.code yX7_of cX7_of 3 (some .int), Cond.fieldLink RX7 13 "StrokeBoardModel" "ops" "[I", Cond.methodLink RX7 123 yX7_sizeOf, Cond.instanceMethod yX7_sizeOf, Cond.selects RX7 yX7_sizeOf yX7_sizeOf, Cond.code yX7_sizeOf cX7_sizeOf 6 (some .int)]
def wsX7_transfer : List Cond := .code yX7_transfer cX7_transfer 5 (some .int) :: ((wsX7_transfer_r1 ++ wsX7_transfer_r2) ++ wsX70)
def wsX7_operation : List Cond := .code yX7_operation cX7_operation 5 (some .int) :: ([.constant RX7 89 (-1000000001), .fieldLink RX7 17 "StrokeBoardModel" "made" "[I", .constant RX7 109 (-1000000004), .methodLink RX7 54 yX7_isSite, .instanceMethod yX7_isSite, .selects RX7 yX7_isSite yX7_isSite, .initialized RX7, .code yX7_isSite cX7_isSite 2 (some .boolean), .fieldLink RX7 7 "StrokeBoardModel" "sites" "I", .methodLink RX7 50 yX7_in, .static yX7_in, .code yX7_in cX7_in 3 (some .boolean), .methodLink RX7 62 yX7_place, .static yX7_place, .code yX7_place cX7_place 2 (some .int), .methodLink RX7 58 yX7_of, .instanceMethod yX7_of, .selects RX7 yX7_of yX7_of, .code yX7_of cX7_of 3 (some .int), .fieldLink RX7 13 "StrokeBoardModel" "ops" "[I", .methodLink RX7 123 yX7_sizeOf, .instanceMethod yX7_sizeOf, .selects RX7 yX7_sizeOf yX7_sizeOf, .code yX7_sizeOf cX7_sizeOf 6 (some .int)] ++ wsX70)
def wsX7_knows : List Cond := .code yX7_knows cX7_knows 4 (some .int) :: ([.constant RX7 89 (-1000000001), .fieldLink RX7 17 "StrokeBoardModel" "made" "[I", .constant RX7 109 (-1000000004), .fieldLink RX7 23 "StrokeBoardModel" "known" "[I", .methodLink RX7 54 yX7_isSite, .instanceMethod yX7_isSite, .selects RX7 yX7_isSite yX7_isSite, .initialized RX7, .code yX7_isSite cX7_isSite 2 (some .boolean), .fieldLink RX7 7 "StrokeBoardModel" "sites" "I", .methodLink RX7 50 yX7_in, .static yX7_in, .code yX7_in cX7_in 3 (some .boolean), .methodLink RX7 62 yX7_place, .static yX7_place, .code yX7_place cX7_place 2 (some .int)] ++ wsX70)
def wsX7_stroke_r1 : List Cond := [Cond.constant RX7 89 (-1000000001), Cond.fieldLink RX7 80 "StrokeBoardModel" "boardMany" "I", Cond.constant RX7 109 (-1000000004), Cond.fieldLink RX7 35 "StrokeBoardModel" "board" "[I", Cond.fieldLink RX7 38 "StrokeBoardModel" "layers" "[I", Cond.methodLink RX7 54 yX7_isSite, Cond.instanceMethod yX7_isSite, Cond.selects RX7 yX7_isSite yX7_isSite, Cond.initialized RX7, Cond.code yX7_isSite cX7_isSite 2 (some .boolean), Cond.fieldLink RX7 7 "StrokeBoardModel" "sites" "I", Cond.methodLink RX7 50 yX7_in, Cond.static yX7_in, Cond.code yX7_in cX7_in 3 (some .boolean), Cond.methodLink RX7 98 yX7_workOut, Cond.instanceMethod yX7_workOut, Cond.selects RX7 yX7_workOut yX7_workOut, Cond.code yX7_workOut cX7_workOut 5 none, Cond.methodLink RX7 83 yX7_isVisible, Cond.instanceMethod yX7_isVisible, Cond.selects RX7 yX7_isVisible yX7_isVisible, Cond.code yX7_isVisible cX7_isVisible 4 (some .boolean), Cond.methodLink RX7 65 yX7_doesKnow, Cond.instanceMethod yX7_doesKnow]
def wsX7_stroke_r2 : List Cond := [Cond.selects RX7 yX7_doesKnow yX7_doesKnow, Cond.code yX7_doesKnow cX7_doesKnow 3 (some .boolean), Cond.fieldLink RX7 23 "StrokeBoardModel" "known" "[I", Cond.methodLink RX7 58 yX7_of, Cond.instanceMethod yX7_of, Cond.selects RX7 yX7_of yX7_of, Cond.code yX7_of cX7_of 3 (some .int), Cond.fieldLink RX7 13 "StrokeBoardModel" "ops" "[I", Cond.methodLink RX7 76 yX7_last, Cond.instanceMethod yX7_last, Cond.selects RX7 yX7_last yX7_last, Cond.code yX7_last cX7_last 8 (some .int), Cond.methodLink RX7 69 yX7_aim, Cond.instanceMethod yX7_aim, Cond.selects RX7 yX7_aim yX7_aim, Cond.code yX7_aim cX7_aim 2 (some .int), Cond.methodLink RX7 62 yX7_place, Cond.static yX7_place, Cond.code yX7_place cX7_place 2 (some .int), Cond.methodLink RX7 73 yX7_isAfter, Cond.instanceMethod yX7_isAfter, Cond.selects RX7 yX7_isAfter yX7_isAfter, Cond.code yX7_isAfter cX7_isAfter 3 (some .boolean), Cond.methodLink RX7 86 yX7_layerFor]
def wsX7_stroke_r3 : List Cond := [Cond.instanceMethod yX7_layerFor, Cond.selects RX7 yX7_layerFor yX7_layerFor, Cond.code yX7_layerFor cX7_layerFor 4 (some .int)]
def wsX7_stroke : List Cond := .code yX7_stroke cX7_stroke 5 (some .int) :: ((wsX7_stroke_r1 ++ (wsX7_stroke_r2 ++ wsX7_stroke_r3)) ++ wsX70)
def wsX7_strokeAt_r1 : List Cond := [Cond.constant RX7 89 (-1000000001), Cond.constant RX7 109 (-1000000004), Cond.fieldLink RX7 80 "StrokeBoardModel" "boardMany" "I", Cond.fieldLink RX7 35 "StrokeBoardModel" "board" "[I", Cond.methodLink RX7 54 yX7_isSite, Cond.instanceMethod yX7_isSite, Cond.selects RX7 yX7_isSite yX7_isSite, Cond.initialized RX7, Cond.code yX7_isSite cX7_isSite 2 (some .boolean), Cond.fieldLink RX7 7 "StrokeBoardModel" "sites" "I", Cond.methodLink RX7 50 yX7_in, Cond.static yX7_in, Cond.code yX7_in cX7_in 3 (some .boolean), Cond.methodLink RX7 98 yX7_workOut, Cond.instanceMethod yX7_workOut, Cond.selects RX7 yX7_workOut yX7_workOut, Cond.code yX7_workOut cX7_workOut 5 none, Cond.fieldLink RX7 38 "StrokeBoardModel" "layers" "[I", Cond.methodLink RX7 83 yX7_isVisible, Cond.instanceMethod yX7_isVisible, Cond.selects RX7 yX7_isVisible yX7_isVisible, Cond.code yX7_isVisible cX7_isVisible 4 (some .boolean), Cond.methodLink RX7 65 yX7_doesKnow, Cond.instanceMethod yX7_doesKnow]
def wsX7_strokeAt_r2 : List Cond := [Cond.selects RX7 yX7_doesKnow yX7_doesKnow, Cond.code yX7_doesKnow cX7_doesKnow 3 (some .boolean), Cond.fieldLink RX7 23 "StrokeBoardModel" "known" "[I", Cond.methodLink RX7 58 yX7_of, Cond.instanceMethod yX7_of, Cond.selects RX7 yX7_of yX7_of, Cond.code yX7_of cX7_of 3 (some .int), Cond.fieldLink RX7 13 "StrokeBoardModel" "ops" "[I", Cond.methodLink RX7 76 yX7_last, Cond.instanceMethod yX7_last, Cond.selects RX7 yX7_last yX7_last, Cond.code yX7_last cX7_last 8 (some .int), Cond.methodLink RX7 69 yX7_aim, Cond.instanceMethod yX7_aim, Cond.selects RX7 yX7_aim yX7_aim, Cond.code yX7_aim cX7_aim 2 (some .int), Cond.methodLink RX7 62 yX7_place, Cond.static yX7_place, Cond.code yX7_place cX7_place 2 (some .int), Cond.methodLink RX7 73 yX7_isAfter, Cond.instanceMethod yX7_isAfter, Cond.selects RX7 yX7_isAfter yX7_isAfter, Cond.code yX7_isAfter cX7_isAfter 3 (some .boolean), Cond.methodLink RX7 86 yX7_layerFor]
def wsX7_strokeAt_r3 : List Cond := [Cond.instanceMethod yX7_layerFor, Cond.selects RX7 yX7_layerFor yX7_layerFor, Cond.code yX7_layerFor cX7_layerFor 4 (some .int)]
def wsX7_strokeAt : List Cond := .code yX7_strokeAt cX7_strokeAt 7 (some .int) :: ((wsX7_strokeAt_r1 ++ (wsX7_strokeAt_r2 ++ wsX7_strokeAt_r3)) ++ wsX70)
def wsX7_digest_r1 : List Cond := [Cond.fieldLink RX7 80 "StrokeBoardModel" "boardMany" "I", Cond.fieldLink RX7 35 "StrokeBoardModel" "board" "[I", Cond.fieldLink RX7 38 "StrokeBoardModel" "layers" "[I", Cond.methodLink RX7 54 yX7_isSite, Cond.instanceMethod yX7_isSite, Cond.selects RX7 yX7_isSite yX7_isSite, Cond.initialized RX7, Cond.code yX7_isSite cX7_isSite 2 (some .boolean), Cond.fieldLink RX7 7 "StrokeBoardModel" "sites" "I", Cond.methodLink RX7 50 yX7_in, Cond.static yX7_in, Cond.code yX7_in cX7_in 3 (some .boolean), Cond.methodLink RX7 98 yX7_workOut, Cond.instanceMethod yX7_workOut, Cond.selects RX7 yX7_workOut yX7_workOut, Cond.code yX7_workOut cX7_workOut 5 none, Cond.methodLink RX7 83 yX7_isVisible, Cond.instanceMethod yX7_isVisible, Cond.selects RX7 yX7_isVisible yX7_isVisible, Cond.code yX7_isVisible cX7_isVisible 4 (some .boolean), Cond.methodLink RX7 65 yX7_doesKnow, Cond.instanceMethod yX7_doesKnow, Cond.selects RX7 yX7_doesKnow yX7_doesKnow, Cond.code yX7_doesKnow cX7_doesKnow 3 (some .boolean)]
def wsX7_digest_r2 : List Cond := [Cond.fieldLink RX7 23 "StrokeBoardModel" "known" "[I", Cond.methodLink RX7 58 yX7_of, Cond.instanceMethod yX7_of, Cond.selects RX7 yX7_of yX7_of, Cond.code yX7_of cX7_of 3 (some .int), Cond.fieldLink RX7 13 "StrokeBoardModel" "ops" "[I", Cond.methodLink RX7 76 yX7_last, Cond.instanceMethod yX7_last, Cond.selects RX7 yX7_last yX7_last, Cond.code yX7_last cX7_last 8 (some .int), Cond.methodLink RX7 69 yX7_aim, Cond.instanceMethod yX7_aim, Cond.selects RX7 yX7_aim yX7_aim, Cond.code yX7_aim cX7_aim 2 (some .int), Cond.methodLink RX7 62 yX7_place, Cond.static yX7_place, Cond.code yX7_place cX7_place 2 (some .int), Cond.methodLink RX7 73 yX7_isAfter, Cond.instanceMethod yX7_isAfter, Cond.selects RX7 yX7_isAfter yX7_isAfter, Cond.code yX7_isAfter cX7_isAfter 3 (some .boolean), Cond.methodLink RX7 86 yX7_layerFor, Cond.instanceMethod yX7_layerFor, Cond.selects RX7 yX7_layerFor yX7_layerFor]
def wsX7_digest_r3 : List Cond := [Cond.code yX7_layerFor cX7_layerFor 4 (some .int)]
def wsX7_digest : List Cond := .code yX7_digest cX7_digest 6 (some .int) :: ((wsX7_digest_r1 ++ (wsX7_digest_r2 ++ wsX7_digest_r3)) ++ wsX70)
def wsX7_doShowSame_r1 : List Cond := [Cond.fieldLink RX7 80 "StrokeBoardModel" "boardMany" "I", Cond.fieldLink RX7 41 "StrokeBoardModel" "otherBoard" "[I", Cond.fieldLink RX7 35 "StrokeBoardModel" "board" "[I", Cond.fieldLink RX7 44 "StrokeBoardModel" "otherLayers" "[I", Cond.fieldLink RX7 38 "StrokeBoardModel" "layers" "[I", Cond.methodLink RX7 98 yX7_workOut, Cond.instanceMethod yX7_workOut, Cond.selects RX7 yX7_workOut yX7_workOut, Cond.initialized RX7, Cond.code yX7_workOut cX7_workOut 5 none, Cond.methodLink RX7 83 yX7_isVisible, Cond.instanceMethod yX7_isVisible, Cond.selects RX7 yX7_isVisible yX7_isVisible, Cond.code yX7_isVisible cX7_isVisible 4 (some .boolean), Cond.methodLink RX7 65 yX7_doesKnow, Cond.instanceMethod yX7_doesKnow, Cond.selects RX7 yX7_doesKnow yX7_doesKnow, Cond.code yX7_doesKnow cX7_doesKnow 3 (some .boolean), Cond.fieldLink RX7 23 "StrokeBoardModel" "known" "[I", Cond.methodLink RX7 58 yX7_of, Cond.instanceMethod yX7_of, Cond.selects RX7 yX7_of yX7_of, Cond.code yX7_of cX7_of 3 (some .int), Cond.fieldLink RX7 13 "StrokeBoardModel" "ops" "[I"]
def wsX7_doShowSame_r2 : List Cond := [Cond.methodLink RX7 76 yX7_last, Cond.instanceMethod yX7_last, Cond.selects RX7 yX7_last yX7_last, Cond.code yX7_last cX7_last 8 (some .int), Cond.methodLink RX7 50 yX7_in, Cond.static yX7_in, Cond.code yX7_in cX7_in 3 (some .boolean), Cond.methodLink RX7 69 yX7_aim, Cond.instanceMethod yX7_aim, Cond.selects RX7 yX7_aim yX7_aim, Cond.code yX7_aim cX7_aim 2 (some .int), Cond.methodLink RX7 62 yX7_place, Cond.static yX7_place, Cond.code yX7_place cX7_place 2 (some .int), Cond.methodLink RX7 73 yX7_isAfter, Cond.instanceMethod yX7_isAfter, Cond.selects RX7 yX7_isAfter yX7_isAfter, Cond.code yX7_isAfter cX7_isAfter 3 (some .boolean), Cond.methodLink RX7 86 yX7_layerFor, Cond.instanceMethod yX7_layerFor, Cond.selects RX7 yX7_layerFor yX7_layerFor, Cond.code yX7_layerFor cX7_layerFor 4 (some .int)]
def wsX7_doShowSame : List Cond := .code yX7_doShowSame cX7_doShowSame 6 (some .boolean) :: ((wsX7_doShowSame_r1 ++ wsX7_doShowSame_r2) ++ wsX70)
def wsX7_areSame_r1 : List Cond := [Cond.constant RX7 89 (-1000000001), Cond.methodLink RX7 54 yX7_isSite, Cond.instanceMethod yX7_isSite, Cond.selects RX7 yX7_isSite yX7_isSite, Cond.initialized RX7, Cond.code yX7_isSite cX7_isSite 2 (some .boolean), Cond.fieldLink RX7 7 "StrokeBoardModel" "sites" "I", Cond.methodLink RX7 50 yX7_in, Cond.static yX7_in, Cond.code yX7_in cX7_in 3 (some .boolean), Cond.methodLink RX7 126 yX7_doShowSame, Cond.instanceMethod yX7_doShowSame, Cond.selects RX7 yX7_doShowSame yX7_doShowSame, Cond.code yX7_doShowSame cX7_doShowSame 6 (some .boolean), Cond.fieldLink RX7 80 "StrokeBoardModel" "boardMany" "I", Cond.fieldLink RX7 41 "StrokeBoardModel" "otherBoard" "[I", Cond.fieldLink RX7 35 "StrokeBoardModel" "board" "[I", Cond.fieldLink RX7 44 "StrokeBoardModel" "otherLayers" "[I", Cond.fieldLink RX7 38 "StrokeBoardModel" "layers" "[I", Cond.methodLink RX7 98 yX7_workOut, Cond.instanceMethod yX7_workOut, Cond.selects RX7 yX7_workOut yX7_workOut, Cond.code yX7_workOut cX7_workOut 5 none, Cond.methodLink RX7 83 yX7_isVisible]
def wsX7_areSame_r2 : List Cond := [Cond.instanceMethod yX7_isVisible, Cond.selects RX7 yX7_isVisible yX7_isVisible, Cond.code yX7_isVisible cX7_isVisible 4 (some .boolean), Cond.methodLink RX7 65 yX7_doesKnow, Cond.instanceMethod yX7_doesKnow, Cond.selects RX7 yX7_doesKnow yX7_doesKnow, Cond.code yX7_doesKnow cX7_doesKnow 3 (some .boolean), Cond.fieldLink RX7 23 "StrokeBoardModel" "known" "[I", Cond.methodLink RX7 58 yX7_of, Cond.instanceMethod yX7_of, Cond.selects RX7 yX7_of yX7_of, Cond.code yX7_of cX7_of 3 (some .int), Cond.fieldLink RX7 13 "StrokeBoardModel" "ops" "[I", Cond.methodLink RX7 76 yX7_last, Cond.instanceMethod yX7_last, Cond.selects RX7 yX7_last yX7_last, Cond.code yX7_last cX7_last 8 (some .int), Cond.methodLink RX7 69 yX7_aim, Cond.instanceMethod yX7_aim, Cond.selects RX7 yX7_aim yX7_aim, Cond.code yX7_aim cX7_aim 2 (some .int), Cond.methodLink RX7 62 yX7_place, Cond.static yX7_place, Cond.code yX7_place cX7_place 2 (some .int)]
def wsX7_areSame_r3 : List Cond := [Cond.methodLink RX7 73 yX7_isAfter, Cond.instanceMethod yX7_isAfter, Cond.selects RX7 yX7_isAfter yX7_isAfter, Cond.code yX7_isAfter cX7_isAfter 3 (some .boolean), Cond.methodLink RX7 86 yX7_layerFor, Cond.instanceMethod yX7_layerFor, Cond.selects RX7 yX7_layerFor yX7_layerFor, Cond.code yX7_layerFor cX7_layerFor 4 (some .int)]
def wsX7_areSame : List Cond := .code yX7_areSame cX7_areSame 3 (some .int) :: ((wsX7_areSame_r1 ++ (wsX7_areSame_r2 ++ wsX7_areSame_r3)) ++ wsX70)
def wsX7_differing_r1 : List Cond := [Cond.fieldLink RX7 47 "StrokeBoardModel" "aside" "[I", Cond.fieldLink RX7 23 "StrokeBoardModel" "known" "[I", Cond.fieldLink RX7 32 "StrokeBoardModel" "linkMany" "[I", Cond.fieldLink RX7 29 "StrokeBoardModel" "links" "[I", Cond.fieldLink RX7 7 "StrokeBoardModel" "sites" "I", Cond.methodLink RX7 62 yX7_place, Cond.static yX7_place, Cond.initialized RX7, Cond.code yX7_place cX7_place 2 (some .int), Cond.methodLink RX7 126 yX7_doShowSame, Cond.instanceMethod yX7_doShowSame, Cond.selects RX7 yX7_doShowSame yX7_doShowSame, Cond.code yX7_doShowSame cX7_doShowSame 6 (some .boolean), Cond.fieldLink RX7 80 "StrokeBoardModel" "boardMany" "I", Cond.fieldLink RX7 41 "StrokeBoardModel" "otherBoard" "[I", Cond.fieldLink RX7 35 "StrokeBoardModel" "board" "[I", Cond.fieldLink RX7 44 "StrokeBoardModel" "otherLayers" "[I", Cond.fieldLink RX7 38 "StrokeBoardModel" "layers" "[I", Cond.methodLink RX7 98 yX7_workOut, Cond.instanceMethod yX7_workOut, Cond.selects RX7 yX7_workOut yX7_workOut, Cond.code yX7_workOut cX7_workOut 5 none, Cond.methodLink RX7 83 yX7_isVisible, Cond.instanceMethod yX7_isVisible]
def wsX7_differing_r2 : List Cond := [Cond.selects RX7 yX7_isVisible yX7_isVisible, Cond.code yX7_isVisible cX7_isVisible 4 (some .boolean), Cond.methodLink RX7 65 yX7_doesKnow, Cond.instanceMethod yX7_doesKnow, Cond.selects RX7 yX7_doesKnow yX7_doesKnow, Cond.code yX7_doesKnow cX7_doesKnow 3 (some .boolean), Cond.methodLink RX7 58 yX7_of, Cond.instanceMethod yX7_of, Cond.selects RX7 yX7_of yX7_of, Cond.code yX7_of cX7_of 3 (some .int), Cond.fieldLink RX7 13 "StrokeBoardModel" "ops" "[I", Cond.methodLink RX7 76 yX7_last, Cond.instanceMethod yX7_last, Cond.selects RX7 yX7_last yX7_last, Cond.code yX7_last cX7_last 8 (some .int), Cond.methodLink RX7 50 yX7_in, Cond.static yX7_in, Cond.code yX7_in cX7_in 3 (some .boolean), Cond.methodLink RX7 69 yX7_aim, Cond.instanceMethod yX7_aim, Cond.selects RX7 yX7_aim yX7_aim, Cond.code yX7_aim cX7_aim 2 (some .int), Cond.methodLink RX7 73 yX7_isAfter, Cond.instanceMethod yX7_isAfter]
def wsX7_differing_r3 : List Cond := [Cond.selects RX7 yX7_isAfter yX7_isAfter, Cond.code yX7_isAfter cX7_isAfter 3 (some .boolean), Cond.methodLink RX7 86 yX7_layerFor, Cond.instanceMethod yX7_layerFor, Cond.selects RX7 yX7_layerFor yX7_layerFor, Cond.code yX7_layerFor cX7_layerFor 4 (some .int)]
def wsX7_differing : List Cond := .code yX7_differing cX7_differing 4 (some .int) :: ((wsX7_differing_r1 ++ (wsX7_differing_r2 ++ wsX7_differing_r3)) ++ wsX70)
def wsX7_bestHelper_r1 : List Cond := [Cond.constant RX7 89 (-1000000001), Cond.constant RX7 109 (-1000000004), Cond.fieldLink RX7 7 "StrokeBoardModel" "sites" "I", Cond.methodLink RX7 54 yX7_isSite, Cond.instanceMethod yX7_isSite, Cond.selects RX7 yX7_isSite yX7_isSite, Cond.initialized RX7, Cond.code yX7_isSite cX7_isSite 2 (some .boolean), Cond.methodLink RX7 50 yX7_in, Cond.static yX7_in, Cond.code yX7_in cX7_in 3 (some .boolean), Cond.methodLink RX7 129 yX7_givenMany, Cond.instanceMethod yX7_givenMany, Cond.selects RX7 yX7_givenMany yX7_givenMany, Cond.code yX7_givenMany cX7_givenMany 5 (some .int), Cond.methodLink RX7 120 yX7_isGiven, Cond.instanceMethod yX7_isGiven, Cond.selects RX7 yX7_isGiven yX7_isGiven, Cond.code yX7_isGiven cX7_isGiven 4 (some .boolean), Cond.methodLink RX7 65 yX7_doesKnow, Cond.instanceMethod yX7_doesKnow, Cond.selects RX7 yX7_doesKnow yX7_doesKnow, Cond.code yX7_doesKnow cX7_doesKnow 3 (some .boolean), Cond.fieldLink RX7 23 "StrokeBoardModel" "known" "[I"]
def wsX7_bestHelper_r2 : List Cond := [Cond.methodLink RX7 117 yX7_greatest, Cond.instanceMethod yX7_greatest, Cond.selects RX7 yX7_greatest yX7_greatest, Cond.code yX7_greatest cX7_greatest 5 (some .int), Cond.fieldLink RX7 17 "StrokeBoardModel" "made" "[I", Cond.methodLink RX7 62 yX7_place, Cond.static yX7_place, Cond.code yX7_place cX7_place 2 (some .int)]
def wsX7_bestHelper : List Cond := .code yX7_bestHelper cX7_bestHelper 6 (some .int) :: ((wsX7_bestHelper_r1 ++ wsX7_bestHelper_r2) ++ wsX70)
def wsX7_isSafe : List Cond := .code yX7_isSafe cX7_isSafe 6 (some .boolean) :: ([.fieldLink RX7 7 "StrokeBoardModel" "sites" "I", .fieldLink RX7 32 "StrokeBoardModel" "linkMany" "[I", .fieldLink RX7 29 "StrokeBoardModel" "links" "[I", .methodLink RX7 62 yX7_place, .static yX7_place, .initialized RX7, .code yX7_place cX7_place 2 (some .int), .methodLink RX7 65 yX7_doesKnow, .instanceMethod yX7_doesKnow, .selects RX7 yX7_doesKnow yX7_doesKnow, .code yX7_doesKnow cX7_doesKnow 3 (some .boolean), .fieldLink RX7 23 "StrokeBoardModel" "known" "[I"] ++ wsX70)
def wsX7_endangered_r1 : List Cond := [Cond.constant RX7 89 (-1000000001), Cond.fieldLink RX7 17 "StrokeBoardModel" "made" "[I", Cond.methodLink RX7 54 yX7_isSite, Cond.instanceMethod yX7_isSite, Cond.selects RX7 yX7_isSite yX7_isSite, Cond.initialized RX7, Cond.code yX7_isSite cX7_isSite 2 (some .boolean), Cond.fieldLink RX7 7 "StrokeBoardModel" "sites" "I", Cond.methodLink RX7 50 yX7_in, Cond.static yX7_in, Cond.code yX7_in cX7_in 3 (some .boolean), Cond.methodLink RX7 132 yX7_isSafe, Cond.instanceMethod yX7_isSafe, Cond.selects RX7 yX7_isSafe yX7_isSafe, Cond.code yX7_isSafe cX7_isSafe 6 (some .boolean), Cond.fieldLink RX7 32 "StrokeBoardModel" "linkMany" "[I", Cond.fieldLink RX7 29 "StrokeBoardModel" "links" "[I", Cond.methodLink RX7 62 yX7_place, Cond.static yX7_place, Cond.code yX7_place cX7_place 2 (some .int), Cond.methodLink RX7 65 yX7_doesKnow, Cond.instanceMethod yX7_doesKnow, Cond.selects RX7 yX7_doesKnow yX7_doesKnow, Cond.code yX7_doesKnow cX7_doesKnow 3 (some .boolean)]
def wsX7_endangered_r2 : List Cond := [Cond.fieldLink RX7 23 "StrokeBoardModel" "known" "[I"]
def wsX7_endangered : List Cond := .code yX7_endangered cX7_endangered 4 (some .int) :: ((wsX7_endangered_r1 ++ wsX7_endangered_r2) ++ wsX70)
def wsJ9_max_7cf53 : List Cond := .code yJ9_max_7cf53 cJ9_max_7cf53 2 (some .int) :: ([])
def wsL_law_r1 : List Cond := [Cond.classLink RL 7 RX6, Cond.instantiable RX6 9, Cond.initialized RX6, Cond.classLink RL 10 RX7, Cond.instantiable RX7 14, Cond.initialized RX7, Cond.methodLink RL 9 yX6_init, Cond.instanceMethod yX6_init, Cond.code yX6_init cX6_init 1 none, Cond.methodLink RX6 3 objectInit, Cond.instanceMethod objectInit, Cond.code objectInit ⟨#[0xb1]⟩ 1 none, Cond.classLink RX6 9 RX4, Cond.instantiable RX4 8, Cond.initialized RX4, Cond.fieldLink RX6 12 "StrokeBoard" "log" "LStrokeBoard$Log;", Cond.classLink RX6 16 RX1, Cond.instantiable RX1 5, Cond.initialized RX1, Cond.fieldLink RX6 21 "StrokeBoard" "pens" "LStrokeBoard$Ink;", Cond.classLink RX6 25 RX2, Cond.instantiable RX2 1, Cond.initialized RX2, Cond.fieldLink RX6 28 "StrokeBoard" "knowledge" "LStrokeBoard$Knowledge;"]
def wsL_law_r2 : List Cond := [Cond.fieldLink RX6 32 "StrokeBoard" "future" "LStrokeBoard$Knowledge;", Cond.classLink RX6 35 RX3, Cond.instantiable RX3 2, Cond.initialized RX3, Cond.fieldLink RX6 38 "StrokeBoard" "links" "LStrokeBoard$Links;", Cond.classLink RX6 42 RX0, Cond.instantiable RX0 4, Cond.initialized RX0, Cond.fieldLink RX6 45 "StrokeBoard" "board" "LStrokeBoard$Board;", Cond.fieldLink RX6 49 "StrokeBoard" "secondBoard" "LStrokeBoard$Board;", Cond.classLink RX6 52 RX5, Cond.instantiable RX5 1, Cond.initialized RX5, Cond.fieldLink RX6 55 "StrokeBoard" "clocks" "LStrokeBoard$Row;", Cond.fieldLink RX6 59 "StrokeBoard" "siteCount" "I", Cond.instanceMethod yX4_init, Cond.code yX4_init cX4_init 1 none, Cond.methodLink RX4 3 objectInit, Cond.classLink RX4 9 RX5, Cond.fieldLink RX4 14 "StrokeBoard$Log" "made" "LStrokeBoard$Row;", Cond.fieldLink RX4 20 "StrokeBoard$Log" "kinds" "LStrokeBoard$Row;", Cond.fieldLink RX4 23 "StrokeBoard$Log" "times" "LStrokeBoard$Row;", Cond.fieldLink RX4 26 "StrokeBoard$Log" "targets" "LStrokeBoard$Row;", Cond.fieldLink RX4 29 "StrokeBoard$Log" "layers" "LStrokeBoard$Row;"]
def wsL_law_r3 : List Cond := [Cond.fieldLink RX4 32 "StrokeBoard$Log" "order" "LStrokeBoard$Row;", Cond.classLink RX4 35 RX1, Cond.fieldLink RX4 38 "StrokeBoard$Log" "ink" "LStrokeBoard$Ink;", Cond.methodLink RX4 11 yX5_init, Cond.instanceMethod yX5_init, Cond.code yX5_init cX5_init 2 none, Cond.methodLink RX5 1 objectInit, Cond.methodLink RX5 7 Lib.Math.max.name, Cond.static Lib.Math.max.name, Cond.initialized "java/lang/Math", Cond.code Lib.Math.max.name Lib.Math.max.code 2 (some .int), Cond.arrayClass .int, Cond.fieldLink RX5 13 "StrokeBoard$Row" "cells" "[I", Cond.methodLink RX4 37 yX1_init, Cond.instanceMethod yX1_init, Cond.code yX1_init cX1_init 2 none, Cond.methodLink RX1 3 objectInit, Cond.classLink RX1 9 RX5, Cond.fieldLink RX1 14 "StrokeBoard$Ink" "counts" "LStrokeBoard$Row;", Cond.fieldLink RX1 20 "StrokeBoard$Ink" "colors" "LStrokeBoard$Row;", Cond.fieldLink RX1 23 "StrokeBoard$Ink" "layers" "LStrokeBoard$Row;", Cond.fieldLink RX1 26 "StrokeBoard$Ink" "xs" "LStrokeBoard$Row;", Cond.fieldLink RX1 29 "StrokeBoard$Ink" "ys" "LStrokeBoard$Row;", Cond.methodLink RX1 11 yX5_init]
def wsL_law_r4 : List Cond := [Cond.methodLink RX6 18 yX1_init, Cond.instanceMethod yX2_init, Cond.code yX2_init cX2_init 1 none, Cond.methodLink RX2 3 objectInit, Cond.classLink RX2 9 RX5, Cond.fieldLink RX2 14 "StrokeBoard$Knowledge" "known" "LStrokeBoard$Row;", Cond.methodLink RX2 11 yX5_init, Cond.instanceMethod yX3_init, Cond.code yX3_init cX3_init 1 none, Cond.methodLink RX3 3 objectInit, Cond.classLink RX3 9 RX5, Cond.fieldLink RX3 14 "StrokeBoard$Links" "counts" "LStrokeBoard$Row;", Cond.fieldLink RX3 20 "StrokeBoard$Links" "messages" "LStrokeBoard$Row;", Cond.methodLink RX3 11 yX5_init, Cond.instanceMethod yX0_init, Cond.code yX0_init cX0_init 1 none, Cond.methodLink RX0 3 objectInit, Cond.classLink RX0 9 RX5, Cond.fieldLink RX0 14 "StrokeBoard$Board" "undone" "LStrokeBoard$Row;", Cond.fieldLink RX0 20 "StrokeBoard$Board" "layers" "LStrokeBoard$Row;", Cond.fieldLink RX0 23 "StrokeBoard$Board" "strokes" "LStrokeBoard$Row;", Cond.methodLink RX0 11 yX5_init, Cond.methodLink RX6 54 yX5_init, Cond.methodLink RL 12 yX7_init]
def wsL_law_r5 : List Cond := [Cond.instanceMethod yX7_init, Cond.code yX7_init cX7_init 1 none, Cond.methodLink RX7 1 objectInit, Cond.fieldLink RX7 7 "StrokeBoardModel" "sites" "I", Cond.fieldLink RX7 13 "StrokeBoardModel" "ops" "[I", Cond.fieldLink RX7 17 "StrokeBoardModel" "made" "[I", Cond.fieldLink RX7 20 "StrokeBoardModel" "clock" "[I", Cond.fieldLink RX7 23 "StrokeBoardModel" "known" "[I", Cond.fieldLink RX7 26 "StrokeBoardModel" "pens" "[I", Cond.fieldLink RX7 29 "StrokeBoardModel" "links" "[I", Cond.fieldLink RX7 32 "StrokeBoardModel" "linkMany" "[I", Cond.fieldLink RX7 35 "StrokeBoardModel" "board" "[I", Cond.fieldLink RX7 38 "StrokeBoardModel" "layers" "[I", Cond.fieldLink RX7 41 "StrokeBoardModel" "otherBoard" "[I", Cond.fieldLink RX7 44 "StrokeBoardModel" "otherLayers" "[I", Cond.fieldLink RX7 47 "StrokeBoardModel" "aside" "[I", Cond.methodLink RL 13 yX6_reset, Cond.instanceMethod yX6_reset, Cond.selects RX6 yX6_reset yX6_reset, Cond.code yX6_reset cX6_reset 3 (some .int), Cond.constant RX6 67 (-1000000001), Cond.methodLink RX6 63 yX6_isWithin, Cond.static yX6_isWithin, Cond.code yX6_isWithin cX6_isWithin 3 (some .boolean)]
def wsL_law_r6 : List Cond := [Cond.methodLink RX6 68 yX4_clear, Cond.instanceMethod yX4_clear, Cond.selects RX4 yX4_clear yX4_clear, Cond.code yX4_clear cX4_clear 1 none, Cond.fieldLink RX4 45 "StrokeBoard$Log" "total" "I", Cond.methodLink RX4 42 yX5_fill, Cond.instanceMethod yX5_fill, Cond.selects RX5 yX5_fill yX5_fill, Cond.code yX5_fill cX5_fill 3 none, Cond.methodLink RX6 71 yX1_clear, Cond.instanceMethod yX1_clear, Cond.selects RX1 yX1_clear yX1_clear, Cond.code yX1_clear cX1_clear 1 none, Cond.methodLink RX1 32 yX5_fill, Cond.methodLink RX6 72 yX2_clear, Cond.instanceMethod yX2_clear, Cond.selects RX2 yX2_clear yX2_clear, Cond.code yX2_clear cX2_clear 1 none, Cond.methodLink RX2 20 yX5_fill, Cond.methodLink RX6 73 yX3_clear, Cond.instanceMethod yX3_clear, Cond.selects RX3 yX3_clear yX3_clear, Cond.code yX3_clear cX3_clear 1 none, Cond.methodLink RX3 23 yX5_fill]
def wsL_law_r7 : List Cond := [Cond.methodLink RX6 74 yX5_fill, Cond.methodLink RL 17 yX7_reset, Cond.instanceMethod yX7_reset, Cond.selects RX7 yX7_reset yX7_reset, Cond.code yX7_reset cX7_reset 4 (some .int), Cond.constant RX7 89 (-1000000001), Cond.methodLink RX7 50 yX7_in, Cond.static yX7_in, Cond.code yX7_in cX7_in 3 (some .boolean), Cond.methodLink RX7 90 yX7_clearSite, Cond.instanceMethod yX7_clearSite, Cond.selects RX7 yX7_clearSite yX7_clearSite, Cond.code yX7_clearSite cX7_clearSite 3 none, Cond.methodLink RL 18 yX6_join, Cond.instanceMethod yX6_join, Cond.selects RX6 yX6_join yX6_join, Cond.code yX6_join cX6_join 1 (some .int), Cond.constant RX6 77 (-1000000003), Cond.methodLink RL 22 yX7_join, Cond.instanceMethod yX7_join, Cond.selects RX7 yX7_join yX7_join, Cond.code yX7_join cX7_join 1 (some .int), Cond.constant RX7 94 (-1000000003), Cond.methodLink RL 23 yX6_sites]
def wsL_law_r8 : List Cond := [Cond.instanceMethod yX6_sites, Cond.selects RX6 yX6_sites yX6_sites, Cond.code yX6_sites cX6_sites 1 (some .int), Cond.methodLink RL 26 yX7_sites, Cond.instanceMethod yX7_sites, Cond.selects RX7 yX7_sites yX7_sites, Cond.code yX7_sites cX7_sites 1 (some .int), Cond.methodLink RL 27 yX6_siteInfo, Cond.instanceMethod yX6_siteInfo, Cond.selects RX6 yX6_siteInfo yX6_siteInfo, Cond.code yX6_siteInfo cX6_siteInfo 3 (some .int), Cond.methodLink RX6 78 yX6_isSite, Cond.instanceMethod yX6_isSite, Cond.selects RX6 yX6_isSite yX6_isSite, Cond.code yX6_isSite cX6_isSite 2 (some .boolean), Cond.methodLink RX6 82 yX5_get, Cond.instanceMethod yX5_get, Cond.selects RX5 yX5_get yX5_get, Cond.code yX5_get cX5_get 2 (some .int), Cond.methodLink RX6 86 yX2_countOf, Cond.instanceMethod yX2_countOf, Cond.selects RX2 yX2_countOf yX2_countOf, Cond.code yX2_countOf cX2_countOf 4 (some .int), Cond.methodLink RX2 35 yX2_has]
def wsL_law_r9 : List Cond := [Cond.instanceMethod yX2_has, Cond.selects RX2 yX2_has yX2_has, Cond.code yX2_has cX2_has 3 (some .boolean), Cond.methodLink RX2 31 yX5_get, Cond.methodLink RX6 89 yX4_madeBy, Cond.instanceMethod yX4_madeBy, Cond.selects RX4 yX4_madeBy yX4_madeBy, Cond.code yX4_madeBy cX4_madeBy 2 (some .int), Cond.methodLink RX4 65 yX5_get, Cond.methodLink RX6 92 yX0_show, Cond.instanceMethod yX0_show, Cond.selects RX0 yX0_show yX0_show, Cond.code yX0_show cX0_show 7 none, Cond.fieldLink RX0 40 "StrokeBoard$Board" "count" "I", Cond.methodLink RX0 26 yX4_totalCount, Cond.instanceMethod yX4_totalCount, Cond.selects RX4 yX4_totalCount yX4_totalCount, Cond.code yX4_totalCount cX4_totalCount 1 (some .int), Cond.methodLink RX0 32 yX5_fill, Cond.methodLink RX0 36 yX5_copyFrom, Cond.instanceMethod yX5_copyFrom, Cond.selects RX5 yX5_copyFrom yX5_copyFrom, Cond.code yX5_copyFrom cX5_copyFrom 3 none, Cond.methodLink RX5 19 yX5_get]
def wsL_law_r10 : List Cond := [Cond.methodLink RX0 44 yX4_inOrder, Cond.instanceMethod yX4_inOrder, Cond.selects RX4 yX4_inOrder yX4_inOrder, Cond.code yX4_inOrder cX4_inOrder 2 (some .int), Cond.methodLink RX0 48 yX2_has, Cond.methodLink RX0 54 yX0_apply, Cond.instanceMethod yX0_apply, Cond.selects RX0 yX0_apply yX0_apply, Cond.code yX0_apply cX0_apply 4 none, Cond.methodLink RX0 62 yX4_targetOf, Cond.instanceMethod yX4_targetOf, Cond.selects RX4 yX4_targetOf yX4_targetOf, Cond.code yX4_targetOf cX4_targetOf 2 (some .int), Cond.methodLink RX0 65 yX4_kindOf, Cond.instanceMethod yX4_kindOf, Cond.selects RX4 yX4_kindOf yX4_kindOf, Cond.code yX4_kindOf cX4_kindOf 2 (some .int), Cond.methodLink RX0 68 yX5_set, Cond.instanceMethod yX5_set, Cond.selects RX5 yX5_set yX5_set, Cond.code yX5_set cX5_set 3 none, Cond.methodLink RX0 72 yX4_layerOf, Cond.instanceMethod yX4_layerOf, Cond.selects RX4 yX4_layerOf yX4_layerOf]
def wsL_law_r11 : List Cond := [Cond.code yX4_layerOf cX4_layerOf 2 (some .int), Cond.methodLink RX0 58 yX0_collect, Cond.instanceMethod yX0_collect, Cond.selects RX0 yX0_collect yX0_collect, Cond.code yX0_collect cX0_collect 8 none, Cond.methodLink RX0 75 yX4_isStroke, Cond.instanceMethod yX4_isStroke, Cond.selects RX4 yX4_isStroke yX4_isStroke, Cond.code yX4_isStroke cX4_isStroke 2 (some .boolean), Cond.methodLink RX0 79 yX5_get, Cond.methodLink RX0 82 yX0_isUndone, Cond.instanceMethod yX0_isUndone, Cond.selects RX0 yX0_isUndone yX0_isUndone, Cond.code yX0_isUndone cX0_isUndone 2 (some .boolean), Cond.methodLink RX6 96 yX0_strokeCount, Cond.instanceMethod yX0_strokeCount, Cond.selects RX0 yX0_strokeCount yX0_strokeCount, Cond.code yX0_strokeCount cX0_strokeCount 1 (some .int), Cond.methodLink RX6 100 yX1_pointCount, Cond.instanceMethod yX1_pointCount, Cond.selects RX1 yX1_pointCount yX1_pointCount, Cond.code yX1_pointCount cX1_pointCount 2 (some .int), Cond.methodLink RX1 42 yX5_get, Cond.methodLink RL 31 yX7_siteInfo]
def wsL_law_r12 : List Cond := [Cond.instanceMethod yX7_siteInfo, Cond.selects RX7 yX7_siteInfo yX7_siteInfo, Cond.code yX7_siteInfo cX7_siteInfo 3 (some .int), Cond.fieldLink RX7 80 "StrokeBoardModel" "boardMany" "I", Cond.methodLink RX7 54 yX7_isSite, Cond.instanceMethod yX7_isSite, Cond.selects RX7 yX7_isSite yX7_isSite, Cond.code yX7_isSite cX7_isSite 2 (some .boolean), Cond.methodLink RX7 95 yX7_knownMany, Cond.instanceMethod yX7_knownMany, Cond.selects RX7 yX7_knownMany yX7_knownMany, Cond.code yX7_knownMany cX7_knownMany 4 (some .int), Cond.methodLink RX7 98 yX7_workOut, Cond.instanceMethod yX7_workOut, Cond.selects RX7 yX7_workOut yX7_workOut, Cond.code yX7_workOut cX7_workOut 5 none, Cond.methodLink RX7 83 yX7_isVisible, Cond.instanceMethod yX7_isVisible, Cond.selects RX7 yX7_isVisible yX7_isVisible, Cond.code yX7_isVisible cX7_isVisible 4 (some .boolean), Cond.methodLink RX7 65 yX7_doesKnow, Cond.instanceMethod yX7_doesKnow, Cond.selects RX7 yX7_doesKnow yX7_doesKnow, Cond.code yX7_doesKnow cX7_doesKnow 3 (some .boolean)]
def wsL_law_r13 : List Cond := [Cond.methodLink RX7 58 yX7_of, Cond.instanceMethod yX7_of, Cond.selects RX7 yX7_of yX7_of, Cond.code yX7_of cX7_of 3 (some .int), Cond.methodLink RX7 76 yX7_last, Cond.instanceMethod yX7_last, Cond.selects RX7 yX7_last yX7_last, Cond.code yX7_last cX7_last 8 (some .int), Cond.methodLink RX7 69 yX7_aim, Cond.instanceMethod yX7_aim, Cond.selects RX7 yX7_aim yX7_aim, Cond.code yX7_aim cX7_aim 2 (some .int), Cond.methodLink RX7 62 yX7_place, Cond.static yX7_place, Cond.code yX7_place cX7_place 2 (some .int), Cond.methodLink RX7 73 yX7_isAfter, Cond.instanceMethod yX7_isAfter, Cond.selects RX7 yX7_isAfter yX7_isAfter, Cond.code yX7_isAfter cX7_isAfter 3 (some .boolean), Cond.methodLink RX7 86 yX7_layerFor, Cond.instanceMethod yX7_layerFor, Cond.selects RX7 yX7_layerFor yX7_layerFor, Cond.code yX7_layerFor cX7_layerFor 4 (some .int), Cond.methodLink RL 32 yX6_penDown]
def wsL_law_r14 : List Cond := [Cond.instanceMethod yX6_penDown, Cond.selects RX6 yX6_penDown yX6_penDown, Cond.code yX6_penDown cX6_penDown 6 (some .int), Cond.methodLink RX6 103 yX1_start, Cond.instanceMethod yX1_start, Cond.selects RX1 yX1_start yX1_start, Cond.code yX1_start cX1_start 4 none, Cond.methodLink RX1 39 yX1_empty, Cond.instanceMethod yX1_empty, Cond.selects RX1 yX1_empty yX1_empty, Cond.code yX1_empty cX1_empty 2 none, Cond.methodLink RX1 35 yX5_set, Cond.methodLink RX6 107 yX1_addPoint, Cond.instanceMethod yX1_addPoint, Cond.selects RX1 yX1_addPoint yX1_addPoint, Cond.code yX1_addPoint cX1_addPoint 5 none, Cond.methodLink RL 36 yX7_penDown, Cond.instanceMethod yX7_penDown, Cond.selects RX7 yX7_penDown yX7_penDown, Cond.code yX7_penDown cX7_penDown 7 (some .int), Cond.methodLink RL 37 yX6_penMove, Cond.instanceMethod yX6_penMove, Cond.selects RX6 yX6_penMove yX6_penMove, Cond.code yX6_penMove cX6_penMove 5 (some .int)]
def wsL_law_r15 : List Cond := [Cond.constant RX6 110 (-1000000002), Cond.methodLink RX6 111 yX1_xOf, Cond.instanceMethod yX1_xOf, Cond.selects RX1 yX1_xOf yX1_xOf, Cond.code yX1_xOf cX1_xOf 3 (some .int), Cond.methodLink RX6 115 yX1_yOf, Cond.instanceMethod yX1_yOf, Cond.selects RX1 yX1_yOf yX1_yOf, Cond.code yX1_yOf cX1_yOf 3 (some .int), Cond.methodLink RL 41 yX7_penMove, Cond.instanceMethod yX7_penMove, Cond.selects RX7 yX7_penMove yX7_penMove, Cond.code yX7_penMove cX7_penMove 6 (some .int), Cond.constant RX7 101 (-1000000002), Cond.methodLink RL 42 yX6_penUp, Cond.instanceMethod yX6_penUp, Cond.selects RX6 yX6_penUp yX6_penUp, Cond.code yX6_penUp cX6_penUp 3 (some .int), Cond.methodLink RX6 118 yX6_hasMadeAll, Cond.instanceMethod yX6_hasMadeAll, Cond.selects RX6 yX6_hasMadeAll yX6_hasMadeAll, Cond.code yX6_hasMadeAll cX6_hasMadeAll 2 (some .boolean), Cond.methodLink RX6 121 yX6_tick, Cond.instanceMethod yX6_tick]
def wsL_law_r16 : List Cond := [Cond.selects RX6 yX6_tick yX6_tick, Cond.code yX6_tick cX6_tick 2 (some .int), Cond.methodLink RX6 195 yX5_set, Cond.methodLink RX6 124 yX4_addStroke, Cond.instanceMethod yX4_addStroke, Cond.selects RX4 yX4_addStroke yX4_addStroke, Cond.code yX4_addStroke cX4_addStroke 5 (some .int), Cond.methodLink RX4 49 yX4_addOperation, Cond.instanceMethod yX4_addOperation, Cond.selects RX4 yX4_addOperation yX4_addOperation, Cond.code yX4_addOperation cX4_addOperation 6 (some .int), Cond.static yX6_idOf, Cond.code yX6_idOf cX6_idOf 2 (some .int), Cond.methodLink RX4 61 yX5_set, Cond.methodLink RX4 72 yX4_insert, Cond.instanceMethod yX4_insert, Cond.selects RX4 yX4_insert yX4_insert, Cond.code yX4_insert cX4_insert 3 none, Cond.methodLink RX4 75 yX4_comesAfter, Cond.instanceMethod yX4_comesAfter, Cond.selects RX4 yX4_comesAfter yX4_comesAfter, Cond.code yX4_comesAfter cX4_comesAfter 4 (some .boolean), Cond.methodLink RX4 79 yJ6_compare_7cf53, Cond.static yJ6_compare_7cf53]
def wsL_law_r17 : List Cond := [Cond.initialized RJ6, Cond.code yJ6_compare_7cf53 cJ6_compare_7cf53 2 (some .int), Cond.static yX6_authorOf, Cond.code yX6_authorOf cX6_authorOf 1 (some .int), Cond.methodLink RX4 53 yX1_copyFrom, Cond.instanceMethod yX1_copyFrom, Cond.selects RX1 yX1_copyFrom yX1_copyFrom, Cond.code yX1_copyFrom cX1_copyFrom 6 none, Cond.methodLink RX1 46 yX1_pointCount, Cond.methodLink RX1 49 yX1_colorOf, Cond.instanceMethod yX1_colorOf, Cond.selects RX1 yX1_colorOf yX1_colorOf, Cond.code yX1_colorOf cX1_colorOf 2 (some .int), Cond.methodLink RX1 52 yX1_layerOf, Cond.instanceMethod yX1_layerOf, Cond.selects RX1 yX1_layerOf yX1_layerOf, Cond.code yX1_layerOf cX1_layerOf 2 (some .int), Cond.methodLink RX1 55 yX1_start, Cond.methodLink RX1 59 yX1_xOf, Cond.methodLink RX1 63 yX1_yOf, Cond.methodLink RX1 66 yX1_addPoint, Cond.methodLink RX4 57 yX1_layerOf, Cond.methodLink RX6 128 yX1_empty, Cond.methodLink RX6 131 yX6_publish]
def wsL_law_r18 : List Cond := [Cond.instanceMethod yX6_publish, Cond.selects RX6 yX6_publish yX6_publish, Cond.code yX6_publish cX6_publish 4 none, Cond.methodLink RX6 245 yX2_learn, Cond.instanceMethod yX2_learn, Cond.selects RX2 yX2_learn yX2_learn, Cond.code yX2_learn cX2_learn 3 none, Cond.methodLink RX2 27 yX5_set, Cond.methodLink RX6 248 yX3_send, Cond.instanceMethod yX3_send, Cond.selects RX3 yX3_send yX3_send, Cond.code yX3_send cX3_send 6 none, Cond.methodLink RX3 26 yX5_get, Cond.methodLink RX3 30 yX5_set, Cond.methodLink RX6 135 yX6_numberOf, Cond.static yX6_numberOf, Cond.code yX6_numberOf cX6_numberOf 1 (some .int), Cond.methodLink RL 45 yX7_penUp, Cond.instanceMethod yX7_penUp, Cond.selects RX7 yX7_penUp yX7_penUp, Cond.code yX7_penUp cX7_penUp 5 (some .int), Cond.methodLink RX7 102 yX7_make, Cond.instanceMethod yX7_make, Cond.selects RX7 yX7_make yX7_make]
def wsL_law_r19 : List Cond := [Cond.code yX7_make cX7_make 10 (some .int), Cond.methodLink RL 46 yX6_undo, Cond.instanceMethod yX6_undo, Cond.selects RX6 yX6_undo yX6_undo, Cond.code yX6_undo cX6_undo 2 (some .int), Cond.methodLink RX6 138 yX6_lastVisibleOwn, Cond.instanceMethod yX6_lastVisibleOwn, Cond.selects RX6 yX6_lastVisibleOwn yX6_lastVisibleOwn, Cond.code yX6_lastVisibleOwn cX6_lastVisibleOwn 4 (some .int), Cond.methodLink RX6 178 yX6_idOf, Cond.methodLink RX6 204 yX4_isStroke, Cond.methodLink RX6 251 yX0_isUndone, Cond.methodLink RX6 141 yX6_changeOwn, Cond.instanceMethod yX6_changeOwn, Cond.selects RX6 yX6_changeOwn yX6_changeOwn, Cond.code yX6_changeOwn cX6_changeOwn 4 (some .int), Cond.methodLink RX6 151 yX4_addChange, Cond.instanceMethod yX4_addChange, Cond.selects RX4 yX4_addChange yX4_addChange, Cond.code yX4_addChange cX4_addChange 7 (some .int), Cond.methodLink RL 49 yX7_undo, Cond.instanceMethod yX7_undo, Cond.selects RX7 yX7_undo yX7_undo, Cond.code yX7_undo cX7_undo 4 (some .int)]
def wsL_law_r20 : List Cond := [Cond.methodLink RL 50 yX6_redo, Cond.instanceMethod yX6_redo, Cond.selects RX6 yX6_redo yX6_redo, Cond.code yX6_redo cX6_redo 2 (some .int), Cond.methodLink RX6 145 yX6_lastUndoneOwn, Cond.instanceMethod yX6_lastUndoneOwn, Cond.selects RX6 yX6_lastUndoneOwn yX6_lastUndoneOwn, Cond.code yX6_lastUndoneOwn cX6_lastUndoneOwn 4 (some .int), Cond.methodLink RX6 198 yX4_kindOf, Cond.methodLink RX6 210 yX4_targetOf, Cond.methodLink RL 53 yX7_redo, Cond.instanceMethod yX7_redo, Cond.selects RX7 yX7_redo yX7_redo, Cond.code yX7_redo cX7_redo 6 (some .int), Cond.methodLink RL 54 yX6_lift, Cond.instanceMethod yX6_lift, Cond.selects RX6 yX6_lift yX6_lift, Cond.code yX6_lift cX6_lift 5 (some .int), Cond.methodLink RX6 148 yX0_strokeIn, Cond.instanceMethod yX0_strokeIn, Cond.selects RX0 yX0_strokeIn yX0_strokeIn, Cond.code yX0_strokeIn cX0_strokeIn 2 (some .int), Cond.methodLink RL 57 yX7_lift, Cond.instanceMethod yX7_lift]
def wsL_law_r21 : List Cond := [Cond.selects RX7 yX7_lift yX7_lift, Cond.code yX7_lift cX7_lift 4 (some .int), Cond.methodLink RL 58 yX6_deliver, Cond.instanceMethod yX6_deliver, Cond.selects RX6 yX6_deliver yX6_deliver, Cond.code yX6_deliver cX6_deliver 4 (some .int), Cond.constant RX6 162 (-1000000004), Cond.methodLink RX6 155 yX6_areTwoSites, Cond.instanceMethod yX6_areTwoSites, Cond.selects RX6 yX6_areTwoSites yX6_areTwoSites, Cond.code yX6_areTwoSites cX6_areTwoSites 3 (some .boolean), Cond.methodLink RX6 159 yX3_countIn, Cond.instanceMethod yX3_countIn, Cond.selects RX3 yX3_countIn yX3_countIn, Cond.code yX3_countIn cX3_countIn 3 (some .int), Cond.methodLink RX6 163 yX3_messageIn, Cond.instanceMethod yX3_messageIn, Cond.selects RX3 yX3_messageIn yX3_messageIn, Cond.code yX3_messageIn cX3_messageIn 4 (some .int), Cond.methodLink RX6 166 yX3_dropFirst, Cond.instanceMethod yX3_dropFirst, Cond.selects RX3 yX3_dropFirst yX3_dropFirst, Cond.code yX3_dropFirst cX3_dropFirst 7 none, Cond.methodLink RX3 34 Lib.Math.max.name]
def wsL_law_r22 : List Cond := [Cond.methodLink RX6 169 yX6_receive, Cond.instanceMethod yX6_receive, Cond.selects RX6 yX6_receive yX6_receive, Cond.code yX6_receive cX6_receive 3 none, Cond.methodLink RX6 190 Lib.Math.max.name, Cond.methodLink RX6 201 yX4_timeOf, Cond.instanceMethod yX4_timeOf, Cond.selects RX4 yX4_timeOf yX4_timeOf, Cond.code yX4_timeOf cX4_timeOf 2 (some .int), Cond.methodLink RX6 172 yX6_authorOf, Cond.methodLink RL 61 yX7_deliver, Cond.instanceMethod yX7_deliver, Cond.selects RX7 yX7_deliver yX7_deliver, Cond.code yX7_deliver cX7_deliver 5 (some .int), Cond.constant RX7 109 (-1000000004), Cond.methodLink RX7 106 yX7_isPair, Cond.instanceMethod yX7_isPair, Cond.selects RX7 yX7_isPair yX7_isPair, Cond.code yX7_isPair cX7_isPair 3 (some .boolean), Cond.methodLink RX7 110 yX7_take, Cond.instanceMethod yX7_take, Cond.selects RX7 yX7_take yX7_take, Cond.code yX7_take cX7_take 4 (some .int), Cond.methodLink RX7 113 yX7_learns]
def wsL_law_r23 : List Cond := [Cond.instanceMethod yX7_learns, Cond.selects RX7 yX7_learns yX7_learns, Cond.code yX7_learns cX7_learns 3 none, Cond.methodLink RL 62 yX6_lose, Cond.instanceMethod yX6_lose, Cond.selects RX6 yX6_lose yX6_lose, Cond.code yX6_lose cX6_lose 3 (some .int), Cond.methodLink RL 65 yX7_lose, Cond.instanceMethod yX7_lose, Cond.selects RX7 yX7_lose yX7_lose, Cond.code yX7_lose cX7_lose 5 (some .int), Cond.methodLink RL 66 yX6_deliverAll, Cond.instanceMethod yX6_deliverAll, Cond.selects RX6 yX6_deliverAll yX6_deliverAll, Cond.code yX6_deliverAll cX6_deliverAll 4 (some .int), Cond.methodLink RX6 175 yX6_deliverLink, Cond.instanceMethod yX6_deliverLink, Cond.selects RX6 yX6_deliverLink yX6_deliverLink, Cond.code yX6_deliverLink cX6_deliverLink 5 (some .int), Cond.methodLink RL 69 yX7_deliverAll, Cond.instanceMethod yX7_deliverAll, Cond.selects RX7 yX7_deliverAll yX7_deliverAll, Cond.code yX7_deliverAll cX7_deliverAll 3 (some .int), Cond.methodLink RL 70 yX6_waiting]
def wsL_law_r24 : List Cond := [Cond.instanceMethod yX6_waiting, Cond.selects RX6 yX6_waiting yX6_waiting, Cond.code yX6_waiting cX6_waiting 3 (some .int), Cond.methodLink RL 73 yX7_waiting, Cond.instanceMethod yX7_waiting, Cond.selects RX7 yX7_waiting yX7_waiting, Cond.code yX7_waiting cX7_waiting 3 (some .int), Cond.methodLink RL 74 yX6_gap, Cond.instanceMethod yX6_gap, Cond.selects RX6 yX6_gap yX6_gap, Cond.code yX6_gap cX6_gap 8 (some .int), Cond.methodLink RX6 181 yX2_has, Cond.methodLink RL 77 yX7_gap, Cond.instanceMethod yX7_gap, Cond.selects RX7 yX7_gap yX7_gap, Cond.code yX7_gap cX7_gap 9 (some .int), Cond.methodLink RX7 117 yX7_greatest, Cond.instanceMethod yX7_greatest, Cond.selects RX7 yX7_greatest yX7_greatest, Cond.code yX7_greatest cX7_greatest 5 (some .int), Cond.methodLink RL 78 yX6_repair, Cond.instanceMethod yX6_repair, Cond.selects RX6 yX6_repair yX6_repair, Cond.code yX6_repair cX6_repair 5 (some .int)]
def wsL_law_r25 : List Cond := [Cond.methodLink RX6 184 yX6_canRepair, Cond.instanceMethod yX6_canRepair, Cond.selects RX6 yX6_canRepair yX6_canRepair, Cond.code yX6_canRepair cX6_canRepair 4 (some .boolean), Cond.methodLink RX6 254 yX2_isInGap, Cond.instanceMethod yX2_isInGap, Cond.selects RX2 yX2_isInGap yX2_isInGap, Cond.code yX2_isInGap cX2_isInGap 3 (some .boolean), Cond.methodLink RX2 39 yX2_hasLaterOfAuthor, Cond.instanceMethod yX2_hasLaterOfAuthor, Cond.selects RX2 yX2_hasLaterOfAuthor yX2_hasLaterOfAuthor, Cond.code yX2_hasLaterOfAuthor cX2_hasLaterOfAuthor 5 (some .boolean), Cond.methodLink RL 81 yX7_repair, Cond.instanceMethod yX7_repair, Cond.selects RX7 yX7_repair yX7_repair, Cond.code yX7_repair cX7_repair 5 (some .int), Cond.methodLink RX7 120 yX7_isGiven, Cond.instanceMethod yX7_isGiven, Cond.selects RX7 yX7_isGiven yX7_isGiven, Cond.code yX7_isGiven cX7_isGiven 4 (some .boolean), Cond.methodLink RL 82 yX6_transfer, Cond.instanceMethod yX6_transfer, Cond.selects RX6 yX6_transfer yX6_transfer, Cond.code yX6_transfer cX6_transfer 5 (some .int)]
def wsL_law_r26 : List Cond := [Cond.methodLink RX6 187 yX4_sizeOf, Cond.instanceMethod yX4_sizeOf, Cond.selects RX4 yX4_sizeOf yX4_sizeOf, Cond.code yX4_sizeOf cX4_sizeOf 2 (some .int), Cond.methodLink RX4 87 yX1_sizeOf, Cond.instanceMethod yX1_sizeOf, Cond.selects RX1 yX1_sizeOf yX1_sizeOf, Cond.code yX1_sizeOf cX1_sizeOf 5 (some .int), Cond.methodLink RL 85 yX7_transfer, Cond.instanceMethod yX7_transfer, Cond.selects RX7 yX7_transfer yX7_transfer, Cond.code yX7_transfer cX7_transfer 5 (some .int), Cond.methodLink RX7 123 yX7_sizeOf, Cond.instanceMethod yX7_sizeOf, Cond.selects RX7 yX7_sizeOf yX7_sizeOf, Cond.code yX7_sizeOf cX7_sizeOf 6 (some .int), Cond.methodLink RL 86 yX6_operation, Cond.instanceMethod yX6_operation, Cond.selects RX6 yX6_operation yX6_operation, Cond.code yX6_operation cX6_operation 5 (some .int), Cond.methodLink RX6 213 yX4_layerOf, Cond.methodLink RL 89 yX7_operation, Cond.instanceMethod yX7_operation, Cond.selects RX7 yX7_operation yX7_operation]
def wsL_law_r27 : List Cond := [Cond.code yX7_operation cX7_operation 5 (some .int), Cond.methodLink RL 90 yX6_knows, Cond.instanceMethod yX6_knows, Cond.selects RX6 yX6_knows yX6_knows, Cond.code yX6_knows cX6_knows 4 (some .int), Cond.methodLink RL 93 yX7_knows, Cond.instanceMethod yX7_knows, Cond.selects RX7 yX7_knows yX7_knows, Cond.code yX7_knows cX7_knows 4 (some .int), Cond.methodLink RL 94 yX6_stroke, Cond.instanceMethod yX6_stroke, Cond.selects RX6 yX6_stroke yX6_stroke, Cond.code yX6_stroke cX6_stroke 6 (some .int), Cond.methodLink RX6 216 yX6_coordinate, Cond.instanceMethod yX6_coordinate, Cond.selects RX6 yX6_coordinate yX6_coordinate, Cond.code yX6_coordinate cX6_coordinate 4 (some .int), Cond.methodLink RX6 219 yX6_strokeValue, Cond.instanceMethod yX6_strokeValue, Cond.selects RX6 yX6_strokeValue yX6_strokeValue, Cond.code yX6_strokeValue cX6_strokeValue 3 (some .int), Cond.methodLink RX6 257 yX0_layerOf, Cond.instanceMethod yX0_layerOf, Cond.selects RX0 yX0_layerOf yX0_layerOf]
def wsL_law_r28 : List Cond := [Cond.code yX0_layerOf cX0_layerOf 2 (some .int), Cond.methodLink RX6 258 yX1_colorOf, Cond.methodLink RL 97 yX7_stroke, Cond.instanceMethod yX7_stroke, Cond.selects RX7 yX7_stroke yX7_stroke, Cond.code yX7_stroke cX7_stroke 5 (some .int), Cond.methodLink RL 98 yX6_strokeAt, Cond.instanceMethod yX6_strokeAt, Cond.selects RX6 yX6_strokeAt yX6_strokeAt, Cond.code yX6_strokeAt cX6_strokeAt 5 (some .int), Cond.methodLink RX6 222 yX1_hasPoint, Cond.instanceMethod yX1_hasPoint, Cond.selects RX1 yX1_hasPoint yX1_hasPoint, Cond.code yX1_hasPoint cX1_hasPoint 5 (some .boolean), Cond.methodLink RL 101 yX7_strokeAt, Cond.instanceMethod yX7_strokeAt, Cond.selects RX7 yX7_strokeAt yX7_strokeAt, Cond.code yX7_strokeAt cX7_strokeAt 7 (some .int), Cond.methodLink RL 102 yX6_digest, Cond.instanceMethod yX6_digest, Cond.selects RX6 yX6_digest yX6_digest, Cond.code yX6_digest cX6_digest 2 (some .int), Cond.methodLink RX6 225 yX0_hash, Cond.instanceMethod yX0_hash]
def wsL_law_r29 : List Cond := [Cond.selects RX0 yX0_hash yX0_hash, Cond.code yX0_hash cX0_hash 5 (some .int), Cond.methodLink RX0 99 yX1_colorOf, Cond.methodLink RX0 104 yX0_hashPoints, Cond.instanceMethod yX0_hashPoints, Cond.selects RX0 yX0_hashPoints yX0_hashPoints, Cond.code yX0_hashPoints cX0_hashPoints 6 (some .int), Cond.methodLink RX0 108 yX1_pointCount, Cond.methodLink RX0 111 yX1_xOf, Cond.methodLink RX0 115 yX1_yOf, Cond.methodLink RL 105 yX7_digest, Cond.instanceMethod yX7_digest, Cond.selects RX7 yX7_digest yX7_digest, Cond.code yX7_digest cX7_digest 6 (some .int), Cond.methodLink RL 106 yX6_areSame, Cond.instanceMethod yX6_areSame, Cond.selects RX6 yX6_areSame yX6_areSame, Cond.code yX6_areSame cX6_areSame 3 (some .int), Cond.methodLink RX6 229 yX6_showSame, Cond.instanceMethod yX6_showSame, Cond.selects RX6 yX6_showSame yX6_showSame, Cond.code yX6_showSame cX6_showSame 4 (some .boolean), Cond.methodLink RX6 261 yX0_matches, Cond.instanceMethod yX0_matches]
def wsL_law_r30 : List Cond := [Cond.selects RX0 yX0_matches yX0_matches, Cond.code yX0_matches cX0_matches 4 (some .boolean), Cond.methodLink RX0 85 yX0_strokeIn, Cond.methodLink RX0 88 yX0_layerOf, Cond.methodLink RL 109 yX7_areSame, Cond.instanceMethod yX7_areSame, Cond.selects RX7 yX7_areSame yX7_areSame, Cond.code yX7_areSame cX7_areSame 3 (some .int), Cond.methodLink RX7 126 yX7_doShowSame, Cond.instanceMethod yX7_doShowSame, Cond.selects RX7 yX7_doShowSame yX7_doShowSame, Cond.code yX7_doShowSame cX7_doShowSame 6 (some .boolean), Cond.methodLink RL 110 yX6_differing, Cond.instanceMethod yX6_differing, Cond.selects RX6 yX6_differing yX6_differing, Cond.code yX6_differing cX6_differing 4 (some .int), Cond.methodLink RX6 233 yX6_lookAhead, Cond.instanceMethod yX6_lookAhead, Cond.selects RX6 yX6_lookAhead yX6_lookAhead, Cond.code yX6_lookAhead cX6_lookAhead 4 none, Cond.methodLink RX6 265 yX2_copyFrom, Cond.instanceMethod yX2_copyFrom, Cond.selects RX2 yX2_copyFrom yX2_copyFrom, Cond.code yX2_copyFrom cX2_copyFrom 2 none]
def wsL_law_r31 : List Cond := [Cond.methodLink RX2 23 yX5_copyFrom, Cond.methodLink RL 113 yX7_differing, Cond.instanceMethod yX7_differing, Cond.selects RX7 yX7_differing yX7_differing, Cond.code yX7_differing cX7_differing 4 (some .int), Cond.methodLink RL 114 yX6_bestHelper, Cond.instanceMethod yX6_bestHelper, Cond.selects RX6 yX6_bestHelper yX6_bestHelper, Cond.code yX6_bestHelper cX6_bestHelper 6 (some .int), Cond.methodLink RX6 236 yX6_repairable, Cond.instanceMethod yX6_repairable, Cond.selects RX6 yX6_repairable yX6_repairable, Cond.code yX6_repairable cX6_repairable 5 (some .int), Cond.methodLink RL 117 yX7_bestHelper, Cond.instanceMethod yX7_bestHelper, Cond.selects RX7 yX7_bestHelper yX7_bestHelper, Cond.code yX7_bestHelper cX7_bestHelper 6 (some .int), Cond.methodLink RX7 129 yX7_givenMany, Cond.instanceMethod yX7_givenMany, Cond.selects RX7 yX7_givenMany yX7_givenMany, Cond.code yX7_givenMany cX7_givenMany 5 (some .int), Cond.methodLink RL 118 yX6_endangered, Cond.instanceMethod yX6_endangered, Cond.selects RX6 yX6_endangered yX6_endangered]
def wsL_law_r32 : List Cond := [Cond.code yX6_endangered cX6_endangered 5 (some .int), Cond.methodLink RX6 239 yX6_isKnownBeside, Cond.instanceMethod yX6_isKnownBeside, Cond.selects RX6 yX6_isKnownBeside yX6_isKnownBeside, Cond.code yX6_isKnownBeside cX6_isKnownBeside 4 (some .boolean), Cond.methodLink RX6 242 yX3_carry, Cond.instanceMethod yX3_carry, Cond.selects RX3 yX3_carry yX3_carry, Cond.code yX3_carry cX3_carry 4 (some .boolean), Cond.methodLink RL 121 yX7_endangered, Cond.instanceMethod yX7_endangered, Cond.selects RX7 yX7_endangered yX7_endangered, Cond.code yX7_endangered cX7_endangered 4 (some .int), Cond.methodLink RX7 132 yX7_isSafe, Cond.instanceMethod yX7_isSafe, Cond.selects RX7 yX7_isSafe yX7_isSafe, Cond.code yX7_isSafe cX7_isSafe 6 (some .boolean)]
def wsL_law : List Cond := (wsL_law_r1 ++ (wsL_law_r2 ++ (wsL_law_r3 ++ (wsL_law_r4 ++ (wsL_law_r5 ++ (wsL_law_r6 ++ (wsL_law_r7 ++ (wsL_law_r8 ++ (wsL_law_r9 ++ (wsL_law_r10 ++ (wsL_law_r11 ++ (wsL_law_r12 ++ (wsL_law_r13 ++ (wsL_law_r14 ++ (wsL_law_r15 ++ (wsL_law_r16 ++ (wsL_law_r17 ++ (wsL_law_r18 ++ (wsL_law_r19 ++ (wsL_law_r20 ++ (wsL_law_r21 ++ (wsL_law_r22 ++ (wsL_law_r23 ++ (wsL_law_r24 ++ (wsL_law_r25 ++ (wsL_law_r26 ++ (wsL_law_r27 ++ (wsL_law_r28 ++ (wsL_law_r29 ++ (wsL_law_r30 ++ (wsL_law_r31 ++ wsL_law_r32))))))))))))))))))))))))))))))) ++ wsX60 ++ wsX70 ++ wsX40 ++ wsX10 ++ wsX20 ++ wsX30 ++ wsX00 ++ wsX50 ++ ([] : List Cond)
abbrev vwCl : List vw_C := [(RX0, TX0, 4), (RX1, TX1, 5), (RX2, TX2, 1), (RX3, TX3, 2), (RX4, TX4, 8), (RX5, TX5, 1), (RX6, TX6, 9), (RX7, TX7, 14)]
end
section
theorem mem_r {big : List Cond} (ws : List Cond) (ps : List Nat) (hp : ws = ps.filterMap (fun i => big[i]?)) : ∀ w ∈ ws, w ∈ big := by
  intro w hw
  rw [hp] at hw
  obtain ⟨i, -, hi⟩ := List.mem_filterMap.mp hw
  exact List.mem_of_getElem? hi
theorem mem_app {big a b : List Cond} (ha : ∀ w ∈ a, w ∈ big) (hb : ∀ w ∈ b, w ∈ big) : ∀ w ∈ a ++ b, w ∈ big := fun w h => (List.mem_append.mp h).elim (ha w) (hb w)
set_option maxRecDepth 20000 in
theorem wsL_law_r1_in : ∀ w ∈ wsL_law_r1, w ∈ lw_tbl := mem_r _ [56, 57, 46, 671, 672, 54, 58, 59, 60, 61, 62, 63, 64, 65, 47, 188, 136, 85, 50, 189, 138, 139, 51, 190] (by decide +kernel)
set_option maxRecDepth 20000 in
theorem wsL_law_r2_in : ∀ w ∈ wsL_law_r2, w ∈ lw_tbl := mem_r _ [191, 150, 151, 52, 192, 165, 166, 53, 193, 194, 186, 71, 48, 195, 196, 67, 68, 69, 70, 108, 109, 110, 111, 112] (by decide +kernel)
set_option maxRecDepth 20000 in
theorem wsL_law_r3_in : ∀ w ∈ wsL_law_r3, w ∈ lw_tbl := mem_r _ [114, 84, 115, 72, 73, 74, 75, 76, 77, 49, 78, 83, 79, 86, 87, 88, 89, 90, 92, 93, 94, 95, 96, 91] (by decide +kernel)
set_option maxRecDepth 20000 in
theorem wsL_law_r4_in : ∀ w ∈ wsL_law_r4, w ∈ lw_tbl := mem_r _ [137, 141, 142, 143, 144, 146, 145, 153, 154, 155, 156, 158, 159, 157, 168, 169, 170, 171, 173, 174, 175, 172, 187, 673] (by decide +kernel)
set_option maxRecDepth 20000 in
theorem wsL_law_r5_in : ∀ w ∈ wsL_law_r5, w ∈ lw_tbl := mem_r _ [674, 675, 676, 677, 678, 679, 680, 681, 682, 683, 684, 685, 686, 688, 689, 690, 216, 217, 218, 219, 223, 220, 221, 222] (by decide +kernel)
set_option maxRecDepth 20000 in
theorem wsL_law_r6_in : ∀ w ∈ wsL_law_r6, w ∈ lw_tbl := mem_r _ [224, 225, 226, 227, 118, 228, 229, 230, 231, 232, 233, 234, 235, 236, 237, 238, 239, 240, 241, 242, 243, 244, 245, 246] (by decide +kernel)
set_option maxRecDepth 20000 in
theorem wsL_law_r7_in : ∀ w ∈ wsL_law_r7, w ∈ lw_tbl := mem_r _ [247, 720, 721, 722, 723, 727, 724, 725, 726, 728, 730, 24, 731, 248, 249, 250, 251, 252, 732, 733, 734, 735, 736, 253] (by decide +kernel)
set_option maxRecDepth 20000 in
theorem wsL_law_r8_in : ∀ w ∈ wsL_law_r8, w ∈ lw_tbl := mem_r _ [254, 255, 256, 737, 738, 739, 740, 257, 258, 259, 260, 261, 263, 0, 264, 265, 266, 267, 268, 269, 270, 271, 272, 273] (by decide +kernel)
set_option maxRecDepth 20000 in
theorem wsL_law_r9_in : ∀ w ∈ wsL_law_r9, w ∈ lw_tbl := mem_r _ [274, 275, 276, 277, 278, 279, 280, 281, 282, 283, 284, 285, 286, 176, 287, 288, 289, 290, 291, 292, 293, 294, 295, 296] (by decide +kernel)
set_option maxRecDepth 20000 in
theorem wsL_law_r10_in : ∀ w ∈ wsL_law_r10, w ∈ lw_tbl := mem_r _ [297, 298, 299, 300, 301, 302, 304, 1, 305, 306, 307, 308, 309, 310, 311, 312, 313, 314, 315, 316, 317, 318, 319, 320] (by decide +kernel)
set_option maxRecDepth 20000 in
theorem wsL_law_r11_in : ∀ w ∈ wsL_law_r11, w ∈ lw_tbl := mem_r _ [321, 322, 324, 2, 325, 326, 327, 328, 329, 330, 331, 332, 333, 334, 335, 336, 337, 338, 339, 340, 341, 342, 343, 741] (by decide +kernel)
set_option maxRecDepth 20000 in
theorem wsL_law_r12_in : ∀ w ∈ wsL_law_r12, w ∈ lw_tbl := mem_r _ [742, 743, 744, 687, 745, 747, 25, 748, 749, 751, 26, 752, 753, 755, 27, 756, 757, 759, 28, 760, 761, 763, 29, 764] (by decide +kernel)
set_option maxRecDepth 20000 in
theorem wsL_law_r13_in : ∀ w ∈ wsL_law_r13, w ∈ lw_tbl := mem_r _ [765, 767, 30, 768, 769, 771, 31, 772, 773, 775, 32, 776, 777, 778, 779, 780, 782, 33, 783, 784, 786, 34, 787, 344] (by decide +kernel)
set_option maxRecDepth 20000 in
theorem wsL_law_r14_in : ∀ w ∈ wsL_law_r14, w ∈ lw_tbl := mem_r _ [345, 346, 347, 348, 349, 350, 351, 352, 353, 354, 355, 356, 357, 358, 359, 360, 788, 789, 790, 791, 361, 362, 363, 364] (by decide +kernel)
set_option maxRecDepth 20000 in
theorem wsL_law_r15_in : ∀ w ∈ wsL_law_r15, w ∈ lw_tbl := mem_r _ [365, 366, 367, 368, 369, 370, 371, 372, 373, 792, 793, 794, 795, 796, 374, 375, 376, 377, 378, 380, 3, 381, 382, 384] (by decide +kernel)
set_option maxRecDepth 20000 in
theorem wsL_law_r16_in : ∀ w ∈ wsL_law_r16, w ∈ lw_tbl := mem_r _ [4, 385, 386, 387, 388, 389, 390, 391, 393, 5, 394, 396, 397, 398, 399, 401, 6, 402, 403, 405, 7, 406, 407, 408] (by decide +kernel)
set_option maxRecDepth 20000 in
theorem wsL_law_r17_in : ∀ w ∈ wsL_law_r17, w ∈ lw_tbl := mem_r _ [55, 409, 411, 412, 413, 414, 415, 416, 417, 418, 419, 420, 421, 422, 423, 424, 425, 426, 427, 428, 429, 430, 431, 432] (by decide +kernel)
set_option maxRecDepth 20000 in
theorem wsL_law_r18_in : ∀ w ∈ wsL_law_r18, w ∈ lw_tbl := mem_r _ [434, 8, 435, 436, 437, 438, 439, 440, 441, 442, 443, 444, 445, 446, 447, 448, 449, 797, 798, 799, 800, 801, 803, 35] (by decide +kernel)
set_option maxRecDepth 20000 in
theorem wsL_law_r19_in : ∀ w ∈ wsL_law_r19, w ∈ lw_tbl := mem_r _ [804, 450, 451, 452, 453, 454, 456, 9, 457, 458, 459, 460, 461, 463, 10, 464, 465, 466, 467, 468, 805, 806, 807, 808] (by decide +kernel)
set_option maxRecDepth 20000 in
theorem wsL_law_r20_in : ∀ w ∈ wsL_law_r20, w ∈ lw_tbl := mem_r _ [469, 470, 471, 472, 473, 475, 11, 476, 477, 478, 809, 810, 811, 812, 479, 480, 481, 482, 483, 484, 485, 486, 813, 814] (by decide +kernel)
set_option maxRecDepth 20000 in
theorem wsL_law_r21_in : ∀ w ∈ wsL_law_r21, w ∈ lw_tbl := mem_r _ [815, 816, 487, 488, 489, 490, 499, 491, 493, 12, 494, 495, 496, 497, 498, 500, 501, 502, 503, 504, 505, 506, 507, 508] (by decide +kernel)
set_option maxRecDepth 20000 in
theorem wsL_law_r22_in : ∀ w ∈ wsL_law_r22, w ∈ lw_tbl := mem_r _ [509, 511, 13, 512, 517, 513, 514, 515, 516, 518, 817, 818, 819, 820, 825, 821, 823, 36, 824, 826, 828, 37, 829, 830] (by decide +kernel)
set_option maxRecDepth 20000 in
theorem wsL_law_r23_in : ∀ w ∈ wsL_law_r23, w ∈ lw_tbl := mem_r _ [832, 38, 833, 519, 520, 521, 522, 834, 835, 836, 837, 523, 524, 525, 526, 527, 529, 14, 530, 838, 839, 840, 841, 531] (by decide +kernel)
set_option maxRecDepth 20000 in
theorem wsL_law_r24_in : ∀ w ∈ wsL_law_r24, w ∈ lw_tbl := mem_r _ [532, 533, 534, 842, 843, 844, 845, 535, 536, 537, 538, 539, 846, 847, 848, 849, 850, 852, 39, 853, 540, 541, 542, 543] (by decide +kernel)
set_option maxRecDepth 20000 in
theorem wsL_law_r25_in : ∀ w ∈ wsL_law_r25, w ∈ lw_tbl := mem_r _ [544, 546, 15, 547, 548, 549, 550, 551, 552, 554, 16, 555, 854, 855, 856, 857, 858, 860, 40, 861, 559, 560, 561, 562] (by decide +kernel)
set_option maxRecDepth 20000 in
theorem wsL_law_r26_in : ∀ w ∈ wsL_law_r26, w ∈ lw_tbl := mem_r _ [563, 564, 565, 566, 567, 568, 569, 570, 862, 863, 864, 865, 866, 868, 41, 869, 572, 573, 574, 575, 576, 870, 871, 872] (by decide +kernel)
set_option maxRecDepth 20000 in
theorem wsL_law_r27_in : ∀ w ∈ wsL_law_r27, w ∈ lw_tbl := mem_r _ [873, 577, 578, 579, 580, 874, 875, 876, 877, 581, 582, 583, 584, 585, 587, 17, 588, 589, 591, 18, 592, 593, 594, 595] (by decide +kernel)
set_option maxRecDepth 20000 in
theorem wsL_law_r28_in : ∀ w ∈ wsL_law_r28, w ∈ lw_tbl := mem_r _ [596, 597, 878, 879, 880, 881, 598, 599, 600, 601, 602, 603, 604, 605, 882, 883, 884, 885, 606, 607, 608, 609, 610, 611] (by decide +kernel)
set_option maxRecDepth 20000 in
theorem wsL_law_r29_in : ∀ w ∈ wsL_law_r29, w ∈ lw_tbl := mem_r _ [612, 613, 616, 617, 619, 19, 620, 621, 622, 623, 886, 887, 888, 889, 624, 625, 626, 627, 628, 630, 20, 631, 632, 633] (by decide +kernel)
set_option maxRecDepth 20000 in
theorem wsL_law_r30_in : ∀ w ∈ wsL_law_r30, w ∈ lw_tbl := mem_r _ [634, 635, 636, 637, 890, 891, 892, 893, 894, 896, 42, 897, 638, 639, 640, 641, 642, 644, 21, 645, 646, 647, 648, 649] (by decide +kernel)
set_option maxRecDepth 20000 in
theorem wsL_law_r31_in : ∀ w ∈ wsL_law_r31, w ∈ lw_tbl := mem_r _ [650, 898, 899, 900, 901, 651, 652, 653, 654, 655, 657, 22, 658, 902, 903, 904, 905, 906, 908, 43, 909, 659, 660, 661] (by decide +kernel)
set_option maxRecDepth 20000 in
theorem wsL_law_r32_in : ∀ w ∈ wsL_law_r32, w ∈ lw_tbl := mem_r _ [662, 663, 665, 23, 666, 667, 668, 669, 670, 910, 911, 912, 913, 914, 916, 44, 917] (by decide +kernel)
set_option maxRecDepth 20000 in
theorem jnX0 : ∀ w ∈ wsX00, w ∈ lw_tbl := mem_r _ [177, 179, 181, 183] (by decide +kernel)
set_option maxRecDepth 20000 in
theorem jnX1 : ∀ w ∈ wsX10, w ∈ lw_tbl := mem_r _ [97, 99, 101, 103, 105] (by decide +kernel)
set_option maxRecDepth 20000 in
theorem jnX2 : ∀ w ∈ wsX20, w ∈ lw_tbl := mem_r _ [147] (by decide +kernel)
set_option maxRecDepth 20000 in
theorem jnX3 : ∀ w ∈ wsX30, w ∈ lw_tbl := mem_r _ [160, 162] (by decide +kernel)
set_option maxRecDepth 20000 in
theorem jnX4 : ∀ w ∈ wsX40, w ∈ lw_tbl := mem_r _ [119, 121, 123, 125, 127, 129, 131, 133] (by decide +kernel)
set_option maxRecDepth 20000 in
theorem jnX5 : ∀ w ∈ wsX50, w ∈ lw_tbl := mem_r _ [80] (by decide +kernel)
set_option maxRecDepth 20000 in
theorem jnX6 : ∀ w ∈ wsX60, w ∈ lw_tbl := mem_r _ [197, 199, 201, 203, 205, 207, 209, 211, 213] (by decide +kernel)
set_option maxRecDepth 20000 in
theorem jnX7 : ∀ w ∈ wsX70, w ∈ lw_tbl := mem_r _ [691, 693, 695, 697, 699, 701, 703, 705, 707, 709, 711, 713, 715, 717] (by decide +kernel)
theorem wsL_law_in : ∀ w ∈ wsL_law, w ∈ lw_tbl := mem_app (mem_app (mem_app (mem_app (mem_app (mem_app (mem_app (mem_app (mem_app (mem_app wsL_law_r1_in (mem_app wsL_law_r2_in (mem_app wsL_law_r3_in (mem_app wsL_law_r4_in (mem_app wsL_law_r5_in (mem_app wsL_law_r6_in (mem_app wsL_law_r7_in (mem_app wsL_law_r8_in (mem_app wsL_law_r9_in (mem_app wsL_law_r10_in (mem_app wsL_law_r11_in (mem_app wsL_law_r12_in (mem_app wsL_law_r13_in (mem_app wsL_law_r14_in (mem_app wsL_law_r15_in (mem_app wsL_law_r16_in (mem_app wsL_law_r17_in (mem_app wsL_law_r18_in (mem_app wsL_law_r19_in (mem_app wsL_law_r20_in (mem_app wsL_law_r21_in (mem_app wsL_law_r22_in (mem_app wsL_law_r23_in (mem_app wsL_law_r24_in (mem_app wsL_law_r25_in (mem_app wsL_law_r26_in (mem_app wsL_law_r27_in (mem_app wsL_law_r28_in (mem_app wsL_law_r29_in (mem_app wsL_law_r30_in (mem_app wsL_law_r31_in wsL_law_r32_in))))))))))))))))))))))))))))))) jnX6) jnX7) jnX4) jnX1) jnX2) jnX3) jnX0) jnX5) (fun _ h => absurd h List.not_mem_nil)
theorem inlX0 : ∀ w ∈ wsX00, w ∈ wsL_law := fun _ h => List.mem_append_left _ (List.mem_append_left _ (List.mem_append_right _ h))
theorem inX0 : ∀ w ∈ wsX00, w ∈ lw_tbl := fun w h => wsL_law_in w (inlX0 w h)
theorem inlX1 : ∀ w ∈ wsX10, w ∈ wsL_law := fun _ h => List.mem_append_left _ (List.mem_append_left _ (List.mem_append_left _ (List.mem_append_left _ (List.mem_append_left _ (List.mem_append_right _ h)))))
theorem inX1 : ∀ w ∈ wsX10, w ∈ lw_tbl := fun w h => wsL_law_in w (inlX1 w h)
theorem inlX2 : ∀ w ∈ wsX20, w ∈ wsL_law := fun _ h => List.mem_append_left _ (List.mem_append_left _ (List.mem_append_left _ (List.mem_append_left _ (List.mem_append_right _ h))))
theorem inX2 : ∀ w ∈ wsX20, w ∈ lw_tbl := fun w h => wsL_law_in w (inlX2 w h)
theorem inlX3 : ∀ w ∈ wsX30, w ∈ wsL_law := fun _ h => List.mem_append_left _ (List.mem_append_left _ (List.mem_append_left _ (List.mem_append_right _ h)))
theorem inX3 : ∀ w ∈ wsX30, w ∈ lw_tbl := fun w h => wsL_law_in w (inlX3 w h)
theorem inlX4 : ∀ w ∈ wsX40, w ∈ wsL_law := fun _ h => List.mem_append_left _ (List.mem_append_left _ (List.mem_append_left _ (List.mem_append_left _ (List.mem_append_left _ (List.mem_append_left _ (List.mem_append_right _ h))))))
theorem inX4 : ∀ w ∈ wsX40, w ∈ lw_tbl := fun w h => wsL_law_in w (inlX4 w h)
theorem inlX5 : ∀ w ∈ wsX50, w ∈ wsL_law := fun _ h => List.mem_append_left _ (List.mem_append_right _ h)
theorem inX5 : ∀ w ∈ wsX50, w ∈ lw_tbl := fun w h => wsL_law_in w (inlX5 w h)
theorem inlX6 : ∀ w ∈ wsX60, w ∈ wsL_law := fun _ h => List.mem_append_left _ (List.mem_append_left _ (List.mem_append_left _ (List.mem_append_left _ (List.mem_append_left _ (List.mem_append_left _ (List.mem_append_left _ (List.mem_append_left _ (List.mem_append_right _ h))))))))
theorem inX6 : ∀ w ∈ wsX60, w ∈ lw_tbl := fun w h => wsL_law_in w (inlX6 w h)
theorem inlX7 : ∀ w ∈ wsX70, w ∈ wsL_law := fun _ h => List.mem_append_left _ (List.mem_append_left _ (List.mem_append_left _ (List.mem_append_left _ (List.mem_append_left _ (List.mem_append_left _ (List.mem_append_left _ (List.mem_append_right _ h)))))))
theorem inX7 : ∀ w ∈ wsX70, w ∈ lw_tbl := fun w h => wsL_law_in w (inlX7 w h)
theorem inJ6 : ∀ w ∈ wsJ60, w ∈ lw_tbl := by decide +kernel
theorem inJ9 : ∀ w ∈ wsJ90, w ∈ lw_tbl := by decide +kernel
set_option maxRecDepth 20000 in
theorem ggX0_init_X5_init : GoodIn wsX0_init wsX5_init := goodIn_r _ [12, 13, 2, 3, 14, 15, 16, 17, 18, 19, 20] (by decide +kernel) (by decide +kernel)
set_option maxRecDepth 20000 in
theorem gX0_init_X5_init : GoodIn wsX0_init (wsX5_init) := ggX0_init_X5_init
end
section
theorem dX0_init_0 : decode cX0_init 0 = .ok (.aload_n 0, 1) := by decide +kernel
theorem dX0_init_1 : decode cX0_init 1 = .ok (.invokespecial 3, 3) := by decide +kernel
theorem dX0_init_4 : decode cX0_init 4 = .ok (.aload_n 0, 1) := by decide +kernel
theorem dX0_init_5 : decode cX0_init 5 = .ok (.new 9, 3) := by decide +kernel
theorem dX0_init_8 : decode cX0_init 8 = .ok (.dup, 1) := by decide +kernel
theorem dX0_init_9 : decode cX0_init 9 = .ok (.bipush 100, 2) := by decide +kernel
theorem dX0_init_11 : decode cX0_init 11 = .ok (.invokespecial 11, 3) := by decide +kernel
theorem dX0_init_14 : decode cX0_init 14 = .ok (.putfield 14, 3) := by decide +kernel
theorem dX0_init_17 : decode cX0_init 17 = .ok (.aload_n 0, 1) := by decide +kernel
theorem dX0_init_18 : decode cX0_init 18 = .ok (.new 9, 3) := by decide +kernel
theorem dX0_init_21 : decode cX0_init 21 = .ok (.dup, 1) := by decide +kernel
theorem dX0_init_22 : decode cX0_init 22 = .ok (.bipush 100, 2) := by decide +kernel
theorem dX0_init_24 : decode cX0_init 24 = .ok (.invokespecial 11, 3) := by decide +kernel
theorem dX0_init_27 : decode cX0_init 27 = .ok (.putfield 20, 3) := by decide +kernel
theorem dX0_init_30 : decode cX0_init 30 = .ok (.aload_n 0, 1) := by decide +kernel
theorem dX0_init_31 : decode cX0_init 31 = .ok (.new 9, 3) := by decide +kernel
theorem dX0_init_34 : decode cX0_init 34 = .ok (.dup, 1) := by decide +kernel
theorem dX0_init_35 : decode cX0_init 35 = .ok (.bipush 100, 2) := by decide +kernel
theorem dX0_init_37 : decode cX0_init 37 = .ok (.invokespecial 11, 3) := by decide +kernel
theorem dX0_init_40 : decode cX0_init 40 = .ok (.putfield 23, 3) := by decide +kernel
theorem dX0_init_43 : decode cX0_init 43 = .ok (.return_, 1) := by decide +kernel
set_option maxRecDepth 20000 in
theorem ggX0_show_X4_totalCount : GoodIn wsX0_show wsX4_totalCount := goodIn_r _ [8, 9, 79, 80, 81, 82, 83, 84, 85, 86] (by decide +kernel) (by decide +kernel)
set_option maxRecDepth 20000 in
theorem gX0_show_X4_totalCount : GoodIn wsX0_show (wsV RX0 26 RX4 yX4_totalCount wsX4_totalCount) := goodIn_app (goodIn_of _ (by decide +kernel)) ggX0_show_X4_totalCount
set_option maxRecDepth 20000 in
theorem ggX0_show_X5_fill : GoodIn wsX0_show wsX5_fill := goodIn_r _ [14, 15, 87] (by decide +kernel) (by decide +kernel)
set_option maxRecDepth 20000 in
theorem gX0_show_X5_fill : GoodIn wsX0_show (wsV RX0 32 RX5 yX5_fill wsX5_fill) := goodIn_app (goodIn_of _ (by decide +kernel)) ggX0_show_X5_fill
set_option maxRecDepth 20000 in
theorem ggX0_show_X5_copyFrom : GoodIn wsX0_show wsX5_copyFrom := goodIn_r _ [19, 15, 20, 21, 22, 13, 23, 87] (by decide +kernel) (by decide +kernel)
set_option maxRecDepth 20000 in
theorem gX0_show_X5_copyFrom : GoodIn wsX0_show (wsV RX0 36 RX5 yX5_copyFrom wsX5_copyFrom) := goodIn_app (goodIn_of _ (by decide +kernel)) ggX0_show_X5_copyFrom
set_option maxRecDepth 20000 in
theorem ggX0_show_X4_inOrder : GoodIn wsX0_show wsX4_inOrder := goodIn_r _ [27, 28, 29, 21, 22, 13, 23, 15, 79, 80, 81, 82, 83, 84, 85, 86, 87] (by decide +kernel) (by decide +kernel)
set_option maxRecDepth 20000 in
theorem gX0_show_X4_inOrder : GoodIn wsX0_show (wsV RX0 44 RX4 yX4_inOrder wsX4_inOrder) := goodIn_app (goodIn_of _ (by decide +kernel)) ggX0_show_X4_inOrder
set_option maxRecDepth 20000 in
theorem ggX0_show_X2_has : GoodIn wsX0_show wsX2_has := goodIn_r _ [34, 35, 36, 21, 22, 13, 23, 15, 88, 87] (by decide +kernel) (by decide +kernel)
set_option maxRecDepth 20000 in
theorem gX0_show_X2_has : GoodIn wsX0_show (wsV RX0 48 RX2 yX2_has wsX2_has) := goodIn_app (goodIn_of _ (by decide +kernel)) ggX0_show_X2_has
set_option maxRecDepth 20000 in
theorem ggX0_show_X0_apply : GoodIn wsX0_show wsX0_apply := goodIn_r _ [41, 1, 2, 42, 43, 44, 7, 45, 46, 29, 21, 22, 13, 23, 15, 47, 48, 49, 50, 51, 52, 53, 54, 55, 56, 57, 58, 59, 60, 75, 76, 77, 78, 79, 80, 81, 82, 83, 84, 85, 86, 87] (by decide +kernel) (by decide +kernel)
set_option maxRecDepth 20000 in
theorem gX0_show_X0_apply : GoodIn wsX0_show (wsV RX0 54 RX0 yX0_apply wsX0_apply) := goodIn_app (goodIn_of _ (by decide +kernel)) ggX0_show_X0_apply
set_option maxRecDepth 20000 in
theorem ggX0_show_X0_collect : GoodIn wsX0_show wsX0_collect := goodIn_r _ [64, 2, 65, 3, 4, 5, 6, 7, 8, 9, 24, 25, 26, 27, 28, 29, 21, 22, 13, 23, 15, 66, 67, 68, 69, 51, 70, 71, 72, 73, 40, 74, 1, 30, 31, 32, 33, 34, 35, 36, 52, 53, 54, 55, 75, 76, 77, 78, 79, 80, 81, 82, 83, 84, 85, 86, 87, 88] (by decide +kernel) (by decide +kernel)
set_option maxRecDepth 20000 in
theorem gX0_show_X0_collect : GoodIn wsX0_show (wsV RX0 58 RX0 yX0_collect wsX0_collect) := goodIn_app (goodIn_of _ (by decide +kernel)) ggX0_show_X0_collect
theorem dX0_show_0 : decode cX0_show 0 = .ok (.aload_n 1, 1) := by decide +kernel
theorem dX0_show_1 : decode cX0_show 1 = .ok (.invokevirtual 26, 3) := by decide +kernel
theorem dX0_show_4 : decode cX0_show 4 = .ok (.istore 4, 2) := by decide +kernel
theorem dX0_show_6 : decode cX0_show 6 = .ok (.aload_n 0, 1) := by decide +kernel
theorem dX0_show_7 : decode cX0_show 7 = .ok (.getfield 14, 3) := by decide +kernel
theorem dX0_show_10 : decode cX0_show 10 = .ok (.iconst 0, 1) := by decide +kernel
theorem dX0_show_11 : decode cX0_show 11 = .ok (.invokevirtual 32, 3) := by decide +kernel
theorem dX0_show_14 : decode cX0_show 14 = .ok (.aload_n 0, 1) := by decide +kernel
theorem dX0_show_15 : decode cX0_show 15 = .ok (.getfield 20, 3) := by decide +kernel
theorem dX0_show_18 : decode cX0_show 18 = .ok (.aload_n 1, 1) := by decide +kernel
theorem dX0_show_19 : decode cX0_show 19 = .ok (.getfield 35, 3) := by decide +kernel
theorem dX0_show_22 : decode cX0_show 22 = .ok (.invokevirtual 36, 3) := by decide +kernel
theorem dX0_show_25 : decode cX0_show 25 = .ok (.aload_n 0, 1) := by decide +kernel
theorem dX0_show_26 : decode cX0_show 26 = .ok (.iconst 0, 1) := by decide +kernel
theorem dX0_show_27 : decode cX0_show 27 = .ok (.putfield 40, 3) := by decide +kernel
theorem dX0_show_30 : decode cX0_show 30 = .ok (.iconst 0, 1) := by decide +kernel
theorem dX0_show_31 : decode cX0_show 31 = .ok (.istore 5, 2) := by decide +kernel
theorem dX0_show_33 : decode cX0_show 33 = .ok (.iload 5, 2) := by decide +kernel
theorem dX0_show_35 : decode cX0_show 35 = .ok (.iload 4, 2) := by decide +kernel
theorem dX0_show_37 : decode cX0_show 37 = .ok (.if_icmp .ge 34, 3) := by decide +kernel
theorem dX0_show_40 : decode cX0_show 40 = .ok (.aload_n 1, 1) := by decide +kernel
theorem dX0_show_41 : decode cX0_show 41 = .ok (.iload 5, 2) := by decide +kernel
theorem dX0_show_43 : decode cX0_show 43 = .ok (.invokevirtual 44, 3) := by decide +kernel
theorem dX0_show_46 : decode cX0_show 46 = .ok (.istore 6, 2) := by decide +kernel
theorem dX0_show_48 : decode cX0_show 48 = .ok (.aload_n 2, 1) := by decide +kernel
theorem dX0_show_49 : decode cX0_show 49 = .ok (.iload_n 3, 1) := by decide +kernel
theorem dX0_show_50 : decode cX0_show 50 = .ok (.iload 6, 2) := by decide +kernel
theorem dX0_show_52 : decode cX0_show 52 = .ok (.invokevirtual 48, 3) := by decide +kernel
theorem dX0_show_55 : decode cX0_show 55 = .ok (.ifCond .eq 10, 3) := by decide +kernel
theorem dX0_show_58 : decode cX0_show 58 = .ok (.aload_n 0, 1) := by decide +kernel
theorem dX0_show_59 : decode cX0_show 59 = .ok (.aload_n 1, 1) := by decide +kernel
theorem dX0_show_60 : decode cX0_show 60 = .ok (.iload 6, 2) := by decide +kernel
theorem dX0_show_62 : decode cX0_show 62 = .ok (.invokevirtual 54, 3) := by decide +kernel
theorem dX0_show_65 : decode cX0_show 65 = .ok (.iinc 5 1, 3) := by decide +kernel
theorem dX0_show_68 : decode cX0_show 68 = .ok (.goto (-35), 3) := by decide +kernel
theorem dX0_show_71 : decode cX0_show 71 = .ok (.iconst 0, 1) := by decide +kernel
theorem dX0_show_72 : decode cX0_show 72 = .ok (.istore 5, 2) := by decide +kernel
theorem dX0_show_74 : decode cX0_show 74 = .ok (.iload 5, 2) := by decide +kernel
theorem dX0_show_76 : decode cX0_show 76 = .ok (.iconst 3, 1) := by decide +kernel
theorem dX0_show_77 : decode cX0_show 77 = .ok (.if_icmp .gt 18, 3) := by decide +kernel
theorem dX0_show_80 : decode cX0_show 80 = .ok (.aload_n 0, 1) := by decide +kernel
theorem dX0_show_81 : decode cX0_show 81 = .ok (.aload_n 1, 1) := by decide +kernel
theorem dX0_show_82 : decode cX0_show 82 = .ok (.aload_n 2, 1) := by decide +kernel
theorem dX0_show_83 : decode cX0_show 83 = .ok (.iload_n 3, 1) := by decide +kernel
theorem dX0_show_84 : decode cX0_show 84 = .ok (.iload 5, 2) := by decide +kernel
theorem dX0_show_86 : decode cX0_show 86 = .ok (.invokevirtual 58, 3) := by decide +kernel
theorem dX0_show_89 : decode cX0_show 89 = .ok (.iinc 5 1, 3) := by decide +kernel
theorem dX0_show_92 : decode cX0_show 92 = .ok (.goto (-18), 3) := by decide +kernel
theorem dX0_show_95 : decode cX0_show 95 = .ok (.return_, 1) := by decide +kernel
set_option maxRecDepth 20000 in
theorem ggX0_apply_X4_targetOf : GoodIn wsX0_apply wsX4_targetOf := goodIn_r _ [7, 8, 9, 10, 11, 12, 13, 14, 33, 34, 35, 36, 37, 38, 39, 40, 41] (by decide +kernel) (by decide +kernel)
set_option maxRecDepth 20000 in
theorem gX0_apply_X4_targetOf : GoodIn wsX0_apply (wsV RX0 62 RX4 yX4_targetOf wsX4_targetOf) := goodIn_app (goodIn_of _ (by decide +kernel)) ggX0_apply_X4_targetOf
set_option maxRecDepth 20000 in
theorem ggX0_apply_X4_kindOf : GoodIn wsX0_apply wsX4_kindOf := goodIn_r _ [18, 19, 9, 10, 11, 12, 13, 14, 33, 34, 35, 36, 37, 38, 39, 40, 41] (by decide +kernel) (by decide +kernel)
set_option maxRecDepth 20000 in
theorem gX0_apply_X4_kindOf : GoodIn wsX0_apply (wsV RX0 65 RX4 yX4_kindOf wsX4_kindOf) := goodIn_app (goodIn_of _ (by decide +kernel)) ggX0_apply_X4_kindOf
set_option maxRecDepth 20000 in
theorem ggX0_apply_X5_set : GoodIn wsX0_apply wsX5_set := goodIn_r _ [23, 14, 41] (by decide +kernel) (by decide +kernel)
set_option maxRecDepth 20000 in
theorem gX0_apply_X5_set : GoodIn wsX0_apply (wsV RX0 68 RX5 yX5_set wsX5_set) := goodIn_app (goodIn_of _ (by decide +kernel)) ggX0_apply_X5_set
set_option maxRecDepth 20000 in
theorem ggX0_apply_X4_layerOf : GoodIn wsX0_apply wsX4_layerOf := goodIn_r _ [27, 28, 9, 10, 11, 12, 13, 14, 33, 34, 35, 36, 37, 38, 39, 40, 41] (by decide +kernel) (by decide +kernel)
set_option maxRecDepth 20000 in
theorem gX0_apply_X4_layerOf : GoodIn wsX0_apply (wsV RX0 72 RX4 yX4_layerOf wsX4_layerOf) := goodIn_app (goodIn_of _ (by decide +kernel)) ggX0_apply_X4_layerOf
theorem dX0_apply_0 : decode cX0_apply 0 = .ok (.aload_n 1, 1) := by decide +kernel
theorem dX0_apply_1 : decode cX0_apply 1 = .ok (.iload_n 2, 1) := by decide +kernel
theorem dX0_apply_2 : decode cX0_apply 2 = .ok (.invokevirtual 62, 3) := by decide +kernel
theorem dX0_apply_5 : decode cX0_apply 5 = .ok (.istore_n 3, 1) := by decide +kernel
theorem dX0_apply_6 : decode cX0_apply 6 = .ok (.aload_n 1, 1) := by decide +kernel
theorem dX0_apply_7 : decode cX0_apply 7 = .ok (.iload_n 2, 1) := by decide +kernel
theorem dX0_apply_8 : decode cX0_apply 8 = .ok (.invokevirtual 65, 3) := by decide +kernel
theorem dX0_apply_11 : decode cX0_apply 11 = .ok (.tableswitch 65 1 3 #[25, 37, 49], 25) := by decide +kernel
theorem dX0_apply_36 : decode cX0_apply 36 = .ok (.aload_n 0, 1) := by decide +kernel
theorem dX0_apply_37 : decode cX0_apply 37 = .ok (.getfield 14, 3) := by decide +kernel
theorem dX0_apply_40 : decode cX0_apply 40 = .ok (.iload_n 3, 1) := by decide +kernel
theorem dX0_apply_41 : decode cX0_apply 41 = .ok (.iconst 1, 1) := by decide +kernel
theorem dX0_apply_42 : decode cX0_apply 42 = .ok (.invokevirtual 68, 3) := by decide +kernel
theorem dX0_apply_45 : decode cX0_apply 45 = .ok (.goto 31, 3) := by decide +kernel
theorem dX0_apply_48 : decode cX0_apply 48 = .ok (.aload_n 0, 1) := by decide +kernel
theorem dX0_apply_49 : decode cX0_apply 49 = .ok (.getfield 14, 3) := by decide +kernel
theorem dX0_apply_52 : decode cX0_apply 52 = .ok (.iload_n 3, 1) := by decide +kernel
theorem dX0_apply_53 : decode cX0_apply 53 = .ok (.iconst 0, 1) := by decide +kernel
theorem dX0_apply_54 : decode cX0_apply 54 = .ok (.invokevirtual 68, 3) := by decide +kernel
theorem dX0_apply_57 : decode cX0_apply 57 = .ok (.goto 19, 3) := by decide +kernel
theorem dX0_apply_60 : decode cX0_apply 60 = .ok (.aload_n 0, 1) := by decide +kernel
theorem dX0_apply_61 : decode cX0_apply 61 = .ok (.getfield 20, 3) := by decide +kernel
theorem dX0_apply_64 : decode cX0_apply 64 = .ok (.iload_n 3, 1) := by decide +kernel
theorem dX0_apply_65 : decode cX0_apply 65 = .ok (.aload_n 1, 1) := by decide +kernel
theorem dX0_apply_66 : decode cX0_apply 66 = .ok (.iload_n 2, 1) := by decide +kernel
theorem dX0_apply_67 : decode cX0_apply 67 = .ok (.invokevirtual 72, 3) := by decide +kernel
theorem dX0_apply_70 : decode cX0_apply 70 = .ok (.invokevirtual 68, 3) := by decide +kernel
theorem dX0_apply_73 : decode cX0_apply 73 = .ok (.goto 3, 3) := by decide +kernel
theorem dX0_apply_76 : decode cX0_apply 76 = .ok (.return_, 1) := by decide +kernel
set_option maxRecDepth 20000 in
theorem ggX0_collect_X4_totalCount : GoodIn wsX0_collect wsX4_totalCount := goodIn_r _ [8, 9, 48, 49, 50, 51, 52, 53, 54, 55] (by decide +kernel) (by decide +kernel)
set_option maxRecDepth 20000 in
theorem gX0_collect_X4_totalCount : GoodIn wsX0_collect (wsV RX0 26 RX4 yX4_totalCount wsX4_totalCount) := goodIn_app (goodIn_of _ (by decide +kernel)) ggX0_collect_X4_totalCount
set_option maxRecDepth 20000 in
theorem ggX0_collect_X4_inOrder : GoodIn wsX0_collect wsX4_inOrder := goodIn_r _ [13, 14, 15, 16, 17, 18, 19, 20, 48, 49, 50, 51, 52, 53, 54, 55, 56] (by decide +kernel) (by decide +kernel)
set_option maxRecDepth 20000 in
theorem gX0_collect_X4_inOrder : GoodIn wsX0_collect (wsV RX0 44 RX4 yX4_inOrder wsX4_inOrder) := goodIn_app (goodIn_of _ (by decide +kernel)) ggX0_collect_X4_inOrder
set_option maxRecDepth 20000 in
theorem ggX0_collect_X4_isStroke : GoodIn wsX0_collect wsX4_isStroke := goodIn_r _ [24, 25, 15, 16, 17, 18, 19, 20, 48, 49, 50, 51, 52, 53, 54, 55, 56] (by decide +kernel) (by decide +kernel)
set_option maxRecDepth 20000 in
theorem gX0_collect_X4_isStroke : GoodIn wsX0_collect (wsV RX0 75 RX4 yX4_isStroke wsX4_isStroke) := goodIn_app (goodIn_of _ (by decide +kernel)) ggX0_collect_X4_isStroke
set_option maxRecDepth 20000 in
theorem ggX0_collect_X5_get : GoodIn wsX0_collect wsX5_get := goodIn_r _ [19, 20, 56] (by decide +kernel) (by decide +kernel)
set_option maxRecDepth 20000 in
theorem gX0_collect_X5_get : GoodIn wsX0_collect (wsV RX0 79 RX5 yX5_get wsX5_get) := goodIn_app (goodIn_of _ (by decide +kernel)) ggX0_collect_X5_get
set_option maxRecDepth 20000 in
theorem ggX0_collect_X0_isUndone : GoodIn wsX0_collect wsX0_isUndone := goodIn_r _ [31, 32, 26, 16, 17, 18, 19, 20, 44, 45, 46, 47, 56] (by decide +kernel) (by decide +kernel)
set_option maxRecDepth 20000 in
theorem gX0_collect_X0_isUndone : GoodIn wsX0_collect (wsV RX0 82 RX0 yX0_isUndone wsX0_isUndone) := goodIn_app (goodIn_of _ (by decide +kernel)) ggX0_collect_X0_isUndone
set_option maxRecDepth 20000 in
theorem ggX0_collect_X2_has : GoodIn wsX0_collect wsX2_has := goodIn_r _ [37, 38, 39, 16, 17, 18, 19, 20, 57, 56] (by decide +kernel) (by decide +kernel)
set_option maxRecDepth 20000 in
theorem gX0_collect_X2_has : GoodIn wsX0_collect (wsV RX0 48 RX2 yX2_has wsX2_has) := goodIn_app (goodIn_of _ (by decide +kernel)) ggX0_collect_X2_has
set_option maxRecDepth 20000 in
theorem ggX0_collect_X5_set : GoodIn wsX0_collect wsX5_set := goodIn_r _ [43, 20, 56] (by decide +kernel) (by decide +kernel)
set_option maxRecDepth 20000 in
theorem gX0_collect_X5_set : GoodIn wsX0_collect (wsV RX0 68 RX5 yX5_set wsX5_set) := goodIn_app (goodIn_of _ (by decide +kernel)) ggX0_collect_X5_set
theorem dX0_collect_0 : decode cX0_collect 0 = .ok (.aload_n 1, 1) := by decide +kernel
theorem dX0_collect_1 : decode cX0_collect 1 = .ok (.invokevirtual 26, 3) := by decide +kernel
theorem dX0_collect_4 : decode cX0_collect 4 = .ok (.istore 5, 2) := by decide +kernel
theorem dX0_collect_6 : decode cX0_collect 6 = .ok (.iconst 0, 1) := by decide +kernel
theorem dX0_collect_7 : decode cX0_collect 7 = .ok (.istore 6, 2) := by decide +kernel
theorem dX0_collect_9 : decode cX0_collect 9 = .ok (.iload 6, 2) := by decide +kernel
theorem dX0_collect_11 : decode cX0_collect 11 = .ok (.iload 5, 2) := by decide +kernel
theorem dX0_collect_13 : decode cX0_collect 13 = .ok (.if_icmp .ge 82, 3) := by decide +kernel
theorem dX0_collect_16 : decode cX0_collect 16 = .ok (.aload_n 1, 1) := by decide +kernel
theorem dX0_collect_17 : decode cX0_collect 17 = .ok (.iload 6, 2) := by decide +kernel
theorem dX0_collect_19 : decode cX0_collect 19 = .ok (.invokevirtual 44, 3) := by decide +kernel
theorem dX0_collect_22 : decode cX0_collect 22 = .ok (.istore 7, 2) := by decide +kernel
theorem dX0_collect_24 : decode cX0_collect 24 = .ok (.aload_n 1, 1) := by decide +kernel
theorem dX0_collect_25 : decode cX0_collect 25 = .ok (.iload 7, 2) := by decide +kernel
theorem dX0_collect_27 : decode cX0_collect 27 = .ok (.invokevirtual 75, 3) := by decide +kernel
theorem dX0_collect_30 : decode cX0_collect 30 = .ok (.ifCond .eq 59, 3) := by decide +kernel
theorem dX0_collect_33 : decode cX0_collect 33 = .ok (.aload_n 0, 1) := by decide +kernel
theorem dX0_collect_34 : decode cX0_collect 34 = .ok (.getfield 20, 3) := by decide +kernel
theorem dX0_collect_37 : decode cX0_collect 37 = .ok (.iload 7, 2) := by decide +kernel
theorem dX0_collect_39 : decode cX0_collect 39 = .ok (.invokevirtual 79, 3) := by decide +kernel
theorem dX0_collect_42 : decode cX0_collect 42 = .ok (.iload 4, 2) := by decide +kernel
theorem dX0_collect_44 : decode cX0_collect 44 = .ok (.if_icmp .ne 45, 3) := by decide +kernel
theorem dX0_collect_47 : decode cX0_collect 47 = .ok (.aload_n 0, 1) := by decide +kernel
theorem dX0_collect_48 : decode cX0_collect 48 = .ok (.iload 7, 2) := by decide +kernel
theorem dX0_collect_50 : decode cX0_collect 50 = .ok (.invokevirtual 82, 3) := by decide +kernel
theorem dX0_collect_53 : decode cX0_collect 53 = .ok (.ifCond .ne 36, 3) := by decide +kernel
theorem dX0_collect_56 : decode cX0_collect 56 = .ok (.aload_n 2, 1) := by decide +kernel
theorem dX0_collect_57 : decode cX0_collect 57 = .ok (.iload_n 3, 1) := by decide +kernel
theorem dX0_collect_58 : decode cX0_collect 58 = .ok (.iload 7, 2) := by decide +kernel
theorem dX0_collect_60 : decode cX0_collect 60 = .ok (.invokevirtual 48, 3) := by decide +kernel
theorem dX0_collect_63 : decode cX0_collect 63 = .ok (.ifCond .eq 26, 3) := by decide +kernel
theorem dX0_collect_66 : decode cX0_collect 66 = .ok (.aload_n 0, 1) := by decide +kernel
theorem dX0_collect_67 : decode cX0_collect 67 = .ok (.getfield 23, 3) := by decide +kernel
theorem dX0_collect_70 : decode cX0_collect 70 = .ok (.aload_n 0, 1) := by decide +kernel
theorem dX0_collect_71 : decode cX0_collect 71 = .ok (.getfield 40, 3) := by decide +kernel
theorem dX0_collect_74 : decode cX0_collect 74 = .ok (.iload 7, 2) := by decide +kernel
theorem dX0_collect_76 : decode cX0_collect 76 = .ok (.invokevirtual 68, 3) := by decide +kernel
theorem dX0_collect_79 : decode cX0_collect 79 = .ok (.aload_n 0, 1) := by decide +kernel
theorem dX0_collect_80 : decode cX0_collect 80 = .ok (.dup, 1) := by decide +kernel
theorem dX0_collect_81 : decode cX0_collect 81 = .ok (.getfield 40, 3) := by decide +kernel
theorem dX0_collect_84 : decode cX0_collect 84 = .ok (.iconst 1, 1) := by decide +kernel
theorem dX0_collect_85 : decode cX0_collect 85 = .ok (.iadd, 1) := by decide +kernel
theorem dX0_collect_86 : decode cX0_collect 86 = .ok (.putfield 40, 3) := by decide +kernel
theorem dX0_collect_89 : decode cX0_collect 89 = .ok (.iinc 6 1, 3) := by decide +kernel
theorem dX0_collect_92 : decode cX0_collect 92 = .ok (.goto (-83), 3) := by decide +kernel
theorem dX0_collect_95 : decode cX0_collect 95 = .ok (.return_, 1) := by decide +kernel
set_option maxRecDepth 20000 in
theorem ggX0_isUndone_X5_get : GoodIn wsX0_isUndone wsX5_get := goodIn_r _ [6, 7, 12] (by decide +kernel) (by decide +kernel)
set_option maxRecDepth 20000 in
theorem gX0_isUndone_X5_get : GoodIn wsX0_isUndone (wsV RX0 79 RX5 yX5_get wsX5_get) := goodIn_app (goodIn_of _ (by decide +kernel)) ggX0_isUndone_X5_get
theorem dX0_isUndone_0 : decode cX0_isUndone 0 = .ok (.aload_n 0, 1) := by decide +kernel
theorem dX0_isUndone_1 : decode cX0_isUndone 1 = .ok (.getfield 14, 3) := by decide +kernel
theorem dX0_isUndone_4 : decode cX0_isUndone 4 = .ok (.iload_n 1, 1) := by decide +kernel
theorem dX0_isUndone_5 : decode cX0_isUndone 5 = .ok (.invokevirtual 79, 3) := by decide +kernel
theorem dX0_isUndone_8 : decode cX0_isUndone 8 = .ok (.iconst 1, 1) := by decide +kernel
theorem dX0_isUndone_9 : decode cX0_isUndone 9 = .ok (.if_icmp .ne 7, 3) := by decide +kernel
theorem dX0_isUndone_12 : decode cX0_isUndone 12 = .ok (.iconst 1, 1) := by decide +kernel
theorem dX0_isUndone_13 : decode cX0_isUndone 13 = .ok (.goto 4, 3) := by decide +kernel
theorem dX0_isUndone_16 : decode cX0_isUndone 16 = .ok (.iconst 0, 1) := by decide +kernel
theorem dX0_isUndone_17 : decode cX0_isUndone 17 = .ok (.ireturn, 1) := by decide +kernel
theorem dX0_strokeCount_0 : decode cX0_strokeCount 0 = .ok (.aload_n 0, 1) := by decide +kernel
theorem dX0_strokeCount_1 : decode cX0_strokeCount 1 = .ok (.getfield 40, 3) := by decide +kernel
theorem dX0_strokeCount_4 : decode cX0_strokeCount 4 = .ok (.ireturn, 1) := by decide +kernel
set_option maxRecDepth 20000 in
theorem ggX0_strokeIn_X5_get : GoodIn wsX0_strokeIn wsX5_get := goodIn_r _ [6, 7, 12] (by decide +kernel) (by decide +kernel)
set_option maxRecDepth 20000 in
theorem gX0_strokeIn_X5_get : GoodIn wsX0_strokeIn (wsV RX0 79 RX5 yX5_get wsX5_get) := goodIn_app (goodIn_of _ (by decide +kernel)) ggX0_strokeIn_X5_get
theorem dX0_strokeIn_0 : decode cX0_strokeIn 0 = .ok (.aload_n 0, 1) := by decide +kernel
theorem dX0_strokeIn_1 : decode cX0_strokeIn 1 = .ok (.getfield 23, 3) := by decide +kernel
theorem dX0_strokeIn_4 : decode cX0_strokeIn 4 = .ok (.iload_n 1, 1) := by decide +kernel
theorem dX0_strokeIn_5 : decode cX0_strokeIn 5 = .ok (.invokevirtual 79, 3) := by decide +kernel
theorem dX0_strokeIn_8 : decode cX0_strokeIn 8 = .ok (.ireturn, 1) := by decide +kernel
set_option maxRecDepth 20000 in
theorem ggX0_layerOf_X5_get : GoodIn wsX0_layerOf wsX5_get := goodIn_r _ [6, 7, 12] (by decide +kernel) (by decide +kernel)
set_option maxRecDepth 20000 in
theorem gX0_layerOf_X5_get : GoodIn wsX0_layerOf (wsV RX0 79 RX5 yX5_get wsX5_get) := goodIn_app (goodIn_of _ (by decide +kernel)) ggX0_layerOf_X5_get
theorem dX0_layerOf_0 : decode cX0_layerOf 0 = .ok (.aload_n 0, 1) := by decide +kernel
theorem dX0_layerOf_1 : decode cX0_layerOf 1 = .ok (.getfield 20, 3) := by decide +kernel
theorem dX0_layerOf_4 : decode cX0_layerOf 4 = .ok (.iload_n 1, 1) := by decide +kernel
theorem dX0_layerOf_5 : decode cX0_layerOf 5 = .ok (.invokevirtual 79, 3) := by decide +kernel
theorem dX0_layerOf_8 : decode cX0_layerOf 8 = .ok (.ireturn, 1) := by decide +kernel
set_option maxRecDepth 20000 in
theorem ggX0_matches_X5_get : GoodIn wsX0_matches wsX5_get := goodIn_r _ [8, 9, 23] (by decide +kernel) (by decide +kernel)
set_option maxRecDepth 20000 in
theorem gX0_matches_X5_get : GoodIn wsX0_matches (wsV RX0 79 RX5 yX5_get wsX5_get) := goodIn_app (goodIn_of _ (by decide +kernel)) ggX0_matches_X5_get
set_option maxRecDepth 20000 in
theorem ggX0_matches_X0_strokeIn : GoodIn wsX0_matches wsX0_strokeIn := goodIn_r _ [14, 2, 4, 5, 6, 7, 8, 9, 19, 20, 21, 22, 23] (by decide +kernel) (by decide +kernel)
set_option maxRecDepth 20000 in
theorem gX0_matches_X0_strokeIn : GoodIn wsX0_matches (wsV RX0 85 RX0 yX0_strokeIn wsX0_strokeIn) := goodIn_app (goodIn_of _ (by decide +kernel)) ggX0_matches_X0_strokeIn
set_option maxRecDepth 20000 in
theorem ggX0_matches_X0_layerOf : GoodIn wsX0_matches wsX0_layerOf := goodIn_r _ [18, 3, 4, 5, 6, 7, 8, 9, 19, 20, 21, 22, 23] (by decide +kernel) (by decide +kernel)
set_option maxRecDepth 20000 in
theorem gX0_matches_X0_layerOf : GoodIn wsX0_matches (wsV RX0 88 RX0 yX0_layerOf wsX0_layerOf) := goodIn_app (goodIn_of _ (by decide +kernel)) ggX0_matches_X0_layerOf
theorem dX0_matches_0 : decode cX0_matches 0 = .ok (.aload_n 0, 1) := by decide +kernel
theorem dX0_matches_1 : decode cX0_matches 1 = .ok (.getfield 40, 3) := by decide +kernel
theorem dX0_matches_4 : decode cX0_matches 4 = .ok (.aload_n 1, 1) := by decide +kernel
theorem dX0_matches_5 : decode cX0_matches 5 = .ok (.getfield 40, 3) := by decide +kernel
theorem dX0_matches_8 : decode cX0_matches 8 = .ok (.if_icmp .eq 5, 3) := by decide +kernel
theorem dX0_matches_11 : decode cX0_matches 11 = .ok (.iconst 0, 1) := by decide +kernel
theorem dX0_matches_12 : decode cX0_matches 12 = .ok (.ireturn, 1) := by decide +kernel
theorem dX0_matches_13 : decode cX0_matches 13 = .ok (.iconst 0, 1) := by decide +kernel
theorem dX0_matches_14 : decode cX0_matches 14 = .ok (.istore_n 2, 1) := by decide +kernel
theorem dX0_matches_15 : decode cX0_matches 15 = .ok (.iload_n 2, 1) := by decide +kernel
theorem dX0_matches_16 : decode cX0_matches 16 = .ok (.aload_n 0, 1) := by decide +kernel
theorem dX0_matches_17 : decode cX0_matches 17 = .ok (.getfield 40, 3) := by decide +kernel
theorem dX0_matches_20 : decode cX0_matches 20 = .ok (.if_icmp .ge 45, 3) := by decide +kernel
theorem dX0_matches_23 : decode cX0_matches 23 = .ok (.aload_n 0, 1) := by decide +kernel
theorem dX0_matches_24 : decode cX0_matches 24 = .ok (.getfield 23, 3) := by decide +kernel
theorem dX0_matches_27 : decode cX0_matches 27 = .ok (.iload_n 2, 1) := by decide +kernel
theorem dX0_matches_28 : decode cX0_matches 28 = .ok (.invokevirtual 79, 3) := by decide +kernel
theorem dX0_matches_31 : decode cX0_matches 31 = .ok (.istore_n 3, 1) := by decide +kernel
theorem dX0_matches_32 : decode cX0_matches 32 = .ok (.iload_n 3, 1) := by decide +kernel
theorem dX0_matches_33 : decode cX0_matches 33 = .ok (.aload_n 1, 1) := by decide +kernel
theorem dX0_matches_34 : decode cX0_matches 34 = .ok (.iload_n 2, 1) := by decide +kernel
theorem dX0_matches_35 : decode cX0_matches 35 = .ok (.invokevirtual 85, 3) := by decide +kernel
theorem dX0_matches_38 : decode cX0_matches 38 = .ok (.if_icmp .ne 19, 3) := by decide +kernel
theorem dX0_matches_41 : decode cX0_matches 41 = .ok (.aload_n 0, 1) := by decide +kernel
theorem dX0_matches_42 : decode cX0_matches 42 = .ok (.getfield 20, 3) := by decide +kernel
theorem dX0_matches_45 : decode cX0_matches 45 = .ok (.iload_n 3, 1) := by decide +kernel
theorem dX0_matches_46 : decode cX0_matches 46 = .ok (.invokevirtual 79, 3) := by decide +kernel
theorem dX0_matches_49 : decode cX0_matches 49 = .ok (.aload_n 1, 1) := by decide +kernel
theorem dX0_matches_50 : decode cX0_matches 50 = .ok (.iload_n 3, 1) := by decide +kernel
theorem dX0_matches_51 : decode cX0_matches 51 = .ok (.invokevirtual 88, 3) := by decide +kernel
theorem dX0_matches_54 : decode cX0_matches 54 = .ok (.if_icmp .eq 5, 3) := by decide +kernel
theorem dX0_matches_57 : decode cX0_matches 57 = .ok (.iconst 0, 1) := by decide +kernel
theorem dX0_matches_58 : decode cX0_matches 58 = .ok (.ireturn, 1) := by decide +kernel
theorem dX0_matches_59 : decode cX0_matches 59 = .ok (.iinc 2 1, 3) := by decide +kernel
theorem dX0_matches_62 : decode cX0_matches 62 = .ok (.goto (-47), 3) := by decide +kernel
theorem dX0_matches_65 : decode cX0_matches 65 = .ok (.iconst 1, 1) := by decide +kernel
theorem dX0_matches_66 : decode cX0_matches 66 = .ok (.ireturn, 1) := by decide +kernel
set_option maxRecDepth 20000 in
theorem ggX0_hash_X5_get : GoodIn wsX0_hash wsX5_get := goodIn_r _ [8, 9, 54] (by decide +kernel) (by decide +kernel)
set_option maxRecDepth 20000 in
theorem gX0_hash_X5_get : GoodIn wsX0_hash (wsV RX0 79 RX5 yX5_get wsX5_get) := goodIn_app (goodIn_of _ (by decide +kernel)) ggX0_hash_X5_get
set_option maxRecDepth 20000 in
theorem ggX0_hash_X6_authorOf : GoodIn wsX0_hash wsX6_authorOf := goodIn_r _ [12] (by decide +kernel) (by decide +kernel)
set_option maxRecDepth 20000 in
theorem gX0_hash_X6_authorOf_n89 : GoodIn wsX0_hash (wsX6_authorOf) := ggX0_hash_X6_authorOf
set_option maxRecDepth 20000 in
theorem ggX0_hash_X6_numberOf : GoodIn wsX0_hash wsX6_numberOf := goodIn_r _ [14] (by decide +kernel) (by decide +kernel)
set_option maxRecDepth 20000 in
theorem gX0_hash_X6_numberOf_n92 : GoodIn wsX0_hash (wsX6_numberOf) := ggX0_hash_X6_numberOf
set_option maxRecDepth 20000 in
theorem ggX0_hash_X1_colorOf : GoodIn wsX0_hash wsX1_colorOf := goodIn_r _ [19, 20, 21, 5, 6, 7, 8, 9, 55, 56, 57, 58, 59, 54] (by decide +kernel) (by decide +kernel)
set_option maxRecDepth 20000 in
theorem gX0_hash_X1_colorOf : GoodIn wsX0_hash (wsV RX0 99 RX1 yX1_colorOf wsX1_colorOf) := goodIn_app (goodIn_of _ (by decide +kernel)) ggX0_hash_X1_colorOf
set_option maxRecDepth 20000 in
theorem ggX0_hash_X0_hashPoints : GoodIn wsX0_hash wsX0_hashPoints := goodIn_r _ [26, 27, 28, 29, 18, 30, 31, 21, 5, 6, 7, 8, 9, 32, 33, 34, 35, 36, 37, 38, 39, 40, 41, 55, 56, 57, 58, 59, 54] (by decide +kernel) (by decide +kernel)
set_option maxRecDepth 20000 in
theorem gX0_hash_X0_hashPoints : GoodIn wsX0_hash (wsV RX0 104 RX0 yX0_hashPoints wsX0_hashPoints) := goodIn_app (goodIn_of _ (by decide +kernel)) ggX0_hash_X0_hashPoints
theorem dX0_hash_0 : decode cX0_hash 0 = .ok (.bipush 17, 2) := by decide +kernel
theorem dX0_hash_2 : decode cX0_hash 2 = .ok (.istore_n 2, 1) := by decide +kernel
theorem dX0_hash_3 : decode cX0_hash 3 = .ok (.iconst 0, 1) := by decide +kernel
theorem dX0_hash_4 : decode cX0_hash 4 = .ok (.istore_n 3, 1) := by decide +kernel
theorem dX0_hash_5 : decode cX0_hash 5 = .ok (.iload_n 3, 1) := by decide +kernel
theorem dX0_hash_6 : decode cX0_hash 6 = .ok (.aload_n 0, 1) := by decide +kernel
theorem dX0_hash_7 : decode cX0_hash 7 = .ok (.getfield 40, 3) := by decide +kernel
theorem dX0_hash_10 : decode cX0_hash 10 = .ok (.if_icmp .ge 83, 3) := by decide +kernel
theorem dX0_hash_13 : decode cX0_hash 13 = .ok (.aload_n 0, 1) := by decide +kernel
theorem dX0_hash_14 : decode cX0_hash 14 = .ok (.getfield 23, 3) := by decide +kernel
theorem dX0_hash_17 : decode cX0_hash 17 = .ok (.iload_n 3, 1) := by decide +kernel
theorem dX0_hash_18 : decode cX0_hash 18 = .ok (.invokevirtual 79, 3) := by decide +kernel
theorem dX0_hash_21 : decode cX0_hash 21 = .ok (.istore 4, 2) := by decide +kernel
theorem dX0_hash_23 : decode cX0_hash 23 = .ok (.bipush 31, 2) := by decide +kernel
theorem dX0_hash_25 : decode cX0_hash 25 = .ok (.iload_n 2, 1) := by decide +kernel
theorem dX0_hash_26 : decode cX0_hash 26 = .ok (.imul, 1) := by decide +kernel
theorem dX0_hash_27 : decode cX0_hash 27 = .ok (.iload 4, 2) := by decide +kernel
theorem dX0_hash_29 : decode cX0_hash 29 = .ok (.invokestatic 89, 3) := by decide +kernel
theorem dX0_hash_32 : decode cX0_hash 32 = .ok (.iadd, 1) := by decide +kernel
theorem dX0_hash_33 : decode cX0_hash 33 = .ok (.istore_n 2, 1) := by decide +kernel
theorem dX0_hash_34 : decode cX0_hash 34 = .ok (.bipush 31, 2) := by decide +kernel
theorem dX0_hash_36 : decode cX0_hash 36 = .ok (.iload_n 2, 1) := by decide +kernel
theorem dX0_hash_37 : decode cX0_hash 37 = .ok (.imul, 1) := by decide +kernel
theorem dX0_hash_38 : decode cX0_hash 38 = .ok (.iload 4, 2) := by decide +kernel
theorem dX0_hash_40 : decode cX0_hash 40 = .ok (.invokestatic 92, 3) := by decide +kernel
theorem dX0_hash_43 : decode cX0_hash 43 = .ok (.iadd, 1) := by decide +kernel
theorem dX0_hash_44 : decode cX0_hash 44 = .ok (.istore_n 2, 1) := by decide +kernel
theorem dX0_hash_45 : decode cX0_hash 45 = .ok (.bipush 31, 2) := by decide +kernel
theorem dX0_hash_47 : decode cX0_hash 47 = .ok (.iload_n 2, 1) := by decide +kernel
theorem dX0_hash_48 : decode cX0_hash 48 = .ok (.imul, 1) := by decide +kernel
theorem dX0_hash_49 : decode cX0_hash 49 = .ok (.aload_n 0, 1) := by decide +kernel
theorem dX0_hash_50 : decode cX0_hash 50 = .ok (.getfield 20, 3) := by decide +kernel
theorem dX0_hash_53 : decode cX0_hash 53 = .ok (.iload 4, 2) := by decide +kernel
theorem dX0_hash_55 : decode cX0_hash 55 = .ok (.invokevirtual 79, 3) := by decide +kernel
theorem dX0_hash_58 : decode cX0_hash 58 = .ok (.iadd, 1) := by decide +kernel
theorem dX0_hash_59 : decode cX0_hash 59 = .ok (.istore_n 2, 1) := by decide +kernel
theorem dX0_hash_60 : decode cX0_hash 60 = .ok (.bipush 31, 2) := by decide +kernel
theorem dX0_hash_62 : decode cX0_hash 62 = .ok (.iload_n 2, 1) := by decide +kernel
theorem dX0_hash_63 : decode cX0_hash 63 = .ok (.imul, 1) := by decide +kernel
theorem dX0_hash_64 : decode cX0_hash 64 = .ok (.aload_n 1, 1) := by decide +kernel
theorem dX0_hash_65 : decode cX0_hash 65 = .ok (.getfield 95, 3) := by decide +kernel
theorem dX0_hash_68 : decode cX0_hash 68 = .ok (.iload 4, 2) := by decide +kernel
theorem dX0_hash_70 : decode cX0_hash 70 = .ok (.invokevirtual 99, 3) := by decide +kernel
theorem dX0_hash_73 : decode cX0_hash 73 = .ok (.iadd, 1) := by decide +kernel
theorem dX0_hash_74 : decode cX0_hash 74 = .ok (.istore_n 2, 1) := by decide +kernel
theorem dX0_hash_75 : decode cX0_hash 75 = .ok (.aload_n 0, 1) := by decide +kernel
theorem dX0_hash_76 : decode cX0_hash 76 = .ok (.iload_n 2, 1) := by decide +kernel
theorem dX0_hash_77 : decode cX0_hash 77 = .ok (.aload_n 1, 1) := by decide +kernel
theorem dX0_hash_78 : decode cX0_hash 78 = .ok (.getfield 95, 3) := by decide +kernel
theorem dX0_hash_81 : decode cX0_hash 81 = .ok (.iload 4, 2) := by decide +kernel
theorem dX0_hash_83 : decode cX0_hash 83 = .ok (.invokevirtual 104, 3) := by decide +kernel
theorem dX0_hash_86 : decode cX0_hash 86 = .ok (.istore_n 2, 1) := by decide +kernel
theorem dX0_hash_87 : decode cX0_hash 87 = .ok (.iinc 3 1, 3) := by decide +kernel
theorem dX0_hash_90 : decode cX0_hash 90 = .ok (.goto (-85), 3) := by decide +kernel
theorem dX0_hash_93 : decode cX0_hash 93 = .ok (.iload_n 2, 1) := by decide +kernel
theorem dX0_hash_94 : decode cX0_hash 94 = .ok (.ireturn, 1) := by decide +kernel
set_option maxRecDepth 20000 in
theorem ggX0_hashPoints_X1_pointCount : GoodIn wsX0_hashPoints wsX1_pointCount := goodIn_r _ [5, 6, 7, 8, 9, 10, 11, 12, 23, 24, 25, 26, 27, 28] (by decide +kernel) (by decide +kernel)
set_option maxRecDepth 20000 in
theorem gX0_hashPoints_X1_pointCount : GoodIn wsX0_hashPoints (wsV RX0 108 RX1 yX1_pointCount wsX1_pointCount) := goodIn_app (goodIn_of _ (by decide +kernel)) ggX0_hashPoints_X1_pointCount
set_option maxRecDepth 20000 in
theorem ggX0_hashPoints_X1_xOf : GoodIn wsX0_hashPoints wsX1_xOf := goodIn_r _ [16, 17, 7, 8, 9, 10, 11, 12, 23, 24, 25, 26, 27, 28] (by decide +kernel) (by decide +kernel)
set_option maxRecDepth 20000 in
theorem gX0_hashPoints_X1_xOf : GoodIn wsX0_hashPoints (wsV RX0 111 RX1 yX1_xOf wsX1_xOf) := goodIn_app (goodIn_of _ (by decide +kernel)) ggX0_hashPoints_X1_xOf
set_option maxRecDepth 20000 in
theorem ggX0_hashPoints_X1_yOf : GoodIn wsX0_hashPoints wsX1_yOf := goodIn_r _ [21, 22, 7, 8, 9, 10, 11, 12, 23, 24, 25, 26, 27, 28] (by decide +kernel) (by decide +kernel)
set_option maxRecDepth 20000 in
theorem gX0_hashPoints_X1_yOf : GoodIn wsX0_hashPoints (wsV RX0 115 RX1 yX1_yOf wsX1_yOf) := goodIn_app (goodIn_of _ (by decide +kernel)) ggX0_hashPoints_X1_yOf
theorem dX0_hashPoints_0 : decode cX0_hashPoints 0 = .ok (.iload_n 1, 1) := by decide +kernel
theorem dX0_hashPoints_1 : decode cX0_hashPoints 1 = .ok (.istore 4, 2) := by decide +kernel
theorem dX0_hashPoints_3 : decode cX0_hashPoints 3 = .ok (.iconst 0, 1) := by decide +kernel
theorem dX0_hashPoints_4 : decode cX0_hashPoints 4 = .ok (.istore 5, 2) := by decide +kernel
theorem dX0_hashPoints_6 : decode cX0_hashPoints 6 = .ok (.iload 5, 2) := by decide +kernel
theorem dX0_hashPoints_8 : decode cX0_hashPoints 8 = .ok (.aload_n 2, 1) := by decide +kernel
theorem dX0_hashPoints_9 : decode cX0_hashPoints 9 = .ok (.iload_n 3, 1) := by decide +kernel
theorem dX0_hashPoints_10 : decode cX0_hashPoints 10 = .ok (.invokevirtual 108, 3) := by decide +kernel
theorem dX0_hashPoints_13 : decode cX0_hashPoints 13 = .ok (.if_icmp .ge 39, 3) := by decide +kernel
theorem dX0_hashPoints_16 : decode cX0_hashPoints 16 = .ok (.bipush 31, 2) := by decide +kernel
theorem dX0_hashPoints_18 : decode cX0_hashPoints 18 = .ok (.iload 4, 2) := by decide +kernel
theorem dX0_hashPoints_20 : decode cX0_hashPoints 20 = .ok (.imul, 1) := by decide +kernel
theorem dX0_hashPoints_21 : decode cX0_hashPoints 21 = .ok (.aload_n 2, 1) := by decide +kernel
theorem dX0_hashPoints_22 : decode cX0_hashPoints 22 = .ok (.iload_n 3, 1) := by decide +kernel
theorem dX0_hashPoints_23 : decode cX0_hashPoints 23 = .ok (.iload 5, 2) := by decide +kernel
theorem dX0_hashPoints_25 : decode cX0_hashPoints 25 = .ok (.invokevirtual 111, 3) := by decide +kernel
theorem dX0_hashPoints_28 : decode cX0_hashPoints 28 = .ok (.iadd, 1) := by decide +kernel
theorem dX0_hashPoints_29 : decode cX0_hashPoints 29 = .ok (.istore 4, 2) := by decide +kernel
theorem dX0_hashPoints_31 : decode cX0_hashPoints 31 = .ok (.bipush 31, 2) := by decide +kernel
theorem dX0_hashPoints_33 : decode cX0_hashPoints 33 = .ok (.iload 4, 2) := by decide +kernel
theorem dX0_hashPoints_35 : decode cX0_hashPoints 35 = .ok (.imul, 1) := by decide +kernel
theorem dX0_hashPoints_36 : decode cX0_hashPoints 36 = .ok (.aload_n 2, 1) := by decide +kernel
theorem dX0_hashPoints_37 : decode cX0_hashPoints 37 = .ok (.iload_n 3, 1) := by decide +kernel
theorem dX0_hashPoints_38 : decode cX0_hashPoints 38 = .ok (.iload 5, 2) := by decide +kernel
theorem dX0_hashPoints_40 : decode cX0_hashPoints 40 = .ok (.invokevirtual 115, 3) := by decide +kernel
theorem dX0_hashPoints_43 : decode cX0_hashPoints 43 = .ok (.iadd, 1) := by decide +kernel
theorem dX0_hashPoints_44 : decode cX0_hashPoints 44 = .ok (.istore 4, 2) := by decide +kernel
theorem dX0_hashPoints_46 : decode cX0_hashPoints 46 = .ok (.iinc 5 1, 3) := by decide +kernel
theorem dX0_hashPoints_49 : decode cX0_hashPoints 49 = .ok (.goto (-43), 3) := by decide +kernel
theorem dX0_hashPoints_52 : decode cX0_hashPoints 52 = .ok (.iload 4, 2) := by decide +kernel
theorem dX0_hashPoints_54 : decode cX0_hashPoints 54 = .ok (.ireturn, 1) := by decide +kernel
set_option maxRecDepth 20000 in
theorem ggX1_init_X5_init : GoodIn wsX1_init wsX5_init := goodIn_r _ [14, 15, 2, 3, 16, 17, 18, 19, 20, 21, 22] (by decide +kernel) (by decide +kernel)
set_option maxRecDepth 20000 in
theorem gX1_init_X5_init : GoodIn wsX1_init (wsX5_init) := ggX1_init_X5_init
theorem dX1_init_0 : decode cX1_init 0 = .ok (.aload_n 0, 1) := by decide +kernel
theorem dX1_init_1 : decode cX1_init 1 = .ok (.invokespecial 3, 3) := by decide +kernel
theorem dX1_init_4 : decode cX1_init 4 = .ok (.aload_n 0, 1) := by decide +kernel
theorem dX1_init_5 : decode cX1_init 5 = .ok (.new 9, 3) := by decide +kernel
theorem dX1_init_8 : decode cX1_init 8 = .ok (.dup, 1) := by decide +kernel
theorem dX1_init_9 : decode cX1_init 9 = .ok (.iload_n 1, 1) := by decide +kernel
theorem dX1_init_10 : decode cX1_init 10 = .ok (.invokespecial 11, 3) := by decide +kernel
theorem dX1_init_13 : decode cX1_init 13 = .ok (.putfield 14, 3) := by decide +kernel
theorem dX1_init_16 : decode cX1_init 16 = .ok (.aload_n 0, 1) := by decide +kernel
theorem dX1_init_17 : decode cX1_init 17 = .ok (.new 9, 3) := by decide +kernel
theorem dX1_init_20 : decode cX1_init 20 = .ok (.dup, 1) := by decide +kernel
theorem dX1_init_21 : decode cX1_init 21 = .ok (.iload_n 1, 1) := by decide +kernel
theorem dX1_init_22 : decode cX1_init 22 = .ok (.invokespecial 11, 3) := by decide +kernel
theorem dX1_init_25 : decode cX1_init 25 = .ok (.putfield 20, 3) := by decide +kernel
theorem dX1_init_28 : decode cX1_init 28 = .ok (.aload_n 0, 1) := by decide +kernel
theorem dX1_init_29 : decode cX1_init 29 = .ok (.new 9, 3) := by decide +kernel
theorem dX1_init_32 : decode cX1_init 32 = .ok (.dup, 1) := by decide +kernel
theorem dX1_init_33 : decode cX1_init 33 = .ok (.iload_n 1, 1) := by decide +kernel
theorem dX1_init_34 : decode cX1_init 34 = .ok (.invokespecial 11, 3) := by decide +kernel
theorem dX1_init_37 : decode cX1_init 37 = .ok (.putfield 23, 3) := by decide +kernel
theorem dX1_init_40 : decode cX1_init 40 = .ok (.aload_n 0, 1) := by decide +kernel
theorem dX1_init_41 : decode cX1_init 41 = .ok (.new 9, 3) := by decide +kernel
theorem dX1_init_44 : decode cX1_init 44 = .ok (.dup, 1) := by decide +kernel
theorem dX1_init_45 : decode cX1_init 45 = .ok (.iload_n 1, 1) := by decide +kernel
theorem dX1_init_46 : decode cX1_init 46 = .ok (.bipush 8, 2) := by decide +kernel
theorem dX1_init_48 : decode cX1_init 48 = .ok (.imul, 1) := by decide +kernel
theorem dX1_init_49 : decode cX1_init 49 = .ok (.invokespecial 11, 3) := by decide +kernel
theorem dX1_init_52 : decode cX1_init 52 = .ok (.putfield 26, 3) := by decide +kernel
theorem dX1_init_55 : decode cX1_init 55 = .ok (.aload_n 0, 1) := by decide +kernel
theorem dX1_init_56 : decode cX1_init 56 = .ok (.new 9, 3) := by decide +kernel
theorem dX1_init_59 : decode cX1_init 59 = .ok (.dup, 1) := by decide +kernel
theorem dX1_init_60 : decode cX1_init 60 = .ok (.iload_n 1, 1) := by decide +kernel
theorem dX1_init_61 : decode cX1_init 61 = .ok (.bipush 8, 2) := by decide +kernel
theorem dX1_init_63 : decode cX1_init 63 = .ok (.imul, 1) := by decide +kernel
theorem dX1_init_64 : decode cX1_init 64 = .ok (.invokespecial 11, 3) := by decide +kernel
theorem dX1_init_67 : decode cX1_init 67 = .ok (.putfield 29, 3) := by decide +kernel
theorem dX1_init_70 : decode cX1_init 70 = .ok (.return_, 1) := by decide +kernel
set_option maxRecDepth 20000 in
theorem ggX1_clear_X5_fill : GoodIn wsX1_clear wsX5_fill := goodIn_r _ [6, 7, 13] (by decide +kernel) (by decide +kernel)
set_option maxRecDepth 20000 in
theorem gX1_clear_X5_fill : GoodIn wsX1_clear (wsV RX1 32 RX5 yX5_fill wsX5_fill) := goodIn_app (goodIn_of _ (by decide +kernel)) ggX1_clear_X5_fill
theorem dX1_clear_0 : decode cX1_clear 0 = .ok (.aload_n 0, 1) := by decide +kernel
theorem dX1_clear_1 : decode cX1_clear 1 = .ok (.getfield 14, 3) := by decide +kernel
theorem dX1_clear_4 : decode cX1_clear 4 = .ok (.iconst 0, 1) := by decide +kernel
theorem dX1_clear_5 : decode cX1_clear 5 = .ok (.invokevirtual 32, 3) := by decide +kernel
theorem dX1_clear_8 : decode cX1_clear 8 = .ok (.return_, 1) := by decide +kernel
set_option maxRecDepth 20000 in
theorem ggX1_empty_X5_set : GoodIn wsX1_empty wsX5_set := goodIn_r _ [6, 7, 13] (by decide +kernel) (by decide +kernel)
set_option maxRecDepth 20000 in
theorem gX1_empty_X5_set : GoodIn wsX1_empty (wsV RX1 35 RX5 yX5_set wsX5_set) := goodIn_app (goodIn_of _ (by decide +kernel)) ggX1_empty_X5_set
theorem dX1_empty_0 : decode cX1_empty 0 = .ok (.aload_n 0, 1) := by decide +kernel
theorem dX1_empty_1 : decode cX1_empty 1 = .ok (.getfield 14, 3) := by decide +kernel
theorem dX1_empty_4 : decode cX1_empty 4 = .ok (.iload_n 1, 1) := by decide +kernel
theorem dX1_empty_5 : decode cX1_empty 5 = .ok (.iconst 0, 1) := by decide +kernel
theorem dX1_empty_6 : decode cX1_empty 6 = .ok (.invokevirtual 35, 3) := by decide +kernel
theorem dX1_empty_9 : decode cX1_empty 9 = .ok (.return_, 1) := by decide +kernel
set_option maxRecDepth 20000 in
theorem ggX1_start_X1_empty : GoodIn wsX1_start wsX1_empty := goodIn_r _ [7, 8, 9, 10, 11, 12, 13, 14, 15, 16, 17, 18, 19, 20] (by decide +kernel) (by decide +kernel)
set_option maxRecDepth 20000 in
theorem gX1_start_X1_empty : GoodIn wsX1_start (wsV RX1 39 RX1 yX1_empty wsX1_empty) := goodIn_app (goodIn_of _ (by decide +kernel)) ggX1_start_X1_empty
set_option maxRecDepth 20000 in
theorem ggX1_start_X5_set : GoodIn wsX1_start wsX5_set := goodIn_r _ [13, 14, 20] (by decide +kernel) (by decide +kernel)
set_option maxRecDepth 20000 in
theorem gX1_start_X5_set : GoodIn wsX1_start (wsV RX1 35 RX5 yX5_set wsX5_set) := goodIn_app (goodIn_of _ (by decide +kernel)) ggX1_start_X5_set
theorem dX1_start_0 : decode cX1_start 0 = .ok (.aload_n 0, 1) := by decide +kernel
theorem dX1_start_1 : decode cX1_start 1 = .ok (.iload_n 1, 1) := by decide +kernel
theorem dX1_start_2 : decode cX1_start 2 = .ok (.invokevirtual 39, 3) := by decide +kernel
theorem dX1_start_5 : decode cX1_start 5 = .ok (.aload_n 0, 1) := by decide +kernel
theorem dX1_start_6 : decode cX1_start 6 = .ok (.getfield 20, 3) := by decide +kernel
theorem dX1_start_9 : decode cX1_start 9 = .ok (.iload_n 1, 1) := by decide +kernel
theorem dX1_start_10 : decode cX1_start 10 = .ok (.iload_n 2, 1) := by decide +kernel
theorem dX1_start_11 : decode cX1_start 11 = .ok (.invokevirtual 35, 3) := by decide +kernel
theorem dX1_start_14 : decode cX1_start 14 = .ok (.aload_n 0, 1) := by decide +kernel
theorem dX1_start_15 : decode cX1_start 15 = .ok (.getfield 23, 3) := by decide +kernel
theorem dX1_start_18 : decode cX1_start 18 = .ok (.iload_n 1, 1) := by decide +kernel
theorem dX1_start_19 : decode cX1_start 19 = .ok (.iload_n 3, 1) := by decide +kernel
theorem dX1_start_20 : decode cX1_start 20 = .ok (.invokevirtual 35, 3) := by decide +kernel
theorem dX1_start_23 : decode cX1_start 23 = .ok (.return_, 1) := by decide +kernel
set_option maxRecDepth 20000 in
theorem ggX1_addPoint_X5_get : GoodIn wsX1_addPoint wsX5_get := goodIn_r _ [8, 9, 19] (by decide +kernel) (by decide +kernel)
set_option maxRecDepth 20000 in
theorem gX1_addPoint_X5_get : GoodIn wsX1_addPoint (wsV RX1 42 RX5 yX5_get wsX5_get) := goodIn_app (goodIn_of _ (by decide +kernel)) ggX1_addPoint_X5_get
set_option maxRecDepth 20000 in
theorem ggX1_addPoint_X5_set : GoodIn wsX1_addPoint wsX5_set := goodIn_r _ [13, 9, 19] (by decide +kernel) (by decide +kernel)
set_option maxRecDepth 20000 in
theorem gX1_addPoint_X5_set : GoodIn wsX1_addPoint (wsV RX1 35 RX5 yX5_set wsX5_set) := goodIn_app (goodIn_of _ (by decide +kernel)) ggX1_addPoint_X5_set
theorem dX1_addPoint_0 : decode cX1_addPoint 0 = .ok (.aload_n 0, 1) := by decide +kernel
theorem dX1_addPoint_1 : decode cX1_addPoint 1 = .ok (.getfield 14, 3) := by decide +kernel
theorem dX1_addPoint_4 : decode cX1_addPoint 4 = .ok (.iload_n 1, 1) := by decide +kernel
theorem dX1_addPoint_5 : decode cX1_addPoint 5 = .ok (.invokevirtual 42, 3) := by decide +kernel
theorem dX1_addPoint_8 : decode cX1_addPoint 8 = .ok (.istore 4, 2) := by decide +kernel
theorem dX1_addPoint_10 : decode cX1_addPoint 10 = .ok (.iload 4, 2) := by decide +kernel
theorem dX1_addPoint_12 : decode cX1_addPoint 12 = .ok (.bipush 8, 2) := by decide +kernel
theorem dX1_addPoint_14 : decode cX1_addPoint 14 = .ok (.if_icmp .ge 45, 3) := by decide +kernel
theorem dX1_addPoint_17 : decode cX1_addPoint 17 = .ok (.aload_n 0, 1) := by decide +kernel
theorem dX1_addPoint_18 : decode cX1_addPoint 18 = .ok (.getfield 26, 3) := by decide +kernel
theorem dX1_addPoint_21 : decode cX1_addPoint 21 = .ok (.iload_n 1, 1) := by decide +kernel
theorem dX1_addPoint_22 : decode cX1_addPoint 22 = .ok (.bipush 8, 2) := by decide +kernel
theorem dX1_addPoint_24 : decode cX1_addPoint 24 = .ok (.imul, 1) := by decide +kernel
theorem dX1_addPoint_25 : decode cX1_addPoint 25 = .ok (.iload 4, 2) := by decide +kernel
theorem dX1_addPoint_27 : decode cX1_addPoint 27 = .ok (.iadd, 1) := by decide +kernel
theorem dX1_addPoint_28 : decode cX1_addPoint 28 = .ok (.iload_n 2, 1) := by decide +kernel
theorem dX1_addPoint_29 : decode cX1_addPoint 29 = .ok (.invokevirtual 35, 3) := by decide +kernel
theorem dX1_addPoint_32 : decode cX1_addPoint 32 = .ok (.aload_n 0, 1) := by decide +kernel
theorem dX1_addPoint_33 : decode cX1_addPoint 33 = .ok (.getfield 29, 3) := by decide +kernel
theorem dX1_addPoint_36 : decode cX1_addPoint 36 = .ok (.iload_n 1, 1) := by decide +kernel
theorem dX1_addPoint_37 : decode cX1_addPoint 37 = .ok (.bipush 8, 2) := by decide +kernel
theorem dX1_addPoint_39 : decode cX1_addPoint 39 = .ok (.imul, 1) := by decide +kernel
theorem dX1_addPoint_40 : decode cX1_addPoint 40 = .ok (.iload 4, 2) := by decide +kernel
theorem dX1_addPoint_42 : decode cX1_addPoint 42 = .ok (.iadd, 1) := by decide +kernel
theorem dX1_addPoint_43 : decode cX1_addPoint 43 = .ok (.iload_n 3, 1) := by decide +kernel
theorem dX1_addPoint_44 : decode cX1_addPoint 44 = .ok (.invokevirtual 35, 3) := by decide +kernel
theorem dX1_addPoint_47 : decode cX1_addPoint 47 = .ok (.aload_n 0, 1) := by decide +kernel
theorem dX1_addPoint_48 : decode cX1_addPoint 48 = .ok (.getfield 14, 3) := by decide +kernel
theorem dX1_addPoint_51 : decode cX1_addPoint 51 = .ok (.iload_n 1, 1) := by decide +kernel
theorem dX1_addPoint_52 : decode cX1_addPoint 52 = .ok (.iload 4, 2) := by decide +kernel
theorem dX1_addPoint_54 : decode cX1_addPoint 54 = .ok (.iconst 1, 1) := by decide +kernel
theorem dX1_addPoint_55 : decode cX1_addPoint 55 = .ok (.iadd, 1) := by decide +kernel
theorem dX1_addPoint_56 : decode cX1_addPoint 56 = .ok (.invokevirtual 35, 3) := by decide +kernel
theorem dX1_addPoint_59 : decode cX1_addPoint 59 = .ok (.return_, 1) := by decide +kernel
set_option maxRecDepth 20000 in
theorem ggX1_copyFrom_X1_pointCount : GoodIn wsX1_copyFrom wsX1_pointCount := goodIn_r _ [5, 6, 7, 8, 9, 10, 11, 12, 49, 50, 51, 52, 53, 54] (by decide +kernel) (by decide +kernel)
set_option maxRecDepth 20000 in
theorem gX1_copyFrom_X1_pointCount : GoodIn wsX1_copyFrom (wsV RX1 46 RX1 yX1_pointCount wsX1_pointCount) := goodIn_app (goodIn_of _ (by decide +kernel)) ggX1_copyFrom_X1_pointCount
set_option maxRecDepth 20000 in
theorem ggX1_copyFrom_X1_colorOf : GoodIn wsX1_copyFrom wsX1_colorOf := goodIn_r _ [16, 17, 7, 8, 9, 10, 11, 12, 49, 50, 51, 52, 53, 54] (by decide +kernel) (by decide +kernel)
set_option maxRecDepth 20000 in
theorem gX1_copyFrom_X1_colorOf : GoodIn wsX1_copyFrom (wsV RX1 49 RX1 yX1_colorOf wsX1_colorOf) := goodIn_app (goodIn_of _ (by decide +kernel)) ggX1_copyFrom_X1_colorOf
set_option maxRecDepth 20000 in
theorem ggX1_copyFrom_X1_layerOf : GoodIn wsX1_copyFrom wsX1_layerOf := goodIn_r _ [21, 22, 7, 8, 9, 10, 11, 12, 49, 50, 51, 52, 53, 54] (by decide +kernel) (by decide +kernel)
set_option maxRecDepth 20000 in
theorem gX1_copyFrom_X1_layerOf : GoodIn wsX1_copyFrom (wsV RX1 52 RX1 yX1_layerOf wsX1_layerOf) := goodIn_app (goodIn_of _ (by decide +kernel)) ggX1_copyFrom_X1_layerOf
set_option maxRecDepth 20000 in
theorem ggX1_copyFrom_X1_start : GoodIn wsX1_copyFrom wsX1_start := goodIn_r _ [26, 17, 22, 27, 28, 29, 4, 30, 6, 31, 32, 33, 10, 34, 12, 49, 50, 51, 52, 53, 54] (by decide +kernel) (by decide +kernel)
set_option maxRecDepth 20000 in
theorem gX1_copyFrom_X1_start : GoodIn wsX1_copyFrom (wsV RX1 55 RX1 yX1_start wsX1_start) := goodIn_app (goodIn_of _ (by decide +kernel)) ggX1_copyFrom_X1_start
set_option maxRecDepth 20000 in
theorem ggX1_copyFrom_X1_xOf : GoodIn wsX1_copyFrom wsX1_xOf := goodIn_r _ [38, 39, 7, 8, 9, 10, 11, 12, 49, 50, 51, 52, 53, 54] (by decide +kernel) (by decide +kernel)
set_option maxRecDepth 20000 in
theorem gX1_copyFrom_X1_xOf : GoodIn wsX1_copyFrom (wsV RX1 59 RX1 yX1_xOf wsX1_xOf) := goodIn_app (goodIn_of _ (by decide +kernel)) ggX1_copyFrom_X1_xOf
set_option maxRecDepth 20000 in
theorem ggX1_copyFrom_X1_yOf : GoodIn wsX1_copyFrom wsX1_yOf := goodIn_r _ [43, 44, 7, 8, 9, 10, 11, 12, 49, 50, 51, 52, 53, 54] (by decide +kernel) (by decide +kernel)
set_option maxRecDepth 20000 in
theorem gX1_copyFrom_X1_yOf : GoodIn wsX1_copyFrom (wsV RX1 63 RX1 yX1_yOf wsX1_yOf) := goodIn_app (goodIn_of _ (by decide +kernel)) ggX1_copyFrom_X1_yOf
set_option maxRecDepth 20000 in
theorem ggX1_copyFrom_X1_addPoint : GoodIn wsX1_copyFrom wsX1_addPoint := goodIn_r _ [48, 6, 39, 44, 7, 8, 9, 10, 11, 12, 31, 32, 33, 34, 49, 50, 51, 52, 53, 54] (by decide +kernel) (by decide +kernel)
set_option maxRecDepth 20000 in
theorem gX1_copyFrom_X1_addPoint : GoodIn wsX1_copyFrom (wsV RX1 66 RX1 yX1_addPoint wsX1_addPoint) := goodIn_app (goodIn_of _ (by decide +kernel)) ggX1_copyFrom_X1_addPoint
theorem dX1_copyFrom_0 : decode cX1_copyFrom 0 = .ok (.aload_n 1, 1) := by decide +kernel
theorem dX1_copyFrom_1 : decode cX1_copyFrom 1 = .ok (.iload_n 2, 1) := by decide +kernel
theorem dX1_copyFrom_2 : decode cX1_copyFrom 2 = .ok (.invokevirtual 46, 3) := by decide +kernel
theorem dX1_copyFrom_5 : decode cX1_copyFrom 5 = .ok (.istore 4, 2) := by decide +kernel
theorem dX1_copyFrom_7 : decode cX1_copyFrom 7 = .ok (.aload_n 0, 1) := by decide +kernel
theorem dX1_copyFrom_8 : decode cX1_copyFrom 8 = .ok (.iload_n 3, 1) := by decide +kernel
theorem dX1_copyFrom_9 : decode cX1_copyFrom 9 = .ok (.aload_n 1, 1) := by decide +kernel
theorem dX1_copyFrom_10 : decode cX1_copyFrom 10 = .ok (.iload_n 2, 1) := by decide +kernel
theorem dX1_copyFrom_11 : decode cX1_copyFrom 11 = .ok (.invokevirtual 49, 3) := by decide +kernel
theorem dX1_copyFrom_14 : decode cX1_copyFrom 14 = .ok (.aload_n 1, 1) := by decide +kernel
theorem dX1_copyFrom_15 : decode cX1_copyFrom 15 = .ok (.iload_n 2, 1) := by decide +kernel
theorem dX1_copyFrom_16 : decode cX1_copyFrom 16 = .ok (.invokevirtual 52, 3) := by decide +kernel
theorem dX1_copyFrom_19 : decode cX1_copyFrom 19 = .ok (.invokevirtual 55, 3) := by decide +kernel
theorem dX1_copyFrom_22 : decode cX1_copyFrom 22 = .ok (.iconst 0, 1) := by decide +kernel
theorem dX1_copyFrom_23 : decode cX1_copyFrom 23 = .ok (.istore 5, 2) := by decide +kernel
theorem dX1_copyFrom_25 : decode cX1_copyFrom 25 = .ok (.iload 5, 2) := by decide +kernel
theorem dX1_copyFrom_27 : decode cX1_copyFrom 27 = .ok (.iload 4, 2) := by decide +kernel
theorem dX1_copyFrom_29 : decode cX1_copyFrom 29 = .ok (.if_icmp .ge 28, 3) := by decide +kernel
theorem dX1_copyFrom_32 : decode cX1_copyFrom 32 = .ok (.aload_n 0, 1) := by decide +kernel
theorem dX1_copyFrom_33 : decode cX1_copyFrom 33 = .ok (.iload_n 3, 1) := by decide +kernel
theorem dX1_copyFrom_34 : decode cX1_copyFrom 34 = .ok (.aload_n 1, 1) := by decide +kernel
theorem dX1_copyFrom_35 : decode cX1_copyFrom 35 = .ok (.iload_n 2, 1) := by decide +kernel
theorem dX1_copyFrom_36 : decode cX1_copyFrom 36 = .ok (.iload 5, 2) := by decide +kernel
theorem dX1_copyFrom_38 : decode cX1_copyFrom 38 = .ok (.invokevirtual 59, 3) := by decide +kernel
theorem dX1_copyFrom_41 : decode cX1_copyFrom 41 = .ok (.aload_n 1, 1) := by decide +kernel
theorem dX1_copyFrom_42 : decode cX1_copyFrom 42 = .ok (.iload_n 2, 1) := by decide +kernel
theorem dX1_copyFrom_43 : decode cX1_copyFrom 43 = .ok (.iload 5, 2) := by decide +kernel
theorem dX1_copyFrom_45 : decode cX1_copyFrom 45 = .ok (.invokevirtual 63, 3) := by decide +kernel
theorem dX1_copyFrom_48 : decode cX1_copyFrom 48 = .ok (.invokevirtual 66, 3) := by decide +kernel
theorem dX1_copyFrom_51 : decode cX1_copyFrom 51 = .ok (.iinc 5 1, 3) := by decide +kernel
theorem dX1_copyFrom_54 : decode cX1_copyFrom 54 = .ok (.goto (-29), 3) := by decide +kernel
theorem dX1_copyFrom_57 : decode cX1_copyFrom 57 = .ok (.return_, 1) := by decide +kernel
set_option maxRecDepth 20000 in
theorem ggX1_pointCount_X5_get : GoodIn wsX1_pointCount wsX5_get := goodIn_r _ [6, 7, 13] (by decide +kernel) (by decide +kernel)
set_option maxRecDepth 20000 in
theorem gX1_pointCount_X5_get : GoodIn wsX1_pointCount (wsV RX1 42 RX5 yX5_get wsX5_get) := goodIn_app (goodIn_of _ (by decide +kernel)) ggX1_pointCount_X5_get
theorem dX1_pointCount_0 : decode cX1_pointCount 0 = .ok (.aload_n 0, 1) := by decide +kernel
theorem dX1_pointCount_1 : decode cX1_pointCount 1 = .ok (.getfield 14, 3) := by decide +kernel
theorem dX1_pointCount_4 : decode cX1_pointCount 4 = .ok (.iload_n 1, 1) := by decide +kernel
theorem dX1_pointCount_5 : decode cX1_pointCount 5 = .ok (.invokevirtual 42, 3) := by decide +kernel
theorem dX1_pointCount_8 : decode cX1_pointCount 8 = .ok (.ireturn, 1) := by decide +kernel
set_option maxRecDepth 20000 in
theorem ggX1_colorOf_X5_get : GoodIn wsX1_colorOf wsX5_get := goodIn_r _ [6, 7, 13] (by decide +kernel) (by decide +kernel)
set_option maxRecDepth 20000 in
theorem gX1_colorOf_X5_get : GoodIn wsX1_colorOf (wsV RX1 42 RX5 yX5_get wsX5_get) := goodIn_app (goodIn_of _ (by decide +kernel)) ggX1_colorOf_X5_get
theorem dX1_colorOf_0 : decode cX1_colorOf 0 = .ok (.aload_n 0, 1) := by decide +kernel
theorem dX1_colorOf_1 : decode cX1_colorOf 1 = .ok (.getfield 20, 3) := by decide +kernel
theorem dX1_colorOf_4 : decode cX1_colorOf 4 = .ok (.iload_n 1, 1) := by decide +kernel
theorem dX1_colorOf_5 : decode cX1_colorOf 5 = .ok (.invokevirtual 42, 3) := by decide +kernel
theorem dX1_colorOf_8 : decode cX1_colorOf 8 = .ok (.ireturn, 1) := by decide +kernel
set_option maxRecDepth 20000 in
theorem ggX1_layerOf_X5_get : GoodIn wsX1_layerOf wsX5_get := goodIn_r _ [6, 7, 13] (by decide +kernel) (by decide +kernel)
set_option maxRecDepth 20000 in
theorem gX1_layerOf_X5_get : GoodIn wsX1_layerOf (wsV RX1 42 RX5 yX5_get wsX5_get) := goodIn_app (goodIn_of _ (by decide +kernel)) ggX1_layerOf_X5_get
theorem dX1_layerOf_0 : decode cX1_layerOf 0 = .ok (.aload_n 0, 1) := by decide +kernel
theorem dX1_layerOf_1 : decode cX1_layerOf 1 = .ok (.getfield 23, 3) := by decide +kernel
theorem dX1_layerOf_4 : decode cX1_layerOf 4 = .ok (.iload_n 1, 1) := by decide +kernel
theorem dX1_layerOf_5 : decode cX1_layerOf 5 = .ok (.invokevirtual 42, 3) := by decide +kernel
theorem dX1_layerOf_8 : decode cX1_layerOf 8 = .ok (.ireturn, 1) := by decide +kernel
set_option maxRecDepth 20000 in
theorem ggX1_xOf_X5_get : GoodIn wsX1_xOf wsX5_get := goodIn_r _ [6, 7, 13] (by decide +kernel) (by decide +kernel)
set_option maxRecDepth 20000 in
theorem gX1_xOf_X5_get : GoodIn wsX1_xOf (wsV RX1 42 RX5 yX5_get wsX5_get) := goodIn_app (goodIn_of _ (by decide +kernel)) ggX1_xOf_X5_get
theorem dX1_xOf_0 : decode cX1_xOf 0 = .ok (.aload_n 0, 1) := by decide +kernel
theorem dX1_xOf_1 : decode cX1_xOf 1 = .ok (.getfield 26, 3) := by decide +kernel
theorem dX1_xOf_4 : decode cX1_xOf 4 = .ok (.iload_n 1, 1) := by decide +kernel
theorem dX1_xOf_5 : decode cX1_xOf 5 = .ok (.bipush 8, 2) := by decide +kernel
theorem dX1_xOf_7 : decode cX1_xOf 7 = .ok (.imul, 1) := by decide +kernel
theorem dX1_xOf_8 : decode cX1_xOf 8 = .ok (.iload_n 2, 1) := by decide +kernel
theorem dX1_xOf_9 : decode cX1_xOf 9 = .ok (.iadd, 1) := by decide +kernel
theorem dX1_xOf_10 : decode cX1_xOf 10 = .ok (.invokevirtual 42, 3) := by decide +kernel
theorem dX1_xOf_13 : decode cX1_xOf 13 = .ok (.ireturn, 1) := by decide +kernel
set_option maxRecDepth 20000 in
theorem ggX1_yOf_X5_get : GoodIn wsX1_yOf wsX5_get := goodIn_r _ [6, 7, 13] (by decide +kernel) (by decide +kernel)
set_option maxRecDepth 20000 in
theorem gX1_yOf_X5_get : GoodIn wsX1_yOf (wsV RX1 42 RX5 yX5_get wsX5_get) := goodIn_app (goodIn_of _ (by decide +kernel)) ggX1_yOf_X5_get
theorem dX1_yOf_0 : decode cX1_yOf 0 = .ok (.aload_n 0, 1) := by decide +kernel
theorem dX1_yOf_1 : decode cX1_yOf 1 = .ok (.getfield 29, 3) := by decide +kernel
theorem dX1_yOf_4 : decode cX1_yOf 4 = .ok (.iload_n 1, 1) := by decide +kernel
theorem dX1_yOf_5 : decode cX1_yOf 5 = .ok (.bipush 8, 2) := by decide +kernel
theorem dX1_yOf_7 : decode cX1_yOf 7 = .ok (.imul, 1) := by decide +kernel
theorem dX1_yOf_8 : decode cX1_yOf 8 = .ok (.iload_n 2, 1) := by decide +kernel
theorem dX1_yOf_9 : decode cX1_yOf 9 = .ok (.iadd, 1) := by decide +kernel
theorem dX1_yOf_10 : decode cX1_yOf 10 = .ok (.invokevirtual 42, 3) := by decide +kernel
theorem dX1_yOf_13 : decode cX1_yOf 13 = .ok (.ireturn, 1) := by decide +kernel
set_option maxRecDepth 20000 in
theorem ggX1_hasPoint_X5_get : GoodIn wsX1_hasPoint wsX5_get := goodIn_r _ [6, 7, 24] (by decide +kernel) (by decide +kernel)
set_option maxRecDepth 20000 in
theorem gX1_hasPoint_X5_get : GoodIn wsX1_hasPoint (wsV RX1 42 RX5 yX5_get wsX5_get) := goodIn_app (goodIn_of _ (by decide +kernel)) ggX1_hasPoint_X5_get
set_option maxRecDepth 20000 in
theorem ggX1_hasPoint_X1_xOf : GoodIn wsX1_hasPoint wsX1_xOf := goodIn_r _ [12, 13, 2, 3, 4, 5, 6, 7, 19, 20, 21, 22, 23, 24] (by decide +kernel) (by decide +kernel)
set_option maxRecDepth 20000 in
theorem gX1_hasPoint_X1_xOf : GoodIn wsX1_hasPoint (wsV RX1 59 RX1 yX1_xOf wsX1_xOf) := goodIn_app (goodIn_of _ (by decide +kernel)) ggX1_hasPoint_X1_xOf
set_option maxRecDepth 20000 in
theorem ggX1_hasPoint_X1_yOf : GoodIn wsX1_hasPoint wsX1_yOf := goodIn_r _ [17, 18, 2, 3, 4, 5, 6, 7, 19, 20, 21, 22, 23, 24] (by decide +kernel) (by decide +kernel)
set_option maxRecDepth 20000 in
theorem gX1_hasPoint_X1_yOf : GoodIn wsX1_hasPoint (wsV RX1 63 RX1 yX1_yOf wsX1_yOf) := goodIn_app (goodIn_of _ (by decide +kernel)) ggX1_hasPoint_X1_yOf
theorem dX1_hasPoint_0 : decode cX1_hasPoint 0 = .ok (.iconst 0, 1) := by decide +kernel
theorem dX1_hasPoint_1 : decode cX1_hasPoint 1 = .ok (.istore 4, 2) := by decide +kernel
theorem dX1_hasPoint_3 : decode cX1_hasPoint 3 = .ok (.iload 4, 2) := by decide +kernel
theorem dX1_hasPoint_5 : decode cX1_hasPoint 5 = .ok (.aload_n 0, 1) := by decide +kernel
theorem dX1_hasPoint_6 : decode cX1_hasPoint 6 = .ok (.getfield 14, 3) := by decide +kernel
theorem dX1_hasPoint_9 : decode cX1_hasPoint 9 = .ok (.iload_n 1, 1) := by decide +kernel
theorem dX1_hasPoint_10 : decode cX1_hasPoint 10 = .ok (.invokevirtual 42, 3) := by decide +kernel
theorem dX1_hasPoint_13 : decode cX1_hasPoint 13 = .ok (.if_icmp .ge 33, 3) := by decide +kernel
theorem dX1_hasPoint_16 : decode cX1_hasPoint 16 = .ok (.aload_n 0, 1) := by decide +kernel
theorem dX1_hasPoint_17 : decode cX1_hasPoint 17 = .ok (.iload_n 1, 1) := by decide +kernel
theorem dX1_hasPoint_18 : decode cX1_hasPoint 18 = .ok (.iload 4, 2) := by decide +kernel
theorem dX1_hasPoint_20 : decode cX1_hasPoint 20 = .ok (.invokevirtual 59, 3) := by decide +kernel
theorem dX1_hasPoint_23 : decode cX1_hasPoint 23 = .ok (.iload_n 2, 1) := by decide +kernel
theorem dX1_hasPoint_24 : decode cX1_hasPoint 24 = .ok (.if_icmp .ne 16, 3) := by decide +kernel
theorem dX1_hasPoint_27 : decode cX1_hasPoint 27 = .ok (.aload_n 0, 1) := by decide +kernel
theorem dX1_hasPoint_28 : decode cX1_hasPoint 28 = .ok (.iload_n 1, 1) := by decide +kernel
theorem dX1_hasPoint_29 : decode cX1_hasPoint 29 = .ok (.iload 4, 2) := by decide +kernel
theorem dX1_hasPoint_31 : decode cX1_hasPoint 31 = .ok (.invokevirtual 63, 3) := by decide +kernel
theorem dX1_hasPoint_34 : decode cX1_hasPoint 34 = .ok (.iload_n 3, 1) := by decide +kernel
theorem dX1_hasPoint_35 : decode cX1_hasPoint 35 = .ok (.if_icmp .ne 5, 3) := by decide +kernel
theorem dX1_hasPoint_38 : decode cX1_hasPoint 38 = .ok (.iconst 1, 1) := by decide +kernel
theorem dX1_hasPoint_39 : decode cX1_hasPoint 39 = .ok (.ireturn, 1) := by decide +kernel
theorem dX1_hasPoint_40 : decode cX1_hasPoint 40 = .ok (.iinc 4 1, 3) := by decide +kernel
theorem dX1_hasPoint_43 : decode cX1_hasPoint 43 = .ok (.goto (-40), 3) := by decide +kernel
theorem dX1_hasPoint_46 : decode cX1_hasPoint 46 = .ok (.iconst 0, 1) := by decide +kernel
theorem dX1_hasPoint_47 : decode cX1_hasPoint 47 = .ok (.ireturn, 1) := by decide +kernel
set_option maxRecDepth 20000 in
theorem ggX1_sizeOf_X5_get : GoodIn wsX1_sizeOf wsX5_get := goodIn_r _ [6, 7, 27] (by decide +kernel) (by decide +kernel)
set_option maxRecDepth 20000 in
theorem gX1_sizeOf_X5_get : GoodIn wsX1_sizeOf (wsV RX1 42 RX5 yX5_get wsX5_get) := goodIn_app (goodIn_of _ (by decide +kernel)) ggX1_sizeOf_X5_get
set_option maxRecDepth 20000 in
theorem ggX1_sizeOf_X1_xOf : GoodIn wsX1_sizeOf wsX1_xOf := goodIn_r _ [12, 13, 2, 3, 4, 5, 6, 7, 22, 23, 24, 25, 26, 27] (by decide +kernel) (by decide +kernel)
set_option maxRecDepth 20000 in
theorem gX1_sizeOf_X1_xOf : GoodIn wsX1_sizeOf (wsV RX1 59 RX1 yX1_xOf wsX1_xOf) := goodIn_app (goodIn_of _ (by decide +kernel)) ggX1_sizeOf_X1_xOf
set_option maxRecDepth 20000 in
theorem ggX1_sizeOf_X6_isWithin : GoodIn wsX1_sizeOf wsX6_isWithin := goodIn_r _ [16] (by decide +kernel) (by decide +kernel)
set_option maxRecDepth 20000 in
theorem gX1_sizeOf_X6_isWithin_n69 : GoodIn wsX1_sizeOf (wsX6_isWithin) := ggX1_sizeOf_X6_isWithin
set_option maxRecDepth 20000 in
theorem ggX1_sizeOf_X1_yOf : GoodIn wsX1_sizeOf wsX1_yOf := goodIn_r _ [20, 21, 2, 3, 4, 5, 6, 7, 22, 23, 24, 25, 26, 27] (by decide +kernel) (by decide +kernel)
set_option maxRecDepth 20000 in
theorem gX1_sizeOf_X1_yOf : GoodIn wsX1_sizeOf (wsV RX1 63 RX1 yX1_yOf wsX1_yOf) := goodIn_app (goodIn_of _ (by decide +kernel)) ggX1_sizeOf_X1_yOf
theorem dX1_sizeOf_0 : decode cX1_sizeOf 0 = .ok (.iconst 4, 1) := by decide +kernel
theorem dX1_sizeOf_1 : decode cX1_sizeOf 1 = .ok (.istore_n 2, 1) := by decide +kernel
theorem dX1_sizeOf_2 : decode cX1_sizeOf 2 = .ok (.iconst 1, 1) := by decide +kernel
theorem dX1_sizeOf_3 : decode cX1_sizeOf 3 = .ok (.istore_n 3, 1) := by decide +kernel
theorem dX1_sizeOf_4 : decode cX1_sizeOf 4 = .ok (.iload_n 3, 1) := by decide +kernel
theorem dX1_sizeOf_5 : decode cX1_sizeOf 5 = .ok (.aload_n 0, 1) := by decide +kernel
theorem dX1_sizeOf_6 : decode cX1_sizeOf 6 = .ok (.getfield 14, 3) := by decide +kernel
theorem dX1_sizeOf_9 : decode cX1_sizeOf 9 = .ok (.iload_n 1, 1) := by decide +kernel
theorem dX1_sizeOf_10 : decode cX1_sizeOf 10 = .ok (.invokevirtual 42, 3) := by decide +kernel
theorem dX1_sizeOf_13 : decode cX1_sizeOf 13 = .ok (.if_icmp .ge 77, 3) := by decide +kernel
theorem dX1_sizeOf_16 : decode cX1_sizeOf 16 = .ok (.aload_n 0, 1) := by decide +kernel
theorem dX1_sizeOf_17 : decode cX1_sizeOf 17 = .ok (.iload_n 1, 1) := by decide +kernel
theorem dX1_sizeOf_18 : decode cX1_sizeOf 18 = .ok (.iload_n 3, 1) := by decide +kernel
theorem dX1_sizeOf_19 : decode cX1_sizeOf 19 = .ok (.invokevirtual 59, 3) := by decide +kernel
theorem dX1_sizeOf_22 : decode cX1_sizeOf 22 = .ok (.aload_n 0, 1) := by decide +kernel
theorem dX1_sizeOf_23 : decode cX1_sizeOf 23 = .ok (.iload_n 1, 1) := by decide +kernel
theorem dX1_sizeOf_24 : decode cX1_sizeOf 24 = .ok (.iload_n 3, 1) := by decide +kernel
theorem dX1_sizeOf_25 : decode cX1_sizeOf 25 = .ok (.iconst 1, 1) := by decide +kernel
theorem dX1_sizeOf_26 : decode cX1_sizeOf 26 = .ok (.isub, 1) := by decide +kernel
theorem dX1_sizeOf_27 : decode cX1_sizeOf 27 = .ok (.invokevirtual 59, 3) := by decide +kernel
theorem dX1_sizeOf_30 : decode cX1_sizeOf 30 = .ok (.isub, 1) := by decide +kernel
theorem dX1_sizeOf_31 : decode cX1_sizeOf 31 = .ok (.bipush (-4), 2) := by decide +kernel
theorem dX1_sizeOf_33 : decode cX1_sizeOf 33 = .ok (.iconst 3, 1) := by decide +kernel
theorem dX1_sizeOf_34 : decode cX1_sizeOf 34 = .ok (.invokestatic 69, 3) := by decide +kernel
theorem dX1_sizeOf_37 : decode cX1_sizeOf 37 = .ok (.ifCond .eq 31, 3) := by decide +kernel
theorem dX1_sizeOf_40 : decode cX1_sizeOf 40 = .ok (.aload_n 0, 1) := by decide +kernel
theorem dX1_sizeOf_41 : decode cX1_sizeOf 41 = .ok (.iload_n 1, 1) := by decide +kernel
theorem dX1_sizeOf_42 : decode cX1_sizeOf 42 = .ok (.iload_n 3, 1) := by decide +kernel
theorem dX1_sizeOf_43 : decode cX1_sizeOf 43 = .ok (.invokevirtual 63, 3) := by decide +kernel
theorem dX1_sizeOf_46 : decode cX1_sizeOf 46 = .ok (.aload_n 0, 1) := by decide +kernel
theorem dX1_sizeOf_47 : decode cX1_sizeOf 47 = .ok (.iload_n 1, 1) := by decide +kernel
theorem dX1_sizeOf_48 : decode cX1_sizeOf 48 = .ok (.iload_n 3, 1) := by decide +kernel
theorem dX1_sizeOf_49 : decode cX1_sizeOf 49 = .ok (.iconst 1, 1) := by decide +kernel
theorem dX1_sizeOf_50 : decode cX1_sizeOf 50 = .ok (.isub, 1) := by decide +kernel
theorem dX1_sizeOf_51 : decode cX1_sizeOf 51 = .ok (.invokevirtual 63, 3) := by decide +kernel
theorem dX1_sizeOf_54 : decode cX1_sizeOf 54 = .ok (.isub, 1) := by decide +kernel
theorem dX1_sizeOf_55 : decode cX1_sizeOf 55 = .ok (.bipush (-4), 2) := by decide +kernel
theorem dX1_sizeOf_57 : decode cX1_sizeOf 57 = .ok (.iconst 3, 1) := by decide +kernel
theorem dX1_sizeOf_58 : decode cX1_sizeOf 58 = .ok (.invokestatic 69, 3) := by decide +kernel
theorem dX1_sizeOf_61 : decode cX1_sizeOf 61 = .ok (.ifCond .eq 7, 3) := by decide +kernel
theorem dX1_sizeOf_64 : decode cX1_sizeOf 64 = .ok (.iconst 1, 1) := by decide +kernel
theorem dX1_sizeOf_65 : decode cX1_sizeOf 65 = .ok (.goto 4, 3) := by decide +kernel
theorem dX1_sizeOf_68 : decode cX1_sizeOf 68 = .ok (.iconst 0, 1) := by decide +kernel
theorem dX1_sizeOf_69 : decode cX1_sizeOf 69 = .ok (.istore 4, 2) := by decide +kernel
theorem dX1_sizeOf_71 : decode cX1_sizeOf 71 = .ok (.iload_n 2, 1) := by decide +kernel
theorem dX1_sizeOf_72 : decode cX1_sizeOf 72 = .ok (.iload 4, 2) := by decide +kernel
theorem dX1_sizeOf_74 : decode cX1_sizeOf 74 = .ok (.ifCond .eq 7, 3) := by decide +kernel
theorem dX1_sizeOf_77 : decode cX1_sizeOf 77 = .ok (.iconst 1, 1) := by decide +kernel
theorem dX1_sizeOf_78 : decode cX1_sizeOf 78 = .ok (.goto 4, 3) := by decide +kernel
theorem dX1_sizeOf_81 : decode cX1_sizeOf 81 = .ok (.iconst 2, 1) := by decide +kernel
theorem dX1_sizeOf_82 : decode cX1_sizeOf 82 = .ok (.iadd, 1) := by decide +kernel
theorem dX1_sizeOf_83 : decode cX1_sizeOf 83 = .ok (.istore_n 2, 1) := by decide +kernel
theorem dX1_sizeOf_84 : decode cX1_sizeOf 84 = .ok (.iinc 3 1, 3) := by decide +kernel
theorem dX1_sizeOf_87 : decode cX1_sizeOf 87 = .ok (.goto (-83), 3) := by decide +kernel
theorem dX1_sizeOf_90 : decode cX1_sizeOf 90 = .ok (.iload_n 2, 1) := by decide +kernel
theorem dX1_sizeOf_91 : decode cX1_sizeOf 91 = .ok (.ireturn, 1) := by decide +kernel
set_option maxRecDepth 20000 in
theorem ggX2_init_X5_init : GoodIn wsX2_init wsX5_init := goodIn_r _ [10, 11, 2, 3, 12, 13, 14, 15, 16, 17, 18] (by decide +kernel) (by decide +kernel)
set_option maxRecDepth 20000 in
theorem gX2_init_X5_init : GoodIn wsX2_init (wsX5_init) := ggX2_init_X5_init
theorem dX2_init_0 : decode cX2_init 0 = .ok (.aload_n 0, 1) := by decide +kernel
theorem dX2_init_1 : decode cX2_init 1 = .ok (.invokespecial 3, 3) := by decide +kernel
theorem dX2_init_4 : decode cX2_init 4 = .ok (.aload_n 0, 1) := by decide +kernel
theorem dX2_init_5 : decode cX2_init 5 = .ok (.new 9, 3) := by decide +kernel
theorem dX2_init_8 : decode cX2_init 8 = .ok (.dup, 1) := by decide +kernel
theorem dX2_init_9 : decode cX2_init 9 = .ok (.sipush 500, 3) := by decide +kernel
theorem dX2_init_12 : decode cX2_init 12 = .ok (.invokespecial 11, 3) := by decide +kernel
theorem dX2_init_15 : decode cX2_init 15 = .ok (.putfield 14, 3) := by decide +kernel
theorem dX2_init_18 : decode cX2_init 18 = .ok (.return_, 1) := by decide +kernel
set_option maxRecDepth 20000 in
theorem ggX2_clear_X5_fill : GoodIn wsX2_clear wsX5_fill := goodIn_r _ [6, 7, 9] (by decide +kernel) (by decide +kernel)
set_option maxRecDepth 20000 in
theorem gX2_clear_X5_fill : GoodIn wsX2_clear (wsV RX2 20 RX5 yX5_fill wsX5_fill) := goodIn_app (goodIn_of _ (by decide +kernel)) ggX2_clear_X5_fill
theorem dX2_clear_0 : decode cX2_clear 0 = .ok (.aload_n 0, 1) := by decide +kernel
theorem dX2_clear_1 : decode cX2_clear 1 = .ok (.getfield 14, 3) := by decide +kernel
theorem dX2_clear_4 : decode cX2_clear 4 = .ok (.iconst 0, 1) := by decide +kernel
theorem dX2_clear_5 : decode cX2_clear 5 = .ok (.invokevirtual 20, 3) := by decide +kernel
theorem dX2_clear_8 : decode cX2_clear 8 = .ok (.return_, 1) := by decide +kernel
set_option maxRecDepth 20000 in
theorem ggX2_copyFrom_X5_copyFrom : GoodIn wsX2_copyFrom wsX5_copyFrom := goodIn_r _ [6, 7, 8, 9, 10, 5, 11, 13] (by decide +kernel) (by decide +kernel)
set_option maxRecDepth 20000 in
theorem gX2_copyFrom_X5_copyFrom : GoodIn wsX2_copyFrom (wsV RX2 23 RX5 yX5_copyFrom wsX5_copyFrom) := goodIn_app (goodIn_of _ (by decide +kernel)) ggX2_copyFrom_X5_copyFrom
theorem dX2_copyFrom_0 : decode cX2_copyFrom 0 = .ok (.aload_n 0, 1) := by decide +kernel
theorem dX2_copyFrom_1 : decode cX2_copyFrom 1 = .ok (.getfield 14, 3) := by decide +kernel
theorem dX2_copyFrom_4 : decode cX2_copyFrom 4 = .ok (.aload_n 1, 1) := by decide +kernel
theorem dX2_copyFrom_5 : decode cX2_copyFrom 5 = .ok (.getfield 14, 3) := by decide +kernel
theorem dX2_copyFrom_8 : decode cX2_copyFrom 8 = .ok (.invokevirtual 23, 3) := by decide +kernel
theorem dX2_copyFrom_11 : decode cX2_copyFrom 11 = .ok (.return_, 1) := by decide +kernel
set_option maxRecDepth 20000 in
theorem ggX2_learn_X5_set : GoodIn wsX2_learn wsX5_set := goodIn_r _ [6, 7, 9] (by decide +kernel) (by decide +kernel)
set_option maxRecDepth 20000 in
theorem gX2_learn_X5_set : GoodIn wsX2_learn (wsV RX2 27 RX5 yX5_set wsX5_set) := goodIn_app (goodIn_of _ (by decide +kernel)) ggX2_learn_X5_set
theorem dX2_learn_0 : decode cX2_learn 0 = .ok (.aload_n 0, 1) := by decide +kernel
theorem dX2_learn_1 : decode cX2_learn 1 = .ok (.getfield 14, 3) := by decide +kernel
theorem dX2_learn_4 : decode cX2_learn 4 = .ok (.iload_n 1, 1) := by decide +kernel
theorem dX2_learn_5 : decode cX2_learn 5 = .ok (.bipush 100, 2) := by decide +kernel
theorem dX2_learn_7 : decode cX2_learn 7 = .ok (.imul, 1) := by decide +kernel
theorem dX2_learn_8 : decode cX2_learn 8 = .ok (.iload_n 2, 1) := by decide +kernel
theorem dX2_learn_9 : decode cX2_learn 9 = .ok (.iadd, 1) := by decide +kernel
theorem dX2_learn_10 : decode cX2_learn 10 = .ok (.iconst 1, 1) := by decide +kernel
theorem dX2_learn_11 : decode cX2_learn 11 = .ok (.invokevirtual 27, 3) := by decide +kernel
theorem dX2_learn_14 : decode cX2_learn 14 = .ok (.return_, 1) := by decide +kernel
set_option maxRecDepth 20000 in
theorem ggX2_has_X5_get : GoodIn wsX2_has wsX5_get := goodIn_r _ [6, 7, 9] (by decide +kernel) (by decide +kernel)
set_option maxRecDepth 20000 in
theorem gX2_has_X5_get : GoodIn wsX2_has (wsV RX2 31 RX5 yX5_get wsX5_get) := goodIn_app (goodIn_of _ (by decide +kernel)) ggX2_has_X5_get
theorem dX2_has_0 : decode cX2_has 0 = .ok (.aload_n 0, 1) := by decide +kernel
theorem dX2_has_1 : decode cX2_has 1 = .ok (.getfield 14, 3) := by decide +kernel
theorem dX2_has_4 : decode cX2_has 4 = .ok (.iload_n 1, 1) := by decide +kernel
theorem dX2_has_5 : decode cX2_has 5 = .ok (.bipush 100, 2) := by decide +kernel
theorem dX2_has_7 : decode cX2_has 7 = .ok (.imul, 1) := by decide +kernel
theorem dX2_has_8 : decode cX2_has 8 = .ok (.iload_n 2, 1) := by decide +kernel
theorem dX2_has_9 : decode cX2_has 9 = .ok (.iadd, 1) := by decide +kernel
theorem dX2_has_10 : decode cX2_has 10 = .ok (.invokevirtual 31, 3) := by decide +kernel
theorem dX2_has_13 : decode cX2_has 13 = .ok (.iconst 1, 1) := by decide +kernel
theorem dX2_has_14 : decode cX2_has 14 = .ok (.if_icmp .ne 7, 3) := by decide +kernel
theorem dX2_has_17 : decode cX2_has 17 = .ok (.iconst 1, 1) := by decide +kernel
theorem dX2_has_18 : decode cX2_has 18 = .ok (.goto 4, 3) := by decide +kernel
theorem dX2_has_21 : decode cX2_has 21 = .ok (.iconst 0, 1) := by decide +kernel
theorem dX2_has_22 : decode cX2_has 22 = .ok (.ireturn, 1) := by decide +kernel
set_option maxRecDepth 20000 in
theorem ggX2_countOf_X2_has : GoodIn wsX2_countOf wsX2_has := goodIn_r _ [5, 6, 7, 8, 9, 10, 11, 12, 13, 14] (by decide +kernel) (by decide +kernel)
set_option maxRecDepth 20000 in
theorem gX2_countOf_X2_has : GoodIn wsX2_countOf (wsV RX2 35 RX2 yX2_has wsX2_has) := goodIn_app (goodIn_of _ (by decide +kernel)) ggX2_countOf_X2_has
theorem dX2_countOf_0 : decode cX2_countOf 0 = .ok (.iconst 0, 1) := by decide +kernel
theorem dX2_countOf_1 : decode cX2_countOf 1 = .ok (.istore_n 2, 1) := by decide +kernel
theorem dX2_countOf_2 : decode cX2_countOf 2 = .ok (.iconst 0, 1) := by decide +kernel
theorem dX2_countOf_3 : decode cX2_countOf 3 = .ok (.istore_n 3, 1) := by decide +kernel
theorem dX2_countOf_4 : decode cX2_countOf 4 = .ok (.iload_n 3, 1) := by decide +kernel
theorem dX2_countOf_5 : decode cX2_countOf 5 = .ok (.bipush 100, 2) := by decide +kernel
theorem dX2_countOf_7 : decode cX2_countOf 7 = .ok (.if_icmp .ge 26, 3) := by decide +kernel
theorem dX2_countOf_10 : decode cX2_countOf 10 = .ok (.iload_n 2, 1) := by decide +kernel
theorem dX2_countOf_11 : decode cX2_countOf 11 = .ok (.aload_n 0, 1) := by decide +kernel
theorem dX2_countOf_12 : decode cX2_countOf 12 = .ok (.iload_n 1, 1) := by decide +kernel
theorem dX2_countOf_13 : decode cX2_countOf 13 = .ok (.iload_n 3, 1) := by decide +kernel
theorem dX2_countOf_14 : decode cX2_countOf 14 = .ok (.invokevirtual 35, 3) := by decide +kernel
theorem dX2_countOf_17 : decode cX2_countOf 17 = .ok (.ifCond .eq 7, 3) := by decide +kernel
theorem dX2_countOf_20 : decode cX2_countOf 20 = .ok (.iconst 1, 1) := by decide +kernel
theorem dX2_countOf_21 : decode cX2_countOf 21 = .ok (.goto 4, 3) := by decide +kernel
theorem dX2_countOf_24 : decode cX2_countOf 24 = .ok (.iconst 0, 1) := by decide +kernel
theorem dX2_countOf_25 : decode cX2_countOf 25 = .ok (.iadd, 1) := by decide +kernel
theorem dX2_countOf_26 : decode cX2_countOf 26 = .ok (.istore_n 2, 1) := by decide +kernel
theorem dX2_countOf_27 : decode cX2_countOf 27 = .ok (.iinc 3 1, 3) := by decide +kernel
theorem dX2_countOf_30 : decode cX2_countOf 30 = .ok (.goto (-26), 3) := by decide +kernel
theorem dX2_countOf_33 : decode cX2_countOf 33 = .ok (.iload_n 2, 1) := by decide +kernel
theorem dX2_countOf_34 : decode cX2_countOf 34 = .ok (.ireturn, 1) := by decide +kernel
set_option maxRecDepth 20000 in
theorem ggX2_isInGap_X2_has : GoodIn wsX2_isInGap wsX2_has := goodIn_r _ [5, 6, 7, 8, 9, 10, 11, 12, 24, 25] (by decide +kernel) (by decide +kernel)
set_option maxRecDepth 20000 in
theorem gX2_isInGap_X2_has : GoodIn wsX2_isInGap (wsV RX2 35 RX2 yX2_has wsX2_has) := goodIn_app (goodIn_of _ (by decide +kernel)) ggX2_isInGap_X2_has
set_option maxRecDepth 20000 in
theorem ggX2_isInGap_X2_hasLaterOfAuthor : GoodIn wsX2_isInGap wsX2_hasLaterOfAuthor := goodIn_r _ [16, 17, 18, 19, 20, 21, 22, 23, 1, 2, 3, 4, 5, 6, 7, 8, 9, 10, 11, 12, 24, 25] (by decide +kernel) (by decide +kernel)
set_option maxRecDepth 20000 in
theorem gX2_isInGap_X2_hasLaterOfAuthor : GoodIn wsX2_isInGap (wsV RX2 39 RX2 yX2_hasLaterOfAuthor wsX2_hasLaterOfAuthor) := goodIn_app (goodIn_of _ (by decide +kernel)) ggX2_isInGap_X2_hasLaterOfAuthor
theorem dX2_isInGap_0 : decode cX2_isInGap 0 = .ok (.aload_n 0, 1) := by decide +kernel
theorem dX2_isInGap_1 : decode cX2_isInGap 1 = .ok (.iload_n 1, 1) := by decide +kernel
theorem dX2_isInGap_2 : decode cX2_isInGap 2 = .ok (.iload_n 2, 1) := by decide +kernel
theorem dX2_isInGap_3 : decode cX2_isInGap 3 = .ok (.invokevirtual 35, 3) := by decide +kernel
theorem dX2_isInGap_6 : decode cX2_isInGap 6 = .ok (.ifCond .ne 16, 3) := by decide +kernel
theorem dX2_isInGap_9 : decode cX2_isInGap 9 = .ok (.aload_n 0, 1) := by decide +kernel
theorem dX2_isInGap_10 : decode cX2_isInGap 10 = .ok (.iload_n 1, 1) := by decide +kernel
theorem dX2_isInGap_11 : decode cX2_isInGap 11 = .ok (.iload_n 2, 1) := by decide +kernel
theorem dX2_isInGap_12 : decode cX2_isInGap 12 = .ok (.invokevirtual 39, 3) := by decide +kernel
theorem dX2_isInGap_15 : decode cX2_isInGap 15 = .ok (.ifCond .eq 7, 3) := by decide +kernel
theorem dX2_isInGap_18 : decode cX2_isInGap 18 = .ok (.iconst 1, 1) := by decide +kernel
theorem dX2_isInGap_19 : decode cX2_isInGap 19 = .ok (.goto 4, 3) := by decide +kernel
theorem dX2_isInGap_22 : decode cX2_isInGap 22 = .ok (.iconst 0, 1) := by decide +kernel
theorem dX2_isInGap_23 : decode cX2_isInGap 23 = .ok (.ireturn, 1) := by decide +kernel
set_option maxRecDepth 20000 in
theorem ggX2_hasLaterOfAuthor_X6_authorOf : GoodIn wsX2_hasLaterOfAuthor wsX6_authorOf := goodIn_r _ [3] (by decide +kernel) (by decide +kernel)
set_option maxRecDepth 20000 in
theorem gX2_hasLaterOfAuthor_X6_authorOf_n42 : GoodIn wsX2_hasLaterOfAuthor (wsX6_authorOf) := ggX2_hasLaterOfAuthor_X6_authorOf
set_option maxRecDepth 20000 in
theorem ggX2_hasLaterOfAuthor_X6_numberOf : GoodIn wsX2_hasLaterOfAuthor wsX6_numberOf := goodIn_r _ [5] (by decide +kernel) (by decide +kernel)
set_option maxRecDepth 20000 in
theorem gX2_hasLaterOfAuthor_X6_numberOf_n45 : GoodIn wsX2_hasLaterOfAuthor (wsX6_numberOf) := ggX2_hasLaterOfAuthor_X6_numberOf
set_option maxRecDepth 20000 in
theorem ggX2_hasLaterOfAuthor_X6_idOf : GoodIn wsX2_hasLaterOfAuthor wsX6_idOf := goodIn_r _ [7] (by decide +kernel) (by decide +kernel)
set_option maxRecDepth 20000 in
theorem gX2_hasLaterOfAuthor_X6_idOf_n48 : GoodIn wsX2_hasLaterOfAuthor (wsX6_idOf) := ggX2_hasLaterOfAuthor_X6_idOf
set_option maxRecDepth 20000 in
theorem ggX2_hasLaterOfAuthor_X2_has : GoodIn wsX2_hasLaterOfAuthor wsX2_has := goodIn_r _ [12, 13, 14, 15, 16, 17, 18, 19, 20, 21] (by decide +kernel) (by decide +kernel)
set_option maxRecDepth 20000 in
theorem gX2_hasLaterOfAuthor_X2_has : GoodIn wsX2_hasLaterOfAuthor (wsV RX2 35 RX2 yX2_has wsX2_has) := goodIn_app (goodIn_of _ (by decide +kernel)) ggX2_hasLaterOfAuthor_X2_has
theorem dX2_hasLaterOfAuthor_0 : decode cX2_hasLaterOfAuthor 0 = .ok (.iload_n 2, 1) := by decide +kernel
theorem dX2_hasLaterOfAuthor_1 : decode cX2_hasLaterOfAuthor 1 = .ok (.invokestatic 42, 3) := by decide +kernel
theorem dX2_hasLaterOfAuthor_4 : decode cX2_hasLaterOfAuthor 4 = .ok (.istore_n 3, 1) := by decide +kernel
theorem dX2_hasLaterOfAuthor_5 : decode cX2_hasLaterOfAuthor 5 = .ok (.iload_n 2, 1) := by decide +kernel
theorem dX2_hasLaterOfAuthor_6 : decode cX2_hasLaterOfAuthor 6 = .ok (.invokestatic 45, 3) := by decide +kernel
theorem dX2_hasLaterOfAuthor_9 : decode cX2_hasLaterOfAuthor 9 = .ok (.iconst 1, 1) := by decide +kernel
theorem dX2_hasLaterOfAuthor_10 : decode cX2_hasLaterOfAuthor 10 = .ok (.iadd, 1) := by decide +kernel
theorem dX2_hasLaterOfAuthor_11 : decode cX2_hasLaterOfAuthor 11 = .ok (.istore 4, 2) := by decide +kernel
theorem dX2_hasLaterOfAuthor_13 : decode cX2_hasLaterOfAuthor 13 = .ok (.iload 4, 2) := by decide +kernel
theorem dX2_hasLaterOfAuthor_15 : decode cX2_hasLaterOfAuthor 15 = .ok (.bipush 20, 2) := by decide +kernel
theorem dX2_hasLaterOfAuthor_17 : decode cX2_hasLaterOfAuthor 17 = .ok (.if_icmp .gt 25, 3) := by decide +kernel
theorem dX2_hasLaterOfAuthor_20 : decode cX2_hasLaterOfAuthor 20 = .ok (.aload_n 0, 1) := by decide +kernel
theorem dX2_hasLaterOfAuthor_21 : decode cX2_hasLaterOfAuthor 21 = .ok (.iload_n 1, 1) := by decide +kernel
theorem dX2_hasLaterOfAuthor_22 : decode cX2_hasLaterOfAuthor 22 = .ok (.iload_n 3, 1) := by decide +kernel
theorem dX2_hasLaterOfAuthor_23 : decode cX2_hasLaterOfAuthor 23 = .ok (.iload 4, 2) := by decide +kernel
theorem dX2_hasLaterOfAuthor_25 : decode cX2_hasLaterOfAuthor 25 = .ok (.invokestatic 48, 3) := by decide +kernel
theorem dX2_hasLaterOfAuthor_28 : decode cX2_hasLaterOfAuthor 28 = .ok (.invokevirtual 35, 3) := by decide +kernel
theorem dX2_hasLaterOfAuthor_31 : decode cX2_hasLaterOfAuthor 31 = .ok (.ifCond .eq 5, 3) := by decide +kernel
theorem dX2_hasLaterOfAuthor_34 : decode cX2_hasLaterOfAuthor 34 = .ok (.iconst 1, 1) := by decide +kernel
theorem dX2_hasLaterOfAuthor_35 : decode cX2_hasLaterOfAuthor 35 = .ok (.ireturn, 1) := by decide +kernel
theorem dX2_hasLaterOfAuthor_36 : decode cX2_hasLaterOfAuthor 36 = .ok (.iinc 4 1, 3) := by decide +kernel
theorem dX2_hasLaterOfAuthor_39 : decode cX2_hasLaterOfAuthor 39 = .ok (.goto (-26), 3) := by decide +kernel
theorem dX2_hasLaterOfAuthor_42 : decode cX2_hasLaterOfAuthor 42 = .ok (.iconst 0, 1) := by decide +kernel
theorem dX2_hasLaterOfAuthor_43 : decode cX2_hasLaterOfAuthor 43 = .ok (.ireturn, 1) := by decide +kernel
set_option maxRecDepth 20000 in
theorem ggX3_init_X5_init : GoodIn wsX3_init wsX5_init := goodIn_r _ [11, 12, 2, 3, 13, 14, 15, 16, 17, 18, 19] (by decide +kernel) (by decide +kernel)
set_option maxRecDepth 20000 in
theorem gX3_init_X5_init : GoodIn wsX3_init (wsX5_init) := ggX3_init_X5_init
theorem dX3_init_0 : decode cX3_init 0 = .ok (.aload_n 0, 1) := by decide +kernel
theorem dX3_init_1 : decode cX3_init 1 = .ok (.invokespecial 3, 3) := by decide +kernel
theorem dX3_init_4 : decode cX3_init 4 = .ok (.aload_n 0, 1) := by decide +kernel
theorem dX3_init_5 : decode cX3_init 5 = .ok (.new 9, 3) := by decide +kernel
theorem dX3_init_8 : decode cX3_init 8 = .ok (.dup, 1) := by decide +kernel
theorem dX3_init_9 : decode cX3_init 9 = .ok (.bipush 25, 2) := by decide +kernel
theorem dX3_init_11 : decode cX3_init 11 = .ok (.invokespecial 11, 3) := by decide +kernel
theorem dX3_init_14 : decode cX3_init 14 = .ok (.putfield 14, 3) := by decide +kernel
theorem dX3_init_17 : decode cX3_init 17 = .ok (.aload_n 0, 1) := by decide +kernel
theorem dX3_init_18 : decode cX3_init 18 = .ok (.new 9, 3) := by decide +kernel
theorem dX3_init_21 : decode cX3_init 21 = .ok (.dup, 1) := by decide +kernel
theorem dX3_init_22 : decode cX3_init 22 = .ok (.sipush 250, 3) := by decide +kernel
theorem dX3_init_25 : decode cX3_init 25 = .ok (.invokespecial 11, 3) := by decide +kernel
theorem dX3_init_28 : decode cX3_init 28 = .ok (.putfield 20, 3) := by decide +kernel
theorem dX3_init_31 : decode cX3_init 31 = .ok (.return_, 1) := by decide +kernel
set_option maxRecDepth 20000 in
theorem ggX3_clear_X5_fill : GoodIn wsX3_clear wsX5_fill := goodIn_r _ [6, 7, 10] (by decide +kernel) (by decide +kernel)
set_option maxRecDepth 20000 in
theorem gX3_clear_X5_fill : GoodIn wsX3_clear (wsV RX3 23 RX5 yX5_fill wsX5_fill) := goodIn_app (goodIn_of _ (by decide +kernel)) ggX3_clear_X5_fill
theorem dX3_clear_0 : decode cX3_clear 0 = .ok (.aload_n 0, 1) := by decide +kernel
theorem dX3_clear_1 : decode cX3_clear 1 = .ok (.getfield 14, 3) := by decide +kernel
theorem dX3_clear_4 : decode cX3_clear 4 = .ok (.iconst 0, 1) := by decide +kernel
theorem dX3_clear_5 : decode cX3_clear 5 = .ok (.invokevirtual 23, 3) := by decide +kernel
theorem dX3_clear_8 : decode cX3_clear 8 = .ok (.return_, 1) := by decide +kernel
set_option maxRecDepth 20000 in
theorem ggX3_send_X5_get : GoodIn wsX3_send wsX5_get := goodIn_r _ [7, 8, 15] (by decide +kernel) (by decide +kernel)
set_option maxRecDepth 20000 in
theorem gX3_send_X5_get : GoodIn wsX3_send (wsV RX3 26 RX5 yX5_get wsX5_get) := goodIn_app (goodIn_of _ (by decide +kernel)) ggX3_send_X5_get
set_option maxRecDepth 20000 in
theorem ggX3_send_X5_set : GoodIn wsX3_send wsX5_set := goodIn_r _ [12, 8, 15] (by decide +kernel) (by decide +kernel)
set_option maxRecDepth 20000 in
theorem gX3_send_X5_set : GoodIn wsX3_send (wsV RX3 30 RX5 yX5_set wsX5_set) := goodIn_app (goodIn_of _ (by decide +kernel)) ggX3_send_X5_set
theorem dX3_send_0 : decode cX3_send 0 = .ok (.iload_n 1, 1) := by decide +kernel
theorem dX3_send_1 : decode cX3_send 1 = .ok (.iconst 5, 1) := by decide +kernel
theorem dX3_send_2 : decode cX3_send 2 = .ok (.imul, 1) := by decide +kernel
theorem dX3_send_3 : decode cX3_send 3 = .ok (.iload_n 2, 1) := by decide +kernel
theorem dX3_send_4 : decode cX3_send 4 = .ok (.iadd, 1) := by decide +kernel
theorem dX3_send_5 : decode cX3_send 5 = .ok (.istore 4, 2) := by decide +kernel
theorem dX3_send_7 : decode cX3_send 7 = .ok (.aload_n 0, 1) := by decide +kernel
theorem dX3_send_8 : decode cX3_send 8 = .ok (.getfield 14, 3) := by decide +kernel
theorem dX3_send_11 : decode cX3_send 11 = .ok (.iload 4, 2) := by decide +kernel
theorem dX3_send_13 : decode cX3_send 13 = .ok (.invokevirtual 26, 3) := by decide +kernel
theorem dX3_send_16 : decode cX3_send 16 = .ok (.istore 5, 2) := by decide +kernel
theorem dX3_send_18 : decode cX3_send 18 = .ok (.iload 5, 2) := by decide +kernel
theorem dX3_send_20 : decode cX3_send 20 = .ok (.bipush 10, 2) := by decide +kernel
theorem dX3_send_22 : decode cX3_send 22 = .ok (.if_icmp .ge 32, 3) := by decide +kernel
theorem dX3_send_25 : decode cX3_send 25 = .ok (.aload_n 0, 1) := by decide +kernel
theorem dX3_send_26 : decode cX3_send 26 = .ok (.getfield 20, 3) := by decide +kernel
theorem dX3_send_29 : decode cX3_send 29 = .ok (.iload 4, 2) := by decide +kernel
theorem dX3_send_31 : decode cX3_send 31 = .ok (.bipush 10, 2) := by decide +kernel
theorem dX3_send_33 : decode cX3_send 33 = .ok (.imul, 1) := by decide +kernel
theorem dX3_send_34 : decode cX3_send 34 = .ok (.iload 5, 2) := by decide +kernel
theorem dX3_send_36 : decode cX3_send 36 = .ok (.iadd, 1) := by decide +kernel
theorem dX3_send_37 : decode cX3_send 37 = .ok (.iload_n 3, 1) := by decide +kernel
theorem dX3_send_38 : decode cX3_send 38 = .ok (.invokevirtual 30, 3) := by decide +kernel
theorem dX3_send_41 : decode cX3_send 41 = .ok (.aload_n 0, 1) := by decide +kernel
theorem dX3_send_42 : decode cX3_send 42 = .ok (.getfield 14, 3) := by decide +kernel
theorem dX3_send_45 : decode cX3_send 45 = .ok (.iload 4, 2) := by decide +kernel
theorem dX3_send_47 : decode cX3_send 47 = .ok (.iload 5, 2) := by decide +kernel
theorem dX3_send_49 : decode cX3_send 49 = .ok (.iconst 1, 1) := by decide +kernel
theorem dX3_send_50 : decode cX3_send 50 = .ok (.iadd, 1) := by decide +kernel
theorem dX3_send_51 : decode cX3_send 51 = .ok (.invokevirtual 30, 3) := by decide +kernel
theorem dX3_send_54 : decode cX3_send 54 = .ok (.return_, 1) := by decide +kernel
set_option maxRecDepth 20000 in
theorem ggX3_countIn_X5_get : GoodIn wsX3_countIn wsX5_get := goodIn_r _ [6, 7, 10] (by decide +kernel) (by decide +kernel)
set_option maxRecDepth 20000 in
theorem gX3_countIn_X5_get : GoodIn wsX3_countIn (wsV RX3 26 RX5 yX5_get wsX5_get) := goodIn_app (goodIn_of _ (by decide +kernel)) ggX3_countIn_X5_get
theorem dX3_countIn_0 : decode cX3_countIn 0 = .ok (.aload_n 0, 1) := by decide +kernel
theorem dX3_countIn_1 : decode cX3_countIn 1 = .ok (.getfield 14, 3) := by decide +kernel
theorem dX3_countIn_4 : decode cX3_countIn 4 = .ok (.iload_n 1, 1) := by decide +kernel
theorem dX3_countIn_5 : decode cX3_countIn 5 = .ok (.iconst 5, 1) := by decide +kernel
theorem dX3_countIn_6 : decode cX3_countIn 6 = .ok (.imul, 1) := by decide +kernel
theorem dX3_countIn_7 : decode cX3_countIn 7 = .ok (.iload_n 2, 1) := by decide +kernel
theorem dX3_countIn_8 : decode cX3_countIn 8 = .ok (.iadd, 1) := by decide +kernel
theorem dX3_countIn_9 : decode cX3_countIn 9 = .ok (.invokevirtual 26, 3) := by decide +kernel
theorem dX3_countIn_12 : decode cX3_countIn 12 = .ok (.ireturn, 1) := by decide +kernel
set_option maxRecDepth 20000 in
theorem ggX3_messageIn_X5_get : GoodIn wsX3_messageIn wsX5_get := goodIn_r _ [6, 7, 10] (by decide +kernel) (by decide +kernel)
set_option maxRecDepth 20000 in
theorem gX3_messageIn_X5_get : GoodIn wsX3_messageIn (wsV RX3 26 RX5 yX5_get wsX5_get) := goodIn_app (goodIn_of _ (by decide +kernel)) ggX3_messageIn_X5_get
theorem dX3_messageIn_0 : decode cX3_messageIn 0 = .ok (.aload_n 0, 1) := by decide +kernel
theorem dX3_messageIn_1 : decode cX3_messageIn 1 = .ok (.getfield 20, 3) := by decide +kernel
theorem dX3_messageIn_4 : decode cX3_messageIn 4 = .ok (.iload_n 1, 1) := by decide +kernel
theorem dX3_messageIn_5 : decode cX3_messageIn 5 = .ok (.iconst 5, 1) := by decide +kernel
theorem dX3_messageIn_6 : decode cX3_messageIn 6 = .ok (.imul, 1) := by decide +kernel
theorem dX3_messageIn_7 : decode cX3_messageIn 7 = .ok (.iload_n 2, 1) := by decide +kernel
theorem dX3_messageIn_8 : decode cX3_messageIn 8 = .ok (.iadd, 1) := by decide +kernel
theorem dX3_messageIn_9 : decode cX3_messageIn 9 = .ok (.bipush 10, 2) := by decide +kernel
theorem dX3_messageIn_11 : decode cX3_messageIn 11 = .ok (.imul, 1) := by decide +kernel
theorem dX3_messageIn_12 : decode cX3_messageIn 12 = .ok (.iload_n 3, 1) := by decide +kernel
theorem dX3_messageIn_13 : decode cX3_messageIn 13 = .ok (.iadd, 1) := by decide +kernel
theorem dX3_messageIn_14 : decode cX3_messageIn 14 = .ok (.invokevirtual 26, 3) := by decide +kernel
theorem dX3_messageIn_17 : decode cX3_messageIn 17 = .ok (.ireturn, 1) := by decide +kernel
set_option maxRecDepth 20000 in
theorem ggX3_dropFirst_X5_get : GoodIn wsX3_dropFirst wsX5_get := goodIn_r _ [11, 12, 19] (by decide +kernel) (by decide +kernel)
set_option maxRecDepth 20000 in
theorem gX3_dropFirst_X5_get : GoodIn wsX3_dropFirst (wsV RX3 26 RX5 yX5_get wsX5_get) := goodIn_app (goodIn_of _ (by decide +kernel)) ggX3_dropFirst_X5_get
set_option maxRecDepth 20000 in
theorem ggX3_dropFirst_X5_set : GoodIn wsX3_dropFirst wsX5_set := goodIn_r _ [16, 12, 19] (by decide +kernel) (by decide +kernel)
set_option maxRecDepth 20000 in
theorem gX3_dropFirst_X5_set : GoodIn wsX3_dropFirst (wsV RX3 30 RX5 yX5_set wsX5_set) := goodIn_app (goodIn_of _ (by decide +kernel)) ggX3_dropFirst_X5_set
theorem dX3_dropFirst_0 : decode cX3_dropFirst 0 = .ok (.iload_n 1, 1) := by decide +kernel
theorem dX3_dropFirst_1 : decode cX3_dropFirst 1 = .ok (.iconst 5, 1) := by decide +kernel
theorem dX3_dropFirst_2 : decode cX3_dropFirst 2 = .ok (.imul, 1) := by decide +kernel
theorem dX3_dropFirst_3 : decode cX3_dropFirst 3 = .ok (.iload_n 2, 1) := by decide +kernel
theorem dX3_dropFirst_4 : decode cX3_dropFirst 4 = .ok (.iadd, 1) := by decide +kernel
theorem dX3_dropFirst_5 : decode cX3_dropFirst 5 = .ok (.istore_n 3, 1) := by decide +kernel
theorem dX3_dropFirst_6 : decode cX3_dropFirst 6 = .ok (.aload_n 0, 1) := by decide +kernel
theorem dX3_dropFirst_7 : decode cX3_dropFirst 7 = .ok (.getfield 14, 3) := by decide +kernel
theorem dX3_dropFirst_10 : decode cX3_dropFirst 10 = .ok (.iload_n 3, 1) := by decide +kernel
theorem dX3_dropFirst_11 : decode cX3_dropFirst 11 = .ok (.invokevirtual 26, 3) := by decide +kernel
theorem dX3_dropFirst_14 : decode cX3_dropFirst 14 = .ok (.iconst 1, 1) := by decide +kernel
theorem dX3_dropFirst_15 : decode cX3_dropFirst 15 = .ok (.isub, 1) := by decide +kernel
theorem dX3_dropFirst_16 : decode cX3_dropFirst 16 = .ok (.istore 4, 2) := by decide +kernel
theorem dX3_dropFirst_18 : decode cX3_dropFirst 18 = .ok (.iload_n 3, 1) := by decide +kernel
theorem dX3_dropFirst_19 : decode cX3_dropFirst 19 = .ok (.bipush 10, 2) := by decide +kernel
theorem dX3_dropFirst_21 : decode cX3_dropFirst 21 = .ok (.imul, 1) := by decide +kernel
theorem dX3_dropFirst_22 : decode cX3_dropFirst 22 = .ok (.istore 5, 2) := by decide +kernel
theorem dX3_dropFirst_24 : decode cX3_dropFirst 24 = .ok (.iconst 0, 1) := by decide +kernel
theorem dX3_dropFirst_25 : decode cX3_dropFirst 25 = .ok (.istore 6, 2) := by decide +kernel
theorem dX3_dropFirst_27 : decode cX3_dropFirst 27 = .ok (.iload 6, 2) := by decide +kernel
theorem dX3_dropFirst_29 : decode cX3_dropFirst 29 = .ok (.iload 4, 2) := by decide +kernel
theorem dX3_dropFirst_31 : decode cX3_dropFirst 31 = .ok (.if_icmp .ge 35, 3) := by decide +kernel
theorem dX3_dropFirst_34 : decode cX3_dropFirst 34 = .ok (.aload_n 0, 1) := by decide +kernel
theorem dX3_dropFirst_35 : decode cX3_dropFirst 35 = .ok (.getfield 20, 3) := by decide +kernel
theorem dX3_dropFirst_38 : decode cX3_dropFirst 38 = .ok (.iload 5, 2) := by decide +kernel
theorem dX3_dropFirst_40 : decode cX3_dropFirst 40 = .ok (.iload 6, 2) := by decide +kernel
theorem dX3_dropFirst_42 : decode cX3_dropFirst 42 = .ok (.iadd, 1) := by decide +kernel
theorem dX3_dropFirst_43 : decode cX3_dropFirst 43 = .ok (.aload_n 0, 1) := by decide +kernel
theorem dX3_dropFirst_44 : decode cX3_dropFirst 44 = .ok (.getfield 20, 3) := by decide +kernel
theorem dX3_dropFirst_47 : decode cX3_dropFirst 47 = .ok (.iload 5, 2) := by decide +kernel
theorem dX3_dropFirst_49 : decode cX3_dropFirst 49 = .ok (.iload 6, 2) := by decide +kernel
theorem dX3_dropFirst_51 : decode cX3_dropFirst 51 = .ok (.iadd, 1) := by decide +kernel
theorem dX3_dropFirst_52 : decode cX3_dropFirst 52 = .ok (.iconst 1, 1) := by decide +kernel
theorem dX3_dropFirst_53 : decode cX3_dropFirst 53 = .ok (.iadd, 1) := by decide +kernel
theorem dX3_dropFirst_54 : decode cX3_dropFirst 54 = .ok (.invokevirtual 26, 3) := by decide +kernel
theorem dX3_dropFirst_57 : decode cX3_dropFirst 57 = .ok (.invokevirtual 30, 3) := by decide +kernel
theorem dX3_dropFirst_60 : decode cX3_dropFirst 60 = .ok (.iinc 6 1, 3) := by decide +kernel
theorem dX3_dropFirst_63 : decode cX3_dropFirst 63 = .ok (.goto (-36), 3) := by decide +kernel
theorem dX3_dropFirst_66 : decode cX3_dropFirst 66 = .ok (.aload_n 0, 1) := by decide +kernel
theorem dX3_dropFirst_67 : decode cX3_dropFirst 67 = .ok (.getfield 14, 3) := by decide +kernel
theorem dX3_dropFirst_70 : decode cX3_dropFirst 70 = .ok (.iload_n 3, 1) := by decide +kernel
theorem dX3_dropFirst_71 : decode cX3_dropFirst 71 = .ok (.iload 4, 2) := by decide +kernel
theorem dX3_dropFirst_73 : decode cX3_dropFirst 73 = .ok (.iconst 0, 1) := by decide +kernel
theorem dX3_dropFirst_74 : decode cX3_dropFirst 74 = .ok (.invokestatic 34, 3) := by decide +kernel
theorem dX3_dropFirst_77 : decode cX3_dropFirst 77 = .ok (.invokevirtual 30, 3) := by decide +kernel
theorem dX3_dropFirst_80 : decode cX3_dropFirst 80 = .ok (.return_, 1) := by decide +kernel
set_option maxRecDepth 20000 in
theorem ggX3_carry_X5_get : GoodIn wsX3_carry wsX5_get := goodIn_r _ [7, 8, 11] (by decide +kernel) (by decide +kernel)
set_option maxRecDepth 20000 in
theorem gX3_carry_X5_get : GoodIn wsX3_carry (wsV RX3 26 RX5 yX5_get wsX5_get) := goodIn_app (goodIn_of _ (by decide +kernel)) ggX3_carry_X5_get
theorem dX3_carry_0 : decode cX3_carry 0 = .ok (.iconst 0, 1) := by decide +kernel
theorem dX3_carry_1 : decode cX3_carry 1 = .ok (.istore_n 2, 1) := by decide +kernel
theorem dX3_carry_2 : decode cX3_carry 2 = .ok (.iload_n 2, 1) := by decide +kernel
theorem dX3_carry_3 : decode cX3_carry 3 = .ok (.bipush 25, 2) := by decide +kernel
theorem dX3_carry_5 : decode cX3_carry 5 = .ok (.if_icmp .ge 48, 3) := by decide +kernel
theorem dX3_carry_8 : decode cX3_carry 8 = .ok (.iconst 0, 1) := by decide +kernel
theorem dX3_carry_9 : decode cX3_carry 9 = .ok (.istore_n 3, 1) := by decide +kernel
theorem dX3_carry_10 : decode cX3_carry 10 = .ok (.iload_n 3, 1) := by decide +kernel
theorem dX3_carry_11 : decode cX3_carry 11 = .ok (.aload_n 0, 1) := by decide +kernel
theorem dX3_carry_12 : decode cX3_carry 12 = .ok (.getfield 14, 3) := by decide +kernel
theorem dX3_carry_15 : decode cX3_carry 15 = .ok (.iload_n 2, 1) := by decide +kernel
theorem dX3_carry_16 : decode cX3_carry 16 = .ok (.invokevirtual 26, 3) := by decide +kernel
theorem dX3_carry_19 : decode cX3_carry 19 = .ok (.if_icmp .ge 28, 3) := by decide +kernel
theorem dX3_carry_22 : decode cX3_carry 22 = .ok (.aload_n 0, 1) := by decide +kernel
theorem dX3_carry_23 : decode cX3_carry 23 = .ok (.getfield 20, 3) := by decide +kernel
theorem dX3_carry_26 : decode cX3_carry 26 = .ok (.iload_n 2, 1) := by decide +kernel
theorem dX3_carry_27 : decode cX3_carry 27 = .ok (.bipush 10, 2) := by decide +kernel
theorem dX3_carry_29 : decode cX3_carry 29 = .ok (.imul, 1) := by decide +kernel
theorem dX3_carry_30 : decode cX3_carry 30 = .ok (.iload_n 3, 1) := by decide +kernel
theorem dX3_carry_31 : decode cX3_carry 31 = .ok (.iadd, 1) := by decide +kernel
theorem dX3_carry_32 : decode cX3_carry 32 = .ok (.invokevirtual 26, 3) := by decide +kernel
theorem dX3_carry_35 : decode cX3_carry 35 = .ok (.iload_n 1, 1) := by decide +kernel
theorem dX3_carry_36 : decode cX3_carry 36 = .ok (.if_icmp .ne 5, 3) := by decide +kernel
theorem dX3_carry_39 : decode cX3_carry 39 = .ok (.iconst 1, 1) := by decide +kernel
theorem dX3_carry_40 : decode cX3_carry 40 = .ok (.ireturn, 1) := by decide +kernel
theorem dX3_carry_41 : decode cX3_carry 41 = .ok (.iinc 3 1, 3) := by decide +kernel
theorem dX3_carry_44 : decode cX3_carry 44 = .ok (.goto (-34), 3) := by decide +kernel
theorem dX3_carry_47 : decode cX3_carry 47 = .ok (.iinc 2 1, 3) := by decide +kernel
theorem dX3_carry_50 : decode cX3_carry 50 = .ok (.goto (-48), 3) := by decide +kernel
theorem dX3_carry_53 : decode cX3_carry 53 = .ok (.iconst 0, 1) := by decide +kernel
theorem dX3_carry_54 : decode cX3_carry 54 = .ok (.ireturn, 1) := by decide +kernel
set_option maxRecDepth 20000 in
theorem ggX4_init_X5_init : GoodIn wsX4_init wsX5_init := goodIn_r _ [19, 20, 2, 3, 21, 22, 23, 24, 25, 26, 38] (by decide +kernel) (by decide +kernel)
set_option maxRecDepth 20000 in
theorem gX4_init_X5_init : GoodIn wsX4_init (wsX5_init) := ggX4_init_X5_init
set_option maxRecDepth 20000 in
theorem ggX4_init_X1_init : GoodIn wsX4_init wsX1_init := goodIn_r _ [29, 30, 2, 3, 31, 5, 6, 32, 33, 34, 35, 36, 37, 18, 19, 20, 21, 22, 23, 24, 25, 26, 38, 47, 48, 49, 50, 51] (by decide +kernel) (by decide +kernel)
set_option maxRecDepth 20000 in
theorem gX4_init_X1_init : GoodIn wsX4_init (wsX1_init) := ggX4_init_X1_init
theorem dX4_init_0 : decode cX4_init 0 = .ok (.aload_n 0, 1) := by decide +kernel
theorem dX4_init_1 : decode cX4_init 1 = .ok (.invokespecial 3, 3) := by decide +kernel
theorem dX4_init_4 : decode cX4_init 4 = .ok (.aload_n 0, 1) := by decide +kernel
theorem dX4_init_5 : decode cX4_init 5 = .ok (.new 9, 3) := by decide +kernel
theorem dX4_init_8 : decode cX4_init 8 = .ok (.dup, 1) := by decide +kernel
theorem dX4_init_9 : decode cX4_init 9 = .ok (.iconst 5, 1) := by decide +kernel
theorem dX4_init_10 : decode cX4_init 10 = .ok (.invokespecial 11, 3) := by decide +kernel
theorem dX4_init_13 : decode cX4_init 13 = .ok (.putfield 14, 3) := by decide +kernel
theorem dX4_init_16 : decode cX4_init 16 = .ok (.aload_n 0, 1) := by decide +kernel
theorem dX4_init_17 : decode cX4_init 17 = .ok (.new 9, 3) := by decide +kernel
theorem dX4_init_20 : decode cX4_init 20 = .ok (.dup, 1) := by decide +kernel
theorem dX4_init_21 : decode cX4_init 21 = .ok (.bipush 100, 2) := by decide +kernel
theorem dX4_init_23 : decode cX4_init 23 = .ok (.invokespecial 11, 3) := by decide +kernel
theorem dX4_init_26 : decode cX4_init 26 = .ok (.putfield 20, 3) := by decide +kernel
theorem dX4_init_29 : decode cX4_init 29 = .ok (.aload_n 0, 1) := by decide +kernel
theorem dX4_init_30 : decode cX4_init 30 = .ok (.new 9, 3) := by decide +kernel
theorem dX4_init_33 : decode cX4_init 33 = .ok (.dup, 1) := by decide +kernel
theorem dX4_init_34 : decode cX4_init 34 = .ok (.bipush 100, 2) := by decide +kernel
theorem dX4_init_36 : decode cX4_init 36 = .ok (.invokespecial 11, 3) := by decide +kernel
theorem dX4_init_39 : decode cX4_init 39 = .ok (.putfield 23, 3) := by decide +kernel
theorem dX4_init_42 : decode cX4_init 42 = .ok (.aload_n 0, 1) := by decide +kernel
theorem dX4_init_43 : decode cX4_init 43 = .ok (.new 9, 3) := by decide +kernel
theorem dX4_init_46 : decode cX4_init 46 = .ok (.dup, 1) := by decide +kernel
theorem dX4_init_47 : decode cX4_init 47 = .ok (.bipush 100, 2) := by decide +kernel
theorem dX4_init_49 : decode cX4_init 49 = .ok (.invokespecial 11, 3) := by decide +kernel
theorem dX4_init_52 : decode cX4_init 52 = .ok (.putfield 26, 3) := by decide +kernel
theorem dX4_init_55 : decode cX4_init 55 = .ok (.aload_n 0, 1) := by decide +kernel
theorem dX4_init_56 : decode cX4_init 56 = .ok (.new 9, 3) := by decide +kernel
theorem dX4_init_59 : decode cX4_init 59 = .ok (.dup, 1) := by decide +kernel
theorem dX4_init_60 : decode cX4_init 60 = .ok (.bipush 100, 2) := by decide +kernel
theorem dX4_init_62 : decode cX4_init 62 = .ok (.invokespecial 11, 3) := by decide +kernel
theorem dX4_init_65 : decode cX4_init 65 = .ok (.putfield 29, 3) := by decide +kernel
theorem dX4_init_68 : decode cX4_init 68 = .ok (.aload_n 0, 1) := by decide +kernel
theorem dX4_init_69 : decode cX4_init 69 = .ok (.new 9, 3) := by decide +kernel
theorem dX4_init_72 : decode cX4_init 72 = .ok (.dup, 1) := by decide +kernel
theorem dX4_init_73 : decode cX4_init 73 = .ok (.bipush 100, 2) := by decide +kernel
theorem dX4_init_75 : decode cX4_init 75 = .ok (.invokespecial 11, 3) := by decide +kernel
theorem dX4_init_78 : decode cX4_init 78 = .ok (.putfield 32, 3) := by decide +kernel
theorem dX4_init_81 : decode cX4_init 81 = .ok (.aload_n 0, 1) := by decide +kernel
theorem dX4_init_82 : decode cX4_init 82 = .ok (.new 35, 3) := by decide +kernel
theorem dX4_init_85 : decode cX4_init 85 = .ok (.dup, 1) := by decide +kernel
theorem dX4_init_86 : decode cX4_init 86 = .ok (.bipush 100, 2) := by decide +kernel
theorem dX4_init_88 : decode cX4_init 88 = .ok (.invokespecial 37, 3) := by decide +kernel
theorem dX4_init_91 : decode cX4_init 91 = .ok (.putfield 38, 3) := by decide +kernel
theorem dX4_init_94 : decode cX4_init 94 = .ok (.return_, 1) := by decide +kernel
set_option maxRecDepth 20000 in
theorem ggX4_clear_X5_fill : GoodIn wsX4_clear wsX5_fill := goodIn_r _ [7, 8, 17] (by decide +kernel) (by decide +kernel)
set_option maxRecDepth 20000 in
theorem gX4_clear_X5_fill : GoodIn wsX4_clear (wsV RX4 42 RX5 yX5_fill wsX5_fill) := goodIn_app (goodIn_of _ (by decide +kernel)) ggX4_clear_X5_fill
theorem dX4_clear_0 : decode cX4_clear 0 = .ok (.aload_n 0, 1) := by decide +kernel
theorem dX4_clear_1 : decode cX4_clear 1 = .ok (.getfield 14, 3) := by decide +kernel
theorem dX4_clear_4 : decode cX4_clear 4 = .ok (.iconst 0, 1) := by decide +kernel
theorem dX4_clear_5 : decode cX4_clear 5 = .ok (.invokevirtual 42, 3) := by decide +kernel
theorem dX4_clear_8 : decode cX4_clear 8 = .ok (.aload_n 0, 1) := by decide +kernel
theorem dX4_clear_9 : decode cX4_clear 9 = .ok (.iconst 0, 1) := by decide +kernel
theorem dX4_clear_10 : decode cX4_clear 10 = .ok (.putfield 45, 3) := by decide +kernel
theorem dX4_clear_13 : decode cX4_clear 13 = .ok (.return_, 1) := by decide +kernel
set_option maxRecDepth 20000 in
theorem ggX4_addStroke_X4_addOperation : GoodIn wsX4_addStroke wsX4_addOperation := goodIn_r _ [7, 8, 9, 10, 11, 12, 13, 14, 15, 16, 17, 18, 19, 20, 21, 22, 23, 24, 25, 26, 6, 27, 28, 29, 30, 31, 32, 33, 34, 35, 36, 37, 38, 39, 85, 86, 87, 88, 89, 90, 91, 92, 93] (by decide +kernel) (by decide +kernel)
set_option maxRecDepth 20000 in
theorem gX4_addStroke_X4_addOperation : GoodIn wsX4_addStroke (wsV RX4 49 RX4 yX4_addOperation wsX4_addOperation) := goodIn_app (goodIn_of _ (by decide +kernel)) ggX4_addStroke_X4_addOperation
set_option maxRecDepth 20000 in
theorem ggX4_addStroke_X1_copyFrom : GoodIn wsX4_addStroke wsX1_copyFrom := goodIn_r _ [44, 45, 46, 47, 43, 48, 49, 50, 12, 13, 14, 15, 16, 51, 52, 53, 54, 55, 56, 57, 58, 59, 60, 61, 62, 63, 64, 65, 66, 67, 68, 69, 21, 22, 23, 70, 71, 72, 73, 74, 75, 76, 77, 78, 79, 80, 81, 82, 83, 94, 95, 96, 97, 98, 93] (by decide +kernel) (by decide +kernel)
set_option maxRecDepth 20000 in
theorem gX4_addStroke_X1_copyFrom : GoodIn wsX4_addStroke (wsV RX4 53 RX1 yX1_copyFrom wsX1_copyFrom) := goodIn_app (goodIn_of _ (by decide +kernel)) ggX4_addStroke_X1_copyFrom
set_option maxRecDepth 20000 in
theorem ggX4_addStroke_X1_layerOf : GoodIn wsX4_addStroke wsX1_layerOf := goodIn_r _ [59, 60, 50, 12, 13, 14, 15, 16, 94, 95, 96, 97, 98, 93] (by decide +kernel) (by decide +kernel)
set_option maxRecDepth 20000 in
theorem gX4_addStroke_X1_layerOf : GoodIn wsX4_addStroke (wsV RX4 57 RX1 yX1_layerOf wsX1_layerOf) := goodIn_app (goodIn_of _ (by decide +kernel)) ggX4_addStroke_X1_layerOf
set_option maxRecDepth 20000 in
theorem ggX4_addStroke_X5_set : GoodIn wsX4_addStroke wsX5_set := goodIn_r _ [23, 16, 93] (by decide +kernel) (by decide +kernel)
set_option maxRecDepth 20000 in
theorem gX4_addStroke_X5_set : GoodIn wsX4_addStroke (wsV RX4 61 RX5 yX5_set wsX5_set) := goodIn_app (goodIn_of _ (by decide +kernel)) ggX4_addStroke_X5_set
theorem dX4_addStroke_0 : decode cX4_addStroke 0 = .ok (.aload_n 0, 1) := by decide +kernel
theorem dX4_addStroke_1 : decode cX4_addStroke 1 = .ok (.iload_n 1, 1) := by decide +kernel
theorem dX4_addStroke_2 : decode cX4_addStroke 2 = .ok (.iload_n 2, 1) := by decide +kernel
theorem dX4_addStroke_3 : decode cX4_addStroke 3 = .ok (.iconst 0, 1) := by decide +kernel
theorem dX4_addStroke_4 : decode cX4_addStroke 4 = .ok (.invokevirtual 49, 3) := by decide +kernel
theorem dX4_addStroke_7 : decode cX4_addStroke 7 = .ok (.istore 4, 2) := by decide +kernel
theorem dX4_addStroke_9 : decode cX4_addStroke 9 = .ok (.aload_n 0, 1) := by decide +kernel
theorem dX4_addStroke_10 : decode cX4_addStroke 10 = .ok (.getfield 38, 3) := by decide +kernel
theorem dX4_addStroke_13 : decode cX4_addStroke 13 = .ok (.aload_n 3, 1) := by decide +kernel
theorem dX4_addStroke_14 : decode cX4_addStroke 14 = .ok (.iload_n 1, 1) := by decide +kernel
theorem dX4_addStroke_15 : decode cX4_addStroke 15 = .ok (.iload 4, 2) := by decide +kernel
theorem dX4_addStroke_17 : decode cX4_addStroke 17 = .ok (.invokevirtual 53, 3) := by decide +kernel
theorem dX4_addStroke_20 : decode cX4_addStroke 20 = .ok (.aload_n 0, 1) := by decide +kernel
theorem dX4_addStroke_21 : decode cX4_addStroke 21 = .ok (.getfield 29, 3) := by decide +kernel
theorem dX4_addStroke_24 : decode cX4_addStroke 24 = .ok (.iload 4, 2) := by decide +kernel
theorem dX4_addStroke_26 : decode cX4_addStroke 26 = .ok (.aload_n 0, 1) := by decide +kernel
theorem dX4_addStroke_27 : decode cX4_addStroke 27 = .ok (.getfield 38, 3) := by decide +kernel
theorem dX4_addStroke_30 : decode cX4_addStroke 30 = .ok (.iload 4, 2) := by decide +kernel
theorem dX4_addStroke_32 : decode cX4_addStroke 32 = .ok (.invokevirtual 57, 3) := by decide +kernel
theorem dX4_addStroke_35 : decode cX4_addStroke 35 = .ok (.invokevirtual 61, 3) := by decide +kernel
theorem dX4_addStroke_38 : decode cX4_addStroke 38 = .ok (.iload 4, 2) := by decide +kernel
theorem dX4_addStroke_40 : decode cX4_addStroke 40 = .ok (.ireturn, 1) := by decide +kernel
set_option maxRecDepth 20000 in
theorem ggX4_addChange_X4_addOperation : GoodIn wsX4_addChange wsX4_addOperation := goodIn_r _ [7, 8, 9, 10, 11, 12, 13, 14, 15, 16, 17, 18, 19, 20, 21, 22, 23, 24, 25, 26, 6, 27, 28, 29, 30, 31, 32, 33, 34, 35, 36, 37, 38, 39, 40, 41, 42, 43, 44, 45, 46, 47, 48] (by decide +kernel) (by decide +kernel)
set_option maxRecDepth 20000 in
theorem gX4_addChange_X4_addOperation : GoodIn wsX4_addChange (wsV RX4 49 RX4 yX4_addOperation wsX4_addOperation) := goodIn_app (goodIn_of _ (by decide +kernel)) ggX4_addChange_X4_addOperation
set_option maxRecDepth 20000 in
theorem ggX4_addChange_X5_set : GoodIn wsX4_addChange wsX5_set := goodIn_r _ [23, 16, 48] (by decide +kernel) (by decide +kernel)
set_option maxRecDepth 20000 in
theorem gX4_addChange_X5_set : GoodIn wsX4_addChange (wsV RX4 61 RX5 yX5_set wsX5_set) := goodIn_app (goodIn_of _ (by decide +kernel)) ggX4_addChange_X5_set
theorem dX4_addChange_0 : decode cX4_addChange 0 = .ok (.aload_n 0, 1) := by decide +kernel
theorem dX4_addChange_1 : decode cX4_addChange 1 = .ok (.iload_n 1, 1) := by decide +kernel
theorem dX4_addChange_2 : decode cX4_addChange 2 = .ok (.iload_n 2, 1) := by decide +kernel
theorem dX4_addChange_3 : decode cX4_addChange 3 = .ok (.iload_n 3, 1) := by decide +kernel
theorem dX4_addChange_4 : decode cX4_addChange 4 = .ok (.invokevirtual 49, 3) := by decide +kernel
theorem dX4_addChange_7 : decode cX4_addChange 7 = .ok (.istore 6, 2) := by decide +kernel
theorem dX4_addChange_9 : decode cX4_addChange 9 = .ok (.aload_n 0, 1) := by decide +kernel
theorem dX4_addChange_10 : decode cX4_addChange 10 = .ok (.getfield 26, 3) := by decide +kernel
theorem dX4_addChange_13 : decode cX4_addChange 13 = .ok (.iload 6, 2) := by decide +kernel
theorem dX4_addChange_15 : decode cX4_addChange 15 = .ok (.iload 4, 2) := by decide +kernel
theorem dX4_addChange_17 : decode cX4_addChange 17 = .ok (.invokevirtual 61, 3) := by decide +kernel
theorem dX4_addChange_20 : decode cX4_addChange 20 = .ok (.aload_n 0, 1) := by decide +kernel
theorem dX4_addChange_21 : decode cX4_addChange 21 = .ok (.getfield 29, 3) := by decide +kernel
theorem dX4_addChange_24 : decode cX4_addChange 24 = .ok (.iload 6, 2) := by decide +kernel
theorem dX4_addChange_26 : decode cX4_addChange 26 = .ok (.iload 5, 2) := by decide +kernel
theorem dX4_addChange_28 : decode cX4_addChange 28 = .ok (.invokevirtual 61, 3) := by decide +kernel
theorem dX4_addChange_31 : decode cX4_addChange 31 = .ok (.iload 6, 2) := by decide +kernel
theorem dX4_addChange_33 : decode cX4_addChange 33 = .ok (.ireturn, 1) := by decide +kernel
set_option maxRecDepth 20000 in
theorem ggX4_addOperation_X5_get : GoodIn wsX4_addOperation wsX5_get := goodIn_r _ [8, 9, 42] (by decide +kernel) (by decide +kernel)
set_option maxRecDepth 20000 in
theorem gX4_addOperation_X5_get : GoodIn wsX4_addOperation (wsV RX4 65 RX5 yX5_get wsX5_get) := goodIn_app (goodIn_of _ (by decide +kernel)) ggX4_addOperation_X5_get
set_option maxRecDepth 20000 in
theorem ggX4_addOperation_X6_idOf : GoodIn wsX4_addOperation wsX6_idOf := goodIn_r _ [12] (by decide +kernel) (by decide +kernel)
set_option maxRecDepth 20000 in
theorem gX4_addOperation_X6_idOf_n68 : GoodIn wsX4_addOperation (wsX6_idOf) := ggX4_addOperation_X6_idOf
set_option maxRecDepth 20000 in
theorem ggX4_addOperation_X5_set : GoodIn wsX4_addOperation wsX5_set := goodIn_r _ [16, 9, 42] (by decide +kernel) (by decide +kernel)
set_option maxRecDepth 20000 in
theorem gX4_addOperation_X5_set : GoodIn wsX4_addOperation (wsV RX4 61 RX5 yX5_set wsX5_set) := goodIn_app (goodIn_of _ (by decide +kernel)) ggX4_addOperation_X5_set
set_option maxRecDepth 20000 in
theorem ggX4_addOperation_X4_insert : GoodIn wsX4_addOperation wsX4_insert := goodIn_r _ [21, 22, 23, 4, 5, 6, 7, 8, 9, 24, 25, 26, 20, 27, 2, 28, 29, 30, 31, 32, 11, 33, 13, 14, 15, 16, 34, 35, 36, 37, 38, 39, 40, 41, 42] (by decide +kernel) (by decide +kernel)
set_option maxRecDepth 20000 in
theorem gX4_addOperation_X4_insert : GoodIn wsX4_addOperation (wsV RX4 72 RX4 yX4_insert wsX4_insert) := goodIn_app (goodIn_of _ (by decide +kernel)) ggX4_addOperation_X4_insert
theorem dX4_addOperation_0 : decode cX4_addOperation 0 = .ok (.aload_n 0, 1) := by decide +kernel
theorem dX4_addOperation_1 : decode cX4_addOperation 1 = .ok (.getfield 14, 3) := by decide +kernel
theorem dX4_addOperation_4 : decode cX4_addOperation 4 = .ok (.iload_n 1, 1) := by decide +kernel
theorem dX4_addOperation_5 : decode cX4_addOperation 5 = .ok (.invokevirtual 65, 3) := by decide +kernel
theorem dX4_addOperation_8 : decode cX4_addOperation 8 = .ok (.iconst 1, 1) := by decide +kernel
theorem dX4_addOperation_9 : decode cX4_addOperation 9 = .ok (.iadd, 1) := by decide +kernel
theorem dX4_addOperation_10 : decode cX4_addOperation 10 = .ok (.istore 4, 2) := by decide +kernel
theorem dX4_addOperation_12 : decode cX4_addOperation 12 = .ok (.iload_n 1, 1) := by decide +kernel
theorem dX4_addOperation_13 : decode cX4_addOperation 13 = .ok (.iload 4, 2) := by decide +kernel
theorem dX4_addOperation_15 : decode cX4_addOperation 15 = .ok (.invokestatic 68, 3) := by decide +kernel
theorem dX4_addOperation_18 : decode cX4_addOperation 18 = .ok (.istore 5, 2) := by decide +kernel
theorem dX4_addOperation_20 : decode cX4_addOperation 20 = .ok (.aload_n 0, 1) := by decide +kernel
theorem dX4_addOperation_21 : decode cX4_addOperation 21 = .ok (.getfield 14, 3) := by decide +kernel
theorem dX4_addOperation_24 : decode cX4_addOperation 24 = .ok (.iload_n 1, 1) := by decide +kernel
theorem dX4_addOperation_25 : decode cX4_addOperation 25 = .ok (.iload 4, 2) := by decide +kernel
theorem dX4_addOperation_27 : decode cX4_addOperation 27 = .ok (.invokevirtual 61, 3) := by decide +kernel
theorem dX4_addOperation_30 : decode cX4_addOperation 30 = .ok (.aload_n 0, 1) := by decide +kernel
theorem dX4_addOperation_31 : decode cX4_addOperation 31 = .ok (.getfield 23, 3) := by decide +kernel
theorem dX4_addOperation_34 : decode cX4_addOperation 34 = .ok (.iload 5, 2) := by decide +kernel
theorem dX4_addOperation_36 : decode cX4_addOperation 36 = .ok (.iload_n 2, 1) := by decide +kernel
theorem dX4_addOperation_37 : decode cX4_addOperation 37 = .ok (.invokevirtual 61, 3) := by decide +kernel
theorem dX4_addOperation_40 : decode cX4_addOperation 40 = .ok (.aload_n 0, 1) := by decide +kernel
theorem dX4_addOperation_41 : decode cX4_addOperation 41 = .ok (.getfield 20, 3) := by decide +kernel
theorem dX4_addOperation_44 : decode cX4_addOperation 44 = .ok (.iload 5, 2) := by decide +kernel
theorem dX4_addOperation_46 : decode cX4_addOperation 46 = .ok (.iload_n 3, 1) := by decide +kernel
theorem dX4_addOperation_47 : decode cX4_addOperation 47 = .ok (.invokevirtual 61, 3) := by decide +kernel
theorem dX4_addOperation_50 : decode cX4_addOperation 50 = .ok (.aload_n 0, 1) := by decide +kernel
theorem dX4_addOperation_51 : decode cX4_addOperation 51 = .ok (.iload 5, 2) := by decide +kernel
theorem dX4_addOperation_53 : decode cX4_addOperation 53 = .ok (.invokevirtual 72, 3) := by decide +kernel
theorem dX4_addOperation_56 : decode cX4_addOperation 56 = .ok (.iload 5, 2) := by decide +kernel
theorem dX4_addOperation_58 : decode cX4_addOperation 58 = .ok (.ireturn, 1) := by decide +kernel
set_option maxRecDepth 20000 in
theorem ggX4_insert_X5_get : GoodIn wsX4_insert wsX5_get := goodIn_r _ [7, 8, 34] (by decide +kernel) (by decide +kernel)
set_option maxRecDepth 20000 in
theorem gX4_insert_X5_get : GoodIn wsX4_insert (wsV RX4 65 RX5 yX5_get wsX5_get) := goodIn_app (goodIn_of _ (by decide +kernel)) ggX4_insert_X5_get
set_option maxRecDepth 20000 in
theorem ggX4_insert_X4_comesAfter : GoodIn wsX4_insert wsX4_comesAfter := goodIn_r _ [13, 14, 3, 4, 5, 6, 7, 8, 15, 16, 17, 18, 19, 20, 21, 26, 27, 28, 29, 30, 31, 32, 33, 34] (by decide +kernel) (by decide +kernel)
set_option maxRecDepth 20000 in
theorem gX4_insert_X4_comesAfter : GoodIn wsX4_insert (wsV RX4 75 RX4 yX4_comesAfter wsX4_comesAfter) := goodIn_app (goodIn_of _ (by decide +kernel)) ggX4_insert_X4_comesAfter
set_option maxRecDepth 20000 in
theorem ggX4_insert_X5_set : GoodIn wsX4_insert wsX5_set := goodIn_r _ [25, 8, 34] (by decide +kernel) (by decide +kernel)
set_option maxRecDepth 20000 in
theorem gX4_insert_X5_set : GoodIn wsX4_insert (wsV RX4 61 RX5 yX5_set wsX5_set) := goodIn_app (goodIn_of _ (by decide +kernel)) ggX4_insert_X5_set
theorem dX4_insert_0 : decode cX4_insert 0 = .ok (.aload_n 0, 1) := by decide +kernel
theorem dX4_insert_1 : decode cX4_insert 1 = .ok (.getfield 45, 3) := by decide +kernel
theorem dX4_insert_4 : decode cX4_insert 4 = .ok (.istore_n 2, 1) := by decide +kernel
theorem dX4_insert_5 : decode cX4_insert 5 = .ok (.iload_n 2, 1) := by decide +kernel
theorem dX4_insert_6 : decode cX4_insert 6 = .ok (.ifCond .le 45, 3) := by decide +kernel
theorem dX4_insert_9 : decode cX4_insert 9 = .ok (.aload_n 0, 1) := by decide +kernel
theorem dX4_insert_10 : decode cX4_insert 10 = .ok (.aload_n 0, 1) := by decide +kernel
theorem dX4_insert_11 : decode cX4_insert 11 = .ok (.getfield 32, 3) := by decide +kernel
theorem dX4_insert_14 : decode cX4_insert 14 = .ok (.iload_n 2, 1) := by decide +kernel
theorem dX4_insert_15 : decode cX4_insert 15 = .ok (.iconst 1, 1) := by decide +kernel
theorem dX4_insert_16 : decode cX4_insert 16 = .ok (.isub, 1) := by decide +kernel
theorem dX4_insert_17 : decode cX4_insert 17 = .ok (.invokevirtual 65, 3) := by decide +kernel
theorem dX4_insert_20 : decode cX4_insert 20 = .ok (.iload_n 1, 1) := by decide +kernel
theorem dX4_insert_21 : decode cX4_insert 21 = .ok (.invokevirtual 75, 3) := by decide +kernel
theorem dX4_insert_24 : decode cX4_insert 24 = .ok (.ifCond .eq 27, 3) := by decide +kernel
theorem dX4_insert_27 : decode cX4_insert 27 = .ok (.aload_n 0, 1) := by decide +kernel
theorem dX4_insert_28 : decode cX4_insert 28 = .ok (.getfield 32, 3) := by decide +kernel
end
section
theorem dX4_insert_31 : decode cX4_insert 31 = .ok (.iload_n 2, 1) := by decide +kernel
theorem dX4_insert_32 : decode cX4_insert 32 = .ok (.aload_n 0, 1) := by decide +kernel
theorem dX4_insert_33 : decode cX4_insert 33 = .ok (.getfield 32, 3) := by decide +kernel
theorem dX4_insert_36 : decode cX4_insert 36 = .ok (.iload_n 2, 1) := by decide +kernel
theorem dX4_insert_37 : decode cX4_insert 37 = .ok (.iconst 1, 1) := by decide +kernel
theorem dX4_insert_38 : decode cX4_insert 38 = .ok (.isub, 1) := by decide +kernel
theorem dX4_insert_39 : decode cX4_insert 39 = .ok (.invokevirtual 65, 3) := by decide +kernel
theorem dX4_insert_42 : decode cX4_insert 42 = .ok (.invokevirtual 61, 3) := by decide +kernel
theorem dX4_insert_45 : decode cX4_insert 45 = .ok (.iinc 2 (-1), 3) := by decide +kernel
theorem dX4_insert_48 : decode cX4_insert 48 = .ok (.goto (-43), 3) := by decide +kernel
theorem dX4_insert_51 : decode cX4_insert 51 = .ok (.aload_n 0, 1) := by decide +kernel
theorem dX4_insert_52 : decode cX4_insert 52 = .ok (.getfield 32, 3) := by decide +kernel
theorem dX4_insert_55 : decode cX4_insert 55 = .ok (.iload_n 2, 1) := by decide +kernel
theorem dX4_insert_56 : decode cX4_insert 56 = .ok (.iload_n 1, 1) := by decide +kernel
theorem dX4_insert_57 : decode cX4_insert 57 = .ok (.invokevirtual 61, 3) := by decide +kernel
theorem dX4_insert_60 : decode cX4_insert 60 = .ok (.aload_n 0, 1) := by decide +kernel
theorem dX4_insert_61 : decode cX4_insert 61 = .ok (.dup, 1) := by decide +kernel
theorem dX4_insert_62 : decode cX4_insert 62 = .ok (.getfield 45, 3) := by decide +kernel
theorem dX4_insert_65 : decode cX4_insert 65 = .ok (.iconst 1, 1) := by decide +kernel
theorem dX4_insert_66 : decode cX4_insert 66 = .ok (.iadd, 1) := by decide +kernel
theorem dX4_insert_67 : decode cX4_insert 67 = .ok (.putfield 45, 3) := by decide +kernel
theorem dX4_insert_70 : decode cX4_insert 70 = .ok (.return_, 1) := by decide +kernel
set_option maxRecDepth 20000 in
theorem ggX4_comesAfter_X5_get : GoodIn wsX4_comesAfter wsX5_get := goodIn_r _ [6, 7, 23] (by decide +kernel) (by decide +kernel)
set_option maxRecDepth 20000 in
theorem gX4_comesAfter_X5_get : GoodIn wsX4_comesAfter (wsV RX4 65 RX5 yX5_get wsX5_get) := goodIn_app (goodIn_of _ (by decide +kernel)) ggX4_comesAfter_X5_get
set_option maxRecDepth 20000 in
theorem ggX4_comesAfter_J6_compare_7cf53 : GoodIn wsX4_comesAfter wsJ6_compare_7cf53 := goodIn_r _ [11] (by decide +kernel) (by decide +kernel)
set_option maxRecDepth 20000 in
theorem gX4_comesAfter_J6_compare_7cf53 : GoodIn wsX4_comesAfter (va_wsS RX4 79 yJ6_compare_7cf53 wsJ6_compare_7cf53) := goodIn_app (goodIn_of _ (by decide +kernel)) ggX4_comesAfter_J6_compare_7cf53
set_option maxRecDepth 20000 in
theorem ggX4_comesAfter_X6_authorOf : GoodIn wsX4_comesAfter wsX6_authorOf := goodIn_r _ [14] (by decide +kernel) (by decide +kernel)
set_option maxRecDepth 20000 in
theorem gX4_comesAfter_X6_authorOf_n84 : GoodIn wsX4_comesAfter (wsX6_authorOf) := ggX4_comesAfter_X6_authorOf
theorem dX4_comesAfter_0 : decode cX4_comesAfter 0 = .ok (.aload_n 0, 1) := by decide +kernel
theorem dX4_comesAfter_1 : decode cX4_comesAfter 1 = .ok (.getfield 23, 3) := by decide +kernel
theorem dX4_comesAfter_4 : decode cX4_comesAfter 4 = .ok (.iload_n 1, 1) := by decide +kernel
theorem dX4_comesAfter_5 : decode cX4_comesAfter 5 = .ok (.invokevirtual 65, 3) := by decide +kernel
theorem dX4_comesAfter_8 : decode cX4_comesAfter 8 = .ok (.aload_n 0, 1) := by decide +kernel
theorem dX4_comesAfter_9 : decode cX4_comesAfter 9 = .ok (.getfield 23, 3) := by decide +kernel
theorem dX4_comesAfter_12 : decode cX4_comesAfter 12 = .ok (.iload_n 2, 1) := by decide +kernel
theorem dX4_comesAfter_13 : decode cX4_comesAfter 13 = .ok (.invokevirtual 65, 3) := by decide +kernel
theorem dX4_comesAfter_16 : decode cX4_comesAfter 16 = .ok (.invokestatic 79, 3) := by decide +kernel
theorem dX4_comesAfter_19 : decode cX4_comesAfter 19 = .ok (.istore_n 3, 1) := by decide +kernel
theorem dX4_comesAfter_20 : decode cX4_comesAfter 20 = .ok (.iload_n 3, 1) := by decide +kernel
theorem dX4_comesAfter_21 : decode cX4_comesAfter 21 = .ok (.ifCond .gt 18, 3) := by decide +kernel
theorem dX4_comesAfter_24 : decode cX4_comesAfter 24 = .ok (.iload_n 3, 1) := by decide +kernel
theorem dX4_comesAfter_25 : decode cX4_comesAfter 25 = .ok (.ifCond .ne 18, 3) := by decide +kernel
theorem dX4_comesAfter_28 : decode cX4_comesAfter 28 = .ok (.iload_n 1, 1) := by decide +kernel
theorem dX4_comesAfter_29 : decode cX4_comesAfter 29 = .ok (.invokestatic 84, 3) := by decide +kernel
theorem dX4_comesAfter_32 : decode cX4_comesAfter 32 = .ok (.iload_n 2, 1) := by decide +kernel
theorem dX4_comesAfter_33 : decode cX4_comesAfter 33 = .ok (.invokestatic 84, 3) := by decide +kernel
theorem dX4_comesAfter_36 : decode cX4_comesAfter 36 = .ok (.if_icmp .le 7, 3) := by decide +kernel
theorem dX4_comesAfter_39 : decode cX4_comesAfter 39 = .ok (.iconst 1, 1) := by decide +kernel
theorem dX4_comesAfter_40 : decode cX4_comesAfter 40 = .ok (.goto 4, 3) := by decide +kernel
theorem dX4_comesAfter_43 : decode cX4_comesAfter 43 = .ok (.iconst 0, 1) := by decide +kernel
theorem dX4_comesAfter_44 : decode cX4_comesAfter 44 = .ok (.ireturn, 1) := by decide +kernel
set_option maxRecDepth 20000 in
theorem ggX4_madeBy_X5_get : GoodIn wsX4_madeBy wsX5_get := goodIn_r _ [6, 7, 16] (by decide +kernel) (by decide +kernel)
set_option maxRecDepth 20000 in
theorem gX4_madeBy_X5_get : GoodIn wsX4_madeBy (wsV RX4 65 RX5 yX5_get wsX5_get) := goodIn_app (goodIn_of _ (by decide +kernel)) ggX4_madeBy_X5_get
theorem dX4_madeBy_0 : decode cX4_madeBy 0 = .ok (.aload_n 0, 1) := by decide +kernel
theorem dX4_madeBy_1 : decode cX4_madeBy 1 = .ok (.getfield 14, 3) := by decide +kernel
theorem dX4_madeBy_4 : decode cX4_madeBy 4 = .ok (.iload_n 1, 1) := by decide +kernel
theorem dX4_madeBy_5 : decode cX4_madeBy 5 = .ok (.invokevirtual 65, 3) := by decide +kernel
theorem dX4_madeBy_8 : decode cX4_madeBy 8 = .ok (.ireturn, 1) := by decide +kernel
theorem dX4_totalCount_0 : decode cX4_totalCount 0 = .ok (.aload_n 0, 1) := by decide +kernel
theorem dX4_totalCount_1 : decode cX4_totalCount 1 = .ok (.getfield 45, 3) := by decide +kernel
theorem dX4_totalCount_4 : decode cX4_totalCount 4 = .ok (.ireturn, 1) := by decide +kernel
set_option maxRecDepth 20000 in
theorem ggX4_inOrder_X5_get : GoodIn wsX4_inOrder wsX5_get := goodIn_r _ [6, 7, 16] (by decide +kernel) (by decide +kernel)
set_option maxRecDepth 20000 in
theorem gX4_inOrder_X5_get : GoodIn wsX4_inOrder (wsV RX4 65 RX5 yX5_get wsX5_get) := goodIn_app (goodIn_of _ (by decide +kernel)) ggX4_inOrder_X5_get
theorem dX4_inOrder_0 : decode cX4_inOrder 0 = .ok (.aload_n 0, 1) := by decide +kernel
theorem dX4_inOrder_1 : decode cX4_inOrder 1 = .ok (.getfield 32, 3) := by decide +kernel
theorem dX4_inOrder_4 : decode cX4_inOrder 4 = .ok (.iload_n 1, 1) := by decide +kernel
theorem dX4_inOrder_5 : decode cX4_inOrder 5 = .ok (.invokevirtual 65, 3) := by decide +kernel
theorem dX4_inOrder_8 : decode cX4_inOrder 8 = .ok (.ireturn, 1) := by decide +kernel
set_option maxRecDepth 20000 in
theorem ggX4_kindOf_X5_get : GoodIn wsX4_kindOf wsX5_get := goodIn_r _ [6, 7, 16] (by decide +kernel) (by decide +kernel)
set_option maxRecDepth 20000 in
theorem gX4_kindOf_X5_get : GoodIn wsX4_kindOf (wsV RX4 65 RX5 yX5_get wsX5_get) := goodIn_app (goodIn_of _ (by decide +kernel)) ggX4_kindOf_X5_get
theorem dX4_kindOf_0 : decode cX4_kindOf 0 = .ok (.aload_n 0, 1) := by decide +kernel
theorem dX4_kindOf_1 : decode cX4_kindOf 1 = .ok (.getfield 20, 3) := by decide +kernel
theorem dX4_kindOf_4 : decode cX4_kindOf 4 = .ok (.iload_n 1, 1) := by decide +kernel
theorem dX4_kindOf_5 : decode cX4_kindOf 5 = .ok (.invokevirtual 65, 3) := by decide +kernel
theorem dX4_kindOf_8 : decode cX4_kindOf 8 = .ok (.ireturn, 1) := by decide +kernel
set_option maxRecDepth 20000 in
theorem ggX4_isStroke_X5_get : GoodIn wsX4_isStroke wsX5_get := goodIn_r _ [6, 7, 16] (by decide +kernel) (by decide +kernel)
set_option maxRecDepth 20000 in
theorem gX4_isStroke_X5_get : GoodIn wsX4_isStroke (wsV RX4 65 RX5 yX5_get wsX5_get) := goodIn_app (goodIn_of _ (by decide +kernel)) ggX4_isStroke_X5_get
theorem dX4_isStroke_0 : decode cX4_isStroke 0 = .ok (.aload_n 0, 1) := by decide +kernel
theorem dX4_isStroke_1 : decode cX4_isStroke 1 = .ok (.getfield 20, 3) := by decide +kernel
theorem dX4_isStroke_4 : decode cX4_isStroke 4 = .ok (.iload_n 1, 1) := by decide +kernel
theorem dX4_isStroke_5 : decode cX4_isStroke 5 = .ok (.invokevirtual 65, 3) := by decide +kernel
theorem dX4_isStroke_8 : decode cX4_isStroke 8 = .ok (.ifCond .ne 7, 3) := by decide +kernel
theorem dX4_isStroke_11 : decode cX4_isStroke 11 = .ok (.iconst 1, 1) := by decide +kernel
theorem dX4_isStroke_12 : decode cX4_isStroke 12 = .ok (.goto 4, 3) := by decide +kernel
theorem dX4_isStroke_15 : decode cX4_isStroke 15 = .ok (.iconst 0, 1) := by decide +kernel
theorem dX4_isStroke_16 : decode cX4_isStroke 16 = .ok (.ireturn, 1) := by decide +kernel
set_option maxRecDepth 20000 in
theorem ggX4_timeOf_X5_get : GoodIn wsX4_timeOf wsX5_get := goodIn_r _ [6, 7, 16] (by decide +kernel) (by decide +kernel)
set_option maxRecDepth 20000 in
theorem gX4_timeOf_X5_get : GoodIn wsX4_timeOf (wsV RX4 65 RX5 yX5_get wsX5_get) := goodIn_app (goodIn_of _ (by decide +kernel)) ggX4_timeOf_X5_get
theorem dX4_timeOf_0 : decode cX4_timeOf 0 = .ok (.aload_n 0, 1) := by decide +kernel
theorem dX4_timeOf_1 : decode cX4_timeOf 1 = .ok (.getfield 23, 3) := by decide +kernel
theorem dX4_timeOf_4 : decode cX4_timeOf 4 = .ok (.iload_n 1, 1) := by decide +kernel
theorem dX4_timeOf_5 : decode cX4_timeOf 5 = .ok (.invokevirtual 65, 3) := by decide +kernel
theorem dX4_timeOf_8 : decode cX4_timeOf 8 = .ok (.ireturn, 1) := by decide +kernel
set_option maxRecDepth 20000 in
theorem ggX4_targetOf_X5_get : GoodIn wsX4_targetOf wsX5_get := goodIn_r _ [6, 7, 16] (by decide +kernel) (by decide +kernel)
set_option maxRecDepth 20000 in
theorem gX4_targetOf_X5_get : GoodIn wsX4_targetOf (wsV RX4 65 RX5 yX5_get wsX5_get) := goodIn_app (goodIn_of _ (by decide +kernel)) ggX4_targetOf_X5_get
theorem dX4_targetOf_0 : decode cX4_targetOf 0 = .ok (.aload_n 0, 1) := by decide +kernel
theorem dX4_targetOf_1 : decode cX4_targetOf 1 = .ok (.getfield 26, 3) := by decide +kernel
theorem dX4_targetOf_4 : decode cX4_targetOf 4 = .ok (.iload_n 1, 1) := by decide +kernel
theorem dX4_targetOf_5 : decode cX4_targetOf 5 = .ok (.invokevirtual 65, 3) := by decide +kernel
theorem dX4_targetOf_8 : decode cX4_targetOf 8 = .ok (.ireturn, 1) := by decide +kernel
set_option maxRecDepth 20000 in
theorem ggX4_layerOf_X5_get : GoodIn wsX4_layerOf wsX5_get := goodIn_r _ [6, 7, 16] (by decide +kernel) (by decide +kernel)
set_option maxRecDepth 20000 in
theorem gX4_layerOf_X5_get : GoodIn wsX4_layerOf (wsV RX4 65 RX5 yX5_get wsX5_get) := goodIn_app (goodIn_of _ (by decide +kernel)) ggX4_layerOf_X5_get
theorem dX4_layerOf_0 : decode cX4_layerOf 0 = .ok (.aload_n 0, 1) := by decide +kernel
theorem dX4_layerOf_1 : decode cX4_layerOf 1 = .ok (.getfield 29, 3) := by decide +kernel
theorem dX4_layerOf_4 : decode cX4_layerOf 4 = .ok (.iload_n 1, 1) := by decide +kernel
theorem dX4_layerOf_5 : decode cX4_layerOf 5 = .ok (.invokevirtual 65, 3) := by decide +kernel
theorem dX4_layerOf_8 : decode cX4_layerOf 8 = .ok (.ireturn, 1) := by decide +kernel
set_option maxRecDepth 20000 in
theorem ggX4_sizeOf_X5_get : GoodIn wsX4_sizeOf wsX5_get := goodIn_r _ [7, 8, 37] (by decide +kernel) (by decide +kernel)
set_option maxRecDepth 20000 in
theorem gX4_sizeOf_X5_get : GoodIn wsX4_sizeOf (wsV RX4 65 RX5 yX5_get wsX5_get) := goodIn_app (goodIn_of _ (by decide +kernel)) ggX4_sizeOf_X5_get
set_option maxRecDepth 20000 in
theorem ggX4_sizeOf_X1_sizeOf : GoodIn wsX4_sizeOf wsX1_sizeOf := goodIn_r _ [13, 14, 15, 4, 5, 6, 7, 8, 16, 17, 18, 12, 19, 20, 21, 22, 23, 24, 25, 26, 27, 28, 38, 39, 40, 41, 42, 37] (by decide +kernel) (by decide +kernel)
set_option maxRecDepth 20000 in
theorem gX4_sizeOf_X1_sizeOf : GoodIn wsX4_sizeOf (wsV RX4 87 RX1 yX1_sizeOf wsX1_sizeOf) := goodIn_app (goodIn_of _ (by decide +kernel)) ggX4_sizeOf_X1_sizeOf
theorem dX4_sizeOf_0 : decode cX4_sizeOf 0 = .ok (.aload_n 0, 1) := by decide +kernel
theorem dX4_sizeOf_1 : decode cX4_sizeOf 1 = .ok (.getfield 20, 3) := by decide +kernel
theorem dX4_sizeOf_4 : decode cX4_sizeOf 4 = .ok (.iload_n 1, 1) := by decide +kernel
theorem dX4_sizeOf_5 : decode cX4_sizeOf 5 = .ok (.invokevirtual 65, 3) := by decide +kernel
theorem dX4_sizeOf_8 : decode cX4_sizeOf 8 = .ok (.lookupswitch 39 #[(0, 28), (3, 37)], 28) := by decide +kernel
theorem dX4_sizeOf_36 : decode cX4_sizeOf 36 = .ok (.aload_n 0, 1) := by decide +kernel
theorem dX4_sizeOf_37 : decode cX4_sizeOf 37 = .ok (.getfield 38, 3) := by decide +kernel
theorem dX4_sizeOf_40 : decode cX4_sizeOf 40 = .ok (.iload_n 1, 1) := by decide +kernel
theorem dX4_sizeOf_41 : decode cX4_sizeOf 41 = .ok (.invokevirtual 87, 3) := by decide +kernel
theorem dX4_sizeOf_44 : decode cX4_sizeOf 44 = .ok (.ireturn, 1) := by decide +kernel
theorem dX4_sizeOf_45 : decode cX4_sizeOf 45 = .ok (.iconst 4, 1) := by decide +kernel
theorem dX4_sizeOf_46 : decode cX4_sizeOf 46 = .ok (.ireturn, 1) := by decide +kernel
theorem dX4_sizeOf_47 : decode cX4_sizeOf 47 = .ok (.iconst 3, 1) := by decide +kernel
theorem dX4_sizeOf_48 : decode cX4_sizeOf 48 = .ok (.ireturn, 1) := by decide +kernel
theorem dX5_init_0 : decode cX5_init 0 = .ok (.aload_n 0, 1) := by decide +kernel
theorem dX5_init_1 : decode cX5_init 1 = .ok (.invokespecial 1, 3) := by decide +kernel
theorem dX5_init_4 : decode cX5_init 4 = .ok (.aload_n 0, 1) := by decide +kernel
theorem dX5_init_5 : decode cX5_init 5 = .ok (.iload_n 1, 1) := by decide +kernel
theorem dX5_init_6 : decode cX5_init 6 = .ok (.iconst 0, 1) := by decide +kernel
theorem dX5_init_7 : decode cX5_init 7 = .ok (.invokestatic 7, 3) := by decide +kernel
theorem dX5_init_10 : decode cX5_init 10 = .ok (.newarray .int, 2) := by decide +kernel
theorem dX5_init_12 : decode cX5_init 12 = .ok (.putfield 13, 3) := by decide +kernel
theorem dX5_init_15 : decode cX5_init 15 = .ok (.return_, 1) := by decide +kernel
theorem dX5_get_0 : decode cX5_get 0 = .ok (.iload_n 1, 1) := by decide +kernel
theorem dX5_get_1 : decode cX5_get 1 = .ok (.ifCond .lt 21, 3) := by decide +kernel
theorem dX5_get_4 : decode cX5_get 4 = .ok (.iload_n 1, 1) := by decide +kernel
theorem dX5_get_5 : decode cX5_get 5 = .ok (.aload_n 0, 1) := by decide +kernel
theorem dX5_get_6 : decode cX5_get 6 = .ok (.getfield 13, 3) := by decide +kernel
theorem dX5_get_9 : decode cX5_get 9 = .ok (.arraylength, 1) := by decide +kernel
theorem dX5_get_10 : decode cX5_get 10 = .ok (.if_icmp .ge 12, 3) := by decide +kernel
theorem dX5_get_13 : decode cX5_get 13 = .ok (.aload_n 0, 1) := by decide +kernel
theorem dX5_get_14 : decode cX5_get 14 = .ok (.getfield 13, 3) := by decide +kernel
theorem dX5_get_17 : decode cX5_get 17 = .ok (.iload_n 1, 1) := by decide +kernel
theorem dX5_get_18 : decode cX5_get 18 = .ok (.iaload, 1) := by decide +kernel
theorem dX5_get_19 : decode cX5_get 19 = .ok (.goto 4, 3) := by decide +kernel
theorem dX5_get_22 : decode cX5_get 22 = .ok (.iconst 0, 1) := by decide +kernel
theorem dX5_get_23 : decode cX5_get 23 = .ok (.ireturn, 1) := by decide +kernel
theorem dX5_set_0 : decode cX5_set 0 = .ok (.iload_n 1, 1) := by decide +kernel
theorem dX5_set_1 : decode cX5_set 1 = .ok (.ifCond .lt 19, 3) := by decide +kernel
theorem dX5_set_4 : decode cX5_set 4 = .ok (.iload_n 1, 1) := by decide +kernel
theorem dX5_set_5 : decode cX5_set 5 = .ok (.aload_n 0, 1) := by decide +kernel
theorem dX5_set_6 : decode cX5_set 6 = .ok (.getfield 13, 3) := by decide +kernel
theorem dX5_set_9 : decode cX5_set 9 = .ok (.arraylength, 1) := by decide +kernel
theorem dX5_set_10 : decode cX5_set 10 = .ok (.if_icmp .ge 10, 3) := by decide +kernel
theorem dX5_set_13 : decode cX5_set 13 = .ok (.aload_n 0, 1) := by decide +kernel
theorem dX5_set_14 : decode cX5_set 14 = .ok (.getfield 13, 3) := by decide +kernel
theorem dX5_set_17 : decode cX5_set 17 = .ok (.iload_n 1, 1) := by decide +kernel
theorem dX5_set_18 : decode cX5_set 18 = .ok (.iload_n 2, 1) := by decide +kernel
theorem dX5_set_19 : decode cX5_set 19 = .ok (.iastore, 1) := by decide +kernel
theorem dX5_set_20 : decode cX5_set 20 = .ok (.return_, 1) := by decide +kernel
theorem dX5_fill_0 : decode cX5_fill 0 = .ok (.iconst 0, 1) := by decide +kernel
theorem dX5_fill_1 : decode cX5_fill 1 = .ok (.istore_n 2, 1) := by decide +kernel
theorem dX5_fill_2 : decode cX5_fill 2 = .ok (.iload_n 2, 1) := by decide +kernel
theorem dX5_fill_3 : decode cX5_fill 3 = .ok (.aload_n 0, 1) := by decide +kernel
theorem dX5_fill_4 : decode cX5_fill 4 = .ok (.getfield 13, 3) := by decide +kernel
theorem dX5_fill_7 : decode cX5_fill 7 = .ok (.arraylength, 1) := by decide +kernel
theorem dX5_fill_8 : decode cX5_fill 8 = .ok (.if_icmp .ge 16, 3) := by decide +kernel
theorem dX5_fill_11 : decode cX5_fill 11 = .ok (.aload_n 0, 1) := by decide +kernel
theorem dX5_fill_12 : decode cX5_fill 12 = .ok (.getfield 13, 3) := by decide +kernel
theorem dX5_fill_15 : decode cX5_fill 15 = .ok (.iload_n 2, 1) := by decide +kernel
theorem dX5_fill_16 : decode cX5_fill 16 = .ok (.iload_n 1, 1) := by decide +kernel
theorem dX5_fill_17 : decode cX5_fill 17 = .ok (.iastore, 1) := by decide +kernel
theorem dX5_fill_18 : decode cX5_fill 18 = .ok (.iinc 2 1, 3) := by decide +kernel
theorem dX5_fill_21 : decode cX5_fill 21 = .ok (.goto (-19), 3) := by decide +kernel
theorem dX5_fill_24 : decode cX5_fill 24 = .ok (.return_, 1) := by decide +kernel
set_option maxRecDepth 20000 in
theorem ggX5_copyFrom_X5_get : GoodIn wsX5_copyFrom wsX5_get := goodIn_r _ [6, 1, 7] (by decide +kernel) (by decide +kernel)
set_option maxRecDepth 20000 in
theorem gX5_copyFrom_X5_get : GoodIn wsX5_copyFrom (wsV RX5 19 RX5 yX5_get wsX5_get) := goodIn_app (goodIn_of _ (by decide +kernel)) ggX5_copyFrom_X5_get
theorem dX5_copyFrom_0 : decode cX5_copyFrom 0 = .ok (.iconst 0, 1) := by decide +kernel
theorem dX5_copyFrom_1 : decode cX5_copyFrom 1 = .ok (.istore_n 2, 1) := by decide +kernel
theorem dX5_copyFrom_2 : decode cX5_copyFrom 2 = .ok (.iload_n 2, 1) := by decide +kernel
theorem dX5_copyFrom_3 : decode cX5_copyFrom 3 = .ok (.aload_n 0, 1) := by decide +kernel
theorem dX5_copyFrom_4 : decode cX5_copyFrom 4 = .ok (.getfield 13, 3) := by decide +kernel
theorem dX5_copyFrom_7 : decode cX5_copyFrom 7 = .ok (.arraylength, 1) := by decide +kernel
theorem dX5_copyFrom_8 : decode cX5_copyFrom 8 = .ok (.if_icmp .ge 20, 3) := by decide +kernel
theorem dX5_copyFrom_11 : decode cX5_copyFrom 11 = .ok (.aload_n 0, 1) := by decide +kernel
theorem dX5_copyFrom_12 : decode cX5_copyFrom 12 = .ok (.getfield 13, 3) := by decide +kernel
theorem dX5_copyFrom_15 : decode cX5_copyFrom 15 = .ok (.iload_n 2, 1) := by decide +kernel
theorem dX5_copyFrom_16 : decode cX5_copyFrom 16 = .ok (.aload_n 1, 1) := by decide +kernel
theorem dX5_copyFrom_17 : decode cX5_copyFrom 17 = .ok (.iload_n 2, 1) := by decide +kernel
theorem dX5_copyFrom_18 : decode cX5_copyFrom 18 = .ok (.invokevirtual 19, 3) := by decide +kernel
theorem dX5_copyFrom_21 : decode cX5_copyFrom 21 = .ok (.iastore, 1) := by decide +kernel
theorem dX5_copyFrom_22 : decode cX5_copyFrom 22 = .ok (.iinc 2 1, 3) := by decide +kernel
theorem dX5_copyFrom_25 : decode cX5_copyFrom 25 = .ok (.goto (-23), 3) := by decide +kernel
theorem dX5_copyFrom_28 : decode cX5_copyFrom 28 = .ok (.return_, 1) := by decide +kernel
set_option maxRecDepth 20000 in
theorem ggX6_init_X4_init : GoodIn wsX6_init wsX4_init := goodIn_r _ [32, 33, 2, 3, 34, 27, 28, 35, 36, 37, 38, 39, 40, 41, 9, 10, 42, 43, 44, 45, 46, 47, 48, 49, 50, 51, 52, 53, 54, 55, 56, 57, 58, 59, 60, 61, 62, 63, 116, 87, 88, 89, 90, 91, 92, 93, 94, 104, 105, 106, 107, 108] (by decide +kernel) (by decide +kernel)
set_option maxRecDepth 20000 in
theorem gX6_init_X4_init_n11 : GoodIn wsX6_init (wsX4_init) := ggX6_init_X4_init
set_option maxRecDepth 20000 in
theorem ggX6_init_X1_init : GoodIn wsX6_init wsX1_init := goodIn_r _ [55, 56, 2, 3, 57, 27, 28, 58, 59, 60, 61, 62, 63, 44, 45, 46, 47, 48, 49, 50, 51, 52, 116, 104, 105, 106, 107, 108] (by decide +kernel) (by decide +kernel)
set_option maxRecDepth 20000 in
theorem gX6_init_X1_init : GoodIn wsX6_init (wsX1_init) := ggX6_init_X1_init
set_option maxRecDepth 20000 in
theorem ggX6_init_X2_init : GoodIn wsX6_init wsX2_init := goodIn_r _ [66, 67, 2, 3, 68, 27, 28, 69, 70, 44, 45, 46, 47, 48, 49, 50, 51, 52, 116, 109] (by decide +kernel) (by decide +kernel)
set_option maxRecDepth 20000 in
theorem gX6_init_X2_init_n27 : GoodIn wsX6_init (wsX2_init) := ggX6_init_X2_init
set_option maxRecDepth 20000 in
theorem ggX6_init_X3_init : GoodIn wsX6_init wsX3_init := goodIn_r _ [72, 73, 2, 3, 74, 27, 28, 75, 76, 77, 44, 45, 46, 47, 48, 49, 50, 51, 52, 116, 110, 111] (by decide +kernel) (by decide +kernel)
set_option maxRecDepth 20000 in
theorem gX6_init_X3_init_n37 : GoodIn wsX6_init (wsX3_init) := ggX6_init_X3_init
set_option maxRecDepth 20000 in
theorem ggX6_init_X0_init : GoodIn wsX6_init wsX0_init := goodIn_r _ [79, 80, 2, 3, 81, 27, 28, 82, 83, 84, 85, 44, 45, 46, 47, 48, 49, 50, 51, 52, 116, 112, 113, 114, 115] (by decide +kernel) (by decide +kernel)
set_option maxRecDepth 20000 in
theorem gX6_init_X0_init_n44 : GoodIn wsX6_init (wsX0_init) := ggX6_init_X0_init
set_option maxRecDepth 20000 in
theorem ggX6_init_X5_init : GoodIn wsX6_init wsX5_init := goodIn_r _ [45, 46, 2, 3, 47, 48, 49, 50, 51, 52, 116] (by decide +kernel) (by decide +kernel)
set_option maxRecDepth 20000 in
theorem gX6_init_X5_init : GoodIn wsX6_init (wsX5_init) := ggX6_init_X5_init
theorem dX6_init_0 : decode cX6_init 0 = .ok (.aload_n 0, 1) := by decide +kernel
theorem dX6_init_1 : decode cX6_init 1 = .ok (.invokespecial 3, 3) := by decide +kernel
theorem dX6_init_4 : decode cX6_init 4 = .ok (.aload_n 0, 1) := by decide +kernel
theorem dX6_init_5 : decode cX6_init 5 = .ok (.new 9, 3) := by decide +kernel
theorem dX6_init_8 : decode cX6_init 8 = .ok (.dup, 1) := by decide +kernel
theorem dX6_init_9 : decode cX6_init 9 = .ok (.invokespecial 11, 3) := by decide +kernel
theorem dX6_init_12 : decode cX6_init 12 = .ok (.putfield 12, 3) := by decide +kernel
theorem dX6_init_15 : decode cX6_init 15 = .ok (.aload_n 0, 1) := by decide +kernel
theorem dX6_init_16 : decode cX6_init 16 = .ok (.new 16, 3) := by decide +kernel
theorem dX6_init_19 : decode cX6_init 19 = .ok (.dup, 1) := by decide +kernel
theorem dX6_init_20 : decode cX6_init 20 = .ok (.iconst 5, 1) := by decide +kernel
theorem dX6_init_21 : decode cX6_init 21 = .ok (.invokespecial 18, 3) := by decide +kernel
theorem dX6_init_24 : decode cX6_init 24 = .ok (.putfield 21, 3) := by decide +kernel
theorem dX6_init_27 : decode cX6_init 27 = .ok (.aload_n 0, 1) := by decide +kernel
theorem dX6_init_28 : decode cX6_init 28 = .ok (.new 25, 3) := by decide +kernel
theorem dX6_init_31 : decode cX6_init 31 = .ok (.dup, 1) := by decide +kernel
theorem dX6_init_32 : decode cX6_init 32 = .ok (.invokespecial 27, 3) := by decide +kernel
theorem dX6_init_35 : decode cX6_init 35 = .ok (.putfield 28, 3) := by decide +kernel
theorem dX6_init_38 : decode cX6_init 38 = .ok (.aload_n 0, 1) := by decide +kernel
theorem dX6_init_39 : decode cX6_init 39 = .ok (.new 25, 3) := by decide +kernel
theorem dX6_init_42 : decode cX6_init 42 = .ok (.dup, 1) := by decide +kernel
theorem dX6_init_43 : decode cX6_init 43 = .ok (.invokespecial 27, 3) := by decide +kernel
theorem dX6_init_46 : decode cX6_init 46 = .ok (.putfield 32, 3) := by decide +kernel
theorem dX6_init_49 : decode cX6_init 49 = .ok (.aload_n 0, 1) := by decide +kernel
theorem dX6_init_50 : decode cX6_init 50 = .ok (.new 35, 3) := by decide +kernel
theorem dX6_init_53 : decode cX6_init 53 = .ok (.dup, 1) := by decide +kernel
theorem dX6_init_54 : decode cX6_init 54 = .ok (.invokespecial 37, 3) := by decide +kernel
theorem dX6_init_57 : decode cX6_init 57 = .ok (.putfield 38, 3) := by decide +kernel
theorem dX6_init_60 : decode cX6_init 60 = .ok (.aload_n 0, 1) := by decide +kernel
theorem dX6_init_61 : decode cX6_init 61 = .ok (.new 42, 3) := by decide +kernel
theorem dX6_init_64 : decode cX6_init 64 = .ok (.dup, 1) := by decide +kernel
theorem dX6_init_65 : decode cX6_init 65 = .ok (.invokespecial 44, 3) := by decide +kernel
theorem dX6_init_68 : decode cX6_init 68 = .ok (.putfield 45, 3) := by decide +kernel
theorem dX6_init_71 : decode cX6_init 71 = .ok (.aload_n 0, 1) := by decide +kernel
theorem dX6_init_72 : decode cX6_init 72 = .ok (.new 42, 3) := by decide +kernel
theorem dX6_init_75 : decode cX6_init 75 = .ok (.dup, 1) := by decide +kernel
theorem dX6_init_76 : decode cX6_init 76 = .ok (.invokespecial 44, 3) := by decide +kernel
theorem dX6_init_79 : decode cX6_init 79 = .ok (.putfield 49, 3) := by decide +kernel
theorem dX6_init_82 : decode cX6_init 82 = .ok (.aload_n 0, 1) := by decide +kernel
theorem dX6_init_83 : decode cX6_init 83 = .ok (.new 52, 3) := by decide +kernel
theorem dX6_init_86 : decode cX6_init 86 = .ok (.dup, 1) := by decide +kernel
theorem dX6_init_87 : decode cX6_init 87 = .ok (.iconst 5, 1) := by decide +kernel
theorem dX6_init_88 : decode cX6_init 88 = .ok (.invokespecial 54, 3) := by decide +kernel
theorem dX6_init_91 : decode cX6_init 91 = .ok (.putfield 55, 3) := by decide +kernel
theorem dX6_init_94 : decode cX6_init 94 = .ok (.aload_n 0, 1) := by decide +kernel
theorem dX6_init_95 : decode cX6_init 95 = .ok (.iconst 2, 1) := by decide +kernel
theorem dX6_init_96 : decode cX6_init 96 = .ok (.putfield 59, 3) := by decide +kernel
theorem dX6_init_99 : decode cX6_init 99 = .ok (.return_, 1) := by decide +kernel
set_option maxRecDepth 20000 in
theorem ggX6_reset_X6_isWithin : GoodIn wsX6_reset wsX6_isWithin := goodIn_r _ [11] (by decide +kernel) (by decide +kernel)
set_option maxRecDepth 20000 in
theorem gX6_reset_X6_isWithin : GoodIn wsX6_reset (va_wsS RX6 63 yX6_isWithin wsX6_isWithin) := goodIn_app (goodIn_of _ (by decide +kernel)) ggX6_reset_X6_isWithin
set_option maxRecDepth 20000 in
theorem ggX6_reset_X4_clear : GoodIn wsX6_reset wsX4_clear := goodIn_r _ [16, 17, 18, 19, 20, 21, 22, 23, 24, 56, 57, 58, 59, 60, 61, 62, 63, 64] (by decide +kernel) (by decide +kernel)
set_option maxRecDepth 20000 in
theorem gX6_reset_X4_clear : GoodIn wsX6_reset (wsV RX6 68 RX4 yX4_clear wsX4_clear) := goodIn_app (goodIn_of _ (by decide +kernel)) ggX6_reset_X4_clear
set_option maxRecDepth 20000 in
theorem ggX6_reset_X1_clear : GoodIn wsX6_reset wsX1_clear := goodIn_r _ [29, 30, 31, 20, 21, 22, 23, 24, 65, 66, 67, 68, 69, 64] (by decide +kernel) (by decide +kernel)
set_option maxRecDepth 20000 in
theorem gX6_reset_X1_clear : GoodIn wsX6_reset (wsV RX6 71 RX1 yX1_clear wsX1_clear) := goodIn_app (goodIn_of _ (by decide +kernel)) ggX6_reset_X1_clear
set_option maxRecDepth 20000 in
theorem ggX6_reset_X2_clear : GoodIn wsX6_reset wsX2_clear := goodIn_r _ [36, 37, 38, 20, 21, 22, 23, 24, 70, 64] (by decide +kernel) (by decide +kernel)
set_option maxRecDepth 20000 in
theorem gX6_reset_X2_clear : GoodIn wsX6_reset (wsV RX6 72 RX2 yX2_clear wsX2_clear) := goodIn_app (goodIn_of _ (by decide +kernel)) ggX6_reset_X2_clear
set_option maxRecDepth 20000 in
theorem ggX6_reset_X3_clear : GoodIn wsX6_reset wsX3_clear := goodIn_r _ [43, 44, 45, 20, 21, 22, 23, 24, 71, 72, 64] (by decide +kernel) (by decide +kernel)
set_option maxRecDepth 20000 in
theorem gX6_reset_X3_clear : GoodIn wsX6_reset (wsV RX6 73 RX3 yX3_clear wsX3_clear) := goodIn_app (goodIn_of _ (by decide +kernel)) ggX6_reset_X3_clear
set_option maxRecDepth 20000 in
theorem ggX6_reset_X5_fill : GoodIn wsX6_reset wsX5_fill := goodIn_r _ [23, 24, 64] (by decide +kernel) (by decide +kernel)
set_option maxRecDepth 20000 in
theorem gX6_reset_X5_fill : GoodIn wsX6_reset (wsV RX6 74 RX5 yX5_fill wsX5_fill) := goodIn_app (goodIn_of _ (by decide +kernel)) ggX6_reset_X5_fill
theorem dX6_reset_0 : decode cX6_reset 0 = .ok (.iload_n 1, 1) := by decide +kernel
theorem dX6_reset_1 : decode cX6_reset 1 = .ok (.iconst 1, 1) := by decide +kernel
theorem dX6_reset_2 : decode cX6_reset 2 = .ok (.iconst 5, 1) := by decide +kernel
theorem dX6_reset_3 : decode cX6_reset 3 = .ok (.invokestatic 63, 3) := by decide +kernel
theorem dX6_reset_6 : decode cX6_reset 6 = .ok (.ifCond .ne 6, 3) := by decide +kernel
theorem dX6_reset_9 : decode cX6_reset 9 = .ok (.ldc 67, 2) := by decide +kernel
theorem dX6_reset_11 : decode cX6_reset 11 = .ok (.ireturn, 1) := by decide +kernel
theorem dX6_reset_12 : decode cX6_reset 12 = .ok (.aload_n 0, 1) := by decide +kernel
theorem dX6_reset_13 : decode cX6_reset 13 = .ok (.getfield 59, 3) := by decide +kernel
theorem dX6_reset_16 : decode cX6_reset 16 = .ok (.istore_n 2, 1) := by decide +kernel
theorem dX6_reset_17 : decode cX6_reset 17 = .ok (.aload_n 0, 1) := by decide +kernel
theorem dX6_reset_18 : decode cX6_reset 18 = .ok (.getfield 12, 3) := by decide +kernel
theorem dX6_reset_21 : decode cX6_reset 21 = .ok (.invokevirtual 68, 3) := by decide +kernel
theorem dX6_reset_24 : decode cX6_reset 24 = .ok (.aload_n 0, 1) := by decide +kernel
theorem dX6_reset_25 : decode cX6_reset 25 = .ok (.getfield 21, 3) := by decide +kernel
theorem dX6_reset_28 : decode cX6_reset 28 = .ok (.invokevirtual 71, 3) := by decide +kernel
theorem dX6_reset_31 : decode cX6_reset 31 = .ok (.aload_n 0, 1) := by decide +kernel
theorem dX6_reset_32 : decode cX6_reset 32 = .ok (.getfield 28, 3) := by decide +kernel
theorem dX6_reset_35 : decode cX6_reset 35 = .ok (.invokevirtual 72, 3) := by decide +kernel
theorem dX6_reset_38 : decode cX6_reset 38 = .ok (.aload_n 0, 1) := by decide +kernel
theorem dX6_reset_39 : decode cX6_reset 39 = .ok (.getfield 38, 3) := by decide +kernel
theorem dX6_reset_42 : decode cX6_reset 42 = .ok (.invokevirtual 73, 3) := by decide +kernel
theorem dX6_reset_45 : decode cX6_reset 45 = .ok (.aload_n 0, 1) := by decide +kernel
theorem dX6_reset_46 : decode cX6_reset 46 = .ok (.getfield 55, 3) := by decide +kernel
theorem dX6_reset_49 : decode cX6_reset 49 = .ok (.iconst 0, 1) := by decide +kernel
theorem dX6_reset_50 : decode cX6_reset 50 = .ok (.invokevirtual 74, 3) := by decide +kernel
theorem dX6_reset_53 : decode cX6_reset 53 = .ok (.aload_n 0, 1) := by decide +kernel
theorem dX6_reset_54 : decode cX6_reset 54 = .ok (.iload_n 1, 1) := by decide +kernel
theorem dX6_reset_55 : decode cX6_reset 55 = .ok (.putfield 59, 3) := by decide +kernel
theorem dX6_reset_58 : decode cX6_reset 58 = .ok (.iload_n 2, 1) := by decide +kernel
theorem dX6_reset_59 : decode cX6_reset 59 = .ok (.ireturn, 1) := by decide +kernel
theorem dX6_join_0 : decode cX6_join 0 = .ok (.aload_n 0, 1) := by decide +kernel
theorem dX6_join_1 : decode cX6_join 1 = .ok (.getfield 59, 3) := by decide +kernel
theorem dX6_join_4 : decode cX6_join 4 = .ok (.iconst 5, 1) := by decide +kernel
theorem dX6_join_5 : decode cX6_join 5 = .ok (.if_icmp .lt 6, 3) := by decide +kernel
theorem dX6_join_8 : decode cX6_join 8 = .ok (.ldc 77, 2) := by decide +kernel
theorem dX6_join_10 : decode cX6_join 10 = .ok (.ireturn, 1) := by decide +kernel
theorem dX6_join_11 : decode cX6_join 11 = .ok (.aload_n 0, 1) := by decide +kernel
theorem dX6_join_12 : decode cX6_join 12 = .ok (.dup, 1) := by decide +kernel
theorem dX6_join_13 : decode cX6_join 13 = .ok (.getfield 59, 3) := by decide +kernel
theorem dX6_join_16 : decode cX6_join 16 = .ok (.iconst 1, 1) := by decide +kernel
theorem dX6_join_17 : decode cX6_join 17 = .ok (.iadd, 1) := by decide +kernel
theorem dX6_join_18 : decode cX6_join 18 = .ok (.putfield 59, 3) := by decide +kernel
theorem dX6_join_21 : decode cX6_join 21 = .ok (.aload_n 0, 1) := by decide +kernel
theorem dX6_join_22 : decode cX6_join 22 = .ok (.getfield 59, 3) := by decide +kernel
theorem dX6_join_25 : decode cX6_join 25 = .ok (.iconst 1, 1) := by decide +kernel
theorem dX6_join_26 : decode cX6_join 26 = .ok (.isub, 1) := by decide +kernel
theorem dX6_join_27 : decode cX6_join 27 = .ok (.ireturn, 1) := by decide +kernel
theorem dX6_sites_0 : decode cX6_sites 0 = .ok (.aload_n 0, 1) := by decide +kernel
theorem dX6_sites_1 : decode cX6_sites 1 = .ok (.getfield 59, 3) := by decide +kernel
theorem dX6_sites_4 : decode cX6_sites 4 = .ok (.ireturn, 1) := by decide +kernel
set_option maxRecDepth 20000 in
theorem ggX6_siteInfo_X6_isSite : GoodIn wsX6_siteInfo wsX6_isSite := goodIn_r _ [11, 12, 13, 14, 10, 15, 116, 117, 118, 119, 120, 121, 122, 123, 124] (by decide +kernel) (by decide +kernel)
set_option maxRecDepth 20000 in
theorem gX6_siteInfo_X6_isSite : GoodIn wsX6_siteInfo (wsV RX6 78 RX6 yX6_isSite wsX6_isSite) := goodIn_app (goodIn_of _ (by decide +kernel)) ggX6_siteInfo_X6_isSite
set_option maxRecDepth 20000 in
theorem ggX6_siteInfo_X5_get : GoodIn wsX6_siteInfo wsX5_get := goodIn_r _ [20, 21, 125] (by decide +kernel) (by decide +kernel)
set_option maxRecDepth 20000 in
theorem gX6_siteInfo_X5_get : GoodIn wsX6_siteInfo (wsV RX6 82 RX5 yX5_get wsX5_get) := goodIn_app (goodIn_of _ (by decide +kernel)) ggX6_siteInfo_X5_get
set_option maxRecDepth 20000 in
theorem ggX6_siteInfo_X2_countOf : GoodIn wsX6_siteInfo wsX2_countOf := goodIn_r _ [26, 27, 28, 29, 25, 30, 31, 32, 17, 18, 19, 20, 21, 126, 125] (by decide +kernel) (by decide +kernel)
set_option maxRecDepth 20000 in
theorem gX6_siteInfo_X2_countOf : GoodIn wsX6_siteInfo (wsV RX6 86 RX2 yX2_countOf wsX2_countOf) := goodIn_app (goodIn_of _ (by decide +kernel)) ggX6_siteInfo_X2_countOf
set_option maxRecDepth 20000 in
theorem ggX6_siteInfo_X4_madeBy : GoodIn wsX6_siteInfo wsX4_madeBy := goodIn_r _ [37, 38, 39, 17, 18, 19, 20, 21, 127, 128, 129, 130, 131, 132, 133, 134, 125] (by decide +kernel) (by decide +kernel)
set_option maxRecDepth 20000 in
theorem gX6_siteInfo_X4_madeBy : GoodIn wsX6_siteInfo (wsV RX6 89 RX4 yX4_madeBy wsX4_madeBy) := goodIn_app (goodIn_of _ (by decide +kernel)) ggX6_siteInfo_X4_madeBy
set_option maxRecDepth 20000 in
theorem ggX6_siteInfo_X0_show : GoodIn wsX6_siteInfo wsX0_show := goodIn_r _ [44, 45, 46, 47, 48, 49, 50, 36, 51, 52, 53, 54, 55, 19, 56, 21, 57, 58, 59, 60, 61, 17, 18, 20, 62, 63, 64, 65, 66, 39, 67, 28, 29, 25, 30, 31, 32, 68, 69, 70, 43, 71, 72, 73, 74, 75, 76, 77, 78, 79, 80, 81, 82, 83, 84, 85, 86, 87, 88, 89, 90, 91, 92, 93, 94, 95, 96, 97, 98, 99, 100, 101, 102, 103, 104, 135, 136, 137, 138, 127, 128, 129, 130, 131, 132, 133, 134, 125, 126] (by decide +kernel) (by decide +kernel)
set_option maxRecDepth 20000 in
theorem gX6_siteInfo_X0_show : GoodIn wsX6_siteInfo (wsV RX6 92 RX0 yX0_show wsX0_show) := goodIn_app (goodIn_of _ (by decide +kernel)) ggX6_siteInfo_X0_show
set_option maxRecDepth 20000 in
theorem ggX6_siteInfo_X0_strokeCount : GoodIn wsX6_siteInfo wsX0_strokeCount := goodIn_r _ [108, 47, 135, 136, 137, 138] (by decide +kernel) (by decide +kernel)
set_option maxRecDepth 20000 in
theorem gX6_siteInfo_X0_strokeCount : GoodIn wsX6_siteInfo (wsV RX6 96 RX0 yX0_strokeCount wsX0_strokeCount) := goodIn_app (goodIn_of _ (by decide +kernel)) ggX6_siteInfo_X0_strokeCount
set_option maxRecDepth 20000 in
theorem ggX6_siteInfo_X1_pointCount : GoodIn wsX6_siteInfo wsX1_pointCount := goodIn_r _ [113, 114, 115, 17, 18, 19, 20, 21, 139, 140, 141, 142, 143, 125] (by decide +kernel) (by decide +kernel)
set_option maxRecDepth 20000 in
theorem gX6_siteInfo_X1_pointCount : GoodIn wsX6_siteInfo (wsV RX6 100 RX1 yX1_pointCount wsX1_pointCount) := goodIn_app (goodIn_of _ (by decide +kernel)) ggX6_siteInfo_X1_pointCount
theorem dX6_siteInfo_0 : decode cX6_siteInfo 0 = .ok (.aload_n 0, 1) := by decide +kernel
theorem dX6_siteInfo_1 : decode cX6_siteInfo 1 = .ok (.iload_n 1, 1) := by decide +kernel
theorem dX6_siteInfo_2 : decode cX6_siteInfo 2 = .ok (.invokevirtual 78, 3) := by decide +kernel
theorem dX6_siteInfo_5 : decode cX6_siteInfo 5 = .ok (.ifCond .ne 6, 3) := by decide +kernel
theorem dX6_siteInfo_8 : decode cX6_siteInfo 8 = .ok (.ldc 67, 2) := by decide +kernel
theorem dX6_siteInfo_10 : decode cX6_siteInfo 10 = .ok (.ireturn, 1) := by decide +kernel
theorem dX6_siteInfo_11 : decode cX6_siteInfo 11 = .ok (.iload_n 2, 1) := by decide +kernel
theorem dX6_siteInfo_12 : decode cX6_siteInfo 12 = .ok (.tableswitch 96 0 4 #[36, 45, 54, 63, 87], 36) := by decide +kernel
theorem dX6_siteInfo_48 : decode cX6_siteInfo 48 = .ok (.aload_n 0, 1) := by decide +kernel
theorem dX6_siteInfo_49 : decode cX6_siteInfo 49 = .ok (.getfield 55, 3) := by decide +kernel
theorem dX6_siteInfo_52 : decode cX6_siteInfo 52 = .ok (.iload_n 1, 1) := by decide +kernel
theorem dX6_siteInfo_53 : decode cX6_siteInfo 53 = .ok (.invokevirtual 82, 3) := by decide +kernel
theorem dX6_siteInfo_56 : decode cX6_siteInfo 56 = .ok (.ireturn, 1) := by decide +kernel
theorem dX6_siteInfo_57 : decode cX6_siteInfo 57 = .ok (.aload_n 0, 1) := by decide +kernel
theorem dX6_siteInfo_58 : decode cX6_siteInfo 58 = .ok (.getfield 28, 3) := by decide +kernel
theorem dX6_siteInfo_61 : decode cX6_siteInfo 61 = .ok (.iload_n 1, 1) := by decide +kernel
theorem dX6_siteInfo_62 : decode cX6_siteInfo 62 = .ok (.invokevirtual 86, 3) := by decide +kernel
theorem dX6_siteInfo_65 : decode cX6_siteInfo 65 = .ok (.ireturn, 1) := by decide +kernel
theorem dX6_siteInfo_66 : decode cX6_siteInfo 66 = .ok (.aload_n 0, 1) := by decide +kernel
theorem dX6_siteInfo_67 : decode cX6_siteInfo 67 = .ok (.getfield 12, 3) := by decide +kernel
theorem dX6_siteInfo_70 : decode cX6_siteInfo 70 = .ok (.iload_n 1, 1) := by decide +kernel
theorem dX6_siteInfo_71 : decode cX6_siteInfo 71 = .ok (.invokevirtual 89, 3) := by decide +kernel
theorem dX6_siteInfo_74 : decode cX6_siteInfo 74 = .ok (.ireturn, 1) := by decide +kernel
theorem dX6_siteInfo_75 : decode cX6_siteInfo 75 = .ok (.aload_n 0, 1) := by decide +kernel
theorem dX6_siteInfo_76 : decode cX6_siteInfo 76 = .ok (.getfield 45, 3) := by decide +kernel
theorem dX6_siteInfo_79 : decode cX6_siteInfo 79 = .ok (.aload_n 0, 1) := by decide +kernel
theorem dX6_siteInfo_80 : decode cX6_siteInfo 80 = .ok (.getfield 12, 3) := by decide +kernel
theorem dX6_siteInfo_83 : decode cX6_siteInfo 83 = .ok (.aload_n 0, 1) := by decide +kernel
theorem dX6_siteInfo_84 : decode cX6_siteInfo 84 = .ok (.getfield 28, 3) := by decide +kernel
theorem dX6_siteInfo_87 : decode cX6_siteInfo 87 = .ok (.iload_n 1, 1) := by decide +kernel
theorem dX6_siteInfo_88 : decode cX6_siteInfo 88 = .ok (.invokevirtual 92, 3) := by decide +kernel
theorem dX6_siteInfo_91 : decode cX6_siteInfo 91 = .ok (.aload_n 0, 1) := by decide +kernel
theorem dX6_siteInfo_92 : decode cX6_siteInfo 92 = .ok (.getfield 45, 3) := by decide +kernel
theorem dX6_siteInfo_95 : decode cX6_siteInfo 95 = .ok (.invokevirtual 96, 3) := by decide +kernel
theorem dX6_siteInfo_98 : decode cX6_siteInfo 98 = .ok (.ireturn, 1) := by decide +kernel
theorem dX6_siteInfo_99 : decode cX6_siteInfo 99 = .ok (.aload_n 0, 1) := by decide +kernel
theorem dX6_siteInfo_100 : decode cX6_siteInfo 100 = .ok (.getfield 21, 3) := by decide +kernel
theorem dX6_siteInfo_103 : decode cX6_siteInfo 103 = .ok (.iload_n 1, 1) := by decide +kernel
theorem dX6_siteInfo_104 : decode cX6_siteInfo 104 = .ok (.invokevirtual 100, 3) := by decide +kernel
theorem dX6_siteInfo_107 : decode cX6_siteInfo 107 = .ok (.ireturn, 1) := by decide +kernel
theorem dX6_siteInfo_108 : decode cX6_siteInfo 108 = .ok (.ldc 67, 2) := by decide +kernel
theorem dX6_siteInfo_110 : decode cX6_siteInfo 110 = .ok (.ireturn, 1) := by decide +kernel
set_option maxRecDepth 20000 in
theorem ggX6_penDown_X6_isSite : GoodIn wsX6_penDown wsX6_isSite := goodIn_r _ [7, 8, 9, 10, 6, 11, 44, 45, 46, 47, 48, 49, 50, 51, 52] (by decide +kernel) (by decide +kernel)
set_option maxRecDepth 20000 in
theorem gX6_penDown_X6_isSite : GoodIn wsX6_penDown (wsV RX6 78 RX6 yX6_isSite wsX6_isSite) := goodIn_app (goodIn_of _ (by decide +kernel)) ggX6_penDown_X6_isSite
set_option maxRecDepth 20000 in
theorem ggX6_penDown_X6_isWithin : GoodIn wsX6_penDown wsX6_isWithin := goodIn_r _ [11] (by decide +kernel) (by decide +kernel)
set_option maxRecDepth 20000 in
theorem gX6_penDown_X6_isWithin : GoodIn wsX6_penDown (va_wsS RX6 63 yX6_isWithin wsX6_isWithin) := goodIn_app (goodIn_of _ (by decide +kernel)) ggX6_penDown_X6_isWithin
set_option maxRecDepth 20000 in
theorem ggX6_penDown_X1_start : GoodIn wsX6_penDown wsX1_start := goodIn_r _ [16, 17, 18, 19, 20, 21, 15, 22, 23, 24, 25, 26, 27, 28, 29, 53, 54, 55, 56, 57, 58] (by decide +kernel) (by decide +kernel)
set_option maxRecDepth 20000 in
theorem gX6_penDown_X1_start : GoodIn wsX6_penDown (wsV RX6 103 RX1 yX1_start wsX1_start) := goodIn_app (goodIn_of _ (by decide +kernel)) ggX6_penDown_X1_start
set_option maxRecDepth 20000 in
theorem ggX6_penDown_X1_addPoint : GoodIn wsX6_penDown wsX1_addPoint := goodIn_r _ [33, 23, 34, 35, 36, 37, 38, 27, 39, 29, 24, 25, 26, 28, 53, 54, 55, 56, 57, 58] (by decide +kernel) (by decide +kernel)
set_option maxRecDepth 20000 in
theorem gX6_penDown_X1_addPoint : GoodIn wsX6_penDown (wsV RX6 107 RX1 yX1_addPoint wsX1_addPoint) := goodIn_app (goodIn_of _ (by decide +kernel)) ggX6_penDown_X1_addPoint
set_option maxRecDepth 20000 in
theorem ggX6_penDown_X1_pointCount : GoodIn wsX6_penDown wsX1_pointCount := goodIn_r _ [43, 23, 36, 37, 38, 27, 39, 29, 53, 54, 55, 56, 57, 58] (by decide +kernel) (by decide +kernel)
set_option maxRecDepth 20000 in
theorem gX6_penDown_X1_pointCount : GoodIn wsX6_penDown (wsV RX6 100 RX1 yX1_pointCount wsX1_pointCount) := goodIn_app (goodIn_of _ (by decide +kernel)) ggX6_penDown_X1_pointCount
theorem dX6_penDown_0 : decode cX6_penDown 0 = .ok (.aload_n 0, 1) := by decide +kernel
theorem dX6_penDown_1 : decode cX6_penDown 1 = .ok (.iload_n 1, 1) := by decide +kernel
theorem dX6_penDown_2 : decode cX6_penDown 2 = .ok (.invokevirtual 78, 3) := by decide +kernel
theorem dX6_penDown_5 : decode cX6_penDown 5 = .ok (.ifCond .eq 44, 3) := by decide +kernel
theorem dX6_penDown_8 : decode cX6_penDown 8 = .ok (.iload_n 2, 1) := by decide +kernel
theorem dX6_penDown_9 : decode cX6_penDown 9 = .ok (.iconst 0, 1) := by decide +kernel
theorem dX6_penDown_10 : decode cX6_penDown 10 = .ok (.bipush 63, 2) := by decide +kernel
theorem dX6_penDown_12 : decode cX6_penDown 12 = .ok (.invokestatic 63, 3) := by decide +kernel
theorem dX6_penDown_15 : decode cX6_penDown 15 = .ok (.ifCond .eq 34, 3) := by decide +kernel
theorem dX6_penDown_18 : decode cX6_penDown 18 = .ok (.iload_n 3, 1) := by decide +kernel
theorem dX6_penDown_19 : decode cX6_penDown 19 = .ok (.iconst 0, 1) := by decide +kernel
theorem dX6_penDown_20 : decode cX6_penDown 20 = .ok (.bipush 63, 2) := by decide +kernel
theorem dX6_penDown_22 : decode cX6_penDown 22 = .ok (.invokestatic 63, 3) := by decide +kernel
theorem dX6_penDown_25 : decode cX6_penDown 25 = .ok (.ifCond .eq 24, 3) := by decide +kernel
theorem dX6_penDown_28 : decode cX6_penDown 28 = .ok (.iload 4, 2) := by decide +kernel
theorem dX6_penDown_30 : decode cX6_penDown 30 = .ok (.iconst 0, 1) := by decide +kernel
theorem dX6_penDown_31 : decode cX6_penDown 31 = .ok (.bipush 7, 2) := by decide +kernel
theorem dX6_penDown_33 : decode cX6_penDown 33 = .ok (.invokestatic 63, 3) := by decide +kernel
theorem dX6_penDown_36 : decode cX6_penDown 36 = .ok (.ifCond .eq 13, 3) := by decide +kernel
theorem dX6_penDown_39 : decode cX6_penDown 39 = .ok (.iload 5, 2) := by decide +kernel
theorem dX6_penDown_41 : decode cX6_penDown 41 = .ok (.iconst 0, 1) := by decide +kernel
theorem dX6_penDown_42 : decode cX6_penDown 42 = .ok (.iconst 3, 1) := by decide +kernel
theorem dX6_penDown_43 : decode cX6_penDown 43 = .ok (.invokestatic 63, 3) := by decide +kernel
theorem dX6_penDown_46 : decode cX6_penDown 46 = .ok (.ifCond .ne 6, 3) := by decide +kernel
theorem dX6_penDown_49 : decode cX6_penDown 49 = .ok (.ldc 67, 2) := by decide +kernel
theorem dX6_penDown_51 : decode cX6_penDown 51 = .ok (.ireturn, 1) := by decide +kernel
theorem dX6_penDown_52 : decode cX6_penDown 52 = .ok (.aload_n 0, 1) := by decide +kernel
theorem dX6_penDown_53 : decode cX6_penDown 53 = .ok (.getfield 21, 3) := by decide +kernel
theorem dX6_penDown_56 : decode cX6_penDown 56 = .ok (.iload_n 1, 1) := by decide +kernel
theorem dX6_penDown_57 : decode cX6_penDown 57 = .ok (.iload 4, 2) := by decide +kernel
theorem dX6_penDown_59 : decode cX6_penDown 59 = .ok (.iload 5, 2) := by decide +kernel
theorem dX6_penDown_61 : decode cX6_penDown 61 = .ok (.invokevirtual 103, 3) := by decide +kernel
theorem dX6_penDown_64 : decode cX6_penDown 64 = .ok (.aload_n 0, 1) := by decide +kernel
theorem dX6_penDown_65 : decode cX6_penDown 65 = .ok (.getfield 21, 3) := by decide +kernel
theorem dX6_penDown_68 : decode cX6_penDown 68 = .ok (.iload_n 1, 1) := by decide +kernel
theorem dX6_penDown_69 : decode cX6_penDown 69 = .ok (.iload_n 2, 1) := by decide +kernel
theorem dX6_penDown_70 : decode cX6_penDown 70 = .ok (.iload_n 3, 1) := by decide +kernel
theorem dX6_penDown_71 : decode cX6_penDown 71 = .ok (.invokevirtual 107, 3) := by decide +kernel
theorem dX6_penDown_74 : decode cX6_penDown 74 = .ok (.aload_n 0, 1) := by decide +kernel
theorem dX6_penDown_75 : decode cX6_penDown 75 = .ok (.getfield 21, 3) := by decide +kernel
theorem dX6_penDown_78 : decode cX6_penDown 78 = .ok (.iload_n 1, 1) := by decide +kernel
theorem dX6_penDown_79 : decode cX6_penDown 79 = .ok (.invokevirtual 100, 3) := by decide +kernel
theorem dX6_penDown_82 : decode cX6_penDown 82 = .ok (.ireturn, 1) := by decide +kernel
set_option maxRecDepth 20000 in
theorem ggX6_penMove_X6_isSite : GoodIn wsX6_penMove wsX6_isSite := goodIn_r _ [9, 10, 11, 12, 8, 13, 44, 45, 46, 47, 48, 49, 50, 51, 52] (by decide +kernel) (by decide +kernel)
set_option maxRecDepth 20000 in
theorem gX6_penMove_X6_isSite : GoodIn wsX6_penMove (wsV RX6 78 RX6 yX6_isSite wsX6_isSite) := goodIn_app (goodIn_of _ (by decide +kernel)) ggX6_penMove_X6_isSite
set_option maxRecDepth 20000 in
theorem ggX6_penMove_X6_isWithin : GoodIn wsX6_penMove wsX6_isWithin := goodIn_r _ [13] (by decide +kernel) (by decide +kernel)
set_option maxRecDepth 20000 in
theorem gX6_penMove_X6_isWithin : GoodIn wsX6_penMove (va_wsS RX6 63 yX6_isWithin wsX6_isWithin) := goodIn_app (goodIn_of _ (by decide +kernel)) ggX6_penMove_X6_isWithin
set_option maxRecDepth 20000 in
theorem ggX6_penMove_X1_pointCount : GoodIn wsX6_penMove wsX1_pointCount := goodIn_r _ [18, 19, 20, 21, 22, 23, 24, 25, 53, 54, 55, 56, 57, 58] (by decide +kernel) (by decide +kernel)
set_option maxRecDepth 20000 in
theorem gX6_penMove_X1_pointCount : GoodIn wsX6_penMove (wsV RX6 100 RX1 yX1_pointCount wsX1_pointCount) := goodIn_app (goodIn_of _ (by decide +kernel)) ggX6_penMove_X1_pointCount
set_option maxRecDepth 20000 in
theorem ggX6_penMove_X1_xOf : GoodIn wsX6_penMove wsX1_xOf := goodIn_r _ [29, 30, 20, 21, 22, 23, 24, 25, 53, 54, 55, 56, 57, 58] (by decide +kernel) (by decide +kernel)
set_option maxRecDepth 20000 in
theorem gX6_penMove_X1_xOf : GoodIn wsX6_penMove (wsV RX6 111 RX1 yX1_xOf wsX1_xOf) := goodIn_app (goodIn_of _ (by decide +kernel)) ggX6_penMove_X1_xOf
set_option maxRecDepth 20000 in
theorem ggX6_penMove_X1_yOf : GoodIn wsX6_penMove wsX1_yOf := goodIn_r _ [34, 35, 20, 21, 22, 23, 24, 25, 53, 54, 55, 56, 57, 58] (by decide +kernel) (by decide +kernel)
set_option maxRecDepth 20000 in
theorem gX6_penMove_X1_yOf : GoodIn wsX6_penMove (wsV RX6 115 RX1 yX1_yOf wsX1_yOf) := goodIn_app (goodIn_of _ (by decide +kernel)) ggX6_penMove_X1_yOf
set_option maxRecDepth 20000 in
theorem ggX6_penMove_X1_addPoint : GoodIn wsX6_penMove wsX1_addPoint := goodIn_r _ [39, 19, 30, 35, 20, 21, 22, 23, 24, 25, 40, 41, 42, 43, 53, 54, 55, 56, 57, 58] (by decide +kernel) (by decide +kernel)
set_option maxRecDepth 20000 in
theorem gX6_penMove_X1_addPoint : GoodIn wsX6_penMove (wsV RX6 107 RX1 yX1_addPoint wsX1_addPoint) := goodIn_app (goodIn_of _ (by decide +kernel)) ggX6_penMove_X1_addPoint
theorem dX6_penMove_0 : decode cX6_penMove 0 = .ok (.aload_n 0, 1) := by decide +kernel
theorem dX6_penMove_1 : decode cX6_penMove 1 = .ok (.iload_n 1, 1) := by decide +kernel
theorem dX6_penMove_2 : decode cX6_penMove 2 = .ok (.invokevirtual 78, 3) := by decide +kernel
theorem dX6_penMove_5 : decode cX6_penMove 5 = .ok (.ifCond .eq 25, 3) := by decide +kernel
theorem dX6_penMove_8 : decode cX6_penMove 8 = .ok (.iload_n 2, 1) := by decide +kernel
theorem dX6_penMove_9 : decode cX6_penMove 9 = .ok (.bipush (-8), 2) := by decide +kernel
theorem dX6_penMove_11 : decode cX6_penMove 11 = .ok (.bipush 8, 2) := by decide +kernel
theorem dX6_penMove_13 : decode cX6_penMove 13 = .ok (.invokestatic 63, 3) := by decide +kernel
theorem dX6_penMove_16 : decode cX6_penMove 16 = .ok (.ifCond .eq 14, 3) := by decide +kernel
theorem dX6_penMove_19 : decode cX6_penMove 19 = .ok (.iload_n 3, 1) := by decide +kernel
theorem dX6_penMove_20 : decode cX6_penMove 20 = .ok (.bipush (-8), 2) := by decide +kernel
theorem dX6_penMove_22 : decode cX6_penMove 22 = .ok (.bipush 8, 2) := by decide +kernel
theorem dX6_penMove_24 : decode cX6_penMove 24 = .ok (.invokestatic 63, 3) := by decide +kernel
theorem dX6_penMove_27 : decode cX6_penMove 27 = .ok (.ifCond .ne 6, 3) := by decide +kernel
theorem dX6_penMove_30 : decode cX6_penMove 30 = .ok (.ldc 67, 2) := by decide +kernel
theorem dX6_penMove_32 : decode cX6_penMove 32 = .ok (.ireturn, 1) := by decide +kernel
theorem dX6_penMove_33 : decode cX6_penMove 33 = .ok (.aload_n 0, 1) := by decide +kernel
theorem dX6_penMove_34 : decode cX6_penMove 34 = .ok (.getfield 21, 3) := by decide +kernel
theorem dX6_penMove_37 : decode cX6_penMove 37 = .ok (.iload_n 1, 1) := by decide +kernel
theorem dX6_penMove_38 : decode cX6_penMove 38 = .ok (.invokevirtual 100, 3) := by decide +kernel
theorem dX6_penMove_41 : decode cX6_penMove 41 = .ok (.istore 4, 2) := by decide +kernel
theorem dX6_penMove_43 : decode cX6_penMove 43 = .ok (.iload 4, 2) := by decide +kernel
theorem dX6_penMove_45 : decode cX6_penMove 45 = .ok (.ifCond .ne 6, 3) := by decide +kernel
theorem dX6_penMove_48 : decode cX6_penMove 48 = .ok (.ldc 110, 2) := by decide +kernel
theorem dX6_penMove_50 : decode cX6_penMove 50 = .ok (.ireturn, 1) := by decide +kernel
theorem dX6_penMove_51 : decode cX6_penMove 51 = .ok (.iload 4, 2) := by decide +kernel
theorem dX6_penMove_53 : decode cX6_penMove 53 = .ok (.bipush 8, 2) := by decide +kernel
theorem dX6_penMove_55 : decode cX6_penMove 55 = .ok (.if_icmp .lt 6, 3) := by decide +kernel
theorem dX6_penMove_58 : decode cX6_penMove 58 = .ok (.ldc 77, 2) := by decide +kernel
theorem dX6_penMove_60 : decode cX6_penMove 60 = .ok (.ireturn, 1) := by decide +kernel
theorem dX6_penMove_61 : decode cX6_penMove 61 = .ok (.aload_n 0, 1) := by decide +kernel
theorem dX6_penMove_62 : decode cX6_penMove 62 = .ok (.getfield 21, 3) := by decide +kernel
theorem dX6_penMove_65 : decode cX6_penMove 65 = .ok (.iload_n 1, 1) := by decide +kernel
theorem dX6_penMove_66 : decode cX6_penMove 66 = .ok (.aload_n 0, 1) := by decide +kernel
theorem dX6_penMove_67 : decode cX6_penMove 67 = .ok (.getfield 21, 3) := by decide +kernel
theorem dX6_penMove_70 : decode cX6_penMove 70 = .ok (.iload_n 1, 1) := by decide +kernel
theorem dX6_penMove_71 : decode cX6_penMove 71 = .ok (.iload 4, 2) := by decide +kernel
theorem dX6_penMove_73 : decode cX6_penMove 73 = .ok (.iconst 1, 1) := by decide +kernel
theorem dX6_penMove_74 : decode cX6_penMove 74 = .ok (.isub, 1) := by decide +kernel
theorem dX6_penMove_75 : decode cX6_penMove 75 = .ok (.invokevirtual 111, 3) := by decide +kernel
theorem dX6_penMove_78 : decode cX6_penMove 78 = .ok (.iload_n 2, 1) := by decide +kernel
theorem dX6_penMove_79 : decode cX6_penMove 79 = .ok (.iadd, 1) := by decide +kernel
theorem dX6_penMove_80 : decode cX6_penMove 80 = .ok (.aload_n 0, 1) := by decide +kernel
theorem dX6_penMove_81 : decode cX6_penMove 81 = .ok (.getfield 21, 3) := by decide +kernel
theorem dX6_penMove_84 : decode cX6_penMove 84 = .ok (.iload_n 1, 1) := by decide +kernel
theorem dX6_penMove_85 : decode cX6_penMove 85 = .ok (.iload 4, 2) := by decide +kernel
theorem dX6_penMove_87 : decode cX6_penMove 87 = .ok (.iconst 1, 1) := by decide +kernel
theorem dX6_penMove_88 : decode cX6_penMove 88 = .ok (.isub, 1) := by decide +kernel
theorem dX6_penMove_89 : decode cX6_penMove 89 = .ok (.invokevirtual 115, 3) := by decide +kernel
theorem dX6_penMove_92 : decode cX6_penMove 92 = .ok (.iload_n 3, 1) := by decide +kernel
theorem dX6_penMove_93 : decode cX6_penMove 93 = .ok (.iadd, 1) := by decide +kernel
theorem dX6_penMove_94 : decode cX6_penMove 94 = .ok (.invokevirtual 107, 3) := by decide +kernel
theorem dX6_penMove_97 : decode cX6_penMove 97 = .ok (.aload_n 0, 1) := by decide +kernel
theorem dX6_penMove_98 : decode cX6_penMove 98 = .ok (.getfield 21, 3) := by decide +kernel
theorem dX6_penMove_101 : decode cX6_penMove 101 = .ok (.iload_n 1, 1) := by decide +kernel
theorem dX6_penMove_102 : decode cX6_penMove 102 = .ok (.invokevirtual 100, 3) := by decide +kernel
theorem dX6_penMove_105 : decode cX6_penMove 105 = .ok (.ireturn, 1) := by decide +kernel
set_option maxRecDepth 20000 in
theorem ggX6_penUp_X6_isSite : GoodIn wsX6_penUp wsX6_isSite := goodIn_r _ [10, 11, 12, 13, 9, 14, 144, 145, 146, 147, 148, 149, 150, 151, 152] (by decide +kernel) (by decide +kernel)
set_option maxRecDepth 20000 in
theorem gX6_penUp_X6_isSite : GoodIn wsX6_penUp (wsV RX6 78 RX6 yX6_isSite wsX6_isSite) := goodIn_app (goodIn_of _ (by decide +kernel)) ggX6_penUp_X6_isSite
set_option maxRecDepth 20000 in
theorem ggX6_penUp_X1_pointCount : GoodIn wsX6_penUp wsX1_pointCount := goodIn_r _ [19, 20, 21, 22, 23, 24, 25, 26, 153, 154, 155, 156, 157, 158] (by decide +kernel) (by decide +kernel)
set_option maxRecDepth 20000 in
theorem gX6_penUp_X1_pointCount : GoodIn wsX6_penUp (wsV RX6 100 RX1 yX1_pointCount wsX1_pointCount) := goodIn_app (goodIn_of _ (by decide +kernel)) ggX6_penUp_X1_pointCount
set_option maxRecDepth 20000 in
theorem ggX6_penUp_X6_hasMadeAll : GoodIn wsX6_penUp wsX6_hasMadeAll := goodIn_r _ [30, 5, 31, 32, 33, 34, 35, 36, 37, 22, 23, 24, 25, 26, 144, 145, 146, 147, 148, 149, 150, 151, 152, 159, 160, 161, 162, 163, 164, 165, 166, 158] (by decide +kernel) (by decide +kernel)
set_option maxRecDepth 20000 in
theorem gX6_penUp_X6_hasMadeAll : GoodIn wsX6_penUp (wsV RX6 118 RX6 yX6_hasMadeAll wsX6_hasMadeAll) := goodIn_app (goodIn_of _ (by decide +kernel)) ggX6_penUp_X6_hasMadeAll
set_option maxRecDepth 20000 in
theorem ggX6_penUp_X6_tick : GoodIn wsX6_penUp wsX6_tick := goodIn_r _ [41, 42, 43, 22, 23, 24, 25, 26, 44, 45, 46, 47, 144, 145, 146, 147, 148, 149, 150, 151, 152, 158] (by decide +kernel) (by decide +kernel)
set_option maxRecDepth 20000 in
theorem gX6_penUp_X6_tick : GoodIn wsX6_penUp (wsV RX6 121 RX6 yX6_tick wsX6_tick) := goodIn_app (goodIn_of _ (by decide +kernel)) ggX6_penUp_X6_tick
set_option maxRecDepth 20000 in
theorem ggX6_penUp_X4_addStroke : GoodIn wsX6_penUp wsX4_addStroke := goodIn_r _ [51, 52, 53, 54, 55, 56, 34, 57, 36, 58, 59, 37, 22, 23, 24, 25, 26, 60, 9, 61, 62, 45, 46, 47, 63, 64, 65, 66, 67, 68, 69, 70, 71, 72, 73, 74, 75, 76, 77, 78, 79, 80, 81, 18, 82, 83, 16, 17, 19, 20, 21, 84, 85, 86, 87, 88, 89, 90, 91, 92, 93, 94, 95, 96, 97, 98, 99, 100, 101, 102, 103, 104, 105, 106, 107, 108, 109, 110, 111, 112, 113, 114, 115, 116, 117, 159, 160, 161, 162, 163, 164, 165, 166, 158, 153, 154, 155, 156, 157] (by decide +kernel) (by decide +kernel)
set_option maxRecDepth 20000 in
theorem gX6_penUp_X4_addStroke : GoodIn wsX6_penUp (wsV RX6 124 RX4 yX4_addStroke wsX4_addStroke) := goodIn_app (goodIn_of _ (by decide +kernel)) ggX6_penUp_X4_addStroke
set_option maxRecDepth 20000 in
theorem ggX6_penUp_X1_empty : GoodIn wsX6_penUp wsX1_empty := goodIn_r _ [101, 20, 102, 45, 46, 24, 47, 26, 153, 154, 155, 156, 157, 158] (by decide +kernel) (by decide +kernel)
set_option maxRecDepth 20000 in
theorem gX6_penUp_X1_empty : GoodIn wsX6_penUp (wsV RX6 128 RX1 yX1_empty wsX1_empty) := goodIn_app (goodIn_of _ (by decide +kernel)) ggX6_penUp_X1_empty
set_option maxRecDepth 20000 in
theorem ggX6_penUp_X6_publish : GoodIn wsX6_penUp wsX6_publish := goodIn_r _ [122, 123, 11, 124, 125, 126, 127, 128, 129, 130, 131, 45, 46, 24, 47, 26, 132, 133, 134, 135, 136, 137, 138, 139, 22, 23, 25, 140, 144, 145, 146, 147, 148, 149, 150, 151, 152, 167, 158, 168, 169] (by decide +kernel) (by decide +kernel)
set_option maxRecDepth 20000 in
theorem gX6_penUp_X6_publish : GoodIn wsX6_penUp (wsV RX6 131 RX6 yX6_publish wsX6_publish) := goodIn_app (goodIn_of _ (by decide +kernel)) ggX6_penUp_X6_publish
set_option maxRecDepth 20000 in
theorem ggX6_penUp_X6_numberOf : GoodIn wsX6_penUp wsX6_numberOf := goodIn_r _ [143] (by decide +kernel) (by decide +kernel)
set_option maxRecDepth 20000 in
theorem gX6_penUp_X6_numberOf : GoodIn wsX6_penUp (va_wsS RX6 135 yX6_numberOf wsX6_numberOf) := goodIn_app (goodIn_of _ (by decide +kernel)) ggX6_penUp_X6_numberOf
theorem dX6_penUp_0 : decode cX6_penUp 0 = .ok (.aload_n 0, 1) := by decide +kernel
theorem dX6_penUp_1 : decode cX6_penUp 1 = .ok (.iload_n 1, 1) := by decide +kernel
theorem dX6_penUp_2 : decode cX6_penUp 2 = .ok (.invokevirtual 78, 3) := by decide +kernel
theorem dX6_penUp_5 : decode cX6_penUp 5 = .ok (.ifCond .ne 6, 3) := by decide +kernel
theorem dX6_penUp_8 : decode cX6_penUp 8 = .ok (.ldc 67, 2) := by decide +kernel
theorem dX6_penUp_10 : decode cX6_penUp 10 = .ok (.ireturn, 1) := by decide +kernel
theorem dX6_penUp_11 : decode cX6_penUp 11 = .ok (.aload_n 0, 1) := by decide +kernel
theorem dX6_penUp_12 : decode cX6_penUp 12 = .ok (.getfield 21, 3) := by decide +kernel
theorem dX6_penUp_15 : decode cX6_penUp 15 = .ok (.iload_n 1, 1) := by decide +kernel
theorem dX6_penUp_16 : decode cX6_penUp 16 = .ok (.invokevirtual 100, 3) := by decide +kernel
theorem dX6_penUp_19 : decode cX6_penUp 19 = .ok (.ifCond .ne 6, 3) := by decide +kernel
theorem dX6_penUp_22 : decode cX6_penUp 22 = .ok (.ldc 110, 2) := by decide +kernel
theorem dX6_penUp_24 : decode cX6_penUp 24 = .ok (.ireturn, 1) := by decide +kernel
theorem dX6_penUp_25 : decode cX6_penUp 25 = .ok (.aload_n 0, 1) := by decide +kernel
theorem dX6_penUp_26 : decode cX6_penUp 26 = .ok (.iload_n 1, 1) := by decide +kernel
theorem dX6_penUp_27 : decode cX6_penUp 27 = .ok (.invokevirtual 118, 3) := by decide +kernel
theorem dX6_penUp_30 : decode cX6_penUp 30 = .ok (.ifCond .eq 6, 3) := by decide +kernel
theorem dX6_penUp_33 : decode cX6_penUp 33 = .ok (.ldc 77, 2) := by decide +kernel
theorem dX6_penUp_35 : decode cX6_penUp 35 = .ok (.ireturn, 1) := by decide +kernel
theorem dX6_penUp_36 : decode cX6_penUp 36 = .ok (.aload_n 0, 1) := by decide +kernel
theorem dX6_penUp_37 : decode cX6_penUp 37 = .ok (.getfield 12, 3) := by decide +kernel
theorem dX6_penUp_40 : decode cX6_penUp 40 = .ok (.iload_n 1, 1) := by decide +kernel
theorem dX6_penUp_41 : decode cX6_penUp 41 = .ok (.aload_n 0, 1) := by decide +kernel
theorem dX6_penUp_42 : decode cX6_penUp 42 = .ok (.iload_n 1, 1) := by decide +kernel
theorem dX6_penUp_43 : decode cX6_penUp 43 = .ok (.invokevirtual 121, 3) := by decide +kernel
theorem dX6_penUp_46 : decode cX6_penUp 46 = .ok (.aload_n 0, 1) := by decide +kernel
theorem dX6_penUp_47 : decode cX6_penUp 47 = .ok (.getfield 21, 3) := by decide +kernel
theorem dX6_penUp_50 : decode cX6_penUp 50 = .ok (.invokevirtual 124, 3) := by decide +kernel
theorem dX6_penUp_53 : decode cX6_penUp 53 = .ok (.istore_n 2, 1) := by decide +kernel
theorem dX6_penUp_54 : decode cX6_penUp 54 = .ok (.aload_n 0, 1) := by decide +kernel
theorem dX6_penUp_55 : decode cX6_penUp 55 = .ok (.getfield 21, 3) := by decide +kernel
theorem dX6_penUp_58 : decode cX6_penUp 58 = .ok (.iload_n 1, 1) := by decide +kernel
theorem dX6_penUp_59 : decode cX6_penUp 59 = .ok (.invokevirtual 128, 3) := by decide +kernel
theorem dX6_penUp_62 : decode cX6_penUp 62 = .ok (.aload_n 0, 1) := by decide +kernel
theorem dX6_penUp_63 : decode cX6_penUp 63 = .ok (.iload_n 1, 1) := by decide +kernel
theorem dX6_penUp_64 : decode cX6_penUp 64 = .ok (.iload_n 2, 1) := by decide +kernel
theorem dX6_penUp_65 : decode cX6_penUp 65 = .ok (.invokevirtual 131, 3) := by decide +kernel
theorem dX6_penUp_68 : decode cX6_penUp 68 = .ok (.iload_n 2, 1) := by decide +kernel
theorem dX6_penUp_69 : decode cX6_penUp 69 = .ok (.invokestatic 135, 3) := by decide +kernel
theorem dX6_penUp_72 : decode cX6_penUp 72 = .ok (.ireturn, 1) := by decide +kernel
set_option maxRecDepth 20000 in
theorem ggX6_undo_X6_isSite : GoodIn wsX6_undo wsX6_isSite := goodIn_r _ [6, 7, 8, 9, 5, 10, 169, 170, 171, 172, 173, 174, 175, 176, 177] (by decide +kernel) (by decide +kernel)
set_option maxRecDepth 20000 in
theorem gX6_undo_X6_isSite : GoodIn wsX6_undo (wsV RX6 78 RX6 yX6_isSite wsX6_isSite) := goodIn_app (goodIn_of _ (by decide +kernel)) ggX6_undo_X6_isSite
set_option maxRecDepth 20000 in
theorem ggX6_undo_X6_lastVisibleOwn : GoodIn wsX6_undo wsX6_lastVisibleOwn := goodIn_r _ [14, 15, 16, 17, 18, 19, 20, 21, 22, 23, 24, 25, 26, 27, 28, 29, 30, 31, 32, 33, 34, 35, 36, 37, 38, 39, 40, 41, 42, 43, 44, 45, 46, 47, 48, 49, 50, 51, 52, 53, 54, 55, 56, 57, 58, 59, 60, 61, 62, 63, 64, 65, 66, 67, 68, 69, 70, 71, 72, 73, 74, 75, 76, 77, 78, 79, 80, 81, 82, 83, 84, 85, 86, 87, 88, 89, 90, 91, 92, 93, 94, 95, 96, 97, 98, 99, 100, 101, 102, 5, 103, 104, 105, 169, 170, 171, 172, 173, 174, 175, 176, 177, 178, 179, 180, 181, 182, 183, 184, 185, 186, 187, 188, 189, 190, 191] (by decide +kernel) (by decide +kernel)
set_option maxRecDepth 20000 in
theorem gX6_undo_X6_lastVisibleOwn : GoodIn wsX6_undo (wsV RX6 138 RX6 yX6_lastVisibleOwn wsX6_lastVisibleOwn) := goodIn_app (goodIn_of _ (by decide +kernel)) ggX6_undo_X6_lastVisibleOwn
set_option maxRecDepth 20000 in
theorem ggX6_undo_X6_changeOwn : GoodIn wsX6_undo wsX6_changeOwn := goodIn_r _ [109, 110, 111, 16, 112, 113, 114, 5, 115, 96, 97, 98, 29, 99, 100, 51, 43, 44, 35, 45, 37, 116, 117, 118, 119, 120, 121, 122, 74, 75, 76, 123, 124, 125, 126, 67, 81, 127, 128, 129, 130, 131, 72, 102, 103, 132, 133, 134, 135, 136, 31, 50, 137, 138, 139, 140, 141, 142, 143, 144, 145, 146, 147, 148, 149, 150, 17, 7, 151, 152, 153, 154, 55, 155, 57, 156, 157, 158, 159, 160, 161, 162, 163, 164, 165, 166, 167, 168, 169, 170, 171, 172, 173, 174, 175, 176, 177, 182, 183, 184, 185, 186, 187, 188, 189, 190, 191, 192, 193] (by decide +kernel) (by decide +kernel)
set_option maxRecDepth 20000 in
theorem gX6_undo_X6_changeOwn : GoodIn wsX6_undo (wsV RX6 141 RX6 yX6_changeOwn wsX6_changeOwn) := goodIn_app (goodIn_of _ (by decide +kernel)) ggX6_undo_X6_changeOwn
theorem dX6_undo_0 : decode cX6_undo 0 = .ok (.aload_n 0, 1) := by decide +kernel
theorem dX6_undo_1 : decode cX6_undo 1 = .ok (.iload_n 1, 1) := by decide +kernel
theorem dX6_undo_2 : decode cX6_undo 2 = .ok (.invokevirtual 78, 3) := by decide +kernel
theorem dX6_undo_5 : decode cX6_undo 5 = .ok (.ifCond .ne 6, 3) := by decide +kernel
theorem dX6_undo_8 : decode cX6_undo 8 = .ok (.ldc 67, 2) := by decide +kernel
theorem dX6_undo_10 : decode cX6_undo 10 = .ok (.ireturn, 1) := by decide +kernel
theorem dX6_undo_11 : decode cX6_undo 11 = .ok (.aload_n 0, 1) := by decide +kernel
theorem dX6_undo_12 : decode cX6_undo 12 = .ok (.iload_n 1, 1) := by decide +kernel
theorem dX6_undo_13 : decode cX6_undo 13 = .ok (.iconst 1, 1) := by decide +kernel
theorem dX6_undo_14 : decode cX6_undo 14 = .ok (.aload_n 0, 1) := by decide +kernel
theorem dX6_undo_15 : decode cX6_undo 15 = .ok (.iload_n 1, 1) := by decide +kernel
theorem dX6_undo_16 : decode cX6_undo 16 = .ok (.invokevirtual 138, 3) := by decide +kernel
theorem dX6_undo_19 : decode cX6_undo 19 = .ok (.invokevirtual 141, 3) := by decide +kernel
theorem dX6_undo_22 : decode cX6_undo 22 = .ok (.ireturn, 1) := by decide +kernel
set_option maxRecDepth 20000 in
theorem ggX6_redo_X6_isSite : GoodIn wsX6_redo wsX6_isSite := goodIn_r _ [6, 7, 8, 9, 5, 10, 170, 171, 172, 173, 174, 175, 176, 177, 178] (by decide +kernel) (by decide +kernel)
set_option maxRecDepth 20000 in
theorem gX6_redo_X6_isSite : GoodIn wsX6_redo (wsV RX6 78 RX6 yX6_isSite wsX6_isSite) := goodIn_app (goodIn_of _ (by decide +kernel)) ggX6_redo_X6_isSite
set_option maxRecDepth 20000 in
theorem ggX6_redo_X6_lastUndoneOwn : GoodIn wsX6_redo wsX6_lastUndoneOwn := goodIn_r _ [14, 15, 16, 17, 18, 19, 20, 21, 22, 23, 24, 25, 26, 27, 28, 29, 30, 31, 32, 33, 34, 35, 36, 37, 38, 39, 40, 41, 42, 43, 44, 45, 46, 47, 48, 49, 50, 51, 52, 53, 54, 55, 56, 57, 58, 59, 60, 61, 62, 63, 64, 65, 66, 67, 68, 69, 70, 71, 72, 73, 74, 75, 76, 77, 78, 79, 80, 81, 82, 83, 84, 85, 86, 87, 88, 89, 90, 91, 92, 93, 94, 95, 96, 97, 98, 99, 100, 101, 102, 5, 103, 104, 105, 106, 170, 171, 172, 173, 174, 175, 176, 177, 178, 179, 180, 181, 182, 183, 184, 185, 186, 187, 188, 189, 190, 191, 192] (by decide +kernel) (by decide +kernel)
set_option maxRecDepth 20000 in
theorem gX6_redo_X6_lastUndoneOwn : GoodIn wsX6_redo (wsV RX6 145 RX6 yX6_lastUndoneOwn wsX6_lastUndoneOwn) := goodIn_app (goodIn_of _ (by decide +kernel)) ggX6_redo_X6_lastUndoneOwn
set_option maxRecDepth 20000 in
theorem ggX6_redo_X6_changeOwn : GoodIn wsX6_redo wsX6_changeOwn := goodIn_r _ [110, 111, 112, 16, 113, 114, 115, 5, 116, 96, 97, 98, 29, 99, 100, 51, 43, 44, 35, 45, 37, 117, 118, 119, 120, 121, 122, 123, 74, 75, 76, 124, 125, 126, 127, 67, 81, 128, 129, 130, 131, 132, 72, 102, 103, 133, 134, 135, 136, 137, 31, 50, 138, 139, 140, 141, 142, 143, 144, 145, 146, 147, 148, 149, 150, 151, 17, 7, 152, 153, 154, 155, 55, 156, 57, 157, 158, 159, 160, 161, 162, 163, 164, 165, 166, 167, 168, 169, 170, 171, 172, 173, 174, 175, 176, 177, 178, 183, 184, 185, 186, 187, 188, 189, 190, 191, 192, 193, 194] (by decide +kernel) (by decide +kernel)
set_option maxRecDepth 20000 in
theorem gX6_redo_X6_changeOwn : GoodIn wsX6_redo (wsV RX6 141 RX6 yX6_changeOwn wsX6_changeOwn) := goodIn_app (goodIn_of _ (by decide +kernel)) ggX6_redo_X6_changeOwn
theorem dX6_redo_0 : decode cX6_redo 0 = .ok (.aload_n 0, 1) := by decide +kernel
theorem dX6_redo_1 : decode cX6_redo 1 = .ok (.iload_n 1, 1) := by decide +kernel
theorem dX6_redo_2 : decode cX6_redo 2 = .ok (.invokevirtual 78, 3) := by decide +kernel
theorem dX6_redo_5 : decode cX6_redo 5 = .ok (.ifCond .ne 6, 3) := by decide +kernel
theorem dX6_redo_8 : decode cX6_redo 8 = .ok (.ldc 67, 2) := by decide +kernel
theorem dX6_redo_10 : decode cX6_redo 10 = .ok (.ireturn, 1) := by decide +kernel
theorem dX6_redo_11 : decode cX6_redo 11 = .ok (.aload_n 0, 1) := by decide +kernel
theorem dX6_redo_12 : decode cX6_redo 12 = .ok (.iload_n 1, 1) := by decide +kernel
theorem dX6_redo_13 : decode cX6_redo 13 = .ok (.iconst 2, 1) := by decide +kernel
theorem dX6_redo_14 : decode cX6_redo 14 = .ok (.aload_n 0, 1) := by decide +kernel
theorem dX6_redo_15 : decode cX6_redo 15 = .ok (.iload_n 1, 1) := by decide +kernel
theorem dX6_redo_16 : decode cX6_redo 16 = .ok (.invokevirtual 145, 3) := by decide +kernel
theorem dX6_redo_19 : decode cX6_redo 19 = .ok (.invokevirtual 141, 3) := by decide +kernel
theorem dX6_redo_22 : decode cX6_redo 22 = .ok (.ireturn, 1) := by decide +kernel
set_option maxRecDepth 20000 in
theorem ggX6_lift_X6_isSite : GoodIn wsX6_lift wsX6_isSite := goodIn_r _ [11, 12, 13, 14, 10, 15, 166, 167, 168, 169, 170, 171, 172, 173, 174] (by decide +kernel) (by decide +kernel)
set_option maxRecDepth 20000 in
theorem gX6_lift_X6_isSite : GoodIn wsX6_lift (wsV RX6 78 RX6 yX6_isSite wsX6_isSite) := goodIn_app (goodIn_of _ (by decide +kernel)) ggX6_lift_X6_isSite
set_option maxRecDepth 20000 in
theorem ggX6_lift_X6_isWithin : GoodIn wsX6_lift wsX6_isWithin := goodIn_r _ [15] (by decide +kernel) (by decide +kernel)
set_option maxRecDepth 20000 in
theorem gX6_lift_X6_isWithin : GoodIn wsX6_lift (va_wsS RX6 63 yX6_isWithin wsX6_isWithin) := goodIn_app (goodIn_of _ (by decide +kernel)) ggX6_lift_X6_isWithin
set_option maxRecDepth 20000 in
theorem ggX6_lift_X0_show : GoodIn wsX6_lift wsX0_show := goodIn_r _ [20, 21, 22, 23, 24, 25, 26, 27, 28, 29, 30, 31, 32, 33, 34, 35, 36, 37, 38, 39, 40, 41, 42, 43, 44, 45, 46, 47, 48, 49, 50, 51, 52, 53, 54, 55, 56, 57, 58, 59, 19, 60, 61, 62, 63, 64, 65, 66, 67, 68, 69, 70, 71, 72, 73, 74, 75, 76, 77, 78, 79, 80, 81, 82, 83, 84, 85, 86, 87, 88, 89, 90, 91, 92, 93, 175, 176, 177, 178, 179, 180, 181, 182, 183, 184, 185, 186, 187, 188] (by decide +kernel) (by decide +kernel)
set_option maxRecDepth 20000 in
theorem gX6_lift_X0_show : GoodIn wsX6_lift (wsV RX6 92 RX0 yX0_show wsX0_show) := goodIn_app (goodIn_of _ (by decide +kernel)) ggX6_lift_X0_show
set_option maxRecDepth 20000 in
theorem ggX6_lift_X0_strokeCount : GoodIn wsX6_lift wsX0_strokeCount := goodIn_r _ [97, 23, 175, 176, 177, 178] (by decide +kernel) (by decide +kernel)
set_option maxRecDepth 20000 in
theorem gX6_lift_X0_strokeCount : GoodIn wsX6_lift (wsV RX6 96 RX0 yX0_strokeCount wsX0_strokeCount) := goodIn_app (goodIn_of _ (by decide +kernel)) ggX6_lift_X0_strokeCount
set_option maxRecDepth 20000 in
theorem ggX6_lift_X6_hasMadeAll : GoodIn wsX6_lift wsX6_hasMadeAll := goodIn_r _ [101, 3, 102, 103, 104, 27, 105, 106, 49, 41, 42, 33, 43, 35, 166, 167, 168, 169, 170, 171, 172, 173, 174, 179, 180, 181, 182, 183, 184, 185, 186, 187] (by decide +kernel) (by decide +kernel)
set_option maxRecDepth 20000 in
theorem gX6_lift_X6_hasMadeAll : GoodIn wsX6_lift (wsV RX6 118 RX6 yX6_hasMadeAll wsX6_hasMadeAll) := goodIn_app (goodIn_of _ (by decide +kernel)) ggX6_lift_X6_hasMadeAll
set_option maxRecDepth 20000 in
theorem ggX6_lift_X6_tick : GoodIn wsX6_lift wsX6_tick := goodIn_r _ [110, 111, 112, 41, 42, 33, 43, 35, 113, 72, 73, 74, 166, 167, 168, 169, 170, 171, 172, 173, 174, 187] (by decide +kernel) (by decide +kernel)
set_option maxRecDepth 20000 in
theorem gX6_lift_X6_tick : GoodIn wsX6_lift (wsV RX6 121 RX6 yX6_tick wsX6_tick) := goodIn_app (goodIn_of _ (by decide +kernel)) ggX6_lift_X6_tick
set_option maxRecDepth 20000 in
theorem ggX6_lift_X0_strokeIn : GoodIn wsX6_lift wsX0_strokeIn := goodIn_r _ [117, 84, 89, 41, 42, 33, 43, 35, 175, 176, 177, 178, 187] (by decide +kernel) (by decide +kernel)
set_option maxRecDepth 20000 in
theorem gX6_lift_X0_strokeIn : GoodIn wsX6_lift (wsV RX6 148 RX0 yX0_strokeIn wsX0_strokeIn) := goodIn_app (goodIn_of _ (by decide +kernel)) ggX6_lift_X0_strokeIn
set_option maxRecDepth 20000 in
theorem ggX6_lift_X4_addChange : GoodIn wsX6_lift wsX4_addChange := goodIn_r _ [121, 65, 79, 122, 123, 124, 27, 125, 106, 126, 70, 49, 41, 42, 33, 43, 35, 127, 10, 128, 129, 72, 73, 74, 130, 131, 132, 133, 29, 48, 134, 135, 136, 137, 138, 139, 140, 141, 142, 143, 179, 180, 181, 182, 183, 184, 185, 186, 187] (by decide +kernel) (by decide +kernel)
set_option maxRecDepth 20000 in
theorem gX6_lift_X4_addChange : GoodIn wsX6_lift (wsV RX6 151 RX4 yX4_addChange wsX4_addChange) := goodIn_app (goodIn_of _ (by decide +kernel)) ggX6_lift_X4_addChange
set_option maxRecDepth 20000 in
theorem ggX6_lift_X6_publish : GoodIn wsX6_lift wsX6_publish := goodIn_r _ [147, 4, 12, 148, 149, 150, 151, 53, 152, 55, 153, 72, 73, 33, 74, 35, 154, 155, 156, 157, 158, 159, 160, 161, 41, 42, 43, 162, 166, 167, 168, 169, 170, 171, 172, 173, 174, 188, 187, 189, 190] (by decide +kernel) (by decide +kernel)
set_option maxRecDepth 20000 in
theorem gX6_lift_X6_publish : GoodIn wsX6_lift (wsV RX6 131 RX6 yX6_publish wsX6_publish) := goodIn_app (goodIn_of _ (by decide +kernel)) ggX6_lift_X6_publish
set_option maxRecDepth 20000 in
theorem ggX6_lift_X6_numberOf : GoodIn wsX6_lift wsX6_numberOf := goodIn_r _ [165] (by decide +kernel) (by decide +kernel)
set_option maxRecDepth 20000 in
theorem gX6_lift_X6_numberOf : GoodIn wsX6_lift (va_wsS RX6 135 yX6_numberOf wsX6_numberOf) := goodIn_app (goodIn_of _ (by decide +kernel)) ggX6_lift_X6_numberOf
theorem dX6_lift_0 : decode cX6_lift 0 = .ok (.aload_n 0, 1) := by decide +kernel
theorem dX6_lift_1 : decode cX6_lift 1 = .ok (.iload_n 1, 1) := by decide +kernel
theorem dX6_lift_2 : decode cX6_lift 2 = .ok (.invokevirtual 78, 3) := by decide +kernel
theorem dX6_lift_5 : decode cX6_lift 5 = .ok (.ifCond .eq 16, 3) := by decide +kernel
theorem dX6_lift_8 : decode cX6_lift 8 = .ok (.iload_n 2, 1) := by decide +kernel
theorem dX6_lift_9 : decode cX6_lift 9 = .ok (.ifCond .lt 12, 3) := by decide +kernel
theorem dX6_lift_12 : decode cX6_lift 12 = .ok (.iload_n 3, 1) := by decide +kernel
theorem dX6_lift_13 : decode cX6_lift 13 = .ok (.iconst 0, 1) := by decide +kernel
theorem dX6_lift_14 : decode cX6_lift 14 = .ok (.iconst 3, 1) := by decide +kernel
theorem dX6_lift_15 : decode cX6_lift 15 = .ok (.invokestatic 63, 3) := by decide +kernel
theorem dX6_lift_18 : decode cX6_lift 18 = .ok (.ifCond .ne 6, 3) := by decide +kernel
theorem dX6_lift_21 : decode cX6_lift 21 = .ok (.ldc 67, 2) := by decide +kernel
theorem dX6_lift_23 : decode cX6_lift 23 = .ok (.ireturn, 1) := by decide +kernel
theorem dX6_lift_24 : decode cX6_lift 24 = .ok (.aload_n 0, 1) := by decide +kernel
theorem dX6_lift_25 : decode cX6_lift 25 = .ok (.getfield 45, 3) := by decide +kernel
theorem dX6_lift_28 : decode cX6_lift 28 = .ok (.aload_n 0, 1) := by decide +kernel
theorem dX6_lift_29 : decode cX6_lift 29 = .ok (.getfield 12, 3) := by decide +kernel
theorem dX6_lift_32 : decode cX6_lift 32 = .ok (.aload_n 0, 1) := by decide +kernel
theorem dX6_lift_33 : decode cX6_lift 33 = .ok (.getfield 28, 3) := by decide +kernel
theorem dX6_lift_36 : decode cX6_lift 36 = .ok (.iload_n 1, 1) := by decide +kernel
theorem dX6_lift_37 : decode cX6_lift 37 = .ok (.invokevirtual 92, 3) := by decide +kernel
theorem dX6_lift_40 : decode cX6_lift 40 = .ok (.iload_n 2, 1) := by decide +kernel
theorem dX6_lift_41 : decode cX6_lift 41 = .ok (.aload_n 0, 1) := by decide +kernel
theorem dX6_lift_42 : decode cX6_lift 42 = .ok (.getfield 45, 3) := by decide +kernel
theorem dX6_lift_45 : decode cX6_lift 45 = .ok (.invokevirtual 96, 3) := by decide +kernel
theorem dX6_lift_48 : decode cX6_lift 48 = .ok (.if_icmp .lt 6, 3) := by decide +kernel
theorem dX6_lift_51 : decode cX6_lift 51 = .ok (.ldc 110, 2) := by decide +kernel
theorem dX6_lift_53 : decode cX6_lift 53 = .ok (.ireturn, 1) := by decide +kernel
theorem dX6_lift_54 : decode cX6_lift 54 = .ok (.aload_n 0, 1) := by decide +kernel
theorem dX6_lift_55 : decode cX6_lift 55 = .ok (.iload_n 1, 1) := by decide +kernel
theorem dX6_lift_56 : decode cX6_lift 56 = .ok (.invokevirtual 118, 3) := by decide +kernel
theorem dX6_lift_59 : decode cX6_lift 59 = .ok (.ifCond .eq 6, 3) := by decide +kernel
theorem dX6_lift_62 : decode cX6_lift 62 = .ok (.ldc 77, 2) := by decide +kernel
theorem dX6_lift_64 : decode cX6_lift 64 = .ok (.ireturn, 1) := by decide +kernel
theorem dX6_lift_65 : decode cX6_lift 65 = .ok (.aload_n 0, 1) := by decide +kernel
theorem dX6_lift_66 : decode cX6_lift 66 = .ok (.getfield 12, 3) := by decide +kernel
theorem dX6_lift_69 : decode cX6_lift 69 = .ok (.iload_n 1, 1) := by decide +kernel
theorem dX6_lift_70 : decode cX6_lift 70 = .ok (.aload_n 0, 1) := by decide +kernel
theorem dX6_lift_71 : decode cX6_lift 71 = .ok (.iload_n 1, 1) := by decide +kernel
theorem dX6_lift_72 : decode cX6_lift 72 = .ok (.invokevirtual 121, 3) := by decide +kernel
theorem dX6_lift_75 : decode cX6_lift 75 = .ok (.iconst 3, 1) := by decide +kernel
theorem dX6_lift_76 : decode cX6_lift 76 = .ok (.aload_n 0, 1) := by decide +kernel
theorem dX6_lift_77 : decode cX6_lift 77 = .ok (.getfield 45, 3) := by decide +kernel
theorem dX6_lift_80 : decode cX6_lift 80 = .ok (.iload_n 2, 1) := by decide +kernel
theorem dX6_lift_81 : decode cX6_lift 81 = .ok (.invokevirtual 148, 3) := by decide +kernel
theorem dX6_lift_84 : decode cX6_lift 84 = .ok (.iload_n 3, 1) := by decide +kernel
theorem dX6_lift_85 : decode cX6_lift 85 = .ok (.invokevirtual 151, 3) := by decide +kernel
theorem dX6_lift_88 : decode cX6_lift 88 = .ok (.istore 4, 2) := by decide +kernel
theorem dX6_lift_90 : decode cX6_lift 90 = .ok (.aload_n 0, 1) := by decide +kernel
theorem dX6_lift_91 : decode cX6_lift 91 = .ok (.iload_n 1, 1) := by decide +kernel
theorem dX6_lift_92 : decode cX6_lift 92 = .ok (.iload 4, 2) := by decide +kernel
theorem dX6_lift_94 : decode cX6_lift 94 = .ok (.invokevirtual 131, 3) := by decide +kernel
theorem dX6_lift_97 : decode cX6_lift 97 = .ok (.iload 4, 2) := by decide +kernel
theorem dX6_lift_99 : decode cX6_lift 99 = .ok (.invokestatic 135, 3) := by decide +kernel
theorem dX6_lift_102 : decode cX6_lift 102 = .ok (.ireturn, 1) := by decide +kernel
set_option maxRecDepth 20000 in
theorem ggX6_deliver_X6_areTwoSites : GoodIn wsX6_deliver wsX6_areTwoSites := goodIn_r _ [8, 9, 10, 11, 7, 12, 13, 14, 15, 16, 76, 77, 78, 79, 80, 81, 82, 83, 84] (by decide +kernel) (by decide +kernel)
set_option maxRecDepth 20000 in
theorem gX6_deliver_X6_areTwoSites : GoodIn wsX6_deliver (wsV RX6 155 RX6 yX6_areTwoSites wsX6_areTwoSites) := goodIn_app (goodIn_of _ (by decide +kernel)) ggX6_deliver_X6_areTwoSites
set_option maxRecDepth 20000 in
theorem ggX6_deliver_X3_countIn : GoodIn wsX6_deliver wsX3_countIn := goodIn_r _ [21, 22, 23, 24, 25, 26, 27, 28, 85, 86, 87] (by decide +kernel) (by decide +kernel)
set_option maxRecDepth 20000 in
theorem gX6_deliver_X3_countIn : GoodIn wsX6_deliver (wsV RX6 159 RX3 yX3_countIn wsX3_countIn) := goodIn_app (goodIn_of _ (by decide +kernel)) ggX6_deliver_X3_countIn
set_option maxRecDepth 20000 in
theorem ggX6_deliver_X3_messageIn : GoodIn wsX6_deliver wsX3_messageIn := goodIn_r _ [32, 33, 23, 24, 25, 26, 27, 28, 85, 86, 87] (by decide +kernel) (by decide +kernel)
set_option maxRecDepth 20000 in
theorem gX6_deliver_X3_messageIn : GoodIn wsX6_deliver (wsV RX6 163 RX3 yX3_messageIn wsX3_messageIn) := goodIn_app (goodIn_of _ (by decide +kernel)) ggX6_deliver_X3_messageIn
set_option maxRecDepth 20000 in
theorem ggX6_deliver_X3_dropFirst : GoodIn wsX6_deliver wsX3_dropFirst := goodIn_r _ [37, 22, 33, 38, 39, 40, 41, 23, 24, 25, 26, 27, 28, 42, 43, 44, 45, 85, 86, 87] (by decide +kernel) (by decide +kernel)
set_option maxRecDepth 20000 in
theorem gX6_deliver_X3_dropFirst : GoodIn wsX6_deliver (wsV RX6 166 RX3 yX3_dropFirst wsX3_dropFirst) := goodIn_app (goodIn_of _ (by decide +kernel)) ggX6_deliver_X3_dropFirst
set_option maxRecDepth 20000 in
theorem ggX6_deliver_X6_receive : GoodIn wsX6_deliver wsX6_receive := goodIn_r _ [49, 50, 51, 52, 53, 39, 40, 41, 54, 55, 56, 57, 58, 59, 60, 43, 44, 26, 45, 28, 61, 24, 25, 27, 62, 63, 64, 65, 66, 67, 68, 69, 76, 77, 78, 79, 80, 81, 82, 83, 84, 88, 87, 89, 90, 91, 92, 93, 94, 95, 96] (by decide +kernel) (by decide +kernel)
set_option maxRecDepth 20000 in
theorem gX6_deliver_X6_receive : GoodIn wsX6_deliver (wsV RX6 169 RX6 yX6_receive wsX6_receive) := goodIn_app (goodIn_of _ (by decide +kernel)) ggX6_deliver_X6_receive
set_option maxRecDepth 20000 in
theorem ggX6_deliver_X6_authorOf : GoodIn wsX6_deliver wsX6_authorOf := goodIn_r _ [72] (by decide +kernel) (by decide +kernel)
set_option maxRecDepth 20000 in
theorem gX6_deliver_X6_authorOf : GoodIn wsX6_deliver (va_wsS RX6 172 yX6_authorOf wsX6_authorOf) := goodIn_app (goodIn_of _ (by decide +kernel)) ggX6_deliver_X6_authorOf
set_option maxRecDepth 20000 in
theorem ggX6_deliver_X6_numberOf : GoodIn wsX6_deliver wsX6_numberOf := goodIn_r _ [75] (by decide +kernel) (by decide +kernel)
set_option maxRecDepth 20000 in
theorem gX6_deliver_X6_numberOf : GoodIn wsX6_deliver (va_wsS RX6 135 yX6_numberOf wsX6_numberOf) := goodIn_app (goodIn_of _ (by decide +kernel)) ggX6_deliver_X6_numberOf
theorem dX6_deliver_0 : decode cX6_deliver 0 = .ok (.aload_n 0, 1) := by decide +kernel
theorem dX6_deliver_1 : decode cX6_deliver 1 = .ok (.iload_n 1, 1) := by decide +kernel
theorem dX6_deliver_2 : decode cX6_deliver 2 = .ok (.iload_n 2, 1) := by decide +kernel
theorem dX6_deliver_3 : decode cX6_deliver 3 = .ok (.invokevirtual 155, 3) := by decide +kernel
theorem dX6_deliver_6 : decode cX6_deliver 6 = .ok (.ifCond .ne 6, 3) := by decide +kernel
theorem dX6_deliver_9 : decode cX6_deliver 9 = .ok (.ldc 67, 2) := by decide +kernel
theorem dX6_deliver_11 : decode cX6_deliver 11 = .ok (.ireturn, 1) := by decide +kernel
theorem dX6_deliver_12 : decode cX6_deliver 12 = .ok (.aload_n 0, 1) := by decide +kernel
theorem dX6_deliver_13 : decode cX6_deliver 13 = .ok (.getfield 38, 3) := by decide +kernel
theorem dX6_deliver_16 : decode cX6_deliver 16 = .ok (.iload_n 1, 1) := by decide +kernel
theorem dX6_deliver_17 : decode cX6_deliver 17 = .ok (.iload_n 2, 1) := by decide +kernel
theorem dX6_deliver_18 : decode cX6_deliver 18 = .ok (.invokevirtual 159, 3) := by decide +kernel
theorem dX6_deliver_21 : decode cX6_deliver 21 = .ok (.ifCond .ne 6, 3) := by decide +kernel
theorem dX6_deliver_24 : decode cX6_deliver 24 = .ok (.ldc 162, 2) := by decide +kernel
theorem dX6_deliver_26 : decode cX6_deliver 26 = .ok (.ireturn, 1) := by decide +kernel
theorem dX6_deliver_27 : decode cX6_deliver 27 = .ok (.aload_n 0, 1) := by decide +kernel
theorem dX6_deliver_28 : decode cX6_deliver 28 = .ok (.getfield 38, 3) := by decide +kernel
theorem dX6_deliver_31 : decode cX6_deliver 31 = .ok (.iload_n 1, 1) := by decide +kernel
theorem dX6_deliver_32 : decode cX6_deliver 32 = .ok (.iload_n 2, 1) := by decide +kernel
theorem dX6_deliver_33 : decode cX6_deliver 33 = .ok (.iconst 0, 1) := by decide +kernel
theorem dX6_deliver_34 : decode cX6_deliver 34 = .ok (.invokevirtual 163, 3) := by decide +kernel
theorem dX6_deliver_37 : decode cX6_deliver 37 = .ok (.istore_n 3, 1) := by decide +kernel
theorem dX6_deliver_38 : decode cX6_deliver 38 = .ok (.aload_n 0, 1) := by decide +kernel
theorem dX6_deliver_39 : decode cX6_deliver 39 = .ok (.getfield 38, 3) := by decide +kernel
theorem dX6_deliver_42 : decode cX6_deliver 42 = .ok (.iload_n 1, 1) := by decide +kernel
theorem dX6_deliver_43 : decode cX6_deliver 43 = .ok (.iload_n 2, 1) := by decide +kernel
theorem dX6_deliver_44 : decode cX6_deliver 44 = .ok (.invokevirtual 166, 3) := by decide +kernel
theorem dX6_deliver_47 : decode cX6_deliver 47 = .ok (.aload_n 0, 1) := by decide +kernel
theorem dX6_deliver_48 : decode cX6_deliver 48 = .ok (.iload_n 2, 1) := by decide +kernel
theorem dX6_deliver_49 : decode cX6_deliver 49 = .ok (.iload_n 3, 1) := by decide +kernel
theorem dX6_deliver_50 : decode cX6_deliver 50 = .ok (.invokevirtual 169, 3) := by decide +kernel
theorem dX6_deliver_53 : decode cX6_deliver 53 = .ok (.bipush 100, 2) := by decide +kernel
theorem dX6_deliver_55 : decode cX6_deliver 55 = .ok (.iload_n 3, 1) := by decide +kernel
theorem dX6_deliver_56 : decode cX6_deliver 56 = .ok (.invokestatic 172, 3) := by decide +kernel
theorem dX6_deliver_59 : decode cX6_deliver 59 = .ok (.imul, 1) := by decide +kernel
theorem dX6_deliver_60 : decode cX6_deliver 60 = .ok (.iload_n 3, 1) := by decide +kernel
theorem dX6_deliver_61 : decode cX6_deliver 61 = .ok (.invokestatic 135, 3) := by decide +kernel
theorem dX6_deliver_64 : decode cX6_deliver 64 = .ok (.iadd, 1) := by decide +kernel
theorem dX6_deliver_65 : decode cX6_deliver 65 = .ok (.ireturn, 1) := by decide +kernel
set_option maxRecDepth 20000 in
theorem ggX6_lose_X6_areTwoSites : GoodIn wsX6_lose wsX6_areTwoSites := goodIn_r _ [8, 9, 10, 11, 7, 12, 13, 14, 15, 16, 42, 43, 44, 45, 46, 47, 48, 49, 50] (by decide +kernel) (by decide +kernel)
set_option maxRecDepth 20000 in
theorem gX6_lose_X6_areTwoSites : GoodIn wsX6_lose (wsV RX6 155 RX6 yX6_areTwoSites wsX6_areTwoSites) := goodIn_app (goodIn_of _ (by decide +kernel)) ggX6_lose_X6_areTwoSites
set_option maxRecDepth 20000 in
theorem ggX6_lose_X3_countIn : GoodIn wsX6_lose wsX3_countIn := goodIn_r _ [21, 22, 23, 24, 25, 26, 27, 28, 51, 52, 53] (by decide +kernel) (by decide +kernel)
set_option maxRecDepth 20000 in
theorem gX6_lose_X3_countIn : GoodIn wsX6_lose (wsV RX6 159 RX3 yX3_countIn wsX3_countIn) := goodIn_app (goodIn_of _ (by decide +kernel)) ggX6_lose_X3_countIn
set_option maxRecDepth 20000 in
theorem ggX6_lose_X3_dropFirst : GoodIn wsX6_lose wsX3_dropFirst := goodIn_r _ [32, 22, 33, 34, 35, 36, 37, 23, 24, 25, 26, 27, 28, 38, 39, 40, 41, 51, 52, 53] (by decide +kernel) (by decide +kernel)
set_option maxRecDepth 20000 in
theorem gX6_lose_X3_dropFirst : GoodIn wsX6_lose (wsV RX6 166 RX3 yX3_dropFirst wsX3_dropFirst) := goodIn_app (goodIn_of _ (by decide +kernel)) ggX6_lose_X3_dropFirst
theorem dX6_lose_0 : decode cX6_lose 0 = .ok (.aload_n 0, 1) := by decide +kernel
theorem dX6_lose_1 : decode cX6_lose 1 = .ok (.iload_n 1, 1) := by decide +kernel
theorem dX6_lose_2 : decode cX6_lose 2 = .ok (.iload_n 2, 1) := by decide +kernel
theorem dX6_lose_3 : decode cX6_lose 3 = .ok (.invokevirtual 155, 3) := by decide +kernel
theorem dX6_lose_6 : decode cX6_lose 6 = .ok (.ifCond .ne 6, 3) := by decide +kernel
theorem dX6_lose_9 : decode cX6_lose 9 = .ok (.ldc 67, 2) := by decide +kernel
theorem dX6_lose_11 : decode cX6_lose 11 = .ok (.ireturn, 1) := by decide +kernel
theorem dX6_lose_12 : decode cX6_lose 12 = .ok (.aload_n 0, 1) := by decide +kernel
theorem dX6_lose_13 : decode cX6_lose 13 = .ok (.getfield 38, 3) := by decide +kernel
theorem dX6_lose_16 : decode cX6_lose 16 = .ok (.iload_n 1, 1) := by decide +kernel
theorem dX6_lose_17 : decode cX6_lose 17 = .ok (.iload_n 2, 1) := by decide +kernel
theorem dX6_lose_18 : decode cX6_lose 18 = .ok (.invokevirtual 159, 3) := by decide +kernel
theorem dX6_lose_21 : decode cX6_lose 21 = .ok (.ifCond .ne 6, 3) := by decide +kernel
theorem dX6_lose_24 : decode cX6_lose 24 = .ok (.ldc 162, 2) := by decide +kernel
theorem dX6_lose_26 : decode cX6_lose 26 = .ok (.ireturn, 1) := by decide +kernel
theorem dX6_lose_27 : decode cX6_lose 27 = .ok (.aload_n 0, 1) := by decide +kernel
theorem dX6_lose_28 : decode cX6_lose 28 = .ok (.getfield 38, 3) := by decide +kernel
theorem dX6_lose_31 : decode cX6_lose 31 = .ok (.iload_n 1, 1) := by decide +kernel
theorem dX6_lose_32 : decode cX6_lose 32 = .ok (.iload_n 2, 1) := by decide +kernel
theorem dX6_lose_33 : decode cX6_lose 33 = .ok (.invokevirtual 166, 3) := by decide +kernel
theorem dX6_lose_36 : decode cX6_lose 36 = .ok (.aload_n 0, 1) := by decide +kernel
theorem dX6_lose_37 : decode cX6_lose 37 = .ok (.getfield 38, 3) := by decide +kernel
theorem dX6_lose_40 : decode cX6_lose 40 = .ok (.iload_n 1, 1) := by decide +kernel
theorem dX6_lose_41 : decode cX6_lose 41 = .ok (.iload_n 2, 1) := by decide +kernel
theorem dX6_lose_42 : decode cX6_lose 42 = .ok (.invokevirtual 159, 3) := by decide +kernel
theorem dX6_lose_45 : decode cX6_lose 45 = .ok (.ireturn, 1) := by decide +kernel
set_option maxRecDepth 20000 in
theorem ggX6_deliverAll_X6_deliverLink : GoodIn wsX6_deliverAll wsX6_deliverLink := goodIn_r _ [6, 7, 8, 9, 10, 11, 12, 13, 14, 15, 16, 17, 18, 19, 20, 21, 22, 23, 24, 25, 26, 27, 5, 28, 29, 30, 31, 32, 33, 34, 35, 36, 37, 38, 39, 40, 41, 42, 43, 44, 45, 46, 47, 48, 49, 50, 51, 52, 53, 54, 55, 56, 57, 58, 59, 60, 61, 62, 63, 64, 65, 66, 67, 68, 69, 70, 71, 72, 73, 74, 75, 76, 77, 78, 79, 80, 81] (by decide +kernel) (by decide +kernel)
set_option maxRecDepth 20000 in
theorem gX6_deliverAll_X6_deliverLink : GoodIn wsX6_deliverAll (wsV RX6 175 RX6 yX6_deliverLink wsX6_deliverLink) := goodIn_app (goodIn_of _ (by decide +kernel)) ggX6_deliverAll_X6_deliverLink
theorem dX6_deliverAll_0 : decode cX6_deliverAll 0 = .ok (.iconst 0, 1) := by decide +kernel
theorem dX6_deliverAll_1 : decode cX6_deliverAll 1 = .ok (.istore_n 1, 1) := by decide +kernel
theorem dX6_deliverAll_2 : decode cX6_deliverAll 2 = .ok (.iconst 0, 1) := by decide +kernel
theorem dX6_deliverAll_3 : decode cX6_deliverAll 3 = .ok (.istore_n 2, 1) := by decide +kernel
theorem dX6_deliverAll_4 : decode cX6_deliverAll 4 = .ok (.iload_n 2, 1) := by decide +kernel
theorem dX6_deliverAll_5 : decode cX6_deliverAll 5 = .ok (.aload_n 0, 1) := by decide +kernel
theorem dX6_deliverAll_6 : decode cX6_deliverAll 6 = .ok (.getfield 59, 3) := by decide +kernel
theorem dX6_deliverAll_9 : decode cX6_deliverAll 9 = .ok (.if_icmp .ge 34, 3) := by decide +kernel
theorem dX6_deliverAll_12 : decode cX6_deliverAll 12 = .ok (.iconst 0, 1) := by decide +kernel
theorem dX6_deliverAll_13 : decode cX6_deliverAll 13 = .ok (.istore_n 3, 1) := by decide +kernel
theorem dX6_deliverAll_14 : decode cX6_deliverAll 14 = .ok (.iload_n 3, 1) := by decide +kernel
theorem dX6_deliverAll_15 : decode cX6_deliverAll 15 = .ok (.aload_n 0, 1) := by decide +kernel
theorem dX6_deliverAll_16 : decode cX6_deliverAll 16 = .ok (.getfield 59, 3) := by decide +kernel
theorem dX6_deliverAll_19 : decode cX6_deliverAll 19 = .ok (.if_icmp .ge 18, 3) := by decide +kernel
theorem dX6_deliverAll_22 : decode cX6_deliverAll 22 = .ok (.iload_n 1, 1) := by decide +kernel
theorem dX6_deliverAll_23 : decode cX6_deliverAll 23 = .ok (.aload_n 0, 1) := by decide +kernel
theorem dX6_deliverAll_24 : decode cX6_deliverAll 24 = .ok (.iload_n 2, 1) := by decide +kernel
theorem dX6_deliverAll_25 : decode cX6_deliverAll 25 = .ok (.iload_n 3, 1) := by decide +kernel
theorem dX6_deliverAll_26 : decode cX6_deliverAll 26 = .ok (.invokevirtual 175, 3) := by decide +kernel
theorem dX6_deliverAll_29 : decode cX6_deliverAll 29 = .ok (.iadd, 1) := by decide +kernel
theorem dX6_deliverAll_30 : decode cX6_deliverAll 30 = .ok (.istore_n 1, 1) := by decide +kernel
theorem dX6_deliverAll_31 : decode cX6_deliverAll 31 = .ok (.iinc 3 1, 3) := by decide +kernel
theorem dX6_deliverAll_34 : decode cX6_deliverAll 34 = .ok (.goto (-20), 3) := by decide +kernel
theorem dX6_deliverAll_37 : decode cX6_deliverAll 37 = .ok (.iinc 2 1, 3) := by decide +kernel
theorem dX6_deliverAll_40 : decode cX6_deliverAll 40 = .ok (.goto (-36), 3) := by decide +kernel
theorem dX6_deliverAll_43 : decode cX6_deliverAll 43 = .ok (.iload_n 1, 1) := by decide +kernel
theorem dX6_deliverAll_44 : decode cX6_deliverAll 44 = .ok (.ireturn, 1) := by decide +kernel
set_option maxRecDepth 20000 in
theorem ggX6_waiting_X6_areTwoSites : GoodIn wsX6_waiting wsX6_areTwoSites := goodIn_r _ [7, 8, 9, 10, 6, 11, 12, 13, 14, 15, 28, 29, 30, 31, 32, 33, 34, 35, 36] (by decide +kernel) (by decide +kernel)
set_option maxRecDepth 20000 in
theorem gX6_waiting_X6_areTwoSites : GoodIn wsX6_waiting (wsV RX6 155 RX6 yX6_areTwoSites wsX6_areTwoSites) := goodIn_app (goodIn_of _ (by decide +kernel)) ggX6_waiting_X6_areTwoSites
set_option maxRecDepth 20000 in
theorem ggX6_waiting_X3_countIn : GoodIn wsX6_waiting wsX3_countIn := goodIn_r _ [20, 21, 22, 23, 24, 25, 26, 27, 37, 38, 39] (by decide +kernel) (by decide +kernel)
set_option maxRecDepth 20000 in
theorem gX6_waiting_X3_countIn : GoodIn wsX6_waiting (wsV RX6 159 RX3 yX3_countIn wsX3_countIn) := goodIn_app (goodIn_of _ (by decide +kernel)) ggX6_waiting_X3_countIn
theorem dX6_waiting_0 : decode cX6_waiting 0 = .ok (.aload_n 0, 1) := by decide +kernel
theorem dX6_waiting_1 : decode cX6_waiting 1 = .ok (.iload_n 1, 1) := by decide +kernel
theorem dX6_waiting_2 : decode cX6_waiting 2 = .ok (.iload_n 2, 1) := by decide +kernel
theorem dX6_waiting_3 : decode cX6_waiting 3 = .ok (.invokevirtual 155, 3) := by decide +kernel
theorem dX6_waiting_6 : decode cX6_waiting 6 = .ok (.ifCond .eq 15, 3) := by decide +kernel
theorem dX6_waiting_9 : decode cX6_waiting 9 = .ok (.aload_n 0, 1) := by decide +kernel
theorem dX6_waiting_10 : decode cX6_waiting 10 = .ok (.getfield 38, 3) := by decide +kernel
theorem dX6_waiting_13 : decode cX6_waiting 13 = .ok (.iload_n 1, 1) := by decide +kernel
theorem dX6_waiting_14 : decode cX6_waiting 14 = .ok (.iload_n 2, 1) := by decide +kernel
theorem dX6_waiting_15 : decode cX6_waiting 15 = .ok (.invokevirtual 159, 3) := by decide +kernel
theorem dX6_waiting_18 : decode cX6_waiting 18 = .ok (.goto 5, 3) := by decide +kernel
theorem dX6_waiting_21 : decode cX6_waiting 21 = .ok (.ldc 67, 2) := by decide +kernel
theorem dX6_waiting_23 : decode cX6_waiting 23 = .ok (.ireturn, 1) := by decide +kernel
set_option maxRecDepth 20000 in
theorem ggX6_gap_X6_isSite : GoodIn wsX6_gap wsX6_isSite := goodIn_r _ [8, 9, 10, 11, 7, 12, 28, 29, 30, 31, 32, 33, 34, 35, 36] (by decide +kernel) (by decide +kernel)
set_option maxRecDepth 20000 in
theorem gX6_gap_X6_isSite : GoodIn wsX6_gap (wsV RX6 78 RX6 yX6_isSite wsX6_isSite) := goodIn_app (goodIn_of _ (by decide +kernel)) ggX6_gap_X6_isSite
set_option maxRecDepth 20000 in
theorem ggX6_gap_X6_idOf : GoodIn wsX6_gap wsX6_idOf := goodIn_r _ [15] (by decide +kernel) (by decide +kernel)
set_option maxRecDepth 20000 in
theorem gX6_gap_X6_idOf : GoodIn wsX6_gap (va_wsS RX6 178 yX6_idOf wsX6_idOf) := goodIn_app (goodIn_of _ (by decide +kernel)) ggX6_gap_X6_idOf
set_option maxRecDepth 20000 in
theorem ggX6_gap_X2_has : GoodIn wsX6_gap wsX2_has := goodIn_r _ [20, 21, 22, 23, 24, 25, 26, 27, 37, 38] (by decide +kernel) (by decide +kernel)
set_option maxRecDepth 20000 in
theorem gX6_gap_X2_has : GoodIn wsX6_gap (wsV RX6 181 RX2 yX2_has wsX2_has) := goodIn_app (goodIn_of _ (by decide +kernel)) ggX6_gap_X2_has
theorem dX6_gap_0 : decode cX6_gap 0 = .ok (.aload_n 0, 1) := by decide +kernel
theorem dX6_gap_1 : decode cX6_gap 1 = .ok (.iload_n 1, 1) := by decide +kernel
theorem dX6_gap_2 : decode cX6_gap 2 = .ok (.invokevirtual 78, 3) := by decide +kernel
theorem dX6_gap_5 : decode cX6_gap 5 = .ok (.ifCond .eq 15, 3) := by decide +kernel
theorem dX6_gap_8 : decode cX6_gap 8 = .ok (.aload_n 0, 1) := by decide +kernel
theorem dX6_gap_9 : decode cX6_gap 9 = .ok (.iload_n 2, 1) := by decide +kernel
theorem dX6_gap_10 : decode cX6_gap 10 = .ok (.invokevirtual 78, 3) := by decide +kernel
theorem dX6_gap_13 : decode cX6_gap 13 = .ok (.ifCond .eq 7, 3) := by decide +kernel
theorem dX6_gap_16 : decode cX6_gap 16 = .ok (.iload_n 3, 1) := by decide +kernel
theorem dX6_gap_17 : decode cX6_gap 17 = .ok (.ifCond .ge 6, 3) := by decide +kernel
theorem dX6_gap_20 : decode cX6_gap 20 = .ok (.ldc 67, 2) := by decide +kernel
theorem dX6_gap_22 : decode cX6_gap 22 = .ok (.ireturn, 1) := by decide +kernel
theorem dX6_gap_23 : decode cX6_gap 23 = .ok (.iconst 0, 1) := by decide +kernel
theorem dX6_gap_24 : decode cX6_gap 24 = .ok (.istore 4, 2) := by decide +kernel
theorem dX6_gap_26 : decode cX6_gap 26 = .ok (.iconst 0, 1) := by decide +kernel
theorem dX6_gap_27 : decode cX6_gap 27 = .ok (.istore 5, 2) := by decide +kernel
theorem dX6_gap_29 : decode cX6_gap 29 = .ok (.iconst 1, 1) := by decide +kernel
theorem dX6_gap_30 : decode cX6_gap 30 = .ok (.istore 6, 2) := by decide +kernel
theorem dX6_gap_32 : decode cX6_gap 32 = .ok (.iload 6, 2) := by decide +kernel
theorem dX6_gap_34 : decode cX6_gap 34 = .ok (.bipush 20, 2) := by decide +kernel
theorem dX6_gap_36 : decode cX6_gap 36 = .ok (.if_icmp .gt 72, 3) := by decide +kernel
theorem dX6_gap_39 : decode cX6_gap 39 = .ok (.aload_n 0, 1) := by decide +kernel
theorem dX6_gap_40 : decode cX6_gap 40 = .ok (.getfield 28, 3) := by decide +kernel
theorem dX6_gap_43 : decode cX6_gap 43 = .ok (.iload_n 1, 1) := by decide +kernel
theorem dX6_gap_44 : decode cX6_gap 44 = .ok (.iload_n 2, 1) := by decide +kernel
theorem dX6_gap_45 : decode cX6_gap 45 = .ok (.iload 6, 2) := by decide +kernel
theorem dX6_gap_47 : decode cX6_gap 47 = .ok (.invokestatic 178, 3) := by decide +kernel
theorem dX6_gap_50 : decode cX6_gap 50 = .ok (.invokevirtual 181, 3) := by decide +kernel
theorem dX6_gap_53 : decode cX6_gap 53 = .ok (.istore 7, 2) := by decide +kernel
theorem dX6_gap_55 : decode cX6_gap 55 = .ok (.iload 7, 2) := by decide +kernel
theorem dX6_gap_57 : decode cX6_gap 57 = .ok (.ifCond .ne 12, 3) := by decide +kernel
theorem dX6_gap_60 : decode cX6_gap 60 = .ok (.iload 4, 2) := by decide +kernel
theorem dX6_gap_62 : decode cX6_gap 62 = .ok (.ifCond .ne 7, 3) := by decide +kernel
theorem dX6_gap_65 : decode cX6_gap 65 = .ok (.iload 6, 2) := by decide +kernel
theorem dX6_gap_67 : decode cX6_gap 67 = .ok (.istore 4, 2) := by decide +kernel
theorem dX6_gap_69 : decode cX6_gap 69 = .ok (.iload 7, 2) := by decide +kernel
theorem dX6_gap_71 : decode cX6_gap 71 = .ok (.ifCond .eq 31, 3) := by decide +kernel
theorem dX6_gap_74 : decode cX6_gap 74 = .ok (.iload 4, 2) := by decide +kernel
theorem dX6_gap_76 : decode cX6_gap 76 = .ok (.ifCond .eq 26, 3) := by decide +kernel
theorem dX6_gap_79 : decode cX6_gap 79 = .ok (.iload 5, 2) := by decide +kernel
theorem dX6_gap_81 : decode cX6_gap 81 = .ok (.iload_n 3, 1) := by decide +kernel
theorem dX6_gap_82 : decode cX6_gap 82 = .ok (.if_icmp .ne 14, 3) := by decide +kernel
theorem dX6_gap_85 : decode cX6_gap 85 = .ok (.bipush 100, 2) := by decide +kernel
theorem dX6_gap_87 : decode cX6_gap 87 = .ok (.iload 4, 2) := by decide +kernel
theorem dX6_gap_89 : decode cX6_gap 89 = .ok (.imul, 1) := by decide +kernel
theorem dX6_gap_90 : decode cX6_gap 90 = .ok (.iload 6, 2) := by decide +kernel
theorem dX6_gap_92 : decode cX6_gap 92 = .ok (.iadd, 1) := by decide +kernel
theorem dX6_gap_93 : decode cX6_gap 93 = .ok (.iconst 1, 1) := by decide +kernel
theorem dX6_gap_94 : decode cX6_gap 94 = .ok (.isub, 1) := by decide +kernel
theorem dX6_gap_95 : decode cX6_gap 95 = .ok (.ireturn, 1) := by decide +kernel
theorem dX6_gap_96 : decode cX6_gap 96 = .ok (.iinc 5 1, 3) := by decide +kernel
theorem dX6_gap_99 : decode cX6_gap 99 = .ok (.iconst 0, 1) := by decide +kernel
theorem dX6_gap_100 : decode cX6_gap 100 = .ok (.istore 4, 2) := by decide +kernel
theorem dX6_gap_102 : decode cX6_gap 102 = .ok (.iinc 6 1, 3) := by decide +kernel
theorem dX6_gap_105 : decode cX6_gap 105 = .ok (.goto (-73), 3) := by decide +kernel
theorem dX6_gap_108 : decode cX6_gap 108 = .ok (.ldc 162, 2) := by decide +kernel
theorem dX6_gap_110 : decode cX6_gap 110 = .ok (.ireturn, 1) := by decide +kernel
set_option maxRecDepth 20000 in
theorem ggX6_repair_X6_areTwoSites : GoodIn wsX6_repair wsX6_areTwoSites := goodIn_r _ [6, 7, 8, 9, 5, 10, 11, 12, 13, 14, 74, 75, 76, 77, 78, 79, 80, 81, 82] (by decide +kernel) (by decide +kernel)
set_option maxRecDepth 20000 in
theorem gX6_repair_X6_areTwoSites : GoodIn wsX6_repair (wsV RX6 155 RX6 yX6_areTwoSites wsX6_areTwoSites) := goodIn_app (goodIn_of _ (by decide +kernel)) ggX6_repair_X6_areTwoSites
set_option maxRecDepth 20000 in
theorem ggX6_repair_X6_canRepair : GoodIn wsX6_repair wsX6_canRepair := goodIn_r _ [18, 19, 20, 21, 22, 23, 24, 25, 26, 27, 28, 29, 30, 31, 32, 33, 34, 35, 36, 37, 38, 39, 40, 5, 41, 42, 43, 44, 45, 46, 74, 75, 76, 77, 78, 79, 80, 81, 82, 83, 84] (by decide +kernel) (by decide +kernel)
set_option maxRecDepth 20000 in
theorem gX6_repair_X6_canRepair : GoodIn wsX6_repair (wsV RX6 184 RX6 yX6_canRepair wsX6_canRepair) := goodIn_app (goodIn_of _ (by decide +kernel)) ggX6_repair_X6_canRepair
set_option maxRecDepth 20000 in
theorem ggX6_repair_X6_receive : GoodIn wsX6_repair wsX6_receive := goodIn_r _ [50, 19, 51, 52, 53, 54, 55, 56, 57, 58, 59, 23, 60, 29, 61, 62, 63, 33, 64, 35, 65, 31, 32, 34, 66, 67, 68, 69, 70, 71, 72, 73, 74, 75, 76, 77, 78, 79, 80, 81, 82, 83, 84, 85, 86, 87, 88, 89, 90, 91, 92] (by decide +kernel) (by decide +kernel)
set_option maxRecDepth 20000 in
theorem gX6_repair_X6_receive : GoodIn wsX6_repair (wsV RX6 169 RX6 yX6_receive wsX6_receive) := goodIn_app (goodIn_of _ (by decide +kernel)) ggX6_repair_X6_receive
theorem dX6_repair_0 : decode cX6_repair 0 = .ok (.aload_n 0, 1) := by decide +kernel
theorem dX6_repair_1 : decode cX6_repair 1 = .ok (.iload_n 1, 1) := by decide +kernel
theorem dX6_repair_2 : decode cX6_repair 2 = .ok (.iload_n 2, 1) := by decide +kernel
theorem dX6_repair_3 : decode cX6_repair 3 = .ok (.invokevirtual 155, 3) := by decide +kernel
theorem dX6_repair_6 : decode cX6_repair 6 = .ok (.ifCond .ne 6, 3) := by decide +kernel
theorem dX6_repair_9 : decode cX6_repair 9 = .ok (.ldc 67, 2) := by decide +kernel
theorem dX6_repair_11 : decode cX6_repair 11 = .ok (.ireturn, 1) := by decide +kernel
theorem dX6_repair_12 : decode cX6_repair 12 = .ok (.iconst 0, 1) := by decide +kernel
theorem dX6_repair_13 : decode cX6_repair 13 = .ok (.istore_n 3, 1) := by decide +kernel
theorem dX6_repair_14 : decode cX6_repair 14 = .ok (.iconst 0, 1) := by decide +kernel
theorem dX6_repair_15 : decode cX6_repair 15 = .ok (.istore 4, 2) := by decide +kernel
theorem dX6_repair_17 : decode cX6_repair 17 = .ok (.iload 4, 2) := by decide +kernel
theorem dX6_repair_19 : decode cX6_repair 19 = .ok (.bipush 100, 2) := by decide +kernel
theorem dX6_repair_21 : decode cX6_repair 21 = .ok (.if_icmp .ge 30, 3) := by decide +kernel
theorem dX6_repair_24 : decode cX6_repair 24 = .ok (.aload_n 0, 1) := by decide +kernel
theorem dX6_repair_25 : decode cX6_repair 25 = .ok (.iload_n 1, 1) := by decide +kernel
theorem dX6_repair_26 : decode cX6_repair 26 = .ok (.iload_n 2, 1) := by decide +kernel
theorem dX6_repair_27 : decode cX6_repair 27 = .ok (.iload 4, 2) := by decide +kernel
theorem dX6_repair_29 : decode cX6_repair 29 = .ok (.invokevirtual 184, 3) := by decide +kernel
theorem dX6_repair_32 : decode cX6_repair 32 = .ok (.ifCond .eq 13, 3) := by decide +kernel
theorem dX6_repair_35 : decode cX6_repair 35 = .ok (.aload_n 0, 1) := by decide +kernel
theorem dX6_repair_36 : decode cX6_repair 36 = .ok (.iload_n 1, 1) := by decide +kernel
theorem dX6_repair_37 : decode cX6_repair 37 = .ok (.iload 4, 2) := by decide +kernel
theorem dX6_repair_39 : decode cX6_repair 39 = .ok (.invokevirtual 169, 3) := by decide +kernel
theorem dX6_repair_42 : decode cX6_repair 42 = .ok (.iinc 3 1, 3) := by decide +kernel
theorem dX6_repair_45 : decode cX6_repair 45 = .ok (.iinc 4 1, 3) := by decide +kernel
theorem dX6_repair_48 : decode cX6_repair 48 = .ok (.goto (-31), 3) := by decide +kernel
theorem dX6_repair_51 : decode cX6_repair 51 = .ok (.iload_n 3, 1) := by decide +kernel
theorem dX6_repair_52 : decode cX6_repair 52 = .ok (.ireturn, 1) := by decide +kernel
set_option maxRecDepth 20000 in
theorem ggX6_transfer_X6_areTwoSites : GoodIn wsX6_transfer wsX6_areTwoSites := goodIn_r _ [13, 14, 15, 16, 12, 17, 18, 19, 20, 21, 78, 79, 80, 81, 82, 83, 84, 85, 86] (by decide +kernel) (by decide +kernel)
set_option maxRecDepth 20000 in
theorem gX6_transfer_X6_areTwoSites : GoodIn wsX6_transfer (wsV RX6 155 RX6 yX6_areTwoSites wsX6_areTwoSites) := goodIn_app (goodIn_of _ (by decide +kernel)) ggX6_transfer_X6_areTwoSites
set_option maxRecDepth 20000 in
theorem ggX6_transfer_X2_has : GoodIn wsX6_transfer wsX2_has := goodIn_r _ [26, 27, 28, 29, 30, 31, 32, 33, 87, 88] (by decide +kernel) (by decide +kernel)
set_option maxRecDepth 20000 in
theorem gX6_transfer_X2_has : GoodIn wsX6_transfer (wsV RX6 181 RX2 yX2_has wsX2_has) := goodIn_app (goodIn_of _ (by decide +kernel)) ggX6_transfer_X2_has
set_option maxRecDepth 20000 in
theorem ggX6_transfer_X6_receive : GoodIn wsX6_transfer wsX6_receive := goodIn_r _ [37, 2, 4, 3, 5, 6, 7, 8, 38, 39, 40, 25, 41, 27, 42, 43, 44, 31, 45, 33, 46, 29, 30, 32, 47, 48, 49, 50, 51, 52, 53, 54, 78, 79, 80, 81, 82, 83, 84, 85, 86, 87, 88, 89, 90, 91, 92, 93, 94, 95, 96] (by decide +kernel) (by decide +kernel)
set_option maxRecDepth 20000 in
theorem gX6_transfer_X6_receive : GoodIn wsX6_transfer (wsV RX6 169 RX6 yX6_receive wsX6_receive) := goodIn_app (goodIn_of _ (by decide +kernel)) ggX6_transfer_X6_receive
set_option maxRecDepth 20000 in
theorem ggX6_transfer_X4_sizeOf : GoodIn wsX6_transfer wsX4_sizeOf := goodIn_r _ [58, 59, 60, 53, 29, 30, 31, 32, 33, 61, 62, 63, 64, 65, 66, 67, 68, 69, 70, 71, 72, 20, 12, 21, 73, 74, 75, 76, 77, 89, 90, 91, 92, 93, 94, 95, 96, 88, 97, 98, 99, 100, 101] (by decide +kernel) (by decide +kernel)
set_option maxRecDepth 20000 in
theorem gX6_transfer_X4_sizeOf : GoodIn wsX6_transfer (wsV RX6 187 RX4 yX4_sizeOf wsX4_sizeOf) := goodIn_app (goodIn_of _ (by decide +kernel)) ggX6_transfer_X4_sizeOf
set_option maxRecDepth 20000 in
theorem ggX6_transfer_X5_get : GoodIn wsX6_transfer wsX5_get := goodIn_r _ [32, 33, 88] (by decide +kernel) (by decide +kernel)
set_option maxRecDepth 20000 in
theorem gX6_transfer_X5_get : GoodIn wsX6_transfer (wsV RX6 82 RX5 yX5_get wsX5_get) := goodIn_app (goodIn_of _ (by decide +kernel)) ggX6_transfer_X5_get
set_option maxRecDepth 20000 in
theorem ggX6_transfer_X5_set : GoodIn wsX6_transfer wsX5_set := goodIn_r _ [45, 33, 88] (by decide +kernel) (by decide +kernel)
set_option maxRecDepth 20000 in
theorem gX6_transfer_X5_set : GoodIn wsX6_transfer (wsV RX6 195 RX5 yX5_set wsX5_set) := goodIn_app (goodIn_of _ (by decide +kernel)) ggX6_transfer_X5_set
theorem dX6_transfer_0 : decode cX6_transfer 0 = .ok (.aload_n 0, 1) := by decide +kernel
theorem dX6_transfer_1 : decode cX6_transfer 1 = .ok (.iload_n 1, 1) := by decide +kernel
theorem dX6_transfer_2 : decode cX6_transfer 2 = .ok (.iload_n 2, 1) := by decide +kernel
theorem dX6_transfer_3 : decode cX6_transfer 3 = .ok (.invokevirtual 155, 3) := by decide +kernel
theorem dX6_transfer_6 : decode cX6_transfer 6 = .ok (.ifCond .ne 6, 3) := by decide +kernel
theorem dX6_transfer_9 : decode cX6_transfer 9 = .ok (.ldc 67, 2) := by decide +kernel
theorem dX6_transfer_11 : decode cX6_transfer 11 = .ok (.ireturn, 1) := by decide +kernel
theorem dX6_transfer_12 : decode cX6_transfer 12 = .ok (.iconst 0, 1) := by decide +kernel
theorem dX6_transfer_13 : decode cX6_transfer 13 = .ok (.istore_n 3, 1) := by decide +kernel
theorem dX6_transfer_14 : decode cX6_transfer 14 = .ok (.iconst 0, 1) := by decide +kernel
theorem dX6_transfer_15 : decode cX6_transfer 15 = .ok (.istore 4, 2) := by decide +kernel
theorem dX6_transfer_17 : decode cX6_transfer 17 = .ok (.iload 4, 2) := by decide +kernel
theorem dX6_transfer_19 : decode cX6_transfer 19 = .ok (.bipush 100, 2) := by decide +kernel
theorem dX6_transfer_21 : decode cX6_transfer 21 = .ok (.if_icmp .ge 54, 3) := by decide +kernel
theorem dX6_transfer_24 : decode cX6_transfer 24 = .ok (.aload_n 0, 1) := by decide +kernel
theorem dX6_transfer_25 : decode cX6_transfer 25 = .ok (.getfield 28, 3) := by decide +kernel
theorem dX6_transfer_28 : decode cX6_transfer 28 = .ok (.iload_n 2, 1) := by decide +kernel
theorem dX6_transfer_29 : decode cX6_transfer 29 = .ok (.iload 4, 2) := by decide +kernel
theorem dX6_transfer_31 : decode cX6_transfer 31 = .ok (.invokevirtual 181, 3) := by decide +kernel
theorem dX6_transfer_34 : decode cX6_transfer 34 = .ok (.ifCond .eq 35, 3) := by decide +kernel
theorem dX6_transfer_37 : decode cX6_transfer 37 = .ok (.aload_n 0, 1) := by decide +kernel
theorem dX6_transfer_38 : decode cX6_transfer 38 = .ok (.getfield 28, 3) := by decide +kernel
theorem dX6_transfer_41 : decode cX6_transfer 41 = .ok (.iload_n 1, 1) := by decide +kernel
theorem dX6_transfer_42 : decode cX6_transfer 42 = .ok (.iload 4, 2) := by decide +kernel
theorem dX6_transfer_44 : decode cX6_transfer 44 = .ok (.invokevirtual 181, 3) := by decide +kernel
theorem dX6_transfer_47 : decode cX6_transfer 47 = .ok (.ifCond .ne 22, 3) := by decide +kernel
theorem dX6_transfer_50 : decode cX6_transfer 50 = .ok (.aload_n 0, 1) := by decide +kernel
theorem dX6_transfer_51 : decode cX6_transfer 51 = .ok (.iload_n 1, 1) := by decide +kernel
theorem dX6_transfer_52 : decode cX6_transfer 52 = .ok (.iload 4, 2) := by decide +kernel
theorem dX6_transfer_54 : decode cX6_transfer 54 = .ok (.invokevirtual 169, 3) := by decide +kernel
theorem dX6_transfer_57 : decode cX6_transfer 57 = .ok (.iload_n 3, 1) := by decide +kernel
theorem dX6_transfer_58 : decode cX6_transfer 58 = .ok (.aload_n 0, 1) := by decide +kernel
theorem dX6_transfer_59 : decode cX6_transfer 59 = .ok (.getfield 12, 3) := by decide +kernel
theorem dX6_transfer_62 : decode cX6_transfer 62 = .ok (.iload 4, 2) := by decide +kernel
theorem dX6_transfer_64 : decode cX6_transfer 64 = .ok (.invokevirtual 187, 3) := by decide +kernel
theorem dX6_transfer_67 : decode cX6_transfer 67 = .ok (.iadd, 1) := by decide +kernel
theorem dX6_transfer_68 : decode cX6_transfer 68 = .ok (.istore_n 3, 1) := by decide +kernel
theorem dX6_transfer_69 : decode cX6_transfer 69 = .ok (.iinc 4 1, 3) := by decide +kernel
theorem dX6_transfer_72 : decode cX6_transfer 72 = .ok (.goto (-55), 3) := by decide +kernel
theorem dX6_transfer_75 : decode cX6_transfer 75 = .ok (.aload_n 0, 1) := by decide +kernel
theorem dX6_transfer_76 : decode cX6_transfer 76 = .ok (.getfield 55, 3) := by decide +kernel
theorem dX6_transfer_79 : decode cX6_transfer 79 = .ok (.iload_n 1, 1) := by decide +kernel
theorem dX6_transfer_80 : decode cX6_transfer 80 = .ok (.aload_n 0, 1) := by decide +kernel
theorem dX6_transfer_81 : decode cX6_transfer 81 = .ok (.getfield 55, 3) := by decide +kernel
theorem dX6_transfer_84 : decode cX6_transfer 84 = .ok (.iload_n 1, 1) := by decide +kernel
theorem dX6_transfer_85 : decode cX6_transfer 85 = .ok (.invokevirtual 82, 3) := by decide +kernel
theorem dX6_transfer_88 : decode cX6_transfer 88 = .ok (.aload_n 0, 1) := by decide +kernel
theorem dX6_transfer_89 : decode cX6_transfer 89 = .ok (.getfield 55, 3) := by decide +kernel
theorem dX6_transfer_92 : decode cX6_transfer 92 = .ok (.iload_n 2, 1) := by decide +kernel
theorem dX6_transfer_93 : decode cX6_transfer 93 = .ok (.invokevirtual 82, 3) := by decide +kernel
theorem dX6_transfer_96 : decode cX6_transfer 96 = .ok (.invokestatic 190, 3) := by decide +kernel
theorem dX6_transfer_99 : decode cX6_transfer 99 = .ok (.invokevirtual 195, 3) := by decide +kernel
theorem dX6_transfer_102 : decode cX6_transfer 102 = .ok (.iload_n 3, 1) := by decide +kernel
theorem dX6_transfer_103 : decode cX6_transfer 103 = .ok (.ireturn, 1) := by decide +kernel
set_option maxRecDepth 20000 in
theorem ggX6_operation_X6_isSite : GoodIn wsX6_operation wsX6_isSite := goodIn_r _ [8, 9, 10, 11, 7, 12, 84, 85, 86, 87, 88, 89, 90, 91, 92] (by decide +kernel) (by decide +kernel)
set_option maxRecDepth 20000 in
theorem gX6_operation_X6_isSite : GoodIn wsX6_operation (wsV RX6 78 RX6 yX6_isSite wsX6_isSite) := goodIn_app (goodIn_of _ (by decide +kernel)) ggX6_operation_X6_isSite
set_option maxRecDepth 20000 in
theorem ggX6_operation_X6_isWithin : GoodIn wsX6_operation wsX6_isWithin := goodIn_r _ [12] (by decide +kernel) (by decide +kernel)
set_option maxRecDepth 20000 in
theorem gX6_operation_X6_isWithin : GoodIn wsX6_operation (va_wsS RX6 63 yX6_isWithin wsX6_isWithin) := goodIn_app (goodIn_of _ (by decide +kernel)) ggX6_operation_X6_isWithin
set_option maxRecDepth 20000 in
theorem ggX6_operation_X4_madeBy : GoodIn wsX6_operation wsX4_madeBy := goodIn_r _ [17, 18, 19, 20, 21, 22, 23, 24, 93, 94, 95, 96, 97, 98, 99, 100, 101] (by decide +kernel) (by decide +kernel)
set_option maxRecDepth 20000 in
theorem gX6_operation_X4_madeBy : GoodIn wsX6_operation (wsV RX6 89 RX4 yX4_madeBy wsX4_madeBy) := goodIn_app (goodIn_of _ (by decide +kernel)) ggX6_operation_X4_madeBy
set_option maxRecDepth 20000 in
theorem ggX6_operation_X6_idOf : GoodIn wsX6_operation wsX6_idOf := goodIn_r _ [27] (by decide +kernel) (by decide +kernel)
set_option maxRecDepth 20000 in
theorem gX6_operation_X6_idOf : GoodIn wsX6_operation (va_wsS RX6 178 yX6_idOf wsX6_idOf) := goodIn_app (goodIn_of _ (by decide +kernel)) ggX6_operation_X6_idOf
set_option maxRecDepth 20000 in
theorem ggX6_operation_X4_kindOf : GoodIn wsX6_operation wsX4_kindOf := goodIn_r _ [31, 32, 19, 20, 21, 22, 23, 24, 93, 94, 95, 96, 97, 98, 99, 100, 101] (by decide +kernel) (by decide +kernel)
set_option maxRecDepth 20000 in
theorem gX6_operation_X4_kindOf : GoodIn wsX6_operation (wsV RX6 198 RX4 yX4_kindOf wsX4_kindOf) := goodIn_app (goodIn_of _ (by decide +kernel)) ggX6_operation_X4_kindOf
set_option maxRecDepth 20000 in
theorem ggX6_operation_X4_timeOf : GoodIn wsX6_operation wsX4_timeOf := goodIn_r _ [36, 37, 19, 20, 21, 22, 23, 24, 93, 94, 95, 96, 97, 98, 99, 100, 101] (by decide +kernel) (by decide +kernel)
set_option maxRecDepth 20000 in
theorem gX6_operation_X4_timeOf : GoodIn wsX6_operation (wsV RX6 201 RX4 yX4_timeOf wsX4_timeOf) := goodIn_app (goodIn_of _ (by decide +kernel)) ggX6_operation_X4_timeOf
set_option maxRecDepth 20000 in
theorem ggX6_operation_X4_sizeOf : GoodIn wsX6_operation wsX4_sizeOf := goodIn_r _ [41, 32, 42, 19, 20, 21, 22, 23, 24, 43, 44, 45, 46, 47, 48, 49, 50, 51, 52, 53, 54, 11, 7, 12, 55, 56, 57, 58, 59, 93, 94, 95, 96, 97, 98, 99, 100, 101, 102, 103, 104, 105, 106] (by decide +kernel) (by decide +kernel)
set_option maxRecDepth 20000 in
theorem gX6_operation_X4_sizeOf : GoodIn wsX6_operation (wsV RX6 187 RX4 yX4_sizeOf wsX4_sizeOf) := goodIn_app (goodIn_of _ (by decide +kernel)) ggX6_operation_X4_sizeOf
set_option maxRecDepth 20000 in
theorem ggX6_operation_X4_isStroke : GoodIn wsX6_operation wsX4_isStroke := goodIn_r _ [63, 32, 19, 20, 21, 22, 23, 24, 93, 94, 95, 96, 97, 98, 99, 100, 101] (by decide +kernel) (by decide +kernel)
set_option maxRecDepth 20000 in
theorem gX6_operation_X4_isStroke : GoodIn wsX6_operation (wsV RX6 204 RX4 yX4_isStroke wsX4_isStroke) := goodIn_app (goodIn_of _ (by decide +kernel)) ggX6_operation_X4_isStroke
set_option maxRecDepth 20000 in
theorem ggX6_operation_X1_pointCount : GoodIn wsX6_operation wsX1_pointCount := goodIn_r _ [67, 48, 49, 20, 21, 22, 23, 24, 102, 103, 104, 105, 106, 101] (by decide +kernel) (by decide +kernel)
set_option maxRecDepth 20000 in
theorem gX6_operation_X1_pointCount : GoodIn wsX6_operation (wsV RX6 100 RX1 yX1_pointCount wsX1_pointCount) := goodIn_app (goodIn_of _ (by decide +kernel)) ggX6_operation_X1_pointCount
set_option maxRecDepth 20000 in
theorem ggX6_operation_X4_targetOf : GoodIn wsX6_operation wsX4_targetOf := goodIn_r _ [71, 72, 19, 20, 21, 22, 23, 24, 93, 94, 95, 96, 97, 98, 99, 100, 101] (by decide +kernel) (by decide +kernel)
set_option maxRecDepth 20000 in
theorem gX6_operation_X4_targetOf : GoodIn wsX6_operation (wsV RX6 210 RX4 yX4_targetOf wsX4_targetOf) := goodIn_app (goodIn_of _ (by decide +kernel)) ggX6_operation_X4_targetOf
set_option maxRecDepth 20000 in
theorem ggX6_operation_X6_numberOf : GoodIn wsX6_operation wsX6_numberOf := goodIn_r _ [75] (by decide +kernel) (by decide +kernel)
set_option maxRecDepth 20000 in
theorem gX6_operation_X6_numberOf : GoodIn wsX6_operation (va_wsS RX6 135 yX6_numberOf wsX6_numberOf) := goodIn_app (goodIn_of _ (by decide +kernel)) ggX6_operation_X6_numberOf
set_option maxRecDepth 20000 in
theorem ggX6_operation_X6_authorOf : GoodIn wsX6_operation wsX6_authorOf := goodIn_r _ [78] (by decide +kernel) (by decide +kernel)
set_option maxRecDepth 20000 in
theorem gX6_operation_X6_authorOf : GoodIn wsX6_operation (va_wsS RX6 172 yX6_authorOf wsX6_authorOf) := goodIn_app (goodIn_of _ (by decide +kernel)) ggX6_operation_X6_authorOf
set_option maxRecDepth 20000 in
theorem ggX6_operation_X4_layerOf : GoodIn wsX6_operation wsX4_layerOf := goodIn_r _ [82, 83, 19, 20, 21, 22, 23, 24, 93, 94, 95, 96, 97, 98, 99, 100, 101] (by decide +kernel) (by decide +kernel)
set_option maxRecDepth 20000 in
theorem gX6_operation_X4_layerOf : GoodIn wsX6_operation (wsV RX6 213 RX4 yX4_layerOf wsX4_layerOf) := goodIn_app (goodIn_of _ (by decide +kernel)) ggX6_operation_X4_layerOf
theorem dX6_operation_0 : decode cX6_operation 0 = .ok (.aload_n 0, 1) := by decide +kernel
theorem dX6_operation_1 : decode cX6_operation 1 = .ok (.iload_n 1, 1) := by decide +kernel
theorem dX6_operation_2 : decode cX6_operation 2 = .ok (.invokevirtual 78, 3) := by decide +kernel
theorem dX6_operation_5 : decode cX6_operation 5 = .ok (.ifCond .eq 17, 3) := by decide +kernel
theorem dX6_operation_8 : decode cX6_operation 8 = .ok (.iload_n 2, 1) := by decide +kernel
theorem dX6_operation_9 : decode cX6_operation 9 = .ok (.iconst 1, 1) := by decide +kernel
theorem dX6_operation_10 : decode cX6_operation 10 = .ok (.if_icmp .lt 12, 3) := by decide +kernel
theorem dX6_operation_13 : decode cX6_operation 13 = .ok (.iload_n 3, 1) := by decide +kernel
theorem dX6_operation_14 : decode cX6_operation 14 = .ok (.iconst 0, 1) := by decide +kernel
theorem dX6_operation_15 : decode cX6_operation 15 = .ok (.iconst 5, 1) := by decide +kernel
theorem dX6_operation_16 : decode cX6_operation 16 = .ok (.invokestatic 63, 3) := by decide +kernel
theorem dX6_operation_19 : decode cX6_operation 19 = .ok (.ifCond .ne 6, 3) := by decide +kernel
theorem dX6_operation_22 : decode cX6_operation 22 = .ok (.ldc 67, 2) := by decide +kernel
theorem dX6_operation_24 : decode cX6_operation 24 = .ok (.ireturn, 1) := by decide +kernel
theorem dX6_operation_25 : decode cX6_operation 25 = .ok (.iload_n 2, 1) := by decide +kernel
theorem dX6_operation_26 : decode cX6_operation 26 = .ok (.aload_n 0, 1) := by decide +kernel
theorem dX6_operation_27 : decode cX6_operation 27 = .ok (.getfield 12, 3) := by decide +kernel
theorem dX6_operation_30 : decode cX6_operation 30 = .ok (.iload_n 1, 1) := by decide +kernel
theorem dX6_operation_31 : decode cX6_operation 31 = .ok (.invokevirtual 89, 3) := by decide +kernel
theorem dX6_operation_34 : decode cX6_operation 34 = .ok (.if_icmp .le 6, 3) := by decide +kernel
theorem dX6_operation_37 : decode cX6_operation 37 = .ok (.ldc 162, 2) := by decide +kernel
theorem dX6_operation_39 : decode cX6_operation 39 = .ok (.ireturn, 1) := by decide +kernel
theorem dX6_operation_40 : decode cX6_operation 40 = .ok (.iload_n 1, 1) := by decide +kernel
theorem dX6_operation_41 : decode cX6_operation 41 = .ok (.iload_n 2, 1) := by decide +kernel
theorem dX6_operation_42 : decode cX6_operation 42 = .ok (.invokestatic 178, 3) := by decide +kernel
theorem dX6_operation_45 : decode cX6_operation 45 = .ok (.istore 4, 2) := by decide +kernel
theorem dX6_operation_47 : decode cX6_operation 47 = .ok (.iload_n 3, 1) := by decide +kernel
theorem dX6_operation_48 : decode cX6_operation 48 = .ok (.tableswitch 136 0 4 #[36, 46, 56, 66, 106], 36) := by decide +kernel
theorem dX6_operation_84 : decode cX6_operation 84 = .ok (.aload_n 0, 1) := by decide +kernel
theorem dX6_operation_85 : decode cX6_operation 85 = .ok (.getfield 12, 3) := by decide +kernel
theorem dX6_operation_88 : decode cX6_operation 88 = .ok (.iload 4, 2) := by decide +kernel
theorem dX6_operation_90 : decode cX6_operation 90 = .ok (.invokevirtual 198, 3) := by decide +kernel
theorem dX6_operation_93 : decode cX6_operation 93 = .ok (.ireturn, 1) := by decide +kernel
theorem dX6_operation_94 : decode cX6_operation 94 = .ok (.aload_n 0, 1) := by decide +kernel
theorem dX6_operation_95 : decode cX6_operation 95 = .ok (.getfield 12, 3) := by decide +kernel
theorem dX6_operation_98 : decode cX6_operation 98 = .ok (.iload 4, 2) := by decide +kernel
theorem dX6_operation_100 : decode cX6_operation 100 = .ok (.invokevirtual 201, 3) := by decide +kernel
theorem dX6_operation_103 : decode cX6_operation 103 = .ok (.ireturn, 1) := by decide +kernel
theorem dX6_operation_104 : decode cX6_operation 104 = .ok (.aload_n 0, 1) := by decide +kernel
theorem dX6_operation_105 : decode cX6_operation 105 = .ok (.getfield 12, 3) := by decide +kernel
theorem dX6_operation_108 : decode cX6_operation 108 = .ok (.iload 4, 2) := by decide +kernel
theorem dX6_operation_110 : decode cX6_operation 110 = .ok (.invokevirtual 187, 3) := by decide +kernel
theorem dX6_operation_113 : decode cX6_operation 113 = .ok (.ireturn, 1) := by decide +kernel
theorem dX6_operation_114 : decode cX6_operation 114 = .ok (.aload_n 0, 1) := by decide +kernel
theorem dX6_operation_115 : decode cX6_operation 115 = .ok (.getfield 12, 3) := by decide +kernel
theorem dX6_operation_118 : decode cX6_operation 118 = .ok (.iload 4, 2) := by decide +kernel
theorem dX6_operation_120 : decode cX6_operation 120 = .ok (.invokevirtual 204, 3) := by decide +kernel
theorem dX6_operation_123 : decode cX6_operation 123 = .ok (.ifCond .eq 18, 3) := by decide +kernel
theorem dX6_operation_126 : decode cX6_operation 126 = .ok (.aload_n 0, 1) := by decide +kernel
theorem dX6_operation_127 : decode cX6_operation 127 = .ok (.getfield 12, 3) := by decide +kernel
theorem dX6_operation_130 : decode cX6_operation 130 = .ok (.getfield 207, 3) := by decide +kernel
theorem dX6_operation_133 : decode cX6_operation 133 = .ok (.iload 4, 2) := by decide +kernel
theorem dX6_operation_135 : decode cX6_operation 135 = .ok (.invokevirtual 100, 3) := by decide +kernel
theorem dX6_operation_138 : decode cX6_operation 138 = .ok (.goto 15, 3) := by decide +kernel
theorem dX6_operation_141 : decode cX6_operation 141 = .ok (.aload_n 0, 1) := by decide +kernel
theorem dX6_operation_142 : decode cX6_operation 142 = .ok (.getfield 12, 3) := by decide +kernel
theorem dX6_operation_145 : decode cX6_operation 145 = .ok (.iload 4, 2) := by decide +kernel
theorem dX6_operation_147 : decode cX6_operation 147 = .ok (.invokevirtual 210, 3) := by decide +kernel
theorem dX6_operation_150 : decode cX6_operation 150 = .ok (.invokestatic 135, 3) := by decide +kernel
theorem dX6_operation_153 : decode cX6_operation 153 = .ok (.ireturn, 1) := by decide +kernel
theorem dX6_operation_154 : decode cX6_operation 154 = .ok (.aload_n 0, 1) := by decide +kernel
theorem dX6_operation_155 : decode cX6_operation 155 = .ok (.getfield 12, 3) := by decide +kernel
theorem dX6_operation_158 : decode cX6_operation 158 = .ok (.iload 4, 2) := by decide +kernel
theorem dX6_operation_160 : decode cX6_operation 160 = .ok (.invokevirtual 198, 3) := by decide +kernel
theorem dX6_operation_163 : decode cX6_operation 163 = .ok (.iconst 3, 1) := by decide +kernel
theorem dX6_operation_164 : decode cX6_operation 164 = .ok (.if_icmp .ne 18, 3) := by decide +kernel
theorem dX6_operation_167 : decode cX6_operation 167 = .ok (.aload_n 0, 1) := by decide +kernel
theorem dX6_operation_168 : decode cX6_operation 168 = .ok (.getfield 12, 3) := by decide +kernel
theorem dX6_operation_171 : decode cX6_operation 171 = .ok (.iload 4, 2) := by decide +kernel
theorem dX6_operation_173 : decode cX6_operation 173 = .ok (.invokevirtual 210, 3) := by decide +kernel
theorem dX6_operation_176 : decode cX6_operation 176 = .ok (.invokestatic 172, 3) := by decide +kernel
theorem dX6_operation_179 : decode cX6_operation 179 = .ok (.goto 4, 3) := by decide +kernel
theorem dX6_operation_182 : decode cX6_operation 182 = .ok (.iload_n 1, 1) := by decide +kernel
theorem dX6_operation_183 : decode cX6_operation 183 = .ok (.ireturn, 1) := by decide +kernel
theorem dX6_operation_184 : decode cX6_operation 184 = .ok (.aload_n 0, 1) := by decide +kernel
theorem dX6_operation_185 : decode cX6_operation 185 = .ok (.getfield 12, 3) := by decide +kernel
theorem dX6_operation_188 : decode cX6_operation 188 = .ok (.iload 4, 2) := by decide +kernel
theorem dX6_operation_190 : decode cX6_operation 190 = .ok (.invokevirtual 213, 3) := by decide +kernel
theorem dX6_operation_193 : decode cX6_operation 193 = .ok (.ireturn, 1) := by decide +kernel
set_option maxRecDepth 20000 in
theorem ggX6_knows_X6_isSite : GoodIn wsX6_knows wsX6_isSite := goodIn_r _ [9, 10, 11, 12, 8, 13, 36, 37, 38, 39, 40, 41, 42, 43, 44] (by decide +kernel) (by decide +kernel)
set_option maxRecDepth 20000 in
theorem gX6_knows_X6_isSite : GoodIn wsX6_knows (wsV RX6 78 RX6 yX6_isSite wsX6_isSite) := goodIn_app (goodIn_of _ (by decide +kernel)) ggX6_knows_X6_isSite
set_option maxRecDepth 20000 in
theorem ggX6_knows_X4_madeBy : GoodIn wsX6_knows wsX4_madeBy := goodIn_r _ [18, 19, 20, 21, 22, 23, 24, 25, 45, 46, 47, 48, 49, 50, 51, 52, 53] (by decide +kernel) (by decide +kernel)
set_option maxRecDepth 20000 in
theorem gX6_knows_X4_madeBy : GoodIn wsX6_knows (wsV RX6 89 RX4 yX4_madeBy wsX4_madeBy) := goodIn_app (goodIn_of _ (by decide +kernel)) ggX6_knows_X4_madeBy
end
section
set_option maxRecDepth 20000 in
theorem ggX6_knows_X6_idOf : GoodIn wsX6_knows wsX6_idOf := goodIn_r _ [28] (by decide +kernel) (by decide +kernel)
set_option maxRecDepth 20000 in
theorem gX6_knows_X6_idOf : GoodIn wsX6_knows (va_wsS RX6 178 yX6_idOf wsX6_idOf) := goodIn_app (goodIn_of _ (by decide +kernel)) ggX6_knows_X6_idOf
set_option maxRecDepth 20000 in
theorem ggX6_knows_X2_has : GoodIn wsX6_knows wsX2_has := goodIn_r _ [33, 34, 35, 21, 22, 23, 24, 25, 54, 53] (by decide +kernel) (by decide +kernel)
set_option maxRecDepth 20000 in
theorem gX6_knows_X2_has : GoodIn wsX6_knows (wsV RX6 181 RX2 yX2_has wsX2_has) := goodIn_app (goodIn_of _ (by decide +kernel)) ggX6_knows_X2_has
theorem dX6_knows_0 : decode cX6_knows 0 = .ok (.aload_n 0, 1) := by decide +kernel
theorem dX6_knows_1 : decode cX6_knows 1 = .ok (.iload_n 1, 1) := by decide +kernel
theorem dX6_knows_2 : decode cX6_knows 2 = .ok (.invokevirtual 78, 3) := by decide +kernel
theorem dX6_knows_5 : decode cX6_knows 5 = .ok (.ifCond .eq 16, 3) := by decide +kernel
theorem dX6_knows_8 : decode cX6_knows 8 = .ok (.aload_n 0, 1) := by decide +kernel
theorem dX6_knows_9 : decode cX6_knows 9 = .ok (.iload_n 2, 1) := by decide +kernel
theorem dX6_knows_10 : decode cX6_knows 10 = .ok (.invokevirtual 78, 3) := by decide +kernel
theorem dX6_knows_13 : decode cX6_knows 13 = .ok (.ifCond .eq 8, 3) := by decide +kernel
theorem dX6_knows_16 : decode cX6_knows 16 = .ok (.iload_n 3, 1) := by decide +kernel
theorem dX6_knows_17 : decode cX6_knows 17 = .ok (.iconst 1, 1) := by decide +kernel
theorem dX6_knows_18 : decode cX6_knows 18 = .ok (.if_icmp .ge 6, 3) := by decide +kernel
theorem dX6_knows_21 : decode cX6_knows 21 = .ok (.ldc 67, 2) := by decide +kernel
theorem dX6_knows_23 : decode cX6_knows 23 = .ok (.ireturn, 1) := by decide +kernel
theorem dX6_knows_24 : decode cX6_knows 24 = .ok (.iload_n 3, 1) := by decide +kernel
theorem dX6_knows_25 : decode cX6_knows 25 = .ok (.aload_n 0, 1) := by decide +kernel
theorem dX6_knows_26 : decode cX6_knows 26 = .ok (.getfield 12, 3) := by decide +kernel
theorem dX6_knows_29 : decode cX6_knows 29 = .ok (.iload_n 2, 1) := by decide +kernel
theorem dX6_knows_30 : decode cX6_knows 30 = .ok (.invokevirtual 89, 3) := by decide +kernel
theorem dX6_knows_33 : decode cX6_knows 33 = .ok (.if_icmp .le 6, 3) := by decide +kernel
theorem dX6_knows_36 : decode cX6_knows 36 = .ok (.ldc 162, 2) := by decide +kernel
theorem dX6_knows_38 : decode cX6_knows 38 = .ok (.ireturn, 1) := by decide +kernel
theorem dX6_knows_39 : decode cX6_knows 39 = .ok (.aload_n 0, 1) := by decide +kernel
theorem dX6_knows_40 : decode cX6_knows 40 = .ok (.getfield 28, 3) := by decide +kernel
theorem dX6_knows_43 : decode cX6_knows 43 = .ok (.iload_n 1, 1) := by decide +kernel
theorem dX6_knows_44 : decode cX6_knows 44 = .ok (.iload_n 2, 1) := by decide +kernel
theorem dX6_knows_45 : decode cX6_knows 45 = .ok (.iload_n 3, 1) := by decide +kernel
theorem dX6_knows_46 : decode cX6_knows 46 = .ok (.invokestatic 178, 3) := by decide +kernel
theorem dX6_knows_49 : decode cX6_knows 49 = .ok (.invokevirtual 181, 3) := by decide +kernel
theorem dX6_knows_52 : decode cX6_knows 52 = .ok (.ifCond .eq 7, 3) := by decide +kernel
theorem dX6_knows_55 : decode cX6_knows 55 = .ok (.iconst 1, 1) := by decide +kernel
theorem dX6_knows_56 : decode cX6_knows 56 = .ok (.goto 4, 3) := by decide +kernel
theorem dX6_knows_59 : decode cX6_knows 59 = .ok (.iconst 0, 1) := by decide +kernel
theorem dX6_knows_60 : decode cX6_knows 60 = .ok (.ireturn, 1) := by decide +kernel
set_option maxRecDepth 20000 in
theorem ggX6_stroke_X6_isWithin : GoodIn wsX6_stroke wsX6_isWithin := goodIn_r _ [9] (by decide +kernel) (by decide +kernel)
set_option maxRecDepth 20000 in
theorem gX6_stroke_X6_isWithin : GoodIn wsX6_stroke (va_wsS RX6 63 yX6_isWithin wsX6_isWithin) := goodIn_app (goodIn_of _ (by decide +kernel)) ggX6_stroke_X6_isWithin
set_option maxRecDepth 20000 in
theorem ggX6_stroke_X6_isSite : GoodIn wsX6_stroke wsX6_isSite := goodIn_r _ [13, 14, 6, 7, 8, 9, 141, 142, 143, 144, 145, 146, 147, 148, 149] (by decide +kernel) (by decide +kernel)
set_option maxRecDepth 20000 in
theorem gX6_stroke_X6_isSite : GoodIn wsX6_stroke (wsV RX6 78 RX6 yX6_isSite wsX6_isSite) := goodIn_app (goodIn_of _ (by decide +kernel)) ggX6_stroke_X6_isSite
set_option maxRecDepth 20000 in
theorem ggX6_stroke_X0_show : GoodIn wsX6_stroke wsX0_show := goodIn_r _ [19, 20, 21, 22, 23, 24, 25, 26, 27, 28, 29, 30, 31, 32, 33, 34, 35, 36, 37, 38, 39, 40, 41, 42, 43, 44, 45, 46, 47, 48, 49, 50, 51, 52, 53, 54, 55, 56, 57, 58, 18, 59, 60, 61, 62, 63, 64, 65, 66, 67, 68, 69, 70, 71, 72, 73, 74, 75, 76, 77, 78, 79, 80, 81, 82, 83, 84, 85, 86, 87, 88, 89, 90, 91, 92, 150, 151, 152, 153, 154, 155, 156, 157, 158, 159, 160, 161, 162, 163] (by decide +kernel) (by decide +kernel)
set_option maxRecDepth 20000 in
theorem gX6_stroke_X0_show : GoodIn wsX6_stroke (wsV RX6 92 RX0 yX0_show wsX0_show) := goodIn_app (goodIn_of _ (by decide +kernel)) ggX6_stroke_X0_show
set_option maxRecDepth 20000 in
theorem ggX6_stroke_X0_strokeCount : GoodIn wsX6_stroke wsX0_strokeCount := goodIn_r _ [96, 22, 150, 151, 152, 153] (by decide +kernel) (by decide +kernel)
set_option maxRecDepth 20000 in
theorem gX6_stroke_X0_strokeCount : GoodIn wsX6_stroke (wsV RX6 96 RX0 yX0_strokeCount wsX0_strokeCount) := goodIn_app (goodIn_of _ (by decide +kernel)) ggX6_stroke_X0_strokeCount
set_option maxRecDepth 20000 in
theorem ggX6_stroke_X0_strokeIn : GoodIn wsX6_stroke wsX0_strokeIn := goodIn_r _ [100, 83, 88, 40, 41, 32, 42, 34, 150, 151, 152, 153, 162] (by decide +kernel) (by decide +kernel)
set_option maxRecDepth 20000 in
theorem gX6_stroke_X0_strokeIn : GoodIn wsX6_stroke (wsV RX6 148 RX0 yX0_strokeIn wsX0_strokeIn) := goodIn_app (goodIn_of _ (by decide +kernel)) ggX6_stroke_X0_strokeIn
set_option maxRecDepth 20000 in
theorem ggX6_stroke_X6_coordinate : GoodIn wsX6_stroke wsX6_coordinate := goodIn_r _ [104, 3, 5, 105, 106, 107, 108, 109, 110, 111, 40, 41, 32, 42, 34, 112, 113, 114, 115, 116, 117, 118, 119, 120, 121, 141, 142, 143, 144, 145, 146, 147, 148, 149, 154, 155, 156, 157, 158, 159, 160, 161, 164, 165, 166, 167, 168, 162] (by decide +kernel) (by decide +kernel)
set_option maxRecDepth 20000 in
theorem gX6_stroke_X6_coordinate : GoodIn wsX6_stroke (wsV RX6 216 RX6 yX6_coordinate wsX6_coordinate) := goodIn_app (goodIn_of _ (by decide +kernel)) ggX6_stroke_X6_coordinate
set_option maxRecDepth 20000 in
theorem ggX6_stroke_X6_strokeValue : GoodIn wsX6_stroke wsX6_strokeValue := goodIn_r _ [125, 2, 3, 126, 127, 8, 128, 129, 130, 131, 132, 133, 134, 18, 135, 21, 88, 40, 41, 32, 42, 34, 136, 137, 138, 108, 139, 140, 111, 105, 106, 107, 109, 110, 141, 142, 143, 144, 145, 146, 147, 148, 149, 154, 155, 156, 157, 158, 159, 160, 161, 150, 151, 152, 153, 162, 164, 165, 166, 167, 168] (by decide +kernel) (by decide +kernel)
set_option maxRecDepth 20000 in
theorem gX6_stroke_X6_strokeValue : GoodIn wsX6_stroke (wsV RX6 219 RX6 yX6_strokeValue wsX6_strokeValue) := goodIn_app (goodIn_of _ (by decide +kernel)) ggX6_stroke_X6_strokeValue
theorem dX6_stroke_0 : decode cX6_stroke 0 = .ok (.iload_n 3, 1) := by decide +kernel
theorem dX6_stroke_1 : decode cX6_stroke 1 = .ok (.bipush 10, 2) := by decide +kernel
theorem dX6_stroke_3 : decode cX6_stroke 3 = .ok (.bipush 25, 2) := by decide +kernel
theorem dX6_stroke_5 : decode cX6_stroke 5 = .ok (.invokestatic 63, 3) := by decide +kernel
theorem dX6_stroke_8 : decode cX6_stroke 8 = .ok (.istore 4, 2) := by decide +kernel
theorem dX6_stroke_10 : decode cX6_stroke 10 = .ok (.aload_n 0, 1) := by decide +kernel
theorem dX6_stroke_11 : decode cX6_stroke 11 = .ok (.iload_n 1, 1) := by decide +kernel
theorem dX6_stroke_12 : decode cX6_stroke 12 = .ok (.invokevirtual 78, 3) := by decide +kernel
theorem dX6_stroke_15 : decode cX6_stroke 15 = .ok (.ifCond .eq 21, 3) := by decide +kernel
theorem dX6_stroke_18 : decode cX6_stroke 18 = .ok (.iload_n 2, 1) := by decide +kernel
theorem dX6_stroke_19 : decode cX6_stroke 19 = .ok (.ifCond .lt 17, 3) := by decide +kernel
theorem dX6_stroke_22 : decode cX6_stroke 22 = .ok (.iload 4, 2) := by decide +kernel
theorem dX6_stroke_24 : decode cX6_stroke 24 = .ok (.ifCond .ne 15, 3) := by decide +kernel
theorem dX6_stroke_27 : decode cX6_stroke 27 = .ok (.iload_n 3, 1) := by decide +kernel
theorem dX6_stroke_28 : decode cX6_stroke 28 = .ok (.iconst 0, 1) := by decide +kernel
theorem dX6_stroke_29 : decode cX6_stroke 29 = .ok (.iconst 4, 1) := by decide +kernel
theorem dX6_stroke_30 : decode cX6_stroke 30 = .ok (.invokestatic 63, 3) := by decide +kernel
theorem dX6_stroke_33 : decode cX6_stroke 33 = .ok (.ifCond .ne 6, 3) := by decide +kernel
theorem dX6_stroke_36 : decode cX6_stroke 36 = .ok (.ldc 67, 2) := by decide +kernel
theorem dX6_stroke_38 : decode cX6_stroke 38 = .ok (.ireturn, 1) := by decide +kernel
theorem dX6_stroke_39 : decode cX6_stroke 39 = .ok (.aload_n 0, 1) := by decide +kernel
theorem dX6_stroke_40 : decode cX6_stroke 40 = .ok (.getfield 45, 3) := by decide +kernel
theorem dX6_stroke_43 : decode cX6_stroke 43 = .ok (.aload_n 0, 1) := by decide +kernel
theorem dX6_stroke_44 : decode cX6_stroke 44 = .ok (.getfield 12, 3) := by decide +kernel
theorem dX6_stroke_47 : decode cX6_stroke 47 = .ok (.aload_n 0, 1) := by decide +kernel
theorem dX6_stroke_48 : decode cX6_stroke 48 = .ok (.getfield 28, 3) := by decide +kernel
theorem dX6_stroke_51 : decode cX6_stroke 51 = .ok (.iload_n 1, 1) := by decide +kernel
theorem dX6_stroke_52 : decode cX6_stroke 52 = .ok (.invokevirtual 92, 3) := by decide +kernel
theorem dX6_stroke_55 : decode cX6_stroke 55 = .ok (.iload_n 2, 1) := by decide +kernel
theorem dX6_stroke_56 : decode cX6_stroke 56 = .ok (.aload_n 0, 1) := by decide +kernel
theorem dX6_stroke_57 : decode cX6_stroke 57 = .ok (.getfield 45, 3) := by decide +kernel
theorem dX6_stroke_60 : decode cX6_stroke 60 = .ok (.invokevirtual 96, 3) := by decide +kernel
theorem dX6_stroke_63 : decode cX6_stroke 63 = .ok (.if_icmp .lt 6, 3) := by decide +kernel
theorem dX6_stroke_66 : decode cX6_stroke 66 = .ok (.ldc 162, 2) := by decide +kernel
theorem dX6_stroke_68 : decode cX6_stroke 68 = .ok (.ireturn, 1) := by decide +kernel
theorem dX6_stroke_69 : decode cX6_stroke 69 = .ok (.aload_n 0, 1) := by decide +kernel
theorem dX6_stroke_70 : decode cX6_stroke 70 = .ok (.getfield 45, 3) := by decide +kernel
theorem dX6_stroke_73 : decode cX6_stroke 73 = .ok (.iload_n 2, 1) := by decide +kernel
theorem dX6_stroke_74 : decode cX6_stroke 74 = .ok (.invokevirtual 148, 3) := by decide +kernel
theorem dX6_stroke_77 : decode cX6_stroke 77 = .ok (.istore 5, 2) := by decide +kernel
theorem dX6_stroke_79 : decode cX6_stroke 79 = .ok (.iload 4, 2) := by decide +kernel
theorem dX6_stroke_81 : decode cX6_stroke 81 = .ok (.ifCond .eq 16, 3) := by decide +kernel
theorem dX6_stroke_84 : decode cX6_stroke 84 = .ok (.aload_n 0, 1) := by decide +kernel
theorem dX6_stroke_85 : decode cX6_stroke 85 = .ok (.iload 5, 2) := by decide +kernel
theorem dX6_stroke_87 : decode cX6_stroke 87 = .ok (.iload_n 3, 1) := by decide +kernel
theorem dX6_stroke_88 : decode cX6_stroke 88 = .ok (.bipush 10, 2) := by decide +kernel
theorem dX6_stroke_90 : decode cX6_stroke 90 = .ok (.isub, 1) := by decide +kernel
theorem dX6_stroke_91 : decode cX6_stroke 91 = .ok (.invokevirtual 216, 3) := by decide +kernel
theorem dX6_stroke_94 : decode cX6_stroke 94 = .ok (.goto 10, 3) := by decide +kernel
theorem dX6_stroke_97 : decode cX6_stroke 97 = .ok (.aload_n 0, 1) := by decide +kernel
theorem dX6_stroke_98 : decode cX6_stroke 98 = .ok (.iload 5, 2) := by decide +kernel
theorem dX6_stroke_100 : decode cX6_stroke 100 = .ok (.iload_n 3, 1) := by decide +kernel
theorem dX6_stroke_101 : decode cX6_stroke 101 = .ok (.invokevirtual 219, 3) := by decide +kernel
theorem dX6_stroke_104 : decode cX6_stroke 104 = .ok (.ireturn, 1) := by decide +kernel
set_option maxRecDepth 20000 in
theorem ggX6_strokeAt_X6_isSite : GoodIn wsX6_strokeAt wsX6_isSite := goodIn_r _ [10, 11, 12, 13, 9, 14, 118, 119, 120, 121, 122, 123, 124, 125, 126] (by decide +kernel) (by decide +kernel)
set_option maxRecDepth 20000 in
theorem gX6_strokeAt_X6_isSite : GoodIn wsX6_strokeAt (wsV RX6 78 RX6 yX6_isSite wsX6_isSite) := goodIn_app (goodIn_of _ (by decide +kernel)) ggX6_strokeAt_X6_isSite
set_option maxRecDepth 20000 in
theorem ggX6_strokeAt_X6_isWithin : GoodIn wsX6_strokeAt wsX6_isWithin := goodIn_r _ [14] (by decide +kernel) (by decide +kernel)
set_option maxRecDepth 20000 in
theorem gX6_strokeAt_X6_isWithin : GoodIn wsX6_strokeAt (va_wsS RX6 63 yX6_isWithin wsX6_isWithin) := goodIn_app (goodIn_of _ (by decide +kernel)) ggX6_strokeAt_X6_isWithin
set_option maxRecDepth 20000 in
theorem ggX6_strokeAt_X0_show : GoodIn wsX6_strokeAt wsX0_show := goodIn_r _ [19, 20, 21, 22, 23, 24, 25, 26, 27, 28, 29, 30, 31, 32, 33, 34, 35, 36, 37, 38, 39, 40, 41, 42, 43, 44, 45, 46, 47, 48, 49, 50, 51, 52, 53, 54, 55, 56, 57, 58, 18, 59, 60, 61, 62, 63, 64, 65, 66, 67, 68, 69, 70, 71, 72, 73, 74, 75, 76, 77, 78, 79, 80, 81, 82, 83, 84, 85, 86, 87, 88, 89, 90, 91, 92, 135, 136, 137, 138, 127, 128, 129, 130, 131, 132, 133, 134, 139, 140] (by decide +kernel) (by decide +kernel)
set_option maxRecDepth 20000 in
theorem gX6_strokeAt_X0_show : GoodIn wsX6_strokeAt (wsV RX6 92 RX0 yX0_show wsX0_show) := goodIn_app (goodIn_of _ (by decide +kernel)) ggX6_strokeAt_X0_show
set_option maxRecDepth 20000 in
theorem ggX6_strokeAt_X0_strokeCount : GoodIn wsX6_strokeAt wsX0_strokeCount := goodIn_r _ [96, 22, 135, 136, 137, 138] (by decide +kernel) (by decide +kernel)
set_option maxRecDepth 20000 in
theorem gX6_strokeAt_X0_strokeCount : GoodIn wsX6_strokeAt (wsV RX6 96 RX0 yX0_strokeCount wsX0_strokeCount) := goodIn_app (goodIn_of _ (by decide +kernel)) ggX6_strokeAt_X0_strokeCount
set_option maxRecDepth 20000 in
theorem ggX6_strokeAt_X0_strokeIn : GoodIn wsX6_strokeAt wsX0_strokeIn := goodIn_r _ [100, 83, 88, 40, 41, 32, 42, 34, 135, 136, 137, 138, 139] (by decide +kernel) (by decide +kernel)
set_option maxRecDepth 20000 in
theorem gX6_strokeAt_X0_strokeIn : GoodIn wsX6_strokeAt (wsV RX6 148 RX0 yX0_strokeIn wsX0_strokeIn) := goodIn_app (goodIn_of _ (by decide +kernel)) ggX6_strokeAt_X0_strokeIn
set_option maxRecDepth 20000 in
theorem ggX6_strokeAt_X1_hasPoint : GoodIn wsX6_strokeAt wsX1_hasPoint := goodIn_r _ [105, 106, 107, 40, 41, 32, 42, 34, 108, 109, 110, 104, 111, 112, 113, 114, 115, 116, 117, 141, 142, 143, 144, 145, 139] (by decide +kernel) (by decide +kernel)
set_option maxRecDepth 20000 in
theorem gX6_strokeAt_X1_hasPoint : GoodIn wsX6_strokeAt (wsV RX6 222 RX1 yX1_hasPoint wsX1_hasPoint) := goodIn_app (goodIn_of _ (by decide +kernel)) ggX6_strokeAt_X1_hasPoint
theorem dX6_strokeAt_0 : decode cX6_strokeAt 0 = .ok (.aload_n 0, 1) := by decide +kernel
theorem dX6_strokeAt_1 : decode cX6_strokeAt 1 = .ok (.iload_n 1, 1) := by decide +kernel
theorem dX6_strokeAt_2 : decode cX6_strokeAt 2 = .ok (.invokevirtual 78, 3) := by decide +kernel
theorem dX6_strokeAt_5 : decode cX6_strokeAt 5 = .ok (.ifCond .eq 27, 3) := by decide +kernel
theorem dX6_strokeAt_8 : decode cX6_strokeAt 8 = .ok (.iload_n 2, 1) := by decide +kernel
theorem dX6_strokeAt_9 : decode cX6_strokeAt 9 = .ok (.bipush (-100), 2) := by decide +kernel
theorem dX6_strokeAt_11 : decode cX6_strokeAt 11 = .ok (.sipush 200, 3) := by decide +kernel
theorem dX6_strokeAt_14 : decode cX6_strokeAt 14 = .ok (.invokestatic 63, 3) := by decide +kernel
theorem dX6_strokeAt_17 : decode cX6_strokeAt 17 = .ok (.ifCond .eq 15, 3) := by decide +kernel
theorem dX6_strokeAt_20 : decode cX6_strokeAt 20 = .ok (.iload_n 3, 1) := by decide +kernel
theorem dX6_strokeAt_21 : decode cX6_strokeAt 21 = .ok (.bipush (-100), 2) := by decide +kernel
theorem dX6_strokeAt_23 : decode cX6_strokeAt 23 = .ok (.sipush 200, 3) := by decide +kernel
theorem dX6_strokeAt_26 : decode cX6_strokeAt 26 = .ok (.invokestatic 63, 3) := by decide +kernel
theorem dX6_strokeAt_29 : decode cX6_strokeAt 29 = .ok (.ifCond .ne 6, 3) := by decide +kernel
theorem dX6_strokeAt_32 : decode cX6_strokeAt 32 = .ok (.ldc 67, 2) := by decide +kernel
theorem dX6_strokeAt_34 : decode cX6_strokeAt 34 = .ok (.ireturn, 1) := by decide +kernel
theorem dX6_strokeAt_35 : decode cX6_strokeAt 35 = .ok (.aload_n 0, 1) := by decide +kernel
theorem dX6_strokeAt_36 : decode cX6_strokeAt 36 = .ok (.getfield 45, 3) := by decide +kernel
theorem dX6_strokeAt_39 : decode cX6_strokeAt 39 = .ok (.aload_n 0, 1) := by decide +kernel
theorem dX6_strokeAt_40 : decode cX6_strokeAt 40 = .ok (.getfield 12, 3) := by decide +kernel
theorem dX6_strokeAt_43 : decode cX6_strokeAt 43 = .ok (.aload_n 0, 1) := by decide +kernel
theorem dX6_strokeAt_44 : decode cX6_strokeAt 44 = .ok (.getfield 28, 3) := by decide +kernel
theorem dX6_strokeAt_47 : decode cX6_strokeAt 47 = .ok (.iload_n 1, 1) := by decide +kernel
theorem dX6_strokeAt_48 : decode cX6_strokeAt 48 = .ok (.invokevirtual 92, 3) := by decide +kernel
theorem dX6_strokeAt_51 : decode cX6_strokeAt 51 = .ok (.aload_n 0, 1) := by decide +kernel
theorem dX6_strokeAt_52 : decode cX6_strokeAt 52 = .ok (.getfield 45, 3) := by decide +kernel
theorem dX6_strokeAt_55 : decode cX6_strokeAt 55 = .ok (.invokevirtual 96, 3) := by decide +kernel
theorem dX6_strokeAt_58 : decode cX6_strokeAt 58 = .ok (.iconst 1, 1) := by decide +kernel
theorem dX6_strokeAt_59 : decode cX6_strokeAt 59 = .ok (.isub, 1) := by decide +kernel
theorem dX6_strokeAt_60 : decode cX6_strokeAt 60 = .ok (.istore 4, 2) := by decide +kernel
theorem dX6_strokeAt_62 : decode cX6_strokeAt 62 = .ok (.iload 4, 2) := by decide +kernel
theorem dX6_strokeAt_64 : decode cX6_strokeAt 64 = .ok (.ifCond .lt 36, 3) := by decide +kernel
theorem dX6_strokeAt_67 : decode cX6_strokeAt 67 = .ok (.aload_n 0, 1) := by decide +kernel
theorem dX6_strokeAt_68 : decode cX6_strokeAt 68 = .ok (.getfield 12, 3) := by decide +kernel
theorem dX6_strokeAt_71 : decode cX6_strokeAt 71 = .ok (.getfield 207, 3) := by decide +kernel
theorem dX6_strokeAt_74 : decode cX6_strokeAt 74 = .ok (.aload_n 0, 1) := by decide +kernel
theorem dX6_strokeAt_75 : decode cX6_strokeAt 75 = .ok (.getfield 45, 3) := by decide +kernel
theorem dX6_strokeAt_78 : decode cX6_strokeAt 78 = .ok (.iload 4, 2) := by decide +kernel
theorem dX6_strokeAt_80 : decode cX6_strokeAt 80 = .ok (.invokevirtual 148, 3) := by decide +kernel
theorem dX6_strokeAt_83 : decode cX6_strokeAt 83 = .ok (.iload_n 2, 1) := by decide +kernel
theorem dX6_strokeAt_84 : decode cX6_strokeAt 84 = .ok (.iload_n 3, 1) := by decide +kernel
theorem dX6_strokeAt_85 : decode cX6_strokeAt 85 = .ok (.invokevirtual 222, 3) := by decide +kernel
theorem dX6_strokeAt_88 : decode cX6_strokeAt 88 = .ok (.ifCond .eq 6, 3) := by decide +kernel
theorem dX6_strokeAt_91 : decode cX6_strokeAt 91 = .ok (.iload 4, 2) := by decide +kernel
theorem dX6_strokeAt_93 : decode cX6_strokeAt 93 = .ok (.ireturn, 1) := by decide +kernel
theorem dX6_strokeAt_94 : decode cX6_strokeAt 94 = .ok (.iinc 4 (-1), 3) := by decide +kernel
theorem dX6_strokeAt_97 : decode cX6_strokeAt 97 = .ok (.goto (-35), 3) := by decide +kernel
theorem dX6_strokeAt_100 : decode cX6_strokeAt 100 = .ok (.ldc 162, 2) := by decide +kernel
theorem dX6_strokeAt_102 : decode cX6_strokeAt 102 = .ok (.ireturn, 1) := by decide +kernel
set_option maxRecDepth 20000 in
theorem ggX6_digest_X6_isSite : GoodIn wsX6_digest wsX6_isSite := goodIn_r _ [8, 9, 10, 11, 7, 12, 125, 126, 127, 128, 129, 130, 131, 132, 133] (by decide +kernel) (by decide +kernel)
set_option maxRecDepth 20000 in
theorem gX6_digest_X6_isSite : GoodIn wsX6_digest (wsV RX6 78 RX6 yX6_isSite wsX6_isSite) := goodIn_app (goodIn_of _ (by decide +kernel)) ggX6_digest_X6_isSite
set_option maxRecDepth 20000 in
theorem ggX6_digest_X0_show : GoodIn wsX6_digest wsX0_show := goodIn_r _ [17, 18, 19, 20, 21, 22, 23, 24, 25, 26, 27, 28, 29, 30, 31, 32, 33, 34, 35, 36, 37, 38, 39, 40, 41, 42, 43, 44, 45, 46, 47, 48, 49, 50, 51, 52, 53, 54, 55, 56, 16, 57, 58, 59, 60, 61, 62, 63, 64, 65, 66, 67, 68, 69, 70, 71, 72, 73, 74, 75, 76, 77, 78, 79, 80, 81, 82, 83, 84, 85, 86, 87, 88, 89, 90, 134, 135, 136, 137, 138, 139, 140, 141, 142, 143, 144, 145, 146, 147] (by decide +kernel) (by decide +kernel)
set_option maxRecDepth 20000 in
theorem gX6_digest_X0_show : GoodIn wsX6_digest (wsV RX6 92 RX0 yX0_show wsX0_show) := goodIn_app (goodIn_of _ (by decide +kernel)) ggX6_digest_X0_show
set_option maxRecDepth 20000 in
theorem ggX6_digest_X0_hash : GoodIn wsX6_digest wsX0_hash := goodIn_r _ [94, 20, 81, 19, 86, 38, 39, 30, 40, 32, 95, 7, 96, 97, 98, 99, 100, 101, 102, 103, 104, 105, 106, 107, 108, 16, 109, 110, 111, 112, 113, 114, 115, 116, 117, 118, 119, 120, 121, 122, 123, 124, 134, 135, 136, 137, 138, 139, 140, 141, 142, 143, 144, 145, 146, 148, 149, 150, 151, 152] (by decide +kernel) (by decide +kernel)
set_option maxRecDepth 20000 in
theorem gX6_digest_X0_hash : GoodIn wsX6_digest (wsV RX6 225 RX0 yX0_hash wsX0_hash) := goodIn_app (goodIn_of _ (by decide +kernel)) ggX6_digest_X0_hash
theorem dX6_digest_0 : decode cX6_digest 0 = .ok (.aload_n 0, 1) := by decide +kernel
theorem dX6_digest_1 : decode cX6_digest 1 = .ok (.iload_n 1, 1) := by decide +kernel
theorem dX6_digest_2 : decode cX6_digest 2 = .ok (.invokevirtual 78, 3) := by decide +kernel
theorem dX6_digest_5 : decode cX6_digest 5 = .ok (.ifCond .ne 5, 3) := by decide +kernel
theorem dX6_digest_8 : decode cX6_digest 8 = .ok (.iconst 0, 1) := by decide +kernel
theorem dX6_digest_9 : decode cX6_digest 9 = .ok (.ireturn, 1) := by decide +kernel
theorem dX6_digest_10 : decode cX6_digest 10 = .ok (.aload_n 0, 1) := by decide +kernel
theorem dX6_digest_11 : decode cX6_digest 11 = .ok (.getfield 45, 3) := by decide +kernel
theorem dX6_digest_14 : decode cX6_digest 14 = .ok (.aload_n 0, 1) := by decide +kernel
theorem dX6_digest_15 : decode cX6_digest 15 = .ok (.getfield 12, 3) := by decide +kernel
theorem dX6_digest_18 : decode cX6_digest 18 = .ok (.aload_n 0, 1) := by decide +kernel
theorem dX6_digest_19 : decode cX6_digest 19 = .ok (.getfield 28, 3) := by decide +kernel
theorem dX6_digest_22 : decode cX6_digest 22 = .ok (.iload_n 1, 1) := by decide +kernel
theorem dX6_digest_23 : decode cX6_digest 23 = .ok (.invokevirtual 92, 3) := by decide +kernel
theorem dX6_digest_26 : decode cX6_digest 26 = .ok (.aload_n 0, 1) := by decide +kernel
theorem dX6_digest_27 : decode cX6_digest 27 = .ok (.getfield 45, 3) := by decide +kernel
theorem dX6_digest_30 : decode cX6_digest 30 = .ok (.aload_n 0, 1) := by decide +kernel
theorem dX6_digest_31 : decode cX6_digest 31 = .ok (.getfield 12, 3) := by decide +kernel
theorem dX6_digest_34 : decode cX6_digest 34 = .ok (.invokevirtual 225, 3) := by decide +kernel
theorem dX6_digest_37 : decode cX6_digest 37 = .ok (.ireturn, 1) := by decide +kernel
set_option maxRecDepth 20000 in
theorem ggX6_areSame_X6_isSite : GoodIn wsX6_areSame wsX6_isSite := goodIn_r _ [7, 8, 9, 10, 6, 11, 109, 110, 111, 112, 113, 114, 115, 116, 117] (by decide +kernel) (by decide +kernel)
set_option maxRecDepth 20000 in
theorem gX6_areSame_X6_isSite : GoodIn wsX6_areSame (wsV RX6 78 RX6 yX6_isSite wsX6_isSite) := goodIn_app (goodIn_of _ (by decide +kernel)) ggX6_areSame_X6_isSite
set_option maxRecDepth 20000 in
theorem ggX6_areSame_X6_showSame : GoodIn wsX6_areSame wsX6_showSame := goodIn_r _ [15, 16, 17, 18, 19, 20, 21, 22, 23, 24, 25, 26, 27, 28, 29, 30, 31, 32, 33, 34, 35, 36, 37, 38, 39, 40, 41, 42, 43, 44, 45, 46, 47, 48, 49, 50, 51, 52, 53, 54, 55, 56, 57, 58, 59, 60, 61, 62, 63, 64, 65, 66, 67, 68, 69, 70, 71, 72, 73, 74, 75, 76, 77, 78, 79, 80, 81, 82, 83, 84, 85, 86, 87, 88, 89, 90, 91, 92, 93, 94, 95, 96, 97, 98, 99, 100, 101, 102, 103, 104, 105, 106, 107, 108, 109, 110, 111, 112, 113, 114, 115, 116, 117, 118, 119, 120, 121, 122, 123, 124, 125, 126, 127, 128, 129, 130, 131] (by decide +kernel) (by decide +kernel)
set_option maxRecDepth 20000 in
theorem gX6_areSame_X6_showSame : GoodIn wsX6_areSame (wsV RX6 229 RX6 yX6_showSame wsX6_showSame) := goodIn_app (goodIn_of _ (by decide +kernel)) ggX6_areSame_X6_showSame
theorem dX6_areSame_0 : decode cX6_areSame 0 = .ok (.aload_n 0, 1) := by decide +kernel
theorem dX6_areSame_1 : decode cX6_areSame 1 = .ok (.iload_n 1, 1) := by decide +kernel
theorem dX6_areSame_2 : decode cX6_areSame 2 = .ok (.invokevirtual 78, 3) := by decide +kernel
theorem dX6_areSame_5 : decode cX6_areSame 5 = .ok (.ifCond .eq 11, 3) := by decide +kernel
theorem dX6_areSame_8 : decode cX6_areSame 8 = .ok (.aload_n 0, 1) := by decide +kernel
theorem dX6_areSame_9 : decode cX6_areSame 9 = .ok (.iload_n 2, 1) := by decide +kernel
theorem dX6_areSame_10 : decode cX6_areSame 10 = .ok (.invokevirtual 78, 3) := by decide +kernel
theorem dX6_areSame_13 : decode cX6_areSame 13 = .ok (.ifCond .ne 6, 3) := by decide +kernel
theorem dX6_areSame_16 : decode cX6_areSame 16 = .ok (.ldc 67, 2) := by decide +kernel
theorem dX6_areSame_18 : decode cX6_areSame 18 = .ok (.ireturn, 1) := by decide +kernel
theorem dX6_areSame_19 : decode cX6_areSame 19 = .ok (.aload_n 0, 1) := by decide +kernel
theorem dX6_areSame_20 : decode cX6_areSame 20 = .ok (.aload_n 0, 1) := by decide +kernel
theorem dX6_areSame_21 : decode cX6_areSame 21 = .ok (.getfield 28, 3) := by decide +kernel
theorem dX6_areSame_24 : decode cX6_areSame 24 = .ok (.iload_n 1, 1) := by decide +kernel
theorem dX6_areSame_25 : decode cX6_areSame 25 = .ok (.iload_n 2, 1) := by decide +kernel
theorem dX6_areSame_26 : decode cX6_areSame 26 = .ok (.invokevirtual 229, 3) := by decide +kernel
theorem dX6_areSame_29 : decode cX6_areSame 29 = .ok (.ifCond .eq 7, 3) := by decide +kernel
theorem dX6_areSame_32 : decode cX6_areSame 32 = .ok (.iconst 1, 1) := by decide +kernel
theorem dX6_areSame_33 : decode cX6_areSame 33 = .ok (.goto 4, 3) := by decide +kernel
theorem dX6_areSame_36 : decode cX6_areSame 36 = .ok (.iconst 0, 1) := by decide +kernel
theorem dX6_areSame_37 : decode cX6_areSame 37 = .ok (.ireturn, 1) := by decide +kernel
set_option maxRecDepth 20000 in
theorem ggX6_differing_X6_lookAhead : GoodIn wsX6_differing wsX6_lookAhead := goodIn_r _ [7, 2, 8, 1, 9, 10, 11, 12, 13, 14, 15, 16, 17, 18, 19, 20, 21, 22, 23, 24, 25, 26, 27, 28, 29, 30, 31, 32, 33, 34, 35, 36, 37, 38, 39, 40, 41, 42, 43, 44, 45, 129, 130, 131, 132, 133, 134, 135, 136, 137, 138, 139, 140, 141] (by decide +kernel) (by decide +kernel)
set_option maxRecDepth 20000 in
theorem gX6_differing_X6_lookAhead : GoodIn wsX6_differing (wsV RX6 233 RX6 yX6_lookAhead wsX6_lookAhead) := goodIn_app (goodIn_of _ (by decide +kernel)) ggX6_differing_X6_lookAhead
set_option maxRecDepth 20000 in
theorem ggX6_differing_X6_showSame : GoodIn wsX6_differing wsX6_showSame := goodIn_r _ [49, 50, 51, 52, 53, 54, 55, 56, 57, 58, 59, 60, 61, 62, 63, 64, 65, 66, 67, 68, 69, 19, 70, 21, 71, 17, 18, 20, 22, 23, 24, 25, 72, 73, 74, 75, 76, 77, 78, 79, 80, 13, 81, 15, 82, 83, 84, 85, 86, 87, 88, 89, 90, 91, 92, 93, 94, 95, 96, 97, 43, 44, 45, 98, 99, 100, 101, 102, 103, 104, 105, 106, 107, 108, 109, 110, 111, 112, 113, 114, 115, 116, 117, 118, 119, 120, 121, 122, 123, 124, 125, 126, 127, 128, 129, 130, 131, 132, 133, 134, 135, 136, 137, 142, 143, 144, 145, 146, 147, 148, 149, 150, 151, 152, 153, 139, 138] (by decide +kernel) (by decide +kernel)
set_option maxRecDepth 20000 in
theorem gX6_differing_X6_showSame : GoodIn wsX6_differing (wsV RX6 229 RX6 yX6_showSame wsX6_showSame) := goodIn_app (goodIn_of _ (by decide +kernel)) ggX6_differing_X6_showSame
theorem dX6_differing_0 : decode cX6_differing 0 = .ok (.aload_n 0, 1) := by decide +kernel
theorem dX6_differing_1 : decode cX6_differing 1 = .ok (.invokevirtual 233, 3) := by decide +kernel
theorem dX6_differing_4 : decode cX6_differing 4 = .ok (.iconst 0, 1) := by decide +kernel
theorem dX6_differing_5 : decode cX6_differing 5 = .ok (.istore_n 1, 1) := by decide +kernel
theorem dX6_differing_6 : decode cX6_differing 6 = .ok (.iconst 0, 1) := by decide +kernel
theorem dX6_differing_7 : decode cX6_differing 7 = .ok (.istore_n 2, 1) := by decide +kernel
theorem dX6_differing_8 : decode cX6_differing 8 = .ok (.iload_n 2, 1) := by decide +kernel
theorem dX6_differing_9 : decode cX6_differing 9 = .ok (.aload_n 0, 1) := by decide +kernel
theorem dX6_differing_10 : decode cX6_differing 10 = .ok (.getfield 59, 3) := by decide +kernel
theorem dX6_differing_13 : decode cX6_differing 13 = .ok (.if_icmp .ge 43, 3) := by decide +kernel
theorem dX6_differing_16 : decode cX6_differing 16 = .ok (.iload_n 2, 1) := by decide +kernel
theorem dX6_differing_17 : decode cX6_differing 17 = .ok (.iconst 1, 1) := by decide +kernel
theorem dX6_differing_18 : decode cX6_differing 18 = .ok (.iadd, 1) := by decide +kernel
theorem dX6_differing_19 : decode cX6_differing 19 = .ok (.istore_n 3, 1) := by decide +kernel
theorem dX6_differing_20 : decode cX6_differing 20 = .ok (.iload_n 3, 1) := by decide +kernel
theorem dX6_differing_21 : decode cX6_differing 21 = .ok (.aload_n 0, 1) := by decide +kernel
theorem dX6_differing_22 : decode cX6_differing 22 = .ok (.getfield 59, 3) := by decide +kernel
theorem dX6_differing_25 : decode cX6_differing 25 = .ok (.if_icmp .ge 25, 3) := by decide +kernel
theorem dX6_differing_28 : decode cX6_differing 28 = .ok (.aload_n 0, 1) := by decide +kernel
theorem dX6_differing_29 : decode cX6_differing 29 = .ok (.aload_n 0, 1) := by decide +kernel
theorem dX6_differing_30 : decode cX6_differing 30 = .ok (.getfield 32, 3) := by decide +kernel
theorem dX6_differing_33 : decode cX6_differing 33 = .ok (.iload_n 2, 1) := by decide +kernel
theorem dX6_differing_34 : decode cX6_differing 34 = .ok (.iload_n 3, 1) := by decide +kernel
theorem dX6_differing_35 : decode cX6_differing 35 = .ok (.invokevirtual 229, 3) := by decide +kernel
theorem dX6_differing_38 : decode cX6_differing 38 = .ok (.ifCond .ne 6, 3) := by decide +kernel
theorem dX6_differing_41 : decode cX6_differing 41 = .ok (.iinc 1 1, 3) := by decide +kernel
theorem dX6_differing_44 : decode cX6_differing 44 = .ok (.iinc 3 1, 3) := by decide +kernel
theorem dX6_differing_47 : decode cX6_differing 47 = .ok (.goto (-27), 3) := by decide +kernel
theorem dX6_differing_50 : decode cX6_differing 50 = .ok (.iinc 2 1, 3) := by decide +kernel
theorem dX6_differing_53 : decode cX6_differing 53 = .ok (.goto (-45), 3) := by decide +kernel
theorem dX6_differing_56 : decode cX6_differing 56 = .ok (.iload_n 1, 1) := by decide +kernel
theorem dX6_differing_57 : decode cX6_differing 57 = .ok (.ireturn, 1) := by decide +kernel
set_option maxRecDepth 20000 in
theorem ggX6_bestHelper_X6_isSite : GoodIn wsX6_bestHelper wsX6_isSite := goodIn_r _ [8, 3, 9, 10, 7, 11, 48, 49, 50, 51, 52, 53, 54, 55, 56] (by decide +kernel) (by decide +kernel)
set_option maxRecDepth 20000 in
theorem gX6_bestHelper_X6_isSite : GoodIn wsX6_bestHelper (wsV RX6 78 RX6 yX6_isSite wsX6_isSite) := goodIn_app (goodIn_of _ (by decide +kernel)) ggX6_bestHelper_X6_isSite
set_option maxRecDepth 20000 in
theorem ggX6_bestHelper_X6_repairable : GoodIn wsX6_bestHelper wsX6_repairable := goodIn_r _ [15, 16, 17, 18, 7, 19, 20, 21, 22, 23, 24, 25, 26, 27, 28, 29, 30, 31, 32, 33, 34, 35, 36, 37, 38, 39, 40, 41, 42, 43, 44, 45, 46, 47, 48, 49, 50, 51, 52, 53, 54, 55, 56, 57, 58] (by decide +kernel) (by decide +kernel)
set_option maxRecDepth 20000 in
theorem gX6_bestHelper_X6_repairable : GoodIn wsX6_bestHelper (wsV RX6 236 RX6 yX6_repairable wsX6_repairable) := goodIn_app (goodIn_of _ (by decide +kernel)) ggX6_bestHelper_X6_repairable
theorem dX6_bestHelper_0 : decode cX6_bestHelper 0 = .ok (.aload_n 0, 1) := by decide +kernel
theorem dX6_bestHelper_1 : decode cX6_bestHelper 1 = .ok (.iload_n 1, 1) := by decide +kernel
theorem dX6_bestHelper_2 : decode cX6_bestHelper 2 = .ok (.invokevirtual 78, 3) := by decide +kernel
theorem dX6_bestHelper_5 : decode cX6_bestHelper 5 = .ok (.ifCond .ne 6, 3) := by decide +kernel
theorem dX6_bestHelper_8 : decode cX6_bestHelper 8 = .ok (.ldc 67, 2) := by decide +kernel
theorem dX6_bestHelper_10 : decode cX6_bestHelper 10 = .ok (.ireturn, 1) := by decide +kernel
theorem dX6_bestHelper_11 : decode cX6_bestHelper 11 = .ok (.ldc 162, 2) := by decide +kernel
theorem dX6_bestHelper_13 : decode cX6_bestHelper 13 = .ok (.istore_n 2, 1) := by decide +kernel
theorem dX6_bestHelper_14 : decode cX6_bestHelper 14 = .ok (.iconst 0, 1) := by decide +kernel
theorem dX6_bestHelper_15 : decode cX6_bestHelper 15 = .ok (.istore_n 3, 1) := by decide +kernel
theorem dX6_bestHelper_16 : decode cX6_bestHelper 16 = .ok (.iconst 0, 1) := by decide +kernel
theorem dX6_bestHelper_17 : decode cX6_bestHelper 17 = .ok (.istore 4, 2) := by decide +kernel
theorem dX6_bestHelper_19 : decode cX6_bestHelper 19 = .ok (.iload 4, 2) := by decide +kernel
theorem dX6_bestHelper_21 : decode cX6_bestHelper 21 = .ok (.aload_n 0, 1) := by decide +kernel
theorem dX6_bestHelper_22 : decode cX6_bestHelper 22 = .ok (.getfield 59, 3) := by decide +kernel
theorem dX6_bestHelper_25 : decode cX6_bestHelper 25 = .ok (.if_icmp .ge 30, 3) := by decide +kernel
theorem dX6_bestHelper_28 : decode cX6_bestHelper 28 = .ok (.aload_n 0, 1) := by decide +kernel
theorem dX6_bestHelper_29 : decode cX6_bestHelper 29 = .ok (.iload_n 1, 1) := by decide +kernel
theorem dX6_bestHelper_30 : decode cX6_bestHelper 30 = .ok (.iload 4, 2) := by decide +kernel
theorem dX6_bestHelper_32 : decode cX6_bestHelper 32 = .ok (.invokevirtual 236, 3) := by decide +kernel
theorem dX6_bestHelper_35 : decode cX6_bestHelper 35 = .ok (.istore 5, 2) := by decide +kernel
theorem dX6_bestHelper_37 : decode cX6_bestHelper 37 = .ok (.iload 5, 2) := by decide +kernel
theorem dX6_bestHelper_39 : decode cX6_bestHelper 39 = .ok (.iload_n 3, 1) := by decide +kernel
theorem dX6_bestHelper_40 : decode cX6_bestHelper 40 = .ok (.if_icmp .le 9, 3) := by decide +kernel
theorem dX6_bestHelper_43 : decode cX6_bestHelper 43 = .ok (.iload 4, 2) := by decide +kernel
theorem dX6_bestHelper_45 : decode cX6_bestHelper 45 = .ok (.istore_n 2, 1) := by decide +kernel
theorem dX6_bestHelper_46 : decode cX6_bestHelper 46 = .ok (.iload 5, 2) := by decide +kernel
theorem dX6_bestHelper_48 : decode cX6_bestHelper 48 = .ok (.istore_n 3, 1) := by decide +kernel
theorem dX6_bestHelper_49 : decode cX6_bestHelper 49 = .ok (.iinc 4 1, 3) := by decide +kernel
theorem dX6_bestHelper_52 : decode cX6_bestHelper 52 = .ok (.goto (-33), 3) := by decide +kernel
theorem dX6_bestHelper_55 : decode cX6_bestHelper 55 = .ok (.iload_n 2, 1) := by decide +kernel
theorem dX6_bestHelper_56 : decode cX6_bestHelper 56 = .ok (.ireturn, 1) := by decide +kernel
set_option maxRecDepth 20000 in
theorem ggX6_endangered_X6_isSite : GoodIn wsX6_endangered wsX6_isSite := goodIn_r _ [8, 9, 10, 11, 7, 12, 48, 49, 50, 51, 52, 53, 54, 55, 56] (by decide +kernel) (by decide +kernel)
set_option maxRecDepth 20000 in
theorem gX6_endangered_X6_isSite : GoodIn wsX6_endangered (wsV RX6 78 RX6 yX6_isSite wsX6_isSite) := goodIn_app (goodIn_of _ (by decide +kernel)) ggX6_endangered_X6_isSite
set_option maxRecDepth 20000 in
theorem ggX6_endangered_X4_madeBy : GoodIn wsX6_endangered wsX4_madeBy := goodIn_r _ [17, 18, 19, 20, 21, 22, 23, 24, 57, 58, 59, 60, 61, 62, 63, 64, 65] (by decide +kernel) (by decide +kernel)
set_option maxRecDepth 20000 in
theorem gX6_endangered_X4_madeBy : GoodIn wsX6_endangered (wsV RX6 89 RX4 yX4_madeBy wsX4_madeBy) := goodIn_app (goodIn_of _ (by decide +kernel)) ggX6_endangered_X4_madeBy
set_option maxRecDepth 20000 in
theorem ggX6_endangered_X6_idOf : GoodIn wsX6_endangered wsX6_idOf := goodIn_r _ [27] (by decide +kernel) (by decide +kernel)
set_option maxRecDepth 20000 in
theorem gX6_endangered_X6_idOf : GoodIn wsX6_endangered (va_wsS RX6 178 yX6_idOf wsX6_idOf) := goodIn_app (goodIn_of _ (by decide +kernel)) ggX6_endangered_X6_idOf
set_option maxRecDepth 20000 in
theorem ggX6_endangered_X6_isKnownBeside : GoodIn wsX6_endangered wsX6_isKnownBeside := goodIn_r _ [31, 9, 32, 33, 34, 35, 36, 37, 38, 39, 20, 21, 22, 23, 24, 48, 49, 50, 51, 52, 53, 54, 55, 56, 66, 65] (by decide +kernel) (by decide +kernel)
set_option maxRecDepth 20000 in
theorem gX6_endangered_X6_isKnownBeside : GoodIn wsX6_endangered (wsV RX6 239 RX6 yX6_isKnownBeside wsX6_isKnownBeside) := goodIn_app (goodIn_of _ (by decide +kernel)) ggX6_endangered_X6_isKnownBeside
set_option maxRecDepth 20000 in
theorem ggX6_endangered_X3_carry : GoodIn wsX6_endangered wsX3_carry := goodIn_r _ [44, 45, 46, 47, 20, 21, 22, 23, 24, 67, 68, 65] (by decide +kernel) (by decide +kernel)
set_option maxRecDepth 20000 in
theorem gX6_endangered_X3_carry : GoodIn wsX6_endangered (wsV RX6 242 RX3 yX3_carry wsX3_carry) := goodIn_app (goodIn_of _ (by decide +kernel)) ggX6_endangered_X3_carry
theorem dX6_endangered_0 : decode cX6_endangered 0 = .ok (.aload_n 0, 1) := by decide +kernel
theorem dX6_endangered_1 : decode cX6_endangered 1 = .ok (.iload_n 1, 1) := by decide +kernel
theorem dX6_endangered_2 : decode cX6_endangered 2 = .ok (.invokevirtual 78, 3) := by decide +kernel
theorem dX6_endangered_5 : decode cX6_endangered 5 = .ok (.ifCond .ne 6, 3) := by decide +kernel
theorem dX6_endangered_8 : decode cX6_endangered 8 = .ok (.ldc 67, 2) := by decide +kernel
theorem dX6_endangered_10 : decode cX6_endangered 10 = .ok (.ireturn, 1) := by decide +kernel
theorem dX6_endangered_11 : decode cX6_endangered 11 = .ok (.iconst 0, 1) := by decide +kernel
theorem dX6_endangered_12 : decode cX6_endangered 12 = .ok (.istore_n 2, 1) := by decide +kernel
theorem dX6_endangered_13 : decode cX6_endangered 13 = .ok (.iconst 1, 1) := by decide +kernel
theorem dX6_endangered_14 : decode cX6_endangered 14 = .ok (.istore_n 3, 1) := by decide +kernel
theorem dX6_endangered_15 : decode cX6_endangered 15 = .ok (.iload_n 3, 1) := by decide +kernel
theorem dX6_endangered_16 : decode cX6_endangered 16 = .ok (.aload_n 0, 1) := by decide +kernel
theorem dX6_endangered_17 : decode cX6_endangered 17 = .ok (.getfield 12, 3) := by decide +kernel
theorem dX6_endangered_20 : decode cX6_endangered 20 = .ok (.iload_n 1, 1) := by decide +kernel
theorem dX6_endangered_21 : decode cX6_endangered 21 = .ok (.invokevirtual 89, 3) := by decide +kernel
theorem dX6_endangered_24 : decode cX6_endangered 24 = .ok (.if_icmp .gt 41, 3) := by decide +kernel
theorem dX6_endangered_27 : decode cX6_endangered 27 = .ok (.iload_n 1, 1) := by decide +kernel
theorem dX6_endangered_28 : decode cX6_endangered 28 = .ok (.iload_n 3, 1) := by decide +kernel
theorem dX6_endangered_29 : decode cX6_endangered 29 = .ok (.invokestatic 178, 3) := by decide +kernel
theorem dX6_endangered_32 : decode cX6_endangered 32 = .ok (.istore 4, 2) := by decide +kernel
theorem dX6_endangered_34 : decode cX6_endangered 34 = .ok (.aload_n 0, 1) := by decide +kernel
theorem dX6_endangered_35 : decode cX6_endangered 35 = .ok (.iload_n 1, 1) := by decide +kernel
theorem dX6_endangered_36 : decode cX6_endangered 36 = .ok (.iload 4, 2) := by decide +kernel
theorem dX6_endangered_38 : decode cX6_endangered 38 = .ok (.invokevirtual 239, 3) := by decide +kernel
theorem dX6_endangered_41 : decode cX6_endangered 41 = .ok (.ifCond .ne 18, 3) := by decide +kernel
theorem dX6_endangered_44 : decode cX6_endangered 44 = .ok (.aload_n 0, 1) := by decide +kernel
theorem dX6_endangered_45 : decode cX6_endangered 45 = .ok (.getfield 38, 3) := by decide +kernel
theorem dX6_endangered_48 : decode cX6_endangered 48 = .ok (.iload 4, 2) := by decide +kernel
theorem dX6_endangered_50 : decode cX6_endangered 50 = .ok (.invokevirtual 242, 3) := by decide +kernel
theorem dX6_endangered_53 : decode cX6_endangered 53 = .ok (.ifCond .ne 6, 3) := by decide +kernel
theorem dX6_endangered_56 : decode cX6_endangered 56 = .ok (.iinc 2 1, 3) := by decide +kernel
theorem dX6_endangered_59 : decode cX6_endangered 59 = .ok (.iinc 3 1, 3) := by decide +kernel
theorem dX6_endangered_62 : decode cX6_endangered 62 = .ok (.goto (-47), 3) := by decide +kernel
theorem dX6_endangered_65 : decode cX6_endangered 65 = .ok (.iload_n 2, 1) := by decide +kernel
theorem dX6_endangered_66 : decode cX6_endangered 66 = .ok (.ireturn, 1) := by decide +kernel
theorem dX6_isWithin_0 : decode cX6_isWithin 0 = .ok (.iload_n 0, 1) := by decide +kernel
theorem dX6_isWithin_1 : decode cX6_isWithin 1 = .ok (.iload_n 1, 1) := by decide +kernel
theorem dX6_isWithin_2 : decode cX6_isWithin 2 = .ok (.if_icmp .lt 12, 3) := by decide +kernel
theorem dX6_isWithin_5 : decode cX6_isWithin 5 = .ok (.iload_n 0, 1) := by decide +kernel
theorem dX6_isWithin_6 : decode cX6_isWithin 6 = .ok (.iload_n 2, 1) := by decide +kernel
theorem dX6_isWithin_7 : decode cX6_isWithin 7 = .ok (.if_icmp .gt 7, 3) := by decide +kernel
theorem dX6_isWithin_10 : decode cX6_isWithin 10 = .ok (.iconst 1, 1) := by decide +kernel
theorem dX6_isWithin_11 : decode cX6_isWithin 11 = .ok (.goto 4, 3) := by decide +kernel
theorem dX6_isWithin_14 : decode cX6_isWithin 14 = .ok (.iconst 0, 1) := by decide +kernel
theorem dX6_isWithin_15 : decode cX6_isWithin 15 = .ok (.ireturn, 1) := by decide +kernel
set_option maxRecDepth 20000 in
theorem ggX6_isSite_X6_isWithin : GoodIn wsX6_isSite wsX6_isWithin := goodIn_r _ [5] (by decide +kernel) (by decide +kernel)
set_option maxRecDepth 20000 in
theorem gX6_isSite_X6_isWithin : GoodIn wsX6_isSite (va_wsS RX6 63 yX6_isWithin wsX6_isWithin) := goodIn_app (goodIn_of _ (by decide +kernel)) ggX6_isSite_X6_isWithin
theorem dX6_isSite_0 : decode cX6_isSite 0 = .ok (.iload_n 1, 1) := by decide +kernel
theorem dX6_isSite_1 : decode cX6_isSite 1 = .ok (.iconst 0, 1) := by decide +kernel
theorem dX6_isSite_2 : decode cX6_isSite 2 = .ok (.aload_n 0, 1) := by decide +kernel
theorem dX6_isSite_3 : decode cX6_isSite 3 = .ok (.getfield 59, 3) := by decide +kernel
theorem dX6_isSite_6 : decode cX6_isSite 6 = .ok (.iconst 1, 1) := by decide +kernel
theorem dX6_isSite_7 : decode cX6_isSite 7 = .ok (.isub, 1) := by decide +kernel
theorem dX6_isSite_8 : decode cX6_isSite 8 = .ok (.invokestatic 63, 3) := by decide +kernel
theorem dX6_isSite_11 : decode cX6_isSite 11 = .ok (.ireturn, 1) := by decide +kernel
set_option maxRecDepth 20000 in
theorem ggX6_areTwoSites_X6_isSite : GoodIn wsX6_areTwoSites wsX6_isSite := goodIn_r _ [5, 6, 7, 8, 4, 9, 10, 11, 12, 13, 14, 15, 16, 17, 18] (by decide +kernel) (by decide +kernel)
set_option maxRecDepth 20000 in
theorem gX6_areTwoSites_X6_isSite : GoodIn wsX6_areTwoSites (wsV RX6 78 RX6 yX6_isSite wsX6_isSite) := goodIn_app (goodIn_of _ (by decide +kernel)) ggX6_areTwoSites_X6_isSite
theorem dX6_areTwoSites_0 : decode cX6_areTwoSites 0 = .ok (.aload_n 0, 1) := by decide +kernel
theorem dX6_areTwoSites_1 : decode cX6_areTwoSites 1 = .ok (.iload_n 1, 1) := by decide +kernel
theorem dX6_areTwoSites_2 : decode cX6_areTwoSites 2 = .ok (.invokevirtual 78, 3) := by decide +kernel
theorem dX6_areTwoSites_5 : decode cX6_areTwoSites 5 = .ok (.ifCond .eq 20, 3) := by decide +kernel
theorem dX6_areTwoSites_8 : decode cX6_areTwoSites 8 = .ok (.aload_n 0, 1) := by decide +kernel
theorem dX6_areTwoSites_9 : decode cX6_areTwoSites 9 = .ok (.iload_n 2, 1) := by decide +kernel
theorem dX6_areTwoSites_10 : decode cX6_areTwoSites 10 = .ok (.invokevirtual 78, 3) := by decide +kernel
theorem dX6_areTwoSites_13 : decode cX6_areTwoSites 13 = .ok (.ifCond .eq 12, 3) := by decide +kernel
theorem dX6_areTwoSites_16 : decode cX6_areTwoSites 16 = .ok (.iload_n 1, 1) := by decide +kernel
theorem dX6_areTwoSites_17 : decode cX6_areTwoSites 17 = .ok (.iload_n 2, 1) := by decide +kernel
theorem dX6_areTwoSites_18 : decode cX6_areTwoSites 18 = .ok (.if_icmp .eq 7, 3) := by decide +kernel
theorem dX6_areTwoSites_21 : decode cX6_areTwoSites 21 = .ok (.iconst 1, 1) := by decide +kernel
theorem dX6_areTwoSites_22 : decode cX6_areTwoSites 22 = .ok (.goto 4, 3) := by decide +kernel
theorem dX6_areTwoSites_25 : decode cX6_areTwoSites 25 = .ok (.iconst 0, 1) := by decide +kernel
theorem dX6_areTwoSites_26 : decode cX6_areTwoSites 26 = .ok (.ireturn, 1) := by decide +kernel
set_option maxRecDepth 20000 in
theorem ggX6_hasMadeAll_X4_madeBy : GoodIn wsX6_hasMadeAll wsX4_madeBy := goodIn_r _ [6, 7, 8, 9, 10, 11, 12, 13, 23, 24, 25, 26, 27, 28, 29, 30, 31] (by decide +kernel) (by decide +kernel)
set_option maxRecDepth 20000 in
theorem gX6_hasMadeAll_X4_madeBy : GoodIn wsX6_hasMadeAll (wsV RX6 89 RX4 yX4_madeBy wsX4_madeBy) := goodIn_app (goodIn_of _ (by decide +kernel)) ggX6_hasMadeAll_X4_madeBy
theorem dX6_hasMadeAll_0 : decode cX6_hasMadeAll 0 = .ok (.aload_n 0, 1) := by decide +kernel
theorem dX6_hasMadeAll_1 : decode cX6_hasMadeAll 1 = .ok (.getfield 12, 3) := by decide +kernel
theorem dX6_hasMadeAll_4 : decode cX6_hasMadeAll 4 = .ok (.iload_n 1, 1) := by decide +kernel
theorem dX6_hasMadeAll_5 : decode cX6_hasMadeAll 5 = .ok (.invokevirtual 89, 3) := by decide +kernel
theorem dX6_hasMadeAll_8 : decode cX6_hasMadeAll 8 = .ok (.bipush 20, 2) := by decide +kernel
theorem dX6_hasMadeAll_10 : decode cX6_hasMadeAll 10 = .ok (.if_icmp .lt 7, 3) := by decide +kernel
theorem dX6_hasMadeAll_13 : decode cX6_hasMadeAll 13 = .ok (.iconst 1, 1) := by decide +kernel
theorem dX6_hasMadeAll_14 : decode cX6_hasMadeAll 14 = .ok (.goto 4, 3) := by decide +kernel
theorem dX6_hasMadeAll_17 : decode cX6_hasMadeAll 17 = .ok (.iconst 0, 1) := by decide +kernel
theorem dX6_hasMadeAll_18 : decode cX6_hasMadeAll 18 = .ok (.ireturn, 1) := by decide +kernel
theorem dX6_idOf_0 : decode cX6_idOf 0 = .ok (.iload_n 0, 1) := by decide +kernel
theorem dX6_idOf_1 : decode cX6_idOf 1 = .ok (.bipush 20, 2) := by decide +kernel
theorem dX6_idOf_3 : decode cX6_idOf 3 = .ok (.imul, 1) := by decide +kernel
theorem dX6_idOf_4 : decode cX6_idOf 4 = .ok (.iload_n 1, 1) := by decide +kernel
theorem dX6_idOf_5 : decode cX6_idOf 5 = .ok (.iadd, 1) := by decide +kernel
theorem dX6_idOf_6 : decode cX6_idOf 6 = .ok (.iconst 1, 1) := by decide +kernel
theorem dX6_idOf_7 : decode cX6_idOf 7 = .ok (.isub, 1) := by decide +kernel
theorem dX6_idOf_8 : decode cX6_idOf 8 = .ok (.ireturn, 1) := by decide +kernel
theorem dX6_authorOf_0 : decode cX6_authorOf 0 = .ok (.iload_n 0, 1) := by decide +kernel
theorem dX6_authorOf_1 : decode cX6_authorOf 1 = .ok (.bipush 20, 2) := by decide +kernel
theorem dX6_authorOf_3 : decode cX6_authorOf 3 = .ok (.idiv, 1) := by decide +kernel
theorem dX6_authorOf_4 : decode cX6_authorOf 4 = .ok (.ireturn, 1) := by decide +kernel
theorem dX6_numberOf_0 : decode cX6_numberOf 0 = .ok (.iload_n 0, 1) := by decide +kernel
theorem dX6_numberOf_1 : decode cX6_numberOf 1 = .ok (.bipush 20, 2) := by decide +kernel
theorem dX6_numberOf_3 : decode cX6_numberOf 3 = .ok (.irem, 1) := by decide +kernel
theorem dX6_numberOf_4 : decode cX6_numberOf 4 = .ok (.iconst 1, 1) := by decide +kernel
theorem dX6_numberOf_5 : decode cX6_numberOf 5 = .ok (.iadd, 1) := by decide +kernel
theorem dX6_numberOf_6 : decode cX6_numberOf 6 = .ok (.ireturn, 1) := by decide +kernel
set_option maxRecDepth 20000 in
theorem ggX6_tick_X5_get : GoodIn wsX6_tick wsX5_get := goodIn_r _ [6, 7, 21] (by decide +kernel) (by decide +kernel)
set_option maxRecDepth 20000 in
theorem gX6_tick_X5_get : GoodIn wsX6_tick (wsV RX6 82 RX5 yX5_get wsX5_get) := goodIn_app (goodIn_of _ (by decide +kernel)) ggX6_tick_X5_get
set_option maxRecDepth 20000 in
theorem ggX6_tick_X5_set : GoodIn wsX6_tick wsX5_set := goodIn_r _ [11, 7, 21] (by decide +kernel) (by decide +kernel)
set_option maxRecDepth 20000 in
theorem gX6_tick_X5_set : GoodIn wsX6_tick (wsV RX6 195 RX5 yX5_set wsX5_set) := goodIn_app (goodIn_of _ (by decide +kernel)) ggX6_tick_X5_set
theorem dX6_tick_0 : decode cX6_tick 0 = .ok (.aload_n 0, 1) := by decide +kernel
theorem dX6_tick_1 : decode cX6_tick 1 = .ok (.getfield 55, 3) := by decide +kernel
theorem dX6_tick_4 : decode cX6_tick 4 = .ok (.iload_n 1, 1) := by decide +kernel
theorem dX6_tick_5 : decode cX6_tick 5 = .ok (.aload_n 0, 1) := by decide +kernel
theorem dX6_tick_6 : decode cX6_tick 6 = .ok (.getfield 55, 3) := by decide +kernel
theorem dX6_tick_9 : decode cX6_tick 9 = .ok (.iload_n 1, 1) := by decide +kernel
theorem dX6_tick_10 : decode cX6_tick 10 = .ok (.invokevirtual 82, 3) := by decide +kernel
theorem dX6_tick_13 : decode cX6_tick 13 = .ok (.iconst 1, 1) := by decide +kernel
theorem dX6_tick_14 : decode cX6_tick 14 = .ok (.iadd, 1) := by decide +kernel
theorem dX6_tick_15 : decode cX6_tick 15 = .ok (.invokevirtual 195, 3) := by decide +kernel
theorem dX6_tick_18 : decode cX6_tick 18 = .ok (.aload_n 0, 1) := by decide +kernel
theorem dX6_tick_19 : decode cX6_tick 19 = .ok (.getfield 55, 3) := by decide +kernel
theorem dX6_tick_22 : decode cX6_tick 22 = .ok (.iload_n 1, 1) := by decide +kernel
theorem dX6_tick_23 : decode cX6_tick 23 = .ok (.invokevirtual 82, 3) := by decide +kernel
theorem dX6_tick_26 : decode cX6_tick 26 = .ok (.ireturn, 1) := by decide +kernel
set_option maxRecDepth 20000 in
theorem ggX6_publish_X2_learn : GoodIn wsX6_publish wsX2_learn := goodIn_r _ [8, 9, 10, 11, 12, 13, 14, 15, 37, 38] (by decide +kernel) (by decide +kernel)
set_option maxRecDepth 20000 in
theorem gX6_publish_X2_learn : GoodIn wsX6_publish (wsV RX6 245 RX2 yX2_learn wsX2_learn) := goodIn_app (goodIn_of _ (by decide +kernel)) ggX6_publish_X2_learn
set_option maxRecDepth 20000 in
theorem ggX6_publish_X3_send : GoodIn wsX6_publish wsX3_send := goodIn_r _ [20, 21, 22, 23, 24, 25, 13, 26, 15, 27, 11, 12, 14, 39, 40, 38] (by decide +kernel) (by decide +kernel)
set_option maxRecDepth 20000 in
theorem gX6_publish_X3_send : GoodIn wsX6_publish (wsV RX6 248 RX3 yX3_send wsX3_send) := goodIn_app (goodIn_of _ (by decide +kernel)) ggX6_publish_X3_send
theorem dX6_publish_0 : decode cX6_publish 0 = .ok (.aload_n 0, 1) := by decide +kernel
theorem dX6_publish_1 : decode cX6_publish 1 = .ok (.getfield 28, 3) := by decide +kernel
theorem dX6_publish_4 : decode cX6_publish 4 = .ok (.iload_n 1, 1) := by decide +kernel
theorem dX6_publish_5 : decode cX6_publish 5 = .ok (.iload_n 2, 1) := by decide +kernel
theorem dX6_publish_6 : decode cX6_publish 6 = .ok (.invokevirtual 245, 3) := by decide +kernel
theorem dX6_publish_9 : decode cX6_publish 9 = .ok (.iconst 0, 1) := by decide +kernel
theorem dX6_publish_10 : decode cX6_publish 10 = .ok (.istore_n 3, 1) := by decide +kernel
theorem dX6_publish_11 : decode cX6_publish 11 = .ok (.iload_n 3, 1) := by decide +kernel
theorem dX6_publish_12 : decode cX6_publish 12 = .ok (.aload_n 0, 1) := by decide +kernel
theorem dX6_publish_13 : decode cX6_publish 13 = .ok (.getfield 59, 3) := by decide +kernel
theorem dX6_publish_16 : decode cX6_publish 16 = .ok (.if_icmp .ge 24, 3) := by decide +kernel
theorem dX6_publish_19 : decode cX6_publish 19 = .ok (.iload_n 3, 1) := by decide +kernel
theorem dX6_publish_20 : decode cX6_publish 20 = .ok (.iload_n 1, 1) := by decide +kernel
theorem dX6_publish_21 : decode cX6_publish 21 = .ok (.if_icmp .eq 13, 3) := by decide +kernel
theorem dX6_publish_24 : decode cX6_publish 24 = .ok (.aload_n 0, 1) := by decide +kernel
theorem dX6_publish_25 : decode cX6_publish 25 = .ok (.getfield 38, 3) := by decide +kernel
theorem dX6_publish_28 : decode cX6_publish 28 = .ok (.iload_n 1, 1) := by decide +kernel
theorem dX6_publish_29 : decode cX6_publish 29 = .ok (.iload_n 3, 1) := by decide +kernel
theorem dX6_publish_30 : decode cX6_publish 30 = .ok (.iload_n 2, 1) := by decide +kernel
theorem dX6_publish_31 : decode cX6_publish 31 = .ok (.invokevirtual 248, 3) := by decide +kernel
theorem dX6_publish_34 : decode cX6_publish 34 = .ok (.iinc 3 1, 3) := by decide +kernel
theorem dX6_publish_37 : decode cX6_publish 37 = .ok (.goto (-26), 3) := by decide +kernel
theorem dX6_publish_40 : decode cX6_publish 40 = .ok (.return_, 1) := by decide +kernel
set_option maxRecDepth 20000 in
theorem ggX6_receive_X2_learn : GoodIn wsX6_receive wsX2_learn := goodIn_r _ [12, 13, 14, 15, 16, 17, 18, 19, 41, 42] (by decide +kernel) (by decide +kernel)
set_option maxRecDepth 20000 in
theorem gX6_receive_X2_learn : GoodIn wsX6_receive (wsV RX6 245 RX2 yX2_learn wsX2_learn) := goodIn_app (goodIn_of _ (by decide +kernel)) ggX6_receive_X2_learn
set_option maxRecDepth 20000 in
theorem ggX6_receive_X5_get : GoodIn wsX6_receive wsX5_get := goodIn_r _ [23, 19, 42] (by decide +kernel) (by decide +kernel)
set_option maxRecDepth 20000 in
theorem gX6_receive_X5_get : GoodIn wsX6_receive (wsV RX6 82 RX5 yX5_get wsX5_get) := goodIn_app (goodIn_of _ (by decide +kernel)) ggX6_receive_X5_get
set_option maxRecDepth 20000 in
theorem ggX6_receive_X4_timeOf : GoodIn wsX6_receive wsX4_timeOf := goodIn_r _ [28, 29, 30, 21, 22, 17, 23, 19, 43, 44, 45, 46, 47, 48, 49, 50, 42] (by decide +kernel) (by decide +kernel)
set_option maxRecDepth 20000 in
theorem gX6_receive_X4_timeOf : GoodIn wsX6_receive (wsV RX6 201 RX4 yX4_timeOf wsX4_timeOf) := goodIn_app (goodIn_of _ (by decide +kernel)) ggX6_receive_X4_timeOf
set_option maxRecDepth 20000 in
theorem ggX6_receive_X5_set : GoodIn wsX6_receive wsX5_set := goodIn_r _ [18, 19, 42] (by decide +kernel) (by decide +kernel)
set_option maxRecDepth 20000 in
theorem gX6_receive_X5_set : GoodIn wsX6_receive (wsV RX6 195 RX5 yX5_set wsX5_set) := goodIn_app (goodIn_of _ (by decide +kernel)) ggX6_receive_X5_set
theorem dX6_receive_0 : decode cX6_receive 0 = .ok (.aload_n 0, 1) := by decide +kernel
theorem dX6_receive_1 : decode cX6_receive 1 = .ok (.getfield 28, 3) := by decide +kernel
theorem dX6_receive_4 : decode cX6_receive 4 = .ok (.iload_n 1, 1) := by decide +kernel
theorem dX6_receive_5 : decode cX6_receive 5 = .ok (.iload_n 2, 1) := by decide +kernel
theorem dX6_receive_6 : decode cX6_receive 6 = .ok (.invokevirtual 245, 3) := by decide +kernel
theorem dX6_receive_9 : decode cX6_receive 9 = .ok (.aload_n 0, 1) := by decide +kernel
theorem dX6_receive_10 : decode cX6_receive 10 = .ok (.getfield 55, 3) := by decide +kernel
theorem dX6_receive_13 : decode cX6_receive 13 = .ok (.iload_n 1, 1) := by decide +kernel
theorem dX6_receive_14 : decode cX6_receive 14 = .ok (.aload_n 0, 1) := by decide +kernel
theorem dX6_receive_15 : decode cX6_receive 15 = .ok (.getfield 55, 3) := by decide +kernel
theorem dX6_receive_18 : decode cX6_receive 18 = .ok (.iload_n 1, 1) := by decide +kernel
theorem dX6_receive_19 : decode cX6_receive 19 = .ok (.invokevirtual 82, 3) := by decide +kernel
theorem dX6_receive_22 : decode cX6_receive 22 = .ok (.aload_n 0, 1) := by decide +kernel
theorem dX6_receive_23 : decode cX6_receive 23 = .ok (.getfield 12, 3) := by decide +kernel
theorem dX6_receive_26 : decode cX6_receive 26 = .ok (.iload_n 2, 1) := by decide +kernel
theorem dX6_receive_27 : decode cX6_receive 27 = .ok (.invokevirtual 201, 3) := by decide +kernel
theorem dX6_receive_30 : decode cX6_receive 30 = .ok (.invokestatic 190, 3) := by decide +kernel
theorem dX6_receive_33 : decode cX6_receive 33 = .ok (.invokevirtual 195, 3) := by decide +kernel
theorem dX6_receive_36 : decode cX6_receive 36 = .ok (.return_, 1) := by decide +kernel
set_option maxRecDepth 20000 in
theorem ggX6_changeOwn_X6_hasMadeAll : GoodIn wsX6_changeOwn wsX6_hasMadeAll := goodIn_r _ [8, 3, 9, 10, 11, 12, 13, 14, 15, 16, 17, 18, 19, 20, 88, 89, 90, 91, 92, 93, 94, 95, 96, 97, 98, 99, 100, 101, 102, 103, 104, 105] (by decide +kernel) (by decide +kernel)
set_option maxRecDepth 20000 in
theorem gX6_changeOwn_X6_hasMadeAll : GoodIn wsX6_changeOwn (wsV RX6 118 RX6 yX6_hasMadeAll wsX6_hasMadeAll) := goodIn_app (goodIn_of _ (by decide +kernel)) ggX6_changeOwn_X6_hasMadeAll
set_option maxRecDepth 20000 in
theorem ggX6_changeOwn_X6_tick : GoodIn wsX6_changeOwn wsX6_tick := goodIn_r _ [24, 25, 26, 16, 17, 18, 19, 20, 27, 28, 29, 30, 88, 89, 90, 91, 92, 93, 94, 95, 96, 105] (by decide +kernel) (by decide +kernel)
set_option maxRecDepth 20000 in
theorem gX6_changeOwn_X6_tick : GoodIn wsX6_changeOwn (wsV RX6 121 RX6 yX6_tick wsX6_tick) := goodIn_app (goodIn_of _ (by decide +kernel)) ggX6_changeOwn_X6_tick
set_option maxRecDepth 20000 in
theorem ggX6_changeOwn_X4_addChange : GoodIn wsX6_changeOwn wsX4_addChange := goodIn_r _ [34, 35, 36, 37, 38, 39, 12, 40, 14, 41, 42, 15, 16, 17, 18, 19, 20, 43, 7, 44, 45, 28, 29, 30, 46, 47, 48, 49, 50, 51, 52, 53, 54, 55, 56, 57, 58, 59, 60, 61, 97, 98, 99, 100, 101, 102, 103, 104, 105] (by decide +kernel) (by decide +kernel)
set_option maxRecDepth 20000 in
theorem gX6_changeOwn_X4_addChange : GoodIn wsX6_changeOwn (wsV RX6 151 RX4 yX4_addChange wsX4_addChange) := goodIn_app (goodIn_of _ (by decide +kernel)) ggX6_changeOwn_X4_addChange
set_option maxRecDepth 20000 in
theorem ggX6_changeOwn_X6_publish : GoodIn wsX6_changeOwn wsX6_publish := goodIn_r _ [65, 66, 67, 68, 69, 70, 71, 72, 73, 74, 75, 28, 29, 18, 30, 20, 76, 77, 78, 79, 80, 81, 82, 83, 16, 17, 19, 84, 88, 89, 90, 91, 92, 93, 94, 95, 96, 106, 105, 107, 108] (by decide +kernel) (by decide +kernel)
set_option maxRecDepth 20000 in
theorem gX6_changeOwn_X6_publish : GoodIn wsX6_changeOwn (wsV RX6 131 RX6 yX6_publish wsX6_publish) := goodIn_app (goodIn_of _ (by decide +kernel)) ggX6_changeOwn_X6_publish
set_option maxRecDepth 20000 in
theorem ggX6_changeOwn_X6_numberOf : GoodIn wsX6_changeOwn wsX6_numberOf := goodIn_r _ [87] (by decide +kernel) (by decide +kernel)
set_option maxRecDepth 20000 in
theorem gX6_changeOwn_X6_numberOf : GoodIn wsX6_changeOwn (va_wsS RX6 135 yX6_numberOf wsX6_numberOf) := goodIn_app (goodIn_of _ (by decide +kernel)) ggX6_changeOwn_X6_numberOf
theorem dX6_changeOwn_0 : decode cX6_changeOwn 0 = .ok (.iload_n 3, 1) := by decide +kernel
theorem dX6_changeOwn_1 : decode cX6_changeOwn 1 = .ok (.iconst (-1), 1) := by decide +kernel
theorem dX6_changeOwn_2 : decode cX6_changeOwn 2 = .ok (.if_icmp .ne 6, 3) := by decide +kernel
theorem dX6_changeOwn_5 : decode cX6_changeOwn 5 = .ok (.ldc 110, 2) := by decide +kernel
theorem dX6_changeOwn_7 : decode cX6_changeOwn 7 = .ok (.ireturn, 1) := by decide +kernel
theorem dX6_changeOwn_8 : decode cX6_changeOwn 8 = .ok (.aload_n 0, 1) := by decide +kernel
theorem dX6_changeOwn_9 : decode cX6_changeOwn 9 = .ok (.iload_n 1, 1) := by decide +kernel
theorem dX6_changeOwn_10 : decode cX6_changeOwn 10 = .ok (.invokevirtual 118, 3) := by decide +kernel
theorem dX6_changeOwn_13 : decode cX6_changeOwn 13 = .ok (.ifCond .eq 6, 3) := by decide +kernel
theorem dX6_changeOwn_16 : decode cX6_changeOwn 16 = .ok (.ldc 77, 2) := by decide +kernel
theorem dX6_changeOwn_18 : decode cX6_changeOwn 18 = .ok (.ireturn, 1) := by decide +kernel
theorem dX6_changeOwn_19 : decode cX6_changeOwn 19 = .ok (.aload_n 0, 1) := by decide +kernel
theorem dX6_changeOwn_20 : decode cX6_changeOwn 20 = .ok (.iload_n 1, 1) := by decide +kernel
theorem dX6_changeOwn_21 : decode cX6_changeOwn 21 = .ok (.aload_n 0, 1) := by decide +kernel
theorem dX6_changeOwn_22 : decode cX6_changeOwn 22 = .ok (.getfield 12, 3) := by decide +kernel
theorem dX6_changeOwn_25 : decode cX6_changeOwn 25 = .ok (.iload_n 1, 1) := by decide +kernel
theorem dX6_changeOwn_26 : decode cX6_changeOwn 26 = .ok (.aload_n 0, 1) := by decide +kernel
theorem dX6_changeOwn_27 : decode cX6_changeOwn 27 = .ok (.iload_n 1, 1) := by decide +kernel
theorem dX6_changeOwn_28 : decode cX6_changeOwn 28 = .ok (.invokevirtual 121, 3) := by decide +kernel
theorem dX6_changeOwn_31 : decode cX6_changeOwn 31 = .ok (.iload_n 2, 1) := by decide +kernel
theorem dX6_changeOwn_32 : decode cX6_changeOwn 32 = .ok (.iload_n 3, 1) := by decide +kernel
theorem dX6_changeOwn_33 : decode cX6_changeOwn 33 = .ok (.iconst (-1), 1) := by decide +kernel
theorem dX6_changeOwn_34 : decode cX6_changeOwn 34 = .ok (.invokevirtual 151, 3) := by decide +kernel
theorem dX6_changeOwn_37 : decode cX6_changeOwn 37 = .ok (.invokevirtual 131, 3) := by decide +kernel
theorem dX6_changeOwn_40 : decode cX6_changeOwn 40 = .ok (.iload_n 3, 1) := by decide +kernel
theorem dX6_changeOwn_41 : decode cX6_changeOwn 41 = .ok (.invokestatic 135, 3) := by decide +kernel
theorem dX6_changeOwn_44 : decode cX6_changeOwn 44 = .ok (.ireturn, 1) := by decide +kernel
set_option maxRecDepth 20000 in
theorem ggX6_lastVisibleOwn_X0_show : GoodIn wsX6_lastVisibleOwn wsX0_show := goodIn_r _ [8, 9, 10, 11, 12, 13, 14, 15, 16, 17, 18, 19, 20, 21, 22, 23, 24, 25, 26, 27, 28, 29, 30, 31, 32, 33, 34, 35, 36, 37, 38, 39, 40, 41, 42, 43, 44, 45, 46, 47, 7, 48, 49, 50, 51, 52, 53, 54, 55, 56, 57, 58, 59, 60, 61, 62, 63, 64, 65, 66, 67, 68, 69, 70, 71, 72, 73, 74, 75, 76, 77, 78, 79, 80, 81, 102, 103, 104, 105, 106, 107, 108, 109, 110, 111, 112, 113, 114, 115] (by decide +kernel) (by decide +kernel)
set_option maxRecDepth 20000 in
theorem gX6_lastVisibleOwn_X0_show : GoodIn wsX6_lastVisibleOwn (wsV RX6 92 RX0 yX0_show wsX0_show) := goodIn_app (goodIn_of _ (by decide +kernel)) ggX6_lastVisibleOwn_X0_show
set_option maxRecDepth 20000 in
theorem ggX6_lastVisibleOwn_X4_madeBy : GoodIn wsX6_lastVisibleOwn wsX4_madeBy := goodIn_r _ [85, 86, 37, 29, 30, 21, 31, 23, 106, 107, 108, 109, 110, 111, 112, 113, 114] (by decide +kernel) (by decide +kernel)
set_option maxRecDepth 20000 in
theorem gX6_lastVisibleOwn_X4_madeBy : GoodIn wsX6_lastVisibleOwn (wsV RX6 89 RX4 yX4_madeBy wsX4_madeBy) := goodIn_app (goodIn_of _ (by decide +kernel)) ggX6_lastVisibleOwn_X4_madeBy
set_option maxRecDepth 20000 in
theorem ggX6_lastVisibleOwn_X6_idOf : GoodIn wsX6_lastVisibleOwn wsX6_idOf := goodIn_r _ [90] (by decide +kernel) (by decide +kernel)
set_option maxRecDepth 20000 in
theorem gX6_lastVisibleOwn_X6_idOf : GoodIn wsX6_lastVisibleOwn (va_wsS RX6 178 yX6_idOf wsX6_idOf) := goodIn_app (goodIn_of _ (by decide +kernel)) ggX6_lastVisibleOwn_X6_idOf
set_option maxRecDepth 20000 in
theorem ggX6_lastVisibleOwn_X4_isStroke : GoodIn wsX6_lastVisibleOwn wsX4_isStroke := goodIn_r _ [76, 58, 37, 29, 30, 21, 31, 23, 106, 107, 108, 109, 110, 111, 112, 113, 114] (by decide +kernel) (by decide +kernel)
set_option maxRecDepth 20000 in
theorem gX6_lastVisibleOwn_X4_isStroke : GoodIn wsX6_lastVisibleOwn (wsV RX6 204 RX4 yX4_isStroke wsX4_isStroke) := goodIn_app (goodIn_of _ (by decide +kernel)) ggX6_lastVisibleOwn_X4_isStroke
set_option maxRecDepth 20000 in
theorem ggX6_lastVisibleOwn_X0_isUndone : GoodIn wsX6_lastVisibleOwn wsX0_isUndone := goodIn_r _ [81, 9, 77, 29, 30, 21, 31, 23, 102, 103, 104, 105, 114] (by decide +kernel) (by decide +kernel)
set_option maxRecDepth 20000 in
theorem gX6_lastVisibleOwn_X0_isUndone : GoodIn wsX6_lastVisibleOwn (wsV RX6 251 RX0 yX0_isUndone wsX0_isUndone) := goodIn_app (goodIn_of _ (by decide +kernel)) ggX6_lastVisibleOwn_X0_isUndone
theorem dX6_lastVisibleOwn_0 : decode cX6_lastVisibleOwn 0 = .ok (.aload_n 0, 1) := by decide +kernel
theorem dX6_lastVisibleOwn_1 : decode cX6_lastVisibleOwn 1 = .ok (.getfield 45, 3) := by decide +kernel
theorem dX6_lastVisibleOwn_4 : decode cX6_lastVisibleOwn 4 = .ok (.aload_n 0, 1) := by decide +kernel
theorem dX6_lastVisibleOwn_5 : decode cX6_lastVisibleOwn 5 = .ok (.getfield 12, 3) := by decide +kernel
theorem dX6_lastVisibleOwn_8 : decode cX6_lastVisibleOwn 8 = .ok (.aload_n 0, 1) := by decide +kernel
theorem dX6_lastVisibleOwn_9 : decode cX6_lastVisibleOwn 9 = .ok (.getfield 28, 3) := by decide +kernel
theorem dX6_lastVisibleOwn_12 : decode cX6_lastVisibleOwn 12 = .ok (.iload_n 1, 1) := by decide +kernel
theorem dX6_lastVisibleOwn_13 : decode cX6_lastVisibleOwn 13 = .ok (.invokevirtual 92, 3) := by decide +kernel
theorem dX6_lastVisibleOwn_16 : decode cX6_lastVisibleOwn 16 = .ok (.aload_n 0, 1) := by decide +kernel
theorem dX6_lastVisibleOwn_17 : decode cX6_lastVisibleOwn 17 = .ok (.getfield 12, 3) := by decide +kernel
theorem dX6_lastVisibleOwn_20 : decode cX6_lastVisibleOwn 20 = .ok (.iload_n 1, 1) := by decide +kernel
theorem dX6_lastVisibleOwn_21 : decode cX6_lastVisibleOwn 21 = .ok (.invokevirtual 89, 3) := by decide +kernel
theorem dX6_lastVisibleOwn_24 : decode cX6_lastVisibleOwn 24 = .ok (.istore_n 2, 1) := by decide +kernel
theorem dX6_lastVisibleOwn_25 : decode cX6_lastVisibleOwn 25 = .ok (.iload_n 2, 1) := by decide +kernel
theorem dX6_lastVisibleOwn_26 : decode cX6_lastVisibleOwn 26 = .ok (.iconst 1, 1) := by decide +kernel
theorem dX6_lastVisibleOwn_27 : decode cX6_lastVisibleOwn 27 = .ok (.if_icmp .lt 39, 3) := by decide +kernel
theorem dX6_lastVisibleOwn_30 : decode cX6_lastVisibleOwn 30 = .ok (.iload_n 1, 1) := by decide +kernel
theorem dX6_lastVisibleOwn_31 : decode cX6_lastVisibleOwn 31 = .ok (.iload_n 2, 1) := by decide +kernel
theorem dX6_lastVisibleOwn_32 : decode cX6_lastVisibleOwn 32 = .ok (.invokestatic 178, 3) := by decide +kernel
theorem dX6_lastVisibleOwn_35 : decode cX6_lastVisibleOwn 35 = .ok (.istore_n 3, 1) := by decide +kernel
theorem dX6_lastVisibleOwn_36 : decode cX6_lastVisibleOwn 36 = .ok (.aload_n 0, 1) := by decide +kernel
theorem dX6_lastVisibleOwn_37 : decode cX6_lastVisibleOwn 37 = .ok (.getfield 12, 3) := by decide +kernel
theorem dX6_lastVisibleOwn_40 : decode cX6_lastVisibleOwn 40 = .ok (.iload_n 3, 1) := by decide +kernel
theorem dX6_lastVisibleOwn_41 : decode cX6_lastVisibleOwn 41 = .ok (.invokevirtual 204, 3) := by decide +kernel
theorem dX6_lastVisibleOwn_44 : decode cX6_lastVisibleOwn 44 = .ok (.ifCond .eq 16, 3) := by decide +kernel
theorem dX6_lastVisibleOwn_47 : decode cX6_lastVisibleOwn 47 = .ok (.aload_n 0, 1) := by decide +kernel
theorem dX6_lastVisibleOwn_48 : decode cX6_lastVisibleOwn 48 = .ok (.getfield 45, 3) := by decide +kernel
theorem dX6_lastVisibleOwn_51 : decode cX6_lastVisibleOwn 51 = .ok (.iload_n 3, 1) := by decide +kernel
theorem dX6_lastVisibleOwn_52 : decode cX6_lastVisibleOwn 52 = .ok (.invokevirtual 251, 3) := by decide +kernel
theorem dX6_lastVisibleOwn_55 : decode cX6_lastVisibleOwn 55 = .ok (.ifCond .ne 5, 3) := by decide +kernel
theorem dX6_lastVisibleOwn_58 : decode cX6_lastVisibleOwn 58 = .ok (.iload_n 3, 1) := by decide +kernel
theorem dX6_lastVisibleOwn_59 : decode cX6_lastVisibleOwn 59 = .ok (.ireturn, 1) := by decide +kernel
theorem dX6_lastVisibleOwn_60 : decode cX6_lastVisibleOwn 60 = .ok (.iinc 2 (-1), 3) := by decide +kernel
theorem dX6_lastVisibleOwn_63 : decode cX6_lastVisibleOwn 63 = .ok (.goto (-38), 3) := by decide +kernel
theorem dX6_lastVisibleOwn_66 : decode cX6_lastVisibleOwn 66 = .ok (.iconst (-1), 1) := by decide +kernel
theorem dX6_lastVisibleOwn_67 : decode cX6_lastVisibleOwn 67 = .ok (.ireturn, 1) := by decide +kernel
set_option maxRecDepth 20000 in
theorem ggX6_lastUndoneOwn_X0_show : GoodIn wsX6_lastUndoneOwn wsX0_show := goodIn_r _ [8, 9, 10, 11, 12, 13, 14, 15, 16, 17, 18, 19, 20, 21, 22, 23, 24, 25, 26, 27, 28, 29, 30, 31, 32, 33, 34, 35, 36, 37, 38, 39, 40, 41, 42, 43, 44, 45, 46, 47, 7, 48, 49, 50, 51, 52, 53, 54, 55, 56, 57, 58, 59, 60, 61, 62, 63, 64, 65, 66, 67, 68, 69, 70, 71, 72, 73, 74, 75, 76, 77, 78, 79, 80, 81, 103, 104, 105, 106, 107, 108, 109, 110, 111, 112, 113, 114, 115, 116] (by decide +kernel) (by decide +kernel)
set_option maxRecDepth 20000 in
theorem gX6_lastUndoneOwn_X0_show : GoodIn wsX6_lastUndoneOwn (wsV RX6 92 RX0 yX0_show wsX0_show) := goodIn_app (goodIn_of _ (by decide +kernel)) ggX6_lastUndoneOwn_X0_show
set_option maxRecDepth 20000 in
theorem ggX6_lastUndoneOwn_X4_madeBy : GoodIn wsX6_lastUndoneOwn wsX4_madeBy := goodIn_r _ [85, 86, 37, 29, 30, 21, 31, 23, 107, 108, 109, 110, 111, 112, 113, 114, 115] (by decide +kernel) (by decide +kernel)
set_option maxRecDepth 20000 in
theorem gX6_lastUndoneOwn_X4_madeBy : GoodIn wsX6_lastUndoneOwn (wsV RX6 89 RX4 yX4_madeBy wsX4_madeBy) := goodIn_app (goodIn_of _ (by decide +kernel)) ggX6_lastUndoneOwn_X4_madeBy
set_option maxRecDepth 20000 in
theorem ggX6_lastUndoneOwn_X6_idOf : GoodIn wsX6_lastUndoneOwn wsX6_idOf := goodIn_r _ [90] (by decide +kernel) (by decide +kernel)
set_option maxRecDepth 20000 in
theorem gX6_lastUndoneOwn_X6_idOf : GoodIn wsX6_lastUndoneOwn (va_wsS RX6 178 yX6_idOf wsX6_idOf) := goodIn_app (goodIn_of _ (by decide +kernel)) ggX6_lastUndoneOwn_X6_idOf
set_option maxRecDepth 20000 in
theorem ggX6_lastUndoneOwn_X4_kindOf : GoodIn wsX6_lastUndoneOwn wsX4_kindOf := goodIn_r _ [57, 58, 37, 29, 30, 21, 31, 23, 107, 108, 109, 110, 111, 112, 113, 114, 115] (by decide +kernel) (by decide +kernel)
set_option maxRecDepth 20000 in
theorem gX6_lastUndoneOwn_X4_kindOf : GoodIn wsX6_lastUndoneOwn (wsV RX6 198 RX4 yX4_kindOf wsX4_kindOf) := goodIn_app (goodIn_of _ (by decide +kernel)) ggX6_lastUndoneOwn_X4_kindOf
set_option maxRecDepth 20000 in
theorem ggX6_lastUndoneOwn_X4_targetOf : GoodIn wsX6_lastUndoneOwn wsX4_targetOf := goodIn_r _ [52, 53, 37, 29, 30, 21, 31, 23, 107, 108, 109, 110, 111, 112, 113, 114, 115] (by decide +kernel) (by decide +kernel)
set_option maxRecDepth 20000 in
theorem gX6_lastUndoneOwn_X4_targetOf : GoodIn wsX6_lastUndoneOwn (wsV RX6 210 RX4 yX4_targetOf wsX4_targetOf) := goodIn_app (goodIn_of _ (by decide +kernel)) ggX6_lastUndoneOwn_X4_targetOf
set_option maxRecDepth 20000 in
theorem ggX6_lastUndoneOwn_X0_isUndone : GoodIn wsX6_lastUndoneOwn wsX0_isUndone := goodIn_r _ [81, 9, 77, 29, 30, 21, 31, 23, 103, 104, 105, 106, 115] (by decide +kernel) (by decide +kernel)
set_option maxRecDepth 20000 in
theorem gX6_lastUndoneOwn_X0_isUndone : GoodIn wsX6_lastUndoneOwn (wsV RX6 251 RX0 yX0_isUndone wsX0_isUndone) := goodIn_app (goodIn_of _ (by decide +kernel)) ggX6_lastUndoneOwn_X0_isUndone
theorem dX6_lastUndoneOwn_0 : decode cX6_lastUndoneOwn 0 = .ok (.aload_n 0, 1) := by decide +kernel
theorem dX6_lastUndoneOwn_1 : decode cX6_lastUndoneOwn 1 = .ok (.getfield 45, 3) := by decide +kernel
theorem dX6_lastUndoneOwn_4 : decode cX6_lastUndoneOwn 4 = .ok (.aload_n 0, 1) := by decide +kernel
theorem dX6_lastUndoneOwn_5 : decode cX6_lastUndoneOwn 5 = .ok (.getfield 12, 3) := by decide +kernel
theorem dX6_lastUndoneOwn_8 : decode cX6_lastUndoneOwn 8 = .ok (.aload_n 0, 1) := by decide +kernel
theorem dX6_lastUndoneOwn_9 : decode cX6_lastUndoneOwn 9 = .ok (.getfield 28, 3) := by decide +kernel
theorem dX6_lastUndoneOwn_12 : decode cX6_lastUndoneOwn 12 = .ok (.iload_n 1, 1) := by decide +kernel
theorem dX6_lastUndoneOwn_13 : decode cX6_lastUndoneOwn 13 = .ok (.invokevirtual 92, 3) := by decide +kernel
theorem dX6_lastUndoneOwn_16 : decode cX6_lastUndoneOwn 16 = .ok (.aload_n 0, 1) := by decide +kernel
theorem dX6_lastUndoneOwn_17 : decode cX6_lastUndoneOwn 17 = .ok (.getfield 12, 3) := by decide +kernel
theorem dX6_lastUndoneOwn_20 : decode cX6_lastUndoneOwn 20 = .ok (.iload_n 1, 1) := by decide +kernel
theorem dX6_lastUndoneOwn_21 : decode cX6_lastUndoneOwn 21 = .ok (.invokevirtual 89, 3) := by decide +kernel
theorem dX6_lastUndoneOwn_24 : decode cX6_lastUndoneOwn 24 = .ok (.istore_n 2, 1) := by decide +kernel
theorem dX6_lastUndoneOwn_25 : decode cX6_lastUndoneOwn 25 = .ok (.iload_n 2, 1) := by decide +kernel
theorem dX6_lastUndoneOwn_26 : decode cX6_lastUndoneOwn 26 = .ok (.iconst 1, 1) := by decide +kernel
theorem dX6_lastUndoneOwn_27 : decode cX6_lastUndoneOwn 27 = .ok (.if_icmp .lt 54, 3) := by decide +kernel
theorem dX6_lastUndoneOwn_30 : decode cX6_lastUndoneOwn 30 = .ok (.iload_n 1, 1) := by decide +kernel
theorem dX6_lastUndoneOwn_31 : decode cX6_lastUndoneOwn 31 = .ok (.iload_n 2, 1) := by decide +kernel
theorem dX6_lastUndoneOwn_32 : decode cX6_lastUndoneOwn 32 = .ok (.invokestatic 178, 3) := by decide +kernel
theorem dX6_lastUndoneOwn_35 : decode cX6_lastUndoneOwn 35 = .ok (.istore_n 3, 1) := by decide +kernel
theorem dX6_lastUndoneOwn_36 : decode cX6_lastUndoneOwn 36 = .ok (.aload_n 0, 1) := by decide +kernel
theorem dX6_lastUndoneOwn_37 : decode cX6_lastUndoneOwn 37 = .ok (.getfield 12, 3) := by decide +kernel
theorem dX6_lastUndoneOwn_40 : decode cX6_lastUndoneOwn 40 = .ok (.iload_n 3, 1) := by decide +kernel
theorem dX6_lastUndoneOwn_41 : decode cX6_lastUndoneOwn 41 = .ok (.invokevirtual 198, 3) := by decide +kernel
theorem dX6_lastUndoneOwn_44 : decode cX6_lastUndoneOwn 44 = .ok (.iconst 1, 1) := by decide +kernel
theorem dX6_lastUndoneOwn_45 : decode cX6_lastUndoneOwn 45 = .ok (.if_icmp .ne 30, 3) := by decide +kernel
theorem dX6_lastUndoneOwn_48 : decode cX6_lastUndoneOwn 48 = .ok (.aload_n 0, 1) := by decide +kernel
theorem dX6_lastUndoneOwn_49 : decode cX6_lastUndoneOwn 49 = .ok (.getfield 45, 3) := by decide +kernel
theorem dX6_lastUndoneOwn_52 : decode cX6_lastUndoneOwn 52 = .ok (.aload_n 0, 1) := by decide +kernel
theorem dX6_lastUndoneOwn_53 : decode cX6_lastUndoneOwn 53 = .ok (.getfield 12, 3) := by decide +kernel
theorem dX6_lastUndoneOwn_56 : decode cX6_lastUndoneOwn 56 = .ok (.iload_n 3, 1) := by decide +kernel
theorem dX6_lastUndoneOwn_57 : decode cX6_lastUndoneOwn 57 = .ok (.invokevirtual 210, 3) := by decide +kernel
theorem dX6_lastUndoneOwn_60 : decode cX6_lastUndoneOwn 60 = .ok (.invokevirtual 251, 3) := by decide +kernel
theorem dX6_lastUndoneOwn_63 : decode cX6_lastUndoneOwn 63 = .ok (.ifCond .eq 12, 3) := by decide +kernel
theorem dX6_lastUndoneOwn_66 : decode cX6_lastUndoneOwn 66 = .ok (.aload_n 0, 1) := by decide +kernel
theorem dX6_lastUndoneOwn_67 : decode cX6_lastUndoneOwn 67 = .ok (.getfield 12, 3) := by decide +kernel
theorem dX6_lastUndoneOwn_70 : decode cX6_lastUndoneOwn 70 = .ok (.iload_n 3, 1) := by decide +kernel
theorem dX6_lastUndoneOwn_71 : decode cX6_lastUndoneOwn 71 = .ok (.invokevirtual 210, 3) := by decide +kernel
theorem dX6_lastUndoneOwn_74 : decode cX6_lastUndoneOwn 74 = .ok (.ireturn, 1) := by decide +kernel
theorem dX6_lastUndoneOwn_75 : decode cX6_lastUndoneOwn 75 = .ok (.iinc 2 (-1), 3) := by decide +kernel
theorem dX6_lastUndoneOwn_78 : decode cX6_lastUndoneOwn 78 = .ok (.goto (-53), 3) := by decide +kernel
theorem dX6_lastUndoneOwn_81 : decode cX6_lastUndoneOwn 81 = .ok (.iconst (-1), 1) := by decide +kernel
theorem dX6_lastUndoneOwn_82 : decode cX6_lastUndoneOwn 82 = .ok (.ireturn, 1) := by decide +kernel
set_option maxRecDepth 20000 in
theorem ggX6_deliverLink_X3_countIn : GoodIn wsX6_deliverLink wsX3_countIn := goodIn_r _ [6, 7, 8, 9, 10, 11, 12, 13, 65, 66, 67] (by decide +kernel) (by decide +kernel)
set_option maxRecDepth 20000 in
theorem gX6_deliverLink_X3_countIn : GoodIn wsX6_deliverLink (wsV RX6 159 RX3 yX3_countIn wsX3_countIn) := goodIn_app (goodIn_of _ (by decide +kernel)) ggX6_deliverLink_X3_countIn
set_option maxRecDepth 20000 in
theorem ggX6_deliverLink_X3_messageIn : GoodIn wsX6_deliverLink wsX3_messageIn := goodIn_r _ [17, 18, 8, 9, 10, 11, 12, 13, 65, 66, 67] (by decide +kernel) (by decide +kernel)
set_option maxRecDepth 20000 in
theorem gX6_deliverLink_X3_messageIn : GoodIn wsX6_deliverLink (wsV RX6 163 RX3 yX3_messageIn wsX3_messageIn) := goodIn_app (goodIn_of _ (by decide +kernel)) ggX6_deliverLink_X3_messageIn
set_option maxRecDepth 20000 in
theorem ggX6_deliverLink_X6_receive : GoodIn wsX6_deliverLink wsX6_receive := goodIn_r _ [23, 24, 25, 26, 27, 28, 29, 30, 31, 32, 33, 34, 35, 36, 37, 38, 39, 11, 40, 13, 41, 9, 10, 12, 42, 43, 44, 45, 46, 47, 48, 49, 56, 57, 58, 59, 60, 61, 62, 63, 64, 68, 67, 69, 70, 71, 72, 73, 74, 75, 76] (by decide +kernel) (by decide +kernel)
set_option maxRecDepth 20000 in
theorem gX6_deliverLink_X6_receive : GoodIn wsX6_deliverLink (wsV RX6 169 RX6 yX6_receive wsX6_receive) := goodIn_app (goodIn_of _ (by decide +kernel)) ggX6_deliverLink_X6_receive
set_option maxRecDepth 20000 in
theorem ggX6_deliverLink_X3_dropFirst : GoodIn wsX6_deliverLink wsX3_dropFirst := goodIn_r _ [53, 7, 18, 54, 28, 29, 30, 8, 9, 10, 11, 12, 13, 55, 38, 39, 40, 65, 66, 67] (by decide +kernel) (by decide +kernel)
set_option maxRecDepth 20000 in
theorem gX6_deliverLink_X3_dropFirst : GoodIn wsX6_deliverLink (wsV RX6 166 RX3 yX3_dropFirst wsX3_dropFirst) := goodIn_app (goodIn_of _ (by decide +kernel)) ggX6_deliverLink_X3_dropFirst
theorem dX6_deliverLink_0 : decode cX6_deliverLink 0 = .ok (.aload_n 0, 1) := by decide +kernel
theorem dX6_deliverLink_1 : decode cX6_deliverLink 1 = .ok (.getfield 38, 3) := by decide +kernel
theorem dX6_deliverLink_4 : decode cX6_deliverLink 4 = .ok (.iload_n 1, 1) := by decide +kernel
theorem dX6_deliverLink_5 : decode cX6_deliverLink 5 = .ok (.iload_n 2, 1) := by decide +kernel
theorem dX6_deliverLink_6 : decode cX6_deliverLink 6 = .ok (.invokevirtual 159, 3) := by decide +kernel
theorem dX6_deliverLink_9 : decode cX6_deliverLink 9 = .ok (.istore_n 3, 1) := by decide +kernel
theorem dX6_deliverLink_10 : decode cX6_deliverLink 10 = .ok (.iconst 0, 1) := by decide +kernel
theorem dX6_deliverLink_11 : decode cX6_deliverLink 11 = .ok (.istore 4, 2) := by decide +kernel
theorem dX6_deliverLink_13 : decode cX6_deliverLink 13 = .ok (.iload 4, 2) := by decide +kernel
theorem dX6_deliverLink_15 : decode cX6_deliverLink 15 = .ok (.iload_n 3, 1) := by decide +kernel
theorem dX6_deliverLink_16 : decode cX6_deliverLink 16 = .ok (.if_icmp .ge 33, 3) := by decide +kernel
theorem dX6_deliverLink_19 : decode cX6_deliverLink 19 = .ok (.aload_n 0, 1) := by decide +kernel
theorem dX6_deliverLink_20 : decode cX6_deliverLink 20 = .ok (.iload_n 2, 1) := by decide +kernel
theorem dX6_deliverLink_21 : decode cX6_deliverLink 21 = .ok (.aload_n 0, 1) := by decide +kernel
theorem dX6_deliverLink_22 : decode cX6_deliverLink 22 = .ok (.getfield 38, 3) := by decide +kernel
theorem dX6_deliverLink_25 : decode cX6_deliverLink 25 = .ok (.iload_n 1, 1) := by decide +kernel
theorem dX6_deliverLink_26 : decode cX6_deliverLink 26 = .ok (.iload_n 2, 1) := by decide +kernel
theorem dX6_deliverLink_27 : decode cX6_deliverLink 27 = .ok (.iconst 0, 1) := by decide +kernel
theorem dX6_deliverLink_28 : decode cX6_deliverLink 28 = .ok (.invokevirtual 163, 3) := by decide +kernel
theorem dX6_deliverLink_31 : decode cX6_deliverLink 31 = .ok (.invokevirtual 169, 3) := by decide +kernel
theorem dX6_deliverLink_34 : decode cX6_deliverLink 34 = .ok (.aload_n 0, 1) := by decide +kernel
theorem dX6_deliverLink_35 : decode cX6_deliverLink 35 = .ok (.getfield 38, 3) := by decide +kernel
theorem dX6_deliverLink_38 : decode cX6_deliverLink 38 = .ok (.iload_n 1, 1) := by decide +kernel
theorem dX6_deliverLink_39 : decode cX6_deliverLink 39 = .ok (.iload_n 2, 1) := by decide +kernel
theorem dX6_deliverLink_40 : decode cX6_deliverLink 40 = .ok (.invokevirtual 166, 3) := by decide +kernel
theorem dX6_deliverLink_43 : decode cX6_deliverLink 43 = .ok (.iinc 4 1, 3) := by decide +kernel
theorem dX6_deliverLink_46 : decode cX6_deliverLink 46 = .ok (.goto (-33), 3) := by decide +kernel
theorem dX6_deliverLink_49 : decode cX6_deliverLink 49 = .ok (.iload_n 3, 1) := by decide +kernel
theorem dX6_deliverLink_50 : decode cX6_deliverLink 50 = .ok (.ireturn, 1) := by decide +kernel
set_option maxRecDepth 20000 in
theorem ggX6_canRepair_X2_isInGap : GoodIn wsX6_canRepair wsX2_isInGap := goodIn_r _ [6, 7, 8, 9, 5, 10, 11, 12, 13, 14, 15, 16, 17, 18, 19, 20, 21, 22, 23, 24, 25, 26, 27, 28, 39, 40] (by decide +kernel) (by decide +kernel)
set_option maxRecDepth 20000 in
theorem gX6_canRepair_X2_isInGap : GoodIn wsX6_canRepair (wsV RX6 254 RX2 yX2_isInGap wsX2_isInGap) := goodIn_app (goodIn_of _ (by decide +kernel)) ggX6_canRepair_X2_isInGap
set_option maxRecDepth 20000 in
theorem ggX6_canRepair_X2_has : GoodIn wsX6_canRepair wsX2_has := goodIn_r _ [10, 11, 12, 13, 14, 15, 16, 17, 39, 40] (by decide +kernel) (by decide +kernel)
set_option maxRecDepth 20000 in
theorem gX6_canRepair_X2_has : GoodIn wsX6_canRepair (wsV RX6 181 RX2 yX2_has wsX2_has) := goodIn_app (goodIn_of _ (by decide +kernel)) ggX6_canRepair_X2_has
theorem dX6_canRepair_0 : decode cX6_canRepair 0 = .ok (.aload_n 0, 1) := by decide +kernel
theorem dX6_canRepair_1 : decode cX6_canRepair 1 = .ok (.getfield 28, 3) := by decide +kernel
theorem dX6_canRepair_4 : decode cX6_canRepair 4 = .ok (.iload_n 1, 1) := by decide +kernel
theorem dX6_canRepair_5 : decode cX6_canRepair 5 = .ok (.iload_n 3, 1) := by decide +kernel
theorem dX6_canRepair_6 : decode cX6_canRepair 6 = .ok (.invokevirtual 254, 3) := by decide +kernel
theorem dX6_canRepair_9 : decode cX6_canRepair 9 = .ok (.ifCond .eq 19, 3) := by decide +kernel
theorem dX6_canRepair_12 : decode cX6_canRepair 12 = .ok (.aload_n 0, 1) := by decide +kernel
theorem dX6_canRepair_13 : decode cX6_canRepair 13 = .ok (.getfield 28, 3) := by decide +kernel
theorem dX6_canRepair_16 : decode cX6_canRepair 16 = .ok (.iload_n 2, 1) := by decide +kernel
theorem dX6_canRepair_17 : decode cX6_canRepair 17 = .ok (.iload_n 3, 1) := by decide +kernel
theorem dX6_canRepair_18 : decode cX6_canRepair 18 = .ok (.invokevirtual 181, 3) := by decide +kernel
theorem dX6_canRepair_21 : decode cX6_canRepair 21 = .ok (.ifCond .eq 7, 3) := by decide +kernel
theorem dX6_canRepair_24 : decode cX6_canRepair 24 = .ok (.iconst 1, 1) := by decide +kernel
theorem dX6_canRepair_25 : decode cX6_canRepair 25 = .ok (.goto 4, 3) := by decide +kernel
theorem dX6_canRepair_28 : decode cX6_canRepair 28 = .ok (.iconst 0, 1) := by decide +kernel
theorem dX6_canRepair_29 : decode cX6_canRepair 29 = .ok (.ireturn, 1) := by decide +kernel
set_option maxRecDepth 20000 in
theorem ggX6_repairable_X6_canRepair : GoodIn wsX6_repairable wsX6_canRepair := goodIn_r _ [5, 6, 7, 8, 9, 10, 11, 12, 13, 14, 15, 16, 17, 18, 19, 20, 21, 22, 23, 24, 25, 26, 27, 4, 28, 29, 30, 31, 32, 33, 34, 35, 36, 37, 38, 39, 40, 41, 42, 43, 44] (by decide +kernel) (by decide +kernel)
set_option maxRecDepth 20000 in
theorem gX6_repairable_X6_canRepair : GoodIn wsX6_repairable (wsV RX6 184 RX6 yX6_canRepair wsX6_canRepair) := goodIn_app (goodIn_of _ (by decide +kernel)) ggX6_repairable_X6_canRepair
theorem dX6_repairable_0 : decode cX6_repairable 0 = .ok (.iconst 0, 1) := by decide +kernel
theorem dX6_repairable_1 : decode cX6_repairable 1 = .ok (.istore_n 3, 1) := by decide +kernel
theorem dX6_repairable_2 : decode cX6_repairable 2 = .ok (.iconst 0, 1) := by decide +kernel
theorem dX6_repairable_3 : decode cX6_repairable 3 = .ok (.istore 4, 2) := by decide +kernel
theorem dX6_repairable_5 : decode cX6_repairable 5 = .ok (.iload 4, 2) := by decide +kernel
theorem dX6_repairable_7 : decode cX6_repairable 7 = .ok (.bipush 100, 2) := by decide +kernel
theorem dX6_repairable_9 : decode cX6_repairable 9 = .ok (.if_icmp .ge 23, 3) := by decide +kernel
theorem dX6_repairable_12 : decode cX6_repairable 12 = .ok (.aload_n 0, 1) := by decide +kernel
theorem dX6_repairable_13 : decode cX6_repairable 13 = .ok (.iload_n 1, 1) := by decide +kernel
theorem dX6_repairable_14 : decode cX6_repairable 14 = .ok (.iload_n 2, 1) := by decide +kernel
theorem dX6_repairable_15 : decode cX6_repairable 15 = .ok (.iload 4, 2) := by decide +kernel
theorem dX6_repairable_17 : decode cX6_repairable 17 = .ok (.invokevirtual 184, 3) := by decide +kernel
theorem dX6_repairable_20 : decode cX6_repairable 20 = .ok (.ifCond .eq 6, 3) := by decide +kernel
theorem dX6_repairable_23 : decode cX6_repairable 23 = .ok (.iinc 3 1, 3) := by decide +kernel
theorem dX6_repairable_26 : decode cX6_repairable 26 = .ok (.iinc 4 1, 3) := by decide +kernel
theorem dX6_repairable_29 : decode cX6_repairable 29 = .ok (.goto (-24), 3) := by decide +kernel
theorem dX6_repairable_32 : decode cX6_repairable 32 = .ok (.iload_n 3, 1) := by decide +kernel
theorem dX6_repairable_33 : decode cX6_repairable 33 = .ok (.ireturn, 1) := by decide +kernel
set_option maxRecDepth 20000 in
theorem ggX6_strokeValue_X6_authorOf : GoodIn wsX6_strokeValue wsX6_authorOf := goodIn_r _ [6] (by decide +kernel) (by decide +kernel)
set_option maxRecDepth 20000 in
theorem gX6_strokeValue_X6_authorOf : GoodIn wsX6_strokeValue (va_wsS RX6 172 yX6_authorOf wsX6_authorOf) := goodIn_app (goodIn_of _ (by decide +kernel)) ggX6_strokeValue_X6_authorOf
set_option maxRecDepth 20000 in
theorem ggX6_strokeValue_X6_numberOf : GoodIn wsX6_strokeValue wsX6_numberOf := goodIn_r _ [9] (by decide +kernel) (by decide +kernel)
set_option maxRecDepth 20000 in
theorem gX6_strokeValue_X6_numberOf : GoodIn wsX6_strokeValue (va_wsS RX6 135 yX6_numberOf wsX6_numberOf) := goodIn_app (goodIn_of _ (by decide +kernel)) ggX6_strokeValue_X6_numberOf
set_option maxRecDepth 20000 in
theorem ggX6_strokeValue_X0_layerOf : GoodIn wsX6_strokeValue wsX0_layerOf := goodIn_r _ [14, 15, 16, 17, 18, 19, 20, 21, 51, 52, 53, 54, 55] (by decide +kernel) (by decide +kernel)
set_option maxRecDepth 20000 in
theorem gX6_strokeValue_X0_layerOf : GoodIn wsX6_strokeValue (wsV RX6 257 RX0 yX0_layerOf wsX0_layerOf) := goodIn_app (goodIn_of _ (by decide +kernel)) ggX6_strokeValue_X0_layerOf
set_option maxRecDepth 20000 in
theorem ggX6_strokeValue_X1_colorOf : GoodIn wsX6_strokeValue wsX1_colorOf := goodIn_r _ [26, 27, 28, 17, 18, 19, 20, 21, 56, 57, 58, 59, 60, 55] (by decide +kernel) (by decide +kernel)
set_option maxRecDepth 20000 in
theorem gX6_strokeValue_X1_colorOf : GoodIn wsX6_strokeValue (wsV RX6 258 RX1 yX1_colorOf wsX1_colorOf) := goodIn_app (goodIn_of _ (by decide +kernel)) ggX6_strokeValue_X1_colorOf
set_option maxRecDepth 20000 in
theorem ggX6_strokeValue_X1_pointCount : GoodIn wsX6_strokeValue wsX1_pointCount := goodIn_r _ [32, 33, 28, 17, 18, 19, 20, 21, 56, 57, 58, 59, 60, 55] (by decide +kernel) (by decide +kernel)
set_option maxRecDepth 20000 in
theorem gX6_strokeValue_X1_pointCount : GoodIn wsX6_strokeValue (wsV RX6 100 RX1 yX1_pointCount wsX1_pointCount) := goodIn_app (goodIn_of _ (by decide +kernel)) ggX6_strokeValue_X1_pointCount
theorem dX6_strokeValue_0 : decode cX6_strokeValue 0 = .ok (.iload_n 2, 1) := by decide +kernel
theorem dX6_strokeValue_1 : decode cX6_strokeValue 1 = .ok (.tableswitch 62 0 3 #[31, 36, 41, 50], 31) := by decide +kernel
theorem dX6_strokeValue_32 : decode cX6_strokeValue 32 = .ok (.iload_n 1, 1) := by decide +kernel
theorem dX6_strokeValue_33 : decode cX6_strokeValue 33 = .ok (.invokestatic 172, 3) := by decide +kernel
theorem dX6_strokeValue_36 : decode cX6_strokeValue 36 = .ok (.ireturn, 1) := by decide +kernel
theorem dX6_strokeValue_37 : decode cX6_strokeValue 37 = .ok (.iload_n 1, 1) := by decide +kernel
theorem dX6_strokeValue_38 : decode cX6_strokeValue 38 = .ok (.invokestatic 135, 3) := by decide +kernel
theorem dX6_strokeValue_41 : decode cX6_strokeValue 41 = .ok (.ireturn, 1) := by decide +kernel
theorem dX6_strokeValue_42 : decode cX6_strokeValue 42 = .ok (.aload_n 0, 1) := by decide +kernel
theorem dX6_strokeValue_43 : decode cX6_strokeValue 43 = .ok (.getfield 45, 3) := by decide +kernel
theorem dX6_strokeValue_46 : decode cX6_strokeValue 46 = .ok (.iload_n 1, 1) := by decide +kernel
theorem dX6_strokeValue_47 : decode cX6_strokeValue 47 = .ok (.invokevirtual 257, 3) := by decide +kernel
theorem dX6_strokeValue_50 : decode cX6_strokeValue 50 = .ok (.ireturn, 1) := by decide +kernel
theorem dX6_strokeValue_51 : decode cX6_strokeValue 51 = .ok (.aload_n 0, 1) := by decide +kernel
theorem dX6_strokeValue_52 : decode cX6_strokeValue 52 = .ok (.getfield 12, 3) := by decide +kernel
theorem dX6_strokeValue_55 : decode cX6_strokeValue 55 = .ok (.getfield 207, 3) := by decide +kernel
theorem dX6_strokeValue_58 : decode cX6_strokeValue 58 = .ok (.iload_n 1, 1) := by decide +kernel
theorem dX6_strokeValue_59 : decode cX6_strokeValue 59 = .ok (.invokevirtual 258, 3) := by decide +kernel
theorem dX6_strokeValue_62 : decode cX6_strokeValue 62 = .ok (.ireturn, 1) := by decide +kernel
theorem dX6_strokeValue_63 : decode cX6_strokeValue 63 = .ok (.aload_n 0, 1) := by decide +kernel
theorem dX6_strokeValue_64 : decode cX6_strokeValue 64 = .ok (.getfield 12, 3) := by decide +kernel
theorem dX6_strokeValue_67 : decode cX6_strokeValue 67 = .ok (.getfield 207, 3) := by decide +kernel
theorem dX6_strokeValue_70 : decode cX6_strokeValue 70 = .ok (.iload_n 1, 1) := by decide +kernel
theorem dX6_strokeValue_71 : decode cX6_strokeValue 71 = .ok (.invokevirtual 100, 3) := by decide +kernel
theorem dX6_strokeValue_74 : decode cX6_strokeValue 74 = .ok (.ireturn, 1) := by decide +kernel
set_option maxRecDepth 20000 in
theorem ggX6_coordinate_X1_pointCount : GoodIn wsX6_coordinate wsX1_pointCount := goodIn_r _ [7, 8, 9, 10, 11, 12, 13, 14, 42, 43, 44, 45, 46, 47] (by decide +kernel) (by decide +kernel)
set_option maxRecDepth 20000 in
theorem gX6_coordinate_X1_pointCount : GoodIn wsX6_coordinate (wsV RX6 100 RX1 yX1_pointCount wsX1_pointCount) := goodIn_app (goodIn_of _ (by decide +kernel)) ggX6_coordinate_X1_pointCount
set_option maxRecDepth 20000 in
theorem ggX6_coordinate_X1_xOf : GoodIn wsX6_coordinate wsX1_xOf := goodIn_r _ [18, 19, 9, 10, 11, 12, 13, 14, 42, 43, 44, 45, 46, 47] (by decide +kernel) (by decide +kernel)
set_option maxRecDepth 20000 in
theorem gX6_coordinate_X1_xOf : GoodIn wsX6_coordinate (wsV RX6 111 RX1 yX1_xOf wsX1_xOf) := goodIn_app (goodIn_of _ (by decide +kernel)) ggX6_coordinate_X1_xOf
set_option maxRecDepth 20000 in
theorem ggX6_coordinate_X1_yOf : GoodIn wsX6_coordinate wsX1_yOf := goodIn_r _ [23, 24, 9, 10, 11, 12, 13, 14, 42, 43, 44, 45, 46, 47] (by decide +kernel) (by decide +kernel)
set_option maxRecDepth 20000 in
theorem gX6_coordinate_X1_yOf : GoodIn wsX6_coordinate (wsV RX6 115 RX1 yX1_yOf wsX1_yOf) := goodIn_app (goodIn_of _ (by decide +kernel)) ggX6_coordinate_X1_yOf
theorem dX6_coordinate_0 : decode cX6_coordinate 0 = .ok (.iload_n 2, 1) := by decide +kernel
theorem dX6_coordinate_1 : decode cX6_coordinate 1 = .ok (.iconst 2, 1) := by decide +kernel
theorem dX6_coordinate_2 : decode cX6_coordinate 2 = .ok (.idiv, 1) := by decide +kernel
theorem dX6_coordinate_3 : decode cX6_coordinate 3 = .ok (.istore_n 3, 1) := by decide +kernel
theorem dX6_coordinate_4 : decode cX6_coordinate 4 = .ok (.iload_n 3, 1) := by decide +kernel
theorem dX6_coordinate_5 : decode cX6_coordinate 5 = .ok (.aload_n 0, 1) := by decide +kernel
theorem dX6_coordinate_6 : decode cX6_coordinate 6 = .ok (.getfield 12, 3) := by decide +kernel
theorem dX6_coordinate_9 : decode cX6_coordinate 9 = .ok (.getfield 207, 3) := by decide +kernel
theorem dX6_coordinate_12 : decode cX6_coordinate 12 = .ok (.iload_n 1, 1) := by decide +kernel
theorem dX6_coordinate_13 : decode cX6_coordinate 13 = .ok (.invokevirtual 100, 3) := by decide +kernel
theorem dX6_coordinate_16 : decode cX6_coordinate 16 = .ok (.if_icmp .lt 6, 3) := by decide +kernel
theorem dX6_coordinate_19 : decode cX6_coordinate 19 = .ok (.ldc 162, 2) := by decide +kernel
theorem dX6_coordinate_21 : decode cX6_coordinate 21 = .ok (.ireturn, 1) := by decide +kernel
theorem dX6_coordinate_22 : decode cX6_coordinate 22 = .ok (.iload_n 2, 1) := by decide +kernel
theorem dX6_coordinate_23 : decode cX6_coordinate 23 = .ok (.iconst 2, 1) := by decide +kernel
theorem dX6_coordinate_24 : decode cX6_coordinate 24 = .ok (.irem, 1) := by decide +kernel
theorem dX6_coordinate_25 : decode cX6_coordinate 25 = .ok (.ifCond .ne 18, 3) := by decide +kernel
theorem dX6_coordinate_28 : decode cX6_coordinate 28 = .ok (.aload_n 0, 1) := by decide +kernel
theorem dX6_coordinate_29 : decode cX6_coordinate 29 = .ok (.getfield 12, 3) := by decide +kernel
theorem dX6_coordinate_32 : decode cX6_coordinate 32 = .ok (.getfield 207, 3) := by decide +kernel
theorem dX6_coordinate_35 : decode cX6_coordinate 35 = .ok (.iload_n 1, 1) := by decide +kernel
theorem dX6_coordinate_36 : decode cX6_coordinate 36 = .ok (.iload_n 3, 1) := by decide +kernel
theorem dX6_coordinate_37 : decode cX6_coordinate 37 = .ok (.invokevirtual 111, 3) := by decide +kernel
theorem dX6_coordinate_40 : decode cX6_coordinate 40 = .ok (.goto 15, 3) := by decide +kernel
theorem dX6_coordinate_43 : decode cX6_coordinate 43 = .ok (.aload_n 0, 1) := by decide +kernel
theorem dX6_coordinate_44 : decode cX6_coordinate 44 = .ok (.getfield 12, 3) := by decide +kernel
theorem dX6_coordinate_47 : decode cX6_coordinate 47 = .ok (.getfield 207, 3) := by decide +kernel
theorem dX6_coordinate_50 : decode cX6_coordinate 50 = .ok (.iload_n 1, 1) := by decide +kernel
theorem dX6_coordinate_51 : decode cX6_coordinate 51 = .ok (.iload_n 3, 1) := by decide +kernel
theorem dX6_coordinate_52 : decode cX6_coordinate 52 = .ok (.invokevirtual 115, 3) := by decide +kernel
theorem dX6_coordinate_55 : decode cX6_coordinate 55 = .ok (.ireturn, 1) := by decide +kernel
set_option maxRecDepth 20000 in
theorem ggX6_showSame_X0_show : GoodIn wsX6_showSame wsX0_show := goodIn_r _ [8, 9, 10, 11, 12, 13, 14, 15, 16, 17, 18, 19, 20, 21, 22, 23, 24, 25, 26, 27, 28, 29, 30, 31, 32, 33, 34, 35, 36, 37, 38, 39, 40, 41, 42, 43, 44, 45, 46, 47, 7, 48, 49, 50, 51, 52, 53, 54, 55, 56, 57, 58, 59, 60, 61, 62, 63, 64, 65, 66, 67, 68, 69, 70, 71, 72, 73, 74, 75, 76, 77, 78, 79, 80, 81, 103, 104, 105, 106, 107, 108, 109, 110, 111, 112, 113, 114, 115, 116] (by decide +kernel) (by decide +kernel)
set_option maxRecDepth 20000 in
theorem gX6_showSame_X0_show : GoodIn wsX6_showSame (wsV RX6 92 RX0 yX0_show wsX0_show) := goodIn_app (goodIn_of _ (by decide +kernel)) ggX6_showSame_X0_show
set_option maxRecDepth 20000 in
theorem ggX6_showSame_X0_matches : GoodIn wsX6_showSame wsX0_matches := goodIn_r _ [85, 11, 72, 10, 77, 29, 30, 21, 31, 23, 86, 87, 88, 7, 89, 90, 91, 92, 93, 103, 104, 105, 106, 115] (by decide +kernel) (by decide +kernel)
set_option maxRecDepth 20000 in
theorem gX6_showSame_X0_matches : GoodIn wsX6_showSame (wsV RX6 261 RX0 yX0_matches wsX0_matches) := goodIn_app (goodIn_of _ (by decide +kernel)) ggX6_showSame_X0_matches
theorem dX6_showSame_0 : decode cX6_showSame 0 = .ok (.aload_n 0, 1) := by decide +kernel
theorem dX6_showSame_1 : decode cX6_showSame 1 = .ok (.getfield 45, 3) := by decide +kernel
theorem dX6_showSame_4 : decode cX6_showSame 4 = .ok (.aload_n 0, 1) := by decide +kernel
theorem dX6_showSame_5 : decode cX6_showSame 5 = .ok (.getfield 12, 3) := by decide +kernel
theorem dX6_showSame_8 : decode cX6_showSame 8 = .ok (.aload_n 1, 1) := by decide +kernel
theorem dX6_showSame_9 : decode cX6_showSame 9 = .ok (.iload_n 2, 1) := by decide +kernel
theorem dX6_showSame_10 : decode cX6_showSame 10 = .ok (.invokevirtual 92, 3) := by decide +kernel
theorem dX6_showSame_13 : decode cX6_showSame 13 = .ok (.aload_n 0, 1) := by decide +kernel
theorem dX6_showSame_14 : decode cX6_showSame 14 = .ok (.getfield 49, 3) := by decide +kernel
theorem dX6_showSame_17 : decode cX6_showSame 17 = .ok (.aload_n 0, 1) := by decide +kernel
theorem dX6_showSame_18 : decode cX6_showSame 18 = .ok (.getfield 12, 3) := by decide +kernel
theorem dX6_showSame_21 : decode cX6_showSame 21 = .ok (.aload_n 1, 1) := by decide +kernel
theorem dX6_showSame_22 : decode cX6_showSame 22 = .ok (.iload_n 3, 1) := by decide +kernel
theorem dX6_showSame_23 : decode cX6_showSame 23 = .ok (.invokevirtual 92, 3) := by decide +kernel
theorem dX6_showSame_26 : decode cX6_showSame 26 = .ok (.aload_n 0, 1) := by decide +kernel
theorem dX6_showSame_27 : decode cX6_showSame 27 = .ok (.getfield 45, 3) := by decide +kernel
theorem dX6_showSame_30 : decode cX6_showSame 30 = .ok (.aload_n 0, 1) := by decide +kernel
theorem dX6_showSame_31 : decode cX6_showSame 31 = .ok (.getfield 49, 3) := by decide +kernel
theorem dX6_showSame_34 : decode cX6_showSame 34 = .ok (.invokevirtual 261, 3) := by decide +kernel
theorem dX6_showSame_37 : decode cX6_showSame 37 = .ok (.ireturn, 1) := by decide +kernel
set_option maxRecDepth 20000 in
theorem ggX6_lookAhead_X2_copyFrom : GoodIn wsX6_lookAhead wsX2_copyFrom := goodIn_r _ [9, 10, 11, 12, 13, 14, 15, 16, 17, 18, 19, 20, 50, 51] (by decide +kernel) (by decide +kernel)
set_option maxRecDepth 20000 in
theorem gX6_lookAhead_X2_copyFrom : GoodIn wsX6_lookAhead (wsV RX6 265 RX2 yX2_copyFrom wsX2_copyFrom) := goodIn_app (goodIn_of _ (by decide +kernel)) ggX6_lookAhead_X2_copyFrom
set_option maxRecDepth 20000 in
theorem ggX6_lookAhead_X3_countIn : GoodIn wsX6_lookAhead wsX3_countIn := goodIn_r _ [25, 26, 27, 18, 19, 14, 20, 16, 52, 53, 51] (by decide +kernel) (by decide +kernel)
set_option maxRecDepth 20000 in
theorem gX6_lookAhead_X3_countIn : GoodIn wsX6_lookAhead (wsV RX6 159 RX3 yX3_countIn wsX3_countIn) := goodIn_app (goodIn_of _ (by decide +kernel)) ggX6_lookAhead_X3_countIn
set_option maxRecDepth 20000 in
theorem ggX6_lookAhead_X3_messageIn : GoodIn wsX6_lookAhead wsX3_messageIn := goodIn_r _ [31, 32, 27, 18, 19, 14, 20, 16, 52, 53, 51] (by decide +kernel) (by decide +kernel)
set_option maxRecDepth 20000 in
theorem gX6_lookAhead_X3_messageIn : GoodIn wsX6_lookAhead (wsV RX6 163 RX3 yX3_messageIn wsX3_messageIn) := goodIn_app (goodIn_of _ (by decide +kernel)) ggX6_lookAhead_X3_messageIn
set_option maxRecDepth 20000 in
theorem ggX6_lookAhead_X2_learn : GoodIn wsX6_lookAhead wsX2_learn := goodIn_r _ [36, 10, 37, 38, 39, 14, 40, 16, 50, 51] (by decide +kernel) (by decide +kernel)
set_option maxRecDepth 20000 in
theorem gX6_lookAhead_X2_learn : GoodIn wsX6_lookAhead (wsV RX6 245 RX2 yX2_learn wsX2_learn) := goodIn_app (goodIn_of _ (by decide +kernel)) ggX6_lookAhead_X2_learn
theorem dX6_lookAhead_0 : decode cX6_lookAhead 0 = .ok (.aload_n 0, 1) := by decide +kernel
theorem dX6_lookAhead_1 : decode cX6_lookAhead 1 = .ok (.getfield 32, 3) := by decide +kernel
theorem dX6_lookAhead_4 : decode cX6_lookAhead 4 = .ok (.aload_n 0, 1) := by decide +kernel
theorem dX6_lookAhead_5 : decode cX6_lookAhead 5 = .ok (.getfield 28, 3) := by decide +kernel
theorem dX6_lookAhead_8 : decode cX6_lookAhead 8 = .ok (.invokevirtual 265, 3) := by decide +kernel
theorem dX6_lookAhead_11 : decode cX6_lookAhead 11 = .ok (.iconst 0, 1) := by decide +kernel
theorem dX6_lookAhead_12 : decode cX6_lookAhead 12 = .ok (.istore_n 1, 1) := by decide +kernel
theorem dX6_lookAhead_13 : decode cX6_lookAhead 13 = .ok (.iload_n 1, 1) := by decide +kernel
theorem dX6_lookAhead_14 : decode cX6_lookAhead 14 = .ok (.aload_n 0, 1) := by decide +kernel
theorem dX6_lookAhead_15 : decode cX6_lookAhead 15 = .ok (.getfield 59, 3) := by decide +kernel
theorem dX6_lookAhead_18 : decode cX6_lookAhead 18 = .ok (.if_icmp .ge 64, 3) := by decide +kernel
theorem dX6_lookAhead_21 : decode cX6_lookAhead 21 = .ok (.iconst 0, 1) := by decide +kernel
theorem dX6_lookAhead_22 : decode cX6_lookAhead 22 = .ok (.istore_n 2, 1) := by decide +kernel
theorem dX6_lookAhead_23 : decode cX6_lookAhead 23 = .ok (.iload_n 2, 1) := by decide +kernel
theorem dX6_lookAhead_24 : decode cX6_lookAhead 24 = .ok (.aload_n 0, 1) := by decide +kernel
theorem dX6_lookAhead_25 : decode cX6_lookAhead 25 = .ok (.getfield 59, 3) := by decide +kernel
theorem dX6_lookAhead_28 : decode cX6_lookAhead 28 = .ok (.if_icmp .ge 48, 3) := by decide +kernel
theorem dX6_lookAhead_31 : decode cX6_lookAhead 31 = .ok (.iconst 0, 1) := by decide +kernel
theorem dX6_lookAhead_32 : decode cX6_lookAhead 32 = .ok (.istore_n 3, 1) := by decide +kernel
theorem dX6_lookAhead_33 : decode cX6_lookAhead 33 = .ok (.iload_n 3, 1) := by decide +kernel
theorem dX6_lookAhead_34 : decode cX6_lookAhead 34 = .ok (.aload_n 0, 1) := by decide +kernel
theorem dX6_lookAhead_35 : decode cX6_lookAhead 35 = .ok (.getfield 38, 3) := by decide +kernel
theorem dX6_lookAhead_38 : decode cX6_lookAhead 38 = .ok (.iload_n 1, 1) := by decide +kernel
theorem dX6_lookAhead_39 : decode cX6_lookAhead 39 = .ok (.iload_n 2, 1) := by decide +kernel
theorem dX6_lookAhead_40 : decode cX6_lookAhead 40 = .ok (.invokevirtual 159, 3) := by decide +kernel
theorem dX6_lookAhead_43 : decode cX6_lookAhead 43 = .ok (.if_icmp .ge 27, 3) := by decide +kernel
theorem dX6_lookAhead_46 : decode cX6_lookAhead 46 = .ok (.aload_n 0, 1) := by decide +kernel
theorem dX6_lookAhead_47 : decode cX6_lookAhead 47 = .ok (.getfield 32, 3) := by decide +kernel
theorem dX6_lookAhead_50 : decode cX6_lookAhead 50 = .ok (.iload_n 2, 1) := by decide +kernel
theorem dX6_lookAhead_51 : decode cX6_lookAhead 51 = .ok (.aload_n 0, 1) := by decide +kernel
theorem dX6_lookAhead_52 : decode cX6_lookAhead 52 = .ok (.getfield 38, 3) := by decide +kernel
theorem dX6_lookAhead_55 : decode cX6_lookAhead 55 = .ok (.iload_n 1, 1) := by decide +kernel
theorem dX6_lookAhead_56 : decode cX6_lookAhead 56 = .ok (.iload_n 2, 1) := by decide +kernel
theorem dX6_lookAhead_57 : decode cX6_lookAhead 57 = .ok (.iload_n 3, 1) := by decide +kernel
theorem dX6_lookAhead_58 : decode cX6_lookAhead 58 = .ok (.invokevirtual 163, 3) := by decide +kernel
theorem dX6_lookAhead_61 : decode cX6_lookAhead 61 = .ok (.invokevirtual 245, 3) := by decide +kernel
theorem dX6_lookAhead_64 : decode cX6_lookAhead 64 = .ok (.iinc 3 1, 3) := by decide +kernel
theorem dX6_lookAhead_67 : decode cX6_lookAhead 67 = .ok (.goto (-34), 3) := by decide +kernel
theorem dX6_lookAhead_70 : decode cX6_lookAhead 70 = .ok (.iinc 2 1, 3) := by decide +kernel
theorem dX6_lookAhead_73 : decode cX6_lookAhead 73 = .ok (.goto (-50), 3) := by decide +kernel
theorem dX6_lookAhead_76 : decode cX6_lookAhead 76 = .ok (.iinc 1 1, 3) := by decide +kernel
theorem dX6_lookAhead_79 : decode cX6_lookAhead 79 = .ok (.goto (-66), 3) := by decide +kernel
theorem dX6_lookAhead_82 : decode cX6_lookAhead 82 = .ok (.return_, 1) := by decide +kernel
set_option maxRecDepth 20000 in
theorem ggX6_isKnownBeside_X2_has : GoodIn wsX6_isKnownBeside wsX2_has := goodIn_r _ [7, 8, 9, 10, 11, 12, 13, 14, 24, 25] (by decide +kernel) (by decide +kernel)
set_option maxRecDepth 20000 in
theorem gX6_isKnownBeside_X2_has : GoodIn wsX6_isKnownBeside (wsV RX6 181 RX2 yX2_has wsX2_has) := goodIn_app (goodIn_of _ (by decide +kernel)) ggX6_isKnownBeside_X2_has
theorem dX6_isKnownBeside_0 : decode cX6_isKnownBeside 0 = .ok (.iconst 0, 1) := by decide +kernel
theorem dX6_isKnownBeside_1 : decode cX6_isKnownBeside 1 = .ok (.istore_n 3, 1) := by decide +kernel
theorem dX6_isKnownBeside_2 : decode cX6_isKnownBeside 2 = .ok (.iload_n 3, 1) := by decide +kernel
theorem dX6_isKnownBeside_3 : decode cX6_isKnownBeside 3 = .ok (.aload_n 0, 1) := by decide +kernel
theorem dX6_isKnownBeside_4 : decode cX6_isKnownBeside 4 = .ok (.getfield 59, 3) := by decide +kernel
theorem dX6_isKnownBeside_7 : decode cX6_isKnownBeside 7 = .ok (.if_icmp .ge 28, 3) := by decide +kernel
theorem dX6_isKnownBeside_10 : decode cX6_isKnownBeside 10 = .ok (.iload_n 3, 1) := by decide +kernel
theorem dX6_isKnownBeside_11 : decode cX6_isKnownBeside 11 = .ok (.iload_n 1, 1) := by decide +kernel
theorem dX6_isKnownBeside_12 : decode cX6_isKnownBeside 12 = .ok (.if_icmp .eq 17, 3) := by decide +kernel
theorem dX6_isKnownBeside_15 : decode cX6_isKnownBeside 15 = .ok (.aload_n 0, 1) := by decide +kernel
theorem dX6_isKnownBeside_16 : decode cX6_isKnownBeside 16 = .ok (.getfield 28, 3) := by decide +kernel
theorem dX6_isKnownBeside_19 : decode cX6_isKnownBeside 19 = .ok (.iload_n 3, 1) := by decide +kernel
theorem dX6_isKnownBeside_20 : decode cX6_isKnownBeside 20 = .ok (.iload_n 2, 1) := by decide +kernel
theorem dX6_isKnownBeside_21 : decode cX6_isKnownBeside 21 = .ok (.invokevirtual 181, 3) := by decide +kernel
theorem dX6_isKnownBeside_24 : decode cX6_isKnownBeside 24 = .ok (.ifCond .eq 5, 3) := by decide +kernel
theorem dX6_isKnownBeside_27 : decode cX6_isKnownBeside 27 = .ok (.iconst 1, 1) := by decide +kernel
theorem dX6_isKnownBeside_28 : decode cX6_isKnownBeside 28 = .ok (.ireturn, 1) := by decide +kernel
theorem dX6_isKnownBeside_29 : decode cX6_isKnownBeside 29 = .ok (.iinc 3 1, 3) := by decide +kernel
theorem dX6_isKnownBeside_32 : decode cX6_isKnownBeside 32 = .ok (.goto (-30), 3) := by decide +kernel
theorem dX6_isKnownBeside_35 : decode cX6_isKnownBeside 35 = .ok (.iconst 0, 1) := by decide +kernel
theorem dX6_isKnownBeside_36 : decode cX6_isKnownBeside 36 = .ok (.ireturn, 1) := by decide +kernel
theorem dX7_init_0 : decode cX7_init 0 = .ok (.aload_n 0, 1) := by decide +kernel
theorem dX7_init_1 : decode cX7_init 1 = .ok (.invokespecial 1, 3) := by decide +kernel
theorem dX7_init_4 : decode cX7_init 4 = .ok (.aload_n 0, 1) := by decide +kernel
theorem dX7_init_5 : decode cX7_init 5 = .ok (.iconst 2, 1) := by decide +kernel
theorem dX7_init_6 : decode cX7_init 6 = .ok (.putfield 7, 3) := by decide +kernel
theorem dX7_init_9 : decode cX7_init 9 = .ok (.aload_n 0, 1) := by decide +kernel
theorem dX7_init_10 : decode cX7_init 10 = .ok (.sipush 2100, 3) := by decide +kernel
theorem dX7_init_13 : decode cX7_init 13 = .ok (.newarray .int, 2) := by decide +kernel
theorem dX7_init_15 : decode cX7_init 15 = .ok (.putfield 13, 3) := by decide +kernel
theorem dX7_init_18 : decode cX7_init 18 = .ok (.aload_n 0, 1) := by decide +kernel
theorem dX7_init_19 : decode cX7_init 19 = .ok (.iconst 5, 1) := by decide +kernel
theorem dX7_init_20 : decode cX7_init 20 = .ok (.newarray .int, 2) := by decide +kernel
theorem dX7_init_22 : decode cX7_init 22 = .ok (.putfield 17, 3) := by decide +kernel
theorem dX7_init_25 : decode cX7_init 25 = .ok (.aload_n 0, 1) := by decide +kernel
theorem dX7_init_26 : decode cX7_init 26 = .ok (.iconst 5, 1) := by decide +kernel
theorem dX7_init_27 : decode cX7_init 27 = .ok (.newarray .int, 2) := by decide +kernel
theorem dX7_init_29 : decode cX7_init 29 = .ok (.putfield 20, 3) := by decide +kernel
theorem dX7_init_32 : decode cX7_init 32 = .ok (.aload_n 0, 1) := by decide +kernel
theorem dX7_init_33 : decode cX7_init 33 = .ok (.sipush 500, 3) := by decide +kernel
theorem dX7_init_36 : decode cX7_init 36 = .ok (.newarray .int, 2) := by decide +kernel
theorem dX7_init_38 : decode cX7_init 38 = .ok (.putfield 23, 3) := by decide +kernel
theorem dX7_init_41 : decode cX7_init 41 = .ok (.aload_n 0, 1) := by decide +kernel
theorem dX7_init_42 : decode cX7_init 42 = .ok (.bipush 95, 2) := by decide +kernel
theorem dX7_init_44 : decode cX7_init 44 = .ok (.newarray .int, 2) := by decide +kernel
theorem dX7_init_46 : decode cX7_init 46 = .ok (.putfield 26, 3) := by decide +kernel
theorem dX7_init_49 : decode cX7_init 49 = .ok (.aload_n 0, 1) := by decide +kernel
theorem dX7_init_50 : decode cX7_init 50 = .ok (.sipush 250, 3) := by decide +kernel
theorem dX7_init_53 : decode cX7_init 53 = .ok (.newarray .int, 2) := by decide +kernel
theorem dX7_init_55 : decode cX7_init 55 = .ok (.putfield 29, 3) := by decide +kernel
theorem dX7_init_58 : decode cX7_init 58 = .ok (.aload_n 0, 1) := by decide +kernel
theorem dX7_init_59 : decode cX7_init 59 = .ok (.bipush 25, 2) := by decide +kernel
theorem dX7_init_61 : decode cX7_init 61 = .ok (.newarray .int, 2) := by decide +kernel
theorem dX7_init_63 : decode cX7_init 63 = .ok (.putfield 32, 3) := by decide +kernel
theorem dX7_init_66 : decode cX7_init 66 = .ok (.aload_n 0, 1) := by decide +kernel
theorem dX7_init_67 : decode cX7_init 67 = .ok (.bipush 100, 2) := by decide +kernel
theorem dX7_init_69 : decode cX7_init 69 = .ok (.newarray .int, 2) := by decide +kernel
theorem dX7_init_71 : decode cX7_init 71 = .ok (.putfield 35, 3) := by decide +kernel
theorem dX7_init_74 : decode cX7_init 74 = .ok (.aload_n 0, 1) := by decide +kernel
theorem dX7_init_75 : decode cX7_init 75 = .ok (.bipush 100, 2) := by decide +kernel
theorem dX7_init_77 : decode cX7_init 77 = .ok (.newarray .int, 2) := by decide +kernel
theorem dX7_init_79 : decode cX7_init 79 = .ok (.putfield 38, 3) := by decide +kernel
theorem dX7_init_82 : decode cX7_init 82 = .ok (.aload_n 0, 1) := by decide +kernel
theorem dX7_init_83 : decode cX7_init 83 = .ok (.bipush 100, 2) := by decide +kernel
theorem dX7_init_85 : decode cX7_init 85 = .ok (.newarray .int, 2) := by decide +kernel
theorem dX7_init_87 : decode cX7_init 87 = .ok (.putfield 41, 3) := by decide +kernel
theorem dX7_init_90 : decode cX7_init 90 = .ok (.aload_n 0, 1) := by decide +kernel
theorem dX7_init_91 : decode cX7_init 91 = .ok (.bipush 100, 2) := by decide +kernel
theorem dX7_init_93 : decode cX7_init 93 = .ok (.newarray .int, 2) := by decide +kernel
theorem dX7_init_95 : decode cX7_init 95 = .ok (.putfield 44, 3) := by decide +kernel
theorem dX7_init_98 : decode cX7_init 98 = .ok (.aload_n 0, 1) := by decide +kernel
theorem dX7_init_99 : decode cX7_init 99 = .ok (.sipush 500, 3) := by decide +kernel
theorem dX7_init_102 : decode cX7_init 102 = .ok (.newarray .int, 2) := by decide +kernel
theorem dX7_init_104 : decode cX7_init 104 = .ok (.putfield 47, 3) := by decide +kernel
theorem dX7_init_107 : decode cX7_init 107 = .ok (.aload_n 0, 1) := by decide +kernel
theorem dX7_init_108 : decode cX7_init 108 = .ok (.iconst 2, 1) := by decide +kernel
theorem dX7_init_109 : decode cX7_init 109 = .ok (.putfield 7, 3) := by decide +kernel
theorem dX7_init_112 : decode cX7_init 112 = .ok (.return_, 1) := by decide +kernel
theorem dX7_in_0 : decode cX7_in 0 = .ok (.iload_n 0, 1) := by decide +kernel
theorem dX7_in_1 : decode cX7_in 1 = .ok (.iload_n 1, 1) := by decide +kernel
theorem dX7_in_2 : decode cX7_in 2 = .ok (.if_icmp .lt 12, 3) := by decide +kernel
theorem dX7_in_5 : decode cX7_in 5 = .ok (.iload_n 0, 1) := by decide +kernel
theorem dX7_in_6 : decode cX7_in 6 = .ok (.iload_n 2, 1) := by decide +kernel
theorem dX7_in_7 : decode cX7_in 7 = .ok (.if_icmp .gt 7, 3) := by decide +kernel
theorem dX7_in_10 : decode cX7_in 10 = .ok (.iconst 1, 1) := by decide +kernel
theorem dX7_in_11 : decode cX7_in 11 = .ok (.goto 4, 3) := by decide +kernel
theorem dX7_in_14 : decode cX7_in 14 = .ok (.iconst 0, 1) := by decide +kernel
theorem dX7_in_15 : decode cX7_in 15 = .ok (.ireturn, 1) := by decide +kernel
set_option maxRecDepth 20000 in
theorem ggX7_isSite_X7_in : GoodIn wsX7_isSite wsX7_in := goodIn_r _ [5] (by decide +kernel) (by decide +kernel)
set_option maxRecDepth 20000 in
theorem gX7_isSite_X7_in : GoodIn wsX7_isSite (va_wsS RX7 50 yX7_in wsX7_in) := goodIn_app (goodIn_of _ (by decide +kernel)) ggX7_isSite_X7_in
theorem dX7_isSite_0 : decode cX7_isSite 0 = .ok (.iload_n 1, 1) := by decide +kernel
theorem dX7_isSite_1 : decode cX7_isSite 1 = .ok (.iconst 0, 1) := by decide +kernel
theorem dX7_isSite_2 : decode cX7_isSite 2 = .ok (.aload_n 0, 1) := by decide +kernel
theorem dX7_isSite_3 : decode cX7_isSite 3 = .ok (.getfield 7, 3) := by decide +kernel
theorem dX7_isSite_6 : decode cX7_isSite 6 = .ok (.iconst 1, 1) := by decide +kernel
theorem dX7_isSite_7 : decode cX7_isSite 7 = .ok (.isub, 1) := by decide +kernel
theorem dX7_isSite_8 : decode cX7_isSite 8 = .ok (.invokestatic 50, 3) := by decide +kernel
theorem dX7_isSite_11 : decode cX7_isSite 11 = .ok (.ireturn, 1) := by decide +kernel
set_option maxRecDepth 20000 in
theorem ggX7_isPair_X7_isSite : GoodIn wsX7_isPair wsX7_isSite := goodIn_r _ [5, 6, 7, 8, 4, 9, 10, 11, 12, 13, 14, 15, 16, 17, 18, 19, 20, 21, 22, 23] (by decide +kernel) (by decide +kernel)
set_option maxRecDepth 20000 in
theorem gX7_isPair_X7_isSite : GoodIn wsX7_isPair (wsV RX7 54 RX7 yX7_isSite wsX7_isSite) := goodIn_app (goodIn_of _ (by decide +kernel)) ggX7_isPair_X7_isSite
theorem dX7_isPair_0 : decode cX7_isPair 0 = .ok (.aload_n 0, 1) := by decide +kernel
theorem dX7_isPair_1 : decode cX7_isPair 1 = .ok (.iload_n 1, 1) := by decide +kernel
theorem dX7_isPair_2 : decode cX7_isPair 2 = .ok (.invokevirtual 54, 3) := by decide +kernel
theorem dX7_isPair_5 : decode cX7_isPair 5 = .ok (.ifCond .eq 20, 3) := by decide +kernel
theorem dX7_isPair_8 : decode cX7_isPair 8 = .ok (.aload_n 0, 1) := by decide +kernel
theorem dX7_isPair_9 : decode cX7_isPair 9 = .ok (.iload_n 2, 1) := by decide +kernel
theorem dX7_isPair_10 : decode cX7_isPair 10 = .ok (.invokevirtual 54, 3) := by decide +kernel
theorem dX7_isPair_13 : decode cX7_isPair 13 = .ok (.ifCond .eq 12, 3) := by decide +kernel
theorem dX7_isPair_16 : decode cX7_isPair 16 = .ok (.iload_n 1, 1) := by decide +kernel
theorem dX7_isPair_17 : decode cX7_isPair 17 = .ok (.iload_n 2, 1) := by decide +kernel
theorem dX7_isPair_18 : decode cX7_isPair 18 = .ok (.if_icmp .eq 7, 3) := by decide +kernel
theorem dX7_isPair_21 : decode cX7_isPair 21 = .ok (.iconst 1, 1) := by decide +kernel
theorem dX7_isPair_22 : decode cX7_isPair 22 = .ok (.goto 4, 3) := by decide +kernel
theorem dX7_isPair_25 : decode cX7_isPair 25 = .ok (.iconst 0, 1) := by decide +kernel
theorem dX7_isPair_26 : decode cX7_isPair 26 = .ok (.ireturn, 1) := by decide +kernel
theorem dX7_place_0 : decode cX7_place 0 = .ok (.bipush 20, 2) := by decide +kernel
theorem dX7_place_2 : decode cX7_place 2 = .ok (.iload_n 0, 1) := by decide +kernel
theorem dX7_place_3 : decode cX7_place 3 = .ok (.imul, 1) := by decide +kernel
theorem dX7_place_4 : decode cX7_place 4 = .ok (.iload_n 1, 1) := by decide +kernel
theorem dX7_place_5 : decode cX7_place 5 = .ok (.iadd, 1) := by decide +kernel
theorem dX7_place_6 : decode cX7_place 6 = .ok (.iconst 1, 1) := by decide +kernel
theorem dX7_place_7 : decode cX7_place 7 = .ok (.isub, 1) := by decide +kernel
theorem dX7_place_8 : decode cX7_place 8 = .ok (.ireturn, 1) := by decide +kernel
theorem dX7_of_0 : decode cX7_of 0 = .ok (.aload_n 0, 1) := by decide +kernel
theorem dX7_of_1 : decode cX7_of 1 = .ok (.getfield 13, 3) := by decide +kernel
theorem dX7_of_4 : decode cX7_of 4 = .ok (.bipush 21, 2) := by decide +kernel
theorem dX7_of_6 : decode cX7_of 6 = .ok (.iload_n 1, 1) := by decide +kernel
theorem dX7_of_7 : decode cX7_of 7 = .ok (.imul, 1) := by decide +kernel
theorem dX7_of_8 : decode cX7_of 8 = .ok (.iload_n 2, 1) := by decide +kernel
theorem dX7_of_9 : decode cX7_of 9 = .ok (.iadd, 1) := by decide +kernel
theorem dX7_of_10 : decode cX7_of 10 = .ok (.iaload, 1) := by decide +kernel
theorem dX7_of_11 : decode cX7_of 11 = .ok (.ireturn, 1) := by decide +kernel
theorem dX7_doesKnow_0 : decode cX7_doesKnow 0 = .ok (.aload_n 0, 1) := by decide +kernel
theorem dX7_doesKnow_1 : decode cX7_doesKnow 1 = .ok (.getfield 23, 3) := by decide +kernel
theorem dX7_doesKnow_4 : decode cX7_doesKnow 4 = .ok (.bipush 100, 2) := by decide +kernel
theorem dX7_doesKnow_6 : decode cX7_doesKnow 6 = .ok (.iload_n 1, 1) := by decide +kernel
theorem dX7_doesKnow_7 : decode cX7_doesKnow 7 = .ok (.imul, 1) := by decide +kernel
theorem dX7_doesKnow_8 : decode cX7_doesKnow 8 = .ok (.iload_n 2, 1) := by decide +kernel
theorem dX7_doesKnow_9 : decode cX7_doesKnow 9 = .ok (.iadd, 1) := by decide +kernel
theorem dX7_doesKnow_10 : decode cX7_doesKnow 10 = .ok (.iaload, 1) := by decide +kernel
theorem dX7_doesKnow_11 : decode cX7_doesKnow 11 = .ok (.iconst 1, 1) := by decide +kernel
theorem dX7_doesKnow_12 : decode cX7_doesKnow 12 = .ok (.if_icmp .ne 7, 3) := by decide +kernel
theorem dX7_doesKnow_15 : decode cX7_doesKnow 15 = .ok (.iconst 1, 1) := by decide +kernel
theorem dX7_doesKnow_16 : decode cX7_doesKnow 16 = .ok (.goto 4, 3) := by decide +kernel
theorem dX7_doesKnow_19 : decode cX7_doesKnow 19 = .ok (.iconst 0, 1) := by decide +kernel
theorem dX7_doesKnow_20 : decode cX7_doesKnow 20 = .ok (.ireturn, 1) := by decide +kernel
set_option maxRecDepth 20000 in
theorem ggX7_learns_X7_of : GoodIn wsX7_learns wsX7_of := goodIn_r _ [7, 8, 9, 10, 11, 12, 13, 14, 15, 16, 17, 18, 19, 20, 21, 22] (by decide +kernel) (by decide +kernel)
set_option maxRecDepth 20000 in
theorem gX7_learns_X7_of : GoodIn wsX7_learns (wsV RX7 58 RX7 yX7_of wsX7_of) := goodIn_app (goodIn_of _ (by decide +kernel)) ggX7_learns_X7_of
theorem dX7_learns_0 : decode cX7_learns 0 = .ok (.aload_n 0, 1) := by decide +kernel
theorem dX7_learns_1 : decode cX7_learns 1 = .ok (.getfield 23, 3) := by decide +kernel
theorem dX7_learns_4 : decode cX7_learns 4 = .ok (.bipush 100, 2) := by decide +kernel
theorem dX7_learns_6 : decode cX7_learns 6 = .ok (.iload_n 1, 1) := by decide +kernel
theorem dX7_learns_7 : decode cX7_learns 7 = .ok (.imul, 1) := by decide +kernel
theorem dX7_learns_8 : decode cX7_learns 8 = .ok (.iload_n 2, 1) := by decide +kernel
theorem dX7_learns_9 : decode cX7_learns 9 = .ok (.iadd, 1) := by decide +kernel
theorem dX7_learns_10 : decode cX7_learns 10 = .ok (.iconst 1, 1) := by decide +kernel
theorem dX7_learns_11 : decode cX7_learns 11 = .ok (.iastore, 1) := by decide +kernel
theorem dX7_learns_12 : decode cX7_learns 12 = .ok (.aload_n 0, 1) := by decide +kernel
theorem dX7_learns_13 : decode cX7_learns 13 = .ok (.getfield 20, 3) := by decide +kernel
theorem dX7_learns_16 : decode cX7_learns 16 = .ok (.iload_n 1, 1) := by decide +kernel
theorem dX7_learns_17 : decode cX7_learns 17 = .ok (.aload_n 0, 1) := by decide +kernel
theorem dX7_learns_18 : decode cX7_learns 18 = .ok (.iload_n 2, 1) := by decide +kernel
theorem dX7_learns_19 : decode cX7_learns 19 = .ok (.iconst 1, 1) := by decide +kernel
theorem dX7_learns_20 : decode cX7_learns 20 = .ok (.invokevirtual 58, 3) := by decide +kernel
theorem dX7_learns_23 : decode cX7_learns 23 = .ok (.aload_n 0, 1) := by decide +kernel
theorem dX7_learns_24 : decode cX7_learns 24 = .ok (.getfield 20, 3) := by decide +kernel
theorem dX7_learns_27 : decode cX7_learns 27 = .ok (.iload_n 1, 1) := by decide +kernel
theorem dX7_learns_28 : decode cX7_learns 28 = .ok (.iaload, 1) := by decide +kernel
theorem dX7_learns_29 : decode cX7_learns 29 = .ok (.if_icmp .le 12, 3) := by decide +kernel
theorem dX7_learns_32 : decode cX7_learns 32 = .ok (.aload_n 0, 1) := by decide +kernel
theorem dX7_learns_33 : decode cX7_learns 33 = .ok (.iload_n 2, 1) := by decide +kernel
theorem dX7_learns_34 : decode cX7_learns 34 = .ok (.iconst 1, 1) := by decide +kernel
theorem dX7_learns_35 : decode cX7_learns 35 = .ok (.invokevirtual 58, 3) := by decide +kernel
theorem dX7_learns_38 : decode cX7_learns 38 = .ok (.goto 9, 3) := by decide +kernel
theorem dX7_learns_41 : decode cX7_learns 41 = .ok (.aload_n 0, 1) := by decide +kernel
theorem dX7_learns_42 : decode cX7_learns 42 = .ok (.getfield 20, 3) := by decide +kernel
theorem dX7_learns_45 : decode cX7_learns 45 = .ok (.iload_n 1, 1) := by decide +kernel
theorem dX7_learns_46 : decode cX7_learns 46 = .ok (.iaload, 1) := by decide +kernel
theorem dX7_learns_47 : decode cX7_learns 47 = .ok (.iastore, 1) := by decide +kernel
theorem dX7_learns_48 : decode cX7_learns 48 = .ok (.return_, 1) := by decide +kernel
set_option maxRecDepth 20000 in
theorem ggX7_isAfter_X7_of : GoodIn wsX7_isAfter wsX7_of := goodIn_r _ [5, 6, 7, 8, 9, 10, 11, 12, 13, 14, 15, 16, 17, 18, 19, 20] (by decide +kernel) (by decide +kernel)
set_option maxRecDepth 20000 in
theorem gX7_isAfter_X7_of : GoodIn wsX7_isAfter (wsV RX7 58 RX7 yX7_of wsX7_of) := goodIn_app (goodIn_of _ (by decide +kernel)) ggX7_isAfter_X7_of
theorem dX7_isAfter_0 : decode cX7_isAfter 0 = .ok (.aload_n 0, 1) := by decide +kernel
theorem dX7_isAfter_1 : decode cX7_isAfter 1 = .ok (.iload_n 1, 1) := by decide +kernel
theorem dX7_isAfter_2 : decode cX7_isAfter 2 = .ok (.iconst 1, 1) := by decide +kernel
theorem dX7_isAfter_3 : decode cX7_isAfter 3 = .ok (.invokevirtual 58, 3) := by decide +kernel
theorem dX7_isAfter_6 : decode cX7_isAfter 6 = .ok (.aload_n 0, 1) := by decide +kernel
theorem dX7_isAfter_7 : decode cX7_isAfter 7 = .ok (.iload_n 2, 1) := by decide +kernel
theorem dX7_isAfter_8 : decode cX7_isAfter 8 = .ok (.iconst 1, 1) := by decide +kernel
theorem dX7_isAfter_9 : decode cX7_isAfter 9 = .ok (.invokevirtual 58, 3) := by decide +kernel
theorem dX7_isAfter_12 : decode cX7_isAfter 12 = .ok (.if_icmp .eq 26, 3) := by decide +kernel
theorem dX7_isAfter_15 : decode cX7_isAfter 15 = .ok (.aload_n 0, 1) := by decide +kernel
theorem dX7_isAfter_16 : decode cX7_isAfter 16 = .ok (.iload_n 1, 1) := by decide +kernel
theorem dX7_isAfter_17 : decode cX7_isAfter 17 = .ok (.iconst 1, 1) := by decide +kernel
theorem dX7_isAfter_18 : decode cX7_isAfter 18 = .ok (.invokevirtual 58, 3) := by decide +kernel
theorem dX7_isAfter_21 : decode cX7_isAfter 21 = .ok (.aload_n 0, 1) := by decide +kernel
theorem dX7_isAfter_22 : decode cX7_isAfter 22 = .ok (.iload_n 2, 1) := by decide +kernel
theorem dX7_isAfter_23 : decode cX7_isAfter 23 = .ok (.iconst 1, 1) := by decide +kernel
theorem dX7_isAfter_24 : decode cX7_isAfter 24 = .ok (.invokevirtual 58, 3) := by decide +kernel
theorem dX7_isAfter_27 : decode cX7_isAfter 27 = .ok (.if_icmp .le 7, 3) := by decide +kernel
theorem dX7_isAfter_30 : decode cX7_isAfter 30 = .ok (.iconst 1, 1) := by decide +kernel
theorem dX7_isAfter_31 : decode cX7_isAfter 31 = .ok (.goto 23, 3) := by decide +kernel
theorem dX7_isAfter_34 : decode cX7_isAfter 34 = .ok (.iconst 0, 1) := by decide +kernel
theorem dX7_isAfter_35 : decode cX7_isAfter 35 = .ok (.goto 19, 3) := by decide +kernel
theorem dX7_isAfter_38 : decode cX7_isAfter 38 = .ok (.iload_n 1, 1) := by decide +kernel
theorem dX7_isAfter_39 : decode cX7_isAfter 39 = .ok (.bipush 20, 2) := by decide +kernel
theorem dX7_isAfter_41 : decode cX7_isAfter 41 = .ok (.idiv, 1) := by decide +kernel
theorem dX7_isAfter_42 : decode cX7_isAfter 42 = .ok (.iload_n 2, 1) := by decide +kernel
theorem dX7_isAfter_43 : decode cX7_isAfter 43 = .ok (.bipush 20, 2) := by decide +kernel
theorem dX7_isAfter_45 : decode cX7_isAfter 45 = .ok (.idiv, 1) := by decide +kernel
theorem dX7_isAfter_46 : decode cX7_isAfter 46 = .ok (.if_icmp .le 7, 3) := by decide +kernel
theorem dX7_isAfter_49 : decode cX7_isAfter 49 = .ok (.iconst 1, 1) := by decide +kernel
theorem dX7_isAfter_50 : decode cX7_isAfter 50 = .ok (.goto 4, 3) := by decide +kernel
theorem dX7_isAfter_53 : decode cX7_isAfter 53 = .ok (.iconst 0, 1) := by decide +kernel
theorem dX7_isAfter_54 : decode cX7_isAfter 54 = .ok (.ireturn, 1) := by decide +kernel
set_option maxRecDepth 20000 in
theorem ggX7_aim_X7_of : GoodIn wsX7_aim wsX7_of := goodIn_r _ [5, 6, 10, 11, 12, 13, 14, 15, 16, 17, 18, 19, 20, 21, 22, 23] (by decide +kernel) (by decide +kernel)
set_option maxRecDepth 20000 in
theorem gX7_aim_X7_of : GoodIn wsX7_aim (wsV RX7 58 RX7 yX7_of wsX7_of) := goodIn_app (goodIn_of _ (by decide +kernel)) ggX7_aim_X7_of
set_option maxRecDepth 20000 in
theorem ggX7_aim_X7_place : GoodIn wsX7_aim wsX7_place := goodIn_r _ [9] (by decide +kernel) (by decide +kernel)
set_option maxRecDepth 20000 in
theorem gX7_aim_X7_place : GoodIn wsX7_aim (va_wsS RX7 62 yX7_place wsX7_place) := goodIn_app (goodIn_of _ (by decide +kernel)) ggX7_aim_X7_place
theorem dX7_aim_0 : decode cX7_aim 0 = .ok (.aload_n 0, 1) := by decide +kernel
theorem dX7_aim_1 : decode cX7_aim 1 = .ok (.iload_n 1, 1) := by decide +kernel
theorem dX7_aim_2 : decode cX7_aim 2 = .ok (.iconst 0, 1) := by decide +kernel
theorem dX7_aim_3 : decode cX7_aim 3 = .ok (.invokevirtual 58, 3) := by decide +kernel
theorem dX7_aim_6 : decode cX7_aim 6 = .ok (.iconst 3, 1) := by decide +kernel
theorem dX7_aim_7 : decode cX7_aim 7 = .ok (.if_icmp .ne 12, 3) := by decide +kernel
theorem dX7_aim_10 : decode cX7_aim 10 = .ok (.aload_n 0, 1) := by decide +kernel
theorem dX7_aim_11 : decode cX7_aim 11 = .ok (.iload_n 1, 1) := by decide +kernel
theorem dX7_aim_12 : decode cX7_aim 12 = .ok (.iconst 2, 1) := by decide +kernel
theorem dX7_aim_13 : decode cX7_aim 13 = .ok (.invokevirtual 58, 3) := by decide +kernel
theorem dX7_aim_16 : decode cX7_aim 16 = .ok (.goto 7, 3) := by decide +kernel
theorem dX7_aim_19 : decode cX7_aim 19 = .ok (.iload_n 1, 1) := by decide +kernel
theorem dX7_aim_20 : decode cX7_aim 20 = .ok (.bipush 20, 2) := by decide +kernel
theorem dX7_aim_22 : decode cX7_aim 22 = .ok (.idiv, 1) := by decide +kernel
theorem dX7_aim_23 : decode cX7_aim 23 = .ok (.aload_n 0, 1) := by decide +kernel
theorem dX7_aim_24 : decode cX7_aim 24 = .ok (.iload_n 1, 1) := by decide +kernel
theorem dX7_aim_25 : decode cX7_aim 25 = .ok (.iconst 4, 1) := by decide +kernel
theorem dX7_aim_26 : decode cX7_aim 26 = .ok (.invokevirtual 58, 3) := by decide +kernel
theorem dX7_aim_29 : decode cX7_aim 29 = .ok (.invokestatic 62, 3) := by decide +kernel
theorem dX7_aim_32 : decode cX7_aim 32 = .ok (.ireturn, 1) := by decide +kernel
set_option maxRecDepth 20000 in
theorem ggX7_last_X7_doesKnow : GoodIn wsX7_last wsX7_doesKnow := goodIn_r _ [5, 6, 26, 27, 28, 29, 30, 31, 32, 33, 34, 35, 36, 37, 38, 39] (by decide +kernel) (by decide +kernel)
set_option maxRecDepth 20000 in
theorem gX7_last_X7_doesKnow : GoodIn wsX7_last (wsV RX7 65 RX7 yX7_doesKnow wsX7_doesKnow) := goodIn_app (goodIn_of _ (by decide +kernel)) ggX7_last_X7_doesKnow
set_option maxRecDepth 20000 in
theorem ggX7_last_X7_of : GoodIn wsX7_last wsX7_of := goodIn_r _ [10, 11, 26, 27, 28, 29, 30, 31, 32, 33, 34, 35, 36, 37, 38, 39] (by decide +kernel) (by decide +kernel)
set_option maxRecDepth 20000 in
theorem gX7_last_X7_of : GoodIn wsX7_last (wsV RX7 58 RX7 yX7_of wsX7_of) := goodIn_app (goodIn_of _ (by decide +kernel)) ggX7_last_X7_of
set_option maxRecDepth 20000 in
theorem ggX7_last_X7_in : GoodIn wsX7_last wsX7_in := goodIn_r _ [14] (by decide +kernel) (by decide +kernel)
set_option maxRecDepth 20000 in
theorem gX7_last_X7_in : GoodIn wsX7_last (va_wsS RX7 50 yX7_in wsX7_in) := goodIn_app (goodIn_of _ (by decide +kernel)) ggX7_last_X7_in
set_option maxRecDepth 20000 in
theorem ggX7_last_X7_aim : GoodIn wsX7_last wsX7_aim := goodIn_r _ [18, 7, 8, 9, 4, 10, 11, 19, 20, 21, 26, 27, 28, 29, 30, 31, 32, 33, 34, 35, 36, 37, 38, 39] (by decide +kernel) (by decide +kernel)
set_option maxRecDepth 20000 in
theorem gX7_last_X7_aim : GoodIn wsX7_last (wsV RX7 69 RX7 yX7_aim wsX7_aim) := goodIn_app (goodIn_of _ (by decide +kernel)) ggX7_last_X7_aim
set_option maxRecDepth 20000 in
theorem ggX7_last_X7_isAfter : GoodIn wsX7_last wsX7_isAfter := goodIn_r _ [25, 7, 8, 9, 4, 10, 11, 26, 27, 28, 29, 30, 31, 32, 33, 34, 35, 36, 37, 38, 39] (by decide +kernel) (by decide +kernel)
set_option maxRecDepth 20000 in
theorem gX7_last_X7_isAfter : GoodIn wsX7_last (wsV RX7 73 RX7 yX7_isAfter wsX7_isAfter) := goodIn_app (goodIn_of _ (by decide +kernel)) ggX7_last_X7_isAfter
theorem dX7_last_0 : decode cX7_last 0 = .ok (.iconst (-1), 1) := by decide +kernel
theorem dX7_last_1 : decode cX7_last 1 = .ok (.istore 5, 2) := by decide +kernel
theorem dX7_last_3 : decode cX7_last 3 = .ok (.iconst 0, 1) := by decide +kernel
theorem dX7_last_4 : decode cX7_last 4 = .ok (.istore 6, 2) := by decide +kernel
theorem dX7_last_6 : decode cX7_last 6 = .ok (.iload 6, 2) := by decide +kernel
theorem dX7_last_8 : decode cX7_last 8 = .ok (.bipush 100, 2) := by decide +kernel
theorem dX7_last_10 : decode cX7_last 10 = .ok (.if_icmp .ge 83, 3) := by decide +kernel
theorem dX7_last_13 : decode cX7_last 13 = .ok (.aload_n 0, 1) := by decide +kernel
theorem dX7_last_14 : decode cX7_last 14 = .ok (.iload_n 1, 1) := by decide +kernel
theorem dX7_last_15 : decode cX7_last 15 = .ok (.iload 6, 2) := by decide +kernel
theorem dX7_last_17 : decode cX7_last 17 = .ok (.invokevirtual 65, 3) := by decide +kernel
theorem dX7_last_20 : decode cX7_last 20 = .ok (.ifCond .eq 33, 3) := by decide +kernel
theorem dX7_last_23 : decode cX7_last 23 = .ok (.aload_n 0, 1) := by decide +kernel
theorem dX7_last_24 : decode cX7_last 24 = .ok (.iload 6, 2) := by decide +kernel
theorem dX7_last_26 : decode cX7_last 26 = .ok (.iconst 0, 1) := by decide +kernel
theorem dX7_last_27 : decode cX7_last 27 = .ok (.invokevirtual 58, 3) := by decide +kernel
theorem dX7_last_30 : decode cX7_last 30 = .ok (.iload_n 3, 1) := by decide +kernel
theorem dX7_last_31 : decode cX7_last 31 = .ok (.iload 4, 2) := by decide +kernel
theorem dX7_last_33 : decode cX7_last 33 = .ok (.invokestatic 50, 3) := by decide +kernel
theorem dX7_last_36 : decode cX7_last 36 = .ok (.ifCond .eq 17, 3) := by decide +kernel
theorem dX7_last_39 : decode cX7_last 39 = .ok (.aload_n 0, 1) := by decide +kernel
theorem dX7_last_40 : decode cX7_last 40 = .ok (.iload 6, 2) := by decide +kernel
theorem dX7_last_42 : decode cX7_last 42 = .ok (.invokevirtual 69, 3) := by decide +kernel
theorem dX7_last_45 : decode cX7_last 45 = .ok (.iload_n 2, 1) := by decide +kernel
theorem dX7_last_46 : decode cX7_last 46 = .ok (.if_icmp .ne 7, 3) := by decide +kernel
theorem dX7_last_49 : decode cX7_last 49 = .ok (.iconst 1, 1) := by decide +kernel
theorem dX7_last_50 : decode cX7_last 50 = .ok (.goto 4, 3) := by decide +kernel
theorem dX7_last_53 : decode cX7_last 53 = .ok (.iconst 0, 1) := by decide +kernel
theorem dX7_last_54 : decode cX7_last 54 = .ok (.istore 7, 2) := by decide +kernel
theorem dX7_last_56 : decode cX7_last 56 = .ok (.iload 7, 2) := by decide +kernel
theorem dX7_last_58 : decode cX7_last 58 = .ok (.ifCond .eq 25, 3) := by decide +kernel
theorem dX7_last_61 : decode cX7_last 61 = .ok (.iload 5, 2) := by decide +kernel
theorem dX7_last_63 : decode cX7_last 63 = .ok (.iconst (-1), 1) := by decide +kernel
theorem dX7_last_64 : decode cX7_last 64 = .ok (.if_icmp .eq 14, 3) := by decide +kernel
theorem dX7_last_67 : decode cX7_last 67 = .ok (.aload_n 0, 1) := by decide +kernel
theorem dX7_last_68 : decode cX7_last 68 = .ok (.iload 6, 2) := by decide +kernel
theorem dX7_last_70 : decode cX7_last 70 = .ok (.iload 5, 2) := by decide +kernel
theorem dX7_last_72 : decode cX7_last 72 = .ok (.invokevirtual 73, 3) := by decide +kernel
theorem dX7_last_75 : decode cX7_last 75 = .ok (.ifCond .eq 8, 3) := by decide +kernel
theorem dX7_last_78 : decode cX7_last 78 = .ok (.iload 6, 2) := by decide +kernel
theorem dX7_last_80 : decode cX7_last 80 = .ok (.goto 5, 3) := by decide +kernel
theorem dX7_last_83 : decode cX7_last 83 = .ok (.iload 5, 2) := by decide +kernel
theorem dX7_last_85 : decode cX7_last 85 = .ok (.istore 5, 2) := by decide +kernel
theorem dX7_last_87 : decode cX7_last 87 = .ok (.iinc 6 1, 3) := by decide +kernel
theorem dX7_last_90 : decode cX7_last 90 = .ok (.goto (-84), 3) := by decide +kernel
theorem dX7_last_93 : decode cX7_last 93 = .ok (.iload 5, 2) := by decide +kernel
theorem dX7_last_95 : decode cX7_last 95 = .ok (.ireturn, 1) := by decide +kernel
set_option maxRecDepth 20000 in
theorem ggX7_isVisible_X7_doesKnow : GoodIn wsX7_isVisible wsX7_doesKnow := goodIn_r _ [5, 6, 30, 31, 32, 33, 34, 35, 36, 37, 38, 39, 40, 41, 42, 43] (by decide +kernel) (by decide +kernel)
set_option maxRecDepth 20000 in
theorem gX7_isVisible_X7_doesKnow : GoodIn wsX7_isVisible (wsV RX7 65 RX7 yX7_doesKnow wsX7_doesKnow) := goodIn_app (goodIn_of _ (by decide +kernel)) ggX7_isVisible_X7_doesKnow
set_option maxRecDepth 20000 in
theorem ggX7_isVisible_X7_of : GoodIn wsX7_isVisible wsX7_of := goodIn_r _ [10, 11, 30, 31, 32, 33, 34, 35, 36, 37, 38, 39, 40, 41, 42, 43] (by decide +kernel) (by decide +kernel)
end
section
set_option maxRecDepth 20000 in
theorem gX7_isVisible_X7_of : GoodIn wsX7_isVisible (wsV RX7 58 RX7 yX7_of wsX7_of) := goodIn_app (goodIn_of _ (by decide +kernel)) ggX7_isVisible_X7_of
set_option maxRecDepth 20000 in
theorem ggX7_isVisible_X7_last : GoodIn wsX7_isVisible wsX7_last := goodIn_r _ [15, 1, 2, 3, 4, 5, 6, 7, 8, 9, 10, 11, 16, 17, 18, 19, 20, 21, 22, 23, 24, 25, 26, 27, 28, 29, 30, 31, 32, 33, 34, 35, 36, 37, 38, 39, 40, 41, 42, 43] (by decide +kernel) (by decide +kernel)
set_option maxRecDepth 20000 in
theorem gX7_isVisible_X7_last : GoodIn wsX7_isVisible (wsV RX7 76 RX7 yX7_last wsX7_last) := goodIn_app (goodIn_of _ (by decide +kernel)) ggX7_isVisible_X7_last
theorem dX7_isVisible_0 : decode cX7_isVisible 0 = .ok (.aload_n 0, 1) := by decide +kernel
theorem dX7_isVisible_1 : decode cX7_isVisible 1 = .ok (.iload_n 1, 1) := by decide +kernel
theorem dX7_isVisible_2 : decode cX7_isVisible 2 = .ok (.iload_n 2, 1) := by decide +kernel
theorem dX7_isVisible_3 : decode cX7_isVisible 3 = .ok (.invokevirtual 65, 3) := by decide +kernel
theorem dX7_isVisible_6 : decode cX7_isVisible 6 = .ok (.ifCond .eq 12, 3) := by decide +kernel
theorem dX7_isVisible_9 : decode cX7_isVisible 9 = .ok (.aload_n 0, 1) := by decide +kernel
theorem dX7_isVisible_10 : decode cX7_isVisible 10 = .ok (.iload_n 2, 1) := by decide +kernel
theorem dX7_isVisible_11 : decode cX7_isVisible 11 = .ok (.iconst 0, 1) := by decide +kernel
theorem dX7_isVisible_12 : decode cX7_isVisible 12 = .ok (.invokevirtual 58, 3) := by decide +kernel
theorem dX7_isVisible_15 : decode cX7_isVisible 15 = .ok (.ifCond .eq 5, 3) := by decide +kernel
theorem dX7_isVisible_18 : decode cX7_isVisible 18 = .ok (.iconst 0, 1) := by decide +kernel
theorem dX7_isVisible_19 : decode cX7_isVisible 19 = .ok (.ireturn, 1) := by decide +kernel
theorem dX7_isVisible_20 : decode cX7_isVisible 20 = .ok (.aload_n 0, 1) := by decide +kernel
theorem dX7_isVisible_21 : decode cX7_isVisible 21 = .ok (.iload_n 1, 1) := by decide +kernel
theorem dX7_isVisible_22 : decode cX7_isVisible 22 = .ok (.iload_n 2, 1) := by decide +kernel
theorem dX7_isVisible_23 : decode cX7_isVisible 23 = .ok (.iconst 1, 1) := by decide +kernel
theorem dX7_isVisible_24 : decode cX7_isVisible 24 = .ok (.iconst 2, 1) := by decide +kernel
theorem dX7_isVisible_25 : decode cX7_isVisible 25 = .ok (.invokevirtual 76, 3) := by decide +kernel
theorem dX7_isVisible_28 : decode cX7_isVisible 28 = .ok (.istore_n 3, 1) := by decide +kernel
theorem dX7_isVisible_29 : decode cX7_isVisible 29 = .ok (.iload_n 3, 1) := by decide +kernel
theorem dX7_isVisible_30 : decode cX7_isVisible 30 = .ok (.iconst (-1), 1) := by decide +kernel
theorem dX7_isVisible_31 : decode cX7_isVisible 31 = .ok (.if_icmp .eq 13, 3) := by decide +kernel
theorem dX7_isVisible_34 : decode cX7_isVisible 34 = .ok (.aload_n 0, 1) := by decide +kernel
theorem dX7_isVisible_35 : decode cX7_isVisible 35 = .ok (.iload_n 3, 1) := by decide +kernel
theorem dX7_isVisible_36 : decode cX7_isVisible 36 = .ok (.iconst 0, 1) := by decide +kernel
theorem dX7_isVisible_37 : decode cX7_isVisible 37 = .ok (.invokevirtual 58, 3) := by decide +kernel
theorem dX7_isVisible_40 : decode cX7_isVisible 40 = .ok (.iconst 2, 1) := by decide +kernel
theorem dX7_isVisible_41 : decode cX7_isVisible 41 = .ok (.if_icmp .ne 7, 3) := by decide +kernel
theorem dX7_isVisible_44 : decode cX7_isVisible 44 = .ok (.iconst 1, 1) := by decide +kernel
theorem dX7_isVisible_45 : decode cX7_isVisible 45 = .ok (.goto 4, 3) := by decide +kernel
theorem dX7_isVisible_48 : decode cX7_isVisible 48 = .ok (.iconst 0, 1) := by decide +kernel
theorem dX7_isVisible_49 : decode cX7_isVisible 49 = .ok (.ireturn, 1) := by decide +kernel
set_option maxRecDepth 20000 in
theorem ggX7_layerFor_X7_last : GoodIn wsX7_layerFor wsX7_last := goodIn_r _ [5, 6, 7, 8, 4, 9, 10, 11, 12, 13, 14, 15, 16, 17, 18, 19, 20, 21, 22, 23, 24, 25, 26, 27, 28, 29, 30, 31, 32, 33, 34, 35, 36, 37, 38, 39, 40, 41, 42, 43] (by decide +kernel) (by decide +kernel)
set_option maxRecDepth 20000 in
theorem gX7_layerFor_X7_last : GoodIn wsX7_layerFor (wsV RX7 76 RX7 yX7_last wsX7_last) := goodIn_app (goodIn_of _ (by decide +kernel)) ggX7_layerFor_X7_last
set_option maxRecDepth 20000 in
theorem ggX7_layerFor_X7_of : GoodIn wsX7_layerFor wsX7_of := goodIn_r _ [14, 15, 30, 31, 32, 33, 34, 35, 36, 37, 38, 39, 40, 41, 42, 43] (by decide +kernel) (by decide +kernel)
set_option maxRecDepth 20000 in
theorem gX7_layerFor_X7_of : GoodIn wsX7_layerFor (wsV RX7 58 RX7 yX7_of wsX7_of) := goodIn_app (goodIn_of _ (by decide +kernel)) ggX7_layerFor_X7_of
theorem dX7_layerFor_0 : decode cX7_layerFor 0 = .ok (.aload_n 0, 1) := by decide +kernel
theorem dX7_layerFor_1 : decode cX7_layerFor 1 = .ok (.iload_n 1, 1) := by decide +kernel
theorem dX7_layerFor_2 : decode cX7_layerFor 2 = .ok (.iload_n 2, 1) := by decide +kernel
theorem dX7_layerFor_3 : decode cX7_layerFor 3 = .ok (.iconst 3, 1) := by decide +kernel
theorem dX7_layerFor_4 : decode cX7_layerFor 4 = .ok (.iconst 3, 1) := by decide +kernel
theorem dX7_layerFor_5 : decode cX7_layerFor 5 = .ok (.invokevirtual 76, 3) := by decide +kernel
theorem dX7_layerFor_8 : decode cX7_layerFor 8 = .ok (.istore_n 3, 1) := by decide +kernel
theorem dX7_layerFor_9 : decode cX7_layerFor 9 = .ok (.aload_n 0, 1) := by decide +kernel
theorem dX7_layerFor_10 : decode cX7_layerFor 10 = .ok (.iload_n 3, 1) := by decide +kernel
theorem dX7_layerFor_11 : decode cX7_layerFor 11 = .ok (.iconst (-1), 1) := by decide +kernel
theorem dX7_layerFor_12 : decode cX7_layerFor 12 = .ok (.if_icmp .ne 7, 3) := by decide +kernel
theorem dX7_layerFor_15 : decode cX7_layerFor 15 = .ok (.iload_n 2, 1) := by decide +kernel
theorem dX7_layerFor_16 : decode cX7_layerFor 16 = .ok (.goto 4, 3) := by decide +kernel
theorem dX7_layerFor_19 : decode cX7_layerFor 19 = .ok (.iload_n 3, 1) := by decide +kernel
theorem dX7_layerFor_20 : decode cX7_layerFor 20 = .ok (.iconst 3, 1) := by decide +kernel
theorem dX7_layerFor_21 : decode cX7_layerFor 21 = .ok (.invokevirtual 58, 3) := by decide +kernel
theorem dX7_layerFor_24 : decode cX7_layerFor 24 = .ok (.ireturn, 1) := by decide +kernel
set_option maxRecDepth 20000 in
theorem ggX7_workOut_X7_isVisible : GoodIn wsX7_workOut wsX7_isVisible := goodIn_r _ [8, 9, 10, 11, 7, 12, 13, 14, 15, 16, 17, 18, 19, 20, 21, 22, 23, 24, 25, 26, 27, 28, 29, 30, 31, 32, 33, 34, 35, 36, 41, 42, 43, 44, 45, 46, 47, 48, 49, 50, 51, 52, 53, 54] (by decide +kernel) (by decide +kernel)
set_option maxRecDepth 20000 in
theorem gX7_workOut_X7_isVisible : GoodIn wsX7_workOut (wsV RX7 83 RX7 yX7_isVisible wsX7_isVisible) := goodIn_app (goodIn_of _ (by decide +kernel)) ggX7_workOut_X7_isVisible
set_option maxRecDepth 20000 in
theorem ggX7_workOut_X7_layerFor : GoodIn wsX7_workOut wsX7_layerFor := goodIn_r _ [40, 19, 20, 21, 7, 22, 9, 10, 11, 12, 13, 14, 15, 16, 17, 18, 23, 24, 25, 26, 27, 28, 29, 30, 31, 32, 33, 34, 35, 36, 41, 42, 43, 44, 45, 46, 47, 48, 49, 50, 51, 52, 53, 54] (by decide +kernel) (by decide +kernel)
set_option maxRecDepth 20000 in
theorem gX7_workOut_X7_layerFor : GoodIn wsX7_workOut (wsV RX7 86 RX7 yX7_layerFor wsX7_layerFor) := goodIn_app (goodIn_of _ (by decide +kernel)) ggX7_workOut_X7_layerFor
set_option maxRecDepth 20000 in
theorem ggX7_workOut_X7_isAfter : GoodIn wsX7_workOut wsX7_isAfter := goodIn_r _ [36, 14, 15, 16, 7, 17, 18, 41, 42, 43, 44, 45, 46, 47, 48, 49, 50, 51, 52, 53, 54] (by decide +kernel) (by decide +kernel)
set_option maxRecDepth 20000 in
theorem gX7_workOut_X7_isAfter : GoodIn wsX7_workOut (wsV RX7 73 RX7 yX7_isAfter wsX7_isAfter) := goodIn_app (goodIn_of _ (by decide +kernel)) ggX7_workOut_X7_isAfter
theorem dX7_workOut_0 : decode cX7_workOut 0 = .ok (.aload_n 0, 1) := by decide +kernel
theorem dX7_workOut_1 : decode cX7_workOut 1 = .ok (.iconst 0, 1) := by decide +kernel
theorem dX7_workOut_2 : decode cX7_workOut 2 = .ok (.putfield 80, 3) := by decide +kernel
theorem dX7_workOut_5 : decode cX7_workOut 5 = .ok (.iconst 0, 1) := by decide +kernel
theorem dX7_workOut_6 : decode cX7_workOut 6 = .ok (.istore_n 2, 1) := by decide +kernel
theorem dX7_workOut_7 : decode cX7_workOut 7 = .ok (.iload_n 2, 1) := by decide +kernel
theorem dX7_workOut_8 : decode cX7_workOut 8 = .ok (.bipush 100, 2) := by decide +kernel
theorem dX7_workOut_10 : decode cX7_workOut 10 = .ok (.if_icmp .ge 143, 3) := by decide +kernel
theorem dX7_workOut_13 : decode cX7_workOut 13 = .ok (.aload_n 0, 1) := by decide +kernel
theorem dX7_workOut_14 : decode cX7_workOut 14 = .ok (.iload_n 1, 1) := by decide +kernel
theorem dX7_workOut_15 : decode cX7_workOut 15 = .ok (.iload_n 2, 1) := by decide +kernel
theorem dX7_workOut_16 : decode cX7_workOut 16 = .ok (.invokevirtual 83, 3) := by decide +kernel
theorem dX7_workOut_19 : decode cX7_workOut 19 = .ok (.ifCond .eq 128, 3) := by decide +kernel
theorem dX7_workOut_22 : decode cX7_workOut 22 = .ok (.aload_n 0, 1) := by decide +kernel
theorem dX7_workOut_23 : decode cX7_workOut 23 = .ok (.iload_n 1, 1) := by decide +kernel
theorem dX7_workOut_24 : decode cX7_workOut 24 = .ok (.iload_n 2, 1) := by decide +kernel
theorem dX7_workOut_25 : decode cX7_workOut 25 = .ok (.invokevirtual 86, 3) := by decide +kernel
theorem dX7_workOut_28 : decode cX7_workOut 28 = .ok (.istore_n 3, 1) := by decide +kernel
theorem dX7_workOut_29 : decode cX7_workOut 29 = .ok (.aload_n 0, 1) := by decide +kernel
theorem dX7_workOut_30 : decode cX7_workOut 30 = .ok (.getfield 80, 3) := by decide +kernel
theorem dX7_workOut_33 : decode cX7_workOut 33 = .ok (.istore 4, 2) := by decide +kernel
theorem dX7_workOut_35 : decode cX7_workOut 35 = .ok (.iload 4, 2) := by decide +kernel
theorem dX7_workOut_37 : decode cX7_workOut 37 = .ok (.ifCond .le 84, 3) := by decide +kernel
theorem dX7_workOut_40 : decode cX7_workOut 40 = .ok (.aload_n 0, 1) := by decide +kernel
theorem dX7_workOut_41 : decode cX7_workOut 41 = .ok (.getfield 38, 3) := by decide +kernel
theorem dX7_workOut_44 : decode cX7_workOut 44 = .ok (.iload 4, 2) := by decide +kernel
theorem dX7_workOut_46 : decode cX7_workOut 46 = .ok (.iconst 1, 1) := by decide +kernel
theorem dX7_workOut_47 : decode cX7_workOut 47 = .ok (.isub, 1) := by decide +kernel
theorem dX7_workOut_48 : decode cX7_workOut 48 = .ok (.iaload, 1) := by decide +kernel
theorem dX7_workOut_49 : decode cX7_workOut 49 = .ok (.iload_n 3, 1) := by decide +kernel
theorem dX7_workOut_50 : decode cX7_workOut 50 = .ok (.if_icmp .gt 33, 3) := by decide +kernel
theorem dX7_workOut_53 : decode cX7_workOut 53 = .ok (.aload_n 0, 1) := by decide +kernel
theorem dX7_workOut_54 : decode cX7_workOut 54 = .ok (.getfield 38, 3) := by decide +kernel
theorem dX7_workOut_57 : decode cX7_workOut 57 = .ok (.iload 4, 2) := by decide +kernel
theorem dX7_workOut_59 : decode cX7_workOut 59 = .ok (.iconst 1, 1) := by decide +kernel
theorem dX7_workOut_60 : decode cX7_workOut 60 = .ok (.isub, 1) := by decide +kernel
theorem dX7_workOut_61 : decode cX7_workOut 61 = .ok (.iaload, 1) := by decide +kernel
theorem dX7_workOut_62 : decode cX7_workOut 62 = .ok (.iload_n 3, 1) := by decide +kernel
theorem dX7_workOut_63 : decode cX7_workOut 63 = .ok (.if_icmp .ne 58, 3) := by decide +kernel
theorem dX7_workOut_66 : decode cX7_workOut 66 = .ok (.aload_n 0, 1) := by decide +kernel
theorem dX7_workOut_67 : decode cX7_workOut 67 = .ok (.aload_n 0, 1) := by decide +kernel
theorem dX7_workOut_68 : decode cX7_workOut 68 = .ok (.getfield 35, 3) := by decide +kernel
theorem dX7_workOut_71 : decode cX7_workOut 71 = .ok (.iload 4, 2) := by decide +kernel
theorem dX7_workOut_73 : decode cX7_workOut 73 = .ok (.iconst 1, 1) := by decide +kernel
theorem dX7_workOut_74 : decode cX7_workOut 74 = .ok (.isub, 1) := by decide +kernel
theorem dX7_workOut_75 : decode cX7_workOut 75 = .ok (.iaload, 1) := by decide +kernel
theorem dX7_workOut_76 : decode cX7_workOut 76 = .ok (.iload_n 2, 1) := by decide +kernel
theorem dX7_workOut_77 : decode cX7_workOut 77 = .ok (.invokevirtual 73, 3) := by decide +kernel
theorem dX7_workOut_80 : decode cX7_workOut 80 = .ok (.ifCond .eq 41, 3) := by decide +kernel
theorem dX7_workOut_83 : decode cX7_workOut 83 = .ok (.aload_n 0, 1) := by decide +kernel
theorem dX7_workOut_84 : decode cX7_workOut 84 = .ok (.getfield 35, 3) := by decide +kernel
theorem dX7_workOut_87 : decode cX7_workOut 87 = .ok (.iload 4, 2) := by decide +kernel
theorem dX7_workOut_89 : decode cX7_workOut 89 = .ok (.aload_n 0, 1) := by decide +kernel
theorem dX7_workOut_90 : decode cX7_workOut 90 = .ok (.getfield 35, 3) := by decide +kernel
theorem dX7_workOut_93 : decode cX7_workOut 93 = .ok (.iload 4, 2) := by decide +kernel
theorem dX7_workOut_95 : decode cX7_workOut 95 = .ok (.iconst 1, 1) := by decide +kernel
theorem dX7_workOut_96 : decode cX7_workOut 96 = .ok (.isub, 1) := by decide +kernel
theorem dX7_workOut_97 : decode cX7_workOut 97 = .ok (.iaload, 1) := by decide +kernel
theorem dX7_workOut_98 : decode cX7_workOut 98 = .ok (.iastore, 1) := by decide +kernel
theorem dX7_workOut_99 : decode cX7_workOut 99 = .ok (.aload_n 0, 1) := by decide +kernel
theorem dX7_workOut_100 : decode cX7_workOut 100 = .ok (.getfield 38, 3) := by decide +kernel
theorem dX7_workOut_103 : decode cX7_workOut 103 = .ok (.iload 4, 2) := by decide +kernel
theorem dX7_workOut_105 : decode cX7_workOut 105 = .ok (.aload_n 0, 1) := by decide +kernel
theorem dX7_workOut_106 : decode cX7_workOut 106 = .ok (.getfield 38, 3) := by decide +kernel
theorem dX7_workOut_109 : decode cX7_workOut 109 = .ok (.iload 4, 2) := by decide +kernel
theorem dX7_workOut_111 : decode cX7_workOut 111 = .ok (.iconst 1, 1) := by decide +kernel
theorem dX7_workOut_112 : decode cX7_workOut 112 = .ok (.isub, 1) := by decide +kernel
theorem dX7_workOut_113 : decode cX7_workOut 113 = .ok (.iaload, 1) := by decide +kernel
theorem dX7_workOut_114 : decode cX7_workOut 114 = .ok (.iastore, 1) := by decide +kernel
theorem dX7_workOut_115 : decode cX7_workOut 115 = .ok (.iinc 4 (-1), 3) := by decide +kernel
theorem dX7_workOut_118 : decode cX7_workOut 118 = .ok (.goto (-83), 3) := by decide +kernel
theorem dX7_workOut_121 : decode cX7_workOut 121 = .ok (.aload_n 0, 1) := by decide +kernel
theorem dX7_workOut_122 : decode cX7_workOut 122 = .ok (.getfield 35, 3) := by decide +kernel
theorem dX7_workOut_125 : decode cX7_workOut 125 = .ok (.iload 4, 2) := by decide +kernel
theorem dX7_workOut_127 : decode cX7_workOut 127 = .ok (.iload_n 2, 1) := by decide +kernel
theorem dX7_workOut_128 : decode cX7_workOut 128 = .ok (.iastore, 1) := by decide +kernel
theorem dX7_workOut_129 : decode cX7_workOut 129 = .ok (.aload_n 0, 1) := by decide +kernel
theorem dX7_workOut_130 : decode cX7_workOut 130 = .ok (.getfield 38, 3) := by decide +kernel
theorem dX7_workOut_133 : decode cX7_workOut 133 = .ok (.iload 4, 2) := by decide +kernel
theorem dX7_workOut_135 : decode cX7_workOut 135 = .ok (.iload_n 3, 1) := by decide +kernel
theorem dX7_workOut_136 : decode cX7_workOut 136 = .ok (.iastore, 1) := by decide +kernel
theorem dX7_workOut_137 : decode cX7_workOut 137 = .ok (.aload_n 0, 1) := by decide +kernel
theorem dX7_workOut_138 : decode cX7_workOut 138 = .ok (.dup, 1) := by decide +kernel
theorem dX7_workOut_139 : decode cX7_workOut 139 = .ok (.getfield 80, 3) := by decide +kernel
theorem dX7_workOut_142 : decode cX7_workOut 142 = .ok (.iconst 1, 1) := by decide +kernel
theorem dX7_workOut_143 : decode cX7_workOut 143 = .ok (.iadd, 1) := by decide +kernel
theorem dX7_workOut_144 : decode cX7_workOut 144 = .ok (.putfield 80, 3) := by decide +kernel
theorem dX7_workOut_147 : decode cX7_workOut 147 = .ok (.iinc 2 1, 3) := by decide +kernel
theorem dX7_workOut_150 : decode cX7_workOut 150 = .ok (.goto (-143), 3) := by decide +kernel
theorem dX7_workOut_153 : decode cX7_workOut 153 = .ok (.return_, 1) := by decide +kernel
theorem dX7_clearSite_0 : decode cX7_clearSite 0 = .ok (.aload_n 0, 1) := by decide +kernel
theorem dX7_clearSite_1 : decode cX7_clearSite 1 = .ok (.getfield 17, 3) := by decide +kernel
theorem dX7_clearSite_4 : decode cX7_clearSite 4 = .ok (.iload_n 1, 1) := by decide +kernel
theorem dX7_clearSite_5 : decode cX7_clearSite 5 = .ok (.iconst 0, 1) := by decide +kernel
theorem dX7_clearSite_6 : decode cX7_clearSite 6 = .ok (.iastore, 1) := by decide +kernel
theorem dX7_clearSite_7 : decode cX7_clearSite 7 = .ok (.aload_n 0, 1) := by decide +kernel
theorem dX7_clearSite_8 : decode cX7_clearSite 8 = .ok (.getfield 20, 3) := by decide +kernel
theorem dX7_clearSite_11 : decode cX7_clearSite 11 = .ok (.iload_n 1, 1) := by decide +kernel
theorem dX7_clearSite_12 : decode cX7_clearSite 12 = .ok (.iconst 0, 1) := by decide +kernel
theorem dX7_clearSite_13 : decode cX7_clearSite 13 = .ok (.iastore, 1) := by decide +kernel
theorem dX7_clearSite_14 : decode cX7_clearSite 14 = .ok (.aload_n 0, 1) := by decide +kernel
theorem dX7_clearSite_15 : decode cX7_clearSite 15 = .ok (.getfield 26, 3) := by decide +kernel
theorem dX7_clearSite_18 : decode cX7_clearSite 18 = .ok (.bipush 19, 2) := by decide +kernel
theorem dX7_clearSite_20 : decode cX7_clearSite 20 = .ok (.iload_n 1, 1) := by decide +kernel
theorem dX7_clearSite_21 : decode cX7_clearSite 21 = .ok (.imul, 1) := by decide +kernel
theorem dX7_clearSite_22 : decode cX7_clearSite 22 = .ok (.iconst 0, 1) := by decide +kernel
theorem dX7_clearSite_23 : decode cX7_clearSite 23 = .ok (.iastore, 1) := by decide +kernel
theorem dX7_clearSite_24 : decode cX7_clearSite 24 = .ok (.iconst 0, 1) := by decide +kernel
theorem dX7_clearSite_25 : decode cX7_clearSite 25 = .ok (.istore_n 2, 1) := by decide +kernel
theorem dX7_clearSite_26 : decode cX7_clearSite 26 = .ok (.iload_n 2, 1) := by decide +kernel
theorem dX7_clearSite_27 : decode cX7_clearSite 27 = .ok (.bipush 100, 2) := by decide +kernel
theorem dX7_clearSite_29 : decode cX7_clearSite 29 = .ok (.if_icmp .ge 21, 3) := by decide +kernel
theorem dX7_clearSite_32 : decode cX7_clearSite 32 = .ok (.aload_n 0, 1) := by decide +kernel
theorem dX7_clearSite_33 : decode cX7_clearSite 33 = .ok (.getfield 23, 3) := by decide +kernel
theorem dX7_clearSite_36 : decode cX7_clearSite 36 = .ok (.bipush 100, 2) := by decide +kernel
theorem dX7_clearSite_38 : decode cX7_clearSite 38 = .ok (.iload_n 1, 1) := by decide +kernel
theorem dX7_clearSite_39 : decode cX7_clearSite 39 = .ok (.imul, 1) := by decide +kernel
theorem dX7_clearSite_40 : decode cX7_clearSite 40 = .ok (.iload_n 2, 1) := by decide +kernel
theorem dX7_clearSite_41 : decode cX7_clearSite 41 = .ok (.iadd, 1) := by decide +kernel
theorem dX7_clearSite_42 : decode cX7_clearSite 42 = .ok (.iconst 0, 1) := by decide +kernel
theorem dX7_clearSite_43 : decode cX7_clearSite 43 = .ok (.iastore, 1) := by decide +kernel
theorem dX7_clearSite_44 : decode cX7_clearSite 44 = .ok (.iinc 2 1, 3) := by decide +kernel
theorem dX7_clearSite_47 : decode cX7_clearSite 47 = .ok (.goto (-21), 3) := by decide +kernel
theorem dX7_clearSite_50 : decode cX7_clearSite 50 = .ok (.iconst 0, 1) := by decide +kernel
theorem dX7_clearSite_51 : decode cX7_clearSite 51 = .ok (.istore_n 2, 1) := by decide +kernel
theorem dX7_clearSite_52 : decode cX7_clearSite 52 = .ok (.iload_n 2, 1) := by decide +kernel
theorem dX7_clearSite_53 : decode cX7_clearSite 53 = .ok (.iconst 5, 1) := by decide +kernel
theorem dX7_clearSite_54 : decode cX7_clearSite 54 = .ok (.if_icmp .ge 31, 3) := by decide +kernel
theorem dX7_clearSite_57 : decode cX7_clearSite 57 = .ok (.aload_n 0, 1) := by decide +kernel
theorem dX7_clearSite_58 : decode cX7_clearSite 58 = .ok (.getfield 32, 3) := by decide +kernel
theorem dX7_clearSite_61 : decode cX7_clearSite 61 = .ok (.iconst 5, 1) := by decide +kernel
theorem dX7_clearSite_62 : decode cX7_clearSite 62 = .ok (.iload_n 1, 1) := by decide +kernel
theorem dX7_clearSite_63 : decode cX7_clearSite 63 = .ok (.imul, 1) := by decide +kernel
theorem dX7_clearSite_64 : decode cX7_clearSite 64 = .ok (.iload_n 2, 1) := by decide +kernel
theorem dX7_clearSite_65 : decode cX7_clearSite 65 = .ok (.iadd, 1) := by decide +kernel
theorem dX7_clearSite_66 : decode cX7_clearSite 66 = .ok (.iconst 0, 1) := by decide +kernel
theorem dX7_clearSite_67 : decode cX7_clearSite 67 = .ok (.iastore, 1) := by decide +kernel
theorem dX7_clearSite_68 : decode cX7_clearSite 68 = .ok (.aload_n 0, 1) := by decide +kernel
theorem dX7_clearSite_69 : decode cX7_clearSite 69 = .ok (.getfield 32, 3) := by decide +kernel
theorem dX7_clearSite_72 : decode cX7_clearSite 72 = .ok (.iconst 5, 1) := by decide +kernel
theorem dX7_clearSite_73 : decode cX7_clearSite 73 = .ok (.iload_n 2, 1) := by decide +kernel
theorem dX7_clearSite_74 : decode cX7_clearSite 74 = .ok (.imul, 1) := by decide +kernel
theorem dX7_clearSite_75 : decode cX7_clearSite 75 = .ok (.iload_n 1, 1) := by decide +kernel
theorem dX7_clearSite_76 : decode cX7_clearSite 76 = .ok (.iadd, 1) := by decide +kernel
theorem dX7_clearSite_77 : decode cX7_clearSite 77 = .ok (.iconst 0, 1) := by decide +kernel
theorem dX7_clearSite_78 : decode cX7_clearSite 78 = .ok (.iastore, 1) := by decide +kernel
theorem dX7_clearSite_79 : decode cX7_clearSite 79 = .ok (.iinc 2 1, 3) := by decide +kernel
theorem dX7_clearSite_82 : decode cX7_clearSite 82 = .ok (.goto (-30), 3) := by decide +kernel
theorem dX7_clearSite_85 : decode cX7_clearSite 85 = .ok (.return_, 1) := by decide +kernel
set_option maxRecDepth 20000 in
theorem ggX7_reset_X7_in : GoodIn wsX7_reset wsX7_in := goodIn_r _ [6] (by decide +kernel) (by decide +kernel)
set_option maxRecDepth 20000 in
theorem gX7_reset_X7_in : GoodIn wsX7_reset (va_wsS RX7 50 yX7_in wsX7_in) := goodIn_app (goodIn_of _ (by decide +kernel)) ggX7_reset_X7_in
set_option maxRecDepth 20000 in
theorem ggX7_reset_X7_clearSite : GoodIn wsX7_reset wsX7_clearSite := goodIn_r _ [10, 11, 12, 13, 14, 15, 16, 17, 18, 19, 20, 21, 22, 23, 24, 25, 26, 27, 28, 29] (by decide +kernel) (by decide +kernel)
set_option maxRecDepth 20000 in
theorem gX7_reset_X7_clearSite : GoodIn wsX7_reset (wsV RX7 90 RX7 yX7_clearSite wsX7_clearSite) := goodIn_app (goodIn_of _ (by decide +kernel)) ggX7_reset_X7_clearSite
theorem dX7_reset_0 : decode cX7_reset 0 = .ok (.iload_n 1, 1) := by decide +kernel
theorem dX7_reset_1 : decode cX7_reset 1 = .ok (.iconst 1, 1) := by decide +kernel
theorem dX7_reset_2 : decode cX7_reset 2 = .ok (.iconst 5, 1) := by decide +kernel
theorem dX7_reset_3 : decode cX7_reset 3 = .ok (.invokestatic 50, 3) := by decide +kernel
theorem dX7_reset_6 : decode cX7_reset 6 = .ok (.ifCond .ne 6, 3) := by decide +kernel
theorem dX7_reset_9 : decode cX7_reset 9 = .ok (.ldc 89, 2) := by decide +kernel
theorem dX7_reset_11 : decode cX7_reset 11 = .ok (.ireturn, 1) := by decide +kernel
theorem dX7_reset_12 : decode cX7_reset 12 = .ok (.aload_n 0, 1) := by decide +kernel
theorem dX7_reset_13 : decode cX7_reset 13 = .ok (.getfield 7, 3) := by decide +kernel
theorem dX7_reset_16 : decode cX7_reset 16 = .ok (.istore_n 2, 1) := by decide +kernel
theorem dX7_reset_17 : decode cX7_reset 17 = .ok (.aload_n 0, 1) := by decide +kernel
theorem dX7_reset_18 : decode cX7_reset 18 = .ok (.iload_n 1, 1) := by decide +kernel
theorem dX7_reset_19 : decode cX7_reset 19 = .ok (.putfield 7, 3) := by decide +kernel
theorem dX7_reset_22 : decode cX7_reset 22 = .ok (.iconst 0, 1) := by decide +kernel
theorem dX7_reset_23 : decode cX7_reset 23 = .ok (.istore_n 3, 1) := by decide +kernel
theorem dX7_reset_24 : decode cX7_reset 24 = .ok (.iload_n 3, 1) := by decide +kernel
theorem dX7_reset_25 : decode cX7_reset 25 = .ok (.iconst 5, 1) := by decide +kernel
theorem dX7_reset_26 : decode cX7_reset 26 = .ok (.if_icmp .ge 14, 3) := by decide +kernel
theorem dX7_reset_29 : decode cX7_reset 29 = .ok (.aload_n 0, 1) := by decide +kernel
theorem dX7_reset_30 : decode cX7_reset 30 = .ok (.iload_n 3, 1) := by decide +kernel
theorem dX7_reset_31 : decode cX7_reset 31 = .ok (.invokevirtual 90, 3) := by decide +kernel
theorem dX7_reset_34 : decode cX7_reset 34 = .ok (.iinc 3 1, 3) := by decide +kernel
theorem dX7_reset_37 : decode cX7_reset 37 = .ok (.goto (-13), 3) := by decide +kernel
theorem dX7_reset_40 : decode cX7_reset 40 = .ok (.iload_n 2, 1) := by decide +kernel
theorem dX7_reset_41 : decode cX7_reset 41 = .ok (.ireturn, 1) := by decide +kernel
set_option maxRecDepth 20000 in
theorem ggX7_join_X7_clearSite : GoodIn wsX7_join wsX7_clearSite := goodIn_r _ [7, 8, 9, 10, 11, 12, 13, 14, 15, 16, 17, 18, 19, 20, 21, 22, 23, 24, 25, 26] (by decide +kernel) (by decide +kernel)
set_option maxRecDepth 20000 in
theorem gX7_join_X7_clearSite : GoodIn wsX7_join (wsV RX7 90 RX7 yX7_clearSite wsX7_clearSite) := goodIn_app (goodIn_of _ (by decide +kernel)) ggX7_join_X7_clearSite
theorem dX7_join_0 : decode cX7_join 0 = .ok (.aload_n 0, 1) := by decide +kernel
theorem dX7_join_1 : decode cX7_join 1 = .ok (.getfield 7, 3) := by decide +kernel
theorem dX7_join_4 : decode cX7_join 4 = .ok (.iconst 5, 1) := by decide +kernel
theorem dX7_join_5 : decode cX7_join 5 = .ok (.if_icmp .ne 6, 3) := by decide +kernel
theorem dX7_join_8 : decode cX7_join 8 = .ok (.ldc 94, 2) := by decide +kernel
theorem dX7_join_10 : decode cX7_join 10 = .ok (.ireturn, 1) := by decide +kernel
theorem dX7_join_11 : decode cX7_join 11 = .ok (.aload_n 0, 1) := by decide +kernel
theorem dX7_join_12 : decode cX7_join 12 = .ok (.aload_n 0, 1) := by decide +kernel
theorem dX7_join_13 : decode cX7_join 13 = .ok (.getfield 7, 3) := by decide +kernel
theorem dX7_join_16 : decode cX7_join 16 = .ok (.invokevirtual 90, 3) := by decide +kernel
theorem dX7_join_19 : decode cX7_join 19 = .ok (.aload_n 0, 1) := by decide +kernel
theorem dX7_join_20 : decode cX7_join 20 = .ok (.dup, 1) := by decide +kernel
theorem dX7_join_21 : decode cX7_join 21 = .ok (.getfield 7, 3) := by decide +kernel
theorem dX7_join_24 : decode cX7_join 24 = .ok (.iconst 1, 1) := by decide +kernel
theorem dX7_join_25 : decode cX7_join 25 = .ok (.iadd, 1) := by decide +kernel
theorem dX7_join_26 : decode cX7_join 26 = .ok (.putfield 7, 3) := by decide +kernel
theorem dX7_join_29 : decode cX7_join 29 = .ok (.aload_n 0, 1) := by decide +kernel
theorem dX7_join_30 : decode cX7_join 30 = .ok (.getfield 7, 3) := by decide +kernel
theorem dX7_join_33 : decode cX7_join 33 = .ok (.iconst 1, 1) := by decide +kernel
theorem dX7_join_34 : decode cX7_join 34 = .ok (.isub, 1) := by decide +kernel
theorem dX7_join_35 : decode cX7_join 35 = .ok (.ireturn, 1) := by decide +kernel
theorem dX7_sites_0 : decode cX7_sites 0 = .ok (.aload_n 0, 1) := by decide +kernel
theorem dX7_sites_1 : decode cX7_sites 1 = .ok (.getfield 7, 3) := by decide +kernel
theorem dX7_sites_4 : decode cX7_sites 4 = .ok (.ireturn, 1) := by decide +kernel
theorem dX7_knownMany_0 : decode cX7_knownMany 0 = .ok (.iconst 0, 1) := by decide +kernel
theorem dX7_knownMany_1 : decode cX7_knownMany 1 = .ok (.istore_n 2, 1) := by decide +kernel
theorem dX7_knownMany_2 : decode cX7_knownMany 2 = .ok (.iconst 0, 1) := by decide +kernel
theorem dX7_knownMany_3 : decode cX7_knownMany 3 = .ok (.istore_n 3, 1) := by decide +kernel
theorem dX7_knownMany_4 : decode cX7_knownMany 4 = .ok (.iload_n 3, 1) := by decide +kernel
theorem dX7_knownMany_5 : decode cX7_knownMany 5 = .ok (.bipush 100, 2) := by decide +kernel
theorem dX7_knownMany_7 : decode cX7_knownMany 7 = .ok (.if_icmp .ge 23, 3) := by decide +kernel
theorem dX7_knownMany_10 : decode cX7_knownMany 10 = .ok (.iload_n 2, 1) := by decide +kernel
theorem dX7_knownMany_11 : decode cX7_knownMany 11 = .ok (.aload_n 0, 1) := by decide +kernel
theorem dX7_knownMany_12 : decode cX7_knownMany 12 = .ok (.getfield 23, 3) := by decide +kernel
theorem dX7_knownMany_15 : decode cX7_knownMany 15 = .ok (.bipush 100, 2) := by decide +kernel
theorem dX7_knownMany_17 : decode cX7_knownMany 17 = .ok (.iload_n 1, 1) := by decide +kernel
theorem dX7_knownMany_18 : decode cX7_knownMany 18 = .ok (.imul, 1) := by decide +kernel
theorem dX7_knownMany_19 : decode cX7_knownMany 19 = .ok (.iload_n 3, 1) := by decide +kernel
theorem dX7_knownMany_20 : decode cX7_knownMany 20 = .ok (.iadd, 1) := by decide +kernel
theorem dX7_knownMany_21 : decode cX7_knownMany 21 = .ok (.iaload, 1) := by decide +kernel
theorem dX7_knownMany_22 : decode cX7_knownMany 22 = .ok (.iadd, 1) := by decide +kernel
theorem dX7_knownMany_23 : decode cX7_knownMany 23 = .ok (.istore_n 2, 1) := by decide +kernel
theorem dX7_knownMany_24 : decode cX7_knownMany 24 = .ok (.iinc 3 1, 3) := by decide +kernel
theorem dX7_knownMany_27 : decode cX7_knownMany 27 = .ok (.goto (-23), 3) := by decide +kernel
theorem dX7_knownMany_30 : decode cX7_knownMany 30 = .ok (.iload_n 2, 1) := by decide +kernel
theorem dX7_knownMany_31 : decode cX7_knownMany 31 = .ok (.ireturn, 1) := by decide +kernel
set_option maxRecDepth 20000 in
theorem ggX7_siteInfo_X7_isSite : GoodIn wsX7_siteInfo wsX7_isSite := goodIn_r _ [10, 11, 12, 13, 9, 14, 58, 59, 60, 61, 62, 63, 64, 65, 66, 67, 68, 69, 70, 71] (by decide +kernel) (by decide +kernel)
set_option maxRecDepth 20000 in
theorem gX7_siteInfo_X7_isSite : GoodIn wsX7_siteInfo (wsV RX7 54 RX7 yX7_isSite wsX7_isSite) := goodIn_app (goodIn_of _ (by decide +kernel)) ggX7_siteInfo_X7_isSite
set_option maxRecDepth 20000 in
theorem ggX7_siteInfo_X7_in : GoodIn wsX7_siteInfo wsX7_in := goodIn_r _ [14] (by decide +kernel) (by decide +kernel)
set_option maxRecDepth 20000 in
theorem gX7_siteInfo_X7_in : GoodIn wsX7_siteInfo (va_wsS RX7 50 yX7_in wsX7_in) := goodIn_app (goodIn_of _ (by decide +kernel)) ggX7_siteInfo_X7_in
set_option maxRecDepth 20000 in
theorem ggX7_siteInfo_X7_knownMany : GoodIn wsX7_siteInfo wsX7_knownMany := goodIn_r _ [18, 19, 58, 59, 60, 61, 62, 63, 64, 65, 66, 67, 68, 69, 70, 71] (by decide +kernel) (by decide +kernel)
set_option maxRecDepth 20000 in
theorem gX7_siteInfo_X7_knownMany : GoodIn wsX7_siteInfo (wsV RX7 95 RX7 yX7_knownMany wsX7_knownMany) := goodIn_app (goodIn_of _ (by decide +kernel)) ggX7_siteInfo_X7_knownMany
set_option maxRecDepth 20000 in
theorem ggX7_siteInfo_X7_workOut : GoodIn wsX7_siteInfo wsX7_workOut := goodIn_r _ [23, 4, 24, 25, 26, 27, 28, 9, 29, 30, 31, 32, 33, 19, 34, 35, 36, 37, 38, 39, 40, 41, 42, 12, 13, 14, 43, 44, 45, 46, 47, 48, 49, 50, 51, 52, 53, 54, 55, 56, 57, 58, 59, 60, 61, 62, 63, 64, 65, 66, 67, 68, 69, 70, 71] (by decide +kernel) (by decide +kernel)
set_option maxRecDepth 20000 in
theorem gX7_siteInfo_X7_workOut : GoodIn wsX7_siteInfo (wsV RX7 98 RX7 yX7_workOut wsX7_workOut) := goodIn_app (goodIn_of _ (by decide +kernel)) ggX7_siteInfo_X7_workOut
theorem dX7_siteInfo_0 : decode cX7_siteInfo 0 = .ok (.aload_n 0, 1) := by decide +kernel
theorem dX7_siteInfo_1 : decode cX7_siteInfo 1 = .ok (.iload_n 1, 1) := by decide +kernel
theorem dX7_siteInfo_2 : decode cX7_siteInfo 2 = .ok (.invokevirtual 54, 3) := by decide +kernel
theorem dX7_siteInfo_5 : decode cX7_siteInfo 5 = .ok (.ifCond .eq 12, 3) := by decide +kernel
theorem dX7_siteInfo_8 : decode cX7_siteInfo 8 = .ok (.iload_n 2, 1) := by decide +kernel
theorem dX7_siteInfo_9 : decode cX7_siteInfo 9 = .ok (.iconst 0, 1) := by decide +kernel
theorem dX7_siteInfo_10 : decode cX7_siteInfo 10 = .ok (.iconst 4, 1) := by decide +kernel
theorem dX7_siteInfo_11 : decode cX7_siteInfo 11 = .ok (.invokestatic 50, 3) := by decide +kernel
theorem dX7_siteInfo_14 : decode cX7_siteInfo 14 = .ok (.ifCond .ne 6, 3) := by decide +kernel
theorem dX7_siteInfo_17 : decode cX7_siteInfo 17 = .ok (.ldc 89, 2) := by decide +kernel
theorem dX7_siteInfo_19 : decode cX7_siteInfo 19 = .ok (.ireturn, 1) := by decide +kernel
theorem dX7_siteInfo_20 : decode cX7_siteInfo 20 = .ok (.iload_n 2, 1) := by decide +kernel
theorem dX7_siteInfo_21 : decode cX7_siteInfo 21 = .ok (.tableswitch 61 0 3 #[31, 38, 44, 51], 31) := by decide +kernel
theorem dX7_siteInfo_52 : decode cX7_siteInfo 52 = .ok (.aload_n 0, 1) := by decide +kernel
theorem dX7_siteInfo_53 : decode cX7_siteInfo 53 = .ok (.getfield 20, 3) := by decide +kernel
theorem dX7_siteInfo_56 : decode cX7_siteInfo 56 = .ok (.iload_n 1, 1) := by decide +kernel
theorem dX7_siteInfo_57 : decode cX7_siteInfo 57 = .ok (.iaload, 1) := by decide +kernel
theorem dX7_siteInfo_58 : decode cX7_siteInfo 58 = .ok (.ireturn, 1) := by decide +kernel
theorem dX7_siteInfo_59 : decode cX7_siteInfo 59 = .ok (.aload_n 0, 1) := by decide +kernel
theorem dX7_siteInfo_60 : decode cX7_siteInfo 60 = .ok (.iload_n 1, 1) := by decide +kernel
theorem dX7_siteInfo_61 : decode cX7_siteInfo 61 = .ok (.invokevirtual 95, 3) := by decide +kernel
theorem dX7_siteInfo_64 : decode cX7_siteInfo 64 = .ok (.ireturn, 1) := by decide +kernel
theorem dX7_siteInfo_65 : decode cX7_siteInfo 65 = .ok (.aload_n 0, 1) := by decide +kernel
theorem dX7_siteInfo_66 : decode cX7_siteInfo 66 = .ok (.getfield 17, 3) := by decide +kernel
theorem dX7_siteInfo_69 : decode cX7_siteInfo 69 = .ok (.iload_n 1, 1) := by decide +kernel
theorem dX7_siteInfo_70 : decode cX7_siteInfo 70 = .ok (.iaload, 1) := by decide +kernel
theorem dX7_siteInfo_71 : decode cX7_siteInfo 71 = .ok (.ireturn, 1) := by decide +kernel
theorem dX7_siteInfo_72 : decode cX7_siteInfo 72 = .ok (.aload_n 0, 1) := by decide +kernel
theorem dX7_siteInfo_73 : decode cX7_siteInfo 73 = .ok (.iload_n 1, 1) := by decide +kernel
theorem dX7_siteInfo_74 : decode cX7_siteInfo 74 = .ok (.invokevirtual 98, 3) := by decide +kernel
theorem dX7_siteInfo_77 : decode cX7_siteInfo 77 = .ok (.aload_n 0, 1) := by decide +kernel
theorem dX7_siteInfo_78 : decode cX7_siteInfo 78 = .ok (.getfield 80, 3) := by decide +kernel
theorem dX7_siteInfo_81 : decode cX7_siteInfo 81 = .ok (.ireturn, 1) := by decide +kernel
theorem dX7_siteInfo_82 : decode cX7_siteInfo 82 = .ok (.aload_n 0, 1) := by decide +kernel
theorem dX7_siteInfo_83 : decode cX7_siteInfo 83 = .ok (.getfield 26, 3) := by decide +kernel
theorem dX7_siteInfo_86 : decode cX7_siteInfo 86 = .ok (.bipush 19, 2) := by decide +kernel
theorem dX7_siteInfo_88 : decode cX7_siteInfo 88 = .ok (.iload_n 1, 1) := by decide +kernel
theorem dX7_siteInfo_89 : decode cX7_siteInfo 89 = .ok (.imul, 1) := by decide +kernel
theorem dX7_siteInfo_90 : decode cX7_siteInfo 90 = .ok (.iaload, 1) := by decide +kernel
theorem dX7_siteInfo_91 : decode cX7_siteInfo 91 = .ok (.ireturn, 1) := by decide +kernel
set_option maxRecDepth 20000 in
theorem ggX7_penDown_X7_isSite : GoodIn wsX7_penDown wsX7_isSite := goodIn_r _ [7, 8, 9, 10, 6, 11, 12, 13, 14, 15, 16, 17, 18, 19, 20, 21, 22, 23, 24, 25] (by decide +kernel) (by decide +kernel)
set_option maxRecDepth 20000 in
theorem gX7_penDown_X7_isSite : GoodIn wsX7_penDown (wsV RX7 54 RX7 yX7_isSite wsX7_isSite) := goodIn_app (goodIn_of _ (by decide +kernel)) ggX7_penDown_X7_isSite
set_option maxRecDepth 20000 in
theorem ggX7_penDown_X7_in : GoodIn wsX7_penDown wsX7_in := goodIn_r _ [11] (by decide +kernel) (by decide +kernel)
set_option maxRecDepth 20000 in
theorem gX7_penDown_X7_in : GoodIn wsX7_penDown (va_wsS RX7 50 yX7_in wsX7_in) := goodIn_app (goodIn_of _ (by decide +kernel)) ggX7_penDown_X7_in
theorem dX7_penDown_0 : decode cX7_penDown 0 = .ok (.aload_n 0, 1) := by decide +kernel
theorem dX7_penDown_1 : decode cX7_penDown 1 = .ok (.iload_n 1, 1) := by decide +kernel
theorem dX7_penDown_2 : decode cX7_penDown 2 = .ok (.invokevirtual 54, 3) := by decide +kernel
theorem dX7_penDown_5 : decode cX7_penDown 5 = .ok (.ifCond .eq 44, 3) := by decide +kernel
theorem dX7_penDown_8 : decode cX7_penDown 8 = .ok (.iload_n 2, 1) := by decide +kernel
theorem dX7_penDown_9 : decode cX7_penDown 9 = .ok (.iconst 0, 1) := by decide +kernel
theorem dX7_penDown_10 : decode cX7_penDown 10 = .ok (.bipush 63, 2) := by decide +kernel
theorem dX7_penDown_12 : decode cX7_penDown 12 = .ok (.invokestatic 50, 3) := by decide +kernel
theorem dX7_penDown_15 : decode cX7_penDown 15 = .ok (.ifCond .eq 34, 3) := by decide +kernel
theorem dX7_penDown_18 : decode cX7_penDown 18 = .ok (.iload_n 3, 1) := by decide +kernel
theorem dX7_penDown_19 : decode cX7_penDown 19 = .ok (.iconst 0, 1) := by decide +kernel
theorem dX7_penDown_20 : decode cX7_penDown 20 = .ok (.bipush 63, 2) := by decide +kernel
theorem dX7_penDown_22 : decode cX7_penDown 22 = .ok (.invokestatic 50, 3) := by decide +kernel
theorem dX7_penDown_25 : decode cX7_penDown 25 = .ok (.ifCond .eq 24, 3) := by decide +kernel
theorem dX7_penDown_28 : decode cX7_penDown 28 = .ok (.iload 4, 2) := by decide +kernel
theorem dX7_penDown_30 : decode cX7_penDown 30 = .ok (.iconst 0, 1) := by decide +kernel
theorem dX7_penDown_31 : decode cX7_penDown 31 = .ok (.bipush 7, 2) := by decide +kernel
theorem dX7_penDown_33 : decode cX7_penDown 33 = .ok (.invokestatic 50, 3) := by decide +kernel
theorem dX7_penDown_36 : decode cX7_penDown 36 = .ok (.ifCond .eq 13, 3) := by decide +kernel
theorem dX7_penDown_39 : decode cX7_penDown 39 = .ok (.iload 5, 2) := by decide +kernel
theorem dX7_penDown_41 : decode cX7_penDown 41 = .ok (.iconst 0, 1) := by decide +kernel
theorem dX7_penDown_42 : decode cX7_penDown 42 = .ok (.iconst 3, 1) := by decide +kernel
theorem dX7_penDown_43 : decode cX7_penDown 43 = .ok (.invokestatic 50, 3) := by decide +kernel
theorem dX7_penDown_46 : decode cX7_penDown 46 = .ok (.ifCond .ne 6, 3) := by decide +kernel
theorem dX7_penDown_49 : decode cX7_penDown 49 = .ok (.ldc 89, 2) := by decide +kernel
theorem dX7_penDown_51 : decode cX7_penDown 51 = .ok (.ireturn, 1) := by decide +kernel
theorem dX7_penDown_52 : decode cX7_penDown 52 = .ok (.bipush 19, 2) := by decide +kernel
theorem dX7_penDown_54 : decode cX7_penDown 54 = .ok (.iload_n 1, 1) := by decide +kernel
theorem dX7_penDown_55 : decode cX7_penDown 55 = .ok (.imul, 1) := by decide +kernel
theorem dX7_penDown_56 : decode cX7_penDown 56 = .ok (.istore 6, 2) := by decide +kernel
theorem dX7_penDown_58 : decode cX7_penDown 58 = .ok (.aload_n 0, 1) := by decide +kernel
theorem dX7_penDown_59 : decode cX7_penDown 59 = .ok (.getfield 26, 3) := by decide +kernel
theorem dX7_penDown_62 : decode cX7_penDown 62 = .ok (.iload 6, 2) := by decide +kernel
theorem dX7_penDown_64 : decode cX7_penDown 64 = .ok (.iconst 1, 1) := by decide +kernel
theorem dX7_penDown_65 : decode cX7_penDown 65 = .ok (.iastore, 1) := by decide +kernel
theorem dX7_penDown_66 : decode cX7_penDown 66 = .ok (.aload_n 0, 1) := by decide +kernel
theorem dX7_penDown_67 : decode cX7_penDown 67 = .ok (.getfield 26, 3) := by decide +kernel
theorem dX7_penDown_70 : decode cX7_penDown 70 = .ok (.iload 6, 2) := by decide +kernel
theorem dX7_penDown_72 : decode cX7_penDown 72 = .ok (.iconst 1, 1) := by decide +kernel
theorem dX7_penDown_73 : decode cX7_penDown 73 = .ok (.iadd, 1) := by decide +kernel
theorem dX7_penDown_74 : decode cX7_penDown 74 = .ok (.iload 4, 2) := by decide +kernel
theorem dX7_penDown_76 : decode cX7_penDown 76 = .ok (.iastore, 1) := by decide +kernel
theorem dX7_penDown_77 : decode cX7_penDown 77 = .ok (.aload_n 0, 1) := by decide +kernel
theorem dX7_penDown_78 : decode cX7_penDown 78 = .ok (.getfield 26, 3) := by decide +kernel
theorem dX7_penDown_81 : decode cX7_penDown 81 = .ok (.iload 6, 2) := by decide +kernel
theorem dX7_penDown_83 : decode cX7_penDown 83 = .ok (.iconst 2, 1) := by decide +kernel
theorem dX7_penDown_84 : decode cX7_penDown 84 = .ok (.iadd, 1) := by decide +kernel
theorem dX7_penDown_85 : decode cX7_penDown 85 = .ok (.iload 5, 2) := by decide +kernel
theorem dX7_penDown_87 : decode cX7_penDown 87 = .ok (.iastore, 1) := by decide +kernel
theorem dX7_penDown_88 : decode cX7_penDown 88 = .ok (.aload_n 0, 1) := by decide +kernel
theorem dX7_penDown_89 : decode cX7_penDown 89 = .ok (.getfield 26, 3) := by decide +kernel
theorem dX7_penDown_92 : decode cX7_penDown 92 = .ok (.iload 6, 2) := by decide +kernel
theorem dX7_penDown_94 : decode cX7_penDown 94 = .ok (.iconst 3, 1) := by decide +kernel
theorem dX7_penDown_95 : decode cX7_penDown 95 = .ok (.iadd, 1) := by decide +kernel
theorem dX7_penDown_96 : decode cX7_penDown 96 = .ok (.iload_n 2, 1) := by decide +kernel
theorem dX7_penDown_97 : decode cX7_penDown 97 = .ok (.iastore, 1) := by decide +kernel
theorem dX7_penDown_98 : decode cX7_penDown 98 = .ok (.aload_n 0, 1) := by decide +kernel
theorem dX7_penDown_99 : decode cX7_penDown 99 = .ok (.getfield 26, 3) := by decide +kernel
theorem dX7_penDown_102 : decode cX7_penDown 102 = .ok (.iload 6, 2) := by decide +kernel
theorem dX7_penDown_104 : decode cX7_penDown 104 = .ok (.iconst 4, 1) := by decide +kernel
theorem dX7_penDown_105 : decode cX7_penDown 105 = .ok (.iadd, 1) := by decide +kernel
theorem dX7_penDown_106 : decode cX7_penDown 106 = .ok (.iload_n 3, 1) := by decide +kernel
theorem dX7_penDown_107 : decode cX7_penDown 107 = .ok (.iastore, 1) := by decide +kernel
theorem dX7_penDown_108 : decode cX7_penDown 108 = .ok (.iconst 1, 1) := by decide +kernel
theorem dX7_penDown_109 : decode cX7_penDown 109 = .ok (.ireturn, 1) := by decide +kernel
set_option maxRecDepth 20000 in
theorem ggX7_penMove_X7_isSite : GoodIn wsX7_penMove wsX7_isSite := goodIn_r _ [9, 10, 11, 12, 8, 13, 14, 15, 16, 17, 18, 19, 20, 21, 22, 23, 24, 25, 26, 27] (by decide +kernel) (by decide +kernel)
set_option maxRecDepth 20000 in
theorem gX7_penMove_X7_isSite : GoodIn wsX7_penMove (wsV RX7 54 RX7 yX7_isSite wsX7_isSite) := goodIn_app (goodIn_of _ (by decide +kernel)) ggX7_penMove_X7_isSite
set_option maxRecDepth 20000 in
theorem ggX7_penMove_X7_in : GoodIn wsX7_penMove wsX7_in := goodIn_r _ [13] (by decide +kernel) (by decide +kernel)
set_option maxRecDepth 20000 in
theorem gX7_penMove_X7_in : GoodIn wsX7_penMove (va_wsS RX7 50 yX7_in wsX7_in) := goodIn_app (goodIn_of _ (by decide +kernel)) ggX7_penMove_X7_in
theorem dX7_penMove_0 : decode cX7_penMove 0 = .ok (.aload_n 0, 1) := by decide +kernel
theorem dX7_penMove_1 : decode cX7_penMove 1 = .ok (.iload_n 1, 1) := by decide +kernel
theorem dX7_penMove_2 : decode cX7_penMove 2 = .ok (.invokevirtual 54, 3) := by decide +kernel
theorem dX7_penMove_5 : decode cX7_penMove 5 = .ok (.ifCond .eq 25, 3) := by decide +kernel
theorem dX7_penMove_8 : decode cX7_penMove 8 = .ok (.iload_n 2, 1) := by decide +kernel
theorem dX7_penMove_9 : decode cX7_penMove 9 = .ok (.bipush (-8), 2) := by decide +kernel
theorem dX7_penMove_11 : decode cX7_penMove 11 = .ok (.bipush 8, 2) := by decide +kernel
theorem dX7_penMove_13 : decode cX7_penMove 13 = .ok (.invokestatic 50, 3) := by decide +kernel
theorem dX7_penMove_16 : decode cX7_penMove 16 = .ok (.ifCond .eq 14, 3) := by decide +kernel
theorem dX7_penMove_19 : decode cX7_penMove 19 = .ok (.iload_n 3, 1) := by decide +kernel
theorem dX7_penMove_20 : decode cX7_penMove 20 = .ok (.bipush (-8), 2) := by decide +kernel
theorem dX7_penMove_22 : decode cX7_penMove 22 = .ok (.bipush 8, 2) := by decide +kernel
theorem dX7_penMove_24 : decode cX7_penMove 24 = .ok (.invokestatic 50, 3) := by decide +kernel
theorem dX7_penMove_27 : decode cX7_penMove 27 = .ok (.ifCond .ne 6, 3) := by decide +kernel
theorem dX7_penMove_30 : decode cX7_penMove 30 = .ok (.ldc 89, 2) := by decide +kernel
theorem dX7_penMove_32 : decode cX7_penMove 32 = .ok (.ireturn, 1) := by decide +kernel
theorem dX7_penMove_33 : decode cX7_penMove 33 = .ok (.bipush 19, 2) := by decide +kernel
theorem dX7_penMove_35 : decode cX7_penMove 35 = .ok (.iload_n 1, 1) := by decide +kernel
theorem dX7_penMove_36 : decode cX7_penMove 36 = .ok (.imul, 1) := by decide +kernel
theorem dX7_penMove_37 : decode cX7_penMove 37 = .ok (.istore 4, 2) := by decide +kernel
theorem dX7_penMove_39 : decode cX7_penMove 39 = .ok (.aload_n 0, 1) := by decide +kernel
theorem dX7_penMove_40 : decode cX7_penMove 40 = .ok (.getfield 26, 3) := by decide +kernel
theorem dX7_penMove_43 : decode cX7_penMove 43 = .ok (.iload 4, 2) := by decide +kernel
theorem dX7_penMove_45 : decode cX7_penMove 45 = .ok (.iaload, 1) := by decide +kernel
theorem dX7_penMove_46 : decode cX7_penMove 46 = .ok (.istore 5, 2) := by decide +kernel
theorem dX7_penMove_48 : decode cX7_penMove 48 = .ok (.iload 5, 2) := by decide +kernel
theorem dX7_penMove_50 : decode cX7_penMove 50 = .ok (.ifCond .ne 6, 3) := by decide +kernel
theorem dX7_penMove_53 : decode cX7_penMove 53 = .ok (.ldc 101, 2) := by decide +kernel
theorem dX7_penMove_55 : decode cX7_penMove 55 = .ok (.ireturn, 1) := by decide +kernel
theorem dX7_penMove_56 : decode cX7_penMove 56 = .ok (.iload 5, 2) := by decide +kernel
theorem dX7_penMove_58 : decode cX7_penMove 58 = .ok (.bipush 8, 2) := by decide +kernel
theorem dX7_penMove_60 : decode cX7_penMove 60 = .ok (.if_icmp .ne 6, 3) := by decide +kernel
theorem dX7_penMove_63 : decode cX7_penMove 63 = .ok (.ldc 94, 2) := by decide +kernel
theorem dX7_penMove_65 : decode cX7_penMove 65 = .ok (.ireturn, 1) := by decide +kernel
theorem dX7_penMove_66 : decode cX7_penMove 66 = .ok (.aload_n 0, 1) := by decide +kernel
theorem dX7_penMove_67 : decode cX7_penMove 67 = .ok (.getfield 26, 3) := by decide +kernel
theorem dX7_penMove_70 : decode cX7_penMove 70 = .ok (.iload 4, 2) := by decide +kernel
theorem dX7_penMove_72 : decode cX7_penMove 72 = .ok (.iconst 3, 1) := by decide +kernel
theorem dX7_penMove_73 : decode cX7_penMove 73 = .ok (.iadd, 1) := by decide +kernel
theorem dX7_penMove_74 : decode cX7_penMove 74 = .ok (.iconst 2, 1) := by decide +kernel
theorem dX7_penMove_75 : decode cX7_penMove 75 = .ok (.iload 5, 2) := by decide +kernel
theorem dX7_penMove_77 : decode cX7_penMove 77 = .ok (.imul, 1) := by decide +kernel
theorem dX7_penMove_78 : decode cX7_penMove 78 = .ok (.iadd, 1) := by decide +kernel
theorem dX7_penMove_79 : decode cX7_penMove 79 = .ok (.aload_n 0, 1) := by decide +kernel
theorem dX7_penMove_80 : decode cX7_penMove 80 = .ok (.getfield 26, 3) := by decide +kernel
theorem dX7_penMove_83 : decode cX7_penMove 83 = .ok (.iload 4, 2) := by decide +kernel
theorem dX7_penMove_85 : decode cX7_penMove 85 = .ok (.iconst 1, 1) := by decide +kernel
theorem dX7_penMove_86 : decode cX7_penMove 86 = .ok (.iadd, 1) := by decide +kernel
theorem dX7_penMove_87 : decode cX7_penMove 87 = .ok (.iconst 2, 1) := by decide +kernel
theorem dX7_penMove_88 : decode cX7_penMove 88 = .ok (.iload 5, 2) := by decide +kernel
theorem dX7_penMove_90 : decode cX7_penMove 90 = .ok (.imul, 1) := by decide +kernel
theorem dX7_penMove_91 : decode cX7_penMove 91 = .ok (.iadd, 1) := by decide +kernel
theorem dX7_penMove_92 : decode cX7_penMove 92 = .ok (.iaload, 1) := by decide +kernel
theorem dX7_penMove_93 : decode cX7_penMove 93 = .ok (.iload_n 2, 1) := by decide +kernel
theorem dX7_penMove_94 : decode cX7_penMove 94 = .ok (.iadd, 1) := by decide +kernel
theorem dX7_penMove_95 : decode cX7_penMove 95 = .ok (.iastore, 1) := by decide +kernel
theorem dX7_penMove_96 : decode cX7_penMove 96 = .ok (.aload_n 0, 1) := by decide +kernel
theorem dX7_penMove_97 : decode cX7_penMove 97 = .ok (.getfield 26, 3) := by decide +kernel
theorem dX7_penMove_100 : decode cX7_penMove 100 = .ok (.iload 4, 2) := by decide +kernel
theorem dX7_penMove_102 : decode cX7_penMove 102 = .ok (.iconst 4, 1) := by decide +kernel
theorem dX7_penMove_103 : decode cX7_penMove 103 = .ok (.iadd, 1) := by decide +kernel
theorem dX7_penMove_104 : decode cX7_penMove 104 = .ok (.iconst 2, 1) := by decide +kernel
theorem dX7_penMove_105 : decode cX7_penMove 105 = .ok (.iload 5, 2) := by decide +kernel
theorem dX7_penMove_107 : decode cX7_penMove 107 = .ok (.imul, 1) := by decide +kernel
theorem dX7_penMove_108 : decode cX7_penMove 108 = .ok (.iadd, 1) := by decide +kernel
theorem dX7_penMove_109 : decode cX7_penMove 109 = .ok (.aload_n 0, 1) := by decide +kernel
theorem dX7_penMove_110 : decode cX7_penMove 110 = .ok (.getfield 26, 3) := by decide +kernel
theorem dX7_penMove_113 : decode cX7_penMove 113 = .ok (.iload 4, 2) := by decide +kernel
theorem dX7_penMove_115 : decode cX7_penMove 115 = .ok (.iconst 2, 1) := by decide +kernel
theorem dX7_penMove_116 : decode cX7_penMove 116 = .ok (.iadd, 1) := by decide +kernel
theorem dX7_penMove_117 : decode cX7_penMove 117 = .ok (.iconst 2, 1) := by decide +kernel
theorem dX7_penMove_118 : decode cX7_penMove 118 = .ok (.iload 5, 2) := by decide +kernel
theorem dX7_penMove_120 : decode cX7_penMove 120 = .ok (.imul, 1) := by decide +kernel
theorem dX7_penMove_121 : decode cX7_penMove 121 = .ok (.iadd, 1) := by decide +kernel
theorem dX7_penMove_122 : decode cX7_penMove 122 = .ok (.iaload, 1) := by decide +kernel
theorem dX7_penMove_123 : decode cX7_penMove 123 = .ok (.iload_n 3, 1) := by decide +kernel
theorem dX7_penMove_124 : decode cX7_penMove 124 = .ok (.iadd, 1) := by decide +kernel
theorem dX7_penMove_125 : decode cX7_penMove 125 = .ok (.iastore, 1) := by decide +kernel
theorem dX7_penMove_126 : decode cX7_penMove 126 = .ok (.aload_n 0, 1) := by decide +kernel
theorem dX7_penMove_127 : decode cX7_penMove 127 = .ok (.getfield 26, 3) := by decide +kernel
theorem dX7_penMove_130 : decode cX7_penMove 130 = .ok (.iload 4, 2) := by decide +kernel
theorem dX7_penMove_132 : decode cX7_penMove 132 = .ok (.dup2, 1) := by decide +kernel
theorem dX7_penMove_133 : decode cX7_penMove 133 = .ok (.iaload, 1) := by decide +kernel
theorem dX7_penMove_134 : decode cX7_penMove 134 = .ok (.iconst 1, 1) := by decide +kernel
theorem dX7_penMove_135 : decode cX7_penMove 135 = .ok (.iadd, 1) := by decide +kernel
theorem dX7_penMove_136 : decode cX7_penMove 136 = .ok (.iastore, 1) := by decide +kernel
theorem dX7_penMove_137 : decode cX7_penMove 137 = .ok (.iload 5, 2) := by decide +kernel
theorem dX7_penMove_139 : decode cX7_penMove 139 = .ok (.iconst 1, 1) := by decide +kernel
theorem dX7_penMove_140 : decode cX7_penMove 140 = .ok (.iadd, 1) := by decide +kernel
theorem dX7_penMove_141 : decode cX7_penMove 141 = .ok (.ireturn, 1) := by decide +kernel
set_option maxRecDepth 20000 in
theorem ggX7_make_X7_place : GoodIn wsX7_make wsX7_place := goodIn_r _ [11] (by decide +kernel) (by decide +kernel)
set_option maxRecDepth 20000 in
theorem gX7_make_X7_place : GoodIn wsX7_make (va_wsS RX7 62 yX7_place wsX7_place) := goodIn_app (goodIn_of _ (by decide +kernel)) ggX7_make_X7_place
theorem dX7_make_0 : decode cX7_make 0 = .ok (.aload_n 0, 1) := by decide +kernel
theorem dX7_make_1 : decode cX7_make 1 = .ok (.getfield 17, 3) := by decide +kernel
theorem dX7_make_4 : decode cX7_make 4 = .ok (.iload_n 1, 1) := by decide +kernel
theorem dX7_make_5 : decode cX7_make 5 = .ok (.dup2, 1) := by decide +kernel
theorem dX7_make_6 : decode cX7_make 6 = .ok (.iaload, 1) := by decide +kernel
theorem dX7_make_7 : decode cX7_make 7 = .ok (.iconst 1, 1) := by decide +kernel
theorem dX7_make_8 : decode cX7_make 8 = .ok (.iadd, 1) := by decide +kernel
theorem dX7_make_9 : decode cX7_make 9 = .ok (.iastore, 1) := by decide +kernel
theorem dX7_make_10 : decode cX7_make 10 = .ok (.iload_n 1, 1) := by decide +kernel
theorem dX7_make_11 : decode cX7_make 11 = .ok (.aload_n 0, 1) := by decide +kernel
theorem dX7_make_12 : decode cX7_make 12 = .ok (.getfield 17, 3) := by decide +kernel
theorem dX7_make_15 : decode cX7_make 15 = .ok (.iload_n 1, 1) := by decide +kernel
theorem dX7_make_16 : decode cX7_make 16 = .ok (.iaload, 1) := by decide +kernel
theorem dX7_make_17 : decode cX7_make 17 = .ok (.invokestatic 62, 3) := by decide +kernel
theorem dX7_make_20 : decode cX7_make 20 = .ok (.istore 6, 2) := by decide +kernel
theorem dX7_make_22 : decode cX7_make 22 = .ok (.aload_n 0, 1) := by decide +kernel
theorem dX7_make_23 : decode cX7_make 23 = .ok (.getfield 20, 3) := by decide +kernel
theorem dX7_make_26 : decode cX7_make 26 = .ok (.iload_n 1, 1) := by decide +kernel
theorem dX7_make_27 : decode cX7_make 27 = .ok (.dup2, 1) := by decide +kernel
theorem dX7_make_28 : decode cX7_make 28 = .ok (.iaload, 1) := by decide +kernel
theorem dX7_make_29 : decode cX7_make 29 = .ok (.iconst 1, 1) := by decide +kernel
theorem dX7_make_30 : decode cX7_make 30 = .ok (.iadd, 1) := by decide +kernel
theorem dX7_make_31 : decode cX7_make 31 = .ok (.iastore, 1) := by decide +kernel
theorem dX7_make_32 : decode cX7_make 32 = .ok (.bipush 21, 2) := by decide +kernel
theorem dX7_make_34 : decode cX7_make 34 = .ok (.iload 6, 2) := by decide +kernel
theorem dX7_make_36 : decode cX7_make 36 = .ok (.imul, 1) := by decide +kernel
theorem dX7_make_37 : decode cX7_make 37 = .ok (.istore 7, 2) := by decide +kernel
theorem dX7_make_39 : decode cX7_make 39 = .ok (.aload_n 0, 1) := by decide +kernel
theorem dX7_make_40 : decode cX7_make 40 = .ok (.getfield 13, 3) := by decide +kernel
theorem dX7_make_43 : decode cX7_make 43 = .ok (.iload 7, 2) := by decide +kernel
theorem dX7_make_45 : decode cX7_make 45 = .ok (.iconst 0, 1) := by decide +kernel
theorem dX7_make_46 : decode cX7_make 46 = .ok (.iadd, 1) := by decide +kernel
theorem dX7_make_47 : decode cX7_make 47 = .ok (.iload_n 2, 1) := by decide +kernel
theorem dX7_make_48 : decode cX7_make 48 = .ok (.iastore, 1) := by decide +kernel
theorem dX7_make_49 : decode cX7_make 49 = .ok (.aload_n 0, 1) := by decide +kernel
theorem dX7_make_50 : decode cX7_make 50 = .ok (.getfield 13, 3) := by decide +kernel
theorem dX7_make_53 : decode cX7_make 53 = .ok (.iload 7, 2) := by decide +kernel
theorem dX7_make_55 : decode cX7_make 55 = .ok (.iconst 1, 1) := by decide +kernel
theorem dX7_make_56 : decode cX7_make 56 = .ok (.iadd, 1) := by decide +kernel
theorem dX7_make_57 : decode cX7_make 57 = .ok (.aload_n 0, 1) := by decide +kernel
theorem dX7_make_58 : decode cX7_make 58 = .ok (.getfield 20, 3) := by decide +kernel
theorem dX7_make_61 : decode cX7_make 61 = .ok (.iload_n 1, 1) := by decide +kernel
theorem dX7_make_62 : decode cX7_make 62 = .ok (.iaload, 1) := by decide +kernel
theorem dX7_make_63 : decode cX7_make 63 = .ok (.iastore, 1) := by decide +kernel
theorem dX7_make_64 : decode cX7_make 64 = .ok (.aload_n 0, 1) := by decide +kernel
theorem dX7_make_65 : decode cX7_make 65 = .ok (.getfield 13, 3) := by decide +kernel
theorem dX7_make_68 : decode cX7_make 68 = .ok (.iload 7, 2) := by decide +kernel
theorem dX7_make_70 : decode cX7_make 70 = .ok (.iconst 2, 1) := by decide +kernel
theorem dX7_make_71 : decode cX7_make 71 = .ok (.iadd, 1) := by decide +kernel
theorem dX7_make_72 : decode cX7_make 72 = .ok (.iload_n 3, 1) := by decide +kernel
theorem dX7_make_73 : decode cX7_make 73 = .ok (.iastore, 1) := by decide +kernel
theorem dX7_make_74 : decode cX7_make 74 = .ok (.aload_n 0, 1) := by decide +kernel
theorem dX7_make_75 : decode cX7_make 75 = .ok (.getfield 13, 3) := by decide +kernel
theorem dX7_make_78 : decode cX7_make 78 = .ok (.iload 7, 2) := by decide +kernel
theorem dX7_make_80 : decode cX7_make 80 = .ok (.iconst 3, 1) := by decide +kernel
theorem dX7_make_81 : decode cX7_make 81 = .ok (.iadd, 1) := by decide +kernel
theorem dX7_make_82 : decode cX7_make 82 = .ok (.iload 4, 2) := by decide +kernel
theorem dX7_make_84 : decode cX7_make 84 = .ok (.iastore, 1) := by decide +kernel
theorem dX7_make_85 : decode cX7_make 85 = .ok (.aload_n 0, 1) := by decide +kernel
theorem dX7_make_86 : decode cX7_make 86 = .ok (.getfield 13, 3) := by decide +kernel
theorem dX7_make_89 : decode cX7_make 89 = .ok (.iload 7, 2) := by decide +kernel
theorem dX7_make_91 : decode cX7_make 91 = .ok (.iconst 4, 1) := by decide +kernel
theorem dX7_make_92 : decode cX7_make 92 = .ok (.iadd, 1) := by decide +kernel
theorem dX7_make_93 : decode cX7_make 93 = .ok (.iload 5, 2) := by decide +kernel
theorem dX7_make_95 : decode cX7_make 95 = .ok (.iastore, 1) := by decide +kernel
theorem dX7_make_96 : decode cX7_make 96 = .ok (.aload_n 0, 1) := by decide +kernel
theorem dX7_make_97 : decode cX7_make 97 = .ok (.getfield 23, 3) := by decide +kernel
theorem dX7_make_100 : decode cX7_make 100 = .ok (.bipush 100, 2) := by decide +kernel
theorem dX7_make_102 : decode cX7_make 102 = .ok (.iload_n 1, 1) := by decide +kernel
theorem dX7_make_103 : decode cX7_make 103 = .ok (.imul, 1) := by decide +kernel
theorem dX7_make_104 : decode cX7_make 104 = .ok (.iload 6, 2) := by decide +kernel
theorem dX7_make_106 : decode cX7_make 106 = .ok (.iadd, 1) := by decide +kernel
theorem dX7_make_107 : decode cX7_make 107 = .ok (.iconst 1, 1) := by decide +kernel
theorem dX7_make_108 : decode cX7_make 108 = .ok (.iastore, 1) := by decide +kernel
theorem dX7_make_109 : decode cX7_make 109 = .ok (.iconst 0, 1) := by decide +kernel
theorem dX7_make_110 : decode cX7_make 110 = .ok (.istore 8, 2) := by decide +kernel
theorem dX7_make_112 : decode cX7_make 112 = .ok (.iload 8, 2) := by decide +kernel
theorem dX7_make_114 : decode cX7_make 114 = .ok (.aload_n 0, 1) := by decide +kernel
theorem dX7_make_115 : decode cX7_make 115 = .ok (.getfield 7, 3) := by decide +kernel
theorem dX7_make_118 : decode cX7_make 118 = .ok (.if_icmp .ge 70, 3) := by decide +kernel
theorem dX7_make_121 : decode cX7_make 121 = .ok (.iconst 5, 1) := by decide +kernel
theorem dX7_make_122 : decode cX7_make 122 = .ok (.iload_n 1, 1) := by decide +kernel
theorem dX7_make_123 : decode cX7_make 123 = .ok (.imul, 1) := by decide +kernel
theorem dX7_make_124 : decode cX7_make 124 = .ok (.iload 8, 2) := by decide +kernel
theorem dX7_make_126 : decode cX7_make 126 = .ok (.iadd, 1) := by decide +kernel
theorem dX7_make_127 : decode cX7_make 127 = .ok (.istore 9, 2) := by decide +kernel
theorem dX7_make_129 : decode cX7_make 129 = .ok (.iload 8, 2) := by decide +kernel
theorem dX7_make_131 : decode cX7_make 131 = .ok (.iload_n 1, 1) := by decide +kernel
theorem dX7_make_132 : decode cX7_make 132 = .ok (.if_icmp .eq 50, 3) := by decide +kernel
theorem dX7_make_135 : decode cX7_make 135 = .ok (.aload_n 0, 1) := by decide +kernel
theorem dX7_make_136 : decode cX7_make 136 = .ok (.getfield 32, 3) := by decide +kernel
theorem dX7_make_139 : decode cX7_make 139 = .ok (.iload 9, 2) := by decide +kernel
theorem dX7_make_141 : decode cX7_make 141 = .ok (.iaload, 1) := by decide +kernel
theorem dX7_make_142 : decode cX7_make 142 = .ok (.bipush 10, 2) := by decide +kernel
theorem dX7_make_144 : decode cX7_make 144 = .ok (.if_icmp .ge 38, 3) := by decide +kernel
theorem dX7_make_147 : decode cX7_make 147 = .ok (.aload_n 0, 1) := by decide +kernel
theorem dX7_make_148 : decode cX7_make 148 = .ok (.getfield 29, 3) := by decide +kernel
theorem dX7_make_151 : decode cX7_make 151 = .ok (.bipush 10, 2) := by decide +kernel
theorem dX7_make_153 : decode cX7_make 153 = .ok (.iload 9, 2) := by decide +kernel
theorem dX7_make_155 : decode cX7_make 155 = .ok (.imul, 1) := by decide +kernel
theorem dX7_make_156 : decode cX7_make 156 = .ok (.aload_n 0, 1) := by decide +kernel
theorem dX7_make_157 : decode cX7_make 157 = .ok (.getfield 32, 3) := by decide +kernel
theorem dX7_make_160 : decode cX7_make 160 = .ok (.iload 9, 2) := by decide +kernel
theorem dX7_make_162 : decode cX7_make 162 = .ok (.iaload, 1) := by decide +kernel
theorem dX7_make_163 : decode cX7_make 163 = .ok (.iadd, 1) := by decide +kernel
theorem dX7_make_164 : decode cX7_make 164 = .ok (.aload_n 0, 1) := by decide +kernel
theorem dX7_make_165 : decode cX7_make 165 = .ok (.getfield 17, 3) := by decide +kernel
theorem dX7_make_168 : decode cX7_make 168 = .ok (.iload_n 1, 1) := by decide +kernel
theorem dX7_make_169 : decode cX7_make 169 = .ok (.iaload, 1) := by decide +kernel
theorem dX7_make_170 : decode cX7_make 170 = .ok (.iastore, 1) := by decide +kernel
theorem dX7_make_171 : decode cX7_make 171 = .ok (.aload_n 0, 1) := by decide +kernel
theorem dX7_make_172 : decode cX7_make 172 = .ok (.getfield 32, 3) := by decide +kernel
theorem dX7_make_175 : decode cX7_make 175 = .ok (.iload 9, 2) := by decide +kernel
theorem dX7_make_177 : decode cX7_make 177 = .ok (.dup2, 1) := by decide +kernel
theorem dX7_make_178 : decode cX7_make 178 = .ok (.iaload, 1) := by decide +kernel
theorem dX7_make_179 : decode cX7_make 179 = .ok (.iconst 1, 1) := by decide +kernel
theorem dX7_make_180 : decode cX7_make 180 = .ok (.iadd, 1) := by decide +kernel
theorem dX7_make_181 : decode cX7_make 181 = .ok (.iastore, 1) := by decide +kernel
theorem dX7_make_182 : decode cX7_make 182 = .ok (.iinc 8 1, 3) := by decide +kernel
theorem dX7_make_185 : decode cX7_make 185 = .ok (.goto (-73), 3) := by decide +kernel
theorem dX7_make_188 : decode cX7_make 188 = .ok (.aload_n 0, 1) := by decide +kernel
theorem dX7_make_189 : decode cX7_make 189 = .ok (.getfield 17, 3) := by decide +kernel
theorem dX7_make_192 : decode cX7_make 192 = .ok (.iload_n 1, 1) := by decide +kernel
theorem dX7_make_193 : decode cX7_make 193 = .ok (.iaload, 1) := by decide +kernel
theorem dX7_make_194 : decode cX7_make 194 = .ok (.ireturn, 1) := by decide +kernel
set_option maxRecDepth 20000 in
theorem ggX7_penUp_X7_isSite : GoodIn wsX7_penUp wsX7_isSite := goodIn_r _ [11, 12, 13, 14, 10, 15, 27, 28, 29, 30, 31, 32, 33, 34, 35, 36, 37, 38, 39, 40] (by decide +kernel) (by decide +kernel)
set_option maxRecDepth 20000 in
theorem gX7_penUp_X7_isSite : GoodIn wsX7_penUp (wsV RX7 54 RX7 yX7_isSite wsX7_isSite) := goodIn_app (goodIn_of _ (by decide +kernel)) ggX7_penUp_X7_isSite
set_option maxRecDepth 20000 in
theorem ggX7_penUp_X7_make : GoodIn wsX7_penUp wsX7_make := goodIn_r _ [19, 4, 20, 6, 21, 12, 22, 23, 24, 25, 10, 26, 27, 28, 29, 30, 31, 32, 33, 34, 35, 36, 37, 38, 39, 40] (by decide +kernel) (by decide +kernel)
set_option maxRecDepth 20000 in
theorem gX7_penUp_X7_make : GoodIn wsX7_penUp (wsV RX7 102 RX7 yX7_make wsX7_make) := goodIn_app (goodIn_of _ (by decide +kernel)) ggX7_penUp_X7_make
set_option maxRecDepth 20000 in
theorem ggX7_penUp_X7_place : GoodIn wsX7_penUp wsX7_place := goodIn_r _ [26] (by decide +kernel) (by decide +kernel)
set_option maxRecDepth 20000 in
theorem gX7_penUp_X7_place : GoodIn wsX7_penUp (va_wsS RX7 62 yX7_place wsX7_place) := goodIn_app (goodIn_of _ (by decide +kernel)) ggX7_penUp_X7_place
theorem dX7_penUp_0 : decode cX7_penUp 0 = .ok (.aload_n 0, 1) := by decide +kernel
theorem dX7_penUp_1 : decode cX7_penUp 1 = .ok (.iload_n 1, 1) := by decide +kernel
theorem dX7_penUp_2 : decode cX7_penUp 2 = .ok (.invokevirtual 54, 3) := by decide +kernel
theorem dX7_penUp_5 : decode cX7_penUp 5 = .ok (.ifCond .ne 6, 3) := by decide +kernel
theorem dX7_penUp_8 : decode cX7_penUp 8 = .ok (.ldc 89, 2) := by decide +kernel
theorem dX7_penUp_10 : decode cX7_penUp 10 = .ok (.ireturn, 1) := by decide +kernel
theorem dX7_penUp_11 : decode cX7_penUp 11 = .ok (.bipush 19, 2) := by decide +kernel
theorem dX7_penUp_13 : decode cX7_penUp 13 = .ok (.iload_n 1, 1) := by decide +kernel
theorem dX7_penUp_14 : decode cX7_penUp 14 = .ok (.imul, 1) := by decide +kernel
theorem dX7_penUp_15 : decode cX7_penUp 15 = .ok (.istore_n 2, 1) := by decide +kernel
theorem dX7_penUp_16 : decode cX7_penUp 16 = .ok (.aload_n 0, 1) := by decide +kernel
theorem dX7_penUp_17 : decode cX7_penUp 17 = .ok (.getfield 26, 3) := by decide +kernel
theorem dX7_penUp_20 : decode cX7_penUp 20 = .ok (.iload_n 2, 1) := by decide +kernel
theorem dX7_penUp_21 : decode cX7_penUp 21 = .ok (.iaload, 1) := by decide +kernel
theorem dX7_penUp_22 : decode cX7_penUp 22 = .ok (.ifCond .ne 6, 3) := by decide +kernel
theorem dX7_penUp_25 : decode cX7_penUp 25 = .ok (.ldc 101, 2) := by decide +kernel
theorem dX7_penUp_27 : decode cX7_penUp 27 = .ok (.ireturn, 1) := by decide +kernel
theorem dX7_penUp_28 : decode cX7_penUp 28 = .ok (.aload_n 0, 1) := by decide +kernel
theorem dX7_penUp_29 : decode cX7_penUp 29 = .ok (.getfield 17, 3) := by decide +kernel
theorem dX7_penUp_32 : decode cX7_penUp 32 = .ok (.iload_n 1, 1) := by decide +kernel
theorem dX7_penUp_33 : decode cX7_penUp 33 = .ok (.iaload, 1) := by decide +kernel
theorem dX7_penUp_34 : decode cX7_penUp 34 = .ok (.bipush 20, 2) := by decide +kernel
theorem dX7_penUp_36 : decode cX7_penUp 36 = .ok (.if_icmp .ne 6, 3) := by decide +kernel
theorem dX7_penUp_39 : decode cX7_penUp 39 = .ok (.ldc 94, 2) := by decide +kernel
theorem dX7_penUp_41 : decode cX7_penUp 41 = .ok (.ireturn, 1) := by decide +kernel
theorem dX7_penUp_42 : decode cX7_penUp 42 = .ok (.aload_n 0, 1) := by decide +kernel
theorem dX7_penUp_43 : decode cX7_penUp 43 = .ok (.iload_n 1, 1) := by decide +kernel
theorem dX7_penUp_44 : decode cX7_penUp 44 = .ok (.iconst 0, 1) := by decide +kernel
theorem dX7_penUp_45 : decode cX7_penUp 45 = .ok (.aload_n 0, 1) := by decide +kernel
theorem dX7_penUp_46 : decode cX7_penUp 46 = .ok (.getfield 26, 3) := by decide +kernel
theorem dX7_penUp_49 : decode cX7_penUp 49 = .ok (.iload_n 2, 1) := by decide +kernel
theorem dX7_penUp_50 : decode cX7_penUp 50 = .ok (.iconst 1, 1) := by decide +kernel
theorem dX7_penUp_51 : decode cX7_penUp 51 = .ok (.iadd, 1) := by decide +kernel
theorem dX7_penUp_52 : decode cX7_penUp 52 = .ok (.iaload, 1) := by decide +kernel
theorem dX7_penUp_53 : decode cX7_penUp 53 = .ok (.aload_n 0, 1) := by decide +kernel
theorem dX7_penUp_54 : decode cX7_penUp 54 = .ok (.getfield 26, 3) := by decide +kernel
theorem dX7_penUp_57 : decode cX7_penUp 57 = .ok (.iload_n 2, 1) := by decide +kernel
theorem dX7_penUp_58 : decode cX7_penUp 58 = .ok (.iconst 2, 1) := by decide +kernel
theorem dX7_penUp_59 : decode cX7_penUp 59 = .ok (.iadd, 1) := by decide +kernel
theorem dX7_penUp_60 : decode cX7_penUp 60 = .ok (.iaload, 1) := by decide +kernel
theorem dX7_penUp_61 : decode cX7_penUp 61 = .ok (.aload_n 0, 1) := by decide +kernel
theorem dX7_penUp_62 : decode cX7_penUp 62 = .ok (.getfield 26, 3) := by decide +kernel
theorem dX7_penUp_65 : decode cX7_penUp 65 = .ok (.iload_n 2, 1) := by decide +kernel
theorem dX7_penUp_66 : decode cX7_penUp 66 = .ok (.iaload, 1) := by decide +kernel
theorem dX7_penUp_67 : decode cX7_penUp 67 = .ok (.invokevirtual 102, 3) := by decide +kernel
theorem dX7_penUp_70 : decode cX7_penUp 70 = .ok (.istore_n 3, 1) := by decide +kernel
theorem dX7_penUp_71 : decode cX7_penUp 71 = .ok (.iconst 0, 1) := by decide +kernel
theorem dX7_penUp_72 : decode cX7_penUp 72 = .ok (.istore 4, 2) := by decide +kernel
theorem dX7_penUp_74 : decode cX7_penUp 74 = .ok (.iload 4, 2) := by decide +kernel
theorem dX7_penUp_76 : decode cX7_penUp 76 = .ok (.bipush 16, 2) := by decide +kernel
theorem dX7_penUp_78 : decode cX7_penUp 78 = .ok (.if_icmp .ge 38, 3) := by decide +kernel
theorem dX7_penUp_81 : decode cX7_penUp 81 = .ok (.aload_n 0, 1) := by decide +kernel
theorem dX7_penUp_82 : decode cX7_penUp 82 = .ok (.getfield 13, 3) := by decide +kernel
theorem dX7_penUp_85 : decode cX7_penUp 85 = .ok (.bipush 21, 2) := by decide +kernel
theorem dX7_penUp_87 : decode cX7_penUp 87 = .ok (.iload_n 1, 1) := by decide +kernel
theorem dX7_penUp_88 : decode cX7_penUp 88 = .ok (.iload_n 3, 1) := by decide +kernel
theorem dX7_penUp_89 : decode cX7_penUp 89 = .ok (.invokestatic 62, 3) := by decide +kernel
theorem dX7_penUp_92 : decode cX7_penUp 92 = .ok (.imul, 1) := by decide +kernel
theorem dX7_penUp_93 : decode cX7_penUp 93 = .ok (.iconst 5, 1) := by decide +kernel
theorem dX7_penUp_94 : decode cX7_penUp 94 = .ok (.iadd, 1) := by decide +kernel
theorem dX7_penUp_95 : decode cX7_penUp 95 = .ok (.iload 4, 2) := by decide +kernel
theorem dX7_penUp_97 : decode cX7_penUp 97 = .ok (.iadd, 1) := by decide +kernel
theorem dX7_penUp_98 : decode cX7_penUp 98 = .ok (.aload_n 0, 1) := by decide +kernel
theorem dX7_penUp_99 : decode cX7_penUp 99 = .ok (.getfield 26, 3) := by decide +kernel
theorem dX7_penUp_102 : decode cX7_penUp 102 = .ok (.iload_n 2, 1) := by decide +kernel
theorem dX7_penUp_103 : decode cX7_penUp 103 = .ok (.iconst 3, 1) := by decide +kernel
theorem dX7_penUp_104 : decode cX7_penUp 104 = .ok (.iadd, 1) := by decide +kernel
theorem dX7_penUp_105 : decode cX7_penUp 105 = .ok (.iload 4, 2) := by decide +kernel
theorem dX7_penUp_107 : decode cX7_penUp 107 = .ok (.iadd, 1) := by decide +kernel
theorem dX7_penUp_108 : decode cX7_penUp 108 = .ok (.iaload, 1) := by decide +kernel
theorem dX7_penUp_109 : decode cX7_penUp 109 = .ok (.iastore, 1) := by decide +kernel
theorem dX7_penUp_110 : decode cX7_penUp 110 = .ok (.iinc 4 1, 3) := by decide +kernel
theorem dX7_penUp_113 : decode cX7_penUp 113 = .ok (.goto (-39), 3) := by decide +kernel
theorem dX7_penUp_116 : decode cX7_penUp 116 = .ok (.aload_n 0, 1) := by decide +kernel
theorem dX7_penUp_117 : decode cX7_penUp 117 = .ok (.getfield 26, 3) := by decide +kernel
theorem dX7_penUp_120 : decode cX7_penUp 120 = .ok (.iload_n 2, 1) := by decide +kernel
theorem dX7_penUp_121 : decode cX7_penUp 121 = .ok (.iconst 0, 1) := by decide +kernel
theorem dX7_penUp_122 : decode cX7_penUp 122 = .ok (.iastore, 1) := by decide +kernel
theorem dX7_penUp_123 : decode cX7_penUp 123 = .ok (.iload_n 3, 1) := by decide +kernel
theorem dX7_penUp_124 : decode cX7_penUp 124 = .ok (.ireturn, 1) := by decide +kernel
set_option maxRecDepth 20000 in
theorem ggX7_undo_X7_isSite : GoodIn wsX7_undo wsX7_isSite := goodIn_r _ [9, 10, 11, 12, 8, 13, 50, 51, 52, 53, 54, 55, 56, 57, 58, 59, 60, 61, 62, 63] (by decide +kernel) (by decide +kernel)
set_option maxRecDepth 20000 in
theorem gX7_undo_X7_isSite : GoodIn wsX7_undo (wsV RX7 54 RX7 yX7_isSite wsX7_isSite) := goodIn_app (goodIn_of _ (by decide +kernel)) ggX7_undo_X7_isSite
set_option maxRecDepth 20000 in
theorem ggX7_undo_X7_place : GoodIn wsX7_undo wsX7_place := goodIn_r _ [16] (by decide +kernel) (by decide +kernel)
set_option maxRecDepth 20000 in
theorem gX7_undo_X7_place : GoodIn wsX7_undo (va_wsS RX7 62 yX7_place wsX7_place) := goodIn_app (goodIn_of _ (by decide +kernel)) ggX7_undo_X7_place
set_option maxRecDepth 20000 in
theorem ggX7_undo_X7_isVisible : GoodIn wsX7_undo wsX7_isVisible := goodIn_r _ [20, 21, 22, 23, 8, 24, 25, 26, 27, 28, 29, 30, 31, 32, 33, 34, 11, 12, 13, 35, 36, 37, 38, 14, 15, 16, 39, 40, 41, 42, 50, 51, 52, 53, 54, 55, 56, 57, 58, 59, 60, 61, 62, 63] (by decide +kernel) (by decide +kernel)
set_option maxRecDepth 20000 in
theorem gX7_undo_X7_isVisible : GoodIn wsX7_undo (wsV RX7 83 RX7 yX7_isVisible wsX7_isVisible) := goodIn_app (goodIn_of _ (by decide +kernel)) ggX7_undo_X7_isVisible
set_option maxRecDepth 20000 in
theorem ggX7_undo_X7_make : GoodIn wsX7_undo wsX7_make := goodIn_r _ [46, 2, 47, 30, 25, 10, 48, 49, 14, 15, 8, 16, 50, 51, 52, 53, 54, 55, 56, 57, 58, 59, 60, 61, 62, 63] (by decide +kernel) (by decide +kernel)
set_option maxRecDepth 20000 in
theorem gX7_undo_X7_make : GoodIn wsX7_undo (wsV RX7 102 RX7 yX7_make wsX7_make) := goodIn_app (goodIn_of _ (by decide +kernel)) ggX7_undo_X7_make
theorem dX7_undo_0 : decode cX7_undo 0 = .ok (.aload_n 0, 1) := by decide +kernel
theorem dX7_undo_1 : decode cX7_undo 1 = .ok (.iload_n 1, 1) := by decide +kernel
theorem dX7_undo_2 : decode cX7_undo 2 = .ok (.invokevirtual 54, 3) := by decide +kernel
theorem dX7_undo_5 : decode cX7_undo 5 = .ok (.ifCond .ne 6, 3) := by decide +kernel
theorem dX7_undo_8 : decode cX7_undo 8 = .ok (.ldc 89, 2) := by decide +kernel
theorem dX7_undo_10 : decode cX7_undo 10 = .ok (.ireturn, 1) := by decide +kernel
theorem dX7_undo_11 : decode cX7_undo 11 = .ok (.aload_n 0, 1) := by decide +kernel
theorem dX7_undo_12 : decode cX7_undo 12 = .ok (.getfield 17, 3) := by decide +kernel
theorem dX7_undo_15 : decode cX7_undo 15 = .ok (.iload_n 1, 1) := by decide +kernel
theorem dX7_undo_16 : decode cX7_undo 16 = .ok (.iaload, 1) := by decide +kernel
theorem dX7_undo_17 : decode cX7_undo 17 = .ok (.istore_n 2, 1) := by decide +kernel
theorem dX7_undo_18 : decode cX7_undo 18 = .ok (.iload_n 2, 1) := by decide +kernel
theorem dX7_undo_19 : decode cX7_undo 19 = .ok (.ifCond .le 22, 3) := by decide +kernel
theorem dX7_undo_22 : decode cX7_undo 22 = .ok (.aload_n 0, 1) := by decide +kernel
theorem dX7_undo_23 : decode cX7_undo 23 = .ok (.iload_n 1, 1) := by decide +kernel
theorem dX7_undo_24 : decode cX7_undo 24 = .ok (.iload_n 1, 1) := by decide +kernel
theorem dX7_undo_25 : decode cX7_undo 25 = .ok (.iload_n 2, 1) := by decide +kernel
theorem dX7_undo_26 : decode cX7_undo 26 = .ok (.invokestatic 62, 3) := by decide +kernel
theorem dX7_undo_29 : decode cX7_undo 29 = .ok (.invokevirtual 83, 3) := by decide +kernel
theorem dX7_undo_32 : decode cX7_undo 32 = .ok (.ifCond .ne 9, 3) := by decide +kernel
theorem dX7_undo_35 : decode cX7_undo 35 = .ok (.iinc 2 (-1), 3) := by decide +kernel
theorem dX7_undo_38 : decode cX7_undo 38 = .ok (.goto (-20), 3) := by decide +kernel
theorem dX7_undo_41 : decode cX7_undo 41 = .ok (.iload_n 2, 1) := by decide +kernel
theorem dX7_undo_42 : decode cX7_undo 42 = .ok (.ifCond .ne 6, 3) := by decide +kernel
theorem dX7_undo_45 : decode cX7_undo 45 = .ok (.ldc 101, 2) := by decide +kernel
theorem dX7_undo_47 : decode cX7_undo 47 = .ok (.ireturn, 1) := by decide +kernel
theorem dX7_undo_48 : decode cX7_undo 48 = .ok (.aload_n 0, 1) := by decide +kernel
theorem dX7_undo_49 : decode cX7_undo 49 = .ok (.getfield 17, 3) := by decide +kernel
theorem dX7_undo_52 : decode cX7_undo 52 = .ok (.iload_n 1, 1) := by decide +kernel
theorem dX7_undo_53 : decode cX7_undo 53 = .ok (.iaload, 1) := by decide +kernel
theorem dX7_undo_54 : decode cX7_undo 54 = .ok (.bipush 20, 2) := by decide +kernel
theorem dX7_undo_56 : decode cX7_undo 56 = .ok (.if_icmp .ne 6, 3) := by decide +kernel
theorem dX7_undo_59 : decode cX7_undo 59 = .ok (.ldc 94, 2) := by decide +kernel
theorem dX7_undo_61 : decode cX7_undo 61 = .ok (.ireturn, 1) := by decide +kernel
theorem dX7_undo_62 : decode cX7_undo 62 = .ok (.aload_n 0, 1) := by decide +kernel
theorem dX7_undo_63 : decode cX7_undo 63 = .ok (.iload_n 1, 1) := by decide +kernel
theorem dX7_undo_64 : decode cX7_undo 64 = .ok (.iconst 1, 1) := by decide +kernel
theorem dX7_undo_65 : decode cX7_undo 65 = .ok (.iload_n 1, 1) := by decide +kernel
theorem dX7_undo_66 : decode cX7_undo 66 = .ok (.iconst (-1), 1) := by decide +kernel
theorem dX7_undo_67 : decode cX7_undo 67 = .ok (.iload_n 2, 1) := by decide +kernel
theorem dX7_undo_68 : decode cX7_undo 68 = .ok (.invokevirtual 102, 3) := by decide +kernel
theorem dX7_undo_71 : decode cX7_undo 71 = .ok (.istore_n 3, 1) := by decide +kernel
theorem dX7_undo_72 : decode cX7_undo 72 = .ok (.iload_n 3, 1) := by decide +kernel
theorem dX7_undo_73 : decode cX7_undo 73 = .ok (.ifCond .le 7, 3) := by decide +kernel
theorem dX7_undo_76 : decode cX7_undo 76 = .ok (.iload_n 2, 1) := by decide +kernel
theorem dX7_undo_77 : decode cX7_undo 77 = .ok (.goto 4, 3) := by decide +kernel
theorem dX7_undo_80 : decode cX7_undo 80 = .ok (.iconst 0, 1) := by decide +kernel
theorem dX7_undo_81 : decode cX7_undo 81 = .ok (.ireturn, 1) := by decide +kernel
set_option maxRecDepth 20000 in
theorem ggX7_redo_X7_isSite : GoodIn wsX7_redo wsX7_isSite := goodIn_r _ [9, 10, 11, 12, 8, 13, 50, 51, 52, 53, 54, 55, 56, 57, 58, 59, 60, 61, 62, 63] (by decide +kernel) (by decide +kernel)
set_option maxRecDepth 20000 in
theorem gX7_redo_X7_isSite : GoodIn wsX7_redo (wsV RX7 54 RX7 yX7_isSite wsX7_isSite) := goodIn_app (goodIn_of _ (by decide +kernel)) ggX7_redo_X7_isSite
set_option maxRecDepth 20000 in
theorem ggX7_redo_X7_place : GoodIn wsX7_redo wsX7_place := goodIn_r _ [16] (by decide +kernel) (by decide +kernel)
set_option maxRecDepth 20000 in
theorem gX7_redo_X7_place : GoodIn wsX7_redo (va_wsS RX7 62 yX7_place wsX7_place) := goodIn_app (goodIn_of _ (by decide +kernel)) ggX7_redo_X7_place
set_option maxRecDepth 20000 in
theorem ggX7_redo_X7_of : GoodIn wsX7_redo wsX7_of := goodIn_r _ [20, 21, 50, 51, 52, 53, 54, 55, 56, 57, 58, 59, 60, 61, 62, 63] (by decide +kernel) (by decide +kernel)
set_option maxRecDepth 20000 in
theorem gX7_redo_X7_of : GoodIn wsX7_redo (wsV RX7 58 RX7 yX7_of wsX7_of) := goodIn_app (goodIn_of _ (by decide +kernel)) ggX7_redo_X7_of
set_option maxRecDepth 20000 in
theorem ggX7_redo_X7_aim : GoodIn wsX7_redo wsX7_aim := goodIn_r _ [25, 17, 18, 19, 8, 20, 21, 14, 15, 16, 50, 51, 52, 53, 54, 55, 56, 57, 58, 59, 60, 61, 62, 63] (by decide +kernel) (by decide +kernel)
set_option maxRecDepth 20000 in
theorem gX7_redo_X7_aim : GoodIn wsX7_redo (wsV RX7 69 RX7 yX7_aim wsX7_aim) := goodIn_app (goodIn_of _ (by decide +kernel)) ggX7_redo_X7_aim
set_option maxRecDepth 20000 in
theorem ggX7_redo_X7_isVisible : GoodIn wsX7_redo wsX7_isVisible := goodIn_r _ [29, 30, 31, 32, 8, 33, 34, 17, 18, 19, 20, 21, 35, 36, 37, 38, 11, 12, 13, 22, 23, 24, 25, 14, 15, 16, 39, 40, 41, 42, 50, 51, 52, 53, 54, 55, 56, 57, 58, 59, 60, 61, 62, 63] (by decide +kernel) (by decide +kernel)
set_option maxRecDepth 20000 in
theorem gX7_redo_X7_isVisible : GoodIn wsX7_redo (wsV RX7 83 RX7 yX7_isVisible wsX7_isVisible) := goodIn_app (goodIn_of _ (by decide +kernel)) ggX7_redo_X7_isVisible
set_option maxRecDepth 20000 in
theorem ggX7_redo_X7_make : GoodIn wsX7_redo wsX7_make := goodIn_r _ [46, 2, 47, 21, 34, 10, 48, 49, 14, 15, 8, 16, 50, 51, 52, 53, 54, 55, 56, 57, 58, 59, 60, 61, 62, 63] (by decide +kernel) (by decide +kernel)
set_option maxRecDepth 20000 in
theorem gX7_redo_X7_make : GoodIn wsX7_redo (wsV RX7 102 RX7 yX7_make wsX7_make) := goodIn_app (goodIn_of _ (by decide +kernel)) ggX7_redo_X7_make
theorem dX7_redo_0 : decode cX7_redo 0 = .ok (.aload_n 0, 1) := by decide +kernel
theorem dX7_redo_1 : decode cX7_redo 1 = .ok (.iload_n 1, 1) := by decide +kernel
theorem dX7_redo_2 : decode cX7_redo 2 = .ok (.invokevirtual 54, 3) := by decide +kernel
theorem dX7_redo_5 : decode cX7_redo 5 = .ok (.ifCond .ne 6, 3) := by decide +kernel
theorem dX7_redo_8 : decode cX7_redo 8 = .ok (.ldc 89, 2) := by decide +kernel
theorem dX7_redo_10 : decode cX7_redo 10 = .ok (.ireturn, 1) := by decide +kernel
theorem dX7_redo_11 : decode cX7_redo 11 = .ok (.iconst 0, 1) := by decide +kernel
theorem dX7_redo_12 : decode cX7_redo 12 = .ok (.istore_n 2, 1) := by decide +kernel
theorem dX7_redo_13 : decode cX7_redo 13 = .ok (.iconst 1, 1) := by decide +kernel
theorem dX7_redo_14 : decode cX7_redo 14 = .ok (.istore_n 3, 1) := by decide +kernel
theorem dX7_redo_15 : decode cX7_redo 15 = .ok (.iload_n 3, 1) := by decide +kernel
theorem dX7_redo_16 : decode cX7_redo 16 = .ok (.aload_n 0, 1) := by decide +kernel
theorem dX7_redo_17 : decode cX7_redo 17 = .ok (.getfield 17, 3) := by decide +kernel
theorem dX7_redo_20 : decode cX7_redo 20 = .ok (.iload_n 1, 1) := by decide +kernel
theorem dX7_redo_21 : decode cX7_redo 21 = .ok (.iaload, 1) := by decide +kernel
theorem dX7_redo_22 : decode cX7_redo 22 = .ok (.if_icmp .gt 65, 3) := by decide +kernel
theorem dX7_redo_25 : decode cX7_redo 25 = .ok (.iload_n 1, 1) := by decide +kernel
theorem dX7_redo_26 : decode cX7_redo 26 = .ok (.iload_n 3, 1) := by decide +kernel
theorem dX7_redo_27 : decode cX7_redo 27 = .ok (.invokestatic 62, 3) := by decide +kernel
theorem dX7_redo_30 : decode cX7_redo 30 = .ok (.istore 4, 2) := by decide +kernel
theorem dX7_redo_32 : decode cX7_redo 32 = .ok (.aload_n 0, 1) := by decide +kernel
theorem dX7_redo_33 : decode cX7_redo 33 = .ok (.iload 4, 2) := by decide +kernel
theorem dX7_redo_35 : decode cX7_redo 35 = .ok (.iconst 0, 1) := by decide +kernel
theorem dX7_redo_36 : decode cX7_redo 36 = .ok (.invokevirtual 58, 3) := by decide +kernel
theorem dX7_redo_39 : decode cX7_redo 39 = .ok (.iconst 1, 1) := by decide +kernel
theorem dX7_redo_40 : decode cX7_redo 40 = .ok (.if_icmp .ne 21, 3) := by decide +kernel
theorem dX7_redo_43 : decode cX7_redo 43 = .ok (.aload_n 0, 1) := by decide +kernel
theorem dX7_redo_44 : decode cX7_redo 44 = .ok (.iload_n 1, 1) := by decide +kernel
theorem dX7_redo_45 : decode cX7_redo 45 = .ok (.aload_n 0, 1) := by decide +kernel
theorem dX7_redo_46 : decode cX7_redo 46 = .ok (.iload 4, 2) := by decide +kernel
theorem dX7_redo_48 : decode cX7_redo 48 = .ok (.invokevirtual 69, 3) := by decide +kernel
theorem dX7_redo_51 : decode cX7_redo 51 = .ok (.invokevirtual 83, 3) := by decide +kernel
theorem dX7_redo_54 : decode cX7_redo 54 = .ok (.ifCond .ne 7, 3) := by decide +kernel
theorem dX7_redo_57 : decode cX7_redo 57 = .ok (.iconst 1, 1) := by decide +kernel
theorem dX7_redo_58 : decode cX7_redo 58 = .ok (.goto 4, 3) := by decide +kernel
theorem dX7_redo_61 : decode cX7_redo 61 = .ok (.iconst 0, 1) := by decide +kernel
theorem dX7_redo_62 : decode cX7_redo 62 = .ok (.istore 5, 2) := by decide +kernel
theorem dX7_redo_64 : decode cX7_redo 64 = .ok (.iload 5, 2) := by decide +kernel
theorem dX7_redo_66 : decode cX7_redo 66 = .ok (.ifCond .eq 13, 3) := by decide +kernel
theorem dX7_redo_69 : decode cX7_redo 69 = .ok (.aload_n 0, 1) := by decide +kernel
theorem dX7_redo_70 : decode cX7_redo 70 = .ok (.iload 4, 2) := by decide +kernel
theorem dX7_redo_72 : decode cX7_redo 72 = .ok (.iconst 4, 1) := by decide +kernel
theorem dX7_redo_73 : decode cX7_redo 73 = .ok (.invokevirtual 58, 3) := by decide +kernel
theorem dX7_redo_76 : decode cX7_redo 76 = .ok (.goto 4, 3) := by decide +kernel
theorem dX7_redo_79 : decode cX7_redo 79 = .ok (.iload_n 2, 1) := by decide +kernel
theorem dX7_redo_80 : decode cX7_redo 80 = .ok (.istore_n 2, 1) := by decide +kernel
theorem dX7_redo_81 : decode cX7_redo 81 = .ok (.iinc 3 1, 3) := by decide +kernel
theorem dX7_redo_84 : decode cX7_redo 84 = .ok (.goto (-69), 3) := by decide +kernel
theorem dX7_redo_87 : decode cX7_redo 87 = .ok (.iload_n 2, 1) := by decide +kernel
theorem dX7_redo_88 : decode cX7_redo 88 = .ok (.ifCond .ne 6, 3) := by decide +kernel
theorem dX7_redo_91 : decode cX7_redo 91 = .ok (.ldc 101, 2) := by decide +kernel
theorem dX7_redo_93 : decode cX7_redo 93 = .ok (.ireturn, 1) := by decide +kernel
theorem dX7_redo_94 : decode cX7_redo 94 = .ok (.aload_n 0, 1) := by decide +kernel
theorem dX7_redo_95 : decode cX7_redo 95 = .ok (.getfield 17, 3) := by decide +kernel
theorem dX7_redo_98 : decode cX7_redo 98 = .ok (.iload_n 1, 1) := by decide +kernel
theorem dX7_redo_99 : decode cX7_redo 99 = .ok (.iaload, 1) := by decide +kernel
theorem dX7_redo_100 : decode cX7_redo 100 = .ok (.bipush 20, 2) := by decide +kernel
theorem dX7_redo_102 : decode cX7_redo 102 = .ok (.if_icmp .ne 6, 3) := by decide +kernel
theorem dX7_redo_105 : decode cX7_redo 105 = .ok (.ldc 94, 2) := by decide +kernel
theorem dX7_redo_107 : decode cX7_redo 107 = .ok (.ireturn, 1) := by decide +kernel
theorem dX7_redo_108 : decode cX7_redo 108 = .ok (.aload_n 0, 1) := by decide +kernel
theorem dX7_redo_109 : decode cX7_redo 109 = .ok (.iload_n 1, 1) := by decide +kernel
theorem dX7_redo_110 : decode cX7_redo 110 = .ok (.iconst 2, 1) := by decide +kernel
theorem dX7_redo_111 : decode cX7_redo 111 = .ok (.iload_n 1, 1) := by decide +kernel
theorem dX7_redo_112 : decode cX7_redo 112 = .ok (.iconst (-1), 1) := by decide +kernel
theorem dX7_redo_113 : decode cX7_redo 113 = .ok (.iload_n 2, 1) := by decide +kernel
theorem dX7_redo_114 : decode cX7_redo 114 = .ok (.invokevirtual 102, 3) := by decide +kernel
theorem dX7_redo_117 : decode cX7_redo 117 = .ok (.istore_n 3, 1) := by decide +kernel
theorem dX7_redo_118 : decode cX7_redo 118 = .ok (.iload_n 3, 1) := by decide +kernel
theorem dX7_redo_119 : decode cX7_redo 119 = .ok (.ifCond .le 7, 3) := by decide +kernel
theorem dX7_redo_122 : decode cX7_redo 122 = .ok (.iload_n 2, 1) := by decide +kernel
theorem dX7_redo_123 : decode cX7_redo 123 = .ok (.goto 4, 3) := by decide +kernel
theorem dX7_redo_126 : decode cX7_redo 126 = .ok (.iconst 0, 1) := by decide +kernel
theorem dX7_redo_127 : decode cX7_redo 127 = .ok (.ireturn, 1) := by decide +kernel
set_option maxRecDepth 20000 in
theorem ggX7_lift_X7_isSite : GoodIn wsX7_lift wsX7_isSite := goodIn_r _ [11, 12, 13, 14, 10, 15, 61, 62, 63, 64, 65, 66, 67, 68, 69, 70, 71, 72, 73, 74] (by decide +kernel) (by decide +kernel)
set_option maxRecDepth 20000 in
theorem gX7_lift_X7_isSite : GoodIn wsX7_lift (wsV RX7 54 RX7 yX7_isSite wsX7_isSite) := goodIn_app (goodIn_of _ (by decide +kernel)) ggX7_lift_X7_isSite
set_option maxRecDepth 20000 in
theorem ggX7_lift_X7_in : GoodIn wsX7_lift wsX7_in := goodIn_r _ [15] (by decide +kernel) (by decide +kernel)
set_option maxRecDepth 20000 in
theorem gX7_lift_X7_in : GoodIn wsX7_lift (va_wsS RX7 50 yX7_in wsX7_in) := goodIn_app (goodIn_of _ (by decide +kernel)) ggX7_lift_X7_in
set_option maxRecDepth 20000 in
theorem ggX7_lift_X7_workOut : GoodIn wsX7_lift wsX7_workOut := goodIn_r _ [19, 2, 20, 6, 21, 22, 23, 10, 24, 25, 26, 27, 28, 29, 30, 31, 32, 33, 34, 35, 36, 37, 38, 13, 14, 15, 39, 40, 41, 42, 43, 44, 45, 46, 47, 48, 49, 50, 51, 52, 53, 61, 62, 63, 64, 65, 66, 67, 68, 69, 70, 71, 72, 73, 74] (by decide +kernel) (by decide +kernel)
set_option maxRecDepth 20000 in
theorem gX7_lift_X7_workOut : GoodIn wsX7_lift (wsV RX7 98 RX7 yX7_workOut wsX7_workOut) := goodIn_app (goodIn_of _ (by decide +kernel)) ggX7_lift_X7_workOut
set_option maxRecDepth 20000 in
theorem ggX7_lift_X7_make : GoodIn wsX7_lift wsX7_make := goodIn_r _ [57, 4, 58, 34, 29, 12, 59, 60, 43, 44, 10, 45, 61, 62, 63, 64, 65, 66, 67, 68, 69, 70, 71, 72, 73, 74] (by decide +kernel) (by decide +kernel)
set_option maxRecDepth 20000 in
theorem gX7_lift_X7_make : GoodIn wsX7_lift (wsV RX7 102 RX7 yX7_make wsX7_make) := goodIn_app (goodIn_of _ (by decide +kernel)) ggX7_lift_X7_make
theorem dX7_lift_0 : decode cX7_lift 0 = .ok (.aload_n 0, 1) := by decide +kernel
theorem dX7_lift_1 : decode cX7_lift 1 = .ok (.iload_n 1, 1) := by decide +kernel
theorem dX7_lift_2 : decode cX7_lift 2 = .ok (.invokevirtual 54, 3) := by decide +kernel
theorem dX7_lift_5 : decode cX7_lift 5 = .ok (.ifCond .eq 16, 3) := by decide +kernel
theorem dX7_lift_8 : decode cX7_lift 8 = .ok (.iload_n 2, 1) := by decide +kernel
theorem dX7_lift_9 : decode cX7_lift 9 = .ok (.ifCond .lt 12, 3) := by decide +kernel
theorem dX7_lift_12 : decode cX7_lift 12 = .ok (.iload_n 3, 1) := by decide +kernel
theorem dX7_lift_13 : decode cX7_lift 13 = .ok (.iconst 0, 1) := by decide +kernel
theorem dX7_lift_14 : decode cX7_lift 14 = .ok (.iconst 3, 1) := by decide +kernel
theorem dX7_lift_15 : decode cX7_lift 15 = .ok (.invokestatic 50, 3) := by decide +kernel
theorem dX7_lift_18 : decode cX7_lift 18 = .ok (.ifCond .ne 6, 3) := by decide +kernel
theorem dX7_lift_21 : decode cX7_lift 21 = .ok (.ldc 89, 2) := by decide +kernel
theorem dX7_lift_23 : decode cX7_lift 23 = .ok (.ireturn, 1) := by decide +kernel
theorem dX7_lift_24 : decode cX7_lift 24 = .ok (.aload_n 0, 1) := by decide +kernel
theorem dX7_lift_25 : decode cX7_lift 25 = .ok (.iload_n 1, 1) := by decide +kernel
theorem dX7_lift_26 : decode cX7_lift 26 = .ok (.invokevirtual 98, 3) := by decide +kernel
theorem dX7_lift_29 : decode cX7_lift 29 = .ok (.iload_n 2, 1) := by decide +kernel
theorem dX7_lift_30 : decode cX7_lift 30 = .ok (.aload_n 0, 1) := by decide +kernel
theorem dX7_lift_31 : decode cX7_lift 31 = .ok (.getfield 80, 3) := by decide +kernel
theorem dX7_lift_34 : decode cX7_lift 34 = .ok (.if_icmp .lt 6, 3) := by decide +kernel
theorem dX7_lift_37 : decode cX7_lift 37 = .ok (.ldc 101, 2) := by decide +kernel
theorem dX7_lift_39 : decode cX7_lift 39 = .ok (.ireturn, 1) := by decide +kernel
theorem dX7_lift_40 : decode cX7_lift 40 = .ok (.aload_n 0, 1) := by decide +kernel
theorem dX7_lift_41 : decode cX7_lift 41 = .ok (.getfield 17, 3) := by decide +kernel
theorem dX7_lift_44 : decode cX7_lift 44 = .ok (.iload_n 1, 1) := by decide +kernel
theorem dX7_lift_45 : decode cX7_lift 45 = .ok (.iaload, 1) := by decide +kernel
theorem dX7_lift_46 : decode cX7_lift 46 = .ok (.bipush 20, 2) := by decide +kernel
theorem dX7_lift_48 : decode cX7_lift 48 = .ok (.if_icmp .ne 6, 3) := by decide +kernel
theorem dX7_lift_51 : decode cX7_lift 51 = .ok (.ldc 94, 2) := by decide +kernel
theorem dX7_lift_53 : decode cX7_lift 53 = .ok (.ireturn, 1) := by decide +kernel
theorem dX7_lift_54 : decode cX7_lift 54 = .ok (.aload_n 0, 1) := by decide +kernel
theorem dX7_lift_55 : decode cX7_lift 55 = .ok (.iload_n 1, 1) := by decide +kernel
theorem dX7_lift_56 : decode cX7_lift 56 = .ok (.iconst 3, 1) := by decide +kernel
theorem dX7_lift_57 : decode cX7_lift 57 = .ok (.aload_n 0, 1) := by decide +kernel
theorem dX7_lift_58 : decode cX7_lift 58 = .ok (.getfield 35, 3) := by decide +kernel
theorem dX7_lift_61 : decode cX7_lift 61 = .ok (.iload_n 2, 1) := by decide +kernel
theorem dX7_lift_62 : decode cX7_lift 62 = .ok (.iaload, 1) := by decide +kernel
theorem dX7_lift_63 : decode cX7_lift 63 = .ok (.bipush 20, 2) := by decide +kernel
theorem dX7_lift_65 : decode cX7_lift 65 = .ok (.idiv, 1) := by decide +kernel
theorem dX7_lift_66 : decode cX7_lift 66 = .ok (.iload_n 3, 1) := by decide +kernel
theorem dX7_lift_67 : decode cX7_lift 67 = .ok (.aload_n 0, 1) := by decide +kernel
theorem dX7_lift_68 : decode cX7_lift 68 = .ok (.getfield 35, 3) := by decide +kernel
theorem dX7_lift_71 : decode cX7_lift 71 = .ok (.iload_n 2, 1) := by decide +kernel
theorem dX7_lift_72 : decode cX7_lift 72 = .ok (.iaload, 1) := by decide +kernel
theorem dX7_lift_73 : decode cX7_lift 73 = .ok (.bipush 20, 2) := by decide +kernel
theorem dX7_lift_75 : decode cX7_lift 75 = .ok (.irem, 1) := by decide +kernel
theorem dX7_lift_76 : decode cX7_lift 76 = .ok (.iconst 1, 1) := by decide +kernel
theorem dX7_lift_77 : decode cX7_lift 77 = .ok (.iadd, 1) := by decide +kernel
theorem dX7_lift_78 : decode cX7_lift 78 = .ok (.invokevirtual 102, 3) := by decide +kernel
theorem dX7_lift_81 : decode cX7_lift 81 = .ok (.ireturn, 1) := by decide +kernel
theorem dX7_take_0 : decode cX7_take 0 = .ok (.aload_n 0, 1) := by decide +kernel
theorem dX7_take_1 : decode cX7_take 1 = .ok (.getfield 29, 3) := by decide +kernel
theorem dX7_take_4 : decode cX7_take 4 = .ok (.bipush 10, 2) := by decide +kernel
theorem dX7_take_6 : decode cX7_take 6 = .ok (.iload_n 1, 1) := by decide +kernel
theorem dX7_take_7 : decode cX7_take 7 = .ok (.imul, 1) := by decide +kernel
theorem dX7_take_8 : decode cX7_take 8 = .ok (.iaload, 1) := by decide +kernel
theorem dX7_take_9 : decode cX7_take 9 = .ok (.istore_n 2, 1) := by decide +kernel
theorem dX7_take_10 : decode cX7_take 10 = .ok (.aload_n 0, 1) := by decide +kernel
theorem dX7_take_11 : decode cX7_take 11 = .ok (.getfield 32, 3) := by decide +kernel
theorem dX7_take_14 : decode cX7_take 14 = .ok (.iload_n 1, 1) := by decide +kernel
theorem dX7_take_15 : decode cX7_take 15 = .ok (.dup2, 1) := by decide +kernel
theorem dX7_take_16 : decode cX7_take 16 = .ok (.iaload, 1) := by decide +kernel
theorem dX7_take_17 : decode cX7_take 17 = .ok (.iconst 1, 1) := by decide +kernel
theorem dX7_take_18 : decode cX7_take 18 = .ok (.isub, 1) := by decide +kernel
theorem dX7_take_19 : decode cX7_take 19 = .ok (.iastore, 1) := by decide +kernel
theorem dX7_take_20 : decode cX7_take 20 = .ok (.iconst 0, 1) := by decide +kernel
theorem dX7_take_21 : decode cX7_take 21 = .ok (.istore_n 3, 1) := by decide +kernel
theorem dX7_take_22 : decode cX7_take 22 = .ok (.iload_n 3, 1) := by decide +kernel
theorem dX7_take_23 : decode cX7_take 23 = .ok (.aload_n 0, 1) := by decide +kernel
theorem dX7_take_24 : decode cX7_take 24 = .ok (.getfield 32, 3) := by decide +kernel
theorem dX7_take_27 : decode cX7_take 27 = .ok (.iload_n 1, 1) := by decide +kernel
theorem dX7_take_28 : decode cX7_take 28 = .ok (.iaload, 1) := by decide +kernel
theorem dX7_take_29 : decode cX7_take 29 = .ok (.if_icmp .ge 33, 3) := by decide +kernel
theorem dX7_take_32 : decode cX7_take 32 = .ok (.aload_n 0, 1) := by decide +kernel
theorem dX7_take_33 : decode cX7_take 33 = .ok (.getfield 29, 3) := by decide +kernel
theorem dX7_take_36 : decode cX7_take 36 = .ok (.bipush 10, 2) := by decide +kernel
theorem dX7_take_38 : decode cX7_take 38 = .ok (.iload_n 1, 1) := by decide +kernel
theorem dX7_take_39 : decode cX7_take 39 = .ok (.imul, 1) := by decide +kernel
theorem dX7_take_40 : decode cX7_take 40 = .ok (.iload_n 3, 1) := by decide +kernel
theorem dX7_take_41 : decode cX7_take 41 = .ok (.iadd, 1) := by decide +kernel
theorem dX7_take_42 : decode cX7_take 42 = .ok (.aload_n 0, 1) := by decide +kernel
theorem dX7_take_43 : decode cX7_take 43 = .ok (.getfield 29, 3) := by decide +kernel
theorem dX7_take_46 : decode cX7_take 46 = .ok (.bipush 10, 2) := by decide +kernel
theorem dX7_take_48 : decode cX7_take 48 = .ok (.iload_n 1, 1) := by decide +kernel
theorem dX7_take_49 : decode cX7_take 49 = .ok (.imul, 1) := by decide +kernel
theorem dX7_take_50 : decode cX7_take 50 = .ok (.iload_n 3, 1) := by decide +kernel
theorem dX7_take_51 : decode cX7_take 51 = .ok (.iadd, 1) := by decide +kernel
theorem dX7_take_52 : decode cX7_take 52 = .ok (.iconst 1, 1) := by decide +kernel
theorem dX7_take_53 : decode cX7_take 53 = .ok (.iadd, 1) := by decide +kernel
theorem dX7_take_54 : decode cX7_take 54 = .ok (.iaload, 1) := by decide +kernel
theorem dX7_take_55 : decode cX7_take 55 = .ok (.iastore, 1) := by decide +kernel
theorem dX7_take_56 : decode cX7_take 56 = .ok (.iinc 3 1, 3) := by decide +kernel
theorem dX7_take_59 : decode cX7_take 59 = .ok (.goto (-37), 3) := by decide +kernel
theorem dX7_take_62 : decode cX7_take 62 = .ok (.iload_n 2, 1) := by decide +kernel
theorem dX7_take_63 : decode cX7_take 63 = .ok (.ireturn, 1) := by decide +kernel
set_option maxRecDepth 20000 in
theorem ggX7_deliver_X7_isPair : GoodIn wsX7_deliver wsX7_isPair := goodIn_r _ [8, 9, 10, 11, 7, 12, 13, 14, 15, 16, 36, 37, 38, 39, 40, 41, 42, 43, 44, 45, 46, 47, 48, 49] (by decide +kernel) (by decide +kernel)
set_option maxRecDepth 20000 in
theorem gX7_deliver_X7_isPair : GoodIn wsX7_deliver (wsV RX7 106 RX7 yX7_isPair wsX7_isPair) := goodIn_app (goodIn_of _ (by decide +kernel)) ggX7_deliver_X7_isPair
set_option maxRecDepth 20000 in
theorem ggX7_deliver_X7_take : GoodIn wsX7_deliver wsX7_take := goodIn_r _ [20, 21, 2, 36, 37, 38, 39, 40, 41, 42, 43, 44, 45, 46, 47, 48, 49] (by decide +kernel) (by decide +kernel)
set_option maxRecDepth 20000 in
theorem gX7_deliver_X7_take : GoodIn wsX7_deliver (wsV RX7 110 RX7 yX7_take wsX7_take) := goodIn_app (goodIn_of _ (by decide +kernel)) ggX7_deliver_X7_take
set_option maxRecDepth 20000 in
theorem ggX7_deliver_X7_place : GoodIn wsX7_deliver wsX7_place := goodIn_r _ [24] (by decide +kernel) (by decide +kernel)
set_option maxRecDepth 20000 in
theorem gX7_deliver_X7_place : GoodIn wsX7_deliver (va_wsS RX7 62 yX7_place wsX7_place) := goodIn_app (goodIn_of _ (by decide +kernel)) ggX7_deliver_X7_place
set_option maxRecDepth 20000 in
theorem ggX7_deliver_X7_learns : GoodIn wsX7_deliver wsX7_learns := goodIn_r _ [28, 29, 30, 31, 32, 33, 7, 34, 35, 36, 37, 38, 39, 40, 41, 42, 43, 44, 45, 46, 47, 48, 49] (by decide +kernel) (by decide +kernel)
set_option maxRecDepth 20000 in
theorem gX7_deliver_X7_learns : GoodIn wsX7_deliver (wsV RX7 113 RX7 yX7_learns wsX7_learns) := goodIn_app (goodIn_of _ (by decide +kernel)) ggX7_deliver_X7_learns
theorem dX7_deliver_0 : decode cX7_deliver 0 = .ok (.aload_n 0, 1) := by decide +kernel
theorem dX7_deliver_1 : decode cX7_deliver 1 = .ok (.iload_n 1, 1) := by decide +kernel
theorem dX7_deliver_2 : decode cX7_deliver 2 = .ok (.iload_n 2, 1) := by decide +kernel
theorem dX7_deliver_3 : decode cX7_deliver 3 = .ok (.invokevirtual 106, 3) := by decide +kernel
theorem dX7_deliver_6 : decode cX7_deliver 6 = .ok (.ifCond .ne 6, 3) := by decide +kernel
theorem dX7_deliver_9 : decode cX7_deliver 9 = .ok (.ldc 89, 2) := by decide +kernel
theorem dX7_deliver_11 : decode cX7_deliver 11 = .ok (.ireturn, 1) := by decide +kernel
theorem dX7_deliver_12 : decode cX7_deliver 12 = .ok (.iconst 5, 1) := by decide +kernel
theorem dX7_deliver_13 : decode cX7_deliver 13 = .ok (.iload_n 1, 1) := by decide +kernel
theorem dX7_deliver_14 : decode cX7_deliver 14 = .ok (.imul, 1) := by decide +kernel
theorem dX7_deliver_15 : decode cX7_deliver 15 = .ok (.iload_n 2, 1) := by decide +kernel
theorem dX7_deliver_16 : decode cX7_deliver 16 = .ok (.iadd, 1) := by decide +kernel
theorem dX7_deliver_17 : decode cX7_deliver 17 = .ok (.istore_n 3, 1) := by decide +kernel
theorem dX7_deliver_18 : decode cX7_deliver 18 = .ok (.aload_n 0, 1) := by decide +kernel
theorem dX7_deliver_19 : decode cX7_deliver 19 = .ok (.getfield 32, 3) := by decide +kernel
theorem dX7_deliver_22 : decode cX7_deliver 22 = .ok (.iload_n 3, 1) := by decide +kernel
theorem dX7_deliver_23 : decode cX7_deliver 23 = .ok (.iaload, 1) := by decide +kernel
theorem dX7_deliver_24 : decode cX7_deliver 24 = .ok (.ifCond .ne 6, 3) := by decide +kernel
theorem dX7_deliver_27 : decode cX7_deliver 27 = .ok (.ldc 109, 2) := by decide +kernel
theorem dX7_deliver_29 : decode cX7_deliver 29 = .ok (.ireturn, 1) := by decide +kernel
theorem dX7_deliver_30 : decode cX7_deliver 30 = .ok (.aload_n 0, 1) := by decide +kernel
theorem dX7_deliver_31 : decode cX7_deliver 31 = .ok (.iload_n 3, 1) := by decide +kernel
theorem dX7_deliver_32 : decode cX7_deliver 32 = .ok (.invokevirtual 110, 3) := by decide +kernel
theorem dX7_deliver_35 : decode cX7_deliver 35 = .ok (.istore 4, 2) := by decide +kernel
theorem dX7_deliver_37 : decode cX7_deliver 37 = .ok (.aload_n 0, 1) := by decide +kernel
theorem dX7_deliver_38 : decode cX7_deliver 38 = .ok (.iload_n 2, 1) := by decide +kernel
theorem dX7_deliver_39 : decode cX7_deliver 39 = .ok (.iload_n 1, 1) := by decide +kernel
theorem dX7_deliver_40 : decode cX7_deliver 40 = .ok (.iload 4, 2) := by decide +kernel
theorem dX7_deliver_42 : decode cX7_deliver 42 = .ok (.invokestatic 62, 3) := by decide +kernel
theorem dX7_deliver_45 : decode cX7_deliver 45 = .ok (.invokevirtual 113, 3) := by decide +kernel
theorem dX7_deliver_48 : decode cX7_deliver 48 = .ok (.bipush 100, 2) := by decide +kernel
theorem dX7_deliver_50 : decode cX7_deliver 50 = .ok (.iload_n 1, 1) := by decide +kernel
theorem dX7_deliver_51 : decode cX7_deliver 51 = .ok (.imul, 1) := by decide +kernel
theorem dX7_deliver_52 : decode cX7_deliver 52 = .ok (.iload 4, 2) := by decide +kernel
theorem dX7_deliver_54 : decode cX7_deliver 54 = .ok (.iadd, 1) := by decide +kernel
theorem dX7_deliver_55 : decode cX7_deliver 55 = .ok (.ireturn, 1) := by decide +kernel
set_option maxRecDepth 20000 in
theorem ggX7_lose_X7_isPair : GoodIn wsX7_lose wsX7_isPair := goodIn_r _ [8, 9, 10, 11, 7, 12, 13, 14, 15, 16, 22, 23, 24, 25, 26, 27, 28, 29, 30, 31, 32, 33, 34, 35] (by decide +kernel) (by decide +kernel)
set_option maxRecDepth 20000 in
theorem gX7_lose_X7_isPair : GoodIn wsX7_lose (wsV RX7 106 RX7 yX7_isPair wsX7_isPair) := goodIn_app (goodIn_of _ (by decide +kernel)) ggX7_lose_X7_isPair
set_option maxRecDepth 20000 in
theorem ggX7_lose_X7_take : GoodIn wsX7_lose wsX7_take := goodIn_r _ [20, 21, 2, 22, 23, 24, 25, 26, 27, 28, 29, 30, 31, 32, 33, 34, 35] (by decide +kernel) (by decide +kernel)
set_option maxRecDepth 20000 in
theorem gX7_lose_X7_take : GoodIn wsX7_lose (wsV RX7 110 RX7 yX7_take wsX7_take) := goodIn_app (goodIn_of _ (by decide +kernel)) ggX7_lose_X7_take
theorem dX7_lose_0 : decode cX7_lose 0 = .ok (.aload_n 0, 1) := by decide +kernel
theorem dX7_lose_1 : decode cX7_lose 1 = .ok (.iload_n 1, 1) := by decide +kernel
theorem dX7_lose_2 : decode cX7_lose 2 = .ok (.iload_n 2, 1) := by decide +kernel
theorem dX7_lose_3 : decode cX7_lose 3 = .ok (.invokevirtual 106, 3) := by decide +kernel
theorem dX7_lose_6 : decode cX7_lose 6 = .ok (.ifCond .ne 6, 3) := by decide +kernel
theorem dX7_lose_9 : decode cX7_lose 9 = .ok (.ldc 89, 2) := by decide +kernel
theorem dX7_lose_11 : decode cX7_lose 11 = .ok (.ireturn, 1) := by decide +kernel
theorem dX7_lose_12 : decode cX7_lose 12 = .ok (.iconst 5, 1) := by decide +kernel
theorem dX7_lose_13 : decode cX7_lose 13 = .ok (.iload_n 1, 1) := by decide +kernel
theorem dX7_lose_14 : decode cX7_lose 14 = .ok (.imul, 1) := by decide +kernel
theorem dX7_lose_15 : decode cX7_lose 15 = .ok (.iload_n 2, 1) := by decide +kernel
theorem dX7_lose_16 : decode cX7_lose 16 = .ok (.iadd, 1) := by decide +kernel
theorem dX7_lose_17 : decode cX7_lose 17 = .ok (.istore_n 3, 1) := by decide +kernel
theorem dX7_lose_18 : decode cX7_lose 18 = .ok (.aload_n 0, 1) := by decide +kernel
theorem dX7_lose_19 : decode cX7_lose 19 = .ok (.getfield 32, 3) := by decide +kernel
theorem dX7_lose_22 : decode cX7_lose 22 = .ok (.iload_n 3, 1) := by decide +kernel
theorem dX7_lose_23 : decode cX7_lose 23 = .ok (.iaload, 1) := by decide +kernel
theorem dX7_lose_24 : decode cX7_lose 24 = .ok (.ifCond .ne 6, 3) := by decide +kernel
theorem dX7_lose_27 : decode cX7_lose 27 = .ok (.ldc 109, 2) := by decide +kernel
theorem dX7_lose_29 : decode cX7_lose 29 = .ok (.ireturn, 1) := by decide +kernel
theorem dX7_lose_30 : decode cX7_lose 30 = .ok (.aload_n 0, 1) := by decide +kernel
theorem dX7_lose_31 : decode cX7_lose 31 = .ok (.iload_n 3, 1) := by decide +kernel
theorem dX7_lose_32 : decode cX7_lose 32 = .ok (.invokevirtual 110, 3) := by decide +kernel
theorem dX7_lose_35 : decode cX7_lose 35 = .ok (.istore 4, 2) := by decide +kernel
theorem dX7_lose_37 : decode cX7_lose 37 = .ok (.aload_n 0, 1) := by decide +kernel
theorem dX7_lose_38 : decode cX7_lose 38 = .ok (.getfield 32, 3) := by decide +kernel
theorem dX7_lose_41 : decode cX7_lose 41 = .ok (.iload_n 3, 1) := by decide +kernel
theorem dX7_lose_42 : decode cX7_lose 42 = .ok (.iaload, 1) := by decide +kernel
theorem dX7_lose_43 : decode cX7_lose 43 = .ok (.ireturn, 1) := by decide +kernel
set_option maxRecDepth 20000 in
theorem ggX7_deliverAll_X7_take : GoodIn wsX7_deliverAll wsX7_take := goodIn_r _ [6, 7, 1, 22, 23, 24, 25, 26, 27, 28, 29, 30, 31, 32, 33, 34, 35] (by decide +kernel) (by decide +kernel)
set_option maxRecDepth 20000 in
theorem gX7_deliverAll_X7_take : GoodIn wsX7_deliverAll (wsV RX7 110 RX7 yX7_take wsX7_take) := goodIn_app (goodIn_of _ (by decide +kernel)) ggX7_deliverAll_X7_take
set_option maxRecDepth 20000 in
theorem ggX7_deliverAll_X7_place : GoodIn wsX7_deliverAll wsX7_place := goodIn_r _ [10] (by decide +kernel) (by decide +kernel)
set_option maxRecDepth 20000 in
theorem gX7_deliverAll_X7_place : GoodIn wsX7_deliverAll (va_wsS RX7 62 yX7_place wsX7_place) := goodIn_app (goodIn_of _ (by decide +kernel)) ggX7_deliverAll_X7_place
set_option maxRecDepth 20000 in
theorem ggX7_deliverAll_X7_learns : GoodIn wsX7_deliverAll wsX7_learns := goodIn_r _ [14, 15, 16, 17, 18, 19, 5, 20, 21, 22, 23, 24, 25, 26, 27, 28, 29, 30, 31, 32, 33, 34, 35] (by decide +kernel) (by decide +kernel)
set_option maxRecDepth 20000 in
theorem gX7_deliverAll_X7_learns : GoodIn wsX7_deliverAll (wsV RX7 113 RX7 yX7_learns wsX7_learns) := goodIn_app (goodIn_of _ (by decide +kernel)) ggX7_deliverAll_X7_learns
theorem dX7_deliverAll_0 : decode cX7_deliverAll 0 = .ok (.iconst 0, 1) := by decide +kernel
theorem dX7_deliverAll_1 : decode cX7_deliverAll 1 = .ok (.istore_n 1, 1) := by decide +kernel
theorem dX7_deliverAll_2 : decode cX7_deliverAll 2 = .ok (.iconst 0, 1) := by decide +kernel
theorem dX7_deliverAll_3 : decode cX7_deliverAll 3 = .ok (.istore_n 2, 1) := by decide +kernel
theorem dX7_deliverAll_4 : decode cX7_deliverAll 4 = .ok (.iload_n 2, 1) := by decide +kernel
theorem dX7_deliverAll_5 : decode cX7_deliverAll 5 = .ok (.bipush 25, 2) := by decide +kernel
theorem dX7_deliverAll_7 : decode cX7_deliverAll 7 = .ok (.if_icmp .ge 42, 3) := by decide +kernel
theorem dX7_deliverAll_10 : decode cX7_deliverAll 10 = .ok (.aload_n 0, 1) := by decide +kernel
theorem dX7_deliverAll_11 : decode cX7_deliverAll 11 = .ok (.getfield 32, 3) := by decide +kernel
theorem dX7_deliverAll_14 : decode cX7_deliverAll 14 = .ok (.iload_n 2, 1) := by decide +kernel
theorem dX7_deliverAll_15 : decode cX7_deliverAll 15 = .ok (.iaload, 1) := by decide +kernel
theorem dX7_deliverAll_16 : decode cX7_deliverAll 16 = .ok (.ifCond .le 27, 3) := by decide +kernel
theorem dX7_deliverAll_19 : decode cX7_deliverAll 19 = .ok (.aload_n 0, 1) := by decide +kernel
theorem dX7_deliverAll_20 : decode cX7_deliverAll 20 = .ok (.iload_n 2, 1) := by decide +kernel
theorem dX7_deliverAll_21 : decode cX7_deliverAll 21 = .ok (.iconst 5, 1) := by decide +kernel
theorem dX7_deliverAll_22 : decode cX7_deliverAll 22 = .ok (.irem, 1) := by decide +kernel
theorem dX7_deliverAll_23 : decode cX7_deliverAll 23 = .ok (.iload_n 2, 1) := by decide +kernel
theorem dX7_deliverAll_24 : decode cX7_deliverAll 24 = .ok (.iconst 5, 1) := by decide +kernel
theorem dX7_deliverAll_25 : decode cX7_deliverAll 25 = .ok (.idiv, 1) := by decide +kernel
theorem dX7_deliverAll_26 : decode cX7_deliverAll 26 = .ok (.aload_n 0, 1) := by decide +kernel
theorem dX7_deliverAll_27 : decode cX7_deliverAll 27 = .ok (.iload_n 2, 1) := by decide +kernel
theorem dX7_deliverAll_28 : decode cX7_deliverAll 28 = .ok (.invokevirtual 110, 3) := by decide +kernel
theorem dX7_deliverAll_31 : decode cX7_deliverAll 31 = .ok (.invokestatic 62, 3) := by decide +kernel
theorem dX7_deliverAll_34 : decode cX7_deliverAll 34 = .ok (.invokevirtual 113, 3) := by decide +kernel
theorem dX7_deliverAll_37 : decode cX7_deliverAll 37 = .ok (.iinc 1 1, 3) := by decide +kernel
theorem dX7_deliverAll_40 : decode cX7_deliverAll 40 = .ok (.goto (-30), 3) := by decide +kernel
theorem dX7_deliverAll_43 : decode cX7_deliverAll 43 = .ok (.iinc 2 1, 3) := by decide +kernel
theorem dX7_deliverAll_46 : decode cX7_deliverAll 46 = .ok (.goto (-42), 3) := by decide +kernel
theorem dX7_deliverAll_49 : decode cX7_deliverAll 49 = .ok (.iload_n 1, 1) := by decide +kernel
theorem dX7_deliverAll_50 : decode cX7_deliverAll 50 = .ok (.ireturn, 1) := by decide +kernel
set_option maxRecDepth 20000 in
theorem ggX7_waiting_X7_isPair : GoodIn wsX7_waiting wsX7_isPair := goodIn_r _ [7, 8, 9, 10, 6, 11, 12, 13, 14, 15, 16, 17, 18, 19, 20, 21, 22, 23, 24, 25, 26, 27, 28, 29] (by decide +kernel) (by decide +kernel)
set_option maxRecDepth 20000 in
theorem gX7_waiting_X7_isPair : GoodIn wsX7_waiting (wsV RX7 106 RX7 yX7_isPair wsX7_isPair) := goodIn_app (goodIn_of _ (by decide +kernel)) ggX7_waiting_X7_isPair
theorem dX7_waiting_0 : decode cX7_waiting 0 = .ok (.aload_n 0, 1) := by decide +kernel
theorem dX7_waiting_1 : decode cX7_waiting 1 = .ok (.iload_n 1, 1) := by decide +kernel
theorem dX7_waiting_2 : decode cX7_waiting 2 = .ok (.iload_n 2, 1) := by decide +kernel
theorem dX7_waiting_3 : decode cX7_waiting 3 = .ok (.invokevirtual 106, 3) := by decide +kernel
theorem dX7_waiting_6 : decode cX7_waiting 6 = .ok (.ifCond .eq 16, 3) := by decide +kernel
theorem dX7_waiting_9 : decode cX7_waiting 9 = .ok (.aload_n 0, 1) := by decide +kernel
theorem dX7_waiting_10 : decode cX7_waiting 10 = .ok (.getfield 32, 3) := by decide +kernel
theorem dX7_waiting_13 : decode cX7_waiting 13 = .ok (.iconst 5, 1) := by decide +kernel
theorem dX7_waiting_14 : decode cX7_waiting 14 = .ok (.iload_n 1, 1) := by decide +kernel
theorem dX7_waiting_15 : decode cX7_waiting 15 = .ok (.imul, 1) := by decide +kernel
theorem dX7_waiting_16 : decode cX7_waiting 16 = .ok (.iload_n 2, 1) := by decide +kernel
theorem dX7_waiting_17 : decode cX7_waiting 17 = .ok (.iadd, 1) := by decide +kernel
theorem dX7_waiting_18 : decode cX7_waiting 18 = .ok (.iaload, 1) := by decide +kernel
theorem dX7_waiting_19 : decode cX7_waiting 19 = .ok (.goto 5, 3) := by decide +kernel
theorem dX7_waiting_22 : decode cX7_waiting 22 = .ok (.ldc 89, 2) := by decide +kernel
theorem dX7_waiting_24 : decode cX7_waiting 24 = .ok (.ireturn, 1) := by decide +kernel
set_option maxRecDepth 20000 in
theorem ggX7_greatest_X7_place : GoodIn wsX7_greatest wsX7_place := goodIn_r _ [5] (by decide +kernel) (by decide +kernel)
set_option maxRecDepth 20000 in
theorem gX7_greatest_X7_place : GoodIn wsX7_greatest (va_wsS RX7 62 yX7_place wsX7_place) := goodIn_app (goodIn_of _ (by decide +kernel)) ggX7_greatest_X7_place
set_option maxRecDepth 20000 in
theorem ggX7_greatest_X7_doesKnow : GoodIn wsX7_greatest wsX7_doesKnow := goodIn_r _ [9, 10, 11, 12, 13, 14, 15, 16, 17, 18, 19, 20, 21, 22, 23, 24] (by decide +kernel) (by decide +kernel)
set_option maxRecDepth 20000 in
theorem gX7_greatest_X7_doesKnow : GoodIn wsX7_greatest (wsV RX7 65 RX7 yX7_doesKnow wsX7_doesKnow) := goodIn_app (goodIn_of _ (by decide +kernel)) ggX7_greatest_X7_doesKnow
theorem dX7_greatest_0 : decode cX7_greatest 0 = .ok (.iconst 0, 1) := by decide +kernel
theorem dX7_greatest_1 : decode cX7_greatest 1 = .ok (.istore_n 3, 1) := by decide +kernel
theorem dX7_greatest_2 : decode cX7_greatest 2 = .ok (.iconst 1, 1) := by decide +kernel
theorem dX7_greatest_3 : decode cX7_greatest 3 = .ok (.istore 4, 2) := by decide +kernel
theorem dX7_greatest_5 : decode cX7_greatest 5 = .ok (.iload 4, 2) := by decide +kernel
theorem dX7_greatest_7 : decode cX7_greatest 7 = .ok (.aload_n 0, 1) := by decide +kernel
theorem dX7_greatest_8 : decode cX7_greatest 8 = .ok (.getfield 17, 3) := by decide +kernel
theorem dX7_greatest_11 : decode cX7_greatest 11 = .ok (.iload_n 2, 1) := by decide +kernel
theorem dX7_greatest_12 : decode cX7_greatest 12 = .ok (.iaload, 1) := by decide +kernel
theorem dX7_greatest_13 : decode cX7_greatest 13 = .ok (.if_icmp .gt 30, 3) := by decide +kernel
theorem dX7_greatest_16 : decode cX7_greatest 16 = .ok (.aload_n 0, 1) := by decide +kernel
theorem dX7_greatest_17 : decode cX7_greatest 17 = .ok (.iload_n 1, 1) := by decide +kernel
theorem dX7_greatest_18 : decode cX7_greatest 18 = .ok (.iload_n 2, 1) := by decide +kernel
theorem dX7_greatest_19 : decode cX7_greatest 19 = .ok (.iload 4, 2) := by decide +kernel
theorem dX7_greatest_21 : decode cX7_greatest 21 = .ok (.invokestatic 62, 3) := by decide +kernel
theorem dX7_greatest_24 : decode cX7_greatest 24 = .ok (.invokevirtual 65, 3) := by decide +kernel
theorem dX7_greatest_27 : decode cX7_greatest 27 = .ok (.ifCond .eq 8, 3) := by decide +kernel
theorem dX7_greatest_30 : decode cX7_greatest 30 = .ok (.iload 4, 2) := by decide +kernel
theorem dX7_greatest_32 : decode cX7_greatest 32 = .ok (.goto 4, 3) := by decide +kernel
theorem dX7_greatest_35 : decode cX7_greatest 35 = .ok (.iload_n 3, 1) := by decide +kernel
theorem dX7_greatest_36 : decode cX7_greatest 36 = .ok (.istore_n 3, 1) := by decide +kernel
theorem dX7_greatest_37 : decode cX7_greatest 37 = .ok (.iinc 4 1, 3) := by decide +kernel
theorem dX7_greatest_40 : decode cX7_greatest 40 = .ok (.goto (-35), 3) := by decide +kernel
theorem dX7_greatest_43 : decode cX7_greatest 43 = .ok (.iload_n 3, 1) := by decide +kernel
theorem dX7_greatest_44 : decode cX7_greatest 44 = .ok (.ireturn, 1) := by decide +kernel
set_option maxRecDepth 20000 in
theorem ggX7_gap_X7_isSite : GoodIn wsX7_gap wsX7_isSite := goodIn_r _ [7, 8, 9, 10, 6, 11, 25, 26, 27, 28, 29, 30, 31, 32, 33, 34, 35, 36, 37, 38] (by decide +kernel) (by decide +kernel)
set_option maxRecDepth 20000 in
theorem gX7_gap_X7_isSite : GoodIn wsX7_gap (wsV RX7 54 RX7 yX7_isSite wsX7_isSite) := goodIn_app (goodIn_of _ (by decide +kernel)) ggX7_gap_X7_isSite
set_option maxRecDepth 20000 in
theorem ggX7_gap_X7_greatest : GoodIn wsX7_gap wsX7_greatest := goodIn_r _ [15, 16, 17, 18, 6, 19, 20, 21, 22, 23, 24, 25, 26, 27, 28, 29, 30, 31, 32, 33, 34, 35, 36, 37, 38] (by decide +kernel) (by decide +kernel)
set_option maxRecDepth 20000 in
theorem gX7_gap_X7_greatest : GoodIn wsX7_gap (wsV RX7 117 RX7 yX7_greatest wsX7_greatest) := goodIn_app (goodIn_of _ (by decide +kernel)) ggX7_gap_X7_greatest
set_option maxRecDepth 20000 in
theorem ggX7_gap_X7_place : GoodIn wsX7_gap wsX7_place := goodIn_r _ [19] (by decide +kernel) (by decide +kernel)
set_option maxRecDepth 20000 in
theorem gX7_gap_X7_place : GoodIn wsX7_gap (va_wsS RX7 62 yX7_place wsX7_place) := goodIn_app (goodIn_of _ (by decide +kernel)) ggX7_gap_X7_place
set_option maxRecDepth 20000 in
theorem ggX7_gap_X7_doesKnow : GoodIn wsX7_gap wsX7_doesKnow := goodIn_r _ [23, 24, 25, 26, 27, 28, 29, 30, 31, 32, 33, 34, 35, 36, 37, 38] (by decide +kernel) (by decide +kernel)
set_option maxRecDepth 20000 in
theorem gX7_gap_X7_doesKnow : GoodIn wsX7_gap (wsV RX7 65 RX7 yX7_doesKnow wsX7_doesKnow) := goodIn_app (goodIn_of _ (by decide +kernel)) ggX7_gap_X7_doesKnow
theorem dX7_gap_0 : decode cX7_gap 0 = .ok (.aload_n 0, 1) := by decide +kernel
theorem dX7_gap_1 : decode cX7_gap 1 = .ok (.iload_n 1, 1) := by decide +kernel
theorem dX7_gap_2 : decode cX7_gap 2 = .ok (.invokevirtual 54, 3) := by decide +kernel
theorem dX7_gap_5 : decode cX7_gap 5 = .ok (.ifCond .eq 15, 3) := by decide +kernel
theorem dX7_gap_8 : decode cX7_gap 8 = .ok (.aload_n 0, 1) := by decide +kernel
theorem dX7_gap_9 : decode cX7_gap 9 = .ok (.iload_n 2, 1) := by decide +kernel
theorem dX7_gap_10 : decode cX7_gap 10 = .ok (.invokevirtual 54, 3) := by decide +kernel
theorem dX7_gap_13 : decode cX7_gap 13 = .ok (.ifCond .eq 7, 3) := by decide +kernel
theorem dX7_gap_16 : decode cX7_gap 16 = .ok (.iload_n 3, 1) := by decide +kernel
theorem dX7_gap_17 : decode cX7_gap 17 = .ok (.ifCond .ge 6, 3) := by decide +kernel
theorem dX7_gap_20 : decode cX7_gap 20 = .ok (.ldc 89, 2) := by decide +kernel
theorem dX7_gap_22 : decode cX7_gap 22 = .ok (.ireturn, 1) := by decide +kernel
theorem dX7_gap_23 : decode cX7_gap 23 = .ok (.aload_n 0, 1) := by decide +kernel
theorem dX7_gap_24 : decode cX7_gap 24 = .ok (.iload_n 1, 1) := by decide +kernel
theorem dX7_gap_25 : decode cX7_gap 25 = .ok (.iload_n 2, 1) := by decide +kernel
theorem dX7_gap_26 : decode cX7_gap 26 = .ok (.invokevirtual 117, 3) := by decide +kernel
theorem dX7_gap_29 : decode cX7_gap 29 = .ok (.istore 4, 2) := by decide +kernel
theorem dX7_gap_31 : decode cX7_gap 31 = .ok (.iconst 0, 1) := by decide +kernel
theorem dX7_gap_32 : decode cX7_gap 32 = .ok (.istore 5, 2) := by decide +kernel
theorem dX7_gap_34 : decode cX7_gap 34 = .ok (.iconst 1, 1) := by decide +kernel
theorem dX7_gap_35 : decode cX7_gap 35 = .ok (.istore 6, 2) := by decide +kernel
theorem dX7_gap_37 : decode cX7_gap 37 = .ok (.iload 6, 2) := by decide +kernel
theorem dX7_gap_39 : decode cX7_gap 39 = .ok (.iload 4, 2) := by decide +kernel
theorem dX7_gap_41 : decode cX7_gap 41 = .ok (.if_icmp .gt 115, 3) := by decide +kernel
theorem dX7_gap_44 : decode cX7_gap 44 = .ok (.aload_n 0, 1) := by decide +kernel
theorem dX7_gap_45 : decode cX7_gap 45 = .ok (.iload_n 1, 1) := by decide +kernel
theorem dX7_gap_46 : decode cX7_gap 46 = .ok (.iload_n 2, 1) := by decide +kernel
theorem dX7_gap_47 : decode cX7_gap 47 = .ok (.iload 6, 2) := by decide +kernel
theorem dX7_gap_49 : decode cX7_gap 49 = .ok (.invokestatic 62, 3) := by decide +kernel
theorem dX7_gap_52 : decode cX7_gap 52 = .ok (.invokevirtual 65, 3) := by decide +kernel
theorem dX7_gap_55 : decode cX7_gap 55 = .ok (.ifCond .ne 29, 3) := by decide +kernel
theorem dX7_gap_58 : decode cX7_gap 58 = .ok (.iload 6, 2) := by decide +kernel
theorem dX7_gap_60 : decode cX7_gap 60 = .ok (.iconst 1, 1) := by decide +kernel
theorem dX7_gap_61 : decode cX7_gap 61 = .ok (.if_icmp .eq 19, 3) := by decide +kernel
theorem dX7_gap_64 : decode cX7_gap 64 = .ok (.aload_n 0, 1) := by decide +kernel
theorem dX7_gap_65 : decode cX7_gap 65 = .ok (.iload_n 1, 1) := by decide +kernel
theorem dX7_gap_66 : decode cX7_gap 66 = .ok (.iload_n 2, 1) := by decide +kernel
theorem dX7_gap_67 : decode cX7_gap 67 = .ok (.iload 6, 2) := by decide +kernel
theorem dX7_gap_69 : decode cX7_gap 69 = .ok (.iconst 1, 1) := by decide +kernel
theorem dX7_gap_70 : decode cX7_gap 70 = .ok (.isub, 1) := by decide +kernel
theorem dX7_gap_71 : decode cX7_gap 71 = .ok (.invokestatic 62, 3) := by decide +kernel
theorem dX7_gap_74 : decode cX7_gap 74 = .ok (.invokevirtual 65, 3) := by decide +kernel
theorem dX7_gap_77 : decode cX7_gap 77 = .ok (.ifCond .eq 7, 3) := by decide +kernel
theorem dX7_gap_80 : decode cX7_gap 80 = .ok (.iconst 1, 1) := by decide +kernel
theorem dX7_gap_81 : decode cX7_gap 81 = .ok (.goto 4, 3) := by decide +kernel
theorem dX7_gap_84 : decode cX7_gap 84 = .ok (.iconst 0, 1) := by decide +kernel
theorem dX7_gap_85 : decode cX7_gap 85 = .ok (.istore 7, 2) := by decide +kernel
theorem dX7_gap_87 : decode cX7_gap 87 = .ok (.iload 5, 2) := by decide +kernel
theorem dX7_gap_89 : decode cX7_gap 89 = .ok (.iload 7, 2) := by decide +kernel
theorem dX7_gap_91 : decode cX7_gap 91 = .ok (.ifCond .eq 7, 3) := by decide +kernel
theorem dX7_gap_94 : decode cX7_gap 94 = .ok (.iconst 1, 1) := by decide +kernel
theorem dX7_gap_95 : decode cX7_gap 95 = .ok (.goto 4, 3) := by decide +kernel
theorem dX7_gap_98 : decode cX7_gap 98 = .ok (.iconst 0, 1) := by decide +kernel
theorem dX7_gap_99 : decode cX7_gap 99 = .ok (.iadd, 1) := by decide +kernel
theorem dX7_gap_100 : decode cX7_gap 100 = .ok (.istore 5, 2) := by decide +kernel
theorem dX7_gap_102 : decode cX7_gap 102 = .ok (.iload 7, 2) := by decide +kernel
theorem dX7_gap_104 : decode cX7_gap 104 = .ok (.ifCond .eq 46, 3) := by decide +kernel
theorem dX7_gap_107 : decode cX7_gap 107 = .ok (.iload 5, 2) := by decide +kernel
theorem dX7_gap_109 : decode cX7_gap 109 = .ok (.iload_n 3, 1) := by decide +kernel
theorem dX7_gap_110 : decode cX7_gap 110 = .ok (.iconst 1, 1) := by decide +kernel
theorem dX7_gap_111 : decode cX7_gap 111 = .ok (.iadd, 1) := by decide +kernel
theorem dX7_gap_112 : decode cX7_gap 112 = .ok (.if_icmp .ne 38, 3) := by decide +kernel
theorem dX7_gap_115 : decode cX7_gap 115 = .ok (.iload 6, 2) := by decide +kernel
theorem dX7_gap_117 : decode cX7_gap 117 = .ok (.istore 8, 2) := by decide +kernel
theorem dX7_gap_119 : decode cX7_gap 119 = .ok (.aload_n 0, 1) := by decide +kernel
theorem dX7_gap_120 : decode cX7_gap 120 = .ok (.iload_n 1, 1) := by decide +kernel
theorem dX7_gap_121 : decode cX7_gap 121 = .ok (.iload_n 2, 1) := by decide +kernel
theorem dX7_gap_122 : decode cX7_gap 122 = .ok (.iload 8, 2) := by decide +kernel
theorem dX7_gap_124 : decode cX7_gap 124 = .ok (.iconst 1, 1) := by decide +kernel
theorem dX7_gap_125 : decode cX7_gap 125 = .ok (.iadd, 1) := by decide +kernel
theorem dX7_gap_126 : decode cX7_gap 126 = .ok (.invokestatic 62, 3) := by decide +kernel
theorem dX7_gap_129 : decode cX7_gap 129 = .ok (.invokevirtual 65, 3) := by decide +kernel
theorem dX7_gap_132 : decode cX7_gap 132 = .ok (.ifCond .ne 9, 3) := by decide +kernel
theorem dX7_gap_135 : decode cX7_gap 135 = .ok (.iinc 8 1, 3) := by decide +kernel
theorem dX7_gap_138 : decode cX7_gap 138 = .ok (.goto (-19), 3) := by decide +kernel
theorem dX7_gap_141 : decode cX7_gap 141 = .ok (.bipush 100, 2) := by decide +kernel
theorem dX7_gap_143 : decode cX7_gap 143 = .ok (.iload 6, 2) := by decide +kernel
theorem dX7_gap_145 : decode cX7_gap 145 = .ok (.imul, 1) := by decide +kernel
theorem dX7_gap_146 : decode cX7_gap 146 = .ok (.iload 8, 2) := by decide +kernel
theorem dX7_gap_148 : decode cX7_gap 148 = .ok (.iadd, 1) := by decide +kernel
theorem dX7_gap_149 : decode cX7_gap 149 = .ok (.ireturn, 1) := by decide +kernel
theorem dX7_gap_150 : decode cX7_gap 150 = .ok (.iinc 6 1, 3) := by decide +kernel
theorem dX7_gap_153 : decode cX7_gap 153 = .ok (.goto (-116), 3) := by decide +kernel
theorem dX7_gap_156 : decode cX7_gap 156 = .ok (.ldc 109, 2) := by decide +kernel
theorem dX7_gap_158 : decode cX7_gap 158 = .ok (.ireturn, 1) := by decide +kernel
set_option maxRecDepth 20000 in
theorem ggX7_isGiven_X7_doesKnow : GoodIn wsX7_isGiven wsX7_doesKnow := goodIn_r _ [5, 6, 15, 16, 17, 18, 19, 20, 21, 22, 23, 24, 25, 26, 27, 28] (by decide +kernel) (by decide +kernel)
set_option maxRecDepth 20000 in
theorem gX7_isGiven_X7_doesKnow : GoodIn wsX7_isGiven (wsV RX7 65 RX7 yX7_doesKnow wsX7_doesKnow) := goodIn_app (goodIn_of _ (by decide +kernel)) ggX7_isGiven_X7_doesKnow
set_option maxRecDepth 20000 in
theorem ggX7_isGiven_X7_greatest : GoodIn wsX7_isGiven wsX7_greatest := goodIn_r _ [10, 11, 12, 13, 4, 14, 1, 2, 3, 5, 6, 15, 16, 17, 18, 19, 20, 21, 22, 23, 24, 25, 26, 27, 28] (by decide +kernel) (by decide +kernel)
set_option maxRecDepth 20000 in
theorem gX7_isGiven_X7_greatest : GoodIn wsX7_isGiven (wsV RX7 117 RX7 yX7_greatest wsX7_greatest) := goodIn_app (goodIn_of _ (by decide +kernel)) ggX7_isGiven_X7_greatest
theorem dX7_isGiven_0 : decode cX7_isGiven 0 = .ok (.aload_n 0, 1) := by decide +kernel
theorem dX7_isGiven_1 : decode cX7_isGiven 1 = .ok (.iload_n 1, 1) := by decide +kernel
theorem dX7_isGiven_2 : decode cX7_isGiven 2 = .ok (.iload_n 3, 1) := by decide +kernel
theorem dX7_isGiven_3 : decode cX7_isGiven 3 = .ok (.invokevirtual 65, 3) := by decide +kernel
theorem dX7_isGiven_6 : decode cX7_isGiven 6 = .ok (.ifCond .ne 34, 3) := by decide +kernel
theorem dX7_isGiven_9 : decode cX7_isGiven 9 = .ok (.aload_n 0, 1) := by decide +kernel
theorem dX7_isGiven_10 : decode cX7_isGiven 10 = .ok (.iload_n 2, 1) := by decide +kernel
theorem dX7_isGiven_11 : decode cX7_isGiven 11 = .ok (.iload_n 3, 1) := by decide +kernel
theorem dX7_isGiven_12 : decode cX7_isGiven 12 = .ok (.invokevirtual 65, 3) := by decide +kernel
theorem dX7_isGiven_15 : decode cX7_isGiven 15 = .ok (.ifCond .eq 25, 3) := by decide +kernel
theorem dX7_isGiven_18 : decode cX7_isGiven 18 = .ok (.iload_n 3, 1) := by decide +kernel
theorem dX7_isGiven_19 : decode cX7_isGiven 19 = .ok (.bipush 20, 2) := by decide +kernel
theorem dX7_isGiven_21 : decode cX7_isGiven 21 = .ok (.irem, 1) := by decide +kernel
theorem dX7_isGiven_22 : decode cX7_isGiven 22 = .ok (.iconst 1, 1) := by decide +kernel
theorem dX7_isGiven_23 : decode cX7_isGiven 23 = .ok (.iadd, 1) := by decide +kernel
theorem dX7_isGiven_24 : decode cX7_isGiven 24 = .ok (.aload_n 0, 1) := by decide +kernel
theorem dX7_isGiven_25 : decode cX7_isGiven 25 = .ok (.iload_n 1, 1) := by decide +kernel
theorem dX7_isGiven_26 : decode cX7_isGiven 26 = .ok (.iload_n 3, 1) := by decide +kernel
theorem dX7_isGiven_27 : decode cX7_isGiven 27 = .ok (.bipush 20, 2) := by decide +kernel
theorem dX7_isGiven_29 : decode cX7_isGiven 29 = .ok (.idiv, 1) := by decide +kernel
theorem dX7_isGiven_30 : decode cX7_isGiven 30 = .ok (.invokevirtual 117, 3) := by decide +kernel
theorem dX7_isGiven_33 : decode cX7_isGiven 33 = .ok (.if_icmp .ge 7, 3) := by decide +kernel
theorem dX7_isGiven_36 : decode cX7_isGiven 36 = .ok (.iconst 1, 1) := by decide +kernel
theorem dX7_isGiven_37 : decode cX7_isGiven 37 = .ok (.goto 4, 3) := by decide +kernel
theorem dX7_isGiven_40 : decode cX7_isGiven 40 = .ok (.iconst 0, 1) := by decide +kernel
theorem dX7_isGiven_41 : decode cX7_isGiven 41 = .ok (.ireturn, 1) := by decide +kernel
set_option maxRecDepth 20000 in
theorem ggX7_givenMany_X7_isGiven : GoodIn wsX7_givenMany wsX7_isGiven := goodIn_r _ [5, 6, 7, 8, 4, 9, 10, 11, 12, 13, 14, 15, 16, 17, 18, 19, 20, 21, 22, 23, 24, 25, 26, 27, 28, 29, 30, 31, 32] (by decide +kernel) (by decide +kernel)
set_option maxRecDepth 20000 in
theorem gX7_givenMany_X7_isGiven : GoodIn wsX7_givenMany (wsV RX7 120 RX7 yX7_isGiven wsX7_isGiven) := goodIn_app (goodIn_of _ (by decide +kernel)) ggX7_givenMany_X7_isGiven
theorem dX7_givenMany_0 : decode cX7_givenMany 0 = .ok (.iconst 0, 1) := by decide +kernel
theorem dX7_givenMany_1 : decode cX7_givenMany 1 = .ok (.istore_n 3, 1) := by decide +kernel
theorem dX7_givenMany_2 : decode cX7_givenMany 2 = .ok (.iconst 0, 1) := by decide +kernel
theorem dX7_givenMany_3 : decode cX7_givenMany 3 = .ok (.istore 4, 2) := by decide +kernel
theorem dX7_givenMany_5 : decode cX7_givenMany 5 = .ok (.iload 4, 2) := by decide +kernel
theorem dX7_givenMany_7 : decode cX7_givenMany 7 = .ok (.bipush 100, 2) := by decide +kernel
theorem dX7_givenMany_9 : decode cX7_givenMany 9 = .ok (.if_icmp .ge 28, 3) := by decide +kernel
theorem dX7_givenMany_12 : decode cX7_givenMany 12 = .ok (.iload_n 3, 1) := by decide +kernel
theorem dX7_givenMany_13 : decode cX7_givenMany 13 = .ok (.aload_n 0, 1) := by decide +kernel
theorem dX7_givenMany_14 : decode cX7_givenMany 14 = .ok (.iload_n 1, 1) := by decide +kernel
theorem dX7_givenMany_15 : decode cX7_givenMany 15 = .ok (.iload_n 2, 1) := by decide +kernel
theorem dX7_givenMany_16 : decode cX7_givenMany 16 = .ok (.iload 4, 2) := by decide +kernel
theorem dX7_givenMany_18 : decode cX7_givenMany 18 = .ok (.invokevirtual 120, 3) := by decide +kernel
theorem dX7_givenMany_21 : decode cX7_givenMany 21 = .ok (.ifCond .eq 7, 3) := by decide +kernel
theorem dX7_givenMany_24 : decode cX7_givenMany 24 = .ok (.iconst 1, 1) := by decide +kernel
theorem dX7_givenMany_25 : decode cX7_givenMany 25 = .ok (.goto 4, 3) := by decide +kernel
theorem dX7_givenMany_28 : decode cX7_givenMany 28 = .ok (.iconst 0, 1) := by decide +kernel
theorem dX7_givenMany_29 : decode cX7_givenMany 29 = .ok (.iadd, 1) := by decide +kernel
theorem dX7_givenMany_30 : decode cX7_givenMany 30 = .ok (.istore_n 3, 1) := by decide +kernel
theorem dX7_givenMany_31 : decode cX7_givenMany 31 = .ok (.iinc 4 1, 3) := by decide +kernel
theorem dX7_givenMany_34 : decode cX7_givenMany 34 = .ok (.goto (-29), 3) := by decide +kernel
theorem dX7_givenMany_37 : decode cX7_givenMany 37 = .ok (.iload_n 3, 1) := by decide +kernel
theorem dX7_givenMany_38 : decode cX7_givenMany 38 = .ok (.ireturn, 1) := by decide +kernel
set_option maxRecDepth 20000 in
theorem ggX7_repair_X7_isPair : GoodIn wsX7_repair wsX7_isPair := goodIn_r _ [6, 7, 8, 9, 5, 10, 11, 12, 13, 14, 42, 43, 44, 45, 46, 47, 48, 49, 50, 51, 52, 53, 54, 55] (by decide +kernel) (by decide +kernel)
set_option maxRecDepth 20000 in
theorem gX7_repair_X7_isPair : GoodIn wsX7_repair (wsV RX7 106 RX7 yX7_isPair wsX7_isPair) := goodIn_app (goodIn_of _ (by decide +kernel)) ggX7_repair_X7_isPair
set_option maxRecDepth 20000 in
theorem ggX7_repair_X7_isGiven : GoodIn wsX7_repair wsX7_isGiven := goodIn_r _ [18, 19, 20, 21, 5, 22, 23, 24, 25, 26, 27, 28, 29, 30, 31, 42, 43, 44, 45, 46, 47, 48, 49, 50, 51, 52, 53, 54, 55] (by decide +kernel) (by decide +kernel)
set_option maxRecDepth 20000 in
theorem gX7_repair_X7_isGiven : GoodIn wsX7_repair (wsV RX7 120 RX7 yX7_isGiven wsX7_isGiven) := goodIn_app (goodIn_of _ (by decide +kernel)) ggX7_repair_X7_isGiven
set_option maxRecDepth 20000 in
theorem ggX7_repair_X7_learns : GoodIn wsX7_repair wsX7_learns := goodIn_r _ [35, 23, 36, 37, 38, 39, 5, 40, 41, 42, 43, 44, 45, 46, 47, 48, 49, 50, 51, 52, 53, 54, 55] (by decide +kernel) (by decide +kernel)
end
section
set_option maxRecDepth 20000 in
theorem gX7_repair_X7_learns : GoodIn wsX7_repair (wsV RX7 113 RX7 yX7_learns wsX7_learns) := goodIn_app (goodIn_of _ (by decide +kernel)) ggX7_repair_X7_learns
theorem dX7_repair_0 : decode cX7_repair 0 = .ok (.aload_n 0, 1) := by decide +kernel
theorem dX7_repair_1 : decode cX7_repair 1 = .ok (.iload_n 1, 1) := by decide +kernel
theorem dX7_repair_2 : decode cX7_repair 2 = .ok (.iload_n 2, 1) := by decide +kernel
theorem dX7_repair_3 : decode cX7_repair 3 = .ok (.invokevirtual 106, 3) := by decide +kernel
theorem dX7_repair_6 : decode cX7_repair 6 = .ok (.ifCond .ne 6, 3) := by decide +kernel
theorem dX7_repair_9 : decode cX7_repair 9 = .ok (.ldc 89, 2) := by decide +kernel
theorem dX7_repair_11 : decode cX7_repair 11 = .ok (.ireturn, 1) := by decide +kernel
theorem dX7_repair_12 : decode cX7_repair 12 = .ok (.iconst 0, 1) := by decide +kernel
theorem dX7_repair_13 : decode cX7_repair 13 = .ok (.istore_n 3, 1) := by decide +kernel
theorem dX7_repair_14 : decode cX7_repair 14 = .ok (.iconst 0, 1) := by decide +kernel
theorem dX7_repair_15 : decode cX7_repair 15 = .ok (.istore 4, 2) := by decide +kernel
theorem dX7_repair_17 : decode cX7_repair 17 = .ok (.iload 4, 2) := by decide +kernel
theorem dX7_repair_19 : decode cX7_repair 19 = .ok (.bipush 100, 2) := by decide +kernel
theorem dX7_repair_21 : decode cX7_repair 21 = .ok (.if_icmp .ge 30, 3) := by decide +kernel
theorem dX7_repair_24 : decode cX7_repair 24 = .ok (.aload_n 0, 1) := by decide +kernel
theorem dX7_repair_25 : decode cX7_repair 25 = .ok (.iload_n 1, 1) := by decide +kernel
theorem dX7_repair_26 : decode cX7_repair 26 = .ok (.iload_n 2, 1) := by decide +kernel
theorem dX7_repair_27 : decode cX7_repair 27 = .ok (.iload 4, 2) := by decide +kernel
theorem dX7_repair_29 : decode cX7_repair 29 = .ok (.invokevirtual 120, 3) := by decide +kernel
theorem dX7_repair_32 : decode cX7_repair 32 = .ok (.ifCond .eq 13, 3) := by decide +kernel
theorem dX7_repair_35 : decode cX7_repair 35 = .ok (.aload_n 0, 1) := by decide +kernel
theorem dX7_repair_36 : decode cX7_repair 36 = .ok (.iload_n 1, 1) := by decide +kernel
theorem dX7_repair_37 : decode cX7_repair 37 = .ok (.iload 4, 2) := by decide +kernel
theorem dX7_repair_39 : decode cX7_repair 39 = .ok (.invokevirtual 113, 3) := by decide +kernel
theorem dX7_repair_42 : decode cX7_repair 42 = .ok (.iinc 3 1, 3) := by decide +kernel
theorem dX7_repair_45 : decode cX7_repair 45 = .ok (.iinc 4 1, 3) := by decide +kernel
theorem dX7_repair_48 : decode cX7_repair 48 = .ok (.goto (-31), 3) := by decide +kernel
theorem dX7_repair_51 : decode cX7_repair 51 = .ok (.iload_n 3, 1) := by decide +kernel
theorem dX7_repair_52 : decode cX7_repair 52 = .ok (.ireturn, 1) := by decide +kernel
set_option maxRecDepth 20000 in
theorem ggX7_sizeOf_X7_of : GoodIn wsX7_sizeOf wsX7_of := goodIn_r _ [5, 6, 10, 11, 12, 13, 14, 15, 16, 17, 18, 19, 20, 21, 22, 23] (by decide +kernel) (by decide +kernel)
set_option maxRecDepth 20000 in
theorem gX7_sizeOf_X7_of : GoodIn wsX7_sizeOf (wsV RX7 58 RX7 yX7_of wsX7_of) := goodIn_app (goodIn_of _ (by decide +kernel)) ggX7_sizeOf_X7_of
set_option maxRecDepth 20000 in
theorem ggX7_sizeOf_X7_in : GoodIn wsX7_sizeOf wsX7_in := goodIn_r _ [9] (by decide +kernel) (by decide +kernel)
set_option maxRecDepth 20000 in
theorem gX7_sizeOf_X7_in : GoodIn wsX7_sizeOf (va_wsS RX7 50 yX7_in wsX7_in) := goodIn_app (goodIn_of _ (by decide +kernel)) ggX7_sizeOf_X7_in
theorem dX7_sizeOf_0 : decode cX7_sizeOf 0 = .ok (.aload_n 0, 1) := by decide +kernel
theorem dX7_sizeOf_1 : decode cX7_sizeOf 1 = .ok (.iload_n 1, 1) := by decide +kernel
theorem dX7_sizeOf_2 : decode cX7_sizeOf 2 = .ok (.iconst 0, 1) := by decide +kernel
theorem dX7_sizeOf_3 : decode cX7_sizeOf 3 = .ok (.invokevirtual 58, 3) := by decide +kernel
theorem dX7_sizeOf_6 : decode cX7_sizeOf 6 = .ok (.ifCond .eq 19, 3) := by decide +kernel
theorem dX7_sizeOf_9 : decode cX7_sizeOf 9 = .ok (.aload_n 0, 1) := by decide +kernel
theorem dX7_sizeOf_10 : decode cX7_sizeOf 10 = .ok (.iload_n 1, 1) := by decide +kernel
theorem dX7_sizeOf_11 : decode cX7_sizeOf 11 = .ok (.iconst 0, 1) := by decide +kernel
theorem dX7_sizeOf_12 : decode cX7_sizeOf 12 = .ok (.invokevirtual 58, 3) := by decide +kernel
theorem dX7_sizeOf_15 : decode cX7_sizeOf 15 = .ok (.iconst 3, 1) := by decide +kernel
theorem dX7_sizeOf_16 : decode cX7_sizeOf 16 = .ok (.if_icmp .ne 7, 3) := by decide +kernel
theorem dX7_sizeOf_19 : decode cX7_sizeOf 19 = .ok (.iconst 4, 1) := by decide +kernel
theorem dX7_sizeOf_20 : decode cX7_sizeOf 20 = .ok (.goto 4, 3) := by decide +kernel
theorem dX7_sizeOf_23 : decode cX7_sizeOf 23 = .ok (.iconst 3, 1) := by decide +kernel
theorem dX7_sizeOf_24 : decode cX7_sizeOf 24 = .ok (.ireturn, 1) := by decide +kernel
theorem dX7_sizeOf_25 : decode cX7_sizeOf 25 = .ok (.iconst 4, 1) := by decide +kernel
theorem dX7_sizeOf_26 : decode cX7_sizeOf 26 = .ok (.istore_n 2, 1) := by decide +kernel
theorem dX7_sizeOf_27 : decode cX7_sizeOf 27 = .ok (.iconst 1, 1) := by decide +kernel
theorem dX7_sizeOf_28 : decode cX7_sizeOf 28 = .ok (.istore_n 3, 1) := by decide +kernel
theorem dX7_sizeOf_29 : decode cX7_sizeOf 29 = .ok (.iload_n 3, 1) := by decide +kernel
theorem dX7_sizeOf_30 : decode cX7_sizeOf 30 = .ok (.aload_n 0, 1) := by decide +kernel
theorem dX7_sizeOf_31 : decode cX7_sizeOf 31 = .ok (.iload_n 1, 1) := by decide +kernel
theorem dX7_sizeOf_32 : decode cX7_sizeOf 32 = .ok (.iconst 4, 1) := by decide +kernel
theorem dX7_sizeOf_33 : decode cX7_sizeOf 33 = .ok (.invokevirtual 58, 3) := by decide +kernel
theorem dX7_sizeOf_36 : decode cX7_sizeOf 36 = .ok (.if_icmp .ge 91, 3) := by decide +kernel
theorem dX7_sizeOf_39 : decode cX7_sizeOf 39 = .ok (.aload_n 0, 1) := by decide +kernel
theorem dX7_sizeOf_40 : decode cX7_sizeOf 40 = .ok (.iload_n 1, 1) := by decide +kernel
theorem dX7_sizeOf_41 : decode cX7_sizeOf 41 = .ok (.iconst 5, 1) := by decide +kernel
theorem dX7_sizeOf_42 : decode cX7_sizeOf 42 = .ok (.iconst 2, 1) := by decide +kernel
theorem dX7_sizeOf_43 : decode cX7_sizeOf 43 = .ok (.iload_n 3, 1) := by decide +kernel
theorem dX7_sizeOf_44 : decode cX7_sizeOf 44 = .ok (.imul, 1) := by decide +kernel
theorem dX7_sizeOf_45 : decode cX7_sizeOf 45 = .ok (.iadd, 1) := by decide +kernel
theorem dX7_sizeOf_46 : decode cX7_sizeOf 46 = .ok (.invokevirtual 58, 3) := by decide +kernel
theorem dX7_sizeOf_49 : decode cX7_sizeOf 49 = .ok (.aload_n 0, 1) := by decide +kernel
theorem dX7_sizeOf_50 : decode cX7_sizeOf 50 = .ok (.iload_n 1, 1) := by decide +kernel
theorem dX7_sizeOf_51 : decode cX7_sizeOf 51 = .ok (.iconst 5, 1) := by decide +kernel
theorem dX7_sizeOf_52 : decode cX7_sizeOf 52 = .ok (.iconst 2, 1) := by decide +kernel
theorem dX7_sizeOf_53 : decode cX7_sizeOf 53 = .ok (.iload_n 3, 1) := by decide +kernel
theorem dX7_sizeOf_54 : decode cX7_sizeOf 54 = .ok (.imul, 1) := by decide +kernel
theorem dX7_sizeOf_55 : decode cX7_sizeOf 55 = .ok (.iadd, 1) := by decide +kernel
theorem dX7_sizeOf_56 : decode cX7_sizeOf 56 = .ok (.iconst 2, 1) := by decide +kernel
theorem dX7_sizeOf_57 : decode cX7_sizeOf 57 = .ok (.isub, 1) := by decide +kernel
theorem dX7_sizeOf_58 : decode cX7_sizeOf 58 = .ok (.invokevirtual 58, 3) := by decide +kernel
theorem dX7_sizeOf_61 : decode cX7_sizeOf 61 = .ok (.isub, 1) := by decide +kernel
theorem dX7_sizeOf_62 : decode cX7_sizeOf 62 = .ok (.istore 4, 2) := by decide +kernel
theorem dX7_sizeOf_64 : decode cX7_sizeOf 64 = .ok (.aload_n 0, 1) := by decide +kernel
theorem dX7_sizeOf_65 : decode cX7_sizeOf 65 = .ok (.iload_n 1, 1) := by decide +kernel
theorem dX7_sizeOf_66 : decode cX7_sizeOf 66 = .ok (.iconst 5, 1) := by decide +kernel
theorem dX7_sizeOf_67 : decode cX7_sizeOf 67 = .ok (.iconst 2, 1) := by decide +kernel
theorem dX7_sizeOf_68 : decode cX7_sizeOf 68 = .ok (.iload_n 3, 1) := by decide +kernel
theorem dX7_sizeOf_69 : decode cX7_sizeOf 69 = .ok (.imul, 1) := by decide +kernel
theorem dX7_sizeOf_70 : decode cX7_sizeOf 70 = .ok (.iadd, 1) := by decide +kernel
theorem dX7_sizeOf_71 : decode cX7_sizeOf 71 = .ok (.iconst 1, 1) := by decide +kernel
theorem dX7_sizeOf_72 : decode cX7_sizeOf 72 = .ok (.iadd, 1) := by decide +kernel
theorem dX7_sizeOf_73 : decode cX7_sizeOf 73 = .ok (.invokevirtual 58, 3) := by decide +kernel
theorem dX7_sizeOf_76 : decode cX7_sizeOf 76 = .ok (.aload_n 0, 1) := by decide +kernel
theorem dX7_sizeOf_77 : decode cX7_sizeOf 77 = .ok (.iload_n 1, 1) := by decide +kernel
theorem dX7_sizeOf_78 : decode cX7_sizeOf 78 = .ok (.iconst 5, 1) := by decide +kernel
theorem dX7_sizeOf_79 : decode cX7_sizeOf 79 = .ok (.iconst 2, 1) := by decide +kernel
theorem dX7_sizeOf_80 : decode cX7_sizeOf 80 = .ok (.iload_n 3, 1) := by decide +kernel
theorem dX7_sizeOf_81 : decode cX7_sizeOf 81 = .ok (.imul, 1) := by decide +kernel
theorem dX7_sizeOf_82 : decode cX7_sizeOf 82 = .ok (.iadd, 1) := by decide +kernel
theorem dX7_sizeOf_83 : decode cX7_sizeOf 83 = .ok (.iconst 1, 1) := by decide +kernel
theorem dX7_sizeOf_84 : decode cX7_sizeOf 84 = .ok (.isub, 1) := by decide +kernel
theorem dX7_sizeOf_85 : decode cX7_sizeOf 85 = .ok (.invokevirtual 58, 3) := by decide +kernel
theorem dX7_sizeOf_88 : decode cX7_sizeOf 88 = .ok (.isub, 1) := by decide +kernel
theorem dX7_sizeOf_89 : decode cX7_sizeOf 89 = .ok (.istore 5, 2) := by decide +kernel
theorem dX7_sizeOf_91 : decode cX7_sizeOf 91 = .ok (.iload_n 2, 1) := by decide +kernel
theorem dX7_sizeOf_92 : decode cX7_sizeOf 92 = .ok (.iload 4, 2) := by decide +kernel
theorem dX7_sizeOf_94 : decode cX7_sizeOf 94 = .ok (.bipush (-4), 2) := by decide +kernel
theorem dX7_sizeOf_96 : decode cX7_sizeOf 96 = .ok (.iconst 3, 1) := by decide +kernel
theorem dX7_sizeOf_97 : decode cX7_sizeOf 97 = .ok (.invokestatic 50, 3) := by decide +kernel
theorem dX7_sizeOf_100 : decode cX7_sizeOf 100 = .ok (.ifCond .eq 18, 3) := by decide +kernel
theorem dX7_sizeOf_103 : decode cX7_sizeOf 103 = .ok (.iload 5, 2) := by decide +kernel
theorem dX7_sizeOf_105 : decode cX7_sizeOf 105 = .ok (.bipush (-4), 2) := by decide +kernel
theorem dX7_sizeOf_107 : decode cX7_sizeOf 107 = .ok (.iconst 3, 1) := by decide +kernel
theorem dX7_sizeOf_108 : decode cX7_sizeOf 108 = .ok (.invokestatic 50, 3) := by decide +kernel
theorem dX7_sizeOf_111 : decode cX7_sizeOf 111 = .ok (.ifCond .eq 7, 3) := by decide +kernel
theorem dX7_sizeOf_114 : decode cX7_sizeOf 114 = .ok (.iconst 1, 1) := by decide +kernel
theorem dX7_sizeOf_115 : decode cX7_sizeOf 115 = .ok (.goto 4, 3) := by decide +kernel
theorem dX7_sizeOf_118 : decode cX7_sizeOf 118 = .ok (.iconst 2, 1) := by decide +kernel
theorem dX7_sizeOf_119 : decode cX7_sizeOf 119 = .ok (.iadd, 1) := by decide +kernel
theorem dX7_sizeOf_120 : decode cX7_sizeOf 120 = .ok (.istore_n 2, 1) := by decide +kernel
theorem dX7_sizeOf_121 : decode cX7_sizeOf 121 = .ok (.iinc 3 1, 3) := by decide +kernel
theorem dX7_sizeOf_124 : decode cX7_sizeOf 124 = .ok (.goto (-95), 3) := by decide +kernel
theorem dX7_sizeOf_127 : decode cX7_sizeOf 127 = .ok (.iload_n 2, 1) := by decide +kernel
theorem dX7_sizeOf_128 : decode cX7_sizeOf 128 = .ok (.ireturn, 1) := by decide +kernel
set_option maxRecDepth 20000 in
theorem ggX7_transfer_X7_isPair : GoodIn wsX7_transfer wsX7_isPair := goodIn_r _ [7, 8, 9, 10, 6, 11, 12, 13, 14, 15, 34, 35, 36, 37, 38, 39, 40, 41, 42, 43, 44, 45, 46, 47] (by decide +kernel) (by decide +kernel)
set_option maxRecDepth 20000 in
theorem gX7_transfer_X7_isPair : GoodIn wsX7_transfer (wsV RX7 106 RX7 yX7_isPair wsX7_isPair) := goodIn_app (goodIn_of _ (by decide +kernel)) ggX7_transfer_X7_isPair
set_option maxRecDepth 20000 in
theorem ggX7_transfer_X7_doesKnow : GoodIn wsX7_transfer wsX7_doesKnow := goodIn_r _ [19, 20, 34, 35, 36, 37, 38, 39, 40, 41, 42, 43, 44, 45, 46, 47] (by decide +kernel) (by decide +kernel)
set_option maxRecDepth 20000 in
theorem gX7_transfer_X7_doesKnow : GoodIn wsX7_transfer (wsV RX7 65 RX7 yX7_doesKnow wsX7_doesKnow) := goodIn_app (goodIn_of _ (by decide +kernel)) ggX7_transfer_X7_doesKnow
set_option maxRecDepth 20000 in
theorem ggX7_transfer_X7_learns : GoodIn wsX7_transfer wsX7_learns := goodIn_r _ [24, 20, 2, 25, 26, 27, 6, 28, 29, 34, 35, 36, 37, 38, 39, 40, 41, 42, 43, 44, 45, 46, 47] (by decide +kernel) (by decide +kernel)
set_option maxRecDepth 20000 in
theorem gX7_transfer_X7_learns : GoodIn wsX7_transfer (wsV RX7 113 RX7 yX7_learns wsX7_learns) := goodIn_app (goodIn_of _ (by decide +kernel)) ggX7_transfer_X7_learns
set_option maxRecDepth 20000 in
theorem ggX7_transfer_X7_sizeOf : GoodIn wsX7_transfer wsX7_sizeOf := goodIn_r _ [33, 25, 26, 27, 6, 28, 29, 13, 14, 15, 34, 35, 36, 37, 38, 39, 40, 41, 42, 43, 44, 45, 46, 47] (by decide +kernel) (by decide +kernel)
set_option maxRecDepth 20000 in
theorem gX7_transfer_X7_sizeOf : GoodIn wsX7_transfer (wsV RX7 123 RX7 yX7_sizeOf wsX7_sizeOf) := goodIn_app (goodIn_of _ (by decide +kernel)) ggX7_transfer_X7_sizeOf
theorem dX7_transfer_0 : decode cX7_transfer 0 = .ok (.aload_n 0, 1) := by decide +kernel
theorem dX7_transfer_1 : decode cX7_transfer 1 = .ok (.iload_n 1, 1) := by decide +kernel
theorem dX7_transfer_2 : decode cX7_transfer 2 = .ok (.iload_n 2, 1) := by decide +kernel
theorem dX7_transfer_3 : decode cX7_transfer 3 = .ok (.invokevirtual 106, 3) := by decide +kernel
theorem dX7_transfer_6 : decode cX7_transfer 6 = .ok (.ifCond .ne 6, 3) := by decide +kernel
theorem dX7_transfer_9 : decode cX7_transfer 9 = .ok (.ldc 89, 2) := by decide +kernel
theorem dX7_transfer_11 : decode cX7_transfer 11 = .ok (.ireturn, 1) := by decide +kernel
theorem dX7_transfer_12 : decode cX7_transfer 12 = .ok (.iconst 0, 1) := by decide +kernel
theorem dX7_transfer_13 : decode cX7_transfer 13 = .ok (.istore_n 3, 1) := by decide +kernel
theorem dX7_transfer_14 : decode cX7_transfer 14 = .ok (.iconst 0, 1) := by decide +kernel
theorem dX7_transfer_15 : decode cX7_transfer 15 = .ok (.istore 4, 2) := by decide +kernel
theorem dX7_transfer_17 : decode cX7_transfer 17 = .ok (.iload 4, 2) := by decide +kernel
theorem dX7_transfer_19 : decode cX7_transfer 19 = .ok (.bipush 100, 2) := by decide +kernel
theorem dX7_transfer_21 : decode cX7_transfer 21 = .ok (.if_icmp .ge 45, 3) := by decide +kernel
theorem dX7_transfer_24 : decode cX7_transfer 24 = .ok (.aload_n 0, 1) := by decide +kernel
theorem dX7_transfer_25 : decode cX7_transfer 25 = .ok (.iload_n 2, 1) := by decide +kernel
theorem dX7_transfer_26 : decode cX7_transfer 26 = .ok (.iload 4, 2) := by decide +kernel
theorem dX7_transfer_28 : decode cX7_transfer 28 = .ok (.invokevirtual 65, 3) := by decide +kernel
theorem dX7_transfer_31 : decode cX7_transfer 31 = .ok (.ifCond .eq 29, 3) := by decide +kernel
theorem dX7_transfer_34 : decode cX7_transfer 34 = .ok (.aload_n 0, 1) := by decide +kernel
theorem dX7_transfer_35 : decode cX7_transfer 35 = .ok (.iload_n 1, 1) := by decide +kernel
theorem dX7_transfer_36 : decode cX7_transfer 36 = .ok (.iload 4, 2) := by decide +kernel
theorem dX7_transfer_38 : decode cX7_transfer 38 = .ok (.invokevirtual 65, 3) := by decide +kernel
theorem dX7_transfer_41 : decode cX7_transfer 41 = .ok (.ifCond .ne 19, 3) := by decide +kernel
theorem dX7_transfer_44 : decode cX7_transfer 44 = .ok (.aload_n 0, 1) := by decide +kernel
theorem dX7_transfer_45 : decode cX7_transfer 45 = .ok (.iload_n 1, 1) := by decide +kernel
theorem dX7_transfer_46 : decode cX7_transfer 46 = .ok (.iload 4, 2) := by decide +kernel
theorem dX7_transfer_48 : decode cX7_transfer 48 = .ok (.invokevirtual 113, 3) := by decide +kernel
theorem dX7_transfer_51 : decode cX7_transfer 51 = .ok (.iload_n 3, 1) := by decide +kernel
theorem dX7_transfer_52 : decode cX7_transfer 52 = .ok (.aload_n 0, 1) := by decide +kernel
theorem dX7_transfer_53 : decode cX7_transfer 53 = .ok (.iload 4, 2) := by decide +kernel
theorem dX7_transfer_55 : decode cX7_transfer 55 = .ok (.invokevirtual 123, 3) := by decide +kernel
theorem dX7_transfer_58 : decode cX7_transfer 58 = .ok (.iadd, 1) := by decide +kernel
theorem dX7_transfer_59 : decode cX7_transfer 59 = .ok (.istore_n 3, 1) := by decide +kernel
theorem dX7_transfer_60 : decode cX7_transfer 60 = .ok (.iinc 4 1, 3) := by decide +kernel
theorem dX7_transfer_63 : decode cX7_transfer 63 = .ok (.goto (-46), 3) := by decide +kernel
theorem dX7_transfer_66 : decode cX7_transfer 66 = .ok (.aload_n 0, 1) := by decide +kernel
theorem dX7_transfer_67 : decode cX7_transfer 67 = .ok (.getfield 20, 3) := by decide +kernel
theorem dX7_transfer_70 : decode cX7_transfer 70 = .ok (.iload_n 1, 1) := by decide +kernel
theorem dX7_transfer_71 : decode cX7_transfer 71 = .ok (.aload_n 0, 1) := by decide +kernel
theorem dX7_transfer_72 : decode cX7_transfer 72 = .ok (.getfield 20, 3) := by decide +kernel
theorem dX7_transfer_75 : decode cX7_transfer 75 = .ok (.iload_n 2, 1) := by decide +kernel
theorem dX7_transfer_76 : decode cX7_transfer 76 = .ok (.iaload, 1) := by decide +kernel
theorem dX7_transfer_77 : decode cX7_transfer 77 = .ok (.aload_n 0, 1) := by decide +kernel
theorem dX7_transfer_78 : decode cX7_transfer 78 = .ok (.getfield 20, 3) := by decide +kernel
theorem dX7_transfer_81 : decode cX7_transfer 81 = .ok (.iload_n 1, 1) := by decide +kernel
theorem dX7_transfer_82 : decode cX7_transfer 82 = .ok (.iaload, 1) := by decide +kernel
theorem dX7_transfer_83 : decode cX7_transfer 83 = .ok (.if_icmp .le 12, 3) := by decide +kernel
theorem dX7_transfer_86 : decode cX7_transfer 86 = .ok (.aload_n 0, 1) := by decide +kernel
theorem dX7_transfer_87 : decode cX7_transfer 87 = .ok (.getfield 20, 3) := by decide +kernel
theorem dX7_transfer_90 : decode cX7_transfer 90 = .ok (.iload_n 2, 1) := by decide +kernel
theorem dX7_transfer_91 : decode cX7_transfer 91 = .ok (.iaload, 1) := by decide +kernel
theorem dX7_transfer_92 : decode cX7_transfer 92 = .ok (.goto 9, 3) := by decide +kernel
theorem dX7_transfer_95 : decode cX7_transfer 95 = .ok (.aload_n 0, 1) := by decide +kernel
theorem dX7_transfer_96 : decode cX7_transfer 96 = .ok (.getfield 20, 3) := by decide +kernel
theorem dX7_transfer_99 : decode cX7_transfer 99 = .ok (.iload_n 1, 1) := by decide +kernel
theorem dX7_transfer_100 : decode cX7_transfer 100 = .ok (.iaload, 1) := by decide +kernel
theorem dX7_transfer_101 : decode cX7_transfer 101 = .ok (.iastore, 1) := by decide +kernel
theorem dX7_transfer_102 : decode cX7_transfer 102 = .ok (.iload_n 3, 1) := by decide +kernel
theorem dX7_transfer_103 : decode cX7_transfer 103 = .ok (.ireturn, 1) := by decide +kernel
set_option maxRecDepth 20000 in
theorem ggX7_operation_X7_isSite : GoodIn wsX7_operation wsX7_isSite := goodIn_r _ [8, 9, 10, 11, 7, 12, 25, 26, 27, 28, 29, 30, 31, 32, 33, 34, 35, 36, 37, 38] (by decide +kernel) (by decide +kernel)
set_option maxRecDepth 20000 in
theorem gX7_operation_X7_isSite : GoodIn wsX7_operation (wsV RX7 54 RX7 yX7_isSite wsX7_isSite) := goodIn_app (goodIn_of _ (by decide +kernel)) ggX7_operation_X7_isSite
set_option maxRecDepth 20000 in
theorem ggX7_operation_X7_in : GoodIn wsX7_operation wsX7_in := goodIn_r _ [12] (by decide +kernel) (by decide +kernel)
set_option maxRecDepth 20000 in
theorem gX7_operation_X7_in : GoodIn wsX7_operation (va_wsS RX7 50 yX7_in wsX7_in) := goodIn_app (goodIn_of _ (by decide +kernel)) ggX7_operation_X7_in
set_option maxRecDepth 20000 in
theorem ggX7_operation_X7_place : GoodIn wsX7_operation wsX7_place := goodIn_r _ [15] (by decide +kernel) (by decide +kernel)
set_option maxRecDepth 20000 in
theorem gX7_operation_X7_place : GoodIn wsX7_operation (va_wsS RX7 62 yX7_place wsX7_place) := goodIn_app (goodIn_of _ (by decide +kernel)) ggX7_operation_X7_place
set_option maxRecDepth 20000 in
theorem ggX7_operation_X7_of : GoodIn wsX7_operation wsX7_of := goodIn_r _ [19, 20, 25, 26, 27, 28, 29, 30, 31, 32, 33, 34, 35, 36, 37, 38] (by decide +kernel) (by decide +kernel)
set_option maxRecDepth 20000 in
theorem gX7_operation_X7_of : GoodIn wsX7_operation (wsV RX7 58 RX7 yX7_of wsX7_of) := goodIn_app (goodIn_of _ (by decide +kernel)) ggX7_operation_X7_of
set_option maxRecDepth 20000 in
theorem ggX7_operation_X7_sizeOf : GoodIn wsX7_operation wsX7_sizeOf := goodIn_r _ [24, 16, 17, 18, 7, 19, 20, 10, 11, 12, 25, 26, 27, 28, 29, 30, 31, 32, 33, 34, 35, 36, 37, 38] (by decide +kernel) (by decide +kernel)
set_option maxRecDepth 20000 in
theorem gX7_operation_X7_sizeOf : GoodIn wsX7_operation (wsV RX7 123 RX7 yX7_sizeOf wsX7_sizeOf) := goodIn_app (goodIn_of _ (by decide +kernel)) ggX7_operation_X7_sizeOf
theorem dX7_operation_0 : decode cX7_operation 0 = .ok (.aload_n 0, 1) := by decide +kernel
theorem dX7_operation_1 : decode cX7_operation 1 = .ok (.iload_n 1, 1) := by decide +kernel
theorem dX7_operation_2 : decode cX7_operation 2 = .ok (.invokevirtual 54, 3) := by decide +kernel
theorem dX7_operation_5 : decode cX7_operation 5 = .ok (.ifCond .eq 17, 3) := by decide +kernel
theorem dX7_operation_8 : decode cX7_operation 8 = .ok (.iload_n 2, 1) := by decide +kernel
theorem dX7_operation_9 : decode cX7_operation 9 = .ok (.iconst 1, 1) := by decide +kernel
theorem dX7_operation_10 : decode cX7_operation 10 = .ok (.if_icmp .lt 12, 3) := by decide +kernel
theorem dX7_operation_13 : decode cX7_operation 13 = .ok (.iload_n 3, 1) := by decide +kernel
theorem dX7_operation_14 : decode cX7_operation 14 = .ok (.iconst 0, 1) := by decide +kernel
theorem dX7_operation_15 : decode cX7_operation 15 = .ok (.iconst 5, 1) := by decide +kernel
theorem dX7_operation_16 : decode cX7_operation 16 = .ok (.invokestatic 50, 3) := by decide +kernel
theorem dX7_operation_19 : decode cX7_operation 19 = .ok (.ifCond .ne 6, 3) := by decide +kernel
theorem dX7_operation_22 : decode cX7_operation 22 = .ok (.ldc 89, 2) := by decide +kernel
theorem dX7_operation_24 : decode cX7_operation 24 = .ok (.ireturn, 1) := by decide +kernel
theorem dX7_operation_25 : decode cX7_operation 25 = .ok (.iload_n 2, 1) := by decide +kernel
theorem dX7_operation_26 : decode cX7_operation 26 = .ok (.aload_n 0, 1) := by decide +kernel
theorem dX7_operation_27 : decode cX7_operation 27 = .ok (.getfield 17, 3) := by decide +kernel
theorem dX7_operation_30 : decode cX7_operation 30 = .ok (.iload_n 1, 1) := by decide +kernel
theorem dX7_operation_31 : decode cX7_operation 31 = .ok (.iaload, 1) := by decide +kernel
theorem dX7_operation_32 : decode cX7_operation 32 = .ok (.if_icmp .le 6, 3) := by decide +kernel
theorem dX7_operation_35 : decode cX7_operation 35 = .ok (.ldc 109, 2) := by decide +kernel
theorem dX7_operation_37 : decode cX7_operation 37 = .ok (.ireturn, 1) := by decide +kernel
theorem dX7_operation_38 : decode cX7_operation 38 = .ok (.iload_n 1, 1) := by decide +kernel
theorem dX7_operation_39 : decode cX7_operation 39 = .ok (.iload_n 2, 1) := by decide +kernel
theorem dX7_operation_40 : decode cX7_operation 40 = .ok (.invokestatic 62, 3) := by decide +kernel
theorem dX7_operation_43 : decode cX7_operation 43 = .ok (.istore 4, 2) := by decide +kernel
theorem dX7_operation_45 : decode cX7_operation 45 = .ok (.iload_n 3, 1) := by decide +kernel
theorem dX7_operation_46 : decode cX7_operation 46 = .ok (.tableswitch 88 0 4 #[34, 42, 50, 57, 65], 34) := by decide +kernel
theorem dX7_operation_80 : decode cX7_operation 80 = .ok (.aload_n 0, 1) := by decide +kernel
theorem dX7_operation_81 : decode cX7_operation 81 = .ok (.iload 4, 2) := by decide +kernel
theorem dX7_operation_83 : decode cX7_operation 83 = .ok (.iconst 0, 1) := by decide +kernel
theorem dX7_operation_84 : decode cX7_operation 84 = .ok (.invokevirtual 58, 3) := by decide +kernel
theorem dX7_operation_87 : decode cX7_operation 87 = .ok (.ireturn, 1) := by decide +kernel
theorem dX7_operation_88 : decode cX7_operation 88 = .ok (.aload_n 0, 1) := by decide +kernel
theorem dX7_operation_89 : decode cX7_operation 89 = .ok (.iload 4, 2) := by decide +kernel
theorem dX7_operation_91 : decode cX7_operation 91 = .ok (.iconst 1, 1) := by decide +kernel
theorem dX7_operation_92 : decode cX7_operation 92 = .ok (.invokevirtual 58, 3) := by decide +kernel
theorem dX7_operation_95 : decode cX7_operation 95 = .ok (.ireturn, 1) := by decide +kernel
theorem dX7_operation_96 : decode cX7_operation 96 = .ok (.aload_n 0, 1) := by decide +kernel
theorem dX7_operation_97 : decode cX7_operation 97 = .ok (.iload 4, 2) := by decide +kernel
theorem dX7_operation_99 : decode cX7_operation 99 = .ok (.invokevirtual 123, 3) := by decide +kernel
theorem dX7_operation_102 : decode cX7_operation 102 = .ok (.ireturn, 1) := by decide +kernel
theorem dX7_operation_103 : decode cX7_operation 103 = .ok (.aload_n 0, 1) := by decide +kernel
theorem dX7_operation_104 : decode cX7_operation 104 = .ok (.iload 4, 2) := by decide +kernel
theorem dX7_operation_106 : decode cX7_operation 106 = .ok (.iconst 4, 1) := by decide +kernel
theorem dX7_operation_107 : decode cX7_operation 107 = .ok (.invokevirtual 58, 3) := by decide +kernel
theorem dX7_operation_110 : decode cX7_operation 110 = .ok (.ireturn, 1) := by decide +kernel
theorem dX7_operation_111 : decode cX7_operation 111 = .ok (.aload_n 0, 1) := by decide +kernel
theorem dX7_operation_112 : decode cX7_operation 112 = .ok (.iload 4, 2) := by decide +kernel
theorem dX7_operation_114 : decode cX7_operation 114 = .ok (.iconst 0, 1) := by decide +kernel
theorem dX7_operation_115 : decode cX7_operation 115 = .ok (.invokevirtual 58, 3) := by decide +kernel
theorem dX7_operation_118 : decode cX7_operation 118 = .ok (.iconst 3, 1) := by decide +kernel
theorem dX7_operation_119 : decode cX7_operation 119 = .ok (.if_icmp .ne 13, 3) := by decide +kernel
theorem dX7_operation_122 : decode cX7_operation 122 = .ok (.aload_n 0, 1) := by decide +kernel
theorem dX7_operation_123 : decode cX7_operation 123 = .ok (.iload 4, 2) := by decide +kernel
theorem dX7_operation_125 : decode cX7_operation 125 = .ok (.iconst 2, 1) := by decide +kernel
theorem dX7_operation_126 : decode cX7_operation 126 = .ok (.invokevirtual 58, 3) := by decide +kernel
theorem dX7_operation_129 : decode cX7_operation 129 = .ok (.goto 4, 3) := by decide +kernel
theorem dX7_operation_132 : decode cX7_operation 132 = .ok (.iload_n 1, 1) := by decide +kernel
theorem dX7_operation_133 : decode cX7_operation 133 = .ok (.ireturn, 1) := by decide +kernel
theorem dX7_operation_134 : decode cX7_operation 134 = .ok (.aload_n 0, 1) := by decide +kernel
theorem dX7_operation_135 : decode cX7_operation 135 = .ok (.iload 4, 2) := by decide +kernel
theorem dX7_operation_137 : decode cX7_operation 137 = .ok (.iconst 3, 1) := by decide +kernel
theorem dX7_operation_138 : decode cX7_operation 138 = .ok (.invokevirtual 58, 3) := by decide +kernel
theorem dX7_operation_141 : decode cX7_operation 141 = .ok (.ireturn, 1) := by decide +kernel
set_option maxRecDepth 20000 in
theorem ggX7_knows_X7_isSite : GoodIn wsX7_knows wsX7_isSite := goodIn_r _ [9, 10, 11, 12, 8, 13, 17, 18, 19, 20, 21, 22, 23, 24, 25, 26, 27, 28, 29, 30] (by decide +kernel) (by decide +kernel)
set_option maxRecDepth 20000 in
theorem gX7_knows_X7_isSite : GoodIn wsX7_knows (wsV RX7 54 RX7 yX7_isSite wsX7_isSite) := goodIn_app (goodIn_of _ (by decide +kernel)) ggX7_knows_X7_isSite
set_option maxRecDepth 20000 in
theorem ggX7_knows_X7_place : GoodIn wsX7_knows wsX7_place := goodIn_r _ [16] (by decide +kernel) (by decide +kernel)
set_option maxRecDepth 20000 in
theorem gX7_knows_X7_place : GoodIn wsX7_knows (va_wsS RX7 62 yX7_place wsX7_place) := goodIn_app (goodIn_of _ (by decide +kernel)) ggX7_knows_X7_place
theorem dX7_knows_0 : decode cX7_knows 0 = .ok (.aload_n 0, 1) := by decide +kernel
theorem dX7_knows_1 : decode cX7_knows 1 = .ok (.iload_n 1, 1) := by decide +kernel
theorem dX7_knows_2 : decode cX7_knows 2 = .ok (.invokevirtual 54, 3) := by decide +kernel
theorem dX7_knows_5 : decode cX7_knows 5 = .ok (.ifCond .eq 16, 3) := by decide +kernel
theorem dX7_knows_8 : decode cX7_knows 8 = .ok (.aload_n 0, 1) := by decide +kernel
theorem dX7_knows_9 : decode cX7_knows 9 = .ok (.iload_n 2, 1) := by decide +kernel
theorem dX7_knows_10 : decode cX7_knows 10 = .ok (.invokevirtual 54, 3) := by decide +kernel
theorem dX7_knows_13 : decode cX7_knows 13 = .ok (.ifCond .eq 8, 3) := by decide +kernel
theorem dX7_knows_16 : decode cX7_knows 16 = .ok (.iload_n 3, 1) := by decide +kernel
theorem dX7_knows_17 : decode cX7_knows 17 = .ok (.iconst 1, 1) := by decide +kernel
theorem dX7_knows_18 : decode cX7_knows 18 = .ok (.if_icmp .ge 6, 3) := by decide +kernel
theorem dX7_knows_21 : decode cX7_knows 21 = .ok (.ldc 89, 2) := by decide +kernel
theorem dX7_knows_23 : decode cX7_knows 23 = .ok (.ireturn, 1) := by decide +kernel
theorem dX7_knows_24 : decode cX7_knows 24 = .ok (.iload_n 3, 1) := by decide +kernel
theorem dX7_knows_25 : decode cX7_knows 25 = .ok (.aload_n 0, 1) := by decide +kernel
theorem dX7_knows_26 : decode cX7_knows 26 = .ok (.getfield 17, 3) := by decide +kernel
theorem dX7_knows_29 : decode cX7_knows 29 = .ok (.iload_n 2, 1) := by decide +kernel
theorem dX7_knows_30 : decode cX7_knows 30 = .ok (.iaload, 1) := by decide +kernel
theorem dX7_knows_31 : decode cX7_knows 31 = .ok (.if_icmp .le 8, 3) := by decide +kernel
theorem dX7_knows_34 : decode cX7_knows 34 = .ok (.ldc 109, 2) := by decide +kernel
theorem dX7_knows_36 : decode cX7_knows 36 = .ok (.goto 18, 3) := by decide +kernel
theorem dX7_knows_39 : decode cX7_knows 39 = .ok (.aload_n 0, 1) := by decide +kernel
theorem dX7_knows_40 : decode cX7_knows 40 = .ok (.getfield 23, 3) := by decide +kernel
theorem dX7_knows_43 : decode cX7_knows 43 = .ok (.bipush 100, 2) := by decide +kernel
theorem dX7_knows_45 : decode cX7_knows 45 = .ok (.iload_n 1, 1) := by decide +kernel
theorem dX7_knows_46 : decode cX7_knows 46 = .ok (.imul, 1) := by decide +kernel
theorem dX7_knows_47 : decode cX7_knows 47 = .ok (.iload_n 2, 1) := by decide +kernel
theorem dX7_knows_48 : decode cX7_knows 48 = .ok (.iload_n 3, 1) := by decide +kernel
theorem dX7_knows_49 : decode cX7_knows 49 = .ok (.invokestatic 62, 3) := by decide +kernel
theorem dX7_knows_52 : decode cX7_knows 52 = .ok (.iadd, 1) := by decide +kernel
theorem dX7_knows_53 : decode cX7_knows 53 = .ok (.iaload, 1) := by decide +kernel
theorem dX7_knows_54 : decode cX7_knows 54 = .ok (.ireturn, 1) := by decide +kernel
set_option maxRecDepth 20000 in
theorem ggX7_stroke_X7_isSite : GoodIn wsX7_stroke wsX7_isSite := goodIn_r _ [10, 11, 12, 13, 9, 14, 52, 53, 54, 55, 56, 57, 58, 59, 60, 61, 62, 63, 64, 65] (by decide +kernel) (by decide +kernel)
set_option maxRecDepth 20000 in
theorem gX7_stroke_X7_isSite : GoodIn wsX7_stroke (wsV RX7 54 RX7 yX7_isSite wsX7_isSite) := goodIn_app (goodIn_of _ (by decide +kernel)) ggX7_stroke_X7_isSite
set_option maxRecDepth 20000 in
theorem ggX7_stroke_X7_in : GoodIn wsX7_stroke wsX7_in := goodIn_r _ [14] (by decide +kernel) (by decide +kernel)
set_option maxRecDepth 20000 in
theorem gX7_stroke_X7_in : GoodIn wsX7_stroke (va_wsS RX7 50 yX7_in wsX7_in) := goodIn_app (goodIn_of _ (by decide +kernel)) ggX7_stroke_X7_in
set_option maxRecDepth 20000 in
theorem ggX7_stroke_X7_workOut : GoodIn wsX7_stroke wsX7_workOut := goodIn_r _ [18, 2, 5, 4, 19, 20, 21, 9, 22, 23, 24, 25, 26, 27, 28, 29, 30, 31, 32, 33, 34, 35, 36, 12, 13, 14, 37, 38, 39, 40, 41, 42, 43, 44, 45, 46, 47, 48, 49, 50, 51, 52, 53, 54, 55, 56, 57, 58, 59, 60, 61, 62, 63, 64, 65] (by decide +kernel) (by decide +kernel)
set_option maxRecDepth 20000 in
theorem gX7_stroke_X7_workOut : GoodIn wsX7_stroke (wsV RX7 98 RX7 yX7_workOut wsX7_workOut) := goodIn_app (goodIn_of _ (by decide +kernel)) ggX7_stroke_X7_workOut
set_option maxRecDepth 20000 in
theorem ggX7_stroke_X7_of : GoodIn wsX7_stroke wsX7_of := goodIn_r _ [31, 32, 52, 53, 54, 55, 56, 57, 58, 59, 60, 61, 62, 63, 64, 65] (by decide +kernel) (by decide +kernel)
set_option maxRecDepth 20000 in
theorem gX7_stroke_X7_of : GoodIn wsX7_stroke (wsV RX7 58 RX7 yX7_of wsX7_of) := goodIn_app (goodIn_of _ (by decide +kernel)) ggX7_stroke_X7_of
theorem dX7_stroke_0 : decode cX7_stroke 0 = .ok (.aload_n 0, 1) := by decide +kernel
theorem dX7_stroke_1 : decode cX7_stroke 1 = .ok (.iload_n 1, 1) := by decide +kernel
theorem dX7_stroke_2 : decode cX7_stroke 2 = .ok (.invokevirtual 54, 3) := by decide +kernel
theorem dX7_stroke_5 : decode cX7_stroke 5 = .ok (.ifCond .eq 27, 3) := by decide +kernel
theorem dX7_stroke_8 : decode cX7_stroke 8 = .ok (.iload_n 2, 1) := by decide +kernel
theorem dX7_stroke_9 : decode cX7_stroke 9 = .ok (.ifCond .lt 23, 3) := by decide +kernel
theorem dX7_stroke_12 : decode cX7_stroke 12 = .ok (.iload_n 3, 1) := by decide +kernel
theorem dX7_stroke_13 : decode cX7_stroke 13 = .ok (.iconst 0, 1) := by decide +kernel
theorem dX7_stroke_14 : decode cX7_stroke 14 = .ok (.iconst 4, 1) := by decide +kernel
theorem dX7_stroke_15 : decode cX7_stroke 15 = .ok (.invokestatic 50, 3) := by decide +kernel
theorem dX7_stroke_18 : decode cX7_stroke 18 = .ok (.ifCond .ne 17, 3) := by decide +kernel
theorem dX7_stroke_21 : decode cX7_stroke 21 = .ok (.iload_n 3, 1) := by decide +kernel
theorem dX7_stroke_22 : decode cX7_stroke 22 = .ok (.bipush 10, 2) := by decide +kernel
theorem dX7_stroke_24 : decode cX7_stroke 24 = .ok (.bipush 25, 2) := by decide +kernel
theorem dX7_stroke_26 : decode cX7_stroke 26 = .ok (.invokestatic 50, 3) := by decide +kernel
theorem dX7_stroke_29 : decode cX7_stroke 29 = .ok (.ifCond .ne 6, 3) := by decide +kernel
theorem dX7_stroke_32 : decode cX7_stroke 32 = .ok (.ldc 89, 2) := by decide +kernel
theorem dX7_stroke_34 : decode cX7_stroke 34 = .ok (.ireturn, 1) := by decide +kernel
theorem dX7_stroke_35 : decode cX7_stroke 35 = .ok (.aload_n 0, 1) := by decide +kernel
theorem dX7_stroke_36 : decode cX7_stroke 36 = .ok (.iload_n 1, 1) := by decide +kernel
theorem dX7_stroke_37 : decode cX7_stroke 37 = .ok (.invokevirtual 98, 3) := by decide +kernel
theorem dX7_stroke_40 : decode cX7_stroke 40 = .ok (.iload_n 2, 1) := by decide +kernel
theorem dX7_stroke_41 : decode cX7_stroke 41 = .ok (.aload_n 0, 1) := by decide +kernel
theorem dX7_stroke_42 : decode cX7_stroke 42 = .ok (.getfield 80, 3) := by decide +kernel
theorem dX7_stroke_45 : decode cX7_stroke 45 = .ok (.if_icmp .lt 6, 3) := by decide +kernel
theorem dX7_stroke_48 : decode cX7_stroke 48 = .ok (.ldc 109, 2) := by decide +kernel
theorem dX7_stroke_50 : decode cX7_stroke 50 = .ok (.ireturn, 1) := by decide +kernel
theorem dX7_stroke_51 : decode cX7_stroke 51 = .ok (.aload_n 0, 1) := by decide +kernel
theorem dX7_stroke_52 : decode cX7_stroke 52 = .ok (.getfield 35, 3) := by decide +kernel
theorem dX7_stroke_55 : decode cX7_stroke 55 = .ok (.iload_n 2, 1) := by decide +kernel
theorem dX7_stroke_56 : decode cX7_stroke 56 = .ok (.iaload, 1) := by decide +kernel
theorem dX7_stroke_57 : decode cX7_stroke 57 = .ok (.istore 4, 2) := by decide +kernel
theorem dX7_stroke_59 : decode cX7_stroke 59 = .ok (.iload_n 3, 1) := by decide +kernel
theorem dX7_stroke_60 : decode cX7_stroke 60 = .ok (.tableswitch 73 0 4 #[36, 42, 50, 57, 65], 36) := by decide +kernel
theorem dX7_stroke_96 : decode cX7_stroke 96 = .ok (.iload 4, 2) := by decide +kernel
theorem dX7_stroke_98 : decode cX7_stroke 98 = .ok (.bipush 20, 2) := by decide +kernel
theorem dX7_stroke_100 : decode cX7_stroke 100 = .ok (.idiv, 1) := by decide +kernel
theorem dX7_stroke_101 : decode cX7_stroke 101 = .ok (.ireturn, 1) := by decide +kernel
theorem dX7_stroke_102 : decode cX7_stroke 102 = .ok (.iload 4, 2) := by decide +kernel
theorem dX7_stroke_104 : decode cX7_stroke 104 = .ok (.bipush 20, 2) := by decide +kernel
theorem dX7_stroke_106 : decode cX7_stroke 106 = .ok (.irem, 1) := by decide +kernel
theorem dX7_stroke_107 : decode cX7_stroke 107 = .ok (.iconst 1, 1) := by decide +kernel
theorem dX7_stroke_108 : decode cX7_stroke 108 = .ok (.iadd, 1) := by decide +kernel
theorem dX7_stroke_109 : decode cX7_stroke 109 = .ok (.ireturn, 1) := by decide +kernel
theorem dX7_stroke_110 : decode cX7_stroke 110 = .ok (.aload_n 0, 1) := by decide +kernel
theorem dX7_stroke_111 : decode cX7_stroke 111 = .ok (.getfield 38, 3) := by decide +kernel
theorem dX7_stroke_114 : decode cX7_stroke 114 = .ok (.iload_n 2, 1) := by decide +kernel
theorem dX7_stroke_115 : decode cX7_stroke 115 = .ok (.iaload, 1) := by decide +kernel
theorem dX7_stroke_116 : decode cX7_stroke 116 = .ok (.ireturn, 1) := by decide +kernel
theorem dX7_stroke_117 : decode cX7_stroke 117 = .ok (.aload_n 0, 1) := by decide +kernel
theorem dX7_stroke_118 : decode cX7_stroke 118 = .ok (.iload 4, 2) := by decide +kernel
theorem dX7_stroke_120 : decode cX7_stroke 120 = .ok (.iconst 2, 1) := by decide +kernel
theorem dX7_stroke_121 : decode cX7_stroke 121 = .ok (.invokevirtual 58, 3) := by decide +kernel
theorem dX7_stroke_124 : decode cX7_stroke 124 = .ok (.ireturn, 1) := by decide +kernel
theorem dX7_stroke_125 : decode cX7_stroke 125 = .ok (.aload_n 0, 1) := by decide +kernel
theorem dX7_stroke_126 : decode cX7_stroke 126 = .ok (.iload 4, 2) := by decide +kernel
theorem dX7_stroke_128 : decode cX7_stroke 128 = .ok (.iconst 4, 1) := by decide +kernel
theorem dX7_stroke_129 : decode cX7_stroke 129 = .ok (.invokevirtual 58, 3) := by decide +kernel
theorem dX7_stroke_132 : decode cX7_stroke 132 = .ok (.ireturn, 1) := by decide +kernel
theorem dX7_stroke_133 : decode cX7_stroke 133 = .ok (.iload_n 3, 1) := by decide +kernel
theorem dX7_stroke_134 : decode cX7_stroke 134 = .ok (.bipush 10, 2) := by decide +kernel
theorem dX7_stroke_136 : decode cX7_stroke 136 = .ok (.isub, 1) := by decide +kernel
theorem dX7_stroke_137 : decode cX7_stroke 137 = .ok (.iconst 2, 1) := by decide +kernel
theorem dX7_stroke_138 : decode cX7_stroke 138 = .ok (.aload_n 0, 1) := by decide +kernel
theorem dX7_stroke_139 : decode cX7_stroke 139 = .ok (.iload 4, 2) := by decide +kernel
theorem dX7_stroke_141 : decode cX7_stroke 141 = .ok (.iconst 4, 1) := by decide +kernel
theorem dX7_stroke_142 : decode cX7_stroke 142 = .ok (.invokevirtual 58, 3) := by decide +kernel
theorem dX7_stroke_145 : decode cX7_stroke 145 = .ok (.imul, 1) := by decide +kernel
theorem dX7_stroke_146 : decode cX7_stroke 146 = .ok (.if_icmp .ge 18, 3) := by decide +kernel
theorem dX7_stroke_149 : decode cX7_stroke 149 = .ok (.aload_n 0, 1) := by decide +kernel
theorem dX7_stroke_150 : decode cX7_stroke 150 = .ok (.iload 4, 2) := by decide +kernel
theorem dX7_stroke_152 : decode cX7_stroke 152 = .ok (.iconst 5, 1) := by decide +kernel
theorem dX7_stroke_153 : decode cX7_stroke 153 = .ok (.iload_n 3, 1) := by decide +kernel
theorem dX7_stroke_154 : decode cX7_stroke 154 = .ok (.iadd, 1) := by decide +kernel
theorem dX7_stroke_155 : decode cX7_stroke 155 = .ok (.bipush 10, 2) := by decide +kernel
theorem dX7_stroke_157 : decode cX7_stroke 157 = .ok (.isub, 1) := by decide +kernel
theorem dX7_stroke_158 : decode cX7_stroke 158 = .ok (.invokevirtual 58, 3) := by decide +kernel
theorem dX7_stroke_161 : decode cX7_stroke 161 = .ok (.goto 5, 3) := by decide +kernel
theorem dX7_stroke_164 : decode cX7_stroke 164 = .ok (.ldc 109, 2) := by decide +kernel
theorem dX7_stroke_166 : decode cX7_stroke 166 = .ok (.ireturn, 1) := by decide +kernel
set_option maxRecDepth 20000 in
theorem ggX7_strokeAt_X7_isSite : GoodIn wsX7_strokeAt wsX7_isSite := goodIn_r _ [9, 10, 11, 12, 8, 13, 52, 53, 54, 55, 56, 57, 58, 59, 60, 61, 62, 63, 64, 65] (by decide +kernel) (by decide +kernel)
set_option maxRecDepth 20000 in
theorem gX7_strokeAt_X7_isSite : GoodIn wsX7_strokeAt (wsV RX7 54 RX7 yX7_isSite wsX7_isSite) := goodIn_app (goodIn_of _ (by decide +kernel)) ggX7_strokeAt_X7_isSite
set_option maxRecDepth 20000 in
theorem ggX7_strokeAt_X7_in : GoodIn wsX7_strokeAt wsX7_in := goodIn_r _ [13] (by decide +kernel) (by decide +kernel)
set_option maxRecDepth 20000 in
theorem gX7_strokeAt_X7_in : GoodIn wsX7_strokeAt (va_wsS RX7 50 yX7_in wsX7_in) := goodIn_app (goodIn_of _ (by decide +kernel)) ggX7_strokeAt_X7_in
set_option maxRecDepth 20000 in
theorem ggX7_strokeAt_X7_workOut : GoodIn wsX7_strokeAt wsX7_workOut := goodIn_r _ [17, 3, 18, 4, 19, 20, 21, 8, 22, 23, 24, 25, 26, 27, 28, 29, 30, 31, 32, 33, 34, 35, 36, 11, 12, 13, 37, 38, 39, 40, 41, 42, 43, 44, 45, 46, 47, 48, 49, 50, 51, 52, 53, 54, 55, 56, 57, 58, 59, 60, 61, 62, 63, 64, 65] (by decide +kernel) (by decide +kernel)
set_option maxRecDepth 20000 in
theorem gX7_strokeAt_X7_workOut : GoodIn wsX7_strokeAt (wsV RX7 98 RX7 yX7_workOut wsX7_workOut) := goodIn_app (goodIn_of _ (by decide +kernel)) ggX7_strokeAt_X7_workOut
set_option maxRecDepth 20000 in
theorem ggX7_strokeAt_X7_of : GoodIn wsX7_strokeAt wsX7_of := goodIn_r _ [31, 32, 52, 53, 54, 55, 56, 57, 58, 59, 60, 61, 62, 63, 64, 65] (by decide +kernel) (by decide +kernel)
set_option maxRecDepth 20000 in
theorem gX7_strokeAt_X7_of : GoodIn wsX7_strokeAt (wsV RX7 58 RX7 yX7_of wsX7_of) := goodIn_app (goodIn_of _ (by decide +kernel)) ggX7_strokeAt_X7_of
theorem dX7_strokeAt_0 : decode cX7_strokeAt 0 = .ok (.aload_n 0, 1) := by decide +kernel
theorem dX7_strokeAt_1 : decode cX7_strokeAt 1 = .ok (.iload_n 1, 1) := by decide +kernel
theorem dX7_strokeAt_2 : decode cX7_strokeAt 2 = .ok (.invokevirtual 54, 3) := by decide +kernel
theorem dX7_strokeAt_5 : decode cX7_strokeAt 5 = .ok (.ifCond .eq 27, 3) := by decide +kernel
theorem dX7_strokeAt_8 : decode cX7_strokeAt 8 = .ok (.iload_n 2, 1) := by decide +kernel
theorem dX7_strokeAt_9 : decode cX7_strokeAt 9 = .ok (.bipush (-100), 2) := by decide +kernel
theorem dX7_strokeAt_11 : decode cX7_strokeAt 11 = .ok (.sipush 200, 3) := by decide +kernel
theorem dX7_strokeAt_14 : decode cX7_strokeAt 14 = .ok (.invokestatic 50, 3) := by decide +kernel
theorem dX7_strokeAt_17 : decode cX7_strokeAt 17 = .ok (.ifCond .eq 15, 3) := by decide +kernel
theorem dX7_strokeAt_20 : decode cX7_strokeAt 20 = .ok (.iload_n 3, 1) := by decide +kernel
theorem dX7_strokeAt_21 : decode cX7_strokeAt 21 = .ok (.bipush (-100), 2) := by decide +kernel
theorem dX7_strokeAt_23 : decode cX7_strokeAt 23 = .ok (.sipush 200, 3) := by decide +kernel
theorem dX7_strokeAt_26 : decode cX7_strokeAt 26 = .ok (.invokestatic 50, 3) := by decide +kernel
theorem dX7_strokeAt_29 : decode cX7_strokeAt 29 = .ok (.ifCond .ne 6, 3) := by decide +kernel
theorem dX7_strokeAt_32 : decode cX7_strokeAt 32 = .ok (.ldc 89, 2) := by decide +kernel
theorem dX7_strokeAt_34 : decode cX7_strokeAt 34 = .ok (.ireturn, 1) := by decide +kernel
theorem dX7_strokeAt_35 : decode cX7_strokeAt 35 = .ok (.aload_n 0, 1) := by decide +kernel
theorem dX7_strokeAt_36 : decode cX7_strokeAt 36 = .ok (.iload_n 1, 1) := by decide +kernel
theorem dX7_strokeAt_37 : decode cX7_strokeAt 37 = .ok (.invokevirtual 98, 3) := by decide +kernel
theorem dX7_strokeAt_40 : decode cX7_strokeAt 40 = .ok (.ldc 109, 2) := by decide +kernel
theorem dX7_strokeAt_42 : decode cX7_strokeAt 42 = .ok (.istore 4, 2) := by decide +kernel
theorem dX7_strokeAt_44 : decode cX7_strokeAt 44 = .ok (.iconst 0, 1) := by decide +kernel
theorem dX7_strokeAt_45 : decode cX7_strokeAt 45 = .ok (.istore 5, 2) := by decide +kernel
theorem dX7_strokeAt_47 : decode cX7_strokeAt 47 = .ok (.iload 5, 2) := by decide +kernel
theorem dX7_strokeAt_49 : decode cX7_strokeAt 49 = .ok (.aload_n 0, 1) := by decide +kernel
theorem dX7_strokeAt_50 : decode cX7_strokeAt 50 = .ok (.getfield 80, 3) := by decide +kernel
theorem dX7_strokeAt_53 : decode cX7_strokeAt 53 = .ok (.if_icmp .ge 88, 3) := by decide +kernel
theorem dX7_strokeAt_56 : decode cX7_strokeAt 56 = .ok (.iconst 0, 1) := by decide +kernel
theorem dX7_strokeAt_57 : decode cX7_strokeAt 57 = .ok (.istore 6, 2) := by decide +kernel
theorem dX7_strokeAt_59 : decode cX7_strokeAt 59 = .ok (.iload 6, 2) := by decide +kernel
theorem dX7_strokeAt_61 : decode cX7_strokeAt 61 = .ok (.aload_n 0, 1) := by decide +kernel
theorem dX7_strokeAt_62 : decode cX7_strokeAt 62 = .ok (.aload_n 0, 1) := by decide +kernel
theorem dX7_strokeAt_63 : decode cX7_strokeAt 63 = .ok (.getfield 35, 3) := by decide +kernel
theorem dX7_strokeAt_66 : decode cX7_strokeAt 66 = .ok (.iload 5, 2) := by decide +kernel
theorem dX7_strokeAt_68 : decode cX7_strokeAt 68 = .ok (.iaload, 1) := by decide +kernel
theorem dX7_strokeAt_69 : decode cX7_strokeAt 69 = .ok (.iconst 4, 1) := by decide +kernel
theorem dX7_strokeAt_70 : decode cX7_strokeAt 70 = .ok (.invokevirtual 58, 3) := by decide +kernel
theorem dX7_strokeAt_73 : decode cX7_strokeAt 73 = .ok (.if_icmp .ge 62, 3) := by decide +kernel
theorem dX7_strokeAt_76 : decode cX7_strokeAt 76 = .ok (.aload_n 0, 1) := by decide +kernel
theorem dX7_strokeAt_77 : decode cX7_strokeAt 77 = .ok (.aload_n 0, 1) := by decide +kernel
theorem dX7_strokeAt_78 : decode cX7_strokeAt 78 = .ok (.getfield 35, 3) := by decide +kernel
theorem dX7_strokeAt_81 : decode cX7_strokeAt 81 = .ok (.iload 5, 2) := by decide +kernel
theorem dX7_strokeAt_83 : decode cX7_strokeAt 83 = .ok (.iaload, 1) := by decide +kernel
theorem dX7_strokeAt_84 : decode cX7_strokeAt 84 = .ok (.iconst 5, 1) := by decide +kernel
theorem dX7_strokeAt_85 : decode cX7_strokeAt 85 = .ok (.iconst 2, 1) := by decide +kernel
theorem dX7_strokeAt_86 : decode cX7_strokeAt 86 = .ok (.iload 6, 2) := by decide +kernel
theorem dX7_strokeAt_88 : decode cX7_strokeAt 88 = .ok (.imul, 1) := by decide +kernel
theorem dX7_strokeAt_89 : decode cX7_strokeAt 89 = .ok (.iadd, 1) := by decide +kernel
theorem dX7_strokeAt_90 : decode cX7_strokeAt 90 = .ok (.invokevirtual 58, 3) := by decide +kernel
theorem dX7_strokeAt_93 : decode cX7_strokeAt 93 = .ok (.iload_n 2, 1) := by decide +kernel
theorem dX7_strokeAt_94 : decode cX7_strokeAt 94 = .ok (.if_icmp .ne 31, 3) := by decide +kernel
theorem dX7_strokeAt_97 : decode cX7_strokeAt 97 = .ok (.aload_n 0, 1) := by decide +kernel
theorem dX7_strokeAt_98 : decode cX7_strokeAt 98 = .ok (.aload_n 0, 1) := by decide +kernel
theorem dX7_strokeAt_99 : decode cX7_strokeAt 99 = .ok (.getfield 35, 3) := by decide +kernel
theorem dX7_strokeAt_102 : decode cX7_strokeAt 102 = .ok (.iload 5, 2) := by decide +kernel
theorem dX7_strokeAt_104 : decode cX7_strokeAt 104 = .ok (.iaload, 1) := by decide +kernel
theorem dX7_strokeAt_105 : decode cX7_strokeAt 105 = .ok (.iconst 5, 1) := by decide +kernel
theorem dX7_strokeAt_106 : decode cX7_strokeAt 106 = .ok (.iconst 2, 1) := by decide +kernel
theorem dX7_strokeAt_107 : decode cX7_strokeAt 107 = .ok (.iload 6, 2) := by decide +kernel
theorem dX7_strokeAt_109 : decode cX7_strokeAt 109 = .ok (.imul, 1) := by decide +kernel
theorem dX7_strokeAt_110 : decode cX7_strokeAt 110 = .ok (.iadd, 1) := by decide +kernel
theorem dX7_strokeAt_111 : decode cX7_strokeAt 111 = .ok (.iconst 1, 1) := by decide +kernel
theorem dX7_strokeAt_112 : decode cX7_strokeAt 112 = .ok (.iadd, 1) := by decide +kernel
theorem dX7_strokeAt_113 : decode cX7_strokeAt 113 = .ok (.invokevirtual 58, 3) := by decide +kernel
theorem dX7_strokeAt_116 : decode cX7_strokeAt 116 = .ok (.iload_n 3, 1) := by decide +kernel
theorem dX7_strokeAt_117 : decode cX7_strokeAt 117 = .ok (.if_icmp .ne 8, 3) := by decide +kernel
theorem dX7_strokeAt_120 : decode cX7_strokeAt 120 = .ok (.iload 5, 2) := by decide +kernel
theorem dX7_strokeAt_122 : decode cX7_strokeAt 122 = .ok (.goto 5, 3) := by decide +kernel
theorem dX7_strokeAt_125 : decode cX7_strokeAt 125 = .ok (.iload 4, 2) := by decide +kernel
theorem dX7_strokeAt_127 : decode cX7_strokeAt 127 = .ok (.istore 4, 2) := by decide +kernel
theorem dX7_strokeAt_129 : decode cX7_strokeAt 129 = .ok (.iinc 6 1, 3) := by decide +kernel
theorem dX7_strokeAt_132 : decode cX7_strokeAt 132 = .ok (.goto (-73), 3) := by decide +kernel
theorem dX7_strokeAt_135 : decode cX7_strokeAt 135 = .ok (.iinc 5 1, 3) := by decide +kernel
theorem dX7_strokeAt_138 : decode cX7_strokeAt 138 = .ok (.goto (-91), 3) := by decide +kernel
theorem dX7_strokeAt_141 : decode cX7_strokeAt 141 = .ok (.iload 4, 2) := by decide +kernel
theorem dX7_strokeAt_143 : decode cX7_strokeAt 143 = .ok (.ireturn, 1) := by decide +kernel
set_option maxRecDepth 20000 in
theorem ggX7_digest_X7_isSite : GoodIn wsX7_digest wsX7_isSite := goodIn_r _ [8, 9, 10, 11, 7, 12, 50, 51, 52, 53, 54, 55, 56, 57, 58, 59, 60, 61, 62, 63] (by decide +kernel) (by decide +kernel)
set_option maxRecDepth 20000 in
theorem gX7_digest_X7_isSite : GoodIn wsX7_digest (wsV RX7 54 RX7 yX7_isSite wsX7_isSite) := goodIn_app (goodIn_of _ (by decide +kernel)) ggX7_digest_X7_isSite
set_option maxRecDepth 20000 in
theorem ggX7_digest_X7_workOut : GoodIn wsX7_digest wsX7_workOut := goodIn_r _ [16, 1, 3, 2, 17, 18, 19, 7, 20, 21, 22, 23, 24, 25, 26, 27, 28, 29, 30, 31, 32, 33, 34, 10, 11, 12, 35, 36, 37, 38, 39, 40, 41, 42, 43, 44, 45, 46, 47, 48, 49, 50, 51, 52, 53, 54, 55, 56, 57, 58, 59, 60, 61, 62, 63] (by decide +kernel) (by decide +kernel)
set_option maxRecDepth 20000 in
theorem gX7_digest_X7_workOut : GoodIn wsX7_digest (wsV RX7 98 RX7 yX7_workOut wsX7_workOut) := goodIn_app (goodIn_of _ (by decide +kernel)) ggX7_digest_X7_workOut
set_option maxRecDepth 20000 in
theorem ggX7_digest_X7_of : GoodIn wsX7_digest wsX7_of := goodIn_r _ [29, 30, 50, 51, 52, 53, 54, 55, 56, 57, 58, 59, 60, 61, 62, 63] (by decide +kernel) (by decide +kernel)
set_option maxRecDepth 20000 in
theorem gX7_digest_X7_of : GoodIn wsX7_digest (wsV RX7 58 RX7 yX7_of wsX7_of) := goodIn_app (goodIn_of _ (by decide +kernel)) ggX7_digest_X7_of
theorem dX7_digest_0 : decode cX7_digest 0 = .ok (.aload_n 0, 1) := by decide +kernel
theorem dX7_digest_1 : decode cX7_digest 1 = .ok (.iload_n 1, 1) := by decide +kernel
theorem dX7_digest_2 : decode cX7_digest 2 = .ok (.invokevirtual 54, 3) := by decide +kernel
theorem dX7_digest_5 : decode cX7_digest 5 = .ok (.ifCond .ne 5, 3) := by decide +kernel
theorem dX7_digest_8 : decode cX7_digest 8 = .ok (.iconst 0, 1) := by decide +kernel
theorem dX7_digest_9 : decode cX7_digest 9 = .ok (.ireturn, 1) := by decide +kernel
theorem dX7_digest_10 : decode cX7_digest 10 = .ok (.aload_n 0, 1) := by decide +kernel
theorem dX7_digest_11 : decode cX7_digest 11 = .ok (.iload_n 1, 1) := by decide +kernel
theorem dX7_digest_12 : decode cX7_digest 12 = .ok (.invokevirtual 98, 3) := by decide +kernel
theorem dX7_digest_15 : decode cX7_digest 15 = .ok (.bipush 17, 2) := by decide +kernel
theorem dX7_digest_17 : decode cX7_digest 17 = .ok (.istore_n 2, 1) := by decide +kernel
theorem dX7_digest_18 : decode cX7_digest 18 = .ok (.iconst 0, 1) := by decide +kernel
theorem dX7_digest_19 : decode cX7_digest 19 = .ok (.istore_n 3, 1) := by decide +kernel
theorem dX7_digest_20 : decode cX7_digest 20 = .ok (.iload_n 3, 1) := by decide +kernel
theorem dX7_digest_21 : decode cX7_digest 21 = .ok (.aload_n 0, 1) := by decide +kernel
theorem dX7_digest_22 : decode cX7_digest 22 = .ok (.getfield 80, 3) := by decide +kernel
theorem dX7_digest_25 : decode cX7_digest 25 = .ok (.if_icmp .ge 105, 3) := by decide +kernel
theorem dX7_digest_28 : decode cX7_digest 28 = .ok (.aload_n 0, 1) := by decide +kernel
theorem dX7_digest_29 : decode cX7_digest 29 = .ok (.getfield 35, 3) := by decide +kernel
theorem dX7_digest_32 : decode cX7_digest 32 = .ok (.iload_n 3, 1) := by decide +kernel
theorem dX7_digest_33 : decode cX7_digest 33 = .ok (.iaload, 1) := by decide +kernel
theorem dX7_digest_34 : decode cX7_digest 34 = .ok (.istore 4, 2) := by decide +kernel
theorem dX7_digest_36 : decode cX7_digest 36 = .ok (.bipush 31, 2) := by decide +kernel
theorem dX7_digest_38 : decode cX7_digest 38 = .ok (.iload_n 2, 1) := by decide +kernel
theorem dX7_digest_39 : decode cX7_digest 39 = .ok (.imul, 1) := by decide +kernel
theorem dX7_digest_40 : decode cX7_digest 40 = .ok (.iload 4, 2) := by decide +kernel
theorem dX7_digest_42 : decode cX7_digest 42 = .ok (.bipush 20, 2) := by decide +kernel
theorem dX7_digest_44 : decode cX7_digest 44 = .ok (.idiv, 1) := by decide +kernel
theorem dX7_digest_45 : decode cX7_digest 45 = .ok (.iadd, 1) := by decide +kernel
theorem dX7_digest_46 : decode cX7_digest 46 = .ok (.istore_n 2, 1) := by decide +kernel
theorem dX7_digest_47 : decode cX7_digest 47 = .ok (.bipush 31, 2) := by decide +kernel
theorem dX7_digest_49 : decode cX7_digest 49 = .ok (.iload_n 2, 1) := by decide +kernel
theorem dX7_digest_50 : decode cX7_digest 50 = .ok (.imul, 1) := by decide +kernel
theorem dX7_digest_51 : decode cX7_digest 51 = .ok (.iload 4, 2) := by decide +kernel
theorem dX7_digest_53 : decode cX7_digest 53 = .ok (.bipush 20, 2) := by decide +kernel
theorem dX7_digest_55 : decode cX7_digest 55 = .ok (.irem, 1) := by decide +kernel
theorem dX7_digest_56 : decode cX7_digest 56 = .ok (.iadd, 1) := by decide +kernel
theorem dX7_digest_57 : decode cX7_digest 57 = .ok (.iconst 1, 1) := by decide +kernel
theorem dX7_digest_58 : decode cX7_digest 58 = .ok (.iadd, 1) := by decide +kernel
theorem dX7_digest_59 : decode cX7_digest 59 = .ok (.istore_n 2, 1) := by decide +kernel
theorem dX7_digest_60 : decode cX7_digest 60 = .ok (.bipush 31, 2) := by decide +kernel
theorem dX7_digest_62 : decode cX7_digest 62 = .ok (.iload_n 2, 1) := by decide +kernel
theorem dX7_digest_63 : decode cX7_digest 63 = .ok (.imul, 1) := by decide +kernel
theorem dX7_digest_64 : decode cX7_digest 64 = .ok (.aload_n 0, 1) := by decide +kernel
theorem dX7_digest_65 : decode cX7_digest 65 = .ok (.getfield 38, 3) := by decide +kernel
theorem dX7_digest_68 : decode cX7_digest 68 = .ok (.iload_n 3, 1) := by decide +kernel
theorem dX7_digest_69 : decode cX7_digest 69 = .ok (.iaload, 1) := by decide +kernel
theorem dX7_digest_70 : decode cX7_digest 70 = .ok (.iadd, 1) := by decide +kernel
theorem dX7_digest_71 : decode cX7_digest 71 = .ok (.istore_n 2, 1) := by decide +kernel
theorem dX7_digest_72 : decode cX7_digest 72 = .ok (.bipush 31, 2) := by decide +kernel
theorem dX7_digest_74 : decode cX7_digest 74 = .ok (.iload_n 2, 1) := by decide +kernel
theorem dX7_digest_75 : decode cX7_digest 75 = .ok (.imul, 1) := by decide +kernel
theorem dX7_digest_76 : decode cX7_digest 76 = .ok (.aload_n 0, 1) := by decide +kernel
theorem dX7_digest_77 : decode cX7_digest 77 = .ok (.iload 4, 2) := by decide +kernel
theorem dX7_digest_79 : decode cX7_digest 79 = .ok (.iconst 2, 1) := by decide +kernel
theorem dX7_digest_80 : decode cX7_digest 80 = .ok (.invokevirtual 58, 3) := by decide +kernel
theorem dX7_digest_83 : decode cX7_digest 83 = .ok (.iadd, 1) := by decide +kernel
theorem dX7_digest_84 : decode cX7_digest 84 = .ok (.istore_n 2, 1) := by decide +kernel
theorem dX7_digest_85 : decode cX7_digest 85 = .ok (.iconst 0, 1) := by decide +kernel
theorem dX7_digest_86 : decode cX7_digest 86 = .ok (.istore 5, 2) := by decide +kernel
theorem dX7_digest_88 : decode cX7_digest 88 = .ok (.iload 5, 2) := by decide +kernel
theorem dX7_digest_90 : decode cX7_digest 90 = .ok (.iconst 2, 1) := by decide +kernel
theorem dX7_digest_91 : decode cX7_digest 91 = .ok (.aload_n 0, 1) := by decide +kernel
theorem dX7_digest_92 : decode cX7_digest 92 = .ok (.iload 4, 2) := by decide +kernel
theorem dX7_digest_94 : decode cX7_digest 94 = .ok (.iconst 4, 1) := by decide +kernel
theorem dX7_digest_95 : decode cX7_digest 95 = .ok (.invokevirtual 58, 3) := by decide +kernel
theorem dX7_digest_98 : decode cX7_digest 98 = .ok (.imul, 1) := by decide +kernel
theorem dX7_digest_99 : decode cX7_digest 99 = .ok (.if_icmp .ge 25, 3) := by decide +kernel
theorem dX7_digest_102 : decode cX7_digest 102 = .ok (.bipush 31, 2) := by decide +kernel
theorem dX7_digest_104 : decode cX7_digest 104 = .ok (.iload_n 2, 1) := by decide +kernel
theorem dX7_digest_105 : decode cX7_digest 105 = .ok (.imul, 1) := by decide +kernel
theorem dX7_digest_106 : decode cX7_digest 106 = .ok (.aload_n 0, 1) := by decide +kernel
theorem dX7_digest_107 : decode cX7_digest 107 = .ok (.iload 4, 2) := by decide +kernel
theorem dX7_digest_109 : decode cX7_digest 109 = .ok (.iconst 5, 1) := by decide +kernel
theorem dX7_digest_110 : decode cX7_digest 110 = .ok (.iload 5, 2) := by decide +kernel
theorem dX7_digest_112 : decode cX7_digest 112 = .ok (.iadd, 1) := by decide +kernel
theorem dX7_digest_113 : decode cX7_digest 113 = .ok (.invokevirtual 58, 3) := by decide +kernel
theorem dX7_digest_116 : decode cX7_digest 116 = .ok (.iadd, 1) := by decide +kernel
theorem dX7_digest_117 : decode cX7_digest 117 = .ok (.istore_n 2, 1) := by decide +kernel
theorem dX7_digest_118 : decode cX7_digest 118 = .ok (.iinc 5 1, 3) := by decide +kernel
theorem dX7_digest_121 : decode cX7_digest 121 = .ok (.goto (-33), 3) := by decide +kernel
theorem dX7_digest_124 : decode cX7_digest 124 = .ok (.iinc 3 1, 3) := by decide +kernel
theorem dX7_digest_127 : decode cX7_digest 127 = .ok (.goto (-107), 3) := by decide +kernel
theorem dX7_digest_130 : decode cX7_digest 130 = .ok (.iload_n 2, 1) := by decide +kernel
theorem dX7_digest_131 : decode cX7_digest 131 = .ok (.ireturn, 1) := by decide +kernel
set_option maxRecDepth 20000 in
theorem ggX7_doShowSame_X7_workOut : GoodIn wsX7_doShowSame wsX7_workOut := goodIn_r _ [10, 1, 5, 3, 11, 12, 13, 9, 14, 15, 16, 17, 18, 19, 20, 21, 22, 23, 24, 25, 26, 27, 28, 29, 30, 31, 32, 33, 34, 35, 36, 37, 38, 39, 40, 41, 42, 43, 44, 45, 46, 47, 48, 49, 50, 51, 52, 53, 54, 55, 56, 57, 58, 59, 60] (by decide +kernel) (by decide +kernel)
set_option maxRecDepth 20000 in
theorem gX7_doShowSame_X7_workOut : GoodIn wsX7_doShowSame (wsV RX7 98 RX7 yX7_workOut wsX7_workOut) := goodIn_app (goodIn_of _ (by decide +kernel)) ggX7_doShowSame_X7_workOut
theorem dX7_doShowSame_0 : decode cX7_doShowSame 0 = .ok (.aload_n 0, 1) := by decide +kernel
theorem dX7_doShowSame_1 : decode cX7_doShowSame 1 = .ok (.iload_n 1, 1) := by decide +kernel
theorem dX7_doShowSame_2 : decode cX7_doShowSame 2 = .ok (.invokevirtual 98, 3) := by decide +kernel
theorem dX7_doShowSame_5 : decode cX7_doShowSame 5 = .ok (.aload_n 0, 1) := by decide +kernel
theorem dX7_doShowSame_6 : decode cX7_doShowSame 6 = .ok (.getfield 80, 3) := by decide +kernel
theorem dX7_doShowSame_9 : decode cX7_doShowSame 9 = .ok (.istore_n 3, 1) := by decide +kernel
theorem dX7_doShowSame_10 : decode cX7_doShowSame 10 = .ok (.iconst 0, 1) := by decide +kernel
theorem dX7_doShowSame_11 : decode cX7_doShowSame 11 = .ok (.istore 4, 2) := by decide +kernel
theorem dX7_doShowSame_13 : decode cX7_doShowSame 13 = .ok (.iload 4, 2) := by decide +kernel
theorem dX7_doShowSame_15 : decode cX7_doShowSame 15 = .ok (.iload_n 3, 1) := by decide +kernel
theorem dX7_doShowSame_16 : decode cX7_doShowSame 16 = .ok (.if_icmp .ge 37, 3) := by decide +kernel
theorem dX7_doShowSame_19 : decode cX7_doShowSame 19 = .ok (.aload_n 0, 1) := by decide +kernel
theorem dX7_doShowSame_20 : decode cX7_doShowSame 20 = .ok (.getfield 41, 3) := by decide +kernel
theorem dX7_doShowSame_23 : decode cX7_doShowSame 23 = .ok (.iload 4, 2) := by decide +kernel
theorem dX7_doShowSame_25 : decode cX7_doShowSame 25 = .ok (.aload_n 0, 1) := by decide +kernel
theorem dX7_doShowSame_26 : decode cX7_doShowSame 26 = .ok (.getfield 35, 3) := by decide +kernel
theorem dX7_doShowSame_29 : decode cX7_doShowSame 29 = .ok (.iload 4, 2) := by decide +kernel
theorem dX7_doShowSame_31 : decode cX7_doShowSame 31 = .ok (.iaload, 1) := by decide +kernel
theorem dX7_doShowSame_32 : decode cX7_doShowSame 32 = .ok (.iastore, 1) := by decide +kernel
theorem dX7_doShowSame_33 : decode cX7_doShowSame 33 = .ok (.aload_n 0, 1) := by decide +kernel
theorem dX7_doShowSame_34 : decode cX7_doShowSame 34 = .ok (.getfield 44, 3) := by decide +kernel
theorem dX7_doShowSame_37 : decode cX7_doShowSame 37 = .ok (.iload 4, 2) := by decide +kernel
theorem dX7_doShowSame_39 : decode cX7_doShowSame 39 = .ok (.aload_n 0, 1) := by decide +kernel
theorem dX7_doShowSame_40 : decode cX7_doShowSame 40 = .ok (.getfield 38, 3) := by decide +kernel
theorem dX7_doShowSame_43 : decode cX7_doShowSame 43 = .ok (.iload 4, 2) := by decide +kernel
theorem dX7_doShowSame_45 : decode cX7_doShowSame 45 = .ok (.iaload, 1) := by decide +kernel
theorem dX7_doShowSame_46 : decode cX7_doShowSame 46 = .ok (.iastore, 1) := by decide +kernel
theorem dX7_doShowSame_47 : decode cX7_doShowSame 47 = .ok (.iinc 4 1, 3) := by decide +kernel
theorem dX7_doShowSame_50 : decode cX7_doShowSame 50 = .ok (.goto (-37), 3) := by decide +kernel
theorem dX7_doShowSame_53 : decode cX7_doShowSame 53 = .ok (.aload_n 0, 1) := by decide +kernel
theorem dX7_doShowSame_54 : decode cX7_doShowSame 54 = .ok (.iload_n 2, 1) := by decide +kernel
theorem dX7_doShowSame_55 : decode cX7_doShowSame 55 = .ok (.invokevirtual 98, 3) := by decide +kernel
theorem dX7_doShowSame_58 : decode cX7_doShowSame 58 = .ok (.iload_n 3, 1) := by decide +kernel
theorem dX7_doShowSame_59 : decode cX7_doShowSame 59 = .ok (.aload_n 0, 1) := by decide +kernel
theorem dX7_doShowSame_60 : decode cX7_doShowSame 60 = .ok (.getfield 80, 3) := by decide +kernel
theorem dX7_doShowSame_63 : decode cX7_doShowSame 63 = .ok (.if_icmp .ne 7, 3) := by decide +kernel
theorem dX7_doShowSame_66 : decode cX7_doShowSame 66 = .ok (.iconst 1, 1) := by decide +kernel
theorem dX7_doShowSame_67 : decode cX7_doShowSame 67 = .ok (.goto 4, 3) := by decide +kernel
theorem dX7_doShowSame_70 : decode cX7_doShowSame 70 = .ok (.iconst 0, 1) := by decide +kernel
theorem dX7_doShowSame_71 : decode cX7_doShowSame 71 = .ok (.istore 4, 2) := by decide +kernel
theorem dX7_doShowSame_73 : decode cX7_doShowSame 73 = .ok (.iconst 0, 1) := by decide +kernel
theorem dX7_doShowSame_74 : decode cX7_doShowSame 74 = .ok (.istore 5, 2) := by decide +kernel
theorem dX7_doShowSame_76 : decode cX7_doShowSame 76 = .ok (.iload 5, 2) := by decide +kernel
theorem dX7_doShowSame_78 : decode cX7_doShowSame 78 = .ok (.iload_n 3, 1) := by decide +kernel
theorem dX7_doShowSame_79 : decode cX7_doShowSame 79 = .ok (.if_icmp .ge 55, 3) := by decide +kernel
theorem dX7_doShowSame_82 : decode cX7_doShowSame 82 = .ok (.iload 4, 2) := by decide +kernel
theorem dX7_doShowSame_84 : decode cX7_doShowSame 84 = .ok (.ifCond .eq 50, 3) := by decide +kernel
theorem dX7_doShowSame_87 : decode cX7_doShowSame 87 = .ok (.aload_n 0, 1) := by decide +kernel
theorem dX7_doShowSame_88 : decode cX7_doShowSame 88 = .ok (.getfield 35, 3) := by decide +kernel
theorem dX7_doShowSame_91 : decode cX7_doShowSame 91 = .ok (.iload 5, 2) := by decide +kernel
theorem dX7_doShowSame_93 : decode cX7_doShowSame 93 = .ok (.iaload, 1) := by decide +kernel
theorem dX7_doShowSame_94 : decode cX7_doShowSame 94 = .ok (.aload_n 0, 1) := by decide +kernel
theorem dX7_doShowSame_95 : decode cX7_doShowSame 95 = .ok (.getfield 41, 3) := by decide +kernel
theorem dX7_doShowSame_98 : decode cX7_doShowSame 98 = .ok (.iload 5, 2) := by decide +kernel
theorem dX7_doShowSame_100 : decode cX7_doShowSame 100 = .ok (.iaload, 1) := by decide +kernel
theorem dX7_doShowSame_101 : decode cX7_doShowSame 101 = .ok (.if_icmp .ne 24, 3) := by decide +kernel
theorem dX7_doShowSame_104 : decode cX7_doShowSame 104 = .ok (.aload_n 0, 1) := by decide +kernel
theorem dX7_doShowSame_105 : decode cX7_doShowSame 105 = .ok (.getfield 38, 3) := by decide +kernel
theorem dX7_doShowSame_108 : decode cX7_doShowSame 108 = .ok (.iload 5, 2) := by decide +kernel
theorem dX7_doShowSame_110 : decode cX7_doShowSame 110 = .ok (.iaload, 1) := by decide +kernel
theorem dX7_doShowSame_111 : decode cX7_doShowSame 111 = .ok (.aload_n 0, 1) := by decide +kernel
theorem dX7_doShowSame_112 : decode cX7_doShowSame 112 = .ok (.getfield 44, 3) := by decide +kernel
theorem dX7_doShowSame_115 : decode cX7_doShowSame 115 = .ok (.iload 5, 2) := by decide +kernel
theorem dX7_doShowSame_117 : decode cX7_doShowSame 117 = .ok (.iaload, 1) := by decide +kernel
theorem dX7_doShowSame_118 : decode cX7_doShowSame 118 = .ok (.if_icmp .ne 7, 3) := by decide +kernel
theorem dX7_doShowSame_121 : decode cX7_doShowSame 121 = .ok (.iconst 1, 1) := by decide +kernel
theorem dX7_doShowSame_122 : decode cX7_doShowSame 122 = .ok (.goto 4, 3) := by decide +kernel
theorem dX7_doShowSame_125 : decode cX7_doShowSame 125 = .ok (.iconst 0, 1) := by decide +kernel
theorem dX7_doShowSame_126 : decode cX7_doShowSame 126 = .ok (.istore 4, 2) := by decide +kernel
theorem dX7_doShowSame_128 : decode cX7_doShowSame 128 = .ok (.iinc 5 1, 3) := by decide +kernel
theorem dX7_doShowSame_131 : decode cX7_doShowSame 131 = .ok (.goto (-55), 3) := by decide +kernel
theorem dX7_doShowSame_134 : decode cX7_doShowSame 134 = .ok (.iload 4, 2) := by decide +kernel
theorem dX7_doShowSame_136 : decode cX7_doShowSame 136 = .ok (.ireturn, 1) := by decide +kernel
set_option maxRecDepth 20000 in
theorem ggX7_areSame_X7_isSite : GoodIn wsX7_areSame wsX7_isSite := goodIn_r _ [6, 7, 8, 9, 5, 10, 57, 58, 59, 60, 61, 62, 63, 64, 65, 66, 67, 68, 69, 70] (by decide +kernel) (by decide +kernel)
set_option maxRecDepth 20000 in
theorem gX7_areSame_X7_isSite : GoodIn wsX7_areSame (wsV RX7 54 RX7 yX7_isSite wsX7_isSite) := goodIn_app (goodIn_of _ (by decide +kernel)) ggX7_areSame_X7_isSite
set_option maxRecDepth 20000 in
theorem ggX7_areSame_X7_doShowSame : GoodIn wsX7_areSame wsX7_doShowSame := goodIn_r _ [14, 15, 16, 17, 18, 19, 20, 21, 22, 5, 23, 24, 25, 26, 27, 28, 29, 30, 31, 32, 33, 34, 35, 36, 37, 38, 39, 40, 41, 8, 9, 10, 42, 43, 44, 45, 46, 47, 48, 49, 50, 51, 52, 53, 54, 55, 56, 57, 58, 59, 60, 61, 62, 63, 64, 65, 66, 67, 68, 69, 70] (by decide +kernel) (by decide +kernel)
set_option maxRecDepth 20000 in
theorem gX7_areSame_X7_doShowSame : GoodIn wsX7_areSame (wsV RX7 126 RX7 yX7_doShowSame wsX7_doShowSame) := goodIn_app (goodIn_of _ (by decide +kernel)) ggX7_areSame_X7_doShowSame
theorem dX7_areSame_0 : decode cX7_areSame 0 = .ok (.aload_n 0, 1) := by decide +kernel
theorem dX7_areSame_1 : decode cX7_areSame 1 = .ok (.iload_n 1, 1) := by decide +kernel
theorem dX7_areSame_2 : decode cX7_areSame 2 = .ok (.invokevirtual 54, 3) := by decide +kernel
theorem dX7_areSame_5 : decode cX7_areSame 5 = .ok (.ifCond .eq 11, 3) := by decide +kernel
theorem dX7_areSame_8 : decode cX7_areSame 8 = .ok (.aload_n 0, 1) := by decide +kernel
theorem dX7_areSame_9 : decode cX7_areSame 9 = .ok (.iload_n 2, 1) := by decide +kernel
theorem dX7_areSame_10 : decode cX7_areSame 10 = .ok (.invokevirtual 54, 3) := by decide +kernel
theorem dX7_areSame_13 : decode cX7_areSame 13 = .ok (.ifCond .ne 6, 3) := by decide +kernel
theorem dX7_areSame_16 : decode cX7_areSame 16 = .ok (.ldc 89, 2) := by decide +kernel
theorem dX7_areSame_18 : decode cX7_areSame 18 = .ok (.ireturn, 1) := by decide +kernel
theorem dX7_areSame_19 : decode cX7_areSame 19 = .ok (.aload_n 0, 1) := by decide +kernel
theorem dX7_areSame_20 : decode cX7_areSame 20 = .ok (.iload_n 1, 1) := by decide +kernel
theorem dX7_areSame_21 : decode cX7_areSame 21 = .ok (.iload_n 2, 1) := by decide +kernel
theorem dX7_areSame_22 : decode cX7_areSame 22 = .ok (.invokevirtual 126, 3) := by decide +kernel
theorem dX7_areSame_25 : decode cX7_areSame 25 = .ok (.ifCond .eq 7, 3) := by decide +kernel
theorem dX7_areSame_28 : decode cX7_areSame 28 = .ok (.iconst 1, 1) := by decide +kernel
theorem dX7_areSame_29 : decode cX7_areSame 29 = .ok (.goto 4, 3) := by decide +kernel
theorem dX7_areSame_32 : decode cX7_areSame 32 = .ok (.iconst 0, 1) := by decide +kernel
theorem dX7_areSame_33 : decode cX7_areSame 33 = .ok (.ireturn, 1) := by decide +kernel
set_option maxRecDepth 20000 in
theorem ggX7_differing_X7_place : GoodIn wsX7_differing wsX7_place := goodIn_r _ [9] (by decide +kernel) (by decide +kernel)
set_option maxRecDepth 20000 in
theorem gX7_differing_X7_place : GoodIn wsX7_differing (va_wsS RX7 62 yX7_place wsX7_place) := goodIn_app (goodIn_of _ (by decide +kernel)) ggX7_differing_X7_place
set_option maxRecDepth 20000 in
theorem ggX7_differing_X7_doShowSame : GoodIn wsX7_differing wsX7_doShowSame := goodIn_r _ [13, 14, 15, 16, 17, 18, 19, 20, 21, 8, 22, 23, 24, 25, 26, 27, 28, 29, 30, 2, 31, 32, 33, 34, 35, 36, 37, 38, 39, 40, 41, 42, 43, 44, 45, 46, 6, 7, 9, 47, 48, 49, 50, 51, 52, 53, 54, 55, 56, 57, 58, 59, 60, 61, 62, 63, 64, 65, 66, 67, 68] (by decide +kernel) (by decide +kernel)
set_option maxRecDepth 20000 in
theorem gX7_differing_X7_doShowSame : GoodIn wsX7_differing (wsV RX7 126 RX7 yX7_doShowSame wsX7_doShowSame) := goodIn_app (goodIn_of _ (by decide +kernel)) ggX7_differing_X7_doShowSame
theorem dX7_differing_0 : decode cX7_differing 0 = .ok (.iconst 0, 1) := by decide +kernel
theorem dX7_differing_1 : decode cX7_differing 1 = .ok (.istore_n 1, 1) := by decide +kernel
theorem dX7_differing_2 : decode cX7_differing 2 = .ok (.iload_n 1, 1) := by decide +kernel
theorem dX7_differing_3 : decode cX7_differing 3 = .ok (.sipush 500, 3) := by decide +kernel
theorem dX7_differing_6 : decode cX7_differing 6 = .ok (.if_icmp .ge 21, 3) := by decide +kernel
theorem dX7_differing_9 : decode cX7_differing 9 = .ok (.aload_n 0, 1) := by decide +kernel
theorem dX7_differing_10 : decode cX7_differing 10 = .ok (.getfield 47, 3) := by decide +kernel
theorem dX7_differing_13 : decode cX7_differing 13 = .ok (.iload_n 1, 1) := by decide +kernel
theorem dX7_differing_14 : decode cX7_differing 14 = .ok (.aload_n 0, 1) := by decide +kernel
theorem dX7_differing_15 : decode cX7_differing 15 = .ok (.getfield 23, 3) := by decide +kernel
theorem dX7_differing_18 : decode cX7_differing 18 = .ok (.iload_n 1, 1) := by decide +kernel
theorem dX7_differing_19 : decode cX7_differing 19 = .ok (.iaload, 1) := by decide +kernel
theorem dX7_differing_20 : decode cX7_differing 20 = .ok (.iastore, 1) := by decide +kernel
theorem dX7_differing_21 : decode cX7_differing 21 = .ok (.iinc 1 1, 3) := by decide +kernel
theorem dX7_differing_24 : decode cX7_differing 24 = .ok (.goto (-22), 3) := by decide +kernel
theorem dX7_differing_27 : decode cX7_differing 27 = .ok (.iconst 0, 1) := by decide +kernel
theorem dX7_differing_28 : decode cX7_differing 28 = .ok (.istore_n 1, 1) := by decide +kernel
theorem dX7_differing_29 : decode cX7_differing 29 = .ok (.iload_n 1, 1) := by decide +kernel
theorem dX7_differing_30 : decode cX7_differing 30 = .ok (.bipush 25, 2) := by decide +kernel
theorem dX7_differing_32 : decode cX7_differing 32 = .ok (.if_icmp .ge 57, 3) := by decide +kernel
theorem dX7_differing_35 : decode cX7_differing 35 = .ok (.iconst 0, 1) := by decide +kernel
theorem dX7_differing_36 : decode cX7_differing 36 = .ok (.istore_n 2, 1) := by decide +kernel
theorem dX7_differing_37 : decode cX7_differing 37 = .ok (.iload_n 2, 1) := by decide +kernel
theorem dX7_differing_38 : decode cX7_differing 38 = .ok (.aload_n 0, 1) := by decide +kernel
theorem dX7_differing_39 : decode cX7_differing 39 = .ok (.getfield 32, 3) := by decide +kernel
theorem dX7_differing_42 : decode cX7_differing 42 = .ok (.iload_n 1, 1) := by decide +kernel
theorem dX7_differing_43 : decode cX7_differing 43 = .ok (.iaload, 1) := by decide +kernel
theorem dX7_differing_44 : decode cX7_differing 44 = .ok (.if_icmp .ge 39, 3) := by decide +kernel
theorem dX7_differing_47 : decode cX7_differing 47 = .ok (.aload_n 0, 1) := by decide +kernel
theorem dX7_differing_48 : decode cX7_differing 48 = .ok (.getfield 23, 3) := by decide +kernel
theorem dX7_differing_51 : decode cX7_differing 51 = .ok (.bipush 100, 2) := by decide +kernel
theorem dX7_differing_53 : decode cX7_differing 53 = .ok (.iload_n 1, 1) := by decide +kernel
theorem dX7_differing_54 : decode cX7_differing 54 = .ok (.iconst 5, 1) := by decide +kernel
theorem dX7_differing_55 : decode cX7_differing 55 = .ok (.irem, 1) := by decide +kernel
theorem dX7_differing_56 : decode cX7_differing 56 = .ok (.imul, 1) := by decide +kernel
theorem dX7_differing_57 : decode cX7_differing 57 = .ok (.iload_n 1, 1) := by decide +kernel
theorem dX7_differing_58 : decode cX7_differing 58 = .ok (.iconst 5, 1) := by decide +kernel
theorem dX7_differing_59 : decode cX7_differing 59 = .ok (.idiv, 1) := by decide +kernel
theorem dX7_differing_60 : decode cX7_differing 60 = .ok (.aload_n 0, 1) := by decide +kernel
theorem dX7_differing_61 : decode cX7_differing 61 = .ok (.getfield 29, 3) := by decide +kernel
theorem dX7_differing_64 : decode cX7_differing 64 = .ok (.bipush 10, 2) := by decide +kernel
theorem dX7_differing_66 : decode cX7_differing 66 = .ok (.iload_n 1, 1) := by decide +kernel
theorem dX7_differing_67 : decode cX7_differing 67 = .ok (.imul, 1) := by decide +kernel
theorem dX7_differing_68 : decode cX7_differing 68 = .ok (.iload_n 2, 1) := by decide +kernel
theorem dX7_differing_69 : decode cX7_differing 69 = .ok (.iadd, 1) := by decide +kernel
theorem dX7_differing_70 : decode cX7_differing 70 = .ok (.iaload, 1) := by decide +kernel
theorem dX7_differing_71 : decode cX7_differing 71 = .ok (.invokestatic 62, 3) := by decide +kernel
theorem dX7_differing_74 : decode cX7_differing 74 = .ok (.iadd, 1) := by decide +kernel
theorem dX7_differing_75 : decode cX7_differing 75 = .ok (.iconst 1, 1) := by decide +kernel
theorem dX7_differing_76 : decode cX7_differing 76 = .ok (.iastore, 1) := by decide +kernel
theorem dX7_differing_77 : decode cX7_differing 77 = .ok (.iinc 2 1, 3) := by decide +kernel
theorem dX7_differing_80 : decode cX7_differing 80 = .ok (.goto (-43), 3) := by decide +kernel
theorem dX7_differing_83 : decode cX7_differing 83 = .ok (.iinc 1 1, 3) := by decide +kernel
theorem dX7_differing_86 : decode cX7_differing 86 = .ok (.goto (-57), 3) := by decide +kernel
theorem dX7_differing_89 : decode cX7_differing 89 = .ok (.iconst 0, 1) := by decide +kernel
theorem dX7_differing_90 : decode cX7_differing 90 = .ok (.istore_n 1, 1) := by decide +kernel
theorem dX7_differing_91 : decode cX7_differing 91 = .ok (.iconst 0, 1) := by decide +kernel
theorem dX7_differing_92 : decode cX7_differing 92 = .ok (.istore_n 2, 1) := by decide +kernel
theorem dX7_differing_93 : decode cX7_differing 93 = .ok (.iload_n 2, 1) := by decide +kernel
theorem dX7_differing_94 : decode cX7_differing 94 = .ok (.aload_n 0, 1) := by decide +kernel
theorem dX7_differing_95 : decode cX7_differing 95 = .ok (.getfield 7, 3) := by decide +kernel
theorem dX7_differing_98 : decode cX7_differing 98 = .ok (.if_icmp .ge 44, 3) := by decide +kernel
theorem dX7_differing_101 : decode cX7_differing 101 = .ok (.iload_n 2, 1) := by decide +kernel
theorem dX7_differing_102 : decode cX7_differing 102 = .ok (.iconst 1, 1) := by decide +kernel
theorem dX7_differing_103 : decode cX7_differing 103 = .ok (.iadd, 1) := by decide +kernel
theorem dX7_differing_104 : decode cX7_differing 104 = .ok (.istore_n 3, 1) := by decide +kernel
theorem dX7_differing_105 : decode cX7_differing 105 = .ok (.iload_n 3, 1) := by decide +kernel
theorem dX7_differing_106 : decode cX7_differing 106 = .ok (.aload_n 0, 1) := by decide +kernel
theorem dX7_differing_107 : decode cX7_differing 107 = .ok (.getfield 7, 3) := by decide +kernel
theorem dX7_differing_110 : decode cX7_differing 110 = .ok (.if_icmp .ge 26, 3) := by decide +kernel
theorem dX7_differing_113 : decode cX7_differing 113 = .ok (.iload_n 1, 1) := by decide +kernel
theorem dX7_differing_114 : decode cX7_differing 114 = .ok (.aload_n 0, 1) := by decide +kernel
theorem dX7_differing_115 : decode cX7_differing 115 = .ok (.iload_n 2, 1) := by decide +kernel
theorem dX7_differing_116 : decode cX7_differing 116 = .ok (.iload_n 3, 1) := by decide +kernel
theorem dX7_differing_117 : decode cX7_differing 117 = .ok (.invokevirtual 126, 3) := by decide +kernel
theorem dX7_differing_120 : decode cX7_differing 120 = .ok (.ifCond .eq 7, 3) := by decide +kernel
theorem dX7_differing_123 : decode cX7_differing 123 = .ok (.iconst 0, 1) := by decide +kernel
theorem dX7_differing_124 : decode cX7_differing 124 = .ok (.goto 4, 3) := by decide +kernel
theorem dX7_differing_127 : decode cX7_differing 127 = .ok (.iconst 1, 1) := by decide +kernel
theorem dX7_differing_128 : decode cX7_differing 128 = .ok (.iadd, 1) := by decide +kernel
theorem dX7_differing_129 : decode cX7_differing 129 = .ok (.istore_n 1, 1) := by decide +kernel
theorem dX7_differing_130 : decode cX7_differing 130 = .ok (.iinc 3 1, 3) := by decide +kernel
theorem dX7_differing_133 : decode cX7_differing 133 = .ok (.goto (-28), 3) := by decide +kernel
theorem dX7_differing_136 : decode cX7_differing 136 = .ok (.iinc 2 1, 3) := by decide +kernel
theorem dX7_differing_139 : decode cX7_differing 139 = .ok (.goto (-46), 3) := by decide +kernel
theorem dX7_differing_142 : decode cX7_differing 142 = .ok (.iconst 0, 1) := by decide +kernel
theorem dX7_differing_143 : decode cX7_differing 143 = .ok (.istore_n 2, 1) := by decide +kernel
theorem dX7_differing_144 : decode cX7_differing 144 = .ok (.iload_n 2, 1) := by decide +kernel
theorem dX7_differing_145 : decode cX7_differing 145 = .ok (.sipush 500, 3) := by decide +kernel
theorem dX7_differing_148 : decode cX7_differing 148 = .ok (.if_icmp .ge 21, 3) := by decide +kernel
theorem dX7_differing_151 : decode cX7_differing 151 = .ok (.aload_n 0, 1) := by decide +kernel
theorem dX7_differing_152 : decode cX7_differing 152 = .ok (.getfield 23, 3) := by decide +kernel
theorem dX7_differing_155 : decode cX7_differing 155 = .ok (.iload_n 2, 1) := by decide +kernel
theorem dX7_differing_156 : decode cX7_differing 156 = .ok (.aload_n 0, 1) := by decide +kernel
theorem dX7_differing_157 : decode cX7_differing 157 = .ok (.getfield 47, 3) := by decide +kernel
theorem dX7_differing_160 : decode cX7_differing 160 = .ok (.iload_n 2, 1) := by decide +kernel
theorem dX7_differing_161 : decode cX7_differing 161 = .ok (.iaload, 1) := by decide +kernel
theorem dX7_differing_162 : decode cX7_differing 162 = .ok (.iastore, 1) := by decide +kernel
theorem dX7_differing_163 : decode cX7_differing 163 = .ok (.iinc 2 1, 3) := by decide +kernel
theorem dX7_differing_166 : decode cX7_differing 166 = .ok (.goto (-22), 3) := by decide +kernel
theorem dX7_differing_169 : decode cX7_differing 169 = .ok (.iload_n 1, 1) := by decide +kernel
theorem dX7_differing_170 : decode cX7_differing 170 = .ok (.ireturn, 1) := by decide +kernel
set_option maxRecDepth 20000 in
theorem ggX7_bestHelper_X7_isSite : GoodIn wsX7_bestHelper wsX7_isSite := goodIn_r _ [8, 3, 9, 10, 7, 11, 33, 34, 35, 36, 37, 38, 39, 40, 41, 42, 43, 44, 45, 46] (by decide +kernel) (by decide +kernel)
set_option maxRecDepth 20000 in
theorem gX7_bestHelper_X7_isSite : GoodIn wsX7_bestHelper (wsV RX7 54 RX7 yX7_isSite wsX7_isSite) := goodIn_app (goodIn_of _ (by decide +kernel)) ggX7_bestHelper_X7_isSite
set_option maxRecDepth 20000 in
theorem ggX7_bestHelper_X7_givenMany : GoodIn wsX7_bestHelper wsX7_givenMany := goodIn_r _ [15, 16, 17, 18, 7, 19, 20, 21, 22, 23, 24, 25, 26, 27, 28, 29, 30, 31, 32, 33, 34, 35, 36, 37, 38, 39, 40, 41, 42, 43, 44, 45, 46] (by decide +kernel) (by decide +kernel)
set_option maxRecDepth 20000 in
theorem gX7_bestHelper_X7_givenMany : GoodIn wsX7_bestHelper (wsV RX7 129 RX7 yX7_givenMany wsX7_givenMany) := goodIn_app (goodIn_of _ (by decide +kernel)) ggX7_bestHelper_X7_givenMany
theorem dX7_bestHelper_0 : decode cX7_bestHelper 0 = .ok (.aload_n 0, 1) := by decide +kernel
theorem dX7_bestHelper_1 : decode cX7_bestHelper 1 = .ok (.iload_n 1, 1) := by decide +kernel
theorem dX7_bestHelper_2 : decode cX7_bestHelper 2 = .ok (.invokevirtual 54, 3) := by decide +kernel
theorem dX7_bestHelper_5 : decode cX7_bestHelper 5 = .ok (.ifCond .ne 6, 3) := by decide +kernel
theorem dX7_bestHelper_8 : decode cX7_bestHelper 8 = .ok (.ldc 89, 2) := by decide +kernel
theorem dX7_bestHelper_10 : decode cX7_bestHelper 10 = .ok (.ireturn, 1) := by decide +kernel
theorem dX7_bestHelper_11 : decode cX7_bestHelper 11 = .ok (.ldc 109, 2) := by decide +kernel
theorem dX7_bestHelper_13 : decode cX7_bestHelper 13 = .ok (.istore_n 2, 1) := by decide +kernel
theorem dX7_bestHelper_14 : decode cX7_bestHelper 14 = .ok (.iconst 0, 1) := by decide +kernel
theorem dX7_bestHelper_15 : decode cX7_bestHelper 15 = .ok (.istore_n 3, 1) := by decide +kernel
theorem dX7_bestHelper_16 : decode cX7_bestHelper 16 = .ok (.iconst 0, 1) := by decide +kernel
theorem dX7_bestHelper_17 : decode cX7_bestHelper 17 = .ok (.istore 4, 2) := by decide +kernel
theorem dX7_bestHelper_19 : decode cX7_bestHelper 19 = .ok (.iload 4, 2) := by decide +kernel
theorem dX7_bestHelper_21 : decode cX7_bestHelper 21 = .ok (.aload_n 0, 1) := by decide +kernel
theorem dX7_bestHelper_22 : decode cX7_bestHelper 22 = .ok (.getfield 7, 3) := by decide +kernel
theorem dX7_bestHelper_25 : decode cX7_bestHelper 25 = .ok (.if_icmp .ge 54, 3) := by decide +kernel
theorem dX7_bestHelper_28 : decode cX7_bestHelper 28 = .ok (.iload 4, 2) := by decide +kernel
theorem dX7_bestHelper_30 : decode cX7_bestHelper 30 = .ok (.iload_n 1, 1) := by decide +kernel
theorem dX7_bestHelper_31 : decode cX7_bestHelper 31 = .ok (.if_icmp .ne 7, 3) := by decide +kernel
theorem dX7_bestHelper_34 : decode cX7_bestHelper 34 = .ok (.iconst 0, 1) := by decide +kernel
theorem dX7_bestHelper_35 : decode cX7_bestHelper 35 = .ok (.goto 10, 3) := by decide +kernel
theorem dX7_bestHelper_38 : decode cX7_bestHelper 38 = .ok (.aload_n 0, 1) := by decide +kernel
theorem dX7_bestHelper_39 : decode cX7_bestHelper 39 = .ok (.iload_n 1, 1) := by decide +kernel
theorem dX7_bestHelper_40 : decode cX7_bestHelper 40 = .ok (.iload 4, 2) := by decide +kernel
theorem dX7_bestHelper_42 : decode cX7_bestHelper 42 = .ok (.invokevirtual 129, 3) := by decide +kernel
theorem dX7_bestHelper_45 : decode cX7_bestHelper 45 = .ok (.istore 5, 2) := by decide +kernel
theorem dX7_bestHelper_47 : decode cX7_bestHelper 47 = .ok (.iload 5, 2) := by decide +kernel
theorem dX7_bestHelper_49 : decode cX7_bestHelper 49 = .ok (.iload_n 3, 1) := by decide +kernel
theorem dX7_bestHelper_50 : decode cX7_bestHelper 50 = .ok (.if_icmp .le 8, 3) := by decide +kernel
theorem dX7_bestHelper_53 : decode cX7_bestHelper 53 = .ok (.iload 4, 2) := by decide +kernel
theorem dX7_bestHelper_55 : decode cX7_bestHelper 55 = .ok (.goto 4, 3) := by decide +kernel
theorem dX7_bestHelper_58 : decode cX7_bestHelper 58 = .ok (.iload_n 2, 1) := by decide +kernel
theorem dX7_bestHelper_59 : decode cX7_bestHelper 59 = .ok (.istore_n 2, 1) := by decide +kernel
theorem dX7_bestHelper_60 : decode cX7_bestHelper 60 = .ok (.iload 5, 2) := by decide +kernel
theorem dX7_bestHelper_62 : decode cX7_bestHelper 62 = .ok (.iload_n 3, 1) := by decide +kernel
theorem dX7_bestHelper_63 : decode cX7_bestHelper 63 = .ok (.if_icmp .le 8, 3) := by decide +kernel
theorem dX7_bestHelper_66 : decode cX7_bestHelper 66 = .ok (.iload 5, 2) := by decide +kernel
theorem dX7_bestHelper_68 : decode cX7_bestHelper 68 = .ok (.goto 4, 3) := by decide +kernel
theorem dX7_bestHelper_71 : decode cX7_bestHelper 71 = .ok (.iload_n 3, 1) := by decide +kernel
theorem dX7_bestHelper_72 : decode cX7_bestHelper 72 = .ok (.istore_n 3, 1) := by decide +kernel
theorem dX7_bestHelper_73 : decode cX7_bestHelper 73 = .ok (.iinc 4 1, 3) := by decide +kernel
theorem dX7_bestHelper_76 : decode cX7_bestHelper 76 = .ok (.goto (-57), 3) := by decide +kernel
theorem dX7_bestHelper_79 : decode cX7_bestHelper 79 = .ok (.iload_n 2, 1) := by decide +kernel
theorem dX7_bestHelper_80 : decode cX7_bestHelper 80 = .ok (.ireturn, 1) := by decide +kernel
set_option maxRecDepth 20000 in
theorem ggX7_isSafe_X7_place : GoodIn wsX7_isSafe wsX7_place := goodIn_r _ [7] (by decide +kernel) (by decide +kernel)
set_option maxRecDepth 20000 in
theorem gX7_isSafe_X7_place : GoodIn wsX7_isSafe (va_wsS RX7 62 yX7_place wsX7_place) := goodIn_app (goodIn_of _ (by decide +kernel)) ggX7_isSafe_X7_place
set_option maxRecDepth 20000 in
theorem ggX7_isSafe_X7_doesKnow : GoodIn wsX7_isSafe wsX7_doesKnow := goodIn_r _ [11, 12, 13, 14, 15, 16, 17, 18, 19, 20, 21, 22, 23, 24, 25, 26] (by decide +kernel) (by decide +kernel)
set_option maxRecDepth 20000 in
theorem gX7_isSafe_X7_doesKnow : GoodIn wsX7_isSafe (wsV RX7 65 RX7 yX7_doesKnow wsX7_doesKnow) := goodIn_app (goodIn_of _ (by decide +kernel)) ggX7_isSafe_X7_doesKnow
theorem dX7_isSafe_0 : decode cX7_isSafe 0 = .ok (.iconst 0, 1) := by decide +kernel
theorem dX7_isSafe_1 : decode cX7_isSafe 1 = .ok (.istore_n 3, 1) := by decide +kernel
theorem dX7_isSafe_2 : decode cX7_isSafe 2 = .ok (.iconst 0, 1) := by decide +kernel
theorem dX7_isSafe_3 : decode cX7_isSafe 3 = .ok (.istore 4, 2) := by decide +kernel
theorem dX7_isSafe_5 : decode cX7_isSafe 5 = .ok (.iload 4, 2) := by decide +kernel
theorem dX7_isSafe_7 : decode cX7_isSafe 7 = .ok (.aload_n 0, 1) := by decide +kernel
theorem dX7_isSafe_8 : decode cX7_isSafe 8 = .ok (.getfield 7, 3) := by decide +kernel
theorem dX7_isSafe_11 : decode cX7_isSafe 11 = .ok (.if_icmp .ge 95, 3) := by decide +kernel
theorem dX7_isSafe_14 : decode cX7_isSafe 14 = .ok (.iload_n 3, 1) := by decide +kernel
theorem dX7_isSafe_15 : decode cX7_isSafe 15 = .ok (.ifCond .ne 23, 3) := by decide +kernel
theorem dX7_isSafe_18 : decode cX7_isSafe 18 = .ok (.iload 4, 2) := by decide +kernel
theorem dX7_isSafe_20 : decode cX7_isSafe 20 = .ok (.iload_n 1, 1) := by decide +kernel
theorem dX7_isSafe_21 : decode cX7_isSafe 21 = .ok (.if_icmp .eq 21, 3) := by decide +kernel
theorem dX7_isSafe_24 : decode cX7_isSafe 24 = .ok (.aload_n 0, 1) := by decide +kernel
theorem dX7_isSafe_25 : decode cX7_isSafe 25 = .ok (.iload 4, 2) := by decide +kernel
theorem dX7_isSafe_27 : decode cX7_isSafe 27 = .ok (.iload_n 1, 1) := by decide +kernel
theorem dX7_isSafe_28 : decode cX7_isSafe 28 = .ok (.iload_n 2, 1) := by decide +kernel
theorem dX7_isSafe_29 : decode cX7_isSafe 29 = .ok (.invokestatic 62, 3) := by decide +kernel
theorem dX7_isSafe_32 : decode cX7_isSafe 32 = .ok (.invokevirtual 65, 3) := by decide +kernel
theorem dX7_isSafe_35 : decode cX7_isSafe 35 = .ok (.ifCond .eq 7, 3) := by decide +kernel
theorem dX7_isSafe_38 : decode cX7_isSafe 38 = .ok (.iconst 1, 1) := by decide +kernel
theorem dX7_isSafe_39 : decode cX7_isSafe 39 = .ok (.goto 4, 3) := by decide +kernel
theorem dX7_isSafe_42 : decode cX7_isSafe 42 = .ok (.iconst 0, 1) := by decide +kernel
theorem dX7_isSafe_43 : decode cX7_isSafe 43 = .ok (.istore_n 3, 1) := by decide +kernel
theorem dX7_isSafe_44 : decode cX7_isSafe 44 = .ok (.iconst 0, 1) := by decide +kernel
theorem dX7_isSafe_45 : decode cX7_isSafe 45 = .ok (.istore 5, 2) := by decide +kernel
theorem dX7_isSafe_47 : decode cX7_isSafe 47 = .ok (.iload 5, 2) := by decide +kernel
theorem dX7_isSafe_49 : decode cX7_isSafe 49 = .ok (.aload_n 0, 1) := by decide +kernel
theorem dX7_isSafe_50 : decode cX7_isSafe 50 = .ok (.getfield 32, 3) := by decide +kernel
theorem dX7_isSafe_53 : decode cX7_isSafe 53 = .ok (.iconst 5, 1) := by decide +kernel
theorem dX7_isSafe_54 : decode cX7_isSafe 54 = .ok (.iload_n 1, 1) := by decide +kernel
theorem dX7_isSafe_55 : decode cX7_isSafe 55 = .ok (.imul, 1) := by decide +kernel
theorem dX7_isSafe_56 : decode cX7_isSafe 56 = .ok (.iload 4, 2) := by decide +kernel
theorem dX7_isSafe_58 : decode cX7_isSafe 58 = .ok (.iadd, 1) := by decide +kernel
theorem dX7_isSafe_59 : decode cX7_isSafe 59 = .ok (.iaload, 1) := by decide +kernel
theorem dX7_isSafe_60 : decode cX7_isSafe 60 = .ok (.if_icmp .ge 40, 3) := by decide +kernel
theorem dX7_isSafe_63 : decode cX7_isSafe 63 = .ok (.iload_n 3, 1) := by decide +kernel
theorem dX7_isSafe_64 : decode cX7_isSafe 64 = .ok (.ifCond .ne 24, 3) := by decide +kernel
theorem dX7_isSafe_67 : decode cX7_isSafe 67 = .ok (.aload_n 0, 1) := by decide +kernel
theorem dX7_isSafe_68 : decode cX7_isSafe 68 = .ok (.getfield 29, 3) := by decide +kernel
theorem dX7_isSafe_71 : decode cX7_isSafe 71 = .ok (.bipush 10, 2) := by decide +kernel
theorem dX7_isSafe_73 : decode cX7_isSafe 73 = .ok (.iconst 5, 1) := by decide +kernel
theorem dX7_isSafe_74 : decode cX7_isSafe 74 = .ok (.iload_n 1, 1) := by decide +kernel
theorem dX7_isSafe_75 : decode cX7_isSafe 75 = .ok (.imul, 1) := by decide +kernel
theorem dX7_isSafe_76 : decode cX7_isSafe 76 = .ok (.iload 4, 2) := by decide +kernel
theorem dX7_isSafe_78 : decode cX7_isSafe 78 = .ok (.iadd, 1) := by decide +kernel
theorem dX7_isSafe_79 : decode cX7_isSafe 79 = .ok (.imul, 1) := by decide +kernel
theorem dX7_isSafe_80 : decode cX7_isSafe 80 = .ok (.iload 5, 2) := by decide +kernel
theorem dX7_isSafe_82 : decode cX7_isSafe 82 = .ok (.iadd, 1) := by decide +kernel
theorem dX7_isSafe_83 : decode cX7_isSafe 83 = .ok (.iaload, 1) := by decide +kernel
theorem dX7_isSafe_84 : decode cX7_isSafe 84 = .ok (.iload_n 2, 1) := by decide +kernel
theorem dX7_isSafe_85 : decode cX7_isSafe 85 = .ok (.if_icmp .ne 7, 3) := by decide +kernel
theorem dX7_isSafe_88 : decode cX7_isSafe 88 = .ok (.iconst 1, 1) := by decide +kernel
theorem dX7_isSafe_89 : decode cX7_isSafe 89 = .ok (.goto 4, 3) := by decide +kernel
theorem dX7_isSafe_92 : decode cX7_isSafe 92 = .ok (.iconst 0, 1) := by decide +kernel
theorem dX7_isSafe_93 : decode cX7_isSafe 93 = .ok (.istore_n 3, 1) := by decide +kernel
theorem dX7_isSafe_94 : decode cX7_isSafe 94 = .ok (.iinc 5 1, 3) := by decide +kernel
theorem dX7_isSafe_97 : decode cX7_isSafe 97 = .ok (.goto (-50), 3) := by decide +kernel
theorem dX7_isSafe_100 : decode cX7_isSafe 100 = .ok (.iinc 4 1, 3) := by decide +kernel
theorem dX7_isSafe_103 : decode cX7_isSafe 103 = .ok (.goto (-98), 3) := by decide +kernel
theorem dX7_isSafe_106 : decode cX7_isSafe 106 = .ok (.iload_n 3, 1) := by decide +kernel
theorem dX7_isSafe_107 : decode cX7_isSafe 107 = .ok (.ireturn, 1) := by decide +kernel
set_option maxRecDepth 20000 in
theorem ggX7_endangered_X7_isSite : GoodIn wsX7_endangered wsX7_isSite := goodIn_r _ [7, 8, 9, 10, 6, 11, 26, 27, 28, 29, 30, 31, 32, 33, 34, 35, 36, 37, 38, 39] (by decide +kernel) (by decide +kernel)
set_option maxRecDepth 20000 in
theorem gX7_endangered_X7_isSite : GoodIn wsX7_endangered (wsV RX7 54 RX7 yX7_isSite wsX7_isSite) := goodIn_app (goodIn_of _ (by decide +kernel)) ggX7_endangered_X7_isSite
set_option maxRecDepth 20000 in
theorem ggX7_endangered_X7_isSafe : GoodIn wsX7_endangered wsX7_isSafe := goodIn_r _ [15, 8, 16, 17, 18, 19, 6, 20, 21, 22, 23, 24, 25, 26, 27, 28, 29, 30, 31, 32, 33, 34, 35, 36, 37, 38, 39] (by decide +kernel) (by decide +kernel)
set_option maxRecDepth 20000 in
theorem gX7_endangered_X7_isSafe : GoodIn wsX7_endangered (wsV RX7 132 RX7 yX7_isSafe wsX7_isSafe) := goodIn_app (goodIn_of _ (by decide +kernel)) ggX7_endangered_X7_isSafe
theorem dX7_endangered_0 : decode cX7_endangered 0 = .ok (.aload_n 0, 1) := by decide +kernel
theorem dX7_endangered_1 : decode cX7_endangered 1 = .ok (.iload_n 1, 1) := by decide +kernel
theorem dX7_endangered_2 : decode cX7_endangered 2 = .ok (.invokevirtual 54, 3) := by decide +kernel
theorem dX7_endangered_5 : decode cX7_endangered 5 = .ok (.ifCond .ne 6, 3) := by decide +kernel
theorem dX7_endangered_8 : decode cX7_endangered 8 = .ok (.ldc 89, 2) := by decide +kernel
theorem dX7_endangered_10 : decode cX7_endangered 10 = .ok (.ireturn, 1) := by decide +kernel
theorem dX7_endangered_11 : decode cX7_endangered 11 = .ok (.iconst 0, 1) := by decide +kernel
theorem dX7_endangered_12 : decode cX7_endangered 12 = .ok (.istore_n 2, 1) := by decide +kernel
theorem dX7_endangered_13 : decode cX7_endangered 13 = .ok (.iconst 1, 1) := by decide +kernel
theorem dX7_endangered_14 : decode cX7_endangered 14 = .ok (.istore_n 3, 1) := by decide +kernel
theorem dX7_endangered_15 : decode cX7_endangered 15 = .ok (.iload_n 3, 1) := by decide +kernel
theorem dX7_endangered_16 : decode cX7_endangered 16 = .ok (.aload_n 0, 1) := by decide +kernel
theorem dX7_endangered_17 : decode cX7_endangered 17 = .ok (.getfield 17, 3) := by decide +kernel
theorem dX7_endangered_20 : decode cX7_endangered 20 = .ok (.iload_n 1, 1) := by decide +kernel
theorem dX7_endangered_21 : decode cX7_endangered 21 = .ok (.iaload, 1) := by decide +kernel
theorem dX7_endangered_22 : decode cX7_endangered 22 = .ok (.if_icmp .gt 26, 3) := by decide +kernel
theorem dX7_endangered_25 : decode cX7_endangered 25 = .ok (.iload_n 2, 1) := by decide +kernel
theorem dX7_endangered_26 : decode cX7_endangered 26 = .ok (.aload_n 0, 1) := by decide +kernel
theorem dX7_endangered_27 : decode cX7_endangered 27 = .ok (.iload_n 1, 1) := by decide +kernel
theorem dX7_endangered_28 : decode cX7_endangered 28 = .ok (.iload_n 3, 1) := by decide +kernel
theorem dX7_endangered_29 : decode cX7_endangered 29 = .ok (.invokevirtual 132, 3) := by decide +kernel
theorem dX7_endangered_32 : decode cX7_endangered 32 = .ok (.ifCond .eq 7, 3) := by decide +kernel
theorem dX7_endangered_35 : decode cX7_endangered 35 = .ok (.iconst 0, 1) := by decide +kernel
theorem dX7_endangered_36 : decode cX7_endangered 36 = .ok (.goto 4, 3) := by decide +kernel
theorem dX7_endangered_39 : decode cX7_endangered 39 = .ok (.iconst 1, 1) := by decide +kernel
theorem dX7_endangered_40 : decode cX7_endangered 40 = .ok (.iadd, 1) := by decide +kernel
theorem dX7_endangered_41 : decode cX7_endangered 41 = .ok (.istore_n 2, 1) := by decide +kernel
theorem dX7_endangered_42 : decode cX7_endangered 42 = .ok (.iinc 3 1, 3) := by decide +kernel
theorem dX7_endangered_45 : decode cX7_endangered 45 = .ok (.goto (-30), 3) := by decide +kernel
theorem dX7_endangered_48 : decode cX7_endangered 48 = .ok (.iload_n 2, 1) := by decide +kernel
theorem dX7_endangered_49 : decode cX7_endangered 49 = .ok (.ireturn, 1) := by decide +kernel
theorem dJ6_compare_7cf53_0 : decode cJ6_compare_7cf53 0 = .ok (.iload_n 0, 1) := by decide +kernel
theorem dJ6_compare_7cf53_1 : decode cJ6_compare_7cf53 1 = .ok (.iload_n 1, 1) := by decide +kernel
theorem dJ6_compare_7cf53_2 : decode cJ6_compare_7cf53 2 = .ok (.if_icmp .ge 7, 3) := by decide +kernel
theorem dJ6_compare_7cf53_5 : decode cJ6_compare_7cf53 5 = .ok (.iconst (-1), 1) := by decide +kernel
theorem dJ6_compare_7cf53_6 : decode cJ6_compare_7cf53 6 = .ok (.goto 13, 3) := by decide +kernel
theorem dJ6_compare_7cf53_9 : decode cJ6_compare_7cf53 9 = .ok (.iload_n 0, 1) := by decide +kernel
theorem dJ6_compare_7cf53_10 : decode cJ6_compare_7cf53 10 = .ok (.iload_n 1, 1) := by decide +kernel
theorem dJ6_compare_7cf53_11 : decode cJ6_compare_7cf53 11 = .ok (.if_icmp .ne 7, 3) := by decide +kernel
theorem dJ6_compare_7cf53_14 : decode cJ6_compare_7cf53 14 = .ok (.iconst 0, 1) := by decide +kernel
theorem dJ6_compare_7cf53_15 : decode cJ6_compare_7cf53 15 = .ok (.goto 4, 3) := by decide +kernel
theorem dJ6_compare_7cf53_18 : decode cJ6_compare_7cf53 18 = .ok (.iconst 1, 1) := by decide +kernel
theorem dJ6_compare_7cf53_19 : decode cJ6_compare_7cf53 19 = .ok (.ireturn, 1) := by decide +kernel
theorem dJ9_max_7cf53_0 : decode cJ9_max_7cf53 0 = .ok (.iload_n 0, 1) := by decide +kernel
theorem dJ9_max_7cf53_1 : decode cJ9_max_7cf53 1 = .ok (.iload_n 1, 1) := by decide +kernel
theorem dJ9_max_7cf53_2 : decode cJ9_max_7cf53 2 = .ok (.if_icmp .lt 7, 3) := by decide +kernel
theorem dJ9_max_7cf53_5 : decode cJ9_max_7cf53 5 = .ok (.iload_n 0, 1) := by decide +kernel
theorem dJ9_max_7cf53_6 : decode cJ9_max_7cf53 6 = .ok (.goto 4, 3) := by decide +kernel
theorem dJ9_max_7cf53_9 : decode cJ9_max_7cf53 9 = .ok (.iload_n 1, 1) := by decide +kernel
theorem dJ9_max_7cf53_10 : decode cJ9_max_7cf53 10 = .ok (.ireturn, 1) := by decide +kernel
set_option maxRecDepth 20000 in
theorem ggL_law_X6_init : GoodIn wsL_law wsX6_init := goodIn_r _ [8, 9, 10, 11, 12, 13, 14, 15, 16, 17, 18, 19, 20, 21, 22, 23, 24, 25, 26, 27, 28, 29, 30, 31, 32, 33, 34, 35, 36, 37, 38, 39, 40, 41, 42, 43, 44, 45, 46, 47, 48, 49, 50, 51, 52, 53, 54, 55, 56, 57, 58, 59, 60, 61, 62, 63, 64, 65, 66, 67, 68, 69, 70, 71, 72, 73, 74, 75, 76, 77, 78, 79, 80, 81, 82, 83, 84, 85, 86, 87, 88, 89, 90, 91, 92, 93, 94, 784, 785, 786, 787, 788, 789, 790, 791, 761, 762, 763, 764, 765, 766, 767, 768, 769, 792, 793, 794, 795, 796, 797, 798, 799, 800, 801, 802, 803, 804] (by decide +kernel) (by decide +kernel)
set_option maxRecDepth 20000 in
theorem gL_law_X6_init : GoodIn wsL_law (wsX6_init) := ggL_law_X6_init
set_option maxRecDepth 20000 in
theorem ggL_law_X7_init : GoodIn wsL_law wsX7_init := goodIn_r _ [97, 98, 10, 11, 99, 59, 100, 101, 102, 103, 104, 105, 106, 107, 108, 109, 110, 111, 770, 771, 772, 773, 774, 775, 776, 777, 778, 779, 780, 781, 782, 783] (by decide +kernel) (by decide +kernel)
set_option maxRecDepth 20000 in
theorem gL_law_X7_init : GoodIn wsL_law (wsX7_init) := ggL_law_X7_init
set_option maxRecDepth 20000 in
theorem ggL_law_X6_reset : GoodIn wsL_law wsX6_reset := goodIn_r _ [115, 116, 38, 15, 19, 23, 28, 37, 117, 118, 2, 119, 120, 121, 122, 14, 123, 43, 124, 125, 126, 127, 36, 128, 60, 129, 130, 131, 18, 132, 66, 133, 134, 135, 136, 22, 137, 77, 138, 139, 140, 141, 27, 142, 83, 143, 144, 761, 762, 763, 764, 765, 766, 767, 768, 769, 784, 785, 786, 787, 788, 789, 790, 791, 804, 792, 793, 794, 795, 796, 797, 798, 799] (by decide +kernel) (by decide +kernel)
set_option maxRecDepth 20000 in
theorem gL_law_X6_reset : GoodIn wsL_law (wsV RL 13 RX6 yX6_reset wsX6_reset) := goodIn_app (goodIn_of _ (by decide +kernel)) ggL_law_X6_reset
set_option maxRecDepth 20000 in
theorem ggL_law_X7_reset : GoodIn wsL_law wsX7_reset := goodIn_r _ [148, 149, 99, 150, 151, 5, 152, 153, 154, 155, 156, 101, 102, 104, 103, 106, 770, 771, 772, 773, 774, 775, 776, 777, 778, 779, 780, 781, 782, 783] (by decide +kernel) (by decide +kernel)
set_option maxRecDepth 20000 in
theorem gL_law_X7_reset : GoodIn wsL_law (wsV RL 17 RX7 yX7_reset wsX7_reset) := goodIn_app (goodIn_of _ (by decide +kernel)) ggL_law_X7_reset
set_option maxRecDepth 20000 in
theorem ggL_law_X6_join : GoodIn wsL_law wsX6_join := goodIn_r _ [160, 38, 161, 761, 762, 763, 764, 765, 766, 767, 768, 769] (by decide +kernel) (by decide +kernel)
set_option maxRecDepth 20000 in
theorem gL_law_X6_join : GoodIn wsL_law (wsV RL 18 RX6 yX6_join wsX6_join) := goodIn_app (goodIn_of _ (by decide +kernel)) ggL_law_X6_join
set_option maxRecDepth 20000 in
theorem ggL_law_X7_join : GoodIn wsL_law wsX7_join := goodIn_r _ [165, 99, 166, 153, 154, 155, 5, 156, 101, 102, 104, 103, 106, 770, 771, 772, 773, 774, 775, 776, 777, 778, 779, 780, 781, 782, 783] (by decide +kernel) (by decide +kernel)
set_option maxRecDepth 20000 in
theorem gL_law_X7_join : GoodIn wsL_law (wsV RL 22 RX7 yX7_join wsX7_join) := goodIn_app (goodIn_of _ (by decide +kernel)) ggL_law_X7_join
set_option maxRecDepth 20000 in
theorem ggL_law_X6_sites : GoodIn wsL_law wsX6_sites := goodIn_r _ [170, 38, 761, 762, 763, 764, 765, 766, 767, 768, 769] (by decide +kernel) (by decide +kernel)
set_option maxRecDepth 20000 in
theorem gL_law_X6_sites : GoodIn wsL_law (wsV RL 23 RX6 yX6_sites wsX6_sites) := goodIn_app (goodIn_of _ (by decide +kernel)) ggL_law_X6_sites
set_option maxRecDepth 20000 in
theorem ggL_law_X7_sites : GoodIn wsL_law wsX7_sites := goodIn_r _ [174, 99, 770, 771, 772, 773, 774, 775, 776, 777, 778, 779, 780, 781, 782, 783] (by decide +kernel) (by decide +kernel)
set_option maxRecDepth 20000 in
theorem gL_law_X7_sites : GoodIn wsL_law (wsV RL 26 RX7 yX7_sites wsX7_sites) := goodIn_app (goodIn_of _ (by decide +kernel)) ggL_law_X7_sites
set_option maxRecDepth 20000 in
theorem ggL_law_X6_siteInfo : GoodIn wsL_law wsX6_siteInfo := goodIn_r _ [178, 116, 37, 23, 15, 32, 19, 179, 180, 181, 2, 182, 38, 117, 118, 119, 183, 184, 185, 36, 186, 60, 187, 188, 189, 22, 190, 191, 192, 193, 194, 77, 195, 196, 197, 198, 14, 199, 43, 200, 201, 202, 203, 31, 204, 90, 91, 205, 206, 207, 208, 209, 124, 210, 126, 127, 128, 211, 212, 213, 214, 215, 216, 217, 218, 219, 48, 220, 221, 222, 223, 224, 225, 226, 227, 228, 46, 229, 230, 231, 232, 44, 233, 234, 235, 236, 237, 238, 239, 240, 47, 241, 242, 243, 244, 92, 245, 246, 247, 248, 249, 250, 251, 252, 253, 254, 255, 256, 257, 258, 259, 260, 18, 261, 66, 262, 761, 762, 763, 764, 765, 766, 767, 768, 769, 804, 797, 784, 785, 786, 787, 788, 789, 790, 791, 800, 801, 802, 803, 792, 793, 794, 795, 796] (by decide +kernel) (by decide +kernel)
set_option maxRecDepth 20000 in
theorem gL_law_X6_siteInfo : GoodIn wsL_law (wsV RL 27 RX6 yX6_siteInfo wsX6_siteInfo) := goodIn_app (goodIn_of _ (by decide +kernel)) ggL_law_X6_siteInfo
set_option maxRecDepth 20000 in
theorem ggL_law_X7_siteInfo : GoodIn wsL_law wsX7_siteInfo := goodIn_r _ [266, 149, 102, 101, 267, 104, 268, 269, 270, 5, 271, 99, 150, 151, 152, 272, 273, 274, 275, 103, 276, 277, 278, 279, 108, 107, 280, 281, 282, 283, 284, 285, 286, 287, 288, 289, 290, 291, 100, 292, 293, 294, 295, 296, 297, 298, 299, 300, 301, 302, 303, 304, 305, 306, 307, 308, 309, 310, 770, 771, 772, 773, 774, 775, 776, 777, 778, 779, 780, 781, 782, 783] (by decide +kernel) (by decide +kernel)
set_option maxRecDepth 20000 in
theorem gL_law_X7_siteInfo : GoodIn wsL_law (wsV RL 31 RX7 yX7_siteInfo wsX7_siteInfo) := goodIn_app (goodIn_of _ (by decide +kernel)) ggL_law_X7_siteInfo
set_option maxRecDepth 20000 in
theorem ggL_law_X6_penDown : GoodIn wsL_law wsX6_penDown := goodIn_r _ [314, 116, 19, 179, 180, 181, 2, 182, 38, 117, 118, 119, 315, 316, 317, 18, 318, 67, 68, 319, 320, 321, 322, 66, 323, 234, 235, 36, 236, 60, 324, 325, 326, 327, 69, 70, 262, 184, 185, 186, 258, 259, 260, 261, 761, 762, 763, 764, 765, 766, 767, 768, 769, 792, 793, 794, 795, 796, 804] (by decide +kernel) (by decide +kernel)
set_option maxRecDepth 20000 in
theorem gL_law_X6_penDown : GoodIn wsL_law (wsV RL 32 RX6 yX6_penDown wsX6_penDown) := goodIn_app (goodIn_of _ (by decide +kernel)) ggL_law_X6_penDown
set_option maxRecDepth 20000 in
theorem ggL_law_X7_penDown : GoodIn wsL_law wsX7_penDown := goodIn_r _ [331, 149, 104, 268, 269, 270, 5, 271, 99, 150, 151, 152, 770, 771, 772, 773, 774, 775, 776, 777, 778, 779, 780, 781, 782, 783] (by decide +kernel) (by decide +kernel)
set_option maxRecDepth 20000 in
theorem gL_law_X7_penDown : GoodIn wsL_law (wsV RL 36 RX7 yX7_penDown wsX7_penDown) := goodIn_app (goodIn_of _ (by decide +kernel)) ggL_law_X7_penDown
set_option maxRecDepth 20000 in
theorem ggL_law_X6_penMove : GoodIn wsL_law wsX6_penMove := goodIn_r _ [335, 116, 19, 336, 161, 179, 180, 181, 2, 182, 38, 117, 118, 119, 258, 259, 260, 18, 261, 66, 262, 184, 185, 36, 186, 60, 337, 338, 339, 340, 69, 341, 342, 343, 344, 70, 324, 325, 326, 327, 323, 234, 235, 236, 761, 762, 763, 764, 765, 766, 767, 768, 769, 792, 793, 794, 795, 796, 804] (by decide +kernel) (by decide +kernel)
set_option maxRecDepth 20000 in
theorem gL_law_X6_penMove : GoodIn wsL_law (wsV RL 37 RX6 yX6_penMove wsX6_penMove) := goodIn_app (goodIn_of _ (by decide +kernel)) ggL_law_X6_penMove
set_option maxRecDepth 20000 in
theorem ggL_law_X7_penMove : GoodIn wsL_law wsX7_penMove := goodIn_r _ [348, 149, 104, 349, 166, 268, 269, 270, 5, 271, 99, 150, 151, 152, 770, 771, 772, 773, 774, 775, 776, 777, 778, 779, 780, 781, 782, 783] (by decide +kernel) (by decide +kernel)
set_option maxRecDepth 20000 in
theorem gL_law_X7_penMove : GoodIn wsL_law (wsV RL 41 RX7 yX7_penMove wsX7_penMove) := goodIn_app (goodIn_of _ (by decide +kernel)) ggL_law_X7_penMove
set_option maxRecDepth 20000 in
theorem ggL_law_X6_penUp : GoodIn wsL_law wsX6_penUp := goodIn_r _ [353, 116, 19, 336, 161, 15, 179, 180, 181, 2, 182, 38, 117, 118, 119, 258, 259, 260, 18, 261, 66, 262, 184, 185, 36, 186, 60, 354, 355, 356, 357, 196, 197, 198, 14, 199, 43, 200, 358, 359, 360, 361, 37, 183, 362, 234, 235, 236, 363, 364, 365, 366, 50, 47, 367, 368, 369, 370, 45, 44, 371, 372, 373, 374, 375, 376, 377, 124, 48, 378, 379, 380, 381, 382, 383, 384, 385, 386, 387, 388, 389, 390, 391, 392, 393, 394, 395, 396, 67, 397, 398, 399, 400, 68, 401, 316, 317, 318, 319, 320, 321, 322, 323, 402, 338, 339, 340, 69, 403, 342, 343, 344, 70, 404, 325, 326, 327, 405, 406, 407, 408, 409, 410, 23, 28, 411, 412, 413, 22, 414, 77, 415, 416, 417, 418, 27, 419, 83, 84, 420, 421, 422, 423, 424, 761, 762, 763, 764, 765, 766, 767, 768, 769, 792, 793, 794, 795, 796, 804, 784, 785, 786, 787, 788, 789, 790, 791, 797, 798, 799] (by decide +kernel) (by decide +kernel)
set_option maxRecDepth 20000 in
theorem gL_law_X6_penUp : GoodIn wsL_law (wsV RL 42 RX6 yX6_penUp wsX6_penUp) := goodIn_app (goodIn_of _ (by decide +kernel)) ggL_law_X6_penUp
set_option maxRecDepth 20000 in
theorem ggL_law_X7_penUp : GoodIn wsL_law wsX7_penUp := goodIn_r _ [428, 149, 104, 349, 101, 166, 100, 268, 269, 270, 5, 271, 99, 150, 151, 152, 429, 430, 431, 432, 102, 103, 106, 105, 300, 301, 302, 770, 771, 772, 773, 774, 775, 776, 777, 778, 779, 780, 781, 782, 783] (by decide +kernel) (by decide +kernel)
set_option maxRecDepth 20000 in
theorem gL_law_X7_penUp : GoodIn wsL_law (wsV RL 45 RX7 yX7_penUp wsX7_penUp) := goodIn_app (goodIn_of _ (by decide +kernel)) ggL_law_X7_penUp
set_option maxRecDepth 20000 in
theorem ggL_law_X6_undo : GoodIn wsL_law wsX6_undo := goodIn_r _ [436, 116, 179, 180, 181, 2, 182, 38, 117, 118, 119, 437, 438, 439, 440, 32, 15, 23, 201, 202, 203, 31, 204, 90, 91, 205, 206, 207, 208, 14, 209, 124, 210, 126, 127, 36, 128, 60, 211, 212, 213, 214, 215, 184, 185, 186, 216, 217, 218, 219, 48, 200, 220, 192, 193, 22, 194, 77, 195, 221, 222, 223, 224, 225, 226, 227, 228, 46, 229, 230, 231, 232, 44, 233, 234, 235, 236, 237, 238, 239, 240, 47, 241, 242, 243, 244, 92, 245, 246, 247, 248, 249, 250, 251, 252, 253, 196, 197, 198, 199, 43, 441, 371, 372, 442, 443, 444, 445, 446, 447, 336, 161, 354, 355, 356, 357, 358, 359, 360, 361, 37, 183, 362, 448, 449, 450, 451, 367, 368, 369, 370, 45, 373, 374, 375, 376, 377, 378, 379, 380, 381, 382, 383, 384, 385, 386, 387, 407, 408, 409, 410, 28, 411, 412, 413, 414, 415, 416, 417, 418, 27, 419, 83, 84, 420, 421, 422, 423, 424, 761, 762, 763, 764, 765, 766, 767, 768, 769, 800, 801, 802, 803, 784, 785, 786, 787, 788, 789, 790, 791, 804, 797, 798, 799] (by decide +kernel) (by decide +kernel)
set_option maxRecDepth 20000 in
theorem gL_law_X6_undo : GoodIn wsL_law (wsV RL 46 RX6 yX6_undo wsX6_undo) := goodIn_app (goodIn_of _ (by decide +kernel)) ggL_law_X6_undo
set_option maxRecDepth 20000 in
theorem ggL_law_X7_undo : GoodIn wsL_law wsX7_undo := goodIn_r _ [455, 149, 101, 349, 166, 268, 269, 270, 5, 271, 99, 150, 151, 152, 300, 301, 302, 280, 281, 282, 283, 284, 285, 286, 287, 103, 288, 289, 290, 291, 100, 292, 293, 294, 295, 296, 297, 298, 299, 303, 304, 305, 306, 429, 430, 431, 432, 102, 106, 105, 770, 771, 772, 773, 774, 775, 776, 777, 778, 779, 780, 781, 782, 783] (by decide +kernel) (by decide +kernel)
set_option maxRecDepth 20000 in
theorem gL_law_X7_undo : GoodIn wsL_law (wsV RL 49 RX7 yX7_undo wsX7_undo) := goodIn_app (goodIn_of _ (by decide +kernel)) ggL_law_X7_undo
set_option maxRecDepth 20000 in
theorem ggL_law_X6_redo : GoodIn wsL_law wsX6_redo := goodIn_r _ [459, 116, 179, 180, 181, 2, 182, 38, 117, 118, 119, 460, 461, 462, 463, 32, 15, 23, 201, 202, 203, 31, 204, 90, 91, 205, 206, 207, 208, 14, 209, 124, 210, 126, 127, 36, 128, 60, 211, 212, 213, 214, 215, 184, 185, 186, 216, 217, 218, 219, 48, 200, 220, 192, 193, 22, 194, 77, 195, 221, 222, 223, 224, 225, 226, 227, 228, 46, 229, 230, 231, 232, 44, 233, 234, 235, 236, 237, 238, 239, 240, 47, 241, 242, 243, 244, 92, 245, 246, 247, 248, 249, 250, 251, 252, 253, 196, 197, 198, 199, 43, 441, 371, 372, 464, 465, 443, 444, 445, 446, 447, 336, 161, 354, 355, 356, 357, 358, 359, 360, 361, 37, 183, 362, 448, 449, 450, 451, 367, 368, 369, 370, 45, 373, 374, 375, 376, 377, 378, 379, 380, 381, 382, 383, 384, 385, 386, 387, 407, 408, 409, 410, 28, 411, 412, 413, 414, 415, 416, 417, 418, 27, 419, 83, 84, 420, 421, 422, 423, 424, 761, 762, 763, 764, 765, 766, 767, 768, 769, 800, 801, 802, 803, 784, 785, 786, 787, 788, 789, 790, 791, 804, 797, 798, 799] (by decide +kernel) (by decide +kernel)
set_option maxRecDepth 20000 in
theorem gL_law_X6_redo : GoodIn wsL_law (wsV RL 50 RX6 yX6_redo wsX6_redo) := goodIn_app (goodIn_of _ (by decide +kernel)) ggL_law_X6_redo
set_option maxRecDepth 20000 in
theorem ggL_law_X7_redo : GoodIn wsL_law wsX7_redo := goodIn_r _ [469, 149, 101, 349, 166, 268, 269, 270, 5, 271, 99, 150, 151, 152, 300, 301, 302, 288, 289, 290, 291, 100, 296, 297, 298, 299, 280, 281, 282, 283, 284, 285, 286, 287, 103, 292, 293, 294, 295, 303, 304, 305, 306, 429, 430, 431, 432, 102, 106, 105, 770, 771, 772, 773, 774, 775, 776, 777, 778, 779, 780, 781, 782, 783] (by decide +kernel) (by decide +kernel)
set_option maxRecDepth 20000 in
theorem gL_law_X7_redo : GoodIn wsL_law (wsV RL 53 RX7 yX7_redo wsX7_redo) := goodIn_app (goodIn_of _ (by decide +kernel)) ggL_law_X7_redo
set_option maxRecDepth 20000 in
theorem ggL_law_X6_lift : GoodIn wsL_law wsX6_lift := goodIn_r _ [473, 116, 32, 15, 23, 336, 161, 179, 180, 181, 2, 182, 38, 117, 118, 119, 201, 202, 203, 31, 204, 90, 91, 205, 206, 207, 208, 14, 209, 124, 210, 126, 127, 36, 128, 60, 211, 212, 213, 214, 215, 184, 185, 186, 216, 217, 218, 219, 48, 200, 220, 192, 193, 22, 194, 77, 195, 221, 222, 223, 224, 225, 226, 227, 228, 46, 229, 230, 231, 232, 44, 233, 234, 235, 236, 237, 238, 239, 240, 47, 241, 242, 243, 244, 92, 245, 246, 247, 248, 249, 250, 251, 252, 253, 254, 255, 256, 257, 354, 355, 356, 357, 196, 197, 198, 199, 43, 358, 359, 360, 361, 37, 183, 362, 474, 475, 476, 477, 448, 449, 450, 451, 367, 368, 369, 370, 45, 371, 372, 373, 374, 375, 376, 377, 378, 379, 380, 381, 382, 383, 384, 385, 386, 387, 407, 408, 409, 410, 28, 411, 412, 413, 414, 415, 416, 417, 418, 27, 419, 83, 84, 420, 421, 422, 423, 424, 761, 762, 763, 764, 765, 766, 767, 768, 769, 800, 801, 802, 803, 784, 785, 786, 787, 788, 789, 790, 791, 804, 797, 798, 799] (by decide +kernel) (by decide +kernel)
set_option maxRecDepth 20000 in
theorem gL_law_X6_lift : GoodIn wsL_law (wsV RL 54 RX6 yX6_lift wsX6_lift) := goodIn_app (goodIn_of _ (by decide +kernel)) ggL_law_X6_lift
end
section
/-! The world of a system whose objects are all made at its start: a list of shapes; the state: what each int row and each int field holds. -/
abbrev St : Type := Nat → Nat → Int32
/-- .inl (n, k): an int row of n cells, held by row k of the state; .inr (ci, fs): an object of kind ci; a field .inl o: the object o; .inr k: the int at cell 0 of row k -/
abbrev sh_T : Type := (Nat × Nat) ⊕ (Nat × List (Nat ⊕ Nat))
def sh_v (ad : Nat → Nat) (σ : St) (x : Nat ⊕ Nat) : Value := match x with
  | .inl o => .ref (ad o)
  | .inr k => .int (σ k 0)
def sh_e (cA : ClassId) (ad : Nat → Nat) (σ : St) (x : sh_T) : va_E := match x with
  | .inl q => .inl (cA, (q.1, .inl (σ q.2)))
  | .inr q => .inr (q.1, q.2.map (sh_v ad σ))
def sh_w (cA : ClassId) (ad : Nat → Nat) (σ : St) (K : List sh_T) : va_W := K.zipIdx.map (fun q => (ad q.2, sh_e cA ad σ q.1))
theorem sh_get (cA : ClassId) (ad : Nat → Nat) (σ : St) (K : List sh_T) (o : Nat) : (sh_w cA ad σ K)[o]? = (K[o]?).map (fun x => (ad o, sh_e cA ad σ x)) := by
  unfold sh_w
  rw [List.getElem?_map, List.getElem?_zipIdx]
  cases K[o]? with
  | none => rfl
  | some x => simp
theorem sh_at {cA : ClassId} {ad : Nat → Nat} {σ : St} {K : List sh_T} {o : Nat} {x : sh_T} (h : K[o]? = some x) : (sh_w cA ad σ K)[o]? = some (ad o, sh_e cA ad σ x) := by rw [sh_get, h]; rfl
/-- which rows of the state a shape speaks of -/
def sh_u (x : sh_T) : List Nat := match x with
  | .inl q => [q.2]
  | .inr q => q.2.filterMap (fun y => match y with
    | .inl _ => none
    | .inr k => some k)
/-- each row of the state is spoken of by one shape alone -/
def sh_ok (K : List sh_T) : Prop := (List.range K.length).all (fun i => (List.range K.length).all (fun j => decide (i = j) || (sh_u (K.getD i (.inl (0, 0)))).all (fun k => decide (k ∉ sh_u (K.getD j (.inl (0, 0))))))) = true
theorem sh_apart {K : List sh_T} (hok : sh_ok K) {i j k : Nat} {x y : sh_T} (hi : K[i]? = some x) (hj : K[j]? = some y) (hij : i ≠ j) (hk : k ∈ sh_u x) : k ∉ sh_u y := by
  have li := (List.getElem?_eq_some_iff.mp hi).1
  have lj := (List.getElem?_eq_some_iff.mp hj).1
  have h1 := List.all_eq_true.mp (List.all_eq_true.mp hok i (List.mem_range.mpr li)) j (List.mem_range.mpr lj)
  rw [List.getD_eq_getElem?_getD, hi, List.getD_eq_getElem?_getD, hj] at h1
  rcases Bool.or_eq_true_iff.mp h1 with h | h
  · exact absurd (of_decide_eq_true h) hij
  · exact of_decide_eq_true (List.all_eq_true.mp h k hk)
/-- the state with one cell written -/
def ups (σ : St) (k i : Nat) (v : Int32) : St := fun k' => if k' = k then upd (σ k) i v else σ k'
theorem ups_at (σ : St) (k i : Nat) (v : Int32) (k' j : Nat) : ups σ k i v k' j = if k' = k ∧ j = i then v else σ k' j := by
  unfold ups upd
  by_cases h : k' = k
  · subst h
    by_cases h2 : j = i
    · simp [h2]
    · simp [h2]
  · simp [h]
theorem ups_row {σ : St} {k i : Nat} {v : Int32} {k' : Nat} (h : k' ≠ k) : ups σ k i v k' = σ k' := by unfold ups; rw [if_neg h]
theorem ups_same {σ : St} {k i : Nat} {v : Int32} : ups σ k i v k = upd (σ k) i v := by unfold ups; rw [if_pos rfl]
theorem sh_v_ne {ad : Nat → Nat} {σ : St} {k i : Nat} {v : Int32} {y : Nat ⊕ Nat} (h : y ≠ .inr k) : sh_v ad (ups σ k i v) y = sh_v ad σ y := by
  cases y with
  | inl o => rfl
  | inr k' =>
    show Value.int (ups σ k i v k' 0) = Value.int (σ k' 0)
    rw [ups_row (fun e => h (by rw [e]))]
theorem sh_e_ne {cA : ClassId} {ad : Nat → Nat} {σ : St} {k i : Nat} {v : Int32} {x : sh_T} (h : k ∉ sh_u x) : sh_e cA ad (ups σ k i v) x = sh_e cA ad σ x := by
  cases x with
  | inl q =>
    show (Sum.inl (cA, (q.1, Sum.inl (ups σ k i v q.2))) : va_E) = Sum.inl (cA, (q.1, Sum.inl (σ q.2)))
    rw [show ups σ k i v q.2 = σ q.2 from ups_row (fun e => h (by rw [← e]; exact List.mem_cons_self))]
  | inr q =>
    show (Sum.inr (q.1, q.2.map (sh_v ad (ups σ k i v))) : va_E) = Sum.inr (q.1, q.2.map (sh_v ad σ))
    rw [List.map_congr_left (fun y hy => sh_v_ne (fun e => h (by
      subst e
      exact List.mem_filterMap.mpr ⟨_, hy, rfl⟩)))]
theorem sh_put {K : List sh_T} (hok : sh_ok K) {cA : ClassId} {ad : Nat → Nat} {σ : St} {o k i : Nat} {v : Int32} {x : sh_T} {y : va_E} (ho : K[o]? = some x) (hk : k ∈ sh_u x) (hy : y = sh_e cA ad (ups σ k i v) x) : (sh_w cA ad σ K).set o (ad o, y) = sh_w cA ad (ups σ k i v) K := by
  subst hy
  apply List.ext_getElem?
  intro j
  have hl : o < (sh_w cA ad σ K).length := (List.getElem?_eq_some_iff.mp (sh_at ho)).1
  by_cases h : o = j
  · subst h
    rw [List.getElem?_set_self hl, sh_get, ho]
    rfl
  · rw [List.getElem?_set_ne h, sh_get, sh_get]
    cases hj : K[j]? with
    | none => rfl
    | some z =>
      show some (ad j, sh_e cA ad σ z) = some (ad j, sh_e cA ad (ups σ k i v) z)
      rw [sh_e_ne (sh_apart hok ho hj h hk)]
/-- the cells of a world are apart -/
def w_J (ad : Nat → Nat) (K : List sh_T) : Prop := ∀ i j, i < K.length → j < K.length → ad i = ad j → i = j
def w_A (ad : Nat → Nat) (K : List sh_T) : Nat → Prop := fun q => ∃ o, o < K.length ∧ q = ad o
theorem w_D {cA : ClassId} {ad : Nat → Nat} {K : List sh_T} (hJ : w_J ad K) (σ : St) : va_D (w_A ad K) (sh_w cA ad σ K) := by
  have key : ∀ (k : Nat) (q : Nat × va_E), (sh_w cA ad σ K)[k]? = some q → k < K.length ∧ q.1 = ad k := by
    intro k q h
    rw [sh_get] at h
    cases hk : K[k]? with
    | none => rw [hk] at h; cases h
    | some x =>
      rw [hk] at h
      cases h
      exact ⟨(List.getElem?_eq_some_iff.mp hk).1, rfl⟩
  refine ⟨fun i j p q hi hj hpq => ?_, fun k q h => ⟨k, (key k q h).1, (key k q h).2⟩⟩
  obtain ⟨h1, h2⟩ := key i p hi
  obtain ⟨h3, h4⟩ := key j q hj
  exact hJ i j h1 h3 (by rw [← h2, ← h4]; exact hpq)
def w_P (D : va_G) (cA : ClassId) (ad : Nat → Nat) (K : List sh_T) (σ : St) (H : Heap) : Prop := va_P D vwCl (sh_w cA ad σ K) H
/-- words that no list of words carries: links to private members of nest mates -/
def nw_l : List (String × Nat × MethodName) := [("StrokeBoard$Log", 68, yX6_idOf), ("StrokeBoard$Log", 84, yX6_authorOf), ("StrokeBoard$Knowledge", 42, yX6_authorOf), ("StrokeBoard$Knowledge", 45, yX6_numberOf), ("StrokeBoard$Knowledge", 48, yX6_idOf), ("StrokeBoard$Ink", 69, yX6_isWithin), ("StrokeBoard$Board", 89, yX6_authorOf), ("StrokeBoard$Board", 92, yX6_numberOf), ("StrokeBoard", 11, yX4_init), ("StrokeBoard", 27, yX2_init), ("StrokeBoard", 37, yX3_init), ("StrokeBoard", 44, yX0_init)]
def nf_l : List (String × Nat × String × String × String) := [("StrokeBoard$Board", 35, "StrokeBoard$Log", "layers", "LStrokeBoard$Row;"), ("StrokeBoard$Board", 95, "StrokeBoard$Log", "ink", "LStrokeBoard$Ink;"), ("StrokeBoard", 207, "StrokeBoard$Log", "ink", "LStrokeBoard$Ink;")]
def nw_K (U : State) : Prop := (∀ q ∈ nw_l, va_Nw (.methodLinkNest q.1 q.2.1 q.2.2 "StrokeBoard") U) ∧ ∀ q ∈ nf_l, va_Nw (.fieldLinkNest q.1 q.2.1 q.2.2.1 q.2.2.2.1 q.2.2.2.2 "StrokeBoard") U
theorem nw_K.warm {s U : State} (hW : s.WarmedH U.vm) (h : nw_K s) : nw_K U := ⟨fun q hq => va_Nw.warmM hW (h.1 q hq), fun q hq => va_Nw.warmF hW (h.2 q hq)⟩
theorem nw_K.same {s U : State} (hW : s.vm = U.vm) (h : nw_K s) : nw_K U := ⟨fun q hq => va_Nw.same rfl hW (h.1 q hq), fun q hq => va_Nw.same rfl hW (h.2 q hq)⟩
theorem nw_m {s : State} {args : Array Value} (h : nw_K s) (i : Nat) {a : String} {n : Nat} {y : MethodName} (hi : nw_l[i]? = some (a, n, y)) : va_Nw (.methodLinkNest a n y "StrokeBoard") s := h.1 _ (List.mem_of_getElem? hi)
theorem nw_f {s : State} {args : Array Value} (h : nw_K s) (i : Nat) {a : String} {n : Nat} {b x d : String} (hi : nf_l[i]? = some (a, n, b, x, d)) : (Cond.fieldLinkNest a n b x d "StrokeBoard").before args s = true := va_Nw.use rfl (h.2 _ (List.mem_of_getElem? hi))
def w_K (D : va_G) (cA : ClassId) (U : State) : Prop := va_K D vwCl [(cA, .int)] U ∧ nw_K U
def w_Pc (D : va_G) (cA : ClassId) (ad : Nat → Nat) (K : List sh_T) (av : List Value) (σ : St) : Array Value → State → Prop := va_Pc av (fun U => w_P D cA ad K σ U.heap ∧ w_K D cA U)
def w_B (D : va_G) (cA : ClassId) (ad : Nat → Nat) (K : List sh_T) : St → State → Prop := fun σ t => w_P D cA ad K σ t.heap
def w_Qi (D : va_G) (cA : ClassId) (ad : Nat → Nat) (K : List sh_T) (r : Int32) (σ' : St) : Array Value → State → Outcome → State → Prop := va_Qi (fun (r1 : Int32) (s1 : St) => r1 = r ∧ s1 = σ') (w_B D cA ad K) (w_A ad K)
def w_Qv (D : va_G) (cA : ClassId) (ad : Nat → Nat) (K : List sh_T) (σ' : St) : Array Value → State → Outcome → State → Prop := va_Qv (fun (s1 : St) => s1 = σ') (w_B D cA ad K) (w_A ad K)
abbrev rmZ (fr lo : Nat) : Room := { frames := fr, cells := 0, slots := 0, locals := lo }
/-- a method's contract: from the state σ it answers r, and the state is σ' -/
def Ct (l : Launch) (y : MethodName) (ws : List Cond) (fr lo : Nat) (D : va_G) (cA : ClassId) (ad : Nat → Nat) (K : List sh_T) (av : List Value) (σ : St) (r : Int32) (σ' : St) : Prop := Met l y ws (rmZ fr lo) (w_Pc D cA ad K av σ) (w_Qi D cA ad K r σ') 0 0 (w_A ad K)
def Cv (l : Launch) (y : MethodName) (ws : List Cond) (fr lo : Nat) (D : va_G) (cA : ClassId) (ad : Nat → Nat) (K : List sh_T) (av : List Value) (σ : St) (σ' : St) : Prop := Met l y ws (rmZ fr lo) (w_Pc D cA ad K av σ) (w_Qv D cA ad K σ') 0 0 (w_A ad K)
theorem w_blind {D : va_G} {cA : ClassId} {ad : Nat → Nat} {K : List sh_T} {av : List Value} {σ : St} : FrameBlind (w_Pc D cA ad K av σ) := fun a U g mk q => ⟨q.1, q.2.1, va_K.moved (u := U) (U := U.calling g mk a) (Vm.Alike.refl U.vm) q.2.2.1, nw_K.same (s := U) (U := U.calling g mk a) rfl q.2.2.2⟩
/-- what holds at a method's entry, besides its world -/
def w_Z (p : Program) (s : State) (m : MethodId) (args : Array Value) (meth : Method) (c : Code) (D : va_G) (cA : ClassId) (ad : Nat → Nat) (K : List sh_T) (own : String) (ws : List Cond) (cc : ByteArray) (maxL : Nat) (ret : Option FieldType) : Prop := p.tables.exec = Jvm.exec ∧ c.code = cc ∧ c.maxLocals = maxL ∧ s.vm.findClass own = some m.cls ∧ (∀ w ∈ ws, w.before args s = true) ∧ meth.sig.returnType = ret ∧ meth.locks = false ∧ w_K D cA s ∧ w_J ad K
abbrev Wm (p : Program) (l : Launch) (e : Env) (ws : List Cond) (fr lo : Nat) (s : State) (m : MethodId) (args : Array Value) (below : List Frame) (meth : Method) (c : Code) (Qc : Array Value → State → Outcome → State → Prop) (free : Addr → Prop) (H : Heap) (locs : List Loc) (g : JFrame) : Prop := W p l e (headSpec ws (rmZ fr lo)).room s m args below meth c H locs 0 0 (MQ below Qc args s 0 0 free) g
theorem Met_of {l : Launch} {y : MethodName} {ws ws' : List Cond} {fr lo : Nat} {D : va_G} {cA : ClassId} {ad : Nat → Nat} {K : List sh_T} {av : List Value} {σ : St} {Qc : Array Value → State → Outcome → State → Prop} {cc : ByteArray} {maxL : Nat} {ret : Option FieldType} (hJ : w_J ad K) (hy : plainName y.cls = true) (hw : ws = Cond.code y cc maxL ret :: ws') (hn : (lg_sl av).length ≤ maxL)
    (body : ∀ (p : Program) (e : Env) (s : State) (m : MethodId) (below : List Frame) (meth : Method) (c : Code), w_Z p s m av.toArray meth c D cA ad K y.cls ws cc maxL ret → ∀ (H : Heap) (locs : List Loc) (ls : Array Slot), w_P D cA ad K σ H → va_S (w_A ad K) s.heap H locs → lv_has ls maxL (lv_args 0 av) → Wm p l e ws fr lo s m av.toArray below meth c Qc (w_A ad K) H locs (F0 m 0 ls [])) : Met l y ws (rmZ fr lo) (w_Pc D cA ad K av σ) Qc 0 0 (w_A ad K) := by
  refine Met.ofW (cc := cc) (maxL := maxL) (ret := ret) hy hw ?_
  intro p e s m args below meth c s₁ B hml hv
  obtain ⟨rfl, hP, hK⟩ := hv
  have hl := lv_entry av (n := maxL) hn
  rw [lg_entry_eq]
  exact body p e s m below meth c ⟨B.exec, B.bytes, hml, findClass_of_methodNamed B.named, atoms_spec (ws := ws) B.pre, B.returns, B.notSynchronized, hK, hJ⟩ s.heap [] _ hP va_S.rf hl
section WR
variable {p : Program} {l : Launch} {e : Env} {R : Room} {s : State} {m : MethodId} {args : Array Value} {below : List Frame} {meth : Method} {c : Code} {H : Heap} {locs : List Loc} {cells slots : Nat} {Q : State → Prop} {cc : ByteArray} {pc : Nat} {ls : Array Slot} {rest : List Value} {D : va_G} {cA : ClassId} {ad : Nat → Nat} {K : List sh_T} {σ σ' : St} {H0 : Heap}
theorem x_getr {own C : String} {T : u_T} {N ci index : Nat} {Ts : List Cond} {fs : List (Nat ⊕ Nat)} {o o' : Nat} (hx : p.tables.exec = Jvm.exec) (hb : c.code = cc) (hts : ∀ w ∈ Ts, w.before args s = true) (hin : ∀ w ∈ u_ws C T N, w ∈ Ts) (hown : s.vm.findClass own = some m.cls) (hK : w_K D cA s) (hP : w_P D cA ad K σ H) (hs : K[o]? = some (.inr (ci, fs))) (hc : vwCl[ci]? = some (C, T, N)) (j : Nat) (hj : j < N) (hlink : (Cond.fieldLink own index (T j).1 (T j).2.1 (T j).2.2.1).before args s = true) (hv : fs[j]? = some (.inl o')) (hdg : decode cc pc = .ok (.getfield index, 3))
    (kk : W p l e R s m args below meth c H locs cells slots Q (F0 m (pc + 3) ls (.ref (ad o') :: rest))) : W p l e R s m args below meth c H locs cells slots Q (F0 m pc ls (.ref (ad o) :: rest)) :=
  va_get (D := D) (ci := ci) (v := .ref (ad o')) (C := C) (T := T) (N := N) (fs := fs.map (sh_v ad σ)) hx hb hts hin hown hK.1 hP o (sh_at hs) hc j hj hlink (fun _ h9 => h9) (by rw [List.getElem?_map, hv]; rfl) hdg kk
theorem x_getrN {own C host : String} {T : u_T} {N ci index : Nat} {Ts : List Cond} {fs : List (Nat ⊕ Nat)} {o o' : Nat} (hx : p.tables.exec = Jvm.exec) (hb : c.code = cc) (hts : ∀ w ∈ Ts, w.before args s = true) (hin : ∀ w ∈ u_ws C T N, w ∈ Ts) (hown : s.vm.findClass own = some m.cls) (hK : w_K D cA s) (hP : w_P D cA ad K σ H) (hs : K[o]? = some (.inr (ci, fs))) (hc : vwCl[ci]? = some (C, T, N)) (j : Nat) (hj : j < N) (hlink : (Cond.fieldLinkNest own index (T j).1 (T j).2.1 (T j).2.2.1 host).before args s = true) (hv : fs[j]? = some (.inl o')) (hdg : decode cc pc = .ok (.getfield index, 3))
    (kk : W p l e R s m args below meth c H locs cells slots Q (F0 m (pc + 3) ls (.ref (ad o') :: rest))) : W p l e R s m args below meth c H locs cells slots Q (F0 m pc ls (.ref (ad o) :: rest)) :=
  va_getN (D := D) (ci := ci) (v := .ref (ad o')) (C := C) (T := T) (N := N) (fs := fs.map (sh_v ad σ)) hx hb hts hin hown hK.1 hP o (sh_at hs) hc j hj hlink (fun _ h9 => h9) (by rw [List.getElem?_map, hv]; rfl) hdg kk
theorem x_geti {own C : String} {T : u_T} {N ci index : Nat} {Ts : List Cond} {fs : List (Nat ⊕ Nat)} {o k : Nat} (hx : p.tables.exec = Jvm.exec) (hb : c.code = cc) (hts : ∀ w ∈ Ts, w.before args s = true) (hin : ∀ w ∈ u_ws C T N, w ∈ Ts) (hown : s.vm.findClass own = some m.cls) (hK : w_K D cA s) (hP : w_P D cA ad K σ H) (hs : K[o]? = some (.inr (ci, fs))) (hc : vwCl[ci]? = some (C, T, N)) (j : Nat) (hj : j < N) (hlink : (Cond.fieldLink own index (T j).1 (T j).2.1 (T j).2.2.1).before args s = true) (hv : fs[j]? = some (.inr k)) (hdg : decode cc pc = .ok (.getfield index, 3))
    (kk : W p l e R s m args below meth c H locs cells slots Q (F0 m (pc + 3) ls (.int (σ k 0) :: rest))) : W p l e R s m args below meth c H locs cells slots Q (F0 m pc ls (.ref (ad o) :: rest)) :=
  va_get (D := D) (ci := ci) (v := .int (σ k 0)) (C := C) (T := T) (N := N) (fs := fs.map (sh_v ad σ)) hx hb hts hin hown hK.1 hP o (sh_at hs) hc j hj hlink (fun _ h9 => h9) (by rw [List.getElem?_map, hv]; rfl) hdg kk
theorem x_puti {own C : String} {T : u_T} {N ci index : Nat} {Ts : List Cond} {fs : List (Nat ⊕ Nat)} {o k : Nat} {v : Int32} (hx : p.tables.exec = Jvm.exec) (hb : c.code = cc) (hok : sh_ok K) (hJ : w_J ad K) (hts : ∀ w ∈ Ts, w.before args s = true) (hin : ∀ w ∈ u_ws C T N, w ∈ Ts) (ty0 : Nat → FieldType) (hty : ∀ k, k < N → parseFieldDescriptor (T k).2.2.1 = some (ty0 k)) (hnm : ∀ a, a < N → ∀ b, b < N → a ≠ b → (T a).2.1 ≠ (T b).2.1) (hown : s.vm.findClass own = some m.cls) (hK : w_K D cA s) (hP : w_P D cA ad K σ H) (hS : va_S (w_A ad K) H0 H locs) (hs : K[o]? = some (.inr (ci, fs))) (hc : vwCl[ci]? = some (C, T, N)) (j : Nat) (hj : j < N) (hlink : (Cond.fieldLink own index (T j).1 (T j).2.1 (T j).2.2.1).before args s = true) (hv : fs[j]? = some (.inr k)) (hone : (fs.set j (.inl 0)).all (fun y => decide (y ≠ .inr k)) = true) (hfin : (T j).2.2.2 = false) (hd : parseFieldDescriptor (T j).2.2.1 = some .int) (hdg : decode cc pc = .ok (.putfield index, 3))
    (kk : ∀ (H : Heap) (locs : List Loc), w_P D cA ad K (ups σ k 0 v) H → va_S (w_A ad K) H0 H locs → W p l e R s m args below meth c H locs cells slots Q (F0 m (pc + 3) ls rest)) : W p l e R s m args below meth c H locs cells slots Q (F0 m pc ls (.int v :: .ref (ad o) :: rest)) := by
  have hl := (List.getElem?_eq_some_iff.mp hv).1
  refine va_put (D := D) (ci := ci) (v := .int v) (ty := .int) (C := C) (T := T) (N := N) (fs := fs.map (sh_v ad σ)) hx hb hts hin ty0 hty hnm hown hK.1 hP (w_D hJ σ) hS o (sh_at hs) hc j hj hlink (fun _ h9 => h9) hfin hd rfl rfl (by rw [List.length_map]; exact hl) hdg (fun H1 locs1 hP1 _ hS1 => kk H1 locs1 ?_ hS1)
  have hu : k ∈ sh_u (.inr (ci, fs) : sh_T) := List.mem_filterMap.mpr ⟨_, List.mem_of_getElem? hv, rfl⟩
  have e := sh_put (cA := cA) (ad := ad) (σ := σ) (i := 0) (v := v) (y := .inr (ci, (fs.map (sh_v ad σ)).set j (.int v))) hok hs hu (by
    show (Sum.inr (ci, (fs.map (sh_v ad σ)).set j (.int v)) : va_E) = Sum.inr (ci, fs.map (sh_v ad (ups σ k 0 v)))
    congr 2
    apply List.ext_getElem?
    intro i
    by_cases h : j = i
    · subst h
      rw [List.getElem?_set_self (by rw [List.length_map]; exact hl), List.getElem?_map, hv]
      show some (Value.int v) = some (Value.int (ups σ k 0 v k 0))
      rw [ups_at, if_pos ⟨rfl, rfl⟩]
    · rw [List.getElem?_set_ne h, List.getElem?_map, List.getElem?_map]
      cases hi : fs[i]? with
      | none => rfl
      | some y =>
        show some (sh_v ad σ y) = some (sh_v ad (ups σ k 0 v) y)
        rw [sh_v_ne]
        have h9 := List.all_eq_true.mp hone y (List.mem_of_getElem? (i := i) (by rw [List.getElem?_set_ne h]; exact hi))
        exact of_decide_eq_true h9)
  rw [e] at hP1
  exact hP1
theorem x_iald {o n k : Nat} {i : Int32} (hx : p.tables.exec = Jvm.exec) (hb : c.code = cc) (hK : w_K D cA s) (hP : w_P D cA ad K σ H) (hs : K[o]? = some (.inl (n, k))) (hin : vp_in i n) (hdg : decode cc pc = .ok (.iaload, 1))
    (kk : W p l e R s m args below meth c H locs cells slots Q (F0 m (pc + 1) ls (.int (σ k i.toNatClampNeg) :: rest))) : W p l e R s m args below meth c H locs cells slots Q (F0 m pc ls (.int i :: .ref (ad o) :: rest)) :=
  va_iald (D := D) hx hb hK.1 hP o 0 (f := σ k) (n := n) (sh_at hs) rfl hin hdg kk
theorem x_iast {o n k : Nat} {i v : Int32} (hx : p.tables.exec = Jvm.exec) (hb : c.code = cc) (hok : sh_ok K) (hJ : w_J ad K) (hK : w_K D cA s) (hP : w_P D cA ad K σ H) (hS : va_S (w_A ad K) H0 H locs) (hs : K[o]? = some (.inl (n, k))) (hin : vp_in i n) (hdg : decode cc pc = .ok (.iastore, 1))
    (kk : ∀ (H : Heap) (locs : List Loc), w_P D cA ad K (ups σ k i.toNatClampNeg v) H → va_S (w_A ad K) H0 H locs → W p l e R s m args below meth c H locs cells slots Q (F0 m (pc + 1) ls rest)) : W p l e R s m args below meth c H locs cells slots Q (F0 m pc ls (.int v :: .int i :: .ref (ad o) :: rest)) := by
  refine va_iast (D := D) hx hb hK.1 hP (w_D hJ σ) hS o 0 (f := σ k) (n := n) (sh_at hs) rfl hin hdg (fun H1 locs1 hP1 _ hS1 => kk H1 locs1 ?_ hS1)
  have e := sh_put (cA := cA) (ad := ad) (σ := σ) (k := k) (i := i.toNatClampNeg) (v := v) (y := .inl (cA, (n, .inl (upd (σ k) i.toNatClampNeg v)))) hok hs (List.mem_cons_self) (by
    show _ = (Sum.inl (cA, (n, .inl (ups σ k i.toNatClampNeg v k))) : va_E)
    rw [ups_same])
  rw [e] at hP1
  exact hP1
theorem x_alen {o n k : Nat} (hx : p.tables.exec = Jvm.exec) (hb : c.code = cc) (hK : w_K D cA s) (hP : w_P D cA ad K σ H) (hs : K[o]? = some (.inl (n, k))) (hdg : decode cc pc = .ok (.arraylength, 1))
    (kk : W p l e R s m args below meth c H locs cells slots Q (F0 m (pc + 1) ls (.int (nI n) :: rest))) : W p l e R s m args below meth c H locs cells slots Q (F0 m pc ls (.ref (ad o) :: rest)) :=
  va_alen (D := D) hx hb hK.1 hP o 0 (sh_at hs) rfl (v := nI n) rfl hdg kk
theorem w_start {av : List Value} (hK : w_K D cA s) (hP : w_P D cA ad K σ H) : ∀ U : State, U.heap = H → s.WarmedH U.vm → w_Pc D cA ad K av σ av.toArray U := fun U hU hW => ⟨rfl, by rw [hU]; exact hP, va_K.moved hW.alike hK.1, hK.2.warm hW⟩
section WC
variable {A0 : Nat → Prop} {nL index n maxL fr lo o ci N : Nat} {own C : String} {T : u_T} {fs : List (Nat ⊕ Nat)} {Ts ws : List Cond} {bytes : ByteArray} {ret : Option FieldType} {y : MethodName} {As st : List Value} {r : Int32} {hh : String}
theorem x_callV (hA : ∀ q, w_A ad K q → A0 q) (S : CallFix p m c cc nL s args Ts own) (hM : Ct l y ws fr lo D cA ad K (.ref (ad o) :: As) σ r σ') (cw : CallW R s args own C index y bytes maxL ret ws (rmZ fr lo) 0 0 n) (hK : w_K D cA s) (hP : w_P D cA ad K σ H) (hS : va_S A0 H0 H locs) (hs : K[o]? = some (.inr (ci, fs))) (hc : vwCl[ci]? = some (C, T, N)) (hn : As.length = n) (hsize : ls.size = nL) (hst : st = As.reverse ++ .ref (ad o) :: rest) (hW : (rest.map fun v => v.category).sum ≤ 8) (hf : cells ≤ R.cells ∧ slots ≤ R.slots) (hdg : decode cc pc = .ok (.invokevirtual index, 3))
    (kk : ∀ (H1 : Heap) (locs : List Loc), w_P D cA ad K σ' H1 → va_S A0 H0 H1 locs → H.size ≤ H1.size → (∀ q : Nat, q < H.size → ¬ w_A ad K q → H1[q]? = H[q]?) → W p l e R s m args below meth c H1 locs cells slots Q (F0 m (pc + 3) ls (.int r :: rest))) : W p l e R s m args below meth c H locs cells slots Q (F0 m pc ls st) := by
  subst hst
  refine va_calli (va_runV (As := As) (rest := rest) (g := F0 m pc ls (As.reverse ++ .ref (ad o) :: rest)) S hM cw ⟨w_blind, va_recv hK.1 hP (ci := ci) (q0 := o) hc (sh_at hs), w_start hK hP⟩ rfl hn hsize rfl (lv_room hW) hdg hf) hS (fun q _ h => hA q h) hA (fun r1 u t H1 locs1 ht _ hw hB hz hk hS1 => ?_)
  obtain ⟨rfl, rfl⟩ := hw
  exact kk H1 locs1 (by rw [← ht]; exact hB) hS1 hz hk
theorem x_callVv (hA : ∀ q, w_A ad K q → A0 q) (S : CallFix p m c cc nL s args Ts own) (hM : Cv l y ws fr lo D cA ad K (.ref (ad o) :: As) σ σ') (cw : CallW R s args own C index y bytes maxL ret ws (rmZ fr lo) 0 0 n) (hK : w_K D cA s) (hP : w_P D cA ad K σ H) (hS : va_S A0 H0 H locs) (hs : K[o]? = some (.inr (ci, fs))) (hc : vwCl[ci]? = some (C, T, N)) (hn : As.length = n) (hsize : ls.size = nL) (hst : st = As.reverse ++ .ref (ad o) :: rest) (hW : (rest.map fun v => v.category).sum ≤ 8) (hf : cells ≤ R.cells ∧ slots ≤ R.slots) (hdg : decode cc pc = .ok (.invokevirtual index, 3))
    (kk : ∀ (H1 : Heap) (locs : List Loc), w_P D cA ad K σ' H1 → va_S A0 H0 H1 locs → H.size ≤ H1.size → (∀ q : Nat, q < H.size → ¬ w_A ad K q → H1[q]? = H[q]?) → W p l e R s m args below meth c H1 locs cells slots Q (F0 m (pc + 3) ls rest)) : W p l e R s m args below meth c H locs cells slots Q (F0 m pc ls st) := by
  subst hst
  refine va_callv (va_runV (As := As) (rest := rest) (g := F0 m pc ls (As.reverse ++ .ref (ad o) :: rest)) S hM cw ⟨w_blind, va_recv hK.1 hP (ci := ci) (q0 := o) hc (sh_at hs), w_start hK hP⟩ rfl hn hsize rfl (lv_room hW) hdg hf) hS (fun q _ h => hA q h) hA (fun u t H1 locs1 ht _ hw hB hz hk hS1 => ?_)
  obtain rfl := hw
  exact kk H1 locs1 (by rw [← ht]; exact hB) hS1 hz hk
theorem x_callS (hA : ∀ q, w_A ad K q → A0 q) (S : CallFix p m c cc nL s args Ts own) (hM : Ct l y ws fr lo D cA ad K As σ r σ') (cw : CallB R s args own index y bytes maxL ret ws (rmZ fr lo) 0 0 n ∧ (Cond.static y).before args s = true) (hK : w_K D cA s) (hP : w_P D cA ad K σ H) (hS : va_S A0 H0 H locs) (hn : As.length = n) (hsize : ls.size = nL) (hst : st = As.reverse ++ rest) (hW : (rest.map fun v => v.category).sum ≤ 8) (hf : cells ≤ R.cells ∧ slots ≤ R.slots) (hdg : decode cc pc = .ok (.invokestatic index, 3))
    (kk : ∀ (H1 : Heap) (locs : List Loc), w_P D cA ad K σ' H1 → va_S A0 H0 H1 locs → W p l e R s m args below meth c H1 locs cells slots Q (F0 m (pc + 3) ls (.int r :: rest))) : W p l e R s m args below meth c H locs cells slots Q (F0 m pc ls st) := by
  subst hst
  refine va_calli (va_runS (As := As) (rest := rest) (g := F0 m pc ls (As.reverse ++ rest)) S hM cw ⟨w_blind, w_start hK hP⟩ rfl hn hsize rfl (lv_room hW) hdg hf) hS (fun q _ h => hA q h) hA (fun r1 u t H1 locs1 ht _ hw hB hz hk hS1 => ?_)
  obtain ⟨rfl, rfl⟩ := hw
  exact kk H1 locs1 (by rw [← ht]; exact hB) hS1
theorem x_callSN (hA : ∀ q, w_A ad K q → A0 q) (S : CallFix p m c cc nL s args Ts own) (hM : Ct l y ws fr lo D cA ad K As σ r σ') (cw : va_CN R s args own index y hh bytes maxL ret ws (rmZ fr lo) 0 0 n ∧ (Cond.static y).before args s = true ∧ True) (hK : w_K D cA s) (hP : w_P D cA ad K σ H) (hS : va_S A0 H0 H locs) (hn : As.length = n) (hsize : ls.size = nL) (hst : st = As.reverse ++ rest) (hW : (rest.map fun v => v.category).sum ≤ 8) (hf : cells ≤ R.cells ∧ slots ≤ R.slots) (hdg : decode cc pc = .ok (.invokestatic index, 3))
    (kk : ∀ (H1 : Heap) (locs : List Loc), w_P D cA ad K σ' H1 → va_S A0 H0 H1 locs → W p l e R s m args below meth c H1 locs cells slots Q (F0 m (pc + 3) ls (.int r :: rest))) : W p l e R s m args below meth c H locs cells slots Q (F0 m pc ls st) := by
  subst hst
  refine va_calli (va_runSN (As := As) (rest := rest) (g := F0 m pc ls (As.reverse ++ rest)) S hM cw ⟨w_blind, w_start hK hP⟩ rfl hn hsize rfl (lv_room hW) hdg hf) hS (fun q _ h => hA q h) hA (fun r1 u t H1 locs1 ht _ hw hB hz hk hS1 => ?_)
  obtain ⟨rfl, rfl⟩ := hw
  exact kk H1 locs1 (by rw [← ht]; exact hB) hS1
end WC
section WE
variable {r v : Int32} {st0 : State}
theorem x_iret (hx : p.tables.exec = Jvm.exec) (hb : c.code = cc) (hr : meth.sig.returnType = some .int) (hlocks : meth.locks = false) (hP : w_P D cA ad K σ H) (hS : va_S (w_A ad K) s.heap H locs) (hM : some (v, σ) = some (r, σ')) (hdg : decode cc pc = .ok (.ireturn, 1)) : W p l e R s m args below meth c H locs cells slots (MQ below (w_Qi D cA ad K r σ') args s cells slots (w_A ad K)) (F0 m pc ls [.int v]) :=
  W.iret (v := v) hx hb hr (fun t ht hW => ⟨⟨v, σ, rfl, Prod.mk.inj (Option.some.inj hM), by show w_P D cA ad K σ t.heap; rw [ht]; exact hP⟩, hS.F ht⟩) hS.2.2 hdg hlocks
/-- what a method of boolean type may answer -/
def rz (v : Int32) (σ : St) : Option (Int32 × St) := if v = 0 ∨ v = 1 then some (v, σ) else none
theorem rz_0 (σ : St) : rz 0 σ = some (0, σ) := rfl
theorem rz_1 (σ : St) : rz 1 σ = some (1, σ) := rfl
theorem rz_i (h : rz v σ = some (r, σ')) : (v = 0 ∨ v = 1) ∧ v = r ∧ σ = σ' := by
  unfold rz at h
  by_cases h1 : v = 0 ∨ v = 1
  · rw [if_pos h1] at h
    exact ⟨h1, Prod.mk.inj (Option.some.inj h)⟩
  · rw [if_neg h1] at h
    cases h
theorem x_zret (hx : p.tables.exec = Jvm.exec) (hb : c.code = cc) (hr : meth.sig.returnType = some .boolean) (hlocks : meth.locks = false) (hP : w_P D cA ad K σ H) (hS : va_S (w_A ad K) s.heap H locs) (hM : rz v σ = some (r, σ')) (hdg : decode cc pc = .ok (.ireturn, 1)) : W p l e R s m args below meth c H locs cells slots (MQ below (w_Qi D cA ad K r σ') args s cells slots (w_A ad K)) (F0 m pc ls [.int v]) := by
  obtain ⟨h, e⟩ := rz_i hM
  exact W.zret (v := v) hx hb hr (by rcases h with h | h <;> rw [h] <;> rfl) (fun t ht hW => ⟨⟨v, σ, rfl, e, by show w_P D cA ad K σ t.heap; rw [ht]; exact hP⟩, hS.F ht⟩) hS.2.2 hdg hlocks
theorem x_vret (hx : p.tables.exec = Jvm.exec) (hb : c.code = cc) (hr : meth.sig.returnType = none) (hlocks : meth.locks = false) (hP : w_P D cA ad K σ H) (hS : va_S (w_A ad K) s.heap H locs) (hM : some σ = some σ') (hdg : decode cc pc = .ok (.return_, 1)) : W p l e R s m args below meth c H locs cells slots (MQ below (w_Qv D cA ad K σ') args s cells slots (w_A ad K)) (F0 m pc ls []) :=
  W.vret hx hb hr (fun t ht hW => ⟨⟨σ, rfl, Option.some.inj hM, by show w_P D cA ad K σ t.heap; rw [ht]; exact hP⟩, hS.F ht⟩) hS.2.2 hdg hlocks
end WE
end WR
/-- an answer and the state behind it go on -/
def bnd {β : Type} (o : Option (Int32 × St)) (f : Int32 → St → Option β) : Option β := match o with
  | none => none
  | some q => f q.1 q.2
def bnv {β : Type} (o : Option St) (f : St → Option β) : Option β := match o with
  | none => none
  | some q => f q
theorem bnd_i {β : Type} {o : Option (Int32 × St)} {f : Int32 → St → Option β} {y : β} (h : bnd o f = some y) : ∃ (a : Int32) (b : St), o = some (a, b) ∧ f a b = some y := by
  cases o with
  | none => cases h
  | some q => exact ⟨q.1, q.2, rfl, h⟩
theorem bnv_i {β : Type} {o : Option St} {f : St → Option β} {y : β} (h : bnv o f = some y) : ∃ b : St, o = some b ∧ f b = some y := by
  cases o with
  | none => cases h
  | some q => exact ⟨q, rfl, h⟩
theorem bnd_s {β : Type} {a : Int32} {b : St} {f : Int32 → St → Option β} : bnd (some (a, b)) f = f a b := rfl
theorem bnv_s {β : Type} {b : St} {f : St → Option β} : bnv (some b) f = f b := rfl
/-- an index that must be within -/
def ix {β : Type} (i : Int32) (n : Nat) (x : Option β) : Option β := if i < 0 ∨ n ≤ i.toNatClampNeg then none else x
theorem ix_i {β : Type} {i : Int32} {n : Nat} {x : Option β} {y : β} (h : ix i n x = some y) : vp_in i n ∧ x = some y := by
  unfold ix at h
  by_cases h1 : i < 0 ∨ n ≤ i.toNatClampNeg
  · rw [if_pos h1] at h; cases h
  · rw [if_neg h1] at h; exact ⟨h1, h⟩
theorem ix_n {β : Type} {i n : Nat} {x : Option β} (h : i < n) (hn : n < 2 ^ 31) : ix (nI i) n x = x := by
  unfold ix
  rw [if_neg (nI_in h hn)]
theorem x_tab {x : Int32} (n : Nat) (lo : Int) (hn : (lo + n).toNat < 2 ^ 31) (h0 : 0 ≤ lo) (h : ∀ k, k < n → x ≠ Int32.ofInt (lo + k)) : x.toInt < lo ∨ lo + n - 1 < x.toInt := by
  by_cases h1 : x.toInt < lo
  · exact Or.inl h1
  · by_cases h2 : lo + n - 1 < x.toInt
    · exact Or.inr h2
    · exfalso
      refine h (x.toInt - lo).toNat (by omega) ?_
      rw [show lo + ((x.toInt - lo).toNat : Int) = x.toInt by omega, Int32.ofInt_toInt]
/-- how long a loop may go on -/
def fu : Nat := 4000
end
section
/-! The shapes of the class's objects (KC) and of the reference's (KM). -/
def KC_rows : List Nat := [5, 100, 100, 100, 100, 100, 100, 100, 100, 800, 800, 5, 5, 5, 40, 40, 500, 500, 25, 250, 100, 100, 100, 100, 100, 100, 5]
/-- how many cells the class's row k has -/
def rl (k : Nat) : Nat := KC_rows.getD k 0
def KC_row2 (k : Nat) : List sh_T := [.inr (5, [.inl (2 * k + 1)]), .inl (rl k, k)]
def KC : List sh_T := (List.range 27).flatMap KC_row2 ++ [.inr (4, [.inl (2 * 0), .inl (2 * 1), .inl (2 * 2), .inl (2 * 3), .inl (2 * 4), .inl (2 * 5), .inl 55, .inr 28]), .inr (1, [.inl 12, .inl 14, .inl 16, .inl 18, .inl 20]), .inr (1, [.inl 22, .inl 24, .inl 26, .inl 28, .inl 30]), .inr (2, [.inl 32]), .inr (2, [.inl 34]), .inr (3, [.inl 36, .inl 38]), .inr (0, [.inl 40, .inl 42, .inl 44, .inr 29]), .inr (0, [.inl 46, .inl 48, .inl 50, .inr 30]), .inr (6, [.inl 54, .inl 56, .inl 57, .inl 58, .inl 59, .inl 60, .inl 61, .inl 52, .inr 27])]
theorem KC_len : KC.length = 63 := by decide +kernel
theorem KC_ok : sh_ok KC := by unfold sh_ok; decide +kernel
theorem KC_row : ∀ k, k < 27 → KC[2 * k]? = some (.inr (5, [.inl (2 * k + 1)])) := fun k hk => by
  rcases (show k = 0 ∨ k = 1 ∨ k = 2 ∨ k = 3 ∨ k = 4 ∨ k = 5 ∨ k = 6 ∨ k = 7 ∨ k = 8 ∨ k = 9 ∨ k = 10 ∨ k = 11 ∨ k = 12 ∨ k = 13 ∨ k = 14 ∨ k = 15 ∨ k = 16 ∨ k = 17 ∨ k = 18 ∨ k = 19 ∨ k = 20 ∨ k = 21 ∨ k = 22 ∨ k = 23 ∨ k = 24 ∨ k = 25 ∨ k = 26 by omega) with rfl | rfl | rfl | rfl | rfl | rfl | rfl | rfl | rfl | rfl | rfl | rfl | rfl | rfl | rfl | rfl | rfl | rfl | rfl | rfl | rfl | rfl | rfl | rfl | rfl | rfl | rfl <;> rfl
theorem KC_arr : ∀ k, k < 27 → KC[2 * k + 1]? = some (.inl (rl k, k)) := fun k hk => by
  rcases (show k = 0 ∨ k = 1 ∨ k = 2 ∨ k = 3 ∨ k = 4 ∨ k = 5 ∨ k = 6 ∨ k = 7 ∨ k = 8 ∨ k = 9 ∨ k = 10 ∨ k = 11 ∨ k = 12 ∨ k = 13 ∨ k = 14 ∨ k = 15 ∨ k = 16 ∨ k = 17 ∨ k = 18 ∨ k = 19 ∨ k = 20 ∨ k = 21 ∨ k = 22 ∨ k = 23 ∨ k = 24 ∨ k = 25 ∨ k = 26 by omega) with rfl | rfl | rfl | rfl | rfl | rfl | rfl | rfl | rfl | rfl | rfl | rfl | rfl | rfl | rfl | rfl | rfl | rfl | rfl | rfl | rfl | rfl | rfl | rfl | rfl | rfl | rfl <;> rfl
theorem KC_log : KC[54]? = some (.inr (4, [.inl (2 * 0), .inl (2 * 1), .inl (2 * 2), .inl (2 * 3), .inl (2 * 4), .inl (2 * 5), .inl (55 + 0), .inr 28])) := by decide +kernel
theorem KC_ink : ∀ t, t < 2 → KC[55 + t]? = some (.inr (1, [.inl (2 * (6 + 5 * t)), .inl (2 * (7 + 5 * t)), .inl (2 * (8 + 5 * t)), .inl (2 * (9 + 5 * t)), .inl (2 * (10 + 5 * t))])) := fun t ht => by
  rcases (show t = 0 ∨ t = 1 by omega) with rfl | rfl <;> rfl
theorem KC_kno : ∀ g, g < 2 → KC[57 + g]? = some (.inr (2, [.inl (2 * (16 + g))])) := fun g hg => by
  rcases (show g = 0 ∨ g = 1 by omega) with rfl | rfl <;> rfl
theorem KC_lnk : KC[59]? = some (.inr (3, [.inl (2 * 18), .inl (2 * 19)])) := by decide +kernel
theorem KC_brd : ∀ b, b < 2 → KC[60 + b]? = some (.inr (0, [.inl (2 * (20 + 3 * b)), .inl (2 * (21 + 3 * b)), .inl (2 * (22 + 3 * b)), .inr (29 + b)])) := fun b hb => by
  rcases (show b = 0 ∨ b = 1 by omega) with rfl | rfl <;> rfl
theorem KC_sb : KC[62]? = some (.inr (6, [.inl 54, .inl (55 + 1), .inl (57 + 0), .inl (57 + 1), .inl 59, .inl (60 + 0), .inl (60 + 1), .inl (2 * 26), .inr 27])) := by decide +kernel
def KM : List sh_T := [.inr (7, [.inr 12, .inl 1, .inl 2, .inl 3, .inl 4, .inl 5, .inl 6, .inl 7, .inl 8, .inl 9, .inr 13, .inl 10, .inl 11, .inl 12]), .inl (2100, 0), .inl (5, 1), .inl (5, 2), .inl (500, 3), .inl (95, 4), .inl (250, 5), .inl (25, 6), .inl (100, 7), .inl (100, 8), .inl (100, 9), .inl (100, 10), .inl (500, 11)]
theorem KM_len : KM.length = 13 := by decide +kernel
theorem KM_ok : sh_ok KM := by unfold sh_ok; decide +kernel
theorem KM_obj : KM[0]? = some (.inr (7, [.inr 12, .inl 1, .inl 2, .inl 3, .inl 4, .inl 5, .inl 6, .inl 7, .inl 8, .inl 9, .inr 13, .inl 10, .inl 11, .inl 12])) := rfl
/-- a state, or an int, named -/
def lts {β : Type} (a : St) (f : St → Option β) : Option β := f a
def lti {β : Type} (a : Int32) (f : Int32 → Option β) : Option β := f a
theorem lts_i {β : Type} {a : St} {f : St → Option β} {y : β} (h : lts a f = some y) : ∃ b : St, b = a ∧ f b = some y := ⟨a, rfl, h⟩
theorem lti_u {β : Type} {a b : Int32} {f : Int32 → Option β} {y : β} (e : b = a) (h : lti a f = some y) : f b = some y := by subst e; exact h
end
