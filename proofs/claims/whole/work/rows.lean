section
-- ===== PART A: goes FIRST, ahead of the names: the tables' words, and 'selects' of the private methods out of them =====
/-- a private method of a class that the tables say can be made, by its rows of tables_1 -/
def lw_okq (q : MethodName × Nat) : Prop := (q.1.cls ≠ "java/lang/invoke/MethodHandle" ∧ q.1.cls ≠ "java/lang/invoke/VarHandle") ∧ Cond.instantiable q.1.cls q.2 ∈ tables_1 ∧ Cond.privateMethod q.1 ∈ tables_1 ∧ Cond.instanceMethod q.1 ∈ tables_1
theorem lw_p0 : lw_okq (⟨"AskedCocks$Script", "append", "(I)Z"⟩, 5) := ⟨⟨by decide +kernel, by decide +kernel⟩, List.mem_of_getElem? (i := 23) (by decide +kernel), List.mem_of_getElem? (i := 238) (by decide +kernel), List.mem_of_getElem? (i := 239) (by decide +kernel)⟩
theorem lw_p1 : lw_okq (⟨"AskedCocks$Script", "empty", "()V"⟩, 5) := ⟨⟨by decide +kernel, by decide +kernel⟩, List.mem_of_getElem? (i := 23) (by decide +kernel), List.mem_of_getElem? (i := 246) (by decide +kernel), List.mem_of_getElem? (i := 247) (by decide +kernel)⟩
theorem lw_p2 : lw_okq (⟨"AskedCocks$Reader", "readAll", "(LAskedCocks$Script;)I"⟩, 2) := ⟨⟨by decide +kernel, by decide +kernel⟩, List.mem_of_getElem? (i := 49) (by decide +kernel), List.mem_of_getElem? (i := 254) (by decide +kernel), List.mem_of_getElem? (i := 255) (by decide +kernel)⟩
theorem lw_p3 : lw_okq (⟨"AskedCocks$Diocese", "empty", "()V"⟩, 7) := ⟨⟨by decide +kernel, by decide +kernel⟩, List.mem_of_getElem? (i := 55) (by decide +kernel), List.mem_of_getElem? (i := 258) (by decide +kernel), List.mem_of_getElem? (i := 259) (by decide +kernel)⟩
theorem lw_p4 : lw_okq (⟨"AskedCocks$Script", "rewind", "()V"⟩, 5) := ⟨⟨by decide +kernel, by decide +kernel⟩, List.mem_of_getElem? (i := 23) (by decide +kernel), List.mem_of_getElem? (i := 265) (by decide +kernel), List.mem_of_getElem? (i := 266) (by decide +kernel)⟩
theorem lw_p5 : lw_okq (⟨"AskedCocks$Script", "nextToken", "()I"⟩, 5) := ⟨⟨by decide +kernel, by decide +kernel⟩, List.mem_of_getElem? (i := 23) (by decide +kernel), List.mem_of_getElem? (i := 269) (by decide +kernel), List.mem_of_getElem? (i := 270) (by decide +kernel)⟩
theorem lw_p6 : lw_okq (⟨"AskedCocks$Script", "readWord", "()I"⟩, 5) := ⟨⟨by decide +kernel, by decide +kernel⟩, List.mem_of_getElem? (i := 23) (by decide +kernel), List.mem_of_getElem? (i := 276) (by decide +kernel), List.mem_of_getElem? (i := 277) (by decide +kernel)⟩
theorem lw_p7 : lw_okq (⟨"AskedCocks$Script", "readNumber", "()I"⟩, 5) := ⟨⟨by decide +kernel, by decide +kernel⟩, List.mem_of_getElem? (i := 23) (by decide +kernel), List.mem_of_getElem? (i := 283) (by decide +kernel), List.mem_of_getElem? (i := 284) (by decide +kernel)⟩
theorem lw_p8 : lw_okq (⟨"AskedCocks$Reader", "readItem", "(LAskedCocks$Script;)Z"⟩, 2) := ⟨⟨by decide +kernel, by decide +kernel⟩, List.mem_of_getElem? (i := 49) (by decide +kernel), List.mem_of_getElem? (i := 287) (by decide +kernel), List.mem_of_getElem? (i := 288) (by decide +kernel)⟩
theorem lw_p9 : lw_okq (⟨"AskedCocks$Reader", "hasRoomFor", "(I)Z"⟩, 2) := ⟨⟨by decide +kernel, by decide +kernel⟩, List.mem_of_getElem? (i := 49) (by decide +kernel), List.mem_of_getElem? (i := 296) (by decide +kernel), List.mem_of_getElem? (i := 297) (by decide +kernel)⟩
theorem lw_p10 : lw_okq (⟨"AskedCocks$Reader", "mayBe", "(III)Z"⟩, 2) := ⟨⟨by decide +kernel, by decide +kernel⟩, List.mem_of_getElem? (i := 49) (by decide +kernel), List.mem_of_getElem? (i := 302) (by decide +kernel), List.mem_of_getElem? (i := 303) (by decide +kernel)⟩
theorem lw_p11 : lw_okq (⟨"AskedCocks$Reader", "tell", "(I)V"⟩, 2) := ⟨⟨by decide +kernel, by decide +kernel⟩, List.mem_of_getElem? (i := 49) (by decide +kernel), List.mem_of_getElem? (i := 311) (by decide +kernel), List.mem_of_getElem? (i := 312) (by decide +kernel)⟩
theorem lw_p12 : lw_okq (⟨"AskedCocks$Diocese", "addCock", "([I)V"⟩, 7) := ⟨⟨by decide +kernel, by decide +kernel⟩, List.mem_of_getElem? (i := 55) (by decide +kernel), List.mem_of_getElem? (i := 315) (by decide +kernel), List.mem_of_getElem? (i := 316) (by decide +kernel)⟩
theorem lw_p13 : lw_okq (⟨"AskedCocks$Diocese", "addOne", "([I)V"⟩, 7) := ⟨⟨by decide +kernel, by decide +kernel⟩, List.mem_of_getElem? (i := 55) (by decide +kernel), List.mem_of_getElem? (i := 322) (by decide +kernel), List.mem_of_getElem? (i := 323) (by decide +kernel)⟩
theorem lw_p14 : lw_okq (⟨"AskedCocks$Diocese", "addSmoke", "([I)V"⟩, 7) := ⟨⟨by decide +kernel, by decide +kernel⟩, List.mem_of_getElem? (i := 55) (by decide +kernel), List.mem_of_getElem? (i := 326) (by decide +kernel), List.mem_of_getElem? (i := 327) (by decide +kernel)⟩
theorem lw_p15 : lw_okq (⟨"AskedCocks$Watch", "beginWith", "(LAskedCocks$Diocese;)V"⟩, 2) := ⟨⟨by decide +kernel, by decide +kernel⟩, List.mem_of_getElem? (i := 107) (by decide +kernel), List.mem_of_getElem? (i := 330) (by decide +kernel), List.mem_of_getElem? (i := 331) (by decide +kernel)⟩
def lw_privs_1 : List (MethodName × Nat) := [(⟨"AskedCocks$Script", "append", "(I)Z"⟩, 5), (⟨"AskedCocks$Script", "empty", "()V"⟩, 5), (⟨"AskedCocks$Reader", "readAll", "(LAskedCocks$Script;)I"⟩, 2), (⟨"AskedCocks$Diocese", "empty", "()V"⟩, 7), (⟨"AskedCocks$Script", "rewind", "()V"⟩, 5), (⟨"AskedCocks$Script", "nextToken", "()I"⟩, 5), (⟨"AskedCocks$Script", "readWord", "()I"⟩, 5), (⟨"AskedCocks$Script", "readNumber", "()I"⟩, 5), (⟨"AskedCocks$Reader", "readItem", "(LAskedCocks$Script;)Z"⟩, 2), (⟨"AskedCocks$Reader", "hasRoomFor", "(I)Z"⟩, 2), (⟨"AskedCocks$Reader", "mayBe", "(III)Z"⟩, 2), (⟨"AskedCocks$Reader", "tell", "(I)V"⟩, 2), (⟨"AskedCocks$Diocese", "addCock", "([I)V"⟩, 7), (⟨"AskedCocks$Diocese", "addOne", "([I)V"⟩, 7), (⟨"AskedCocks$Diocese", "addSmoke", "([I)V"⟩, 7), (⟨"AskedCocks$Watch", "beginWith", "(LAskedCocks$Diocese;)V"⟩, 2)]
theorem lw_r1 : ∀ q ∈ lw_privs_1, lw_okq q := List.forall_mem_cons.mpr ⟨lw_p0, List.forall_mem_cons.mpr ⟨lw_p1, List.forall_mem_cons.mpr ⟨lw_p2, List.forall_mem_cons.mpr ⟨lw_p3, List.forall_mem_cons.mpr ⟨lw_p4, List.forall_mem_cons.mpr ⟨lw_p5, List.forall_mem_cons.mpr ⟨lw_p6, List.forall_mem_cons.mpr ⟨lw_p7, List.forall_mem_cons.mpr ⟨lw_p8, List.forall_mem_cons.mpr ⟨lw_p9, List.forall_mem_cons.mpr ⟨lw_p10, List.forall_mem_cons.mpr ⟨lw_p11, List.forall_mem_cons.mpr ⟨lw_p12, List.forall_mem_cons.mpr ⟨lw_p13, List.forall_mem_cons.mpr ⟨lw_p14, List.forall_mem_cons.mpr ⟨lw_p15, fun _ h => absurd h List.not_mem_nil⟩⟩⟩⟩⟩⟩⟩⟩⟩⟩⟩⟩⟩⟩⟩⟩
theorem lw_p16 : lw_okq (⟨"AskedCocks$Diocese", "becomeAs", "(LAskedCocks$Diocese;)V"⟩, 7) := ⟨⟨by decide +kernel, by decide +kernel⟩, List.mem_of_getElem? (i := 55) (by decide +kernel), List.mem_of_getElem? (i := 334) (by decide +kernel), List.mem_of_getElem? (i := 335) (by decide +kernel)⟩
theorem lw_p17 : lw_okq (⟨"AskedCocks$Present", "beginOver", "([I)V"⟩, 8) := ⟨⟨by decide +kernel, by decide +kernel⟩, List.mem_of_getElem? (i := 115) (by decide +kernel), List.mem_of_getElem? (i := 345) (by decide +kernel), List.mem_of_getElem? (i := 346) (by decide +kernel)⟩
theorem lw_p18 : lw_okq (⟨"AskedCocks$Clues", "drop", "()V"⟩, 6) := ⟨⟨by decide +kernel, by decide +kernel⟩, List.mem_of_getElem? (i := 168) (by decide +kernel), List.mem_of_getElem? (i := 351) (by decide +kernel), List.mem_of_getElem? (i := 352) (by decide +kernel)⟩
theorem lw_p19 : lw_okq (⟨"AskedCocks", "isCock", "(I)Z"⟩, 7) := ⟨⟨by decide +kernel, by decide +kernel⟩, List.mem_of_getElem? (i := 15) (by decide +kernel), List.mem_of_getElem? (i := 366) (by decide +kernel), List.mem_of_getElem? (i := 367) (by decide +kernel)⟩
theorem lw_p20 : lw_okq (⟨"AskedCocks$Watch", "eyeOf", "(I)I"⟩, 2) := ⟨⟨by decide +kernel, by decide +kernel⟩, List.mem_of_getElem? (i := 107) (by decide +kernel), List.mem_of_getElem? (i := 370) (by decide +kernel), List.mem_of_getElem? (i := 371) (by decide +kernel)⟩
theorem lw_p21 : lw_okq (⟨"AskedCocks$Diocese", "sideOf", "(II)I"⟩, 7) := ⟨⟨by decide +kernel, by decide +kernel⟩, List.mem_of_getElem? (i := 55) (by decide +kernel), List.mem_of_getElem? (i := 374) (by decide +kernel), List.mem_of_getElem? (i := 375) (by decide +kernel)⟩
theorem lw_p22 : lw_okq (⟨"AskedCocks$Present", "isAsked", "(I)Z"⟩, 8) := ⟨⟨by decide +kernel, by decide +kernel⟩, List.mem_of_getElem? (i := 115) (by decide +kernel), List.mem_of_getElem? (i := 381) (by decide +kernel), List.mem_of_getElem? (i := 382) (by decide +kernel)⟩
theorem lw_p23 : lw_okq (⟨"AskedCocks$Present", "tellingOf", "(I)I"⟩, 8) := ⟨⟨by decide +kernel, by decide +kernel⟩, List.mem_of_getElem? (i := 115) (by decide +kernel), List.mem_of_getElem? (i := 388) (by decide +kernel), List.mem_of_getElem? (i := 389) (by decide +kernel)⟩
theorem lw_p24 : lw_okq (⟨"AskedCocks$Present", "amountSeenBy", "(I)I"⟩, 8) := ⟨⟨by decide +kernel, by decide +kernel⟩, List.mem_of_getElem? (i := 115) (by decide +kernel), List.mem_of_getElem? (i := 392) (by decide +kernel), List.mem_of_getElem? (i := 393) (by decide +kernel)⟩
theorem lw_p25 : lw_okq (⟨"AskedCocks$Present", "seenByAnyOf", "(II)I"⟩, 8) := ⟨⟨by decide +kernel, by decide +kernel⟩, List.mem_of_getElem? (i := 115) (by decide +kernel), List.mem_of_getElem? (i := 396) (by decide +kernel), List.mem_of_getElem? (i := 397) (by decide +kernel)⟩
theorem lw_p26 : lw_okq (⟨"AskedCocks", "isOne", "(I)Z"⟩, 7) := ⟨⟨by decide +kernel, by decide +kernel⟩, List.mem_of_getElem? (i := 15) (by decide +kernel), List.mem_of_getElem? (i := 410) (by decide +kernel), List.mem_of_getElem? (i := 411) (by decide +kernel)⟩
theorem lw_p27 : lw_okq (⟨"AskedCocks$Diocese", "cellOf", "(II)I"⟩, 7) := ⟨⟨by decide +kernel, by decide +kernel⟩, List.mem_of_getElem? (i := 55) (by decide +kernel), List.mem_of_getElem? (i := 415) (by decide +kernel), List.mem_of_getElem? (i := 416) (by decide +kernel)⟩
theorem lw_p28 : lw_okq (⟨"AskedCocks$Watch", "goBy", "(I)V"⟩, 2) := ⟨⟨by decide +kernel, by decide +kernel⟩, List.mem_of_getElem? (i := 107) (by decide +kernel), List.mem_of_getElem? (i := 436) (by decide +kernel), List.mem_of_getElem? (i := 437) (by decide +kernel)⟩
theorem lw_p29 : lw_okq (⟨"AskedCocks$Present", "rememberHour", "()V"⟩, 8) := ⟨⟨by decide +kernel, by decide +kernel⟩, List.mem_of_getElem? (i := 115) (by decide +kernel), List.mem_of_getElem? (i := 440) (by decide +kernel), List.mem_of_getElem? (i := 441) (by decide +kernel)⟩
theorem lw_p30 : lw_okq (⟨"AskedCocks$Present", "remember", "(III)V"⟩, 8) := ⟨⟨by decide +kernel, by decide +kernel⟩, List.mem_of_getElem? (i := 115) (by decide +kernel), List.mem_of_getElem? (i := 444) (by decide +kernel), List.mem_of_getElem? (i := 445) (by decide +kernel)⟩
theorem lw_p31 : lw_okq (⟨"AskedCocks$Present", "loseOldest", "()V"⟩, 8) := ⟨⟨by decide +kernel, by decide +kernel⟩, List.mem_of_getElem? (i := 115) (by decide +kernel), List.mem_of_getElem? (i := 448) (by decide +kernel), List.mem_of_getElem? (i := 449) (by decide +kernel)⟩
def lw_privs_2 : List (MethodName × Nat) := [(⟨"AskedCocks$Diocese", "becomeAs", "(LAskedCocks$Diocese;)V"⟩, 7), (⟨"AskedCocks$Present", "beginOver", "([I)V"⟩, 8), (⟨"AskedCocks$Clues", "drop", "()V"⟩, 6), (⟨"AskedCocks", "isCock", "(I)Z"⟩, 7), (⟨"AskedCocks$Watch", "eyeOf", "(I)I"⟩, 2), (⟨"AskedCocks$Diocese", "sideOf", "(II)I"⟩, 7), (⟨"AskedCocks$Present", "isAsked", "(I)Z"⟩, 8), (⟨"AskedCocks$Present", "tellingOf", "(I)I"⟩, 8), (⟨"AskedCocks$Present", "amountSeenBy", "(I)I"⟩, 8), (⟨"AskedCocks$Present", "seenByAnyOf", "(II)I"⟩, 8), (⟨"AskedCocks", "isOne", "(I)Z"⟩, 7), (⟨"AskedCocks$Diocese", "cellOf", "(II)I"⟩, 7), (⟨"AskedCocks$Watch", "goBy", "(I)V"⟩, 2), (⟨"AskedCocks$Present", "rememberHour", "()V"⟩, 8), (⟨"AskedCocks$Present", "remember", "(III)V"⟩, 8), (⟨"AskedCocks$Present", "loseOldest", "()V"⟩, 8)]
theorem lw_r2 : ∀ q ∈ lw_privs_2, lw_okq q := List.forall_mem_cons.mpr ⟨lw_p16, List.forall_mem_cons.mpr ⟨lw_p17, List.forall_mem_cons.mpr ⟨lw_p18, List.forall_mem_cons.mpr ⟨lw_p19, List.forall_mem_cons.mpr ⟨lw_p20, List.forall_mem_cons.mpr ⟨lw_p21, List.forall_mem_cons.mpr ⟨lw_p22, List.forall_mem_cons.mpr ⟨lw_p23, List.forall_mem_cons.mpr ⟨lw_p24, List.forall_mem_cons.mpr ⟨lw_p25, List.forall_mem_cons.mpr ⟨lw_p26, List.forall_mem_cons.mpr ⟨lw_p27, List.forall_mem_cons.mpr ⟨lw_p28, List.forall_mem_cons.mpr ⟨lw_p29, List.forall_mem_cons.mpr ⟨lw_p30, List.forall_mem_cons.mpr ⟨lw_p31, fun _ h => absurd h List.not_mem_nil⟩⟩⟩⟩⟩⟩⟩⟩⟩⟩⟩⟩⟩⟩⟩⟩
theorem lw_p32 : lw_okq (⟨"AskedCocks$Watch", "seeAllIn", "(I)V"⟩, 2) := ⟨⟨by decide +kernel, by decide +kernel⟩, List.mem_of_getElem? (i := 107) (by decide +kernel), List.mem_of_getElem? (i := 453) (by decide +kernel), List.mem_of_getElem? (i := 454) (by decide +kernel)⟩
theorem lw_p33 : lw_okq (⟨"AskedCocks$Diocese", "isSmoky", "(II)Z"⟩, 7) := ⟨⟨by decide +kernel, by decide +kernel⟩, List.mem_of_getElem? (i := 55) (by decide +kernel), List.mem_of_getElem? (i := 458) (by decide +kernel), List.mem_of_getElem? (i := 459) (by decide +kernel)⟩
theorem lw_p34 : lw_okq (⟨"AskedCocks$Watch", "seeOne", "(III)V"⟩, 2) := ⟨⟨by decide +kernel, by decide +kernel⟩, List.mem_of_getElem? (i := 107) (by decide +kernel), List.mem_of_getElem? (i := 463) (by decide +kernel), List.mem_of_getElem? (i := 464) (by decide +kernel)⟩
theorem lw_p35 : lw_okq (⟨"AskedCocks$Watch", "canSee", "(III)Z"⟩, 2) := ⟨⟨by decide +kernel, by decide +kernel⟩, List.mem_of_getElem? (i := 107) (by decide +kernel), List.mem_of_getElem? (i := 468) (by decide +kernel), List.mem_of_getElem? (i := 469) (by decide +kernel)⟩
theorem lw_p36 : lw_okq (⟨"AskedCocks$Watch", "isLineFree", "(III)Z"⟩, 2) := ⟨⟨by decide +kernel, by decide +kernel⟩, List.mem_of_getElem? (i := 107) (by decide +kernel), List.mem_of_getElem? (i := 474) (by decide +kernel), List.mem_of_getElem? (i := 475) (by decide +kernel)⟩
theorem lw_p37 : lw_okq (⟨"AskedCocks$Present", "build", "(II)V"⟩, 8) := ⟨⟨by decide +kernel, by decide +kernel⟩, List.mem_of_getElem? (i := 115) (by decide +kernel), List.mem_of_getElem? (i := 485) (by decide +kernel), List.mem_of_getElem? (i := 486) (by decide +kernel)⟩
theorem lw_p38 : lw_okq (⟨"AskedCocks$Present", "amountKnownWith", "(I)I"⟩, 8) := ⟨⟨by decide +kernel, by decide +kernel⟩, List.mem_of_getElem? (i := 115) (by decide +kernel), List.mem_of_getElem? (i := 493) (by decide +kernel), List.mem_of_getElem? (i := 494) (by decide +kernel)⟩
theorem lw_p39 : lw_okq (⟨"AskedCocks$Present", "bringDown", "(I)V"⟩, 8) := ⟨⟨by decide +kernel, by decide +kernel⟩, List.mem_of_getElem? (i := 115) (by decide +kernel), List.mem_of_getElem? (i := 497) (by decide +kernel), List.mem_of_getElem? (i := 498) (by decide +kernel)⟩
theorem lw_p40 : lw_okq (⟨"AskedCocks$Present", "undoLatest", "()V"⟩, 8) := ⟨⟨by decide +kernel, by decide +kernel⟩, List.mem_of_getElem? (i := 115) (by decide +kernel), List.mem_of_getElem? (i := 505) (by decide +kernel), List.mem_of_getElem? (i := 506) (by decide +kernel)⟩
theorem lw_p41 : lw_okq (⟨"AskedCocks$Present", "returnTo", "(I)V"⟩, 8) := ⟨⟨by decide +kernel, by decide +kernel⟩, List.mem_of_getElem? (i := 115) (by decide +kernel), List.mem_of_getElem? (i := 509) (by decide +kernel), List.mem_of_getElem? (i := 510) (by decide +kernel)⟩
theorem lw_p42 : lw_okq (⟨"AskedCocks$Diocese", "allCocks", "()I"⟩, 7) := ⟨⟨by decide +kernel, by decide +kernel⟩, List.mem_of_getElem? (i := 55) (by decide +kernel), List.mem_of_getElem? (i := 517) (by decide +kernel), List.mem_of_getElem? (i := 518) (by decide +kernel)⟩
theorem lw_p43 : lw_okq (⟨"AskedCocks$Watch", "cover", "()I"⟩, 2) := ⟨⟨by decide +kernel, by decide +kernel⟩, List.mem_of_getElem? (i := 107) (by decide +kernel), List.mem_of_getElem? (i := 522) (by decide +kernel), List.mem_of_getElem? (i := 523) (by decide +kernel)⟩
theorem lw_p44 : lw_okq (⟨"AskedCocks$Watch", "bestToAsk", "(I)I"⟩, 2) := ⟨⟨by decide +kernel, by decide +kernel⟩, List.mem_of_getElem? (i := 107) (by decide +kernel), List.mem_of_getElem? (i := 527) (by decide +kernel), List.mem_of_getElem? (i := 528) (by decide +kernel)⟩
theorem lw_p45 : lw_okq (⟨"AskedCocks$Present", "hoursToAsk", "(I)I"⟩, 8) := ⟨⟨by decide +kernel, by decide +kernel⟩, List.mem_of_getElem? (i := 115) (by decide +kernel), List.mem_of_getElem? (i := 532) (by decide +kernel), List.mem_of_getElem? (i := 533) (by decide +kernel)⟩
theorem lw_p46 : lw_okq (⟨"AskedCocks$Watch", "isBetter", "(II)Z"⟩, 2) := ⟨⟨by decide +kernel, by decide +kernel⟩, List.mem_of_getElem? (i := 107) (by decide +kernel), List.mem_of_getElem? (i := 537) (by decide +kernel), List.mem_of_getElem? (i := 538) (by decide +kernel)⟩
theorem lw_p47 : lw_okq (⟨"AskedCocks$Watch", "viewOf", "(II)I"⟩, 2) := ⟨⟨by decide +kernel, by decide +kernel⟩, List.mem_of_getElem? (i := 107) (by decide +kernel), List.mem_of_getElem? (i := 550) (by decide +kernel), List.mem_of_getElem? (i := 551) (by decide +kernel)⟩
def lw_privs_3 : List (MethodName × Nat) := [(⟨"AskedCocks$Watch", "seeAllIn", "(I)V"⟩, 2), (⟨"AskedCocks$Diocese", "isSmoky", "(II)Z"⟩, 7), (⟨"AskedCocks$Watch", "seeOne", "(III)V"⟩, 2), (⟨"AskedCocks$Watch", "canSee", "(III)Z"⟩, 2), (⟨"AskedCocks$Watch", "isLineFree", "(III)Z"⟩, 2), (⟨"AskedCocks$Present", "build", "(II)V"⟩, 8), (⟨"AskedCocks$Present", "amountKnownWith", "(I)I"⟩, 8), (⟨"AskedCocks$Present", "bringDown", "(I)V"⟩, 8), (⟨"AskedCocks$Present", "undoLatest", "()V"⟩, 8), (⟨"AskedCocks$Present", "returnTo", "(I)V"⟩, 8), (⟨"AskedCocks$Diocese", "allCocks", "()I"⟩, 7), (⟨"AskedCocks$Watch", "cover", "()I"⟩, 2), (⟨"AskedCocks$Watch", "bestToAsk", "(I)I"⟩, 2), (⟨"AskedCocks$Present", "hoursToAsk", "(I)I"⟩, 8), (⟨"AskedCocks$Watch", "isBetter", "(II)Z"⟩, 2), (⟨"AskedCocks$Watch", "viewOf", "(II)I"⟩, 2)]
theorem lw_r3 : ∀ q ∈ lw_privs_3, lw_okq q := List.forall_mem_cons.mpr ⟨lw_p32, List.forall_mem_cons.mpr ⟨lw_p33, List.forall_mem_cons.mpr ⟨lw_p34, List.forall_mem_cons.mpr ⟨lw_p35, List.forall_mem_cons.mpr ⟨lw_p36, List.forall_mem_cons.mpr ⟨lw_p37, List.forall_mem_cons.mpr ⟨lw_p38, List.forall_mem_cons.mpr ⟨lw_p39, List.forall_mem_cons.mpr ⟨lw_p40, List.forall_mem_cons.mpr ⟨lw_p41, List.forall_mem_cons.mpr ⟨lw_p42, List.forall_mem_cons.mpr ⟨lw_p43, List.forall_mem_cons.mpr ⟨lw_p44, List.forall_mem_cons.mpr ⟨lw_p45, List.forall_mem_cons.mpr ⟨lw_p46, List.forall_mem_cons.mpr ⟨lw_p47, fun _ h => absurd h List.not_mem_nil⟩⟩⟩⟩⟩⟩⟩⟩⟩⟩⟩⟩⟩⟩⟩⟩
theorem lw_p48 : lw_okq (⟨"AskedCocks$Watch", "unseenIn", "(I)I"⟩, 2) := ⟨⟨by decide +kernel, by decide +kernel⟩, List.mem_of_getElem? (i := 107) (by decide +kernel), List.mem_of_getElem? (i := 558) (by decide +kernel), List.mem_of_getElem? (i := 559) (by decide +kernel)⟩
theorem lw_p49 : lw_okq (⟨"AskedCocks$Watch", "hoursInView", "(IIII)I"⟩, 2) := ⟨⟨by decide +kernel, by decide +kernel⟩, List.mem_of_getElem? (i := 107) (by decide +kernel), List.mem_of_getElem? (i := 573) (by decide +kernel), List.mem_of_getElem? (i := 574) (by decide +kernel)⟩
theorem lw_p50 : lw_okq (⟨"AskedCocks$Clues", "addFaced", "(II)Z"⟩, 6) := ⟨⟨by decide +kernel, by decide +kernel⟩, List.mem_of_getElem? (i := 168) (by decide +kernel), List.mem_of_getElem? (i := 587) (by decide +kernel), List.mem_of_getElem? (i := 588) (by decide +kernel)⟩
theorem lw_p51 : lw_okq (⟨"AskedCocks$Clues", "lawCount", "()I"⟩, 6) := ⟨⟨by decide +kernel, by decide +kernel⟩, List.mem_of_getElem? (i := 168) (by decide +kernel), List.mem_of_getElem? (i := 595) (by decide +kernel), List.mem_of_getElem? (i := 596) (by decide +kernel)⟩
theorem lw_p52 : lw_okq (⟨"AskedCocks$Clues", "lawsFacing", "(II)I"⟩, 6) := ⟨⟨by decide +kernel, by decide +kernel⟩, List.mem_of_getElem? (i := 168) (by decide +kernel), List.mem_of_getElem? (i := 599) (by decide +kernel), List.mem_of_getElem? (i := 600) (by decide +kernel)⟩
theorem lw_p53 : lw_okq (⟨"AskedCocks$Clues", "isLaw", "(II)Z"⟩, 6) := ⟨⟨by decide +kernel, by decide +kernel⟩, List.mem_of_getElem? (i := 168) (by decide +kernel), List.mem_of_getElem? (i := 603) (by decide +kernel), List.mem_of_getElem? (i := 604) (by decide +kernel)⟩
theorem lw_p54 : lw_okq (⟨"AskedCocks$Clues", "firstLaw", "()I"⟩, 6) := ⟨⟨by decide +kernel, by decide +kernel⟩, List.mem_of_getElem? (i := 168) (by decide +kernel), List.mem_of_getElem? (i := 608) (by decide +kernel), List.mem_of_getElem? (i := 609) (by decide +kernel)⟩
theorem lw_p55 : lw_okq (⟨"AskedCocks$Clues", "bestHourToTry", "()I"⟩, 6) := ⟨⟨by decide +kernel, by decide +kernel⟩, List.mem_of_getElem? (i := 168) (by decide +kernel), List.mem_of_getElem? (i := 616) (by decide +kernel), List.mem_of_getElem? (i := 617) (by decide +kernel)⟩
theorem lw_p56 : lw_okq (⟨"AskedCocks$Clues", "addMet", "(II)Z"⟩, 6) := ⟨⟨by decide +kernel, by decide +kernel⟩, List.mem_of_getElem? (i := 168) (by decide +kernel), List.mem_of_getElem? (i := 628) (by decide +kernel), List.mem_of_getElem? (i := 629) (by decide +kernel)⟩
theorem lw_p57 : lw_okq (⟨"AskedCocks$Clues", "wayCount", "()I"⟩, 6) := ⟨⟨by decide +kernel, by decide +kernel⟩, List.mem_of_getElem? (i := 168) (by decide +kernel), List.mem_of_getElem? (i := 636) (by decide +kernel), List.mem_of_getElem? (i := 637) (by decide +kernel)⟩
theorem lw_p58 : lw_okq (⟨"AskedCocks$Clues", "falsesOf", "(I)I"⟩, 6) := ⟨⟨by decide +kernel, by decide +kernel⟩, List.mem_of_getElem? (i := 168) (by decide +kernel), List.mem_of_getElem? (i := 640) (by decide +kernel), List.mem_of_getElem? (i := 641) (by decide +kernel)⟩
theorem lw_p59 : lw_okq (⟨"AskedCocks$Clues", "bestWay", "()I"⟩, 6) := ⟨⟨by decide +kernel, by decide +kernel⟩, List.mem_of_getElem? (i := 168) (by decide +kernel), List.mem_of_getElem? (i := 645) (by decide +kernel), List.mem_of_getElem? (i := 646) (by decide +kernel)⟩
theorem lw_p60 : lw_okq (⟨"AskedCocks$Kinds", "markAs", "(ILAskedCocks$Watch;I)I"⟩, 1) := ⟨⟨by decide +kernel, by decide +kernel⟩, List.mem_of_getElem? (i := 195) (by decide +kernel), List.mem_of_getElem? (i := 662) (by decide +kernel), List.mem_of_getElem? (i := 663) (by decide +kernel)⟩
theorem lw_p61 : lw_okq (⟨"AskedCocks$Kinds", "markAsCock", "(LAskedCocks$Watch;I)I"⟩, 1) := ⟨⟨by decide +kernel, by decide +kernel⟩, List.mem_of_getElem? (i := 195) (by decide +kernel), List.mem_of_getElem? (i := 666) (by decide +kernel), List.mem_of_getElem? (i := 667) (by decide +kernel)⟩
theorem lw_p62 : lw_okq (⟨"AskedCocks$Kinds", "markAsGold", "(LAskedCocks$Watch;I)I"⟩, 1) := ⟨⟨by decide +kernel, by decide +kernel⟩, List.mem_of_getElem? (i := 195) (by decide +kernel), List.mem_of_getElem? (i := 671) (by decide +kernel), List.mem_of_getElem? (i := 672) (by decide +kernel)⟩
theorem lw_p63 : lw_okq (⟨"AskedCocks$Kinds", "markAsIron", "(LAskedCocks$Watch;I)I"⟩, 1) := ⟨⟨by decide +kernel, by decide +kernel⟩, List.mem_of_getElem? (i := 195) (by decide +kernel), List.mem_of_getElem? (i := 677) (by decide +kernel), List.mem_of_getElem? (i := 678) (by decide +kernel)⟩
def lw_privs_4 : List (MethodName × Nat) := [(⟨"AskedCocks$Watch", "unseenIn", "(I)I"⟩, 2), (⟨"AskedCocks$Watch", "hoursInView", "(IIII)I"⟩, 2), (⟨"AskedCocks$Clues", "addFaced", "(II)Z"⟩, 6), (⟨"AskedCocks$Clues", "lawCount", "()I"⟩, 6), (⟨"AskedCocks$Clues", "lawsFacing", "(II)I"⟩, 6), (⟨"AskedCocks$Clues", "isLaw", "(II)Z"⟩, 6), (⟨"AskedCocks$Clues", "firstLaw", "()I"⟩, 6), (⟨"AskedCocks$Clues", "bestHourToTry", "()I"⟩, 6), (⟨"AskedCocks$Clues", "addMet", "(II)Z"⟩, 6), (⟨"AskedCocks$Clues", "wayCount", "()I"⟩, 6), (⟨"AskedCocks$Clues", "falsesOf", "(I)I"⟩, 6), (⟨"AskedCocks$Clues", "bestWay", "()I"⟩, 6), (⟨"AskedCocks$Kinds", "markAs", "(ILAskedCocks$Watch;I)I"⟩, 1), (⟨"AskedCocks$Kinds", "markAsCock", "(LAskedCocks$Watch;I)I"⟩, 1), (⟨"AskedCocks$Kinds", "markAsGold", "(LAskedCocks$Watch;I)I"⟩, 1), (⟨"AskedCocks$Kinds", "markAsIron", "(LAskedCocks$Watch;I)I"⟩, 1)]
theorem lw_r4 : ∀ q ∈ lw_privs_4, lw_okq q := List.forall_mem_cons.mpr ⟨lw_p48, List.forall_mem_cons.mpr ⟨lw_p49, List.forall_mem_cons.mpr ⟨lw_p50, List.forall_mem_cons.mpr ⟨lw_p51, List.forall_mem_cons.mpr ⟨lw_p52, List.forall_mem_cons.mpr ⟨lw_p53, List.forall_mem_cons.mpr ⟨lw_p54, List.forall_mem_cons.mpr ⟨lw_p55, List.forall_mem_cons.mpr ⟨lw_p56, List.forall_mem_cons.mpr ⟨lw_p57, List.forall_mem_cons.mpr ⟨lw_p58, List.forall_mem_cons.mpr ⟨lw_p59, List.forall_mem_cons.mpr ⟨lw_p60, List.forall_mem_cons.mpr ⟨lw_p61, List.forall_mem_cons.mpr ⟨lw_p62, List.forall_mem_cons.mpr ⟨lw_p63, fun _ h => absurd h List.not_mem_nil⟩⟩⟩⟩⟩⟩⟩⟩⟩⟩⟩⟩⟩⟩⟩⟩
theorem lw_p64 : lw_okq (⟨"AskedCocks$Kinds", "markAsDean", "(LAskedCocks$Watch;I)I"⟩, 1) := ⟨⟨by decide +kernel, by decide +kernel⟩, List.mem_of_getElem? (i := 195) (by decide +kernel), List.mem_of_getElem? (i := 682) (by decide +kernel), List.mem_of_getElem? (i := 683) (by decide +kernel)⟩
theorem lw_p65 : lw_okq (⟨"AskedCocks$Kinds", "markAsBarn", "(LAskedCocks$Watch;I)I"⟩, 1) := ⟨⟨by decide +kernel, by decide +kernel⟩, List.mem_of_getElem? (i := 195) (by decide +kernel), List.mem_of_getElem? (i := 687) (by decide +kernel), List.mem_of_getElem? (i := 688) (by decide +kernel)⟩
theorem lw_p66 : lw_okq (⟨"AskedCocks$Kinds", "markAsZinc", "(LAskedCocks$Watch;I)I"⟩, 1) := ⟨⟨by decide +kernel, by decide +kernel⟩, List.mem_of_getElem? (i := 195) (by decide +kernel), List.mem_of_getElem? (i := 692) (by decide +kernel), List.mem_of_getElem? (i := 693) (by decide +kernel)⟩
theorem lw_p67 : lw_okq (⟨"AskedCocks$Present", "becomeAs", "(LAskedCocks$Present;)V"⟩, 8) := ⟨⟨by decide +kernel, by decide +kernel⟩, List.mem_of_getElem? (i := 115) (by decide +kernel), List.mem_of_getElem? (i := 702) (by decide +kernel), List.mem_of_getElem? (i := 703) (by decide +kernel)⟩
theorem lw_p68 : lw_okq (⟨"AskedCocksModel", "next", "()V"⟩, 37) := ⟨⟨by decide +kernel, by decide +kernel⟩, List.mem_of_getElem? (i := 720) (by decide +kernel), List.mem_of_getElem? (i := 854) (by decide +kernel), List.mem_of_getElem? (i := 855) (by decide +kernel)⟩
theorem lw_p69 : lw_okq (⟨"AskedCocksModel", "letterAt", "(I)I"⟩, 37) := ⟨⟨by decide +kernel, by decide +kernel⟩, List.mem_of_getElem? (i := 720) (by decide +kernel), List.mem_of_getElem? (i := 858) (by decide +kernel), List.mem_of_getElem? (i := 859) (by decide +kernel)⟩
theorem lw_p70 : lw_okq (⟨"AskedCocksModel", "readItem", "()V"⟩, 37) := ⟨⟨by decide +kernel, by decide +kernel⟩, List.mem_of_getElem? (i := 720) (by decide +kernel), List.mem_of_getElem? (i := 868) (by decide +kernel), List.mem_of_getElem? (i := 869) (by decide +kernel)⟩
theorem lw_p71 : lw_okq (⟨"AskedCocksModel", "mayBegin", "(I)Z"⟩, 37) := ⟨⟨by decide +kernel, by decide +kernel⟩, List.mem_of_getElem? (i := 720) (by decide +kernel), List.mem_of_getElem? (i := 872) (by decide +kernel), List.mem_of_getElem? (i := 873) (by decide +kernel)⟩
theorem lw_p72 : lw_okq (⟨"AskedCocksModel", "readBody", "(I)V"⟩, 37) := ⟨⟨by decide +kernel, by decide +kernel⟩, List.mem_of_getElem? (i := 720) (by decide +kernel), List.mem_of_getElem? (i := 876) (by decide +kernel), List.mem_of_getElem? (i := 877) (by decide +kernel)⟩
theorem lw_p73 : lw_okq (⟨"AskedCocksModel", "readRoof", "()V"⟩, 37) := ⟨⟨by decide +kernel, by decide +kernel⟩, List.mem_of_getElem? (i := 720) (by decide +kernel), List.mem_of_getElem? (i := 880) (by decide +kernel), List.mem_of_getElem? (i := 881) (by decide +kernel)⟩
theorem lw_p74 : lw_okq (⟨"AskedCocksModel", "takesNumber", "(II)I"⟩, 37) := ⟨⟨by decide +kernel, by decide +kernel⟩, List.mem_of_getElem? (i := 720) (by decide +kernel), List.mem_of_getElem? (i := 884) (by decide +kernel), List.mem_of_getElem? (i := 885) (by decide +kernel)⟩
theorem lw_p75 : lw_okq (⟨"AskedCocksModel", "readCock", "()V"⟩, 37) := ⟨⟨by decide +kernel, by decide +kernel⟩, List.mem_of_getElem? (i := 720) (by decide +kernel), List.mem_of_getElem? (i := 888) (by decide +kernel), List.mem_of_getElem? (i := 889) (by decide +kernel)⟩
theorem lw_p76 : lw_okq (⟨"AskedCocksModel", "readOne", "()V"⟩, 37) := ⟨⟨by decide +kernel, by decide +kernel⟩, List.mem_of_getElem? (i := 720) (by decide +kernel), List.mem_of_getElem? (i := 892) (by decide +kernel), List.mem_of_getElem? (i := 893) (by decide +kernel)⟩
theorem lw_p77 : lw_okq (⟨"AskedCocksModel", "readSmoke", "()V"⟩, 37) := ⟨⟨by decide +kernel, by decide +kernel⟩, List.mem_of_getElem? (i := 720) (by decide +kernel), List.mem_of_getElem? (i := 896) (by decide +kernel), List.mem_of_getElem? (i := 897) (by decide +kernel)⟩
theorem lw_p78 : lw_okq (⟨"AskedCocksModel", "settles", "()V"⟩, 37) := ⟨⟨by decide +kernel, by decide +kernel⟩, List.mem_of_getElem? (i := 720) (by decide +kernel), List.mem_of_getElem? (i := 900) (by decide +kernel), List.mem_of_getElem? (i := 901) (by decide +kernel)⟩
theorem lw_p79 : lw_okq (⟨"AskedCocksModel", "isCock", "(I)Z"⟩, 37) := ⟨⟨by decide +kernel, by decide +kernel⟩, List.mem_of_getElem? (i := 720) (by decide +kernel), List.mem_of_getElem? (i := 915) (by decide +kernel), List.mem_of_getElem? (i := 916) (by decide +kernel)⟩
def lw_privs_5 : List (MethodName × Nat) := [(⟨"AskedCocks$Kinds", "markAsDean", "(LAskedCocks$Watch;I)I"⟩, 1), (⟨"AskedCocks$Kinds", "markAsBarn", "(LAskedCocks$Watch;I)I"⟩, 1), (⟨"AskedCocks$Kinds", "markAsZinc", "(LAskedCocks$Watch;I)I"⟩, 1), (⟨"AskedCocks$Present", "becomeAs", "(LAskedCocks$Present;)V"⟩, 8), (⟨"AskedCocksModel", "next", "()V"⟩, 37), (⟨"AskedCocksModel", "letterAt", "(I)I"⟩, 37), (⟨"AskedCocksModel", "readItem", "()V"⟩, 37), (⟨"AskedCocksModel", "mayBegin", "(I)Z"⟩, 37), (⟨"AskedCocksModel", "readBody", "(I)V"⟩, 37), (⟨"AskedCocksModel", "readRoof", "()V"⟩, 37), (⟨"AskedCocksModel", "takesNumber", "(II)I"⟩, 37), (⟨"AskedCocksModel", "readCock", "()V"⟩, 37), (⟨"AskedCocksModel", "readOne", "()V"⟩, 37), (⟨"AskedCocksModel", "readSmoke", "()V"⟩, 37), (⟨"AskedCocksModel", "settles", "()V"⟩, 37), (⟨"AskedCocksModel", "isCock", "(I)Z"⟩, 37)]
theorem lw_r5 : ∀ q ∈ lw_privs_5, lw_okq q := List.forall_mem_cons.mpr ⟨lw_p64, List.forall_mem_cons.mpr ⟨lw_p65, List.forall_mem_cons.mpr ⟨lw_p66, List.forall_mem_cons.mpr ⟨lw_p67, List.forall_mem_cons.mpr ⟨lw_p68, List.forall_mem_cons.mpr ⟨lw_p69, List.forall_mem_cons.mpr ⟨lw_p70, List.forall_mem_cons.mpr ⟨lw_p71, List.forall_mem_cons.mpr ⟨lw_p72, List.forall_mem_cons.mpr ⟨lw_p73, List.forall_mem_cons.mpr ⟨lw_p74, List.forall_mem_cons.mpr ⟨lw_p75, List.forall_mem_cons.mpr ⟨lw_p76, List.forall_mem_cons.mpr ⟨lw_p77, List.forall_mem_cons.mpr ⟨lw_p78, List.forall_mem_cons.mpr ⟨lw_p79, fun _ h => absurd h List.not_mem_nil⟩⟩⟩⟩⟩⟩⟩⟩⟩⟩⟩⟩⟩⟩⟩⟩
theorem lw_p80 : lw_okq (⟨"AskedCocksModel", "eye", "(I)I"⟩, 37) := ⟨⟨by decide +kernel, by decide +kernel⟩, List.mem_of_getElem? (i := 720) (by decide +kernel), List.mem_of_getElem? (i := 919) (by decide +kernel), List.mem_of_getElem? (i := 920) (by decide +kernel)⟩
theorem lw_p81 : lw_okq (⟨"AskedCocksModel", "isAsked", "(I)Z"⟩, 37) := ⟨⟨by decide +kernel, by decide +kernel⟩, List.mem_of_getElem? (i := 720) (by decide +kernel), List.mem_of_getElem? (i := 926) (by decide +kernel), List.mem_of_getElem? (i := 927) (by decide +kernel)⟩
theorem lw_p82 : lw_okq (⟨"AskedCocksModel", "sawBy", "(I)I"⟩, 37) := ⟨⟨by decide +kernel, by decide +kernel⟩, List.mem_of_getElem? (i := 720) (by decide +kernel), List.mem_of_getElem? (i := 933) (by decide +kernel), List.mem_of_getElem? (i := 934) (by decide +kernel)⟩
theorem lw_p83 : lw_okq (⟨"AskedCocksModel", "sawOf", "(II)I"⟩, 37) := ⟨⟨by decide +kernel, by decide +kernel⟩, List.mem_of_getElem? (i := 720) (by decide +kernel), List.mem_of_getElem? (i := 937) (by decide +kernel), List.mem_of_getElem? (i := 938) (by decide +kernel)⟩
theorem lw_p84 : lw_okq (⟨"AskedCocksModel", "isOne", "(I)Z"⟩, 37) := ⟨⟨by decide +kernel, by decide +kernel⟩, List.mem_of_getElem? (i := 720) (by decide +kernel), List.mem_of_getElem? (i := 948) (by decide +kernel), List.mem_of_getElem? (i := 949) (by decide +kernel)⟩
theorem lw_p85 : lw_okq (⟨"AskedCocksModel", "walks", "(II)I"⟩, 37) := ⟨⟨by decide +kernel, by decide +kernel⟩, List.mem_of_getElem? (i := 720) (by decide +kernel), List.mem_of_getElem? (i := 953) (by decide +kernel), List.mem_of_getElem? (i := 954) (by decide +kernel)⟩
theorem lw_p86 : lw_okq (⟨"AskedCocksModel", "remembers", "()V"⟩, 37) := ⟨⟨by decide +kernel, by decide +kernel⟩, List.mem_of_getElem? (i := 720) (by decide +kernel), List.mem_of_getElem? (i := 969) (by decide +kernel), List.mem_of_getElem? (i := 970) (by decide +kernel)⟩
theorem lw_p87 : lw_okq (⟨"AskedCocksModel", "hourGoes", "()V"⟩, 37) := ⟨⟨by decide +kernel, by decide +kernel⟩, List.mem_of_getElem? (i := 720) (by decide +kernel), List.mem_of_getElem? (i := 973) (by decide +kernel), List.mem_of_getElem? (i := 974) (by decide +kernel)⟩
theorem lw_p88 : lw_okq (⟨"AskedCocksModel", "sees", "(III)Z"⟩, 37) := ⟨⟨by decide +kernel, by decide +kernel⟩, List.mem_of_getElem? (i := 720) (by decide +kernel), List.mem_of_getElem? (i := 977) (by decide +kernel), List.mem_of_getElem? (i := 978) (by decide +kernel)⟩
theorem lw_p89 : lw_okq (⟨"AskedCocksModel", "isClear", "(II)Z"⟩, 37) := ⟨⟨by decide +kernel, by decide +kernel⟩, List.mem_of_getElem? (i := 720) (by decide +kernel), List.mem_of_getElem? (i := 981) (by decide +kernel), List.mem_of_getElem? (i := 982) (by decide +kernel)⟩
theorem lw_p90 : lw_okq (⟨"AskedCocksModel", "isSmoke", "(II)Z"⟩, 37) := ⟨⟨by decide +kernel, by decide +kernel⟩, List.mem_of_getElem? (i := 720) (by decide +kernel), List.mem_of_getElem? (i := 985) (by decide +kernel), List.mem_of_getElem? (i := 986) (by decide +kernel)⟩
theorem lw_p91 : lw_okq (⟨"AskedCocksModel", "knownMuch", "()I"⟩, 37) := ⟨⟨by decide +kernel, by decide +kernel⟩, List.mem_of_getElem? (i := 720) (by decide +kernel), List.mem_of_getElem? (i := 997) (by decide +kernel), List.mem_of_getElem? (i := 998) (by decide +kernel)⟩
theorem lw_p92 : lw_okq (⟨"AskedCocksModel", "all", "()I"⟩, 37) := ⟨⟨by decide +kernel, by decide +kernel⟩, List.mem_of_getElem? (i := 720) (by decide +kernel), List.mem_of_getElem? (i := 1009) (by decide +kernel), List.mem_of_getElem? (i := 1010) (by decide +kernel)⟩
theorem lw_p93 : lw_okq (⟨"AskedCocksModel", "cover", "()I"⟩, 37) := ⟨⟨by decide +kernel, by decide +kernel⟩, List.mem_of_getElem? (i := 720) (by decide +kernel), List.mem_of_getElem? (i := 1013) (by decide +kernel), List.mem_of_getElem? (i := 1014) (by decide +kernel)⟩
theorem lw_p94 : lw_okq (⟨"AskedCocksModel", "viewOf", "(II)I"⟩, 37) := ⟨⟨by decide +kernel, by decide +kernel⟩, List.mem_of_getElem? (i := 720) (by decide +kernel), List.mem_of_getElem? (i := 1027) (by decide +kernel), List.mem_of_getElem? (i := 1028) (by decide +kernel)⟩
theorem lw_p95 : lw_okq (⟨"AskedCocksModel", "takes", "(I)I"⟩, 37) := ⟨⟨by decide +kernel, by decide +kernel⟩, List.mem_of_getElem? (i := 720) (by decide +kernel), List.mem_of_getElem? (i := 1040) (by decide +kernel), List.mem_of_getElem? (i := 1041) (by decide +kernel)⟩
def lw_privs_6 : List (MethodName × Nat) := [(⟨"AskedCocksModel", "eye", "(I)I"⟩, 37), (⟨"AskedCocksModel", "isAsked", "(I)Z"⟩, 37), (⟨"AskedCocksModel", "sawBy", "(I)I"⟩, 37), (⟨"AskedCocksModel", "sawOf", "(II)I"⟩, 37), (⟨"AskedCocksModel", "isOne", "(I)Z"⟩, 37), (⟨"AskedCocksModel", "walks", "(II)I"⟩, 37), (⟨"AskedCocksModel", "remembers", "()V"⟩, 37), (⟨"AskedCocksModel", "hourGoes", "()V"⟩, 37), (⟨"AskedCocksModel", "sees", "(III)Z"⟩, 37), (⟨"AskedCocksModel", "isClear", "(II)Z"⟩, 37), (⟨"AskedCocksModel", "isSmoke", "(II)Z"⟩, 37), (⟨"AskedCocksModel", "knownMuch", "()I"⟩, 37), (⟨"AskedCocksModel", "all", "()I"⟩, 37), (⟨"AskedCocksModel", "cover", "()I"⟩, 37), (⟨"AskedCocksModel", "viewOf", "(II)I"⟩, 37), (⟨"AskedCocksModel", "takes", "(I)I"⟩, 37)]
theorem lw_r6 : ∀ q ∈ lw_privs_6, lw_okq q := List.forall_mem_cons.mpr ⟨lw_p80, List.forall_mem_cons.mpr ⟨lw_p81, List.forall_mem_cons.mpr ⟨lw_p82, List.forall_mem_cons.mpr ⟨lw_p83, List.forall_mem_cons.mpr ⟨lw_p84, List.forall_mem_cons.mpr ⟨lw_p85, List.forall_mem_cons.mpr ⟨lw_p86, List.forall_mem_cons.mpr ⟨lw_p87, List.forall_mem_cons.mpr ⟨lw_p88, List.forall_mem_cons.mpr ⟨lw_p89, List.forall_mem_cons.mpr ⟨lw_p90, List.forall_mem_cons.mpr ⟨lw_p91, List.forall_mem_cons.mpr ⟨lw_p92, List.forall_mem_cons.mpr ⟨lw_p93, List.forall_mem_cons.mpr ⟨lw_p94, List.forall_mem_cons.mpr ⟨lw_p95, fun _ h => absurd h List.not_mem_nil⟩⟩⟩⟩⟩⟩⟩⟩⟩⟩⟩⟩⟩⟩⟩⟩
theorem lw_p96 : lw_okq (⟨"AskedCocksModel", "isLaw", "(I)Z"⟩, 37) := ⟨⟨by decide +kernel, by decide +kernel⟩, List.mem_of_getElem? (i := 720) (by decide +kernel), List.mem_of_getElem? (i := 1059) (by decide +kernel), List.mem_of_getElem? (i := 1060) (by decide +kernel)⟩
theorem lw_p97 : lw_okq (⟨"AskedCocksModel", "wrong", "(I)I"⟩, 37) := ⟨⟨by decide +kernel, by decide +kernel⟩, List.mem_of_getElem? (i := 720) (by decide +kernel), List.mem_of_getElem? (i := 1076) (by decide +kernel), List.mem_of_getElem? (i := 1077) (by decide +kernel)⟩
def lw_privs_7 : List (MethodName × Nat) := [(⟨"AskedCocksModel", "isLaw", "(I)Z"⟩, 37), (⟨"AskedCocksModel", "wrong", "(I)I"⟩, 37)]
theorem lw_r7 : ∀ q ∈ lw_privs_7, lw_okq q := List.forall_mem_cons.mpr ⟨lw_p96, List.forall_mem_cons.mpr ⟨lw_p97, fun _ h => absurd h List.not_mem_nil⟩⟩
def lw_privs : List (MethodName × Nat) := lw_privs_1 ++ (lw_privs_2 ++ (lw_privs_3 ++ (lw_privs_4 ++ (lw_privs_5 ++ (lw_privs_6 ++ (lw_privs_7))))))
def lw_tbl : List Cond := k2_sels lw_privs ++ tables_1
theorem lw_privs_ok : ∀ q ∈ lw_privs, lw_okq q := by
  show ∀ q ∈ lw_privs_1 ++ (lw_privs_2 ++ (lw_privs_3 ++ (lw_privs_4 ++ (lw_privs_5 ++ (lw_privs_6 ++ (lw_privs_7)))))), lw_okq q
  exact List.forall_mem_append.mpr ⟨lw_r1, List.forall_mem_append.mpr ⟨lw_r2, List.forall_mem_append.mpr ⟨lw_r3, List.forall_mem_append.mpr ⟨lw_r4, List.forall_mem_append.mpr ⟨lw_r5, List.forall_mem_append.mpr ⟨lw_r6, lw_r7⟩⟩⟩⟩⟩⟩
end
section
theorem goodIn_r {big : List Cond} (ws : List Cond) (ps : List Nat) (hp : ws = ps.filterMap (fun i => big[i]?)) (h : ws.all goodWord = true) : GoodIn big ws := by
  intro w hw
  have h1 := List.all_eq_true.mp h w hw
  rw [hp] at hw
  obtain ⟨i, -, hi⟩ := List.mem_filterMap.mp hw
  have hm : w ∈ big := by first | exact List.mem_of_getElem? hi | exact List.getElem?_mem hi
  exact ⟨hm, good_of_word h1⟩
theorem goodIn_app {big a b : List Cond} (ha : GoodIn big a) (hb : GoodIn big b) : GoodIn big (a ++ b) := fun w h => (List.mem_append.mp h).elim (ha w) (hb w)
theorem goodIn_ca {big a b : List Cond} {c : Cond} (ha : GoodIn big (c :: a)) (hb : GoodIn big b) : GoodIn big (c :: (a ++ b)) := fun w h => (List.mem_cons.mp h).elim (fun e => ha w (List.mem_cons.mpr (Or.inl e))) (fun h => (List.mem_append.mp h).elim (fun h => ha w (List.mem_cons.mpr (Or.inr h))) (hb w))
theorem goodIn_sub {big ws : List Cond} (hm : ∀ w ∈ ws, w ∈ big) (h : ws.all goodWord = true) : GoodIn big ws := fun w hw => ⟨hm w hw, good_of_word (List.all_eq_true.mp h w hw)⟩
def RX0 : String := "AskedCocks$Clues"
def TX0 : u_T := fun k => match k with
  | 0 => ("AskedCocks$Clues", "facedHours", "[I", true)
  | 1 => ("AskedCocks$Clues", "facedSides", "[I", true)
  | 2 => ("AskedCocks$Clues", "facedCount", "I", false)
  | 3 => ("AskedCocks$Clues", "metCells", "[I", true)
  | 4 => ("AskedCocks$Clues", "metHours", "[I", true)
  | _ => ("AskedCocks$Clues", "metCount", "I", false)
def tyX0 : Nat → FieldType := fun k => match k with
  | 0 => .array .int
  | 1 => .array .int
  | 2 => .int
  | 3 => .array .int
  | 4 => .array .int
  | _ => .int
abbrev wsX00 : List Cond := u_ws RX0 TX0 6
theorem nmX0 : ∀ a, a < 6 → ∀ b, b < 6 → a ≠ b → (TX0 a).2.1 ≠ (TX0 b).2.1 := by decide +kernel
theorem tyX0_ok : ∀ k, k < 6 → parseFieldDescriptor (TX0 k).2.2.1 = some (tyX0 k) := by decide +kernel
abbrev cX0_init : ByteArray := prog_2_method_1_code
def yX0_init : MethodName := ⟨RX0, "<init>", "()V"⟩
abbrev cX0_drop : ByteArray := prog_2_method_2_code
def yX0_drop : MethodName := ⟨RX0, "drop", "()V"⟩
abbrev cX0_addFaced : ByteArray := prog_2_method_3_code
def yX0_addFaced : MethodName := ⟨RX0, "addFaced", "(II)Z"⟩
abbrev cX0_addMet : ByteArray := prog_2_method_4_code
def yX0_addMet : MethodName := ⟨RX0, "addMet", "(II)Z"⟩
abbrev cX0_isLaw : ByteArray := prog_2_method_5_code
def yX0_isLaw : MethodName := ⟨RX0, "isLaw", "(II)Z"⟩
abbrev cX0_lawCount : ByteArray := prog_2_method_6_code
def yX0_lawCount : MethodName := ⟨RX0, "lawCount", "()I"⟩
abbrev cX0_lawsFacing : ByteArray := prog_2_method_7_code
def yX0_lawsFacing : MethodName := ⟨RX0, "lawsFacing", "(II)I"⟩
abbrev cX0_firstLaw : ByteArray := prog_2_method_8_code
def yX0_firstLaw : MethodName := ⟨RX0, "firstLaw", "()I"⟩
abbrev cX0_bestHourToTry : ByteArray := prog_2_method_9_code
def yX0_bestHourToTry : MethodName := ⟨RX0, "bestHourToTry", "()I"⟩
abbrev cX0_falsesOf : ByteArray := prog_2_method_10_code
def yX0_falsesOf : MethodName := ⟨RX0, "falsesOf", "(I)I"⟩
abbrev cX0_wayCount : ByteArray := prog_2_method_11_code
def yX0_wayCount : MethodName := ⟨RX0, "wayCount", "()I"⟩
abbrev cX0_bestWay : ByteArray := prog_2_method_12_code
def yX0_bestWay : MethodName := ⟨RX0, "bestWay", "()I"⟩
def RX1 : String := "AskedCocks$Diocese"
def TX1 : u_T := fun k => match k with
  | 0 => ("AskedCocks$Diocese", "roofs", "[I", true)
  | 1 => ("AskedCocks$Diocese", "cocks", "[[I", true)
  | 2 => ("AskedCocks$Diocese", "people", "[[I", true)
  | 3 => ("AskedCocks$Diocese", "smokes", "[[I", true)
  | 4 => ("AskedCocks$Diocese", "cockCount", "I", false)
  | 5 => ("AskedCocks$Diocese", "peopleCount", "I", false)
  | _ => ("AskedCocks$Diocese", "smokeCount", "I", false)
def tyX1 : Nat → FieldType := fun k => match k with
  | 0 => .array .int
  | 1 => .array (.array .int)
  | 2 => .array (.array .int)
  | 3 => .array (.array .int)
  | 4 => .int
  | 5 => .int
  | _ => .int
abbrev wsX10 : List Cond := u_ws RX1 TX1 7
theorem nmX1 : ∀ a, a < 7 → ∀ b, b < 7 → a ≠ b → (TX1 a).2.1 ≠ (TX1 b).2.1 := by decide +kernel
theorem tyX1_ok : ∀ k, k < 7 → parseFieldDescriptor (TX1 k).2.2.1 = some (tyX1 k) := by decide +kernel
abbrev cX1_init : ByteArray := prog_3_method_1_code
def yX1_init : MethodName := ⟨RX1, "<init>", "()V"⟩
abbrev cX1_empty : ByteArray := prog_3_method_2_code
def yX1_empty : MethodName := ⟨RX1, "empty", "()V"⟩
abbrev cX1_addCock : ByteArray := prog_3_method_3_code
def yX1_addCock : MethodName := ⟨RX1, "addCock", "([I)V"⟩
abbrev cX1_addOne : ByteArray := prog_3_method_4_code
def yX1_addOne : MethodName := ⟨RX1, "addOne", "([I)V"⟩
abbrev cX1_addSmoke : ByteArray := prog_3_method_5_code
def yX1_addSmoke : MethodName := ⟨RX1, "addSmoke", "([I)V"⟩
abbrev cX1_becomeAs : ByteArray := prog_3_method_6_code
def yX1_becomeAs : MethodName := ⟨RX1, "becomeAs", "(LAskedCocks$Diocese;)V"⟩
abbrev cX1_allCocks : ByteArray := prog_3_method_7_code
def yX1_allCocks : MethodName := ⟨RX1, "allCocks", "()I"⟩
abbrev cX1_sideOf : ByteArray := prog_3_method_8_code
def yX1_sideOf : MethodName := ⟨RX1, "sideOf", "(II)I"⟩
abbrev cX1_cellOf : ByteArray := prog_3_method_9_code
def yX1_cellOf : MethodName := ⟨RX1, "cellOf", "(II)I"⟩
abbrev cX1_isSmoky : ByteArray := prog_3_method_10_code
def yX1_isSmoky : MethodName := ⟨RX1, "isSmoky", "(II)Z"⟩
def RX2 : String := "AskedCocks$Kinds"
def TX2 : u_T := fun k => match k with
  | _ => ("AskedCocks$Kinds", "trace", "J", false)
def tyX2 : Nat → FieldType := fun k => match k with
  | _ => .long
abbrev wsX20 : List Cond := u_ws RX2 TX2 1
theorem nmX2 : ∀ a, a < 1 → ∀ b, b < 1 → a ≠ b → (TX2 a).2.1 ≠ (TX2 b).2.1 := by decide +kernel
theorem tyX2_ok : ∀ k, k < 1 → parseFieldDescriptor (TX2 k).2.2.1 = some (tyX2 k) := by decide +kernel
abbrev cX2_init : ByteArray := prog_4_method_1_code
def yX2_init : MethodName := ⟨RX2, "<init>", "()V"⟩
abbrev cX2_markAs : ByteArray := prog_4_method_2_code
def yX2_markAs : MethodName := ⟨RX2, "markAs", "(ILAskedCocks$Watch;I)I"⟩
abbrev cX2_markAsCock : ByteArray := prog_4_method_3_code
def yX2_markAsCock : MethodName := ⟨RX2, "markAsCock", "(LAskedCocks$Watch;I)I"⟩
abbrev cX2_markAsGold : ByteArray := prog_4_method_4_code
def yX2_markAsGold : MethodName := ⟨RX2, "markAsGold", "(LAskedCocks$Watch;I)I"⟩
abbrev cX2_markAsIron : ByteArray := prog_4_method_5_code
def yX2_markAsIron : MethodName := ⟨RX2, "markAsIron", "(LAskedCocks$Watch;I)I"⟩
abbrev cX2_markAsDean : ByteArray := prog_4_method_6_code
def yX2_markAsDean : MethodName := ⟨RX2, "markAsDean", "(LAskedCocks$Watch;I)I"⟩
abbrev cX2_markAsBarn : ByteArray := prog_4_method_7_code
def yX2_markAsBarn : MethodName := ⟨RX2, "markAsBarn", "(LAskedCocks$Watch;I)I"⟩
abbrev cX2_markAsZinc : ByteArray := prog_4_method_8_code
def yX2_markAsZinc : MethodName := ⟨RX2, "markAsZinc", "(LAskedCocks$Watch;I)I"⟩
def RX3 : String := "AskedCocks$Present"
def TX3 : u_T := fun k => match k with
  | 0 => ("AskedCocks$Present", "hour", "I", false)
  | 1 => ("AskedCocks$Present", "asked", "I", false)
  | 2 => ("AskedCocks$Present", "roofs", "[I", true)
  | 3 => ("AskedCocks$Present", "seen", "[[I", true)
  | 4 => ("AskedCocks$Present", "deedSorts", "[I", true)
  | 5 => ("AskedCocks$Present", "deedNumbers", "[I", true)
  | 6 => ("AskedCocks$Present", "deedRoofs", "[I", true)
  | _ => ("AskedCocks$Present", "deeds", "I", false)
def tyX3 : Nat → FieldType := fun k => match k with
  | 0 => .int
  | 1 => .int
  | 2 => .array .int
  | 3 => .array (.array .int)
  | 4 => .array .int
  | 5 => .array .int
  | 6 => .array .int
  | _ => .int
abbrev wsX30 : List Cond := u_ws RX3 TX3 8
theorem nmX3 : ∀ a, a < 8 → ∀ b, b < 8 → a ≠ b → (TX3 a).2.1 ≠ (TX3 b).2.1 := by decide +kernel
theorem tyX3_ok : ∀ k, k < 8 → parseFieldDescriptor (TX3 k).2.2.1 = some (tyX3 k) := by decide +kernel
abbrev cX3_init : ByteArray := prog_5_method_1_code
def yX3_init : MethodName := ⟨RX3, "<init>", "()V"⟩
abbrev cX3_beginOver : ByteArray := prog_5_method_2_code
def yX3_beginOver : MethodName := ⟨RX3, "beginOver", "([I)V"⟩
abbrev cX3_becomeAs : ByteArray := prog_5_method_3_code
def yX3_becomeAs : MethodName := ⟨RX3, "becomeAs", "(LAskedCocks$Present;)V"⟩
abbrev cX3_isAsked : ByteArray := prog_5_method_4_code
def yX3_isAsked : MethodName := ⟨RX3, "isAsked", "(I)Z"⟩
abbrev cX3_rememberHour : ByteArray := prog_5_method_5_code
def yX3_rememberHour : MethodName := ⟨RX3, "rememberHour", "()V"⟩
abbrev cX3_build : ByteArray := prog_5_method_6_code
def yX3_build : MethodName := ⟨RX3, "build", "(II)V"⟩
abbrev cX3_bringDown : ByteArray := prog_5_method_7_code
def yX3_bringDown : MethodName := ⟨RX3, "bringDown", "(I)V"⟩
abbrev cX3_remember : ByteArray := prog_5_method_8_code
def yX3_remember : MethodName := ⟨RX3, "remember", "(III)V"⟩
abbrev cX3_loseOldest : ByteArray := prog_5_method_9_code
def yX3_loseOldest : MethodName := ⟨RX3, "loseOldest", "()V"⟩
abbrev cX3_undoLatest : ByteArray := prog_5_method_10_code
def yX3_undoLatest : MethodName := ⟨RX3, "undoLatest", "()V"⟩
abbrev cX3_returnTo : ByteArray := prog_5_method_11_code
def yX3_returnTo : MethodName := ⟨RX3, "returnTo", "(I)V"⟩
abbrev cX3_seenByAnyOf : ByteArray := prog_5_method_12_code
def yX3_seenByAnyOf : MethodName := ⟨RX3, "seenByAnyOf", "(II)I"⟩
abbrev cX3_amountSeenBy : ByteArray := prog_5_method_13_code
def yX3_amountSeenBy : MethodName := ⟨RX3, "amountSeenBy", "(I)I"⟩
abbrev cX3_amountKnownWith : ByteArray := prog_5_method_14_code
def yX3_amountKnownWith : MethodName := ⟨RX3, "amountKnownWith", "(I)I"⟩
abbrev cX3_tellingOf : ByteArray := prog_5_method_15_code
def yX3_tellingOf : MethodName := ⟨RX3, "tellingOf", "(I)I"⟩
abbrev cX3_hoursToAsk : ByteArray := prog_5_method_16_code
def yX3_hoursToAsk : MethodName := ⟨RX3, "hoursToAsk", "(I)I"⟩
def RX4 : String := "AskedCocks$Reader"
def TX4 : u_T := fun k => match k with
  | 0 => ("AskedCocks$Reader", "draft", "LAskedCocks$Diocese;", true)
  | _ => ("AskedCocks$Reader", "numbers", "[I", true)
def tyX4 : Nat → FieldType := fun k => match k with
  | 0 => .object "AskedCocks$Diocese"
  | _ => .array .int
abbrev wsX40 : List Cond := u_ws RX4 TX4 2
theorem nmX4 : ∀ a, a < 2 → ∀ b, b < 2 → a ≠ b → (TX4 a).2.1 ≠ (TX4 b).2.1 := by decide +kernel
theorem tyX4_ok : ∀ k, k < 2 → parseFieldDescriptor (TX4 k).2.2.1 = some (tyX4 k) := by decide +kernel
abbrev cX4_init : ByteArray := prog_6_method_1_code
def yX4_init : MethodName := ⟨RX4, "<init>", "()V"⟩
abbrev cX4_readAll : ByteArray := prog_6_method_2_code
def yX4_readAll : MethodName := ⟨RX4, "readAll", "(LAskedCocks$Script;)I"⟩
abbrev cX4_readItem : ByteArray := prog_6_method_3_code
def yX4_readItem : MethodName := ⟨RX4, "readItem", "(LAskedCocks$Script;)Z"⟩
abbrev cX4_itemOf : ByteArray := prog_6_method_4_code
def yX4_itemOf : MethodName := ⟨RX4, "itemOf", "(I)I"⟩
abbrev cX4_hasRoomFor : ByteArray := prog_6_method_5_code
def yX4_hasRoomFor : MethodName := ⟨RX4, "hasRoomFor", "(I)Z"⟩
abbrev cX4_mayBe : ByteArray := prog_6_method_6_code
def yX4_mayBe : MethodName := ⟨RX4, "mayBe", "(III)Z"⟩
abbrev cX4_tell : ByteArray := prog_6_method_7_code
def yX4_tell : MethodName := ⟨RX4, "tell", "(I)V"⟩
def RX5 : String := "AskedCocks$Script"
def TX5 : u_T := fun k => match k with
  | 0 => ("AskedCocks$Script", "bytes", "[I", true)
  | 1 => ("AskedCocks$Script", "length", "I", false)
  | 2 => ("AskedCocks$Script", "at", "I", false)
  | 3 => ("AskedCocks$Script", "tokenStart", "I", false)
  | _ => ("AskedCocks$Script", "tokenValue", "I", false)
def tyX5 : Nat → FieldType := fun k => match k with
  | 0 => .array .int
  | 1 => .int
  | 2 => .int
  | 3 => .int
  | _ => .int
abbrev wsX50 : List Cond := u_ws RX5 TX5 5
theorem nmX5 : ∀ a, a < 5 → ∀ b, b < 5 → a ≠ b → (TX5 a).2.1 ≠ (TX5 b).2.1 := by decide +kernel
theorem tyX5_ok : ∀ k, k < 5 → parseFieldDescriptor (TX5 k).2.2.1 = some (tyX5 k) := by decide +kernel
abbrev cX5_init : ByteArray := prog_7_method_1_code
def yX5_init : MethodName := ⟨RX5, "<init>", "()V"⟩
abbrev cX5_append : ByteArray := prog_7_method_2_code
def yX5_append : MethodName := ⟨RX5, "append", "(I)Z"⟩
abbrev cX5_empty : ByteArray := prog_7_method_3_code
def yX5_empty : MethodName := ⟨RX5, "empty", "()V"⟩
abbrev cX5_rewind : ByteArray := prog_7_method_4_code
def yX5_rewind : MethodName := ⟨RX5, "rewind", "()V"⟩
abbrev cX5_nextToken : ByteArray := prog_7_method_5_code
def yX5_nextToken : MethodName := ⟨RX5, "nextToken", "()I"⟩
abbrev cX5_readWord : ByteArray := prog_7_method_6_code
def yX5_readWord : MethodName := ⟨RX5, "readWord", "()I"⟩
abbrev cX5_readNumber : ByteArray := prog_7_method_7_code
def yX5_readNumber : MethodName := ⟨RX5, "readNumber", "()I"⟩
abbrev cX5_isLetter : ByteArray := prog_7_method_8_code
def yX5_isLetter : MethodName := ⟨RX5, "isLetter", "(I)Z"⟩
abbrev cX5_isDigit : ByteArray := prog_7_method_9_code
def yX5_isDigit : MethodName := ⟨RX5, "isDigit", "(I)Z"⟩
def RX6 : String := "AskedCocks$Watch"
def TX6 : u_T := fun k => match k with
  | 0 => ("AskedCocks$Watch", "told", "LAskedCocks$Diocese;", true)
  | _ => ("AskedCocks$Watch", "present", "LAskedCocks$Present;", true)
def tyX6 : Nat → FieldType := fun k => match k with
  | 0 => .object "AskedCocks$Diocese"
  | _ => .object "AskedCocks$Present"
abbrev wsX60 : List Cond := u_ws RX6 TX6 2
theorem nmX6 : ∀ a, a < 2 → ∀ b, b < 2 → a ≠ b → (TX6 a).2.1 ≠ (TX6 b).2.1 := by decide +kernel
theorem tyX6_ok : ∀ k, k < 2 → parseFieldDescriptor (TX6 k).2.2.1 = some (tyX6 k) := by decide +kernel
abbrev cX6_init : ByteArray := prog_8_method_1_code
def yX6_init : MethodName := ⟨RX6, "<init>", "()V"⟩
abbrev cX6_beginWith : ByteArray := prog_8_method_2_code
def yX6_beginWith : MethodName := ⟨RX6, "beginWith", "(LAskedCocks$Diocese;)V"⟩
abbrev cX6_eyeOf : ByteArray := prog_8_method_3_code
def yX6_eyeOf : MethodName := ⟨RX6, "eyeOf", "(I)I"⟩
abbrev cX6_canSee : ByteArray := prog_8_method_4_code
def yX6_canSee : MethodName := ⟨RX6, "canSee", "(III)Z"⟩
abbrev cX6_isLineFree : ByteArray := prog_8_method_5_code
def yX6_isLineFree : MethodName := ⟨RX6, "isLineFree", "(III)Z"⟩
abbrev cX6_viewOf : ByteArray := prog_8_method_6_code
def yX6_viewOf : MethodName := ⟨RX6, "viewOf", "(II)I"⟩
abbrev cX6_unseenIn : ByteArray := prog_8_method_7_code
def yX6_unseenIn : MethodName := ⟨RX6, "unseenIn", "(I)I"⟩
abbrev cX6_hoursInView : ByteArray := prog_8_method_8_code
def yX6_hoursInView : MethodName := ⟨RX6, "hoursInView", "(IIII)I"⟩
abbrev cX6_goBy : ByteArray := prog_8_method_9_code
def yX6_goBy : MethodName := ⟨RX6, "goBy", "(I)V"⟩
abbrev cX6_seeAllIn : ByteArray := prog_8_method_10_code
def yX6_seeAllIn : MethodName := ⟨RX6, "seeAllIn", "(I)V"⟩
abbrev cX6_seeOne : ByteArray := prog_8_method_11_code
def yX6_seeOne : MethodName := ⟨RX6, "seeOne", "(III)V"⟩
abbrev cX6_cover : ByteArray := prog_8_method_12_code
def yX6_cover : MethodName := ⟨RX6, "cover", "()I"⟩
abbrev cX6_bestToAsk : ByteArray := prog_8_method_13_code
def yX6_bestToAsk : MethodName := ⟨RX6, "bestToAsk", "(I)I"⟩
abbrev cX6_isBetter : ByteArray := prog_8_method_14_code
def yX6_isBetter : MethodName := ⟨RX6, "isBetter", "(II)Z"⟩
def RX7 : String := "AskedCocks"
def TX7 : u_T := fun k => match k with
  | 0 => ("AskedCocks", "script", "LAskedCocks$Script;", true)
  | 1 => ("AskedCocks", "reader", "LAskedCocks$Reader;", true)
  | 2 => ("AskedCocks", "watch", "LAskedCocks$Watch;", true)
  | 3 => ("AskedCocks", "clues", "LAskedCocks$Clues;", true)
  | 4 => ("AskedCocks", "kinds", "LAskedCocks$Kinds;", true)
  | 5 => ("AskedCocks", "images", "[LAskedCocks$Present;", true)
  | _ => ("AskedCocks", "imagesKept", "I", false)
def tyX7 : Nat → FieldType := fun k => match k with
  | 0 => .object "AskedCocks$Script"
  | 1 => .object "AskedCocks$Reader"
  | 2 => .object "AskedCocks$Watch"
  | 3 => .object "AskedCocks$Clues"
  | 4 => .object "AskedCocks$Kinds"
  | 5 => .array (.object "AskedCocks$Present")
  | _ => .int
abbrev wsX70 : List Cond := u_ws RX7 TX7 7
theorem nmX7 : ∀ a, a < 7 → ∀ b, b < 7 → a ≠ b → (TX7 a).2.1 ≠ (TX7 b).2.1 := by decide +kernel
theorem tyX7_ok : ∀ k, k < 7 → parseFieldDescriptor (TX7 k).2.2.1 = some (tyX7 k) := by decide +kernel
abbrev cX7_init : ByteArray := prog_1_method_1_code
def yX7_init : MethodName := ⟨RX7, "<init>", "()V"⟩
abbrev cX7_type : ByteArray := prog_1_method_2_code
def yX7_type : MethodName := ⟨RX7, "type", "(I)I"⟩
abbrev cX7_clear : ByteArray := prog_1_method_3_code
def yX7_clear : MethodName := ⟨RX7, "clear", "()I"⟩
abbrev cX7_diocese : ByteArray := prog_1_method_4_code
def yX7_diocese : MethodName := ⟨RX7, "diocese", "()I"⟩
abbrev cX7_roof : ByteArray := prog_1_method_5_code
def yX7_roof : MethodName := ⟨RX7, "roof", "(I)I"⟩
abbrev cX7_cock : ByteArray := prog_1_method_6_code
def yX7_cock : MethodName := ⟨RX7, "cock", "(II)I"⟩
abbrev cX7_one : ByteArray := prog_1_method_7_code
def yX7_one : MethodName := ⟨RX7, "one", "(II)I"⟩
abbrev cX7_saw : ByteArray := prog_1_method_8_code
def yX7_saw : MethodName := ⟨RX7, "saw", "(II)I"⟩
abbrev cX7_known : ByteArray := prog_1_method_9_code
def yX7_known : MethodName := ⟨RX7, "known", "(I)I"⟩
abbrev cX7_hours : ByteArray := prog_1_method_10_code
def yX7_hours : MethodName := ⟨RX7, "hours", "(I)I"⟩
abbrev cX7_builds : ByteArray := prog_1_method_11_code
def yX7_builds : MethodName := ⟨RX7, "builds", "(II)I"⟩
abbrev cX7_asks : ByteArray := prog_1_method_12_code
def yX7_asks : MethodName := ⟨RX7, "asks", "(I)I"⟩
abbrev cX7_undo : ByteArray := prog_1_method_13_code
def yX7_undo : MethodName := ⟨RX7, "undo", "()I"⟩
abbrev cX7_now : ByteArray := prog_1_method_14_code
def yX7_now : MethodName := ⟨RX7, "now", "(I)I"⟩
abbrev cX7_view : ByteArray := prog_1_method_15_code
def yX7_view : MethodName := ⟨RX7, "view", "(II)I"⟩
abbrev cX7_blind : ByteArray := prog_1_method_16_code
def yX7_blind : MethodName := ⟨RX7, "blind", "(I)I"⟩
abbrev cX7_most : ByteArray := prog_1_method_17_code
def yX7_most : MethodName := ⟨RX7, "most", "(II)I"⟩
abbrev cX7_odds : ByteArray := prog_1_method_18_code
def yX7_odds : MethodName := ⟨RX7, "odds", "(IIIIII)I"⟩
abbrev cX7_faced : ByteArray := prog_1_method_19_code
def yX7_faced : MethodName := ⟨RX7, "faced", "(II)I"⟩
abbrev cX7_laws : ByteArray := prog_1_method_20_code
def yX7_laws : MethodName := ⟨RX7, "laws", "(I)I"⟩
abbrev cX7_tryNext : ByteArray := prog_1_method_21_code
def yX7_tryNext : MethodName := ⟨RX7, "tryNext", "()I"⟩
abbrev cX7_met : ByteArray := prog_1_method_22_code
def yX7_met : MethodName := ⟨RX7, "met", "(II)I"⟩
abbrev cX7_ways : ByteArray := prog_1_method_23_code
def yX7_ways : MethodName := ⟨RX7, "ways", "(I)I"⟩
abbrev cX7_falses : ByteArray := prog_1_method_24_code
def yX7_falses : MethodName := ⟨RX7, "falses", "(I)I"⟩
abbrev cX7_forget : ByteArray := prog_1_method_25_code
def yX7_forget : MethodName := ⟨RX7, "forget", "()I"⟩
abbrev cX7_mark : ByteArray := prog_1_method_26_code
def yX7_mark : MethodName := ⟨RX7, "mark", "(II)I"⟩
abbrev cX7_keep : ByteArray := prog_1_method_27_code
def yX7_keep : MethodName := ⟨RX7, "keep", "(I)I"⟩
abbrev cX7_back : ByteArray := prog_1_method_28_code
def yX7_back : MethodName := ⟨RX7, "back", "(I)I"⟩
abbrev cX7_count : ByteArray := prog_1_method_29_code
def yX7_count : MethodName := ⟨RX7, "count", "(I)I"⟩
abbrev cX7_trace : ByteArray := prog_1_method_30_code
def yX7_trace : MethodName := ⟨RX7, "trace", "()J"⟩
abbrev cX7_isCock : ByteArray := prog_1_method_31_code
def yX7_isCock : MethodName := ⟨RX7, "isCock", "(I)Z"⟩
abbrev cX7_isOne : ByteArray := prog_1_method_32_code
def yX7_isOne : MethodName := ⟨RX7, "isOne", "(I)Z"⟩
abbrev cX7_isCell : ByteArray := prog_1_method_33_code
def yX7_isCell : MethodName := ⟨RX7, "isCell", "(I)Z"⟩
abbrev cX7_isHour : ByteArray := prog_1_method_34_code
def yX7_isHour : MethodName := ⟨RX7, "isHour", "(I)Z"⟩
abbrev cX7_isWithin : ByteArray := prog_1_method_35_code
def yX7_isWithin : MethodName := ⟨RX7, "isWithin", "(III)Z"⟩
abbrev cX7_isIn : ByteArray := prog_1_method_36_code
def yX7_isIn : MethodName := ⟨RX7, "isIn", "(II)Z"⟩
abbrev cX7_sideBy : ByteArray := prog_1_method_37_code
def yX7_sideBy : MethodName := ⟨RX7, "sideBy", "(III)I"⟩
abbrev cX7_placeBy : ByteArray := prog_1_method_38_code
def yX7_placeBy : MethodName := ⟨RX7, "placeBy", "(III)I"⟩
abbrev cX7_power : ByteArray := prog_1_method_39_code
def yX7_power : MethodName := ⟨RX7, "power", "(II)I"⟩
abbrev cX7_sharedWithTen : ByteArray := prog_1_method_40_code
def yX7_sharedWithTen : MethodName := ⟨RX7, "sharedWithTen", "(I)I"⟩
abbrev cX7_copyRows : ByteArray := prog_1_method_41_code
def yX7_copyRows : MethodName := ⟨RX7, "copyRows", "([[I[[I)V"⟩
def RX8 : String := "AskedCocksModel"
def TX8 : u_T := fun k => match k with
  | 0 => ("AskedCocksModel", "cocks", "I", false)
  | 1 => ("AskedCocksModel", "places", "[I", true)
  | 2 => ("AskedCocksModel", "rises", "[I", true)
  | 3 => ("AskedCocksModel", "sides", "[I", true)
  | 4 => ("AskedCocksModel", "turns", "[I", true)
  | 5 => ("AskedCocksModel", "people", "I", false)
  | 6 => ("AskedCocksModel", "starts", "[I", true)
  | 7 => ("AskedCocksModel", "speeds", "[I", true)
  | 8 => ("AskedCocksModel", "smokes", "I", false)
  | 9 => ("AskedCocksModel", "smoke", "[I", true)
  | 10 => ("AskedCocksModel", "st", "[I", true)
  | 11 => ("AskedCocksModel", "images", "[I", true)
  | 12 => ("AskedCocksModel", "isKept", "[Z", true)
  | 13 => ("AskedCocksModel", "facedMany", "I", false)
  | 14 => ("AskedCocksModel", "facing", "[I", true)
  | 15 => ("AskedCocksModel", "metMany", "I", false)
  | 16 => ("AskedCocksModel", "meets", "[I", true)
  | 17 => ("AskedCocksModel", "trace", "J", false)
  | 18 => ("AskedCocksModel", "text", "[I", true)
  | 19 => ("AskedCocksModel", "texted", "I", false)
  | 20 => ("AskedCocksModel", "cursor", "I", false)
  | 21 => ("AskedCocksModel", "start", "I", false)
  | 22 => ("AskedCocksModel", "token", "I", false)
  | 23 => ("AskedCocksModel", "number", "I", false)
  | 24 => ("AskedCocksModel", "isWrong", "Z", false)
  | 25 => ("AskedCocksModel", "items", "I", false)
  | 26 => ("AskedCocksModel", "saidRoof", "[I", true)
  | 27 => ("AskedCocksModel", "saidCocks", "I", false)
  | 28 => ("AskedCocksModel", "saidPlace", "[I", true)
  | 29 => ("AskedCocksModel", "saidRise", "[I", true)
  | 30 => ("AskedCocksModel", "saidSide", "[I", true)
  | 31 => ("AskedCocksModel", "saidTurn", "[I", true)
  | 32 => ("AskedCocksModel", "saidPeople", "I", false)
  | 33 => ("AskedCocksModel", "saidStart", "[I", true)
  | 34 => ("AskedCocksModel", "saidSpeed", "[I", true)
  | 35 => ("AskedCocksModel", "saidSmokes", "I", false)
  | _ => ("AskedCocksModel", "saidSmoke", "[I", true)
def tyX8 : Nat → FieldType := fun k => match k with
  | 0 => .int
  | 1 => .array .int
  | 2 => .array .int
  | 3 => .array .int
  | 4 => .array .int
  | 5 => .int
  | 6 => .array .int
  | 7 => .array .int
  | 8 => .int
  | 9 => .array .int
  | 10 => .array .int
  | 11 => .array .int
  | 12 => .array .boolean
  | 13 => .int
  | 14 => .array .int
  | 15 => .int
  | 16 => .array .int
  | 17 => .long
  | 18 => .array .int
  | 19 => .int
  | 20 => .int
  | 21 => .int
  | 22 => .int
  | 23 => .int
  | 24 => .boolean
  | 25 => .int
  | 26 => .array .int
  | 27 => .int
  | 28 => .array .int
  | 29 => .array .int
  | 30 => .array .int
  | 31 => .array .int
  | 32 => .int
  | 33 => .array .int
  | 34 => .array .int
  | 35 => .int
  | _ => .array .int
abbrev wsX80 : List Cond := u_ws RX8 TX8 37
theorem nmX8 : ∀ a, a < 37 → ∀ b, b < 37 → a ≠ b → (TX8 a).2.1 ≠ (TX8 b).2.1 := by decide +kernel
theorem tyX8_ok : ∀ k, k < 37 → parseFieldDescriptor (TX8 k).2.2.1 = some (tyX8 k) := by decide +kernel
abbrev cX8_init : ByteArray := prog_10_method_1_code
def yX8_init : MethodName := ⟨RX8, "<init>", "()V"⟩
abbrev cX8_in : ByteArray := prog_10_method_3_code
def yX8_in : MethodName := ⟨RX8, "in", "(III)Z"⟩
abbrev cX8_has : ByteArray := prog_10_method_4_code
def yX8_has : MethodName := ⟨RX8, "has", "(II)Z"⟩
abbrev cX8_bits : ByteArray := prog_10_method_5_code
def yX8_bits : MethodName := ⟨RX8, "bits", "(I)I"⟩
abbrev cX8_isCock : ByteArray := prog_10_method_6_code
def yX8_isCock : MethodName := ⟨RX8, "isCock", "(I)Z"⟩
abbrev cX8_isOne : ByteArray := prog_10_method_7_code
def yX8_isOne : MethodName := ⟨RX8, "isOne", "(I)Z"⟩
abbrev cX8_isCell : ByteArray := prog_10_method_8_code
def yX8_isCell : MethodName := ⟨RX8, "isCell", "(I)Z"⟩
abbrev cX8_isHour : ByteArray := prog_10_method_9_code
def yX8_isHour : MethodName := ⟨RX8, "isHour", "(I)Z"⟩
abbrev cX8_type : ByteArray := prog_10_method_10_code
def yX8_type : MethodName := ⟨RX8, "type", "(I)I"⟩
abbrev cX8_clear : ByteArray := prog_10_method_11_code
def yX8_clear : MethodName := ⟨RX8, "clear", "()I"⟩
abbrev cX8_letterAt : ByteArray := prog_10_method_12_code
def yX8_letterAt : MethodName := ⟨RX8, "letterAt", "(I)I"⟩
abbrev cX8_isFigure : ByteArray := prog_10_method_13_code
def yX8_isFigure : MethodName := ⟨RX8, "isFigure", "(I)Z"⟩
abbrev cX8_isLetter : ByteArray := prog_10_method_14_code
def yX8_isLetter : MethodName := ⟨RX8, "isLetter", "(I)Z"⟩
abbrev cX8_next : ByteArray := prog_10_method_15_code
def yX8_next : MethodName := ⟨RX8, "next", "()V"⟩
abbrev cX8_takesNumber : ByteArray := prog_10_method_16_code
def yX8_takesNumber : MethodName := ⟨RX8, "takesNumber", "(II)I"⟩
abbrev cX8_readRoof : ByteArray := prog_10_method_17_code
def yX8_readRoof : MethodName := ⟨RX8, "readRoof", "()V"⟩
abbrev cX8_readCock : ByteArray := prog_10_method_18_code
def yX8_readCock : MethodName := ⟨RX8, "readCock", "()V"⟩
abbrev cX8_readOne : ByteArray := prog_10_method_19_code
def yX8_readOne : MethodName := ⟨RX8, "readOne", "()V"⟩
abbrev cX8_readSmoke : ByteArray := prog_10_method_20_code
def yX8_readSmoke : MethodName := ⟨RX8, "readSmoke", "()V"⟩
abbrev cX8_mayBegin : ByteArray := prog_10_method_21_code
def yX8_mayBegin : MethodName := ⟨RX8, "mayBegin", "(I)Z"⟩
abbrev cX8_readBody : ByteArray := prog_10_method_22_code
def yX8_readBody : MethodName := ⟨RX8, "readBody", "(I)V"⟩
abbrev cX8_readItem : ByteArray := prog_10_method_23_code
def yX8_readItem : MethodName := ⟨RX8, "readItem", "()V"⟩
abbrev cX8_diocese : ByteArray := prog_10_method_24_code
def yX8_diocese : MethodName := ⟨RX8, "diocese", "()I"⟩
abbrev cX8_settles : ByteArray := prog_10_method_25_code
def yX8_settles : MethodName := ⟨RX8, "settles", "()V"⟩
abbrev cX8_eye : ByteArray := prog_10_method_26_code
def yX8_eye : MethodName := ⟨RX8, "eye", "(I)I"⟩
abbrev cX8_sideBy : ByteArray := prog_10_method_27_code
def yX8_sideBy : MethodName := ⟨RX8, "sideBy", "(III)I"⟩
abbrev cX8_isAsked : ByteArray := prog_10_method_28_code
def yX8_isAsked : MethodName := ⟨RX8, "isAsked", "(I)Z"⟩
abbrev cX8_isClear : ByteArray := prog_10_method_29_code
def yX8_isClear : MethodName := ⟨RX8, "isClear", "(II)Z"⟩
abbrev cX8_sees : ByteArray := prog_10_method_30_code
def yX8_sees : MethodName := ⟨RX8, "sees", "(III)Z"⟩
abbrev cX8_isSmoke : ByteArray := prog_10_method_31_code
def yX8_isSmoke : MethodName := ⟨RX8, "isSmoke", "(II)Z"⟩
abbrev cX8_walks : ByteArray := prog_10_method_32_code
def yX8_walks : MethodName := ⟨RX8, "walks", "(II)I"⟩
abbrev cX8_sawOf : ByteArray := prog_10_method_33_code
def yX8_sawOf : MethodName := ⟨RX8, "sawOf", "(II)I"⟩
abbrev cX8_sawBy : ByteArray := prog_10_method_34_code
def yX8_sawBy : MethodName := ⟨RX8, "sawBy", "(I)I"⟩
abbrev cX8_all : ByteArray := prog_10_method_35_code
def yX8_all : MethodName := ⟨RX8, "all", "()I"⟩
abbrev cX8_knownMuch : ByteArray := prog_10_method_36_code
def yX8_knownMuch : MethodName := ⟨RX8, "knownMuch", "()I"⟩
abbrev cX8_isLess : ByteArray := prog_10_method_37_code
def yX8_isLess : MethodName := ⟨RX8, "isLess", "(II)Z"⟩
abbrev cX8_cover : ByteArray := prog_10_method_38_code
def yX8_cover : MethodName := ⟨RX8, "cover", "()I"⟩
abbrev cX8_roof : ByteArray := prog_10_method_39_code
def yX8_roof : MethodName := ⟨RX8, "roof", "(I)I"⟩
abbrev cX8_cock : ByteArray := prog_10_method_40_code
def yX8_cock : MethodName := ⟨RX8, "cock", "(II)I"⟩
abbrev cX8_one : ByteArray := prog_10_method_41_code
def yX8_one : MethodName := ⟨RX8, "one", "(II)I"⟩
abbrev cX8_saw : ByteArray := prog_10_method_42_code
def yX8_saw : MethodName := ⟨RX8, "saw", "(II)I"⟩
abbrev cX8_known : ByteArray := prog_10_method_43_code
def yX8_known : MethodName := ⟨RX8, "known", "(I)I"⟩
abbrev cX8_remembers : ByteArray := prog_10_method_44_code
def yX8_remembers : MethodName := ⟨RX8, "remembers", "()V"⟩
abbrev cX8_hourGoes : ByteArray := prog_10_method_45_code
def yX8_hourGoes : MethodName := ⟨RX8, "hourGoes", "()V"⟩
abbrev cX8_hours : ByteArray := prog_10_method_46_code
def yX8_hours : MethodName := ⟨RX8, "hours", "(I)I"⟩
abbrev cX8_builds : ByteArray := prog_10_method_47_code
def yX8_builds : MethodName := ⟨RX8, "builds", "(II)I"⟩
abbrev cX8_asks : ByteArray := prog_10_method_48_code
def yX8_asks : MethodName := ⟨RX8, "asks", "(I)I"⟩
abbrev cX8_undo : ByteArray := prog_10_method_49_code
def yX8_undo : MethodName := ⟨RX8, "undo", "()I"⟩
abbrev cX8_now : ByteArray := prog_10_method_50_code
def yX8_now : MethodName := ⟨RX8, "now", "(I)I"⟩
abbrev cX8_viewOf : ByteArray := prog_10_method_51_code
def yX8_viewOf : MethodName := ⟨RX8, "viewOf", "(II)I"⟩
abbrev cX8_view : ByteArray := prog_10_method_52_code
def yX8_view : MethodName := ⟨RX8, "view", "(II)I"⟩
abbrev cX8_blind : ByteArray := prog_10_method_53_code
def yX8_blind : MethodName := ⟨RX8, "blind", "(I)I"⟩
abbrev cX8_takes : ByteArray := prog_10_method_54_code
def yX8_takes : MethodName := ⟨RX8, "takes", "(I)I"⟩
abbrev cX8_most : ByteArray := prog_10_method_55_code
def yX8_most : MethodName := ⟨RX8, "most", "(II)I"⟩
abbrev cX8_lowest : ByteArray := prog_10_method_56_code
def yX8_lowest : MethodName := ⟨RX8, "lowest", "(III)I"⟩
abbrev cX8_odds : ByteArray := prog_10_method_57_code
def yX8_odds : MethodName := ⟨RX8, "odds", "(IIIIII)I"⟩
abbrev cX8_faced : ByteArray := prog_10_method_58_code
def yX8_faced : MethodName := ⟨RX8, "faced", "(II)I"⟩
abbrev cX8_isLaw : ByteArray := prog_10_method_59_code
def yX8_isLaw : MethodName := ⟨RX8, "isLaw", "(I)Z"⟩
abbrev cX8_laws : ByteArray := prog_10_method_60_code
def yX8_laws : MethodName := ⟨RX8, "laws", "(I)I"⟩
abbrev cX8_tryNext : ByteArray := prog_10_method_61_code
def yX8_tryNext : MethodName := ⟨RX8, "tryNext", "()I"⟩
abbrev cX8_met : ByteArray := prog_10_method_62_code
def yX8_met : MethodName := ⟨RX8, "met", "(II)I"⟩
abbrev cX8_wrong : ByteArray := prog_10_method_63_code
def yX8_wrong : MethodName := ⟨RX8, "wrong", "(I)I"⟩
abbrev cX8_told : ByteArray := prog_10_method_64_code
def yX8_told : MethodName := ⟨RX8, "told", "(I)I"⟩
abbrev cX8_ways : ByteArray := prog_10_method_65_code
def yX8_ways : MethodName := ⟨RX8, "ways", "(I)I"⟩
abbrev cX8_falses : ByteArray := prog_10_method_66_code
def yX8_falses : MethodName := ⟨RX8, "falses", "(I)I"⟩
abbrev cX8_forget : ByteArray := prog_10_method_67_code
def yX8_forget : MethodName := ⟨RX8, "forget", "()I"⟩
abbrev cX8_mark : ByteArray := prog_10_method_68_code
def yX8_mark : MethodName := ⟨RX8, "mark", "(II)I"⟩
abbrev cX8_keep : ByteArray := prog_10_method_69_code
def yX8_keep : MethodName := ⟨RX8, "keep", "(I)I"⟩
abbrev cX8_back : ByteArray := prog_10_method_70_code
def yX8_back : MethodName := ⟨RX8, "back", "(I)I"⟩
abbrev cX8_count : ByteArray := prog_10_method_71_code
def yX8_count : MethodName := ⟨RX8, "count", "(I)I"⟩
abbrev cX8_trace : ByteArray := prog_10_method_72_code
def yX8_trace : MethodName := ⟨RX8, "trace", "()J"⟩
def RJ6 : String := "java/lang/Integer"
def TJ6 : u_T := fun k => match k with
  | _ => ("", "", "", false)
def tyJ6 : Nat → FieldType := fun k => match k with
  | _ => .int
abbrev wsJ60 : List Cond := u_ws RJ6 TJ6 0
theorem nmJ6 : ∀ a, a < 0 → ∀ b, b < 0 → a ≠ b → (TJ6 a).2.1 ≠ (TJ6 b).2.1 := by decide +kernel
theorem tyJ6_ok : ∀ k, k < 0 → parseFieldDescriptor (TJ6 k).2.2.1 = some (tyJ6 k) := by decide +kernel
abbrev cJ6_bitCount_0f7a4 : ByteArray := prog_11_method_49_code
def yJ6_bitCount_0f7a4 : MethodName := ⟨RJ6, "bitCount", "(I)I"⟩
def RJ9 : String := "java/lang/Math"
def TJ9 : u_T := fun k => match k with
  | _ => ("", "", "", false)
def tyJ9 : Nat → FieldType := fun k => match k with
  | _ => .int
abbrev wsJ90 : List Cond := u_ws RJ9 TJ9 0
theorem nmJ9 : ∀ a, a < 0 → ∀ b, b < 0 → a ≠ b → (TJ9 a).2.1 ≠ (TJ9 b).2.1 := by decide +kernel
theorem tyJ9_ok : ∀ k, k < 0 → parseFieldDescriptor (TJ9 k).2.2.1 = some (tyJ9 k) := by decide +kernel
abbrev cJ9_abs_0f7a4 : ByteArray := prog_12_method_59_code
def yJ9_abs_0f7a4 : MethodName := ⟨RJ9, "abs", "(I)I"⟩
abbrev cJ9_max_7cf53 : ByteArray := prog_12_method_65_code
def yJ9_max_7cf53 : MethodName := ⟨RJ9, "max", "(II)I"⟩
abbrev cJ9_min_7cf53 : ByteArray := prog_12_method_69_code
def yJ9_min_7cf53 : MethodName := ⟨RJ9, "min", "(II)I"⟩
def RJ10 : String := "java/lang/System"
def TJ10 : u_T := fun k => match k with
  | _ => ("", "", "", false)
def tyJ10 : Nat → FieldType := fun k => match k with
  | _ => .int
abbrev wsJ100 : List Cond := u_ws RJ10 TJ10 0
theorem nmJ10 : ∀ a, a < 0 → ∀ b, b < 0 → a ≠ b → (TJ10 a).2.1 ≠ (TJ10 b).2.1 := by decide +kernel
theorem tyJ10_ok : ∀ k, k < 0 → parseFieldDescriptor (TJ10 k).2.2.1 = some (tyJ10 k) := by decide +kernel
def RJ7 : String := "java/util/Arrays"
def TJ7 : u_T := fun k => match k with
  | _ => ("", "", "", false)
def tyJ7 : Nat → FieldType := fun k => match k with
  | _ => .int
abbrev wsJ70 : List Cond := u_ws RJ7 TJ7 0
theorem nmJ7 : ∀ a, a < 0 → ∀ b, b < 0 → a ≠ b → (TJ7 a).2.1 ≠ (TJ7 b).2.1 := by decide +kernel
theorem tyJ7_ok : ∀ k, k < 0 → parseFieldDescriptor (TJ7 k).2.2.1 = some (tyJ7 k) := by decide +kernel
abbrev cJ7_fill_53178 : ByteArray := prog_14_method_103_code
def yJ7_fill_53178 : MethodName := ⟨RJ7, "fill", "([II)V"⟩
def RL : String := "AskedCocksLaw"
abbrev cL_law : ByteArray := code
def yL_law : MethodName := ⟨RL, "law", "([I)Z"⟩
abbrev vwCl : List vw_C := [(RX0, TX0, 6), (RX1, TX1, 7), (RX2, TX2, 1), (RX3, TX3, 8), (RX4, TX4, 2), (RX5, TX5, 5), (RX6, TX6, 2), (RX7, TX7, 7), (RX8, TX8, 37)]
end
section
theorem dX0_init_0 : decode cX0_init 0 = .ok (.aload_n 0, 1) := by decide +kernel
theorem dX0_init_1 : decode cX0_init 1 = .ok (.invokespecial 3, 3) := by decide +kernel
theorem dX0_init_4 : decode cX0_init 4 = .ok (.aload_n 0, 1) := by decide +kernel
theorem dX0_init_5 : decode cX0_init 5 = .ok (.bipush 6, 2) := by decide +kernel
theorem dX0_init_7 : decode cX0_init 7 = .ok (.newarray .int, 2) := by decide +kernel
theorem dX0_init_9 : decode cX0_init 9 = .ok (.putfield 11, 3) := by decide +kernel
theorem dX0_init_12 : decode cX0_init 12 = .ok (.aload_n 0, 1) := by decide +kernel
theorem dX0_init_13 : decode cX0_init 13 = .ok (.bipush 6, 2) := by decide +kernel
theorem dX0_init_15 : decode cX0_init 15 = .ok (.newarray .int, 2) := by decide +kernel
theorem dX0_init_17 : decode cX0_init 17 = .ok (.putfield 15, 3) := by decide +kernel
theorem dX0_init_20 : decode cX0_init 20 = .ok (.aload_n 0, 1) := by decide +kernel
theorem dX0_init_21 : decode cX0_init 21 = .ok (.bipush 6, 2) := by decide +kernel
theorem dX0_init_23 : decode cX0_init 23 = .ok (.newarray .int, 2) := by decide +kernel
theorem dX0_init_25 : decode cX0_init 25 = .ok (.putfield 18, 3) := by decide +kernel
theorem dX0_init_28 : decode cX0_init 28 = .ok (.aload_n 0, 1) := by decide +kernel
theorem dX0_init_29 : decode cX0_init 29 = .ok (.bipush 6, 2) := by decide +kernel
theorem dX0_init_31 : decode cX0_init 31 = .ok (.newarray .int, 2) := by decide +kernel
theorem dX0_init_33 : decode cX0_init 33 = .ok (.putfield 21, 3) := by decide +kernel
theorem dX0_init_36 : decode cX0_init 36 = .ok (.return_, 1) := by decide +kernel
theorem dX0_drop_0 : decode cX0_drop 0 = .ok (.aload_n 0, 1) := by decide +kernel
theorem dX0_drop_1 : decode cX0_drop 1 = .ok (.iconst 0, 1) := by decide +kernel
theorem dX0_drop_2 : decode cX0_drop 2 = .ok (.putfield 24, 3) := by decide +kernel
theorem dX0_drop_5 : decode cX0_drop 5 = .ok (.aload_n 0, 1) := by decide +kernel
theorem dX0_drop_6 : decode cX0_drop 6 = .ok (.iconst 0, 1) := by decide +kernel
theorem dX0_drop_7 : decode cX0_drop 7 = .ok (.putfield 28, 3) := by decide +kernel
theorem dX0_drop_10 : decode cX0_drop 10 = .ok (.return_, 1) := by decide +kernel
theorem dX0_addFaced_0 : decode cX0_addFaced 0 = .ok (.aload_n 0, 1) := by decide +kernel
theorem dX0_addFaced_1 : decode cX0_addFaced 1 = .ok (.getfield 24, 3) := by decide +kernel
theorem dX0_addFaced_4 : decode cX0_addFaced 4 = .ok (.bipush 6, 2) := by decide +kernel
theorem dX0_addFaced_6 : decode cX0_addFaced 6 = .ok (.if_icmp .lt 5, 3) := by decide +kernel
theorem dX0_addFaced_9 : decode cX0_addFaced 9 = .ok (.iconst 0, 1) := by decide +kernel
theorem dX0_addFaced_10 : decode cX0_addFaced 10 = .ok (.ireturn, 1) := by decide +kernel
theorem dX0_addFaced_11 : decode cX0_addFaced 11 = .ok (.aload_n 0, 1) := by decide +kernel
theorem dX0_addFaced_12 : decode cX0_addFaced 12 = .ok (.getfield 11, 3) := by decide +kernel
theorem dX0_addFaced_15 : decode cX0_addFaced 15 = .ok (.aload_n 0, 1) := by decide +kernel
theorem dX0_addFaced_16 : decode cX0_addFaced 16 = .ok (.getfield 24, 3) := by decide +kernel
theorem dX0_addFaced_19 : decode cX0_addFaced 19 = .ok (.iload_n 1, 1) := by decide +kernel
theorem dX0_addFaced_20 : decode cX0_addFaced 20 = .ok (.iastore, 1) := by decide +kernel
theorem dX0_addFaced_21 : decode cX0_addFaced 21 = .ok (.aload_n 0, 1) := by decide +kernel
theorem dX0_addFaced_22 : decode cX0_addFaced 22 = .ok (.getfield 15, 3) := by decide +kernel
theorem dX0_addFaced_25 : decode cX0_addFaced 25 = .ok (.aload_n 0, 1) := by decide +kernel
theorem dX0_addFaced_26 : decode cX0_addFaced 26 = .ok (.getfield 24, 3) := by decide +kernel
theorem dX0_addFaced_29 : decode cX0_addFaced 29 = .ok (.iload_n 2, 1) := by decide +kernel
theorem dX0_addFaced_30 : decode cX0_addFaced 30 = .ok (.iastore, 1) := by decide +kernel
theorem dX0_addFaced_31 : decode cX0_addFaced 31 = .ok (.aload_n 0, 1) := by decide +kernel
theorem dX0_addFaced_32 : decode cX0_addFaced 32 = .ok (.dup, 1) := by decide +kernel
theorem dX0_addFaced_33 : decode cX0_addFaced 33 = .ok (.getfield 24, 3) := by decide +kernel
theorem dX0_addFaced_36 : decode cX0_addFaced 36 = .ok (.iconst 1, 1) := by decide +kernel
theorem dX0_addFaced_37 : decode cX0_addFaced 37 = .ok (.iadd, 1) := by decide +kernel
theorem dX0_addFaced_38 : decode cX0_addFaced 38 = .ok (.putfield 24, 3) := by decide +kernel
theorem dX0_addFaced_41 : decode cX0_addFaced 41 = .ok (.iconst 1, 1) := by decide +kernel
theorem dX0_addFaced_42 : decode cX0_addFaced 42 = .ok (.ireturn, 1) := by decide +kernel
theorem dX0_addMet_0 : decode cX0_addMet 0 = .ok (.aload_n 0, 1) := by decide +kernel
theorem dX0_addMet_1 : decode cX0_addMet 1 = .ok (.getfield 28, 3) := by decide +kernel
theorem dX0_addMet_4 : decode cX0_addMet 4 = .ok (.bipush 6, 2) := by decide +kernel
theorem dX0_addMet_6 : decode cX0_addMet 6 = .ok (.if_icmp .lt 5, 3) := by decide +kernel
theorem dX0_addMet_9 : decode cX0_addMet 9 = .ok (.iconst 0, 1) := by decide +kernel
theorem dX0_addMet_10 : decode cX0_addMet 10 = .ok (.ireturn, 1) := by decide +kernel
theorem dX0_addMet_11 : decode cX0_addMet 11 = .ok (.aload_n 0, 1) := by decide +kernel
theorem dX0_addMet_12 : decode cX0_addMet 12 = .ok (.getfield 18, 3) := by decide +kernel
theorem dX0_addMet_15 : decode cX0_addMet 15 = .ok (.aload_n 0, 1) := by decide +kernel
theorem dX0_addMet_16 : decode cX0_addMet 16 = .ok (.getfield 28, 3) := by decide +kernel
theorem dX0_addMet_19 : decode cX0_addMet 19 = .ok (.iload_n 1, 1) := by decide +kernel
theorem dX0_addMet_20 : decode cX0_addMet 20 = .ok (.iastore, 1) := by decide +kernel
theorem dX0_addMet_21 : decode cX0_addMet 21 = .ok (.aload_n 0, 1) := by decide +kernel
theorem dX0_addMet_22 : decode cX0_addMet 22 = .ok (.getfield 21, 3) := by decide +kernel
theorem dX0_addMet_25 : decode cX0_addMet 25 = .ok (.aload_n 0, 1) := by decide +kernel
theorem dX0_addMet_26 : decode cX0_addMet 26 = .ok (.getfield 28, 3) := by decide +kernel
theorem dX0_addMet_29 : decode cX0_addMet 29 = .ok (.iload_n 2, 1) := by decide +kernel
theorem dX0_addMet_30 : decode cX0_addMet 30 = .ok (.iastore, 1) := by decide +kernel
theorem dX0_addMet_31 : decode cX0_addMet 31 = .ok (.aload_n 0, 1) := by decide +kernel
theorem dX0_addMet_32 : decode cX0_addMet 32 = .ok (.dup, 1) := by decide +kernel
theorem dX0_addMet_33 : decode cX0_addMet 33 = .ok (.getfield 28, 3) := by decide +kernel
theorem dX0_addMet_36 : decode cX0_addMet 36 = .ok (.iconst 1, 1) := by decide +kernel
theorem dX0_addMet_37 : decode cX0_addMet 37 = .ok (.iadd, 1) := by decide +kernel
theorem dX0_addMet_38 : decode cX0_addMet 38 = .ok (.putfield 28, 3) := by decide +kernel
theorem dX0_addMet_41 : decode cX0_addMet 41 = .ok (.iconst 1, 1) := by decide +kernel
theorem dX0_addMet_42 : decode cX0_addMet 42 = .ok (.ireturn, 1) := by decide +kernel
theorem dX0_isLaw_0 : decode cX0_isLaw 0 = .ok (.iconst 0, 1) := by decide +kernel
theorem dX0_isLaw_1 : decode cX0_isLaw 1 = .ok (.istore_n 3, 1) := by decide +kernel
theorem dX0_isLaw_2 : decode cX0_isLaw 2 = .ok (.iload_n 3, 1) := by decide +kernel
theorem dX0_isLaw_3 : decode cX0_isLaw 3 = .ok (.aload_n 0, 1) := by decide +kernel
theorem dX0_isLaw_4 : decode cX0_isLaw 4 = .ok (.getfield 24, 3) := by decide +kernel
theorem dX0_isLaw_7 : decode cX0_isLaw 7 = .ok (.if_icmp .ge 31, 3) := by decide +kernel
theorem dX0_isLaw_10 : decode cX0_isLaw 10 = .ok (.iload_n 1, 1) := by decide +kernel
theorem dX0_isLaw_11 : decode cX0_isLaw 11 = .ok (.iload_n 2, 1) := by decide +kernel
theorem dX0_isLaw_12 : decode cX0_isLaw 12 = .ok (.aload_n 0, 1) := by decide +kernel
theorem dX0_isLaw_13 : decode cX0_isLaw 13 = .ok (.getfield 11, 3) := by decide +kernel
theorem dX0_isLaw_16 : decode cX0_isLaw 16 = .ok (.iload_n 3, 1) := by decide +kernel
theorem dX0_isLaw_17 : decode cX0_isLaw 17 = .ok (.iaload, 1) := by decide +kernel
theorem dX0_isLaw_18 : decode cX0_isLaw 18 = .ok (.invokestatic 31, 3) := by decide +kernel
theorem dX0_isLaw_21 : decode cX0_isLaw 21 = .ok (.aload_n 0, 1) := by decide +kernel
theorem dX0_isLaw_22 : decode cX0_isLaw 22 = .ok (.getfield 15, 3) := by decide +kernel
theorem dX0_isLaw_25 : decode cX0_isLaw 25 = .ok (.iload_n 3, 1) := by decide +kernel
theorem dX0_isLaw_26 : decode cX0_isLaw 26 = .ok (.iaload, 1) := by decide +kernel
theorem dX0_isLaw_27 : decode cX0_isLaw 27 = .ok (.if_icmp .eq 5, 3) := by decide +kernel
theorem dX0_isLaw_30 : decode cX0_isLaw 30 = .ok (.iconst 0, 1) := by decide +kernel
theorem dX0_isLaw_31 : decode cX0_isLaw 31 = .ok (.ireturn, 1) := by decide +kernel
theorem dX0_isLaw_32 : decode cX0_isLaw 32 = .ok (.iinc 3 1, 3) := by decide +kernel
theorem dX0_isLaw_35 : decode cX0_isLaw 35 = .ok (.goto (-33), 3) := by decide +kernel
theorem dX0_isLaw_38 : decode cX0_isLaw 38 = .ok (.iconst 1, 1) := by decide +kernel
theorem dX0_isLaw_39 : decode cX0_isLaw 39 = .ok (.ireturn, 1) := by decide +kernel
theorem dX0_lawCount_0 : decode cX0_lawCount 0 = .ok (.aload_n 0, 1) := by decide +kernel
theorem dX0_lawCount_1 : decode cX0_lawCount 1 = .ok (.iconst 0, 1) := by decide +kernel
theorem dX0_lawCount_2 : decode cX0_lawCount 2 = .ok (.iconst 0, 1) := by decide +kernel
theorem dX0_lawCount_3 : decode cX0_lawCount 3 = .ok (.invokevirtual 35, 3) := by decide +kernel
theorem dX0_lawCount_6 : decode cX0_lawCount 6 = .ok (.aload_n 0, 1) := by decide +kernel
theorem dX0_lawCount_7 : decode cX0_lawCount 7 = .ok (.iconst 1, 1) := by decide +kernel
theorem dX0_lawCount_8 : decode cX0_lawCount 8 = .ok (.iconst 0, 1) := by decide +kernel
theorem dX0_lawCount_9 : decode cX0_lawCount 9 = .ok (.invokevirtual 35, 3) := by decide +kernel
theorem dX0_lawCount_12 : decode cX0_lawCount 12 = .ok (.iadd, 1) := by decide +kernel
theorem dX0_lawCount_13 : decode cX0_lawCount 13 = .ok (.ireturn, 1) := by decide +kernel
theorem dX0_lawsFacing_0 : decode cX0_lawsFacing 0 = .ok (.iconst 0, 1) := by decide +kernel
theorem dX0_lawsFacing_1 : decode cX0_lawsFacing 1 = .ok (.istore_n 3, 1) := by decide +kernel
theorem dX0_lawsFacing_2 : decode cX0_lawsFacing 2 = .ok (.iconst 0, 1) := by decide +kernel
theorem dX0_lawsFacing_3 : decode cX0_lawsFacing 3 = .ok (.istore 4, 2) := by decide +kernel
theorem dX0_lawsFacing_5 : decode cX0_lawsFacing 5 = .ok (.iload 4, 2) := by decide +kernel
theorem dX0_lawsFacing_7 : decode cX0_lawsFacing 7 = .ok (.iconst 1, 1) := by decide +kernel
theorem dX0_lawsFacing_8 : decode cX0_lawsFacing 8 = .ok (.if_icmp .gt 51, 3) := by decide +kernel
theorem dX0_lawsFacing_11 : decode cX0_lawsFacing 11 = .ok (.iconst 0, 1) := by decide +kernel
theorem dX0_lawsFacing_12 : decode cX0_lawsFacing 12 = .ok (.istore 5, 2) := by decide +kernel
theorem dX0_lawsFacing_14 : decode cX0_lawsFacing 14 = .ok (.iload 5, 2) := by decide +kernel
theorem dX0_lawsFacing_16 : decode cX0_lawsFacing 16 = .ok (.bipush 9, 2) := by decide +kernel
theorem dX0_lawsFacing_18 : decode cX0_lawsFacing 18 = .ok (.if_icmp .gt 35, 3) := by decide +kernel
theorem dX0_lawsFacing_21 : decode cX0_lawsFacing 21 = .ok (.aload_n 0, 1) := by decide +kernel
theorem dX0_lawsFacing_22 : decode cX0_lawsFacing 22 = .ok (.iload 4, 2) := by decide +kernel
theorem dX0_lawsFacing_24 : decode cX0_lawsFacing 24 = .ok (.iload 5, 2) := by decide +kernel
theorem dX0_lawsFacing_26 : decode cX0_lawsFacing 26 = .ok (.invokevirtual 39, 3) := by decide +kernel
theorem dX0_lawsFacing_29 : decode cX0_lawsFacing 29 = .ok (.ifCond .eq 18, 3) := by decide +kernel
theorem dX0_lawsFacing_32 : decode cX0_lawsFacing 32 = .ok (.iload 4, 2) := by decide +kernel
theorem dX0_lawsFacing_34 : decode cX0_lawsFacing 34 = .ok (.iload 5, 2) := by decide +kernel
theorem dX0_lawsFacing_36 : decode cX0_lawsFacing 36 = .ok (.iload_n 2, 1) := by decide +kernel
theorem dX0_lawsFacing_37 : decode cX0_lawsFacing 37 = .ok (.invokestatic 31, 3) := by decide +kernel
theorem dX0_lawsFacing_40 : decode cX0_lawsFacing 40 = .ok (.iload_n 1, 1) := by decide +kernel
theorem dX0_lawsFacing_41 : decode cX0_lawsFacing 41 = .ok (.if_icmp .ne 6, 3) := by decide +kernel
theorem dX0_lawsFacing_44 : decode cX0_lawsFacing 44 = .ok (.iinc 3 1, 3) := by decide +kernel
theorem dX0_lawsFacing_47 : decode cX0_lawsFacing 47 = .ok (.iinc 5 1, 3) := by decide +kernel
theorem dX0_lawsFacing_50 : decode cX0_lawsFacing 50 = .ok (.goto (-36), 3) := by decide +kernel
theorem dX0_lawsFacing_53 : decode cX0_lawsFacing 53 = .ok (.iinc 4 1, 3) := by decide +kernel
theorem dX0_lawsFacing_56 : decode cX0_lawsFacing 56 = .ok (.goto (-51), 3) := by decide +kernel
theorem dX0_lawsFacing_59 : decode cX0_lawsFacing 59 = .ok (.iload_n 3, 1) := by decide +kernel
theorem dX0_lawsFacing_60 : decode cX0_lawsFacing 60 = .ok (.ireturn, 1) := by decide +kernel
theorem dX0_firstLaw_0 : decode cX0_firstLaw 0 = .ok (.iconst 0, 1) := by decide +kernel
theorem dX0_firstLaw_1 : decode cX0_firstLaw 1 = .ok (.istore_n 1, 1) := by decide +kernel
theorem dX0_firstLaw_2 : decode cX0_firstLaw 2 = .ok (.iload_n 1, 1) := by decide +kernel
theorem dX0_firstLaw_3 : decode cX0_firstLaw 3 = .ok (.iconst 1, 1) := by decide +kernel
theorem dX0_firstLaw_4 : decode cX0_firstLaw 4 = .ok (.if_icmp .gt 39, 3) := by decide +kernel
theorem dX0_firstLaw_7 : decode cX0_firstLaw 7 = .ok (.iconst 0, 1) := by decide +kernel
theorem dX0_firstLaw_8 : decode cX0_firstLaw 8 = .ok (.istore_n 2, 1) := by decide +kernel
theorem dX0_firstLaw_9 : decode cX0_firstLaw 9 = .ok (.iload_n 2, 1) := by decide +kernel
theorem dX0_firstLaw_10 : decode cX0_firstLaw 10 = .ok (.bipush 9, 2) := by decide +kernel
theorem dX0_firstLaw_12 : decode cX0_firstLaw 12 = .ok (.if_icmp .gt 25, 3) := by decide +kernel
theorem dX0_firstLaw_15 : decode cX0_firstLaw 15 = .ok (.aload_n 0, 1) := by decide +kernel
theorem dX0_firstLaw_16 : decode cX0_firstLaw 16 = .ok (.iload_n 1, 1) := by decide +kernel
theorem dX0_firstLaw_17 : decode cX0_firstLaw 17 = .ok (.iload_n 2, 1) := by decide +kernel
theorem dX0_firstLaw_18 : decode cX0_firstLaw 18 = .ok (.invokevirtual 39, 3) := by decide +kernel
theorem dX0_firstLaw_21 : decode cX0_firstLaw 21 = .ok (.ifCond .eq 10, 3) := by decide +kernel
theorem dX0_firstLaw_24 : decode cX0_firstLaw 24 = .ok (.bipush 10, 2) := by decide +kernel
theorem dX0_firstLaw_26 : decode cX0_firstLaw 26 = .ok (.iload_n 1, 1) := by decide +kernel
theorem dX0_firstLaw_27 : decode cX0_firstLaw 27 = .ok (.imul, 1) := by decide +kernel
theorem dX0_firstLaw_28 : decode cX0_firstLaw 28 = .ok (.iload_n 2, 1) := by decide +kernel
theorem dX0_firstLaw_29 : decode cX0_firstLaw 29 = .ok (.iadd, 1) := by decide +kernel
theorem dX0_firstLaw_30 : decode cX0_firstLaw 30 = .ok (.ireturn, 1) := by decide +kernel
theorem dX0_firstLaw_31 : decode cX0_firstLaw 31 = .ok (.iinc 2 1, 3) := by decide +kernel
theorem dX0_firstLaw_34 : decode cX0_firstLaw 34 = .ok (.goto (-25), 3) := by decide +kernel
theorem dX0_firstLaw_37 : decode cX0_firstLaw 37 = .ok (.iinc 1 1, 3) := by decide +kernel
theorem dX0_firstLaw_40 : decode cX0_firstLaw 40 = .ok (.goto (-38), 3) := by decide +kernel
theorem dX0_firstLaw_43 : decode cX0_firstLaw 43 = .ok (.bipush (-9), 2) := by decide +kernel
theorem dX0_firstLaw_45 : decode cX0_firstLaw 45 = .ok (.ireturn, 1) := by decide +kernel
theorem dX0_bestHourToTry_0 : decode cX0_bestHourToTry 0 = .ok (.bipush (-9), 2) := by decide +kernel
theorem dX0_bestHourToTry_2 : decode cX0_bestHourToTry 2 = .ok (.istore_n 1, 1) := by decide +kernel
theorem dX0_bestHourToTry_3 : decode cX0_bestHourToTry 3 = .ok (.aload_n 0, 1) := by decide +kernel
theorem dX0_bestHourToTry_4 : decode cX0_bestHourToTry 4 = .ok (.invokevirtual 43, 3) := by decide +kernel
theorem dX0_bestHourToTry_7 : decode cX0_bestHourToTry 7 = .ok (.istore_n 2, 1) := by decide +kernel
theorem dX0_bestHourToTry_8 : decode cX0_bestHourToTry 8 = .ok (.iconst 0, 1) := by decide +kernel
theorem dX0_bestHourToTry_9 : decode cX0_bestHourToTry 9 = .ok (.istore_n 3, 1) := by decide +kernel
theorem dX0_bestHourToTry_10 : decode cX0_bestHourToTry 10 = .ok (.iload_n 3, 1) := by decide +kernel
theorem dX0_bestHourToTry_11 : decode cX0_bestHourToTry 11 = .ok (.bipush 29, 2) := by decide +kernel
theorem dX0_bestHourToTry_13 : decode cX0_bestHourToTry 13 = .ok (.if_icmp .gt 37, 3) := by decide +kernel
theorem dX0_bestHourToTry_16 : decode cX0_bestHourToTry 16 = .ok (.aload_n 0, 1) := by decide +kernel
theorem dX0_bestHourToTry_17 : decode cX0_bestHourToTry 17 = .ok (.iconst 0, 1) := by decide +kernel
theorem dX0_bestHourToTry_18 : decode cX0_bestHourToTry 18 = .ok (.iload_n 3, 1) := by decide +kernel
theorem dX0_bestHourToTry_19 : decode cX0_bestHourToTry 19 = .ok (.invokevirtual 35, 3) := by decide +kernel
theorem dX0_bestHourToTry_22 : decode cX0_bestHourToTry 22 = .ok (.aload_n 0, 1) := by decide +kernel
theorem dX0_bestHourToTry_23 : decode cX0_bestHourToTry 23 = .ok (.iconst 1, 1) := by decide +kernel
theorem dX0_bestHourToTry_24 : decode cX0_bestHourToTry 24 = .ok (.iload_n 3, 1) := by decide +kernel
theorem dX0_bestHourToTry_25 : decode cX0_bestHourToTry 25 = .ok (.invokevirtual 35, 3) := by decide +kernel
theorem dX0_bestHourToTry_28 : decode cX0_bestHourToTry 28 = .ok (.invokestatic 47, 3) := by decide +kernel
theorem dX0_bestHourToTry_31 : decode cX0_bestHourToTry 31 = .ok (.istore 4, 2) := by decide +kernel
theorem dX0_bestHourToTry_33 : decode cX0_bestHourToTry 33 = .ok (.iload 4, 2) := by decide +kernel
theorem dX0_bestHourToTry_35 : decode cX0_bestHourToTry 35 = .ok (.iload_n 2, 1) := by decide +kernel
theorem dX0_bestHourToTry_36 : decode cX0_bestHourToTry 36 = .ok (.if_icmp .ge 8, 3) := by decide +kernel
theorem dX0_bestHourToTry_39 : decode cX0_bestHourToTry 39 = .ok (.iload_n 3, 1) := by decide +kernel
theorem dX0_bestHourToTry_40 : decode cX0_bestHourToTry 40 = .ok (.istore_n 1, 1) := by decide +kernel
theorem dX0_bestHourToTry_41 : decode cX0_bestHourToTry 41 = .ok (.iload 4, 2) := by decide +kernel
theorem dX0_bestHourToTry_43 : decode cX0_bestHourToTry 43 = .ok (.istore_n 2, 1) := by decide +kernel
theorem dX0_bestHourToTry_44 : decode cX0_bestHourToTry 44 = .ok (.iinc 3 1, 3) := by decide +kernel
theorem dX0_bestHourToTry_47 : decode cX0_bestHourToTry 47 = .ok (.goto (-37), 3) := by decide +kernel
theorem dX0_bestHourToTry_50 : decode cX0_bestHourToTry 50 = .ok (.iload_n 1, 1) := by decide +kernel
theorem dX0_bestHourToTry_51 : decode cX0_bestHourToTry 51 = .ok (.ireturn, 1) := by decide +kernel
theorem dX0_falsesOf_0 : decode cX0_falsesOf 0 = .ok (.iload_n 1, 1) := by decide +kernel
theorem dX0_falsesOf_1 : decode cX0_falsesOf 1 = .ok (.bipush 10, 2) := by decide +kernel
theorem dX0_falsesOf_3 : decode cX0_falsesOf 3 = .ok (.idiv, 1) := by decide +kernel
theorem dX0_falsesOf_4 : decode cX0_falsesOf 4 = .ok (.istore_n 2, 1) := by decide +kernel
theorem dX0_falsesOf_5 : decode cX0_falsesOf 5 = .ok (.iload_n 1, 1) := by decide +kernel
theorem dX0_falsesOf_6 : decode cX0_falsesOf 6 = .ok (.bipush 10, 2) := by decide +kernel
theorem dX0_falsesOf_8 : decode cX0_falsesOf 8 = .ok (.irem, 1) := by decide +kernel
theorem dX0_falsesOf_9 : decode cX0_falsesOf 9 = .ok (.iconst 3, 1) := by decide +kernel
theorem dX0_falsesOf_10 : decode cX0_falsesOf 10 = .ok (.isub, 1) := by decide +kernel
theorem dX0_falsesOf_11 : decode cX0_falsesOf 11 = .ok (.istore_n 3, 1) := by decide +kernel
theorem dX0_falsesOf_12 : decode cX0_falsesOf 12 = .ok (.iconst 0, 1) := by decide +kernel
theorem dX0_falsesOf_13 : decode cX0_falsesOf 13 = .ok (.istore 4, 2) := by decide +kernel
theorem dX0_falsesOf_15 : decode cX0_falsesOf 15 = .ok (.iconst 0, 1) := by decide +kernel
theorem dX0_falsesOf_16 : decode cX0_falsesOf 16 = .ok (.istore 5, 2) := by decide +kernel
theorem dX0_falsesOf_18 : decode cX0_falsesOf 18 = .ok (.iload 5, 2) := by decide +kernel
theorem dX0_falsesOf_20 : decode cX0_falsesOf 20 = .ok (.aload_n 0, 1) := by decide +kernel
theorem dX0_falsesOf_21 : decode cX0_falsesOf 21 = .ok (.getfield 28, 3) := by decide +kernel
theorem dX0_falsesOf_24 : decode cX0_falsesOf 24 = .ok (.if_icmp .ge 34, 3) := by decide +kernel
theorem dX0_falsesOf_27 : decode cX0_falsesOf 27 = .ok (.iload_n 2, 1) := by decide +kernel
theorem dX0_falsesOf_28 : decode cX0_falsesOf 28 = .ok (.iload_n 3, 1) := by decide +kernel
theorem dX0_falsesOf_29 : decode cX0_falsesOf 29 = .ok (.aload_n 0, 1) := by decide +kernel
theorem dX0_falsesOf_30 : decode cX0_falsesOf 30 = .ok (.getfield 21, 3) := by decide +kernel
theorem dX0_falsesOf_33 : decode cX0_falsesOf 33 = .ok (.iload 5, 2) := by decide +kernel
theorem dX0_falsesOf_35 : decode cX0_falsesOf 35 = .ok (.iaload, 1) := by decide +kernel
theorem dX0_falsesOf_36 : decode cX0_falsesOf 36 = .ok (.invokestatic 52, 3) := by decide +kernel
theorem dX0_falsesOf_39 : decode cX0_falsesOf 39 = .ok (.aload_n 0, 1) := by decide +kernel
theorem dX0_falsesOf_40 : decode cX0_falsesOf 40 = .ok (.getfield 18, 3) := by decide +kernel
theorem dX0_falsesOf_43 : decode cX0_falsesOf 43 = .ok (.iload 5, 2) := by decide +kernel
theorem dX0_falsesOf_45 : decode cX0_falsesOf 45 = .ok (.iaload, 1) := by decide +kernel
theorem dX0_falsesOf_46 : decode cX0_falsesOf 46 = .ok (.if_icmp .eq 6, 3) := by decide +kernel
theorem dX0_falsesOf_49 : decode cX0_falsesOf 49 = .ok (.iinc 4 1, 3) := by decide +kernel
theorem dX0_falsesOf_52 : decode cX0_falsesOf 52 = .ok (.iinc 5 1, 3) := by decide +kernel
theorem dX0_falsesOf_55 : decode cX0_falsesOf 55 = .ok (.goto (-37), 3) := by decide +kernel
theorem dX0_falsesOf_58 : decode cX0_falsesOf 58 = .ok (.iload 4, 2) := by decide +kernel
theorem dX0_falsesOf_60 : decode cX0_falsesOf 60 = .ok (.ireturn, 1) := by decide +kernel
theorem dX0_wayCount_0 : decode cX0_wayCount 0 = .ok (.iconst 0, 1) := by decide +kernel
theorem dX0_wayCount_1 : decode cX0_wayCount 1 = .ok (.istore_n 1, 1) := by decide +kernel
theorem dX0_wayCount_2 : decode cX0_wayCount 2 = .ok (.iconst 0, 1) := by decide +kernel
theorem dX0_wayCount_3 : decode cX0_wayCount 3 = .ok (.istore_n 2, 1) := by decide +kernel
theorem dX0_wayCount_4 : decode cX0_wayCount 4 = .ok (.iload_n 2, 1) := by decide +kernel
theorem dX0_wayCount_5 : decode cX0_wayCount 5 = .ok (.bipush 24, 2) := by decide +kernel
theorem dX0_wayCount_7 : decode cX0_wayCount 7 = .ok (.if_icmp .ge 39, 3) := by decide +kernel
theorem dX0_wayCount_10 : decode cX0_wayCount 10 = .ok (.iconst 0, 1) := by decide +kernel
theorem dX0_wayCount_11 : decode cX0_wayCount 11 = .ok (.istore_n 3, 1) := by decide +kernel
theorem dX0_wayCount_12 : decode cX0_wayCount 12 = .ok (.iload_n 3, 1) := by decide +kernel
theorem dX0_wayCount_13 : decode cX0_wayCount 13 = .ok (.bipush 6, 2) := by decide +kernel
theorem dX0_wayCount_15 : decode cX0_wayCount 15 = .ok (.if_icmp .gt 25, 3) := by decide +kernel
theorem dX0_wayCount_18 : decode cX0_wayCount 18 = .ok (.aload_n 0, 1) := by decide +kernel
theorem dX0_wayCount_19 : decode cX0_wayCount 19 = .ok (.bipush 10, 2) := by decide +kernel
theorem dX0_wayCount_21 : decode cX0_wayCount 21 = .ok (.iload_n 2, 1) := by decide +kernel
theorem dX0_wayCount_22 : decode cX0_wayCount 22 = .ok (.imul, 1) := by decide +kernel
theorem dX0_wayCount_23 : decode cX0_wayCount 23 = .ok (.iload_n 3, 1) := by decide +kernel
theorem dX0_wayCount_24 : decode cX0_wayCount 24 = .ok (.iadd, 1) := by decide +kernel
theorem dX0_wayCount_25 : decode cX0_wayCount 25 = .ok (.invokevirtual 55, 3) := by decide +kernel
theorem dX0_wayCount_28 : decode cX0_wayCount 28 = .ok (.ifCond .ne 6, 3) := by decide +kernel
theorem dX0_wayCount_31 : decode cX0_wayCount 31 = .ok (.iinc 1 1, 3) := by decide +kernel
theorem dX0_wayCount_34 : decode cX0_wayCount 34 = .ok (.iinc 3 1, 3) := by decide +kernel
theorem dX0_wayCount_37 : decode cX0_wayCount 37 = .ok (.goto (-25), 3) := by decide +kernel
theorem dX0_wayCount_40 : decode cX0_wayCount 40 = .ok (.iinc 2 1, 3) := by decide +kernel
theorem dX0_wayCount_43 : decode cX0_wayCount 43 = .ok (.goto (-39), 3) := by decide +kernel
theorem dX0_wayCount_46 : decode cX0_wayCount 46 = .ok (.iload_n 1, 1) := by decide +kernel
theorem dX0_wayCount_47 : decode cX0_wayCount 47 = .ok (.ireturn, 1) := by decide +kernel
theorem dX0_bestWay_0 : decode cX0_bestWay 0 = .ok (.iconst 0, 1) := by decide +kernel
theorem dX0_bestWay_1 : decode cX0_bestWay 1 = .ok (.istore_n 1, 1) := by decide +kernel
theorem dX0_bestWay_2 : decode cX0_bestWay 2 = .ok (.iconst 0, 1) := by decide +kernel
theorem dX0_bestWay_3 : decode cX0_bestWay 3 = .ok (.istore_n 2, 1) := by decide +kernel
theorem dX0_bestWay_4 : decode cX0_bestWay 4 = .ok (.iload_n 2, 1) := by decide +kernel
theorem dX0_bestWay_5 : decode cX0_bestWay 5 = .ok (.bipush 24, 2) := by decide +kernel
theorem dX0_bestWay_7 : decode cX0_bestWay 7 = .ok (.if_icmp .ge 48, 3) := by decide +kernel
theorem dX0_bestWay_10 : decode cX0_bestWay 10 = .ok (.iconst 0, 1) := by decide +kernel
theorem dX0_bestWay_11 : decode cX0_bestWay 11 = .ok (.istore_n 3, 1) := by decide +kernel
theorem dX0_bestWay_12 : decode cX0_bestWay 12 = .ok (.iload_n 3, 1) := by decide +kernel
theorem dX0_bestWay_13 : decode cX0_bestWay 13 = .ok (.bipush 6, 2) := by decide +kernel
theorem dX0_bestWay_15 : decode cX0_bestWay 15 = .ok (.if_icmp .gt 34, 3) := by decide +kernel
theorem dX0_bestWay_18 : decode cX0_bestWay 18 = .ok (.bipush 10, 2) := by decide +kernel
theorem dX0_bestWay_20 : decode cX0_bestWay 20 = .ok (.iload_n 2, 1) := by decide +kernel
theorem dX0_bestWay_21 : decode cX0_bestWay 21 = .ok (.imul, 1) := by decide +kernel
theorem dX0_bestWay_22 : decode cX0_bestWay 22 = .ok (.iload_n 3, 1) := by decide +kernel
theorem dX0_bestWay_23 : decode cX0_bestWay 23 = .ok (.iadd, 1) := by decide +kernel
theorem dX0_bestWay_24 : decode cX0_bestWay 24 = .ok (.istore 4, 2) := by decide +kernel
theorem dX0_bestWay_26 : decode cX0_bestWay 26 = .ok (.aload_n 0, 1) := by decide +kernel
theorem dX0_bestWay_27 : decode cX0_bestWay 27 = .ok (.iload 4, 2) := by decide +kernel
theorem dX0_bestWay_29 : decode cX0_bestWay 29 = .ok (.invokevirtual 55, 3) := by decide +kernel
theorem dX0_bestWay_32 : decode cX0_bestWay 32 = .ok (.aload_n 0, 1) := by decide +kernel
theorem dX0_bestWay_33 : decode cX0_bestWay 33 = .ok (.iload_n 1, 1) := by decide +kernel
theorem dX0_bestWay_34 : decode cX0_bestWay 34 = .ok (.invokevirtual 55, 3) := by decide +kernel
theorem dX0_bestWay_37 : decode cX0_bestWay 37 = .ok (.if_icmp .ge 6, 3) := by decide +kernel
theorem dX0_bestWay_40 : decode cX0_bestWay 40 = .ok (.iload 4, 2) := by decide +kernel
theorem dX0_bestWay_42 : decode cX0_bestWay 42 = .ok (.istore_n 1, 1) := by decide +kernel
theorem dX0_bestWay_43 : decode cX0_bestWay 43 = .ok (.iinc 3 1, 3) := by decide +kernel
theorem dX0_bestWay_46 : decode cX0_bestWay 46 = .ok (.goto (-34), 3) := by decide +kernel
theorem dX0_bestWay_49 : decode cX0_bestWay 49 = .ok (.iinc 2 1, 3) := by decide +kernel
theorem dX0_bestWay_52 : decode cX0_bestWay 52 = .ok (.goto (-48), 3) := by decide +kernel
theorem dX0_bestWay_55 : decode cX0_bestWay 55 = .ok (.iload_n 1, 1) := by decide +kernel
theorem dX0_bestWay_56 : decode cX0_bestWay 56 = .ok (.ireturn, 1) := by decide +kernel
theorem dX1_init_0 : decode cX1_init 0 = .ok (.aload_n 0, 1) := by decide +kernel
theorem dX1_init_1 : decode cX1_init 1 = .ok (.invokespecial 3, 3) := by decide +kernel
theorem dX1_init_4 : decode cX1_init 4 = .ok (.aload_n 0, 1) := by decide +kernel
theorem dX1_init_5 : decode cX1_init 5 = .ok (.bipush 24, 2) := by decide +kernel
theorem dX1_init_7 : decode cX1_init 7 = .ok (.newarray .int, 2) := by decide +kernel
theorem dX1_init_9 : decode cX1_init 9 = .ok (.putfield 9, 3) := by decide +kernel
theorem dX1_init_12 : decode cX1_init 12 = .ok (.aload_n 0, 1) := by decide +kernel
theorem dX1_init_13 : decode cX1_init 13 = .ok (.iconst 5, 1) := by decide +kernel
theorem dX1_init_14 : decode cX1_init 14 = .ok (.iconst 4, 1) := by decide +kernel
theorem dX1_init_15 : decode cX1_init 15 = .ok (.multianewarray 15 2, 4) := by decide +kernel
theorem dX1_init_19 : decode cX1_init 19 = .ok (.putfield 17, 3) := by decide +kernel
theorem dX1_init_22 : decode cX1_init 22 = .ok (.aload_n 0, 1) := by decide +kernel
theorem dX1_init_23 : decode cX1_init 23 = .ok (.iconst 4, 1) := by decide +kernel
theorem dX1_init_24 : decode cX1_init 24 = .ok (.iconst 2, 1) := by decide +kernel
theorem dX1_init_25 : decode cX1_init 25 = .ok (.multianewarray 15 2, 4) := by decide +kernel
theorem dX1_init_29 : decode cX1_init 29 = .ok (.putfield 20, 3) := by decide +kernel
theorem dX1_init_32 : decode cX1_init 32 = .ok (.aload_n 0, 1) := by decide +kernel
theorem dX1_init_33 : decode cX1_init 33 = .ok (.iconst 4, 1) := by decide +kernel
theorem dX1_init_34 : decode cX1_init 34 = .ok (.iconst 3, 1) := by decide +kernel
theorem dX1_init_35 : decode cX1_init 35 = .ok (.multianewarray 15 2, 4) := by decide +kernel
theorem dX1_init_39 : decode cX1_init 39 = .ok (.putfield 23, 3) := by decide +kernel
theorem dX1_init_42 : decode cX1_init 42 = .ok (.return_, 1) := by decide +kernel
theorem dX1_empty_0 : decode cX1_empty 0 = .ok (.aload_n 0, 1) := by decide +kernel
theorem dX1_empty_1 : decode cX1_empty 1 = .ok (.getfield 9, 3) := by decide +kernel
theorem dX1_empty_4 : decode cX1_empty 4 = .ok (.iconst 0, 1) := by decide +kernel
theorem dX1_empty_5 : decode cX1_empty 5 = .ok (.invokestatic 26, 3) := by decide +kernel
theorem dX1_empty_8 : decode cX1_empty 8 = .ok (.aload_n 0, 1) := by decide +kernel
theorem dX1_empty_9 : decode cX1_empty 9 = .ok (.iconst 0, 1) := by decide +kernel
theorem dX1_empty_10 : decode cX1_empty 10 = .ok (.putfield 32, 3) := by decide +kernel
theorem dX1_empty_13 : decode cX1_empty 13 = .ok (.aload_n 0, 1) := by decide +kernel
theorem dX1_empty_14 : decode cX1_empty 14 = .ok (.iconst 0, 1) := by decide +kernel
theorem dX1_empty_15 : decode cX1_empty 15 = .ok (.putfield 36, 3) := by decide +kernel
theorem dX1_empty_18 : decode cX1_empty 18 = .ok (.aload_n 0, 1) := by decide +kernel
theorem dX1_empty_19 : decode cX1_empty 19 = .ok (.iconst 0, 1) := by decide +kernel
theorem dX1_empty_20 : decode cX1_empty 20 = .ok (.putfield 39, 3) := by decide +kernel
theorem dX1_empty_23 : decode cX1_empty 23 = .ok (.return_, 1) := by decide +kernel
theorem dX1_addCock_0 : decode cX1_addCock 0 = .ok (.aload_n 1, 1) := by decide +kernel
theorem dX1_addCock_1 : decode cX1_addCock 1 = .ok (.iconst 0, 1) := by decide +kernel
theorem dX1_addCock_2 : decode cX1_addCock 2 = .ok (.aload_n 0, 1) := by decide +kernel
theorem dX1_addCock_3 : decode cX1_addCock 3 = .ok (.getfield 17, 3) := by decide +kernel
theorem dX1_addCock_6 : decode cX1_addCock 6 = .ok (.aload_n 0, 1) := by decide +kernel
theorem dX1_addCock_7 : decode cX1_addCock 7 = .ok (.getfield 32, 3) := by decide +kernel
theorem dX1_addCock_10 : decode cX1_addCock 10 = .ok (.aaload, 1) := by decide +kernel
theorem dX1_addCock_11 : decode cX1_addCock 11 = .ok (.iconst 0, 1) := by decide +kernel
theorem dX1_addCock_12 : decode cX1_addCock 12 = .ok (.iconst 4, 1) := by decide +kernel
theorem dX1_addCock_13 : decode cX1_addCock 13 = .ok (.invokestatic 42, 3) := by decide +kernel
theorem dX1_addCock_16 : decode cX1_addCock 16 = .ok (.aload_n 0, 1) := by decide +kernel
theorem dX1_addCock_17 : decode cX1_addCock 17 = .ok (.dup, 1) := by decide +kernel
theorem dX1_addCock_18 : decode cX1_addCock 18 = .ok (.getfield 32, 3) := by decide +kernel
theorem dX1_addCock_21 : decode cX1_addCock 21 = .ok (.iconst 1, 1) := by decide +kernel
theorem dX1_addCock_22 : decode cX1_addCock 22 = .ok (.iadd, 1) := by decide +kernel
theorem dX1_addCock_23 : decode cX1_addCock 23 = .ok (.putfield 32, 3) := by decide +kernel
theorem dX1_addCock_26 : decode cX1_addCock 26 = .ok (.return_, 1) := by decide +kernel
theorem dX1_addOne_0 : decode cX1_addOne 0 = .ok (.aload_n 0, 1) := by decide +kernel
theorem dX1_addOne_1 : decode cX1_addOne 1 = .ok (.getfield 20, 3) := by decide +kernel
theorem dX1_addOne_4 : decode cX1_addOne 4 = .ok (.aload_n 0, 1) := by decide +kernel
theorem dX1_addOne_5 : decode cX1_addOne 5 = .ok (.getfield 36, 3) := by decide +kernel
theorem dX1_addOne_8 : decode cX1_addOne 8 = .ok (.aaload, 1) := by decide +kernel
theorem dX1_addOne_9 : decode cX1_addOne 9 = .ok (.iconst 0, 1) := by decide +kernel
theorem dX1_addOne_10 : decode cX1_addOne 10 = .ok (.aload_n 1, 1) := by decide +kernel
theorem dX1_addOne_11 : decode cX1_addOne 11 = .ok (.iconst 0, 1) := by decide +kernel
theorem dX1_addOne_12 : decode cX1_addOne 12 = .ok (.iaload, 1) := by decide +kernel
theorem dX1_addOne_13 : decode cX1_addOne 13 = .ok (.iastore, 1) := by decide +kernel
theorem dX1_addOne_14 : decode cX1_addOne 14 = .ok (.aload_n 0, 1) := by decide +kernel
theorem dX1_addOne_15 : decode cX1_addOne 15 = .ok (.getfield 20, 3) := by decide +kernel
theorem dX1_addOne_18 : decode cX1_addOne 18 = .ok (.aload_n 0, 1) := by decide +kernel
theorem dX1_addOne_19 : decode cX1_addOne 19 = .ok (.getfield 36, 3) := by decide +kernel
theorem dX1_addOne_22 : decode cX1_addOne 22 = .ok (.aaload, 1) := by decide +kernel
theorem dX1_addOne_23 : decode cX1_addOne 23 = .ok (.iconst 1, 1) := by decide +kernel
theorem dX1_addOne_24 : decode cX1_addOne 24 = .ok (.aload_n 1, 1) := by decide +kernel
theorem dX1_addOne_25 : decode cX1_addOne 25 = .ok (.iconst 1, 1) := by decide +kernel
theorem dX1_addOne_26 : decode cX1_addOne 26 = .ok (.iaload, 1) := by decide +kernel
theorem dX1_addOne_27 : decode cX1_addOne 27 = .ok (.iconst 3, 1) := by decide +kernel
theorem dX1_addOne_28 : decode cX1_addOne 28 = .ok (.isub, 1) := by decide +kernel
theorem dX1_addOne_29 : decode cX1_addOne 29 = .ok (.iastore, 1) := by decide +kernel
theorem dX1_addOne_30 : decode cX1_addOne 30 = .ok (.aload_n 0, 1) := by decide +kernel
theorem dX1_addOne_31 : decode cX1_addOne 31 = .ok (.dup, 1) := by decide +kernel
theorem dX1_addOne_32 : decode cX1_addOne 32 = .ok (.getfield 36, 3) := by decide +kernel
theorem dX1_addOne_35 : decode cX1_addOne 35 = .ok (.iconst 1, 1) := by decide +kernel
theorem dX1_addOne_36 : decode cX1_addOne 36 = .ok (.iadd, 1) := by decide +kernel
theorem dX1_addOne_37 : decode cX1_addOne 37 = .ok (.putfield 36, 3) := by decide +kernel
theorem dX1_addOne_40 : decode cX1_addOne 40 = .ok (.return_, 1) := by decide +kernel
theorem dX1_addSmoke_0 : decode cX1_addSmoke 0 = .ok (.aload_n 1, 1) := by decide +kernel
theorem dX1_addSmoke_1 : decode cX1_addSmoke 1 = .ok (.iconst 0, 1) := by decide +kernel
theorem dX1_addSmoke_2 : decode cX1_addSmoke 2 = .ok (.aload_n 0, 1) := by decide +kernel
theorem dX1_addSmoke_3 : decode cX1_addSmoke 3 = .ok (.getfield 23, 3) := by decide +kernel
theorem dX1_addSmoke_6 : decode cX1_addSmoke 6 = .ok (.aload_n 0, 1) := by decide +kernel
theorem dX1_addSmoke_7 : decode cX1_addSmoke 7 = .ok (.getfield 39, 3) := by decide +kernel
theorem dX1_addSmoke_10 : decode cX1_addSmoke 10 = .ok (.aaload, 1) := by decide +kernel
theorem dX1_addSmoke_11 : decode cX1_addSmoke 11 = .ok (.iconst 0, 1) := by decide +kernel
theorem dX1_addSmoke_12 : decode cX1_addSmoke 12 = .ok (.iconst 3, 1) := by decide +kernel
theorem dX1_addSmoke_13 : decode cX1_addSmoke 13 = .ok (.invokestatic 42, 3) := by decide +kernel
theorem dX1_addSmoke_16 : decode cX1_addSmoke 16 = .ok (.aload_n 0, 1) := by decide +kernel
theorem dX1_addSmoke_17 : decode cX1_addSmoke 17 = .ok (.dup, 1) := by decide +kernel
theorem dX1_addSmoke_18 : decode cX1_addSmoke 18 = .ok (.getfield 39, 3) := by decide +kernel
theorem dX1_addSmoke_21 : decode cX1_addSmoke 21 = .ok (.iconst 1, 1) := by decide +kernel
theorem dX1_addSmoke_22 : decode cX1_addSmoke 22 = .ok (.iadd, 1) := by decide +kernel
theorem dX1_addSmoke_23 : decode cX1_addSmoke 23 = .ok (.putfield 39, 3) := by decide +kernel
theorem dX1_addSmoke_26 : decode cX1_addSmoke 26 = .ok (.return_, 1) := by decide +kernel
theorem dX1_becomeAs_0 : decode cX1_becomeAs 0 = .ok (.aload_n 1, 1) := by decide +kernel
theorem dX1_becomeAs_1 : decode cX1_becomeAs 1 = .ok (.getfield 9, 3) := by decide +kernel
theorem dX1_becomeAs_4 : decode cX1_becomeAs 4 = .ok (.iconst 0, 1) := by decide +kernel
theorem dX1_becomeAs_5 : decode cX1_becomeAs 5 = .ok (.aload_n 0, 1) := by decide +kernel
theorem dX1_becomeAs_6 : decode cX1_becomeAs 6 = .ok (.getfield 9, 3) := by decide +kernel
theorem dX1_becomeAs_9 : decode cX1_becomeAs 9 = .ok (.iconst 0, 1) := by decide +kernel
theorem dX1_becomeAs_10 : decode cX1_becomeAs 10 = .ok (.bipush 24, 2) := by decide +kernel
theorem dX1_becomeAs_12 : decode cX1_becomeAs 12 = .ok (.invokestatic 42, 3) := by decide +kernel
theorem dX1_becomeAs_15 : decode cX1_becomeAs 15 = .ok (.aload_n 1, 1) := by decide +kernel
theorem dX1_becomeAs_16 : decode cX1_becomeAs 16 = .ok (.getfield 17, 3) := by decide +kernel
theorem dX1_becomeAs_19 : decode cX1_becomeAs 19 = .ok (.aload_n 0, 1) := by decide +kernel
theorem dX1_becomeAs_20 : decode cX1_becomeAs 20 = .ok (.getfield 17, 3) := by decide +kernel
theorem dX1_becomeAs_23 : decode cX1_becomeAs 23 = .ok (.invokestatic 48, 3) := by decide +kernel
theorem dX1_becomeAs_26 : decode cX1_becomeAs 26 = .ok (.aload_n 1, 1) := by decide +kernel
theorem dX1_becomeAs_27 : decode cX1_becomeAs 27 = .ok (.getfield 20, 3) := by decide +kernel
theorem dX1_becomeAs_30 : decode cX1_becomeAs 30 = .ok (.aload_n 0, 1) := by decide +kernel
theorem dX1_becomeAs_31 : decode cX1_becomeAs 31 = .ok (.getfield 20, 3) := by decide +kernel
theorem dX1_becomeAs_34 : decode cX1_becomeAs 34 = .ok (.invokestatic 48, 3) := by decide +kernel
theorem dX1_becomeAs_37 : decode cX1_becomeAs 37 = .ok (.aload_n 1, 1) := by decide +kernel
theorem dX1_becomeAs_38 : decode cX1_becomeAs 38 = .ok (.getfield 23, 3) := by decide +kernel
theorem dX1_becomeAs_41 : decode cX1_becomeAs 41 = .ok (.aload_n 0, 1) := by decide +kernel
theorem dX1_becomeAs_42 : decode cX1_becomeAs 42 = .ok (.getfield 23, 3) := by decide +kernel
theorem dX1_becomeAs_45 : decode cX1_becomeAs 45 = .ok (.invokestatic 48, 3) := by decide +kernel
theorem dX1_becomeAs_48 : decode cX1_becomeAs 48 = .ok (.aload_n 0, 1) := by decide +kernel
theorem dX1_becomeAs_49 : decode cX1_becomeAs 49 = .ok (.aload_n 1, 1) := by decide +kernel
theorem dX1_becomeAs_50 : decode cX1_becomeAs 50 = .ok (.getfield 32, 3) := by decide +kernel
theorem dX1_becomeAs_53 : decode cX1_becomeAs 53 = .ok (.putfield 32, 3) := by decide +kernel
theorem dX1_becomeAs_56 : decode cX1_becomeAs 56 = .ok (.aload_n 0, 1) := by decide +kernel
theorem dX1_becomeAs_57 : decode cX1_becomeAs 57 = .ok (.aload_n 1, 1) := by decide +kernel
theorem dX1_becomeAs_58 : decode cX1_becomeAs 58 = .ok (.getfield 36, 3) := by decide +kernel
theorem dX1_becomeAs_61 : decode cX1_becomeAs 61 = .ok (.putfield 36, 3) := by decide +kernel
theorem dX1_becomeAs_64 : decode cX1_becomeAs 64 = .ok (.aload_n 0, 1) := by decide +kernel
theorem dX1_becomeAs_65 : decode cX1_becomeAs 65 = .ok (.aload_n 1, 1) := by decide +kernel
theorem dX1_becomeAs_66 : decode cX1_becomeAs 66 = .ok (.getfield 39, 3) := by decide +kernel
theorem dX1_becomeAs_69 : decode cX1_becomeAs 69 = .ok (.putfield 39, 3) := by decide +kernel
theorem dX1_becomeAs_72 : decode cX1_becomeAs 72 = .ok (.return_, 1) := by decide +kernel
theorem dX1_allCocks_0 : decode cX1_allCocks 0 = .ok (.iconst 1, 1) := by decide +kernel
theorem dX1_allCocks_1 : decode cX1_allCocks 1 = .ok (.aload_n 0, 1) := by decide +kernel
theorem dX1_allCocks_2 : decode cX1_allCocks 2 = .ok (.getfield 32, 3) := by decide +kernel
theorem dX1_allCocks_5 : decode cX1_allCocks 5 = .ok (.ishl, 1) := by decide +kernel
theorem dX1_allCocks_6 : decode cX1_allCocks 6 = .ok (.iconst 1, 1) := by decide +kernel
theorem dX1_allCocks_7 : decode cX1_allCocks 7 = .ok (.isub, 1) := by decide +kernel
theorem dX1_allCocks_8 : decode cX1_allCocks 8 = .ok (.ireturn, 1) := by decide +kernel
theorem dX1_sideOf_0 : decode cX1_sideOf 0 = .ok (.aload_n 0, 1) := by decide +kernel
theorem dX1_sideOf_1 : decode cX1_sideOf 1 = .ok (.getfield 17, 3) := by decide +kernel
theorem dX1_sideOf_4 : decode cX1_sideOf 4 = .ok (.iload_n 1, 1) := by decide +kernel
theorem dX1_sideOf_5 : decode cX1_sideOf 5 = .ok (.aaload, 1) := by decide +kernel
theorem dX1_sideOf_6 : decode cX1_sideOf 6 = .ok (.iconst 2, 1) := by decide +kernel
theorem dX1_sideOf_7 : decode cX1_sideOf 7 = .ok (.iaload, 1) := by decide +kernel
theorem dX1_sideOf_8 : decode cX1_sideOf 8 = .ok (.aload_n 0, 1) := by decide +kernel
theorem dX1_sideOf_9 : decode cX1_sideOf 9 = .ok (.getfield 17, 3) := by decide +kernel
theorem dX1_sideOf_12 : decode cX1_sideOf 12 = .ok (.iload_n 1, 1) := by decide +kernel
theorem dX1_sideOf_13 : decode cX1_sideOf 13 = .ok (.aaload, 1) := by decide +kernel
theorem dX1_sideOf_14 : decode cX1_sideOf 14 = .ok (.iconst 3, 1) := by decide +kernel
theorem dX1_sideOf_15 : decode cX1_sideOf 15 = .ok (.iaload, 1) := by decide +kernel
theorem dX1_sideOf_16 : decode cX1_sideOf 16 = .ok (.iload_n 2, 1) := by decide +kernel
theorem dX1_sideOf_17 : decode cX1_sideOf 17 = .ok (.invokestatic 52, 3) := by decide +kernel
theorem dX1_sideOf_20 : decode cX1_sideOf 20 = .ok (.ireturn, 1) := by decide +kernel
theorem dX1_cellOf_0 : decode cX1_cellOf 0 = .ok (.aload_n 0, 1) := by decide +kernel
theorem dX1_cellOf_1 : decode cX1_cellOf 1 = .ok (.getfield 20, 3) := by decide +kernel
theorem dX1_cellOf_4 : decode cX1_cellOf 4 = .ok (.iload_n 1, 1) := by decide +kernel
theorem dX1_cellOf_5 : decode cX1_cellOf 5 = .ok (.aaload, 1) := by decide +kernel
theorem dX1_cellOf_6 : decode cX1_cellOf 6 = .ok (.iconst 0, 1) := by decide +kernel
theorem dX1_cellOf_7 : decode cX1_cellOf 7 = .ok (.iaload, 1) := by decide +kernel
theorem dX1_cellOf_8 : decode cX1_cellOf 8 = .ok (.aload_n 0, 1) := by decide +kernel
theorem dX1_cellOf_9 : decode cX1_cellOf 9 = .ok (.getfield 20, 3) := by decide +kernel
theorem dX1_cellOf_12 : decode cX1_cellOf 12 = .ok (.iload_n 1, 1) := by decide +kernel
theorem dX1_cellOf_13 : decode cX1_cellOf 13 = .ok (.aaload, 1) := by decide +kernel
theorem dX1_cellOf_14 : decode cX1_cellOf 14 = .ok (.iconst 1, 1) := by decide +kernel
theorem dX1_cellOf_15 : decode cX1_cellOf 15 = .ok (.iaload, 1) := by decide +kernel
theorem dX1_cellOf_16 : decode cX1_cellOf 16 = .ok (.iload_n 2, 1) := by decide +kernel
theorem dX1_cellOf_17 : decode cX1_cellOf 17 = .ok (.invokestatic 56, 3) := by decide +kernel
theorem dX1_cellOf_20 : decode cX1_cellOf 20 = .ok (.istore_n 3, 1) := by decide +kernel
theorem dX1_cellOf_21 : decode cX1_cellOf 21 = .ok (.iload_n 3, 1) := by decide +kernel
theorem dX1_cellOf_22 : decode cX1_cellOf 22 = .ok (.invokestatic 59, 3) := by decide +kernel
theorem dX1_cellOf_25 : decode cX1_cellOf 25 = .ok (.ifCond .eq 7, 3) := by decide +kernel
theorem dX1_cellOf_28 : decode cX1_cellOf 28 = .ok (.iload_n 3, 1) := by decide +kernel
theorem dX1_cellOf_29 : decode cX1_cellOf 29 = .ok (.goto 5, 3) := by decide +kernel
theorem dX1_cellOf_32 : decode cX1_cellOf 32 = .ok (.bipush (-9), 2) := by decide +kernel
theorem dX1_cellOf_34 : decode cX1_cellOf 34 = .ok (.ireturn, 1) := by decide +kernel
theorem dX1_isSmoky_0 : decode cX1_isSmoky 0 = .ok (.iconst 0, 1) := by decide +kernel
theorem dX1_isSmoky_1 : decode cX1_isSmoky 1 = .ok (.istore_n 3, 1) := by decide +kernel
theorem dX1_isSmoky_2 : decode cX1_isSmoky 2 = .ok (.iload_n 3, 1) := by decide +kernel
theorem dX1_isSmoky_3 : decode cX1_isSmoky 3 = .ok (.aload_n 0, 1) := by decide +kernel
theorem dX1_isSmoky_4 : decode cX1_isSmoky 4 = .ok (.getfield 39, 3) := by decide +kernel
theorem dX1_isSmoky_7 : decode cX1_isSmoky 7 = .ok (.if_icmp .ge 46, 3) := by decide +kernel
theorem dX1_isSmoky_10 : decode cX1_isSmoky 10 = .ok (.aload_n 0, 1) := by decide +kernel
theorem dX1_isSmoky_11 : decode cX1_isSmoky 11 = .ok (.getfield 23, 3) := by decide +kernel
theorem dX1_isSmoky_14 : decode cX1_isSmoky 14 = .ok (.iload_n 3, 1) := by decide +kernel
theorem dX1_isSmoky_15 : decode cX1_isSmoky 15 = .ok (.aaload, 1) := by decide +kernel
theorem dX1_isSmoky_16 : decode cX1_isSmoky 16 = .ok (.iconst 0, 1) := by decide +kernel
theorem dX1_isSmoky_17 : decode cX1_isSmoky 17 = .ok (.iaload, 1) := by decide +kernel
theorem dX1_isSmoky_18 : decode cX1_isSmoky 18 = .ok (.iload_n 1, 1) := by decide +kernel
theorem dX1_isSmoky_19 : decode cX1_isSmoky 19 = .ok (.if_icmp .ne 28, 3) := by decide +kernel
theorem dX1_isSmoky_22 : decode cX1_isSmoky 22 = .ok (.iload_n 2, 1) := by decide +kernel
theorem dX1_isSmoky_23 : decode cX1_isSmoky 23 = .ok (.aload_n 0, 1) := by decide +kernel
theorem dX1_isSmoky_24 : decode cX1_isSmoky 24 = .ok (.getfield 23, 3) := by decide +kernel
theorem dX1_isSmoky_27 : decode cX1_isSmoky 27 = .ok (.iload_n 3, 1) := by decide +kernel
theorem dX1_isSmoky_28 : decode cX1_isSmoky 28 = .ok (.aaload, 1) := by decide +kernel
theorem dX1_isSmoky_29 : decode cX1_isSmoky 29 = .ok (.iconst 1, 1) := by decide +kernel
theorem dX1_isSmoky_30 : decode cX1_isSmoky 30 = .ok (.iaload, 1) := by decide +kernel
theorem dX1_isSmoky_31 : decode cX1_isSmoky 31 = .ok (.aload_n 0, 1) := by decide +kernel
theorem dX1_isSmoky_32 : decode cX1_isSmoky 32 = .ok (.getfield 23, 3) := by decide +kernel
theorem dX1_isSmoky_35 : decode cX1_isSmoky 35 = .ok (.iload_n 3, 1) := by decide +kernel
theorem dX1_isSmoky_36 : decode cX1_isSmoky 36 = .ok (.aaload, 1) := by decide +kernel
theorem dX1_isSmoky_37 : decode cX1_isSmoky 37 = .ok (.iconst 2, 1) := by decide +kernel
theorem dX1_isSmoky_38 : decode cX1_isSmoky 38 = .ok (.iaload, 1) := by decide +kernel
theorem dX1_isSmoky_39 : decode cX1_isSmoky 39 = .ok (.invokestatic 63, 3) := by decide +kernel
theorem dX1_isSmoky_42 : decode cX1_isSmoky 42 = .ok (.ifCond .eq 5, 3) := by decide +kernel
theorem dX1_isSmoky_45 : decode cX1_isSmoky 45 = .ok (.iconst 1, 1) := by decide +kernel
theorem dX1_isSmoky_46 : decode cX1_isSmoky 46 = .ok (.ireturn, 1) := by decide +kernel
theorem dX1_isSmoky_47 : decode cX1_isSmoky 47 = .ok (.iinc 3 1, 3) := by decide +kernel
theorem dX1_isSmoky_50 : decode cX1_isSmoky 50 = .ok (.goto (-48), 3) := by decide +kernel
theorem dX1_isSmoky_53 : decode cX1_isSmoky 53 = .ok (.iconst 0, 1) := by decide +kernel
theorem dX1_isSmoky_54 : decode cX1_isSmoky 54 = .ok (.ireturn, 1) := by decide +kernel
theorem dX2_init_0 : decode cX2_init 0 = .ok (.aload_n 0, 1) := by decide +kernel
theorem dX2_init_1 : decode cX2_init 1 = .ok (.invokespecial 3, 3) := by decide +kernel
theorem dX2_init_4 : decode cX2_init 4 = .ok (.return_, 1) := by decide +kernel
theorem dX2_markAs_0 : decode cX2_markAs 0 = .ok (.iload_n 1, 1) := by decide +kernel
theorem dX2_markAs_1 : decode cX2_markAs 1 = .ok (.tableswitch 81 0 5 #[39, 46, 53, 60, 67, 74], 39) := by decide +kernel
theorem dX2_markAs_40 : decode cX2_markAs 40 = .ok (.aload_n 0, 1) := by decide +kernel
theorem dX2_markAs_41 : decode cX2_markAs 41 = .ok (.aload_n 2, 1) := by decide +kernel
theorem dX2_markAs_42 : decode cX2_markAs 42 = .ok (.iload_n 3, 1) := by decide +kernel
theorem dX2_markAs_43 : decode cX2_markAs 43 = .ok (.invokevirtual 9, 3) := by decide +kernel
theorem dX2_markAs_46 : decode cX2_markAs 46 = .ok (.ireturn, 1) := by decide +kernel
theorem dX2_markAs_47 : decode cX2_markAs 47 = .ok (.aload_n 0, 1) := by decide +kernel
theorem dX2_markAs_48 : decode cX2_markAs 48 = .ok (.aload_n 2, 1) := by decide +kernel
theorem dX2_markAs_49 : decode cX2_markAs 49 = .ok (.iload_n 3, 1) := by decide +kernel
theorem dX2_markAs_50 : decode cX2_markAs 50 = .ok (.invokevirtual 15, 3) := by decide +kernel
theorem dX2_markAs_53 : decode cX2_markAs 53 = .ok (.ireturn, 1) := by decide +kernel
theorem dX2_markAs_54 : decode cX2_markAs 54 = .ok (.aload_n 0, 1) := by decide +kernel
theorem dX2_markAs_55 : decode cX2_markAs 55 = .ok (.aload_n 2, 1) := by decide +kernel
theorem dX2_markAs_56 : decode cX2_markAs 56 = .ok (.iload_n 3, 1) := by decide +kernel
theorem dX2_markAs_57 : decode cX2_markAs 57 = .ok (.invokevirtual 18, 3) := by decide +kernel
theorem dX2_markAs_60 : decode cX2_markAs 60 = .ok (.ireturn, 1) := by decide +kernel
theorem dX2_markAs_61 : decode cX2_markAs 61 = .ok (.aload_n 0, 1) := by decide +kernel
theorem dX2_markAs_62 : decode cX2_markAs 62 = .ok (.aload_n 2, 1) := by decide +kernel
theorem dX2_markAs_63 : decode cX2_markAs 63 = .ok (.iload_n 3, 1) := by decide +kernel
theorem dX2_markAs_64 : decode cX2_markAs 64 = .ok (.invokevirtual 21, 3) := by decide +kernel
theorem dX2_markAs_67 : decode cX2_markAs 67 = .ok (.ireturn, 1) := by decide +kernel
theorem dX2_markAs_68 : decode cX2_markAs 68 = .ok (.aload_n 0, 1) := by decide +kernel
theorem dX2_markAs_69 : decode cX2_markAs 69 = .ok (.aload_n 2, 1) := by decide +kernel
theorem dX2_markAs_70 : decode cX2_markAs 70 = .ok (.iload_n 3, 1) := by decide +kernel
theorem dX2_markAs_71 : decode cX2_markAs 71 = .ok (.invokevirtual 24, 3) := by decide +kernel
theorem dX2_markAs_74 : decode cX2_markAs 74 = .ok (.ireturn, 1) := by decide +kernel
theorem dX2_markAs_75 : decode cX2_markAs 75 = .ok (.aload_n 0, 1) := by decide +kernel
theorem dX2_markAs_76 : decode cX2_markAs 76 = .ok (.aload_n 2, 1) := by decide +kernel
theorem dX2_markAs_77 : decode cX2_markAs 77 = .ok (.iload_n 3, 1) := by decide +kernel
theorem dX2_markAs_78 : decode cX2_markAs 78 = .ok (.invokevirtual 27, 3) := by decide +kernel
theorem dX2_markAs_81 : decode cX2_markAs 81 = .ok (.ireturn, 1) := by decide +kernel
theorem dX2_markAs_82 : decode cX2_markAs 82 = .ok (.ldc 30, 2) := by decide +kernel
theorem dX2_markAs_84 : decode cX2_markAs 84 = .ok (.ireturn, 1) := by decide +kernel
theorem dX2_markAsCock_0 : decode cX2_markAsCock 0 = .ok (.aload_n 0, 1) := by decide +kernel
theorem dX2_markAsCock_1 : decode cX2_markAsCock 1 = .ok (.dup, 1) := by decide +kernel
theorem dX2_markAsCock_2 : decode cX2_markAsCock 2 = .ok (.getfield 31, 3) := by decide +kernel
theorem dX2_markAsCock_5 : decode cX2_markAsCock 5 = .ok (.lconst 1, 1) := by decide +kernel
theorem dX2_markAsCock_6 : decode cX2_markAsCock 6 = .ok (.ladd, 1) := by decide +kernel
theorem dX2_markAsCock_7 : decode cX2_markAsCock 7 = .ok (.putfield 31, 3) := by decide +kernel
theorem dX2_markAsCock_10 : decode cX2_markAsCock 10 = .ok (.aload_n 1, 1) := by decide +kernel
theorem dX2_markAsCock_11 : decode cX2_markAsCock 11 = .ok (.iload_n 2, 1) := by decide +kernel
theorem dX2_markAsCock_12 : decode cX2_markAsCock 12 = .ok (.invokevirtual 35, 3) := by decide +kernel
theorem dX2_markAsCock_15 : decode cX2_markAsCock 15 = .ok (.ireturn, 1) := by decide +kernel
theorem dX2_markAsGold_0 : decode cX2_markAsGold 0 = .ok (.aload_n 0, 1) := by decide +kernel
theorem dX2_markAsGold_1 : decode cX2_markAsGold 1 = .ok (.dup, 1) := by decide +kernel
theorem dX2_markAsGold_2 : decode cX2_markAsGold 2 = .ok (.getfield 31, 3) := by decide +kernel
theorem dX2_markAsGold_5 : decode cX2_markAsGold 5 = .ok (.ldc2_w 41, 3) := by decide +kernel
theorem dX2_markAsGold_8 : decode cX2_markAsGold 8 = .ok (.ladd, 1) := by decide +kernel
theorem dX2_markAsGold_9 : decode cX2_markAsGold 9 = .ok (.putfield 31, 3) := by decide +kernel
theorem dX2_markAsGold_12 : decode cX2_markAsGold 12 = .ok (.aload_n 0, 1) := by decide +kernel
theorem dX2_markAsGold_13 : decode cX2_markAsGold 13 = .ok (.aload_n 1, 1) := by decide +kernel
theorem dX2_markAsGold_14 : decode cX2_markAsGold 14 = .ok (.iload_n 2, 1) := by decide +kernel
theorem dX2_markAsGold_15 : decode cX2_markAsGold 15 = .ok (.invokevirtual 9, 3) := by decide +kernel
theorem dX2_markAsGold_18 : decode cX2_markAsGold 18 = .ok (.aload_n 1, 1) := by decide +kernel
theorem dX2_markAsGold_19 : decode cX2_markAsGold 19 = .ok (.getfield 43, 3) := by decide +kernel
theorem dX2_markAsGold_22 : decode cX2_markAsGold 22 = .ok (.iload_n 2, 1) := by decide +kernel
theorem dX2_markAsGold_23 : decode cX2_markAsGold 23 = .ok (.invokevirtual 47, 3) := by decide +kernel
theorem dX2_markAsGold_26 : decode cX2_markAsGold 26 = .ok (.iadd, 1) := by decide +kernel
theorem dX2_markAsGold_27 : decode cX2_markAsGold 27 = .ok (.ireturn, 1) := by decide +kernel
theorem dX2_markAsIron_0 : decode cX2_markAsIron 0 = .ok (.aload_n 0, 1) := by decide +kernel
theorem dX2_markAsIron_1 : decode cX2_markAsIron 1 = .ok (.dup, 1) := by decide +kernel
theorem dX2_markAsIron_2 : decode cX2_markAsIron 2 = .ok (.getfield 31, 3) := by decide +kernel
theorem dX2_markAsIron_5 : decode cX2_markAsIron 5 = .ok (.ldc2_w 52, 3) := by decide +kernel
theorem dX2_markAsIron_8 : decode cX2_markAsIron 8 = .ok (.ladd, 1) := by decide +kernel
theorem dX2_markAsIron_9 : decode cX2_markAsIron 9 = .ok (.putfield 31, 3) := by decide +kernel
theorem dX2_markAsIron_12 : decode cX2_markAsIron 12 = .ok (.aload_n 0, 1) := by decide +kernel
theorem dX2_markAsIron_13 : decode cX2_markAsIron 13 = .ok (.aload_n 1, 1) := by decide +kernel
theorem dX2_markAsIron_14 : decode cX2_markAsIron 14 = .ok (.iload_n 2, 1) := by decide +kernel
theorem dX2_markAsIron_15 : decode cX2_markAsIron 15 = .ok (.invokevirtual 9, 3) := by decide +kernel
theorem dX2_markAsIron_18 : decode cX2_markAsIron 18 = .ok (.aload_n 1, 1) := by decide +kernel
theorem dX2_markAsIron_19 : decode cX2_markAsIron 19 = .ok (.getfield 54, 3) := by decide +kernel
theorem dX2_markAsIron_22 : decode cX2_markAsIron 22 = .ok (.getfield 58, 3) := by decide +kernel
theorem dX2_markAsIron_25 : decode cX2_markAsIron 25 = .ok (.iload_n 2, 1) := by decide +kernel
theorem dX2_markAsIron_26 : decode cX2_markAsIron 26 = .ok (.aaload, 1) := by decide +kernel
theorem dX2_markAsIron_27 : decode cX2_markAsIron 27 = .ok (.iconst 0, 1) := by decide +kernel
theorem dX2_markAsIron_28 : decode cX2_markAsIron 28 = .ok (.iaload, 1) := by decide +kernel
theorem dX2_markAsIron_29 : decode cX2_markAsIron 29 = .ok (.isub, 1) := by decide +kernel
theorem dX2_markAsIron_30 : decode cX2_markAsIron 30 = .ok (.ireturn, 1) := by decide +kernel
theorem dX2_markAsDean_0 : decode cX2_markAsDean 0 = .ok (.aload_n 0, 1) := by decide +kernel
theorem dX2_markAsDean_1 : decode cX2_markAsDean 1 = .ok (.dup, 1) := by decide +kernel
theorem dX2_markAsDean_2 : decode cX2_markAsDean 2 = .ok (.getfield 31, 3) := by decide +kernel
theorem dX2_markAsDean_5 : decode cX2_markAsDean 5 = .ok (.ldc2_w 64, 3) := by decide +kernel
theorem dX2_markAsDean_8 : decode cX2_markAsDean 8 = .ok (.ladd, 1) := by decide +kernel
theorem dX2_markAsDean_9 : decode cX2_markAsDean 9 = .ok (.putfield 31, 3) := by decide +kernel
theorem dX2_markAsDean_12 : decode cX2_markAsDean 12 = .ok (.aload_n 0, 1) := by decide +kernel
theorem dX2_markAsDean_13 : decode cX2_markAsDean 13 = .ok (.aload_n 1, 1) := by decide +kernel
theorem dX2_markAsDean_14 : decode cX2_markAsDean 14 = .ok (.iload_n 2, 1) := by decide +kernel
theorem dX2_markAsDean_15 : decode cX2_markAsDean 15 = .ok (.invokevirtual 15, 3) := by decide +kernel
theorem dX2_markAsDean_18 : decode cX2_markAsDean 18 = .ok (.iconst 2, 1) := by decide +kernel
theorem dX2_markAsDean_19 : decode cX2_markAsDean 19 = .ok (.imul, 1) := by decide +kernel
theorem dX2_markAsDean_20 : decode cX2_markAsDean 20 = .ok (.ireturn, 1) := by decide +kernel
theorem dX2_markAsBarn_0 : decode cX2_markAsBarn 0 = .ok (.aload_n 0, 1) := by decide +kernel
theorem dX2_markAsBarn_1 : decode cX2_markAsBarn 1 = .ok (.dup, 1) := by decide +kernel
theorem dX2_markAsBarn_2 : decode cX2_markAsBarn 2 = .ok (.getfield 31, 3) := by decide +kernel
theorem dX2_markAsBarn_5 : decode cX2_markAsBarn 5 = .ok (.ldc2_w 66, 3) := by decide +kernel
theorem dX2_markAsBarn_8 : decode cX2_markAsBarn 8 = .ok (.ladd, 1) := by decide +kernel
theorem dX2_markAsBarn_9 : decode cX2_markAsBarn 9 = .ok (.putfield 31, 3) := by decide +kernel
theorem dX2_markAsBarn_12 : decode cX2_markAsBarn 12 = .ok (.aload_n 0, 1) := by decide +kernel
theorem dX2_markAsBarn_13 : decode cX2_markAsBarn 13 = .ok (.aload_n 1, 1) := by decide +kernel
theorem dX2_markAsBarn_14 : decode cX2_markAsBarn 14 = .ok (.iload_n 2, 1) := by decide +kernel
theorem dX2_markAsBarn_15 : decode cX2_markAsBarn 15 = .ok (.invokevirtual 18, 3) := by decide +kernel
theorem dX2_markAsBarn_18 : decode cX2_markAsBarn 18 = .ok (.iload_n 2, 1) := by decide +kernel
theorem dX2_markAsBarn_19 : decode cX2_markAsBarn 19 = .ok (.iadd, 1) := by decide +kernel
theorem dX2_markAsBarn_20 : decode cX2_markAsBarn 20 = .ok (.ireturn, 1) := by decide +kernel
theorem dX2_markAsZinc_0 : decode cX2_markAsZinc 0 = .ok (.aload_n 0, 1) := by decide +kernel
theorem dX2_markAsZinc_1 : decode cX2_markAsZinc 1 = .ok (.dup, 1) := by decide +kernel
theorem dX2_markAsZinc_2 : decode cX2_markAsZinc 2 = .ok (.getfield 31, 3) := by decide +kernel
theorem dX2_markAsZinc_5 : decode cX2_markAsZinc 5 = .ok (.ldc2_w 68, 3) := by decide +kernel
theorem dX2_markAsZinc_8 : decode cX2_markAsZinc 8 = .ok (.ladd, 1) := by decide +kernel
theorem dX2_markAsZinc_9 : decode cX2_markAsZinc 9 = .ok (.putfield 31, 3) := by decide +kernel
theorem dX2_markAsZinc_12 : decode cX2_markAsZinc 12 = .ok (.aload_n 0, 1) := by decide +kernel
theorem dX2_markAsZinc_13 : decode cX2_markAsZinc 13 = .ok (.aload_n 1, 1) := by decide +kernel
theorem dX2_markAsZinc_14 : decode cX2_markAsZinc 14 = .ok (.iload_n 2, 1) := by decide +kernel
theorem dX2_markAsZinc_15 : decode cX2_markAsZinc 15 = .ok (.invokevirtual 9, 3) := by decide +kernel
theorem dX2_markAsZinc_18 : decode cX2_markAsZinc 18 = .ok (.aload_n 1, 1) := by decide +kernel
theorem dX2_markAsZinc_19 : decode cX2_markAsZinc 19 = .ok (.getfield 43, 3) := by decide +kernel
theorem dX2_markAsZinc_22 : decode cX2_markAsZinc 22 = .ok (.getfield 70, 3) := by decide +kernel
theorem dX2_markAsZinc_25 : decode cX2_markAsZinc 25 = .ok (.iadd, 1) := by decide +kernel
theorem dX2_markAsZinc_26 : decode cX2_markAsZinc 26 = .ok (.ireturn, 1) := by decide +kernel
theorem dX3_init_0 : decode cX3_init 0 = .ok (.aload_n 0, 1) := by decide +kernel
theorem dX3_init_1 : decode cX3_init 1 = .ok (.invokespecial 3, 3) := by decide +kernel
theorem dX3_init_4 : decode cX3_init 4 = .ok (.aload_n 0, 1) := by decide +kernel
theorem dX3_init_5 : decode cX3_init 5 = .ok (.bipush 24, 2) := by decide +kernel
theorem dX3_init_7 : decode cX3_init 7 = .ok (.newarray .int, 2) := by decide +kernel
theorem dX3_init_9 : decode cX3_init 9 = .ok (.putfield 9, 3) := by decide +kernel
theorem dX3_init_12 : decode cX3_init 12 = .ok (.aload_n 0, 1) := by decide +kernel
theorem dX3_init_13 : decode cX3_init 13 = .ok (.iconst 5, 1) := by decide +kernel
theorem dX3_init_14 : decode cX3_init 14 = .ok (.iconst 4, 1) := by decide +kernel
theorem dX3_init_15 : decode cX3_init 15 = .ok (.multianewarray 15 2, 4) := by decide +kernel
theorem dX3_init_19 : decode cX3_init 19 = .ok (.putfield 17, 3) := by decide +kernel
theorem dX3_init_22 : decode cX3_init 22 = .ok (.aload_n 0, 1) := by decide +kernel
theorem dX3_init_23 : decode cX3_init 23 = .ok (.bipush 10, 2) := by decide +kernel
theorem dX3_init_25 : decode cX3_init 25 = .ok (.newarray .int, 2) := by decide +kernel
theorem dX3_init_27 : decode cX3_init 27 = .ok (.putfield 20, 3) := by decide +kernel
theorem dX3_init_30 : decode cX3_init 30 = .ok (.aload_n 0, 1) := by decide +kernel
theorem dX3_init_31 : decode cX3_init 31 = .ok (.bipush 10, 2) := by decide +kernel
theorem dX3_init_33 : decode cX3_init 33 = .ok (.newarray .int, 2) := by decide +kernel
theorem dX3_init_35 : decode cX3_init 35 = .ok (.putfield 23, 3) := by decide +kernel
theorem dX3_init_38 : decode cX3_init 38 = .ok (.aload_n 0, 1) := by decide +kernel
theorem dX3_init_39 : decode cX3_init 39 = .ok (.bipush 10, 2) := by decide +kernel
theorem dX3_init_41 : decode cX3_init 41 = .ok (.newarray .int, 2) := by decide +kernel
theorem dX3_init_43 : decode cX3_init 43 = .ok (.putfield 26, 3) := by decide +kernel
theorem dX3_init_46 : decode cX3_init 46 = .ok (.return_, 1) := by decide +kernel
theorem dX3_beginOver_0 : decode cX3_beginOver 0 = .ok (.aload_n 0, 1) := by decide +kernel
theorem dX3_beginOver_1 : decode cX3_beginOver 1 = .ok (.iconst 0, 1) := by decide +kernel
theorem dX3_beginOver_2 : decode cX3_beginOver 2 = .ok (.putfield 29, 3) := by decide +kernel
theorem dX3_beginOver_5 : decode cX3_beginOver 5 = .ok (.aload_n 0, 1) := by decide +kernel
theorem dX3_beginOver_6 : decode cX3_beginOver 6 = .ok (.iconst 0, 1) := by decide +kernel
theorem dX3_beginOver_7 : decode cX3_beginOver 7 = .ok (.putfield 33, 3) := by decide +kernel
theorem dX3_beginOver_10 : decode cX3_beginOver 10 = .ok (.aload_n 0, 1) := by decide +kernel
theorem dX3_beginOver_11 : decode cX3_beginOver 11 = .ok (.iconst 0, 1) := by decide +kernel
theorem dX3_beginOver_12 : decode cX3_beginOver 12 = .ok (.putfield 36, 3) := by decide +kernel
theorem dX3_beginOver_15 : decode cX3_beginOver 15 = .ok (.aload_n 1, 1) := by decide +kernel
theorem dX3_beginOver_16 : decode cX3_beginOver 16 = .ok (.iconst 0, 1) := by decide +kernel
theorem dX3_beginOver_17 : decode cX3_beginOver 17 = .ok (.aload_n 0, 1) := by decide +kernel
theorem dX3_beginOver_18 : decode cX3_beginOver 18 = .ok (.getfield 9, 3) := by decide +kernel
theorem dX3_beginOver_21 : decode cX3_beginOver 21 = .ok (.iconst 0, 1) := by decide +kernel
theorem dX3_beginOver_22 : decode cX3_beginOver 22 = .ok (.bipush 24, 2) := by decide +kernel
theorem dX3_beginOver_24 : decode cX3_beginOver 24 = .ok (.invokestatic 39, 3) := by decide +kernel
theorem dX3_beginOver_27 : decode cX3_beginOver 27 = .ok (.iconst 0, 1) := by decide +kernel
theorem dX3_beginOver_28 : decode cX3_beginOver 28 = .ok (.istore_n 2, 1) := by decide +kernel
theorem dX3_beginOver_29 : decode cX3_beginOver 29 = .ok (.iload_n 2, 1) := by decide +kernel
theorem dX3_beginOver_30 : decode cX3_beginOver 30 = .ok (.iconst 5, 1) := by decide +kernel
theorem dX3_beginOver_31 : decode cX3_beginOver 31 = .ok (.if_icmp .ge 19, 3) := by decide +kernel
theorem dX3_beginOver_34 : decode cX3_beginOver 34 = .ok (.aload_n 0, 1) := by decide +kernel
theorem dX3_beginOver_35 : decode cX3_beginOver 35 = .ok (.getfield 17, 3) := by decide +kernel
theorem dX3_beginOver_38 : decode cX3_beginOver 38 = .ok (.iload_n 2, 1) := by decide +kernel
theorem dX3_beginOver_39 : decode cX3_beginOver 39 = .ok (.aaload, 1) := by decide +kernel
theorem dX3_beginOver_40 : decode cX3_beginOver 40 = .ok (.iconst 0, 1) := by decide +kernel
theorem dX3_beginOver_41 : decode cX3_beginOver 41 = .ok (.invokestatic 45, 3) := by decide +kernel
theorem dX3_beginOver_44 : decode cX3_beginOver 44 = .ok (.iinc 2 1, 3) := by decide +kernel
theorem dX3_beginOver_47 : decode cX3_beginOver 47 = .ok (.goto (-18), 3) := by decide +kernel
theorem dX3_beginOver_50 : decode cX3_beginOver 50 = .ok (.return_, 1) := by decide +kernel
theorem dX3_becomeAs_0 : decode cX3_becomeAs 0 = .ok (.aload_n 0, 1) := by decide +kernel
theorem dX3_becomeAs_1 : decode cX3_becomeAs 1 = .ok (.aload_n 1, 1) := by decide +kernel
theorem dX3_becomeAs_2 : decode cX3_becomeAs 2 = .ok (.getfield 29, 3) := by decide +kernel
theorem dX3_becomeAs_5 : decode cX3_becomeAs 5 = .ok (.putfield 29, 3) := by decide +kernel
theorem dX3_becomeAs_8 : decode cX3_becomeAs 8 = .ok (.aload_n 0, 1) := by decide +kernel
theorem dX3_becomeAs_9 : decode cX3_becomeAs 9 = .ok (.aload_n 1, 1) := by decide +kernel
theorem dX3_becomeAs_10 : decode cX3_becomeAs 10 = .ok (.getfield 33, 3) := by decide +kernel
theorem dX3_becomeAs_13 : decode cX3_becomeAs 13 = .ok (.putfield 33, 3) := by decide +kernel
theorem dX3_becomeAs_16 : decode cX3_becomeAs 16 = .ok (.aload_n 0, 1) := by decide +kernel
theorem dX3_becomeAs_17 : decode cX3_becomeAs 17 = .ok (.aload_n 1, 1) := by decide +kernel
theorem dX3_becomeAs_18 : decode cX3_becomeAs 18 = .ok (.getfield 36, 3) := by decide +kernel
theorem dX3_becomeAs_21 : decode cX3_becomeAs 21 = .ok (.putfield 36, 3) := by decide +kernel
theorem dX3_becomeAs_24 : decode cX3_becomeAs 24 = .ok (.aload_n 1, 1) := by decide +kernel
theorem dX3_becomeAs_25 : decode cX3_becomeAs 25 = .ok (.getfield 9, 3) := by decide +kernel
theorem dX3_becomeAs_28 : decode cX3_becomeAs 28 = .ok (.iconst 0, 1) := by decide +kernel
theorem dX3_becomeAs_29 : decode cX3_becomeAs 29 = .ok (.aload_n 0, 1) := by decide +kernel
theorem dX3_becomeAs_30 : decode cX3_becomeAs 30 = .ok (.getfield 9, 3) := by decide +kernel
theorem dX3_becomeAs_33 : decode cX3_becomeAs 33 = .ok (.iconst 0, 1) := by decide +kernel
theorem dX3_becomeAs_34 : decode cX3_becomeAs 34 = .ok (.bipush 24, 2) := by decide +kernel
theorem dX3_becomeAs_36 : decode cX3_becomeAs 36 = .ok (.invokestatic 39, 3) := by decide +kernel
theorem dX3_becomeAs_39 : decode cX3_becomeAs 39 = .ok (.aload_n 1, 1) := by decide +kernel
theorem dX3_becomeAs_40 : decode cX3_becomeAs 40 = .ok (.getfield 17, 3) := by decide +kernel
theorem dX3_becomeAs_43 : decode cX3_becomeAs 43 = .ok (.aload_n 0, 1) := by decide +kernel
theorem dX3_becomeAs_44 : decode cX3_becomeAs 44 = .ok (.getfield 17, 3) := by decide +kernel
theorem dX3_becomeAs_47 : decode cX3_becomeAs 47 = .ok (.invokestatic 51, 3) := by decide +kernel
theorem dX3_becomeAs_50 : decode cX3_becomeAs 50 = .ok (.aload_n 1, 1) := by decide +kernel
theorem dX3_becomeAs_51 : decode cX3_becomeAs 51 = .ok (.getfield 20, 3) := by decide +kernel
theorem dX3_becomeAs_54 : decode cX3_becomeAs 54 = .ok (.iconst 0, 1) := by decide +kernel
theorem dX3_becomeAs_55 : decode cX3_becomeAs 55 = .ok (.aload_n 0, 1) := by decide +kernel
theorem dX3_becomeAs_56 : decode cX3_becomeAs 56 = .ok (.getfield 20, 3) := by decide +kernel
theorem dX3_becomeAs_59 : decode cX3_becomeAs 59 = .ok (.iconst 0, 1) := by decide +kernel
theorem dX3_becomeAs_60 : decode cX3_becomeAs 60 = .ok (.bipush 10, 2) := by decide +kernel
theorem dX3_becomeAs_62 : decode cX3_becomeAs 62 = .ok (.invokestatic 39, 3) := by decide +kernel
theorem dX3_becomeAs_65 : decode cX3_becomeAs 65 = .ok (.aload_n 1, 1) := by decide +kernel
theorem dX3_becomeAs_66 : decode cX3_becomeAs 66 = .ok (.getfield 23, 3) := by decide +kernel
theorem dX3_becomeAs_69 : decode cX3_becomeAs 69 = .ok (.iconst 0, 1) := by decide +kernel
theorem dX3_becomeAs_70 : decode cX3_becomeAs 70 = .ok (.aload_n 0, 1) := by decide +kernel
theorem dX3_becomeAs_71 : decode cX3_becomeAs 71 = .ok (.getfield 23, 3) := by decide +kernel
theorem dX3_becomeAs_74 : decode cX3_becomeAs 74 = .ok (.iconst 0, 1) := by decide +kernel
theorem dX3_becomeAs_75 : decode cX3_becomeAs 75 = .ok (.bipush 10, 2) := by decide +kernel
theorem dX3_becomeAs_77 : decode cX3_becomeAs 77 = .ok (.invokestatic 39, 3) := by decide +kernel
theorem dX3_becomeAs_80 : decode cX3_becomeAs 80 = .ok (.aload_n 1, 1) := by decide +kernel
theorem dX3_becomeAs_81 : decode cX3_becomeAs 81 = .ok (.getfield 26, 3) := by decide +kernel
theorem dX3_becomeAs_84 : decode cX3_becomeAs 84 = .ok (.iconst 0, 1) := by decide +kernel
theorem dX3_becomeAs_85 : decode cX3_becomeAs 85 = .ok (.aload_n 0, 1) := by decide +kernel
theorem dX3_becomeAs_86 : decode cX3_becomeAs 86 = .ok (.getfield 26, 3) := by decide +kernel
theorem dX3_becomeAs_89 : decode cX3_becomeAs 89 = .ok (.iconst 0, 1) := by decide +kernel
theorem dX3_becomeAs_90 : decode cX3_becomeAs 90 = .ok (.bipush 10, 2) := by decide +kernel
theorem dX3_becomeAs_92 : decode cX3_becomeAs 92 = .ok (.invokestatic 39, 3) := by decide +kernel
theorem dX3_becomeAs_95 : decode cX3_becomeAs 95 = .ok (.return_, 1) := by decide +kernel
theorem dX3_isAsked_0 : decode cX3_isAsked 0 = .ok (.iload_n 1, 1) := by decide +kernel
theorem dX3_isAsked_1 : decode cX3_isAsked 1 = .ok (.aload_n 0, 1) := by decide +kernel
theorem dX3_isAsked_2 : decode cX3_isAsked 2 = .ok (.getfield 33, 3) := by decide +kernel
theorem dX3_isAsked_5 : decode cX3_isAsked 5 = .ok (.invokestatic 55, 3) := by decide +kernel
theorem dX3_isAsked_8 : decode cX3_isAsked 8 = .ok (.ireturn, 1) := by decide +kernel
theorem dX3_rememberHour_0 : decode cX3_rememberHour 0 = .ok (.aload_n 0, 1) := by decide +kernel
theorem dX3_rememberHour_1 : decode cX3_rememberHour 1 = .ok (.iconst 0, 1) := by decide +kernel
theorem dX3_rememberHour_2 : decode cX3_rememberHour 2 = .ok (.aload_n 0, 1) := by decide +kernel
theorem dX3_rememberHour_3 : decode cX3_rememberHour 3 = .ok (.getfield 29, 3) := by decide +kernel
theorem dX3_rememberHour_6 : decode cX3_rememberHour 6 = .ok (.iconst 0, 1) := by decide +kernel
theorem dX3_rememberHour_7 : decode cX3_rememberHour 7 = .ok (.invokevirtual 59, 3) := by decide +kernel
theorem dX3_rememberHour_10 : decode cX3_rememberHour 10 = .ok (.return_, 1) := by decide +kernel
theorem dX3_build_0 : decode cX3_build 0 = .ok (.aload_n 0, 1) := by decide +kernel
theorem dX3_build_1 : decode cX3_build 1 = .ok (.iconst 1, 1) := by decide +kernel
theorem dX3_build_2 : decode cX3_build 2 = .ok (.iload_n 1, 1) := by decide +kernel
theorem dX3_build_3 : decode cX3_build 3 = .ok (.aload_n 0, 1) := by decide +kernel
theorem dX3_build_4 : decode cX3_build 4 = .ok (.getfield 9, 3) := by decide +kernel
theorem dX3_build_7 : decode cX3_build 7 = .ok (.iload_n 1, 1) := by decide +kernel
theorem dX3_build_8 : decode cX3_build 8 = .ok (.iaload, 1) := by decide +kernel
theorem dX3_build_9 : decode cX3_build 9 = .ok (.invokevirtual 59, 3) := by decide +kernel
theorem dX3_build_12 : decode cX3_build 12 = .ok (.aload_n 0, 1) := by decide +kernel
theorem dX3_build_13 : decode cX3_build 13 = .ok (.getfield 9, 3) := by decide +kernel
theorem dX3_build_16 : decode cX3_build 16 = .ok (.iload_n 1, 1) := by decide +kernel
theorem dX3_build_17 : decode cX3_build 17 = .ok (.iload_n 2, 1) := by decide +kernel
theorem dX3_build_18 : decode cX3_build 18 = .ok (.iastore, 1) := by decide +kernel
theorem dX3_build_19 : decode cX3_build 19 = .ok (.return_, 1) := by decide +kernel
theorem dX3_bringDown_0 : decode cX3_bringDown 0 = .ok (.aload_n 0, 1) := by decide +kernel
theorem dX3_bringDown_1 : decode cX3_bringDown 1 = .ok (.iconst 2, 1) := by decide +kernel
theorem dX3_bringDown_2 : decode cX3_bringDown 2 = .ok (.iload_n 1, 1) := by decide +kernel
theorem dX3_bringDown_3 : decode cX3_bringDown 3 = .ok (.iconst 0, 1) := by decide +kernel
theorem dX3_bringDown_4 : decode cX3_bringDown 4 = .ok (.invokevirtual 59, 3) := by decide +kernel
theorem dX3_bringDown_7 : decode cX3_bringDown 7 = .ok (.aload_n 0, 1) := by decide +kernel
theorem dX3_bringDown_8 : decode cX3_bringDown 8 = .ok (.dup, 1) := by decide +kernel
theorem dX3_bringDown_9 : decode cX3_bringDown 9 = .ok (.getfield 33, 3) := by decide +kernel
theorem dX3_bringDown_12 : decode cX3_bringDown 12 = .ok (.iconst 1, 1) := by decide +kernel
theorem dX3_bringDown_13 : decode cX3_bringDown 13 = .ok (.iload_n 1, 1) := by decide +kernel
theorem dX3_bringDown_14 : decode cX3_bringDown 14 = .ok (.ishl, 1) := by decide +kernel
theorem dX3_bringDown_15 : decode cX3_bringDown 15 = .ok (.ior, 1) := by decide +kernel
theorem dX3_bringDown_16 : decode cX3_bringDown 16 = .ok (.putfield 33, 3) := by decide +kernel
theorem dX3_bringDown_19 : decode cX3_bringDown 19 = .ok (.return_, 1) := by decide +kernel
theorem dX3_remember_0 : decode cX3_remember 0 = .ok (.aload_n 0, 1) := by decide +kernel
theorem dX3_remember_1 : decode cX3_remember 1 = .ok (.getfield 36, 3) := by decide +kernel
theorem dX3_remember_4 : decode cX3_remember 4 = .ok (.bipush 10, 2) := by decide +kernel
theorem dX3_remember_6 : decode cX3_remember 6 = .ok (.if_icmp .lt 7, 3) := by decide +kernel
theorem dX3_remember_9 : decode cX3_remember 9 = .ok (.aload_n 0, 1) := by decide +kernel
theorem dX3_remember_10 : decode cX3_remember 10 = .ok (.invokevirtual 63, 3) := by decide +kernel
theorem dX3_remember_13 : decode cX3_remember 13 = .ok (.aload_n 0, 1) := by decide +kernel
theorem dX3_remember_14 : decode cX3_remember 14 = .ok (.getfield 20, 3) := by decide +kernel
theorem dX3_remember_17 : decode cX3_remember 17 = .ok (.aload_n 0, 1) := by decide +kernel
theorem dX3_remember_18 : decode cX3_remember 18 = .ok (.getfield 36, 3) := by decide +kernel
theorem dX3_remember_21 : decode cX3_remember 21 = .ok (.iload_n 1, 1) := by decide +kernel
theorem dX3_remember_22 : decode cX3_remember 22 = .ok (.iastore, 1) := by decide +kernel
theorem dX3_remember_23 : decode cX3_remember 23 = .ok (.aload_n 0, 1) := by decide +kernel
theorem dX3_remember_24 : decode cX3_remember 24 = .ok (.getfield 23, 3) := by decide +kernel
theorem dX3_remember_27 : decode cX3_remember 27 = .ok (.aload_n 0, 1) := by decide +kernel
theorem dX3_remember_28 : decode cX3_remember 28 = .ok (.getfield 36, 3) := by decide +kernel
theorem dX3_remember_31 : decode cX3_remember 31 = .ok (.iload_n 2, 1) := by decide +kernel
theorem dX3_remember_32 : decode cX3_remember 32 = .ok (.iastore, 1) := by decide +kernel
theorem dX3_remember_33 : decode cX3_remember 33 = .ok (.aload_n 0, 1) := by decide +kernel
theorem dX3_remember_34 : decode cX3_remember 34 = .ok (.getfield 26, 3) := by decide +kernel
theorem dX3_remember_37 : decode cX3_remember 37 = .ok (.aload_n 0, 1) := by decide +kernel
theorem dX3_remember_38 : decode cX3_remember 38 = .ok (.getfield 36, 3) := by decide +kernel
theorem dX3_remember_41 : decode cX3_remember 41 = .ok (.iload_n 3, 1) := by decide +kernel
theorem dX3_remember_42 : decode cX3_remember 42 = .ok (.iastore, 1) := by decide +kernel
theorem dX3_remember_43 : decode cX3_remember 43 = .ok (.aload_n 0, 1) := by decide +kernel
theorem dX3_remember_44 : decode cX3_remember 44 = .ok (.dup, 1) := by decide +kernel
theorem dX3_remember_45 : decode cX3_remember 45 = .ok (.getfield 36, 3) := by decide +kernel
theorem dX3_remember_48 : decode cX3_remember 48 = .ok (.iconst 1, 1) := by decide +kernel
theorem dX3_remember_49 : decode cX3_remember 49 = .ok (.iadd, 1) := by decide +kernel
theorem dX3_remember_50 : decode cX3_remember 50 = .ok (.putfield 36, 3) := by decide +kernel
theorem dX3_remember_53 : decode cX3_remember 53 = .ok (.return_, 1) := by decide +kernel
theorem dX3_loseOldest_0 : decode cX3_loseOldest 0 = .ok (.aload_n 0, 1) := by decide +kernel
theorem dX3_loseOldest_1 : decode cX3_loseOldest 1 = .ok (.getfield 20, 3) := by decide +kernel
theorem dX3_loseOldest_4 : decode cX3_loseOldest 4 = .ok (.iconst 1, 1) := by decide +kernel
theorem dX3_loseOldest_5 : decode cX3_loseOldest 5 = .ok (.aload_n 0, 1) := by decide +kernel
theorem dX3_loseOldest_6 : decode cX3_loseOldest 6 = .ok (.getfield 20, 3) := by decide +kernel
theorem dX3_loseOldest_9 : decode cX3_loseOldest 9 = .ok (.iconst 0, 1) := by decide +kernel
theorem dX3_loseOldest_10 : decode cX3_loseOldest 10 = .ok (.bipush 9, 2) := by decide +kernel
theorem dX3_loseOldest_12 : decode cX3_loseOldest 12 = .ok (.invokestatic 39, 3) := by decide +kernel
theorem dX3_loseOldest_15 : decode cX3_loseOldest 15 = .ok (.aload_n 0, 1) := by decide +kernel
theorem dX3_loseOldest_16 : decode cX3_loseOldest 16 = .ok (.getfield 23, 3) := by decide +kernel
theorem dX3_loseOldest_19 : decode cX3_loseOldest 19 = .ok (.iconst 1, 1) := by decide +kernel
theorem dX3_loseOldest_20 : decode cX3_loseOldest 20 = .ok (.aload_n 0, 1) := by decide +kernel
theorem dX3_loseOldest_21 : decode cX3_loseOldest 21 = .ok (.getfield 23, 3) := by decide +kernel
theorem dX3_loseOldest_24 : decode cX3_loseOldest 24 = .ok (.iconst 0, 1) := by decide +kernel
theorem dX3_loseOldest_25 : decode cX3_loseOldest 25 = .ok (.bipush 9, 2) := by decide +kernel
theorem dX3_loseOldest_27 : decode cX3_loseOldest 27 = .ok (.invokestatic 39, 3) := by decide +kernel
theorem dX3_loseOldest_30 : decode cX3_loseOldest 30 = .ok (.aload_n 0, 1) := by decide +kernel
theorem dX3_loseOldest_31 : decode cX3_loseOldest 31 = .ok (.getfield 26, 3) := by decide +kernel
theorem dX3_loseOldest_34 : decode cX3_loseOldest 34 = .ok (.iconst 1, 1) := by decide +kernel
theorem dX3_loseOldest_35 : decode cX3_loseOldest 35 = .ok (.aload_n 0, 1) := by decide +kernel
theorem dX3_loseOldest_36 : decode cX3_loseOldest 36 = .ok (.getfield 26, 3) := by decide +kernel
theorem dX3_loseOldest_39 : decode cX3_loseOldest 39 = .ok (.iconst 0, 1) := by decide +kernel
theorem dX3_loseOldest_40 : decode cX3_loseOldest 40 = .ok (.bipush 9, 2) := by decide +kernel
theorem dX3_loseOldest_42 : decode cX3_loseOldest 42 = .ok (.invokestatic 39, 3) := by decide +kernel
theorem dX3_loseOldest_45 : decode cX3_loseOldest 45 = .ok (.aload_n 0, 1) := by decide +kernel
theorem dX3_loseOldest_46 : decode cX3_loseOldest 46 = .ok (.bipush 9, 2) := by decide +kernel
theorem dX3_loseOldest_48 : decode cX3_loseOldest 48 = .ok (.putfield 36, 3) := by decide +kernel
theorem dX3_loseOldest_51 : decode cX3_loseOldest 51 = .ok (.return_, 1) := by decide +kernel
theorem dX3_undoLatest_0 : decode cX3_undoLatest 0 = .ok (.aload_n 0, 1) := by decide +kernel
theorem dX3_undoLatest_1 : decode cX3_undoLatest 1 = .ok (.getfield 36, 3) := by decide +kernel
theorem dX3_undoLatest_4 : decode cX3_undoLatest 4 = .ok (.ifCond .gt 4, 3) := by decide +kernel
theorem dX3_undoLatest_7 : decode cX3_undoLatest 7 = .ok (.return_, 1) := by decide +kernel
theorem dX3_undoLatest_8 : decode cX3_undoLatest 8 = .ok (.aload_n 0, 1) := by decide +kernel
theorem dX3_undoLatest_9 : decode cX3_undoLatest 9 = .ok (.dup, 1) := by decide +kernel
theorem dX3_undoLatest_10 : decode cX3_undoLatest 10 = .ok (.getfield 36, 3) := by decide +kernel
theorem dX3_undoLatest_13 : decode cX3_undoLatest 13 = .ok (.iconst 1, 1) := by decide +kernel
theorem dX3_undoLatest_14 : decode cX3_undoLatest 14 = .ok (.isub, 1) := by decide +kernel
theorem dX3_undoLatest_15 : decode cX3_undoLatest 15 = .ok (.putfield 36, 3) := by decide +kernel
theorem dX3_undoLatest_18 : decode cX3_undoLatest 18 = .ok (.aload_n 0, 1) := by decide +kernel
theorem dX3_undoLatest_19 : decode cX3_undoLatest 19 = .ok (.getfield 23, 3) := by decide +kernel
theorem dX3_undoLatest_22 : decode cX3_undoLatest 22 = .ok (.aload_n 0, 1) := by decide +kernel
theorem dX3_undoLatest_23 : decode cX3_undoLatest 23 = .ok (.getfield 36, 3) := by decide +kernel
theorem dX3_undoLatest_26 : decode cX3_undoLatest 26 = .ok (.iaload, 1) := by decide +kernel
theorem dX3_undoLatest_27 : decode cX3_undoLatest 27 = .ok (.istore_n 1, 1) := by decide +kernel
theorem dX3_undoLatest_28 : decode cX3_undoLatest 28 = .ok (.aload_n 0, 1) := by decide +kernel
theorem dX3_undoLatest_29 : decode cX3_undoLatest 29 = .ok (.getfield 20, 3) := by decide +kernel
theorem dX3_undoLatest_32 : decode cX3_undoLatest 32 = .ok (.aload_n 0, 1) := by decide +kernel
theorem dX3_undoLatest_33 : decode cX3_undoLatest 33 = .ok (.getfield 36, 3) := by decide +kernel
theorem dX3_undoLatest_36 : decode cX3_undoLatest 36 = .ok (.iaload, 1) := by decide +kernel
theorem dX3_undoLatest_37 : decode cX3_undoLatest 37 = .ok (.lookupswitch 53 #[(0, 27), (1, 35)], 27) := by decide +kernel
theorem dX3_undoLatest_64 : decode cX3_undoLatest 64 = .ok (.aload_n 0, 1) := by decide +kernel
theorem dX3_undoLatest_65 : decode cX3_undoLatest 65 = .ok (.iload_n 1, 1) := by decide +kernel
theorem dX3_undoLatest_66 : decode cX3_undoLatest 66 = .ok (.invokevirtual 66, 3) := by decide +kernel
theorem dX3_undoLatest_69 : decode cX3_undoLatest 69 = .ok (.goto 35, 3) := by decide +kernel
theorem dX3_undoLatest_72 : decode cX3_undoLatest 72 = .ok (.aload_n 0, 1) := by decide +kernel
theorem dX3_undoLatest_73 : decode cX3_undoLatest 73 = .ok (.getfield 9, 3) := by decide +kernel
theorem dX3_undoLatest_76 : decode cX3_undoLatest 76 = .ok (.iload_n 1, 1) := by decide +kernel
theorem dX3_undoLatest_77 : decode cX3_undoLatest 77 = .ok (.aload_n 0, 1) := by decide +kernel
theorem dX3_undoLatest_78 : decode cX3_undoLatest 78 = .ok (.getfield 26, 3) := by decide +kernel
theorem dX3_undoLatest_81 : decode cX3_undoLatest 81 = .ok (.aload_n 0, 1) := by decide +kernel
theorem dX3_undoLatest_82 : decode cX3_undoLatest 82 = .ok (.getfield 36, 3) := by decide +kernel
theorem dX3_undoLatest_85 : decode cX3_undoLatest 85 = .ok (.iaload, 1) := by decide +kernel
theorem dX3_undoLatest_86 : decode cX3_undoLatest 86 = .ok (.iastore, 1) := by decide +kernel
theorem dX3_undoLatest_87 : decode cX3_undoLatest 87 = .ok (.goto 17, 3) := by decide +kernel
theorem dX3_undoLatest_90 : decode cX3_undoLatest 90 = .ok (.aload_n 0, 1) := by decide +kernel
theorem dX3_undoLatest_91 : decode cX3_undoLatest 91 = .ok (.dup, 1) := by decide +kernel
theorem dX3_undoLatest_92 : decode cX3_undoLatest 92 = .ok (.getfield 33, 3) := by decide +kernel
theorem dX3_undoLatest_95 : decode cX3_undoLatest 95 = .ok (.iconst 1, 1) := by decide +kernel
theorem dX3_undoLatest_96 : decode cX3_undoLatest 96 = .ok (.iload_n 1, 1) := by decide +kernel
theorem dX3_undoLatest_97 : decode cX3_undoLatest 97 = .ok (.ishl, 1) := by decide +kernel
theorem dX3_undoLatest_98 : decode cX3_undoLatest 98 = .ok (.iconst (-1), 1) := by decide +kernel
theorem dX3_undoLatest_99 : decode cX3_undoLatest 99 = .ok (.ixor, 1) := by decide +kernel
theorem dX3_undoLatest_100 : decode cX3_undoLatest 100 = .ok (.iand, 1) := by decide +kernel
theorem dX3_undoLatest_101 : decode cX3_undoLatest 101 = .ok (.putfield 33, 3) := by decide +kernel
theorem dX3_undoLatest_104 : decode cX3_undoLatest 104 = .ok (.return_, 1) := by decide +kernel
theorem dX3_returnTo_0 : decode cX3_returnTo 0 = .ok (.aload_n 0, 1) := by decide +kernel
theorem dX3_returnTo_1 : decode cX3_returnTo 1 = .ok (.iload_n 1, 1) := by decide +kernel
theorem dX3_returnTo_2 : decode cX3_returnTo 2 = .ok (.putfield 29, 3) := by decide +kernel
theorem dX3_returnTo_5 : decode cX3_returnTo 5 = .ok (.iconst 1, 1) := by decide +kernel
theorem dX3_returnTo_6 : decode cX3_returnTo 6 = .ok (.iload_n 1, 1) := by decide +kernel
theorem dX3_returnTo_7 : decode cX3_returnTo 7 = .ok (.ishl, 1) := by decide +kernel
theorem dX3_returnTo_8 : decode cX3_returnTo 8 = .ok (.iconst 1, 1) := by decide +kernel
theorem dX3_returnTo_9 : decode cX3_returnTo 9 = .ok (.isub, 1) := by decide +kernel
theorem dX3_returnTo_10 : decode cX3_returnTo 10 = .ok (.istore_n 2, 1) := by decide +kernel
theorem dX3_returnTo_11 : decode cX3_returnTo 11 = .ok (.iconst 0, 1) := by decide +kernel
theorem dX3_returnTo_12 : decode cX3_returnTo 12 = .ok (.istore_n 3, 1) := by decide +kernel
theorem dX3_returnTo_13 : decode cX3_returnTo 13 = .ok (.iload_n 3, 1) := by decide +kernel
theorem dX3_returnTo_14 : decode cX3_returnTo 14 = .ok (.iconst 5, 1) := by decide +kernel
theorem dX3_returnTo_15 : decode cX3_returnTo 15 = .ok (.if_icmp .ge 37, 3) := by decide +kernel
theorem dX3_returnTo_18 : decode cX3_returnTo 18 = .ok (.iconst 0, 1) := by decide +kernel
theorem dX3_returnTo_19 : decode cX3_returnTo 19 = .ok (.istore 4, 2) := by decide +kernel
theorem dX3_returnTo_21 : decode cX3_returnTo 21 = .ok (.iload 4, 2) := by decide +kernel
theorem dX3_returnTo_23 : decode cX3_returnTo 23 = .ok (.iconst 4, 1) := by decide +kernel
theorem dX3_returnTo_24 : decode cX3_returnTo 24 = .ok (.if_icmp .ge 22, 3) := by decide +kernel
theorem dX3_returnTo_27 : decode cX3_returnTo 27 = .ok (.aload_n 0, 1) := by decide +kernel
theorem dX3_returnTo_28 : decode cX3_returnTo 28 = .ok (.getfield 17, 3) := by decide +kernel
theorem dX3_returnTo_31 : decode cX3_returnTo 31 = .ok (.iload_n 3, 1) := by decide +kernel
theorem dX3_returnTo_32 : decode cX3_returnTo 32 = .ok (.aaload, 1) := by decide +kernel
theorem dX3_returnTo_33 : decode cX3_returnTo 33 = .ok (.iload 4, 2) := by decide +kernel
theorem dX3_returnTo_35 : decode cX3_returnTo 35 = .ok (.dup2, 1) := by decide +kernel
theorem dX3_returnTo_36 : decode cX3_returnTo 36 = .ok (.iaload, 1) := by decide +kernel
theorem dX3_returnTo_37 : decode cX3_returnTo 37 = .ok (.iload_n 2, 1) := by decide +kernel
theorem dX3_returnTo_38 : decode cX3_returnTo 38 = .ok (.iand, 1) := by decide +kernel
theorem dX3_returnTo_39 : decode cX3_returnTo 39 = .ok (.iastore, 1) := by decide +kernel
theorem dX3_returnTo_40 : decode cX3_returnTo 40 = .ok (.iinc 4 1, 3) := by decide +kernel
theorem dX3_returnTo_43 : decode cX3_returnTo 43 = .ok (.goto (-22), 3) := by decide +kernel
theorem dX3_returnTo_46 : decode cX3_returnTo 46 = .ok (.iinc 3 1, 3) := by decide +kernel
theorem dX3_returnTo_49 : decode cX3_returnTo 49 = .ok (.goto (-36), 3) := by decide +kernel
theorem dX3_returnTo_52 : decode cX3_returnTo 52 = .ok (.return_, 1) := by decide +kernel
theorem dX3_seenByAnyOf_0 : decode cX3_seenByAnyOf 0 = .ok (.iconst 0, 1) := by decide +kernel
theorem dX3_seenByAnyOf_1 : decode cX3_seenByAnyOf 1 = .ok (.istore_n 3, 1) := by decide +kernel
theorem dX3_seenByAnyOf_2 : decode cX3_seenByAnyOf 2 = .ok (.iconst 0, 1) := by decide +kernel
theorem dX3_seenByAnyOf_3 : decode cX3_seenByAnyOf 3 = .ok (.istore 4, 2) := by decide +kernel
theorem dX3_seenByAnyOf_5 : decode cX3_seenByAnyOf 5 = .ok (.iload 4, 2) := by decide +kernel
theorem dX3_seenByAnyOf_7 : decode cX3_seenByAnyOf 7 = .ok (.iconst 5, 1) := by decide +kernel
theorem dX3_seenByAnyOf_8 : decode cX3_seenByAnyOf 8 = .ok (.if_icmp .ge 30, 3) := by decide +kernel
theorem dX3_seenByAnyOf_11 : decode cX3_seenByAnyOf 11 = .ok (.iload 4, 2) := by decide +kernel
theorem dX3_seenByAnyOf_13 : decode cX3_seenByAnyOf 13 = .ok (.iload_n 1, 1) := by decide +kernel
theorem dX3_seenByAnyOf_14 : decode cX3_seenByAnyOf 14 = .ok (.invokestatic 55, 3) := by decide +kernel
theorem dX3_seenByAnyOf_17 : decode cX3_seenByAnyOf 17 = .ok (.ifCond .eq 15, 3) := by decide +kernel
theorem dX3_seenByAnyOf_20 : decode cX3_seenByAnyOf 20 = .ok (.iload_n 3, 1) := by decide +kernel
theorem dX3_seenByAnyOf_21 : decode cX3_seenByAnyOf 21 = .ok (.aload_n 0, 1) := by decide +kernel
theorem dX3_seenByAnyOf_22 : decode cX3_seenByAnyOf 22 = .ok (.getfield 17, 3) := by decide +kernel
theorem dX3_seenByAnyOf_25 : decode cX3_seenByAnyOf 25 = .ok (.iload 4, 2) := by decide +kernel
theorem dX3_seenByAnyOf_27 : decode cX3_seenByAnyOf 27 = .ok (.aaload, 1) := by decide +kernel
theorem dX3_seenByAnyOf_28 : decode cX3_seenByAnyOf 28 = .ok (.iload_n 2, 1) := by decide +kernel
theorem dX3_seenByAnyOf_29 : decode cX3_seenByAnyOf 29 = .ok (.iaload, 1) := by decide +kernel
theorem dX3_seenByAnyOf_30 : decode cX3_seenByAnyOf 30 = .ok (.ior, 1) := by decide +kernel
theorem dX3_seenByAnyOf_31 : decode cX3_seenByAnyOf 31 = .ok (.istore_n 3, 1) := by decide +kernel
theorem dX3_seenByAnyOf_32 : decode cX3_seenByAnyOf 32 = .ok (.iinc 4 1, 3) := by decide +kernel
theorem dX3_seenByAnyOf_35 : decode cX3_seenByAnyOf 35 = .ok (.goto (-30), 3) := by decide +kernel
theorem dX3_seenByAnyOf_38 : decode cX3_seenByAnyOf 38 = .ok (.iload_n 3, 1) := by decide +kernel
theorem dX3_seenByAnyOf_39 : decode cX3_seenByAnyOf 39 = .ok (.ireturn, 1) := by decide +kernel
theorem dX3_amountSeenBy_0 : decode cX3_amountSeenBy 0 = .ok (.iconst 0, 1) := by decide +kernel
theorem dX3_amountSeenBy_1 : decode cX3_amountSeenBy 1 = .ok (.istore_n 2, 1) := by decide +kernel
theorem dX3_amountSeenBy_2 : decode cX3_amountSeenBy 2 = .ok (.iconst 0, 1) := by decide +kernel
theorem dX3_amountSeenBy_3 : decode cX3_amountSeenBy 3 = .ok (.istore_n 3, 1) := by decide +kernel
theorem dX3_amountSeenBy_4 : decode cX3_amountSeenBy 4 = .ok (.iload_n 3, 1) := by decide +kernel
theorem dX3_amountSeenBy_5 : decode cX3_amountSeenBy 5 = .ok (.iconst 4, 1) := by decide +kernel
theorem dX3_amountSeenBy_6 : decode cX3_amountSeenBy 6 = .ok (.if_icmp .ge 21, 3) := by decide +kernel
theorem dX3_amountSeenBy_9 : decode cX3_amountSeenBy 9 = .ok (.iload_n 2, 1) := by decide +kernel
theorem dX3_amountSeenBy_10 : decode cX3_amountSeenBy 10 = .ok (.aload_n 0, 1) := by decide +kernel
theorem dX3_amountSeenBy_11 : decode cX3_amountSeenBy 11 = .ok (.iload_n 1, 1) := by decide +kernel
theorem dX3_amountSeenBy_12 : decode cX3_amountSeenBy 12 = .ok (.iload_n 3, 1) := by decide +kernel
theorem dX3_amountSeenBy_13 : decode cX3_amountSeenBy 13 = .ok (.invokevirtual 70, 3) := by decide +kernel
theorem dX3_amountSeenBy_16 : decode cX3_amountSeenBy 16 = .ok (.invokestatic 74, 3) := by decide +kernel
theorem dX3_amountSeenBy_19 : decode cX3_amountSeenBy 19 = .ok (.iadd, 1) := by decide +kernel
theorem dX3_amountSeenBy_20 : decode cX3_amountSeenBy 20 = .ok (.istore_n 2, 1) := by decide +kernel
theorem dX3_amountSeenBy_21 : decode cX3_amountSeenBy 21 = .ok (.iinc 3 1, 3) := by decide +kernel
theorem dX3_amountSeenBy_24 : decode cX3_amountSeenBy 24 = .ok (.goto (-20), 3) := by decide +kernel
theorem dX3_amountSeenBy_27 : decode cX3_amountSeenBy 27 = .ok (.iload_n 2, 1) := by decide +kernel
theorem dX3_amountSeenBy_28 : decode cX3_amountSeenBy 28 = .ok (.ireturn, 1) := by decide +kernel
theorem dX3_amountKnownWith_0 : decode cX3_amountKnownWith 0 = .ok (.aload_n 0, 1) := by decide +kernel
theorem dX3_amountKnownWith_1 : decode cX3_amountKnownWith 1 = .ok (.aload_n 0, 1) := by decide +kernel
theorem dX3_amountKnownWith_2 : decode cX3_amountKnownWith 2 = .ok (.getfield 33, 3) := by decide +kernel
theorem dX3_amountKnownWith_5 : decode cX3_amountKnownWith 5 = .ok (.iload_n 1, 1) := by decide +kernel
theorem dX3_amountKnownWith_6 : decode cX3_amountKnownWith 6 = .ok (.ior, 1) := by decide +kernel
theorem dX3_amountKnownWith_7 : decode cX3_amountKnownWith 7 = .ok (.invokevirtual 80, 3) := by decide +kernel
theorem dX3_amountKnownWith_10 : decode cX3_amountKnownWith 10 = .ok (.ireturn, 1) := by decide +kernel
theorem dX3_tellingOf_0 : decode cX3_tellingOf 0 = .ok (.aload_n 0, 1) := by decide +kernel
theorem dX3_tellingOf_1 : decode cX3_tellingOf 1 = .ok (.iconst 1, 1) := by decide +kernel
theorem dX3_tellingOf_2 : decode cX3_tellingOf 2 = .ok (.iload_n 1, 1) := by decide +kernel
theorem dX3_tellingOf_3 : decode cX3_tellingOf 3 = .ok (.ishl, 1) := by decide +kernel
theorem dX3_tellingOf_4 : decode cX3_tellingOf 4 = .ok (.invokevirtual 80, 3) := by decide +kernel
theorem dX3_tellingOf_7 : decode cX3_tellingOf 7 = .ok (.ireturn, 1) := by decide +kernel
theorem dX3_hoursToAsk_0 : decode cX3_hoursToAsk 0 = .ok (.iconst 0, 1) := by decide +kernel
theorem dX3_hoursToAsk_1 : decode cX3_hoursToAsk 1 = .ok (.istore_n 2, 1) := by decide +kernel
theorem dX3_hoursToAsk_2 : decode cX3_hoursToAsk 2 = .ok (.iconst 0, 1) := by decide +kernel
theorem dX3_hoursToAsk_3 : decode cX3_hoursToAsk 3 = .ok (.istore_n 3, 1) := by decide +kernel
theorem dX3_hoursToAsk_4 : decode cX3_hoursToAsk 4 = .ok (.iload_n 3, 1) := by decide +kernel
theorem dX3_hoursToAsk_5 : decode cX3_hoursToAsk 5 = .ok (.iconst 5, 1) := by decide +kernel
theorem dX3_hoursToAsk_6 : decode cX3_hoursToAsk 6 = .ok (.if_icmp .ge 29, 3) := by decide +kernel
theorem dX3_hoursToAsk_9 : decode cX3_hoursToAsk 9 = .ok (.iload_n 3, 1) := by decide +kernel
theorem dX3_hoursToAsk_10 : decode cX3_hoursToAsk 10 = .ok (.iload_n 1, 1) := by decide +kernel
theorem dX3_hoursToAsk_11 : decode cX3_hoursToAsk 11 = .ok (.invokestatic 55, 3) := by decide +kernel
theorem dX3_hoursToAsk_14 : decode cX3_hoursToAsk 14 = .ok (.ifCond .eq 15, 3) := by decide +kernel
theorem dX3_hoursToAsk_17 : decode cX3_hoursToAsk 17 = .ok (.iload_n 2, 1) := by decide +kernel
theorem dX3_hoursToAsk_18 : decode cX3_hoursToAsk 18 = .ok (.iconst 1, 1) := by decide +kernel
theorem dX3_hoursToAsk_19 : decode cX3_hoursToAsk 19 = .ok (.aload_n 0, 1) := by decide +kernel
theorem dX3_hoursToAsk_20 : decode cX3_hoursToAsk 20 = .ok (.iload_n 3, 1) := by decide +kernel
theorem dX3_hoursToAsk_21 : decode cX3_hoursToAsk 21 = .ok (.invokevirtual 83, 3) := by decide +kernel
theorem dX3_hoursToAsk_24 : decode cX3_hoursToAsk 24 = .ok (.iconst 4, 1) := by decide +kernel
theorem dX3_hoursToAsk_25 : decode cX3_hoursToAsk 25 = .ok (.idiv, 1) := by decide +kernel
theorem dX3_hoursToAsk_26 : decode cX3_hoursToAsk 26 = .ok (.iadd, 1) := by decide +kernel
theorem dX3_hoursToAsk_27 : decode cX3_hoursToAsk 27 = .ok (.iadd, 1) := by decide +kernel
theorem dX3_hoursToAsk_28 : decode cX3_hoursToAsk 28 = .ok (.istore_n 2, 1) := by decide +kernel
theorem dX3_hoursToAsk_29 : decode cX3_hoursToAsk 29 = .ok (.iinc 3 1, 3) := by decide +kernel
theorem dX3_hoursToAsk_32 : decode cX3_hoursToAsk 32 = .ok (.goto (-28), 3) := by decide +kernel
theorem dX3_hoursToAsk_35 : decode cX3_hoursToAsk 35 = .ok (.iload_n 2, 1) := by decide +kernel
theorem dX3_hoursToAsk_36 : decode cX3_hoursToAsk 36 = .ok (.ireturn, 1) := by decide +kernel
theorem dX4_init_0 : decode cX4_init 0 = .ok (.aload_n 0, 1) := by decide +kernel
theorem dX4_init_1 : decode cX4_init 1 = .ok (.invokespecial 3, 3) := by decide +kernel
theorem dX4_init_4 : decode cX4_init 4 = .ok (.aload_n 0, 1) := by decide +kernel
theorem dX4_init_5 : decode cX4_init 5 = .ok (.new 9, 3) := by decide +kernel
theorem dX4_init_8 : decode cX4_init 8 = .ok (.dup, 1) := by decide +kernel
theorem dX4_init_9 : decode cX4_init 9 = .ok (.invokespecial 11, 3) := by decide +kernel
theorem dX4_init_12 : decode cX4_init 12 = .ok (.putfield 12, 3) := by decide +kernel
theorem dX4_init_15 : decode cX4_init 15 = .ok (.aload_n 0, 1) := by decide +kernel
theorem dX4_init_16 : decode cX4_init 16 = .ok (.iconst 4, 1) := by decide +kernel
theorem dX4_init_17 : decode cX4_init 17 = .ok (.newarray .int, 2) := by decide +kernel
theorem dX4_init_19 : decode cX4_init 19 = .ok (.putfield 18, 3) := by decide +kernel
theorem dX4_init_22 : decode cX4_init 22 = .ok (.return_, 1) := by decide +kernel
theorem dX4_readAll_0 : decode cX4_readAll 0 = .ok (.aload_n 0, 1) := by decide +kernel
theorem dX4_readAll_1 : decode cX4_readAll 1 = .ok (.getfield 12, 3) := by decide +kernel
theorem dX4_readAll_4 : decode cX4_readAll 4 = .ok (.invokevirtual 22, 3) := by decide +kernel
theorem dX4_readAll_7 : decode cX4_readAll 7 = .ok (.aload_n 1, 1) := by decide +kernel
theorem dX4_readAll_8 : decode cX4_readAll 8 = .ok (.invokevirtual 25, 3) := by decide +kernel
theorem dX4_readAll_11 : decode cX4_readAll 11 = .ok (.iconst 0, 1) := by decide +kernel
theorem dX4_readAll_12 : decode cX4_readAll 12 = .ok (.istore_n 2, 1) := by decide +kernel
theorem dX4_readAll_13 : decode cX4_readAll 13 = .ok (.iload_n 2, 1) := by decide +kernel
theorem dX4_readAll_14 : decode cX4_readAll 14 = .ok (.sipush 150, 3) := by decide +kernel
theorem dX4_readAll_17 : decode cX4_readAll 17 = .ok (.if_icmp .gt 41, 3) := by decide +kernel
theorem dX4_readAll_20 : decode cX4_readAll 20 = .ok (.aload_n 1, 1) := by decide +kernel
theorem dX4_readAll_21 : decode cX4_readAll 21 = .ok (.invokevirtual 30, 3) := by decide +kernel
theorem dX4_readAll_24 : decode cX4_readAll 24 = .ok (.istore_n 3, 1) := by decide +kernel
theorem dX4_readAll_25 : decode cX4_readAll 25 = .ok (.iload_n 3, 1) := by decide +kernel
theorem dX4_readAll_26 : decode cX4_readAll 26 = .ok (.ifCond .ne 5, 3) := by decide +kernel
theorem dX4_readAll_29 : decode cX4_readAll 29 = .ok (.iload_n 2, 1) := by decide +kernel
theorem dX4_readAll_30 : decode cX4_readAll 30 = .ok (.ireturn, 1) := by decide +kernel
theorem dX4_readAll_31 : decode cX4_readAll 31 = .ok (.iload_n 3, 1) := by decide +kernel
theorem dX4_readAll_32 : decode cX4_readAll 32 = .ok (.iconst 1, 1) := by decide +kernel
theorem dX4_readAll_33 : decode cX4_readAll 33 = .ok (.if_icmp .ne 11, 3) := by decide +kernel
theorem dX4_readAll_36 : decode cX4_readAll 36 = .ok (.aload_n 0, 1) := by decide +kernel
theorem dX4_readAll_37 : decode cX4_readAll 37 = .ok (.aload_n 1, 1) := by decide +kernel
theorem dX4_readAll_38 : decode cX4_readAll 38 = .ok (.invokevirtual 34, 3) := by decide +kernel
theorem dX4_readAll_41 : decode cX4_readAll 41 = .ok (.ifCond .ne 11, 3) := by decide +kernel
theorem dX4_readAll_44 : decode cX4_readAll 44 = .ok (.bipush (-10), 2) := by decide +kernel
theorem dX4_readAll_46 : decode cX4_readAll 46 = .ok (.aload_n 1, 1) := by decide +kernel
theorem dX4_readAll_47 : decode cX4_readAll 47 = .ok (.getfield 38, 3) := by decide +kernel
theorem dX4_readAll_50 : decode cX4_readAll 50 = .ok (.isub, 1) := by decide +kernel
theorem dX4_readAll_51 : decode cX4_readAll 51 = .ok (.ireturn, 1) := by decide +kernel
theorem dX4_readAll_52 : decode cX4_readAll 52 = .ok (.iinc 2 1, 3) := by decide +kernel
theorem dX4_readAll_55 : decode cX4_readAll 55 = .ok (.goto (-42), 3) := by decide +kernel
theorem dX4_readAll_58 : decode cX4_readAll 58 = .ok (.iload_n 2, 1) := by decide +kernel
theorem dX4_readAll_59 : decode cX4_readAll 59 = .ok (.ireturn, 1) := by decide +kernel
theorem dX4_readItem_0 : decode cX4_readItem 0 = .ok (.aload_n 1, 1) := by decide +kernel
theorem dX4_readItem_1 : decode cX4_readItem 1 = .ok (.getfield 42, 3) := by decide +kernel
theorem dX4_readItem_4 : decode cX4_readItem 4 = .ok (.invokestatic 45, 3) := by decide +kernel
theorem dX4_readItem_7 : decode cX4_readItem 7 = .ok (.istore_n 2, 1) := by decide +kernel
theorem dX4_readItem_8 : decode cX4_readItem 8 = .ok (.iload_n 2, 1) := by decide +kernel
theorem dX4_readItem_9 : decode cX4_readItem 9 = .ok (.ifCond .lt 11, 3) := by decide +kernel
theorem dX4_readItem_12 : decode cX4_readItem 12 = .ok (.aload_n 0, 1) := by decide +kernel
theorem dX4_readItem_13 : decode cX4_readItem 13 = .ok (.iload_n 2, 1) := by decide +kernel
theorem dX4_readItem_14 : decode cX4_readItem 14 = .ok (.invokevirtual 49, 3) := by decide +kernel
theorem dX4_readItem_17 : decode cX4_readItem 17 = .ok (.ifCond .ne 5, 3) := by decide +kernel
theorem dX4_readItem_20 : decode cX4_readItem 20 = .ok (.iconst 0, 1) := by decide +kernel
theorem dX4_readItem_21 : decode cX4_readItem 21 = .ok (.ireturn, 1) := by decide +kernel
theorem dX4_readItem_22 : decode cX4_readItem 22 = .ok (.iconst 0, 1) := by decide +kernel
theorem dX4_readItem_23 : decode cX4_readItem 23 = .ok (.istore_n 3, 1) := by decide +kernel
theorem dX4_readItem_24 : decode cX4_readItem 24 = .ok (.iload_n 3, 1) := by decide +kernel
theorem dX4_readItem_25 : decode cX4_readItem 25 = .ok (.getstatic 53, 3) := by decide +kernel
theorem dX4_readItem_28 : decode cX4_readItem 28 = .ok (.iload_n 2, 1) := by decide +kernel
theorem dX4_readItem_29 : decode cX4_readItem 29 = .ok (.iaload, 1) := by decide +kernel
theorem dX4_readItem_30 : decode cX4_readItem 30 = .ok (.if_icmp .ge 44, 3) := by decide +kernel
theorem dX4_readItem_33 : decode cX4_readItem 33 = .ok (.aload_n 1, 1) := by decide +kernel
theorem dX4_readItem_34 : decode cX4_readItem 34 = .ok (.invokevirtual 30, 3) := by decide +kernel
theorem dX4_readItem_37 : decode cX4_readItem 37 = .ok (.iconst 2, 1) := by decide +kernel
theorem dX4_readItem_38 : decode cX4_readItem 38 = .ok (.if_icmp .eq 5, 3) := by decide +kernel
theorem dX4_readItem_41 : decode cX4_readItem 41 = .ok (.iconst 0, 1) := by decide +kernel
theorem dX4_readItem_42 : decode cX4_readItem 42 = .ok (.ireturn, 1) := by decide +kernel
theorem dX4_readItem_43 : decode cX4_readItem 43 = .ok (.aload_n 0, 1) := by decide +kernel
theorem dX4_readItem_44 : decode cX4_readItem 44 = .ok (.iload_n 2, 1) := by decide +kernel
theorem dX4_readItem_45 : decode cX4_readItem 45 = .ok (.iload_n 3, 1) := by decide +kernel
theorem dX4_readItem_46 : decode cX4_readItem 46 = .ok (.aload_n 1, 1) := by decide +kernel
theorem dX4_readItem_47 : decode cX4_readItem 47 = .ok (.getfield 42, 3) := by decide +kernel
theorem dX4_readItem_50 : decode cX4_readItem 50 = .ok (.invokevirtual 56, 3) := by decide +kernel
theorem dX4_readItem_53 : decode cX4_readItem 53 = .ok (.ifCond .ne 5, 3) := by decide +kernel
theorem dX4_readItem_56 : decode cX4_readItem 56 = .ok (.iconst 0, 1) := by decide +kernel
theorem dX4_readItem_57 : decode cX4_readItem 57 = .ok (.ireturn, 1) := by decide +kernel
theorem dX4_readItem_58 : decode cX4_readItem 58 = .ok (.aload_n 0, 1) := by decide +kernel
theorem dX4_readItem_59 : decode cX4_readItem 59 = .ok (.getfield 18, 3) := by decide +kernel
theorem dX4_readItem_62 : decode cX4_readItem 62 = .ok (.iload_n 3, 1) := by decide +kernel
theorem dX4_readItem_63 : decode cX4_readItem 63 = .ok (.aload_n 1, 1) := by decide +kernel
theorem dX4_readItem_64 : decode cX4_readItem 64 = .ok (.getfield 42, 3) := by decide +kernel
theorem dX4_readItem_67 : decode cX4_readItem 67 = .ok (.iastore, 1) := by decide +kernel
theorem dX4_readItem_68 : decode cX4_readItem 68 = .ok (.iinc 3 1, 3) := by decide +kernel
theorem dX4_readItem_71 : decode cX4_readItem 71 = .ok (.goto (-47), 3) := by decide +kernel
theorem dX4_readItem_74 : decode cX4_readItem 74 = .ok (.aload_n 1, 1) := by decide +kernel
theorem dX4_readItem_75 : decode cX4_readItem 75 = .ok (.invokevirtual 30, 3) := by decide +kernel
theorem dX4_readItem_78 : decode cX4_readItem 78 = .ok (.iconst 3, 1) := by decide +kernel
theorem dX4_readItem_79 : decode cX4_readItem 79 = .ok (.if_icmp .eq 5, 3) := by decide +kernel
theorem dX4_readItem_82 : decode cX4_readItem 82 = .ok (.iconst 0, 1) := by decide +kernel
theorem dX4_readItem_83 : decode cX4_readItem 83 = .ok (.ireturn, 1) := by decide +kernel
theorem dX4_readItem_84 : decode cX4_readItem 84 = .ok (.aload_n 0, 1) := by decide +kernel
theorem dX4_readItem_85 : decode cX4_readItem 85 = .ok (.iload_n 2, 1) := by decide +kernel
theorem dX4_readItem_86 : decode cX4_readItem 86 = .ok (.invokevirtual 60, 3) := by decide +kernel
theorem dX4_readItem_89 : decode cX4_readItem 89 = .ok (.iconst 1, 1) := by decide +kernel
theorem dX4_readItem_90 : decode cX4_readItem 90 = .ok (.ireturn, 1) := by decide +kernel
theorem dX4_itemOf_0 : decode cX4_itemOf 0 = .ok (.iconst 0, 1) := by decide +kernel
theorem dX4_itemOf_1 : decode cX4_itemOf 1 = .ok (.istore_n 1, 1) := by decide +kernel
theorem dX4_itemOf_2 : decode cX4_itemOf 2 = .ok (.iload_n 1, 1) := by decide +kernel
theorem dX4_itemOf_3 : decode cX4_itemOf 3 = .ok (.getstatic 64, 3) := by decide +kernel
theorem dX4_itemOf_6 : decode cX4_itemOf 6 = .ok (.arraylength, 1) := by decide +kernel
theorem dX4_itemOf_7 : decode cX4_itemOf 7 = .ok (.if_icmp .ge 20, 3) := by decide +kernel
theorem dX4_itemOf_10 : decode cX4_itemOf 10 = .ok (.getstatic 64, 3) := by decide +kernel
theorem dX4_itemOf_13 : decode cX4_itemOf 13 = .ok (.iload_n 1, 1) := by decide +kernel
theorem dX4_itemOf_14 : decode cX4_itemOf 14 = .ok (.caload, 1) := by decide +kernel
theorem dX4_itemOf_15 : decode cX4_itemOf 15 = .ok (.iload_n 0, 1) := by decide +kernel
theorem dX4_itemOf_16 : decode cX4_itemOf 16 = .ok (.if_icmp .ne 5, 3) := by decide +kernel
theorem dX4_itemOf_19 : decode cX4_itemOf 19 = .ok (.iload_n 1, 1) := by decide +kernel
theorem dX4_itemOf_20 : decode cX4_itemOf 20 = .ok (.ireturn, 1) := by decide +kernel
theorem dX4_itemOf_21 : decode cX4_itemOf 21 = .ok (.iinc 1 1, 3) := by decide +kernel
theorem dX4_itemOf_24 : decode cX4_itemOf 24 = .ok (.goto (-22), 3) := by decide +kernel
theorem dX4_itemOf_27 : decode cX4_itemOf 27 = .ok (.iconst (-1), 1) := by decide +kernel
theorem dX4_itemOf_28 : decode cX4_itemOf 28 = .ok (.ireturn, 1) := by decide +kernel
theorem dX4_hasRoomFor_0 : decode cX4_hasRoomFor 0 = .ok (.iload_n 1, 1) := by decide +kernel
theorem dX4_hasRoomFor_1 : decode cX4_hasRoomFor 1 = .ok (.tableswitch 78 1 3 #[27, 44, 61], 27) := by decide +kernel
theorem dX4_hasRoomFor_28 : decode cX4_hasRoomFor 28 = .ok (.aload_n 0, 1) := by decide +kernel
theorem dX4_hasRoomFor_29 : decode cX4_hasRoomFor 29 = .ok (.getfield 12, 3) := by decide +kernel
theorem dX4_hasRoomFor_32 : decode cX4_hasRoomFor 32 = .ok (.getfield 68, 3) := by decide +kernel
theorem dX4_hasRoomFor_35 : decode cX4_hasRoomFor 35 = .ok (.iconst 5, 1) := by decide +kernel
theorem dX4_hasRoomFor_36 : decode cX4_hasRoomFor 36 = .ok (.if_icmp .ge 7, 3) := by decide +kernel
theorem dX4_hasRoomFor_39 : decode cX4_hasRoomFor 39 = .ok (.iconst 1, 1) := by decide +kernel
theorem dX4_hasRoomFor_40 : decode cX4_hasRoomFor 40 = .ok (.goto 4, 3) := by decide +kernel
theorem dX4_hasRoomFor_43 : decode cX4_hasRoomFor 43 = .ok (.iconst 0, 1) := by decide +kernel
theorem dX4_hasRoomFor_44 : decode cX4_hasRoomFor 44 = .ok (.ireturn, 1) := by decide +kernel
theorem dX4_hasRoomFor_45 : decode cX4_hasRoomFor 45 = .ok (.aload_n 0, 1) := by decide +kernel
theorem dX4_hasRoomFor_46 : decode cX4_hasRoomFor 46 = .ok (.getfield 12, 3) := by decide +kernel
theorem dX4_hasRoomFor_49 : decode cX4_hasRoomFor 49 = .ok (.getfield 71, 3) := by decide +kernel
theorem dX4_hasRoomFor_52 : decode cX4_hasRoomFor 52 = .ok (.iconst 4, 1) := by decide +kernel
theorem dX4_hasRoomFor_53 : decode cX4_hasRoomFor 53 = .ok (.if_icmp .ge 7, 3) := by decide +kernel
theorem dX4_hasRoomFor_56 : decode cX4_hasRoomFor 56 = .ok (.iconst 1, 1) := by decide +kernel
theorem dX4_hasRoomFor_57 : decode cX4_hasRoomFor 57 = .ok (.goto 4, 3) := by decide +kernel
theorem dX4_hasRoomFor_60 : decode cX4_hasRoomFor 60 = .ok (.iconst 0, 1) := by decide +kernel
theorem dX4_hasRoomFor_61 : decode cX4_hasRoomFor 61 = .ok (.ireturn, 1) := by decide +kernel
theorem dX4_hasRoomFor_62 : decode cX4_hasRoomFor 62 = .ok (.aload_n 0, 1) := by decide +kernel
theorem dX4_hasRoomFor_63 : decode cX4_hasRoomFor 63 = .ok (.getfield 12, 3) := by decide +kernel
theorem dX4_hasRoomFor_66 : decode cX4_hasRoomFor 66 = .ok (.getfield 74, 3) := by decide +kernel
theorem dX4_hasRoomFor_69 : decode cX4_hasRoomFor 69 = .ok (.iconst 4, 1) := by decide +kernel
theorem dX4_hasRoomFor_70 : decode cX4_hasRoomFor 70 = .ok (.if_icmp .ge 7, 3) := by decide +kernel
theorem dX4_hasRoomFor_73 : decode cX4_hasRoomFor 73 = .ok (.iconst 1, 1) := by decide +kernel
theorem dX4_hasRoomFor_74 : decode cX4_hasRoomFor 74 = .ok (.goto 4, 3) := by decide +kernel
theorem dX4_hasRoomFor_77 : decode cX4_hasRoomFor 77 = .ok (.iconst 0, 1) := by decide +kernel
theorem dX4_hasRoomFor_78 : decode cX4_hasRoomFor 78 = .ok (.ireturn, 1) := by decide +kernel
theorem dX4_hasRoomFor_79 : decode cX4_hasRoomFor 79 = .ok (.iconst 1, 1) := by decide +kernel
theorem dX4_hasRoomFor_80 : decode cX4_hasRoomFor 80 = .ok (.ireturn, 1) := by decide +kernel
theorem dX4_mayBe_0 : decode cX4_mayBe 0 = .ok (.iload_n 1, 1) := by decide +kernel
theorem dX4_mayBe_1 : decode cX4_mayBe 1 = .ok (.iconst 3, 1) := by decide +kernel
theorem dX4_mayBe_2 : decode cX4_mayBe 2 = .ok (.if_icmp .ne 20, 3) := by decide +kernel
theorem dX4_mayBe_5 : decode cX4_mayBe 5 = .ok (.iload_n 2, 1) := by decide +kernel
theorem dX4_mayBe_6 : decode cX4_mayBe 6 = .ok (.iconst 2, 1) := by decide +kernel
theorem dX4_mayBe_7 : decode cX4_mayBe 7 = .ok (.if_icmp .ne 15, 3) := by decide +kernel
theorem dX4_mayBe_10 : decode cX4_mayBe 10 = .ok (.iload_n 3, 1) := by decide +kernel
theorem dX4_mayBe_11 : decode cX4_mayBe 11 = .ok (.aload_n 0, 1) := by decide +kernel
theorem dX4_mayBe_12 : decode cX4_mayBe 12 = .ok (.getfield 18, 3) := by decide +kernel
theorem dX4_mayBe_15 : decode cX4_mayBe 15 = .ok (.iconst 1, 1) := by decide +kernel
theorem dX4_mayBe_16 : decode cX4_mayBe 16 = .ok (.iaload, 1) := by decide +kernel
theorem dX4_mayBe_17 : decode cX4_mayBe 17 = .ok (.if_icmp .ge 5, 3) := by decide +kernel
theorem dX4_mayBe_20 : decode cX4_mayBe 20 = .ok (.iconst 0, 1) := by decide +kernel
theorem dX4_mayBe_21 : decode cX4_mayBe 21 = .ok (.ireturn, 1) := by decide +kernel
theorem dX4_mayBe_22 : decode cX4_mayBe 22 = .ok (.iload_n 3, 1) := by decide +kernel
theorem dX4_mayBe_23 : decode cX4_mayBe 23 = .ok (.getstatic 77, 3) := by decide +kernel
theorem dX4_mayBe_26 : decode cX4_mayBe 26 = .ok (.iload_n 1, 1) := by decide +kernel
theorem dX4_mayBe_27 : decode cX4_mayBe 27 = .ok (.iconst 4, 1) := by decide +kernel
theorem dX4_mayBe_28 : decode cX4_mayBe 28 = .ok (.imul, 1) := by decide +kernel
theorem dX4_mayBe_29 : decode cX4_mayBe 29 = .ok (.iload_n 2, 1) := by decide +kernel
theorem dX4_mayBe_30 : decode cX4_mayBe 30 = .ok (.iadd, 1) := by decide +kernel
theorem dX4_mayBe_31 : decode cX4_mayBe 31 = .ok (.iaload, 1) := by decide +kernel
theorem dX4_mayBe_32 : decode cX4_mayBe 32 = .ok (.getstatic 80, 3) := by decide +kernel
theorem dX4_mayBe_35 : decode cX4_mayBe 35 = .ok (.iload_n 1, 1) := by decide +kernel
theorem dX4_mayBe_36 : decode cX4_mayBe 36 = .ok (.iconst 4, 1) := by decide +kernel
theorem dX4_mayBe_37 : decode cX4_mayBe 37 = .ok (.imul, 1) := by decide +kernel
theorem dX4_mayBe_38 : decode cX4_mayBe 38 = .ok (.iload_n 2, 1) := by decide +kernel
theorem dX4_mayBe_39 : decode cX4_mayBe 39 = .ok (.iadd, 1) := by decide +kernel
theorem dX4_mayBe_40 : decode cX4_mayBe 40 = .ok (.iaload, 1) := by decide +kernel
theorem dX4_mayBe_41 : decode cX4_mayBe 41 = .ok (.invokestatic 83, 3) := by decide +kernel
theorem dX4_mayBe_44 : decode cX4_mayBe 44 = .ok (.ireturn, 1) := by decide +kernel
theorem dX4_tell_0 : decode cX4_tell 0 = .ok (.iload_n 1, 1) := by decide +kernel
theorem dX4_tell_1 : decode cX4_tell 1 = .ok (.tableswitch 78 0 2 #[27, 50, 64], 27) := by decide +kernel
theorem dX4_tell_28 : decode cX4_tell 28 = .ok (.aload_n 0, 1) := by decide +kernel
theorem dX4_tell_29 : decode cX4_tell 29 = .ok (.getfield 12, 3) := by decide +kernel
theorem dX4_tell_32 : decode cX4_tell 32 = .ok (.getfield 86, 3) := by decide +kernel
theorem dX4_tell_35 : decode cX4_tell 35 = .ok (.aload_n 0, 1) := by decide +kernel
theorem dX4_tell_36 : decode cX4_tell 36 = .ok (.getfield 18, 3) := by decide +kernel
theorem dX4_tell_39 : decode cX4_tell 39 = .ok (.iconst 0, 1) := by decide +kernel
theorem dX4_tell_40 : decode cX4_tell 40 = .ok (.iaload, 1) := by decide +kernel
theorem dX4_tell_41 : decode cX4_tell 41 = .ok (.aload_n 0, 1) := by decide +kernel
theorem dX4_tell_42 : decode cX4_tell 42 = .ok (.getfield 18, 3) := by decide +kernel
theorem dX4_tell_45 : decode cX4_tell 45 = .ok (.iconst 1, 1) := by decide +kernel
theorem dX4_tell_46 : decode cX4_tell 46 = .ok (.iaload, 1) := by decide +kernel
theorem dX4_tell_47 : decode cX4_tell 47 = .ok (.iastore, 1) := by decide +kernel
theorem dX4_tell_48 : decode cX4_tell 48 = .ok (.goto 42, 3) := by decide +kernel
theorem dX4_tell_51 : decode cX4_tell 51 = .ok (.aload_n 0, 1) := by decide +kernel
theorem dX4_tell_52 : decode cX4_tell 52 = .ok (.getfield 12, 3) := by decide +kernel
theorem dX4_tell_55 : decode cX4_tell 55 = .ok (.aload_n 0, 1) := by decide +kernel
theorem dX4_tell_56 : decode cX4_tell 56 = .ok (.getfield 18, 3) := by decide +kernel
theorem dX4_tell_59 : decode cX4_tell 59 = .ok (.invokevirtual 89, 3) := by decide +kernel
theorem dX4_tell_62 : decode cX4_tell 62 = .ok (.goto 28, 3) := by decide +kernel
theorem dX4_tell_65 : decode cX4_tell 65 = .ok (.aload_n 0, 1) := by decide +kernel
theorem dX4_tell_66 : decode cX4_tell 66 = .ok (.getfield 12, 3) := by decide +kernel
theorem dX4_tell_69 : decode cX4_tell 69 = .ok (.aload_n 0, 1) := by decide +kernel
theorem dX4_tell_70 : decode cX4_tell 70 = .ok (.getfield 18, 3) := by decide +kernel
theorem dX4_tell_73 : decode cX4_tell 73 = .ok (.invokevirtual 93, 3) := by decide +kernel
theorem dX4_tell_76 : decode cX4_tell 76 = .ok (.goto 14, 3) := by decide +kernel
theorem dX4_tell_79 : decode cX4_tell 79 = .ok (.aload_n 0, 1) := by decide +kernel
theorem dX4_tell_80 : decode cX4_tell 80 = .ok (.getfield 12, 3) := by decide +kernel
theorem dX4_tell_83 : decode cX4_tell 83 = .ok (.aload_n 0, 1) := by decide +kernel
theorem dX4_tell_84 : decode cX4_tell 84 = .ok (.getfield 18, 3) := by decide +kernel
theorem dX4_tell_87 : decode cX4_tell 87 = .ok (.invokevirtual 96, 3) := by decide +kernel
theorem dX4_tell_90 : decode cX4_tell 90 = .ok (.return_, 1) := by decide +kernel
theorem dX5_init_0 : decode cX5_init 0 = .ok (.aload_n 0, 1) := by decide +kernel
theorem dX5_init_1 : decode cX5_init 1 = .ok (.invokespecial 1, 3) := by decide +kernel
theorem dX5_init_4 : decode cX5_init 4 = .ok (.aload_n 0, 1) := by decide +kernel
theorem dX5_init_5 : decode cX5_init 5 = .ok (.sipush 150, 3) := by decide +kernel
theorem dX5_init_8 : decode cX5_init 8 = .ok (.newarray .int, 2) := by decide +kernel
theorem dX5_init_10 : decode cX5_init 10 = .ok (.putfield 9, 3) := by decide +kernel
theorem dX5_init_13 : decode cX5_init 13 = .ok (.return_, 1) := by decide +kernel
theorem dX5_append_0 : decode cX5_append 0 = .ok (.aload_n 0, 1) := by decide +kernel
theorem dX5_append_1 : decode cX5_append 1 = .ok (.getfield 13, 3) := by decide +kernel
theorem dX5_append_4 : decode cX5_append 4 = .ok (.sipush 150, 3) := by decide +kernel
theorem dX5_append_7 : decode cX5_append 7 = .ok (.if_icmp .lt 5, 3) := by decide +kernel
theorem dX5_append_10 : decode cX5_append 10 = .ok (.iconst 0, 1) := by decide +kernel
theorem dX5_append_11 : decode cX5_append 11 = .ok (.ireturn, 1) := by decide +kernel
theorem dX5_append_12 : decode cX5_append 12 = .ok (.aload_n 0, 1) := by decide +kernel
theorem dX5_append_13 : decode cX5_append 13 = .ok (.getfield 9, 3) := by decide +kernel
theorem dX5_append_16 : decode cX5_append 16 = .ok (.aload_n 0, 1) := by decide +kernel
theorem dX5_append_17 : decode cX5_append 17 = .ok (.getfield 13, 3) := by decide +kernel
theorem dX5_append_20 : decode cX5_append 20 = .ok (.iload_n 1, 1) := by decide +kernel
theorem dX5_append_21 : decode cX5_append 21 = .ok (.iastore, 1) := by decide +kernel
theorem dX5_append_22 : decode cX5_append 22 = .ok (.aload_n 0, 1) := by decide +kernel
theorem dX5_append_23 : decode cX5_append 23 = .ok (.dup, 1) := by decide +kernel
theorem dX5_append_24 : decode cX5_append 24 = .ok (.getfield 13, 3) := by decide +kernel
theorem dX5_append_27 : decode cX5_append 27 = .ok (.iconst 1, 1) := by decide +kernel
theorem dX5_append_28 : decode cX5_append 28 = .ok (.iadd, 1) := by decide +kernel
theorem dX5_append_29 : decode cX5_append 29 = .ok (.putfield 13, 3) := by decide +kernel
theorem dX5_append_32 : decode cX5_append 32 = .ok (.iconst 1, 1) := by decide +kernel
theorem dX5_append_33 : decode cX5_append 33 = .ok (.ireturn, 1) := by decide +kernel
theorem dX5_empty_0 : decode cX5_empty 0 = .ok (.aload_n 0, 1) := by decide +kernel
theorem dX5_empty_1 : decode cX5_empty 1 = .ok (.iconst 0, 1) := by decide +kernel
theorem dX5_empty_2 : decode cX5_empty 2 = .ok (.putfield 13, 3) := by decide +kernel
theorem dX5_empty_5 : decode cX5_empty 5 = .ok (.return_, 1) := by decide +kernel
theorem dX5_rewind_0 : decode cX5_rewind 0 = .ok (.aload_n 0, 1) := by decide +kernel
theorem dX5_rewind_1 : decode cX5_rewind 1 = .ok (.iconst 0, 1) := by decide +kernel
theorem dX5_rewind_2 : decode cX5_rewind 2 = .ok (.putfield 17, 3) := by decide +kernel
theorem dX5_rewind_5 : decode cX5_rewind 5 = .ok (.return_, 1) := by decide +kernel
theorem dX5_nextToken_0 : decode cX5_nextToken 0 = .ok (.aload_n 0, 1) := by decide +kernel
theorem dX5_nextToken_1 : decode cX5_nextToken 1 = .ok (.getfield 17, 3) := by decide +kernel
theorem dX5_nextToken_4 : decode cX5_nextToken 4 = .ok (.aload_n 0, 1) := by decide +kernel
theorem dX5_nextToken_5 : decode cX5_nextToken 5 = .ok (.getfield 13, 3) := by decide +kernel
theorem dX5_nextToken_8 : decode cX5_nextToken 8 = .ok (.if_icmp .ge 30, 3) := by decide +kernel
theorem dX5_nextToken_11 : decode cX5_nextToken 11 = .ok (.aload_n 0, 1) := by decide +kernel
theorem dX5_nextToken_12 : decode cX5_nextToken 12 = .ok (.getfield 9, 3) := by decide +kernel
theorem dX5_nextToken_15 : decode cX5_nextToken 15 = .ok (.aload_n 0, 1) := by decide +kernel
theorem dX5_nextToken_16 : decode cX5_nextToken 16 = .ok (.getfield 17, 3) := by decide +kernel
theorem dX5_nextToken_19 : decode cX5_nextToken 19 = .ok (.iaload, 1) := by decide +kernel
theorem dX5_nextToken_20 : decode cX5_nextToken 20 = .ok (.bipush 32, 2) := by decide +kernel
theorem dX5_nextToken_22 : decode cX5_nextToken 22 = .ok (.if_icmp .ne 16, 3) := by decide +kernel
theorem dX5_nextToken_25 : decode cX5_nextToken 25 = .ok (.aload_n 0, 1) := by decide +kernel
theorem dX5_nextToken_26 : decode cX5_nextToken 26 = .ok (.dup, 1) := by decide +kernel
theorem dX5_nextToken_27 : decode cX5_nextToken 27 = .ok (.getfield 17, 3) := by decide +kernel
theorem dX5_nextToken_30 : decode cX5_nextToken 30 = .ok (.iconst 1, 1) := by decide +kernel
theorem dX5_nextToken_31 : decode cX5_nextToken 31 = .ok (.iadd, 1) := by decide +kernel
theorem dX5_nextToken_32 : decode cX5_nextToken 32 = .ok (.putfield 17, 3) := by decide +kernel
theorem dX5_nextToken_35 : decode cX5_nextToken 35 = .ok (.goto (-35), 3) := by decide +kernel
theorem dX5_nextToken_38 : decode cX5_nextToken 38 = .ok (.aload_n 0, 1) := by decide +kernel
theorem dX5_nextToken_39 : decode cX5_nextToken 39 = .ok (.aload_n 0, 1) := by decide +kernel
theorem dX5_nextToken_40 : decode cX5_nextToken 40 = .ok (.getfield 17, 3) := by decide +kernel
theorem dX5_nextToken_43 : decode cX5_nextToken 43 = .ok (.putfield 20, 3) := by decide +kernel
theorem dX5_nextToken_46 : decode cX5_nextToken 46 = .ok (.aload_n 0, 1) := by decide +kernel
theorem dX5_nextToken_47 : decode cX5_nextToken 47 = .ok (.iconst 0, 1) := by decide +kernel
theorem dX5_nextToken_48 : decode cX5_nextToken 48 = .ok (.putfield 23, 3) := by decide +kernel
theorem dX5_nextToken_51 : decode cX5_nextToken 51 = .ok (.aload_n 0, 1) := by decide +kernel
theorem dX5_nextToken_52 : decode cX5_nextToken 52 = .ok (.getfield 17, 3) := by decide +kernel
theorem dX5_nextToken_55 : decode cX5_nextToken 55 = .ok (.aload_n 0, 1) := by decide +kernel
theorem dX5_nextToken_56 : decode cX5_nextToken 56 = .ok (.getfield 13, 3) := by decide +kernel
theorem dX5_nextToken_59 : decode cX5_nextToken 59 = .ok (.if_icmp .lt 5, 3) := by decide +kernel
theorem dX5_nextToken_62 : decode cX5_nextToken 62 = .ok (.iconst 0, 1) := by decide +kernel
theorem dX5_nextToken_63 : decode cX5_nextToken 63 = .ok (.ireturn, 1) := by decide +kernel
theorem dX5_nextToken_64 : decode cX5_nextToken 64 = .ok (.aload_n 0, 1) := by decide +kernel
theorem dX5_nextToken_65 : decode cX5_nextToken 65 = .ok (.getfield 9, 3) := by decide +kernel
theorem dX5_nextToken_68 : decode cX5_nextToken 68 = .ok (.aload_n 0, 1) := by decide +kernel
theorem dX5_nextToken_69 : decode cX5_nextToken 69 = .ok (.getfield 17, 3) := by decide +kernel
theorem dX5_nextToken_72 : decode cX5_nextToken 72 = .ok (.iaload, 1) := by decide +kernel
theorem dX5_nextToken_73 : decode cX5_nextToken 73 = .ok (.invokestatic 26, 3) := by decide +kernel
theorem dX5_nextToken_76 : decode cX5_nextToken 76 = .ok (.ifCond .eq 8, 3) := by decide +kernel
theorem dX5_nextToken_79 : decode cX5_nextToken 79 = .ok (.aload_n 0, 1) := by decide +kernel
theorem dX5_nextToken_80 : decode cX5_nextToken 80 = .ok (.invokevirtual 30, 3) := by decide +kernel
theorem dX5_nextToken_83 : decode cX5_nextToken 83 = .ok (.ireturn, 1) := by decide +kernel
theorem dX5_nextToken_84 : decode cX5_nextToken 84 = .ok (.aload_n 0, 1) := by decide +kernel
theorem dX5_nextToken_85 : decode cX5_nextToken 85 = .ok (.getfield 9, 3) := by decide +kernel
theorem dX5_nextToken_88 : decode cX5_nextToken 88 = .ok (.aload_n 0, 1) := by decide +kernel
theorem dX5_nextToken_89 : decode cX5_nextToken 89 = .ok (.getfield 17, 3) := by decide +kernel
theorem dX5_nextToken_92 : decode cX5_nextToken 92 = .ok (.iaload, 1) := by decide +kernel
theorem dX5_nextToken_93 : decode cX5_nextToken 93 = .ok (.invokestatic 34, 3) := by decide +kernel
theorem dX5_nextToken_96 : decode cX5_nextToken 96 = .ok (.ifCond .eq 8, 3) := by decide +kernel
theorem dX5_nextToken_99 : decode cX5_nextToken 99 = .ok (.aload_n 0, 1) := by decide +kernel
theorem dX5_nextToken_100 : decode cX5_nextToken 100 = .ok (.invokevirtual 37, 3) := by decide +kernel
theorem dX5_nextToken_103 : decode cX5_nextToken 103 = .ok (.ireturn, 1) := by decide +kernel
theorem dX5_nextToken_104 : decode cX5_nextToken 104 = .ok (.aload_n 0, 1) := by decide +kernel
theorem dX5_nextToken_105 : decode cX5_nextToken 105 = .ok (.getfield 9, 3) := by decide +kernel
theorem dX5_nextToken_108 : decode cX5_nextToken 108 = .ok (.aload_n 0, 1) := by decide +kernel
theorem dX5_nextToken_109 : decode cX5_nextToken 109 = .ok (.getfield 17, 3) := by decide +kernel
theorem dX5_nextToken_112 : decode cX5_nextToken 112 = .ok (.iaload, 1) := by decide +kernel
theorem dX5_nextToken_113 : decode cX5_nextToken 113 = .ok (.bipush 59, 2) := by decide +kernel
theorem dX5_nextToken_115 : decode cX5_nextToken 115 = .ok (.if_icmp .ne 7, 3) := by decide +kernel
theorem dX5_nextToken_118 : decode cX5_nextToken 118 = .ok (.iconst 1, 1) := by decide +kernel
theorem dX5_nextToken_119 : decode cX5_nextToken 119 = .ok (.goto 4, 3) := by decide +kernel
theorem dX5_nextToken_122 : decode cX5_nextToken 122 = .ok (.iconst 0, 1) := by decide +kernel
theorem dX5_nextToken_123 : decode cX5_nextToken 123 = .ok (.istore_n 1, 1) := by decide +kernel
theorem dX5_nextToken_124 : decode cX5_nextToken 124 = .ok (.aload_n 0, 1) := by decide +kernel
theorem dX5_nextToken_125 : decode cX5_nextToken 125 = .ok (.dup, 1) := by decide +kernel
theorem dX5_nextToken_126 : decode cX5_nextToken 126 = .ok (.getfield 17, 3) := by decide +kernel
theorem dX5_nextToken_129 : decode cX5_nextToken 129 = .ok (.iconst 1, 1) := by decide +kernel
theorem dX5_nextToken_130 : decode cX5_nextToken 130 = .ok (.iadd, 1) := by decide +kernel
theorem dX5_nextToken_131 : decode cX5_nextToken 131 = .ok (.putfield 17, 3) := by decide +kernel
theorem dX5_nextToken_134 : decode cX5_nextToken 134 = .ok (.iload_n 1, 1) := by decide +kernel
theorem dX5_nextToken_135 : decode cX5_nextToken 135 = .ok (.ifCond .eq 7, 3) := by decide +kernel
theorem dX5_nextToken_138 : decode cX5_nextToken 138 = .ok (.iconst 3, 1) := by decide +kernel
theorem dX5_nextToken_139 : decode cX5_nextToken 139 = .ok (.goto 4, 3) := by decide +kernel
theorem dX5_nextToken_142 : decode cX5_nextToken 142 = .ok (.iconst 4, 1) := by decide +kernel
theorem dX5_nextToken_143 : decode cX5_nextToken 143 = .ok (.ireturn, 1) := by decide +kernel
theorem dX5_readWord_0 : decode cX5_readWord 0 = .ok (.aload_n 0, 1) := by decide +kernel
theorem dX5_readWord_1 : decode cX5_readWord 1 = .ok (.getfield 9, 3) := by decide +kernel
theorem dX5_readWord_4 : decode cX5_readWord 4 = .ok (.aload_n 0, 1) := by decide +kernel
theorem dX5_readWord_5 : decode cX5_readWord 5 = .ok (.getfield 17, 3) := by decide +kernel
theorem dX5_readWord_8 : decode cX5_readWord 8 = .ok (.iaload, 1) := by decide +kernel
theorem dX5_readWord_9 : decode cX5_readWord 9 = .ok (.istore_n 1, 1) := by decide +kernel
theorem dX5_readWord_10 : decode cX5_readWord 10 = .ok (.aload_n 0, 1) := by decide +kernel
theorem dX5_readWord_11 : decode cX5_readWord 11 = .ok (.getfield 17, 3) := by decide +kernel
theorem dX5_readWord_14 : decode cX5_readWord 14 = .ok (.aload_n 0, 1) := by decide +kernel
theorem dX5_readWord_15 : decode cX5_readWord 15 = .ok (.getfield 13, 3) := by decide +kernel
theorem dX5_readWord_18 : decode cX5_readWord 18 = .ok (.if_icmp .ge 31, 3) := by decide +kernel
theorem dX5_readWord_21 : decode cX5_readWord 21 = .ok (.aload_n 0, 1) := by decide +kernel
theorem dX5_readWord_22 : decode cX5_readWord 22 = .ok (.getfield 9, 3) := by decide +kernel
theorem dX5_readWord_25 : decode cX5_readWord 25 = .ok (.aload_n 0, 1) := by decide +kernel
theorem dX5_readWord_26 : decode cX5_readWord 26 = .ok (.getfield 17, 3) := by decide +kernel
theorem dX5_readWord_29 : decode cX5_readWord 29 = .ok (.iaload, 1) := by decide +kernel
theorem dX5_readWord_30 : decode cX5_readWord 30 = .ok (.invokestatic 26, 3) := by decide +kernel
theorem dX5_readWord_33 : decode cX5_readWord 33 = .ok (.ifCond .eq 16, 3) := by decide +kernel
theorem dX5_readWord_36 : decode cX5_readWord 36 = .ok (.aload_n 0, 1) := by decide +kernel
theorem dX5_readWord_37 : decode cX5_readWord 37 = .ok (.dup, 1) := by decide +kernel
theorem dX5_readWord_38 : decode cX5_readWord 38 = .ok (.getfield 17, 3) := by decide +kernel
theorem dX5_readWord_41 : decode cX5_readWord 41 = .ok (.iconst 1, 1) := by decide +kernel
theorem dX5_readWord_42 : decode cX5_readWord 42 = .ok (.iadd, 1) := by decide +kernel
theorem dX5_readWord_43 : decode cX5_readWord 43 = .ok (.putfield 17, 3) := by decide +kernel
theorem dX5_readWord_46 : decode cX5_readWord 46 = .ok (.goto (-36), 3) := by decide +kernel
theorem dX5_readWord_49 : decode cX5_readWord 49 = .ok (.aload_n 0, 1) := by decide +kernel
theorem dX5_readWord_50 : decode cX5_readWord 50 = .ok (.getfield 17, 3) := by decide +kernel
theorem dX5_readWord_53 : decode cX5_readWord 53 = .ok (.aload_n 0, 1) := by decide +kernel
theorem dX5_readWord_54 : decode cX5_readWord 54 = .ok (.getfield 20, 3) := by decide +kernel
theorem dX5_readWord_57 : decode cX5_readWord 57 = .ok (.isub, 1) := by decide +kernel
theorem dX5_readWord_58 : decode cX5_readWord 58 = .ok (.iconst 1, 1) := by decide +kernel
theorem dX5_readWord_59 : decode cX5_readWord 59 = .ok (.if_icmp .ne 8, 3) := by decide +kernel
theorem dX5_readWord_62 : decode cX5_readWord 62 = .ok (.aload_n 0, 1) := by decide +kernel
theorem dX5_readWord_63 : decode cX5_readWord 63 = .ok (.iload_n 1, 1) := by decide +kernel
theorem dX5_readWord_64 : decode cX5_readWord 64 = .ok (.putfield 23, 3) := by decide +kernel
theorem dX5_readWord_67 : decode cX5_readWord 67 = .ok (.iconst 1, 1) := by decide +kernel
theorem dX5_readWord_68 : decode cX5_readWord 68 = .ok (.ireturn, 1) := by decide +kernel
theorem dX5_readNumber_0 : decode cX5_readNumber 0 = .ok (.aload_n 0, 1) := by decide +kernel
theorem dX5_readNumber_1 : decode cX5_readNumber 1 = .ok (.getfield 9, 3) := by decide +kernel
theorem dX5_readNumber_4 : decode cX5_readNumber 4 = .ok (.aload_n 0, 1) := by decide +kernel
theorem dX5_readNumber_5 : decode cX5_readNumber 5 = .ok (.getfield 17, 3) := by decide +kernel
theorem dX5_readNumber_8 : decode cX5_readNumber 8 = .ok (.iaload, 1) := by decide +kernel
theorem dX5_readNumber_9 : decode cX5_readNumber 9 = .ok (.bipush 48, 2) := by decide +kernel
theorem dX5_readNumber_11 : decode cX5_readNumber 11 = .ok (.if_icmp .ne 7, 3) := by decide +kernel
theorem dX5_readNumber_14 : decode cX5_readNumber 14 = .ok (.iconst 1, 1) := by decide +kernel
theorem dX5_readNumber_15 : decode cX5_readNumber 15 = .ok (.goto 4, 3) := by decide +kernel
theorem dX5_readNumber_18 : decode cX5_readNumber 18 = .ok (.iconst 0, 1) := by decide +kernel
theorem dX5_readNumber_19 : decode cX5_readNumber 19 = .ok (.istore_n 1, 1) := by decide +kernel
theorem dX5_readNumber_20 : decode cX5_readNumber 20 = .ok (.aload_n 0, 1) := by decide +kernel
theorem dX5_readNumber_21 : decode cX5_readNumber 21 = .ok (.getfield 17, 3) := by decide +kernel
theorem dX5_readNumber_24 : decode cX5_readNumber 24 = .ok (.aload_n 0, 1) := by decide +kernel
theorem dX5_readNumber_25 : decode cX5_readNumber 25 = .ok (.getfield 13, 3) := by decide +kernel
theorem dX5_readNumber_28 : decode cX5_readNumber 28 = .ok (.if_icmp .ge 64, 3) := by decide +kernel
theorem dX5_readNumber_31 : decode cX5_readNumber 31 = .ok (.aload_n 0, 1) := by decide +kernel
theorem dX5_readNumber_32 : decode cX5_readNumber 32 = .ok (.getfield 9, 3) := by decide +kernel
theorem dX5_readNumber_35 : decode cX5_readNumber 35 = .ok (.aload_n 0, 1) := by decide +kernel
theorem dX5_readNumber_36 : decode cX5_readNumber 36 = .ok (.getfield 17, 3) := by decide +kernel
theorem dX5_readNumber_39 : decode cX5_readNumber 39 = .ok (.iaload, 1) := by decide +kernel
theorem dX5_readNumber_40 : decode cX5_readNumber 40 = .ok (.invokestatic 34, 3) := by decide +kernel
theorem dX5_readNumber_43 : decode cX5_readNumber 43 = .ok (.ifCond .eq 49, 3) := by decide +kernel
theorem dX5_readNumber_46 : decode cX5_readNumber 46 = .ok (.aload_n 0, 1) := by decide +kernel
theorem dX5_readNumber_47 : decode cX5_readNumber 47 = .ok (.getfield 23, 3) := by decide +kernel
theorem dX5_readNumber_50 : decode cX5_readNumber 50 = .ok (.bipush 99, 2) := by decide +kernel
theorem dX5_readNumber_52 : decode cX5_readNumber 52 = .ok (.if_icmp .gt 27, 3) := by decide +kernel
theorem dX5_readNumber_55 : decode cX5_readNumber 55 = .ok (.aload_n 0, 1) := by decide +kernel
theorem dX5_readNumber_56 : decode cX5_readNumber 56 = .ok (.aload_n 0, 1) := by decide +kernel
theorem dX5_readNumber_57 : decode cX5_readNumber 57 = .ok (.getfield 23, 3) := by decide +kernel
theorem dX5_readNumber_60 : decode cX5_readNumber 60 = .ok (.bipush 10, 2) := by decide +kernel
theorem dX5_readNumber_62 : decode cX5_readNumber 62 = .ok (.imul, 1) := by decide +kernel
theorem dX5_readNumber_63 : decode cX5_readNumber 63 = .ok (.aload_n 0, 1) := by decide +kernel
theorem dX5_readNumber_64 : decode cX5_readNumber 64 = .ok (.getfield 9, 3) := by decide +kernel
theorem dX5_readNumber_67 : decode cX5_readNumber 67 = .ok (.aload_n 0, 1) := by decide +kernel
theorem dX5_readNumber_68 : decode cX5_readNumber 68 = .ok (.getfield 17, 3) := by decide +kernel
theorem dX5_readNumber_71 : decode cX5_readNumber 71 = .ok (.iaload, 1) := by decide +kernel
theorem dX5_readNumber_72 : decode cX5_readNumber 72 = .ok (.iadd, 1) := by decide +kernel
theorem dX5_readNumber_73 : decode cX5_readNumber 73 = .ok (.bipush 48, 2) := by decide +kernel
theorem dX5_readNumber_75 : decode cX5_readNumber 75 = .ok (.isub, 1) := by decide +kernel
theorem dX5_readNumber_76 : decode cX5_readNumber 76 = .ok (.putfield 23, 3) := by decide +kernel
theorem dX5_readNumber_79 : decode cX5_readNumber 79 = .ok (.aload_n 0, 1) := by decide +kernel
theorem dX5_readNumber_80 : decode cX5_readNumber 80 = .ok (.dup, 1) := by decide +kernel
theorem dX5_readNumber_81 : decode cX5_readNumber 81 = .ok (.getfield 17, 3) := by decide +kernel
theorem dX5_readNumber_84 : decode cX5_readNumber 84 = .ok (.iconst 1, 1) := by decide +kernel
theorem dX5_readNumber_85 : decode cX5_readNumber 85 = .ok (.iadd, 1) := by decide +kernel
theorem dX5_readNumber_86 : decode cX5_readNumber 86 = .ok (.putfield 17, 3) := by decide +kernel
theorem dX5_readNumber_89 : decode cX5_readNumber 89 = .ok (.goto (-69), 3) := by decide +kernel
theorem dX5_readNumber_92 : decode cX5_readNumber 92 = .ok (.iload_n 1, 1) := by decide +kernel
theorem dX5_readNumber_93 : decode cX5_readNumber 93 = .ok (.ifCond .eq 18, 3) := by decide +kernel
theorem dX5_readNumber_96 : decode cX5_readNumber 96 = .ok (.aload_n 0, 1) := by decide +kernel
theorem dX5_readNumber_97 : decode cX5_readNumber 97 = .ok (.getfield 17, 3) := by decide +kernel
theorem dX5_readNumber_100 : decode cX5_readNumber 100 = .ok (.aload_n 0, 1) := by decide +kernel
theorem dX5_readNumber_101 : decode cX5_readNumber 101 = .ok (.getfield 20, 3) := by decide +kernel
theorem dX5_readNumber_104 : decode cX5_readNumber 104 = .ok (.isub, 1) := by decide +kernel
theorem dX5_readNumber_105 : decode cX5_readNumber 105 = .ok (.iconst 1, 1) := by decide +kernel
theorem dX5_readNumber_106 : decode cX5_readNumber 106 = .ok (.if_icmp .le 5, 3) := by decide +kernel
theorem dX5_readNumber_109 : decode cX5_readNumber 109 = .ok (.iconst 4, 1) := by decide +kernel
theorem dX5_readNumber_110 : decode cX5_readNumber 110 = .ok (.ireturn, 1) := by decide +kernel
theorem dX5_readNumber_111 : decode cX5_readNumber 111 = .ok (.aload_n 0, 1) := by decide +kernel
theorem dX5_readNumber_112 : decode cX5_readNumber 112 = .ok (.getfield 23, 3) := by decide +kernel
theorem dX5_readNumber_115 : decode cX5_readNumber 115 = .ok (.bipush 99, 2) := by decide +kernel
theorem dX5_readNumber_117 : decode cX5_readNumber 117 = .ok (.if_icmp .le 7, 3) := by decide +kernel
theorem dX5_readNumber_120 : decode cX5_readNumber 120 = .ok (.iconst 4, 1) := by decide +kernel
theorem dX5_readNumber_121 : decode cX5_readNumber 121 = .ok (.goto 4, 3) := by decide +kernel
theorem dX5_readNumber_124 : decode cX5_readNumber 124 = .ok (.iconst 2, 1) := by decide +kernel
theorem dX5_readNumber_125 : decode cX5_readNumber 125 = .ok (.ireturn, 1) := by decide +kernel
theorem dX5_isLetter_0 : decode cX5_isLetter 0 = .ok (.bipush 97, 2) := by decide +kernel
theorem dX5_isLetter_2 : decode cX5_isLetter 2 = .ok (.iload_n 0, 1) := by decide +kernel
theorem dX5_isLetter_3 : decode cX5_isLetter 3 = .ok (.if_icmp .gt 13, 3) := by decide +kernel
theorem dX5_isLetter_6 : decode cX5_isLetter 6 = .ok (.iload_n 0, 1) := by decide +kernel
theorem dX5_isLetter_7 : decode cX5_isLetter 7 = .ok (.bipush 122, 2) := by decide +kernel
theorem dX5_isLetter_9 : decode cX5_isLetter 9 = .ok (.if_icmp .gt 7, 3) := by decide +kernel
theorem dX5_isLetter_12 : decode cX5_isLetter 12 = .ok (.iconst 1, 1) := by decide +kernel
theorem dX5_isLetter_13 : decode cX5_isLetter 13 = .ok (.goto 4, 3) := by decide +kernel
theorem dX5_isLetter_16 : decode cX5_isLetter 16 = .ok (.iconst 0, 1) := by decide +kernel
theorem dX5_isLetter_17 : decode cX5_isLetter 17 = .ok (.ireturn, 1) := by decide +kernel
theorem dX5_isDigit_0 : decode cX5_isDigit 0 = .ok (.bipush 48, 2) := by decide +kernel
theorem dX5_isDigit_2 : decode cX5_isDigit 2 = .ok (.iload_n 0, 1) := by decide +kernel
theorem dX5_isDigit_3 : decode cX5_isDigit 3 = .ok (.if_icmp .gt 13, 3) := by decide +kernel
theorem dX5_isDigit_6 : decode cX5_isDigit 6 = .ok (.iload_n 0, 1) := by decide +kernel
theorem dX5_isDigit_7 : decode cX5_isDigit 7 = .ok (.bipush 57, 2) := by decide +kernel
theorem dX5_isDigit_9 : decode cX5_isDigit 9 = .ok (.if_icmp .gt 7, 3) := by decide +kernel
theorem dX5_isDigit_12 : decode cX5_isDigit 12 = .ok (.iconst 1, 1) := by decide +kernel
theorem dX5_isDigit_13 : decode cX5_isDigit 13 = .ok (.goto 4, 3) := by decide +kernel
theorem dX5_isDigit_16 : decode cX5_isDigit 16 = .ok (.iconst 0, 1) := by decide +kernel
theorem dX5_isDigit_17 : decode cX5_isDigit 17 = .ok (.ireturn, 1) := by decide +kernel
theorem dX6_init_0 : decode cX6_init 0 = .ok (.aload_n 0, 1) := by decide +kernel
theorem dX6_init_1 : decode cX6_init 1 = .ok (.invokespecial 3, 3) := by decide +kernel
theorem dX6_init_4 : decode cX6_init 4 = .ok (.aload_n 0, 1) := by decide +kernel
theorem dX6_init_5 : decode cX6_init 5 = .ok (.new 9, 3) := by decide +kernel
theorem dX6_init_8 : decode cX6_init 8 = .ok (.dup, 1) := by decide +kernel
theorem dX6_init_9 : decode cX6_init 9 = .ok (.invokespecial 11, 3) := by decide +kernel
theorem dX6_init_12 : decode cX6_init 12 = .ok (.putfield 12, 3) := by decide +kernel
theorem dX6_init_15 : decode cX6_init 15 = .ok (.aload_n 0, 1) := by decide +kernel
end
section
theorem dX6_init_16 : decode cX6_init 16 = .ok (.new 18, 3) := by decide +kernel
theorem dX6_init_19 : decode cX6_init 19 = .ok (.dup, 1) := by decide +kernel
theorem dX6_init_20 : decode cX6_init 20 = .ok (.invokespecial 20, 3) := by decide +kernel
theorem dX6_init_23 : decode cX6_init 23 = .ok (.putfield 21, 3) := by decide +kernel
theorem dX6_init_26 : decode cX6_init 26 = .ok (.return_, 1) := by decide +kernel
theorem dX6_beginWith_0 : decode cX6_beginWith 0 = .ok (.aload_n 0, 1) := by decide +kernel
theorem dX6_beginWith_1 : decode cX6_beginWith 1 = .ok (.getfield 12, 3) := by decide +kernel
theorem dX6_beginWith_4 : decode cX6_beginWith 4 = .ok (.aload_n 1, 1) := by decide +kernel
theorem dX6_beginWith_5 : decode cX6_beginWith 5 = .ok (.invokevirtual 25, 3) := by decide +kernel
theorem dX6_beginWith_8 : decode cX6_beginWith 8 = .ok (.aload_n 0, 1) := by decide +kernel
theorem dX6_beginWith_9 : decode cX6_beginWith 9 = .ok (.getfield 21, 3) := by decide +kernel
theorem dX6_beginWith_12 : decode cX6_beginWith 12 = .ok (.aload_n 0, 1) := by decide +kernel
theorem dX6_beginWith_13 : decode cX6_beginWith 13 = .ok (.getfield 12, 3) := by decide +kernel
theorem dX6_beginWith_16 : decode cX6_beginWith 16 = .ok (.getfield 29, 3) := by decide +kernel
theorem dX6_beginWith_19 : decode cX6_beginWith 19 = .ok (.invokevirtual 33, 3) := by decide +kernel
theorem dX6_beginWith_22 : decode cX6_beginWith 22 = .ok (.return_, 1) := by decide +kernel
theorem dX6_eyeOf_0 : decode cX6_eyeOf 0 = .ok (.aload_n 0, 1) := by decide +kernel
theorem dX6_eyeOf_1 : decode cX6_eyeOf 1 = .ok (.getfield 21, 3) := by decide +kernel
theorem dX6_eyeOf_4 : decode cX6_eyeOf 4 = .ok (.getfield 37, 3) := by decide +kernel
theorem dX6_eyeOf_7 : decode cX6_eyeOf 7 = .ok (.aload_n 0, 1) := by decide +kernel
theorem dX6_eyeOf_8 : decode cX6_eyeOf 8 = .ok (.getfield 12, 3) := by decide +kernel
theorem dX6_eyeOf_11 : decode cX6_eyeOf 11 = .ok (.getfield 38, 3) := by decide +kernel
theorem dX6_eyeOf_14 : decode cX6_eyeOf 14 = .ok (.iload_n 1, 1) := by decide +kernel
theorem dX6_eyeOf_15 : decode cX6_eyeOf 15 = .ok (.aaload, 1) := by decide +kernel
theorem dX6_eyeOf_16 : decode cX6_eyeOf 16 = .ok (.iconst 0, 1) := by decide +kernel
theorem dX6_eyeOf_17 : decode cX6_eyeOf 17 = .ok (.iaload, 1) := by decide +kernel
theorem dX6_eyeOf_18 : decode cX6_eyeOf 18 = .ok (.iaload, 1) := by decide +kernel
theorem dX6_eyeOf_19 : decode cX6_eyeOf 19 = .ok (.aload_n 0, 1) := by decide +kernel
theorem dX6_eyeOf_20 : decode cX6_eyeOf 20 = .ok (.getfield 12, 3) := by decide +kernel
theorem dX6_eyeOf_23 : decode cX6_eyeOf 23 = .ok (.getfield 38, 3) := by decide +kernel
theorem dX6_eyeOf_26 : decode cX6_eyeOf 26 = .ok (.iload_n 1, 1) := by decide +kernel
theorem dX6_eyeOf_27 : decode cX6_eyeOf 27 = .ok (.aaload, 1) := by decide +kernel
theorem dX6_eyeOf_28 : decode cX6_eyeOf 28 = .ok (.iconst 1, 1) := by decide +kernel
theorem dX6_eyeOf_29 : decode cX6_eyeOf 29 = .ok (.iaload, 1) := by decide +kernel
theorem dX6_eyeOf_30 : decode cX6_eyeOf 30 = .ok (.iadd, 1) := by decide +kernel
theorem dX6_eyeOf_31 : decode cX6_eyeOf 31 = .ok (.ireturn, 1) := by decide +kernel
theorem dX6_canSee_0 : decode cX6_canSee 0 = .ok (.aload_n 0, 1) := by decide +kernel
theorem dX6_canSee_1 : decode cX6_canSee 1 = .ok (.getfield 12, 3) := by decide +kernel
theorem dX6_canSee_4 : decode cX6_canSee 4 = .ok (.getfield 38, 3) := by decide +kernel
theorem dX6_canSee_7 : decode cX6_canSee 7 = .ok (.iload_n 1, 1) := by decide +kernel
theorem dX6_canSee_8 : decode cX6_canSee 8 = .ok (.aaload, 1) := by decide +kernel
theorem dX6_canSee_9 : decode cX6_canSee 9 = .ok (.iconst 0, 1) := by decide +kernel
theorem dX6_canSee_10 : decode cX6_canSee 10 = .ok (.iaload, 1) := by decide +kernel
theorem dX6_canSee_11 : decode cX6_canSee 11 = .ok (.istore 4, 2) := by decide +kernel
theorem dX6_canSee_13 : decode cX6_canSee 13 = .ok (.iload_n 2, 1) := by decide +kernel
theorem dX6_canSee_14 : decode cX6_canSee 14 = .ok (.iload 4, 2) := by decide +kernel
theorem dX6_canSee_16 : decode cX6_canSee 16 = .ok (.if_icmp .ne 5, 3) := by decide +kernel
theorem dX6_canSee_19 : decode cX6_canSee 19 = .ok (.iconst 0, 1) := by decide +kernel
theorem dX6_canSee_20 : decode cX6_canSee 20 = .ok (.ireturn, 1) := by decide +kernel
theorem dX6_canSee_21 : decode cX6_canSee 21 = .ok (.iload_n 2, 1) := by decide +kernel
theorem dX6_canSee_22 : decode cX6_canSee 22 = .ok (.iload 4, 2) := by decide +kernel
theorem dX6_canSee_24 : decode cX6_canSee 24 = .ok (.if_icmp .le 7, 3) := by decide +kernel
theorem dX6_canSee_27 : decode cX6_canSee 27 = .ok (.iconst 1, 1) := by decide +kernel
theorem dX6_canSee_28 : decode cX6_canSee 28 = .ok (.goto 4, 3) := by decide +kernel
theorem dX6_canSee_31 : decode cX6_canSee 31 = .ok (.iconst 0, 1) := by decide +kernel
theorem dX6_canSee_32 : decode cX6_canSee 32 = .ok (.istore 5, 2) := by decide +kernel
theorem dX6_canSee_34 : decode cX6_canSee 34 = .ok (.iload 5, 2) := by decide +kernel
theorem dX6_canSee_36 : decode cX6_canSee 36 = .ok (.aload_n 0, 1) := by decide +kernel
theorem dX6_canSee_37 : decode cX6_canSee 37 = .ok (.getfield 12, 3) := by decide +kernel
theorem dX6_canSee_40 : decode cX6_canSee 40 = .ok (.iload_n 1, 1) := by decide +kernel
theorem dX6_canSee_41 : decode cX6_canSee 41 = .ok (.iload_n 3, 1) := by decide +kernel
theorem dX6_canSee_42 : decode cX6_canSee 42 = .ok (.invokevirtual 42, 3) := by decide +kernel
theorem dX6_canSee_45 : decode cX6_canSee 45 = .ok (.if_icmp .ne 22, 3) := by decide +kernel
theorem dX6_canSee_48 : decode cX6_canSee 48 = .ok (.aload_n 0, 1) := by decide +kernel
theorem dX6_canSee_49 : decode cX6_canSee 49 = .ok (.iload 4, 2) := by decide +kernel
theorem dX6_canSee_51 : decode cX6_canSee 51 = .ok (.aload_n 0, 1) := by decide +kernel
theorem dX6_canSee_52 : decode cX6_canSee 52 = .ok (.iload_n 1, 1) := by decide +kernel
theorem dX6_canSee_53 : decode cX6_canSee 53 = .ok (.invokevirtual 46, 3) := by decide +kernel
theorem dX6_canSee_56 : decode cX6_canSee 56 = .ok (.iload_n 2, 1) := by decide +kernel
theorem dX6_canSee_57 : decode cX6_canSee 57 = .ok (.invokevirtual 50, 3) := by decide +kernel
theorem dX6_canSee_60 : decode cX6_canSee 60 = .ok (.ifCond .eq 7, 3) := by decide +kernel
theorem dX6_canSee_63 : decode cX6_canSee 63 = .ok (.iconst 1, 1) := by decide +kernel
theorem dX6_canSee_64 : decode cX6_canSee 64 = .ok (.goto 4, 3) := by decide +kernel
theorem dX6_canSee_67 : decode cX6_canSee 67 = .ok (.iconst 0, 1) := by decide +kernel
theorem dX6_canSee_68 : decode cX6_canSee 68 = .ok (.ireturn, 1) := by decide +kernel
theorem dX6_isLineFree_0 : decode cX6_isLineFree 0 = .ok (.iload_n 3, 1) := by decide +kernel
theorem dX6_isLineFree_1 : decode cX6_isLineFree 1 = .ok (.iload_n 1, 1) := by decide +kernel
theorem dX6_isLineFree_2 : decode cX6_isLineFree 2 = .ok (.if_icmp .le 7, 3) := by decide +kernel
theorem dX6_isLineFree_5 : decode cX6_isLineFree 5 = .ok (.iconst 1, 1) := by decide +kernel
theorem dX6_isLineFree_6 : decode cX6_isLineFree 6 = .ok (.goto 4, 3) := by decide +kernel
theorem dX6_isLineFree_9 : decode cX6_isLineFree 9 = .ok (.iconst (-1), 1) := by decide +kernel
theorem dX6_isLineFree_10 : decode cX6_isLineFree 10 = .ok (.istore 4, 2) := by decide +kernel
theorem dX6_isLineFree_12 : decode cX6_isLineFree 12 = .ok (.iload_n 3, 1) := by decide +kernel
theorem dX6_isLineFree_13 : decode cX6_isLineFree 13 = .ok (.iload_n 1, 1) := by decide +kernel
theorem dX6_isLineFree_14 : decode cX6_isLineFree 14 = .ok (.isub, 1) := by decide +kernel
theorem dX6_isLineFree_15 : decode cX6_isLineFree 15 = .ok (.invokestatic 54, 3) := by decide +kernel
theorem dX6_isLineFree_18 : decode cX6_isLineFree 18 = .ok (.istore 5, 2) := by decide +kernel
theorem dX6_isLineFree_20 : decode cX6_isLineFree 20 = .ok (.aload_n 0, 1) := by decide +kernel
theorem dX6_isLineFree_21 : decode cX6_isLineFree 21 = .ok (.getfield 21, 3) := by decide +kernel
theorem dX6_isLineFree_24 : decode cX6_isLineFree 24 = .ok (.getfield 37, 3) := by decide +kernel
theorem dX6_isLineFree_27 : decode cX6_isLineFree 27 = .ok (.iload_n 3, 1) := by decide +kernel
theorem dX6_isLineFree_28 : decode cX6_isLineFree 28 = .ok (.iaload, 1) := by decide +kernel
theorem dX6_isLineFree_29 : decode cX6_isLineFree 29 = .ok (.iload_n 2, 1) := by decide +kernel
theorem dX6_isLineFree_30 : decode cX6_isLineFree 30 = .ok (.isub, 1) := by decide +kernel
theorem dX6_isLineFree_31 : decode cX6_isLineFree 31 = .ok (.istore 6, 2) := by decide +kernel
theorem dX6_isLineFree_33 : decode cX6_isLineFree 33 = .ok (.iconst 1, 1) := by decide +kernel
theorem dX6_isLineFree_34 : decode cX6_isLineFree 34 = .ok (.istore 7, 2) := by decide +kernel
theorem dX6_isLineFree_36 : decode cX6_isLineFree 36 = .ok (.iload 7, 2) := by decide +kernel
theorem dX6_isLineFree_38 : decode cX6_isLineFree 38 = .ok (.iload 5, 2) := by decide +kernel
theorem dX6_isLineFree_40 : decode cX6_isLineFree 40 = .ok (.if_icmp .ge 46, 3) := by decide +kernel
theorem dX6_isLineFree_43 : decode cX6_isLineFree 43 = .ok (.iload_n 2, 1) := by decide +kernel
theorem dX6_isLineFree_44 : decode cX6_isLineFree 44 = .ok (.iload 5, 2) := by decide +kernel
theorem dX6_isLineFree_46 : decode cX6_isLineFree 46 = .ok (.imul, 1) := by decide +kernel
theorem dX6_isLineFree_47 : decode cX6_isLineFree 47 = .ok (.iload 6, 2) := by decide +kernel
theorem dX6_isLineFree_49 : decode cX6_isLineFree 49 = .ok (.iload 7, 2) := by decide +kernel
theorem dX6_isLineFree_51 : decode cX6_isLineFree 51 = .ok (.imul, 1) := by decide +kernel
theorem dX6_isLineFree_52 : decode cX6_isLineFree 52 = .ok (.iadd, 1) := by decide +kernel
theorem dX6_isLineFree_53 : decode cX6_isLineFree 53 = .ok (.istore 8, 2) := by decide +kernel
theorem dX6_isLineFree_55 : decode cX6_isLineFree 55 = .ok (.aload_n 0, 1) := by decide +kernel
theorem dX6_isLineFree_56 : decode cX6_isLineFree 56 = .ok (.getfield 21, 3) := by decide +kernel
theorem dX6_isLineFree_59 : decode cX6_isLineFree 59 = .ok (.getfield 37, 3) := by decide +kernel
theorem dX6_isLineFree_62 : decode cX6_isLineFree 62 = .ok (.iload_n 1, 1) := by decide +kernel
theorem dX6_isLineFree_63 : decode cX6_isLineFree 63 = .ok (.iload 7, 2) := by decide +kernel
theorem dX6_isLineFree_65 : decode cX6_isLineFree 65 = .ok (.iload 4, 2) := by decide +kernel
theorem dX6_isLineFree_67 : decode cX6_isLineFree 67 = .ok (.imul, 1) := by decide +kernel
theorem dX6_isLineFree_68 : decode cX6_isLineFree 68 = .ok (.iadd, 1) := by decide +kernel
theorem dX6_isLineFree_69 : decode cX6_isLineFree 69 = .ok (.iaload, 1) := by decide +kernel
theorem dX6_isLineFree_70 : decode cX6_isLineFree 70 = .ok (.iload 5, 2) := by decide +kernel
theorem dX6_isLineFree_72 : decode cX6_isLineFree 72 = .ok (.imul, 1) := by decide +kernel
theorem dX6_isLineFree_73 : decode cX6_isLineFree 73 = .ok (.iload 8, 2) := by decide +kernel
theorem dX6_isLineFree_75 : decode cX6_isLineFree 75 = .ok (.if_icmp .le 5, 3) := by decide +kernel
theorem dX6_isLineFree_78 : decode cX6_isLineFree 78 = .ok (.iconst 0, 1) := by decide +kernel
theorem dX6_isLineFree_79 : decode cX6_isLineFree 79 = .ok (.ireturn, 1) := by decide +kernel
theorem dX6_isLineFree_80 : decode cX6_isLineFree 80 = .ok (.iinc 7 1, 3) := by decide +kernel
theorem dX6_isLineFree_83 : decode cX6_isLineFree 83 = .ok (.goto (-47), 3) := by decide +kernel
theorem dX6_isLineFree_86 : decode cX6_isLineFree 86 = .ok (.iconst 1, 1) := by decide +kernel
theorem dX6_isLineFree_87 : decode cX6_isLineFree 87 = .ok (.ireturn, 1) := by decide +kernel
theorem dX6_viewOf_0 : decode cX6_viewOf 0 = .ok (.iconst 0, 1) := by decide +kernel
theorem dX6_viewOf_1 : decode cX6_viewOf 1 = .ok (.istore_n 3, 1) := by decide +kernel
theorem dX6_viewOf_2 : decode cX6_viewOf 2 = .ok (.iconst 0, 1) := by decide +kernel
theorem dX6_viewOf_3 : decode cX6_viewOf 3 = .ok (.istore 4, 2) := by decide +kernel
theorem dX6_viewOf_5 : decode cX6_viewOf 5 = .ok (.iload 4, 2) := by decide +kernel
theorem dX6_viewOf_7 : decode cX6_viewOf 7 = .ok (.bipush 24, 2) := by decide +kernel
theorem dX6_viewOf_9 : decode cX6_viewOf 9 = .ok (.if_icmp .ge 27, 3) := by decide +kernel
theorem dX6_viewOf_12 : decode cX6_viewOf 12 = .ok (.aload_n 0, 1) := by decide +kernel
theorem dX6_viewOf_13 : decode cX6_viewOf 13 = .ok (.iload_n 1, 1) := by decide +kernel
theorem dX6_viewOf_14 : decode cX6_viewOf 14 = .ok (.iload 4, 2) := by decide +kernel
theorem dX6_viewOf_16 : decode cX6_viewOf 16 = .ok (.iload_n 2, 1) := by decide +kernel
theorem dX6_viewOf_17 : decode cX6_viewOf 17 = .ok (.invokevirtual 59, 3) := by decide +kernel
theorem dX6_viewOf_20 : decode cX6_viewOf 20 = .ok (.ifCond .eq 10, 3) := by decide +kernel
theorem dX6_viewOf_23 : decode cX6_viewOf 23 = .ok (.iload_n 3, 1) := by decide +kernel
theorem dX6_viewOf_24 : decode cX6_viewOf 24 = .ok (.iconst 1, 1) := by decide +kernel
theorem dX6_viewOf_25 : decode cX6_viewOf 25 = .ok (.iload 4, 2) := by decide +kernel
theorem dX6_viewOf_27 : decode cX6_viewOf 27 = .ok (.ishl, 1) := by decide +kernel
theorem dX6_viewOf_28 : decode cX6_viewOf 28 = .ok (.ior, 1) := by decide +kernel
theorem dX6_viewOf_29 : decode cX6_viewOf 29 = .ok (.istore_n 3, 1) := by decide +kernel
theorem dX6_viewOf_30 : decode cX6_viewOf 30 = .ok (.iinc 4 1, 3) := by decide +kernel
theorem dX6_viewOf_33 : decode cX6_viewOf 33 = .ok (.goto (-28), 3) := by decide +kernel
theorem dX6_viewOf_36 : decode cX6_viewOf 36 = .ok (.iload_n 3, 1) := by decide +kernel
theorem dX6_viewOf_37 : decode cX6_viewOf 37 = .ok (.ireturn, 1) := by decide +kernel
theorem dX6_unseenIn_0 : decode cX6_unseenIn 0 = .ok (.iconst 0, 1) := by decide +kernel
theorem dX6_unseenIn_1 : decode cX6_unseenIn 1 = .ok (.istore_n 2, 1) := by decide +kernel
theorem dX6_unseenIn_2 : decode cX6_unseenIn 2 = .ok (.iconst 0, 1) := by decide +kernel
theorem dX6_unseenIn_3 : decode cX6_unseenIn 3 = .ok (.istore_n 3, 1) := by decide +kernel
theorem dX6_unseenIn_4 : decode cX6_unseenIn 4 = .ok (.iload_n 3, 1) := by decide +kernel
theorem dX6_unseenIn_5 : decode cX6_unseenIn 5 = .ok (.aload_n 0, 1) := by decide +kernel
theorem dX6_unseenIn_6 : decode cX6_unseenIn 6 = .ok (.getfield 12, 3) := by decide +kernel
theorem dX6_unseenIn_9 : decode cX6_unseenIn 9 = .ok (.getfield 62, 3) := by decide +kernel
theorem dX6_unseenIn_12 : decode cX6_unseenIn 12 = .ok (.if_icmp .ge 29, 3) := by decide +kernel
theorem dX6_unseenIn_15 : decode cX6_unseenIn 15 = .ok (.aload_n 0, 1) := by decide +kernel
theorem dX6_unseenIn_16 : decode cX6_unseenIn 16 = .ok (.getfield 21, 3) := by decide +kernel
theorem dX6_unseenIn_19 : decode cX6_unseenIn 19 = .ok (.iload_n 3, 1) := by decide +kernel
theorem dX6_unseenIn_20 : decode cX6_unseenIn 20 = .ok (.invokevirtual 66, 3) := by decide +kernel
theorem dX6_unseenIn_23 : decode cX6_unseenIn 23 = .ok (.ifCond .ne 12, 3) := by decide +kernel
theorem dX6_unseenIn_26 : decode cX6_unseenIn 26 = .ok (.iload_n 2, 1) := by decide +kernel
theorem dX6_unseenIn_27 : decode cX6_unseenIn 27 = .ok (.aload_n 0, 1) := by decide +kernel
theorem dX6_unseenIn_28 : decode cX6_unseenIn 28 = .ok (.iload_n 3, 1) := by decide +kernel
theorem dX6_unseenIn_29 : decode cX6_unseenIn 29 = .ok (.iload_n 1, 1) := by decide +kernel
theorem dX6_unseenIn_30 : decode cX6_unseenIn 30 = .ok (.invokevirtual 70, 3) := by decide +kernel
theorem dX6_unseenIn_33 : decode cX6_unseenIn 33 = .ok (.ior, 1) := by decide +kernel
theorem dX6_unseenIn_34 : decode cX6_unseenIn 34 = .ok (.istore_n 2, 1) := by decide +kernel
theorem dX6_unseenIn_35 : decode cX6_unseenIn 35 = .ok (.iinc 3 1, 3) := by decide +kernel
theorem dX6_unseenIn_38 : decode cX6_unseenIn 38 = .ok (.goto (-34), 3) := by decide +kernel
theorem dX6_unseenIn_41 : decode cX6_unseenIn 41 = .ok (.iload_n 2, 1) := by decide +kernel
theorem dX6_unseenIn_42 : decode cX6_unseenIn 42 = .ok (.iconst (-1), 1) := by decide +kernel
theorem dX6_unseenIn_43 : decode cX6_unseenIn 43 = .ok (.ixor, 1) := by decide +kernel
theorem dX6_unseenIn_44 : decode cX6_unseenIn 44 = .ok (.ldc 73, 2) := by decide +kernel
theorem dX6_unseenIn_46 : decode cX6_unseenIn 46 = .ok (.iand, 1) := by decide +kernel
theorem dX6_unseenIn_47 : decode cX6_unseenIn 47 = .ok (.ireturn, 1) := by decide +kernel
theorem dX6_hoursInView_0 : decode cX6_hoursInView 0 = .ok (.iconst 0, 1) := by decide +kernel
theorem dX6_hoursInView_1 : decode cX6_hoursInView 1 = .ok (.istore 5, 2) := by decide +kernel
theorem dX6_hoursInView_3 : decode cX6_hoursInView 3 = .ok (.iload_n 3, 1) := by decide +kernel
theorem dX6_hoursInView_4 : decode cX6_hoursInView 4 = .ok (.istore 6, 2) := by decide +kernel
theorem dX6_hoursInView_6 : decode cX6_hoursInView 6 = .ok (.iload 6, 2) := by decide +kernel
theorem dX6_hoursInView_8 : decode cX6_hoursInView 8 = .ok (.iload 4, 2) := by decide +kernel
theorem dX6_hoursInView_10 : decode cX6_hoursInView 10 = .ok (.if_icmp .gt 23, 3) := by decide +kernel
theorem dX6_hoursInView_13 : decode cX6_hoursInView 13 = .ok (.aload_n 0, 1) := by decide +kernel
theorem dX6_hoursInView_14 : decode cX6_hoursInView 14 = .ok (.iload_n 1, 1) := by decide +kernel
theorem dX6_hoursInView_15 : decode cX6_hoursInView 15 = .ok (.iload_n 2, 1) := by decide +kernel
theorem dX6_hoursInView_16 : decode cX6_hoursInView 16 = .ok (.iload 6, 2) := by decide +kernel
theorem dX6_hoursInView_18 : decode cX6_hoursInView 18 = .ok (.invokevirtual 59, 3) := by decide +kernel
theorem dX6_hoursInView_21 : decode cX6_hoursInView 21 = .ok (.ifCond .eq 6, 3) := by decide +kernel
theorem dX6_hoursInView_24 : decode cX6_hoursInView 24 = .ok (.iinc 5 1, 3) := by decide +kernel
theorem dX6_hoursInView_27 : decode cX6_hoursInView 27 = .ok (.iinc 6 1, 3) := by decide +kernel
theorem dX6_hoursInView_30 : decode cX6_hoursInView 30 = .ok (.goto (-24), 3) := by decide +kernel
theorem dX6_hoursInView_33 : decode cX6_hoursInView 33 = .ok (.iload 5, 2) := by decide +kernel
theorem dX6_hoursInView_35 : decode cX6_hoursInView 35 = .ok (.ireturn, 1) := by decide +kernel
theorem dX6_goBy_0 : decode cX6_goBy 0 = .ok (.aload_n 0, 1) := by decide +kernel
theorem dX6_goBy_1 : decode cX6_goBy 1 = .ok (.getfield 21, 3) := by decide +kernel
theorem dX6_goBy_4 : decode cX6_goBy 4 = .ok (.invokevirtual 74, 3) := by decide +kernel
theorem dX6_goBy_7 : decode cX6_goBy 7 = .ok (.aload_n 0, 1) := by decide +kernel
theorem dX6_goBy_8 : decode cX6_goBy 8 = .ok (.getfield 21, 3) := by decide +kernel
theorem dX6_goBy_11 : decode cX6_goBy 11 = .ok (.getfield 77, 3) := by decide +kernel
theorem dX6_goBy_14 : decode cX6_goBy 14 = .ok (.iload_n 1, 1) := by decide +kernel
theorem dX6_goBy_15 : decode cX6_goBy 15 = .ok (.iadd, 1) := by decide +kernel
theorem dX6_goBy_16 : decode cX6_goBy 16 = .ok (.bipush 30, 2) := by decide +kernel
theorem dX6_goBy_18 : decode cX6_goBy 18 = .ok (.invokestatic 80, 3) := by decide +kernel
theorem dX6_goBy_21 : decode cX6_goBy 21 = .ok (.istore_n 2, 1) := by decide +kernel
theorem dX6_goBy_22 : decode cX6_goBy 22 = .ok (.aload_n 0, 1) := by decide +kernel
theorem dX6_goBy_23 : decode cX6_goBy 23 = .ok (.getfield 21, 3) := by decide +kernel
theorem dX6_goBy_26 : decode cX6_goBy 26 = .ok (.getfield 77, 3) := by decide +kernel
theorem dX6_goBy_29 : decode cX6_goBy 29 = .ok (.istore_n 3, 1) := by decide +kernel
theorem dX6_goBy_30 : decode cX6_goBy 30 = .ok (.iload_n 3, 1) := by decide +kernel
theorem dX6_goBy_31 : decode cX6_goBy 31 = .ok (.iload_n 2, 1) := by decide +kernel
theorem dX6_goBy_32 : decode cX6_goBy 32 = .ok (.if_icmp .ge 14, 3) := by decide +kernel
theorem dX6_goBy_35 : decode cX6_goBy 35 = .ok (.aload_n 0, 1) := by decide +kernel
theorem dX6_goBy_36 : decode cX6_goBy 36 = .ok (.iload_n 3, 1) := by decide +kernel
theorem dX6_goBy_37 : decode cX6_goBy 37 = .ok (.invokevirtual 83, 3) := by decide +kernel
theorem dX6_goBy_40 : decode cX6_goBy 40 = .ok (.iinc 3 1, 3) := by decide +kernel
theorem dX6_goBy_43 : decode cX6_goBy 43 = .ok (.goto (-13), 3) := by decide +kernel
theorem dX6_goBy_46 : decode cX6_goBy 46 = .ok (.aload_n 0, 1) := by decide +kernel
theorem dX6_goBy_47 : decode cX6_goBy 47 = .ok (.getfield 21, 3) := by decide +kernel
theorem dX6_goBy_50 : decode cX6_goBy 50 = .ok (.iload_n 2, 1) := by decide +kernel
theorem dX6_goBy_51 : decode cX6_goBy 51 = .ok (.putfield 77, 3) := by decide +kernel
theorem dX6_goBy_54 : decode cX6_goBy 54 = .ok (.return_, 1) := by decide +kernel
theorem dX6_seeAllIn_0 : decode cX6_seeAllIn 0 = .ok (.iconst 0, 1) := by decide +kernel
theorem dX6_seeAllIn_1 : decode cX6_seeAllIn 1 = .ok (.istore_n 2, 1) := by decide +kernel
theorem dX6_seeAllIn_2 : decode cX6_seeAllIn 2 = .ok (.iload_n 2, 1) := by decide +kernel
theorem dX6_seeAllIn_3 : decode cX6_seeAllIn 3 = .ok (.aload_n 0, 1) := by decide +kernel
theorem dX6_seeAllIn_4 : decode cX6_seeAllIn 4 = .ok (.getfield 12, 3) := by decide +kernel
theorem dX6_seeAllIn_7 : decode cX6_seeAllIn 7 = .ok (.getfield 87, 3) := by decide +kernel
theorem dX6_seeAllIn_10 : decode cX6_seeAllIn 10 = .ok (.if_icmp .ge 44, 3) := by decide +kernel
theorem dX6_seeAllIn_13 : decode cX6_seeAllIn 13 = .ok (.aload_n 0, 1) := by decide +kernel
theorem dX6_seeAllIn_14 : decode cX6_seeAllIn 14 = .ok (.getfield 12, 3) := by decide +kernel
theorem dX6_seeAllIn_17 : decode cX6_seeAllIn 17 = .ok (.iload_n 2, 1) := by decide +kernel
theorem dX6_seeAllIn_18 : decode cX6_seeAllIn 18 = .ok (.iload_n 1, 1) := by decide +kernel
theorem dX6_seeAllIn_19 : decode cX6_seeAllIn 19 = .ok (.invokevirtual 90, 3) := by decide +kernel
theorem dX6_seeAllIn_22 : decode cX6_seeAllIn 22 = .ok (.istore_n 3, 1) := by decide +kernel
theorem dX6_seeAllIn_23 : decode cX6_seeAllIn 23 = .ok (.iload_n 3, 1) := by decide +kernel
theorem dX6_seeAllIn_24 : decode cX6_seeAllIn 24 = .ok (.bipush (-9), 2) := by decide +kernel
theorem dX6_seeAllIn_26 : decode cX6_seeAllIn 26 = .ok (.if_icmp .eq 22, 3) := by decide +kernel
theorem dX6_seeAllIn_29 : decode cX6_seeAllIn 29 = .ok (.aload_n 0, 1) := by decide +kernel
theorem dX6_seeAllIn_30 : decode cX6_seeAllIn 30 = .ok (.getfield 12, 3) := by decide +kernel
theorem dX6_seeAllIn_33 : decode cX6_seeAllIn 33 = .ok (.iload_n 3, 1) := by decide +kernel
theorem dX6_seeAllIn_34 : decode cX6_seeAllIn 34 = .ok (.iload_n 1, 1) := by decide +kernel
theorem dX6_seeAllIn_35 : decode cX6_seeAllIn 35 = .ok (.invokevirtual 93, 3) := by decide +kernel
theorem dX6_seeAllIn_38 : decode cX6_seeAllIn 38 = .ok (.ifCond .ne 10, 3) := by decide +kernel
theorem dX6_seeAllIn_41 : decode cX6_seeAllIn 41 = .ok (.aload_n 0, 1) := by decide +kernel
theorem dX6_seeAllIn_42 : decode cX6_seeAllIn 42 = .ok (.iload_n 2, 1) := by decide +kernel
theorem dX6_seeAllIn_43 : decode cX6_seeAllIn 43 = .ok (.iload_n 3, 1) := by decide +kernel
theorem dX6_seeAllIn_44 : decode cX6_seeAllIn 44 = .ok (.iload_n 1, 1) := by decide +kernel
theorem dX6_seeAllIn_45 : decode cX6_seeAllIn 45 = .ok (.invokevirtual 97, 3) := by decide +kernel
theorem dX6_seeAllIn_48 : decode cX6_seeAllIn 48 = .ok (.iinc 2 1, 3) := by decide +kernel
theorem dX6_seeAllIn_51 : decode cX6_seeAllIn 51 = .ok (.goto (-49), 3) := by decide +kernel
theorem dX6_seeAllIn_54 : decode cX6_seeAllIn 54 = .ok (.return_, 1) := by decide +kernel
theorem dX6_seeOne_0 : decode cX6_seeOne 0 = .ok (.iconst 0, 1) := by decide +kernel
theorem dX6_seeOne_1 : decode cX6_seeOne 1 = .ok (.istore 4, 2) := by decide +kernel
theorem dX6_seeOne_3 : decode cX6_seeOne 3 = .ok (.iload 4, 2) := by decide +kernel
theorem dX6_seeOne_5 : decode cX6_seeOne 5 = .ok (.aload_n 0, 1) := by decide +kernel
theorem dX6_seeOne_6 : decode cX6_seeOne 6 = .ok (.getfield 12, 3) := by decide +kernel
theorem dX6_seeOne_9 : decode cX6_seeOne 9 = .ok (.getfield 62, 3) := by decide +kernel
theorem dX6_seeOne_12 : decode cX6_seeOne 12 = .ok (.if_icmp .ge 50, 3) := by decide +kernel
theorem dX6_seeOne_15 : decode cX6_seeOne 15 = .ok (.aload_n 0, 1) := by decide +kernel
theorem dX6_seeOne_16 : decode cX6_seeOne 16 = .ok (.getfield 21, 3) := by decide +kernel
theorem dX6_seeOne_19 : decode cX6_seeOne 19 = .ok (.iload 4, 2) := by decide +kernel
theorem dX6_seeOne_21 : decode cX6_seeOne 21 = .ok (.invokevirtual 66, 3) := by decide +kernel
theorem dX6_seeOne_24 : decode cX6_seeOne 24 = .ok (.ifCond .ne 32, 3) := by decide +kernel
theorem dX6_seeOne_27 : decode cX6_seeOne 27 = .ok (.aload_n 0, 1) := by decide +kernel
theorem dX6_seeOne_28 : decode cX6_seeOne 28 = .ok (.iload 4, 2) := by decide +kernel
theorem dX6_seeOne_30 : decode cX6_seeOne 30 = .ok (.iload_n 2, 1) := by decide +kernel
theorem dX6_seeOne_31 : decode cX6_seeOne 31 = .ok (.iload_n 3, 1) := by decide +kernel
theorem dX6_seeOne_32 : decode cX6_seeOne 32 = .ok (.invokevirtual 59, 3) := by decide +kernel
theorem dX6_seeOne_35 : decode cX6_seeOne 35 = .ok (.ifCond .eq 21, 3) := by decide +kernel
theorem dX6_seeOne_38 : decode cX6_seeOne 38 = .ok (.aload_n 0, 1) := by decide +kernel
theorem dX6_seeOne_39 : decode cX6_seeOne 39 = .ok (.getfield 21, 3) := by decide +kernel
theorem dX6_seeOne_42 : decode cX6_seeOne 42 = .ok (.getfield 101, 3) := by decide +kernel
theorem dX6_seeOne_45 : decode cX6_seeOne 45 = .ok (.iload 4, 2) := by decide +kernel
theorem dX6_seeOne_47 : decode cX6_seeOne 47 = .ok (.aaload, 1) := by decide +kernel
theorem dX6_seeOne_48 : decode cX6_seeOne 48 = .ok (.iload_n 1, 1) := by decide +kernel
theorem dX6_seeOne_49 : decode cX6_seeOne 49 = .ok (.dup2, 1) := by decide +kernel
theorem dX6_seeOne_50 : decode cX6_seeOne 50 = .ok (.iaload, 1) := by decide +kernel
theorem dX6_seeOne_51 : decode cX6_seeOne 51 = .ok (.iconst 1, 1) := by decide +kernel
theorem dX6_seeOne_52 : decode cX6_seeOne 52 = .ok (.iload_n 3, 1) := by decide +kernel
theorem dX6_seeOne_53 : decode cX6_seeOne 53 = .ok (.ishl, 1) := by decide +kernel
theorem dX6_seeOne_54 : decode cX6_seeOne 54 = .ok (.ior, 1) := by decide +kernel
theorem dX6_seeOne_55 : decode cX6_seeOne 55 = .ok (.iastore, 1) := by decide +kernel
theorem dX6_seeOne_56 : decode cX6_seeOne 56 = .ok (.iinc 4 1, 3) := by decide +kernel
theorem dX6_seeOne_59 : decode cX6_seeOne 59 = .ok (.goto (-56), 3) := by decide +kernel
theorem dX6_seeOne_62 : decode cX6_seeOne 62 = .ok (.return_, 1) := by decide +kernel
theorem dX6_cover_0 : decode cX6_cover 0 = .ok (.aload_n 0, 1) := by decide +kernel
theorem dX6_cover_1 : decode cX6_cover 1 = .ok (.ldc 106, 2) := by decide +kernel
theorem dX6_cover_3 : decode cX6_cover 3 = .ok (.invokevirtual 107, 3) := by decide +kernel
theorem dX6_cover_6 : decode cX6_cover 6 = .ok (.ireturn, 1) := by decide +kernel
theorem dX6_bestToAsk_0 : decode cX6_bestToAsk 0 = .ok (.iconst 0, 1) := by decide +kernel
theorem dX6_bestToAsk_1 : decode cX6_bestToAsk 1 = .ok (.istore_n 2, 1) := by decide +kernel
theorem dX6_bestToAsk_2 : decode cX6_bestToAsk 2 = .ok (.iconst 1, 1) := by decide +kernel
theorem dX6_bestToAsk_3 : decode cX6_bestToAsk 3 = .ok (.istore_n 3, 1) := by decide +kernel
theorem dX6_bestToAsk_4 : decode cX6_bestToAsk 4 = .ok (.iload_n 3, 1) := by decide +kernel
theorem dX6_bestToAsk_5 : decode cX6_bestToAsk 5 = .ok (.aload_n 0, 1) := by decide +kernel
theorem dX6_bestToAsk_6 : decode cX6_bestToAsk 6 = .ok (.getfield 12, 3) := by decide +kernel
theorem dX6_bestToAsk_9 : decode cX6_bestToAsk 9 = .ok (.invokevirtual 110, 3) := by decide +kernel
theorem dX6_bestToAsk_12 : decode cX6_bestToAsk 12 = .ok (.if_icmp .gt 56, 3) := by decide +kernel
theorem dX6_bestToAsk_15 : decode cX6_bestToAsk 15 = .ok (.iload_n 3, 1) := by decide +kernel
theorem dX6_bestToAsk_16 : decode cX6_bestToAsk 16 = .ok (.aload_n 0, 1) := by decide +kernel
theorem dX6_bestToAsk_17 : decode cX6_bestToAsk 17 = .ok (.getfield 21, 3) := by decide +kernel
theorem dX6_bestToAsk_20 : decode cX6_bestToAsk 20 = .ok (.getfield 114, 3) := by decide +kernel
theorem dX6_bestToAsk_23 : decode cX6_bestToAsk 23 = .ok (.iand, 1) := by decide +kernel
theorem dX6_bestToAsk_24 : decode cX6_bestToAsk 24 = .ok (.ifCond .ne 19, 3) := by decide +kernel
theorem dX6_bestToAsk_27 : decode cX6_bestToAsk 27 = .ok (.aload_n 0, 1) := by decide +kernel
theorem dX6_bestToAsk_28 : decode cX6_bestToAsk 28 = .ok (.getfield 21, 3) := by decide +kernel
theorem dX6_bestToAsk_31 : decode cX6_bestToAsk 31 = .ok (.iload_n 3, 1) := by decide +kernel
theorem dX6_bestToAsk_32 : decode cX6_bestToAsk 32 = .ok (.invokevirtual 117, 3) := by decide +kernel
theorem dX6_bestToAsk_35 : decode cX6_bestToAsk 35 = .ok (.iload_n 1, 1) := by decide +kernel
theorem dX6_bestToAsk_36 : decode cX6_bestToAsk 36 = .ok (.if_icmp .gt 7, 3) := by decide +kernel
theorem dX6_bestToAsk_39 : decode cX6_bestToAsk 39 = .ok (.iconst 1, 1) := by decide +kernel
theorem dX6_bestToAsk_40 : decode cX6_bestToAsk 40 = .ok (.goto 4, 3) := by decide +kernel
theorem dX6_bestToAsk_43 : decode cX6_bestToAsk 43 = .ok (.iconst 0, 1) := by decide +kernel
theorem dX6_bestToAsk_44 : decode cX6_bestToAsk 44 = .ok (.istore 4, 2) := by decide +kernel
theorem dX6_bestToAsk_46 : decode cX6_bestToAsk 46 = .ok (.iload 4, 2) := by decide +kernel
theorem dX6_bestToAsk_48 : decode cX6_bestToAsk 48 = .ok (.ifCond .eq 14, 3) := by decide +kernel
theorem dX6_bestToAsk_51 : decode cX6_bestToAsk 51 = .ok (.aload_n 0, 1) := by decide +kernel
theorem dX6_bestToAsk_52 : decode cX6_bestToAsk 52 = .ok (.iload_n 3, 1) := by decide +kernel
theorem dX6_bestToAsk_53 : decode cX6_bestToAsk 53 = .ok (.iload_n 2, 1) := by decide +kernel
theorem dX6_bestToAsk_54 : decode cX6_bestToAsk 54 = .ok (.invokevirtual 120, 3) := by decide +kernel
theorem dX6_bestToAsk_57 : decode cX6_bestToAsk 57 = .ok (.ifCond .eq 5, 3) := by decide +kernel
theorem dX6_bestToAsk_60 : decode cX6_bestToAsk 60 = .ok (.iload_n 3, 1) := by decide +kernel
theorem dX6_bestToAsk_61 : decode cX6_bestToAsk 61 = .ok (.istore_n 2, 1) := by decide +kernel
theorem dX6_bestToAsk_62 : decode cX6_bestToAsk 62 = .ok (.iinc 3 1, 3) := by decide +kernel
theorem dX6_bestToAsk_65 : decode cX6_bestToAsk 65 = .ok (.goto (-61), 3) := by decide +kernel
theorem dX6_bestToAsk_68 : decode cX6_bestToAsk 68 = .ok (.iload_n 2, 1) := by decide +kernel
theorem dX6_bestToAsk_69 : decode cX6_bestToAsk 69 = .ok (.ireturn, 1) := by decide +kernel
theorem dX6_isBetter_0 : decode cX6_isBetter 0 = .ok (.aload_n 0, 1) := by decide +kernel
theorem dX6_isBetter_1 : decode cX6_isBetter 1 = .ok (.getfield 21, 3) := by decide +kernel
theorem dX6_isBetter_4 : decode cX6_isBetter 4 = .ok (.iload_n 1, 1) := by decide +kernel
theorem dX6_isBetter_5 : decode cX6_isBetter 5 = .ok (.invokevirtual 123, 3) := by decide +kernel
theorem dX6_isBetter_8 : decode cX6_isBetter 8 = .ok (.aload_n 0, 1) := by decide +kernel
theorem dX6_isBetter_9 : decode cX6_isBetter 9 = .ok (.getfield 21, 3) := by decide +kernel
theorem dX6_isBetter_12 : decode cX6_isBetter 12 = .ok (.iload_n 2, 1) := by decide +kernel
theorem dX6_isBetter_13 : decode cX6_isBetter 13 = .ok (.invokevirtual 123, 3) := by decide +kernel
theorem dX6_isBetter_16 : decode cX6_isBetter 16 = .ok (.isub, 1) := by decide +kernel
theorem dX6_isBetter_17 : decode cX6_isBetter 17 = .ok (.istore_n 3, 1) := by decide +kernel
theorem dX6_isBetter_18 : decode cX6_isBetter 18 = .ok (.iload_n 3, 1) := by decide +kernel
theorem dX6_isBetter_19 : decode cX6_isBetter 19 = .ok (.ifCond .eq 13, 3) := by decide +kernel
theorem dX6_isBetter_22 : decode cX6_isBetter 22 = .ok (.iload_n 3, 1) := by decide +kernel
theorem dX6_isBetter_23 : decode cX6_isBetter 23 = .ok (.ifCond .le 7, 3) := by decide +kernel
theorem dX6_isBetter_26 : decode cX6_isBetter 26 = .ok (.iconst 1, 1) := by decide +kernel
theorem dX6_isBetter_27 : decode cX6_isBetter 27 = .ok (.goto 4, 3) := by decide +kernel
theorem dX6_isBetter_30 : decode cX6_isBetter 30 = .ok (.iconst 0, 1) := by decide +kernel
theorem dX6_isBetter_31 : decode cX6_isBetter 31 = .ok (.ireturn, 1) := by decide +kernel
theorem dX6_isBetter_32 : decode cX6_isBetter 32 = .ok (.iload_n 1, 1) := by decide +kernel
theorem dX6_isBetter_33 : decode cX6_isBetter 33 = .ok (.invokestatic 126, 3) := by decide +kernel
theorem dX6_isBetter_36 : decode cX6_isBetter 36 = .ok (.iload_n 2, 1) := by decide +kernel
theorem dX6_isBetter_37 : decode cX6_isBetter 37 = .ok (.invokestatic 126, 3) := by decide +kernel
theorem dX6_isBetter_40 : decode cX6_isBetter 40 = .ok (.if_icmp .ge 7, 3) := by decide +kernel
theorem dX6_isBetter_43 : decode cX6_isBetter 43 = .ok (.iconst 1, 1) := by decide +kernel
theorem dX6_isBetter_44 : decode cX6_isBetter 44 = .ok (.goto 4, 3) := by decide +kernel
theorem dX6_isBetter_47 : decode cX6_isBetter 47 = .ok (.iconst 0, 1) := by decide +kernel
theorem dX6_isBetter_48 : decode cX6_isBetter 48 = .ok (.ireturn, 1) := by decide +kernel
theorem dX7_init_0 : decode cX7_init 0 = .ok (.aload_n 0, 1) := by decide +kernel
theorem dX7_init_1 : decode cX7_init 1 = .ok (.invokespecial 1, 3) := by decide +kernel
theorem dX7_init_4 : decode cX7_init 4 = .ok (.aload_n 0, 1) := by decide +kernel
theorem dX7_init_5 : decode cX7_init 5 = .ok (.new 7, 3) := by decide +kernel
theorem dX7_init_8 : decode cX7_init 8 = .ok (.dup, 1) := by decide +kernel
theorem dX7_init_9 : decode cX7_init 9 = .ok (.invokespecial 9, 3) := by decide +kernel
theorem dX7_init_12 : decode cX7_init 12 = .ok (.putfield 10, 3) := by decide +kernel
theorem dX7_init_15 : decode cX7_init 15 = .ok (.aload_n 0, 1) := by decide +kernel
theorem dX7_init_16 : decode cX7_init 16 = .ok (.new 16, 3) := by decide +kernel
theorem dX7_init_19 : decode cX7_init 19 = .ok (.dup, 1) := by decide +kernel
theorem dX7_init_20 : decode cX7_init 20 = .ok (.invokespecial 18, 3) := by decide +kernel
theorem dX7_init_23 : decode cX7_init 23 = .ok (.putfield 19, 3) := by decide +kernel
theorem dX7_init_26 : decode cX7_init 26 = .ok (.aload_n 0, 1) := by decide +kernel
theorem dX7_init_27 : decode cX7_init 27 = .ok (.new 23, 3) := by decide +kernel
theorem dX7_init_30 : decode cX7_init 30 = .ok (.dup, 1) := by decide +kernel
theorem dX7_init_31 : decode cX7_init 31 = .ok (.invokespecial 25, 3) := by decide +kernel
theorem dX7_init_34 : decode cX7_init 34 = .ok (.putfield 26, 3) := by decide +kernel
theorem dX7_init_37 : decode cX7_init 37 = .ok (.aload_n 0, 1) := by decide +kernel
theorem dX7_init_38 : decode cX7_init 38 = .ok (.new 30, 3) := by decide +kernel
theorem dX7_init_41 : decode cX7_init 41 = .ok (.dup, 1) := by decide +kernel
theorem dX7_init_42 : decode cX7_init 42 = .ok (.invokespecial 32, 3) := by decide +kernel
theorem dX7_init_45 : decode cX7_init 45 = .ok (.putfield 33, 3) := by decide +kernel
theorem dX7_init_48 : decode cX7_init 48 = .ok (.aload_n 0, 1) := by decide +kernel
theorem dX7_init_49 : decode cX7_init 49 = .ok (.new 37, 3) := by decide +kernel
theorem dX7_init_52 : decode cX7_init 52 = .ok (.dup, 1) := by decide +kernel
theorem dX7_init_53 : decode cX7_init 53 = .ok (.invokespecial 39, 3) := by decide +kernel
theorem dX7_init_56 : decode cX7_init 56 = .ok (.putfield 40, 3) := by decide +kernel
theorem dX7_init_59 : decode cX7_init 59 = .ok (.aload_n 0, 1) := by decide +kernel
theorem dX7_init_60 : decode cX7_init 60 = .ok (.iconst 2, 1) := by decide +kernel
theorem dX7_init_61 : decode cX7_init 61 = .ok (.anewarray 44, 3) := by decide +kernel
theorem dX7_init_64 : decode cX7_init 64 = .ok (.dup, 1) := by decide +kernel
theorem dX7_init_65 : decode cX7_init 65 = .ok (.iconst 0, 1) := by decide +kernel
theorem dX7_init_66 : decode cX7_init 66 = .ok (.new 44, 3) := by decide +kernel
theorem dX7_init_69 : decode cX7_init 69 = .ok (.dup, 1) := by decide +kernel
theorem dX7_init_70 : decode cX7_init 70 = .ok (.invokespecial 46, 3) := by decide +kernel
theorem dX7_init_73 : decode cX7_init 73 = .ok (.aastore, 1) := by decide +kernel
theorem dX7_init_74 : decode cX7_init 74 = .ok (.dup, 1) := by decide +kernel
theorem dX7_init_75 : decode cX7_init 75 = .ok (.iconst 1, 1) := by decide +kernel
theorem dX7_init_76 : decode cX7_init 76 = .ok (.new 44, 3) := by decide +kernel
theorem dX7_init_79 : decode cX7_init 79 = .ok (.dup, 1) := by decide +kernel
theorem dX7_init_80 : decode cX7_init 80 = .ok (.invokespecial 46, 3) := by decide +kernel
theorem dX7_init_83 : decode cX7_init 83 = .ok (.aastore, 1) := by decide +kernel
theorem dX7_init_84 : decode cX7_init 84 = .ok (.putfield 47, 3) := by decide +kernel
theorem dX7_init_87 : decode cX7_init 87 = .ok (.return_, 1) := by decide +kernel
theorem dX7_type_0 : decode cX7_type 0 = .ok (.iload_n 1, 1) := by decide +kernel
theorem dX7_type_1 : decode cX7_type 1 = .ok (.iconst 0, 1) := by decide +kernel
theorem dX7_type_2 : decode cX7_type 2 = .ok (.sipush 255, 3) := by decide +kernel
theorem dX7_type_5 : decode cX7_type 5 = .ok (.invokestatic 51, 3) := by decide +kernel
theorem dX7_type_8 : decode cX7_type 8 = .ok (.ifCond .ne 5, 3) := by decide +kernel
theorem dX7_type_11 : decode cX7_type 11 = .ok (.iconst (-1), 1) := by decide +kernel
theorem dX7_type_12 : decode cX7_type 12 = .ok (.ireturn, 1) := by decide +kernel
theorem dX7_type_13 : decode cX7_type 13 = .ok (.aload_n 0, 1) := by decide +kernel
theorem dX7_type_14 : decode cX7_type 14 = .ok (.getfield 10, 3) := by decide +kernel
theorem dX7_type_17 : decode cX7_type 17 = .ok (.iload_n 1, 1) := by decide +kernel
theorem dX7_type_18 : decode cX7_type 18 = .ok (.invokevirtual 55, 3) := by decide +kernel
theorem dX7_type_21 : decode cX7_type 21 = .ok (.ifCond .eq 13, 3) := by decide +kernel
theorem dX7_type_24 : decode cX7_type 24 = .ok (.aload_n 0, 1) := by decide +kernel
theorem dX7_type_25 : decode cX7_type 25 = .ok (.getfield 10, 3) := by decide +kernel
theorem dX7_type_28 : decode cX7_type 28 = .ok (.getfield 59, 3) := by decide +kernel
theorem dX7_type_31 : decode cX7_type 31 = .ok (.goto 5, 3) := by decide +kernel
theorem dX7_type_34 : decode cX7_type 34 = .ok (.bipush (-3), 2) := by decide +kernel
theorem dX7_type_36 : decode cX7_type 36 = .ok (.ireturn, 1) := by decide +kernel
theorem dX7_clear_0 : decode cX7_clear 0 = .ok (.aload_n 0, 1) := by decide +kernel
theorem dX7_clear_1 : decode cX7_clear 1 = .ok (.getfield 10, 3) := by decide +kernel
theorem dX7_clear_4 : decode cX7_clear 4 = .ok (.getfield 59, 3) := by decide +kernel
theorem dX7_clear_7 : decode cX7_clear 7 = .ok (.istore_n 1, 1) := by decide +kernel
theorem dX7_clear_8 : decode cX7_clear 8 = .ok (.aload_n 0, 1) := by decide +kernel
theorem dX7_clear_9 : decode cX7_clear 9 = .ok (.getfield 10, 3) := by decide +kernel
theorem dX7_clear_12 : decode cX7_clear 12 = .ok (.invokevirtual 63, 3) := by decide +kernel
theorem dX7_clear_15 : decode cX7_clear 15 = .ok (.iload_n 1, 1) := by decide +kernel
theorem dX7_clear_16 : decode cX7_clear 16 = .ok (.ireturn, 1) := by decide +kernel
theorem dX7_diocese_0 : decode cX7_diocese 0 = .ok (.aload_n 0, 1) := by decide +kernel
theorem dX7_diocese_1 : decode cX7_diocese 1 = .ok (.getfield 19, 3) := by decide +kernel
theorem dX7_diocese_4 : decode cX7_diocese 4 = .ok (.aload_n 0, 1) := by decide +kernel
theorem dX7_diocese_5 : decode cX7_diocese 5 = .ok (.getfield 10, 3) := by decide +kernel
theorem dX7_diocese_8 : decode cX7_diocese 8 = .ok (.invokevirtual 66, 3) := by decide +kernel
theorem dX7_diocese_11 : decode cX7_diocese 11 = .ok (.istore_n 1, 1) := by decide +kernel
theorem dX7_diocese_12 : decode cX7_diocese 12 = .ok (.iload_n 1, 1) := by decide +kernel
theorem dX7_diocese_13 : decode cX7_diocese 13 = .ok (.ifCond .ge 5, 3) := by decide +kernel
theorem dX7_diocese_16 : decode cX7_diocese 16 = .ok (.iload_n 1, 1) := by decide +kernel
theorem dX7_diocese_17 : decode cX7_diocese 17 = .ok (.ireturn, 1) := by decide +kernel
theorem dX7_diocese_18 : decode cX7_diocese 18 = .ok (.aload_n 0, 1) := by decide +kernel
theorem dX7_diocese_19 : decode cX7_diocese 19 = .ok (.getfield 26, 3) := by decide +kernel
theorem dX7_diocese_22 : decode cX7_diocese 22 = .ok (.aload_n 0, 1) := by decide +kernel
theorem dX7_diocese_23 : decode cX7_diocese 23 = .ok (.getfield 19, 3) := by decide +kernel
theorem dX7_diocese_26 : decode cX7_diocese 26 = .ok (.getfield 70, 3) := by decide +kernel
theorem dX7_diocese_29 : decode cX7_diocese 29 = .ok (.invokevirtual 74, 3) := by decide +kernel
theorem dX7_diocese_32 : decode cX7_diocese 32 = .ok (.aload_n 0, 1) := by decide +kernel
theorem dX7_diocese_33 : decode cX7_diocese 33 = .ok (.getfield 33, 3) := by decide +kernel
theorem dX7_diocese_36 : decode cX7_diocese 36 = .ok (.invokevirtual 78, 3) := by decide +kernel
theorem dX7_diocese_39 : decode cX7_diocese 39 = .ok (.aload_n 0, 1) := by decide +kernel
theorem dX7_diocese_40 : decode cX7_diocese 40 = .ok (.iconst 0, 1) := by decide +kernel
theorem dX7_diocese_41 : decode cX7_diocese 41 = .ok (.putfield 81, 3) := by decide +kernel
theorem dX7_diocese_44 : decode cX7_diocese 44 = .ok (.aload_n 0, 1) := by decide +kernel
theorem dX7_diocese_45 : decode cX7_diocese 45 = .ok (.getfield 10, 3) := by decide +kernel
theorem dX7_diocese_48 : decode cX7_diocese 48 = .ok (.invokevirtual 63, 3) := by decide +kernel
theorem dX7_diocese_51 : decode cX7_diocese 51 = .ok (.iload_n 1, 1) := by decide +kernel
theorem dX7_diocese_52 : decode cX7_diocese 52 = .ok (.ireturn, 1) := by decide +kernel
theorem dX7_roof_0 : decode cX7_roof 0 = .ok (.iload_n 1, 1) := by decide +kernel
theorem dX7_roof_1 : decode cX7_roof 1 = .ok (.invokestatic 84, 3) := by decide +kernel
theorem dX7_roof_4 : decode cX7_roof 4 = .ok (.ifCond .eq 18, 3) := by decide +kernel
theorem dX7_roof_7 : decode cX7_roof 7 = .ok (.aload_n 0, 1) := by decide +kernel
theorem dX7_roof_8 : decode cX7_roof 8 = .ok (.getfield 26, 3) := by decide +kernel
theorem dX7_roof_11 : decode cX7_roof 11 = .ok (.getfield 87, 3) := by decide +kernel
theorem dX7_roof_14 : decode cX7_roof 14 = .ok (.getfield 91, 3) := by decide +kernel
theorem dX7_roof_17 : decode cX7_roof 17 = .ok (.iload_n 1, 1) := by decide +kernel
theorem dX7_roof_18 : decode cX7_roof 18 = .ok (.iaload, 1) := by decide +kernel
theorem dX7_roof_19 : decode cX7_roof 19 = .ok (.goto 4, 3) := by decide +kernel
theorem dX7_roof_22 : decode cX7_roof 22 = .ok (.iconst (-1), 1) := by decide +kernel
theorem dX7_roof_23 : decode cX7_roof 23 = .ok (.ireturn, 1) := by decide +kernel
theorem dX7_cock_0 : decode cX7_cock 0 = .ok (.aload_n 0, 1) := by decide +kernel
theorem dX7_cock_1 : decode cX7_cock 1 = .ok (.iload_n 1, 1) := by decide +kernel
theorem dX7_cock_2 : decode cX7_cock 2 = .ok (.invokevirtual 95, 3) := by decide +kernel
theorem dX7_cock_5 : decode cX7_cock 5 = .ok (.ifCond .ne 5, 3) := by decide +kernel
theorem dX7_cock_8 : decode cX7_cock 8 = .ok (.iconst (-1), 1) := by decide +kernel
theorem dX7_cock_9 : decode cX7_cock 9 = .ok (.ireturn, 1) := by decide +kernel
theorem dX7_cock_10 : decode cX7_cock 10 = .ok (.iload_n 2, 1) := by decide +kernel
theorem dX7_cock_11 : decode cX7_cock 11 = .ok (.tableswitch 123 0 7 #[45, 45, 45, 45, 60, 69, 91, 111], 45) := by decide +kernel
theorem dX7_cock_56 : decode cX7_cock 56 = .ok (.aload_n 0, 1) := by decide +kernel
theorem dX7_cock_57 : decode cX7_cock 57 = .ok (.getfield 26, 3) := by decide +kernel
theorem dX7_cock_60 : decode cX7_cock 60 = .ok (.getfield 98, 3) := by decide +kernel
theorem dX7_cock_63 : decode cX7_cock 63 = .ok (.getfield 101, 3) := by decide +kernel
theorem dX7_cock_66 : decode cX7_cock 66 = .ok (.iload_n 1, 1) := by decide +kernel
theorem dX7_cock_67 : decode cX7_cock 67 = .ok (.aaload, 1) := by decide +kernel
theorem dX7_cock_68 : decode cX7_cock 68 = .ok (.iload_n 2, 1) := by decide +kernel
theorem dX7_cock_69 : decode cX7_cock 69 = .ok (.iaload, 1) := by decide +kernel
theorem dX7_cock_70 : decode cX7_cock 70 = .ok (.ireturn, 1) := by decide +kernel
theorem dX7_cock_71 : decode cX7_cock 71 = .ok (.aload_n 0, 1) := by decide +kernel
theorem dX7_cock_72 : decode cX7_cock 72 = .ok (.getfield 26, 3) := by decide +kernel
theorem dX7_cock_75 : decode cX7_cock 75 = .ok (.iload_n 1, 1) := by decide +kernel
theorem dX7_cock_76 : decode cX7_cock 76 = .ok (.invokevirtual 107, 3) := by decide +kernel
theorem dX7_cock_79 : decode cX7_cock 79 = .ok (.ireturn, 1) := by decide +kernel
theorem dX7_cock_80 : decode cX7_cock 80 = .ok (.aload_n 0, 1) := by decide +kernel
theorem dX7_cock_81 : decode cX7_cock 81 = .ok (.getfield 26, 3) := by decide +kernel
theorem dX7_cock_84 : decode cX7_cock 84 = .ok (.getfield 98, 3) := by decide +kernel
theorem dX7_cock_87 : decode cX7_cock 87 = .ok (.iload_n 1, 1) := by decide +kernel
theorem dX7_cock_88 : decode cX7_cock 88 = .ok (.aload_n 0, 1) := by decide +kernel
theorem dX7_cock_89 : decode cX7_cock 89 = .ok (.getfield 26, 3) := by decide +kernel
theorem dX7_cock_92 : decode cX7_cock 92 = .ok (.getfield 87, 3) := by decide +kernel
theorem dX7_cock_95 : decode cX7_cock 95 = .ok (.getfield 111, 3) := by decide +kernel
theorem dX7_cock_98 : decode cX7_cock 98 = .ok (.invokevirtual 114, 3) := by decide +kernel
theorem dX7_cock_101 : decode cX7_cock 101 = .ok (.ireturn, 1) := by decide +kernel
theorem dX7_cock_102 : decode cX7_cock 102 = .ok (.aload_n 0, 1) := by decide +kernel
theorem dX7_cock_103 : decode cX7_cock 103 = .ok (.getfield 26, 3) := by decide +kernel
theorem dX7_cock_106 : decode cX7_cock 106 = .ok (.getfield 87, 3) := by decide +kernel
theorem dX7_cock_109 : decode cX7_cock 109 = .ok (.iload_n 1, 1) := by decide +kernel
theorem dX7_cock_110 : decode cX7_cock 110 = .ok (.invokevirtual 118, 3) := by decide +kernel
theorem dX7_cock_113 : decode cX7_cock 113 = .ok (.ifCond .eq 7, 3) := by decide +kernel
theorem dX7_cock_116 : decode cX7_cock 116 = .ok (.iconst 1, 1) := by decide +kernel
theorem dX7_cock_117 : decode cX7_cock 117 = .ok (.goto 4, 3) := by decide +kernel
theorem dX7_cock_120 : decode cX7_cock 120 = .ok (.iconst 0, 1) := by decide +kernel
theorem dX7_cock_121 : decode cX7_cock 121 = .ok (.ireturn, 1) := by decide +kernel
theorem dX7_cock_122 : decode cX7_cock 122 = .ok (.aload_n 0, 1) := by decide +kernel
theorem dX7_cock_123 : decode cX7_cock 123 = .ok (.getfield 26, 3) := by decide +kernel
theorem dX7_cock_126 : decode cX7_cock 126 = .ok (.getfield 87, 3) := by decide +kernel
theorem dX7_cock_129 : decode cX7_cock 129 = .ok (.iload_n 1, 1) := by decide +kernel
theorem dX7_cock_130 : decode cX7_cock 130 = .ok (.invokevirtual 121, 3) := by decide +kernel
theorem dX7_cock_133 : decode cX7_cock 133 = .ok (.ireturn, 1) := by decide +kernel
theorem dX7_cock_134 : decode cX7_cock 134 = .ok (.iconst (-1), 1) := by decide +kernel
theorem dX7_cock_135 : decode cX7_cock 135 = .ok (.ireturn, 1) := by decide +kernel
theorem dX7_one_0 : decode cX7_one 0 = .ok (.aload_n 0, 1) := by decide +kernel
theorem dX7_one_1 : decode cX7_one 1 = .ok (.iload_n 1, 1) := by decide +kernel
theorem dX7_one_2 : decode cX7_one 2 = .ok (.invokevirtual 124, 3) := by decide +kernel
theorem dX7_one_5 : decode cX7_one 5 = .ok (.ifCond .ne 6, 3) := by decide +kernel
theorem dX7_one_8 : decode cX7_one 8 = .ok (.ldc 127, 2) := by decide +kernel
theorem dX7_one_10 : decode cX7_one 10 = .ok (.ireturn, 1) := by decide +kernel
theorem dX7_one_11 : decode cX7_one 11 = .ok (.iload_n 2, 1) := by decide +kernel
theorem dX7_one_12 : decode cX7_one 12 = .ok (.tableswitch 65 0 2 #[28, 28, 43], 28) := by decide +kernel
theorem dX7_one_40 : decode cX7_one 40 = .ok (.aload_n 0, 1) := by decide +kernel
theorem dX7_one_41 : decode cX7_one 41 = .ok (.getfield 26, 3) := by decide +kernel
theorem dX7_one_44 : decode cX7_one 44 = .ok (.getfield 98, 3) := by decide +kernel
theorem dX7_one_47 : decode cX7_one 47 = .ok (.getfield 128, 3) := by decide +kernel
theorem dX7_one_50 : decode cX7_one 50 = .ok (.iload_n 1, 1) := by decide +kernel
theorem dX7_one_51 : decode cX7_one 51 = .ok (.aaload, 1) := by decide +kernel
theorem dX7_one_52 : decode cX7_one 52 = .ok (.iload_n 2, 1) := by decide +kernel
theorem dX7_one_53 : decode cX7_one 53 = .ok (.iaload, 1) := by decide +kernel
theorem dX7_one_54 : decode cX7_one 54 = .ok (.ireturn, 1) := by decide +kernel
theorem dX7_one_55 : decode cX7_one 55 = .ok (.aload_n 0, 1) := by decide +kernel
theorem dX7_one_56 : decode cX7_one 56 = .ok (.getfield 26, 3) := by decide +kernel
theorem dX7_one_59 : decode cX7_one 59 = .ok (.getfield 98, 3) := by decide +kernel
theorem dX7_one_62 : decode cX7_one 62 = .ok (.iload_n 1, 1) := by decide +kernel
theorem dX7_one_63 : decode cX7_one 63 = .ok (.aload_n 0, 1) := by decide +kernel
theorem dX7_one_64 : decode cX7_one 64 = .ok (.getfield 26, 3) := by decide +kernel
theorem dX7_one_67 : decode cX7_one 67 = .ok (.getfield 87, 3) := by decide +kernel
theorem dX7_one_70 : decode cX7_one 70 = .ok (.getfield 111, 3) := by decide +kernel
theorem dX7_one_73 : decode cX7_one 73 = .ok (.invokevirtual 131, 3) := by decide +kernel
theorem dX7_one_76 : decode cX7_one 76 = .ok (.ireturn, 1) := by decide +kernel
theorem dX7_one_77 : decode cX7_one 77 = .ok (.ldc 127, 2) := by decide +kernel
theorem dX7_one_79 : decode cX7_one 79 = .ok (.ireturn, 1) := by decide +kernel
theorem dX7_saw_0 : decode cX7_saw 0 = .ok (.aload_n 0, 1) := by decide +kernel
theorem dX7_saw_1 : decode cX7_saw 1 = .ok (.iload_n 1, 1) := by decide +kernel
theorem dX7_saw_2 : decode cX7_saw 2 = .ok (.invokevirtual 95, 3) := by decide +kernel
theorem dX7_saw_5 : decode cX7_saw 5 = .ok (.ifCond .eq 28, 3) := by decide +kernel
theorem dX7_saw_8 : decode cX7_saw 8 = .ok (.aload_n 0, 1) := by decide +kernel
theorem dX7_saw_9 : decode cX7_saw 9 = .ok (.iload_n 2, 1) := by decide +kernel
theorem dX7_saw_10 : decode cX7_saw 10 = .ok (.invokevirtual 124, 3) := by decide +kernel
theorem dX7_saw_13 : decode cX7_saw 13 = .ok (.ifCond .eq 20, 3) := by decide +kernel
theorem dX7_saw_16 : decode cX7_saw 16 = .ok (.aload_n 0, 1) := by decide +kernel
theorem dX7_saw_17 : decode cX7_saw 17 = .ok (.getfield 26, 3) := by decide +kernel
theorem dX7_saw_20 : decode cX7_saw 20 = .ok (.getfield 87, 3) := by decide +kernel
theorem dX7_saw_23 : decode cX7_saw 23 = .ok (.getfield 134, 3) := by decide +kernel
theorem dX7_saw_26 : decode cX7_saw 26 = .ok (.iload_n 1, 1) := by decide +kernel
theorem dX7_saw_27 : decode cX7_saw 27 = .ok (.aaload, 1) := by decide +kernel
theorem dX7_saw_28 : decode cX7_saw 28 = .ok (.iload_n 2, 1) := by decide +kernel
theorem dX7_saw_29 : decode cX7_saw 29 = .ok (.iaload, 1) := by decide +kernel
theorem dX7_saw_30 : decode cX7_saw 30 = .ok (.goto 4, 3) := by decide +kernel
theorem dX7_saw_33 : decode cX7_saw 33 = .ok (.iconst (-1), 1) := by decide +kernel
theorem dX7_saw_34 : decode cX7_saw 34 = .ok (.ireturn, 1) := by decide +kernel
theorem dX7_known_0 : decode cX7_known 0 = .ok (.aload_n 0, 1) := by decide +kernel
theorem dX7_known_1 : decode cX7_known 1 = .ok (.iload_n 1, 1) := by decide +kernel
theorem dX7_known_2 : decode cX7_known 2 = .ok (.invokevirtual 124, 3) := by decide +kernel
theorem dX7_known_5 : decode cX7_known 5 = .ok (.ifCond .eq 27, 3) := by decide +kernel
theorem dX7_known_8 : decode cX7_known 8 = .ok (.aload_n 0, 1) := by decide +kernel
theorem dX7_known_9 : decode cX7_known 9 = .ok (.getfield 26, 3) := by decide +kernel
theorem dX7_known_12 : decode cX7_known 12 = .ok (.getfield 87, 3) := by decide +kernel
theorem dX7_known_15 : decode cX7_known 15 = .ok (.aload_n 0, 1) := by decide +kernel
theorem dX7_known_16 : decode cX7_known 16 = .ok (.getfield 26, 3) := by decide +kernel
theorem dX7_known_19 : decode cX7_known 19 = .ok (.getfield 87, 3) := by decide +kernel
theorem dX7_known_22 : decode cX7_known 22 = .ok (.getfield 137, 3) := by decide +kernel
theorem dX7_known_25 : decode cX7_known 25 = .ok (.iload_n 1, 1) := by decide +kernel
theorem dX7_known_26 : decode cX7_known 26 = .ok (.invokevirtual 140, 3) := by decide +kernel
theorem dX7_known_29 : decode cX7_known 29 = .ok (.goto 4, 3) := by decide +kernel
theorem dX7_known_32 : decode cX7_known 32 = .ok (.iconst (-1), 1) := by decide +kernel
theorem dX7_known_33 : decode cX7_known 33 = .ok (.ireturn, 1) := by decide +kernel
theorem dX7_hours_0 : decode cX7_hours 0 = .ok (.iload_n 1, 1) := by decide +kernel
theorem dX7_hours_1 : decode cX7_hours 1 = .ok (.iconst 1, 1) := by decide +kernel
theorem dX7_hours_2 : decode cX7_hours 2 = .ok (.bipush 9, 2) := by decide +kernel
theorem dX7_hours_4 : decode cX7_hours 4 = .ok (.invokestatic 51, 3) := by decide +kernel
theorem dX7_hours_7 : decode cX7_hours 7 = .ok (.ifCond .ne 5, 3) := by decide +kernel
theorem dX7_hours_10 : decode cX7_hours 10 = .ok (.iconst (-1), 1) := by decide +kernel
theorem dX7_hours_11 : decode cX7_hours 11 = .ok (.ireturn, 1) := by decide +kernel
theorem dX7_hours_12 : decode cX7_hours 12 = .ok (.aload_n 0, 1) := by decide +kernel
theorem dX7_hours_13 : decode cX7_hours 13 = .ok (.getfield 26, 3) := by decide +kernel
theorem dX7_hours_16 : decode cX7_hours 16 = .ok (.getfield 87, 3) := by decide +kernel
theorem dX7_hours_19 : decode cX7_hours 19 = .ok (.getfield 111, 3) := by decide +kernel
theorem dX7_hours_22 : decode cX7_hours 22 = .ok (.bipush 30, 2) := by decide +kernel
theorem dX7_hours_24 : decode cX7_hours 24 = .ok (.if_icmp .lt 6, 3) := by decide +kernel
theorem dX7_hours_27 : decode cX7_hours 27 = .ok (.bipush (-2), 2) := by decide +kernel
theorem dX7_hours_29 : decode cX7_hours 29 = .ok (.ireturn, 1) := by decide +kernel
theorem dX7_hours_30 : decode cX7_hours 30 = .ok (.aload_n 0, 1) := by decide +kernel
theorem dX7_hours_31 : decode cX7_hours 31 = .ok (.getfield 26, 3) := by decide +kernel
theorem dX7_hours_34 : decode cX7_hours 34 = .ok (.iload_n 1, 1) := by decide +kernel
theorem dX7_hours_35 : decode cX7_hours 35 = .ok (.invokevirtual 143, 3) := by decide +kernel
theorem dX7_hours_38 : decode cX7_hours 38 = .ok (.aload_n 0, 1) := by decide +kernel
theorem dX7_hours_39 : decode cX7_hours 39 = .ok (.getfield 26, 3) := by decide +kernel
theorem dX7_hours_42 : decode cX7_hours 42 = .ok (.getfield 87, 3) := by decide +kernel
theorem dX7_hours_45 : decode cX7_hours 45 = .ok (.getfield 111, 3) := by decide +kernel
theorem dX7_hours_48 : decode cX7_hours 48 = .ok (.ireturn, 1) := by decide +kernel
theorem dX7_builds_0 : decode cX7_builds 0 = .ok (.iload_n 1, 1) := by decide +kernel
theorem dX7_builds_1 : decode cX7_builds 1 = .ok (.invokestatic 84, 3) := by decide +kernel
theorem dX7_builds_4 : decode cX7_builds 4 = .ok (.ifCond .eq 13, 3) := by decide +kernel
theorem dX7_builds_7 : decode cX7_builds 7 = .ok (.iload_n 2, 1) := by decide +kernel
theorem dX7_builds_8 : decode cX7_builds 8 = .ok (.iconst 0, 1) := by decide +kernel
theorem dX7_builds_9 : decode cX7_builds 9 = .ok (.bipush 9, 2) := by decide +kernel
theorem dX7_builds_11 : decode cX7_builds 11 = .ok (.invokestatic 51, 3) := by decide +kernel
theorem dX7_builds_14 : decode cX7_builds 14 = .ok (.ifCond .ne 5, 3) := by decide +kernel
theorem dX7_builds_17 : decode cX7_builds 17 = .ok (.iconst (-1), 1) := by decide +kernel
theorem dX7_builds_18 : decode cX7_builds 18 = .ok (.ireturn, 1) := by decide +kernel
theorem dX7_builds_19 : decode cX7_builds 19 = .ok (.aload_n 0, 1) := by decide +kernel
theorem dX7_builds_20 : decode cX7_builds 20 = .ok (.getfield 26, 3) := by decide +kernel
theorem dX7_builds_23 : decode cX7_builds 23 = .ok (.getfield 87, 3) := by decide +kernel
theorem dX7_builds_26 : decode cX7_builds 26 = .ok (.getfield 91, 3) := by decide +kernel
theorem dX7_builds_29 : decode cX7_builds 29 = .ok (.iload_n 1, 1) := by decide +kernel
theorem dX7_builds_30 : decode cX7_builds 30 = .ok (.iaload, 1) := by decide +kernel
theorem dX7_builds_31 : decode cX7_builds 31 = .ok (.istore_n 3, 1) := by decide +kernel
theorem dX7_builds_32 : decode cX7_builds 32 = .ok (.iload_n 3, 1) := by decide +kernel
theorem dX7_builds_33 : decode cX7_builds 33 = .ok (.iload_n 2, 1) := by decide +kernel
theorem dX7_builds_34 : decode cX7_builds 34 = .ok (.if_icmp .ne 6, 3) := by decide +kernel
theorem dX7_builds_37 : decode cX7_builds 37 = .ok (.bipush (-2), 2) := by decide +kernel
theorem dX7_builds_39 : decode cX7_builds 39 = .ok (.ireturn, 1) := by decide +kernel
theorem dX7_builds_40 : decode cX7_builds 40 = .ok (.aload_n 0, 1) := by decide +kernel
theorem dX7_builds_41 : decode cX7_builds 41 = .ok (.getfield 26, 3) := by decide +kernel
theorem dX7_builds_44 : decode cX7_builds 44 = .ok (.getfield 87, 3) := by decide +kernel
theorem dX7_builds_47 : decode cX7_builds 47 = .ok (.iload_n 1, 1) := by decide +kernel
theorem dX7_builds_48 : decode cX7_builds 48 = .ok (.iload_n 2, 1) := by decide +kernel
theorem dX7_builds_49 : decode cX7_builds 49 = .ok (.invokevirtual 147, 3) := by decide +kernel
theorem dX7_builds_52 : decode cX7_builds 52 = .ok (.iload_n 3, 1) := by decide +kernel
theorem dX7_builds_53 : decode cX7_builds 53 = .ok (.ireturn, 1) := by decide +kernel
theorem dX7_asks_0 : decode cX7_asks 0 = .ok (.aload_n 0, 1) := by decide +kernel
theorem dX7_asks_1 : decode cX7_asks 1 = .ok (.iload_n 1, 1) := by decide +kernel
theorem dX7_asks_2 : decode cX7_asks 2 = .ok (.invokevirtual 95, 3) := by decide +kernel
theorem dX7_asks_5 : decode cX7_asks 5 = .ok (.ifCond .ne 5, 3) := by decide +kernel
theorem dX7_asks_8 : decode cX7_asks 8 = .ok (.iconst (-1), 1) := by decide +kernel
theorem dX7_asks_9 : decode cX7_asks 9 = .ok (.ireturn, 1) := by decide +kernel
theorem dX7_asks_10 : decode cX7_asks 10 = .ok (.aload_n 0, 1) := by decide +kernel
theorem dX7_asks_11 : decode cX7_asks 11 = .ok (.getfield 26, 3) := by decide +kernel
theorem dX7_asks_14 : decode cX7_asks 14 = .ok (.getfield 87, 3) := by decide +kernel
theorem dX7_asks_17 : decode cX7_asks 17 = .ok (.iload_n 1, 1) := by decide +kernel
theorem dX7_asks_18 : decode cX7_asks 18 = .ok (.invokevirtual 118, 3) := by decide +kernel
theorem dX7_asks_21 : decode cX7_asks 21 = .ok (.ifCond .eq 6, 3) := by decide +kernel
theorem dX7_asks_24 : decode cX7_asks 24 = .ok (.bipush (-2), 2) := by decide +kernel
theorem dX7_asks_26 : decode cX7_asks 26 = .ok (.ireturn, 1) := by decide +kernel
theorem dX7_asks_27 : decode cX7_asks 27 = .ok (.aload_n 0, 1) := by decide +kernel
theorem dX7_asks_28 : decode cX7_asks 28 = .ok (.getfield 26, 3) := by decide +kernel
theorem dX7_asks_31 : decode cX7_asks 31 = .ok (.getfield 87, 3) := by decide +kernel
theorem dX7_asks_34 : decode cX7_asks 34 = .ok (.iconst 0, 1) := by decide +kernel
theorem dX7_asks_35 : decode cX7_asks 35 = .ok (.invokevirtual 151, 3) := by decide +kernel
theorem dX7_asks_38 : decode cX7_asks 38 = .ok (.istore_n 2, 1) := by decide +kernel
theorem dX7_asks_39 : decode cX7_asks 39 = .ok (.aload_n 0, 1) := by decide +kernel
theorem dX7_asks_40 : decode cX7_asks 40 = .ok (.getfield 26, 3) := by decide +kernel
theorem dX7_asks_43 : decode cX7_asks 43 = .ok (.getfield 87, 3) := by decide +kernel
theorem dX7_asks_46 : decode cX7_asks 46 = .ok (.iload_n 1, 1) := by decide +kernel
theorem dX7_asks_47 : decode cX7_asks 47 = .ok (.invokevirtual 154, 3) := by decide +kernel
theorem dX7_asks_50 : decode cX7_asks 50 = .ok (.aload_n 0, 1) := by decide +kernel
theorem dX7_asks_51 : decode cX7_asks 51 = .ok (.getfield 26, 3) := by decide +kernel
theorem dX7_asks_54 : decode cX7_asks 54 = .ok (.getfield 87, 3) := by decide +kernel
theorem dX7_asks_57 : decode cX7_asks 57 = .ok (.iconst 0, 1) := by decide +kernel
theorem dX7_asks_58 : decode cX7_asks 58 = .ok (.invokevirtual 151, 3) := by decide +kernel
theorem dX7_asks_61 : decode cX7_asks 61 = .ok (.iload_n 2, 1) := by decide +kernel
theorem dX7_asks_62 : decode cX7_asks 62 = .ok (.isub, 1) := by decide +kernel
theorem dX7_asks_63 : decode cX7_asks 63 = .ok (.ireturn, 1) := by decide +kernel
theorem dX7_undo_0 : decode cX7_undo 0 = .ok (.aload_n 0, 1) := by decide +kernel
theorem dX7_undo_1 : decode cX7_undo 1 = .ok (.getfield 26, 3) := by decide +kernel
theorem dX7_undo_4 : decode cX7_undo 4 = .ok (.getfield 87, 3) := by decide +kernel
theorem dX7_undo_7 : decode cX7_undo 7 = .ok (.getfield 157, 3) := by decide +kernel
theorem dX7_undo_10 : decode cX7_undo 10 = .ok (.ifCond .ne 6, 3) := by decide +kernel
theorem dX7_undo_13 : decode cX7_undo 13 = .ok (.bipush (-2), 2) := by decide +kernel
theorem dX7_undo_15 : decode cX7_undo 15 = .ok (.ireturn, 1) := by decide +kernel
theorem dX7_undo_16 : decode cX7_undo 16 = .ok (.aload_n 0, 1) := by decide +kernel
theorem dX7_undo_17 : decode cX7_undo 17 = .ok (.getfield 26, 3) := by decide +kernel
theorem dX7_undo_20 : decode cX7_undo 20 = .ok (.getfield 87, 3) := by decide +kernel
theorem dX7_undo_23 : decode cX7_undo 23 = .ok (.invokevirtual 160, 3) := by decide +kernel
theorem dX7_undo_26 : decode cX7_undo 26 = .ok (.aload_n 0, 1) := by decide +kernel
theorem dX7_undo_27 : decode cX7_undo 27 = .ok (.getfield 26, 3) := by decide +kernel
theorem dX7_undo_30 : decode cX7_undo 30 = .ok (.getfield 87, 3) := by decide +kernel
theorem dX7_undo_33 : decode cX7_undo 33 = .ok (.getfield 157, 3) := by decide +kernel
theorem dX7_undo_36 : decode cX7_undo 36 = .ok (.ireturn, 1) := by decide +kernel
theorem dX7_now_0 : decode cX7_now 0 = .ok (.iload_n 1, 1) := by decide +kernel
theorem dX7_now_1 : decode cX7_now 1 = .ok (.tableswitch 98 0 4 #[35, 46, 57, 69, 90], 35) := by decide +kernel
theorem dX7_now_36 : decode cX7_now 36 = .ok (.aload_n 0, 1) := by decide +kernel
theorem dX7_now_37 : decode cX7_now 37 = .ok (.getfield 26, 3) := by decide +kernel
theorem dX7_now_40 : decode cX7_now 40 = .ok (.getfield 87, 3) := by decide +kernel
theorem dX7_now_43 : decode cX7_now 43 = .ok (.getfield 111, 3) := by decide +kernel
theorem dX7_now_46 : decode cX7_now 46 = .ok (.ireturn, 1) := by decide +kernel
theorem dX7_now_47 : decode cX7_now 47 = .ok (.aload_n 0, 1) := by decide +kernel
theorem dX7_now_48 : decode cX7_now 48 = .ok (.getfield 26, 3) := by decide +kernel
theorem dX7_now_51 : decode cX7_now 51 = .ok (.getfield 87, 3) := by decide +kernel
theorem dX7_now_54 : decode cX7_now 54 = .ok (.getfield 137, 3) := by decide +kernel
theorem dX7_now_57 : decode cX7_now 57 = .ok (.ireturn, 1) := by decide +kernel
theorem dX7_now_58 : decode cX7_now 58 = .ok (.aload_n 0, 1) := by decide +kernel
theorem dX7_now_59 : decode cX7_now 59 = .ok (.getfield 26, 3) := by decide +kernel
theorem dX7_now_62 : decode cX7_now 62 = .ok (.getfield 87, 3) := by decide +kernel
theorem dX7_now_65 : decode cX7_now 65 = .ok (.iconst 0, 1) := by decide +kernel
theorem dX7_now_66 : decode cX7_now 66 = .ok (.invokevirtual 151, 3) := by decide +kernel
theorem dX7_now_69 : decode cX7_now 69 = .ok (.ireturn, 1) := by decide +kernel
theorem dX7_now_70 : decode cX7_now 70 = .ok (.aload_n 0, 1) := by decide +kernel
theorem dX7_now_71 : decode cX7_now 71 = .ok (.getfield 26, 3) := by decide +kernel
theorem dX7_now_74 : decode cX7_now 74 = .ok (.getfield 87, 3) := by decide +kernel
theorem dX7_now_77 : decode cX7_now 77 = .ok (.aload_n 0, 1) := by decide +kernel
theorem dX7_now_78 : decode cX7_now 78 = .ok (.getfield 26, 3) := by decide +kernel
theorem dX7_now_81 : decode cX7_now 81 = .ok (.getfield 98, 3) := by decide +kernel
theorem dX7_now_84 : decode cX7_now 84 = .ok (.invokevirtual 163, 3) := by decide +kernel
theorem dX7_now_87 : decode cX7_now 87 = .ok (.invokevirtual 167, 3) := by decide +kernel
theorem dX7_now_90 : decode cX7_now 90 = .ok (.ireturn, 1) := by decide +kernel
theorem dX7_now_91 : decode cX7_now 91 = .ok (.aload_n 0, 1) := by decide +kernel
theorem dX7_now_92 : decode cX7_now 92 = .ok (.getfield 26, 3) := by decide +kernel
theorem dX7_now_95 : decode cX7_now 95 = .ok (.invokevirtual 170, 3) := by decide +kernel
theorem dX7_now_98 : decode cX7_now 98 = .ok (.ireturn, 1) := by decide +kernel
theorem dX7_now_99 : decode cX7_now 99 = .ok (.iconst (-1), 1) := by decide +kernel
theorem dX7_now_100 : decode cX7_now 100 = .ok (.ireturn, 1) := by decide +kernel
theorem dX7_view_0 : decode cX7_view 0 = .ok (.aload_n 0, 1) := by decide +kernel
theorem dX7_view_1 : decode cX7_view 1 = .ok (.iload_n 1, 1) := by decide +kernel
theorem dX7_view_2 : decode cX7_view 2 = .ok (.invokevirtual 95, 3) := by decide +kernel
theorem dX7_view_5 : decode cX7_view 5 = .ok (.ifCond .eq 22, 3) := by decide +kernel
theorem dX7_view_8 : decode cX7_view 8 = .ok (.iload_n 2, 1) := by decide +kernel
theorem dX7_view_9 : decode cX7_view 9 = .ok (.invokestatic 173, 3) := by decide +kernel
theorem dX7_view_12 : decode cX7_view 12 = .ok (.ifCond .eq 15, 3) := by decide +kernel
theorem dX7_view_15 : decode cX7_view 15 = .ok (.aload_n 0, 1) := by decide +kernel
theorem dX7_view_16 : decode cX7_view 16 = .ok (.getfield 26, 3) := by decide +kernel
theorem dX7_view_19 : decode cX7_view 19 = .ok (.iload_n 1, 1) := by decide +kernel
theorem dX7_view_20 : decode cX7_view 20 = .ok (.iload_n 2, 1) := by decide +kernel
theorem dX7_view_21 : decode cX7_view 21 = .ok (.invokevirtual 176, 3) := by decide +kernel
theorem dX7_view_24 : decode cX7_view 24 = .ok (.goto 4, 3) := by decide +kernel
theorem dX7_view_27 : decode cX7_view 27 = .ok (.iconst (-1), 1) := by decide +kernel
theorem dX7_view_28 : decode cX7_view 28 = .ok (.ireturn, 1) := by decide +kernel
theorem dX7_blind_0 : decode cX7_blind 0 = .ok (.iload_n 1, 1) := by decide +kernel
theorem dX7_blind_1 : decode cX7_blind 1 = .ok (.invokestatic 173, 3) := by decide +kernel
theorem dX7_blind_4 : decode cX7_blind 4 = .ok (.ifCond .eq 14, 3) := by decide +kernel
theorem dX7_blind_7 : decode cX7_blind 7 = .ok (.aload_n 0, 1) := by decide +kernel
theorem dX7_blind_8 : decode cX7_blind 8 = .ok (.getfield 26, 3) := by decide +kernel
theorem dX7_blind_11 : decode cX7_blind 11 = .ok (.iload_n 1, 1) := by decide +kernel
theorem dX7_blind_12 : decode cX7_blind 12 = .ok (.invokevirtual 179, 3) := by decide +kernel
theorem dX7_blind_15 : decode cX7_blind 15 = .ok (.goto 4, 3) := by decide +kernel
theorem dX7_blind_18 : decode cX7_blind 18 = .ok (.iconst (-1), 1) := by decide +kernel
theorem dX7_blind_19 : decode cX7_blind 19 = .ok (.ireturn, 1) := by decide +kernel
theorem dX7_most_0 : decode cX7_most 0 = .ok (.iload_n 1, 1) := by decide +kernel
theorem dX7_most_1 : decode cX7_most 1 = .ok (.iconst 0, 1) := by decide +kernel
theorem dX7_most_2 : decode cX7_most 2 = .ok (.bipush 60, 2) := by decide +kernel
theorem dX7_most_4 : decode cX7_most 4 = .ok (.invokestatic 51, 3) := by decide +kernel
theorem dX7_most_7 : decode cX7_most 7 = .ok (.ifCond .eq 12, 3) := by decide +kernel
theorem dX7_most_10 : decode cX7_most 10 = .ok (.iload_n 2, 1) := by decide +kernel
theorem dX7_most_11 : decode cX7_most 11 = .ok (.iconst 0, 1) := by decide +kernel
theorem dX7_most_12 : decode cX7_most 12 = .ok (.iconst 1, 1) := by decide +kernel
theorem dX7_most_13 : decode cX7_most 13 = .ok (.invokestatic 51, 3) := by decide +kernel
theorem dX7_most_16 : decode cX7_most 16 = .ok (.ifCond .ne 5, 3) := by decide +kernel
theorem dX7_most_19 : decode cX7_most 19 = .ok (.iconst (-1), 1) := by decide +kernel
theorem dX7_most_20 : decode cX7_most 20 = .ok (.ireturn, 1) := by decide +kernel
theorem dX7_most_21 : decode cX7_most 21 = .ok (.aload_n 0, 1) := by decide +kernel
theorem dX7_most_22 : decode cX7_most 22 = .ok (.getfield 26, 3) := by decide +kernel
theorem dX7_most_25 : decode cX7_most 25 = .ok (.iload_n 1, 1) := by decide +kernel
theorem dX7_most_26 : decode cX7_most 26 = .ok (.invokevirtual 182, 3) := by decide +kernel
theorem dX7_most_29 : decode cX7_most 29 = .ok (.istore_n 3, 1) := by decide +kernel
theorem dX7_most_30 : decode cX7_most 30 = .ok (.iload_n 2, 1) := by decide +kernel
theorem dX7_most_31 : decode cX7_most 31 = .ok (.ifCond .ne 7, 3) := by decide +kernel
theorem dX7_most_34 : decode cX7_most 34 = .ok (.iload_n 3, 1) := by decide +kernel
theorem dX7_most_35 : decode cX7_most 35 = .ok (.goto 14, 3) := by decide +kernel
theorem dX7_most_38 : decode cX7_most 38 = .ok (.aload_n 0, 1) := by decide +kernel
theorem dX7_most_39 : decode cX7_most 39 = .ok (.getfield 26, 3) := by decide +kernel
theorem dX7_most_42 : decode cX7_most 42 = .ok (.getfield 87, 3) := by decide +kernel
theorem dX7_most_45 : decode cX7_most 45 = .ok (.iload_n 3, 1) := by decide +kernel
theorem dX7_most_46 : decode cX7_most 46 = .ok (.invokevirtual 151, 3) := by decide +kernel
theorem dX7_most_49 : decode cX7_most 49 = .ok (.ireturn, 1) := by decide +kernel
theorem dX7_odds_0 : decode cX7_odds 0 = .ok (.aload_n 0, 1) := by decide +kernel
theorem dX7_odds_1 : decode cX7_odds 1 = .ok (.iload_n 1, 1) := by decide +kernel
theorem dX7_odds_2 : decode cX7_odds 2 = .ok (.invokevirtual 95, 3) := by decide +kernel
theorem dX7_odds_5 : decode cX7_odds 5 = .ok (.ifCond .eq 25, 3) := by decide +kernel
theorem dX7_odds_8 : decode cX7_odds 8 = .ok (.iload_n 2, 1) := by decide +kernel
theorem dX7_odds_9 : decode cX7_odds 9 = .ok (.invokestatic 84, 3) := by decide +kernel
theorem dX7_odds_12 : decode cX7_odds 12 = .ok (.ifCond .eq 18, 3) := by decide +kernel
theorem dX7_odds_15 : decode cX7_odds 15 = .ok (.iload_n 3, 1) := by decide +kernel
theorem dX7_odds_16 : decode cX7_odds 16 = .ok (.invokestatic 173, 3) := by decide +kernel
theorem dX7_odds_19 : decode cX7_odds 19 = .ok (.ifCond .eq 11, 3) := by decide +kernel
theorem dX7_odds_22 : decode cX7_odds 22 = .ok (.iload 4, 2) := by decide +kernel
theorem dX7_odds_24 : decode cX7_odds 24 = .ok (.invokestatic 173, 3) := by decide +kernel
theorem dX7_odds_27 : decode cX7_odds 27 = .ok (.ifCond .ne 5, 3) := by decide +kernel
theorem dX7_odds_30 : decode cX7_odds 30 = .ok (.iconst (-1), 1) := by decide +kernel
theorem dX7_odds_31 : decode cX7_odds 31 = .ok (.ireturn, 1) := by decide +kernel
theorem dX7_odds_32 : decode cX7_odds 32 = .ok (.iload 4, 2) := by decide +kernel
theorem dX7_odds_34 : decode cX7_odds 34 = .ok (.iload_n 3, 1) := by decide +kernel
theorem dX7_odds_35 : decode cX7_odds 35 = .ok (.if_icmp .lt 12, 3) := by decide +kernel
theorem dX7_odds_38 : decode cX7_odds 38 = .ok (.iload 4, 2) := by decide +kernel
theorem dX7_odds_40 : decode cX7_odds 40 = .ok (.iload_n 3, 1) := by decide +kernel
theorem dX7_odds_41 : decode cX7_odds 41 = .ok (.isub, 1) := by decide +kernel
theorem dX7_odds_42 : decode cX7_odds 42 = .ok (.bipush 8, 2) := by decide +kernel
theorem dX7_odds_44 : decode cX7_odds 44 = .ok (.if_icmp .lt 5, 3) := by decide +kernel
theorem dX7_odds_47 : decode cX7_odds 47 = .ok (.iconst (-1), 1) := by decide +kernel
theorem dX7_odds_48 : decode cX7_odds 48 = .ok (.ireturn, 1) := by decide +kernel
theorem dX7_odds_49 : decode cX7_odds 49 = .ok (.iload 5, 2) := by decide +kernel
theorem dX7_odds_51 : decode cX7_odds 51 = .ok (.iconst 0, 1) := by decide +kernel
theorem dX7_odds_52 : decode cX7_odds 52 = .ok (.bipush 10, 2) := by decide +kernel
theorem dX7_odds_54 : decode cX7_odds 54 = .ok (.invokestatic 51, 3) := by decide +kernel
theorem dX7_odds_57 : decode cX7_odds 57 = .ok (.ifCond .eq 13, 3) := by decide +kernel
theorem dX7_odds_60 : decode cX7_odds 60 = .ok (.iload 6, 2) := by decide +kernel
theorem dX7_odds_62 : decode cX7_odds 62 = .ok (.iconst 0, 1) := by decide +kernel
theorem dX7_odds_63 : decode cX7_odds 63 = .ok (.iconst 1, 1) := by decide +kernel
theorem dX7_odds_64 : decode cX7_odds 64 = .ok (.invokestatic 51, 3) := by decide +kernel
theorem dX7_odds_67 : decode cX7_odds 67 = .ok (.ifCond .ne 5, 3) := by decide +kernel
theorem dX7_odds_70 : decode cX7_odds 70 = .ok (.iconst (-1), 1) := by decide +kernel
theorem dX7_odds_71 : decode cX7_odds 71 = .ok (.ireturn, 1) := by decide +kernel
theorem dX7_odds_72 : decode cX7_odds 72 = .ok (.aload_n 0, 1) := by decide +kernel
theorem dX7_odds_73 : decode cX7_odds 73 = .ok (.getfield 26, 3) := by decide +kernel
theorem dX7_odds_76 : decode cX7_odds 76 = .ok (.iload_n 1, 1) := by decide +kernel
theorem dX7_odds_77 : decode cX7_odds 77 = .ok (.iload_n 2, 1) := by decide +kernel
theorem dX7_odds_78 : decode cX7_odds 78 = .ok (.iload_n 3, 1) := by decide +kernel
theorem dX7_odds_79 : decode cX7_odds 79 = .ok (.iload 4, 2) := by decide +kernel
theorem dX7_odds_81 : decode cX7_odds 81 = .ok (.invokevirtual 185, 3) := by decide +kernel
theorem dX7_odds_84 : decode cX7_odds 84 = .ok (.istore 7, 2) := by decide +kernel
theorem dX7_odds_86 : decode cX7_odds 86 = .ok (.iload 5, 2) := by decide +kernel
theorem dX7_odds_88 : decode cX7_odds 88 = .ok (.invokestatic 189, 3) := by decide +kernel
theorem dX7_odds_91 : decode cX7_odds 91 = .ok (.istore 8, 2) := by decide +kernel
theorem dX7_odds_93 : decode cX7_odds 93 = .ok (.bipush 10, 2) := by decide +kernel
theorem dX7_odds_95 : decode cX7_odds 95 = .ok (.iload 8, 2) := by decide +kernel
theorem dX7_odds_97 : decode cX7_odds 97 = .ok (.idiv, 1) := by decide +kernel
theorem dX7_odds_98 : decode cX7_odds 98 = .ok (.iload 7, 2) := by decide +kernel
theorem dX7_odds_100 : decode cX7_odds 100 = .ok (.invokestatic 192, 3) := by decide +kernel
theorem dX7_odds_103 : decode cX7_odds 103 = .ok (.istore 9, 2) := by decide +kernel
theorem dX7_odds_105 : decode cX7_odds 105 = .ok (.iload 6, 2) := by decide +kernel
theorem dX7_odds_107 : decode cX7_odds 107 = .ok (.ifCond .ne 19, 3) := by decide +kernel
theorem dX7_odds_110 : decode cX7_odds 110 = .ok (.iload 9, 2) := by decide +kernel
theorem dX7_odds_112 : decode cX7_odds 112 = .ok (.iload 5, 2) := by decide +kernel
theorem dX7_odds_114 : decode cX7_odds 114 = .ok (.iload 8, 2) := by decide +kernel
theorem dX7_odds_116 : decode cX7_odds 116 = .ok (.idiv, 1) := by decide +kernel
theorem dX7_odds_117 : decode cX7_odds 117 = .ok (.iload 7, 2) := by decide +kernel
theorem dX7_odds_119 : decode cX7_odds 119 = .ok (.invokestatic 192, 3) := by decide +kernel
theorem dX7_odds_122 : decode cX7_odds 122 = .ok (.isub, 1) := by decide +kernel
theorem dX7_odds_123 : decode cX7_odds 123 = .ok (.goto 5, 3) := by decide +kernel
theorem dX7_odds_126 : decode cX7_odds 126 = .ok (.iload 9, 2) := by decide +kernel
theorem dX7_odds_128 : decode cX7_odds 128 = .ok (.ireturn, 1) := by decide +kernel
theorem dX7_faced_0 : decode cX7_faced 0 = .ok (.iload_n 1, 1) := by decide +kernel
theorem dX7_faced_1 : decode cX7_faced 1 = .ok (.invokestatic 173, 3) := by decide +kernel
theorem dX7_faced_4 : decode cX7_faced 4 = .ok (.ifCond .eq 12, 3) := by decide +kernel
theorem dX7_faced_7 : decode cX7_faced 7 = .ok (.iload_n 2, 1) := by decide +kernel
theorem dX7_faced_8 : decode cX7_faced 8 = .ok (.iconst 0, 1) := by decide +kernel
theorem dX7_faced_9 : decode cX7_faced 9 = .ok (.iconst 1, 1) := by decide +kernel
theorem dX7_faced_10 : decode cX7_faced 10 = .ok (.invokestatic 51, 3) := by decide +kernel
theorem dX7_faced_13 : decode cX7_faced 13 = .ok (.ifCond .ne 5, 3) := by decide +kernel
theorem dX7_faced_16 : decode cX7_faced 16 = .ok (.iconst (-1), 1) := by decide +kernel
theorem dX7_faced_17 : decode cX7_faced 17 = .ok (.ireturn, 1) := by decide +kernel
theorem dX7_faced_18 : decode cX7_faced 18 = .ok (.aload_n 0, 1) := by decide +kernel
theorem dX7_faced_19 : decode cX7_faced 19 = .ok (.getfield 33, 3) := by decide +kernel
theorem dX7_faced_22 : decode cX7_faced 22 = .ok (.iload_n 1, 1) := by decide +kernel
theorem dX7_faced_23 : decode cX7_faced 23 = .ok (.iload_n 2, 1) := by decide +kernel
theorem dX7_faced_24 : decode cX7_faced 24 = .ok (.invokevirtual 195, 3) := by decide +kernel
theorem dX7_faced_27 : decode cX7_faced 27 = .ok (.ifCond .eq 13, 3) := by decide +kernel
theorem dX7_faced_30 : decode cX7_faced 30 = .ok (.aload_n 0, 1) := by decide +kernel
theorem dX7_faced_31 : decode cX7_faced 31 = .ok (.getfield 33, 3) := by decide +kernel
theorem dX7_faced_34 : decode cX7_faced 34 = .ok (.getfield 199, 3) := by decide +kernel
theorem dX7_faced_37 : decode cX7_faced 37 = .ok (.goto 5, 3) := by decide +kernel
theorem dX7_faced_40 : decode cX7_faced 40 = .ok (.bipush (-3), 2) := by decide +kernel
theorem dX7_faced_42 : decode cX7_faced 42 = .ok (.ireturn, 1) := by decide +kernel
theorem dX7_laws_0 : decode cX7_laws 0 = .ok (.iload_n 1, 1) := by decide +kernel
theorem dX7_laws_1 : decode cX7_laws 1 = .ok (.lookupswitch 43 #[(0, 27), (1, 35)], 27) := by decide +kernel
theorem dX7_laws_28 : decode cX7_laws 28 = .ok (.aload_n 0, 1) := by decide +kernel
theorem dX7_laws_29 : decode cX7_laws 29 = .ok (.getfield 33, 3) := by decide +kernel
theorem dX7_laws_32 : decode cX7_laws 32 = .ok (.invokevirtual 202, 3) := by decide +kernel
theorem dX7_laws_35 : decode cX7_laws 35 = .ok (.ireturn, 1) := by decide +kernel
theorem dX7_laws_36 : decode cX7_laws 36 = .ok (.aload_n 0, 1) := by decide +kernel
theorem dX7_laws_37 : decode cX7_laws 37 = .ok (.getfield 33, 3) := by decide +kernel
theorem dX7_laws_40 : decode cX7_laws 40 = .ok (.invokevirtual 205, 3) := by decide +kernel
theorem dX7_laws_43 : decode cX7_laws 43 = .ok (.ireturn, 1) := by decide +kernel
theorem dX7_laws_44 : decode cX7_laws 44 = .ok (.iconst (-1), 1) := by decide +kernel
theorem dX7_laws_45 : decode cX7_laws 45 = .ok (.ireturn, 1) := by decide +kernel
theorem dX7_tryNext_0 : decode cX7_tryNext 0 = .ok (.aload_n 0, 1) := by decide +kernel
theorem dX7_tryNext_1 : decode cX7_tryNext 1 = .ok (.getfield 33, 3) := by decide +kernel
theorem dX7_tryNext_4 : decode cX7_tryNext 4 = .ok (.invokevirtual 208, 3) := by decide +kernel
theorem dX7_tryNext_7 : decode cX7_tryNext 7 = .ok (.ireturn, 1) := by decide +kernel
theorem dX7_met_0 : decode cX7_met 0 = .ok (.iload_n 1, 1) := by decide +kernel
theorem dX7_met_1 : decode cX7_met 1 = .ok (.invokestatic 84, 3) := by decide +kernel
theorem dX7_met_4 : decode cX7_met 4 = .ok (.ifCond .eq 10, 3) := by decide +kernel
theorem dX7_met_7 : decode cX7_met 7 = .ok (.iload_n 2, 1) := by decide +kernel
theorem dX7_met_8 : decode cX7_met 8 = .ok (.invokestatic 173, 3) := by decide +kernel
theorem dX7_met_11 : decode cX7_met 11 = .ok (.ifCond .ne 5, 3) := by decide +kernel
theorem dX7_met_14 : decode cX7_met 14 = .ok (.iconst (-1), 1) := by decide +kernel
theorem dX7_met_15 : decode cX7_met 15 = .ok (.ireturn, 1) := by decide +kernel
theorem dX7_met_16 : decode cX7_met 16 = .ok (.aload_n 0, 1) := by decide +kernel
theorem dX7_met_17 : decode cX7_met 17 = .ok (.getfield 33, 3) := by decide +kernel
theorem dX7_met_20 : decode cX7_met 20 = .ok (.iload_n 1, 1) := by decide +kernel
theorem dX7_met_21 : decode cX7_met 21 = .ok (.iload_n 2, 1) := by decide +kernel
theorem dX7_met_22 : decode cX7_met 22 = .ok (.invokevirtual 211, 3) := by decide +kernel
theorem dX7_met_25 : decode cX7_met 25 = .ok (.ifCond .eq 13, 3) := by decide +kernel
theorem dX7_met_28 : decode cX7_met 28 = .ok (.aload_n 0, 1) := by decide +kernel
theorem dX7_met_29 : decode cX7_met 29 = .ok (.getfield 33, 3) := by decide +kernel
theorem dX7_met_32 : decode cX7_met 32 = .ok (.getfield 214, 3) := by decide +kernel
theorem dX7_met_35 : decode cX7_met 35 = .ok (.goto 5, 3) := by decide +kernel
theorem dX7_met_38 : decode cX7_met 38 = .ok (.bipush (-3), 2) := by decide +kernel
theorem dX7_met_40 : decode cX7_met 40 = .ok (.ireturn, 1) := by decide +kernel
theorem dX7_ways_0 : decode cX7_ways 0 = .ok (.iload_n 1, 1) := by decide +kernel
theorem dX7_ways_1 : decode cX7_ways 1 = .ok (.lookupswitch 65 #[(0, 27), (1, 35)], 27) := by decide +kernel
theorem dX7_ways_28 : decode cX7_ways 28 = .ok (.aload_n 0, 1) := by decide +kernel
theorem dX7_ways_29 : decode cX7_ways 29 = .ok (.getfield 33, 3) := by decide +kernel
theorem dX7_ways_32 : decode cX7_ways 32 = .ok (.invokevirtual 217, 3) := by decide +kernel
theorem dX7_ways_35 : decode cX7_ways 35 = .ok (.ireturn, 1) := by decide +kernel
theorem dX7_ways_36 : decode cX7_ways 36 = .ok (.aload_n 0, 1) := by decide +kernel
theorem dX7_ways_37 : decode cX7_ways 37 = .ok (.getfield 33, 3) := by decide +kernel
theorem dX7_ways_40 : decode cX7_ways 40 = .ok (.aload_n 0, 1) := by decide +kernel
theorem dX7_ways_41 : decode cX7_ways 41 = .ok (.getfield 33, 3) := by decide +kernel
theorem dX7_ways_44 : decode cX7_ways 44 = .ok (.invokevirtual 220, 3) := by decide +kernel
theorem dX7_ways_47 : decode cX7_ways 47 = .ok (.invokevirtual 223, 3) := by decide +kernel
theorem dX7_ways_50 : decode cX7_ways 50 = .ok (.ifCond .ne 13, 3) := by decide +kernel
theorem dX7_ways_53 : decode cX7_ways 53 = .ok (.aload_n 0, 1) := by decide +kernel
theorem dX7_ways_54 : decode cX7_ways 54 = .ok (.getfield 33, 3) := by decide +kernel
theorem dX7_ways_57 : decode cX7_ways 57 = .ok (.invokevirtual 220, 3) := by decide +kernel
theorem dX7_ways_60 : decode cX7_ways 60 = .ok (.goto 5, 3) := by decide +kernel
theorem dX7_ways_63 : decode cX7_ways 63 = .ok (.bipush (-9), 2) := by decide +kernel
theorem dX7_ways_65 : decode cX7_ways 65 = .ok (.ireturn, 1) := by decide +kernel
theorem dX7_ways_66 : decode cX7_ways 66 = .ok (.iconst (-1), 1) := by decide +kernel
theorem dX7_ways_67 : decode cX7_ways 67 = .ok (.ireturn, 1) := by decide +kernel
theorem dX7_falses_0 : decode cX7_falses 0 = .ok (.iload_n 1, 1) := by decide +kernel
theorem dX7_falses_1 : decode cX7_falses 1 = .ok (.lookupswitch 50 #[(0, 27), (1, 42)], 27) := by decide +kernel
theorem dX7_falses_28 : decode cX7_falses 28 = .ok (.aload_n 0, 1) := by decide +kernel
theorem dX7_falses_29 : decode cX7_falses 29 = .ok (.getfield 33, 3) := by decide +kernel
theorem dX7_falses_32 : decode cX7_falses 32 = .ok (.aload_n 0, 1) := by decide +kernel
theorem dX7_falses_33 : decode cX7_falses 33 = .ok (.getfield 33, 3) := by decide +kernel
theorem dX7_falses_36 : decode cX7_falses 36 = .ok (.invokevirtual 220, 3) := by decide +kernel
theorem dX7_falses_39 : decode cX7_falses 39 = .ok (.invokevirtual 223, 3) := by decide +kernel
theorem dX7_falses_42 : decode cX7_falses 42 = .ok (.ireturn, 1) := by decide +kernel
theorem dX7_falses_43 : decode cX7_falses 43 = .ok (.aload_n 0, 1) := by decide +kernel
theorem dX7_falses_44 : decode cX7_falses 44 = .ok (.getfield 33, 3) := by decide +kernel
theorem dX7_falses_47 : decode cX7_falses 47 = .ok (.invokevirtual 220, 3) := by decide +kernel
theorem dX7_falses_50 : decode cX7_falses 50 = .ok (.ireturn, 1) := by decide +kernel
theorem dX7_falses_51 : decode cX7_falses 51 = .ok (.iconst (-1), 1) := by decide +kernel
theorem dX7_falses_52 : decode cX7_falses 52 = .ok (.ireturn, 1) := by decide +kernel
theorem dX7_forget_0 : decode cX7_forget 0 = .ok (.aload_n 0, 1) := by decide +kernel
theorem dX7_forget_1 : decode cX7_forget 1 = .ok (.getfield 33, 3) := by decide +kernel
theorem dX7_forget_4 : decode cX7_forget 4 = .ok (.getfield 199, 3) := by decide +kernel
theorem dX7_forget_7 : decode cX7_forget 7 = .ok (.aload_n 0, 1) := by decide +kernel
theorem dX7_forget_8 : decode cX7_forget 8 = .ok (.getfield 33, 3) := by decide +kernel
theorem dX7_forget_11 : decode cX7_forget 11 = .ok (.getfield 214, 3) := by decide +kernel
theorem dX7_forget_14 : decode cX7_forget 14 = .ok (.iadd, 1) := by decide +kernel
theorem dX7_forget_15 : decode cX7_forget 15 = .ok (.istore_n 1, 1) := by decide +kernel
theorem dX7_forget_16 : decode cX7_forget 16 = .ok (.aload_n 0, 1) := by decide +kernel
theorem dX7_forget_17 : decode cX7_forget 17 = .ok (.getfield 33, 3) := by decide +kernel
theorem dX7_forget_20 : decode cX7_forget 20 = .ok (.invokevirtual 78, 3) := by decide +kernel
theorem dX7_forget_23 : decode cX7_forget 23 = .ok (.iload_n 1, 1) := by decide +kernel
theorem dX7_forget_24 : decode cX7_forget 24 = .ok (.ireturn, 1) := by decide +kernel
theorem dX7_mark_0 : decode cX7_mark 0 = .ok (.aload_n 0, 1) := by decide +kernel
theorem dX7_mark_1 : decode cX7_mark 1 = .ok (.iload_n 2, 1) := by decide +kernel
theorem dX7_mark_2 : decode cX7_mark 2 = .ok (.invokevirtual 95, 3) := by decide +kernel
theorem dX7_mark_5 : decode cX7_mark 5 = .ok (.ifCond .eq 19, 3) := by decide +kernel
theorem dX7_mark_8 : decode cX7_mark 8 = .ok (.aload_n 0, 1) := by decide +kernel
theorem dX7_mark_9 : decode cX7_mark 9 = .ok (.getfield 40, 3) := by decide +kernel
theorem dX7_mark_12 : decode cX7_mark 12 = .ok (.iload_n 1, 1) := by decide +kernel
theorem dX7_mark_13 : decode cX7_mark 13 = .ok (.aload_n 0, 1) := by decide +kernel
theorem dX7_mark_14 : decode cX7_mark 14 = .ok (.getfield 26, 3) := by decide +kernel
theorem dX7_mark_17 : decode cX7_mark 17 = .ok (.iload_n 2, 1) := by decide +kernel
theorem dX7_mark_18 : decode cX7_mark 18 = .ok (.invokevirtual 226, 3) := by decide +kernel
theorem dX7_mark_21 : decode cX7_mark 21 = .ok (.goto 5, 3) := by decide +kernel
theorem dX7_mark_24 : decode cX7_mark 24 = .ok (.ldc 127, 2) := by decide +kernel
theorem dX7_mark_26 : decode cX7_mark 26 = .ok (.ireturn, 1) := by decide +kernel
theorem dX7_keep_0 : decode cX7_keep 0 = .ok (.iload_n 1, 1) := by decide +kernel
theorem dX7_keep_1 : decode cX7_keep 1 = .ok (.iconst 0, 1) := by decide +kernel
theorem dX7_keep_2 : decode cX7_keep 2 = .ok (.aload_n 0, 1) := by decide +kernel
theorem dX7_keep_3 : decode cX7_keep 3 = .ok (.getfield 47, 3) := by decide +kernel
theorem dX7_keep_6 : decode cX7_keep 6 = .ok (.arraylength, 1) := by decide +kernel
theorem dX7_keep_7 : decode cX7_keep 7 = .ok (.iconst 1, 1) := by decide +kernel
theorem dX7_keep_8 : decode cX7_keep 8 = .ok (.isub, 1) := by decide +kernel
theorem dX7_keep_9 : decode cX7_keep 9 = .ok (.invokestatic 51, 3) := by decide +kernel
theorem dX7_keep_12 : decode cX7_keep 12 = .ok (.ifCond .ne 5, 3) := by decide +kernel
theorem dX7_keep_15 : decode cX7_keep 15 = .ok (.iconst (-1), 1) := by decide +kernel
theorem dX7_keep_16 : decode cX7_keep 16 = .ok (.ireturn, 1) := by decide +kernel
theorem dX7_keep_17 : decode cX7_keep 17 = .ok (.aload_n 0, 1) := by decide +kernel
theorem dX7_keep_18 : decode cX7_keep 18 = .ok (.getfield 47, 3) := by decide +kernel
theorem dX7_keep_21 : decode cX7_keep 21 = .ok (.iload_n 1, 1) := by decide +kernel
theorem dX7_keep_22 : decode cX7_keep 22 = .ok (.aaload, 1) := by decide +kernel
theorem dX7_keep_23 : decode cX7_keep 23 = .ok (.aload_n 0, 1) := by decide +kernel
theorem dX7_keep_24 : decode cX7_keep 24 = .ok (.getfield 26, 3) := by decide +kernel
theorem dX7_keep_27 : decode cX7_keep 27 = .ok (.getfield 87, 3) := by decide +kernel
theorem dX7_keep_30 : decode cX7_keep 30 = .ok (.invokevirtual 230, 3) := by decide +kernel
theorem dX7_keep_33 : decode cX7_keep 33 = .ok (.aload_n 0, 1) := by decide +kernel
theorem dX7_keep_34 : decode cX7_keep 34 = .ok (.dup, 1) := by decide +kernel
theorem dX7_keep_35 : decode cX7_keep 35 = .ok (.getfield 81, 3) := by decide +kernel
theorem dX7_keep_38 : decode cX7_keep 38 = .ok (.iconst 1, 1) := by decide +kernel
theorem dX7_keep_39 : decode cX7_keep 39 = .ok (.iload_n 1, 1) := by decide +kernel
theorem dX7_keep_40 : decode cX7_keep 40 = .ok (.ishl, 1) := by decide +kernel
theorem dX7_keep_41 : decode cX7_keep 41 = .ok (.ior, 1) := by decide +kernel
theorem dX7_keep_42 : decode cX7_keep 42 = .ok (.putfield 81, 3) := by decide +kernel
theorem dX7_keep_45 : decode cX7_keep 45 = .ok (.aload_n 0, 1) := by decide +kernel
theorem dX7_keep_46 : decode cX7_keep 46 = .ok (.getfield 26, 3) := by decide +kernel
theorem dX7_keep_49 : decode cX7_keep 49 = .ok (.getfield 87, 3) := by decide +kernel
theorem dX7_keep_52 : decode cX7_keep 52 = .ok (.getfield 111, 3) := by decide +kernel
theorem dX7_keep_55 : decode cX7_keep 55 = .ok (.ireturn, 1) := by decide +kernel
theorem dX7_back_0 : decode cX7_back 0 = .ok (.iload_n 1, 1) := by decide +kernel
theorem dX7_back_1 : decode cX7_back 1 = .ok (.iconst 0, 1) := by decide +kernel
theorem dX7_back_2 : decode cX7_back 2 = .ok (.aload_n 0, 1) := by decide +kernel
theorem dX7_back_3 : decode cX7_back 3 = .ok (.getfield 47, 3) := by decide +kernel
theorem dX7_back_6 : decode cX7_back 6 = .ok (.arraylength, 1) := by decide +kernel
theorem dX7_back_7 : decode cX7_back 7 = .ok (.iconst 1, 1) := by decide +kernel
theorem dX7_back_8 : decode cX7_back 8 = .ok (.isub, 1) := by decide +kernel
theorem dX7_back_9 : decode cX7_back 9 = .ok (.invokestatic 51, 3) := by decide +kernel
theorem dX7_back_12 : decode cX7_back 12 = .ok (.ifCond .ne 5, 3) := by decide +kernel
theorem dX7_back_15 : decode cX7_back 15 = .ok (.iconst (-1), 1) := by decide +kernel
theorem dX7_back_16 : decode cX7_back 16 = .ok (.ireturn, 1) := by decide +kernel
theorem dX7_back_17 : decode cX7_back 17 = .ok (.iload_n 1, 1) := by decide +kernel
theorem dX7_back_18 : decode cX7_back 18 = .ok (.aload_n 0, 1) := by decide +kernel
theorem dX7_back_19 : decode cX7_back 19 = .ok (.getfield 81, 3) := by decide +kernel
theorem dX7_back_22 : decode cX7_back 22 = .ok (.invokestatic 234, 3) := by decide +kernel
theorem dX7_back_25 : decode cX7_back 25 = .ok (.ifCond .ne 6, 3) := by decide +kernel
theorem dX7_back_28 : decode cX7_back 28 = .ok (.bipush (-2), 2) := by decide +kernel
theorem dX7_back_30 : decode cX7_back 30 = .ok (.ireturn, 1) := by decide +kernel
theorem dX7_back_31 : decode cX7_back 31 = .ok (.aload_n 0, 1) := by decide +kernel
theorem dX7_back_32 : decode cX7_back 32 = .ok (.getfield 26, 3) := by decide +kernel
theorem dX7_back_35 : decode cX7_back 35 = .ok (.getfield 87, 3) := by decide +kernel
theorem dX7_back_38 : decode cX7_back 38 = .ok (.aload_n 0, 1) := by decide +kernel
theorem dX7_back_39 : decode cX7_back 39 = .ok (.getfield 47, 3) := by decide +kernel
theorem dX7_back_42 : decode cX7_back 42 = .ok (.iload_n 1, 1) := by decide +kernel
theorem dX7_back_43 : decode cX7_back 43 = .ok (.aaload, 1) := by decide +kernel
theorem dX7_back_44 : decode cX7_back 44 = .ok (.invokevirtual 230, 3) := by decide +kernel
theorem dX7_back_47 : decode cX7_back 47 = .ok (.aload_n 0, 1) := by decide +kernel
theorem dX7_back_48 : decode cX7_back 48 = .ok (.getfield 26, 3) := by decide +kernel
theorem dX7_back_51 : decode cX7_back 51 = .ok (.getfield 87, 3) := by decide +kernel
theorem dX7_back_54 : decode cX7_back 54 = .ok (.getfield 111, 3) := by decide +kernel
theorem dX7_back_57 : decode cX7_back 57 = .ok (.ireturn, 1) := by decide +kernel
theorem dX7_count_0 : decode cX7_count 0 = .ok (.iload_n 1, 1) := by decide +kernel
theorem dX7_count_1 : decode cX7_count 1 = .ok (.tableswitch 111 0 6 #[43, 54, 65, 76, 84, 92, 103], 43) := by decide +kernel
theorem dX7_count_44 : decode cX7_count 44 = .ok (.aload_n 0, 1) := by decide +kernel
theorem dX7_count_45 : decode cX7_count 45 = .ok (.getfield 26, 3) := by decide +kernel
theorem dX7_count_48 : decode cX7_count 48 = .ok (.getfield 98, 3) := by decide +kernel
theorem dX7_count_51 : decode cX7_count 51 = .ok (.getfield 237, 3) := by decide +kernel
theorem dX7_count_54 : decode cX7_count 54 = .ok (.ireturn, 1) := by decide +kernel
theorem dX7_count_55 : decode cX7_count 55 = .ok (.aload_n 0, 1) := by decide +kernel
theorem dX7_count_56 : decode cX7_count 56 = .ok (.getfield 26, 3) := by decide +kernel
theorem dX7_count_59 : decode cX7_count 59 = .ok (.getfield 98, 3) := by decide +kernel
theorem dX7_count_62 : decode cX7_count 62 = .ok (.getfield 240, 3) := by decide +kernel
theorem dX7_count_65 : decode cX7_count 65 = .ok (.ireturn, 1) := by decide +kernel
theorem dX7_count_66 : decode cX7_count 66 = .ok (.aload_n 0, 1) := by decide +kernel
theorem dX7_count_67 : decode cX7_count 67 = .ok (.getfield 26, 3) := by decide +kernel
theorem dX7_count_70 : decode cX7_count 70 = .ok (.getfield 98, 3) := by decide +kernel
theorem dX7_count_73 : decode cX7_count 73 = .ok (.getfield 243, 3) := by decide +kernel
theorem dX7_count_76 : decode cX7_count 76 = .ok (.ireturn, 1) := by decide +kernel
theorem dX7_count_77 : decode cX7_count 77 = .ok (.aload_n 0, 1) := by decide +kernel
theorem dX7_count_78 : decode cX7_count 78 = .ok (.getfield 33, 3) := by decide +kernel
theorem dX7_count_81 : decode cX7_count 81 = .ok (.getfield 199, 3) := by decide +kernel
theorem dX7_count_84 : decode cX7_count 84 = .ok (.ireturn, 1) := by decide +kernel
theorem dX7_count_85 : decode cX7_count 85 = .ok (.aload_n 0, 1) := by decide +kernel
theorem dX7_count_86 : decode cX7_count 86 = .ok (.getfield 33, 3) := by decide +kernel
theorem dX7_count_89 : decode cX7_count 89 = .ok (.getfield 214, 3) := by decide +kernel
theorem dX7_count_92 : decode cX7_count 92 = .ok (.ireturn, 1) := by decide +kernel
theorem dX7_count_93 : decode cX7_count 93 = .ok (.aload_n 0, 1) := by decide +kernel
theorem dX7_count_94 : decode cX7_count 94 = .ok (.getfield 26, 3) := by decide +kernel
theorem dX7_count_97 : decode cX7_count 97 = .ok (.getfield 87, 3) := by decide +kernel
theorem dX7_count_100 : decode cX7_count 100 = .ok (.getfield 157, 3) := by decide +kernel
theorem dX7_count_103 : decode cX7_count 103 = .ok (.ireturn, 1) := by decide +kernel
theorem dX7_count_104 : decode cX7_count 104 = .ok (.aload_n 0, 1) := by decide +kernel
theorem dX7_count_105 : decode cX7_count 105 = .ok (.getfield 10, 3) := by decide +kernel
theorem dX7_count_108 : decode cX7_count 108 = .ok (.getfield 59, 3) := by decide +kernel
theorem dX7_count_111 : decode cX7_count 111 = .ok (.ireturn, 1) := by decide +kernel
theorem dX7_count_112 : decode cX7_count 112 = .ok (.iconst (-1), 1) := by decide +kernel
theorem dX7_count_113 : decode cX7_count 113 = .ok (.ireturn, 1) := by decide +kernel
theorem dX7_trace_0 : decode cX7_trace 0 = .ok (.aload_n 0, 1) := by decide +kernel
theorem dX7_trace_1 : decode cX7_trace 1 = .ok (.getfield 40, 3) := by decide +kernel
theorem dX7_trace_4 : decode cX7_trace 4 = .ok (.getfield 246, 3) := by decide +kernel
theorem dX7_trace_7 : decode cX7_trace 7 = .ok (.lreturn, 1) := by decide +kernel
theorem dX7_isCock_0 : decode cX7_isCock 0 = .ok (.iload_n 1, 1) := by decide +kernel
theorem dX7_isCock_1 : decode cX7_isCock 1 = .ok (.iconst 0, 1) := by decide +kernel
theorem dX7_isCock_2 : decode cX7_isCock 2 = .ok (.aload_n 0, 1) := by decide +kernel
theorem dX7_isCock_3 : decode cX7_isCock 3 = .ok (.getfield 26, 3) := by decide +kernel
theorem dX7_isCock_6 : decode cX7_isCock 6 = .ok (.getfield 98, 3) := by decide +kernel
theorem dX7_isCock_9 : decode cX7_isCock 9 = .ok (.getfield 237, 3) := by decide +kernel
theorem dX7_isCock_12 : decode cX7_isCock 12 = .ok (.iconst 1, 1) := by decide +kernel
theorem dX7_isCock_13 : decode cX7_isCock 13 = .ok (.isub, 1) := by decide +kernel
theorem dX7_isCock_14 : decode cX7_isCock 14 = .ok (.invokestatic 51, 3) := by decide +kernel
theorem dX7_isCock_17 : decode cX7_isCock 17 = .ok (.ireturn, 1) := by decide +kernel
theorem dX7_isOne_0 : decode cX7_isOne 0 = .ok (.iload_n 1, 1) := by decide +kernel
theorem dX7_isOne_1 : decode cX7_isOne 1 = .ok (.iconst 0, 1) := by decide +kernel
theorem dX7_isOne_2 : decode cX7_isOne 2 = .ok (.aload_n 0, 1) := by decide +kernel
theorem dX7_isOne_3 : decode cX7_isOne 3 = .ok (.getfield 26, 3) := by decide +kernel
theorem dX7_isOne_6 : decode cX7_isOne 6 = .ok (.getfield 98, 3) := by decide +kernel
theorem dX7_isOne_9 : decode cX7_isOne 9 = .ok (.getfield 240, 3) := by decide +kernel
theorem dX7_isOne_12 : decode cX7_isOne 12 = .ok (.iconst 1, 1) := by decide +kernel
theorem dX7_isOne_13 : decode cX7_isOne 13 = .ok (.isub, 1) := by decide +kernel
theorem dX7_isOne_14 : decode cX7_isOne 14 = .ok (.invokestatic 51, 3) := by decide +kernel
theorem dX7_isOne_17 : decode cX7_isOne 17 = .ok (.ireturn, 1) := by decide +kernel
theorem dX7_isCell_0 : decode cX7_isCell 0 = .ok (.iload_n 0, 1) := by decide +kernel
theorem dX7_isCell_1 : decode cX7_isCell 1 = .ok (.iconst 0, 1) := by decide +kernel
theorem dX7_isCell_2 : decode cX7_isCell 2 = .ok (.bipush 23, 2) := by decide +kernel
theorem dX7_isCell_4 : decode cX7_isCell 4 = .ok (.invokestatic 51, 3) := by decide +kernel
theorem dX7_isCell_7 : decode cX7_isCell 7 = .ok (.ireturn, 1) := by decide +kernel
theorem dX7_isHour_0 : decode cX7_isHour 0 = .ok (.iload_n 0, 1) := by decide +kernel
theorem dX7_isHour_1 : decode cX7_isHour 1 = .ok (.iconst 0, 1) := by decide +kernel
theorem dX7_isHour_2 : decode cX7_isHour 2 = .ok (.bipush 29, 2) := by decide +kernel
theorem dX7_isHour_4 : decode cX7_isHour 4 = .ok (.invokestatic 51, 3) := by decide +kernel
theorem dX7_isHour_7 : decode cX7_isHour 7 = .ok (.ireturn, 1) := by decide +kernel
theorem dX7_isWithin_0 : decode cX7_isWithin 0 = .ok (.iload_n 1, 1) := by decide +kernel
theorem dX7_isWithin_1 : decode cX7_isWithin 1 = .ok (.iload_n 0, 1) := by decide +kernel
theorem dX7_isWithin_2 : decode cX7_isWithin 2 = .ok (.if_icmp .gt 12, 3) := by decide +kernel
theorem dX7_isWithin_5 : decode cX7_isWithin 5 = .ok (.iload_n 0, 1) := by decide +kernel
theorem dX7_isWithin_6 : decode cX7_isWithin 6 = .ok (.iload_n 2, 1) := by decide +kernel
theorem dX7_isWithin_7 : decode cX7_isWithin 7 = .ok (.if_icmp .gt 7, 3) := by decide +kernel
theorem dX7_isWithin_10 : decode cX7_isWithin 10 = .ok (.iconst 1, 1) := by decide +kernel
theorem dX7_isWithin_11 : decode cX7_isWithin 11 = .ok (.goto 4, 3) := by decide +kernel
theorem dX7_isWithin_14 : decode cX7_isWithin 14 = .ok (.iconst 0, 1) := by decide +kernel
theorem dX7_isWithin_15 : decode cX7_isWithin 15 = .ok (.ireturn, 1) := by decide +kernel
theorem dX7_isIn_0 : decode cX7_isIn 0 = .ok (.iload_n 1, 1) := by decide +kernel
theorem dX7_isIn_1 : decode cX7_isIn 1 = .ok (.iload_n 0, 1) := by decide +kernel
theorem dX7_isIn_2 : decode cX7_isIn 2 = .ok (.ishr, 1) := by decide +kernel
theorem dX7_isIn_3 : decode cX7_isIn 3 = .ok (.iconst 1, 1) := by decide +kernel
theorem dX7_isIn_4 : decode cX7_isIn 4 = .ok (.iand, 1) := by decide +kernel
theorem dX7_isIn_5 : decode cX7_isIn 5 = .ok (.iconst 1, 1) := by decide +kernel
theorem dX7_isIn_6 : decode cX7_isIn 6 = .ok (.if_icmp .ne 7, 3) := by decide +kernel
theorem dX7_isIn_9 : decode cX7_isIn 9 = .ok (.iconst 1, 1) := by decide +kernel
theorem dX7_isIn_10 : decode cX7_isIn 10 = .ok (.goto 4, 3) := by decide +kernel
theorem dX7_isIn_13 : decode cX7_isIn 13 = .ok (.iconst 0, 1) := by decide +kernel
theorem dX7_isIn_14 : decode cX7_isIn 14 = .ok (.ireturn, 1) := by decide +kernel
theorem dX7_sideBy_0 : decode cX7_sideBy 0 = .ok (.iload_n 1, 1) := by decide +kernel
theorem dX7_sideBy_1 : decode cX7_sideBy 1 = .ok (.ifCond .gt 5, 3) := by decide +kernel
theorem dX7_sideBy_4 : decode cX7_sideBy 4 = .ok (.iload_n 0, 1) := by decide +kernel
theorem dX7_sideBy_5 : decode cX7_sideBy 5 = .ok (.ireturn, 1) := by decide +kernel
theorem dX7_sideBy_6 : decode cX7_sideBy 6 = .ok (.iload_n 2, 1) := by decide +kernel
theorem dX7_sideBy_7 : decode cX7_sideBy 7 = .ok (.iload_n 1, 1) := by decide +kernel
theorem dX7_sideBy_8 : decode cX7_sideBy 8 = .ok (.idiv, 1) := by decide +kernel
theorem dX7_sideBy_9 : decode cX7_sideBy 9 = .ok (.iconst 2, 1) := by decide +kernel
theorem dX7_sideBy_10 : decode cX7_sideBy 10 = .ok (.irem, 1) := by decide +kernel
theorem dX7_sideBy_11 : decode cX7_sideBy 11 = .ok (.iconst 1, 1) := by decide +kernel
theorem dX7_sideBy_12 : decode cX7_sideBy 12 = .ok (.if_icmp .ne 7, 3) := by decide +kernel
theorem dX7_sideBy_15 : decode cX7_sideBy 15 = .ok (.iconst 1, 1) := by decide +kernel
theorem dX7_sideBy_16 : decode cX7_sideBy 16 = .ok (.goto 4, 3) := by decide +kernel
theorem dX7_sideBy_19 : decode cX7_sideBy 19 = .ok (.iconst 0, 1) := by decide +kernel
theorem dX7_sideBy_20 : decode cX7_sideBy 20 = .ok (.istore_n 3, 1) := by decide +kernel
theorem dX7_sideBy_21 : decode cX7_sideBy 21 = .ok (.iload_n 3, 1) := by decide +kernel
theorem dX7_sideBy_22 : decode cX7_sideBy 22 = .ok (.ifCond .eq 9, 3) := by decide +kernel
theorem dX7_sideBy_25 : decode cX7_sideBy 25 = .ok (.iconst 1, 1) := by decide +kernel
theorem dX7_sideBy_26 : decode cX7_sideBy 26 = .ok (.iload_n 0, 1) := by decide +kernel
theorem dX7_sideBy_27 : decode cX7_sideBy 27 = .ok (.isub, 1) := by decide +kernel
theorem dX7_sideBy_28 : decode cX7_sideBy 28 = .ok (.goto 4, 3) := by decide +kernel
theorem dX7_sideBy_31 : decode cX7_sideBy 31 = .ok (.iload_n 0, 1) := by decide +kernel
theorem dX7_sideBy_32 : decode cX7_sideBy 32 = .ok (.ireturn, 1) := by decide +kernel
theorem dX7_placeBy_0 : decode cX7_placeBy 0 = .ok (.iload_n 0, 1) := by decide +kernel
theorem dX7_placeBy_1 : decode cX7_placeBy 1 = .ok (.iload_n 2, 1) := by decide +kernel
theorem dX7_placeBy_2 : decode cX7_placeBy 2 = .ok (.iload_n 1, 1) := by decide +kernel
theorem dX7_placeBy_3 : decode cX7_placeBy 3 = .ok (.imul, 1) := by decide +kernel
theorem dX7_placeBy_4 : decode cX7_placeBy 4 = .ok (.iadd, 1) := by decide +kernel
theorem dX7_placeBy_5 : decode cX7_placeBy 5 = .ok (.ireturn, 1) := by decide +kernel
theorem dX7_power_0 : decode cX7_power 0 = .ok (.iconst 1, 1) := by decide +kernel
theorem dX7_power_1 : decode cX7_power 1 = .ok (.istore_n 2, 1) := by decide +kernel
theorem dX7_power_2 : decode cX7_power 2 = .ok (.iconst 0, 1) := by decide +kernel
theorem dX7_power_3 : decode cX7_power 3 = .ok (.istore_n 3, 1) := by decide +kernel
theorem dX7_power_4 : decode cX7_power 4 = .ok (.iload_n 3, 1) := by decide +kernel
theorem dX7_power_5 : decode cX7_power 5 = .ok (.iload_n 1, 1) := by decide +kernel
theorem dX7_power_6 : decode cX7_power 6 = .ok (.if_icmp .ge 13, 3) := by decide +kernel
theorem dX7_power_9 : decode cX7_power 9 = .ok (.iload_n 2, 1) := by decide +kernel
theorem dX7_power_10 : decode cX7_power 10 = .ok (.iload_n 0, 1) := by decide +kernel
theorem dX7_power_11 : decode cX7_power 11 = .ok (.imul, 1) := by decide +kernel
theorem dX7_power_12 : decode cX7_power 12 = .ok (.istore_n 2, 1) := by decide +kernel
theorem dX7_power_13 : decode cX7_power 13 = .ok (.iinc 3 1, 3) := by decide +kernel
theorem dX7_power_16 : decode cX7_power 16 = .ok (.goto (-12), 3) := by decide +kernel
theorem dX7_power_19 : decode cX7_power 19 = .ok (.iload_n 2, 1) := by decide +kernel
theorem dX7_power_20 : decode cX7_power 20 = .ok (.ireturn, 1) := by decide +kernel
theorem dX7_sharedWithTen_0 : decode cX7_sharedWithTen 0 = .ok (.bipush 10, 2) := by decide +kernel
theorem dX7_sharedWithTen_2 : decode cX7_sharedWithTen 2 = .ok (.istore_n 1, 1) := by decide +kernel
theorem dX7_sharedWithTen_3 : decode cX7_sharedWithTen 3 = .ok (.iload_n 1, 1) := by decide +kernel
theorem dX7_sharedWithTen_4 : decode cX7_sharedWithTen 4 = .ok (.iconst 1, 1) := by decide +kernel
theorem dX7_sharedWithTen_5 : decode cX7_sharedWithTen 5 = .ok (.if_icmp .le 24, 3) := by decide +kernel
theorem dX7_sharedWithTen_8 : decode cX7_sharedWithTen 8 = .ok (.bipush 10, 2) := by decide +kernel
theorem dX7_sharedWithTen_10 : decode cX7_sharedWithTen 10 = .ok (.iload_n 1, 1) := by decide +kernel
theorem dX7_sharedWithTen_11 : decode cX7_sharedWithTen 11 = .ok (.irem, 1) := by decide +kernel
theorem dX7_sharedWithTen_12 : decode cX7_sharedWithTen 12 = .ok (.ifCond .ne 11, 3) := by decide +kernel
theorem dX7_sharedWithTen_15 : decode cX7_sharedWithTen 15 = .ok (.iload_n 0, 1) := by decide +kernel
theorem dX7_sharedWithTen_16 : decode cX7_sharedWithTen 16 = .ok (.iload_n 1, 1) := by decide +kernel
theorem dX7_sharedWithTen_17 : decode cX7_sharedWithTen 17 = .ok (.irem, 1) := by decide +kernel
theorem dX7_sharedWithTen_18 : decode cX7_sharedWithTen 18 = .ok (.ifCond .ne 5, 3) := by decide +kernel
theorem dX7_sharedWithTen_21 : decode cX7_sharedWithTen 21 = .ok (.iload_n 1, 1) := by decide +kernel
theorem dX7_sharedWithTen_22 : decode cX7_sharedWithTen 22 = .ok (.ireturn, 1) := by decide +kernel
theorem dX7_sharedWithTen_23 : decode cX7_sharedWithTen 23 = .ok (.iinc 1 (-1), 3) := by decide +kernel
theorem dX7_sharedWithTen_26 : decode cX7_sharedWithTen 26 = .ok (.goto (-23), 3) := by decide +kernel
theorem dX7_sharedWithTen_29 : decode cX7_sharedWithTen 29 = .ok (.iconst 1, 1) := by decide +kernel
theorem dX7_sharedWithTen_30 : decode cX7_sharedWithTen 30 = .ok (.ireturn, 1) := by decide +kernel
theorem dX7_copyRows_0 : decode cX7_copyRows 0 = .ok (.iconst 0, 1) := by decide +kernel
theorem dX7_copyRows_1 : decode cX7_copyRows 1 = .ok (.istore_n 2, 1) := by decide +kernel
theorem dX7_copyRows_2 : decode cX7_copyRows 2 = .ok (.iload_n 2, 1) := by decide +kernel
theorem dX7_copyRows_3 : decode cX7_copyRows 3 = .ok (.aload_n 0, 1) := by decide +kernel
theorem dX7_copyRows_4 : decode cX7_copyRows 4 = .ok (.arraylength, 1) := by decide +kernel
theorem dX7_copyRows_5 : decode cX7_copyRows 5 = .ok (.if_icmp .ge 37, 3) := by decide +kernel
theorem dX7_copyRows_8 : decode cX7_copyRows 8 = .ok (.iload_n 2, 1) := by decide +kernel
theorem dX7_copyRows_9 : decode cX7_copyRows 9 = .ok (.aload_n 1, 1) := by decide +kernel
theorem dX7_copyRows_10 : decode cX7_copyRows 10 = .ok (.arraylength, 1) := by decide +kernel
theorem dX7_copyRows_11 : decode cX7_copyRows 11 = .ok (.if_icmp .ge 31, 3) := by decide +kernel
theorem dX7_copyRows_14 : decode cX7_copyRows 14 = .ok (.aload_n 0, 1) := by decide +kernel
theorem dX7_copyRows_15 : decode cX7_copyRows 15 = .ok (.iload_n 2, 1) := by decide +kernel
theorem dX7_copyRows_16 : decode cX7_copyRows 16 = .ok (.aaload, 1) := by decide +kernel
theorem dX7_copyRows_17 : decode cX7_copyRows 17 = .ok (.iconst 0, 1) := by decide +kernel
theorem dX7_copyRows_18 : decode cX7_copyRows 18 = .ok (.aload_n 1, 1) := by decide +kernel
theorem dX7_copyRows_19 : decode cX7_copyRows 19 = .ok (.iload_n 2, 1) := by decide +kernel
theorem dX7_copyRows_20 : decode cX7_copyRows 20 = .ok (.aaload, 1) := by decide +kernel
theorem dX7_copyRows_21 : decode cX7_copyRows 21 = .ok (.iconst 0, 1) := by decide +kernel
theorem dX7_copyRows_22 : decode cX7_copyRows 22 = .ok (.aload_n 0, 1) := by decide +kernel
theorem dX7_copyRows_23 : decode cX7_copyRows 23 = .ok (.iload_n 2, 1) := by decide +kernel
theorem dX7_copyRows_24 : decode cX7_copyRows 24 = .ok (.aaload, 1) := by decide +kernel
theorem dX7_copyRows_25 : decode cX7_copyRows 25 = .ok (.arraylength, 1) := by decide +kernel
theorem dX7_copyRows_26 : decode cX7_copyRows 26 = .ok (.aload_n 1, 1) := by decide +kernel
theorem dX7_copyRows_27 : decode cX7_copyRows 27 = .ok (.iload_n 2, 1) := by decide +kernel
theorem dX7_copyRows_28 : decode cX7_copyRows 28 = .ok (.aaload, 1) := by decide +kernel
theorem dX7_copyRows_29 : decode cX7_copyRows 29 = .ok (.arraylength, 1) := by decide +kernel
theorem dX7_copyRows_30 : decode cX7_copyRows 30 = .ok (.invokestatic 250, 3) := by decide +kernel
theorem dX7_copyRows_33 : decode cX7_copyRows 33 = .ok (.invokestatic 255, 3) := by decide +kernel
theorem dX7_copyRows_36 : decode cX7_copyRows 36 = .ok (.iinc 2 1, 3) := by decide +kernel
theorem dX7_copyRows_39 : decode cX7_copyRows 39 = .ok (.goto (-37), 3) := by decide +kernel
theorem dX7_copyRows_42 : decode cX7_copyRows 42 = .ok (.return_, 1) := by decide +kernel
theorem dX8_init_0 : decode cX8_init 0 = .ok (.aload_n 0, 1) := by decide +kernel
theorem dX8_init_1 : decode cX8_init 1 = .ok (.invokespecial 1, 3) := by decide +kernel
theorem dX8_init_4 : decode cX8_init 4 = .ok (.aload_n 0, 1) := by decide +kernel
theorem dX8_init_5 : decode cX8_init 5 = .ok (.iconst 5, 1) := by decide +kernel
theorem dX8_init_6 : decode cX8_init 6 = .ok (.newarray .int, 2) := by decide +kernel
theorem dX8_init_8 : decode cX8_init 8 = .ok (.putfield 7, 3) := by decide +kernel
theorem dX8_init_11 : decode cX8_init 11 = .ok (.aload_n 0, 1) := by decide +kernel
theorem dX8_init_12 : decode cX8_init 12 = .ok (.iconst 5, 1) := by decide +kernel
theorem dX8_init_13 : decode cX8_init 13 = .ok (.newarray .int, 2) := by decide +kernel
theorem dX8_init_15 : decode cX8_init 15 = .ok (.putfield 13, 3) := by decide +kernel
theorem dX8_init_18 : decode cX8_init 18 = .ok (.aload_n 0, 1) := by decide +kernel
theorem dX8_init_19 : decode cX8_init 19 = .ok (.iconst 5, 1) := by decide +kernel
theorem dX8_init_20 : decode cX8_init 20 = .ok (.newarray .int, 2) := by decide +kernel
theorem dX8_init_22 : decode cX8_init 22 = .ok (.putfield 16, 3) := by decide +kernel
theorem dX8_init_25 : decode cX8_init 25 = .ok (.aload_n 0, 1) := by decide +kernel
theorem dX8_init_26 : decode cX8_init 26 = .ok (.iconst 5, 1) := by decide +kernel
theorem dX8_init_27 : decode cX8_init 27 = .ok (.newarray .int, 2) := by decide +kernel
theorem dX8_init_29 : decode cX8_init 29 = .ok (.putfield 19, 3) := by decide +kernel
theorem dX8_init_32 : decode cX8_init 32 = .ok (.aload_n 0, 1) := by decide +kernel
theorem dX8_init_33 : decode cX8_init 33 = .ok (.iconst 4, 1) := by decide +kernel
theorem dX8_init_34 : decode cX8_init 34 = .ok (.newarray .int, 2) := by decide +kernel
theorem dX8_init_36 : decode cX8_init 36 = .ok (.putfield 22, 3) := by decide +kernel
theorem dX8_init_39 : decode cX8_init 39 = .ok (.aload_n 0, 1) := by decide +kernel
theorem dX8_init_40 : decode cX8_init 40 = .ok (.iconst 4, 1) := by decide +kernel
theorem dX8_init_41 : decode cX8_init 41 = .ok (.newarray .int, 2) := by decide +kernel
theorem dX8_init_43 : decode cX8_init 43 = .ok (.putfield 25, 3) := by decide +kernel
theorem dX8_init_46 : decode cX8_init 46 = .ok (.aload_n 0, 1) := by decide +kernel
theorem dX8_init_47 : decode cX8_init 47 = .ok (.bipush 12, 2) := by decide +kernel
theorem dX8_init_49 : decode cX8_init 49 = .ok (.newarray .int, 2) := by decide +kernel
theorem dX8_init_51 : decode cX8_init 51 = .ok (.putfield 28, 3) := by decide +kernel
theorem dX8_init_54 : decode cX8_init 54 = .ok (.aload_n 0, 1) := by decide +kernel
theorem dX8_init_55 : decode cX8_init 55 = .ok (.sipush 507, 3) := by decide +kernel
theorem dX8_init_58 : decode cX8_init 58 = .ok (.newarray .int, 2) := by decide +kernel
theorem dX8_init_60 : decode cX8_init 60 = .ok (.putfield 31, 3) := by decide +kernel
theorem dX8_init_63 : decode cX8_init 63 = .ok (.aload_n 0, 1) := by decide +kernel
theorem dX8_init_64 : decode cX8_init 64 = .ok (.sipush 1014, 3) := by decide +kernel
theorem dX8_init_67 : decode cX8_init 67 = .ok (.newarray .int, 2) := by decide +kernel
theorem dX8_init_69 : decode cX8_init 69 = .ok (.putfield 34, 3) := by decide +kernel
theorem dX8_init_72 : decode cX8_init 72 = .ok (.aload_n 0, 1) := by decide +kernel
theorem dX8_init_73 : decode cX8_init 73 = .ok (.iconst 2, 1) := by decide +kernel
theorem dX8_init_74 : decode cX8_init 74 = .ok (.newarray .boolean, 2) := by decide +kernel
theorem dX8_init_76 : decode cX8_init 76 = .ok (.putfield 37, 3) := by decide +kernel
theorem dX8_init_79 : decode cX8_init 79 = .ok (.aload_n 0, 1) := by decide +kernel
theorem dX8_init_80 : decode cX8_init 80 = .ok (.bipush 12, 2) := by decide +kernel
theorem dX8_init_82 : decode cX8_init 82 = .ok (.newarray .int, 2) := by decide +kernel
theorem dX8_init_84 : decode cX8_init 84 = .ok (.putfield 41, 3) := by decide +kernel
theorem dX8_init_87 : decode cX8_init 87 = .ok (.aload_n 0, 1) := by decide +kernel
theorem dX8_init_88 : decode cX8_init 88 = .ok (.bipush 12, 2) := by decide +kernel
theorem dX8_init_90 : decode cX8_init 90 = .ok (.newarray .int, 2) := by decide +kernel
theorem dX8_init_92 : decode cX8_init 92 = .ok (.putfield 44, 3) := by decide +kernel
theorem dX8_init_95 : decode cX8_init 95 = .ok (.aload_n 0, 1) := by decide +kernel
theorem dX8_init_96 : decode cX8_init 96 = .ok (.sipush 150, 3) := by decide +kernel
theorem dX8_init_99 : decode cX8_init 99 = .ok (.newarray .int, 2) := by decide +kernel
theorem dX8_init_101 : decode cX8_init 101 = .ok (.putfield 47, 3) := by decide +kernel
theorem dX8_init_104 : decode cX8_init 104 = .ok (.aload_n 0, 1) := by decide +kernel
theorem dX8_init_105 : decode cX8_init 105 = .ok (.bipush 24, 2) := by decide +kernel
theorem dX8_init_107 : decode cX8_init 107 = .ok (.newarray .int, 2) := by decide +kernel
theorem dX8_init_109 : decode cX8_init 109 = .ok (.putfield 50, 3) := by decide +kernel
theorem dX8_init_112 : decode cX8_init 112 = .ok (.aload_n 0, 1) := by decide +kernel
theorem dX8_init_113 : decode cX8_init 113 = .ok (.iconst 5, 1) := by decide +kernel
theorem dX8_init_114 : decode cX8_init 114 = .ok (.newarray .int, 2) := by decide +kernel
theorem dX8_init_116 : decode cX8_init 116 = .ok (.putfield 53, 3) := by decide +kernel
theorem dX8_init_119 : decode cX8_init 119 = .ok (.aload_n 0, 1) := by decide +kernel
theorem dX8_init_120 : decode cX8_init 120 = .ok (.iconst 5, 1) := by decide +kernel
theorem dX8_init_121 : decode cX8_init 121 = .ok (.newarray .int, 2) := by decide +kernel
theorem dX8_init_123 : decode cX8_init 123 = .ok (.putfield 56, 3) := by decide +kernel
theorem dX8_init_126 : decode cX8_init 126 = .ok (.aload_n 0, 1) := by decide +kernel
theorem dX8_init_127 : decode cX8_init 127 = .ok (.iconst 5, 1) := by decide +kernel
theorem dX8_init_128 : decode cX8_init 128 = .ok (.newarray .int, 2) := by decide +kernel
theorem dX8_init_130 : decode cX8_init 130 = .ok (.putfield 59, 3) := by decide +kernel
theorem dX8_init_133 : decode cX8_init 133 = .ok (.aload_n 0, 1) := by decide +kernel
theorem dX8_init_134 : decode cX8_init 134 = .ok (.iconst 5, 1) := by decide +kernel
theorem dX8_init_135 : decode cX8_init 135 = .ok (.newarray .int, 2) := by decide +kernel
theorem dX8_init_137 : decode cX8_init 137 = .ok (.putfield 62, 3) := by decide +kernel
theorem dX8_init_140 : decode cX8_init 140 = .ok (.aload_n 0, 1) := by decide +kernel
theorem dX8_init_141 : decode cX8_init 141 = .ok (.iconst 4, 1) := by decide +kernel
theorem dX8_init_142 : decode cX8_init 142 = .ok (.newarray .int, 2) := by decide +kernel
theorem dX8_init_144 : decode cX8_init 144 = .ok (.putfield 65, 3) := by decide +kernel
theorem dX8_init_147 : decode cX8_init 147 = .ok (.aload_n 0, 1) := by decide +kernel
theorem dX8_init_148 : decode cX8_init 148 = .ok (.iconst 4, 1) := by decide +kernel
theorem dX8_init_149 : decode cX8_init 149 = .ok (.newarray .int, 2) := by decide +kernel
theorem dX8_init_151 : decode cX8_init 151 = .ok (.putfield 68, 3) := by decide +kernel
theorem dX8_init_154 : decode cX8_init 154 = .ok (.aload_n 0, 1) := by decide +kernel
theorem dX8_init_155 : decode cX8_init 155 = .ok (.bipush 12, 2) := by decide +kernel
theorem dX8_init_157 : decode cX8_init 157 = .ok (.newarray .int, 2) := by decide +kernel
theorem dX8_init_159 : decode cX8_init 159 = .ok (.putfield 71, 3) := by decide +kernel
theorem dX8_init_162 : decode cX8_init 162 = .ok (.return_, 1) := by decide +kernel
theorem dX8_in_0 : decode cX8_in 0 = .ok (.iload_n 0, 1) := by decide +kernel
theorem dX8_in_1 : decode cX8_in 1 = .ok (.iload_n 1, 1) := by decide +kernel
theorem dX8_in_2 : decode cX8_in 2 = .ok (.if_icmp .lt 12, 3) := by decide +kernel
theorem dX8_in_5 : decode cX8_in 5 = .ok (.iload_n 0, 1) := by decide +kernel
theorem dX8_in_6 : decode cX8_in 6 = .ok (.iload_n 2, 1) := by decide +kernel
theorem dX8_in_7 : decode cX8_in 7 = .ok (.if_icmp .gt 7, 3) := by decide +kernel
theorem dX8_in_10 : decode cX8_in 10 = .ok (.iconst 1, 1) := by decide +kernel
theorem dX8_in_11 : decode cX8_in 11 = .ok (.goto 4, 3) := by decide +kernel
theorem dX8_in_14 : decode cX8_in 14 = .ok (.iconst 0, 1) := by decide +kernel
theorem dX8_in_15 : decode cX8_in 15 = .ok (.ireturn, 1) := by decide +kernel
theorem dX8_has_0 : decode cX8_has 0 = .ok (.iload_n 0, 1) := by decide +kernel
theorem dX8_has_1 : decode cX8_has 1 = .ok (.iload_n 1, 1) := by decide +kernel
theorem dX8_has_2 : decode cX8_has 2 = .ok (.ishr, 1) := by decide +kernel
theorem dX8_has_3 : decode cX8_has 3 = .ok (.iconst 1, 1) := by decide +kernel
theorem dX8_has_4 : decode cX8_has 4 = .ok (.iand, 1) := by decide +kernel
theorem dX8_has_5 : decode cX8_has 5 = .ok (.iconst 1, 1) := by decide +kernel
theorem dX8_has_6 : decode cX8_has 6 = .ok (.if_icmp .ne 7, 3) := by decide +kernel
theorem dX8_has_9 : decode cX8_has 9 = .ok (.iconst 1, 1) := by decide +kernel
theorem dX8_has_10 : decode cX8_has 10 = .ok (.goto 4, 3) := by decide +kernel
theorem dX8_has_13 : decode cX8_has 13 = .ok (.iconst 0, 1) := by decide +kernel
theorem dX8_has_14 : decode cX8_has 14 = .ok (.ireturn, 1) := by decide +kernel
theorem dX8_bits_0 : decode cX8_bits 0 = .ok (.iconst 0, 1) := by decide +kernel
theorem dX8_bits_1 : decode cX8_bits 1 = .ok (.istore_n 1, 1) := by decide +kernel
theorem dX8_bits_2 : decode cX8_bits 2 = .ok (.iconst 0, 1) := by decide +kernel
theorem dX8_bits_3 : decode cX8_bits 3 = .ok (.istore_n 2, 1) := by decide +kernel
theorem dX8_bits_4 : decode cX8_bits 4 = .ok (.iload_n 2, 1) := by decide +kernel
theorem dX8_bits_5 : decode cX8_bits 5 = .ok (.bipush 30, 2) := by decide +kernel
theorem dX8_bits_7 : decode cX8_bits 7 = .ok (.if_icmp .ge 17, 3) := by decide +kernel
theorem dX8_bits_10 : decode cX8_bits 10 = .ok (.iload_n 1, 1) := by decide +kernel
theorem dX8_bits_11 : decode cX8_bits 11 = .ok (.iload_n 0, 1) := by decide +kernel
theorem dX8_bits_12 : decode cX8_bits 12 = .ok (.iload_n 2, 1) := by decide +kernel
theorem dX8_bits_13 : decode cX8_bits 13 = .ok (.ishr, 1) := by decide +kernel
theorem dX8_bits_14 : decode cX8_bits 14 = .ok (.iconst 1, 1) := by decide +kernel
theorem dX8_bits_15 : decode cX8_bits 15 = .ok (.iand, 1) := by decide +kernel
theorem dX8_bits_16 : decode cX8_bits 16 = .ok (.iadd, 1) := by decide +kernel
theorem dX8_bits_17 : decode cX8_bits 17 = .ok (.istore_n 1, 1) := by decide +kernel
theorem dX8_bits_18 : decode cX8_bits 18 = .ok (.iinc 2 1, 3) := by decide +kernel
theorem dX8_bits_21 : decode cX8_bits 21 = .ok (.goto (-17), 3) := by decide +kernel
theorem dX8_bits_24 : decode cX8_bits 24 = .ok (.iload_n 1, 1) := by decide +kernel
theorem dX8_bits_25 : decode cX8_bits 25 = .ok (.ireturn, 1) := by decide +kernel
theorem dX8_isCock_0 : decode cX8_isCock 0 = .ok (.iload_n 1, 1) := by decide +kernel
theorem dX8_isCock_1 : decode cX8_isCock 1 = .ok (.iconst 0, 1) := by decide +kernel
theorem dX8_isCock_2 : decode cX8_isCock 2 = .ok (.aload_n 0, 1) := by decide +kernel
theorem dX8_isCock_3 : decode cX8_isCock 3 = .ok (.getfield 74, 3) := by decide +kernel
theorem dX8_isCock_6 : decode cX8_isCock 6 = .ok (.iconst 1, 1) := by decide +kernel
theorem dX8_isCock_7 : decode cX8_isCock 7 = .ok (.isub, 1) := by decide +kernel
theorem dX8_isCock_8 : decode cX8_isCock 8 = .ok (.invokestatic 78, 3) := by decide +kernel
theorem dX8_isCock_11 : decode cX8_isCock 11 = .ok (.ireturn, 1) := by decide +kernel
theorem dX8_isOne_0 : decode cX8_isOne 0 = .ok (.iload_n 1, 1) := by decide +kernel
theorem dX8_isOne_1 : decode cX8_isOne 1 = .ok (.iconst 0, 1) := by decide +kernel
theorem dX8_isOne_2 : decode cX8_isOne 2 = .ok (.aload_n 0, 1) := by decide +kernel
theorem dX8_isOne_3 : decode cX8_isOne 3 = .ok (.getfield 82, 3) := by decide +kernel
theorem dX8_isOne_6 : decode cX8_isOne 6 = .ok (.iconst 1, 1) := by decide +kernel
theorem dX8_isOne_7 : decode cX8_isOne 7 = .ok (.isub, 1) := by decide +kernel
theorem dX8_isOne_8 : decode cX8_isOne 8 = .ok (.invokestatic 78, 3) := by decide +kernel
theorem dX8_isOne_11 : decode cX8_isOne 11 = .ok (.ireturn, 1) := by decide +kernel
theorem dX8_isCell_0 : decode cX8_isCell 0 = .ok (.iload_n 0, 1) := by decide +kernel
theorem dX8_isCell_1 : decode cX8_isCell 1 = .ok (.iconst 0, 1) := by decide +kernel
theorem dX8_isCell_2 : decode cX8_isCell 2 = .ok (.bipush 23, 2) := by decide +kernel
theorem dX8_isCell_4 : decode cX8_isCell 4 = .ok (.invokestatic 78, 3) := by decide +kernel
theorem dX8_isCell_7 : decode cX8_isCell 7 = .ok (.ireturn, 1) := by decide +kernel
theorem dX8_isHour_0 : decode cX8_isHour 0 = .ok (.iload_n 0, 1) := by decide +kernel
theorem dX8_isHour_1 : decode cX8_isHour 1 = .ok (.iconst 0, 1) := by decide +kernel
theorem dX8_isHour_2 : decode cX8_isHour 2 = .ok (.bipush 29, 2) := by decide +kernel
theorem dX8_isHour_4 : decode cX8_isHour 4 = .ok (.invokestatic 78, 3) := by decide +kernel
theorem dX8_isHour_7 : decode cX8_isHour 7 = .ok (.ireturn, 1) := by decide +kernel
theorem dX8_type_0 : decode cX8_type 0 = .ok (.iload_n 1, 1) := by decide +kernel
theorem dX8_type_1 : decode cX8_type 1 = .ok (.iconst 0, 1) := by decide +kernel
theorem dX8_type_2 : decode cX8_type 2 = .ok (.sipush 255, 3) := by decide +kernel
theorem dX8_type_5 : decode cX8_type 5 = .ok (.invokestatic 78, 3) := by decide +kernel
theorem dX8_type_8 : decode cX8_type 8 = .ok (.ifCond .ne 5, 3) := by decide +kernel
theorem dX8_type_11 : decode cX8_type 11 = .ok (.iconst (-1), 1) := by decide +kernel
theorem dX8_type_12 : decode cX8_type 12 = .ok (.ireturn, 1) := by decide +kernel
theorem dX8_type_13 : decode cX8_type 13 = .ok (.aload_n 0, 1) := by decide +kernel
theorem dX8_type_14 : decode cX8_type 14 = .ok (.getfield 85, 3) := by decide +kernel
theorem dX8_type_17 : decode cX8_type 17 = .ok (.sipush 150, 3) := by decide +kernel
theorem dX8_type_20 : decode cX8_type 20 = .ok (.if_icmp .ne 6, 3) := by decide +kernel
theorem dX8_type_23 : decode cX8_type 23 = .ok (.bipush (-3), 2) := by decide +kernel
theorem dX8_type_25 : decode cX8_type 25 = .ok (.ireturn, 1) := by decide +kernel
theorem dX8_type_26 : decode cX8_type 26 = .ok (.aload_n 0, 1) := by decide +kernel
theorem dX8_type_27 : decode cX8_type 27 = .ok (.getfield 47, 3) := by decide +kernel
theorem dX8_type_30 : decode cX8_type 30 = .ok (.aload_n 0, 1) := by decide +kernel
theorem dX8_type_31 : decode cX8_type 31 = .ok (.getfield 85, 3) := by decide +kernel
theorem dX8_type_34 : decode cX8_type 34 = .ok (.iload_n 1, 1) := by decide +kernel
theorem dX8_type_35 : decode cX8_type 35 = .ok (.iastore, 1) := by decide +kernel
theorem dX8_type_36 : decode cX8_type 36 = .ok (.aload_n 0, 1) := by decide +kernel
theorem dX8_type_37 : decode cX8_type 37 = .ok (.dup, 1) := by decide +kernel
theorem dX8_type_38 : decode cX8_type 38 = .ok (.getfield 85, 3) := by decide +kernel
theorem dX8_type_41 : decode cX8_type 41 = .ok (.iconst 1, 1) := by decide +kernel
theorem dX8_type_42 : decode cX8_type 42 = .ok (.iadd, 1) := by decide +kernel
theorem dX8_type_43 : decode cX8_type 43 = .ok (.putfield 85, 3) := by decide +kernel
theorem dX8_type_46 : decode cX8_type 46 = .ok (.aload_n 0, 1) := by decide +kernel
theorem dX8_type_47 : decode cX8_type 47 = .ok (.getfield 85, 3) := by decide +kernel
theorem dX8_type_50 : decode cX8_type 50 = .ok (.ireturn, 1) := by decide +kernel
theorem dX8_clear_0 : decode cX8_clear 0 = .ok (.aload_n 0, 1) := by decide +kernel
theorem dX8_clear_1 : decode cX8_clear 1 = .ok (.getfield 85, 3) := by decide +kernel
theorem dX8_clear_4 : decode cX8_clear 4 = .ok (.istore_n 1, 1) := by decide +kernel
theorem dX8_clear_5 : decode cX8_clear 5 = .ok (.aload_n 0, 1) := by decide +kernel
theorem dX8_clear_6 : decode cX8_clear 6 = .ok (.iconst 0, 1) := by decide +kernel
theorem dX8_clear_7 : decode cX8_clear 7 = .ok (.putfield 85, 3) := by decide +kernel
theorem dX8_clear_10 : decode cX8_clear 10 = .ok (.iload_n 1, 1) := by decide +kernel
theorem dX8_clear_11 : decode cX8_clear 11 = .ok (.ireturn, 1) := by decide +kernel
theorem dX8_letterAt_0 : decode cX8_letterAt 0 = .ok (.iload_n 1, 1) := by decide +kernel
theorem dX8_letterAt_1 : decode cX8_letterAt 1 = .ok (.aload_n 0, 1) := by decide +kernel
theorem dX8_letterAt_2 : decode cX8_letterAt 2 = .ok (.getfield 85, 3) := by decide +kernel
theorem dX8_letterAt_5 : decode cX8_letterAt 5 = .ok (.if_icmp .ge 12, 3) := by decide +kernel
theorem dX8_letterAt_8 : decode cX8_letterAt 8 = .ok (.aload_n 0, 1) := by decide +kernel
theorem dX8_letterAt_9 : decode cX8_letterAt 9 = .ok (.getfield 47, 3) := by decide +kernel
theorem dX8_letterAt_12 : decode cX8_letterAt 12 = .ok (.iload_n 1, 1) := by decide +kernel
theorem dX8_letterAt_13 : decode cX8_letterAt 13 = .ok (.iaload, 1) := by decide +kernel
theorem dX8_letterAt_14 : decode cX8_letterAt 14 = .ok (.goto 4, 3) := by decide +kernel
theorem dX8_letterAt_17 : decode cX8_letterAt 17 = .ok (.iconst (-1), 1) := by decide +kernel
theorem dX8_letterAt_18 : decode cX8_letterAt 18 = .ok (.ireturn, 1) := by decide +kernel
theorem dX8_isFigure_0 : decode cX8_isFigure 0 = .ok (.iload_n 0, 1) := by decide +kernel
theorem dX8_isFigure_1 : decode cX8_isFigure 1 = .ok (.bipush 48, 2) := by decide +kernel
theorem dX8_isFigure_3 : decode cX8_isFigure 3 = .ok (.bipush 57, 2) := by decide +kernel
theorem dX8_isFigure_5 : decode cX8_isFigure 5 = .ok (.invokestatic 78, 3) := by decide +kernel
theorem dX8_isFigure_8 : decode cX8_isFigure 8 = .ok (.ireturn, 1) := by decide +kernel
theorem dX8_isLetter_0 : decode cX8_isLetter 0 = .ok (.iload_n 0, 1) := by decide +kernel
theorem dX8_isLetter_1 : decode cX8_isLetter 1 = .ok (.bipush 97, 2) := by decide +kernel
theorem dX8_isLetter_3 : decode cX8_isLetter 3 = .ok (.bipush 122, 2) := by decide +kernel
theorem dX8_isLetter_5 : decode cX8_isLetter 5 = .ok (.invokestatic 78, 3) := by decide +kernel
theorem dX8_isLetter_8 : decode cX8_isLetter 8 = .ok (.ireturn, 1) := by decide +kernel
theorem dX8_next_0 : decode cX8_next 0 = .ok (.aload_n 0, 1) := by decide +kernel
theorem dX8_next_1 : decode cX8_next 1 = .ok (.aload_n 0, 1) := by decide +kernel
theorem dX8_next_2 : decode cX8_next 2 = .ok (.getfield 88, 3) := by decide +kernel
theorem dX8_next_5 : decode cX8_next 5 = .ok (.invokevirtual 91, 3) := by decide +kernel
theorem dX8_next_8 : decode cX8_next 8 = .ok (.bipush 32, 2) := by decide +kernel
theorem dX8_next_10 : decode cX8_next 10 = .ok (.if_icmp .ne 16, 3) := by decide +kernel
theorem dX8_next_13 : decode cX8_next 13 = .ok (.aload_n 0, 1) := by decide +kernel
theorem dX8_next_14 : decode cX8_next 14 = .ok (.dup, 1) := by decide +kernel
theorem dX8_next_15 : decode cX8_next 15 = .ok (.getfield 88, 3) := by decide +kernel
theorem dX8_next_18 : decode cX8_next 18 = .ok (.iconst 1, 1) := by decide +kernel
theorem dX8_next_19 : decode cX8_next 19 = .ok (.iadd, 1) := by decide +kernel
theorem dX8_next_20 : decode cX8_next 20 = .ok (.putfield 88, 3) := by decide +kernel
theorem dX8_next_23 : decode cX8_next 23 = .ok (.goto (-23), 3) := by decide +kernel
theorem dX8_next_26 : decode cX8_next 26 = .ok (.aload_n 0, 1) := by decide +kernel
theorem dX8_next_27 : decode cX8_next 27 = .ok (.aload_n 0, 1) := by decide +kernel
theorem dX8_next_28 : decode cX8_next 28 = .ok (.getfield 88, 3) := by decide +kernel
theorem dX8_next_31 : decode cX8_next 31 = .ok (.putfield 95, 3) := by decide +kernel
theorem dX8_next_34 : decode cX8_next 34 = .ok (.aload_n 0, 1) := by decide +kernel
theorem dX8_next_35 : decode cX8_next 35 = .ok (.aload_n 0, 1) := by decide +kernel
theorem dX8_next_36 : decode cX8_next 36 = .ok (.getfield 88, 3) := by decide +kernel
theorem dX8_next_39 : decode cX8_next 39 = .ok (.invokevirtual 91, 3) := by decide +kernel
theorem dX8_next_42 : decode cX8_next 42 = .ok (.istore_n 1, 1) := by decide +kernel
theorem dX8_next_43 : decode cX8_next 43 = .ok (.aload_n 0, 1) := by decide +kernel
theorem dX8_next_44 : decode cX8_next 44 = .ok (.iconst 0, 1) := by decide +kernel
theorem dX8_next_45 : decode cX8_next 45 = .ok (.putfield 98, 3) := by decide +kernel
theorem dX8_next_48 : decode cX8_next 48 = .ok (.iload_n 1, 1) := by decide +kernel
theorem dX8_next_49 : decode cX8_next 49 = .ok (.ifCond .ge 11, 3) := by decide +kernel
theorem dX8_next_52 : decode cX8_next 52 = .ok (.aload_n 0, 1) := by decide +kernel
theorem dX8_next_53 : decode cX8_next 53 = .ok (.iconst 0, 1) := by decide +kernel
theorem dX8_next_54 : decode cX8_next 54 = .ok (.putfield 101, 3) := by decide +kernel
theorem dX8_next_57 : decode cX8_next 57 = .ok (.goto 205, 3) := by decide +kernel
theorem dX8_next_60 : decode cX8_next 60 = .ok (.iload_n 1, 1) := by decide +kernel
theorem dX8_next_61 : decode cX8_next 61 = .ok (.invokestatic 104, 3) := by decide +kernel
theorem dX8_next_64 : decode cX8_next 64 = .ok (.ifCond .eq 109, 3) := by decide +kernel
theorem dX8_next_67 : decode cX8_next 67 = .ok (.aload_n 0, 1) := by decide +kernel
end
section
theorem dX8_next_68 : decode cX8_next 68 = .ok (.aload_n 0, 1) := by decide +kernel
theorem dX8_next_69 : decode cX8_next 69 = .ok (.getfield 88, 3) := by decide +kernel
theorem dX8_next_72 : decode cX8_next 72 = .ok (.invokevirtual 91, 3) := by decide +kernel
theorem dX8_next_75 : decode cX8_next 75 = .ok (.invokestatic 104, 3) := by decide +kernel
theorem dX8_next_78 : decode cX8_next 78 = .ok (.ifCond .eq 55, 3) := by decide +kernel
theorem dX8_next_81 : decode cX8_next 81 = .ok (.aload_n 0, 1) := by decide +kernel
theorem dX8_next_82 : decode cX8_next 82 = .ok (.aload_n 0, 1) := by decide +kernel
theorem dX8_next_83 : decode cX8_next 83 = .ok (.getfield 98, 3) := by decide +kernel
theorem dX8_next_86 : decode cX8_next 86 = .ok (.bipush 99, 2) := by decide +kernel
theorem dX8_next_88 : decode cX8_next 88 = .ok (.if_icmp .le 10, 3) := by decide +kernel
theorem dX8_next_91 : decode cX8_next 91 = .ok (.aload_n 0, 1) := by decide +kernel
theorem dX8_next_92 : decode cX8_next 92 = .ok (.getfield 98, 3) := by decide +kernel
theorem dX8_next_95 : decode cX8_next 95 = .ok (.goto 22, 3) := by decide +kernel
theorem dX8_next_98 : decode cX8_next 98 = .ok (.bipush 10, 2) := by decide +kernel
theorem dX8_next_100 : decode cX8_next 100 = .ok (.aload_n 0, 1) := by decide +kernel
theorem dX8_next_101 : decode cX8_next 101 = .ok (.getfield 98, 3) := by decide +kernel
theorem dX8_next_104 : decode cX8_next 104 = .ok (.imul, 1) := by decide +kernel
theorem dX8_next_105 : decode cX8_next 105 = .ok (.aload_n 0, 1) := by decide +kernel
theorem dX8_next_106 : decode cX8_next 106 = .ok (.aload_n 0, 1) := by decide +kernel
theorem dX8_next_107 : decode cX8_next 107 = .ok (.getfield 88, 3) := by decide +kernel
theorem dX8_next_110 : decode cX8_next 110 = .ok (.invokevirtual 91, 3) := by decide +kernel
theorem dX8_next_113 : decode cX8_next 113 = .ok (.iadd, 1) := by decide +kernel
theorem dX8_next_114 : decode cX8_next 114 = .ok (.bipush 48, 2) := by decide +kernel
theorem dX8_next_116 : decode cX8_next 116 = .ok (.isub, 1) := by decide +kernel
theorem dX8_next_117 : decode cX8_next 117 = .ok (.putfield 98, 3) := by decide +kernel
theorem dX8_next_120 : decode cX8_next 120 = .ok (.aload_n 0, 1) := by decide +kernel
theorem dX8_next_121 : decode cX8_next 121 = .ok (.dup, 1) := by decide +kernel
theorem dX8_next_122 : decode cX8_next 122 = .ok (.getfield 88, 3) := by decide +kernel
theorem dX8_next_125 : decode cX8_next 125 = .ok (.iconst 1, 1) := by decide +kernel
theorem dX8_next_126 : decode cX8_next 126 = .ok (.iadd, 1) := by decide +kernel
theorem dX8_next_127 : decode cX8_next 127 = .ok (.putfield 88, 3) := by decide +kernel
theorem dX8_next_130 : decode cX8_next 130 = .ok (.goto (-63), 3) := by decide +kernel
theorem dX8_next_133 : decode cX8_next 133 = .ok (.aload_n 0, 1) := by decide +kernel
theorem dX8_next_134 : decode cX8_next 134 = .ok (.aload_n 0, 1) := by decide +kernel
theorem dX8_next_135 : decode cX8_next 135 = .ok (.getfield 98, 3) := by decide +kernel
theorem dX8_next_138 : decode cX8_next 138 = .ok (.bipush 99, 2) := by decide +kernel
theorem dX8_next_140 : decode cX8_next 140 = .ok (.if_icmp .gt 22, 3) := by decide +kernel
theorem dX8_next_143 : decode cX8_next 143 = .ok (.iload_n 1, 1) := by decide +kernel
theorem dX8_next_144 : decode cX8_next 144 = .ok (.bipush 48, 2) := by decide +kernel
theorem dX8_next_146 : decode cX8_next 146 = .ok (.if_icmp .ne 20, 3) := by decide +kernel
theorem dX8_next_149 : decode cX8_next 149 = .ok (.aload_n 0, 1) := by decide +kernel
theorem dX8_next_150 : decode cX8_next 150 = .ok (.getfield 88, 3) := by decide +kernel
theorem dX8_next_153 : decode cX8_next 153 = .ok (.aload_n 0, 1) := by decide +kernel
theorem dX8_next_154 : decode cX8_next 154 = .ok (.getfield 95, 3) := by decide +kernel
theorem dX8_next_157 : decode cX8_next 157 = .ok (.isub, 1) := by decide +kernel
theorem dX8_next_158 : decode cX8_next 158 = .ok (.iconst 1, 1) := by decide +kernel
theorem dX8_next_159 : decode cX8_next 159 = .ok (.if_icmp .le 7, 3) := by decide +kernel
theorem dX8_next_162 : decode cX8_next 162 = .ok (.iconst 4, 1) := by decide +kernel
theorem dX8_next_163 : decode cX8_next 163 = .ok (.goto 4, 3) := by decide +kernel
theorem dX8_next_166 : decode cX8_next 166 = .ok (.iconst 2, 1) := by decide +kernel
theorem dX8_next_167 : decode cX8_next 167 = .ok (.putfield 101, 3) := by decide +kernel
theorem dX8_next_170 : decode cX8_next 170 = .ok (.goto 92, 3) := by decide +kernel
theorem dX8_next_173 : decode cX8_next 173 = .ok (.iload_n 1, 1) := by decide +kernel
theorem dX8_next_174 : decode cX8_next 174 = .ok (.invokestatic 108, 3) := by decide +kernel
theorem dX8_next_177 : decode cX8_next 177 = .ok (.ifCond .eq 60, 3) := by decide +kernel
theorem dX8_next_180 : decode cX8_next 180 = .ok (.aload_n 0, 1) := by decide +kernel
theorem dX8_next_181 : decode cX8_next 181 = .ok (.aload_n 0, 1) := by decide +kernel
theorem dX8_next_182 : decode cX8_next 182 = .ok (.getfield 88, 3) := by decide +kernel
theorem dX8_next_185 : decode cX8_next 185 = .ok (.invokevirtual 91, 3) := by decide +kernel
theorem dX8_next_188 : decode cX8_next 188 = .ok (.invokestatic 108, 3) := by decide +kernel
theorem dX8_next_191 : decode cX8_next 191 = .ok (.ifCond .eq 16, 3) := by decide +kernel
theorem dX8_next_194 : decode cX8_next 194 = .ok (.aload_n 0, 1) := by decide +kernel
theorem dX8_next_195 : decode cX8_next 195 = .ok (.dup, 1) := by decide +kernel
theorem dX8_next_196 : decode cX8_next 196 = .ok (.getfield 88, 3) := by decide +kernel
theorem dX8_next_199 : decode cX8_next 199 = .ok (.iconst 1, 1) := by decide +kernel
theorem dX8_next_200 : decode cX8_next 200 = .ok (.iadd, 1) := by decide +kernel
theorem dX8_next_201 : decode cX8_next 201 = .ok (.putfield 88, 3) := by decide +kernel
theorem dX8_next_204 : decode cX8_next 204 = .ok (.goto (-24), 3) := by decide +kernel
theorem dX8_next_207 : decode cX8_next 207 = .ok (.aload_n 0, 1) := by decide +kernel
theorem dX8_next_208 : decode cX8_next 208 = .ok (.iconst 1, 1) := by decide +kernel
theorem dX8_next_209 : decode cX8_next 209 = .ok (.putfield 101, 3) := by decide +kernel
theorem dX8_next_212 : decode cX8_next 212 = .ok (.aload_n 0, 1) := by decide +kernel
theorem dX8_next_213 : decode cX8_next 213 = .ok (.aload_n 0, 1) := by decide +kernel
theorem dX8_next_214 : decode cX8_next 214 = .ok (.getfield 88, 3) := by decide +kernel
theorem dX8_next_217 : decode cX8_next 217 = .ok (.aload_n 0, 1) := by decide +kernel
theorem dX8_next_218 : decode cX8_next 218 = .ok (.getfield 95, 3) := by decide +kernel
theorem dX8_next_221 : decode cX8_next 221 = .ok (.isub, 1) := by decide +kernel
theorem dX8_next_222 : decode cX8_next 222 = .ok (.iconst 1, 1) := by decide +kernel
theorem dX8_next_223 : decode cX8_next 223 = .ok (.if_icmp .ne 7, 3) := by decide +kernel
theorem dX8_next_226 : decode cX8_next 226 = .ok (.iload_n 1, 1) := by decide +kernel
theorem dX8_next_227 : decode cX8_next 227 = .ok (.goto 4, 3) := by decide +kernel
theorem dX8_next_230 : decode cX8_next 230 = .ok (.iconst 0, 1) := by decide +kernel
theorem dX8_next_231 : decode cX8_next 231 = .ok (.putfield 98, 3) := by decide +kernel
theorem dX8_next_234 : decode cX8_next 234 = .ok (.goto 28, 3) := by decide +kernel
theorem dX8_next_237 : decode cX8_next 237 = .ok (.aload_n 0, 1) := by decide +kernel
theorem dX8_next_238 : decode cX8_next 238 = .ok (.iload_n 1, 1) := by decide +kernel
theorem dX8_next_239 : decode cX8_next 239 = .ok (.bipush 59, 2) := by decide +kernel
theorem dX8_next_241 : decode cX8_next 241 = .ok (.if_icmp .ne 7, 3) := by decide +kernel
theorem dX8_next_244 : decode cX8_next 244 = .ok (.iconst 3, 1) := by decide +kernel
theorem dX8_next_245 : decode cX8_next 245 = .ok (.goto 4, 3) := by decide +kernel
theorem dX8_next_248 : decode cX8_next 248 = .ok (.iconst 4, 1) := by decide +kernel
theorem dX8_next_249 : decode cX8_next 249 = .ok (.putfield 101, 3) := by decide +kernel
theorem dX8_next_252 : decode cX8_next 252 = .ok (.aload_n 0, 1) := by decide +kernel
theorem dX8_next_253 : decode cX8_next 253 = .ok (.dup, 1) := by decide +kernel
theorem dX8_next_254 : decode cX8_next 254 = .ok (.getfield 88, 3) := by decide +kernel
theorem dX8_next_257 : decode cX8_next 257 = .ok (.iconst 1, 1) := by decide +kernel
theorem dX8_next_258 : decode cX8_next 258 = .ok (.iadd, 1) := by decide +kernel
theorem dX8_next_259 : decode cX8_next 259 = .ok (.putfield 88, 3) := by decide +kernel
theorem dX8_next_262 : decode cX8_next 262 = .ok (.return_, 1) := by decide +kernel
theorem dX8_takesNumber_0 : decode cX8_takesNumber 0 = .ok (.aload_n 0, 1) := by decide +kernel
theorem dX8_takesNumber_1 : decode cX8_takesNumber 1 = .ok (.getfield 111, 3) := by decide +kernel
theorem dX8_takesNumber_4 : decode cX8_takesNumber 4 = .ok (.ifCond .ne 27, 3) := by decide +kernel
theorem dX8_takesNumber_7 : decode cX8_takesNumber 7 = .ok (.aload_n 0, 1) := by decide +kernel
theorem dX8_takesNumber_8 : decode cX8_takesNumber 8 = .ok (.getfield 101, 3) := by decide +kernel
theorem dX8_takesNumber_11 : decode cX8_takesNumber 11 = .ok (.iconst 2, 1) := by decide +kernel
theorem dX8_takesNumber_12 : decode cX8_takesNumber 12 = .ok (.if_icmp .ne 19, 3) := by decide +kernel
theorem dX8_takesNumber_15 : decode cX8_takesNumber 15 = .ok (.aload_n 0, 1) := by decide +kernel
theorem dX8_takesNumber_16 : decode cX8_takesNumber 16 = .ok (.getfield 98, 3) := by decide +kernel
theorem dX8_takesNumber_19 : decode cX8_takesNumber 19 = .ok (.iload_n 1, 1) := by decide +kernel
theorem dX8_takesNumber_20 : decode cX8_takesNumber 20 = .ok (.iload_n 2, 1) := by decide +kernel
theorem dX8_takesNumber_21 : decode cX8_takesNumber 21 = .ok (.invokestatic 78, 3) := by decide +kernel
theorem dX8_takesNumber_24 : decode cX8_takesNumber 24 = .ok (.ifCond .eq 7, 3) := by decide +kernel
theorem dX8_takesNumber_27 : decode cX8_takesNumber 27 = .ok (.iconst 1, 1) := by decide +kernel
theorem dX8_takesNumber_28 : decode cX8_takesNumber 28 = .ok (.goto 4, 3) := by decide +kernel
theorem dX8_takesNumber_31 : decode cX8_takesNumber 31 = .ok (.iconst 0, 1) := by decide +kernel
theorem dX8_takesNumber_32 : decode cX8_takesNumber 32 = .ok (.istore_n 3, 1) := by decide +kernel
theorem dX8_takesNumber_33 : decode cX8_takesNumber 33 = .ok (.aload_n 0, 1) := by decide +kernel
theorem dX8_takesNumber_34 : decode cX8_takesNumber 34 = .ok (.iload_n 3, 1) := by decide +kernel
theorem dX8_takesNumber_35 : decode cX8_takesNumber 35 = .ok (.ifCond .ne 7, 3) := by decide +kernel
theorem dX8_takesNumber_38 : decode cX8_takesNumber 38 = .ok (.iconst 1, 1) := by decide +kernel
theorem dX8_takesNumber_39 : decode cX8_takesNumber 39 = .ok (.goto 4, 3) := by decide +kernel
theorem dX8_takesNumber_42 : decode cX8_takesNumber 42 = .ok (.iconst 0, 1) := by decide +kernel
theorem dX8_takesNumber_43 : decode cX8_takesNumber 43 = .ok (.putfield 111, 3) := by decide +kernel
theorem dX8_takesNumber_46 : decode cX8_takesNumber 46 = .ok (.aload_n 0, 1) := by decide +kernel
theorem dX8_takesNumber_47 : decode cX8_takesNumber 47 = .ok (.getfield 98, 3) := by decide +kernel
theorem dX8_takesNumber_50 : decode cX8_takesNumber 50 = .ok (.istore 4, 2) := by decide +kernel
theorem dX8_takesNumber_52 : decode cX8_takesNumber 52 = .ok (.iload_n 3, 1) := by decide +kernel
theorem dX8_takesNumber_53 : decode cX8_takesNumber 53 = .ok (.ifCond .eq 7, 3) := by decide +kernel
theorem dX8_takesNumber_56 : decode cX8_takesNumber 56 = .ok (.aload_n 0, 1) := by decide +kernel
theorem dX8_takesNumber_57 : decode cX8_takesNumber 57 = .ok (.invokevirtual 115, 3) := by decide +kernel
theorem dX8_takesNumber_60 : decode cX8_takesNumber 60 = .ok (.iload_n 3, 1) := by decide +kernel
theorem dX8_takesNumber_61 : decode cX8_takesNumber 61 = .ok (.ifCond .eq 8, 3) := by decide +kernel
theorem dX8_takesNumber_64 : decode cX8_takesNumber 64 = .ok (.iload 4, 2) := by decide +kernel
theorem dX8_takesNumber_66 : decode cX8_takesNumber 66 = .ok (.goto 4, 3) := by decide +kernel
theorem dX8_takesNumber_69 : decode cX8_takesNumber 69 = .ok (.iconst 0, 1) := by decide +kernel
theorem dX8_takesNumber_70 : decode cX8_takesNumber 70 = .ok (.ireturn, 1) := by decide +kernel
theorem dX8_readRoof_0 : decode cX8_readRoof 0 = .ok (.aload_n 0, 1) := by decide +kernel
theorem dX8_readRoof_1 : decode cX8_readRoof 1 = .ok (.iconst 0, 1) := by decide +kernel
theorem dX8_readRoof_2 : decode cX8_readRoof 2 = .ok (.bipush 23, 2) := by decide +kernel
theorem dX8_readRoof_4 : decode cX8_readRoof 4 = .ok (.invokevirtual 118, 3) := by decide +kernel
theorem dX8_readRoof_7 : decode cX8_readRoof 7 = .ok (.istore_n 1, 1) := by decide +kernel
theorem dX8_readRoof_8 : decode cX8_readRoof 8 = .ok (.aload_n 0, 1) := by decide +kernel
theorem dX8_readRoof_9 : decode cX8_readRoof 9 = .ok (.getfield 50, 3) := by decide +kernel
theorem dX8_readRoof_12 : decode cX8_readRoof 12 = .ok (.iload_n 1, 1) := by decide +kernel
theorem dX8_readRoof_13 : decode cX8_readRoof 13 = .ok (.aload_n 0, 1) := by decide +kernel
theorem dX8_readRoof_14 : decode cX8_readRoof 14 = .ok (.iconst 0, 1) := by decide +kernel
theorem dX8_readRoof_15 : decode cX8_readRoof 15 = .ok (.bipush 9, 2) := by decide +kernel
theorem dX8_readRoof_17 : decode cX8_readRoof 17 = .ok (.invokevirtual 118, 3) := by decide +kernel
theorem dX8_readRoof_20 : decode cX8_readRoof 20 = .ok (.iastore, 1) := by decide +kernel
theorem dX8_readRoof_21 : decode cX8_readRoof 21 = .ok (.return_, 1) := by decide +kernel
theorem dX8_readCock_0 : decode cX8_readCock 0 = .ok (.aload_n 0, 1) := by decide +kernel
theorem dX8_readCock_1 : decode cX8_readCock 1 = .ok (.getfield 53, 3) := by decide +kernel
theorem dX8_readCock_4 : decode cX8_readCock 4 = .ok (.aload_n 0, 1) := by decide +kernel
theorem dX8_readCock_5 : decode cX8_readCock 5 = .ok (.getfield 122, 3) := by decide +kernel
theorem dX8_readCock_8 : decode cX8_readCock 8 = .ok (.aload_n 0, 1) := by decide +kernel
theorem dX8_readCock_9 : decode cX8_readCock 9 = .ok (.iconst 0, 1) := by decide +kernel
theorem dX8_readCock_10 : decode cX8_readCock 10 = .ok (.bipush 23, 2) := by decide +kernel
theorem dX8_readCock_12 : decode cX8_readCock 12 = .ok (.invokevirtual 118, 3) := by decide +kernel
theorem dX8_readCock_15 : decode cX8_readCock 15 = .ok (.iastore, 1) := by decide +kernel
theorem dX8_readCock_16 : decode cX8_readCock 16 = .ok (.aload_n 0, 1) := by decide +kernel
theorem dX8_readCock_17 : decode cX8_readCock 17 = .ok (.getfield 56, 3) := by decide +kernel
theorem dX8_readCock_20 : decode cX8_readCock 20 = .ok (.aload_n 0, 1) := by decide +kernel
theorem dX8_readCock_21 : decode cX8_readCock 21 = .ok (.getfield 122, 3) := by decide +kernel
theorem dX8_readCock_24 : decode cX8_readCock 24 = .ok (.aload_n 0, 1) := by decide +kernel
theorem dX8_readCock_25 : decode cX8_readCock 25 = .ok (.iconst 1, 1) := by decide +kernel
theorem dX8_readCock_26 : decode cX8_readCock 26 = .ok (.iconst 5, 1) := by decide +kernel
theorem dX8_readCock_27 : decode cX8_readCock 27 = .ok (.invokevirtual 118, 3) := by decide +kernel
theorem dX8_readCock_30 : decode cX8_readCock 30 = .ok (.iastore, 1) := by decide +kernel
theorem dX8_readCock_31 : decode cX8_readCock 31 = .ok (.aload_n 0, 1) := by decide +kernel
theorem dX8_readCock_32 : decode cX8_readCock 32 = .ok (.getfield 59, 3) := by decide +kernel
theorem dX8_readCock_35 : decode cX8_readCock 35 = .ok (.aload_n 0, 1) := by decide +kernel
theorem dX8_readCock_36 : decode cX8_readCock 36 = .ok (.getfield 122, 3) := by decide +kernel
theorem dX8_readCock_39 : decode cX8_readCock 39 = .ok (.aload_n 0, 1) := by decide +kernel
theorem dX8_readCock_40 : decode cX8_readCock 40 = .ok (.iconst 0, 1) := by decide +kernel
theorem dX8_readCock_41 : decode cX8_readCock 41 = .ok (.iconst 1, 1) := by decide +kernel
theorem dX8_readCock_42 : decode cX8_readCock 42 = .ok (.invokevirtual 118, 3) := by decide +kernel
theorem dX8_readCock_45 : decode cX8_readCock 45 = .ok (.iastore, 1) := by decide +kernel
theorem dX8_readCock_46 : decode cX8_readCock 46 = .ok (.aload_n 0, 1) := by decide +kernel
theorem dX8_readCock_47 : decode cX8_readCock 47 = .ok (.getfield 62, 3) := by decide +kernel
theorem dX8_readCock_50 : decode cX8_readCock 50 = .ok (.aload_n 0, 1) := by decide +kernel
theorem dX8_readCock_51 : decode cX8_readCock 51 = .ok (.getfield 122, 3) := by decide +kernel
theorem dX8_readCock_54 : decode cX8_readCock 54 = .ok (.aload_n 0, 1) := by decide +kernel
theorem dX8_readCock_55 : decode cX8_readCock 55 = .ok (.iconst 0, 1) := by decide +kernel
theorem dX8_readCock_56 : decode cX8_readCock 56 = .ok (.bipush 9, 2) := by decide +kernel
theorem dX8_readCock_58 : decode cX8_readCock 58 = .ok (.invokevirtual 118, 3) := by decide +kernel
theorem dX8_readCock_61 : decode cX8_readCock 61 = .ok (.iastore, 1) := by decide +kernel
theorem dX8_readCock_62 : decode cX8_readCock 62 = .ok (.aload_n 0, 1) := by decide +kernel
theorem dX8_readCock_63 : decode cX8_readCock 63 = .ok (.dup, 1) := by decide +kernel
theorem dX8_readCock_64 : decode cX8_readCock 64 = .ok (.getfield 122, 3) := by decide +kernel
theorem dX8_readCock_67 : decode cX8_readCock 67 = .ok (.iconst 1, 1) := by decide +kernel
theorem dX8_readCock_68 : decode cX8_readCock 68 = .ok (.iadd, 1) := by decide +kernel
theorem dX8_readCock_69 : decode cX8_readCock 69 = .ok (.putfield 122, 3) := by decide +kernel
theorem dX8_readCock_72 : decode cX8_readCock 72 = .ok (.return_, 1) := by decide +kernel
theorem dX8_readOne_0 : decode cX8_readOne 0 = .ok (.aload_n 0, 1) := by decide +kernel
theorem dX8_readOne_1 : decode cX8_readOne 1 = .ok (.getfield 65, 3) := by decide +kernel
theorem dX8_readOne_4 : decode cX8_readOne 4 = .ok (.aload_n 0, 1) := by decide +kernel
theorem dX8_readOne_5 : decode cX8_readOne 5 = .ok (.getfield 125, 3) := by decide +kernel
theorem dX8_readOne_8 : decode cX8_readOne 8 = .ok (.aload_n 0, 1) := by decide +kernel
theorem dX8_readOne_9 : decode cX8_readOne 9 = .ok (.iconst 0, 1) := by decide +kernel
theorem dX8_readOne_10 : decode cX8_readOne 10 = .ok (.bipush 23, 2) := by decide +kernel
theorem dX8_readOne_12 : decode cX8_readOne 12 = .ok (.invokevirtual 118, 3) := by decide +kernel
theorem dX8_readOne_15 : decode cX8_readOne 15 = .ok (.iastore, 1) := by decide +kernel
theorem dX8_readOne_16 : decode cX8_readOne 16 = .ok (.aload_n 0, 1) := by decide +kernel
theorem dX8_readOne_17 : decode cX8_readOne 17 = .ok (.getfield 68, 3) := by decide +kernel
theorem dX8_readOne_20 : decode cX8_readOne 20 = .ok (.aload_n 0, 1) := by decide +kernel
theorem dX8_readOne_21 : decode cX8_readOne 21 = .ok (.getfield 125, 3) := by decide +kernel
theorem dX8_readOne_24 : decode cX8_readOne 24 = .ok (.aload_n 0, 1) := by decide +kernel
theorem dX8_readOne_25 : decode cX8_readOne 25 = .ok (.iconst 0, 1) := by decide +kernel
theorem dX8_readOne_26 : decode cX8_readOne 26 = .ok (.bipush 6, 2) := by decide +kernel
theorem dX8_readOne_28 : decode cX8_readOne 28 = .ok (.invokevirtual 118, 3) := by decide +kernel
theorem dX8_readOne_31 : decode cX8_readOne 31 = .ok (.iconst 3, 1) := by decide +kernel
theorem dX8_readOne_32 : decode cX8_readOne 32 = .ok (.isub, 1) := by decide +kernel
theorem dX8_readOne_33 : decode cX8_readOne 33 = .ok (.iastore, 1) := by decide +kernel
theorem dX8_readOne_34 : decode cX8_readOne 34 = .ok (.aload_n 0, 1) := by decide +kernel
theorem dX8_readOne_35 : decode cX8_readOne 35 = .ok (.dup, 1) := by decide +kernel
theorem dX8_readOne_36 : decode cX8_readOne 36 = .ok (.getfield 125, 3) := by decide +kernel
theorem dX8_readOne_39 : decode cX8_readOne 39 = .ok (.iconst 1, 1) := by decide +kernel
theorem dX8_readOne_40 : decode cX8_readOne 40 = .ok (.iadd, 1) := by decide +kernel
theorem dX8_readOne_41 : decode cX8_readOne 41 = .ok (.putfield 125, 3) := by decide +kernel
theorem dX8_readOne_44 : decode cX8_readOne 44 = .ok (.return_, 1) := by decide +kernel
theorem dX8_readSmoke_0 : decode cX8_readSmoke 0 = .ok (.iconst 3, 1) := by decide +kernel
theorem dX8_readSmoke_1 : decode cX8_readSmoke 1 = .ok (.aload_n 0, 1) := by decide +kernel
theorem dX8_readSmoke_2 : decode cX8_readSmoke 2 = .ok (.getfield 128, 3) := by decide +kernel
theorem dX8_readSmoke_5 : decode cX8_readSmoke 5 = .ok (.imul, 1) := by decide +kernel
theorem dX8_readSmoke_6 : decode cX8_readSmoke 6 = .ok (.istore_n 1, 1) := by decide +kernel
theorem dX8_readSmoke_7 : decode cX8_readSmoke 7 = .ok (.aload_n 0, 1) := by decide +kernel
theorem dX8_readSmoke_8 : decode cX8_readSmoke 8 = .ok (.getfield 71, 3) := by decide +kernel
theorem dX8_readSmoke_11 : decode cX8_readSmoke 11 = .ok (.iload_n 1, 1) := by decide +kernel
theorem dX8_readSmoke_12 : decode cX8_readSmoke 12 = .ok (.aload_n 0, 1) := by decide +kernel
theorem dX8_readSmoke_13 : decode cX8_readSmoke 13 = .ok (.iconst 0, 1) := by decide +kernel
theorem dX8_readSmoke_14 : decode cX8_readSmoke 14 = .ok (.bipush 23, 2) := by decide +kernel
theorem dX8_readSmoke_16 : decode cX8_readSmoke 16 = .ok (.invokevirtual 118, 3) := by decide +kernel
theorem dX8_readSmoke_19 : decode cX8_readSmoke 19 = .ok (.iastore, 1) := by decide +kernel
theorem dX8_readSmoke_20 : decode cX8_readSmoke 20 = .ok (.aload_n 0, 1) := by decide +kernel
theorem dX8_readSmoke_21 : decode cX8_readSmoke 21 = .ok (.getfield 71, 3) := by decide +kernel
theorem dX8_readSmoke_24 : decode cX8_readSmoke 24 = .ok (.iload_n 1, 1) := by decide +kernel
theorem dX8_readSmoke_25 : decode cX8_readSmoke 25 = .ok (.iconst 1, 1) := by decide +kernel
theorem dX8_readSmoke_26 : decode cX8_readSmoke 26 = .ok (.iadd, 1) := by decide +kernel
theorem dX8_readSmoke_27 : decode cX8_readSmoke 27 = .ok (.aload_n 0, 1) := by decide +kernel
theorem dX8_readSmoke_28 : decode cX8_readSmoke 28 = .ok (.iconst 0, 1) := by decide +kernel
theorem dX8_readSmoke_29 : decode cX8_readSmoke 29 = .ok (.bipush 29, 2) := by decide +kernel
theorem dX8_readSmoke_31 : decode cX8_readSmoke 31 = .ok (.invokevirtual 118, 3) := by decide +kernel
theorem dX8_readSmoke_34 : decode cX8_readSmoke 34 = .ok (.iastore, 1) := by decide +kernel
theorem dX8_readSmoke_35 : decode cX8_readSmoke 35 = .ok (.aload_n 0, 1) := by decide +kernel
theorem dX8_readSmoke_36 : decode cX8_readSmoke 36 = .ok (.getfield 71, 3) := by decide +kernel
theorem dX8_readSmoke_39 : decode cX8_readSmoke 39 = .ok (.iload_n 1, 1) := by decide +kernel
theorem dX8_readSmoke_40 : decode cX8_readSmoke 40 = .ok (.iconst 2, 1) := by decide +kernel
theorem dX8_readSmoke_41 : decode cX8_readSmoke 41 = .ok (.iadd, 1) := by decide +kernel
theorem dX8_readSmoke_42 : decode cX8_readSmoke 42 = .ok (.aload_n 0, 1) := by decide +kernel
theorem dX8_readSmoke_43 : decode cX8_readSmoke 43 = .ok (.aload_n 0, 1) := by decide +kernel
theorem dX8_readSmoke_44 : decode cX8_readSmoke 44 = .ok (.getfield 71, 3) := by decide +kernel
theorem dX8_readSmoke_47 : decode cX8_readSmoke 47 = .ok (.iload_n 1, 1) := by decide +kernel
theorem dX8_readSmoke_48 : decode cX8_readSmoke 48 = .ok (.iconst 1, 1) := by decide +kernel
theorem dX8_readSmoke_49 : decode cX8_readSmoke 49 = .ok (.iadd, 1) := by decide +kernel
theorem dX8_readSmoke_50 : decode cX8_readSmoke 50 = .ok (.iaload, 1) := by decide +kernel
theorem dX8_readSmoke_51 : decode cX8_readSmoke 51 = .ok (.bipush 29, 2) := by decide +kernel
theorem dX8_readSmoke_53 : decode cX8_readSmoke 53 = .ok (.invokevirtual 118, 3) := by decide +kernel
theorem dX8_readSmoke_56 : decode cX8_readSmoke 56 = .ok (.iastore, 1) := by decide +kernel
theorem dX8_readSmoke_57 : decode cX8_readSmoke 57 = .ok (.aload_n 0, 1) := by decide +kernel
theorem dX8_readSmoke_58 : decode cX8_readSmoke 58 = .ok (.dup, 1) := by decide +kernel
theorem dX8_readSmoke_59 : decode cX8_readSmoke 59 = .ok (.getfield 128, 3) := by decide +kernel
theorem dX8_readSmoke_62 : decode cX8_readSmoke 62 = .ok (.iconst 1, 1) := by decide +kernel
theorem dX8_readSmoke_63 : decode cX8_readSmoke 63 = .ok (.iadd, 1) := by decide +kernel
theorem dX8_readSmoke_64 : decode cX8_readSmoke 64 = .ok (.putfield 128, 3) := by decide +kernel
theorem dX8_readSmoke_67 : decode cX8_readSmoke 67 = .ok (.return_, 1) := by decide +kernel
theorem dX8_mayBegin_0 : decode cX8_mayBegin 0 = .ok (.iload_n 1, 1) := by decide +kernel
theorem dX8_mayBegin_1 : decode cX8_mayBegin 1 = .ok (.lookupswitch 87 #[(99, 45), (112, 59), (114, 43), (115, 73)], 43) := by decide +kernel
theorem dX8_mayBegin_44 : decode cX8_mayBegin 44 = .ok (.iconst 1, 1) := by decide +kernel
theorem dX8_mayBegin_45 : decode cX8_mayBegin 45 = .ok (.ireturn, 1) := by decide +kernel
theorem dX8_mayBegin_46 : decode cX8_mayBegin 46 = .ok (.aload_n 0, 1) := by decide +kernel
theorem dX8_mayBegin_47 : decode cX8_mayBegin 47 = .ok (.getfield 122, 3) := by decide +kernel
theorem dX8_mayBegin_50 : decode cX8_mayBegin 50 = .ok (.iconst 5, 1) := by decide +kernel
theorem dX8_mayBegin_51 : decode cX8_mayBegin 51 = .ok (.if_icmp .ge 7, 3) := by decide +kernel
theorem dX8_mayBegin_54 : decode cX8_mayBegin 54 = .ok (.iconst 1, 1) := by decide +kernel
theorem dX8_mayBegin_55 : decode cX8_mayBegin 55 = .ok (.goto 4, 3) := by decide +kernel
theorem dX8_mayBegin_58 : decode cX8_mayBegin 58 = .ok (.iconst 0, 1) := by decide +kernel
theorem dX8_mayBegin_59 : decode cX8_mayBegin 59 = .ok (.ireturn, 1) := by decide +kernel
theorem dX8_mayBegin_60 : decode cX8_mayBegin 60 = .ok (.aload_n 0, 1) := by decide +kernel
theorem dX8_mayBegin_61 : decode cX8_mayBegin 61 = .ok (.getfield 125, 3) := by decide +kernel
theorem dX8_mayBegin_64 : decode cX8_mayBegin 64 = .ok (.iconst 4, 1) := by decide +kernel
theorem dX8_mayBegin_65 : decode cX8_mayBegin 65 = .ok (.if_icmp .ge 7, 3) := by decide +kernel
theorem dX8_mayBegin_68 : decode cX8_mayBegin 68 = .ok (.iconst 1, 1) := by decide +kernel
theorem dX8_mayBegin_69 : decode cX8_mayBegin 69 = .ok (.goto 4, 3) := by decide +kernel
theorem dX8_mayBegin_72 : decode cX8_mayBegin 72 = .ok (.iconst 0, 1) := by decide +kernel
theorem dX8_mayBegin_73 : decode cX8_mayBegin 73 = .ok (.ireturn, 1) := by decide +kernel
theorem dX8_mayBegin_74 : decode cX8_mayBegin 74 = .ok (.aload_n 0, 1) := by decide +kernel
theorem dX8_mayBegin_75 : decode cX8_mayBegin 75 = .ok (.getfield 128, 3) := by decide +kernel
theorem dX8_mayBegin_78 : decode cX8_mayBegin 78 = .ok (.iconst 4, 1) := by decide +kernel
theorem dX8_mayBegin_79 : decode cX8_mayBegin 79 = .ok (.if_icmp .ge 7, 3) := by decide +kernel
theorem dX8_mayBegin_82 : decode cX8_mayBegin 82 = .ok (.iconst 1, 1) := by decide +kernel
theorem dX8_mayBegin_83 : decode cX8_mayBegin 83 = .ok (.goto 4, 3) := by decide +kernel
theorem dX8_mayBegin_86 : decode cX8_mayBegin 86 = .ok (.iconst 0, 1) := by decide +kernel
theorem dX8_mayBegin_87 : decode cX8_mayBegin 87 = .ok (.ireturn, 1) := by decide +kernel
theorem dX8_mayBegin_88 : decode cX8_mayBegin 88 = .ok (.iconst 0, 1) := by decide +kernel
theorem dX8_mayBegin_89 : decode cX8_mayBegin 89 = .ok (.ireturn, 1) := by decide +kernel
theorem dX8_readBody_0 : decode cX8_readBody 0 = .ok (.iload_n 1, 1) := by decide +kernel
theorem dX8_readBody_1 : decode cX8_readBody 1 = .ok (.lookupswitch 56 #[(99, 42), (112, 49), (114, 35)], 35) := by decide +kernel
theorem dX8_readBody_36 : decode cX8_readBody 36 = .ok (.aload_n 0, 1) := by decide +kernel
theorem dX8_readBody_37 : decode cX8_readBody 37 = .ok (.invokevirtual 131, 3) := by decide +kernel
theorem dX8_readBody_40 : decode cX8_readBody 40 = .ok (.goto 21, 3) := by decide +kernel
theorem dX8_readBody_43 : decode cX8_readBody 43 = .ok (.aload_n 0, 1) := by decide +kernel
theorem dX8_readBody_44 : decode cX8_readBody 44 = .ok (.invokevirtual 134, 3) := by decide +kernel
theorem dX8_readBody_47 : decode cX8_readBody 47 = .ok (.goto 14, 3) := by decide +kernel
theorem dX8_readBody_50 : decode cX8_readBody 50 = .ok (.aload_n 0, 1) := by decide +kernel
theorem dX8_readBody_51 : decode cX8_readBody 51 = .ok (.invokevirtual 137, 3) := by decide +kernel
theorem dX8_readBody_54 : decode cX8_readBody 54 = .ok (.goto 7, 3) := by decide +kernel
theorem dX8_readBody_57 : decode cX8_readBody 57 = .ok (.aload_n 0, 1) := by decide +kernel
theorem dX8_readBody_58 : decode cX8_readBody 58 = .ok (.invokevirtual 140, 3) := by decide +kernel
theorem dX8_readBody_61 : decode cX8_readBody 61 = .ok (.return_, 1) := by decide +kernel
theorem dX8_readItem_0 : decode cX8_readItem 0 = .ok (.aload_n 0, 1) := by decide +kernel
theorem dX8_readItem_1 : decode cX8_readItem 1 = .ok (.getfield 98, 3) := by decide +kernel
theorem dX8_readItem_4 : decode cX8_readItem 4 = .ok (.istore_n 1, 1) := by decide +kernel
theorem dX8_readItem_5 : decode cX8_readItem 5 = .ok (.aload_n 0, 1) := by decide +kernel
theorem dX8_readItem_6 : decode cX8_readItem 6 = .ok (.getfield 101, 3) := by decide +kernel
theorem dX8_readItem_9 : decode cX8_readItem 9 = .ok (.iconst 1, 1) := by decide +kernel
theorem dX8_readItem_10 : decode cX8_readItem 10 = .ok (.if_icmp .ne 11, 3) := by decide +kernel
theorem dX8_readItem_13 : decode cX8_readItem 13 = .ok (.aload_n 0, 1) := by decide +kernel
theorem dX8_readItem_14 : decode cX8_readItem 14 = .ok (.iload_n 1, 1) := by decide +kernel
theorem dX8_readItem_15 : decode cX8_readItem 15 = .ok (.invokevirtual 143, 3) := by decide +kernel
theorem dX8_readItem_18 : decode cX8_readItem 18 = .ok (.ifCond .ne 9, 3) := by decide +kernel
theorem dX8_readItem_21 : decode cX8_readItem 21 = .ok (.aload_n 0, 1) := by decide +kernel
theorem dX8_readItem_22 : decode cX8_readItem 22 = .ok (.iconst 1, 1) := by decide +kernel
theorem dX8_readItem_23 : decode cX8_readItem 23 = .ok (.putfield 111, 3) := by decide +kernel
theorem dX8_readItem_26 : decode cX8_readItem 26 = .ok (.return_, 1) := by decide +kernel
theorem dX8_readItem_27 : decode cX8_readItem 27 = .ok (.aload_n 0, 1) := by decide +kernel
theorem dX8_readItem_28 : decode cX8_readItem 28 = .ok (.invokevirtual 115, 3) := by decide +kernel
theorem dX8_readItem_31 : decode cX8_readItem 31 = .ok (.aload_n 0, 1) := by decide +kernel
theorem dX8_readItem_32 : decode cX8_readItem 32 = .ok (.iload_n 1, 1) := by decide +kernel
theorem dX8_readItem_33 : decode cX8_readItem 33 = .ok (.invokevirtual 146, 3) := by decide +kernel
theorem dX8_readItem_36 : decode cX8_readItem 36 = .ok (.aload_n 0, 1) := by decide +kernel
theorem dX8_readItem_37 : decode cX8_readItem 37 = .ok (.aload_n 0, 1) := by decide +kernel
theorem dX8_readItem_38 : decode cX8_readItem 38 = .ok (.getfield 111, 3) := by decide +kernel
theorem dX8_readItem_41 : decode cX8_readItem 41 = .ok (.ifCond .ne 11, 3) := by decide +kernel
theorem dX8_readItem_44 : decode cX8_readItem 44 = .ok (.aload_n 0, 1) := by decide +kernel
theorem dX8_readItem_45 : decode cX8_readItem 45 = .ok (.getfield 101, 3) := by decide +kernel
theorem dX8_readItem_48 : decode cX8_readItem 48 = .ok (.iconst 3, 1) := by decide +kernel
theorem dX8_readItem_49 : decode cX8_readItem 49 = .ok (.if_icmp .eq 7, 3) := by decide +kernel
theorem dX8_readItem_52 : decode cX8_readItem 52 = .ok (.iconst 1, 1) := by decide +kernel
theorem dX8_readItem_53 : decode cX8_readItem 53 = .ok (.goto 4, 3) := by decide +kernel
theorem dX8_readItem_56 : decode cX8_readItem 56 = .ok (.iconst 0, 1) := by decide +kernel
theorem dX8_readItem_57 : decode cX8_readItem 57 = .ok (.putfield 111, 3) := by decide +kernel
theorem dX8_readItem_60 : decode cX8_readItem 60 = .ok (.aload_n 0, 1) := by decide +kernel
theorem dX8_readItem_61 : decode cX8_readItem 61 = .ok (.getfield 111, 3) := by decide +kernel
theorem dX8_readItem_64 : decode cX8_readItem 64 = .ok (.ifCond .ne 7, 3) := by decide +kernel
theorem dX8_readItem_67 : decode cX8_readItem 67 = .ok (.aload_n 0, 1) := by decide +kernel
theorem dX8_readItem_68 : decode cX8_readItem 68 = .ok (.invokevirtual 115, 3) := by decide +kernel
theorem dX8_readItem_71 : decode cX8_readItem 71 = .ok (.return_, 1) := by decide +kernel
theorem dX8_diocese_0 : decode cX8_diocese 0 = .ok (.aload_n 0, 1) := by decide +kernel
theorem dX8_diocese_1 : decode cX8_diocese 1 = .ok (.iconst 0, 1) := by decide +kernel
theorem dX8_diocese_2 : decode cX8_diocese 2 = .ok (.putfield 88, 3) := by decide +kernel
theorem dX8_diocese_5 : decode cX8_diocese 5 = .ok (.aload_n 0, 1) := by decide +kernel
theorem dX8_diocese_6 : decode cX8_diocese 6 = .ok (.iconst 0, 1) := by decide +kernel
theorem dX8_diocese_7 : decode cX8_diocese 7 = .ok (.putfield 111, 3) := by decide +kernel
theorem dX8_diocese_10 : decode cX8_diocese 10 = .ok (.aload_n 0, 1) := by decide +kernel
theorem dX8_diocese_11 : decode cX8_diocese 11 = .ok (.iconst 0, 1) := by decide +kernel
theorem dX8_diocese_12 : decode cX8_diocese 12 = .ok (.putfield 150, 3) := by decide +kernel
theorem dX8_diocese_15 : decode cX8_diocese 15 = .ok (.aload_n 0, 1) := by decide +kernel
theorem dX8_diocese_16 : decode cX8_diocese 16 = .ok (.iconst 0, 1) := by decide +kernel
theorem dX8_diocese_17 : decode cX8_diocese 17 = .ok (.putfield 122, 3) := by decide +kernel
theorem dX8_diocese_20 : decode cX8_diocese 20 = .ok (.aload_n 0, 1) := by decide +kernel
theorem dX8_diocese_21 : decode cX8_diocese 21 = .ok (.iconst 0, 1) := by decide +kernel
theorem dX8_diocese_22 : decode cX8_diocese 22 = .ok (.putfield 125, 3) := by decide +kernel
theorem dX8_diocese_25 : decode cX8_diocese 25 = .ok (.aload_n 0, 1) := by decide +kernel
theorem dX8_diocese_26 : decode cX8_diocese 26 = .ok (.iconst 0, 1) := by decide +kernel
theorem dX8_diocese_27 : decode cX8_diocese 27 = .ok (.putfield 128, 3) := by decide +kernel
theorem dX8_diocese_30 : decode cX8_diocese 30 = .ok (.iconst 0, 1) := by decide +kernel
theorem dX8_diocese_31 : decode cX8_diocese 31 = .ok (.istore_n 1, 1) := by decide +kernel
theorem dX8_diocese_32 : decode cX8_diocese 32 = .ok (.iload_n 1, 1) := by decide +kernel
theorem dX8_diocese_33 : decode cX8_diocese 33 = .ok (.bipush 24, 2) := by decide +kernel
theorem dX8_diocese_35 : decode cX8_diocese 35 = .ok (.if_icmp .ge 16, 3) := by decide +kernel
theorem dX8_diocese_38 : decode cX8_diocese 38 = .ok (.aload_n 0, 1) := by decide +kernel
theorem dX8_diocese_39 : decode cX8_diocese 39 = .ok (.getfield 50, 3) := by decide +kernel
theorem dX8_diocese_42 : decode cX8_diocese 42 = .ok (.iload_n 1, 1) := by decide +kernel
theorem dX8_diocese_43 : decode cX8_diocese 43 = .ok (.iconst 0, 1) := by decide +kernel
theorem dX8_diocese_44 : decode cX8_diocese 44 = .ok (.iastore, 1) := by decide +kernel
theorem dX8_diocese_45 : decode cX8_diocese 45 = .ok (.iinc 1 1, 3) := by decide +kernel
theorem dX8_diocese_48 : decode cX8_diocese 48 = .ok (.goto (-16), 3) := by decide +kernel
theorem dX8_diocese_51 : decode cX8_diocese 51 = .ok (.aload_n 0, 1) := by decide +kernel
theorem dX8_diocese_52 : decode cX8_diocese 52 = .ok (.invokevirtual 115, 3) := by decide +kernel
theorem dX8_diocese_55 : decode cX8_diocese 55 = .ok (.aload_n 0, 1) := by decide +kernel
theorem dX8_diocese_56 : decode cX8_diocese 56 = .ok (.getfield 101, 3) := by decide +kernel
theorem dX8_diocese_59 : decode cX8_diocese 59 = .ok (.ifCond .eq 27, 3) := by decide +kernel
theorem dX8_diocese_62 : decode cX8_diocese 62 = .ok (.aload_n 0, 1) := by decide +kernel
theorem dX8_diocese_63 : decode cX8_diocese 63 = .ok (.getfield 111, 3) := by decide +kernel
theorem dX8_diocese_66 : decode cX8_diocese 66 = .ok (.ifCond .ne 20, 3) := by decide +kernel
theorem dX8_diocese_69 : decode cX8_diocese 69 = .ok (.aload_n 0, 1) := by decide +kernel
theorem dX8_diocese_70 : decode cX8_diocese 70 = .ok (.invokevirtual 153, 3) := by decide +kernel
theorem dX8_diocese_73 : decode cX8_diocese 73 = .ok (.aload_n 0, 1) := by decide +kernel
theorem dX8_diocese_74 : decode cX8_diocese 74 = .ok (.dup, 1) := by decide +kernel
theorem dX8_diocese_75 : decode cX8_diocese 75 = .ok (.getfield 150, 3) := by decide +kernel
theorem dX8_diocese_78 : decode cX8_diocese 78 = .ok (.iconst 1, 1) := by decide +kernel
theorem dX8_diocese_79 : decode cX8_diocese 79 = .ok (.iadd, 1) := by decide +kernel
theorem dX8_diocese_80 : decode cX8_diocese 80 = .ok (.putfield 150, 3) := by decide +kernel
theorem dX8_diocese_83 : decode cX8_diocese 83 = .ok (.goto (-28), 3) := by decide +kernel
theorem dX8_diocese_86 : decode cX8_diocese 86 = .ok (.aload_n 0, 1) := by decide +kernel
theorem dX8_diocese_87 : decode cX8_diocese 87 = .ok (.getfield 111, 3) := by decide +kernel
theorem dX8_diocese_90 : decode cX8_diocese 90 = .ok (.ifCond .eq 11, 3) := by decide +kernel
theorem dX8_diocese_93 : decode cX8_diocese 93 = .ok (.bipush (-10), 2) := by decide +kernel
theorem dX8_diocese_95 : decode cX8_diocese 95 = .ok (.aload_n 0, 1) := by decide +kernel
theorem dX8_diocese_96 : decode cX8_diocese 96 = .ok (.getfield 95, 3) := by decide +kernel
theorem dX8_diocese_99 : decode cX8_diocese 99 = .ok (.isub, 1) := by decide +kernel
theorem dX8_diocese_100 : decode cX8_diocese 100 = .ok (.ireturn, 1) := by decide +kernel
theorem dX8_diocese_101 : decode cX8_diocese 101 = .ok (.aload_n 0, 1) := by decide +kernel
theorem dX8_diocese_102 : decode cX8_diocese 102 = .ok (.invokevirtual 156, 3) := by decide +kernel
theorem dX8_diocese_105 : decode cX8_diocese 105 = .ok (.aload_n 0, 1) := by decide +kernel
theorem dX8_diocese_106 : decode cX8_diocese 106 = .ok (.getfield 150, 3) := by decide +kernel
theorem dX8_diocese_109 : decode cX8_diocese 109 = .ok (.ireturn, 1) := by decide +kernel
theorem dX8_settles_0 : decode cX8_settles 0 = .ok (.aload_n 0, 1) := by decide +kernel
theorem dX8_settles_1 : decode cX8_settles 1 = .ok (.aload_n 0, 1) := by decide +kernel
theorem dX8_settles_2 : decode cX8_settles 2 = .ok (.getfield 122, 3) := by decide +kernel
theorem dX8_settles_5 : decode cX8_settles 5 = .ok (.putfield 74, 3) := by decide +kernel
theorem dX8_settles_8 : decode cX8_settles 8 = .ok (.aload_n 0, 1) := by decide +kernel
theorem dX8_settles_9 : decode cX8_settles 9 = .ok (.aload_n 0, 1) := by decide +kernel
theorem dX8_settles_10 : decode cX8_settles 10 = .ok (.getfield 125, 3) := by decide +kernel
theorem dX8_settles_13 : decode cX8_settles 13 = .ok (.putfield 82, 3) := by decide +kernel
theorem dX8_settles_16 : decode cX8_settles 16 = .ok (.aload_n 0, 1) := by decide +kernel
theorem dX8_settles_17 : decode cX8_settles 17 = .ok (.aload_n 0, 1) := by decide +kernel
theorem dX8_settles_18 : decode cX8_settles 18 = .ok (.getfield 128, 3) := by decide +kernel
theorem dX8_settles_21 : decode cX8_settles 21 = .ok (.putfield 159, 3) := by decide +kernel
theorem dX8_settles_24 : decode cX8_settles 24 = .ok (.iconst 0, 1) := by decide +kernel
theorem dX8_settles_25 : decode cX8_settles 25 = .ok (.istore_n 1, 1) := by decide +kernel
theorem dX8_settles_26 : decode cX8_settles 26 = .ok (.iload_n 1, 1) := by decide +kernel
theorem dX8_settles_27 : decode cX8_settles 27 = .ok (.iconst 5, 1) := by decide +kernel
theorem dX8_settles_28 : decode cX8_settles 28 = .ok (.if_icmp .ge 57, 3) := by decide +kernel
theorem dX8_settles_31 : decode cX8_settles 31 = .ok (.aload_n 0, 1) := by decide +kernel
theorem dX8_settles_32 : decode cX8_settles 32 = .ok (.getfield 7, 3) := by decide +kernel
theorem dX8_settles_35 : decode cX8_settles 35 = .ok (.iload_n 1, 1) := by decide +kernel
theorem dX8_settles_36 : decode cX8_settles 36 = .ok (.aload_n 0, 1) := by decide +kernel
theorem dX8_settles_37 : decode cX8_settles 37 = .ok (.getfield 53, 3) := by decide +kernel
theorem dX8_settles_40 : decode cX8_settles 40 = .ok (.iload_n 1, 1) := by decide +kernel
theorem dX8_settles_41 : decode cX8_settles 41 = .ok (.iaload, 1) := by decide +kernel
theorem dX8_settles_42 : decode cX8_settles 42 = .ok (.iastore, 1) := by decide +kernel
theorem dX8_settles_43 : decode cX8_settles 43 = .ok (.aload_n 0, 1) := by decide +kernel
theorem dX8_settles_44 : decode cX8_settles 44 = .ok (.getfield 13, 3) := by decide +kernel
theorem dX8_settles_47 : decode cX8_settles 47 = .ok (.iload_n 1, 1) := by decide +kernel
theorem dX8_settles_48 : decode cX8_settles 48 = .ok (.aload_n 0, 1) := by decide +kernel
theorem dX8_settles_49 : decode cX8_settles 49 = .ok (.getfield 56, 3) := by decide +kernel
theorem dX8_settles_52 : decode cX8_settles 52 = .ok (.iload_n 1, 1) := by decide +kernel
theorem dX8_settles_53 : decode cX8_settles 53 = .ok (.iaload, 1) := by decide +kernel
theorem dX8_settles_54 : decode cX8_settles 54 = .ok (.iastore, 1) := by decide +kernel
theorem dX8_settles_55 : decode cX8_settles 55 = .ok (.aload_n 0, 1) := by decide +kernel
theorem dX8_settles_56 : decode cX8_settles 56 = .ok (.getfield 16, 3) := by decide +kernel
theorem dX8_settles_59 : decode cX8_settles 59 = .ok (.iload_n 1, 1) := by decide +kernel
theorem dX8_settles_60 : decode cX8_settles 60 = .ok (.aload_n 0, 1) := by decide +kernel
theorem dX8_settles_61 : decode cX8_settles 61 = .ok (.getfield 59, 3) := by decide +kernel
theorem dX8_settles_64 : decode cX8_settles 64 = .ok (.iload_n 1, 1) := by decide +kernel
theorem dX8_settles_65 : decode cX8_settles 65 = .ok (.iaload, 1) := by decide +kernel
theorem dX8_settles_66 : decode cX8_settles 66 = .ok (.iastore, 1) := by decide +kernel
theorem dX8_settles_67 : decode cX8_settles 67 = .ok (.aload_n 0, 1) := by decide +kernel
theorem dX8_settles_68 : decode cX8_settles 68 = .ok (.getfield 19, 3) := by decide +kernel
theorem dX8_settles_71 : decode cX8_settles 71 = .ok (.iload_n 1, 1) := by decide +kernel
theorem dX8_settles_72 : decode cX8_settles 72 = .ok (.aload_n 0, 1) := by decide +kernel
theorem dX8_settles_73 : decode cX8_settles 73 = .ok (.getfield 62, 3) := by decide +kernel
theorem dX8_settles_76 : decode cX8_settles 76 = .ok (.iload_n 1, 1) := by decide +kernel
theorem dX8_settles_77 : decode cX8_settles 77 = .ok (.iaload, 1) := by decide +kernel
theorem dX8_settles_78 : decode cX8_settles 78 = .ok (.iastore, 1) := by decide +kernel
theorem dX8_settles_79 : decode cX8_settles 79 = .ok (.iinc 1 1, 3) := by decide +kernel
theorem dX8_settles_82 : decode cX8_settles 82 = .ok (.goto (-56), 3) := by decide +kernel
theorem dX8_settles_85 : decode cX8_settles 85 = .ok (.iconst 0, 1) := by decide +kernel
theorem dX8_settles_86 : decode cX8_settles 86 = .ok (.istore_n 1, 1) := by decide +kernel
theorem dX8_settles_87 : decode cX8_settles 87 = .ok (.iload_n 1, 1) := by decide +kernel
theorem dX8_settles_88 : decode cX8_settles 88 = .ok (.iconst 4, 1) := by decide +kernel
theorem dX8_settles_89 : decode cX8_settles 89 = .ok (.if_icmp .ge 33, 3) := by decide +kernel
theorem dX8_settles_92 : decode cX8_settles 92 = .ok (.aload_n 0, 1) := by decide +kernel
theorem dX8_settles_93 : decode cX8_settles 93 = .ok (.getfield 22, 3) := by decide +kernel
theorem dX8_settles_96 : decode cX8_settles 96 = .ok (.iload_n 1, 1) := by decide +kernel
theorem dX8_settles_97 : decode cX8_settles 97 = .ok (.aload_n 0, 1) := by decide +kernel
theorem dX8_settles_98 : decode cX8_settles 98 = .ok (.getfield 65, 3) := by decide +kernel
theorem dX8_settles_101 : decode cX8_settles 101 = .ok (.iload_n 1, 1) := by decide +kernel
theorem dX8_settles_102 : decode cX8_settles 102 = .ok (.iaload, 1) := by decide +kernel
theorem dX8_settles_103 : decode cX8_settles 103 = .ok (.iastore, 1) := by decide +kernel
theorem dX8_settles_104 : decode cX8_settles 104 = .ok (.aload_n 0, 1) := by decide +kernel
theorem dX8_settles_105 : decode cX8_settles 105 = .ok (.getfield 25, 3) := by decide +kernel
theorem dX8_settles_108 : decode cX8_settles 108 = .ok (.iload_n 1, 1) := by decide +kernel
theorem dX8_settles_109 : decode cX8_settles 109 = .ok (.aload_n 0, 1) := by decide +kernel
theorem dX8_settles_110 : decode cX8_settles 110 = .ok (.getfield 68, 3) := by decide +kernel
theorem dX8_settles_113 : decode cX8_settles 113 = .ok (.iload_n 1, 1) := by decide +kernel
theorem dX8_settles_114 : decode cX8_settles 114 = .ok (.iaload, 1) := by decide +kernel
theorem dX8_settles_115 : decode cX8_settles 115 = .ok (.iastore, 1) := by decide +kernel
theorem dX8_settles_116 : decode cX8_settles 116 = .ok (.iinc 1 1, 3) := by decide +kernel
theorem dX8_settles_119 : decode cX8_settles 119 = .ok (.goto (-32), 3) := by decide +kernel
theorem dX8_settles_122 : decode cX8_settles 122 = .ok (.iconst 0, 1) := by decide +kernel
theorem dX8_settles_123 : decode cX8_settles 123 = .ok (.istore_n 1, 1) := by decide +kernel
theorem dX8_settles_124 : decode cX8_settles 124 = .ok (.iload_n 1, 1) := by decide +kernel
theorem dX8_settles_125 : decode cX8_settles 125 = .ok (.bipush 12, 2) := by decide +kernel
theorem dX8_settles_127 : decode cX8_settles 127 = .ok (.if_icmp .ge 21, 3) := by decide +kernel
theorem dX8_settles_130 : decode cX8_settles 130 = .ok (.aload_n 0, 1) := by decide +kernel
theorem dX8_settles_131 : decode cX8_settles 131 = .ok (.getfield 28, 3) := by decide +kernel
theorem dX8_settles_134 : decode cX8_settles 134 = .ok (.iload_n 1, 1) := by decide +kernel
theorem dX8_settles_135 : decode cX8_settles 135 = .ok (.aload_n 0, 1) := by decide +kernel
theorem dX8_settles_136 : decode cX8_settles 136 = .ok (.getfield 71, 3) := by decide +kernel
theorem dX8_settles_139 : decode cX8_settles 139 = .ok (.iload_n 1, 1) := by decide +kernel
theorem dX8_settles_140 : decode cX8_settles 140 = .ok (.iaload, 1) := by decide +kernel
theorem dX8_settles_141 : decode cX8_settles 141 = .ok (.iastore, 1) := by decide +kernel
theorem dX8_settles_142 : decode cX8_settles 142 = .ok (.iinc 1 1, 3) := by decide +kernel
theorem dX8_settles_145 : decode cX8_settles 145 = .ok (.goto (-21), 3) := by decide +kernel
theorem dX8_settles_148 : decode cX8_settles 148 = .ok (.iconst 0, 1) := by decide +kernel
theorem dX8_settles_149 : decode cX8_settles 149 = .ok (.istore_n 1, 1) := by decide +kernel
theorem dX8_settles_150 : decode cX8_settles 150 = .ok (.iload_n 1, 1) := by decide +kernel
theorem dX8_settles_151 : decode cX8_settles 151 = .ok (.sipush 507, 3) := by decide +kernel
theorem dX8_settles_154 : decode cX8_settles 154 = .ok (.if_icmp .ge 16, 3) := by decide +kernel
theorem dX8_settles_157 : decode cX8_settles 157 = .ok (.aload_n 0, 1) := by decide +kernel
theorem dX8_settles_158 : decode cX8_settles 158 = .ok (.getfield 31, 3) := by decide +kernel
theorem dX8_settles_161 : decode cX8_settles 161 = .ok (.iload_n 1, 1) := by decide +kernel
theorem dX8_settles_162 : decode cX8_settles 162 = .ok (.iconst 0, 1) := by decide +kernel
theorem dX8_settles_163 : decode cX8_settles 163 = .ok (.iastore, 1) := by decide +kernel
theorem dX8_settles_164 : decode cX8_settles 164 = .ok (.iinc 1 1, 3) := by decide +kernel
theorem dX8_settles_167 : decode cX8_settles 167 = .ok (.goto (-17), 3) := by decide +kernel
theorem dX8_settles_170 : decode cX8_settles 170 = .ok (.iconst 0, 1) := by decide +kernel
theorem dX8_settles_171 : decode cX8_settles 171 = .ok (.istore_n 1, 1) := by decide +kernel
theorem dX8_settles_172 : decode cX8_settles 172 = .ok (.iload_n 1, 1) := by decide +kernel
theorem dX8_settles_173 : decode cX8_settles 173 = .ok (.bipush 24, 2) := by decide +kernel
theorem dX8_settles_175 : decode cX8_settles 175 = .ok (.if_icmp .ge 23, 3) := by decide +kernel
theorem dX8_settles_178 : decode cX8_settles 178 = .ok (.aload_n 0, 1) := by decide +kernel
theorem dX8_settles_179 : decode cX8_settles 179 = .ok (.getfield 31, 3) := by decide +kernel
theorem dX8_settles_182 : decode cX8_settles 182 = .ok (.iconst 1, 1) := by decide +kernel
theorem dX8_settles_183 : decode cX8_settles 183 = .ok (.iload_n 1, 1) := by decide +kernel
theorem dX8_settles_184 : decode cX8_settles 184 = .ok (.iadd, 1) := by decide +kernel
theorem dX8_settles_185 : decode cX8_settles 185 = .ok (.aload_n 0, 1) := by decide +kernel
theorem dX8_settles_186 : decode cX8_settles 186 = .ok (.getfield 50, 3) := by decide +kernel
theorem dX8_settles_189 : decode cX8_settles 189 = .ok (.iload_n 1, 1) := by decide +kernel
theorem dX8_settles_190 : decode cX8_settles 190 = .ok (.iaload, 1) := by decide +kernel
theorem dX8_settles_191 : decode cX8_settles 191 = .ok (.iastore, 1) := by decide +kernel
theorem dX8_settles_192 : decode cX8_settles 192 = .ok (.iinc 1 1, 3) := by decide +kernel
theorem dX8_settles_195 : decode cX8_settles 195 = .ok (.goto (-23), 3) := by decide +kernel
theorem dX8_settles_198 : decode cX8_settles 198 = .ok (.aload_n 0, 1) := by decide +kernel
theorem dX8_settles_199 : decode cX8_settles 199 = .ok (.iconst 0, 1) := by decide +kernel
theorem dX8_settles_200 : decode cX8_settles 200 = .ok (.putfield 162, 3) := by decide +kernel
theorem dX8_settles_203 : decode cX8_settles 203 = .ok (.aload_n 0, 1) := by decide +kernel
theorem dX8_settles_204 : decode cX8_settles 204 = .ok (.iconst 0, 1) := by decide +kernel
theorem dX8_settles_205 : decode cX8_settles 205 = .ok (.putfield 165, 3) := by decide +kernel
theorem dX8_settles_208 : decode cX8_settles 208 = .ok (.aload_n 0, 1) := by decide +kernel
theorem dX8_settles_209 : decode cX8_settles 209 = .ok (.getfield 37, 3) := by decide +kernel
theorem dX8_settles_212 : decode cX8_settles 212 = .ok (.iconst 0, 1) := by decide +kernel
theorem dX8_settles_213 : decode cX8_settles 213 = .ok (.iconst 0, 1) := by decide +kernel
theorem dX8_settles_214 : decode cX8_settles 214 = .ok (.bastore, 1) := by decide +kernel
theorem dX8_settles_215 : decode cX8_settles 215 = .ok (.aload_n 0, 1) := by decide +kernel
theorem dX8_settles_216 : decode cX8_settles 216 = .ok (.getfield 37, 3) := by decide +kernel
theorem dX8_settles_219 : decode cX8_settles 219 = .ok (.iconst 1, 1) := by decide +kernel
theorem dX8_settles_220 : decode cX8_settles 220 = .ok (.iconst 0, 1) := by decide +kernel
theorem dX8_settles_221 : decode cX8_settles 221 = .ok (.bastore, 1) := by decide +kernel
theorem dX8_settles_222 : decode cX8_settles 222 = .ok (.aload_n 0, 1) := by decide +kernel
theorem dX8_settles_223 : decode cX8_settles 223 = .ok (.iconst 0, 1) := by decide +kernel
theorem dX8_settles_224 : decode cX8_settles 224 = .ok (.putfield 85, 3) := by decide +kernel
theorem dX8_settles_227 : decode cX8_settles 227 = .ok (.return_, 1) := by decide +kernel
theorem dX8_eye_0 : decode cX8_eye 0 = .ok (.aload_n 0, 1) := by decide +kernel
theorem dX8_eye_1 : decode cX8_eye 1 = .ok (.getfield 31, 3) := by decide +kernel
theorem dX8_eye_4 : decode cX8_eye 4 = .ok (.iconst 1, 1) := by decide +kernel
theorem dX8_eye_5 : decode cX8_eye 5 = .ok (.aload_n 0, 1) := by decide +kernel
theorem dX8_eye_6 : decode cX8_eye 6 = .ok (.getfield 7, 3) := by decide +kernel
theorem dX8_eye_9 : decode cX8_eye 9 = .ok (.iload_n 1, 1) := by decide +kernel
theorem dX8_eye_10 : decode cX8_eye 10 = .ok (.iaload, 1) := by decide +kernel
theorem dX8_eye_11 : decode cX8_eye 11 = .ok (.iadd, 1) := by decide +kernel
theorem dX8_eye_12 : decode cX8_eye 12 = .ok (.iaload, 1) := by decide +kernel
theorem dX8_eye_13 : decode cX8_eye 13 = .ok (.aload_n 0, 1) := by decide +kernel
theorem dX8_eye_14 : decode cX8_eye 14 = .ok (.getfield 13, 3) := by decide +kernel
theorem dX8_eye_17 : decode cX8_eye 17 = .ok (.iload_n 1, 1) := by decide +kernel
theorem dX8_eye_18 : decode cX8_eye 18 = .ok (.iaload, 1) := by decide +kernel
theorem dX8_eye_19 : decode cX8_eye 19 = .ok (.iadd, 1) := by decide +kernel
theorem dX8_eye_20 : decode cX8_eye 20 = .ok (.ireturn, 1) := by decide +kernel
theorem dX8_sideBy_0 : decode cX8_sideBy 0 = .ok (.iload_n 1, 1) := by decide +kernel
theorem dX8_sideBy_1 : decode cX8_sideBy 1 = .ok (.ifCond .le 18, 3) := by decide +kernel
theorem dX8_sideBy_4 : decode cX8_sideBy 4 = .ok (.iload_n 2, 1) := by decide +kernel
theorem dX8_sideBy_5 : decode cX8_sideBy 5 = .ok (.iload_n 1, 1) := by decide +kernel
theorem dX8_sideBy_6 : decode cX8_sideBy 6 = .ok (.idiv, 1) := by decide +kernel
theorem dX8_sideBy_7 : decode cX8_sideBy 7 = .ok (.iconst 2, 1) := by decide +kernel
theorem dX8_sideBy_8 : decode cX8_sideBy 8 = .ok (.irem, 1) := by decide +kernel
theorem dX8_sideBy_9 : decode cX8_sideBy 9 = .ok (.iconst 1, 1) := by decide +kernel
theorem dX8_sideBy_10 : decode cX8_sideBy 10 = .ok (.if_icmp .ne 9, 3) := by decide +kernel
theorem dX8_sideBy_13 : decode cX8_sideBy 13 = .ok (.iconst 1, 1) := by decide +kernel
theorem dX8_sideBy_14 : decode cX8_sideBy 14 = .ok (.iload_n 0, 1) := by decide +kernel
theorem dX8_sideBy_15 : decode cX8_sideBy 15 = .ok (.isub, 1) := by decide +kernel
theorem dX8_sideBy_16 : decode cX8_sideBy 16 = .ok (.goto 4, 3) := by decide +kernel
theorem dX8_sideBy_19 : decode cX8_sideBy 19 = .ok (.iload_n 0, 1) := by decide +kernel
theorem dX8_sideBy_20 : decode cX8_sideBy 20 = .ok (.ireturn, 1) := by decide +kernel
theorem dX8_isAsked_0 : decode cX8_isAsked 0 = .ok (.aload_n 0, 1) := by decide +kernel
theorem dX8_isAsked_1 : decode cX8_isAsked 1 = .ok (.getfield 31, 3) := by decide +kernel
theorem dX8_isAsked_4 : decode cX8_isAsked 4 = .ok (.bipush 45, 2) := by decide +kernel
theorem dX8_isAsked_6 : decode cX8_isAsked 6 = .ok (.iaload, 1) := by decide +kernel
theorem dX8_isAsked_7 : decode cX8_isAsked 7 = .ok (.iload_n 1, 1) := by decide +kernel
theorem dX8_isAsked_8 : decode cX8_isAsked 8 = .ok (.invokestatic 168, 3) := by decide +kernel
theorem dX8_isAsked_11 : decode cX8_isAsked 11 = .ok (.ireturn, 1) := by decide +kernel
theorem dX8_isClear_0 : decode cX8_isClear 0 = .ok (.iload_n 2, 1) := by decide +kernel
theorem dX8_isClear_1 : decode cX8_isClear 1 = .ok (.aload_n 0, 1) := by decide +kernel
theorem dX8_isClear_2 : decode cX8_isClear 2 = .ok (.getfield 7, 3) := by decide +kernel
theorem dX8_isClear_5 : decode cX8_isClear 5 = .ok (.iload_n 1, 1) := by decide +kernel
theorem dX8_isClear_6 : decode cX8_isClear 6 = .ok (.iaload, 1) := by decide +kernel
theorem dX8_isClear_7 : decode cX8_isClear 7 = .ok (.if_icmp .le 7, 3) := by decide +kernel
theorem dX8_isClear_10 : decode cX8_isClear 10 = .ok (.iconst 1, 1) := by decide +kernel
theorem dX8_isClear_11 : decode cX8_isClear 11 = .ok (.goto 4, 3) := by decide +kernel
theorem dX8_isClear_14 : decode cX8_isClear 14 = .ok (.iconst (-1), 1) := by decide +kernel
theorem dX8_isClear_15 : decode cX8_isClear 15 = .ok (.istore_n 3, 1) := by decide +kernel
theorem dX8_isClear_16 : decode cX8_isClear 16 = .ok (.iload_n 2, 1) := by decide +kernel
theorem dX8_isClear_17 : decode cX8_isClear 17 = .ok (.aload_n 0, 1) := by decide +kernel
theorem dX8_isClear_18 : decode cX8_isClear 18 = .ok (.getfield 7, 3) := by decide +kernel
theorem dX8_isClear_21 : decode cX8_isClear 21 = .ok (.iload_n 1, 1) := by decide +kernel
theorem dX8_isClear_22 : decode cX8_isClear 22 = .ok (.iaload, 1) := by decide +kernel
theorem dX8_isClear_23 : decode cX8_isClear 23 = .ok (.isub, 1) := by decide +kernel
theorem dX8_isClear_24 : decode cX8_isClear 24 = .ok (.iload_n 3, 1) := by decide +kernel
theorem dX8_isClear_25 : decode cX8_isClear 25 = .ok (.imul, 1) := by decide +kernel
theorem dX8_isClear_26 : decode cX8_isClear 26 = .ok (.istore 4, 2) := by decide +kernel
theorem dX8_isClear_28 : decode cX8_isClear 28 = .ok (.iconst 1, 1) := by decide +kernel
theorem dX8_isClear_29 : decode cX8_isClear 29 = .ok (.istore 5, 2) := by decide +kernel
theorem dX8_isClear_31 : decode cX8_isClear 31 = .ok (.iconst 1, 1) := by decide +kernel
theorem dX8_isClear_32 : decode cX8_isClear 32 = .ok (.istore 6, 2) := by decide +kernel
theorem dX8_isClear_34 : decode cX8_isClear 34 = .ok (.iload 6, 2) := by decide +kernel
theorem dX8_isClear_36 : decode cX8_isClear 36 = .ok (.iload 4, 2) := by decide +kernel
theorem dX8_isClear_38 : decode cX8_isClear 38 = .ok (.if_icmp .ge 72, 3) := by decide +kernel
theorem dX8_isClear_41 : decode cX8_isClear 41 = .ok (.aload_n 0, 1) := by decide +kernel
theorem dX8_isClear_42 : decode cX8_isClear 42 = .ok (.getfield 31, 3) := by decide +kernel
theorem dX8_isClear_45 : decode cX8_isClear 45 = .ok (.iconst 1, 1) := by decide +kernel
theorem dX8_isClear_46 : decode cX8_isClear 46 = .ok (.aload_n 0, 1) := by decide +kernel
theorem dX8_isClear_47 : decode cX8_isClear 47 = .ok (.getfield 7, 3) := by decide +kernel
theorem dX8_isClear_50 : decode cX8_isClear 50 = .ok (.iload_n 1, 1) := by decide +kernel
theorem dX8_isClear_51 : decode cX8_isClear 51 = .ok (.iaload, 1) := by decide +kernel
theorem dX8_isClear_52 : decode cX8_isClear 52 = .ok (.iadd, 1) := by decide +kernel
theorem dX8_isClear_53 : decode cX8_isClear 53 = .ok (.iload_n 3, 1) := by decide +kernel
theorem dX8_isClear_54 : decode cX8_isClear 54 = .ok (.iload 6, 2) := by decide +kernel
theorem dX8_isClear_56 : decode cX8_isClear 56 = .ok (.imul, 1) := by decide +kernel
theorem dX8_isClear_57 : decode cX8_isClear 57 = .ok (.iadd, 1) := by decide +kernel
theorem dX8_isClear_58 : decode cX8_isClear 58 = .ok (.iaload, 1) := by decide +kernel
theorem dX8_isClear_59 : decode cX8_isClear 59 = .ok (.istore 7, 2) := by decide +kernel
theorem dX8_isClear_61 : decode cX8_isClear 61 = .ok (.iload 5, 2) := by decide +kernel
theorem dX8_isClear_63 : decode cX8_isClear 63 = .ok (.ifCond .eq 38, 3) := by decide +kernel
theorem dX8_isClear_66 : decode cX8_isClear 66 = .ok (.iload 7, 2) := by decide +kernel
theorem dX8_isClear_68 : decode cX8_isClear 68 = .ok (.iload 4, 2) := by decide +kernel
theorem dX8_isClear_70 : decode cX8_isClear 70 = .ok (.imul, 1) := by decide +kernel
theorem dX8_isClear_71 : decode cX8_isClear 71 = .ok (.aload_n 0, 1) := by decide +kernel
theorem dX8_isClear_72 : decode cX8_isClear 72 = .ok (.iload_n 1, 1) := by decide +kernel
theorem dX8_isClear_73 : decode cX8_isClear 73 = .ok (.invokevirtual 172, 3) := by decide +kernel
theorem dX8_isClear_76 : decode cX8_isClear 76 = .ok (.iload 4, 2) := by decide +kernel
theorem dX8_isClear_78 : decode cX8_isClear 78 = .ok (.iload 6, 2) := by decide +kernel
theorem dX8_isClear_80 : decode cX8_isClear 80 = .ok (.isub, 1) := by decide +kernel
theorem dX8_isClear_81 : decode cX8_isClear 81 = .ok (.imul, 1) := by decide +kernel
theorem dX8_isClear_82 : decode cX8_isClear 82 = .ok (.aload_n 0, 1) := by decide +kernel
theorem dX8_isClear_83 : decode cX8_isClear 83 = .ok (.getfield 31, 3) := by decide +kernel
theorem dX8_isClear_86 : decode cX8_isClear 86 = .ok (.iconst 1, 1) := by decide +kernel
theorem dX8_isClear_87 : decode cX8_isClear 87 = .ok (.iload_n 2, 1) := by decide +kernel
theorem dX8_isClear_88 : decode cX8_isClear 88 = .ok (.iadd, 1) := by decide +kernel
theorem dX8_isClear_89 : decode cX8_isClear 89 = .ok (.iaload, 1) := by decide +kernel
theorem dX8_isClear_90 : decode cX8_isClear 90 = .ok (.iload 6, 2) := by decide +kernel
theorem dX8_isClear_92 : decode cX8_isClear 92 = .ok (.imul, 1) := by decide +kernel
theorem dX8_isClear_93 : decode cX8_isClear 93 = .ok (.iadd, 1) := by decide +kernel
theorem dX8_isClear_94 : decode cX8_isClear 94 = .ok (.if_icmp .gt 7, 3) := by decide +kernel
theorem dX8_isClear_97 : decode cX8_isClear 97 = .ok (.iconst 1, 1) := by decide +kernel
theorem dX8_isClear_98 : decode cX8_isClear 98 = .ok (.goto 4, 3) := by decide +kernel
theorem dX8_isClear_101 : decode cX8_isClear 101 = .ok (.iconst 0, 1) := by decide +kernel
theorem dX8_isClear_102 : decode cX8_isClear 102 = .ok (.istore 5, 2) := by decide +kernel
theorem dX8_isClear_104 : decode cX8_isClear 104 = .ok (.iinc 6 1, 3) := by decide +kernel
theorem dX8_isClear_107 : decode cX8_isClear 107 = .ok (.goto (-73), 3) := by decide +kernel
theorem dX8_isClear_110 : decode cX8_isClear 110 = .ok (.iload 5, 2) := by decide +kernel
theorem dX8_isClear_112 : decode cX8_isClear 112 = .ok (.ireturn, 1) := by decide +kernel
theorem dX8_sees_0 : decode cX8_sees 0 = .ok (.aload_n 0, 1) := by decide +kernel
theorem dX8_sees_1 : decode cX8_sees 1 = .ok (.getfield 16, 3) := by decide +kernel
theorem dX8_sees_4 : decode cX8_sees 4 = .ok (.iload_n 1, 1) := by decide +kernel
theorem dX8_sees_5 : decode cX8_sees 5 = .ok (.iaload, 1) := by decide +kernel
theorem dX8_sees_6 : decode cX8_sees 6 = .ok (.aload_n 0, 1) := by decide +kernel
theorem dX8_sees_7 : decode cX8_sees 7 = .ok (.getfield 19, 3) := by decide +kernel
theorem dX8_sees_10 : decode cX8_sees 10 = .ok (.iload_n 1, 1) := by decide +kernel
theorem dX8_sees_11 : decode cX8_sees 11 = .ok (.iaload, 1) := by decide +kernel
theorem dX8_sees_12 : decode cX8_sees 12 = .ok (.iload_n 3, 1) := by decide +kernel
theorem dX8_sees_13 : decode cX8_sees 13 = .ok (.invokestatic 175, 3) := by decide +kernel
theorem dX8_sees_16 : decode cX8_sees 16 = .ok (.istore 4, 2) := by decide +kernel
theorem dX8_sees_18 : decode cX8_sees 18 = .ok (.iload_n 2, 1) := by decide +kernel
theorem dX8_sees_19 : decode cX8_sees 19 = .ok (.aload_n 0, 1) := by decide +kernel
theorem dX8_sees_20 : decode cX8_sees 20 = .ok (.getfield 7, 3) := by decide +kernel
theorem dX8_sees_23 : decode cX8_sees 23 = .ok (.iload_n 1, 1) := by decide +kernel
theorem dX8_sees_24 : decode cX8_sees 24 = .ok (.iaload, 1) := by decide +kernel
theorem dX8_sees_25 : decode cX8_sees 25 = .ok (.if_icmp .eq 45, 3) := by decide +kernel
theorem dX8_sees_28 : decode cX8_sees 28 = .ok (.iload 4, 2) := by decide +kernel
theorem dX8_sees_30 : decode cX8_sees 30 = .ok (.iconst 1, 1) := by decide +kernel
theorem dX8_sees_31 : decode cX8_sees 31 = .ok (.if_icmp .ne 7, 3) := by decide +kernel
theorem dX8_sees_34 : decode cX8_sees 34 = .ok (.iconst 1, 1) := by decide +kernel
theorem dX8_sees_35 : decode cX8_sees 35 = .ok (.goto 4, 3) := by decide +kernel
theorem dX8_sees_38 : decode cX8_sees 38 = .ok (.iconst 0, 1) := by decide +kernel
theorem dX8_sees_39 : decode cX8_sees 39 = .ok (.iload_n 2, 1) := by decide +kernel
theorem dX8_sees_40 : decode cX8_sees 40 = .ok (.aload_n 0, 1) := by decide +kernel
theorem dX8_sees_41 : decode cX8_sees 41 = .ok (.getfield 7, 3) := by decide +kernel
theorem dX8_sees_44 : decode cX8_sees 44 = .ok (.iload_n 1, 1) := by decide +kernel
theorem dX8_sees_45 : decode cX8_sees 45 = .ok (.iaload, 1) := by decide +kernel
theorem dX8_sees_46 : decode cX8_sees 46 = .ok (.if_icmp .le 7, 3) := by decide +kernel
theorem dX8_sees_49 : decode cX8_sees 49 = .ok (.iconst 1, 1) := by decide +kernel
theorem dX8_sees_50 : decode cX8_sees 50 = .ok (.goto 4, 3) := by decide +kernel
theorem dX8_sees_53 : decode cX8_sees 53 = .ok (.iconst 0, 1) := by decide +kernel
theorem dX8_sees_54 : decode cX8_sees 54 = .ok (.if_icmp .ne 16, 3) := by decide +kernel
theorem dX8_sees_57 : decode cX8_sees 57 = .ok (.aload_n 0, 1) := by decide +kernel
theorem dX8_sees_58 : decode cX8_sees 58 = .ok (.iload_n 1, 1) := by decide +kernel
theorem dX8_sees_59 : decode cX8_sees 59 = .ok (.iload_n 2, 1) := by decide +kernel
theorem dX8_sees_60 : decode cX8_sees 60 = .ok (.invokevirtual 179, 3) := by decide +kernel
theorem dX8_sees_63 : decode cX8_sees 63 = .ok (.ifCond .eq 7, 3) := by decide +kernel
theorem dX8_sees_66 : decode cX8_sees 66 = .ok (.iconst 1, 1) := by decide +kernel
theorem dX8_sees_67 : decode cX8_sees 67 = .ok (.goto 4, 3) := by decide +kernel
theorem dX8_sees_70 : decode cX8_sees 70 = .ok (.iconst 0, 1) := by decide +kernel
theorem dX8_sees_71 : decode cX8_sees 71 = .ok (.ireturn, 1) := by decide +kernel
theorem dX8_isSmoke_0 : decode cX8_isSmoke 0 = .ok (.iconst 0, 1) := by decide +kernel
theorem dX8_isSmoke_1 : decode cX8_isSmoke 1 = .ok (.istore_n 3, 1) := by decide +kernel
theorem dX8_isSmoke_2 : decode cX8_isSmoke 2 = .ok (.iconst 0, 1) := by decide +kernel
theorem dX8_isSmoke_3 : decode cX8_isSmoke 3 = .ok (.istore 4, 2) := by decide +kernel
theorem dX8_isSmoke_5 : decode cX8_isSmoke 5 = .ok (.iload 4, 2) := by decide +kernel
theorem dX8_isSmoke_7 : decode cX8_isSmoke 7 = .ok (.aload_n 0, 1) := by decide +kernel
theorem dX8_isSmoke_8 : decode cX8_isSmoke 8 = .ok (.getfield 159, 3) := by decide +kernel
theorem dX8_isSmoke_11 : decode cX8_isSmoke 11 = .ok (.if_icmp .ge 61, 3) := by decide +kernel
theorem dX8_isSmoke_14 : decode cX8_isSmoke 14 = .ok (.iload_n 3, 1) := by decide +kernel
theorem dX8_isSmoke_15 : decode cX8_isSmoke 15 = .ok (.ifCond .ne 45, 3) := by decide +kernel
theorem dX8_isSmoke_18 : decode cX8_isSmoke 18 = .ok (.aload_n 0, 1) := by decide +kernel
theorem dX8_isSmoke_19 : decode cX8_isSmoke 19 = .ok (.getfield 28, 3) := by decide +kernel
theorem dX8_isSmoke_22 : decode cX8_isSmoke 22 = .ok (.iconst 3, 1) := by decide +kernel
theorem dX8_isSmoke_23 : decode cX8_isSmoke 23 = .ok (.iload 4, 2) := by decide +kernel
theorem dX8_isSmoke_25 : decode cX8_isSmoke 25 = .ok (.imul, 1) := by decide +kernel
theorem dX8_isSmoke_26 : decode cX8_isSmoke 26 = .ok (.iaload, 1) := by decide +kernel
theorem dX8_isSmoke_27 : decode cX8_isSmoke 27 = .ok (.iload_n 1, 1) := by decide +kernel
theorem dX8_isSmoke_28 : decode cX8_isSmoke 28 = .ok (.if_icmp .ne 36, 3) := by decide +kernel
theorem dX8_isSmoke_31 : decode cX8_isSmoke 31 = .ok (.iload_n 2, 1) := by decide +kernel
theorem dX8_isSmoke_32 : decode cX8_isSmoke 32 = .ok (.aload_n 0, 1) := by decide +kernel
theorem dX8_isSmoke_33 : decode cX8_isSmoke 33 = .ok (.getfield 28, 3) := by decide +kernel
theorem dX8_isSmoke_36 : decode cX8_isSmoke 36 = .ok (.iconst 3, 1) := by decide +kernel
theorem dX8_isSmoke_37 : decode cX8_isSmoke 37 = .ok (.iload 4, 2) := by decide +kernel
theorem dX8_isSmoke_39 : decode cX8_isSmoke 39 = .ok (.imul, 1) := by decide +kernel
theorem dX8_isSmoke_40 : decode cX8_isSmoke 40 = .ok (.iconst 1, 1) := by decide +kernel
theorem dX8_isSmoke_41 : decode cX8_isSmoke 41 = .ok (.iadd, 1) := by decide +kernel
theorem dX8_isSmoke_42 : decode cX8_isSmoke 42 = .ok (.iaload, 1) := by decide +kernel
theorem dX8_isSmoke_43 : decode cX8_isSmoke 43 = .ok (.aload_n 0, 1) := by decide +kernel
theorem dX8_isSmoke_44 : decode cX8_isSmoke 44 = .ok (.getfield 28, 3) := by decide +kernel
theorem dX8_isSmoke_47 : decode cX8_isSmoke 47 = .ok (.iconst 3, 1) := by decide +kernel
theorem dX8_isSmoke_48 : decode cX8_isSmoke 48 = .ok (.iload 4, 2) := by decide +kernel
theorem dX8_isSmoke_50 : decode cX8_isSmoke 50 = .ok (.imul, 1) := by decide +kernel
theorem dX8_isSmoke_51 : decode cX8_isSmoke 51 = .ok (.iconst 2, 1) := by decide +kernel
theorem dX8_isSmoke_52 : decode cX8_isSmoke 52 = .ok (.iadd, 1) := by decide +kernel
theorem dX8_isSmoke_53 : decode cX8_isSmoke 53 = .ok (.iaload, 1) := by decide +kernel
theorem dX8_isSmoke_54 : decode cX8_isSmoke 54 = .ok (.invokestatic 78, 3) := by decide +kernel
theorem dX8_isSmoke_57 : decode cX8_isSmoke 57 = .ok (.ifCond .eq 7, 3) := by decide +kernel
theorem dX8_isSmoke_60 : decode cX8_isSmoke 60 = .ok (.iconst 1, 1) := by decide +kernel
theorem dX8_isSmoke_61 : decode cX8_isSmoke 61 = .ok (.goto 4, 3) := by decide +kernel
theorem dX8_isSmoke_64 : decode cX8_isSmoke 64 = .ok (.iconst 0, 1) := by decide +kernel
theorem dX8_isSmoke_65 : decode cX8_isSmoke 65 = .ok (.istore_n 3, 1) := by decide +kernel
theorem dX8_isSmoke_66 : decode cX8_isSmoke 66 = .ok (.iinc 4 1, 3) := by decide +kernel
theorem dX8_isSmoke_69 : decode cX8_isSmoke 69 = .ok (.goto (-64), 3) := by decide +kernel
theorem dX8_isSmoke_72 : decode cX8_isSmoke 72 = .ok (.iload_n 3, 1) := by decide +kernel
theorem dX8_isSmoke_73 : decode cX8_isSmoke 73 = .ok (.ireturn, 1) := by decide +kernel
theorem dX8_walks_0 : decode cX8_walks 0 = .ok (.aload_n 0, 1) := by decide +kernel
theorem dX8_walks_1 : decode cX8_walks 1 = .ok (.getfield 22, 3) := by decide +kernel
theorem dX8_walks_4 : decode cX8_walks 4 = .ok (.iload_n 1, 1) := by decide +kernel
theorem dX8_walks_5 : decode cX8_walks 5 = .ok (.iaload, 1) := by decide +kernel
theorem dX8_walks_6 : decode cX8_walks 6 = .ok (.iload_n 2, 1) := by decide +kernel
theorem dX8_walks_7 : decode cX8_walks 7 = .ok (.aload_n 0, 1) := by decide +kernel
theorem dX8_walks_8 : decode cX8_walks 8 = .ok (.getfield 25, 3) := by decide +kernel
theorem dX8_walks_11 : decode cX8_walks 11 = .ok (.iload_n 1, 1) := by decide +kernel
theorem dX8_walks_12 : decode cX8_walks 12 = .ok (.iaload, 1) := by decide +kernel
theorem dX8_walks_13 : decode cX8_walks 13 = .ok (.imul, 1) := by decide +kernel
theorem dX8_walks_14 : decode cX8_walks 14 = .ok (.iadd, 1) := by decide +kernel
theorem dX8_walks_15 : decode cX8_walks 15 = .ok (.istore_n 3, 1) := by decide +kernel
theorem dX8_walks_16 : decode cX8_walks 16 = .ok (.iload_n 3, 1) := by decide +kernel
theorem dX8_walks_17 : decode cX8_walks 17 = .ok (.invokestatic 182, 3) := by decide +kernel
theorem dX8_walks_20 : decode cX8_walks 20 = .ok (.ifCond .eq 7, 3) := by decide +kernel
theorem dX8_walks_23 : decode cX8_walks 23 = .ok (.iload_n 3, 1) := by decide +kernel
theorem dX8_walks_24 : decode cX8_walks 24 = .ok (.goto 5, 3) := by decide +kernel
theorem dX8_walks_27 : decode cX8_walks 27 = .ok (.bipush (-9), 2) := by decide +kernel
theorem dX8_walks_29 : decode cX8_walks 29 = .ok (.ireturn, 1) := by decide +kernel
theorem dX8_sawOf_0 : decode cX8_sawOf 0 = .ok (.aload_n 0, 1) := by decide +kernel
theorem dX8_sawOf_1 : decode cX8_sawOf 1 = .ok (.getfield 31, 3) := by decide +kernel
theorem dX8_sawOf_4 : decode cX8_sawOf 4 = .ok (.bipush 25, 2) := by decide +kernel
theorem dX8_sawOf_6 : decode cX8_sawOf 6 = .ok (.iconst 4, 1) := by decide +kernel
theorem dX8_sawOf_7 : decode cX8_sawOf 7 = .ok (.iload_n 1, 1) := by decide +kernel
theorem dX8_sawOf_8 : decode cX8_sawOf 8 = .ok (.imul, 1) := by decide +kernel
theorem dX8_sawOf_9 : decode cX8_sawOf 9 = .ok (.iadd, 1) := by decide +kernel
theorem dX8_sawOf_10 : decode cX8_sawOf 10 = .ok (.iload_n 2, 1) := by decide +kernel
theorem dX8_sawOf_11 : decode cX8_sawOf 11 = .ok (.iadd, 1) := by decide +kernel
theorem dX8_sawOf_12 : decode cX8_sawOf 12 = .ok (.iaload, 1) := by decide +kernel
theorem dX8_sawOf_13 : decode cX8_sawOf 13 = .ok (.ireturn, 1) := by decide +kernel
theorem dX8_sawBy_0 : decode cX8_sawBy 0 = .ok (.iconst 0, 1) := by decide +kernel
theorem dX8_sawBy_1 : decode cX8_sawBy 1 = .ok (.istore_n 2, 1) := by decide +kernel
theorem dX8_sawBy_2 : decode cX8_sawBy 2 = .ok (.iconst 0, 1) := by decide +kernel
theorem dX8_sawBy_3 : decode cX8_sawBy 3 = .ok (.istore_n 3, 1) := by decide +kernel
theorem dX8_sawBy_4 : decode cX8_sawBy 4 = .ok (.iload_n 3, 1) := by decide +kernel
theorem dX8_sawBy_5 : decode cX8_sawBy 5 = .ok (.aload_n 0, 1) := by decide +kernel
theorem dX8_sawBy_6 : decode cX8_sawBy 6 = .ok (.getfield 82, 3) := by decide +kernel
theorem dX8_sawBy_9 : decode cX8_sawBy 9 = .ok (.if_icmp .ge 63, 3) := by decide +kernel
theorem dX8_sawBy_12 : decode cX8_sawBy 12 = .ok (.iconst 0, 1) := by decide +kernel
theorem dX8_sawBy_13 : decode cX8_sawBy 13 = .ok (.istore 4, 2) := by decide +kernel
theorem dX8_sawBy_15 : decode cX8_sawBy 15 = .ok (.iconst 0, 1) := by decide +kernel
theorem dX8_sawBy_16 : decode cX8_sawBy 16 = .ok (.istore 5, 2) := by decide +kernel
theorem dX8_sawBy_18 : decode cX8_sawBy 18 = .ok (.iload 5, 2) := by decide +kernel
theorem dX8_sawBy_20 : decode cX8_sawBy 20 = .ok (.aload_n 0, 1) := by decide +kernel
theorem dX8_sawBy_21 : decode cX8_sawBy 21 = .ok (.getfield 74, 3) := by decide +kernel
theorem dX8_sawBy_24 : decode cX8_sawBy 24 = .ok (.if_icmp .ge 34, 3) := by decide +kernel
theorem dX8_sawBy_27 : decode cX8_sawBy 27 = .ok (.iload 4, 2) := by decide +kernel
theorem dX8_sawBy_29 : decode cX8_sawBy 29 = .ok (.iload_n 1, 1) := by decide +kernel
theorem dX8_sawBy_30 : decode cX8_sawBy 30 = .ok (.iload 5, 2) := by decide +kernel
theorem dX8_sawBy_32 : decode cX8_sawBy 32 = .ok (.invokestatic 168, 3) := by decide +kernel
theorem dX8_sawBy_35 : decode cX8_sawBy 35 = .ok (.ifCond .eq 13, 3) := by decide +kernel
theorem dX8_sawBy_38 : decode cX8_sawBy 38 = .ok (.aload_n 0, 1) := by decide +kernel
theorem dX8_sawBy_39 : decode cX8_sawBy 39 = .ok (.iload 5, 2) := by decide +kernel
theorem dX8_sawBy_41 : decode cX8_sawBy 41 = .ok (.iload_n 3, 1) := by decide +kernel
theorem dX8_sawBy_42 : decode cX8_sawBy 42 = .ok (.invokevirtual 185, 3) := by decide +kernel
theorem dX8_sawBy_45 : decode cX8_sawBy 45 = .ok (.goto 4, 3) := by decide +kernel
theorem dX8_sawBy_48 : decode cX8_sawBy 48 = .ok (.iconst 0, 1) := by decide +kernel
theorem dX8_sawBy_49 : decode cX8_sawBy 49 = .ok (.ior, 1) := by decide +kernel
theorem dX8_sawBy_50 : decode cX8_sawBy 50 = .ok (.istore 4, 2) := by decide +kernel
theorem dX8_sawBy_52 : decode cX8_sawBy 52 = .ok (.iinc 5 1, 3) := by decide +kernel
theorem dX8_sawBy_55 : decode cX8_sawBy 55 = .ok (.goto (-37), 3) := by decide +kernel
theorem dX8_sawBy_58 : decode cX8_sawBy 58 = .ok (.iload_n 2, 1) := by decide +kernel
theorem dX8_sawBy_59 : decode cX8_sawBy 59 = .ok (.iload 4, 2) := by decide +kernel
theorem dX8_sawBy_61 : decode cX8_sawBy 61 = .ok (.invokestatic 188, 3) := by decide +kernel
theorem dX8_sawBy_64 : decode cX8_sawBy 64 = .ok (.iadd, 1) := by decide +kernel
theorem dX8_sawBy_65 : decode cX8_sawBy 65 = .ok (.istore_n 2, 1) := by decide +kernel
theorem dX8_sawBy_66 : decode cX8_sawBy 66 = .ok (.iinc 3 1, 3) := by decide +kernel
theorem dX8_sawBy_69 : decode cX8_sawBy 69 = .ok (.goto (-65), 3) := by decide +kernel
theorem dX8_sawBy_72 : decode cX8_sawBy 72 = .ok (.iload_n 2, 1) := by decide +kernel
theorem dX8_sawBy_73 : decode cX8_sawBy 73 = .ok (.ireturn, 1) := by decide +kernel
theorem dX8_all_0 : decode cX8_all 0 = .ok (.iconst 1, 1) := by decide +kernel
theorem dX8_all_1 : decode cX8_all 1 = .ok (.aload_n 0, 1) := by decide +kernel
theorem dX8_all_2 : decode cX8_all 2 = .ok (.getfield 74, 3) := by decide +kernel
theorem dX8_all_5 : decode cX8_all 5 = .ok (.ishl, 1) := by decide +kernel
theorem dX8_all_6 : decode cX8_all 6 = .ok (.iconst 1, 1) := by decide +kernel
theorem dX8_all_7 : decode cX8_all 7 = .ok (.isub, 1) := by decide +kernel
theorem dX8_all_8 : decode cX8_all 8 = .ok (.ireturn, 1) := by decide +kernel
theorem dX8_knownMuch_0 : decode cX8_knownMuch 0 = .ok (.aload_n 0, 1) := by decide +kernel
theorem dX8_knownMuch_1 : decode cX8_knownMuch 1 = .ok (.aload_n 0, 1) := by decide +kernel
theorem dX8_knownMuch_2 : decode cX8_knownMuch 2 = .ok (.getfield 31, 3) := by decide +kernel
theorem dX8_knownMuch_5 : decode cX8_knownMuch 5 = .ok (.bipush 45, 2) := by decide +kernel
theorem dX8_knownMuch_7 : decode cX8_knownMuch 7 = .ok (.iaload, 1) := by decide +kernel
theorem dX8_knownMuch_8 : decode cX8_knownMuch 8 = .ok (.invokevirtual 191, 3) := by decide +kernel
theorem dX8_knownMuch_11 : decode cX8_knownMuch 11 = .ok (.ireturn, 1) := by decide +kernel
theorem dX8_isLess_0 : decode cX8_isLess 0 = .ok (.iload_n 0, 1) := by decide +kernel
theorem dX8_isLess_1 : decode cX8_isLess 1 = .ok (.invokestatic 188, 3) := by decide +kernel
theorem dX8_isLess_4 : decode cX8_isLess 4 = .ok (.iload_n 1, 1) := by decide +kernel
theorem dX8_isLess_5 : decode cX8_isLess 5 = .ok (.invokestatic 188, 3) := by decide +kernel
theorem dX8_isLess_8 : decode cX8_isLess 8 = .ok (.if_icmp .lt 19, 3) := by decide +kernel
theorem dX8_isLess_11 : decode cX8_isLess 11 = .ok (.iload_n 0, 1) := by decide +kernel
theorem dX8_isLess_12 : decode cX8_isLess 12 = .ok (.invokestatic 188, 3) := by decide +kernel
theorem dX8_isLess_15 : decode cX8_isLess 15 = .ok (.iload_n 1, 1) := by decide +kernel
theorem dX8_isLess_16 : decode cX8_isLess 16 = .ok (.invokestatic 188, 3) := by decide +kernel
theorem dX8_isLess_19 : decode cX8_isLess 19 = .ok (.if_icmp .ne 12, 3) := by decide +kernel
theorem dX8_isLess_22 : decode cX8_isLess 22 = .ok (.iload_n 0, 1) := by decide +kernel
theorem dX8_isLess_23 : decode cX8_isLess 23 = .ok (.iload_n 1, 1) := by decide +kernel
theorem dX8_isLess_24 : decode cX8_isLess 24 = .ok (.if_icmp .ge 7, 3) := by decide +kernel
theorem dX8_isLess_27 : decode cX8_isLess 27 = .ok (.iconst 1, 1) := by decide +kernel
theorem dX8_isLess_28 : decode cX8_isLess 28 = .ok (.goto 4, 3) := by decide +kernel
theorem dX8_isLess_31 : decode cX8_isLess 31 = .ok (.iconst 0, 1) := by decide +kernel
theorem dX8_isLess_32 : decode cX8_isLess 32 = .ok (.ireturn, 1) := by decide +kernel
theorem dX8_cover_0 : decode cX8_cover 0 = .ok (.aload_n 0, 1) := by decide +kernel
theorem dX8_cover_1 : decode cX8_cover 1 = .ok (.invokevirtual 194, 3) := by decide +kernel
theorem dX8_cover_4 : decode cX8_cover 4 = .ok (.istore_n 1, 1) := by decide +kernel
theorem dX8_cover_5 : decode cX8_cover 5 = .ok (.iconst 0, 1) := by decide +kernel
theorem dX8_cover_6 : decode cX8_cover 6 = .ok (.istore_n 2, 1) := by decide +kernel
theorem dX8_cover_7 : decode cX8_cover 7 = .ok (.iload_n 2, 1) := by decide +kernel
theorem dX8_cover_8 : decode cX8_cover 8 = .ok (.aload_n 0, 1) := by decide +kernel
theorem dX8_cover_9 : decode cX8_cover 9 = .ok (.invokevirtual 194, 3) := by decide +kernel
theorem dX8_cover_12 : decode cX8_cover 12 = .ok (.if_icmp .gt 81, 3) := by decide +kernel
theorem dX8_cover_15 : decode cX8_cover 15 = .ok (.iload_n 2, 1) := by decide +kernel
theorem dX8_cover_16 : decode cX8_cover 16 = .ok (.aload_n 0, 1) := by decide +kernel
theorem dX8_cover_17 : decode cX8_cover 17 = .ok (.getfield 31, 3) := by decide +kernel
theorem dX8_cover_20 : decode cX8_cover 20 = .ok (.bipush 45, 2) := by decide +kernel
theorem dX8_cover_22 : decode cX8_cover 22 = .ok (.iaload, 1) := by decide +kernel
theorem dX8_cover_23 : decode cX8_cover 23 = .ok (.iand, 1) := by decide +kernel
theorem dX8_cover_24 : decode cX8_cover 24 = .ok (.ifCond .ne 31, 3) := by decide +kernel
theorem dX8_cover_27 : decode cX8_cover 27 = .ok (.aload_n 0, 1) := by decide +kernel
theorem dX8_cover_28 : decode cX8_cover 28 = .ok (.iload_n 2, 1) := by decide +kernel
theorem dX8_cover_29 : decode cX8_cover 29 = .ok (.aload_n 0, 1) := by decide +kernel
theorem dX8_cover_30 : decode cX8_cover 30 = .ok (.getfield 31, 3) := by decide +kernel
theorem dX8_cover_33 : decode cX8_cover 33 = .ok (.bipush 45, 2) := by decide +kernel
theorem dX8_cover_35 : decode cX8_cover 35 = .ok (.iaload, 1) := by decide +kernel
theorem dX8_cover_36 : decode cX8_cover 36 = .ok (.ior, 1) := by decide +kernel
theorem dX8_cover_37 : decode cX8_cover 37 = .ok (.invokevirtual 191, 3) := by decide +kernel
theorem dX8_cover_40 : decode cX8_cover 40 = .ok (.aload_n 0, 1) := by decide +kernel
theorem dX8_cover_41 : decode cX8_cover 41 = .ok (.aload_n 0, 1) := by decide +kernel
theorem dX8_cover_42 : decode cX8_cover 42 = .ok (.invokevirtual 194, 3) := by decide +kernel
theorem dX8_cover_45 : decode cX8_cover 45 = .ok (.invokevirtual 191, 3) := by decide +kernel
theorem dX8_cover_48 : decode cX8_cover 48 = .ok (.if_icmp .ne 7, 3) := by decide +kernel
theorem dX8_cover_51 : decode cX8_cover 51 = .ok (.iconst 1, 1) := by decide +kernel
theorem dX8_cover_52 : decode cX8_cover 52 = .ok (.goto 4, 3) := by decide +kernel
theorem dX8_cover_55 : decode cX8_cover 55 = .ok (.iconst 0, 1) := by decide +kernel
theorem dX8_cover_56 : decode cX8_cover 56 = .ok (.istore_n 3, 1) := by decide +kernel
theorem dX8_cover_57 : decode cX8_cover 57 = .ok (.iload_n 3, 1) := by decide +kernel
theorem dX8_cover_58 : decode cX8_cover 58 = .ok (.ifCond .eq 27, 3) := by decide +kernel
theorem dX8_cover_61 : decode cX8_cover 61 = .ok (.iload_n 2, 1) := by decide +kernel
theorem dX8_cover_62 : decode cX8_cover 62 = .ok (.iload_n 1, 1) := by decide +kernel
theorem dX8_cover_63 : decode cX8_cover 63 = .ok (.invokestatic 198, 3) := by decide +kernel
theorem dX8_cover_66 : decode cX8_cover 66 = .ok (.ifCond .ne 15, 3) := by decide +kernel
theorem dX8_cover_69 : decode cX8_cover 69 = .ok (.iload_n 1, 1) := by decide +kernel
theorem dX8_cover_70 : decode cX8_cover 70 = .ok (.aload_n 0, 1) := by decide +kernel
theorem dX8_cover_71 : decode cX8_cover 71 = .ok (.getfield 31, 3) := by decide +kernel
theorem dX8_cover_74 : decode cX8_cover 74 = .ok (.bipush 45, 2) := by decide +kernel
theorem dX8_cover_76 : decode cX8_cover 76 = .ok (.iaload, 1) := by decide +kernel
theorem dX8_cover_77 : decode cX8_cover 77 = .ok (.iand, 1) := by decide +kernel
theorem dX8_cover_78 : decode cX8_cover 78 = .ok (.ifCond .eq 7, 3) := by decide +kernel
theorem dX8_cover_81 : decode cX8_cover 81 = .ok (.iload_n 2, 1) := by decide +kernel
theorem dX8_cover_82 : decode cX8_cover 82 = .ok (.goto 4, 3) := by decide +kernel
theorem dX8_cover_85 : decode cX8_cover 85 = .ok (.iload_n 1, 1) := by decide +kernel
theorem dX8_cover_86 : decode cX8_cover 86 = .ok (.istore_n 1, 1) := by decide +kernel
theorem dX8_cover_87 : decode cX8_cover 87 = .ok (.iinc 2 1, 3) := by decide +kernel
theorem dX8_cover_90 : decode cX8_cover 90 = .ok (.goto (-83), 3) := by decide +kernel
theorem dX8_cover_93 : decode cX8_cover 93 = .ok (.iload_n 1, 1) := by decide +kernel
theorem dX8_cover_94 : decode cX8_cover 94 = .ok (.ireturn, 1) := by decide +kernel
theorem dX8_roof_0 : decode cX8_roof 0 = .ok (.iload_n 1, 1) := by decide +kernel
theorem dX8_roof_1 : decode cX8_roof 1 = .ok (.invokestatic 182, 3) := by decide +kernel
theorem dX8_roof_4 : decode cX8_roof 4 = .ok (.ifCond .eq 14, 3) := by decide +kernel
theorem dX8_roof_7 : decode cX8_roof 7 = .ok (.aload_n 0, 1) := by decide +kernel
theorem dX8_roof_8 : decode cX8_roof 8 = .ok (.getfield 31, 3) := by decide +kernel
theorem dX8_roof_11 : decode cX8_roof 11 = .ok (.iconst 1, 1) := by decide +kernel
theorem dX8_roof_12 : decode cX8_roof 12 = .ok (.iload_n 1, 1) := by decide +kernel
theorem dX8_roof_13 : decode cX8_roof 13 = .ok (.iadd, 1) := by decide +kernel
theorem dX8_roof_14 : decode cX8_roof 14 = .ok (.iaload, 1) := by decide +kernel
theorem dX8_roof_15 : decode cX8_roof 15 = .ok (.goto 4, 3) := by decide +kernel
theorem dX8_roof_18 : decode cX8_roof 18 = .ok (.iconst (-1), 1) := by decide +kernel
theorem dX8_roof_19 : decode cX8_roof 19 = .ok (.ireturn, 1) := by decide +kernel
theorem dX8_cock_0 : decode cX8_cock 0 = .ok (.aload_n 0, 1) := by decide +kernel
theorem dX8_cock_1 : decode cX8_cock 1 = .ok (.iload_n 1, 1) := by decide +kernel
theorem dX8_cock_2 : decode cX8_cock 2 = .ok (.invokevirtual 201, 3) := by decide +kernel
theorem dX8_cock_5 : decode cX8_cock 5 = .ok (.ifCond .ne 5, 3) := by decide +kernel
theorem dX8_cock_8 : decode cX8_cock 8 = .ok (.iconst (-1), 1) := by decide +kernel
theorem dX8_cock_9 : decode cX8_cock 9 = .ok (.ireturn, 1) := by decide +kernel
theorem dX8_cock_10 : decode cX8_cock 10 = .ok (.iload_n 2, 1) := by decide +kernel
theorem dX8_cock_11 : decode cX8_cock 11 = .ok (.tableswitch 123 0 7 #[45, 52, 59, 66, 73, 79, 101, 115], 45) := by decide +kernel
theorem dX8_cock_56 : decode cX8_cock 56 = .ok (.aload_n 0, 1) := by decide +kernel
theorem dX8_cock_57 : decode cX8_cock 57 = .ok (.getfield 7, 3) := by decide +kernel
theorem dX8_cock_60 : decode cX8_cock 60 = .ok (.iload_n 1, 1) := by decide +kernel
theorem dX8_cock_61 : decode cX8_cock 61 = .ok (.iaload, 1) := by decide +kernel
theorem dX8_cock_62 : decode cX8_cock 62 = .ok (.ireturn, 1) := by decide +kernel
theorem dX8_cock_63 : decode cX8_cock 63 = .ok (.aload_n 0, 1) := by decide +kernel
theorem dX8_cock_64 : decode cX8_cock 64 = .ok (.getfield 13, 3) := by decide +kernel
theorem dX8_cock_67 : decode cX8_cock 67 = .ok (.iload_n 1, 1) := by decide +kernel
theorem dX8_cock_68 : decode cX8_cock 68 = .ok (.iaload, 1) := by decide +kernel
theorem dX8_cock_69 : decode cX8_cock 69 = .ok (.ireturn, 1) := by decide +kernel
theorem dX8_cock_70 : decode cX8_cock 70 = .ok (.aload_n 0, 1) := by decide +kernel
theorem dX8_cock_71 : decode cX8_cock 71 = .ok (.getfield 16, 3) := by decide +kernel
theorem dX8_cock_74 : decode cX8_cock 74 = .ok (.iload_n 1, 1) := by decide +kernel
theorem dX8_cock_75 : decode cX8_cock 75 = .ok (.iaload, 1) := by decide +kernel
theorem dX8_cock_76 : decode cX8_cock 76 = .ok (.ireturn, 1) := by decide +kernel
theorem dX8_cock_77 : decode cX8_cock 77 = .ok (.aload_n 0, 1) := by decide +kernel
theorem dX8_cock_78 : decode cX8_cock 78 = .ok (.getfield 19, 3) := by decide +kernel
theorem dX8_cock_81 : decode cX8_cock 81 = .ok (.iload_n 1, 1) := by decide +kernel
theorem dX8_cock_82 : decode cX8_cock 82 = .ok (.iaload, 1) := by decide +kernel
theorem dX8_cock_83 : decode cX8_cock 83 = .ok (.ireturn, 1) := by decide +kernel
theorem dX8_cock_84 : decode cX8_cock 84 = .ok (.aload_n 0, 1) := by decide +kernel
theorem dX8_cock_85 : decode cX8_cock 85 = .ok (.iload_n 1, 1) := by decide +kernel
theorem dX8_cock_86 : decode cX8_cock 86 = .ok (.invokevirtual 172, 3) := by decide +kernel
theorem dX8_cock_89 : decode cX8_cock 89 = .ok (.ireturn, 1) := by decide +kernel
theorem dX8_cock_90 : decode cX8_cock 90 = .ok (.aload_n 0, 1) := by decide +kernel
theorem dX8_cock_91 : decode cX8_cock 91 = .ok (.getfield 16, 3) := by decide +kernel
theorem dX8_cock_94 : decode cX8_cock 94 = .ok (.iload_n 1, 1) := by decide +kernel
theorem dX8_cock_95 : decode cX8_cock 95 = .ok (.iaload, 1) := by decide +kernel
theorem dX8_cock_96 : decode cX8_cock 96 = .ok (.aload_n 0, 1) := by decide +kernel
theorem dX8_cock_97 : decode cX8_cock 97 = .ok (.getfield 19, 3) := by decide +kernel
theorem dX8_cock_100 : decode cX8_cock 100 = .ok (.iload_n 1, 1) := by decide +kernel
theorem dX8_cock_101 : decode cX8_cock 101 = .ok (.iaload, 1) := by decide +kernel
theorem dX8_cock_102 : decode cX8_cock 102 = .ok (.aload_n 0, 1) := by decide +kernel
theorem dX8_cock_103 : decode cX8_cock 103 = .ok (.getfield 31, 3) := by decide +kernel
theorem dX8_cock_106 : decode cX8_cock 106 = .ok (.iconst 0, 1) := by decide +kernel
theorem dX8_cock_107 : decode cX8_cock 107 = .ok (.iaload, 1) := by decide +kernel
theorem dX8_cock_108 : decode cX8_cock 108 = .ok (.invokestatic 175, 3) := by decide +kernel
theorem dX8_cock_111 : decode cX8_cock 111 = .ok (.ireturn, 1) := by decide +kernel
theorem dX8_cock_112 : decode cX8_cock 112 = .ok (.aload_n 0, 1) := by decide +kernel
theorem dX8_cock_113 : decode cX8_cock 113 = .ok (.iload_n 1, 1) := by decide +kernel
theorem dX8_cock_114 : decode cX8_cock 114 = .ok (.invokevirtual 204, 3) := by decide +kernel
theorem dX8_cock_117 : decode cX8_cock 117 = .ok (.ifCond .eq 7, 3) := by decide +kernel
theorem dX8_cock_120 : decode cX8_cock 120 = .ok (.iconst 1, 1) := by decide +kernel
theorem dX8_cock_121 : decode cX8_cock 121 = .ok (.goto 4, 3) := by decide +kernel
theorem dX8_cock_124 : decode cX8_cock 124 = .ok (.iconst 0, 1) := by decide +kernel
theorem dX8_cock_125 : decode cX8_cock 125 = .ok (.ireturn, 1) := by decide +kernel
theorem dX8_cock_126 : decode cX8_cock 126 = .ok (.aload_n 0, 1) := by decide +kernel
theorem dX8_cock_127 : decode cX8_cock 127 = .ok (.iconst 1, 1) := by decide +kernel
theorem dX8_cock_128 : decode cX8_cock 128 = .ok (.iload_n 1, 1) := by decide +kernel
theorem dX8_cock_129 : decode cX8_cock 129 = .ok (.ishl, 1) := by decide +kernel
theorem dX8_cock_130 : decode cX8_cock 130 = .ok (.invokevirtual 191, 3) := by decide +kernel
theorem dX8_cock_133 : decode cX8_cock 133 = .ok (.ireturn, 1) := by decide +kernel
theorem dX8_cock_134 : decode cX8_cock 134 = .ok (.iconst (-1), 1) := by decide +kernel
theorem dX8_cock_135 : decode cX8_cock 135 = .ok (.ireturn, 1) := by decide +kernel
theorem dX8_one_0 : decode cX8_one 0 = .ok (.aload_n 0, 1) := by decide +kernel
theorem dX8_one_1 : decode cX8_one 1 = .ok (.iload_n 1, 1) := by decide +kernel
theorem dX8_one_2 : decode cX8_one 2 = .ok (.invokevirtual 207, 3) := by decide +kernel
theorem dX8_one_5 : decode cX8_one 5 = .ok (.ifCond .ne 6, 3) := by decide +kernel
theorem dX8_one_8 : decode cX8_one 8 = .ok (.ldc 210, 2) := by decide +kernel
theorem dX8_one_10 : decode cX8_one 10 = .ok (.ireturn, 1) := by decide +kernel
theorem dX8_one_11 : decode cX8_one 11 = .ok (.iload_n 2, 1) := by decide +kernel
theorem dX8_one_12 : decode cX8_one 12 = .ok (.ifCond .ne 12, 3) := by decide +kernel
theorem dX8_one_15 : decode cX8_one 15 = .ok (.aload_n 0, 1) := by decide +kernel
theorem dX8_one_16 : decode cX8_one 16 = .ok (.getfield 22, 3) := by decide +kernel
theorem dX8_one_19 : decode cX8_one 19 = .ok (.iload_n 1, 1) := by decide +kernel
theorem dX8_one_20 : decode cX8_one 20 = .ok (.iaload, 1) := by decide +kernel
theorem dX8_one_21 : decode cX8_one 21 = .ok (.goto 38, 3) := by decide +kernel
theorem dX8_one_24 : decode cX8_one 24 = .ok (.iload_n 2, 1) := by decide +kernel
theorem dX8_one_25 : decode cX8_one 25 = .ok (.iconst 1, 1) := by decide +kernel
theorem dX8_one_26 : decode cX8_one 26 = .ok (.if_icmp .ne 12, 3) := by decide +kernel
theorem dX8_one_29 : decode cX8_one 29 = .ok (.aload_n 0, 1) := by decide +kernel
theorem dX8_one_30 : decode cX8_one 30 = .ok (.getfield 25, 3) := by decide +kernel
theorem dX8_one_33 : decode cX8_one 33 = .ok (.iload_n 1, 1) := by decide +kernel
theorem dX8_one_34 : decode cX8_one 34 = .ok (.iaload, 1) := by decide +kernel
theorem dX8_one_35 : decode cX8_one 35 = .ok (.goto 24, 3) := by decide +kernel
theorem dX8_one_38 : decode cX8_one 38 = .ok (.iload_n 2, 1) := by decide +kernel
theorem dX8_one_39 : decode cX8_one 39 = .ok (.iconst 2, 1) := by decide +kernel
theorem dX8_one_40 : decode cX8_one 40 = .ok (.if_icmp .ne 17, 3) := by decide +kernel
theorem dX8_one_43 : decode cX8_one 43 = .ok (.aload_n 0, 1) := by decide +kernel
theorem dX8_one_44 : decode cX8_one 44 = .ok (.iload_n 1, 1) := by decide +kernel
theorem dX8_one_45 : decode cX8_one 45 = .ok (.aload_n 0, 1) := by decide +kernel
theorem dX8_one_46 : decode cX8_one 46 = .ok (.getfield 31, 3) := by decide +kernel
theorem dX8_one_49 : decode cX8_one 49 = .ok (.iconst 0, 1) := by decide +kernel
theorem dX8_one_50 : decode cX8_one 50 = .ok (.iaload, 1) := by decide +kernel
theorem dX8_one_51 : decode cX8_one 51 = .ok (.invokevirtual 211, 3) := by decide +kernel
theorem dX8_one_54 : decode cX8_one 54 = .ok (.goto 5, 3) := by decide +kernel
theorem dX8_one_57 : decode cX8_one 57 = .ok (.ldc 210, 2) := by decide +kernel
theorem dX8_one_59 : decode cX8_one 59 = .ok (.ireturn, 1) := by decide +kernel
theorem dX8_saw_0 : decode cX8_saw 0 = .ok (.aload_n 0, 1) := by decide +kernel
theorem dX8_saw_1 : decode cX8_saw 1 = .ok (.iload_n 1, 1) := by decide +kernel
theorem dX8_saw_2 : decode cX8_saw 2 = .ok (.invokevirtual 201, 3) := by decide +kernel
theorem dX8_saw_5 : decode cX8_saw 5 = .ok (.ifCond .eq 20, 3) := by decide +kernel
theorem dX8_saw_8 : decode cX8_saw 8 = .ok (.aload_n 0, 1) := by decide +kernel
theorem dX8_saw_9 : decode cX8_saw 9 = .ok (.iload_n 2, 1) := by decide +kernel
theorem dX8_saw_10 : decode cX8_saw 10 = .ok (.invokevirtual 207, 3) := by decide +kernel
theorem dX8_saw_13 : decode cX8_saw 13 = .ok (.ifCond .eq 12, 3) := by decide +kernel
theorem dX8_saw_16 : decode cX8_saw 16 = .ok (.aload_n 0, 1) := by decide +kernel
theorem dX8_saw_17 : decode cX8_saw 17 = .ok (.iload_n 1, 1) := by decide +kernel
theorem dX8_saw_18 : decode cX8_saw 18 = .ok (.iload_n 2, 1) := by decide +kernel
theorem dX8_saw_19 : decode cX8_saw 19 = .ok (.invokevirtual 185, 3) := by decide +kernel
theorem dX8_saw_22 : decode cX8_saw 22 = .ok (.goto 4, 3) := by decide +kernel
theorem dX8_saw_25 : decode cX8_saw 25 = .ok (.iconst (-1), 1) := by decide +kernel
theorem dX8_saw_26 : decode cX8_saw 26 = .ok (.ireturn, 1) := by decide +kernel
theorem dX8_known_0 : decode cX8_known 0 = .ok (.aload_n 0, 1) := by decide +kernel
theorem dX8_known_1 : decode cX8_known 1 = .ok (.iload_n 1, 1) := by decide +kernel
theorem dX8_known_2 : decode cX8_known 2 = .ok (.invokevirtual 207, 3) := by decide +kernel
theorem dX8_known_5 : decode cX8_known 5 = .ok (.ifCond .ne 5, 3) := by decide +kernel
theorem dX8_known_8 : decode cX8_known 8 = .ok (.iconst (-1), 1) := by decide +kernel
theorem dX8_known_9 : decode cX8_known 9 = .ok (.ireturn, 1) := by decide +kernel
theorem dX8_known_10 : decode cX8_known 10 = .ok (.iconst 0, 1) := by decide +kernel
theorem dX8_known_11 : decode cX8_known 11 = .ok (.istore_n 2, 1) := by decide +kernel
theorem dX8_known_12 : decode cX8_known 12 = .ok (.iconst 0, 1) := by decide +kernel
theorem dX8_known_13 : decode cX8_known 13 = .ok (.istore_n 3, 1) := by decide +kernel
theorem dX8_known_14 : decode cX8_known 14 = .ok (.iload_n 3, 1) := by decide +kernel
theorem dX8_known_15 : decode cX8_known 15 = .ok (.aload_n 0, 1) := by decide +kernel
theorem dX8_known_16 : decode cX8_known 16 = .ok (.getfield 74, 3) := by decide +kernel
theorem dX8_known_19 : decode cX8_known 19 = .ok (.if_icmp .ge 30, 3) := by decide +kernel
theorem dX8_known_22 : decode cX8_known 22 = .ok (.iload_n 2, 1) := by decide +kernel
theorem dX8_known_23 : decode cX8_known 23 = .ok (.aload_n 0, 1) := by decide +kernel
theorem dX8_known_24 : decode cX8_known 24 = .ok (.iload_n 3, 1) := by decide +kernel
theorem dX8_known_25 : decode cX8_known 25 = .ok (.invokevirtual 204, 3) := by decide +kernel
theorem dX8_known_28 : decode cX8_known 28 = .ok (.ifCond .eq 12, 3) := by decide +kernel
theorem dX8_known_31 : decode cX8_known 31 = .ok (.aload_n 0, 1) := by decide +kernel
theorem dX8_known_32 : decode cX8_known 32 = .ok (.iload_n 3, 1) := by decide +kernel
theorem dX8_known_33 : decode cX8_known 33 = .ok (.iload_n 1, 1) := by decide +kernel
theorem dX8_known_34 : decode cX8_known 34 = .ok (.invokevirtual 185, 3) := by decide +kernel
theorem dX8_known_37 : decode cX8_known 37 = .ok (.goto 4, 3) := by decide +kernel
theorem dX8_known_40 : decode cX8_known 40 = .ok (.iconst 0, 1) := by decide +kernel
theorem dX8_known_41 : decode cX8_known 41 = .ok (.ior, 1) := by decide +kernel
theorem dX8_known_42 : decode cX8_known 42 = .ok (.istore_n 2, 1) := by decide +kernel
theorem dX8_known_43 : decode cX8_known 43 = .ok (.iinc 3 1, 3) := by decide +kernel
theorem dX8_known_46 : decode cX8_known 46 = .ok (.goto (-32), 3) := by decide +kernel
theorem dX8_known_49 : decode cX8_known 49 = .ok (.iload_n 2, 1) := by decide +kernel
theorem dX8_known_50 : decode cX8_known 50 = .ok (.ireturn, 1) := by decide +kernel
theorem dX8_remembers_0 : decode cX8_remembers 0 = .ok (.aload_n 0, 1) := by decide +kernel
theorem dX8_remembers_1 : decode cX8_remembers 1 = .ok (.getfield 31, 3) := by decide +kernel
theorem dX8_remembers_4 : decode cX8_remembers 4 = .ok (.bipush 46, 2) := by decide +kernel
theorem dX8_remembers_6 : decode cX8_remembers 6 = .ok (.iaload, 1) := by decide +kernel
theorem dX8_remembers_7 : decode cX8_remembers 7 = .ok (.bipush 10, 2) := by decide +kernel
theorem dX8_remembers_9 : decode cX8_remembers 9 = .ok (.if_icmp .ne 45, 3) := by decide +kernel
theorem dX8_remembers_12 : decode cX8_remembers 12 = .ok (.bipush 47, 2) := by decide +kernel
theorem dX8_remembers_14 : decode cX8_remembers 14 = .ok (.istore_n 1, 1) := by decide +kernel
theorem dX8_remembers_15 : decode cX8_remembers 15 = .ok (.iload_n 1, 1) := by decide +kernel
theorem dX8_remembers_16 : decode cX8_remembers 16 = .ok (.sipush 461, 3) := by decide +kernel
theorem dX8_remembers_19 : decode cX8_remembers 19 = .ok (.if_icmp .ge 24, 3) := by decide +kernel
theorem dX8_remembers_22 : decode cX8_remembers 22 = .ok (.aload_n 0, 1) := by decide +kernel
theorem dX8_remembers_23 : decode cX8_remembers 23 = .ok (.getfield 31, 3) := by decide +kernel
theorem dX8_remembers_26 : decode cX8_remembers 26 = .ok (.iload_n 1, 1) := by decide +kernel
theorem dX8_remembers_27 : decode cX8_remembers 27 = .ok (.aload_n 0, 1) := by decide +kernel
theorem dX8_remembers_28 : decode cX8_remembers 28 = .ok (.getfield 31, 3) := by decide +kernel
theorem dX8_remembers_31 : decode cX8_remembers 31 = .ok (.iload_n 1, 1) := by decide +kernel
theorem dX8_remembers_32 : decode cX8_remembers 32 = .ok (.bipush 46, 2) := by decide +kernel
theorem dX8_remembers_34 : decode cX8_remembers 34 = .ok (.iadd, 1) := by decide +kernel
theorem dX8_remembers_35 : decode cX8_remembers 35 = .ok (.iaload, 1) := by decide +kernel
theorem dX8_remembers_36 : decode cX8_remembers 36 = .ok (.iastore, 1) := by decide +kernel
theorem dX8_remembers_37 : decode cX8_remembers 37 = .ok (.iinc 1 1, 3) := by decide +kernel
theorem dX8_remembers_40 : decode cX8_remembers 40 = .ok (.goto (-25), 3) := by decide +kernel
theorem dX8_remembers_43 : decode cX8_remembers 43 = .ok (.aload_n 0, 1) := by decide +kernel
theorem dX8_remembers_44 : decode cX8_remembers 44 = .ok (.getfield 31, 3) := by decide +kernel
theorem dX8_remembers_47 : decode cX8_remembers 47 = .ok (.bipush 46, 2) := by decide +kernel
theorem dX8_remembers_49 : decode cX8_remembers 49 = .ok (.dup2, 1) := by decide +kernel
theorem dX8_remembers_50 : decode cX8_remembers 50 = .ok (.iaload, 1) := by decide +kernel
theorem dX8_remembers_51 : decode cX8_remembers 51 = .ok (.iconst 1, 1) := by decide +kernel
theorem dX8_remembers_52 : decode cX8_remembers 52 = .ok (.isub, 1) := by decide +kernel
theorem dX8_remembers_53 : decode cX8_remembers 53 = .ok (.iastore, 1) := by decide +kernel
theorem dX8_remembers_54 : decode cX8_remembers 54 = .ok (.bipush 47, 2) := by decide +kernel
theorem dX8_remembers_56 : decode cX8_remembers 56 = .ok (.bipush 46, 2) := by decide +kernel
theorem dX8_remembers_58 : decode cX8_remembers 58 = .ok (.aload_n 0, 1) := by decide +kernel
theorem dX8_remembers_59 : decode cX8_remembers 59 = .ok (.getfield 31, 3) := by decide +kernel
theorem dX8_remembers_62 : decode cX8_remembers 62 = .ok (.bipush 46, 2) := by decide +kernel
theorem dX8_remembers_64 : decode cX8_remembers 64 = .ok (.iaload, 1) := by decide +kernel
theorem dX8_remembers_65 : decode cX8_remembers 65 = .ok (.imul, 1) := by decide +kernel
theorem dX8_remembers_66 : decode cX8_remembers 66 = .ok (.iadd, 1) := by decide +kernel
theorem dX8_remembers_67 : decode cX8_remembers 67 = .ok (.istore_n 1, 1) := by decide +kernel
theorem dX8_remembers_68 : decode cX8_remembers 68 = .ok (.iconst 0, 1) := by decide +kernel
theorem dX8_remembers_69 : decode cX8_remembers 69 = .ok (.istore_n 2, 1) := by decide +kernel
theorem dX8_remembers_70 : decode cX8_remembers 70 = .ok (.iload_n 2, 1) := by decide +kernel
theorem dX8_remembers_71 : decode cX8_remembers 71 = .ok (.bipush 46, 2) := by decide +kernel
theorem dX8_remembers_73 : decode cX8_remembers 73 = .ok (.if_icmp .ge 23, 3) := by decide +kernel
theorem dX8_remembers_76 : decode cX8_remembers 76 = .ok (.aload_n 0, 1) := by decide +kernel
theorem dX8_remembers_77 : decode cX8_remembers 77 = .ok (.getfield 31, 3) := by decide +kernel
theorem dX8_remembers_80 : decode cX8_remembers 80 = .ok (.iload_n 1, 1) := by decide +kernel
theorem dX8_remembers_81 : decode cX8_remembers 81 = .ok (.iload_n 2, 1) := by decide +kernel
theorem dX8_remembers_82 : decode cX8_remembers 82 = .ok (.iadd, 1) := by decide +kernel
theorem dX8_remembers_83 : decode cX8_remembers 83 = .ok (.aload_n 0, 1) := by decide +kernel
theorem dX8_remembers_84 : decode cX8_remembers 84 = .ok (.getfield 31, 3) := by decide +kernel
theorem dX8_remembers_87 : decode cX8_remembers 87 = .ok (.iload_n 2, 1) := by decide +kernel
theorem dX8_remembers_88 : decode cX8_remembers 88 = .ok (.iaload, 1) := by decide +kernel
theorem dX8_remembers_89 : decode cX8_remembers 89 = .ok (.iastore, 1) := by decide +kernel
theorem dX8_remembers_90 : decode cX8_remembers 90 = .ok (.iinc 2 1, 3) := by decide +kernel
theorem dX8_remembers_93 : decode cX8_remembers 93 = .ok (.goto (-23), 3) := by decide +kernel
theorem dX8_remembers_96 : decode cX8_remembers 96 = .ok (.aload_n 0, 1) := by decide +kernel
theorem dX8_remembers_97 : decode cX8_remembers 97 = .ok (.getfield 31, 3) := by decide +kernel
theorem dX8_remembers_100 : decode cX8_remembers 100 = .ok (.bipush 46, 2) := by decide +kernel
theorem dX8_remembers_102 : decode cX8_remembers 102 = .ok (.dup2, 1) := by decide +kernel
theorem dX8_remembers_103 : decode cX8_remembers 103 = .ok (.iaload, 1) := by decide +kernel
theorem dX8_remembers_104 : decode cX8_remembers 104 = .ok (.iconst 1, 1) := by decide +kernel
theorem dX8_remembers_105 : decode cX8_remembers 105 = .ok (.iadd, 1) := by decide +kernel
theorem dX8_remembers_106 : decode cX8_remembers 106 = .ok (.iastore, 1) := by decide +kernel
theorem dX8_remembers_107 : decode cX8_remembers 107 = .ok (.return_, 1) := by decide +kernel
theorem dX8_hourGoes_0 : decode cX8_hourGoes 0 = .ok (.aload_n 0, 1) := by decide +kernel
theorem dX8_hourGoes_1 : decode cX8_hourGoes 1 = .ok (.getfield 31, 3) := by decide +kernel
theorem dX8_hourGoes_4 : decode cX8_hourGoes 4 = .ok (.iconst 0, 1) := by decide +kernel
theorem dX8_hourGoes_5 : decode cX8_hourGoes 5 = .ok (.iaload, 1) := by decide +kernel
theorem dX8_hourGoes_6 : decode cX8_hourGoes 6 = .ok (.istore_n 1, 1) := by decide +kernel
theorem dX8_hourGoes_7 : decode cX8_hourGoes 7 = .ok (.iconst 0, 1) := by decide +kernel
theorem dX8_hourGoes_8 : decode cX8_hourGoes 8 = .ok (.istore_n 2, 1) := by decide +kernel
theorem dX8_hourGoes_9 : decode cX8_hourGoes 9 = .ok (.iload_n 2, 1) := by decide +kernel
theorem dX8_hourGoes_10 : decode cX8_hourGoes 10 = .ok (.aload_n 0, 1) := by decide +kernel
theorem dX8_hourGoes_11 : decode cX8_hourGoes 11 = .ok (.getfield 74, 3) := by decide +kernel
theorem dX8_hourGoes_14 : decode cX8_hourGoes 14 = .ok (.if_icmp .ge 104, 3) := by decide +kernel
theorem dX8_hourGoes_17 : decode cX8_hourGoes 17 = .ok (.iconst 0, 1) := by decide +kernel
theorem dX8_hourGoes_18 : decode cX8_hourGoes 18 = .ok (.istore_n 3, 1) := by decide +kernel
theorem dX8_hourGoes_19 : decode cX8_hourGoes 19 = .ok (.iload_n 3, 1) := by decide +kernel
theorem dX8_hourGoes_20 : decode cX8_hourGoes 20 = .ok (.aload_n 0, 1) := by decide +kernel
theorem dX8_hourGoes_21 : decode cX8_hourGoes 21 = .ok (.getfield 82, 3) := by decide +kernel
theorem dX8_hourGoes_24 : decode cX8_hourGoes 24 = .ok (.if_icmp .ge 88, 3) := by decide +kernel
theorem dX8_hourGoes_27 : decode cX8_hourGoes 27 = .ok (.aload_n 0, 1) := by decide +kernel
theorem dX8_hourGoes_28 : decode cX8_hourGoes 28 = .ok (.iload_n 3, 1) := by decide +kernel
theorem dX8_hourGoes_29 : decode cX8_hourGoes 29 = .ok (.iload_n 1, 1) := by decide +kernel
theorem dX8_hourGoes_30 : decode cX8_hourGoes 30 = .ok (.invokevirtual 211, 3) := by decide +kernel
theorem dX8_hourGoes_33 : decode cX8_hourGoes 33 = .ok (.istore 4, 2) := by decide +kernel
theorem dX8_hourGoes_35 : decode cX8_hourGoes 35 = .ok (.iload 4, 2) := by decide +kernel
theorem dX8_hourGoes_37 : decode cX8_hourGoes 37 = .ok (.bipush (-9), 2) := by decide +kernel
theorem dX8_hourGoes_39 : decode cX8_hourGoes 39 = .ok (.if_icmp .eq 36, 3) := by decide +kernel
theorem dX8_hourGoes_42 : decode cX8_hourGoes 42 = .ok (.aload_n 0, 1) := by decide +kernel
theorem dX8_hourGoes_43 : decode cX8_hourGoes 43 = .ok (.iload_n 2, 1) := by decide +kernel
theorem dX8_hourGoes_44 : decode cX8_hourGoes 44 = .ok (.invokevirtual 204, 3) := by decide +kernel
theorem dX8_hourGoes_47 : decode cX8_hourGoes 47 = .ok (.ifCond .ne 28, 3) := by decide +kernel
theorem dX8_hourGoes_50 : decode cX8_hourGoes 50 = .ok (.aload_n 0, 1) := by decide +kernel
theorem dX8_hourGoes_51 : decode cX8_hourGoes 51 = .ok (.iload_n 2, 1) := by decide +kernel
theorem dX8_hourGoes_52 : decode cX8_hourGoes 52 = .ok (.iload 4, 2) := by decide +kernel
theorem dX8_hourGoes_54 : decode cX8_hourGoes 54 = .ok (.iload_n 1, 1) := by decide +kernel
theorem dX8_hourGoes_55 : decode cX8_hourGoes 55 = .ok (.invokevirtual 214, 3) := by decide +kernel
theorem dX8_hourGoes_58 : decode cX8_hourGoes 58 = .ok (.ifCond .eq 17, 3) := by decide +kernel
theorem dX8_hourGoes_61 : decode cX8_hourGoes 61 = .ok (.aload_n 0, 1) := by decide +kernel
theorem dX8_hourGoes_62 : decode cX8_hourGoes 62 = .ok (.iload 4, 2) := by decide +kernel
theorem dX8_hourGoes_64 : decode cX8_hourGoes 64 = .ok (.iload_n 1, 1) := by decide +kernel
theorem dX8_hourGoes_65 : decode cX8_hourGoes 65 = .ok (.invokevirtual 217, 3) := by decide +kernel
theorem dX8_hourGoes_68 : decode cX8_hourGoes 68 = .ok (.ifCond .ne 7, 3) := by decide +kernel
theorem dX8_hourGoes_71 : decode cX8_hourGoes 71 = .ok (.iconst 1, 1) := by decide +kernel
theorem dX8_hourGoes_72 : decode cX8_hourGoes 72 = .ok (.goto 4, 3) := by decide +kernel
theorem dX8_hourGoes_75 : decode cX8_hourGoes 75 = .ok (.iconst 0, 1) := by decide +kernel
theorem dX8_hourGoes_76 : decode cX8_hourGoes 76 = .ok (.istore 5, 2) := by decide +kernel
theorem dX8_hourGoes_78 : decode cX8_hourGoes 78 = .ok (.aload_n 0, 1) := by decide +kernel
theorem dX8_hourGoes_79 : decode cX8_hourGoes 79 = .ok (.getfield 31, 3) := by decide +kernel
theorem dX8_hourGoes_82 : decode cX8_hourGoes 82 = .ok (.bipush 25, 2) := by decide +kernel
theorem dX8_hourGoes_84 : decode cX8_hourGoes 84 = .ok (.iconst 4, 1) := by decide +kernel
theorem dX8_hourGoes_85 : decode cX8_hourGoes 85 = .ok (.iload_n 2, 1) := by decide +kernel
theorem dX8_hourGoes_86 : decode cX8_hourGoes 86 = .ok (.imul, 1) := by decide +kernel
theorem dX8_hourGoes_87 : decode cX8_hourGoes 87 = .ok (.iadd, 1) := by decide +kernel
theorem dX8_hourGoes_88 : decode cX8_hourGoes 88 = .ok (.iload_n 3, 1) := by decide +kernel
theorem dX8_hourGoes_89 : decode cX8_hourGoes 89 = .ok (.iadd, 1) := by decide +kernel
theorem dX8_hourGoes_90 : decode cX8_hourGoes 90 = .ok (.dup2, 1) := by decide +kernel
theorem dX8_hourGoes_91 : decode cX8_hourGoes 91 = .ok (.iaload, 1) := by decide +kernel
theorem dX8_hourGoes_92 : decode cX8_hourGoes 92 = .ok (.iload 5, 2) := by decide +kernel
theorem dX8_hourGoes_94 : decode cX8_hourGoes 94 = .ok (.ifCond .eq 9, 3) := by decide +kernel
theorem dX8_hourGoes_97 : decode cX8_hourGoes 97 = .ok (.iconst 1, 1) := by decide +kernel
theorem dX8_hourGoes_98 : decode cX8_hourGoes 98 = .ok (.iload_n 1, 1) := by decide +kernel
theorem dX8_hourGoes_99 : decode cX8_hourGoes 99 = .ok (.ishl, 1) := by decide +kernel
theorem dX8_hourGoes_100 : decode cX8_hourGoes 100 = .ok (.goto 4, 3) := by decide +kernel
theorem dX8_hourGoes_103 : decode cX8_hourGoes 103 = .ok (.iconst 0, 1) := by decide +kernel
theorem dX8_hourGoes_104 : decode cX8_hourGoes 104 = .ok (.ior, 1) := by decide +kernel
theorem dX8_hourGoes_105 : decode cX8_hourGoes 105 = .ok (.iastore, 1) := by decide +kernel
theorem dX8_hourGoes_106 : decode cX8_hourGoes 106 = .ok (.iinc 3 1, 3) := by decide +kernel
theorem dX8_hourGoes_109 : decode cX8_hourGoes 109 = .ok (.goto (-90), 3) := by decide +kernel
theorem dX8_hourGoes_112 : decode cX8_hourGoes 112 = .ok (.iinc 2 1, 3) := by decide +kernel
theorem dX8_hourGoes_115 : decode cX8_hourGoes 115 = .ok (.goto (-106), 3) := by decide +kernel
theorem dX8_hourGoes_118 : decode cX8_hourGoes 118 = .ok (.aload_n 0, 1) := by decide +kernel
theorem dX8_hourGoes_119 : decode cX8_hourGoes 119 = .ok (.getfield 31, 3) := by decide +kernel
theorem dX8_hourGoes_122 : decode cX8_hourGoes 122 = .ok (.iconst 0, 1) := by decide +kernel
theorem dX8_hourGoes_123 : decode cX8_hourGoes 123 = .ok (.dup2, 1) := by decide +kernel
theorem dX8_hourGoes_124 : decode cX8_hourGoes 124 = .ok (.iaload, 1) := by decide +kernel
theorem dX8_hourGoes_125 : decode cX8_hourGoes 125 = .ok (.iconst 1, 1) := by decide +kernel
theorem dX8_hourGoes_126 : decode cX8_hourGoes 126 = .ok (.iadd, 1) := by decide +kernel
theorem dX8_hourGoes_127 : decode cX8_hourGoes 127 = .ok (.iastore, 1) := by decide +kernel
theorem dX8_hourGoes_128 : decode cX8_hourGoes 128 = .ok (.return_, 1) := by decide +kernel
theorem dX8_hours_0 : decode cX8_hours 0 = .ok (.iload_n 1, 1) := by decide +kernel
theorem dX8_hours_1 : decode cX8_hours 1 = .ok (.iconst 1, 1) := by decide +kernel
theorem dX8_hours_2 : decode cX8_hours 2 = .ok (.bipush 9, 2) := by decide +kernel
theorem dX8_hours_4 : decode cX8_hours 4 = .ok (.invokestatic 78, 3) := by decide +kernel
theorem dX8_hours_7 : decode cX8_hours 7 = .ok (.ifCond .ne 5, 3) := by decide +kernel
theorem dX8_hours_10 : decode cX8_hours 10 = .ok (.iconst (-1), 1) := by decide +kernel
theorem dX8_hours_11 : decode cX8_hours 11 = .ok (.ireturn, 1) := by decide +kernel
theorem dX8_hours_12 : decode cX8_hours 12 = .ok (.aload_n 0, 1) := by decide +kernel
theorem dX8_hours_13 : decode cX8_hours 13 = .ok (.getfield 31, 3) := by decide +kernel
theorem dX8_hours_16 : decode cX8_hours 16 = .ok (.iconst 0, 1) := by decide +kernel
theorem dX8_hours_17 : decode cX8_hours 17 = .ok (.iaload, 1) := by decide +kernel
theorem dX8_hours_18 : decode cX8_hours 18 = .ok (.bipush 30, 2) := by decide +kernel
theorem dX8_hours_20 : decode cX8_hours 20 = .ok (.if_icmp .ne 6, 3) := by decide +kernel
theorem dX8_hours_23 : decode cX8_hours 23 = .ok (.bipush (-2), 2) := by decide +kernel
theorem dX8_hours_25 : decode cX8_hours 25 = .ok (.ireturn, 1) := by decide +kernel
theorem dX8_hours_26 : decode cX8_hours 26 = .ok (.aload_n 0, 1) := by decide +kernel
theorem dX8_hours_27 : decode cX8_hours 27 = .ok (.invokevirtual 220, 3) := by decide +kernel
theorem dX8_hours_30 : decode cX8_hours 30 = .ok (.iconst 0, 1) := by decide +kernel
theorem dX8_hours_31 : decode cX8_hours 31 = .ok (.istore_n 2, 1) := by decide +kernel
theorem dX8_hours_32 : decode cX8_hours 32 = .ok (.iload_n 2, 1) := by decide +kernel
theorem dX8_hours_33 : decode cX8_hours 33 = .ok (.iload_n 1, 1) := by decide +kernel
theorem dX8_hours_34 : decode cX8_hours 34 = .ok (.if_icmp .ge 24, 3) := by decide +kernel
theorem dX8_hours_37 : decode cX8_hours 37 = .ok (.aload_n 0, 1) := by decide +kernel
theorem dX8_hours_38 : decode cX8_hours 38 = .ok (.getfield 31, 3) := by decide +kernel
theorem dX8_hours_41 : decode cX8_hours 41 = .ok (.iconst 0, 1) := by decide +kernel
theorem dX8_hours_42 : decode cX8_hours 42 = .ok (.iaload, 1) := by decide +kernel
theorem dX8_hours_43 : decode cX8_hours 43 = .ok (.bipush 30, 2) := by decide +kernel
theorem dX8_hours_45 : decode cX8_hours 45 = .ok (.if_icmp .ge 13, 3) := by decide +kernel
theorem dX8_hours_48 : decode cX8_hours 48 = .ok (.aload_n 0, 1) := by decide +kernel
theorem dX8_hours_49 : decode cX8_hours 49 = .ok (.invokevirtual 223, 3) := by decide +kernel
theorem dX8_hours_52 : decode cX8_hours 52 = .ok (.iinc 2 1, 3) := by decide +kernel
theorem dX8_hours_55 : decode cX8_hours 55 = .ok (.goto (-23), 3) := by decide +kernel
theorem dX8_hours_58 : decode cX8_hours 58 = .ok (.aload_n 0, 1) := by decide +kernel
theorem dX8_hours_59 : decode cX8_hours 59 = .ok (.getfield 31, 3) := by decide +kernel
theorem dX8_hours_62 : decode cX8_hours 62 = .ok (.iconst 0, 1) := by decide +kernel
theorem dX8_hours_63 : decode cX8_hours 63 = .ok (.iaload, 1) := by decide +kernel
theorem dX8_hours_64 : decode cX8_hours 64 = .ok (.ireturn, 1) := by decide +kernel
theorem dX8_builds_0 : decode cX8_builds 0 = .ok (.iload_n 1, 1) := by decide +kernel
theorem dX8_builds_1 : decode cX8_builds 1 = .ok (.invokestatic 182, 3) := by decide +kernel
theorem dX8_builds_4 : decode cX8_builds 4 = .ok (.ifCond .eq 13, 3) := by decide +kernel
theorem dX8_builds_7 : decode cX8_builds 7 = .ok (.iload_n 2, 1) := by decide +kernel
theorem dX8_builds_8 : decode cX8_builds 8 = .ok (.iconst 0, 1) := by decide +kernel
theorem dX8_builds_9 : decode cX8_builds 9 = .ok (.bipush 9, 2) := by decide +kernel
theorem dX8_builds_11 : decode cX8_builds 11 = .ok (.invokestatic 78, 3) := by decide +kernel
theorem dX8_builds_14 : decode cX8_builds 14 = .ok (.ifCond .ne 5, 3) := by decide +kernel
theorem dX8_builds_17 : decode cX8_builds 17 = .ok (.iconst (-1), 1) := by decide +kernel
theorem dX8_builds_18 : decode cX8_builds 18 = .ok (.ireturn, 1) := by decide +kernel
theorem dX8_builds_19 : decode cX8_builds 19 = .ok (.aload_n 0, 1) := by decide +kernel
theorem dX8_builds_20 : decode cX8_builds 20 = .ok (.getfield 31, 3) := by decide +kernel
theorem dX8_builds_23 : decode cX8_builds 23 = .ok (.iconst 1, 1) := by decide +kernel
theorem dX8_builds_24 : decode cX8_builds 24 = .ok (.iload_n 1, 1) := by decide +kernel
theorem dX8_builds_25 : decode cX8_builds 25 = .ok (.iadd, 1) := by decide +kernel
theorem dX8_builds_26 : decode cX8_builds 26 = .ok (.iaload, 1) := by decide +kernel
theorem dX8_builds_27 : decode cX8_builds 27 = .ok (.istore_n 3, 1) := by decide +kernel
theorem dX8_builds_28 : decode cX8_builds 28 = .ok (.iload_n 3, 1) := by decide +kernel
theorem dX8_builds_29 : decode cX8_builds 29 = .ok (.iload_n 2, 1) := by decide +kernel
theorem dX8_builds_30 : decode cX8_builds 30 = .ok (.if_icmp .ne 6, 3) := by decide +kernel
theorem dX8_builds_33 : decode cX8_builds 33 = .ok (.bipush (-2), 2) := by decide +kernel
theorem dX8_builds_35 : decode cX8_builds 35 = .ok (.ireturn, 1) := by decide +kernel
theorem dX8_builds_36 : decode cX8_builds 36 = .ok (.aload_n 0, 1) := by decide +kernel
theorem dX8_builds_37 : decode cX8_builds 37 = .ok (.invokevirtual 220, 3) := by decide +kernel
theorem dX8_builds_40 : decode cX8_builds 40 = .ok (.aload_n 0, 1) := by decide +kernel
theorem dX8_builds_41 : decode cX8_builds 41 = .ok (.getfield 31, 3) := by decide +kernel
theorem dX8_builds_44 : decode cX8_builds 44 = .ok (.iconst 1, 1) := by decide +kernel
theorem dX8_builds_45 : decode cX8_builds 45 = .ok (.iload_n 1, 1) := by decide +kernel
theorem dX8_builds_46 : decode cX8_builds 46 = .ok (.iadd, 1) := by decide +kernel
theorem dX8_builds_47 : decode cX8_builds 47 = .ok (.iload_n 2, 1) := by decide +kernel
theorem dX8_builds_48 : decode cX8_builds 48 = .ok (.iastore, 1) := by decide +kernel
theorem dX8_builds_49 : decode cX8_builds 49 = .ok (.iload_n 3, 1) := by decide +kernel
theorem dX8_builds_50 : decode cX8_builds 50 = .ok (.ireturn, 1) := by decide +kernel
theorem dX8_asks_0 : decode cX8_asks 0 = .ok (.aload_n 0, 1) := by decide +kernel
theorem dX8_asks_1 : decode cX8_asks 1 = .ok (.iload_n 1, 1) := by decide +kernel
theorem dX8_asks_2 : decode cX8_asks 2 = .ok (.invokevirtual 201, 3) := by decide +kernel
theorem dX8_asks_5 : decode cX8_asks 5 = .ok (.ifCond .ne 5, 3) := by decide +kernel
theorem dX8_asks_8 : decode cX8_asks 8 = .ok (.iconst (-1), 1) := by decide +kernel
theorem dX8_asks_9 : decode cX8_asks 9 = .ok (.ireturn, 1) := by decide +kernel
theorem dX8_asks_10 : decode cX8_asks 10 = .ok (.aload_n 0, 1) := by decide +kernel
theorem dX8_asks_11 : decode cX8_asks 11 = .ok (.iload_n 1, 1) := by decide +kernel
theorem dX8_asks_12 : decode cX8_asks 12 = .ok (.invokevirtual 204, 3) := by decide +kernel
theorem dX8_asks_15 : decode cX8_asks 15 = .ok (.ifCond .eq 6, 3) := by decide +kernel
theorem dX8_asks_18 : decode cX8_asks 18 = .ok (.bipush (-2), 2) := by decide +kernel
theorem dX8_asks_20 : decode cX8_asks 20 = .ok (.ireturn, 1) := by decide +kernel
theorem dX8_asks_21 : decode cX8_asks 21 = .ok (.aload_n 0, 1) := by decide +kernel
theorem dX8_asks_22 : decode cX8_asks 22 = .ok (.invokevirtual 220, 3) := by decide +kernel
theorem dX8_asks_25 : decode cX8_asks 25 = .ok (.aload_n 0, 1) := by decide +kernel
theorem dX8_asks_26 : decode cX8_asks 26 = .ok (.invokevirtual 226, 3) := by decide +kernel
theorem dX8_asks_29 : decode cX8_asks 29 = .ok (.istore_n 2, 1) := by decide +kernel
theorem dX8_asks_30 : decode cX8_asks 30 = .ok (.aload_n 0, 1) := by decide +kernel
theorem dX8_asks_31 : decode cX8_asks 31 = .ok (.getfield 31, 3) := by decide +kernel
theorem dX8_asks_34 : decode cX8_asks 34 = .ok (.bipush 45, 2) := by decide +kernel
theorem dX8_asks_36 : decode cX8_asks 36 = .ok (.dup2, 1) := by decide +kernel
theorem dX8_asks_37 : decode cX8_asks 37 = .ok (.iaload, 1) := by decide +kernel
theorem dX8_asks_38 : decode cX8_asks 38 = .ok (.iconst 1, 1) := by decide +kernel
theorem dX8_asks_39 : decode cX8_asks 39 = .ok (.iload_n 1, 1) := by decide +kernel
theorem dX8_asks_40 : decode cX8_asks 40 = .ok (.ishl, 1) := by decide +kernel
theorem dX8_asks_41 : decode cX8_asks 41 = .ok (.ior, 1) := by decide +kernel
theorem dX8_asks_42 : decode cX8_asks 42 = .ok (.iastore, 1) := by decide +kernel
theorem dX8_asks_43 : decode cX8_asks 43 = .ok (.aload_n 0, 1) := by decide +kernel
theorem dX8_asks_44 : decode cX8_asks 44 = .ok (.invokevirtual 226, 3) := by decide +kernel
theorem dX8_asks_47 : decode cX8_asks 47 = .ok (.iload_n 2, 1) := by decide +kernel
theorem dX8_asks_48 : decode cX8_asks 48 = .ok (.isub, 1) := by decide +kernel
theorem dX8_asks_49 : decode cX8_asks 49 = .ok (.ireturn, 1) := by decide +kernel
theorem dX8_undo_0 : decode cX8_undo 0 = .ok (.aload_n 0, 1) := by decide +kernel
theorem dX8_undo_1 : decode cX8_undo 1 = .ok (.getfield 31, 3) := by decide +kernel
theorem dX8_undo_4 : decode cX8_undo 4 = .ok (.bipush 46, 2) := by decide +kernel
theorem dX8_undo_6 : decode cX8_undo 6 = .ok (.iaload, 1) := by decide +kernel
theorem dX8_undo_7 : decode cX8_undo 7 = .ok (.ifCond .ne 6, 3) := by decide +kernel
theorem dX8_undo_10 : decode cX8_undo 10 = .ok (.bipush (-2), 2) := by decide +kernel
theorem dX8_undo_12 : decode cX8_undo 12 = .ok (.ireturn, 1) := by decide +kernel
theorem dX8_undo_13 : decode cX8_undo 13 = .ok (.aload_n 0, 1) := by decide +kernel
theorem dX8_undo_14 : decode cX8_undo 14 = .ok (.getfield 31, 3) := by decide +kernel
theorem dX8_undo_17 : decode cX8_undo 17 = .ok (.bipush 46, 2) := by decide +kernel
theorem dX8_undo_19 : decode cX8_undo 19 = .ok (.dup2, 1) := by decide +kernel
theorem dX8_undo_20 : decode cX8_undo 20 = .ok (.iaload, 1) := by decide +kernel
theorem dX8_undo_21 : decode cX8_undo 21 = .ok (.iconst 1, 1) := by decide +kernel
theorem dX8_undo_22 : decode cX8_undo 22 = .ok (.isub, 1) := by decide +kernel
theorem dX8_undo_23 : decode cX8_undo 23 = .ok (.iastore, 1) := by decide +kernel
theorem dX8_undo_24 : decode cX8_undo 24 = .ok (.bipush 47, 2) := by decide +kernel
theorem dX8_undo_26 : decode cX8_undo 26 = .ok (.bipush 46, 2) := by decide +kernel
theorem dX8_undo_28 : decode cX8_undo 28 = .ok (.aload_n 0, 1) := by decide +kernel
theorem dX8_undo_29 : decode cX8_undo 29 = .ok (.getfield 31, 3) := by decide +kernel
theorem dX8_undo_32 : decode cX8_undo 32 = .ok (.bipush 46, 2) := by decide +kernel
theorem dX8_undo_34 : decode cX8_undo 34 = .ok (.iaload, 1) := by decide +kernel
theorem dX8_undo_35 : decode cX8_undo 35 = .ok (.imul, 1) := by decide +kernel
theorem dX8_undo_36 : decode cX8_undo 36 = .ok (.iadd, 1) := by decide +kernel
theorem dX8_undo_37 : decode cX8_undo 37 = .ok (.istore_n 1, 1) := by decide +kernel
theorem dX8_undo_38 : decode cX8_undo 38 = .ok (.iconst 0, 1) := by decide +kernel
theorem dX8_undo_39 : decode cX8_undo 39 = .ok (.istore_n 2, 1) := by decide +kernel
theorem dX8_undo_40 : decode cX8_undo 40 = .ok (.iload_n 2, 1) := by decide +kernel
theorem dX8_undo_41 : decode cX8_undo 41 = .ok (.bipush 46, 2) := by decide +kernel
theorem dX8_undo_43 : decode cX8_undo 43 = .ok (.if_icmp .ge 23, 3) := by decide +kernel
theorem dX8_undo_46 : decode cX8_undo 46 = .ok (.aload_n 0, 1) := by decide +kernel
theorem dX8_undo_47 : decode cX8_undo 47 = .ok (.getfield 31, 3) := by decide +kernel
theorem dX8_undo_50 : decode cX8_undo 50 = .ok (.iload_n 2, 1) := by decide +kernel
theorem dX8_undo_51 : decode cX8_undo 51 = .ok (.aload_n 0, 1) := by decide +kernel
theorem dX8_undo_52 : decode cX8_undo 52 = .ok (.getfield 31, 3) := by decide +kernel
theorem dX8_undo_55 : decode cX8_undo 55 = .ok (.iload_n 1, 1) := by decide +kernel
theorem dX8_undo_56 : decode cX8_undo 56 = .ok (.iload_n 2, 1) := by decide +kernel
theorem dX8_undo_57 : decode cX8_undo 57 = .ok (.iadd, 1) := by decide +kernel
theorem dX8_undo_58 : decode cX8_undo 58 = .ok (.iaload, 1) := by decide +kernel
theorem dX8_undo_59 : decode cX8_undo 59 = .ok (.iastore, 1) := by decide +kernel
theorem dX8_undo_60 : decode cX8_undo 60 = .ok (.iinc 2 1, 3) := by decide +kernel
theorem dX8_undo_63 : decode cX8_undo 63 = .ok (.goto (-23), 3) := by decide +kernel
theorem dX8_undo_66 : decode cX8_undo 66 = .ok (.aload_n 0, 1) := by decide +kernel
theorem dX8_undo_67 : decode cX8_undo 67 = .ok (.getfield 31, 3) := by decide +kernel
theorem dX8_undo_70 : decode cX8_undo 70 = .ok (.bipush 46, 2) := by decide +kernel
theorem dX8_undo_72 : decode cX8_undo 72 = .ok (.iaload, 1) := by decide +kernel
theorem dX8_undo_73 : decode cX8_undo 73 = .ok (.ireturn, 1) := by decide +kernel
theorem dX8_now_0 : decode cX8_now 0 = .ok (.iload_n 1, 1) := by decide +kernel
theorem dX8_now_1 : decode cX8_now 1 = .ok (.tableswitch 69 0 4 #[35, 42, 50, 55, 64], 35) := by decide +kernel
theorem dX8_now_36 : decode cX8_now 36 = .ok (.aload_n 0, 1) := by decide +kernel
theorem dX8_now_37 : decode cX8_now 37 = .ok (.getfield 31, 3) := by decide +kernel
theorem dX8_now_40 : decode cX8_now 40 = .ok (.iconst 0, 1) := by decide +kernel
theorem dX8_now_41 : decode cX8_now 41 = .ok (.iaload, 1) := by decide +kernel
theorem dX8_now_42 : decode cX8_now 42 = .ok (.ireturn, 1) := by decide +kernel
theorem dX8_now_43 : decode cX8_now 43 = .ok (.aload_n 0, 1) := by decide +kernel
theorem dX8_now_44 : decode cX8_now 44 = .ok (.getfield 31, 3) := by decide +kernel
theorem dX8_now_47 : decode cX8_now 47 = .ok (.bipush 45, 2) := by decide +kernel
theorem dX8_now_49 : decode cX8_now 49 = .ok (.iaload, 1) := by decide +kernel
theorem dX8_now_50 : decode cX8_now 50 = .ok (.ireturn, 1) := by decide +kernel
theorem dX8_now_51 : decode cX8_now 51 = .ok (.aload_n 0, 1) := by decide +kernel
theorem dX8_now_52 : decode cX8_now 52 = .ok (.invokevirtual 226, 3) := by decide +kernel
theorem dX8_now_55 : decode cX8_now 55 = .ok (.ireturn, 1) := by decide +kernel
theorem dX8_now_56 : decode cX8_now 56 = .ok (.aload_n 0, 1) := by decide +kernel
theorem dX8_now_57 : decode cX8_now 57 = .ok (.aload_n 0, 1) := by decide +kernel
theorem dX8_now_58 : decode cX8_now 58 = .ok (.invokevirtual 194, 3) := by decide +kernel
theorem dX8_now_61 : decode cX8_now 61 = .ok (.invokevirtual 191, 3) := by decide +kernel
theorem dX8_now_64 : decode cX8_now 64 = .ok (.ireturn, 1) := by decide +kernel
theorem dX8_now_65 : decode cX8_now 65 = .ok (.aload_n 0, 1) := by decide +kernel
theorem dX8_now_66 : decode cX8_now 66 = .ok (.invokevirtual 229, 3) := by decide +kernel
theorem dX8_now_69 : decode cX8_now 69 = .ok (.ireturn, 1) := by decide +kernel
theorem dX8_now_70 : decode cX8_now 70 = .ok (.iconst (-1), 1) := by decide +kernel
theorem dX8_now_71 : decode cX8_now 71 = .ok (.ireturn, 1) := by decide +kernel
theorem dX8_viewOf_0 : decode cX8_viewOf 0 = .ok (.iconst 0, 1) := by decide +kernel
theorem dX8_viewOf_1 : decode cX8_viewOf 1 = .ok (.istore_n 3, 1) := by decide +kernel
theorem dX8_viewOf_2 : decode cX8_viewOf 2 = .ok (.iconst 0, 1) := by decide +kernel
theorem dX8_viewOf_3 : decode cX8_viewOf 3 = .ok (.istore 4, 2) := by decide +kernel
theorem dX8_viewOf_5 : decode cX8_viewOf 5 = .ok (.iload 4, 2) := by decide +kernel
theorem dX8_viewOf_7 : decode cX8_viewOf 7 = .ok (.bipush 24, 2) := by decide +kernel
theorem dX8_viewOf_9 : decode cX8_viewOf 9 = .ok (.if_icmp .ge 31, 3) := by decide +kernel
theorem dX8_viewOf_12 : decode cX8_viewOf 12 = .ok (.iload_n 3, 1) := by decide +kernel
theorem dX8_viewOf_13 : decode cX8_viewOf 13 = .ok (.aload_n 0, 1) := by decide +kernel
theorem dX8_viewOf_14 : decode cX8_viewOf 14 = .ok (.iload_n 1, 1) := by decide +kernel
theorem dX8_viewOf_15 : decode cX8_viewOf 15 = .ok (.iload 4, 2) := by decide +kernel
theorem dX8_viewOf_17 : decode cX8_viewOf 17 = .ok (.iload_n 2, 1) := by decide +kernel
theorem dX8_viewOf_18 : decode cX8_viewOf 18 = .ok (.invokevirtual 214, 3) := by decide +kernel
theorem dX8_viewOf_21 : decode cX8_viewOf 21 = .ok (.ifCond .eq 10, 3) := by decide +kernel
theorem dX8_viewOf_24 : decode cX8_viewOf 24 = .ok (.iconst 1, 1) := by decide +kernel
theorem dX8_viewOf_25 : decode cX8_viewOf 25 = .ok (.iload 4, 2) := by decide +kernel
theorem dX8_viewOf_27 : decode cX8_viewOf 27 = .ok (.ishl, 1) := by decide +kernel
theorem dX8_viewOf_28 : decode cX8_viewOf 28 = .ok (.goto 4, 3) := by decide +kernel
theorem dX8_viewOf_31 : decode cX8_viewOf 31 = .ok (.iconst 0, 1) := by decide +kernel
theorem dX8_viewOf_32 : decode cX8_viewOf 32 = .ok (.ior, 1) := by decide +kernel
theorem dX8_viewOf_33 : decode cX8_viewOf 33 = .ok (.istore_n 3, 1) := by decide +kernel
theorem dX8_viewOf_34 : decode cX8_viewOf 34 = .ok (.iinc 4 1, 3) := by decide +kernel
theorem dX8_viewOf_37 : decode cX8_viewOf 37 = .ok (.goto (-32), 3) := by decide +kernel
theorem dX8_viewOf_40 : decode cX8_viewOf 40 = .ok (.iload_n 3, 1) := by decide +kernel
theorem dX8_viewOf_41 : decode cX8_viewOf 41 = .ok (.ireturn, 1) := by decide +kernel
theorem dX8_view_0 : decode cX8_view 0 = .ok (.aload_n 0, 1) := by decide +kernel
theorem dX8_view_1 : decode cX8_view 1 = .ok (.iload_n 1, 1) := by decide +kernel
theorem dX8_view_2 : decode cX8_view 2 = .ok (.invokevirtual 201, 3) := by decide +kernel
theorem dX8_view_5 : decode cX8_view 5 = .ok (.ifCond .eq 19, 3) := by decide +kernel
theorem dX8_view_8 : decode cX8_view 8 = .ok (.iload_n 2, 1) := by decide +kernel
theorem dX8_view_9 : decode cX8_view 9 = .ok (.invokestatic 232, 3) := by decide +kernel
theorem dX8_view_12 : decode cX8_view 12 = .ok (.ifCond .eq 12, 3) := by decide +kernel
theorem dX8_view_15 : decode cX8_view 15 = .ok (.aload_n 0, 1) := by decide +kernel
theorem dX8_view_16 : decode cX8_view 16 = .ok (.iload_n 1, 1) := by decide +kernel
theorem dX8_view_17 : decode cX8_view 17 = .ok (.iload_n 2, 1) := by decide +kernel
theorem dX8_view_18 : decode cX8_view 18 = .ok (.invokevirtual 235, 3) := by decide +kernel
theorem dX8_view_21 : decode cX8_view 21 = .ok (.goto 4, 3) := by decide +kernel
theorem dX8_view_24 : decode cX8_view 24 = .ok (.iconst (-1), 1) := by decide +kernel
theorem dX8_view_25 : decode cX8_view 25 = .ok (.ireturn, 1) := by decide +kernel
theorem dX8_blind_0 : decode cX8_blind 0 = .ok (.iload_n 1, 1) := by decide +kernel
theorem dX8_blind_1 : decode cX8_blind 1 = .ok (.invokestatic 232, 3) := by decide +kernel
theorem dX8_blind_4 : decode cX8_blind 4 = .ok (.ifCond .ne 5, 3) := by decide +kernel
theorem dX8_blind_7 : decode cX8_blind 7 = .ok (.iconst (-1), 1) := by decide +kernel
theorem dX8_blind_8 : decode cX8_blind 8 = .ok (.ireturn, 1) := by decide +kernel
theorem dX8_blind_9 : decode cX8_blind 9 = .ok (.ldc 238, 2) := by decide +kernel
theorem dX8_blind_11 : decode cX8_blind 11 = .ok (.istore_n 2, 1) := by decide +kernel
theorem dX8_blind_12 : decode cX8_blind 12 = .ok (.iconst 0, 1) := by decide +kernel
theorem dX8_blind_13 : decode cX8_blind 13 = .ok (.istore_n 3, 1) := by decide +kernel
theorem dX8_blind_14 : decode cX8_blind 14 = .ok (.iload_n 3, 1) := by decide +kernel
theorem dX8_blind_15 : decode cX8_blind 15 = .ok (.aload_n 0, 1) := by decide +kernel
theorem dX8_blind_16 : decode cX8_blind 16 = .ok (.getfield 74, 3) := by decide +kernel
theorem dX8_blind_19 : decode cX8_blind 19 = .ok (.if_icmp .ge 32, 3) := by decide +kernel
theorem dX8_blind_22 : decode cX8_blind 22 = .ok (.iload_n 2, 1) := by decide +kernel
theorem dX8_blind_23 : decode cX8_blind 23 = .ok (.aload_n 0, 1) := by decide +kernel
theorem dX8_blind_24 : decode cX8_blind 24 = .ok (.iload_n 3, 1) := by decide +kernel
theorem dX8_blind_25 : decode cX8_blind 25 = .ok (.invokevirtual 204, 3) := by decide +kernel
theorem dX8_blind_28 : decode cX8_blind 28 = .ok (.ifCond .eq 7, 3) := by decide +kernel
theorem dX8_blind_31 : decode cX8_blind 31 = .ok (.iload_n 2, 1) := by decide +kernel
theorem dX8_blind_32 : decode cX8_blind 32 = .ok (.goto 11, 3) := by decide +kernel
theorem dX8_blind_35 : decode cX8_blind 35 = .ok (.aload_n 0, 1) := by decide +kernel
theorem dX8_blind_36 : decode cX8_blind 36 = .ok (.iload_n 3, 1) := by decide +kernel
theorem dX8_blind_37 : decode cX8_blind 37 = .ok (.iload_n 1, 1) := by decide +kernel
theorem dX8_blind_38 : decode cX8_blind 38 = .ok (.invokevirtual 235, 3) := by decide +kernel
theorem dX8_blind_41 : decode cX8_blind 41 = .ok (.iconst (-1), 1) := by decide +kernel
theorem dX8_blind_42 : decode cX8_blind 42 = .ok (.ixor, 1) := by decide +kernel
theorem dX8_blind_43 : decode cX8_blind 43 = .ok (.iand, 1) := by decide +kernel
theorem dX8_blind_44 : decode cX8_blind 44 = .ok (.istore_n 2, 1) := by decide +kernel
theorem dX8_blind_45 : decode cX8_blind 45 = .ok (.iinc 3 1, 3) := by decide +kernel
theorem dX8_blind_48 : decode cX8_blind 48 = .ok (.goto (-34), 3) := by decide +kernel
theorem dX8_blind_51 : decode cX8_blind 51 = .ok (.iload_n 2, 1) := by decide +kernel
theorem dX8_blind_52 : decode cX8_blind 52 = .ok (.ireturn, 1) := by decide +kernel
theorem dX8_takes_0 : decode cX8_takes 0 = .ok (.iconst 0, 1) := by decide +kernel
theorem dX8_takes_1 : decode cX8_takes 1 = .ok (.istore_n 2, 1) := by decide +kernel
theorem dX8_takes_2 : decode cX8_takes 2 = .ok (.iconst 0, 1) := by decide +kernel
theorem dX8_takes_3 : decode cX8_takes 3 = .ok (.istore_n 3, 1) := by decide +kernel
theorem dX8_takes_4 : decode cX8_takes 4 = .ok (.iload_n 3, 1) := by decide +kernel
theorem dX8_takes_5 : decode cX8_takes 5 = .ok (.aload_n 0, 1) := by decide +kernel
theorem dX8_takes_6 : decode cX8_takes 6 = .ok (.getfield 74, 3) := by decide +kernel
theorem dX8_takes_9 : decode cX8_takes 9 = .ok (.if_icmp .ge 35, 3) := by decide +kernel
theorem dX8_takes_12 : decode cX8_takes 12 = .ok (.iload_n 2, 1) := by decide +kernel
theorem dX8_takes_13 : decode cX8_takes 13 = .ok (.iload_n 1, 1) := by decide +kernel
theorem dX8_takes_14 : decode cX8_takes 14 = .ok (.iload_n 3, 1) := by decide +kernel
theorem dX8_takes_15 : decode cX8_takes 15 = .ok (.invokestatic 168, 3) := by decide +kernel
theorem dX8_takes_18 : decode cX8_takes 18 = .ok (.ifCond .eq 17, 3) := by decide +kernel
theorem dX8_takes_21 : decode cX8_takes 21 = .ok (.iconst 1, 1) := by decide +kernel
theorem dX8_takes_22 : decode cX8_takes 22 = .ok (.aload_n 0, 1) := by decide +kernel
end
section
theorem dX8_takes_23 : decode cX8_takes 23 = .ok (.iconst 1, 1) := by decide +kernel
theorem dX8_takes_24 : decode cX8_takes 24 = .ok (.iload_n 3, 1) := by decide +kernel
theorem dX8_takes_25 : decode cX8_takes 25 = .ok (.ishl, 1) := by decide +kernel
theorem dX8_takes_26 : decode cX8_takes 26 = .ok (.invokevirtual 191, 3) := by decide +kernel
theorem dX8_takes_29 : decode cX8_takes 29 = .ok (.iconst 4, 1) := by decide +kernel
theorem dX8_takes_30 : decode cX8_takes 30 = .ok (.idiv, 1) := by decide +kernel
theorem dX8_takes_31 : decode cX8_takes 31 = .ok (.iadd, 1) := by decide +kernel
theorem dX8_takes_32 : decode cX8_takes 32 = .ok (.goto 4, 3) := by decide +kernel
theorem dX8_takes_35 : decode cX8_takes 35 = .ok (.iconst 0, 1) := by decide +kernel
theorem dX8_takes_36 : decode cX8_takes 36 = .ok (.iadd, 1) := by decide +kernel
theorem dX8_takes_37 : decode cX8_takes 37 = .ok (.istore_n 2, 1) := by decide +kernel
theorem dX8_takes_38 : decode cX8_takes 38 = .ok (.iinc 3 1, 3) := by decide +kernel
theorem dX8_takes_41 : decode cX8_takes 41 = .ok (.goto (-37), 3) := by decide +kernel
theorem dX8_takes_44 : decode cX8_takes 44 = .ok (.iload_n 2, 1) := by decide +kernel
theorem dX8_takes_45 : decode cX8_takes 45 = .ok (.ireturn, 1) := by decide +kernel
theorem dX8_most_0 : decode cX8_most 0 = .ok (.iload_n 1, 1) := by decide +kernel
theorem dX8_most_1 : decode cX8_most 1 = .ok (.iconst 0, 1) := by decide +kernel
theorem dX8_most_2 : decode cX8_most 2 = .ok (.bipush 60, 2) := by decide +kernel
theorem dX8_most_4 : decode cX8_most 4 = .ok (.invokestatic 78, 3) := by decide +kernel
theorem dX8_most_7 : decode cX8_most 7 = .ok (.ifCond .eq 12, 3) := by decide +kernel
theorem dX8_most_10 : decode cX8_most 10 = .ok (.iload_n 2, 1) := by decide +kernel
theorem dX8_most_11 : decode cX8_most 11 = .ok (.iconst 0, 1) := by decide +kernel
theorem dX8_most_12 : decode cX8_most 12 = .ok (.iconst 1, 1) := by decide +kernel
theorem dX8_most_13 : decode cX8_most 13 = .ok (.invokestatic 78, 3) := by decide +kernel
theorem dX8_most_16 : decode cX8_most 16 = .ok (.ifCond .ne 5, 3) := by decide +kernel
theorem dX8_most_19 : decode cX8_most 19 = .ok (.iconst (-1), 1) := by decide +kernel
theorem dX8_most_20 : decode cX8_most 20 = .ok (.ireturn, 1) := by decide +kernel
theorem dX8_most_21 : decode cX8_most 21 = .ok (.iconst 0, 1) := by decide +kernel
theorem dX8_most_22 : decode cX8_most 22 = .ok (.istore_n 3, 1) := by decide +kernel
theorem dX8_most_23 : decode cX8_most 23 = .ok (.aload_n 0, 1) := by decide +kernel
theorem dX8_most_24 : decode cX8_most 24 = .ok (.invokevirtual 226, 3) := by decide +kernel
theorem dX8_most_27 : decode cX8_most 27 = .ok (.istore 4, 2) := by decide +kernel
theorem dX8_most_29 : decode cX8_most 29 = .ok (.iconst 1, 1) := by decide +kernel
theorem dX8_most_30 : decode cX8_most 30 = .ok (.istore 5, 2) := by decide +kernel
theorem dX8_most_32 : decode cX8_most 32 = .ok (.iload 5, 2) := by decide +kernel
theorem dX8_most_34 : decode cX8_most 34 = .ok (.aload_n 0, 1) := by decide +kernel
theorem dX8_most_35 : decode cX8_most 35 = .ok (.invokevirtual 194, 3) := by decide +kernel
theorem dX8_most_38 : decode cX8_most 38 = .ok (.if_icmp .gt 104, 3) := by decide +kernel
theorem dX8_most_41 : decode cX8_most 41 = .ok (.iload 5, 2) := by decide +kernel
theorem dX8_most_43 : decode cX8_most 43 = .ok (.aload_n 0, 1) := by decide +kernel
theorem dX8_most_44 : decode cX8_most 44 = .ok (.getfield 31, 3) := by decide +kernel
theorem dX8_most_47 : decode cX8_most 47 = .ok (.bipush 45, 2) := by decide +kernel
theorem dX8_most_49 : decode cX8_most 49 = .ok (.iaload, 1) := by decide +kernel
theorem dX8_most_50 : decode cX8_most 50 = .ok (.iand, 1) := by decide +kernel
theorem dX8_most_51 : decode cX8_most 51 = .ok (.ifCond .ne 85, 3) := by decide +kernel
theorem dX8_most_54 : decode cX8_most 54 = .ok (.aload_n 0, 1) := by decide +kernel
theorem dX8_most_55 : decode cX8_most 55 = .ok (.iload 5, 2) := by decide +kernel
theorem dX8_most_57 : decode cX8_most 57 = .ok (.invokevirtual 239, 3) := by decide +kernel
theorem dX8_most_60 : decode cX8_most 60 = .ok (.iload_n 1, 1) := by decide +kernel
theorem dX8_most_61 : decode cX8_most 61 = .ok (.if_icmp .gt 75, 3) := by decide +kernel
theorem dX8_most_64 : decode cX8_most 64 = .ok (.aload_n 0, 1) := by decide +kernel
theorem dX8_most_65 : decode cX8_most 65 = .ok (.iload 5, 2) := by decide +kernel
theorem dX8_most_67 : decode cX8_most 67 = .ok (.aload_n 0, 1) := by decide +kernel
theorem dX8_most_68 : decode cX8_most 68 = .ok (.getfield 31, 3) := by decide +kernel
theorem dX8_most_71 : decode cX8_most 71 = .ok (.bipush 45, 2) := by decide +kernel
theorem dX8_most_73 : decode cX8_most 73 = .ok (.iaload, 1) := by decide +kernel
theorem dX8_most_74 : decode cX8_most 74 = .ok (.ior, 1) := by decide +kernel
theorem dX8_most_75 : decode cX8_most 75 = .ok (.invokevirtual 191, 3) := by decide +kernel
theorem dX8_most_78 : decode cX8_most 78 = .ok (.istore 6, 2) := by decide +kernel
theorem dX8_most_80 : decode cX8_most 80 = .ok (.iload 6, 2) := by decide +kernel
theorem dX8_most_82 : decode cX8_most 82 = .ok (.iload 4, 2) := by decide +kernel
theorem dX8_most_84 : decode cX8_most 84 = .ok (.if_icmp .gt 19, 3) := by decide +kernel
theorem dX8_most_87 : decode cX8_most 87 = .ok (.iload 6, 2) := by decide +kernel
theorem dX8_most_89 : decode cX8_most 89 = .ok (.iload 4, 2) := by decide +kernel
theorem dX8_most_91 : decode cX8_most 91 = .ok (.if_icmp .ne 16, 3) := by decide +kernel
theorem dX8_most_94 : decode cX8_most 94 = .ok (.iload 5, 2) := by decide +kernel
theorem dX8_most_96 : decode cX8_most 96 = .ok (.iload_n 3, 1) := by decide +kernel
theorem dX8_most_97 : decode cX8_most 97 = .ok (.invokestatic 198, 3) := by decide +kernel
theorem dX8_most_100 : decode cX8_most 100 = .ok (.ifCond .eq 7, 3) := by decide +kernel
theorem dX8_most_103 : decode cX8_most 103 = .ok (.iconst 1, 1) := by decide +kernel
theorem dX8_most_104 : decode cX8_most 104 = .ok (.goto 4, 3) := by decide +kernel
theorem dX8_most_107 : decode cX8_most 107 = .ok (.iconst 0, 1) := by decide +kernel
theorem dX8_most_108 : decode cX8_most 108 = .ok (.istore 7, 2) := by decide +kernel
theorem dX8_most_110 : decode cX8_most 110 = .ok (.iload 7, 2) := by decide +kernel
theorem dX8_most_112 : decode cX8_most 112 = .ok (.ifCond .eq 8, 3) := by decide +kernel
theorem dX8_most_115 : decode cX8_most 115 = .ok (.iload 5, 2) := by decide +kernel
theorem dX8_most_117 : decode cX8_most 117 = .ok (.goto 4, 3) := by decide +kernel
theorem dX8_most_120 : decode cX8_most 120 = .ok (.iload_n 3, 1) := by decide +kernel
theorem dX8_most_121 : decode cX8_most 121 = .ok (.istore_n 3, 1) := by decide +kernel
theorem dX8_most_122 : decode cX8_most 122 = .ok (.iload 7, 2) := by decide +kernel
theorem dX8_most_124 : decode cX8_most 124 = .ok (.ifCond .eq 8, 3) := by decide +kernel
theorem dX8_most_127 : decode cX8_most 127 = .ok (.iload 6, 2) := by decide +kernel
theorem dX8_most_129 : decode cX8_most 129 = .ok (.goto 5, 3) := by decide +kernel
theorem dX8_most_132 : decode cX8_most 132 = .ok (.iload 4, 2) := by decide +kernel
theorem dX8_most_134 : decode cX8_most 134 = .ok (.istore 4, 2) := by decide +kernel
theorem dX8_most_136 : decode cX8_most 136 = .ok (.iinc 5 1, 3) := by decide +kernel
theorem dX8_most_139 : decode cX8_most 139 = .ok (.goto (-107), 3) := by decide +kernel
theorem dX8_most_142 : decode cX8_most 142 = .ok (.iload_n 2, 1) := by decide +kernel
theorem dX8_most_143 : decode cX8_most 143 = .ok (.ifCond .ne 7, 3) := by decide +kernel
theorem dX8_most_146 : decode cX8_most 146 = .ok (.iload_n 3, 1) := by decide +kernel
theorem dX8_most_147 : decode cX8_most 147 = .ok (.goto 5, 3) := by decide +kernel
theorem dX8_most_150 : decode cX8_most 150 = .ok (.iload 4, 2) := by decide +kernel
theorem dX8_most_152 : decode cX8_most 152 = .ok (.ireturn, 1) := by decide +kernel
theorem dX8_lowest_0 : decode cX8_lowest 0 = .ok (.iload_n 0, 1) := by decide +kernel
theorem dX8_lowest_1 : decode cX8_lowest 1 = .ok (.istore_n 3, 1) := by decide +kernel
theorem dX8_lowest_2 : decode cX8_lowest 2 = .ok (.iload_n 1, 1) := by decide +kernel
theorem dX8_lowest_3 : decode cX8_lowest 3 = .ok (.istore 4, 2) := by decide +kernel
theorem dX8_lowest_5 : decode cX8_lowest 5 = .ok (.iload 4, 2) := by decide +kernel
theorem dX8_lowest_7 : decode cX8_lowest 7 = .ok (.ifCond .le 19, 3) := by decide +kernel
theorem dX8_lowest_10 : decode cX8_lowest 10 = .ok (.iload_n 3, 1) := by decide +kernel
theorem dX8_lowest_11 : decode cX8_lowest 11 = .ok (.iload 4, 2) := by decide +kernel
theorem dX8_lowest_13 : decode cX8_lowest 13 = .ok (.irem, 1) := by decide +kernel
theorem dX8_lowest_14 : decode cX8_lowest 14 = .ok (.istore 5, 2) := by decide +kernel
theorem dX8_lowest_16 : decode cX8_lowest 16 = .ok (.iload 4, 2) := by decide +kernel
theorem dX8_lowest_18 : decode cX8_lowest 18 = .ok (.istore_n 3, 1) := by decide +kernel
theorem dX8_lowest_19 : decode cX8_lowest 19 = .ok (.iload 5, 2) := by decide +kernel
theorem dX8_lowest_21 : decode cX8_lowest 21 = .ok (.istore 4, 2) := by decide +kernel
theorem dX8_lowest_23 : decode cX8_lowest 23 = .ok (.goto (-18), 3) := by decide +kernel
theorem dX8_lowest_26 : decode cX8_lowest 26 = .ok (.iload_n 2, 1) := by decide +kernel
theorem dX8_lowest_27 : decode cX8_lowest 27 = .ok (.ifCond .ne 7, 3) := by decide +kernel
theorem dX8_lowest_30 : decode cX8_lowest 30 = .ok (.iload_n 0, 1) := by decide +kernel
theorem dX8_lowest_31 : decode cX8_lowest 31 = .ok (.goto 4, 3) := by decide +kernel
theorem dX8_lowest_34 : decode cX8_lowest 34 = .ok (.iload_n 1, 1) := by decide +kernel
theorem dX8_lowest_35 : decode cX8_lowest 35 = .ok (.iload_n 3, 1) := by decide +kernel
theorem dX8_lowest_36 : decode cX8_lowest 36 = .ok (.idiv, 1) := by decide +kernel
theorem dX8_lowest_37 : decode cX8_lowest 37 = .ok (.ireturn, 1) := by decide +kernel
theorem dX8_odds_0 : decode cX8_odds 0 = .ok (.aload_n 0, 1) := by decide +kernel
theorem dX8_odds_1 : decode cX8_odds 1 = .ok (.iload_n 1, 1) := by decide +kernel
theorem dX8_odds_2 : decode cX8_odds 2 = .ok (.invokevirtual 201, 3) := by decide +kernel
theorem dX8_odds_5 : decode cX8_odds 5 = .ok (.ifCond .eq 59, 3) := by decide +kernel
theorem dX8_odds_8 : decode cX8_odds 8 = .ok (.iload_n 2, 1) := by decide +kernel
theorem dX8_odds_9 : decode cX8_odds 9 = .ok (.invokestatic 182, 3) := by decide +kernel
theorem dX8_odds_12 : decode cX8_odds 12 = .ok (.ifCond .eq 52, 3) := by decide +kernel
theorem dX8_odds_15 : decode cX8_odds 15 = .ok (.iload_n 3, 1) := by decide +kernel
theorem dX8_odds_16 : decode cX8_odds 16 = .ok (.invokestatic 232, 3) := by decide +kernel
theorem dX8_odds_19 : decode cX8_odds 19 = .ok (.ifCond .eq 45, 3) := by decide +kernel
theorem dX8_odds_22 : decode cX8_odds 22 = .ok (.iload 4, 2) := by decide +kernel
theorem dX8_odds_24 : decode cX8_odds 24 = .ok (.invokestatic 232, 3) := by decide +kernel
theorem dX8_odds_27 : decode cX8_odds 27 = .ok (.ifCond .eq 37, 3) := by decide +kernel
theorem dX8_odds_30 : decode cX8_odds 30 = .ok (.iload 4, 2) := by decide +kernel
theorem dX8_odds_32 : decode cX8_odds 32 = .ok (.iload_n 3, 1) := by decide +kernel
theorem dX8_odds_33 : decode cX8_odds 33 = .ok (.isub, 1) := by decide +kernel
theorem dX8_odds_34 : decode cX8_odds 34 = .ok (.iconst 0, 1) := by decide +kernel
theorem dX8_odds_35 : decode cX8_odds 35 = .ok (.bipush 7, 2) := by decide +kernel
theorem dX8_odds_37 : decode cX8_odds 37 = .ok (.invokestatic 78, 3) := by decide +kernel
theorem dX8_odds_40 : decode cX8_odds 40 = .ok (.ifCond .eq 24, 3) := by decide +kernel
theorem dX8_odds_43 : decode cX8_odds 43 = .ok (.iload 5, 2) := by decide +kernel
theorem dX8_odds_45 : decode cX8_odds 45 = .ok (.iconst 0, 1) := by decide +kernel
theorem dX8_odds_46 : decode cX8_odds 46 = .ok (.bipush 10, 2) := by decide +kernel
theorem dX8_odds_48 : decode cX8_odds 48 = .ok (.invokestatic 78, 3) := by decide +kernel
theorem dX8_odds_51 : decode cX8_odds 51 = .ok (.ifCond .eq 13, 3) := by decide +kernel
theorem dX8_odds_54 : decode cX8_odds 54 = .ok (.iload 6, 2) := by decide +kernel
theorem dX8_odds_56 : decode cX8_odds 56 = .ok (.iconst 0, 1) := by decide +kernel
theorem dX8_odds_57 : decode cX8_odds 57 = .ok (.iconst 1, 1) := by decide +kernel
theorem dX8_odds_58 : decode cX8_odds 58 = .ok (.invokestatic 78, 3) := by decide +kernel
theorem dX8_odds_61 : decode cX8_odds 61 = .ok (.ifCond .ne 5, 3) := by decide +kernel
theorem dX8_odds_64 : decode cX8_odds 64 = .ok (.iconst (-1), 1) := by decide +kernel
theorem dX8_odds_65 : decode cX8_odds 65 = .ok (.ireturn, 1) := by decide +kernel
theorem dX8_odds_66 : decode cX8_odds 66 = .ok (.iconst 1, 1) := by decide +kernel
theorem dX8_odds_67 : decode cX8_odds 67 = .ok (.istore 7, 2) := by decide +kernel
theorem dX8_odds_69 : decode cX8_odds 69 = .ok (.iconst 1, 1) := by decide +kernel
theorem dX8_odds_70 : decode cX8_odds 70 = .ok (.istore 8, 2) := by decide +kernel
theorem dX8_odds_72 : decode cX8_odds 72 = .ok (.iload_n 3, 1) := by decide +kernel
theorem dX8_odds_73 : decode cX8_odds 73 = .ok (.istore 9, 2) := by decide +kernel
theorem dX8_odds_75 : decode cX8_odds 75 = .ok (.iload 9, 2) := by decide +kernel
theorem dX8_odds_77 : decode cX8_odds 77 = .ok (.iload 4, 2) := by decide +kernel
theorem dX8_odds_79 : decode cX8_odds 79 = .ok (.if_icmp .gt 51, 3) := by decide +kernel
theorem dX8_odds_82 : decode cX8_odds 82 = .ok (.aload_n 0, 1) := by decide +kernel
theorem dX8_odds_83 : decode cX8_odds 83 = .ok (.iload_n 1, 1) := by decide +kernel
theorem dX8_odds_84 : decode cX8_odds 84 = .ok (.iload_n 2, 1) := by decide +kernel
theorem dX8_odds_85 : decode cX8_odds 85 = .ok (.iload 9, 2) := by decide +kernel
theorem dX8_odds_87 : decode cX8_odds 87 = .ok (.invokevirtual 214, 3) := by decide +kernel
theorem dX8_odds_90 : decode cX8_odds 90 = .ok (.istore 10, 2) := by decide +kernel
theorem dX8_odds_92 : decode cX8_odds 92 = .ok (.iload 7, 2) := by decide +kernel
theorem dX8_odds_94 : decode cX8_odds 94 = .ok (.iload 10, 2) := by decide +kernel
theorem dX8_odds_96 : decode cX8_odds 96 = .ok (.ifCond .eq 8, 3) := by decide +kernel
theorem dX8_odds_99 : decode cX8_odds 99 = .ok (.bipush 10, 2) := by decide +kernel
theorem dX8_odds_101 : decode cX8_odds 101 = .ok (.goto 4, 3) := by decide +kernel
theorem dX8_odds_104 : decode cX8_odds 104 = .ok (.iconst 1, 1) := by decide +kernel
theorem dX8_odds_105 : decode cX8_odds 105 = .ok (.imul, 1) := by decide +kernel
theorem dX8_odds_106 : decode cX8_odds 106 = .ok (.istore 7, 2) := by decide +kernel
theorem dX8_odds_108 : decode cX8_odds 108 = .ok (.iload 8, 2) := by decide +kernel
theorem dX8_odds_110 : decode cX8_odds 110 = .ok (.iload 10, 2) := by decide +kernel
theorem dX8_odds_112 : decode cX8_odds 112 = .ok (.ifCond .eq 8, 3) := by decide +kernel
theorem dX8_odds_115 : decode cX8_odds 115 = .ok (.iload 5, 2) := by decide +kernel
theorem dX8_odds_117 : decode cX8_odds 117 = .ok (.goto 4, 3) := by decide +kernel
theorem dX8_odds_120 : decode cX8_odds 120 = .ok (.iconst 1, 1) := by decide +kernel
theorem dX8_odds_121 : decode cX8_odds 121 = .ok (.imul, 1) := by decide +kernel
theorem dX8_odds_122 : decode cX8_odds 122 = .ok (.istore 8, 2) := by decide +kernel
theorem dX8_odds_124 : decode cX8_odds 124 = .ok (.iinc 9 1, 3) := by decide +kernel
theorem dX8_odds_127 : decode cX8_odds 127 = .ok (.goto (-52), 3) := by decide +kernel
theorem dX8_odds_130 : decode cX8_odds 130 = .ok (.iload 7, 2) := by decide +kernel
theorem dX8_odds_132 : decode cX8_odds 132 = .ok (.iload 8, 2) := by decide +kernel
theorem dX8_odds_134 : decode cX8_odds 134 = .ok (.isub, 1) := by decide +kernel
theorem dX8_odds_135 : decode cX8_odds 135 = .ok (.iload 7, 2) := by decide +kernel
theorem dX8_odds_137 : decode cX8_odds 137 = .ok (.iload 6, 2) := by decide +kernel
theorem dX8_odds_139 : decode cX8_odds 139 = .ok (.invokestatic 242, 3) := by decide +kernel
theorem dX8_odds_142 : decode cX8_odds 142 = .ok (.ireturn, 1) := by decide +kernel
theorem dX8_faced_0 : decode cX8_faced 0 = .ok (.iload_n 1, 1) := by decide +kernel
theorem dX8_faced_1 : decode cX8_faced 1 = .ok (.invokestatic 232, 3) := by decide +kernel
theorem dX8_faced_4 : decode cX8_faced 4 = .ok (.ifCond .eq 12, 3) := by decide +kernel
theorem dX8_faced_7 : decode cX8_faced 7 = .ok (.iload_n 2, 1) := by decide +kernel
theorem dX8_faced_8 : decode cX8_faced 8 = .ok (.iconst 0, 1) := by decide +kernel
theorem dX8_faced_9 : decode cX8_faced 9 = .ok (.iconst 1, 1) := by decide +kernel
theorem dX8_faced_10 : decode cX8_faced 10 = .ok (.invokestatic 78, 3) := by decide +kernel
theorem dX8_faced_13 : decode cX8_faced 13 = .ok (.ifCond .ne 5, 3) := by decide +kernel
theorem dX8_faced_16 : decode cX8_faced 16 = .ok (.iconst (-1), 1) := by decide +kernel
theorem dX8_faced_17 : decode cX8_faced 17 = .ok (.ireturn, 1) := by decide +kernel
theorem dX8_faced_18 : decode cX8_faced 18 = .ok (.aload_n 0, 1) := by decide +kernel
theorem dX8_faced_19 : decode cX8_faced 19 = .ok (.getfield 162, 3) := by decide +kernel
theorem dX8_faced_22 : decode cX8_faced 22 = .ok (.bipush 6, 2) := by decide +kernel
theorem dX8_faced_24 : decode cX8_faced 24 = .ok (.if_icmp .ne 6, 3) := by decide +kernel
theorem dX8_faced_27 : decode cX8_faced 27 = .ok (.bipush (-3), 2) := by decide +kernel
theorem dX8_faced_29 : decode cX8_faced 29 = .ok (.ireturn, 1) := by decide +kernel
theorem dX8_faced_30 : decode cX8_faced 30 = .ok (.aload_n 0, 1) := by decide +kernel
theorem dX8_faced_31 : decode cX8_faced 31 = .ok (.getfield 41, 3) := by decide +kernel
theorem dX8_faced_34 : decode cX8_faced 34 = .ok (.iconst 2, 1) := by decide +kernel
theorem dX8_faced_35 : decode cX8_faced 35 = .ok (.aload_n 0, 1) := by decide +kernel
theorem dX8_faced_36 : decode cX8_faced 36 = .ok (.getfield 162, 3) := by decide +kernel
theorem dX8_faced_39 : decode cX8_faced 39 = .ok (.imul, 1) := by decide +kernel
theorem dX8_faced_40 : decode cX8_faced 40 = .ok (.iload_n 1, 1) := by decide +kernel
theorem dX8_faced_41 : decode cX8_faced 41 = .ok (.iastore, 1) := by decide +kernel
theorem dX8_faced_42 : decode cX8_faced 42 = .ok (.aload_n 0, 1) := by decide +kernel
theorem dX8_faced_43 : decode cX8_faced 43 = .ok (.getfield 41, 3) := by decide +kernel
theorem dX8_faced_46 : decode cX8_faced 46 = .ok (.iconst 2, 1) := by decide +kernel
theorem dX8_faced_47 : decode cX8_faced 47 = .ok (.aload_n 0, 1) := by decide +kernel
theorem dX8_faced_48 : decode cX8_faced 48 = .ok (.getfield 162, 3) := by decide +kernel
theorem dX8_faced_51 : decode cX8_faced 51 = .ok (.imul, 1) := by decide +kernel
theorem dX8_faced_52 : decode cX8_faced 52 = .ok (.iconst 1, 1) := by decide +kernel
theorem dX8_faced_53 : decode cX8_faced 53 = .ok (.iadd, 1) := by decide +kernel
theorem dX8_faced_54 : decode cX8_faced 54 = .ok (.iload_n 2, 1) := by decide +kernel
theorem dX8_faced_55 : decode cX8_faced 55 = .ok (.iastore, 1) := by decide +kernel
theorem dX8_faced_56 : decode cX8_faced 56 = .ok (.aload_n 0, 1) := by decide +kernel
theorem dX8_faced_57 : decode cX8_faced 57 = .ok (.dup, 1) := by decide +kernel
theorem dX8_faced_58 : decode cX8_faced 58 = .ok (.getfield 162, 3) := by decide +kernel
theorem dX8_faced_61 : decode cX8_faced 61 = .ok (.iconst 1, 1) := by decide +kernel
theorem dX8_faced_62 : decode cX8_faced 62 = .ok (.iadd, 1) := by decide +kernel
theorem dX8_faced_63 : decode cX8_faced 63 = .ok (.putfield 162, 3) := by decide +kernel
theorem dX8_faced_66 : decode cX8_faced 66 = .ok (.aload_n 0, 1) := by decide +kernel
theorem dX8_faced_67 : decode cX8_faced 67 = .ok (.getfield 162, 3) := by decide +kernel
theorem dX8_faced_70 : decode cX8_faced 70 = .ok (.ireturn, 1) := by decide +kernel
theorem dX8_isLaw_0 : decode cX8_isLaw 0 = .ok (.iconst 1, 1) := by decide +kernel
theorem dX8_isLaw_1 : decode cX8_isLaw 1 = .ok (.istore_n 2, 1) := by decide +kernel
theorem dX8_isLaw_2 : decode cX8_isLaw 2 = .ok (.iconst 0, 1) := by decide +kernel
theorem dX8_isLaw_3 : decode cX8_isLaw 3 = .ok (.istore_n 3, 1) := by decide +kernel
theorem dX8_isLaw_4 : decode cX8_isLaw 4 = .ok (.iload_n 3, 1) := by decide +kernel
theorem dX8_isLaw_5 : decode cX8_isLaw 5 = .ok (.aload_n 0, 1) := by decide +kernel
theorem dX8_isLaw_6 : decode cX8_isLaw 6 = .ok (.getfield 162, 3) := by decide +kernel
theorem dX8_isLaw_9 : decode cX8_isLaw 9 = .ok (.if_icmp .ge 51, 3) := by decide +kernel
theorem dX8_isLaw_12 : decode cX8_isLaw 12 = .ok (.iload_n 2, 1) := by decide +kernel
theorem dX8_isLaw_13 : decode cX8_isLaw 13 = .ok (.ifCond .eq 39, 3) := by decide +kernel
theorem dX8_isLaw_16 : decode cX8_isLaw 16 = .ok (.iload_n 1, 1) := by decide +kernel
theorem dX8_isLaw_17 : decode cX8_isLaw 17 = .ok (.bipush 10, 2) := by decide +kernel
theorem dX8_isLaw_19 : decode cX8_isLaw 19 = .ok (.idiv, 1) := by decide +kernel
theorem dX8_isLaw_20 : decode cX8_isLaw 20 = .ok (.iload_n 1, 1) := by decide +kernel
theorem dX8_isLaw_21 : decode cX8_isLaw 21 = .ok (.bipush 10, 2) := by decide +kernel
theorem dX8_isLaw_23 : decode cX8_isLaw 23 = .ok (.irem, 1) := by decide +kernel
theorem dX8_isLaw_24 : decode cX8_isLaw 24 = .ok (.aload_n 0, 1) := by decide +kernel
theorem dX8_isLaw_25 : decode cX8_isLaw 25 = .ok (.getfield 41, 3) := by decide +kernel
theorem dX8_isLaw_28 : decode cX8_isLaw 28 = .ok (.iconst 2, 1) := by decide +kernel
theorem dX8_isLaw_29 : decode cX8_isLaw 29 = .ok (.iload_n 3, 1) := by decide +kernel
theorem dX8_isLaw_30 : decode cX8_isLaw 30 = .ok (.imul, 1) := by decide +kernel
theorem dX8_isLaw_31 : decode cX8_isLaw 31 = .ok (.iaload, 1) := by decide +kernel
theorem dX8_isLaw_32 : decode cX8_isLaw 32 = .ok (.invokestatic 175, 3) := by decide +kernel
theorem dX8_isLaw_35 : decode cX8_isLaw 35 = .ok (.aload_n 0, 1) := by decide +kernel
theorem dX8_isLaw_36 : decode cX8_isLaw 36 = .ok (.getfield 41, 3) := by decide +kernel
theorem dX8_isLaw_39 : decode cX8_isLaw 39 = .ok (.iconst 2, 1) := by decide +kernel
theorem dX8_isLaw_40 : decode cX8_isLaw 40 = .ok (.iload_n 3, 1) := by decide +kernel
theorem dX8_isLaw_41 : decode cX8_isLaw 41 = .ok (.imul, 1) := by decide +kernel
theorem dX8_isLaw_42 : decode cX8_isLaw 42 = .ok (.iconst 1, 1) := by decide +kernel
theorem dX8_isLaw_43 : decode cX8_isLaw 43 = .ok (.iadd, 1) := by decide +kernel
theorem dX8_isLaw_44 : decode cX8_isLaw 44 = .ok (.iaload, 1) := by decide +kernel
theorem dX8_isLaw_45 : decode cX8_isLaw 45 = .ok (.if_icmp .ne 7, 3) := by decide +kernel
theorem dX8_isLaw_48 : decode cX8_isLaw 48 = .ok (.iconst 1, 1) := by decide +kernel
theorem dX8_isLaw_49 : decode cX8_isLaw 49 = .ok (.goto 4, 3) := by decide +kernel
theorem dX8_isLaw_52 : decode cX8_isLaw 52 = .ok (.iconst 0, 1) := by decide +kernel
theorem dX8_isLaw_53 : decode cX8_isLaw 53 = .ok (.istore_n 2, 1) := by decide +kernel
theorem dX8_isLaw_54 : decode cX8_isLaw 54 = .ok (.iinc 3 1, 3) := by decide +kernel
theorem dX8_isLaw_57 : decode cX8_isLaw 57 = .ok (.goto (-53), 3) := by decide +kernel
theorem dX8_isLaw_60 : decode cX8_isLaw 60 = .ok (.iload_n 2, 1) := by decide +kernel
theorem dX8_isLaw_61 : decode cX8_isLaw 61 = .ok (.ireturn, 1) := by decide +kernel
theorem dX8_laws_0 : decode cX8_laws 0 = .ok (.iload_n 1, 1) := by decide +kernel
theorem dX8_laws_1 : decode cX8_laws 1 = .ok (.iconst 0, 1) := by decide +kernel
theorem dX8_laws_2 : decode cX8_laws 2 = .ok (.iconst 1, 1) := by decide +kernel
theorem dX8_laws_3 : decode cX8_laws 3 = .ok (.invokestatic 78, 3) := by decide +kernel
theorem dX8_laws_6 : decode cX8_laws 6 = .ok (.ifCond .ne 5, 3) := by decide +kernel
theorem dX8_laws_9 : decode cX8_laws 9 = .ok (.iconst (-1), 1) := by decide +kernel
theorem dX8_laws_10 : decode cX8_laws 10 = .ok (.ireturn, 1) := by decide +kernel
theorem dX8_laws_11 : decode cX8_laws 11 = .ok (.iconst 0, 1) := by decide +kernel
theorem dX8_laws_12 : decode cX8_laws 12 = .ok (.istore_n 2, 1) := by decide +kernel
theorem dX8_laws_13 : decode cX8_laws 13 = .ok (.bipush (-9), 2) := by decide +kernel
theorem dX8_laws_15 : decode cX8_laws 15 = .ok (.istore_n 3, 1) := by decide +kernel
theorem dX8_laws_16 : decode cX8_laws 16 = .ok (.iconst 0, 1) := by decide +kernel
theorem dX8_laws_17 : decode cX8_laws 17 = .ok (.istore 4, 2) := by decide +kernel
theorem dX8_laws_19 : decode cX8_laws 19 = .ok (.iload 4, 2) := by decide +kernel
theorem dX8_laws_21 : decode cX8_laws 21 = .ok (.bipush 20, 2) := by decide +kernel
theorem dX8_laws_23 : decode cX8_laws 23 = .ok (.if_icmp .ge 32, 3) := by decide +kernel
theorem dX8_laws_26 : decode cX8_laws 26 = .ok (.aload_n 0, 1) := by decide +kernel
theorem dX8_laws_27 : decode cX8_laws 27 = .ok (.iload 4, 2) := by decide +kernel
theorem dX8_laws_29 : decode cX8_laws 29 = .ok (.invokevirtual 245, 3) := by decide +kernel
theorem dX8_laws_32 : decode cX8_laws 32 = .ok (.ifCond .eq 17, 3) := by decide +kernel
theorem dX8_laws_35 : decode cX8_laws 35 = .ok (.iload_n 2, 1) := by decide +kernel
theorem dX8_laws_36 : decode cX8_laws 36 = .ok (.ifCond .ne 8, 3) := by decide +kernel
theorem dX8_laws_39 : decode cX8_laws 39 = .ok (.iload 4, 2) := by decide +kernel
theorem dX8_laws_41 : decode cX8_laws 41 = .ok (.goto 4, 3) := by decide +kernel
theorem dX8_laws_44 : decode cX8_laws 44 = .ok (.iload_n 3, 1) := by decide +kernel
theorem dX8_laws_45 : decode cX8_laws 45 = .ok (.istore_n 3, 1) := by decide +kernel
theorem dX8_laws_46 : decode cX8_laws 46 = .ok (.iinc 2 1, 3) := by decide +kernel
theorem dX8_laws_49 : decode cX8_laws 49 = .ok (.iinc 4 1, 3) := by decide +kernel
theorem dX8_laws_52 : decode cX8_laws 52 = .ok (.goto (-33), 3) := by decide +kernel
theorem dX8_laws_55 : decode cX8_laws 55 = .ok (.iload_n 1, 1) := by decide +kernel
theorem dX8_laws_56 : decode cX8_laws 56 = .ok (.ifCond .ne 7, 3) := by decide +kernel
theorem dX8_laws_59 : decode cX8_laws 59 = .ok (.iload_n 2, 1) := by decide +kernel
theorem dX8_laws_60 : decode cX8_laws 60 = .ok (.goto 4, 3) := by decide +kernel
theorem dX8_laws_63 : decode cX8_laws 63 = .ok (.iload_n 3, 1) := by decide +kernel
theorem dX8_laws_64 : decode cX8_laws 64 = .ok (.ireturn, 1) := by decide +kernel
theorem dX8_tryNext_0 : decode cX8_tryNext 0 = .ok (.aload_n 0, 1) := by decide +kernel
theorem dX8_tryNext_1 : decode cX8_tryNext 1 = .ok (.iconst 0, 1) := by decide +kernel
theorem dX8_tryNext_2 : decode cX8_tryNext 2 = .ok (.invokevirtual 248, 3) := by decide +kernel
theorem dX8_tryNext_5 : decode cX8_tryNext 5 = .ok (.istore_n 1, 1) := by decide +kernel
theorem dX8_tryNext_6 : decode cX8_tryNext 6 = .ok (.bipush (-9), 2) := by decide +kernel
theorem dX8_tryNext_8 : decode cX8_tryNext 8 = .ok (.istore_n 2, 1) := by decide +kernel
theorem dX8_tryNext_9 : decode cX8_tryNext 9 = .ok (.iload_n 1, 1) := by decide +kernel
theorem dX8_tryNext_10 : decode cX8_tryNext 10 = .ok (.istore_n 3, 1) := by decide +kernel
theorem dX8_tryNext_11 : decode cX8_tryNext 11 = .ok (.iconst 0, 1) := by decide +kernel
theorem dX8_tryNext_12 : decode cX8_tryNext 12 = .ok (.istore 4, 2) := by decide +kernel
theorem dX8_tryNext_14 : decode cX8_tryNext 14 = .ok (.iload 4, 2) := by decide +kernel
theorem dX8_tryNext_16 : decode cX8_tryNext 16 = .ok (.bipush 30, 2) := by decide +kernel
theorem dX8_tryNext_18 : decode cX8_tryNext 18 = .ok (.if_icmp .ge 107, 3) := by decide +kernel
theorem dX8_tryNext_21 : decode cX8_tryNext 21 = .ok (.iconst 0, 1) := by decide +kernel
theorem dX8_tryNext_22 : decode cX8_tryNext 22 = .ok (.istore 5, 2) := by decide +kernel
theorem dX8_tryNext_24 : decode cX8_tryNext 24 = .ok (.iconst 0, 1) := by decide +kernel
theorem dX8_tryNext_25 : decode cX8_tryNext 25 = .ok (.istore 6, 2) := by decide +kernel
theorem dX8_tryNext_27 : decode cX8_tryNext 27 = .ok (.iload 6, 2) := by decide +kernel
theorem dX8_tryNext_29 : decode cX8_tryNext 29 = .ok (.bipush 20, 2) := by decide +kernel
theorem dX8_tryNext_31 : decode cX8_tryNext 31 = .ok (.if_icmp .ge 42, 3) := by decide +kernel
theorem dX8_tryNext_34 : decode cX8_tryNext 34 = .ok (.iload 5, 2) := by decide +kernel
theorem dX8_tryNext_36 : decode cX8_tryNext 36 = .ok (.aload_n 0, 1) := by decide +kernel
theorem dX8_tryNext_37 : decode cX8_tryNext 37 = .ok (.iload 6, 2) := by decide +kernel
theorem dX8_tryNext_39 : decode cX8_tryNext 39 = .ok (.invokevirtual 245, 3) := by decide +kernel
theorem dX8_tryNext_42 : decode cX8_tryNext 42 = .ok (.ifCond .eq 21, 3) := by decide +kernel
theorem dX8_tryNext_45 : decode cX8_tryNext 45 = .ok (.iload 6, 2) := by decide +kernel
theorem dX8_tryNext_47 : decode cX8_tryNext 47 = .ok (.bipush 10, 2) := by decide +kernel
theorem dX8_tryNext_49 : decode cX8_tryNext 49 = .ok (.idiv, 1) := by decide +kernel
theorem dX8_tryNext_50 : decode cX8_tryNext 50 = .ok (.iload 6, 2) := by decide +kernel
theorem dX8_tryNext_52 : decode cX8_tryNext 52 = .ok (.bipush 10, 2) := by decide +kernel
theorem dX8_tryNext_54 : decode cX8_tryNext 54 = .ok (.irem, 1) := by decide +kernel
theorem dX8_tryNext_55 : decode cX8_tryNext 55 = .ok (.iload 4, 2) := by decide +kernel
theorem dX8_tryNext_57 : decode cX8_tryNext 57 = .ok (.invokestatic 175, 3) := by decide +kernel
theorem dX8_tryNext_60 : decode cX8_tryNext 60 = .ok (.goto 4, 3) := by decide +kernel
theorem dX8_tryNext_63 : decode cX8_tryNext 63 = .ok (.iconst 0, 1) := by decide +kernel
theorem dX8_tryNext_64 : decode cX8_tryNext 64 = .ok (.iadd, 1) := by decide +kernel
theorem dX8_tryNext_65 : decode cX8_tryNext 65 = .ok (.istore 5, 2) := by decide +kernel
theorem dX8_tryNext_67 : decode cX8_tryNext 67 = .ok (.iinc 6 1, 3) := by decide +kernel
theorem dX8_tryNext_70 : decode cX8_tryNext 70 = .ok (.goto (-43), 3) := by decide +kernel
theorem dX8_tryNext_73 : decode cX8_tryNext 73 = .ok (.iload 5, 2) := by decide +kernel
theorem dX8_tryNext_75 : decode cX8_tryNext 75 = .ok (.iload_n 1, 1) := by decide +kernel
theorem dX8_tryNext_76 : decode cX8_tryNext 76 = .ok (.iload 5, 2) := by decide +kernel
theorem dX8_tryNext_78 : decode cX8_tryNext 78 = .ok (.isub, 1) := by decide +kernel
theorem dX8_tryNext_79 : decode cX8_tryNext 79 = .ok (.if_icmp .le 8, 3) := by decide +kernel
theorem dX8_tryNext_82 : decode cX8_tryNext 82 = .ok (.iload 5, 2) := by decide +kernel
theorem dX8_tryNext_84 : decode cX8_tryNext 84 = .ok (.goto 7, 3) := by decide +kernel
theorem dX8_tryNext_87 : decode cX8_tryNext 87 = .ok (.iload_n 1, 1) := by decide +kernel
theorem dX8_tryNext_88 : decode cX8_tryNext 88 = .ok (.iload 5, 2) := by decide +kernel
theorem dX8_tryNext_90 : decode cX8_tryNext 90 = .ok (.isub, 1) := by decide +kernel
theorem dX8_tryNext_91 : decode cX8_tryNext 91 = .ok (.istore 6, 2) := by decide +kernel
theorem dX8_tryNext_93 : decode cX8_tryNext 93 = .ok (.iload 6, 2) := by decide +kernel
theorem dX8_tryNext_95 : decode cX8_tryNext 95 = .ok (.iload_n 3, 1) := by decide +kernel
theorem dX8_tryNext_96 : decode cX8_tryNext 96 = .ok (.if_icmp .ge 8, 3) := by decide +kernel
theorem dX8_tryNext_99 : decode cX8_tryNext 99 = .ok (.iload 4, 2) := by decide +kernel
theorem dX8_tryNext_101 : decode cX8_tryNext 101 = .ok (.goto 4, 3) := by decide +kernel
theorem dX8_tryNext_104 : decode cX8_tryNext 104 = .ok (.iload_n 2, 1) := by decide +kernel
theorem dX8_tryNext_105 : decode cX8_tryNext 105 = .ok (.istore_n 2, 1) := by decide +kernel
theorem dX8_tryNext_106 : decode cX8_tryNext 106 = .ok (.iload 6, 2) := by decide +kernel
theorem dX8_tryNext_108 : decode cX8_tryNext 108 = .ok (.iload_n 3, 1) := by decide +kernel
theorem dX8_tryNext_109 : decode cX8_tryNext 109 = .ok (.if_icmp .ge 8, 3) := by decide +kernel
theorem dX8_tryNext_112 : decode cX8_tryNext 112 = .ok (.iload 6, 2) := by decide +kernel
theorem dX8_tryNext_114 : decode cX8_tryNext 114 = .ok (.goto 4, 3) := by decide +kernel
theorem dX8_tryNext_117 : decode cX8_tryNext 117 = .ok (.iload_n 3, 1) := by decide +kernel
theorem dX8_tryNext_118 : decode cX8_tryNext 118 = .ok (.istore_n 3, 1) := by decide +kernel
theorem dX8_tryNext_119 : decode cX8_tryNext 119 = .ok (.iinc 4 1, 3) := by decide +kernel
theorem dX8_tryNext_122 : decode cX8_tryNext 122 = .ok (.goto (-108), 3) := by decide +kernel
theorem dX8_tryNext_125 : decode cX8_tryNext 125 = .ok (.iload_n 2, 1) := by decide +kernel
theorem dX8_tryNext_126 : decode cX8_tryNext 126 = .ok (.ireturn, 1) := by decide +kernel
theorem dX8_met_0 : decode cX8_met 0 = .ok (.iload_n 1, 1) := by decide +kernel
theorem dX8_met_1 : decode cX8_met 1 = .ok (.invokestatic 182, 3) := by decide +kernel
theorem dX8_met_4 : decode cX8_met 4 = .ok (.ifCond .eq 10, 3) := by decide +kernel
theorem dX8_met_7 : decode cX8_met 7 = .ok (.iload_n 2, 1) := by decide +kernel
theorem dX8_met_8 : decode cX8_met 8 = .ok (.invokestatic 232, 3) := by decide +kernel
theorem dX8_met_11 : decode cX8_met 11 = .ok (.ifCond .ne 5, 3) := by decide +kernel
theorem dX8_met_14 : decode cX8_met 14 = .ok (.iconst (-1), 1) := by decide +kernel
theorem dX8_met_15 : decode cX8_met 15 = .ok (.ireturn, 1) := by decide +kernel
theorem dX8_met_16 : decode cX8_met 16 = .ok (.aload_n 0, 1) := by decide +kernel
theorem dX8_met_17 : decode cX8_met 17 = .ok (.getfield 165, 3) := by decide +kernel
theorem dX8_met_20 : decode cX8_met 20 = .ok (.bipush 6, 2) := by decide +kernel
theorem dX8_met_22 : decode cX8_met 22 = .ok (.if_icmp .ne 6, 3) := by decide +kernel
theorem dX8_met_25 : decode cX8_met 25 = .ok (.bipush (-3), 2) := by decide +kernel
theorem dX8_met_27 : decode cX8_met 27 = .ok (.ireturn, 1) := by decide +kernel
theorem dX8_met_28 : decode cX8_met 28 = .ok (.aload_n 0, 1) := by decide +kernel
theorem dX8_met_29 : decode cX8_met 29 = .ok (.getfield 44, 3) := by decide +kernel
theorem dX8_met_32 : decode cX8_met 32 = .ok (.iconst 2, 1) := by decide +kernel
theorem dX8_met_33 : decode cX8_met 33 = .ok (.aload_n 0, 1) := by decide +kernel
theorem dX8_met_34 : decode cX8_met 34 = .ok (.getfield 165, 3) := by decide +kernel
theorem dX8_met_37 : decode cX8_met 37 = .ok (.imul, 1) := by decide +kernel
theorem dX8_met_38 : decode cX8_met 38 = .ok (.iload_n 1, 1) := by decide +kernel
theorem dX8_met_39 : decode cX8_met 39 = .ok (.iastore, 1) := by decide +kernel
theorem dX8_met_40 : decode cX8_met 40 = .ok (.aload_n 0, 1) := by decide +kernel
theorem dX8_met_41 : decode cX8_met 41 = .ok (.getfield 44, 3) := by decide +kernel
theorem dX8_met_44 : decode cX8_met 44 = .ok (.iconst 2, 1) := by decide +kernel
theorem dX8_met_45 : decode cX8_met 45 = .ok (.aload_n 0, 1) := by decide +kernel
theorem dX8_met_46 : decode cX8_met 46 = .ok (.getfield 165, 3) := by decide +kernel
theorem dX8_met_49 : decode cX8_met 49 = .ok (.imul, 1) := by decide +kernel
theorem dX8_met_50 : decode cX8_met 50 = .ok (.iconst 1, 1) := by decide +kernel
theorem dX8_met_51 : decode cX8_met 51 = .ok (.iadd, 1) := by decide +kernel
theorem dX8_met_52 : decode cX8_met 52 = .ok (.iload_n 2, 1) := by decide +kernel
theorem dX8_met_53 : decode cX8_met 53 = .ok (.iastore, 1) := by decide +kernel
theorem dX8_met_54 : decode cX8_met 54 = .ok (.aload_n 0, 1) := by decide +kernel
theorem dX8_met_55 : decode cX8_met 55 = .ok (.dup, 1) := by decide +kernel
theorem dX8_met_56 : decode cX8_met 56 = .ok (.getfield 165, 3) := by decide +kernel
theorem dX8_met_59 : decode cX8_met 59 = .ok (.iconst 1, 1) := by decide +kernel
theorem dX8_met_60 : decode cX8_met 60 = .ok (.iadd, 1) := by decide +kernel
theorem dX8_met_61 : decode cX8_met 61 = .ok (.putfield 165, 3) := by decide +kernel
theorem dX8_met_64 : decode cX8_met 64 = .ok (.aload_n 0, 1) := by decide +kernel
theorem dX8_met_65 : decode cX8_met 65 = .ok (.getfield 165, 3) := by decide +kernel
theorem dX8_met_68 : decode cX8_met 68 = .ok (.ireturn, 1) := by decide +kernel
theorem dX8_wrong_0 : decode cX8_wrong 0 = .ok (.iconst 0, 1) := by decide +kernel
theorem dX8_wrong_1 : decode cX8_wrong 1 = .ok (.istore_n 2, 1) := by decide +kernel
theorem dX8_wrong_2 : decode cX8_wrong 2 = .ok (.iconst 0, 1) := by decide +kernel
theorem dX8_wrong_3 : decode cX8_wrong 3 = .ok (.istore_n 3, 1) := by decide +kernel
theorem dX8_wrong_4 : decode cX8_wrong 4 = .ok (.iload_n 3, 1) := by decide +kernel
theorem dX8_wrong_5 : decode cX8_wrong 5 = .ok (.aload_n 0, 1) := by decide +kernel
theorem dX8_wrong_6 : decode cX8_wrong 6 = .ok (.getfield 165, 3) := by decide +kernel
theorem dX8_wrong_9 : decode cX8_wrong 9 = .ok (.if_icmp .ge 50, 3) := by decide +kernel
theorem dX8_wrong_12 : decode cX8_wrong 12 = .ok (.iload_n 2, 1) := by decide +kernel
theorem dX8_wrong_13 : decode cX8_wrong 13 = .ok (.iload_n 1, 1) := by decide +kernel
theorem dX8_wrong_14 : decode cX8_wrong 14 = .ok (.bipush 7, 2) := by decide +kernel
theorem dX8_wrong_16 : decode cX8_wrong 16 = .ok (.idiv, 1) := by decide +kernel
theorem dX8_wrong_17 : decode cX8_wrong 17 = .ok (.aload_n 0, 1) := by decide +kernel
theorem dX8_wrong_18 : decode cX8_wrong 18 = .ok (.getfield 44, 3) := by decide +kernel
theorem dX8_wrong_21 : decode cX8_wrong 21 = .ok (.iconst 2, 1) := by decide +kernel
theorem dX8_wrong_22 : decode cX8_wrong 22 = .ok (.iload_n 3, 1) := by decide +kernel
theorem dX8_wrong_23 : decode cX8_wrong 23 = .ok (.imul, 1) := by decide +kernel
theorem dX8_wrong_24 : decode cX8_wrong 24 = .ok (.iconst 1, 1) := by decide +kernel
theorem dX8_wrong_25 : decode cX8_wrong 25 = .ok (.iadd, 1) := by decide +kernel
theorem dX8_wrong_26 : decode cX8_wrong 26 = .ok (.iaload, 1) := by decide +kernel
theorem dX8_wrong_27 : decode cX8_wrong 27 = .ok (.iload_n 1, 1) := by decide +kernel
theorem dX8_wrong_28 : decode cX8_wrong 28 = .ok (.bipush 7, 2) := by decide +kernel
theorem dX8_wrong_30 : decode cX8_wrong 30 = .ok (.irem, 1) := by decide +kernel
theorem dX8_wrong_31 : decode cX8_wrong 31 = .ok (.iconst 3, 1) := by decide +kernel
theorem dX8_wrong_32 : decode cX8_wrong 32 = .ok (.isub, 1) := by decide +kernel
theorem dX8_wrong_33 : decode cX8_wrong 33 = .ok (.imul, 1) := by decide +kernel
theorem dX8_wrong_34 : decode cX8_wrong 34 = .ok (.iadd, 1) := by decide +kernel
theorem dX8_wrong_35 : decode cX8_wrong 35 = .ok (.aload_n 0, 1) := by decide +kernel
theorem dX8_wrong_36 : decode cX8_wrong 36 = .ok (.getfield 44, 3) := by decide +kernel
theorem dX8_wrong_39 : decode cX8_wrong 39 = .ok (.iconst 2, 1) := by decide +kernel
theorem dX8_wrong_40 : decode cX8_wrong 40 = .ok (.iload_n 3, 1) := by decide +kernel
theorem dX8_wrong_41 : decode cX8_wrong 41 = .ok (.imul, 1) := by decide +kernel
theorem dX8_wrong_42 : decode cX8_wrong 42 = .ok (.iaload, 1) := by decide +kernel
theorem dX8_wrong_43 : decode cX8_wrong 43 = .ok (.if_icmp .ne 7, 3) := by decide +kernel
theorem dX8_wrong_46 : decode cX8_wrong 46 = .ok (.iconst 0, 1) := by decide +kernel
theorem dX8_wrong_47 : decode cX8_wrong 47 = .ok (.goto 4, 3) := by decide +kernel
theorem dX8_wrong_50 : decode cX8_wrong 50 = .ok (.iconst 1, 1) := by decide +kernel
theorem dX8_wrong_51 : decode cX8_wrong 51 = .ok (.iadd, 1) := by decide +kernel
theorem dX8_wrong_52 : decode cX8_wrong 52 = .ok (.istore_n 2, 1) := by decide +kernel
theorem dX8_wrong_53 : decode cX8_wrong 53 = .ok (.iinc 3 1, 3) := by decide +kernel
theorem dX8_wrong_56 : decode cX8_wrong 56 = .ok (.goto (-52), 3) := by decide +kernel
theorem dX8_wrong_59 : decode cX8_wrong 59 = .ok (.iload_n 2, 1) := by decide +kernel
theorem dX8_wrong_60 : decode cX8_wrong 60 = .ok (.ireturn, 1) := by decide +kernel
theorem dX8_told_0 : decode cX8_told 0 = .ok (.bipush 10, 2) := by decide +kernel
theorem dX8_told_2 : decode cX8_told 2 = .ok (.iload_n 0, 1) := by decide +kernel
theorem dX8_told_3 : decode cX8_told 3 = .ok (.bipush 7, 2) := by decide +kernel
theorem dX8_told_5 : decode cX8_told 5 = .ok (.idiv, 1) := by decide +kernel
theorem dX8_told_6 : decode cX8_told 6 = .ok (.imul, 1) := by decide +kernel
theorem dX8_told_7 : decode cX8_told 7 = .ok (.iload_n 0, 1) := by decide +kernel
theorem dX8_told_8 : decode cX8_told 8 = .ok (.bipush 7, 2) := by decide +kernel
theorem dX8_told_10 : decode cX8_told 10 = .ok (.irem, 1) := by decide +kernel
theorem dX8_told_11 : decode cX8_told 11 = .ok (.iadd, 1) := by decide +kernel
theorem dX8_told_12 : decode cX8_told 12 = .ok (.ireturn, 1) := by decide +kernel
theorem dX8_ways_0 : decode cX8_ways 0 = .ok (.iload_n 1, 1) := by decide +kernel
theorem dX8_ways_1 : decode cX8_ways 1 = .ok (.iconst 0, 1) := by decide +kernel
theorem dX8_ways_2 : decode cX8_ways 2 = .ok (.iconst 1, 1) := by decide +kernel
theorem dX8_ways_3 : decode cX8_ways 3 = .ok (.invokestatic 78, 3) := by decide +kernel
theorem dX8_ways_6 : decode cX8_ways 6 = .ok (.ifCond .ne 5, 3) := by decide +kernel
theorem dX8_ways_9 : decode cX8_ways 9 = .ok (.iconst (-1), 1) := by decide +kernel
theorem dX8_ways_10 : decode cX8_ways 10 = .ok (.ireturn, 1) := by decide +kernel
theorem dX8_ways_11 : decode cX8_ways 11 = .ok (.iconst 0, 1) := by decide +kernel
theorem dX8_ways_12 : decode cX8_ways 12 = .ok (.istore_n 2, 1) := by decide +kernel
theorem dX8_ways_13 : decode cX8_ways 13 = .ok (.bipush (-9), 2) := by decide +kernel
theorem dX8_ways_15 : decode cX8_ways 15 = .ok (.istore_n 3, 1) := by decide +kernel
theorem dX8_ways_16 : decode cX8_ways 16 = .ok (.iconst 0, 1) := by decide +kernel
theorem dX8_ways_17 : decode cX8_ways 17 = .ok (.istore 4, 2) := by decide +kernel
theorem dX8_ways_19 : decode cX8_ways 19 = .ok (.iload 4, 2) := by decide +kernel
theorem dX8_ways_21 : decode cX8_ways 21 = .ok (.sipush 168, 3) := by decide +kernel
theorem dX8_ways_24 : decode cX8_ways 24 = .ok (.if_icmp .ge 35, 3) := by decide +kernel
theorem dX8_ways_27 : decode cX8_ways 27 = .ok (.aload_n 0, 1) := by decide +kernel
theorem dX8_ways_28 : decode cX8_ways 28 = .ok (.iload 4, 2) := by decide +kernel
theorem dX8_ways_30 : decode cX8_ways 30 = .ok (.invokevirtual 251, 3) := by decide +kernel
theorem dX8_ways_33 : decode cX8_ways 33 = .ok (.ifCond .ne 20, 3) := by decide +kernel
theorem dX8_ways_36 : decode cX8_ways 36 = .ok (.iload_n 2, 1) := by decide +kernel
theorem dX8_ways_37 : decode cX8_ways 37 = .ok (.ifCond .ne 11, 3) := by decide +kernel
theorem dX8_ways_40 : decode cX8_ways 40 = .ok (.iload 4, 2) := by decide +kernel
theorem dX8_ways_42 : decode cX8_ways 42 = .ok (.invokestatic 254, 3) := by decide +kernel
theorem dX8_ways_45 : decode cX8_ways 45 = .ok (.goto 4, 3) := by decide +kernel
theorem dX8_ways_48 : decode cX8_ways 48 = .ok (.iload_n 3, 1) := by decide +kernel
theorem dX8_ways_49 : decode cX8_ways 49 = .ok (.istore_n 3, 1) := by decide +kernel
theorem dX8_ways_50 : decode cX8_ways 50 = .ok (.iinc 2 1, 3) := by decide +kernel
theorem dX8_ways_53 : decode cX8_ways 53 = .ok (.iinc 4 1, 3) := by decide +kernel
theorem dX8_ways_56 : decode cX8_ways 56 = .ok (.goto (-37), 3) := by decide +kernel
theorem dX8_ways_59 : decode cX8_ways 59 = .ok (.iload_n 1, 1) := by decide +kernel
theorem dX8_ways_60 : decode cX8_ways 60 = .ok (.ifCond .ne 7, 3) := by decide +kernel
theorem dX8_ways_63 : decode cX8_ways 63 = .ok (.iload_n 2, 1) := by decide +kernel
theorem dX8_ways_64 : decode cX8_ways 64 = .ok (.goto 4, 3) := by decide +kernel
theorem dX8_ways_67 : decode cX8_ways 67 = .ok (.iload_n 3, 1) := by decide +kernel
theorem dX8_ways_68 : decode cX8_ways 68 = .ok (.ireturn, 1) := by decide +kernel
theorem dX8_falses_0 : decode cX8_falses 0 = .ok (.iload_n 1, 1) := by decide +kernel
theorem dX8_falses_1 : decode cX8_falses 1 = .ok (.iconst 0, 1) := by decide +kernel
theorem dX8_falses_2 : decode cX8_falses 2 = .ok (.iconst 1, 1) := by decide +kernel
theorem dX8_falses_3 : decode cX8_falses 3 = .ok (.invokestatic 78, 3) := by decide +kernel
theorem dX8_falses_6 : decode cX8_falses 6 = .ok (.ifCond .ne 5, 3) := by decide +kernel
theorem dX8_falses_9 : decode cX8_falses 9 = .ok (.iconst (-1), 1) := by decide +kernel
theorem dX8_falses_10 : decode cX8_falses 10 = .ok (.ireturn, 1) := by decide +kernel
theorem dX8_falses_11 : decode cX8_falses 11 = .ok (.iconst 0, 1) := by decide +kernel
theorem dX8_falses_12 : decode cX8_falses 12 = .ok (.istore_n 2, 1) := by decide +kernel
theorem dX8_falses_13 : decode cX8_falses 13 = .ok (.iconst 1, 1) := by decide +kernel
theorem dX8_falses_14 : decode cX8_falses 14 = .ok (.istore_n 3, 1) := by decide +kernel
theorem dX8_falses_15 : decode cX8_falses 15 = .ok (.iload_n 3, 1) := by decide +kernel
theorem dX8_falses_16 : decode cX8_falses 16 = .ok (.sipush 168, 3) := by decide +kernel
theorem dX8_falses_19 : decode cX8_falses 19 = .ok (.if_icmp .ge 28, 3) := by decide +kernel
theorem dX8_falses_22 : decode cX8_falses 22 = .ok (.aload_n 0, 1) := by decide +kernel
theorem dX8_falses_23 : decode cX8_falses 23 = .ok (.iload_n 3, 1) := by decide +kernel
theorem dX8_falses_24 : decode cX8_falses 24 = .ok (.invokevirtual 251, 3) := by decide +kernel
theorem dX8_falses_27 : decode cX8_falses 27 = .ok (.aload_n 0, 1) := by decide +kernel
theorem dX8_falses_28 : decode cX8_falses 28 = .ok (.iload_n 2, 1) := by decide +kernel
theorem dX8_falses_29 : decode cX8_falses 29 = .ok (.invokevirtual 251, 3) := by decide +kernel
theorem dX8_falses_32 : decode cX8_falses 32 = .ok (.if_icmp .ge 7, 3) := by decide +kernel
theorem dX8_falses_35 : decode cX8_falses 35 = .ok (.iload_n 3, 1) := by decide +kernel
theorem dX8_falses_36 : decode cX8_falses 36 = .ok (.goto 4, 3) := by decide +kernel
theorem dX8_falses_39 : decode cX8_falses 39 = .ok (.iload_n 2, 1) := by decide +kernel
theorem dX8_falses_40 : decode cX8_falses 40 = .ok (.istore_n 2, 1) := by decide +kernel
theorem dX8_falses_41 : decode cX8_falses 41 = .ok (.iinc 3 1, 3) := by decide +kernel
theorem dX8_falses_44 : decode cX8_falses 44 = .ok (.goto (-29), 3) := by decide +kernel
theorem dX8_falses_47 : decode cX8_falses 47 = .ok (.iload_n 1, 1) := by decide +kernel
theorem dX8_falses_48 : decode cX8_falses 48 = .ok (.ifCond .ne 11, 3) := by decide +kernel
theorem dX8_falses_51 : decode cX8_falses 51 = .ok (.aload_n 0, 1) := by decide +kernel
theorem dX8_falses_52 : decode cX8_falses 52 = .ok (.iload_n 2, 1) := by decide +kernel
theorem dX8_falses_53 : decode cX8_falses 53 = .ok (.invokevirtual 251, 3) := by decide +kernel
theorem dX8_falses_56 : decode cX8_falses 56 = .ok (.goto 7, 3) := by decide +kernel
theorem dX8_falses_59 : decode cX8_falses 59 = .ok (.iload_n 2, 1) := by decide +kernel
theorem dX8_falses_60 : decode cX8_falses 60 = .ok (.invokestatic 254, 3) := by decide +kernel
theorem dX8_falses_63 : decode cX8_falses 63 = .ok (.ireturn, 1) := by decide +kernel
theorem dX8_forget_0 : decode cX8_forget 0 = .ok (.aload_n 0, 1) := by decide +kernel
theorem dX8_forget_1 : decode cX8_forget 1 = .ok (.getfield 162, 3) := by decide +kernel
theorem dX8_forget_4 : decode cX8_forget 4 = .ok (.aload_n 0, 1) := by decide +kernel
theorem dX8_forget_5 : decode cX8_forget 5 = .ok (.getfield 165, 3) := by decide +kernel
theorem dX8_forget_8 : decode cX8_forget 8 = .ok (.iadd, 1) := by decide +kernel
theorem dX8_forget_9 : decode cX8_forget 9 = .ok (.istore_n 1, 1) := by decide +kernel
theorem dX8_forget_10 : decode cX8_forget 10 = .ok (.aload_n 0, 1) := by decide +kernel
theorem dX8_forget_11 : decode cX8_forget 11 = .ok (.iconst 0, 1) := by decide +kernel
theorem dX8_forget_12 : decode cX8_forget 12 = .ok (.putfield 162, 3) := by decide +kernel
theorem dX8_forget_15 : decode cX8_forget 15 = .ok (.aload_n 0, 1) := by decide +kernel
theorem dX8_forget_16 : decode cX8_forget 16 = .ok (.iconst 0, 1) := by decide +kernel
theorem dX8_forget_17 : decode cX8_forget 17 = .ok (.putfield 165, 3) := by decide +kernel
theorem dX8_forget_20 : decode cX8_forget 20 = .ok (.iload_n 1, 1) := by decide +kernel
theorem dX8_forget_21 : decode cX8_forget 21 = .ok (.ireturn, 1) := by decide +kernel
theorem dX8_mark_0 : decode cX8_mark 0 = .ok (.iload_n 1, 1) := by decide +kernel
theorem dX8_mark_1 : decode cX8_mark 1 = .ok (.iconst 0, 1) := by decide +kernel
theorem dX8_mark_2 : decode cX8_mark 2 = .ok (.iconst 5, 1) := by decide +kernel
theorem dX8_mark_3 : decode cX8_mark 3 = .ok (.invokestatic 78, 3) := by decide +kernel
theorem dX8_mark_6 : decode cX8_mark 6 = .ok (.ifCond .eq 11, 3) := by decide +kernel
theorem dX8_mark_9 : decode cX8_mark 9 = .ok (.aload_n 0, 1) := by decide +kernel
theorem dX8_mark_10 : decode cX8_mark 10 = .ok (.iload_n 2, 1) := by decide +kernel
theorem dX8_mark_11 : decode cX8_mark 11 = .ok (.invokevirtual 201, 3) := by decide +kernel
theorem dX8_mark_14 : decode cX8_mark 14 = .ok (.ifCond .ne 6, 3) := by decide +kernel
theorem dX8_mark_17 : decode cX8_mark 17 = .ok (.ldc 210, 2) := by decide +kernel
theorem dX8_mark_19 : decode cX8_mark 19 = .ok (.ireturn, 1) := by decide +kernel
theorem dX8_mark_20 : decode cX8_mark 20 = .ok (.aload_n 0, 1) := by decide +kernel
theorem dX8_mark_21 : decode cX8_mark 21 = .ok (.iload_n 2, 1) := by decide +kernel
theorem dX8_mark_22 : decode cX8_mark 22 = .ok (.invokevirtual 172, 3) := by decide +kernel
theorem dX8_mark_25 : decode cX8_mark 25 = .ok (.istore_n 3, 1) := by decide +kernel
theorem dX8_mark_26 : decode cX8_mark 26 = .ok (.iload_n 3, 1) := by decide +kernel
theorem dX8_mark_27 : decode cX8_mark 27 = .ok (.aload_n 0, 1) := by decide +kernel
theorem dX8_mark_28 : decode cX8_mark 28 = .ok (.iconst 1, 1) := by decide +kernel
theorem dX8_mark_29 : decode cX8_mark 29 = .ok (.iload_n 2, 1) := by decide +kernel
theorem dX8_mark_30 : decode cX8_mark 30 = .ok (.ishl, 1) := by decide +kernel
theorem dX8_mark_31 : decode cX8_mark 31 = .ok (.invokevirtual 191, 3) := by decide +kernel
theorem dX8_mark_34 : decode cX8_mark 34 = .ok (.iadd, 1) := by decide +kernel
theorem dX8_mark_35 : decode cX8_mark 35 = .ok (.istore 4, 2) := by decide +kernel
theorem dX8_mark_37 : decode cX8_mark 37 = .ok (.iload_n 3, 1) := by decide +kernel
theorem dX8_mark_38 : decode cX8_mark 38 = .ok (.aload_n 0, 1) := by decide +kernel
theorem dX8_mark_39 : decode cX8_mark 39 = .ok (.getfield 7, 3) := by decide +kernel
theorem dX8_mark_42 : decode cX8_mark 42 = .ok (.iload_n 2, 1) := by decide +kernel
theorem dX8_mark_43 : decode cX8_mark 43 = .ok (.iaload, 1) := by decide +kernel
theorem dX8_mark_44 : decode cX8_mark 44 = .ok (.isub, 1) := by decide +kernel
theorem dX8_mark_45 : decode cX8_mark 45 = .ok (.istore 5, 2) := by decide +kernel
theorem dX8_mark_47 : decode cX8_mark 47 = .ok (.iload_n 1, 1) := by decide +kernel
theorem dX8_mark_48 : decode cX8_mark 48 = .ok (.tableswitch 121 1 5 #[36, 51, 66, 83, 100], 36) := by decide +kernel
theorem dX8_mark_84 : decode cX8_mark 84 = .ok (.aload_n 0, 1) := by decide +kernel
theorem dX8_mark_85 : decode cX8_mark 85 = .ok (.dup, 1) := by decide +kernel
theorem dX8_mark_86 : decode cX8_mark 86 = .ok (.getfield 257, 3) := by decide +kernel
theorem dX8_mark_89 : decode cX8_mark 89 = .ok (.ldc2_w 261, 3) := by decide +kernel
theorem dX8_mark_92 : decode cX8_mark 92 = .ok (.ladd, 1) := by decide +kernel
theorem dX8_mark_93 : decode cX8_mark 93 = .ok (.putfield 257, 3) := by decide +kernel
theorem dX8_mark_96 : decode cX8_mark 96 = .ok (.iload 4, 2) := by decide +kernel
theorem dX8_mark_98 : decode cX8_mark 98 = .ok (.ireturn, 1) := by decide +kernel
theorem dX8_mark_99 : decode cX8_mark 99 = .ok (.aload_n 0, 1) := by decide +kernel
theorem dX8_mark_100 : decode cX8_mark 100 = .ok (.dup, 1) := by decide +kernel
theorem dX8_mark_101 : decode cX8_mark 101 = .ok (.getfield 257, 3) := by decide +kernel
theorem dX8_mark_104 : decode cX8_mark 104 = .ok (.ldc2_w 263, 3) := by decide +kernel
theorem dX8_mark_107 : decode cX8_mark 107 = .ok (.ladd, 1) := by decide +kernel
theorem dX8_mark_108 : decode cX8_mark 108 = .ok (.putfield 257, 3) := by decide +kernel
theorem dX8_mark_111 : decode cX8_mark 111 = .ok (.iload 5, 2) := by decide +kernel
theorem dX8_mark_113 : decode cX8_mark 113 = .ok (.ireturn, 1) := by decide +kernel
theorem dX8_mark_114 : decode cX8_mark 114 = .ok (.aload_n 0, 1) := by decide +kernel
theorem dX8_mark_115 : decode cX8_mark 115 = .ok (.dup, 1) := by decide +kernel
theorem dX8_mark_116 : decode cX8_mark 116 = .ok (.getfield 257, 3) := by decide +kernel
theorem dX8_mark_119 : decode cX8_mark 119 = .ok (.ldc2_w 265, 3) := by decide +kernel
theorem dX8_mark_122 : decode cX8_mark 122 = .ok (.ladd, 1) := by decide +kernel
theorem dX8_mark_123 : decode cX8_mark 123 = .ok (.putfield 257, 3) := by decide +kernel
theorem dX8_mark_126 : decode cX8_mark 126 = .ok (.iconst 2, 1) := by decide +kernel
theorem dX8_mark_127 : decode cX8_mark 127 = .ok (.iload 4, 2) := by decide +kernel
theorem dX8_mark_129 : decode cX8_mark 129 = .ok (.imul, 1) := by decide +kernel
theorem dX8_mark_130 : decode cX8_mark 130 = .ok (.ireturn, 1) := by decide +kernel
theorem dX8_mark_131 : decode cX8_mark 131 = .ok (.aload_n 0, 1) := by decide +kernel
theorem dX8_mark_132 : decode cX8_mark 132 = .ok (.dup, 1) := by decide +kernel
theorem dX8_mark_133 : decode cX8_mark 133 = .ok (.getfield 257, 3) := by decide +kernel
theorem dX8_mark_136 : decode cX8_mark 136 = .ok (.ldc2_w 267, 3) := by decide +kernel
theorem dX8_mark_139 : decode cX8_mark 139 = .ok (.ladd, 1) := by decide +kernel
theorem dX8_mark_140 : decode cX8_mark 140 = .ok (.putfield 257, 3) := by decide +kernel
theorem dX8_mark_143 : decode cX8_mark 143 = .ok (.iload 5, 2) := by decide +kernel
theorem dX8_mark_145 : decode cX8_mark 145 = .ok (.iload_n 2, 1) := by decide +kernel
theorem dX8_mark_146 : decode cX8_mark 146 = .ok (.iadd, 1) := by decide +kernel
theorem dX8_mark_147 : decode cX8_mark 147 = .ok (.ireturn, 1) := by decide +kernel
theorem dX8_mark_148 : decode cX8_mark 148 = .ok (.aload_n 0, 1) := by decide +kernel
theorem dX8_mark_149 : decode cX8_mark 149 = .ok (.dup, 1) := by decide +kernel
theorem dX8_mark_150 : decode cX8_mark 150 = .ok (.getfield 257, 3) := by decide +kernel
theorem dX8_mark_153 : decode cX8_mark 153 = .ok (.ldc2_w 269, 3) := by decide +kernel
theorem dX8_mark_156 : decode cX8_mark 156 = .ok (.ladd, 1) := by decide +kernel
theorem dX8_mark_157 : decode cX8_mark 157 = .ok (.putfield 257, 3) := by decide +kernel
theorem dX8_mark_160 : decode cX8_mark 160 = .ok (.iload_n 3, 1) := by decide +kernel
theorem dX8_mark_161 : decode cX8_mark 161 = .ok (.aload_n 0, 1) := by decide +kernel
theorem dX8_mark_162 : decode cX8_mark 162 = .ok (.getfield 31, 3) := by decide +kernel
theorem dX8_mark_165 : decode cX8_mark 165 = .ok (.iconst 0, 1) := by decide +kernel
theorem dX8_mark_166 : decode cX8_mark 166 = .ok (.iaload, 1) := by decide +kernel
theorem dX8_mark_167 : decode cX8_mark 167 = .ok (.iadd, 1) := by decide +kernel
theorem dX8_mark_168 : decode cX8_mark 168 = .ok (.ireturn, 1) := by decide +kernel
theorem dX8_mark_169 : decode cX8_mark 169 = .ok (.aload_n 0, 1) := by decide +kernel
theorem dX8_mark_170 : decode cX8_mark 170 = .ok (.dup, 1) := by decide +kernel
theorem dX8_mark_171 : decode cX8_mark 171 = .ok (.getfield 257, 3) := by decide +kernel
theorem dX8_mark_174 : decode cX8_mark 174 = .ok (.lconst 1, 1) := by decide +kernel
theorem dX8_mark_175 : decode cX8_mark 175 = .ok (.ladd, 1) := by decide +kernel
theorem dX8_mark_176 : decode cX8_mark 176 = .ok (.putfield 257, 3) := by decide +kernel
theorem dX8_mark_179 : decode cX8_mark 179 = .ok (.iload_n 3, 1) := by decide +kernel
theorem dX8_mark_180 : decode cX8_mark 180 = .ok (.ireturn, 1) := by decide +kernel
theorem dX8_keep_0 : decode cX8_keep 0 = .ok (.iload_n 1, 1) := by decide +kernel
theorem dX8_keep_1 : decode cX8_keep 1 = .ok (.iconst 0, 1) := by decide +kernel
theorem dX8_keep_2 : decode cX8_keep 2 = .ok (.iconst 1, 1) := by decide +kernel
theorem dX8_keep_3 : decode cX8_keep 3 = .ok (.invokestatic 78, 3) := by decide +kernel
theorem dX8_keep_6 : decode cX8_keep 6 = .ok (.ifCond .ne 5, 3) := by decide +kernel
theorem dX8_keep_9 : decode cX8_keep 9 = .ok (.iconst (-1), 1) := by decide +kernel
theorem dX8_keep_10 : decode cX8_keep 10 = .ok (.ireturn, 1) := by decide +kernel
theorem dX8_keep_11 : decode cX8_keep 11 = .ok (.iconst 0, 1) := by decide +kernel
theorem dX8_keep_12 : decode cX8_keep 12 = .ok (.istore_n 2, 1) := by decide +kernel
theorem dX8_keep_13 : decode cX8_keep 13 = .ok (.iload_n 2, 1) := by decide +kernel
theorem dX8_keep_14 : decode cX8_keep 14 = .ok (.sipush 507, 3) := by decide +kernel
theorem dX8_keep_17 : decode cX8_keep 17 = .ok (.if_icmp .ge 27, 3) := by decide +kernel
theorem dX8_keep_20 : decode cX8_keep 20 = .ok (.aload_n 0, 1) := by decide +kernel
theorem dX8_keep_21 : decode cX8_keep 21 = .ok (.getfield 34, 3) := by decide +kernel
theorem dX8_keep_24 : decode cX8_keep 24 = .ok (.sipush 507, 3) := by decide +kernel
theorem dX8_keep_27 : decode cX8_keep 27 = .ok (.iload_n 1, 1) := by decide +kernel
theorem dX8_keep_28 : decode cX8_keep 28 = .ok (.imul, 1) := by decide +kernel
theorem dX8_keep_29 : decode cX8_keep 29 = .ok (.iload_n 2, 1) := by decide +kernel
theorem dX8_keep_30 : decode cX8_keep 30 = .ok (.iadd, 1) := by decide +kernel
theorem dX8_keep_31 : decode cX8_keep 31 = .ok (.aload_n 0, 1) := by decide +kernel
theorem dX8_keep_32 : decode cX8_keep 32 = .ok (.getfield 31, 3) := by decide +kernel
theorem dX8_keep_35 : decode cX8_keep 35 = .ok (.iload_n 2, 1) := by decide +kernel
theorem dX8_keep_36 : decode cX8_keep 36 = .ok (.iaload, 1) := by decide +kernel
theorem dX8_keep_37 : decode cX8_keep 37 = .ok (.iastore, 1) := by decide +kernel
theorem dX8_keep_38 : decode cX8_keep 38 = .ok (.iinc 2 1, 3) := by decide +kernel
theorem dX8_keep_41 : decode cX8_keep 41 = .ok (.goto (-28), 3) := by decide +kernel
theorem dX8_keep_44 : decode cX8_keep 44 = .ok (.aload_n 0, 1) := by decide +kernel
theorem dX8_keep_45 : decode cX8_keep 45 = .ok (.getfield 37, 3) := by decide +kernel
theorem dX8_keep_48 : decode cX8_keep 48 = .ok (.iload_n 1, 1) := by decide +kernel
theorem dX8_keep_49 : decode cX8_keep 49 = .ok (.iconst 1, 1) := by decide +kernel
theorem dX8_keep_50 : decode cX8_keep 50 = .ok (.bastore, 1) := by decide +kernel
theorem dX8_keep_51 : decode cX8_keep 51 = .ok (.aload_n 0, 1) := by decide +kernel
theorem dX8_keep_52 : decode cX8_keep 52 = .ok (.getfield 31, 3) := by decide +kernel
theorem dX8_keep_55 : decode cX8_keep 55 = .ok (.iconst 0, 1) := by decide +kernel
theorem dX8_keep_56 : decode cX8_keep 56 = .ok (.iaload, 1) := by decide +kernel
theorem dX8_keep_57 : decode cX8_keep 57 = .ok (.ireturn, 1) := by decide +kernel
theorem dX8_back_0 : decode cX8_back 0 = .ok (.iload_n 1, 1) := by decide +kernel
theorem dX8_back_1 : decode cX8_back 1 = .ok (.iconst 0, 1) := by decide +kernel
theorem dX8_back_2 : decode cX8_back 2 = .ok (.iconst 1, 1) := by decide +kernel
theorem dX8_back_3 : decode cX8_back 3 = .ok (.invokestatic 78, 3) := by decide +kernel
theorem dX8_back_6 : decode cX8_back 6 = .ok (.ifCond .ne 5, 3) := by decide +kernel
theorem dX8_back_9 : decode cX8_back 9 = .ok (.iconst (-1), 1) := by decide +kernel
theorem dX8_back_10 : decode cX8_back 10 = .ok (.ireturn, 1) := by decide +kernel
theorem dX8_back_11 : decode cX8_back 11 = .ok (.aload_n 0, 1) := by decide +kernel
theorem dX8_back_12 : decode cX8_back 12 = .ok (.getfield 37, 3) := by decide +kernel
theorem dX8_back_15 : decode cX8_back 15 = .ok (.iload_n 1, 1) := by decide +kernel
theorem dX8_back_16 : decode cX8_back 16 = .ok (.baload, 1) := by decide +kernel
theorem dX8_back_17 : decode cX8_back 17 = .ok (.ifCond .ne 6, 3) := by decide +kernel
theorem dX8_back_20 : decode cX8_back 20 = .ok (.bipush (-2), 2) := by decide +kernel
theorem dX8_back_22 : decode cX8_back 22 = .ok (.ireturn, 1) := by decide +kernel
theorem dX8_back_23 : decode cX8_back 23 = .ok (.iconst 0, 1) := by decide +kernel
theorem dX8_back_24 : decode cX8_back 24 = .ok (.istore_n 2, 1) := by decide +kernel
theorem dX8_back_25 : decode cX8_back 25 = .ok (.iload_n 2, 1) := by decide +kernel
theorem dX8_back_26 : decode cX8_back 26 = .ok (.sipush 507, 3) := by decide +kernel
theorem dX8_back_29 : decode cX8_back 29 = .ok (.if_icmp .ge 27, 3) := by decide +kernel
theorem dX8_back_32 : decode cX8_back 32 = .ok (.aload_n 0, 1) := by decide +kernel
theorem dX8_back_33 : decode cX8_back 33 = .ok (.getfield 31, 3) := by decide +kernel
theorem dX8_back_36 : decode cX8_back 36 = .ok (.iload_n 2, 1) := by decide +kernel
theorem dX8_back_37 : decode cX8_back 37 = .ok (.aload_n 0, 1) := by decide +kernel
theorem dX8_back_38 : decode cX8_back 38 = .ok (.getfield 34, 3) := by decide +kernel
theorem dX8_back_41 : decode cX8_back 41 = .ok (.sipush 507, 3) := by decide +kernel
theorem dX8_back_44 : decode cX8_back 44 = .ok (.iload_n 1, 1) := by decide +kernel
theorem dX8_back_45 : decode cX8_back 45 = .ok (.imul, 1) := by decide +kernel
theorem dX8_back_46 : decode cX8_back 46 = .ok (.iload_n 2, 1) := by decide +kernel
theorem dX8_back_47 : decode cX8_back 47 = .ok (.iadd, 1) := by decide +kernel
theorem dX8_back_48 : decode cX8_back 48 = .ok (.iaload, 1) := by decide +kernel
theorem dX8_back_49 : decode cX8_back 49 = .ok (.iastore, 1) := by decide +kernel
theorem dX8_back_50 : decode cX8_back 50 = .ok (.iinc 2 1, 3) := by decide +kernel
theorem dX8_back_53 : decode cX8_back 53 = .ok (.goto (-28), 3) := by decide +kernel
theorem dX8_back_56 : decode cX8_back 56 = .ok (.aload_n 0, 1) := by decide +kernel
theorem dX8_back_57 : decode cX8_back 57 = .ok (.getfield 31, 3) := by decide +kernel
theorem dX8_back_60 : decode cX8_back 60 = .ok (.iconst 0, 1) := by decide +kernel
theorem dX8_back_61 : decode cX8_back 61 = .ok (.iaload, 1) := by decide +kernel
theorem dX8_back_62 : decode cX8_back 62 = .ok (.ireturn, 1) := by decide +kernel
theorem dX8_count_0 : decode cX8_count 0 = .ok (.iload_n 1, 1) := by decide +kernel
theorem dX8_count_1 : decode cX8_count 1 = .ok (.tableswitch 81 0 6 #[43, 48, 53, 58, 63, 68, 76], 43) := by decide +kernel
theorem dX8_count_44 : decode cX8_count 44 = .ok (.aload_n 0, 1) := by decide +kernel
theorem dX8_count_45 : decode cX8_count 45 = .ok (.getfield 74, 3) := by decide +kernel
theorem dX8_count_48 : decode cX8_count 48 = .ok (.ireturn, 1) := by decide +kernel
theorem dX8_count_49 : decode cX8_count 49 = .ok (.aload_n 0, 1) := by decide +kernel
theorem dX8_count_50 : decode cX8_count 50 = .ok (.getfield 82, 3) := by decide +kernel
theorem dX8_count_53 : decode cX8_count 53 = .ok (.ireturn, 1) := by decide +kernel
theorem dX8_count_54 : decode cX8_count 54 = .ok (.aload_n 0, 1) := by decide +kernel
theorem dX8_count_55 : decode cX8_count 55 = .ok (.getfield 159, 3) := by decide +kernel
theorem dX8_count_58 : decode cX8_count 58 = .ok (.ireturn, 1) := by decide +kernel
theorem dX8_count_59 : decode cX8_count 59 = .ok (.aload_n 0, 1) := by decide +kernel
theorem dX8_count_60 : decode cX8_count 60 = .ok (.getfield 162, 3) := by decide +kernel
theorem dX8_count_63 : decode cX8_count 63 = .ok (.ireturn, 1) := by decide +kernel
theorem dX8_count_64 : decode cX8_count 64 = .ok (.aload_n 0, 1) := by decide +kernel
theorem dX8_count_65 : decode cX8_count 65 = .ok (.getfield 165, 3) := by decide +kernel
theorem dX8_count_68 : decode cX8_count 68 = .ok (.ireturn, 1) := by decide +kernel
theorem dX8_count_69 : decode cX8_count 69 = .ok (.aload_n 0, 1) := by decide +kernel
theorem dX8_count_70 : decode cX8_count 70 = .ok (.getfield 31, 3) := by decide +kernel
theorem dX8_count_73 : decode cX8_count 73 = .ok (.bipush 46, 2) := by decide +kernel
theorem dX8_count_75 : decode cX8_count 75 = .ok (.iaload, 1) := by decide +kernel
theorem dX8_count_76 : decode cX8_count 76 = .ok (.ireturn, 1) := by decide +kernel
theorem dX8_count_77 : decode cX8_count 77 = .ok (.aload_n 0, 1) := by decide +kernel
theorem dX8_count_78 : decode cX8_count 78 = .ok (.getfield 85, 3) := by decide +kernel
theorem dX8_count_81 : decode cX8_count 81 = .ok (.ireturn, 1) := by decide +kernel
theorem dX8_count_82 : decode cX8_count 82 = .ok (.iconst (-1), 1) := by decide +kernel
theorem dX8_count_83 : decode cX8_count 83 = .ok (.ireturn, 1) := by decide +kernel
theorem dX8_trace_0 : decode cX8_trace 0 = .ok (.aload_n 0, 1) := by decide +kernel
theorem dX8_trace_1 : decode cX8_trace 1 = .ok (.getfield 257, 3) := by decide +kernel
theorem dX8_trace_4 : decode cX8_trace 4 = .ok (.lreturn, 1) := by decide +kernel
theorem dJ6_bitCount_0f7a4_0 : decode cJ6_bitCount_0f7a4 0 = .ok (.iload_n 0, 1) := by decide +kernel
theorem dJ6_bitCount_0f7a4_1 : decode cJ6_bitCount_0f7a4 1 = .ok (.iload_n 0, 1) := by decide +kernel
theorem dJ6_bitCount_0f7a4_2 : decode cJ6_bitCount_0f7a4 2 = .ok (.iconst 1, 1) := by decide +kernel
theorem dJ6_bitCount_0f7a4_3 : decode cJ6_bitCount_0f7a4 3 = .ok (.iushr, 1) := by decide +kernel
theorem dJ6_bitCount_0f7a4_4 : decode cJ6_bitCount_0f7a4 4 = .ok (.ldc_w 265, 3) := by decide +kernel
theorem dJ6_bitCount_0f7a4_7 : decode cJ6_bitCount_0f7a4 7 = .ok (.iand, 1) := by decide +kernel
theorem dJ6_bitCount_0f7a4_8 : decode cJ6_bitCount_0f7a4 8 = .ok (.isub, 1) := by decide +kernel
theorem dJ6_bitCount_0f7a4_9 : decode cJ6_bitCount_0f7a4 9 = .ok (.istore_n 0, 1) := by decide +kernel
theorem dJ6_bitCount_0f7a4_10 : decode cJ6_bitCount_0f7a4 10 = .ok (.iload_n 0, 1) := by decide +kernel
theorem dJ6_bitCount_0f7a4_11 : decode cJ6_bitCount_0f7a4 11 = .ok (.ldc_w 266, 3) := by decide +kernel
theorem dJ6_bitCount_0f7a4_14 : decode cJ6_bitCount_0f7a4 14 = .ok (.iand, 1) := by decide +kernel
theorem dJ6_bitCount_0f7a4_15 : decode cJ6_bitCount_0f7a4 15 = .ok (.iload_n 0, 1) := by decide +kernel
theorem dJ6_bitCount_0f7a4_16 : decode cJ6_bitCount_0f7a4 16 = .ok (.iconst 2, 1) := by decide +kernel
theorem dJ6_bitCount_0f7a4_17 : decode cJ6_bitCount_0f7a4 17 = .ok (.iushr, 1) := by decide +kernel
theorem dJ6_bitCount_0f7a4_18 : decode cJ6_bitCount_0f7a4 18 = .ok (.ldc_w 266, 3) := by decide +kernel
theorem dJ6_bitCount_0f7a4_21 : decode cJ6_bitCount_0f7a4 21 = .ok (.iand, 1) := by decide +kernel
theorem dJ6_bitCount_0f7a4_22 : decode cJ6_bitCount_0f7a4 22 = .ok (.iadd, 1) := by decide +kernel
theorem dJ6_bitCount_0f7a4_23 : decode cJ6_bitCount_0f7a4 23 = .ok (.istore_n 0, 1) := by decide +kernel
theorem dJ6_bitCount_0f7a4_24 : decode cJ6_bitCount_0f7a4 24 = .ok (.iload_n 0, 1) := by decide +kernel
theorem dJ6_bitCount_0f7a4_25 : decode cJ6_bitCount_0f7a4 25 = .ok (.iload_n 0, 1) := by decide +kernel
theorem dJ6_bitCount_0f7a4_26 : decode cJ6_bitCount_0f7a4 26 = .ok (.iconst 4, 1) := by decide +kernel
theorem dJ6_bitCount_0f7a4_27 : decode cJ6_bitCount_0f7a4 27 = .ok (.iushr, 1) := by decide +kernel
theorem dJ6_bitCount_0f7a4_28 : decode cJ6_bitCount_0f7a4 28 = .ok (.iadd, 1) := by decide +kernel
theorem dJ6_bitCount_0f7a4_29 : decode cJ6_bitCount_0f7a4 29 = .ok (.ldc_w 267, 3) := by decide +kernel
theorem dJ6_bitCount_0f7a4_32 : decode cJ6_bitCount_0f7a4 32 = .ok (.iand, 1) := by decide +kernel
theorem dJ6_bitCount_0f7a4_33 : decode cJ6_bitCount_0f7a4 33 = .ok (.istore_n 0, 1) := by decide +kernel
theorem dJ6_bitCount_0f7a4_34 : decode cJ6_bitCount_0f7a4 34 = .ok (.iload_n 0, 1) := by decide +kernel
theorem dJ6_bitCount_0f7a4_35 : decode cJ6_bitCount_0f7a4 35 = .ok (.iload_n 0, 1) := by decide +kernel
theorem dJ6_bitCount_0f7a4_36 : decode cJ6_bitCount_0f7a4 36 = .ok (.bipush 8, 2) := by decide +kernel
theorem dJ6_bitCount_0f7a4_38 : decode cJ6_bitCount_0f7a4 38 = .ok (.iushr, 1) := by decide +kernel
theorem dJ6_bitCount_0f7a4_39 : decode cJ6_bitCount_0f7a4 39 = .ok (.iadd, 1) := by decide +kernel
theorem dJ6_bitCount_0f7a4_40 : decode cJ6_bitCount_0f7a4 40 = .ok (.istore_n 0, 1) := by decide +kernel
theorem dJ6_bitCount_0f7a4_41 : decode cJ6_bitCount_0f7a4 41 = .ok (.iload_n 0, 1) := by decide +kernel
theorem dJ6_bitCount_0f7a4_42 : decode cJ6_bitCount_0f7a4 42 = .ok (.iload_n 0, 1) := by decide +kernel
theorem dJ6_bitCount_0f7a4_43 : decode cJ6_bitCount_0f7a4 43 = .ok (.bipush 16, 2) := by decide +kernel
theorem dJ6_bitCount_0f7a4_45 : decode cJ6_bitCount_0f7a4 45 = .ok (.iushr, 1) := by decide +kernel
theorem dJ6_bitCount_0f7a4_46 : decode cJ6_bitCount_0f7a4 46 = .ok (.iadd, 1) := by decide +kernel
theorem dJ6_bitCount_0f7a4_47 : decode cJ6_bitCount_0f7a4 47 = .ok (.istore_n 0, 1) := by decide +kernel
theorem dJ6_bitCount_0f7a4_48 : decode cJ6_bitCount_0f7a4 48 = .ok (.iload_n 0, 1) := by decide +kernel
theorem dJ6_bitCount_0f7a4_49 : decode cJ6_bitCount_0f7a4 49 = .ok (.bipush 63, 2) := by decide +kernel
theorem dJ6_bitCount_0f7a4_51 : decode cJ6_bitCount_0f7a4 51 = .ok (.iand, 1) := by decide +kernel
theorem dJ6_bitCount_0f7a4_52 : decode cJ6_bitCount_0f7a4 52 = .ok (.ireturn, 1) := by decide +kernel
theorem dJ9_abs_0f7a4_0 : decode cJ9_abs_0f7a4 0 = .ok (.iload_n 0, 1) := by decide +kernel
theorem dJ9_abs_0f7a4_1 : decode cJ9_abs_0f7a4 1 = .ok (.ifCond .ge 8, 3) := by decide +kernel
theorem dJ9_abs_0f7a4_4 : decode cJ9_abs_0f7a4 4 = .ok (.iload_n 0, 1) := by decide +kernel
theorem dJ9_abs_0f7a4_5 : decode cJ9_abs_0f7a4 5 = .ok (.ineg, 1) := by decide +kernel
theorem dJ9_abs_0f7a4_6 : decode cJ9_abs_0f7a4 6 = .ok (.goto 4, 3) := by decide +kernel
theorem dJ9_abs_0f7a4_9 : decode cJ9_abs_0f7a4 9 = .ok (.iload_n 0, 1) := by decide +kernel
theorem dJ9_abs_0f7a4_10 : decode cJ9_abs_0f7a4 10 = .ok (.ireturn, 1) := by decide +kernel
theorem dJ9_max_7cf53_0 : decode cJ9_max_7cf53 0 = .ok (.iload_n 0, 1) := by decide +kernel
theorem dJ9_max_7cf53_1 : decode cJ9_max_7cf53 1 = .ok (.iload_n 1, 1) := by decide +kernel
theorem dJ9_max_7cf53_2 : decode cJ9_max_7cf53 2 = .ok (.if_icmp .lt 7, 3) := by decide +kernel
theorem dJ9_max_7cf53_5 : decode cJ9_max_7cf53 5 = .ok (.iload_n 0, 1) := by decide +kernel
theorem dJ9_max_7cf53_6 : decode cJ9_max_7cf53 6 = .ok (.goto 4, 3) := by decide +kernel
theorem dJ9_max_7cf53_9 : decode cJ9_max_7cf53 9 = .ok (.iload_n 1, 1) := by decide +kernel
theorem dJ9_max_7cf53_10 : decode cJ9_max_7cf53 10 = .ok (.ireturn, 1) := by decide +kernel
theorem dJ9_min_7cf53_0 : decode cJ9_min_7cf53 0 = .ok (.iload_n 0, 1) := by decide +kernel
theorem dJ9_min_7cf53_1 : decode cJ9_min_7cf53 1 = .ok (.iload_n 1, 1) := by decide +kernel
theorem dJ9_min_7cf53_2 : decode cJ9_min_7cf53 2 = .ok (.if_icmp .gt 7, 3) := by decide +kernel
theorem dJ9_min_7cf53_5 : decode cJ9_min_7cf53 5 = .ok (.iload_n 0, 1) := by decide +kernel
theorem dJ9_min_7cf53_6 : decode cJ9_min_7cf53 6 = .ok (.goto 4, 3) := by decide +kernel
theorem dJ9_min_7cf53_9 : decode cJ9_min_7cf53 9 = .ok (.iload_n 1, 1) := by decide +kernel
theorem dJ9_min_7cf53_10 : decode cJ9_min_7cf53 10 = .ok (.ireturn, 1) := by decide +kernel
theorem dJ7_fill_53178_0 : decode cJ7_fill_53178 0 = .ok (.iconst 0, 1) := by decide +kernel
theorem dJ7_fill_53178_1 : decode cJ7_fill_53178 1 = .ok (.istore_n 2, 1) := by decide +kernel
theorem dJ7_fill_53178_2 : decode cJ7_fill_53178 2 = .ok (.aload_n 0, 1) := by decide +kernel
theorem dJ7_fill_53178_3 : decode cJ7_fill_53178 3 = .ok (.arraylength, 1) := by decide +kernel
theorem dJ7_fill_53178_4 : decode cJ7_fill_53178 4 = .ok (.istore_n 3, 1) := by decide +kernel
theorem dJ7_fill_53178_5 : decode cJ7_fill_53178 5 = .ok (.iload_n 2, 1) := by decide +kernel
theorem dJ7_fill_53178_6 : decode cJ7_fill_53178 6 = .ok (.iload_n 3, 1) := by decide +kernel
theorem dJ7_fill_53178_7 : decode cJ7_fill_53178 7 = .ok (.if_icmp .ge 13, 3) := by decide +kernel
theorem dJ7_fill_53178_10 : decode cJ7_fill_53178 10 = .ok (.aload_n 0, 1) := by decide +kernel
theorem dJ7_fill_53178_11 : decode cJ7_fill_53178 11 = .ok (.iload_n 2, 1) := by decide +kernel
theorem dJ7_fill_53178_12 : decode cJ7_fill_53178 12 = .ok (.iload_n 1, 1) := by decide +kernel
theorem dJ7_fill_53178_13 : decode cJ7_fill_53178 13 = .ok (.iastore, 1) := by decide +kernel
theorem dJ7_fill_53178_14 : decode cJ7_fill_53178 14 = .ok (.iinc 2 1, 3) := by decide +kernel
theorem dJ7_fill_53178_17 : decode cJ7_fill_53178 17 = .ok (.goto (-12), 3) := by decide +kernel
theorem dJ7_fill_53178_20 : decode cJ7_fill_53178 20 = .ok (.return_, 1) := by decide +kernel
theorem dL_law_0 : decode cL_law 0 = .ok (.new 7, 3) := by decide +kernel
theorem dL_law_3 : decode cL_law 3 = .ok (.dup, 1) := by decide +kernel
theorem dL_law_4 : decode cL_law 4 = .ok (.invokespecial 9, 3) := by decide +kernel
theorem dL_law_7 : decode cL_law 7 = .ok (.astore_n 1, 1) := by decide +kernel
theorem dL_law_8 : decode cL_law 8 = .ok (.new 10, 3) := by decide +kernel
theorem dL_law_11 : decode cL_law 11 = .ok (.dup, 1) := by decide +kernel
theorem dL_law_12 : decode cL_law 12 = .ok (.invokespecial 12, 3) := by decide +kernel
theorem dL_law_15 : decode cL_law 15 = .ok (.astore_n 2, 1) := by decide +kernel
theorem dL_law_16 : decode cL_law 16 = .ok (.iconst 0, 1) := by decide +kernel
theorem dL_law_17 : decode cL_law 17 = .ok (.istore_n 3, 1) := by decide +kernel
theorem dL_law_18 : decode cL_law 18 = .ok (.iload_n 3, 1) := by decide +kernel
theorem dL_law_19 : decode cL_law 19 = .ok (.aload_n 0, 1) := by decide +kernel
theorem dL_law_20 : decode cL_law 20 = .ok (.arraylength, 1) := by decide +kernel
theorem dL_law_21 : decode cL_law 21 = .ok (.bipush 7, 2) := by decide +kernel
theorem dL_law_23 : decode cL_law 23 = .ok (.isub, 1) := by decide +kernel
theorem dL_law_24 : decode cL_law 24 = .ok (.if_icmp .gt 896, 3) := by decide +kernel
theorem dL_law_27 : decode cL_law 27 = .ok (.aload_n 0, 1) := by decide +kernel
theorem dL_law_28 : decode cL_law 28 = .ok (.iload_n 3, 1) := by decide +kernel
theorem dL_law_29 : decode cL_law 29 = .ok (.iaload, 1) := by decide +kernel
theorem dL_law_30 : decode cL_law 30 = .ok (.bipush 31, 2) := by decide +kernel
theorem dL_law_32 : decode cL_law 32 = .ok (.iand, 1) := by decide +kernel
theorem dL_law_33 : decode cL_law 33 = .ok (.tableswitch 881 0 28 #[131, 154, 167, 180, 203, 236, 269, 302, 325, 348, 381, 404, 417, 440, 473, 496, 529, 604, 637, 660, 673, 706, 729, 752, 765, 798, 821, 844, 867], 131) := by decide +kernel
theorem dL_law_164 : decode cL_law 164 = .ok (.aload_n 1, 1) := by decide +kernel
theorem dL_law_165 : decode cL_law 165 = .ok (.aload_n 0, 1) := by decide +kernel
theorem dL_law_166 : decode cL_law 166 = .ok (.iload_n 3, 1) := by decide +kernel
theorem dL_law_167 : decode cL_law 167 = .ok (.iconst 1, 1) := by decide +kernel
theorem dL_law_168 : decode cL_law 168 = .ok (.iadd, 1) := by decide +kernel
theorem dL_law_169 : decode cL_law 169 = .ok (.iaload, 1) := by decide +kernel
theorem dL_law_170 : decode cL_law 170 = .ok (.invokevirtual 13, 3) := by decide +kernel
theorem dL_law_173 : decode cL_law 173 = .ok (.aload_n 2, 1) := by decide +kernel
theorem dL_law_174 : decode cL_law 174 = .ok (.aload_n 0, 1) := by decide +kernel
theorem dL_law_175 : decode cL_law 175 = .ok (.iload_n 3, 1) := by decide +kernel
theorem dL_law_176 : decode cL_law 176 = .ok (.iconst 1, 1) := by decide +kernel
theorem dL_law_177 : decode cL_law 177 = .ok (.iadd, 1) := by decide +kernel
theorem dL_law_178 : decode cL_law 178 = .ok (.iaload, 1) := by decide +kernel
theorem dL_law_179 : decode cL_law 179 = .ok (.invokevirtual 17, 3) := by decide +kernel
theorem dL_law_182 : decode cL_law 182 = .ok (.if_icmp .eq 732, 3) := by decide +kernel
theorem dL_law_185 : decode cL_law 185 = .ok (.iconst 0, 1) := by decide +kernel
theorem dL_law_186 : decode cL_law 186 = .ok (.ireturn, 1) := by decide +kernel
theorem dL_law_187 : decode cL_law 187 = .ok (.aload_n 1, 1) := by decide +kernel
theorem dL_law_188 : decode cL_law 188 = .ok (.invokevirtual 18, 3) := by decide +kernel
theorem dL_law_191 : decode cL_law 191 = .ok (.aload_n 2, 1) := by decide +kernel
theorem dL_law_192 : decode cL_law 192 = .ok (.invokevirtual 22, 3) := by decide +kernel
theorem dL_law_195 : decode cL_law 195 = .ok (.if_icmp .eq 719, 3) := by decide +kernel
theorem dL_law_198 : decode cL_law 198 = .ok (.iconst 0, 1) := by decide +kernel
theorem dL_law_199 : decode cL_law 199 = .ok (.ireturn, 1) := by decide +kernel
theorem dL_law_200 : decode cL_law 200 = .ok (.aload_n 1, 1) := by decide +kernel
theorem dL_law_201 : decode cL_law 201 = .ok (.invokevirtual 23, 3) := by decide +kernel
theorem dL_law_204 : decode cL_law 204 = .ok (.aload_n 2, 1) := by decide +kernel
theorem dL_law_205 : decode cL_law 205 = .ok (.invokevirtual 26, 3) := by decide +kernel
theorem dL_law_208 : decode cL_law 208 = .ok (.if_icmp .eq 706, 3) := by decide +kernel
theorem dL_law_211 : decode cL_law 211 = .ok (.iconst 0, 1) := by decide +kernel
theorem dL_law_212 : decode cL_law 212 = .ok (.ireturn, 1) := by decide +kernel
theorem dL_law_213 : decode cL_law 213 = .ok (.aload_n 1, 1) := by decide +kernel
theorem dL_law_214 : decode cL_law 214 = .ok (.aload_n 0, 1) := by decide +kernel
theorem dL_law_215 : decode cL_law 215 = .ok (.iload_n 3, 1) := by decide +kernel
theorem dL_law_216 : decode cL_law 216 = .ok (.iconst 1, 1) := by decide +kernel
theorem dL_law_217 : decode cL_law 217 = .ok (.iadd, 1) := by decide +kernel
theorem dL_law_218 : decode cL_law 218 = .ok (.iaload, 1) := by decide +kernel
theorem dL_law_219 : decode cL_law 219 = .ok (.invokevirtual 27, 3) := by decide +kernel
theorem dL_law_222 : decode cL_law 222 = .ok (.aload_n 2, 1) := by decide +kernel
theorem dL_law_223 : decode cL_law 223 = .ok (.aload_n 0, 1) := by decide +kernel
theorem dL_law_224 : decode cL_law 224 = .ok (.iload_n 3, 1) := by decide +kernel
theorem dL_law_225 : decode cL_law 225 = .ok (.iconst 1, 1) := by decide +kernel
theorem dL_law_226 : decode cL_law 226 = .ok (.iadd, 1) := by decide +kernel
theorem dL_law_227 : decode cL_law 227 = .ok (.iaload, 1) := by decide +kernel
theorem dL_law_228 : decode cL_law 228 = .ok (.invokevirtual 30, 3) := by decide +kernel
theorem dL_law_231 : decode cL_law 231 = .ok (.if_icmp .eq 683, 3) := by decide +kernel
theorem dL_law_234 : decode cL_law 234 = .ok (.iconst 0, 1) := by decide +kernel
theorem dL_law_235 : decode cL_law 235 = .ok (.ireturn, 1) := by decide +kernel
theorem dL_law_236 : decode cL_law 236 = .ok (.aload_n 1, 1) := by decide +kernel
theorem dL_law_237 : decode cL_law 237 = .ok (.aload_n 0, 1) := by decide +kernel
theorem dL_law_238 : decode cL_law 238 = .ok (.iload_n 3, 1) := by decide +kernel
theorem dL_law_239 : decode cL_law 239 = .ok (.iconst 1, 1) := by decide +kernel
theorem dL_law_240 : decode cL_law 240 = .ok (.iadd, 1) := by decide +kernel
theorem dL_law_241 : decode cL_law 241 = .ok (.iaload, 1) := by decide +kernel
theorem dL_law_242 : decode cL_law 242 = .ok (.aload_n 0, 1) := by decide +kernel
theorem dL_law_243 : decode cL_law 243 = .ok (.iload_n 3, 1) := by decide +kernel
theorem dL_law_244 : decode cL_law 244 = .ok (.iconst 2, 1) := by decide +kernel
theorem dL_law_245 : decode cL_law 245 = .ok (.iadd, 1) := by decide +kernel
theorem dL_law_246 : decode cL_law 246 = .ok (.iaload, 1) := by decide +kernel
theorem dL_law_247 : decode cL_law 247 = .ok (.invokevirtual 31, 3) := by decide +kernel
theorem dL_law_250 : decode cL_law 250 = .ok (.aload_n 2, 1) := by decide +kernel
theorem dL_law_251 : decode cL_law 251 = .ok (.aload_n 0, 1) := by decide +kernel
theorem dL_law_252 : decode cL_law 252 = .ok (.iload_n 3, 1) := by decide +kernel
theorem dL_law_253 : decode cL_law 253 = .ok (.iconst 1, 1) := by decide +kernel
theorem dL_law_254 : decode cL_law 254 = .ok (.iadd, 1) := by decide +kernel
theorem dL_law_255 : decode cL_law 255 = .ok (.iaload, 1) := by decide +kernel
theorem dL_law_256 : decode cL_law 256 = .ok (.aload_n 0, 1) := by decide +kernel
theorem dL_law_257 : decode cL_law 257 = .ok (.iload_n 3, 1) := by decide +kernel
theorem dL_law_258 : decode cL_law 258 = .ok (.iconst 2, 1) := by decide +kernel
theorem dL_law_259 : decode cL_law 259 = .ok (.iadd, 1) := by decide +kernel
theorem dL_law_260 : decode cL_law 260 = .ok (.iaload, 1) := by decide +kernel
theorem dL_law_261 : decode cL_law 261 = .ok (.invokevirtual 35, 3) := by decide +kernel
theorem dL_law_264 : decode cL_law 264 = .ok (.if_icmp .eq 650, 3) := by decide +kernel
theorem dL_law_267 : decode cL_law 267 = .ok (.iconst 0, 1) := by decide +kernel
theorem dL_law_268 : decode cL_law 268 = .ok (.ireturn, 1) := by decide +kernel
theorem dL_law_269 : decode cL_law 269 = .ok (.aload_n 1, 1) := by decide +kernel
theorem dL_law_270 : decode cL_law 270 = .ok (.aload_n 0, 1) := by decide +kernel
theorem dL_law_271 : decode cL_law 271 = .ok (.iload_n 3, 1) := by decide +kernel
theorem dL_law_272 : decode cL_law 272 = .ok (.iconst 1, 1) := by decide +kernel
theorem dL_law_273 : decode cL_law 273 = .ok (.iadd, 1) := by decide +kernel
theorem dL_law_274 : decode cL_law 274 = .ok (.iaload, 1) := by decide +kernel
theorem dL_law_275 : decode cL_law 275 = .ok (.aload_n 0, 1) := by decide +kernel
theorem dL_law_276 : decode cL_law 276 = .ok (.iload_n 3, 1) := by decide +kernel
theorem dL_law_277 : decode cL_law 277 = .ok (.iconst 2, 1) := by decide +kernel
theorem dL_law_278 : decode cL_law 278 = .ok (.iadd, 1) := by decide +kernel
theorem dL_law_279 : decode cL_law 279 = .ok (.iaload, 1) := by decide +kernel
theorem dL_law_280 : decode cL_law 280 = .ok (.invokevirtual 36, 3) := by decide +kernel
theorem dL_law_283 : decode cL_law 283 = .ok (.aload_n 2, 1) := by decide +kernel
theorem dL_law_284 : decode cL_law 284 = .ok (.aload_n 0, 1) := by decide +kernel
theorem dL_law_285 : decode cL_law 285 = .ok (.iload_n 3, 1) := by decide +kernel
theorem dL_law_286 : decode cL_law 286 = .ok (.iconst 1, 1) := by decide +kernel
theorem dL_law_287 : decode cL_law 287 = .ok (.iadd, 1) := by decide +kernel
theorem dL_law_288 : decode cL_law 288 = .ok (.iaload, 1) := by decide +kernel
theorem dL_law_289 : decode cL_law 289 = .ok (.aload_n 0, 1) := by decide +kernel
theorem dL_law_290 : decode cL_law 290 = .ok (.iload_n 3, 1) := by decide +kernel
theorem dL_law_291 : decode cL_law 291 = .ok (.iconst 2, 1) := by decide +kernel
theorem dL_law_292 : decode cL_law 292 = .ok (.iadd, 1) := by decide +kernel
theorem dL_law_293 : decode cL_law 293 = .ok (.iaload, 1) := by decide +kernel
theorem dL_law_294 : decode cL_law 294 = .ok (.invokevirtual 39, 3) := by decide +kernel
theorem dL_law_297 : decode cL_law 297 = .ok (.if_icmp .eq 617, 3) := by decide +kernel
theorem dL_law_300 : decode cL_law 300 = .ok (.iconst 0, 1) := by decide +kernel
theorem dL_law_301 : decode cL_law 301 = .ok (.ireturn, 1) := by decide +kernel
theorem dL_law_302 : decode cL_law 302 = .ok (.aload_n 1, 1) := by decide +kernel
theorem dL_law_303 : decode cL_law 303 = .ok (.aload_n 0, 1) := by decide +kernel
theorem dL_law_304 : decode cL_law 304 = .ok (.iload_n 3, 1) := by decide +kernel
theorem dL_law_305 : decode cL_law 305 = .ok (.iconst 1, 1) := by decide +kernel
theorem dL_law_306 : decode cL_law 306 = .ok (.iadd, 1) := by decide +kernel
theorem dL_law_307 : decode cL_law 307 = .ok (.iaload, 1) := by decide +kernel
theorem dL_law_308 : decode cL_law 308 = .ok (.aload_n 0, 1) := by decide +kernel
theorem dL_law_309 : decode cL_law 309 = .ok (.iload_n 3, 1) := by decide +kernel
theorem dL_law_310 : decode cL_law 310 = .ok (.iconst 2, 1) := by decide +kernel
theorem dL_law_311 : decode cL_law 311 = .ok (.iadd, 1) := by decide +kernel
theorem dL_law_312 : decode cL_law 312 = .ok (.iaload, 1) := by decide +kernel
theorem dL_law_313 : decode cL_law 313 = .ok (.invokevirtual 40, 3) := by decide +kernel
theorem dL_law_316 : decode cL_law 316 = .ok (.aload_n 2, 1) := by decide +kernel
theorem dL_law_317 : decode cL_law 317 = .ok (.aload_n 0, 1) := by decide +kernel
theorem dL_law_318 : decode cL_law 318 = .ok (.iload_n 3, 1) := by decide +kernel
theorem dL_law_319 : decode cL_law 319 = .ok (.iconst 1, 1) := by decide +kernel
theorem dL_law_320 : decode cL_law 320 = .ok (.iadd, 1) := by decide +kernel
theorem dL_law_321 : decode cL_law 321 = .ok (.iaload, 1) := by decide +kernel
theorem dL_law_322 : decode cL_law 322 = .ok (.aload_n 0, 1) := by decide +kernel
theorem dL_law_323 : decode cL_law 323 = .ok (.iload_n 3, 1) := by decide +kernel
theorem dL_law_324 : decode cL_law 324 = .ok (.iconst 2, 1) := by decide +kernel
theorem dL_law_325 : decode cL_law 325 = .ok (.iadd, 1) := by decide +kernel
theorem dL_law_326 : decode cL_law 326 = .ok (.iaload, 1) := by decide +kernel
theorem dL_law_327 : decode cL_law 327 = .ok (.invokevirtual 43, 3) := by decide +kernel
theorem dL_law_330 : decode cL_law 330 = .ok (.if_icmp .eq 584, 3) := by decide +kernel
theorem dL_law_333 : decode cL_law 333 = .ok (.iconst 0, 1) := by decide +kernel
theorem dL_law_334 : decode cL_law 334 = .ok (.ireturn, 1) := by decide +kernel
theorem dL_law_335 : decode cL_law 335 = .ok (.aload_n 1, 1) := by decide +kernel
theorem dL_law_336 : decode cL_law 336 = .ok (.aload_n 0, 1) := by decide +kernel
theorem dL_law_337 : decode cL_law 337 = .ok (.iload_n 3, 1) := by decide +kernel
theorem dL_law_338 : decode cL_law 338 = .ok (.iconst 1, 1) := by decide +kernel
theorem dL_law_339 : decode cL_law 339 = .ok (.iadd, 1) := by decide +kernel
theorem dL_law_340 : decode cL_law 340 = .ok (.iaload, 1) := by decide +kernel
theorem dL_law_341 : decode cL_law 341 = .ok (.invokevirtual 44, 3) := by decide +kernel
theorem dL_law_344 : decode cL_law 344 = .ok (.aload_n 2, 1) := by decide +kernel
theorem dL_law_345 : decode cL_law 345 = .ok (.aload_n 0, 1) := by decide +kernel
theorem dL_law_346 : decode cL_law 346 = .ok (.iload_n 3, 1) := by decide +kernel
theorem dL_law_347 : decode cL_law 347 = .ok (.iconst 1, 1) := by decide +kernel
theorem dL_law_348 : decode cL_law 348 = .ok (.iadd, 1) := by decide +kernel
theorem dL_law_349 : decode cL_law 349 = .ok (.iaload, 1) := by decide +kernel
theorem dL_law_350 : decode cL_law 350 = .ok (.invokevirtual 47, 3) := by decide +kernel
theorem dL_law_353 : decode cL_law 353 = .ok (.if_icmp .eq 561, 3) := by decide +kernel
theorem dL_law_356 : decode cL_law 356 = .ok (.iconst 0, 1) := by decide +kernel
theorem dL_law_357 : decode cL_law 357 = .ok (.ireturn, 1) := by decide +kernel
theorem dL_law_358 : decode cL_law 358 = .ok (.aload_n 1, 1) := by decide +kernel
theorem dL_law_359 : decode cL_law 359 = .ok (.aload_n 0, 1) := by decide +kernel
theorem dL_law_360 : decode cL_law 360 = .ok (.iload_n 3, 1) := by decide +kernel
theorem dL_law_361 : decode cL_law 361 = .ok (.iconst 1, 1) := by decide +kernel
theorem dL_law_362 : decode cL_law 362 = .ok (.iadd, 1) := by decide +kernel
theorem dL_law_363 : decode cL_law 363 = .ok (.iaload, 1) := by decide +kernel
theorem dL_law_364 : decode cL_law 364 = .ok (.invokevirtual 48, 3) := by decide +kernel
theorem dL_law_367 : decode cL_law 367 = .ok (.aload_n 2, 1) := by decide +kernel
theorem dL_law_368 : decode cL_law 368 = .ok (.aload_n 0, 1) := by decide +kernel
theorem dL_law_369 : decode cL_law 369 = .ok (.iload_n 3, 1) := by decide +kernel
theorem dL_law_370 : decode cL_law 370 = .ok (.iconst 1, 1) := by decide +kernel
theorem dL_law_371 : decode cL_law 371 = .ok (.iadd, 1) := by decide +kernel
theorem dL_law_372 : decode cL_law 372 = .ok (.iaload, 1) := by decide +kernel
theorem dL_law_373 : decode cL_law 373 = .ok (.invokevirtual 51, 3) := by decide +kernel
theorem dL_law_376 : decode cL_law 376 = .ok (.if_icmp .eq 538, 3) := by decide +kernel
theorem dL_law_379 : decode cL_law 379 = .ok (.iconst 0, 1) := by decide +kernel
theorem dL_law_380 : decode cL_law 380 = .ok (.ireturn, 1) := by decide +kernel
theorem dL_law_381 : decode cL_law 381 = .ok (.aload_n 1, 1) := by decide +kernel
theorem dL_law_382 : decode cL_law 382 = .ok (.aload_n 0, 1) := by decide +kernel
theorem dL_law_383 : decode cL_law 383 = .ok (.iload_n 3, 1) := by decide +kernel
theorem dL_law_384 : decode cL_law 384 = .ok (.iconst 1, 1) := by decide +kernel
theorem dL_law_385 : decode cL_law 385 = .ok (.iadd, 1) := by decide +kernel
theorem dL_law_386 : decode cL_law 386 = .ok (.iaload, 1) := by decide +kernel
theorem dL_law_387 : decode cL_law 387 = .ok (.aload_n 0, 1) := by decide +kernel
theorem dL_law_388 : decode cL_law 388 = .ok (.iload_n 3, 1) := by decide +kernel
theorem dL_law_389 : decode cL_law 389 = .ok (.iconst 2, 1) := by decide +kernel
theorem dL_law_390 : decode cL_law 390 = .ok (.iadd, 1) := by decide +kernel
theorem dL_law_391 : decode cL_law 391 = .ok (.iaload, 1) := by decide +kernel
theorem dL_law_392 : decode cL_law 392 = .ok (.invokevirtual 52, 3) := by decide +kernel
theorem dL_law_395 : decode cL_law 395 = .ok (.aload_n 2, 1) := by decide +kernel
theorem dL_law_396 : decode cL_law 396 = .ok (.aload_n 0, 1) := by decide +kernel
theorem dL_law_397 : decode cL_law 397 = .ok (.iload_n 3, 1) := by decide +kernel
theorem dL_law_398 : decode cL_law 398 = .ok (.iconst 1, 1) := by decide +kernel
theorem dL_law_399 : decode cL_law 399 = .ok (.iadd, 1) := by decide +kernel
theorem dL_law_400 : decode cL_law 400 = .ok (.iaload, 1) := by decide +kernel
theorem dL_law_401 : decode cL_law 401 = .ok (.aload_n 0, 1) := by decide +kernel
theorem dL_law_402 : decode cL_law 402 = .ok (.iload_n 3, 1) := by decide +kernel
theorem dL_law_403 : decode cL_law 403 = .ok (.iconst 2, 1) := by decide +kernel
theorem dL_law_404 : decode cL_law 404 = .ok (.iadd, 1) := by decide +kernel
theorem dL_law_405 : decode cL_law 405 = .ok (.iaload, 1) := by decide +kernel
theorem dL_law_406 : decode cL_law 406 = .ok (.invokevirtual 55, 3) := by decide +kernel
theorem dL_law_409 : decode cL_law 409 = .ok (.if_icmp .eq 505, 3) := by decide +kernel
theorem dL_law_412 : decode cL_law 412 = .ok (.iconst 0, 1) := by decide +kernel
theorem dL_law_413 : decode cL_law 413 = .ok (.ireturn, 1) := by decide +kernel
theorem dL_law_414 : decode cL_law 414 = .ok (.aload_n 1, 1) := by decide +kernel
theorem dL_law_415 : decode cL_law 415 = .ok (.aload_n 0, 1) := by decide +kernel
theorem dL_law_416 : decode cL_law 416 = .ok (.iload_n 3, 1) := by decide +kernel
theorem dL_law_417 : decode cL_law 417 = .ok (.iconst 1, 1) := by decide +kernel
theorem dL_law_418 : decode cL_law 418 = .ok (.iadd, 1) := by decide +kernel
theorem dL_law_419 : decode cL_law 419 = .ok (.iaload, 1) := by decide +kernel
theorem dL_law_420 : decode cL_law 420 = .ok (.invokevirtual 56, 3) := by decide +kernel
theorem dL_law_423 : decode cL_law 423 = .ok (.aload_n 2, 1) := by decide +kernel
theorem dL_law_424 : decode cL_law 424 = .ok (.aload_n 0, 1) := by decide +kernel
theorem dL_law_425 : decode cL_law 425 = .ok (.iload_n 3, 1) := by decide +kernel
theorem dL_law_426 : decode cL_law 426 = .ok (.iconst 1, 1) := by decide +kernel
theorem dL_law_427 : decode cL_law 427 = .ok (.iadd, 1) := by decide +kernel
theorem dL_law_428 : decode cL_law 428 = .ok (.iaload, 1) := by decide +kernel
theorem dL_law_429 : decode cL_law 429 = .ok (.invokevirtual 59, 3) := by decide +kernel
theorem dL_law_432 : decode cL_law 432 = .ok (.if_icmp .eq 482, 3) := by decide +kernel
theorem dL_law_435 : decode cL_law 435 = .ok (.iconst 0, 1) := by decide +kernel
theorem dL_law_436 : decode cL_law 436 = .ok (.ireturn, 1) := by decide +kernel
theorem dL_law_437 : decode cL_law 437 = .ok (.aload_n 1, 1) := by decide +kernel
theorem dL_law_438 : decode cL_law 438 = .ok (.invokevirtual 60, 3) := by decide +kernel
theorem dL_law_441 : decode cL_law 441 = .ok (.aload_n 2, 1) := by decide +kernel
theorem dL_law_442 : decode cL_law 442 = .ok (.invokevirtual 63, 3) := by decide +kernel
theorem dL_law_445 : decode cL_law 445 = .ok (.if_icmp .eq 469, 3) := by decide +kernel
theorem dL_law_448 : decode cL_law 448 = .ok (.iconst 0, 1) := by decide +kernel
theorem dL_law_449 : decode cL_law 449 = .ok (.ireturn, 1) := by decide +kernel
theorem dL_law_450 : decode cL_law 450 = .ok (.aload_n 1, 1) := by decide +kernel
theorem dL_law_451 : decode cL_law 451 = .ok (.aload_n 0, 1) := by decide +kernel
theorem dL_law_452 : decode cL_law 452 = .ok (.iload_n 3, 1) := by decide +kernel
theorem dL_law_453 : decode cL_law 453 = .ok (.iconst 1, 1) := by decide +kernel
theorem dL_law_454 : decode cL_law 454 = .ok (.iadd, 1) := by decide +kernel
theorem dL_law_455 : decode cL_law 455 = .ok (.iaload, 1) := by decide +kernel
theorem dL_law_456 : decode cL_law 456 = .ok (.invokevirtual 64, 3) := by decide +kernel
theorem dL_law_459 : decode cL_law 459 = .ok (.aload_n 2, 1) := by decide +kernel
theorem dL_law_460 : decode cL_law 460 = .ok (.aload_n 0, 1) := by decide +kernel
theorem dL_law_461 : decode cL_law 461 = .ok (.iload_n 3, 1) := by decide +kernel
theorem dL_law_462 : decode cL_law 462 = .ok (.iconst 1, 1) := by decide +kernel
theorem dL_law_463 : decode cL_law 463 = .ok (.iadd, 1) := by decide +kernel
theorem dL_law_464 : decode cL_law 464 = .ok (.iaload, 1) := by decide +kernel
theorem dL_law_465 : decode cL_law 465 = .ok (.invokevirtual 67, 3) := by decide +kernel
theorem dL_law_468 : decode cL_law 468 = .ok (.if_icmp .eq 446, 3) := by decide +kernel
theorem dL_law_471 : decode cL_law 471 = .ok (.iconst 0, 1) := by decide +kernel
theorem dL_law_472 : decode cL_law 472 = .ok (.ireturn, 1) := by decide +kernel
theorem dL_law_473 : decode cL_law 473 = .ok (.aload_n 1, 1) := by decide +kernel
theorem dL_law_474 : decode cL_law 474 = .ok (.aload_n 0, 1) := by decide +kernel
theorem dL_law_475 : decode cL_law 475 = .ok (.iload_n 3, 1) := by decide +kernel
theorem dL_law_476 : decode cL_law 476 = .ok (.iconst 1, 1) := by decide +kernel
theorem dL_law_477 : decode cL_law 477 = .ok (.iadd, 1) := by decide +kernel
theorem dL_law_478 : decode cL_law 478 = .ok (.iaload, 1) := by decide +kernel
theorem dL_law_479 : decode cL_law 479 = .ok (.aload_n 0, 1) := by decide +kernel
theorem dL_law_480 : decode cL_law 480 = .ok (.iload_n 3, 1) := by decide +kernel
theorem dL_law_481 : decode cL_law 481 = .ok (.iconst 2, 1) := by decide +kernel
theorem dL_law_482 : decode cL_law 482 = .ok (.iadd, 1) := by decide +kernel
theorem dL_law_483 : decode cL_law 483 = .ok (.iaload, 1) := by decide +kernel
theorem dL_law_484 : decode cL_law 484 = .ok (.invokevirtual 68, 3) := by decide +kernel
theorem dL_law_487 : decode cL_law 487 = .ok (.aload_n 2, 1) := by decide +kernel
theorem dL_law_488 : decode cL_law 488 = .ok (.aload_n 0, 1) := by decide +kernel
theorem dL_law_489 : decode cL_law 489 = .ok (.iload_n 3, 1) := by decide +kernel
theorem dL_law_490 : decode cL_law 490 = .ok (.iconst 1, 1) := by decide +kernel
theorem dL_law_491 : decode cL_law 491 = .ok (.iadd, 1) := by decide +kernel
theorem dL_law_492 : decode cL_law 492 = .ok (.iaload, 1) := by decide +kernel
theorem dL_law_493 : decode cL_law 493 = .ok (.aload_n 0, 1) := by decide +kernel
theorem dL_law_494 : decode cL_law 494 = .ok (.iload_n 3, 1) := by decide +kernel
theorem dL_law_495 : decode cL_law 495 = .ok (.iconst 2, 1) := by decide +kernel
theorem dL_law_496 : decode cL_law 496 = .ok (.iadd, 1) := by decide +kernel
theorem dL_law_497 : decode cL_law 497 = .ok (.iaload, 1) := by decide +kernel
theorem dL_law_498 : decode cL_law 498 = .ok (.invokevirtual 71, 3) := by decide +kernel
theorem dL_law_501 : decode cL_law 501 = .ok (.if_icmp .eq 413, 3) := by decide +kernel
theorem dL_law_504 : decode cL_law 504 = .ok (.iconst 0, 1) := by decide +kernel
theorem dL_law_505 : decode cL_law 505 = .ok (.ireturn, 1) := by decide +kernel
theorem dL_law_506 : decode cL_law 506 = .ok (.aload_n 1, 1) := by decide +kernel
theorem dL_law_507 : decode cL_law 507 = .ok (.aload_n 0, 1) := by decide +kernel
theorem dL_law_508 : decode cL_law 508 = .ok (.iload_n 3, 1) := by decide +kernel
theorem dL_law_509 : decode cL_law 509 = .ok (.iconst 1, 1) := by decide +kernel
theorem dL_law_510 : decode cL_law 510 = .ok (.iadd, 1) := by decide +kernel
theorem dL_law_511 : decode cL_law 511 = .ok (.iaload, 1) := by decide +kernel
theorem dL_law_512 : decode cL_law 512 = .ok (.invokevirtual 72, 3) := by decide +kernel
theorem dL_law_515 : decode cL_law 515 = .ok (.aload_n 2, 1) := by decide +kernel
theorem dL_law_516 : decode cL_law 516 = .ok (.aload_n 0, 1) := by decide +kernel
theorem dL_law_517 : decode cL_law 517 = .ok (.iload_n 3, 1) := by decide +kernel
theorem dL_law_518 : decode cL_law 518 = .ok (.iconst 1, 1) := by decide +kernel
theorem dL_law_519 : decode cL_law 519 = .ok (.iadd, 1) := by decide +kernel
theorem dL_law_520 : decode cL_law 520 = .ok (.iaload, 1) := by decide +kernel
theorem dL_law_521 : decode cL_law 521 = .ok (.invokevirtual 75, 3) := by decide +kernel
theorem dL_law_524 : decode cL_law 524 = .ok (.if_icmp .eq 390, 3) := by decide +kernel
theorem dL_law_527 : decode cL_law 527 = .ok (.iconst 0, 1) := by decide +kernel
theorem dL_law_528 : decode cL_law 528 = .ok (.ireturn, 1) := by decide +kernel
theorem dL_law_529 : decode cL_law 529 = .ok (.aload_n 1, 1) := by decide +kernel
theorem dL_law_530 : decode cL_law 530 = .ok (.aload_n 0, 1) := by decide +kernel
theorem dL_law_531 : decode cL_law 531 = .ok (.iload_n 3, 1) := by decide +kernel
theorem dL_law_532 : decode cL_law 532 = .ok (.iconst 1, 1) := by decide +kernel
theorem dL_law_533 : decode cL_law 533 = .ok (.iadd, 1) := by decide +kernel
theorem dL_law_534 : decode cL_law 534 = .ok (.iaload, 1) := by decide +kernel
theorem dL_law_535 : decode cL_law 535 = .ok (.aload_n 0, 1) := by decide +kernel
theorem dL_law_536 : decode cL_law 536 = .ok (.iload_n 3, 1) := by decide +kernel
theorem dL_law_537 : decode cL_law 537 = .ok (.iconst 2, 1) := by decide +kernel
theorem dL_law_538 : decode cL_law 538 = .ok (.iadd, 1) := by decide +kernel
theorem dL_law_539 : decode cL_law 539 = .ok (.iaload, 1) := by decide +kernel
theorem dL_law_540 : decode cL_law 540 = .ok (.invokevirtual 76, 3) := by decide +kernel
theorem dL_law_543 : decode cL_law 543 = .ok (.aload_n 2, 1) := by decide +kernel
theorem dL_law_544 : decode cL_law 544 = .ok (.aload_n 0, 1) := by decide +kernel
theorem dL_law_545 : decode cL_law 545 = .ok (.iload_n 3, 1) := by decide +kernel
theorem dL_law_546 : decode cL_law 546 = .ok (.iconst 1, 1) := by decide +kernel
theorem dL_law_547 : decode cL_law 547 = .ok (.iadd, 1) := by decide +kernel
theorem dL_law_548 : decode cL_law 548 = .ok (.iaload, 1) := by decide +kernel
theorem dL_law_549 : decode cL_law 549 = .ok (.aload_n 0, 1) := by decide +kernel
theorem dL_law_550 : decode cL_law 550 = .ok (.iload_n 3, 1) := by decide +kernel
theorem dL_law_551 : decode cL_law 551 = .ok (.iconst 2, 1) := by decide +kernel
theorem dL_law_552 : decode cL_law 552 = .ok (.iadd, 1) := by decide +kernel
theorem dL_law_553 : decode cL_law 553 = .ok (.iaload, 1) := by decide +kernel
theorem dL_law_554 : decode cL_law 554 = .ok (.invokevirtual 79, 3) := by decide +kernel
theorem dL_law_557 : decode cL_law 557 = .ok (.if_icmp .eq 357, 3) := by decide +kernel
theorem dL_law_560 : decode cL_law 560 = .ok (.iconst 0, 1) := by decide +kernel
theorem dL_law_561 : decode cL_law 561 = .ok (.ireturn, 1) := by decide +kernel
theorem dL_law_562 : decode cL_law 562 = .ok (.aload_n 1, 1) := by decide +kernel
theorem dL_law_563 : decode cL_law 563 = .ok (.aload_n 0, 1) := by decide +kernel
theorem dL_law_564 : decode cL_law 564 = .ok (.iload_n 3, 1) := by decide +kernel
theorem dL_law_565 : decode cL_law 565 = .ok (.iconst 1, 1) := by decide +kernel
theorem dL_law_566 : decode cL_law 566 = .ok (.iadd, 1) := by decide +kernel
theorem dL_law_567 : decode cL_law 567 = .ok (.iaload, 1) := by decide +kernel
theorem dL_law_568 : decode cL_law 568 = .ok (.aload_n 0, 1) := by decide +kernel
theorem dL_law_569 : decode cL_law 569 = .ok (.iload_n 3, 1) := by decide +kernel
theorem dL_law_570 : decode cL_law 570 = .ok (.iconst 2, 1) := by decide +kernel
theorem dL_law_571 : decode cL_law 571 = .ok (.iadd, 1) := by decide +kernel
theorem dL_law_572 : decode cL_law 572 = .ok (.iaload, 1) := by decide +kernel
theorem dL_law_573 : decode cL_law 573 = .ok (.aload_n 0, 1) := by decide +kernel
theorem dL_law_574 : decode cL_law 574 = .ok (.iload_n 3, 1) := by decide +kernel
theorem dL_law_575 : decode cL_law 575 = .ok (.iconst 3, 1) := by decide +kernel
theorem dL_law_576 : decode cL_law 576 = .ok (.iadd, 1) := by decide +kernel
theorem dL_law_577 : decode cL_law 577 = .ok (.iaload, 1) := by decide +kernel
theorem dL_law_578 : decode cL_law 578 = .ok (.aload_n 0, 1) := by decide +kernel
theorem dL_law_579 : decode cL_law 579 = .ok (.iload_n 3, 1) := by decide +kernel
theorem dL_law_580 : decode cL_law 580 = .ok (.iconst 4, 1) := by decide +kernel
theorem dL_law_581 : decode cL_law 581 = .ok (.iadd, 1) := by decide +kernel
theorem dL_law_582 : decode cL_law 582 = .ok (.iaload, 1) := by decide +kernel
theorem dL_law_583 : decode cL_law 583 = .ok (.aload_n 0, 1) := by decide +kernel
theorem dL_law_584 : decode cL_law 584 = .ok (.iload_n 3, 1) := by decide +kernel
theorem dL_law_585 : decode cL_law 585 = .ok (.iconst 5, 1) := by decide +kernel
theorem dL_law_586 : decode cL_law 586 = .ok (.iadd, 1) := by decide +kernel
theorem dL_law_587 : decode cL_law 587 = .ok (.iaload, 1) := by decide +kernel
theorem dL_law_588 : decode cL_law 588 = .ok (.aload_n 0, 1) := by decide +kernel
theorem dL_law_589 : decode cL_law 589 = .ok (.iload_n 3, 1) := by decide +kernel
theorem dL_law_590 : decode cL_law 590 = .ok (.bipush 6, 2) := by decide +kernel
theorem dL_law_592 : decode cL_law 592 = .ok (.iadd, 1) := by decide +kernel
theorem dL_law_593 : decode cL_law 593 = .ok (.iaload, 1) := by decide +kernel
theorem dL_law_594 : decode cL_law 594 = .ok (.invokevirtual 80, 3) := by decide +kernel
theorem dL_law_597 : decode cL_law 597 = .ok (.aload_n 2, 1) := by decide +kernel
theorem dL_law_598 : decode cL_law 598 = .ok (.aload_n 0, 1) := by decide +kernel
theorem dL_law_599 : decode cL_law 599 = .ok (.iload_n 3, 1) := by decide +kernel
theorem dL_law_600 : decode cL_law 600 = .ok (.iconst 1, 1) := by decide +kernel
theorem dL_law_601 : decode cL_law 601 = .ok (.iadd, 1) := by decide +kernel
theorem dL_law_602 : decode cL_law 602 = .ok (.iaload, 1) := by decide +kernel
theorem dL_law_603 : decode cL_law 603 = .ok (.aload_n 0, 1) := by decide +kernel
theorem dL_law_604 : decode cL_law 604 = .ok (.iload_n 3, 1) := by decide +kernel
theorem dL_law_605 : decode cL_law 605 = .ok (.iconst 2, 1) := by decide +kernel
theorem dL_law_606 : decode cL_law 606 = .ok (.iadd, 1) := by decide +kernel
theorem dL_law_607 : decode cL_law 607 = .ok (.iaload, 1) := by decide +kernel
theorem dL_law_608 : decode cL_law 608 = .ok (.aload_n 0, 1) := by decide +kernel
theorem dL_law_609 : decode cL_law 609 = .ok (.iload_n 3, 1) := by decide +kernel
theorem dL_law_610 : decode cL_law 610 = .ok (.iconst 3, 1) := by decide +kernel
theorem dL_law_611 : decode cL_law 611 = .ok (.iadd, 1) := by decide +kernel
theorem dL_law_612 : decode cL_law 612 = .ok (.iaload, 1) := by decide +kernel
theorem dL_law_613 : decode cL_law 613 = .ok (.aload_n 0, 1) := by decide +kernel
theorem dL_law_614 : decode cL_law 614 = .ok (.iload_n 3, 1) := by decide +kernel
theorem dL_law_615 : decode cL_law 615 = .ok (.iconst 4, 1) := by decide +kernel
theorem dL_law_616 : decode cL_law 616 = .ok (.iadd, 1) := by decide +kernel
theorem dL_law_617 : decode cL_law 617 = .ok (.iaload, 1) := by decide +kernel
theorem dL_law_618 : decode cL_law 618 = .ok (.aload_n 0, 1) := by decide +kernel
theorem dL_law_619 : decode cL_law 619 = .ok (.iload_n 3, 1) := by decide +kernel
theorem dL_law_620 : decode cL_law 620 = .ok (.iconst 5, 1) := by decide +kernel
theorem dL_law_621 : decode cL_law 621 = .ok (.iadd, 1) := by decide +kernel
theorem dL_law_622 : decode cL_law 622 = .ok (.iaload, 1) := by decide +kernel
theorem dL_law_623 : decode cL_law 623 = .ok (.aload_n 0, 1) := by decide +kernel
theorem dL_law_624 : decode cL_law 624 = .ok (.iload_n 3, 1) := by decide +kernel
theorem dL_law_625 : decode cL_law 625 = .ok (.bipush 6, 2) := by decide +kernel
theorem dL_law_627 : decode cL_law 627 = .ok (.iadd, 1) := by decide +kernel
theorem dL_law_628 : decode cL_law 628 = .ok (.iaload, 1) := by decide +kernel
theorem dL_law_629 : decode cL_law 629 = .ok (.invokevirtual 84, 3) := by decide +kernel
theorem dL_law_632 : decode cL_law 632 = .ok (.if_icmp .eq 282, 3) := by decide +kernel
theorem dL_law_635 : decode cL_law 635 = .ok (.iconst 0, 1) := by decide +kernel
theorem dL_law_636 : decode cL_law 636 = .ok (.ireturn, 1) := by decide +kernel
theorem dL_law_637 : decode cL_law 637 = .ok (.aload_n 1, 1) := by decide +kernel
theorem dL_law_638 : decode cL_law 638 = .ok (.aload_n 0, 1) := by decide +kernel
theorem dL_law_639 : decode cL_law 639 = .ok (.iload_n 3, 1) := by decide +kernel
theorem dL_law_640 : decode cL_law 640 = .ok (.iconst 1, 1) := by decide +kernel
theorem dL_law_641 : decode cL_law 641 = .ok (.iadd, 1) := by decide +kernel
theorem dL_law_642 : decode cL_law 642 = .ok (.iaload, 1) := by decide +kernel
theorem dL_law_643 : decode cL_law 643 = .ok (.aload_n 0, 1) := by decide +kernel
theorem dL_law_644 : decode cL_law 644 = .ok (.iload_n 3, 1) := by decide +kernel
theorem dL_law_645 : decode cL_law 645 = .ok (.iconst 2, 1) := by decide +kernel
theorem dL_law_646 : decode cL_law 646 = .ok (.iadd, 1) := by decide +kernel
theorem dL_law_647 : decode cL_law 647 = .ok (.iaload, 1) := by decide +kernel
theorem dL_law_648 : decode cL_law 648 = .ok (.invokevirtual 85, 3) := by decide +kernel
theorem dL_law_651 : decode cL_law 651 = .ok (.aload_n 2, 1) := by decide +kernel
theorem dL_law_652 : decode cL_law 652 = .ok (.aload_n 0, 1) := by decide +kernel
theorem dL_law_653 : decode cL_law 653 = .ok (.iload_n 3, 1) := by decide +kernel
theorem dL_law_654 : decode cL_law 654 = .ok (.iconst 1, 1) := by decide +kernel
theorem dL_law_655 : decode cL_law 655 = .ok (.iadd, 1) := by decide +kernel
theorem dL_law_656 : decode cL_law 656 = .ok (.iaload, 1) := by decide +kernel
theorem dL_law_657 : decode cL_law 657 = .ok (.aload_n 0, 1) := by decide +kernel
theorem dL_law_658 : decode cL_law 658 = .ok (.iload_n 3, 1) := by decide +kernel
theorem dL_law_659 : decode cL_law 659 = .ok (.iconst 2, 1) := by decide +kernel
theorem dL_law_660 : decode cL_law 660 = .ok (.iadd, 1) := by decide +kernel
theorem dL_law_661 : decode cL_law 661 = .ok (.iaload, 1) := by decide +kernel
theorem dL_law_662 : decode cL_law 662 = .ok (.invokevirtual 88, 3) := by decide +kernel
theorem dL_law_665 : decode cL_law 665 = .ok (.if_icmp .eq 249, 3) := by decide +kernel
theorem dL_law_668 : decode cL_law 668 = .ok (.iconst 0, 1) := by decide +kernel
theorem dL_law_669 : decode cL_law 669 = .ok (.ireturn, 1) := by decide +kernel
theorem dL_law_670 : decode cL_law 670 = .ok (.aload_n 1, 1) := by decide +kernel
theorem dL_law_671 : decode cL_law 671 = .ok (.aload_n 0, 1) := by decide +kernel
theorem dL_law_672 : decode cL_law 672 = .ok (.iload_n 3, 1) := by decide +kernel
theorem dL_law_673 : decode cL_law 673 = .ok (.iconst 1, 1) := by decide +kernel
theorem dL_law_674 : decode cL_law 674 = .ok (.iadd, 1) := by decide +kernel
theorem dL_law_675 : decode cL_law 675 = .ok (.iaload, 1) := by decide +kernel
theorem dL_law_676 : decode cL_law 676 = .ok (.invokevirtual 89, 3) := by decide +kernel
theorem dL_law_679 : decode cL_law 679 = .ok (.aload_n 2, 1) := by decide +kernel
theorem dL_law_680 : decode cL_law 680 = .ok (.aload_n 0, 1) := by decide +kernel
theorem dL_law_681 : decode cL_law 681 = .ok (.iload_n 3, 1) := by decide +kernel
theorem dL_law_682 : decode cL_law 682 = .ok (.iconst 1, 1) := by decide +kernel
theorem dL_law_683 : decode cL_law 683 = .ok (.iadd, 1) := by decide +kernel
theorem dL_law_684 : decode cL_law 684 = .ok (.iaload, 1) := by decide +kernel
theorem dL_law_685 : decode cL_law 685 = .ok (.invokevirtual 92, 3) := by decide +kernel
theorem dL_law_688 : decode cL_law 688 = .ok (.if_icmp .eq 226, 3) := by decide +kernel
theorem dL_law_691 : decode cL_law 691 = .ok (.iconst 0, 1) := by decide +kernel
theorem dL_law_692 : decode cL_law 692 = .ok (.ireturn, 1) := by decide +kernel
theorem dL_law_693 : decode cL_law 693 = .ok (.aload_n 1, 1) := by decide +kernel
theorem dL_law_694 : decode cL_law 694 = .ok (.invokevirtual 93, 3) := by decide +kernel
theorem dL_law_697 : decode cL_law 697 = .ok (.aload_n 2, 1) := by decide +kernel
theorem dL_law_698 : decode cL_law 698 = .ok (.invokevirtual 96, 3) := by decide +kernel
theorem dL_law_701 : decode cL_law 701 = .ok (.if_icmp .eq 213, 3) := by decide +kernel
theorem dL_law_704 : decode cL_law 704 = .ok (.iconst 0, 1) := by decide +kernel
theorem dL_law_705 : decode cL_law 705 = .ok (.ireturn, 1) := by decide +kernel
theorem dL_law_706 : decode cL_law 706 = .ok (.aload_n 1, 1) := by decide +kernel
theorem dL_law_707 : decode cL_law 707 = .ok (.aload_n 0, 1) := by decide +kernel
theorem dL_law_708 : decode cL_law 708 = .ok (.iload_n 3, 1) := by decide +kernel
theorem dL_law_709 : decode cL_law 709 = .ok (.iconst 1, 1) := by decide +kernel
theorem dL_law_710 : decode cL_law 710 = .ok (.iadd, 1) := by decide +kernel
theorem dL_law_711 : decode cL_law 711 = .ok (.iaload, 1) := by decide +kernel
theorem dL_law_712 : decode cL_law 712 = .ok (.aload_n 0, 1) := by decide +kernel
theorem dL_law_713 : decode cL_law 713 = .ok (.iload_n 3, 1) := by decide +kernel
theorem dL_law_714 : decode cL_law 714 = .ok (.iconst 2, 1) := by decide +kernel
theorem dL_law_715 : decode cL_law 715 = .ok (.iadd, 1) := by decide +kernel
theorem dL_law_716 : decode cL_law 716 = .ok (.iaload, 1) := by decide +kernel
theorem dL_law_717 : decode cL_law 717 = .ok (.invokevirtual 97, 3) := by decide +kernel
theorem dL_law_720 : decode cL_law 720 = .ok (.aload_n 2, 1) := by decide +kernel
theorem dL_law_721 : decode cL_law 721 = .ok (.aload_n 0, 1) := by decide +kernel
theorem dL_law_722 : decode cL_law 722 = .ok (.iload_n 3, 1) := by decide +kernel
theorem dL_law_723 : decode cL_law 723 = .ok (.iconst 1, 1) := by decide +kernel
theorem dL_law_724 : decode cL_law 724 = .ok (.iadd, 1) := by decide +kernel
theorem dL_law_725 : decode cL_law 725 = .ok (.iaload, 1) := by decide +kernel
theorem dL_law_726 : decode cL_law 726 = .ok (.aload_n 0, 1) := by decide +kernel
theorem dL_law_727 : decode cL_law 727 = .ok (.iload_n 3, 1) := by decide +kernel
theorem dL_law_728 : decode cL_law 728 = .ok (.iconst 2, 1) := by decide +kernel
theorem dL_law_729 : decode cL_law 729 = .ok (.iadd, 1) := by decide +kernel
theorem dL_law_730 : decode cL_law 730 = .ok (.iaload, 1) := by decide +kernel
theorem dL_law_731 : decode cL_law 731 = .ok (.invokevirtual 100, 3) := by decide +kernel
theorem dL_law_734 : decode cL_law 734 = .ok (.if_icmp .eq 180, 3) := by decide +kernel
theorem dL_law_737 : decode cL_law 737 = .ok (.iconst 0, 1) := by decide +kernel
theorem dL_law_738 : decode cL_law 738 = .ok (.ireturn, 1) := by decide +kernel
theorem dL_law_739 : decode cL_law 739 = .ok (.aload_n 1, 1) := by decide +kernel
theorem dL_law_740 : decode cL_law 740 = .ok (.aload_n 0, 1) := by decide +kernel
theorem dL_law_741 : decode cL_law 741 = .ok (.iload_n 3, 1) := by decide +kernel
theorem dL_law_742 : decode cL_law 742 = .ok (.iconst 1, 1) := by decide +kernel
theorem dL_law_743 : decode cL_law 743 = .ok (.iadd, 1) := by decide +kernel
theorem dL_law_744 : decode cL_law 744 = .ok (.iaload, 1) := by decide +kernel
theorem dL_law_745 : decode cL_law 745 = .ok (.invokevirtual 101, 3) := by decide +kernel
theorem dL_law_748 : decode cL_law 748 = .ok (.aload_n 2, 1) := by decide +kernel
theorem dL_law_749 : decode cL_law 749 = .ok (.aload_n 0, 1) := by decide +kernel
theorem dL_law_750 : decode cL_law 750 = .ok (.iload_n 3, 1) := by decide +kernel
theorem dL_law_751 : decode cL_law 751 = .ok (.iconst 1, 1) := by decide +kernel
theorem dL_law_752 : decode cL_law 752 = .ok (.iadd, 1) := by decide +kernel
theorem dL_law_753 : decode cL_law 753 = .ok (.iaload, 1) := by decide +kernel
theorem dL_law_754 : decode cL_law 754 = .ok (.invokevirtual 104, 3) := by decide +kernel
theorem dL_law_757 : decode cL_law 757 = .ok (.if_icmp .eq 157, 3) := by decide +kernel
theorem dL_law_760 : decode cL_law 760 = .ok (.iconst 0, 1) := by decide +kernel
theorem dL_law_761 : decode cL_law 761 = .ok (.ireturn, 1) := by decide +kernel
theorem dL_law_762 : decode cL_law 762 = .ok (.aload_n 1, 1) := by decide +kernel
theorem dL_law_763 : decode cL_law 763 = .ok (.aload_n 0, 1) := by decide +kernel
theorem dL_law_764 : decode cL_law 764 = .ok (.iload_n 3, 1) := by decide +kernel
theorem dL_law_765 : decode cL_law 765 = .ok (.iconst 1, 1) := by decide +kernel
theorem dL_law_766 : decode cL_law 766 = .ok (.iadd, 1) := by decide +kernel
theorem dL_law_767 : decode cL_law 767 = .ok (.iaload, 1) := by decide +kernel
theorem dL_law_768 : decode cL_law 768 = .ok (.invokevirtual 105, 3) := by decide +kernel
theorem dL_law_771 : decode cL_law 771 = .ok (.aload_n 2, 1) := by decide +kernel
theorem dL_law_772 : decode cL_law 772 = .ok (.aload_n 0, 1) := by decide +kernel
theorem dL_law_773 : decode cL_law 773 = .ok (.iload_n 3, 1) := by decide +kernel
theorem dL_law_774 : decode cL_law 774 = .ok (.iconst 1, 1) := by decide +kernel
theorem dL_law_775 : decode cL_law 775 = .ok (.iadd, 1) := by decide +kernel
theorem dL_law_776 : decode cL_law 776 = .ok (.iaload, 1) := by decide +kernel
theorem dL_law_777 : decode cL_law 777 = .ok (.invokevirtual 108, 3) := by decide +kernel
theorem dL_law_780 : decode cL_law 780 = .ok (.if_icmp .eq 134, 3) := by decide +kernel
theorem dL_law_783 : decode cL_law 783 = .ok (.iconst 0, 1) := by decide +kernel
theorem dL_law_784 : decode cL_law 784 = .ok (.ireturn, 1) := by decide +kernel
theorem dL_law_785 : decode cL_law 785 = .ok (.aload_n 1, 1) := by decide +kernel
theorem dL_law_786 : decode cL_law 786 = .ok (.invokevirtual 109, 3) := by decide +kernel
theorem dL_law_789 : decode cL_law 789 = .ok (.aload_n 2, 1) := by decide +kernel
theorem dL_law_790 : decode cL_law 790 = .ok (.invokevirtual 112, 3) := by decide +kernel
theorem dL_law_793 : decode cL_law 793 = .ok (.if_icmp .eq 121, 3) := by decide +kernel
theorem dL_law_796 : decode cL_law 796 = .ok (.iconst 0, 1) := by decide +kernel
theorem dL_law_797 : decode cL_law 797 = .ok (.ireturn, 1) := by decide +kernel
theorem dL_law_798 : decode cL_law 798 = .ok (.aload_n 1, 1) := by decide +kernel
theorem dL_law_799 : decode cL_law 799 = .ok (.aload_n 0, 1) := by decide +kernel
theorem dL_law_800 : decode cL_law 800 = .ok (.iload_n 3, 1) := by decide +kernel
theorem dL_law_801 : decode cL_law 801 = .ok (.iconst 1, 1) := by decide +kernel
theorem dL_law_802 : decode cL_law 802 = .ok (.iadd, 1) := by decide +kernel
theorem dL_law_803 : decode cL_law 803 = .ok (.iaload, 1) := by decide +kernel
theorem dL_law_804 : decode cL_law 804 = .ok (.aload_n 0, 1) := by decide +kernel
theorem dL_law_805 : decode cL_law 805 = .ok (.iload_n 3, 1) := by decide +kernel
theorem dL_law_806 : decode cL_law 806 = .ok (.iconst 2, 1) := by decide +kernel
theorem dL_law_807 : decode cL_law 807 = .ok (.iadd, 1) := by decide +kernel
theorem dL_law_808 : decode cL_law 808 = .ok (.iaload, 1) := by decide +kernel
theorem dL_law_809 : decode cL_law 809 = .ok (.invokevirtual 113, 3) := by decide +kernel
theorem dL_law_812 : decode cL_law 812 = .ok (.aload_n 2, 1) := by decide +kernel
theorem dL_law_813 : decode cL_law 813 = .ok (.aload_n 0, 1) := by decide +kernel
theorem dL_law_814 : decode cL_law 814 = .ok (.iload_n 3, 1) := by decide +kernel
theorem dL_law_815 : decode cL_law 815 = .ok (.iconst 1, 1) := by decide +kernel
theorem dL_law_816 : decode cL_law 816 = .ok (.iadd, 1) := by decide +kernel
theorem dL_law_817 : decode cL_law 817 = .ok (.iaload, 1) := by decide +kernel
theorem dL_law_818 : decode cL_law 818 = .ok (.aload_n 0, 1) := by decide +kernel
theorem dL_law_819 : decode cL_law 819 = .ok (.iload_n 3, 1) := by decide +kernel
theorem dL_law_820 : decode cL_law 820 = .ok (.iconst 2, 1) := by decide +kernel
theorem dL_law_821 : decode cL_law 821 = .ok (.iadd, 1) := by decide +kernel
theorem dL_law_822 : decode cL_law 822 = .ok (.iaload, 1) := by decide +kernel
theorem dL_law_823 : decode cL_law 823 = .ok (.invokevirtual 116, 3) := by decide +kernel
theorem dL_law_826 : decode cL_law 826 = .ok (.if_icmp .eq 88, 3) := by decide +kernel
theorem dL_law_829 : decode cL_law 829 = .ok (.iconst 0, 1) := by decide +kernel
theorem dL_law_830 : decode cL_law 830 = .ok (.ireturn, 1) := by decide +kernel
theorem dL_law_831 : decode cL_law 831 = .ok (.aload_n 1, 1) := by decide +kernel
theorem dL_law_832 : decode cL_law 832 = .ok (.aload_n 0, 1) := by decide +kernel
theorem dL_law_833 : decode cL_law 833 = .ok (.iload_n 3, 1) := by decide +kernel
theorem dL_law_834 : decode cL_law 834 = .ok (.iconst 1, 1) := by decide +kernel
theorem dL_law_835 : decode cL_law 835 = .ok (.iadd, 1) := by decide +kernel
theorem dL_law_836 : decode cL_law 836 = .ok (.iaload, 1) := by decide +kernel
theorem dL_law_837 : decode cL_law 837 = .ok (.invokevirtual 117, 3) := by decide +kernel
theorem dL_law_840 : decode cL_law 840 = .ok (.aload_n 2, 1) := by decide +kernel
theorem dL_law_841 : decode cL_law 841 = .ok (.aload_n 0, 1) := by decide +kernel
theorem dL_law_842 : decode cL_law 842 = .ok (.iload_n 3, 1) := by decide +kernel
theorem dL_law_843 : decode cL_law 843 = .ok (.iconst 1, 1) := by decide +kernel
theorem dL_law_844 : decode cL_law 844 = .ok (.iadd, 1) := by decide +kernel
theorem dL_law_845 : decode cL_law 845 = .ok (.iaload, 1) := by decide +kernel
theorem dL_law_846 : decode cL_law 846 = .ok (.invokevirtual 120, 3) := by decide +kernel
theorem dL_law_849 : decode cL_law 849 = .ok (.if_icmp .eq 65, 3) := by decide +kernel
theorem dL_law_852 : decode cL_law 852 = .ok (.iconst 0, 1) := by decide +kernel
theorem dL_law_853 : decode cL_law 853 = .ok (.ireturn, 1) := by decide +kernel
theorem dL_law_854 : decode cL_law 854 = .ok (.aload_n 1, 1) := by decide +kernel
theorem dL_law_855 : decode cL_law 855 = .ok (.aload_n 0, 1) := by decide +kernel
theorem dL_law_856 : decode cL_law 856 = .ok (.iload_n 3, 1) := by decide +kernel
theorem dL_law_857 : decode cL_law 857 = .ok (.iconst 1, 1) := by decide +kernel
theorem dL_law_858 : decode cL_law 858 = .ok (.iadd, 1) := by decide +kernel
theorem dL_law_859 : decode cL_law 859 = .ok (.iaload, 1) := by decide +kernel
theorem dL_law_860 : decode cL_law 860 = .ok (.invokevirtual 121, 3) := by decide +kernel
theorem dL_law_863 : decode cL_law 863 = .ok (.aload_n 2, 1) := by decide +kernel
theorem dL_law_864 : decode cL_law 864 = .ok (.aload_n 0, 1) := by decide +kernel
theorem dL_law_865 : decode cL_law 865 = .ok (.iload_n 3, 1) := by decide +kernel
theorem dL_law_866 : decode cL_law 866 = .ok (.iconst 1, 1) := by decide +kernel
theorem dL_law_867 : decode cL_law 867 = .ok (.iadd, 1) := by decide +kernel
theorem dL_law_868 : decode cL_law 868 = .ok (.iaload, 1) := by decide +kernel
theorem dL_law_869 : decode cL_law 869 = .ok (.invokevirtual 124, 3) := by decide +kernel
theorem dL_law_872 : decode cL_law 872 = .ok (.if_icmp .eq 42, 3) := by decide +kernel
theorem dL_law_875 : decode cL_law 875 = .ok (.iconst 0, 1) := by decide +kernel
theorem dL_law_876 : decode cL_law 876 = .ok (.ireturn, 1) := by decide +kernel
theorem dL_law_877 : decode cL_law 877 = .ok (.aload_n 1, 1) := by decide +kernel
theorem dL_law_878 : decode cL_law 878 = .ok (.aload_n 0, 1) := by decide +kernel
theorem dL_law_879 : decode cL_law 879 = .ok (.iload_n 3, 1) := by decide +kernel
theorem dL_law_880 : decode cL_law 880 = .ok (.iconst 1, 1) := by decide +kernel
theorem dL_law_881 : decode cL_law 881 = .ok (.iadd, 1) := by decide +kernel
theorem dL_law_882 : decode cL_law 882 = .ok (.iaload, 1) := by decide +kernel
theorem dL_law_883 : decode cL_law 883 = .ok (.invokevirtual 125, 3) := by decide +kernel
theorem dL_law_886 : decode cL_law 886 = .ok (.aload_n 2, 1) := by decide +kernel
theorem dL_law_887 : decode cL_law 887 = .ok (.aload_n 0, 1) := by decide +kernel
theorem dL_law_888 : decode cL_law 888 = .ok (.iload_n 3, 1) := by decide +kernel
theorem dL_law_889 : decode cL_law 889 = .ok (.iconst 1, 1) := by decide +kernel
theorem dL_law_890 : decode cL_law 890 = .ok (.iadd, 1) := by decide +kernel
theorem dL_law_891 : decode cL_law 891 = .ok (.iaload, 1) := by decide +kernel
theorem dL_law_892 : decode cL_law 892 = .ok (.invokevirtual 128, 3) := by decide +kernel
theorem dL_law_895 : decode cL_law 895 = .ok (.if_icmp .eq 19, 3) := by decide +kernel
theorem dL_law_898 : decode cL_law 898 = .ok (.iconst 0, 1) := by decide +kernel
theorem dL_law_899 : decode cL_law 899 = .ok (.ireturn, 1) := by decide +kernel
theorem dL_law_900 : decode cL_law 900 = .ok (.aload_n 1, 1) := by decide +kernel
theorem dL_law_901 : decode cL_law 901 = .ok (.invokevirtual 129, 3) := by decide +kernel
theorem dL_law_904 : decode cL_law 904 = .ok (.aload_n 2, 1) := by decide +kernel
theorem dL_law_905 : decode cL_law 905 = .ok (.invokevirtual 133, 3) := by decide +kernel
theorem dL_law_908 : decode cL_law 908 = .ok (.lcmp, 1) := by decide +kernel
theorem dL_law_909 : decode cL_law 909 = .ok (.ifCond .eq 5, 3) := by decide +kernel
theorem dL_law_912 : decode cL_law 912 = .ok (.iconst 0, 1) := by decide +kernel
theorem dL_law_913 : decode cL_law 913 = .ok (.ireturn, 1) := by decide +kernel
theorem dL_law_914 : decode cL_law 914 = .ok (.iinc 3 7, 3) := by decide +kernel
theorem dL_law_917 : decode cL_law 917 = .ok (.goto (-899), 3) := by decide +kernel
theorem dL_law_920 : decode cL_law 920 = .ok (.iconst 1, 1) := by decide +kernel
theorem dL_law_921 : decode cL_law 921 = .ok (.ireturn, 1) := by decide +kernel
end
section
def wsA : List Cond := lw_tbl.filter goodWord
theorem mem_A {w : Cond} (h : w ∈ lw_tbl) (g : goodWord w = true) : w ∈ wsA := List.mem_filter.mpr ⟨h, g⟩
theorem wsA_in {w : Cond} (h : w ∈ wsA) : w ∈ lw_tbl := (List.mem_filter.mp h).1
theorem u_all {C : String} {T : u_T} {N : Nat} {Ts : List Cond} (h : ∀ k, k < N → u_lay C T k ∈ Ts) : ∀ x ∈ u_ws C T N, x ∈ Ts := by
  intro x hx
  obtain ⟨k, hk, rfl⟩ := List.mem_map.mp hx
  exact h k (List.mem_range.mp hk)
theorem mw_0 : (.selects RX5 yX5_append yX5_append : Cond) ∈ wsA := mem_A (List.mem_of_getElem? (i := 0) (by decide +kernel)) rfl
theorem mw_1 : (.selects RX5 yX5_empty yX5_empty : Cond) ∈ wsA := mem_A (List.mem_of_getElem? (i := 1) (by decide +kernel)) rfl
theorem mw_2 : (.selects RX4 yX4_readAll yX4_readAll : Cond) ∈ wsA := mem_A (List.mem_of_getElem? (i := 2) (by decide +kernel)) rfl
theorem mw_3 : (.selects RX1 yX1_empty yX1_empty : Cond) ∈ wsA := mem_A (List.mem_of_getElem? (i := 3) (by decide +kernel)) rfl
theorem mw_4 : (.selects RX5 yX5_rewind yX5_rewind : Cond) ∈ wsA := mem_A (List.mem_of_getElem? (i := 4) (by decide +kernel)) rfl
theorem mw_5 : (.selects RX5 yX5_nextToken yX5_nextToken : Cond) ∈ wsA := mem_A (List.mem_of_getElem? (i := 5) (by decide +kernel)) rfl
theorem mw_6 : (.selects RX5 yX5_readWord yX5_readWord : Cond) ∈ wsA := mem_A (List.mem_of_getElem? (i := 6) (by decide +kernel)) rfl
theorem mw_7 : (.selects RX5 yX5_readNumber yX5_readNumber : Cond) ∈ wsA := mem_A (List.mem_of_getElem? (i := 7) (by decide +kernel)) rfl
theorem mw_8 : (.selects RX4 yX4_readItem yX4_readItem : Cond) ∈ wsA := mem_A (List.mem_of_getElem? (i := 8) (by decide +kernel)) rfl
theorem mw_9 : (.selects RX4 yX4_hasRoomFor yX4_hasRoomFor : Cond) ∈ wsA := mem_A (List.mem_of_getElem? (i := 9) (by decide +kernel)) rfl
theorem mw_10 : (.selects RX4 yX4_mayBe yX4_mayBe : Cond) ∈ wsA := mem_A (List.mem_of_getElem? (i := 10) (by decide +kernel)) rfl
theorem mw_11 : (.selects RX4 yX4_tell yX4_tell : Cond) ∈ wsA := mem_A (List.mem_of_getElem? (i := 11) (by decide +kernel)) rfl
theorem mw_12 : (.selects RX1 yX1_addCock yX1_addCock : Cond) ∈ wsA := mem_A (List.mem_of_getElem? (i := 12) (by decide +kernel)) rfl
theorem mw_13 : (.selects RX1 yX1_addOne yX1_addOne : Cond) ∈ wsA := mem_A (List.mem_of_getElem? (i := 13) (by decide +kernel)) rfl
theorem mw_14 : (.selects RX1 yX1_addSmoke yX1_addSmoke : Cond) ∈ wsA := mem_A (List.mem_of_getElem? (i := 14) (by decide +kernel)) rfl
theorem mw_15 : (.selects RX6 yX6_beginWith yX6_beginWith : Cond) ∈ wsA := mem_A (List.mem_of_getElem? (i := 15) (by decide +kernel)) rfl
theorem mw_16 : (.selects RX1 yX1_becomeAs yX1_becomeAs : Cond) ∈ wsA := mem_A (List.mem_of_getElem? (i := 16) (by decide +kernel)) rfl
theorem mw_17 : (.selects RX3 yX3_beginOver yX3_beginOver : Cond) ∈ wsA := mem_A (List.mem_of_getElem? (i := 17) (by decide +kernel)) rfl
theorem mw_18 : (.selects RX0 yX0_drop yX0_drop : Cond) ∈ wsA := mem_A (List.mem_of_getElem? (i := 18) (by decide +kernel)) rfl
theorem mw_19 : (.selects RX7 yX7_isCock yX7_isCock : Cond) ∈ wsA := mem_A (List.mem_of_getElem? (i := 19) (by decide +kernel)) rfl
theorem mw_20 : (.selects RX6 yX6_eyeOf yX6_eyeOf : Cond) ∈ wsA := mem_A (List.mem_of_getElem? (i := 20) (by decide +kernel)) rfl
theorem mw_21 : (.selects RX1 yX1_sideOf yX1_sideOf : Cond) ∈ wsA := mem_A (List.mem_of_getElem? (i := 21) (by decide +kernel)) rfl
theorem mw_22 : (.selects RX3 yX3_isAsked yX3_isAsked : Cond) ∈ wsA := mem_A (List.mem_of_getElem? (i := 22) (by decide +kernel)) rfl
theorem mw_23 : (.selects RX3 yX3_tellingOf yX3_tellingOf : Cond) ∈ wsA := mem_A (List.mem_of_getElem? (i := 23) (by decide +kernel)) rfl
theorem mw_24 : (.selects RX3 yX3_amountSeenBy yX3_amountSeenBy : Cond) ∈ wsA := mem_A (List.mem_of_getElem? (i := 24) (by decide +kernel)) rfl
theorem mw_25 : (.selects RX3 yX3_seenByAnyOf yX3_seenByAnyOf : Cond) ∈ wsA := mem_A (List.mem_of_getElem? (i := 25) (by decide +kernel)) rfl
theorem mw_26 : (.selects RX7 yX7_isOne yX7_isOne : Cond) ∈ wsA := mem_A (List.mem_of_getElem? (i := 26) (by decide +kernel)) rfl
theorem mw_27 : (.selects RX1 yX1_cellOf yX1_cellOf : Cond) ∈ wsA := mem_A (List.mem_of_getElem? (i := 27) (by decide +kernel)) rfl
theorem mw_28 : (.selects RX6 yX6_goBy yX6_goBy : Cond) ∈ wsA := mem_A (List.mem_of_getElem? (i := 28) (by decide +kernel)) rfl
theorem mw_29 : (.selects RX3 yX3_rememberHour yX3_rememberHour : Cond) ∈ wsA := mem_A (List.mem_of_getElem? (i := 29) (by decide +kernel)) rfl
theorem mw_30 : (.selects RX3 yX3_remember yX3_remember : Cond) ∈ wsA := mem_A (List.mem_of_getElem? (i := 30) (by decide +kernel)) rfl
theorem mw_31 : (.selects RX3 yX3_loseOldest yX3_loseOldest : Cond) ∈ wsA := mem_A (List.mem_of_getElem? (i := 31) (by decide +kernel)) rfl
theorem mw_32 : (.selects RX6 yX6_seeAllIn yX6_seeAllIn : Cond) ∈ wsA := mem_A (List.mem_of_getElem? (i := 32) (by decide +kernel)) rfl
theorem mw_33 : (.selects RX1 yX1_isSmoky yX1_isSmoky : Cond) ∈ wsA := mem_A (List.mem_of_getElem? (i := 33) (by decide +kernel)) rfl
theorem mw_34 : (.selects RX6 yX6_seeOne yX6_seeOne : Cond) ∈ wsA := mem_A (List.mem_of_getElem? (i := 34) (by decide +kernel)) rfl
theorem mw_35 : (.selects RX6 yX6_canSee yX6_canSee : Cond) ∈ wsA := mem_A (List.mem_of_getElem? (i := 35) (by decide +kernel)) rfl
theorem mw_36 : (.selects RX6 yX6_isLineFree yX6_isLineFree : Cond) ∈ wsA := mem_A (List.mem_of_getElem? (i := 36) (by decide +kernel)) rfl
theorem mw_37 : (.selects RX3 yX3_build yX3_build : Cond) ∈ wsA := mem_A (List.mem_of_getElem? (i := 37) (by decide +kernel)) rfl
theorem mw_38 : (.selects RX3 yX3_amountKnownWith yX3_amountKnownWith : Cond) ∈ wsA := mem_A (List.mem_of_getElem? (i := 38) (by decide +kernel)) rfl
theorem mw_39 : (.selects RX3 yX3_bringDown yX3_bringDown : Cond) ∈ wsA := mem_A (List.mem_of_getElem? (i := 39) (by decide +kernel)) rfl
theorem mw_40 : (.selects RX3 yX3_undoLatest yX3_undoLatest : Cond) ∈ wsA := mem_A (List.mem_of_getElem? (i := 40) (by decide +kernel)) rfl
theorem mw_41 : (.selects RX3 yX3_returnTo yX3_returnTo : Cond) ∈ wsA := mem_A (List.mem_of_getElem? (i := 41) (by decide +kernel)) rfl
theorem mw_42 : (.selects RX1 yX1_allCocks yX1_allCocks : Cond) ∈ wsA := mem_A (List.mem_of_getElem? (i := 42) (by decide +kernel)) rfl
theorem mw_43 : (.selects RX6 yX6_cover yX6_cover : Cond) ∈ wsA := mem_A (List.mem_of_getElem? (i := 43) (by decide +kernel)) rfl
theorem mw_44 : (.selects RX6 yX6_bestToAsk yX6_bestToAsk : Cond) ∈ wsA := mem_A (List.mem_of_getElem? (i := 44) (by decide +kernel)) rfl
theorem mw_45 : (.selects RX3 yX3_hoursToAsk yX3_hoursToAsk : Cond) ∈ wsA := mem_A (List.mem_of_getElem? (i := 45) (by decide +kernel)) rfl
theorem mw_46 : (.selects RX6 yX6_isBetter yX6_isBetter : Cond) ∈ wsA := mem_A (List.mem_of_getElem? (i := 46) (by decide +kernel)) rfl
theorem mw_47 : (.selects RX6 yX6_viewOf yX6_viewOf : Cond) ∈ wsA := mem_A (List.mem_of_getElem? (i := 47) (by decide +kernel)) rfl
theorem mw_48 : (.selects RX6 yX6_unseenIn yX6_unseenIn : Cond) ∈ wsA := mem_A (List.mem_of_getElem? (i := 48) (by decide +kernel)) rfl
theorem mw_49 : (.selects RX6 yX6_hoursInView yX6_hoursInView : Cond) ∈ wsA := mem_A (List.mem_of_getElem? (i := 49) (by decide +kernel)) rfl
theorem mw_50 : (.selects RX0 yX0_addFaced yX0_addFaced : Cond) ∈ wsA := mem_A (List.mem_of_getElem? (i := 50) (by decide +kernel)) rfl
theorem mw_51 : (.selects RX0 yX0_lawCount yX0_lawCount : Cond) ∈ wsA := mem_A (List.mem_of_getElem? (i := 51) (by decide +kernel)) rfl
theorem mw_52 : (.selects RX0 yX0_lawsFacing yX0_lawsFacing : Cond) ∈ wsA := mem_A (List.mem_of_getElem? (i := 52) (by decide +kernel)) rfl
theorem mw_53 : (.selects RX0 yX0_isLaw yX0_isLaw : Cond) ∈ wsA := mem_A (List.mem_of_getElem? (i := 53) (by decide +kernel)) rfl
theorem mw_54 : (.selects RX0 yX0_firstLaw yX0_firstLaw : Cond) ∈ wsA := mem_A (List.mem_of_getElem? (i := 54) (by decide +kernel)) rfl
theorem mw_55 : (.selects RX0 yX0_bestHourToTry yX0_bestHourToTry : Cond) ∈ wsA := mem_A (List.mem_of_getElem? (i := 55) (by decide +kernel)) rfl
theorem mw_56 : (.selects RX0 yX0_addMet yX0_addMet : Cond) ∈ wsA := mem_A (List.mem_of_getElem? (i := 56) (by decide +kernel)) rfl
theorem mw_57 : (.selects RX0 yX0_wayCount yX0_wayCount : Cond) ∈ wsA := mem_A (List.mem_of_getElem? (i := 57) (by decide +kernel)) rfl
theorem mw_58 : (.selects RX0 yX0_falsesOf yX0_falsesOf : Cond) ∈ wsA := mem_A (List.mem_of_getElem? (i := 58) (by decide +kernel)) rfl
theorem mw_59 : (.selects RX0 yX0_bestWay yX0_bestWay : Cond) ∈ wsA := mem_A (List.mem_of_getElem? (i := 59) (by decide +kernel)) rfl
theorem mw_60 : (.selects RX2 yX2_markAs yX2_markAs : Cond) ∈ wsA := mem_A (List.mem_of_getElem? (i := 60) (by decide +kernel)) rfl
theorem mw_61 : (.selects RX2 yX2_markAsCock yX2_markAsCock : Cond) ∈ wsA := mem_A (List.mem_of_getElem? (i := 61) (by decide +kernel)) rfl
theorem mw_62 : (.selects RX2 yX2_markAsGold yX2_markAsGold : Cond) ∈ wsA := mem_A (List.mem_of_getElem? (i := 62) (by decide +kernel)) rfl
theorem mw_63 : (.selects RX2 yX2_markAsIron yX2_markAsIron : Cond) ∈ wsA := mem_A (List.mem_of_getElem? (i := 63) (by decide +kernel)) rfl
theorem mw_64 : (.selects RX2 yX2_markAsDean yX2_markAsDean : Cond) ∈ wsA := mem_A (List.mem_of_getElem? (i := 64) (by decide +kernel)) rfl
theorem mw_65 : (.selects RX2 yX2_markAsBarn yX2_markAsBarn : Cond) ∈ wsA := mem_A (List.mem_of_getElem? (i := 65) (by decide +kernel)) rfl
theorem mw_66 : (.selects RX2 yX2_markAsZinc yX2_markAsZinc : Cond) ∈ wsA := mem_A (List.mem_of_getElem? (i := 66) (by decide +kernel)) rfl
theorem mw_67 : (.selects RX3 yX3_becomeAs yX3_becomeAs : Cond) ∈ wsA := mem_A (List.mem_of_getElem? (i := 67) (by decide +kernel)) rfl
theorem mw_68 : (.selects RX8 yX8_next yX8_next : Cond) ∈ wsA := mem_A (List.mem_of_getElem? (i := 68) (by decide +kernel)) rfl
theorem mw_69 : (.selects RX8 yX8_letterAt yX8_letterAt : Cond) ∈ wsA := mem_A (List.mem_of_getElem? (i := 69) (by decide +kernel)) rfl
theorem mw_70 : (.selects RX8 yX8_readItem yX8_readItem : Cond) ∈ wsA := mem_A (List.mem_of_getElem? (i := 70) (by decide +kernel)) rfl
theorem mw_71 : (.selects RX8 yX8_mayBegin yX8_mayBegin : Cond) ∈ wsA := mem_A (List.mem_of_getElem? (i := 71) (by decide +kernel)) rfl
theorem mw_72 : (.selects RX8 yX8_readBody yX8_readBody : Cond) ∈ wsA := mem_A (List.mem_of_getElem? (i := 72) (by decide +kernel)) rfl
theorem mw_73 : (.selects RX8 yX8_readRoof yX8_readRoof : Cond) ∈ wsA := mem_A (List.mem_of_getElem? (i := 73) (by decide +kernel)) rfl
theorem mw_74 : (.selects RX8 yX8_takesNumber yX8_takesNumber : Cond) ∈ wsA := mem_A (List.mem_of_getElem? (i := 74) (by decide +kernel)) rfl
theorem mw_75 : (.selects RX8 yX8_readCock yX8_readCock : Cond) ∈ wsA := mem_A (List.mem_of_getElem? (i := 75) (by decide +kernel)) rfl
theorem mw_76 : (.selects RX8 yX8_readOne yX8_readOne : Cond) ∈ wsA := mem_A (List.mem_of_getElem? (i := 76) (by decide +kernel)) rfl
theorem mw_77 : (.selects RX8 yX8_readSmoke yX8_readSmoke : Cond) ∈ wsA := mem_A (List.mem_of_getElem? (i := 77) (by decide +kernel)) rfl
theorem mw_78 : (.selects RX8 yX8_settles yX8_settles : Cond) ∈ wsA := mem_A (List.mem_of_getElem? (i := 78) (by decide +kernel)) rfl
theorem mw_79 : (.selects RX8 yX8_isCock yX8_isCock : Cond) ∈ wsA := mem_A (List.mem_of_getElem? (i := 79) (by decide +kernel)) rfl
theorem mw_80 : (.selects RX8 yX8_eye yX8_eye : Cond) ∈ wsA := mem_A (List.mem_of_getElem? (i := 80) (by decide +kernel)) rfl
theorem mw_81 : (.selects RX8 yX8_isAsked yX8_isAsked : Cond) ∈ wsA := mem_A (List.mem_of_getElem? (i := 81) (by decide +kernel)) rfl
theorem mw_82 : (.selects RX8 yX8_sawBy yX8_sawBy : Cond) ∈ wsA := mem_A (List.mem_of_getElem? (i := 82) (by decide +kernel)) rfl
theorem mw_83 : (.selects RX8 yX8_sawOf yX8_sawOf : Cond) ∈ wsA := mem_A (List.mem_of_getElem? (i := 83) (by decide +kernel)) rfl
theorem mw_84 : (.selects RX8 yX8_isOne yX8_isOne : Cond) ∈ wsA := mem_A (List.mem_of_getElem? (i := 84) (by decide +kernel)) rfl
theorem mw_85 : (.selects RX8 yX8_walks yX8_walks : Cond) ∈ wsA := mem_A (List.mem_of_getElem? (i := 85) (by decide +kernel)) rfl
theorem mw_86 : (.selects RX8 yX8_remembers yX8_remembers : Cond) ∈ wsA := mem_A (List.mem_of_getElem? (i := 86) (by decide +kernel)) rfl
theorem mw_87 : (.selects RX8 yX8_hourGoes yX8_hourGoes : Cond) ∈ wsA := mem_A (List.mem_of_getElem? (i := 87) (by decide +kernel)) rfl
theorem mw_88 : (.selects RX8 yX8_sees yX8_sees : Cond) ∈ wsA := mem_A (List.mem_of_getElem? (i := 88) (by decide +kernel)) rfl
theorem mw_89 : (.selects RX8 yX8_isClear yX8_isClear : Cond) ∈ wsA := mem_A (List.mem_of_getElem? (i := 89) (by decide +kernel)) rfl
theorem mw_90 : (.selects RX8 yX8_isSmoke yX8_isSmoke : Cond) ∈ wsA := mem_A (List.mem_of_getElem? (i := 90) (by decide +kernel)) rfl
theorem mw_91 : (.selects RX8 yX8_knownMuch yX8_knownMuch : Cond) ∈ wsA := mem_A (List.mem_of_getElem? (i := 91) (by decide +kernel)) rfl
theorem mw_92 : (.selects RX8 yX8_all yX8_all : Cond) ∈ wsA := mem_A (List.mem_of_getElem? (i := 92) (by decide +kernel)) rfl
theorem mw_93 : (.selects RX8 yX8_cover yX8_cover : Cond) ∈ wsA := mem_A (List.mem_of_getElem? (i := 93) (by decide +kernel)) rfl
theorem mw_94 : (.selects RX8 yX8_viewOf yX8_viewOf : Cond) ∈ wsA := mem_A (List.mem_of_getElem? (i := 94) (by decide +kernel)) rfl
theorem mw_95 : (.selects RX8 yX8_takes yX8_takes : Cond) ∈ wsA := mem_A (List.mem_of_getElem? (i := 95) (by decide +kernel)) rfl
theorem mw_96 : (.selects RX8 yX8_isLaw yX8_isLaw : Cond) ∈ wsA := mem_A (List.mem_of_getElem? (i := 96) (by decide +kernel)) rfl
theorem mw_97 : (.selects RX8 yX8_wrong yX8_wrong : Cond) ∈ wsA := mem_A (List.mem_of_getElem? (i := 97) (by decide +kernel)) rfl
theorem mw_99 : (.initialized RX7 : Cond) ∈ wsA := mem_A (List.mem_of_getElem? (i := 99) (by decide +kernel)) rfl
theorem mw_100 : (.initialized RX5 : Cond) ∈ wsA := mem_A (List.mem_of_getElem? (i := 100) (by decide +kernel)) rfl
theorem mw_101 : (.initialized RX4 : Cond) ∈ wsA := mem_A (List.mem_of_getElem? (i := 101) (by decide +kernel)) rfl
theorem mw_102 : (.initialized RX1 : Cond) ∈ wsA := mem_A (List.mem_of_getElem? (i := 102) (by decide +kernel)) rfl
theorem mw_103 : (.initialized RX6 : Cond) ∈ wsA := mem_A (List.mem_of_getElem? (i := 103) (by decide +kernel)) rfl
theorem mw_104 : (.initialized RX3 : Cond) ∈ wsA := mem_A (List.mem_of_getElem? (i := 104) (by decide +kernel)) rfl
theorem mw_105 : (.initialized RX0 : Cond) ∈ wsA := mem_A (List.mem_of_getElem? (i := 105) (by decide +kernel)) rfl
theorem mw_106 : (.initialized RX2 : Cond) ∈ wsA := mem_A (List.mem_of_getElem? (i := 106) (by decide +kernel)) rfl
theorem mw_107 : (.initialized RX8 : Cond) ∈ wsA := mem_A (List.mem_of_getElem? (i := 107) (by decide +kernel)) rfl
theorem mw_108 : (.initialized RJ7 : Cond) ∈ wsA := mem_A (List.mem_of_getElem? (i := 108) (by decide +kernel)) rfl
theorem mw_109 : (.initialized "java/lang/System" : Cond) ∈ wsA := mem_A (List.mem_of_getElem? (i := 109) (by decide +kernel)) rfl
theorem mw_110 : (.initialized "java/lang/Math" : Cond) ∈ wsA := mem_A (List.mem_of_getElem? (i := 110) (by decide +kernel)) rfl
theorem mw_111 : (.initialized RJ6 : Cond) ∈ wsA := mem_A (List.mem_of_getElem? (i := 111) (by decide +kernel)) rfl
theorem mw_112 : (.classLink RL 7 RX7 : Cond) ∈ wsA := mem_A (List.mem_of_getElem? (i := 112) (by decide +kernel)) rfl
theorem mw_113 : (.instantiable RX7 7 : Cond) ∈ wsA := mem_A (List.mem_of_getElem? (i := 113) (by decide +kernel)) rfl
theorem mw_114 : (.methodLink RL 9 yX7_init : Cond) ∈ wsA := mem_A (List.mem_of_getElem? (i := 114) (by decide +kernel)) rfl
theorem mw_115 : (.instanceMethod yX7_init : Cond) ∈ wsA := mem_A (List.mem_of_getElem? (i := 115) (by decide +kernel)) rfl
theorem mw_116 : (.code yX7_init cX7_init 1 none : Cond) ∈ wsA := mem_A (List.mem_of_getElem? (i := 116) (by decide +kernel)) rfl
theorem mw_117 : (.methodLink RX7 1 objectInit : Cond) ∈ wsA := mem_A (List.mem_of_getElem? (i := 117) (by decide +kernel)) rfl
theorem mw_118 : (.instanceMethod objectInit : Cond) ∈ wsA := mem_A (List.mem_of_getElem? (i := 118) (by decide +kernel)) rfl
theorem mw_119 : (.code objectInit ⟨#[0xb1]⟩ 1 none : Cond) ∈ wsA := mem_A (List.mem_of_getElem? (i := 119) (by decide +kernel)) rfl
theorem mw_120 : (.classLink RX7 7 RX5 : Cond) ∈ wsA := mem_A (List.mem_of_getElem? (i := 120) (by decide +kernel)) rfl
theorem mw_121 : (.instantiable RX5 5 : Cond) ∈ wsA := mem_A (List.mem_of_getElem? (i := 121) (by decide +kernel)) rfl
theorem mw_123 : (.instanceMethod yX5_init : Cond) ∈ wsA := mem_A (List.mem_of_getElem? (i := 123) (by decide +kernel)) rfl
theorem mw_124 : (.code yX5_init cX5_init 1 none : Cond) ∈ wsA := mem_A (List.mem_of_getElem? (i := 124) (by decide +kernel)) rfl
theorem mw_125 : (.methodLink RX5 1 objectInit : Cond) ∈ wsA := mem_A (List.mem_of_getElem? (i := 125) (by decide +kernel)) rfl
theorem mw_126 : (.fieldLink RX5 9 "AskedCocks$Script" "bytes" "[I" : Cond) ∈ wsA := mem_A (List.mem_of_getElem? (i := 126) (by decide +kernel)) rfl
theorem mw_127 : (.fieldLink RX5 13 "AskedCocks$Script" "length" "I" : Cond) ∈ wsA := mem_A (List.mem_of_getElem? (i := 127) (by decide +kernel)) rfl
theorem mw_129 : (.fieldLink RX5 17 "AskedCocks$Script" "at" "I" : Cond) ∈ wsA := mem_A (List.mem_of_getElem? (i := 129) (by decide +kernel)) rfl
theorem mw_131 : (.fieldLink RX5 20 "AskedCocks$Script" "tokenStart" "I" : Cond) ∈ wsA := mem_A (List.mem_of_getElem? (i := 131) (by decide +kernel)) rfl
theorem mw_133 : (.fieldLink RX5 23 "AskedCocks$Script" "tokenValue" "I" : Cond) ∈ wsA := mem_A (List.mem_of_getElem? (i := 133) (by decide +kernel)) rfl
theorem mw_145 : (.arrayClass .int : Cond) ∈ wsA := mem_A (List.mem_of_getElem? (i := 145) (by decide +kernel)) rfl
theorem mw_146 : (.classLink RX7 16 RX4 : Cond) ∈ wsA := mem_A (List.mem_of_getElem? (i := 146) (by decide +kernel)) rfl
theorem mw_147 : (.instantiable RX4 2 : Cond) ∈ wsA := mem_A (List.mem_of_getElem? (i := 147) (by decide +kernel)) rfl
theorem mw_149 : (.instanceMethod yX4_init : Cond) ∈ wsA := mem_A (List.mem_of_getElem? (i := 149) (by decide +kernel)) rfl
theorem mw_150 : (.code yX4_init cX4_init 1 none : Cond) ∈ wsA := mem_A (List.mem_of_getElem? (i := 150) (by decide +kernel)) rfl
theorem mw_151 : (.methodLink RX4 3 objectInit : Cond) ∈ wsA := mem_A (List.mem_of_getElem? (i := 151) (by decide +kernel)) rfl
theorem mw_152 : (.classLink RX4 9 RX1 : Cond) ∈ wsA := mem_A (List.mem_of_getElem? (i := 152) (by decide +kernel)) rfl
theorem mw_153 : (.instantiable RX1 7 : Cond) ∈ wsA := mem_A (List.mem_of_getElem? (i := 153) (by decide +kernel)) rfl
theorem mw_155 : (.instanceMethod yX1_init : Cond) ∈ wsA := mem_A (List.mem_of_getElem? (i := 155) (by decide +kernel)) rfl
theorem mw_156 : (.code yX1_init cX1_init 1 none : Cond) ∈ wsA := mem_A (List.mem_of_getElem? (i := 156) (by decide +kernel)) rfl
theorem mw_157 : (.methodLink RX1 3 objectInit : Cond) ∈ wsA := mem_A (List.mem_of_getElem? (i := 157) (by decide +kernel)) rfl
theorem mw_158 : (.classLink RX1 15 "[[I" : Cond) ∈ wsA := mem_A (List.mem_of_getElem? (i := 158) (by decide +kernel)) rfl
theorem mw_160 : (.fieldLink RX1 9 "AskedCocks$Diocese" "roofs" "[I" : Cond) ∈ wsA := mem_A (List.mem_of_getElem? (i := 160) (by decide +kernel)) rfl
theorem mw_163 : (.fieldLink RX1 17 "AskedCocks$Diocese" "cocks" "[[I" : Cond) ∈ wsA := mem_A (List.mem_of_getElem? (i := 163) (by decide +kernel)) rfl
theorem mw_167 : (.fieldLink RX1 20 "AskedCocks$Diocese" "people" "[[I" : Cond) ∈ wsA := mem_A (List.mem_of_getElem? (i := 167) (by decide +kernel)) rfl
theorem mw_169 : (.fieldLink RX1 23 "AskedCocks$Diocese" "smokes" "[[I" : Cond) ∈ wsA := mem_A (List.mem_of_getElem? (i := 169) (by decide +kernel)) rfl
theorem mw_170 : (.fieldLink RX1 32 "AskedCocks$Diocese" "cockCount" "I" : Cond) ∈ wsA := mem_A (List.mem_of_getElem? (i := 170) (by decide +kernel)) rfl
theorem mw_174 : (.fieldLink RX1 36 "AskedCocks$Diocese" "peopleCount" "I" : Cond) ∈ wsA := mem_A (List.mem_of_getElem? (i := 174) (by decide +kernel)) rfl
theorem mw_178 : (.fieldLink RX1 39 "AskedCocks$Diocese" "smokeCount" "I" : Cond) ∈ wsA := mem_A (List.mem_of_getElem? (i := 178) (by decide +kernel)) rfl
theorem mw_196 : (.fieldLink RX4 12 "AskedCocks$Reader" "draft" "LAskedCocks$Diocese;" : Cond) ∈ wsA := mem_A (List.mem_of_getElem? (i := 196) (by decide +kernel)) rfl
theorem mw_198 : (.fieldLink RX4 18 "AskedCocks$Reader" "numbers" "[I" : Cond) ∈ wsA := mem_A (List.mem_of_getElem? (i := 198) (by decide +kernel)) rfl
theorem mw_204 : (.classLink RX7 23 RX6 : Cond) ∈ wsA := mem_A (List.mem_of_getElem? (i := 204) (by decide +kernel)) rfl
theorem mw_205 : (.instantiable RX6 2 : Cond) ∈ wsA := mem_A (List.mem_of_getElem? (i := 205) (by decide +kernel)) rfl
theorem mw_207 : (.instanceMethod yX6_init : Cond) ∈ wsA := mem_A (List.mem_of_getElem? (i := 207) (by decide +kernel)) rfl
theorem mw_208 : (.code yX6_init cX6_init 1 none : Cond) ∈ wsA := mem_A (List.mem_of_getElem? (i := 208) (by decide +kernel)) rfl
theorem mw_209 : (.methodLink RX6 3 objectInit : Cond) ∈ wsA := mem_A (List.mem_of_getElem? (i := 209) (by decide +kernel)) rfl
theorem mw_210 : (.classLink RX6 9 RX1 : Cond) ∈ wsA := mem_A (List.mem_of_getElem? (i := 210) (by decide +kernel)) rfl
theorem mw_212 : (.classLink RX6 18 RX3 : Cond) ∈ wsA := mem_A (List.mem_of_getElem? (i := 212) (by decide +kernel)) rfl
theorem mw_213 : (.instantiable RX3 8 : Cond) ∈ wsA := mem_A (List.mem_of_getElem? (i := 213) (by decide +kernel)) rfl
theorem mw_215 : (.instanceMethod yX3_init : Cond) ∈ wsA := mem_A (List.mem_of_getElem? (i := 215) (by decide +kernel)) rfl
theorem mw_216 : (.code yX3_init cX3_init 1 none : Cond) ∈ wsA := mem_A (List.mem_of_getElem? (i := 216) (by decide +kernel)) rfl
theorem mw_217 : (.methodLink RX3 3 objectInit : Cond) ∈ wsA := mem_A (List.mem_of_getElem? (i := 217) (by decide +kernel)) rfl
theorem mw_218 : (.classLink RX3 15 "[[I" : Cond) ∈ wsA := mem_A (List.mem_of_getElem? (i := 218) (by decide +kernel)) rfl
theorem mw_219 : (.fieldLink RX3 29 "AskedCocks$Present" "hour" "I" : Cond) ∈ wsA := mem_A (List.mem_of_getElem? (i := 219) (by decide +kernel)) rfl
theorem mw_223 : (.fieldLink RX3 33 "AskedCocks$Present" "asked" "I" : Cond) ∈ wsA := mem_A (List.mem_of_getElem? (i := 223) (by decide +kernel)) rfl
theorem mw_226 : (.fieldLink RX3 9 "AskedCocks$Present" "roofs" "[I" : Cond) ∈ wsA := mem_A (List.mem_of_getElem? (i := 226) (by decide +kernel)) rfl
theorem mw_229 : (.fieldLink RX3 17 "AskedCocks$Present" "seen" "[[I" : Cond) ∈ wsA := mem_A (List.mem_of_getElem? (i := 229) (by decide +kernel)) rfl
theorem mw_232 : (.fieldLink RX3 20 "AskedCocks$Present" "deedSorts" "[I" : Cond) ∈ wsA := mem_A (List.mem_of_getElem? (i := 232) (by decide +kernel)) rfl
theorem mw_233 : (.fieldLink RX3 23 "AskedCocks$Present" "deedNumbers" "[I" : Cond) ∈ wsA := mem_A (List.mem_of_getElem? (i := 233) (by decide +kernel)) rfl
theorem mw_234 : (.fieldLink RX3 26 "AskedCocks$Present" "deedRoofs" "[I" : Cond) ∈ wsA := mem_A (List.mem_of_getElem? (i := 234) (by decide +kernel)) rfl
theorem mw_235 : (.fieldLink RX3 36 "AskedCocks$Present" "deeds" "I" : Cond) ∈ wsA := mem_A (List.mem_of_getElem? (i := 235) (by decide +kernel)) rfl
theorem mw_254 : (.fieldLink RX6 12 "AskedCocks$Watch" "told" "LAskedCocks$Diocese;" : Cond) ∈ wsA := mem_A (List.mem_of_getElem? (i := 254) (by decide +kernel)) rfl
theorem mw_257 : (.fieldLink RX6 21 "AskedCocks$Watch" "present" "LAskedCocks$Present;" : Cond) ∈ wsA := mem_A (List.mem_of_getElem? (i := 257) (by decide +kernel)) rfl
theorem mw_265 : (.classLink RX7 30 RX0 : Cond) ∈ wsA := mem_A (List.mem_of_getElem? (i := 265) (by decide +kernel)) rfl
theorem mw_266 : (.instantiable RX0 6 : Cond) ∈ wsA := mem_A (List.mem_of_getElem? (i := 266) (by decide +kernel)) rfl
theorem mw_268 : (.instanceMethod yX0_init : Cond) ∈ wsA := mem_A (List.mem_of_getElem? (i := 268) (by decide +kernel)) rfl
theorem mw_269 : (.code yX0_init cX0_init 1 none : Cond) ∈ wsA := mem_A (List.mem_of_getElem? (i := 269) (by decide +kernel)) rfl
theorem mw_270 : (.methodLink RX0 3 objectInit : Cond) ∈ wsA := mem_A (List.mem_of_getElem? (i := 270) (by decide +kernel)) rfl
theorem mw_271 : (.fieldLink RX0 11 "AskedCocks$Clues" "facedHours" "[I" : Cond) ∈ wsA := mem_A (List.mem_of_getElem? (i := 271) (by decide +kernel)) rfl
theorem mw_272 : (.fieldLink RX0 15 "AskedCocks$Clues" "facedSides" "[I" : Cond) ∈ wsA := mem_A (List.mem_of_getElem? (i := 272) (by decide +kernel)) rfl
theorem mw_273 : (.fieldLink RX0 24 "AskedCocks$Clues" "facedCount" "I" : Cond) ∈ wsA := mem_A (List.mem_of_getElem? (i := 273) (by decide +kernel)) rfl
theorem mw_275 : (.fieldLink RX0 18 "AskedCocks$Clues" "metCells" "[I" : Cond) ∈ wsA := mem_A (List.mem_of_getElem? (i := 275) (by decide +kernel)) rfl
theorem mw_276 : (.fieldLink RX0 21 "AskedCocks$Clues" "metHours" "[I" : Cond) ∈ wsA := mem_A (List.mem_of_getElem? (i := 276) (by decide +kernel)) rfl
theorem mw_277 : (.fieldLink RX0 28 "AskedCocks$Clues" "metCount" "I" : Cond) ∈ wsA := mem_A (List.mem_of_getElem? (i := 277) (by decide +kernel)) rfl
theorem mw_292 : (.classLink RX7 37 RX2 : Cond) ∈ wsA := mem_A (List.mem_of_getElem? (i := 292) (by decide +kernel)) rfl
theorem mw_293 : (.instantiable RX2 1 : Cond) ∈ wsA := mem_A (List.mem_of_getElem? (i := 293) (by decide +kernel)) rfl
theorem mw_295 : (.instanceMethod yX2_init : Cond) ∈ wsA := mem_A (List.mem_of_getElem? (i := 295) (by decide +kernel)) rfl
theorem mw_296 : (.code yX2_init cX2_init 1 none : Cond) ∈ wsA := mem_A (List.mem_of_getElem? (i := 296) (by decide +kernel)) rfl
theorem mw_297 : (.methodLink RX2 3 objectInit : Cond) ∈ wsA := mem_A (List.mem_of_getElem? (i := 297) (by decide +kernel)) rfl
theorem mw_298 : (.fieldLink RX2 31 "AskedCocks$Kinds" "trace" "J" : Cond) ∈ wsA := mem_A (List.mem_of_getElem? (i := 298) (by decide +kernel)) rfl
theorem mw_303 : (.classLink RX7 44 RX3 : Cond) ∈ wsA := mem_A (List.mem_of_getElem? (i := 303) (by decide +kernel)) rfl
theorem mw_306 : (.fieldLink RX7 10 "AskedCocks" "script" "LAskedCocks$Script;" : Cond) ∈ wsA := mem_A (List.mem_of_getElem? (i := 306) (by decide +kernel)) rfl
theorem mw_307 : (.fieldLink RX7 19 "AskedCocks" "reader" "LAskedCocks$Reader;" : Cond) ∈ wsA := mem_A (List.mem_of_getElem? (i := 307) (by decide +kernel)) rfl
theorem mw_308 : (.fieldLink RX7 26 "AskedCocks" "watch" "LAskedCocks$Watch;" : Cond) ∈ wsA := mem_A (List.mem_of_getElem? (i := 308) (by decide +kernel)) rfl
theorem mw_309 : (.fieldLink RX7 33 "AskedCocks" "clues" "LAskedCocks$Clues;" : Cond) ∈ wsA := mem_A (List.mem_of_getElem? (i := 309) (by decide +kernel)) rfl
theorem mw_310 : (.fieldLink RX7 40 "AskedCocks" "kinds" "LAskedCocks$Kinds;" : Cond) ∈ wsA := mem_A (List.mem_of_getElem? (i := 310) (by decide +kernel)) rfl
theorem mw_311 : (.fieldLink RX7 47 "AskedCocks" "images" "[LAskedCocks$Present;" : Cond) ∈ wsA := mem_A (List.mem_of_getElem? (i := 311) (by decide +kernel)) rfl
theorem mw_312 : (.fieldLink RX7 81 "AskedCocks" "imagesKept" "I" : Cond) ∈ wsA := mem_A (List.mem_of_getElem? (i := 312) (by decide +kernel)) rfl
theorem mw_328 : (.methodLink RL 13 yX7_type : Cond) ∈ wsA := mem_A (List.mem_of_getElem? (i := 328) (by decide +kernel)) rfl
theorem mw_329 : (.instanceMethod yX7_type : Cond) ∈ wsA := mem_A (List.mem_of_getElem? (i := 329) (by decide +kernel)) rfl
theorem mw_330 : (.selects RX7 yX7_type yX7_type : Cond) ∈ wsA := mem_A (List.mem_of_getElem? (i := 330) (by decide +kernel)) rfl
theorem mw_331 : (.code yX7_type cX7_type 2 (some .int) : Cond) ∈ wsA := mem_A (List.mem_of_getElem? (i := 331) (by decide +kernel)) rfl
theorem mw_332 : (.methodLink RX7 51 yX7_isWithin : Cond) ∈ wsA := mem_A (List.mem_of_getElem? (i := 332) (by decide +kernel)) rfl
theorem mw_333 : (.static yX7_isWithin : Cond) ∈ wsA := mem_A (List.mem_of_getElem? (i := 333) (by decide +kernel)) rfl
theorem mw_334 : (.code yX7_isWithin cX7_isWithin 3 (some .boolean) : Cond) ∈ wsA := mem_A (List.mem_of_getElem? (i := 334) (by decide +kernel)) rfl
theorem mw_337 : (.instanceMethod yX5_append : Cond) ∈ wsA := mem_A (List.mem_of_getElem? (i := 337) (by decide +kernel)) rfl
theorem mw_338 : (.code yX5_append cX5_append 2 (some .boolean) : Cond) ∈ wsA := mem_A (List.mem_of_getElem? (i := 338) (by decide +kernel)) rfl
theorem mw_339 : (.methodLink RL 18 yX7_clear : Cond) ∈ wsA := mem_A (List.mem_of_getElem? (i := 339) (by decide +kernel)) rfl
theorem mw_340 : (.instanceMethod yX7_clear : Cond) ∈ wsA := mem_A (List.mem_of_getElem? (i := 340) (by decide +kernel)) rfl
theorem mw_341 : (.selects RX7 yX7_clear yX7_clear : Cond) ∈ wsA := mem_A (List.mem_of_getElem? (i := 341) (by decide +kernel)) rfl
theorem mw_342 : (.code yX7_clear cX7_clear 2 (some .int) : Cond) ∈ wsA := mem_A (List.mem_of_getElem? (i := 342) (by decide +kernel)) rfl
theorem mw_345 : (.instanceMethod yX5_empty : Cond) ∈ wsA := mem_A (List.mem_of_getElem? (i := 345) (by decide +kernel)) rfl
theorem mw_346 : (.code yX5_empty cX5_empty 1 none : Cond) ∈ wsA := mem_A (List.mem_of_getElem? (i := 346) (by decide +kernel)) rfl
theorem mw_347 : (.methodLink RL 23 yX7_diocese : Cond) ∈ wsA := mem_A (List.mem_of_getElem? (i := 347) (by decide +kernel)) rfl
theorem mw_348 : (.instanceMethod yX7_diocese : Cond) ∈ wsA := mem_A (List.mem_of_getElem? (i := 348) (by decide +kernel)) rfl
theorem mw_349 : (.selects RX7 yX7_diocese yX7_diocese : Cond) ∈ wsA := mem_A (List.mem_of_getElem? (i := 349) (by decide +kernel)) rfl
theorem mw_350 : (.code yX7_diocese cX7_diocese 2 (some .int) : Cond) ∈ wsA := mem_A (List.mem_of_getElem? (i := 350) (by decide +kernel)) rfl
theorem mw_353 : (.instanceMethod yX4_readAll : Cond) ∈ wsA := mem_A (List.mem_of_getElem? (i := 353) (by decide +kernel)) rfl
theorem mw_354 : (.code yX4_readAll cX4_readAll 4 (some .int) : Cond) ∈ wsA := mem_A (List.mem_of_getElem? (i := 354) (by decide +kernel)) rfl
theorem mw_357 : (.instanceMethod yX1_empty : Cond) ∈ wsA := mem_A (List.mem_of_getElem? (i := 357) (by decide +kernel)) rfl
theorem mw_358 : (.code yX1_empty cX1_empty 1 none : Cond) ∈ wsA := mem_A (List.mem_of_getElem? (i := 358) (by decide +kernel)) rfl
theorem mw_359 : (.methodLink RX1 26 yJ7_fill_53178 : Cond) ∈ wsA := mem_A (List.mem_of_getElem? (i := 359) (by decide +kernel)) rfl
theorem mw_360 : (.static yJ7_fill_53178 : Cond) ∈ wsA := mem_A (List.mem_of_getElem? (i := 360) (by decide +kernel)) rfl
theorem mw_361 : (.code yJ7_fill_53178 cJ7_fill_53178 4 none : Cond) ∈ wsA := mem_A (List.mem_of_getElem? (i := 361) (by decide +kernel)) rfl
theorem mw_364 : (.instanceMethod yX5_rewind : Cond) ∈ wsA := mem_A (List.mem_of_getElem? (i := 364) (by decide +kernel)) rfl
theorem mw_365 : (.code yX5_rewind cX5_rewind 1 none : Cond) ∈ wsA := mem_A (List.mem_of_getElem? (i := 365) (by decide +kernel)) rfl
theorem mw_368 : (.instanceMethod yX5_nextToken : Cond) ∈ wsA := mem_A (List.mem_of_getElem? (i := 368) (by decide +kernel)) rfl
theorem mw_369 : (.code yX5_nextToken cX5_nextToken 2 (some .int) : Cond) ∈ wsA := mem_A (List.mem_of_getElem? (i := 369) (by decide +kernel)) rfl
theorem mw_370 : (.methodLink RX5 26 yX5_isLetter : Cond) ∈ wsA := mem_A (List.mem_of_getElem? (i := 370) (by decide +kernel)) rfl
theorem mw_371 : (.static yX5_isLetter : Cond) ∈ wsA := mem_A (List.mem_of_getElem? (i := 371) (by decide +kernel)) rfl
theorem mw_372 : (.code yX5_isLetter cX5_isLetter 1 (some .boolean) : Cond) ∈ wsA := mem_A (List.mem_of_getElem? (i := 372) (by decide +kernel)) rfl
theorem mw_373 : (.methodLink RX5 30 yX5_readWord : Cond) ∈ wsA := mem_A (List.mem_of_getElem? (i := 373) (by decide +kernel)) rfl
theorem mw_375 : (.instanceMethod yX5_readWord : Cond) ∈ wsA := mem_A (List.mem_of_getElem? (i := 375) (by decide +kernel)) rfl
theorem mw_376 : (.code yX5_readWord cX5_readWord 2 (some .int) : Cond) ∈ wsA := mem_A (List.mem_of_getElem? (i := 376) (by decide +kernel)) rfl
theorem mw_377 : (.methodLink RX5 34 yX5_isDigit : Cond) ∈ wsA := mem_A (List.mem_of_getElem? (i := 377) (by decide +kernel)) rfl
theorem mw_378 : (.static yX5_isDigit : Cond) ∈ wsA := mem_A (List.mem_of_getElem? (i := 378) (by decide +kernel)) rfl
theorem mw_379 : (.code yX5_isDigit cX5_isDigit 1 (some .boolean) : Cond) ∈ wsA := mem_A (List.mem_of_getElem? (i := 379) (by decide +kernel)) rfl
theorem mw_380 : (.methodLink RX5 37 yX5_readNumber : Cond) ∈ wsA := mem_A (List.mem_of_getElem? (i := 380) (by decide +kernel)) rfl
theorem mw_382 : (.instanceMethod yX5_readNumber : Cond) ∈ wsA := mem_A (List.mem_of_getElem? (i := 382) (by decide +kernel)) rfl
theorem mw_383 : (.code yX5_readNumber cX5_readNumber 2 (some .int) : Cond) ∈ wsA := mem_A (List.mem_of_getElem? (i := 383) (by decide +kernel)) rfl
theorem mw_384 : (.methodLink RX4 34 yX4_readItem : Cond) ∈ wsA := mem_A (List.mem_of_getElem? (i := 384) (by decide +kernel)) rfl
theorem mw_386 : (.instanceMethod yX4_readItem : Cond) ∈ wsA := mem_A (List.mem_of_getElem? (i := 386) (by decide +kernel)) rfl
theorem mw_387 : (.code yX4_readItem cX4_readItem 4 (some .boolean) : Cond) ∈ wsA := mem_A (List.mem_of_getElem? (i := 387) (by decide +kernel)) rfl
theorem mw_388 : (.methodLink RX4 45 yX4_itemOf : Cond) ∈ wsA := mem_A (List.mem_of_getElem? (i := 388) (by decide +kernel)) rfl
theorem mw_389 : (.static yX4_itemOf : Cond) ∈ wsA := mem_A (List.mem_of_getElem? (i := 389) (by decide +kernel)) rfl
theorem mw_390 : (.code yX4_itemOf cX4_itemOf 2 (some .int) : Cond) ∈ wsA := mem_A (List.mem_of_getElem? (i := 390) (by decide +kernel)) rfl
theorem mw_391 : (.fieldLink RX4 64 "AskedCocks$Reader" "LETTERS" "[C" : Cond) ∈ wsA := mem_A (List.mem_of_getElem? (i := 391) (by decide +kernel)) rfl
theorem mw_393 : (.methodLink RX4 49 yX4_hasRoomFor : Cond) ∈ wsA := mem_A (List.mem_of_getElem? (i := 393) (by decide +kernel)) rfl
theorem mw_395 : (.instanceMethod yX4_hasRoomFor : Cond) ∈ wsA := mem_A (List.mem_of_getElem? (i := 395) (by decide +kernel)) rfl
theorem mw_396 : (.code yX4_hasRoomFor cX4_hasRoomFor 2 (some .boolean) : Cond) ∈ wsA := mem_A (List.mem_of_getElem? (i := 396) (by decide +kernel)) rfl
theorem mw_397 : (.fieldLink RX4 53 "AskedCocks$Reader" "NUMBERS" "[I" : Cond) ∈ wsA := mem_A (List.mem_of_getElem? (i := 397) (by decide +kernel)) rfl
theorem mw_399 : (.methodLink RX4 56 yX4_mayBe : Cond) ∈ wsA := mem_A (List.mem_of_getElem? (i := 399) (by decide +kernel)) rfl
theorem mw_401 : (.instanceMethod yX4_mayBe : Cond) ∈ wsA := mem_A (List.mem_of_getElem? (i := 401) (by decide +kernel)) rfl
theorem mw_402 : (.code yX4_mayBe cX4_mayBe 4 (some .boolean) : Cond) ∈ wsA := mem_A (List.mem_of_getElem? (i := 402) (by decide +kernel)) rfl
theorem mw_403 : (.fieldLink RX4 77 "AskedCocks$Reader" "LOWEST" "[I" : Cond) ∈ wsA := mem_A (List.mem_of_getElem? (i := 403) (by decide +kernel)) rfl
theorem mw_405 : (.fieldLink RX4 80 "AskedCocks$Reader" "HIGHEST" "[I" : Cond) ∈ wsA := mem_A (List.mem_of_getElem? (i := 405) (by decide +kernel)) rfl
theorem mw_408 : (.methodLink RX4 60 yX4_tell : Cond) ∈ wsA := mem_A (List.mem_of_getElem? (i := 408) (by decide +kernel)) rfl
theorem mw_410 : (.instanceMethod yX4_tell : Cond) ∈ wsA := mem_A (List.mem_of_getElem? (i := 410) (by decide +kernel)) rfl
theorem mw_411 : (.code yX4_tell cX4_tell 2 none : Cond) ∈ wsA := mem_A (List.mem_of_getElem? (i := 411) (by decide +kernel)) rfl
theorem mw_414 : (.instanceMethod yX1_addCock : Cond) ∈ wsA := mem_A (List.mem_of_getElem? (i := 414) (by decide +kernel)) rfl
theorem mw_415 : (.code yX1_addCock cX1_addCock 2 none : Cond) ∈ wsA := mem_A (List.mem_of_getElem? (i := 415) (by decide +kernel)) rfl
theorem mw_416 : (.methodLink RX1 42 arraycopyName : Cond) ∈ wsA := mem_A (List.mem_of_getElem? (i := 416) (by decide +kernel)) rfl
theorem mw_417 : (.static arraycopyName : Cond) ∈ wsA := mem_A (List.mem_of_getElem? (i := 417) (by decide +kernel)) rfl
theorem mw_418 : (.native arraycopyName : Cond) ∈ wsA := mem_A (List.mem_of_getElem? (i := 418) (by decide +kernel)) rfl
theorem mw_421 : (.instanceMethod yX1_addOne : Cond) ∈ wsA := mem_A (List.mem_of_getElem? (i := 421) (by decide +kernel)) rfl
theorem mw_422 : (.code yX1_addOne cX1_addOne 2 none : Cond) ∈ wsA := mem_A (List.mem_of_getElem? (i := 422) (by decide +kernel)) rfl
theorem mw_425 : (.instanceMethod yX1_addSmoke : Cond) ∈ wsA := mem_A (List.mem_of_getElem? (i := 425) (by decide +kernel)) rfl
theorem mw_426 : (.code yX1_addSmoke cX1_addSmoke 2 none : Cond) ∈ wsA := mem_A (List.mem_of_getElem? (i := 426) (by decide +kernel)) rfl
theorem mw_429 : (.instanceMethod yX6_beginWith : Cond) ∈ wsA := mem_A (List.mem_of_getElem? (i := 429) (by decide +kernel)) rfl
theorem mw_430 : (.code yX6_beginWith cX6_beginWith 2 none : Cond) ∈ wsA := mem_A (List.mem_of_getElem? (i := 430) (by decide +kernel)) rfl
theorem mw_433 : (.instanceMethod yX1_becomeAs : Cond) ∈ wsA := mem_A (List.mem_of_getElem? (i := 433) (by decide +kernel)) rfl
theorem mw_434 : (.code yX1_becomeAs cX1_becomeAs 2 none : Cond) ∈ wsA := mem_A (List.mem_of_getElem? (i := 434) (by decide +kernel)) rfl
theorem mw_436 : (.static yX7_copyRows : Cond) ∈ wsA := mem_A (List.mem_of_getElem? (i := 436) (by decide +kernel)) rfl
theorem mw_437 : (.code yX7_copyRows cX7_copyRows 3 none : Cond) ∈ wsA := mem_A (List.mem_of_getElem? (i := 437) (by decide +kernel)) rfl
theorem mw_438 : (.methodLink RX7 250 Lib.Math.min.name : Cond) ∈ wsA := mem_A (List.mem_of_getElem? (i := 438) (by decide +kernel)) rfl
theorem mw_439 : (.static Lib.Math.min.name : Cond) ∈ wsA := mem_A (List.mem_of_getElem? (i := 439) (by decide +kernel)) rfl
theorem mw_440 : (.code Lib.Math.min.name Lib.Math.min.code 2 (some .int) : Cond) ∈ wsA := mem_A (List.mem_of_getElem? (i := 440) (by decide +kernel)) rfl
theorem mw_441 : (.methodLink RX7 255 arraycopyName : Cond) ∈ wsA := mem_A (List.mem_of_getElem? (i := 441) (by decide +kernel)) rfl
theorem mw_444 : (.instanceMethod yX3_beginOver : Cond) ∈ wsA := mem_A (List.mem_of_getElem? (i := 444) (by decide +kernel)) rfl
theorem mw_445 : (.code yX3_beginOver cX3_beginOver 3 none : Cond) ∈ wsA := mem_A (List.mem_of_getElem? (i := 445) (by decide +kernel)) rfl
theorem mw_446 : (.methodLink RX3 39 arraycopyName : Cond) ∈ wsA := mem_A (List.mem_of_getElem? (i := 446) (by decide +kernel)) rfl
theorem mw_447 : (.methodLink RX3 45 yJ7_fill_53178 : Cond) ∈ wsA := mem_A (List.mem_of_getElem? (i := 447) (by decide +kernel)) rfl
theorem mw_450 : (.instanceMethod yX0_drop : Cond) ∈ wsA := mem_A (List.mem_of_getElem? (i := 450) (by decide +kernel)) rfl
theorem mw_451 : (.code yX0_drop cX0_drop 1 none : Cond) ∈ wsA := mem_A (List.mem_of_getElem? (i := 451) (by decide +kernel)) rfl
theorem mw_452 : (.methodLink RL 27 yX7_roof : Cond) ∈ wsA := mem_A (List.mem_of_getElem? (i := 452) (by decide +kernel)) rfl
theorem mw_453 : (.instanceMethod yX7_roof : Cond) ∈ wsA := mem_A (List.mem_of_getElem? (i := 453) (by decide +kernel)) rfl
theorem mw_454 : (.selects RX7 yX7_roof yX7_roof : Cond) ∈ wsA := mem_A (List.mem_of_getElem? (i := 454) (by decide +kernel)) rfl
theorem mw_455 : (.code yX7_roof cX7_roof 2 (some .int) : Cond) ∈ wsA := mem_A (List.mem_of_getElem? (i := 455) (by decide +kernel)) rfl
theorem mw_456 : (.methodLink RX7 84 yX7_isCell : Cond) ∈ wsA := mem_A (List.mem_of_getElem? (i := 456) (by decide +kernel)) rfl
theorem mw_457 : (.static yX7_isCell : Cond) ∈ wsA := mem_A (List.mem_of_getElem? (i := 457) (by decide +kernel)) rfl
theorem mw_458 : (.code yX7_isCell cX7_isCell 1 (some .boolean) : Cond) ∈ wsA := mem_A (List.mem_of_getElem? (i := 458) (by decide +kernel)) rfl
theorem mw_459 : (.methodLink RL 31 yX7_cock : Cond) ∈ wsA := mem_A (List.mem_of_getElem? (i := 459) (by decide +kernel)) rfl
theorem mw_460 : (.instanceMethod yX7_cock : Cond) ∈ wsA := mem_A (List.mem_of_getElem? (i := 460) (by decide +kernel)) rfl
theorem mw_461 : (.selects RX7 yX7_cock yX7_cock : Cond) ∈ wsA := mem_A (List.mem_of_getElem? (i := 461) (by decide +kernel)) rfl
theorem mw_462 : (.code yX7_cock cX7_cock 3 (some .int) : Cond) ∈ wsA := mem_A (List.mem_of_getElem? (i := 462) (by decide +kernel)) rfl
theorem mw_463 : (.methodLink RX7 95 yX7_isCock : Cond) ∈ wsA := mem_A (List.mem_of_getElem? (i := 463) (by decide +kernel)) rfl
theorem mw_465 : (.instanceMethod yX7_isCock : Cond) ∈ wsA := mem_A (List.mem_of_getElem? (i := 465) (by decide +kernel)) rfl
theorem mw_466 : (.code yX7_isCock cX7_isCock 2 (some .boolean) : Cond) ∈ wsA := mem_A (List.mem_of_getElem? (i := 466) (by decide +kernel)) rfl
theorem mw_469 : (.instanceMethod yX6_eyeOf : Cond) ∈ wsA := mem_A (List.mem_of_getElem? (i := 469) (by decide +kernel)) rfl
theorem mw_470 : (.code yX6_eyeOf cX6_eyeOf 2 (some .int) : Cond) ∈ wsA := mem_A (List.mem_of_getElem? (i := 470) (by decide +kernel)) rfl
theorem mw_473 : (.instanceMethod yX1_sideOf : Cond) ∈ wsA := mem_A (List.mem_of_getElem? (i := 473) (by decide +kernel)) rfl
theorem mw_474 : (.code yX1_sideOf cX1_sideOf 3 (some .int) : Cond) ∈ wsA := mem_A (List.mem_of_getElem? (i := 474) (by decide +kernel)) rfl
theorem mw_476 : (.static yX7_sideBy : Cond) ∈ wsA := mem_A (List.mem_of_getElem? (i := 476) (by decide +kernel)) rfl
theorem mw_477 : (.code yX7_sideBy cX7_sideBy 4 (some .int) : Cond) ∈ wsA := mem_A (List.mem_of_getElem? (i := 477) (by decide +kernel)) rfl
theorem mw_480 : (.instanceMethod yX3_isAsked : Cond) ∈ wsA := mem_A (List.mem_of_getElem? (i := 480) (by decide +kernel)) rfl
theorem mw_481 : (.code yX3_isAsked cX3_isAsked 2 (some .boolean) : Cond) ∈ wsA := mem_A (List.mem_of_getElem? (i := 481) (by decide +kernel)) rfl
theorem mw_483 : (.static yX7_isIn : Cond) ∈ wsA := mem_A (List.mem_of_getElem? (i := 483) (by decide +kernel)) rfl
theorem mw_484 : (.code yX7_isIn cX7_isIn 2 (some .boolean) : Cond) ∈ wsA := mem_A (List.mem_of_getElem? (i := 484) (by decide +kernel)) rfl
theorem mw_487 : (.instanceMethod yX3_tellingOf : Cond) ∈ wsA := mem_A (List.mem_of_getElem? (i := 487) (by decide +kernel)) rfl
theorem mw_488 : (.code yX3_tellingOf cX3_tellingOf 2 (some .int) : Cond) ∈ wsA := mem_A (List.mem_of_getElem? (i := 488) (by decide +kernel)) rfl
theorem mw_489 : (.methodLink RX3 80 yX3_amountSeenBy : Cond) ∈ wsA := mem_A (List.mem_of_getElem? (i := 489) (by decide +kernel)) rfl
theorem mw_491 : (.instanceMethod yX3_amountSeenBy : Cond) ∈ wsA := mem_A (List.mem_of_getElem? (i := 491) (by decide +kernel)) rfl
theorem mw_492 : (.code yX3_amountSeenBy cX3_amountSeenBy 4 (some .int) : Cond) ∈ wsA := mem_A (List.mem_of_getElem? (i := 492) (by decide +kernel)) rfl
theorem mw_493 : (.methodLink RX3 70 yX3_seenByAnyOf : Cond) ∈ wsA := mem_A (List.mem_of_getElem? (i := 493) (by decide +kernel)) rfl
theorem mw_495 : (.instanceMethod yX3_seenByAnyOf : Cond) ∈ wsA := mem_A (List.mem_of_getElem? (i := 495) (by decide +kernel)) rfl
theorem mw_496 : (.code yX3_seenByAnyOf cX3_seenByAnyOf 5 (some .int) : Cond) ∈ wsA := mem_A (List.mem_of_getElem? (i := 496) (by decide +kernel)) rfl
theorem mw_497 : (.methodLink RX3 74 yJ6_bitCount_0f7a4 : Cond) ∈ wsA := mem_A (List.mem_of_getElem? (i := 497) (by decide +kernel)) rfl
theorem mw_498 : (.static yJ6_bitCount_0f7a4 : Cond) ∈ wsA := mem_A (List.mem_of_getElem? (i := 498) (by decide +kernel)) rfl
theorem mw_499 : (.code yJ6_bitCount_0f7a4 cJ6_bitCount_0f7a4 1 (some .int) : Cond) ∈ wsA := mem_A (List.mem_of_getElem? (i := 499) (by decide +kernel)) rfl
theorem mw_500 : (.constant RJ6 265 (1431655765) : Cond) ∈ wsA := mem_A (List.mem_of_getElem? (i := 500) (by decide +kernel)) rfl
theorem mw_501 : (.constant RJ6 266 (858993459) : Cond) ∈ wsA := mem_A (List.mem_of_getElem? (i := 501) (by decide +kernel)) rfl
theorem mw_502 : (.constant RJ6 267 (252645135) : Cond) ∈ wsA := mem_A (List.mem_of_getElem? (i := 502) (by decide +kernel)) rfl
theorem mw_503 : (.methodLink RL 36 yX7_one : Cond) ∈ wsA := mem_A (List.mem_of_getElem? (i := 503) (by decide +kernel)) rfl
theorem mw_504 : (.instanceMethod yX7_one : Cond) ∈ wsA := mem_A (List.mem_of_getElem? (i := 504) (by decide +kernel)) rfl
theorem mw_505 : (.selects RX7 yX7_one yX7_one : Cond) ∈ wsA := mem_A (List.mem_of_getElem? (i := 505) (by decide +kernel)) rfl
theorem mw_506 : (.code yX7_one cX7_one 3 (some .int) : Cond) ∈ wsA := mem_A (List.mem_of_getElem? (i := 506) (by decide +kernel)) rfl
theorem mw_507 : (.methodLink RX7 124 yX7_isOne : Cond) ∈ wsA := mem_A (List.mem_of_getElem? (i := 507) (by decide +kernel)) rfl
theorem mw_509 : (.instanceMethod yX7_isOne : Cond) ∈ wsA := mem_A (List.mem_of_getElem? (i := 509) (by decide +kernel)) rfl
theorem mw_510 : (.code yX7_isOne cX7_isOne 2 (some .boolean) : Cond) ∈ wsA := mem_A (List.mem_of_getElem? (i := 510) (by decide +kernel)) rfl
theorem mw_511 : (.constant RX7 127 (-1000000) : Cond) ∈ wsA := mem_A (List.mem_of_getElem? (i := 511) (by decide +kernel)) rfl
theorem mw_514 : (.instanceMethod yX1_cellOf : Cond) ∈ wsA := mem_A (List.mem_of_getElem? (i := 514) (by decide +kernel)) rfl
theorem mw_515 : (.code yX1_cellOf cX1_cellOf 4 (some .int) : Cond) ∈ wsA := mem_A (List.mem_of_getElem? (i := 515) (by decide +kernel)) rfl
theorem mw_517 : (.static yX7_placeBy : Cond) ∈ wsA := mem_A (List.mem_of_getElem? (i := 517) (by decide +kernel)) rfl
theorem mw_518 : (.code yX7_placeBy cX7_placeBy 3 (some .int) : Cond) ∈ wsA := mem_A (List.mem_of_getElem? (i := 518) (by decide +kernel)) rfl
theorem mw_520 : (.methodLink RL 40 yX7_saw : Cond) ∈ wsA := mem_A (List.mem_of_getElem? (i := 520) (by decide +kernel)) rfl
theorem mw_521 : (.instanceMethod yX7_saw : Cond) ∈ wsA := mem_A (List.mem_of_getElem? (i := 521) (by decide +kernel)) rfl
theorem mw_522 : (.selects RX7 yX7_saw yX7_saw : Cond) ∈ wsA := mem_A (List.mem_of_getElem? (i := 522) (by decide +kernel)) rfl
theorem mw_523 : (.code yX7_saw cX7_saw 3 (some .int) : Cond) ∈ wsA := mem_A (List.mem_of_getElem? (i := 523) (by decide +kernel)) rfl
theorem mw_524 : (.methodLink RL 44 yX7_known : Cond) ∈ wsA := mem_A (List.mem_of_getElem? (i := 524) (by decide +kernel)) rfl
theorem mw_525 : (.instanceMethod yX7_known : Cond) ∈ wsA := mem_A (List.mem_of_getElem? (i := 525) (by decide +kernel)) rfl
theorem mw_526 : (.selects RX7 yX7_known yX7_known : Cond) ∈ wsA := mem_A (List.mem_of_getElem? (i := 526) (by decide +kernel)) rfl
theorem mw_527 : (.code yX7_known cX7_known 2 (some .int) : Cond) ∈ wsA := mem_A (List.mem_of_getElem? (i := 527) (by decide +kernel)) rfl
theorem mw_529 : (.methodLink RL 48 yX7_hours : Cond) ∈ wsA := mem_A (List.mem_of_getElem? (i := 529) (by decide +kernel)) rfl
theorem mw_530 : (.instanceMethod yX7_hours : Cond) ∈ wsA := mem_A (List.mem_of_getElem? (i := 530) (by decide +kernel)) rfl
theorem mw_531 : (.selects RX7 yX7_hours yX7_hours : Cond) ∈ wsA := mem_A (List.mem_of_getElem? (i := 531) (by decide +kernel)) rfl
theorem mw_532 : (.code yX7_hours cX7_hours 2 (some .int) : Cond) ∈ wsA := mem_A (List.mem_of_getElem? (i := 532) (by decide +kernel)) rfl
theorem mw_535 : (.instanceMethod yX6_goBy : Cond) ∈ wsA := mem_A (List.mem_of_getElem? (i := 535) (by decide +kernel)) rfl
theorem mw_536 : (.code yX6_goBy cX6_goBy 4 none : Cond) ∈ wsA := mem_A (List.mem_of_getElem? (i := 536) (by decide +kernel)) rfl
theorem mw_539 : (.instanceMethod yX3_rememberHour : Cond) ∈ wsA := mem_A (List.mem_of_getElem? (i := 539) (by decide +kernel)) rfl
theorem mw_540 : (.code yX3_rememberHour cX3_rememberHour 1 none : Cond) ∈ wsA := mem_A (List.mem_of_getElem? (i := 540) (by decide +kernel)) rfl
theorem mw_541 : (.methodLink RX3 59 yX3_remember : Cond) ∈ wsA := mem_A (List.mem_of_getElem? (i := 541) (by decide +kernel)) rfl
theorem mw_543 : (.instanceMethod yX3_remember : Cond) ∈ wsA := mem_A (List.mem_of_getElem? (i := 543) (by decide +kernel)) rfl
theorem mw_544 : (.code yX3_remember cX3_remember 4 none : Cond) ∈ wsA := mem_A (List.mem_of_getElem? (i := 544) (by decide +kernel)) rfl
theorem mw_545 : (.methodLink RX3 63 yX3_loseOldest : Cond) ∈ wsA := mem_A (List.mem_of_getElem? (i := 545) (by decide +kernel)) rfl
theorem mw_547 : (.instanceMethod yX3_loseOldest : Cond) ∈ wsA := mem_A (List.mem_of_getElem? (i := 547) (by decide +kernel)) rfl
theorem mw_548 : (.code yX3_loseOldest cX3_loseOldest 1 none : Cond) ∈ wsA := mem_A (List.mem_of_getElem? (i := 548) (by decide +kernel)) rfl
theorem mw_549 : (.methodLink RX6 80 Lib.Math.min.name : Cond) ∈ wsA := mem_A (List.mem_of_getElem? (i := 549) (by decide +kernel)) rfl
theorem mw_550 : (.methodLink RX6 83 yX6_seeAllIn : Cond) ∈ wsA := mem_A (List.mem_of_getElem? (i := 550) (by decide +kernel)) rfl
theorem mw_552 : (.instanceMethod yX6_seeAllIn : Cond) ∈ wsA := mem_A (List.mem_of_getElem? (i := 552) (by decide +kernel)) rfl
theorem mw_553 : (.code yX6_seeAllIn cX6_seeAllIn 4 none : Cond) ∈ wsA := mem_A (List.mem_of_getElem? (i := 553) (by decide +kernel)) rfl
theorem mw_557 : (.instanceMethod yX1_isSmoky : Cond) ∈ wsA := mem_A (List.mem_of_getElem? (i := 557) (by decide +kernel)) rfl
theorem mw_558 : (.code yX1_isSmoky cX1_isSmoky 4 (some .boolean) : Cond) ∈ wsA := mem_A (List.mem_of_getElem? (i := 558) (by decide +kernel)) rfl
theorem mw_560 : (.methodLink RX6 97 yX6_seeOne : Cond) ∈ wsA := mem_A (List.mem_of_getElem? (i := 560) (by decide +kernel)) rfl
theorem mw_562 : (.instanceMethod yX6_seeOne : Cond) ∈ wsA := mem_A (List.mem_of_getElem? (i := 562) (by decide +kernel)) rfl
theorem mw_563 : (.code yX6_seeOne cX6_seeOne 5 none : Cond) ∈ wsA := mem_A (List.mem_of_getElem? (i := 563) (by decide +kernel)) rfl
theorem mw_565 : (.methodLink RX6 59 yX6_canSee : Cond) ∈ wsA := mem_A (List.mem_of_getElem? (i := 565) (by decide +kernel)) rfl
theorem mw_567 : (.instanceMethod yX6_canSee : Cond) ∈ wsA := mem_A (List.mem_of_getElem? (i := 567) (by decide +kernel)) rfl
theorem mw_568 : (.code yX6_canSee cX6_canSee 6 (some .boolean) : Cond) ∈ wsA := mem_A (List.mem_of_getElem? (i := 568) (by decide +kernel)) rfl
theorem mw_570 : (.methodLink RX6 46 yX6_eyeOf : Cond) ∈ wsA := mem_A (List.mem_of_getElem? (i := 570) (by decide +kernel)) rfl
theorem mw_571 : (.methodLink RX6 50 yX6_isLineFree : Cond) ∈ wsA := mem_A (List.mem_of_getElem? (i := 571) (by decide +kernel)) rfl
theorem mw_573 : (.instanceMethod yX6_isLineFree : Cond) ∈ wsA := mem_A (List.mem_of_getElem? (i := 573) (by decide +kernel)) rfl
theorem mw_574 : (.code yX6_isLineFree cX6_isLineFree 9 (some .boolean) : Cond) ∈ wsA := mem_A (List.mem_of_getElem? (i := 574) (by decide +kernel)) rfl
theorem mw_575 : (.methodLink RX6 54 Lib.Math.abs.name : Cond) ∈ wsA := mem_A (List.mem_of_getElem? (i := 575) (by decide +kernel)) rfl
theorem mw_576 : (.static Lib.Math.abs.name : Cond) ∈ wsA := mem_A (List.mem_of_getElem? (i := 576) (by decide +kernel)) rfl
theorem mw_577 : (.code Lib.Math.abs.name Lib.Math.abs.code 1 (some .int) : Cond) ∈ wsA := mem_A (List.mem_of_getElem? (i := 577) (by decide +kernel)) rfl
theorem mw_578 : (.methodLink RL 52 yX7_builds : Cond) ∈ wsA := mem_A (List.mem_of_getElem? (i := 578) (by decide +kernel)) rfl
theorem mw_579 : (.instanceMethod yX7_builds : Cond) ∈ wsA := mem_A (List.mem_of_getElem? (i := 579) (by decide +kernel)) rfl
theorem mw_580 : (.selects RX7 yX7_builds yX7_builds : Cond) ∈ wsA := mem_A (List.mem_of_getElem? (i := 580) (by decide +kernel)) rfl
theorem mw_581 : (.code yX7_builds cX7_builds 4 (some .int) : Cond) ∈ wsA := mem_A (List.mem_of_getElem? (i := 581) (by decide +kernel)) rfl
theorem mw_584 : (.instanceMethod yX3_build : Cond) ∈ wsA := mem_A (List.mem_of_getElem? (i := 584) (by decide +kernel)) rfl
theorem mw_585 : (.code yX3_build cX3_build 3 none : Cond) ∈ wsA := mem_A (List.mem_of_getElem? (i := 585) (by decide +kernel)) rfl
theorem mw_586 : (.methodLink RL 56 yX7_asks : Cond) ∈ wsA := mem_A (List.mem_of_getElem? (i := 586) (by decide +kernel)) rfl
theorem mw_587 : (.instanceMethod yX7_asks : Cond) ∈ wsA := mem_A (List.mem_of_getElem? (i := 587) (by decide +kernel)) rfl
theorem mw_588 : (.selects RX7 yX7_asks yX7_asks : Cond) ∈ wsA := mem_A (List.mem_of_getElem? (i := 588) (by decide +kernel)) rfl
theorem mw_589 : (.code yX7_asks cX7_asks 3 (some .int) : Cond) ∈ wsA := mem_A (List.mem_of_getElem? (i := 589) (by decide +kernel)) rfl
theorem mw_592 : (.instanceMethod yX3_amountKnownWith : Cond) ∈ wsA := mem_A (List.mem_of_getElem? (i := 592) (by decide +kernel)) rfl
theorem mw_593 : (.code yX3_amountKnownWith cX3_amountKnownWith 2 (some .int) : Cond) ∈ wsA := mem_A (List.mem_of_getElem? (i := 593) (by decide +kernel)) rfl
theorem mw_596 : (.instanceMethod yX3_bringDown : Cond) ∈ wsA := mem_A (List.mem_of_getElem? (i := 596) (by decide +kernel)) rfl
theorem mw_597 : (.code yX3_bringDown cX3_bringDown 2 none : Cond) ∈ wsA := mem_A (List.mem_of_getElem? (i := 597) (by decide +kernel)) rfl
theorem mw_598 : (.methodLink RL 60 yX7_undo : Cond) ∈ wsA := mem_A (List.mem_of_getElem? (i := 598) (by decide +kernel)) rfl
theorem mw_599 : (.instanceMethod yX7_undo : Cond) ∈ wsA := mem_A (List.mem_of_getElem? (i := 599) (by decide +kernel)) rfl
theorem mw_600 : (.selects RX7 yX7_undo yX7_undo : Cond) ∈ wsA := mem_A (List.mem_of_getElem? (i := 600) (by decide +kernel)) rfl
theorem mw_601 : (.code yX7_undo cX7_undo 1 (some .int) : Cond) ∈ wsA := mem_A (List.mem_of_getElem? (i := 601) (by decide +kernel)) rfl
theorem mw_604 : (.instanceMethod yX3_undoLatest : Cond) ∈ wsA := mem_A (List.mem_of_getElem? (i := 604) (by decide +kernel)) rfl
theorem mw_605 : (.code yX3_undoLatest cX3_undoLatest 2 none : Cond) ∈ wsA := mem_A (List.mem_of_getElem? (i := 605) (by decide +kernel)) rfl
theorem mw_606 : (.methodLink RX3 66 yX3_returnTo : Cond) ∈ wsA := mem_A (List.mem_of_getElem? (i := 606) (by decide +kernel)) rfl
theorem mw_608 : (.instanceMethod yX3_returnTo : Cond) ∈ wsA := mem_A (List.mem_of_getElem? (i := 608) (by decide +kernel)) rfl
theorem mw_609 : (.code yX3_returnTo cX3_returnTo 5 none : Cond) ∈ wsA := mem_A (List.mem_of_getElem? (i := 609) (by decide +kernel)) rfl
theorem mw_610 : (.methodLink RL 64 yX7_now : Cond) ∈ wsA := mem_A (List.mem_of_getElem? (i := 610) (by decide +kernel)) rfl
theorem mw_611 : (.instanceMethod yX7_now : Cond) ∈ wsA := mem_A (List.mem_of_getElem? (i := 611) (by decide +kernel)) rfl
theorem mw_612 : (.selects RX7 yX7_now yX7_now : Cond) ∈ wsA := mem_A (List.mem_of_getElem? (i := 612) (by decide +kernel)) rfl
theorem mw_613 : (.code yX7_now cX7_now 2 (some .int) : Cond) ∈ wsA := mem_A (List.mem_of_getElem? (i := 613) (by decide +kernel)) rfl
theorem mw_616 : (.instanceMethod yX1_allCocks : Cond) ∈ wsA := mem_A (List.mem_of_getElem? (i := 616) (by decide +kernel)) rfl
theorem mw_617 : (.code yX1_allCocks cX1_allCocks 1 (some .int) : Cond) ∈ wsA := mem_A (List.mem_of_getElem? (i := 617) (by decide +kernel)) rfl
theorem mw_621 : (.instanceMethod yX6_cover : Cond) ∈ wsA := mem_A (List.mem_of_getElem? (i := 621) (by decide +kernel)) rfl
theorem mw_622 : (.code yX6_cover cX6_cover 1 (some .int) : Cond) ∈ wsA := mem_A (List.mem_of_getElem? (i := 622) (by decide +kernel)) rfl
theorem mw_623 : (.constant RX6 106 (2147483647) : Cond) ∈ wsA := mem_A (List.mem_of_getElem? (i := 623) (by decide +kernel)) rfl
theorem mw_624 : (.methodLink RX6 107 yX6_bestToAsk : Cond) ∈ wsA := mem_A (List.mem_of_getElem? (i := 624) (by decide +kernel)) rfl
theorem mw_626 : (.instanceMethod yX6_bestToAsk : Cond) ∈ wsA := mem_A (List.mem_of_getElem? (i := 626) (by decide +kernel)) rfl
theorem mw_627 : (.code yX6_bestToAsk cX6_bestToAsk 5 (some .int) : Cond) ∈ wsA := mem_A (List.mem_of_getElem? (i := 627) (by decide +kernel)) rfl
theorem mw_631 : (.instanceMethod yX3_hoursToAsk : Cond) ∈ wsA := mem_A (List.mem_of_getElem? (i := 631) (by decide +kernel)) rfl
theorem mw_632 : (.code yX3_hoursToAsk cX3_hoursToAsk 4 (some .int) : Cond) ∈ wsA := mem_A (List.mem_of_getElem? (i := 632) (by decide +kernel)) rfl
theorem mw_633 : (.methodLink RX3 83 yX3_tellingOf : Cond) ∈ wsA := mem_A (List.mem_of_getElem? (i := 633) (by decide +kernel)) rfl
theorem mw_634 : (.methodLink RX6 120 yX6_isBetter : Cond) ∈ wsA := mem_A (List.mem_of_getElem? (i := 634) (by decide +kernel)) rfl
theorem mw_636 : (.instanceMethod yX6_isBetter : Cond) ∈ wsA := mem_A (List.mem_of_getElem? (i := 636) (by decide +kernel)) rfl
theorem mw_637 : (.code yX6_isBetter cX6_isBetter 4 (some .boolean) : Cond) ∈ wsA := mem_A (List.mem_of_getElem? (i := 637) (by decide +kernel)) rfl
theorem mw_639 : (.methodLink RX6 126 yJ6_bitCount_0f7a4 : Cond) ∈ wsA := mem_A (List.mem_of_getElem? (i := 639) (by decide +kernel)) rfl
theorem mw_640 : (.methodLink RL 68 yX7_view : Cond) ∈ wsA := mem_A (List.mem_of_getElem? (i := 640) (by decide +kernel)) rfl
theorem mw_641 : (.instanceMethod yX7_view : Cond) ∈ wsA := mem_A (List.mem_of_getElem? (i := 641) (by decide +kernel)) rfl
theorem mw_642 : (.selects RX7 yX7_view yX7_view : Cond) ∈ wsA := mem_A (List.mem_of_getElem? (i := 642) (by decide +kernel)) rfl
theorem mw_643 : (.code yX7_view cX7_view 3 (some .int) : Cond) ∈ wsA := mem_A (List.mem_of_getElem? (i := 643) (by decide +kernel)) rfl
theorem mw_644 : (.methodLink RX7 173 yX7_isHour : Cond) ∈ wsA := mem_A (List.mem_of_getElem? (i := 644) (by decide +kernel)) rfl
theorem mw_645 : (.static yX7_isHour : Cond) ∈ wsA := mem_A (List.mem_of_getElem? (i := 645) (by decide +kernel)) rfl
theorem mw_646 : (.code yX7_isHour cX7_isHour 1 (some .boolean) : Cond) ∈ wsA := mem_A (List.mem_of_getElem? (i := 646) (by decide +kernel)) rfl
theorem mw_649 : (.instanceMethod yX6_viewOf : Cond) ∈ wsA := mem_A (List.mem_of_getElem? (i := 649) (by decide +kernel)) rfl
theorem mw_650 : (.code yX6_viewOf cX6_viewOf 5 (some .int) : Cond) ∈ wsA := mem_A (List.mem_of_getElem? (i := 650) (by decide +kernel)) rfl
theorem mw_651 : (.methodLink RL 72 yX7_blind : Cond) ∈ wsA := mem_A (List.mem_of_getElem? (i := 651) (by decide +kernel)) rfl
theorem mw_652 : (.instanceMethod yX7_blind : Cond) ∈ wsA := mem_A (List.mem_of_getElem? (i := 652) (by decide +kernel)) rfl
theorem mw_653 : (.selects RX7 yX7_blind yX7_blind : Cond) ∈ wsA := mem_A (List.mem_of_getElem? (i := 653) (by decide +kernel)) rfl
theorem mw_654 : (.code yX7_blind cX7_blind 2 (some .int) : Cond) ∈ wsA := mem_A (List.mem_of_getElem? (i := 654) (by decide +kernel)) rfl
theorem mw_657 : (.instanceMethod yX6_unseenIn : Cond) ∈ wsA := mem_A (List.mem_of_getElem? (i := 657) (by decide +kernel)) rfl
theorem mw_658 : (.code yX6_unseenIn cX6_unseenIn 4 (some .int) : Cond) ∈ wsA := mem_A (List.mem_of_getElem? (i := 658) (by decide +kernel)) rfl
theorem mw_659 : (.methodLink RX6 70 yX6_viewOf : Cond) ∈ wsA := mem_A (List.mem_of_getElem? (i := 659) (by decide +kernel)) rfl
theorem mw_660 : (.constant RX6 73 (16777215) : Cond) ∈ wsA := mem_A (List.mem_of_getElem? (i := 660) (by decide +kernel)) rfl
theorem mw_661 : (.methodLink RL 76 yX7_most : Cond) ∈ wsA := mem_A (List.mem_of_getElem? (i := 661) (by decide +kernel)) rfl
theorem mw_662 : (.instanceMethod yX7_most : Cond) ∈ wsA := mem_A (List.mem_of_getElem? (i := 662) (by decide +kernel)) rfl
theorem mw_663 : (.selects RX7 yX7_most yX7_most : Cond) ∈ wsA := mem_A (List.mem_of_getElem? (i := 663) (by decide +kernel)) rfl
theorem mw_664 : (.code yX7_most cX7_most 4 (some .int) : Cond) ∈ wsA := mem_A (List.mem_of_getElem? (i := 664) (by decide +kernel)) rfl
theorem mw_666 : (.methodLink RL 80 yX7_odds : Cond) ∈ wsA := mem_A (List.mem_of_getElem? (i := 666) (by decide +kernel)) rfl
theorem mw_667 : (.instanceMethod yX7_odds : Cond) ∈ wsA := mem_A (List.mem_of_getElem? (i := 667) (by decide +kernel)) rfl
theorem mw_668 : (.selects RX7 yX7_odds yX7_odds : Cond) ∈ wsA := mem_A (List.mem_of_getElem? (i := 668) (by decide +kernel)) rfl
theorem mw_669 : (.code yX7_odds cX7_odds 10 (some .int) : Cond) ∈ wsA := mem_A (List.mem_of_getElem? (i := 669) (by decide +kernel)) rfl
theorem mw_672 : (.instanceMethod yX6_hoursInView : Cond) ∈ wsA := mem_A (List.mem_of_getElem? (i := 672) (by decide +kernel)) rfl
theorem mw_673 : (.code yX6_hoursInView cX6_hoursInView 7 (some .int) : Cond) ∈ wsA := mem_A (List.mem_of_getElem? (i := 673) (by decide +kernel)) rfl
theorem mw_674 : (.methodLink RX7 189 yX7_sharedWithTen : Cond) ∈ wsA := mem_A (List.mem_of_getElem? (i := 674) (by decide +kernel)) rfl
theorem mw_675 : (.static yX7_sharedWithTen : Cond) ∈ wsA := mem_A (List.mem_of_getElem? (i := 675) (by decide +kernel)) rfl
theorem mw_676 : (.code yX7_sharedWithTen cX7_sharedWithTen 2 (some .int) : Cond) ∈ wsA := mem_A (List.mem_of_getElem? (i := 676) (by decide +kernel)) rfl
theorem mw_677 : (.methodLink RX7 192 yX7_power : Cond) ∈ wsA := mem_A (List.mem_of_getElem? (i := 677) (by decide +kernel)) rfl
theorem mw_678 : (.static yX7_power : Cond) ∈ wsA := mem_A (List.mem_of_getElem? (i := 678) (by decide +kernel)) rfl
theorem mw_679 : (.code yX7_power cX7_power 4 (some .int) : Cond) ∈ wsA := mem_A (List.mem_of_getElem? (i := 679) (by decide +kernel)) rfl
theorem mw_680 : (.methodLink RL 85 yX7_faced : Cond) ∈ wsA := mem_A (List.mem_of_getElem? (i := 680) (by decide +kernel)) rfl
theorem mw_681 : (.instanceMethod yX7_faced : Cond) ∈ wsA := mem_A (List.mem_of_getElem? (i := 681) (by decide +kernel)) rfl
theorem mw_682 : (.selects RX7 yX7_faced yX7_faced : Cond) ∈ wsA := mem_A (List.mem_of_getElem? (i := 682) (by decide +kernel)) rfl
theorem mw_683 : (.code yX7_faced cX7_faced 3 (some .int) : Cond) ∈ wsA := mem_A (List.mem_of_getElem? (i := 683) (by decide +kernel)) rfl
theorem mw_686 : (.instanceMethod yX0_addFaced : Cond) ∈ wsA := mem_A (List.mem_of_getElem? (i := 686) (by decide +kernel)) rfl
theorem mw_687 : (.code yX0_addFaced cX0_addFaced 3 (some .boolean) : Cond) ∈ wsA := mem_A (List.mem_of_getElem? (i := 687) (by decide +kernel)) rfl
theorem mw_688 : (.methodLink RL 89 yX7_laws : Cond) ∈ wsA := mem_A (List.mem_of_getElem? (i := 688) (by decide +kernel)) rfl
theorem mw_689 : (.instanceMethod yX7_laws : Cond) ∈ wsA := mem_A (List.mem_of_getElem? (i := 689) (by decide +kernel)) rfl
theorem mw_690 : (.selects RX7 yX7_laws yX7_laws : Cond) ∈ wsA := mem_A (List.mem_of_getElem? (i := 690) (by decide +kernel)) rfl
theorem mw_691 : (.code yX7_laws cX7_laws 2 (some .int) : Cond) ∈ wsA := mem_A (List.mem_of_getElem? (i := 691) (by decide +kernel)) rfl
theorem mw_694 : (.instanceMethod yX0_lawCount : Cond) ∈ wsA := mem_A (List.mem_of_getElem? (i := 694) (by decide +kernel)) rfl
theorem mw_695 : (.code yX0_lawCount cX0_lawCount 1 (some .int) : Cond) ∈ wsA := mem_A (List.mem_of_getElem? (i := 695) (by decide +kernel)) rfl
theorem mw_696 : (.methodLink RX0 35 yX0_lawsFacing : Cond) ∈ wsA := mem_A (List.mem_of_getElem? (i := 696) (by decide +kernel)) rfl
theorem mw_698 : (.instanceMethod yX0_lawsFacing : Cond) ∈ wsA := mem_A (List.mem_of_getElem? (i := 698) (by decide +kernel)) rfl
theorem mw_699 : (.code yX0_lawsFacing cX0_lawsFacing 6 (some .int) : Cond) ∈ wsA := mem_A (List.mem_of_getElem? (i := 699) (by decide +kernel)) rfl
theorem mw_700 : (.methodLink RX0 39 yX0_isLaw : Cond) ∈ wsA := mem_A (List.mem_of_getElem? (i := 700) (by decide +kernel)) rfl
theorem mw_702 : (.instanceMethod yX0_isLaw : Cond) ∈ wsA := mem_A (List.mem_of_getElem? (i := 702) (by decide +kernel)) rfl
theorem mw_703 : (.code yX0_isLaw cX0_isLaw 4 (some .boolean) : Cond) ∈ wsA := mem_A (List.mem_of_getElem? (i := 703) (by decide +kernel)) rfl
theorem mw_707 : (.instanceMethod yX0_firstLaw : Cond) ∈ wsA := mem_A (List.mem_of_getElem? (i := 707) (by decide +kernel)) rfl
theorem mw_708 : (.code yX0_firstLaw cX0_firstLaw 3 (some .int) : Cond) ∈ wsA := mem_A (List.mem_of_getElem? (i := 708) (by decide +kernel)) rfl
theorem mw_709 : (.methodLink RL 93 yX7_tryNext : Cond) ∈ wsA := mem_A (List.mem_of_getElem? (i := 709) (by decide +kernel)) rfl
theorem mw_710 : (.instanceMethod yX7_tryNext : Cond) ∈ wsA := mem_A (List.mem_of_getElem? (i := 710) (by decide +kernel)) rfl
theorem mw_711 : (.selects RX7 yX7_tryNext yX7_tryNext : Cond) ∈ wsA := mem_A (List.mem_of_getElem? (i := 711) (by decide +kernel)) rfl
theorem mw_712 : (.code yX7_tryNext cX7_tryNext 1 (some .int) : Cond) ∈ wsA := mem_A (List.mem_of_getElem? (i := 712) (by decide +kernel)) rfl
theorem mw_715 : (.instanceMethod yX0_bestHourToTry : Cond) ∈ wsA := mem_A (List.mem_of_getElem? (i := 715) (by decide +kernel)) rfl
theorem mw_716 : (.code yX0_bestHourToTry cX0_bestHourToTry 5 (some .int) : Cond) ∈ wsA := mem_A (List.mem_of_getElem? (i := 716) (by decide +kernel)) rfl
theorem mw_717 : (.methodLink RX0 43 yX0_lawCount : Cond) ∈ wsA := mem_A (List.mem_of_getElem? (i := 717) (by decide +kernel)) rfl
theorem mw_718 : (.methodLink RX0 47 Lib.Math.max.name : Cond) ∈ wsA := mem_A (List.mem_of_getElem? (i := 718) (by decide +kernel)) rfl
theorem mw_719 : (.static Lib.Math.max.name : Cond) ∈ wsA := mem_A (List.mem_of_getElem? (i := 719) (by decide +kernel)) rfl
theorem mw_720 : (.code Lib.Math.max.name Lib.Math.max.code 2 (some .int) : Cond) ∈ wsA := mem_A (List.mem_of_getElem? (i := 720) (by decide +kernel)) rfl
theorem mw_721 : (.methodLink RL 97 yX7_met : Cond) ∈ wsA := mem_A (List.mem_of_getElem? (i := 721) (by decide +kernel)) rfl
theorem mw_722 : (.instanceMethod yX7_met : Cond) ∈ wsA := mem_A (List.mem_of_getElem? (i := 722) (by decide +kernel)) rfl
theorem mw_723 : (.selects RX7 yX7_met yX7_met : Cond) ∈ wsA := mem_A (List.mem_of_getElem? (i := 723) (by decide +kernel)) rfl
theorem mw_724 : (.code yX7_met cX7_met 3 (some .int) : Cond) ∈ wsA := mem_A (List.mem_of_getElem? (i := 724) (by decide +kernel)) rfl
theorem mw_727 : (.instanceMethod yX0_addMet : Cond) ∈ wsA := mem_A (List.mem_of_getElem? (i := 727) (by decide +kernel)) rfl
theorem mw_728 : (.code yX0_addMet cX0_addMet 3 (some .boolean) : Cond) ∈ wsA := mem_A (List.mem_of_getElem? (i := 728) (by decide +kernel)) rfl
theorem mw_729 : (.methodLink RL 101 yX7_ways : Cond) ∈ wsA := mem_A (List.mem_of_getElem? (i := 729) (by decide +kernel)) rfl
theorem mw_730 : (.instanceMethod yX7_ways : Cond) ∈ wsA := mem_A (List.mem_of_getElem? (i := 730) (by decide +kernel)) rfl
theorem mw_731 : (.selects RX7 yX7_ways yX7_ways : Cond) ∈ wsA := mem_A (List.mem_of_getElem? (i := 731) (by decide +kernel)) rfl
theorem mw_732 : (.code yX7_ways cX7_ways 2 (some .int) : Cond) ∈ wsA := mem_A (List.mem_of_getElem? (i := 732) (by decide +kernel)) rfl
theorem mw_735 : (.instanceMethod yX0_wayCount : Cond) ∈ wsA := mem_A (List.mem_of_getElem? (i := 735) (by decide +kernel)) rfl
theorem mw_736 : (.code yX0_wayCount cX0_wayCount 4 (some .int) : Cond) ∈ wsA := mem_A (List.mem_of_getElem? (i := 736) (by decide +kernel)) rfl
theorem mw_737 : (.methodLink RX0 55 yX0_falsesOf : Cond) ∈ wsA := mem_A (List.mem_of_getElem? (i := 737) (by decide +kernel)) rfl
theorem mw_739 : (.instanceMethod yX0_falsesOf : Cond) ∈ wsA := mem_A (List.mem_of_getElem? (i := 739) (by decide +kernel)) rfl
theorem mw_740 : (.code yX0_falsesOf cX0_falsesOf 6 (some .int) : Cond) ∈ wsA := mem_A (List.mem_of_getElem? (i := 740) (by decide +kernel)) rfl
theorem mw_744 : (.instanceMethod yX0_bestWay : Cond) ∈ wsA := mem_A (List.mem_of_getElem? (i := 744) (by decide +kernel)) rfl
theorem mw_745 : (.code yX0_bestWay cX0_bestWay 5 (some .int) : Cond) ∈ wsA := mem_A (List.mem_of_getElem? (i := 745) (by decide +kernel)) rfl
theorem mw_747 : (.methodLink RL 105 yX7_falses : Cond) ∈ wsA := mem_A (List.mem_of_getElem? (i := 747) (by decide +kernel)) rfl
theorem mw_748 : (.instanceMethod yX7_falses : Cond) ∈ wsA := mem_A (List.mem_of_getElem? (i := 748) (by decide +kernel)) rfl
theorem mw_749 : (.selects RX7 yX7_falses yX7_falses : Cond) ∈ wsA := mem_A (List.mem_of_getElem? (i := 749) (by decide +kernel)) rfl
theorem mw_750 : (.code yX7_falses cX7_falses 2 (some .int) : Cond) ∈ wsA := mem_A (List.mem_of_getElem? (i := 750) (by decide +kernel)) rfl
theorem mw_751 : (.methodLink RL 109 yX7_forget : Cond) ∈ wsA := mem_A (List.mem_of_getElem? (i := 751) (by decide +kernel)) rfl
theorem mw_752 : (.instanceMethod yX7_forget : Cond) ∈ wsA := mem_A (List.mem_of_getElem? (i := 752) (by decide +kernel)) rfl
theorem mw_753 : (.selects RX7 yX7_forget yX7_forget : Cond) ∈ wsA := mem_A (List.mem_of_getElem? (i := 753) (by decide +kernel)) rfl
theorem mw_754 : (.code yX7_forget cX7_forget 2 (some .int) : Cond) ∈ wsA := mem_A (List.mem_of_getElem? (i := 754) (by decide +kernel)) rfl
theorem mw_755 : (.methodLink RL 113 yX7_mark : Cond) ∈ wsA := mem_A (List.mem_of_getElem? (i := 755) (by decide +kernel)) rfl
theorem mw_756 : (.instanceMethod yX7_mark : Cond) ∈ wsA := mem_A (List.mem_of_getElem? (i := 756) (by decide +kernel)) rfl
theorem mw_757 : (.selects RX7 yX7_mark yX7_mark : Cond) ∈ wsA := mem_A (List.mem_of_getElem? (i := 757) (by decide +kernel)) rfl
theorem mw_758 : (.code yX7_mark cX7_mark 3 (some .int) : Cond) ∈ wsA := mem_A (List.mem_of_getElem? (i := 758) (by decide +kernel)) rfl
theorem mw_761 : (.instanceMethod yX2_markAs : Cond) ∈ wsA := mem_A (List.mem_of_getElem? (i := 761) (by decide +kernel)) rfl
theorem mw_762 : (.code yX2_markAs cX2_markAs 4 (some .int) : Cond) ∈ wsA := mem_A (List.mem_of_getElem? (i := 762) (by decide +kernel)) rfl
theorem mw_763 : (.methodLink RX2 9 yX2_markAsCock : Cond) ∈ wsA := mem_A (List.mem_of_getElem? (i := 763) (by decide +kernel)) rfl
theorem mw_765 : (.instanceMethod yX2_markAsCock : Cond) ∈ wsA := mem_A (List.mem_of_getElem? (i := 765) (by decide +kernel)) rfl
theorem mw_766 : (.code yX2_markAsCock cX2_markAsCock 3 (some .int) : Cond) ∈ wsA := mem_A (List.mem_of_getElem? (i := 766) (by decide +kernel)) rfl
theorem mw_768 : (.methodLink RX2 15 yX2_markAsGold : Cond) ∈ wsA := mem_A (List.mem_of_getElem? (i := 768) (by decide +kernel)) rfl
theorem mw_770 : (.instanceMethod yX2_markAsGold : Cond) ∈ wsA := mem_A (List.mem_of_getElem? (i := 770) (by decide +kernel)) rfl
theorem mw_771 : (.code yX2_markAsGold cX2_markAsGold 3 (some .int) : Cond) ∈ wsA := mem_A (List.mem_of_getElem? (i := 771) (by decide +kernel)) rfl
theorem mw_772 : (.constantLong RX2 41 (10) : Cond) ∈ wsA := mem_A (List.mem_of_getElem? (i := 772) (by decide +kernel)) rfl
theorem mw_774 : (.methodLink RX2 18 yX2_markAsIron : Cond) ∈ wsA := mem_A (List.mem_of_getElem? (i := 774) (by decide +kernel)) rfl
theorem mw_776 : (.instanceMethod yX2_markAsIron : Cond) ∈ wsA := mem_A (List.mem_of_getElem? (i := 776) (by decide +kernel)) rfl
theorem mw_777 : (.code yX2_markAsIron cX2_markAsIron 3 (some .int) : Cond) ∈ wsA := mem_A (List.mem_of_getElem? (i := 777) (by decide +kernel)) rfl
theorem mw_778 : (.constantLong RX2 52 (100) : Cond) ∈ wsA := mem_A (List.mem_of_getElem? (i := 778) (by decide +kernel)) rfl
theorem mw_779 : (.methodLink RX2 21 yX2_markAsDean : Cond) ∈ wsA := mem_A (List.mem_of_getElem? (i := 779) (by decide +kernel)) rfl
theorem mw_781 : (.instanceMethod yX2_markAsDean : Cond) ∈ wsA := mem_A (List.mem_of_getElem? (i := 781) (by decide +kernel)) rfl
theorem mw_782 : (.code yX2_markAsDean cX2_markAsDean 3 (some .int) : Cond) ∈ wsA := mem_A (List.mem_of_getElem? (i := 782) (by decide +kernel)) rfl
theorem mw_783 : (.constantLong RX2 64 (1000) : Cond) ∈ wsA := mem_A (List.mem_of_getElem? (i := 783) (by decide +kernel)) rfl
theorem mw_784 : (.methodLink RX2 24 yX2_markAsBarn : Cond) ∈ wsA := mem_A (List.mem_of_getElem? (i := 784) (by decide +kernel)) rfl
theorem mw_786 : (.instanceMethod yX2_markAsBarn : Cond) ∈ wsA := mem_A (List.mem_of_getElem? (i := 786) (by decide +kernel)) rfl
theorem mw_787 : (.code yX2_markAsBarn cX2_markAsBarn 3 (some .int) : Cond) ∈ wsA := mem_A (List.mem_of_getElem? (i := 787) (by decide +kernel)) rfl
theorem mw_788 : (.constantLong RX2 66 (10000) : Cond) ∈ wsA := mem_A (List.mem_of_getElem? (i := 788) (by decide +kernel)) rfl
theorem mw_789 : (.methodLink RX2 27 yX2_markAsZinc : Cond) ∈ wsA := mem_A (List.mem_of_getElem? (i := 789) (by decide +kernel)) rfl
theorem mw_791 : (.instanceMethod yX2_markAsZinc : Cond) ∈ wsA := mem_A (List.mem_of_getElem? (i := 791) (by decide +kernel)) rfl
theorem mw_792 : (.code yX2_markAsZinc cX2_markAsZinc 3 (some .int) : Cond) ∈ wsA := mem_A (List.mem_of_getElem? (i := 792) (by decide +kernel)) rfl
theorem mw_793 : (.constantLong RX2 68 (100000) : Cond) ∈ wsA := mem_A (List.mem_of_getElem? (i := 793) (by decide +kernel)) rfl
theorem mw_794 : (.constant RX2 30 (-1000000) : Cond) ∈ wsA := mem_A (List.mem_of_getElem? (i := 794) (by decide +kernel)) rfl
theorem mw_795 : (.methodLink RL 117 yX7_keep : Cond) ∈ wsA := mem_A (List.mem_of_getElem? (i := 795) (by decide +kernel)) rfl
theorem mw_796 : (.instanceMethod yX7_keep : Cond) ∈ wsA := mem_A (List.mem_of_getElem? (i := 796) (by decide +kernel)) rfl
theorem mw_797 : (.selects RX7 yX7_keep yX7_keep : Cond) ∈ wsA := mem_A (List.mem_of_getElem? (i := 797) (by decide +kernel)) rfl
theorem mw_798 : (.code yX7_keep cX7_keep 2 (some .int) : Cond) ∈ wsA := mem_A (List.mem_of_getElem? (i := 798) (by decide +kernel)) rfl
theorem mw_801 : (.instanceMethod yX3_becomeAs : Cond) ∈ wsA := mem_A (List.mem_of_getElem? (i := 801) (by decide +kernel)) rfl
theorem mw_802 : (.code yX3_becomeAs cX3_becomeAs 2 none : Cond) ∈ wsA := mem_A (List.mem_of_getElem? (i := 802) (by decide +kernel)) rfl
theorem mw_804 : (.methodLink RL 121 yX7_back : Cond) ∈ wsA := mem_A (List.mem_of_getElem? (i := 804) (by decide +kernel)) rfl
theorem mw_805 : (.instanceMethod yX7_back : Cond) ∈ wsA := mem_A (List.mem_of_getElem? (i := 805) (by decide +kernel)) rfl
theorem mw_806 : (.selects RX7 yX7_back yX7_back : Cond) ∈ wsA := mem_A (List.mem_of_getElem? (i := 806) (by decide +kernel)) rfl
theorem mw_807 : (.code yX7_back cX7_back 2 (some .int) : Cond) ∈ wsA := mem_A (List.mem_of_getElem? (i := 807) (by decide +kernel)) rfl
theorem mw_808 : (.methodLink RX7 234 yX7_isIn : Cond) ∈ wsA := mem_A (List.mem_of_getElem? (i := 808) (by decide +kernel)) rfl
theorem mw_809 : (.methodLink RL 125 yX7_count : Cond) ∈ wsA := mem_A (List.mem_of_getElem? (i := 809) (by decide +kernel)) rfl
theorem mw_810 : (.instanceMethod yX7_count : Cond) ∈ wsA := mem_A (List.mem_of_getElem? (i := 810) (by decide +kernel)) rfl
theorem mw_811 : (.selects RX7 yX7_count yX7_count : Cond) ∈ wsA := mem_A (List.mem_of_getElem? (i := 811) (by decide +kernel)) rfl
theorem mw_812 : (.code yX7_count cX7_count 2 (some .int) : Cond) ∈ wsA := mem_A (List.mem_of_getElem? (i := 812) (by decide +kernel)) rfl
theorem mw_813 : (.methodLink RL 129 yX7_trace : Cond) ∈ wsA := mem_A (List.mem_of_getElem? (i := 813) (by decide +kernel)) rfl
theorem mw_814 : (.instanceMethod yX7_trace : Cond) ∈ wsA := mem_A (List.mem_of_getElem? (i := 814) (by decide +kernel)) rfl
theorem mw_815 : (.selects RX7 yX7_trace yX7_trace : Cond) ∈ wsA := mem_A (List.mem_of_getElem? (i := 815) (by decide +kernel)) rfl
theorem mw_816 : (.code yX7_trace cX7_trace 1 (some .long) : Cond) ∈ wsA := mem_A (List.mem_of_getElem? (i := 816) (by decide +kernel)) rfl
theorem mw_817 : (.classLink RL 10 RX8 : Cond) ∈ wsA := mem_A (List.mem_of_getElem? (i := 817) (by decide +kernel)) rfl
theorem mw_818 : (.instantiable RX8 37 : Cond) ∈ wsA := mem_A (List.mem_of_getElem? (i := 818) (by decide +kernel)) rfl
theorem mw_819 : (.methodLink RL 12 yX8_init : Cond) ∈ wsA := mem_A (List.mem_of_getElem? (i := 819) (by decide +kernel)) rfl
theorem mw_820 : (.instanceMethod yX8_init : Cond) ∈ wsA := mem_A (List.mem_of_getElem? (i := 820) (by decide +kernel)) rfl
theorem mw_821 : (.code yX8_init cX8_init 1 none : Cond) ∈ wsA := mem_A (List.mem_of_getElem? (i := 821) (by decide +kernel)) rfl
theorem mw_822 : (.methodLink RX8 1 objectInit : Cond) ∈ wsA := mem_A (List.mem_of_getElem? (i := 822) (by decide +kernel)) rfl
theorem mw_823 : (.fieldLink RX8 74 "AskedCocksModel" "cocks" "I" : Cond) ∈ wsA := mem_A (List.mem_of_getElem? (i := 823) (by decide +kernel)) rfl
theorem mw_824 : (.fieldLink RX8 7 "AskedCocksModel" "places" "[I" : Cond) ∈ wsA := mem_A (List.mem_of_getElem? (i := 824) (by decide +kernel)) rfl
theorem mw_825 : (.fieldLink RX8 13 "AskedCocksModel" "rises" "[I" : Cond) ∈ wsA := mem_A (List.mem_of_getElem? (i := 825) (by decide +kernel)) rfl
theorem mw_826 : (.fieldLink RX8 16 "AskedCocksModel" "sides" "[I" : Cond) ∈ wsA := mem_A (List.mem_of_getElem? (i := 826) (by decide +kernel)) rfl
theorem mw_827 : (.fieldLink RX8 19 "AskedCocksModel" "turns" "[I" : Cond) ∈ wsA := mem_A (List.mem_of_getElem? (i := 827) (by decide +kernel)) rfl
theorem mw_828 : (.fieldLink RX8 82 "AskedCocksModel" "people" "I" : Cond) ∈ wsA := mem_A (List.mem_of_getElem? (i := 828) (by decide +kernel)) rfl
theorem mw_829 : (.fieldLink RX8 22 "AskedCocksModel" "starts" "[I" : Cond) ∈ wsA := mem_A (List.mem_of_getElem? (i := 829) (by decide +kernel)) rfl
theorem mw_830 : (.fieldLink RX8 25 "AskedCocksModel" "speeds" "[I" : Cond) ∈ wsA := mem_A (List.mem_of_getElem? (i := 830) (by decide +kernel)) rfl
theorem mw_831 : (.fieldLink RX8 159 "AskedCocksModel" "smokes" "I" : Cond) ∈ wsA := mem_A (List.mem_of_getElem? (i := 831) (by decide +kernel)) rfl
theorem mw_832 : (.fieldLink RX8 28 "AskedCocksModel" "smoke" "[I" : Cond) ∈ wsA := mem_A (List.mem_of_getElem? (i := 832) (by decide +kernel)) rfl
theorem mw_833 : (.fieldLink RX8 31 "AskedCocksModel" "st" "[I" : Cond) ∈ wsA := mem_A (List.mem_of_getElem? (i := 833) (by decide +kernel)) rfl
theorem mw_834 : (.fieldLink RX8 34 "AskedCocksModel" "images" "[I" : Cond) ∈ wsA := mem_A (List.mem_of_getElem? (i := 834) (by decide +kernel)) rfl
theorem mw_835 : (.fieldLink RX8 37 "AskedCocksModel" "isKept" "[Z" : Cond) ∈ wsA := mem_A (List.mem_of_getElem? (i := 835) (by decide +kernel)) rfl
theorem mw_836 : (.fieldLink RX8 162 "AskedCocksModel" "facedMany" "I" : Cond) ∈ wsA := mem_A (List.mem_of_getElem? (i := 836) (by decide +kernel)) rfl
theorem mw_837 : (.fieldLink RX8 41 "AskedCocksModel" "facing" "[I" : Cond) ∈ wsA := mem_A (List.mem_of_getElem? (i := 837) (by decide +kernel)) rfl
theorem mw_838 : (.fieldLink RX8 165 "AskedCocksModel" "metMany" "I" : Cond) ∈ wsA := mem_A (List.mem_of_getElem? (i := 838) (by decide +kernel)) rfl
theorem mw_839 : (.fieldLink RX8 44 "AskedCocksModel" "meets" "[I" : Cond) ∈ wsA := mem_A (List.mem_of_getElem? (i := 839) (by decide +kernel)) rfl
theorem mw_840 : (.fieldLink RX8 257 "AskedCocksModel" "trace" "J" : Cond) ∈ wsA := mem_A (List.mem_of_getElem? (i := 840) (by decide +kernel)) rfl
theorem mw_841 : (.fieldLink RX8 47 "AskedCocksModel" "text" "[I" : Cond) ∈ wsA := mem_A (List.mem_of_getElem? (i := 841) (by decide +kernel)) rfl
theorem mw_842 : (.fieldLink RX8 85 "AskedCocksModel" "texted" "I" : Cond) ∈ wsA := mem_A (List.mem_of_getElem? (i := 842) (by decide +kernel)) rfl
theorem mw_843 : (.fieldLink RX8 88 "AskedCocksModel" "cursor" "I" : Cond) ∈ wsA := mem_A (List.mem_of_getElem? (i := 843) (by decide +kernel)) rfl
theorem mw_844 : (.fieldLink RX8 95 "AskedCocksModel" "start" "I" : Cond) ∈ wsA := mem_A (List.mem_of_getElem? (i := 844) (by decide +kernel)) rfl
theorem mw_845 : (.fieldLink RX8 101 "AskedCocksModel" "token" "I" : Cond) ∈ wsA := mem_A (List.mem_of_getElem? (i := 845) (by decide +kernel)) rfl
theorem mw_846 : (.fieldLink RX8 98 "AskedCocksModel" "number" "I" : Cond) ∈ wsA := mem_A (List.mem_of_getElem? (i := 846) (by decide +kernel)) rfl
theorem mw_847 : (.fieldLink RX8 111 "AskedCocksModel" "isWrong" "Z" : Cond) ∈ wsA := mem_A (List.mem_of_getElem? (i := 847) (by decide +kernel)) rfl
theorem mw_848 : (.fieldLink RX8 150 "AskedCocksModel" "items" "I" : Cond) ∈ wsA := mem_A (List.mem_of_getElem? (i := 848) (by decide +kernel)) rfl
theorem mw_849 : (.fieldLink RX8 50 "AskedCocksModel" "saidRoof" "[I" : Cond) ∈ wsA := mem_A (List.mem_of_getElem? (i := 849) (by decide +kernel)) rfl
theorem mw_850 : (.fieldLink RX8 122 "AskedCocksModel" "saidCocks" "I" : Cond) ∈ wsA := mem_A (List.mem_of_getElem? (i := 850) (by decide +kernel)) rfl
theorem mw_851 : (.fieldLink RX8 53 "AskedCocksModel" "saidPlace" "[I" : Cond) ∈ wsA := mem_A (List.mem_of_getElem? (i := 851) (by decide +kernel)) rfl
theorem mw_852 : (.fieldLink RX8 56 "AskedCocksModel" "saidRise" "[I" : Cond) ∈ wsA := mem_A (List.mem_of_getElem? (i := 852) (by decide +kernel)) rfl
theorem mw_853 : (.fieldLink RX8 59 "AskedCocksModel" "saidSide" "[I" : Cond) ∈ wsA := mem_A (List.mem_of_getElem? (i := 853) (by decide +kernel)) rfl
theorem mw_854 : (.fieldLink RX8 62 "AskedCocksModel" "saidTurn" "[I" : Cond) ∈ wsA := mem_A (List.mem_of_getElem? (i := 854) (by decide +kernel)) rfl
theorem mw_855 : (.fieldLink RX8 125 "AskedCocksModel" "saidPeople" "I" : Cond) ∈ wsA := mem_A (List.mem_of_getElem? (i := 855) (by decide +kernel)) rfl
theorem mw_856 : (.fieldLink RX8 65 "AskedCocksModel" "saidStart" "[I" : Cond) ∈ wsA := mem_A (List.mem_of_getElem? (i := 856) (by decide +kernel)) rfl
theorem mw_857 : (.fieldLink RX8 68 "AskedCocksModel" "saidSpeed" "[I" : Cond) ∈ wsA := mem_A (List.mem_of_getElem? (i := 857) (by decide +kernel)) rfl
theorem mw_858 : (.fieldLink RX8 128 "AskedCocksModel" "saidSmokes" "I" : Cond) ∈ wsA := mem_A (List.mem_of_getElem? (i := 858) (by decide +kernel)) rfl
theorem mw_859 : (.fieldLink RX8 71 "AskedCocksModel" "saidSmoke" "[I" : Cond) ∈ wsA := mem_A (List.mem_of_getElem? (i := 859) (by decide +kernel)) rfl
theorem mw_935 : (.arrayClass .boolean : Cond) ∈ wsA := mem_A (List.mem_of_getElem? (i := 935) (by decide +kernel)) rfl
theorem mw_936 : (.methodLink RL 17 yX8_type : Cond) ∈ wsA := mem_A (List.mem_of_getElem? (i := 936) (by decide +kernel)) rfl
theorem mw_937 : (.instanceMethod yX8_type : Cond) ∈ wsA := mem_A (List.mem_of_getElem? (i := 937) (by decide +kernel)) rfl
theorem mw_938 : (.selects RX8 yX8_type yX8_type : Cond) ∈ wsA := mem_A (List.mem_of_getElem? (i := 938) (by decide +kernel)) rfl
theorem mw_939 : (.code yX8_type cX8_type 2 (some .int) : Cond) ∈ wsA := mem_A (List.mem_of_getElem? (i := 939) (by decide +kernel)) rfl
theorem mw_940 : (.methodLink RX8 78 yX8_in : Cond) ∈ wsA := mem_A (List.mem_of_getElem? (i := 940) (by decide +kernel)) rfl
theorem mw_941 : (.static yX8_in : Cond) ∈ wsA := mem_A (List.mem_of_getElem? (i := 941) (by decide +kernel)) rfl
theorem mw_942 : (.code yX8_in cX8_in 3 (some .boolean) : Cond) ∈ wsA := mem_A (List.mem_of_getElem? (i := 942) (by decide +kernel)) rfl
theorem mw_943 : (.methodLink RL 22 yX8_clear : Cond) ∈ wsA := mem_A (List.mem_of_getElem? (i := 943) (by decide +kernel)) rfl
theorem mw_944 : (.instanceMethod yX8_clear : Cond) ∈ wsA := mem_A (List.mem_of_getElem? (i := 944) (by decide +kernel)) rfl
theorem mw_945 : (.selects RX8 yX8_clear yX8_clear : Cond) ∈ wsA := mem_A (List.mem_of_getElem? (i := 945) (by decide +kernel)) rfl
theorem mw_946 : (.code yX8_clear cX8_clear 2 (some .int) : Cond) ∈ wsA := mem_A (List.mem_of_getElem? (i := 946) (by decide +kernel)) rfl
theorem mw_947 : (.methodLink RL 26 yX8_diocese : Cond) ∈ wsA := mem_A (List.mem_of_getElem? (i := 947) (by decide +kernel)) rfl
theorem mw_948 : (.instanceMethod yX8_diocese : Cond) ∈ wsA := mem_A (List.mem_of_getElem? (i := 948) (by decide +kernel)) rfl
theorem mw_949 : (.selects RX8 yX8_diocese yX8_diocese : Cond) ∈ wsA := mem_A (List.mem_of_getElem? (i := 949) (by decide +kernel)) rfl
theorem mw_950 : (.code yX8_diocese cX8_diocese 2 (some .int) : Cond) ∈ wsA := mem_A (List.mem_of_getElem? (i := 950) (by decide +kernel)) rfl
theorem mw_951 : (.methodLink RX8 115 yX8_next : Cond) ∈ wsA := mem_A (List.mem_of_getElem? (i := 951) (by decide +kernel)) rfl
theorem mw_953 : (.instanceMethod yX8_next : Cond) ∈ wsA := mem_A (List.mem_of_getElem? (i := 953) (by decide +kernel)) rfl
theorem mw_954 : (.code yX8_next cX8_next 2 none : Cond) ∈ wsA := mem_A (List.mem_of_getElem? (i := 954) (by decide +kernel)) rfl
theorem mw_955 : (.methodLink RX8 91 yX8_letterAt : Cond) ∈ wsA := mem_A (List.mem_of_getElem? (i := 955) (by decide +kernel)) rfl
theorem mw_957 : (.instanceMethod yX8_letterAt : Cond) ∈ wsA := mem_A (List.mem_of_getElem? (i := 957) (by decide +kernel)) rfl
theorem mw_958 : (.code yX8_letterAt cX8_letterAt 2 (some .int) : Cond) ∈ wsA := mem_A (List.mem_of_getElem? (i := 958) (by decide +kernel)) rfl
theorem mw_959 : (.methodLink RX8 104 yX8_isFigure : Cond) ∈ wsA := mem_A (List.mem_of_getElem? (i := 959) (by decide +kernel)) rfl
theorem mw_960 : (.static yX8_isFigure : Cond) ∈ wsA := mem_A (List.mem_of_getElem? (i := 960) (by decide +kernel)) rfl
theorem mw_961 : (.code yX8_isFigure cX8_isFigure 1 (some .boolean) : Cond) ∈ wsA := mem_A (List.mem_of_getElem? (i := 961) (by decide +kernel)) rfl
theorem mw_962 : (.methodLink RX8 108 yX8_isLetter : Cond) ∈ wsA := mem_A (List.mem_of_getElem? (i := 962) (by decide +kernel)) rfl
theorem mw_963 : (.static yX8_isLetter : Cond) ∈ wsA := mem_A (List.mem_of_getElem? (i := 963) (by decide +kernel)) rfl
theorem mw_964 : (.code yX8_isLetter cX8_isLetter 1 (some .boolean) : Cond) ∈ wsA := mem_A (List.mem_of_getElem? (i := 964) (by decide +kernel)) rfl
theorem mw_965 : (.methodLink RX8 153 yX8_readItem : Cond) ∈ wsA := mem_A (List.mem_of_getElem? (i := 965) (by decide +kernel)) rfl
theorem mw_967 : (.instanceMethod yX8_readItem : Cond) ∈ wsA := mem_A (List.mem_of_getElem? (i := 967) (by decide +kernel)) rfl
theorem mw_968 : (.code yX8_readItem cX8_readItem 2 none : Cond) ∈ wsA := mem_A (List.mem_of_getElem? (i := 968) (by decide +kernel)) rfl
theorem mw_969 : (.methodLink RX8 143 yX8_mayBegin : Cond) ∈ wsA := mem_A (List.mem_of_getElem? (i := 969) (by decide +kernel)) rfl
theorem mw_971 : (.instanceMethod yX8_mayBegin : Cond) ∈ wsA := mem_A (List.mem_of_getElem? (i := 971) (by decide +kernel)) rfl
theorem mw_972 : (.code yX8_mayBegin cX8_mayBegin 2 (some .boolean) : Cond) ∈ wsA := mem_A (List.mem_of_getElem? (i := 972) (by decide +kernel)) rfl
theorem mw_973 : (.methodLink RX8 146 yX8_readBody : Cond) ∈ wsA := mem_A (List.mem_of_getElem? (i := 973) (by decide +kernel)) rfl
theorem mw_975 : (.instanceMethod yX8_readBody : Cond) ∈ wsA := mem_A (List.mem_of_getElem? (i := 975) (by decide +kernel)) rfl
theorem mw_976 : (.code yX8_readBody cX8_readBody 2 none : Cond) ∈ wsA := mem_A (List.mem_of_getElem? (i := 976) (by decide +kernel)) rfl
theorem mw_977 : (.methodLink RX8 131 yX8_readRoof : Cond) ∈ wsA := mem_A (List.mem_of_getElem? (i := 977) (by decide +kernel)) rfl
theorem mw_979 : (.instanceMethod yX8_readRoof : Cond) ∈ wsA := mem_A (List.mem_of_getElem? (i := 979) (by decide +kernel)) rfl
theorem mw_980 : (.code yX8_readRoof cX8_readRoof 2 none : Cond) ∈ wsA := mem_A (List.mem_of_getElem? (i := 980) (by decide +kernel)) rfl
theorem mw_981 : (.methodLink RX8 118 yX8_takesNumber : Cond) ∈ wsA := mem_A (List.mem_of_getElem? (i := 981) (by decide +kernel)) rfl
theorem mw_983 : (.instanceMethod yX8_takesNumber : Cond) ∈ wsA := mem_A (List.mem_of_getElem? (i := 983) (by decide +kernel)) rfl
theorem mw_984 : (.code yX8_takesNumber cX8_takesNumber 5 (some .int) : Cond) ∈ wsA := mem_A (List.mem_of_getElem? (i := 984) (by decide +kernel)) rfl
theorem mw_985 : (.methodLink RX8 134 yX8_readCock : Cond) ∈ wsA := mem_A (List.mem_of_getElem? (i := 985) (by decide +kernel)) rfl
theorem mw_987 : (.instanceMethod yX8_readCock : Cond) ∈ wsA := mem_A (List.mem_of_getElem? (i := 987) (by decide +kernel)) rfl
theorem mw_988 : (.code yX8_readCock cX8_readCock 1 none : Cond) ∈ wsA := mem_A (List.mem_of_getElem? (i := 988) (by decide +kernel)) rfl
theorem mw_989 : (.methodLink RX8 137 yX8_readOne : Cond) ∈ wsA := mem_A (List.mem_of_getElem? (i := 989) (by decide +kernel)) rfl
theorem mw_991 : (.instanceMethod yX8_readOne : Cond) ∈ wsA := mem_A (List.mem_of_getElem? (i := 991) (by decide +kernel)) rfl
theorem mw_992 : (.code yX8_readOne cX8_readOne 1 none : Cond) ∈ wsA := mem_A (List.mem_of_getElem? (i := 992) (by decide +kernel)) rfl
theorem mw_993 : (.methodLink RX8 140 yX8_readSmoke : Cond) ∈ wsA := mem_A (List.mem_of_getElem? (i := 993) (by decide +kernel)) rfl
theorem mw_995 : (.instanceMethod yX8_readSmoke : Cond) ∈ wsA := mem_A (List.mem_of_getElem? (i := 995) (by decide +kernel)) rfl
theorem mw_996 : (.code yX8_readSmoke cX8_readSmoke 2 none : Cond) ∈ wsA := mem_A (List.mem_of_getElem? (i := 996) (by decide +kernel)) rfl
theorem mw_997 : (.methodLink RX8 156 yX8_settles : Cond) ∈ wsA := mem_A (List.mem_of_getElem? (i := 997) (by decide +kernel)) rfl
theorem mw_999 : (.instanceMethod yX8_settles : Cond) ∈ wsA := mem_A (List.mem_of_getElem? (i := 999) (by decide +kernel)) rfl
theorem mw_1000 : (.code yX8_settles cX8_settles 2 none : Cond) ∈ wsA := mem_A (List.mem_of_getElem? (i := 1000) (by decide +kernel)) rfl
theorem mw_1001 : (.methodLink RL 30 yX8_roof : Cond) ∈ wsA := mem_A (List.mem_of_getElem? (i := 1001) (by decide +kernel)) rfl
theorem mw_1002 : (.instanceMethod yX8_roof : Cond) ∈ wsA := mem_A (List.mem_of_getElem? (i := 1002) (by decide +kernel)) rfl
theorem mw_1003 : (.selects RX8 yX8_roof yX8_roof : Cond) ∈ wsA := mem_A (List.mem_of_getElem? (i := 1003) (by decide +kernel)) rfl
theorem mw_1004 : (.code yX8_roof cX8_roof 2 (some .int) : Cond) ∈ wsA := mem_A (List.mem_of_getElem? (i := 1004) (by decide +kernel)) rfl
theorem mw_1005 : (.methodLink RX8 182 yX8_isCell : Cond) ∈ wsA := mem_A (List.mem_of_getElem? (i := 1005) (by decide +kernel)) rfl
theorem mw_1006 : (.static yX8_isCell : Cond) ∈ wsA := mem_A (List.mem_of_getElem? (i := 1006) (by decide +kernel)) rfl
theorem mw_1007 : (.code yX8_isCell cX8_isCell 1 (some .boolean) : Cond) ∈ wsA := mem_A (List.mem_of_getElem? (i := 1007) (by decide +kernel)) rfl
theorem mw_1008 : (.methodLink RL 35 yX8_cock : Cond) ∈ wsA := mem_A (List.mem_of_getElem? (i := 1008) (by decide +kernel)) rfl
theorem mw_1009 : (.instanceMethod yX8_cock : Cond) ∈ wsA := mem_A (List.mem_of_getElem? (i := 1009) (by decide +kernel)) rfl
theorem mw_1010 : (.selects RX8 yX8_cock yX8_cock : Cond) ∈ wsA := mem_A (List.mem_of_getElem? (i := 1010) (by decide +kernel)) rfl
theorem mw_1011 : (.code yX8_cock cX8_cock 3 (some .int) : Cond) ∈ wsA := mem_A (List.mem_of_getElem? (i := 1011) (by decide +kernel)) rfl
theorem mw_1012 : (.methodLink RX8 201 yX8_isCock : Cond) ∈ wsA := mem_A (List.mem_of_getElem? (i := 1012) (by decide +kernel)) rfl
theorem mw_1014 : (.instanceMethod yX8_isCock : Cond) ∈ wsA := mem_A (List.mem_of_getElem? (i := 1014) (by decide +kernel)) rfl
theorem mw_1015 : (.code yX8_isCock cX8_isCock 2 (some .boolean) : Cond) ∈ wsA := mem_A (List.mem_of_getElem? (i := 1015) (by decide +kernel)) rfl
theorem mw_1016 : (.methodLink RX8 172 yX8_eye : Cond) ∈ wsA := mem_A (List.mem_of_getElem? (i := 1016) (by decide +kernel)) rfl
theorem mw_1018 : (.instanceMethod yX8_eye : Cond) ∈ wsA := mem_A (List.mem_of_getElem? (i := 1018) (by decide +kernel)) rfl
theorem mw_1019 : (.code yX8_eye cX8_eye 2 (some .int) : Cond) ∈ wsA := mem_A (List.mem_of_getElem? (i := 1019) (by decide +kernel)) rfl
theorem mw_1020 : (.methodLink RX8 175 yX8_sideBy : Cond) ∈ wsA := mem_A (List.mem_of_getElem? (i := 1020) (by decide +kernel)) rfl
theorem mw_1021 : (.static yX8_sideBy : Cond) ∈ wsA := mem_A (List.mem_of_getElem? (i := 1021) (by decide +kernel)) rfl
theorem mw_1022 : (.code yX8_sideBy cX8_sideBy 3 (some .int) : Cond) ∈ wsA := mem_A (List.mem_of_getElem? (i := 1022) (by decide +kernel)) rfl
theorem mw_1023 : (.methodLink RX8 204 yX8_isAsked : Cond) ∈ wsA := mem_A (List.mem_of_getElem? (i := 1023) (by decide +kernel)) rfl
theorem mw_1025 : (.instanceMethod yX8_isAsked : Cond) ∈ wsA := mem_A (List.mem_of_getElem? (i := 1025) (by decide +kernel)) rfl
theorem mw_1026 : (.code yX8_isAsked cX8_isAsked 2 (some .boolean) : Cond) ∈ wsA := mem_A (List.mem_of_getElem? (i := 1026) (by decide +kernel)) rfl
theorem mw_1027 : (.methodLink RX8 168 yX8_has : Cond) ∈ wsA := mem_A (List.mem_of_getElem? (i := 1027) (by decide +kernel)) rfl
theorem mw_1028 : (.static yX8_has : Cond) ∈ wsA := mem_A (List.mem_of_getElem? (i := 1028) (by decide +kernel)) rfl
theorem mw_1029 : (.code yX8_has cX8_has 2 (some .boolean) : Cond) ∈ wsA := mem_A (List.mem_of_getElem? (i := 1029) (by decide +kernel)) rfl
theorem mw_1030 : (.methodLink RX8 191 yX8_sawBy : Cond) ∈ wsA := mem_A (List.mem_of_getElem? (i := 1030) (by decide +kernel)) rfl
theorem mw_1032 : (.instanceMethod yX8_sawBy : Cond) ∈ wsA := mem_A (List.mem_of_getElem? (i := 1032) (by decide +kernel)) rfl
theorem mw_1033 : (.code yX8_sawBy cX8_sawBy 6 (some .int) : Cond) ∈ wsA := mem_A (List.mem_of_getElem? (i := 1033) (by decide +kernel)) rfl
theorem mw_1034 : (.methodLink RX8 185 yX8_sawOf : Cond) ∈ wsA := mem_A (List.mem_of_getElem? (i := 1034) (by decide +kernel)) rfl
theorem mw_1036 : (.instanceMethod yX8_sawOf : Cond) ∈ wsA := mem_A (List.mem_of_getElem? (i := 1036) (by decide +kernel)) rfl
theorem mw_1037 : (.code yX8_sawOf cX8_sawOf 3 (some .int) : Cond) ∈ wsA := mem_A (List.mem_of_getElem? (i := 1037) (by decide +kernel)) rfl
theorem mw_1038 : (.methodLink RX8 188 yX8_bits : Cond) ∈ wsA := mem_A (List.mem_of_getElem? (i := 1038) (by decide +kernel)) rfl
theorem mw_1039 : (.static yX8_bits : Cond) ∈ wsA := mem_A (List.mem_of_getElem? (i := 1039) (by decide +kernel)) rfl
theorem mw_1040 : (.code yX8_bits cX8_bits 3 (some .int) : Cond) ∈ wsA := mem_A (List.mem_of_getElem? (i := 1040) (by decide +kernel)) rfl
theorem mw_1041 : (.methodLink RL 39 yX8_one : Cond) ∈ wsA := mem_A (List.mem_of_getElem? (i := 1041) (by decide +kernel)) rfl
theorem mw_1042 : (.instanceMethod yX8_one : Cond) ∈ wsA := mem_A (List.mem_of_getElem? (i := 1042) (by decide +kernel)) rfl
theorem mw_1043 : (.selects RX8 yX8_one yX8_one : Cond) ∈ wsA := mem_A (List.mem_of_getElem? (i := 1043) (by decide +kernel)) rfl
theorem mw_1044 : (.code yX8_one cX8_one 3 (some .int) : Cond) ∈ wsA := mem_A (List.mem_of_getElem? (i := 1044) (by decide +kernel)) rfl
theorem mw_1045 : (.methodLink RX8 207 yX8_isOne : Cond) ∈ wsA := mem_A (List.mem_of_getElem? (i := 1045) (by decide +kernel)) rfl
theorem mw_1047 : (.instanceMethod yX8_isOne : Cond) ∈ wsA := mem_A (List.mem_of_getElem? (i := 1047) (by decide +kernel)) rfl
theorem mw_1048 : (.code yX8_isOne cX8_isOne 2 (some .boolean) : Cond) ∈ wsA := mem_A (List.mem_of_getElem? (i := 1048) (by decide +kernel)) rfl
theorem mw_1049 : (.constant RX8 210 (-1000000) : Cond) ∈ wsA := mem_A (List.mem_of_getElem? (i := 1049) (by decide +kernel)) rfl
theorem mw_1050 : (.methodLink RX8 211 yX8_walks : Cond) ∈ wsA := mem_A (List.mem_of_getElem? (i := 1050) (by decide +kernel)) rfl
theorem mw_1052 : (.instanceMethod yX8_walks : Cond) ∈ wsA := mem_A (List.mem_of_getElem? (i := 1052) (by decide +kernel)) rfl
theorem mw_1053 : (.code yX8_walks cX8_walks 4 (some .int) : Cond) ∈ wsA := mem_A (List.mem_of_getElem? (i := 1053) (by decide +kernel)) rfl
theorem mw_1054 : (.methodLink RL 43 yX8_saw : Cond) ∈ wsA := mem_A (List.mem_of_getElem? (i := 1054) (by decide +kernel)) rfl
theorem mw_1055 : (.instanceMethod yX8_saw : Cond) ∈ wsA := mem_A (List.mem_of_getElem? (i := 1055) (by decide +kernel)) rfl
theorem mw_1056 : (.selects RX8 yX8_saw yX8_saw : Cond) ∈ wsA := mem_A (List.mem_of_getElem? (i := 1056) (by decide +kernel)) rfl
theorem mw_1057 : (.code yX8_saw cX8_saw 3 (some .int) : Cond) ∈ wsA := mem_A (List.mem_of_getElem? (i := 1057) (by decide +kernel)) rfl
theorem mw_1058 : (.methodLink RL 47 yX8_known : Cond) ∈ wsA := mem_A (List.mem_of_getElem? (i := 1058) (by decide +kernel)) rfl
theorem mw_1059 : (.instanceMethod yX8_known : Cond) ∈ wsA := mem_A (List.mem_of_getElem? (i := 1059) (by decide +kernel)) rfl
theorem mw_1060 : (.selects RX8 yX8_known yX8_known : Cond) ∈ wsA := mem_A (List.mem_of_getElem? (i := 1060) (by decide +kernel)) rfl
theorem mw_1061 : (.code yX8_known cX8_known 4 (some .int) : Cond) ∈ wsA := mem_A (List.mem_of_getElem? (i := 1061) (by decide +kernel)) rfl
theorem mw_1062 : (.methodLink RL 51 yX8_hours : Cond) ∈ wsA := mem_A (List.mem_of_getElem? (i := 1062) (by decide +kernel)) rfl
theorem mw_1063 : (.instanceMethod yX8_hours : Cond) ∈ wsA := mem_A (List.mem_of_getElem? (i := 1063) (by decide +kernel)) rfl
theorem mw_1064 : (.selects RX8 yX8_hours yX8_hours : Cond) ∈ wsA := mem_A (List.mem_of_getElem? (i := 1064) (by decide +kernel)) rfl
theorem mw_1065 : (.code yX8_hours cX8_hours 3 (some .int) : Cond) ∈ wsA := mem_A (List.mem_of_getElem? (i := 1065) (by decide +kernel)) rfl
theorem mw_1066 : (.methodLink RX8 220 yX8_remembers : Cond) ∈ wsA := mem_A (List.mem_of_getElem? (i := 1066) (by decide +kernel)) rfl
theorem mw_1068 : (.instanceMethod yX8_remembers : Cond) ∈ wsA := mem_A (List.mem_of_getElem? (i := 1068) (by decide +kernel)) rfl
theorem mw_1069 : (.code yX8_remembers cX8_remembers 3 none : Cond) ∈ wsA := mem_A (List.mem_of_getElem? (i := 1069) (by decide +kernel)) rfl
theorem mw_1070 : (.methodLink RX8 223 yX8_hourGoes : Cond) ∈ wsA := mem_A (List.mem_of_getElem? (i := 1070) (by decide +kernel)) rfl
theorem mw_1072 : (.instanceMethod yX8_hourGoes : Cond) ∈ wsA := mem_A (List.mem_of_getElem? (i := 1072) (by decide +kernel)) rfl
theorem mw_1073 : (.code yX8_hourGoes cX8_hourGoes 6 none : Cond) ∈ wsA := mem_A (List.mem_of_getElem? (i := 1073) (by decide +kernel)) rfl
theorem mw_1074 : (.methodLink RX8 214 yX8_sees : Cond) ∈ wsA := mem_A (List.mem_of_getElem? (i := 1074) (by decide +kernel)) rfl
theorem mw_1076 : (.instanceMethod yX8_sees : Cond) ∈ wsA := mem_A (List.mem_of_getElem? (i := 1076) (by decide +kernel)) rfl
theorem mw_1077 : (.code yX8_sees cX8_sees 5 (some .boolean) : Cond) ∈ wsA := mem_A (List.mem_of_getElem? (i := 1077) (by decide +kernel)) rfl
theorem mw_1078 : (.methodLink RX8 179 yX8_isClear : Cond) ∈ wsA := mem_A (List.mem_of_getElem? (i := 1078) (by decide +kernel)) rfl
theorem mw_1080 : (.instanceMethod yX8_isClear : Cond) ∈ wsA := mem_A (List.mem_of_getElem? (i := 1080) (by decide +kernel)) rfl
theorem mw_1081 : (.code yX8_isClear cX8_isClear 8 (some .boolean) : Cond) ∈ wsA := mem_A (List.mem_of_getElem? (i := 1081) (by decide +kernel)) rfl
theorem mw_1082 : (.methodLink RX8 217 yX8_isSmoke : Cond) ∈ wsA := mem_A (List.mem_of_getElem? (i := 1082) (by decide +kernel)) rfl
theorem mw_1084 : (.instanceMethod yX8_isSmoke : Cond) ∈ wsA := mem_A (List.mem_of_getElem? (i := 1084) (by decide +kernel)) rfl
theorem mw_1085 : (.code yX8_isSmoke cX8_isSmoke 5 (some .boolean) : Cond) ∈ wsA := mem_A (List.mem_of_getElem? (i := 1085) (by decide +kernel)) rfl
theorem mw_1086 : (.methodLink RL 55 yX8_builds : Cond) ∈ wsA := mem_A (List.mem_of_getElem? (i := 1086) (by decide +kernel)) rfl
theorem mw_1087 : (.instanceMethod yX8_builds : Cond) ∈ wsA := mem_A (List.mem_of_getElem? (i := 1087) (by decide +kernel)) rfl
theorem mw_1088 : (.selects RX8 yX8_builds yX8_builds : Cond) ∈ wsA := mem_A (List.mem_of_getElem? (i := 1088) (by decide +kernel)) rfl
theorem mw_1089 : (.code yX8_builds cX8_builds 4 (some .int) : Cond) ∈ wsA := mem_A (List.mem_of_getElem? (i := 1089) (by decide +kernel)) rfl
theorem mw_1090 : (.methodLink RL 59 yX8_asks : Cond) ∈ wsA := mem_A (List.mem_of_getElem? (i := 1090) (by decide +kernel)) rfl
theorem mw_1091 : (.instanceMethod yX8_asks : Cond) ∈ wsA := mem_A (List.mem_of_getElem? (i := 1091) (by decide +kernel)) rfl
theorem mw_1092 : (.selects RX8 yX8_asks yX8_asks : Cond) ∈ wsA := mem_A (List.mem_of_getElem? (i := 1092) (by decide +kernel)) rfl
theorem mw_1093 : (.code yX8_asks cX8_asks 3 (some .int) : Cond) ∈ wsA := mem_A (List.mem_of_getElem? (i := 1093) (by decide +kernel)) rfl
theorem mw_1094 : (.methodLink RX8 226 yX8_knownMuch : Cond) ∈ wsA := mem_A (List.mem_of_getElem? (i := 1094) (by decide +kernel)) rfl
theorem mw_1096 : (.instanceMethod yX8_knownMuch : Cond) ∈ wsA := mem_A (List.mem_of_getElem? (i := 1096) (by decide +kernel)) rfl
theorem mw_1097 : (.code yX8_knownMuch cX8_knownMuch 1 (some .int) : Cond) ∈ wsA := mem_A (List.mem_of_getElem? (i := 1097) (by decide +kernel)) rfl
theorem mw_1098 : (.methodLink RL 63 yX8_undo : Cond) ∈ wsA := mem_A (List.mem_of_getElem? (i := 1098) (by decide +kernel)) rfl
theorem mw_1099 : (.instanceMethod yX8_undo : Cond) ∈ wsA := mem_A (List.mem_of_getElem? (i := 1099) (by decide +kernel)) rfl
theorem mw_1100 : (.selects RX8 yX8_undo yX8_undo : Cond) ∈ wsA := mem_A (List.mem_of_getElem? (i := 1100) (by decide +kernel)) rfl
theorem mw_1101 : (.code yX8_undo cX8_undo 3 (some .int) : Cond) ∈ wsA := mem_A (List.mem_of_getElem? (i := 1101) (by decide +kernel)) rfl
theorem mw_1102 : (.methodLink RL 67 yX8_now : Cond) ∈ wsA := mem_A (List.mem_of_getElem? (i := 1102) (by decide +kernel)) rfl
theorem mw_1103 : (.instanceMethod yX8_now : Cond) ∈ wsA := mem_A (List.mem_of_getElem? (i := 1103) (by decide +kernel)) rfl
theorem mw_1104 : (.selects RX8 yX8_now yX8_now : Cond) ∈ wsA := mem_A (List.mem_of_getElem? (i := 1104) (by decide +kernel)) rfl
theorem mw_1105 : (.code yX8_now cX8_now 2 (some .int) : Cond) ∈ wsA := mem_A (List.mem_of_getElem? (i := 1105) (by decide +kernel)) rfl
theorem mw_1106 : (.methodLink RX8 194 yX8_all : Cond) ∈ wsA := mem_A (List.mem_of_getElem? (i := 1106) (by decide +kernel)) rfl
theorem mw_1108 : (.instanceMethod yX8_all : Cond) ∈ wsA := mem_A (List.mem_of_getElem? (i := 1108) (by decide +kernel)) rfl
theorem mw_1109 : (.code yX8_all cX8_all 1 (some .int) : Cond) ∈ wsA := mem_A (List.mem_of_getElem? (i := 1109) (by decide +kernel)) rfl
theorem mw_1110 : (.methodLink RX8 229 yX8_cover : Cond) ∈ wsA := mem_A (List.mem_of_getElem? (i := 1110) (by decide +kernel)) rfl
theorem mw_1112 : (.instanceMethod yX8_cover : Cond) ∈ wsA := mem_A (List.mem_of_getElem? (i := 1112) (by decide +kernel)) rfl
theorem mw_1113 : (.code yX8_cover cX8_cover 4 (some .int) : Cond) ∈ wsA := mem_A (List.mem_of_getElem? (i := 1113) (by decide +kernel)) rfl
theorem mw_1114 : (.methodLink RX8 198 yX8_isLess : Cond) ∈ wsA := mem_A (List.mem_of_getElem? (i := 1114) (by decide +kernel)) rfl
theorem mw_1115 : (.static yX8_isLess : Cond) ∈ wsA := mem_A (List.mem_of_getElem? (i := 1115) (by decide +kernel)) rfl
theorem mw_1116 : (.code yX8_isLess cX8_isLess 2 (some .boolean) : Cond) ∈ wsA := mem_A (List.mem_of_getElem? (i := 1116) (by decide +kernel)) rfl
theorem mw_1117 : (.methodLink RL 71 yX8_view : Cond) ∈ wsA := mem_A (List.mem_of_getElem? (i := 1117) (by decide +kernel)) rfl
theorem mw_1118 : (.instanceMethod yX8_view : Cond) ∈ wsA := mem_A (List.mem_of_getElem? (i := 1118) (by decide +kernel)) rfl
theorem mw_1119 : (.selects RX8 yX8_view yX8_view : Cond) ∈ wsA := mem_A (List.mem_of_getElem? (i := 1119) (by decide +kernel)) rfl
theorem mw_1120 : (.code yX8_view cX8_view 3 (some .int) : Cond) ∈ wsA := mem_A (List.mem_of_getElem? (i := 1120) (by decide +kernel)) rfl
theorem mw_1121 : (.methodLink RX8 232 yX8_isHour : Cond) ∈ wsA := mem_A (List.mem_of_getElem? (i := 1121) (by decide +kernel)) rfl
theorem mw_1122 : (.static yX8_isHour : Cond) ∈ wsA := mem_A (List.mem_of_getElem? (i := 1122) (by decide +kernel)) rfl
theorem mw_1123 : (.code yX8_isHour cX8_isHour 1 (some .boolean) : Cond) ∈ wsA := mem_A (List.mem_of_getElem? (i := 1123) (by decide +kernel)) rfl
theorem mw_1124 : (.methodLink RX8 235 yX8_viewOf : Cond) ∈ wsA := mem_A (List.mem_of_getElem? (i := 1124) (by decide +kernel)) rfl
theorem mw_1126 : (.instanceMethod yX8_viewOf : Cond) ∈ wsA := mem_A (List.mem_of_getElem? (i := 1126) (by decide +kernel)) rfl
theorem mw_1127 : (.code yX8_viewOf cX8_viewOf 5 (some .int) : Cond) ∈ wsA := mem_A (List.mem_of_getElem? (i := 1127) (by decide +kernel)) rfl
theorem mw_1128 : (.methodLink RL 75 yX8_blind : Cond) ∈ wsA := mem_A (List.mem_of_getElem? (i := 1128) (by decide +kernel)) rfl
theorem mw_1129 : (.instanceMethod yX8_blind : Cond) ∈ wsA := mem_A (List.mem_of_getElem? (i := 1129) (by decide +kernel)) rfl
theorem mw_1130 : (.selects RX8 yX8_blind yX8_blind : Cond) ∈ wsA := mem_A (List.mem_of_getElem? (i := 1130) (by decide +kernel)) rfl
theorem mw_1131 : (.code yX8_blind cX8_blind 4 (some .int) : Cond) ∈ wsA := mem_A (List.mem_of_getElem? (i := 1131) (by decide +kernel)) rfl
theorem mw_1132 : (.constant RX8 238 (16777215) : Cond) ∈ wsA := mem_A (List.mem_of_getElem? (i := 1132) (by decide +kernel)) rfl
theorem mw_1133 : (.methodLink RL 79 yX8_most : Cond) ∈ wsA := mem_A (List.mem_of_getElem? (i := 1133) (by decide +kernel)) rfl
theorem mw_1134 : (.instanceMethod yX8_most : Cond) ∈ wsA := mem_A (List.mem_of_getElem? (i := 1134) (by decide +kernel)) rfl
theorem mw_1135 : (.selects RX8 yX8_most yX8_most : Cond) ∈ wsA := mem_A (List.mem_of_getElem? (i := 1135) (by decide +kernel)) rfl
theorem mw_1136 : (.code yX8_most cX8_most 8 (some .int) : Cond) ∈ wsA := mem_A (List.mem_of_getElem? (i := 1136) (by decide +kernel)) rfl
theorem mw_1137 : (.methodLink RX8 239 yX8_takes : Cond) ∈ wsA := mem_A (List.mem_of_getElem? (i := 1137) (by decide +kernel)) rfl
theorem mw_1139 : (.instanceMethod yX8_takes : Cond) ∈ wsA := mem_A (List.mem_of_getElem? (i := 1139) (by decide +kernel)) rfl
theorem mw_1140 : (.code yX8_takes cX8_takes 4 (some .int) : Cond) ∈ wsA := mem_A (List.mem_of_getElem? (i := 1140) (by decide +kernel)) rfl
theorem mw_1141 : (.methodLink RL 84 yX8_odds : Cond) ∈ wsA := mem_A (List.mem_of_getElem? (i := 1141) (by decide +kernel)) rfl
theorem mw_1142 : (.instanceMethod yX8_odds : Cond) ∈ wsA := mem_A (List.mem_of_getElem? (i := 1142) (by decide +kernel)) rfl
theorem mw_1143 : (.selects RX8 yX8_odds yX8_odds : Cond) ∈ wsA := mem_A (List.mem_of_getElem? (i := 1143) (by decide +kernel)) rfl
theorem mw_1144 : (.code yX8_odds cX8_odds 11 (some .int) : Cond) ∈ wsA := mem_A (List.mem_of_getElem? (i := 1144) (by decide +kernel)) rfl
theorem mw_1145 : (.methodLink RX8 242 yX8_lowest : Cond) ∈ wsA := mem_A (List.mem_of_getElem? (i := 1145) (by decide +kernel)) rfl
theorem mw_1146 : (.static yX8_lowest : Cond) ∈ wsA := mem_A (List.mem_of_getElem? (i := 1146) (by decide +kernel)) rfl
theorem mw_1147 : (.code yX8_lowest cX8_lowest 6 (some .int) : Cond) ∈ wsA := mem_A (List.mem_of_getElem? (i := 1147) (by decide +kernel)) rfl
theorem mw_1148 : (.methodLink RL 88 yX8_faced : Cond) ∈ wsA := mem_A (List.mem_of_getElem? (i := 1148) (by decide +kernel)) rfl
theorem mw_1149 : (.instanceMethod yX8_faced : Cond) ∈ wsA := mem_A (List.mem_of_getElem? (i := 1149) (by decide +kernel)) rfl
theorem mw_1150 : (.selects RX8 yX8_faced yX8_faced : Cond) ∈ wsA := mem_A (List.mem_of_getElem? (i := 1150) (by decide +kernel)) rfl
theorem mw_1151 : (.code yX8_faced cX8_faced 3 (some .int) : Cond) ∈ wsA := mem_A (List.mem_of_getElem? (i := 1151) (by decide +kernel)) rfl
theorem mw_1152 : (.methodLink RL 92 yX8_laws : Cond) ∈ wsA := mem_A (List.mem_of_getElem? (i := 1152) (by decide +kernel)) rfl
theorem mw_1153 : (.instanceMethod yX8_laws : Cond) ∈ wsA := mem_A (List.mem_of_getElem? (i := 1153) (by decide +kernel)) rfl
theorem mw_1154 : (.selects RX8 yX8_laws yX8_laws : Cond) ∈ wsA := mem_A (List.mem_of_getElem? (i := 1154) (by decide +kernel)) rfl
theorem mw_1155 : (.code yX8_laws cX8_laws 5 (some .int) : Cond) ∈ wsA := mem_A (List.mem_of_getElem? (i := 1155) (by decide +kernel)) rfl
theorem mw_1156 : (.methodLink RX8 245 yX8_isLaw : Cond) ∈ wsA := mem_A (List.mem_of_getElem? (i := 1156) (by decide +kernel)) rfl
theorem mw_1158 : (.instanceMethod yX8_isLaw : Cond) ∈ wsA := mem_A (List.mem_of_getElem? (i := 1158) (by decide +kernel)) rfl
theorem mw_1159 : (.code yX8_isLaw cX8_isLaw 4 (some .boolean) : Cond) ∈ wsA := mem_A (List.mem_of_getElem? (i := 1159) (by decide +kernel)) rfl
theorem mw_1160 : (.methodLink RL 96 yX8_tryNext : Cond) ∈ wsA := mem_A (List.mem_of_getElem? (i := 1160) (by decide +kernel)) rfl
theorem mw_1161 : (.instanceMethod yX8_tryNext : Cond) ∈ wsA := mem_A (List.mem_of_getElem? (i := 1161) (by decide +kernel)) rfl
theorem mw_1162 : (.selects RX8 yX8_tryNext yX8_tryNext : Cond) ∈ wsA := mem_A (List.mem_of_getElem? (i := 1162) (by decide +kernel)) rfl
theorem mw_1163 : (.code yX8_tryNext cX8_tryNext 7 (some .int) : Cond) ∈ wsA := mem_A (List.mem_of_getElem? (i := 1163) (by decide +kernel)) rfl
theorem mw_1164 : (.methodLink RX8 248 yX8_laws : Cond) ∈ wsA := mem_A (List.mem_of_getElem? (i := 1164) (by decide +kernel)) rfl
theorem mw_1165 : (.methodLink RL 100 yX8_met : Cond) ∈ wsA := mem_A (List.mem_of_getElem? (i := 1165) (by decide +kernel)) rfl
theorem mw_1166 : (.instanceMethod yX8_met : Cond) ∈ wsA := mem_A (List.mem_of_getElem? (i := 1166) (by decide +kernel)) rfl
theorem mw_1167 : (.selects RX8 yX8_met yX8_met : Cond) ∈ wsA := mem_A (List.mem_of_getElem? (i := 1167) (by decide +kernel)) rfl
theorem mw_1168 : (.code yX8_met cX8_met 3 (some .int) : Cond) ∈ wsA := mem_A (List.mem_of_getElem? (i := 1168) (by decide +kernel)) rfl
theorem mw_1169 : (.methodLink RL 104 yX8_ways : Cond) ∈ wsA := mem_A (List.mem_of_getElem? (i := 1169) (by decide +kernel)) rfl
theorem mw_1170 : (.instanceMethod yX8_ways : Cond) ∈ wsA := mem_A (List.mem_of_getElem? (i := 1170) (by decide +kernel)) rfl
theorem mw_1171 : (.selects RX8 yX8_ways yX8_ways : Cond) ∈ wsA := mem_A (List.mem_of_getElem? (i := 1171) (by decide +kernel)) rfl
theorem mw_1172 : (.code yX8_ways cX8_ways 5 (some .int) : Cond) ∈ wsA := mem_A (List.mem_of_getElem? (i := 1172) (by decide +kernel)) rfl
theorem mw_1173 : (.methodLink RX8 251 yX8_wrong : Cond) ∈ wsA := mem_A (List.mem_of_getElem? (i := 1173) (by decide +kernel)) rfl
theorem mw_1175 : (.instanceMethod yX8_wrong : Cond) ∈ wsA := mem_A (List.mem_of_getElem? (i := 1175) (by decide +kernel)) rfl
theorem mw_1176 : (.code yX8_wrong cX8_wrong 4 (some .int) : Cond) ∈ wsA := mem_A (List.mem_of_getElem? (i := 1176) (by decide +kernel)) rfl
theorem mw_1177 : (.methodLink RX8 254 yX8_told : Cond) ∈ wsA := mem_A (List.mem_of_getElem? (i := 1177) (by decide +kernel)) rfl
theorem mw_1178 : (.static yX8_told : Cond) ∈ wsA := mem_A (List.mem_of_getElem? (i := 1178) (by decide +kernel)) rfl
theorem mw_1179 : (.code yX8_told cX8_told 1 (some .int) : Cond) ∈ wsA := mem_A (List.mem_of_getElem? (i := 1179) (by decide +kernel)) rfl
theorem mw_1180 : (.methodLink RL 108 yX8_falses : Cond) ∈ wsA := mem_A (List.mem_of_getElem? (i := 1180) (by decide +kernel)) rfl
theorem mw_1181 : (.instanceMethod yX8_falses : Cond) ∈ wsA := mem_A (List.mem_of_getElem? (i := 1181) (by decide +kernel)) rfl
theorem mw_1182 : (.selects RX8 yX8_falses yX8_falses : Cond) ∈ wsA := mem_A (List.mem_of_getElem? (i := 1182) (by decide +kernel)) rfl
theorem mw_1183 : (.code yX8_falses cX8_falses 4 (some .int) : Cond) ∈ wsA := mem_A (List.mem_of_getElem? (i := 1183) (by decide +kernel)) rfl
theorem mw_1184 : (.methodLink RL 112 yX8_forget : Cond) ∈ wsA := mem_A (List.mem_of_getElem? (i := 1184) (by decide +kernel)) rfl
theorem mw_1185 : (.instanceMethod yX8_forget : Cond) ∈ wsA := mem_A (List.mem_of_getElem? (i := 1185) (by decide +kernel)) rfl
theorem mw_1186 : (.selects RX8 yX8_forget yX8_forget : Cond) ∈ wsA := mem_A (List.mem_of_getElem? (i := 1186) (by decide +kernel)) rfl
theorem mw_1187 : (.code yX8_forget cX8_forget 2 (some .int) : Cond) ∈ wsA := mem_A (List.mem_of_getElem? (i := 1187) (by decide +kernel)) rfl
theorem mw_1188 : (.methodLink RL 116 yX8_mark : Cond) ∈ wsA := mem_A (List.mem_of_getElem? (i := 1188) (by decide +kernel)) rfl
theorem mw_1189 : (.instanceMethod yX8_mark : Cond) ∈ wsA := mem_A (List.mem_of_getElem? (i := 1189) (by decide +kernel)) rfl
theorem mw_1190 : (.selects RX8 yX8_mark yX8_mark : Cond) ∈ wsA := mem_A (List.mem_of_getElem? (i := 1190) (by decide +kernel)) rfl
theorem mw_1191 : (.code yX8_mark cX8_mark 6 (some .int) : Cond) ∈ wsA := mem_A (List.mem_of_getElem? (i := 1191) (by decide +kernel)) rfl
theorem mw_1192 : (.constantLong RX8 261 (11) : Cond) ∈ wsA := mem_A (List.mem_of_getElem? (i := 1192) (by decide +kernel)) rfl
theorem mw_1193 : (.constantLong RX8 263 (101) : Cond) ∈ wsA := mem_A (List.mem_of_getElem? (i := 1193) (by decide +kernel)) rfl
theorem mw_1194 : (.constantLong RX8 265 (1011) : Cond) ∈ wsA := mem_A (List.mem_of_getElem? (i := 1194) (by decide +kernel)) rfl
theorem mw_1195 : (.constantLong RX8 267 (10101) : Cond) ∈ wsA := mem_A (List.mem_of_getElem? (i := 1195) (by decide +kernel)) rfl
theorem mw_1196 : (.constantLong RX8 269 (100001) : Cond) ∈ wsA := mem_A (List.mem_of_getElem? (i := 1196) (by decide +kernel)) rfl
theorem mw_1197 : (.methodLink RL 120 yX8_keep : Cond) ∈ wsA := mem_A (List.mem_of_getElem? (i := 1197) (by decide +kernel)) rfl
theorem mw_1198 : (.instanceMethod yX8_keep : Cond) ∈ wsA := mem_A (List.mem_of_getElem? (i := 1198) (by decide +kernel)) rfl
theorem mw_1199 : (.selects RX8 yX8_keep yX8_keep : Cond) ∈ wsA := mem_A (List.mem_of_getElem? (i := 1199) (by decide +kernel)) rfl
theorem mw_1200 : (.code yX8_keep cX8_keep 3 (some .int) : Cond) ∈ wsA := mem_A (List.mem_of_getElem? (i := 1200) (by decide +kernel)) rfl
theorem mw_1201 : (.methodLink RL 124 yX8_back : Cond) ∈ wsA := mem_A (List.mem_of_getElem? (i := 1201) (by decide +kernel)) rfl
theorem mw_1202 : (.instanceMethod yX8_back : Cond) ∈ wsA := mem_A (List.mem_of_getElem? (i := 1202) (by decide +kernel)) rfl
theorem mw_1203 : (.selects RX8 yX8_back yX8_back : Cond) ∈ wsA := mem_A (List.mem_of_getElem? (i := 1203) (by decide +kernel)) rfl
theorem mw_1204 : (.code yX8_back cX8_back 3 (some .int) : Cond) ∈ wsA := mem_A (List.mem_of_getElem? (i := 1204) (by decide +kernel)) rfl
theorem mw_1205 : (.methodLink RL 128 yX8_count : Cond) ∈ wsA := mem_A (List.mem_of_getElem? (i := 1205) (by decide +kernel)) rfl
theorem mw_1206 : (.instanceMethod yX8_count : Cond) ∈ wsA := mem_A (List.mem_of_getElem? (i := 1206) (by decide +kernel)) rfl
theorem mw_1207 : (.selects RX8 yX8_count yX8_count : Cond) ∈ wsA := mem_A (List.mem_of_getElem? (i := 1207) (by decide +kernel)) rfl
theorem mw_1208 : (.code yX8_count cX8_count 2 (some .int) : Cond) ∈ wsA := mem_A (List.mem_of_getElem? (i := 1208) (by decide +kernel)) rfl
theorem mw_1209 : (.methodLink RL 133 yX8_trace : Cond) ∈ wsA := mem_A (List.mem_of_getElem? (i := 1209) (by decide +kernel)) rfl
theorem mw_1210 : (.instanceMethod yX8_trace : Cond) ∈ wsA := mem_A (List.mem_of_getElem? (i := 1210) (by decide +kernel)) rfl
theorem mw_1211 : (.selects RX8 yX8_trace yX8_trace : Cond) ∈ wsA := mem_A (List.mem_of_getElem? (i := 1211) (by decide +kernel)) rfl
theorem mw_1212 : (.code yX8_trace cX8_trace 1 (some .long) : Cond) ∈ wsA := mem_A (List.mem_of_getElem? (i := 1212) (by decide +kernel)) rfl
theorem ilX0_0 : u_lay RX0 TX0 0 ∈ wsA := mem_A (List.mem_of_getElem? (i := 279) (by decide +kernel)) rfl
theorem ilX0_1 : u_lay RX0 TX0 1 ∈ wsA := mem_A (List.mem_of_getElem? (i := 281) (by decide +kernel)) rfl
theorem ilX0_2 : u_lay RX0 TX0 2 ∈ wsA := mem_A (List.mem_of_getElem? (i := 283) (by decide +kernel)) rfl
theorem ilX0_3 : u_lay RX0 TX0 3 ∈ wsA := mem_A (List.mem_of_getElem? (i := 285) (by decide +kernel)) rfl
theorem ilX0_4 : u_lay RX0 TX0 4 ∈ wsA := mem_A (List.mem_of_getElem? (i := 287) (by decide +kernel)) rfl
theorem ilX0_5 : u_lay RX0 TX0 5 ∈ wsA := mem_A (List.mem_of_getElem? (i := 289) (by decide +kernel)) rfl
theorem inlX0 : ∀ x ∈ u_ws RX0 TX0 6, x ∈ wsA := u_all (show ∀ k, k < 6 → u_lay RX0 TX0 k ∈ wsA from (lt_s (lt_s (lt_s (lt_s (lt_s (lt_s lt_0 ilX0_0) ilX0_1) ilX0_2) ilX0_3) ilX0_4) ilX0_5))
theorem ilX1_0 : u_lay RX1 TX1 0 ∈ wsA := mem_A (List.mem_of_getElem? (i := 181) (by decide +kernel)) rfl
theorem ilX1_1 : u_lay RX1 TX1 1 ∈ wsA := mem_A (List.mem_of_getElem? (i := 183) (by decide +kernel)) rfl
theorem ilX1_2 : u_lay RX1 TX1 2 ∈ wsA := mem_A (List.mem_of_getElem? (i := 185) (by decide +kernel)) rfl
theorem ilX1_3 : u_lay RX1 TX1 3 ∈ wsA := mem_A (List.mem_of_getElem? (i := 187) (by decide +kernel)) rfl
theorem ilX1_4 : u_lay RX1 TX1 4 ∈ wsA := mem_A (List.mem_of_getElem? (i := 189) (by decide +kernel)) rfl
theorem ilX1_5 : u_lay RX1 TX1 5 ∈ wsA := mem_A (List.mem_of_getElem? (i := 191) (by decide +kernel)) rfl
theorem ilX1_6 : u_lay RX1 TX1 6 ∈ wsA := mem_A (List.mem_of_getElem? (i := 193) (by decide +kernel)) rfl
theorem inlX1 : ∀ x ∈ u_ws RX1 TX1 7, x ∈ wsA := u_all (show ∀ k, k < 7 → u_lay RX1 TX1 k ∈ wsA from (lt_s (lt_s (lt_s (lt_s (lt_s (lt_s (lt_s lt_0 ilX1_0) ilX1_1) ilX1_2) ilX1_3) ilX1_4) ilX1_5) ilX1_6))
theorem ilX2_0 : u_lay RX2 TX2 0 ∈ wsA := mem_A (List.mem_of_getElem? (i := 300) (by decide +kernel)) rfl
theorem inlX2 : ∀ x ∈ u_ws RX2 TX2 1, x ∈ wsA := u_all (show ∀ k, k < 1 → u_lay RX2 TX2 k ∈ wsA from (lt_s lt_0 ilX2_0))
theorem ilX3_0 : u_lay RX3 TX3 0 ∈ wsA := mem_A (List.mem_of_getElem? (i := 237) (by decide +kernel)) rfl
theorem ilX3_1 : u_lay RX3 TX3 1 ∈ wsA := mem_A (List.mem_of_getElem? (i := 239) (by decide +kernel)) rfl
theorem ilX3_2 : u_lay RX3 TX3 2 ∈ wsA := mem_A (List.mem_of_getElem? (i := 241) (by decide +kernel)) rfl
theorem ilX3_3 : u_lay RX3 TX3 3 ∈ wsA := mem_A (List.mem_of_getElem? (i := 243) (by decide +kernel)) rfl
theorem ilX3_4 : u_lay RX3 TX3 4 ∈ wsA := mem_A (List.mem_of_getElem? (i := 245) (by decide +kernel)) rfl
theorem ilX3_5 : u_lay RX3 TX3 5 ∈ wsA := mem_A (List.mem_of_getElem? (i := 247) (by decide +kernel)) rfl
theorem ilX3_6 : u_lay RX3 TX3 6 ∈ wsA := mem_A (List.mem_of_getElem? (i := 249) (by decide +kernel)) rfl
theorem ilX3_7 : u_lay RX3 TX3 7 ∈ wsA := mem_A (List.mem_of_getElem? (i := 251) (by decide +kernel)) rfl
theorem inlX3 : ∀ x ∈ u_ws RX3 TX3 8, x ∈ wsA := u_all (show ∀ k, k < 8 → u_lay RX3 TX3 k ∈ wsA from (lt_s (lt_s (lt_s (lt_s (lt_s (lt_s (lt_s (lt_s lt_0 ilX3_0) ilX3_1) ilX3_2) ilX3_3) ilX3_4) ilX3_5) ilX3_6) ilX3_7))
theorem ilX4_0 : u_lay RX4 TX4 0 ∈ wsA := mem_A (List.mem_of_getElem? (i := 199) (by decide +kernel)) rfl
theorem ilX4_1 : u_lay RX4 TX4 1 ∈ wsA := mem_A (List.mem_of_getElem? (i := 201) (by decide +kernel)) rfl
theorem inlX4 : ∀ x ∈ u_ws RX4 TX4 2, x ∈ wsA := u_all (show ∀ k, k < 2 → u_lay RX4 TX4 k ∈ wsA from (lt_s (lt_s lt_0 ilX4_0) ilX4_1))
theorem ilX5_0 : u_lay RX5 TX5 0 ∈ wsA := mem_A (List.mem_of_getElem? (i := 134) (by decide +kernel)) rfl
theorem ilX5_1 : u_lay RX5 TX5 1 ∈ wsA := mem_A (List.mem_of_getElem? (i := 136) (by decide +kernel)) rfl
theorem ilX5_2 : u_lay RX5 TX5 2 ∈ wsA := mem_A (List.mem_of_getElem? (i := 138) (by decide +kernel)) rfl
theorem ilX5_3 : u_lay RX5 TX5 3 ∈ wsA := mem_A (List.mem_of_getElem? (i := 140) (by decide +kernel)) rfl
theorem ilX5_4 : u_lay RX5 TX5 4 ∈ wsA := mem_A (List.mem_of_getElem? (i := 142) (by decide +kernel)) rfl
theorem inlX5 : ∀ x ∈ u_ws RX5 TX5 5, x ∈ wsA := u_all (show ∀ k, k < 5 → u_lay RX5 TX5 k ∈ wsA from (lt_s (lt_s (lt_s (lt_s (lt_s lt_0 ilX5_0) ilX5_1) ilX5_2) ilX5_3) ilX5_4))
theorem ilX6_0 : u_lay RX6 TX6 0 ∈ wsA := mem_A (List.mem_of_getElem? (i := 260) (by decide +kernel)) rfl
theorem ilX6_1 : u_lay RX6 TX6 1 ∈ wsA := mem_A (List.mem_of_getElem? (i := 262) (by decide +kernel)) rfl
theorem inlX6 : ∀ x ∈ u_ws RX6 TX6 2, x ∈ wsA := u_all (show ∀ k, k < 2 → u_lay RX6 TX6 k ∈ wsA from (lt_s (lt_s lt_0 ilX6_0) ilX6_1))
theorem ilX7_0 : u_lay RX7 TX7 0 ∈ wsA := mem_A (List.mem_of_getElem? (i := 313) (by decide +kernel)) rfl
theorem ilX7_1 : u_lay RX7 TX7 1 ∈ wsA := mem_A (List.mem_of_getElem? (i := 315) (by decide +kernel)) rfl
theorem ilX7_2 : u_lay RX7 TX7 2 ∈ wsA := mem_A (List.mem_of_getElem? (i := 317) (by decide +kernel)) rfl
theorem ilX7_3 : u_lay RX7 TX7 3 ∈ wsA := mem_A (List.mem_of_getElem? (i := 319) (by decide +kernel)) rfl
theorem ilX7_4 : u_lay RX7 TX7 4 ∈ wsA := mem_A (List.mem_of_getElem? (i := 321) (by decide +kernel)) rfl
theorem ilX7_5 : u_lay RX7 TX7 5 ∈ wsA := mem_A (List.mem_of_getElem? (i := 323) (by decide +kernel)) rfl
theorem ilX7_6 : u_lay RX7 TX7 6 ∈ wsA := mem_A (List.mem_of_getElem? (i := 325) (by decide +kernel)) rfl
theorem inlX7 : ∀ x ∈ u_ws RX7 TX7 7, x ∈ wsA := u_all (show ∀ k, k < 7 → u_lay RX7 TX7 k ∈ wsA from (lt_s (lt_s (lt_s (lt_s (lt_s (lt_s (lt_s lt_0 ilX7_0) ilX7_1) ilX7_2) ilX7_3) ilX7_4) ilX7_5) ilX7_6))
theorem ilX8_0 : u_lay RX8 TX8 0 ∈ wsA := mem_A (List.mem_of_getElem? (i := 860) (by decide +kernel)) rfl
theorem ilX8_1 : u_lay RX8 TX8 1 ∈ wsA := mem_A (List.mem_of_getElem? (i := 862) (by decide +kernel)) rfl
theorem ilX8_2 : u_lay RX8 TX8 2 ∈ wsA := mem_A (List.mem_of_getElem? (i := 864) (by decide +kernel)) rfl
theorem ilX8_3 : u_lay RX8 TX8 3 ∈ wsA := mem_A (List.mem_of_getElem? (i := 866) (by decide +kernel)) rfl
theorem ilX8_4 : u_lay RX8 TX8 4 ∈ wsA := mem_A (List.mem_of_getElem? (i := 868) (by decide +kernel)) rfl
theorem ilX8_5 : u_lay RX8 TX8 5 ∈ wsA := mem_A (List.mem_of_getElem? (i := 870) (by decide +kernel)) rfl
theorem ilX8_6 : u_lay RX8 TX8 6 ∈ wsA := mem_A (List.mem_of_getElem? (i := 872) (by decide +kernel)) rfl
theorem ilX8_7 : u_lay RX8 TX8 7 ∈ wsA := mem_A (List.mem_of_getElem? (i := 874) (by decide +kernel)) rfl
theorem ilX8_8 : u_lay RX8 TX8 8 ∈ wsA := mem_A (List.mem_of_getElem? (i := 876) (by decide +kernel)) rfl
theorem ilX8_9 : u_lay RX8 TX8 9 ∈ wsA := mem_A (List.mem_of_getElem? (i := 878) (by decide +kernel)) rfl
theorem ilX8_10 : u_lay RX8 TX8 10 ∈ wsA := mem_A (List.mem_of_getElem? (i := 880) (by decide +kernel)) rfl
theorem ilX8_11 : u_lay RX8 TX8 11 ∈ wsA := mem_A (List.mem_of_getElem? (i := 882) (by decide +kernel)) rfl
theorem ilX8_12 : u_lay RX8 TX8 12 ∈ wsA := mem_A (List.mem_of_getElem? (i := 884) (by decide +kernel)) rfl
theorem ilX8_13 : u_lay RX8 TX8 13 ∈ wsA := mem_A (List.mem_of_getElem? (i := 886) (by decide +kernel)) rfl
theorem ilX8_14 : u_lay RX8 TX8 14 ∈ wsA := mem_A (List.mem_of_getElem? (i := 888) (by decide +kernel)) rfl
theorem ilX8_15 : u_lay RX8 TX8 15 ∈ wsA := mem_A (List.mem_of_getElem? (i := 890) (by decide +kernel)) rfl
theorem ilX8_16 : u_lay RX8 TX8 16 ∈ wsA := mem_A (List.mem_of_getElem? (i := 892) (by decide +kernel)) rfl
theorem ilX8_17 : u_lay RX8 TX8 17 ∈ wsA := mem_A (List.mem_of_getElem? (i := 894) (by decide +kernel)) rfl
theorem ilX8_18 : u_lay RX8 TX8 18 ∈ wsA := mem_A (List.mem_of_getElem? (i := 896) (by decide +kernel)) rfl
theorem ilX8_19 : u_lay RX8 TX8 19 ∈ wsA := mem_A (List.mem_of_getElem? (i := 898) (by decide +kernel)) rfl
theorem ilX8_20 : u_lay RX8 TX8 20 ∈ wsA := mem_A (List.mem_of_getElem? (i := 900) (by decide +kernel)) rfl
theorem ilX8_21 : u_lay RX8 TX8 21 ∈ wsA := mem_A (List.mem_of_getElem? (i := 902) (by decide +kernel)) rfl
theorem ilX8_22 : u_lay RX8 TX8 22 ∈ wsA := mem_A (List.mem_of_getElem? (i := 904) (by decide +kernel)) rfl
theorem ilX8_23 : u_lay RX8 TX8 23 ∈ wsA := mem_A (List.mem_of_getElem? (i := 906) (by decide +kernel)) rfl
theorem ilX8_24 : u_lay RX8 TX8 24 ∈ wsA := mem_A (List.mem_of_getElem? (i := 908) (by decide +kernel)) rfl
theorem ilX8_25 : u_lay RX8 TX8 25 ∈ wsA := mem_A (List.mem_of_getElem? (i := 910) (by decide +kernel)) rfl
theorem ilX8_26 : u_lay RX8 TX8 26 ∈ wsA := mem_A (List.mem_of_getElem? (i := 912) (by decide +kernel)) rfl
theorem ilX8_27 : u_lay RX8 TX8 27 ∈ wsA := mem_A (List.mem_of_getElem? (i := 914) (by decide +kernel)) rfl
theorem ilX8_28 : u_lay RX8 TX8 28 ∈ wsA := mem_A (List.mem_of_getElem? (i := 916) (by decide +kernel)) rfl
theorem ilX8_29 : u_lay RX8 TX8 29 ∈ wsA := mem_A (List.mem_of_getElem? (i := 918) (by decide +kernel)) rfl
theorem ilX8_30 : u_lay RX8 TX8 30 ∈ wsA := mem_A (List.mem_of_getElem? (i := 920) (by decide +kernel)) rfl
theorem ilX8_31 : u_lay RX8 TX8 31 ∈ wsA := mem_A (List.mem_of_getElem? (i := 922) (by decide +kernel)) rfl
theorem ilX8_32 : u_lay RX8 TX8 32 ∈ wsA := mem_A (List.mem_of_getElem? (i := 924) (by decide +kernel)) rfl
theorem ilX8_33 : u_lay RX8 TX8 33 ∈ wsA := mem_A (List.mem_of_getElem? (i := 926) (by decide +kernel)) rfl
theorem ilX8_34 : u_lay RX8 TX8 34 ∈ wsA := mem_A (List.mem_of_getElem? (i := 928) (by decide +kernel)) rfl
theorem ilX8_35 : u_lay RX8 TX8 35 ∈ wsA := mem_A (List.mem_of_getElem? (i := 930) (by decide +kernel)) rfl
theorem ilX8_36 : u_lay RX8 TX8 36 ∈ wsA := mem_A (List.mem_of_getElem? (i := 932) (by decide +kernel)) rfl
theorem inlX8 : ∀ x ∈ u_ws RX8 TX8 37, x ∈ wsA := u_all (show ∀ k, k < 37 → u_lay RX8 TX8 k ∈ wsA from (lt_s (lt_s (lt_s (lt_s (lt_s (lt_s (lt_s (lt_s (lt_s (lt_s (lt_s (lt_s (lt_s (lt_s (lt_s (lt_s (lt_s (lt_s (lt_s (lt_s (lt_s (lt_s (lt_s (lt_s (lt_s (lt_s (lt_s (lt_s (lt_s (lt_s (lt_s (lt_s (lt_s (lt_s (lt_s (lt_s (lt_s lt_0 ilX8_0) ilX8_1) ilX8_2) ilX8_3) ilX8_4) ilX8_5) ilX8_6) ilX8_7) ilX8_8) ilX8_9) ilX8_10) ilX8_11) ilX8_12) ilX8_13) ilX8_14) ilX8_15) ilX8_16) ilX8_17) ilX8_18) ilX8_19) ilX8_20) ilX8_21) ilX8_22) ilX8_23) ilX8_24) ilX8_25) ilX8_26) ilX8_27) ilX8_28) ilX8_29) ilX8_30) ilX8_31) ilX8_32) ilX8_33) ilX8_34) ilX8_35) ilX8_36))
end
section
def nestW : List Cond := [.methodLinkNest RX7 9 yX5_init "AskedCocks",
  .methodLinkNest RX7 18 yX4_init "AskedCocks",
  .methodLinkNest RX4 11 yX1_init "AskedCocks",
  .methodLinkNest RX7 25 yX6_init "AskedCocks",
  .methodLinkNest RX6 11 yX1_init "AskedCocks",
  .methodLinkNest RX6 20 yX3_init "AskedCocks",
  .methodLinkNest RX7 32 yX0_init "AskedCocks",
  .methodLinkNest RX7 39 yX2_init "AskedCocks",
  .methodLinkNest RX7 46 yX3_init "AskedCocks",
  .methodLinkNest RX7 55 yX5_append "AskedCocks",
  .methodLinkNest RX7 63 yX5_empty "AskedCocks",
  .methodLinkNest RX7 66 yX4_readAll "AskedCocks",
  .methodLinkNest RX4 22 yX1_empty "AskedCocks",
  .methodLinkNest RX4 25 yX5_rewind "AskedCocks",
  .methodLinkNest RX4 30 yX5_nextToken "AskedCocks",
  .methodLinkNest RX4 83 yX7_isWithin "AskedCocks",
  .methodLinkNest RX4 89 yX1_addCock "AskedCocks",
  .methodLinkNest RX4 93 yX1_addOne "AskedCocks",
  .methodLinkNest RX4 96 yX1_addSmoke "AskedCocks",
  .methodLinkNest RX7 74 yX6_beginWith "AskedCocks",
  .methodLinkNest RX6 25 yX1_becomeAs "AskedCocks",
  .methodLinkNest RX1 48 yX7_copyRows "AskedCocks",
  .methodLinkNest RX6 33 yX3_beginOver "AskedCocks",
  .methodLinkNest RX7 78 yX0_drop "AskedCocks",
  .methodLinkNest RX7 107 yX6_eyeOf "AskedCocks",
  .methodLinkNest RX7 114 yX1_sideOf "AskedCocks",
  .methodLinkNest RX1 52 yX7_sideBy "AskedCocks",
  .methodLinkNest RX7 118 yX3_isAsked "AskedCocks",
  .methodLinkNest RX3 55 yX7_isIn "AskedCocks",
  .methodLinkNest RX7 121 yX3_tellingOf "AskedCocks",
  .methodLinkNest RX7 131 yX1_cellOf "AskedCocks",
  .methodLinkNest RX1 56 yX7_placeBy "AskedCocks",
  .methodLinkNest RX1 59 yX7_isCell "AskedCocks",
  .methodLinkNest RX7 140 yX3_seenByAnyOf "AskedCocks",
  .methodLinkNest RX7 143 yX6_goBy "AskedCocks",
  .methodLinkNest RX6 74 yX3_rememberHour "AskedCocks",
  .methodLinkNest RX6 90 yX1_cellOf "AskedCocks",
  .methodLinkNest RX6 93 yX1_isSmoky "AskedCocks",
  .methodLinkNest RX1 63 yX7_isWithin "AskedCocks",
  .methodLinkNest RX6 66 yX3_isAsked "AskedCocks",
  .methodLinkNest RX6 42 yX1_sideOf "AskedCocks",
  .methodLinkNest RX7 147 yX3_build "AskedCocks",
  .methodLinkNest RX7 151 yX3_amountKnownWith "AskedCocks",
  .methodLinkNest RX7 154 yX3_bringDown "AskedCocks",
  .methodLinkNest RX7 160 yX3_undoLatest "AskedCocks",
  .methodLinkNest RX7 163 yX1_allCocks "AskedCocks",
  .methodLinkNest RX7 167 yX3_amountSeenBy "AskedCocks",
  .methodLinkNest RX7 170 yX6_cover "AskedCocks",
  .methodLinkNest RX6 110 yX1_allCocks "AskedCocks",
  .methodLinkNest RX6 117 yX3_hoursToAsk "AskedCocks",
  .methodLinkNest RX6 123 yX3_amountKnownWith "AskedCocks",
  .methodLinkNest RX7 176 yX6_viewOf "AskedCocks",
  .methodLinkNest RX7 179 yX6_unseenIn "AskedCocks",
  .methodLinkNest RX7 182 yX6_bestToAsk "AskedCocks",
  .methodLinkNest RX7 185 yX6_hoursInView "AskedCocks",
  .methodLinkNest RX7 195 yX0_addFaced "AskedCocks",
  .methodLinkNest RX7 202 yX0_lawCount "AskedCocks",
  .methodLinkNest RX0 31 yX7_sideBy "AskedCocks",
  .methodLinkNest RX7 205 yX0_firstLaw "AskedCocks",
  .methodLinkNest RX7 208 yX0_bestHourToTry "AskedCocks",
  .methodLinkNest RX7 211 yX0_addMet "AskedCocks",
  .methodLinkNest RX7 217 yX0_wayCount "AskedCocks",
  .methodLinkNest RX0 52 yX7_placeBy "AskedCocks",
  .methodLinkNest RX7 220 yX0_bestWay "AskedCocks",
  .methodLinkNest RX7 223 yX0_falsesOf "AskedCocks",
  .methodLinkNest RX7 226 yX2_markAs "AskedCocks",
  .methodLinkNest RX2 35 yX6_eyeOf "AskedCocks",
  .methodLinkNest RX2 47 yX3_tellingOf "AskedCocks",
  .methodLinkNest RX7 230 yX3_becomeAs "AskedCocks",
  .methodLinkNest RX3 51 yX7_copyRows "AskedCocks",
  .fieldLinkNest RX7 59 "AskedCocks$Script" "length" "I" "AskedCocks",
  .fieldLinkNest RX4 38 "AskedCocks$Script" "tokenStart" "I" "AskedCocks",
  .fieldLinkNest RX4 42 "AskedCocks$Script" "tokenValue" "I" "AskedCocks",
  .fieldLinkNest RX6 29 "AskedCocks$Diocese" "roofs" "[I" "AskedCocks",
  .fieldLinkNest RX4 86 "AskedCocks$Diocese" "roofs" "[I" "AskedCocks",
  .fieldLinkNest RX6 38 "AskedCocks$Diocese" "cocks" "[[I" "AskedCocks",
  .fieldLinkNest RX2 58 "AskedCocks$Diocese" "cocks" "[[I" "AskedCocks",
  .fieldLinkNest RX7 101 "AskedCocks$Diocese" "cocks" "[[I" "AskedCocks",
  .fieldLinkNest RX7 128 "AskedCocks$Diocese" "people" "[[I" "AskedCocks",
  .fieldLinkNest RX4 68 "AskedCocks$Diocese" "cockCount" "I" "AskedCocks",
  .fieldLinkNest RX6 62 "AskedCocks$Diocese" "cockCount" "I" "AskedCocks",
  .fieldLinkNest RX7 237 "AskedCocks$Diocese" "cockCount" "I" "AskedCocks",
  .fieldLinkNest RX4 71 "AskedCocks$Diocese" "peopleCount" "I" "AskedCocks",
  .fieldLinkNest RX6 87 "AskedCocks$Diocese" "peopleCount" "I" "AskedCocks",
  .fieldLinkNest RX7 240 "AskedCocks$Diocese" "peopleCount" "I" "AskedCocks",
  .fieldLinkNest RX4 74 "AskedCocks$Diocese" "smokeCount" "I" "AskedCocks",
  .fieldLinkNest RX7 243 "AskedCocks$Diocese" "smokeCount" "I" "AskedCocks",
  .fieldLinkNest RX7 70 "AskedCocks$Reader" "draft" "LAskedCocks$Diocese;" "AskedCocks",
  .fieldLinkNest RX7 111 "AskedCocks$Present" "hour" "I" "AskedCocks",
  .fieldLinkNest RX2 70 "AskedCocks$Present" "hour" "I" "AskedCocks",
  .fieldLinkNest RX6 77 "AskedCocks$Present" "hour" "I" "AskedCocks",
  .fieldLinkNest RX7 137 "AskedCocks$Present" "asked" "I" "AskedCocks",
  .fieldLinkNest RX6 114 "AskedCocks$Present" "asked" "I" "AskedCocks",
  .fieldLinkNest RX6 37 "AskedCocks$Present" "roofs" "[I" "AskedCocks",
  .fieldLinkNest RX7 91 "AskedCocks$Present" "roofs" "[I" "AskedCocks",
  .fieldLinkNest RX7 134 "AskedCocks$Present" "seen" "[[I" "AskedCocks",
  .fieldLinkNest RX6 101 "AskedCocks$Present" "seen" "[[I" "AskedCocks",
  .fieldLinkNest RX7 157 "AskedCocks$Present" "deeds" "I" "AskedCocks",
  .fieldLinkNest RX2 54 "AskedCocks$Watch" "told" "LAskedCocks$Diocese;" "AskedCocks",
  .fieldLinkNest RX7 98 "AskedCocks$Watch" "told" "LAskedCocks$Diocese;" "AskedCocks",
  .fieldLinkNest RX2 43 "AskedCocks$Watch" "present" "LAskedCocks$Present;" "AskedCocks",
  .fieldLinkNest RX7 87 "AskedCocks$Watch" "present" "LAskedCocks$Present;" "AskedCocks",
  .fieldLinkNest RX7 199 "AskedCocks$Clues" "facedCount" "I" "AskedCocks",
  .fieldLinkNest RX7 214 "AskedCocks$Clues" "metCount" "I" "AskedCocks",
  .fieldLinkNest RX7 246 "AskedCocks$Kinds" "trace" "J" "AskedCocks"]
-- ===== the shape of our worlds: numbers, rows of numbers, one long; rows of the kit said over them =====
abbrev St : Type := (Nat → Int32) × (Nat → Nat → Int32) × Int64
def sI (u : St) (k : Nat) (x : Int32) : St := (upd u.1 k x, u.2.1, u.2.2)
def sA (u : St) (k : Nat) (f : Nat → Int32) : St := (u.1, va_up u.2.1 k f, u.2.2)
def sJ (u : St) (x : Int64) : St := (u.1, u.2.1, x)
/-- an index outside its row -/
def oob (i : Int32) (n : Nat) : Bool := decide (i < 0 ∨ n ≤ i.toNatClampNeg)
theorem oob_in {i : Int32} {n : Nat} (h : ¬ oob i n = true) : vp_in i n := fun q => h (decide_eq_true q)
theorem oob_lt {i : Int32} {n : Nat} (h : ¬ oob i n = true) : i.toNatClampNeg < n := Nat.not_le.mp fun q => h (decide_eq_true (Or.inr q))
/-- a boolean as the machine has it -/
def nb (x : Int32) : Bool := decide (x = 0 ∨ x = 1)
theorem nb_nar {x : Int32} (h : nb x = true) : narrow .boolean (.int x) = .int x := by
  rcases of_decide_eq_true h with rfl | rfl <;> rfl
theorem nb_fit {x : Int32} (h : nb x = true) : fits .boolean (.int x) = true := by
  rcases of_decide_eq_true h with rfl | rfl <;> rfl
theorem nb_vp {x : Int32} (h : nb x = true) : vp_nar .boolean x = x := by
  rcases of_decide_eq_true h with rfl | rfl <;> rfl
/-- numbers of classes, of row classes, addresses -/
abbrev Gx : Type := va_G × (ClassId × ClassId × ClassId × ClassId) × (Nat → Nat)
abbrev tyX (g : Gx) : List (ClassId × FieldType) := [(g.2.1.1, .int), (g.2.1.2.1, .array .int), (g.2.1.2.2.1, .object "AskedCocks$Present"), (g.2.1.2.2.2, .boolean)]
def Aw (n : Nat) (g : Gx) (sz : Nat) : Nat → Prop := fun q => (∃ k : Nat, k < n ∧ q = g.2.2 k) ∨ sz ≤ q
def Dx (n : Nat) (g : Gx) (A : Nat → Prop) : Prop := (∀ i j : Nat, i < n → j < n → g.2.2 i = g.2.2 j → i = j) ∧ ∀ k : Nat, k < n → A (g.2.2 k)
def nestB : Cond → Bool
  | .fieldLinkNest _ _ _ _ _ _ => true
  | .methodLinkNest _ _ _ _ => true
  | _ => false
theorem nestB_warm {w : Cond} {s U : State} (h : nestB w = true) (hW : s.WarmedH U.vm) (hz : va_Nw w s) : va_Nw w U := by
  cases w <;> first | exact va_Nw.warmF hW hz | exact va_Nw.warmM hW hz | cases h
theorem nestB_same {w : Cond} {u U : State} (h : nestB w = true) (e : u.vm = U.vm) (hz : va_Nw w u) : va_Nw w U := by
  cases w <;> first | exact va_Nw.same rfl e hz | cases h
def Fix (g : Gx) (U : State) : Prop := va_K g.1 vwCl (tyX g) U ∧ ∀ w ∈ nestW, va_Nw w U
theorem nestW_ok : ∀ w ∈ nestW, nestB w = true := by decide +kernel
theorem Fix.warm {g : Gx} {s U : State} (h : Fix g s) (hW : s.WarmedH U.vm) : Fix g U := ⟨h.1.moved hW.alike, fun w hw => nestB_warm (nestW_ok w hw) hW (h.2 w hw)⟩
theorem Fix.same {g : Gx} {s U : State} (h : Fix g s) (e : s.vm = U.vm) : Fix g U := ⟨h.1.moved (e ▸ Vm.Alike.refl s.vm), fun w hw => nestB_same (nestW_ok w hw) e (h.2 w hw)⟩
/-- the four rows of numbers that class Reader keeps -/
def kLET : Nat → Int32 := fun j => [114, 99, 112, 115].getD j 0
def kNUM : Nat → Int32 := fun j => [2, 4, 2, 3].getD j 0
def kLOW : Nat → Int32 := fun j => [0, 0, 0, 0, 0, 1, 0, 0, 0, 0, 0, 0, 0, 0, 0, 0].getD j 0
def kHIG : Nat → Int32 := fun j => [23, 9, 0, 0, 23, 5, 1, 9, 23, 6, 0, 0, 23, 29, 29, 0].getD j 0
def Tab (n d : String) (ty : FieldType) (N : Nat) (f : Nat → Int32) (A : Nat → Prop) (U : State) (H : Heap) : Prop := ∃ t : Nat, va_Z "AskedCocks$Reader" n d (.ref t) A U H ∧ va_T ty t N (fun j => .int (f j)) A U H
def Sta (A : Nat → Prop) (U : State) (H : Heap) : Prop := Tab "LETTERS" "[C" .char 4 kLET A U H ∧ Tab "NUMBERS" "[I" .int 4 kNUM A U H ∧ Tab "LOWEST" "[I" .int 16 kLOW A U H ∧ Tab "HIGHEST" "[I" .int 16 kHIG A U H
theorem Tab.go {n d : String} {ty : FieldType} {N : Nat} {f : Nat → Int32} {A B : Nat → Prop} {u U : State} {H H1 : Heap} (h : Tab n d ty N f A u H) (hq : ∀ a : Nat, a < H.size → ¬ A a → H1[a]? = H[a]?) (hvm : u.vm.Alike U.vm) (hAB : ∀ q, B q → A q) : Tab n d ty N f B U H1 := by
  obtain ⟨t, h1, h2⟩ := h
  exact ⟨t, ((h1.kept hq).moved hvm).narrow hAB, ((h2.kept hq).moved hvm).narrow hAB⟩
theorem Sta.go {A B : Nat → Prop} {u U : State} {H H1 : Heap} (h : Sta A u H) (hq : ∀ a : Nat, a < H.size → ¬ A a → H1[a]? = H[a]?) (hvm : u.vm.Alike U.vm) (hAB : ∀ q, B q → A q) : Sta B U H1 :=
  ⟨h.1.go hq hvm hAB, h.2.1.go hq hvm hAB, h.2.2.1.go hq hvm hAB, h.2.2.2.go hq hvm hAB⟩
/-- a world's cells stand at the addresses, in order -/
def Wok (w : Gx → St → va_W) (n : Nat) : Prop := ∀ (g : Gx) (u : St) (k : Nat) (q : Nat × va_E), (w g u)[k]? = some q → k < n ∧ q.1 = g.2.2 k
theorem Wok.D {w : Gx → St → va_W} {n : Nat} {g : Gx} {A : Nat → Prop} {u : St} (hw : Wok w n) (h : Dx n g A) : va_D A (w g u) :=
  ⟨fun i j p q hi hj e => by
    obtain ⟨a1, a2⟩ := hw g u i p hi
    obtain ⟨b1, b2⟩ := hw g u j q hj
    exact h.1 i j a1 b1 (by rw [← a2, ← b2]; exact e), fun k q hk => by
    obtain ⟨a1, a2⟩ := hw g u k q hk
    rw [a2]; exact h.2 k a1⟩
/-- what holds throughout a method's run -/
def Cx (p : Program) (s : State) (m : MethodId) (meth : Method) (c : Code) (args : Array Value) (cc : ByteArray) (own : String) (nL : Nat) (ret : Option FieldType) (n : Nat) (g : Gx) : Prop :=
  p.tables.exec = Jvm.exec ∧ c.code = cc ∧ c.maxLocals = nL ∧ s.vm.findClass own = some m.cls ∧ (∀ w ∈ wsA, w.before args s = true) ∧ meth.sig.returnType = ret ∧ meth.locks = false ∧ Fix g s ∧ Sta (Aw n g s.heap.size) s s.heap ∧ Dx n g (Aw n g s.heap.size)
/-- the world now -/
def Zx (w : Gx → St → va_W) (g : Gx) (A : Nat → Prop) (s : State) (H : Heap) (locs : List Loc) (u : St) : Prop := va_P g.1 vwCl (w g u) H ∧ va_S A s.heap H locs
def PreX (w : Gx → St → va_W) (n : Nat) (g : Gx) (sz : Nat) (u : St) : State → Prop := fun U => U.heap.size = sz ∧ va_P g.1 vwCl (w g u) U.heap ∧ Dx n g (fun _ => True) ∧ Fix g U ∧ Sta (Aw n g sz) U U.heap
def PostX (w : Gx → St → va_W) (g : Gx) : St → State → Prop := fun v t => va_P g.1 vwCl (w g v) t.heap
abbrev wsY (y : MethodName) (cc : ByteArray) (nL : Nat) (ret : Option FieldType) : List Cond := .code y cc nL ret :: wsA
abbrev rmX (f l : Nat) : Room := { frames := f, cells := 0, slots := 0, locals := l }
def QI (w : Gx → St → va_W) (n : Nat) (g : Gx) (r : Int32) (v : St) (below : List Frame) (args : Array Value) (s : State) : State → Prop := MQ below (va_Qi (fun r' v' => r' = r ∧ v' = v) (PostX w g) (Aw n g s.heap.size)) args s 0 0 (Aw n g s.heap.size)
def QJ (w : Gx → St → va_W) (n : Nat) (g : Gx) (r : Int64) (v : St) (below : List Frame) (args : Array Value) (s : State) : State → Prop := MQ below (va_Ql (fun r' v' => r' = r ∧ v' = v) (PostX w g) (Aw n g s.heap.size)) args s 0 0 (Aw n g s.heap.size)
def QV (w : Gx → St → va_W) (n : Nat) (g : Gx) (v : St) (below : List Frame) (args : Array Value) (s : State) : State → Prop := MQ below (va_Qv (fun v' => v' = v) (PostX w g) (Aw n g s.heap.size)) args s 0 0 (Aw n g s.heap.size)
def CI (w : Gx → St → va_W) (n : Nat) (l : Launch) (y : MethodName) (ws : List Cond) (rm : Room) (g : Gx) (As : List Value) (u : St) (r : Int32) (v : St) : Prop := ∀ sz : Nat, Met l y ws rm (va_Pc As (PreX w n g sz u)) (va_Qi (fun r' v' => r' = r ∧ v' = v) (PostX w g) (Aw n g sz)) 0 0 (Aw n g sz)
def CJ (w : Gx → St → va_W) (n : Nat) (l : Launch) (y : MethodName) (ws : List Cond) (rm : Room) (g : Gx) (As : List Value) (u : St) (r : Int64) (v : St) : Prop := ∀ sz : Nat, Met l y ws rm (va_Pc As (PreX w n g sz u)) (va_Ql (fun r' v' => r' = r ∧ v' = v) (PostX w g) (Aw n g sz)) 0 0 (Aw n g sz)
def CV (w : Gx → St → va_W) (n : Nat) (l : Launch) (y : MethodName) (ws : List Cond) (rm : Room) (g : Gx) (As : List Value) (u : St) (v : St) : Prop := ∀ sz : Nat, Met l y ws rm (va_Pc As (PreX w n g sz u)) (va_Qv (fun v' => v' = v) (PostX w g) (Aw n g sz)) 0 0 (Aw n g sz)
section ENTRY
variable {w : Gx → St → va_W} {n : Nat} {l : Launch} {y : MethodName} {cc : ByteArray} {own : String} {nL : Nat} {ret : Option FieldType} {g : Gx} {As : List Value} {u v : St} {rm : Room}
theorem Met_start {Qc : Nat → Array Value → State → Outcome → State → Prop} {A : Nat → Nat → Prop} (hy : plainName y.cls = true) (ho : y.cls = own) (hlen : (lg_sl As).length ≤ nL)
    (body : ∀ {p : Program} {e : Env} {s : State} {m : MethodId} {args : Array Value} {below : List Frame} {meth : Method} {c : Code} {ls : Array Slot}, Cx p s m meth c args cc own nL ret n g → Zx w g (Aw n g s.heap.size) s s.heap [] u → lv_has ls nL (lv_args 0 As) → W p l e rm s m args below meth c s.heap [] 0 0 (MQ below (Qc s.heap.size) args s 0 0 (A s.heap.size)) (F0 m 0 ls [])) :
    ∀ sz : Nat, Met l y (wsY y cc nL ret) rm (va_Pc As (PreX w n g sz u)) (Qc sz) 0 0 (A sz) := by
  subst ho
  intro sz
  refine Met.ofW (cc := cc) (maxL := nL) (ret := ret) hy rfl ?_
  intro p e s m args below meth c s₁ B hml hv
  obtain ⟨rfl, hsz, hP, hD, hF, hSt⟩ := hv
  subst hsz
  have hts := atoms_spec (ws := wsY y cc nL ret) B.pre
  rw [lg_entry_eq]
  exact body ⟨B.exec, B.bytes, hml, findClass_of_methodNamed B.named, fun x hx => hts x (List.mem_cons_of_mem _ hx), B.returns, B.notSynchronized, hF, hSt, ⟨hD.1, fun k hk => Or.inl ⟨k, hk, rfl⟩⟩⟩ ⟨hP, va_S.rf⟩ (lv_entry As hlen)
theorem CI_start {r : Int32} (hy : plainName y.cls = true) (ho : y.cls = own) (hlen : (lg_sl As).length ≤ nL)
    (body : ∀ {p : Program} {e : Env} {s : State} {m : MethodId} {args : Array Value} {below : List Frame} {meth : Method} {c : Code} {ls : Array Slot}, Cx p s m meth c args cc own nL ret n g → Zx w g (Aw n g s.heap.size) s s.heap [] u → lv_has ls nL (lv_args 0 As) → W p l e rm s m args below meth c s.heap [] 0 0 (QI w n g r v below args s) (F0 m 0 ls [])) :
    CI w n l y (wsY y cc nL ret) rm g As u r v := Met_start (Qc := fun sz => va_Qi (fun r' v' => r' = r ∧ v' = v) (PostX w g) (Aw n g sz)) (A := Aw n g) hy ho hlen body
theorem CJ_start {r : Int64} (hy : plainName y.cls = true) (ho : y.cls = own) (hlen : (lg_sl As).length ≤ nL)
    (body : ∀ {p : Program} {e : Env} {s : State} {m : MethodId} {args : Array Value} {below : List Frame} {meth : Method} {c : Code} {ls : Array Slot}, Cx p s m meth c args cc own nL ret n g → Zx w g (Aw n g s.heap.size) s s.heap [] u → lv_has ls nL (lv_args 0 As) → W p l e rm s m args below meth c s.heap [] 0 0 (QJ w n g r v below args s) (F0 m 0 ls [])) :
    CJ w n l y (wsY y cc nL ret) rm g As u r v := Met_start (Qc := fun sz => va_Ql (fun r' v' => r' = r ∧ v' = v) (PostX w g) (Aw n g sz)) (A := Aw n g) hy ho hlen body
theorem CV_start (hy : plainName y.cls = true) (ho : y.cls = own) (hlen : (lg_sl As).length ≤ nL)
    (body : ∀ {p : Program} {e : Env} {s : State} {m : MethodId} {args : Array Value} {below : List Frame} {meth : Method} {c : Code} {ls : Array Slot}, Cx p s m meth c args cc own nL ret n g → Zx w g (Aw n g s.heap.size) s s.heap [] u → lv_has ls nL (lv_args 0 As) → W p l e rm s m args below meth c s.heap [] 0 0 (QV w n g v below args s) (F0 m 0 ls [])) :
    CV w n l y (wsY y cc nL ret) rm g As u v := Met_start (Qc := fun sz => va_Qv (fun v' => v' = v) (PostX w g) (Aw n g sz)) (A := Aw n g) hy ho hlen body
end ENTRY
section ROWS
variable {p : Program} {l : Launch} {e : Env} {R : Room} {s : State} {m : MethodId} {args : Array Value} {below : List Frame} {meth : Method} {c : Code} {H : Heap} {locs : List Loc} {Q : State → Prop} {cc : ByteArray} {own : String} {nL : Nat} {ret : Option FieldType} {g : Gx} {u u' : St} {ls : Array Slot} {rest : List Value} {pc idx n : Nat} {w : Gx → St → va_W}
theorem ret_i (C : Cx p s m meth c args cc own nL (some .int) n g) {r : Int32} (Z : Zx w g (Aw n g s.heap.size) s H locs u) (hdg : decode cc pc = .ok (.ireturn, 1)) : W p l e R s m args below meth c H locs 0 0 (QI w n g r u below args s) (F0 m pc ls [.int r]) := by
  have hlocks := C.2.2.2.2.2.2.1
  exact W.iret (v := r) C.1 C.2.1 C.2.2.2.2.2.1 (fun t ht _ => ⟨⟨r, u, rfl, ⟨rfl, rfl⟩, by show va_P _ _ _ t.heap; rw [ht]; exact Z.1⟩, Z.2.F ht⟩) Z.2.2.2 hdg
theorem ret_z (C : Cx p s m meth c args cc own nL (some .boolean) n g) {r : Int32} (Z : Zx w g (Aw n g s.heap.size) s H locs u) (hn : nb r = true) (hdg : decode cc pc = .ok (.ireturn, 1)) : W p l e R s m args below meth c H locs 0 0 (QI w n g r u below args s) (F0 m pc ls [.int r]) := by
  have hlocks := C.2.2.2.2.2.2.1
  exact W.zret (v := r) C.1 C.2.1 C.2.2.2.2.2.1 (nb_nar hn) (fun t ht _ => ⟨⟨r, u, rfl, ⟨rfl, rfl⟩, by show va_P _ _ _ t.heap; rw [ht]; exact Z.1⟩, Z.2.F ht⟩) Z.2.2.2 hdg
theorem ret_j (C : Cx p s m meth c args cc own nL (some .long) n g) {r : Int64} (Z : Zx w g (Aw n g s.heap.size) s H locs u) (hdg : decode cc pc = .ok (.lreturn, 1)) : W p l e R s m args below meth c H locs 0 0 (QJ w n g r u below args s) (F0 m pc ls [.long r]) := by
  have hlocks := C.2.2.2.2.2.2.1
  exact W.lret (v := r) C.1 C.2.1 C.2.2.2.2.2.1 (fun t ht _ => ⟨⟨r, u, rfl, ⟨rfl, rfl⟩, by show va_P _ _ _ t.heap; rw [ht]; exact Z.1⟩, Z.2.F ht⟩) Z.2.2.2 hdg
theorem ret_v (C : Cx p s m meth c args cc own nL none n g) (Z : Zx w g (Aw n g s.heap.size) s H locs u) (hdg : decode cc pc = .ok (.return_, 1)) : W p l e R s m args below meth c H locs 0 0 (QV w n g u below args s) (F0 m pc ls []) := by
  have hlocks := C.2.2.2.2.2.2.1
  exact W.vret C.1 C.2.1 C.2.2.2.2.2.1 (fun t ht _ => ⟨⟨u, rfl, rfl, by show va_P _ _ _ t.heap; rw [ht]; exact Z.1⟩, Z.2.F ht⟩) Z.2.2.2 hdg
/-- a field's link, of the class itself or of a nest mate -/
def FL (s : State) (args : Array Value) (own : String) (idx : Nat) (ref n d : String) : Prop := (Cond.fieldLink own idx ref n d).before args s = true ∨ ∃ host, (Cond.fieldLinkNest own idx ref n d host).before args s = true
def ML (s : State) (args : Array Value) (own : String) (idx : Nat) (y : MethodName) : Prop := (Cond.methodLink own idx y).before args s = true ∨ ∃ host, va_Nw (.methodLinkNest own idx y host) s
theorem fl_of (C : Cx p s m meth c args cc own nL ret n g) {o ref nm d : String} (h : Cond.fieldLink o idx ref nm d ∈ wsA) : FL s args o idx ref nm d := Or.inl (C.2.2.2.2.1 _ h)
theorem fl_nest (C : Cx p s m meth c args cc own nL ret n g) {o ref nm d host : String} (h : Cond.fieldLinkNest o idx ref nm d host ∈ nestW) : FL s args o idx ref nm d := Or.inr ⟨host, va_Nw.use rfl (C.2.2.2.2.2.2.2.1.2 _ h)⟩
theorem ml_of (C : Cx p s m meth c args cc own nL ret n g) {o : String} {y : MethodName} (h : Cond.methodLink o idx y ∈ wsA) : ML s args o idx y := Or.inl (C.2.2.2.2.1 _ h)
theorem ml_nest (C : Cx p s m meth c args cc own nL ret n g) {o host : String} {y : MethodName} (h : Cond.methodLinkNest o idx y host ∈ nestW) : ML s args o idx y := Or.inr ⟨host, C.2.2.2.2.2.2.2.1.2 _ h⟩
theorem r_get (C : Cx p s m meth c args cc own nL ret n g) (Z : Zx w g (Aw n g s.heap.size) s H locs u) {Cn : String} {T : u_T} {N ci q k : Nat} {fs : List Value} {a : Nat} (hin : ∀ x ∈ u_ws Cn T N, x ∈ wsA) (hc : vwCl[ci]? = some (Cn, T, N)) (he : (w g u)[q]? = some (a, .inr (ci, fs))) (hk : k < N) (hl : FL s args own idx (T k).1 (T k).2.1 (T k).2.2.1) {v : Value} (hv : fs[k]? = some v) (hdg : decode cc pc = .ok (.getfield idx, 3))
    (kk : W p l e R s m args below meth c H locs 0 0 Q (F0 m (pc + 3) ls (v :: rest))) : W p l e R s m args below meth c H locs 0 0 Q (F0 m pc ls (.ref a :: rest)) := by
  rcases hl with h | ⟨host, h⟩
  · exact va_get C.1 C.2.1 C.2.2.2.2.1 hin C.2.2.2.1 C.2.2.2.2.2.2.2.1.1 Z.1 q he hc k hk h (fun _ z => z) hv hdg kk
  · exact va_getN C.1 C.2.1 C.2.2.2.2.1 hin C.2.2.2.1 C.2.2.2.2.2.2.2.1.1 Z.1 q he hc k hk h (fun _ z => z) hv hdg kk
theorem r_put (C : Cx p s m meth c args cc own nL ret n g) (hw : Wok w n) (Z : Zx w g (Aw n g s.heap.size) s H locs u) {Cn : String} {T : u_T} {N ci q k : Nat} {fs : List Value} {a : Nat} (hin : ∀ x ∈ u_ws Cn T N, x ∈ wsA) (ty0 : Nat → FieldType) (hty : ∀ k, k < N → parseFieldDescriptor (T k).2.2.1 = some (ty0 k)) (hnm : ∀ a, a < N → ∀ b, b < N → a ≠ b → (T a).2.1 ≠ (T b).2.1) (hc : vwCl[ci]? = some (Cn, T, N)) (he : (w g u)[q]? = some (a, .inr (ci, fs))) (hk : k < N) (hl : FL s args own idx (T k).1 (T k).2.1 (T k).2.2.1) (hfin : (T k).2.2.2 = false) {ty : FieldType} {v : Value} (hd : parseFieldDescriptor (T k).2.2.1 = some ty) (hn : narrow ty v = v) (hfit : fits ty v = true) (hlen : k < fs.length) (hset : (w g u).set q (a, .inr (ci, fs.set k v)) = w g u') (hdg : decode cc pc = .ok (.putfield idx, 3))
    (kk : ∀ (H1 : Heap) (locs1 : List Loc), Zx w g (Aw n g s.heap.size) s H1 locs1 u' → W p l e R s m args below meth c H1 locs1 0 0 Q (F0 m (pc + 3) ls rest)) : W p l e R s m args below meth c H locs 0 0 Q (F0 m pc ls (v :: .ref a :: rest)) := by
  have hD := hw.D (u := u) C.2.2.2.2.2.2.2.2.2
  rcases hl with h | ⟨host, h⟩
  · exact va_put C.1 C.2.1 C.2.2.2.2.1 hin ty0 hty hnm C.2.2.2.1 C.2.2.2.2.2.2.2.1.1 Z.1 hD Z.2 q he hc k hk h (fun _ z => z) hfin hd hn hfit hlen hdg (fun H1 locs1 hP _ hS => kk H1 locs1 ⟨hset ▸ hP, hS⟩)
  · exact va_putN C.1 C.2.1 C.2.2.2.2.1 hin ty0 hty hnm C.2.2.2.1 C.2.2.2.2.2.2.2.1.1 Z.1 hD Z.2 q he hc k hk h (fun _ z => z) hfin hd hn hfit hlen hdg (fun H1 locs1 hP _ hS => kk H1 locs1 ⟨hset ▸ hP, hS⟩)
theorem r_ald (C : Cx p s m meth c args cc own nL ret n g) (Z : Zx w g (Aw n g s.heap.size) s H locs u) {q a N : Nat} {f : Nat → Int32} (ha : (w g u)[q]? = some (a, .inl (g.2.1.1, N, .inl f))) {i : Int32} {k : Nat} (hin : ¬ oob i N = true) (hk : i.toNatClampNeg = k) (hdg : decode cc pc = .ok (.iaload, 1)) {x : Int32} (hx : f k = x)
    (kk : W p l e R s m args below meth c H locs 0 0 Q (F0 m (pc + 1) ls (.int x :: rest))) : W p l e R s m args below meth c H locs 0 0 Q (F0 m pc ls (.int i :: .ref a :: rest)) :=
  va_iald C.1 C.2.1 C.2.2.2.2.2.2.2.1.1 Z.1 q 0 ha rfl (oob_in hin) hdg (by rw [hk, hx]; exact kk)
theorem r_zald (C : Cx p s m meth c args cc own nL ret n g) (Z : Zx w g (Aw n g s.heap.size) s H locs u) {q a N : Nat} {f : Nat → Int32} (ha : (w g u)[q]? = some (a, .inl (g.2.1.2.2.2, N, .inl f))) {i : Int32} {k : Nat} (hin : ¬ oob i N = true) (hk : i.toNatClampNeg = k) (hdg : decode cc pc = .ok (.baload, 1)) {x : Int32} (hx : f k = x)
    (kk : W p l e R s m args below meth c H locs 0 0 Q (F0 m (pc + 1) ls (.int x :: rest))) : W p l e R s m args below meth c H locs 0 0 Q (F0 m pc ls (.int i :: .ref a :: rest)) :=
  va_zald C.1 C.2.1 C.2.2.2.2.2.2.2.1.1 Z.1 q 3 ha rfl (oob_in hin) hdg (by rw [hk, hx]; exact kk)
theorem r_ast (C : Cx p s m meth c args cc own nL ret n g) (hw : Wok w n) (Z : Zx w g (Aw n g s.heap.size) s H locs u) {q a N : Nat} {f : Nat → Int32} (ha : (w g u)[q]? = some (a, .inl (g.2.1.1, N, .inl f))) {i x : Int32} {k : Nat} (hin : ¬ oob i N = true) (hk : i.toNatClampNeg = k) (hset : (w g u).set q (a, .inl (g.2.1.1, N, .inl (upd f k x))) = w g u') (hdg : decode cc pc = .ok (.iastore, 1))
    (kk : ∀ (H1 : Heap) (locs1 : List Loc), Zx w g (Aw n g s.heap.size) s H1 locs1 u' → W p l e R s m args below meth c H1 locs1 0 0 Q (F0 m (pc + 1) ls rest)) : W p l e R s m args below meth c H locs 0 0 Q (F0 m pc ls (.int x :: .int i :: .ref a :: rest)) :=
  va_iast C.1 C.2.1 C.2.2.2.2.2.2.2.1.1 Z.1 (hw.D C.2.2.2.2.2.2.2.2.2) Z.2 q 0 ha rfl (oob_in hin) hdg (fun H1 locs1 hP _ hS => kk H1 locs1 ⟨by rw [hk, hset] at hP; exact hP, hS⟩)
theorem r_zast (C : Cx p s m meth c args cc own nL ret n g) (hw : Wok w n) (Z : Zx w g (Aw n g s.heap.size) s H locs u) {q a N : Nat} {f : Nat → Int32} (ha : (w g u)[q]? = some (a, .inl (g.2.1.2.2.2, N, .inl f))) {i x : Int32} {k : Nat} (hx : nb x = true) (hin : ¬ oob i N = true) (hk : i.toNatClampNeg = k) (hset : (w g u).set q (a, .inl (g.2.1.2.2.2, N, .inl (upd f k x))) = w g u') (hdg : decode cc pc = .ok (.bastore, 1))
    (kk : ∀ (H1 : Heap) (locs1 : List Loc), Zx w g (Aw n g s.heap.size) s H1 locs1 u' → W p l e R s m args below meth c H1 locs1 0 0 Q (F0 m (pc + 1) ls rest)) : W p l e R s m args below meth c H locs 0 0 Q (F0 m pc ls (.int x :: .int i :: .ref a :: rest)) :=
  va_zast C.1 C.2.1 C.2.2.2.2.2.2.2.1.1 Z.1 (hw.D C.2.2.2.2.2.2.2.2.2) Z.2 q 3 ha rfl (oob_in hin) hdg (fun H1 locs1 hP _ hS => kk H1 locs1 ⟨by rw [nb_vp hx, hk, hset] at hP; exact hP, hS⟩)
/-- a row of rows: the row's address -/
theorem r_aldr (C : Cx p s m meth c args cc own nL ret n g) (Z : Zx w g (Aw n g s.heap.size) s H locs u) {q a N : Nat} {f : Nat → Option Nat} (ha : (w g u)[q]? = some (a, .inl (g.2.1.2.1, N, .inr (.inr (.inr (.inr f)))))) {i : Int32} (hin : ¬ oob i N = true) (hdg : decode cc pc = .ok (.aaload, 1)) {b : Nat} (hb : f i.toNatClampNeg = some b)
    (kk : W p l e R s m args below meth c H locs 0 0 Q (F0 m (pc + 1) ls (.ref b :: rest))) : W p l e R s m args below meth c H locs 0 0 Q (F0 m pc ls (.int i :: .ref a :: rest)) := by
  have hlt := oob_lt hin
  exact W.aald (v := .ref b) (ty := .array .int) C.1 C.2.1 (Z.1 q _ ha) ((C.2.2.2.2.2.2.2.1.1.2 1 _ rfl).1 N (fun j => va_rf (f j))) rfl (fun q => by cases q) (by show ¬ (i < 0 ∨ (arrV _ _ _).slots.size ≤ _); rw [arrV_size]; exact oob_in hin) (by show (arrV _ _ _).slots[_]? = _; rw [arrV_read _ _ hlt, hb]; rfl) rfl rfl hdg kk
theorem r_aldo (C : Cx p s m meth c args cc own nL ret n g) (Z : Zx w g (Aw n g s.heap.size) s H locs u) {q a N : Nat} {f : Nat → Option Nat} (ha : (w g u)[q]? = some (a, .inl (g.2.1.2.2.1, N, .inr (.inr (.inr (.inr f)))))) {i : Int32} (hin : ¬ oob i N = true) (hdg : decode cc pc = .ok (.aaload, 1)) {b : Nat} (hb : f i.toNatClampNeg = some b)
    (kk : W p l e R s m args below meth c H locs 0 0 Q (F0 m (pc + 1) ls (.ref b :: rest))) : W p l e R s m args below meth c H locs 0 0 Q (F0 m pc ls (.int i :: .ref a :: rest)) := by
  have hlt := oob_lt hin
  exact W.aald (v := .ref b) (ty := .object "AskedCocks$Present") C.1 C.2.1 (Z.1 q _ ha) ((C.2.2.2.2.2.2.2.1.1.2 2 _ rfl).1 N (fun j => va_rf (f j))) rfl (fun q => by cases q) (by show ¬ (i < 0 ∨ (arrV _ _ _).slots.size ≤ _); rw [arrV_size]; exact oob_in hin) (by show (arrV _ _ _).slots[_]? = _; rw [arrV_read _ _ hlt, hb]; rfl) rfl rfl hdg kk
theorem r_len (C : Cx p s m meth c args cc own nL ret n g) (Z : Zx w g (Aw n g s.heap.size) s H locs u) {q a t : Nat} {cA : ClassId} {ty : FieldType} {x : vp_A} (ha : (w g u)[q]? = some (a, .inl (cA, x))) (ht : (tyX g)[t]? = some (cA, ty)) {v : Int32} (hv : Int32.ofNat x.1 = v) (hdg : decode cc pc = .ok (.arraylength, 1))
    (kk : W p l e R s m args below meth c H locs 0 0 Q (F0 m (pc + 1) ls (.int v :: rest))) : W p l e R s m args below meth c H locs 0 0 Q (F0 m pc ls (.ref a :: rest)) :=
  va_alen C.1 C.2.1 C.2.2.2.2.2.2.2.1.1 Z.1 q t ha ht hv hdg kk
/-- a static row of Reader: its address, its length, its numbers -/
theorem r_gets (C : Cx p s m meth c args cc own nL ret n g) (Z : Zx w g (Aw n g s.heap.size) s H locs u) {nm d : String} {t : Nat} (h : va_Z "AskedCocks$Reader" nm d (.ref t) (Aw n g s.heap.size) s s.heap) (hl : Cond.fieldLink own idx "AskedCocks$Reader" nm d ∈ wsA) (hdg : decode cc pc = .ok (.getstatic idx, 3))
    (kk : W p l e R s m args below meth c H locs 0 0 Q (F0 m (pc + 3) ls (.ref t :: rest))) : W p l e R s m args below meth c H locs 0 0 Q (F0 m pc ls rest) :=
  va_gets C.1 C.2.1 h Z.2 C.2.2.2.1 (C.2.2.2.2.1 _ hl) (fun _ z => z) hdg kk
theorem r_tlen (C : Cx p s m meth c args cc own nL ret n g) (Z : Zx w g (Aw n g s.heap.size) s H locs u) {ty : FieldType} {t N : Nat} {f : Nat → Value} (h : va_T ty t N f (Aw n g s.heap.size) s s.heap) {v : Int32} (hv : Int32.ofNat N = v) (hdg : decode cc pc = .ok (.arraylength, 1))
    (kk : W p l e R s m args below meth c H locs 0 0 Q (F0 m (pc + 1) ls (.int v :: rest))) : W p l e R s m args below meth c H locs 0 0 Q (F0 m pc ls (.ref t :: rest)) :=
  va_tlen C.1 C.2.1 h Z.2 hv hdg kk
theorem r_ti (C : Cx p s m meth c args cc own nL ret n g) (Z : Zx w g (Aw n g s.heap.size) s H locs u) {t N : Nat} {f : Nat → Int32} (h : va_T .int t N (fun j => .int (f j)) (Aw n g s.heap.size) s s.heap) {i : Int32} (hin : ¬ oob i N = true) (hdg : decode cc pc = .ok (.iaload, 1))
    (kk : W p l e R s m args below meth c H locs 0 0 Q (F0 m (pc + 1) ls (.int (f i.toNatClampNeg) :: rest))) : W p l e R s m args below meth c H locs 0 0 Q (F0 m pc ls (.int i :: .ref t :: rest)) :=
  va_ti C.1 C.2.1 h Z.2 (oob_in hin) rfl hdg kk
theorem r_tc (C : Cx p s m meth c args cc own nL ret n g) (Z : Zx w g (Aw n g s.heap.size) s H locs u) {t N : Nat} {f : Nat → Int32} (h : va_T .char t N (fun j => .int (f j)) (Aw n g s.heap.size) s s.heap) {i : Int32} (hin : ¬ oob i N = true) (hdg : decode cc pc = .ok (.caload, 1))
    (kk : W p l e R s m args below meth c H locs 0 0 Q (F0 m (pc + 1) ls (.int (f i.toNatClampNeg) :: rest))) : W p l e R s m args below meth c H locs 0 0 Q (F0 m pc ls (.int i :: .ref t :: rest)) :=
  va_tc C.1 C.2.1 h Z.2 (oob_in hin) rfl hdg kk
-- calls
theorem wsG : wsA.all goodWord = true := List.all_eq_true.mpr fun w h => (List.mem_filter.mp h).2
theorem goodY {y : MethodName} {bytes : ByteArray} {maxL : Nat} {rt : Option FieldType} (h : Cond.code y bytes maxL rt ∈ wsA) : GoodIn wsA (wsY y bytes maxL rt) := by
  intro x hx
  rcases List.mem_cons.mp hx with rfl | hx
  · exact ⟨h, good_of_word (List.all_eq_true.mp wsG _ h)⟩
  · exact ⟨hx, good_of_word (List.all_eq_true.mp wsG _ hx)⟩
def MFs (y : MethodName) (bytes : ByteArray) (maxL : Nat) (rt : Option FieldType) (ny : Nat) : Prop := Cond.code y bytes maxL rt ∈ wsA ∧ Cond.static y ∈ wsA ∧ Cond.initialized y.cls ∈ wsA ∧ (y.cls ≠ "java/lang/invoke/MethodHandle" ∧ y.cls ≠ "java/lang/invoke/VarHandle") ∧ (parseMethodDescriptor y.desc).map (fun d => d.parameters.length) = some ny
def MFv (y : MethodName) (bytes : ByteArray) (maxL : Nat) (rt : Option FieldType) (ny : Nat) : Prop := Cond.code y bytes maxL rt ∈ wsA ∧ (Cond.instanceMethod y ∈ wsA ∧ Cond.selects y.cls y y ∈ wsA) ∧ Cond.initialized y.cls ∈ wsA ∧ (y.cls ≠ "java/lang/invoke/MethodHandle" ∧ y.cls ≠ "java/lang/invoke/VarHandle") ∧ (parseMethodDescriptor y.desc).map (fun d => d.parameters.length) = some ny
theorem pre_blind {As : List Value} {sz : Nat} : FrameBlind (va_Pc As (PreX w n g sz u)) := by
  intro a U gg mk q
  obtain ⟨h1, h2, h3, h4, h5, h6⟩ := q
  exact ⟨h1, h2, h3, h4, h5.same rfl, h6.go (fun _ _ _ => rfl) (Vm.Alike.refl U.vm) (fun _ h => h)⟩
theorem pre_at (C : Cx p s m meth c args cc own nL ret n g) (Z : Zx w g (Aw n g s.heap.size) s H locs u) {As : List Value} : ∀ U : State, U.heap = H → s.WarmedH U.vm → va_Pc As (PreX w n g H.size u) As.toArray U := by
  intro U hU hW
  subst hU
  refine ⟨rfl, rfl, Z.1, ⟨C.2.2.2.2.2.2.2.2.2.1, fun _ _ => trivial⟩, C.2.2.2.2.2.2.2.1.warm hW, C.2.2.2.2.2.2.2.2.1.go Z.2.2.1 hW.alike ?_⟩
  intro q hq
  rcases hq with h | h
  · exact Or.inl h
  · exact Or.inr (Nat.le_trans Z.2.1 h)
theorem free_at (Z : Zx w g (Aw n g s.heap.size) s H locs u) : ∀ q, Aw n g H.size q → Aw n g s.heap.size q := fun q h => h.elim Or.inl (fun h => Or.inr (Nat.le_trans Z.2.1 h))
theorem parsed {y : MethodName} {ny : Nat} (h : (parseMethodDescriptor y.desc).map (fun d => d.parameters.length) = some ny) : ∀ sig, parseMethodDescriptor y.desc = some sig → ny = sig.parameters.length := by
  intro sig hs
  rw [hs] at h
  exact (Option.some.inj h).symm
variable {y : MethodName} {bytes : ByteArray} {maxL ny : Nat} {rt : Option FieldType} {As st : List Value} {rm : Room} {v : St}
theorem run_s {Qc : Array Value → State → Outcome → State → Prop} {free : Addr → Prop} (C : Cx p s m meth c args cc own nL ret n g) (Z : Zx w g (Aw n g s.heap.size) s H locs u) (hM : Met l y (wsY y bytes maxL rt) rm (va_Pc As (PreX w n g H.size u)) Qc 0 0 free) (hm : MFs y bytes maxL rt ny) (hk : ML s args own idx y) (hn : As.length = ny) (hrm : rm.cells = 0 ∧ rm.slots = 0 ∧ rm.frames + 1 ≤ R.frames ∧ 8 + (maxL + 11) + rm.locals ≤ R.locals) (hst : st = As.reverse ++ rest) (hsz : ls.size = nL) (hw : (rest.map fun v => v.category).sum ≤ 8) (hdg : decode cc pc = .ok (.invokestatic idx, 3)) :
    va_Run p l e R s m args below meth c H locs 0 0 0 0 (F0 m pc ls st) rest (Qc As.toArray) free := by
  have S : CallFix p m c cc nL s args wsA own := ⟨C.1, C.2.1, C.2.2.1, C.2.2.2.1, C.2.2.2.2.1⟩
  have hts := C.2.2.2.2.1
  have hf : 0 + 0 ≤ R.cells ∧ 0 + 0 ≤ R.slots := ⟨Nat.zero_le _, Nat.zero_le _⟩
  have hW : 2 * (F0 m pc ls st).monitorRoom + (rest.map fun v => v.category).sum ≤ 8 := lv_room hw
  have hc : Cond.code y bytes maxL rt ∈ wsY y bytes maxL rt := List.mem_cons_self
  rcases hk with h | ⟨host, h⟩
  · exact va_runS S hM ⟨⟨hrm.1, hrm.2.1, hrm.2.2.1, hrm.2.2.2, pay_in hts (goodY hm.1), hc, hts _ hm.1, hts _ hm.2.2.1, hm.2.2.2.1, parsed hm.2.2.2.2, h⟩, hts _ hm.2.1⟩ ⟨pre_blind, pre_at C Z⟩ rfl hn hsz hst hW hdg hf
  · exact va_runSN S hM ⟨⟨⟨hrm.1, hrm.2.1, hrm.2.2.1, hrm.2.2.2, pay_in hts (goodY hm.1), hc⟩, hts _ hm.1, hts _ hm.2.2.1, hm.2.2.2.1, parsed hm.2.2.2.2, va_Nw.use rfl h⟩, hts _ hm.2.1, trivial⟩ ⟨pre_blind, pre_at C Z⟩ rfl hn hsz hst hW hdg hf
theorem run_v {Qc : Array Value → State → Outcome → State → Prop} {free : Addr → Prop} {b q ci : Nat} {fs : List Value} {T : u_T} {N : Nat} (C : Cx p s m meth c args cc own nL ret n g) (Z : Zx w g (Aw n g s.heap.size) s H locs u) (hM : Met l y (wsY y bytes maxL rt) rm (va_Pc (.ref b :: As) (PreX w n g H.size u)) Qc 0 0 free) (hm : MFv y bytes maxL rt ny) (hk : ML s args own idx y) (hc : vwCl[ci]? = some (y.cls, T, N)) (he : (w g u)[q]? = some (b, .inr (ci, fs))) (hn : As.length = ny) (hrm : rm.cells = 0 ∧ rm.slots = 0 ∧ rm.frames + 1 ≤ R.frames ∧ 8 + (maxL + 11) + rm.locals ≤ R.locals) (hst : st = As.reverse ++ .ref b :: rest) (hsz : ls.size = nL) (hw : (rest.map fun v => v.category).sum ≤ 8) (hdg : decode cc pc = .ok (.invokevirtual idx, 3)) :
    va_Run p l e R s m args below meth c H locs 0 0 0 0 (F0 m pc ls st) rest (Qc (Value.ref b :: As).toArray) free := by
  have S : CallFix p m c cc nL s args wsA own := ⟨C.1, C.2.1, C.2.2.1, C.2.2.2.1, C.2.2.2.2.1⟩
  have hts := C.2.2.2.2.1
  have hf : 0 + 0 ≤ R.cells ∧ 0 + 0 ≤ R.slots := ⟨Nat.zero_le _, Nat.zero_le _⟩
  have hW : 2 * (F0 m pc ls st).monitorRoom + (rest.map fun v => v.category).sum ≤ 8 := lv_room hw
  have hcc : Cond.code y bytes maxL rt ∈ wsY y bytes maxL rt := List.mem_cons_self
  have hr : ∃ cell : Cell, H[b]? = some cell ∧ cell.vm.isStatics = false ∧ s.vm.findClass y.cls = some cell.cls := va_recv C.2.2.2.2.2.2.2.1.1 Z.1 hc he
  rcases hk with h | ⟨host, h⟩
  · exact va_runV (C := y.cls) S hM ⟨⟨hrm.1, hrm.2.1, hrm.2.2.1, hrm.2.2.2, pay_in hts (goodY hm.1), hcc, hts _ hm.1, hts _ hm.2.2.1, hm.2.2.2.1, parsed hm.2.2.2.2, h⟩, hts _ hm.2.1.1, hts _ hm.2.1.2⟩ ⟨pre_blind, hr, pre_at C Z⟩ rfl hn hsz hst hW hdg hf
  · exact va_runVN (C := y.cls) S hM ⟨⟨⟨hrm.1, hrm.2.1, hrm.2.2.1, hrm.2.2.2, pay_in hts (goodY hm.1), hcc⟩, hts _ hm.1, hts _ hm.2.2.1, hm.2.2.2.1, parsed hm.2.2.2.2, va_Nw.use rfl h⟩, hts _ hm.2.1.1, hts _ hm.2.1.2⟩ ⟨pre_blind, hr, pre_at C Z⟩ rfl hn hsz hst hW hdg hf
theorem end_i {a : Array Value} {r : Int32} (Z : Zx w g (Aw n g s.heap.size) s H locs u) (hr : va_Run p l e R s m args below meth c H locs 0 0 0 0 (F0 m pc ls st) rest (va_Qi (fun r' v' => r' = r ∧ v' = v) (PostX w g) (Aw n g H.size) a) (Aw n g H.size))
    (kk : ∀ (H1 : Heap) (locs1 : List Loc), Zx w g (Aw n g s.heap.size) s H1 locs1 v → W p l e R s m args below meth c H1 locs1 0 0 Q (F0 m (pc + 3) ls (.int r :: rest))) : W p l e R s m args below meth c H locs 0 0 Q (F0 m pc ls st) :=
  va_calli hr Z.2 (fun q _ h => free_at Z q h) (free_at Z) (fun r' v' t H1 locs1 ht _ hp hB _ _ hS => by
    obtain ⟨rfl, rfl⟩ := hp
    exact kk H1 locs1 ⟨ht ▸ hB, hS⟩)
theorem end_j {a : Array Value} {r : Int64} (Z : Zx w g (Aw n g s.heap.size) s H locs u) (hr : va_Run p l e R s m args below meth c H locs 0 0 0 0 (F0 m pc ls st) rest (va_Ql (fun r' v' => r' = r ∧ v' = v) (PostX w g) (Aw n g H.size) a) (Aw n g H.size))
    (kk : ∀ (H1 : Heap) (locs1 : List Loc), Zx w g (Aw n g s.heap.size) s H1 locs1 v → W p l e R s m args below meth c H1 locs1 0 0 Q (F0 m (pc + 3) ls (.long r :: rest))) : W p l e R s m args below meth c H locs 0 0 Q (F0 m pc ls st) :=
  va_calll hr Z.2 (fun q _ h => free_at Z q h) (free_at Z) (fun r' v' t H1 locs1 ht _ hp hB _ _ hS => by
    obtain ⟨rfl, rfl⟩ := hp
    exact kk H1 locs1 ⟨ht ▸ hB, hS⟩)
theorem end_v {a : Array Value} (Z : Zx w g (Aw n g s.heap.size) s H locs u) (hr : va_Run p l e R s m args below meth c H locs 0 0 0 0 (F0 m pc ls st) rest (va_Qv (fun v' => v' = v) (PostX w g) (Aw n g H.size) a) (Aw n g H.size))
    (kk : ∀ (H1 : Heap) (locs1 : List Loc), Zx w g (Aw n g s.heap.size) s H1 locs1 v → W p l e R s m args below meth c H1 locs1 0 0 Q (F0 m (pc + 3) ls rest)) : W p l e R s m args below meth c H locs 0 0 Q (F0 m pc ls st) :=
  va_callv hr Z.2 (fun q _ h => free_at Z q h) (free_at Z) (fun v' t H1 locs1 ht _ hp hB _ _ hS => by
    subst hp
    exact kk H1 locs1 ⟨ht ▸ hB, hS⟩)
theorem call_si {r : Int32} (C : Cx p s m meth c args cc own nL ret n g) (Z : Zx w g (Aw n g s.heap.size) s H locs u) (hM : CI w n l y (wsY y bytes maxL rt) rm g As u r v) (hm : MFs y bytes maxL rt ny) (hk : ML s args own idx y) (hn : As.length = ny) (hrm : rm.cells = 0 ∧ rm.slots = 0 ∧ rm.frames + 1 ≤ R.frames ∧ 8 + (maxL + 11) + rm.locals ≤ R.locals) (hst : st = As.reverse ++ rest) (hsz : ls.size = nL) (hw : (rest.map fun v => v.category).sum ≤ 8) (hdg : decode cc pc = .ok (.invokestatic idx, 3))
    (kk : ∀ (H1 : Heap) (locs1 : List Loc), Zx w g (Aw n g s.heap.size) s H1 locs1 v → W p l e R s m args below meth c H1 locs1 0 0 Q (F0 m (pc + 3) ls (.int r :: rest))) : W p l e R s m args below meth c H locs 0 0 Q (F0 m pc ls st) := end_i Z (run_s C Z (hM H.size) hm hk hn hrm hst hsz hw hdg) kk
theorem call_sv (C : Cx p s m meth c args cc own nL ret n g) (Z : Zx w g (Aw n g s.heap.size) s H locs u) (hM : CV w n l y (wsY y bytes maxL rt) rm g As u v) (hm : MFs y bytes maxL rt ny) (hk : ML s args own idx y) (hn : As.length = ny) (hrm : rm.cells = 0 ∧ rm.slots = 0 ∧ rm.frames + 1 ≤ R.frames ∧ 8 + (maxL + 11) + rm.locals ≤ R.locals) (hst : st = As.reverse ++ rest) (hsz : ls.size = nL) (hw : (rest.map fun v => v.category).sum ≤ 8) (hdg : decode cc pc = .ok (.invokestatic idx, 3))
    (kk : ∀ (H1 : Heap) (locs1 : List Loc), Zx w g (Aw n g s.heap.size) s H1 locs1 v → W p l e R s m args below meth c H1 locs1 0 0 Q (F0 m (pc + 3) ls rest)) : W p l e R s m args below meth c H locs 0 0 Q (F0 m pc ls st) := end_v Z (run_s C Z (hM H.size) hm hk hn hrm hst hsz hw hdg) kk
theorem call_vi {r : Int32} {b q ci : Nat} {fs : List Value} {T : u_T} {N : Nat} (C : Cx p s m meth c args cc own nL ret n g) (Z : Zx w g (Aw n g s.heap.size) s H locs u) (hM : CI w n l y (wsY y bytes maxL rt) rm g (.ref b :: As) u r v) (hm : MFv y bytes maxL rt ny) (hk : ML s args own idx y) (hc : vwCl[ci]? = some (y.cls, T, N)) (he : (w g u)[q]? = some (b, .inr (ci, fs))) (hn : As.length = ny) (hrm : rm.cells = 0 ∧ rm.slots = 0 ∧ rm.frames + 1 ≤ R.frames ∧ 8 + (maxL + 11) + rm.locals ≤ R.locals) (hst : st = As.reverse ++ .ref b :: rest) (hsz : ls.size = nL) (hw : (rest.map fun v => v.category).sum ≤ 8) (hdg : decode cc pc = .ok (.invokevirtual idx, 3))
    (kk : ∀ (H1 : Heap) (locs1 : List Loc), Zx w g (Aw n g s.heap.size) s H1 locs1 v → W p l e R s m args below meth c H1 locs1 0 0 Q (F0 m (pc + 3) ls (.int r :: rest))) : W p l e R s m args below meth c H locs 0 0 Q (F0 m pc ls st) := end_i Z (run_v C Z (hM H.size) hm hk hc he hn hrm hst hsz hw hdg) kk
theorem call_vj {r : Int64} {b q ci : Nat} {fs : List Value} {T : u_T} {N : Nat} (C : Cx p s m meth c args cc own nL ret n g) (Z : Zx w g (Aw n g s.heap.size) s H locs u) (hM : CJ w n l y (wsY y bytes maxL rt) rm g (.ref b :: As) u r v) (hm : MFv y bytes maxL rt ny) (hk : ML s args own idx y) (hc : vwCl[ci]? = some (y.cls, T, N)) (he : (w g u)[q]? = some (b, .inr (ci, fs))) (hn : As.length = ny) (hrm : rm.cells = 0 ∧ rm.slots = 0 ∧ rm.frames + 1 ≤ R.frames ∧ 8 + (maxL + 11) + rm.locals ≤ R.locals) (hst : st = As.reverse ++ .ref b :: rest) (hsz : ls.size = nL) (hw : (rest.map fun v => v.category).sum ≤ 8) (hdg : decode cc pc = .ok (.invokevirtual idx, 3))
    (kk : ∀ (H1 : Heap) (locs1 : List Loc), Zx w g (Aw n g s.heap.size) s H1 locs1 v → W p l e R s m args below meth c H1 locs1 0 0 Q (F0 m (pc + 3) ls (.long r :: rest))) : W p l e R s m args below meth c H locs 0 0 Q (F0 m pc ls st) := end_j Z (run_v C Z (hM H.size) hm hk hc he hn hrm hst hsz hw hdg) kk
theorem call_vv {b q ci : Nat} {fs : List Value} {T : u_T} {N : Nat} (C : Cx p s m meth c args cc own nL ret n g) (Z : Zx w g (Aw n g s.heap.size) s H locs u) (hM : CV w n l y (wsY y bytes maxL rt) rm g (.ref b :: As) u v) (hm : MFv y bytes maxL rt ny) (hk : ML s args own idx y) (hc : vwCl[ci]? = some (y.cls, T, N)) (he : (w g u)[q]? = some (b, .inr (ci, fs))) (hn : As.length = ny) (hrm : rm.cells = 0 ∧ rm.slots = 0 ∧ rm.frames + 1 ≤ R.frames ∧ 8 + (maxL + 11) + rm.locals ≤ R.locals) (hst : st = As.reverse ++ .ref b :: rest) (hsz : ls.size = nL) (hw : (rest.map fun v => v.category).sum ≤ 8) (hdg : decode cc pc = .ok (.invokevirtual idx, 3))
    (kk : ∀ (H1 : Heap) (locs1 : List Loc), Zx w g (Aw n g s.heap.size) s H1 locs1 v → W p l e R s m args below meth c H1 locs1 0 0 Q (F0 m (pc + 3) ls rest)) : W p l e R s m args below meth c H locs 0 0 Q (F0 m pc ls st) := end_v Z (run_v C Z (hM H.size) hm hk hc he hn hrm hst hsz hw hdg) kk
-- the JDK's own
theorem r_max (C : Cx p s m meth c args cc own nL ret n g) (hk : Cond.methodLink own idx Lib.Math.max.name ∈ wsA) (hw : (Cond.static Lib.Math.max.name ∈ wsA ∧ Cond.initialized "java/lang/Math" ∈ wsA) ∧ Cond.code Lib.Math.max.name Lib.Math.max.code 2 (some .int) ∈ wsA) (hsz : ls.size = nL) (hf : 1 ≤ R.frames) (hlo : (rest.map fun v => v.category).sum + 13 ≤ R.locals) {x y : Int32} (hdg : decode cc pc = .ok (.invokestatic idx, 3))
    (kk : W p l e R s m args below meth c H locs 0 0 Q (F0 m (pc + 3) ls (.int (if x < y then y else x) :: rest))) : W p l e R s m args below meth c H locs 0 0 Q (F0 m pc ls (.int y :: .int x :: rest)) :=
  va_mmax C.1 C.2.1 (C.2.2.1.trans hsz.symm) C.2.2.2.1 (C.2.2.2.2.1 _ hk) (C.2.2.2.2.1 _ hw.1.1) (C.2.2.2.2.1 _ hw.1.2) (C.2.2.2.2.1 _ hw.2) hf hlo (Nat.zero_le _) (Nat.zero_le _) hdg kk
theorem r_min (C : Cx p s m meth c args cc own nL ret n g) (hk : Cond.methodLink own idx Lib.Math.min.name ∈ wsA) (hw : (Cond.static Lib.Math.min.name ∈ wsA ∧ Cond.initialized "java/lang/Math" ∈ wsA) ∧ Cond.code Lib.Math.min.name Lib.Math.min.code 2 (some .int) ∈ wsA) (hsz : ls.size = nL) (hf : 1 ≤ R.frames) (hlo : (rest.map fun v => v.category).sum + 13 ≤ R.locals) {x y : Int32} (hdg : decode cc pc = .ok (.invokestatic idx, 3))
    (kk : W p l e R s m args below meth c H locs 0 0 Q (F0 m (pc + 3) ls (.int (if y < x then y else x) :: rest))) : W p l e R s m args below meth c H locs 0 0 Q (F0 m pc ls (.int y :: .int x :: rest)) :=
  va_mmin C.1 C.2.1 (C.2.2.1.trans hsz.symm) C.2.2.2.1 (C.2.2.2.2.1 _ hk) (C.2.2.2.2.1 _ hw.1.1) (C.2.2.2.2.1 _ hw.1.2) (C.2.2.2.2.1 _ hw.2) hf hlo (Nat.zero_le _) (Nat.zero_le _) hdg kk
theorem r_abs (C : Cx p s m meth c args cc own nL ret n g) (hk : Cond.methodLink own idx Lib.Math.abs.name ∈ wsA) (hw : (Cond.static Lib.Math.abs.name ∈ wsA ∧ Cond.initialized "java/lang/Math" ∈ wsA) ∧ Cond.code Lib.Math.abs.name Lib.Math.abs.code 1 (some .int) ∈ wsA) (hsz : ls.size = nL) (hf : 1 ≤ R.frames) (hlo : (rest.map fun v => v.category).sum + 13 ≤ R.locals) {x : Int32} (hdg : decode cc pc = .ok (.invokestatic idx, 3))
    (kk : W p l e R s m args below meth c H locs 0 0 Q (F0 m (pc + 3) ls (.int (if 0 ≤ x then x else 0 - x) :: rest))) : W p l e R s m args below meth c H locs 0 0 Q (F0 m pc ls (.int x :: rest)) :=
  va_mabs C.1 C.2.1 (C.2.2.1.trans hsz.symm) C.2.2.2.1 (C.2.2.2.2.1 _ hk) (C.2.2.2.2.1 _ hw.1.1) (C.2.2.2.2.1 _ hw.1.2) (C.2.2.2.2.1 _ hw.2) hf hlo (Nat.zero_le _) (Nat.zero_le _) hdg kk
/-- a stretch outside its row -/
def oobs (sp n : Int32) (N : Nat) : Bool := decide (sp < 0 ∨ n < 0 ∨ N < sp.toNatClampNeg + n.toNatClampNeg)
theorem oobs_ok {sp k : Int32} {N : Nat} (h : ¬ oobs sp k N = true) : ¬ sp < 0 ∧ ¬ k < 0 ∧ sp.toNatClampNeg + k.toNatClampNeg ≤ N := by
  refine ⟨fun q => h (decide_eq_true (Or.inl q)), fun q => h (decide_eq_true (Or.inr (Or.inl q))), Nat.not_lt.mp fun q => h (decide_eq_true (Or.inr (Or.inr q)))⟩
theorem r_copy (C : Cx p s m meth c args cc own nL ret n g) (hwk : Wok w n) (Z : Zx w g (Aw n g s.heap.size) s H locs u) (hk : Cond.methodLink own idx arraycopyName ∈ wsA) (hw : (Cond.native arraycopyName ∈ wsA ∧ Cond.static arraycopyName ∈ wsA) ∧ Cond.initialized "java/lang/System" ∈ wsA) (hsz : ls.size = nL) (hf : 1 ≤ R.frames) (hlo : (rest.map fun v => v.category).sum + (nativeFrameWords "java/lang/System" "arraycopy" 5 + 11) ≤ R.locals) {q0 q1 a0 a1 n0 n1 : Nat} {f f1 : Nat → Int32} (ha0 : (w g u)[q0]? = some (a0, .inl (g.2.1.1, n0, .inl f))) (ha1 : (w g u)[q1]? = some (a1, .inl (g.2.1.1, n1, .inl f1))) {sp dp k : Int32} {m1 m2 m3 : Nat} (h0 : ¬ oobs sp k n0 = true) (h1 : ¬ oobs dp k n1 = true) (hm1 : sp.toNatClampNeg = m1) (hm2 : dp.toNatClampNeg = m2) (hm3 : k.toNatClampNeg = m3) (hset : (w g u).set q1 (a1, .inl (g.2.1.1, n1, .inl (va_cpy f f1 m1 m2 m3))) = w g u') (hdg : decode cc pc = .ok (.invokestatic idx, 3))
    (kk : ∀ (H1 : Heap) (locs1 : List Loc), Zx w g (Aw n g s.heap.size) s H1 locs1 u' → W p l e R s m args below meth c H1 locs1 0 0 Q (F0 m (pc + 3) ls rest)) : W p l e R s m args below meth c H locs 0 0 Q (F0 m pc ls (.int k :: .int dp :: .ref a1 :: .int sp :: .ref a0 :: rest)) := by
  obtain ⟨e1, e2, e3⟩ := oobs_ok h0
  obtain ⟨e4, -, e5⟩ := oobs_ok h1
  exact va_copyi C.1 C.2.1 (C.2.2.1.trans hsz.symm) C.2.2.2.1 (C.2.2.2.2.1 _ hk) (C.2.2.2.2.1 _ hw.1.1) (C.2.2.2.2.1 _ hw.1.2) (C.2.2.2.2.1 _ hw.2) C.2.2.2.2.2.2.2.1.1 Z.1 (hwk.D C.2.2.2.2.2.2.2.2.2) Z.2 q0 q1 0 0 ha0 ha1 rfl rfl rfl e1 e4 e2 e3 e5 (fun _ _ => rfl) hf hlo hdg (fun H1 locs1 hP _ hS => kk H1 locs1 ⟨by rw [hm1, hm2, hm3, hset] at hP; exact hP, hS⟩)
end ROWS
end
section
/-! world C: places: 0 AskedCocks; 1 script; 2 script.bytes; 3 reader; 4 reader.draft; 5 reader.draft.roofs; 6 reader.draft.cocks; 7 reader.draft.cocks[0]; 8 reader.draft.cocks[1]; 9 reader.draft.cocks[2]; 10 reader.draft.cocks[3]; 11 reader.draft.cocks[4]; 12 reader.draft.people; 13 reader.draft.people[0]; 14 reader.draft.people[1]; 15 reader.draft.people[2]; 16 reader.draft.people[3]; 17 reader.draft.smokes; 18 reader.draft.smokes[0]; 19 reader.draft.smokes[1]; 20 reader.draft.smokes[2]; 21 reader.draft.smokes[3]; 22 reader.numbers; 23 watch; 24 watch.told; 25 watch.told.roofs; 26 watch.told.cocks; 27 watch.told.cocks[0]; 28 watch.told.cocks[1]; 29 watch.told.cocks[2]; 30 watch.told.cocks[3]; 31 watch.told.cocks[4]; 32 watch.told.people; 33 watch.told.people[0]; 34 watch.told.people[1]; 35 watch.told.people[2]; 36 watch.told.people[3]; 37 watch.told.smokes; 38 watch.told.smokes[0]; 39 watch.told.smokes[1]; 40 watch.told.smokes[2]; 41 watch.told.smokes[3]; 42 watch.present; 43 watch.present.roofs; 44 watch.present.seen; 45 watch.present.seen[0]; 46 watch.present.seen[1]; 47 watch.present.seen[2]; 48 watch.present.seen[3]; 49 watch.present.seen[4]; 50 watch.present.deedSorts; 51 watch.present.deedNumbers; 52 watch.present.deedRoofs; 53 clues; 54 clues.facedHours; 55 clues.facedSides; 56 clues.metCells; 57 clues.metHours; 58 kinds; 59 images; 60 images[0]; 61 images[0].roofs; 62 images[0].seen; 63 images[0].seen[0]; 64 images[0].seen[1]; 65 images[0].seen[2]; 66 images[0].seen[3]; 67 images[0].seen[4]; 68 images[0].deedSorts; 69 images[0].deedNumbers; 70 images[0].deedRoofs; 71 images[1]; 72 images[1].roofs; 73 images[1].seen; 74 images[1].seen[0]; 75 images[1].seen[1]; 76 images[1].seen[2]; 77 images[1].seen[3]; 78 images[1].seen[4]; 79 images[1].deedSorts; 80 images[1].deedNumbers; 81 images[1].deedRoofs -/
/-! world C: numbers (u.1): 0 script.length; 1 script.at; 2 script.tokenStart; 3 script.tokenValue; 4 reader.draft.cockCount; 5 reader.draft.peopleCount; 6 reader.draft.smokeCount; 7 watch.told.cockCount; 8 watch.told.peopleCount; 9 watch.told.smokeCount; 10 watch.present.hour; 11 watch.present.asked; 12 watch.present.deeds; 13 clues.facedCount; 14 clues.metCount; 15 images[0].hour; 16 images[0].asked; 17 images[0].deeds; 18 images[1].hour; 19 images[1].asked; 20 images[1].deeds; 21 imagesKept -/
/-! world C: rows (u.2.1): 0 script.bytes; 1 reader.draft.roofs; 2 reader.draft.cocks[0]; 3 reader.draft.cocks[1]; 4 reader.draft.cocks[2]; 5 reader.draft.cocks[3]; 6 reader.draft.cocks[4]; 7 reader.draft.people[0]; 8 reader.draft.people[1]; 9 reader.draft.people[2]; 10 reader.draft.people[3]; 11 reader.draft.smokes[0]; 12 reader.draft.smokes[1]; 13 reader.draft.smokes[2]; 14 reader.draft.smokes[3]; 15 reader.numbers; 16 watch.told.roofs; 17 watch.told.cocks[0]; 18 watch.told.cocks[1]; 19 watch.told.cocks[2]; 20 watch.told.cocks[3]; 21 watch.told.cocks[4]; 22 watch.told.people[0]; 23 watch.told.people[1]; 24 watch.told.people[2]; 25 watch.told.people[3]; 26 watch.told.smokes[0]; 27 watch.told.smokes[1]; 28 watch.told.smokes[2]; 29 watch.told.smokes[3]; 30 watch.present.roofs; 31 watch.present.seen[0]; 32 watch.present.seen[1]; 33 watch.present.seen[2]; 34 watch.present.seen[3]; 35 watch.present.seen[4]; 36 watch.present.deedSorts; 37 watch.present.deedNumbers; 38 watch.present.deedRoofs; 39 clues.facedHours; 40 clues.facedSides; 41 clues.metCells; 42 clues.metHours; 43 images[0].roofs; 44 images[0].seen[0]; 45 images[0].seen[1]; 46 images[0].seen[2]; 47 images[0].seen[3]; 48 images[0].seen[4]; 49 images[0].deedSorts; 50 images[0].deedNumbers; 51 images[0].deedRoofs; 52 images[1].roofs; 53 images[1].seen[0]; 54 images[1].seen[1]; 55 images[1].seen[2]; 56 images[1].seen[3]; 57 images[1].seen[4]; 58 images[1].deedSorts; 59 images[1].deedNumbers; 60 images[1].deedRoofs -/
def wC (g : Gx) (u : St) : va_W := [(g.2.2 0, .inr (7, [.ref (g.2.2 1), .ref (g.2.2 3), .ref (g.2.2 23), .ref (g.2.2 53), .ref (g.2.2 58), .ref (g.2.2 59), .int (u.1 21)])),
  (g.2.2 1, .inr (5, [.ref (g.2.2 2), .int (u.1 0), .int (u.1 1), .int (u.1 2), .int (u.1 3)])),
  (g.2.2 2, .inl (g.2.1.1, 150, .inl (u.2.1 0))),
  (g.2.2 3, .inr (4, [.ref (g.2.2 4), .ref (g.2.2 22)])),
  (g.2.2 4, .inr (1, [.ref (g.2.2 5), .ref (g.2.2 6), .ref (g.2.2 12), .ref (g.2.2 17), .int (u.1 4), .int (u.1 5), .int (u.1 6)])),
  (g.2.2 5, .inl (g.2.1.1, 24, .inl (u.2.1 1))),
  (g.2.2 6, .inl (g.2.1.2.1, 5, .inr (.inr (.inr (.inr (fun i => some (g.2.2 (7 + i)))))))),
  (g.2.2 7, .inl (g.2.1.1, 4, .inl (u.2.1 2))),
  (g.2.2 8, .inl (g.2.1.1, 4, .inl (u.2.1 3))),
  (g.2.2 9, .inl (g.2.1.1, 4, .inl (u.2.1 4))),
  (g.2.2 10, .inl (g.2.1.1, 4, .inl (u.2.1 5))),
  (g.2.2 11, .inl (g.2.1.1, 4, .inl (u.2.1 6))),
  (g.2.2 12, .inl (g.2.1.2.1, 4, .inr (.inr (.inr (.inr (fun i => some (g.2.2 (13 + i)))))))),
  (g.2.2 13, .inl (g.2.1.1, 2, .inl (u.2.1 7))),
  (g.2.2 14, .inl (g.2.1.1, 2, .inl (u.2.1 8))),
  (g.2.2 15, .inl (g.2.1.1, 2, .inl (u.2.1 9))),
  (g.2.2 16, .inl (g.2.1.1, 2, .inl (u.2.1 10))),
  (g.2.2 17, .inl (g.2.1.2.1, 4, .inr (.inr (.inr (.inr (fun i => some (g.2.2 (18 + i)))))))),
  (g.2.2 18, .inl (g.2.1.1, 3, .inl (u.2.1 11))),
  (g.2.2 19, .inl (g.2.1.1, 3, .inl (u.2.1 12))),
  (g.2.2 20, .inl (g.2.1.1, 3, .inl (u.2.1 13))),
  (g.2.2 21, .inl (g.2.1.1, 3, .inl (u.2.1 14))),
  (g.2.2 22, .inl (g.2.1.1, 4, .inl (u.2.1 15))),
  (g.2.2 23, .inr (6, [.ref (g.2.2 24), .ref (g.2.2 42)])),
  (g.2.2 24, .inr (1, [.ref (g.2.2 25), .ref (g.2.2 26), .ref (g.2.2 32), .ref (g.2.2 37), .int (u.1 7), .int (u.1 8), .int (u.1 9)])),
  (g.2.2 25, .inl (g.2.1.1, 24, .inl (u.2.1 16))),
  (g.2.2 26, .inl (g.2.1.2.1, 5, .inr (.inr (.inr (.inr (fun i => some (g.2.2 (27 + i)))))))),
  (g.2.2 27, .inl (g.2.1.1, 4, .inl (u.2.1 17))),
  (g.2.2 28, .inl (g.2.1.1, 4, .inl (u.2.1 18))),
  (g.2.2 29, .inl (g.2.1.1, 4, .inl (u.2.1 19))),
  (g.2.2 30, .inl (g.2.1.1, 4, .inl (u.2.1 20))),
  (g.2.2 31, .inl (g.2.1.1, 4, .inl (u.2.1 21))),
  (g.2.2 32, .inl (g.2.1.2.1, 4, .inr (.inr (.inr (.inr (fun i => some (g.2.2 (33 + i)))))))),
  (g.2.2 33, .inl (g.2.1.1, 2, .inl (u.2.1 22))),
  (g.2.2 34, .inl (g.2.1.1, 2, .inl (u.2.1 23))),
  (g.2.2 35, .inl (g.2.1.1, 2, .inl (u.2.1 24))),
  (g.2.2 36, .inl (g.2.1.1, 2, .inl (u.2.1 25))),
  (g.2.2 37, .inl (g.2.1.2.1, 4, .inr (.inr (.inr (.inr (fun i => some (g.2.2 (38 + i)))))))),
  (g.2.2 38, .inl (g.2.1.1, 3, .inl (u.2.1 26))),
  (g.2.2 39, .inl (g.2.1.1, 3, .inl (u.2.1 27))),
  (g.2.2 40, .inl (g.2.1.1, 3, .inl (u.2.1 28))),
  (g.2.2 41, .inl (g.2.1.1, 3, .inl (u.2.1 29))),
  (g.2.2 42, .inr (3, [.int (u.1 10), .int (u.1 11), .ref (g.2.2 43), .ref (g.2.2 44), .ref (g.2.2 50), .ref (g.2.2 51), .ref (g.2.2 52), .int (u.1 12)])),
  (g.2.2 43, .inl (g.2.1.1, 24, .inl (u.2.1 30))),
  (g.2.2 44, .inl (g.2.1.2.1, 5, .inr (.inr (.inr (.inr (fun i => some (g.2.2 (45 + i)))))))),
  (g.2.2 45, .inl (g.2.1.1, 4, .inl (u.2.1 31))),
  (g.2.2 46, .inl (g.2.1.1, 4, .inl (u.2.1 32))),
  (g.2.2 47, .inl (g.2.1.1, 4, .inl (u.2.1 33))),
  (g.2.2 48, .inl (g.2.1.1, 4, .inl (u.2.1 34))),
  (g.2.2 49, .inl (g.2.1.1, 4, .inl (u.2.1 35))),
  (g.2.2 50, .inl (g.2.1.1, 10, .inl (u.2.1 36))),
  (g.2.2 51, .inl (g.2.1.1, 10, .inl (u.2.1 37))),
  (g.2.2 52, .inl (g.2.1.1, 10, .inl (u.2.1 38))),
  (g.2.2 53, .inr (0, [.ref (g.2.2 54), .ref (g.2.2 55), .int (u.1 13), .ref (g.2.2 56), .ref (g.2.2 57), .int (u.1 14)])),
  (g.2.2 54, .inl (g.2.1.1, 6, .inl (u.2.1 39))),
  (g.2.2 55, .inl (g.2.1.1, 6, .inl (u.2.1 40))),
  (g.2.2 56, .inl (g.2.1.1, 6, .inl (u.2.1 41))),
  (g.2.2 57, .inl (g.2.1.1, 6, .inl (u.2.1 42))),
  (g.2.2 58, .inr (2, [.long u.2.2])),
  (g.2.2 59, .inl (g.2.1.2.2.1, 2, .inr (.inr (.inr (.inr (fun i => some (g.2.2 (60 + 11 * i)))))))),
  (g.2.2 60, .inr (3, [.int (u.1 15), .int (u.1 16), .ref (g.2.2 61), .ref (g.2.2 62), .ref (g.2.2 68), .ref (g.2.2 69), .ref (g.2.2 70), .int (u.1 17)])),
  (g.2.2 61, .inl (g.2.1.1, 24, .inl (u.2.1 43))),
  (g.2.2 62, .inl (g.2.1.2.1, 5, .inr (.inr (.inr (.inr (fun i => some (g.2.2 (63 + i)))))))),
  (g.2.2 63, .inl (g.2.1.1, 4, .inl (u.2.1 44))),
  (g.2.2 64, .inl (g.2.1.1, 4, .inl (u.2.1 45))),
  (g.2.2 65, .inl (g.2.1.1, 4, .inl (u.2.1 46))),
  (g.2.2 66, .inl (g.2.1.1, 4, .inl (u.2.1 47))),
  (g.2.2 67, .inl (g.2.1.1, 4, .inl (u.2.1 48))),
  (g.2.2 68, .inl (g.2.1.1, 10, .inl (u.2.1 49))),
  (g.2.2 69, .inl (g.2.1.1, 10, .inl (u.2.1 50))),
  (g.2.2 70, .inl (g.2.1.1, 10, .inl (u.2.1 51))),
  (g.2.2 71, .inr (3, [.int (u.1 18), .int (u.1 19), .ref (g.2.2 72), .ref (g.2.2 73), .ref (g.2.2 79), .ref (g.2.2 80), .ref (g.2.2 81), .int (u.1 20)])),
  (g.2.2 72, .inl (g.2.1.1, 24, .inl (u.2.1 52))),
  (g.2.2 73, .inl (g.2.1.2.1, 5, .inr (.inr (.inr (.inr (fun i => some (g.2.2 (74 + i)))))))),
  (g.2.2 74, .inl (g.2.1.1, 4, .inl (u.2.1 53))),
  (g.2.2 75, .inl (g.2.1.1, 4, .inl (u.2.1 54))),
  (g.2.2 76, .inl (g.2.1.1, 4, .inl (u.2.1 55))),
  (g.2.2 77, .inl (g.2.1.1, 4, .inl (u.2.1 56))),
  (g.2.2 78, .inl (g.2.1.1, 4, .inl (u.2.1 57))),
  (g.2.2 79, .inl (g.2.1.1, 10, .inl (u.2.1 58))),
  (g.2.2 80, .inl (g.2.1.1, 10, .inl (u.2.1 59))),
  (g.2.2 81, .inl (g.2.1.1, 10, .inl (u.2.1 60)))]
theorem wokC : Wok wC 82 := by
  intro g u k q h
  have h1 : ((wC g u).map (fun x => x.1))[k]? = some q.1 := by rw [List.getElem?_map, h]; rfl
  have h2 : (wC g u).map (fun x => x.1) = (List.range 82).map g.2.2 := rfl
  rw [h2, List.getElem?_map] at h1
  by_cases hk : k < 82
  · rw [List.getElem?_range hk] at h1
    exact ⟨hk, (Option.some.inj h1).symm⟩
  · rw [List.getElem?_eq_none (by rw [List.length_range]; omega)] at h1
    cases h1
/-! world M: places: 0 AskedCocksModel; 1 places; 2 rises; 3 sides; 4 turns; 5 starts; 6 speeds; 7 smoke; 8 st; 9 images; 10 isKept; 11 facing; 12 meets; 13 text; 14 saidRoof; 15 saidPlace; 16 saidRise; 17 saidSide; 18 saidTurn; 19 saidStart; 20 saidSpeed; 21 saidSmoke -/
/-! world M: numbers (u.1): 0 cocks; 1 people; 2 smokes; 3 facedMany; 4 metMany; 5 texted; 6 cursor; 7 start; 8 token; 9 number; 10 isWrong; 11 items; 12 saidCocks; 13 saidPeople; 14 saidSmokes -/
/-! world M: rows (u.2.1): 0 places; 1 rises; 2 sides; 3 turns; 4 starts; 5 speeds; 6 smoke; 7 st; 8 images; 9 isKept; 10 facing; 11 meets; 12 text; 13 saidRoof; 14 saidPlace; 15 saidRise; 16 saidSide; 17 saidTurn; 18 saidStart; 19 saidSpeed; 20 saidSmoke -/
def wM (g : Gx) (u : St) : va_W := [(g.2.2 0, .inr (8, [.int (u.1 0), .ref (g.2.2 1), .ref (g.2.2 2), .ref (g.2.2 3), .ref (g.2.2 4), .int (u.1 1), .ref (g.2.2 5), .ref (g.2.2 6), .int (u.1 2), .ref (g.2.2 7), .ref (g.2.2 8), .ref (g.2.2 9), .ref (g.2.2 10), .int (u.1 3), .ref (g.2.2 11), .int (u.1 4), .ref (g.2.2 12), .long u.2.2, .ref (g.2.2 13), .int (u.1 5), .int (u.1 6), .int (u.1 7), .int (u.1 8), .int (u.1 9), .int (u.1 10), .int (u.1 11), .ref (g.2.2 14), .int (u.1 12), .ref (g.2.2 15), .ref (g.2.2 16), .ref (g.2.2 17), .ref (g.2.2 18), .int (u.1 13), .ref (g.2.2 19), .ref (g.2.2 20), .int (u.1 14), .ref (g.2.2 21)])),
  (g.2.2 1, .inl (g.2.1.1, 5, .inl (u.2.1 0))),
  (g.2.2 2, .inl (g.2.1.1, 5, .inl (u.2.1 1))),
  (g.2.2 3, .inl (g.2.1.1, 5, .inl (u.2.1 2))),
  (g.2.2 4, .inl (g.2.1.1, 5, .inl (u.2.1 3))),
  (g.2.2 5, .inl (g.2.1.1, 4, .inl (u.2.1 4))),
  (g.2.2 6, .inl (g.2.1.1, 4, .inl (u.2.1 5))),
  (g.2.2 7, .inl (g.2.1.1, 12, .inl (u.2.1 6))),
  (g.2.2 8, .inl (g.2.1.1, 507, .inl (u.2.1 7))),
  (g.2.2 9, .inl (g.2.1.1, 1014, .inl (u.2.1 8))),
  (g.2.2 10, .inl (g.2.1.2.2.2, 2, .inl (u.2.1 9))),
  (g.2.2 11, .inl (g.2.1.1, 12, .inl (u.2.1 10))),
  (g.2.2 12, .inl (g.2.1.1, 12, .inl (u.2.1 11))),
  (g.2.2 13, .inl (g.2.1.1, 150, .inl (u.2.1 12))),
  (g.2.2 14, .inl (g.2.1.1, 24, .inl (u.2.1 13))),
  (g.2.2 15, .inl (g.2.1.1, 5, .inl (u.2.1 14))),
  (g.2.2 16, .inl (g.2.1.1, 5, .inl (u.2.1 15))),
  (g.2.2 17, .inl (g.2.1.1, 5, .inl (u.2.1 16))),
  (g.2.2 18, .inl (g.2.1.1, 5, .inl (u.2.1 17))),
  (g.2.2 19, .inl (g.2.1.1, 4, .inl (u.2.1 18))),
  (g.2.2 20, .inl (g.2.1.1, 4, .inl (u.2.1 19))),
  (g.2.2 21, .inl (g.2.1.1, 12, .inl (u.2.1 20)))]
theorem wokM : Wok wM 22 := by
  intro g u k q h
  have h1 : ((wM g u).map (fun x => x.1))[k]? = some q.1 := by rw [List.getElem?_map, h]; rfl
  have h2 : (wM g u).map (fun x => x.1) = (List.range 22).map g.2.2 := rfl
  rw [h2, List.getElem?_map] at h1
  by_cases hk : k < 22
  · rw [List.getElem?_range hk] at h1
    exact ⟨hk, (Option.some.inj h1).symm⟩
  · rw [List.getElem?_eq_none (by rw [List.length_range]; omega)] at h1
    cases h1
section WORLD
variable {p : Program} {l : Launch} {e : Env} {R : Room} {s : State} {m : MethodId} {args : Array Value} {below : List Frame} {meth : Method} {c : Code} {H : Heap} {locs : List Loc} {Q : State → Prop} {cc : ByteArray} {own : String} {nL : Nat} {ret : Option FieldType} {g : Gx} {u : St} {ls : Array Slot} {rest : List Value} {pc idx : Nat}

theorem oC_0 (g : Gx) (u : St) : (wC g u)[0]? = some (g.2.2 0, .inr (7, [.ref (g.2.2 1), .ref (g.2.2 3), .ref (g.2.2 23), .ref (g.2.2 53), .ref (g.2.2 58), .ref (g.2.2 59), .int (u.1 21)])) := rfl
theorem gC_0_0 (C : Cx p s m meth c args cc own nL ret 82 g) (Z : Zx wC g (Aw 82 g s.heap.size) s H locs u) (hl : FL s args own idx "AskedCocks" "script" "LAskedCocks$Script;") (hdg : decode cc pc = .ok (.getfield idx, 3)) (kk : W p l e R s m args below meth c H locs 0 0 Q (F0 m (pc + 3) ls (.ref (g.2.2 1) :: rest))) : W p l e R s m args below meth c H locs 0 0 Q (F0 m pc ls (.ref (g.2.2 0) :: rest)) :=
  r_get C Z (T := TX7) inlX7 rfl (oC_0 g u) (k := 0) (by decide) hl rfl hdg kk
theorem gC_0_1 (C : Cx p s m meth c args cc own nL ret 82 g) (Z : Zx wC g (Aw 82 g s.heap.size) s H locs u) (hl : FL s args own idx "AskedCocks" "reader" "LAskedCocks$Reader;") (hdg : decode cc pc = .ok (.getfield idx, 3)) (kk : W p l e R s m args below meth c H locs 0 0 Q (F0 m (pc + 3) ls (.ref (g.2.2 3) :: rest))) : W p l e R s m args below meth c H locs 0 0 Q (F0 m pc ls (.ref (g.2.2 0) :: rest)) :=
  r_get C Z (T := TX7) inlX7 rfl (oC_0 g u) (k := 1) (by decide) hl rfl hdg kk
theorem gC_0_2 (C : Cx p s m meth c args cc own nL ret 82 g) (Z : Zx wC g (Aw 82 g s.heap.size) s H locs u) (hl : FL s args own idx "AskedCocks" "watch" "LAskedCocks$Watch;") (hdg : decode cc pc = .ok (.getfield idx, 3)) (kk : W p l e R s m args below meth c H locs 0 0 Q (F0 m (pc + 3) ls (.ref (g.2.2 23) :: rest))) : W p l e R s m args below meth c H locs 0 0 Q (F0 m pc ls (.ref (g.2.2 0) :: rest)) :=
  r_get C Z (T := TX7) inlX7 rfl (oC_0 g u) (k := 2) (by decide) hl rfl hdg kk
theorem gC_0_3 (C : Cx p s m meth c args cc own nL ret 82 g) (Z : Zx wC g (Aw 82 g s.heap.size) s H locs u) (hl : FL s args own idx "AskedCocks" "clues" "LAskedCocks$Clues;") (hdg : decode cc pc = .ok (.getfield idx, 3)) (kk : W p l e R s m args below meth c H locs 0 0 Q (F0 m (pc + 3) ls (.ref (g.2.2 53) :: rest))) : W p l e R s m args below meth c H locs 0 0 Q (F0 m pc ls (.ref (g.2.2 0) :: rest)) :=
  r_get C Z (T := TX7) inlX7 rfl (oC_0 g u) (k := 3) (by decide) hl rfl hdg kk
theorem gC_0_4 (C : Cx p s m meth c args cc own nL ret 82 g) (Z : Zx wC g (Aw 82 g s.heap.size) s H locs u) (hl : FL s args own idx "AskedCocks" "kinds" "LAskedCocks$Kinds;") (hdg : decode cc pc = .ok (.getfield idx, 3)) (kk : W p l e R s m args below meth c H locs 0 0 Q (F0 m (pc + 3) ls (.ref (g.2.2 58) :: rest))) : W p l e R s m args below meth c H locs 0 0 Q (F0 m pc ls (.ref (g.2.2 0) :: rest)) :=
  r_get C Z (T := TX7) inlX7 rfl (oC_0 g u) (k := 4) (by decide) hl rfl hdg kk
theorem gC_0_5 (C : Cx p s m meth c args cc own nL ret 82 g) (Z : Zx wC g (Aw 82 g s.heap.size) s H locs u) (hl : FL s args own idx "AskedCocks" "images" "[LAskedCocks$Present;") (hdg : decode cc pc = .ok (.getfield idx, 3)) (kk : W p l e R s m args below meth c H locs 0 0 Q (F0 m (pc + 3) ls (.ref (g.2.2 59) :: rest))) : W p l e R s m args below meth c H locs 0 0 Q (F0 m pc ls (.ref (g.2.2 0) :: rest)) :=
  r_get C Z (T := TX7) inlX7 rfl (oC_0 g u) (k := 5) (by decide) hl rfl hdg kk
theorem gC_0_6 (C : Cx p s m meth c args cc own nL ret 82 g) (Z : Zx wC g (Aw 82 g s.heap.size) s H locs u) (hl : FL s args own idx "AskedCocks" "imagesKept" "I") (hdg : decode cc pc = .ok (.getfield idx, 3)) {x : Int32} (hx : u.1 21 = x) (kk : W p l e R s m args below meth c H locs 0 0 Q (F0 m (pc + 3) ls (.int x :: rest))) : W p l e R s m args below meth c H locs 0 0 Q (F0 m pc ls (.ref (g.2.2 0) :: rest)) :=
  r_get C Z (T := TX7) inlX7 rfl (oC_0 g u) (k := 6) (by decide) hl (v := .int x) (by rw [← hx]; rfl) hdg kk
theorem pC_0_6 (C : Cx p s m meth c args cc own nL ret 82 g) (Z : Zx wC g (Aw 82 g s.heap.size) s H locs u) (hl : FL s args own idx "AskedCocks" "imagesKept" "I") {x : Int32} (hdg : decode cc pc = .ok (.putfield idx, 3)) (kk : ∀ (H : Heap) (locs : List Loc), Zx wC g (Aw 82 g s.heap.size) s H locs (sI u 21 x) → W p l e R s m args below meth c H locs 0 0 Q (F0 m (pc + 3) ls rest)) : W p l e R s m args below meth c H locs 0 0 Q (F0 m pc ls (.int x :: .ref (g.2.2 0) :: rest)) :=
  r_put C wokC Z (T := TX7) inlX7 tyX7 tyX7_ok nmX7 rfl (oC_0 g u) (k := 6) (by decide) hl rfl (ty := .int) (by decide +kernel) rfl rfl (Nat.le_of_ble_eq_true rfl) rfl hdg kk
theorem oC_1 (g : Gx) (u : St) : (wC g u)[1]? = some (g.2.2 1, .inr (5, [.ref (g.2.2 2), .int (u.1 0), .int (u.1 1), .int (u.1 2), .int (u.1 3)])) := rfl
theorem gC_1_0 (C : Cx p s m meth c args cc own nL ret 82 g) (Z : Zx wC g (Aw 82 g s.heap.size) s H locs u) (hl : FL s args own idx "AskedCocks$Script" "bytes" "[I") (hdg : decode cc pc = .ok (.getfield idx, 3)) (kk : W p l e R s m args below meth c H locs 0 0 Q (F0 m (pc + 3) ls (.ref (g.2.2 2) :: rest))) : W p l e R s m args below meth c H locs 0 0 Q (F0 m pc ls (.ref (g.2.2 1) :: rest)) :=
  r_get C Z (T := TX5) inlX5 rfl (oC_1 g u) (k := 0) (by decide) hl rfl hdg kk
theorem gC_1_1 (C : Cx p s m meth c args cc own nL ret 82 g) (Z : Zx wC g (Aw 82 g s.heap.size) s H locs u) (hl : FL s args own idx "AskedCocks$Script" "length" "I") (hdg : decode cc pc = .ok (.getfield idx, 3)) {x : Int32} (hx : u.1 0 = x) (kk : W p l e R s m args below meth c H locs 0 0 Q (F0 m (pc + 3) ls (.int x :: rest))) : W p l e R s m args below meth c H locs 0 0 Q (F0 m pc ls (.ref (g.2.2 1) :: rest)) :=
  r_get C Z (T := TX5) inlX5 rfl (oC_1 g u) (k := 1) (by decide) hl (v := .int x) (by rw [← hx]; rfl) hdg kk
theorem pC_1_1 (C : Cx p s m meth c args cc own nL ret 82 g) (Z : Zx wC g (Aw 82 g s.heap.size) s H locs u) (hl : FL s args own idx "AskedCocks$Script" "length" "I") {x : Int32} (hdg : decode cc pc = .ok (.putfield idx, 3)) (kk : ∀ (H : Heap) (locs : List Loc), Zx wC g (Aw 82 g s.heap.size) s H locs (sI u 0 x) → W p l e R s m args below meth c H locs 0 0 Q (F0 m (pc + 3) ls rest)) : W p l e R s m args below meth c H locs 0 0 Q (F0 m pc ls (.int x :: .ref (g.2.2 1) :: rest)) :=
  r_put C wokC Z (T := TX5) inlX5 tyX5 tyX5_ok nmX5 rfl (oC_1 g u) (k := 1) (by decide) hl rfl (ty := .int) (by decide +kernel) rfl rfl (Nat.le_of_ble_eq_true rfl) rfl hdg kk
theorem gC_1_2 (C : Cx p s m meth c args cc own nL ret 82 g) (Z : Zx wC g (Aw 82 g s.heap.size) s H locs u) (hl : FL s args own idx "AskedCocks$Script" "at" "I") (hdg : decode cc pc = .ok (.getfield idx, 3)) {x : Int32} (hx : u.1 1 = x) (kk : W p l e R s m args below meth c H locs 0 0 Q (F0 m (pc + 3) ls (.int x :: rest))) : W p l e R s m args below meth c H locs 0 0 Q (F0 m pc ls (.ref (g.2.2 1) :: rest)) :=
  r_get C Z (T := TX5) inlX5 rfl (oC_1 g u) (k := 2) (by decide) hl (v := .int x) (by rw [← hx]; rfl) hdg kk
theorem pC_1_2 (C : Cx p s m meth c args cc own nL ret 82 g) (Z : Zx wC g (Aw 82 g s.heap.size) s H locs u) (hl : FL s args own idx "AskedCocks$Script" "at" "I") {x : Int32} (hdg : decode cc pc = .ok (.putfield idx, 3)) (kk : ∀ (H : Heap) (locs : List Loc), Zx wC g (Aw 82 g s.heap.size) s H locs (sI u 1 x) → W p l e R s m args below meth c H locs 0 0 Q (F0 m (pc + 3) ls rest)) : W p l e R s m args below meth c H locs 0 0 Q (F0 m pc ls (.int x :: .ref (g.2.2 1) :: rest)) :=
  r_put C wokC Z (T := TX5) inlX5 tyX5 tyX5_ok nmX5 rfl (oC_1 g u) (k := 2) (by decide) hl rfl (ty := .int) (by decide +kernel) rfl rfl (Nat.le_of_ble_eq_true rfl) rfl hdg kk
theorem gC_1_3 (C : Cx p s m meth c args cc own nL ret 82 g) (Z : Zx wC g (Aw 82 g s.heap.size) s H locs u) (hl : FL s args own idx "AskedCocks$Script" "tokenStart" "I") (hdg : decode cc pc = .ok (.getfield idx, 3)) {x : Int32} (hx : u.1 2 = x) (kk : W p l e R s m args below meth c H locs 0 0 Q (F0 m (pc + 3) ls (.int x :: rest))) : W p l e R s m args below meth c H locs 0 0 Q (F0 m pc ls (.ref (g.2.2 1) :: rest)) :=
  r_get C Z (T := TX5) inlX5 rfl (oC_1 g u) (k := 3) (by decide) hl (v := .int x) (by rw [← hx]; rfl) hdg kk
theorem pC_1_3 (C : Cx p s m meth c args cc own nL ret 82 g) (Z : Zx wC g (Aw 82 g s.heap.size) s H locs u) (hl : FL s args own idx "AskedCocks$Script" "tokenStart" "I") {x : Int32} (hdg : decode cc pc = .ok (.putfield idx, 3)) (kk : ∀ (H : Heap) (locs : List Loc), Zx wC g (Aw 82 g s.heap.size) s H locs (sI u 2 x) → W p l e R s m args below meth c H locs 0 0 Q (F0 m (pc + 3) ls rest)) : W p l e R s m args below meth c H locs 0 0 Q (F0 m pc ls (.int x :: .ref (g.2.2 1) :: rest)) :=
  r_put C wokC Z (T := TX5) inlX5 tyX5 tyX5_ok nmX5 rfl (oC_1 g u) (k := 3) (by decide) hl rfl (ty := .int) (by decide +kernel) rfl rfl (Nat.le_of_ble_eq_true rfl) rfl hdg kk
theorem gC_1_4 (C : Cx p s m meth c args cc own nL ret 82 g) (Z : Zx wC g (Aw 82 g s.heap.size) s H locs u) (hl : FL s args own idx "AskedCocks$Script" "tokenValue" "I") (hdg : decode cc pc = .ok (.getfield idx, 3)) {x : Int32} (hx : u.1 3 = x) (kk : W p l e R s m args below meth c H locs 0 0 Q (F0 m (pc + 3) ls (.int x :: rest))) : W p l e R s m args below meth c H locs 0 0 Q (F0 m pc ls (.ref (g.2.2 1) :: rest)) :=
  r_get C Z (T := TX5) inlX5 rfl (oC_1 g u) (k := 4) (by decide) hl (v := .int x) (by rw [← hx]; rfl) hdg kk
theorem pC_1_4 (C : Cx p s m meth c args cc own nL ret 82 g) (Z : Zx wC g (Aw 82 g s.heap.size) s H locs u) (hl : FL s args own idx "AskedCocks$Script" "tokenValue" "I") {x : Int32} (hdg : decode cc pc = .ok (.putfield idx, 3)) (kk : ∀ (H : Heap) (locs : List Loc), Zx wC g (Aw 82 g s.heap.size) s H locs (sI u 3 x) → W p l e R s m args below meth c H locs 0 0 Q (F0 m (pc + 3) ls rest)) : W p l e R s m args below meth c H locs 0 0 Q (F0 m pc ls (.int x :: .ref (g.2.2 1) :: rest)) :=
  r_put C wokC Z (T := TX5) inlX5 tyX5 tyX5_ok nmX5 rfl (oC_1 g u) (k := 4) (by decide) hl rfl (ty := .int) (by decide +kernel) rfl rfl (Nat.le_of_ble_eq_true rfl) rfl hdg kk
theorem aC_2 (g : Gx) (u : St) {f : Nat → Int32} (hf : u.2.1 0 = f) : (wC g u)[2]? = some (g.2.2 2, .inl (g.2.1.1, 150, .inl f)) := hf ▸ rfl
theorem sC_2 (g : Gx) (u : St) (f : Nat → Int32) : (wC g u).set 2 (g.2.2 2, .inl (g.2.1.1, 150, .inl f)) = wC g (sA u 0 f) := rfl
theorem oC_3 (g : Gx) (u : St) : (wC g u)[3]? = some (g.2.2 3, .inr (4, [.ref (g.2.2 4), .ref (g.2.2 22)])) := rfl
theorem gC_3_0 (C : Cx p s m meth c args cc own nL ret 82 g) (Z : Zx wC g (Aw 82 g s.heap.size) s H locs u) (hl : FL s args own idx "AskedCocks$Reader" "draft" "LAskedCocks$Diocese;") (hdg : decode cc pc = .ok (.getfield idx, 3)) (kk : W p l e R s m args below meth c H locs 0 0 Q (F0 m (pc + 3) ls (.ref (g.2.2 4) :: rest))) : W p l e R s m args below meth c H locs 0 0 Q (F0 m pc ls (.ref (g.2.2 3) :: rest)) :=
  r_get C Z (T := TX4) inlX4 rfl (oC_3 g u) (k := 0) (by decide) hl rfl hdg kk
theorem gC_3_1 (C : Cx p s m meth c args cc own nL ret 82 g) (Z : Zx wC g (Aw 82 g s.heap.size) s H locs u) (hl : FL s args own idx "AskedCocks$Reader" "numbers" "[I") (hdg : decode cc pc = .ok (.getfield idx, 3)) (kk : W p l e R s m args below meth c H locs 0 0 Q (F0 m (pc + 3) ls (.ref (g.2.2 22) :: rest))) : W p l e R s m args below meth c H locs 0 0 Q (F0 m pc ls (.ref (g.2.2 3) :: rest)) :=
  r_get C Z (T := TX4) inlX4 rfl (oC_3 g u) (k := 1) (by decide) hl rfl hdg kk
theorem oC_4 (g : Gx) (u : St) : (wC g u)[4]? = some (g.2.2 4, .inr (1, [.ref (g.2.2 5), .ref (g.2.2 6), .ref (g.2.2 12), .ref (g.2.2 17), .int (u.1 4), .int (u.1 5), .int (u.1 6)])) := rfl
theorem gC_4_0 (C : Cx p s m meth c args cc own nL ret 82 g) (Z : Zx wC g (Aw 82 g s.heap.size) s H locs u) (hl : FL s args own idx "AskedCocks$Diocese" "roofs" "[I") (hdg : decode cc pc = .ok (.getfield idx, 3)) (kk : W p l e R s m args below meth c H locs 0 0 Q (F0 m (pc + 3) ls (.ref (g.2.2 5) :: rest))) : W p l e R s m args below meth c H locs 0 0 Q (F0 m pc ls (.ref (g.2.2 4) :: rest)) :=
  r_get C Z (T := TX1) inlX1 rfl (oC_4 g u) (k := 0) (by decide) hl rfl hdg kk
theorem gC_4_1 (C : Cx p s m meth c args cc own nL ret 82 g) (Z : Zx wC g (Aw 82 g s.heap.size) s H locs u) (hl : FL s args own idx "AskedCocks$Diocese" "cocks" "[[I") (hdg : decode cc pc = .ok (.getfield idx, 3)) (kk : W p l e R s m args below meth c H locs 0 0 Q (F0 m (pc + 3) ls (.ref (g.2.2 6) :: rest))) : W p l e R s m args below meth c H locs 0 0 Q (F0 m pc ls (.ref (g.2.2 4) :: rest)) :=
  r_get C Z (T := TX1) inlX1 rfl (oC_4 g u) (k := 1) (by decide) hl rfl hdg kk
theorem gC_4_2 (C : Cx p s m meth c args cc own nL ret 82 g) (Z : Zx wC g (Aw 82 g s.heap.size) s H locs u) (hl : FL s args own idx "AskedCocks$Diocese" "people" "[[I") (hdg : decode cc pc = .ok (.getfield idx, 3)) (kk : W p l e R s m args below meth c H locs 0 0 Q (F0 m (pc + 3) ls (.ref (g.2.2 12) :: rest))) : W p l e R s m args below meth c H locs 0 0 Q (F0 m pc ls (.ref (g.2.2 4) :: rest)) :=
  r_get C Z (T := TX1) inlX1 rfl (oC_4 g u) (k := 2) (by decide) hl rfl hdg kk
theorem gC_4_3 (C : Cx p s m meth c args cc own nL ret 82 g) (Z : Zx wC g (Aw 82 g s.heap.size) s H locs u) (hl : FL s args own idx "AskedCocks$Diocese" "smokes" "[[I") (hdg : decode cc pc = .ok (.getfield idx, 3)) (kk : W p l e R s m args below meth c H locs 0 0 Q (F0 m (pc + 3) ls (.ref (g.2.2 17) :: rest))) : W p l e R s m args below meth c H locs 0 0 Q (F0 m pc ls (.ref (g.2.2 4) :: rest)) :=
  r_get C Z (T := TX1) inlX1 rfl (oC_4 g u) (k := 3) (by decide) hl rfl hdg kk
theorem gC_4_4 (C : Cx p s m meth c args cc own nL ret 82 g) (Z : Zx wC g (Aw 82 g s.heap.size) s H locs u) (hl : FL s args own idx "AskedCocks$Diocese" "cockCount" "I") (hdg : decode cc pc = .ok (.getfield idx, 3)) {x : Int32} (hx : u.1 4 = x) (kk : W p l e R s m args below meth c H locs 0 0 Q (F0 m (pc + 3) ls (.int x :: rest))) : W p l e R s m args below meth c H locs 0 0 Q (F0 m pc ls (.ref (g.2.2 4) :: rest)) :=
  r_get C Z (T := TX1) inlX1 rfl (oC_4 g u) (k := 4) (by decide) hl (v := .int x) (by rw [← hx]; rfl) hdg kk
theorem pC_4_4 (C : Cx p s m meth c args cc own nL ret 82 g) (Z : Zx wC g (Aw 82 g s.heap.size) s H locs u) (hl : FL s args own idx "AskedCocks$Diocese" "cockCount" "I") {x : Int32} (hdg : decode cc pc = .ok (.putfield idx, 3)) (kk : ∀ (H : Heap) (locs : List Loc), Zx wC g (Aw 82 g s.heap.size) s H locs (sI u 4 x) → W p l e R s m args below meth c H locs 0 0 Q (F0 m (pc + 3) ls rest)) : W p l e R s m args below meth c H locs 0 0 Q (F0 m pc ls (.int x :: .ref (g.2.2 4) :: rest)) :=
  r_put C wokC Z (T := TX1) inlX1 tyX1 tyX1_ok nmX1 rfl (oC_4 g u) (k := 4) (by decide) hl rfl (ty := .int) (by decide +kernel) rfl rfl (Nat.le_of_ble_eq_true rfl) rfl hdg kk
theorem gC_4_5 (C : Cx p s m meth c args cc own nL ret 82 g) (Z : Zx wC g (Aw 82 g s.heap.size) s H locs u) (hl : FL s args own idx "AskedCocks$Diocese" "peopleCount" "I") (hdg : decode cc pc = .ok (.getfield idx, 3)) {x : Int32} (hx : u.1 5 = x) (kk : W p l e R s m args below meth c H locs 0 0 Q (F0 m (pc + 3) ls (.int x :: rest))) : W p l e R s m args below meth c H locs 0 0 Q (F0 m pc ls (.ref (g.2.2 4) :: rest)) :=
  r_get C Z (T := TX1) inlX1 rfl (oC_4 g u) (k := 5) (by decide) hl (v := .int x) (by rw [← hx]; rfl) hdg kk
theorem pC_4_5 (C : Cx p s m meth c args cc own nL ret 82 g) (Z : Zx wC g (Aw 82 g s.heap.size) s H locs u) (hl : FL s args own idx "AskedCocks$Diocese" "peopleCount" "I") {x : Int32} (hdg : decode cc pc = .ok (.putfield idx, 3)) (kk : ∀ (H : Heap) (locs : List Loc), Zx wC g (Aw 82 g s.heap.size) s H locs (sI u 5 x) → W p l e R s m args below meth c H locs 0 0 Q (F0 m (pc + 3) ls rest)) : W p l e R s m args below meth c H locs 0 0 Q (F0 m pc ls (.int x :: .ref (g.2.2 4) :: rest)) :=
  r_put C wokC Z (T := TX1) inlX1 tyX1 tyX1_ok nmX1 rfl (oC_4 g u) (k := 5) (by decide) hl rfl (ty := .int) (by decide +kernel) rfl rfl (Nat.le_of_ble_eq_true rfl) rfl hdg kk
theorem gC_4_6 (C : Cx p s m meth c args cc own nL ret 82 g) (Z : Zx wC g (Aw 82 g s.heap.size) s H locs u) (hl : FL s args own idx "AskedCocks$Diocese" "smokeCount" "I") (hdg : decode cc pc = .ok (.getfield idx, 3)) {x : Int32} (hx : u.1 6 = x) (kk : W p l e R s m args below meth c H locs 0 0 Q (F0 m (pc + 3) ls (.int x :: rest))) : W p l e R s m args below meth c H locs 0 0 Q (F0 m pc ls (.ref (g.2.2 4) :: rest)) :=
  r_get C Z (T := TX1) inlX1 rfl (oC_4 g u) (k := 6) (by decide) hl (v := .int x) (by rw [← hx]; rfl) hdg kk
theorem pC_4_6 (C : Cx p s m meth c args cc own nL ret 82 g) (Z : Zx wC g (Aw 82 g s.heap.size) s H locs u) (hl : FL s args own idx "AskedCocks$Diocese" "smokeCount" "I") {x : Int32} (hdg : decode cc pc = .ok (.putfield idx, 3)) (kk : ∀ (H : Heap) (locs : List Loc), Zx wC g (Aw 82 g s.heap.size) s H locs (sI u 6 x) → W p l e R s m args below meth c H locs 0 0 Q (F0 m (pc + 3) ls rest)) : W p l e R s m args below meth c H locs 0 0 Q (F0 m pc ls (.int x :: .ref (g.2.2 4) :: rest)) :=
  r_put C wokC Z (T := TX1) inlX1 tyX1 tyX1_ok nmX1 rfl (oC_4 g u) (k := 6) (by decide) hl rfl (ty := .int) (by decide +kernel) rfl rfl (Nat.le_of_ble_eq_true rfl) rfl hdg kk
theorem aC_5 (g : Gx) (u : St) {f : Nat → Int32} (hf : u.2.1 1 = f) : (wC g u)[5]? = some (g.2.2 5, .inl (g.2.1.1, 24, .inl f)) := hf ▸ rfl
theorem sC_5 (g : Gx) (u : St) (f : Nat → Int32) : (wC g u).set 5 (g.2.2 5, .inl (g.2.1.1, 24, .inl f)) = wC g (sA u 1 f) := rfl
theorem aC_6 (g : Gx) (u : St) : (wC g u)[6]? = some (g.2.2 6, .inl (g.2.1.2.1, 5, .inr (.inr (.inr (.inr (fun i => some (g.2.2 (7 + i)))))))) := rfl
theorem arC_6 (g : Gx) (u : St) {k : Nat} (hk : k < 5) : (wC g u)[7 + k]? = some (g.2.2 (7 + k), .inl (g.2.1.1, 4, .inl (u.2.1 (2 + k)))) :=
  match k, hk with
  | 0, _ => rfl
  | 1, _ => rfl
  | 2, _ => rfl
  | 3, _ => rfl
  | 4, _ => rfl
theorem srC_6 (g : Gx) (u : St) {k : Nat} (hk : k < 5) (f : Nat → Int32) : (wC g u).set (7 + k) (g.2.2 (7 + k), .inl (g.2.1.1, 4, .inl f)) = wC g (sA u (2 + k) f) :=
  match k, hk with
  | 0, _ => rfl
  | 1, _ => rfl
  | 2, _ => rfl
  | 3, _ => rfl
  | 4, _ => rfl
theorem aC_12 (g : Gx) (u : St) : (wC g u)[12]? = some (g.2.2 12, .inl (g.2.1.2.1, 4, .inr (.inr (.inr (.inr (fun i => some (g.2.2 (13 + i)))))))) := rfl
theorem arC_12 (g : Gx) (u : St) {k : Nat} (hk : k < 4) : (wC g u)[13 + k]? = some (g.2.2 (13 + k), .inl (g.2.1.1, 2, .inl (u.2.1 (7 + k)))) :=
  match k, hk with
  | 0, _ => rfl
  | 1, _ => rfl
  | 2, _ => rfl
  | 3, _ => rfl
theorem srC_12 (g : Gx) (u : St) {k : Nat} (hk : k < 4) (f : Nat → Int32) : (wC g u).set (13 + k) (g.2.2 (13 + k), .inl (g.2.1.1, 2, .inl f)) = wC g (sA u (7 + k) f) :=
  match k, hk with
  | 0, _ => rfl
  | 1, _ => rfl
  | 2, _ => rfl
  | 3, _ => rfl
theorem aC_17 (g : Gx) (u : St) : (wC g u)[17]? = some (g.2.2 17, .inl (g.2.1.2.1, 4, .inr (.inr (.inr (.inr (fun i => some (g.2.2 (18 + i)))))))) := rfl
theorem arC_17 (g : Gx) (u : St) {k : Nat} (hk : k < 4) : (wC g u)[18 + k]? = some (g.2.2 (18 + k), .inl (g.2.1.1, 3, .inl (u.2.1 (11 + k)))) :=
  match k, hk with
  | 0, _ => rfl
  | 1, _ => rfl
  | 2, _ => rfl
  | 3, _ => rfl
theorem srC_17 (g : Gx) (u : St) {k : Nat} (hk : k < 4) (f : Nat → Int32) : (wC g u).set (18 + k) (g.2.2 (18 + k), .inl (g.2.1.1, 3, .inl f)) = wC g (sA u (11 + k) f) :=
  match k, hk with
  | 0, _ => rfl
  | 1, _ => rfl
  | 2, _ => rfl
  | 3, _ => rfl
theorem aC_22 (g : Gx) (u : St) {f : Nat → Int32} (hf : u.2.1 15 = f) : (wC g u)[22]? = some (g.2.2 22, .inl (g.2.1.1, 4, .inl f)) := hf ▸ rfl
theorem sC_22 (g : Gx) (u : St) (f : Nat → Int32) : (wC g u).set 22 (g.2.2 22, .inl (g.2.1.1, 4, .inl f)) = wC g (sA u 15 f) := rfl
theorem oC_23 (g : Gx) (u : St) : (wC g u)[23]? = some (g.2.2 23, .inr (6, [.ref (g.2.2 24), .ref (g.2.2 42)])) := rfl
theorem gC_23_0 (C : Cx p s m meth c args cc own nL ret 82 g) (Z : Zx wC g (Aw 82 g s.heap.size) s H locs u) (hl : FL s args own idx "AskedCocks$Watch" "told" "LAskedCocks$Diocese;") (hdg : decode cc pc = .ok (.getfield idx, 3)) (kk : W p l e R s m args below meth c H locs 0 0 Q (F0 m (pc + 3) ls (.ref (g.2.2 24) :: rest))) : W p l e R s m args below meth c H locs 0 0 Q (F0 m pc ls (.ref (g.2.2 23) :: rest)) :=
  r_get C Z (T := TX6) inlX6 rfl (oC_23 g u) (k := 0) (by decide) hl rfl hdg kk
theorem gC_23_1 (C : Cx p s m meth c args cc own nL ret 82 g) (Z : Zx wC g (Aw 82 g s.heap.size) s H locs u) (hl : FL s args own idx "AskedCocks$Watch" "present" "LAskedCocks$Present;") (hdg : decode cc pc = .ok (.getfield idx, 3)) (kk : W p l e R s m args below meth c H locs 0 0 Q (F0 m (pc + 3) ls (.ref (g.2.2 42) :: rest))) : W p l e R s m args below meth c H locs 0 0 Q (F0 m pc ls (.ref (g.2.2 23) :: rest)) :=
  r_get C Z (T := TX6) inlX6 rfl (oC_23 g u) (k := 1) (by decide) hl rfl hdg kk
theorem oC_24 (g : Gx) (u : St) : (wC g u)[24]? = some (g.2.2 24, .inr (1, [.ref (g.2.2 25), .ref (g.2.2 26), .ref (g.2.2 32), .ref (g.2.2 37), .int (u.1 7), .int (u.1 8), .int (u.1 9)])) := rfl
theorem gC_24_0 (C : Cx p s m meth c args cc own nL ret 82 g) (Z : Zx wC g (Aw 82 g s.heap.size) s H locs u) (hl : FL s args own idx "AskedCocks$Diocese" "roofs" "[I") (hdg : decode cc pc = .ok (.getfield idx, 3)) (kk : W p l e R s m args below meth c H locs 0 0 Q (F0 m (pc + 3) ls (.ref (g.2.2 25) :: rest))) : W p l e R s m args below meth c H locs 0 0 Q (F0 m pc ls (.ref (g.2.2 24) :: rest)) :=
  r_get C Z (T := TX1) inlX1 rfl (oC_24 g u) (k := 0) (by decide) hl rfl hdg kk
theorem gC_24_1 (C : Cx p s m meth c args cc own nL ret 82 g) (Z : Zx wC g (Aw 82 g s.heap.size) s H locs u) (hl : FL s args own idx "AskedCocks$Diocese" "cocks" "[[I") (hdg : decode cc pc = .ok (.getfield idx, 3)) (kk : W p l e R s m args below meth c H locs 0 0 Q (F0 m (pc + 3) ls (.ref (g.2.2 26) :: rest))) : W p l e R s m args below meth c H locs 0 0 Q (F0 m pc ls (.ref (g.2.2 24) :: rest)) :=
  r_get C Z (T := TX1) inlX1 rfl (oC_24 g u) (k := 1) (by decide) hl rfl hdg kk
theorem gC_24_2 (C : Cx p s m meth c args cc own nL ret 82 g) (Z : Zx wC g (Aw 82 g s.heap.size) s H locs u) (hl : FL s args own idx "AskedCocks$Diocese" "people" "[[I") (hdg : decode cc pc = .ok (.getfield idx, 3)) (kk : W p l e R s m args below meth c H locs 0 0 Q (F0 m (pc + 3) ls (.ref (g.2.2 32) :: rest))) : W p l e R s m args below meth c H locs 0 0 Q (F0 m pc ls (.ref (g.2.2 24) :: rest)) :=
  r_get C Z (T := TX1) inlX1 rfl (oC_24 g u) (k := 2) (by decide) hl rfl hdg kk
theorem gC_24_3 (C : Cx p s m meth c args cc own nL ret 82 g) (Z : Zx wC g (Aw 82 g s.heap.size) s H locs u) (hl : FL s args own idx "AskedCocks$Diocese" "smokes" "[[I") (hdg : decode cc pc = .ok (.getfield idx, 3)) (kk : W p l e R s m args below meth c H locs 0 0 Q (F0 m (pc + 3) ls (.ref (g.2.2 37) :: rest))) : W p l e R s m args below meth c H locs 0 0 Q (F0 m pc ls (.ref (g.2.2 24) :: rest)) :=
  r_get C Z (T := TX1) inlX1 rfl (oC_24 g u) (k := 3) (by decide) hl rfl hdg kk
theorem gC_24_4 (C : Cx p s m meth c args cc own nL ret 82 g) (Z : Zx wC g (Aw 82 g s.heap.size) s H locs u) (hl : FL s args own idx "AskedCocks$Diocese" "cockCount" "I") (hdg : decode cc pc = .ok (.getfield idx, 3)) {x : Int32} (hx : u.1 7 = x) (kk : W p l e R s m args below meth c H locs 0 0 Q (F0 m (pc + 3) ls (.int x :: rest))) : W p l e R s m args below meth c H locs 0 0 Q (F0 m pc ls (.ref (g.2.2 24) :: rest)) :=
  r_get C Z (T := TX1) inlX1 rfl (oC_24 g u) (k := 4) (by decide) hl (v := .int x) (by rw [← hx]; rfl) hdg kk
theorem pC_24_4 (C : Cx p s m meth c args cc own nL ret 82 g) (Z : Zx wC g (Aw 82 g s.heap.size) s H locs u) (hl : FL s args own idx "AskedCocks$Diocese" "cockCount" "I") {x : Int32} (hdg : decode cc pc = .ok (.putfield idx, 3)) (kk : ∀ (H : Heap) (locs : List Loc), Zx wC g (Aw 82 g s.heap.size) s H locs (sI u 7 x) → W p l e R s m args below meth c H locs 0 0 Q (F0 m (pc + 3) ls rest)) : W p l e R s m args below meth c H locs 0 0 Q (F0 m pc ls (.int x :: .ref (g.2.2 24) :: rest)) :=
  r_put C wokC Z (T := TX1) inlX1 tyX1 tyX1_ok nmX1 rfl (oC_24 g u) (k := 4) (by decide) hl rfl (ty := .int) (by decide +kernel) rfl rfl (Nat.le_of_ble_eq_true rfl) rfl hdg kk
theorem gC_24_5 (C : Cx p s m meth c args cc own nL ret 82 g) (Z : Zx wC g (Aw 82 g s.heap.size) s H locs u) (hl : FL s args own idx "AskedCocks$Diocese" "peopleCount" "I") (hdg : decode cc pc = .ok (.getfield idx, 3)) {x : Int32} (hx : u.1 8 = x) (kk : W p l e R s m args below meth c H locs 0 0 Q (F0 m (pc + 3) ls (.int x :: rest))) : W p l e R s m args below meth c H locs 0 0 Q (F0 m pc ls (.ref (g.2.2 24) :: rest)) :=
  r_get C Z (T := TX1) inlX1 rfl (oC_24 g u) (k := 5) (by decide) hl (v := .int x) (by rw [← hx]; rfl) hdg kk
theorem pC_24_5 (C : Cx p s m meth c args cc own nL ret 82 g) (Z : Zx wC g (Aw 82 g s.heap.size) s H locs u) (hl : FL s args own idx "AskedCocks$Diocese" "peopleCount" "I") {x : Int32} (hdg : decode cc pc = .ok (.putfield idx, 3)) (kk : ∀ (H : Heap) (locs : List Loc), Zx wC g (Aw 82 g s.heap.size) s H locs (sI u 8 x) → W p l e R s m args below meth c H locs 0 0 Q (F0 m (pc + 3) ls rest)) : W p l e R s m args below meth c H locs 0 0 Q (F0 m pc ls (.int x :: .ref (g.2.2 24) :: rest)) :=
  r_put C wokC Z (T := TX1) inlX1 tyX1 tyX1_ok nmX1 rfl (oC_24 g u) (k := 5) (by decide) hl rfl (ty := .int) (by decide +kernel) rfl rfl (Nat.le_of_ble_eq_true rfl) rfl hdg kk
theorem gC_24_6 (C : Cx p s m meth c args cc own nL ret 82 g) (Z : Zx wC g (Aw 82 g s.heap.size) s H locs u) (hl : FL s args own idx "AskedCocks$Diocese" "smokeCount" "I") (hdg : decode cc pc = .ok (.getfield idx, 3)) {x : Int32} (hx : u.1 9 = x) (kk : W p l e R s m args below meth c H locs 0 0 Q (F0 m (pc + 3) ls (.int x :: rest))) : W p l e R s m args below meth c H locs 0 0 Q (F0 m pc ls (.ref (g.2.2 24) :: rest)) :=
  r_get C Z (T := TX1) inlX1 rfl (oC_24 g u) (k := 6) (by decide) hl (v := .int x) (by rw [← hx]; rfl) hdg kk
theorem pC_24_6 (C : Cx p s m meth c args cc own nL ret 82 g) (Z : Zx wC g (Aw 82 g s.heap.size) s H locs u) (hl : FL s args own idx "AskedCocks$Diocese" "smokeCount" "I") {x : Int32} (hdg : decode cc pc = .ok (.putfield idx, 3)) (kk : ∀ (H : Heap) (locs : List Loc), Zx wC g (Aw 82 g s.heap.size) s H locs (sI u 9 x) → W p l e R s m args below meth c H locs 0 0 Q (F0 m (pc + 3) ls rest)) : W p l e R s m args below meth c H locs 0 0 Q (F0 m pc ls (.int x :: .ref (g.2.2 24) :: rest)) :=
  r_put C wokC Z (T := TX1) inlX1 tyX1 tyX1_ok nmX1 rfl (oC_24 g u) (k := 6) (by decide) hl rfl (ty := .int) (by decide +kernel) rfl rfl (Nat.le_of_ble_eq_true rfl) rfl hdg kk
theorem aC_25 (g : Gx) (u : St) {f : Nat → Int32} (hf : u.2.1 16 = f) : (wC g u)[25]? = some (g.2.2 25, .inl (g.2.1.1, 24, .inl f)) := hf ▸ rfl
theorem sC_25 (g : Gx) (u : St) (f : Nat → Int32) : (wC g u).set 25 (g.2.2 25, .inl (g.2.1.1, 24, .inl f)) = wC g (sA u 16 f) := rfl
theorem aC_26 (g : Gx) (u : St) : (wC g u)[26]? = some (g.2.2 26, .inl (g.2.1.2.1, 5, .inr (.inr (.inr (.inr (fun i => some (g.2.2 (27 + i)))))))) := rfl
theorem arC_26 (g : Gx) (u : St) {k : Nat} (hk : k < 5) : (wC g u)[27 + k]? = some (g.2.2 (27 + k), .inl (g.2.1.1, 4, .inl (u.2.1 (17 + k)))) :=
  match k, hk with
  | 0, _ => rfl
  | 1, _ => rfl
  | 2, _ => rfl
  | 3, _ => rfl
  | 4, _ => rfl
theorem srC_26 (g : Gx) (u : St) {k : Nat} (hk : k < 5) (f : Nat → Int32) : (wC g u).set (27 + k) (g.2.2 (27 + k), .inl (g.2.1.1, 4, .inl f)) = wC g (sA u (17 + k) f) :=
  match k, hk with
  | 0, _ => rfl
  | 1, _ => rfl
  | 2, _ => rfl
  | 3, _ => rfl
  | 4, _ => rfl
theorem aC_32 (g : Gx) (u : St) : (wC g u)[32]? = some (g.2.2 32, .inl (g.2.1.2.1, 4, .inr (.inr (.inr (.inr (fun i => some (g.2.2 (33 + i)))))))) := rfl
theorem arC_32 (g : Gx) (u : St) {k : Nat} (hk : k < 4) : (wC g u)[33 + k]? = some (g.2.2 (33 + k), .inl (g.2.1.1, 2, .inl (u.2.1 (22 + k)))) :=
  match k, hk with
  | 0, _ => rfl
  | 1, _ => rfl
  | 2, _ => rfl
  | 3, _ => rfl
theorem srC_32 (g : Gx) (u : St) {k : Nat} (hk : k < 4) (f : Nat → Int32) : (wC g u).set (33 + k) (g.2.2 (33 + k), .inl (g.2.1.1, 2, .inl f)) = wC g (sA u (22 + k) f) :=
  match k, hk with
  | 0, _ => rfl
  | 1, _ => rfl
  | 2, _ => rfl
  | 3, _ => rfl
theorem aC_37 (g : Gx) (u : St) : (wC g u)[37]? = some (g.2.2 37, .inl (g.2.1.2.1, 4, .inr (.inr (.inr (.inr (fun i => some (g.2.2 (38 + i)))))))) := rfl
theorem arC_37 (g : Gx) (u : St) {k : Nat} (hk : k < 4) : (wC g u)[38 + k]? = some (g.2.2 (38 + k), .inl (g.2.1.1, 3, .inl (u.2.1 (26 + k)))) :=
  match k, hk with
  | 0, _ => rfl
  | 1, _ => rfl
  | 2, _ => rfl
  | 3, _ => rfl
theorem srC_37 (g : Gx) (u : St) {k : Nat} (hk : k < 4) (f : Nat → Int32) : (wC g u).set (38 + k) (g.2.2 (38 + k), .inl (g.2.1.1, 3, .inl f)) = wC g (sA u (26 + k) f) :=
  match k, hk with
  | 0, _ => rfl
  | 1, _ => rfl
  | 2, _ => rfl
  | 3, _ => rfl
theorem oC_42 (g : Gx) (u : St) : (wC g u)[42]? = some (g.2.2 42, .inr (3, [.int (u.1 10), .int (u.1 11), .ref (g.2.2 43), .ref (g.2.2 44), .ref (g.2.2 50), .ref (g.2.2 51), .ref (g.2.2 52), .int (u.1 12)])) := rfl
theorem gC_42_0 (C : Cx p s m meth c args cc own nL ret 82 g) (Z : Zx wC g (Aw 82 g s.heap.size) s H locs u) (hl : FL s args own idx "AskedCocks$Present" "hour" "I") (hdg : decode cc pc = .ok (.getfield idx, 3)) {x : Int32} (hx : u.1 10 = x) (kk : W p l e R s m args below meth c H locs 0 0 Q (F0 m (pc + 3) ls (.int x :: rest))) : W p l e R s m args below meth c H locs 0 0 Q (F0 m pc ls (.ref (g.2.2 42) :: rest)) :=
  r_get C Z (T := TX3) inlX3 rfl (oC_42 g u) (k := 0) (by decide) hl (v := .int x) (by rw [← hx]; rfl) hdg kk
theorem pC_42_0 (C : Cx p s m meth c args cc own nL ret 82 g) (Z : Zx wC g (Aw 82 g s.heap.size) s H locs u) (hl : FL s args own idx "AskedCocks$Present" "hour" "I") {x : Int32} (hdg : decode cc pc = .ok (.putfield idx, 3)) (kk : ∀ (H : Heap) (locs : List Loc), Zx wC g (Aw 82 g s.heap.size) s H locs (sI u 10 x) → W p l e R s m args below meth c H locs 0 0 Q (F0 m (pc + 3) ls rest)) : W p l e R s m args below meth c H locs 0 0 Q (F0 m pc ls (.int x :: .ref (g.2.2 42) :: rest)) :=
  r_put C wokC Z (T := TX3) inlX3 tyX3 tyX3_ok nmX3 rfl (oC_42 g u) (k := 0) (by decide) hl rfl (ty := .int) (by decide +kernel) rfl rfl (Nat.le_of_ble_eq_true rfl) rfl hdg kk
theorem gC_42_1 (C : Cx p s m meth c args cc own nL ret 82 g) (Z : Zx wC g (Aw 82 g s.heap.size) s H locs u) (hl : FL s args own idx "AskedCocks$Present" "asked" "I") (hdg : decode cc pc = .ok (.getfield idx, 3)) {x : Int32} (hx : u.1 11 = x) (kk : W p l e R s m args below meth c H locs 0 0 Q (F0 m (pc + 3) ls (.int x :: rest))) : W p l e R s m args below meth c H locs 0 0 Q (F0 m pc ls (.ref (g.2.2 42) :: rest)) :=
  r_get C Z (T := TX3) inlX3 rfl (oC_42 g u) (k := 1) (by decide) hl (v := .int x) (by rw [← hx]; rfl) hdg kk
theorem pC_42_1 (C : Cx p s m meth c args cc own nL ret 82 g) (Z : Zx wC g (Aw 82 g s.heap.size) s H locs u) (hl : FL s args own idx "AskedCocks$Present" "asked" "I") {x : Int32} (hdg : decode cc pc = .ok (.putfield idx, 3)) (kk : ∀ (H : Heap) (locs : List Loc), Zx wC g (Aw 82 g s.heap.size) s H locs (sI u 11 x) → W p l e R s m args below meth c H locs 0 0 Q (F0 m (pc + 3) ls rest)) : W p l e R s m args below meth c H locs 0 0 Q (F0 m pc ls (.int x :: .ref (g.2.2 42) :: rest)) :=
  r_put C wokC Z (T := TX3) inlX3 tyX3 tyX3_ok nmX3 rfl (oC_42 g u) (k := 1) (by decide) hl rfl (ty := .int) (by decide +kernel) rfl rfl (Nat.le_of_ble_eq_true rfl) rfl hdg kk
theorem gC_42_2 (C : Cx p s m meth c args cc own nL ret 82 g) (Z : Zx wC g (Aw 82 g s.heap.size) s H locs u) (hl : FL s args own idx "AskedCocks$Present" "roofs" "[I") (hdg : decode cc pc = .ok (.getfield idx, 3)) (kk : W p l e R s m args below meth c H locs 0 0 Q (F0 m (pc + 3) ls (.ref (g.2.2 43) :: rest))) : W p l e R s m args below meth c H locs 0 0 Q (F0 m pc ls (.ref (g.2.2 42) :: rest)) :=
  r_get C Z (T := TX3) inlX3 rfl (oC_42 g u) (k := 2) (by decide) hl rfl hdg kk
theorem gC_42_3 (C : Cx p s m meth c args cc own nL ret 82 g) (Z : Zx wC g (Aw 82 g s.heap.size) s H locs u) (hl : FL s args own idx "AskedCocks$Present" "seen" "[[I") (hdg : decode cc pc = .ok (.getfield idx, 3)) (kk : W p l e R s m args below meth c H locs 0 0 Q (F0 m (pc + 3) ls (.ref (g.2.2 44) :: rest))) : W p l e R s m args below meth c H locs 0 0 Q (F0 m pc ls (.ref (g.2.2 42) :: rest)) :=
  r_get C Z (T := TX3) inlX3 rfl (oC_42 g u) (k := 3) (by decide) hl rfl hdg kk
theorem gC_42_4 (C : Cx p s m meth c args cc own nL ret 82 g) (Z : Zx wC g (Aw 82 g s.heap.size) s H locs u) (hl : FL s args own idx "AskedCocks$Present" "deedSorts" "[I") (hdg : decode cc pc = .ok (.getfield idx, 3)) (kk : W p l e R s m args below meth c H locs 0 0 Q (F0 m (pc + 3) ls (.ref (g.2.2 50) :: rest))) : W p l e R s m args below meth c H locs 0 0 Q (F0 m pc ls (.ref (g.2.2 42) :: rest)) :=
  r_get C Z (T := TX3) inlX3 rfl (oC_42 g u) (k := 4) (by decide) hl rfl hdg kk
theorem gC_42_5 (C : Cx p s m meth c args cc own nL ret 82 g) (Z : Zx wC g (Aw 82 g s.heap.size) s H locs u) (hl : FL s args own idx "AskedCocks$Present" "deedNumbers" "[I") (hdg : decode cc pc = .ok (.getfield idx, 3)) (kk : W p l e R s m args below meth c H locs 0 0 Q (F0 m (pc + 3) ls (.ref (g.2.2 51) :: rest))) : W p l e R s m args below meth c H locs 0 0 Q (F0 m pc ls (.ref (g.2.2 42) :: rest)) :=
  r_get C Z (T := TX3) inlX3 rfl (oC_42 g u) (k := 5) (by decide) hl rfl hdg kk
theorem gC_42_6 (C : Cx p s m meth c args cc own nL ret 82 g) (Z : Zx wC g (Aw 82 g s.heap.size) s H locs u) (hl : FL s args own idx "AskedCocks$Present" "deedRoofs" "[I") (hdg : decode cc pc = .ok (.getfield idx, 3)) (kk : W p l e R s m args below meth c H locs 0 0 Q (F0 m (pc + 3) ls (.ref (g.2.2 52) :: rest))) : W p l e R s m args below meth c H locs 0 0 Q (F0 m pc ls (.ref (g.2.2 42) :: rest)) :=
  r_get C Z (T := TX3) inlX3 rfl (oC_42 g u) (k := 6) (by decide) hl rfl hdg kk
theorem gC_42_7 (C : Cx p s m meth c args cc own nL ret 82 g) (Z : Zx wC g (Aw 82 g s.heap.size) s H locs u) (hl : FL s args own idx "AskedCocks$Present" "deeds" "I") (hdg : decode cc pc = .ok (.getfield idx, 3)) {x : Int32} (hx : u.1 12 = x) (kk : W p l e R s m args below meth c H locs 0 0 Q (F0 m (pc + 3) ls (.int x :: rest))) : W p l e R s m args below meth c H locs 0 0 Q (F0 m pc ls (.ref (g.2.2 42) :: rest)) :=
  r_get C Z (T := TX3) inlX3 rfl (oC_42 g u) (k := 7) (by decide) hl (v := .int x) (by rw [← hx]; rfl) hdg kk
theorem pC_42_7 (C : Cx p s m meth c args cc own nL ret 82 g) (Z : Zx wC g (Aw 82 g s.heap.size) s H locs u) (hl : FL s args own idx "AskedCocks$Present" "deeds" "I") {x : Int32} (hdg : decode cc pc = .ok (.putfield idx, 3)) (kk : ∀ (H : Heap) (locs : List Loc), Zx wC g (Aw 82 g s.heap.size) s H locs (sI u 12 x) → W p l e R s m args below meth c H locs 0 0 Q (F0 m (pc + 3) ls rest)) : W p l e R s m args below meth c H locs 0 0 Q (F0 m pc ls (.int x :: .ref (g.2.2 42) :: rest)) :=
  r_put C wokC Z (T := TX3) inlX3 tyX3 tyX3_ok nmX3 rfl (oC_42 g u) (k := 7) (by decide) hl rfl (ty := .int) (by decide +kernel) rfl rfl (Nat.le_of_ble_eq_true rfl) rfl hdg kk
theorem aC_43 (g : Gx) (u : St) {f : Nat → Int32} (hf : u.2.1 30 = f) : (wC g u)[43]? = some (g.2.2 43, .inl (g.2.1.1, 24, .inl f)) := hf ▸ rfl
theorem sC_43 (g : Gx) (u : St) (f : Nat → Int32) : (wC g u).set 43 (g.2.2 43, .inl (g.2.1.1, 24, .inl f)) = wC g (sA u 30 f) := rfl
theorem aC_44 (g : Gx) (u : St) : (wC g u)[44]? = some (g.2.2 44, .inl (g.2.1.2.1, 5, .inr (.inr (.inr (.inr (fun i => some (g.2.2 (45 + i)))))))) := rfl
theorem arC_44 (g : Gx) (u : St) {k : Nat} (hk : k < 5) : (wC g u)[45 + k]? = some (g.2.2 (45 + k), .inl (g.2.1.1, 4, .inl (u.2.1 (31 + k)))) :=
  match k, hk with
  | 0, _ => rfl
  | 1, _ => rfl
  | 2, _ => rfl
  | 3, _ => rfl
  | 4, _ => rfl
theorem srC_44 (g : Gx) (u : St) {k : Nat} (hk : k < 5) (f : Nat → Int32) : (wC g u).set (45 + k) (g.2.2 (45 + k), .inl (g.2.1.1, 4, .inl f)) = wC g (sA u (31 + k) f) :=
  match k, hk with
  | 0, _ => rfl
  | 1, _ => rfl
  | 2, _ => rfl
  | 3, _ => rfl
  | 4, _ => rfl
theorem aC_50 (g : Gx) (u : St) {f : Nat → Int32} (hf : u.2.1 36 = f) : (wC g u)[50]? = some (g.2.2 50, .inl (g.2.1.1, 10, .inl f)) := hf ▸ rfl
theorem sC_50 (g : Gx) (u : St) (f : Nat → Int32) : (wC g u).set 50 (g.2.2 50, .inl (g.2.1.1, 10, .inl f)) = wC g (sA u 36 f) := rfl
theorem aC_51 (g : Gx) (u : St) {f : Nat → Int32} (hf : u.2.1 37 = f) : (wC g u)[51]? = some (g.2.2 51, .inl (g.2.1.1, 10, .inl f)) := hf ▸ rfl
theorem sC_51 (g : Gx) (u : St) (f : Nat → Int32) : (wC g u).set 51 (g.2.2 51, .inl (g.2.1.1, 10, .inl f)) = wC g (sA u 37 f) := rfl
theorem aC_52 (g : Gx) (u : St) {f : Nat → Int32} (hf : u.2.1 38 = f) : (wC g u)[52]? = some (g.2.2 52, .inl (g.2.1.1, 10, .inl f)) := hf ▸ rfl
theorem sC_52 (g : Gx) (u : St) (f : Nat → Int32) : (wC g u).set 52 (g.2.2 52, .inl (g.2.1.1, 10, .inl f)) = wC g (sA u 38 f) := rfl
theorem oC_53 (g : Gx) (u : St) : (wC g u)[53]? = some (g.2.2 53, .inr (0, [.ref (g.2.2 54), .ref (g.2.2 55), .int (u.1 13), .ref (g.2.2 56), .ref (g.2.2 57), .int (u.1 14)])) := rfl
theorem gC_53_0 (C : Cx p s m meth c args cc own nL ret 82 g) (Z : Zx wC g (Aw 82 g s.heap.size) s H locs u) (hl : FL s args own idx "AskedCocks$Clues" "facedHours" "[I") (hdg : decode cc pc = .ok (.getfield idx, 3)) (kk : W p l e R s m args below meth c H locs 0 0 Q (F0 m (pc + 3) ls (.ref (g.2.2 54) :: rest))) : W p l e R s m args below meth c H locs 0 0 Q (F0 m pc ls (.ref (g.2.2 53) :: rest)) :=
  r_get C Z (T := TX0) inlX0 rfl (oC_53 g u) (k := 0) (by decide) hl rfl hdg kk
theorem gC_53_1 (C : Cx p s m meth c args cc own nL ret 82 g) (Z : Zx wC g (Aw 82 g s.heap.size) s H locs u) (hl : FL s args own idx "AskedCocks$Clues" "facedSides" "[I") (hdg : decode cc pc = .ok (.getfield idx, 3)) (kk : W p l e R s m args below meth c H locs 0 0 Q (F0 m (pc + 3) ls (.ref (g.2.2 55) :: rest))) : W p l e R s m args below meth c H locs 0 0 Q (F0 m pc ls (.ref (g.2.2 53) :: rest)) :=
  r_get C Z (T := TX0) inlX0 rfl (oC_53 g u) (k := 1) (by decide) hl rfl hdg kk
theorem gC_53_2 (C : Cx p s m meth c args cc own nL ret 82 g) (Z : Zx wC g (Aw 82 g s.heap.size) s H locs u) (hl : FL s args own idx "AskedCocks$Clues" "facedCount" "I") (hdg : decode cc pc = .ok (.getfield idx, 3)) {x : Int32} (hx : u.1 13 = x) (kk : W p l e R s m args below meth c H locs 0 0 Q (F0 m (pc + 3) ls (.int x :: rest))) : W p l e R s m args below meth c H locs 0 0 Q (F0 m pc ls (.ref (g.2.2 53) :: rest)) :=
  r_get C Z (T := TX0) inlX0 rfl (oC_53 g u) (k := 2) (by decide) hl (v := .int x) (by rw [← hx]; rfl) hdg kk
theorem pC_53_2 (C : Cx p s m meth c args cc own nL ret 82 g) (Z : Zx wC g (Aw 82 g s.heap.size) s H locs u) (hl : FL s args own idx "AskedCocks$Clues" "facedCount" "I") {x : Int32} (hdg : decode cc pc = .ok (.putfield idx, 3)) (kk : ∀ (H : Heap) (locs : List Loc), Zx wC g (Aw 82 g s.heap.size) s H locs (sI u 13 x) → W p l e R s m args below meth c H locs 0 0 Q (F0 m (pc + 3) ls rest)) : W p l e R s m args below meth c H locs 0 0 Q (F0 m pc ls (.int x :: .ref (g.2.2 53) :: rest)) :=
  r_put C wokC Z (T := TX0) inlX0 tyX0 tyX0_ok nmX0 rfl (oC_53 g u) (k := 2) (by decide) hl rfl (ty := .int) (by decide +kernel) rfl rfl (Nat.le_of_ble_eq_true rfl) rfl hdg kk
theorem gC_53_3 (C : Cx p s m meth c args cc own nL ret 82 g) (Z : Zx wC g (Aw 82 g s.heap.size) s H locs u) (hl : FL s args own idx "AskedCocks$Clues" "metCells" "[I") (hdg : decode cc pc = .ok (.getfield idx, 3)) (kk : W p l e R s m args below meth c H locs 0 0 Q (F0 m (pc + 3) ls (.ref (g.2.2 56) :: rest))) : W p l e R s m args below meth c H locs 0 0 Q (F0 m pc ls (.ref (g.2.2 53) :: rest)) :=
  r_get C Z (T := TX0) inlX0 rfl (oC_53 g u) (k := 3) (by decide) hl rfl hdg kk
theorem gC_53_4 (C : Cx p s m meth c args cc own nL ret 82 g) (Z : Zx wC g (Aw 82 g s.heap.size) s H locs u) (hl : FL s args own idx "AskedCocks$Clues" "metHours" "[I") (hdg : decode cc pc = .ok (.getfield idx, 3)) (kk : W p l e R s m args below meth c H locs 0 0 Q (F0 m (pc + 3) ls (.ref (g.2.2 57) :: rest))) : W p l e R s m args below meth c H locs 0 0 Q (F0 m pc ls (.ref (g.2.2 53) :: rest)) :=
  r_get C Z (T := TX0) inlX0 rfl (oC_53 g u) (k := 4) (by decide) hl rfl hdg kk
theorem gC_53_5 (C : Cx p s m meth c args cc own nL ret 82 g) (Z : Zx wC g (Aw 82 g s.heap.size) s H locs u) (hl : FL s args own idx "AskedCocks$Clues" "metCount" "I") (hdg : decode cc pc = .ok (.getfield idx, 3)) {x : Int32} (hx : u.1 14 = x) (kk : W p l e R s m args below meth c H locs 0 0 Q (F0 m (pc + 3) ls (.int x :: rest))) : W p l e R s m args below meth c H locs 0 0 Q (F0 m pc ls (.ref (g.2.2 53) :: rest)) :=
  r_get C Z (T := TX0) inlX0 rfl (oC_53 g u) (k := 5) (by decide) hl (v := .int x) (by rw [← hx]; rfl) hdg kk
theorem pC_53_5 (C : Cx p s m meth c args cc own nL ret 82 g) (Z : Zx wC g (Aw 82 g s.heap.size) s H locs u) (hl : FL s args own idx "AskedCocks$Clues" "metCount" "I") {x : Int32} (hdg : decode cc pc = .ok (.putfield idx, 3)) (kk : ∀ (H : Heap) (locs : List Loc), Zx wC g (Aw 82 g s.heap.size) s H locs (sI u 14 x) → W p l e R s m args below meth c H locs 0 0 Q (F0 m (pc + 3) ls rest)) : W p l e R s m args below meth c H locs 0 0 Q (F0 m pc ls (.int x :: .ref (g.2.2 53) :: rest)) :=
  r_put C wokC Z (T := TX0) inlX0 tyX0 tyX0_ok nmX0 rfl (oC_53 g u) (k := 5) (by decide) hl rfl (ty := .int) (by decide +kernel) rfl rfl (Nat.le_of_ble_eq_true rfl) rfl hdg kk
theorem aC_54 (g : Gx) (u : St) {f : Nat → Int32} (hf : u.2.1 39 = f) : (wC g u)[54]? = some (g.2.2 54, .inl (g.2.1.1, 6, .inl f)) := hf ▸ rfl
theorem sC_54 (g : Gx) (u : St) (f : Nat → Int32) : (wC g u).set 54 (g.2.2 54, .inl (g.2.1.1, 6, .inl f)) = wC g (sA u 39 f) := rfl
theorem aC_55 (g : Gx) (u : St) {f : Nat → Int32} (hf : u.2.1 40 = f) : (wC g u)[55]? = some (g.2.2 55, .inl (g.2.1.1, 6, .inl f)) := hf ▸ rfl
theorem sC_55 (g : Gx) (u : St) (f : Nat → Int32) : (wC g u).set 55 (g.2.2 55, .inl (g.2.1.1, 6, .inl f)) = wC g (sA u 40 f) := rfl
theorem aC_56 (g : Gx) (u : St) {f : Nat → Int32} (hf : u.2.1 41 = f) : (wC g u)[56]? = some (g.2.2 56, .inl (g.2.1.1, 6, .inl f)) := hf ▸ rfl
theorem sC_56 (g : Gx) (u : St) (f : Nat → Int32) : (wC g u).set 56 (g.2.2 56, .inl (g.2.1.1, 6, .inl f)) = wC g (sA u 41 f) := rfl
theorem aC_57 (g : Gx) (u : St) {f : Nat → Int32} (hf : u.2.1 42 = f) : (wC g u)[57]? = some (g.2.2 57, .inl (g.2.1.1, 6, .inl f)) := hf ▸ rfl
theorem sC_57 (g : Gx) (u : St) (f : Nat → Int32) : (wC g u).set 57 (g.2.2 57, .inl (g.2.1.1, 6, .inl f)) = wC g (sA u 42 f) := rfl
theorem oC_58 (g : Gx) (u : St) : (wC g u)[58]? = some (g.2.2 58, .inr (2, [.long u.2.2])) := rfl
theorem gC_58_0 (C : Cx p s m meth c args cc own nL ret 82 g) (Z : Zx wC g (Aw 82 g s.heap.size) s H locs u) (hl : FL s args own idx "AskedCocks$Kinds" "trace" "J") (hdg : decode cc pc = .ok (.getfield idx, 3)) {x : Int64} (hx : u.2.2 = x) (kk : W p l e R s m args below meth c H locs 0 0 Q (F0 m (pc + 3) ls (.long x :: rest))) : W p l e R s m args below meth c H locs 0 0 Q (F0 m pc ls (.ref (g.2.2 58) :: rest)) :=
  r_get C Z (T := TX2) inlX2 rfl (oC_58 g u) (k := 0) (by decide) hl (v := .long x) (by rw [← hx]; rfl) hdg kk
theorem pC_58_0 (C : Cx p s m meth c args cc own nL ret 82 g) (Z : Zx wC g (Aw 82 g s.heap.size) s H locs u) (hl : FL s args own idx "AskedCocks$Kinds" "trace" "J") {x : Int64} (hdg : decode cc pc = .ok (.putfield idx, 3)) (kk : ∀ (H : Heap) (locs : List Loc), Zx wC g (Aw 82 g s.heap.size) s H locs (sJ u x) → W p l e R s m args below meth c H locs 0 0 Q (F0 m (pc + 3) ls rest)) : W p l e R s m args below meth c H locs 0 0 Q (F0 m pc ls (.long x :: .ref (g.2.2 58) :: rest)) :=
  r_put C wokC Z (T := TX2) inlX2 tyX2 tyX2_ok nmX2 rfl (oC_58 g u) (k := 0) (by decide) hl rfl (ty := .long) (by decide +kernel) rfl rfl (Nat.le_of_ble_eq_true rfl) rfl hdg kk
theorem aC_59 (g : Gx) (u : St) : (wC g u)[59]? = some (g.2.2 59, .inl (g.2.1.2.2.1, 2, .inr (.inr (.inr (.inr (fun i => some (g.2.2 (60 + 11 * i)))))))) := rfl
theorem oC_60 (g : Gx) (u : St) : (wC g u)[60]? = some (g.2.2 60, .inr (3, [.int (u.1 15), .int (u.1 16), .ref (g.2.2 61), .ref (g.2.2 62), .ref (g.2.2 68), .ref (g.2.2 69), .ref (g.2.2 70), .int (u.1 17)])) := rfl
theorem gC_60_0 (C : Cx p s m meth c args cc own nL ret 82 g) (Z : Zx wC g (Aw 82 g s.heap.size) s H locs u) (hl : FL s args own idx "AskedCocks$Present" "hour" "I") (hdg : decode cc pc = .ok (.getfield idx, 3)) {x : Int32} (hx : u.1 15 = x) (kk : W p l e R s m args below meth c H locs 0 0 Q (F0 m (pc + 3) ls (.int x :: rest))) : W p l e R s m args below meth c H locs 0 0 Q (F0 m pc ls (.ref (g.2.2 60) :: rest)) :=
  r_get C Z (T := TX3) inlX3 rfl (oC_60 g u) (k := 0) (by decide) hl (v := .int x) (by rw [← hx]; rfl) hdg kk
theorem pC_60_0 (C : Cx p s m meth c args cc own nL ret 82 g) (Z : Zx wC g (Aw 82 g s.heap.size) s H locs u) (hl : FL s args own idx "AskedCocks$Present" "hour" "I") {x : Int32} (hdg : decode cc pc = .ok (.putfield idx, 3)) (kk : ∀ (H : Heap) (locs : List Loc), Zx wC g (Aw 82 g s.heap.size) s H locs (sI u 15 x) → W p l e R s m args below meth c H locs 0 0 Q (F0 m (pc + 3) ls rest)) : W p l e R s m args below meth c H locs 0 0 Q (F0 m pc ls (.int x :: .ref (g.2.2 60) :: rest)) :=
  r_put C wokC Z (T := TX3) inlX3 tyX3 tyX3_ok nmX3 rfl (oC_60 g u) (k := 0) (by decide) hl rfl (ty := .int) (by decide +kernel) rfl rfl (Nat.le_of_ble_eq_true rfl) rfl hdg kk
theorem gC_60_1 (C : Cx p s m meth c args cc own nL ret 82 g) (Z : Zx wC g (Aw 82 g s.heap.size) s H locs u) (hl : FL s args own idx "AskedCocks$Present" "asked" "I") (hdg : decode cc pc = .ok (.getfield idx, 3)) {x : Int32} (hx : u.1 16 = x) (kk : W p l e R s m args below meth c H locs 0 0 Q (F0 m (pc + 3) ls (.int x :: rest))) : W p l e R s m args below meth c H locs 0 0 Q (F0 m pc ls (.ref (g.2.2 60) :: rest)) :=
  r_get C Z (T := TX3) inlX3 rfl (oC_60 g u) (k := 1) (by decide) hl (v := .int x) (by rw [← hx]; rfl) hdg kk
theorem pC_60_1 (C : Cx p s m meth c args cc own nL ret 82 g) (Z : Zx wC g (Aw 82 g s.heap.size) s H locs u) (hl : FL s args own idx "AskedCocks$Present" "asked" "I") {x : Int32} (hdg : decode cc pc = .ok (.putfield idx, 3)) (kk : ∀ (H : Heap) (locs : List Loc), Zx wC g (Aw 82 g s.heap.size) s H locs (sI u 16 x) → W p l e R s m args below meth c H locs 0 0 Q (F0 m (pc + 3) ls rest)) : W p l e R s m args below meth c H locs 0 0 Q (F0 m pc ls (.int x :: .ref (g.2.2 60) :: rest)) :=
  r_put C wokC Z (T := TX3) inlX3 tyX3 tyX3_ok nmX3 rfl (oC_60 g u) (k := 1) (by decide) hl rfl (ty := .int) (by decide +kernel) rfl rfl (Nat.le_of_ble_eq_true rfl) rfl hdg kk
theorem gC_60_2 (C : Cx p s m meth c args cc own nL ret 82 g) (Z : Zx wC g (Aw 82 g s.heap.size) s H locs u) (hl : FL s args own idx "AskedCocks$Present" "roofs" "[I") (hdg : decode cc pc = .ok (.getfield idx, 3)) (kk : W p l e R s m args below meth c H locs 0 0 Q (F0 m (pc + 3) ls (.ref (g.2.2 61) :: rest))) : W p l e R s m args below meth c H locs 0 0 Q (F0 m pc ls (.ref (g.2.2 60) :: rest)) :=
  r_get C Z (T := TX3) inlX3 rfl (oC_60 g u) (k := 2) (by decide) hl rfl hdg kk
theorem gC_60_3 (C : Cx p s m meth c args cc own nL ret 82 g) (Z : Zx wC g (Aw 82 g s.heap.size) s H locs u) (hl : FL s args own idx "AskedCocks$Present" "seen" "[[I") (hdg : decode cc pc = .ok (.getfield idx, 3)) (kk : W p l e R s m args below meth c H locs 0 0 Q (F0 m (pc + 3) ls (.ref (g.2.2 62) :: rest))) : W p l e R s m args below meth c H locs 0 0 Q (F0 m pc ls (.ref (g.2.2 60) :: rest)) :=
  r_get C Z (T := TX3) inlX3 rfl (oC_60 g u) (k := 3) (by decide) hl rfl hdg kk
theorem gC_60_4 (C : Cx p s m meth c args cc own nL ret 82 g) (Z : Zx wC g (Aw 82 g s.heap.size) s H locs u) (hl : FL s args own idx "AskedCocks$Present" "deedSorts" "[I") (hdg : decode cc pc = .ok (.getfield idx, 3)) (kk : W p l e R s m args below meth c H locs 0 0 Q (F0 m (pc + 3) ls (.ref (g.2.2 68) :: rest))) : W p l e R s m args below meth c H locs 0 0 Q (F0 m pc ls (.ref (g.2.2 60) :: rest)) :=
  r_get C Z (T := TX3) inlX3 rfl (oC_60 g u) (k := 4) (by decide) hl rfl hdg kk
theorem gC_60_5 (C : Cx p s m meth c args cc own nL ret 82 g) (Z : Zx wC g (Aw 82 g s.heap.size) s H locs u) (hl : FL s args own idx "AskedCocks$Present" "deedNumbers" "[I") (hdg : decode cc pc = .ok (.getfield idx, 3)) (kk : W p l e R s m args below meth c H locs 0 0 Q (F0 m (pc + 3) ls (.ref (g.2.2 69) :: rest))) : W p l e R s m args below meth c H locs 0 0 Q (F0 m pc ls (.ref (g.2.2 60) :: rest)) :=
  r_get C Z (T := TX3) inlX3 rfl (oC_60 g u) (k := 5) (by decide) hl rfl hdg kk
theorem gC_60_6 (C : Cx p s m meth c args cc own nL ret 82 g) (Z : Zx wC g (Aw 82 g s.heap.size) s H locs u) (hl : FL s args own idx "AskedCocks$Present" "deedRoofs" "[I") (hdg : decode cc pc = .ok (.getfield idx, 3)) (kk : W p l e R s m args below meth c H locs 0 0 Q (F0 m (pc + 3) ls (.ref (g.2.2 70) :: rest))) : W p l e R s m args below meth c H locs 0 0 Q (F0 m pc ls (.ref (g.2.2 60) :: rest)) :=
  r_get C Z (T := TX3) inlX3 rfl (oC_60 g u) (k := 6) (by decide) hl rfl hdg kk
theorem gC_60_7 (C : Cx p s m meth c args cc own nL ret 82 g) (Z : Zx wC g (Aw 82 g s.heap.size) s H locs u) (hl : FL s args own idx "AskedCocks$Present" "deeds" "I") (hdg : decode cc pc = .ok (.getfield idx, 3)) {x : Int32} (hx : u.1 17 = x) (kk : W p l e R s m args below meth c H locs 0 0 Q (F0 m (pc + 3) ls (.int x :: rest))) : W p l e R s m args below meth c H locs 0 0 Q (F0 m pc ls (.ref (g.2.2 60) :: rest)) :=
  r_get C Z (T := TX3) inlX3 rfl (oC_60 g u) (k := 7) (by decide) hl (v := .int x) (by rw [← hx]; rfl) hdg kk
theorem pC_60_7 (C : Cx p s m meth c args cc own nL ret 82 g) (Z : Zx wC g (Aw 82 g s.heap.size) s H locs u) (hl : FL s args own idx "AskedCocks$Present" "deeds" "I") {x : Int32} (hdg : decode cc pc = .ok (.putfield idx, 3)) (kk : ∀ (H : Heap) (locs : List Loc), Zx wC g (Aw 82 g s.heap.size) s H locs (sI u 17 x) → W p l e R s m args below meth c H locs 0 0 Q (F0 m (pc + 3) ls rest)) : W p l e R s m args below meth c H locs 0 0 Q (F0 m pc ls (.int x :: .ref (g.2.2 60) :: rest)) :=
  r_put C wokC Z (T := TX3) inlX3 tyX3 tyX3_ok nmX3 rfl (oC_60 g u) (k := 7) (by decide) hl rfl (ty := .int) (by decide +kernel) rfl rfl (Nat.le_of_ble_eq_true rfl) rfl hdg kk
theorem aC_61 (g : Gx) (u : St) {f : Nat → Int32} (hf : u.2.1 43 = f) : (wC g u)[61]? = some (g.2.2 61, .inl (g.2.1.1, 24, .inl f)) := hf ▸ rfl
theorem sC_61 (g : Gx) (u : St) (f : Nat → Int32) : (wC g u).set 61 (g.2.2 61, .inl (g.2.1.1, 24, .inl f)) = wC g (sA u 43 f) := rfl
theorem aC_62 (g : Gx) (u : St) : (wC g u)[62]? = some (g.2.2 62, .inl (g.2.1.2.1, 5, .inr (.inr (.inr (.inr (fun i => some (g.2.2 (63 + i)))))))) := rfl
theorem arC_62 (g : Gx) (u : St) {k : Nat} (hk : k < 5) : (wC g u)[63 + k]? = some (g.2.2 (63 + k), .inl (g.2.1.1, 4, .inl (u.2.1 (44 + k)))) :=
  match k, hk with
  | 0, _ => rfl
  | 1, _ => rfl
  | 2, _ => rfl
  | 3, _ => rfl
  | 4, _ => rfl
theorem srC_62 (g : Gx) (u : St) {k : Nat} (hk : k < 5) (f : Nat → Int32) : (wC g u).set (63 + k) (g.2.2 (63 + k), .inl (g.2.1.1, 4, .inl f)) = wC g (sA u (44 + k) f) :=
  match k, hk with
  | 0, _ => rfl
  | 1, _ => rfl
  | 2, _ => rfl
  | 3, _ => rfl
  | 4, _ => rfl
theorem aC_68 (g : Gx) (u : St) {f : Nat → Int32} (hf : u.2.1 49 = f) : (wC g u)[68]? = some (g.2.2 68, .inl (g.2.1.1, 10, .inl f)) := hf ▸ rfl
theorem sC_68 (g : Gx) (u : St) (f : Nat → Int32) : (wC g u).set 68 (g.2.2 68, .inl (g.2.1.1, 10, .inl f)) = wC g (sA u 49 f) := rfl
theorem aC_69 (g : Gx) (u : St) {f : Nat → Int32} (hf : u.2.1 50 = f) : (wC g u)[69]? = some (g.2.2 69, .inl (g.2.1.1, 10, .inl f)) := hf ▸ rfl
theorem sC_69 (g : Gx) (u : St) (f : Nat → Int32) : (wC g u).set 69 (g.2.2 69, .inl (g.2.1.1, 10, .inl f)) = wC g (sA u 50 f) := rfl
theorem aC_70 (g : Gx) (u : St) {f : Nat → Int32} (hf : u.2.1 51 = f) : (wC g u)[70]? = some (g.2.2 70, .inl (g.2.1.1, 10, .inl f)) := hf ▸ rfl
theorem sC_70 (g : Gx) (u : St) (f : Nat → Int32) : (wC g u).set 70 (g.2.2 70, .inl (g.2.1.1, 10, .inl f)) = wC g (sA u 51 f) := rfl
theorem oC_71 (g : Gx) (u : St) : (wC g u)[71]? = some (g.2.2 71, .inr (3, [.int (u.1 18), .int (u.1 19), .ref (g.2.2 72), .ref (g.2.2 73), .ref (g.2.2 79), .ref (g.2.2 80), .ref (g.2.2 81), .int (u.1 20)])) := rfl
theorem gC_71_0 (C : Cx p s m meth c args cc own nL ret 82 g) (Z : Zx wC g (Aw 82 g s.heap.size) s H locs u) (hl : FL s args own idx "AskedCocks$Present" "hour" "I") (hdg : decode cc pc = .ok (.getfield idx, 3)) {x : Int32} (hx : u.1 18 = x) (kk : W p l e R s m args below meth c H locs 0 0 Q (F0 m (pc + 3) ls (.int x :: rest))) : W p l e R s m args below meth c H locs 0 0 Q (F0 m pc ls (.ref (g.2.2 71) :: rest)) :=
  r_get C Z (T := TX3) inlX3 rfl (oC_71 g u) (k := 0) (by decide) hl (v := .int x) (by rw [← hx]; rfl) hdg kk
theorem pC_71_0 (C : Cx p s m meth c args cc own nL ret 82 g) (Z : Zx wC g (Aw 82 g s.heap.size) s H locs u) (hl : FL s args own idx "AskedCocks$Present" "hour" "I") {x : Int32} (hdg : decode cc pc = .ok (.putfield idx, 3)) (kk : ∀ (H : Heap) (locs : List Loc), Zx wC g (Aw 82 g s.heap.size) s H locs (sI u 18 x) → W p l e R s m args below meth c H locs 0 0 Q (F0 m (pc + 3) ls rest)) : W p l e R s m args below meth c H locs 0 0 Q (F0 m pc ls (.int x :: .ref (g.2.2 71) :: rest)) :=
  r_put C wokC Z (T := TX3) inlX3 tyX3 tyX3_ok nmX3 rfl (oC_71 g u) (k := 0) (by decide) hl rfl (ty := .int) (by decide +kernel) rfl rfl (Nat.le_of_ble_eq_true rfl) rfl hdg kk
theorem gC_71_1 (C : Cx p s m meth c args cc own nL ret 82 g) (Z : Zx wC g (Aw 82 g s.heap.size) s H locs u) (hl : FL s args own idx "AskedCocks$Present" "asked" "I") (hdg : decode cc pc = .ok (.getfield idx, 3)) {x : Int32} (hx : u.1 19 = x) (kk : W p l e R s m args below meth c H locs 0 0 Q (F0 m (pc + 3) ls (.int x :: rest))) : W p l e R s m args below meth c H locs 0 0 Q (F0 m pc ls (.ref (g.2.2 71) :: rest)) :=
  r_get C Z (T := TX3) inlX3 rfl (oC_71 g u) (k := 1) (by decide) hl (v := .int x) (by rw [← hx]; rfl) hdg kk
theorem pC_71_1 (C : Cx p s m meth c args cc own nL ret 82 g) (Z : Zx wC g (Aw 82 g s.heap.size) s H locs u) (hl : FL s args own idx "AskedCocks$Present" "asked" "I") {x : Int32} (hdg : decode cc pc = .ok (.putfield idx, 3)) (kk : ∀ (H : Heap) (locs : List Loc), Zx wC g (Aw 82 g s.heap.size) s H locs (sI u 19 x) → W p l e R s m args below meth c H locs 0 0 Q (F0 m (pc + 3) ls rest)) : W p l e R s m args below meth c H locs 0 0 Q (F0 m pc ls (.int x :: .ref (g.2.2 71) :: rest)) :=
  r_put C wokC Z (T := TX3) inlX3 tyX3 tyX3_ok nmX3 rfl (oC_71 g u) (k := 1) (by decide) hl rfl (ty := .int) (by decide +kernel) rfl rfl (Nat.le_of_ble_eq_true rfl) rfl hdg kk
theorem gC_71_2 (C : Cx p s m meth c args cc own nL ret 82 g) (Z : Zx wC g (Aw 82 g s.heap.size) s H locs u) (hl : FL s args own idx "AskedCocks$Present" "roofs" "[I") (hdg : decode cc pc = .ok (.getfield idx, 3)) (kk : W p l e R s m args below meth c H locs 0 0 Q (F0 m (pc + 3) ls (.ref (g.2.2 72) :: rest))) : W p l e R s m args below meth c H locs 0 0 Q (F0 m pc ls (.ref (g.2.2 71) :: rest)) :=
  r_get C Z (T := TX3) inlX3 rfl (oC_71 g u) (k := 2) (by decide) hl rfl hdg kk
theorem gC_71_3 (C : Cx p s m meth c args cc own nL ret 82 g) (Z : Zx wC g (Aw 82 g s.heap.size) s H locs u) (hl : FL s args own idx "AskedCocks$Present" "seen" "[[I") (hdg : decode cc pc = .ok (.getfield idx, 3)) (kk : W p l e R s m args below meth c H locs 0 0 Q (F0 m (pc + 3) ls (.ref (g.2.2 73) :: rest))) : W p l e R s m args below meth c H locs 0 0 Q (F0 m pc ls (.ref (g.2.2 71) :: rest)) :=
  r_get C Z (T := TX3) inlX3 rfl (oC_71 g u) (k := 3) (by decide) hl rfl hdg kk
theorem gC_71_4 (C : Cx p s m meth c args cc own nL ret 82 g) (Z : Zx wC g (Aw 82 g s.heap.size) s H locs u) (hl : FL s args own idx "AskedCocks$Present" "deedSorts" "[I") (hdg : decode cc pc = .ok (.getfield idx, 3)) (kk : W p l e R s m args below meth c H locs 0 0 Q (F0 m (pc + 3) ls (.ref (g.2.2 79) :: rest))) : W p l e R s m args below meth c H locs 0 0 Q (F0 m pc ls (.ref (g.2.2 71) :: rest)) :=
  r_get C Z (T := TX3) inlX3 rfl (oC_71 g u) (k := 4) (by decide) hl rfl hdg kk
theorem gC_71_5 (C : Cx p s m meth c args cc own nL ret 82 g) (Z : Zx wC g (Aw 82 g s.heap.size) s H locs u) (hl : FL s args own idx "AskedCocks$Present" "deedNumbers" "[I") (hdg : decode cc pc = .ok (.getfield idx, 3)) (kk : W p l e R s m args below meth c H locs 0 0 Q (F0 m (pc + 3) ls (.ref (g.2.2 80) :: rest))) : W p l e R s m args below meth c H locs 0 0 Q (F0 m pc ls (.ref (g.2.2 71) :: rest)) :=
  r_get C Z (T := TX3) inlX3 rfl (oC_71 g u) (k := 5) (by decide) hl rfl hdg kk
theorem gC_71_6 (C : Cx p s m meth c args cc own nL ret 82 g) (Z : Zx wC g (Aw 82 g s.heap.size) s H locs u) (hl : FL s args own idx "AskedCocks$Present" "deedRoofs" "[I") (hdg : decode cc pc = .ok (.getfield idx, 3)) (kk : W p l e R s m args below meth c H locs 0 0 Q (F0 m (pc + 3) ls (.ref (g.2.2 81) :: rest))) : W p l e R s m args below meth c H locs 0 0 Q (F0 m pc ls (.ref (g.2.2 71) :: rest)) :=
  r_get C Z (T := TX3) inlX3 rfl (oC_71 g u) (k := 6) (by decide) hl rfl hdg kk
theorem gC_71_7 (C : Cx p s m meth c args cc own nL ret 82 g) (Z : Zx wC g (Aw 82 g s.heap.size) s H locs u) (hl : FL s args own idx "AskedCocks$Present" "deeds" "I") (hdg : decode cc pc = .ok (.getfield idx, 3)) {x : Int32} (hx : u.1 20 = x) (kk : W p l e R s m args below meth c H locs 0 0 Q (F0 m (pc + 3) ls (.int x :: rest))) : W p l e R s m args below meth c H locs 0 0 Q (F0 m pc ls (.ref (g.2.2 71) :: rest)) :=
  r_get C Z (T := TX3) inlX3 rfl (oC_71 g u) (k := 7) (by decide) hl (v := .int x) (by rw [← hx]; rfl) hdg kk
theorem pC_71_7 (C : Cx p s m meth c args cc own nL ret 82 g) (Z : Zx wC g (Aw 82 g s.heap.size) s H locs u) (hl : FL s args own idx "AskedCocks$Present" "deeds" "I") {x : Int32} (hdg : decode cc pc = .ok (.putfield idx, 3)) (kk : ∀ (H : Heap) (locs : List Loc), Zx wC g (Aw 82 g s.heap.size) s H locs (sI u 20 x) → W p l e R s m args below meth c H locs 0 0 Q (F0 m (pc + 3) ls rest)) : W p l e R s m args below meth c H locs 0 0 Q (F0 m pc ls (.int x :: .ref (g.2.2 71) :: rest)) :=
  r_put C wokC Z (T := TX3) inlX3 tyX3 tyX3_ok nmX3 rfl (oC_71 g u) (k := 7) (by decide) hl rfl (ty := .int) (by decide +kernel) rfl rfl (Nat.le_of_ble_eq_true rfl) rfl hdg kk
theorem aC_72 (g : Gx) (u : St) {f : Nat → Int32} (hf : u.2.1 52 = f) : (wC g u)[72]? = some (g.2.2 72, .inl (g.2.1.1, 24, .inl f)) := hf ▸ rfl
theorem sC_72 (g : Gx) (u : St) (f : Nat → Int32) : (wC g u).set 72 (g.2.2 72, .inl (g.2.1.1, 24, .inl f)) = wC g (sA u 52 f) := rfl
theorem aC_73 (g : Gx) (u : St) : (wC g u)[73]? = some (g.2.2 73, .inl (g.2.1.2.1, 5, .inr (.inr (.inr (.inr (fun i => some (g.2.2 (74 + i)))))))) := rfl
theorem arC_73 (g : Gx) (u : St) {k : Nat} (hk : k < 5) : (wC g u)[74 + k]? = some (g.2.2 (74 + k), .inl (g.2.1.1, 4, .inl (u.2.1 (53 + k)))) :=
  match k, hk with
  | 0, _ => rfl
  | 1, _ => rfl
  | 2, _ => rfl
  | 3, _ => rfl
  | 4, _ => rfl
theorem srC_73 (g : Gx) (u : St) {k : Nat} (hk : k < 5) (f : Nat → Int32) : (wC g u).set (74 + k) (g.2.2 (74 + k), .inl (g.2.1.1, 4, .inl f)) = wC g (sA u (53 + k) f) :=
  match k, hk with
  | 0, _ => rfl
  | 1, _ => rfl
  | 2, _ => rfl
  | 3, _ => rfl
  | 4, _ => rfl
theorem aC_79 (g : Gx) (u : St) {f : Nat → Int32} (hf : u.2.1 58 = f) : (wC g u)[79]? = some (g.2.2 79, .inl (g.2.1.1, 10, .inl f)) := hf ▸ rfl
theorem sC_79 (g : Gx) (u : St) (f : Nat → Int32) : (wC g u).set 79 (g.2.2 79, .inl (g.2.1.1, 10, .inl f)) = wC g (sA u 58 f) := rfl
theorem aC_80 (g : Gx) (u : St) {f : Nat → Int32} (hf : u.2.1 59 = f) : (wC g u)[80]? = some (g.2.2 80, .inl (g.2.1.1, 10, .inl f)) := hf ▸ rfl
theorem sC_80 (g : Gx) (u : St) (f : Nat → Int32) : (wC g u).set 80 (g.2.2 80, .inl (g.2.1.1, 10, .inl f)) = wC g (sA u 59 f) := rfl
theorem aC_81 (g : Gx) (u : St) {f : Nat → Int32} (hf : u.2.1 60 = f) : (wC g u)[81]? = some (g.2.2 81, .inl (g.2.1.1, 10, .inl f)) := hf ▸ rfl
theorem sC_81 (g : Gx) (u : St) (f : Nat → Int32) : (wC g u).set 81 (g.2.2 81, .inl (g.2.1.1, 10, .inl f)) = wC g (sA u 60 f) := rfl
theorem oM_0 (g : Gx) (u : St) : (wM g u)[0]? = some (g.2.2 0, .inr (8, [.int (u.1 0), .ref (g.2.2 1), .ref (g.2.2 2), .ref (g.2.2 3), .ref (g.2.2 4), .int (u.1 1), .ref (g.2.2 5), .ref (g.2.2 6), .int (u.1 2), .ref (g.2.2 7), .ref (g.2.2 8), .ref (g.2.2 9), .ref (g.2.2 10), .int (u.1 3), .ref (g.2.2 11), .int (u.1 4), .ref (g.2.2 12), .long u.2.2, .ref (g.2.2 13), .int (u.1 5), .int (u.1 6), .int (u.1 7), .int (u.1 8), .int (u.1 9), .int (u.1 10), .int (u.1 11), .ref (g.2.2 14), .int (u.1 12), .ref (g.2.2 15), .ref (g.2.2 16), .ref (g.2.2 17), .ref (g.2.2 18), .int (u.1 13), .ref (g.2.2 19), .ref (g.2.2 20), .int (u.1 14), .ref (g.2.2 21)])) := rfl
theorem gM_0_0 (C : Cx p s m meth c args cc own nL ret 22 g) (Z : Zx wM g (Aw 22 g s.heap.size) s H locs u) (hl : FL s args own idx "AskedCocksModel" "cocks" "I") (hdg : decode cc pc = .ok (.getfield idx, 3)) {x : Int32} (hx : u.1 0 = x) (kk : W p l e R s m args below meth c H locs 0 0 Q (F0 m (pc + 3) ls (.int x :: rest))) : W p l e R s m args below meth c H locs 0 0 Q (F0 m pc ls (.ref (g.2.2 0) :: rest)) :=
  r_get C Z (T := TX8) inlX8 rfl (oM_0 g u) (k := 0) (by decide) hl (v := .int x) (by rw [← hx]; rfl) hdg kk
theorem pM_0_0 (C : Cx p s m meth c args cc own nL ret 22 g) (Z : Zx wM g (Aw 22 g s.heap.size) s H locs u) (hl : FL s args own idx "AskedCocksModel" "cocks" "I") {x : Int32} (hdg : decode cc pc = .ok (.putfield idx, 3)) (kk : ∀ (H : Heap) (locs : List Loc), Zx wM g (Aw 22 g s.heap.size) s H locs (sI u 0 x) → W p l e R s m args below meth c H locs 0 0 Q (F0 m (pc + 3) ls rest)) : W p l e R s m args below meth c H locs 0 0 Q (F0 m pc ls (.int x :: .ref (g.2.2 0) :: rest)) :=
  r_put C wokM Z (T := TX8) inlX8 tyX8 tyX8_ok nmX8 rfl (oM_0 g u) (k := 0) (by decide) hl rfl (ty := .int) (by decide +kernel) rfl rfl (Nat.le_of_ble_eq_true rfl) rfl hdg kk
theorem gM_0_1 (C : Cx p s m meth c args cc own nL ret 22 g) (Z : Zx wM g (Aw 22 g s.heap.size) s H locs u) (hl : FL s args own idx "AskedCocksModel" "places" "[I") (hdg : decode cc pc = .ok (.getfield idx, 3)) (kk : W p l e R s m args below meth c H locs 0 0 Q (F0 m (pc + 3) ls (.ref (g.2.2 1) :: rest))) : W p l e R s m args below meth c H locs 0 0 Q (F0 m pc ls (.ref (g.2.2 0) :: rest)) :=
  r_get C Z (T := TX8) inlX8 rfl (oM_0 g u) (k := 1) (by decide) hl rfl hdg kk
theorem gM_0_2 (C : Cx p s m meth c args cc own nL ret 22 g) (Z : Zx wM g (Aw 22 g s.heap.size) s H locs u) (hl : FL s args own idx "AskedCocksModel" "rises" "[I") (hdg : decode cc pc = .ok (.getfield idx, 3)) (kk : W p l e R s m args below meth c H locs 0 0 Q (F0 m (pc + 3) ls (.ref (g.2.2 2) :: rest))) : W p l e R s m args below meth c H locs 0 0 Q (F0 m pc ls (.ref (g.2.2 0) :: rest)) :=
  r_get C Z (T := TX8) inlX8 rfl (oM_0 g u) (k := 2) (by decide) hl rfl hdg kk
theorem gM_0_3 (C : Cx p s m meth c args cc own nL ret 22 g) (Z : Zx wM g (Aw 22 g s.heap.size) s H locs u) (hl : FL s args own idx "AskedCocksModel" "sides" "[I") (hdg : decode cc pc = .ok (.getfield idx, 3)) (kk : W p l e R s m args below meth c H locs 0 0 Q (F0 m (pc + 3) ls (.ref (g.2.2 3) :: rest))) : W p l e R s m args below meth c H locs 0 0 Q (F0 m pc ls (.ref (g.2.2 0) :: rest)) :=
  r_get C Z (T := TX8) inlX8 rfl (oM_0 g u) (k := 3) (by decide) hl rfl hdg kk
theorem gM_0_4 (C : Cx p s m meth c args cc own nL ret 22 g) (Z : Zx wM g (Aw 22 g s.heap.size) s H locs u) (hl : FL s args own idx "AskedCocksModel" "turns" "[I") (hdg : decode cc pc = .ok (.getfield idx, 3)) (kk : W p l e R s m args below meth c H locs 0 0 Q (F0 m (pc + 3) ls (.ref (g.2.2 4) :: rest))) : W p l e R s m args below meth c H locs 0 0 Q (F0 m pc ls (.ref (g.2.2 0) :: rest)) :=
  r_get C Z (T := TX8) inlX8 rfl (oM_0 g u) (k := 4) (by decide) hl rfl hdg kk
theorem gM_0_5 (C : Cx p s m meth c args cc own nL ret 22 g) (Z : Zx wM g (Aw 22 g s.heap.size) s H locs u) (hl : FL s args own idx "AskedCocksModel" "people" "I") (hdg : decode cc pc = .ok (.getfield idx, 3)) {x : Int32} (hx : u.1 1 = x) (kk : W p l e R s m args below meth c H locs 0 0 Q (F0 m (pc + 3) ls (.int x :: rest))) : W p l e R s m args below meth c H locs 0 0 Q (F0 m pc ls (.ref (g.2.2 0) :: rest)) :=
  r_get C Z (T := TX8) inlX8 rfl (oM_0 g u) (k := 5) (by decide) hl (v := .int x) (by rw [← hx]; rfl) hdg kk
theorem pM_0_5 (C : Cx p s m meth c args cc own nL ret 22 g) (Z : Zx wM g (Aw 22 g s.heap.size) s H locs u) (hl : FL s args own idx "AskedCocksModel" "people" "I") {x : Int32} (hdg : decode cc pc = .ok (.putfield idx, 3)) (kk : ∀ (H : Heap) (locs : List Loc), Zx wM g (Aw 22 g s.heap.size) s H locs (sI u 1 x) → W p l e R s m args below meth c H locs 0 0 Q (F0 m (pc + 3) ls rest)) : W p l e R s m args below meth c H locs 0 0 Q (F0 m pc ls (.int x :: .ref (g.2.2 0) :: rest)) :=
  r_put C wokM Z (T := TX8) inlX8 tyX8 tyX8_ok nmX8 rfl (oM_0 g u) (k := 5) (by decide) hl rfl (ty := .int) (by decide +kernel) rfl rfl (Nat.le_of_ble_eq_true rfl) rfl hdg kk
theorem gM_0_6 (C : Cx p s m meth c args cc own nL ret 22 g) (Z : Zx wM g (Aw 22 g s.heap.size) s H locs u) (hl : FL s args own idx "AskedCocksModel" "starts" "[I") (hdg : decode cc pc = .ok (.getfield idx, 3)) (kk : W p l e R s m args below meth c H locs 0 0 Q (F0 m (pc + 3) ls (.ref (g.2.2 5) :: rest))) : W p l e R s m args below meth c H locs 0 0 Q (F0 m pc ls (.ref (g.2.2 0) :: rest)) :=
  r_get C Z (T := TX8) inlX8 rfl (oM_0 g u) (k := 6) (by decide) hl rfl hdg kk
theorem gM_0_7 (C : Cx p s m meth c args cc own nL ret 22 g) (Z : Zx wM g (Aw 22 g s.heap.size) s H locs u) (hl : FL s args own idx "AskedCocksModel" "speeds" "[I") (hdg : decode cc pc = .ok (.getfield idx, 3)) (kk : W p l e R s m args below meth c H locs 0 0 Q (F0 m (pc + 3) ls (.ref (g.2.2 6) :: rest))) : W p l e R s m args below meth c H locs 0 0 Q (F0 m pc ls (.ref (g.2.2 0) :: rest)) :=
  r_get C Z (T := TX8) inlX8 rfl (oM_0 g u) (k := 7) (by decide) hl rfl hdg kk
theorem gM_0_8 (C : Cx p s m meth c args cc own nL ret 22 g) (Z : Zx wM g (Aw 22 g s.heap.size) s H locs u) (hl : FL s args own idx "AskedCocksModel" "smokes" "I") (hdg : decode cc pc = .ok (.getfield idx, 3)) {x : Int32} (hx : u.1 2 = x) (kk : W p l e R s m args below meth c H locs 0 0 Q (F0 m (pc + 3) ls (.int x :: rest))) : W p l e R s m args below meth c H locs 0 0 Q (F0 m pc ls (.ref (g.2.2 0) :: rest)) :=
  r_get C Z (T := TX8) inlX8 rfl (oM_0 g u) (k := 8) (by decide) hl (v := .int x) (by rw [← hx]; rfl) hdg kk
theorem pM_0_8 (C : Cx p s m meth c args cc own nL ret 22 g) (Z : Zx wM g (Aw 22 g s.heap.size) s H locs u) (hl : FL s args own idx "AskedCocksModel" "smokes" "I") {x : Int32} (hdg : decode cc pc = .ok (.putfield idx, 3)) (kk : ∀ (H : Heap) (locs : List Loc), Zx wM g (Aw 22 g s.heap.size) s H locs (sI u 2 x) → W p l e R s m args below meth c H locs 0 0 Q (F0 m (pc + 3) ls rest)) : W p l e R s m args below meth c H locs 0 0 Q (F0 m pc ls (.int x :: .ref (g.2.2 0) :: rest)) :=
  r_put C wokM Z (T := TX8) inlX8 tyX8 tyX8_ok nmX8 rfl (oM_0 g u) (k := 8) (by decide) hl rfl (ty := .int) (by decide +kernel) rfl rfl (Nat.le_of_ble_eq_true rfl) rfl hdg kk
theorem gM_0_9 (C : Cx p s m meth c args cc own nL ret 22 g) (Z : Zx wM g (Aw 22 g s.heap.size) s H locs u) (hl : FL s args own idx "AskedCocksModel" "smoke" "[I") (hdg : decode cc pc = .ok (.getfield idx, 3)) (kk : W p l e R s m args below meth c H locs 0 0 Q (F0 m (pc + 3) ls (.ref (g.2.2 7) :: rest))) : W p l e R s m args below meth c H locs 0 0 Q (F0 m pc ls (.ref (g.2.2 0) :: rest)) :=
  r_get C Z (T := TX8) inlX8 rfl (oM_0 g u) (k := 9) (by decide) hl rfl hdg kk
theorem gM_0_10 (C : Cx p s m meth c args cc own nL ret 22 g) (Z : Zx wM g (Aw 22 g s.heap.size) s H locs u) (hl : FL s args own idx "AskedCocksModel" "st" "[I") (hdg : decode cc pc = .ok (.getfield idx, 3)) (kk : W p l e R s m args below meth c H locs 0 0 Q (F0 m (pc + 3) ls (.ref (g.2.2 8) :: rest))) : W p l e R s m args below meth c H locs 0 0 Q (F0 m pc ls (.ref (g.2.2 0) :: rest)) :=
  r_get C Z (T := TX8) inlX8 rfl (oM_0 g u) (k := 10) (by decide) hl rfl hdg kk
theorem gM_0_11 (C : Cx p s m meth c args cc own nL ret 22 g) (Z : Zx wM g (Aw 22 g s.heap.size) s H locs u) (hl : FL s args own idx "AskedCocksModel" "images" "[I") (hdg : decode cc pc = .ok (.getfield idx, 3)) (kk : W p l e R s m args below meth c H locs 0 0 Q (F0 m (pc + 3) ls (.ref (g.2.2 9) :: rest))) : W p l e R s m args below meth c H locs 0 0 Q (F0 m pc ls (.ref (g.2.2 0) :: rest)) :=
  r_get C Z (T := TX8) inlX8 rfl (oM_0 g u) (k := 11) (by decide) hl rfl hdg kk
theorem gM_0_12 (C : Cx p s m meth c args cc own nL ret 22 g) (Z : Zx wM g (Aw 22 g s.heap.size) s H locs u) (hl : FL s args own idx "AskedCocksModel" "isKept" "[Z") (hdg : decode cc pc = .ok (.getfield idx, 3)) (kk : W p l e R s m args below meth c H locs 0 0 Q (F0 m (pc + 3) ls (.ref (g.2.2 10) :: rest))) : W p l e R s m args below meth c H locs 0 0 Q (F0 m pc ls (.ref (g.2.2 0) :: rest)) :=
  r_get C Z (T := TX8) inlX8 rfl (oM_0 g u) (k := 12) (by decide) hl rfl hdg kk
theorem gM_0_13 (C : Cx p s m meth c args cc own nL ret 22 g) (Z : Zx wM g (Aw 22 g s.heap.size) s H locs u) (hl : FL s args own idx "AskedCocksModel" "facedMany" "I") (hdg : decode cc pc = .ok (.getfield idx, 3)) {x : Int32} (hx : u.1 3 = x) (kk : W p l e R s m args below meth c H locs 0 0 Q (F0 m (pc + 3) ls (.int x :: rest))) : W p l e R s m args below meth c H locs 0 0 Q (F0 m pc ls (.ref (g.2.2 0) :: rest)) :=
  r_get C Z (T := TX8) inlX8 rfl (oM_0 g u) (k := 13) (by decide) hl (v := .int x) (by rw [← hx]; rfl) hdg kk
theorem pM_0_13 (C : Cx p s m meth c args cc own nL ret 22 g) (Z : Zx wM g (Aw 22 g s.heap.size) s H locs u) (hl : FL s args own idx "AskedCocksModel" "facedMany" "I") {x : Int32} (hdg : decode cc pc = .ok (.putfield idx, 3)) (kk : ∀ (H : Heap) (locs : List Loc), Zx wM g (Aw 22 g s.heap.size) s H locs (sI u 3 x) → W p l e R s m args below meth c H locs 0 0 Q (F0 m (pc + 3) ls rest)) : W p l e R s m args below meth c H locs 0 0 Q (F0 m pc ls (.int x :: .ref (g.2.2 0) :: rest)) :=
  r_put C wokM Z (T := TX8) inlX8 tyX8 tyX8_ok nmX8 rfl (oM_0 g u) (k := 13) (by decide) hl rfl (ty := .int) (by decide +kernel) rfl rfl (Nat.le_of_ble_eq_true rfl) rfl hdg kk
theorem gM_0_14 (C : Cx p s m meth c args cc own nL ret 22 g) (Z : Zx wM g (Aw 22 g s.heap.size) s H locs u) (hl : FL s args own idx "AskedCocksModel" "facing" "[I") (hdg : decode cc pc = .ok (.getfield idx, 3)) (kk : W p l e R s m args below meth c H locs 0 0 Q (F0 m (pc + 3) ls (.ref (g.2.2 11) :: rest))) : W p l e R s m args below meth c H locs 0 0 Q (F0 m pc ls (.ref (g.2.2 0) :: rest)) :=
  r_get C Z (T := TX8) inlX8 rfl (oM_0 g u) (k := 14) (by decide) hl rfl hdg kk
theorem gM_0_15 (C : Cx p s m meth c args cc own nL ret 22 g) (Z : Zx wM g (Aw 22 g s.heap.size) s H locs u) (hl : FL s args own idx "AskedCocksModel" "metMany" "I") (hdg : decode cc pc = .ok (.getfield idx, 3)) {x : Int32} (hx : u.1 4 = x) (kk : W p l e R s m args below meth c H locs 0 0 Q (F0 m (pc + 3) ls (.int x :: rest))) : W p l e R s m args below meth c H locs 0 0 Q (F0 m pc ls (.ref (g.2.2 0) :: rest)) :=
  r_get C Z (T := TX8) inlX8 rfl (oM_0 g u) (k := 15) (by decide) hl (v := .int x) (by rw [← hx]; rfl) hdg kk
theorem pM_0_15 (C : Cx p s m meth c args cc own nL ret 22 g) (Z : Zx wM g (Aw 22 g s.heap.size) s H locs u) (hl : FL s args own idx "AskedCocksModel" "metMany" "I") {x : Int32} (hdg : decode cc pc = .ok (.putfield idx, 3)) (kk : ∀ (H : Heap) (locs : List Loc), Zx wM g (Aw 22 g s.heap.size) s H locs (sI u 4 x) → W p l e R s m args below meth c H locs 0 0 Q (F0 m (pc + 3) ls rest)) : W p l e R s m args below meth c H locs 0 0 Q (F0 m pc ls (.int x :: .ref (g.2.2 0) :: rest)) :=
  r_put C wokM Z (T := TX8) inlX8 tyX8 tyX8_ok nmX8 rfl (oM_0 g u) (k := 15) (by decide) hl rfl (ty := .int) (by decide +kernel) rfl rfl (Nat.le_of_ble_eq_true rfl) rfl hdg kk
theorem gM_0_16 (C : Cx p s m meth c args cc own nL ret 22 g) (Z : Zx wM g (Aw 22 g s.heap.size) s H locs u) (hl : FL s args own idx "AskedCocksModel" "meets" "[I") (hdg : decode cc pc = .ok (.getfield idx, 3)) (kk : W p l e R s m args below meth c H locs 0 0 Q (F0 m (pc + 3) ls (.ref (g.2.2 12) :: rest))) : W p l e R s m args below meth c H locs 0 0 Q (F0 m pc ls (.ref (g.2.2 0) :: rest)) :=
  r_get C Z (T := TX8) inlX8 rfl (oM_0 g u) (k := 16) (by decide) hl rfl hdg kk
theorem gM_0_17 (C : Cx p s m meth c args cc own nL ret 22 g) (Z : Zx wM g (Aw 22 g s.heap.size) s H locs u) (hl : FL s args own idx "AskedCocksModel" "trace" "J") (hdg : decode cc pc = .ok (.getfield idx, 3)) {x : Int64} (hx : u.2.2 = x) (kk : W p l e R s m args below meth c H locs 0 0 Q (F0 m (pc + 3) ls (.long x :: rest))) : W p l e R s m args below meth c H locs 0 0 Q (F0 m pc ls (.ref (g.2.2 0) :: rest)) :=
  r_get C Z (T := TX8) inlX8 rfl (oM_0 g u) (k := 17) (by decide) hl (v := .long x) (by rw [← hx]; rfl) hdg kk
theorem pM_0_17 (C : Cx p s m meth c args cc own nL ret 22 g) (Z : Zx wM g (Aw 22 g s.heap.size) s H locs u) (hl : FL s args own idx "AskedCocksModel" "trace" "J") {x : Int64} (hdg : decode cc pc = .ok (.putfield idx, 3)) (kk : ∀ (H : Heap) (locs : List Loc), Zx wM g (Aw 22 g s.heap.size) s H locs (sJ u x) → W p l e R s m args below meth c H locs 0 0 Q (F0 m (pc + 3) ls rest)) : W p l e R s m args below meth c H locs 0 0 Q (F0 m pc ls (.long x :: .ref (g.2.2 0) :: rest)) :=
  r_put C wokM Z (T := TX8) inlX8 tyX8 tyX8_ok nmX8 rfl (oM_0 g u) (k := 17) (by decide) hl rfl (ty := .long) (by decide +kernel) rfl rfl (Nat.le_of_ble_eq_true rfl) rfl hdg kk
theorem gM_0_18 (C : Cx p s m meth c args cc own nL ret 22 g) (Z : Zx wM g (Aw 22 g s.heap.size) s H locs u) (hl : FL s args own idx "AskedCocksModel" "text" "[I") (hdg : decode cc pc = .ok (.getfield idx, 3)) (kk : W p l e R s m args below meth c H locs 0 0 Q (F0 m (pc + 3) ls (.ref (g.2.2 13) :: rest))) : W p l e R s m args below meth c H locs 0 0 Q (F0 m pc ls (.ref (g.2.2 0) :: rest)) :=
  r_get C Z (T := TX8) inlX8 rfl (oM_0 g u) (k := 18) (by decide) hl rfl hdg kk
theorem gM_0_19 (C : Cx p s m meth c args cc own nL ret 22 g) (Z : Zx wM g (Aw 22 g s.heap.size) s H locs u) (hl : FL s args own idx "AskedCocksModel" "texted" "I") (hdg : decode cc pc = .ok (.getfield idx, 3)) {x : Int32} (hx : u.1 5 = x) (kk : W p l e R s m args below meth c H locs 0 0 Q (F0 m (pc + 3) ls (.int x :: rest))) : W p l e R s m args below meth c H locs 0 0 Q (F0 m pc ls (.ref (g.2.2 0) :: rest)) :=
  r_get C Z (T := TX8) inlX8 rfl (oM_0 g u) (k := 19) (by decide) hl (v := .int x) (by rw [← hx]; rfl) hdg kk
theorem pM_0_19 (C : Cx p s m meth c args cc own nL ret 22 g) (Z : Zx wM g (Aw 22 g s.heap.size) s H locs u) (hl : FL s args own idx "AskedCocksModel" "texted" "I") {x : Int32} (hdg : decode cc pc = .ok (.putfield idx, 3)) (kk : ∀ (H : Heap) (locs : List Loc), Zx wM g (Aw 22 g s.heap.size) s H locs (sI u 5 x) → W p l e R s m args below meth c H locs 0 0 Q (F0 m (pc + 3) ls rest)) : W p l e R s m args below meth c H locs 0 0 Q (F0 m pc ls (.int x :: .ref (g.2.2 0) :: rest)) :=
  r_put C wokM Z (T := TX8) inlX8 tyX8 tyX8_ok nmX8 rfl (oM_0 g u) (k := 19) (by decide) hl rfl (ty := .int) (by decide +kernel) rfl rfl (Nat.le_of_ble_eq_true rfl) rfl hdg kk
theorem gM_0_20 (C : Cx p s m meth c args cc own nL ret 22 g) (Z : Zx wM g (Aw 22 g s.heap.size) s H locs u) (hl : FL s args own idx "AskedCocksModel" "cursor" "I") (hdg : decode cc pc = .ok (.getfield idx, 3)) {x : Int32} (hx : u.1 6 = x) (kk : W p l e R s m args below meth c H locs 0 0 Q (F0 m (pc + 3) ls (.int x :: rest))) : W p l e R s m args below meth c H locs 0 0 Q (F0 m pc ls (.ref (g.2.2 0) :: rest)) :=
  r_get C Z (T := TX8) inlX8 rfl (oM_0 g u) (k := 20) (by decide) hl (v := .int x) (by rw [← hx]; rfl) hdg kk
theorem pM_0_20 (C : Cx p s m meth c args cc own nL ret 22 g) (Z : Zx wM g (Aw 22 g s.heap.size) s H locs u) (hl : FL s args own idx "AskedCocksModel" "cursor" "I") {x : Int32} (hdg : decode cc pc = .ok (.putfield idx, 3)) (kk : ∀ (H : Heap) (locs : List Loc), Zx wM g (Aw 22 g s.heap.size) s H locs (sI u 6 x) → W p l e R s m args below meth c H locs 0 0 Q (F0 m (pc + 3) ls rest)) : W p l e R s m args below meth c H locs 0 0 Q (F0 m pc ls (.int x :: .ref (g.2.2 0) :: rest)) :=
  r_put C wokM Z (T := TX8) inlX8 tyX8 tyX8_ok nmX8 rfl (oM_0 g u) (k := 20) (by decide) hl rfl (ty := .int) (by decide +kernel) rfl rfl (Nat.le_of_ble_eq_true rfl) rfl hdg kk
theorem gM_0_21 (C : Cx p s m meth c args cc own nL ret 22 g) (Z : Zx wM g (Aw 22 g s.heap.size) s H locs u) (hl : FL s args own idx "AskedCocksModel" "start" "I") (hdg : decode cc pc = .ok (.getfield idx, 3)) {x : Int32} (hx : u.1 7 = x) (kk : W p l e R s m args below meth c H locs 0 0 Q (F0 m (pc + 3) ls (.int x :: rest))) : W p l e R s m args below meth c H locs 0 0 Q (F0 m pc ls (.ref (g.2.2 0) :: rest)) :=
  r_get C Z (T := TX8) inlX8 rfl (oM_0 g u) (k := 21) (by decide) hl (v := .int x) (by rw [← hx]; rfl) hdg kk
theorem pM_0_21 (C : Cx p s m meth c args cc own nL ret 22 g) (Z : Zx wM g (Aw 22 g s.heap.size) s H locs u) (hl : FL s args own idx "AskedCocksModel" "start" "I") {x : Int32} (hdg : decode cc pc = .ok (.putfield idx, 3)) (kk : ∀ (H : Heap) (locs : List Loc), Zx wM g (Aw 22 g s.heap.size) s H locs (sI u 7 x) → W p l e R s m args below meth c H locs 0 0 Q (F0 m (pc + 3) ls rest)) : W p l e R s m args below meth c H locs 0 0 Q (F0 m pc ls (.int x :: .ref (g.2.2 0) :: rest)) :=
  r_put C wokM Z (T := TX8) inlX8 tyX8 tyX8_ok nmX8 rfl (oM_0 g u) (k := 21) (by decide) hl rfl (ty := .int) (by decide +kernel) rfl rfl (Nat.le_of_ble_eq_true rfl) rfl hdg kk
theorem gM_0_22 (C : Cx p s m meth c args cc own nL ret 22 g) (Z : Zx wM g (Aw 22 g s.heap.size) s H locs u) (hl : FL s args own idx "AskedCocksModel" "token" "I") (hdg : decode cc pc = .ok (.getfield idx, 3)) {x : Int32} (hx : u.1 8 = x) (kk : W p l e R s m args below meth c H locs 0 0 Q (F0 m (pc + 3) ls (.int x :: rest))) : W p l e R s m args below meth c H locs 0 0 Q (F0 m pc ls (.ref (g.2.2 0) :: rest)) :=
  r_get C Z (T := TX8) inlX8 rfl (oM_0 g u) (k := 22) (by decide) hl (v := .int x) (by rw [← hx]; rfl) hdg kk
theorem pM_0_22 (C : Cx p s m meth c args cc own nL ret 22 g) (Z : Zx wM g (Aw 22 g s.heap.size) s H locs u) (hl : FL s args own idx "AskedCocksModel" "token" "I") {x : Int32} (hdg : decode cc pc = .ok (.putfield idx, 3)) (kk : ∀ (H : Heap) (locs : List Loc), Zx wM g (Aw 22 g s.heap.size) s H locs (sI u 8 x) → W p l e R s m args below meth c H locs 0 0 Q (F0 m (pc + 3) ls rest)) : W p l e R s m args below meth c H locs 0 0 Q (F0 m pc ls (.int x :: .ref (g.2.2 0) :: rest)) :=
  r_put C wokM Z (T := TX8) inlX8 tyX8 tyX8_ok nmX8 rfl (oM_0 g u) (k := 22) (by decide) hl rfl (ty := .int) (by decide +kernel) rfl rfl (Nat.le_of_ble_eq_true rfl) rfl hdg kk
theorem gM_0_23 (C : Cx p s m meth c args cc own nL ret 22 g) (Z : Zx wM g (Aw 22 g s.heap.size) s H locs u) (hl : FL s args own idx "AskedCocksModel" "number" "I") (hdg : decode cc pc = .ok (.getfield idx, 3)) {x : Int32} (hx : u.1 9 = x) (kk : W p l e R s m args below meth c H locs 0 0 Q (F0 m (pc + 3) ls (.int x :: rest))) : W p l e R s m args below meth c H locs 0 0 Q (F0 m pc ls (.ref (g.2.2 0) :: rest)) :=
  r_get C Z (T := TX8) inlX8 rfl (oM_0 g u) (k := 23) (by decide) hl (v := .int x) (by rw [← hx]; rfl) hdg kk
theorem pM_0_23 (C : Cx p s m meth c args cc own nL ret 22 g) (Z : Zx wM g (Aw 22 g s.heap.size) s H locs u) (hl : FL s args own idx "AskedCocksModel" "number" "I") {x : Int32} (hdg : decode cc pc = .ok (.putfield idx, 3)) (kk : ∀ (H : Heap) (locs : List Loc), Zx wM g (Aw 22 g s.heap.size) s H locs (sI u 9 x) → W p l e R s m args below meth c H locs 0 0 Q (F0 m (pc + 3) ls rest)) : W p l e R s m args below meth c H locs 0 0 Q (F0 m pc ls (.int x :: .ref (g.2.2 0) :: rest)) :=
  r_put C wokM Z (T := TX8) inlX8 tyX8 tyX8_ok nmX8 rfl (oM_0 g u) (k := 23) (by decide) hl rfl (ty := .int) (by decide +kernel) rfl rfl (Nat.le_of_ble_eq_true rfl) rfl hdg kk
theorem gM_0_24 (C : Cx p s m meth c args cc own nL ret 22 g) (Z : Zx wM g (Aw 22 g s.heap.size) s H locs u) (hl : FL s args own idx "AskedCocksModel" "isWrong" "Z") (hdg : decode cc pc = .ok (.getfield idx, 3)) {x : Int32} (hx : u.1 10 = x) (kk : W p l e R s m args below meth c H locs 0 0 Q (F0 m (pc + 3) ls (.int x :: rest))) : W p l e R s m args below meth c H locs 0 0 Q (F0 m pc ls (.ref (g.2.2 0) :: rest)) :=
  r_get C Z (T := TX8) inlX8 rfl (oM_0 g u) (k := 24) (by decide) hl (v := .int x) (by rw [← hx]; rfl) hdg kk
theorem pM_0_24 (C : Cx p s m meth c args cc own nL ret 22 g) (Z : Zx wM g (Aw 22 g s.heap.size) s H locs u) (hl : FL s args own idx "AskedCocksModel" "isWrong" "Z") {x : Int32} (hz : nb x = true) (hdg : decode cc pc = .ok (.putfield idx, 3)) (kk : ∀ (H : Heap) (locs : List Loc), Zx wM g (Aw 22 g s.heap.size) s H locs (sI u 10 x) → W p l e R s m args below meth c H locs 0 0 Q (F0 m (pc + 3) ls rest)) : W p l e R s m args below meth c H locs 0 0 Q (F0 m pc ls (.int x :: .ref (g.2.2 0) :: rest)) :=
  r_put C wokM Z (T := TX8) inlX8 tyX8 tyX8_ok nmX8 rfl (oM_0 g u) (k := 24) (by decide) hl rfl (ty := .boolean) (by decide +kernel) (nb_nar hz) (nb_fit hz) (Nat.le_of_ble_eq_true rfl) rfl hdg kk
theorem gM_0_25 (C : Cx p s m meth c args cc own nL ret 22 g) (Z : Zx wM g (Aw 22 g s.heap.size) s H locs u) (hl : FL s args own idx "AskedCocksModel" "items" "I") (hdg : decode cc pc = .ok (.getfield idx, 3)) {x : Int32} (hx : u.1 11 = x) (kk : W p l e R s m args below meth c H locs 0 0 Q (F0 m (pc + 3) ls (.int x :: rest))) : W p l e R s m args below meth c H locs 0 0 Q (F0 m pc ls (.ref (g.2.2 0) :: rest)) :=
  r_get C Z (T := TX8) inlX8 rfl (oM_0 g u) (k := 25) (by decide) hl (v := .int x) (by rw [← hx]; rfl) hdg kk
theorem pM_0_25 (C : Cx p s m meth c args cc own nL ret 22 g) (Z : Zx wM g (Aw 22 g s.heap.size) s H locs u) (hl : FL s args own idx "AskedCocksModel" "items" "I") {x : Int32} (hdg : decode cc pc = .ok (.putfield idx, 3)) (kk : ∀ (H : Heap) (locs : List Loc), Zx wM g (Aw 22 g s.heap.size) s H locs (sI u 11 x) → W p l e R s m args below meth c H locs 0 0 Q (F0 m (pc + 3) ls rest)) : W p l e R s m args below meth c H locs 0 0 Q (F0 m pc ls (.int x :: .ref (g.2.2 0) :: rest)) :=
  r_put C wokM Z (T := TX8) inlX8 tyX8 tyX8_ok nmX8 rfl (oM_0 g u) (k := 25) (by decide) hl rfl (ty := .int) (by decide +kernel) rfl rfl (Nat.le_of_ble_eq_true rfl) rfl hdg kk
theorem gM_0_26 (C : Cx p s m meth c args cc own nL ret 22 g) (Z : Zx wM g (Aw 22 g s.heap.size) s H locs u) (hl : FL s args own idx "AskedCocksModel" "saidRoof" "[I") (hdg : decode cc pc = .ok (.getfield idx, 3)) (kk : W p l e R s m args below meth c H locs 0 0 Q (F0 m (pc + 3) ls (.ref (g.2.2 14) :: rest))) : W p l e R s m args below meth c H locs 0 0 Q (F0 m pc ls (.ref (g.2.2 0) :: rest)) :=
  r_get C Z (T := TX8) inlX8 rfl (oM_0 g u) (k := 26) (by decide) hl rfl hdg kk
theorem gM_0_27 (C : Cx p s m meth c args cc own nL ret 22 g) (Z : Zx wM g (Aw 22 g s.heap.size) s H locs u) (hl : FL s args own idx "AskedCocksModel" "saidCocks" "I") (hdg : decode cc pc = .ok (.getfield idx, 3)) {x : Int32} (hx : u.1 12 = x) (kk : W p l e R s m args below meth c H locs 0 0 Q (F0 m (pc + 3) ls (.int x :: rest))) : W p l e R s m args below meth c H locs 0 0 Q (F0 m pc ls (.ref (g.2.2 0) :: rest)) :=
  r_get C Z (T := TX8) inlX8 rfl (oM_0 g u) (k := 27) (by decide) hl (v := .int x) (by rw [← hx]; rfl) hdg kk
theorem pM_0_27 (C : Cx p s m meth c args cc own nL ret 22 g) (Z : Zx wM g (Aw 22 g s.heap.size) s H locs u) (hl : FL s args own idx "AskedCocksModel" "saidCocks" "I") {x : Int32} (hdg : decode cc pc = .ok (.putfield idx, 3)) (kk : ∀ (H : Heap) (locs : List Loc), Zx wM g (Aw 22 g s.heap.size) s H locs (sI u 12 x) → W p l e R s m args below meth c H locs 0 0 Q (F0 m (pc + 3) ls rest)) : W p l e R s m args below meth c H locs 0 0 Q (F0 m pc ls (.int x :: .ref (g.2.2 0) :: rest)) :=
  r_put C wokM Z (T := TX8) inlX8 tyX8 tyX8_ok nmX8 rfl (oM_0 g u) (k := 27) (by decide) hl rfl (ty := .int) (by decide +kernel) rfl rfl (Nat.le_of_ble_eq_true rfl) rfl hdg kk
theorem gM_0_28 (C : Cx p s m meth c args cc own nL ret 22 g) (Z : Zx wM g (Aw 22 g s.heap.size) s H locs u) (hl : FL s args own idx "AskedCocksModel" "saidPlace" "[I") (hdg : decode cc pc = .ok (.getfield idx, 3)) (kk : W p l e R s m args below meth c H locs 0 0 Q (F0 m (pc + 3) ls (.ref (g.2.2 15) :: rest))) : W p l e R s m args below meth c H locs 0 0 Q (F0 m pc ls (.ref (g.2.2 0) :: rest)) :=
  r_get C Z (T := TX8) inlX8 rfl (oM_0 g u) (k := 28) (by decide) hl rfl hdg kk
theorem gM_0_29 (C : Cx p s m meth c args cc own nL ret 22 g) (Z : Zx wM g (Aw 22 g s.heap.size) s H locs u) (hl : FL s args own idx "AskedCocksModel" "saidRise" "[I") (hdg : decode cc pc = .ok (.getfield idx, 3)) (kk : W p l e R s m args below meth c H locs 0 0 Q (F0 m (pc + 3) ls (.ref (g.2.2 16) :: rest))) : W p l e R s m args below meth c H locs 0 0 Q (F0 m pc ls (.ref (g.2.2 0) :: rest)) :=
  r_get C Z (T := TX8) inlX8 rfl (oM_0 g u) (k := 29) (by decide) hl rfl hdg kk
theorem gM_0_30 (C : Cx p s m meth c args cc own nL ret 22 g) (Z : Zx wM g (Aw 22 g s.heap.size) s H locs u) (hl : FL s args own idx "AskedCocksModel" "saidSide" "[I") (hdg : decode cc pc = .ok (.getfield idx, 3)) (kk : W p l e R s m args below meth c H locs 0 0 Q (F0 m (pc + 3) ls (.ref (g.2.2 17) :: rest))) : W p l e R s m args below meth c H locs 0 0 Q (F0 m pc ls (.ref (g.2.2 0) :: rest)) :=
  r_get C Z (T := TX8) inlX8 rfl (oM_0 g u) (k := 30) (by decide) hl rfl hdg kk
theorem gM_0_31 (C : Cx p s m meth c args cc own nL ret 22 g) (Z : Zx wM g (Aw 22 g s.heap.size) s H locs u) (hl : FL s args own idx "AskedCocksModel" "saidTurn" "[I") (hdg : decode cc pc = .ok (.getfield idx, 3)) (kk : W p l e R s m args below meth c H locs 0 0 Q (F0 m (pc + 3) ls (.ref (g.2.2 18) :: rest))) : W p l e R s m args below meth c H locs 0 0 Q (F0 m pc ls (.ref (g.2.2 0) :: rest)) :=
  r_get C Z (T := TX8) inlX8 rfl (oM_0 g u) (k := 31) (by decide) hl rfl hdg kk
theorem gM_0_32 (C : Cx p s m meth c args cc own nL ret 22 g) (Z : Zx wM g (Aw 22 g s.heap.size) s H locs u) (hl : FL s args own idx "AskedCocksModel" "saidPeople" "I") (hdg : decode cc pc = .ok (.getfield idx, 3)) {x : Int32} (hx : u.1 13 = x) (kk : W p l e R s m args below meth c H locs 0 0 Q (F0 m (pc + 3) ls (.int x :: rest))) : W p l e R s m args below meth c H locs 0 0 Q (F0 m pc ls (.ref (g.2.2 0) :: rest)) :=
  r_get C Z (T := TX8) inlX8 rfl (oM_0 g u) (k := 32) (by decide) hl (v := .int x) (by rw [← hx]; rfl) hdg kk
theorem pM_0_32 (C : Cx p s m meth c args cc own nL ret 22 g) (Z : Zx wM g (Aw 22 g s.heap.size) s H locs u) (hl : FL s args own idx "AskedCocksModel" "saidPeople" "I") {x : Int32} (hdg : decode cc pc = .ok (.putfield idx, 3)) (kk : ∀ (H : Heap) (locs : List Loc), Zx wM g (Aw 22 g s.heap.size) s H locs (sI u 13 x) → W p l e R s m args below meth c H locs 0 0 Q (F0 m (pc + 3) ls rest)) : W p l e R s m args below meth c H locs 0 0 Q (F0 m pc ls (.int x :: .ref (g.2.2 0) :: rest)) :=
  r_put C wokM Z (T := TX8) inlX8 tyX8 tyX8_ok nmX8 rfl (oM_0 g u) (k := 32) (by decide) hl rfl (ty := .int) (by decide +kernel) rfl rfl (Nat.le_of_ble_eq_true rfl) rfl hdg kk
theorem gM_0_33 (C : Cx p s m meth c args cc own nL ret 22 g) (Z : Zx wM g (Aw 22 g s.heap.size) s H locs u) (hl : FL s args own idx "AskedCocksModel" "saidStart" "[I") (hdg : decode cc pc = .ok (.getfield idx, 3)) (kk : W p l e R s m args below meth c H locs 0 0 Q (F0 m (pc + 3) ls (.ref (g.2.2 19) :: rest))) : W p l e R s m args below meth c H locs 0 0 Q (F0 m pc ls (.ref (g.2.2 0) :: rest)) :=
  r_get C Z (T := TX8) inlX8 rfl (oM_0 g u) (k := 33) (by decide) hl rfl hdg kk
theorem gM_0_34 (C : Cx p s m meth c args cc own nL ret 22 g) (Z : Zx wM g (Aw 22 g s.heap.size) s H locs u) (hl : FL s args own idx "AskedCocksModel" "saidSpeed" "[I") (hdg : decode cc pc = .ok (.getfield idx, 3)) (kk : W p l e R s m args below meth c H locs 0 0 Q (F0 m (pc + 3) ls (.ref (g.2.2 20) :: rest))) : W p l e R s m args below meth c H locs 0 0 Q (F0 m pc ls (.ref (g.2.2 0) :: rest)) :=
  r_get C Z (T := TX8) inlX8 rfl (oM_0 g u) (k := 34) (by decide) hl rfl hdg kk
theorem gM_0_35 (C : Cx p s m meth c args cc own nL ret 22 g) (Z : Zx wM g (Aw 22 g s.heap.size) s H locs u) (hl : FL s args own idx "AskedCocksModel" "saidSmokes" "I") (hdg : decode cc pc = .ok (.getfield idx, 3)) {x : Int32} (hx : u.1 14 = x) (kk : W p l e R s m args below meth c H locs 0 0 Q (F0 m (pc + 3) ls (.int x :: rest))) : W p l e R s m args below meth c H locs 0 0 Q (F0 m pc ls (.ref (g.2.2 0) :: rest)) :=
  r_get C Z (T := TX8) inlX8 rfl (oM_0 g u) (k := 35) (by decide) hl (v := .int x) (by rw [← hx]; rfl) hdg kk
theorem pM_0_35 (C : Cx p s m meth c args cc own nL ret 22 g) (Z : Zx wM g (Aw 22 g s.heap.size) s H locs u) (hl : FL s args own idx "AskedCocksModel" "saidSmokes" "I") {x : Int32} (hdg : decode cc pc = .ok (.putfield idx, 3)) (kk : ∀ (H : Heap) (locs : List Loc), Zx wM g (Aw 22 g s.heap.size) s H locs (sI u 14 x) → W p l e R s m args below meth c H locs 0 0 Q (F0 m (pc + 3) ls rest)) : W p l e R s m args below meth c H locs 0 0 Q (F0 m pc ls (.int x :: .ref (g.2.2 0) :: rest)) :=
  r_put C wokM Z (T := TX8) inlX8 tyX8 tyX8_ok nmX8 rfl (oM_0 g u) (k := 35) (by decide) hl rfl (ty := .int) (by decide +kernel) rfl rfl (Nat.le_of_ble_eq_true rfl) rfl hdg kk
theorem gM_0_36 (C : Cx p s m meth c args cc own nL ret 22 g) (Z : Zx wM g (Aw 22 g s.heap.size) s H locs u) (hl : FL s args own idx "AskedCocksModel" "saidSmoke" "[I") (hdg : decode cc pc = .ok (.getfield idx, 3)) (kk : W p l e R s m args below meth c H locs 0 0 Q (F0 m (pc + 3) ls (.ref (g.2.2 21) :: rest))) : W p l e R s m args below meth c H locs 0 0 Q (F0 m pc ls (.ref (g.2.2 0) :: rest)) :=
  r_get C Z (T := TX8) inlX8 rfl (oM_0 g u) (k := 36) (by decide) hl rfl hdg kk
theorem aM_1 (g : Gx) (u : St) {f : Nat → Int32} (hf : u.2.1 0 = f) : (wM g u)[1]? = some (g.2.2 1, .inl (g.2.1.1, 5, .inl f)) := hf ▸ rfl
theorem sM_1 (g : Gx) (u : St) (f : Nat → Int32) : (wM g u).set 1 (g.2.2 1, .inl (g.2.1.1, 5, .inl f)) = wM g (sA u 0 f) := rfl
theorem aM_2 (g : Gx) (u : St) {f : Nat → Int32} (hf : u.2.1 1 = f) : (wM g u)[2]? = some (g.2.2 2, .inl (g.2.1.1, 5, .inl f)) := hf ▸ rfl
theorem sM_2 (g : Gx) (u : St) (f : Nat → Int32) : (wM g u).set 2 (g.2.2 2, .inl (g.2.1.1, 5, .inl f)) = wM g (sA u 1 f) := rfl
theorem aM_3 (g : Gx) (u : St) {f : Nat → Int32} (hf : u.2.1 2 = f) : (wM g u)[3]? = some (g.2.2 3, .inl (g.2.1.1, 5, .inl f)) := hf ▸ rfl
theorem sM_3 (g : Gx) (u : St) (f : Nat → Int32) : (wM g u).set 3 (g.2.2 3, .inl (g.2.1.1, 5, .inl f)) = wM g (sA u 2 f) := rfl
theorem aM_4 (g : Gx) (u : St) {f : Nat → Int32} (hf : u.2.1 3 = f) : (wM g u)[4]? = some (g.2.2 4, .inl (g.2.1.1, 5, .inl f)) := hf ▸ rfl
theorem sM_4 (g : Gx) (u : St) (f : Nat → Int32) : (wM g u).set 4 (g.2.2 4, .inl (g.2.1.1, 5, .inl f)) = wM g (sA u 3 f) := rfl
theorem aM_5 (g : Gx) (u : St) {f : Nat → Int32} (hf : u.2.1 4 = f) : (wM g u)[5]? = some (g.2.2 5, .inl (g.2.1.1, 4, .inl f)) := hf ▸ rfl
theorem sM_5 (g : Gx) (u : St) (f : Nat → Int32) : (wM g u).set 5 (g.2.2 5, .inl (g.2.1.1, 4, .inl f)) = wM g (sA u 4 f) := rfl
theorem aM_6 (g : Gx) (u : St) {f : Nat → Int32} (hf : u.2.1 5 = f) : (wM g u)[6]? = some (g.2.2 6, .inl (g.2.1.1, 4, .inl f)) := hf ▸ rfl
theorem sM_6 (g : Gx) (u : St) (f : Nat → Int32) : (wM g u).set 6 (g.2.2 6, .inl (g.2.1.1, 4, .inl f)) = wM g (sA u 5 f) := rfl
theorem aM_7 (g : Gx) (u : St) {f : Nat → Int32} (hf : u.2.1 6 = f) : (wM g u)[7]? = some (g.2.2 7, .inl (g.2.1.1, 12, .inl f)) := hf ▸ rfl
theorem sM_7 (g : Gx) (u : St) (f : Nat → Int32) : (wM g u).set 7 (g.2.2 7, .inl (g.2.1.1, 12, .inl f)) = wM g (sA u 6 f) := rfl
theorem aM_8 (g : Gx) (u : St) {f : Nat → Int32} (hf : u.2.1 7 = f) : (wM g u)[8]? = some (g.2.2 8, .inl (g.2.1.1, 507, .inl f)) := hf ▸ rfl
theorem sM_8 (g : Gx) (u : St) (f : Nat → Int32) : (wM g u).set 8 (g.2.2 8, .inl (g.2.1.1, 507, .inl f)) = wM g (sA u 7 f) := rfl
theorem aM_9 (g : Gx) (u : St) {f : Nat → Int32} (hf : u.2.1 8 = f) : (wM g u)[9]? = some (g.2.2 9, .inl (g.2.1.1, 1014, .inl f)) := hf ▸ rfl
theorem sM_9 (g : Gx) (u : St) (f : Nat → Int32) : (wM g u).set 9 (g.2.2 9, .inl (g.2.1.1, 1014, .inl f)) = wM g (sA u 8 f) := rfl
theorem aM_10 (g : Gx) (u : St) {f : Nat → Int32} (hf : u.2.1 9 = f) : (wM g u)[10]? = some (g.2.2 10, .inl (g.2.1.2.2.2, 2, .inl f)) := hf ▸ rfl
theorem sM_10 (g : Gx) (u : St) (f : Nat → Int32) : (wM g u).set 10 (g.2.2 10, .inl (g.2.1.2.2.2, 2, .inl f)) = wM g (sA u 9 f) := rfl
theorem aM_11 (g : Gx) (u : St) {f : Nat → Int32} (hf : u.2.1 10 = f) : (wM g u)[11]? = some (g.2.2 11, .inl (g.2.1.1, 12, .inl f)) := hf ▸ rfl
theorem sM_11 (g : Gx) (u : St) (f : Nat → Int32) : (wM g u).set 11 (g.2.2 11, .inl (g.2.1.1, 12, .inl f)) = wM g (sA u 10 f) := rfl
theorem aM_12 (g : Gx) (u : St) {f : Nat → Int32} (hf : u.2.1 11 = f) : (wM g u)[12]? = some (g.2.2 12, .inl (g.2.1.1, 12, .inl f)) := hf ▸ rfl
theorem sM_12 (g : Gx) (u : St) (f : Nat → Int32) : (wM g u).set 12 (g.2.2 12, .inl (g.2.1.1, 12, .inl f)) = wM g (sA u 11 f) := rfl
theorem aM_13 (g : Gx) (u : St) {f : Nat → Int32} (hf : u.2.1 12 = f) : (wM g u)[13]? = some (g.2.2 13, .inl (g.2.1.1, 150, .inl f)) := hf ▸ rfl
theorem sM_13 (g : Gx) (u : St) (f : Nat → Int32) : (wM g u).set 13 (g.2.2 13, .inl (g.2.1.1, 150, .inl f)) = wM g (sA u 12 f) := rfl
theorem aM_14 (g : Gx) (u : St) {f : Nat → Int32} (hf : u.2.1 13 = f) : (wM g u)[14]? = some (g.2.2 14, .inl (g.2.1.1, 24, .inl f)) := hf ▸ rfl
theorem sM_14 (g : Gx) (u : St) (f : Nat → Int32) : (wM g u).set 14 (g.2.2 14, .inl (g.2.1.1, 24, .inl f)) = wM g (sA u 13 f) := rfl
theorem aM_15 (g : Gx) (u : St) {f : Nat → Int32} (hf : u.2.1 14 = f) : (wM g u)[15]? = some (g.2.2 15, .inl (g.2.1.1, 5, .inl f)) := hf ▸ rfl
theorem sM_15 (g : Gx) (u : St) (f : Nat → Int32) : (wM g u).set 15 (g.2.2 15, .inl (g.2.1.1, 5, .inl f)) = wM g (sA u 14 f) := rfl
theorem aM_16 (g : Gx) (u : St) {f : Nat → Int32} (hf : u.2.1 15 = f) : (wM g u)[16]? = some (g.2.2 16, .inl (g.2.1.1, 5, .inl f)) := hf ▸ rfl
theorem sM_16 (g : Gx) (u : St) (f : Nat → Int32) : (wM g u).set 16 (g.2.2 16, .inl (g.2.1.1, 5, .inl f)) = wM g (sA u 15 f) := rfl
theorem aM_17 (g : Gx) (u : St) {f : Nat → Int32} (hf : u.2.1 16 = f) : (wM g u)[17]? = some (g.2.2 17, .inl (g.2.1.1, 5, .inl f)) := hf ▸ rfl
theorem sM_17 (g : Gx) (u : St) (f : Nat → Int32) : (wM g u).set 17 (g.2.2 17, .inl (g.2.1.1, 5, .inl f)) = wM g (sA u 16 f) := rfl
theorem aM_18 (g : Gx) (u : St) {f : Nat → Int32} (hf : u.2.1 17 = f) : (wM g u)[18]? = some (g.2.2 18, .inl (g.2.1.1, 5, .inl f)) := hf ▸ rfl
theorem sM_18 (g : Gx) (u : St) (f : Nat → Int32) : (wM g u).set 18 (g.2.2 18, .inl (g.2.1.1, 5, .inl f)) = wM g (sA u 17 f) := rfl
theorem aM_19 (g : Gx) (u : St) {f : Nat → Int32} (hf : u.2.1 18 = f) : (wM g u)[19]? = some (g.2.2 19, .inl (g.2.1.1, 4, .inl f)) := hf ▸ rfl
theorem sM_19 (g : Gx) (u : St) (f : Nat → Int32) : (wM g u).set 19 (g.2.2 19, .inl (g.2.1.1, 4, .inl f)) = wM g (sA u 18 f) := rfl
theorem aM_20 (g : Gx) (u : St) {f : Nat → Int32} (hf : u.2.1 19 = f) : (wM g u)[20]? = some (g.2.2 20, .inl (g.2.1.1, 4, .inl f)) := hf ▸ rfl
theorem sM_20 (g : Gx) (u : St) (f : Nat → Int32) : (wM g u).set 20 (g.2.2 20, .inl (g.2.1.1, 4, .inl f)) = wM g (sA u 19 f) := rfl
theorem aM_21 (g : Gx) (u : St) {f : Nat → Int32} (hf : u.2.1 20 = f) : (wM g u)[21]? = some (g.2.2 21, .inl (g.2.1.1, 12, .inl f)) := hf ▸ rfl
theorem sM_21 (g : Gx) (u : St) (f : Nat → Int32) : (wM g u).set 21 (g.2.2 21, .inl (g.2.1.1, 12, .inl f)) = wM g (sA u 20 f) := rfl
end WORLD
end
section
theorem nw_0 : (.methodLinkNest RX7 9 yX5_init "AskedCocks" : Cond) ∈ nestW := List.mem_of_getElem? (i := 0) rfl
theorem nw_1 : (.methodLinkNest RX7 18 yX4_init "AskedCocks" : Cond) ∈ nestW := List.mem_of_getElem? (i := 1) rfl
theorem nw_2 : (.methodLinkNest RX4 11 yX1_init "AskedCocks" : Cond) ∈ nestW := List.mem_of_getElem? (i := 2) rfl
theorem nw_3 : (.methodLinkNest RX7 25 yX6_init "AskedCocks" : Cond) ∈ nestW := List.mem_of_getElem? (i := 3) rfl
theorem nw_4 : (.methodLinkNest RX6 11 yX1_init "AskedCocks" : Cond) ∈ nestW := List.mem_of_getElem? (i := 4) rfl
theorem nw_5 : (.methodLinkNest RX6 20 yX3_init "AskedCocks" : Cond) ∈ nestW := List.mem_of_getElem? (i := 5) rfl
theorem nw_6 : (.methodLinkNest RX7 32 yX0_init "AskedCocks" : Cond) ∈ nestW := List.mem_of_getElem? (i := 6) rfl
theorem nw_7 : (.methodLinkNest RX7 39 yX2_init "AskedCocks" : Cond) ∈ nestW := List.mem_of_getElem? (i := 7) rfl
theorem nw_8 : (.methodLinkNest RX7 46 yX3_init "AskedCocks" : Cond) ∈ nestW := List.mem_of_getElem? (i := 8) rfl
theorem nw_9 : (.methodLinkNest RX7 55 yX5_append "AskedCocks" : Cond) ∈ nestW := List.mem_of_getElem? (i := 9) rfl
theorem nw_10 : (.methodLinkNest RX7 63 yX5_empty "AskedCocks" : Cond) ∈ nestW := List.mem_of_getElem? (i := 10) rfl
theorem nw_11 : (.methodLinkNest RX7 66 yX4_readAll "AskedCocks" : Cond) ∈ nestW := List.mem_of_getElem? (i := 11) rfl
theorem nw_12 : (.methodLinkNest RX4 22 yX1_empty "AskedCocks" : Cond) ∈ nestW := List.mem_of_getElem? (i := 12) rfl
theorem nw_13 : (.methodLinkNest RX4 25 yX5_rewind "AskedCocks" : Cond) ∈ nestW := List.mem_of_getElem? (i := 13) rfl
theorem nw_14 : (.methodLinkNest RX4 30 yX5_nextToken "AskedCocks" : Cond) ∈ nestW := List.mem_of_getElem? (i := 14) rfl
theorem nw_15 : (.methodLinkNest RX4 83 yX7_isWithin "AskedCocks" : Cond) ∈ nestW := List.mem_of_getElem? (i := 15) rfl
theorem nw_16 : (.methodLinkNest RX4 89 yX1_addCock "AskedCocks" : Cond) ∈ nestW := List.mem_of_getElem? (i := 16) rfl
theorem nw_17 : (.methodLinkNest RX4 93 yX1_addOne "AskedCocks" : Cond) ∈ nestW := List.mem_of_getElem? (i := 17) rfl
theorem nw_18 : (.methodLinkNest RX4 96 yX1_addSmoke "AskedCocks" : Cond) ∈ nestW := List.mem_of_getElem? (i := 18) rfl
theorem nw_19 : (.methodLinkNest RX7 74 yX6_beginWith "AskedCocks" : Cond) ∈ nestW := List.mem_of_getElem? (i := 19) rfl
theorem nw_20 : (.methodLinkNest RX6 25 yX1_becomeAs "AskedCocks" : Cond) ∈ nestW := List.mem_of_getElem? (i := 20) rfl
theorem nw_21 : (.methodLinkNest RX1 48 yX7_copyRows "AskedCocks" : Cond) ∈ nestW := List.mem_of_getElem? (i := 21) rfl
theorem nw_22 : (.methodLinkNest RX6 33 yX3_beginOver "AskedCocks" : Cond) ∈ nestW := List.mem_of_getElem? (i := 22) rfl
theorem nw_23 : (.methodLinkNest RX7 78 yX0_drop "AskedCocks" : Cond) ∈ nestW := List.mem_of_getElem? (i := 23) rfl
theorem nw_24 : (.methodLinkNest RX7 107 yX6_eyeOf "AskedCocks" : Cond) ∈ nestW := List.mem_of_getElem? (i := 24) rfl
theorem nw_25 : (.methodLinkNest RX7 114 yX1_sideOf "AskedCocks" : Cond) ∈ nestW := List.mem_of_getElem? (i := 25) rfl
theorem nw_26 : (.methodLinkNest RX1 52 yX7_sideBy "AskedCocks" : Cond) ∈ nestW := List.mem_of_getElem? (i := 26) rfl
theorem nw_27 : (.methodLinkNest RX7 118 yX3_isAsked "AskedCocks" : Cond) ∈ nestW := List.mem_of_getElem? (i := 27) rfl
theorem nw_28 : (.methodLinkNest RX3 55 yX7_isIn "AskedCocks" : Cond) ∈ nestW := List.mem_of_getElem? (i := 28) rfl
theorem nw_29 : (.methodLinkNest RX7 121 yX3_tellingOf "AskedCocks" : Cond) ∈ nestW := List.mem_of_getElem? (i := 29) rfl
theorem nw_30 : (.methodLinkNest RX7 131 yX1_cellOf "AskedCocks" : Cond) ∈ nestW := List.mem_of_getElem? (i := 30) rfl
theorem nw_31 : (.methodLinkNest RX1 56 yX7_placeBy "AskedCocks" : Cond) ∈ nestW := List.mem_of_getElem? (i := 31) rfl
theorem nw_32 : (.methodLinkNest RX1 59 yX7_isCell "AskedCocks" : Cond) ∈ nestW := List.mem_of_getElem? (i := 32) rfl
theorem nw_33 : (.methodLinkNest RX7 140 yX3_seenByAnyOf "AskedCocks" : Cond) ∈ nestW := List.mem_of_getElem? (i := 33) rfl
theorem nw_34 : (.methodLinkNest RX7 143 yX6_goBy "AskedCocks" : Cond) ∈ nestW := List.mem_of_getElem? (i := 34) rfl
theorem nw_35 : (.methodLinkNest RX6 74 yX3_rememberHour "AskedCocks" : Cond) ∈ nestW := List.mem_of_getElem? (i := 35) rfl
theorem nw_36 : (.methodLinkNest RX6 90 yX1_cellOf "AskedCocks" : Cond) ∈ nestW := List.mem_of_getElem? (i := 36) rfl
theorem nw_37 : (.methodLinkNest RX6 93 yX1_isSmoky "AskedCocks" : Cond) ∈ nestW := List.mem_of_getElem? (i := 37) rfl
theorem nw_38 : (.methodLinkNest RX1 63 yX7_isWithin "AskedCocks" : Cond) ∈ nestW := List.mem_of_getElem? (i := 38) rfl
theorem nw_39 : (.methodLinkNest RX6 66 yX3_isAsked "AskedCocks" : Cond) ∈ nestW := List.mem_of_getElem? (i := 39) rfl
theorem nw_40 : (.methodLinkNest RX6 42 yX1_sideOf "AskedCocks" : Cond) ∈ nestW := List.mem_of_getElem? (i := 40) rfl
theorem nw_41 : (.methodLinkNest RX7 147 yX3_build "AskedCocks" : Cond) ∈ nestW := List.mem_of_getElem? (i := 41) rfl
theorem nw_42 : (.methodLinkNest RX7 151 yX3_amountKnownWith "AskedCocks" : Cond) ∈ nestW := List.mem_of_getElem? (i := 42) rfl
theorem nw_43 : (.methodLinkNest RX7 154 yX3_bringDown "AskedCocks" : Cond) ∈ nestW := List.mem_of_getElem? (i := 43) rfl
theorem nw_44 : (.methodLinkNest RX7 160 yX3_undoLatest "AskedCocks" : Cond) ∈ nestW := List.mem_of_getElem? (i := 44) rfl
theorem nw_45 : (.methodLinkNest RX7 163 yX1_allCocks "AskedCocks" : Cond) ∈ nestW := List.mem_of_getElem? (i := 45) rfl
theorem nw_46 : (.methodLinkNest RX7 167 yX3_amountSeenBy "AskedCocks" : Cond) ∈ nestW := List.mem_of_getElem? (i := 46) rfl
theorem nw_47 : (.methodLinkNest RX7 170 yX6_cover "AskedCocks" : Cond) ∈ nestW := List.mem_of_getElem? (i := 47) rfl
theorem nw_48 : (.methodLinkNest RX6 110 yX1_allCocks "AskedCocks" : Cond) ∈ nestW := List.mem_of_getElem? (i := 48) rfl
theorem nw_49 : (.methodLinkNest RX6 117 yX3_hoursToAsk "AskedCocks" : Cond) ∈ nestW := List.mem_of_getElem? (i := 49) rfl
theorem nw_50 : (.methodLinkNest RX6 123 yX3_amountKnownWith "AskedCocks" : Cond) ∈ nestW := List.mem_of_getElem? (i := 50) rfl
theorem nw_51 : (.methodLinkNest RX7 176 yX6_viewOf "AskedCocks" : Cond) ∈ nestW := List.mem_of_getElem? (i := 51) rfl
theorem nw_52 : (.methodLinkNest RX7 179 yX6_unseenIn "AskedCocks" : Cond) ∈ nestW := List.mem_of_getElem? (i := 52) rfl
theorem nw_53 : (.methodLinkNest RX7 182 yX6_bestToAsk "AskedCocks" : Cond) ∈ nestW := List.mem_of_getElem? (i := 53) rfl
theorem nw_54 : (.methodLinkNest RX7 185 yX6_hoursInView "AskedCocks" : Cond) ∈ nestW := List.mem_of_getElem? (i := 54) rfl
theorem nw_55 : (.methodLinkNest RX7 195 yX0_addFaced "AskedCocks" : Cond) ∈ nestW := List.mem_of_getElem? (i := 55) rfl
theorem nw_56 : (.methodLinkNest RX7 202 yX0_lawCount "AskedCocks" : Cond) ∈ nestW := List.mem_of_getElem? (i := 56) rfl
theorem nw_57 : (.methodLinkNest RX0 31 yX7_sideBy "AskedCocks" : Cond) ∈ nestW := List.mem_of_getElem? (i := 57) rfl
theorem nw_58 : (.methodLinkNest RX7 205 yX0_firstLaw "AskedCocks" : Cond) ∈ nestW := List.mem_of_getElem? (i := 58) rfl
theorem nw_59 : (.methodLinkNest RX7 208 yX0_bestHourToTry "AskedCocks" : Cond) ∈ nestW := List.mem_of_getElem? (i := 59) rfl
theorem nw_60 : (.methodLinkNest RX7 211 yX0_addMet "AskedCocks" : Cond) ∈ nestW := List.mem_of_getElem? (i := 60) rfl
theorem nw_61 : (.methodLinkNest RX7 217 yX0_wayCount "AskedCocks" : Cond) ∈ nestW := List.mem_of_getElem? (i := 61) rfl
theorem nw_62 : (.methodLinkNest RX0 52 yX7_placeBy "AskedCocks" : Cond) ∈ nestW := List.mem_of_getElem? (i := 62) rfl
theorem nw_63 : (.methodLinkNest RX7 220 yX0_bestWay "AskedCocks" : Cond) ∈ nestW := List.mem_of_getElem? (i := 63) rfl
theorem nw_64 : (.methodLinkNest RX7 223 yX0_falsesOf "AskedCocks" : Cond) ∈ nestW := List.mem_of_getElem? (i := 64) rfl
theorem nw_65 : (.methodLinkNest RX7 226 yX2_markAs "AskedCocks" : Cond) ∈ nestW := List.mem_of_getElem? (i := 65) rfl
theorem nw_66 : (.methodLinkNest RX2 35 yX6_eyeOf "AskedCocks" : Cond) ∈ nestW := List.mem_of_getElem? (i := 66) rfl
theorem nw_67 : (.methodLinkNest RX2 47 yX3_tellingOf "AskedCocks" : Cond) ∈ nestW := List.mem_of_getElem? (i := 67) rfl
theorem nw_68 : (.methodLinkNest RX7 230 yX3_becomeAs "AskedCocks" : Cond) ∈ nestW := List.mem_of_getElem? (i := 68) rfl
theorem nw_69 : (.methodLinkNest RX3 51 yX7_copyRows "AskedCocks" : Cond) ∈ nestW := List.mem_of_getElem? (i := 69) rfl
theorem nw_70 : (.fieldLinkNest RX7 59 "AskedCocks$Script" "length" "I" "AskedCocks" : Cond) ∈ nestW := List.mem_of_getElem? (i := 70) rfl
theorem nw_71 : (.fieldLinkNest RX4 38 "AskedCocks$Script" "tokenStart" "I" "AskedCocks" : Cond) ∈ nestW := List.mem_of_getElem? (i := 71) rfl
theorem nw_72 : (.fieldLinkNest RX4 42 "AskedCocks$Script" "tokenValue" "I" "AskedCocks" : Cond) ∈ nestW := List.mem_of_getElem? (i := 72) rfl
theorem nw_73 : (.fieldLinkNest RX6 29 "AskedCocks$Diocese" "roofs" "[I" "AskedCocks" : Cond) ∈ nestW := List.mem_of_getElem? (i := 73) rfl
theorem nw_74 : (.fieldLinkNest RX4 86 "AskedCocks$Diocese" "roofs" "[I" "AskedCocks" : Cond) ∈ nestW := List.mem_of_getElem? (i := 74) rfl
theorem nw_75 : (.fieldLinkNest RX6 38 "AskedCocks$Diocese" "cocks" "[[I" "AskedCocks" : Cond) ∈ nestW := List.mem_of_getElem? (i := 75) rfl
theorem nw_76 : (.fieldLinkNest RX2 58 "AskedCocks$Diocese" "cocks" "[[I" "AskedCocks" : Cond) ∈ nestW := List.mem_of_getElem? (i := 76) rfl
theorem nw_77 : (.fieldLinkNest RX7 101 "AskedCocks$Diocese" "cocks" "[[I" "AskedCocks" : Cond) ∈ nestW := List.mem_of_getElem? (i := 77) rfl
theorem nw_78 : (.fieldLinkNest RX7 128 "AskedCocks$Diocese" "people" "[[I" "AskedCocks" : Cond) ∈ nestW := List.mem_of_getElem? (i := 78) rfl
theorem nw_79 : (.fieldLinkNest RX4 68 "AskedCocks$Diocese" "cockCount" "I" "AskedCocks" : Cond) ∈ nestW := List.mem_of_getElem? (i := 79) rfl
theorem nw_80 : (.fieldLinkNest RX6 62 "AskedCocks$Diocese" "cockCount" "I" "AskedCocks" : Cond) ∈ nestW := List.mem_of_getElem? (i := 80) rfl
theorem nw_81 : (.fieldLinkNest RX7 237 "AskedCocks$Diocese" "cockCount" "I" "AskedCocks" : Cond) ∈ nestW := List.mem_of_getElem? (i := 81) rfl
theorem nw_82 : (.fieldLinkNest RX4 71 "AskedCocks$Diocese" "peopleCount" "I" "AskedCocks" : Cond) ∈ nestW := List.mem_of_getElem? (i := 82) rfl
theorem nw_83 : (.fieldLinkNest RX6 87 "AskedCocks$Diocese" "peopleCount" "I" "AskedCocks" : Cond) ∈ nestW := List.mem_of_getElem? (i := 83) rfl
theorem nw_84 : (.fieldLinkNest RX7 240 "AskedCocks$Diocese" "peopleCount" "I" "AskedCocks" : Cond) ∈ nestW := List.mem_of_getElem? (i := 84) rfl
theorem nw_85 : (.fieldLinkNest RX4 74 "AskedCocks$Diocese" "smokeCount" "I" "AskedCocks" : Cond) ∈ nestW := List.mem_of_getElem? (i := 85) rfl
theorem nw_86 : (.fieldLinkNest RX7 243 "AskedCocks$Diocese" "smokeCount" "I" "AskedCocks" : Cond) ∈ nestW := List.mem_of_getElem? (i := 86) rfl
theorem nw_87 : (.fieldLinkNest RX7 70 "AskedCocks$Reader" "draft" "LAskedCocks$Diocese;" "AskedCocks" : Cond) ∈ nestW := List.mem_of_getElem? (i := 87) rfl
theorem nw_88 : (.fieldLinkNest RX7 111 "AskedCocks$Present" "hour" "I" "AskedCocks" : Cond) ∈ nestW := List.mem_of_getElem? (i := 88) rfl
theorem nw_89 : (.fieldLinkNest RX2 70 "AskedCocks$Present" "hour" "I" "AskedCocks" : Cond) ∈ nestW := List.mem_of_getElem? (i := 89) rfl
theorem nw_90 : (.fieldLinkNest RX6 77 "AskedCocks$Present" "hour" "I" "AskedCocks" : Cond) ∈ nestW := List.mem_of_getElem? (i := 90) rfl
theorem nw_91 : (.fieldLinkNest RX7 137 "AskedCocks$Present" "asked" "I" "AskedCocks" : Cond) ∈ nestW := List.mem_of_getElem? (i := 91) rfl
theorem nw_92 : (.fieldLinkNest RX6 114 "AskedCocks$Present" "asked" "I" "AskedCocks" : Cond) ∈ nestW := List.mem_of_getElem? (i := 92) rfl
theorem nw_93 : (.fieldLinkNest RX6 37 "AskedCocks$Present" "roofs" "[I" "AskedCocks" : Cond) ∈ nestW := List.mem_of_getElem? (i := 93) rfl
theorem nw_94 : (.fieldLinkNest RX7 91 "AskedCocks$Present" "roofs" "[I" "AskedCocks" : Cond) ∈ nestW := List.mem_of_getElem? (i := 94) rfl
theorem nw_95 : (.fieldLinkNest RX7 134 "AskedCocks$Present" "seen" "[[I" "AskedCocks" : Cond) ∈ nestW := List.mem_of_getElem? (i := 95) rfl
theorem nw_96 : (.fieldLinkNest RX6 101 "AskedCocks$Present" "seen" "[[I" "AskedCocks" : Cond) ∈ nestW := List.mem_of_getElem? (i := 96) rfl
theorem nw_97 : (.fieldLinkNest RX7 157 "AskedCocks$Present" "deeds" "I" "AskedCocks" : Cond) ∈ nestW := List.mem_of_getElem? (i := 97) rfl
theorem nw_98 : (.fieldLinkNest RX2 54 "AskedCocks$Watch" "told" "LAskedCocks$Diocese;" "AskedCocks" : Cond) ∈ nestW := List.mem_of_getElem? (i := 98) rfl
theorem nw_99 : (.fieldLinkNest RX7 98 "AskedCocks$Watch" "told" "LAskedCocks$Diocese;" "AskedCocks" : Cond) ∈ nestW := List.mem_of_getElem? (i := 99) rfl
theorem nw_100 : (.fieldLinkNest RX2 43 "AskedCocks$Watch" "present" "LAskedCocks$Present;" "AskedCocks" : Cond) ∈ nestW := List.mem_of_getElem? (i := 100) rfl
theorem nw_101 : (.fieldLinkNest RX7 87 "AskedCocks$Watch" "present" "LAskedCocks$Present;" "AskedCocks" : Cond) ∈ nestW := List.mem_of_getElem? (i := 101) rfl
theorem nw_102 : (.fieldLinkNest RX7 199 "AskedCocks$Clues" "facedCount" "I" "AskedCocks" : Cond) ∈ nestW := List.mem_of_getElem? (i := 102) rfl
theorem nw_103 : (.fieldLinkNest RX7 214 "AskedCocks$Clues" "metCount" "I" "AskedCocks" : Cond) ∈ nestW := List.mem_of_getElem? (i := 103) rfl
theorem nw_104 : (.fieldLinkNest RX7 246 "AskedCocks$Kinds" "trace" "J" "AskedCocks" : Cond) ∈ nestW := List.mem_of_getElem? (i := 104) rfl
theorem mf_J6_bitCount_0f7a4 : MFs yJ6_bitCount_0f7a4 cJ6_bitCount_0f7a4 1 (some .int) 1 := ⟨mw_499, mw_498, mw_111, ⟨by decide +kernel, by decide +kernel⟩, by decide +kernel⟩
theorem mf_X0_addFaced : MFv yX0_addFaced cX0_addFaced 3 (some .boolean) 2 := ⟨mw_687, ⟨mw_686, mw_50⟩, mw_105, ⟨by decide +kernel, by decide +kernel⟩, by decide +kernel⟩
theorem mf_X0_addMet : MFv yX0_addMet cX0_addMet 3 (some .boolean) 2 := ⟨mw_728, ⟨mw_727, mw_56⟩, mw_105, ⟨by decide +kernel, by decide +kernel⟩, by decide +kernel⟩
theorem mf_X0_bestHourToTry : MFv yX0_bestHourToTry cX0_bestHourToTry 5 (some .int) 0 := ⟨mw_716, ⟨mw_715, mw_55⟩, mw_105, ⟨by decide +kernel, by decide +kernel⟩, by decide +kernel⟩
theorem mf_X0_bestWay : MFv yX0_bestWay cX0_bestWay 5 (some .int) 0 := ⟨mw_745, ⟨mw_744, mw_59⟩, mw_105, ⟨by decide +kernel, by decide +kernel⟩, by decide +kernel⟩
theorem mf_X0_drop : MFv yX0_drop cX0_drop 1 none 0 := ⟨mw_451, ⟨mw_450, mw_18⟩, mw_105, ⟨by decide +kernel, by decide +kernel⟩, by decide +kernel⟩
theorem mf_X0_falsesOf : MFv yX0_falsesOf cX0_falsesOf 6 (some .int) 1 := ⟨mw_740, ⟨mw_739, mw_58⟩, mw_105, ⟨by decide +kernel, by decide +kernel⟩, by decide +kernel⟩
theorem mf_X0_firstLaw : MFv yX0_firstLaw cX0_firstLaw 3 (some .int) 0 := ⟨mw_708, ⟨mw_707, mw_54⟩, mw_105, ⟨by decide +kernel, by decide +kernel⟩, by decide +kernel⟩
theorem mf_X0_isLaw : MFv yX0_isLaw cX0_isLaw 4 (some .boolean) 2 := ⟨mw_703, ⟨mw_702, mw_53⟩, mw_105, ⟨by decide +kernel, by decide +kernel⟩, by decide +kernel⟩
theorem mf_X0_lawCount : MFv yX0_lawCount cX0_lawCount 1 (some .int) 0 := ⟨mw_695, ⟨mw_694, mw_51⟩, mw_105, ⟨by decide +kernel, by decide +kernel⟩, by decide +kernel⟩
theorem mf_X0_lawsFacing : MFv yX0_lawsFacing cX0_lawsFacing 6 (some .int) 2 := ⟨mw_699, ⟨mw_698, mw_52⟩, mw_105, ⟨by decide +kernel, by decide +kernel⟩, by decide +kernel⟩
theorem mf_X0_wayCount : MFv yX0_wayCount cX0_wayCount 4 (some .int) 0 := ⟨mw_736, ⟨mw_735, mw_57⟩, mw_105, ⟨by decide +kernel, by decide +kernel⟩, by decide +kernel⟩
theorem mf_X1_addCock : MFv yX1_addCock cX1_addCock 2 none 1 := ⟨mw_415, ⟨mw_414, mw_12⟩, mw_102, ⟨by decide +kernel, by decide +kernel⟩, by decide +kernel⟩
theorem mf_X1_addOne : MFv yX1_addOne cX1_addOne 2 none 1 := ⟨mw_422, ⟨mw_421, mw_13⟩, mw_102, ⟨by decide +kernel, by decide +kernel⟩, by decide +kernel⟩
theorem mf_X1_addSmoke : MFv yX1_addSmoke cX1_addSmoke 2 none 1 := ⟨mw_426, ⟨mw_425, mw_14⟩, mw_102, ⟨by decide +kernel, by decide +kernel⟩, by decide +kernel⟩
theorem mf_X1_allCocks : MFv yX1_allCocks cX1_allCocks 1 (some .int) 0 := ⟨mw_617, ⟨mw_616, mw_42⟩, mw_102, ⟨by decide +kernel, by decide +kernel⟩, by decide +kernel⟩
theorem mf_X1_becomeAs : MFv yX1_becomeAs cX1_becomeAs 2 none 1 := ⟨mw_434, ⟨mw_433, mw_16⟩, mw_102, ⟨by decide +kernel, by decide +kernel⟩, by decide +kernel⟩
theorem mf_X1_cellOf : MFv yX1_cellOf cX1_cellOf 4 (some .int) 2 := ⟨mw_515, ⟨mw_514, mw_27⟩, mw_102, ⟨by decide +kernel, by decide +kernel⟩, by decide +kernel⟩
theorem mf_X1_empty : MFv yX1_empty cX1_empty 1 none 0 := ⟨mw_358, ⟨mw_357, mw_3⟩, mw_102, ⟨by decide +kernel, by decide +kernel⟩, by decide +kernel⟩
theorem mf_X1_isSmoky : MFv yX1_isSmoky cX1_isSmoky 4 (some .boolean) 2 := ⟨mw_558, ⟨mw_557, mw_33⟩, mw_102, ⟨by decide +kernel, by decide +kernel⟩, by decide +kernel⟩
theorem mf_X1_sideOf : MFv yX1_sideOf cX1_sideOf 3 (some .int) 2 := ⟨mw_474, ⟨mw_473, mw_21⟩, mw_102, ⟨by decide +kernel, by decide +kernel⟩, by decide +kernel⟩
theorem mf_X2_markAs : MFv yX2_markAs cX2_markAs 4 (some .int) 3 := ⟨mw_762, ⟨mw_761, mw_60⟩, mw_106, ⟨by decide +kernel, by decide +kernel⟩, by decide +kernel⟩
theorem mf_X2_markAsBarn : MFv yX2_markAsBarn cX2_markAsBarn 3 (some .int) 2 := ⟨mw_787, ⟨mw_786, mw_65⟩, mw_106, ⟨by decide +kernel, by decide +kernel⟩, by decide +kernel⟩
theorem mf_X2_markAsCock : MFv yX2_markAsCock cX2_markAsCock 3 (some .int) 2 := ⟨mw_766, ⟨mw_765, mw_61⟩, mw_106, ⟨by decide +kernel, by decide +kernel⟩, by decide +kernel⟩
theorem mf_X2_markAsDean : MFv yX2_markAsDean cX2_markAsDean 3 (some .int) 2 := ⟨mw_782, ⟨mw_781, mw_64⟩, mw_106, ⟨by decide +kernel, by decide +kernel⟩, by decide +kernel⟩
theorem mf_X2_markAsGold : MFv yX2_markAsGold cX2_markAsGold 3 (some .int) 2 := ⟨mw_771, ⟨mw_770, mw_62⟩, mw_106, ⟨by decide +kernel, by decide +kernel⟩, by decide +kernel⟩
theorem mf_X2_markAsIron : MFv yX2_markAsIron cX2_markAsIron 3 (some .int) 2 := ⟨mw_777, ⟨mw_776, mw_63⟩, mw_106, ⟨by decide +kernel, by decide +kernel⟩, by decide +kernel⟩
theorem mf_X2_markAsZinc : MFv yX2_markAsZinc cX2_markAsZinc 3 (some .int) 2 := ⟨mw_792, ⟨mw_791, mw_66⟩, mw_106, ⟨by decide +kernel, by decide +kernel⟩, by decide +kernel⟩
theorem mf_X3_amountKnownWith : MFv yX3_amountKnownWith cX3_amountKnownWith 2 (some .int) 1 := ⟨mw_593, ⟨mw_592, mw_38⟩, mw_104, ⟨by decide +kernel, by decide +kernel⟩, by decide +kernel⟩
theorem mf_X3_amountSeenBy : MFv yX3_amountSeenBy cX3_amountSeenBy 4 (some .int) 1 := ⟨mw_492, ⟨mw_491, mw_24⟩, mw_104, ⟨by decide +kernel, by decide +kernel⟩, by decide +kernel⟩
theorem mf_X3_becomeAs : MFv yX3_becomeAs cX3_becomeAs 2 none 1 := ⟨mw_802, ⟨mw_801, mw_67⟩, mw_104, ⟨by decide +kernel, by decide +kernel⟩, by decide +kernel⟩
theorem mf_X3_beginOver : MFv yX3_beginOver cX3_beginOver 3 none 1 := ⟨mw_445, ⟨mw_444, mw_17⟩, mw_104, ⟨by decide +kernel, by decide +kernel⟩, by decide +kernel⟩
theorem mf_X3_bringDown : MFv yX3_bringDown cX3_bringDown 2 none 1 := ⟨mw_597, ⟨mw_596, mw_39⟩, mw_104, ⟨by decide +kernel, by decide +kernel⟩, by decide +kernel⟩
theorem mf_X3_build : MFv yX3_build cX3_build 3 none 2 := ⟨mw_585, ⟨mw_584, mw_37⟩, mw_104, ⟨by decide +kernel, by decide +kernel⟩, by decide +kernel⟩
theorem mf_X3_hoursToAsk : MFv yX3_hoursToAsk cX3_hoursToAsk 4 (some .int) 1 := ⟨mw_632, ⟨mw_631, mw_45⟩, mw_104, ⟨by decide +kernel, by decide +kernel⟩, by decide +kernel⟩
theorem mf_X3_isAsked : MFv yX3_isAsked cX3_isAsked 2 (some .boolean) 1 := ⟨mw_481, ⟨mw_480, mw_22⟩, mw_104, ⟨by decide +kernel, by decide +kernel⟩, by decide +kernel⟩
theorem mf_X3_loseOldest : MFv yX3_loseOldest cX3_loseOldest 1 none 0 := ⟨mw_548, ⟨mw_547, mw_31⟩, mw_104, ⟨by decide +kernel, by decide +kernel⟩, by decide +kernel⟩
theorem mf_X3_remember : MFv yX3_remember cX3_remember 4 none 3 := ⟨mw_544, ⟨mw_543, mw_30⟩, mw_104, ⟨by decide +kernel, by decide +kernel⟩, by decide +kernel⟩
theorem mf_X3_rememberHour : MFv yX3_rememberHour cX3_rememberHour 1 none 0 := ⟨mw_540, ⟨mw_539, mw_29⟩, mw_104, ⟨by decide +kernel, by decide +kernel⟩, by decide +kernel⟩
theorem mf_X3_returnTo : MFv yX3_returnTo cX3_returnTo 5 none 1 := ⟨mw_609, ⟨mw_608, mw_41⟩, mw_104, ⟨by decide +kernel, by decide +kernel⟩, by decide +kernel⟩
theorem mf_X3_seenByAnyOf : MFv yX3_seenByAnyOf cX3_seenByAnyOf 5 (some .int) 2 := ⟨mw_496, ⟨mw_495, mw_25⟩, mw_104, ⟨by decide +kernel, by decide +kernel⟩, by decide +kernel⟩
theorem mf_X3_tellingOf : MFv yX3_tellingOf cX3_tellingOf 2 (some .int) 1 := ⟨mw_488, ⟨mw_487, mw_23⟩, mw_104, ⟨by decide +kernel, by decide +kernel⟩, by decide +kernel⟩
theorem mf_X3_undoLatest : MFv yX3_undoLatest cX3_undoLatest 2 none 0 := ⟨mw_605, ⟨mw_604, mw_40⟩, mw_104, ⟨by decide +kernel, by decide +kernel⟩, by decide +kernel⟩
theorem mf_X4_hasRoomFor : MFv yX4_hasRoomFor cX4_hasRoomFor 2 (some .boolean) 1 := ⟨mw_396, ⟨mw_395, mw_9⟩, mw_101, ⟨by decide +kernel, by decide +kernel⟩, by decide +kernel⟩
theorem mf_X4_itemOf : MFs yX4_itemOf cX4_itemOf 2 (some .int) 1 := ⟨mw_390, mw_389, mw_101, ⟨by decide +kernel, by decide +kernel⟩, by decide +kernel⟩
theorem mf_X4_mayBe : MFv yX4_mayBe cX4_mayBe 4 (some .boolean) 3 := ⟨mw_402, ⟨mw_401, mw_10⟩, mw_101, ⟨by decide +kernel, by decide +kernel⟩, by decide +kernel⟩
theorem mf_X4_readAll : MFv yX4_readAll cX4_readAll 4 (some .int) 1 := ⟨mw_354, ⟨mw_353, mw_2⟩, mw_101, ⟨by decide +kernel, by decide +kernel⟩, by decide +kernel⟩
theorem mf_X4_readItem : MFv yX4_readItem cX4_readItem 4 (some .boolean) 1 := ⟨mw_387, ⟨mw_386, mw_8⟩, mw_101, ⟨by decide +kernel, by decide +kernel⟩, by decide +kernel⟩
theorem mf_X4_tell : MFv yX4_tell cX4_tell 2 none 1 := ⟨mw_411, ⟨mw_410, mw_11⟩, mw_101, ⟨by decide +kernel, by decide +kernel⟩, by decide +kernel⟩
theorem mf_X5_append : MFv yX5_append cX5_append 2 (some .boolean) 1 := ⟨mw_338, ⟨mw_337, mw_0⟩, mw_100, ⟨by decide +kernel, by decide +kernel⟩, by decide +kernel⟩
theorem mf_X5_empty : MFv yX5_empty cX5_empty 1 none 0 := ⟨mw_346, ⟨mw_345, mw_1⟩, mw_100, ⟨by decide +kernel, by decide +kernel⟩, by decide +kernel⟩
theorem mf_X5_isDigit : MFs yX5_isDigit cX5_isDigit 1 (some .boolean) 1 := ⟨mw_379, mw_378, mw_100, ⟨by decide +kernel, by decide +kernel⟩, by decide +kernel⟩
theorem mf_X5_isLetter : MFs yX5_isLetter cX5_isLetter 1 (some .boolean) 1 := ⟨mw_372, mw_371, mw_100, ⟨by decide +kernel, by decide +kernel⟩, by decide +kernel⟩
theorem mf_X5_nextToken : MFv yX5_nextToken cX5_nextToken 2 (some .int) 0 := ⟨mw_369, ⟨mw_368, mw_5⟩, mw_100, ⟨by decide +kernel, by decide +kernel⟩, by decide +kernel⟩
theorem mf_X5_readNumber : MFv yX5_readNumber cX5_readNumber 2 (some .int) 0 := ⟨mw_383, ⟨mw_382, mw_7⟩, mw_100, ⟨by decide +kernel, by decide +kernel⟩, by decide +kernel⟩
theorem mf_X5_readWord : MFv yX5_readWord cX5_readWord 2 (some .int) 0 := ⟨mw_376, ⟨mw_375, mw_6⟩, mw_100, ⟨by decide +kernel, by decide +kernel⟩, by decide +kernel⟩
theorem mf_X5_rewind : MFv yX5_rewind cX5_rewind 1 none 0 := ⟨mw_365, ⟨mw_364, mw_4⟩, mw_100, ⟨by decide +kernel, by decide +kernel⟩, by decide +kernel⟩
theorem mf_X6_beginWith : MFv yX6_beginWith cX6_beginWith 2 none 1 := ⟨mw_430, ⟨mw_429, mw_15⟩, mw_103, ⟨by decide +kernel, by decide +kernel⟩, by decide +kernel⟩
theorem mf_X6_bestToAsk : MFv yX6_bestToAsk cX6_bestToAsk 5 (some .int) 1 := ⟨mw_627, ⟨mw_626, mw_44⟩, mw_103, ⟨by decide +kernel, by decide +kernel⟩, by decide +kernel⟩
theorem mf_X6_canSee : MFv yX6_canSee cX6_canSee 6 (some .boolean) 3 := ⟨mw_568, ⟨mw_567, mw_35⟩, mw_103, ⟨by decide +kernel, by decide +kernel⟩, by decide +kernel⟩
theorem mf_X6_cover : MFv yX6_cover cX6_cover 1 (some .int) 0 := ⟨mw_622, ⟨mw_621, mw_43⟩, mw_103, ⟨by decide +kernel, by decide +kernel⟩, by decide +kernel⟩
theorem mf_X6_eyeOf : MFv yX6_eyeOf cX6_eyeOf 2 (some .int) 1 := ⟨mw_470, ⟨mw_469, mw_20⟩, mw_103, ⟨by decide +kernel, by decide +kernel⟩, by decide +kernel⟩
theorem mf_X6_goBy : MFv yX6_goBy cX6_goBy 4 none 1 := ⟨mw_536, ⟨mw_535, mw_28⟩, mw_103, ⟨by decide +kernel, by decide +kernel⟩, by decide +kernel⟩
theorem mf_X6_hoursInView : MFv yX6_hoursInView cX6_hoursInView 7 (some .int) 4 := ⟨mw_673, ⟨mw_672, mw_49⟩, mw_103, ⟨by decide +kernel, by decide +kernel⟩, by decide +kernel⟩
theorem mf_X6_isBetter : MFv yX6_isBetter cX6_isBetter 4 (some .boolean) 2 := ⟨mw_637, ⟨mw_636, mw_46⟩, mw_103, ⟨by decide +kernel, by decide +kernel⟩, by decide +kernel⟩
theorem mf_X6_isLineFree : MFv yX6_isLineFree cX6_isLineFree 9 (some .boolean) 3 := ⟨mw_574, ⟨mw_573, mw_36⟩, mw_103, ⟨by decide +kernel, by decide +kernel⟩, by decide +kernel⟩
theorem mf_X6_seeAllIn : MFv yX6_seeAllIn cX6_seeAllIn 4 none 1 := ⟨mw_553, ⟨mw_552, mw_32⟩, mw_103, ⟨by decide +kernel, by decide +kernel⟩, by decide +kernel⟩
theorem mf_X6_seeOne : MFv yX6_seeOne cX6_seeOne 5 none 3 := ⟨mw_563, ⟨mw_562, mw_34⟩, mw_103, ⟨by decide +kernel, by decide +kernel⟩, by decide +kernel⟩
theorem mf_X6_unseenIn : MFv yX6_unseenIn cX6_unseenIn 4 (some .int) 1 := ⟨mw_658, ⟨mw_657, mw_48⟩, mw_103, ⟨by decide +kernel, by decide +kernel⟩, by decide +kernel⟩
theorem mf_X6_viewOf : MFv yX6_viewOf cX6_viewOf 5 (some .int) 2 := ⟨mw_650, ⟨mw_649, mw_47⟩, mw_103, ⟨by decide +kernel, by decide +kernel⟩, by decide +kernel⟩
theorem mf_X7_asks : MFv yX7_asks cX7_asks 3 (some .int) 1 := ⟨mw_589, ⟨mw_587, mw_588⟩, mw_99, ⟨by decide +kernel, by decide +kernel⟩, by decide +kernel⟩
theorem mf_X7_back : MFv yX7_back cX7_back 2 (some .int) 1 := ⟨mw_807, ⟨mw_805, mw_806⟩, mw_99, ⟨by decide +kernel, by decide +kernel⟩, by decide +kernel⟩
theorem mf_X7_blind : MFv yX7_blind cX7_blind 2 (some .int) 1 := ⟨mw_654, ⟨mw_652, mw_653⟩, mw_99, ⟨by decide +kernel, by decide +kernel⟩, by decide +kernel⟩
theorem mf_X7_builds : MFv yX7_builds cX7_builds 4 (some .int) 2 := ⟨mw_581, ⟨mw_579, mw_580⟩, mw_99, ⟨by decide +kernel, by decide +kernel⟩, by decide +kernel⟩
theorem mf_X7_clear : MFv yX7_clear cX7_clear 2 (some .int) 0 := ⟨mw_342, ⟨mw_340, mw_341⟩, mw_99, ⟨by decide +kernel, by decide +kernel⟩, by decide +kernel⟩
theorem mf_X7_cock : MFv yX7_cock cX7_cock 3 (some .int) 2 := ⟨mw_462, ⟨mw_460, mw_461⟩, mw_99, ⟨by decide +kernel, by decide +kernel⟩, by decide +kernel⟩
theorem mf_X7_copyRows : MFs yX7_copyRows cX7_copyRows 3 none 2 := ⟨mw_437, mw_436, mw_99, ⟨by decide +kernel, by decide +kernel⟩, by decide +kernel⟩
theorem mf_X7_count : MFv yX7_count cX7_count 2 (some .int) 1 := ⟨mw_812, ⟨mw_810, mw_811⟩, mw_99, ⟨by decide +kernel, by decide +kernel⟩, by decide +kernel⟩
theorem mf_X7_diocese : MFv yX7_diocese cX7_diocese 2 (some .int) 0 := ⟨mw_350, ⟨mw_348, mw_349⟩, mw_99, ⟨by decide +kernel, by decide +kernel⟩, by decide +kernel⟩
theorem mf_X7_faced : MFv yX7_faced cX7_faced 3 (some .int) 2 := ⟨mw_683, ⟨mw_681, mw_682⟩, mw_99, ⟨by decide +kernel, by decide +kernel⟩, by decide +kernel⟩
theorem mf_X7_falses : MFv yX7_falses cX7_falses 2 (some .int) 1 := ⟨mw_750, ⟨mw_748, mw_749⟩, mw_99, ⟨by decide +kernel, by decide +kernel⟩, by decide +kernel⟩
theorem mf_X7_forget : MFv yX7_forget cX7_forget 2 (some .int) 0 := ⟨mw_754, ⟨mw_752, mw_753⟩, mw_99, ⟨by decide +kernel, by decide +kernel⟩, by decide +kernel⟩
theorem mf_X7_hours : MFv yX7_hours cX7_hours 2 (some .int) 1 := ⟨mw_532, ⟨mw_530, mw_531⟩, mw_99, ⟨by decide +kernel, by decide +kernel⟩, by decide +kernel⟩
theorem mf_X7_isCell : MFs yX7_isCell cX7_isCell 1 (some .boolean) 1 := ⟨mw_458, mw_457, mw_99, ⟨by decide +kernel, by decide +kernel⟩, by decide +kernel⟩
theorem mf_X7_isCock : MFv yX7_isCock cX7_isCock 2 (some .boolean) 1 := ⟨mw_466, ⟨mw_465, mw_19⟩, mw_99, ⟨by decide +kernel, by decide +kernel⟩, by decide +kernel⟩
theorem mf_X7_isHour : MFs yX7_isHour cX7_isHour 1 (some .boolean) 1 := ⟨mw_646, mw_645, mw_99, ⟨by decide +kernel, by decide +kernel⟩, by decide +kernel⟩
theorem mf_X7_isIn : MFs yX7_isIn cX7_isIn 2 (some .boolean) 2 := ⟨mw_484, mw_483, mw_99, ⟨by decide +kernel, by decide +kernel⟩, by decide +kernel⟩
theorem mf_X7_isOne : MFv yX7_isOne cX7_isOne 2 (some .boolean) 1 := ⟨mw_510, ⟨mw_509, mw_26⟩, mw_99, ⟨by decide +kernel, by decide +kernel⟩, by decide +kernel⟩
theorem mf_X7_isWithin : MFs yX7_isWithin cX7_isWithin 3 (some .boolean) 3 := ⟨mw_334, mw_333, mw_99, ⟨by decide +kernel, by decide +kernel⟩, by decide +kernel⟩
theorem mf_X7_keep : MFv yX7_keep cX7_keep 2 (some .int) 1 := ⟨mw_798, ⟨mw_796, mw_797⟩, mw_99, ⟨by decide +kernel, by decide +kernel⟩, by decide +kernel⟩
theorem mf_X7_known : MFv yX7_known cX7_known 2 (some .int) 1 := ⟨mw_527, ⟨mw_525, mw_526⟩, mw_99, ⟨by decide +kernel, by decide +kernel⟩, by decide +kernel⟩
theorem mf_X7_laws : MFv yX7_laws cX7_laws 2 (some .int) 1 := ⟨mw_691, ⟨mw_689, mw_690⟩, mw_99, ⟨by decide +kernel, by decide +kernel⟩, by decide +kernel⟩
theorem mf_X7_mark : MFv yX7_mark cX7_mark 3 (some .int) 2 := ⟨mw_758, ⟨mw_756, mw_757⟩, mw_99, ⟨by decide +kernel, by decide +kernel⟩, by decide +kernel⟩
theorem mf_X7_met : MFv yX7_met cX7_met 3 (some .int) 2 := ⟨mw_724, ⟨mw_722, mw_723⟩, mw_99, ⟨by decide +kernel, by decide +kernel⟩, by decide +kernel⟩
theorem mf_X7_most : MFv yX7_most cX7_most 4 (some .int) 2 := ⟨mw_664, ⟨mw_662, mw_663⟩, mw_99, ⟨by decide +kernel, by decide +kernel⟩, by decide +kernel⟩
theorem mf_X7_now : MFv yX7_now cX7_now 2 (some .int) 1 := ⟨mw_613, ⟨mw_611, mw_612⟩, mw_99, ⟨by decide +kernel, by decide +kernel⟩, by decide +kernel⟩
theorem mf_X7_odds : MFv yX7_odds cX7_odds 10 (some .int) 6 := ⟨mw_669, ⟨mw_667, mw_668⟩, mw_99, ⟨by decide +kernel, by decide +kernel⟩, by decide +kernel⟩
theorem mf_X7_one : MFv yX7_one cX7_one 3 (some .int) 2 := ⟨mw_506, ⟨mw_504, mw_505⟩, mw_99, ⟨by decide +kernel, by decide +kernel⟩, by decide +kernel⟩
theorem mf_X7_placeBy : MFs yX7_placeBy cX7_placeBy 3 (some .int) 3 := ⟨mw_518, mw_517, mw_99, ⟨by decide +kernel, by decide +kernel⟩, by decide +kernel⟩
theorem mf_X7_power : MFs yX7_power cX7_power 4 (some .int) 2 := ⟨mw_679, mw_678, mw_99, ⟨by decide +kernel, by decide +kernel⟩, by decide +kernel⟩
theorem mf_X7_roof : MFv yX7_roof cX7_roof 2 (some .int) 1 := ⟨mw_455, ⟨mw_453, mw_454⟩, mw_99, ⟨by decide +kernel, by decide +kernel⟩, by decide +kernel⟩
theorem mf_X7_saw : MFv yX7_saw cX7_saw 3 (some .int) 2 := ⟨mw_523, ⟨mw_521, mw_522⟩, mw_99, ⟨by decide +kernel, by decide +kernel⟩, by decide +kernel⟩
theorem mf_X7_sharedWithTen : MFs yX7_sharedWithTen cX7_sharedWithTen 2 (some .int) 1 := ⟨mw_676, mw_675, mw_99, ⟨by decide +kernel, by decide +kernel⟩, by decide +kernel⟩
theorem mf_X7_sideBy : MFs yX7_sideBy cX7_sideBy 4 (some .int) 3 := ⟨mw_477, mw_476, mw_99, ⟨by decide +kernel, by decide +kernel⟩, by decide +kernel⟩
theorem mf_X7_trace : MFv yX7_trace cX7_trace 1 (some .long) 0 := ⟨mw_816, ⟨mw_814, mw_815⟩, mw_99, ⟨by decide +kernel, by decide +kernel⟩, by decide +kernel⟩
theorem mf_X7_tryNext : MFv yX7_tryNext cX7_tryNext 1 (some .int) 0 := ⟨mw_712, ⟨mw_710, mw_711⟩, mw_99, ⟨by decide +kernel, by decide +kernel⟩, by decide +kernel⟩
theorem mf_X7_type : MFv yX7_type cX7_type 2 (some .int) 1 := ⟨mw_331, ⟨mw_329, mw_330⟩, mw_99, ⟨by decide +kernel, by decide +kernel⟩, by decide +kernel⟩
theorem mf_X7_undo : MFv yX7_undo cX7_undo 1 (some .int) 0 := ⟨mw_601, ⟨mw_599, mw_600⟩, mw_99, ⟨by decide +kernel, by decide +kernel⟩, by decide +kernel⟩
theorem mf_X7_view : MFv yX7_view cX7_view 3 (some .int) 2 := ⟨mw_643, ⟨mw_641, mw_642⟩, mw_99, ⟨by decide +kernel, by decide +kernel⟩, by decide +kernel⟩
theorem mf_X7_ways : MFv yX7_ways cX7_ways 2 (some .int) 1 := ⟨mw_732, ⟨mw_730, mw_731⟩, mw_99, ⟨by decide +kernel, by decide +kernel⟩, by decide +kernel⟩
theorem mf_X8_all : MFv yX8_all cX8_all 1 (some .int) 0 := ⟨mw_1109, ⟨mw_1108, mw_92⟩, mw_107, ⟨by decide +kernel, by decide +kernel⟩, by decide +kernel⟩
theorem mf_X8_asks : MFv yX8_asks cX8_asks 3 (some .int) 1 := ⟨mw_1093, ⟨mw_1091, mw_1092⟩, mw_107, ⟨by decide +kernel, by decide +kernel⟩, by decide +kernel⟩
theorem mf_X8_back : MFv yX8_back cX8_back 3 (some .int) 1 := ⟨mw_1204, ⟨mw_1202, mw_1203⟩, mw_107, ⟨by decide +kernel, by decide +kernel⟩, by decide +kernel⟩
theorem mf_X8_bits : MFs yX8_bits cX8_bits 3 (some .int) 1 := ⟨mw_1040, mw_1039, mw_107, ⟨by decide +kernel, by decide +kernel⟩, by decide +kernel⟩
theorem mf_X8_blind : MFv yX8_blind cX8_blind 4 (some .int) 1 := ⟨mw_1131, ⟨mw_1129, mw_1130⟩, mw_107, ⟨by decide +kernel, by decide +kernel⟩, by decide +kernel⟩
theorem mf_X8_builds : MFv yX8_builds cX8_builds 4 (some .int) 2 := ⟨mw_1089, ⟨mw_1087, mw_1088⟩, mw_107, ⟨by decide +kernel, by decide +kernel⟩, by decide +kernel⟩
theorem mf_X8_clear : MFv yX8_clear cX8_clear 2 (some .int) 0 := ⟨mw_946, ⟨mw_944, mw_945⟩, mw_107, ⟨by decide +kernel, by decide +kernel⟩, by decide +kernel⟩
theorem mf_X8_cock : MFv yX8_cock cX8_cock 3 (some .int) 2 := ⟨mw_1011, ⟨mw_1009, mw_1010⟩, mw_107, ⟨by decide +kernel, by decide +kernel⟩, by decide +kernel⟩
theorem mf_X8_count : MFv yX8_count cX8_count 2 (some .int) 1 := ⟨mw_1208, ⟨mw_1206, mw_1207⟩, mw_107, ⟨by decide +kernel, by decide +kernel⟩, by decide +kernel⟩
theorem mf_X8_cover : MFv yX8_cover cX8_cover 4 (some .int) 0 := ⟨mw_1113, ⟨mw_1112, mw_93⟩, mw_107, ⟨by decide +kernel, by decide +kernel⟩, by decide +kernel⟩
theorem mf_X8_diocese : MFv yX8_diocese cX8_diocese 2 (some .int) 0 := ⟨mw_950, ⟨mw_948, mw_949⟩, mw_107, ⟨by decide +kernel, by decide +kernel⟩, by decide +kernel⟩
theorem mf_X8_eye : MFv yX8_eye cX8_eye 2 (some .int) 1 := ⟨mw_1019, ⟨mw_1018, mw_80⟩, mw_107, ⟨by decide +kernel, by decide +kernel⟩, by decide +kernel⟩
theorem mf_X8_faced : MFv yX8_faced cX8_faced 3 (some .int) 2 := ⟨mw_1151, ⟨mw_1149, mw_1150⟩, mw_107, ⟨by decide +kernel, by decide +kernel⟩, by decide +kernel⟩
theorem mf_X8_falses : MFv yX8_falses cX8_falses 4 (some .int) 1 := ⟨mw_1183, ⟨mw_1181, mw_1182⟩, mw_107, ⟨by decide +kernel, by decide +kernel⟩, by decide +kernel⟩
theorem mf_X8_forget : MFv yX8_forget cX8_forget 2 (some .int) 0 := ⟨mw_1187, ⟨mw_1185, mw_1186⟩, mw_107, ⟨by decide +kernel, by decide +kernel⟩, by decide +kernel⟩
theorem mf_X8_has : MFs yX8_has cX8_has 2 (some .boolean) 2 := ⟨mw_1029, mw_1028, mw_107, ⟨by decide +kernel, by decide +kernel⟩, by decide +kernel⟩
theorem mf_X8_hourGoes : MFv yX8_hourGoes cX8_hourGoes 6 none 0 := ⟨mw_1073, ⟨mw_1072, mw_87⟩, mw_107, ⟨by decide +kernel, by decide +kernel⟩, by decide +kernel⟩
theorem mf_X8_hours : MFv yX8_hours cX8_hours 3 (some .int) 1 := ⟨mw_1065, ⟨mw_1063, mw_1064⟩, mw_107, ⟨by decide +kernel, by decide +kernel⟩, by decide +kernel⟩
theorem mf_X8_in : MFs yX8_in cX8_in 3 (some .boolean) 3 := ⟨mw_942, mw_941, mw_107, ⟨by decide +kernel, by decide +kernel⟩, by decide +kernel⟩
theorem mf_X8_isAsked : MFv yX8_isAsked cX8_isAsked 2 (some .boolean) 1 := ⟨mw_1026, ⟨mw_1025, mw_81⟩, mw_107, ⟨by decide +kernel, by decide +kernel⟩, by decide +kernel⟩
theorem mf_X8_isCell : MFs yX8_isCell cX8_isCell 1 (some .boolean) 1 := ⟨mw_1007, mw_1006, mw_107, ⟨by decide +kernel, by decide +kernel⟩, by decide +kernel⟩
theorem mf_X8_isClear : MFv yX8_isClear cX8_isClear 8 (some .boolean) 2 := ⟨mw_1081, ⟨mw_1080, mw_89⟩, mw_107, ⟨by decide +kernel, by decide +kernel⟩, by decide +kernel⟩
theorem mf_X8_isCock : MFv yX8_isCock cX8_isCock 2 (some .boolean) 1 := ⟨mw_1015, ⟨mw_1014, mw_79⟩, mw_107, ⟨by decide +kernel, by decide +kernel⟩, by decide +kernel⟩
theorem mf_X8_isFigure : MFs yX8_isFigure cX8_isFigure 1 (some .boolean) 1 := ⟨mw_961, mw_960, mw_107, ⟨by decide +kernel, by decide +kernel⟩, by decide +kernel⟩
theorem mf_X8_isHour : MFs yX8_isHour cX8_isHour 1 (some .boolean) 1 := ⟨mw_1123, mw_1122, mw_107, ⟨by decide +kernel, by decide +kernel⟩, by decide +kernel⟩
theorem mf_X8_isLaw : MFv yX8_isLaw cX8_isLaw 4 (some .boolean) 1 := ⟨mw_1159, ⟨mw_1158, mw_96⟩, mw_107, ⟨by decide +kernel, by decide +kernel⟩, by decide +kernel⟩
theorem mf_X8_isLess : MFs yX8_isLess cX8_isLess 2 (some .boolean) 2 := ⟨mw_1116, mw_1115, mw_107, ⟨by decide +kernel, by decide +kernel⟩, by decide +kernel⟩
theorem mf_X8_isLetter : MFs yX8_isLetter cX8_isLetter 1 (some .boolean) 1 := ⟨mw_964, mw_963, mw_107, ⟨by decide +kernel, by decide +kernel⟩, by decide +kernel⟩
theorem mf_X8_isOne : MFv yX8_isOne cX8_isOne 2 (some .boolean) 1 := ⟨mw_1048, ⟨mw_1047, mw_84⟩, mw_107, ⟨by decide +kernel, by decide +kernel⟩, by decide +kernel⟩
theorem mf_X8_isSmoke : MFv yX8_isSmoke cX8_isSmoke 5 (some .boolean) 2 := ⟨mw_1085, ⟨mw_1084, mw_90⟩, mw_107, ⟨by decide +kernel, by decide +kernel⟩, by decide +kernel⟩
theorem mf_X8_keep : MFv yX8_keep cX8_keep 3 (some .int) 1 := ⟨mw_1200, ⟨mw_1198, mw_1199⟩, mw_107, ⟨by decide +kernel, by decide +kernel⟩, by decide +kernel⟩
theorem mf_X8_known : MFv yX8_known cX8_known 4 (some .int) 1 := ⟨mw_1061, ⟨mw_1059, mw_1060⟩, mw_107, ⟨by decide +kernel, by decide +kernel⟩, by decide +kernel⟩
theorem mf_X8_knownMuch : MFv yX8_knownMuch cX8_knownMuch 1 (some .int) 0 := ⟨mw_1097, ⟨mw_1096, mw_91⟩, mw_107, ⟨by decide +kernel, by decide +kernel⟩, by decide +kernel⟩
theorem mf_X8_laws : MFv yX8_laws cX8_laws 5 (some .int) 1 := ⟨mw_1155, ⟨mw_1153, mw_1154⟩, mw_107, ⟨by decide +kernel, by decide +kernel⟩, by decide +kernel⟩
theorem mf_X8_letterAt : MFv yX8_letterAt cX8_letterAt 2 (some .int) 1 := ⟨mw_958, ⟨mw_957, mw_69⟩, mw_107, ⟨by decide +kernel, by decide +kernel⟩, by decide +kernel⟩
theorem mf_X8_lowest : MFs yX8_lowest cX8_lowest 6 (some .int) 3 := ⟨mw_1147, mw_1146, mw_107, ⟨by decide +kernel, by decide +kernel⟩, by decide +kernel⟩
theorem mf_X8_mark : MFv yX8_mark cX8_mark 6 (some .int) 2 := ⟨mw_1191, ⟨mw_1189, mw_1190⟩, mw_107, ⟨by decide +kernel, by decide +kernel⟩, by decide +kernel⟩
theorem mf_X8_mayBegin : MFv yX8_mayBegin cX8_mayBegin 2 (some .boolean) 1 := ⟨mw_972, ⟨mw_971, mw_71⟩, mw_107, ⟨by decide +kernel, by decide +kernel⟩, by decide +kernel⟩
theorem mf_X8_met : MFv yX8_met cX8_met 3 (some .int) 2 := ⟨mw_1168, ⟨mw_1166, mw_1167⟩, mw_107, ⟨by decide +kernel, by decide +kernel⟩, by decide +kernel⟩
theorem mf_X8_most : MFv yX8_most cX8_most 8 (some .int) 2 := ⟨mw_1136, ⟨mw_1134, mw_1135⟩, mw_107, ⟨by decide +kernel, by decide +kernel⟩, by decide +kernel⟩
theorem mf_X8_next : MFv yX8_next cX8_next 2 none 0 := ⟨mw_954, ⟨mw_953, mw_68⟩, mw_107, ⟨by decide +kernel, by decide +kernel⟩, by decide +kernel⟩
theorem mf_X8_now : MFv yX8_now cX8_now 2 (some .int) 1 := ⟨mw_1105, ⟨mw_1103, mw_1104⟩, mw_107, ⟨by decide +kernel, by decide +kernel⟩, by decide +kernel⟩
theorem mf_X8_odds : MFv yX8_odds cX8_odds 11 (some .int) 6 := ⟨mw_1144, ⟨mw_1142, mw_1143⟩, mw_107, ⟨by decide +kernel, by decide +kernel⟩, by decide +kernel⟩
theorem mf_X8_one : MFv yX8_one cX8_one 3 (some .int) 2 := ⟨mw_1044, ⟨mw_1042, mw_1043⟩, mw_107, ⟨by decide +kernel, by decide +kernel⟩, by decide +kernel⟩
theorem mf_X8_readBody : MFv yX8_readBody cX8_readBody 2 none 1 := ⟨mw_976, ⟨mw_975, mw_72⟩, mw_107, ⟨by decide +kernel, by decide +kernel⟩, by decide +kernel⟩
theorem mf_X8_readCock : MFv yX8_readCock cX8_readCock 1 none 0 := ⟨mw_988, ⟨mw_987, mw_75⟩, mw_107, ⟨by decide +kernel, by decide +kernel⟩, by decide +kernel⟩
theorem mf_X8_readItem : MFv yX8_readItem cX8_readItem 2 none 0 := ⟨mw_968, ⟨mw_967, mw_70⟩, mw_107, ⟨by decide +kernel, by decide +kernel⟩, by decide +kernel⟩
theorem mf_X8_readOne : MFv yX8_readOne cX8_readOne 1 none 0 := ⟨mw_992, ⟨mw_991, mw_76⟩, mw_107, ⟨by decide +kernel, by decide +kernel⟩, by decide +kernel⟩
theorem mf_X8_readRoof : MFv yX8_readRoof cX8_readRoof 2 none 0 := ⟨mw_980, ⟨mw_979, mw_73⟩, mw_107, ⟨by decide +kernel, by decide +kernel⟩, by decide +kernel⟩
theorem mf_X8_readSmoke : MFv yX8_readSmoke cX8_readSmoke 2 none 0 := ⟨mw_996, ⟨mw_995, mw_77⟩, mw_107, ⟨by decide +kernel, by decide +kernel⟩, by decide +kernel⟩
theorem mf_X8_remembers : MFv yX8_remembers cX8_remembers 3 none 0 := ⟨mw_1069, ⟨mw_1068, mw_86⟩, mw_107, ⟨by decide +kernel, by decide +kernel⟩, by decide +kernel⟩
theorem mf_X8_roof : MFv yX8_roof cX8_roof 2 (some .int) 1 := ⟨mw_1004, ⟨mw_1002, mw_1003⟩, mw_107, ⟨by decide +kernel, by decide +kernel⟩, by decide +kernel⟩
theorem mf_X8_saw : MFv yX8_saw cX8_saw 3 (some .int) 2 := ⟨mw_1057, ⟨mw_1055, mw_1056⟩, mw_107, ⟨by decide +kernel, by decide +kernel⟩, by decide +kernel⟩
theorem mf_X8_sawBy : MFv yX8_sawBy cX8_sawBy 6 (some .int) 1 := ⟨mw_1033, ⟨mw_1032, mw_82⟩, mw_107, ⟨by decide +kernel, by decide +kernel⟩, by decide +kernel⟩
theorem mf_X8_sawOf : MFv yX8_sawOf cX8_sawOf 3 (some .int) 2 := ⟨mw_1037, ⟨mw_1036, mw_83⟩, mw_107, ⟨by decide +kernel, by decide +kernel⟩, by decide +kernel⟩
theorem mf_X8_sees : MFv yX8_sees cX8_sees 5 (some .boolean) 3 := ⟨mw_1077, ⟨mw_1076, mw_88⟩, mw_107, ⟨by decide +kernel, by decide +kernel⟩, by decide +kernel⟩
theorem mf_X8_settles : MFv yX8_settles cX8_settles 2 none 0 := ⟨mw_1000, ⟨mw_999, mw_78⟩, mw_107, ⟨by decide +kernel, by decide +kernel⟩, by decide +kernel⟩
theorem mf_X8_sideBy : MFs yX8_sideBy cX8_sideBy 3 (some .int) 3 := ⟨mw_1022, mw_1021, mw_107, ⟨by decide +kernel, by decide +kernel⟩, by decide +kernel⟩
theorem mf_X8_takes : MFv yX8_takes cX8_takes 4 (some .int) 1 := ⟨mw_1140, ⟨mw_1139, mw_95⟩, mw_107, ⟨by decide +kernel, by decide +kernel⟩, by decide +kernel⟩
theorem mf_X8_takesNumber : MFv yX8_takesNumber cX8_takesNumber 5 (some .int) 2 := ⟨mw_984, ⟨mw_983, mw_74⟩, mw_107, ⟨by decide +kernel, by decide +kernel⟩, by decide +kernel⟩
theorem mf_X8_told : MFs yX8_told cX8_told 1 (some .int) 1 := ⟨mw_1179, mw_1178, mw_107, ⟨by decide +kernel, by decide +kernel⟩, by decide +kernel⟩
theorem mf_X8_trace : MFv yX8_trace cX8_trace 1 (some .long) 0 := ⟨mw_1212, ⟨mw_1210, mw_1211⟩, mw_107, ⟨by decide +kernel, by decide +kernel⟩, by decide +kernel⟩
theorem mf_X8_tryNext : MFv yX8_tryNext cX8_tryNext 7 (some .int) 0 := ⟨mw_1163, ⟨mw_1161, mw_1162⟩, mw_107, ⟨by decide +kernel, by decide +kernel⟩, by decide +kernel⟩
theorem mf_X8_type : MFv yX8_type cX8_type 2 (some .int) 1 := ⟨mw_939, ⟨mw_937, mw_938⟩, mw_107, ⟨by decide +kernel, by decide +kernel⟩, by decide +kernel⟩
theorem mf_X8_undo : MFv yX8_undo cX8_undo 3 (some .int) 0 := ⟨mw_1101, ⟨mw_1099, mw_1100⟩, mw_107, ⟨by decide +kernel, by decide +kernel⟩, by decide +kernel⟩
theorem mf_X8_view : MFv yX8_view cX8_view 3 (some .int) 2 := ⟨mw_1120, ⟨mw_1118, mw_1119⟩, mw_107, ⟨by decide +kernel, by decide +kernel⟩, by decide +kernel⟩
theorem mf_X8_viewOf : MFv yX8_viewOf cX8_viewOf 5 (some .int) 2 := ⟨mw_1127, ⟨mw_1126, mw_94⟩, mw_107, ⟨by decide +kernel, by decide +kernel⟩, by decide +kernel⟩
theorem mf_X8_walks : MFv yX8_walks cX8_walks 4 (some .int) 2 := ⟨mw_1053, ⟨mw_1052, mw_85⟩, mw_107, ⟨by decide +kernel, by decide +kernel⟩, by decide +kernel⟩
theorem mf_X8_ways : MFv yX8_ways cX8_ways 5 (some .int) 1 := ⟨mw_1172, ⟨mw_1170, mw_1171⟩, mw_107, ⟨by decide +kernel, by decide +kernel⟩, by decide +kernel⟩
theorem mf_X8_wrong : MFv yX8_wrong cX8_wrong 4 (some .int) 1 := ⟨mw_1176, ⟨mw_1175, mw_97⟩, mw_107, ⟨by decide +kernel, by decide +kernel⟩, by decide +kernel⟩
theorem mf_J7_fill_53178 : MFs yJ7_fill_53178 cJ7_fill_53178 4 none 2 := ⟨mw_361, mw_360, mw_108, ⟨by decide +kernel, by decide +kernel⟩, by decide +kernel⟩
def FU : Nat := 2000
theorem arrV_congr {c : ClassId} {N : Nat} {F F' : Nat → Value} (h : ∀ j, j < N → F j = F' j) : arrV c N F = arrV c N F' := by
  unfold arrV
  congr 1
  first | (congr 1; funext j; exact h j.1 j.2) | (apply Array.ext <;> simp; intro i hi; exact h i hi)
theorem oob_nI {i N : Nat} (h : i < N) (hN : N < 2 ^ 31) : ¬ oob (nI i) N = true := fun q => vp_in_nI h hN (of_decide_eq_true q)
theorem va_P_row {w : Gx → St → va_W} {g : Gx} {u : St} {q j N a : Nat} (hs : ∀ (u : St) (f : Nat → Int32), (w g u).set q (a, .inl (g.2.1.1, N, .inl f)) = w g (sA u j f)) {f f' : Nat → Int32} (h : ∀ k, k < N → f k = f' k) {H : Heap} (hP : va_P g.1 vwCl (w g (sA u j f)) H) : va_P g.1 vwCl (w g (sA u j f')) H := by
  rw [← hs] at hP ⊢
  intro k e hk
  rw [List.getElem?_set] at hk
  have hk2 := hP k
  rw [List.getElem?_set] at hk2
  by_cases hq : q = k
  · rw [if_pos hq] at hk hk2
    by_cases hl : q < (w g u).length
    · rw [if_pos hl] at hk hk2
      cases hk
      have h3 := hk2 _ rfl
      have h4 : H[a]? = some (vp_cell g.2.1.1 (N, .inl f)) := h3
      have h5 : vp_cell g.2.1.1 (N, .inl f) = vp_cell g.2.1.1 (N, .inl f') := arrV_congr (fun j hj => by rw [h j hj])
      show H[a]? = some (vp_cell g.2.1.1 (N, .inl f'))
      rw [← h5]; exact h4
    · rw [if_neg hl] at hk
      cases hk
  · rw [if_neg hq] at hk hk2
    exact hk2 _ hk
theorem sA_sA (u : St) (j : Nat) (f f' : Nat → Int32) : sA (sA u j f) j f' = sA u j f' := by
  unfold sA
  congr 2
  funext k
  simp only [va_up]
  split <;> rfl
theorem sA_self (u : St) (j : Nat) : sA u j (u.2.1 j) = u := by
  obtain ⟨a, b, c⟩ := u
  unfold sA
  congr 2
  funext k
  simp only [va_up]
  split
  · rename_i h; rw [h]
  · rfl
def fillTo (f : Nat → Int32) (x : Int32) (i : Nat) : Nat → Int32 := fun k => if k < i then x else f k
theorem fillTo_0 (f : Nat → Int32) (x : Int32) : fillTo f x 0 = f := by funext k; simp [fillTo]
theorem fillTo_s (f : Nat → Int32) (x : Int32) (i : Nat) : upd (fillTo f x i) i x = fillTo f x (i + 1) := by
  funext k
  simp only [upd, fillTo]
  by_cases h : k = i
  · rw [if_pos h, if_pos (by omega)]
  · rw [if_neg h]
    by_cases h2 : k < i
    · rw [if_pos h2, if_pos (by omega)]
    · rw [if_neg h2, if_neg (by omega)]
set_option maxHeartbeats 4000000 in
set_option maxRecDepth 100000 in
/-- Arrays.fill over one of our rows -/
theorem c_fill (l : Launch) {g : Gx} {u : St} {q j N a : Nat} (ha : ∀ u : St, (wC g u)[q]? = some (a, .inl (g.2.1.1, N, .inl (u.2.1 j)))) (hs : ∀ (u : St) (f : Nat → Int32), (wC g u).set q (a, .inl (g.2.1.1, N, .inl f)) = wC g (sA u j f)) (hN : N < 2 ^ 31) (x : Int32) : CV wC 82 l yJ7_fill_53178 (wsY yJ7_fill_53178 cJ7_fill_53178 4 (none)) (rmX 0 0) g [.ref a, .int x] u (sA u j (fun _ => x)) := by
  refine CV_start (by decide +kernel) rfl (Nat.le_of_ble_eq_true rfl) (fun {p e s m args below meth c ls} C Z hl => ?_)
  have hl : lv_has ls 4 [(0, .ref a), (1, .int x)] := hl
  have hx := C.1
  have hb := C.2.1
  refine lv_iconst (v := 0) hx hb dJ7_fill_53178_0 (by decide +kernel) ?_
  refine lv_istore_n (lv' := [(2, .int 0), (0, .ref a), (1, .int x)]) hx hb dJ7_fill_53178_1 rfl hl (by decide) rfl (fun ls hl => ?_)
  refine lv_aload_n hx hb dJ7_fill_53178_2 rfl (lv_at hl 1 rfl) ?_
  refine r_len C Z (ha u) (t := 0) rfl (v := Int32.ofNat N) rfl dJ7_fill_53178_3 ?_
  refine lv_istore_n (lv' := [(3, .int (Int32.ofNat N)), (2, .int 0), (0, .ref a), (1, .int x)]) hx hb dJ7_fill_53178_4 rfl hl (by decide) rfl (fun ls hl => ?_)
  have key : ∀ (k i : Nat) (H : Heap) (locs : List Loc) (ls : Array Slot), i + k = N → Zx wC g (Aw 82 g s.heap.size) s H locs (sA u j (fillTo (u.2.1 j) x i)) → lv_has ls 4 [(3, .int (nI N)), (2, .int (nI i)), (0, .ref a), (1, .int x)] → W p l e (rmX 0 0) s m args below meth c H locs 0 0 (QV wC 82 g (sA u j (fun _ => x)) below args s) (F0 m 5 ls []) := by
    intro k
    induction k with
    | zero =>
      intro i H locs ls hi Z hl
      have hiN : i = N := by omega
      subst hiN
      refine lv_iload_n hx hb dJ7_fill_53178_5 rfl (lv_at hl 1 rfl) ?_
      refine lv_iload_n hx hb dJ7_fill_53178_6 rfl (lv_at hl 0 rfl) ?_
      refine lv_icmp_ge (tgt := 20) hx hb dJ7_fill_53178_7 (by decide) (fun _ => ?_) (fun hq => absurd (Int32.le_refl _) hq)
      exact ret_v C ⟨va_P_row hs (fun k hk => by simp [fillTo, hk]) Z.1, Z.2⟩ dJ7_fill_53178_20
    | succ k ih =>
      intro i H locs ls hi Z hl
      refine lv_iload_n hx hb dJ7_fill_53178_5 rfl (lv_at hl 1 rfl) ?_
      refine lv_iload_n hx hb dJ7_fill_53178_6 rfl (lv_at hl 0 rfl) ?_
      refine lv_icmp_ge (tgt := 20) hx hb dJ7_fill_53178_7 (by decide) (fun hq => absurd hq (nI_ge (by omega) hN)) (fun _ => ?_)
      refine lv_aload_n hx hb dJ7_fill_53178_10 rfl (lv_at hl 2 rfl) ?_
      refine lv_iload_n hx hb dJ7_fill_53178_11 rfl (lv_at hl 1 rfl) ?_
      refine lv_iload_n hx hb dJ7_fill_53178_12 rfl (lv_at hl 3 rfl) ?_
      refine r_ast C wokC Z (ha _) (oob_nI (by omega) hN) (nI_clamp (by omega)) (hs _ _) dJ7_fill_53178_13 (fun H locs Z => ?_)
      have e1 : (sA u j (fillTo (u.2.1 j) x i)).2.1 j = fillTo (u.2.1 j) x i := by simp [sA, va_up]
      rw [e1, fillTo_s, sA_sA] at Z
      refine lv_iinc (v := nI (i + 1)) (lv' := [(2, .int (nI (i + 1))), (3, .int (nI N)), (0, .ref a), (1, .int x)]) hx hb dJ7_fill_53178_14 hl (k := 1) rfl (by rw [nI_succ]; rfl) (by decide) rfl (fun ls hl => ?_)
      refine lv_goto (tgt := 5) hx hb dJ7_fill_53178_17 (by decide) ?_
      exact ih (i + 1) H locs ls (by omega) Z (lv_sub hl [1, 0, 2, 3] rfl)
  exact key N 0 _ _ ls (by omega) (by rw [fillTo_0, sA_self]; exact Z) hl
end
