section
-- ===== PART A: goes FIRST, ahead of the names: the tables' words, and 'selects' of the private methods out of them =====
/-- a private method of a class that the tables say can be made, by its rows of tables_1 -/
def lw_okq (q : MethodName × Nat) : Prop := (q.1.cls ≠ "java/lang/invoke/MethodHandle" ∧ q.1.cls ≠ "java/lang/invoke/VarHandle") ∧ Cond.instantiable q.1.cls q.2 ∈ tables_1 ∧ Cond.privateMethod q.1 ∈ tables_1 ∧ Cond.instanceMethod q.1 ∈ tables_1
theorem lw_p0 : lw_okq (⟨"ConditionText$Runner", "forget", "()V"⟩, 12) := ⟨⟨by decide +kernel, by decide +kernel⟩, List.mem_of_getElem? (i := 52) (by decide +kernel), List.mem_of_getElem? (i := 83) (by decide +kernel), List.mem_of_getElem? (i := 84) (by decide +kernel)⟩
theorem lw_p1 : lw_okq (⟨"ConditionText$Reader", "leaveRowsThatEnded", "()V"⟩, 6) := ⟨⟨by decide +kernel, by decide +kernel⟩, List.mem_of_getElem? (i := 58) (by decide +kernel), List.mem_of_getElem? (i := 220) (by decide +kernel), List.mem_of_getElem? (i := 221) (by decide +kernel)⟩
theorem lw_p2 : lw_okq (⟨"ConditionText$Runner", "goThrough", "(I)V"⟩, 12) := ⟨⟨by decide +kernel, by decide +kernel⟩, List.mem_of_getElem? (i := 52) (by decide +kernel), List.mem_of_getElem? (i := 229) (by decide +kernel), List.mem_of_getElem? (i := 230) (by decide +kernel)⟩
theorem lw_p3 : lw_okq (⟨"ConditionText$Runner", "fail", "(I)V"⟩, 12) := ⟨⟨by decide +kernel, by decide +kernel⟩, List.mem_of_getElem? (i := 52) (by decide +kernel), List.mem_of_getElem? (i := 233) (by decide +kernel), List.mem_of_getElem? (i := 234) (by decide +kernel)⟩
theorem lw_p4 : lw_okq (⟨"ConditionText$Runner", "takeIn", "(II)Z"⟩, 12) := ⟨⟨by decide +kernel, by decide +kernel⟩, List.mem_of_getElem? (i := 52) (by decide +kernel), List.mem_of_getElem? (i := 237) (by decide +kernel), List.mem_of_getElem? (i := 238) (by decide +kernel)⟩
theorem lw_p5 : lw_okq (⟨"ConditionText$Runner", "open", "(I)V"⟩, 12) := ⟨⟨by decide +kernel, by decide +kernel⟩, List.mem_of_getElem? (i := 52) (by decide +kernel), List.mem_of_getElem? (i := 254) (by decide +kernel), List.mem_of_getElem? (i := 255) (by decide +kernel)⟩
theorem lw_p6 : lw_okq (⟨"ConditionText$Runner", "ask", "(II)I"⟩, 12) := ⟨⟨by decide +kernel, by decide +kernel⟩, List.mem_of_getElem? (i := 52) (by decide +kernel), List.mem_of_getElem? (i := 261) (by decide +kernel), List.mem_of_getElem? (i := 262) (by decide +kernel)⟩
theorem lw_p7 : lw_okq (⟨"ConditionText$Runner", "compareSigns", "(ZI)I"⟩, 12) := ⟨⟨by decide +kernel, by decide +kernel⟩, List.mem_of_getElem? (i := 52) (by decide +kernel), List.mem_of_getElem? (i := 265) (by decide +kernel), List.mem_of_getElem? (i := 266) (by decide +kernel)⟩
theorem lw_p8 : lw_okq (⟨"ConditionText$Runner", "readSign", "(I)I"⟩, 12) := ⟨⟨by decide +kernel, by decide +kernel⟩, List.mem_of_getElem? (i := 52) (by decide +kernel), List.mem_of_getElem? (i := 269) (by decide +kernel), List.mem_of_getElem? (i := 270) (by decide +kernel)⟩
theorem lw_p9 : lw_okq (⟨"ConditionText$Runner", "readGoneOnWith", "(I)I"⟩, 12) := ⟨⟨by decide +kernel, by decide +kernel⟩, List.mem_of_getElem? (i := 52) (by decide +kernel), List.mem_of_getElem? (i := 273) (by decide +kernel), List.mem_of_getElem? (i := 274) (by decide +kernel)⟩
theorem lw_p10 : lw_okq (⟨"ConditionText$Runner", "lookForMore", "()I"⟩, 12) := ⟨⟨by decide +kernel, by decide +kernel⟩, List.mem_of_getElem? (i := 52) (by decide +kernel), List.mem_of_getElem? (i := 277) (by decide +kernel), List.mem_of_getElem? (i := 278) (by decide +kernel)⟩
theorem lw_p11 : lw_okq (⟨"ConditionText$Runner", "compareMeanings", "()I"⟩, 12) := ⟨⟨by decide +kernel, by decide +kernel⟩, List.mem_of_getElem? (i := 52) (by decide +kernel), List.mem_of_getElem? (i := 294) (by decide +kernel), List.mem_of_getElem? (i := 295) (by decide +kernel)⟩
theorem lw_p12 : lw_okq (⟨"ConditionText$Book", "haveTheSameTokens", "(II)Z"⟩, 7) := ⟨⟨by decide +kernel, by decide +kernel⟩, List.mem_of_getElem? (i := 17) (by decide +kernel), List.mem_of_getElem? (i := 303) (by decide +kernel), List.mem_of_getElem? (i := 304) (by decide +kernel)⟩
theorem lw_p13 : lw_okq (⟨"ConditionText$Runner", "compareNumbers", "(I)I"⟩, 12) := ⟨⟨by decide +kernel, by decide +kernel⟩, List.mem_of_getElem? (i := 52) (by decide +kernel), List.mem_of_getElem? (i := 308) (by decide +kernel), List.mem_of_getElem? (i := 309) (by decide +kernel)⟩
theorem lw_p14 : lw_okq (⟨"ConditionText$Runner", "readNumber", "(I)I"⟩, 12) := ⟨⟨by decide +kernel, by decide +kernel⟩, List.mem_of_getElem? (i := 52) (by decide +kernel), List.mem_of_getElem? (i := 312) (by decide +kernel), List.mem_of_getElem? (i := 313) (by decide +kernel)⟩
theorem lw_p15 : lw_okq (⟨"ConditionText$Runner", "readDigits", "(II)I"⟩, 12) := ⟨⟨by decide +kernel, by decide +kernel⟩, List.mem_of_getElem? (i := 52) (by decide +kernel), List.mem_of_getElem? (i := 319) (by decide +kernel), List.mem_of_getElem? (i := 320) (by decide +kernel)⟩
def lw_privs_1 : List (MethodName × Nat) := [(⟨"ConditionText$Runner", "forget", "()V"⟩, 12), (⟨"ConditionText$Reader", "leaveRowsThatEnded", "()V"⟩, 6), (⟨"ConditionText$Runner", "goThrough", "(I)V"⟩, 12), (⟨"ConditionText$Runner", "fail", "(I)V"⟩, 12), (⟨"ConditionText$Runner", "takeIn", "(II)Z"⟩, 12), (⟨"ConditionText$Runner", "open", "(I)V"⟩, 12), (⟨"ConditionText$Runner", "ask", "(II)I"⟩, 12), (⟨"ConditionText$Runner", "compareSigns", "(ZI)I"⟩, 12), (⟨"ConditionText$Runner", "readSign", "(I)I"⟩, 12), (⟨"ConditionText$Runner", "readGoneOnWith", "(I)I"⟩, 12), (⟨"ConditionText$Runner", "lookForMore", "()I"⟩, 12), (⟨"ConditionText$Runner", "compareMeanings", "()I"⟩, 12), (⟨"ConditionText$Book", "haveTheSameTokens", "(II)Z"⟩, 7), (⟨"ConditionText$Runner", "compareNumbers", "(I)I"⟩, 12), (⟨"ConditionText$Runner", "readNumber", "(I)I"⟩, 12), (⟨"ConditionText$Runner", "readDigits", "(II)I"⟩, 12)]
theorem lw_r1 : ∀ q ∈ lw_privs_1, lw_okq q := List.forall_mem_cons.mpr ⟨lw_p0, List.forall_mem_cons.mpr ⟨lw_p1, List.forall_mem_cons.mpr ⟨lw_p2, List.forall_mem_cons.mpr ⟨lw_p3, List.forall_mem_cons.mpr ⟨lw_p4, List.forall_mem_cons.mpr ⟨lw_p5, List.forall_mem_cons.mpr ⟨lw_p6, List.forall_mem_cons.mpr ⟨lw_p7, List.forall_mem_cons.mpr ⟨lw_p8, List.forall_mem_cons.mpr ⟨lw_p9, List.forall_mem_cons.mpr ⟨lw_p10, List.forall_mem_cons.mpr ⟨lw_p11, List.forall_mem_cons.mpr ⟨lw_p12, List.forall_mem_cons.mpr ⟨lw_p13, List.forall_mem_cons.mpr ⟨lw_p14, List.forall_mem_cons.mpr ⟨lw_p15, fun _ h => absurd h List.not_mem_nil⟩⟩⟩⟩⟩⟩⟩⟩⟩⟩⟩⟩⟩⟩⟩⟩
theorem lw_p16 : lw_okq (⟨"ConditionText$Runner", "askWhetherKnown", "()I"⟩, 12) := ⟨⟨by decide +kernel, by decide +kernel⟩, List.mem_of_getElem? (i := 52) (by decide +kernel), List.mem_of_getElem? (i := 333) (by decide +kernel), List.mem_of_getElem? (i := 334) (by decide +kernel)⟩
theorem lw_p17 : lw_okq (⟨"ConditionText$Runner", "askWhetherOn", "([ZI)I"⟩, 12) := ⟨⟨by decide +kernel, by decide +kernel⟩, List.mem_of_getElem? (i := 52) (by decide +kernel), List.mem_of_getElem? (i := 337) (by decide +kernel), List.mem_of_getElem? (i := 338) (by decide +kernel)⟩
theorem lw_p18 : lw_okq (⟨"ConditionText$Runner", "decide", "(III)V"⟩, 12) := ⟨⟨by decide +kernel, by decide +kernel⟩, List.mem_of_getElem? (i := 52) (by decide +kernel), List.mem_of_getElem? (i := 341) (by decide +kernel), List.mem_of_getElem? (i := 342) (by decide +kernel)⟩
theorem lw_p19 : lw_okq (⟨"ConditionText$Runner", "skip", "(IZ)V"⟩, 12) := ⟨⟨by decide +kernel, by decide +kernel⟩, List.mem_of_getElem? (i := 52) (by decide +kernel), List.mem_of_getElem? (i := 345) (by decide +kernel), List.mem_of_getElem? (i := 346) (by decide +kernel)⟩
theorem lw_p20 : lw_okq (⟨"ConditionText$Runner", "isInPlace", "(I)Z"⟩, 12) := ⟨⟨by decide +kernel, by decide +kernel⟩, List.mem_of_getElem? (i := 52) (by decide +kernel), List.mem_of_getElem? (i := 349) (by decide +kernel), List.mem_of_getElem? (i := 350) (by decide +kernel)⟩
theorem lw_p21 : lw_okq (⟨"ConditionText$Runner", "passMark", "(I)V"⟩, 12) := ⟨⟨by decide +kernel, by decide +kernel⟩, List.mem_of_getElem? (i := 52) (by decide +kernel), List.mem_of_getElem? (i := 353) (by decide +kernel), List.mem_of_getElem? (i := 354) (by decide +kernel)⟩
theorem lw_p22 : lw_okq (⟨"ConditionText$Runner", "meetMark", "(I)V"⟩, 12) := ⟨⟨by decide +kernel, by decide +kernel⟩, List.mem_of_getElem? (i := 52) (by decide +kernel), List.mem_of_getElem? (i := 357) (by decide +kernel), List.mem_of_getElem? (i := 358) (by decide +kernel)⟩
theorem lw_p23 : lw_okq (⟨"ConditionText$Runner", "putOut", "(I)V"⟩, 12) := ⟨⟨by decide +kernel, by decide +kernel⟩, List.mem_of_getElem? (i := 52) (by decide +kernel), List.mem_of_getElem? (i := 361) (by decide +kernel), List.mem_of_getElem? (i := 362) (by decide +kernel)⟩
theorem lw_p24 : lw_okq (⟨"ConditionTextModel", "areSame", "(II)Z"⟩, 23) := ⟨⟨by decide +kernel, by decide +kernel⟩, List.mem_of_getElem? (i := 407) (by decide +kernel), List.mem_of_getElem? (i := 519) (by decide +kernel), List.mem_of_getElem? (i := 520) (by decide +kernel)⟩
theorem lw_p25 : lw_okq (⟨"ConditionTextModel", "kindOf", "(I)I"⟩, 23) := ⟨⟨by decide +kernel, by decide +kernel⟩, List.mem_of_getElem? (i := 407) (by decide +kernel), List.mem_of_getElem? (i := 523) (by decide +kernel), List.mem_of_getElem? (i := 524) (by decide +kernel)⟩
theorem lw_p26 : lw_okq (⟨"ConditionTextModel", "valueOf", "(I)I"⟩, 23) := ⟨⟨by decide +kernel, by decide +kernel⟩, List.mem_of_getElem? (i := 407) (by decide +kernel), List.mem_of_getElem? (i := 527) (by decide +kernel), List.mem_of_getElem? (i := 528) (by decide +kernel)⟩
theorem lw_p27 : lw_okq (⟨"ConditionTextModel", "next", "()I"⟩, 23) := ⟨⟨by decide +kernel, by decide +kernel⟩, List.mem_of_getElem? (i := 407) (by decide +kernel), List.mem_of_getElem? (i := 535) (by decide +kernel), List.mem_of_getElem? (i := 536) (by decide +kernel)⟩
theorem lw_p28 : lw_okq (⟨"ConditionTextModel", "fail", "(I)V"⟩, 23) := ⟨⟨by decide +kernel, by decide +kernel⟩, List.mem_of_getElem? (i := 407) (by decide +kernel), List.mem_of_getElem? (i := 539) (by decide +kernel), List.mem_of_getElem? (i := 540) (by decide +kernel)⟩
theorem lw_p29 : lw_okq (⟨"ConditionTextModel", "isMacro", "(I)Z"⟩, 23) := ⟨⟨by decide +kernel, by decide +kernel⟩, List.mem_of_getElem? (i := 407) (by decide +kernel), List.mem_of_getElem? (i := 543) (by decide +kernel), List.mem_of_getElem? (i := 544) (by decide +kernel)⟩
theorem lw_p30 : lw_okq (⟨"ConditionTextModel", "goOnWith", "(I)V"⟩, 23) := ⟨⟨by decide +kernel, by decide +kernel⟩, List.mem_of_getElem? (i := 407) (by decide +kernel), List.mem_of_getElem? (i := 547) (by decide +kernel), List.mem_of_getElem? (i := 548) (by decide +kernel)⟩
theorem lw_p31 : lw_okq (⟨"ConditionTextModel", "open", "(I)V"⟩, 23) := ⟨⟨by decide +kernel, by decide +kernel⟩, List.mem_of_getElem? (i := 407) (by decide +kernel), List.mem_of_getElem? (i := 551) (by decide +kernel), List.mem_of_getElem? (i := 552) (by decide +kernel)⟩
def lw_privs_2 : List (MethodName × Nat) := [(⟨"ConditionText$Runner", "askWhetherKnown", "()I"⟩, 12), (⟨"ConditionText$Runner", "askWhetherOn", "([ZI)I"⟩, 12), (⟨"ConditionText$Runner", "decide", "(III)V"⟩, 12), (⟨"ConditionText$Runner", "skip", "(IZ)V"⟩, 12), (⟨"ConditionText$Runner", "isInPlace", "(I)Z"⟩, 12), (⟨"ConditionText$Runner", "passMark", "(I)V"⟩, 12), (⟨"ConditionText$Runner", "meetMark", "(I)V"⟩, 12), (⟨"ConditionText$Runner", "putOut", "(I)V"⟩, 12), (⟨"ConditionTextModel", "areSame", "(II)Z"⟩, 23), (⟨"ConditionTextModel", "kindOf", "(I)I"⟩, 23), (⟨"ConditionTextModel", "valueOf", "(I)I"⟩, 23), (⟨"ConditionTextModel", "next", "()I"⟩, 23), (⟨"ConditionTextModel", "fail", "(I)V"⟩, 23), (⟨"ConditionTextModel", "isMacro", "(I)Z"⟩, 23), (⟨"ConditionTextModel", "goOnWith", "(I)V"⟩, 23), (⟨"ConditionTextModel", "open", "(I)V"⟩, 23)]
theorem lw_r2 : ∀ q ∈ lw_privs_2, lw_okq q := List.forall_mem_cons.mpr ⟨lw_p16, List.forall_mem_cons.mpr ⟨lw_p17, List.forall_mem_cons.mpr ⟨lw_p18, List.forall_mem_cons.mpr ⟨lw_p19, List.forall_mem_cons.mpr ⟨lw_p20, List.forall_mem_cons.mpr ⟨lw_p21, List.forall_mem_cons.mpr ⟨lw_p22, List.forall_mem_cons.mpr ⟨lw_p23, List.forall_mem_cons.mpr ⟨lw_p24, List.forall_mem_cons.mpr ⟨lw_p25, List.forall_mem_cons.mpr ⟨lw_p26, List.forall_mem_cons.mpr ⟨lw_p27, List.forall_mem_cons.mpr ⟨lw_p28, List.forall_mem_cons.mpr ⟨lw_p29, List.forall_mem_cons.mpr ⟨lw_p30, List.forall_mem_cons.mpr ⟨lw_p31, fun _ h => absurd h List.not_mem_nil⟩⟩⟩⟩⟩⟩⟩⟩⟩⟩⟩⟩⟩⟩⟩⟩
theorem lw_p32 : lw_okq (⟨"ConditionTextModel", "answer", "(II)I"⟩, 23) := ⟨⟨by decide +kernel, by decide +kernel⟩, List.mem_of_getElem? (i := 407) (by decide +kernel), List.mem_of_getElem? (i := 555) (by decide +kernel), List.mem_of_getElem? (i := 556) (by decide +kernel)⟩
theorem lw_p33 : lw_okq (⟨"ConditionTextModel", "askedToken", "(I)I"⟩, 23) := ⟨⟨by decide +kernel, by decide +kernel⟩, List.mem_of_getElem? (i := 407) (by decide +kernel), List.mem_of_getElem? (i := 559) (by decide +kernel), List.mem_of_getElem? (i := 560) (by decide +kernel)⟩
theorem lw_p34 : lw_okq (⟨"ConditionTextModel", "asked", "(I)I"⟩, 23) := ⟨⟨by decide +kernel, by decide +kernel⟩, List.mem_of_getElem? (i := 407) (by decide +kernel), List.mem_of_getElem? (i := 563) (by decide +kernel), List.mem_of_getElem? (i := 564) (by decide +kernel)⟩
theorem lw_p35 : lw_okq (⟨"ConditionTextModel", "need", "()I"⟩, 23) := ⟨⟨by decide +kernel, by decide +kernel⟩, List.mem_of_getElem? (i := 407) (by decide +kernel), List.mem_of_getElem? (i := 567) (by decide +kernel), List.mem_of_getElem? (i := 568) (by decide +kernel)⟩
theorem lw_p36 : lw_okq (⟨"ConditionTextModel", "belongs", "(I)V"⟩, 23) := ⟨⟨by decide +kernel, by decide +kernel⟩, List.mem_of_getElem? (i := 407) (by decide +kernel), List.mem_of_getElem? (i := 571) (by decide +kernel), List.mem_of_getElem? (i := 572) (by decide +kernel)⟩
theorem lw_p37 : lw_okq (⟨"ConditionTextModel", "skip", "(ZZI)V"⟩, 23) := ⟨⟨by decide +kernel, by decide +kernel⟩, List.mem_of_getElem? (i := 407) (by decide +kernel), List.mem_of_getElem? (i := 575) (by decide +kernel), List.mem_of_getElem? (i := 576) (by decide +kernel)⟩
theorem lw_p38 : lw_okq (⟨"ConditionTextModel", "code", "(I)I"⟩, 23) := ⟨⟨by decide +kernel, by decide +kernel⟩, List.mem_of_getElem? (i := 407) (by decide +kernel), List.mem_of_getElem? (i := 579) (by decide +kernel), List.mem_of_getElem? (i := 580) (by decide +kernel)⟩
theorem lw_p39 : lw_okq (⟨"ConditionTextModel", "category", "(I)I"⟩, 23) := ⟨⟨by decide +kernel, by decide +kernel⟩, List.mem_of_getElem? (i := 407) (by decide +kernel), List.mem_of_getElem? (i := 583) (by decide +kernel), List.mem_of_getElem? (i := 584) (by decide +kernel)⟩
theorem lw_p40 : lw_okq (⟨"ConditionTextModel", "number", "(I)I"⟩, 23) := ⟨⟨by decide +kernel, by decide +kernel⟩, List.mem_of_getElem? (i := 407) (by decide +kernel), List.mem_of_getElem? (i := 590) (by decide +kernel), List.mem_of_getElem? (i := 591) (by decide +kernel)⟩
theorem lw_p41 : lw_okq (⟨"ConditionTextModel", "isSignOf", "(III)Z"⟩, 23) := ⟨⟨by decide +kernel, by decide +kernel⟩, List.mem_of_getElem? (i := 407) (by decide +kernel), List.mem_of_getElem? (i := 594) (by decide +kernel), List.mem_of_getElem? (i := 595) (by decide +kernel)⟩
theorem lw_p42 : lw_okq (⟨"ConditionTextModel", "isDigit", "(I)Z"⟩, 23) := ⟨⟨by decide +kernel, by decide +kernel⟩, List.mem_of_getElem? (i := 407) (by decide +kernel), List.mem_of_getElem? (i := 598) (by decide +kernel), List.mem_of_getElem? (i := 599) (by decide +kernel)⟩
def lw_privs_3 : List (MethodName × Nat) := [(⟨"ConditionTextModel", "answer", "(II)I"⟩, 23), (⟨"ConditionTextModel", "askedToken", "(I)I"⟩, 23), (⟨"ConditionTextModel", "asked", "(I)I"⟩, 23), (⟨"ConditionTextModel", "need", "()I"⟩, 23), (⟨"ConditionTextModel", "belongs", "(I)V"⟩, 23), (⟨"ConditionTextModel", "skip", "(ZZI)V"⟩, 23), (⟨"ConditionTextModel", "code", "(I)I"⟩, 23), (⟨"ConditionTextModel", "category", "(I)I"⟩, 23), (⟨"ConditionTextModel", "number", "(I)I"⟩, 23), (⟨"ConditionTextModel", "isSignOf", "(III)Z"⟩, 23), (⟨"ConditionTextModel", "isDigit", "(I)Z"⟩, 23)]
theorem lw_r3 : ∀ q ∈ lw_privs_3, lw_okq q := List.forall_mem_cons.mpr ⟨lw_p32, List.forall_mem_cons.mpr ⟨lw_p33, List.forall_mem_cons.mpr ⟨lw_p34, List.forall_mem_cons.mpr ⟨lw_p35, List.forall_mem_cons.mpr ⟨lw_p36, List.forall_mem_cons.mpr ⟨lw_p37, List.forall_mem_cons.mpr ⟨lw_p38, List.forall_mem_cons.mpr ⟨lw_p39, List.forall_mem_cons.mpr ⟨lw_p40, List.forall_mem_cons.mpr ⟨lw_p41, List.forall_mem_cons.mpr ⟨lw_p42, fun _ h => absurd h List.not_mem_nil⟩⟩⟩⟩⟩⟩⟩⟩⟩⟩⟩
def lw_privs : List (MethodName × Nat) := lw_privs_1 ++ (lw_privs_2 ++ (lw_privs_3))
def lw_tbl : List Cond := k2_sels lw_privs ++ tables_1
theorem lw_privs_ok : ∀ q ∈ lw_privs, lw_okq q := by
  show ∀ q ∈ lw_privs_1 ++ (lw_privs_2 ++ (lw_privs_3)), lw_okq q
  exact List.forall_mem_append.mpr ⟨lw_r1, List.forall_mem_append.mpr ⟨lw_r2, lw_r3⟩⟩
end
section
/-! names: tables' good words, classes, methods (laid by program) -/
def TB : List Cond := lw_tbl.filter goodWord
theorem TB_good : ∀ w ∈ TB, goodWord w = true := fun w h => (List.mem_filter.mp h).2
theorem tq (k : Nat) {w : Cond} (h : lw_tbl[k]? = some w) (g : goodWord w = true) : w ∈ TB := List.mem_filter.mpr ⟨List.mem_of_getElem? h, g⟩
def R_Bk : String := "ConditionText$Book"
def T_Bk : u_T := fun k => match k with
  | 0 => ("ConditionText$Book", "kinds", "[I", true)
  | 1 => ("ConditionText$Book", "values", "[I", true)
  | 2 => ("ConditionText$Book", "cells", "[I", true)
  | 3 => ("ConditionText$Book", "sizes", "[I", true)
  | 4 => ("ConditionText$Book", "modes", "[Z", true)
  | 5 => ("ConditionText$Book", "files", "[Z", true)
  | _ => ("ConditionText$Book", "bodyCount", "I", false)
def ty_Bk : Nat → FieldType := fun k => match k with
  | 0 => .array .int
  | 1 => .array .int
  | 2 => .array .int
  | 3 => .array .int
  | 4 => .array .boolean
  | 5 => .array .boolean
  | _ => .int
theorem nm_Bk : ∀ a, a < 7 → ∀ b, b < 7 → a ≠ b → (T_Bk a).2.1 ≠ (T_Bk b).2.1 := by decide +kernel
theorem ty_Bk_ok : ∀ k, k < 7 → parseFieldDescriptor (T_Bk k).2.2.1 = some (ty_Bk k) := by decide +kernel
theorem i_Bk : ∀ w ∈ u_ws R_Bk T_Bk 7, w ∈ TB := by decide +kernel
def R_Rd : String := "ConditionText$Reader"
def T_Rd : u_T := fun k => match k with
  | 0 => ("ConditionText$Reader", "book", "LConditionText$Book;", true)
  | 1 => ("ConditionText$Reader", "rows", "[I", true)
  | 2 => ("ConditionText$Reader", "places", "[I", true)
  | 3 => ("ConditionText$Reader", "top", "I", false)
  | 4 => ("ConditionText$Reader", "kept", "I", false)
  | _ => ("ConditionText$Reader", "steps", "I", false)
def ty_Rd : Nat → FieldType := fun k => match k with
  | 0 => .object "ConditionText$Book"
  | 1 => .array .int
  | 2 => .array .int
  | 3 => .int
  | 4 => .int
  | _ => .int
theorem nm_Rd : ∀ a, a < 6 → ∀ b, b < 6 → a ≠ b → (T_Rd a).2.1 ≠ (T_Rd b).2.1 := by decide +kernel
theorem ty_Rd_ok : ∀ k, k < 6 → parseFieldDescriptor (T_Rd k).2.2.1 = some (ty_Rd k) := by decide +kernel
theorem i_Rd : ∀ w ∈ u_ws R_Rd T_Rd 6, w ∈ TB := by decide +kernel
def R_Rn : String := "ConditionText$Runner"
def T_Rn : u_T := fun k => match k with
  | 0 => ("ConditionText$Runner", "book", "LConditionText$Book;", true)
  | 1 => ("ConditionText$Runner", "reader", "LConditionText$Reader;", true)
  | 2 => ("ConditionText$Runner", "out", "[I", true)
  | 3 => ("ConditionText$Runner", "decisions", "[I", true)
  | 4 => ("ConditionText$Runner", "isCase", "[Z", true)
  | 5 => ("ConditionText$Runner", "hadElse", "[Z", true)
  | 6 => ("ConditionText$Runner", "outSize", "I", false)
  | 7 => ("ConditionText$Runner", "openCount", "I", false)
  | 8 => ("ConditionText$Runner", "opened", "I", false)
  | 9 => ("ConditionText$Runner", "mostOpen", "I", false)
  | 10 => ("ConditionText$Runner", "skipped", "I", false)
  | _ => ("ConditionText$Runner", "fault", "I", false)
def ty_Rn : Nat → FieldType := fun k => match k with
  | 0 => .object "ConditionText$Book"
  | 1 => .object "ConditionText$Reader"
  | 2 => .array .int
  | 3 => .array .int
  | 4 => .array .boolean
  | 5 => .array .boolean
  | 6 => .int
  | 7 => .int
  | 8 => .int
  | 9 => .int
  | 10 => .int
  | _ => .int
theorem nm_Rn : ∀ a, a < 12 → ∀ b, b < 12 → a ≠ b → (T_Rn a).2.1 ≠ (T_Rn b).2.1 := by decide +kernel
theorem ty_Rn_ok : ∀ k, k < 12 → parseFieldDescriptor (T_Rn k).2.2.1 = some (ty_Rn k) := by decide +kernel
theorem i_Rn : ∀ w ∈ u_ws R_Rn T_Rn 12, w ∈ TB := by decide +kernel
def R_Ct : String := "ConditionText"
def T_Ct : u_T := fun k => match k with
  | 0 => ("ConditionText", "book", "LConditionText$Book;", true)
  | _ => ("ConditionText", "runner", "LConditionText$Runner;", true)
def ty_Ct : Nat → FieldType := fun k => match k with
  | 0 => .object "ConditionText$Book"
  | _ => .object "ConditionText$Runner"
theorem nm_Ct : ∀ a, a < 2 → ∀ b, b < 2 → a ≠ b → (T_Ct a).2.1 ≠ (T_Ct b).2.1 := by decide +kernel
theorem ty_Ct_ok : ∀ k, k < 2 → parseFieldDescriptor (T_Ct k).2.2.1 = some (ty_Ct k) := by decide +kernel
theorem i_Ct : ∀ w ∈ u_ws R_Ct T_Ct 2, w ∈ TB := by decide +kernel
def R_Md : String := "ConditionTextModel"
def T_Md : u_T := fun k => match k with
  | 0 => ("ConditionTextModel", "thrown", "I", false)
  | 1 => ("ConditionTextModel", "kinds", "[I", true)
  | 2 => ("ConditionTextModel", "values", "[I", true)
  | 3 => ("ConditionTextModel", "bodies", "I", false)
  | 4 => ("ConditionTextModel", "rows", "[I", true)
  | 5 => ("ConditionTextModel", "sizes", "[I", true)
  | 6 => ("ConditionTextModel", "modes", "[Z", true)
  | 7 => ("ConditionTextModel", "ends", "[Z", true)
  | 8 => ("ConditionTextModel", "pileRows", "[I", true)
  | 9 => ("ConditionTextModel", "pilePlaces", "[I", true)
  | 10 => ("ConditionTextModel", "pile", "I", false)
  | 11 => ("ConditionTextModel", "held", "I", false)
  | 12 => ("ConditionTextModel", "steps", "I", false)
  | 13 => ("ConditionTextModel", "fault", "I", false)
  | 14 => ("ConditionTextModel", "out", "[I", true)
  | 15 => ("ConditionTextModel", "outSize", "I", false)
  | 16 => ("ConditionTextModel", "opened", "I", false)
  | 17 => ("ConditionTextModel", "most", "I", false)
  | 18 => ("ConditionTextModel", "skipped", "I", false)
  | 19 => ("ConditionTextModel", "decided", "[I", true)
  | 20 => ("ConditionTextModel", "phases", "[I", true)
  | 21 => ("ConditionTextModel", "open", "I", false)
  | _ => ("ConditionTextModel", "hasRun", "Z", false)
def ty_Md : Nat → FieldType := fun k => match k with
  | 0 => .int
  | 1 => .array .int
  | 2 => .array .int
  | 3 => .int
  | 4 => .array .int
  | 5 => .array .int
  | 6 => .array .boolean
  | 7 => .array .boolean
  | 8 => .array .int
  | 9 => .array .int
  | 10 => .int
  | 11 => .int
  | 12 => .int
  | 13 => .int
  | 14 => .array .int
  | 15 => .int
  | 16 => .int
  | 17 => .int
  | 18 => .int
  | 19 => .array .int
  | 20 => .array .int
  | 21 => .int
  | _ => .boolean
theorem nm_Md : ∀ a, a < 23 → ∀ b, b < 23 → a ≠ b → (T_Md a).2.1 ≠ (T_Md b).2.1 := by decide +kernel
theorem ty_Md_ok : ∀ k, k < 23 → parseFieldDescriptor (T_Md k).2.2.1 = some (ty_Md k) := by decide +kernel
theorem i_Md : ∀ w ∈ u_ws R_Md T_Md 23, w ∈ TB := by decide +kernel
def R_Ar : String := "java/util/Arrays"
abbrev vwCl : List vw_C := [(R_Bk, T_Bk, 7), (R_Rd, T_Rd, 6), (R_Rn, T_Rn, 12), (R_Ct, T_Ct, 2), (R_Md, T_Md, 23)]
abbrev b_Ct_init : ByteArray := prog_1_method_1_code
def y_Ct_init : MethodName := ⟨R_Ct, "<init>", "()V"⟩
abbrev ws_Ct_init : List Cond := .code y_Ct_init b_Ct_init 1 (none : Option Jvm.ClassFile.FieldType) :: TB
theorem p_Ct_init : y_Ct_init.cls = R_Ct ∧ y_Ct_init.cls ≠ "java/lang/invoke/MethodHandle" ∧ y_Ct_init.cls ≠ "java/lang/invoke/VarHandle" ∧ (parseMethodDescriptor y_Ct_init.desc).map (fun d => d.parameters.length) = some 0 := by decide +kernel
abbrev b_Bk_init : ByteArray := prog_2_method_1_code
def y_Bk_init : MethodName := ⟨R_Bk, "<init>", "()V"⟩
abbrev ws_Bk_init : List Cond := .code y_Bk_init b_Bk_init 1 (none : Option Jvm.ClassFile.FieldType) :: TB
theorem p_Bk_init : y_Bk_init.cls = R_Bk ∧ y_Bk_init.cls ≠ "java/lang/invoke/MethodHandle" ∧ y_Bk_init.cls ≠ "java/lang/invoke/VarHandle" ∧ (parseMethodDescriptor y_Bk_init.desc).map (fun d => d.parameters.length) = some 0 := by decide +kernel
abbrev b_Rn_init : ByteArray := prog_4_method_1_code
def y_Rn_init : MethodName := ⟨R_Rn, "<init>", "(LConditionText$Book;)V"⟩
abbrev ws_Rn_init : List Cond := .code y_Rn_init b_Rn_init 2 (none : Option Jvm.ClassFile.FieldType) :: TB
theorem p_Rn_init : y_Rn_init.cls = R_Rn ∧ y_Rn_init.cls ≠ "java/lang/invoke/MethodHandle" ∧ y_Rn_init.cls ≠ "java/lang/invoke/VarHandle" ∧ (parseMethodDescriptor y_Rn_init.desc).map (fun d => d.parameters.length) = some 1 := by decide +kernel
abbrev b_Rd_init : ByteArray := prog_3_method_1_code
def y_Rd_init : MethodName := ⟨R_Rd, "<init>", "(LConditionText$Book;)V"⟩
abbrev ws_Rd_init : List Cond := .code y_Rd_init b_Rd_init 2 (none : Option Jvm.ClassFile.FieldType) :: TB
theorem p_Rd_init : y_Rd_init.cls = R_Rd ∧ y_Rd_init.cls ≠ "java/lang/invoke/MethodHandle" ∧ y_Rd_init.cls ≠ "java/lang/invoke/VarHandle" ∧ (parseMethodDescriptor y_Rd_init.desc).map (fun d => d.parameters.length) = some 1 := by decide +kernel
abbrev b_Rn_forget : ByteArray := prog_4_method_6_code
def y_Rn_forget : MethodName := ⟨R_Rn, "forget", "()V"⟩
abbrev ws_Rn_forget : List Cond := .code y_Rn_forget b_Rn_forget 1 (none : Option Jvm.ClassFile.FieldType) :: TB
theorem p_Rn_forget : y_Rn_forget.cls = R_Rn ∧ y_Rn_forget.cls ≠ "java/lang/invoke/MethodHandle" ∧ y_Rn_forget.cls ≠ "java/lang/invoke/VarHandle" ∧ (parseMethodDescriptor y_Rn_forget.desc).map (fun d => d.parameters.length) = some 0 := by decide +kernel
abbrev b_Ar_fill : ByteArray := prog_8_method_103_code
def y_Ar_fill : MethodName := ⟨R_Ar, "fill", "([II)V"⟩
abbrev ws_Ar_fill : List Cond := .code y_Ar_fill b_Ar_fill 4 (none : Option Jvm.ClassFile.FieldType) :: TB
theorem p_Ar_fill : y_Ar_fill.cls = R_Ar ∧ y_Ar_fill.cls ≠ "java/lang/invoke/MethodHandle" ∧ y_Ar_fill.cls ≠ "java/lang/invoke/VarHandle" ∧ (parseMethodDescriptor y_Ar_fill.desc).map (fun d => d.parameters.length) = some 2 := by decide +kernel
abbrev b_Ct_meaning : ByteArray := prog_1_method_2_code
def y_Ct_meaning : MethodName := ⟨R_Ct, "meaning", "(III)I"⟩
abbrev ws_Ct_meaning : List Cond := .code y_Ct_meaning b_Ct_meaning 4 (some .int) :: TB
theorem p_Ct_meaning : y_Ct_meaning.cls = R_Ct ∧ y_Ct_meaning.cls ≠ "java/lang/invoke/MethodHandle" ∧ y_Ct_meaning.cls ≠ "java/lang/invoke/VarHandle" ∧ (parseMethodDescriptor y_Ct_meaning.desc).map (fun d => d.parameters.length) = some 3 := by decide +kernel
abbrev b_Bk_hasBody : ByteArray := prog_2_method_2_code
def y_Bk_hasBody : MethodName := ⟨R_Bk, "hasBody", "(I)Z"⟩
abbrev ws_Bk_hasBody : List Cond := .code y_Bk_hasBody b_Bk_hasBody 2 (some .boolean) :: TB
theorem p_Bk_hasBody : y_Bk_hasBody.cls = R_Bk ∧ y_Bk_hasBody.cls ≠ "java/lang/invoke/MethodHandle" ∧ y_Bk_hasBody.cls ≠ "java/lang/invoke/VarHandle" ∧ (parseMethodDescriptor y_Bk_hasBody.desc).map (fun d => d.parameters.length) = some 1 := by decide +kernel
abbrev b_Ct_fitsKind : ByteArray := prog_1_method_15_code
def y_Ct_fitsKind : MethodName := ⟨R_Ct, "fitsKind", "(II)Z"⟩
abbrev ws_Ct_fitsKind : List Cond := .code y_Ct_fitsKind b_Ct_fitsKind 2 (some .boolean) :: TB
theorem p_Ct_fitsKind : y_Ct_fitsKind.cls = R_Ct ∧ y_Ct_fitsKind.cls ≠ "java/lang/invoke/MethodHandle" ∧ y_Ct_fitsKind.cls ≠ "java/lang/invoke/VarHandle" ∧ (parseMethodDescriptor y_Ct_fitsKind.desc).map (fun d => d.parameters.length) = some 2 := by decide +kernel
abbrev b_Ct_isSign : ByteArray := prog_1_method_16_code
def y_Ct_isSign : MethodName := ⟨R_Ct, "isSign", "(I)Z"⟩
abbrev ws_Ct_isSign : List Cond := .code y_Ct_isSign b_Ct_isSign 1 (some .boolean) :: TB
theorem p_Ct_isSign : y_Ct_isSign.cls = R_Ct ∧ y_Ct_isSign.cls ≠ "java/lang/invoke/MethodHandle" ∧ y_Ct_isSign.cls ≠ "java/lang/invoke/VarHandle" ∧ (parseMethodDescriptor y_Ct_isSign.desc).map (fun d => d.parameters.length) = some 1 := by decide +kernel
abbrev b_Bk_define : ByteArray := prog_2_method_4_code
def y_Bk_define : MethodName := ⟨R_Bk, "define", "(III)V"⟩
abbrev ws_Bk_define : List Cond := .code y_Bk_define b_Bk_define 4 (none : Option Jvm.ClassFile.FieldType) :: TB
theorem p_Bk_define : y_Bk_define.cls = R_Bk ∧ y_Bk_define.cls ≠ "java/lang/invoke/MethodHandle" ∧ y_Bk_define.cls ≠ "java/lang/invoke/VarHandle" ∧ (parseMethodDescriptor y_Bk_define.desc).map (fun d => d.parameters.length) = some 3 := by decide +kernel
abbrev b_Ct_body : ByteArray := prog_1_method_3_code
def y_Ct_body : MethodName := ⟨R_Ct, "body", "()I"⟩
abbrev ws_Ct_body : List Cond := .code y_Ct_body b_Ct_body 1 (some .int) :: TB
theorem p_Ct_body : y_Ct_body.cls = R_Ct ∧ y_Ct_body.cls ≠ "java/lang/invoke/MethodHandle" ∧ y_Ct_body.cls ≠ "java/lang/invoke/VarHandle" ∧ (parseMethodDescriptor y_Ct_body.desc).map (fun d => d.parameters.length) = some 0 := by decide +kernel
abbrev b_Bk_addBody : ByteArray := prog_2_method_3_code
def y_Bk_addBody : MethodName := ⟨R_Bk, "addBody", "()I"⟩
abbrev ws_Bk_addBody : List Cond := .code y_Bk_addBody b_Bk_addBody 1 (some .int) :: TB
theorem p_Bk_addBody : y_Bk_addBody.cls = R_Bk ∧ y_Bk_addBody.cls ≠ "java/lang/invoke/MethodHandle" ∧ y_Bk_addBody.cls ≠ "java/lang/invoke/VarHandle" ∧ (parseMethodDescriptor y_Bk_addBody.desc).map (fun d => d.parameters.length) = some 0 := by decide +kernel
abbrev b_Ct_token : ByteArray := prog_1_method_4_code
def y_Ct_token : MethodName := ⟨R_Ct, "token", "(II)I"⟩
abbrev ws_Ct_token : List Cond := .code y_Ct_token b_Ct_token 3 (some .int) :: TB
theorem p_Ct_token : y_Ct_token.cls = R_Ct ∧ y_Ct_token.cls ≠ "java/lang/invoke/MethodHandle" ∧ y_Ct_token.cls ≠ "java/lang/invoke/VarHandle" ∧ (parseMethodDescriptor y_Ct_token.desc).map (fun d => d.parameters.length) = some 2 := by decide +kernel
abbrev b_Ct_isToken : ByteArray := prog_1_method_18_code
def y_Ct_isToken : MethodName := ⟨R_Ct, "isToken", "(I)Z"⟩
abbrev ws_Ct_isToken : List Cond := .code y_Ct_isToken b_Ct_isToken 1 (some .boolean) :: TB
theorem p_Ct_isToken : y_Ct_isToken.cls = R_Ct ∧ y_Ct_isToken.cls ≠ "java/lang/invoke/MethodHandle" ∧ y_Ct_isToken.cls ≠ "java/lang/invoke/VarHandle" ∧ (parseMethodDescriptor y_Ct_isToken.desc).map (fun d => d.parameters.length) = some 1 := by decide +kernel
abbrev b_Ct_isName : ByteArray := prog_1_method_17_code
def y_Ct_isName : MethodName := ⟨R_Ct, "isName", "(I)Z"⟩
abbrev ws_Ct_isName : List Cond := .code y_Ct_isName b_Ct_isName 1 (some .boolean) :: TB
theorem p_Ct_isName : y_Ct_isName.cls = R_Ct ∧ y_Ct_isName.cls ≠ "java/lang/invoke/MethodHandle" ∧ y_Ct_isName.cls ≠ "java/lang/invoke/VarHandle" ∧ (parseMethodDescriptor y_Ct_isName.desc).map (fun d => d.parameters.length) = some 1 := by decide +kernel
abbrev b_Bk_append : ByteArray := prog_2_method_6_code
def y_Bk_append : MethodName := ⟨R_Bk, "append", "(II)I"⟩
abbrev ws_Bk_append : List Cond := .code y_Bk_append b_Bk_append 6 (some .int) :: TB
theorem p_Bk_append : y_Bk_append.cls = R_Bk ∧ y_Bk_append.cls ≠ "java/lang/invoke/MethodHandle" ∧ y_Bk_append.cls ≠ "java/lang/invoke/VarHandle" ∧ (parseMethodDescriptor y_Bk_append.desc).map (fun d => d.parameters.length) = some 2 := by decide +kernel
abbrev b_Bk_sizeOf : ByteArray := prog_2_method_5_code
def y_Bk_sizeOf : MethodName := ⟨R_Bk, "sizeOf", "(I)I"⟩
abbrev ws_Bk_sizeOf : List Cond := .code y_Bk_sizeOf b_Bk_sizeOf 2 (some .int) :: TB
theorem p_Bk_sizeOf : y_Bk_sizeOf.cls = R_Bk ∧ y_Bk_sizeOf.cls ≠ "java/lang/invoke/MethodHandle" ∧ y_Bk_sizeOf.cls ≠ "java/lang/invoke/VarHandle" ∧ (parseMethodDescriptor y_Bk_sizeOf.desc).map (fun d => d.parameters.length) = some 1 := by decide +kernel
abbrev b_Ct_clear : ByteArray := prog_1_method_5_code
def y_Ct_clear : MethodName := ⟨R_Ct, "clear", "()I"⟩
abbrev ws_Ct_clear : List Cond := .code y_Ct_clear b_Ct_clear 1 (some .int) :: TB
theorem p_Ct_clear : y_Ct_clear.cls = R_Ct ∧ y_Ct_clear.cls ≠ "java/lang/invoke/MethodHandle" ∧ y_Ct_clear.cls ≠ "java/lang/invoke/VarHandle" ∧ (parseMethodDescriptor y_Ct_clear.desc).map (fun d => d.parameters.length) = some 0 := by decide +kernel
abbrev b_Bk_emptyInput : ByteArray := prog_2_method_7_code
def y_Bk_emptyInput : MethodName := ⟨R_Bk, "emptyInput", "()I"⟩
abbrev ws_Bk_emptyInput : List Cond := .code y_Bk_emptyInput b_Bk_emptyInput 2 (some .int) :: TB
theorem p_Bk_emptyInput : y_Bk_emptyInput.cls = R_Bk ∧ y_Bk_emptyInput.cls ≠ "java/lang/invoke/MethodHandle" ∧ y_Bk_emptyInput.cls ≠ "java/lang/invoke/VarHandle" ∧ (parseMethodDescriptor y_Bk_emptyInput.desc).map (fun d => d.parameters.length) = some 0 := by decide +kernel
abbrev b_Ct_mode : ByteArray := prog_1_method_6_code
def y_Ct_mode : MethodName := ⟨R_Ct, "mode", "(IZ)I"⟩
abbrev ws_Ct_mode : List Cond := .code y_Ct_mode b_Ct_mode 3 (some .int) :: TB
theorem p_Ct_mode : y_Ct_mode.cls = R_Ct ∧ y_Ct_mode.cls ≠ "java/lang/invoke/MethodHandle" ∧ y_Ct_mode.cls ≠ "java/lang/invoke/VarHandle" ∧ (parseMethodDescriptor y_Ct_mode.desc).map (fun d => d.parameters.length) = some 2 := by decide +kernel
abbrev b_Ct_turn : ByteArray := prog_1_method_14_code
def y_Ct_turn : MethodName := ⟨R_Ct, "turn", "([ZIZ)I"⟩
abbrev ws_Ct_turn : List Cond := .code y_Ct_turn b_Ct_turn 3 (some .int) :: TB
theorem p_Ct_turn : y_Ct_turn.cls = R_Ct ∧ y_Ct_turn.cls ≠ "java/lang/invoke/MethodHandle" ∧ y_Ct_turn.cls ≠ "java/lang/invoke/VarHandle" ∧ (parseMethodDescriptor y_Ct_turn.desc).map (fun d => d.parameters.length) = some 3 := by decide +kernel
abbrev b_Ct_end : ByteArray := prog_1_method_7_code
def y_Ct_end : MethodName := ⟨R_Ct, "end", "(IZ)I"⟩
abbrev ws_Ct_end : List Cond := .code y_Ct_end b_Ct_end 3 (some .int) :: TB
theorem p_Ct_end : y_Ct_end.cls = R_Ct ∧ y_Ct_end.cls ≠ "java/lang/invoke/MethodHandle" ∧ y_Ct_end.cls ≠ "java/lang/invoke/VarHandle" ∧ (parseMethodDescriptor y_Ct_end.desc).map (fun d => d.parameters.length) = some 2 := by decide +kernel
abbrev b_Ct_run : ByteArray := prog_1_method_8_code
def y_Ct_run : MethodName := ⟨R_Ct, "run", "()I"⟩
abbrev ws_Ct_run : List Cond := .code y_Ct_run b_Ct_run 1 (some .int) :: TB
theorem p_Ct_run : y_Ct_run.cls = R_Ct ∧ y_Ct_run.cls ≠ "java/lang/invoke/MethodHandle" ∧ y_Ct_run.cls ≠ "java/lang/invoke/VarHandle" ∧ (parseMethodDescriptor y_Ct_run.desc).map (fun d => d.parameters.length) = some 0 := by decide +kernel
abbrev b_Rn_goThroughInput : ByteArray := prog_4_method_2_code
def y_Rn_goThroughInput : MethodName := ⟨R_Rn, "goThroughInput", "()I"⟩
abbrev ws_Rn_goThroughInput : List Cond := .code y_Rn_goThroughInput b_Rn_goThroughInput 3 (some .int) :: TB
theorem p_Rn_goThroughInput : y_Rn_goThroughInput.cls = R_Rn ∧ y_Rn_goThroughInput.cls ≠ "java/lang/invoke/MethodHandle" ∧ y_Rn_goThroughInput.cls ≠ "java/lang/invoke/VarHandle" ∧ (parseMethodDescriptor y_Rn_goThroughInput.desc).map (fun d => d.parameters.length) = some 0 := by decide +kernel
abbrev b_Rd_restart : ByteArray := prog_3_method_2_code
def y_Rd_restart : MethodName := ⟨R_Rd, "restart", "()V"⟩
abbrev ws_Rd_restart : List Cond := .code y_Rd_restart b_Rd_restart 1 (none : Option Jvm.ClassFile.FieldType) :: TB
theorem p_Rd_restart : y_Rd_restart.cls = R_Rd ∧ y_Rd_restart.cls ≠ "java/lang/invoke/MethodHandle" ∧ y_Rd_restart.cls ≠ "java/lang/invoke/VarHandle" ∧ (parseMethodDescriptor y_Rd_restart.desc).map (fun d => d.parameters.length) = some 0 := by decide +kernel
abbrev b_Rd_goOnWith : ByteArray := prog_3_method_3_code
def y_Rd_goOnWith : MethodName := ⟨R_Rd, "goOnWith", "(I)V"⟩
abbrev ws_Rd_goOnWith : List Cond := .code y_Rd_goOnWith b_Rd_goOnWith 2 (none : Option Jvm.ClassFile.FieldType) :: TB
theorem p_Rd_goOnWith : y_Rd_goOnWith.cls = R_Rd ∧ y_Rd_goOnWith.cls ≠ "java/lang/invoke/MethodHandle" ∧ y_Rd_goOnWith.cls ≠ "java/lang/invoke/VarHandle" ∧ (parseMethodDescriptor y_Rd_goOnWith.desc).map (fun d => d.parameters.length) = some 1 := by decide +kernel
abbrev b_Rd_look : ByteArray := prog_3_method_4_code
def y_Rd_look : MethodName := ⟨R_Rd, "look", "()I"⟩
abbrev ws_Rd_look : List Cond := .code y_Rd_look b_Rd_look 2 (some .int) :: TB
theorem p_Rd_look : y_Rd_look.cls = R_Rd ∧ y_Rd_look.cls ≠ "java/lang/invoke/MethodHandle" ∧ y_Rd_look.cls ≠ "java/lang/invoke/VarHandle" ∧ (parseMethodDescriptor y_Rd_look.desc).map (fun d => d.parameters.length) = some 0 := by decide +kernel
abbrev b_Rd_leaveRowsThatEnded : ByteArray := prog_3_method_7_code
def y_Rd_leaveRowsThatEnded : MethodName := ⟨R_Rd, "leaveRowsThatEnded", "()V"⟩
abbrev ws_Rd_leaveRowsThatEnded : List Cond := .code y_Rd_leaveRowsThatEnded b_Rd_leaveRowsThatEnded 1 (none : Option Jvm.ClassFile.FieldType) :: TB
theorem p_Rd_leaveRowsThatEnded : y_Rd_leaveRowsThatEnded.cls = R_Rd ∧ y_Rd_leaveRowsThatEnded.cls ≠ "java/lang/invoke/MethodHandle" ∧ y_Rd_leaveRowsThatEnded.cls ≠ "java/lang/invoke/VarHandle" ∧ (parseMethodDescriptor y_Rd_leaveRowsThatEnded.desc).map (fun d => d.parameters.length) = some 0 := by decide +kernel
abbrev b_Bk_tokenIn : ByteArray := prog_2_method_9_code
def y_Bk_tokenIn : MethodName := ⟨R_Bk, "tokenIn", "(II)I"⟩
abbrev ws_Bk_tokenIn : List Cond := .code y_Bk_tokenIn b_Bk_tokenIn 4 (some .int) :: TB
theorem p_Bk_tokenIn : y_Bk_tokenIn.cls = R_Bk ∧ y_Bk_tokenIn.cls ≠ "java/lang/invoke/MethodHandle" ∧ y_Bk_tokenIn.cls ≠ "java/lang/invoke/VarHandle" ∧ (parseMethodDescriptor y_Bk_tokenIn.desc).map (fun d => d.parameters.length) = some 2 := by decide +kernel
abbrev b_Rn_goThrough : ByteArray := prog_4_method_8_code
def y_Rn_goThrough : MethodName := ⟨R_Rn, "goThrough", "(I)V"⟩
abbrev ws_Rn_goThrough : List Cond := .code y_Rn_goThrough b_Rn_goThrough 2 (none : Option Jvm.ClassFile.FieldType) :: TB
theorem p_Rn_goThrough : y_Rn_goThrough.cls = R_Rn ∧ y_Rn_goThrough.cls ≠ "java/lang/invoke/MethodHandle" ∧ y_Rn_goThrough.cls ≠ "java/lang/invoke/VarHandle" ∧ (parseMethodDescriptor y_Rn_goThrough.desc).map (fun d => d.parameters.length) = some 1 := by decide +kernel
abbrev b_Rn_fail : ByteArray := prog_4_method_7_code
def y_Rn_fail : MethodName := ⟨R_Rn, "fail", "(I)V"⟩
abbrev ws_Rn_fail : List Cond := .code y_Rn_fail b_Rn_fail 2 (none : Option Jvm.ClassFile.FieldType) :: TB
theorem p_Rn_fail : y_Rn_fail.cls = R_Rn ∧ y_Rn_fail.cls ≠ "java/lang/invoke/MethodHandle" ∧ y_Rn_fail.cls ≠ "java/lang/invoke/VarHandle" ∧ (parseMethodDescriptor y_Rn_fail.desc).map (fun d => d.parameters.length) = some 1 := by decide +kernel
abbrev b_Rn_takeIn : ByteArray := prog_4_method_11_code
def y_Rn_takeIn : MethodName := ⟨R_Rn, "takeIn", "(II)Z"⟩
abbrev ws_Rn_takeIn : List Cond := .code y_Rn_takeIn b_Rn_takeIn 4 (some .boolean) :: TB
theorem p_Rn_takeIn : y_Rn_takeIn.cls = R_Rn ∧ y_Rn_takeIn.cls ≠ "java/lang/invoke/MethodHandle" ∧ y_Rn_takeIn.cls ≠ "java/lang/invoke/VarHandle" ∧ (parseMethodDescriptor y_Rn_takeIn.desc).map (fun d => d.parameters.length) = some 2 := by decide +kernel
abbrev b_Bk_kindOf : ByteArray := prog_2_method_10_code
def y_Bk_kindOf : MethodName := ⟨R_Bk, "kindOf", "(I)I"⟩
abbrev ws_Bk_kindOf : List Cond := .code y_Bk_kindOf b_Bk_kindOf 2 (some .int) :: TB
theorem p_Bk_kindOf : y_Bk_kindOf.cls = R_Bk ∧ y_Bk_kindOf.cls ≠ "java/lang/invoke/MethodHandle" ∧ y_Bk_kindOf.cls ≠ "java/lang/invoke/VarHandle" ∧ (parseMethodDescriptor y_Bk_kindOf.desc).map (fun d => d.parameters.length) = some 1 := by decide +kernel
abbrev b_Ct_isMacro : ByteArray := prog_1_method_22_code
def y_Ct_isMacro : MethodName := ⟨R_Ct, "isMacro", "(I)Z"⟩
abbrev ws_Ct_isMacro : List Cond := .code y_Ct_isMacro b_Ct_isMacro 1 (some .boolean) :: TB
theorem p_Ct_isMacro : y_Ct_isMacro.cls = R_Ct ∧ y_Ct_isMacro.cls ≠ "java/lang/invoke/MethodHandle" ∧ y_Ct_isMacro.cls ≠ "java/lang/invoke/VarHandle" ∧ (parseMethodDescriptor y_Ct_isMacro.desc).map (fun d => d.parameters.length) = some 1 := by decide +kernel
abbrev b_Bk_valueOf : ByteArray := prog_2_method_11_code
def y_Bk_valueOf : MethodName := ⟨R_Bk, "valueOf", "(I)I"⟩
abbrev ws_Bk_valueOf : List Cond := .code y_Bk_valueOf b_Bk_valueOf 2 (some .int) :: TB
theorem p_Bk_valueOf : y_Bk_valueOf.cls = R_Bk ∧ y_Bk_valueOf.cls ≠ "java/lang/invoke/MethodHandle" ∧ y_Bk_valueOf.cls ≠ "java/lang/invoke/VarHandle" ∧ (parseMethodDescriptor y_Bk_valueOf.desc).map (fun d => d.parameters.length) = some 1 := by decide +kernel
abbrev b_Rn_open : ByteArray := prog_4_method_12_code
def y_Rn_open : MethodName := ⟨R_Rn, "open", "(I)V"⟩
abbrev ws_Rn_open : List Cond := .code y_Rn_open b_Rn_open 5 (none : Option Jvm.ClassFile.FieldType) :: TB
theorem p_Rn_open : y_Rn_open.cls = R_Rn ∧ y_Rn_open.cls ≠ "java/lang/invoke/MethodHandle" ∧ y_Rn_open.cls ≠ "java/lang/invoke/VarHandle" ∧ (parseMethodDescriptor y_Rn_open.desc).map (fun d => d.parameters.length) = some 1 := by decide +kernel
abbrev b_Rn_ask : ByteArray := prog_4_method_18_code
def y_Rn_ask : MethodName := ⟨R_Rn, "ask", "(II)I"⟩
abbrev ws_Rn_ask : List Cond := .code y_Rn_ask b_Rn_ask 3 (some .int) :: TB
theorem p_Rn_ask : y_Rn_ask.cls = R_Rn ∧ y_Rn_ask.cls ≠ "java/lang/invoke/MethodHandle" ∧ y_Rn_ask.cls ≠ "java/lang/invoke/VarHandle" ∧ (parseMethodDescriptor y_Rn_ask.desc).map (fun d => d.parameters.length) = some 2 := by decide +kernel
abbrev b_Rn_compareSigns : ByteArray := prog_4_method_19_code
def y_Rn_compareSigns : MethodName := ⟨R_Rn, "compareSigns", "(ZI)I"⟩
abbrev ws_Rn_compareSigns : List Cond := .code y_Rn_compareSigns b_Rn_compareSigns 6 (some .int) :: TB
theorem p_Rn_compareSigns : y_Rn_compareSigns.cls = R_Rn ∧ y_Rn_compareSigns.cls ≠ "java/lang/invoke/MethodHandle" ∧ y_Rn_compareSigns.cls ≠ "java/lang/invoke/VarHandle" ∧ (parseMethodDescriptor y_Rn_compareSigns.desc).map (fun d => d.parameters.length) = some 2 := by decide +kernel
abbrev b_Rn_readSign : ByteArray := prog_4_method_24_code
def y_Rn_readSign : MethodName := ⟨R_Rn, "readSign", "(I)I"⟩
abbrev ws_Rn_readSign : List Cond := .code y_Rn_readSign b_Rn_readSign 3 (some .int) :: TB
theorem p_Rn_readSign : y_Rn_readSign.cls = R_Rn ∧ y_Rn_readSign.cls ≠ "java/lang/invoke/MethodHandle" ∧ y_Rn_readSign.cls ≠ "java/lang/invoke/VarHandle" ∧ (parseMethodDescriptor y_Rn_readSign.desc).map (fun d => d.parameters.length) = some 1 := by decide +kernel
abbrev b_Rn_readGoneOnWith : ByteArray := prog_4_method_25_code
def y_Rn_readGoneOnWith : MethodName := ⟨R_Rn, "readGoneOnWith", "(I)I"⟩
abbrev ws_Rn_readGoneOnWith : List Cond := .code y_Rn_readGoneOnWith b_Rn_readGoneOnWith 4 (some .int) :: TB
theorem p_Rn_readGoneOnWith : y_Rn_readGoneOnWith.cls = R_Rn ∧ y_Rn_readGoneOnWith.cls ≠ "java/lang/invoke/MethodHandle" ∧ y_Rn_readGoneOnWith.cls ≠ "java/lang/invoke/VarHandle" ∧ (parseMethodDescriptor y_Rn_readGoneOnWith.desc).map (fun d => d.parameters.length) = some 1 := by decide +kernel
abbrev b_Rn_lookForMore : ByteArray := prog_4_method_10_code
def y_Rn_lookForMore : MethodName := ⟨R_Rn, "lookForMore", "()I"⟩
abbrev ws_Rn_lookForMore : List Cond := .code y_Rn_lookForMore b_Rn_lookForMore 2 (some .int) :: TB
theorem p_Rn_lookForMore : y_Rn_lookForMore.cls = R_Rn ∧ y_Rn_lookForMore.cls ≠ "java/lang/invoke/MethodHandle" ∧ y_Rn_lookForMore.cls ≠ "java/lang/invoke/VarHandle" ∧ (parseMethodDescriptor y_Rn_lookForMore.desc).map (fun d => d.parameters.length) = some 0 := by decide +kernel
abbrev b_Ct_isMark : ByteArray := prog_1_method_23_code
def y_Ct_isMark : MethodName := ⟨R_Ct, "isMark", "(I)Z"⟩
abbrev ws_Ct_isMark : List Cond := .code y_Ct_isMark b_Ct_isMark 1 (some .boolean) :: TB
theorem p_Ct_isMark : y_Ct_isMark.cls = R_Ct ∧ y_Ct_isMark.cls ≠ "java/lang/invoke/MethodHandle" ∧ y_Ct_isMark.cls ≠ "java/lang/invoke/VarHandle" ∧ (parseMethodDescriptor y_Ct_isMark.desc).map (fun d => d.parameters.length) = some 1 := by decide +kernel
abbrev b_Bk_codeOf : ByteArray := prog_2_method_12_code
def y_Bk_codeOf : MethodName := ⟨R_Bk, "codeOf", "(I)I"⟩
abbrev ws_Bk_codeOf : List Cond := .code y_Bk_codeOf b_Bk_codeOf 2 (some .int) :: TB
theorem p_Bk_codeOf : y_Bk_codeOf.cls = R_Bk ∧ y_Bk_codeOf.cls ≠ "java/lang/invoke/MethodHandle" ∧ y_Bk_codeOf.cls ≠ "java/lang/invoke/VarHandle" ∧ (parseMethodDescriptor y_Bk_codeOf.desc).map (fun d => d.parameters.length) = some 1 := by decide +kernel
abbrev b_Bk_categoryOf : ByteArray := prog_2_method_13_code
def y_Bk_categoryOf : MethodName := ⟨R_Bk, "categoryOf", "(I)I"⟩
abbrev ws_Bk_categoryOf : List Cond := .code y_Bk_categoryOf b_Bk_categoryOf 2 (some .int) :: TB
theorem p_Bk_categoryOf : y_Bk_categoryOf.cls = R_Bk ∧ y_Bk_categoryOf.cls ≠ "java/lang/invoke/MethodHandle" ∧ y_Bk_categoryOf.cls ≠ "java/lang/invoke/VarHandle" ∧ (parseMethodDescriptor y_Bk_categoryOf.desc).map (fun d => d.parameters.length) = some 1 := by decide +kernel
abbrev b_Rn_compareMeanings : ByteArray := prog_4_method_20_code
def y_Rn_compareMeanings : MethodName := ⟨R_Rn, "compareMeanings", "()I"⟩
abbrev ws_Rn_compareMeanings : List Cond := .code y_Rn_compareMeanings b_Rn_compareMeanings 3 (some .int) :: TB
theorem p_Rn_compareMeanings : y_Rn_compareMeanings.cls = R_Rn ∧ y_Rn_compareMeanings.cls ≠ "java/lang/invoke/MethodHandle" ∧ y_Rn_compareMeanings.cls ≠ "java/lang/invoke/VarHandle" ∧ (parseMethodDescriptor y_Rn_compareMeanings.desc).map (fun d => d.parameters.length) = some 0 := by decide +kernel
abbrev b_Bk_meanTheSame : ByteArray := prog_2_method_14_code
def y_Bk_meanTheSame : MethodName := ⟨R_Bk, "meanTheSame", "(II)Z"⟩
abbrev ws_Bk_meanTheSame : List Cond := .code y_Bk_meanTheSame b_Bk_meanTheSame 4 (some .boolean) :: TB
theorem p_Bk_meanTheSame : y_Bk_meanTheSame.cls = R_Bk ∧ y_Bk_meanTheSame.cls ≠ "java/lang/invoke/MethodHandle" ∧ y_Bk_meanTheSame.cls ≠ "java/lang/invoke/VarHandle" ∧ (parseMethodDescriptor y_Bk_meanTheSame.desc).map (fun d => d.parameters.length) = some 2 := by decide +kernel
abbrev b_Bk_haveTheSameTokens : ByteArray := prog_2_method_15_code
def y_Bk_haveTheSameTokens : MethodName := ⟨R_Bk, "haveTheSameTokens", "(II)Z"⟩
abbrev ws_Bk_haveTheSameTokens : List Cond := .code y_Bk_haveTheSameTokens b_Bk_haveTheSameTokens 5 (some .boolean) :: TB
theorem p_Bk_haveTheSameTokens : y_Bk_haveTheSameTokens.cls = R_Bk ∧ y_Bk_haveTheSameTokens.cls ≠ "java/lang/invoke/MethodHandle" ∧ y_Bk_haveTheSameTokens.cls ≠ "java/lang/invoke/VarHandle" ∧ (parseMethodDescriptor y_Bk_haveTheSameTokens.desc).map (fun d => d.parameters.length) = some 2 := by decide +kernel
abbrev b_Rn_compareNumbers : ByteArray := prog_4_method_21_code
def y_Rn_compareNumbers : MethodName := ⟨R_Rn, "compareNumbers", "(I)I"⟩
abbrev ws_Rn_compareNumbers : List Cond := .code y_Rn_compareNumbers b_Rn_compareNumbers 6 (some .int) :: TB
theorem p_Rn_compareNumbers : y_Rn_compareNumbers.cls = R_Rn ∧ y_Rn_compareNumbers.cls ≠ "java/lang/invoke/MethodHandle" ∧ y_Rn_compareNumbers.cls ≠ "java/lang/invoke/VarHandle" ∧ (parseMethodDescriptor y_Rn_compareNumbers.desc).map (fun d => d.parameters.length) = some 1 := by decide +kernel
abbrev b_Rn_readNumber : ByteArray := prog_4_method_26_code
def y_Rn_readNumber : MethodName := ⟨R_Rn, "readNumber", "(I)I"⟩
abbrev ws_Rn_readNumber : List Cond := .code y_Rn_readNumber b_Rn_readNumber 5 (some .int) :: TB
theorem p_Rn_readNumber : y_Rn_readNumber.cls = R_Rn ∧ y_Rn_readNumber.cls ≠ "java/lang/invoke/MethodHandle" ∧ y_Rn_readNumber.cls ≠ "java/lang/invoke/VarHandle" ∧ (parseMethodDescriptor y_Rn_readNumber.desc).map (fun d => d.parameters.length) = some 1 := by decide +kernel
abbrev b_Ct_isDigit : ByteArray := prog_1_method_19_code
def y_Ct_isDigit : MethodName := ⟨R_Ct, "isDigit", "(I)Z"⟩
abbrev ws_Ct_isDigit : List Cond := .code y_Ct_isDigit b_Ct_isDigit 1 (some .boolean) :: TB
theorem p_Ct_isDigit : y_Ct_isDigit.cls = R_Ct ∧ y_Ct_isDigit.cls ≠ "java/lang/invoke/MethodHandle" ∧ y_Ct_isDigit.cls ≠ "java/lang/invoke/VarHandle" ∧ (parseMethodDescriptor y_Ct_isDigit.desc).map (fun d => d.parameters.length) = some 1 := by decide +kernel
abbrev b_Rn_readDigits : ByteArray := prog_4_method_27_code
def y_Rn_readDigits : MethodName := ⟨R_Rn, "readDigits", "(II)I"⟩
abbrev ws_Rn_readDigits : List Cond := .code y_Rn_readDigits b_Rn_readDigits 6 (some .int) :: TB
theorem p_Rn_readDigits : y_Rn_readDigits.cls = R_Rn ∧ y_Rn_readDigits.cls ≠ "java/lang/invoke/MethodHandle" ∧ y_Rn_readDigits.cls ≠ "java/lang/invoke/VarHandle" ∧ (parseMethodDescriptor y_Rn_readDigits.desc).map (fun d => d.parameters.length) = some 2 := by decide +kernel
abbrev b_Ct_isBlank : ByteArray := prog_1_method_21_code
def y_Ct_isBlank : MethodName := ⟨R_Ct, "isBlank", "(I)Z"⟩
abbrev ws_Ct_isBlank : List Cond := .code y_Ct_isBlank b_Ct_isBlank 1 (some .boolean) :: TB
theorem p_Ct_isBlank : y_Ct_isBlank.cls = R_Ct ∧ y_Ct_isBlank.cls ≠ "java/lang/invoke/MethodHandle" ∧ y_Ct_isBlank.cls ≠ "java/lang/invoke/VarHandle" ∧ (parseMethodDescriptor y_Ct_isBlank.desc).map (fun d => d.parameters.length) = some 1 := by decide +kernel
abbrev b_Rd_keep : ByteArray := prog_3_method_5_code
def y_Rd_keep : MethodName := ⟨R_Rd, "keep", "(I)V"⟩
abbrev ws_Rd_keep : List Cond := .code y_Rd_keep b_Rd_keep 2 (none : Option Jvm.ClassFile.FieldType) :: TB
theorem p_Rd_keep : y_Rd_keep.cls = R_Rd ∧ y_Rd_keep.cls ≠ "java/lang/invoke/MethodHandle" ∧ y_Rd_keep.cls ≠ "java/lang/invoke/VarHandle" ∧ (parseMethodDescriptor y_Rd_keep.desc).map (fun d => d.parameters.length) = some 1 := by decide +kernel
abbrev b_Ct_isRelation : ByteArray := prog_1_method_20_code
def y_Ct_isRelation : MethodName := ⟨R_Ct, "isRelation", "(I)Z"⟩
abbrev ws_Ct_isRelation : List Cond := .code y_Ct_isRelation b_Ct_isRelation 1 (some .boolean) :: TB
theorem p_Ct_isRelation : y_Ct_isRelation.cls = R_Ct ∧ y_Ct_isRelation.cls ≠ "java/lang/invoke/MethodHandle" ∧ y_Ct_isRelation.cls ≠ "java/lang/invoke/VarHandle" ∧ (parseMethodDescriptor y_Ct_isRelation.desc).map (fun d => d.parameters.length) = some 1 := by decide +kernel
abbrev b_Rn_askWhetherKnown : ByteArray := prog_4_method_22_code
def y_Rn_askWhetherKnown : MethodName := ⟨R_Rn, "askWhetherKnown", "()I"⟩
abbrev ws_Rn_askWhetherKnown : List Cond := .code y_Rn_askWhetherKnown b_Rn_askWhetherKnown 2 (some .int) :: TB
theorem p_Rn_askWhetherKnown : y_Rn_askWhetherKnown.cls = R_Rn ∧ y_Rn_askWhetherKnown.cls ≠ "java/lang/invoke/MethodHandle" ∧ y_Rn_askWhetherKnown.cls ≠ "java/lang/invoke/VarHandle" ∧ (parseMethodDescriptor y_Rn_askWhetherKnown.desc).map (fun d => d.parameters.length) = some 0 := by decide +kernel
abbrev b_Rn_askWhetherOn : ByteArray := prog_4_method_23_code
def y_Rn_askWhetherOn : MethodName := ⟨R_Rn, "askWhetherOn", "([ZI)I"⟩
abbrev ws_Rn_askWhetherOn : List Cond := .code y_Rn_askWhetherOn b_Rn_askWhetherOn 4 (some .int) :: TB
theorem p_Rn_askWhetherOn : y_Rn_askWhetherOn.cls = R_Rn ∧ y_Rn_askWhetherOn.cls ≠ "java/lang/invoke/MethodHandle" ∧ y_Rn_askWhetherOn.cls ≠ "java/lang/invoke/VarHandle" ∧ (parseMethodDescriptor y_Rn_askWhetherOn.desc).map (fun d => d.parameters.length) = some 2 := by decide +kernel
abbrev b_Rn_decide : ByteArray := prog_4_method_13_code
def y_Rn_decide : MethodName := ⟨R_Rn, "decide", "(III)V"⟩
abbrev ws_Rn_decide : List Cond := .code y_Rn_decide b_Rn_decide 6 (none : Option Jvm.ClassFile.FieldType) :: TB
theorem p_Rn_decide : y_Rn_decide.cls = R_Rn ∧ y_Rn_decide.cls ≠ "java/lang/invoke/MethodHandle" ∧ y_Rn_decide.cls ≠ "java/lang/invoke/VarHandle" ∧ (parseMethodDescriptor y_Rn_decide.desc).map (fun d => d.parameters.length) = some 3 := by decide +kernel
abbrev b_Rn_skip : ByteArray := prog_4_method_17_code
def y_Rn_skip : MethodName := ⟨R_Rn, "skip", "(IZ)V"⟩
abbrev ws_Rn_skip : List Cond := .code y_Rn_skip b_Rn_skip 8 (none : Option Jvm.ClassFile.FieldType) :: TB
theorem p_Rn_skip : y_Rn_skip.cls = R_Rn ∧ y_Rn_skip.cls ≠ "java/lang/invoke/MethodHandle" ∧ y_Rn_skip.cls ≠ "java/lang/invoke/VarHandle" ∧ (parseMethodDescriptor y_Rn_skip.desc).map (fun d => d.parameters.length) = some 2 := by decide +kernel
abbrev b_Rn_isInPlace : ByteArray := prog_4_method_15_code
def y_Rn_isInPlace : MethodName := ⟨R_Rn, "isInPlace", "(I)Z"⟩
abbrev ws_Rn_isInPlace : List Cond := .code y_Rn_isInPlace b_Rn_isInPlace 3 (some .boolean) :: TB
theorem p_Rn_isInPlace : y_Rn_isInPlace.cls = R_Rn ∧ y_Rn_isInPlace.cls ≠ "java/lang/invoke/MethodHandle" ∧ y_Rn_isInPlace.cls ≠ "java/lang/invoke/VarHandle" ∧ (parseMethodDescriptor y_Rn_isInPlace.desc).map (fun d => d.parameters.length) = some 1 := by decide +kernel
abbrev b_Rn_passMark : ByteArray := prog_4_method_16_code
def y_Rn_passMark : MethodName := ⟨R_Rn, "passMark", "(I)V"⟩
abbrev ws_Rn_passMark : List Cond := .code y_Rn_passMark b_Rn_passMark 3 (none : Option Jvm.ClassFile.FieldType) :: TB
theorem p_Rn_passMark : y_Rn_passMark.cls = R_Rn ∧ y_Rn_passMark.cls ≠ "java/lang/invoke/MethodHandle" ∧ y_Rn_passMark.cls ≠ "java/lang/invoke/VarHandle" ∧ (parseMethodDescriptor y_Rn_passMark.desc).map (fun d => d.parameters.length) = some 1 := by decide +kernel
abbrev b_Rn_meetMark : ByteArray := prog_4_method_14_code
def y_Rn_meetMark : MethodName := ⟨R_Rn, "meetMark", "(I)V"⟩
abbrev ws_Rn_meetMark : List Cond := .code y_Rn_meetMark b_Rn_meetMark 2 (none : Option Jvm.ClassFile.FieldType) :: TB
theorem p_Rn_meetMark : y_Rn_meetMark.cls = R_Rn ∧ y_Rn_meetMark.cls ≠ "java/lang/invoke/MethodHandle" ∧ y_Rn_meetMark.cls ≠ "java/lang/invoke/VarHandle" ∧ (parseMethodDescriptor y_Rn_meetMark.desc).map (fun d => d.parameters.length) = some 1 := by decide +kernel
abbrev b_Rn_putOut : ByteArray := prog_4_method_9_code
def y_Rn_putOut : MethodName := ⟨R_Rn, "putOut", "(I)V"⟩
abbrev ws_Rn_putOut : List Cond := .code y_Rn_putOut b_Rn_putOut 2 (none : Option Jvm.ClassFile.FieldType) :: TB
theorem p_Rn_putOut : y_Rn_putOut.cls = R_Rn ∧ y_Rn_putOut.cls ≠ "java/lang/invoke/MethodHandle" ∧ y_Rn_putOut.cls ≠ "java/lang/invoke/VarHandle" ∧ (parseMethodDescriptor y_Rn_putOut.desc).map (fun d => d.parameters.length) = some 1 := by decide +kernel
abbrev b_Ct_at : ByteArray := prog_1_method_9_code
def y_Ct_at : MethodName := ⟨R_Ct, "at", "(I)I"⟩
abbrev ws_Ct_at : List Cond := .code y_Ct_at b_Ct_at 2 (some .int) :: TB
theorem p_Ct_at : y_Ct_at.cls = R_Ct ∧ y_Ct_at.cls ≠ "java/lang/invoke/MethodHandle" ∧ y_Ct_at.cls ≠ "java/lang/invoke/VarHandle" ∧ (parseMethodDescriptor y_Ct_at.desc).map (fun d => d.parameters.length) = some 1 := by decide +kernel
abbrev b_Rn_putOutAt : ByteArray := prog_4_method_3_code
def y_Rn_putOutAt : MethodName := ⟨R_Rn, "putOutAt", "(I)I"⟩
abbrev ws_Rn_putOutAt : List Cond := .code y_Rn_putOutAt b_Rn_putOutAt 2 (some .int) :: TB
theorem p_Rn_putOutAt : y_Rn_putOutAt.cls = R_Rn ∧ y_Rn_putOutAt.cls ≠ "java/lang/invoke/MethodHandle" ∧ y_Rn_putOutAt.cls ≠ "java/lang/invoke/VarHandle" ∧ (parseMethodDescriptor y_Rn_putOutAt.desc).map (fun d => d.parameters.length) = some 1 := by decide +kernel
abbrev b_Ct_told : ByteArray := prog_1_method_10_code
def y_Ct_told : MethodName := ⟨R_Ct, "told", "(I)I"⟩
abbrev ws_Ct_told : List Cond := .code y_Ct_told b_Ct_told 2 (some .int) :: TB
theorem p_Ct_told : y_Ct_told.cls = R_Ct ∧ y_Ct_told.cls ≠ "java/lang/invoke/MethodHandle" ∧ y_Ct_told.cls ≠ "java/lang/invoke/VarHandle" ∧ (parseMethodDescriptor y_Ct_told.desc).map (fun d => d.parameters.length) = some 1 := by decide +kernel
abbrev b_Rn_tell : ByteArray := prog_4_method_5_code
def y_Rn_tell : MethodName := ⟨R_Rn, "tell", "(I)I"⟩
abbrev ws_Rn_tell : List Cond := .code y_Rn_tell b_Rn_tell 2 (some .int) :: TB
theorem p_Rn_tell : y_Rn_tell.cls = R_Rn ∧ y_Rn_tell.cls ≠ "java/lang/invoke/MethodHandle" ∧ y_Rn_tell.cls ≠ "java/lang/invoke/VarHandle" ∧ (parseMethodDescriptor y_Rn_tell.desc).map (fun d => d.parameters.length) = some 1 := by decide +kernel
abbrev b_Rd_stepsMade : ByteArray := prog_3_method_6_code
def y_Rd_stepsMade : MethodName := ⟨R_Rd, "stepsMade", "()I"⟩
abbrev ws_Rd_stepsMade : List Cond := .code y_Rd_stepsMade b_Rd_stepsMade 1 (some .int) :: TB
theorem p_Rd_stepsMade : y_Rd_stepsMade.cls = R_Rd ∧ y_Rd_stepsMade.cls ≠ "java/lang/invoke/MethodHandle" ∧ y_Rd_stepsMade.cls ≠ "java/lang/invoke/VarHandle" ∧ (parseMethodDescriptor y_Rd_stepsMade.desc).map (fun d => d.parameters.length) = some 0 := by decide +kernel
abbrev b_Ct_decided : ByteArray := prog_1_method_11_code
def y_Ct_decided : MethodName := ⟨R_Ct, "decided", "(I)I"⟩
abbrev ws_Ct_decided : List Cond := .code y_Ct_decided b_Ct_decided 2 (some .int) :: TB
theorem p_Ct_decided : y_Ct_decided.cls = R_Ct ∧ y_Ct_decided.cls ≠ "java/lang/invoke/MethodHandle" ∧ y_Ct_decided.cls ≠ "java/lang/invoke/VarHandle" ∧ (parseMethodDescriptor y_Ct_decided.desc).map (fun d => d.parameters.length) = some 1 := by decide +kernel
abbrev b_Rn_decisionOf : ByteArray := prog_4_method_4_code
def y_Rn_decisionOf : MethodName := ⟨R_Rn, "decisionOf", "(I)I"⟩
abbrev ws_Rn_decisionOf : List Cond := .code y_Rn_decisionOf b_Rn_decisionOf 2 (some .int) :: TB
theorem p_Rn_decisionOf : y_Rn_decisionOf.cls = R_Rn ∧ y_Rn_decisionOf.cls ≠ "java/lang/invoke/MethodHandle" ∧ y_Rn_decisionOf.cls ≠ "java/lang/invoke/VarHandle" ∧ (parseMethodDescriptor y_Rn_decisionOf.desc).map (fun d => d.parameters.length) = some 1 := by decide +kernel
abbrev b_Ct_same : ByteArray := prog_1_method_12_code
def y_Ct_same : MethodName := ⟨R_Ct, "same", "(II)Z"⟩
abbrev ws_Ct_same : List Cond := .code y_Ct_same b_Ct_same 3 (some .boolean) :: TB
theorem p_Ct_same : y_Ct_same.cls = R_Ct ∧ y_Ct_same.cls ≠ "java/lang/invoke/MethodHandle" ∧ y_Ct_same.cls ≠ "java/lang/invoke/VarHandle" ∧ (parseMethodDescriptor y_Ct_same.desc).map (fun d => d.parameters.length) = some 2 := by decide +kernel
abbrev b_Ct_count : ByteArray := prog_1_method_13_code
def y_Ct_count : MethodName := ⟨R_Ct, "count", "(I)I"⟩
abbrev ws_Ct_count : List Cond := .code y_Ct_count b_Ct_count 2 (some .int) :: TB
theorem p_Ct_count : y_Ct_count.cls = R_Ct ∧ y_Ct_count.cls ≠ "java/lang/invoke/MethodHandle" ∧ y_Ct_count.cls ≠ "java/lang/invoke/VarHandle" ∧ (parseMethodDescriptor y_Ct_count.desc).map (fun d => d.parameters.length) = some 1 := by decide +kernel
abbrev b_Bk_tokensOfBodies : ByteArray := prog_2_method_8_code
def y_Bk_tokensOfBodies : MethodName := ⟨R_Bk, "tokensOfBodies", "()I"⟩
abbrev ws_Bk_tokensOfBodies : List Cond := .code y_Bk_tokensOfBodies b_Bk_tokensOfBodies 3 (some .int) :: TB
theorem p_Bk_tokensOfBodies : y_Bk_tokensOfBodies.cls = R_Bk ∧ y_Bk_tokensOfBodies.cls ≠ "java/lang/invoke/MethodHandle" ∧ y_Bk_tokensOfBodies.cls ≠ "java/lang/invoke/VarHandle" ∧ (parseMethodDescriptor y_Bk_tokensOfBodies.desc).map (fun d => d.parameters.length) = some 0 := by decide +kernel
abbrev b_Md_init : ByteArray := prog_6_method_1_code
def y_Md_init : MethodName := ⟨R_Md, "<init>", "()V"⟩
abbrev ws_Md_init : List Cond := .code y_Md_init b_Md_init 1 (none : Option Jvm.ClassFile.FieldType) :: TB
theorem p_Md_init : y_Md_init.cls = R_Md ∧ y_Md_init.cls ≠ "java/lang/invoke/MethodHandle" ∧ y_Md_init.cls ≠ "java/lang/invoke/VarHandle" ∧ (parseMethodDescriptor y_Md_init.desc).map (fun d => d.parameters.length) = some 0 := by decide +kernel
abbrev b_Md_meaning : ByteArray := prog_6_method_5_code
def y_Md_meaning : MethodName := ⟨R_Md, "meaning", "(III)I"⟩
abbrev ws_Md_meaning : List Cond := .code y_Md_meaning b_Md_meaning 5 (some .int) :: TB
theorem p_Md_meaning : y_Md_meaning.cls = R_Md ∧ y_Md_meaning.cls ≠ "java/lang/invoke/MethodHandle" ∧ y_Md_meaning.cls ≠ "java/lang/invoke/VarHandle" ∧ (parseMethodDescriptor y_Md_meaning.desc).map (fun d => d.parameters.length) = some 3 := by decide +kernel
abbrev b_Md_in : ByteArray := prog_6_method_3_code
def y_Md_in : MethodName := ⟨R_Md, "in", "(III)Z"⟩
abbrev ws_Md_in : List Cond := .code y_Md_in b_Md_in 3 (some .boolean) :: TB
theorem p_Md_in : y_Md_in.cls = R_Md ∧ y_Md_in.cls ≠ "java/lang/invoke/MethodHandle" ∧ y_Md_in.cls ≠ "java/lang/invoke/VarHandle" ∧ (parseMethodDescriptor y_Md_in.desc).map (fun d => d.parameters.length) = some 3 := by decide +kernel
abbrev b_Md_body : ByteArray := prog_6_method_6_code
def y_Md_body : MethodName := ⟨R_Md, "body", "()I"⟩
abbrev ws_Md_body : List Cond := .code y_Md_body b_Md_body 1 (some .int) :: TB
theorem p_Md_body : y_Md_body.cls = R_Md ∧ y_Md_body.cls ≠ "java/lang/invoke/MethodHandle" ∧ y_Md_body.cls ≠ "java/lang/invoke/VarHandle" ∧ (parseMethodDescriptor y_Md_body.desc).map (fun d => d.parameters.length) = some 0 := by decide +kernel
abbrev b_Md_token : ByteArray := prog_6_method_7_code
def y_Md_token : MethodName := ⟨R_Md, "token", "(II)I"⟩
abbrev ws_Md_token : List Cond := .code y_Md_token b_Md_token 4 (some .int) :: TB
theorem p_Md_token : y_Md_token.cls = R_Md ∧ y_Md_token.cls ≠ "java/lang/invoke/MethodHandle" ∧ y_Md_token.cls ≠ "java/lang/invoke/VarHandle" ∧ (parseMethodDescriptor y_Md_token.desc).map (fun d => d.parameters.length) = some 2 := by decide +kernel
abbrev b_Md_isToken : ByteArray := prog_6_method_4_code
def y_Md_isToken : MethodName := ⟨R_Md, "isToken", "(I)Z"⟩
abbrev ws_Md_isToken : List Cond := .code y_Md_isToken b_Md_isToken 1 (some .boolean) :: TB
theorem p_Md_isToken : y_Md_isToken.cls = R_Md ∧ y_Md_isToken.cls ≠ "java/lang/invoke/MethodHandle" ∧ y_Md_isToken.cls ≠ "java/lang/invoke/VarHandle" ∧ (parseMethodDescriptor y_Md_isToken.desc).map (fun d => d.parameters.length) = some 1 := by decide +kernel
abbrev b_Md_clear : ByteArray := prog_6_method_8_code
def y_Md_clear : MethodName := ⟨R_Md, "clear", "()I"⟩
abbrev ws_Md_clear : List Cond := .code y_Md_clear b_Md_clear 2 (some .int) :: TB
theorem p_Md_clear : y_Md_clear.cls = R_Md ∧ y_Md_clear.cls ≠ "java/lang/invoke/MethodHandle" ∧ y_Md_clear.cls ≠ "java/lang/invoke/VarHandle" ∧ (parseMethodDescriptor y_Md_clear.desc).map (fun d => d.parameters.length) = some 0 := by decide +kernel
abbrev b_Md_mode : ByteArray := prog_6_method_9_code
def y_Md_mode : MethodName := ⟨R_Md, "mode", "(IZ)I"⟩
abbrev ws_Md_mode : List Cond := .code y_Md_mode b_Md_mode 3 (some .int) :: TB
theorem p_Md_mode : y_Md_mode.cls = R_Md ∧ y_Md_mode.cls ≠ "java/lang/invoke/MethodHandle" ∧ y_Md_mode.cls ≠ "java/lang/invoke/VarHandle" ∧ (parseMethodDescriptor y_Md_mode.desc).map (fun d => d.parameters.length) = some 2 := by decide +kernel
abbrev b_Md_end : ByteArray := prog_6_method_10_code
def y_Md_end : MethodName := ⟨R_Md, "end", "(IZ)I"⟩
abbrev ws_Md_end : List Cond := .code y_Md_end b_Md_end 3 (some .int) :: TB
theorem p_Md_end : y_Md_end.cls = R_Md ∧ y_Md_end.cls ≠ "java/lang/invoke/MethodHandle" ∧ y_Md_end.cls ≠ "java/lang/invoke/VarHandle" ∧ (parseMethodDescriptor y_Md_end.desc).map (fun d => d.parameters.length) = some 2 := by decide +kernel
abbrev b_Md_same : ByteArray := prog_6_method_14_code
def y_Md_same : MethodName := ⟨R_Md, "same", "(II)Z"⟩
abbrev ws_Md_same : List Cond := .code y_Md_same b_Md_same 3 (some .boolean) :: TB
theorem p_Md_same : y_Md_same.cls = R_Md ∧ y_Md_same.cls ≠ "java/lang/invoke/MethodHandle" ∧ y_Md_same.cls ≠ "java/lang/invoke/VarHandle" ∧ (parseMethodDescriptor y_Md_same.desc).map (fun d => d.parameters.length) = some 2 := by decide +kernel
abbrev b_Md_areSame : ByteArray := prog_6_method_13_code
def y_Md_areSame : MethodName := ⟨R_Md, "areSame", "(II)Z"⟩
abbrev ws_Md_areSame : List Cond := .code y_Md_areSame b_Md_areSame 8 (some .boolean) :: TB
theorem p_Md_areSame : y_Md_areSame.cls = R_Md ∧ y_Md_areSame.cls ≠ "java/lang/invoke/MethodHandle" ∧ y_Md_areSame.cls ≠ "java/lang/invoke/VarHandle" ∧ (parseMethodDescriptor y_Md_areSame.desc).map (fun d => d.parameters.length) = some 2 := by decide +kernel
abbrev b_Md_kindOf : ByteArray := prog_6_method_11_code
def y_Md_kindOf : MethodName := ⟨R_Md, "kindOf", "(I)I"⟩
abbrev ws_Md_kindOf : List Cond := .code y_Md_kindOf b_Md_kindOf 2 (some .int) :: TB
theorem p_Md_kindOf : y_Md_kindOf.cls = R_Md ∧ y_Md_kindOf.cls ≠ "java/lang/invoke/MethodHandle" ∧ y_Md_kindOf.cls ≠ "java/lang/invoke/VarHandle" ∧ (parseMethodDescriptor y_Md_kindOf.desc).map (fun d => d.parameters.length) = some 1 := by decide +kernel
abbrev b_Md_valueOf : ByteArray := prog_6_method_12_code
def y_Md_valueOf : MethodName := ⟨R_Md, "valueOf", "(I)I"⟩
abbrev ws_Md_valueOf : List Cond := .code y_Md_valueOf b_Md_valueOf 2 (some .int) :: TB
theorem p_Md_valueOf : y_Md_valueOf.cls = R_Md ∧ y_Md_valueOf.cls ≠ "java/lang/invoke/MethodHandle" ∧ y_Md_valueOf.cls ≠ "java/lang/invoke/VarHandle" ∧ (parseMethodDescriptor y_Md_valueOf.desc).map (fun d => d.parameters.length) = some 1 := by decide +kernel
abbrev b_Md_run : ByteArray := prog_6_method_32_code
def y_Md_run : MethodName := ⟨R_Md, "run", "()I"⟩
abbrev ws_Md_run : List Cond := .code y_Md_run b_Md_run 3 (some .int) :: TB
theorem p_Md_run : y_Md_run.cls = R_Md ∧ y_Md_run.cls ≠ "java/lang/invoke/MethodHandle" ∧ y_Md_run.cls ≠ "java/lang/invoke/VarHandle" ∧ (parseMethodDescriptor y_Md_run.desc).map (fun d => d.parameters.length) = some 0 := by decide +kernel
abbrev b_Md_next : ByteArray := prog_6_method_16_code
def y_Md_next : MethodName := ⟨R_Md, "next", "()I"⟩
abbrev ws_Md_next : List Cond := .code y_Md_next b_Md_next 2 (some .int) :: TB
theorem p_Md_next : y_Md_next.cls = R_Md ∧ y_Md_next.cls ≠ "java/lang/invoke/MethodHandle" ∧ y_Md_next.cls ≠ "java/lang/invoke/VarHandle" ∧ (parseMethodDescriptor y_Md_next.desc).map (fun d => d.parameters.length) = some 0 := by decide +kernel
abbrev b_Md_fail : ByteArray := prog_6_method_15_code
def y_Md_fail : MethodName := ⟨R_Md, "fail", "(I)V"⟩
abbrev ws_Md_fail : List Cond := .code y_Md_fail b_Md_fail 2 (none : Option Jvm.ClassFile.FieldType) :: TB
theorem p_Md_fail : y_Md_fail.cls = R_Md ∧ y_Md_fail.cls ≠ "java/lang/invoke/MethodHandle" ∧ y_Md_fail.cls ≠ "java/lang/invoke/VarHandle" ∧ (parseMethodDescriptor y_Md_fail.desc).map (fun d => d.parameters.length) = some 1 := by decide +kernel
abbrev b_Md_isMacro : ByteArray := prog_6_method_19_code
def y_Md_isMacro : MethodName := ⟨R_Md, "isMacro", "(I)Z"⟩
abbrev ws_Md_isMacro : List Cond := .code y_Md_isMacro b_Md_isMacro 2 (some .boolean) :: TB
theorem p_Md_isMacro : y_Md_isMacro.cls = R_Md ∧ y_Md_isMacro.cls ≠ "java/lang/invoke/MethodHandle" ∧ y_Md_isMacro.cls ≠ "java/lang/invoke/VarHandle" ∧ (parseMethodDescriptor y_Md_isMacro.desc).map (fun d => d.parameters.length) = some 1 := by decide +kernel
abbrev b_Md_goOnWith : ByteArray := prog_6_method_18_code
def y_Md_goOnWith : MethodName := ⟨R_Md, "goOnWith", "(I)V"⟩
abbrev ws_Md_goOnWith : List Cond := .code y_Md_goOnWith b_Md_goOnWith 2 (none : Option Jvm.ClassFile.FieldType) :: TB
theorem p_Md_goOnWith : y_Md_goOnWith.cls = R_Md ∧ y_Md_goOnWith.cls ≠ "java/lang/invoke/MethodHandle" ∧ y_Md_goOnWith.cls ≠ "java/lang/invoke/VarHandle" ∧ (parseMethodDescriptor y_Md_goOnWith.desc).map (fun d => d.parameters.length) = some 1 := by decide +kernel
abbrev b_Md_open : ByteArray := prog_6_method_29_code
def y_Md_open : MethodName := ⟨R_Md, "open", "(I)V"⟩
abbrev ws_Md_open : List Cond := .code y_Md_open b_Md_open 6 (none : Option Jvm.ClassFile.FieldType) :: TB
theorem p_Md_open : y_Md_open.cls = R_Md ∧ y_Md_open.cls ≠ "java/lang/invoke/MethodHandle" ∧ y_Md_open.cls ≠ "java/lang/invoke/VarHandle" ∧ (parseMethodDescriptor y_Md_open.desc).map (fun d => d.parameters.length) = some 1 := by decide +kernel
abbrev b_Md_answer : ByteArray := prog_6_method_27_code
def y_Md_answer : MethodName := ⟨R_Md, "answer", "(II)I"⟩
abbrev ws_Md_answer : List Cond := .code y_Md_answer b_Md_answer 6 (some .int) :: TB
theorem p_Md_answer : y_Md_answer.cls = R_Md ∧ y_Md_answer.cls ≠ "java/lang/invoke/MethodHandle" ∧ y_Md_answer.cls ≠ "java/lang/invoke/VarHandle" ∧ (parseMethodDescriptor y_Md_answer.desc).map (fun d => d.parameters.length) = some 2 := by decide +kernel
abbrev b_Md_askedToken : ByteArray := prog_6_method_21_code
def y_Md_askedToken : MethodName := ⟨R_Md, "askedToken", "(I)I"⟩
abbrev ws_Md_askedToken : List Cond := .code y_Md_askedToken b_Md_askedToken 3 (some .int) :: TB
theorem p_Md_askedToken : y_Md_askedToken.cls = R_Md ∧ y_Md_askedToken.cls ≠ "java/lang/invoke/MethodHandle" ∧ y_Md_askedToken.cls ≠ "java/lang/invoke/VarHandle" ∧ (parseMethodDescriptor y_Md_askedToken.desc).map (fun d => d.parameters.length) = some 1 := by decide +kernel
abbrev b_Md_asked : ByteArray := prog_6_method_20_code
def y_Md_asked : MethodName := ⟨R_Md, "asked", "(I)I"⟩
abbrev ws_Md_asked : List Cond := .code y_Md_asked b_Md_asked 5 (some .int) :: TB
theorem p_Md_asked : y_Md_asked.cls = R_Md ∧ y_Md_asked.cls ≠ "java/lang/invoke/MethodHandle" ∧ y_Md_asked.cls ≠ "java/lang/invoke/VarHandle" ∧ (parseMethodDescriptor y_Md_asked.desc).map (fun d => d.parameters.length) = some 1 := by decide +kernel
abbrev b_Md_need : ByteArray := prog_6_method_17_code
def y_Md_need : MethodName := ⟨R_Md, "need", "()I"⟩
abbrev ws_Md_need : List Cond := .code y_Md_need b_Md_need 2 (some .int) :: TB
theorem p_Md_need : y_Md_need.cls = R_Md ∧ y_Md_need.cls ≠ "java/lang/invoke/MethodHandle" ∧ y_Md_need.cls ≠ "java/lang/invoke/VarHandle" ∧ (parseMethodDescriptor y_Md_need.desc).map (fun d => d.parameters.length) = some 0 := by decide +kernel
abbrev b_Md_belongs : ByteArray := prog_6_method_31_code
def y_Md_belongs : MethodName := ⟨R_Md, "belongs", "(I)V"⟩
abbrev ws_Md_belongs : List Cond := .code y_Md_belongs b_Md_belongs 3 (none : Option Jvm.ClassFile.FieldType) :: TB
theorem p_Md_belongs : y_Md_belongs.cls = R_Md ∧ y_Md_belongs.cls ≠ "java/lang/invoke/MethodHandle" ∧ y_Md_belongs.cls ≠ "java/lang/invoke/VarHandle" ∧ (parseMethodDescriptor y_Md_belongs.desc).map (fun d => d.parameters.length) = some 1 := by decide +kernel
abbrev b_Md_skip : ByteArray := prog_6_method_30_code
def y_Md_skip : MethodName := ⟨R_Md, "skip", "(ZZI)V"⟩
abbrev ws_Md_skip : List Cond := .code y_Md_skip b_Md_skip 9 (none : Option Jvm.ClassFile.FieldType) :: TB
theorem p_Md_skip : y_Md_skip.cls = R_Md ∧ y_Md_skip.cls ≠ "java/lang/invoke/MethodHandle" ∧ y_Md_skip.cls ≠ "java/lang/invoke/VarHandle" ∧ (parseMethodDescriptor y_Md_skip.desc).map (fun d => d.parameters.length) = some 3 := by decide +kernel
abbrev b_Md_code : ByteArray := prog_6_method_25_code
def y_Md_code : MethodName := ⟨R_Md, "code", "(I)I"⟩
abbrev ws_Md_code : List Cond := .code y_Md_code b_Md_code 2 (some .int) :: TB
theorem p_Md_code : y_Md_code.cls = R_Md ∧ y_Md_code.cls ≠ "java/lang/invoke/MethodHandle" ∧ y_Md_code.cls ≠ "java/lang/invoke/VarHandle" ∧ (parseMethodDescriptor y_Md_code.desc).map (fun d => d.parameters.length) = some 1 := by decide +kernel
abbrev b_Md_category : ByteArray := prog_6_method_26_code
def y_Md_category : MethodName := ⟨R_Md, "category", "(I)I"⟩
abbrev ws_Md_category : List Cond := .code y_Md_category b_Md_category 2 (some .int) :: TB
theorem p_Md_category : y_Md_category.cls = R_Md ∧ y_Md_category.cls ≠ "java/lang/invoke/MethodHandle" ∧ y_Md_category.cls ≠ "java/lang/invoke/VarHandle" ∧ (parseMethodDescriptor y_Md_category.desc).map (fun d => d.parameters.length) = some 1 := by decide +kernel
abbrev b_Md_yes : ByteArray := prog_6_method_28_code
def y_Md_yes : MethodName := ⟨R_Md, "yes", "(Z)I"⟩
abbrev ws_Md_yes : List Cond := .code y_Md_yes b_Md_yes 1 (some .int) :: TB
theorem p_Md_yes : y_Md_yes.cls = R_Md ∧ y_Md_yes.cls ≠ "java/lang/invoke/MethodHandle" ∧ y_Md_yes.cls ≠ "java/lang/invoke/VarHandle" ∧ (parseMethodDescriptor y_Md_yes.desc).map (fun d => d.parameters.length) = some 1 := by decide +kernel
abbrev b_Md_number : ByteArray := prog_6_method_24_code
def y_Md_number : MethodName := ⟨R_Md, "number", "(I)I"⟩
abbrev ws_Md_number : List Cond := .code y_Md_number b_Md_number 6 (some .int) :: TB
theorem p_Md_number : y_Md_number.cls = R_Md ∧ y_Md_number.cls ≠ "java/lang/invoke/MethodHandle" ∧ y_Md_number.cls ≠ "java/lang/invoke/VarHandle" ∧ (parseMethodDescriptor y_Md_number.desc).map (fun d => d.parameters.length) = some 1 := by decide +kernel
abbrev b_Md_isSignOf : ByteArray := prog_6_method_22_code
def y_Md_isSignOf : MethodName := ⟨R_Md, "isSignOf", "(III)Z"⟩
abbrev ws_Md_isSignOf : List Cond := .code y_Md_isSignOf b_Md_isSignOf 4 (some .boolean) :: TB
theorem p_Md_isSignOf : y_Md_isSignOf.cls = R_Md ∧ y_Md_isSignOf.cls ≠ "java/lang/invoke/MethodHandle" ∧ y_Md_isSignOf.cls ≠ "java/lang/invoke/VarHandle" ∧ (parseMethodDescriptor y_Md_isSignOf.desc).map (fun d => d.parameters.length) = some 3 := by decide +kernel
abbrev b_Md_isDigit : ByteArray := prog_6_method_23_code
def y_Md_isDigit : MethodName := ⟨R_Md, "isDigit", "(I)Z"⟩
abbrev ws_Md_isDigit : List Cond := .code y_Md_isDigit b_Md_isDigit 2 (some .boolean) :: TB
theorem p_Md_isDigit : y_Md_isDigit.cls = R_Md ∧ y_Md_isDigit.cls ≠ "java/lang/invoke/MethodHandle" ∧ y_Md_isDigit.cls ≠ "java/lang/invoke/VarHandle" ∧ (parseMethodDescriptor y_Md_isDigit.desc).map (fun d => d.parameters.length) = some 1 := by decide +kernel
abbrev b_Md_at : ByteArray := prog_6_method_33_code
def y_Md_at : MethodName := ⟨R_Md, "at", "(I)I"⟩
abbrev ws_Md_at : List Cond := .code y_Md_at b_Md_at 2 (some .int) :: TB
theorem p_Md_at : y_Md_at.cls = R_Md ∧ y_Md_at.cls ≠ "java/lang/invoke/MethodHandle" ∧ y_Md_at.cls ≠ "java/lang/invoke/VarHandle" ∧ (parseMethodDescriptor y_Md_at.desc).map (fun d => d.parameters.length) = some 1 := by decide +kernel
abbrev b_Md_told : ByteArray := prog_6_method_34_code
def y_Md_told : MethodName := ⟨R_Md, "told", "(I)I"⟩
abbrev ws_Md_told : List Cond := .code y_Md_told b_Md_told 2 (some .int) :: TB
theorem p_Md_told : y_Md_told.cls = R_Md ∧ y_Md_told.cls ≠ "java/lang/invoke/MethodHandle" ∧ y_Md_told.cls ≠ "java/lang/invoke/VarHandle" ∧ (parseMethodDescriptor y_Md_told.desc).map (fun d => d.parameters.length) = some 1 := by decide +kernel
abbrev b_Md_decided : ByteArray := prog_6_method_35_code
def y_Md_decided : MethodName := ⟨R_Md, "decided", "(I)I"⟩
abbrev ws_Md_decided : List Cond := .code y_Md_decided b_Md_decided 2 (some .int) :: TB
theorem p_Md_decided : y_Md_decided.cls = R_Md ∧ y_Md_decided.cls ≠ "java/lang/invoke/MethodHandle" ∧ y_Md_decided.cls ≠ "java/lang/invoke/VarHandle" ∧ (parseMethodDescriptor y_Md_decided.desc).map (fun d => d.parameters.length) = some 1 := by decide +kernel
abbrev b_Md_count : ByteArray := prog_6_method_36_code
def y_Md_count : MethodName := ⟨R_Md, "count", "(I)I"⟩
abbrev ws_Md_count : List Cond := .code y_Md_count b_Md_count 4 (some .int) :: TB
theorem p_Md_count : y_Md_count.cls = R_Md ∧ y_Md_count.cls ≠ "java/lang/invoke/MethodHandle" ∧ y_Md_count.cls ≠ "java/lang/invoke/VarHandle" ∧ (parseMethodDescriptor y_Md_count.desc).map (fun d => d.parameters.length) = some 1 := by decide +kernel
def nestL : List (String × Nat × MethodName × String) := [(R_Bk, 39, y_Ct_isName, R_Ct), (R_Rn, 101, y_Ct_isMacro, R_Ct), (R_Rn, 94, y_Ct_isMark, R_Ct), (R_Bk, 49, y_Ct_isMacro, R_Ct), (R_Rn, 186, y_Ct_isDigit, R_Ct), (R_Rn, 192, y_Ct_isBlank, R_Ct), (R_Rn, 180, y_Ct_isRelation, R_Ct)]
theorem nest_0 : (R_Bk, 39, y_Ct_isName, R_Ct) ∈ nestL := List.mem_of_getElem? (i := 0) rfl
theorem nest_1 : (R_Rn, 101, y_Ct_isMacro, R_Ct) ∈ nestL := List.mem_of_getElem? (i := 1) rfl
theorem nest_2 : (R_Rn, 94, y_Ct_isMark, R_Ct) ∈ nestL := List.mem_of_getElem? (i := 2) rfl
theorem nest_3 : (R_Bk, 49, y_Ct_isMacro, R_Ct) ∈ nestL := List.mem_of_getElem? (i := 3) rfl
theorem nest_4 : (R_Rn, 186, y_Ct_isDigit, R_Ct) ∈ nestL := List.mem_of_getElem? (i := 4) rfl
theorem nest_5 : (R_Rn, 192, y_Ct_isBlank, R_Ct) ∈ nestL := List.mem_of_getElem? (i := 5) rfl
theorem nest_6 : (R_Rn, 180, y_Ct_isRelation, R_Ct) ∈ nestL := List.mem_of_getElem? (i := 6) rfl
end
section
/-! Rows of my own over the kit: contracts over a world as one word, calls as one row. -/
/-- the links of nest mates hold: a word of this kind isn't kept by the tables' own rows, so every contract carries it -/
def wx_N (U : State) : Prop := ∀ q ∈ nestL, va_Nw (.methodLinkNest q.1 q.2.1 q.2.2.1 q.2.2.2) U
theorem wx_N.warm {s U : State} (hW : s.WarmedH U.vm) (h : wx_N s) : wx_N U := fun q hq => va_Nw.warmM hW (h q hq)
theorem tb_in {c : Cond} (h : c ∈ TB) : GoodIn TB (c :: TB) := fun w hw => (List.mem_cons.mp hw).elim (fun e => by rw [e]; exact ⟨h, good_of_word (TB_good c h)⟩) (fun h => ⟨h, good_of_word (TB_good w h)⟩)
theorem tb_V {own C : String} {idx : Nat} {y : MethodName} {c : Cond} (h1 : Cond.methodLink own idx y ∈ TB) (h2 : Cond.instanceMethod y ∈ TB) (h3 : Cond.selects C y y ∈ TB) (h4 : Cond.initialized C ∈ TB) (h5 : c ∈ TB) : GoodIn TB (wsV own idx C y (c :: TB)) := by
  intro w hw
  unfold wsV at hw
  rcases List.mem_append.mp hw with hw | hw
  · have hm : w ∈ TB := by
      simp only [List.mem_cons, List.not_mem_nil, or_false] at hw
      rcases hw with rfl | rfl | rfl | rfl <;> assumption
    exact ⟨hm, good_of_word (TB_good w hm)⟩
  · exact tb_in h5 w hw
theorem tb_S {own : String} {idx : Nat} {y : MethodName} {c : Cond} (h1 : Cond.methodLink own idx y ∈ TB) (h2 : Cond.static y ∈ TB) (h4 : Cond.initialized y.cls ∈ TB) (h5 : c ∈ TB) : GoodIn TB (va_wsS own idx y (c :: TB)) := by
  intro w hw
  unfold va_wsS at hw
  rcases List.mem_append.mp hw with hw | hw
  · have hm : w ∈ TB := by
      simp only [List.mem_cons, List.not_mem_nil, or_false] at hw
      rcases hw with rfl | rfl | rfl <;> assumption
    exact ⟨hm, good_of_word (TB_good w hm)⟩
  · exact tb_in h5 w hw
abbrev wx_P (D : va_G) (cl : List vw_C) (ty : List (ClassId × FieldType)) (w : va_W) (sz : Nat) : State → Prop := fun U => U.heap.size = sz ∧ va_P D cl w U.heap ∧ va_K D cl ty U ∧ va_D (fun _ => True) w ∧ wx_N U
abbrev wx_B {S : Type} (D : va_G) (cl : List vw_C) (ty : List (ClassId × FieldType)) (w : S → va_W) (A : Nat → Prop) : S → State → Prop := fun v t => va_P D cl (w v) t.heap ∧ va_K D cl ty t ∧ va_D A (w v)
/-- the contract of a method that answers an int (or a boolean) -/
abbrev wx_Mi {S : Type} (l : Launch) (y : MethodName) (ws : List Cond) (rm : Room) (D : va_G) (cl : List vw_C) (ty : List (ClassId × FieldType)) (av : List Value) (w0 : va_W) (sz : Nat) (w : S → va_W) (post : Int32 → S → Prop) : Prop :=
  Met l y ws rm (va_Pc av (wx_P D cl ty w0 sz)) (va_Qi post (wx_B D cl ty w (va_A w0 sz)) (va_A w0 sz)) 0 0 (va_A w0 sz)
/-- the contract of a method that answers nothing -/
abbrev wx_Mv {S : Type} (l : Launch) (y : MethodName) (ws : List Cond) (rm : Room) (D : va_G) (cl : List vw_C) (ty : List (ClassId × FieldType)) (av : List Value) (w0 : va_W) (sz : Nat) (w : S → va_W) (post : S → Prop) : Prop :=
  Met l y ws rm (va_Pc av (wx_P D cl ty w0 sz)) (va_Qv post (wx_B D cl ty w (va_A w0 sz)) (va_A w0 sz)) 0 0 (va_A w0 sz)
theorem wx_blind {D : va_G} {cl : List vw_C} {ty : List (ClassId × FieldType)} {w : va_W} {sz : Nat} {av : List Value} : FrameBlind (va_Pc av (wx_P D cl ty w sz)) := fun a U g mk q => by
  obtain ⟨q0, q1, qP, qK, qD, qN⟩ := q
  exact ⟨q0, q1, qP, va_K.moved (u := U) (U := U.calling g mk a) (Vm.Alike.refl U.vm) qK, qD, fun z hz => va_Nw.same (u := U) (U := U.calling g mk a) rfl rfl (qN z hz)⟩
theorem wx_fm {α : Type} (ws : List α) : ∀ (is : List Nat) (wc : List α), is.map (fun i => ws[i]?) = wc.map some → is.filterMap (fun i => ws[i]?) = wc
  | [], [], _ => rfl
  | [], _ :: _, h => by simp at h
  | _ :: _, [], h => by simp at h
  | i :: is, w :: wc, h => by
    simp only [List.map_cons, List.cons.injEq] at h
    rw [List.filterMap_cons, h.1, wx_fm ws is wc h.2]
theorem wx_mf {α : Type} (ws : List α) : ∀ (is : List Nat), is.all (fun i => decide (i < ws.length)) = true → is.map (fun i => ws[i]?) = (is.filterMap (fun i => ws[i]?)).map some
  | [], _ => rfl
  | i :: is, h => by
    simp only [List.all_cons, Bool.and_eq_true, decide_eq_true_eq] at h
    have h1 : ws[i]? = some ws[i] := List.getElem?_eq_getElem h.1
    rw [List.map_cons, List.filterMap_cons, h1, wx_mf ws is h.2]
    rfl
/-- behind a call: the caller's cells in their old order, those of the callee as they came back -/
theorem wx_mix {A0 : Nat → Prop} {D : va_G} {cl : List vw_C} {ws wc w1 w2 : va_W} {H H1 : Heap} (hP : va_P D cl ws H) (hD : va_D A0 ws) (isC isR pm : List Nat) (hC : isC.map (fun i => ws[i]?) = wc.map some) (hR : isR.all (fun i => decide (i < ws.length)) = true) (hn : va_nd isR = true) (hdis : ∀ i ∈ isR, i ∉ isC) (hpn : va_nd pm = true)
    (hpm : pm.map (fun i => (isR.filterMap (fun i => ws[i]?) ++ w1)[i]?) = w2.map some) (hk : ∀ q : Nat, q < H.size → ¬ va_A wc H.size q → H1[q]? = H[q]?) (hF : ∀ q, va_A wc H.size q → A0 q) (hP1 : va_P D cl w1 H1) (hD1 : va_D (va_A wc H.size) w1) : va_P D cl w2 H1 ∧ va_D A0 w2 := by
  obtain ⟨hP2, hD2⟩ := va_join (wr := isR.filterMap (fun i => ws[i]?)) (w1 := w1) hP hD isC isR hC (wx_mf ws isR hR) hn hdis hk hF hP1 hD1
  exact ⟨hP2.sub pm (wx_fm _ pm w2 hpm), hD2.sub pm hpn hpm⟩
section WX
variable {p : Program} {l : Launch} {e : Env} {R : Room} {s : State} {m : MethodId} {args : Array Value} {below : List Frame} {meth : Method} {c : Code} {H : Heap} {locs : List Loc} {cells slots : Nat} {Q : State → Prop}
  {Ts ws : List Cond} {cc bytes : ByteArray} {nL maxL index n pc : Nat} {own host : String} {y : MethodName} {ret : Option FieldType} {rm : Room} {b : Addr} {As rest st0 : List Value} {ls : Array Slot} {a : Array Value}
  {D : va_G} {cl : List vw_C} {tys tyc : List (ClassId × FieldType)} {ww wc : va_W} {A : Nat → Prop} {ci q0 : Nat} {q : vw_C} {fs : List Value}
theorem wx_ci {S : Type} {wS ws2 : S → va_W} {post : Int32 → S → Prop} (hr : va_Run p l e R s m args below meth c H locs cells slots 0 0 (F0 m pc ls st0) rest (va_Qi post (wx_B D cl tyc wS (va_A wc H.size)) (va_A wc H.size) a) (va_A wc H.size)) (hP : va_P D cl ww H) (hD : va_D A ww) (hS : va_S A s.heap H locs) (hA : ∀ q, s.heap.size ≤ q → A q) (isC isR pm : List Nat)
    (hC : isC.map (fun i => ww[i]?) = wc.map some) (hR : isR.all (fun i => decide (i < ww.length)) = true) (hn : va_nd isR = true) (hdis : ∀ i ∈ isR, i ∉ isC) (hpn : va_nd pm = true) (hpm : ∀ u, pm.map (fun i => (isR.filterMap (fun i => ww[i]?) ++ wS u)[i]?) = (ws2 u).map some)
    (kk : ∀ (r : Int32) (u : S) (H1 : Heap) (locs1 : List Loc), post r u → va_P D cl (ws2 u) H1 → va_D A (ws2 u) → va_S A s.heap H1 locs1 → W p l e R s m args below meth c H1 locs1 cells slots Q (F0 m (pc + 3) ls (.int r :: rest))) : W p l e R s m args below meth c H locs cells slots Q (F0 m pc ls st0) := by
  have hFc := va_free (wc := wc) hD hS hA isC hC
  refine va_calli hr hS (fun q _ h => hFc q h) hFc (fun r u t H1 locs1 ht hvm hw hB hz1 hk1 hS1 => ?_)
  obtain ⟨hP1, hK1, hD1⟩ := hB
  rw [ht] at hP1
  obtain ⟨hP2, hD2⟩ := wx_mix hP hD isC isR pm hC hR hn hdis hpn (hpm u) hk1 hFc hP1 hD1
  exact kk r u H1 locs1 hw hP2 hD2 hS1
theorem wx_cv {S : Type} {wS ws2 : S → va_W} {post : S → Prop} (hr : va_Run p l e R s m args below meth c H locs cells slots 0 0 (F0 m pc ls st0) rest (va_Qv post (wx_B D cl tyc wS (va_A wc H.size)) (va_A wc H.size) a) (va_A wc H.size)) (hP : va_P D cl ww H) (hD : va_D A ww) (hS : va_S A s.heap H locs) (hA : ∀ q, s.heap.size ≤ q → A q) (isC isR pm : List Nat)
    (hC : isC.map (fun i => ww[i]?) = wc.map some) (hR : isR.all (fun i => decide (i < ww.length)) = true) (hn : va_nd isR = true) (hdis : ∀ i ∈ isR, i ∉ isC) (hpn : va_nd pm = true) (hpm : ∀ u, pm.map (fun i => (isR.filterMap (fun i => ww[i]?) ++ wS u)[i]?) = (ws2 u).map some)
    (kk : ∀ (u : S) (H1 : Heap) (locs1 : List Loc), post u → va_P D cl (ws2 u) H1 → va_D A (ws2 u) → va_S A s.heap H1 locs1 → W p l e R s m args below meth c H1 locs1 cells slots Q (F0 m (pc + 3) ls rest)) : W p l e R s m args below meth c H locs cells slots Q (F0 m pc ls st0) := by
  have hFc := va_free (wc := wc) hD hS hA isC hC
  refine va_callv hr hS (fun q _ h => hFc q h) hFc (fun u t H1 locs1 ht hvm hw hB hz1 hk1 hS1 => ?_)
  obtain ⟨hP1, hK1, hD1⟩ := hB
  rw [ht] at hP1
  obtain ⟨hP2, hD2⟩ := wx_mix hP hD isC isR pm hC hR hn hdis hpn (hpm u) hk1 hFc hP1 hD1
  exact kk u H1 locs1 hw hP2 hD2 hS1
/-- what a callee over the cells wc finds at its start -/
theorem wx_preS {av : List Value} (hN : wx_N s) (hK : va_K D cl tys s) (hP : va_P D cl ww H) (hD : va_D A ww) (isC isT : List Nat) (hC : isC.map (fun i => ww[i]?) = wc.map some) (hnC : va_nd isC = true) (hT : isT.filterMap (fun i => tys[i]?) = tyc) : PreS s H (va_Pc av (wx_P D cl tyc wc H.size)) av :=
  ⟨wx_blind, fun U hU hW => ⟨rfl, by rw [hU], by rw [hU]; exact hP.sub isC (wx_fm _ isC wc hC), va_K.moved hW.alike (hK.sub isT hT), (hD.sub isC hnC hC).weaken (fun _ _ _ _ => trivial), hN.warm hW⟩⟩
theorem wx_preV (hN : wx_N s) (hK : va_K D cl tys s) (hP : va_P D cl ww H) (hD : va_D A ww) (isC isT : List Nat) (hC : isC.map (fun i => ww[i]?) = wc.map some) (hnC : va_nd isC = true) (hT : isT.filterMap (fun i => tys[i]?) = tyc) (hc : cl[ci]? = some q) (he : wc[q0]? = some (b, .inr (ci, fs))) : PreV s H q.1 b (va_Pc (.ref b :: As) (wx_P D cl tyc wc H.size)) As :=
  ⟨wx_blind, va_recv (hK.sub isT hT) (hP.sub isC (wx_fm _ isC wc hC)) hc he, fun U hU hW => ⟨rfl, by rw [hU], by rw [hU]; exact hP.sub isC (wx_fm _ isC wc hC), va_K.moved hW.alike (hK.sub isT hT), (hD.sub isC hnC hC).weaken (fun _ _ _ _ => trivial), hN.warm hW⟩⟩
end WX
/-- what stands through a walk: the machine, the code, the tables' words, which cells may change, the classes -/
def wx_C (p : Program) (s : State) (m : MethodId) (args : Array Value) (meth : Method) (c : Code) (cc : ByteArray) (ret : Option FieldType) (nL : Nat) (own : String) (A : Nat → Prop) (D : va_G) (cl : List vw_C) (tys : List (ClassId × FieldType)) : Prop :=
  p.tables.exec = Jvm.exec ∧ c.code = cc ∧ meth.sig.returnType = ret ∧ c.maxLocals = nL ∧ s.vm.findClass own = some m.cls ∧ (∀ w ∈ TB, w.before args s = true) ∧ meth.locks = false ∧ (∀ q : Nat, s.heap.size ≤ q → A q) ∧ va_K D cl tys s ∧ wx_N s
theorem wx_inAU {x N : Int32} {n : Nat} (hN : N.toInt ≤ (n : Int)) (h0 : ¬ x < 0) (h1 : ¬ N ≤ x) : vp_in x n := by
  rw [Int32.lt_iff_toInt_lt, Int32.toInt_zero] at h0
  rw [Int32.le_iff_toInt_le] at h1
  rw [vp_in_iff]
  omega
theorem wx_inAV {x N : Int32} {n : Nat} (hN : N.toInt ≤ (n : Int)) (h0 : ¬ x < 0) (h1 : x < N) : vp_in x n := by
  rw [Int32.lt_iff_toInt_lt, Int32.toInt_zero] at h0
  rw [Int32.lt_iff_toInt_lt] at h1
  rw [vp_in_iff]
  omega
theorem wx_inBU {x N : Int32} {n : Nat} (hN : N.toInt ≤ (n : Int)) (h0 : 0 ≤ x) (h1 : ¬ N ≤ x) : vp_in x n := by
  rw [Int32.le_iff_toInt_le, Int32.toInt_zero] at h0
  rw [Int32.le_iff_toInt_le] at h1
  rw [vp_in_iff]
  omega
theorem wx_inBV {x N : Int32} {n : Nat} (hN : N.toInt ≤ (n : Int)) (h0 : 0 ≤ x) (h1 : x < N) : vp_in x n := by
  rw [Int32.le_iff_toInt_le, Int32.toInt_zero] at h0
  rw [Int32.lt_iff_toInt_lt] at h1
  rw [vp_in_iff]
  omega
theorem wx_inAW {x N : Int32} {n : Nat} (hN : N.toInt < (n : Int)) (h0 : ¬ x < 0) (h1 : ¬ N < x) : vp_in x n := by
  rw [Int32.lt_iff_toInt_lt, Int32.toInt_zero] at h0
  rw [Int32.lt_iff_toInt_lt] at h1
  rw [vp_in_iff]
  omega
end
section
/-! the states of class and reference, and their worlds (laid by program) -/
abbrev TBk : Type := (Nat → Int32) × (Nat → Int32) × (Nat → Int32) × (Nat → Int32) × (Nat → Int32) × (Nat → Int32) × Int32
def TBk_kinds (u : TBk) : (Nat → Int32) := u.1
def TBk_set_kinds (u : TBk) (x : (Nat → Int32)) : TBk := (x, u.2.1, u.2.2.1, u.2.2.2.1, u.2.2.2.2.1, u.2.2.2.2.2.1, u.2.2.2.2.2.2)
def TBk_values (u : TBk) : (Nat → Int32) := u.2.1
def TBk_set_values (u : TBk) (x : (Nat → Int32)) : TBk := (u.1, x, u.2.2.1, u.2.2.2.1, u.2.2.2.2.1, u.2.2.2.2.2.1, u.2.2.2.2.2.2)
def TBk_cells (u : TBk) : (Nat → Int32) := u.2.2.1
def TBk_set_cells (u : TBk) (x : (Nat → Int32)) : TBk := (u.1, u.2.1, x, u.2.2.2.1, u.2.2.2.2.1, u.2.2.2.2.2.1, u.2.2.2.2.2.2)
def TBk_sizes (u : TBk) : (Nat → Int32) := u.2.2.2.1
def TBk_set_sizes (u : TBk) (x : (Nat → Int32)) : TBk := (u.1, u.2.1, u.2.2.1, x, u.2.2.2.2.1, u.2.2.2.2.2.1, u.2.2.2.2.2.2)
def TBk_modes (u : TBk) : (Nat → Int32) := u.2.2.2.2.1
def TBk_set_modes (u : TBk) (x : (Nat → Int32)) : TBk := (u.1, u.2.1, u.2.2.1, u.2.2.2.1, x, u.2.2.2.2.2.1, u.2.2.2.2.2.2)
def TBk_files (u : TBk) : (Nat → Int32) := u.2.2.2.2.2.1
def TBk_set_files (u : TBk) (x : (Nat → Int32)) : TBk := (u.1, u.2.1, u.2.2.1, u.2.2.2.1, u.2.2.2.2.1, x, u.2.2.2.2.2.2)
def TBk_bodyCount (u : TBk) : Int32 := u.2.2.2.2.2.2
def TBk_set_bodyCount (u : TBk) (x : Int32) : TBk := (u.1, u.2.1, u.2.2.1, u.2.2.2.1, u.2.2.2.2.1, u.2.2.2.2.2.1, x)
abbrev TRd : Type := (Nat → Int32) × (Nat → Int32) × Int32 × Int32 × Int32
def TRd_rows (u : TRd) : (Nat → Int32) := u.1
def TRd_set_rows (u : TRd) (x : (Nat → Int32)) : TRd := (x, u.2.1, u.2.2.1, u.2.2.2.1, u.2.2.2.2)
def TRd_places (u : TRd) : (Nat → Int32) := u.2.1
def TRd_set_places (u : TRd) (x : (Nat → Int32)) : TRd := (u.1, x, u.2.2.1, u.2.2.2.1, u.2.2.2.2)
def TRd_top (u : TRd) : Int32 := u.2.2.1
def TRd_set_top (u : TRd) (x : Int32) : TRd := (u.1, u.2.1, x, u.2.2.2.1, u.2.2.2.2)
def TRd_kept (u : TRd) : Int32 := u.2.2.2.1
def TRd_set_kept (u : TRd) (x : Int32) : TRd := (u.1, u.2.1, u.2.2.1, x, u.2.2.2.2)
def TRd_steps (u : TRd) : Int32 := u.2.2.2.2
def TRd_set_steps (u : TRd) (x : Int32) : TRd := (u.1, u.2.1, u.2.2.1, u.2.2.2.1, x)
abbrev TRn : Type := TRd × (Nat → Int32) × (Nat → Int32) × (Nat → Int32) × (Nat → Int32) × Int32 × Int32 × Int32 × Int32 × Int32 × Int32
def TRn_rd (u : TRn) : TRd := u.1
def TRn_set_rd (u : TRn) (x : TRd) : TRn := (x, u.2.1, u.2.2.1, u.2.2.2.1, u.2.2.2.2.1, u.2.2.2.2.2.1, u.2.2.2.2.2.2.1, u.2.2.2.2.2.2.2.1, u.2.2.2.2.2.2.2.2.1, u.2.2.2.2.2.2.2.2.2.1, u.2.2.2.2.2.2.2.2.2.2)
def TRn_out (u : TRn) : (Nat → Int32) := u.2.1
def TRn_set_out (u : TRn) (x : (Nat → Int32)) : TRn := (u.1, x, u.2.2.1, u.2.2.2.1, u.2.2.2.2.1, u.2.2.2.2.2.1, u.2.2.2.2.2.2.1, u.2.2.2.2.2.2.2.1, u.2.2.2.2.2.2.2.2.1, u.2.2.2.2.2.2.2.2.2.1, u.2.2.2.2.2.2.2.2.2.2)
def TRn_decisions (u : TRn) : (Nat → Int32) := u.2.2.1
def TRn_set_decisions (u : TRn) (x : (Nat → Int32)) : TRn := (u.1, u.2.1, x, u.2.2.2.1, u.2.2.2.2.1, u.2.2.2.2.2.1, u.2.2.2.2.2.2.1, u.2.2.2.2.2.2.2.1, u.2.2.2.2.2.2.2.2.1, u.2.2.2.2.2.2.2.2.2.1, u.2.2.2.2.2.2.2.2.2.2)
def TRn_isCase (u : TRn) : (Nat → Int32) := u.2.2.2.1
def TRn_set_isCase (u : TRn) (x : (Nat → Int32)) : TRn := (u.1, u.2.1, u.2.2.1, x, u.2.2.2.2.1, u.2.2.2.2.2.1, u.2.2.2.2.2.2.1, u.2.2.2.2.2.2.2.1, u.2.2.2.2.2.2.2.2.1, u.2.2.2.2.2.2.2.2.2.1, u.2.2.2.2.2.2.2.2.2.2)
def TRn_hadElse (u : TRn) : (Nat → Int32) := u.2.2.2.2.1
def TRn_set_hadElse (u : TRn) (x : (Nat → Int32)) : TRn := (u.1, u.2.1, u.2.2.1, u.2.2.2.1, x, u.2.2.2.2.2.1, u.2.2.2.2.2.2.1, u.2.2.2.2.2.2.2.1, u.2.2.2.2.2.2.2.2.1, u.2.2.2.2.2.2.2.2.2.1, u.2.2.2.2.2.2.2.2.2.2)
def TRn_outSize (u : TRn) : Int32 := u.2.2.2.2.2.1
def TRn_set_outSize (u : TRn) (x : Int32) : TRn := (u.1, u.2.1, u.2.2.1, u.2.2.2.1, u.2.2.2.2.1, x, u.2.2.2.2.2.2.1, u.2.2.2.2.2.2.2.1, u.2.2.2.2.2.2.2.2.1, u.2.2.2.2.2.2.2.2.2.1, u.2.2.2.2.2.2.2.2.2.2)
def TRn_openCount (u : TRn) : Int32 := u.2.2.2.2.2.2.1
def TRn_set_openCount (u : TRn) (x : Int32) : TRn := (u.1, u.2.1, u.2.2.1, u.2.2.2.1, u.2.2.2.2.1, u.2.2.2.2.2.1, x, u.2.2.2.2.2.2.2.1, u.2.2.2.2.2.2.2.2.1, u.2.2.2.2.2.2.2.2.2.1, u.2.2.2.2.2.2.2.2.2.2)
def TRn_opened (u : TRn) : Int32 := u.2.2.2.2.2.2.2.1
def TRn_set_opened (u : TRn) (x : Int32) : TRn := (u.1, u.2.1, u.2.2.1, u.2.2.2.1, u.2.2.2.2.1, u.2.2.2.2.2.1, u.2.2.2.2.2.2.1, x, u.2.2.2.2.2.2.2.2.1, u.2.2.2.2.2.2.2.2.2.1, u.2.2.2.2.2.2.2.2.2.2)
def TRn_mostOpen (u : TRn) : Int32 := u.2.2.2.2.2.2.2.2.1
def TRn_set_mostOpen (u : TRn) (x : Int32) : TRn := (u.1, u.2.1, u.2.2.1, u.2.2.2.1, u.2.2.2.2.1, u.2.2.2.2.2.1, u.2.2.2.2.2.2.1, u.2.2.2.2.2.2.2.1, x, u.2.2.2.2.2.2.2.2.2.1, u.2.2.2.2.2.2.2.2.2.2)
def TRn_skipped (u : TRn) : Int32 := u.2.2.2.2.2.2.2.2.2.1
def TRn_set_skipped (u : TRn) (x : Int32) : TRn := (u.1, u.2.1, u.2.2.1, u.2.2.2.1, u.2.2.2.2.1, u.2.2.2.2.2.1, u.2.2.2.2.2.2.1, u.2.2.2.2.2.2.2.1, u.2.2.2.2.2.2.2.2.1, x, u.2.2.2.2.2.2.2.2.2.2)
def TRn_fault (u : TRn) : Int32 := u.2.2.2.2.2.2.2.2.2.2
def TRn_set_fault (u : TRn) (x : Int32) : TRn := (u.1, u.2.1, u.2.2.1, u.2.2.2.1, u.2.2.2.2.1, u.2.2.2.2.2.1, u.2.2.2.2.2.2.1, u.2.2.2.2.2.2.2.1, u.2.2.2.2.2.2.2.2.1, u.2.2.2.2.2.2.2.2.2.1, x)
abbrev TCt : Type := TBk × TRn
def TCt_bk (u : TCt) : TBk := u.1
def TCt_set_bk (u : TCt) (x : TBk) : TCt := (x, u.2)
def TCt_rn (u : TCt) : TRn := u.2
def TCt_set_rn (u : TCt) (x : TRn) : TCt := (u.1, x)
abbrev TMd : Type := Int32 × (Nat → Int32) × (Nat → Int32) × Int32 × (Nat → Int32) × (Nat → Int32) × (Nat → Int32) × (Nat → Int32) × (Nat → Int32) × (Nat → Int32) × Int32 × Int32 × Int32 × Int32 × (Nat → Int32) × Int32 × Int32 × Int32 × Int32 × (Nat → Int32) × (Nat → Int32) × Int32 × Int32
def TMd_thrown (u : TMd) : Int32 := u.1
def TMd_set_thrown (u : TMd) (x : Int32) : TMd := (x, u.2.1, u.2.2.1, u.2.2.2.1, u.2.2.2.2.1, u.2.2.2.2.2.1, u.2.2.2.2.2.2.1, u.2.2.2.2.2.2.2.1, u.2.2.2.2.2.2.2.2.1, u.2.2.2.2.2.2.2.2.2.1, u.2.2.2.2.2.2.2.2.2.2.1, u.2.2.2.2.2.2.2.2.2.2.2.1, u.2.2.2.2.2.2.2.2.2.2.2.2.1, u.2.2.2.2.2.2.2.2.2.2.2.2.2.1, u.2.2.2.2.2.2.2.2.2.2.2.2.2.2.1, u.2.2.2.2.2.2.2.2.2.2.2.2.2.2.2.1, u.2.2.2.2.2.2.2.2.2.2.2.2.2.2.2.2.1, u.2.2.2.2.2.2.2.2.2.2.2.2.2.2.2.2.2.1, u.2.2.2.2.2.2.2.2.2.2.2.2.2.2.2.2.2.2.1, u.2.2.2.2.2.2.2.2.2.2.2.2.2.2.2.2.2.2.2.1, u.2.2.2.2.2.2.2.2.2.2.2.2.2.2.2.2.2.2.2.2.1, u.2.2.2.2.2.2.2.2.2.2.2.2.2.2.2.2.2.2.2.2.2.1, u.2.2.2.2.2.2.2.2.2.2.2.2.2.2.2.2.2.2.2.2.2.2)
def TMd_kinds (u : TMd) : (Nat → Int32) := u.2.1
def TMd_set_kinds (u : TMd) (x : (Nat → Int32)) : TMd := (u.1, x, u.2.2.1, u.2.2.2.1, u.2.2.2.2.1, u.2.2.2.2.2.1, u.2.2.2.2.2.2.1, u.2.2.2.2.2.2.2.1, u.2.2.2.2.2.2.2.2.1, u.2.2.2.2.2.2.2.2.2.1, u.2.2.2.2.2.2.2.2.2.2.1, u.2.2.2.2.2.2.2.2.2.2.2.1, u.2.2.2.2.2.2.2.2.2.2.2.2.1, u.2.2.2.2.2.2.2.2.2.2.2.2.2.1, u.2.2.2.2.2.2.2.2.2.2.2.2.2.2.1, u.2.2.2.2.2.2.2.2.2.2.2.2.2.2.2.1, u.2.2.2.2.2.2.2.2.2.2.2.2.2.2.2.2.1, u.2.2.2.2.2.2.2.2.2.2.2.2.2.2.2.2.2.1, u.2.2.2.2.2.2.2.2.2.2.2.2.2.2.2.2.2.2.1, u.2.2.2.2.2.2.2.2.2.2.2.2.2.2.2.2.2.2.2.1, u.2.2.2.2.2.2.2.2.2.2.2.2.2.2.2.2.2.2.2.2.1, u.2.2.2.2.2.2.2.2.2.2.2.2.2.2.2.2.2.2.2.2.2.1, u.2.2.2.2.2.2.2.2.2.2.2.2.2.2.2.2.2.2.2.2.2.2)
def TMd_values (u : TMd) : (Nat → Int32) := u.2.2.1
def TMd_set_values (u : TMd) (x : (Nat → Int32)) : TMd := (u.1, u.2.1, x, u.2.2.2.1, u.2.2.2.2.1, u.2.2.2.2.2.1, u.2.2.2.2.2.2.1, u.2.2.2.2.2.2.2.1, u.2.2.2.2.2.2.2.2.1, u.2.2.2.2.2.2.2.2.2.1, u.2.2.2.2.2.2.2.2.2.2.1, u.2.2.2.2.2.2.2.2.2.2.2.1, u.2.2.2.2.2.2.2.2.2.2.2.2.1, u.2.2.2.2.2.2.2.2.2.2.2.2.2.1, u.2.2.2.2.2.2.2.2.2.2.2.2.2.2.1, u.2.2.2.2.2.2.2.2.2.2.2.2.2.2.2.1, u.2.2.2.2.2.2.2.2.2.2.2.2.2.2.2.2.1, u.2.2.2.2.2.2.2.2.2.2.2.2.2.2.2.2.2.1, u.2.2.2.2.2.2.2.2.2.2.2.2.2.2.2.2.2.2.1, u.2.2.2.2.2.2.2.2.2.2.2.2.2.2.2.2.2.2.2.1, u.2.2.2.2.2.2.2.2.2.2.2.2.2.2.2.2.2.2.2.2.1, u.2.2.2.2.2.2.2.2.2.2.2.2.2.2.2.2.2.2.2.2.2.1, u.2.2.2.2.2.2.2.2.2.2.2.2.2.2.2.2.2.2.2.2.2.2)
def TMd_bodies (u : TMd) : Int32 := u.2.2.2.1
def TMd_set_bodies (u : TMd) (x : Int32) : TMd := (u.1, u.2.1, u.2.2.1, x, u.2.2.2.2.1, u.2.2.2.2.2.1, u.2.2.2.2.2.2.1, u.2.2.2.2.2.2.2.1, u.2.2.2.2.2.2.2.2.1, u.2.2.2.2.2.2.2.2.2.1, u.2.2.2.2.2.2.2.2.2.2.1, u.2.2.2.2.2.2.2.2.2.2.2.1, u.2.2.2.2.2.2.2.2.2.2.2.2.1, u.2.2.2.2.2.2.2.2.2.2.2.2.2.1, u.2.2.2.2.2.2.2.2.2.2.2.2.2.2.1, u.2.2.2.2.2.2.2.2.2.2.2.2.2.2.2.1, u.2.2.2.2.2.2.2.2.2.2.2.2.2.2.2.2.1, u.2.2.2.2.2.2.2.2.2.2.2.2.2.2.2.2.2.1, u.2.2.2.2.2.2.2.2.2.2.2.2.2.2.2.2.2.2.1, u.2.2.2.2.2.2.2.2.2.2.2.2.2.2.2.2.2.2.2.1, u.2.2.2.2.2.2.2.2.2.2.2.2.2.2.2.2.2.2.2.2.1, u.2.2.2.2.2.2.2.2.2.2.2.2.2.2.2.2.2.2.2.2.2.1, u.2.2.2.2.2.2.2.2.2.2.2.2.2.2.2.2.2.2.2.2.2.2)
def TMd_rows (u : TMd) : (Nat → Int32) := u.2.2.2.2.1
def TMd_set_rows (u : TMd) (x : (Nat → Int32)) : TMd := (u.1, u.2.1, u.2.2.1, u.2.2.2.1, x, u.2.2.2.2.2.1, u.2.2.2.2.2.2.1, u.2.2.2.2.2.2.2.1, u.2.2.2.2.2.2.2.2.1, u.2.2.2.2.2.2.2.2.2.1, u.2.2.2.2.2.2.2.2.2.2.1, u.2.2.2.2.2.2.2.2.2.2.2.1, u.2.2.2.2.2.2.2.2.2.2.2.2.1, u.2.2.2.2.2.2.2.2.2.2.2.2.2.1, u.2.2.2.2.2.2.2.2.2.2.2.2.2.2.1, u.2.2.2.2.2.2.2.2.2.2.2.2.2.2.2.1, u.2.2.2.2.2.2.2.2.2.2.2.2.2.2.2.2.1, u.2.2.2.2.2.2.2.2.2.2.2.2.2.2.2.2.2.1, u.2.2.2.2.2.2.2.2.2.2.2.2.2.2.2.2.2.2.1, u.2.2.2.2.2.2.2.2.2.2.2.2.2.2.2.2.2.2.2.1, u.2.2.2.2.2.2.2.2.2.2.2.2.2.2.2.2.2.2.2.2.1, u.2.2.2.2.2.2.2.2.2.2.2.2.2.2.2.2.2.2.2.2.2.1, u.2.2.2.2.2.2.2.2.2.2.2.2.2.2.2.2.2.2.2.2.2.2)
def TMd_sizes (u : TMd) : (Nat → Int32) := u.2.2.2.2.2.1
def TMd_set_sizes (u : TMd) (x : (Nat → Int32)) : TMd := (u.1, u.2.1, u.2.2.1, u.2.2.2.1, u.2.2.2.2.1, x, u.2.2.2.2.2.2.1, u.2.2.2.2.2.2.2.1, u.2.2.2.2.2.2.2.2.1, u.2.2.2.2.2.2.2.2.2.1, u.2.2.2.2.2.2.2.2.2.2.1, u.2.2.2.2.2.2.2.2.2.2.2.1, u.2.2.2.2.2.2.2.2.2.2.2.2.1, u.2.2.2.2.2.2.2.2.2.2.2.2.2.1, u.2.2.2.2.2.2.2.2.2.2.2.2.2.2.1, u.2.2.2.2.2.2.2.2.2.2.2.2.2.2.2.1, u.2.2.2.2.2.2.2.2.2.2.2.2.2.2.2.2.1, u.2.2.2.2.2.2.2.2.2.2.2.2.2.2.2.2.2.1, u.2.2.2.2.2.2.2.2.2.2.2.2.2.2.2.2.2.2.1, u.2.2.2.2.2.2.2.2.2.2.2.2.2.2.2.2.2.2.2.1, u.2.2.2.2.2.2.2.2.2.2.2.2.2.2.2.2.2.2.2.2.1, u.2.2.2.2.2.2.2.2.2.2.2.2.2.2.2.2.2.2.2.2.2.1, u.2.2.2.2.2.2.2.2.2.2.2.2.2.2.2.2.2.2.2.2.2.2)
def TMd_modes (u : TMd) : (Nat → Int32) := u.2.2.2.2.2.2.1
def TMd_set_modes (u : TMd) (x : (Nat → Int32)) : TMd := (u.1, u.2.1, u.2.2.1, u.2.2.2.1, u.2.2.2.2.1, u.2.2.2.2.2.1, x, u.2.2.2.2.2.2.2.1, u.2.2.2.2.2.2.2.2.1, u.2.2.2.2.2.2.2.2.2.1, u.2.2.2.2.2.2.2.2.2.2.1, u.2.2.2.2.2.2.2.2.2.2.2.1, u.2.2.2.2.2.2.2.2.2.2.2.2.1, u.2.2.2.2.2.2.2.2.2.2.2.2.2.1, u.2.2.2.2.2.2.2.2.2.2.2.2.2.2.1, u.2.2.2.2.2.2.2.2.2.2.2.2.2.2.2.1, u.2.2.2.2.2.2.2.2.2.2.2.2.2.2.2.2.1, u.2.2.2.2.2.2.2.2.2.2.2.2.2.2.2.2.2.1, u.2.2.2.2.2.2.2.2.2.2.2.2.2.2.2.2.2.2.1, u.2.2.2.2.2.2.2.2.2.2.2.2.2.2.2.2.2.2.2.1, u.2.2.2.2.2.2.2.2.2.2.2.2.2.2.2.2.2.2.2.2.1, u.2.2.2.2.2.2.2.2.2.2.2.2.2.2.2.2.2.2.2.2.2.1, u.2.2.2.2.2.2.2.2.2.2.2.2.2.2.2.2.2.2.2.2.2.2)
def TMd_ends (u : TMd) : (Nat → Int32) := u.2.2.2.2.2.2.2.1
def TMd_set_ends (u : TMd) (x : (Nat → Int32)) : TMd := (u.1, u.2.1, u.2.2.1, u.2.2.2.1, u.2.2.2.2.1, u.2.2.2.2.2.1, u.2.2.2.2.2.2.1, x, u.2.2.2.2.2.2.2.2.1, u.2.2.2.2.2.2.2.2.2.1, u.2.2.2.2.2.2.2.2.2.2.1, u.2.2.2.2.2.2.2.2.2.2.2.1, u.2.2.2.2.2.2.2.2.2.2.2.2.1, u.2.2.2.2.2.2.2.2.2.2.2.2.2.1, u.2.2.2.2.2.2.2.2.2.2.2.2.2.2.1, u.2.2.2.2.2.2.2.2.2.2.2.2.2.2.2.1, u.2.2.2.2.2.2.2.2.2.2.2.2.2.2.2.2.1, u.2.2.2.2.2.2.2.2.2.2.2.2.2.2.2.2.2.1, u.2.2.2.2.2.2.2.2.2.2.2.2.2.2.2.2.2.2.1, u.2.2.2.2.2.2.2.2.2.2.2.2.2.2.2.2.2.2.2.1, u.2.2.2.2.2.2.2.2.2.2.2.2.2.2.2.2.2.2.2.2.1, u.2.2.2.2.2.2.2.2.2.2.2.2.2.2.2.2.2.2.2.2.2.1, u.2.2.2.2.2.2.2.2.2.2.2.2.2.2.2.2.2.2.2.2.2.2)
def TMd_pileRows (u : TMd) : (Nat → Int32) := u.2.2.2.2.2.2.2.2.1
def TMd_set_pileRows (u : TMd) (x : (Nat → Int32)) : TMd := (u.1, u.2.1, u.2.2.1, u.2.2.2.1, u.2.2.2.2.1, u.2.2.2.2.2.1, u.2.2.2.2.2.2.1, u.2.2.2.2.2.2.2.1, x, u.2.2.2.2.2.2.2.2.2.1, u.2.2.2.2.2.2.2.2.2.2.1, u.2.2.2.2.2.2.2.2.2.2.2.1, u.2.2.2.2.2.2.2.2.2.2.2.2.1, u.2.2.2.2.2.2.2.2.2.2.2.2.2.1, u.2.2.2.2.2.2.2.2.2.2.2.2.2.2.1, u.2.2.2.2.2.2.2.2.2.2.2.2.2.2.2.1, u.2.2.2.2.2.2.2.2.2.2.2.2.2.2.2.2.1, u.2.2.2.2.2.2.2.2.2.2.2.2.2.2.2.2.2.1, u.2.2.2.2.2.2.2.2.2.2.2.2.2.2.2.2.2.2.1, u.2.2.2.2.2.2.2.2.2.2.2.2.2.2.2.2.2.2.2.1, u.2.2.2.2.2.2.2.2.2.2.2.2.2.2.2.2.2.2.2.2.1, u.2.2.2.2.2.2.2.2.2.2.2.2.2.2.2.2.2.2.2.2.2.1, u.2.2.2.2.2.2.2.2.2.2.2.2.2.2.2.2.2.2.2.2.2.2)
def TMd_pilePlaces (u : TMd) : (Nat → Int32) := u.2.2.2.2.2.2.2.2.2.1
def TMd_set_pilePlaces (u : TMd) (x : (Nat → Int32)) : TMd := (u.1, u.2.1, u.2.2.1, u.2.2.2.1, u.2.2.2.2.1, u.2.2.2.2.2.1, u.2.2.2.2.2.2.1, u.2.2.2.2.2.2.2.1, u.2.2.2.2.2.2.2.2.1, x, u.2.2.2.2.2.2.2.2.2.2.1, u.2.2.2.2.2.2.2.2.2.2.2.1, u.2.2.2.2.2.2.2.2.2.2.2.2.1, u.2.2.2.2.2.2.2.2.2.2.2.2.2.1, u.2.2.2.2.2.2.2.2.2.2.2.2.2.2.1, u.2.2.2.2.2.2.2.2.2.2.2.2.2.2.2.1, u.2.2.2.2.2.2.2.2.2.2.2.2.2.2.2.2.1, u.2.2.2.2.2.2.2.2.2.2.2.2.2.2.2.2.2.1, u.2.2.2.2.2.2.2.2.2.2.2.2.2.2.2.2.2.2.1, u.2.2.2.2.2.2.2.2.2.2.2.2.2.2.2.2.2.2.2.1, u.2.2.2.2.2.2.2.2.2.2.2.2.2.2.2.2.2.2.2.2.1, u.2.2.2.2.2.2.2.2.2.2.2.2.2.2.2.2.2.2.2.2.2.1, u.2.2.2.2.2.2.2.2.2.2.2.2.2.2.2.2.2.2.2.2.2.2)
def TMd_pile (u : TMd) : Int32 := u.2.2.2.2.2.2.2.2.2.2.1
def TMd_set_pile (u : TMd) (x : Int32) : TMd := (u.1, u.2.1, u.2.2.1, u.2.2.2.1, u.2.2.2.2.1, u.2.2.2.2.2.1, u.2.2.2.2.2.2.1, u.2.2.2.2.2.2.2.1, u.2.2.2.2.2.2.2.2.1, u.2.2.2.2.2.2.2.2.2.1, x, u.2.2.2.2.2.2.2.2.2.2.2.1, u.2.2.2.2.2.2.2.2.2.2.2.2.1, u.2.2.2.2.2.2.2.2.2.2.2.2.2.1, u.2.2.2.2.2.2.2.2.2.2.2.2.2.2.1, u.2.2.2.2.2.2.2.2.2.2.2.2.2.2.2.1, u.2.2.2.2.2.2.2.2.2.2.2.2.2.2.2.2.1, u.2.2.2.2.2.2.2.2.2.2.2.2.2.2.2.2.2.1, u.2.2.2.2.2.2.2.2.2.2.2.2.2.2.2.2.2.2.1, u.2.2.2.2.2.2.2.2.2.2.2.2.2.2.2.2.2.2.2.1, u.2.2.2.2.2.2.2.2.2.2.2.2.2.2.2.2.2.2.2.2.1, u.2.2.2.2.2.2.2.2.2.2.2.2.2.2.2.2.2.2.2.2.2.1, u.2.2.2.2.2.2.2.2.2.2.2.2.2.2.2.2.2.2.2.2.2.2)
def TMd_held (u : TMd) : Int32 := u.2.2.2.2.2.2.2.2.2.2.2.1
def TMd_set_held (u : TMd) (x : Int32) : TMd := (u.1, u.2.1, u.2.2.1, u.2.2.2.1, u.2.2.2.2.1, u.2.2.2.2.2.1, u.2.2.2.2.2.2.1, u.2.2.2.2.2.2.2.1, u.2.2.2.2.2.2.2.2.1, u.2.2.2.2.2.2.2.2.2.1, u.2.2.2.2.2.2.2.2.2.2.1, x, u.2.2.2.2.2.2.2.2.2.2.2.2.1, u.2.2.2.2.2.2.2.2.2.2.2.2.2.1, u.2.2.2.2.2.2.2.2.2.2.2.2.2.2.1, u.2.2.2.2.2.2.2.2.2.2.2.2.2.2.2.1, u.2.2.2.2.2.2.2.2.2.2.2.2.2.2.2.2.1, u.2.2.2.2.2.2.2.2.2.2.2.2.2.2.2.2.2.1, u.2.2.2.2.2.2.2.2.2.2.2.2.2.2.2.2.2.2.1, u.2.2.2.2.2.2.2.2.2.2.2.2.2.2.2.2.2.2.2.1, u.2.2.2.2.2.2.2.2.2.2.2.2.2.2.2.2.2.2.2.2.1, u.2.2.2.2.2.2.2.2.2.2.2.2.2.2.2.2.2.2.2.2.2.1, u.2.2.2.2.2.2.2.2.2.2.2.2.2.2.2.2.2.2.2.2.2.2)
def TMd_steps (u : TMd) : Int32 := u.2.2.2.2.2.2.2.2.2.2.2.2.1
def TMd_set_steps (u : TMd) (x : Int32) : TMd := (u.1, u.2.1, u.2.2.1, u.2.2.2.1, u.2.2.2.2.1, u.2.2.2.2.2.1, u.2.2.2.2.2.2.1, u.2.2.2.2.2.2.2.1, u.2.2.2.2.2.2.2.2.1, u.2.2.2.2.2.2.2.2.2.1, u.2.2.2.2.2.2.2.2.2.2.1, u.2.2.2.2.2.2.2.2.2.2.2.1, x, u.2.2.2.2.2.2.2.2.2.2.2.2.2.1, u.2.2.2.2.2.2.2.2.2.2.2.2.2.2.1, u.2.2.2.2.2.2.2.2.2.2.2.2.2.2.2.1, u.2.2.2.2.2.2.2.2.2.2.2.2.2.2.2.2.1, u.2.2.2.2.2.2.2.2.2.2.2.2.2.2.2.2.2.1, u.2.2.2.2.2.2.2.2.2.2.2.2.2.2.2.2.2.2.1, u.2.2.2.2.2.2.2.2.2.2.2.2.2.2.2.2.2.2.2.1, u.2.2.2.2.2.2.2.2.2.2.2.2.2.2.2.2.2.2.2.2.1, u.2.2.2.2.2.2.2.2.2.2.2.2.2.2.2.2.2.2.2.2.2.1, u.2.2.2.2.2.2.2.2.2.2.2.2.2.2.2.2.2.2.2.2.2.2)
def TMd_fault (u : TMd) : Int32 := u.2.2.2.2.2.2.2.2.2.2.2.2.2.1
def TMd_set_fault (u : TMd) (x : Int32) : TMd := (u.1, u.2.1, u.2.2.1, u.2.2.2.1, u.2.2.2.2.1, u.2.2.2.2.2.1, u.2.2.2.2.2.2.1, u.2.2.2.2.2.2.2.1, u.2.2.2.2.2.2.2.2.1, u.2.2.2.2.2.2.2.2.2.1, u.2.2.2.2.2.2.2.2.2.2.1, u.2.2.2.2.2.2.2.2.2.2.2.1, u.2.2.2.2.2.2.2.2.2.2.2.2.1, x, u.2.2.2.2.2.2.2.2.2.2.2.2.2.2.1, u.2.2.2.2.2.2.2.2.2.2.2.2.2.2.2.1, u.2.2.2.2.2.2.2.2.2.2.2.2.2.2.2.2.1, u.2.2.2.2.2.2.2.2.2.2.2.2.2.2.2.2.2.1, u.2.2.2.2.2.2.2.2.2.2.2.2.2.2.2.2.2.2.1, u.2.2.2.2.2.2.2.2.2.2.2.2.2.2.2.2.2.2.2.1, u.2.2.2.2.2.2.2.2.2.2.2.2.2.2.2.2.2.2.2.2.1, u.2.2.2.2.2.2.2.2.2.2.2.2.2.2.2.2.2.2.2.2.2.1, u.2.2.2.2.2.2.2.2.2.2.2.2.2.2.2.2.2.2.2.2.2.2)
def TMd_out (u : TMd) : (Nat → Int32) := u.2.2.2.2.2.2.2.2.2.2.2.2.2.2.1
def TMd_set_out (u : TMd) (x : (Nat → Int32)) : TMd := (u.1, u.2.1, u.2.2.1, u.2.2.2.1, u.2.2.2.2.1, u.2.2.2.2.2.1, u.2.2.2.2.2.2.1, u.2.2.2.2.2.2.2.1, u.2.2.2.2.2.2.2.2.1, u.2.2.2.2.2.2.2.2.2.1, u.2.2.2.2.2.2.2.2.2.2.1, u.2.2.2.2.2.2.2.2.2.2.2.1, u.2.2.2.2.2.2.2.2.2.2.2.2.1, u.2.2.2.2.2.2.2.2.2.2.2.2.2.1, x, u.2.2.2.2.2.2.2.2.2.2.2.2.2.2.2.1, u.2.2.2.2.2.2.2.2.2.2.2.2.2.2.2.2.1, u.2.2.2.2.2.2.2.2.2.2.2.2.2.2.2.2.2.1, u.2.2.2.2.2.2.2.2.2.2.2.2.2.2.2.2.2.2.1, u.2.2.2.2.2.2.2.2.2.2.2.2.2.2.2.2.2.2.2.1, u.2.2.2.2.2.2.2.2.2.2.2.2.2.2.2.2.2.2.2.2.1, u.2.2.2.2.2.2.2.2.2.2.2.2.2.2.2.2.2.2.2.2.2.1, u.2.2.2.2.2.2.2.2.2.2.2.2.2.2.2.2.2.2.2.2.2.2)
def TMd_outSize (u : TMd) : Int32 := u.2.2.2.2.2.2.2.2.2.2.2.2.2.2.2.1
def TMd_set_outSize (u : TMd) (x : Int32) : TMd := (u.1, u.2.1, u.2.2.1, u.2.2.2.1, u.2.2.2.2.1, u.2.2.2.2.2.1, u.2.2.2.2.2.2.1, u.2.2.2.2.2.2.2.1, u.2.2.2.2.2.2.2.2.1, u.2.2.2.2.2.2.2.2.2.1, u.2.2.2.2.2.2.2.2.2.2.1, u.2.2.2.2.2.2.2.2.2.2.2.1, u.2.2.2.2.2.2.2.2.2.2.2.2.1, u.2.2.2.2.2.2.2.2.2.2.2.2.2.1, u.2.2.2.2.2.2.2.2.2.2.2.2.2.2.1, x, u.2.2.2.2.2.2.2.2.2.2.2.2.2.2.2.2.1, u.2.2.2.2.2.2.2.2.2.2.2.2.2.2.2.2.2.1, u.2.2.2.2.2.2.2.2.2.2.2.2.2.2.2.2.2.2.1, u.2.2.2.2.2.2.2.2.2.2.2.2.2.2.2.2.2.2.2.1, u.2.2.2.2.2.2.2.2.2.2.2.2.2.2.2.2.2.2.2.2.1, u.2.2.2.2.2.2.2.2.2.2.2.2.2.2.2.2.2.2.2.2.2.1, u.2.2.2.2.2.2.2.2.2.2.2.2.2.2.2.2.2.2.2.2.2.2)
def TMd_opened (u : TMd) : Int32 := u.2.2.2.2.2.2.2.2.2.2.2.2.2.2.2.2.1
def TMd_set_opened (u : TMd) (x : Int32) : TMd := (u.1, u.2.1, u.2.2.1, u.2.2.2.1, u.2.2.2.2.1, u.2.2.2.2.2.1, u.2.2.2.2.2.2.1, u.2.2.2.2.2.2.2.1, u.2.2.2.2.2.2.2.2.1, u.2.2.2.2.2.2.2.2.2.1, u.2.2.2.2.2.2.2.2.2.2.1, u.2.2.2.2.2.2.2.2.2.2.2.1, u.2.2.2.2.2.2.2.2.2.2.2.2.1, u.2.2.2.2.2.2.2.2.2.2.2.2.2.1, u.2.2.2.2.2.2.2.2.2.2.2.2.2.2.1, u.2.2.2.2.2.2.2.2.2.2.2.2.2.2.2.1, x, u.2.2.2.2.2.2.2.2.2.2.2.2.2.2.2.2.2.1, u.2.2.2.2.2.2.2.2.2.2.2.2.2.2.2.2.2.2.1, u.2.2.2.2.2.2.2.2.2.2.2.2.2.2.2.2.2.2.2.1, u.2.2.2.2.2.2.2.2.2.2.2.2.2.2.2.2.2.2.2.2.1, u.2.2.2.2.2.2.2.2.2.2.2.2.2.2.2.2.2.2.2.2.2.1, u.2.2.2.2.2.2.2.2.2.2.2.2.2.2.2.2.2.2.2.2.2.2)
def TMd_most (u : TMd) : Int32 := u.2.2.2.2.2.2.2.2.2.2.2.2.2.2.2.2.2.1
def TMd_set_most (u : TMd) (x : Int32) : TMd := (u.1, u.2.1, u.2.2.1, u.2.2.2.1, u.2.2.2.2.1, u.2.2.2.2.2.1, u.2.2.2.2.2.2.1, u.2.2.2.2.2.2.2.1, u.2.2.2.2.2.2.2.2.1, u.2.2.2.2.2.2.2.2.2.1, u.2.2.2.2.2.2.2.2.2.2.1, u.2.2.2.2.2.2.2.2.2.2.2.1, u.2.2.2.2.2.2.2.2.2.2.2.2.1, u.2.2.2.2.2.2.2.2.2.2.2.2.2.1, u.2.2.2.2.2.2.2.2.2.2.2.2.2.2.1, u.2.2.2.2.2.2.2.2.2.2.2.2.2.2.2.1, u.2.2.2.2.2.2.2.2.2.2.2.2.2.2.2.2.1, x, u.2.2.2.2.2.2.2.2.2.2.2.2.2.2.2.2.2.2.1, u.2.2.2.2.2.2.2.2.2.2.2.2.2.2.2.2.2.2.2.1, u.2.2.2.2.2.2.2.2.2.2.2.2.2.2.2.2.2.2.2.2.1, u.2.2.2.2.2.2.2.2.2.2.2.2.2.2.2.2.2.2.2.2.2.1, u.2.2.2.2.2.2.2.2.2.2.2.2.2.2.2.2.2.2.2.2.2.2)
def TMd_skipped (u : TMd) : Int32 := u.2.2.2.2.2.2.2.2.2.2.2.2.2.2.2.2.2.2.1
def TMd_set_skipped (u : TMd) (x : Int32) : TMd := (u.1, u.2.1, u.2.2.1, u.2.2.2.1, u.2.2.2.2.1, u.2.2.2.2.2.1, u.2.2.2.2.2.2.1, u.2.2.2.2.2.2.2.1, u.2.2.2.2.2.2.2.2.1, u.2.2.2.2.2.2.2.2.2.1, u.2.2.2.2.2.2.2.2.2.2.1, u.2.2.2.2.2.2.2.2.2.2.2.1, u.2.2.2.2.2.2.2.2.2.2.2.2.1, u.2.2.2.2.2.2.2.2.2.2.2.2.2.1, u.2.2.2.2.2.2.2.2.2.2.2.2.2.2.1, u.2.2.2.2.2.2.2.2.2.2.2.2.2.2.2.1, u.2.2.2.2.2.2.2.2.2.2.2.2.2.2.2.2.1, u.2.2.2.2.2.2.2.2.2.2.2.2.2.2.2.2.2.1, x, u.2.2.2.2.2.2.2.2.2.2.2.2.2.2.2.2.2.2.2.1, u.2.2.2.2.2.2.2.2.2.2.2.2.2.2.2.2.2.2.2.2.1, u.2.2.2.2.2.2.2.2.2.2.2.2.2.2.2.2.2.2.2.2.2.1, u.2.2.2.2.2.2.2.2.2.2.2.2.2.2.2.2.2.2.2.2.2.2)
def TMd_decided (u : TMd) : (Nat → Int32) := u.2.2.2.2.2.2.2.2.2.2.2.2.2.2.2.2.2.2.2.1
def TMd_set_decided (u : TMd) (x : (Nat → Int32)) : TMd := (u.1, u.2.1, u.2.2.1, u.2.2.2.1, u.2.2.2.2.1, u.2.2.2.2.2.1, u.2.2.2.2.2.2.1, u.2.2.2.2.2.2.2.1, u.2.2.2.2.2.2.2.2.1, u.2.2.2.2.2.2.2.2.2.1, u.2.2.2.2.2.2.2.2.2.2.1, u.2.2.2.2.2.2.2.2.2.2.2.1, u.2.2.2.2.2.2.2.2.2.2.2.2.1, u.2.2.2.2.2.2.2.2.2.2.2.2.2.1, u.2.2.2.2.2.2.2.2.2.2.2.2.2.2.1, u.2.2.2.2.2.2.2.2.2.2.2.2.2.2.2.1, u.2.2.2.2.2.2.2.2.2.2.2.2.2.2.2.2.1, u.2.2.2.2.2.2.2.2.2.2.2.2.2.2.2.2.2.1, u.2.2.2.2.2.2.2.2.2.2.2.2.2.2.2.2.2.2.1, x, u.2.2.2.2.2.2.2.2.2.2.2.2.2.2.2.2.2.2.2.2.1, u.2.2.2.2.2.2.2.2.2.2.2.2.2.2.2.2.2.2.2.2.2.1, u.2.2.2.2.2.2.2.2.2.2.2.2.2.2.2.2.2.2.2.2.2.2)
def TMd_phases (u : TMd) : (Nat → Int32) := u.2.2.2.2.2.2.2.2.2.2.2.2.2.2.2.2.2.2.2.2.1
def TMd_set_phases (u : TMd) (x : (Nat → Int32)) : TMd := (u.1, u.2.1, u.2.2.1, u.2.2.2.1, u.2.2.2.2.1, u.2.2.2.2.2.1, u.2.2.2.2.2.2.1, u.2.2.2.2.2.2.2.1, u.2.2.2.2.2.2.2.2.1, u.2.2.2.2.2.2.2.2.2.1, u.2.2.2.2.2.2.2.2.2.2.1, u.2.2.2.2.2.2.2.2.2.2.2.1, u.2.2.2.2.2.2.2.2.2.2.2.2.1, u.2.2.2.2.2.2.2.2.2.2.2.2.2.1, u.2.2.2.2.2.2.2.2.2.2.2.2.2.2.1, u.2.2.2.2.2.2.2.2.2.2.2.2.2.2.2.1, u.2.2.2.2.2.2.2.2.2.2.2.2.2.2.2.2.1, u.2.2.2.2.2.2.2.2.2.2.2.2.2.2.2.2.2.1, u.2.2.2.2.2.2.2.2.2.2.2.2.2.2.2.2.2.2.1, u.2.2.2.2.2.2.2.2.2.2.2.2.2.2.2.2.2.2.2.1, x, u.2.2.2.2.2.2.2.2.2.2.2.2.2.2.2.2.2.2.2.2.2.1, u.2.2.2.2.2.2.2.2.2.2.2.2.2.2.2.2.2.2.2.2.2.2)
def TMd_open (u : TMd) : Int32 := u.2.2.2.2.2.2.2.2.2.2.2.2.2.2.2.2.2.2.2.2.2.1
def TMd_set_open (u : TMd) (x : Int32) : TMd := (u.1, u.2.1, u.2.2.1, u.2.2.2.1, u.2.2.2.2.1, u.2.2.2.2.2.1, u.2.2.2.2.2.2.1, u.2.2.2.2.2.2.2.1, u.2.2.2.2.2.2.2.2.1, u.2.2.2.2.2.2.2.2.2.1, u.2.2.2.2.2.2.2.2.2.2.1, u.2.2.2.2.2.2.2.2.2.2.2.1, u.2.2.2.2.2.2.2.2.2.2.2.2.1, u.2.2.2.2.2.2.2.2.2.2.2.2.2.1, u.2.2.2.2.2.2.2.2.2.2.2.2.2.2.1, u.2.2.2.2.2.2.2.2.2.2.2.2.2.2.2.1, u.2.2.2.2.2.2.2.2.2.2.2.2.2.2.2.2.1, u.2.2.2.2.2.2.2.2.2.2.2.2.2.2.2.2.2.1, u.2.2.2.2.2.2.2.2.2.2.2.2.2.2.2.2.2.2.1, u.2.2.2.2.2.2.2.2.2.2.2.2.2.2.2.2.2.2.2.1, u.2.2.2.2.2.2.2.2.2.2.2.2.2.2.2.2.2.2.2.2.1, x, u.2.2.2.2.2.2.2.2.2.2.2.2.2.2.2.2.2.2.2.2.2.2)
def TMd_hasRun (u : TMd) : Int32 := u.2.2.2.2.2.2.2.2.2.2.2.2.2.2.2.2.2.2.2.2.2.2
def TMd_set_hasRun (u : TMd) (x : Int32) : TMd := (u.1, u.2.1, u.2.2.1, u.2.2.2.1, u.2.2.2.2.1, u.2.2.2.2.2.1, u.2.2.2.2.2.2.1, u.2.2.2.2.2.2.2.1, u.2.2.2.2.2.2.2.2.1, u.2.2.2.2.2.2.2.2.2.1, u.2.2.2.2.2.2.2.2.2.2.1, u.2.2.2.2.2.2.2.2.2.2.2.1, u.2.2.2.2.2.2.2.2.2.2.2.2.1, u.2.2.2.2.2.2.2.2.2.2.2.2.2.1, u.2.2.2.2.2.2.2.2.2.2.2.2.2.2.1, u.2.2.2.2.2.2.2.2.2.2.2.2.2.2.2.1, u.2.2.2.2.2.2.2.2.2.2.2.2.2.2.2.2.1, u.2.2.2.2.2.2.2.2.2.2.2.2.2.2.2.2.2.1, u.2.2.2.2.2.2.2.2.2.2.2.2.2.2.2.2.2.2.1, u.2.2.2.2.2.2.2.2.2.2.2.2.2.2.2.2.2.2.2.1, u.2.2.2.2.2.2.2.2.2.2.2.2.2.2.2.2.2.2.2.2.1, u.2.2.2.2.2.2.2.2.2.2.2.2.2.2.2.2.2.2.2.2.2.1, x)
abbrev w_E (ad : Nat → Nat) (ca : Nat → ClassId) : va_W := []
abbrev t_E (ca : Nat → ClassId) : List (ClassId × FieldType) := []
abbrev w_B (ad : Nat → Nat) (ca : Nat → ClassId) (b : TBk) : va_W := [((ad 8), .inr (0, [.ref (ad 9), .ref (ad 10), .ref (ad 11), .ref (ad 12), .ref (ad 13), .ref (ad 14), .int (TBk_bodyCount b)])), ((ad 9), .inl ((ca 9), 40, .inl (TBk_kinds b))), ((ad 10), .inl ((ca 10), 40, .inl (TBk_values b))), ((ad 11), .inl ((ca 11), 440, .inl (TBk_cells b))), ((ad 12), .inl ((ca 12), 21, .inl (TBk_sizes b))), ((ad 13), .inl ((ca 13), 4, .inl (TBk_modes b))), ((ad 14), .inl ((ca 14), 8, .inl (TBk_files b)))]
abbrev t_B (ca : Nat → ClassId) : List (ClassId × FieldType) := [((ca 9), .int), ((ca 10), .int), ((ca 11), .int), ((ca 12), .int), ((ca 13), .boolean), ((ca 14), .boolean)]
abbrev w_D (ad : Nat → Nat) (ca : Nat → ClassId) (b : TBk) (r : TRd) : va_W := [((ad 5), .inr (1, [.ref (ad 8), .ref (ad 6), .ref (ad 7), .int (TRd_top r), .int (TRd_kept r), .int (TRd_steps r)])), ((ad 6), .inl ((ca 6), 5001, .inl (TRd_rows r))), ((ad 7), .inl ((ca 7), 5001, .inl (TRd_places r))), ((ad 8), .inr (0, [.ref (ad 9), .ref (ad 10), .ref (ad 11), .ref (ad 12), .ref (ad 13), .ref (ad 14), .int (TBk_bodyCount b)])), ((ad 9), .inl ((ca 9), 40, .inl (TBk_kinds b))), ((ad 10), .inl ((ca 10), 40, .inl (TBk_values b))), ((ad 11), .inl ((ca 11), 440, .inl (TBk_cells b))), ((ad 12), .inl ((ca 12), 21, .inl (TBk_sizes b))), ((ad 13), .inl ((ca 13), 4, .inl (TBk_modes b))), ((ad 14), .inl ((ca 14), 8, .inl (TBk_files b)))]
abbrev t_D (ca : Nat → ClassId) : List (ClassId × FieldType) := [((ca 6), .int), ((ca 7), .int), ((ca 9), .int), ((ca 10), .int), ((ca 11), .int), ((ca 12), .int), ((ca 13), .boolean), ((ca 14), .boolean)]
abbrev w_R (ad : Nat → Nat) (ca : Nat → ClassId) (b : TBk) (u : TRn) : va_W := [((ad 0), .inr (2, [.ref (ad 8), .ref (ad 5), .ref (ad 1), .ref (ad 2), .ref (ad 3), .ref (ad 4), .int (TRn_outSize u), .int (TRn_openCount u), .int (TRn_opened u), .int (TRn_mostOpen u), .int (TRn_skipped u), .int (TRn_fault u)])), ((ad 1), .inl ((ca 1), 300, .inl (TRn_out u))), ((ad 2), .inl ((ca 2), 100, .inl (TRn_decisions u))), ((ad 3), .inl ((ca 3), 20, .inl (TRn_isCase u))), ((ad 4), .inl ((ca 4), 20, .inl (TRn_hadElse u))), ((ad 5), .inr (1, [.ref (ad 8), .ref (ad 6), .ref (ad 7), .int (TRd_top (TRn_rd u)), .int (TRd_kept (TRn_rd u)), .int (TRd_steps (TRn_rd u))])), ((ad 6), .inl ((ca 6), 5001, .inl (TRd_rows (TRn_rd u)))), ((ad 7), .inl ((ca 7), 5001, .inl (TRd_places (TRn_rd u)))), ((ad 8), .inr (0, [.ref (ad 9), .ref (ad 10), .ref (ad 11), .ref (ad 12), .ref (ad 13), .ref (ad 14), .int (TBk_bodyCount b)])), ((ad 9), .inl ((ca 9), 40, .inl (TBk_kinds b))), ((ad 10), .inl ((ca 10), 40, .inl (TBk_values b))), ((ad 11), .inl ((ca 11), 440, .inl (TBk_cells b))), ((ad 12), .inl ((ca 12), 21, .inl (TBk_sizes b))), ((ad 13), .inl ((ca 13), 4, .inl (TBk_modes b))), ((ad 14), .inl ((ca 14), 8, .inl (TBk_files b)))]
abbrev t_R (ca : Nat → ClassId) : List (ClassId × FieldType) := [((ca 1), .int), ((ca 2), .int), ((ca 3), .boolean), ((ca 4), .boolean), ((ca 6), .int), ((ca 7), .int), ((ca 9), .int), ((ca 10), .int), ((ca 11), .int), ((ca 12), .int), ((ca 13), .boolean), ((ca 14), .boolean)]
abbrev w_C (ad : Nat → Nat) (ca : Nat → ClassId) (z : TCt) : va_W := [((ad 15), .inr (3, [.ref (ad 8), .ref (ad 0)])), ((ad 0), .inr (2, [.ref (ad 8), .ref (ad 5), .ref (ad 1), .ref (ad 2), .ref (ad 3), .ref (ad 4), .int (TRn_outSize (TCt_rn z)), .int (TRn_openCount (TCt_rn z)), .int (TRn_opened (TCt_rn z)), .int (TRn_mostOpen (TCt_rn z)), .int (TRn_skipped (TCt_rn z)), .int (TRn_fault (TCt_rn z))])), ((ad 1), .inl ((ca 1), 300, .inl (TRn_out (TCt_rn z)))), ((ad 2), .inl ((ca 2), 100, .inl (TRn_decisions (TCt_rn z)))), ((ad 3), .inl ((ca 3), 20, .inl (TRn_isCase (TCt_rn z)))), ((ad 4), .inl ((ca 4), 20, .inl (TRn_hadElse (TCt_rn z)))), ((ad 5), .inr (1, [.ref (ad 8), .ref (ad 6), .ref (ad 7), .int (TRd_top (TRn_rd (TCt_rn z))), .int (TRd_kept (TRn_rd (TCt_rn z))), .int (TRd_steps (TRn_rd (TCt_rn z)))])), ((ad 6), .inl ((ca 6), 5001, .inl (TRd_rows (TRn_rd (TCt_rn z))))), ((ad 7), .inl ((ca 7), 5001, .inl (TRd_places (TRn_rd (TCt_rn z))))), ((ad 8), .inr (0, [.ref (ad 9), .ref (ad 10), .ref (ad 11), .ref (ad 12), .ref (ad 13), .ref (ad 14), .int (TBk_bodyCount (TCt_bk z))])), ((ad 9), .inl ((ca 9), 40, .inl (TBk_kinds (TCt_bk z)))), ((ad 10), .inl ((ca 10), 40, .inl (TBk_values (TCt_bk z)))), ((ad 11), .inl ((ca 11), 440, .inl (TBk_cells (TCt_bk z)))), ((ad 12), .inl ((ca 12), 21, .inl (TBk_sizes (TCt_bk z)))), ((ad 13), .inl ((ca 13), 4, .inl (TBk_modes (TCt_bk z)))), ((ad 14), .inl ((ca 14), 8, .inl (TBk_files (TCt_bk z))))]
abbrev t_C (ca : Nat → ClassId) : List (ClassId × FieldType) := [((ca 1), .int), ((ca 2), .int), ((ca 3), .boolean), ((ca 4), .boolean), ((ca 6), .int), ((ca 7), .int), ((ca 9), .int), ((ca 10), .int), ((ca 11), .int), ((ca 12), .int), ((ca 13), .boolean), ((ca 14), .boolean)]
abbrev w_Z (ad : Nat → Nat) (ca : Nat → ClassId) (a0 : Nat) (k0 : ClassId) (n0 : Nat) (f : (Nat → Int32)) : va_W := [(a0, .inl (k0, n0, .inl f))]
abbrev t_Z (ca : Nat → ClassId) (a0 : Nat) (k0 : ClassId) (n0 : Nat) : List (ClassId × FieldType) := [(k0, .boolean)]
abbrev w_I (ad : Nat → Nat) (ca : Nat → ClassId) (a0 : Nat) (k0 : ClassId) (n0 : Nat) (f : (Nat → Int32)) : va_W := [(a0, .inl (k0, n0, .inl f))]
abbrev t_I (ca : Nat → ClassId) (a0 : Nat) (k0 : ClassId) (n0 : Nat) : List (ClassId × FieldType) := [(k0, .int)]
abbrev w_M (ad : Nat → Nat) (ca : Nat → ClassId) (d : TMd) : va_W := [((ad 16), .inr (4, [.int (TMd_thrown d), .ref (ad 17), .ref (ad 18), .int (TMd_bodies d), .ref (ad 19), .ref (ad 20), .ref (ad 21), .ref (ad 22), .ref (ad 23), .ref (ad 24), .int (TMd_pile d), .int (TMd_held d), .int (TMd_steps d), .int (TMd_fault d), .ref (ad 25), .int (TMd_outSize d), .int (TMd_opened d), .int (TMd_most d), .int (TMd_skipped d), .ref (ad 26), .ref (ad 27), .int (TMd_open d), .int (TMd_hasRun d)])), ((ad 17), .inl ((ca 17), 40, .inl (TMd_kinds d))), ((ad 18), .inl ((ca 18), 40, .inl (TMd_values d))), ((ad 19), .inl ((ca 19), 4200, .inl (TMd_rows d))), ((ad 20), .inl ((ca 20), 21, .inl (TMd_sizes d))), ((ad 21), .inl ((ca 21), 4, .inl (TMd_modes d))), ((ad 22), .inl ((ca 22), 8, .inl (TMd_ends d))), ((ad 23), .inl ((ca 23), 5010, .inl (TMd_pileRows d))), ((ad 24), .inl ((ca 24), 5010, .inl (TMd_pilePlaces d))), ((ad 25), .inl ((ca 25), 300, .inl (TMd_out d))), ((ad 26), .inl ((ca 26), 100, .inl (TMd_decided d))), ((ad 27), .inl ((ca 27), 20, .inl (TMd_phases d)))]
abbrev t_M (ca : Nat → ClassId) : List (ClassId × FieldType) := [((ca 17), .int), ((ca 18), .int), ((ca 19), .int), ((ca 20), .int), ((ca 21), .boolean), ((ca 22), .boolean), ((ca 23), .int), ((ca 24), .int), ((ca 25), .int), ((ca 26), .int), ((ca 27), .int)]
end
section
/-! numbers, loop counters (before the walks) -/
theorem i32_add {x y : Int32} (h1 : -2147483648 ≤ x.toInt + y.toInt) (h2 : x.toInt + y.toInt < 2147483648) : (x + y).toInt = x.toInt + y.toInt := by
  rw [Int32.toInt_add]
  exact Int.bmod_eq_of_le (by omega) (by omega)
theorem i32_sub {x y : Int32} (h1 : -2147483648 ≤ x.toInt - y.toInt) (h2 : x.toInt - y.toInt < 2147483648) : (x - y).toInt = x.toInt - y.toInt := by
  rw [Int32.toInt_sub]
  exact Int.bmod_eq_of_le (by omega) (by omega)
theorem i32_mul {x y : Int32} (h1 : -2147483648 ≤ x.toInt * y.toInt) (h2 : x.toInt * y.toInt < 2147483648) : (x * y).toInt = x.toInt * y.toInt := by
  rw [Int32.toInt_mul]
  exact Int.bmod_eq_of_le (by omega) (by omega)
theorem i32_lt {x y : Int32} : x < y ↔ x.toInt < y.toInt := Int32.lt_iff_toInt_lt
theorem i32_le {x y : Int32} : x ≤ y ↔ x.toInt ≤ y.toInt := Int32.le_iff_toInt_le
theorem i32_eq {x y : Int32} : x = y ↔ x.toInt = y.toInt := Int32.toInt_inj.symm
theorem i32_lo (x : Int32) : -2147483648 ≤ x.toInt := Int32.le_toInt x
theorem i32_hi (x : Int32) : x.toInt < 2147483648 := Int32.toInt_lt x
/-- a loop's counter x that goes up to k, with n turns of fuel -/
def TLn (k : Int) (x : Int32) (n : Nat) : Prop := x.toInt + n = k + 1 ∧ 0 ≤ x.toInt ∧ x.toInt ≤ k
theorem TLn_0 {k : Int} {x : Int32} (h : TLn k x 0) : False := by
  obtain ⟨h1, h2, h3⟩ := h
  omega
theorem TLn_s {k : Int} {x K : Int32} {n : Nat} (h : TLn k x (n + 1)) (hk : K.toInt = k) (c : ¬ K ≤ x) : TLn k (x + 1) n := by
  obtain ⟨h1, h2, h3⟩ := h
  rw [i32_le] at c
  have h4 := i32_hi K
  have h5 : (1 : Int32).toInt = 1 := by decide
  have h6 : (x + 1).toInt = x.toInt + 1 := by
    rw [i32_add (by rw [h5]; omega) (by rw [h5]; omega), h5]
  unfold TLn
  rw [h6]
  omega
theorem TLn_i {k : Int} {n : Nat} (h0 : 0 ≤ k) (h : (n : Int) = k + 1) : TLn k 0 n := by
  unfold TLn
  rw [Int32.toInt_zero]
  omega
/-- the fuel of the loops that count their turns; a name that nothing unfolds -/
noncomputable def TM : Nat := Classical.choose (⟨1000001, rfl⟩ : ∃ n : Nat, n = 1000001)
theorem TM_eq : TM = 1000001 := Classical.choose_spec (⟨1000001, rfl⟩ : ∃ n : Nat, n = 1000001)
theorem TLn_m : TLn 1000000 0 TM := TLn_i (by omega) (by rw [TM_eq]; rfl)
theorem wx_tl {k : Int} {x K : Int32} {n m : Nat} (h : TLn k x (n + 1)) (hk : K.toInt ≤ (m : Int)) (c : ¬ K ≤ x) : vp_in x m := by
  obtain ⟨h1, h2, h3⟩ := h
  rw [i32_le] at c
  rw [vp_in_iff]
  omega
end
section
theorem q_44 : Cond.initialized R_Ct ∈ TB := tq 44 (by decide +kernel) rfl
theorem q_187 : Cond.methodLink R_Ct 88 y_Ct_isSign ∈ TB := tq 187 (by decide +kernel) rfl
theorem q_188 : Cond.static y_Ct_isSign ∈ TB := tq 188 (by decide +kernel) rfl
theorem q_189 : Cond.code y_Ct_isSign b_Ct_isSign 1 (some .boolean) ∈ TB := tq 189 (by decide +kernel) rfl
theorem q_211 : Cond.methodLink R_Ct 93 y_Ct_isName ∈ TB := tq 211 (by decide +kernel) rfl
theorem q_212 : Cond.static y_Ct_isName ∈ TB := tq 212 (by decide +kernel) rfl
theorem q_213 : Cond.code y_Ct_isName b_Ct_isName 1 (some .boolean) ∈ TB := tq 213 (by decide +kernel) rfl
theorem d_Ct_isSign_0 : decode b_Ct_isSign 0 = .ok (.iload_n 0, 1) := by decide +kernel
theorem d_Ct_isSign_1 : decode b_Ct_isSign 1 = .ok (.ifCond .lt 14, 3) := by decide +kernel
theorem d_Ct_isSign_4 : decode b_Ct_isSign 4 = .ok (.iload_n 0, 1) := by decide +kernel
theorem d_Ct_isSign_5 : decode b_Ct_isSign 5 = .ok (.sipush 4096, 3) := by decide +kernel
theorem d_Ct_isSign_8 : decode b_Ct_isSign 8 = .ok (.if_icmp .ge 7, 3) := by decide +kernel
theorem d_Ct_isSign_11 : decode b_Ct_isSign 11 = .ok (.iconst 1, 1) := by decide +kernel
theorem d_Ct_isSign_12 : decode b_Ct_isSign 12 = .ok (.goto 4, 3) := by decide +kernel
theorem d_Ct_isSign_15 : decode b_Ct_isSign 15 = .ok (.iconst 0, 1) := by decide +kernel
theorem d_Ct_isSign_16 : decode b_Ct_isSign 16 = .ok (.ireturn, 1) := by decide +kernel
theorem d_Ct_isName_0 : decode b_Ct_isName 0 = .ok (.iload_n 0, 1) := by decide +kernel
theorem d_Ct_isName_1 : decode b_Ct_isName 1 = .ok (.sipush 4096, 3) := by decide +kernel
theorem d_Ct_isName_4 : decode b_Ct_isName 4 = .ok (.if_icmp .lt 14, 3) := by decide +kernel
theorem d_Ct_isName_7 : decode b_Ct_isName 7 = .ok (.iload_n 0, 1) := by decide +kernel
theorem d_Ct_isName_8 : decode b_Ct_isName 8 = .ok (.sipush 4136, 3) := by decide +kernel
theorem d_Ct_isName_11 : decode b_Ct_isName 11 = .ok (.if_icmp .ge 7, 3) := by decide +kernel
theorem d_Ct_isName_14 : decode b_Ct_isName 14 = .ok (.iconst 1, 1) := by decide +kernel
theorem d_Ct_isName_15 : decode b_Ct_isName 15 = .ok (.goto 4, 3) := by decide +kernel
theorem d_Ct_isName_18 : decode b_Ct_isName 18 = .ok (.iconst 0, 1) := by decide +kernel
theorem d_Ct_isName_19 : decode b_Ct_isName 19 = .ok (.ireturn, 1) := by decide +kernel
theorem d_Ct_isToken_0 : decode b_Ct_isToken 0 = .ok (.iload_n 0, 1) := by decide +kernel
theorem d_Ct_isToken_1 : decode b_Ct_isToken 1 = .ok (.invokestatic 88, 3) := by decide +kernel
theorem d_Ct_isToken_4 : decode b_Ct_isToken 4 = .ok (.ifCond .ne 10, 3) := by decide +kernel
theorem d_Ct_isToken_7 : decode b_Ct_isToken 7 = .ok (.iload_n 0, 1) := by decide +kernel
theorem d_Ct_isToken_8 : decode b_Ct_isToken 8 = .ok (.invokestatic 93, 3) := by decide +kernel
theorem d_Ct_isToken_11 : decode b_Ct_isToken 11 = .ok (.ifCond .eq 7, 3) := by decide +kernel
theorem d_Ct_isToken_14 : decode b_Ct_isToken 14 = .ok (.iconst 1, 1) := by decide +kernel
theorem d_Ct_isToken_15 : decode b_Ct_isToken 15 = .ok (.goto 4, 3) := by decide +kernel
theorem d_Ct_isToken_18 : decode b_Ct_isToken 18 = .ok (.iconst 0, 1) := by decide +kernel
theorem d_Ct_isToken_19 : decode b_Ct_isToken 19 = .ok (.ireturn, 1) := by decide +kernel
theorem d_Ct_isDigit_0 : decode b_Ct_isDigit 0 = .ok (.iload_n 0, 1) := by decide +kernel
theorem d_Ct_isDigit_1 : decode b_Ct_isDigit 1 = .ok (.sipush 3120, 3) := by decide +kernel
theorem d_Ct_isDigit_4 : decode b_Ct_isDigit 4 = .ok (.if_icmp .lt 14, 3) := by decide +kernel
theorem d_Ct_isDigit_7 : decode b_Ct_isDigit 7 = .ok (.iload_n 0, 1) := by decide +kernel
theorem d_Ct_isDigit_8 : decode b_Ct_isDigit 8 = .ok (.sipush 3129, 3) := by decide +kernel
theorem d_Ct_isDigit_11 : decode b_Ct_isDigit 11 = .ok (.if_icmp .gt 7, 3) := by decide +kernel
theorem d_Ct_isDigit_14 : decode b_Ct_isDigit 14 = .ok (.iconst 1, 1) := by decide +kernel
theorem d_Ct_isDigit_15 : decode b_Ct_isDigit 15 = .ok (.goto 4, 3) := by decide +kernel
theorem d_Ct_isDigit_18 : decode b_Ct_isDigit 18 = .ok (.iconst 0, 1) := by decide +kernel
theorem d_Ct_isDigit_19 : decode b_Ct_isDigit 19 = .ok (.ireturn, 1) := by decide +kernel
theorem d_Ct_isRelation_0 : decode b_Ct_isRelation 0 = .ok (.iload_n 0, 1) := by decide +kernel
theorem d_Ct_isRelation_1 : decode b_Ct_isRelation 1 = .ok (.sipush 3132, 3) := by decide +kernel
theorem d_Ct_isRelation_4 : decode b_Ct_isRelation 4 = .ok (.if_icmp .eq 17, 3) := by decide +kernel
theorem d_Ct_isRelation_7 : decode b_Ct_isRelation 7 = .ok (.iload_n 0, 1) := by decide +kernel
theorem d_Ct_isRelation_8 : decode b_Ct_isRelation 8 = .ok (.sipush 3133, 3) := by decide +kernel
theorem d_Ct_isRelation_11 : decode b_Ct_isRelation 11 = .ok (.if_icmp .eq 10, 3) := by decide +kernel
theorem d_Ct_isRelation_14 : decode b_Ct_isRelation 14 = .ok (.iload_n 0, 1) := by decide +kernel
theorem d_Ct_isRelation_15 : decode b_Ct_isRelation 15 = .ok (.sipush 3134, 3) := by decide +kernel
theorem d_Ct_isRelation_18 : decode b_Ct_isRelation 18 = .ok (.if_icmp .ne 7, 3) := by decide +kernel
theorem d_Ct_isRelation_21 : decode b_Ct_isRelation 21 = .ok (.iconst 1, 1) := by decide +kernel
theorem d_Ct_isRelation_22 : decode b_Ct_isRelation 22 = .ok (.goto 4, 3) := by decide +kernel
theorem d_Ct_isRelation_25 : decode b_Ct_isRelation 25 = .ok (.iconst 0, 1) := by decide +kernel
theorem d_Ct_isRelation_26 : decode b_Ct_isRelation 26 = .ok (.ireturn, 1) := by decide +kernel
theorem d_Ct_isBlank_0 : decode b_Ct_isBlank 0 = .ok (.iload_n 0, 1) := by decide +kernel
theorem d_Ct_isBlank_1 : decode b_Ct_isBlank 1 = .ok (.sipush 2560, 3) := by decide +kernel
theorem d_Ct_isBlank_4 : decode b_Ct_isBlank 4 = .ok (.if_icmp .lt 14, 3) := by decide +kernel
theorem d_Ct_isBlank_7 : decode b_Ct_isBlank 7 = .ok (.iload_n 0, 1) := by decide +kernel
theorem d_Ct_isBlank_8 : decode b_Ct_isBlank 8 = .ok (.sipush 2815, 3) := by decide +kernel
theorem d_Ct_isBlank_11 : decode b_Ct_isBlank 11 = .ok (.if_icmp .gt 7, 3) := by decide +kernel
theorem d_Ct_isBlank_14 : decode b_Ct_isBlank 14 = .ok (.iconst 1, 1) := by decide +kernel
theorem d_Ct_isBlank_15 : decode b_Ct_isBlank 15 = .ok (.goto 4, 3) := by decide +kernel
theorem d_Ct_isBlank_18 : decode b_Ct_isBlank 18 = .ok (.iconst 0, 1) := by decide +kernel
theorem d_Ct_isBlank_19 : decode b_Ct_isBlank 19 = .ok (.ireturn, 1) := by decide +kernel
theorem d_Ct_isMacro_0 : decode b_Ct_isMacro 0 = .ok (.iload_n 0, 1) := by decide +kernel
theorem d_Ct_isMacro_1 : decode b_Ct_isMacro 1 = .ok (.iconst 2, 1) := by decide +kernel
theorem d_Ct_isMacro_2 : decode b_Ct_isMacro 2 = .ok (.if_icmp .eq 8, 3) := by decide +kernel
theorem d_Ct_isMacro_5 : decode b_Ct_isMacro 5 = .ok (.iload_n 0, 1) := by decide +kernel
theorem d_Ct_isMacro_6 : decode b_Ct_isMacro 6 = .ok (.iconst 3, 1) := by decide +kernel
theorem d_Ct_isMacro_7 : decode b_Ct_isMacro 7 = .ok (.if_icmp .ne 7, 3) := by decide +kernel
theorem d_Ct_isMacro_10 : decode b_Ct_isMacro 10 = .ok (.iconst 1, 1) := by decide +kernel
theorem d_Ct_isMacro_11 : decode b_Ct_isMacro 11 = .ok (.goto 4, 3) := by decide +kernel
theorem d_Ct_isMacro_14 : decode b_Ct_isMacro 14 = .ok (.iconst 0, 1) := by decide +kernel
theorem d_Ct_isMacro_15 : decode b_Ct_isMacro 15 = .ok (.ireturn, 1) := by decide +kernel
theorem d_Ct_isMark_0 : decode b_Ct_isMark 0 = .ok (.iload_n 0, 1) := by decide +kernel
theorem d_Ct_isMark_1 : decode b_Ct_isMark 1 = .ok (.bipush 6, 2) := by decide +kernel
theorem d_Ct_isMark_3 : decode b_Ct_isMark 3 = .ok (.if_icmp .eq 15, 3) := by decide +kernel
theorem d_Ct_isMark_6 : decode b_Ct_isMark 6 = .ok (.iload_n 0, 1) := by decide +kernel
theorem d_Ct_isMark_7 : decode b_Ct_isMark 7 = .ok (.bipush 7, 2) := by decide +kernel
theorem d_Ct_isMark_9 : decode b_Ct_isMark 9 = .ok (.if_icmp .eq 9, 3) := by decide +kernel
theorem d_Ct_isMark_12 : decode b_Ct_isMark 12 = .ok (.iload_n 0, 1) := by decide +kernel
theorem d_Ct_isMark_13 : decode b_Ct_isMark 13 = .ok (.bipush 8, 2) := by decide +kernel
theorem d_Ct_isMark_15 : decode b_Ct_isMark 15 = .ok (.if_icmp .ne 7, 3) := by decide +kernel
theorem d_Ct_isMark_18 : decode b_Ct_isMark 18 = .ok (.iconst 1, 1) := by decide +kernel
theorem d_Ct_isMark_19 : decode b_Ct_isMark 19 = .ok (.goto 4, 3) := by decide +kernel
theorem d_Ct_isMark_22 : decode b_Ct_isMark 22 = .ok (.iconst 0, 1) := by decide +kernel
theorem d_Ct_isMark_23 : decode b_Ct_isMark 23 = .ok (.ireturn, 1) := by decide +kernel
def f_Ct_isSign (p0 : Int32) : Int32 := (if p0 < 0 then 0 else (if 4096 ≤ p0 then 0 else 1))
set_option maxHeartbeats 4000000 in
set_option maxRecDepth 100000 in
theorem c_Ct_isSign (l : Launch) (dC : Nat → ClassId) (dI : Nat → Nat → Nat) (ad : Nat → Nat) (ca : Nat → ClassId) (sz : Nat) (p0 : Int32) (F : Int32) (he : F = f_Ct_isSign p0) : wx_Mi l y_Ct_isSign ws_Ct_isSign ({ frames := 0, cells := 0, slots := 0, locals := 0 } : Room) (dC, dI) vwCl (t_E ca) [.int p0] (w_E ad ca) sz (fun _ : Unit => w_E ad ca) (fun (r : Int32) (_ : Unit) => r = F) := by
  refine Met.ofW (cc := b_Ct_isSign) (maxL := 1) (ret := some .boolean) (by decide) rfl ?_
  intro p e s m args below meth c s₁ B hml hv
  obtain ⟨rfl, hsz, hP, hK, hD0, hN⟩ := hv
  have hx := B.exec
  have hb := B.bytes
  have hr := B.returns
  have hts := atoms_spec (ws := ws_Ct_isSign) B.pre
  have ht : ∀ w ∈ TB, w.before _ s = true := fun w h => hts w (List.mem_cons_of_mem _ h)
  have hown : s.vm.findClass R_Ct = some m.cls := findClass_of_methodNamed B.named
  have hlocks := B.notSynchronized
  subst hsz
  have hD := hD0.self (sz := s.heap.size)
  generalize hAe : va_A (w_E ad ca) s.heap.size = A at hD ⊢
  have hA : ∀ q : Nat, s.heap.size ≤ q → A q := fun q h => by rw [← hAe]; exact Or.inr h
  have hS : va_S A s.heap s.heap [] := va_S.rf
  have hl := lv_entry ([.int p0]) (n := 1) (Nat.le_of_ble_eq_true rfl)
  rw [lg_entry_eq]
  generalize (lg_sl ([.int p0]) ++ List.replicate (1 - (lg_sl ([.int p0])).length) Slot.unset).toArray = ls at hl ⊢
  have hl : lv_has ls 1 [(0, .int p0)] := hl
  unfold f_Ct_isSign at he
  refine lv_iload_n hx hb d_Ct_isSign_0 rfl (lv_at hl 0 rfl) ?_
  refine lv_if_lt (tgt := 15) hx hb d_Ct_isSign_1 (by decide) (fun c_1 => ?_) (fun c_1 => ?_)
  · have he := he.trans (if_pos c_1)
    refine lv_iconst (v := 0) hx hb d_Ct_isSign_15 (by decide) ?_
    exact W.zret hx hb hr (by rfl) (v := 0) (fun t ht hW => ⟨⟨0, (), rfl, he.symm, by rw [ht]; exact hP, va_K.moved hW.alike hK, hD⟩, hS.F ht⟩) hS.2.2 d_Ct_isSign_16
  · have he := he.trans (if_neg c_1)
    refine lv_iload_n hx hb d_Ct_isSign_4 rfl (lv_at hl 0 rfl) ?_
    refine lv_sipush (v := 4096) hx hb d_Ct_isSign_5 (by decide) ?_
    refine lv_icmp_ge (tgt := 15) hx hb d_Ct_isSign_8 (by decide) (fun c_2 => ?_) (fun c_2 => ?_)
    · have he := he.trans (if_pos c_2)
      refine lv_iconst (v := 0) hx hb d_Ct_isSign_15 (by decide) ?_
      exact W.zret hx hb hr (by rfl) (v := 0) (fun t ht hW => ⟨⟨0, (), rfl, he.symm, by rw [ht]; exact hP, va_K.moved hW.alike hK, hD⟩, hS.F ht⟩) hS.2.2 d_Ct_isSign_16
    · have he := he.trans (if_neg c_2)
      refine lv_iconst (v := 1) hx hb d_Ct_isSign_11 (by decide) ?_
      refine lv_goto (tgt := 16) hx hb d_Ct_isSign_12 (by decide) ?_
      exact W.zret hx hb hr (by rfl) (v := 1) (fun t ht hW => ⟨⟨1, (), rfl, he.symm, by rw [ht]; exact hP, va_K.moved hW.alike hK, hD⟩, hS.F ht⟩) hS.2.2 d_Ct_isSign_16
def f_Ct_isName (p0 : Int32) : Int32 := (if p0 < 4096 then 0 else (if 4136 ≤ p0 then 0 else 1))
set_option maxHeartbeats 4000000 in
set_option maxRecDepth 100000 in
theorem c_Ct_isName (l : Launch) (dC : Nat → ClassId) (dI : Nat → Nat → Nat) (ad : Nat → Nat) (ca : Nat → ClassId) (sz : Nat) (p0 : Int32) (F : Int32) (he : F = f_Ct_isName p0) : wx_Mi l y_Ct_isName ws_Ct_isName ({ frames := 0, cells := 0, slots := 0, locals := 0 } : Room) (dC, dI) vwCl (t_E ca) [.int p0] (w_E ad ca) sz (fun _ : Unit => w_E ad ca) (fun (r : Int32) (_ : Unit) => r = F) := by
  refine Met.ofW (cc := b_Ct_isName) (maxL := 1) (ret := some .boolean) (by decide) rfl ?_
  intro p e s m args below meth c s₁ B hml hv
  obtain ⟨rfl, hsz, hP, hK, hD0, hN⟩ := hv
  have hx := B.exec
  have hb := B.bytes
  have hr := B.returns
  have hts := atoms_spec (ws := ws_Ct_isName) B.pre
  have ht : ∀ w ∈ TB, w.before _ s = true := fun w h => hts w (List.mem_cons_of_mem _ h)
  have hown : s.vm.findClass R_Ct = some m.cls := findClass_of_methodNamed B.named
  have hlocks := B.notSynchronized
  subst hsz
  have hD := hD0.self (sz := s.heap.size)
  generalize hAe : va_A (w_E ad ca) s.heap.size = A at hD ⊢
  have hA : ∀ q : Nat, s.heap.size ≤ q → A q := fun q h => by rw [← hAe]; exact Or.inr h
  have hS : va_S A s.heap s.heap [] := va_S.rf
  have hl := lv_entry ([.int p0]) (n := 1) (Nat.le_of_ble_eq_true rfl)
  rw [lg_entry_eq]
  generalize (lg_sl ([.int p0]) ++ List.replicate (1 - (lg_sl ([.int p0])).length) Slot.unset).toArray = ls at hl ⊢
  have hl : lv_has ls 1 [(0, .int p0)] := hl
  unfold f_Ct_isName at he
  refine lv_iload_n hx hb d_Ct_isName_0 rfl (lv_at hl 0 rfl) ?_
  refine lv_sipush (v := 4096) hx hb d_Ct_isName_1 (by decide) ?_
  refine lv_icmp_lt (tgt := 18) hx hb d_Ct_isName_4 (by decide) (fun c_1 => ?_) (fun c_1 => ?_)
  · have he := he.trans (if_pos c_1)
    refine lv_iconst (v := 0) hx hb d_Ct_isName_18 (by decide) ?_
    exact W.zret hx hb hr (by rfl) (v := 0) (fun t ht hW => ⟨⟨0, (), rfl, he.symm, by rw [ht]; exact hP, va_K.moved hW.alike hK, hD⟩, hS.F ht⟩) hS.2.2 d_Ct_isName_19
  · have he := he.trans (if_neg c_1)
    refine lv_iload_n hx hb d_Ct_isName_7 rfl (lv_at hl 0 rfl) ?_
    refine lv_sipush (v := 4136) hx hb d_Ct_isName_8 (by decide) ?_
    refine lv_icmp_ge (tgt := 18) hx hb d_Ct_isName_11 (by decide) (fun c_2 => ?_) (fun c_2 => ?_)
    · have he := he.trans (if_pos c_2)
      refine lv_iconst (v := 0) hx hb d_Ct_isName_18 (by decide) ?_
      exact W.zret hx hb hr (by rfl) (v := 0) (fun t ht hW => ⟨⟨0, (), rfl, he.symm, by rw [ht]; exact hP, va_K.moved hW.alike hK, hD⟩, hS.F ht⟩) hS.2.2 d_Ct_isName_19
    · have he := he.trans (if_neg c_2)
      refine lv_iconst (v := 1) hx hb d_Ct_isName_14 (by decide) ?_
      refine lv_goto (tgt := 19) hx hb d_Ct_isName_15 (by decide) ?_
      exact W.zret hx hb hr (by rfl) (v := 1) (fun t ht hW => ⟨⟨1, (), rfl, he.symm, by rw [ht]; exact hP, va_K.moved hW.alike hK, hD⟩, hS.F ht⟩) hS.2.2 d_Ct_isName_19
def f_Ct_isToken (p0 : Int32) : Int32 := (if (f_Ct_isSign p0) = 0 then (if (f_Ct_isName p0) = 0 then 0 else 1) else 1)
set_option maxHeartbeats 4000000 in
set_option maxRecDepth 100000 in
theorem c_Ct_isToken (l : Launch) (dC : Nat → ClassId) (dI : Nat → Nat → Nat) (ad : Nat → Nat) (ca : Nat → ClassId) (sz : Nat) (p0 : Int32) (F : Int32) (he : F = f_Ct_isToken p0) : wx_Mi l y_Ct_isToken ws_Ct_isToken ({ frames := 1, cells := 0, slots := 0, locals := 20 } : Room) (dC, dI) vwCl (t_E ca) [.int p0] (w_E ad ca) sz (fun _ : Unit => w_E ad ca) (fun (r : Int32) (_ : Unit) => r = F) := by
  refine Met.ofW (cc := b_Ct_isToken) (maxL := 1) (ret := some .boolean) (by decide) rfl ?_
  intro p e s m args below meth c s₁ B hml hv
  obtain ⟨rfl, hsz, hP, hK, hD0, hN⟩ := hv
  have hx := B.exec
  have hb := B.bytes
  have hr := B.returns
  have hts := atoms_spec (ws := ws_Ct_isToken) B.pre
  have ht : ∀ w ∈ TB, w.before _ s = true := fun w h => hts w (List.mem_cons_of_mem _ h)
  have hown : s.vm.findClass R_Ct = some m.cls := findClass_of_methodNamed B.named
  have hlocks := B.notSynchronized
  subst hsz
  have hD := hD0.self (sz := s.heap.size)
  generalize hAe : va_A (w_E ad ca) s.heap.size = A at hD ⊢
  have hA : ∀ q : Nat, s.heap.size ≤ q → A q := fun q h => by rw [← hAe]; exact Or.inr h
  have hS : va_S A s.heap s.heap [] := va_S.rf
  have hl := lv_entry ([.int p0]) (n := 1) (Nat.le_of_ble_eq_true rfl)
  rw [lg_entry_eq]
  generalize (lg_sl ([.int p0]) ++ List.replicate (1 - (lg_sl ([.int p0])).length) Slot.unset).toArray = ls at hl ⊢
  have hl : lv_has ls 1 [(0, .int p0)] := hl
  unfold f_Ct_isToken at he
  refine lv_iload_n hx hb d_Ct_isToken_0 rfl (lv_at hl 0 rfl) ?_
  refine wx_ci (wS := fun _ : Unit => w_E ad ca) (ws2 := fun _ : Unit => w_E ad ca) (va_runS (As := [.int p0]) (rest := []) ⟨hx, hb, hml, hown, ht⟩ (c_Ct_isSign l dC dI ad ca s.heap.size p0 _ rfl) (va_cwS 1 ht (tb_S q_187 q_188 q_44 q_189) rfl rfl rfl p_Ct_isSign.2 ⟨show 0 + 1 ≤ 1 by omega, show 8 + (1 + 11) + 0 ≤ 20 by omega⟩) (wx_preS (wc := (w_E ad ca)) hN hK hP hD [] [] rfl (by decide) rfl) rfl rfl hl.1 rfl (lv_room (Nat.le_of_ble_eq_true rfl)) d_Ct_isToken_1 ⟨Nat.zero_le _, Nat.zero_le _⟩) hP hD hS hA [] [] [] rfl rfl (by decide) (by decide) (by decide) (fun _ => rfl) (fun r_1 _ H locs hw hP hD hS => ?_)
  subst hw
  have hP : va_P (dC, dI) vwCl (w_E ad ca) H := hP
  have hD : va_D A (w_E ad ca) := hD
  refine lv_if_ne (tgt := 14) hx hb d_Ct_isToken_4 (by decide) (fun c_2 => ?_) (fun c_2 => ?_)
  · have he := he.trans (if_neg c_2)
    refine lv_iconst (v := 1) hx hb d_Ct_isToken_14 (by decide) ?_
    refine lv_goto (tgt := 19) hx hb d_Ct_isToken_15 (by decide) ?_
    exact W.zret hx hb hr (by rfl) (v := 1) (fun t ht hW => ⟨⟨1, (), rfl, he.symm, by rw [ht]; exact hP, va_K.moved hW.alike hK, hD⟩, hS.F ht⟩) hS.2.2 d_Ct_isToken_19
  · have he := he.trans (if_pos c_2)
    refine lv_iload_n hx hb d_Ct_isToken_7 rfl (lv_at hl 0 rfl) ?_
    refine wx_ci (wS := fun _ : Unit => w_E ad ca) (ws2 := fun _ : Unit => w_E ad ca) (va_runS (As := [.int p0]) (rest := []) ⟨hx, hb, hml, hown, ht⟩ (c_Ct_isName l dC dI ad ca H.size p0 _ rfl) (va_cwS 1 ht (tb_S q_211 q_212 q_44 q_213) rfl rfl rfl p_Ct_isName.2 ⟨show 0 + 1 ≤ 1 by omega, show 8 + (1 + 11) + 0 ≤ 20 by omega⟩) (wx_preS (wc := (w_E ad ca)) hN hK hP hD [] [] rfl (by decide) rfl) rfl rfl hl.1 rfl (lv_room (Nat.le_of_ble_eq_true rfl)) d_Ct_isToken_8 ⟨Nat.zero_le _, Nat.zero_le _⟩) hP hD hS hA [] [] [] rfl rfl (by decide) (by decide) (by decide) (fun _ => rfl) (fun r_3 _ H locs hw hP hD hS => ?_)
    subst hw
    have hP : va_P (dC, dI) vwCl (w_E ad ca) H := hP
    have hD : va_D A (w_E ad ca) := hD
    refine lv_if_eq (tgt := 18) hx hb d_Ct_isToken_11 (by decide) (fun c_4 => ?_) (fun c_4 => ?_)
    · have he := he.trans (if_pos c_4)
      refine lv_iconst (v := 0) hx hb d_Ct_isToken_18 (by decide) ?_
      exact W.zret hx hb hr (by rfl) (v := 0) (fun t ht hW => ⟨⟨0, (), rfl, he.symm, by rw [ht]; exact hP, va_K.moved hW.alike hK, hD⟩, hS.F ht⟩) hS.2.2 d_Ct_isToken_19
    · have he := he.trans (if_neg c_4)
      refine lv_iconst (v := 1) hx hb d_Ct_isToken_14 (by decide) ?_
      refine lv_goto (tgt := 19) hx hb d_Ct_isToken_15 (by decide) ?_
      exact W.zret hx hb hr (by rfl) (v := 1) (fun t ht hW => ⟨⟨1, (), rfl, he.symm, by rw [ht]; exact hP, va_K.moved hW.alike hK, hD⟩, hS.F ht⟩) hS.2.2 d_Ct_isToken_19
def f_Ct_isDigit (p0 : Int32) : Int32 := (if p0 < 3120 then 0 else (if 3129 < p0 then 0 else 1))
set_option maxHeartbeats 4000000 in
set_option maxRecDepth 100000 in
theorem c_Ct_isDigit (l : Launch) (dC : Nat → ClassId) (dI : Nat → Nat → Nat) (ad : Nat → Nat) (ca : Nat → ClassId) (sz : Nat) (p0 : Int32) (F : Int32) (he : F = f_Ct_isDigit p0) : wx_Mi l y_Ct_isDigit ws_Ct_isDigit ({ frames := 0, cells := 0, slots := 0, locals := 0 } : Room) (dC, dI) vwCl (t_E ca) [.int p0] (w_E ad ca) sz (fun _ : Unit => w_E ad ca) (fun (r : Int32) (_ : Unit) => r = F) := by
  refine Met.ofW (cc := b_Ct_isDigit) (maxL := 1) (ret := some .boolean) (by decide) rfl ?_
  intro p e s m args below meth c s₁ B hml hv
  obtain ⟨rfl, hsz, hP, hK, hD0, hN⟩ := hv
  have hx := B.exec
  have hb := B.bytes
  have hr := B.returns
  have hts := atoms_spec (ws := ws_Ct_isDigit) B.pre
  have ht : ∀ w ∈ TB, w.before _ s = true := fun w h => hts w (List.mem_cons_of_mem _ h)
  have hown : s.vm.findClass R_Ct = some m.cls := findClass_of_methodNamed B.named
  have hlocks := B.notSynchronized
  subst hsz
  have hD := hD0.self (sz := s.heap.size)
  generalize hAe : va_A (w_E ad ca) s.heap.size = A at hD ⊢
  have hA : ∀ q : Nat, s.heap.size ≤ q → A q := fun q h => by rw [← hAe]; exact Or.inr h
  have hS : va_S A s.heap s.heap [] := va_S.rf
  have hl := lv_entry ([.int p0]) (n := 1) (Nat.le_of_ble_eq_true rfl)
  rw [lg_entry_eq]
  generalize (lg_sl ([.int p0]) ++ List.replicate (1 - (lg_sl ([.int p0])).length) Slot.unset).toArray = ls at hl ⊢
  have hl : lv_has ls 1 [(0, .int p0)] := hl
  unfold f_Ct_isDigit at he
  refine lv_iload_n hx hb d_Ct_isDigit_0 rfl (lv_at hl 0 rfl) ?_
  refine lv_sipush (v := 3120) hx hb d_Ct_isDigit_1 (by decide) ?_
  refine lv_icmp_lt (tgt := 18) hx hb d_Ct_isDigit_4 (by decide) (fun c_1 => ?_) (fun c_1 => ?_)
  · have he := he.trans (if_pos c_1)
    refine lv_iconst (v := 0) hx hb d_Ct_isDigit_18 (by decide) ?_
    exact W.zret hx hb hr (by rfl) (v := 0) (fun t ht hW => ⟨⟨0, (), rfl, he.symm, by rw [ht]; exact hP, va_K.moved hW.alike hK, hD⟩, hS.F ht⟩) hS.2.2 d_Ct_isDigit_19
  · have he := he.trans (if_neg c_1)
    refine lv_iload_n hx hb d_Ct_isDigit_7 rfl (lv_at hl 0 rfl) ?_
    refine lv_sipush (v := 3129) hx hb d_Ct_isDigit_8 (by decide) ?_
    refine lv_icmp_gt (tgt := 18) hx hb d_Ct_isDigit_11 (by decide) (fun c_2 => ?_) (fun c_2 => ?_)
    · have he := he.trans (if_pos c_2)
      refine lv_iconst (v := 0) hx hb d_Ct_isDigit_18 (by decide) ?_
      exact W.zret hx hb hr (by rfl) (v := 0) (fun t ht hW => ⟨⟨0, (), rfl, he.symm, by rw [ht]; exact hP, va_K.moved hW.alike hK, hD⟩, hS.F ht⟩) hS.2.2 d_Ct_isDigit_19
    · have he := he.trans (if_neg c_2)
      refine lv_iconst (v := 1) hx hb d_Ct_isDigit_14 (by decide) ?_
      refine lv_goto (tgt := 19) hx hb d_Ct_isDigit_15 (by decide) ?_
      exact W.zret hx hb hr (by rfl) (v := 1) (fun t ht hW => ⟨⟨1, (), rfl, he.symm, by rw [ht]; exact hP, va_K.moved hW.alike hK, hD⟩, hS.F ht⟩) hS.2.2 d_Ct_isDigit_19
def f_Ct_isRelation (p0 : Int32) : Int32 := (if p0 = 3132 then 1 else (if p0 = 3133 then 1 else (if p0 = 3134 then 1 else 0)))
set_option maxHeartbeats 4000000 in
set_option maxRecDepth 100000 in
theorem c_Ct_isRelation (l : Launch) (dC : Nat → ClassId) (dI : Nat → Nat → Nat) (ad : Nat → Nat) (ca : Nat → ClassId) (sz : Nat) (p0 : Int32) (F : Int32) (he : F = f_Ct_isRelation p0) : wx_Mi l y_Ct_isRelation ws_Ct_isRelation ({ frames := 0, cells := 0, slots := 0, locals := 0 } : Room) (dC, dI) vwCl (t_E ca) [.int p0] (w_E ad ca) sz (fun _ : Unit => w_E ad ca) (fun (r : Int32) (_ : Unit) => r = F) := by
  refine Met.ofW (cc := b_Ct_isRelation) (maxL := 1) (ret := some .boolean) (by decide) rfl ?_
  intro p e s m args below meth c s₁ B hml hv
  obtain ⟨rfl, hsz, hP, hK, hD0, hN⟩ := hv
  have hx := B.exec
  have hb := B.bytes
  have hr := B.returns
  have hts := atoms_spec (ws := ws_Ct_isRelation) B.pre
  have ht : ∀ w ∈ TB, w.before _ s = true := fun w h => hts w (List.mem_cons_of_mem _ h)
  have hown : s.vm.findClass R_Ct = some m.cls := findClass_of_methodNamed B.named
  have hlocks := B.notSynchronized
  subst hsz
  have hD := hD0.self (sz := s.heap.size)
  generalize hAe : va_A (w_E ad ca) s.heap.size = A at hD ⊢
  have hA : ∀ q : Nat, s.heap.size ≤ q → A q := fun q h => by rw [← hAe]; exact Or.inr h
  have hS : va_S A s.heap s.heap [] := va_S.rf
  have hl := lv_entry ([.int p0]) (n := 1) (Nat.le_of_ble_eq_true rfl)
  rw [lg_entry_eq]
  generalize (lg_sl ([.int p0]) ++ List.replicate (1 - (lg_sl ([.int p0])).length) Slot.unset).toArray = ls at hl ⊢
  have hl : lv_has ls 1 [(0, .int p0)] := hl
  unfold f_Ct_isRelation at he
  refine lv_iload_n hx hb d_Ct_isRelation_0 rfl (lv_at hl 0 rfl) ?_
  refine lv_sipush (v := 3132) hx hb d_Ct_isRelation_1 (by decide) ?_
  refine lv_icmp_eq (tgt := 21) hx hb d_Ct_isRelation_4 (by decide) (fun c_1 => ?_) (fun c_1 => ?_)
  · have he := he.trans (if_pos c_1)
    refine lv_iconst (v := 1) hx hb d_Ct_isRelation_21 (by decide) ?_
    refine lv_goto (tgt := 26) hx hb d_Ct_isRelation_22 (by decide) ?_
    exact W.zret hx hb hr (by rfl) (v := 1) (fun t ht hW => ⟨⟨1, (), rfl, he.symm, by rw [ht]; exact hP, va_K.moved hW.alike hK, hD⟩, hS.F ht⟩) hS.2.2 d_Ct_isRelation_26
  · have he := he.trans (if_neg c_1)
    refine lv_iload_n hx hb d_Ct_isRelation_7 rfl (lv_at hl 0 rfl) ?_
    refine lv_sipush (v := 3133) hx hb d_Ct_isRelation_8 (by decide) ?_
    refine lv_icmp_eq (tgt := 21) hx hb d_Ct_isRelation_11 (by decide) (fun c_2 => ?_) (fun c_2 => ?_)
    · have he := he.trans (if_pos c_2)
      refine lv_iconst (v := 1) hx hb d_Ct_isRelation_21 (by decide) ?_
      refine lv_goto (tgt := 26) hx hb d_Ct_isRelation_22 (by decide) ?_
      exact W.zret hx hb hr (by rfl) (v := 1) (fun t ht hW => ⟨⟨1, (), rfl, he.symm, by rw [ht]; exact hP, va_K.moved hW.alike hK, hD⟩, hS.F ht⟩) hS.2.2 d_Ct_isRelation_26
    · have he := he.trans (if_neg c_2)
      refine lv_iload_n hx hb d_Ct_isRelation_14 rfl (lv_at hl 0 rfl) ?_
      refine lv_sipush (v := 3134) hx hb d_Ct_isRelation_15 (by decide) ?_
      refine lv_icmp_ne (tgt := 25) hx hb d_Ct_isRelation_18 (by decide) (fun c_3 => ?_) (fun c_3 => ?_)
      · have he := he.trans (if_neg c_3)
        refine lv_iconst (v := 0) hx hb d_Ct_isRelation_25 (by decide) ?_
        exact W.zret hx hb hr (by rfl) (v := 0) (fun t ht hW => ⟨⟨0, (), rfl, he.symm, by rw [ht]; exact hP, va_K.moved hW.alike hK, hD⟩, hS.F ht⟩) hS.2.2 d_Ct_isRelation_26
      · have he := he.trans (if_pos c_3)
        refine lv_iconst (v := 1) hx hb d_Ct_isRelation_21 (by decide) ?_
        refine lv_goto (tgt := 26) hx hb d_Ct_isRelation_22 (by decide) ?_
        exact W.zret hx hb hr (by rfl) (v := 1) (fun t ht hW => ⟨⟨1, (), rfl, he.symm, by rw [ht]; exact hP, va_K.moved hW.alike hK, hD⟩, hS.F ht⟩) hS.2.2 d_Ct_isRelation_26
def f_Ct_isBlank (p0 : Int32) : Int32 := (if p0 < 2560 then 0 else (if 2815 < p0 then 0 else 1))
set_option maxHeartbeats 4000000 in
set_option maxRecDepth 100000 in
theorem c_Ct_isBlank (l : Launch) (dC : Nat → ClassId) (dI : Nat → Nat → Nat) (ad : Nat → Nat) (ca : Nat → ClassId) (sz : Nat) (p0 : Int32) (F : Int32) (he : F = f_Ct_isBlank p0) : wx_Mi l y_Ct_isBlank ws_Ct_isBlank ({ frames := 0, cells := 0, slots := 0, locals := 0 } : Room) (dC, dI) vwCl (t_E ca) [.int p0] (w_E ad ca) sz (fun _ : Unit => w_E ad ca) (fun (r : Int32) (_ : Unit) => r = F) := by
  refine Met.ofW (cc := b_Ct_isBlank) (maxL := 1) (ret := some .boolean) (by decide) rfl ?_
  intro p e s m args below meth c s₁ B hml hv
  obtain ⟨rfl, hsz, hP, hK, hD0, hN⟩ := hv
  have hx := B.exec
  have hb := B.bytes
  have hr := B.returns
  have hts := atoms_spec (ws := ws_Ct_isBlank) B.pre
  have ht : ∀ w ∈ TB, w.before _ s = true := fun w h => hts w (List.mem_cons_of_mem _ h)
  have hown : s.vm.findClass R_Ct = some m.cls := findClass_of_methodNamed B.named
  have hlocks := B.notSynchronized
  subst hsz
  have hD := hD0.self (sz := s.heap.size)
  generalize hAe : va_A (w_E ad ca) s.heap.size = A at hD ⊢
  have hA : ∀ q : Nat, s.heap.size ≤ q → A q := fun q h => by rw [← hAe]; exact Or.inr h
  have hS : va_S A s.heap s.heap [] := va_S.rf
  have hl := lv_entry ([.int p0]) (n := 1) (Nat.le_of_ble_eq_true rfl)
  rw [lg_entry_eq]
  generalize (lg_sl ([.int p0]) ++ List.replicate (1 - (lg_sl ([.int p0])).length) Slot.unset).toArray = ls at hl ⊢
  have hl : lv_has ls 1 [(0, .int p0)] := hl
  unfold f_Ct_isBlank at he
  refine lv_iload_n hx hb d_Ct_isBlank_0 rfl (lv_at hl 0 rfl) ?_
  refine lv_sipush (v := 2560) hx hb d_Ct_isBlank_1 (by decide) ?_
  refine lv_icmp_lt (tgt := 18) hx hb d_Ct_isBlank_4 (by decide) (fun c_1 => ?_) (fun c_1 => ?_)
  · have he := he.trans (if_pos c_1)
    refine lv_iconst (v := 0) hx hb d_Ct_isBlank_18 (by decide) ?_
    exact W.zret hx hb hr (by rfl) (v := 0) (fun t ht hW => ⟨⟨0, (), rfl, he.symm, by rw [ht]; exact hP, va_K.moved hW.alike hK, hD⟩, hS.F ht⟩) hS.2.2 d_Ct_isBlank_19
  · have he := he.trans (if_neg c_1)
    refine lv_iload_n hx hb d_Ct_isBlank_7 rfl (lv_at hl 0 rfl) ?_
    refine lv_sipush (v := 2815) hx hb d_Ct_isBlank_8 (by decide) ?_
    refine lv_icmp_gt (tgt := 18) hx hb d_Ct_isBlank_11 (by decide) (fun c_2 => ?_) (fun c_2 => ?_)
    · have he := he.trans (if_pos c_2)
      refine lv_iconst (v := 0) hx hb d_Ct_isBlank_18 (by decide) ?_
      exact W.zret hx hb hr (by rfl) (v := 0) (fun t ht hW => ⟨⟨0, (), rfl, he.symm, by rw [ht]; exact hP, va_K.moved hW.alike hK, hD⟩, hS.F ht⟩) hS.2.2 d_Ct_isBlank_19
    · have he := he.trans (if_neg c_2)
      refine lv_iconst (v := 1) hx hb d_Ct_isBlank_14 (by decide) ?_
      refine lv_goto (tgt := 19) hx hb d_Ct_isBlank_15 (by decide) ?_
      exact W.zret hx hb hr (by rfl) (v := 1) (fun t ht hW => ⟨⟨1, (), rfl, he.symm, by rw [ht]; exact hP, va_K.moved hW.alike hK, hD⟩, hS.F ht⟩) hS.2.2 d_Ct_isBlank_19
def f_Ct_isMacro (p0 : Int32) : Int32 := (if p0 = 2 then 1 else (if p0 = 3 then 1 else 0))
set_option maxHeartbeats 4000000 in
set_option maxRecDepth 100000 in
theorem c_Ct_isMacro (l : Launch) (dC : Nat → ClassId) (dI : Nat → Nat → Nat) (ad : Nat → Nat) (ca : Nat → ClassId) (sz : Nat) (p0 : Int32) (F : Int32) (he : F = f_Ct_isMacro p0) : wx_Mi l y_Ct_isMacro ws_Ct_isMacro ({ frames := 0, cells := 0, slots := 0, locals := 0 } : Room) (dC, dI) vwCl (t_E ca) [.int p0] (w_E ad ca) sz (fun _ : Unit => w_E ad ca) (fun (r : Int32) (_ : Unit) => r = F) := by
  refine Met.ofW (cc := b_Ct_isMacro) (maxL := 1) (ret := some .boolean) (by decide) rfl ?_
  intro p e s m args below meth c s₁ B hml hv
  obtain ⟨rfl, hsz, hP, hK, hD0, hN⟩ := hv
  have hx := B.exec
  have hb := B.bytes
  have hr := B.returns
  have hts := atoms_spec (ws := ws_Ct_isMacro) B.pre
  have ht : ∀ w ∈ TB, w.before _ s = true := fun w h => hts w (List.mem_cons_of_mem _ h)
  have hown : s.vm.findClass R_Ct = some m.cls := findClass_of_methodNamed B.named
  have hlocks := B.notSynchronized
  subst hsz
  have hD := hD0.self (sz := s.heap.size)
  generalize hAe : va_A (w_E ad ca) s.heap.size = A at hD ⊢
  have hA : ∀ q : Nat, s.heap.size ≤ q → A q := fun q h => by rw [← hAe]; exact Or.inr h
  have hS : va_S A s.heap s.heap [] := va_S.rf
  have hl := lv_entry ([.int p0]) (n := 1) (Nat.le_of_ble_eq_true rfl)
  rw [lg_entry_eq]
  generalize (lg_sl ([.int p0]) ++ List.replicate (1 - (lg_sl ([.int p0])).length) Slot.unset).toArray = ls at hl ⊢
  have hl : lv_has ls 1 [(0, .int p0)] := hl
  unfold f_Ct_isMacro at he
  refine lv_iload_n hx hb d_Ct_isMacro_0 rfl (lv_at hl 0 rfl) ?_
  refine lv_iconst (v := 2) hx hb d_Ct_isMacro_1 (by decide) ?_
  refine lv_icmp_eq (tgt := 10) hx hb d_Ct_isMacro_2 (by decide) (fun c_1 => ?_) (fun c_1 => ?_)
  · have he := he.trans (if_pos c_1)
    refine lv_iconst (v := 1) hx hb d_Ct_isMacro_10 (by decide) ?_
    refine lv_goto (tgt := 15) hx hb d_Ct_isMacro_11 (by decide) ?_
    exact W.zret hx hb hr (by rfl) (v := 1) (fun t ht hW => ⟨⟨1, (), rfl, he.symm, by rw [ht]; exact hP, va_K.moved hW.alike hK, hD⟩, hS.F ht⟩) hS.2.2 d_Ct_isMacro_15
  · have he := he.trans (if_neg c_1)
    refine lv_iload_n hx hb d_Ct_isMacro_5 rfl (lv_at hl 0 rfl) ?_
    refine lv_iconst (v := 3) hx hb d_Ct_isMacro_6 (by decide) ?_
    refine lv_icmp_ne (tgt := 14) hx hb d_Ct_isMacro_7 (by decide) (fun c_2 => ?_) (fun c_2 => ?_)
    · have he := he.trans (if_neg c_2)
      refine lv_iconst (v := 0) hx hb d_Ct_isMacro_14 (by decide) ?_
      exact W.zret hx hb hr (by rfl) (v := 0) (fun t ht hW => ⟨⟨0, (), rfl, he.symm, by rw [ht]; exact hP, va_K.moved hW.alike hK, hD⟩, hS.F ht⟩) hS.2.2 d_Ct_isMacro_15
    · have he := he.trans (if_pos c_2)
      refine lv_iconst (v := 1) hx hb d_Ct_isMacro_10 (by decide) ?_
      refine lv_goto (tgt := 15) hx hb d_Ct_isMacro_11 (by decide) ?_
      exact W.zret hx hb hr (by rfl) (v := 1) (fun t ht hW => ⟨⟨1, (), rfl, he.symm, by rw [ht]; exact hP, va_K.moved hW.alike hK, hD⟩, hS.F ht⟩) hS.2.2 d_Ct_isMacro_15
def f_Ct_isMark (p0 : Int32) : Int32 := (if p0 = 6 then 1 else (if p0 = 7 then 1 else (if p0 = 8 then 1 else 0)))
set_option maxHeartbeats 4000000 in
set_option maxRecDepth 100000 in
theorem c_Ct_isMark (l : Launch) (dC : Nat → ClassId) (dI : Nat → Nat → Nat) (ad : Nat → Nat) (ca : Nat → ClassId) (sz : Nat) (p0 : Int32) (F : Int32) (he : F = f_Ct_isMark p0) : wx_Mi l y_Ct_isMark ws_Ct_isMark ({ frames := 0, cells := 0, slots := 0, locals := 0 } : Room) (dC, dI) vwCl (t_E ca) [.int p0] (w_E ad ca) sz (fun _ : Unit => w_E ad ca) (fun (r : Int32) (_ : Unit) => r = F) := by
  refine Met.ofW (cc := b_Ct_isMark) (maxL := 1) (ret := some .boolean) (by decide) rfl ?_
  intro p e s m args below meth c s₁ B hml hv
  obtain ⟨rfl, hsz, hP, hK, hD0, hN⟩ := hv
  have hx := B.exec
  have hb := B.bytes
  have hr := B.returns
  have hts := atoms_spec (ws := ws_Ct_isMark) B.pre
  have ht : ∀ w ∈ TB, w.before _ s = true := fun w h => hts w (List.mem_cons_of_mem _ h)
  have hown : s.vm.findClass R_Ct = some m.cls := findClass_of_methodNamed B.named
  have hlocks := B.notSynchronized
  subst hsz
  have hD := hD0.self (sz := s.heap.size)
  generalize hAe : va_A (w_E ad ca) s.heap.size = A at hD ⊢
  have hA : ∀ q : Nat, s.heap.size ≤ q → A q := fun q h => by rw [← hAe]; exact Or.inr h
  have hS : va_S A s.heap s.heap [] := va_S.rf
  have hl := lv_entry ([.int p0]) (n := 1) (Nat.le_of_ble_eq_true rfl)
  rw [lg_entry_eq]
  generalize (lg_sl ([.int p0]) ++ List.replicate (1 - (lg_sl ([.int p0])).length) Slot.unset).toArray = ls at hl ⊢
  have hl : lv_has ls 1 [(0, .int p0)] := hl
  unfold f_Ct_isMark at he
  refine lv_iload_n hx hb d_Ct_isMark_0 rfl (lv_at hl 0 rfl) ?_
  refine lv_bipush (v := 6) hx hb d_Ct_isMark_1 (by decide) ?_
  refine lv_icmp_eq (tgt := 18) hx hb d_Ct_isMark_3 (by decide) (fun c_1 => ?_) (fun c_1 => ?_)
  · have he := he.trans (if_pos c_1)
    refine lv_iconst (v := 1) hx hb d_Ct_isMark_18 (by decide) ?_
    refine lv_goto (tgt := 23) hx hb d_Ct_isMark_19 (by decide) ?_
    exact W.zret hx hb hr (by rfl) (v := 1) (fun t ht hW => ⟨⟨1, (), rfl, he.symm, by rw [ht]; exact hP, va_K.moved hW.alike hK, hD⟩, hS.F ht⟩) hS.2.2 d_Ct_isMark_23
  · have he := he.trans (if_neg c_1)
    refine lv_iload_n hx hb d_Ct_isMark_6 rfl (lv_at hl 0 rfl) ?_
    refine lv_bipush (v := 7) hx hb d_Ct_isMark_7 (by decide) ?_
    refine lv_icmp_eq (tgt := 18) hx hb d_Ct_isMark_9 (by decide) (fun c_2 => ?_) (fun c_2 => ?_)
    · have he := he.trans (if_pos c_2)
      refine lv_iconst (v := 1) hx hb d_Ct_isMark_18 (by decide) ?_
      refine lv_goto (tgt := 23) hx hb d_Ct_isMark_19 (by decide) ?_
      exact W.zret hx hb hr (by rfl) (v := 1) (fun t ht hW => ⟨⟨1, (), rfl, he.symm, by rw [ht]; exact hP, va_K.moved hW.alike hK, hD⟩, hS.F ht⟩) hS.2.2 d_Ct_isMark_23
    · have he := he.trans (if_neg c_2)
      refine lv_iload_n hx hb d_Ct_isMark_12 rfl (lv_at hl 0 rfl) ?_
      refine lv_bipush (v := 8) hx hb d_Ct_isMark_13 (by decide) ?_
      refine lv_icmp_ne (tgt := 22) hx hb d_Ct_isMark_15 (by decide) (fun c_3 => ?_) (fun c_3 => ?_)
      · have he := he.trans (if_neg c_3)
        refine lv_iconst (v := 0) hx hb d_Ct_isMark_22 (by decide) ?_
        exact W.zret hx hb hr (by rfl) (v := 0) (fun t ht hW => ⟨⟨0, (), rfl, he.symm, by rw [ht]; exact hP, va_K.moved hW.alike hK, hD⟩, hS.F ht⟩) hS.2.2 d_Ct_isMark_23
      · have he := he.trans (if_pos c_3)
        refine lv_iconst (v := 1) hx hb d_Ct_isMark_18 (by decide) ?_
        refine lv_goto (tgt := 23) hx hb d_Ct_isMark_19 (by decide) ?_
        exact W.zret hx hb hr (by rfl) (v := 1) (fun t ht hW => ⟨⟨1, (), rfl, he.symm, by rw [ht]; exact hP, va_K.moved hW.alike hK, hD⟩, hS.F ht⟩) hS.2.2 d_Ct_isMark_23
end
section
theorem q_65 : Cond.fieldLink R_Bk 9 "ConditionText$Book" "kinds" "[I" ∈ TB := tq 65 (by decide +kernel) rfl
theorem q_66 : Cond.fieldLink R_Bk 15 "ConditionText$Book" "values" "[I" ∈ TB := tq 66 (by decide +kernel) rfl
theorem q_68 : Cond.fieldLink R_Bk 21 "ConditionText$Book" "sizes" "[I" ∈ TB := tq 68 (by decide +kernel) rfl
theorem q_75 : Cond.fieldLink R_Bk 31 "ConditionText$Book" "bodyCount" "I" ∈ TB := tq 75 (by decide +kernel) rfl
theorem d_Bk_hasBody_0 : decode b_Bk_hasBody 0 = .ok (.iload_n 1, 1) := by decide +kernel
theorem d_Bk_hasBody_1 : decode b_Bk_hasBody 1 = .ok (.ifCond .lt 15, 3) := by decide +kernel
theorem d_Bk_hasBody_4 : decode b_Bk_hasBody 4 = .ok (.iload_n 1, 1) := by decide +kernel
theorem d_Bk_hasBody_5 : decode b_Bk_hasBody 5 = .ok (.aload_n 0, 1) := by decide +kernel
theorem d_Bk_hasBody_6 : decode b_Bk_hasBody 6 = .ok (.getfield 31, 3) := by decide +kernel
theorem d_Bk_hasBody_9 : decode b_Bk_hasBody 9 = .ok (.if_icmp .ge 7, 3) := by decide +kernel
theorem d_Bk_hasBody_12 : decode b_Bk_hasBody 12 = .ok (.iconst 1, 1) := by decide +kernel
theorem d_Bk_hasBody_13 : decode b_Bk_hasBody 13 = .ok (.goto 4, 3) := by decide +kernel
theorem d_Bk_hasBody_16 : decode b_Bk_hasBody 16 = .ok (.iconst 0, 1) := by decide +kernel
theorem d_Bk_hasBody_17 : decode b_Bk_hasBody 17 = .ok (.ireturn, 1) := by decide +kernel
theorem d_Bk_addBody_0 : decode b_Bk_addBody 0 = .ok (.aload_n 0, 1) := by decide +kernel
theorem d_Bk_addBody_1 : decode b_Bk_addBody 1 = .ok (.getfield 31, 3) := by decide +kernel
theorem d_Bk_addBody_4 : decode b_Bk_addBody 4 = .ok (.bipush 20, 2) := by decide +kernel
theorem d_Bk_addBody_6 : decode b_Bk_addBody 6 = .ok (.if_icmp .lt 6, 3) := by decide +kernel
theorem d_Bk_addBody_9 : decode b_Bk_addBody 9 = .ok (.bipush (-4), 2) := by decide +kernel
theorem d_Bk_addBody_11 : decode b_Bk_addBody 11 = .ok (.ireturn, 1) := by decide +kernel
theorem d_Bk_addBody_12 : decode b_Bk_addBody 12 = .ok (.aload_n 0, 1) := by decide +kernel
theorem d_Bk_addBody_13 : decode b_Bk_addBody 13 = .ok (.dup, 1) := by decide +kernel
theorem d_Bk_addBody_14 : decode b_Bk_addBody 14 = .ok (.getfield 31, 3) := by decide +kernel
theorem d_Bk_addBody_17 : decode b_Bk_addBody 17 = .ok (.iconst 1, 1) := by decide +kernel
theorem d_Bk_addBody_18 : decode b_Bk_addBody 18 = .ok (.iadd, 1) := by decide +kernel
theorem d_Bk_addBody_19 : decode b_Bk_addBody 19 = .ok (.putfield 31, 3) := by decide +kernel
theorem d_Bk_addBody_22 : decode b_Bk_addBody 22 = .ok (.aload_n 0, 1) := by decide +kernel
theorem d_Bk_addBody_23 : decode b_Bk_addBody 23 = .ok (.getfield 31, 3) := by decide +kernel
theorem d_Bk_addBody_26 : decode b_Bk_addBody 26 = .ok (.iconst 1, 1) := by decide +kernel
theorem d_Bk_addBody_27 : decode b_Bk_addBody 27 = .ok (.isub, 1) := by decide +kernel
theorem d_Bk_addBody_28 : decode b_Bk_addBody 28 = .ok (.ireturn, 1) := by decide +kernel
theorem d_Bk_sizeOf_0 : decode b_Bk_sizeOf 0 = .ok (.iload_n 1, 1) := by decide +kernel
theorem d_Bk_sizeOf_1 : decode b_Bk_sizeOf 1 = .ok (.ifCond .lt 21, 3) := by decide +kernel
theorem d_Bk_sizeOf_4 : decode b_Bk_sizeOf 4 = .ok (.iload_n 1, 1) := by decide +kernel
theorem d_Bk_sizeOf_5 : decode b_Bk_sizeOf 5 = .ok (.aload_n 0, 1) := by decide +kernel
theorem d_Bk_sizeOf_6 : decode b_Bk_sizeOf 6 = .ok (.getfield 21, 3) := by decide +kernel
theorem d_Bk_sizeOf_9 : decode b_Bk_sizeOf 9 = .ok (.arraylength, 1) := by decide +kernel
theorem d_Bk_sizeOf_10 : decode b_Bk_sizeOf 10 = .ok (.if_icmp .ge 12, 3) := by decide +kernel
theorem d_Bk_sizeOf_13 : decode b_Bk_sizeOf 13 = .ok (.aload_n 0, 1) := by decide +kernel
theorem d_Bk_sizeOf_14 : decode b_Bk_sizeOf 14 = .ok (.getfield 21, 3) := by decide +kernel
theorem d_Bk_sizeOf_17 : decode b_Bk_sizeOf 17 = .ok (.iload_n 1, 1) := by decide +kernel
theorem d_Bk_sizeOf_18 : decode b_Bk_sizeOf 18 = .ok (.iaload, 1) := by decide +kernel
theorem d_Bk_sizeOf_19 : decode b_Bk_sizeOf 19 = .ok (.goto 4, 3) := by decide +kernel
theorem d_Bk_sizeOf_22 : decode b_Bk_sizeOf 22 = .ok (.iconst 0, 1) := by decide +kernel
theorem d_Bk_sizeOf_23 : decode b_Bk_sizeOf 23 = .ok (.ireturn, 1) := by decide +kernel
theorem d_Bk_emptyInput_0 : decode b_Bk_emptyInput 0 = .ok (.aload_n 0, 1) := by decide +kernel
theorem d_Bk_emptyInput_1 : decode b_Bk_emptyInput 1 = .ok (.getfield 21, 3) := by decide +kernel
theorem d_Bk_emptyInput_4 : decode b_Bk_emptyInput 4 = .ok (.bipush 20, 2) := by decide +kernel
theorem d_Bk_emptyInput_6 : decode b_Bk_emptyInput 6 = .ok (.iaload, 1) := by decide +kernel
theorem d_Bk_emptyInput_7 : decode b_Bk_emptyInput 7 = .ok (.istore_n 1, 1) := by decide +kernel
theorem d_Bk_emptyInput_8 : decode b_Bk_emptyInput 8 = .ok (.aload_n 0, 1) := by decide +kernel
theorem d_Bk_emptyInput_9 : decode b_Bk_emptyInput 9 = .ok (.getfield 21, 3) := by decide +kernel
theorem d_Bk_emptyInput_12 : decode b_Bk_emptyInput 12 = .ok (.bipush 20, 2) := by decide +kernel
theorem d_Bk_emptyInput_14 : decode b_Bk_emptyInput 14 = .ok (.iconst 0, 1) := by decide +kernel
theorem d_Bk_emptyInput_15 : decode b_Bk_emptyInput 15 = .ok (.iastore, 1) := by decide +kernel
theorem d_Bk_emptyInput_16 : decode b_Bk_emptyInput 16 = .ok (.iload_n 1, 1) := by decide +kernel
theorem d_Bk_emptyInput_17 : decode b_Bk_emptyInput 17 = .ok (.ireturn, 1) := by decide +kernel
theorem d_Bk_define_0 : decode b_Bk_define 0 = .ok (.iload_n 1, 1) := by decide +kernel
theorem d_Bk_define_1 : decode b_Bk_define 1 = .ok (.ifCond .lt 23, 3) := by decide +kernel
theorem d_Bk_define_4 : decode b_Bk_define 4 = .ok (.iload_n 1, 1) := by decide +kernel
theorem d_Bk_define_5 : decode b_Bk_define 5 = .ok (.bipush 40, 2) := by decide +kernel
theorem d_Bk_define_7 : decode b_Bk_define 7 = .ok (.if_icmp .ge 17, 3) := by decide +kernel
theorem d_Bk_define_10 : decode b_Bk_define 10 = .ok (.aload_n 0, 1) := by decide +kernel
theorem d_Bk_define_11 : decode b_Bk_define 11 = .ok (.getfield 9, 3) := by decide +kernel
theorem d_Bk_define_14 : decode b_Bk_define 14 = .ok (.iload_n 1, 1) := by decide +kernel
theorem d_Bk_define_15 : decode b_Bk_define 15 = .ok (.iload_n 2, 1) := by decide +kernel
theorem d_Bk_define_16 : decode b_Bk_define 16 = .ok (.iastore, 1) := by decide +kernel
theorem d_Bk_define_17 : decode b_Bk_define 17 = .ok (.aload_n 0, 1) := by decide +kernel
theorem d_Bk_define_18 : decode b_Bk_define 18 = .ok (.getfield 15, 3) := by decide +kernel
theorem d_Bk_define_21 : decode b_Bk_define 21 = .ok (.iload_n 1, 1) := by decide +kernel
theorem d_Bk_define_22 : decode b_Bk_define 22 = .ok (.iload_n 3, 1) := by decide +kernel
theorem d_Bk_define_23 : decode b_Bk_define 23 = .ok (.iastore, 1) := by decide +kernel
theorem d_Bk_define_24 : decode b_Bk_define 24 = .ok (.return_, 1) := by decide +kernel
def f_Bk_hasBody (b : TBk) (p0 : Int32) : Int32 := (if p0 < 0 then 0 else (if (TBk_bodyCount b) ≤ p0 then 0 else 1))
set_option maxHeartbeats 4000000 in
set_option maxRecDepth 100000 in
theorem c_Bk_hasBody (l : Launch) (dC : Nat → ClassId) (dI : Nat → Nat → Nat) (ad : Nat → Nat) (ca : Nat → ClassId) (sz : Nat) (b : TBk) (p0 : Int32) (F : Int32) (he : F = f_Bk_hasBody b p0) : wx_Mi l y_Bk_hasBody ws_Bk_hasBody ({ frames := 0, cells := 0, slots := 0, locals := 0 } : Room) (dC, dI) vwCl (t_B ca) [.ref (ad 8), .int p0] (w_B ad ca b) sz (fun _ : Unit => w_B ad ca b) (fun (r : Int32) (_ : Unit) => r = F) := by
  refine Met.ofW (cc := b_Bk_hasBody) (maxL := 2) (ret := some .boolean) (by decide) rfl ?_
  intro p e s m args below meth c s₁ B hml hv
  obtain ⟨rfl, hsz, hP, hK, hD0, hN⟩ := hv
  have hx := B.exec
  have hb := B.bytes
  have hr := B.returns
  have hts := atoms_spec (ws := ws_Bk_hasBody) B.pre
  have ht : ∀ w ∈ TB, w.before _ s = true := fun w h => hts w (List.mem_cons_of_mem _ h)
  have hown : s.vm.findClass R_Bk = some m.cls := findClass_of_methodNamed B.named
  have hlocks := B.notSynchronized
  subst hsz
  have hD := hD0.self (sz := s.heap.size)
  generalize hAe : va_A (w_B ad ca b) s.heap.size = A at hD ⊢
  have hA : ∀ q : Nat, s.heap.size ≤ q → A q := fun q h => by rw [← hAe]; exact Or.inr h
  have hS : va_S A s.heap s.heap [] := va_S.rf
  have hl := lv_entry ([.ref (ad 8), .int p0]) (n := 2) (Nat.le_of_ble_eq_true rfl)
  rw [lg_entry_eq]
  generalize (lg_sl ([.ref (ad 8), .int p0]) ++ List.replicate (2 - (lg_sl ([.ref (ad 8), .int p0])).length) Slot.unset).toArray = ls at hl ⊢
  have hl : lv_has ls 2 [(0, .ref (ad 8)), (1, .int p0)] := hl
  unfold f_Bk_hasBody at he
  refine lv_iload_n hx hb d_Bk_hasBody_0 rfl (lv_at hl 1 rfl) ?_
  refine lv_if_lt (tgt := 16) hx hb d_Bk_hasBody_1 (by decide) (fun c_1 => ?_) (fun c_1 => ?_)
  · have he := he.trans (if_pos c_1)
    refine lv_iconst (v := 0) hx hb d_Bk_hasBody_16 (by decide) ?_
    exact W.zret hx hb hr (by rfl) (v := 0) (fun t ht hW => ⟨⟨0, (), rfl, he.symm, by rw [ht]; exact hP, va_K.moved hW.alike hK, hD⟩, hS.F ht⟩) hS.2.2 d_Bk_hasBody_17
  · have he := he.trans (if_neg c_1)
    refine lv_iload_n hx hb d_Bk_hasBody_4 rfl (lv_at hl 1 rfl) ?_
    refine lv_aload_n hx hb d_Bk_hasBody_5 rfl (lv_at hl 0 rfl) ?_
    refine va_get (D := (dC, dI)) (ci := 0) (v := .int (TBk_bodyCount b)) (C := R_Bk) (T := T_Bk) (N := 7) hx hb ht i_Bk hown hK hP 0 rfl rfl 6 (by decide) (ht _ q_75) (fun _ h9 => h9) rfl d_Bk_hasBody_6 ?_
    refine lv_icmp_ge (tgt := 16) hx hb d_Bk_hasBody_9 (by decide) (fun c_2 => ?_) (fun c_2 => ?_)
    · have he := he.trans (if_pos c_2)
      refine lv_iconst (v := 0) hx hb d_Bk_hasBody_16 (by decide) ?_
      exact W.zret hx hb hr (by rfl) (v := 0) (fun t ht hW => ⟨⟨0, (), rfl, he.symm, by rw [ht]; exact hP, va_K.moved hW.alike hK, hD⟩, hS.F ht⟩) hS.2.2 d_Bk_hasBody_17
    · have he := he.trans (if_neg c_2)
      refine lv_iconst (v := 1) hx hb d_Bk_hasBody_12 (by decide) ?_
      refine lv_goto (tgt := 17) hx hb d_Bk_hasBody_13 (by decide) ?_
      exact W.zret hx hb hr (by rfl) (v := 1) (fun t ht hW => ⟨⟨1, (), rfl, he.symm, by rw [ht]; exact hP, va_K.moved hW.alike hK, hD⟩, hS.F ht⟩) hS.2.2 d_Bk_hasBody_17
def f_Bk_addBody (b : TBk) : (Int32 × TBk) := (if (TBk_bodyCount b) < 20 then ((((TBk_bodyCount b) + 1) - 1), (TBk_set_bodyCount b ((TBk_bodyCount b) + 1))) else ((-4), b))
set_option maxHeartbeats 4000000 in
set_option maxRecDepth 100000 in
theorem c_Bk_addBody (l : Launch) (dC : Nat → ClassId) (dI : Nat → Nat → Nat) (ad : Nat → Nat) (ca : Nat → ClassId) (sz : Nat) (b : TBk) (F : (Int32 × TBk)) (he : F = f_Bk_addBody b) : wx_Mi l y_Bk_addBody ws_Bk_addBody ({ frames := 0, cells := 0, slots := 0, locals := 0 } : Room) (dC, dI) vwCl (t_B ca) [.ref (ad 8)] (w_B ad ca b) sz (fun v : TBk => w_B ad ca v) (fun (r : Int32) (v : TBk) => (r, v) = F) := by
  refine Met.ofW (cc := b_Bk_addBody) (maxL := 1) (ret := some .int) (by decide) rfl ?_
  intro p e s m args below meth c s₁ B hml hv
  obtain ⟨rfl, hsz, hP, hK, hD0, hN⟩ := hv
  have hx := B.exec
  have hb := B.bytes
  have hr := B.returns
  have hts := atoms_spec (ws := ws_Bk_addBody) B.pre
  have ht : ∀ w ∈ TB, w.before _ s = true := fun w h => hts w (List.mem_cons_of_mem _ h)
  have hown : s.vm.findClass R_Bk = some m.cls := findClass_of_methodNamed B.named
  have hlocks := B.notSynchronized
  subst hsz
  have hD := hD0.self (sz := s.heap.size)
  generalize hAe : va_A (w_B ad ca b) s.heap.size = A at hD ⊢
  have hA : ∀ q : Nat, s.heap.size ≤ q → A q := fun q h => by rw [← hAe]; exact Or.inr h
  have hS : va_S A s.heap s.heap [] := va_S.rf
  have hl := lv_entry ([.ref (ad 8)]) (n := 1) (Nat.le_of_ble_eq_true rfl)
  rw [lg_entry_eq]
  generalize (lg_sl ([.ref (ad 8)]) ++ List.replicate (1 - (lg_sl ([.ref (ad 8)])).length) Slot.unset).toArray = ls at hl ⊢
  have hl : lv_has ls 1 [(0, .ref (ad 8))] := hl
  unfold f_Bk_addBody at he
  refine lv_aload_n hx hb d_Bk_addBody_0 rfl (lv_at hl 0 rfl) ?_
  refine va_get (D := (dC, dI)) (ci := 0) (v := .int (TBk_bodyCount b)) (C := R_Bk) (T := T_Bk) (N := 7) hx hb ht i_Bk hown hK hP 0 rfl rfl 6 (by decide) (ht _ q_75) (fun _ h9 => h9) rfl d_Bk_addBody_1 ?_
  refine lv_bipush (v := 20) hx hb d_Bk_addBody_4 (by decide) ?_
  refine lv_icmp_lt (tgt := 12) hx hb d_Bk_addBody_6 (by decide) (fun c_1 => ?_) (fun c_1 => ?_)
  · have he := he.trans (if_pos c_1)
    refine lv_aload_n hx hb d_Bk_addBody_12 rfl (lv_at hl 0 rfl) ?_
    refine lv_dup hx hb d_Bk_addBody_13 rfl ?_
    refine va_get (D := (dC, dI)) (ci := 0) (v := .int (TBk_bodyCount b)) (C := R_Bk) (T := T_Bk) (N := 7) hx hb ht i_Bk hown hK hP 0 rfl rfl 6 (by decide) (ht _ q_75) (fun _ h9 => h9) rfl d_Bk_addBody_14 ?_
    refine lv_iconst (v := 1) hx hb d_Bk_addBody_17 (by decide) ?_
    refine lv_iadd hx hb d_Bk_addBody_18 ?_
    refine va_put (D := (dC, dI)) (ci := 0) (v := .int ((TBk_bodyCount b) + 1)) (ty := .int) (C := R_Bk) (T := T_Bk) (N := 7) hx hb ht i_Bk ty_Bk ty_Bk_ok nm_Bk hown hK hP hD hS 0 rfl rfl 6 (by decide) (ht _ q_75) (fun _ h9 => h9) rfl (by decide +kernel) rfl rfl (Nat.le_of_ble_eq_true rfl) d_Bk_addBody_19 (fun H locs hP hD hS => ?_)
    have hP : va_P (dC, dI) vwCl (w_B ad ca (TBk_set_bodyCount b ((TBk_bodyCount b) + 1))) H := hP
    have hD : va_D A (w_B ad ca (TBk_set_bodyCount b ((TBk_bodyCount b) + 1))) := hD
    refine lv_aload_n hx hb d_Bk_addBody_22 rfl (lv_at hl 0 rfl) ?_
    refine va_get (D := (dC, dI)) (ci := 0) (v := .int ((TBk_bodyCount b) + 1)) (C := R_Bk) (T := T_Bk) (N := 7) hx hb ht i_Bk hown hK hP 0 rfl rfl 6 (by decide) (ht _ q_75) (fun _ h9 => h9) rfl d_Bk_addBody_23 ?_
    refine lv_iconst (v := 1) hx hb d_Bk_addBody_26 (by decide) ?_
    refine lv_isub hx hb d_Bk_addBody_27 ?_
    exact W.iret hx hb hr (v := (((TBk_bodyCount b) + 1) - 1)) (fun t ht hW => ⟨⟨(((TBk_bodyCount b) + 1) - 1), (TBk_set_bodyCount b ((TBk_bodyCount b) + 1)), rfl, he.symm, by rw [ht]; exact hP, va_K.moved hW.alike hK, hD⟩, hS.F ht⟩) hS.2.2 d_Bk_addBody_28
  · have he := he.trans (if_neg c_1)
    refine lv_bipush (v := (-4)) hx hb d_Bk_addBody_9 (by decide) ?_
    exact W.iret hx hb hr (v := (-4)) (fun t ht hW => ⟨⟨(-4), b, rfl, he.symm, by rw [ht]; exact hP, va_K.moved hW.alike hK, hD⟩, hS.F ht⟩) hS.2.2 d_Bk_addBody_11
def f_Bk_sizeOf (b : TBk) (p0 : Int32) : Int32 := (if p0 < 0 then 0 else (if 21 ≤ p0 then 0 else ((TBk_sizes b) p0.toNatClampNeg)))
set_option maxHeartbeats 4000000 in
set_option maxRecDepth 100000 in
theorem c_Bk_sizeOf (l : Launch) (dC : Nat → ClassId) (dI : Nat → Nat → Nat) (ad : Nat → Nat) (ca : Nat → ClassId) (sz : Nat) (b : TBk) (p0 : Int32) (F : Int32) (he : F = f_Bk_sizeOf b p0) : wx_Mi l y_Bk_sizeOf ws_Bk_sizeOf ({ frames := 0, cells := 0, slots := 0, locals := 0 } : Room) (dC, dI) vwCl (t_B ca) [.ref (ad 8), .int p0] (w_B ad ca b) sz (fun _ : Unit => w_B ad ca b) (fun (r : Int32) (_ : Unit) => r = F) := by
  refine Met.ofW (cc := b_Bk_sizeOf) (maxL := 2) (ret := some .int) (by decide) rfl ?_
  intro p e s m args below meth c s₁ B hml hv
  obtain ⟨rfl, hsz, hP, hK, hD0, hN⟩ := hv
  have hx := B.exec
  have hb := B.bytes
  have hr := B.returns
  have hts := atoms_spec (ws := ws_Bk_sizeOf) B.pre
  have ht : ∀ w ∈ TB, w.before _ s = true := fun w h => hts w (List.mem_cons_of_mem _ h)
  have hown : s.vm.findClass R_Bk = some m.cls := findClass_of_methodNamed B.named
  have hlocks := B.notSynchronized
  subst hsz
  have hD := hD0.self (sz := s.heap.size)
  generalize hAe : va_A (w_B ad ca b) s.heap.size = A at hD ⊢
  have hA : ∀ q : Nat, s.heap.size ≤ q → A q := fun q h => by rw [← hAe]; exact Or.inr h
  have hS : va_S A s.heap s.heap [] := va_S.rf
  have hl := lv_entry ([.ref (ad 8), .int p0]) (n := 2) (Nat.le_of_ble_eq_true rfl)
  rw [lg_entry_eq]
  generalize (lg_sl ([.ref (ad 8), .int p0]) ++ List.replicate (2 - (lg_sl ([.ref (ad 8), .int p0])).length) Slot.unset).toArray = ls at hl ⊢
  have hl : lv_has ls 2 [(0, .ref (ad 8)), (1, .int p0)] := hl
  unfold f_Bk_sizeOf at he
  refine lv_iload_n hx hb d_Bk_sizeOf_0 rfl (lv_at hl 1 rfl) ?_
  refine lv_if_lt (tgt := 22) hx hb d_Bk_sizeOf_1 (by decide) (fun c_1 => ?_) (fun c_1 => ?_)
  · have he := he.trans (if_pos c_1)
    refine lv_iconst (v := 0) hx hb d_Bk_sizeOf_22 (by decide) ?_
    exact W.iret hx hb hr (v := 0) (fun t ht hW => ⟨⟨0, (), rfl, he.symm, by rw [ht]; exact hP, va_K.moved hW.alike hK, hD⟩, hS.F ht⟩) hS.2.2 d_Bk_sizeOf_23
  · have he := he.trans (if_neg c_1)
    refine lv_iload_n hx hb d_Bk_sizeOf_4 rfl (lv_at hl 1 rfl) ?_
    refine lv_aload_n hx hb d_Bk_sizeOf_5 rfl (lv_at hl 0 rfl) ?_
    refine va_get (D := (dC, dI)) (ci := 0) (v := .ref (ad 12)) (C := R_Bk) (T := T_Bk) (N := 7) hx hb ht i_Bk hown hK hP 0 rfl rfl 3 (by decide) (ht _ q_68) (fun _ h9 => h9) rfl d_Bk_sizeOf_6 ?_
    refine va_alen hx hb hK hP 4 3 rfl rfl (v := 21) rfl d_Bk_sizeOf_9 ?_
    refine lv_icmp_ge (tgt := 22) hx hb d_Bk_sizeOf_10 (by decide) (fun c_2 => ?_) (fun c_2 => ?_)
    · have he := he.trans (if_pos c_2)
      refine lv_iconst (v := 0) hx hb d_Bk_sizeOf_22 (by decide) ?_
      exact W.iret hx hb hr (v := 0) (fun t ht hW => ⟨⟨0, (), rfl, he.symm, by rw [ht]; exact hP, va_K.moved hW.alike hK, hD⟩, hS.F ht⟩) hS.2.2 d_Bk_sizeOf_23
    · have he := he.trans (if_neg c_2)
      refine lv_aload_n hx hb d_Bk_sizeOf_13 rfl (lv_at hl 0 rfl) ?_
      refine va_get (D := (dC, dI)) (ci := 0) (v := .ref (ad 12)) (C := R_Bk) (T := T_Bk) (N := 7) hx hb ht i_Bk hown hK hP 0 rfl rfl 3 (by decide) (ht _ q_68) (fun _ h9 => h9) rfl d_Bk_sizeOf_14 ?_
      refine lv_iload_n hx hb d_Bk_sizeOf_17 rfl (lv_at hl 1 rfl) ?_
      refine va_iald hx hb hK hP 4 3 rfl rfl (wx_inAU (by decide) c_1 c_2) d_Bk_sizeOf_18 ?_
      refine lv_goto (tgt := 23) hx hb d_Bk_sizeOf_19 (by decide) ?_
      exact W.iret hx hb hr (v := ((TBk_sizes b) p0.toNatClampNeg)) (fun t ht hW => ⟨⟨((TBk_sizes b) p0.toNatClampNeg), (), rfl, he.symm, by rw [ht]; exact hP, va_K.moved hW.alike hK, hD⟩, hS.F ht⟩) hS.2.2 d_Bk_sizeOf_23
def f_Bk_emptyInput (b : TBk) : (Int32 × TBk) := (((TBk_sizes b) (20 : Int32).toNatClampNeg), (TBk_set_sizes b (upd (TBk_sizes b) (20 : Int32).toNatClampNeg 0)))
set_option maxHeartbeats 4000000 in
set_option maxRecDepth 100000 in
theorem c_Bk_emptyInput (l : Launch) (dC : Nat → ClassId) (dI : Nat → Nat → Nat) (ad : Nat → Nat) (ca : Nat → ClassId) (sz : Nat) (b : TBk) (F : (Int32 × TBk)) (he : F = f_Bk_emptyInput b) : wx_Mi l y_Bk_emptyInput ws_Bk_emptyInput ({ frames := 0, cells := 0, slots := 0, locals := 0 } : Room) (dC, dI) vwCl (t_B ca) [.ref (ad 8)] (w_B ad ca b) sz (fun v : TBk => w_B ad ca v) (fun (r : Int32) (v : TBk) => (r, v) = F) := by
  refine Met.ofW (cc := b_Bk_emptyInput) (maxL := 2) (ret := some .int) (by decide) rfl ?_
  intro p e s m args below meth c s₁ B hml hv
  obtain ⟨rfl, hsz, hP, hK, hD0, hN⟩ := hv
  have hx := B.exec
  have hb := B.bytes
  have hr := B.returns
  have hts := atoms_spec (ws := ws_Bk_emptyInput) B.pre
  have ht : ∀ w ∈ TB, w.before _ s = true := fun w h => hts w (List.mem_cons_of_mem _ h)
  have hown : s.vm.findClass R_Bk = some m.cls := findClass_of_methodNamed B.named
  have hlocks := B.notSynchronized
  subst hsz
  have hD := hD0.self (sz := s.heap.size)
  generalize hAe : va_A (w_B ad ca b) s.heap.size = A at hD ⊢
  have hA : ∀ q : Nat, s.heap.size ≤ q → A q := fun q h => by rw [← hAe]; exact Or.inr h
  have hS : va_S A s.heap s.heap [] := va_S.rf
  have hl := lv_entry ([.ref (ad 8)]) (n := 2) (Nat.le_of_ble_eq_true rfl)
  rw [lg_entry_eq]
  generalize (lg_sl ([.ref (ad 8)]) ++ List.replicate (2 - (lg_sl ([.ref (ad 8)])).length) Slot.unset).toArray = ls at hl ⊢
  have hl : lv_has ls 2 [(0, .ref (ad 8))] := hl
  unfold f_Bk_emptyInput at he
  refine lv_aload_n hx hb d_Bk_emptyInput_0 rfl (lv_at hl 0 rfl) ?_
  refine va_get (D := (dC, dI)) (ci := 0) (v := .ref (ad 12)) (C := R_Bk) (T := T_Bk) (N := 7) hx hb ht i_Bk hown hK hP 0 rfl rfl 3 (by decide) (ht _ q_68) (fun _ h9 => h9) rfl d_Bk_emptyInput_1 ?_
  refine lv_bipush (v := 20) hx hb d_Bk_emptyInput_4 (by decide) ?_
  refine va_iald hx hb hK hP 4 3 rfl rfl (show vp_in 20 21 by unfold vp_in; decide) d_Bk_emptyInput_6 ?_
  refine lv_istore_n (lv' := [(1, .int ((TBk_sizes b) (20 : Int32).toNatClampNeg)), (0, .ref (ad 8))]) hx hb d_Bk_emptyInput_7 rfl hl (by decide) rfl (fun ls hl => ?_)
  refine lv_aload_n hx hb d_Bk_emptyInput_8 rfl (lv_at hl 1 rfl) ?_
  refine va_get (D := (dC, dI)) (ci := 0) (v := .ref (ad 12)) (C := R_Bk) (T := T_Bk) (N := 7) hx hb ht i_Bk hown hK hP 0 rfl rfl 3 (by decide) (ht _ q_68) (fun _ h9 => h9) rfl d_Bk_emptyInput_9 ?_
  refine lv_bipush (v := 20) hx hb d_Bk_emptyInput_12 (by decide) ?_
  refine lv_iconst (v := 0) hx hb d_Bk_emptyInput_14 (by decide) ?_
  refine va_iast hx hb hK hP hD hS 4 3 rfl rfl (show vp_in 20 21 by unfold vp_in; decide) d_Bk_emptyInput_15 (fun H locs hP hD hS => ?_)
  have hP : va_P (dC, dI) vwCl (w_B ad ca (TBk_set_sizes b (upd (TBk_sizes b) (20 : Int32).toNatClampNeg 0))) H := hP
  have hD : va_D A (w_B ad ca (TBk_set_sizes b (upd (TBk_sizes b) (20 : Int32).toNatClampNeg 0))) := hD
  refine lv_iload_n hx hb d_Bk_emptyInput_16 rfl (lv_at hl 0 rfl) ?_
  exact W.iret hx hb hr (v := ((TBk_sizes b) (20 : Int32).toNatClampNeg)) (fun t ht hW => ⟨⟨((TBk_sizes b) (20 : Int32).toNatClampNeg), (TBk_set_sizes b (upd (TBk_sizes b) (20 : Int32).toNatClampNeg 0)), rfl, he.symm, by rw [ht]; exact hP, va_K.moved hW.alike hK, hD⟩, hS.F ht⟩) hS.2.2 d_Bk_emptyInput_17
def f_Bk_define (b : TBk) (p0 : Int32) (p1 : Int32) (p2 : Int32) : TBk := (if p0 < 0 then b else (if 40 ≤ p0 then b else (TBk_set_values (TBk_set_kinds b (upd (TBk_kinds b) p0.toNatClampNeg p1)) (upd (TBk_values b) p0.toNatClampNeg p2))))
set_option maxHeartbeats 4000000 in
set_option maxRecDepth 100000 in
theorem c_Bk_define (l : Launch) (dC : Nat → ClassId) (dI : Nat → Nat → Nat) (ad : Nat → Nat) (ca : Nat → ClassId) (sz : Nat) (b : TBk) (p0 : Int32) (p1 : Int32) (p2 : Int32) (F : TBk) (he : F = f_Bk_define b p0 p1 p2) : wx_Mv l y_Bk_define ws_Bk_define ({ frames := 0, cells := 0, slots := 0, locals := 0 } : Room) (dC, dI) vwCl (t_B ca) [.ref (ad 8), .int p0, .int p1, .int p2] (w_B ad ca b) sz (fun v : TBk => w_B ad ca v) (fun v : TBk => v = F) := by
  refine Met.ofW (cc := b_Bk_define) (maxL := 4) (ret := none) (by decide) rfl ?_
  intro p e s m args below meth c s₁ B hml hv
  obtain ⟨rfl, hsz, hP, hK, hD0, hN⟩ := hv
  have hx := B.exec
  have hb := B.bytes
  have hr := B.returns
  have hts := atoms_spec (ws := ws_Bk_define) B.pre
  have ht : ∀ w ∈ TB, w.before _ s = true := fun w h => hts w (List.mem_cons_of_mem _ h)
  have hown : s.vm.findClass R_Bk = some m.cls := findClass_of_methodNamed B.named
  have hlocks := B.notSynchronized
  subst hsz
  have hD := hD0.self (sz := s.heap.size)
  generalize hAe : va_A (w_B ad ca b) s.heap.size = A at hD ⊢
  have hA : ∀ q : Nat, s.heap.size ≤ q → A q := fun q h => by rw [← hAe]; exact Or.inr h
  have hS : va_S A s.heap s.heap [] := va_S.rf
  have hl := lv_entry ([.ref (ad 8), .int p0, .int p1, .int p2]) (n := 4) (Nat.le_of_ble_eq_true rfl)
  rw [lg_entry_eq]
  generalize (lg_sl ([.ref (ad 8), .int p0, .int p1, .int p2]) ++ List.replicate (4 - (lg_sl ([.ref (ad 8), .int p0, .int p1, .int p2])).length) Slot.unset).toArray = ls at hl ⊢
  have hl : lv_has ls 4 [(0, .ref (ad 8)), (1, .int p0), (2, .int p1), (3, .int p2)] := hl
  unfold f_Bk_define at he
  refine lv_iload_n hx hb d_Bk_define_0 rfl (lv_at hl 1 rfl) ?_
  refine lv_if_lt (tgt := 24) hx hb d_Bk_define_1 (by decide) (fun c_1 => ?_) (fun c_1 => ?_)
  · have he := he.trans (if_pos c_1)
    exact W.vret hx hb hr (fun t ht hW => ⟨⟨b, rfl, he.symm, by rw [ht]; exact hP, va_K.moved hW.alike hK, hD⟩, hS.F ht⟩) hS.2.2 d_Bk_define_24
  · have he := he.trans (if_neg c_1)
    refine lv_iload_n hx hb d_Bk_define_4 rfl (lv_at hl 1 rfl) ?_
    refine lv_bipush (v := 40) hx hb d_Bk_define_5 (by decide) ?_
    refine lv_icmp_ge (tgt := 24) hx hb d_Bk_define_7 (by decide) (fun c_2 => ?_) (fun c_2 => ?_)
    · have he := he.trans (if_pos c_2)
      exact W.vret hx hb hr (fun t ht hW => ⟨⟨b, rfl, he.symm, by rw [ht]; exact hP, va_K.moved hW.alike hK, hD⟩, hS.F ht⟩) hS.2.2 d_Bk_define_24
    · have he := he.trans (if_neg c_2)
      refine lv_aload_n hx hb d_Bk_define_10 rfl (lv_at hl 0 rfl) ?_
      refine va_get (D := (dC, dI)) (ci := 0) (v := .ref (ad 9)) (C := R_Bk) (T := T_Bk) (N := 7) hx hb ht i_Bk hown hK hP 0 rfl rfl 0 (by decide) (ht _ q_65) (fun _ h9 => h9) rfl d_Bk_define_11 ?_
      refine lv_iload_n hx hb d_Bk_define_14 rfl (lv_at hl 1 rfl) ?_
      refine lv_iload_n hx hb d_Bk_define_15 rfl (lv_at hl 2 rfl) ?_
      refine va_iast hx hb hK hP hD hS 1 0 rfl rfl (wx_inAU (by decide) c_1 c_2) d_Bk_define_16 (fun H locs hP hD hS => ?_)
      have hP : va_P (dC, dI) vwCl (w_B ad ca (TBk_set_kinds b (upd (TBk_kinds b) p0.toNatClampNeg p1))) H := hP
      have hD : va_D A (w_B ad ca (TBk_set_kinds b (upd (TBk_kinds b) p0.toNatClampNeg p1))) := hD
      refine lv_aload_n hx hb d_Bk_define_17 rfl (lv_at hl 0 rfl) ?_
      refine va_get (D := (dC, dI)) (ci := 0) (v := .ref (ad 10)) (C := R_Bk) (T := T_Bk) (N := 7) hx hb ht i_Bk hown hK hP 0 rfl rfl 1 (by decide) (ht _ q_66) (fun _ h9 => h9) rfl d_Bk_define_18 ?_
      refine lv_iload_n hx hb d_Bk_define_21 rfl (lv_at hl 1 rfl) ?_
      refine lv_iload_n hx hb d_Bk_define_22 rfl (lv_at hl 3 rfl) ?_
      refine va_iast hx hb hK hP hD hS 2 1 rfl rfl (wx_inAU (by decide) c_1 c_2) d_Bk_define_23 (fun H locs hP hD hS => ?_)
      have hP : va_P (dC, dI) vwCl (w_B ad ca (TBk_set_values (TBk_set_kinds b (upd (TBk_kinds b) p0.toNatClampNeg p1)) (upd (TBk_values b) p0.toNatClampNeg p2))) H := hP
      have hD : va_D A (w_B ad ca (TBk_set_values (TBk_set_kinds b (upd (TBk_kinds b) p0.toNatClampNeg p1)) (upd (TBk_values b) p0.toNatClampNeg p2))) := hD
      exact W.vret hx hb hr (fun t ht hW => ⟨⟨(TBk_set_values (TBk_set_kinds b (upd (TBk_kinds b) p0.toNatClampNeg p1)) (upd (TBk_values b) p0.toNatClampNeg p2)), rfl, he.symm, by rw [ht]; exact hP, va_K.moved hW.alike hK, hD⟩, hS.F ht⟩) hS.2.2 d_Bk_define_24
end
section
/-! of the Book: what keeps its rows in their bounds -/
theorem in_name {t : Int32} (h : ¬ f_Ct_isName t = 0) : vp_in (t - 4096) 40 := by
  unfold f_Ct_isName at h
  by_cases h1 : t < 4096
  · rw [if_pos h1] at h
    exact absurd rfl h
  · rw [if_neg h1] at h
    by_cases h2 : (4136 : Int32) ≤ t
    · rw [if_pos h2] at h
      exact absurd rfl h
    · rw [i32_lt] at h1
      rw [i32_le] at h2
      have e1 : (4096 : Int32).toInt = 4096 := by decide
      have e2 : (4136 : Int32).toInt = 4136 := by decide
      rw [e1] at h1
      rw [e2] at h2
      rw [vp_in_iff, i32_sub (by rw [e1]; omega) (by rw [e1]; omega), e1]
      omega
/-- the sizes of the rows are in their bounds -/
def BkS (b : TBk) : Prop := ∀ i, i < 21 → 0 ≤ (TBk_sizes b i).toInt ∧ (TBk_sizes b i).toInt ≤ 200
theorem BkS_size {b : TBk} (h : BkS b) (x : Int32) : 0 ≤ (f_Bk_sizeOf b x).toInt ∧ (f_Bk_sizeOf b x).toInt ≤ 200 := by
  unfold f_Bk_sizeOf
  by_cases h1 : x < 0
  · rw [if_pos h1, Int32.toInt_zero]
    omega
  · rw [if_neg h1]
    by_cases h2 : (21 : Int32) ≤ x
    · rw [if_pos h2, Int32.toInt_zero]
      omega
    · rw [if_neg h2]
      have h3 := vp_in_of (wx_inAU (n := 21) (by decide) h1 h2) (by omega)
      obtain ⟨j, hj, rfl⟩ := h3
      rw [nI_clamp (by omega)]
      exact h j hj
theorem BkS_row {b : TBk} {x : Int32} (h : 0 < (f_Bk_sizeOf b x).toInt) : 0 ≤ x.toInt ∧ x.toInt ≤ 20 := by
  unfold f_Bk_sizeOf at h
  by_cases h1 : x < 0
  · rw [if_pos h1, Int32.toInt_zero] at h
    omega
  · rw [if_neg h1] at h
    by_cases h2 : (21 : Int32) ≤ x
    · rw [if_pos h2, Int32.toInt_zero] at h
      omega
    · rw [i32_lt, Int32.toInt_zero] at h1
      rw [i32_le] at h2
      have e2 : (21 : Int32).toInt = 21 := by decide
      omega
theorem cell_toInt {x y : Int32} (h1 : 0 ≤ x.toInt) (h2 : x.toInt ≤ 20) (h3 : 0 ≤ y.toInt) (h4 : y.toInt ≤ 200) : (x * 12 + y).toInt = x.toInt * 12 + y.toInt := by
  have e : (12 : Int32).toInt = 12 := by decide
  have h5 : (x * 12).toInt = x.toInt * 12 := by rw [i32_mul (by rw [e]; omega) (by rw [e]; omega), e]
  rw [i32_add (by rw [h5]; omega) (by rw [h5]; omega), h5]
theorem in_tokenIn {b : TBk} {x y : Int32} (hb : BkS b) (h1 : ¬ y < 0) (h2 : y < f_Bk_sizeOf b x) (h3 : ¬ (440 : Int32) ≤ x * 12 + y) : vp_in (x * 12 + y) 440 := by
  rw [i32_lt, Int32.toInt_zero] at h1
  rw [i32_lt] at h2
  rw [i32_le] at h3
  have h4 := BkS_size hb x
  have h5 := BkS_row (b := b) (x := x) (by omega)
  have e : (440 : Int32).toInt = 440 := by decide
  have h6 := cell_toInt (x := x) (y := y) (by omega) (by omega) (by omega) (by omega)
  rw [vp_in_iff]
  omega
theorem in_append {b : TBk} {x : Int32} (hb : BkS b) (h1 : ¬ x < 0) (h2 : ¬ (20 : Int32) < x) (h3 : x * 12 + f_Bk_sizeOf b x < (440 : Int32)) : vp_in (x * 12 + f_Bk_sizeOf b x) 440 := by
  rw [i32_lt, Int32.toInt_zero] at h1
  rw [i32_lt] at h2 h3
  have h4 := BkS_size hb x
  have e : (440 : Int32).toInt = 440 := by decide
  have e2 : (20 : Int32).toInt = 20 := by decide
  have h6 := cell_toInt (x := x) (y := f_Bk_sizeOf b x) (by omega) (by omega) (by omega) (by omega)
  rw [vp_in_iff]
  omega
theorem in_top1 {x : Int32} (h1 : ¬ x < -1) (h2 : ¬ (5001 - 1 : Int32) ≤ x) : vp_in (x + 1) 5001 := by
  rw [i32_lt] at h1
  rw [i32_le] at h2
  have e1 : (-1 : Int32).toInt = -1 := by decide
  have e2 : (5001 - 1 : Int32).toInt = 5000 := by decide
  have e3 : (1 : Int32).toInt = 1 := by decide
  rw [vp_in_iff, i32_add (by rw [e3]; omega) (by rw [e3]; omega), e3]
  omega
/-- the fuel of the loop that leaves rows that ended -/
def LvF (x : Int32) (n : Nat) : Prop := x.toInt + 1 < n ∧ 0 < n
theorem LvF_0 {x : Int32} (h : LvF x 0) : False := Nat.lt_irrefl 0 h.2
theorem LvF_s {x : Int32} {n : Nat} (h : LvF x (n + 1)) (c : ¬ x < 0) : LvF (x - 1) n := by
  obtain ⟨h1, h2⟩ := h
  rw [i32_lt, Int32.toInt_zero] at c
  have e3 : (1 : Int32).toInt = 1 := by decide
  have h6 : (x - 1).toInt = x.toInt - 1 := by rw [i32_sub (by rw [e3]; omega) (by rw [e3]; have := i32_hi x; omega), e3]
  unfold LvF
  rw [h6]
  omega
theorem LvF_i (x : Int32) : LvF x ((x.toInt + 2).toNat + 1) := by
  unfold LvF
  omega
end
section
theorem q_45 : Cond.initialized R_Bk ∈ TB := tq 45 (by decide +kernel) rfl
theorem q_67 : Cond.fieldLink R_Bk 18 "ConditionText$Book" "cells" "[I" ∈ TB := tq 67 (by decide +kernel) rfl
theorem q_218 : Cond.methodLink R_Bk 35 y_Bk_sizeOf ∈ TB := tq 218 (by decide +kernel) rfl
theorem q_219 : Cond.instanceMethod y_Bk_sizeOf ∈ TB := tq 219 (by decide +kernel) rfl
theorem q_220 : Cond.selects R_Bk y_Bk_sizeOf y_Bk_sizeOf ∈ TB := tq 220 (by decide +kernel) rfl
theorem q_221 : Cond.code y_Bk_sizeOf b_Bk_sizeOf 2 (some .int) ∈ TB := tq 221 (by decide +kernel) rfl
theorem q_284 : Cond.instanceMethod y_Bk_kindOf ∈ TB := tq 284 (by decide +kernel) rfl
theorem q_285 : Cond.selects R_Bk y_Bk_kindOf y_Bk_kindOf ∈ TB := tq 285 (by decide +kernel) rfl
theorem q_286 : Cond.code y_Bk_kindOf b_Bk_kindOf 2 (some .int) ∈ TB := tq 286 (by decide +kernel) rfl
theorem q_292 : Cond.instanceMethod y_Bk_valueOf ∈ TB := tq 292 (by decide +kernel) rfl
theorem q_293 : Cond.selects R_Bk y_Bk_valueOf y_Bk_valueOf ∈ TB := tq 293 (by decide +kernel) rfl
theorem q_294 : Cond.code y_Bk_valueOf b_Bk_valueOf 2 (some .int) ∈ TB := tq 294 (by decide +kernel) rfl
theorem q_330 : Cond.methodLink R_Bk 43 y_Bk_kindOf ∈ TB := tq 330 (by decide +kernel) rfl
theorem q_331 : Cond.methodLink R_Bk 46 y_Bk_valueOf ∈ TB := tq 331 (by decide +kernel) rfl
theorem d_Bk_append_0 : decode b_Bk_append 0 = .ok (.aload_n 0, 1) := by decide +kernel
theorem d_Bk_append_1 : decode b_Bk_append 1 = .ok (.iload_n 1, 1) := by decide +kernel
theorem d_Bk_append_2 : decode b_Bk_append 2 = .ok (.invokevirtual 35, 3) := by decide +kernel
theorem d_Bk_append_5 : decode b_Bk_append 5 = .ok (.istore_n 3, 1) := by decide +kernel
theorem d_Bk_append_6 : decode b_Bk_append 6 = .ok (.iload_n 1, 1) := by decide +kernel
theorem d_Bk_append_7 : decode b_Bk_append 7 = .ok (.bipush 20, 2) := by decide +kernel
theorem d_Bk_append_9 : decode b_Bk_append 9 = .ok (.if_icmp .ne 9, 3) := by decide +kernel
theorem d_Bk_append_12 : decode b_Bk_append 12 = .ok (.sipush 200, 3) := by decide +kernel
theorem d_Bk_append_15 : decode b_Bk_append 15 = .ok (.goto 5, 3) := by decide +kernel
theorem d_Bk_append_18 : decode b_Bk_append 18 = .ok (.bipush 12, 2) := by decide +kernel
theorem d_Bk_append_20 : decode b_Bk_append 20 = .ok (.istore 4, 2) := by decide +kernel
theorem d_Bk_append_22 : decode b_Bk_append 22 = .ok (.iload_n 1, 1) := by decide +kernel
theorem d_Bk_append_23 : decode b_Bk_append 23 = .ok (.bipush 12, 2) := by decide +kernel
theorem d_Bk_append_25 : decode b_Bk_append 25 = .ok (.imul, 1) := by decide +kernel
theorem d_Bk_append_26 : decode b_Bk_append 26 = .ok (.iload_n 3, 1) := by decide +kernel
theorem d_Bk_append_27 : decode b_Bk_append 27 = .ok (.iadd, 1) := by decide +kernel
theorem d_Bk_append_28 : decode b_Bk_append 28 = .ok (.istore 5, 2) := by decide +kernel
theorem d_Bk_append_30 : decode b_Bk_append 30 = .ok (.iload_n 1, 1) := by decide +kernel
theorem d_Bk_append_31 : decode b_Bk_append 31 = .ok (.ifCond .lt 25, 3) := by decide +kernel
theorem d_Bk_append_34 : decode b_Bk_append 34 = .ok (.iload_n 1, 1) := by decide +kernel
theorem d_Bk_append_35 : decode b_Bk_append 35 = .ok (.bipush 20, 2) := by decide +kernel
theorem d_Bk_append_37 : decode b_Bk_append 37 = .ok (.if_icmp .gt 19, 3) := by decide +kernel
theorem d_Bk_append_40 : decode b_Bk_append 40 = .ok (.iload_n 3, 1) := by decide +kernel
theorem d_Bk_append_41 : decode b_Bk_append 41 = .ok (.iload 4, 2) := by decide +kernel
theorem d_Bk_append_43 : decode b_Bk_append 43 = .ok (.if_icmp .ge 13, 3) := by decide +kernel
theorem d_Bk_append_46 : decode b_Bk_append 46 = .ok (.iload 5, 2) := by decide +kernel
theorem d_Bk_append_48 : decode b_Bk_append 48 = .ok (.aload_n 0, 1) := by decide +kernel
theorem d_Bk_append_49 : decode b_Bk_append 49 = .ok (.getfield 18, 3) := by decide +kernel
theorem d_Bk_append_52 : decode b_Bk_append 52 = .ok (.arraylength, 1) := by decide +kernel
theorem d_Bk_append_53 : decode b_Bk_append 53 = .ok (.if_icmp .lt 6, 3) := by decide +kernel
theorem d_Bk_append_56 : decode b_Bk_append 56 = .ok (.bipush (-4), 2) := by decide +kernel
theorem d_Bk_append_58 : decode b_Bk_append 58 = .ok (.ireturn, 1) := by decide +kernel
theorem d_Bk_append_59 : decode b_Bk_append 59 = .ok (.aload_n 0, 1) := by decide +kernel
theorem d_Bk_append_60 : decode b_Bk_append 60 = .ok (.getfield 18, 3) := by decide +kernel
theorem d_Bk_append_63 : decode b_Bk_append 63 = .ok (.iload 5, 2) := by decide +kernel
theorem d_Bk_append_65 : decode b_Bk_append 65 = .ok (.iload_n 2, 1) := by decide +kernel
theorem d_Bk_append_66 : decode b_Bk_append 66 = .ok (.iastore, 1) := by decide +kernel
theorem d_Bk_append_67 : decode b_Bk_append 67 = .ok (.aload_n 0, 1) := by decide +kernel
theorem d_Bk_append_68 : decode b_Bk_append 68 = .ok (.getfield 21, 3) := by decide +kernel
theorem d_Bk_append_71 : decode b_Bk_append 71 = .ok (.iload_n 1, 1) := by decide +kernel
theorem d_Bk_append_72 : decode b_Bk_append 72 = .ok (.iload_n 3, 1) := by decide +kernel
theorem d_Bk_append_73 : decode b_Bk_append 73 = .ok (.iconst 1, 1) := by decide +kernel
theorem d_Bk_append_74 : decode b_Bk_append 74 = .ok (.iadd, 1) := by decide +kernel
theorem d_Bk_append_75 : decode b_Bk_append 75 = .ok (.iastore, 1) := by decide +kernel
theorem d_Bk_append_76 : decode b_Bk_append 76 = .ok (.iload_n 3, 1) := by decide +kernel
theorem d_Bk_append_77 : decode b_Bk_append 77 = .ok (.iconst 1, 1) := by decide +kernel
theorem d_Bk_append_78 : decode b_Bk_append 78 = .ok (.iadd, 1) := by decide +kernel
theorem d_Bk_append_79 : decode b_Bk_append 79 = .ok (.ireturn, 1) := by decide +kernel
theorem d_Bk_tokenIn_0 : decode b_Bk_tokenIn 0 = .ok (.iload_n 2, 1) := by decide +kernel
theorem d_Bk_tokenIn_1 : decode b_Bk_tokenIn 1 = .ok (.ifCond .lt 12, 3) := by decide +kernel
theorem d_Bk_tokenIn_4 : decode b_Bk_tokenIn 4 = .ok (.iload_n 2, 1) := by decide +kernel
theorem d_Bk_tokenIn_5 : decode b_Bk_tokenIn 5 = .ok (.aload_n 0, 1) := by decide +kernel
theorem d_Bk_tokenIn_6 : decode b_Bk_tokenIn 6 = .ok (.iload_n 1, 1) := by decide +kernel
theorem d_Bk_tokenIn_7 : decode b_Bk_tokenIn 7 = .ok (.invokevirtual 35, 3) := by decide +kernel
theorem d_Bk_tokenIn_10 : decode b_Bk_tokenIn 10 = .ok (.if_icmp .lt 5, 3) := by decide +kernel
theorem d_Bk_tokenIn_13 : decode b_Bk_tokenIn 13 = .ok (.iconst (-1), 1) := by decide +kernel
theorem d_Bk_tokenIn_14 : decode b_Bk_tokenIn 14 = .ok (.ireturn, 1) := by decide +kernel
theorem d_Bk_tokenIn_15 : decode b_Bk_tokenIn 15 = .ok (.iload_n 1, 1) := by decide +kernel
theorem d_Bk_tokenIn_16 : decode b_Bk_tokenIn 16 = .ok (.bipush 12, 2) := by decide +kernel
theorem d_Bk_tokenIn_18 : decode b_Bk_tokenIn 18 = .ok (.imul, 1) := by decide +kernel
theorem d_Bk_tokenIn_19 : decode b_Bk_tokenIn 19 = .ok (.iload_n 2, 1) := by decide +kernel
theorem d_Bk_tokenIn_20 : decode b_Bk_tokenIn 20 = .ok (.iadd, 1) := by decide +kernel
theorem d_Bk_tokenIn_21 : decode b_Bk_tokenIn 21 = .ok (.istore_n 3, 1) := by decide +kernel
theorem d_Bk_tokenIn_22 : decode b_Bk_tokenIn 22 = .ok (.iload_n 3, 1) := by decide +kernel
theorem d_Bk_tokenIn_23 : decode b_Bk_tokenIn 23 = .ok (.aload_n 0, 1) := by decide +kernel
theorem d_Bk_tokenIn_24 : decode b_Bk_tokenIn 24 = .ok (.getfield 18, 3) := by decide +kernel
theorem d_Bk_tokenIn_27 : decode b_Bk_tokenIn 27 = .ok (.arraylength, 1) := by decide +kernel
theorem d_Bk_tokenIn_28 : decode b_Bk_tokenIn 28 = .ok (.if_icmp .ge 12, 3) := by decide +kernel
theorem d_Bk_tokenIn_31 : decode b_Bk_tokenIn 31 = .ok (.aload_n 0, 1) := by decide +kernel
theorem d_Bk_tokenIn_32 : decode b_Bk_tokenIn 32 = .ok (.getfield 18, 3) := by decide +kernel
theorem d_Bk_tokenIn_35 : decode b_Bk_tokenIn 35 = .ok (.iload_n 3, 1) := by decide +kernel
theorem d_Bk_tokenIn_36 : decode b_Bk_tokenIn 36 = .ok (.iaload, 1) := by decide +kernel
theorem d_Bk_tokenIn_37 : decode b_Bk_tokenIn 37 = .ok (.goto 4, 3) := by decide +kernel
theorem d_Bk_tokenIn_40 : decode b_Bk_tokenIn 40 = .ok (.iconst (-1), 1) := by decide +kernel
theorem d_Bk_tokenIn_41 : decode b_Bk_tokenIn 41 = .ok (.ireturn, 1) := by decide +kernel
theorem d_Bk_kindOf_0 : decode b_Bk_kindOf 0 = .ok (.iload_n 1, 1) := by decide +kernel
theorem d_Bk_kindOf_1 : decode b_Bk_kindOf 1 = .ok (.invokestatic 39, 3) := by decide +kernel
theorem d_Bk_kindOf_4 : decode b_Bk_kindOf 4 = .ok (.ifCond .eq 16, 3) := by decide +kernel
theorem d_Bk_kindOf_7 : decode b_Bk_kindOf 7 = .ok (.aload_n 0, 1) := by decide +kernel
theorem d_Bk_kindOf_8 : decode b_Bk_kindOf 8 = .ok (.getfield 9, 3) := by decide +kernel
theorem d_Bk_kindOf_11 : decode b_Bk_kindOf 11 = .ok (.iload_n 1, 1) := by decide +kernel
theorem d_Bk_kindOf_12 : decode b_Bk_kindOf 12 = .ok (.sipush 4096, 3) := by decide +kernel
theorem d_Bk_kindOf_15 : decode b_Bk_kindOf 15 = .ok (.isub, 1) := by decide +kernel
theorem d_Bk_kindOf_16 : decode b_Bk_kindOf 16 = .ok (.iaload, 1) := by decide +kernel
theorem d_Bk_kindOf_17 : decode b_Bk_kindOf 17 = .ok (.goto 4, 3) := by decide +kernel
theorem d_Bk_kindOf_20 : decode b_Bk_kindOf 20 = .ok (.iconst 1, 1) := by decide +kernel
theorem d_Bk_kindOf_21 : decode b_Bk_kindOf 21 = .ok (.ireturn, 1) := by decide +kernel
theorem d_Bk_valueOf_0 : decode b_Bk_valueOf 0 = .ok (.iload_n 1, 1) := by decide +kernel
theorem d_Bk_valueOf_1 : decode b_Bk_valueOf 1 = .ok (.invokestatic 39, 3) := by decide +kernel
theorem d_Bk_valueOf_4 : decode b_Bk_valueOf 4 = .ok (.ifCond .eq 16, 3) := by decide +kernel
theorem d_Bk_valueOf_7 : decode b_Bk_valueOf 7 = .ok (.aload_n 0, 1) := by decide +kernel
theorem d_Bk_valueOf_8 : decode b_Bk_valueOf 8 = .ok (.getfield 15, 3) := by decide +kernel
theorem d_Bk_valueOf_11 : decode b_Bk_valueOf 11 = .ok (.iload_n 1, 1) := by decide +kernel
theorem d_Bk_valueOf_12 : decode b_Bk_valueOf 12 = .ok (.sipush 4096, 3) := by decide +kernel
theorem d_Bk_valueOf_15 : decode b_Bk_valueOf 15 = .ok (.isub, 1) := by decide +kernel
theorem d_Bk_valueOf_16 : decode b_Bk_valueOf 16 = .ok (.iaload, 1) := by decide +kernel
theorem d_Bk_valueOf_17 : decode b_Bk_valueOf 17 = .ok (.goto 4, 3) := by decide +kernel
theorem d_Bk_valueOf_20 : decode b_Bk_valueOf 20 = .ok (.iload_n 1, 1) := by decide +kernel
theorem d_Bk_valueOf_21 : decode b_Bk_valueOf 21 = .ok (.ireturn, 1) := by decide +kernel
theorem d_Bk_codeOf_0 : decode b_Bk_codeOf 0 = .ok (.aload_n 0, 1) := by decide +kernel
theorem d_Bk_codeOf_1 : decode b_Bk_codeOf 1 = .ok (.iload_n 1, 1) := by decide +kernel
theorem d_Bk_codeOf_2 : decode b_Bk_codeOf 2 = .ok (.invokevirtual 43, 3) := by decide +kernel
theorem d_Bk_codeOf_5 : decode b_Bk_codeOf 5 = .ok (.iconst 1, 1) := by decide +kernel
theorem d_Bk_codeOf_6 : decode b_Bk_codeOf 6 = .ok (.if_icmp .ne 15, 3) := by decide +kernel
theorem d_Bk_codeOf_9 : decode b_Bk_codeOf 9 = .ok (.aload_n 0, 1) := by decide +kernel
theorem d_Bk_codeOf_10 : decode b_Bk_codeOf 10 = .ok (.iload_n 1, 1) := by decide +kernel
theorem d_Bk_codeOf_11 : decode b_Bk_codeOf 11 = .ok (.invokevirtual 46, 3) := by decide +kernel
theorem d_Bk_codeOf_14 : decode b_Bk_codeOf 14 = .ok (.sipush 256, 3) := by decide +kernel
theorem d_Bk_codeOf_17 : decode b_Bk_codeOf 17 = .ok (.irem, 1) := by decide +kernel
theorem d_Bk_codeOf_18 : decode b_Bk_codeOf 18 = .ok (.goto 6, 3) := by decide +kernel
theorem d_Bk_codeOf_21 : decode b_Bk_codeOf 21 = .ok (.sipush 256, 3) := by decide +kernel
theorem d_Bk_codeOf_24 : decode b_Bk_codeOf 24 = .ok (.ireturn, 1) := by decide +kernel
theorem d_Bk_categoryOf_0 : decode b_Bk_categoryOf 0 = .ok (.aload_n 0, 1) := by decide +kernel
theorem d_Bk_categoryOf_1 : decode b_Bk_categoryOf 1 = .ok (.iload_n 1, 1) := by decide +kernel
theorem d_Bk_categoryOf_2 : decode b_Bk_categoryOf 2 = .ok (.invokevirtual 43, 3) := by decide +kernel
theorem d_Bk_categoryOf_5 : decode b_Bk_categoryOf 5 = .ok (.iconst 1, 1) := by decide +kernel
theorem d_Bk_categoryOf_6 : decode b_Bk_categoryOf 6 = .ok (.if_icmp .ne 15, 3) := by decide +kernel
theorem d_Bk_categoryOf_9 : decode b_Bk_categoryOf 9 = .ok (.aload_n 0, 1) := by decide +kernel
theorem d_Bk_categoryOf_10 : decode b_Bk_categoryOf 10 = .ok (.iload_n 1, 1) := by decide +kernel
theorem d_Bk_categoryOf_11 : decode b_Bk_categoryOf 11 = .ok (.invokevirtual 46, 3) := by decide +kernel
theorem d_Bk_categoryOf_14 : decode b_Bk_categoryOf 14 = .ok (.sipush 256, 3) := by decide +kernel
theorem d_Bk_categoryOf_17 : decode b_Bk_categoryOf 17 = .ok (.idiv, 1) := by decide +kernel
theorem d_Bk_categoryOf_18 : decode b_Bk_categoryOf 18 = .ok (.goto 5, 3) := by decide +kernel
theorem d_Bk_categoryOf_21 : decode b_Bk_categoryOf 21 = .ok (.bipush 16, 2) := by decide +kernel
theorem d_Bk_categoryOf_23 : decode b_Bk_categoryOf 23 = .ok (.ireturn, 1) := by decide +kernel
theorem d_Bk_tokensOfBodies_0 : decode b_Bk_tokensOfBodies 0 = .ok (.iconst 0, 1) := by decide +kernel
theorem d_Bk_tokensOfBodies_1 : decode b_Bk_tokensOfBodies 1 = .ok (.istore_n 1, 1) := by decide +kernel
theorem d_Bk_tokensOfBodies_2 : decode b_Bk_tokensOfBodies 2 = .ok (.iconst 0, 1) := by decide +kernel
theorem d_Bk_tokensOfBodies_3 : decode b_Bk_tokensOfBodies 3 = .ok (.istore_n 2, 1) := by decide +kernel
theorem d_Bk_tokensOfBodies_4 : decode b_Bk_tokensOfBodies 4 = .ok (.iload_n 2, 1) := by decide +kernel
theorem d_Bk_tokensOfBodies_5 : decode b_Bk_tokensOfBodies 5 = .ok (.bipush 20, 2) := by decide +kernel
theorem d_Bk_tokensOfBodies_7 : decode b_Bk_tokensOfBodies 7 = .ok (.if_icmp .ge 18, 3) := by decide +kernel
theorem d_Bk_tokensOfBodies_10 : decode b_Bk_tokensOfBodies 10 = .ok (.iload_n 1, 1) := by decide +kernel
theorem d_Bk_tokensOfBodies_11 : decode b_Bk_tokensOfBodies 11 = .ok (.aload_n 0, 1) := by decide +kernel
theorem d_Bk_tokensOfBodies_12 : decode b_Bk_tokensOfBodies 12 = .ok (.getfield 21, 3) := by decide +kernel
theorem d_Bk_tokensOfBodies_15 : decode b_Bk_tokensOfBodies 15 = .ok (.iload_n 2, 1) := by decide +kernel
theorem d_Bk_tokensOfBodies_16 : decode b_Bk_tokensOfBodies 16 = .ok (.iaload, 1) := by decide +kernel
theorem d_Bk_tokensOfBodies_17 : decode b_Bk_tokensOfBodies 17 = .ok (.iadd, 1) := by decide +kernel
theorem d_Bk_tokensOfBodies_18 : decode b_Bk_tokensOfBodies 18 = .ok (.istore_n 1, 1) := by decide +kernel
theorem d_Bk_tokensOfBodies_19 : decode b_Bk_tokensOfBodies 19 = .ok (.iinc 2 1, 3) := by decide +kernel
theorem d_Bk_tokensOfBodies_22 : decode b_Bk_tokensOfBodies 22 = .ok (.goto (-18), 3) := by decide +kernel
theorem d_Bk_tokensOfBodies_25 : decode b_Bk_tokensOfBodies 25 = .ok (.iload_n 1, 1) := by decide +kernel
theorem d_Bk_tokensOfBodies_26 : decode b_Bk_tokensOfBodies 26 = .ok (.ireturn, 1) := by decide +kernel
def f_Bk_append (b : TBk) (p0 : Int32) (p1 : Int32) : (Int32 × TBk) := (if p0 = 20 then (if p0 < 0 then ((-4), b) else (if 20 < p0 then ((-4), b) else (if 200 ≤ (f_Bk_sizeOf b p0) then ((-4), b) else (if ((p0 * 12) + (f_Bk_sizeOf b p0)) < 440 then (((f_Bk_sizeOf b p0) + 1), (TBk_set_sizes (TBk_set_cells b (upd (TBk_cells b) ((p0 * 12) + (f_Bk_sizeOf b p0)).toNatClampNeg p1)) (upd (TBk_sizes b) p0.toNatClampNeg ((f_Bk_sizeOf b p0) + 1)))) else ((-4), b))))) else (if p0 < 0 then ((-4), b) else (if 20 < p0 then ((-4), b) else (if 12 ≤ (f_Bk_sizeOf b p0) then ((-4), b) else (if ((p0 * 12) + (f_Bk_sizeOf b p0)) < 440 then (((f_Bk_sizeOf b p0) + 1), (TBk_set_sizes (TBk_set_cells b (upd (TBk_cells b) ((p0 * 12) + (f_Bk_sizeOf b p0)).toNatClampNeg p1)) (upd (TBk_sizes b) p0.toNatClampNeg ((f_Bk_sizeOf b p0) + 1)))) else ((-4), b))))))
set_option maxHeartbeats 4000000 in
set_option maxRecDepth 100000 in
theorem c_Bk_append (l : Launch) (dC : Nat → ClassId) (dI : Nat → Nat → Nat) (ad : Nat → Nat) (ca : Nat → ClassId) (sz : Nat) (b : TBk) (p0 : Int32) (p1 : Int32) (hpre : BkS b) (F : (Int32 × TBk)) (he : F = f_Bk_append b p0 p1) : wx_Mi l y_Bk_append ws_Bk_append ({ frames := 1, cells := 0, slots := 0, locals := 21 } : Room) (dC, dI) vwCl (t_B ca) [.ref (ad 8), .int p0, .int p1] (w_B ad ca b) sz (fun v : TBk => w_B ad ca v) (fun (r : Int32) (v : TBk) => (r, v) = F) := by
  refine Met.ofW (cc := b_Bk_append) (maxL := 6) (ret := some .int) (by decide) rfl ?_
  intro p e s m args below meth c s₁ B hml hv
  obtain ⟨rfl, hsz, hP, hK, hD0, hN⟩ := hv
  have hx := B.exec
  have hb := B.bytes
  have hr := B.returns
  have hts := atoms_spec (ws := ws_Bk_append) B.pre
  have ht : ∀ w ∈ TB, w.before _ s = true := fun w h => hts w (List.mem_cons_of_mem _ h)
  have hown : s.vm.findClass R_Bk = some m.cls := findClass_of_methodNamed B.named
  have hlocks := B.notSynchronized
  subst hsz
  have hD := hD0.self (sz := s.heap.size)
  generalize hAe : va_A (w_B ad ca b) s.heap.size = A at hD ⊢
  have hA : ∀ q : Nat, s.heap.size ≤ q → A q := fun q h => by rw [← hAe]; exact Or.inr h
  have hS : va_S A s.heap s.heap [] := va_S.rf
  have hl := lv_entry ([.ref (ad 8), .int p0, .int p1]) (n := 6) (Nat.le_of_ble_eq_true rfl)
  rw [lg_entry_eq]
  generalize (lg_sl ([.ref (ad 8), .int p0, .int p1]) ++ List.replicate (6 - (lg_sl ([.ref (ad 8), .int p0, .int p1])).length) Slot.unset).toArray = ls at hl ⊢
  have hl : lv_has ls 6 [(0, .ref (ad 8)), (1, .int p0), (2, .int p1)] := hl
  unfold f_Bk_append at he
  refine lv_aload_n hx hb d_Bk_append_0 rfl (lv_at hl 0 rfl) ?_
  refine lv_iload_n hx hb d_Bk_append_1 rfl (lv_at hl 1 rfl) ?_
  refine wx_ci (wS := fun _ : Unit => w_B ad ca b) (ws2 := fun _ : Unit => w_B ad ca b) (va_runV (As := [.int p0]) (rest := []) ⟨hx, hb, hml, hown, ht⟩ (c_Bk_sizeOf l dC dI ad ca s.heap.size b p0 _ rfl) (cwV 1 ht (tb_V q_218 q_219 q_220 q_45 q_221) rfl rfl rfl p_Bk_sizeOf ⟨show 0 + 1 ≤ 1 by omega, show 8 + (2 + 11) + 0 ≤ 21 by omega⟩) (wx_preV (wc := (w_B ad ca b)) hN hK hP hD [0, 1, 2, 3, 4, 5, 6] [0, 1, 2, 3, 4, 5] rfl (by decide) rfl (ci := 0) (q0 := 0) rfl rfl) rfl rfl hl.1 rfl (lv_room (Nat.le_of_ble_eq_true rfl)) d_Bk_append_2 ⟨Nat.zero_le _, Nat.zero_le _⟩) hP hD hS hA [0, 1, 2, 3, 4, 5, 6] [] [0, 1, 2, 3, 4, 5, 6] rfl rfl (by decide) (by decide) (by decide) (fun _ => rfl) (fun r_1 _ H locs hw hP hD hS => ?_)
  subst hw
  have hP : va_P (dC, dI) vwCl (w_B ad ca b) H := hP
  have hD : va_D A (w_B ad ca b) := hD
  refine lv_istore_n (lv' := [(3, .int (f_Bk_sizeOf b p0)), (0, .ref (ad 8)), (1, .int p0), (2, .int p1)]) hx hb d_Bk_append_5 rfl hl (by decide) rfl (fun ls hl => ?_)
  refine lv_iload_n hx hb d_Bk_append_6 rfl (lv_at hl 2 rfl) ?_
  refine lv_bipush (v := 20) hx hb d_Bk_append_7 (by decide) ?_
  refine lv_icmp_ne (tgt := 18) hx hb d_Bk_append_9 (by decide) (fun c_2 => ?_) (fun c_2 => ?_)
  · have he := he.trans (if_neg c_2)
    refine lv_bipush (v := 12) hx hb d_Bk_append_18 (by decide) ?_
    refine lv_istore (lv' := [(4, .int 12), (3, .int (f_Bk_sizeOf b p0)), (0, .ref (ad 8)), (1, .int p0), (2, .int p1)]) hx hb d_Bk_append_20 hl (by decide) rfl (fun ls hl => ?_)
    refine lv_iload_n hx hb d_Bk_append_22 rfl (lv_at hl 3 rfl) ?_
    refine lv_bipush (v := 12) hx hb d_Bk_append_23 (by decide) ?_
    refine lv_imul hx hb d_Bk_append_25 ?_
    refine lv_iload_n hx hb d_Bk_append_26 rfl (lv_at hl 1 rfl) ?_
    refine lv_iadd hx hb d_Bk_append_27 ?_
    refine lv_istore (lv' := [(5, .int ((p0 * 12) + (f_Bk_sizeOf b p0))), (4, .int 12), (3, .int (f_Bk_sizeOf b p0)), (0, .ref (ad 8)), (1, .int p0), (2, .int p1)]) hx hb d_Bk_append_28 hl (by decide) rfl (fun ls hl => ?_)
    refine lv_iload_n hx hb d_Bk_append_30 rfl (lv_at hl 4 rfl) ?_
    refine lv_if_lt (tgt := 56) hx hb d_Bk_append_31 (by decide) (fun c_3 => ?_) (fun c_3 => ?_)
    · have he := he.trans (if_pos c_3)
      refine lv_bipush (v := (-4)) hx hb d_Bk_append_56 (by decide) ?_
      exact W.iret hx hb hr (v := (-4)) (fun t ht hW => ⟨⟨(-4), b, rfl, he.symm, by rw [ht]; exact hP, va_K.moved hW.alike hK, hD⟩, hS.F ht⟩) hS.2.2 d_Bk_append_58
    · have he := he.trans (if_neg c_3)
      refine lv_iload_n hx hb d_Bk_append_34 rfl (lv_at hl 4 rfl) ?_
      refine lv_bipush (v := 20) hx hb d_Bk_append_35 (by decide) ?_
      refine lv_icmp_gt (tgt := 56) hx hb d_Bk_append_37 (by decide) (fun c_4 => ?_) (fun c_4 => ?_)
      · have he := he.trans (if_pos c_4)
        refine lv_bipush (v := (-4)) hx hb d_Bk_append_56 (by decide) ?_
        exact W.iret hx hb hr (v := (-4)) (fun t ht hW => ⟨⟨(-4), b, rfl, he.symm, by rw [ht]; exact hP, va_K.moved hW.alike hK, hD⟩, hS.F ht⟩) hS.2.2 d_Bk_append_58
      · have he := he.trans (if_neg c_4)
        refine lv_iload_n hx hb d_Bk_append_40 rfl (lv_at hl 2 rfl) ?_
        refine lv_iload hx hb d_Bk_append_41 (lv_at hl 1 rfl) ?_
        refine lv_icmp_ge (tgt := 56) hx hb d_Bk_append_43 (by decide) (fun c_5 => ?_) (fun c_5 => ?_)
        · have he := he.trans (if_pos c_5)
          refine lv_bipush (v := (-4)) hx hb d_Bk_append_56 (by decide) ?_
          exact W.iret hx hb hr (v := (-4)) (fun t ht hW => ⟨⟨(-4), b, rfl, he.symm, by rw [ht]; exact hP, va_K.moved hW.alike hK, hD⟩, hS.F ht⟩) hS.2.2 d_Bk_append_58
        · have he := he.trans (if_neg c_5)
          refine lv_iload hx hb d_Bk_append_46 (lv_at hl 0 rfl) ?_
          refine lv_aload_n hx hb d_Bk_append_48 rfl (lv_at hl 3 rfl) ?_
          refine va_get (D := (dC, dI)) (ci := 0) (v := .ref (ad 11)) (C := R_Bk) (T := T_Bk) (N := 7) hx hb ht i_Bk hown hK hP 0 rfl rfl 2 (by decide) (ht _ q_67) (fun _ h9 => h9) rfl d_Bk_append_49 ?_
          refine va_alen hx hb hK hP 3 2 rfl rfl (v := 440) rfl d_Bk_append_52 ?_
          refine lv_icmp_lt (tgt := 59) hx hb d_Bk_append_53 (by decide) (fun c_6 => ?_) (fun c_6 => ?_)
          · have he := he.trans (if_pos c_6)
            refine lv_aload_n hx hb d_Bk_append_59 rfl (lv_at hl 3 rfl) ?_
            refine va_get (D := (dC, dI)) (ci := 0) (v := .ref (ad 11)) (C := R_Bk) (T := T_Bk) (N := 7) hx hb ht i_Bk hown hK hP 0 rfl rfl 2 (by decide) (ht _ q_67) (fun _ h9 => h9) rfl d_Bk_append_60 ?_
            refine lv_iload hx hb d_Bk_append_63 (lv_at hl 0 rfl) ?_
            refine lv_iload_n hx hb d_Bk_append_65 rfl (lv_at hl 5 rfl) ?_
            refine va_iast hx hb hK hP hD hS 3 2 rfl rfl (in_append hpre c_3 c_4 c_6) d_Bk_append_66 (fun H locs hP hD hS => ?_)
            have hP : va_P (dC, dI) vwCl (w_B ad ca (TBk_set_cells b (upd (TBk_cells b) ((p0 * 12) + (f_Bk_sizeOf b p0)).toNatClampNeg p1))) H := hP
            have hD : va_D A (w_B ad ca (TBk_set_cells b (upd (TBk_cells b) ((p0 * 12) + (f_Bk_sizeOf b p0)).toNatClampNeg p1))) := hD
            refine lv_aload_n hx hb d_Bk_append_67 rfl (lv_at hl 3 rfl) ?_
            refine va_get (D := (dC, dI)) (ci := 0) (v := .ref (ad 12)) (C := R_Bk) (T := T_Bk) (N := 7) hx hb ht i_Bk hown hK hP 0 rfl rfl 3 (by decide) (ht _ q_68) (fun _ h9 => h9) rfl d_Bk_append_68 ?_
            refine lv_iload_n hx hb d_Bk_append_71 rfl (lv_at hl 4 rfl) ?_
            refine lv_iload_n hx hb d_Bk_append_72 rfl (lv_at hl 2 rfl) ?_
            refine lv_iconst (v := 1) hx hb d_Bk_append_73 (by decide) ?_
            refine lv_iadd hx hb d_Bk_append_74 ?_
            refine va_iast hx hb hK hP hD hS 4 3 rfl rfl (wx_inAW (by decide) c_3 c_4) d_Bk_append_75 (fun H locs hP hD hS => ?_)
            have hP : va_P (dC, dI) vwCl (w_B ad ca (TBk_set_sizes (TBk_set_cells b (upd (TBk_cells b) ((p0 * 12) + (f_Bk_sizeOf b p0)).toNatClampNeg p1)) (upd (TBk_sizes b) p0.toNatClampNeg ((f_Bk_sizeOf b p0) + 1)))) H := hP
            have hD : va_D A (w_B ad ca (TBk_set_sizes (TBk_set_cells b (upd (TBk_cells b) ((p0 * 12) + (f_Bk_sizeOf b p0)).toNatClampNeg p1)) (upd (TBk_sizes b) p0.toNatClampNeg ((f_Bk_sizeOf b p0) + 1)))) := hD
            refine lv_iload_n hx hb d_Bk_append_76 rfl (lv_at hl 2 rfl) ?_
            refine lv_iconst (v := 1) hx hb d_Bk_append_77 (by decide) ?_
            refine lv_iadd hx hb d_Bk_append_78 ?_
            exact W.iret hx hb hr (v := ((f_Bk_sizeOf b p0) + 1)) (fun t ht hW => ⟨⟨((f_Bk_sizeOf b p0) + 1), (TBk_set_sizes (TBk_set_cells b (upd (TBk_cells b) ((p0 * 12) + (f_Bk_sizeOf b p0)).toNatClampNeg p1)) (upd (TBk_sizes b) p0.toNatClampNeg ((f_Bk_sizeOf b p0) + 1))), rfl, he.symm, by rw [ht]; exact hP, va_K.moved hW.alike hK, hD⟩, hS.F ht⟩) hS.2.2 d_Bk_append_79
          · have he := he.trans (if_neg c_6)
            refine lv_bipush (v := (-4)) hx hb d_Bk_append_56 (by decide) ?_
            exact W.iret hx hb hr (v := (-4)) (fun t ht hW => ⟨⟨(-4), b, rfl, he.symm, by rw [ht]; exact hP, va_K.moved hW.alike hK, hD⟩, hS.F ht⟩) hS.2.2 d_Bk_append_58
  · have he := he.trans (if_pos c_2)
    refine lv_sipush (v := 200) hx hb d_Bk_append_12 (by decide) ?_
    refine lv_goto (tgt := 20) hx hb d_Bk_append_15 (by decide) ?_
    refine lv_istore (lv' := [(4, .int 200), (3, .int (f_Bk_sizeOf b p0)), (0, .ref (ad 8)), (1, .int p0), (2, .int p1)]) hx hb d_Bk_append_20 hl (by decide) rfl (fun ls hl => ?_)
    refine lv_iload_n hx hb d_Bk_append_22 rfl (lv_at hl 3 rfl) ?_
    refine lv_bipush (v := 12) hx hb d_Bk_append_23 (by decide) ?_
    refine lv_imul hx hb d_Bk_append_25 ?_
    refine lv_iload_n hx hb d_Bk_append_26 rfl (lv_at hl 1 rfl) ?_
    refine lv_iadd hx hb d_Bk_append_27 ?_
    refine lv_istore (lv' := [(5, .int ((p0 * 12) + (f_Bk_sizeOf b p0))), (4, .int 200), (3, .int (f_Bk_sizeOf b p0)), (0, .ref (ad 8)), (1, .int p0), (2, .int p1)]) hx hb d_Bk_append_28 hl (by decide) rfl (fun ls hl => ?_)
    refine lv_iload_n hx hb d_Bk_append_30 rfl (lv_at hl 4 rfl) ?_
    refine lv_if_lt (tgt := 56) hx hb d_Bk_append_31 (by decide) (fun c_7 => ?_) (fun c_7 => ?_)
    · have he := he.trans (if_pos c_7)
      refine lv_bipush (v := (-4)) hx hb d_Bk_append_56 (by decide) ?_
      exact W.iret hx hb hr (v := (-4)) (fun t ht hW => ⟨⟨(-4), b, rfl, he.symm, by rw [ht]; exact hP, va_K.moved hW.alike hK, hD⟩, hS.F ht⟩) hS.2.2 d_Bk_append_58
    · have he := he.trans (if_neg c_7)
      refine lv_iload_n hx hb d_Bk_append_34 rfl (lv_at hl 4 rfl) ?_
      refine lv_bipush (v := 20) hx hb d_Bk_append_35 (by decide) ?_
      refine lv_icmp_gt (tgt := 56) hx hb d_Bk_append_37 (by decide) (fun c_8 => ?_) (fun c_8 => ?_)
      · have he := he.trans (if_pos c_8)
        refine lv_bipush (v := (-4)) hx hb d_Bk_append_56 (by decide) ?_
        exact W.iret hx hb hr (v := (-4)) (fun t ht hW => ⟨⟨(-4), b, rfl, he.symm, by rw [ht]; exact hP, va_K.moved hW.alike hK, hD⟩, hS.F ht⟩) hS.2.2 d_Bk_append_58
      · have he := he.trans (if_neg c_8)
        refine lv_iload_n hx hb d_Bk_append_40 rfl (lv_at hl 2 rfl) ?_
        refine lv_iload hx hb d_Bk_append_41 (lv_at hl 1 rfl) ?_
        refine lv_icmp_ge (tgt := 56) hx hb d_Bk_append_43 (by decide) (fun c_9 => ?_) (fun c_9 => ?_)
        · have he := he.trans (if_pos c_9)
          refine lv_bipush (v := (-4)) hx hb d_Bk_append_56 (by decide) ?_
          exact W.iret hx hb hr (v := (-4)) (fun t ht hW => ⟨⟨(-4), b, rfl, he.symm, by rw [ht]; exact hP, va_K.moved hW.alike hK, hD⟩, hS.F ht⟩) hS.2.2 d_Bk_append_58
        · have he := he.trans (if_neg c_9)
          refine lv_iload hx hb d_Bk_append_46 (lv_at hl 0 rfl) ?_
          refine lv_aload_n hx hb d_Bk_append_48 rfl (lv_at hl 3 rfl) ?_
          refine va_get (D := (dC, dI)) (ci := 0) (v := .ref (ad 11)) (C := R_Bk) (T := T_Bk) (N := 7) hx hb ht i_Bk hown hK hP 0 rfl rfl 2 (by decide) (ht _ q_67) (fun _ h9 => h9) rfl d_Bk_append_49 ?_
          refine va_alen hx hb hK hP 3 2 rfl rfl (v := 440) rfl d_Bk_append_52 ?_
          refine lv_icmp_lt (tgt := 59) hx hb d_Bk_append_53 (by decide) (fun c_10 => ?_) (fun c_10 => ?_)
          · have he := he.trans (if_pos c_10)
            refine lv_aload_n hx hb d_Bk_append_59 rfl (lv_at hl 3 rfl) ?_
            refine va_get (D := (dC, dI)) (ci := 0) (v := .ref (ad 11)) (C := R_Bk) (T := T_Bk) (N := 7) hx hb ht i_Bk hown hK hP 0 rfl rfl 2 (by decide) (ht _ q_67) (fun _ h9 => h9) rfl d_Bk_append_60 ?_
            refine lv_iload hx hb d_Bk_append_63 (lv_at hl 0 rfl) ?_
            refine lv_iload_n hx hb d_Bk_append_65 rfl (lv_at hl 5 rfl) ?_
            refine va_iast hx hb hK hP hD hS 3 2 rfl rfl (in_append hpre c_7 c_8 c_10) d_Bk_append_66 (fun H locs hP hD hS => ?_)
            have hP : va_P (dC, dI) vwCl (w_B ad ca (TBk_set_cells b (upd (TBk_cells b) ((p0 * 12) + (f_Bk_sizeOf b p0)).toNatClampNeg p1))) H := hP
            have hD : va_D A (w_B ad ca (TBk_set_cells b (upd (TBk_cells b) ((p0 * 12) + (f_Bk_sizeOf b p0)).toNatClampNeg p1))) := hD
            refine lv_aload_n hx hb d_Bk_append_67 rfl (lv_at hl 3 rfl) ?_
            refine va_get (D := (dC, dI)) (ci := 0) (v := .ref (ad 12)) (C := R_Bk) (T := T_Bk) (N := 7) hx hb ht i_Bk hown hK hP 0 rfl rfl 3 (by decide) (ht _ q_68) (fun _ h9 => h9) rfl d_Bk_append_68 ?_
            refine lv_iload_n hx hb d_Bk_append_71 rfl (lv_at hl 4 rfl) ?_
            refine lv_iload_n hx hb d_Bk_append_72 rfl (lv_at hl 2 rfl) ?_
            refine lv_iconst (v := 1) hx hb d_Bk_append_73 (by decide) ?_
            refine lv_iadd hx hb d_Bk_append_74 ?_
            refine va_iast hx hb hK hP hD hS 4 3 rfl rfl (wx_inAW (by decide) c_7 c_8) d_Bk_append_75 (fun H locs hP hD hS => ?_)
            have hP : va_P (dC, dI) vwCl (w_B ad ca (TBk_set_sizes (TBk_set_cells b (upd (TBk_cells b) ((p0 * 12) + (f_Bk_sizeOf b p0)).toNatClampNeg p1)) (upd (TBk_sizes b) p0.toNatClampNeg ((f_Bk_sizeOf b p0) + 1)))) H := hP
            have hD : va_D A (w_B ad ca (TBk_set_sizes (TBk_set_cells b (upd (TBk_cells b) ((p0 * 12) + (f_Bk_sizeOf b p0)).toNatClampNeg p1)) (upd (TBk_sizes b) p0.toNatClampNeg ((f_Bk_sizeOf b p0) + 1)))) := hD
            refine lv_iload_n hx hb d_Bk_append_76 rfl (lv_at hl 2 rfl) ?_
            refine lv_iconst (v := 1) hx hb d_Bk_append_77 (by decide) ?_
            refine lv_iadd hx hb d_Bk_append_78 ?_
            exact W.iret hx hb hr (v := ((f_Bk_sizeOf b p0) + 1)) (fun t ht hW => ⟨⟨((f_Bk_sizeOf b p0) + 1), (TBk_set_sizes (TBk_set_cells b (upd (TBk_cells b) ((p0 * 12) + (f_Bk_sizeOf b p0)).toNatClampNeg p1)) (upd (TBk_sizes b) p0.toNatClampNeg ((f_Bk_sizeOf b p0) + 1))), rfl, he.symm, by rw [ht]; exact hP, va_K.moved hW.alike hK, hD⟩, hS.F ht⟩) hS.2.2 d_Bk_append_79
          · have he := he.trans (if_neg c_10)
            refine lv_bipush (v := (-4)) hx hb d_Bk_append_56 (by decide) ?_
            exact W.iret hx hb hr (v := (-4)) (fun t ht hW => ⟨⟨(-4), b, rfl, he.symm, by rw [ht]; exact hP, va_K.moved hW.alike hK, hD⟩, hS.F ht⟩) hS.2.2 d_Bk_append_58
def f_Bk_tokenIn (b : TBk) (p0 : Int32) (p1 : Int32) : Int32 := (if p1 < 0 then (-1) else (if p1 < (f_Bk_sizeOf b p0) then (if 440 ≤ ((p0 * 12) + p1) then (-1) else ((TBk_cells b) ((p0 * 12) + p1).toNatClampNeg)) else (-1)))
set_option maxHeartbeats 4000000 in
set_option maxRecDepth 100000 in
theorem c_Bk_tokenIn (l : Launch) (dC : Nat → ClassId) (dI : Nat → Nat → Nat) (ad : Nat → Nat) (ca : Nat → ClassId) (sz : Nat) (b : TBk) (p0 : Int32) (p1 : Int32) (hpre : BkS b) (F : Int32) (he : F = f_Bk_tokenIn b p0 p1) : wx_Mi l y_Bk_tokenIn ws_Bk_tokenIn ({ frames := 1, cells := 0, slots := 0, locals := 21 } : Room) (dC, dI) vwCl (t_B ca) [.ref (ad 8), .int p0, .int p1] (w_B ad ca b) sz (fun _ : Unit => w_B ad ca b) (fun (r : Int32) (_ : Unit) => r = F) := by
  refine Met.ofW (cc := b_Bk_tokenIn) (maxL := 4) (ret := some .int) (by decide) rfl ?_
  intro p e s m args below meth c s₁ B hml hv
  obtain ⟨rfl, hsz, hP, hK, hD0, hN⟩ := hv
  have hx := B.exec
  have hb := B.bytes
  have hr := B.returns
  have hts := atoms_spec (ws := ws_Bk_tokenIn) B.pre
  have ht : ∀ w ∈ TB, w.before _ s = true := fun w h => hts w (List.mem_cons_of_mem _ h)
  have hown : s.vm.findClass R_Bk = some m.cls := findClass_of_methodNamed B.named
  have hlocks := B.notSynchronized
  subst hsz
  have hD := hD0.self (sz := s.heap.size)
  generalize hAe : va_A (w_B ad ca b) s.heap.size = A at hD ⊢
  have hA : ∀ q : Nat, s.heap.size ≤ q → A q := fun q h => by rw [← hAe]; exact Or.inr h
  have hS : va_S A s.heap s.heap [] := va_S.rf
  have hl := lv_entry ([.ref (ad 8), .int p0, .int p1]) (n := 4) (Nat.le_of_ble_eq_true rfl)
  rw [lg_entry_eq]
  generalize (lg_sl ([.ref (ad 8), .int p0, .int p1]) ++ List.replicate (4 - (lg_sl ([.ref (ad 8), .int p0, .int p1])).length) Slot.unset).toArray = ls at hl ⊢
  have hl : lv_has ls 4 [(0, .ref (ad 8)), (1, .int p0), (2, .int p1)] := hl
  unfold f_Bk_tokenIn at he
  refine lv_iload_n hx hb d_Bk_tokenIn_0 rfl (lv_at hl 2 rfl) ?_
  refine lv_if_lt (tgt := 13) hx hb d_Bk_tokenIn_1 (by decide) (fun c_1 => ?_) (fun c_1 => ?_)
  · have he := he.trans (if_pos c_1)
    refine lv_iconst (v := (-1)) hx hb d_Bk_tokenIn_13 (by decide) ?_
    exact W.iret hx hb hr (v := (-1)) (fun t ht hW => ⟨⟨(-1), (), rfl, he.symm, by rw [ht]; exact hP, va_K.moved hW.alike hK, hD⟩, hS.F ht⟩) hS.2.2 d_Bk_tokenIn_14
  · have he := he.trans (if_neg c_1)
    refine lv_iload_n hx hb d_Bk_tokenIn_4 rfl (lv_at hl 2 rfl) ?_
    refine lv_aload_n hx hb d_Bk_tokenIn_5 rfl (lv_at hl 0 rfl) ?_
    refine lv_iload_n hx hb d_Bk_tokenIn_6 rfl (lv_at hl 1 rfl) ?_
    refine wx_ci (wS := fun _ : Unit => w_B ad ca b) (ws2 := fun _ : Unit => w_B ad ca b) (va_runV (As := [.int p0]) (rest := [.int p1]) ⟨hx, hb, hml, hown, ht⟩ (c_Bk_sizeOf l dC dI ad ca s.heap.size b p0 _ rfl) (cwV 1 ht (tb_V q_218 q_219 q_220 q_45 q_221) rfl rfl rfl p_Bk_sizeOf ⟨show 0 + 1 ≤ 1 by omega, show 8 + (2 + 11) + 0 ≤ 21 by omega⟩) (wx_preV (wc := (w_B ad ca b)) hN hK hP hD [0, 1, 2, 3, 4, 5, 6] [0, 1, 2, 3, 4, 5] rfl (by decide) rfl (ci := 0) (q0 := 0) rfl rfl) rfl rfl hl.1 rfl (lv_room (Nat.le_of_ble_eq_true rfl)) d_Bk_tokenIn_7 ⟨Nat.zero_le _, Nat.zero_le _⟩) hP hD hS hA [0, 1, 2, 3, 4, 5, 6] [] [0, 1, 2, 3, 4, 5, 6] rfl rfl (by decide) (by decide) (by decide) (fun _ => rfl) (fun r_2 _ H locs hw hP hD hS => ?_)
    subst hw
    have hP : va_P (dC, dI) vwCl (w_B ad ca b) H := hP
    have hD : va_D A (w_B ad ca b) := hD
    refine lv_icmp_lt (tgt := 15) hx hb d_Bk_tokenIn_10 (by decide) (fun c_3 => ?_) (fun c_3 => ?_)
    · have he := he.trans (if_pos c_3)
      refine lv_iload_n hx hb d_Bk_tokenIn_15 rfl (lv_at hl 1 rfl) ?_
      refine lv_bipush (v := 12) hx hb d_Bk_tokenIn_16 (by decide) ?_
      refine lv_imul hx hb d_Bk_tokenIn_18 ?_
      refine lv_iload_n hx hb d_Bk_tokenIn_19 rfl (lv_at hl 2 rfl) ?_
      refine lv_iadd hx hb d_Bk_tokenIn_20 ?_
      refine lv_istore_n (lv' := [(3, .int ((p0 * 12) + p1)), (0, .ref (ad 8)), (1, .int p0), (2, .int p1)]) hx hb d_Bk_tokenIn_21 rfl hl (by decide) rfl (fun ls hl => ?_)
      refine lv_iload_n hx hb d_Bk_tokenIn_22 rfl (lv_at hl 0 rfl) ?_
      refine lv_aload_n hx hb d_Bk_tokenIn_23 rfl (lv_at hl 1 rfl) ?_
      refine va_get (D := (dC, dI)) (ci := 0) (v := .ref (ad 11)) (C := R_Bk) (T := T_Bk) (N := 7) hx hb ht i_Bk hown hK hP 0 rfl rfl 2 (by decide) (ht _ q_67) (fun _ h9 => h9) rfl d_Bk_tokenIn_24 ?_
      refine va_alen hx hb hK hP 3 2 rfl rfl (v := 440) rfl d_Bk_tokenIn_27 ?_
      refine lv_icmp_ge (tgt := 40) hx hb d_Bk_tokenIn_28 (by decide) (fun c_4 => ?_) (fun c_4 => ?_)
      · have he := he.trans (if_pos c_4)
        refine lv_iconst (v := (-1)) hx hb d_Bk_tokenIn_40 (by decide) ?_
        exact W.iret hx hb hr (v := (-1)) (fun t ht hW => ⟨⟨(-1), (), rfl, he.symm, by rw [ht]; exact hP, va_K.moved hW.alike hK, hD⟩, hS.F ht⟩) hS.2.2 d_Bk_tokenIn_41
      · have he := he.trans (if_neg c_4)
        refine lv_aload_n hx hb d_Bk_tokenIn_31 rfl (lv_at hl 1 rfl) ?_
        refine va_get (D := (dC, dI)) (ci := 0) (v := .ref (ad 11)) (C := R_Bk) (T := T_Bk) (N := 7) hx hb ht i_Bk hown hK hP 0 rfl rfl 2 (by decide) (ht _ q_67) (fun _ h9 => h9) rfl d_Bk_tokenIn_32 ?_
        refine lv_iload_n hx hb d_Bk_tokenIn_35 rfl (lv_at hl 0 rfl) ?_
        refine va_iald hx hb hK hP 3 2 rfl rfl (in_tokenIn hpre c_1 c_3 c_4) d_Bk_tokenIn_36 ?_
        refine lv_goto (tgt := 41) hx hb d_Bk_tokenIn_37 (by decide) ?_
        exact W.iret hx hb hr (v := ((TBk_cells b) ((p0 * 12) + p1).toNatClampNeg)) (fun t ht hW => ⟨⟨((TBk_cells b) ((p0 * 12) + p1).toNatClampNeg), (), rfl, he.symm, by rw [ht]; exact hP, va_K.moved hW.alike hK, hD⟩, hS.F ht⟩) hS.2.2 d_Bk_tokenIn_41
    · have he := he.trans (if_neg c_3)
      refine lv_iconst (v := (-1)) hx hb d_Bk_tokenIn_13 (by decide) ?_
      exact W.iret hx hb hr (v := (-1)) (fun t ht hW => ⟨⟨(-1), (), rfl, he.symm, by rw [ht]; exact hP, va_K.moved hW.alike hK, hD⟩, hS.F ht⟩) hS.2.2 d_Bk_tokenIn_14
def f_Bk_kindOf (b : TBk) (p0 : Int32) : Int32 := (if (f_Ct_isName p0) = 0 then 1 else ((TBk_kinds b) (p0 - 4096).toNatClampNeg))
set_option maxHeartbeats 4000000 in
set_option maxRecDepth 100000 in
theorem c_Bk_kindOf (l : Launch) (dC : Nat → ClassId) (dI : Nat → Nat → Nat) (ad : Nat → Nat) (ca : Nat → ClassId) (sz : Nat) (b : TBk) (p0 : Int32) (F : Int32) (he : F = f_Bk_kindOf b p0) : wx_Mi l y_Bk_kindOf ws_Bk_kindOf ({ frames := 1, cells := 0, slots := 0, locals := 20 } : Room) (dC, dI) vwCl (t_B ca) [.ref (ad 8), .int p0] (w_B ad ca b) sz (fun _ : Unit => w_B ad ca b) (fun (r : Int32) (_ : Unit) => r = F) := by
  refine Met.ofW (cc := b_Bk_kindOf) (maxL := 2) (ret := some .int) (by decide) rfl ?_
  intro p e s m args below meth c s₁ B hml hv
  obtain ⟨rfl, hsz, hP, hK, hD0, hN⟩ := hv
  have hx := B.exec
  have hb := B.bytes
  have hr := B.returns
  have hts := atoms_spec (ws := ws_Bk_kindOf) B.pre
  have ht : ∀ w ∈ TB, w.before _ s = true := fun w h => hts w (List.mem_cons_of_mem _ h)
  have hown : s.vm.findClass R_Bk = some m.cls := findClass_of_methodNamed B.named
  have hlocks := B.notSynchronized
  subst hsz
  have hD := hD0.self (sz := s.heap.size)
  generalize hAe : va_A (w_B ad ca b) s.heap.size = A at hD ⊢
  have hA : ∀ q : Nat, s.heap.size ≤ q → A q := fun q h => by rw [← hAe]; exact Or.inr h
  have hS : va_S A s.heap s.heap [] := va_S.rf
  have hl := lv_entry ([.ref (ad 8), .int p0]) (n := 2) (Nat.le_of_ble_eq_true rfl)
  rw [lg_entry_eq]
  generalize (lg_sl ([.ref (ad 8), .int p0]) ++ List.replicate (2 - (lg_sl ([.ref (ad 8), .int p0])).length) Slot.unset).toArray = ls at hl ⊢
  have hl : lv_has ls 2 [(0, .ref (ad 8)), (1, .int p0)] := hl
  unfold f_Bk_kindOf at he
  refine lv_iload_n hx hb d_Bk_kindOf_0 rfl (lv_at hl 1 rfl) ?_
  refine wx_ci (wS := fun _ : Unit => w_E ad ca) (ws2 := fun _ : Unit => w_B ad ca b) (va_runSN (As := [.int p0]) (rest := []) ⟨hx, hb, hml, hown, ht⟩ (c_Ct_isName l dC dI ad ca s.heap.size p0 _ rfl) ⟨va_cnB 1 ht (tb_in q_213) rfl rfl rfl (hN _ nest_0) (ht _ q_44) p_Ct_isName.2 ⟨show 0 + 1 ≤ 1 by omega, show 8 + (1 + 11) + 0 ≤ 20 by omega⟩, ht _ q_212, trivial⟩ (wx_preS (wc := (w_E ad ca)) hN hK hP hD [] [] rfl (by decide) rfl) rfl rfl hl.1 rfl (lv_room (Nat.le_of_ble_eq_true rfl)) d_Bk_kindOf_1 ⟨Nat.zero_le _, Nat.zero_le _⟩) hP hD hS hA [] [0, 1, 2, 3, 4, 5, 6] [0, 1, 2, 3, 4, 5, 6] rfl rfl (by decide) (by decide) (by decide) (fun _ => rfl) (fun r_1 _ H locs hw hP hD hS => ?_)
  subst hw
  have hP : va_P (dC, dI) vwCl (w_B ad ca b) H := hP
  have hD : va_D A (w_B ad ca b) := hD
  refine lv_if_eq (tgt := 20) hx hb d_Bk_kindOf_4 (by decide) (fun c_2 => ?_) (fun c_2 => ?_)
  · have he := he.trans (if_pos c_2)
    refine lv_iconst (v := 1) hx hb d_Bk_kindOf_20 (by decide) ?_
    exact W.iret hx hb hr (v := 1) (fun t ht hW => ⟨⟨1, (), rfl, he.symm, by rw [ht]; exact hP, va_K.moved hW.alike hK, hD⟩, hS.F ht⟩) hS.2.2 d_Bk_kindOf_21
  · have he := he.trans (if_neg c_2)
    refine lv_aload_n hx hb d_Bk_kindOf_7 rfl (lv_at hl 0 rfl) ?_
    refine va_get (D := (dC, dI)) (ci := 0) (v := .ref (ad 9)) (C := R_Bk) (T := T_Bk) (N := 7) hx hb ht i_Bk hown hK hP 0 rfl rfl 0 (by decide) (ht _ q_65) (fun _ h9 => h9) rfl d_Bk_kindOf_8 ?_
    refine lv_iload_n hx hb d_Bk_kindOf_11 rfl (lv_at hl 1 rfl) ?_
    refine lv_sipush (v := 4096) hx hb d_Bk_kindOf_12 (by decide) ?_
    refine lv_isub hx hb d_Bk_kindOf_15 ?_
    refine va_iald hx hb hK hP 1 0 rfl rfl (in_name c_2) d_Bk_kindOf_16 ?_
    refine lv_goto (tgt := 21) hx hb d_Bk_kindOf_17 (by decide) ?_
    exact W.iret hx hb hr (v := ((TBk_kinds b) (p0 - 4096).toNatClampNeg)) (fun t ht hW => ⟨⟨((TBk_kinds b) (p0 - 4096).toNatClampNeg), (), rfl, he.symm, by rw [ht]; exact hP, va_K.moved hW.alike hK, hD⟩, hS.F ht⟩) hS.2.2 d_Bk_kindOf_21
def f_Bk_valueOf (b : TBk) (p0 : Int32) : Int32 := (if (f_Ct_isName p0) = 0 then p0 else ((TBk_values b) (p0 - 4096).toNatClampNeg))
set_option maxHeartbeats 4000000 in
set_option maxRecDepth 100000 in
theorem c_Bk_valueOf (l : Launch) (dC : Nat → ClassId) (dI : Nat → Nat → Nat) (ad : Nat → Nat) (ca : Nat → ClassId) (sz : Nat) (b : TBk) (p0 : Int32) (F : Int32) (he : F = f_Bk_valueOf b p0) : wx_Mi l y_Bk_valueOf ws_Bk_valueOf ({ frames := 1, cells := 0, slots := 0, locals := 20 } : Room) (dC, dI) vwCl (t_B ca) [.ref (ad 8), .int p0] (w_B ad ca b) sz (fun _ : Unit => w_B ad ca b) (fun (r : Int32) (_ : Unit) => r = F) := by
  refine Met.ofW (cc := b_Bk_valueOf) (maxL := 2) (ret := some .int) (by decide) rfl ?_
  intro p e s m args below meth c s₁ B hml hv
  obtain ⟨rfl, hsz, hP, hK, hD0, hN⟩ := hv
  have hx := B.exec
  have hb := B.bytes
  have hr := B.returns
  have hts := atoms_spec (ws := ws_Bk_valueOf) B.pre
  have ht : ∀ w ∈ TB, w.before _ s = true := fun w h => hts w (List.mem_cons_of_mem _ h)
  have hown : s.vm.findClass R_Bk = some m.cls := findClass_of_methodNamed B.named
  have hlocks := B.notSynchronized
  subst hsz
  have hD := hD0.self (sz := s.heap.size)
  generalize hAe : va_A (w_B ad ca b) s.heap.size = A at hD ⊢
  have hA : ∀ q : Nat, s.heap.size ≤ q → A q := fun q h => by rw [← hAe]; exact Or.inr h
  have hS : va_S A s.heap s.heap [] := va_S.rf
  have hl := lv_entry ([.ref (ad 8), .int p0]) (n := 2) (Nat.le_of_ble_eq_true rfl)
  rw [lg_entry_eq]
  generalize (lg_sl ([.ref (ad 8), .int p0]) ++ List.replicate (2 - (lg_sl ([.ref (ad 8), .int p0])).length) Slot.unset).toArray = ls at hl ⊢
  have hl : lv_has ls 2 [(0, .ref (ad 8)), (1, .int p0)] := hl
  unfold f_Bk_valueOf at he
  refine lv_iload_n hx hb d_Bk_valueOf_0 rfl (lv_at hl 1 rfl) ?_
  refine wx_ci (wS := fun _ : Unit => w_E ad ca) (ws2 := fun _ : Unit => w_B ad ca b) (va_runSN (As := [.int p0]) (rest := []) ⟨hx, hb, hml, hown, ht⟩ (c_Ct_isName l dC dI ad ca s.heap.size p0 _ rfl) ⟨va_cnB 1 ht (tb_in q_213) rfl rfl rfl (hN _ nest_0) (ht _ q_44) p_Ct_isName.2 ⟨show 0 + 1 ≤ 1 by omega, show 8 + (1 + 11) + 0 ≤ 20 by omega⟩, ht _ q_212, trivial⟩ (wx_preS (wc := (w_E ad ca)) hN hK hP hD [] [] rfl (by decide) rfl) rfl rfl hl.1 rfl (lv_room (Nat.le_of_ble_eq_true rfl)) d_Bk_valueOf_1 ⟨Nat.zero_le _, Nat.zero_le _⟩) hP hD hS hA [] [0, 1, 2, 3, 4, 5, 6] [0, 1, 2, 3, 4, 5, 6] rfl rfl (by decide) (by decide) (by decide) (fun _ => rfl) (fun r_1 _ H locs hw hP hD hS => ?_)
  subst hw
  have hP : va_P (dC, dI) vwCl (w_B ad ca b) H := hP
  have hD : va_D A (w_B ad ca b) := hD
  refine lv_if_eq (tgt := 20) hx hb d_Bk_valueOf_4 (by decide) (fun c_2 => ?_) (fun c_2 => ?_)
  · have he := he.trans (if_pos c_2)
    refine lv_iload_n hx hb d_Bk_valueOf_20 rfl (lv_at hl 1 rfl) ?_
    exact W.iret hx hb hr (v := p0) (fun t ht hW => ⟨⟨p0, (), rfl, he.symm, by rw [ht]; exact hP, va_K.moved hW.alike hK, hD⟩, hS.F ht⟩) hS.2.2 d_Bk_valueOf_21
  · have he := he.trans (if_neg c_2)
    refine lv_aload_n hx hb d_Bk_valueOf_7 rfl (lv_at hl 0 rfl) ?_
    refine va_get (D := (dC, dI)) (ci := 0) (v := .ref (ad 10)) (C := R_Bk) (T := T_Bk) (N := 7) hx hb ht i_Bk hown hK hP 0 rfl rfl 1 (by decide) (ht _ q_66) (fun _ h9 => h9) rfl d_Bk_valueOf_8 ?_
    refine lv_iload_n hx hb d_Bk_valueOf_11 rfl (lv_at hl 1 rfl) ?_
    refine lv_sipush (v := 4096) hx hb d_Bk_valueOf_12 (by decide) ?_
    refine lv_isub hx hb d_Bk_valueOf_15 ?_
    refine va_iald hx hb hK hP 2 1 rfl rfl (in_name c_2) d_Bk_valueOf_16 ?_
    refine lv_goto (tgt := 21) hx hb d_Bk_valueOf_17 (by decide) ?_
    exact W.iret hx hb hr (v := ((TBk_values b) (p0 - 4096).toNatClampNeg)) (fun t ht hW => ⟨⟨((TBk_values b) (p0 - 4096).toNatClampNeg), (), rfl, he.symm, by rw [ht]; exact hP, va_K.moved hW.alike hK, hD⟩, hS.F ht⟩) hS.2.2 d_Bk_valueOf_21
def f_Bk_codeOf (b : TBk) (p0 : Int32) : Int32 := (if (f_Bk_kindOf b p0) = 1 then ((f_Bk_valueOf b p0) - (f_Bk_valueOf b p0) / 256 * 256) else 256)
set_option maxHeartbeats 4000000 in
set_option maxRecDepth 100000 in
theorem c_Bk_codeOf (l : Launch) (dC : Nat → ClassId) (dI : Nat → Nat → Nat) (ad : Nat → Nat) (ca : Nat → ClassId) (sz : Nat) (b : TBk) (p0 : Int32) (F : Int32) (he : F = f_Bk_codeOf b p0) : wx_Mi l y_Bk_codeOf ws_Bk_codeOf ({ frames := 2, cells := 0, slots := 0, locals := 41 } : Room) (dC, dI) vwCl (t_B ca) [.ref (ad 8), .int p0] (w_B ad ca b) sz (fun _ : Unit => w_B ad ca b) (fun (r : Int32) (_ : Unit) => r = F) := by
  refine Met.ofW (cc := b_Bk_codeOf) (maxL := 2) (ret := some .int) (by decide) rfl ?_
  intro p e s m args below meth c s₁ B hml hv
  obtain ⟨rfl, hsz, hP, hK, hD0, hN⟩ := hv
  have hx := B.exec
  have hb := B.bytes
  have hr := B.returns
  have hts := atoms_spec (ws := ws_Bk_codeOf) B.pre
  have ht : ∀ w ∈ TB, w.before _ s = true := fun w h => hts w (List.mem_cons_of_mem _ h)
  have hown : s.vm.findClass R_Bk = some m.cls := findClass_of_methodNamed B.named
  have hlocks := B.notSynchronized
  subst hsz
  have hD := hD0.self (sz := s.heap.size)
  generalize hAe : va_A (w_B ad ca b) s.heap.size = A at hD ⊢
  have hA : ∀ q : Nat, s.heap.size ≤ q → A q := fun q h => by rw [← hAe]; exact Or.inr h
  have hS : va_S A s.heap s.heap [] := va_S.rf
  have hl := lv_entry ([.ref (ad 8), .int p0]) (n := 2) (Nat.le_of_ble_eq_true rfl)
  rw [lg_entry_eq]
  generalize (lg_sl ([.ref (ad 8), .int p0]) ++ List.replicate (2 - (lg_sl ([.ref (ad 8), .int p0])).length) Slot.unset).toArray = ls at hl ⊢
  have hl : lv_has ls 2 [(0, .ref (ad 8)), (1, .int p0)] := hl
  unfold f_Bk_codeOf at he
  refine lv_aload_n hx hb d_Bk_codeOf_0 rfl (lv_at hl 0 rfl) ?_
  refine lv_iload_n hx hb d_Bk_codeOf_1 rfl (lv_at hl 1 rfl) ?_
  refine wx_ci (wS := fun _ : Unit => w_B ad ca b) (ws2 := fun _ : Unit => w_B ad ca b) (va_runV (As := [.int p0]) (rest := []) ⟨hx, hb, hml, hown, ht⟩ (c_Bk_kindOf l dC dI ad ca s.heap.size b p0 _ rfl) (cwV 1 ht (tb_V q_330 q_284 q_285 q_45 q_286) rfl rfl rfl p_Bk_kindOf ⟨show 1 + 1 ≤ 2 by omega, show 8 + (2 + 11) + 20 ≤ 41 by omega⟩) (wx_preV (wc := (w_B ad ca b)) hN hK hP hD [0, 1, 2, 3, 4, 5, 6] [0, 1, 2, 3, 4, 5] rfl (by decide) rfl (ci := 0) (q0 := 0) rfl rfl) rfl rfl hl.1 rfl (lv_room (Nat.le_of_ble_eq_true rfl)) d_Bk_codeOf_2 ⟨Nat.zero_le _, Nat.zero_le _⟩) hP hD hS hA [0, 1, 2, 3, 4, 5, 6] [] [0, 1, 2, 3, 4, 5, 6] rfl rfl (by decide) (by decide) (by decide) (fun _ => rfl) (fun r_1 _ H locs hw hP hD hS => ?_)
  subst hw
  have hP : va_P (dC, dI) vwCl (w_B ad ca b) H := hP
  have hD : va_D A (w_B ad ca b) := hD
  refine lv_iconst (v := 1) hx hb d_Bk_codeOf_5 (by decide) ?_
  refine lv_icmp_ne (tgt := 21) hx hb d_Bk_codeOf_6 (by decide) (fun c_2 => ?_) (fun c_2 => ?_)
  · have he := he.trans (if_neg c_2)
    refine lv_sipush (v := 256) hx hb d_Bk_codeOf_21 (by decide) ?_
    exact W.iret hx hb hr (v := 256) (fun t ht hW => ⟨⟨256, (), rfl, he.symm, by rw [ht]; exact hP, va_K.moved hW.alike hK, hD⟩, hS.F ht⟩) hS.2.2 d_Bk_codeOf_24
  · have he := he.trans (if_pos c_2)
    refine lv_aload_n hx hb d_Bk_codeOf_9 rfl (lv_at hl 0 rfl) ?_
    refine lv_iload_n hx hb d_Bk_codeOf_10 rfl (lv_at hl 1 rfl) ?_
    refine wx_ci (wS := fun _ : Unit => w_B ad ca b) (ws2 := fun _ : Unit => w_B ad ca b) (va_runV (As := [.int p0]) (rest := []) ⟨hx, hb, hml, hown, ht⟩ (c_Bk_valueOf l dC dI ad ca H.size b p0 _ rfl) (cwV 1 ht (tb_V q_331 q_292 q_293 q_45 q_294) rfl rfl rfl p_Bk_valueOf ⟨show 1 + 1 ≤ 2 by omega, show 8 + (2 + 11) + 20 ≤ 41 by omega⟩) (wx_preV (wc := (w_B ad ca b)) hN hK hP hD [0, 1, 2, 3, 4, 5, 6] [0, 1, 2, 3, 4, 5] rfl (by decide) rfl (ci := 0) (q0 := 0) rfl rfl) rfl rfl hl.1 rfl (lv_room (Nat.le_of_ble_eq_true rfl)) d_Bk_codeOf_11 ⟨Nat.zero_le _, Nat.zero_le _⟩) hP hD hS hA [0, 1, 2, 3, 4, 5, 6] [] [0, 1, 2, 3, 4, 5, 6] rfl rfl (by decide) (by decide) (by decide) (fun _ => rfl) (fun r_3 _ H locs hw hP hD hS => ?_)
    subst hw
    have hP : va_P (dC, dI) vwCl (w_B ad ca b) H := hP
    have hD : va_D A (w_B ad ca b) := hD
    refine lv_sipush (v := 256) hx hb d_Bk_codeOf_14 (by decide) ?_
    refine lv_irem hx hb d_Bk_codeOf_17 (by decide) ?_
    refine lv_goto (tgt := 24) hx hb d_Bk_codeOf_18 (by decide) ?_
    exact W.iret hx hb hr (v := ((f_Bk_valueOf b p0) - (f_Bk_valueOf b p0) / 256 * 256)) (fun t ht hW => ⟨⟨((f_Bk_valueOf b p0) - (f_Bk_valueOf b p0) / 256 * 256), (), rfl, he.symm, by rw [ht]; exact hP, va_K.moved hW.alike hK, hD⟩, hS.F ht⟩) hS.2.2 d_Bk_codeOf_24
def f_Bk_categoryOf (b : TBk) (p0 : Int32) : Int32 := (if (f_Bk_kindOf b p0) = 1 then ((f_Bk_valueOf b p0) / 256) else 16)
set_option maxHeartbeats 4000000 in
set_option maxRecDepth 100000 in
theorem c_Bk_categoryOf (l : Launch) (dC : Nat → ClassId) (dI : Nat → Nat → Nat) (ad : Nat → Nat) (ca : Nat → ClassId) (sz : Nat) (b : TBk) (p0 : Int32) (F : Int32) (he : F = f_Bk_categoryOf b p0) : wx_Mi l y_Bk_categoryOf ws_Bk_categoryOf ({ frames := 2, cells := 0, slots := 0, locals := 41 } : Room) (dC, dI) vwCl (t_B ca) [.ref (ad 8), .int p0] (w_B ad ca b) sz (fun _ : Unit => w_B ad ca b) (fun (r : Int32) (_ : Unit) => r = F) := by
  refine Met.ofW (cc := b_Bk_categoryOf) (maxL := 2) (ret := some .int) (by decide) rfl ?_
  intro p e s m args below meth c s₁ B hml hv
  obtain ⟨rfl, hsz, hP, hK, hD0, hN⟩ := hv
  have hx := B.exec
  have hb := B.bytes
  have hr := B.returns
  have hts := atoms_spec (ws := ws_Bk_categoryOf) B.pre
  have ht : ∀ w ∈ TB, w.before _ s = true := fun w h => hts w (List.mem_cons_of_mem _ h)
  have hown : s.vm.findClass R_Bk = some m.cls := findClass_of_methodNamed B.named
  have hlocks := B.notSynchronized
  subst hsz
  have hD := hD0.self (sz := s.heap.size)
  generalize hAe : va_A (w_B ad ca b) s.heap.size = A at hD ⊢
  have hA : ∀ q : Nat, s.heap.size ≤ q → A q := fun q h => by rw [← hAe]; exact Or.inr h
  have hS : va_S A s.heap s.heap [] := va_S.rf
  have hl := lv_entry ([.ref (ad 8), .int p0]) (n := 2) (Nat.le_of_ble_eq_true rfl)
  rw [lg_entry_eq]
  generalize (lg_sl ([.ref (ad 8), .int p0]) ++ List.replicate (2 - (lg_sl ([.ref (ad 8), .int p0])).length) Slot.unset).toArray = ls at hl ⊢
  have hl : lv_has ls 2 [(0, .ref (ad 8)), (1, .int p0)] := hl
  unfold f_Bk_categoryOf at he
  refine lv_aload_n hx hb d_Bk_categoryOf_0 rfl (lv_at hl 0 rfl) ?_
  refine lv_iload_n hx hb d_Bk_categoryOf_1 rfl (lv_at hl 1 rfl) ?_
  refine wx_ci (wS := fun _ : Unit => w_B ad ca b) (ws2 := fun _ : Unit => w_B ad ca b) (va_runV (As := [.int p0]) (rest := []) ⟨hx, hb, hml, hown, ht⟩ (c_Bk_kindOf l dC dI ad ca s.heap.size b p0 _ rfl) (cwV 1 ht (tb_V q_330 q_284 q_285 q_45 q_286) rfl rfl rfl p_Bk_kindOf ⟨show 1 + 1 ≤ 2 by omega, show 8 + (2 + 11) + 20 ≤ 41 by omega⟩) (wx_preV (wc := (w_B ad ca b)) hN hK hP hD [0, 1, 2, 3, 4, 5, 6] [0, 1, 2, 3, 4, 5] rfl (by decide) rfl (ci := 0) (q0 := 0) rfl rfl) rfl rfl hl.1 rfl (lv_room (Nat.le_of_ble_eq_true rfl)) d_Bk_categoryOf_2 ⟨Nat.zero_le _, Nat.zero_le _⟩) hP hD hS hA [0, 1, 2, 3, 4, 5, 6] [] [0, 1, 2, 3, 4, 5, 6] rfl rfl (by decide) (by decide) (by decide) (fun _ => rfl) (fun r_1 _ H locs hw hP hD hS => ?_)
  subst hw
  have hP : va_P (dC, dI) vwCl (w_B ad ca b) H := hP
  have hD : va_D A (w_B ad ca b) := hD
  refine lv_iconst (v := 1) hx hb d_Bk_categoryOf_5 (by decide) ?_
  refine lv_icmp_ne (tgt := 21) hx hb d_Bk_categoryOf_6 (by decide) (fun c_2 => ?_) (fun c_2 => ?_)
  · have he := he.trans (if_neg c_2)
    refine lv_bipush (v := 16) hx hb d_Bk_categoryOf_21 (by decide) ?_
    exact W.iret hx hb hr (v := 16) (fun t ht hW => ⟨⟨16, (), rfl, he.symm, by rw [ht]; exact hP, va_K.moved hW.alike hK, hD⟩, hS.F ht⟩) hS.2.2 d_Bk_categoryOf_23
  · have he := he.trans (if_pos c_2)
    refine lv_aload_n hx hb d_Bk_categoryOf_9 rfl (lv_at hl 0 rfl) ?_
    refine lv_iload_n hx hb d_Bk_categoryOf_10 rfl (lv_at hl 1 rfl) ?_
    refine wx_ci (wS := fun _ : Unit => w_B ad ca b) (ws2 := fun _ : Unit => w_B ad ca b) (va_runV (As := [.int p0]) (rest := []) ⟨hx, hb, hml, hown, ht⟩ (c_Bk_valueOf l dC dI ad ca H.size b p0 _ rfl) (cwV 1 ht (tb_V q_331 q_292 q_293 q_45 q_294) rfl rfl rfl p_Bk_valueOf ⟨show 1 + 1 ≤ 2 by omega, show 8 + (2 + 11) + 20 ≤ 41 by omega⟩) (wx_preV (wc := (w_B ad ca b)) hN hK hP hD [0, 1, 2, 3, 4, 5, 6] [0, 1, 2, 3, 4, 5] rfl (by decide) rfl (ci := 0) (q0 := 0) rfl rfl) rfl rfl hl.1 rfl (lv_room (Nat.le_of_ble_eq_true rfl)) d_Bk_categoryOf_11 ⟨Nat.zero_le _, Nat.zero_le _⟩) hP hD hS hA [0, 1, 2, 3, 4, 5, 6] [] [0, 1, 2, 3, 4, 5, 6] rfl rfl (by decide) (by decide) (by decide) (fun _ => rfl) (fun r_3 _ H locs hw hP hD hS => ?_)
    subst hw
    have hP : va_P (dC, dI) vwCl (w_B ad ca b) H := hP
    have hD : va_D A (w_B ad ca b) := hD
    refine lv_sipush (v := 256) hx hb d_Bk_categoryOf_14 (by decide) ?_
    refine lv_idiv hx hb d_Bk_categoryOf_17 (by decide) ?_
    refine lv_goto (tgt := 23) hx hb d_Bk_categoryOf_18 (by decide) ?_
    exact W.iret hx hb hr (v := ((f_Bk_valueOf b p0) / 256)) (fun t ht hW => ⟨⟨((f_Bk_valueOf b p0) / 256), (), rfl, he.symm, by rw [ht]; exact hP, va_K.moved hW.alike hK, hD⟩, hS.F ht⟩) hS.2.2 d_Bk_categoryOf_23
def f_Bk_tokensOfBodies_4 : Nat → TBk → Int32 → Int32 → Int32
  | 0, _, _, _ => 0
  | n + 1, b, x1, x2 => (if 20 ≤ x2 then x1 else (f_Bk_tokensOfBodies_4 n b (x1 + ((TBk_sizes b) x2.toNatClampNeg)) (x2 + 1)))
set_option maxHeartbeats 4000000 in
set_option maxRecDepth 100000 in
theorem k_Bk_tokensOfBodies_4 {p : Program} {e : Env} {s : State} {m : MethodId} {args : Array Value} {below : List Frame} {meth : Method} {c : Code} {A : Nat → Prop} (l : Launch) (dC : Nat → ClassId) (dI : Nat → Nat → Nat) (ad : Nat → Nat) (ca : Nat → ClassId) (C0 : wx_C p s m args meth c b_Bk_tokensOfBodies (some .int) 3 R_Bk A (dC, dI) vwCl (t_B ca)) (F : Int32) : ∀ (n : Nat) (b : TBk) (x1 : Int32) (x2 : Int32), (TLn 20 x2 n) → F = f_Bk_tokensOfBodies_4 n b x1 x2 → ∀ (H : Heap) (locs : List Loc), va_P (dC, dI) vwCl (w_B ad ca b) H → va_D A (w_B ad ca b) → va_S A s.heap H locs → ∀ (ls : Array Slot), lv_has ls 3 [(0, .ref (ad 8)), (1, .int x1), (2, .int x2)] → W p l e ({ frames := 0, cells := 0, slots := 0, locals := 0 } : Room) s m args below meth c H locs 0 0 (MQ below (va_Qi (fun (r : Int32) (_ : Unit) => r = F) (wx_B (dC, dI) vwCl (t_B ca) (fun _ : Unit => w_B ad ca b) A) A) args s 0 0 A) (F0 m 4 ls []) := by
  have C1 := C0
  obtain ⟨hx, hb, hr, hml, hown, ht, hlocks, hA, hK, hN⟩ := C1
  intro n
  induction n with
  | zero =>
    intro b x1 x2 hc he
    exact absurd hc (fun h => TLn_0 h)
  | succ n ih =>
    intro b x1 x2 hc he H locs hP hD hS ls hl
    rw [f_Bk_tokensOfBodies_4] at he
    refine lv_iload_n hx hb d_Bk_tokensOfBodies_4 rfl (lv_at hl 2 rfl) ?_
    refine lv_bipush (v := 20) hx hb d_Bk_tokensOfBodies_5 (by decide) ?_
    refine lv_icmp_ge (tgt := 25) hx hb d_Bk_tokensOfBodies_7 (by decide) (fun c_1 => ?_) (fun c_1 => ?_)
    · have he := he.trans (if_pos c_1)
      refine lv_iload_n hx hb d_Bk_tokensOfBodies_25 rfl (lv_at hl 1 rfl) ?_
      exact W.iret hx hb hr (v := x1) (fun t ht hW => ⟨⟨x1, (), rfl, he.symm, by rw [ht]; exact hP, va_K.moved hW.alike hK, hD⟩, hS.F ht⟩) hS.2.2 d_Bk_tokensOfBodies_26
    · have he := he.trans (if_neg c_1)
      refine lv_iload_n hx hb d_Bk_tokensOfBodies_10 rfl (lv_at hl 1 rfl) ?_
      refine lv_aload_n hx hb d_Bk_tokensOfBodies_11 rfl (lv_at hl 0 rfl) ?_
      refine va_get (D := (dC, dI)) (ci := 0) (v := .ref (ad 12)) (C := R_Bk) (T := T_Bk) (N := 7) hx hb ht i_Bk hown hK hP 0 rfl rfl 3 (by decide) (ht _ q_68) (fun _ h9 => h9) rfl d_Bk_tokensOfBodies_12 ?_
      refine lv_iload_n hx hb d_Bk_tokensOfBodies_15 rfl (lv_at hl 2 rfl) ?_
      refine va_iald hx hb hK hP 4 3 rfl rfl (wx_tl hc (by decide) c_1) d_Bk_tokensOfBodies_16 ?_
      refine lv_iadd hx hb d_Bk_tokensOfBodies_17 ?_
      refine lv_istore_n (lv' := [(1, .int (x1 + ((TBk_sizes b) x2.toNatClampNeg))), (0, .ref (ad 8)), (2, .int x2)]) hx hb d_Bk_tokensOfBodies_18 rfl hl (by decide) rfl (fun ls hl => ?_)
      refine lv_iinc (v := (x2 + 1)) (lv' := [(2, .int (x2 + 1)), (1, .int (x1 + ((TBk_sizes b) x2.toNatClampNeg))), (0, .ref (ad 8))]) hx hb d_Bk_tokensOfBodies_19 hl (k := 2) rfl rfl (by decide) rfl (fun ls hl => ?_)
      refine lv_goto (tgt := 4) hx hb d_Bk_tokensOfBodies_22 (by decide) ?_
      exact ih b (x1 + ((TBk_sizes b) x2.toNatClampNeg)) (x2 + 1) (TLn_s hc (by decide) c_1) he _ _ hP hD hS _ (lv_sub hl [2, 1, 0] rfl)
def f_Bk_tokensOfBodies (b : TBk) : Int32 := (f_Bk_tokensOfBodies_4 21 b 0 0)
set_option maxHeartbeats 4000000 in
set_option maxRecDepth 100000 in
theorem c_Bk_tokensOfBodies (l : Launch) (dC : Nat → ClassId) (dI : Nat → Nat → Nat) (ad : Nat → Nat) (ca : Nat → ClassId) (sz : Nat) (b : TBk) (F : Int32) (he : F = f_Bk_tokensOfBodies b) : wx_Mi l y_Bk_tokensOfBodies ws_Bk_tokensOfBodies ({ frames := 0, cells := 0, slots := 0, locals := 0 } : Room) (dC, dI) vwCl (t_B ca) [.ref (ad 8)] (w_B ad ca b) sz (fun _ : Unit => w_B ad ca b) (fun (r : Int32) (_ : Unit) => r = F) := by
  refine Met.ofW (cc := b_Bk_tokensOfBodies) (maxL := 3) (ret := some .int) (by decide) rfl ?_
  intro p e s m args below meth c s₁ B hml hv
  obtain ⟨rfl, hsz, hP, hK, hD0, hN⟩ := hv
  have hx := B.exec
  have hb := B.bytes
  have hr := B.returns
  have hts := atoms_spec (ws := ws_Bk_tokensOfBodies) B.pre
  have ht : ∀ w ∈ TB, w.before _ s = true := fun w h => hts w (List.mem_cons_of_mem _ h)
  have hown : s.vm.findClass R_Bk = some m.cls := findClass_of_methodNamed B.named
  have hlocks := B.notSynchronized
  subst hsz
  have hD := hD0.self (sz := s.heap.size)
  generalize hAe : va_A (w_B ad ca b) s.heap.size = A at hD ⊢
  have hA : ∀ q : Nat, s.heap.size ≤ q → A q := fun q h => by rw [← hAe]; exact Or.inr h
  have hS : va_S A s.heap s.heap [] := va_S.rf
  have C0 : wx_C p s m ([.ref (ad 8)] : List Value).toArray meth c b_Bk_tokensOfBodies (some .int) 3 R_Bk A (dC, dI) vwCl (t_B ca) := ⟨hx, hb, hr, hml, hown, ht, hlocks, hA, hK, hN⟩
  have hl := lv_entry ([.ref (ad 8)]) (n := 3) (Nat.le_of_ble_eq_true rfl)
  rw [lg_entry_eq]
  generalize (lg_sl ([.ref (ad 8)]) ++ List.replicate (3 - (lg_sl ([.ref (ad 8)])).length) Slot.unset).toArray = ls at hl ⊢
  have hl : lv_has ls 3 [(0, .ref (ad 8))] := hl
  unfold f_Bk_tokensOfBodies at he
  refine lv_iconst (v := 0) hx hb d_Bk_tokensOfBodies_0 (by decide) ?_
  refine lv_istore_n (lv' := [(1, .int 0), (0, .ref (ad 8))]) hx hb d_Bk_tokensOfBodies_1 rfl hl (by decide) rfl (fun ls hl => ?_)
  refine lv_iconst (v := 0) hx hb d_Bk_tokensOfBodies_2 (by decide) ?_
  refine lv_istore_n (lv' := [(2, .int 0), (1, .int 0), (0, .ref (ad 8))]) hx hb d_Bk_tokensOfBodies_3 rfl hl (by decide) rfl (fun ls hl => ?_)
  exact k_Bk_tokensOfBodies_4 l dC dI ad ca C0 F 21 b 0 0 (TLn_i (by omega) (by omega)) he _ _ hP hD hS _ (lv_sub hl [2, 1, 0] rfl)
end
section
theorem q_268 : Cond.instanceMethod y_Bk_tokenIn ∈ TB := tq 268 (by decide +kernel) rfl
theorem q_269 : Cond.selects R_Bk y_Bk_tokenIn y_Bk_tokenIn ∈ TB := tq 269 (by decide +kernel) rfl
theorem q_270 : Cond.code y_Bk_tokenIn b_Bk_tokenIn 4 (some .int) ∈ TB := tq 270 (by decide +kernel) rfl
theorem q_349 : Cond.methodLink R_Bk 56 y_Bk_tokenIn ∈ TB := tq 349 (by decide +kernel) rfl
theorem d_Bk_haveTheSameTokens_0 : decode b_Bk_haveTheSameTokens 0 = .ok (.aload_n 0, 1) := by decide +kernel
theorem d_Bk_haveTheSameTokens_1 : decode b_Bk_haveTheSameTokens 1 = .ok (.iload_n 1, 1) := by decide +kernel
theorem d_Bk_haveTheSameTokens_2 : decode b_Bk_haveTheSameTokens 2 = .ok (.invokevirtual 35, 3) := by decide +kernel
theorem d_Bk_haveTheSameTokens_5 : decode b_Bk_haveTheSameTokens 5 = .ok (.istore_n 3, 1) := by decide +kernel
theorem d_Bk_haveTheSameTokens_6 : decode b_Bk_haveTheSameTokens 6 = .ok (.iload_n 3, 1) := by decide +kernel
theorem d_Bk_haveTheSameTokens_7 : decode b_Bk_haveTheSameTokens 7 = .ok (.aload_n 0, 1) := by decide +kernel
theorem d_Bk_haveTheSameTokens_8 : decode b_Bk_haveTheSameTokens 8 = .ok (.iload_n 2, 1) := by decide +kernel
theorem d_Bk_haveTheSameTokens_9 : decode b_Bk_haveTheSameTokens 9 = .ok (.invokevirtual 35, 3) := by decide +kernel
theorem d_Bk_haveTheSameTokens_12 : decode b_Bk_haveTheSameTokens 12 = .ok (.if_icmp .eq 5, 3) := by decide +kernel
theorem d_Bk_haveTheSameTokens_15 : decode b_Bk_haveTheSameTokens 15 = .ok (.iconst 0, 1) := by decide +kernel
theorem d_Bk_haveTheSameTokens_16 : decode b_Bk_haveTheSameTokens 16 = .ok (.ireturn, 1) := by decide +kernel
theorem d_Bk_haveTheSameTokens_17 : decode b_Bk_haveTheSameTokens 17 = .ok (.iconst 0, 1) := by decide +kernel
theorem d_Bk_haveTheSameTokens_18 : decode b_Bk_haveTheSameTokens 18 = .ok (.istore 4, 2) := by decide +kernel
theorem d_Bk_haveTheSameTokens_20 : decode b_Bk_haveTheSameTokens 20 = .ok (.iload 4, 2) := by decide +kernel
theorem d_Bk_haveTheSameTokens_22 : decode b_Bk_haveTheSameTokens 22 = .ok (.iload_n 3, 1) := by decide +kernel
theorem d_Bk_haveTheSameTokens_23 : decode b_Bk_haveTheSameTokens 23 = .ok (.if_icmp .ge 28, 3) := by decide +kernel
theorem d_Bk_haveTheSameTokens_26 : decode b_Bk_haveTheSameTokens 26 = .ok (.aload_n 0, 1) := by decide +kernel
theorem d_Bk_haveTheSameTokens_27 : decode b_Bk_haveTheSameTokens 27 = .ok (.iload_n 1, 1) := by decide +kernel
theorem d_Bk_haveTheSameTokens_28 : decode b_Bk_haveTheSameTokens 28 = .ok (.iload 4, 2) := by decide +kernel
theorem d_Bk_haveTheSameTokens_30 : decode b_Bk_haveTheSameTokens 30 = .ok (.invokevirtual 56, 3) := by decide +kernel
theorem d_Bk_haveTheSameTokens_33 : decode b_Bk_haveTheSameTokens 33 = .ok (.aload_n 0, 1) := by decide +kernel
theorem d_Bk_haveTheSameTokens_34 : decode b_Bk_haveTheSameTokens 34 = .ok (.iload_n 2, 1) := by decide +kernel
theorem d_Bk_haveTheSameTokens_35 : decode b_Bk_haveTheSameTokens 35 = .ok (.iload 4, 2) := by decide +kernel
theorem d_Bk_haveTheSameTokens_37 : decode b_Bk_haveTheSameTokens 37 = .ok (.invokevirtual 56, 3) := by decide +kernel
theorem d_Bk_haveTheSameTokens_40 : decode b_Bk_haveTheSameTokens 40 = .ok (.if_icmp .eq 5, 3) := by decide +kernel
theorem d_Bk_haveTheSameTokens_43 : decode b_Bk_haveTheSameTokens 43 = .ok (.iconst 0, 1) := by decide +kernel
theorem d_Bk_haveTheSameTokens_44 : decode b_Bk_haveTheSameTokens 44 = .ok (.ireturn, 1) := by decide +kernel
theorem d_Bk_haveTheSameTokens_45 : decode b_Bk_haveTheSameTokens 45 = .ok (.iinc 4 1, 3) := by decide +kernel
theorem d_Bk_haveTheSameTokens_48 : decode b_Bk_haveTheSameTokens 48 = .ok (.goto (-28), 3) := by decide +kernel
theorem d_Bk_haveTheSameTokens_51 : decode b_Bk_haveTheSameTokens 51 = .ok (.iconst 1, 1) := by decide +kernel
theorem d_Bk_haveTheSameTokens_52 : decode b_Bk_haveTheSameTokens 52 = .ok (.ireturn, 1) := by decide +kernel
def f_Bk_haveTheSameTokens_20 : Nat → TBk → Int32 → Int32 → Int32 → Int32 → Int32
  | 0, _, _, _, _, _ => 0
  | n + 1, b, x1, x2, x3, x4 => (if x3 ≤ x4 then 1 else (if (f_Bk_tokenIn b x1 x4) = (f_Bk_tokenIn b x2 x4) then (f_Bk_haveTheSameTokens_20 n b x1 x2 x3 (x4 + 1)) else 0))
set_option maxHeartbeats 4000000 in
set_option maxRecDepth 100000 in
theorem k_Bk_haveTheSameTokens_20 {p : Program} {e : Env} {s : State} {m : MethodId} {args : Array Value} {below : List Frame} {meth : Method} {c : Code} {A : Nat → Prop} (l : Launch) (dC : Nat → ClassId) (dI : Nat → Nat → Nat) (ad : Nat → Nat) (ca : Nat → ClassId) (C0 : wx_C p s m args meth c b_Bk_haveTheSameTokens (some .boolean) 5 R_Bk A (dC, dI) vwCl (t_B ca)) (F : Int32) : ∀ (n : Nat) (b : TBk) (x1 : Int32) (x2 : Int32) (x3 : Int32) (x4 : Int32), (BkS b) → (TLn x3.toInt x4 n) → F = f_Bk_haveTheSameTokens_20 n b x1 x2 x3 x4 → ∀ (H : Heap) (locs : List Loc), va_P (dC, dI) vwCl (w_B ad ca b) H → va_D A (w_B ad ca b) → va_S A s.heap H locs → ∀ (ls : Array Slot), lv_has ls 5 [(0, .ref (ad 8)), (1, .int x1), (2, .int x2), (3, .int x3), (4, .int x4)] → W p l e ({ frames := 2, cells := 0, slots := 0, locals := 44 } : Room) s m args below meth c H locs 0 0 (MQ below (va_Qi (fun (r : Int32) (_ : Unit) => r = F) (wx_B (dC, dI) vwCl (t_B ca) (fun _ : Unit => w_B ad ca b) A) A) args s 0 0 A) (F0 m 20 ls []) := by
  have C1 := C0
  obtain ⟨hx, hb, hr, hml, hown, ht, hlocks, hA, hK, hN⟩ := C1
  intro n
  induction n with
  | zero =>
    intro b x1 x2 x3 x4 hpre hc he
    exact absurd hc (fun h => TLn_0 h)
  | succ n ih =>
    intro b x1 x2 x3 x4 hpre hc he H locs hP hD hS ls hl
    rw [f_Bk_haveTheSameTokens_20] at he
    refine lv_iload hx hb d_Bk_haveTheSameTokens_20 (lv_at hl 4 rfl) ?_
    refine lv_iload_n hx hb d_Bk_haveTheSameTokens_22 rfl (lv_at hl 3 rfl) ?_
    refine lv_icmp_ge (tgt := 51) hx hb d_Bk_haveTheSameTokens_23 (by decide) (fun c_1 => ?_) (fun c_1 => ?_)
    · have he := he.trans (if_pos c_1)
      refine lv_iconst (v := 1) hx hb d_Bk_haveTheSameTokens_51 (by decide) ?_
      exact W.zret hx hb hr (by rfl) (v := 1) (fun t ht hW => ⟨⟨1, (), rfl, he.symm, by rw [ht]; exact hP, va_K.moved hW.alike hK, hD⟩, hS.F ht⟩) hS.2.2 d_Bk_haveTheSameTokens_52
    · have he := he.trans (if_neg c_1)
      refine lv_aload_n hx hb d_Bk_haveTheSameTokens_26 rfl (lv_at hl 0 rfl) ?_
      refine lv_iload_n hx hb d_Bk_haveTheSameTokens_27 rfl (lv_at hl 1 rfl) ?_
      refine lv_iload hx hb d_Bk_haveTheSameTokens_28 (lv_at hl 4 rfl) ?_
      refine wx_ci (wS := fun _ : Unit => w_B ad ca b) (ws2 := fun _ : Unit => w_B ad ca b) (va_runV (As := [.int x1, .int x4]) (rest := []) ⟨hx, hb, hml, hown, ht⟩ (c_Bk_tokenIn l dC dI ad ca H.size b x1 x4 hpre _ rfl) (cwV 2 ht (tb_V q_349 q_268 q_269 q_45 q_270) rfl rfl rfl p_Bk_tokenIn ⟨show 1 + 1 ≤ 2 by omega, show 8 + (4 + 11) + 21 ≤ 44 by omega⟩) (wx_preV (wc := (w_B ad ca b)) hN hK hP hD [0, 1, 2, 3, 4, 5, 6] [0, 1, 2, 3, 4, 5] rfl (by decide) rfl (ci := 0) (q0 := 0) rfl rfl) rfl rfl hl.1 rfl (lv_room (Nat.le_of_ble_eq_true rfl)) d_Bk_haveTheSameTokens_30 ⟨Nat.zero_le _, Nat.zero_le _⟩) hP hD hS hA [0, 1, 2, 3, 4, 5, 6] [] [0, 1, 2, 3, 4, 5, 6] rfl rfl (by decide) (by decide) (by decide) (fun _ => rfl) (fun r_2 _ H locs hw hP hD hS => ?_)
      subst hw
      have hP : va_P (dC, dI) vwCl (w_B ad ca b) H := hP
      have hD : va_D A (w_B ad ca b) := hD
      refine lv_aload_n hx hb d_Bk_haveTheSameTokens_33 rfl (lv_at hl 0 rfl) ?_
      refine lv_iload_n hx hb d_Bk_haveTheSameTokens_34 rfl (lv_at hl 2 rfl) ?_
      refine lv_iload hx hb d_Bk_haveTheSameTokens_35 (lv_at hl 4 rfl) ?_
      refine wx_ci (wS := fun _ : Unit => w_B ad ca b) (ws2 := fun _ : Unit => w_B ad ca b) (va_runV (As := [.int x2, .int x4]) (rest := [.int (f_Bk_tokenIn b x1 x4)]) ⟨hx, hb, hml, hown, ht⟩ (c_Bk_tokenIn l dC dI ad ca H.size b x2 x4 hpre _ rfl) (cwV 2 ht (tb_V q_349 q_268 q_269 q_45 q_270) rfl rfl rfl p_Bk_tokenIn ⟨show 1 + 1 ≤ 2 by omega, show 8 + (4 + 11) + 21 ≤ 44 by omega⟩) (wx_preV (wc := (w_B ad ca b)) hN hK hP hD [0, 1, 2, 3, 4, 5, 6] [0, 1, 2, 3, 4, 5] rfl (by decide) rfl (ci := 0) (q0 := 0) rfl rfl) rfl rfl hl.1 rfl (lv_room (Nat.le_of_ble_eq_true rfl)) d_Bk_haveTheSameTokens_37 ⟨Nat.zero_le _, Nat.zero_le _⟩) hP hD hS hA [0, 1, 2, 3, 4, 5, 6] [] [0, 1, 2, 3, 4, 5, 6] rfl rfl (by decide) (by decide) (by decide) (fun _ => rfl) (fun r_3 _ H locs hw hP hD hS => ?_)
      subst hw
      have hP : va_P (dC, dI) vwCl (w_B ad ca b) H := hP
      have hD : va_D A (w_B ad ca b) := hD
      refine lv_icmp_eq (tgt := 45) hx hb d_Bk_haveTheSameTokens_40 (by decide) (fun c_4 => ?_) (fun c_4 => ?_)
      · have he := he.trans (if_pos c_4)
        refine lv_iinc (v := (x4 + 1)) (lv' := [(4, .int (x4 + 1)), (0, .ref (ad 8)), (1, .int x1), (2, .int x2), (3, .int x3)]) hx hb d_Bk_haveTheSameTokens_45 hl (k := 4) rfl rfl (by decide) rfl (fun ls hl => ?_)
        refine lv_goto (tgt := 20) hx hb d_Bk_haveTheSameTokens_48 (by decide) ?_
        exact ih b x1 x2 x3 (x4 + 1) hpre (TLn_s hc rfl c_1) he _ _ hP hD hS _ (lv_sub hl [1, 2, 3, 4, 0] rfl)
      · have he := he.trans (if_neg c_4)
        refine lv_iconst (v := 0) hx hb d_Bk_haveTheSameTokens_43 (by decide) ?_
        exact W.zret hx hb hr (by rfl) (v := 0) (fun t ht hW => ⟨⟨0, (), rfl, he.symm, by rw [ht]; exact hP, va_K.moved hW.alike hK, hD⟩, hS.F ht⟩) hS.2.2 d_Bk_haveTheSameTokens_44
def f_Bk_haveTheSameTokens (b : TBk) (p0 : Int32) (p1 : Int32) : Int32 := (if (f_Bk_sizeOf b p0) = (f_Bk_sizeOf b p1) then (f_Bk_haveTheSameTokens_20 (((f_Bk_sizeOf b p0).toInt + 1).toNat) b p0 p1 (f_Bk_sizeOf b p0) 0) else 0)
set_option maxHeartbeats 4000000 in
set_option maxRecDepth 100000 in
theorem c_Bk_haveTheSameTokens (l : Launch) (dC : Nat → ClassId) (dI : Nat → Nat → Nat) (ad : Nat → Nat) (ca : Nat → ClassId) (sz : Nat) (b : TBk) (p0 : Int32) (p1 : Int32) (hpre : BkS b) (F : Int32) (he : F = f_Bk_haveTheSameTokens b p0 p1) : wx_Mi l y_Bk_haveTheSameTokens ws_Bk_haveTheSameTokens ({ frames := 2, cells := 0, slots := 0, locals := 44 } : Room) (dC, dI) vwCl (t_B ca) [.ref (ad 8), .int p0, .int p1] (w_B ad ca b) sz (fun _ : Unit => w_B ad ca b) (fun (r : Int32) (_ : Unit) => r = F) := by
  refine Met.ofW (cc := b_Bk_haveTheSameTokens) (maxL := 5) (ret := some .boolean) (by decide) rfl ?_
  intro p e s m args below meth c s₁ B hml hv
  obtain ⟨rfl, hsz, hP, hK, hD0, hN⟩ := hv
  have hx := B.exec
  have hb := B.bytes
  have hr := B.returns
  have hts := atoms_spec (ws := ws_Bk_haveTheSameTokens) B.pre
  have ht : ∀ w ∈ TB, w.before _ s = true := fun w h => hts w (List.mem_cons_of_mem _ h)
  have hown : s.vm.findClass R_Bk = some m.cls := findClass_of_methodNamed B.named
  have hlocks := B.notSynchronized
  subst hsz
  have hD := hD0.self (sz := s.heap.size)
  generalize hAe : va_A (w_B ad ca b) s.heap.size = A at hD ⊢
  have hA : ∀ q : Nat, s.heap.size ≤ q → A q := fun q h => by rw [← hAe]; exact Or.inr h
  have hS : va_S A s.heap s.heap [] := va_S.rf
  have C0 : wx_C p s m ([.ref (ad 8), .int p0, .int p1] : List Value).toArray meth c b_Bk_haveTheSameTokens (some .boolean) 5 R_Bk A (dC, dI) vwCl (t_B ca) := ⟨hx, hb, hr, hml, hown, ht, hlocks, hA, hK, hN⟩
  have hl := lv_entry ([.ref (ad 8), .int p0, .int p1]) (n := 5) (Nat.le_of_ble_eq_true rfl)
  rw [lg_entry_eq]
  generalize (lg_sl ([.ref (ad 8), .int p0, .int p1]) ++ List.replicate (5 - (lg_sl ([.ref (ad 8), .int p0, .int p1])).length) Slot.unset).toArray = ls at hl ⊢
  have hl : lv_has ls 5 [(0, .ref (ad 8)), (1, .int p0), (2, .int p1)] := hl
  unfold f_Bk_haveTheSameTokens at he
  refine lv_aload_n hx hb d_Bk_haveTheSameTokens_0 rfl (lv_at hl 0 rfl) ?_
  refine lv_iload_n hx hb d_Bk_haveTheSameTokens_1 rfl (lv_at hl 1 rfl) ?_
  refine wx_ci (wS := fun _ : Unit => w_B ad ca b) (ws2 := fun _ : Unit => w_B ad ca b) (va_runV (As := [.int p0]) (rest := []) ⟨hx, hb, hml, hown, ht⟩ (c_Bk_sizeOf l dC dI ad ca s.heap.size b p0 _ rfl) (cwV 1 ht (tb_V q_218 q_219 q_220 q_45 q_221) rfl rfl rfl p_Bk_sizeOf ⟨show 0 + 1 ≤ 2 by omega, show 8 + (2 + 11) + 0 ≤ 44 by omega⟩) (wx_preV (wc := (w_B ad ca b)) hN hK hP hD [0, 1, 2, 3, 4, 5, 6] [0, 1, 2, 3, 4, 5] rfl (by decide) rfl (ci := 0) (q0 := 0) rfl rfl) rfl rfl hl.1 rfl (lv_room (Nat.le_of_ble_eq_true rfl)) d_Bk_haveTheSameTokens_2 ⟨Nat.zero_le _, Nat.zero_le _⟩) hP hD hS hA [0, 1, 2, 3, 4, 5, 6] [] [0, 1, 2, 3, 4, 5, 6] rfl rfl (by decide) (by decide) (by decide) (fun _ => rfl) (fun r_1 _ H locs hw hP hD hS => ?_)
  subst hw
  have hP : va_P (dC, dI) vwCl (w_B ad ca b) H := hP
  have hD : va_D A (w_B ad ca b) := hD
  refine lv_istore_n (lv' := [(3, .int (f_Bk_sizeOf b p0)), (0, .ref (ad 8)), (1, .int p0), (2, .int p1)]) hx hb d_Bk_haveTheSameTokens_5 rfl hl (by decide) rfl (fun ls hl => ?_)
  refine lv_iload_n hx hb d_Bk_haveTheSameTokens_6 rfl (lv_at hl 0 rfl) ?_
  refine lv_aload_n hx hb d_Bk_haveTheSameTokens_7 rfl (lv_at hl 1 rfl) ?_
  refine lv_iload_n hx hb d_Bk_haveTheSameTokens_8 rfl (lv_at hl 3 rfl) ?_
  refine wx_ci (wS := fun _ : Unit => w_B ad ca b) (ws2 := fun _ : Unit => w_B ad ca b) (va_runV (As := [.int p1]) (rest := [.int (f_Bk_sizeOf b p0)]) ⟨hx, hb, hml, hown, ht⟩ (c_Bk_sizeOf l dC dI ad ca H.size b p1 _ rfl) (cwV 1 ht (tb_V q_218 q_219 q_220 q_45 q_221) rfl rfl rfl p_Bk_sizeOf ⟨show 0 + 1 ≤ 2 by omega, show 8 + (2 + 11) + 0 ≤ 44 by omega⟩) (wx_preV (wc := (w_B ad ca b)) hN hK hP hD [0, 1, 2, 3, 4, 5, 6] [0, 1, 2, 3, 4, 5] rfl (by decide) rfl (ci := 0) (q0 := 0) rfl rfl) rfl rfl hl.1 rfl (lv_room (Nat.le_of_ble_eq_true rfl)) d_Bk_haveTheSameTokens_9 ⟨Nat.zero_le _, Nat.zero_le _⟩) hP hD hS hA [0, 1, 2, 3, 4, 5, 6] [] [0, 1, 2, 3, 4, 5, 6] rfl rfl (by decide) (by decide) (by decide) (fun _ => rfl) (fun r_2 _ H locs hw hP hD hS => ?_)
  subst hw
  have hP : va_P (dC, dI) vwCl (w_B ad ca b) H := hP
  have hD : va_D A (w_B ad ca b) := hD
  refine lv_icmp_eq (tgt := 17) hx hb d_Bk_haveTheSameTokens_12 (by decide) (fun c_3 => ?_) (fun c_3 => ?_)
  · have he := he.trans (if_pos c_3)
    refine lv_iconst (v := 0) hx hb d_Bk_haveTheSameTokens_17 (by decide) ?_
    refine lv_istore (lv' := [(4, .int 0), (3, .int (f_Bk_sizeOf b p0)), (0, .ref (ad 8)), (1, .int p0), (2, .int p1)]) hx hb d_Bk_haveTheSameTokens_18 hl (by decide) rfl (fun ls hl => ?_)
    exact k_Bk_haveTheSameTokens_20 l dC dI ad ca C0 F (((f_Bk_sizeOf b p0).toInt + 1).toNat) b p0 p1 (f_Bk_sizeOf b p0) 0 hpre (TLn_i (BkS_size hpre p0).1 (by have := (BkS_size hpre p0).1; omega)) he _ _ hP hD hS _ (lv_sub hl [2, 3, 4, 1, 0] rfl)
  · have he := he.trans (if_neg c_3)
    refine lv_iconst (v := 0) hx hb d_Bk_haveTheSameTokens_15 (by decide) ?_
    exact W.zret hx hb hr (by rfl) (v := 0) (fun t ht hW => ⟨⟨0, (), rfl, he.symm, by rw [ht]; exact hP, va_K.moved hW.alike hK, hD⟩, hS.F ht⟩) hS.2.2 d_Bk_haveTheSameTokens_16
theorem hst_01 (n : Nat) : ∀ (b : TBk) (x1 x2 x3 x4 : Int32), f_Bk_haveTheSameTokens_20 n b x1 x2 x3 x4 = 0 ∨ f_Bk_haveTheSameTokens_20 n b x1 x2 x3 x4 = 1 := by
  induction n with
  | zero =>
    intro b x1 x2 x3 x4
    exact Or.inl rfl
  | succ n ih =>
    intro b x1 x2 x3 x4
    rw [f_Bk_haveTheSameTokens_20]
    split
    · exact Or.inr rfl
    · split
      · exact ih _ _ _ _ _
      · exact Or.inl rfl
theorem hs_01 (b : TBk) (x y : Int32) : f_Bk_haveTheSameTokens b x y = 0 ∨ f_Bk_haveTheSameTokens b x y = 1 := by
  unfold f_Bk_haveTheSameTokens
  split
  · exact hst_01 _ _ _ _ _ _
  · exact Or.inl rfl
end
section
theorem q_1 : Cond.selects R_Rd y_Rd_leaveRowsThatEnded y_Rd_leaveRowsThatEnded ∈ TB := tq 1 (by decide +kernel) rfl
theorem q_12 : Cond.selects R_Bk y_Bk_haveTheSameTokens y_Bk_haveTheSameTokens ∈ TB := tq 12 (by decide +kernel) rfl
theorem q_47 : Cond.initialized R_Rd ∈ TB := tq 47 (by decide +kernel) rfl
theorem q_106 : Cond.fieldLink R_Rd 18 "ConditionText$Reader" "book" "LConditionText$Book;" ∈ TB := tq 106 (by decide +kernel) rfl
theorem q_107 : Cond.fieldLink R_Rd 9 "ConditionText$Reader" "rows" "[I" ∈ TB := tq 107 (by decide +kernel) rfl
theorem q_108 : Cond.fieldLink R_Rd 15 "ConditionText$Reader" "places" "[I" ∈ TB := tq 108 (by decide +kernel) rfl
theorem q_109 : Cond.fieldLink R_Rd 22 "ConditionText$Reader" "top" "I" ∈ TB := tq 109 (by decide +kernel) rfl
theorem q_110 : Cond.fieldLink R_Rd 26 "ConditionText$Reader" "kept" "I" ∈ TB := tq 110 (by decide +kernel) rfl
theorem q_111 : Cond.fieldLink R_Rd 29 "ConditionText$Reader" "steps" "I" ∈ TB := tq 111 (by decide +kernel) rfl
theorem q_253 : Cond.methodLink R_Rd 32 y_Rd_goOnWith ∈ TB := tq 253 (by decide +kernel) rfl
theorem q_254 : Cond.instanceMethod y_Rd_goOnWith ∈ TB := tq 254 (by decide +kernel) rfl
theorem q_255 : Cond.selects R_Rd y_Rd_goOnWith y_Rd_goOnWith ∈ TB := tq 255 (by decide +kernel) rfl
theorem q_256 : Cond.code y_Rd_goOnWith b_Rd_goOnWith 2 (none : Option Jvm.ClassFile.FieldType) ∈ TB := tq 256 (by decide +kernel) rfl
theorem q_262 : Cond.methodLink R_Rd 36 y_Rd_leaveRowsThatEnded ∈ TB := tq 262 (by decide +kernel) rfl
theorem q_264 : Cond.instanceMethod y_Rd_leaveRowsThatEnded ∈ TB := tq 264 (by decide +kernel) rfl
theorem q_265 : Cond.code y_Rd_leaveRowsThatEnded b_Rd_leaveRowsThatEnded 1 (none : Option Jvm.ClassFile.FieldType) ∈ TB := tq 265 (by decide +kernel) rfl
theorem q_266 : Cond.methodLink R_Rd 45 y_Bk_sizeOf ∈ TB := tq 266 (by decide +kernel) rfl
theorem q_267 : Cond.methodLink R_Rd 39 y_Bk_tokenIn ∈ TB := tq 267 (by decide +kernel) rfl
theorem q_289 : Cond.static y_Ct_isMacro ∈ TB := tq 289 (by decide +kernel) rfl
theorem q_290 : Cond.code y_Ct_isMacro b_Ct_isMacro 1 (some .boolean) ∈ TB := tq 290 (by decide +kernel) rfl
theorem q_345 : Cond.methodLink R_Bk 52 y_Bk_haveTheSameTokens ∈ TB := tq 345 (by decide +kernel) rfl
theorem q_347 : Cond.instanceMethod y_Bk_haveTheSameTokens ∈ TB := tq 347 (by decide +kernel) rfl
theorem q_348 : Cond.code y_Bk_haveTheSameTokens b_Bk_haveTheSameTokens 5 (some .boolean) ∈ TB := tq 348 (by decide +kernel) rfl
theorem d_Bk_meanTheSame_0 : decode b_Bk_meanTheSame 0 = .ok (.aload_n 0, 1) := by decide +kernel
theorem d_Bk_meanTheSame_1 : decode b_Bk_meanTheSame 1 = .ok (.iload_n 1, 1) := by decide +kernel
theorem d_Bk_meanTheSame_2 : decode b_Bk_meanTheSame 2 = .ok (.invokevirtual 43, 3) := by decide +kernel
theorem d_Bk_meanTheSame_5 : decode b_Bk_meanTheSame 5 = .ok (.istore_n 3, 1) := by decide +kernel
theorem d_Bk_meanTheSame_6 : decode b_Bk_meanTheSame 6 = .ok (.iload_n 3, 1) := by decide +kernel
theorem d_Bk_meanTheSame_7 : decode b_Bk_meanTheSame 7 = .ok (.aload_n 0, 1) := by decide +kernel
theorem d_Bk_meanTheSame_8 : decode b_Bk_meanTheSame 8 = .ok (.iload_n 2, 1) := by decide +kernel
theorem d_Bk_meanTheSame_9 : decode b_Bk_meanTheSame 9 = .ok (.invokevirtual 43, 3) := by decide +kernel
theorem d_Bk_meanTheSame_12 : decode b_Bk_meanTheSame 12 = .ok (.if_icmp .eq 5, 3) := by decide +kernel
theorem d_Bk_meanTheSame_15 : decode b_Bk_meanTheSame 15 = .ok (.iconst 0, 1) := by decide +kernel
theorem d_Bk_meanTheSame_16 : decode b_Bk_meanTheSame 16 = .ok (.ireturn, 1) := by decide +kernel
theorem d_Bk_meanTheSame_17 : decode b_Bk_meanTheSame 17 = .ok (.iload_n 3, 1) := by decide +kernel
theorem d_Bk_meanTheSame_18 : decode b_Bk_meanTheSame 18 = .ok (.invokestatic 49, 3) := by decide +kernel
theorem d_Bk_meanTheSame_21 : decode b_Bk_meanTheSame 21 = .ok (.ifCond .eq 18, 3) := by decide +kernel
theorem d_Bk_meanTheSame_24 : decode b_Bk_meanTheSame 24 = .ok (.aload_n 0, 1) := by decide +kernel
theorem d_Bk_meanTheSame_25 : decode b_Bk_meanTheSame 25 = .ok (.aload_n 0, 1) := by decide +kernel
theorem d_Bk_meanTheSame_26 : decode b_Bk_meanTheSame 26 = .ok (.iload_n 1, 1) := by decide +kernel
theorem d_Bk_meanTheSame_27 : decode b_Bk_meanTheSame 27 = .ok (.invokevirtual 46, 3) := by decide +kernel
theorem d_Bk_meanTheSame_30 : decode b_Bk_meanTheSame 30 = .ok (.aload_n 0, 1) := by decide +kernel
theorem d_Bk_meanTheSame_31 : decode b_Bk_meanTheSame 31 = .ok (.iload_n 2, 1) := by decide +kernel
theorem d_Bk_meanTheSame_32 : decode b_Bk_meanTheSame 32 = .ok (.invokevirtual 46, 3) := by decide +kernel
theorem d_Bk_meanTheSame_35 : decode b_Bk_meanTheSame 35 = .ok (.invokevirtual 52, 3) := by decide +kernel
theorem d_Bk_meanTheSame_38 : decode b_Bk_meanTheSame 38 = .ok (.ireturn, 1) := by decide +kernel
theorem d_Bk_meanTheSame_39 : decode b_Bk_meanTheSame 39 = .ok (.aload_n 0, 1) := by decide +kernel
theorem d_Bk_meanTheSame_40 : decode b_Bk_meanTheSame 40 = .ok (.iload_n 1, 1) := by decide +kernel
theorem d_Bk_meanTheSame_41 : decode b_Bk_meanTheSame 41 = .ok (.invokevirtual 46, 3) := by decide +kernel
theorem d_Bk_meanTheSame_44 : decode b_Bk_meanTheSame 44 = .ok (.aload_n 0, 1) := by decide +kernel
theorem d_Bk_meanTheSame_45 : decode b_Bk_meanTheSame 45 = .ok (.iload_n 2, 1) := by decide +kernel
theorem d_Bk_meanTheSame_46 : decode b_Bk_meanTheSame 46 = .ok (.invokevirtual 46, 3) := by decide +kernel
theorem d_Bk_meanTheSame_49 : decode b_Bk_meanTheSame 49 = .ok (.if_icmp .ne 7, 3) := by decide +kernel
theorem d_Bk_meanTheSame_52 : decode b_Bk_meanTheSame 52 = .ok (.iconst 1, 1) := by decide +kernel
theorem d_Bk_meanTheSame_53 : decode b_Bk_meanTheSame 53 = .ok (.goto 4, 3) := by decide +kernel
theorem d_Bk_meanTheSame_56 : decode b_Bk_meanTheSame 56 = .ok (.iconst 0, 1) := by decide +kernel
theorem d_Bk_meanTheSame_57 : decode b_Bk_meanTheSame 57 = .ok (.ireturn, 1) := by decide +kernel
theorem d_Rd_goOnWith_0 : decode b_Rd_goOnWith 0 = .ok (.aload_n 0, 1) := by decide +kernel
theorem d_Rd_goOnWith_1 : decode b_Rd_goOnWith 1 = .ok (.getfield 22, 3) := by decide +kernel
theorem d_Rd_goOnWith_4 : decode b_Rd_goOnWith 4 = .ok (.iconst (-1), 1) := by decide +kernel
theorem d_Rd_goOnWith_5 : decode b_Rd_goOnWith 5 = .ok (.if_icmp .lt 47, 3) := by decide +kernel
theorem d_Rd_goOnWith_8 : decode b_Rd_goOnWith 8 = .ok (.aload_n 0, 1) := by decide +kernel
theorem d_Rd_goOnWith_9 : decode b_Rd_goOnWith 9 = .ok (.getfield 22, 3) := by decide +kernel
theorem d_Rd_goOnWith_12 : decode b_Rd_goOnWith 12 = .ok (.aload_n 0, 1) := by decide +kernel
theorem d_Rd_goOnWith_13 : decode b_Rd_goOnWith 13 = .ok (.getfield 9, 3) := by decide +kernel
theorem d_Rd_goOnWith_16 : decode b_Rd_goOnWith 16 = .ok (.arraylength, 1) := by decide +kernel
theorem d_Rd_goOnWith_17 : decode b_Rd_goOnWith 17 = .ok (.iconst 1, 1) := by decide +kernel
theorem d_Rd_goOnWith_18 : decode b_Rd_goOnWith 18 = .ok (.isub, 1) := by decide +kernel
theorem d_Rd_goOnWith_19 : decode b_Rd_goOnWith 19 = .ok (.if_icmp .ge 33, 3) := by decide +kernel
theorem d_Rd_goOnWith_22 : decode b_Rd_goOnWith 22 = .ok (.aload_n 0, 1) := by decide +kernel
theorem d_Rd_goOnWith_23 : decode b_Rd_goOnWith 23 = .ok (.dup, 1) := by decide +kernel
theorem d_Rd_goOnWith_24 : decode b_Rd_goOnWith 24 = .ok (.getfield 22, 3) := by decide +kernel
theorem d_Rd_goOnWith_27 : decode b_Rd_goOnWith 27 = .ok (.iconst 1, 1) := by decide +kernel
theorem d_Rd_goOnWith_28 : decode b_Rd_goOnWith 28 = .ok (.iadd, 1) := by decide +kernel
theorem d_Rd_goOnWith_29 : decode b_Rd_goOnWith 29 = .ok (.putfield 22, 3) := by decide +kernel
theorem d_Rd_goOnWith_32 : decode b_Rd_goOnWith 32 = .ok (.aload_n 0, 1) := by decide +kernel
theorem d_Rd_goOnWith_33 : decode b_Rd_goOnWith 33 = .ok (.getfield 9, 3) := by decide +kernel
theorem d_Rd_goOnWith_36 : decode b_Rd_goOnWith 36 = .ok (.aload_n 0, 1) := by decide +kernel
theorem d_Rd_goOnWith_37 : decode b_Rd_goOnWith 37 = .ok (.getfield 22, 3) := by decide +kernel
theorem d_Rd_goOnWith_40 : decode b_Rd_goOnWith 40 = .ok (.iload_n 1, 1) := by decide +kernel
theorem d_Rd_goOnWith_41 : decode b_Rd_goOnWith 41 = .ok (.iastore, 1) := by decide +kernel
theorem d_Rd_goOnWith_42 : decode b_Rd_goOnWith 42 = .ok (.aload_n 0, 1) := by decide +kernel
theorem d_Rd_goOnWith_43 : decode b_Rd_goOnWith 43 = .ok (.getfield 15, 3) := by decide +kernel
theorem d_Rd_goOnWith_46 : decode b_Rd_goOnWith 46 = .ok (.aload_n 0, 1) := by decide +kernel
theorem d_Rd_goOnWith_47 : decode b_Rd_goOnWith 47 = .ok (.getfield 22, 3) := by decide +kernel
theorem d_Rd_goOnWith_50 : decode b_Rd_goOnWith 50 = .ok (.iconst 0, 1) := by decide +kernel
theorem d_Rd_goOnWith_51 : decode b_Rd_goOnWith 51 = .ok (.iastore, 1) := by decide +kernel
theorem d_Rd_goOnWith_52 : decode b_Rd_goOnWith 52 = .ok (.return_, 1) := by decide +kernel
theorem d_Rd_restart_0 : decode b_Rd_restart 0 = .ok (.aload_n 0, 1) := by decide +kernel
theorem d_Rd_restart_1 : decode b_Rd_restart 1 = .ok (.iconst (-1), 1) := by decide +kernel
theorem d_Rd_restart_2 : decode b_Rd_restart 2 = .ok (.putfield 22, 3) := by decide +kernel
theorem d_Rd_restart_5 : decode b_Rd_restart 5 = .ok (.aload_n 0, 1) := by decide +kernel
theorem d_Rd_restart_6 : decode b_Rd_restart 6 = .ok (.iconst (-1), 1) := by decide +kernel
theorem d_Rd_restart_7 : decode b_Rd_restart 7 = .ok (.putfield 26, 3) := by decide +kernel
theorem d_Rd_restart_10 : decode b_Rd_restart 10 = .ok (.aload_n 0, 1) := by decide +kernel
theorem d_Rd_restart_11 : decode b_Rd_restart 11 = .ok (.iconst 0, 1) := by decide +kernel
theorem d_Rd_restart_12 : decode b_Rd_restart 12 = .ok (.putfield 29, 3) := by decide +kernel
theorem d_Rd_restart_15 : decode b_Rd_restart 15 = .ok (.aload_n 0, 1) := by decide +kernel
theorem d_Rd_restart_16 : decode b_Rd_restart 16 = .ok (.bipush 20, 2) := by decide +kernel
theorem d_Rd_restart_18 : decode b_Rd_restart 18 = .ok (.invokevirtual 32, 3) := by decide +kernel
theorem d_Rd_restart_21 : decode b_Rd_restart 21 = .ok (.return_, 1) := by decide +kernel
theorem d_Rd_keep_0 : decode b_Rd_keep 0 = .ok (.aload_n 0, 1) := by decide +kernel
theorem d_Rd_keep_1 : decode b_Rd_keep 1 = .ok (.iload_n 1, 1) := by decide +kernel
theorem d_Rd_keep_2 : decode b_Rd_keep 2 = .ok (.putfield 26, 3) := by decide +kernel
theorem d_Rd_keep_5 : decode b_Rd_keep 5 = .ok (.return_, 1) := by decide +kernel
theorem d_Rd_stepsMade_0 : decode b_Rd_stepsMade 0 = .ok (.aload_n 0, 1) := by decide +kernel
theorem d_Rd_stepsMade_1 : decode b_Rd_stepsMade 1 = .ok (.getfield 29, 3) := by decide +kernel
theorem d_Rd_stepsMade_4 : decode b_Rd_stepsMade 4 = .ok (.ireturn, 1) := by decide +kernel
theorem d_Rd_leaveRowsThatEnded_0 : decode b_Rd_leaveRowsThatEnded 0 = .ok (.aload_n 0, 1) := by decide +kernel
theorem d_Rd_leaveRowsThatEnded_1 : decode b_Rd_leaveRowsThatEnded 1 = .ok (.getfield 22, 3) := by decide +kernel
theorem d_Rd_leaveRowsThatEnded_4 : decode b_Rd_leaveRowsThatEnded 4 = .ok (.ifCond .lt 56, 3) := by decide +kernel
theorem d_Rd_leaveRowsThatEnded_7 : decode b_Rd_leaveRowsThatEnded 7 = .ok (.aload_n 0, 1) := by decide +kernel
theorem d_Rd_leaveRowsThatEnded_8 : decode b_Rd_leaveRowsThatEnded 8 = .ok (.getfield 22, 3) := by decide +kernel
theorem d_Rd_leaveRowsThatEnded_11 : decode b_Rd_leaveRowsThatEnded 11 = .ok (.aload_n 0, 1) := by decide +kernel
theorem d_Rd_leaveRowsThatEnded_12 : decode b_Rd_leaveRowsThatEnded 12 = .ok (.getfield 9, 3) := by decide +kernel
theorem d_Rd_leaveRowsThatEnded_15 : decode b_Rd_leaveRowsThatEnded 15 = .ok (.arraylength, 1) := by decide +kernel
theorem d_Rd_leaveRowsThatEnded_16 : decode b_Rd_leaveRowsThatEnded 16 = .ok (.if_icmp .ge 44, 3) := by decide +kernel
theorem d_Rd_leaveRowsThatEnded_19 : decode b_Rd_leaveRowsThatEnded 19 = .ok (.aload_n 0, 1) := by decide +kernel
theorem d_Rd_leaveRowsThatEnded_20 : decode b_Rd_leaveRowsThatEnded 20 = .ok (.getfield 15, 3) := by decide +kernel
theorem d_Rd_leaveRowsThatEnded_23 : decode b_Rd_leaveRowsThatEnded 23 = .ok (.aload_n 0, 1) := by decide +kernel
theorem d_Rd_leaveRowsThatEnded_24 : decode b_Rd_leaveRowsThatEnded 24 = .ok (.getfield 22, 3) := by decide +kernel
theorem d_Rd_leaveRowsThatEnded_27 : decode b_Rd_leaveRowsThatEnded 27 = .ok (.iaload, 1) := by decide +kernel
theorem d_Rd_leaveRowsThatEnded_28 : decode b_Rd_leaveRowsThatEnded 28 = .ok (.aload_n 0, 1) := by decide +kernel
theorem d_Rd_leaveRowsThatEnded_29 : decode b_Rd_leaveRowsThatEnded 29 = .ok (.getfield 18, 3) := by decide +kernel
theorem d_Rd_leaveRowsThatEnded_32 : decode b_Rd_leaveRowsThatEnded 32 = .ok (.aload_n 0, 1) := by decide +kernel
theorem d_Rd_leaveRowsThatEnded_33 : decode b_Rd_leaveRowsThatEnded 33 = .ok (.getfield 9, 3) := by decide +kernel
theorem d_Rd_leaveRowsThatEnded_36 : decode b_Rd_leaveRowsThatEnded 36 = .ok (.aload_n 0, 1) := by decide +kernel
theorem d_Rd_leaveRowsThatEnded_37 : decode b_Rd_leaveRowsThatEnded 37 = .ok (.getfield 22, 3) := by decide +kernel
theorem d_Rd_leaveRowsThatEnded_40 : decode b_Rd_leaveRowsThatEnded 40 = .ok (.iaload, 1) := by decide +kernel
theorem d_Rd_leaveRowsThatEnded_41 : decode b_Rd_leaveRowsThatEnded 41 = .ok (.invokevirtual 45, 3) := by decide +kernel
theorem d_Rd_leaveRowsThatEnded_44 : decode b_Rd_leaveRowsThatEnded 44 = .ok (.if_icmp .lt 16, 3) := by decide +kernel
theorem d_Rd_leaveRowsThatEnded_47 : decode b_Rd_leaveRowsThatEnded 47 = .ok (.aload_n 0, 1) := by decide +kernel
theorem d_Rd_leaveRowsThatEnded_48 : decode b_Rd_leaveRowsThatEnded 48 = .ok (.dup, 1) := by decide +kernel
theorem d_Rd_leaveRowsThatEnded_49 : decode b_Rd_leaveRowsThatEnded 49 = .ok (.getfield 22, 3) := by decide +kernel
theorem d_Rd_leaveRowsThatEnded_52 : decode b_Rd_leaveRowsThatEnded 52 = .ok (.iconst 1, 1) := by decide +kernel
theorem d_Rd_leaveRowsThatEnded_53 : decode b_Rd_leaveRowsThatEnded 53 = .ok (.isub, 1) := by decide +kernel
theorem d_Rd_leaveRowsThatEnded_54 : decode b_Rd_leaveRowsThatEnded 54 = .ok (.putfield 22, 3) := by decide +kernel
theorem d_Rd_leaveRowsThatEnded_57 : decode b_Rd_leaveRowsThatEnded 57 = .ok (.goto (-57), 3) := by decide +kernel
theorem d_Rd_leaveRowsThatEnded_60 : decode b_Rd_leaveRowsThatEnded 60 = .ok (.return_, 1) := by decide +kernel
theorem d_Rd_look_0 : decode b_Rd_look 0 = .ok (.aload_n 0, 1) := by decide +kernel
theorem d_Rd_look_1 : decode b_Rd_look 1 = .ok (.getfield 26, 3) := by decide +kernel
theorem d_Rd_look_4 : decode b_Rd_look 4 = .ok (.iconst (-1), 1) := by decide +kernel
theorem d_Rd_look_5 : decode b_Rd_look 5 = .ok (.if_icmp .eq 15, 3) := by decide +kernel
theorem d_Rd_look_8 : decode b_Rd_look 8 = .ok (.aload_n 0, 1) := by decide +kernel
theorem d_Rd_look_9 : decode b_Rd_look 9 = .ok (.getfield 26, 3) := by decide +kernel
theorem d_Rd_look_12 : decode b_Rd_look 12 = .ok (.istore_n 1, 1) := by decide +kernel
theorem d_Rd_look_13 : decode b_Rd_look 13 = .ok (.aload_n 0, 1) := by decide +kernel
theorem d_Rd_look_14 : decode b_Rd_look 14 = .ok (.iconst (-1), 1) := by decide +kernel
theorem d_Rd_look_15 : decode b_Rd_look 15 = .ok (.putfield 26, 3) := by decide +kernel
theorem d_Rd_look_18 : decode b_Rd_look 18 = .ok (.iload_n 1, 1) := by decide +kernel
theorem d_Rd_look_19 : decode b_Rd_look 19 = .ok (.ireturn, 1) := by decide +kernel
theorem d_Rd_look_20 : decode b_Rd_look 20 = .ok (.aload_n 0, 1) := by decide +kernel
theorem d_Rd_look_21 : decode b_Rd_look 21 = .ok (.invokevirtual 36, 3) := by decide +kernel
theorem d_Rd_look_24 : decode b_Rd_look 24 = .ok (.aload_n 0, 1) := by decide +kernel
theorem d_Rd_look_25 : decode b_Rd_look 25 = .ok (.getfield 22, 3) := by decide +kernel
theorem d_Rd_look_28 : decode b_Rd_look 28 = .ok (.ifCond .lt 15, 3) := by decide +kernel
theorem d_Rd_look_31 : decode b_Rd_look 31 = .ok (.aload_n 0, 1) := by decide +kernel
theorem d_Rd_look_32 : decode b_Rd_look 32 = .ok (.getfield 22, 3) := by decide +kernel
theorem d_Rd_look_35 : decode b_Rd_look 35 = .ok (.aload_n 0, 1) := by decide +kernel
theorem d_Rd_look_36 : decode b_Rd_look 36 = .ok (.getfield 9, 3) := by decide +kernel
theorem d_Rd_look_39 : decode b_Rd_look 39 = .ok (.arraylength, 1) := by decide +kernel
theorem d_Rd_look_40 : decode b_Rd_look 40 = .ok (.if_icmp .lt 5, 3) := by decide +kernel
theorem d_Rd_look_43 : decode b_Rd_look 43 = .ok (.iconst (-1), 1) := by decide +kernel
theorem d_Rd_look_44 : decode b_Rd_look 44 = .ok (.ireturn, 1) := by decide +kernel
theorem d_Rd_look_45 : decode b_Rd_look 45 = .ok (.aload_n 0, 1) := by decide +kernel
theorem d_Rd_look_46 : decode b_Rd_look 46 = .ok (.getfield 29, 3) := by decide +kernel
theorem d_Rd_look_49 : decode b_Rd_look 49 = .ok (.sipush 5000, 3) := by decide +kernel
theorem d_Rd_look_52 : decode b_Rd_look 52 = .ok (.if_icmp .lt 6, 3) := by decide +kernel
theorem d_Rd_look_55 : decode b_Rd_look 55 = .ok (.bipush (-2), 2) := by decide +kernel
theorem d_Rd_look_57 : decode b_Rd_look 57 = .ok (.ireturn, 1) := by decide +kernel
theorem d_Rd_look_58 : decode b_Rd_look 58 = .ok (.aload_n 0, 1) := by decide +kernel
theorem d_Rd_look_59 : decode b_Rd_look 59 = .ok (.dup, 1) := by decide +kernel
theorem d_Rd_look_60 : decode b_Rd_look 60 = .ok (.getfield 29, 3) := by decide +kernel
theorem d_Rd_look_63 : decode b_Rd_look 63 = .ok (.iconst 1, 1) := by decide +kernel
theorem d_Rd_look_64 : decode b_Rd_look 64 = .ok (.iadd, 1) := by decide +kernel
theorem d_Rd_look_65 : decode b_Rd_look 65 = .ok (.putfield 29, 3) := by decide +kernel
theorem d_Rd_look_68 : decode b_Rd_look 68 = .ok (.aload_n 0, 1) := by decide +kernel
theorem d_Rd_look_69 : decode b_Rd_look 69 = .ok (.getfield 15, 3) := by decide +kernel
theorem d_Rd_look_72 : decode b_Rd_look 72 = .ok (.aload_n 0, 1) := by decide +kernel
theorem d_Rd_look_73 : decode b_Rd_look 73 = .ok (.getfield 22, 3) := by decide +kernel
theorem d_Rd_look_76 : decode b_Rd_look 76 = .ok (.dup2, 1) := by decide +kernel
theorem d_Rd_look_77 : decode b_Rd_look 77 = .ok (.iaload, 1) := by decide +kernel
theorem d_Rd_look_78 : decode b_Rd_look 78 = .ok (.iconst 1, 1) := by decide +kernel
theorem d_Rd_look_79 : decode b_Rd_look 79 = .ok (.iadd, 1) := by decide +kernel
theorem d_Rd_look_80 : decode b_Rd_look 80 = .ok (.iastore, 1) := by decide +kernel
theorem d_Rd_look_81 : decode b_Rd_look 81 = .ok (.aload_n 0, 1) := by decide +kernel
theorem d_Rd_look_82 : decode b_Rd_look 82 = .ok (.getfield 18, 3) := by decide +kernel
theorem d_Rd_look_85 : decode b_Rd_look 85 = .ok (.aload_n 0, 1) := by decide +kernel
theorem d_Rd_look_86 : decode b_Rd_look 86 = .ok (.getfield 9, 3) := by decide +kernel
theorem d_Rd_look_89 : decode b_Rd_look 89 = .ok (.aload_n 0, 1) := by decide +kernel
theorem d_Rd_look_90 : decode b_Rd_look 90 = .ok (.getfield 22, 3) := by decide +kernel
theorem d_Rd_look_93 : decode b_Rd_look 93 = .ok (.iaload, 1) := by decide +kernel
theorem d_Rd_look_94 : decode b_Rd_look 94 = .ok (.aload_n 0, 1) := by decide +kernel
theorem d_Rd_look_95 : decode b_Rd_look 95 = .ok (.getfield 15, 3) := by decide +kernel
theorem d_Rd_look_98 : decode b_Rd_look 98 = .ok (.aload_n 0, 1) := by decide +kernel
theorem d_Rd_look_99 : decode b_Rd_look 99 = .ok (.getfield 22, 3) := by decide +kernel
theorem d_Rd_look_102 : decode b_Rd_look 102 = .ok (.iaload, 1) := by decide +kernel
theorem d_Rd_look_103 : decode b_Rd_look 103 = .ok (.iconst 1, 1) := by decide +kernel
theorem d_Rd_look_104 : decode b_Rd_look 104 = .ok (.isub, 1) := by decide +kernel
theorem d_Rd_look_105 : decode b_Rd_look 105 = .ok (.invokevirtual 39, 3) := by decide +kernel
theorem d_Rd_look_108 : decode b_Rd_look 108 = .ok (.ireturn, 1) := by decide +kernel
def f_Bk_meanTheSame (b : TBk) (p0 : Int32) (p1 : Int32) : Int32 := (if (f_Bk_kindOf b p0) = (f_Bk_kindOf b p1) then (if (f_Ct_isMacro (f_Bk_kindOf b p0)) = 0 then (if (f_Bk_valueOf b p0) = (f_Bk_valueOf b p1) then 1 else 0) else (f_Bk_haveTheSameTokens b (f_Bk_valueOf b p0) (f_Bk_valueOf b p1))) else 0)
set_option maxHeartbeats 4000000 in
set_option maxRecDepth 100000 in
theorem c_Bk_meanTheSame (l : Launch) (dC : Nat → ClassId) (dI : Nat → Nat → Nat) (ad : Nat → Nat) (ca : Nat → ClassId) (sz : Nat) (b : TBk) (p0 : Int32) (p1 : Int32) (hpre : BkS b) (F : Int32) (he : F = f_Bk_meanTheSame b p0 p1) : wx_Mi l y_Bk_meanTheSame ws_Bk_meanTheSame ({ frames := 3, cells := 0, slots := 0, locals := 68 } : Room) (dC, dI) vwCl (t_B ca) [.ref (ad 8), .int p0, .int p1] (w_B ad ca b) sz (fun _ : Unit => w_B ad ca b) (fun (r : Int32) (_ : Unit) => r = F) := by
  refine Met.ofW (cc := b_Bk_meanTheSame) (maxL := 4) (ret := some .boolean) (by decide) rfl ?_
  intro p e s m args below meth c s₁ B hml hv
  obtain ⟨rfl, hsz, hP, hK, hD0, hN⟩ := hv
  have hx := B.exec
  have hb := B.bytes
  have hr := B.returns
  have hts := atoms_spec (ws := ws_Bk_meanTheSame) B.pre
  have ht : ∀ w ∈ TB, w.before _ s = true := fun w h => hts w (List.mem_cons_of_mem _ h)
  have hown : s.vm.findClass R_Bk = some m.cls := findClass_of_methodNamed B.named
  have hlocks := B.notSynchronized
  subst hsz
  have hD := hD0.self (sz := s.heap.size)
  generalize hAe : va_A (w_B ad ca b) s.heap.size = A at hD ⊢
  have hA : ∀ q : Nat, s.heap.size ≤ q → A q := fun q h => by rw [← hAe]; exact Or.inr h
  have hS : va_S A s.heap s.heap [] := va_S.rf
  have hl := lv_entry ([.ref (ad 8), .int p0, .int p1]) (n := 4) (Nat.le_of_ble_eq_true rfl)
  rw [lg_entry_eq]
  generalize (lg_sl ([.ref (ad 8), .int p0, .int p1]) ++ List.replicate (4 - (lg_sl ([.ref (ad 8), .int p0, .int p1])).length) Slot.unset).toArray = ls at hl ⊢
  have hl : lv_has ls 4 [(0, .ref (ad 8)), (1, .int p0), (2, .int p1)] := hl
  unfold f_Bk_meanTheSame at he
  refine lv_aload_n hx hb d_Bk_meanTheSame_0 rfl (lv_at hl 0 rfl) ?_
  refine lv_iload_n hx hb d_Bk_meanTheSame_1 rfl (lv_at hl 1 rfl) ?_
  refine wx_ci (wS := fun _ : Unit => w_B ad ca b) (ws2 := fun _ : Unit => w_B ad ca b) (va_runV (As := [.int p0]) (rest := []) ⟨hx, hb, hml, hown, ht⟩ (c_Bk_kindOf l dC dI ad ca s.heap.size b p0 _ rfl) (cwV 1 ht (tb_V q_330 q_284 q_285 q_45 q_286) rfl rfl rfl p_Bk_kindOf ⟨show 1 + 1 ≤ 3 by omega, show 8 + (2 + 11) + 20 ≤ 68 by omega⟩) (wx_preV (wc := (w_B ad ca b)) hN hK hP hD [0, 1, 2, 3, 4, 5, 6] [0, 1, 2, 3, 4, 5] rfl (by decide) rfl (ci := 0) (q0 := 0) rfl rfl) rfl rfl hl.1 rfl (lv_room (Nat.le_of_ble_eq_true rfl)) d_Bk_meanTheSame_2 ⟨Nat.zero_le _, Nat.zero_le _⟩) hP hD hS hA [0, 1, 2, 3, 4, 5, 6] [] [0, 1, 2, 3, 4, 5, 6] rfl rfl (by decide) (by decide) (by decide) (fun _ => rfl) (fun r_1 _ H locs hw hP hD hS => ?_)
  subst hw
  have hP : va_P (dC, dI) vwCl (w_B ad ca b) H := hP
  have hD : va_D A (w_B ad ca b) := hD
  refine lv_istore_n (lv' := [(3, .int (f_Bk_kindOf b p0)), (0, .ref (ad 8)), (1, .int p0), (2, .int p1)]) hx hb d_Bk_meanTheSame_5 rfl hl (by decide) rfl (fun ls hl => ?_)
  refine lv_iload_n hx hb d_Bk_meanTheSame_6 rfl (lv_at hl 0 rfl) ?_
  refine lv_aload_n hx hb d_Bk_meanTheSame_7 rfl (lv_at hl 1 rfl) ?_
  refine lv_iload_n hx hb d_Bk_meanTheSame_8 rfl (lv_at hl 3 rfl) ?_
  refine wx_ci (wS := fun _ : Unit => w_B ad ca b) (ws2 := fun _ : Unit => w_B ad ca b) (va_runV (As := [.int p1]) (rest := [.int (f_Bk_kindOf b p0)]) ⟨hx, hb, hml, hown, ht⟩ (c_Bk_kindOf l dC dI ad ca H.size b p1 _ rfl) (cwV 1 ht (tb_V q_330 q_284 q_285 q_45 q_286) rfl rfl rfl p_Bk_kindOf ⟨show 1 + 1 ≤ 3 by omega, show 8 + (2 + 11) + 20 ≤ 68 by omega⟩) (wx_preV (wc := (w_B ad ca b)) hN hK hP hD [0, 1, 2, 3, 4, 5, 6] [0, 1, 2, 3, 4, 5] rfl (by decide) rfl (ci := 0) (q0 := 0) rfl rfl) rfl rfl hl.1 rfl (lv_room (Nat.le_of_ble_eq_true rfl)) d_Bk_meanTheSame_9 ⟨Nat.zero_le _, Nat.zero_le _⟩) hP hD hS hA [0, 1, 2, 3, 4, 5, 6] [] [0, 1, 2, 3, 4, 5, 6] rfl rfl (by decide) (by decide) (by decide) (fun _ => rfl) (fun r_2 _ H locs hw hP hD hS => ?_)
  subst hw
  have hP : va_P (dC, dI) vwCl (w_B ad ca b) H := hP
  have hD : va_D A (w_B ad ca b) := hD
  refine lv_icmp_eq (tgt := 17) hx hb d_Bk_meanTheSame_12 (by decide) (fun c_3 => ?_) (fun c_3 => ?_)
  · have he := he.trans (if_pos c_3)
    refine lv_iload_n hx hb d_Bk_meanTheSame_17 rfl (lv_at hl 0 rfl) ?_
    refine wx_ci (wS := fun _ : Unit => w_E ad ca) (ws2 := fun _ : Unit => w_B ad ca b) (va_runSN (As := [.int (f_Bk_kindOf b p0)]) (rest := []) ⟨hx, hb, hml, hown, ht⟩ (c_Ct_isMacro l dC dI ad ca H.size (f_Bk_kindOf b p0) _ rfl) ⟨va_cnB 1 ht (tb_in q_290) rfl rfl rfl (hN _ nest_3) (ht _ q_44) p_Ct_isMacro.2 ⟨show 0 + 1 ≤ 3 by omega, show 8 + (1 + 11) + 0 ≤ 68 by omega⟩, ht _ q_289, trivial⟩ (wx_preS (wc := (w_E ad ca)) hN hK hP hD [] [] rfl (by decide) rfl) rfl rfl hl.1 rfl (lv_room (Nat.le_of_ble_eq_true rfl)) d_Bk_meanTheSame_18 ⟨Nat.zero_le _, Nat.zero_le _⟩) hP hD hS hA [] [0, 1, 2, 3, 4, 5, 6] [0, 1, 2, 3, 4, 5, 6] rfl rfl (by decide) (by decide) (by decide) (fun _ => rfl) (fun r_4 _ H locs hw hP hD hS => ?_)
    subst hw
    have hP : va_P (dC, dI) vwCl (w_B ad ca b) H := hP
    have hD : va_D A (w_B ad ca b) := hD
    refine lv_if_eq (tgt := 39) hx hb d_Bk_meanTheSame_21 (by decide) (fun c_5 => ?_) (fun c_5 => ?_)
    · have he := he.trans (if_pos c_5)
      refine lv_aload_n hx hb d_Bk_meanTheSame_39 rfl (lv_at hl 1 rfl) ?_
      refine lv_iload_n hx hb d_Bk_meanTheSame_40 rfl (lv_at hl 2 rfl) ?_
      refine wx_ci (wS := fun _ : Unit => w_B ad ca b) (ws2 := fun _ : Unit => w_B ad ca b) (va_runV (As := [.int p0]) (rest := []) ⟨hx, hb, hml, hown, ht⟩ (c_Bk_valueOf l dC dI ad ca H.size b p0 _ rfl) (cwV 1 ht (tb_V q_331 q_292 q_293 q_45 q_294) rfl rfl rfl p_Bk_valueOf ⟨show 1 + 1 ≤ 3 by omega, show 8 + (2 + 11) + 20 ≤ 68 by omega⟩) (wx_preV (wc := (w_B ad ca b)) hN hK hP hD [0, 1, 2, 3, 4, 5, 6] [0, 1, 2, 3, 4, 5] rfl (by decide) rfl (ci := 0) (q0 := 0) rfl rfl) rfl rfl hl.1 rfl (lv_room (Nat.le_of_ble_eq_true rfl)) d_Bk_meanTheSame_41 ⟨Nat.zero_le _, Nat.zero_le _⟩) hP hD hS hA [0, 1, 2, 3, 4, 5, 6] [] [0, 1, 2, 3, 4, 5, 6] rfl rfl (by decide) (by decide) (by decide) (fun _ => rfl) (fun r_6 _ H locs hw hP hD hS => ?_)
      subst hw
      have hP : va_P (dC, dI) vwCl (w_B ad ca b) H := hP
      have hD : va_D A (w_B ad ca b) := hD
      refine lv_aload_n hx hb d_Bk_meanTheSame_44 rfl (lv_at hl 1 rfl) ?_
      refine lv_iload_n hx hb d_Bk_meanTheSame_45 rfl (lv_at hl 3 rfl) ?_
      refine wx_ci (wS := fun _ : Unit => w_B ad ca b) (ws2 := fun _ : Unit => w_B ad ca b) (va_runV (As := [.int p1]) (rest := [.int (f_Bk_valueOf b p0)]) ⟨hx, hb, hml, hown, ht⟩ (c_Bk_valueOf l dC dI ad ca H.size b p1 _ rfl) (cwV 1 ht (tb_V q_331 q_292 q_293 q_45 q_294) rfl rfl rfl p_Bk_valueOf ⟨show 1 + 1 ≤ 3 by omega, show 8 + (2 + 11) + 20 ≤ 68 by omega⟩) (wx_preV (wc := (w_B ad ca b)) hN hK hP hD [0, 1, 2, 3, 4, 5, 6] [0, 1, 2, 3, 4, 5] rfl (by decide) rfl (ci := 0) (q0 := 0) rfl rfl) rfl rfl hl.1 rfl (lv_room (Nat.le_of_ble_eq_true rfl)) d_Bk_meanTheSame_46 ⟨Nat.zero_le _, Nat.zero_le _⟩) hP hD hS hA [0, 1, 2, 3, 4, 5, 6] [] [0, 1, 2, 3, 4, 5, 6] rfl rfl (by decide) (by decide) (by decide) (fun _ => rfl) (fun r_7 _ H locs hw hP hD hS => ?_)
      subst hw
      have hP : va_P (dC, dI) vwCl (w_B ad ca b) H := hP
      have hD : va_D A (w_B ad ca b) := hD
      refine lv_icmp_ne (tgt := 56) hx hb d_Bk_meanTheSame_49 (by decide) (fun c_8 => ?_) (fun c_8 => ?_)
      · have he := he.trans (if_neg c_8)
        refine lv_iconst (v := 0) hx hb d_Bk_meanTheSame_56 (by decide) ?_
        exact W.zret hx hb hr (by rfl) (v := 0) (fun t ht hW => ⟨⟨0, (), rfl, he.symm, by rw [ht]; exact hP, va_K.moved hW.alike hK, hD⟩, hS.F ht⟩) hS.2.2 d_Bk_meanTheSame_57
      · have he := he.trans (if_pos c_8)
        refine lv_iconst (v := 1) hx hb d_Bk_meanTheSame_52 (by decide) ?_
        refine lv_goto (tgt := 57) hx hb d_Bk_meanTheSame_53 (by decide) ?_
        exact W.zret hx hb hr (by rfl) (v := 1) (fun t ht hW => ⟨⟨1, (), rfl, he.symm, by rw [ht]; exact hP, va_K.moved hW.alike hK, hD⟩, hS.F ht⟩) hS.2.2 d_Bk_meanTheSame_57
    · have he := he.trans (if_neg c_5)
      refine lv_aload_n hx hb d_Bk_meanTheSame_24 rfl (lv_at hl 1 rfl) ?_
      refine lv_aload_n hx hb d_Bk_meanTheSame_25 rfl (lv_at hl 1 rfl) ?_
      refine lv_iload_n hx hb d_Bk_meanTheSame_26 rfl (lv_at hl 2 rfl) ?_
      refine wx_ci (wS := fun _ : Unit => w_B ad ca b) (ws2 := fun _ : Unit => w_B ad ca b) (va_runV (As := [.int p0]) (rest := [.ref (ad 8)]) ⟨hx, hb, hml, hown, ht⟩ (c_Bk_valueOf l dC dI ad ca H.size b p0 _ rfl) (cwV 1 ht (tb_V q_331 q_292 q_293 q_45 q_294) rfl rfl rfl p_Bk_valueOf ⟨show 1 + 1 ≤ 3 by omega, show 8 + (2 + 11) + 20 ≤ 68 by omega⟩) (wx_preV (wc := (w_B ad ca b)) hN hK hP hD [0, 1, 2, 3, 4, 5, 6] [0, 1, 2, 3, 4, 5] rfl (by decide) rfl (ci := 0) (q0 := 0) rfl rfl) rfl rfl hl.1 rfl (lv_room (Nat.le_of_ble_eq_true rfl)) d_Bk_meanTheSame_27 ⟨Nat.zero_le _, Nat.zero_le _⟩) hP hD hS hA [0, 1, 2, 3, 4, 5, 6] [] [0, 1, 2, 3, 4, 5, 6] rfl rfl (by decide) (by decide) (by decide) (fun _ => rfl) (fun r_9 _ H locs hw hP hD hS => ?_)
      subst hw
      have hP : va_P (dC, dI) vwCl (w_B ad ca b) H := hP
      have hD : va_D A (w_B ad ca b) := hD
      refine lv_aload_n hx hb d_Bk_meanTheSame_30 rfl (lv_at hl 1 rfl) ?_
      refine lv_iload_n hx hb d_Bk_meanTheSame_31 rfl (lv_at hl 3 rfl) ?_
      refine wx_ci (wS := fun _ : Unit => w_B ad ca b) (ws2 := fun _ : Unit => w_B ad ca b) (va_runV (As := [.int p1]) (rest := [.int (f_Bk_valueOf b p0), .ref (ad 8)]) ⟨hx, hb, hml, hown, ht⟩ (c_Bk_valueOf l dC dI ad ca H.size b p1 _ rfl) (cwV 1 ht (tb_V q_331 q_292 q_293 q_45 q_294) rfl rfl rfl p_Bk_valueOf ⟨show 1 + 1 ≤ 3 by omega, show 8 + (2 + 11) + 20 ≤ 68 by omega⟩) (wx_preV (wc := (w_B ad ca b)) hN hK hP hD [0, 1, 2, 3, 4, 5, 6] [0, 1, 2, 3, 4, 5] rfl (by decide) rfl (ci := 0) (q0 := 0) rfl rfl) rfl rfl hl.1 rfl (lv_room (Nat.le_of_ble_eq_true rfl)) d_Bk_meanTheSame_32 ⟨Nat.zero_le _, Nat.zero_le _⟩) hP hD hS hA [0, 1, 2, 3, 4, 5, 6] [] [0, 1, 2, 3, 4, 5, 6] rfl rfl (by decide) (by decide) (by decide) (fun _ => rfl) (fun r_10 _ H locs hw hP hD hS => ?_)
      subst hw
      have hP : va_P (dC, dI) vwCl (w_B ad ca b) H := hP
      have hD : va_D A (w_B ad ca b) := hD
      refine wx_ci (wS := fun _ : Unit => w_B ad ca b) (ws2 := fun _ : Unit => w_B ad ca b) (va_runV (As := [.int (f_Bk_valueOf b p0), .int (f_Bk_valueOf b p1)]) (rest := []) ⟨hx, hb, hml, hown, ht⟩ (c_Bk_haveTheSameTokens l dC dI ad ca H.size b (f_Bk_valueOf b p0) (f_Bk_valueOf b p1) hpre _ rfl) (cwV 2 ht (tb_V q_345 q_347 q_12 q_45 q_348) rfl rfl rfl p_Bk_haveTheSameTokens ⟨show 2 + 1 ≤ 3 by omega, show 8 + (5 + 11) + 44 ≤ 68 by omega⟩) (wx_preV (wc := (w_B ad ca b)) hN hK hP hD [0, 1, 2, 3, 4, 5, 6] [0, 1, 2, 3, 4, 5] rfl (by decide) rfl (ci := 0) (q0 := 0) rfl rfl) rfl rfl hl.1 rfl (lv_room (Nat.le_of_ble_eq_true rfl)) d_Bk_meanTheSame_35 ⟨Nat.zero_le _, Nat.zero_le _⟩) hP hD hS hA [0, 1, 2, 3, 4, 5, 6] [] [0, 1, 2, 3, 4, 5, 6] rfl rfl (by decide) (by decide) (by decide) (fun _ => rfl) (fun r_11 _ H locs hw hP hD hS => ?_)
      subst hw
      have hP : va_P (dC, dI) vwCl (w_B ad ca b) H := hP
      have hD : va_D A (w_B ad ca b) := hD
      exact W.zret hx hb hr (by rcases hs_01 b (f_Bk_valueOf b p0) (f_Bk_valueOf b p1) with h | h <;> rw [h] <;> rfl) (v := (f_Bk_haveTheSameTokens b (f_Bk_valueOf b p0) (f_Bk_valueOf b p1))) (fun t ht hW => ⟨⟨(f_Bk_haveTheSameTokens b (f_Bk_valueOf b p0) (f_Bk_valueOf b p1)), (), rfl, he.symm, by rw [ht]; exact hP, va_K.moved hW.alike hK, hD⟩, hS.F ht⟩) hS.2.2 d_Bk_meanTheSame_38
  · have he := he.trans (if_neg c_3)
    refine lv_iconst (v := 0) hx hb d_Bk_meanTheSame_15 (by decide) ?_
    exact W.zret hx hb hr (by rfl) (v := 0) (fun t ht hW => ⟨⟨0, (), rfl, he.symm, by rw [ht]; exact hP, va_K.moved hW.alike hK, hD⟩, hS.F ht⟩) hS.2.2 d_Bk_meanTheSame_16
def f_Rd_goOnWith (b : TBk) (r : TRd) (p0 : Int32) : TRd := (if (TRd_top r) < (-1) then r else (if (5001 - 1) ≤ (TRd_top r) then r else (TRd_set_top (TRd_set_places (TRd_set_rows r (upd (TRd_rows r) ((TRd_top r) + 1).toNatClampNeg p0)) (upd (TRd_places r) ((TRd_top r) + 1).toNatClampNeg 0)) ((TRd_top r) + 1))))
set_option maxHeartbeats 4000000 in
set_option maxRecDepth 100000 in
theorem c_Rd_goOnWith (l : Launch) (dC : Nat → ClassId) (dI : Nat → Nat → Nat) (ad : Nat → Nat) (ca : Nat → ClassId) (sz : Nat) (b : TBk) (r : TRd) (p0 : Int32) (F : TRd) (he : F = f_Rd_goOnWith b r p0) : wx_Mv l y_Rd_goOnWith ws_Rd_goOnWith ({ frames := 0, cells := 0, slots := 0, locals := 0 } : Room) (dC, dI) vwCl (t_D ca) [.ref (ad 5), .int p0] (w_D ad ca b r) sz (fun v : TRd => w_D ad ca b v) (fun v : TRd => v = F) := by
  refine Met.ofW (cc := b_Rd_goOnWith) (maxL := 2) (ret := none) (by decide) rfl ?_
  intro p e s m args below meth c s₁ B hml hv
  obtain ⟨rfl, hsz, hP, hK, hD0, hN⟩ := hv
  have hx := B.exec
  have hb := B.bytes
  have hr := B.returns
  have hts := atoms_spec (ws := ws_Rd_goOnWith) B.pre
  have ht : ∀ w ∈ TB, w.before _ s = true := fun w h => hts w (List.mem_cons_of_mem _ h)
  have hown : s.vm.findClass R_Rd = some m.cls := findClass_of_methodNamed B.named
  have hlocks := B.notSynchronized
  subst hsz
  have hD := hD0.self (sz := s.heap.size)
  generalize hAe : va_A (w_D ad ca b r) s.heap.size = A at hD ⊢
  have hA : ∀ q : Nat, s.heap.size ≤ q → A q := fun q h => by rw [← hAe]; exact Or.inr h
  have hS : va_S A s.heap s.heap [] := va_S.rf
  have hl := lv_entry ([.ref (ad 5), .int p0]) (n := 2) (Nat.le_of_ble_eq_true rfl)
  rw [lg_entry_eq]
  generalize (lg_sl ([.ref (ad 5), .int p0]) ++ List.replicate (2 - (lg_sl ([.ref (ad 5), .int p0])).length) Slot.unset).toArray = ls at hl ⊢
  have hl : lv_has ls 2 [(0, .ref (ad 5)), (1, .int p0)] := hl
  unfold f_Rd_goOnWith at he
  refine lv_aload_n hx hb d_Rd_goOnWith_0 rfl (lv_at hl 0 rfl) ?_
  refine va_get (D := (dC, dI)) (ci := 1) (v := .int (TRd_top r)) (C := R_Rd) (T := T_Rd) (N := 6) hx hb ht i_Rd hown hK hP 0 rfl rfl 3 (by decide) (ht _ q_109) (fun _ h9 => h9) rfl d_Rd_goOnWith_1 ?_
  refine lv_iconst (v := (-1)) hx hb d_Rd_goOnWith_4 (by decide) ?_
  refine lv_icmp_lt (tgt := 52) hx hb d_Rd_goOnWith_5 (by decide) (fun c_1 => ?_) (fun c_1 => ?_)
  · have he := he.trans (if_pos c_1)
    exact W.vret hx hb hr (fun t ht hW => ⟨⟨r, rfl, he.symm, by rw [ht]; exact hP, va_K.moved hW.alike hK, hD⟩, hS.F ht⟩) hS.2.2 d_Rd_goOnWith_52
  · have he := he.trans (if_neg c_1)
    refine lv_aload_n hx hb d_Rd_goOnWith_8 rfl (lv_at hl 0 rfl) ?_
    refine va_get (D := (dC, dI)) (ci := 1) (v := .int (TRd_top r)) (C := R_Rd) (T := T_Rd) (N := 6) hx hb ht i_Rd hown hK hP 0 rfl rfl 3 (by decide) (ht _ q_109) (fun _ h9 => h9) rfl d_Rd_goOnWith_9 ?_
    refine lv_aload_n hx hb d_Rd_goOnWith_12 rfl (lv_at hl 0 rfl) ?_
    refine va_get (D := (dC, dI)) (ci := 1) (v := .ref (ad 6)) (C := R_Rd) (T := T_Rd) (N := 6) hx hb ht i_Rd hown hK hP 0 rfl rfl 1 (by decide) (ht _ q_107) (fun _ h9 => h9) rfl d_Rd_goOnWith_13 ?_
    refine va_alen hx hb hK hP 1 0 rfl rfl (v := 5001) rfl d_Rd_goOnWith_16 ?_
    refine lv_iconst (v := 1) hx hb d_Rd_goOnWith_17 (by decide) ?_
    refine lv_isub hx hb d_Rd_goOnWith_18 ?_
    refine lv_icmp_ge (tgt := 52) hx hb d_Rd_goOnWith_19 (by decide) (fun c_2 => ?_) (fun c_2 => ?_)
    · have he := he.trans (if_pos c_2)
      exact W.vret hx hb hr (fun t ht hW => ⟨⟨r, rfl, he.symm, by rw [ht]; exact hP, va_K.moved hW.alike hK, hD⟩, hS.F ht⟩) hS.2.2 d_Rd_goOnWith_52
    · have he := he.trans (if_neg c_2)
      refine lv_aload_n hx hb d_Rd_goOnWith_22 rfl (lv_at hl 0 rfl) ?_
      refine lv_dup hx hb d_Rd_goOnWith_23 rfl ?_
      refine va_get (D := (dC, dI)) (ci := 1) (v := .int (TRd_top r)) (C := R_Rd) (T := T_Rd) (N := 6) hx hb ht i_Rd hown hK hP 0 rfl rfl 3 (by decide) (ht _ q_109) (fun _ h9 => h9) rfl d_Rd_goOnWith_24 ?_
      refine lv_iconst (v := 1) hx hb d_Rd_goOnWith_27 (by decide) ?_
      refine lv_iadd hx hb d_Rd_goOnWith_28 ?_
      refine va_put (D := (dC, dI)) (ci := 1) (v := .int ((TRd_top r) + 1)) (ty := .int) (C := R_Rd) (T := T_Rd) (N := 6) hx hb ht i_Rd ty_Rd ty_Rd_ok nm_Rd hown hK hP hD hS 0 rfl rfl 3 (by decide) (ht _ q_109) (fun _ h9 => h9) rfl (by decide +kernel) rfl rfl (Nat.le_of_ble_eq_true rfl) d_Rd_goOnWith_29 (fun H locs hP hD hS => ?_)
      have hP : va_P (dC, dI) vwCl (w_D ad ca b (TRd_set_top r ((TRd_top r) + 1))) H := hP
      have hD : va_D A (w_D ad ca b (TRd_set_top r ((TRd_top r) + 1))) := hD
      refine lv_aload_n hx hb d_Rd_goOnWith_32 rfl (lv_at hl 0 rfl) ?_
      refine va_get (D := (dC, dI)) (ci := 1) (v := .ref (ad 6)) (C := R_Rd) (T := T_Rd) (N := 6) hx hb ht i_Rd hown hK hP 0 rfl rfl 1 (by decide) (ht _ q_107) (fun _ h9 => h9) rfl d_Rd_goOnWith_33 ?_
      refine lv_aload_n hx hb d_Rd_goOnWith_36 rfl (lv_at hl 0 rfl) ?_
      refine va_get (D := (dC, dI)) (ci := 1) (v := .int ((TRd_top r) + 1)) (C := R_Rd) (T := T_Rd) (N := 6) hx hb ht i_Rd hown hK hP 0 rfl rfl 3 (by decide) (ht _ q_109) (fun _ h9 => h9) rfl d_Rd_goOnWith_37 ?_
      refine lv_iload_n hx hb d_Rd_goOnWith_40 rfl (lv_at hl 1 rfl) ?_
      refine va_iast hx hb hK hP hD hS 1 0 rfl rfl (in_top1 c_1 c_2) d_Rd_goOnWith_41 (fun H locs hP hD hS => ?_)
      have hP : va_P (dC, dI) vwCl (w_D ad ca b (TRd_set_top (TRd_set_rows r (upd (TRd_rows r) ((TRd_top r) + 1).toNatClampNeg p0)) ((TRd_top r) + 1))) H := hP
      have hD : va_D A (w_D ad ca b (TRd_set_top (TRd_set_rows r (upd (TRd_rows r) ((TRd_top r) + 1).toNatClampNeg p0)) ((TRd_top r) + 1))) := hD
      refine lv_aload_n hx hb d_Rd_goOnWith_42 rfl (lv_at hl 0 rfl) ?_
      refine va_get (D := (dC, dI)) (ci := 1) (v := .ref (ad 7)) (C := R_Rd) (T := T_Rd) (N := 6) hx hb ht i_Rd hown hK hP 0 rfl rfl 2 (by decide) (ht _ q_108) (fun _ h9 => h9) rfl d_Rd_goOnWith_43 ?_
      refine lv_aload_n hx hb d_Rd_goOnWith_46 rfl (lv_at hl 0 rfl) ?_
      refine va_get (D := (dC, dI)) (ci := 1) (v := .int ((TRd_top r) + 1)) (C := R_Rd) (T := T_Rd) (N := 6) hx hb ht i_Rd hown hK hP 0 rfl rfl 3 (by decide) (ht _ q_109) (fun _ h9 => h9) rfl d_Rd_goOnWith_47 ?_
      refine lv_iconst (v := 0) hx hb d_Rd_goOnWith_50 (by decide) ?_
      refine va_iast hx hb hK hP hD hS 2 1 rfl rfl (in_top1 c_1 c_2) d_Rd_goOnWith_51 (fun H locs hP hD hS => ?_)
      have hP : va_P (dC, dI) vwCl (w_D ad ca b (TRd_set_top (TRd_set_places (TRd_set_rows r (upd (TRd_rows r) ((TRd_top r) + 1).toNatClampNeg p0)) (upd (TRd_places r) ((TRd_top r) + 1).toNatClampNeg 0)) ((TRd_top r) + 1))) H := hP
      have hD : va_D A (w_D ad ca b (TRd_set_top (TRd_set_places (TRd_set_rows r (upd (TRd_rows r) ((TRd_top r) + 1).toNatClampNeg p0)) (upd (TRd_places r) ((TRd_top r) + 1).toNatClampNeg 0)) ((TRd_top r) + 1))) := hD
      exact W.vret hx hb hr (fun t ht hW => ⟨⟨(TRd_set_top (TRd_set_places (TRd_set_rows r (upd (TRd_rows r) ((TRd_top r) + 1).toNatClampNeg p0)) (upd (TRd_places r) ((TRd_top r) + 1).toNatClampNeg 0)) ((TRd_top r) + 1)), rfl, he.symm, by rw [ht]; exact hP, va_K.moved hW.alike hK, hD⟩, hS.F ht⟩) hS.2.2 d_Rd_goOnWith_52
def f_Rd_restart (b : TBk) (r : TRd) : TRd := (let v_1 := f_Rd_goOnWith b (TRd_set_steps (TRd_set_kept (TRd_set_top r (-1)) (-1)) 0) 20; v_1)
set_option maxHeartbeats 4000000 in
set_option maxRecDepth 100000 in
theorem c_Rd_restart (l : Launch) (dC : Nat → ClassId) (dI : Nat → Nat → Nat) (ad : Nat → Nat) (ca : Nat → ClassId) (sz : Nat) (b : TBk) (r : TRd) (F : TRd) (he : F = f_Rd_restart b r) : wx_Mv l y_Rd_restart ws_Rd_restart ({ frames := 1, cells := 0, slots := 0, locals := 21 } : Room) (dC, dI) vwCl (t_D ca) [.ref (ad 5)] (w_D ad ca b r) sz (fun v : TRd => w_D ad ca b v) (fun v : TRd => v = F) := by
  refine Met.ofW (cc := b_Rd_restart) (maxL := 1) (ret := none) (by decide) rfl ?_
  intro p e s m args below meth c s₁ B hml hv
  obtain ⟨rfl, hsz, hP, hK, hD0, hN⟩ := hv
  have hx := B.exec
  have hb := B.bytes
  have hr := B.returns
  have hts := atoms_spec (ws := ws_Rd_restart) B.pre
  have ht : ∀ w ∈ TB, w.before _ s = true := fun w h => hts w (List.mem_cons_of_mem _ h)
  have hown : s.vm.findClass R_Rd = some m.cls := findClass_of_methodNamed B.named
  have hlocks := B.notSynchronized
  subst hsz
  have hD := hD0.self (sz := s.heap.size)
  generalize hAe : va_A (w_D ad ca b r) s.heap.size = A at hD ⊢
  have hA : ∀ q : Nat, s.heap.size ≤ q → A q := fun q h => by rw [← hAe]; exact Or.inr h
  have hS : va_S A s.heap s.heap [] := va_S.rf
  have hl := lv_entry ([.ref (ad 5)]) (n := 1) (Nat.le_of_ble_eq_true rfl)
  rw [lg_entry_eq]
  generalize (lg_sl ([.ref (ad 5)]) ++ List.replicate (1 - (lg_sl ([.ref (ad 5)])).length) Slot.unset).toArray = ls at hl ⊢
  have hl : lv_has ls 1 [(0, .ref (ad 5))] := hl
  unfold f_Rd_restart at he
  refine lv_aload_n hx hb d_Rd_restart_0 rfl (lv_at hl 0 rfl) ?_
  refine lv_iconst (v := (-1)) hx hb d_Rd_restart_1 (by decide) ?_
  refine va_put (D := (dC, dI)) (ci := 1) (v := .int (-1)) (ty := .int) (C := R_Rd) (T := T_Rd) (N := 6) hx hb ht i_Rd ty_Rd ty_Rd_ok nm_Rd hown hK hP hD hS 0 rfl rfl 3 (by decide) (ht _ q_109) (fun _ h9 => h9) rfl (by decide +kernel) rfl rfl (Nat.le_of_ble_eq_true rfl) d_Rd_restart_2 (fun H locs hP hD hS => ?_)
  have hP : va_P (dC, dI) vwCl (w_D ad ca b (TRd_set_top r (-1))) H := hP
  have hD : va_D A (w_D ad ca b (TRd_set_top r (-1))) := hD
  refine lv_aload_n hx hb d_Rd_restart_5 rfl (lv_at hl 0 rfl) ?_
  refine lv_iconst (v := (-1)) hx hb d_Rd_restart_6 (by decide) ?_
  refine va_put (D := (dC, dI)) (ci := 1) (v := .int (-1)) (ty := .int) (C := R_Rd) (T := T_Rd) (N := 6) hx hb ht i_Rd ty_Rd ty_Rd_ok nm_Rd hown hK hP hD hS 0 rfl rfl 4 (by decide) (ht _ q_110) (fun _ h9 => h9) rfl (by decide +kernel) rfl rfl (Nat.le_of_ble_eq_true rfl) d_Rd_restart_7 (fun H locs hP hD hS => ?_)
  have hP : va_P (dC, dI) vwCl (w_D ad ca b (TRd_set_kept (TRd_set_top r (-1)) (-1))) H := hP
  have hD : va_D A (w_D ad ca b (TRd_set_kept (TRd_set_top r (-1)) (-1))) := hD
  refine lv_aload_n hx hb d_Rd_restart_10 rfl (lv_at hl 0 rfl) ?_
  refine lv_iconst (v := 0) hx hb d_Rd_restart_11 (by decide) ?_
  refine va_put (D := (dC, dI)) (ci := 1) (v := .int 0) (ty := .int) (C := R_Rd) (T := T_Rd) (N := 6) hx hb ht i_Rd ty_Rd ty_Rd_ok nm_Rd hown hK hP hD hS 0 rfl rfl 5 (by decide) (ht _ q_111) (fun _ h9 => h9) rfl (by decide +kernel) rfl rfl (Nat.le_of_ble_eq_true rfl) d_Rd_restart_12 (fun H locs hP hD hS => ?_)
  have hP : va_P (dC, dI) vwCl (w_D ad ca b (TRd_set_steps (TRd_set_kept (TRd_set_top r (-1)) (-1)) 0)) H := hP
  have hD : va_D A (w_D ad ca b (TRd_set_steps (TRd_set_kept (TRd_set_top r (-1)) (-1)) 0)) := hD
  refine lv_aload_n hx hb d_Rd_restart_15 rfl (lv_at hl 0 rfl) ?_
  refine lv_bipush (v := 20) hx hb d_Rd_restart_16 (by decide) ?_
  refine wx_cv (wS := fun v : TRd => w_D ad ca b v) (ws2 := fun v : TRd => w_D ad ca b v) (va_runV (As := [.int 20]) (rest := []) ⟨hx, hb, hml, hown, ht⟩ (c_Rd_goOnWith l dC dI ad ca H.size b (TRd_set_steps (TRd_set_kept (TRd_set_top r (-1)) (-1)) 0) 20 _ rfl) (cwV 1 ht (tb_V q_253 q_254 q_255 q_47 q_256) rfl rfl rfl p_Rd_goOnWith ⟨show 0 + 1 ≤ 1 by omega, show 8 + (2 + 11) + 0 ≤ 21 by omega⟩) (wx_preV (wc := (w_D ad ca b (TRd_set_steps (TRd_set_kept (TRd_set_top r (-1)) (-1)) 0))) hN hK hP hD [0, 1, 2, 3, 4, 5, 6, 7, 8, 9] [0, 1, 2, 3, 4, 5, 6, 7] rfl (by decide) rfl (ci := 1) (q0 := 0) rfl rfl) rfl rfl hl.1 rfl (lv_room (Nat.le_of_ble_eq_true rfl)) d_Rd_restart_18 ⟨Nat.zero_le _, Nat.zero_le _⟩) hP hD hS hA [0, 1, 2, 3, 4, 5, 6, 7, 8, 9] [] [0, 1, 2, 3, 4, 5, 6, 7, 8, 9] rfl rfl (by decide) (by decide) (by decide) (fun _ => rfl) (fun v_1 H locs hw hP hD hS => ?_)
  have hP : va_P (dC, dI) vwCl (w_D ad ca b v_1) H := hP
  have hD : va_D A (w_D ad ca b v_1) := hD
  rw [← hw] at he
  try dsimp only at he
  exact W.vret hx hb hr (fun t ht hW => ⟨⟨v_1, rfl, he.symm, by rw [ht]; exact hP, va_K.moved hW.alike hK, hD⟩, hS.F ht⟩) hS.2.2 d_Rd_restart_21
def f_Rd_keep (b : TBk) (r : TRd) (p0 : Int32) : TRd := (TRd_set_kept r p0)
set_option maxHeartbeats 4000000 in
set_option maxRecDepth 100000 in
theorem c_Rd_keep (l : Launch) (dC : Nat → ClassId) (dI : Nat → Nat → Nat) (ad : Nat → Nat) (ca : Nat → ClassId) (sz : Nat) (b : TBk) (r : TRd) (p0 : Int32) (F : TRd) (he : F = f_Rd_keep b r p0) : wx_Mv l y_Rd_keep ws_Rd_keep ({ frames := 0, cells := 0, slots := 0, locals := 0 } : Room) (dC, dI) vwCl (t_D ca) [.ref (ad 5), .int p0] (w_D ad ca b r) sz (fun v : TRd => w_D ad ca b v) (fun v : TRd => v = F) := by
  refine Met.ofW (cc := b_Rd_keep) (maxL := 2) (ret := none) (by decide) rfl ?_
  intro p e s m args below meth c s₁ B hml hv
  obtain ⟨rfl, hsz, hP, hK, hD0, hN⟩ := hv
  have hx := B.exec
  have hb := B.bytes
  have hr := B.returns
  have hts := atoms_spec (ws := ws_Rd_keep) B.pre
  have ht : ∀ w ∈ TB, w.before _ s = true := fun w h => hts w (List.mem_cons_of_mem _ h)
  have hown : s.vm.findClass R_Rd = some m.cls := findClass_of_methodNamed B.named
  have hlocks := B.notSynchronized
  subst hsz
  have hD := hD0.self (sz := s.heap.size)
  generalize hAe : va_A (w_D ad ca b r) s.heap.size = A at hD ⊢
  have hA : ∀ q : Nat, s.heap.size ≤ q → A q := fun q h => by rw [← hAe]; exact Or.inr h
  have hS : va_S A s.heap s.heap [] := va_S.rf
  have hl := lv_entry ([.ref (ad 5), .int p0]) (n := 2) (Nat.le_of_ble_eq_true rfl)
  rw [lg_entry_eq]
  generalize (lg_sl ([.ref (ad 5), .int p0]) ++ List.replicate (2 - (lg_sl ([.ref (ad 5), .int p0])).length) Slot.unset).toArray = ls at hl ⊢
  have hl : lv_has ls 2 [(0, .ref (ad 5)), (1, .int p0)] := hl
  unfold f_Rd_keep at he
  refine lv_aload_n hx hb d_Rd_keep_0 rfl (lv_at hl 0 rfl) ?_
  refine lv_iload_n hx hb d_Rd_keep_1 rfl (lv_at hl 1 rfl) ?_
  refine va_put (D := (dC, dI)) (ci := 1) (v := .int p0) (ty := .int) (C := R_Rd) (T := T_Rd) (N := 6) hx hb ht i_Rd ty_Rd ty_Rd_ok nm_Rd hown hK hP hD hS 0 rfl rfl 4 (by decide) (ht _ q_110) (fun _ h9 => h9) rfl (by decide +kernel) rfl rfl (Nat.le_of_ble_eq_true rfl) d_Rd_keep_2 (fun H locs hP hD hS => ?_)
  have hP : va_P (dC, dI) vwCl (w_D ad ca b (TRd_set_kept r p0)) H := hP
  have hD : va_D A (w_D ad ca b (TRd_set_kept r p0)) := hD
  exact W.vret hx hb hr (fun t ht hW => ⟨⟨(TRd_set_kept r p0), rfl, he.symm, by rw [ht]; exact hP, va_K.moved hW.alike hK, hD⟩, hS.F ht⟩) hS.2.2 d_Rd_keep_5
def f_Rd_stepsMade (b : TBk) (r : TRd) : Int32 := (TRd_steps r)
set_option maxHeartbeats 4000000 in
set_option maxRecDepth 100000 in
theorem c_Rd_stepsMade (l : Launch) (dC : Nat → ClassId) (dI : Nat → Nat → Nat) (ad : Nat → Nat) (ca : Nat → ClassId) (sz : Nat) (b : TBk) (r : TRd) (F : Int32) (he : F = f_Rd_stepsMade b r) : wx_Mi l y_Rd_stepsMade ws_Rd_stepsMade ({ frames := 0, cells := 0, slots := 0, locals := 0 } : Room) (dC, dI) vwCl (t_D ca) [.ref (ad 5)] (w_D ad ca b r) sz (fun _ : Unit => w_D ad ca b r) (fun (r : Int32) (_ : Unit) => r = F) := by
  refine Met.ofW (cc := b_Rd_stepsMade) (maxL := 1) (ret := some .int) (by decide) rfl ?_
  intro p e s m args below meth c s₁ B hml hv
  obtain ⟨rfl, hsz, hP, hK, hD0, hN⟩ := hv
  have hx := B.exec
  have hb := B.bytes
  have hr := B.returns
  have hts := atoms_spec (ws := ws_Rd_stepsMade) B.pre
  have ht : ∀ w ∈ TB, w.before _ s = true := fun w h => hts w (List.mem_cons_of_mem _ h)
  have hown : s.vm.findClass R_Rd = some m.cls := findClass_of_methodNamed B.named
  have hlocks := B.notSynchronized
  subst hsz
  have hD := hD0.self (sz := s.heap.size)
  generalize hAe : va_A (w_D ad ca b r) s.heap.size = A at hD ⊢
  have hA : ∀ q : Nat, s.heap.size ≤ q → A q := fun q h => by rw [← hAe]; exact Or.inr h
  have hS : va_S A s.heap s.heap [] := va_S.rf
  have hl := lv_entry ([.ref (ad 5)]) (n := 1) (Nat.le_of_ble_eq_true rfl)
  rw [lg_entry_eq]
  generalize (lg_sl ([.ref (ad 5)]) ++ List.replicate (1 - (lg_sl ([.ref (ad 5)])).length) Slot.unset).toArray = ls at hl ⊢
  have hl : lv_has ls 1 [(0, .ref (ad 5))] := hl
  unfold f_Rd_stepsMade at he
  refine lv_aload_n hx hb d_Rd_stepsMade_0 rfl (lv_at hl 0 rfl) ?_
  refine va_get (D := (dC, dI)) (ci := 1) (v := .int (TRd_steps r)) (C := R_Rd) (T := T_Rd) (N := 6) hx hb ht i_Rd hown hK hP 0 rfl rfl 5 (by decide) (ht _ q_111) (fun _ h9 => h9) rfl d_Rd_stepsMade_1 ?_
  exact W.iret hx hb hr (v := (TRd_steps r)) (fun t ht hW => ⟨⟨(TRd_steps r), (), rfl, he.symm, by rw [ht]; exact hP, va_K.moved hW.alike hK, hD⟩, hS.F ht⟩) hS.2.2 d_Rd_stepsMade_4
def f_Rd_leaveRowsThatEnded_0 : Nat → TBk → TRd → TRd
  | 0, _, r => r
  | n + 1, b, r => (if (TRd_top r) < 0 then r else (if 5001 ≤ (TRd_top r) then r else (if ((TRd_places r) (TRd_top r).toNatClampNeg) < (f_Bk_sizeOf b ((TRd_rows r) (TRd_top r).toNatClampNeg)) then r else (f_Rd_leaveRowsThatEnded_0 n b (TRd_set_top r ((TRd_top r) - 1))))))
set_option maxHeartbeats 4000000 in
set_option maxRecDepth 100000 in
theorem k_Rd_leaveRowsThatEnded_0 {p : Program} {e : Env} {s : State} {m : MethodId} {args : Array Value} {below : List Frame} {meth : Method} {c : Code} {A : Nat → Prop} (l : Launch) (dC : Nat → ClassId) (dI : Nat → Nat → Nat) (ad : Nat → Nat) (ca : Nat → ClassId) (C0 : wx_C p s m args meth c b_Rd_leaveRowsThatEnded (none) 1 R_Rd A (dC, dI) vwCl (t_D ca)) (F : TRd) : ∀ (n : Nat) (b : TBk) (r : TRd), (LvF (TRd_top r) n) → F = f_Rd_leaveRowsThatEnded_0 n b r → ∀ (H : Heap) (locs : List Loc), va_P (dC, dI) vwCl (w_D ad ca b r) H → va_D A (w_D ad ca b r) → va_S A s.heap H locs → ∀ (ls : Array Slot), lv_has ls 1 [(0, .ref (ad 5))] → W p l e ({ frames := 1, cells := 0, slots := 0, locals := 21 } : Room) s m args below meth c H locs 0 0 (MQ below (va_Qv (fun v : TRd => v = F) (wx_B (dC, dI) vwCl (t_D ca) (fun v : TRd => w_D ad ca b v) A) A) args s 0 0 A) (F0 m 0 ls []) := by
  have C1 := C0
  obtain ⟨hx, hb, hr, hml, hown, ht, hlocks, hA, hK, hN⟩ := C1
  intro n
  induction n with
  | zero =>
    intro b r hc he
    exact absurd hc (fun h => LvF_0 h)
  | succ n ih =>
    intro b r hc he H locs hP hD hS ls hl
    rw [f_Rd_leaveRowsThatEnded_0] at he
    refine lv_aload_n hx hb d_Rd_leaveRowsThatEnded_0 rfl (lv_at hl 0 rfl) ?_
    refine va_get (D := (dC, dI)) (ci := 1) (v := .int (TRd_top r)) (C := R_Rd) (T := T_Rd) (N := 6) hx hb ht i_Rd hown hK hP 0 rfl rfl 3 (by decide) (ht _ q_109) (fun _ h9 => h9) rfl d_Rd_leaveRowsThatEnded_1 ?_
    refine lv_if_lt (tgt := 60) hx hb d_Rd_leaveRowsThatEnded_4 (by decide) (fun c_1 => ?_) (fun c_1 => ?_)
    · have he := he.trans (if_pos c_1)
      exact W.vret hx hb hr (fun t ht hW => ⟨⟨r, rfl, he.symm, by rw [ht]; exact hP, va_K.moved hW.alike hK, hD⟩, hS.F ht⟩) hS.2.2 d_Rd_leaveRowsThatEnded_60
    · have he := he.trans (if_neg c_1)
      refine lv_aload_n hx hb d_Rd_leaveRowsThatEnded_7 rfl (lv_at hl 0 rfl) ?_
      refine va_get (D := (dC, dI)) (ci := 1) (v := .int (TRd_top r)) (C := R_Rd) (T := T_Rd) (N := 6) hx hb ht i_Rd hown hK hP 0 rfl rfl 3 (by decide) (ht _ q_109) (fun _ h9 => h9) rfl d_Rd_leaveRowsThatEnded_8 ?_
      refine lv_aload_n hx hb d_Rd_leaveRowsThatEnded_11 rfl (lv_at hl 0 rfl) ?_
      refine va_get (D := (dC, dI)) (ci := 1) (v := .ref (ad 6)) (C := R_Rd) (T := T_Rd) (N := 6) hx hb ht i_Rd hown hK hP 0 rfl rfl 1 (by decide) (ht _ q_107) (fun _ h9 => h9) rfl d_Rd_leaveRowsThatEnded_12 ?_
      refine va_alen hx hb hK hP 1 0 rfl rfl (v := 5001) rfl d_Rd_leaveRowsThatEnded_15 ?_
      refine lv_icmp_ge (tgt := 60) hx hb d_Rd_leaveRowsThatEnded_16 (by decide) (fun c_2 => ?_) (fun c_2 => ?_)
      · have he := he.trans (if_pos c_2)
        exact W.vret hx hb hr (fun t ht hW => ⟨⟨r, rfl, he.symm, by rw [ht]; exact hP, va_K.moved hW.alike hK, hD⟩, hS.F ht⟩) hS.2.2 d_Rd_leaveRowsThatEnded_60
      · have he := he.trans (if_neg c_2)
        refine lv_aload_n hx hb d_Rd_leaveRowsThatEnded_19 rfl (lv_at hl 0 rfl) ?_
        refine va_get (D := (dC, dI)) (ci := 1) (v := .ref (ad 7)) (C := R_Rd) (T := T_Rd) (N := 6) hx hb ht i_Rd hown hK hP 0 rfl rfl 2 (by decide) (ht _ q_108) (fun _ h9 => h9) rfl d_Rd_leaveRowsThatEnded_20 ?_
        refine lv_aload_n hx hb d_Rd_leaveRowsThatEnded_23 rfl (lv_at hl 0 rfl) ?_
        refine va_get (D := (dC, dI)) (ci := 1) (v := .int (TRd_top r)) (C := R_Rd) (T := T_Rd) (N := 6) hx hb ht i_Rd hown hK hP 0 rfl rfl 3 (by decide) (ht _ q_109) (fun _ h9 => h9) rfl d_Rd_leaveRowsThatEnded_24 ?_
        refine va_iald hx hb hK hP 2 1 rfl rfl (wx_inAU (by decide) c_1 c_2) d_Rd_leaveRowsThatEnded_27 ?_
        refine lv_aload_n hx hb d_Rd_leaveRowsThatEnded_28 rfl (lv_at hl 0 rfl) ?_
        refine va_get (D := (dC, dI)) (ci := 1) (v := .ref (ad 8)) (C := R_Rd) (T := T_Rd) (N := 6) hx hb ht i_Rd hown hK hP 0 rfl rfl 0 (by decide) (ht _ q_106) (fun _ h9 => h9) rfl d_Rd_leaveRowsThatEnded_29 ?_
        refine lv_aload_n hx hb d_Rd_leaveRowsThatEnded_32 rfl (lv_at hl 0 rfl) ?_
        refine va_get (D := (dC, dI)) (ci := 1) (v := .ref (ad 6)) (C := R_Rd) (T := T_Rd) (N := 6) hx hb ht i_Rd hown hK hP 0 rfl rfl 1 (by decide) (ht _ q_107) (fun _ h9 => h9) rfl d_Rd_leaveRowsThatEnded_33 ?_
        refine lv_aload_n hx hb d_Rd_leaveRowsThatEnded_36 rfl (lv_at hl 0 rfl) ?_
        refine va_get (D := (dC, dI)) (ci := 1) (v := .int (TRd_top r)) (C := R_Rd) (T := T_Rd) (N := 6) hx hb ht i_Rd hown hK hP 0 rfl rfl 3 (by decide) (ht _ q_109) (fun _ h9 => h9) rfl d_Rd_leaveRowsThatEnded_37 ?_
        refine va_iald hx hb hK hP 1 0 rfl rfl (wx_inAU (by decide) c_1 c_2) d_Rd_leaveRowsThatEnded_40 ?_
        refine wx_ci (wS := fun _ : Unit => w_B ad ca b) (ws2 := fun _ : Unit => w_D ad ca b r) (va_runV (As := [.int ((TRd_rows r) (TRd_top r).toNatClampNeg)]) (rest := [.int ((TRd_places r) (TRd_top r).toNatClampNeg)]) ⟨hx, hb, hml, hown, ht⟩ (c_Bk_sizeOf l dC dI ad ca H.size b ((TRd_rows r) (TRd_top r).toNatClampNeg) _ rfl) (cwV 1 ht (tb_V q_266 q_219 q_220 q_45 q_221) rfl rfl rfl p_Bk_sizeOf ⟨show 0 + 1 ≤ 1 by omega, show 8 + (2 + 11) + 0 ≤ 21 by omega⟩) (wx_preV (wc := (w_B ad ca b)) hN hK hP hD [3, 4, 5, 6, 7, 8, 9] [2, 3, 4, 5, 6, 7] rfl (by decide) rfl (ci := 0) (q0 := 0) rfl rfl) rfl rfl hl.1 rfl (lv_room (Nat.le_of_ble_eq_true rfl)) d_Rd_leaveRowsThatEnded_41 ⟨Nat.zero_le _, Nat.zero_le _⟩) hP hD hS hA [3, 4, 5, 6, 7, 8, 9] [0, 1, 2] [0, 1, 2, 3, 4, 5, 6, 7, 8, 9] rfl rfl (by decide) (by decide) (by decide) (fun _ => rfl) (fun r_3 _ H locs hw hP hD hS => ?_)
        subst hw
        have hP : va_P (dC, dI) vwCl (w_D ad ca b r) H := hP
        have hD : va_D A (w_D ad ca b r) := hD
        refine lv_icmp_lt (tgt := 60) hx hb d_Rd_leaveRowsThatEnded_44 (by decide) (fun c_4 => ?_) (fun c_4 => ?_)
        · have he := he.trans (if_pos c_4)
          exact W.vret hx hb hr (fun t ht hW => ⟨⟨r, rfl, he.symm, by rw [ht]; exact hP, va_K.moved hW.alike hK, hD⟩, hS.F ht⟩) hS.2.2 d_Rd_leaveRowsThatEnded_60
        · have he := he.trans (if_neg c_4)
          refine lv_aload_n hx hb d_Rd_leaveRowsThatEnded_47 rfl (lv_at hl 0 rfl) ?_
          refine lv_dup hx hb d_Rd_leaveRowsThatEnded_48 rfl ?_
          refine va_get (D := (dC, dI)) (ci := 1) (v := .int (TRd_top r)) (C := R_Rd) (T := T_Rd) (N := 6) hx hb ht i_Rd hown hK hP 0 rfl rfl 3 (by decide) (ht _ q_109) (fun _ h9 => h9) rfl d_Rd_leaveRowsThatEnded_49 ?_
          refine lv_iconst (v := 1) hx hb d_Rd_leaveRowsThatEnded_52 (by decide) ?_
          refine lv_isub hx hb d_Rd_leaveRowsThatEnded_53 ?_
          refine va_put (D := (dC, dI)) (ci := 1) (v := .int ((TRd_top r) - 1)) (ty := .int) (C := R_Rd) (T := T_Rd) (N := 6) hx hb ht i_Rd ty_Rd ty_Rd_ok nm_Rd hown hK hP hD hS 0 rfl rfl 3 (by decide) (ht _ q_109) (fun _ h9 => h9) rfl (by decide +kernel) rfl rfl (Nat.le_of_ble_eq_true rfl) d_Rd_leaveRowsThatEnded_54 (fun H locs hP hD hS => ?_)
          have hP : va_P (dC, dI) vwCl (w_D ad ca b (TRd_set_top r ((TRd_top r) - 1))) H := hP
          have hD : va_D A (w_D ad ca b (TRd_set_top r ((TRd_top r) - 1))) := hD
          refine lv_goto (tgt := 0) hx hb d_Rd_leaveRowsThatEnded_57 (by decide) ?_
          exact ih b (TRd_set_top r ((TRd_top r) - 1)) (LvF_s hc c_1) he _ _ hP hD hS _ (lv_sub hl [0] rfl)
def f_Rd_leaveRowsThatEnded (b : TBk) (r : TRd) : TRd := (f_Rd_leaveRowsThatEnded_0 (((TRd_top r).toInt + 2).toNat + 1) b r)
set_option maxHeartbeats 4000000 in
set_option maxRecDepth 100000 in
theorem c_Rd_leaveRowsThatEnded (l : Launch) (dC : Nat → ClassId) (dI : Nat → Nat → Nat) (ad : Nat → Nat) (ca : Nat → ClassId) (sz : Nat) (b : TBk) (r : TRd) (F : TRd) (he : F = f_Rd_leaveRowsThatEnded b r) : wx_Mv l y_Rd_leaveRowsThatEnded ws_Rd_leaveRowsThatEnded ({ frames := 1, cells := 0, slots := 0, locals := 21 } : Room) (dC, dI) vwCl (t_D ca) [.ref (ad 5)] (w_D ad ca b r) sz (fun v : TRd => w_D ad ca b v) (fun v : TRd => v = F) := by
  refine Met.ofW (cc := b_Rd_leaveRowsThatEnded) (maxL := 1) (ret := none) (by decide) rfl ?_
  intro p e s m args below meth c s₁ B hml hv
  obtain ⟨rfl, hsz, hP, hK, hD0, hN⟩ := hv
  have hx := B.exec
  have hb := B.bytes
  have hr := B.returns
  have hts := atoms_spec (ws := ws_Rd_leaveRowsThatEnded) B.pre
  have ht : ∀ w ∈ TB, w.before _ s = true := fun w h => hts w (List.mem_cons_of_mem _ h)
  have hown : s.vm.findClass R_Rd = some m.cls := findClass_of_methodNamed B.named
  have hlocks := B.notSynchronized
  subst hsz
  have hD := hD0.self (sz := s.heap.size)
  generalize hAe : va_A (w_D ad ca b r) s.heap.size = A at hD ⊢
  have hA : ∀ q : Nat, s.heap.size ≤ q → A q := fun q h => by rw [← hAe]; exact Or.inr h
  have hS : va_S A s.heap s.heap [] := va_S.rf
  have C0 : wx_C p s m ([.ref (ad 5)] : List Value).toArray meth c b_Rd_leaveRowsThatEnded (none) 1 R_Rd A (dC, dI) vwCl (t_D ca) := ⟨hx, hb, hr, hml, hown, ht, hlocks, hA, hK, hN⟩
  have hl := lv_entry ([.ref (ad 5)]) (n := 1) (Nat.le_of_ble_eq_true rfl)
  rw [lg_entry_eq]
  generalize (lg_sl ([.ref (ad 5)]) ++ List.replicate (1 - (lg_sl ([.ref (ad 5)])).length) Slot.unset).toArray = ls at hl ⊢
  have hl : lv_has ls 1 [(0, .ref (ad 5))] := hl
  unfold f_Rd_leaveRowsThatEnded at he
  exact k_Rd_leaveRowsThatEnded_0 l dC dI ad ca C0 F (((TRd_top r).toInt + 2).toNat + 1) b r (LvF_i _) he _ _ hP hD hS _ (lv_sub hl [0] rfl)
def f_Rd_look (b : TBk) (r : TRd) : (Int32 × TRd) := (if (TRd_kept r) = (-1) then (let v_2 := f_Rd_leaveRowsThatEnded b r; (if (TRd_top v_2) < 0 then ((-1), v_2) else (if (TRd_top v_2) < 5001 then (if (TRd_steps v_2) < 5000 then ((f_Bk_tokenIn b ((TRd_rows v_2) (TRd_top v_2).toNatClampNeg) (((upd (TRd_places v_2) (TRd_top v_2).toNatClampNeg (((TRd_places v_2) (TRd_top v_2).toNatClampNeg) + 1)) (TRd_top v_2).toNatClampNeg) - 1)), (TRd_set_steps (TRd_set_places v_2 (upd (TRd_places v_2) (TRd_top v_2).toNatClampNeg (((TRd_places v_2) (TRd_top v_2).toNatClampNeg) + 1))) ((TRd_steps v_2) + 1))) else ((-2), v_2)) else ((-1), v_2)))) else ((TRd_kept r), (TRd_set_kept r (-1))))
set_option maxHeartbeats 4000000 in
set_option maxRecDepth 100000 in
theorem c_Rd_look (l : Launch) (dC : Nat → ClassId) (dI : Nat → Nat → Nat) (ad : Nat → Nat) (ca : Nat → ClassId) (sz : Nat) (b : TBk) (r : TRd) (hpre : BkS b) (F : (Int32 × TRd)) (he : F = f_Rd_look b r) : wx_Mi l y_Rd_look ws_Rd_look ({ frames := 2, cells := 0, slots := 0, locals := 44 } : Room) (dC, dI) vwCl (t_D ca) [.ref (ad 5)] (w_D ad ca b r) sz (fun v : TRd => w_D ad ca b v) (fun (r : Int32) (v : TRd) => (r, v) = F) := by
  refine Met.ofW (cc := b_Rd_look) (maxL := 2) (ret := some .int) (by decide) rfl ?_
  intro p e s m args below meth c s₁ B hml hv
  obtain ⟨rfl, hsz, hP, hK, hD0, hN⟩ := hv
  have hx := B.exec
  have hb := B.bytes
  have hr := B.returns
  have hts := atoms_spec (ws := ws_Rd_look) B.pre
  have ht : ∀ w ∈ TB, w.before _ s = true := fun w h => hts w (List.mem_cons_of_mem _ h)
  have hown : s.vm.findClass R_Rd = some m.cls := findClass_of_methodNamed B.named
  have hlocks := B.notSynchronized
  subst hsz
  have hD := hD0.self (sz := s.heap.size)
  generalize hAe : va_A (w_D ad ca b r) s.heap.size = A at hD ⊢
  have hA : ∀ q : Nat, s.heap.size ≤ q → A q := fun q h => by rw [← hAe]; exact Or.inr h
  have hS : va_S A s.heap s.heap [] := va_S.rf
  have hl := lv_entry ([.ref (ad 5)]) (n := 2) (Nat.le_of_ble_eq_true rfl)
  rw [lg_entry_eq]
  generalize (lg_sl ([.ref (ad 5)]) ++ List.replicate (2 - (lg_sl ([.ref (ad 5)])).length) Slot.unset).toArray = ls at hl ⊢
  have hl : lv_has ls 2 [(0, .ref (ad 5))] := hl
  unfold f_Rd_look at he
  refine lv_aload_n hx hb d_Rd_look_0 rfl (lv_at hl 0 rfl) ?_
  refine va_get (D := (dC, dI)) (ci := 1) (v := .int (TRd_kept r)) (C := R_Rd) (T := T_Rd) (N := 6) hx hb ht i_Rd hown hK hP 0 rfl rfl 4 (by decide) (ht _ q_110) (fun _ h9 => h9) rfl d_Rd_look_1 ?_
  refine lv_iconst (v := (-1)) hx hb d_Rd_look_4 (by decide) ?_
  refine lv_icmp_eq (tgt := 20) hx hb d_Rd_look_5 (by decide) (fun c_1 => ?_) (fun c_1 => ?_)
  · have he := he.trans (if_pos c_1)
    refine lv_aload_n hx hb d_Rd_look_20 rfl (lv_at hl 0 rfl) ?_
    refine wx_cv (wS := fun v : TRd => w_D ad ca b v) (ws2 := fun v : TRd => w_D ad ca b v) (va_runV (As := []) (rest := []) ⟨hx, hb, hml, hown, ht⟩ (c_Rd_leaveRowsThatEnded l dC dI ad ca s.heap.size b r _ rfl) (cwV 0 ht (tb_V q_262 q_264 q_1 q_47 q_265) rfl rfl rfl p_Rd_leaveRowsThatEnded ⟨show 1 + 1 ≤ 2 by omega, show 8 + (1 + 11) + 21 ≤ 44 by omega⟩) (wx_preV (wc := (w_D ad ca b r)) hN hK hP hD [0, 1, 2, 3, 4, 5, 6, 7, 8, 9] [0, 1, 2, 3, 4, 5, 6, 7] rfl (by decide) rfl (ci := 1) (q0 := 0) rfl rfl) rfl rfl hl.1 rfl (lv_room (Nat.le_of_ble_eq_true rfl)) d_Rd_look_21 ⟨Nat.zero_le _, Nat.zero_le _⟩) hP hD hS hA [0, 1, 2, 3, 4, 5, 6, 7, 8, 9] [] [0, 1, 2, 3, 4, 5, 6, 7, 8, 9] rfl rfl (by decide) (by decide) (by decide) (fun _ => rfl) (fun v_2 H locs hw hP hD hS => ?_)
    have hP : va_P (dC, dI) vwCl (w_D ad ca b v_2) H := hP
    have hD : va_D A (w_D ad ca b v_2) := hD
    rw [← hw] at he
    try dsimp only at he
    refine lv_aload_n hx hb d_Rd_look_24 rfl (lv_at hl 0 rfl) ?_
    refine va_get (D := (dC, dI)) (ci := 1) (v := .int (TRd_top v_2)) (C := R_Rd) (T := T_Rd) (N := 6) hx hb ht i_Rd hown hK hP 0 rfl rfl 3 (by decide) (ht _ q_109) (fun _ h9 => h9) rfl d_Rd_look_25 ?_
    refine lv_if_lt (tgt := 43) hx hb d_Rd_look_28 (by decide) (fun c_3 => ?_) (fun c_3 => ?_)
    · have he := he.trans (if_pos c_3)
      refine lv_iconst (v := (-1)) hx hb d_Rd_look_43 (by decide) ?_
      exact W.iret hx hb hr (v := (-1)) (fun t ht hW => ⟨⟨(-1), v_2, rfl, he.symm, by rw [ht]; exact hP, va_K.moved hW.alike hK, hD⟩, hS.F ht⟩) hS.2.2 d_Rd_look_44
    · have he := he.trans (if_neg c_3)
      refine lv_aload_n hx hb d_Rd_look_31 rfl (lv_at hl 0 rfl) ?_
      refine va_get (D := (dC, dI)) (ci := 1) (v := .int (TRd_top v_2)) (C := R_Rd) (T := T_Rd) (N := 6) hx hb ht i_Rd hown hK hP 0 rfl rfl 3 (by decide) (ht _ q_109) (fun _ h9 => h9) rfl d_Rd_look_32 ?_
      refine lv_aload_n hx hb d_Rd_look_35 rfl (lv_at hl 0 rfl) ?_
      refine va_get (D := (dC, dI)) (ci := 1) (v := .ref (ad 6)) (C := R_Rd) (T := T_Rd) (N := 6) hx hb ht i_Rd hown hK hP 0 rfl rfl 1 (by decide) (ht _ q_107) (fun _ h9 => h9) rfl d_Rd_look_36 ?_
      refine va_alen hx hb hK hP 1 0 rfl rfl (v := 5001) rfl d_Rd_look_39 ?_
      refine lv_icmp_lt (tgt := 45) hx hb d_Rd_look_40 (by decide) (fun c_4 => ?_) (fun c_4 => ?_)
      · have he := he.trans (if_pos c_4)
        refine lv_aload_n hx hb d_Rd_look_45 rfl (lv_at hl 0 rfl) ?_
        refine va_get (D := (dC, dI)) (ci := 1) (v := .int (TRd_steps v_2)) (C := R_Rd) (T := T_Rd) (N := 6) hx hb ht i_Rd hown hK hP 0 rfl rfl 5 (by decide) (ht _ q_111) (fun _ h9 => h9) rfl d_Rd_look_46 ?_
        refine lv_sipush (v := 5000) hx hb d_Rd_look_49 (by decide) ?_
        refine lv_icmp_lt (tgt := 58) hx hb d_Rd_look_52 (by decide) (fun c_5 => ?_) (fun c_5 => ?_)
        · have he := he.trans (if_pos c_5)
          refine lv_aload_n hx hb d_Rd_look_58 rfl (lv_at hl 0 rfl) ?_
          refine lv_dup hx hb d_Rd_look_59 rfl ?_
          refine va_get (D := (dC, dI)) (ci := 1) (v := .int (TRd_steps v_2)) (C := R_Rd) (T := T_Rd) (N := 6) hx hb ht i_Rd hown hK hP 0 rfl rfl 5 (by decide) (ht _ q_111) (fun _ h9 => h9) rfl d_Rd_look_60 ?_
          refine lv_iconst (v := 1) hx hb d_Rd_look_63 (by decide) ?_
          refine lv_iadd hx hb d_Rd_look_64 ?_
          refine va_put (D := (dC, dI)) (ci := 1) (v := .int ((TRd_steps v_2) + 1)) (ty := .int) (C := R_Rd) (T := T_Rd) (N := 6) hx hb ht i_Rd ty_Rd ty_Rd_ok nm_Rd hown hK hP hD hS 0 rfl rfl 5 (by decide) (ht _ q_111) (fun _ h9 => h9) rfl (by decide +kernel) rfl rfl (Nat.le_of_ble_eq_true rfl) d_Rd_look_65 (fun H locs hP hD hS => ?_)
          have hP : va_P (dC, dI) vwCl (w_D ad ca b (TRd_set_steps v_2 ((TRd_steps v_2) + 1))) H := hP
          have hD : va_D A (w_D ad ca b (TRd_set_steps v_2 ((TRd_steps v_2) + 1))) := hD
          refine lv_aload_n hx hb d_Rd_look_68 rfl (lv_at hl 0 rfl) ?_
          refine va_get (D := (dC, dI)) (ci := 1) (v := .ref (ad 7)) (C := R_Rd) (T := T_Rd) (N := 6) hx hb ht i_Rd hown hK hP 0 rfl rfl 2 (by decide) (ht _ q_108) (fun _ h9 => h9) rfl d_Rd_look_69 ?_
          refine lv_aload_n hx hb d_Rd_look_72 rfl (lv_at hl 0 rfl) ?_
          refine va_get (D := (dC, dI)) (ci := 1) (v := .int (TRd_top v_2)) (C := R_Rd) (T := T_Rd) (N := 6) hx hb ht i_Rd hown hK hP 0 rfl rfl 3 (by decide) (ht _ q_109) (fun _ h9 => h9) rfl d_Rd_look_73 ?_
          refine lv_dup2_11 hx hb d_Rd_look_76 rfl rfl ?_
          refine va_iald hx hb hK hP 2 1 rfl rfl (wx_inAV (by decide) c_3 c_4) d_Rd_look_77 ?_
          refine lv_iconst (v := 1) hx hb d_Rd_look_78 (by decide) ?_
          refine lv_iadd hx hb d_Rd_look_79 ?_
          refine va_iast hx hb hK hP hD hS 2 1 rfl rfl (wx_inAV (by decide) c_3 c_4) d_Rd_look_80 (fun H locs hP hD hS => ?_)
          have hP : va_P (dC, dI) vwCl (w_D ad ca b (TRd_set_steps (TRd_set_places v_2 (upd (TRd_places v_2) (TRd_top v_2).toNatClampNeg (((TRd_places v_2) (TRd_top v_2).toNatClampNeg) + 1))) ((TRd_steps v_2) + 1))) H := hP
          have hD : va_D A (w_D ad ca b (TRd_set_steps (TRd_set_places v_2 (upd (TRd_places v_2) (TRd_top v_2).toNatClampNeg (((TRd_places v_2) (TRd_top v_2).toNatClampNeg) + 1))) ((TRd_steps v_2) + 1))) := hD
          refine lv_aload_n hx hb d_Rd_look_81 rfl (lv_at hl 0 rfl) ?_
          refine va_get (D := (dC, dI)) (ci := 1) (v := .ref (ad 8)) (C := R_Rd) (T := T_Rd) (N := 6) hx hb ht i_Rd hown hK hP 0 rfl rfl 0 (by decide) (ht _ q_106) (fun _ h9 => h9) rfl d_Rd_look_82 ?_
          refine lv_aload_n hx hb d_Rd_look_85 rfl (lv_at hl 0 rfl) ?_
          refine va_get (D := (dC, dI)) (ci := 1) (v := .ref (ad 6)) (C := R_Rd) (T := T_Rd) (N := 6) hx hb ht i_Rd hown hK hP 0 rfl rfl 1 (by decide) (ht _ q_107) (fun _ h9 => h9) rfl d_Rd_look_86 ?_
          refine lv_aload_n hx hb d_Rd_look_89 rfl (lv_at hl 0 rfl) ?_
          refine va_get (D := (dC, dI)) (ci := 1) (v := .int (TRd_top v_2)) (C := R_Rd) (T := T_Rd) (N := 6) hx hb ht i_Rd hown hK hP 0 rfl rfl 3 (by decide) (ht _ q_109) (fun _ h9 => h9) rfl d_Rd_look_90 ?_
          refine va_iald hx hb hK hP 1 0 rfl rfl (wx_inAV (by decide) c_3 c_4) d_Rd_look_93 ?_
          refine lv_aload_n hx hb d_Rd_look_94 rfl (lv_at hl 0 rfl) ?_
          refine va_get (D := (dC, dI)) (ci := 1) (v := .ref (ad 7)) (C := R_Rd) (T := T_Rd) (N := 6) hx hb ht i_Rd hown hK hP 0 rfl rfl 2 (by decide) (ht _ q_108) (fun _ h9 => h9) rfl d_Rd_look_95 ?_
          refine lv_aload_n hx hb d_Rd_look_98 rfl (lv_at hl 0 rfl) ?_
          refine va_get (D := (dC, dI)) (ci := 1) (v := .int (TRd_top v_2)) (C := R_Rd) (T := T_Rd) (N := 6) hx hb ht i_Rd hown hK hP 0 rfl rfl 3 (by decide) (ht _ q_109) (fun _ h9 => h9) rfl d_Rd_look_99 ?_
          refine va_iald hx hb hK hP 2 1 rfl rfl (wx_inAV (by decide) c_3 c_4) d_Rd_look_102 ?_
          refine lv_iconst (v := 1) hx hb d_Rd_look_103 (by decide) ?_
          refine lv_isub hx hb d_Rd_look_104 ?_
          refine wx_ci (wS := fun _ : Unit => w_B ad ca b) (ws2 := fun _ : Unit => w_D ad ca b (TRd_set_steps (TRd_set_places v_2 (upd (TRd_places v_2) (TRd_top v_2).toNatClampNeg (((TRd_places v_2) (TRd_top v_2).toNatClampNeg) + 1))) ((TRd_steps v_2) + 1))) (va_runV (As := [.int ((TRd_rows v_2) (TRd_top v_2).toNatClampNeg), .int (((upd (TRd_places v_2) (TRd_top v_2).toNatClampNeg (((TRd_places v_2) (TRd_top v_2).toNatClampNeg) + 1)) (TRd_top v_2).toNatClampNeg) - 1)]) (rest := []) ⟨hx, hb, hml, hown, ht⟩ (c_Bk_tokenIn l dC dI ad ca H.size b ((TRd_rows v_2) (TRd_top v_2).toNatClampNeg) (((upd (TRd_places v_2) (TRd_top v_2).toNatClampNeg (((TRd_places v_2) (TRd_top v_2).toNatClampNeg) + 1)) (TRd_top v_2).toNatClampNeg) - 1) hpre _ rfl) (cwV 2 ht (tb_V q_267 q_268 q_269 q_45 q_270) rfl rfl rfl p_Bk_tokenIn ⟨show 1 + 1 ≤ 2 by omega, show 8 + (4 + 11) + 21 ≤ 44 by omega⟩) (wx_preV (wc := (w_B ad ca b)) hN hK hP hD [3, 4, 5, 6, 7, 8, 9] [2, 3, 4, 5, 6, 7] rfl (by decide) rfl (ci := 0) (q0 := 0) rfl rfl) rfl rfl hl.1 rfl (lv_room (Nat.le_of_ble_eq_true rfl)) d_Rd_look_105 ⟨Nat.zero_le _, Nat.zero_le _⟩) hP hD hS hA [3, 4, 5, 6, 7, 8, 9] [0, 1, 2] [0, 1, 2, 3, 4, 5, 6, 7, 8, 9] rfl rfl (by decide) (by decide) (by decide) (fun _ => rfl) (fun r_6 _ H locs hw hP hD hS => ?_)
          subst hw
          have hP : va_P (dC, dI) vwCl (w_D ad ca b (TRd_set_steps (TRd_set_places v_2 (upd (TRd_places v_2) (TRd_top v_2).toNatClampNeg (((TRd_places v_2) (TRd_top v_2).toNatClampNeg) + 1))) ((TRd_steps v_2) + 1))) H := hP
          have hD : va_D A (w_D ad ca b (TRd_set_steps (TRd_set_places v_2 (upd (TRd_places v_2) (TRd_top v_2).toNatClampNeg (((TRd_places v_2) (TRd_top v_2).toNatClampNeg) + 1))) ((TRd_steps v_2) + 1))) := hD
          exact W.iret hx hb hr (v := (f_Bk_tokenIn b ((TRd_rows v_2) (TRd_top v_2).toNatClampNeg) (((upd (TRd_places v_2) (TRd_top v_2).toNatClampNeg (((TRd_places v_2) (TRd_top v_2).toNatClampNeg) + 1)) (TRd_top v_2).toNatClampNeg) - 1))) (fun t ht hW => ⟨⟨(f_Bk_tokenIn b ((TRd_rows v_2) (TRd_top v_2).toNatClampNeg) (((upd (TRd_places v_2) (TRd_top v_2).toNatClampNeg (((TRd_places v_2) (TRd_top v_2).toNatClampNeg) + 1)) (TRd_top v_2).toNatClampNeg) - 1)), (TRd_set_steps (TRd_set_places v_2 (upd (TRd_places v_2) (TRd_top v_2).toNatClampNeg (((TRd_places v_2) (TRd_top v_2).toNatClampNeg) + 1))) ((TRd_steps v_2) + 1)), rfl, he.symm, by rw [ht]; exact hP, va_K.moved hW.alike hK, hD⟩, hS.F ht⟩) hS.2.2 d_Rd_look_108
        · have he := he.trans (if_neg c_5)
          refine lv_bipush (v := (-2)) hx hb d_Rd_look_55 (by decide) ?_
          exact W.iret hx hb hr (v := (-2)) (fun t ht hW => ⟨⟨(-2), v_2, rfl, he.symm, by rw [ht]; exact hP, va_K.moved hW.alike hK, hD⟩, hS.F ht⟩) hS.2.2 d_Rd_look_57
      · have he := he.trans (if_neg c_4)
        refine lv_iconst (v := (-1)) hx hb d_Rd_look_43 (by decide) ?_
        exact W.iret hx hb hr (v := (-1)) (fun t ht hW => ⟨⟨(-1), v_2, rfl, he.symm, by rw [ht]; exact hP, va_K.moved hW.alike hK, hD⟩, hS.F ht⟩) hS.2.2 d_Rd_look_44
  · have he := he.trans (if_neg c_1)
    refine lv_aload_n hx hb d_Rd_look_8 rfl (lv_at hl 0 rfl) ?_
    refine va_get (D := (dC, dI)) (ci := 1) (v := .int (TRd_kept r)) (C := R_Rd) (T := T_Rd) (N := 6) hx hb ht i_Rd hown hK hP 0 rfl rfl 4 (by decide) (ht _ q_110) (fun _ h9 => h9) rfl d_Rd_look_9 ?_
    refine lv_istore_n (lv' := [(1, .int (TRd_kept r)), (0, .ref (ad 5))]) hx hb d_Rd_look_12 rfl hl (by decide) rfl (fun ls hl => ?_)
    refine lv_aload_n hx hb d_Rd_look_13 rfl (lv_at hl 1 rfl) ?_
    refine lv_iconst (v := (-1)) hx hb d_Rd_look_14 (by decide) ?_
    refine va_put (D := (dC, dI)) (ci := 1) (v := .int (-1)) (ty := .int) (C := R_Rd) (T := T_Rd) (N := 6) hx hb ht i_Rd ty_Rd ty_Rd_ok nm_Rd hown hK hP hD hS 0 rfl rfl 4 (by decide) (ht _ q_110) (fun _ h9 => h9) rfl (by decide +kernel) rfl rfl (Nat.le_of_ble_eq_true rfl) d_Rd_look_15 (fun H locs hP hD hS => ?_)
    have hP : va_P (dC, dI) vwCl (w_D ad ca b (TRd_set_kept r (-1))) H := hP
    have hD : va_D A (w_D ad ca b (TRd_set_kept r (-1))) := hD
    refine lv_iload_n hx hb d_Rd_look_18 rfl (lv_at hl 0 rfl) ?_
    exact W.iret hx hb hr (v := (TRd_kept r)) (fun t ht hW => ⟨⟨(TRd_kept r), (TRd_set_kept r (-1)), rfl, he.symm, by rw [ht]; exact hP, va_K.moved hW.alike hK, hD⟩, hS.F ht⟩) hS.2.2 d_Rd_look_19
end
section
theorem q_3 : Cond.selects R_Rn y_Rn_fail y_Rn_fail ∈ TB := tq 3 (by decide +kernel) rfl
theorem q_46 : Cond.initialized R_Rn ∈ TB := tq 46 (by decide +kernel) rfl
theorem q_48 : Cond.initialized R_Ar ∈ TB := tq 48 (by decide +kernel) rfl
theorem q_129 : Cond.methodLink R_Rn 78 y_Ar_fill ∈ TB := tq 129 (by decide +kernel) rfl
theorem q_130 : Cond.static y_Ar_fill ∈ TB := tq 130 (by decide +kernel) rfl
theorem q_131 : Cond.code y_Ar_fill b_Ar_fill 4 (none : Option Jvm.ClassFile.FieldType) ∈ TB := tq 131 (by decide +kernel) rfl
theorem q_133 : Cond.fieldLink R_Rn 34 "ConditionText$Runner" "reader" "LConditionText$Reader;" ∈ TB := tq 133 (by decide +kernel) rfl
theorem q_134 : Cond.fieldLink R_Rn 9 "ConditionText$Runner" "out" "[I" ∈ TB := tq 134 (by decide +kernel) rfl
theorem q_135 : Cond.fieldLink R_Rn 15 "ConditionText$Runner" "decisions" "[I" ∈ TB := tq 135 (by decide +kernel) rfl
theorem q_136 : Cond.fieldLink R_Rn 18 "ConditionText$Runner" "isCase" "[Z" ∈ TB := tq 136 (by decide +kernel) rfl
theorem q_137 : Cond.fieldLink R_Rn 22 "ConditionText$Runner" "hadElse" "[Z" ∈ TB := tq 137 (by decide +kernel) rfl
theorem q_138 : Cond.fieldLink R_Rn 63 "ConditionText$Runner" "outSize" "I" ∈ TB := tq 138 (by decide +kernel) rfl
theorem q_139 : Cond.fieldLink R_Rn 57 "ConditionText$Runner" "openCount" "I" ∈ TB := tq 139 (by decide +kernel) rfl
theorem q_140 : Cond.fieldLink R_Rn 69 "ConditionText$Runner" "opened" "I" ∈ TB := tq 140 (by decide +kernel) rfl
theorem q_141 : Cond.fieldLink R_Rn 72 "ConditionText$Runner" "mostOpen" "I" ∈ TB := tq 141 (by decide +kernel) rfl
theorem q_142 : Cond.fieldLink R_Rn 75 "ConditionText$Runner" "skipped" "I" ∈ TB := tq 142 (by decide +kernel) rfl
theorem q_143 : Cond.fieldLink R_Rn 45 "ConditionText$Runner" "fault" "I" ∈ TB := tq 143 (by decide +kernel) rfl
theorem q_258 : Cond.methodLink R_Rn 49 y_Rd_look ∈ TB := tq 258 (by decide +kernel) rfl
theorem q_259 : Cond.instanceMethod y_Rd_look ∈ TB := tq 259 (by decide +kernel) rfl
theorem q_260 : Cond.selects R_Rd y_Rd_look y_Rd_look ∈ TB := tq 260 (by decide +kernel) rfl
theorem q_261 : Cond.code y_Rd_look b_Rd_look 2 (some .int) ∈ TB := tq 261 (by decide +kernel) rfl
theorem q_275 : Cond.methodLink R_Rn 60 y_Rn_fail ∈ TB := tq 275 (by decide +kernel) rfl
theorem q_277 : Cond.instanceMethod y_Rn_fail ∈ TB := tq 277 (by decide +kernel) rfl
theorem q_278 : Cond.code y_Rn_fail b_Rn_fail 2 (none : Option Jvm.ClassFile.FieldType) ∈ TB := tq 278 (by decide +kernel) rfl
theorem d_Ar_fill_0 : decode b_Ar_fill 0 = .ok (.iconst 0, 1) := by decide +kernel
theorem d_Ar_fill_1 : decode b_Ar_fill 1 = .ok (.istore_n 2, 1) := by decide +kernel
theorem d_Ar_fill_2 : decode b_Ar_fill 2 = .ok (.aload_n 0, 1) := by decide +kernel
theorem d_Ar_fill_3 : decode b_Ar_fill 3 = .ok (.arraylength, 1) := by decide +kernel
theorem d_Ar_fill_4 : decode b_Ar_fill 4 = .ok (.istore_n 3, 1) := by decide +kernel
theorem d_Ar_fill_5 : decode b_Ar_fill 5 = .ok (.iload_n 2, 1) := by decide +kernel
theorem d_Ar_fill_6 : decode b_Ar_fill 6 = .ok (.iload_n 3, 1) := by decide +kernel
theorem d_Ar_fill_7 : decode b_Ar_fill 7 = .ok (.if_icmp .ge 13, 3) := by decide +kernel
theorem d_Ar_fill_10 : decode b_Ar_fill 10 = .ok (.aload_n 0, 1) := by decide +kernel
theorem d_Ar_fill_11 : decode b_Ar_fill 11 = .ok (.iload_n 2, 1) := by decide +kernel
theorem d_Ar_fill_12 : decode b_Ar_fill 12 = .ok (.iload_n 1, 1) := by decide +kernel
theorem d_Ar_fill_13 : decode b_Ar_fill 13 = .ok (.iastore, 1) := by decide +kernel
theorem d_Ar_fill_14 : decode b_Ar_fill 14 = .ok (.iinc 2 1, 3) := by decide +kernel
theorem d_Ar_fill_17 : decode b_Ar_fill 17 = .ok (.goto (-12), 3) := by decide +kernel
theorem d_Ar_fill_20 : decode b_Ar_fill 20 = .ok (.return_, 1) := by decide +kernel
theorem d_Rn_fail_0 : decode b_Rn_fail 0 = .ok (.aload_n 0, 1) := by decide +kernel
theorem d_Rn_fail_1 : decode b_Rn_fail 1 = .ok (.getfield 45, 3) := by decide +kernel
theorem d_Rn_fail_4 : decode b_Rn_fail 4 = .ok (.ifCond .ne 8, 3) := by decide +kernel
theorem d_Rn_fail_7 : decode b_Rn_fail 7 = .ok (.aload_n 0, 1) := by decide +kernel
theorem d_Rn_fail_8 : decode b_Rn_fail 8 = .ok (.iload_n 1, 1) := by decide +kernel
theorem d_Rn_fail_9 : decode b_Rn_fail 9 = .ok (.putfield 45, 3) := by decide +kernel
theorem d_Rn_fail_12 : decode b_Rn_fail 12 = .ok (.return_, 1) := by decide +kernel
theorem d_Rn_forget_0 : decode b_Rn_forget 0 = .ok (.aload_n 0, 1) := by decide +kernel
theorem d_Rn_forget_1 : decode b_Rn_forget 1 = .ok (.getfield 15, 3) := by decide +kernel
theorem d_Rn_forget_4 : decode b_Rn_forget 4 = .ok (.bipush (-5), 2) := by decide +kernel
theorem d_Rn_forget_6 : decode b_Rn_forget 6 = .ok (.invokestatic 78, 3) := by decide +kernel
theorem d_Rn_forget_9 : decode b_Rn_forget 9 = .ok (.aload_n 0, 1) := by decide +kernel
theorem d_Rn_forget_10 : decode b_Rn_forget 10 = .ok (.iconst 0, 1) := by decide +kernel
theorem d_Rn_forget_11 : decode b_Rn_forget 11 = .ok (.putfield 63, 3) := by decide +kernel
theorem d_Rn_forget_14 : decode b_Rn_forget 14 = .ok (.aload_n 0, 1) := by decide +kernel
theorem d_Rn_forget_15 : decode b_Rn_forget 15 = .ok (.iconst 0, 1) := by decide +kernel
theorem d_Rn_forget_16 : decode b_Rn_forget 16 = .ok (.putfield 57, 3) := by decide +kernel
theorem d_Rn_forget_19 : decode b_Rn_forget 19 = .ok (.aload_n 0, 1) := by decide +kernel
theorem d_Rn_forget_20 : decode b_Rn_forget 20 = .ok (.iconst 0, 1) := by decide +kernel
theorem d_Rn_forget_21 : decode b_Rn_forget 21 = .ok (.putfield 69, 3) := by decide +kernel
theorem d_Rn_forget_24 : decode b_Rn_forget 24 = .ok (.aload_n 0, 1) := by decide +kernel
theorem d_Rn_forget_25 : decode b_Rn_forget 25 = .ok (.iconst 0, 1) := by decide +kernel
theorem d_Rn_forget_26 : decode b_Rn_forget 26 = .ok (.putfield 72, 3) := by decide +kernel
theorem d_Rn_forget_29 : decode b_Rn_forget 29 = .ok (.aload_n 0, 1) := by decide +kernel
theorem d_Rn_forget_30 : decode b_Rn_forget 30 = .ok (.iconst 0, 1) := by decide +kernel
theorem d_Rn_forget_31 : decode b_Rn_forget 31 = .ok (.putfield 75, 3) := by decide +kernel
theorem d_Rn_forget_34 : decode b_Rn_forget 34 = .ok (.aload_n 0, 1) := by decide +kernel
theorem d_Rn_forget_35 : decode b_Rn_forget 35 = .ok (.iconst 0, 1) := by decide +kernel
theorem d_Rn_forget_36 : decode b_Rn_forget 36 = .ok (.putfield 45, 3) := by decide +kernel
theorem d_Rn_forget_39 : decode b_Rn_forget 39 = .ok (.return_, 1) := by decide +kernel
theorem d_Rn_putOut_0 : decode b_Rn_putOut 0 = .ok (.aload_n 0, 1) := by decide +kernel
theorem d_Rn_putOut_1 : decode b_Rn_putOut 1 = .ok (.getfield 63, 3) := by decide +kernel
theorem d_Rn_putOut_4 : decode b_Rn_putOut 4 = .ok (.ifCond .lt 15, 3) := by decide +kernel
theorem d_Rn_putOut_7 : decode b_Rn_putOut 7 = .ok (.aload_n 0, 1) := by decide +kernel
theorem d_Rn_putOut_8 : decode b_Rn_putOut 8 = .ok (.getfield 63, 3) := by decide +kernel
theorem d_Rn_putOut_11 : decode b_Rn_putOut 11 = .ok (.aload_n 0, 1) := by decide +kernel
theorem d_Rn_putOut_12 : decode b_Rn_putOut 12 = .ok (.getfield 9, 3) := by decide +kernel
theorem d_Rn_putOut_15 : decode b_Rn_putOut 15 = .ok (.arraylength, 1) := by decide +kernel
theorem d_Rn_putOut_16 : decode b_Rn_putOut 16 = .ok (.if_icmp .lt 10, 3) := by decide +kernel
theorem d_Rn_putOut_19 : decode b_Rn_putOut 19 = .ok (.aload_n 0, 1) := by decide +kernel
theorem d_Rn_putOut_20 : decode b_Rn_putOut 20 = .ok (.bipush 9, 2) := by decide +kernel
theorem d_Rn_putOut_22 : decode b_Rn_putOut 22 = .ok (.invokevirtual 60, 3) := by decide +kernel
theorem d_Rn_putOut_25 : decode b_Rn_putOut 25 = .ok (.return_, 1) := by decide +kernel
theorem d_Rn_putOut_26 : decode b_Rn_putOut 26 = .ok (.aload_n 0, 1) := by decide +kernel
theorem d_Rn_putOut_27 : decode b_Rn_putOut 27 = .ok (.getfield 9, 3) := by decide +kernel
theorem d_Rn_putOut_30 : decode b_Rn_putOut 30 = .ok (.aload_n 0, 1) := by decide +kernel
theorem d_Rn_putOut_31 : decode b_Rn_putOut 31 = .ok (.getfield 63, 3) := by decide +kernel
theorem d_Rn_putOut_34 : decode b_Rn_putOut 34 = .ok (.iload_n 1, 1) := by decide +kernel
theorem d_Rn_putOut_35 : decode b_Rn_putOut 35 = .ok (.iastore, 1) := by decide +kernel
theorem d_Rn_putOut_36 : decode b_Rn_putOut 36 = .ok (.aload_n 0, 1) := by decide +kernel
theorem d_Rn_putOut_37 : decode b_Rn_putOut 37 = .ok (.dup, 1) := by decide +kernel
theorem d_Rn_putOut_38 : decode b_Rn_putOut 38 = .ok (.getfield 63, 3) := by decide +kernel
theorem d_Rn_putOut_41 : decode b_Rn_putOut 41 = .ok (.iconst 1, 1) := by decide +kernel
theorem d_Rn_putOut_42 : decode b_Rn_putOut 42 = .ok (.iadd, 1) := by decide +kernel
theorem d_Rn_putOut_43 : decode b_Rn_putOut 43 = .ok (.putfield 63, 3) := by decide +kernel
theorem d_Rn_putOut_46 : decode b_Rn_putOut 46 = .ok (.return_, 1) := by decide +kernel
theorem d_Rn_lookForMore_0 : decode b_Rn_lookForMore 0 = .ok (.aload_n 0, 1) := by decide +kernel
theorem d_Rn_lookForMore_1 : decode b_Rn_lookForMore 1 = .ok (.getfield 34, 3) := by decide +kernel
theorem d_Rn_lookForMore_4 : decode b_Rn_lookForMore 4 = .ok (.invokevirtual 49, 3) := by decide +kernel
theorem d_Rn_lookForMore_7 : decode b_Rn_lookForMore 7 = .ok (.istore_n 1, 1) := by decide +kernel
theorem d_Rn_lookForMore_8 : decode b_Rn_lookForMore 8 = .ok (.iload_n 1, 1) := by decide +kernel
theorem d_Rn_lookForMore_9 : decode b_Rn_lookForMore 9 = .ok (.bipush (-2), 2) := by decide +kernel
theorem d_Rn_lookForMore_11 : decode b_Rn_lookForMore 11 = .ok (.if_icmp .ne 11, 3) := by decide +kernel
theorem d_Rn_lookForMore_14 : decode b_Rn_lookForMore 14 = .ok (.aload_n 0, 1) := by decide +kernel
theorem d_Rn_lookForMore_15 : decode b_Rn_lookForMore 15 = .ok (.bipush 9, 2) := by decide +kernel
theorem d_Rn_lookForMore_17 : decode b_Rn_lookForMore 17 = .ok (.invokevirtual 60, 3) := by decide +kernel
theorem d_Rn_lookForMore_20 : decode b_Rn_lookForMore 20 = .ok (.iconst (-1), 1) := by decide +kernel
theorem d_Rn_lookForMore_21 : decode b_Rn_lookForMore 21 = .ok (.ireturn, 1) := by decide +kernel
theorem d_Rn_lookForMore_22 : decode b_Rn_lookForMore 22 = .ok (.iload_n 1, 1) := by decide +kernel
theorem d_Rn_lookForMore_23 : decode b_Rn_lookForMore 23 = .ok (.iconst (-1), 1) := by decide +kernel
theorem d_Rn_lookForMore_24 : decode b_Rn_lookForMore 24 = .ok (.if_icmp .ne 8, 3) := by decide +kernel
theorem d_Rn_lookForMore_27 : decode b_Rn_lookForMore 27 = .ok (.aload_n 0, 1) := by decide +kernel
theorem d_Rn_lookForMore_28 : decode b_Rn_lookForMore 28 = .ok (.iconst 1, 1) := by decide +kernel
theorem d_Rn_lookForMore_29 : decode b_Rn_lookForMore 29 = .ok (.invokevirtual 60, 3) := by decide +kernel
theorem d_Rn_lookForMore_32 : decode b_Rn_lookForMore 32 = .ok (.iload_n 1, 1) := by decide +kernel
theorem d_Rn_lookForMore_33 : decode b_Rn_lookForMore 33 = .ok (.ireturn, 1) := by decide +kernel
theorem d_Rn_isInPlace_0 : decode b_Rn_isInPlace 0 = .ok (.aload_n 0, 1) := by decide +kernel
theorem d_Rn_isInPlace_1 : decode b_Rn_isInPlace 1 = .ok (.getfield 57, 3) := by decide +kernel
theorem d_Rn_isInPlace_4 : decode b_Rn_isInPlace 4 = .ok (.iconst 1, 1) := by decide +kernel
theorem d_Rn_isInPlace_5 : decode b_Rn_isInPlace 5 = .ok (.isub, 1) := by decide +kernel
theorem d_Rn_isInPlace_6 : decode b_Rn_isInPlace 6 = .ok (.istore_n 2, 1) := by decide +kernel
theorem d_Rn_isInPlace_7 : decode b_Rn_isInPlace 7 = .ok (.iload_n 2, 1) := by decide +kernel
theorem d_Rn_isInPlace_8 : decode b_Rn_isInPlace 8 = .ok (.ifCond .lt 9, 3) := by decide +kernel
theorem d_Rn_isInPlace_11 : decode b_Rn_isInPlace 11 = .ok (.iload_n 2, 1) := by decide +kernel
theorem d_Rn_isInPlace_12 : decode b_Rn_isInPlace 12 = .ok (.bipush 20, 2) := by decide +kernel
theorem d_Rn_isInPlace_14 : decode b_Rn_isInPlace 14 = .ok (.if_icmp .lt 5, 3) := by decide +kernel
theorem d_Rn_isInPlace_17 : decode b_Rn_isInPlace 17 = .ok (.iconst 0, 1) := by decide +kernel
theorem d_Rn_isInPlace_18 : decode b_Rn_isInPlace 18 = .ok (.ireturn, 1) := by decide +kernel
theorem d_Rn_isInPlace_19 : decode b_Rn_isInPlace 19 = .ok (.iload_n 1, 1) := by decide +kernel
theorem d_Rn_isInPlace_20 : decode b_Rn_isInPlace 20 = .ok (.bipush 7, 2) := by decide +kernel
theorem d_Rn_isInPlace_22 : decode b_Rn_isInPlace 22 = .ok (.if_icmp .ne 27, 3) := by decide +kernel
theorem d_Rn_isInPlace_25 : decode b_Rn_isInPlace 25 = .ok (.aload_n 0, 1) := by decide +kernel
theorem d_Rn_isInPlace_26 : decode b_Rn_isInPlace 26 = .ok (.getfield 18, 3) := by decide +kernel
theorem d_Rn_isInPlace_29 : decode b_Rn_isInPlace 29 = .ok (.iload_n 2, 1) := by decide +kernel
theorem d_Rn_isInPlace_30 : decode b_Rn_isInPlace 30 = .ok (.baload, 1) := by decide +kernel
theorem d_Rn_isInPlace_31 : decode b_Rn_isInPlace 31 = .ok (.ifCond .eq 16, 3) := by decide +kernel
theorem d_Rn_isInPlace_34 : decode b_Rn_isInPlace 34 = .ok (.aload_n 0, 1) := by decide +kernel
theorem d_Rn_isInPlace_35 : decode b_Rn_isInPlace 35 = .ok (.getfield 22, 3) := by decide +kernel
theorem d_Rn_isInPlace_38 : decode b_Rn_isInPlace 38 = .ok (.iload_n 2, 1) := by decide +kernel
theorem d_Rn_isInPlace_39 : decode b_Rn_isInPlace 39 = .ok (.baload, 1) := by decide +kernel
theorem d_Rn_isInPlace_40 : decode b_Rn_isInPlace 40 = .ok (.ifCond .ne 7, 3) := by decide +kernel
theorem d_Rn_isInPlace_43 : decode b_Rn_isInPlace 43 = .ok (.iconst 1, 1) := by decide +kernel
theorem d_Rn_isInPlace_44 : decode b_Rn_isInPlace 44 = .ok (.goto 4, 3) := by decide +kernel
theorem d_Rn_isInPlace_47 : decode b_Rn_isInPlace 47 = .ok (.iconst 0, 1) := by decide +kernel
theorem d_Rn_isInPlace_48 : decode b_Rn_isInPlace 48 = .ok (.ireturn, 1) := by decide +kernel
theorem d_Rn_isInPlace_49 : decode b_Rn_isInPlace 49 = .ok (.iload_n 1, 1) := by decide +kernel
theorem d_Rn_isInPlace_50 : decode b_Rn_isInPlace 50 = .ok (.bipush 8, 2) := by decide +kernel
theorem d_Rn_isInPlace_52 : decode b_Rn_isInPlace 52 = .ok (.if_icmp .eq 12, 3) := by decide +kernel
theorem d_Rn_isInPlace_55 : decode b_Rn_isInPlace 55 = .ok (.aload_n 0, 1) := by decide +kernel
theorem d_Rn_isInPlace_56 : decode b_Rn_isInPlace 56 = .ok (.getfield 22, 3) := by decide +kernel
theorem d_Rn_isInPlace_59 : decode b_Rn_isInPlace 59 = .ok (.iload_n 2, 1) := by decide +kernel
theorem d_Rn_isInPlace_60 : decode b_Rn_isInPlace 60 = .ok (.baload, 1) := by decide +kernel
theorem d_Rn_isInPlace_61 : decode b_Rn_isInPlace 61 = .ok (.ifCond .ne 7, 3) := by decide +kernel
theorem d_Rn_isInPlace_64 : decode b_Rn_isInPlace 64 = .ok (.iconst 1, 1) := by decide +kernel
theorem d_Rn_isInPlace_65 : decode b_Rn_isInPlace 65 = .ok (.goto 4, 3) := by decide +kernel
theorem d_Rn_isInPlace_68 : decode b_Rn_isInPlace 68 = .ok (.iconst 0, 1) := by decide +kernel
theorem d_Rn_isInPlace_69 : decode b_Rn_isInPlace 69 = .ok (.ireturn, 1) := by decide +kernel
theorem d_Rn_passMark_0 : decode b_Rn_passMark 0 = .ok (.aload_n 0, 1) := by decide +kernel
theorem d_Rn_passMark_1 : decode b_Rn_passMark 1 = .ok (.getfield 57, 3) := by decide +kernel
theorem d_Rn_passMark_4 : decode b_Rn_passMark 4 = .ok (.iconst 1, 1) := by decide +kernel
theorem d_Rn_passMark_5 : decode b_Rn_passMark 5 = .ok (.isub, 1) := by decide +kernel
theorem d_Rn_passMark_6 : decode b_Rn_passMark 6 = .ok (.istore_n 2, 1) := by decide +kernel
theorem d_Rn_passMark_7 : decode b_Rn_passMark 7 = .ok (.iload_n 2, 1) := by decide +kernel
theorem d_Rn_passMark_8 : decode b_Rn_passMark 8 = .ok (.ifCond .lt 9, 3) := by decide +kernel
theorem d_Rn_passMark_11 : decode b_Rn_passMark 11 = .ok (.iload_n 2, 1) := by decide +kernel
theorem d_Rn_passMark_12 : decode b_Rn_passMark 12 = .ok (.bipush 20, 2) := by decide +kernel
theorem d_Rn_passMark_14 : decode b_Rn_passMark 14 = .ok (.if_icmp .lt 4, 3) := by decide +kernel
theorem d_Rn_passMark_17 : decode b_Rn_passMark 17 = .ok (.return_, 1) := by decide +kernel
theorem d_Rn_passMark_18 : decode b_Rn_passMark 18 = .ok (.iload_n 1, 1) := by decide +kernel
theorem d_Rn_passMark_19 : decode b_Rn_passMark 19 = .ok (.bipush 8, 2) := by decide +kernel
theorem d_Rn_passMark_21 : decode b_Rn_passMark 21 = .ok (.if_icmp .ne 11, 3) := by decide +kernel
theorem d_Rn_passMark_24 : decode b_Rn_passMark 24 = .ok (.aload_n 0, 1) := by decide +kernel
theorem d_Rn_passMark_25 : decode b_Rn_passMark 25 = .ok (.iload_n 2, 1) := by decide +kernel
theorem d_Rn_passMark_26 : decode b_Rn_passMark 26 = .ok (.putfield 57, 3) := by decide +kernel
theorem d_Rn_passMark_29 : decode b_Rn_passMark 29 = .ok (.goto 16, 3) := by decide +kernel
theorem d_Rn_passMark_32 : decode b_Rn_passMark 32 = .ok (.iload_n 1, 1) := by decide +kernel
theorem d_Rn_passMark_33 : decode b_Rn_passMark 33 = .ok (.bipush 6, 2) := by decide +kernel
theorem d_Rn_passMark_35 : decode b_Rn_passMark 35 = .ok (.if_icmp .ne 10, 3) := by decide +kernel
theorem d_Rn_passMark_38 : decode b_Rn_passMark 38 = .ok (.aload_n 0, 1) := by decide +kernel
theorem d_Rn_passMark_39 : decode b_Rn_passMark 39 = .ok (.getfield 22, 3) := by decide +kernel
theorem d_Rn_passMark_42 : decode b_Rn_passMark 42 = .ok (.iload_n 2, 1) := by decide +kernel
theorem d_Rn_passMark_43 : decode b_Rn_passMark 43 = .ok (.iconst 1, 1) := by decide +kernel
theorem d_Rn_passMark_44 : decode b_Rn_passMark 44 = .ok (.bastore, 1) := by decide +kernel
theorem d_Rn_passMark_45 : decode b_Rn_passMark 45 = .ok (.return_, 1) := by decide +kernel
def f_Ar_fill_5 (n0 : Nat) : Nat → (Nat → Int32) → Int32 → Int32 → Int32 → (Nat → Int32)
  | 0, f, _, _, _ => f
  | n + 1, f, x1, x2, x3 => (if x3 ≤ x2 then f else (f_Ar_fill_5 n0 n (upd f x2.toNatClampNeg x1) x1 (x2 + 1) x3))
set_option maxHeartbeats 4000000 in
set_option maxRecDepth 100000 in
theorem k_Ar_fill_5 {p : Program} {e : Env} {s : State} {m : MethodId} {args : Array Value} {below : List Frame} {meth : Method} {c : Code} {A : Nat → Prop} (l : Launch) (dC : Nat → ClassId) (dI : Nat → Nat → Nat) (ad : Nat → Nat) (ca : Nat → ClassId) (a0 : Nat) (k0 : ClassId) (n0 : Nat) (C0 : wx_C p s m args meth c b_Ar_fill (none) 4 R_Ar A (dC, dI) vwCl (t_I ca a0 k0 n0)) (F : (Nat → Int32)) : ∀ (n : Nat) (f : (Nat → Int32)) (x1 : Int32) (x2 : Int32) (x3 : Int32), (n0 < 2147483648) → (x3.toInt = (n0 : Int) ∧ TLn (n0 : Int) x2 n) → F = f_Ar_fill_5 n0 n f x1 x2 x3 → ∀ (H : Heap) (locs : List Loc), va_P (dC, dI) vwCl (w_I ad ca a0 k0 n0 f) H → va_D A (w_I ad ca a0 k0 n0 f) → va_S A s.heap H locs → ∀ (ls : Array Slot), lv_has ls 4 [(0, .ref a0), (1, .int x1), (2, .int x2), (3, .int x3)] → W p l e ({ frames := 0, cells := 0, slots := 0, locals := 0 } : Room) s m args below meth c H locs 0 0 (MQ below (va_Qv (fun v : (Nat → Int32) => v = F) (wx_B (dC, dI) vwCl (t_I ca a0 k0 n0) (fun v : (Nat → Int32) => w_I ad ca a0 k0 n0 v) A) A) args s 0 0 A) (F0 m 5 ls []) := by
  have C1 := C0
  obtain ⟨hx, hb, hr, hml, hown, ht, hlocks, hA, hK, hN⟩ := C1
  intro n
  induction n with
  | zero =>
    intro f x1 x2 x3 hpre hc he
    exact absurd hc (fun h => TLn_0 h.2)
  | succ n ih =>
    intro f x1 x2 x3 hpre hc he H locs hP hD hS ls hl
    rw [f_Ar_fill_5] at he
    refine lv_iload_n hx hb d_Ar_fill_5 rfl (lv_at hl 2 rfl) ?_
    refine lv_iload_n hx hb d_Ar_fill_6 rfl (lv_at hl 3 rfl) ?_
    refine lv_icmp_ge (tgt := 20) hx hb d_Ar_fill_7 (by decide) (fun c_1 => ?_) (fun c_1 => ?_)
    · have he := he.trans (if_pos c_1)
      exact W.vret hx hb hr (fun t ht hW => ⟨⟨f, rfl, he.symm, by rw [ht]; exact hP, va_K.moved hW.alike hK, hD⟩, hS.F ht⟩) hS.2.2 d_Ar_fill_20
    · have he := he.trans (if_neg c_1)
      refine lv_aload_n hx hb d_Ar_fill_10 rfl (lv_at hl 0 rfl) ?_
      refine lv_iload_n hx hb d_Ar_fill_11 rfl (lv_at hl 2 rfl) ?_
      refine lv_iload_n hx hb d_Ar_fill_12 rfl (lv_at hl 1 rfl) ?_
      refine va_iast hx hb hK hP hD hS 0 0 rfl rfl (wx_tl hc.2 (Int.le_of_eq hc.1) c_1) d_Ar_fill_13 (fun H locs hP hD hS => ?_)
      have hP : va_P (dC, dI) vwCl (w_I ad ca a0 k0 n0 (upd f x2.toNatClampNeg x1)) H := hP
      have hD : va_D A (w_I ad ca a0 k0 n0 (upd f x2.toNatClampNeg x1)) := hD
      refine lv_iinc (v := (x2 + 1)) (lv' := [(2, .int (x2 + 1)), (0, .ref a0), (1, .int x1), (3, .int x3)]) hx hb d_Ar_fill_14 hl (k := 2) rfl rfl (by decide) rfl (fun ls hl => ?_)
      refine lv_goto (tgt := 5) hx hb d_Ar_fill_17 (by decide) ?_
      exact ih (upd f x2.toNatClampNeg x1) x1 (x2 + 1) x3 hpre ⟨hc.1, TLn_s hc.2 hc.1 c_1⟩ he _ _ hP hD hS _ (lv_sub hl [1, 2, 0, 3] rfl)
def f_Ar_fill (n0 : Nat) (f : (Nat → Int32)) (p0 : Int32) : (Nat → Int32) := (f_Ar_fill_5 n0 (n0 + 1) f p0 0 (Int32.ofNat n0))
set_option maxHeartbeats 4000000 in
set_option maxRecDepth 100000 in
theorem c_Ar_fill (l : Launch) (dC : Nat → ClassId) (dI : Nat → Nat → Nat) (ad : Nat → Nat) (ca : Nat → ClassId) (a0 : Nat) (k0 : ClassId) (n0 : Nat) (sz : Nat) (f : (Nat → Int32)) (p0 : Int32) (hpre : n0 < 2147483648) (F : (Nat → Int32)) (he : F = f_Ar_fill n0 f p0) : wx_Mv l y_Ar_fill ws_Ar_fill ({ frames := 0, cells := 0, slots := 0, locals := 0 } : Room) (dC, dI) vwCl (t_I ca a0 k0 n0) [.ref a0, .int p0] (w_I ad ca a0 k0 n0 f) sz (fun v : (Nat → Int32) => w_I ad ca a0 k0 n0 v) (fun v : (Nat → Int32) => v = F) := by
  refine Met.ofW (cc := b_Ar_fill) (maxL := 4) (ret := none) (by decide) rfl ?_
  intro p e s m args below meth c s₁ B hml hv
  obtain ⟨rfl, hsz, hP, hK, hD0, hN⟩ := hv
  have hx := B.exec
  have hb := B.bytes
  have hr := B.returns
  have hts := atoms_spec (ws := ws_Ar_fill) B.pre
  have ht : ∀ w ∈ TB, w.before _ s = true := fun w h => hts w (List.mem_cons_of_mem _ h)
  have hown : s.vm.findClass R_Ar = some m.cls := findClass_of_methodNamed B.named
  have hlocks := B.notSynchronized
  subst hsz
  have hD := hD0.self (sz := s.heap.size)
  generalize hAe : va_A (w_I ad ca a0 k0 n0 f) s.heap.size = A at hD ⊢
  have hA : ∀ q : Nat, s.heap.size ≤ q → A q := fun q h => by rw [← hAe]; exact Or.inr h
  have hS : va_S A s.heap s.heap [] := va_S.rf
  have C0 : wx_C p s m ([.ref a0, .int p0] : List Value).toArray meth c b_Ar_fill (none) 4 R_Ar A (dC, dI) vwCl (t_I ca a0 k0 n0) := ⟨hx, hb, hr, hml, hown, ht, hlocks, hA, hK, hN⟩
  have hl := lv_entry ([.ref a0, .int p0]) (n := 4) (Nat.le_of_ble_eq_true rfl)
  rw [lg_entry_eq]
  generalize (lg_sl ([.ref a0, .int p0]) ++ List.replicate (4 - (lg_sl ([.ref a0, .int p0])).length) Slot.unset).toArray = ls at hl ⊢
  have hl : lv_has ls 4 [(0, .ref a0), (1, .int p0)] := hl
  unfold f_Ar_fill at he
  refine lv_iconst (v := 0) hx hb d_Ar_fill_0 (by decide) ?_
  refine lv_istore_n (lv' := [(2, .int 0), (0, .ref a0), (1, .int p0)]) hx hb d_Ar_fill_1 rfl hl (by decide) rfl (fun ls hl => ?_)
  refine lv_aload_n hx hb d_Ar_fill_2 rfl (lv_at hl 1 rfl) ?_
  refine va_alen hx hb hK hP 0 0 rfl rfl (v := (Int32.ofNat n0)) rfl d_Ar_fill_3 ?_
  refine lv_istore_n (lv' := [(3, .int (Int32.ofNat n0)), (2, .int 0), (0, .ref a0), (1, .int p0)]) hx hb d_Ar_fill_4 rfl hl (by decide) rfl (fun ls hl => ?_)
  exact k_Ar_fill_5 l dC dI ad ca a0 k0 n0 C0 F (n0 + 1) f p0 0 (Int32.ofNat n0) hpre ⟨nI_toInt hpre, TLn_i (by omega) (by omega)⟩ he _ _ hP hD hS _ (lv_sub hl [2, 3, 1, 0] rfl)
def f_Rn_fail (b : TBk) (u : TRn) (p0 : Int32) : TRn := (if (TRn_fault u) = 0 then (TRn_set_fault u p0) else u)
set_option maxHeartbeats 4000000 in
set_option maxRecDepth 100000 in
theorem c_Rn_fail (l : Launch) (dC : Nat → ClassId) (dI : Nat → Nat → Nat) (ad : Nat → Nat) (ca : Nat → ClassId) (sz : Nat) (b : TBk) (u : TRn) (p0 : Int32) (F : TRn) (he : F = f_Rn_fail b u p0) : wx_Mv l y_Rn_fail ws_Rn_fail ({ frames := 0, cells := 0, slots := 0, locals := 0 } : Room) (dC, dI) vwCl (t_R ca) [.ref (ad 0), .int p0] (w_R ad ca b u) sz (fun v : TRn => w_R ad ca b v) (fun v : TRn => v = F) := by
  refine Met.ofW (cc := b_Rn_fail) (maxL := 2) (ret := none) (by decide) rfl ?_
  intro p e s m args below meth c s₁ B hml hv
  obtain ⟨rfl, hsz, hP, hK, hD0, hN⟩ := hv
  have hx := B.exec
  have hb := B.bytes
  have hr := B.returns
  have hts := atoms_spec (ws := ws_Rn_fail) B.pre
  have ht : ∀ w ∈ TB, w.before _ s = true := fun w h => hts w (List.mem_cons_of_mem _ h)
  have hown : s.vm.findClass R_Rn = some m.cls := findClass_of_methodNamed B.named
  have hlocks := B.notSynchronized
  subst hsz
  have hD := hD0.self (sz := s.heap.size)
  generalize hAe : va_A (w_R ad ca b u) s.heap.size = A at hD ⊢
  have hA : ∀ q : Nat, s.heap.size ≤ q → A q := fun q h => by rw [← hAe]; exact Or.inr h
  have hS : va_S A s.heap s.heap [] := va_S.rf
  have hl := lv_entry ([.ref (ad 0), .int p0]) (n := 2) (Nat.le_of_ble_eq_true rfl)
  rw [lg_entry_eq]
  generalize (lg_sl ([.ref (ad 0), .int p0]) ++ List.replicate (2 - (lg_sl ([.ref (ad 0), .int p0])).length) Slot.unset).toArray = ls at hl ⊢
  have hl : lv_has ls 2 [(0, .ref (ad 0)), (1, .int p0)] := hl
  unfold f_Rn_fail at he
  refine lv_aload_n hx hb d_Rn_fail_0 rfl (lv_at hl 0 rfl) ?_
  refine va_get (D := (dC, dI)) (ci := 2) (v := .int (TRn_fault u)) (C := R_Rn) (T := T_Rn) (N := 12) hx hb ht i_Rn hown hK hP 0 rfl rfl 11 (by decide) (ht _ q_143) (fun _ h9 => h9) rfl d_Rn_fail_1 ?_
  refine lv_if_ne (tgt := 12) hx hb d_Rn_fail_4 (by decide) (fun c_1 => ?_) (fun c_1 => ?_)
  · have he := he.trans (if_neg c_1)
    exact W.vret hx hb hr (fun t ht hW => ⟨⟨u, rfl, he.symm, by rw [ht]; exact hP, va_K.moved hW.alike hK, hD⟩, hS.F ht⟩) hS.2.2 d_Rn_fail_12
  · have he := he.trans (if_pos c_1)
    refine lv_aload_n hx hb d_Rn_fail_7 rfl (lv_at hl 0 rfl) ?_
    refine lv_iload_n hx hb d_Rn_fail_8 rfl (lv_at hl 1 rfl) ?_
    refine va_put (D := (dC, dI)) (ci := 2) (v := .int p0) (ty := .int) (C := R_Rn) (T := T_Rn) (N := 12) hx hb ht i_Rn ty_Rn ty_Rn_ok nm_Rn hown hK hP hD hS 0 rfl rfl 11 (by decide) (ht _ q_143) (fun _ h9 => h9) rfl (by decide +kernel) rfl rfl (Nat.le_of_ble_eq_true rfl) d_Rn_fail_9 (fun H locs hP hD hS => ?_)
    have hP : va_P (dC, dI) vwCl (w_R ad ca b (TRn_set_fault u p0)) H := hP
    have hD : va_D A (w_R ad ca b (TRn_set_fault u p0)) := hD
    exact W.vret hx hb hr (fun t ht hW => ⟨⟨(TRn_set_fault u p0), rfl, he.symm, by rw [ht]; exact hP, va_K.moved hW.alike hK, hD⟩, hS.F ht⟩) hS.2.2 d_Rn_fail_12
def f_Rn_forget (b : TBk) (u : TRn) : TRn := (let v_1 := f_Ar_fill 100 (TRn_decisions u) (-5); (TRn_set_fault (TRn_set_skipped (TRn_set_mostOpen (TRn_set_opened (TRn_set_openCount (TRn_set_outSize (TRn_set_decisions u v_1) 0) 0) 0) 0) 0) 0))
set_option maxHeartbeats 4000000 in
set_option maxRecDepth 100000 in
theorem c_Rn_forget (l : Launch) (dC : Nat → ClassId) (dI : Nat → Nat → Nat) (ad : Nat → Nat) (ca : Nat → ClassId) (sz : Nat) (b : TBk) (u : TRn) (F : TRn) (he : F = f_Rn_forget b u) : wx_Mv l y_Rn_forget ws_Rn_forget ({ frames := 1, cells := 0, slots := 0, locals := 23 } : Room) (dC, dI) vwCl (t_R ca) [.ref (ad 0)] (w_R ad ca b u) sz (fun v : TRn => w_R ad ca b v) (fun v : TRn => v = F) := by
  refine Met.ofW (cc := b_Rn_forget) (maxL := 1) (ret := none) (by decide) rfl ?_
  intro p e s m args below meth c s₁ B hml hv
  obtain ⟨rfl, hsz, hP, hK, hD0, hN⟩ := hv
  have hx := B.exec
  have hb := B.bytes
  have hr := B.returns
  have hts := atoms_spec (ws := ws_Rn_forget) B.pre
  have ht : ∀ w ∈ TB, w.before _ s = true := fun w h => hts w (List.mem_cons_of_mem _ h)
  have hown : s.vm.findClass R_Rn = some m.cls := findClass_of_methodNamed B.named
  have hlocks := B.notSynchronized
  subst hsz
  have hD := hD0.self (sz := s.heap.size)
  generalize hAe : va_A (w_R ad ca b u) s.heap.size = A at hD ⊢
  have hA : ∀ q : Nat, s.heap.size ≤ q → A q := fun q h => by rw [← hAe]; exact Or.inr h
  have hS : va_S A s.heap s.heap [] := va_S.rf
  have hl := lv_entry ([.ref (ad 0)]) (n := 1) (Nat.le_of_ble_eq_true rfl)
  rw [lg_entry_eq]
  generalize (lg_sl ([.ref (ad 0)]) ++ List.replicate (1 - (lg_sl ([.ref (ad 0)])).length) Slot.unset).toArray = ls at hl ⊢
  have hl : lv_has ls 1 [(0, .ref (ad 0))] := hl
  unfold f_Rn_forget at he
  refine lv_aload_n hx hb d_Rn_forget_0 rfl (lv_at hl 0 rfl) ?_
  refine va_get (D := (dC, dI)) (ci := 2) (v := .ref (ad 2)) (C := R_Rn) (T := T_Rn) (N := 12) hx hb ht i_Rn hown hK hP 0 rfl rfl 3 (by decide) (ht _ q_135) (fun _ h9 => h9) rfl d_Rn_forget_1 ?_
  refine lv_bipush (v := (-5)) hx hb d_Rn_forget_4 (by decide) ?_
  refine wx_cv (wS := fun v : (Nat → Int32) => w_I ad ca (ad 2) (ca 2) 100 v) (ws2 := fun v : (Nat → Int32) => w_R ad ca b (TRn_set_decisions u v)) (va_runS (As := [.ref (ad 2), .int (-5)]) (rest := []) ⟨hx, hb, hml, hown, ht⟩ (c_Ar_fill l dC dI ad ca (ad 2) (ca 2) 100 s.heap.size (TRn_decisions u) (-5) (by decide) _ rfl) (va_cwS 2 ht (tb_S q_129 q_130 q_48 q_131) rfl rfl rfl p_Ar_fill.2 ⟨show 0 + 1 ≤ 1 by omega, show 8 + (4 + 11) + 0 ≤ 23 by omega⟩) (wx_preS (wc := (w_I ad ca (ad 2) (ca 2) 100 (TRn_decisions u))) hN hK hP hD [2] [1] rfl (by decide) rfl) rfl rfl hl.1 rfl (lv_room (Nat.le_of_ble_eq_true rfl)) d_Rn_forget_6 ⟨Nat.zero_le _, Nat.zero_le _⟩) hP hD hS hA [2] [0, 1, 3, 4, 5, 6, 7, 8, 9, 10, 11, 12, 13, 14] [0, 1, 14, 2, 3, 4, 5, 6, 7, 8, 9, 10, 11, 12, 13] rfl rfl (by decide) (by decide) (by decide) (fun _ => rfl) (fun v_1 H locs hw hP hD hS => ?_)
  have hP : va_P (dC, dI) vwCl (w_R ad ca b (TRn_set_decisions u v_1)) H := hP
  have hD : va_D A (w_R ad ca b (TRn_set_decisions u v_1)) := hD
  rw [← hw] at he
  try dsimp only at he
  refine lv_aload_n hx hb d_Rn_forget_9 rfl (lv_at hl 0 rfl) ?_
  refine lv_iconst (v := 0) hx hb d_Rn_forget_10 (by decide) ?_
  refine va_put (D := (dC, dI)) (ci := 2) (v := .int 0) (ty := .int) (C := R_Rn) (T := T_Rn) (N := 12) hx hb ht i_Rn ty_Rn ty_Rn_ok nm_Rn hown hK hP hD hS 0 rfl rfl 6 (by decide) (ht _ q_138) (fun _ h9 => h9) rfl (by decide +kernel) rfl rfl (Nat.le_of_ble_eq_true rfl) d_Rn_forget_11 (fun H locs hP hD hS => ?_)
  have hP : va_P (dC, dI) vwCl (w_R ad ca b (TRn_set_outSize (TRn_set_decisions u v_1) 0)) H := hP
  have hD : va_D A (w_R ad ca b (TRn_set_outSize (TRn_set_decisions u v_1) 0)) := hD
  refine lv_aload_n hx hb d_Rn_forget_14 rfl (lv_at hl 0 rfl) ?_
  refine lv_iconst (v := 0) hx hb d_Rn_forget_15 (by decide) ?_
  refine va_put (D := (dC, dI)) (ci := 2) (v := .int 0) (ty := .int) (C := R_Rn) (T := T_Rn) (N := 12) hx hb ht i_Rn ty_Rn ty_Rn_ok nm_Rn hown hK hP hD hS 0 rfl rfl 7 (by decide) (ht _ q_139) (fun _ h9 => h9) rfl (by decide +kernel) rfl rfl (Nat.le_of_ble_eq_true rfl) d_Rn_forget_16 (fun H locs hP hD hS => ?_)
  have hP : va_P (dC, dI) vwCl (w_R ad ca b (TRn_set_openCount (TRn_set_outSize (TRn_set_decisions u v_1) 0) 0)) H := hP
  have hD : va_D A (w_R ad ca b (TRn_set_openCount (TRn_set_outSize (TRn_set_decisions u v_1) 0) 0)) := hD
  refine lv_aload_n hx hb d_Rn_forget_19 rfl (lv_at hl 0 rfl) ?_
  refine lv_iconst (v := 0) hx hb d_Rn_forget_20 (by decide) ?_
  refine va_put (D := (dC, dI)) (ci := 2) (v := .int 0) (ty := .int) (C := R_Rn) (T := T_Rn) (N := 12) hx hb ht i_Rn ty_Rn ty_Rn_ok nm_Rn hown hK hP hD hS 0 rfl rfl 8 (by decide) (ht _ q_140) (fun _ h9 => h9) rfl (by decide +kernel) rfl rfl (Nat.le_of_ble_eq_true rfl) d_Rn_forget_21 (fun H locs hP hD hS => ?_)
  have hP : va_P (dC, dI) vwCl (w_R ad ca b (TRn_set_opened (TRn_set_openCount (TRn_set_outSize (TRn_set_decisions u v_1) 0) 0) 0)) H := hP
  have hD : va_D A (w_R ad ca b (TRn_set_opened (TRn_set_openCount (TRn_set_outSize (TRn_set_decisions u v_1) 0) 0) 0)) := hD
  refine lv_aload_n hx hb d_Rn_forget_24 rfl (lv_at hl 0 rfl) ?_
  refine lv_iconst (v := 0) hx hb d_Rn_forget_25 (by decide) ?_
  refine va_put (D := (dC, dI)) (ci := 2) (v := .int 0) (ty := .int) (C := R_Rn) (T := T_Rn) (N := 12) hx hb ht i_Rn ty_Rn ty_Rn_ok nm_Rn hown hK hP hD hS 0 rfl rfl 9 (by decide) (ht _ q_141) (fun _ h9 => h9) rfl (by decide +kernel) rfl rfl (Nat.le_of_ble_eq_true rfl) d_Rn_forget_26 (fun H locs hP hD hS => ?_)
  have hP : va_P (dC, dI) vwCl (w_R ad ca b (TRn_set_mostOpen (TRn_set_opened (TRn_set_openCount (TRn_set_outSize (TRn_set_decisions u v_1) 0) 0) 0) 0)) H := hP
  have hD : va_D A (w_R ad ca b (TRn_set_mostOpen (TRn_set_opened (TRn_set_openCount (TRn_set_outSize (TRn_set_decisions u v_1) 0) 0) 0) 0)) := hD
  refine lv_aload_n hx hb d_Rn_forget_29 rfl (lv_at hl 0 rfl) ?_
  refine lv_iconst (v := 0) hx hb d_Rn_forget_30 (by decide) ?_
  refine va_put (D := (dC, dI)) (ci := 2) (v := .int 0) (ty := .int) (C := R_Rn) (T := T_Rn) (N := 12) hx hb ht i_Rn ty_Rn ty_Rn_ok nm_Rn hown hK hP hD hS 0 rfl rfl 10 (by decide) (ht _ q_142) (fun _ h9 => h9) rfl (by decide +kernel) rfl rfl (Nat.le_of_ble_eq_true rfl) d_Rn_forget_31 (fun H locs hP hD hS => ?_)
  have hP : va_P (dC, dI) vwCl (w_R ad ca b (TRn_set_skipped (TRn_set_mostOpen (TRn_set_opened (TRn_set_openCount (TRn_set_outSize (TRn_set_decisions u v_1) 0) 0) 0) 0) 0)) H := hP
  have hD : va_D A (w_R ad ca b (TRn_set_skipped (TRn_set_mostOpen (TRn_set_opened (TRn_set_openCount (TRn_set_outSize (TRn_set_decisions u v_1) 0) 0) 0) 0) 0)) := hD
  refine lv_aload_n hx hb d_Rn_forget_34 rfl (lv_at hl 0 rfl) ?_
  refine lv_iconst (v := 0) hx hb d_Rn_forget_35 (by decide) ?_
  refine va_put (D := (dC, dI)) (ci := 2) (v := .int 0) (ty := .int) (C := R_Rn) (T := T_Rn) (N := 12) hx hb ht i_Rn ty_Rn ty_Rn_ok nm_Rn hown hK hP hD hS 0 rfl rfl 11 (by decide) (ht _ q_143) (fun _ h9 => h9) rfl (by decide +kernel) rfl rfl (Nat.le_of_ble_eq_true rfl) d_Rn_forget_36 (fun H locs hP hD hS => ?_)
  have hP : va_P (dC, dI) vwCl (w_R ad ca b (TRn_set_fault (TRn_set_skipped (TRn_set_mostOpen (TRn_set_opened (TRn_set_openCount (TRn_set_outSize (TRn_set_decisions u v_1) 0) 0) 0) 0) 0) 0)) H := hP
  have hD : va_D A (w_R ad ca b (TRn_set_fault (TRn_set_skipped (TRn_set_mostOpen (TRn_set_opened (TRn_set_openCount (TRn_set_outSize (TRn_set_decisions u v_1) 0) 0) 0) 0) 0) 0)) := hD
  exact W.vret hx hb hr (fun t ht hW => ⟨⟨(TRn_set_fault (TRn_set_skipped (TRn_set_mostOpen (TRn_set_opened (TRn_set_openCount (TRn_set_outSize (TRn_set_decisions u v_1) 0) 0) 0) 0) 0) 0), rfl, he.symm, by rw [ht]; exact hP, va_K.moved hW.alike hK, hD⟩, hS.F ht⟩) hS.2.2 d_Rn_forget_39
def f_Rn_putOut (b : TBk) (u : TRn) (p0 : Int32) : TRn := (if (TRn_outSize u) < 0 then (let v_2 := f_Rn_fail b u 9; v_2) else (if (TRn_outSize u) < 300 then (TRn_set_outSize (TRn_set_out u (upd (TRn_out u) (TRn_outSize u).toNatClampNeg p0)) ((TRn_outSize u) + 1)) else (let v_4 := f_Rn_fail b u 9; v_4)))
set_option maxHeartbeats 4000000 in
set_option maxRecDepth 100000 in
theorem c_Rn_putOut (l : Launch) (dC : Nat → ClassId) (dI : Nat → Nat → Nat) (ad : Nat → Nat) (ca : Nat → ClassId) (sz : Nat) (b : TBk) (u : TRn) (p0 : Int32) (F : TRn) (he : F = f_Rn_putOut b u p0) : wx_Mv l y_Rn_putOut ws_Rn_putOut ({ frames := 1, cells := 0, slots := 0, locals := 21 } : Room) (dC, dI) vwCl (t_R ca) [.ref (ad 0), .int p0] (w_R ad ca b u) sz (fun v : TRn => w_R ad ca b v) (fun v : TRn => v = F) := by
  refine Met.ofW (cc := b_Rn_putOut) (maxL := 2) (ret := none) (by decide) rfl ?_
  intro p e s m args below meth c s₁ B hml hv
  obtain ⟨rfl, hsz, hP, hK, hD0, hN⟩ := hv
  have hx := B.exec
  have hb := B.bytes
  have hr := B.returns
  have hts := atoms_spec (ws := ws_Rn_putOut) B.pre
  have ht : ∀ w ∈ TB, w.before _ s = true := fun w h => hts w (List.mem_cons_of_mem _ h)
  have hown : s.vm.findClass R_Rn = some m.cls := findClass_of_methodNamed B.named
  have hlocks := B.notSynchronized
  subst hsz
  have hD := hD0.self (sz := s.heap.size)
  generalize hAe : va_A (w_R ad ca b u) s.heap.size = A at hD ⊢
  have hA : ∀ q : Nat, s.heap.size ≤ q → A q := fun q h => by rw [← hAe]; exact Or.inr h
  have hS : va_S A s.heap s.heap [] := va_S.rf
  have hl := lv_entry ([.ref (ad 0), .int p0]) (n := 2) (Nat.le_of_ble_eq_true rfl)
  rw [lg_entry_eq]
  generalize (lg_sl ([.ref (ad 0), .int p0]) ++ List.replicate (2 - (lg_sl ([.ref (ad 0), .int p0])).length) Slot.unset).toArray = ls at hl ⊢
  have hl : lv_has ls 2 [(0, .ref (ad 0)), (1, .int p0)] := hl
  unfold f_Rn_putOut at he
  refine lv_aload_n hx hb d_Rn_putOut_0 rfl (lv_at hl 0 rfl) ?_
  refine va_get (D := (dC, dI)) (ci := 2) (v := .int (TRn_outSize u)) (C := R_Rn) (T := T_Rn) (N := 12) hx hb ht i_Rn hown hK hP 0 rfl rfl 6 (by decide) (ht _ q_138) (fun _ h9 => h9) rfl d_Rn_putOut_1 ?_
  refine lv_if_lt (tgt := 19) hx hb d_Rn_putOut_4 (by decide) (fun c_1 => ?_) (fun c_1 => ?_)
  · have he := he.trans (if_pos c_1)
    refine lv_aload_n hx hb d_Rn_putOut_19 rfl (lv_at hl 0 rfl) ?_
    refine lv_bipush (v := 9) hx hb d_Rn_putOut_20 (by decide) ?_
    refine wx_cv (wS := fun v : TRn => w_R ad ca b v) (ws2 := fun v : TRn => w_R ad ca b v) (va_runV (As := [.int 9]) (rest := []) ⟨hx, hb, hml, hown, ht⟩ (c_Rn_fail l dC dI ad ca s.heap.size b u 9 _ rfl) (cwV 1 ht (tb_V q_275 q_277 q_3 q_46 q_278) rfl rfl rfl p_Rn_fail ⟨show 0 + 1 ≤ 1 by omega, show 8 + (2 + 11) + 0 ≤ 21 by omega⟩) (wx_preV (wc := (w_R ad ca b u)) hN hK hP hD [0, 1, 2, 3, 4, 5, 6, 7, 8, 9, 10, 11, 12, 13, 14] [0, 1, 2, 3, 4, 5, 6, 7, 8, 9, 10, 11] rfl (by decide) rfl (ci := 2) (q0 := 0) rfl rfl) rfl rfl hl.1 rfl (lv_room (Nat.le_of_ble_eq_true rfl)) d_Rn_putOut_22 ⟨Nat.zero_le _, Nat.zero_le _⟩) hP hD hS hA [0, 1, 2, 3, 4, 5, 6, 7, 8, 9, 10, 11, 12, 13, 14] [] [0, 1, 2, 3, 4, 5, 6, 7, 8, 9, 10, 11, 12, 13, 14] rfl rfl (by decide) (by decide) (by decide) (fun _ => rfl) (fun v_2 H locs hw hP hD hS => ?_)
    have hP : va_P (dC, dI) vwCl (w_R ad ca b v_2) H := hP
    have hD : va_D A (w_R ad ca b v_2) := hD
    rw [← hw] at he
    try dsimp only at he
    exact W.vret hx hb hr (fun t ht hW => ⟨⟨v_2, rfl, he.symm, by rw [ht]; exact hP, va_K.moved hW.alike hK, hD⟩, hS.F ht⟩) hS.2.2 d_Rn_putOut_25
  · have he := he.trans (if_neg c_1)
    refine lv_aload_n hx hb d_Rn_putOut_7 rfl (lv_at hl 0 rfl) ?_
    refine va_get (D := (dC, dI)) (ci := 2) (v := .int (TRn_outSize u)) (C := R_Rn) (T := T_Rn) (N := 12) hx hb ht i_Rn hown hK hP 0 rfl rfl 6 (by decide) (ht _ q_138) (fun _ h9 => h9) rfl d_Rn_putOut_8 ?_
    refine lv_aload_n hx hb d_Rn_putOut_11 rfl (lv_at hl 0 rfl) ?_
    refine va_get (D := (dC, dI)) (ci := 2) (v := .ref (ad 1)) (C := R_Rn) (T := T_Rn) (N := 12) hx hb ht i_Rn hown hK hP 0 rfl rfl 2 (by decide) (ht _ q_134) (fun _ h9 => h9) rfl d_Rn_putOut_12 ?_
    refine va_alen hx hb hK hP 1 0 rfl rfl (v := 300) rfl d_Rn_putOut_15 ?_
    refine lv_icmp_lt (tgt := 26) hx hb d_Rn_putOut_16 (by decide) (fun c_3 => ?_) (fun c_3 => ?_)
    · have he := he.trans (if_pos c_3)
      refine lv_aload_n hx hb d_Rn_putOut_26 rfl (lv_at hl 0 rfl) ?_
      refine va_get (D := (dC, dI)) (ci := 2) (v := .ref (ad 1)) (C := R_Rn) (T := T_Rn) (N := 12) hx hb ht i_Rn hown hK hP 0 rfl rfl 2 (by decide) (ht _ q_134) (fun _ h9 => h9) rfl d_Rn_putOut_27 ?_
      refine lv_aload_n hx hb d_Rn_putOut_30 rfl (lv_at hl 0 rfl) ?_
      refine va_get (D := (dC, dI)) (ci := 2) (v := .int (TRn_outSize u)) (C := R_Rn) (T := T_Rn) (N := 12) hx hb ht i_Rn hown hK hP 0 rfl rfl 6 (by decide) (ht _ q_138) (fun _ h9 => h9) rfl d_Rn_putOut_31 ?_
      refine lv_iload_n hx hb d_Rn_putOut_34 rfl (lv_at hl 1 rfl) ?_
      refine va_iast hx hb hK hP hD hS 1 0 rfl rfl (wx_inAV (by decide) c_1 c_3) d_Rn_putOut_35 (fun H locs hP hD hS => ?_)
      have hP : va_P (dC, dI) vwCl (w_R ad ca b (TRn_set_out u (upd (TRn_out u) (TRn_outSize u).toNatClampNeg p0))) H := hP
      have hD : va_D A (w_R ad ca b (TRn_set_out u (upd (TRn_out u) (TRn_outSize u).toNatClampNeg p0))) := hD
      refine lv_aload_n hx hb d_Rn_putOut_36 rfl (lv_at hl 0 rfl) ?_
      refine lv_dup hx hb d_Rn_putOut_37 rfl ?_
      refine va_get (D := (dC, dI)) (ci := 2) (v := .int (TRn_outSize u)) (C := R_Rn) (T := T_Rn) (N := 12) hx hb ht i_Rn hown hK hP 0 rfl rfl 6 (by decide) (ht _ q_138) (fun _ h9 => h9) rfl d_Rn_putOut_38 ?_
      refine lv_iconst (v := 1) hx hb d_Rn_putOut_41 (by decide) ?_
      refine lv_iadd hx hb d_Rn_putOut_42 ?_
      refine va_put (D := (dC, dI)) (ci := 2) (v := .int ((TRn_outSize u) + 1)) (ty := .int) (C := R_Rn) (T := T_Rn) (N := 12) hx hb ht i_Rn ty_Rn ty_Rn_ok nm_Rn hown hK hP hD hS 0 rfl rfl 6 (by decide) (ht _ q_138) (fun _ h9 => h9) rfl (by decide +kernel) rfl rfl (Nat.le_of_ble_eq_true rfl) d_Rn_putOut_43 (fun H locs hP hD hS => ?_)
      have hP : va_P (dC, dI) vwCl (w_R ad ca b (TRn_set_outSize (TRn_set_out u (upd (TRn_out u) (TRn_outSize u).toNatClampNeg p0)) ((TRn_outSize u) + 1))) H := hP
      have hD : va_D A (w_R ad ca b (TRn_set_outSize (TRn_set_out u (upd (TRn_out u) (TRn_outSize u).toNatClampNeg p0)) ((TRn_outSize u) + 1))) := hD
      exact W.vret hx hb hr (fun t ht hW => ⟨⟨(TRn_set_outSize (TRn_set_out u (upd (TRn_out u) (TRn_outSize u).toNatClampNeg p0)) ((TRn_outSize u) + 1)), rfl, he.symm, by rw [ht]; exact hP, va_K.moved hW.alike hK, hD⟩, hS.F ht⟩) hS.2.2 d_Rn_putOut_46
    · have he := he.trans (if_neg c_3)
      refine lv_aload_n hx hb d_Rn_putOut_19 rfl (lv_at hl 0 rfl) ?_
      refine lv_bipush (v := 9) hx hb d_Rn_putOut_20 (by decide) ?_
      refine wx_cv (wS := fun v : TRn => w_R ad ca b v) (ws2 := fun v : TRn => w_R ad ca b v) (va_runV (As := [.int 9]) (rest := []) ⟨hx, hb, hml, hown, ht⟩ (c_Rn_fail l dC dI ad ca s.heap.size b u 9 _ rfl) (cwV 1 ht (tb_V q_275 q_277 q_3 q_46 q_278) rfl rfl rfl p_Rn_fail ⟨show 0 + 1 ≤ 1 by omega, show 8 + (2 + 11) + 0 ≤ 21 by omega⟩) (wx_preV (wc := (w_R ad ca b u)) hN hK hP hD [0, 1, 2, 3, 4, 5, 6, 7, 8, 9, 10, 11, 12, 13, 14] [0, 1, 2, 3, 4, 5, 6, 7, 8, 9, 10, 11] rfl (by decide) rfl (ci := 2) (q0 := 0) rfl rfl) rfl rfl hl.1 rfl (lv_room (Nat.le_of_ble_eq_true rfl)) d_Rn_putOut_22 ⟨Nat.zero_le _, Nat.zero_le _⟩) hP hD hS hA [0, 1, 2, 3, 4, 5, 6, 7, 8, 9, 10, 11, 12, 13, 14] [] [0, 1, 2, 3, 4, 5, 6, 7, 8, 9, 10, 11, 12, 13, 14] rfl rfl (by decide) (by decide) (by decide) (fun _ => rfl) (fun v_4 H locs hw hP hD hS => ?_)
      have hP : va_P (dC, dI) vwCl (w_R ad ca b v_4) H := hP
      have hD : va_D A (w_R ad ca b v_4) := hD
      rw [← hw] at he
      try dsimp only at he
      exact W.vret hx hb hr (fun t ht hW => ⟨⟨v_4, rfl, he.symm, by rw [ht]; exact hP, va_K.moved hW.alike hK, hD⟩, hS.F ht⟩) hS.2.2 d_Rn_putOut_25
def f_Rn_lookForMore (b : TBk) (u : TRn) : (Int32 × TRn) := (match f_Rd_look b (TRn_rd u) with | (r_1, v_1) => (if r_1 = (-2) then (let v_5 := f_Rn_fail b (TRn_set_rd u v_1) 9; ((-1), v_5)) else (if r_1 = (-1) then (let v_4 := f_Rn_fail b (TRn_set_rd u v_1) 1; (r_1, v_4)) else (r_1, (TRn_set_rd u v_1)))))
set_option maxHeartbeats 4000000 in
set_option maxRecDepth 100000 in
theorem c_Rn_lookForMore (l : Launch) (dC : Nat → ClassId) (dI : Nat → Nat → Nat) (ad : Nat → Nat) (ca : Nat → ClassId) (sz : Nat) (b : TBk) (u : TRn) (hpre : BkS b) (F : (Int32 × TRn)) (he : F = f_Rn_lookForMore b u) : wx_Mi l y_Rn_lookForMore ws_Rn_lookForMore ({ frames := 3, cells := 0, slots := 0, locals := 65 } : Room) (dC, dI) vwCl (t_R ca) [.ref (ad 0)] (w_R ad ca b u) sz (fun v : TRn => w_R ad ca b v) (fun (r : Int32) (v : TRn) => (r, v) = F) := by
  refine Met.ofW (cc := b_Rn_lookForMore) (maxL := 2) (ret := some .int) (by decide) rfl ?_
  intro p e s m args below meth c s₁ B hml hv
  obtain ⟨rfl, hsz, hP, hK, hD0, hN⟩ := hv
  have hx := B.exec
  have hb := B.bytes
  have hr := B.returns
  have hts := atoms_spec (ws := ws_Rn_lookForMore) B.pre
  have ht : ∀ w ∈ TB, w.before _ s = true := fun w h => hts w (List.mem_cons_of_mem _ h)
  have hown : s.vm.findClass R_Rn = some m.cls := findClass_of_methodNamed B.named
  have hlocks := B.notSynchronized
  subst hsz
  have hD := hD0.self (sz := s.heap.size)
  generalize hAe : va_A (w_R ad ca b u) s.heap.size = A at hD ⊢
  have hA : ∀ q : Nat, s.heap.size ≤ q → A q := fun q h => by rw [← hAe]; exact Or.inr h
  have hS : va_S A s.heap s.heap [] := va_S.rf
  have hl := lv_entry ([.ref (ad 0)]) (n := 2) (Nat.le_of_ble_eq_true rfl)
  rw [lg_entry_eq]
  generalize (lg_sl ([.ref (ad 0)]) ++ List.replicate (2 - (lg_sl ([.ref (ad 0)])).length) Slot.unset).toArray = ls at hl ⊢
  have hl : lv_has ls 2 [(0, .ref (ad 0))] := hl
  unfold f_Rn_lookForMore at he
  refine lv_aload_n hx hb d_Rn_lookForMore_0 rfl (lv_at hl 0 rfl) ?_
  refine va_get (D := (dC, dI)) (ci := 2) (v := .ref (ad 5)) (C := R_Rn) (T := T_Rn) (N := 12) hx hb ht i_Rn hown hK hP 0 rfl rfl 1 (by decide) (ht _ q_133) (fun _ h9 => h9) rfl d_Rn_lookForMore_1 ?_
  refine wx_ci (wS := fun v : TRd => w_D ad ca b v) (ws2 := fun v : TRd => w_R ad ca b (TRn_set_rd u v)) (va_runV (As := []) (rest := []) ⟨hx, hb, hml, hown, ht⟩ (c_Rd_look l dC dI ad ca s.heap.size b (TRn_rd u) hpre _ rfl) (cwV 0 ht (tb_V q_258 q_259 q_260 q_47 q_261) rfl rfl rfl p_Rd_look ⟨show 2 + 1 ≤ 3 by omega, show 8 + (2 + 11) + 44 ≤ 65 by omega⟩) (wx_preV (wc := (w_D ad ca b (TRn_rd u))) hN hK hP hD [5, 6, 7, 8, 9, 10, 11, 12, 13, 14] [4, 5, 6, 7, 8, 9, 10, 11] rfl (by decide) rfl (ci := 1) (q0 := 0) rfl rfl) rfl rfl hl.1 rfl (lv_room (Nat.le_of_ble_eq_true rfl)) d_Rn_lookForMore_4 ⟨Nat.zero_le _, Nat.zero_le _⟩) hP hD hS hA [5, 6, 7, 8, 9, 10, 11, 12, 13, 14] [0, 1, 2, 3, 4] [0, 1, 2, 3, 4, 5, 6, 7, 8, 9, 10, 11, 12, 13, 14] rfl rfl (by decide) (by decide) (by decide) (fun _ => rfl) (fun r_1 v_1 H locs hw hP hD hS => ?_)
  have hP : va_P (dC, dI) vwCl (w_R ad ca b (TRn_set_rd u v_1)) H := hP
  have hD : va_D A (w_R ad ca b (TRn_set_rd u v_1)) := hD
  rw [← hw] at he
  try dsimp only at he
  refine lv_istore_n (lv' := [(1, .int r_1), (0, .ref (ad 0))]) hx hb d_Rn_lookForMore_7 rfl hl (by decide) rfl (fun ls hl => ?_)
  refine lv_iload_n hx hb d_Rn_lookForMore_8 rfl (lv_at hl 0 rfl) ?_
  refine lv_bipush (v := (-2)) hx hb d_Rn_lookForMore_9 (by decide) ?_
  refine lv_icmp_ne (tgt := 22) hx hb d_Rn_lookForMore_11 (by decide) (fun c_2 => ?_) (fun c_2 => ?_)
  · have he := he.trans (if_neg c_2)
    refine lv_iload_n hx hb d_Rn_lookForMore_22 rfl (lv_at hl 0 rfl) ?_
    refine lv_iconst (v := (-1)) hx hb d_Rn_lookForMore_23 (by decide) ?_
    refine lv_icmp_ne (tgt := 32) hx hb d_Rn_lookForMore_24 (by decide) (fun c_3 => ?_) (fun c_3 => ?_)
    · have he := he.trans (if_neg c_3)
      refine lv_iload_n hx hb d_Rn_lookForMore_32 rfl (lv_at hl 0 rfl) ?_
      exact W.iret hx hb hr (v := r_1) (fun t ht hW => ⟨⟨r_1, (TRn_set_rd u v_1), rfl, he.symm, by rw [ht]; exact hP, va_K.moved hW.alike hK, hD⟩, hS.F ht⟩) hS.2.2 d_Rn_lookForMore_33
    · have he := he.trans (if_pos c_3)
      refine lv_aload_n hx hb d_Rn_lookForMore_27 rfl (lv_at hl 1 rfl) ?_
      refine lv_iconst (v := 1) hx hb d_Rn_lookForMore_28 (by decide) ?_
      refine wx_cv (wS := fun v : TRn => w_R ad ca b v) (ws2 := fun v : TRn => w_R ad ca b v) (va_runV (As := [.int 1]) (rest := []) ⟨hx, hb, hml, hown, ht⟩ (c_Rn_fail l dC dI ad ca H.size b (TRn_set_rd u v_1) 1 _ rfl) (cwV 1 ht (tb_V q_275 q_277 q_3 q_46 q_278) rfl rfl rfl p_Rn_fail ⟨show 0 + 1 ≤ 3 by omega, show 8 + (2 + 11) + 0 ≤ 65 by omega⟩) (wx_preV (wc := (w_R ad ca b (TRn_set_rd u v_1))) hN hK hP hD [0, 1, 2, 3, 4, 5, 6, 7, 8, 9, 10, 11, 12, 13, 14] [0, 1, 2, 3, 4, 5, 6, 7, 8, 9, 10, 11] rfl (by decide) rfl (ci := 2) (q0 := 0) rfl rfl) rfl rfl hl.1 rfl (lv_room (Nat.le_of_ble_eq_true rfl)) d_Rn_lookForMore_29 ⟨Nat.zero_le _, Nat.zero_le _⟩) hP hD hS hA [0, 1, 2, 3, 4, 5, 6, 7, 8, 9, 10, 11, 12, 13, 14] [] [0, 1, 2, 3, 4, 5, 6, 7, 8, 9, 10, 11, 12, 13, 14] rfl rfl (by decide) (by decide) (by decide) (fun _ => rfl) (fun v_4 H locs hw hP hD hS => ?_)
      have hP : va_P (dC, dI) vwCl (w_R ad ca b v_4) H := hP
      have hD : va_D A (w_R ad ca b v_4) := hD
      rw [← hw] at he
      try dsimp only at he
      refine lv_iload_n hx hb d_Rn_lookForMore_32 rfl (lv_at hl 0 rfl) ?_
      exact W.iret hx hb hr (v := r_1) (fun t ht hW => ⟨⟨r_1, v_4, rfl, he.symm, by rw [ht]; exact hP, va_K.moved hW.alike hK, hD⟩, hS.F ht⟩) hS.2.2 d_Rn_lookForMore_33
  · have he := he.trans (if_pos c_2)
    refine lv_aload_n hx hb d_Rn_lookForMore_14 rfl (lv_at hl 1 rfl) ?_
    refine lv_bipush (v := 9) hx hb d_Rn_lookForMore_15 (by decide) ?_
    refine wx_cv (wS := fun v : TRn => w_R ad ca b v) (ws2 := fun v : TRn => w_R ad ca b v) (va_runV (As := [.int 9]) (rest := []) ⟨hx, hb, hml, hown, ht⟩ (c_Rn_fail l dC dI ad ca H.size b (TRn_set_rd u v_1) 9 _ rfl) (cwV 1 ht (tb_V q_275 q_277 q_3 q_46 q_278) rfl rfl rfl p_Rn_fail ⟨show 0 + 1 ≤ 3 by omega, show 8 + (2 + 11) + 0 ≤ 65 by omega⟩) (wx_preV (wc := (w_R ad ca b (TRn_set_rd u v_1))) hN hK hP hD [0, 1, 2, 3, 4, 5, 6, 7, 8, 9, 10, 11, 12, 13, 14] [0, 1, 2, 3, 4, 5, 6, 7, 8, 9, 10, 11] rfl (by decide) rfl (ci := 2) (q0 := 0) rfl rfl) rfl rfl hl.1 rfl (lv_room (Nat.le_of_ble_eq_true rfl)) d_Rn_lookForMore_17 ⟨Nat.zero_le _, Nat.zero_le _⟩) hP hD hS hA [0, 1, 2, 3, 4, 5, 6, 7, 8, 9, 10, 11, 12, 13, 14] [] [0, 1, 2, 3, 4, 5, 6, 7, 8, 9, 10, 11, 12, 13, 14] rfl rfl (by decide) (by decide) (by decide) (fun _ => rfl) (fun v_5 H locs hw hP hD hS => ?_)
    have hP : va_P (dC, dI) vwCl (w_R ad ca b v_5) H := hP
    have hD : va_D A (w_R ad ca b v_5) := hD
    rw [← hw] at he
    try dsimp only at he
    refine lv_iconst (v := (-1)) hx hb d_Rn_lookForMore_20 (by decide) ?_
    exact W.iret hx hb hr (v := (-1)) (fun t ht hW => ⟨⟨(-1), v_5, rfl, he.symm, by rw [ht]; exact hP, va_K.moved hW.alike hK, hD⟩, hS.F ht⟩) hS.2.2 d_Rn_lookForMore_21
def f_Rn_isInPlace (b : TBk) (u : TRn) (p0 : Int32) : Int32 := (if ((TRn_openCount u) - 1) < 0 then 0 else (if ((TRn_openCount u) - 1) < 20 then (if p0 = 7 then (if ((TRn_isCase u) ((TRn_openCount u) - 1).toNatClampNeg) = 0 then 0 else (if ((TRn_hadElse u) ((TRn_openCount u) - 1).toNatClampNeg) = 0 then 1 else 0)) else (if p0 = 8 then 1 else (if ((TRn_hadElse u) ((TRn_openCount u) - 1).toNatClampNeg) = 0 then 1 else 0))) else 0))
set_option maxHeartbeats 4000000 in
set_option maxRecDepth 100000 in
theorem c_Rn_isInPlace (l : Launch) (dC : Nat → ClassId) (dI : Nat → Nat → Nat) (ad : Nat → Nat) (ca : Nat → ClassId) (sz : Nat) (b : TBk) (u : TRn) (p0 : Int32) (F : Int32) (he : F = f_Rn_isInPlace b u p0) : wx_Mi l y_Rn_isInPlace ws_Rn_isInPlace ({ frames := 0, cells := 0, slots := 0, locals := 0 } : Room) (dC, dI) vwCl (t_R ca) [.ref (ad 0), .int p0] (w_R ad ca b u) sz (fun _ : Unit => w_R ad ca b u) (fun (r : Int32) (_ : Unit) => r = F) := by
  refine Met.ofW (cc := b_Rn_isInPlace) (maxL := 3) (ret := some .boolean) (by decide) rfl ?_
  intro p e s m args below meth c s₁ B hml hv
  obtain ⟨rfl, hsz, hP, hK, hD0, hN⟩ := hv
  have hx := B.exec
  have hb := B.bytes
  have hr := B.returns
  have hts := atoms_spec (ws := ws_Rn_isInPlace) B.pre
  have ht : ∀ w ∈ TB, w.before _ s = true := fun w h => hts w (List.mem_cons_of_mem _ h)
  have hown : s.vm.findClass R_Rn = some m.cls := findClass_of_methodNamed B.named
  have hlocks := B.notSynchronized
  subst hsz
  have hD := hD0.self (sz := s.heap.size)
  generalize hAe : va_A (w_R ad ca b u) s.heap.size = A at hD ⊢
  have hA : ∀ q : Nat, s.heap.size ≤ q → A q := fun q h => by rw [← hAe]; exact Or.inr h
  have hS : va_S A s.heap s.heap [] := va_S.rf
  have hl := lv_entry ([.ref (ad 0), .int p0]) (n := 3) (Nat.le_of_ble_eq_true rfl)
  rw [lg_entry_eq]
  generalize (lg_sl ([.ref (ad 0), .int p0]) ++ List.replicate (3 - (lg_sl ([.ref (ad 0), .int p0])).length) Slot.unset).toArray = ls at hl ⊢
  have hl : lv_has ls 3 [(0, .ref (ad 0)), (1, .int p0)] := hl
  unfold f_Rn_isInPlace at he
  refine lv_aload_n hx hb d_Rn_isInPlace_0 rfl (lv_at hl 0 rfl) ?_
  refine va_get (D := (dC, dI)) (ci := 2) (v := .int (TRn_openCount u)) (C := R_Rn) (T := T_Rn) (N := 12) hx hb ht i_Rn hown hK hP 0 rfl rfl 7 (by decide) (ht _ q_139) (fun _ h9 => h9) rfl d_Rn_isInPlace_1 ?_
  refine lv_iconst (v := 1) hx hb d_Rn_isInPlace_4 (by decide) ?_
  refine lv_isub hx hb d_Rn_isInPlace_5 ?_
  refine lv_istore_n (lv' := [(2, .int ((TRn_openCount u) - 1)), (0, .ref (ad 0)), (1, .int p0)]) hx hb d_Rn_isInPlace_6 rfl hl (by decide) rfl (fun ls hl => ?_)
  refine lv_iload_n hx hb d_Rn_isInPlace_7 rfl (lv_at hl 0 rfl) ?_
  refine lv_if_lt (tgt := 17) hx hb d_Rn_isInPlace_8 (by decide) (fun c_1 => ?_) (fun c_1 => ?_)
  · have he := he.trans (if_pos c_1)
    refine lv_iconst (v := 0) hx hb d_Rn_isInPlace_17 (by decide) ?_
    exact W.zret hx hb hr (by rfl) (v := 0) (fun t ht hW => ⟨⟨0, (), rfl, he.symm, by rw [ht]; exact hP, va_K.moved hW.alike hK, hD⟩, hS.F ht⟩) hS.2.2 d_Rn_isInPlace_18
  · have he := he.trans (if_neg c_1)
    refine lv_iload_n hx hb d_Rn_isInPlace_11 rfl (lv_at hl 0 rfl) ?_
    refine lv_bipush (v := 20) hx hb d_Rn_isInPlace_12 (by decide) ?_
    refine lv_icmp_lt (tgt := 19) hx hb d_Rn_isInPlace_14 (by decide) (fun c_2 => ?_) (fun c_2 => ?_)
    · have he := he.trans (if_pos c_2)
      refine lv_iload_n hx hb d_Rn_isInPlace_19 rfl (lv_at hl 2 rfl) ?_
      refine lv_bipush (v := 7) hx hb d_Rn_isInPlace_20 (by decide) ?_
      refine lv_icmp_ne (tgt := 49) hx hb d_Rn_isInPlace_22 (by decide) (fun c_3 => ?_) (fun c_3 => ?_)
      · have he := he.trans (if_neg c_3)
        refine lv_iload_n hx hb d_Rn_isInPlace_49 rfl (lv_at hl 2 rfl) ?_
        refine lv_bipush (v := 8) hx hb d_Rn_isInPlace_50 (by decide) ?_
        refine lv_icmp_eq (tgt := 64) hx hb d_Rn_isInPlace_52 (by decide) (fun c_4 => ?_) (fun c_4 => ?_)
        · have he := he.trans (if_pos c_4)
          refine lv_iconst (v := 1) hx hb d_Rn_isInPlace_64 (by decide) ?_
          refine lv_goto (tgt := 69) hx hb d_Rn_isInPlace_65 (by decide) ?_
          exact W.zret hx hb hr (by rfl) (v := 1) (fun t ht hW => ⟨⟨1, (), rfl, he.symm, by rw [ht]; exact hP, va_K.moved hW.alike hK, hD⟩, hS.F ht⟩) hS.2.2 d_Rn_isInPlace_69
        · have he := he.trans (if_neg c_4)
          refine lv_aload_n hx hb d_Rn_isInPlace_55 rfl (lv_at hl 1 rfl) ?_
          refine va_get (D := (dC, dI)) (ci := 2) (v := .ref (ad 4)) (C := R_Rn) (T := T_Rn) (N := 12) hx hb ht i_Rn hown hK hP 0 rfl rfl 5 (by decide) (ht _ q_137) (fun _ h9 => h9) rfl d_Rn_isInPlace_56 ?_
          refine lv_iload_n hx hb d_Rn_isInPlace_59 rfl (lv_at hl 0 rfl) ?_
          refine va_zald hx hb hK hP 4 3 rfl rfl (wx_inAV (by decide) c_1 c_2) d_Rn_isInPlace_60 ?_
          refine lv_if_ne (tgt := 68) hx hb d_Rn_isInPlace_61 (by decide) (fun c_5 => ?_) (fun c_5 => ?_)
          · have he := he.trans (if_neg c_5)
            refine lv_iconst (v := 0) hx hb d_Rn_isInPlace_68 (by decide) ?_
            exact W.zret hx hb hr (by rfl) (v := 0) (fun t ht hW => ⟨⟨0, (), rfl, he.symm, by rw [ht]; exact hP, va_K.moved hW.alike hK, hD⟩, hS.F ht⟩) hS.2.2 d_Rn_isInPlace_69
          · have he := he.trans (if_pos c_5)
            refine lv_iconst (v := 1) hx hb d_Rn_isInPlace_64 (by decide) ?_
            refine lv_goto (tgt := 69) hx hb d_Rn_isInPlace_65 (by decide) ?_
            exact W.zret hx hb hr (by rfl) (v := 1) (fun t ht hW => ⟨⟨1, (), rfl, he.symm, by rw [ht]; exact hP, va_K.moved hW.alike hK, hD⟩, hS.F ht⟩) hS.2.2 d_Rn_isInPlace_69
      · have he := he.trans (if_pos c_3)
        refine lv_aload_n hx hb d_Rn_isInPlace_25 rfl (lv_at hl 1 rfl) ?_
        refine va_get (D := (dC, dI)) (ci := 2) (v := .ref (ad 3)) (C := R_Rn) (T := T_Rn) (N := 12) hx hb ht i_Rn hown hK hP 0 rfl rfl 4 (by decide) (ht _ q_136) (fun _ h9 => h9) rfl d_Rn_isInPlace_26 ?_
        refine lv_iload_n hx hb d_Rn_isInPlace_29 rfl (lv_at hl 0 rfl) ?_
        refine va_zald hx hb hK hP 3 2 rfl rfl (wx_inAV (by decide) c_1 c_2) d_Rn_isInPlace_30 ?_
        refine lv_if_eq (tgt := 47) hx hb d_Rn_isInPlace_31 (by decide) (fun c_6 => ?_) (fun c_6 => ?_)
        · have he := he.trans (if_pos c_6)
          refine lv_iconst (v := 0) hx hb d_Rn_isInPlace_47 (by decide) ?_
          exact W.zret hx hb hr (by rfl) (v := 0) (fun t ht hW => ⟨⟨0, (), rfl, he.symm, by rw [ht]; exact hP, va_K.moved hW.alike hK, hD⟩, hS.F ht⟩) hS.2.2 d_Rn_isInPlace_48
        · have he := he.trans (if_neg c_6)
          refine lv_aload_n hx hb d_Rn_isInPlace_34 rfl (lv_at hl 1 rfl) ?_
          refine va_get (D := (dC, dI)) (ci := 2) (v := .ref (ad 4)) (C := R_Rn) (T := T_Rn) (N := 12) hx hb ht i_Rn hown hK hP 0 rfl rfl 5 (by decide) (ht _ q_137) (fun _ h9 => h9) rfl d_Rn_isInPlace_35 ?_
          refine lv_iload_n hx hb d_Rn_isInPlace_38 rfl (lv_at hl 0 rfl) ?_
          refine va_zald hx hb hK hP 4 3 rfl rfl (wx_inAV (by decide) c_1 c_2) d_Rn_isInPlace_39 ?_
          refine lv_if_ne (tgt := 47) hx hb d_Rn_isInPlace_40 (by decide) (fun c_7 => ?_) (fun c_7 => ?_)
          · have he := he.trans (if_neg c_7)
            refine lv_iconst (v := 0) hx hb d_Rn_isInPlace_47 (by decide) ?_
            exact W.zret hx hb hr (by rfl) (v := 0) (fun t ht hW => ⟨⟨0, (), rfl, he.symm, by rw [ht]; exact hP, va_K.moved hW.alike hK, hD⟩, hS.F ht⟩) hS.2.2 d_Rn_isInPlace_48
          · have he := he.trans (if_pos c_7)
            refine lv_iconst (v := 1) hx hb d_Rn_isInPlace_43 (by decide) ?_
            refine lv_goto (tgt := 48) hx hb d_Rn_isInPlace_44 (by decide) ?_
            exact W.zret hx hb hr (by rfl) (v := 1) (fun t ht hW => ⟨⟨1, (), rfl, he.symm, by rw [ht]; exact hP, va_K.moved hW.alike hK, hD⟩, hS.F ht⟩) hS.2.2 d_Rn_isInPlace_48
    · have he := he.trans (if_neg c_2)
      refine lv_iconst (v := 0) hx hb d_Rn_isInPlace_17 (by decide) ?_
      exact W.zret hx hb hr (by rfl) (v := 0) (fun t ht hW => ⟨⟨0, (), rfl, he.symm, by rw [ht]; exact hP, va_K.moved hW.alike hK, hD⟩, hS.F ht⟩) hS.2.2 d_Rn_isInPlace_18
def f_Rn_passMark (b : TBk) (u : TRn) (p0 : Int32) : TRn := (if ((TRn_openCount u) - 1) < 0 then u else (if ((TRn_openCount u) - 1) < 20 then (if p0 = 8 then (TRn_set_openCount u ((TRn_openCount u) - 1)) else (if p0 = 6 then (TRn_set_hadElse u (upd (TRn_hadElse u) ((TRn_openCount u) - 1).toNatClampNeg (vp_nar .boolean 1))) else u)) else u))
set_option maxHeartbeats 4000000 in
set_option maxRecDepth 100000 in
theorem c_Rn_passMark (l : Launch) (dC : Nat → ClassId) (dI : Nat → Nat → Nat) (ad : Nat → Nat) (ca : Nat → ClassId) (sz : Nat) (b : TBk) (u : TRn) (p0 : Int32) (F : TRn) (he : F = f_Rn_passMark b u p0) : wx_Mv l y_Rn_passMark ws_Rn_passMark ({ frames := 0, cells := 0, slots := 0, locals := 0 } : Room) (dC, dI) vwCl (t_R ca) [.ref (ad 0), .int p0] (w_R ad ca b u) sz (fun v : TRn => w_R ad ca b v) (fun v : TRn => v = F) := by
  refine Met.ofW (cc := b_Rn_passMark) (maxL := 3) (ret := none) (by decide) rfl ?_
  intro p e s m args below meth c s₁ B hml hv
  obtain ⟨rfl, hsz, hP, hK, hD0, hN⟩ := hv
  have hx := B.exec
  have hb := B.bytes
  have hr := B.returns
  have hts := atoms_spec (ws := ws_Rn_passMark) B.pre
  have ht : ∀ w ∈ TB, w.before _ s = true := fun w h => hts w (List.mem_cons_of_mem _ h)
  have hown : s.vm.findClass R_Rn = some m.cls := findClass_of_methodNamed B.named
  have hlocks := B.notSynchronized
  subst hsz
  have hD := hD0.self (sz := s.heap.size)
  generalize hAe : va_A (w_R ad ca b u) s.heap.size = A at hD ⊢
  have hA : ∀ q : Nat, s.heap.size ≤ q → A q := fun q h => by rw [← hAe]; exact Or.inr h
  have hS : va_S A s.heap s.heap [] := va_S.rf
  have hl := lv_entry ([.ref (ad 0), .int p0]) (n := 3) (Nat.le_of_ble_eq_true rfl)
  rw [lg_entry_eq]
  generalize (lg_sl ([.ref (ad 0), .int p0]) ++ List.replicate (3 - (lg_sl ([.ref (ad 0), .int p0])).length) Slot.unset).toArray = ls at hl ⊢
  have hl : lv_has ls 3 [(0, .ref (ad 0)), (1, .int p0)] := hl
  unfold f_Rn_passMark at he
  refine lv_aload_n hx hb d_Rn_passMark_0 rfl (lv_at hl 0 rfl) ?_
  refine va_get (D := (dC, dI)) (ci := 2) (v := .int (TRn_openCount u)) (C := R_Rn) (T := T_Rn) (N := 12) hx hb ht i_Rn hown hK hP 0 rfl rfl 7 (by decide) (ht _ q_139) (fun _ h9 => h9) rfl d_Rn_passMark_1 ?_
  refine lv_iconst (v := 1) hx hb d_Rn_passMark_4 (by decide) ?_
  refine lv_isub hx hb d_Rn_passMark_5 ?_
  refine lv_istore_n (lv' := [(2, .int ((TRn_openCount u) - 1)), (0, .ref (ad 0)), (1, .int p0)]) hx hb d_Rn_passMark_6 rfl hl (by decide) rfl (fun ls hl => ?_)
  refine lv_iload_n hx hb d_Rn_passMark_7 rfl (lv_at hl 0 rfl) ?_
  refine lv_if_lt (tgt := 17) hx hb d_Rn_passMark_8 (by decide) (fun c_1 => ?_) (fun c_1 => ?_)
  · have he := he.trans (if_pos c_1)
    exact W.vret hx hb hr (fun t ht hW => ⟨⟨u, rfl, he.symm, by rw [ht]; exact hP, va_K.moved hW.alike hK, hD⟩, hS.F ht⟩) hS.2.2 d_Rn_passMark_17
  · have he := he.trans (if_neg c_1)
    refine lv_iload_n hx hb d_Rn_passMark_11 rfl (lv_at hl 0 rfl) ?_
    refine lv_bipush (v := 20) hx hb d_Rn_passMark_12 (by decide) ?_
    refine lv_icmp_lt (tgt := 18) hx hb d_Rn_passMark_14 (by decide) (fun c_2 => ?_) (fun c_2 => ?_)
    · have he := he.trans (if_pos c_2)
      refine lv_iload_n hx hb d_Rn_passMark_18 rfl (lv_at hl 2 rfl) ?_
      refine lv_bipush (v := 8) hx hb d_Rn_passMark_19 (by decide) ?_
      refine lv_icmp_ne (tgt := 32) hx hb d_Rn_passMark_21 (by decide) (fun c_3 => ?_) (fun c_3 => ?_)
      · have he := he.trans (if_neg c_3)
        refine lv_iload_n hx hb d_Rn_passMark_32 rfl (lv_at hl 2 rfl) ?_
        refine lv_bipush (v := 6) hx hb d_Rn_passMark_33 (by decide) ?_
        refine lv_icmp_ne (tgt := 45) hx hb d_Rn_passMark_35 (by decide) (fun c_4 => ?_) (fun c_4 => ?_)
        · have he := he.trans (if_neg c_4)
          exact W.vret hx hb hr (fun t ht hW => ⟨⟨u, rfl, he.symm, by rw [ht]; exact hP, va_K.moved hW.alike hK, hD⟩, hS.F ht⟩) hS.2.2 d_Rn_passMark_45
        · have he := he.trans (if_pos c_4)
          refine lv_aload_n hx hb d_Rn_passMark_38 rfl (lv_at hl 1 rfl) ?_
          refine va_get (D := (dC, dI)) (ci := 2) (v := .ref (ad 4)) (C := R_Rn) (T := T_Rn) (N := 12) hx hb ht i_Rn hown hK hP 0 rfl rfl 5 (by decide) (ht _ q_137) (fun _ h9 => h9) rfl d_Rn_passMark_39 ?_
          refine lv_iload_n hx hb d_Rn_passMark_42 rfl (lv_at hl 0 rfl) ?_
          refine lv_iconst (v := 1) hx hb d_Rn_passMark_43 (by decide) ?_
          refine va_zast hx hb hK hP hD hS 4 3 rfl rfl (wx_inAV (by decide) c_1 c_2) d_Rn_passMark_44 (fun H locs hP hD hS => ?_)
          have hP : va_P (dC, dI) vwCl (w_R ad ca b (TRn_set_hadElse u (upd (TRn_hadElse u) ((TRn_openCount u) - 1).toNatClampNeg (vp_nar .boolean 1)))) H := hP
          have hD : va_D A (w_R ad ca b (TRn_set_hadElse u (upd (TRn_hadElse u) ((TRn_openCount u) - 1).toNatClampNeg (vp_nar .boolean 1)))) := hD
          exact W.vret hx hb hr (fun t ht hW => ⟨⟨(TRn_set_hadElse u (upd (TRn_hadElse u) ((TRn_openCount u) - 1).toNatClampNeg (vp_nar .boolean 1))), rfl, he.symm, by rw [ht]; exact hP, va_K.moved hW.alike hK, hD⟩, hS.F ht⟩) hS.2.2 d_Rn_passMark_45
      · have he := he.trans (if_pos c_3)
        refine lv_aload_n hx hb d_Rn_passMark_24 rfl (lv_at hl 1 rfl) ?_
        refine lv_iload_n hx hb d_Rn_passMark_25 rfl (lv_at hl 0 rfl) ?_
        refine va_put (D := (dC, dI)) (ci := 2) (v := .int ((TRn_openCount u) - 1)) (ty := .int) (C := R_Rn) (T := T_Rn) (N := 12) hx hb ht i_Rn ty_Rn ty_Rn_ok nm_Rn hown hK hP hD hS 0 rfl rfl 7 (by decide) (ht _ q_139) (fun _ h9 => h9) rfl (by decide +kernel) rfl rfl (Nat.le_of_ble_eq_true rfl) d_Rn_passMark_26 (fun H locs hP hD hS => ?_)
        have hP : va_P (dC, dI) vwCl (w_R ad ca b (TRn_set_openCount u ((TRn_openCount u) - 1))) H := hP
        have hD : va_D A (w_R ad ca b (TRn_set_openCount u ((TRn_openCount u) - 1))) := hD
        refine lv_goto (tgt := 45) hx hb d_Rn_passMark_29 (by decide) ?_
        exact W.vret hx hb hr (fun t ht hW => ⟨⟨(TRn_set_openCount u ((TRn_openCount u) - 1)), rfl, he.symm, by rw [ht]; exact hP, va_K.moved hW.alike hK, hD⟩, hS.F ht⟩) hS.2.2 d_Rn_passMark_45
    · have he := he.trans (if_neg c_2)
      exact W.vret hx hb hr (fun t ht hW => ⟨⟨u, rfl, he.symm, by rw [ht]; exact hP, va_K.moved hW.alike hK, hD⟩, hS.F ht⟩) hS.2.2 d_Rn_passMark_17
end
section
theorem q_10 : Cond.selects R_Rn y_Rn_lookForMore y_Rn_lookForMore ∈ TB := tq 10 (by decide +kernel) rfl
theorem q_20 : Cond.selects R_Rn y_Rn_isInPlace y_Rn_isInPlace ∈ TB := tq 20 (by decide +kernel) rfl
theorem q_21 : Cond.selects R_Rn y_Rn_passMark y_Rn_passMark ∈ TB := tq 21 (by decide +kernel) rfl
theorem q_132 : Cond.fieldLink R_Rn 25 "ConditionText$Runner" "book" "LConditionText$Book;" ∈ TB := tq 132 (by decide +kernel) rfl
theorem q_257 : Cond.constant R_Rn 44 1000000 ∈ TB := tq 257 (by decide +kernel) rfl
theorem q_283 : Cond.methodLink R_Rn 88 y_Bk_kindOf ∈ TB := tq 283 (by decide +kernel) rfl
theorem q_319 : Cond.methodLink R_Rn 139 y_Rn_lookForMore ∈ TB := tq 319 (by decide +kernel) rfl
theorem q_321 : Cond.instanceMethod y_Rn_lookForMore ∈ TB := tq 321 (by decide +kernel) rfl
theorem q_322 : Cond.code y_Rn_lookForMore b_Rn_lookForMore 2 (some .int) ∈ TB := tq 322 (by decide +kernel) rfl
theorem q_324 : Cond.static y_Ct_isMark ∈ TB := tq 324 (by decide +kernel) rfl
theorem q_325 : Cond.code y_Ct_isMark b_Ct_isMark 1 (some .boolean) ∈ TB := tq 325 (by decide +kernel) rfl
theorem q_391 : Cond.methodLink R_Rn 133 y_Rn_isInPlace ∈ TB := tq 391 (by decide +kernel) rfl
theorem q_393 : Cond.instanceMethod y_Rn_isInPlace ∈ TB := tq 393 (by decide +kernel) rfl
theorem q_394 : Cond.code y_Rn_isInPlace b_Rn_isInPlace 3 (some .boolean) ∈ TB := tq 394 (by decide +kernel) rfl
theorem q_395 : Cond.methodLink R_Rn 136 y_Rn_passMark ∈ TB := tq 395 (by decide +kernel) rfl
theorem q_397 : Cond.instanceMethod y_Rn_passMark ∈ TB := tq 397 (by decide +kernel) rfl
theorem q_398 : Cond.code y_Rn_passMark b_Rn_passMark 3 (none : Option Jvm.ClassFile.FieldType) ∈ TB := tq 398 (by decide +kernel) rfl
theorem d_Rn_skip_0 : decode b_Rn_skip 0 = .ok (.iconst 0, 1) := by decide +kernel
theorem d_Rn_skip_1 : decode b_Rn_skip 1 = .ok (.istore_n 3, 1) := by decide +kernel
theorem d_Rn_skip_2 : decode b_Rn_skip 2 = .ok (.iconst 0, 1) := by decide +kernel
theorem d_Rn_skip_3 : decode b_Rn_skip 3 = .ok (.istore 4, 2) := by decide +kernel
theorem d_Rn_skip_5 : decode b_Rn_skip 5 = .ok (.iconst 0, 1) := by decide +kernel
theorem d_Rn_skip_6 : decode b_Rn_skip 6 = .ok (.istore 5, 2) := by decide +kernel
theorem d_Rn_skip_8 : decode b_Rn_skip 8 = .ok (.iload 5, 2) := by decide +kernel
theorem d_Rn_skip_10 : decode b_Rn_skip 10 = .ok (.ldc 44, 2) := by decide +kernel
theorem d_Rn_skip_12 : decode b_Rn_skip 12 = .ok (.if_icmp .ge 163, 3) := by decide +kernel
theorem d_Rn_skip_15 : decode b_Rn_skip 15 = .ok (.aload_n 0, 1) := by decide +kernel
theorem d_Rn_skip_16 : decode b_Rn_skip 16 = .ok (.invokevirtual 139, 3) := by decide +kernel
theorem d_Rn_skip_19 : decode b_Rn_skip 19 = .ok (.istore 6, 2) := by decide +kernel
theorem d_Rn_skip_21 : decode b_Rn_skip 21 = .ok (.iload 6, 2) := by decide +kernel
theorem d_Rn_skip_23 : decode b_Rn_skip 23 = .ok (.iconst (-1), 1) := by decide +kernel
theorem d_Rn_skip_24 : decode b_Rn_skip 24 = .ok (.if_icmp .ne 4, 3) := by decide +kernel
theorem d_Rn_skip_27 : decode b_Rn_skip 27 = .ok (.return_, 1) := by decide +kernel
theorem d_Rn_skip_28 : decode b_Rn_skip 28 = .ok (.aload_n 0, 1) := by decide +kernel
theorem d_Rn_skip_29 : decode b_Rn_skip 29 = .ok (.getfield 25, 3) := by decide +kernel
theorem d_Rn_skip_32 : decode b_Rn_skip 32 = .ok (.iload 6, 2) := by decide +kernel
theorem d_Rn_skip_34 : decode b_Rn_skip 34 = .ok (.invokevirtual 88, 3) := by decide +kernel
theorem d_Rn_skip_37 : decode b_Rn_skip 37 = .ok (.istore 7, 2) := by decide +kernel
theorem d_Rn_skip_39 : decode b_Rn_skip 39 = .ok (.iload_n 3, 1) := by decide +kernel
theorem d_Rn_skip_40 : decode b_Rn_skip 40 = .ok (.ifCond .ne 81, 3) := by decide +kernel
theorem d_Rn_skip_43 : decode b_Rn_skip 43 = .ok (.iload 7, 2) := by decide +kernel
theorem d_Rn_skip_45 : decode b_Rn_skip 45 = .ok (.invokestatic 94, 3) := by decide +kernel
theorem d_Rn_skip_48 : decode b_Rn_skip 48 = .ok (.ifCond .eq 73, 3) := by decide +kernel
theorem d_Rn_skip_51 : decode b_Rn_skip 51 = .ok (.aload_n 0, 1) := by decide +kernel
theorem d_Rn_skip_52 : decode b_Rn_skip 52 = .ok (.iload 7, 2) := by decide +kernel
theorem d_Rn_skip_54 : decode b_Rn_skip 54 = .ok (.invokevirtual 133, 3) := by decide +kernel
theorem d_Rn_skip_57 : decode b_Rn_skip 57 = .ok (.ifCond .ne 9, 3) := by decide +kernel
theorem d_Rn_skip_60 : decode b_Rn_skip 60 = .ok (.aload_n 0, 1) := by decide +kernel
theorem d_Rn_skip_61 : decode b_Rn_skip 61 = .ok (.iconst 2, 1) := by decide +kernel
theorem d_Rn_skip_62 : decode b_Rn_skip 62 = .ok (.invokevirtual 60, 3) := by decide +kernel
theorem d_Rn_skip_65 : decode b_Rn_skip 65 = .ok (.return_, 1) := by decide +kernel
theorem d_Rn_skip_66 : decode b_Rn_skip 66 = .ok (.aload_n 0, 1) := by decide +kernel
theorem d_Rn_skip_67 : decode b_Rn_skip 67 = .ok (.iload 7, 2) := by decide +kernel
theorem d_Rn_skip_69 : decode b_Rn_skip 69 = .ok (.invokevirtual 136, 3) := by decide +kernel
theorem d_Rn_skip_72 : decode b_Rn_skip 72 = .ok (.iload 4, 2) := by decide +kernel
theorem d_Rn_skip_74 : decode b_Rn_skip 74 = .ok (.iload 7, 2) := by decide +kernel
theorem d_Rn_skip_76 : decode b_Rn_skip 76 = .ok (.bipush 7, 2) := by decide +kernel
theorem d_Rn_skip_78 : decode b_Rn_skip 78 = .ok (.if_icmp .ne 7, 3) := by decide +kernel
theorem d_Rn_skip_81 : decode b_Rn_skip 81 = .ok (.iconst 1, 1) := by decide +kernel
theorem d_Rn_skip_82 : decode b_Rn_skip 82 = .ok (.goto 4, 3) := by decide +kernel
theorem d_Rn_skip_85 : decode b_Rn_skip 85 = .ok (.iconst 0, 1) := by decide +kernel
theorem d_Rn_skip_86 : decode b_Rn_skip 86 = .ok (.iadd, 1) := by decide +kernel
theorem d_Rn_skip_87 : decode b_Rn_skip 87 = .ok (.istore 4, 2) := by decide +kernel
theorem d_Rn_skip_89 : decode b_Rn_skip 89 = .ok (.iload 7, 2) := by decide +kernel
theorem d_Rn_skip_91 : decode b_Rn_skip 91 = .ok (.bipush 8, 2) := by decide +kernel
theorem d_Rn_skip_93 : decode b_Rn_skip 93 = .ok (.if_icmp .eq 27, 3) := by decide +kernel
theorem d_Rn_skip_96 : decode b_Rn_skip 96 = .ok (.iload 7, 2) := by decide +kernel
theorem d_Rn_skip_98 : decode b_Rn_skip 98 = .ok (.bipush 6, 2) := by decide +kernel
theorem d_Rn_skip_100 : decode b_Rn_skip 100 = .ok (.if_icmp .ne 7, 3) := by decide +kernel
theorem d_Rn_skip_103 : decode b_Rn_skip 103 = .ok (.iload_n 2, 1) := by decide +kernel
theorem d_Rn_skip_104 : decode b_Rn_skip 104 = .ok (.ifCond .ne 16, 3) := by decide +kernel
theorem d_Rn_skip_107 : decode b_Rn_skip 107 = .ok (.iload 7, 2) := by decide +kernel
theorem d_Rn_skip_109 : decode b_Rn_skip 109 = .ok (.bipush 7, 2) := by decide +kernel
theorem d_Rn_skip_111 : decode b_Rn_skip 111 = .ok (.if_icmp .ne 58, 3) := by decide +kernel
theorem d_Rn_skip_114 : decode b_Rn_skip 114 = .ok (.iload 4, 2) := by decide +kernel
theorem d_Rn_skip_116 : decode b_Rn_skip 116 = .ok (.iload_n 1, 1) := by decide +kernel
theorem d_Rn_skip_117 : decode b_Rn_skip 117 = .ok (.if_icmp .ne 52, 3) := by decide +kernel
theorem d_Rn_skip_120 : decode b_Rn_skip 120 = .ok (.return_, 1) := by decide +kernel
theorem d_Rn_skip_121 : decode b_Rn_skip 121 = .ok (.iload 7, 2) := by decide +kernel
theorem d_Rn_skip_123 : decode b_Rn_skip 123 = .ok (.iconst 3, 1) := by decide +kernel
theorem d_Rn_skip_124 : decode b_Rn_skip 124 = .ok (.if_icmp .ne 10, 3) := by decide +kernel
theorem d_Rn_skip_127 : decode b_Rn_skip 127 = .ok (.aload_n 0, 1) := by decide +kernel
theorem d_Rn_skip_128 : decode b_Rn_skip 128 = .ok (.bipush 7, 2) := by decide +kernel
theorem d_Rn_skip_130 : decode b_Rn_skip 130 = .ok (.invokevirtual 60, 3) := by decide +kernel
theorem d_Rn_skip_133 : decode b_Rn_skip 133 = .ok (.return_, 1) := by decide +kernel
theorem d_Rn_skip_134 : decode b_Rn_skip 134 = .ok (.aload_n 0, 1) := by decide +kernel
theorem d_Rn_skip_135 : decode b_Rn_skip 135 = .ok (.dup, 1) := by decide +kernel
theorem d_Rn_skip_136 : decode b_Rn_skip 136 = .ok (.getfield 75, 3) := by decide +kernel
theorem d_Rn_skip_139 : decode b_Rn_skip 139 = .ok (.iconst 1, 1) := by decide +kernel
theorem d_Rn_skip_140 : decode b_Rn_skip 140 = .ok (.iadd, 1) := by decide +kernel
theorem d_Rn_skip_141 : decode b_Rn_skip 141 = .ok (.putfield 75, 3) := by decide +kernel
theorem d_Rn_skip_144 : decode b_Rn_skip 144 = .ok (.iload_n 3, 1) := by decide +kernel
theorem d_Rn_skip_145 : decode b_Rn_skip 145 = .ok (.iload 7, 2) := by decide +kernel
theorem d_Rn_skip_147 : decode b_Rn_skip 147 = .ok (.iconst 5, 1) := by decide +kernel
theorem d_Rn_skip_148 : decode b_Rn_skip 148 = .ok (.if_icmp .ne 7, 3) := by decide +kernel
theorem d_Rn_skip_151 : decode b_Rn_skip 151 = .ok (.iconst 1, 1) := by decide +kernel
theorem d_Rn_skip_152 : decode b_Rn_skip 152 = .ok (.goto 15, 3) := by decide +kernel
theorem d_Rn_skip_155 : decode b_Rn_skip 155 = .ok (.iload 7, 2) := by decide +kernel
theorem d_Rn_skip_157 : decode b_Rn_skip 157 = .ok (.bipush 8, 2) := by decide +kernel
theorem d_Rn_skip_159 : decode b_Rn_skip 159 = .ok (.if_icmp .ne 7, 3) := by decide +kernel
theorem d_Rn_skip_162 : decode b_Rn_skip 162 = .ok (.iconst (-1), 1) := by decide +kernel
theorem d_Rn_skip_163 : decode b_Rn_skip 163 = .ok (.goto 4, 3) := by decide +kernel
theorem d_Rn_skip_166 : decode b_Rn_skip 166 = .ok (.iconst 0, 1) := by decide +kernel
theorem d_Rn_skip_167 : decode b_Rn_skip 167 = .ok (.iadd, 1) := by decide +kernel
theorem d_Rn_skip_168 : decode b_Rn_skip 168 = .ok (.istore_n 3, 1) := by decide +kernel
theorem d_Rn_skip_169 : decode b_Rn_skip 169 = .ok (.iinc 5 1, 3) := by decide +kernel
theorem d_Rn_skip_172 : decode b_Rn_skip 172 = .ok (.goto (-164), 3) := by decide +kernel
theorem d_Rn_skip_175 : decode b_Rn_skip 175 = .ok (.return_, 1) := by decide +kernel
noncomputable def f_Rn_skip_8 : Nat → TBk → TRn → Int32 → Int32 → Int32 → Int32 → Int32 → TRn
  | 0, _, u, _, _, _, _, _ => u
  | n + 1, b, u, x1, x2, x3, x4, x5 => (if 1000000 ≤ x5 then u else (match f_Rn_lookForMore b u with | (r_2, v_2) => (if r_2 = (-1) then v_2 else (if x3 = 0 then (if (f_Ct_isMark (f_Bk_kindOf b r_2)) = 0 then (if (f_Bk_kindOf b r_2) = 3 then (let v_15 := f_Rn_fail b v_2 7; v_15) else (if (f_Bk_kindOf b r_2) = 5 then (f_Rn_skip_8 n b (TRn_set_skipped v_2 ((TRn_skipped v_2) + 1)) x1 x2 (x3 + 1) x4 (x5 + 1)) else (if (f_Bk_kindOf b r_2) = 8 then (f_Rn_skip_8 n b (TRn_set_skipped v_2 ((TRn_skipped v_2) + 1)) x1 x2 (x3 + (-1)) x4 (x5 + 1)) else (f_Rn_skip_8 n b (TRn_set_skipped v_2 ((TRn_skipped v_2) + 1)) x1 x2 (x3 + 0) x4 (x5 + 1))))) else (if (f_Rn_isInPlace b v_2 (f_Bk_kindOf b r_2)) = 0 then (let v_32 := f_Rn_fail b v_2 2; v_32) else (let v_18 := f_Rn_passMark b v_2 (f_Bk_kindOf b r_2); (if (f_Bk_kindOf b r_2) = 7 then (if (f_Bk_kindOf b r_2) = 8 then v_18 else (if (f_Bk_kindOf b r_2) = 6 then (if x2 = 0 then (if (x4 + 1) = x1 then v_18 else (f_Rn_skip_8 n b v_18 x1 x2 x3 (x4 + 1) (x5 + 1))) else v_18) else (if (x4 + 1) = x1 then v_18 else (f_Rn_skip_8 n b v_18 x1 x2 x3 (x4 + 1) (x5 + 1))))) else (if (f_Bk_kindOf b r_2) = 8 then v_18 else (if (f_Bk_kindOf b r_2) = 6 then (if x2 = 0 then (f_Rn_skip_8 n b v_18 x1 x2 x3 (x4 + 0) (x5 + 1)) else v_18) else (f_Rn_skip_8 n b v_18 x1 x2 x3 (x4 + 0) (x5 + 1)))))))) else (if (f_Bk_kindOf b r_2) = 3 then (let v_9 := f_Rn_fail b v_2 7; v_9) else (if (f_Bk_kindOf b r_2) = 5 then (f_Rn_skip_8 n b (TRn_set_skipped v_2 ((TRn_skipped v_2) + 1)) x1 x2 (x3 + 1) x4 (x5 + 1)) else (if (f_Bk_kindOf b r_2) = 8 then (f_Rn_skip_8 n b (TRn_set_skipped v_2 ((TRn_skipped v_2) + 1)) x1 x2 (x3 + (-1)) x4 (x5 + 1)) else (f_Rn_skip_8 n b (TRn_set_skipped v_2 ((TRn_skipped v_2) + 1)) x1 x2 (x3 + 0) x4 (x5 + 1)))))))))
set_option maxHeartbeats 4000000 in
set_option maxRecDepth 100000 in
theorem k_Rn_skip_8 {p : Program} {e : Env} {s : State} {m : MethodId} {args : Array Value} {below : List Frame} {meth : Method} {c : Code} {A : Nat → Prop} (l : Launch) (dC : Nat → ClassId) (dI : Nat → Nat → Nat) (ad : Nat → Nat) (ca : Nat → ClassId) (C0 : wx_C p s m args meth c b_Rn_skip (none) 8 R_Rn A (dC, dI) vwCl (t_R ca)) (F : TRn) : ∀ (n : Nat) (b : TBk) (u : TRn) (x1 : Int32) (x2 : Int32) (x3 : Int32) (x4 : Int32) (x5 : Int32), (BkS b) → (TLn 1000000 x5 n) → F = f_Rn_skip_8 n b u x1 x2 x3 x4 x5 → ∀ (H : Heap) (locs : List Loc), va_P (dC, dI) vwCl (w_R ad ca b u) H → va_D A (w_R ad ca b u) → va_S A s.heap H locs → ∀ (ls : Array Slot), lv_has ls 8 [(0, .ref (ad 0)), (1, .int x1), (2, .int x2), (3, .int x3), (4, .int x4), (5, .int x5)] → W p l e ({ frames := 4, cells := 0, slots := 0, locals := 86 } : Room) s m args below meth c H locs 0 0 (MQ below (va_Qv (fun v : TRn => v = F) (wx_B (dC, dI) vwCl (t_R ca) (fun v : TRn => w_R ad ca b v) A) A) args s 0 0 A) (F0 m 8 ls []) := by
  have C1 := C0
  obtain ⟨hx, hb, hr, hml, hown, ht, hlocks, hA, hK, hN⟩ := C1
  intro n
  induction n with
  | zero =>
    intro b u x1 x2 x3 x4 x5 hpre hc he
    exact absurd hc (fun h => TLn_0 h)
  | succ n ih =>
    intro b u x1 x2 x3 x4 x5 hpre hc he H locs hP hD hS ls hl
    rw [f_Rn_skip_8] at he
    refine lv_iload hx hb d_Rn_skip_8 (lv_at hl 5 rfl) ?_
    refine lv_ldc (v := 1000000) hx hb hown (ht _ q_257) d_Rn_skip_10 ?_
    refine lv_icmp_ge (tgt := 175) hx hb d_Rn_skip_12 (by decide) (fun c_1 => ?_) (fun c_1 => ?_)
    · have he := he.trans (if_pos c_1)
      exact W.vret hx hb hr (fun t ht hW => ⟨⟨u, rfl, he.symm, by rw [ht]; exact hP, va_K.moved hW.alike hK, hD⟩, hS.F ht⟩) hS.2.2 d_Rn_skip_175
    · have he := he.trans (if_neg c_1)
      refine lv_aload_n hx hb d_Rn_skip_15 rfl (lv_at hl 0 rfl) ?_
      refine wx_ci (wS := fun v : TRn => w_R ad ca b v) (ws2 := fun v : TRn => w_R ad ca b v) (va_runV (As := []) (rest := []) ⟨hx, hb, hml, hown, ht⟩ (c_Rn_lookForMore l dC dI ad ca H.size b u hpre _ rfl) (cwV 0 ht (tb_V q_319 q_321 q_10 q_46 q_322) rfl rfl rfl p_Rn_lookForMore ⟨show 3 + 1 ≤ 4 by omega, show 8 + (2 + 11) + 65 ≤ 86 by omega⟩) (wx_preV (wc := (w_R ad ca b u)) hN hK hP hD [0, 1, 2, 3, 4, 5, 6, 7, 8, 9, 10, 11, 12, 13, 14] [0, 1, 2, 3, 4, 5, 6, 7, 8, 9, 10, 11] rfl (by decide) rfl (ci := 2) (q0 := 0) rfl rfl) rfl rfl hl.1 rfl (lv_room (Nat.le_of_ble_eq_true rfl)) d_Rn_skip_16 ⟨Nat.zero_le _, Nat.zero_le _⟩) hP hD hS hA [0, 1, 2, 3, 4, 5, 6, 7, 8, 9, 10, 11, 12, 13, 14] [] [0, 1, 2, 3, 4, 5, 6, 7, 8, 9, 10, 11, 12, 13, 14] rfl rfl (by decide) (by decide) (by decide) (fun _ => rfl) (fun r_2 v_2 H locs hw hP hD hS => ?_)
      have hP : va_P (dC, dI) vwCl (w_R ad ca b v_2) H := hP
      have hD : va_D A (w_R ad ca b v_2) := hD
      rw [← hw] at he
      try dsimp only at he
      refine lv_istore (lv' := [(6, .int r_2), (0, .ref (ad 0)), (1, .int x1), (2, .int x2), (3, .int x3), (4, .int x4), (5, .int x5)]) hx hb d_Rn_skip_19 hl (by decide) rfl (fun ls hl => ?_)
      refine lv_iload hx hb d_Rn_skip_21 (lv_at hl 0 rfl) ?_
      refine lv_iconst (v := (-1)) hx hb d_Rn_skip_23 (by decide) ?_
      refine lv_icmp_ne (tgt := 28) hx hb d_Rn_skip_24 (by decide) (fun c_3 => ?_) (fun c_3 => ?_)
      · have he := he.trans (if_neg c_3)
        refine lv_aload_n hx hb d_Rn_skip_28 rfl (lv_at hl 1 rfl) ?_
        refine va_get (D := (dC, dI)) (ci := 2) (v := .ref (ad 8)) (C := R_Rn) (T := T_Rn) (N := 12) hx hb ht i_Rn hown hK hP 0 rfl rfl 0 (by decide) (ht _ q_132) (fun _ h9 => h9) rfl d_Rn_skip_29 ?_
        refine lv_iload hx hb d_Rn_skip_32 (lv_at hl 0 rfl) ?_
        refine wx_ci (wS := fun _ : Unit => w_B ad ca b) (ws2 := fun _ : Unit => w_R ad ca b v_2) (va_runV (As := [.int r_2]) (rest := []) ⟨hx, hb, hml, hown, ht⟩ (c_Bk_kindOf l dC dI ad ca H.size b r_2 _ rfl) (cwV 1 ht (tb_V q_283 q_284 q_285 q_45 q_286) rfl rfl rfl p_Bk_kindOf ⟨show 1 + 1 ≤ 4 by omega, show 8 + (2 + 11) + 20 ≤ 86 by omega⟩) (wx_preV (wc := (w_B ad ca b)) hN hK hP hD [8, 9, 10, 11, 12, 13, 14] [6, 7, 8, 9, 10, 11] rfl (by decide) rfl (ci := 0) (q0 := 0) rfl rfl) rfl rfl hl.1 rfl (lv_room (Nat.le_of_ble_eq_true rfl)) d_Rn_skip_34 ⟨Nat.zero_le _, Nat.zero_le _⟩) hP hD hS hA [8, 9, 10, 11, 12, 13, 14] [0, 1, 2, 3, 4, 5, 6, 7] [0, 1, 2, 3, 4, 5, 6, 7, 8, 9, 10, 11, 12, 13, 14] rfl rfl (by decide) (by decide) (by decide) (fun _ => rfl) (fun r_4 _ H locs hw hP hD hS => ?_)
        subst hw
        have hP : va_P (dC, dI) vwCl (w_R ad ca b v_2) H := hP
        have hD : va_D A (w_R ad ca b v_2) := hD
        refine lv_istore (lv' := [(7, .int (f_Bk_kindOf b r_2)), (6, .int r_2), (0, .ref (ad 0)), (1, .int x1), (2, .int x2), (3, .int x3), (4, .int x4), (5, .int x5)]) hx hb d_Rn_skip_37 hl (by decide) rfl (fun ls hl => ?_)
        refine lv_iload_n hx hb d_Rn_skip_39 rfl (lv_at hl 5 rfl) ?_
        refine lv_if_ne (tgt := 121) hx hb d_Rn_skip_40 (by decide) (fun c_5 => ?_) (fun c_5 => ?_)
        · have he := he.trans (if_neg c_5)
          refine lv_iload hx hb d_Rn_skip_121 (lv_at hl 0 rfl) ?_
          refine lv_iconst (v := 3) hx hb d_Rn_skip_123 (by decide) ?_
          refine lv_icmp_ne (tgt := 134) hx hb d_Rn_skip_124 (by decide) (fun c_6 => ?_) (fun c_6 => ?_)
          · have he := he.trans (if_neg c_6)
            refine lv_aload_n hx hb d_Rn_skip_134 rfl (lv_at hl 2 rfl) ?_
            refine lv_dup hx hb d_Rn_skip_135 rfl ?_
            refine va_get (D := (dC, dI)) (ci := 2) (v := .int (TRn_skipped v_2)) (C := R_Rn) (T := T_Rn) (N := 12) hx hb ht i_Rn hown hK hP 0 rfl rfl 10 (by decide) (ht _ q_142) (fun _ h9 => h9) rfl d_Rn_skip_136 ?_
            refine lv_iconst (v := 1) hx hb d_Rn_skip_139 (by decide) ?_
            refine lv_iadd hx hb d_Rn_skip_140 ?_
            refine va_put (D := (dC, dI)) (ci := 2) (v := .int ((TRn_skipped v_2) + 1)) (ty := .int) (C := R_Rn) (T := T_Rn) (N := 12) hx hb ht i_Rn ty_Rn ty_Rn_ok nm_Rn hown hK hP hD hS 0 rfl rfl 10 (by decide) (ht _ q_142) (fun _ h9 => h9) rfl (by decide +kernel) rfl rfl (Nat.le_of_ble_eq_true rfl) d_Rn_skip_141 (fun H locs hP hD hS => ?_)
            have hP : va_P (dC, dI) vwCl (w_R ad ca b (TRn_set_skipped v_2 ((TRn_skipped v_2) + 1))) H := hP
            have hD : va_D A (w_R ad ca b (TRn_set_skipped v_2 ((TRn_skipped v_2) + 1))) := hD
            refine lv_iload_n hx hb d_Rn_skip_144 rfl (lv_at hl 5 rfl) ?_
            refine lv_iload hx hb d_Rn_skip_145 (lv_at hl 0 rfl) ?_
            refine lv_iconst (v := 5) hx hb d_Rn_skip_147 (by decide) ?_
            refine lv_icmp_ne (tgt := 155) hx hb d_Rn_skip_148 (by decide) (fun c_7 => ?_) (fun c_7 => ?_)
            · have he := he.trans (if_neg c_7)
              refine lv_iload hx hb d_Rn_skip_155 (lv_at hl 0 rfl) ?_
              refine lv_bipush (v := 8) hx hb d_Rn_skip_157 (by decide) ?_
              refine lv_icmp_ne (tgt := 166) hx hb d_Rn_skip_159 (by decide) (fun c_8 => ?_) (fun c_8 => ?_)
              · have he := he.trans (if_neg c_8)
                refine lv_iconst (v := 0) hx hb d_Rn_skip_166 (by decide) ?_
                refine lv_iadd hx hb d_Rn_skip_167 ?_
                refine lv_istore_n (lv' := [(3, .int (x3 + 0)), (7, .int (f_Bk_kindOf b r_2)), (6, .int r_2), (0, .ref (ad 0)), (1, .int x1), (2, .int x2), (4, .int x4), (5, .int x5)]) hx hb d_Rn_skip_168 rfl hl (by decide) rfl (fun ls hl => ?_)
                refine lv_iinc (v := (x5 + 1)) (lv' := [(5, .int (x5 + 1)), (3, .int (x3 + 0)), (7, .int (f_Bk_kindOf b r_2)), (6, .int r_2), (0, .ref (ad 0)), (1, .int x1), (2, .int x2), (4, .int x4)]) hx hb d_Rn_skip_169 hl (k := 7) rfl rfl (by decide) rfl (fun ls hl => ?_)
                refine lv_goto (tgt := 8) hx hb d_Rn_skip_172 (by decide) ?_
                exact ih b (TRn_set_skipped v_2 ((TRn_skipped v_2) + 1)) x1 x2 (x3 + 0) x4 (x5 + 1) hpre (TLn_s hc (by decide) c_1) he _ _ hP hD hS _ (lv_sub hl [4, 5, 6, 1, 7, 0] rfl)
              · have he := he.trans (if_pos c_8)
                refine lv_iconst (v := (-1)) hx hb d_Rn_skip_162 (by decide) ?_
                refine lv_goto (tgt := 167) hx hb d_Rn_skip_163 (by decide) ?_
                refine lv_iadd hx hb d_Rn_skip_167 ?_
                refine lv_istore_n (lv' := [(3, .int (x3 + (-1))), (7, .int (f_Bk_kindOf b r_2)), (6, .int r_2), (0, .ref (ad 0)), (1, .int x1), (2, .int x2), (4, .int x4), (5, .int x5)]) hx hb d_Rn_skip_168 rfl hl (by decide) rfl (fun ls hl => ?_)
                refine lv_iinc (v := (x5 + 1)) (lv' := [(5, .int (x5 + 1)), (3, .int (x3 + (-1))), (7, .int (f_Bk_kindOf b r_2)), (6, .int r_2), (0, .ref (ad 0)), (1, .int x1), (2, .int x2), (4, .int x4)]) hx hb d_Rn_skip_169 hl (k := 7) rfl rfl (by decide) rfl (fun ls hl => ?_)
                refine lv_goto (tgt := 8) hx hb d_Rn_skip_172 (by decide) ?_
                exact ih b (TRn_set_skipped v_2 ((TRn_skipped v_2) + 1)) x1 x2 (x3 + (-1)) x4 (x5 + 1) hpre (TLn_s hc (by decide) c_1) he _ _ hP hD hS _ (lv_sub hl [4, 5, 6, 1, 7, 0] rfl)
            · have he := he.trans (if_pos c_7)
              refine lv_iconst (v := 1) hx hb d_Rn_skip_151 (by decide) ?_
              refine lv_goto (tgt := 167) hx hb d_Rn_skip_152 (by decide) ?_
              refine lv_iadd hx hb d_Rn_skip_167 ?_
              refine lv_istore_n (lv' := [(3, .int (x3 + 1)), (7, .int (f_Bk_kindOf b r_2)), (6, .int r_2), (0, .ref (ad 0)), (1, .int x1), (2, .int x2), (4, .int x4), (5, .int x5)]) hx hb d_Rn_skip_168 rfl hl (by decide) rfl (fun ls hl => ?_)
              refine lv_iinc (v := (x5 + 1)) (lv' := [(5, .int (x5 + 1)), (3, .int (x3 + 1)), (7, .int (f_Bk_kindOf b r_2)), (6, .int r_2), (0, .ref (ad 0)), (1, .int x1), (2, .int x2), (4, .int x4)]) hx hb d_Rn_skip_169 hl (k := 7) rfl rfl (by decide) rfl (fun ls hl => ?_)
              refine lv_goto (tgt := 8) hx hb d_Rn_skip_172 (by decide) ?_
              exact ih b (TRn_set_skipped v_2 ((TRn_skipped v_2) + 1)) x1 x2 (x3 + 1) x4 (x5 + 1) hpre (TLn_s hc (by decide) c_1) he _ _ hP hD hS _ (lv_sub hl [4, 5, 6, 1, 7, 0] rfl)
          · have he := he.trans (if_pos c_6)
            refine lv_aload_n hx hb d_Rn_skip_127 rfl (lv_at hl 2 rfl) ?_
            refine lv_bipush (v := 7) hx hb d_Rn_skip_128 (by decide) ?_
            refine wx_cv (wS := fun v : TRn => w_R ad ca b v) (ws2 := fun v : TRn => w_R ad ca b v) (va_runV (As := [.int 7]) (rest := []) ⟨hx, hb, hml, hown, ht⟩ (c_Rn_fail l dC dI ad ca H.size b v_2 7 _ rfl) (cwV 1 ht (tb_V q_275 q_277 q_3 q_46 q_278) rfl rfl rfl p_Rn_fail ⟨show 0 + 1 ≤ 4 by omega, show 8 + (2 + 11) + 0 ≤ 86 by omega⟩) (wx_preV (wc := (w_R ad ca b v_2)) hN hK hP hD [0, 1, 2, 3, 4, 5, 6, 7, 8, 9, 10, 11, 12, 13, 14] [0, 1, 2, 3, 4, 5, 6, 7, 8, 9, 10, 11] rfl (by decide) rfl (ci := 2) (q0 := 0) rfl rfl) rfl rfl hl.1 rfl (lv_room (Nat.le_of_ble_eq_true rfl)) d_Rn_skip_130 ⟨Nat.zero_le _, Nat.zero_le _⟩) hP hD hS hA [0, 1, 2, 3, 4, 5, 6, 7, 8, 9, 10, 11, 12, 13, 14] [] [0, 1, 2, 3, 4, 5, 6, 7, 8, 9, 10, 11, 12, 13, 14] rfl rfl (by decide) (by decide) (by decide) (fun _ => rfl) (fun v_9 H locs hw hP hD hS => ?_)
            have hP : va_P (dC, dI) vwCl (w_R ad ca b v_9) H := hP
            have hD : va_D A (w_R ad ca b v_9) := hD
            rw [← hw] at he
            try dsimp only at he
            exact W.vret hx hb hr (fun t ht hW => ⟨⟨v_9, rfl, he.symm, by rw [ht]; exact hP, va_K.moved hW.alike hK, hD⟩, hS.F ht⟩) hS.2.2 d_Rn_skip_133
        · have he := he.trans (if_pos c_5)
          refine lv_iload hx hb d_Rn_skip_43 (lv_at hl 0 rfl) ?_
          refine wx_ci (wS := fun _ : Unit => w_E ad ca) (ws2 := fun _ : Unit => w_R ad ca b v_2) (va_runSN (As := [.int (f_Bk_kindOf b r_2)]) (rest := []) ⟨hx, hb, hml, hown, ht⟩ (c_Ct_isMark l dC dI ad ca H.size (f_Bk_kindOf b r_2) _ rfl) ⟨va_cnB 1 ht (tb_in q_325) rfl rfl rfl (hN _ nest_2) (ht _ q_44) p_Ct_isMark.2 ⟨show 0 + 1 ≤ 4 by omega, show 8 + (1 + 11) + 0 ≤ 86 by omega⟩, ht _ q_324, trivial⟩ (wx_preS (wc := (w_E ad ca)) hN hK hP hD [] [] rfl (by decide) rfl) rfl rfl hl.1 rfl (lv_room (Nat.le_of_ble_eq_true rfl)) d_Rn_skip_45 ⟨Nat.zero_le _, Nat.zero_le _⟩) hP hD hS hA [] [0, 1, 2, 3, 4, 5, 6, 7, 8, 9, 10, 11, 12, 13, 14] [0, 1, 2, 3, 4, 5, 6, 7, 8, 9, 10, 11, 12, 13, 14] rfl rfl (by decide) (by decide) (by decide) (fun _ => rfl) (fun r_10 _ H locs hw hP hD hS => ?_)
          subst hw
          have hP : va_P (dC, dI) vwCl (w_R ad ca b v_2) H := hP
          have hD : va_D A (w_R ad ca b v_2) := hD
          refine lv_if_eq (tgt := 121) hx hb d_Rn_skip_48 (by decide) (fun c_11 => ?_) (fun c_11 => ?_)
          · have he := he.trans (if_pos c_11)
            refine lv_iload hx hb d_Rn_skip_121 (lv_at hl 0 rfl) ?_
            refine lv_iconst (v := 3) hx hb d_Rn_skip_123 (by decide) ?_
            refine lv_icmp_ne (tgt := 134) hx hb d_Rn_skip_124 (by decide) (fun c_12 => ?_) (fun c_12 => ?_)
            · have he := he.trans (if_neg c_12)
              refine lv_aload_n hx hb d_Rn_skip_134 rfl (lv_at hl 2 rfl) ?_
              refine lv_dup hx hb d_Rn_skip_135 rfl ?_
              refine va_get (D := (dC, dI)) (ci := 2) (v := .int (TRn_skipped v_2)) (C := R_Rn) (T := T_Rn) (N := 12) hx hb ht i_Rn hown hK hP 0 rfl rfl 10 (by decide) (ht _ q_142) (fun _ h9 => h9) rfl d_Rn_skip_136 ?_
              refine lv_iconst (v := 1) hx hb d_Rn_skip_139 (by decide) ?_
              refine lv_iadd hx hb d_Rn_skip_140 ?_
              refine va_put (D := (dC, dI)) (ci := 2) (v := .int ((TRn_skipped v_2) + 1)) (ty := .int) (C := R_Rn) (T := T_Rn) (N := 12) hx hb ht i_Rn ty_Rn ty_Rn_ok nm_Rn hown hK hP hD hS 0 rfl rfl 10 (by decide) (ht _ q_142) (fun _ h9 => h9) rfl (by decide +kernel) rfl rfl (Nat.le_of_ble_eq_true rfl) d_Rn_skip_141 (fun H locs hP hD hS => ?_)
              have hP : va_P (dC, dI) vwCl (w_R ad ca b (TRn_set_skipped v_2 ((TRn_skipped v_2) + 1))) H := hP
              have hD : va_D A (w_R ad ca b (TRn_set_skipped v_2 ((TRn_skipped v_2) + 1))) := hD
              refine lv_iload_n hx hb d_Rn_skip_144 rfl (lv_at hl 5 rfl) ?_
              refine lv_iload hx hb d_Rn_skip_145 (lv_at hl 0 rfl) ?_
              refine lv_iconst (v := 5) hx hb d_Rn_skip_147 (by decide) ?_
              refine lv_icmp_ne (tgt := 155) hx hb d_Rn_skip_148 (by decide) (fun c_13 => ?_) (fun c_13 => ?_)
              · have he := he.trans (if_neg c_13)
                refine lv_iload hx hb d_Rn_skip_155 (lv_at hl 0 rfl) ?_
                refine lv_bipush (v := 8) hx hb d_Rn_skip_157 (by decide) ?_
                refine lv_icmp_ne (tgt := 166) hx hb d_Rn_skip_159 (by decide) (fun c_14 => ?_) (fun c_14 => ?_)
                · have he := he.trans (if_neg c_14)
                  refine lv_iconst (v := 0) hx hb d_Rn_skip_166 (by decide) ?_
                  refine lv_iadd hx hb d_Rn_skip_167 ?_
                  refine lv_istore_n (lv' := [(3, .int (x3 + 0)), (7, .int (f_Bk_kindOf b r_2)), (6, .int r_2), (0, .ref (ad 0)), (1, .int x1), (2, .int x2), (4, .int x4), (5, .int x5)]) hx hb d_Rn_skip_168 rfl hl (by decide) rfl (fun ls hl => ?_)
                  refine lv_iinc (v := (x5 + 1)) (lv' := [(5, .int (x5 + 1)), (3, .int (x3 + 0)), (7, .int (f_Bk_kindOf b r_2)), (6, .int r_2), (0, .ref (ad 0)), (1, .int x1), (2, .int x2), (4, .int x4)]) hx hb d_Rn_skip_169 hl (k := 7) rfl rfl (by decide) rfl (fun ls hl => ?_)
                  refine lv_goto (tgt := 8) hx hb d_Rn_skip_172 (by decide) ?_
                  exact ih b (TRn_set_skipped v_2 ((TRn_skipped v_2) + 1)) x1 x2 (x3 + 0) x4 (x5 + 1) hpre (TLn_s hc (by decide) c_1) he _ _ hP hD hS _ (lv_sub hl [4, 5, 6, 1, 7, 0] rfl)
                · have he := he.trans (if_pos c_14)
                  refine lv_iconst (v := (-1)) hx hb d_Rn_skip_162 (by decide) ?_
                  refine lv_goto (tgt := 167) hx hb d_Rn_skip_163 (by decide) ?_
                  refine lv_iadd hx hb d_Rn_skip_167 ?_
                  refine lv_istore_n (lv' := [(3, .int (x3 + (-1))), (7, .int (f_Bk_kindOf b r_2)), (6, .int r_2), (0, .ref (ad 0)), (1, .int x1), (2, .int x2), (4, .int x4), (5, .int x5)]) hx hb d_Rn_skip_168 rfl hl (by decide) rfl (fun ls hl => ?_)
                  refine lv_iinc (v := (x5 + 1)) (lv' := [(5, .int (x5 + 1)), (3, .int (x3 + (-1))), (7, .int (f_Bk_kindOf b r_2)), (6, .int r_2), (0, .ref (ad 0)), (1, .int x1), (2, .int x2), (4, .int x4)]) hx hb d_Rn_skip_169 hl (k := 7) rfl rfl (by decide) rfl (fun ls hl => ?_)
                  refine lv_goto (tgt := 8) hx hb d_Rn_skip_172 (by decide) ?_
                  exact ih b (TRn_set_skipped v_2 ((TRn_skipped v_2) + 1)) x1 x2 (x3 + (-1)) x4 (x5 + 1) hpre (TLn_s hc (by decide) c_1) he _ _ hP hD hS _ (lv_sub hl [4, 5, 6, 1, 7, 0] rfl)
              · have he := he.trans (if_pos c_13)
                refine lv_iconst (v := 1) hx hb d_Rn_skip_151 (by decide) ?_
                refine lv_goto (tgt := 167) hx hb d_Rn_skip_152 (by decide) ?_
                refine lv_iadd hx hb d_Rn_skip_167 ?_
                refine lv_istore_n (lv' := [(3, .int (x3 + 1)), (7, .int (f_Bk_kindOf b r_2)), (6, .int r_2), (0, .ref (ad 0)), (1, .int x1), (2, .int x2), (4, .int x4), (5, .int x5)]) hx hb d_Rn_skip_168 rfl hl (by decide) rfl (fun ls hl => ?_)
                refine lv_iinc (v := (x5 + 1)) (lv' := [(5, .int (x5 + 1)), (3, .int (x3 + 1)), (7, .int (f_Bk_kindOf b r_2)), (6, .int r_2), (0, .ref (ad 0)), (1, .int x1), (2, .int x2), (4, .int x4)]) hx hb d_Rn_skip_169 hl (k := 7) rfl rfl (by decide) rfl (fun ls hl => ?_)
                refine lv_goto (tgt := 8) hx hb d_Rn_skip_172 (by decide) ?_
                exact ih b (TRn_set_skipped v_2 ((TRn_skipped v_2) + 1)) x1 x2 (x3 + 1) x4 (x5 + 1) hpre (TLn_s hc (by decide) c_1) he _ _ hP hD hS _ (lv_sub hl [4, 5, 6, 1, 7, 0] rfl)
            · have he := he.trans (if_pos c_12)
              refine lv_aload_n hx hb d_Rn_skip_127 rfl (lv_at hl 2 rfl) ?_
              refine lv_bipush (v := 7) hx hb d_Rn_skip_128 (by decide) ?_
              refine wx_cv (wS := fun v : TRn => w_R ad ca b v) (ws2 := fun v : TRn => w_R ad ca b v) (va_runV (As := [.int 7]) (rest := []) ⟨hx, hb, hml, hown, ht⟩ (c_Rn_fail l dC dI ad ca H.size b v_2 7 _ rfl) (cwV 1 ht (tb_V q_275 q_277 q_3 q_46 q_278) rfl rfl rfl p_Rn_fail ⟨show 0 + 1 ≤ 4 by omega, show 8 + (2 + 11) + 0 ≤ 86 by omega⟩) (wx_preV (wc := (w_R ad ca b v_2)) hN hK hP hD [0, 1, 2, 3, 4, 5, 6, 7, 8, 9, 10, 11, 12, 13, 14] [0, 1, 2, 3, 4, 5, 6, 7, 8, 9, 10, 11] rfl (by decide) rfl (ci := 2) (q0 := 0) rfl rfl) rfl rfl hl.1 rfl (lv_room (Nat.le_of_ble_eq_true rfl)) d_Rn_skip_130 ⟨Nat.zero_le _, Nat.zero_le _⟩) hP hD hS hA [0, 1, 2, 3, 4, 5, 6, 7, 8, 9, 10, 11, 12, 13, 14] [] [0, 1, 2, 3, 4, 5, 6, 7, 8, 9, 10, 11, 12, 13, 14] rfl rfl (by decide) (by decide) (by decide) (fun _ => rfl) (fun v_15 H locs hw hP hD hS => ?_)
              have hP : va_P (dC, dI) vwCl (w_R ad ca b v_15) H := hP
              have hD : va_D A (w_R ad ca b v_15) := hD
              rw [← hw] at he
              try dsimp only at he
              exact W.vret hx hb hr (fun t ht hW => ⟨⟨v_15, rfl, he.symm, by rw [ht]; exact hP, va_K.moved hW.alike hK, hD⟩, hS.F ht⟩) hS.2.2 d_Rn_skip_133
          · have he := he.trans (if_neg c_11)
            refine lv_aload_n hx hb d_Rn_skip_51 rfl (lv_at hl 2 rfl) ?_
            refine lv_iload hx hb d_Rn_skip_52 (lv_at hl 0 rfl) ?_
            refine wx_ci (wS := fun _ : Unit => w_R ad ca b v_2) (ws2 := fun _ : Unit => w_R ad ca b v_2) (va_runV (As := [.int (f_Bk_kindOf b r_2)]) (rest := []) ⟨hx, hb, hml, hown, ht⟩ (c_Rn_isInPlace l dC dI ad ca H.size b v_2 (f_Bk_kindOf b r_2) _ rfl) (cwV 1 ht (tb_V q_391 q_393 q_20 q_46 q_394) rfl rfl rfl p_Rn_isInPlace ⟨show 0 + 1 ≤ 4 by omega, show 8 + (3 + 11) + 0 ≤ 86 by omega⟩) (wx_preV (wc := (w_R ad ca b v_2)) hN hK hP hD [0, 1, 2, 3, 4, 5, 6, 7, 8, 9, 10, 11, 12, 13, 14] [0, 1, 2, 3, 4, 5, 6, 7, 8, 9, 10, 11] rfl (by decide) rfl (ci := 2) (q0 := 0) rfl rfl) rfl rfl hl.1 rfl (lv_room (Nat.le_of_ble_eq_true rfl)) d_Rn_skip_54 ⟨Nat.zero_le _, Nat.zero_le _⟩) hP hD hS hA [0, 1, 2, 3, 4, 5, 6, 7, 8, 9, 10, 11, 12, 13, 14] [] [0, 1, 2, 3, 4, 5, 6, 7, 8, 9, 10, 11, 12, 13, 14] rfl rfl (by decide) (by decide) (by decide) (fun _ => rfl) (fun r_16 _ H locs hw hP hD hS => ?_)
            subst hw
            have hP : va_P (dC, dI) vwCl (w_R ad ca b v_2) H := hP
            have hD : va_D A (w_R ad ca b v_2) := hD
            refine lv_if_ne (tgt := 66) hx hb d_Rn_skip_57 (by decide) (fun c_17 => ?_) (fun c_17 => ?_)
            · have he := he.trans (if_neg c_17)
              refine lv_aload_n hx hb d_Rn_skip_66 rfl (lv_at hl 2 rfl) ?_
              refine lv_iload hx hb d_Rn_skip_67 (lv_at hl 0 rfl) ?_
              refine wx_cv (wS := fun v : TRn => w_R ad ca b v) (ws2 := fun v : TRn => w_R ad ca b v) (va_runV (As := [.int (f_Bk_kindOf b r_2)]) (rest := []) ⟨hx, hb, hml, hown, ht⟩ (c_Rn_passMark l dC dI ad ca H.size b v_2 (f_Bk_kindOf b r_2) _ rfl) (cwV 1 ht (tb_V q_395 q_397 q_21 q_46 q_398) rfl rfl rfl p_Rn_passMark ⟨show 0 + 1 ≤ 4 by omega, show 8 + (3 + 11) + 0 ≤ 86 by omega⟩) (wx_preV (wc := (w_R ad ca b v_2)) hN hK hP hD [0, 1, 2, 3, 4, 5, 6, 7, 8, 9, 10, 11, 12, 13, 14] [0, 1, 2, 3, 4, 5, 6, 7, 8, 9, 10, 11] rfl (by decide) rfl (ci := 2) (q0 := 0) rfl rfl) rfl rfl hl.1 rfl (lv_room (Nat.le_of_ble_eq_true rfl)) d_Rn_skip_69 ⟨Nat.zero_le _, Nat.zero_le _⟩) hP hD hS hA [0, 1, 2, 3, 4, 5, 6, 7, 8, 9, 10, 11, 12, 13, 14] [] [0, 1, 2, 3, 4, 5, 6, 7, 8, 9, 10, 11, 12, 13, 14] rfl rfl (by decide) (by decide) (by decide) (fun _ => rfl) (fun v_18 H locs hw hP hD hS => ?_)
              have hP : va_P (dC, dI) vwCl (w_R ad ca b v_18) H := hP
              have hD : va_D A (w_R ad ca b v_18) := hD
              rw [← hw] at he
              try dsimp only at he
              refine lv_iload hx hb d_Rn_skip_72 (lv_at hl 6 rfl) ?_
              refine lv_iload hx hb d_Rn_skip_74 (lv_at hl 0 rfl) ?_
              refine lv_bipush (v := 7) hx hb d_Rn_skip_76 (by decide) ?_
              refine lv_icmp_ne (tgt := 85) hx hb d_Rn_skip_78 (by decide) (fun c_19 => ?_) (fun c_19 => ?_)
              · have he := he.trans (if_neg c_19)
                refine lv_iconst (v := 0) hx hb d_Rn_skip_85 (by decide) ?_
                refine lv_iadd hx hb d_Rn_skip_86 ?_
                refine lv_istore (lv' := [(4, .int (x4 + 0)), (7, .int (f_Bk_kindOf b r_2)), (6, .int r_2), (0, .ref (ad 0)), (1, .int x1), (2, .int x2), (3, .int x3), (5, .int x5)]) hx hb d_Rn_skip_87 hl (by decide) rfl (fun ls hl => ?_)
                refine lv_iload hx hb d_Rn_skip_89 (lv_at hl 1 rfl) ?_
                refine lv_bipush (v := 8) hx hb d_Rn_skip_91 (by decide) ?_
                refine lv_icmp_eq (tgt := 120) hx hb d_Rn_skip_93 (by decide) (fun c_20 => ?_) (fun c_20 => ?_)
                · have he := he.trans (if_pos c_20)
                  exact W.vret hx hb hr (fun t ht hW => ⟨⟨v_18, rfl, he.symm, by rw [ht]; exact hP, va_K.moved hW.alike hK, hD⟩, hS.F ht⟩) hS.2.2 d_Rn_skip_120
                · have he := he.trans (if_neg c_20)
                  refine lv_iload hx hb d_Rn_skip_96 (lv_at hl 1 rfl) ?_
                  refine lv_bipush (v := 6) hx hb d_Rn_skip_98 (by decide) ?_
                  refine lv_icmp_ne (tgt := 107) hx hb d_Rn_skip_100 (by decide) (fun c_21 => ?_) (fun c_21 => ?_)
                  · have he := he.trans (if_neg c_21)
                    refine lv_iload hx hb d_Rn_skip_107 (lv_at hl 1 rfl) ?_
                    refine lv_bipush (v := 7) hx hb d_Rn_skip_109 (by decide) ?_
                    refine lv_icmp_ne (tgt := 169) hx hb d_Rn_skip_111 (by decide) (fun c_22 => ?_) (fun c_22 => ?_)
                    · refine lv_iinc (v := (x5 + 1)) (lv' := [(5, .int (x5 + 1)), (4, .int (x4 + 0)), (7, .int (f_Bk_kindOf b r_2)), (6, .int r_2), (0, .ref (ad 0)), (1, .int x1), (2, .int x2), (3, .int x3)]) hx hb d_Rn_skip_169 hl (k := 7) rfl rfl (by decide) rfl (fun ls hl => ?_)
                      refine lv_goto (tgt := 8) hx hb d_Rn_skip_172 (by decide) ?_
                      exact ih b v_18 x1 x2 x3 (x4 + 0) (x5 + 1) hpre (TLn_s hc (by decide) c_1) he _ _ hP hD hS _ (lv_sub hl [4, 5, 6, 7, 1, 0] rfl)
                    · exact absurd c_22 c_19
                  · have he := he.trans (if_pos c_21)
                    refine lv_iload_n hx hb d_Rn_skip_103 rfl (lv_at hl 5 rfl) ?_
                    refine lv_if_ne (tgt := 120) hx hb d_Rn_skip_104 (by decide) (fun c_23 => ?_) (fun c_23 => ?_)
                    · have he := he.trans (if_neg c_23)
                      exact W.vret hx hb hr (fun t ht hW => ⟨⟨v_18, rfl, he.symm, by rw [ht]; exact hP, va_K.moved hW.alike hK, hD⟩, hS.F ht⟩) hS.2.2 d_Rn_skip_120
                    · have he := he.trans (if_pos c_23)
                      refine lv_iload hx hb d_Rn_skip_107 (lv_at hl 1 rfl) ?_
                      refine lv_bipush (v := 7) hx hb d_Rn_skip_109 (by decide) ?_
                      refine lv_icmp_ne (tgt := 169) hx hb d_Rn_skip_111 (by decide) (fun c_24 => ?_) (fun c_24 => ?_)
                      · refine lv_iinc (v := (x5 + 1)) (lv' := [(5, .int (x5 + 1)), (4, .int (x4 + 0)), (7, .int (f_Bk_kindOf b r_2)), (6, .int r_2), (0, .ref (ad 0)), (1, .int x1), (2, .int x2), (3, .int x3)]) hx hb d_Rn_skip_169 hl (k := 7) rfl rfl (by decide) rfl (fun ls hl => ?_)
                        refine lv_goto (tgt := 8) hx hb d_Rn_skip_172 (by decide) ?_
                        exact ih b v_18 x1 x2 x3 (x4 + 0) (x5 + 1) hpre (TLn_s hc (by decide) c_1) he _ _ hP hD hS _ (lv_sub hl [4, 5, 6, 7, 1, 0] rfl)
                      · exact absurd c_24 c_19
              · have he := he.trans (if_pos c_19)
                refine lv_iconst (v := 1) hx hb d_Rn_skip_81 (by decide) ?_
                refine lv_goto (tgt := 86) hx hb d_Rn_skip_82 (by decide) ?_
                refine lv_iadd hx hb d_Rn_skip_86 ?_
                refine lv_istore (lv' := [(4, .int (x4 + 1)), (7, .int (f_Bk_kindOf b r_2)), (6, .int r_2), (0, .ref (ad 0)), (1, .int x1), (2, .int x2), (3, .int x3), (5, .int x5)]) hx hb d_Rn_skip_87 hl (by decide) rfl (fun ls hl => ?_)
                refine lv_iload hx hb d_Rn_skip_89 (lv_at hl 1 rfl) ?_
                refine lv_bipush (v := 8) hx hb d_Rn_skip_91 (by decide) ?_
                refine lv_icmp_eq (tgt := 120) hx hb d_Rn_skip_93 (by decide) (fun c_25 => ?_) (fun c_25 => ?_)
                · have he := he.trans (if_pos c_25)
                  exact W.vret hx hb hr (fun t ht hW => ⟨⟨v_18, rfl, he.symm, by rw [ht]; exact hP, va_K.moved hW.alike hK, hD⟩, hS.F ht⟩) hS.2.2 d_Rn_skip_120
                · have he := he.trans (if_neg c_25)
                  refine lv_iload hx hb d_Rn_skip_96 (lv_at hl 1 rfl) ?_
                  refine lv_bipush (v := 6) hx hb d_Rn_skip_98 (by decide) ?_
                  refine lv_icmp_ne (tgt := 107) hx hb d_Rn_skip_100 (by decide) (fun c_26 => ?_) (fun c_26 => ?_)
                  · have he := he.trans (if_neg c_26)
                    refine lv_iload hx hb d_Rn_skip_107 (lv_at hl 1 rfl) ?_
                    refine lv_bipush (v := 7) hx hb d_Rn_skip_109 (by decide) ?_
                    refine lv_icmp_ne (tgt := 169) hx hb d_Rn_skip_111 (by decide) (fun c_27 => ?_) (fun c_27 => ?_)
                    · exact absurd c_19 c_27
                    · refine lv_iload hx hb d_Rn_skip_114 (lv_at hl 0 rfl) ?_
                      refine lv_iload_n hx hb d_Rn_skip_116 rfl (lv_at hl 4 rfl) ?_
                      refine lv_icmp_ne (tgt := 169) hx hb d_Rn_skip_117 (by decide) (fun c_28 => ?_) (fun c_28 => ?_)
                      · have he := he.trans (if_neg c_28)
                        refine lv_iinc (v := (x5 + 1)) (lv' := [(5, .int (x5 + 1)), (4, .int (x4 + 1)), (7, .int (f_Bk_kindOf b r_2)), (6, .int r_2), (0, .ref (ad 0)), (1, .int x1), (2, .int x2), (3, .int x3)]) hx hb d_Rn_skip_169 hl (k := 7) rfl rfl (by decide) rfl (fun ls hl => ?_)
                        refine lv_goto (tgt := 8) hx hb d_Rn_skip_172 (by decide) ?_
                        exact ih b v_18 x1 x2 x3 (x4 + 1) (x5 + 1) hpre (TLn_s hc (by decide) c_1) he _ _ hP hD hS _ (lv_sub hl [4, 5, 6, 7, 1, 0] rfl)
                      · have he := he.trans (if_pos c_28)
                        exact W.vret hx hb hr (fun t ht hW => ⟨⟨v_18, rfl, he.symm, by rw [ht]; exact hP, va_K.moved hW.alike hK, hD⟩, hS.F ht⟩) hS.2.2 d_Rn_skip_120
                  · have he := he.trans (if_pos c_26)
                    refine lv_iload_n hx hb d_Rn_skip_103 rfl (lv_at hl 5 rfl) ?_
                    refine lv_if_ne (tgt := 120) hx hb d_Rn_skip_104 (by decide) (fun c_29 => ?_) (fun c_29 => ?_)
                    · have he := he.trans (if_neg c_29)
                      exact W.vret hx hb hr (fun t ht hW => ⟨⟨v_18, rfl, he.symm, by rw [ht]; exact hP, va_K.moved hW.alike hK, hD⟩, hS.F ht⟩) hS.2.2 d_Rn_skip_120
                    · have he := he.trans (if_pos c_29)
                      refine lv_iload hx hb d_Rn_skip_107 (lv_at hl 1 rfl) ?_
                      refine lv_bipush (v := 7) hx hb d_Rn_skip_109 (by decide) ?_
                      refine lv_icmp_ne (tgt := 169) hx hb d_Rn_skip_111 (by decide) (fun c_30 => ?_) (fun c_30 => ?_)
                      · exact absurd c_19 c_30
                      · refine lv_iload hx hb d_Rn_skip_114 (lv_at hl 0 rfl) ?_
                        refine lv_iload_n hx hb d_Rn_skip_116 rfl (lv_at hl 4 rfl) ?_
                        refine lv_icmp_ne (tgt := 169) hx hb d_Rn_skip_117 (by decide) (fun c_31 => ?_) (fun c_31 => ?_)
                        · have he := he.trans (if_neg c_31)
                          refine lv_iinc (v := (x5 + 1)) (lv' := [(5, .int (x5 + 1)), (4, .int (x4 + 1)), (7, .int (f_Bk_kindOf b r_2)), (6, .int r_2), (0, .ref (ad 0)), (1, .int x1), (2, .int x2), (3, .int x3)]) hx hb d_Rn_skip_169 hl (k := 7) rfl rfl (by decide) rfl (fun ls hl => ?_)
                          refine lv_goto (tgt := 8) hx hb d_Rn_skip_172 (by decide) ?_
                          exact ih b v_18 x1 x2 x3 (x4 + 1) (x5 + 1) hpre (TLn_s hc (by decide) c_1) he _ _ hP hD hS _ (lv_sub hl [4, 5, 6, 7, 1, 0] rfl)
                        · have he := he.trans (if_pos c_31)
                          exact W.vret hx hb hr (fun t ht hW => ⟨⟨v_18, rfl, he.symm, by rw [ht]; exact hP, va_K.moved hW.alike hK, hD⟩, hS.F ht⟩) hS.2.2 d_Rn_skip_120
            · have he := he.trans (if_pos c_17)
              refine lv_aload_n hx hb d_Rn_skip_60 rfl (lv_at hl 2 rfl) ?_
              refine lv_iconst (v := 2) hx hb d_Rn_skip_61 (by decide) ?_
              refine wx_cv (wS := fun v : TRn => w_R ad ca b v) (ws2 := fun v : TRn => w_R ad ca b v) (va_runV (As := [.int 2]) (rest := []) ⟨hx, hb, hml, hown, ht⟩ (c_Rn_fail l dC dI ad ca H.size b v_2 2 _ rfl) (cwV 1 ht (tb_V q_275 q_277 q_3 q_46 q_278) rfl rfl rfl p_Rn_fail ⟨show 0 + 1 ≤ 4 by omega, show 8 + (2 + 11) + 0 ≤ 86 by omega⟩) (wx_preV (wc := (w_R ad ca b v_2)) hN hK hP hD [0, 1, 2, 3, 4, 5, 6, 7, 8, 9, 10, 11, 12, 13, 14] [0, 1, 2, 3, 4, 5, 6, 7, 8, 9, 10, 11] rfl (by decide) rfl (ci := 2) (q0 := 0) rfl rfl) rfl rfl hl.1 rfl (lv_room (Nat.le_of_ble_eq_true rfl)) d_Rn_skip_62 ⟨Nat.zero_le _, Nat.zero_le _⟩) hP hD hS hA [0, 1, 2, 3, 4, 5, 6, 7, 8, 9, 10, 11, 12, 13, 14] [] [0, 1, 2, 3, 4, 5, 6, 7, 8, 9, 10, 11, 12, 13, 14] rfl rfl (by decide) (by decide) (by decide) (fun _ => rfl) (fun v_32 H locs hw hP hD hS => ?_)
              have hP : va_P (dC, dI) vwCl (w_R ad ca b v_32) H := hP
              have hD : va_D A (w_R ad ca b v_32) := hD
              rw [← hw] at he
              try dsimp only at he
              exact W.vret hx hb hr (fun t ht hW => ⟨⟨v_32, rfl, he.symm, by rw [ht]; exact hP, va_K.moved hW.alike hK, hD⟩, hS.F ht⟩) hS.2.2 d_Rn_skip_65
      · have he := he.trans (if_pos c_3)
        exact W.vret hx hb hr (fun t ht hW => ⟨⟨v_2, rfl, he.symm, by rw [ht]; exact hP, va_K.moved hW.alike hK, hD⟩, hS.F ht⟩) hS.2.2 d_Rn_skip_27
noncomputable def f_Rn_skip (b : TBk) (u : TRn) (p0 : Int32) (p1 : Int32) : TRn := (f_Rn_skip_8 TM b u p0 p1 0 0 0)
set_option maxHeartbeats 4000000 in
set_option maxRecDepth 100000 in
theorem c_Rn_skip (l : Launch) (dC : Nat → ClassId) (dI : Nat → Nat → Nat) (ad : Nat → Nat) (ca : Nat → ClassId) (sz : Nat) (b : TBk) (u : TRn) (p0 : Int32) (p1 : Int32) (hpre : BkS b) (F : TRn) (he : F = f_Rn_skip b u p0 p1) : wx_Mv l y_Rn_skip ws_Rn_skip ({ frames := 4, cells := 0, slots := 0, locals := 86 } : Room) (dC, dI) vwCl (t_R ca) [.ref (ad 0), .int p0, .int p1] (w_R ad ca b u) sz (fun v : TRn => w_R ad ca b v) (fun v : TRn => v = F) := by
  refine Met.ofW (cc := b_Rn_skip) (maxL := 8) (ret := none) (by decide) rfl ?_
  intro p e s m args below meth c s₁ B hml hv
  obtain ⟨rfl, hsz, hP, hK, hD0, hN⟩ := hv
  have hx := B.exec
  have hb := B.bytes
  have hr := B.returns
  have hts := atoms_spec (ws := ws_Rn_skip) B.pre
  have ht : ∀ w ∈ TB, w.before _ s = true := fun w h => hts w (List.mem_cons_of_mem _ h)
  have hown : s.vm.findClass R_Rn = some m.cls := findClass_of_methodNamed B.named
  have hlocks := B.notSynchronized
  subst hsz
  have hD := hD0.self (sz := s.heap.size)
  generalize hAe : va_A (w_R ad ca b u) s.heap.size = A at hD ⊢
  have hA : ∀ q : Nat, s.heap.size ≤ q → A q := fun q h => by rw [← hAe]; exact Or.inr h
  have hS : va_S A s.heap s.heap [] := va_S.rf
  have C0 : wx_C p s m ([.ref (ad 0), .int p0, .int p1] : List Value).toArray meth c b_Rn_skip (none) 8 R_Rn A (dC, dI) vwCl (t_R ca) := ⟨hx, hb, hr, hml, hown, ht, hlocks, hA, hK, hN⟩
  have hl := lv_entry ([.ref (ad 0), .int p0, .int p1]) (n := 8) (Nat.le_of_ble_eq_true rfl)
  rw [lg_entry_eq]
  generalize (lg_sl ([.ref (ad 0), .int p0, .int p1]) ++ List.replicate (8 - (lg_sl ([.ref (ad 0), .int p0, .int p1])).length) Slot.unset).toArray = ls at hl ⊢
  have hl : lv_has ls 8 [(0, .ref (ad 0)), (1, .int p0), (2, .int p1)] := hl
  unfold f_Rn_skip at he
  refine lv_iconst (v := 0) hx hb d_Rn_skip_0 (by decide) ?_
  refine lv_istore_n (lv' := [(3, .int 0), (0, .ref (ad 0)), (1, .int p0), (2, .int p1)]) hx hb d_Rn_skip_1 rfl hl (by decide) rfl (fun ls hl => ?_)
  refine lv_iconst (v := 0) hx hb d_Rn_skip_2 (by decide) ?_
  refine lv_istore (lv' := [(4, .int 0), (3, .int 0), (0, .ref (ad 0)), (1, .int p0), (2, .int p1)]) hx hb d_Rn_skip_3 hl (by decide) rfl (fun ls hl => ?_)
  refine lv_iconst (v := 0) hx hb d_Rn_skip_5 (by decide) ?_
  refine lv_istore (lv' := [(5, .int 0), (4, .int 0), (3, .int 0), (0, .ref (ad 0)), (1, .int p0), (2, .int p1)]) hx hb d_Rn_skip_6 hl (by decide) rfl (fun ls hl => ?_)
  exact k_Rn_skip_8 l dC dI ad ca C0 F TM b u p0 p1 0 0 0 hpre TLn_m he _ _ hP hD hS _ (lv_sub hl [3, 4, 5, 2, 1, 0] rfl)
end
section
theorem q_19 : Cond.selects R_Rn y_Rn_skip y_Rn_skip ∈ TB := tq 19 (by decide +kernel) rfl
theorem q_340 : Cond.methodLink R_Rn 177 y_Bk_meanTheSame ∈ TB := tq 340 (by decide +kernel) rfl
theorem q_341 : Cond.instanceMethod y_Bk_meanTheSame ∈ TB := tq 341 (by decide +kernel) rfl
theorem q_342 : Cond.selects R_Bk y_Bk_meanTheSame y_Bk_meanTheSame ∈ TB := tq 342 (by decide +kernel) rfl
theorem q_343 : Cond.code y_Bk_meanTheSame b_Bk_meanTheSame 4 (some .boolean) ∈ TB := tq 343 (by decide +kernel) rfl
theorem q_387 : Cond.methodLink R_Rn 129 y_Rn_skip ∈ TB := tq 387 (by decide +kernel) rfl
theorem q_389 : Cond.instanceMethod y_Rn_skip ∈ TB := tq 389 (by decide +kernel) rfl
theorem q_390 : Cond.code y_Rn_skip b_Rn_skip 8 (none : Option Jvm.ClassFile.FieldType) ∈ TB := tq 390 (by decide +kernel) rfl
theorem q_423 : Cond.methodLink R_Rn 66 y_Rd_stepsMade ∈ TB := tq 423 (by decide +kernel) rfl
theorem q_424 : Cond.instanceMethod y_Rd_stepsMade ∈ TB := tq 424 (by decide +kernel) rfl
theorem q_425 : Cond.selects R_Rd y_Rd_stepsMade y_Rd_stepsMade ∈ TB := tq 425 (by decide +kernel) rfl
theorem q_426 : Cond.code y_Rd_stepsMade b_Rd_stepsMade 1 (some .int) ∈ TB := tq 426 (by decide +kernel) rfl
theorem d_Rn_meetMark_0 : decode b_Rn_meetMark 0 = .ok (.aload_n 0, 1) := by decide +kernel
theorem d_Rn_meetMark_1 : decode b_Rn_meetMark 1 = .ok (.iload_n 1, 1) := by decide +kernel
theorem d_Rn_meetMark_2 : decode b_Rn_meetMark 2 = .ok (.invokevirtual 133, 3) := by decide +kernel
theorem d_Rn_meetMark_5 : decode b_Rn_meetMark 5 = .ok (.ifCond .ne 9, 3) := by decide +kernel
theorem d_Rn_meetMark_8 : decode b_Rn_meetMark 8 = .ok (.aload_n 0, 1) := by decide +kernel
theorem d_Rn_meetMark_9 : decode b_Rn_meetMark 9 = .ok (.iconst 2, 1) := by decide +kernel
theorem d_Rn_meetMark_10 : decode b_Rn_meetMark 10 = .ok (.invokevirtual 60, 3) := by decide +kernel
theorem d_Rn_meetMark_13 : decode b_Rn_meetMark 13 = .ok (.return_, 1) := by decide +kernel
theorem d_Rn_meetMark_14 : decode b_Rn_meetMark 14 = .ok (.aload_n 0, 1) := by decide +kernel
theorem d_Rn_meetMark_15 : decode b_Rn_meetMark 15 = .ok (.iload_n 1, 1) := by decide +kernel
theorem d_Rn_meetMark_16 : decode b_Rn_meetMark 16 = .ok (.invokevirtual 136, 3) := by decide +kernel
theorem d_Rn_meetMark_19 : decode b_Rn_meetMark 19 = .ok (.iload_n 1, 1) := by decide +kernel
theorem d_Rn_meetMark_20 : decode b_Rn_meetMark 20 = .ok (.bipush 8, 2) := by decide +kernel
theorem d_Rn_meetMark_22 : decode b_Rn_meetMark 22 = .ok (.if_icmp .eq 9, 3) := by decide +kernel
theorem d_Rn_meetMark_25 : decode b_Rn_meetMark 25 = .ok (.aload_n 0, 1) := by decide +kernel
theorem d_Rn_meetMark_26 : decode b_Rn_meetMark 26 = .ok (.iconst 0, 1) := by decide +kernel
theorem d_Rn_meetMark_27 : decode b_Rn_meetMark 27 = .ok (.iconst 0, 1) := by decide +kernel
theorem d_Rn_meetMark_28 : decode b_Rn_meetMark 28 = .ok (.invokevirtual 129, 3) := by decide +kernel
theorem d_Rn_meetMark_31 : decode b_Rn_meetMark 31 = .ok (.return_, 1) := by decide +kernel
theorem d_Rn_decide_0 : decode b_Rn_decide 0 = .ok (.iload_n 1, 1) := by decide +kernel
theorem d_Rn_decide_1 : decode b_Rn_decide 1 = .ok (.bipush 7, 2) := by decide +kernel
theorem d_Rn_decide_3 : decode b_Rn_decide 3 = .ok (.if_icmp .ne 7, 3) := by decide +kernel
theorem d_Rn_decide_6 : decode b_Rn_decide 6 = .ok (.iconst 1, 1) := by decide +kernel
theorem d_Rn_decide_7 : decode b_Rn_decide 7 = .ok (.goto 4, 3) := by decide +kernel
theorem d_Rn_decide_10 : decode b_Rn_decide 10 = .ok (.iconst 0, 1) := by decide +kernel
theorem d_Rn_decide_11 : decode b_Rn_decide 11 = .ok (.istore 4, 2) := by decide +kernel
theorem d_Rn_decide_13 : decode b_Rn_decide 13 = .ok (.iload_n 2, 1) := by decide +kernel
theorem d_Rn_decide_14 : decode b_Rn_decide 14 = .ok (.ifCond .lt 38, 3) := by decide +kernel
theorem d_Rn_decide_17 : decode b_Rn_decide 17 = .ok (.iload_n 2, 1) := by decide +kernel
theorem d_Rn_decide_18 : decode b_Rn_decide 18 = .ok (.aload_n 0, 1) := by decide +kernel
theorem d_Rn_decide_19 : decode b_Rn_decide 19 = .ok (.getfield 15, 3) := by decide +kernel
theorem d_Rn_decide_22 : decode b_Rn_decide 22 = .ok (.arraylength, 1) := by decide +kernel
theorem d_Rn_decide_23 : decode b_Rn_decide 23 = .ok (.if_icmp .ge 29, 3) := by decide +kernel
theorem d_Rn_decide_26 : decode b_Rn_decide 26 = .ok (.aload_n 0, 1) := by decide +kernel
theorem d_Rn_decide_27 : decode b_Rn_decide 27 = .ok (.getfield 15, 3) := by decide +kernel
theorem d_Rn_decide_30 : decode b_Rn_decide 30 = .ok (.iload_n 2, 1) := by decide +kernel
theorem d_Rn_decide_31 : decode b_Rn_decide 31 = .ok (.iload 4, 2) := by decide +kernel
theorem d_Rn_decide_33 : decode b_Rn_decide 33 = .ok (.ifCond .ne 7, 3) := by decide +kernel
theorem d_Rn_decide_36 : decode b_Rn_decide 36 = .ok (.iload_n 3, 1) := by decide +kernel
theorem d_Rn_decide_37 : decode b_Rn_decide 37 = .ok (.goto 14, 3) := by decide +kernel
theorem d_Rn_decide_40 : decode b_Rn_decide 40 = .ok (.iload_n 3, 1) := by decide +kernel
theorem d_Rn_decide_41 : decode b_Rn_decide 41 = .ok (.ifCond .ge 7, 3) := by decide +kernel
theorem d_Rn_decide_44 : decode b_Rn_decide 44 = .ok (.iconst (-1), 1) := by decide +kernel
theorem d_Rn_decide_45 : decode b_Rn_decide 45 = .ok (.goto 6, 3) := by decide +kernel
theorem d_Rn_decide_48 : decode b_Rn_decide 48 = .ok (.iload_n 3, 1) := by decide +kernel
theorem d_Rn_decide_49 : decode b_Rn_decide 49 = .ok (.iconst 2, 1) := by decide +kernel
theorem d_Rn_decide_50 : decode b_Rn_decide 50 = .ok (.iadd, 1) := by decide +kernel
theorem d_Rn_decide_51 : decode b_Rn_decide 51 = .ok (.iastore, 1) := by decide +kernel
theorem d_Rn_decide_52 : decode b_Rn_decide 52 = .ok (.iload 4, 2) := by decide +kernel
theorem d_Rn_decide_54 : decode b_Rn_decide 54 = .ok (.ifCond .eq 15, 3) := by decide +kernel
theorem d_Rn_decide_57 : decode b_Rn_decide 57 = .ok (.iload_n 3, 1) := by decide +kernel
theorem d_Rn_decide_58 : decode b_Rn_decide 58 = .ok (.ifCond .eq 7, 3) := by decide +kernel
theorem d_Rn_decide_61 : decode b_Rn_decide 61 = .ok (.iconst 1, 1) := by decide +kernel
theorem d_Rn_decide_62 : decode b_Rn_decide 62 = .ok (.goto 16, 3) := by decide +kernel
theorem d_Rn_decide_65 : decode b_Rn_decide 65 = .ok (.iconst 0, 1) := by decide +kernel
theorem d_Rn_decide_66 : decode b_Rn_decide 66 = .ok (.goto 12, 3) := by decide +kernel
theorem d_Rn_decide_69 : decode b_Rn_decide 69 = .ok (.iload_n 3, 1) := by decide +kernel
theorem d_Rn_decide_70 : decode b_Rn_decide 70 = .ok (.ifCond .ne 7, 3) := by decide +kernel
theorem d_Rn_decide_73 : decode b_Rn_decide 73 = .ok (.iconst 1, 1) := by decide +kernel
theorem d_Rn_decide_74 : decode b_Rn_decide 74 = .ok (.goto 4, 3) := by decide +kernel
theorem d_Rn_decide_77 : decode b_Rn_decide 77 = .ok (.iconst 0, 1) := by decide +kernel
theorem d_Rn_decide_78 : decode b_Rn_decide 78 = .ok (.istore 5, 2) := by decide +kernel
theorem d_Rn_decide_80 : decode b_Rn_decide 80 = .ok (.iload 5, 2) := by decide +kernel
theorem d_Rn_decide_82 : decode b_Rn_decide 82 = .ok (.ifCond .eq 18, 3) := by decide +kernel
theorem d_Rn_decide_85 : decode b_Rn_decide 85 = .ok (.aload_n 0, 1) := by decide +kernel
theorem d_Rn_decide_86 : decode b_Rn_decide 86 = .ok (.iload 4, 2) := by decide +kernel
theorem d_Rn_decide_88 : decode b_Rn_decide 88 = .ok (.ifCond .eq 7, 3) := by decide +kernel
theorem d_Rn_decide_91 : decode b_Rn_decide 91 = .ok (.iload_n 3, 1) := by decide +kernel
theorem d_Rn_decide_92 : decode b_Rn_decide 92 = .ok (.goto 4, 3) := by decide +kernel
theorem d_Rn_decide_95 : decode b_Rn_decide 95 = .ok (.iconst 0, 1) := by decide +kernel
theorem d_Rn_decide_96 : decode b_Rn_decide 96 = .ok (.iconst 1, 1) := by decide +kernel
theorem d_Rn_decide_97 : decode b_Rn_decide 97 = .ok (.invokevirtual 129, 3) := by decide +kernel
theorem d_Rn_decide_100 : decode b_Rn_decide 100 = .ok (.return_, 1) := by decide +kernel
theorem d_Rn_compareMeanings_0 : decode b_Rn_compareMeanings 0 = .ok (.aload_n 0, 1) := by decide +kernel
theorem d_Rn_compareMeanings_1 : decode b_Rn_compareMeanings 1 = .ok (.invokevirtual 139, 3) := by decide +kernel
theorem d_Rn_compareMeanings_4 : decode b_Rn_compareMeanings 4 = .ok (.istore_n 1, 1) := by decide +kernel
theorem d_Rn_compareMeanings_5 : decode b_Rn_compareMeanings 5 = .ok (.aload_n 0, 1) := by decide +kernel
theorem d_Rn_compareMeanings_6 : decode b_Rn_compareMeanings 6 = .ok (.getfield 45, 3) := by decide +kernel
theorem d_Rn_compareMeanings_9 : decode b_Rn_compareMeanings 9 = .ok (.ifCond .eq 5, 3) := by decide +kernel
theorem d_Rn_compareMeanings_12 : decode b_Rn_compareMeanings 12 = .ok (.iconst 0, 1) := by decide +kernel
theorem d_Rn_compareMeanings_13 : decode b_Rn_compareMeanings 13 = .ok (.ireturn, 1) := by decide +kernel
theorem d_Rn_compareMeanings_14 : decode b_Rn_compareMeanings 14 = .ok (.aload_n 0, 1) := by decide +kernel
theorem d_Rn_compareMeanings_15 : decode b_Rn_compareMeanings 15 = .ok (.invokevirtual 139, 3) := by decide +kernel
theorem d_Rn_compareMeanings_18 : decode b_Rn_compareMeanings 18 = .ok (.istore_n 2, 1) := by decide +kernel
theorem d_Rn_compareMeanings_19 : decode b_Rn_compareMeanings 19 = .ok (.aload_n 0, 1) := by decide +kernel
theorem d_Rn_compareMeanings_20 : decode b_Rn_compareMeanings 20 = .ok (.getfield 45, 3) := by decide +kernel
theorem d_Rn_compareMeanings_23 : decode b_Rn_compareMeanings 23 = .ok (.ifCond .eq 5, 3) := by decide +kernel
theorem d_Rn_compareMeanings_26 : decode b_Rn_compareMeanings 26 = .ok (.iconst 0, 1) := by decide +kernel
theorem d_Rn_compareMeanings_27 : decode b_Rn_compareMeanings 27 = .ok (.ireturn, 1) := by decide +kernel
theorem d_Rn_compareMeanings_28 : decode b_Rn_compareMeanings 28 = .ok (.aload_n 0, 1) := by decide +kernel
theorem d_Rn_compareMeanings_29 : decode b_Rn_compareMeanings 29 = .ok (.getfield 25, 3) := by decide +kernel
theorem d_Rn_compareMeanings_32 : decode b_Rn_compareMeanings 32 = .ok (.iload_n 1, 1) := by decide +kernel
theorem d_Rn_compareMeanings_33 : decode b_Rn_compareMeanings 33 = .ok (.iload_n 2, 1) := by decide +kernel
theorem d_Rn_compareMeanings_34 : decode b_Rn_compareMeanings 34 = .ok (.invokevirtual 177, 3) := by decide +kernel
theorem d_Rn_compareMeanings_37 : decode b_Rn_compareMeanings 37 = .ok (.ifCond .eq 7, 3) := by decide +kernel
theorem d_Rn_compareMeanings_40 : decode b_Rn_compareMeanings 40 = .ok (.iconst 1, 1) := by decide +kernel
theorem d_Rn_compareMeanings_41 : decode b_Rn_compareMeanings 41 = .ok (.goto 4, 3) := by decide +kernel
theorem d_Rn_compareMeanings_44 : decode b_Rn_compareMeanings 44 = .ok (.iconst 0, 1) := by decide +kernel
theorem d_Rn_compareMeanings_45 : decode b_Rn_compareMeanings 45 = .ok (.ireturn, 1) := by decide +kernel
theorem d_Rn_askWhetherKnown_0 : decode b_Rn_askWhetherKnown 0 = .ok (.aload_n 0, 1) := by decide +kernel
theorem d_Rn_askWhetherKnown_1 : decode b_Rn_askWhetherKnown 1 = .ok (.invokevirtual 139, 3) := by decide +kernel
theorem d_Rn_askWhetherKnown_4 : decode b_Rn_askWhetherKnown 4 = .ok (.istore_n 1, 1) := by decide +kernel
theorem d_Rn_askWhetherKnown_5 : decode b_Rn_askWhetherKnown 5 = .ok (.aload_n 0, 1) := by decide +kernel
theorem d_Rn_askWhetherKnown_6 : decode b_Rn_askWhetherKnown 6 = .ok (.getfield 45, 3) := by decide +kernel
theorem d_Rn_askWhetherKnown_9 : decode b_Rn_askWhetherKnown 9 = .ok (.ifCond .ne 18, 3) := by decide +kernel
theorem d_Rn_askWhetherKnown_12 : decode b_Rn_askWhetherKnown 12 = .ok (.aload_n 0, 1) := by decide +kernel
theorem d_Rn_askWhetherKnown_13 : decode b_Rn_askWhetherKnown 13 = .ok (.getfield 25, 3) := by decide +kernel
theorem d_Rn_askWhetherKnown_16 : decode b_Rn_askWhetherKnown 16 = .ok (.iload_n 1, 1) := by decide +kernel
theorem d_Rn_askWhetherKnown_17 : decode b_Rn_askWhetherKnown 17 = .ok (.invokevirtual 88, 3) := by decide +kernel
theorem d_Rn_askWhetherKnown_20 : decode b_Rn_askWhetherKnown 20 = .ok (.ifCond .eq 7, 3) := by decide +kernel
theorem d_Rn_askWhetherKnown_23 : decode b_Rn_askWhetherKnown 23 = .ok (.iconst 1, 1) := by decide +kernel
theorem d_Rn_askWhetherKnown_24 : decode b_Rn_askWhetherKnown 24 = .ok (.goto 4, 3) := by decide +kernel
theorem d_Rn_askWhetherKnown_27 : decode b_Rn_askWhetherKnown 27 = .ok (.iconst 0, 1) := by decide +kernel
theorem d_Rn_askWhetherKnown_28 : decode b_Rn_askWhetherKnown 28 = .ok (.ireturn, 1) := by decide +kernel
theorem d_Rn_putOutAt_0 : decode b_Rn_putOutAt 0 = .ok (.iload_n 1, 1) := by decide +kernel
theorem d_Rn_putOutAt_1 : decode b_Rn_putOutAt 1 = .ok (.ifCond .lt 29, 3) := by decide +kernel
theorem d_Rn_putOutAt_4 : decode b_Rn_putOutAt 4 = .ok (.iload_n 1, 1) := by decide +kernel
theorem d_Rn_putOutAt_5 : decode b_Rn_putOutAt 5 = .ok (.aload_n 0, 1) := by decide +kernel
theorem d_Rn_putOutAt_6 : decode b_Rn_putOutAt 6 = .ok (.getfield 63, 3) := by decide +kernel
theorem d_Rn_putOutAt_9 : decode b_Rn_putOutAt 9 = .ok (.if_icmp .ge 21, 3) := by decide +kernel
theorem d_Rn_putOutAt_12 : decode b_Rn_putOutAt 12 = .ok (.iload_n 1, 1) := by decide +kernel
theorem d_Rn_putOutAt_13 : decode b_Rn_putOutAt 13 = .ok (.aload_n 0, 1) := by decide +kernel
theorem d_Rn_putOutAt_14 : decode b_Rn_putOutAt 14 = .ok (.getfield 9, 3) := by decide +kernel
theorem d_Rn_putOutAt_17 : decode b_Rn_putOutAt 17 = .ok (.arraylength, 1) := by decide +kernel
theorem d_Rn_putOutAt_18 : decode b_Rn_putOutAt 18 = .ok (.if_icmp .ge 12, 3) := by decide +kernel
theorem d_Rn_putOutAt_21 : decode b_Rn_putOutAt 21 = .ok (.aload_n 0, 1) := by decide +kernel
theorem d_Rn_putOutAt_22 : decode b_Rn_putOutAt 22 = .ok (.getfield 9, 3) := by decide +kernel
theorem d_Rn_putOutAt_25 : decode b_Rn_putOutAt 25 = .ok (.iload_n 1, 1) := by decide +kernel
theorem d_Rn_putOutAt_26 : decode b_Rn_putOutAt 26 = .ok (.iaload, 1) := by decide +kernel
theorem d_Rn_putOutAt_27 : decode b_Rn_putOutAt 27 = .ok (.goto 4, 3) := by decide +kernel
theorem d_Rn_putOutAt_30 : decode b_Rn_putOutAt 30 = .ok (.iconst (-1), 1) := by decide +kernel
theorem d_Rn_putOutAt_31 : decode b_Rn_putOutAt 31 = .ok (.ireturn, 1) := by decide +kernel
theorem d_Rn_decisionOf_0 : decode b_Rn_decisionOf 0 = .ok (.iload_n 1, 1) := by decide +kernel
theorem d_Rn_decisionOf_1 : decode b_Rn_decisionOf 1 = .ok (.ifCond .lt 21, 3) := by decide +kernel
theorem d_Rn_decisionOf_4 : decode b_Rn_decisionOf 4 = .ok (.iload_n 1, 1) := by decide +kernel
theorem d_Rn_decisionOf_5 : decode b_Rn_decisionOf 5 = .ok (.aload_n 0, 1) := by decide +kernel
theorem d_Rn_decisionOf_6 : decode b_Rn_decisionOf 6 = .ok (.getfield 15, 3) := by decide +kernel
theorem d_Rn_decisionOf_9 : decode b_Rn_decisionOf 9 = .ok (.arraylength, 1) := by decide +kernel
theorem d_Rn_decisionOf_10 : decode b_Rn_decisionOf 10 = .ok (.if_icmp .ge 12, 3) := by decide +kernel
theorem d_Rn_decisionOf_13 : decode b_Rn_decisionOf 13 = .ok (.aload_n 0, 1) := by decide +kernel
theorem d_Rn_decisionOf_14 : decode b_Rn_decisionOf 14 = .ok (.getfield 15, 3) := by decide +kernel
theorem d_Rn_decisionOf_17 : decode b_Rn_decisionOf 17 = .ok (.iload_n 1, 1) := by decide +kernel
theorem d_Rn_decisionOf_18 : decode b_Rn_decisionOf 18 = .ok (.iaload, 1) := by decide +kernel
theorem d_Rn_decisionOf_19 : decode b_Rn_decisionOf 19 = .ok (.goto 5, 3) := by decide +kernel
theorem d_Rn_decisionOf_22 : decode b_Rn_decisionOf 22 = .ok (.bipush (-5), 2) := by decide +kernel
theorem d_Rn_decisionOf_24 : decode b_Rn_decisionOf 24 = .ok (.ireturn, 1) := by decide +kernel
theorem d_Rn_tell_0 : decode b_Rn_tell 0 = .ok (.iload_n 1, 1) := by decide +kernel
theorem d_Rn_tell_1 : decode b_Rn_tell 1 = .ok (.tableswitch 81 0 6 #[43, 51, 56, 61, 66, 71, 76], 43) := by decide +kernel
theorem d_Rn_tell_44 : decode b_Rn_tell 44 = .ok (.aload_n 0, 1) := by decide +kernel
theorem d_Rn_tell_45 : decode b_Rn_tell 45 = .ok (.getfield 34, 3) := by decide +kernel
theorem d_Rn_tell_48 : decode b_Rn_tell 48 = .ok (.invokevirtual 66, 3) := by decide +kernel
theorem d_Rn_tell_51 : decode b_Rn_tell 51 = .ok (.ireturn, 1) := by decide +kernel
theorem d_Rn_tell_52 : decode b_Rn_tell 52 = .ok (.aload_n 0, 1) := by decide +kernel
theorem d_Rn_tell_53 : decode b_Rn_tell 53 = .ok (.getfield 63, 3) := by decide +kernel
theorem d_Rn_tell_56 : decode b_Rn_tell 56 = .ok (.ireturn, 1) := by decide +kernel
theorem d_Rn_tell_57 : decode b_Rn_tell 57 = .ok (.aload_n 0, 1) := by decide +kernel
theorem d_Rn_tell_58 : decode b_Rn_tell 58 = .ok (.getfield 69, 3) := by decide +kernel
theorem d_Rn_tell_61 : decode b_Rn_tell 61 = .ok (.ireturn, 1) := by decide +kernel
theorem d_Rn_tell_62 : decode b_Rn_tell 62 = .ok (.aload_n 0, 1) := by decide +kernel
theorem d_Rn_tell_63 : decode b_Rn_tell 63 = .ok (.getfield 72, 3) := by decide +kernel
theorem d_Rn_tell_66 : decode b_Rn_tell 66 = .ok (.ireturn, 1) := by decide +kernel
theorem d_Rn_tell_67 : decode b_Rn_tell 67 = .ok (.aload_n 0, 1) := by decide +kernel
theorem d_Rn_tell_68 : decode b_Rn_tell 68 = .ok (.getfield 75, 3) := by decide +kernel
theorem d_Rn_tell_71 : decode b_Rn_tell 71 = .ok (.ireturn, 1) := by decide +kernel
theorem d_Rn_tell_72 : decode b_Rn_tell 72 = .ok (.aload_n 0, 1) := by decide +kernel
theorem d_Rn_tell_73 : decode b_Rn_tell 73 = .ok (.getfield 57, 3) := by decide +kernel
theorem d_Rn_tell_76 : decode b_Rn_tell 76 = .ok (.ireturn, 1) := by decide +kernel
theorem d_Rn_tell_77 : decode b_Rn_tell 77 = .ok (.aload_n 0, 1) := by decide +kernel
theorem d_Rn_tell_78 : decode b_Rn_tell 78 = .ok (.getfield 45, 3) := by decide +kernel
theorem d_Rn_tell_81 : decode b_Rn_tell 81 = .ok (.ireturn, 1) := by decide +kernel
theorem d_Rn_tell_82 : decode b_Rn_tell 82 = .ok (.bipush (-2), 2) := by decide +kernel
theorem d_Rn_tell_84 : decode b_Rn_tell 84 = .ok (.ireturn, 1) := by decide +kernel
noncomputable def f_Rn_meetMark (b : TBk) (u : TRn) (p0 : Int32) : TRn := (if (f_Rn_isInPlace b u p0) = 0 then (let v_6 := f_Rn_fail b u 2; v_6) else (let v_3 := f_Rn_passMark b u p0; (if p0 = 8 then v_3 else (let v_5 := f_Rn_skip b v_3 0 0; v_5))))
set_option maxHeartbeats 4000000 in
set_option maxRecDepth 100000 in
theorem c_Rn_meetMark (l : Launch) (dC : Nat → ClassId) (dI : Nat → Nat → Nat) (ad : Nat → Nat) (ca : Nat → ClassId) (sz : Nat) (b : TBk) (u : TRn) (p0 : Int32) (hpre : BkS b) (F : TRn) (he : F = f_Rn_meetMark b u p0) : wx_Mv l y_Rn_meetMark ws_Rn_meetMark ({ frames := 5, cells := 0, slots := 0, locals := 113 } : Room) (dC, dI) vwCl (t_R ca) [.ref (ad 0), .int p0] (w_R ad ca b u) sz (fun v : TRn => w_R ad ca b v) (fun v : TRn => v = F) := by
  refine Met.ofW (cc := b_Rn_meetMark) (maxL := 2) (ret := none) (by decide) rfl ?_
  intro p e s m args below meth c s₁ B hml hv
  obtain ⟨rfl, hsz, hP, hK, hD0, hN⟩ := hv
  have hx := B.exec
  have hb := B.bytes
  have hr := B.returns
  have hts := atoms_spec (ws := ws_Rn_meetMark) B.pre
  have ht : ∀ w ∈ TB, w.before _ s = true := fun w h => hts w (List.mem_cons_of_mem _ h)
  have hown : s.vm.findClass R_Rn = some m.cls := findClass_of_methodNamed B.named
  have hlocks := B.notSynchronized
  subst hsz
  have hD := hD0.self (sz := s.heap.size)
  generalize hAe : va_A (w_R ad ca b u) s.heap.size = A at hD ⊢
  have hA : ∀ q : Nat, s.heap.size ≤ q → A q := fun q h => by rw [← hAe]; exact Or.inr h
  have hS : va_S A s.heap s.heap [] := va_S.rf
  have hl := lv_entry ([.ref (ad 0), .int p0]) (n := 2) (Nat.le_of_ble_eq_true rfl)
  rw [lg_entry_eq]
  generalize (lg_sl ([.ref (ad 0), .int p0]) ++ List.replicate (2 - (lg_sl ([.ref (ad 0), .int p0])).length) Slot.unset).toArray = ls at hl ⊢
  have hl : lv_has ls 2 [(0, .ref (ad 0)), (1, .int p0)] := hl
  unfold f_Rn_meetMark at he
  refine lv_aload_n hx hb d_Rn_meetMark_0 rfl (lv_at hl 0 rfl) ?_
  refine lv_iload_n hx hb d_Rn_meetMark_1 rfl (lv_at hl 1 rfl) ?_
  refine wx_ci (wS := fun _ : Unit => w_R ad ca b u) (ws2 := fun _ : Unit => w_R ad ca b u) (va_runV (As := [.int p0]) (rest := []) ⟨hx, hb, hml, hown, ht⟩ (c_Rn_isInPlace l dC dI ad ca s.heap.size b u p0 _ rfl) (cwV 1 ht (tb_V q_391 q_393 q_20 q_46 q_394) rfl rfl rfl p_Rn_isInPlace ⟨show 0 + 1 ≤ 5 by omega, show 8 + (3 + 11) + 0 ≤ 113 by omega⟩) (wx_preV (wc := (w_R ad ca b u)) hN hK hP hD [0, 1, 2, 3, 4, 5, 6, 7, 8, 9, 10, 11, 12, 13, 14] [0, 1, 2, 3, 4, 5, 6, 7, 8, 9, 10, 11] rfl (by decide) rfl (ci := 2) (q0 := 0) rfl rfl) rfl rfl hl.1 rfl (lv_room (Nat.le_of_ble_eq_true rfl)) d_Rn_meetMark_2 ⟨Nat.zero_le _, Nat.zero_le _⟩) hP hD hS hA [0, 1, 2, 3, 4, 5, 6, 7, 8, 9, 10, 11, 12, 13, 14] [] [0, 1, 2, 3, 4, 5, 6, 7, 8, 9, 10, 11, 12, 13, 14] rfl rfl (by decide) (by decide) (by decide) (fun _ => rfl) (fun r_1 _ H locs hw hP hD hS => ?_)
  subst hw
  have hP : va_P (dC, dI) vwCl (w_R ad ca b u) H := hP
  have hD : va_D A (w_R ad ca b u) := hD
  refine lv_if_ne (tgt := 14) hx hb d_Rn_meetMark_5 (by decide) (fun c_2 => ?_) (fun c_2 => ?_)
  · have he := he.trans (if_neg c_2)
    refine lv_aload_n hx hb d_Rn_meetMark_14 rfl (lv_at hl 0 rfl) ?_
    refine lv_iload_n hx hb d_Rn_meetMark_15 rfl (lv_at hl 1 rfl) ?_
    refine wx_cv (wS := fun v : TRn => w_R ad ca b v) (ws2 := fun v : TRn => w_R ad ca b v) (va_runV (As := [.int p0]) (rest := []) ⟨hx, hb, hml, hown, ht⟩ (c_Rn_passMark l dC dI ad ca H.size b u p0 _ rfl) (cwV 1 ht (tb_V q_395 q_397 q_21 q_46 q_398) rfl rfl rfl p_Rn_passMark ⟨show 0 + 1 ≤ 5 by omega, show 8 + (3 + 11) + 0 ≤ 113 by omega⟩) (wx_preV (wc := (w_R ad ca b u)) hN hK hP hD [0, 1, 2, 3, 4, 5, 6, 7, 8, 9, 10, 11, 12, 13, 14] [0, 1, 2, 3, 4, 5, 6, 7, 8, 9, 10, 11] rfl (by decide) rfl (ci := 2) (q0 := 0) rfl rfl) rfl rfl hl.1 rfl (lv_room (Nat.le_of_ble_eq_true rfl)) d_Rn_meetMark_16 ⟨Nat.zero_le _, Nat.zero_le _⟩) hP hD hS hA [0, 1, 2, 3, 4, 5, 6, 7, 8, 9, 10, 11, 12, 13, 14] [] [0, 1, 2, 3, 4, 5, 6, 7, 8, 9, 10, 11, 12, 13, 14] rfl rfl (by decide) (by decide) (by decide) (fun _ => rfl) (fun v_3 H locs hw hP hD hS => ?_)
    have hP : va_P (dC, dI) vwCl (w_R ad ca b v_3) H := hP
    have hD : va_D A (w_R ad ca b v_3) := hD
    rw [← hw] at he
    try dsimp only at he
    refine lv_iload_n hx hb d_Rn_meetMark_19 rfl (lv_at hl 1 rfl) ?_
    refine lv_bipush (v := 8) hx hb d_Rn_meetMark_20 (by decide) ?_
    refine lv_icmp_eq (tgt := 31) hx hb d_Rn_meetMark_22 (by decide) (fun c_4 => ?_) (fun c_4 => ?_)
    · have he := he.trans (if_pos c_4)
      exact W.vret hx hb hr (fun t ht hW => ⟨⟨v_3, rfl, he.symm, by rw [ht]; exact hP, va_K.moved hW.alike hK, hD⟩, hS.F ht⟩) hS.2.2 d_Rn_meetMark_31
    · have he := he.trans (if_neg c_4)
      refine lv_aload_n hx hb d_Rn_meetMark_25 rfl (lv_at hl 0 rfl) ?_
      refine lv_iconst (v := 0) hx hb d_Rn_meetMark_26 (by decide) ?_
      refine lv_iconst (v := 0) hx hb d_Rn_meetMark_27 (by decide) ?_
      refine wx_cv (wS := fun v : TRn => w_R ad ca b v) (ws2 := fun v : TRn => w_R ad ca b v) (va_runV (As := [.int 0, .int 0]) (rest := []) ⟨hx, hb, hml, hown, ht⟩ (c_Rn_skip l dC dI ad ca H.size b v_3 0 0 hpre _ rfl) (cwV 2 ht (tb_V q_387 q_389 q_19 q_46 q_390) rfl rfl rfl p_Rn_skip ⟨show 4 + 1 ≤ 5 by omega, show 8 + (8 + 11) + 86 ≤ 113 by omega⟩) (wx_preV (wc := (w_R ad ca b v_3)) hN hK hP hD [0, 1, 2, 3, 4, 5, 6, 7, 8, 9, 10, 11, 12, 13, 14] [0, 1, 2, 3, 4, 5, 6, 7, 8, 9, 10, 11] rfl (by decide) rfl (ci := 2) (q0 := 0) rfl rfl) rfl rfl hl.1 rfl (lv_room (Nat.le_of_ble_eq_true rfl)) d_Rn_meetMark_28 ⟨Nat.zero_le _, Nat.zero_le _⟩) hP hD hS hA [0, 1, 2, 3, 4, 5, 6, 7, 8, 9, 10, 11, 12, 13, 14] [] [0, 1, 2, 3, 4, 5, 6, 7, 8, 9, 10, 11, 12, 13, 14] rfl rfl (by decide) (by decide) (by decide) (fun _ => rfl) (fun v_5 H locs hw hP hD hS => ?_)
      have hP : va_P (dC, dI) vwCl (w_R ad ca b v_5) H := hP
      have hD : va_D A (w_R ad ca b v_5) := hD
      rw [← hw] at he
      try dsimp only at he
      exact W.vret hx hb hr (fun t ht hW => ⟨⟨v_5, rfl, he.symm, by rw [ht]; exact hP, va_K.moved hW.alike hK, hD⟩, hS.F ht⟩) hS.2.2 d_Rn_meetMark_31
  · have he := he.trans (if_pos c_2)
    refine lv_aload_n hx hb d_Rn_meetMark_8 rfl (lv_at hl 0 rfl) ?_
    refine lv_iconst (v := 2) hx hb d_Rn_meetMark_9 (by decide) ?_
    refine wx_cv (wS := fun v : TRn => w_R ad ca b v) (ws2 := fun v : TRn => w_R ad ca b v) (va_runV (As := [.int 2]) (rest := []) ⟨hx, hb, hml, hown, ht⟩ (c_Rn_fail l dC dI ad ca H.size b u 2 _ rfl) (cwV 1 ht (tb_V q_275 q_277 q_3 q_46 q_278) rfl rfl rfl p_Rn_fail ⟨show 0 + 1 ≤ 5 by omega, show 8 + (2 + 11) + 0 ≤ 113 by omega⟩) (wx_preV (wc := (w_R ad ca b u)) hN hK hP hD [0, 1, 2, 3, 4, 5, 6, 7, 8, 9, 10, 11, 12, 13, 14] [0, 1, 2, 3, 4, 5, 6, 7, 8, 9, 10, 11] rfl (by decide) rfl (ci := 2) (q0 := 0) rfl rfl) rfl rfl hl.1 rfl (lv_room (Nat.le_of_ble_eq_true rfl)) d_Rn_meetMark_10 ⟨Nat.zero_le _, Nat.zero_le _⟩) hP hD hS hA [0, 1, 2, 3, 4, 5, 6, 7, 8, 9, 10, 11, 12, 13, 14] [] [0, 1, 2, 3, 4, 5, 6, 7, 8, 9, 10, 11, 12, 13, 14] rfl rfl (by decide) (by decide) (by decide) (fun _ => rfl) (fun v_6 H locs hw hP hD hS => ?_)
    have hP : va_P (dC, dI) vwCl (w_R ad ca b v_6) H := hP
    have hD : va_D A (w_R ad ca b v_6) := hD
    rw [← hw] at he
    try dsimp only at he
    exact W.vret hx hb hr (fun t ht hW => ⟨⟨v_6, rfl, he.symm, by rw [ht]; exact hP, va_K.moved hW.alike hK, hD⟩, hS.F ht⟩) hS.2.2 d_Rn_meetMark_13
noncomputable def f_Rn_decide (b : TBk) (u : TRn) (p0 : Int32) (p1 : Int32) (p2 : Int32) : TRn := (if p0 = 7 then (if p1 < 0 then (if p2 = 0 then u else (let v_29 := f_Rn_skip b u p2 1; v_29)) else (if 100 ≤ p1 then (if p2 = 0 then u else (let v_36 := f_Rn_skip b u p2 1; v_36)) else (if 0 ≤ p2 then (if p2 = 0 then (TRn_set_decisions u (upd (TRn_decisions u) p1.toNatClampNeg (p2 + 2))) else (let v_44 := f_Rn_skip b (TRn_set_decisions u (upd (TRn_decisions u) p1.toNatClampNeg (p2 + 2))) p2 1; v_44)) else (if p2 = 0 then (TRn_set_decisions u (upd (TRn_decisions u) p1.toNatClampNeg (-1))) else (let v_50 := f_Rn_skip b (TRn_set_decisions u (upd (TRn_decisions u) p1.toNatClampNeg (-1))) p2 1; v_50))))) else (if p1 < 0 then (if p2 = 0 then (let v_8 := f_Rn_skip b u 0 1; v_8) else u) else (if 100 ≤ p1 then (if p2 = 0 then (let v_15 := f_Rn_skip b u 0 1; v_15) else u) else (if p2 = 0 then (let v_22 := f_Rn_skip b (TRn_set_decisions u (upd (TRn_decisions u) p1.toNatClampNeg p2)) 0 1; v_22) else (TRn_set_decisions u (upd (TRn_decisions u) p1.toNatClampNeg p2))))))
set_option maxHeartbeats 4000000 in
set_option maxRecDepth 100000 in
theorem c_Rn_decide (l : Launch) (dC : Nat → ClassId) (dI : Nat → Nat → Nat) (ad : Nat → Nat) (ca : Nat → ClassId) (sz : Nat) (b : TBk) (u : TRn) (p0 : Int32) (p1 : Int32) (p2 : Int32) (hpre : BkS b) (F : TRn) (he : F = f_Rn_decide b u p0 p1 p2) : wx_Mv l y_Rn_decide ws_Rn_decide ({ frames := 5, cells := 0, slots := 0, locals := 113 } : Room) (dC, dI) vwCl (t_R ca) [.ref (ad 0), .int p0, .int p1, .int p2] (w_R ad ca b u) sz (fun v : TRn => w_R ad ca b v) (fun v : TRn => v = F) := by
  refine Met.ofW (cc := b_Rn_decide) (maxL := 6) (ret := none) (by decide) rfl ?_
  intro p e s m args below meth c s₁ B hml hv
  obtain ⟨rfl, hsz, hP, hK, hD0, hN⟩ := hv
  have hx := B.exec
  have hb := B.bytes
  have hr := B.returns
  have hts := atoms_spec (ws := ws_Rn_decide) B.pre
  have ht : ∀ w ∈ TB, w.before _ s = true := fun w h => hts w (List.mem_cons_of_mem _ h)
  have hown : s.vm.findClass R_Rn = some m.cls := findClass_of_methodNamed B.named
  have hlocks := B.notSynchronized
  subst hsz
  have hD := hD0.self (sz := s.heap.size)
  generalize hAe : va_A (w_R ad ca b u) s.heap.size = A at hD ⊢
  have hA : ∀ q : Nat, s.heap.size ≤ q → A q := fun q h => by rw [← hAe]; exact Or.inr h
  have hS : va_S A s.heap s.heap [] := va_S.rf
  have hl := lv_entry ([.ref (ad 0), .int p0, .int p1, .int p2]) (n := 6) (Nat.le_of_ble_eq_true rfl)
  rw [lg_entry_eq]
  generalize (lg_sl ([.ref (ad 0), .int p0, .int p1, .int p2]) ++ List.replicate (6 - (lg_sl ([.ref (ad 0), .int p0, .int p1, .int p2])).length) Slot.unset).toArray = ls at hl ⊢
  have hl : lv_has ls 6 [(0, .ref (ad 0)), (1, .int p0), (2, .int p1), (3, .int p2)] := hl
  unfold f_Rn_decide at he
  refine lv_iload_n hx hb d_Rn_decide_0 rfl (lv_at hl 1 rfl) ?_
  refine lv_bipush (v := 7) hx hb d_Rn_decide_1 (by decide) ?_
  refine lv_icmp_ne (tgt := 10) hx hb d_Rn_decide_3 (by decide) (fun c_1 => ?_) (fun c_1 => ?_)
  · have he := he.trans (if_neg c_1)
    refine lv_iconst (v := 0) hx hb d_Rn_decide_10 (by decide) ?_
    refine lv_istore (lv' := [(4, .int 0), (0, .ref (ad 0)), (1, .int p0), (2, .int p1), (3, .int p2)]) hx hb d_Rn_decide_11 hl (by decide) rfl (fun ls hl => ?_)
    refine lv_iload_n hx hb d_Rn_decide_13 rfl (lv_at hl 3 rfl) ?_
    refine lv_if_lt (tgt := 52) hx hb d_Rn_decide_14 (by decide) (fun c_2 => ?_) (fun c_2 => ?_)
    · have he := he.trans (if_pos c_2)
      refine lv_iload hx hb d_Rn_decide_52 (lv_at hl 0 rfl) ?_
      refine lv_if_eq (tgt := 69) hx hb d_Rn_decide_54 (by decide) (fun c_3 => ?_) (fun c_3 => ?_)
      · refine lv_iload_n hx hb d_Rn_decide_69 rfl (lv_at hl 4 rfl) ?_
        refine lv_if_ne (tgt := 77) hx hb d_Rn_decide_70 (by decide) (fun c_4 => ?_) (fun c_4 => ?_)
        · have he := he.trans (if_neg c_4)
          refine lv_iconst (v := 0) hx hb d_Rn_decide_77 (by decide) ?_
          refine lv_istore (lv' := [(5, .int 0), (4, .int 0), (0, .ref (ad 0)), (1, .int p0), (2, .int p1), (3, .int p2)]) hx hb d_Rn_decide_78 hl (by decide) rfl (fun ls hl => ?_)
          refine lv_iload hx hb d_Rn_decide_80 (lv_at hl 0 rfl) ?_
          refine lv_if_eq (tgt := 100) hx hb d_Rn_decide_82 (by decide) (fun c_5 => ?_) (fun c_5 => ?_)
          · exact W.vret hx hb hr (fun t ht hW => ⟨⟨u, rfl, he.symm, by rw [ht]; exact hP, va_K.moved hW.alike hK, hD⟩, hS.F ht⟩) hS.2.2 d_Rn_decide_100
          · exact absurd c_5 (by decide)
        · have he := he.trans (if_pos c_4)
          refine lv_iconst (v := 1) hx hb d_Rn_decide_73 (by decide) ?_
          refine lv_goto (tgt := 78) hx hb d_Rn_decide_74 (by decide) ?_
          refine lv_istore (lv' := [(5, .int 1), (4, .int 0), (0, .ref (ad 0)), (1, .int p0), (2, .int p1), (3, .int p2)]) hx hb d_Rn_decide_78 hl (by decide) rfl (fun ls hl => ?_)
          refine lv_iload hx hb d_Rn_decide_80 (lv_at hl 0 rfl) ?_
          refine lv_if_eq (tgt := 100) hx hb d_Rn_decide_82 (by decide) (fun c_6 => ?_) (fun c_6 => ?_)
          · exact absurd c_6 (by decide)
          · refine lv_aload_n hx hb d_Rn_decide_85 rfl (lv_at hl 2 rfl) ?_
            refine lv_iload hx hb d_Rn_decide_86 (lv_at hl 1 rfl) ?_
            refine lv_if_eq (tgt := 95) hx hb d_Rn_decide_88 (by decide) (fun c_7 => ?_) (fun c_7 => ?_)
            · refine lv_iconst (v := 0) hx hb d_Rn_decide_95 (by decide) ?_
              refine lv_iconst (v := 1) hx hb d_Rn_decide_96 (by decide) ?_
              refine wx_cv (wS := fun v : TRn => w_R ad ca b v) (ws2 := fun v : TRn => w_R ad ca b v) (va_runV (As := [.int 0, .int 1]) (rest := []) ⟨hx, hb, hml, hown, ht⟩ (c_Rn_skip l dC dI ad ca s.heap.size b u 0 1 hpre _ rfl) (cwV 2 ht (tb_V q_387 q_389 q_19 q_46 q_390) rfl rfl rfl p_Rn_skip ⟨show 4 + 1 ≤ 5 by omega, show 8 + (8 + 11) + 86 ≤ 113 by omega⟩) (wx_preV (wc := (w_R ad ca b u)) hN hK hP hD [0, 1, 2, 3, 4, 5, 6, 7, 8, 9, 10, 11, 12, 13, 14] [0, 1, 2, 3, 4, 5, 6, 7, 8, 9, 10, 11] rfl (by decide) rfl (ci := 2) (q0 := 0) rfl rfl) rfl rfl hl.1 rfl (lv_room (Nat.le_of_ble_eq_true rfl)) d_Rn_decide_97 ⟨Nat.zero_le _, Nat.zero_le _⟩) hP hD hS hA [0, 1, 2, 3, 4, 5, 6, 7, 8, 9, 10, 11, 12, 13, 14] [] [0, 1, 2, 3, 4, 5, 6, 7, 8, 9, 10, 11, 12, 13, 14] rfl rfl (by decide) (by decide) (by decide) (fun _ => rfl) (fun v_8 H locs hw hP hD hS => ?_)
              have hP : va_P (dC, dI) vwCl (w_R ad ca b v_8) H := hP
              have hD : va_D A (w_R ad ca b v_8) := hD
              rw [← hw] at he
              try dsimp only at he
              exact W.vret hx hb hr (fun t ht hW => ⟨⟨v_8, rfl, he.symm, by rw [ht]; exact hP, va_K.moved hW.alike hK, hD⟩, hS.F ht⟩) hS.2.2 d_Rn_decide_100
            · exact absurd c_7 (by decide)
      · exact absurd c_3 (by decide)
    · have he := he.trans (if_neg c_2)
      refine lv_iload_n hx hb d_Rn_decide_17 rfl (lv_at hl 3 rfl) ?_
      refine lv_aload_n hx hb d_Rn_decide_18 rfl (lv_at hl 1 rfl) ?_
      refine va_get (D := (dC, dI)) (ci := 2) (v := .ref (ad 2)) (C := R_Rn) (T := T_Rn) (N := 12) hx hb ht i_Rn hown hK hP 0 rfl rfl 3 (by decide) (ht _ q_135) (fun _ h9 => h9) rfl d_Rn_decide_19 ?_
      refine va_alen hx hb hK hP 2 1 rfl rfl (v := 100) rfl d_Rn_decide_22 ?_
      refine lv_icmp_ge (tgt := 52) hx hb d_Rn_decide_23 (by decide) (fun c_9 => ?_) (fun c_9 => ?_)
      · have he := he.trans (if_pos c_9)
        refine lv_iload hx hb d_Rn_decide_52 (lv_at hl 0 rfl) ?_
        refine lv_if_eq (tgt := 69) hx hb d_Rn_decide_54 (by decide) (fun c_10 => ?_) (fun c_10 => ?_)
        · refine lv_iload_n hx hb d_Rn_decide_69 rfl (lv_at hl 4 rfl) ?_
          refine lv_if_ne (tgt := 77) hx hb d_Rn_decide_70 (by decide) (fun c_11 => ?_) (fun c_11 => ?_)
          · have he := he.trans (if_neg c_11)
            refine lv_iconst (v := 0) hx hb d_Rn_decide_77 (by decide) ?_
            refine lv_istore (lv' := [(5, .int 0), (4, .int 0), (0, .ref (ad 0)), (1, .int p0), (2, .int p1), (3, .int p2)]) hx hb d_Rn_decide_78 hl (by decide) rfl (fun ls hl => ?_)
            refine lv_iload hx hb d_Rn_decide_80 (lv_at hl 0 rfl) ?_
            refine lv_if_eq (tgt := 100) hx hb d_Rn_decide_82 (by decide) (fun c_12 => ?_) (fun c_12 => ?_)
            · exact W.vret hx hb hr (fun t ht hW => ⟨⟨u, rfl, he.symm, by rw [ht]; exact hP, va_K.moved hW.alike hK, hD⟩, hS.F ht⟩) hS.2.2 d_Rn_decide_100
            · exact absurd c_12 (by decide)
          · have he := he.trans (if_pos c_11)
            refine lv_iconst (v := 1) hx hb d_Rn_decide_73 (by decide) ?_
            refine lv_goto (tgt := 78) hx hb d_Rn_decide_74 (by decide) ?_
            refine lv_istore (lv' := [(5, .int 1), (4, .int 0), (0, .ref (ad 0)), (1, .int p0), (2, .int p1), (3, .int p2)]) hx hb d_Rn_decide_78 hl (by decide) rfl (fun ls hl => ?_)
            refine lv_iload hx hb d_Rn_decide_80 (lv_at hl 0 rfl) ?_
            refine lv_if_eq (tgt := 100) hx hb d_Rn_decide_82 (by decide) (fun c_13 => ?_) (fun c_13 => ?_)
            · exact absurd c_13 (by decide)
            · refine lv_aload_n hx hb d_Rn_decide_85 rfl (lv_at hl 2 rfl) ?_
              refine lv_iload hx hb d_Rn_decide_86 (lv_at hl 1 rfl) ?_
              refine lv_if_eq (tgt := 95) hx hb d_Rn_decide_88 (by decide) (fun c_14 => ?_) (fun c_14 => ?_)
              · refine lv_iconst (v := 0) hx hb d_Rn_decide_95 (by decide) ?_
                refine lv_iconst (v := 1) hx hb d_Rn_decide_96 (by decide) ?_
                refine wx_cv (wS := fun v : TRn => w_R ad ca b v) (ws2 := fun v : TRn => w_R ad ca b v) (va_runV (As := [.int 0, .int 1]) (rest := []) ⟨hx, hb, hml, hown, ht⟩ (c_Rn_skip l dC dI ad ca s.heap.size b u 0 1 hpre _ rfl) (cwV 2 ht (tb_V q_387 q_389 q_19 q_46 q_390) rfl rfl rfl p_Rn_skip ⟨show 4 + 1 ≤ 5 by omega, show 8 + (8 + 11) + 86 ≤ 113 by omega⟩) (wx_preV (wc := (w_R ad ca b u)) hN hK hP hD [0, 1, 2, 3, 4, 5, 6, 7, 8, 9, 10, 11, 12, 13, 14] [0, 1, 2, 3, 4, 5, 6, 7, 8, 9, 10, 11] rfl (by decide) rfl (ci := 2) (q0 := 0) rfl rfl) rfl rfl hl.1 rfl (lv_room (Nat.le_of_ble_eq_true rfl)) d_Rn_decide_97 ⟨Nat.zero_le _, Nat.zero_le _⟩) hP hD hS hA [0, 1, 2, 3, 4, 5, 6, 7, 8, 9, 10, 11, 12, 13, 14] [] [0, 1, 2, 3, 4, 5, 6, 7, 8, 9, 10, 11, 12, 13, 14] rfl rfl (by decide) (by decide) (by decide) (fun _ => rfl) (fun v_15 H locs hw hP hD hS => ?_)
                have hP : va_P (dC, dI) vwCl (w_R ad ca b v_15) H := hP
                have hD : va_D A (w_R ad ca b v_15) := hD
                rw [← hw] at he
                try dsimp only at he
                exact W.vret hx hb hr (fun t ht hW => ⟨⟨v_15, rfl, he.symm, by rw [ht]; exact hP, va_K.moved hW.alike hK, hD⟩, hS.F ht⟩) hS.2.2 d_Rn_decide_100
              · exact absurd c_14 (by decide)
        · exact absurd c_10 (by decide)
      · have he := he.trans (if_neg c_9)
        refine lv_aload_n hx hb d_Rn_decide_26 rfl (lv_at hl 1 rfl) ?_
        refine va_get (D := (dC, dI)) (ci := 2) (v := .ref (ad 2)) (C := R_Rn) (T := T_Rn) (N := 12) hx hb ht i_Rn hown hK hP 0 rfl rfl 3 (by decide) (ht _ q_135) (fun _ h9 => h9) rfl d_Rn_decide_27 ?_
        refine lv_iload_n hx hb d_Rn_decide_30 rfl (lv_at hl 3 rfl) ?_
        refine lv_iload hx hb d_Rn_decide_31 (lv_at hl 0 rfl) ?_
        refine lv_if_ne (tgt := 40) hx hb d_Rn_decide_33 (by decide) (fun c_16 => ?_) (fun c_16 => ?_)
        · exact absurd c_16 (by decide)
        · refine lv_iload_n hx hb d_Rn_decide_36 rfl (lv_at hl 4 rfl) ?_
          refine lv_goto (tgt := 51) hx hb d_Rn_decide_37 (by decide) ?_
          refine va_iast hx hb hK hP hD hS 2 1 rfl rfl (wx_inAU (by decide) c_2 c_9) d_Rn_decide_51 (fun H locs hP hD hS => ?_)
          have hP : va_P (dC, dI) vwCl (w_R ad ca b (TRn_set_decisions u (upd (TRn_decisions u) p1.toNatClampNeg p2))) H := hP
          have hD : va_D A (w_R ad ca b (TRn_set_decisions u (upd (TRn_decisions u) p1.toNatClampNeg p2))) := hD
          refine lv_iload hx hb d_Rn_decide_52 (lv_at hl 0 rfl) ?_
          refine lv_if_eq (tgt := 69) hx hb d_Rn_decide_54 (by decide) (fun c_17 => ?_) (fun c_17 => ?_)
          · refine lv_iload_n hx hb d_Rn_decide_69 rfl (lv_at hl 4 rfl) ?_
            refine lv_if_ne (tgt := 77) hx hb d_Rn_decide_70 (by decide) (fun c_18 => ?_) (fun c_18 => ?_)
            · have he := he.trans (if_neg c_18)
              refine lv_iconst (v := 0) hx hb d_Rn_decide_77 (by decide) ?_
              refine lv_istore (lv' := [(5, .int 0), (4, .int 0), (0, .ref (ad 0)), (1, .int p0), (2, .int p1), (3, .int p2)]) hx hb d_Rn_decide_78 hl (by decide) rfl (fun ls hl => ?_)
              refine lv_iload hx hb d_Rn_decide_80 (lv_at hl 0 rfl) ?_
              refine lv_if_eq (tgt := 100) hx hb d_Rn_decide_82 (by decide) (fun c_19 => ?_) (fun c_19 => ?_)
              · exact W.vret hx hb hr (fun t ht hW => ⟨⟨(TRn_set_decisions u (upd (TRn_decisions u) p1.toNatClampNeg p2)), rfl, he.symm, by rw [ht]; exact hP, va_K.moved hW.alike hK, hD⟩, hS.F ht⟩) hS.2.2 d_Rn_decide_100
              · exact absurd c_19 (by decide)
            · have he := he.trans (if_pos c_18)
              refine lv_iconst (v := 1) hx hb d_Rn_decide_73 (by decide) ?_
              refine lv_goto (tgt := 78) hx hb d_Rn_decide_74 (by decide) ?_
              refine lv_istore (lv' := [(5, .int 1), (4, .int 0), (0, .ref (ad 0)), (1, .int p0), (2, .int p1), (3, .int p2)]) hx hb d_Rn_decide_78 hl (by decide) rfl (fun ls hl => ?_)
              refine lv_iload hx hb d_Rn_decide_80 (lv_at hl 0 rfl) ?_
              refine lv_if_eq (tgt := 100) hx hb d_Rn_decide_82 (by decide) (fun c_20 => ?_) (fun c_20 => ?_)
              · exact absurd c_20 (by decide)
              · refine lv_aload_n hx hb d_Rn_decide_85 rfl (lv_at hl 2 rfl) ?_
                refine lv_iload hx hb d_Rn_decide_86 (lv_at hl 1 rfl) ?_
                refine lv_if_eq (tgt := 95) hx hb d_Rn_decide_88 (by decide) (fun c_21 => ?_) (fun c_21 => ?_)
                · refine lv_iconst (v := 0) hx hb d_Rn_decide_95 (by decide) ?_
                  refine lv_iconst (v := 1) hx hb d_Rn_decide_96 (by decide) ?_
                  refine wx_cv (wS := fun v : TRn => w_R ad ca b v) (ws2 := fun v : TRn => w_R ad ca b v) (va_runV (As := [.int 0, .int 1]) (rest := []) ⟨hx, hb, hml, hown, ht⟩ (c_Rn_skip l dC dI ad ca H.size b (TRn_set_decisions u (upd (TRn_decisions u) p1.toNatClampNeg p2)) 0 1 hpre _ rfl) (cwV 2 ht (tb_V q_387 q_389 q_19 q_46 q_390) rfl rfl rfl p_Rn_skip ⟨show 4 + 1 ≤ 5 by omega, show 8 + (8 + 11) + 86 ≤ 113 by omega⟩) (wx_preV (wc := (w_R ad ca b (TRn_set_decisions u (upd (TRn_decisions u) p1.toNatClampNeg p2)))) hN hK hP hD [0, 1, 2, 3, 4, 5, 6, 7, 8, 9, 10, 11, 12, 13, 14] [0, 1, 2, 3, 4, 5, 6, 7, 8, 9, 10, 11] rfl (by decide) rfl (ci := 2) (q0 := 0) rfl rfl) rfl rfl hl.1 rfl (lv_room (Nat.le_of_ble_eq_true rfl)) d_Rn_decide_97 ⟨Nat.zero_le _, Nat.zero_le _⟩) hP hD hS hA [0, 1, 2, 3, 4, 5, 6, 7, 8, 9, 10, 11, 12, 13, 14] [] [0, 1, 2, 3, 4, 5, 6, 7, 8, 9, 10, 11, 12, 13, 14] rfl rfl (by decide) (by decide) (by decide) (fun _ => rfl) (fun v_22 H locs hw hP hD hS => ?_)
                  have hP : va_P (dC, dI) vwCl (w_R ad ca b v_22) H := hP
                  have hD : va_D A (w_R ad ca b v_22) := hD
                  rw [← hw] at he
                  try dsimp only at he
                  exact W.vret hx hb hr (fun t ht hW => ⟨⟨v_22, rfl, he.symm, by rw [ht]; exact hP, va_K.moved hW.alike hK, hD⟩, hS.F ht⟩) hS.2.2 d_Rn_decide_100
                · exact absurd c_21 (by decide)
          · exact absurd c_17 (by decide)
  · have he := he.trans (if_pos c_1)
    refine lv_iconst (v := 1) hx hb d_Rn_decide_6 (by decide) ?_
    refine lv_goto (tgt := 11) hx hb d_Rn_decide_7 (by decide) ?_
    refine lv_istore (lv' := [(4, .int 1), (0, .ref (ad 0)), (1, .int p0), (2, .int p1), (3, .int p2)]) hx hb d_Rn_decide_11 hl (by decide) rfl (fun ls hl => ?_)
    refine lv_iload_n hx hb d_Rn_decide_13 rfl (lv_at hl 3 rfl) ?_
    refine lv_if_lt (tgt := 52) hx hb d_Rn_decide_14 (by decide) (fun c_23 => ?_) (fun c_23 => ?_)
    · have he := he.trans (if_pos c_23)
      refine lv_iload hx hb d_Rn_decide_52 (lv_at hl 0 rfl) ?_
      refine lv_if_eq (tgt := 69) hx hb d_Rn_decide_54 (by decide) (fun c_24 => ?_) (fun c_24 => ?_)
      · exact absurd c_24 (by decide)
      · refine lv_iload_n hx hb d_Rn_decide_57 rfl (lv_at hl 4 rfl) ?_
        refine lv_if_eq (tgt := 65) hx hb d_Rn_decide_58 (by decide) (fun c_25 => ?_) (fun c_25 => ?_)
        · have he := he.trans (if_pos c_25)
          refine lv_iconst (v := 0) hx hb d_Rn_decide_65 (by decide) ?_
          refine lv_goto (tgt := 78) hx hb d_Rn_decide_66 (by decide) ?_
          refine lv_istore (lv' := [(5, .int 0), (4, .int 1), (0, .ref (ad 0)), (1, .int p0), (2, .int p1), (3, .int p2)]) hx hb d_Rn_decide_78 hl (by decide) rfl (fun ls hl => ?_)
          refine lv_iload hx hb d_Rn_decide_80 (lv_at hl 0 rfl) ?_
          refine lv_if_eq (tgt := 100) hx hb d_Rn_decide_82 (by decide) (fun c_26 => ?_) (fun c_26 => ?_)
          · exact W.vret hx hb hr (fun t ht hW => ⟨⟨u, rfl, he.symm, by rw [ht]; exact hP, va_K.moved hW.alike hK, hD⟩, hS.F ht⟩) hS.2.2 d_Rn_decide_100
          · exact absurd c_26 (by decide)
        · have he := he.trans (if_neg c_25)
          refine lv_iconst (v := 1) hx hb d_Rn_decide_61 (by decide) ?_
          refine lv_goto (tgt := 78) hx hb d_Rn_decide_62 (by decide) ?_
          refine lv_istore (lv' := [(5, .int 1), (4, .int 1), (0, .ref (ad 0)), (1, .int p0), (2, .int p1), (3, .int p2)]) hx hb d_Rn_decide_78 hl (by decide) rfl (fun ls hl => ?_)
          refine lv_iload hx hb d_Rn_decide_80 (lv_at hl 0 rfl) ?_
          refine lv_if_eq (tgt := 100) hx hb d_Rn_decide_82 (by decide) (fun c_27 => ?_) (fun c_27 => ?_)
          · exact absurd c_27 (by decide)
          · refine lv_aload_n hx hb d_Rn_decide_85 rfl (lv_at hl 2 rfl) ?_
            refine lv_iload hx hb d_Rn_decide_86 (lv_at hl 1 rfl) ?_
            refine lv_if_eq (tgt := 95) hx hb d_Rn_decide_88 (by decide) (fun c_28 => ?_) (fun c_28 => ?_)
            · exact absurd c_28 (by decide)
            · refine lv_iload_n hx hb d_Rn_decide_91 rfl (lv_at hl 5 rfl) ?_
              refine lv_goto (tgt := 96) hx hb d_Rn_decide_92 (by decide) ?_
              refine lv_iconst (v := 1) hx hb d_Rn_decide_96 (by decide) ?_
              refine wx_cv (wS := fun v : TRn => w_R ad ca b v) (ws2 := fun v : TRn => w_R ad ca b v) (va_runV (As := [.int p2, .int 1]) (rest := []) ⟨hx, hb, hml, hown, ht⟩ (c_Rn_skip l dC dI ad ca s.heap.size b u p2 1 hpre _ rfl) (cwV 2 ht (tb_V q_387 q_389 q_19 q_46 q_390) rfl rfl rfl p_Rn_skip ⟨show 4 + 1 ≤ 5 by omega, show 8 + (8 + 11) + 86 ≤ 113 by omega⟩) (wx_preV (wc := (w_R ad ca b u)) hN hK hP hD [0, 1, 2, 3, 4, 5, 6, 7, 8, 9, 10, 11, 12, 13, 14] [0, 1, 2, 3, 4, 5, 6, 7, 8, 9, 10, 11] rfl (by decide) rfl (ci := 2) (q0 := 0) rfl rfl) rfl rfl hl.1 rfl (lv_room (Nat.le_of_ble_eq_true rfl)) d_Rn_decide_97 ⟨Nat.zero_le _, Nat.zero_le _⟩) hP hD hS hA [0, 1, 2, 3, 4, 5, 6, 7, 8, 9, 10, 11, 12, 13, 14] [] [0, 1, 2, 3, 4, 5, 6, 7, 8, 9, 10, 11, 12, 13, 14] rfl rfl (by decide) (by decide) (by decide) (fun _ => rfl) (fun v_29 H locs hw hP hD hS => ?_)
              have hP : va_P (dC, dI) vwCl (w_R ad ca b v_29) H := hP
              have hD : va_D A (w_R ad ca b v_29) := hD
              rw [← hw] at he
              try dsimp only at he
              exact W.vret hx hb hr (fun t ht hW => ⟨⟨v_29, rfl, he.symm, by rw [ht]; exact hP, va_K.moved hW.alike hK, hD⟩, hS.F ht⟩) hS.2.2 d_Rn_decide_100
    · have he := he.trans (if_neg c_23)
      refine lv_iload_n hx hb d_Rn_decide_17 rfl (lv_at hl 3 rfl) ?_
      refine lv_aload_n hx hb d_Rn_decide_18 rfl (lv_at hl 1 rfl) ?_
      refine va_get (D := (dC, dI)) (ci := 2) (v := .ref (ad 2)) (C := R_Rn) (T := T_Rn) (N := 12) hx hb ht i_Rn hown hK hP 0 rfl rfl 3 (by decide) (ht _ q_135) (fun _ h9 => h9) rfl d_Rn_decide_19 ?_
      refine va_alen hx hb hK hP 2 1 rfl rfl (v := 100) rfl d_Rn_decide_22 ?_
      refine lv_icmp_ge (tgt := 52) hx hb d_Rn_decide_23 (by decide) (fun c_30 => ?_) (fun c_30 => ?_)
      · have he := he.trans (if_pos c_30)
        refine lv_iload hx hb d_Rn_decide_52 (lv_at hl 0 rfl) ?_
        refine lv_if_eq (tgt := 69) hx hb d_Rn_decide_54 (by decide) (fun c_31 => ?_) (fun c_31 => ?_)
        · exact absurd c_31 (by decide)
        · refine lv_iload_n hx hb d_Rn_decide_57 rfl (lv_at hl 4 rfl) ?_
          refine lv_if_eq (tgt := 65) hx hb d_Rn_decide_58 (by decide) (fun c_32 => ?_) (fun c_32 => ?_)
          · have he := he.trans (if_pos c_32)
            refine lv_iconst (v := 0) hx hb d_Rn_decide_65 (by decide) ?_
            refine lv_goto (tgt := 78) hx hb d_Rn_decide_66 (by decide) ?_
            refine lv_istore (lv' := [(5, .int 0), (4, .int 1), (0, .ref (ad 0)), (1, .int p0), (2, .int p1), (3, .int p2)]) hx hb d_Rn_decide_78 hl (by decide) rfl (fun ls hl => ?_)
            refine lv_iload hx hb d_Rn_decide_80 (lv_at hl 0 rfl) ?_
            refine lv_if_eq (tgt := 100) hx hb d_Rn_decide_82 (by decide) (fun c_33 => ?_) (fun c_33 => ?_)
            · exact W.vret hx hb hr (fun t ht hW => ⟨⟨u, rfl, he.symm, by rw [ht]; exact hP, va_K.moved hW.alike hK, hD⟩, hS.F ht⟩) hS.2.2 d_Rn_decide_100
            · exact absurd c_33 (by decide)
          · have he := he.trans (if_neg c_32)
            refine lv_iconst (v := 1) hx hb d_Rn_decide_61 (by decide) ?_
            refine lv_goto (tgt := 78) hx hb d_Rn_decide_62 (by decide) ?_
            refine lv_istore (lv' := [(5, .int 1), (4, .int 1), (0, .ref (ad 0)), (1, .int p0), (2, .int p1), (3, .int p2)]) hx hb d_Rn_decide_78 hl (by decide) rfl (fun ls hl => ?_)
            refine lv_iload hx hb d_Rn_decide_80 (lv_at hl 0 rfl) ?_
            refine lv_if_eq (tgt := 100) hx hb d_Rn_decide_82 (by decide) (fun c_34 => ?_) (fun c_34 => ?_)
            · exact absurd c_34 (by decide)
            · refine lv_aload_n hx hb d_Rn_decide_85 rfl (lv_at hl 2 rfl) ?_
              refine lv_iload hx hb d_Rn_decide_86 (lv_at hl 1 rfl) ?_
              refine lv_if_eq (tgt := 95) hx hb d_Rn_decide_88 (by decide) (fun c_35 => ?_) (fun c_35 => ?_)
              · exact absurd c_35 (by decide)
              · refine lv_iload_n hx hb d_Rn_decide_91 rfl (lv_at hl 5 rfl) ?_
                refine lv_goto (tgt := 96) hx hb d_Rn_decide_92 (by decide) ?_
                refine lv_iconst (v := 1) hx hb d_Rn_decide_96 (by decide) ?_
                refine wx_cv (wS := fun v : TRn => w_R ad ca b v) (ws2 := fun v : TRn => w_R ad ca b v) (va_runV (As := [.int p2, .int 1]) (rest := []) ⟨hx, hb, hml, hown, ht⟩ (c_Rn_skip l dC dI ad ca s.heap.size b u p2 1 hpre _ rfl) (cwV 2 ht (tb_V q_387 q_389 q_19 q_46 q_390) rfl rfl rfl p_Rn_skip ⟨show 4 + 1 ≤ 5 by omega, show 8 + (8 + 11) + 86 ≤ 113 by omega⟩) (wx_preV (wc := (w_R ad ca b u)) hN hK hP hD [0, 1, 2, 3, 4, 5, 6, 7, 8, 9, 10, 11, 12, 13, 14] [0, 1, 2, 3, 4, 5, 6, 7, 8, 9, 10, 11] rfl (by decide) rfl (ci := 2) (q0 := 0) rfl rfl) rfl rfl hl.1 rfl (lv_room (Nat.le_of_ble_eq_true rfl)) d_Rn_decide_97 ⟨Nat.zero_le _, Nat.zero_le _⟩) hP hD hS hA [0, 1, 2, 3, 4, 5, 6, 7, 8, 9, 10, 11, 12, 13, 14] [] [0, 1, 2, 3, 4, 5, 6, 7, 8, 9, 10, 11, 12, 13, 14] rfl rfl (by decide) (by decide) (by decide) (fun _ => rfl) (fun v_36 H locs hw hP hD hS => ?_)
                have hP : va_P (dC, dI) vwCl (w_R ad ca b v_36) H := hP
                have hD : va_D A (w_R ad ca b v_36) := hD
                rw [← hw] at he
                try dsimp only at he
                exact W.vret hx hb hr (fun t ht hW => ⟨⟨v_36, rfl, he.symm, by rw [ht]; exact hP, va_K.moved hW.alike hK, hD⟩, hS.F ht⟩) hS.2.2 d_Rn_decide_100
      · have he := he.trans (if_neg c_30)
        refine lv_aload_n hx hb d_Rn_decide_26 rfl (lv_at hl 1 rfl) ?_
        refine va_get (D := (dC, dI)) (ci := 2) (v := .ref (ad 2)) (C := R_Rn) (T := T_Rn) (N := 12) hx hb ht i_Rn hown hK hP 0 rfl rfl 3 (by decide) (ht _ q_135) (fun _ h9 => h9) rfl d_Rn_decide_27 ?_
        refine lv_iload_n hx hb d_Rn_decide_30 rfl (lv_at hl 3 rfl) ?_
        refine lv_iload hx hb d_Rn_decide_31 (lv_at hl 0 rfl) ?_
        refine lv_if_ne (tgt := 40) hx hb d_Rn_decide_33 (by decide) (fun c_37 => ?_) (fun c_37 => ?_)
        · refine lv_iload_n hx hb d_Rn_decide_40 rfl (lv_at hl 4 rfl) ?_
          refine lv_if_ge (tgt := 48) hx hb d_Rn_decide_41 (by decide) (fun c_38 => ?_) (fun c_38 => ?_)
          · have he := he.trans (if_pos c_38)
            refine lv_iload_n hx hb d_Rn_decide_48 rfl (lv_at hl 4 rfl) ?_
            refine lv_iconst (v := 2) hx hb d_Rn_decide_49 (by decide) ?_
            refine lv_iadd hx hb d_Rn_decide_50 ?_
            refine va_iast hx hb hK hP hD hS 2 1 rfl rfl (wx_inAU (by decide) c_23 c_30) d_Rn_decide_51 (fun H locs hP hD hS => ?_)
            have hP : va_P (dC, dI) vwCl (w_R ad ca b (TRn_set_decisions u (upd (TRn_decisions u) p1.toNatClampNeg (p2 + 2)))) H := hP
            have hD : va_D A (w_R ad ca b (TRn_set_decisions u (upd (TRn_decisions u) p1.toNatClampNeg (p2 + 2)))) := hD
            refine lv_iload hx hb d_Rn_decide_52 (lv_at hl 0 rfl) ?_
            refine lv_if_eq (tgt := 69) hx hb d_Rn_decide_54 (by decide) (fun c_39 => ?_) (fun c_39 => ?_)
            · exact absurd c_39 (by decide)
            · refine lv_iload_n hx hb d_Rn_decide_57 rfl (lv_at hl 4 rfl) ?_
              refine lv_if_eq (tgt := 65) hx hb d_Rn_decide_58 (by decide) (fun c_40 => ?_) (fun c_40 => ?_)
              · have he := he.trans (if_pos c_40)
                refine lv_iconst (v := 0) hx hb d_Rn_decide_65 (by decide) ?_
                refine lv_goto (tgt := 78) hx hb d_Rn_decide_66 (by decide) ?_
                refine lv_istore (lv' := [(5, .int 0), (4, .int 1), (0, .ref (ad 0)), (1, .int p0), (2, .int p1), (3, .int p2)]) hx hb d_Rn_decide_78 hl (by decide) rfl (fun ls hl => ?_)
                refine lv_iload hx hb d_Rn_decide_80 (lv_at hl 0 rfl) ?_
                refine lv_if_eq (tgt := 100) hx hb d_Rn_decide_82 (by decide) (fun c_41 => ?_) (fun c_41 => ?_)
                · exact W.vret hx hb hr (fun t ht hW => ⟨⟨(TRn_set_decisions u (upd (TRn_decisions u) p1.toNatClampNeg (p2 + 2))), rfl, he.symm, by rw [ht]; exact hP, va_K.moved hW.alike hK, hD⟩, hS.F ht⟩) hS.2.2 d_Rn_decide_100
                · exact absurd c_41 (by decide)
              · have he := he.trans (if_neg c_40)
                refine lv_iconst (v := 1) hx hb d_Rn_decide_61 (by decide) ?_
                refine lv_goto (tgt := 78) hx hb d_Rn_decide_62 (by decide) ?_
                refine lv_istore (lv' := [(5, .int 1), (4, .int 1), (0, .ref (ad 0)), (1, .int p0), (2, .int p1), (3, .int p2)]) hx hb d_Rn_decide_78 hl (by decide) rfl (fun ls hl => ?_)
                refine lv_iload hx hb d_Rn_decide_80 (lv_at hl 0 rfl) ?_
                refine lv_if_eq (tgt := 100) hx hb d_Rn_decide_82 (by decide) (fun c_42 => ?_) (fun c_42 => ?_)
                · exact absurd c_42 (by decide)
                · refine lv_aload_n hx hb d_Rn_decide_85 rfl (lv_at hl 2 rfl) ?_
                  refine lv_iload hx hb d_Rn_decide_86 (lv_at hl 1 rfl) ?_
                  refine lv_if_eq (tgt := 95) hx hb d_Rn_decide_88 (by decide) (fun c_43 => ?_) (fun c_43 => ?_)
                  · exact absurd c_43 (by decide)
                  · refine lv_iload_n hx hb d_Rn_decide_91 rfl (lv_at hl 5 rfl) ?_
                    refine lv_goto (tgt := 96) hx hb d_Rn_decide_92 (by decide) ?_
                    refine lv_iconst (v := 1) hx hb d_Rn_decide_96 (by decide) ?_
                    refine wx_cv (wS := fun v : TRn => w_R ad ca b v) (ws2 := fun v : TRn => w_R ad ca b v) (va_runV (As := [.int p2, .int 1]) (rest := []) ⟨hx, hb, hml, hown, ht⟩ (c_Rn_skip l dC dI ad ca H.size b (TRn_set_decisions u (upd (TRn_decisions u) p1.toNatClampNeg (p2 + 2))) p2 1 hpre _ rfl) (cwV 2 ht (tb_V q_387 q_389 q_19 q_46 q_390) rfl rfl rfl p_Rn_skip ⟨show 4 + 1 ≤ 5 by omega, show 8 + (8 + 11) + 86 ≤ 113 by omega⟩) (wx_preV (wc := (w_R ad ca b (TRn_set_decisions u (upd (TRn_decisions u) p1.toNatClampNeg (p2 + 2))))) hN hK hP hD [0, 1, 2, 3, 4, 5, 6, 7, 8, 9, 10, 11, 12, 13, 14] [0, 1, 2, 3, 4, 5, 6, 7, 8, 9, 10, 11] rfl (by decide) rfl (ci := 2) (q0 := 0) rfl rfl) rfl rfl hl.1 rfl (lv_room (Nat.le_of_ble_eq_true rfl)) d_Rn_decide_97 ⟨Nat.zero_le _, Nat.zero_le _⟩) hP hD hS hA [0, 1, 2, 3, 4, 5, 6, 7, 8, 9, 10, 11, 12, 13, 14] [] [0, 1, 2, 3, 4, 5, 6, 7, 8, 9, 10, 11, 12, 13, 14] rfl rfl (by decide) (by decide) (by decide) (fun _ => rfl) (fun v_44 H locs hw hP hD hS => ?_)
                    have hP : va_P (dC, dI) vwCl (w_R ad ca b v_44) H := hP
                    have hD : va_D A (w_R ad ca b v_44) := hD
                    rw [← hw] at he
                    try dsimp only at he
                    exact W.vret hx hb hr (fun t ht hW => ⟨⟨v_44, rfl, he.symm, by rw [ht]; exact hP, va_K.moved hW.alike hK, hD⟩, hS.F ht⟩) hS.2.2 d_Rn_decide_100
          · have he := he.trans (if_neg c_38)
            refine lv_iconst (v := (-1)) hx hb d_Rn_decide_44 (by decide) ?_
            refine lv_goto (tgt := 51) hx hb d_Rn_decide_45 (by decide) ?_
            refine va_iast hx hb hK hP hD hS 2 1 rfl rfl (wx_inAU (by decide) c_23 c_30) d_Rn_decide_51 (fun H locs hP hD hS => ?_)
            have hP : va_P (dC, dI) vwCl (w_R ad ca b (TRn_set_decisions u (upd (TRn_decisions u) p1.toNatClampNeg (-1)))) H := hP
            have hD : va_D A (w_R ad ca b (TRn_set_decisions u (upd (TRn_decisions u) p1.toNatClampNeg (-1)))) := hD
            refine lv_iload hx hb d_Rn_decide_52 (lv_at hl 0 rfl) ?_
            refine lv_if_eq (tgt := 69) hx hb d_Rn_decide_54 (by decide) (fun c_45 => ?_) (fun c_45 => ?_)
            · exact absurd c_45 (by decide)
            · refine lv_iload_n hx hb d_Rn_decide_57 rfl (lv_at hl 4 rfl) ?_
              refine lv_if_eq (tgt := 65) hx hb d_Rn_decide_58 (by decide) (fun c_46 => ?_) (fun c_46 => ?_)
              · have he := he.trans (if_pos c_46)
                refine lv_iconst (v := 0) hx hb d_Rn_decide_65 (by decide) ?_
                refine lv_goto (tgt := 78) hx hb d_Rn_decide_66 (by decide) ?_
                refine lv_istore (lv' := [(5, .int 0), (4, .int 1), (0, .ref (ad 0)), (1, .int p0), (2, .int p1), (3, .int p2)]) hx hb d_Rn_decide_78 hl (by decide) rfl (fun ls hl => ?_)
                refine lv_iload hx hb d_Rn_decide_80 (lv_at hl 0 rfl) ?_
                refine lv_if_eq (tgt := 100) hx hb d_Rn_decide_82 (by decide) (fun c_47 => ?_) (fun c_47 => ?_)
                · exact W.vret hx hb hr (fun t ht hW => ⟨⟨(TRn_set_decisions u (upd (TRn_decisions u) p1.toNatClampNeg (-1))), rfl, he.symm, by rw [ht]; exact hP, va_K.moved hW.alike hK, hD⟩, hS.F ht⟩) hS.2.2 d_Rn_decide_100
                · exact absurd c_47 (by decide)
              · have he := he.trans (if_neg c_46)
                refine lv_iconst (v := 1) hx hb d_Rn_decide_61 (by decide) ?_
                refine lv_goto (tgt := 78) hx hb d_Rn_decide_62 (by decide) ?_
                refine lv_istore (lv' := [(5, .int 1), (4, .int 1), (0, .ref (ad 0)), (1, .int p0), (2, .int p1), (3, .int p2)]) hx hb d_Rn_decide_78 hl (by decide) rfl (fun ls hl => ?_)
                refine lv_iload hx hb d_Rn_decide_80 (lv_at hl 0 rfl) ?_
                refine lv_if_eq (tgt := 100) hx hb d_Rn_decide_82 (by decide) (fun c_48 => ?_) (fun c_48 => ?_)
                · exact absurd c_48 (by decide)
                · refine lv_aload_n hx hb d_Rn_decide_85 rfl (lv_at hl 2 rfl) ?_
                  refine lv_iload hx hb d_Rn_decide_86 (lv_at hl 1 rfl) ?_
                  refine lv_if_eq (tgt := 95) hx hb d_Rn_decide_88 (by decide) (fun c_49 => ?_) (fun c_49 => ?_)
                  · exact absurd c_49 (by decide)
                  · refine lv_iload_n hx hb d_Rn_decide_91 rfl (lv_at hl 5 rfl) ?_
                    refine lv_goto (tgt := 96) hx hb d_Rn_decide_92 (by decide) ?_
                    refine lv_iconst (v := 1) hx hb d_Rn_decide_96 (by decide) ?_
                    refine wx_cv (wS := fun v : TRn => w_R ad ca b v) (ws2 := fun v : TRn => w_R ad ca b v) (va_runV (As := [.int p2, .int 1]) (rest := []) ⟨hx, hb, hml, hown, ht⟩ (c_Rn_skip l dC dI ad ca H.size b (TRn_set_decisions u (upd (TRn_decisions u) p1.toNatClampNeg (-1))) p2 1 hpre _ rfl) (cwV 2 ht (tb_V q_387 q_389 q_19 q_46 q_390) rfl rfl rfl p_Rn_skip ⟨show 4 + 1 ≤ 5 by omega, show 8 + (8 + 11) + 86 ≤ 113 by omega⟩) (wx_preV (wc := (w_R ad ca b (TRn_set_decisions u (upd (TRn_decisions u) p1.toNatClampNeg (-1))))) hN hK hP hD [0, 1, 2, 3, 4, 5, 6, 7, 8, 9, 10, 11, 12, 13, 14] [0, 1, 2, 3, 4, 5, 6, 7, 8, 9, 10, 11] rfl (by decide) rfl (ci := 2) (q0 := 0) rfl rfl) rfl rfl hl.1 rfl (lv_room (Nat.le_of_ble_eq_true rfl)) d_Rn_decide_97 ⟨Nat.zero_le _, Nat.zero_le _⟩) hP hD hS hA [0, 1, 2, 3, 4, 5, 6, 7, 8, 9, 10, 11, 12, 13, 14] [] [0, 1, 2, 3, 4, 5, 6, 7, 8, 9, 10, 11, 12, 13, 14] rfl rfl (by decide) (by decide) (by decide) (fun _ => rfl) (fun v_50 H locs hw hP hD hS => ?_)
                    have hP : va_P (dC, dI) vwCl (w_R ad ca b v_50) H := hP
                    have hD : va_D A (w_R ad ca b v_50) := hD
                    rw [← hw] at he
                    try dsimp only at he
                    exact W.vret hx hb hr (fun t ht hW => ⟨⟨v_50, rfl, he.symm, by rw [ht]; exact hP, va_K.moved hW.alike hK, hD⟩, hS.F ht⟩) hS.2.2 d_Rn_decide_100
        · exact absurd c_37 (by decide)
noncomputable def f_Rn_compareMeanings (b : TBk) (u : TRn) : (Int32 × TRn) := (match f_Rn_lookForMore b u with | (r_1, v_1) => (if (TRn_fault v_1) = 0 then (match f_Rn_lookForMore b v_1 with | (r_3, v_3) => (if (TRn_fault v_3) = 0 then (if (f_Bk_meanTheSame b r_1 r_3) = 0 then (0, v_3) else (1, v_3)) else (0, v_3))) else (0, v_1)))
set_option maxHeartbeats 4000000 in
set_option maxRecDepth 100000 in
theorem c_Rn_compareMeanings (l : Launch) (dC : Nat → ClassId) (dI : Nat → Nat → Nat) (ad : Nat → Nat) (ca : Nat → ClassId) (sz : Nat) (b : TBk) (u : TRn) (hpre : BkS b) (F : (Int32 × TRn)) (he : F = f_Rn_compareMeanings b u) : wx_Mi l y_Rn_compareMeanings ws_Rn_compareMeanings ({ frames := 4, cells := 0, slots := 0, locals := 91 } : Room) (dC, dI) vwCl (t_R ca) [.ref (ad 0)] (w_R ad ca b u) sz (fun v : TRn => w_R ad ca b v) (fun (r : Int32) (v : TRn) => (r, v) = F) := by
  refine Met.ofW (cc := b_Rn_compareMeanings) (maxL := 3) (ret := some .int) (by decide) rfl ?_
  intro p e s m args below meth c s₁ B hml hv
  obtain ⟨rfl, hsz, hP, hK, hD0, hN⟩ := hv
  have hx := B.exec
  have hb := B.bytes
  have hr := B.returns
  have hts := atoms_spec (ws := ws_Rn_compareMeanings) B.pre
  have ht : ∀ w ∈ TB, w.before _ s = true := fun w h => hts w (List.mem_cons_of_mem _ h)
  have hown : s.vm.findClass R_Rn = some m.cls := findClass_of_methodNamed B.named
  have hlocks := B.notSynchronized
  subst hsz
  have hD := hD0.self (sz := s.heap.size)
  generalize hAe : va_A (w_R ad ca b u) s.heap.size = A at hD ⊢
  have hA : ∀ q : Nat, s.heap.size ≤ q → A q := fun q h => by rw [← hAe]; exact Or.inr h
  have hS : va_S A s.heap s.heap [] := va_S.rf
  have hl := lv_entry ([.ref (ad 0)]) (n := 3) (Nat.le_of_ble_eq_true rfl)
  rw [lg_entry_eq]
  generalize (lg_sl ([.ref (ad 0)]) ++ List.replicate (3 - (lg_sl ([.ref (ad 0)])).length) Slot.unset).toArray = ls at hl ⊢
  have hl : lv_has ls 3 [(0, .ref (ad 0))] := hl
  unfold f_Rn_compareMeanings at he
  refine lv_aload_n hx hb d_Rn_compareMeanings_0 rfl (lv_at hl 0 rfl) ?_
  refine wx_ci (wS := fun v : TRn => w_R ad ca b v) (ws2 := fun v : TRn => w_R ad ca b v) (va_runV (As := []) (rest := []) ⟨hx, hb, hml, hown, ht⟩ (c_Rn_lookForMore l dC dI ad ca s.heap.size b u hpre _ rfl) (cwV 0 ht (tb_V q_319 q_321 q_10 q_46 q_322) rfl rfl rfl p_Rn_lookForMore ⟨show 3 + 1 ≤ 4 by omega, show 8 + (2 + 11) + 65 ≤ 91 by omega⟩) (wx_preV (wc := (w_R ad ca b u)) hN hK hP hD [0, 1, 2, 3, 4, 5, 6, 7, 8, 9, 10, 11, 12, 13, 14] [0, 1, 2, 3, 4, 5, 6, 7, 8, 9, 10, 11] rfl (by decide) rfl (ci := 2) (q0 := 0) rfl rfl) rfl rfl hl.1 rfl (lv_room (Nat.le_of_ble_eq_true rfl)) d_Rn_compareMeanings_1 ⟨Nat.zero_le _, Nat.zero_le _⟩) hP hD hS hA [0, 1, 2, 3, 4, 5, 6, 7, 8, 9, 10, 11, 12, 13, 14] [] [0, 1, 2, 3, 4, 5, 6, 7, 8, 9, 10, 11, 12, 13, 14] rfl rfl (by decide) (by decide) (by decide) (fun _ => rfl) (fun r_1 v_1 H locs hw hP hD hS => ?_)
  have hP : va_P (dC, dI) vwCl (w_R ad ca b v_1) H := hP
  have hD : va_D A (w_R ad ca b v_1) := hD
  rw [← hw] at he
  try dsimp only at he
  refine lv_istore_n (lv' := [(1, .int r_1), (0, .ref (ad 0))]) hx hb d_Rn_compareMeanings_4 rfl hl (by decide) rfl (fun ls hl => ?_)
  refine lv_aload_n hx hb d_Rn_compareMeanings_5 rfl (lv_at hl 1 rfl) ?_
  refine va_get (D := (dC, dI)) (ci := 2) (v := .int (TRn_fault v_1)) (C := R_Rn) (T := T_Rn) (N := 12) hx hb ht i_Rn hown hK hP 0 rfl rfl 11 (by decide) (ht _ q_143) (fun _ h9 => h9) rfl d_Rn_compareMeanings_6 ?_
  refine lv_if_eq (tgt := 14) hx hb d_Rn_compareMeanings_9 (by decide) (fun c_2 => ?_) (fun c_2 => ?_)
  · have he := he.trans (if_pos c_2)
    refine lv_aload_n hx hb d_Rn_compareMeanings_14 rfl (lv_at hl 1 rfl) ?_
    refine wx_ci (wS := fun v : TRn => w_R ad ca b v) (ws2 := fun v : TRn => w_R ad ca b v) (va_runV (As := []) (rest := []) ⟨hx, hb, hml, hown, ht⟩ (c_Rn_lookForMore l dC dI ad ca H.size b v_1 hpre _ rfl) (cwV 0 ht (tb_V q_319 q_321 q_10 q_46 q_322) rfl rfl rfl p_Rn_lookForMore ⟨show 3 + 1 ≤ 4 by omega, show 8 + (2 + 11) + 65 ≤ 91 by omega⟩) (wx_preV (wc := (w_R ad ca b v_1)) hN hK hP hD [0, 1, 2, 3, 4, 5, 6, 7, 8, 9, 10, 11, 12, 13, 14] [0, 1, 2, 3, 4, 5, 6, 7, 8, 9, 10, 11] rfl (by decide) rfl (ci := 2) (q0 := 0) rfl rfl) rfl rfl hl.1 rfl (lv_room (Nat.le_of_ble_eq_true rfl)) d_Rn_compareMeanings_15 ⟨Nat.zero_le _, Nat.zero_le _⟩) hP hD hS hA [0, 1, 2, 3, 4, 5, 6, 7, 8, 9, 10, 11, 12, 13, 14] [] [0, 1, 2, 3, 4, 5, 6, 7, 8, 9, 10, 11, 12, 13, 14] rfl rfl (by decide) (by decide) (by decide) (fun _ => rfl) (fun r_3 v_3 H locs hw hP hD hS => ?_)
    have hP : va_P (dC, dI) vwCl (w_R ad ca b v_3) H := hP
    have hD : va_D A (w_R ad ca b v_3) := hD
    rw [← hw] at he
    try dsimp only at he
    refine lv_istore_n (lv' := [(2, .int r_3), (1, .int r_1), (0, .ref (ad 0))]) hx hb d_Rn_compareMeanings_18 rfl hl (by decide) rfl (fun ls hl => ?_)
    refine lv_aload_n hx hb d_Rn_compareMeanings_19 rfl (lv_at hl 2 rfl) ?_
    refine va_get (D := (dC, dI)) (ci := 2) (v := .int (TRn_fault v_3)) (C := R_Rn) (T := T_Rn) (N := 12) hx hb ht i_Rn hown hK hP 0 rfl rfl 11 (by decide) (ht _ q_143) (fun _ h9 => h9) rfl d_Rn_compareMeanings_20 ?_
    refine lv_if_eq (tgt := 28) hx hb d_Rn_compareMeanings_23 (by decide) (fun c_4 => ?_) (fun c_4 => ?_)
    · have he := he.trans (if_pos c_4)
      refine lv_aload_n hx hb d_Rn_compareMeanings_28 rfl (lv_at hl 2 rfl) ?_
      refine va_get (D := (dC, dI)) (ci := 2) (v := .ref (ad 8)) (C := R_Rn) (T := T_Rn) (N := 12) hx hb ht i_Rn hown hK hP 0 rfl rfl 0 (by decide) (ht _ q_132) (fun _ h9 => h9) rfl d_Rn_compareMeanings_29 ?_
      refine lv_iload_n hx hb d_Rn_compareMeanings_32 rfl (lv_at hl 1 rfl) ?_
      refine lv_iload_n hx hb d_Rn_compareMeanings_33 rfl (lv_at hl 0 rfl) ?_
      refine wx_ci (wS := fun _ : Unit => w_B ad ca b) (ws2 := fun _ : Unit => w_R ad ca b v_3) (va_runV (As := [.int r_1, .int r_3]) (rest := []) ⟨hx, hb, hml, hown, ht⟩ (c_Bk_meanTheSame l dC dI ad ca H.size b r_1 r_3 hpre _ rfl) (cwV 2 ht (tb_V q_340 q_341 q_342 q_45 q_343) rfl rfl rfl p_Bk_meanTheSame ⟨show 3 + 1 ≤ 4 by omega, show 8 + (4 + 11) + 68 ≤ 91 by omega⟩) (wx_preV (wc := (w_B ad ca b)) hN hK hP hD [8, 9, 10, 11, 12, 13, 14] [6, 7, 8, 9, 10, 11] rfl (by decide) rfl (ci := 0) (q0 := 0) rfl rfl) rfl rfl hl.1 rfl (lv_room (Nat.le_of_ble_eq_true rfl)) d_Rn_compareMeanings_34 ⟨Nat.zero_le _, Nat.zero_le _⟩) hP hD hS hA [8, 9, 10, 11, 12, 13, 14] [0, 1, 2, 3, 4, 5, 6, 7] [0, 1, 2, 3, 4, 5, 6, 7, 8, 9, 10, 11, 12, 13, 14] rfl rfl (by decide) (by decide) (by decide) (fun _ => rfl) (fun r_5 _ H locs hw hP hD hS => ?_)
      subst hw
      have hP : va_P (dC, dI) vwCl (w_R ad ca b v_3) H := hP
      have hD : va_D A (w_R ad ca b v_3) := hD
      refine lv_if_eq (tgt := 44) hx hb d_Rn_compareMeanings_37 (by decide) (fun c_6 => ?_) (fun c_6 => ?_)
      · have he := he.trans (if_pos c_6)
        refine lv_iconst (v := 0) hx hb d_Rn_compareMeanings_44 (by decide) ?_
        exact W.iret hx hb hr (v := 0) (fun t ht hW => ⟨⟨0, v_3, rfl, he.symm, by rw [ht]; exact hP, va_K.moved hW.alike hK, hD⟩, hS.F ht⟩) hS.2.2 d_Rn_compareMeanings_45
      · have he := he.trans (if_neg c_6)
        refine lv_iconst (v := 1) hx hb d_Rn_compareMeanings_40 (by decide) ?_
        refine lv_goto (tgt := 45) hx hb d_Rn_compareMeanings_41 (by decide) ?_
        exact W.iret hx hb hr (v := 1) (fun t ht hW => ⟨⟨1, v_3, rfl, he.symm, by rw [ht]; exact hP, va_K.moved hW.alike hK, hD⟩, hS.F ht⟩) hS.2.2 d_Rn_compareMeanings_45
    · have he := he.trans (if_neg c_4)
      refine lv_iconst (v := 0) hx hb d_Rn_compareMeanings_26 (by decide) ?_
      exact W.iret hx hb hr (v := 0) (fun t ht hW => ⟨⟨0, v_3, rfl, he.symm, by rw [ht]; exact hP, va_K.moved hW.alike hK, hD⟩, hS.F ht⟩) hS.2.2 d_Rn_compareMeanings_27
  · have he := he.trans (if_neg c_2)
    refine lv_iconst (v := 0) hx hb d_Rn_compareMeanings_12 (by decide) ?_
    exact W.iret hx hb hr (v := 0) (fun t ht hW => ⟨⟨0, v_1, rfl, he.symm, by rw [ht]; exact hP, va_K.moved hW.alike hK, hD⟩, hS.F ht⟩) hS.2.2 d_Rn_compareMeanings_13
noncomputable def f_Rn_askWhetherKnown (b : TBk) (u : TRn) : (Int32 × TRn) := (match f_Rn_lookForMore b u with | (r_1, v_1) => (if (TRn_fault v_1) = 0 then (if (f_Bk_kindOf b r_1) = 0 then (0, v_1) else (1, v_1)) else (0, v_1)))
set_option maxHeartbeats 4000000 in
set_option maxRecDepth 100000 in
theorem c_Rn_askWhetherKnown (l : Launch) (dC : Nat → ClassId) (dI : Nat → Nat → Nat) (ad : Nat → Nat) (ca : Nat → ClassId) (sz : Nat) (b : TBk) (u : TRn) (hpre : BkS b) (F : (Int32 × TRn)) (he : F = f_Rn_askWhetherKnown b u) : wx_Mi l y_Rn_askWhetherKnown ws_Rn_askWhetherKnown ({ frames := 4, cells := 0, slots := 0, locals := 86 } : Room) (dC, dI) vwCl (t_R ca) [.ref (ad 0)] (w_R ad ca b u) sz (fun v : TRn => w_R ad ca b v) (fun (r : Int32) (v : TRn) => (r, v) = F) := by
  refine Met.ofW (cc := b_Rn_askWhetherKnown) (maxL := 2) (ret := some .int) (by decide) rfl ?_
  intro p e s m args below meth c s₁ B hml hv
  obtain ⟨rfl, hsz, hP, hK, hD0, hN⟩ := hv
  have hx := B.exec
  have hb := B.bytes
  have hr := B.returns
  have hts := atoms_spec (ws := ws_Rn_askWhetherKnown) B.pre
  have ht : ∀ w ∈ TB, w.before _ s = true := fun w h => hts w (List.mem_cons_of_mem _ h)
  have hown : s.vm.findClass R_Rn = some m.cls := findClass_of_methodNamed B.named
  have hlocks := B.notSynchronized
  subst hsz
  have hD := hD0.self (sz := s.heap.size)
  generalize hAe : va_A (w_R ad ca b u) s.heap.size = A at hD ⊢
  have hA : ∀ q : Nat, s.heap.size ≤ q → A q := fun q h => by rw [← hAe]; exact Or.inr h
  have hS : va_S A s.heap s.heap [] := va_S.rf
  have hl := lv_entry ([.ref (ad 0)]) (n := 2) (Nat.le_of_ble_eq_true rfl)
  rw [lg_entry_eq]
  generalize (lg_sl ([.ref (ad 0)]) ++ List.replicate (2 - (lg_sl ([.ref (ad 0)])).length) Slot.unset).toArray = ls at hl ⊢
  have hl : lv_has ls 2 [(0, .ref (ad 0))] := hl
  unfold f_Rn_askWhetherKnown at he
  refine lv_aload_n hx hb d_Rn_askWhetherKnown_0 rfl (lv_at hl 0 rfl) ?_
  refine wx_ci (wS := fun v : TRn => w_R ad ca b v) (ws2 := fun v : TRn => w_R ad ca b v) (va_runV (As := []) (rest := []) ⟨hx, hb, hml, hown, ht⟩ (c_Rn_lookForMore l dC dI ad ca s.heap.size b u hpre _ rfl) (cwV 0 ht (tb_V q_319 q_321 q_10 q_46 q_322) rfl rfl rfl p_Rn_lookForMore ⟨show 3 + 1 ≤ 4 by omega, show 8 + (2 + 11) + 65 ≤ 86 by omega⟩) (wx_preV (wc := (w_R ad ca b u)) hN hK hP hD [0, 1, 2, 3, 4, 5, 6, 7, 8, 9, 10, 11, 12, 13, 14] [0, 1, 2, 3, 4, 5, 6, 7, 8, 9, 10, 11] rfl (by decide) rfl (ci := 2) (q0 := 0) rfl rfl) rfl rfl hl.1 rfl (lv_room (Nat.le_of_ble_eq_true rfl)) d_Rn_askWhetherKnown_1 ⟨Nat.zero_le _, Nat.zero_le _⟩) hP hD hS hA [0, 1, 2, 3, 4, 5, 6, 7, 8, 9, 10, 11, 12, 13, 14] [] [0, 1, 2, 3, 4, 5, 6, 7, 8, 9, 10, 11, 12, 13, 14] rfl rfl (by decide) (by decide) (by decide) (fun _ => rfl) (fun r_1 v_1 H locs hw hP hD hS => ?_)
  have hP : va_P (dC, dI) vwCl (w_R ad ca b v_1) H := hP
  have hD : va_D A (w_R ad ca b v_1) := hD
  rw [← hw] at he
  try dsimp only at he
  refine lv_istore_n (lv' := [(1, .int r_1), (0, .ref (ad 0))]) hx hb d_Rn_askWhetherKnown_4 rfl hl (by decide) rfl (fun ls hl => ?_)
  refine lv_aload_n hx hb d_Rn_askWhetherKnown_5 rfl (lv_at hl 1 rfl) ?_
  refine va_get (D := (dC, dI)) (ci := 2) (v := .int (TRn_fault v_1)) (C := R_Rn) (T := T_Rn) (N := 12) hx hb ht i_Rn hown hK hP 0 rfl rfl 11 (by decide) (ht _ q_143) (fun _ h9 => h9) rfl d_Rn_askWhetherKnown_6 ?_
  refine lv_if_ne (tgt := 27) hx hb d_Rn_askWhetherKnown_9 (by decide) (fun c_2 => ?_) (fun c_2 => ?_)
  · have he := he.trans (if_neg c_2)
    refine lv_iconst (v := 0) hx hb d_Rn_askWhetherKnown_27 (by decide) ?_
    exact W.iret hx hb hr (v := 0) (fun t ht hW => ⟨⟨0, v_1, rfl, he.symm, by rw [ht]; exact hP, va_K.moved hW.alike hK, hD⟩, hS.F ht⟩) hS.2.2 d_Rn_askWhetherKnown_28
  · have he := he.trans (if_pos c_2)
    refine lv_aload_n hx hb d_Rn_askWhetherKnown_12 rfl (lv_at hl 1 rfl) ?_
    refine va_get (D := (dC, dI)) (ci := 2) (v := .ref (ad 8)) (C := R_Rn) (T := T_Rn) (N := 12) hx hb ht i_Rn hown hK hP 0 rfl rfl 0 (by decide) (ht _ q_132) (fun _ h9 => h9) rfl d_Rn_askWhetherKnown_13 ?_
    refine lv_iload_n hx hb d_Rn_askWhetherKnown_16 rfl (lv_at hl 0 rfl) ?_
    refine wx_ci (wS := fun _ : Unit => w_B ad ca b) (ws2 := fun _ : Unit => w_R ad ca b v_1) (va_runV (As := [.int r_1]) (rest := []) ⟨hx, hb, hml, hown, ht⟩ (c_Bk_kindOf l dC dI ad ca H.size b r_1 _ rfl) (cwV 1 ht (tb_V q_283 q_284 q_285 q_45 q_286) rfl rfl rfl p_Bk_kindOf ⟨show 1 + 1 ≤ 4 by omega, show 8 + (2 + 11) + 20 ≤ 86 by omega⟩) (wx_preV (wc := (w_B ad ca b)) hN hK hP hD [8, 9, 10, 11, 12, 13, 14] [6, 7, 8, 9, 10, 11] rfl (by decide) rfl (ci := 0) (q0 := 0) rfl rfl) rfl rfl hl.1 rfl (lv_room (Nat.le_of_ble_eq_true rfl)) d_Rn_askWhetherKnown_17 ⟨Nat.zero_le _, Nat.zero_le _⟩) hP hD hS hA [8, 9, 10, 11, 12, 13, 14] [0, 1, 2, 3, 4, 5, 6, 7] [0, 1, 2, 3, 4, 5, 6, 7, 8, 9, 10, 11, 12, 13, 14] rfl rfl (by decide) (by decide) (by decide) (fun _ => rfl) (fun r_3 _ H locs hw hP hD hS => ?_)
    subst hw
    have hP : va_P (dC, dI) vwCl (w_R ad ca b v_1) H := hP
    have hD : va_D A (w_R ad ca b v_1) := hD
    refine lv_if_eq (tgt := 27) hx hb d_Rn_askWhetherKnown_20 (by decide) (fun c_4 => ?_) (fun c_4 => ?_)
    · have he := he.trans (if_pos c_4)
      refine lv_iconst (v := 0) hx hb d_Rn_askWhetherKnown_27 (by decide) ?_
      exact W.iret hx hb hr (v := 0) (fun t ht hW => ⟨⟨0, v_1, rfl, he.symm, by rw [ht]; exact hP, va_K.moved hW.alike hK, hD⟩, hS.F ht⟩) hS.2.2 d_Rn_askWhetherKnown_28
    · have he := he.trans (if_neg c_4)
      refine lv_iconst (v := 1) hx hb d_Rn_askWhetherKnown_23 (by decide) ?_
      refine lv_goto (tgt := 28) hx hb d_Rn_askWhetherKnown_24 (by decide) ?_
      exact W.iret hx hb hr (v := 1) (fun t ht hW => ⟨⟨1, v_1, rfl, he.symm, by rw [ht]; exact hP, va_K.moved hW.alike hK, hD⟩, hS.F ht⟩) hS.2.2 d_Rn_askWhetherKnown_28
noncomputable def f_Rn_putOutAt (b : TBk) (u : TRn) (p0 : Int32) : Int32 := (if p0 < 0 then (-1) else (if (TRn_outSize u) ≤ p0 then (-1) else (if 300 ≤ p0 then (-1) else ((TRn_out u) p0.toNatClampNeg))))
set_option maxHeartbeats 4000000 in
set_option maxRecDepth 100000 in
theorem c_Rn_putOutAt (l : Launch) (dC : Nat → ClassId) (dI : Nat → Nat → Nat) (ad : Nat → Nat) (ca : Nat → ClassId) (sz : Nat) (b : TBk) (u : TRn) (p0 : Int32) (F : Int32) (he : F = f_Rn_putOutAt b u p0) : wx_Mi l y_Rn_putOutAt ws_Rn_putOutAt ({ frames := 0, cells := 0, slots := 0, locals := 0 } : Room) (dC, dI) vwCl (t_R ca) [.ref (ad 0), .int p0] (w_R ad ca b u) sz (fun _ : Unit => w_R ad ca b u) (fun (r : Int32) (_ : Unit) => r = F) := by
  refine Met.ofW (cc := b_Rn_putOutAt) (maxL := 2) (ret := some .int) (by decide) rfl ?_
  intro p e s m args below meth c s₁ B hml hv
  obtain ⟨rfl, hsz, hP, hK, hD0, hN⟩ := hv
  have hx := B.exec
  have hb := B.bytes
  have hr := B.returns
  have hts := atoms_spec (ws := ws_Rn_putOutAt) B.pre
  have ht : ∀ w ∈ TB, w.before _ s = true := fun w h => hts w (List.mem_cons_of_mem _ h)
  have hown : s.vm.findClass R_Rn = some m.cls := findClass_of_methodNamed B.named
  have hlocks := B.notSynchronized
  subst hsz
  have hD := hD0.self (sz := s.heap.size)
  generalize hAe : va_A (w_R ad ca b u) s.heap.size = A at hD ⊢
  have hA : ∀ q : Nat, s.heap.size ≤ q → A q := fun q h => by rw [← hAe]; exact Or.inr h
  have hS : va_S A s.heap s.heap [] := va_S.rf
  have hl := lv_entry ([.ref (ad 0), .int p0]) (n := 2) (Nat.le_of_ble_eq_true rfl)
  rw [lg_entry_eq]
  generalize (lg_sl ([.ref (ad 0), .int p0]) ++ List.replicate (2 - (lg_sl ([.ref (ad 0), .int p0])).length) Slot.unset).toArray = ls at hl ⊢
  have hl : lv_has ls 2 [(0, .ref (ad 0)), (1, .int p0)] := hl
  unfold f_Rn_putOutAt at he
  refine lv_iload_n hx hb d_Rn_putOutAt_0 rfl (lv_at hl 1 rfl) ?_
  refine lv_if_lt (tgt := 30) hx hb d_Rn_putOutAt_1 (by decide) (fun c_1 => ?_) (fun c_1 => ?_)
  · have he := he.trans (if_pos c_1)
    refine lv_iconst (v := (-1)) hx hb d_Rn_putOutAt_30 (by decide) ?_
    exact W.iret hx hb hr (v := (-1)) (fun t ht hW => ⟨⟨(-1), (), rfl, he.symm, by rw [ht]; exact hP, va_K.moved hW.alike hK, hD⟩, hS.F ht⟩) hS.2.2 d_Rn_putOutAt_31
  · have he := he.trans (if_neg c_1)
    refine lv_iload_n hx hb d_Rn_putOutAt_4 rfl (lv_at hl 1 rfl) ?_
    refine lv_aload_n hx hb d_Rn_putOutAt_5 rfl (lv_at hl 0 rfl) ?_
    refine va_get (D := (dC, dI)) (ci := 2) (v := .int (TRn_outSize u)) (C := R_Rn) (T := T_Rn) (N := 12) hx hb ht i_Rn hown hK hP 0 rfl rfl 6 (by decide) (ht _ q_138) (fun _ h9 => h9) rfl d_Rn_putOutAt_6 ?_
    refine lv_icmp_ge (tgt := 30) hx hb d_Rn_putOutAt_9 (by decide) (fun c_2 => ?_) (fun c_2 => ?_)
    · have he := he.trans (if_pos c_2)
      refine lv_iconst (v := (-1)) hx hb d_Rn_putOutAt_30 (by decide) ?_
      exact W.iret hx hb hr (v := (-1)) (fun t ht hW => ⟨⟨(-1), (), rfl, he.symm, by rw [ht]; exact hP, va_K.moved hW.alike hK, hD⟩, hS.F ht⟩) hS.2.2 d_Rn_putOutAt_31
    · have he := he.trans (if_neg c_2)
      refine lv_iload_n hx hb d_Rn_putOutAt_12 rfl (lv_at hl 1 rfl) ?_
      refine lv_aload_n hx hb d_Rn_putOutAt_13 rfl (lv_at hl 0 rfl) ?_
      refine va_get (D := (dC, dI)) (ci := 2) (v := .ref (ad 1)) (C := R_Rn) (T := T_Rn) (N := 12) hx hb ht i_Rn hown hK hP 0 rfl rfl 2 (by decide) (ht _ q_134) (fun _ h9 => h9) rfl d_Rn_putOutAt_14 ?_
      refine va_alen hx hb hK hP 1 0 rfl rfl (v := 300) rfl d_Rn_putOutAt_17 ?_
      refine lv_icmp_ge (tgt := 30) hx hb d_Rn_putOutAt_18 (by decide) (fun c_3 => ?_) (fun c_3 => ?_)
      · have he := he.trans (if_pos c_3)
        refine lv_iconst (v := (-1)) hx hb d_Rn_putOutAt_30 (by decide) ?_
        exact W.iret hx hb hr (v := (-1)) (fun t ht hW => ⟨⟨(-1), (), rfl, he.symm, by rw [ht]; exact hP, va_K.moved hW.alike hK, hD⟩, hS.F ht⟩) hS.2.2 d_Rn_putOutAt_31
      · have he := he.trans (if_neg c_3)
        refine lv_aload_n hx hb d_Rn_putOutAt_21 rfl (lv_at hl 0 rfl) ?_
        refine va_get (D := (dC, dI)) (ci := 2) (v := .ref (ad 1)) (C := R_Rn) (T := T_Rn) (N := 12) hx hb ht i_Rn hown hK hP 0 rfl rfl 2 (by decide) (ht _ q_134) (fun _ h9 => h9) rfl d_Rn_putOutAt_22 ?_
        refine lv_iload_n hx hb d_Rn_putOutAt_25 rfl (lv_at hl 1 rfl) ?_
        refine va_iald hx hb hK hP 1 0 rfl rfl (wx_inAU (by decide) c_1 c_3) d_Rn_putOutAt_26 ?_
        refine lv_goto (tgt := 31) hx hb d_Rn_putOutAt_27 (by decide) ?_
        exact W.iret hx hb hr (v := ((TRn_out u) p0.toNatClampNeg)) (fun t ht hW => ⟨⟨((TRn_out u) p0.toNatClampNeg), (), rfl, he.symm, by rw [ht]; exact hP, va_K.moved hW.alike hK, hD⟩, hS.F ht⟩) hS.2.2 d_Rn_putOutAt_31
noncomputable def f_Rn_decisionOf (b : TBk) (u : TRn) (p0 : Int32) : Int32 := (if p0 < 0 then (-5) else (if 100 ≤ p0 then (-5) else ((TRn_decisions u) p0.toNatClampNeg)))
set_option maxHeartbeats 4000000 in
set_option maxRecDepth 100000 in
theorem c_Rn_decisionOf (l : Launch) (dC : Nat → ClassId) (dI : Nat → Nat → Nat) (ad : Nat → Nat) (ca : Nat → ClassId) (sz : Nat) (b : TBk) (u : TRn) (p0 : Int32) (F : Int32) (he : F = f_Rn_decisionOf b u p0) : wx_Mi l y_Rn_decisionOf ws_Rn_decisionOf ({ frames := 0, cells := 0, slots := 0, locals := 0 } : Room) (dC, dI) vwCl (t_R ca) [.ref (ad 0), .int p0] (w_R ad ca b u) sz (fun _ : Unit => w_R ad ca b u) (fun (r : Int32) (_ : Unit) => r = F) := by
  refine Met.ofW (cc := b_Rn_decisionOf) (maxL := 2) (ret := some .int) (by decide) rfl ?_
  intro p e s m args below meth c s₁ B hml hv
  obtain ⟨rfl, hsz, hP, hK, hD0, hN⟩ := hv
  have hx := B.exec
  have hb := B.bytes
  have hr := B.returns
  have hts := atoms_spec (ws := ws_Rn_decisionOf) B.pre
  have ht : ∀ w ∈ TB, w.before _ s = true := fun w h => hts w (List.mem_cons_of_mem _ h)
  have hown : s.vm.findClass R_Rn = some m.cls := findClass_of_methodNamed B.named
  have hlocks := B.notSynchronized
  subst hsz
  have hD := hD0.self (sz := s.heap.size)
  generalize hAe : va_A (w_R ad ca b u) s.heap.size = A at hD ⊢
  have hA : ∀ q : Nat, s.heap.size ≤ q → A q := fun q h => by rw [← hAe]; exact Or.inr h
  have hS : va_S A s.heap s.heap [] := va_S.rf
  have hl := lv_entry ([.ref (ad 0), .int p0]) (n := 2) (Nat.le_of_ble_eq_true rfl)
  rw [lg_entry_eq]
  generalize (lg_sl ([.ref (ad 0), .int p0]) ++ List.replicate (2 - (lg_sl ([.ref (ad 0), .int p0])).length) Slot.unset).toArray = ls at hl ⊢
  have hl : lv_has ls 2 [(0, .ref (ad 0)), (1, .int p0)] := hl
  unfold f_Rn_decisionOf at he
  refine lv_iload_n hx hb d_Rn_decisionOf_0 rfl (lv_at hl 1 rfl) ?_
  refine lv_if_lt (tgt := 22) hx hb d_Rn_decisionOf_1 (by decide) (fun c_1 => ?_) (fun c_1 => ?_)
  · have he := he.trans (if_pos c_1)
    refine lv_bipush (v := (-5)) hx hb d_Rn_decisionOf_22 (by decide) ?_
    exact W.iret hx hb hr (v := (-5)) (fun t ht hW => ⟨⟨(-5), (), rfl, he.symm, by rw [ht]; exact hP, va_K.moved hW.alike hK, hD⟩, hS.F ht⟩) hS.2.2 d_Rn_decisionOf_24
  · have he := he.trans (if_neg c_1)
    refine lv_iload_n hx hb d_Rn_decisionOf_4 rfl (lv_at hl 1 rfl) ?_
    refine lv_aload_n hx hb d_Rn_decisionOf_5 rfl (lv_at hl 0 rfl) ?_
    refine va_get (D := (dC, dI)) (ci := 2) (v := .ref (ad 2)) (C := R_Rn) (T := T_Rn) (N := 12) hx hb ht i_Rn hown hK hP 0 rfl rfl 3 (by decide) (ht _ q_135) (fun _ h9 => h9) rfl d_Rn_decisionOf_6 ?_
    refine va_alen hx hb hK hP 2 1 rfl rfl (v := 100) rfl d_Rn_decisionOf_9 ?_
    refine lv_icmp_ge (tgt := 22) hx hb d_Rn_decisionOf_10 (by decide) (fun c_2 => ?_) (fun c_2 => ?_)
    · have he := he.trans (if_pos c_2)
      refine lv_bipush (v := (-5)) hx hb d_Rn_decisionOf_22 (by decide) ?_
      exact W.iret hx hb hr (v := (-5)) (fun t ht hW => ⟨⟨(-5), (), rfl, he.symm, by rw [ht]; exact hP, va_K.moved hW.alike hK, hD⟩, hS.F ht⟩) hS.2.2 d_Rn_decisionOf_24
    · have he := he.trans (if_neg c_2)
      refine lv_aload_n hx hb d_Rn_decisionOf_13 rfl (lv_at hl 0 rfl) ?_
      refine va_get (D := (dC, dI)) (ci := 2) (v := .ref (ad 2)) (C := R_Rn) (T := T_Rn) (N := 12) hx hb ht i_Rn hown hK hP 0 rfl rfl 3 (by decide) (ht _ q_135) (fun _ h9 => h9) rfl d_Rn_decisionOf_14 ?_
      refine lv_iload_n hx hb d_Rn_decisionOf_17 rfl (lv_at hl 1 rfl) ?_
      refine va_iald hx hb hK hP 2 1 rfl rfl (wx_inAU (by decide) c_1 c_2) d_Rn_decisionOf_18 ?_
      refine lv_goto (tgt := 24) hx hb d_Rn_decisionOf_19 (by decide) ?_
      exact W.iret hx hb hr (v := ((TRn_decisions u) p0.toNatClampNeg)) (fun t ht hW => ⟨⟨((TRn_decisions u) p0.toNatClampNeg), (), rfl, he.symm, by rw [ht]; exact hP, va_K.moved hW.alike hK, hD⟩, hS.F ht⟩) hS.2.2 d_Rn_decisionOf_24
noncomputable def f_Rn_tell (b : TBk) (u : TRn) (p0 : Int32) : Int32 := (if p0 = 0 then (f_Rd_stepsMade b (TRn_rd u)) else (if p0 = 1 then (TRn_outSize u) else (if p0 = 2 then (TRn_opened u) else (if p0 = 3 then (TRn_mostOpen u) else (if p0 = 4 then (TRn_skipped u) else (if p0 = 5 then (TRn_openCount u) else (if p0 = 6 then (TRn_fault u) else (-2))))))))
set_option maxHeartbeats 4000000 in
set_option maxRecDepth 100000 in
theorem c_Rn_tell (l : Launch) (dC : Nat → ClassId) (dI : Nat → Nat → Nat) (ad : Nat → Nat) (ca : Nat → ClassId) (sz : Nat) (b : TBk) (u : TRn) (p0 : Int32) (F : Int32) (he : F = f_Rn_tell b u p0) : wx_Mi l y_Rn_tell ws_Rn_tell ({ frames := 1, cells := 0, slots := 0, locals := 20 } : Room) (dC, dI) vwCl (t_R ca) [.ref (ad 0), .int p0] (w_R ad ca b u) sz (fun _ : Unit => w_R ad ca b u) (fun (r : Int32) (_ : Unit) => r = F) := by
  refine Met.ofW (cc := b_Rn_tell) (maxL := 2) (ret := some .int) (by decide) rfl ?_
  intro p e s m args below meth c s₁ B hml hv
  obtain ⟨rfl, hsz, hP, hK, hD0, hN⟩ := hv
  have hx := B.exec
  have hb := B.bytes
  have hr := B.returns
  have hts := atoms_spec (ws := ws_Rn_tell) B.pre
  have ht : ∀ w ∈ TB, w.before _ s = true := fun w h => hts w (List.mem_cons_of_mem _ h)
  have hown : s.vm.findClass R_Rn = some m.cls := findClass_of_methodNamed B.named
  have hlocks := B.notSynchronized
  subst hsz
  have hD := hD0.self (sz := s.heap.size)
  generalize hAe : va_A (w_R ad ca b u) s.heap.size = A at hD ⊢
  have hA : ∀ q : Nat, s.heap.size ≤ q → A q := fun q h => by rw [← hAe]; exact Or.inr h
  have hS : va_S A s.heap s.heap [] := va_S.rf
  have hl := lv_entry ([.ref (ad 0), .int p0]) (n := 2) (Nat.le_of_ble_eq_true rfl)
  rw [lg_entry_eq]
  generalize (lg_sl ([.ref (ad 0), .int p0]) ++ List.replicate (2 - (lg_sl ([.ref (ad 0), .int p0])).length) Slot.unset).toArray = ls at hl ⊢
  have hl : lv_has ls 2 [(0, .ref (ad 0)), (1, .int p0)] := hl
  unfold f_Rn_tell at he
  refine lv_iload_n hx hb d_Rn_tell_0 rfl (lv_at hl 1 rfl) ?_
  rcases Decidable.em (p0 = 0) with c_1 | c_1
  · have he := he.trans (if_pos c_1)
    refine lv_tableIn (off := 43) (tgt := 44) hx hb d_Rn_tell_1 (by rw [c_1]; decide) (by rw [c_1]; decide) (by rw [c_1]; rfl) (by decide) ?_
    refine lv_aload_n hx hb d_Rn_tell_44 rfl (lv_at hl 0 rfl) ?_
    refine va_get (D := (dC, dI)) (ci := 2) (v := .ref (ad 5)) (C := R_Rn) (T := T_Rn) (N := 12) hx hb ht i_Rn hown hK hP 0 rfl rfl 1 (by decide) (ht _ q_133) (fun _ h9 => h9) rfl d_Rn_tell_45 ?_
    refine wx_ci (wS := fun _ : Unit => w_D ad ca b (TRn_rd u)) (ws2 := fun _ : Unit => w_R ad ca b u) (va_runV (As := []) (rest := []) ⟨hx, hb, hml, hown, ht⟩ (c_Rd_stepsMade l dC dI ad ca s.heap.size b (TRn_rd u) _ rfl) (cwV 0 ht (tb_V q_423 q_424 q_425 q_47 q_426) rfl rfl rfl p_Rd_stepsMade ⟨show 0 + 1 ≤ 1 by omega, show 8 + (1 + 11) + 0 ≤ 20 by omega⟩) (wx_preV (wc := (w_D ad ca b (TRn_rd u))) hN hK hP hD [5, 6, 7, 8, 9, 10, 11, 12, 13, 14] [4, 5, 6, 7, 8, 9, 10, 11] rfl (by decide) rfl (ci := 1) (q0 := 0) rfl rfl) rfl rfl hl.1 rfl (lv_room (Nat.le_of_ble_eq_true rfl)) d_Rn_tell_48 ⟨Nat.zero_le _, Nat.zero_le _⟩) hP hD hS hA [5, 6, 7, 8, 9, 10, 11, 12, 13, 14] [0, 1, 2, 3, 4] [0, 1, 2, 3, 4, 5, 6, 7, 8, 9, 10, 11, 12, 13, 14] rfl rfl (by decide) (by decide) (by decide) (fun _ => rfl) (fun r_2 _ H locs hw hP hD hS => ?_)
    subst hw
    have hP : va_P (dC, dI) vwCl (w_R ad ca b u) H := hP
    have hD : va_D A (w_R ad ca b u) := hD
    exact W.iret hx hb hr (v := (f_Rd_stepsMade b (TRn_rd u))) (fun t ht hW => ⟨⟨(f_Rd_stepsMade b (TRn_rd u)), (), rfl, he.symm, by rw [ht]; exact hP, va_K.moved hW.alike hK, hD⟩, hS.F ht⟩) hS.2.2 d_Rn_tell_51
  · have he := he.trans (if_neg c_1)
    rcases Decidable.em (p0 = 1) with c_3 | c_3
    · have he := he.trans (if_pos c_3)
      refine lv_tableIn (off := 51) (tgt := 52) hx hb d_Rn_tell_1 (by rw [c_3]; decide) (by rw [c_3]; decide) (by rw [c_3]; rfl) (by decide) ?_
      refine lv_aload_n hx hb d_Rn_tell_52 rfl (lv_at hl 0 rfl) ?_
      refine va_get (D := (dC, dI)) (ci := 2) (v := .int (TRn_outSize u)) (C := R_Rn) (T := T_Rn) (N := 12) hx hb ht i_Rn hown hK hP 0 rfl rfl 6 (by decide) (ht _ q_138) (fun _ h9 => h9) rfl d_Rn_tell_53 ?_
      exact W.iret hx hb hr (v := (TRn_outSize u)) (fun t ht hW => ⟨⟨(TRn_outSize u), (), rfl, he.symm, by rw [ht]; exact hP, va_K.moved hW.alike hK, hD⟩, hS.F ht⟩) hS.2.2 d_Rn_tell_56
    · have he := he.trans (if_neg c_3)
      rcases Decidable.em (p0 = 2) with c_4 | c_4
      · have he := he.trans (if_pos c_4)
        refine lv_tableIn (off := 56) (tgt := 57) hx hb d_Rn_tell_1 (by rw [c_4]; decide) (by rw [c_4]; decide) (by rw [c_4]; rfl) (by decide) ?_
        refine lv_aload_n hx hb d_Rn_tell_57 rfl (lv_at hl 0 rfl) ?_
        refine va_get (D := (dC, dI)) (ci := 2) (v := .int (TRn_opened u)) (C := R_Rn) (T := T_Rn) (N := 12) hx hb ht i_Rn hown hK hP 0 rfl rfl 8 (by decide) (ht _ q_140) (fun _ h9 => h9) rfl d_Rn_tell_58 ?_
        exact W.iret hx hb hr (v := (TRn_opened u)) (fun t ht hW => ⟨⟨(TRn_opened u), (), rfl, he.symm, by rw [ht]; exact hP, va_K.moved hW.alike hK, hD⟩, hS.F ht⟩) hS.2.2 d_Rn_tell_61
      · have he := he.trans (if_neg c_4)
        rcases Decidable.em (p0 = 3) with c_5 | c_5
        · have he := he.trans (if_pos c_5)
          refine lv_tableIn (off := 61) (tgt := 62) hx hb d_Rn_tell_1 (by rw [c_5]; decide) (by rw [c_5]; decide) (by rw [c_5]; rfl) (by decide) ?_
          refine lv_aload_n hx hb d_Rn_tell_62 rfl (lv_at hl 0 rfl) ?_
          refine va_get (D := (dC, dI)) (ci := 2) (v := .int (TRn_mostOpen u)) (C := R_Rn) (T := T_Rn) (N := 12) hx hb ht i_Rn hown hK hP 0 rfl rfl 9 (by decide) (ht _ q_141) (fun _ h9 => h9) rfl d_Rn_tell_63 ?_
          exact W.iret hx hb hr (v := (TRn_mostOpen u)) (fun t ht hW => ⟨⟨(TRn_mostOpen u), (), rfl, he.symm, by rw [ht]; exact hP, va_K.moved hW.alike hK, hD⟩, hS.F ht⟩) hS.2.2 d_Rn_tell_66
        · have he := he.trans (if_neg c_5)
          rcases Decidable.em (p0 = 4) with c_6 | c_6
          · have he := he.trans (if_pos c_6)
            refine lv_tableIn (off := 66) (tgt := 67) hx hb d_Rn_tell_1 (by rw [c_6]; decide) (by rw [c_6]; decide) (by rw [c_6]; rfl) (by decide) ?_
            refine lv_aload_n hx hb d_Rn_tell_67 rfl (lv_at hl 0 rfl) ?_
            refine va_get (D := (dC, dI)) (ci := 2) (v := .int (TRn_skipped u)) (C := R_Rn) (T := T_Rn) (N := 12) hx hb ht i_Rn hown hK hP 0 rfl rfl 10 (by decide) (ht _ q_142) (fun _ h9 => h9) rfl d_Rn_tell_68 ?_
            exact W.iret hx hb hr (v := (TRn_skipped u)) (fun t ht hW => ⟨⟨(TRn_skipped u), (), rfl, he.symm, by rw [ht]; exact hP, va_K.moved hW.alike hK, hD⟩, hS.F ht⟩) hS.2.2 d_Rn_tell_71
          · have he := he.trans (if_neg c_6)
            rcases Decidable.em (p0 = 5) with c_7 | c_7
            · have he := he.trans (if_pos c_7)
              refine lv_tableIn (off := 71) (tgt := 72) hx hb d_Rn_tell_1 (by rw [c_7]; decide) (by rw [c_7]; decide) (by rw [c_7]; rfl) (by decide) ?_
              refine lv_aload_n hx hb d_Rn_tell_72 rfl (lv_at hl 0 rfl) ?_
              refine va_get (D := (dC, dI)) (ci := 2) (v := .int (TRn_openCount u)) (C := R_Rn) (T := T_Rn) (N := 12) hx hb ht i_Rn hown hK hP 0 rfl rfl 7 (by decide) (ht _ q_139) (fun _ h9 => h9) rfl d_Rn_tell_73 ?_
              exact W.iret hx hb hr (v := (TRn_openCount u)) (fun t ht hW => ⟨⟨(TRn_openCount u), (), rfl, he.symm, by rw [ht]; exact hP, va_K.moved hW.alike hK, hD⟩, hS.F ht⟩) hS.2.2 d_Rn_tell_76
            · have he := he.trans (if_neg c_7)
              rcases Decidable.em (p0 = 6) with c_8 | c_8
              · have he := he.trans (if_pos c_8)
                refine lv_tableIn (off := 76) (tgt := 77) hx hb d_Rn_tell_1 (by rw [c_8]; decide) (by rw [c_8]; decide) (by rw [c_8]; rfl) (by decide) ?_
                refine lv_aload_n hx hb d_Rn_tell_77 rfl (lv_at hl 0 rfl) ?_
                refine va_get (D := (dC, dI)) (ci := 2) (v := .int (TRn_fault u)) (C := R_Rn) (T := T_Rn) (N := 12) hx hb ht i_Rn hown hK hP 0 rfl rfl 11 (by decide) (ht _ q_143) (fun _ h9 => h9) rfl d_Rn_tell_78 ?_
                exact W.iret hx hb hr (v := (TRn_fault u)) (fun t ht hW => ⟨⟨(TRn_fault u), (), rfl, he.symm, by rw [ht]; exact hP, va_K.moved hW.alike hK, hD⟩, hS.F ht⟩) hS.2.2 d_Rn_tell_81
              · have he := he.trans (if_neg c_8)
                have ec_1 := lv_neT (a := 0) c_1 (by decide)
                have ec_3 := lv_neT (a := 1) c_3 (by decide)
                have ec_4 := lv_neT (a := 2) c_4 (by decide)
                have ec_5 := lv_neT (a := 3) c_5 (by decide)
                have ec_6 := lv_neT (a := 4) c_6 (by decide)
                have ec_7 := lv_neT (a := 5) c_7 (by decide)
                have ec_8 := lv_neT (a := 6) c_8 (by decide)
                refine lv_tableOut (tgt := 82) hx hb d_Rn_tell_1 (by omega) (by decide) ?_
                refine lv_bipush (v := (-2)) hx hb d_Rn_tell_82 (by decide) ?_
                exact W.iret hx hb hr (v := (-2)) (fun t ht hW => ⟨⟨(-2), (), rfl, he.symm, by rw [ht]; exact hP, va_K.moved hW.alike hK, hD⟩, hS.F ht⟩) hS.2.2 d_Rn_tell_84
end
section
/-! how many conditions are open: what the methods leave of it -/
def oc (u : TRn) : Int := (TRn_openCount u).toInt
theorem oc_fail (b : TBk) (u : TRn) (k : Int32) : oc (f_Rn_fail b u k) = oc u := by
  unfold f_Rn_fail
  split <;> rfl
theorem oc_look (b : TBk) (u : TRn) : oc (f_Rn_lookForMore b u).2 = oc u := by
  unfold f_Rn_lookForMore
  rcases f_Rd_look b (TRn_rd u) with ⟨r, v⟩
  dsimp only
  split
  · exact oc_fail b _ _
  · split
    · exact oc_fail b _ _
    · rfl
theorem oc_lk {b : TBk} {u v : TRn} {r : Int32} (h : (r, v) = f_Rn_lookForMore b u) : oc v = oc u := by
  have h1 := oc_look b u
  rw [← h] at h1
  exact h1
theorem oc_pass1 (b : TBk) (u : TRn) (k : Int32) : oc u - 1 ≤ oc (f_Rn_passMark b u k) := by
  unfold f_Rn_passMark
  split
  · omega
  · rename_i h1
    split
    · split
      · rw [i32_lt, Int32.toInt_zero] at h1
        have e3 : (1 : Int32).toInt = 1 := by decide
        have h2 := i32_lo (TRn_openCount u)
        have h3 := i32_hi (TRn_openCount u)
        show oc u - 1 ≤ ((TRn_openCount u) - 1).toInt
        by_cases h4 : -2147483648 ≤ (TRn_openCount u).toInt - 1
        · rw [i32_sub (by rw [e3]; omega) (by rw [e3]; omega), e3]
          exact Int.le_refl _
        · have h5 := i32_lo (TRn_openCount u - 1)
          unfold oc
          omega
      · split
        · show oc u - 1 ≤ oc u
          omega
        · omega
    · omega
theorem oc_pass2 (b : TBk) (u : TRn) (k : Int32) (hk : ¬ k = 8) : oc (f_Rn_passMark b u k) = oc u := by
  unfold f_Rn_passMark
  repeat' split
  all_goals first
    | rfl
    | contradiction
theorem oc_skip8 (n : Nat) : ∀ (b : TBk) (u : TRn) (x1 x2 x3 x4 x5 : Int32), oc u - 1 ≤ oc (f_Rn_skip_8 n b u x1 x2 x3 x4 x5) := by
  induction n with
  | zero =>
    intro b u x1 x2 x3 x4 x5
    rw [f_Rn_skip_8]
    omega
  | succ n ih =>
    intro b u x1 x2 x3 x4 x5
    rw [f_Rn_skip_8]
    have h1 := oc_look b u
    rcases hl : f_Rn_lookForMore b u with ⟨r, v⟩
    rw [hl] at h1
    dsimp only at h1 ⊢
    have hf : ∀ k, oc (f_Rn_fail b v k) = oc v := fun k => oc_fail b v k
    have hs : ∀ x, oc (TRn_set_skipped v x) = oc v := fun _ => rfl
    have hp1 : ∀ k, oc v - 1 ≤ oc (f_Rn_passMark b v k) := fun k => oc_pass1 b v k
    have hp2 : ∀ k, ¬ k = 8 → oc (f_Rn_passMark b v k) = oc v := fun k => oc_pass2 b v k
    generalize f_Bk_kindOf b r = k
    repeat' split
    all_goals first
      | omega
      | (have := hf 7; omega)
      | (have := hf 2; omega)
      | (have := hp1 k; omega)
      | (refine Int.le_trans ?_ (ih _ _ _ _ _ _ _); rw [hs]; omega)
      | (refine Int.le_trans ?_ (ih _ _ _ _ _ _ _); rw [hp2 k (by assumption)]; omega)
theorem oc_skip (b : TBk) (u : TRn) (x y : Int32) : oc u - 1 ≤ oc (f_Rn_skip b u x y) := oc_skip8 _ _ _ _ _ _ _ _
theorem oc_meet (b : TBk) (u : TRn) (k : Int32) : oc u - 1 ≤ oc (f_Rn_meetMark b u k) := by
  unfold f_Rn_meetMark
  dsimp only
  split
  · rw [oc_fail]
    omega
  · split
    · exact oc_pass1 _ _ _
    · rename_i h
      refine Int.le_trans ?_ (oc_skip _ _ _ _)
      rw [oc_pass2 _ _ _ h]
      omega
theorem oc_decide (b : TBk) (u : TRn) (x y z : Int32) : oc u - 1 ≤ oc (f_Rn_decide b u x y z) := by
  have hd : ∀ f, oc (TRn_set_decisions u f) = oc u := fun _ => rfl
  have hs : ∀ w p q, oc w = oc u → oc u - 1 ≤ oc (f_Rn_skip b w p q) := fun w p q h => by
    have := oc_skip b w p q
    omega
  unfold f_Rn_decide
  dsimp only
  repeat' split
  all_goals first
    | omega
    | (rw [hd]; omega)
    | exact hs _ _ _ rfl
end
section
theorem q_5 : Cond.selects R_Rn y_Rn_open y_Rn_open ∈ TB := tq 5 (by decide +kernel) rfl
theorem q_22 : Cond.selects R_Rn y_Rn_meetMark y_Rn_meetMark ∈ TB := tq 22 (by decide +kernel) rfl
theorem q_291 : Cond.methodLink R_Rn 104 y_Bk_valueOf ∈ TB := tq 291 (by decide +kernel) rfl
theorem q_295 : Cond.methodLink R_Rn 107 y_Rd_goOnWith ∈ TB := tq 295 (by decide +kernel) rfl
theorem q_296 : Cond.methodLink R_Rn 110 y_Rn_open ∈ TB := tq 296 (by decide +kernel) rfl
theorem q_298 : Cond.instanceMethod y_Rn_open ∈ TB := tq 298 (by decide +kernel) rfl
theorem q_299 : Cond.code y_Rn_open b_Rn_open 5 (none : Option Jvm.ClassFile.FieldType) ∈ TB := tq 299 (by decide +kernel) rfl
theorem q_399 : Cond.methodLink R_Rn 113 y_Rn_meetMark ∈ TB := tq 399 (by decide +kernel) rfl
theorem q_401 : Cond.instanceMethod y_Rn_meetMark ∈ TB := tq 401 (by decide +kernel) rfl
theorem q_402 : Cond.code y_Rn_meetMark b_Rn_meetMark 2 (none : Option Jvm.ClassFile.FieldType) ∈ TB := tq 402 (by decide +kernel) rfl
theorem d_Rn_takeIn_0 : decode b_Rn_takeIn 0 = .ok (.aload_n 0, 1) := by decide +kernel
theorem d_Rn_takeIn_1 : decode b_Rn_takeIn 1 = .ok (.getfield 25, 3) := by decide +kernel
theorem d_Rn_takeIn_4 : decode b_Rn_takeIn 4 = .ok (.iload_n 1, 1) := by decide +kernel
theorem d_Rn_takeIn_5 : decode b_Rn_takeIn 5 = .ok (.invokevirtual 88, 3) := by decide +kernel
theorem d_Rn_takeIn_8 : decode b_Rn_takeIn 8 = .ok (.istore_n 3, 1) := by decide +kernel
theorem d_Rn_takeIn_9 : decode b_Rn_takeIn 9 = .ok (.iload_n 3, 1) := by decide +kernel
theorem d_Rn_takeIn_10 : decode b_Rn_takeIn 10 = .ok (.invokestatic 101, 3) := by decide +kernel
theorem d_Rn_takeIn_13 : decode b_Rn_takeIn 13 = .ok (.ifCond .eq 20, 3) := by decide +kernel
theorem d_Rn_takeIn_16 : decode b_Rn_takeIn 16 = .ok (.aload_n 0, 1) := by decide +kernel
theorem d_Rn_takeIn_17 : decode b_Rn_takeIn 17 = .ok (.getfield 34, 3) := by decide +kernel
theorem d_Rn_takeIn_20 : decode b_Rn_takeIn 20 = .ok (.aload_n 0, 1) := by decide +kernel
theorem d_Rn_takeIn_21 : decode b_Rn_takeIn 21 = .ok (.getfield 25, 3) := by decide +kernel
theorem d_Rn_takeIn_24 : decode b_Rn_takeIn 24 = .ok (.iload_n 1, 1) := by decide +kernel
theorem d_Rn_takeIn_25 : decode b_Rn_takeIn 25 = .ok (.invokevirtual 104, 3) := by decide +kernel
theorem d_Rn_takeIn_28 : decode b_Rn_takeIn 28 = .ok (.invokevirtual 107, 3) := by decide +kernel
theorem d_Rn_takeIn_31 : decode b_Rn_takeIn 31 = .ok (.iconst 1, 1) := by decide +kernel
theorem d_Rn_takeIn_32 : decode b_Rn_takeIn 32 = .ok (.ireturn, 1) := by decide +kernel
theorem d_Rn_takeIn_33 : decode b_Rn_takeIn 33 = .ok (.iload_n 3, 1) := by decide +kernel
theorem d_Rn_takeIn_34 : decode b_Rn_takeIn 34 = .ok (.iconst 5, 1) := by decide +kernel
theorem d_Rn_takeIn_35 : decode b_Rn_takeIn 35 = .ok (.if_icmp .ne 17, 3) := by decide +kernel
theorem d_Rn_takeIn_38 : decode b_Rn_takeIn 38 = .ok (.aload_n 0, 1) := by decide +kernel
theorem d_Rn_takeIn_39 : decode b_Rn_takeIn 39 = .ok (.aload_n 0, 1) := by decide +kernel
theorem d_Rn_takeIn_40 : decode b_Rn_takeIn 40 = .ok (.getfield 25, 3) := by decide +kernel
theorem d_Rn_takeIn_43 : decode b_Rn_takeIn 43 = .ok (.iload_n 1, 1) := by decide +kernel
theorem d_Rn_takeIn_44 : decode b_Rn_takeIn 44 = .ok (.invokevirtual 104, 3) := by decide +kernel
theorem d_Rn_takeIn_47 : decode b_Rn_takeIn 47 = .ok (.invokevirtual 110, 3) := by decide +kernel
theorem d_Rn_takeIn_50 : decode b_Rn_takeIn 50 = .ok (.iconst 1, 1) := by decide +kernel
theorem d_Rn_takeIn_51 : decode b_Rn_takeIn 51 = .ok (.ireturn, 1) := by decide +kernel
theorem d_Rn_takeIn_52 : decode b_Rn_takeIn 52 = .ok (.iload_n 3, 1) := by decide +kernel
theorem d_Rn_takeIn_53 : decode b_Rn_takeIn 53 = .ok (.invokestatic 94, 3) := by decide +kernel
theorem d_Rn_takeIn_56 : decode b_Rn_takeIn 56 = .ok (.ifCond .eq 18, 3) := by decide +kernel
theorem d_Rn_takeIn_59 : decode b_Rn_takeIn 59 = .ok (.aload_n 0, 1) := by decide +kernel
theorem d_Rn_takeIn_60 : decode b_Rn_takeIn 60 = .ok (.getfield 57, 3) := by decide +kernel
theorem d_Rn_takeIn_63 : decode b_Rn_takeIn 63 = .ok (.iload_n 2, 1) := by decide +kernel
theorem d_Rn_takeIn_64 : decode b_Rn_takeIn 64 = .ok (.if_icmp .le 10, 3) := by decide +kernel
theorem d_Rn_takeIn_67 : decode b_Rn_takeIn 67 = .ok (.aload_n 0, 1) := by decide +kernel
theorem d_Rn_takeIn_68 : decode b_Rn_takeIn 68 = .ok (.iload_n 3, 1) := by decide +kernel
theorem d_Rn_takeIn_69 : decode b_Rn_takeIn 69 = .ok (.invokevirtual 113, 3) := by decide +kernel
theorem d_Rn_takeIn_72 : decode b_Rn_takeIn 72 = .ok (.iconst 1, 1) := by decide +kernel
theorem d_Rn_takeIn_73 : decode b_Rn_takeIn 73 = .ok (.ireturn, 1) := by decide +kernel
theorem d_Rn_takeIn_74 : decode b_Rn_takeIn 74 = .ok (.iconst 0, 1) := by decide +kernel
theorem d_Rn_takeIn_75 : decode b_Rn_takeIn 75 = .ok (.ireturn, 1) := by decide +kernel
noncomputable def f_Rn_takeIn (op : TBk → TRn → Int32 → TRn) (b : TBk) (u : TRn) (p0 : Int32) (p1 : Int32) : (Int32 × TRn) := (if (f_Ct_isMacro (f_Bk_kindOf b p0)) = 0 then (if (f_Bk_kindOf b p0) = 5 then (let v_10 := op b u (f_Bk_valueOf b p0); (1, v_10)) else (if (f_Ct_isMark (f_Bk_kindOf b p0)) = 0 then (0, u) else (if (TRn_openCount u) ≤ p1 then (0, u) else (let v_8 := f_Rn_meetMark b u (f_Bk_kindOf b p0); (1, v_8))))) else (let v_12 := f_Rd_goOnWith b (TRn_rd u) (f_Bk_valueOf b p0); (1, (TRn_set_rd u v_12))))
set_option maxHeartbeats 4000000 in
set_option maxRecDepth 100000 in
theorem c_Rn_takeIn (l : Launch) (dC : Nat → ClassId) (dI : Nat → Nat → Nat) (ad : Nat → Nat) (ca : Nat → ClassId) (op : TBk → TRn → Int32 → TRn) (rf rl : Nat) (k : Int) (hopm : ∀ (b : TBk) (u : TRn) (w : Int32), k ≤ oc u → oc u ≤ oc (op b u w)) (hop : ∀ (sz : Nat) (b : TBk) (u : TRn) (w : Int32), BkS b ∧ k ≤ oc u → wx_Mv l y_Rn_open ws_Rn_open ({ frames := rf, cells := 0, slots := 0, locals := rl } : Room) (dC, dI) vwCl (t_R ca) [.ref (ad 0), .int w] (w_R ad ca b u) sz (fun v : TRn => w_R ad ca b v) (fun v : TRn => v = op b u w)) (sz : Nat) (b : TBk) (u : TRn) (p0 : Int32) (p1 : Int32) (hpre : BkS b ∧ k ≤ oc u) (F : (Int32 × TRn)) (he : F = f_Rn_takeIn op b u p0 p1) : wx_Mi l y_Rn_takeIn ws_Rn_takeIn ({ frames := rf + 6, cells := 0, slots := 0, locals := rl + 134 } : Room) (dC, dI) vwCl (t_R ca) [.ref (ad 0), .int p0, .int p1] (w_R ad ca b u) sz (fun v : TRn => w_R ad ca b v) (fun (r : Int32) (v : TRn) => (r, v) = F) := by
  refine Met.ofW (cc := b_Rn_takeIn) (maxL := 4) (ret := some .boolean) (by decide) rfl ?_
  intro p e s m args below meth c s₁ B hml hv
  obtain ⟨rfl, hsz, hP, hK, hD0, hN⟩ := hv
  have hx := B.exec
  have hb := B.bytes
  have hr := B.returns
  have hts := atoms_spec (ws := ws_Rn_takeIn) B.pre
  have ht : ∀ w ∈ TB, w.before _ s = true := fun w h => hts w (List.mem_cons_of_mem _ h)
  have hown : s.vm.findClass R_Rn = some m.cls := findClass_of_methodNamed B.named
  have hlocks := B.notSynchronized
  subst hsz
  have hD := hD0.self (sz := s.heap.size)
  generalize hAe : va_A (w_R ad ca b u) s.heap.size = A at hD ⊢
  have hA : ∀ q : Nat, s.heap.size ≤ q → A q := fun q h => by rw [← hAe]; exact Or.inr h
  have hS : va_S A s.heap s.heap [] := va_S.rf
  have hl := lv_entry ([.ref (ad 0), .int p0, .int p1]) (n := 4) (Nat.le_of_ble_eq_true rfl)
  rw [lg_entry_eq]
  generalize (lg_sl ([.ref (ad 0), .int p0, .int p1]) ++ List.replicate (4 - (lg_sl ([.ref (ad 0), .int p0, .int p1])).length) Slot.unset).toArray = ls at hl ⊢
  have hl : lv_has ls 4 [(0, .ref (ad 0)), (1, .int p0), (2, .int p1)] := hl
  unfold f_Rn_takeIn at he
  refine lv_aload_n hx hb d_Rn_takeIn_0 rfl (lv_at hl 0 rfl) ?_
  refine va_get (D := (dC, dI)) (ci := 2) (v := .ref (ad 8)) (C := R_Rn) (T := T_Rn) (N := 12) hx hb ht i_Rn hown hK hP 0 rfl rfl 0 (by decide) (ht _ q_132) (fun _ h9 => h9) rfl d_Rn_takeIn_1 ?_
  refine lv_iload_n hx hb d_Rn_takeIn_4 rfl (lv_at hl 1 rfl) ?_
  refine wx_ci (wS := fun _ : Unit => w_B ad ca b) (ws2 := fun _ : Unit => w_R ad ca b u) (va_runV (As := [.int p0]) (rest := []) ⟨hx, hb, hml, hown, ht⟩ (c_Bk_kindOf l dC dI ad ca s.heap.size b p0 _ rfl) (cwV 1 ht (tb_V q_283 q_284 q_285 q_45 q_286) rfl rfl rfl p_Bk_kindOf ⟨show 1 + 1 ≤ rf + 6 by omega, show 8 + (2 + 11) + 20 ≤ rl + 134 by omega⟩) (wx_preV (wc := (w_B ad ca b)) hN hK hP hD [8, 9, 10, 11, 12, 13, 14] [6, 7, 8, 9, 10, 11] rfl (by decide) rfl (ci := 0) (q0 := 0) rfl rfl) rfl rfl hl.1 rfl (lv_room (Nat.le_of_ble_eq_true rfl)) d_Rn_takeIn_5 ⟨Nat.zero_le _, Nat.zero_le _⟩) hP hD hS hA [8, 9, 10, 11, 12, 13, 14] [0, 1, 2, 3, 4, 5, 6, 7] [0, 1, 2, 3, 4, 5, 6, 7, 8, 9, 10, 11, 12, 13, 14] rfl rfl (by decide) (by decide) (by decide) (fun _ => rfl) (fun r_1 _ H locs hw_1 hP hD hS => ?_)
  subst hw_1
  have hP : va_P (dC, dI) vwCl (w_R ad ca b u) H := hP
  have hD : va_D A (w_R ad ca b u) := hD
  refine lv_istore_n (lv' := [(3, .int (f_Bk_kindOf b p0)), (0, .ref (ad 0)), (1, .int p0), (2, .int p1)]) hx hb d_Rn_takeIn_8 rfl hl (by decide) rfl (fun ls hl => ?_)
  refine lv_iload_n hx hb d_Rn_takeIn_9 rfl (lv_at hl 0 rfl) ?_
  refine wx_ci (wS := fun _ : Unit => w_E ad ca) (ws2 := fun _ : Unit => w_R ad ca b u) (va_runSN (As := [.int (f_Bk_kindOf b p0)]) (rest := []) ⟨hx, hb, hml, hown, ht⟩ (c_Ct_isMacro l dC dI ad ca H.size (f_Bk_kindOf b p0) _ rfl) ⟨va_cnB 1 ht (tb_in q_290) rfl rfl rfl (hN _ nest_1) (ht _ q_44) p_Ct_isMacro.2 ⟨show 0 + 1 ≤ rf + 6 by omega, show 8 + (1 + 11) + 0 ≤ rl + 134 by omega⟩, ht _ q_289, trivial⟩ (wx_preS (wc := (w_E ad ca)) hN hK hP hD [] [] rfl (by decide) rfl) rfl rfl hl.1 rfl (lv_room (Nat.le_of_ble_eq_true rfl)) d_Rn_takeIn_10 ⟨Nat.zero_le _, Nat.zero_le _⟩) hP hD hS hA [] [0, 1, 2, 3, 4, 5, 6, 7, 8, 9, 10, 11, 12, 13, 14] [0, 1, 2, 3, 4, 5, 6, 7, 8, 9, 10, 11, 12, 13, 14] rfl rfl (by decide) (by decide) (by decide) (fun _ => rfl) (fun r_2 _ H locs hw_2 hP hD hS => ?_)
  subst hw_2
  have hP : va_P (dC, dI) vwCl (w_R ad ca b u) H := hP
  have hD : va_D A (w_R ad ca b u) := hD
  refine lv_if_eq (tgt := 33) hx hb d_Rn_takeIn_13 (by decide) (fun c_3 => ?_) (fun c_3 => ?_)
  · have he := he.trans (if_pos c_3)
    refine lv_iload_n hx hb d_Rn_takeIn_33 rfl (lv_at hl 0 rfl) ?_
    refine lv_iconst (v := 5) hx hb d_Rn_takeIn_34 (by decide) ?_
    refine lv_icmp_ne (tgt := 52) hx hb d_Rn_takeIn_35 (by decide) (fun c_4 => ?_) (fun c_4 => ?_)
    · have he := he.trans (if_neg c_4)
      refine lv_iload_n hx hb d_Rn_takeIn_52 rfl (lv_at hl 0 rfl) ?_
      refine wx_ci (wS := fun _ : Unit => w_E ad ca) (ws2 := fun _ : Unit => w_R ad ca b u) (va_runSN (As := [.int (f_Bk_kindOf b p0)]) (rest := []) ⟨hx, hb, hml, hown, ht⟩ (c_Ct_isMark l dC dI ad ca H.size (f_Bk_kindOf b p0) _ rfl) ⟨va_cnB 1 ht (tb_in q_325) rfl rfl rfl (hN _ nest_2) (ht _ q_44) p_Ct_isMark.2 ⟨show 0 + 1 ≤ rf + 6 by omega, show 8 + (1 + 11) + 0 ≤ rl + 134 by omega⟩, ht _ q_324, trivial⟩ (wx_preS (wc := (w_E ad ca)) hN hK hP hD [] [] rfl (by decide) rfl) rfl rfl hl.1 rfl (lv_room (Nat.le_of_ble_eq_true rfl)) d_Rn_takeIn_53 ⟨Nat.zero_le _, Nat.zero_le _⟩) hP hD hS hA [] [0, 1, 2, 3, 4, 5, 6, 7, 8, 9, 10, 11, 12, 13, 14] [0, 1, 2, 3, 4, 5, 6, 7, 8, 9, 10, 11, 12, 13, 14] rfl rfl (by decide) (by decide) (by decide) (fun _ => rfl) (fun r_5 _ H locs hw_5 hP hD hS => ?_)
      subst hw_5
      have hP : va_P (dC, dI) vwCl (w_R ad ca b u) H := hP
      have hD : va_D A (w_R ad ca b u) := hD
      refine lv_if_eq (tgt := 74) hx hb d_Rn_takeIn_56 (by decide) (fun c_6 => ?_) (fun c_6 => ?_)
      · have he := he.trans (if_pos c_6)
        refine lv_iconst (v := 0) hx hb d_Rn_takeIn_74 (by decide) ?_
        exact W.zret hx hb hr (by rfl) (v := 0) (fun t ht hW => ⟨⟨0, u, rfl, he.symm, by rw [ht]; exact hP, va_K.moved hW.alike hK, hD⟩, hS.F ht⟩) hS.2.2 d_Rn_takeIn_75
      · have he := he.trans (if_neg c_6)
        refine lv_aload_n hx hb d_Rn_takeIn_59 rfl (lv_at hl 1 rfl) ?_
        refine va_get (D := (dC, dI)) (ci := 2) (v := .int (TRn_openCount u)) (C := R_Rn) (T := T_Rn) (N := 12) hx hb ht i_Rn hown hK hP 0 rfl rfl 7 (by decide) (ht _ q_139) (fun _ h9 => h9) rfl d_Rn_takeIn_60 ?_
        refine lv_iload_n hx hb d_Rn_takeIn_63 rfl (lv_at hl 3 rfl) ?_
        refine lv_icmp_le (tgt := 74) hx hb d_Rn_takeIn_64 (by decide) (fun c_7 => ?_) (fun c_7 => ?_)
        · have he := he.trans (if_pos c_7)
          refine lv_iconst (v := 0) hx hb d_Rn_takeIn_74 (by decide) ?_
          exact W.zret hx hb hr (by rfl) (v := 0) (fun t ht hW => ⟨⟨0, u, rfl, he.symm, by rw [ht]; exact hP, va_K.moved hW.alike hK, hD⟩, hS.F ht⟩) hS.2.2 d_Rn_takeIn_75
        · have he := he.trans (if_neg c_7)
          refine lv_aload_n hx hb d_Rn_takeIn_67 rfl (lv_at hl 1 rfl) ?_
          refine lv_iload_n hx hb d_Rn_takeIn_68 rfl (lv_at hl 0 rfl) ?_
          refine wx_cv (wS := fun v : TRn => w_R ad ca b v) (ws2 := fun v : TRn => w_R ad ca b v) (va_runV (As := [.int (f_Bk_kindOf b p0)]) (rest := []) ⟨hx, hb, hml, hown, ht⟩ (c_Rn_meetMark l dC dI ad ca H.size b u (f_Bk_kindOf b p0) hpre.1 _ rfl) (cwV 1 ht (tb_V q_399 q_401 q_22 q_46 q_402) rfl rfl rfl p_Rn_meetMark ⟨show 5 + 1 ≤ rf + 6 by omega, show 8 + (2 + 11) + 113 ≤ rl + 134 by omega⟩) (wx_preV (wc := (w_R ad ca b u)) hN hK hP hD [0, 1, 2, 3, 4, 5, 6, 7, 8, 9, 10, 11, 12, 13, 14] [0, 1, 2, 3, 4, 5, 6, 7, 8, 9, 10, 11] rfl (by decide) rfl (ci := 2) (q0 := 0) rfl rfl) rfl rfl hl.1 rfl (lv_room (Nat.le_of_ble_eq_true rfl)) d_Rn_takeIn_69 ⟨Nat.zero_le _, Nat.zero_le _⟩) hP hD hS hA [0, 1, 2, 3, 4, 5, 6, 7, 8, 9, 10, 11, 12, 13, 14] [] [0, 1, 2, 3, 4, 5, 6, 7, 8, 9, 10, 11, 12, 13, 14] rfl rfl (by decide) (by decide) (by decide) (fun _ => rfl) (fun v_8 H locs hw_8 hP hD hS => ?_)
          have hP : va_P (dC, dI) vwCl (w_R ad ca b v_8) H := hP
          have hD : va_D A (w_R ad ca b v_8) := hD
          rw [← hw_8] at he
          try dsimp only at he
          refine lv_iconst (v := 1) hx hb d_Rn_takeIn_72 (by decide) ?_
          exact W.zret hx hb hr (by rfl) (v := 1) (fun t ht hW => ⟨⟨1, v_8, rfl, he.symm, by rw [ht]; exact hP, va_K.moved hW.alike hK, hD⟩, hS.F ht⟩) hS.2.2 d_Rn_takeIn_73
    · have he := he.trans (if_pos c_4)
      refine lv_aload_n hx hb d_Rn_takeIn_38 rfl (lv_at hl 1 rfl) ?_
      refine lv_aload_n hx hb d_Rn_takeIn_39 rfl (lv_at hl 1 rfl) ?_
      refine va_get (D := (dC, dI)) (ci := 2) (v := .ref (ad 8)) (C := R_Rn) (T := T_Rn) (N := 12) hx hb ht i_Rn hown hK hP 0 rfl rfl 0 (by decide) (ht _ q_132) (fun _ h9 => h9) rfl d_Rn_takeIn_40 ?_
      refine lv_iload_n hx hb d_Rn_takeIn_43 rfl (lv_at hl 2 rfl) ?_
      refine wx_ci (wS := fun _ : Unit => w_B ad ca b) (ws2 := fun _ : Unit => w_R ad ca b u) (va_runV (As := [.int p0]) (rest := [.ref (ad 0)]) ⟨hx, hb, hml, hown, ht⟩ (c_Bk_valueOf l dC dI ad ca H.size b p0 _ rfl) (cwV 1 ht (tb_V q_291 q_292 q_293 q_45 q_294) rfl rfl rfl p_Bk_valueOf ⟨show 1 + 1 ≤ rf + 6 by omega, show 8 + (2 + 11) + 20 ≤ rl + 134 by omega⟩) (wx_preV (wc := (w_B ad ca b)) hN hK hP hD [8, 9, 10, 11, 12, 13, 14] [6, 7, 8, 9, 10, 11] rfl (by decide) rfl (ci := 0) (q0 := 0) rfl rfl) rfl rfl hl.1 rfl (lv_room (Nat.le_of_ble_eq_true rfl)) d_Rn_takeIn_44 ⟨Nat.zero_le _, Nat.zero_le _⟩) hP hD hS hA [8, 9, 10, 11, 12, 13, 14] [0, 1, 2, 3, 4, 5, 6, 7] [0, 1, 2, 3, 4, 5, 6, 7, 8, 9, 10, 11, 12, 13, 14] rfl rfl (by decide) (by decide) (by decide) (fun _ => rfl) (fun r_9 _ H locs hw_9 hP hD hS => ?_)
      subst hw_9
      have hP : va_P (dC, dI) vwCl (w_R ad ca b u) H := hP
      have hD : va_D A (w_R ad ca b u) := hD
      refine wx_cv (wS := fun v : TRn => w_R ad ca b v) (ws2 := fun v : TRn => w_R ad ca b v) (va_runV (As := [.int (f_Bk_valueOf b p0)]) (rest := []) ⟨hx, hb, hml, hown, ht⟩ (hop H.size b u (f_Bk_valueOf b p0) hpre) (cwV 1 ht (tb_V q_296 q_298 q_5 q_46 q_299) rfl rfl rfl p_Rn_open ⟨show rf + 1 ≤ rf + 6 by omega, show 8 + (5 + 11) + rl ≤ rl + 134 by omega⟩) (wx_preV (wc := (w_R ad ca b u)) hN hK hP hD [0, 1, 2, 3, 4, 5, 6, 7, 8, 9, 10, 11, 12, 13, 14] [0, 1, 2, 3, 4, 5, 6, 7, 8, 9, 10, 11] rfl (by decide) rfl (ci := 2) (q0 := 0) rfl rfl) rfl rfl hl.1 rfl (lv_room (Nat.le_of_ble_eq_true rfl)) d_Rn_takeIn_47 ⟨Nat.zero_le _, Nat.zero_le _⟩) hP hD hS hA [0, 1, 2, 3, 4, 5, 6, 7, 8, 9, 10, 11, 12, 13, 14] [] [0, 1, 2, 3, 4, 5, 6, 7, 8, 9, 10, 11, 12, 13, 14] rfl rfl (by decide) (by decide) (by decide) (fun _ => rfl) (fun v_10 H locs hw_10 hP hD hS => ?_)
      have hP : va_P (dC, dI) vwCl (w_R ad ca b v_10) H := hP
      have hD : va_D A (w_R ad ca b v_10) := hD
      rw [← hw_10] at he
      try dsimp only at he
      refine lv_iconst (v := 1) hx hb d_Rn_takeIn_50 (by decide) ?_
      exact W.zret hx hb hr (by rfl) (v := 1) (fun t ht hW => ⟨⟨1, v_10, rfl, he.symm, by rw [ht]; exact hP, va_K.moved hW.alike hK, hD⟩, hS.F ht⟩) hS.2.2 d_Rn_takeIn_51
  · have he := he.trans (if_neg c_3)
    refine lv_aload_n hx hb d_Rn_takeIn_16 rfl (lv_at hl 1 rfl) ?_
    refine va_get (D := (dC, dI)) (ci := 2) (v := .ref (ad 5)) (C := R_Rn) (T := T_Rn) (N := 12) hx hb ht i_Rn hown hK hP 0 rfl rfl 1 (by decide) (ht _ q_133) (fun _ h9 => h9) rfl d_Rn_takeIn_17 ?_
    refine lv_aload_n hx hb d_Rn_takeIn_20 rfl (lv_at hl 1 rfl) ?_
    refine va_get (D := (dC, dI)) (ci := 2) (v := .ref (ad 8)) (C := R_Rn) (T := T_Rn) (N := 12) hx hb ht i_Rn hown hK hP 0 rfl rfl 0 (by decide) (ht _ q_132) (fun _ h9 => h9) rfl d_Rn_takeIn_21 ?_
    refine lv_iload_n hx hb d_Rn_takeIn_24 rfl (lv_at hl 2 rfl) ?_
    refine wx_ci (wS := fun _ : Unit => w_B ad ca b) (ws2 := fun _ : Unit => w_R ad ca b u) (va_runV (As := [.int p0]) (rest := [.ref (ad 5)]) ⟨hx, hb, hml, hown, ht⟩ (c_Bk_valueOf l dC dI ad ca H.size b p0 _ rfl) (cwV 1 ht (tb_V q_291 q_292 q_293 q_45 q_294) rfl rfl rfl p_Bk_valueOf ⟨show 1 + 1 ≤ rf + 6 by omega, show 8 + (2 + 11) + 20 ≤ rl + 134 by omega⟩) (wx_preV (wc := (w_B ad ca b)) hN hK hP hD [8, 9, 10, 11, 12, 13, 14] [6, 7, 8, 9, 10, 11] rfl (by decide) rfl (ci := 0) (q0 := 0) rfl rfl) rfl rfl hl.1 rfl (lv_room (Nat.le_of_ble_eq_true rfl)) d_Rn_takeIn_25 ⟨Nat.zero_le _, Nat.zero_le _⟩) hP hD hS hA [8, 9, 10, 11, 12, 13, 14] [0, 1, 2, 3, 4, 5, 6, 7] [0, 1, 2, 3, 4, 5, 6, 7, 8, 9, 10, 11, 12, 13, 14] rfl rfl (by decide) (by decide) (by decide) (fun _ => rfl) (fun r_11 _ H locs hw_11 hP hD hS => ?_)
    subst hw_11
    have hP : va_P (dC, dI) vwCl (w_R ad ca b u) H := hP
    have hD : va_D A (w_R ad ca b u) := hD
    refine wx_cv (wS := fun v : TRd => w_D ad ca b v) (ws2 := fun v : TRd => w_R ad ca b (TRn_set_rd u v)) (va_runV (As := [.int (f_Bk_valueOf b p0)]) (rest := []) ⟨hx, hb, hml, hown, ht⟩ (c_Rd_goOnWith l dC dI ad ca H.size b (TRn_rd u) (f_Bk_valueOf b p0) _ rfl) (cwV 1 ht (tb_V q_295 q_254 q_255 q_47 q_256) rfl rfl rfl p_Rd_goOnWith ⟨show 0 + 1 ≤ rf + 6 by omega, show 8 + (2 + 11) + 0 ≤ rl + 134 by omega⟩) (wx_preV (wc := (w_D ad ca b (TRn_rd u))) hN hK hP hD [5, 6, 7, 8, 9, 10, 11, 12, 13, 14] [4, 5, 6, 7, 8, 9, 10, 11] rfl (by decide) rfl (ci := 1) (q0 := 0) rfl rfl) rfl rfl hl.1 rfl (lv_room (Nat.le_of_ble_eq_true rfl)) d_Rn_takeIn_28 ⟨Nat.zero_le _, Nat.zero_le _⟩) hP hD hS hA [5, 6, 7, 8, 9, 10, 11, 12, 13, 14] [0, 1, 2, 3, 4] [0, 1, 2, 3, 4, 5, 6, 7, 8, 9, 10, 11, 12, 13, 14] rfl rfl (by decide) (by decide) (by decide) (fun _ => rfl) (fun v_12 H locs hw_12 hP hD hS => ?_)
    have hP : va_P (dC, dI) vwCl (w_R ad ca b (TRn_set_rd u v_12)) H := hP
    have hD : va_D A (w_R ad ca b (TRn_set_rd u v_12)) := hD
    rw [← hw_12] at he
    try dsimp only at he
    refine lv_iconst (v := 1) hx hb d_Rn_takeIn_31 (by decide) ?_
    exact W.zret hx hb hr (by rfl) (v := 1) (fun t ht hW => ⟨⟨1, (TRn_set_rd u v_12), rfl, he.symm, by rw [ht]; exact hP, va_K.moved hW.alike hK, hD⟩, hS.F ht⟩) hS.2.2 d_Rn_takeIn_32
end
section
theorem oc_take (op : TBk → TRn → Int32 → TRn) (k : Int) (hopm : ∀ (b : TBk) (u : TRn) (w : Int32), k ≤ oc u → oc u ≤ oc (op b u w)) {b : TBk} {u v : TRn} {t base r : Int32} (h : (r, v) = f_Rn_takeIn op b u t base) (hk : k ≤ base.toInt) (hb : base.toInt ≤ oc u) : base.toInt ≤ oc v := by
  have h1 : base.toInt ≤ oc (f_Rn_takeIn op b u t base).2 := by
    unfold f_Rn_takeIn
    dsimp only
    split
    · split
      · exact Int.le_trans hb (hopm b u _ (Int.le_trans hk hb))
      · split
        · exact hb
        · split
          · exact hb
          · rename_i h4
            have h5 := oc_meet b u (f_Bk_kindOf b t)
            rw [i32_le] at h4
            show base.toInt ≤ oc (f_Rn_meetMark b u (f_Bk_kindOf b t))
            have h6 : oc u = (TRn_openCount u).toInt := rfl
            omega
    · exact hb
  rw [← h] at h1
  exact h1
end
section
theorem q_4 : Cond.selects R_Rn y_Rn_takeIn y_Rn_takeIn ∈ TB := tq 4 (by decide +kernel) rfl
theorem q_279 : Cond.methodLink R_Rn 84 y_Rn_takeIn ∈ TB := tq 279 (by decide +kernel) rfl
theorem q_281 : Cond.instanceMethod y_Rn_takeIn ∈ TB := tq 281 (by decide +kernel) rfl
theorem q_282 : Cond.code y_Rn_takeIn b_Rn_takeIn 4 (some .boolean) ∈ TB := tq 282 (by decide +kernel) rfl
theorem d_Rn_readGoneOnWith_0 : decode b_Rn_readGoneOnWith 0 = .ok (.iconst 0, 1) := by decide +kernel
theorem d_Rn_readGoneOnWith_1 : decode b_Rn_readGoneOnWith 1 = .ok (.istore_n 2, 1) := by decide +kernel
theorem d_Rn_readGoneOnWith_2 : decode b_Rn_readGoneOnWith 2 = .ok (.iload_n 2, 1) := by decide +kernel
theorem d_Rn_readGoneOnWith_3 : decode b_Rn_readGoneOnWith 3 = .ok (.ldc 44, 2) := by decide +kernel
theorem d_Rn_readGoneOnWith_5 : decode b_Rn_readGoneOnWith 5 = .ok (.if_icmp .ge 37, 3) := by decide +kernel
theorem d_Rn_readGoneOnWith_8 : decode b_Rn_readGoneOnWith 8 = .ok (.aload_n 0, 1) := by decide +kernel
theorem d_Rn_readGoneOnWith_9 : decode b_Rn_readGoneOnWith 9 = .ok (.getfield 45, 3) := by decide +kernel
theorem d_Rn_readGoneOnWith_12 : decode b_Rn_readGoneOnWith 12 = .ok (.ifCond .ne 30, 3) := by decide +kernel
theorem d_Rn_readGoneOnWith_15 : decode b_Rn_readGoneOnWith 15 = .ok (.aload_n 0, 1) := by decide +kernel
theorem d_Rn_readGoneOnWith_16 : decode b_Rn_readGoneOnWith 16 = .ok (.invokevirtual 139, 3) := by decide +kernel
theorem d_Rn_readGoneOnWith_19 : decode b_Rn_readGoneOnWith 19 = .ok (.istore_n 3, 1) := by decide +kernel
theorem d_Rn_readGoneOnWith_20 : decode b_Rn_readGoneOnWith 20 = .ok (.iload_n 3, 1) := by decide +kernel
theorem d_Rn_readGoneOnWith_21 : decode b_Rn_readGoneOnWith 21 = .ok (.iconst (-1), 1) := by decide +kernel
theorem d_Rn_readGoneOnWith_22 : decode b_Rn_readGoneOnWith 22 = .ok (.if_icmp .eq 12, 3) := by decide +kernel
theorem d_Rn_readGoneOnWith_25 : decode b_Rn_readGoneOnWith 25 = .ok (.aload_n 0, 1) := by decide +kernel
theorem d_Rn_readGoneOnWith_26 : decode b_Rn_readGoneOnWith 26 = .ok (.iload_n 3, 1) := by decide +kernel
theorem d_Rn_readGoneOnWith_27 : decode b_Rn_readGoneOnWith 27 = .ok (.iload_n 1, 1) := by decide +kernel
theorem d_Rn_readGoneOnWith_28 : decode b_Rn_readGoneOnWith 28 = .ok (.invokevirtual 84, 3) := by decide +kernel
theorem d_Rn_readGoneOnWith_31 : decode b_Rn_readGoneOnWith 31 = .ok (.ifCond .ne 5, 3) := by decide +kernel
theorem d_Rn_readGoneOnWith_34 : decode b_Rn_readGoneOnWith 34 = .ok (.iload_n 3, 1) := by decide +kernel
theorem d_Rn_readGoneOnWith_35 : decode b_Rn_readGoneOnWith 35 = .ok (.ireturn, 1) := by decide +kernel
theorem d_Rn_readGoneOnWith_36 : decode b_Rn_readGoneOnWith 36 = .ok (.iinc 2 1, 3) := by decide +kernel
theorem d_Rn_readGoneOnWith_39 : decode b_Rn_readGoneOnWith 39 = .ok (.goto (-37), 3) := by decide +kernel
theorem d_Rn_readGoneOnWith_42 : decode b_Rn_readGoneOnWith 42 = .ok (.iconst (-1), 1) := by decide +kernel
theorem d_Rn_readGoneOnWith_43 : decode b_Rn_readGoneOnWith 43 = .ok (.ireturn, 1) := by decide +kernel
noncomputable def f_Rn_readGoneOnWith_2 (op : TBk → TRn → Int32 → TRn) : Nat → TBk → TRn → Int32 → Int32 → (Int32 × TRn)
  | 0, _, u, _, _ => (0, u)
  | n + 1, b, u, x1, x2 => (if 1000000 ≤ x2 then ((-1), u) else (if (TRn_fault u) = 0 then (match f_Rn_lookForMore b u with | (r_3, v_3) => (if r_3 = (-1) then (r_3, v_3) else (match f_Rn_takeIn op b v_3 r_3 x1 with | (r_5, v_5) => (if r_5 = 0 then (r_3, v_5) else (f_Rn_readGoneOnWith_2 op n b v_5 x1 (x2 + 1)))))) else ((-1), u)))
set_option maxHeartbeats 4000000 in
set_option maxRecDepth 100000 in
theorem k_Rn_readGoneOnWith_2 {p : Program} {e : Env} {s : State} {m : MethodId} {args : Array Value} {below : List Frame} {meth : Method} {c : Code} {A : Nat → Prop} (l : Launch) (dC : Nat → ClassId) (dI : Nat → Nat → Nat) (ad : Nat → Nat) (ca : Nat → ClassId) (op : TBk → TRn → Int32 → TRn) (rf rl : Nat) (k : Int) (hopm : ∀ (b : TBk) (u : TRn) (w : Int32), k ≤ oc u → oc u ≤ oc (op b u w)) (hop : ∀ (sz : Nat) (b : TBk) (u : TRn) (w : Int32), BkS b ∧ k ≤ oc u → wx_Mv l y_Rn_open ws_Rn_open ({ frames := rf, cells := 0, slots := 0, locals := rl } : Room) (dC, dI) vwCl (t_R ca) [.ref (ad 0), .int w] (w_R ad ca b u) sz (fun v : TRn => w_R ad ca b v) (fun v : TRn => v = op b u w)) (C0 : wx_C p s m args meth c b_Rn_readGoneOnWith (some .int) 4 R_Rn A (dC, dI) vwCl (t_R ca)) (F : (Int32 × TRn)) : ∀ (n : Nat) (b : TBk) (u : TRn) (x1 : Int32) (x2 : Int32), ((BkS b ∧ k ≤ x1.toInt ∧ x1.toInt ≤ oc u) ∧ TLn 1000000 x2 n) → F = f_Rn_readGoneOnWith_2 op n b u x1 x2 → ∀ (H : Heap) (locs : List Loc), va_P (dC, dI) vwCl (w_R ad ca b u) H → va_D A (w_R ad ca b u) → va_S A s.heap H locs → ∀ (ls : Array Slot), lv_has ls 4 [(0, .ref (ad 0)), (1, .int x1), (2, .int x2)] → W p l e ({ frames := rf + 7, cells := 0, slots := 0, locals := rl + 157 } : Room) s m args below meth c H locs 0 0 (MQ below (va_Qi (fun (r : Int32) (v : TRn) => (r, v) = F) (wx_B (dC, dI) vwCl (t_R ca) (fun v : TRn => w_R ad ca b v) A) A) args s 0 0 A) (F0 m 2 ls []) := by
  have C1 := C0
  obtain ⟨hx, hb, hr, hml, hown, ht, hlocks, hA, hK, hN⟩ := C1
  intro n
  induction n with
  | zero =>
    intro b u x1 x2 hc he
    exact absurd hc (fun h => TLn_0 h.2)
  | succ n ih =>
    intro b u x1 x2 hc he H locs hP hD hS ls hl
    rw [f_Rn_readGoneOnWith_2] at he
    refine lv_iload_n hx hb d_Rn_readGoneOnWith_2 rfl (lv_at hl 2 rfl) ?_
    refine lv_ldc (v := 1000000) hx hb hown (ht _ q_257) d_Rn_readGoneOnWith_3 ?_
    refine lv_icmp_ge (tgt := 42) hx hb d_Rn_readGoneOnWith_5 (by decide) (fun c_1 => ?_) (fun c_1 => ?_)
    · have he := he.trans (if_pos c_1)
      refine lv_iconst (v := (-1)) hx hb d_Rn_readGoneOnWith_42 (by decide) ?_
      exact W.iret hx hb hr (v := (-1)) (fun t ht hW => ⟨⟨(-1), u, rfl, he.symm, by rw [ht]; exact hP, va_K.moved hW.alike hK, hD⟩, hS.F ht⟩) hS.2.2 d_Rn_readGoneOnWith_43
    · have he := he.trans (if_neg c_1)
      refine lv_aload_n hx hb d_Rn_readGoneOnWith_8 rfl (lv_at hl 0 rfl) ?_
      refine va_get (D := (dC, dI)) (ci := 2) (v := .int (TRn_fault u)) (C := R_Rn) (T := T_Rn) (N := 12) hx hb ht i_Rn hown hK hP 0 rfl rfl 11 (by decide) (ht _ q_143) (fun _ h9 => h9) rfl d_Rn_readGoneOnWith_9 ?_
      refine lv_if_ne (tgt := 42) hx hb d_Rn_readGoneOnWith_12 (by decide) (fun c_2 => ?_) (fun c_2 => ?_)
      · have he := he.trans (if_neg c_2)
        refine lv_iconst (v := (-1)) hx hb d_Rn_readGoneOnWith_42 (by decide) ?_
        exact W.iret hx hb hr (v := (-1)) (fun t ht hW => ⟨⟨(-1), u, rfl, he.symm, by rw [ht]; exact hP, va_K.moved hW.alike hK, hD⟩, hS.F ht⟩) hS.2.2 d_Rn_readGoneOnWith_43
      · have he := he.trans (if_pos c_2)
        refine lv_aload_n hx hb d_Rn_readGoneOnWith_15 rfl (lv_at hl 0 rfl) ?_
        refine wx_ci (wS := fun v : TRn => w_R ad ca b v) (ws2 := fun v : TRn => w_R ad ca b v) (va_runV (As := []) (rest := []) ⟨hx, hb, hml, hown, ht⟩ (c_Rn_lookForMore l dC dI ad ca H.size b u hc.1.1 _ rfl) (cwV 0 ht (tb_V q_319 q_321 q_10 q_46 q_322) rfl rfl rfl p_Rn_lookForMore ⟨show 3 + 1 ≤ rf + 7 by omega, show 8 + (2 + 11) + 65 ≤ rl + 157 by omega⟩) (wx_preV (wc := (w_R ad ca b u)) hN hK hP hD [0, 1, 2, 3, 4, 5, 6, 7, 8, 9, 10, 11, 12, 13, 14] [0, 1, 2, 3, 4, 5, 6, 7, 8, 9, 10, 11] rfl (by decide) rfl (ci := 2) (q0 := 0) rfl rfl) rfl rfl hl.1 rfl (lv_room (Nat.le_of_ble_eq_true rfl)) d_Rn_readGoneOnWith_16 ⟨Nat.zero_le _, Nat.zero_le _⟩) hP hD hS hA [0, 1, 2, 3, 4, 5, 6, 7, 8, 9, 10, 11, 12, 13, 14] [] [0, 1, 2, 3, 4, 5, 6, 7, 8, 9, 10, 11, 12, 13, 14] rfl rfl (by decide) (by decide) (by decide) (fun _ => rfl) (fun r_3 v_3 H locs hw_3 hP hD hS => ?_)
        have hP : va_P (dC, dI) vwCl (w_R ad ca b v_3) H := hP
        have hD : va_D A (w_R ad ca b v_3) := hD
        rw [← hw_3] at he
        try dsimp only at he
        refine lv_istore_n (lv' := [(3, .int r_3), (0, .ref (ad 0)), (1, .int x1), (2, .int x2)]) hx hb d_Rn_readGoneOnWith_19 rfl hl (by decide) rfl (fun ls hl => ?_)
        refine lv_iload_n hx hb d_Rn_readGoneOnWith_20 rfl (lv_at hl 0 rfl) ?_
        refine lv_iconst (v := (-1)) hx hb d_Rn_readGoneOnWith_21 (by decide) ?_
        refine lv_icmp_eq (tgt := 34) hx hb d_Rn_readGoneOnWith_22 (by decide) (fun c_4 => ?_) (fun c_4 => ?_)
        · have he := he.trans (if_pos c_4)
          refine lv_iload_n hx hb d_Rn_readGoneOnWith_34 rfl (lv_at hl 0 rfl) ?_
          exact W.iret hx hb hr (v := r_3) (fun t ht hW => ⟨⟨r_3, v_3, rfl, he.symm, by rw [ht]; exact hP, va_K.moved hW.alike hK, hD⟩, hS.F ht⟩) hS.2.2 d_Rn_readGoneOnWith_35
        · have he := he.trans (if_neg c_4)
          refine lv_aload_n hx hb d_Rn_readGoneOnWith_25 rfl (lv_at hl 1 rfl) ?_
          refine lv_iload_n hx hb d_Rn_readGoneOnWith_26 rfl (lv_at hl 0 rfl) ?_
          refine lv_iload_n hx hb d_Rn_readGoneOnWith_27 rfl (lv_at hl 2 rfl) ?_
          refine wx_ci (wS := fun v : TRn => w_R ad ca b v) (ws2 := fun v : TRn => w_R ad ca b v) (va_runV (As := [.int r_3, .int x1]) (rest := []) ⟨hx, hb, hml, hown, ht⟩ (c_Rn_takeIn l dC dI ad ca op rf rl k hopm hop H.size b v_3 r_3 x1 ⟨hc.1.1, by have h := oc_lk hw_3; have h2 := hc.1.2.1; have h3 := hc.1.2.2; omega⟩ _ rfl) (cwV 2 ht (tb_V q_279 q_281 q_4 q_46 q_282) rfl rfl rfl p_Rn_takeIn ⟨show (rf + 6) + 1 ≤ rf + 7 by omega, show 8 + (4 + 11) + (rl + 134) ≤ rl + 157 by omega⟩) (wx_preV (wc := (w_R ad ca b v_3)) hN hK hP hD [0, 1, 2, 3, 4, 5, 6, 7, 8, 9, 10, 11, 12, 13, 14] [0, 1, 2, 3, 4, 5, 6, 7, 8, 9, 10, 11] rfl (by decide) rfl (ci := 2) (q0 := 0) rfl rfl) rfl rfl hl.1 rfl (lv_room (Nat.le_of_ble_eq_true rfl)) d_Rn_readGoneOnWith_28 ⟨Nat.zero_le _, Nat.zero_le _⟩) hP hD hS hA [0, 1, 2, 3, 4, 5, 6, 7, 8, 9, 10, 11, 12, 13, 14] [] [0, 1, 2, 3, 4, 5, 6, 7, 8, 9, 10, 11, 12, 13, 14] rfl rfl (by decide) (by decide) (by decide) (fun _ => rfl) (fun r_5 v_5 H locs hw_5 hP hD hS => ?_)
          have hP : va_P (dC, dI) vwCl (w_R ad ca b v_5) H := hP
          have hD : va_D A (w_R ad ca b v_5) := hD
          rw [← hw_5] at he
          try dsimp only at he
          refine lv_if_ne (tgt := 36) hx hb d_Rn_readGoneOnWith_31 (by decide) (fun c_6 => ?_) (fun c_6 => ?_)
          · have he := he.trans (if_neg c_6)
            refine lv_iinc (v := (x2 + 1)) (lv' := [(2, .int (x2 + 1)), (3, .int r_3), (0, .ref (ad 0)), (1, .int x1)]) hx hb d_Rn_readGoneOnWith_36 hl (k := 3) rfl rfl (by decide) rfl (fun ls hl => ?_)
            refine lv_goto (tgt := 2) hx hb d_Rn_readGoneOnWith_39 (by decide) ?_
            exact ih b v_5 x1 (x2 + 1) ⟨⟨hc.1.1, hc.1.2.1, oc_take op k hopm hw_5 hc.1.2.1 (by have h := oc_lk hw_3; have h2 := hc.1.2.2; omega)⟩, TLn_s hc.2 (by decide) c_1⟩ he _ _ hP hD hS _ (lv_sub hl [2, 3, 0] rfl)
          · have he := he.trans (if_pos c_6)
            refine lv_iload_n hx hb d_Rn_readGoneOnWith_34 rfl (lv_at hl 0 rfl) ?_
            exact W.iret hx hb hr (v := r_3) (fun t ht hW => ⟨⟨r_3, v_5, rfl, he.symm, by rw [ht]; exact hP, va_K.moved hW.alike hK, hD⟩, hS.F ht⟩) hS.2.2 d_Rn_readGoneOnWith_35
noncomputable def f_Rn_readGoneOnWith (op : TBk → TRn → Int32 → TRn) (b : TBk) (u : TRn) (p0 : Int32) : (Int32 × TRn) := (f_Rn_readGoneOnWith_2 op TM b u p0 0)
set_option maxHeartbeats 4000000 in
set_option maxRecDepth 100000 in
theorem c_Rn_readGoneOnWith (l : Launch) (dC : Nat → ClassId) (dI : Nat → Nat → Nat) (ad : Nat → Nat) (ca : Nat → ClassId) (op : TBk → TRn → Int32 → TRn) (rf rl : Nat) (k : Int) (hopm : ∀ (b : TBk) (u : TRn) (w : Int32), k ≤ oc u → oc u ≤ oc (op b u w)) (hop : ∀ (sz : Nat) (b : TBk) (u : TRn) (w : Int32), BkS b ∧ k ≤ oc u → wx_Mv l y_Rn_open ws_Rn_open ({ frames := rf, cells := 0, slots := 0, locals := rl } : Room) (dC, dI) vwCl (t_R ca) [.ref (ad 0), .int w] (w_R ad ca b u) sz (fun v : TRn => w_R ad ca b v) (fun v : TRn => v = op b u w)) (sz : Nat) (b : TBk) (u : TRn) (p0 : Int32) (hpre : BkS b ∧ k ≤ p0.toInt ∧ p0.toInt ≤ oc u) (F : (Int32 × TRn)) (he : F = f_Rn_readGoneOnWith op b u p0) : wx_Mi l y_Rn_readGoneOnWith ws_Rn_readGoneOnWith ({ frames := rf + 7, cells := 0, slots := 0, locals := rl + 157 } : Room) (dC, dI) vwCl (t_R ca) [.ref (ad 0), .int p0] (w_R ad ca b u) sz (fun v : TRn => w_R ad ca b v) (fun (r : Int32) (v : TRn) => (r, v) = F) := by
  refine Met.ofW (cc := b_Rn_readGoneOnWith) (maxL := 4) (ret := some .int) (by decide) rfl ?_
  intro p e s m args below meth c s₁ B hml hv
  obtain ⟨rfl, hsz, hP, hK, hD0, hN⟩ := hv
  have hx := B.exec
  have hb := B.bytes
  have hr := B.returns
  have hts := atoms_spec (ws := ws_Rn_readGoneOnWith) B.pre
  have ht : ∀ w ∈ TB, w.before _ s = true := fun w h => hts w (List.mem_cons_of_mem _ h)
  have hown : s.vm.findClass R_Rn = some m.cls := findClass_of_methodNamed B.named
  have hlocks := B.notSynchronized
  subst hsz
  have hD := hD0.self (sz := s.heap.size)
  generalize hAe : va_A (w_R ad ca b u) s.heap.size = A at hD ⊢
  have hA : ∀ q : Nat, s.heap.size ≤ q → A q := fun q h => by rw [← hAe]; exact Or.inr h
  have hS : va_S A s.heap s.heap [] := va_S.rf
  have C0 : wx_C p s m ([.ref (ad 0), .int p0] : List Value).toArray meth c b_Rn_readGoneOnWith (some .int) 4 R_Rn A (dC, dI) vwCl (t_R ca) := ⟨hx, hb, hr, hml, hown, ht, hlocks, hA, hK, hN⟩
  have hl := lv_entry ([.ref (ad 0), .int p0]) (n := 4) (Nat.le_of_ble_eq_true rfl)
  rw [lg_entry_eq]
  generalize (lg_sl ([.ref (ad 0), .int p0]) ++ List.replicate (4 - (lg_sl ([.ref (ad 0), .int p0])).length) Slot.unset).toArray = ls at hl ⊢
  have hl : lv_has ls 4 [(0, .ref (ad 0)), (1, .int p0)] := hl
  unfold f_Rn_readGoneOnWith at he
  refine lv_iconst (v := 0) hx hb d_Rn_readGoneOnWith_0 (by decide) ?_
  refine lv_istore_n (lv' := [(2, .int 0), (0, .ref (ad 0)), (1, .int p0)]) hx hb d_Rn_readGoneOnWith_1 rfl hl (by decide) rfl (fun ls hl => ?_)
  exact k_Rn_readGoneOnWith_2 l dC dI ad ca op rf rl k hopm hop C0 F TM b u p0 0 ⟨hpre, TLn_m⟩ he _ _ hP hD hS _ (lv_sub hl [1, 2, 0] rfl)
end
section
theorem oc_rg2 (op : TBk → TRn → Int32 → TRn) (k : Int) (hopm : ∀ (b : TBk) (u : TRn) (w : Int32), k ≤ oc u → oc u ≤ oc (op b u w)) (n : Nat) : ∀ (b : TBk) (u : TRn) (x1 x2 : Int32), k ≤ x1.toInt → x1.toInt ≤ oc u → x1.toInt ≤ oc (f_Rn_readGoneOnWith_2 op n b u x1 x2).2 := by
  induction n with
  | zero =>
    intro b u x1 x2 h1 h2
    rw [f_Rn_readGoneOnWith_2]
    exact h2
  | succ n ih =>
    intro b u x1 x2 h1 h2
    rw [f_Rn_readGoneOnWith_2]
    rcases hl : f_Rn_lookForMore b u with ⟨r, v⟩
    have h3 : x1.toInt ≤ oc v := by
      have := oc_lk hl.symm
      omega
    dsimp only
    rcases ht : f_Rn_takeIn op b v r x1 with ⟨r2, w⟩
    have h4 : x1.toInt ≤ oc w := oc_take op k hopm ht.symm h1 h3
    dsimp only
    repeat' split
    all_goals first
      | exact h2
      | exact h3
      | exact h4
      | exact ih _ _ _ _ h1 h4
theorem oc_rg (op : TBk → TRn → Int32 → TRn) (k : Int) (hopm : ∀ (b : TBk) (u : TRn) (w : Int32), k ≤ oc u → oc u ≤ oc (op b u w)) {b : TBk} {u v : TRn} {base r : Int32} (h : (r, v) = f_Rn_readGoneOnWith op b u base) (hk : k ≤ base.toInt) (hb : base.toInt ≤ oc u) : base.toInt ≤ oc v := by
  have h1 := oc_rg2 op k hopm TM b u base 0 hk hb
  unfold f_Rn_readGoneOnWith at h
  rw [← h] at h1
  exact h1
end
section
theorem q_9 : Cond.selects R_Rn y_Rn_readGoneOnWith y_Rn_readGoneOnWith ∈ TB := tq 9 (by decide +kernel) rfl
theorem q_315 : Cond.methodLink R_Rn 183 y_Rn_readGoneOnWith ∈ TB := tq 315 (by decide +kernel) rfl
theorem q_317 : Cond.instanceMethod y_Rn_readGoneOnWith ∈ TB := tq 317 (by decide +kernel) rfl
theorem q_318 : Cond.code y_Rn_readGoneOnWith b_Rn_readGoneOnWith 4 (some .int) ∈ TB := tq 318 (by decide +kernel) rfl
theorem q_359 : Cond.static y_Ct_isDigit ∈ TB := tq 359 (by decide +kernel) rfl
theorem q_360 : Cond.code y_Ct_isDigit b_Ct_isDigit 1 (some .boolean) ∈ TB := tq 360 (by decide +kernel) rfl
theorem q_366 : Cond.static y_Ct_isBlank ∈ TB := tq 366 (by decide +kernel) rfl
theorem q_367 : Cond.code y_Ct_isBlank b_Ct_isBlank 1 (some .boolean) ∈ TB := tq 367 (by decide +kernel) rfl
theorem q_368 : Cond.methodLink R_Rn 195 y_Rd_keep ∈ TB := tq 368 (by decide +kernel) rfl
theorem q_369 : Cond.instanceMethod y_Rd_keep ∈ TB := tq 369 (by decide +kernel) rfl
theorem q_370 : Cond.selects R_Rd y_Rd_keep y_Rd_keep ∈ TB := tq 370 (by decide +kernel) rfl
theorem q_371 : Cond.code y_Rd_keep b_Rd_keep 2 (none : Option Jvm.ClassFile.FieldType) ∈ TB := tq 371 (by decide +kernel) rfl
theorem d_Rn_readSign_0 : decode b_Rn_readSign 0 = .ok (.aload_n 0, 1) := by decide +kernel
theorem d_Rn_readSign_1 : decode b_Rn_readSign 1 = .ok (.iload_n 1, 1) := by decide +kernel
theorem d_Rn_readSign_2 : decode b_Rn_readSign 2 = .ok (.invokevirtual 183, 3) := by decide +kernel
theorem d_Rn_readSign_5 : decode b_Rn_readSign 5 = .ok (.istore_n 2, 1) := by decide +kernel
theorem d_Rn_readSign_6 : decode b_Rn_readSign 6 = .ok (.aload_n 0, 1) := by decide +kernel
theorem d_Rn_readSign_7 : decode b_Rn_readSign 7 = .ok (.getfield 45, 3) := by decide +kernel
theorem d_Rn_readSign_10 : decode b_Rn_readSign 10 = .ok (.ifCond .ne 23, 3) := by decide +kernel
theorem d_Rn_readSign_13 : decode b_Rn_readSign 13 = .ok (.aload_n 0, 1) := by decide +kernel
theorem d_Rn_readSign_14 : decode b_Rn_readSign 14 = .ok (.getfield 25, 3) := by decide +kernel
theorem d_Rn_readSign_17 : decode b_Rn_readSign 17 = .ok (.iload_n 2, 1) := by decide +kernel
theorem d_Rn_readSign_18 : decode b_Rn_readSign 18 = .ok (.invokevirtual 88, 3) := by decide +kernel
theorem d_Rn_readSign_21 : decode b_Rn_readSign 21 = .ok (.invokestatic 94, 3) := by decide +kernel
theorem d_Rn_readSign_24 : decode b_Rn_readSign 24 = .ok (.ifCond .eq 9, 3) := by decide +kernel
theorem d_Rn_readSign_27 : decode b_Rn_readSign 27 = .ok (.aload_n 0, 1) := by decide +kernel
theorem d_Rn_readSign_28 : decode b_Rn_readSign 28 = .ok (.bipush 6, 2) := by decide +kernel
theorem d_Rn_readSign_30 : decode b_Rn_readSign 30 = .ok (.invokevirtual 60, 3) := by decide +kernel
theorem d_Rn_readSign_33 : decode b_Rn_readSign 33 = .ok (.iload_n 2, 1) := by decide +kernel
theorem d_Rn_readSign_34 : decode b_Rn_readSign 34 = .ok (.ireturn, 1) := by decide +kernel
theorem d_Rn_readDigits_0 : decode b_Rn_readDigits 0 = .ok (.iconst 0, 1) := by decide +kernel
theorem d_Rn_readDigits_1 : decode b_Rn_readDigits 1 = .ok (.istore_n 3, 1) := by decide +kernel
theorem d_Rn_readDigits_2 : decode b_Rn_readDigits 2 = .ok (.iload_n 1, 1) := by decide +kernel
theorem d_Rn_readDigits_3 : decode b_Rn_readDigits 3 = .ok (.istore 4, 2) := by decide +kernel
theorem d_Rn_readDigits_5 : decode b_Rn_readDigits 5 = .ok (.iconst 0, 1) := by decide +kernel
theorem d_Rn_readDigits_6 : decode b_Rn_readDigits 6 = .ok (.istore 5, 2) := by decide +kernel
theorem d_Rn_readDigits_8 : decode b_Rn_readDigits 8 = .ok (.iload 5, 2) := by decide +kernel
theorem d_Rn_readDigits_10 : decode b_Rn_readDigits 10 = .ok (.bipush 9, 2) := by decide +kernel
theorem d_Rn_readDigits_12 : decode b_Rn_readDigits 12 = .ok (.if_icmp .ge 64, 3) := by decide +kernel
theorem d_Rn_readDigits_15 : decode b_Rn_readDigits 15 = .ok (.iload_n 3, 1) := by decide +kernel
theorem d_Rn_readDigits_16 : decode b_Rn_readDigits 16 = .ok (.bipush 10, 2) := by decide +kernel
theorem d_Rn_readDigits_18 : decode b_Rn_readDigits 18 = .ok (.imul, 1) := by decide +kernel
theorem d_Rn_readDigits_19 : decode b_Rn_readDigits 19 = .ok (.iload 4, 2) := by decide +kernel
theorem d_Rn_readDigits_21 : decode b_Rn_readDigits 21 = .ok (.sipush 3120, 3) := by decide +kernel
theorem d_Rn_readDigits_24 : decode b_Rn_readDigits 24 = .ok (.isub, 1) := by decide +kernel
theorem d_Rn_readDigits_25 : decode b_Rn_readDigits 25 = .ok (.iadd, 1) := by decide +kernel
theorem d_Rn_readDigits_26 : decode b_Rn_readDigits 26 = .ok (.istore_n 3, 1) := by decide +kernel
theorem d_Rn_readDigits_27 : decode b_Rn_readDigits 27 = .ok (.aload_n 0, 1) := by decide +kernel
theorem d_Rn_readDigits_28 : decode b_Rn_readDigits 28 = .ok (.iload_n 2, 1) := by decide +kernel
theorem d_Rn_readDigits_29 : decode b_Rn_readDigits 29 = .ok (.invokevirtual 183, 3) := by decide +kernel
theorem d_Rn_readDigits_32 : decode b_Rn_readDigits 32 = .ok (.istore 4, 2) := by decide +kernel
theorem d_Rn_readDigits_34 : decode b_Rn_readDigits 34 = .ok (.aload_n 0, 1) := by decide +kernel
theorem d_Rn_readDigits_35 : decode b_Rn_readDigits 35 = .ok (.getfield 45, 3) := by decide +kernel
theorem d_Rn_readDigits_38 : decode b_Rn_readDigits 38 = .ok (.ifCond .eq 5, 3) := by decide +kernel
theorem d_Rn_readDigits_41 : decode b_Rn_readDigits 41 = .ok (.iconst 0, 1) := by decide +kernel
theorem d_Rn_readDigits_42 : decode b_Rn_readDigits 42 = .ok (.ireturn, 1) := by decide +kernel
theorem d_Rn_readDigits_43 : decode b_Rn_readDigits 43 = .ok (.iload 4, 2) := by decide +kernel
theorem d_Rn_readDigits_45 : decode b_Rn_readDigits 45 = .ok (.invokestatic 186, 3) := by decide +kernel
theorem d_Rn_readDigits_48 : decode b_Rn_readDigits 48 = .ok (.ifCond .ne 22, 3) := by decide +kernel
theorem d_Rn_readDigits_51 : decode b_Rn_readDigits 51 = .ok (.iload 4, 2) := by decide +kernel
theorem d_Rn_readDigits_53 : decode b_Rn_readDigits 53 = .ok (.invokestatic 192, 3) := by decide +kernel
theorem d_Rn_readDigits_56 : decode b_Rn_readDigits 56 = .ok (.ifCond .ne 12, 3) := by decide +kernel
theorem d_Rn_readDigits_59 : decode b_Rn_readDigits 59 = .ok (.aload_n 0, 1) := by decide +kernel
theorem d_Rn_readDigits_60 : decode b_Rn_readDigits 60 = .ok (.getfield 34, 3) := by decide +kernel
theorem d_Rn_readDigits_63 : decode b_Rn_readDigits 63 = .ok (.iload 4, 2) := by decide +kernel
theorem d_Rn_readDigits_65 : decode b_Rn_readDigits 65 = .ok (.invokevirtual 195, 3) := by decide +kernel
theorem d_Rn_readDigits_68 : decode b_Rn_readDigits 68 = .ok (.iload_n 3, 1) := by decide +kernel
theorem d_Rn_readDigits_69 : decode b_Rn_readDigits 69 = .ok (.ireturn, 1) := by decide +kernel
theorem d_Rn_readDigits_70 : decode b_Rn_readDigits 70 = .ok (.iinc 5 1, 3) := by decide +kernel
theorem d_Rn_readDigits_73 : decode b_Rn_readDigits 73 = .ok (.goto (-65), 3) := by decide +kernel
theorem d_Rn_readDigits_76 : decode b_Rn_readDigits 76 = .ok (.aload_n 0, 1) := by decide +kernel
theorem d_Rn_readDigits_77 : decode b_Rn_readDigits 77 = .ok (.bipush 8, 2) := by decide +kernel
theorem d_Rn_readDigits_79 : decode b_Rn_readDigits 79 = .ok (.invokevirtual 60, 3) := by decide +kernel
theorem d_Rn_readDigits_82 : decode b_Rn_readDigits 82 = .ok (.iconst 0, 1) := by decide +kernel
theorem d_Rn_readDigits_83 : decode b_Rn_readDigits 83 = .ok (.ireturn, 1) := by decide +kernel
noncomputable def f_Rn_readSign (op : TBk → TRn → Int32 → TRn) (b : TBk) (u : TRn) (p0 : Int32) : (Int32 × TRn) := (match f_Rn_readGoneOnWith op b u p0 with | (r_1, v_1) => (if (TRn_fault v_1) = 0 then (if (f_Ct_isMark (f_Bk_kindOf b r_1)) = 0 then (r_1, v_1) else (let v_6 := f_Rn_fail b v_1 6; (r_1, v_6))) else (r_1, v_1)))
set_option maxHeartbeats 4000000 in
set_option maxRecDepth 100000 in
theorem c_Rn_readSign (l : Launch) (dC : Nat → ClassId) (dI : Nat → Nat → Nat) (ad : Nat → Nat) (ca : Nat → ClassId) (op : TBk → TRn → Int32 → TRn) (rf rl : Nat) (k : Int) (hopm : ∀ (b : TBk) (u : TRn) (w : Int32), k ≤ oc u → oc u ≤ oc (op b u w)) (hop : ∀ (sz : Nat) (b : TBk) (u : TRn) (w : Int32), BkS b ∧ k ≤ oc u → wx_Mv l y_Rn_open ws_Rn_open ({ frames := rf, cells := 0, slots := 0, locals := rl } : Room) (dC, dI) vwCl (t_R ca) [.ref (ad 0), .int w] (w_R ad ca b u) sz (fun v : TRn => w_R ad ca b v) (fun v : TRn => v = op b u w)) (sz : Nat) (b : TBk) (u : TRn) (p0 : Int32) (hpre : BkS b ∧ k ≤ p0.toInt ∧ p0.toInt ≤ oc u) (F : (Int32 × TRn)) (he : F = f_Rn_readSign op b u p0) : wx_Mi l y_Rn_readSign ws_Rn_readSign ({ frames := rf + 8, cells := 0, slots := 0, locals := rl + 180 } : Room) (dC, dI) vwCl (t_R ca) [.ref (ad 0), .int p0] (w_R ad ca b u) sz (fun v : TRn => w_R ad ca b v) (fun (r : Int32) (v : TRn) => (r, v) = F) := by
  refine Met.ofW (cc := b_Rn_readSign) (maxL := 3) (ret := some .int) (by decide) rfl ?_
  intro p e s m args below meth c s₁ B hml hv
  obtain ⟨rfl, hsz, hP, hK, hD0, hN⟩ := hv
  have hx := B.exec
  have hb := B.bytes
  have hr := B.returns
  have hts := atoms_spec (ws := ws_Rn_readSign) B.pre
  have ht : ∀ w ∈ TB, w.before _ s = true := fun w h => hts w (List.mem_cons_of_mem _ h)
  have hown : s.vm.findClass R_Rn = some m.cls := findClass_of_methodNamed B.named
  have hlocks := B.notSynchronized
  subst hsz
  have hD := hD0.self (sz := s.heap.size)
  generalize hAe : va_A (w_R ad ca b u) s.heap.size = A at hD ⊢
  have hA : ∀ q : Nat, s.heap.size ≤ q → A q := fun q h => by rw [← hAe]; exact Or.inr h
  have hS : va_S A s.heap s.heap [] := va_S.rf
  have hl := lv_entry ([.ref (ad 0), .int p0]) (n := 3) (Nat.le_of_ble_eq_true rfl)
  rw [lg_entry_eq]
  generalize (lg_sl ([.ref (ad 0), .int p0]) ++ List.replicate (3 - (lg_sl ([.ref (ad 0), .int p0])).length) Slot.unset).toArray = ls at hl ⊢
  have hl : lv_has ls 3 [(0, .ref (ad 0)), (1, .int p0)] := hl
  unfold f_Rn_readSign at he
  refine lv_aload_n hx hb d_Rn_readSign_0 rfl (lv_at hl 0 rfl) ?_
  refine lv_iload_n hx hb d_Rn_readSign_1 rfl (lv_at hl 1 rfl) ?_
  refine wx_ci (wS := fun v : TRn => w_R ad ca b v) (ws2 := fun v : TRn => w_R ad ca b v) (va_runV (As := [.int p0]) (rest := []) ⟨hx, hb, hml, hown, ht⟩ (c_Rn_readGoneOnWith l dC dI ad ca op rf rl k hopm hop s.heap.size b u p0 hpre _ rfl) (cwV 1 ht (tb_V q_315 q_317 q_9 q_46 q_318) rfl rfl rfl p_Rn_readGoneOnWith ⟨show (rf + 7) + 1 ≤ rf + 8 by omega, show 8 + (4 + 11) + (rl + 157) ≤ rl + 180 by omega⟩) (wx_preV (wc := (w_R ad ca b u)) hN hK hP hD [0, 1, 2, 3, 4, 5, 6, 7, 8, 9, 10, 11, 12, 13, 14] [0, 1, 2, 3, 4, 5, 6, 7, 8, 9, 10, 11] rfl (by decide) rfl (ci := 2) (q0 := 0) rfl rfl) rfl rfl hl.1 rfl (lv_room (Nat.le_of_ble_eq_true rfl)) d_Rn_readSign_2 ⟨Nat.zero_le _, Nat.zero_le _⟩) hP hD hS hA [0, 1, 2, 3, 4, 5, 6, 7, 8, 9, 10, 11, 12, 13, 14] [] [0, 1, 2, 3, 4, 5, 6, 7, 8, 9, 10, 11, 12, 13, 14] rfl rfl (by decide) (by decide) (by decide) (fun _ => rfl) (fun r_1 v_1 H locs hw_1 hP hD hS => ?_)
  have hP : va_P (dC, dI) vwCl (w_R ad ca b v_1) H := hP
  have hD : va_D A (w_R ad ca b v_1) := hD
  rw [← hw_1] at he
  try dsimp only at he
  refine lv_istore_n (lv' := [(2, .int r_1), (0, .ref (ad 0)), (1, .int p0)]) hx hb d_Rn_readSign_5 rfl hl (by decide) rfl (fun ls hl => ?_)
  refine lv_aload_n hx hb d_Rn_readSign_6 rfl (lv_at hl 1 rfl) ?_
  refine va_get (D := (dC, dI)) (ci := 2) (v := .int (TRn_fault v_1)) (C := R_Rn) (T := T_Rn) (N := 12) hx hb ht i_Rn hown hK hP 0 rfl rfl 11 (by decide) (ht _ q_143) (fun _ h9 => h9) rfl d_Rn_readSign_7 ?_
  refine lv_if_ne (tgt := 33) hx hb d_Rn_readSign_10 (by decide) (fun c_2 => ?_) (fun c_2 => ?_)
  · have he := he.trans (if_neg c_2)
    refine lv_iload_n hx hb d_Rn_readSign_33 rfl (lv_at hl 0 rfl) ?_
    exact W.iret hx hb hr (v := r_1) (fun t ht hW => ⟨⟨r_1, v_1, rfl, he.symm, by rw [ht]; exact hP, va_K.moved hW.alike hK, hD⟩, hS.F ht⟩) hS.2.2 d_Rn_readSign_34
  · have he := he.trans (if_pos c_2)
    refine lv_aload_n hx hb d_Rn_readSign_13 rfl (lv_at hl 1 rfl) ?_
    refine va_get (D := (dC, dI)) (ci := 2) (v := .ref (ad 8)) (C := R_Rn) (T := T_Rn) (N := 12) hx hb ht i_Rn hown hK hP 0 rfl rfl 0 (by decide) (ht _ q_132) (fun _ h9 => h9) rfl d_Rn_readSign_14 ?_
    refine lv_iload_n hx hb d_Rn_readSign_17 rfl (lv_at hl 0 rfl) ?_
    refine wx_ci (wS := fun _ : Unit => w_B ad ca b) (ws2 := fun _ : Unit => w_R ad ca b v_1) (va_runV (As := [.int r_1]) (rest := []) ⟨hx, hb, hml, hown, ht⟩ (c_Bk_kindOf l dC dI ad ca H.size b r_1 _ rfl) (cwV 1 ht (tb_V q_283 q_284 q_285 q_45 q_286) rfl rfl rfl p_Bk_kindOf ⟨show 1 + 1 ≤ rf + 8 by omega, show 8 + (2 + 11) + 20 ≤ rl + 180 by omega⟩) (wx_preV (wc := (w_B ad ca b)) hN hK hP hD [8, 9, 10, 11, 12, 13, 14] [6, 7, 8, 9, 10, 11] rfl (by decide) rfl (ci := 0) (q0 := 0) rfl rfl) rfl rfl hl.1 rfl (lv_room (Nat.le_of_ble_eq_true rfl)) d_Rn_readSign_18 ⟨Nat.zero_le _, Nat.zero_le _⟩) hP hD hS hA [8, 9, 10, 11, 12, 13, 14] [0, 1, 2, 3, 4, 5, 6, 7] [0, 1, 2, 3, 4, 5, 6, 7, 8, 9, 10, 11, 12, 13, 14] rfl rfl (by decide) (by decide) (by decide) (fun _ => rfl) (fun r_3 _ H locs hw_3 hP hD hS => ?_)
    subst hw_3
    have hP : va_P (dC, dI) vwCl (w_R ad ca b v_1) H := hP
    have hD : va_D A (w_R ad ca b v_1) := hD
    refine wx_ci (wS := fun _ : Unit => w_E ad ca) (ws2 := fun _ : Unit => w_R ad ca b v_1) (va_runSN (As := [.int (f_Bk_kindOf b r_1)]) (rest := []) ⟨hx, hb, hml, hown, ht⟩ (c_Ct_isMark l dC dI ad ca H.size (f_Bk_kindOf b r_1) _ rfl) ⟨va_cnB 1 ht (tb_in q_325) rfl rfl rfl (hN _ nest_2) (ht _ q_44) p_Ct_isMark.2 ⟨show 0 + 1 ≤ rf + 8 by omega, show 8 + (1 + 11) + 0 ≤ rl + 180 by omega⟩, ht _ q_324, trivial⟩ (wx_preS (wc := (w_E ad ca)) hN hK hP hD [] [] rfl (by decide) rfl) rfl rfl hl.1 rfl (lv_room (Nat.le_of_ble_eq_true rfl)) d_Rn_readSign_21 ⟨Nat.zero_le _, Nat.zero_le _⟩) hP hD hS hA [] [0, 1, 2, 3, 4, 5, 6, 7, 8, 9, 10, 11, 12, 13, 14] [0, 1, 2, 3, 4, 5, 6, 7, 8, 9, 10, 11, 12, 13, 14] rfl rfl (by decide) (by decide) (by decide) (fun _ => rfl) (fun r_4 _ H locs hw_4 hP hD hS => ?_)
    subst hw_4
    have hP : va_P (dC, dI) vwCl (w_R ad ca b v_1) H := hP
    have hD : va_D A (w_R ad ca b v_1) := hD
    refine lv_if_eq (tgt := 33) hx hb d_Rn_readSign_24 (by decide) (fun c_5 => ?_) (fun c_5 => ?_)
    · have he := he.trans (if_pos c_5)
      refine lv_iload_n hx hb d_Rn_readSign_33 rfl (lv_at hl 0 rfl) ?_
      exact W.iret hx hb hr (v := r_1) (fun t ht hW => ⟨⟨r_1, v_1, rfl, he.symm, by rw [ht]; exact hP, va_K.moved hW.alike hK, hD⟩, hS.F ht⟩) hS.2.2 d_Rn_readSign_34
    · have he := he.trans (if_neg c_5)
      refine lv_aload_n hx hb d_Rn_readSign_27 rfl (lv_at hl 1 rfl) ?_
      refine lv_bipush (v := 6) hx hb d_Rn_readSign_28 (by decide) ?_
      refine wx_cv (wS := fun v : TRn => w_R ad ca b v) (ws2 := fun v : TRn => w_R ad ca b v) (va_runV (As := [.int 6]) (rest := []) ⟨hx, hb, hml, hown, ht⟩ (c_Rn_fail l dC dI ad ca H.size b v_1 6 _ rfl) (cwV 1 ht (tb_V q_275 q_277 q_3 q_46 q_278) rfl rfl rfl p_Rn_fail ⟨show 0 + 1 ≤ rf + 8 by omega, show 8 + (2 + 11) + 0 ≤ rl + 180 by omega⟩) (wx_preV (wc := (w_R ad ca b v_1)) hN hK hP hD [0, 1, 2, 3, 4, 5, 6, 7, 8, 9, 10, 11, 12, 13, 14] [0, 1, 2, 3, 4, 5, 6, 7, 8, 9, 10, 11] rfl (by decide) rfl (ci := 2) (q0 := 0) rfl rfl) rfl rfl hl.1 rfl (lv_room (Nat.le_of_ble_eq_true rfl)) d_Rn_readSign_30 ⟨Nat.zero_le _, Nat.zero_le _⟩) hP hD hS hA [0, 1, 2, 3, 4, 5, 6, 7, 8, 9, 10, 11, 12, 13, 14] [] [0, 1, 2, 3, 4, 5, 6, 7, 8, 9, 10, 11, 12, 13, 14] rfl rfl (by decide) (by decide) (by decide) (fun _ => rfl) (fun v_6 H locs hw_6 hP hD hS => ?_)
      have hP : va_P (dC, dI) vwCl (w_R ad ca b v_6) H := hP
      have hD : va_D A (w_R ad ca b v_6) := hD
      rw [← hw_6] at he
      try dsimp only at he
      refine lv_iload_n hx hb d_Rn_readSign_33 rfl (lv_at hl 0 rfl) ?_
      exact W.iret hx hb hr (v := r_1) (fun t ht hW => ⟨⟨r_1, v_6, rfl, he.symm, by rw [ht]; exact hP, va_K.moved hW.alike hK, hD⟩, hS.F ht⟩) hS.2.2 d_Rn_readSign_34
noncomputable def f_Rn_readDigits_8 (op : TBk → TRn → Int32 → TRn) : Nat → TBk → TRn → Int32 → Int32 → Int32 → Int32 → (Int32 × TRn)
  | 0, _, u, _, _, _, _ => (0, u)
  | n + 1, b, u, x2, x3, x4, x5 => (if 9 ≤ x5 then (let v_2 := f_Rn_fail b u 8; (0, v_2)) else (match f_Rn_readGoneOnWith op b u x2 with | (r_3, v_3) => (if (TRn_fault v_3) = 0 then (if (f_Ct_isDigit r_3) = 0 then (if (f_Ct_isBlank r_3) = 0 then (let v_9 := f_Rd_keep b (TRn_rd v_3) r_3; (((x3 * 10) + (x4 - 3120)), (TRn_set_rd v_3 v_9))) else (((x3 * 10) + (x4 - 3120)), v_3)) else (f_Rn_readDigits_8 op n b v_3 x2 ((x3 * 10) + (x4 - 3120)) r_3 (x5 + 1))) else (0, v_3))))
set_option maxHeartbeats 4000000 in
set_option maxRecDepth 100000 in
theorem k_Rn_readDigits_8 {p : Program} {e : Env} {s : State} {m : MethodId} {args : Array Value} {below : List Frame} {meth : Method} {c : Code} {A : Nat → Prop} (l : Launch) (dC : Nat → ClassId) (dI : Nat → Nat → Nat) (ad : Nat → Nat) (ca : Nat → ClassId) (op : TBk → TRn → Int32 → TRn) (rf rl : Nat) (k : Int) (hopm : ∀ (b : TBk) (u : TRn) (w : Int32), k ≤ oc u → oc u ≤ oc (op b u w)) (hop : ∀ (sz : Nat) (b : TBk) (u : TRn) (w : Int32), BkS b ∧ k ≤ oc u → wx_Mv l y_Rn_open ws_Rn_open ({ frames := rf, cells := 0, slots := 0, locals := rl } : Room) (dC, dI) vwCl (t_R ca) [.ref (ad 0), .int w] (w_R ad ca b u) sz (fun v : TRn => w_R ad ca b v) (fun v : TRn => v = op b u w)) (C0 : wx_C p s m args meth c b_Rn_readDigits (some .int) 6 R_Rn A (dC, dI) vwCl (t_R ca)) (F : (Int32 × TRn)) : ∀ (n : Nat) (b : TBk) (u : TRn) (x2 : Int32) (x3 : Int32) (x4 : Int32) (x5 : Int32), ((BkS b ∧ k ≤ x2.toInt ∧ x2.toInt ≤ oc u) ∧ TLn 9 x5 n) → F = f_Rn_readDigits_8 op n b u x2 x3 x4 x5 → ∀ (H : Heap) (locs : List Loc), va_P (dC, dI) vwCl (w_R ad ca b u) H → va_D A (w_R ad ca b u) → va_S A s.heap H locs → ∀ (ls : Array Slot), lv_has ls 6 [(0, .ref (ad 0)), (2, .int x2), (3, .int x3), (4, .int x4), (5, .int x5)] → W p l e ({ frames := rf + 8, cells := 0, slots := 0, locals := rl + 180 } : Room) s m args below meth c H locs 0 0 (MQ below (va_Qi (fun (r : Int32) (v : TRn) => (r, v) = F) (wx_B (dC, dI) vwCl (t_R ca) (fun v : TRn => w_R ad ca b v) A) A) args s 0 0 A) (F0 m 8 ls []) := by
  have C1 := C0
  obtain ⟨hx, hb, hr, hml, hown, ht, hlocks, hA, hK, hN⟩ := C1
  intro n
  induction n with
  | zero =>
    intro b u x2 x3 x4 x5 hc he
    exact absurd hc (fun h => TLn_0 h.2)
  | succ n ih =>
    intro b u x2 x3 x4 x5 hc he H locs hP hD hS ls hl
    rw [f_Rn_readDigits_8] at he
    refine lv_iload hx hb d_Rn_readDigits_8 (lv_at hl 4 rfl) ?_
    refine lv_bipush (v := 9) hx hb d_Rn_readDigits_10 (by decide) ?_
    refine lv_icmp_ge (tgt := 76) hx hb d_Rn_readDigits_12 (by decide) (fun c_1 => ?_) (fun c_1 => ?_)
    · have he := he.trans (if_pos c_1)
      refine lv_aload_n hx hb d_Rn_readDigits_76 rfl (lv_at hl 0 rfl) ?_
      refine lv_bipush (v := 8) hx hb d_Rn_readDigits_77 (by decide) ?_
      refine wx_cv (wS := fun v : TRn => w_R ad ca b v) (ws2 := fun v : TRn => w_R ad ca b v) (va_runV (As := [.int 8]) (rest := []) ⟨hx, hb, hml, hown, ht⟩ (c_Rn_fail l dC dI ad ca H.size b u 8 _ rfl) (cwV 1 ht (tb_V q_275 q_277 q_3 q_46 q_278) rfl rfl rfl p_Rn_fail ⟨show 0 + 1 ≤ rf + 8 by omega, show 8 + (2 + 11) + 0 ≤ rl + 180 by omega⟩) (wx_preV (wc := (w_R ad ca b u)) hN hK hP hD [0, 1, 2, 3, 4, 5, 6, 7, 8, 9, 10, 11, 12, 13, 14] [0, 1, 2, 3, 4, 5, 6, 7, 8, 9, 10, 11] rfl (by decide) rfl (ci := 2) (q0 := 0) rfl rfl) rfl rfl hl.1 rfl (lv_room (Nat.le_of_ble_eq_true rfl)) d_Rn_readDigits_79 ⟨Nat.zero_le _, Nat.zero_le _⟩) hP hD hS hA [0, 1, 2, 3, 4, 5, 6, 7, 8, 9, 10, 11, 12, 13, 14] [] [0, 1, 2, 3, 4, 5, 6, 7, 8, 9, 10, 11, 12, 13, 14] rfl rfl (by decide) (by decide) (by decide) (fun _ => rfl) (fun v_2 H locs hw_2 hP hD hS => ?_)
      have hP : va_P (dC, dI) vwCl (w_R ad ca b v_2) H := hP
      have hD : va_D A (w_R ad ca b v_2) := hD
      rw [← hw_2] at he
      try dsimp only at he
      refine lv_iconst (v := 0) hx hb d_Rn_readDigits_82 (by decide) ?_
      exact W.iret hx hb hr (v := 0) (fun t ht hW => ⟨⟨0, v_2, rfl, he.symm, by rw [ht]; exact hP, va_K.moved hW.alike hK, hD⟩, hS.F ht⟩) hS.2.2 d_Rn_readDigits_83
    · have he := he.trans (if_neg c_1)
      refine lv_iload_n hx hb d_Rn_readDigits_15 rfl (lv_at hl 2 rfl) ?_
      refine lv_bipush (v := 10) hx hb d_Rn_readDigits_16 (by decide) ?_
      refine lv_imul hx hb d_Rn_readDigits_18 ?_
      refine lv_iload hx hb d_Rn_readDigits_19 (lv_at hl 3 rfl) ?_
      refine lv_sipush (v := 3120) hx hb d_Rn_readDigits_21 (by decide) ?_
      refine lv_isub hx hb d_Rn_readDigits_24 ?_
      refine lv_iadd hx hb d_Rn_readDigits_25 ?_
      refine lv_istore_n (lv' := [(3, .int ((x3 * 10) + (x4 - 3120))), (0, .ref (ad 0)), (2, .int x2), (4, .int x4), (5, .int x5)]) hx hb d_Rn_readDigits_26 rfl hl (by decide) rfl (fun ls hl => ?_)
      refine lv_aload_n hx hb d_Rn_readDigits_27 rfl (lv_at hl 1 rfl) ?_
      refine lv_iload_n hx hb d_Rn_readDigits_28 rfl (lv_at hl 2 rfl) ?_
      refine wx_ci (wS := fun v : TRn => w_R ad ca b v) (ws2 := fun v : TRn => w_R ad ca b v) (va_runV (As := [.int x2]) (rest := []) ⟨hx, hb, hml, hown, ht⟩ (c_Rn_readGoneOnWith l dC dI ad ca op rf rl k hopm hop H.size b u x2 hc.1 _ rfl) (cwV 1 ht (tb_V q_315 q_317 q_9 q_46 q_318) rfl rfl rfl p_Rn_readGoneOnWith ⟨show (rf + 7) + 1 ≤ rf + 8 by omega, show 8 + (4 + 11) + (rl + 157) ≤ rl + 180 by omega⟩) (wx_preV (wc := (w_R ad ca b u)) hN hK hP hD [0, 1, 2, 3, 4, 5, 6, 7, 8, 9, 10, 11, 12, 13, 14] [0, 1, 2, 3, 4, 5, 6, 7, 8, 9, 10, 11] rfl (by decide) rfl (ci := 2) (q0 := 0) rfl rfl) rfl rfl hl.1 rfl (lv_room (Nat.le_of_ble_eq_true rfl)) d_Rn_readDigits_29 ⟨Nat.zero_le _, Nat.zero_le _⟩) hP hD hS hA [0, 1, 2, 3, 4, 5, 6, 7, 8, 9, 10, 11, 12, 13, 14] [] [0, 1, 2, 3, 4, 5, 6, 7, 8, 9, 10, 11, 12, 13, 14] rfl rfl (by decide) (by decide) (by decide) (fun _ => rfl) (fun r_3 v_3 H locs hw_3 hP hD hS => ?_)
      have hP : va_P (dC, dI) vwCl (w_R ad ca b v_3) H := hP
      have hD : va_D A (w_R ad ca b v_3) := hD
      rw [← hw_3] at he
      try dsimp only at he
      refine lv_istore (lv' := [(4, .int r_3), (3, .int ((x3 * 10) + (x4 - 3120))), (0, .ref (ad 0)), (2, .int x2), (5, .int x5)]) hx hb d_Rn_readDigits_32 hl (by decide) rfl (fun ls hl => ?_)
      refine lv_aload_n hx hb d_Rn_readDigits_34 rfl (lv_at hl 2 rfl) ?_
      refine va_get (D := (dC, dI)) (ci := 2) (v := .int (TRn_fault v_3)) (C := R_Rn) (T := T_Rn) (N := 12) hx hb ht i_Rn hown hK hP 0 rfl rfl 11 (by decide) (ht _ q_143) (fun _ h9 => h9) rfl d_Rn_readDigits_35 ?_
      refine lv_if_eq (tgt := 43) hx hb d_Rn_readDigits_38 (by decide) (fun c_4 => ?_) (fun c_4 => ?_)
      · have he := he.trans (if_pos c_4)
        refine lv_iload hx hb d_Rn_readDigits_43 (lv_at hl 0 rfl) ?_
        refine wx_ci (wS := fun _ : Unit => w_E ad ca) (ws2 := fun _ : Unit => w_R ad ca b v_3) (va_runSN (As := [.int r_3]) (rest := []) ⟨hx, hb, hml, hown, ht⟩ (c_Ct_isDigit l dC dI ad ca H.size r_3 _ rfl) ⟨va_cnB 1 ht (tb_in q_360) rfl rfl rfl (hN _ nest_4) (ht _ q_44) p_Ct_isDigit.2 ⟨show 0 + 1 ≤ rf + 8 by omega, show 8 + (1 + 11) + 0 ≤ rl + 180 by omega⟩, ht _ q_359, trivial⟩ (wx_preS (wc := (w_E ad ca)) hN hK hP hD [] [] rfl (by decide) rfl) rfl rfl hl.1 rfl (lv_room (Nat.le_of_ble_eq_true rfl)) d_Rn_readDigits_45 ⟨Nat.zero_le _, Nat.zero_le _⟩) hP hD hS hA [] [0, 1, 2, 3, 4, 5, 6, 7, 8, 9, 10, 11, 12, 13, 14] [0, 1, 2, 3, 4, 5, 6, 7, 8, 9, 10, 11, 12, 13, 14] rfl rfl (by decide) (by decide) (by decide) (fun _ => rfl) (fun r_5 _ H locs hw_5 hP hD hS => ?_)
        subst hw_5
        have hP : va_P (dC, dI) vwCl (w_R ad ca b v_3) H := hP
        have hD : va_D A (w_R ad ca b v_3) := hD
        refine lv_if_ne (tgt := 70) hx hb d_Rn_readDigits_48 (by decide) (fun c_6 => ?_) (fun c_6 => ?_)
        · have he := he.trans (if_neg c_6)
          refine lv_iinc (v := (x5 + 1)) (lv' := [(5, .int (x5 + 1)), (4, .int r_3), (3, .int ((x3 * 10) + (x4 - 3120))), (0, .ref (ad 0)), (2, .int x2)]) hx hb d_Rn_readDigits_70 hl (k := 4) rfl rfl (by decide) rfl (fun ls hl => ?_)
          refine lv_goto (tgt := 8) hx hb d_Rn_readDigits_73 (by decide) ?_
          exact ih b v_3 x2 ((x3 * 10) + (x4 - 3120)) r_3 (x5 + 1) ⟨⟨hc.1.1, hc.1.2.1, oc_rg op k hopm hw_3 hc.1.2.1 hc.1.2.2⟩, TLn_s hc.2 (by decide) c_1⟩ he _ _ hP hD hS _ (lv_sub hl [3, 4, 2, 1, 0] rfl)
        · have he := he.trans (if_pos c_6)
          refine lv_iload hx hb d_Rn_readDigits_51 (lv_at hl 0 rfl) ?_
          refine wx_ci (wS := fun _ : Unit => w_E ad ca) (ws2 := fun _ : Unit => w_R ad ca b v_3) (va_runSN (As := [.int r_3]) (rest := []) ⟨hx, hb, hml, hown, ht⟩ (c_Ct_isBlank l dC dI ad ca H.size r_3 _ rfl) ⟨va_cnB 1 ht (tb_in q_367) rfl rfl rfl (hN _ nest_5) (ht _ q_44) p_Ct_isBlank.2 ⟨show 0 + 1 ≤ rf + 8 by omega, show 8 + (1 + 11) + 0 ≤ rl + 180 by omega⟩, ht _ q_366, trivial⟩ (wx_preS (wc := (w_E ad ca)) hN hK hP hD [] [] rfl (by decide) rfl) rfl rfl hl.1 rfl (lv_room (Nat.le_of_ble_eq_true rfl)) d_Rn_readDigits_53 ⟨Nat.zero_le _, Nat.zero_le _⟩) hP hD hS hA [] [0, 1, 2, 3, 4, 5, 6, 7, 8, 9, 10, 11, 12, 13, 14] [0, 1, 2, 3, 4, 5, 6, 7, 8, 9, 10, 11, 12, 13, 14] rfl rfl (by decide) (by decide) (by decide) (fun _ => rfl) (fun r_7 _ H locs hw_7 hP hD hS => ?_)
          subst hw_7
          have hP : va_P (dC, dI) vwCl (w_R ad ca b v_3) H := hP
          have hD : va_D A (w_R ad ca b v_3) := hD
          refine lv_if_ne (tgt := 68) hx hb d_Rn_readDigits_56 (by decide) (fun c_8 => ?_) (fun c_8 => ?_)
          · have he := he.trans (if_neg c_8)
            refine lv_iload_n hx hb d_Rn_readDigits_68 rfl (lv_at hl 1 rfl) ?_
            exact W.iret hx hb hr (v := ((x3 * 10) + (x4 - 3120))) (fun t ht hW => ⟨⟨((x3 * 10) + (x4 - 3120)), v_3, rfl, he.symm, by rw [ht]; exact hP, va_K.moved hW.alike hK, hD⟩, hS.F ht⟩) hS.2.2 d_Rn_readDigits_69
          · have he := he.trans (if_pos c_8)
            refine lv_aload_n hx hb d_Rn_readDigits_59 rfl (lv_at hl 2 rfl) ?_
            refine va_get (D := (dC, dI)) (ci := 2) (v := .ref (ad 5)) (C := R_Rn) (T := T_Rn) (N := 12) hx hb ht i_Rn hown hK hP 0 rfl rfl 1 (by decide) (ht _ q_133) (fun _ h9 => h9) rfl d_Rn_readDigits_60 ?_
            refine lv_iload hx hb d_Rn_readDigits_63 (lv_at hl 0 rfl) ?_
            refine wx_cv (wS := fun v : TRd => w_D ad ca b v) (ws2 := fun v : TRd => w_R ad ca b (TRn_set_rd v_3 v)) (va_runV (As := [.int r_3]) (rest := []) ⟨hx, hb, hml, hown, ht⟩ (c_Rd_keep l dC dI ad ca H.size b (TRn_rd v_3) r_3 _ rfl) (cwV 1 ht (tb_V q_368 q_369 q_370 q_47 q_371) rfl rfl rfl p_Rd_keep ⟨show 0 + 1 ≤ rf + 8 by omega, show 8 + (2 + 11) + 0 ≤ rl + 180 by omega⟩) (wx_preV (wc := (w_D ad ca b (TRn_rd v_3))) hN hK hP hD [5, 6, 7, 8, 9, 10, 11, 12, 13, 14] [4, 5, 6, 7, 8, 9, 10, 11] rfl (by decide) rfl (ci := 1) (q0 := 0) rfl rfl) rfl rfl hl.1 rfl (lv_room (Nat.le_of_ble_eq_true rfl)) d_Rn_readDigits_65 ⟨Nat.zero_le _, Nat.zero_le _⟩) hP hD hS hA [5, 6, 7, 8, 9, 10, 11, 12, 13, 14] [0, 1, 2, 3, 4] [0, 1, 2, 3, 4, 5, 6, 7, 8, 9, 10, 11, 12, 13, 14] rfl rfl (by decide) (by decide) (by decide) (fun _ => rfl) (fun v_9 H locs hw_9 hP hD hS => ?_)
            have hP : va_P (dC, dI) vwCl (w_R ad ca b (TRn_set_rd v_3 v_9)) H := hP
            have hD : va_D A (w_R ad ca b (TRn_set_rd v_3 v_9)) := hD
            rw [← hw_9] at he
            try dsimp only at he
            refine lv_iload_n hx hb d_Rn_readDigits_68 rfl (lv_at hl 1 rfl) ?_
            exact W.iret hx hb hr (v := ((x3 * 10) + (x4 - 3120))) (fun t ht hW => ⟨⟨((x3 * 10) + (x4 - 3120)), (TRn_set_rd v_3 v_9), rfl, he.symm, by rw [ht]; exact hP, va_K.moved hW.alike hK, hD⟩, hS.F ht⟩) hS.2.2 d_Rn_readDigits_69
      · have he := he.trans (if_neg c_4)
        refine lv_iconst (v := 0) hx hb d_Rn_readDigits_41 (by decide) ?_
        exact W.iret hx hb hr (v := 0) (fun t ht hW => ⟨⟨0, v_3, rfl, he.symm, by rw [ht]; exact hP, va_K.moved hW.alike hK, hD⟩, hS.F ht⟩) hS.2.2 d_Rn_readDigits_42
noncomputable def f_Rn_readDigits (op : TBk → TRn → Int32 → TRn) (b : TBk) (u : TRn) (p0 : Int32) (p1 : Int32) : (Int32 × TRn) := (f_Rn_readDigits_8 op 10 b u p1 0 p0 0)
set_option maxHeartbeats 4000000 in
set_option maxRecDepth 100000 in
theorem c_Rn_readDigits (l : Launch) (dC : Nat → ClassId) (dI : Nat → Nat → Nat) (ad : Nat → Nat) (ca : Nat → ClassId) (op : TBk → TRn → Int32 → TRn) (rf rl : Nat) (k : Int) (hopm : ∀ (b : TBk) (u : TRn) (w : Int32), k ≤ oc u → oc u ≤ oc (op b u w)) (hop : ∀ (sz : Nat) (b : TBk) (u : TRn) (w : Int32), BkS b ∧ k ≤ oc u → wx_Mv l y_Rn_open ws_Rn_open ({ frames := rf, cells := 0, slots := 0, locals := rl } : Room) (dC, dI) vwCl (t_R ca) [.ref (ad 0), .int w] (w_R ad ca b u) sz (fun v : TRn => w_R ad ca b v) (fun v : TRn => v = op b u w)) (sz : Nat) (b : TBk) (u : TRn) (p0 : Int32) (p1 : Int32) (hpre : BkS b ∧ k ≤ p1.toInt ∧ p1.toInt ≤ oc u) (F : (Int32 × TRn)) (he : F = f_Rn_readDigits op b u p0 p1) : wx_Mi l y_Rn_readDigits ws_Rn_readDigits ({ frames := rf + 8, cells := 0, slots := 0, locals := rl + 180 } : Room) (dC, dI) vwCl (t_R ca) [.ref (ad 0), .int p0, .int p1] (w_R ad ca b u) sz (fun v : TRn => w_R ad ca b v) (fun (r : Int32) (v : TRn) => (r, v) = F) := by
  refine Met.ofW (cc := b_Rn_readDigits) (maxL := 6) (ret := some .int) (by decide) rfl ?_
  intro p e s m args below meth c s₁ B hml hv
  obtain ⟨rfl, hsz, hP, hK, hD0, hN⟩ := hv
  have hx := B.exec
  have hb := B.bytes
  have hr := B.returns
  have hts := atoms_spec (ws := ws_Rn_readDigits) B.pre
  have ht : ∀ w ∈ TB, w.before _ s = true := fun w h => hts w (List.mem_cons_of_mem _ h)
  have hown : s.vm.findClass R_Rn = some m.cls := findClass_of_methodNamed B.named
  have hlocks := B.notSynchronized
  subst hsz
  have hD := hD0.self (sz := s.heap.size)
  generalize hAe : va_A (w_R ad ca b u) s.heap.size = A at hD ⊢
  have hA : ∀ q : Nat, s.heap.size ≤ q → A q := fun q h => by rw [← hAe]; exact Or.inr h
  have hS : va_S A s.heap s.heap [] := va_S.rf
  have C0 : wx_C p s m ([.ref (ad 0), .int p0, .int p1] : List Value).toArray meth c b_Rn_readDigits (some .int) 6 R_Rn A (dC, dI) vwCl (t_R ca) := ⟨hx, hb, hr, hml, hown, ht, hlocks, hA, hK, hN⟩
  have hl := lv_entry ([.ref (ad 0), .int p0, .int p1]) (n := 6) (Nat.le_of_ble_eq_true rfl)
  rw [lg_entry_eq]
  generalize (lg_sl ([.ref (ad 0), .int p0, .int p1]) ++ List.replicate (6 - (lg_sl ([.ref (ad 0), .int p0, .int p1])).length) Slot.unset).toArray = ls at hl ⊢
  have hl : lv_has ls 6 [(0, .ref (ad 0)), (1, .int p0), (2, .int p1)] := hl
  unfold f_Rn_readDigits at he
  refine lv_iconst (v := 0) hx hb d_Rn_readDigits_0 (by decide) ?_
  refine lv_istore_n (lv' := [(3, .int 0), (0, .ref (ad 0)), (1, .int p0), (2, .int p1)]) hx hb d_Rn_readDigits_1 rfl hl (by decide) rfl (fun ls hl => ?_)
  refine lv_iload_n hx hb d_Rn_readDigits_2 rfl (lv_at hl 2 rfl) ?_
  refine lv_istore (lv' := [(4, .int p0), (3, .int 0), (0, .ref (ad 0)), (1, .int p0), (2, .int p1)]) hx hb d_Rn_readDigits_3 hl (by decide) rfl (fun ls hl => ?_)
  refine lv_iconst (v := 0) hx hb d_Rn_readDigits_5 (by decide) ?_
  refine lv_istore (lv' := [(5, .int 0), (4, .int p0), (3, .int 0), (0, .ref (ad 0)), (1, .int p0), (2, .int p1)]) hx hb d_Rn_readDigits_6 hl (by decide) rfl (fun ls hl => ?_)
  exact k_Rn_readDigits_8 l dC dI ad ca op rf rl k hopm hop C0 F 10 b u p1 0 p0 0 ⟨hpre, TLn_i (by omega) (by omega)⟩ he _ _ hP hD hS _ (lv_sub hl [3, 5, 2, 1, 0] rfl)
end
section
theorem oc_rs (op : TBk → TRn → Int32 → TRn) (k : Int) (hopm : ∀ (b : TBk) (u : TRn) (w : Int32), k ≤ oc u → oc u ≤ oc (op b u w)) {b : TBk} {u v : TRn} {base r : Int32} (h : (r, v) = f_Rn_readSign op b u base) (hk : k ≤ base.toInt) (hb : base.toInt ≤ oc u) : base.toInt ≤ oc v := by
  have h1 : base.toInt ≤ oc (f_Rn_readSign op b u base).2 := by
    unfold f_Rn_readSign
    rcases hl : f_Rn_readGoneOnWith op b u base with ⟨r1, v1⟩
    have h3 : base.toInt ≤ oc v1 := oc_rg op k hopm hl.symm hk hb
    dsimp only
    repeat' split
    all_goals try dsimp only
    all_goals first
      | (rw [oc_fail]; exact h3)
      | exact h3
  rw [← h] at h1
  exact h1
theorem oc_rd8 (op : TBk → TRn → Int32 → TRn) (k : Int) (hopm : ∀ (b : TBk) (u : TRn) (w : Int32), k ≤ oc u → oc u ≤ oc (op b u w)) (n : Nat) : ∀ (b : TBk) (u : TRn) (x2 x3 x4 x5 : Int32), k ≤ x2.toInt → x2.toInt ≤ oc u → x2.toInt ≤ oc (f_Rn_readDigits_8 op n b u x2 x3 x4 x5).2 := by
  induction n with
  | zero =>
    intro b u x2 x3 x4 x5 h1 h2
    rw [f_Rn_readDigits_8]
    exact h2
  | succ n ih =>
    intro b u x2 x3 x4 x5 h1 h2
    rw [f_Rn_readDigits_8]
    rcases hl : f_Rn_readGoneOnWith op b u x2 with ⟨r, v⟩
    have h3 : x2.toInt ≤ oc v := oc_rg op k hopm hl.symm h1 h2
    dsimp only
    repeat' split
    all_goals try dsimp only
    all_goals first
      | (rw [oc_fail]; exact h2)
      | with_reducible exact ih _ _ _ _ _ _ h1 h3
      | exact h3
theorem oc_rdg (op : TBk → TRn → Int32 → TRn) (k : Int) (hopm : ∀ (b : TBk) (u : TRn) (w : Int32), k ≤ oc u → oc u ≤ oc (op b u w)) {b : TBk} {u v : TRn} {t base r : Int32} (h : (r, v) = f_Rn_readDigits op b u t base) (hk : k ≤ base.toInt) (hb : base.toInt ≤ oc u) : base.toInt ≤ oc v := by
  have h1 := oc_rd8 op k hopm 10 b u base 0 t 0 hk hb
  unfold f_Rn_readDigits at h
  rw [← h] at h1
  exact h1
end
section
theorem q_15 : Cond.selects R_Rn y_Rn_readDigits y_Rn_readDigits ∈ TB := tq 15 (by decide +kernel) rfl
theorem q_361 : Cond.methodLink R_Rn 189 y_Rn_readDigits ∈ TB := tq 361 (by decide +kernel) rfl
theorem q_363 : Cond.instanceMethod y_Rn_readDigits ∈ TB := tq 363 (by decide +kernel) rfl
theorem q_364 : Cond.code y_Rn_readDigits b_Rn_readDigits 6 (some .int) ∈ TB := tq 364 (by decide +kernel) rfl
theorem d_Rn_readNumber_0 : decode b_Rn_readNumber 0 = .ok (.iconst 0, 1) := by decide +kernel
theorem d_Rn_readNumber_1 : decode b_Rn_readNumber 1 = .ok (.istore_n 2, 1) := by decide +kernel
theorem d_Rn_readNumber_2 : decode b_Rn_readNumber 2 = .ok (.aload_n 0, 1) := by decide +kernel
theorem d_Rn_readNumber_3 : decode b_Rn_readNumber 3 = .ok (.iload_n 1, 1) := by decide +kernel
theorem d_Rn_readNumber_4 : decode b_Rn_readNumber 4 = .ok (.invokevirtual 183, 3) := by decide +kernel
theorem d_Rn_readNumber_7 : decode b_Rn_readNumber 7 = .ok (.istore_n 3, 1) := by decide +kernel
theorem d_Rn_readNumber_8 : decode b_Rn_readNumber 8 = .ok (.iconst 0, 1) := by decide +kernel
theorem d_Rn_readNumber_9 : decode b_Rn_readNumber 9 = .ok (.istore 4, 2) := by decide +kernel
theorem d_Rn_readNumber_11 : decode b_Rn_readNumber 11 = .ok (.iload 4, 2) := by decide +kernel
theorem d_Rn_readNumber_13 : decode b_Rn_readNumber 13 = .ok (.ldc 44, 2) := by decide +kernel
theorem d_Rn_readNumber_15 : decode b_Rn_readNumber 15 = .ok (.if_icmp .ge 51, 3) := by decide +kernel
theorem d_Rn_readNumber_18 : decode b_Rn_readNumber 18 = .ok (.iload_n 3, 1) := by decide +kernel
theorem d_Rn_readNumber_19 : decode b_Rn_readNumber 19 = .ok (.sipush 3115, 3) := by decide +kernel
theorem d_Rn_readNumber_22 : decode b_Rn_readNumber 22 = .ok (.if_icmp .eq 10, 3) := by decide +kernel
theorem d_Rn_readNumber_25 : decode b_Rn_readNumber 25 = .ok (.iload_n 3, 1) := by decide +kernel
theorem d_Rn_readNumber_26 : decode b_Rn_readNumber 26 = .ok (.sipush 3117, 3) := by decide +kernel
theorem d_Rn_readNumber_29 : decode b_Rn_readNumber 29 = .ok (.if_icmp .ne 37, 3) := by decide +kernel
theorem d_Rn_readNumber_32 : decode b_Rn_readNumber 32 = .ok (.iload_n 2, 1) := by decide +kernel
theorem d_Rn_readNumber_33 : decode b_Rn_readNumber 33 = .ok (.iload_n 3, 1) := by decide +kernel
theorem d_Rn_readNumber_34 : decode b_Rn_readNumber 34 = .ok (.sipush 3117, 3) := by decide +kernel
theorem d_Rn_readNumber_37 : decode b_Rn_readNumber 37 = .ok (.if_icmp .ne 7, 3) := by decide +kernel
theorem d_Rn_readNumber_40 : decode b_Rn_readNumber 40 = .ok (.iconst 1, 1) := by decide +kernel
theorem d_Rn_readNumber_41 : decode b_Rn_readNumber 41 = .ok (.goto 4, 3) := by decide +kernel
theorem d_Rn_readNumber_44 : decode b_Rn_readNumber 44 = .ok (.iconst 0, 1) := by decide +kernel
theorem d_Rn_readNumber_45 : decode b_Rn_readNumber 45 = .ok (.if_icmp .eq 7, 3) := by decide +kernel
theorem d_Rn_readNumber_48 : decode b_Rn_readNumber 48 = .ok (.iconst 1, 1) := by decide +kernel
theorem d_Rn_readNumber_49 : decode b_Rn_readNumber 49 = .ok (.goto 4, 3) := by decide +kernel
theorem d_Rn_readNumber_52 : decode b_Rn_readNumber 52 = .ok (.iconst 0, 1) := by decide +kernel
theorem d_Rn_readNumber_53 : decode b_Rn_readNumber 53 = .ok (.istore_n 2, 1) := by decide +kernel
theorem d_Rn_readNumber_54 : decode b_Rn_readNumber 54 = .ok (.aload_n 0, 1) := by decide +kernel
theorem d_Rn_readNumber_55 : decode b_Rn_readNumber 55 = .ok (.iload_n 1, 1) := by decide +kernel
theorem d_Rn_readNumber_56 : decode b_Rn_readNumber 56 = .ok (.invokevirtual 183, 3) := by decide +kernel
theorem d_Rn_readNumber_59 : decode b_Rn_readNumber 59 = .ok (.istore_n 3, 1) := by decide +kernel
theorem d_Rn_readNumber_60 : decode b_Rn_readNumber 60 = .ok (.iinc 4 1, 3) := by decide +kernel
theorem d_Rn_readNumber_63 : decode b_Rn_readNumber 63 = .ok (.goto (-52), 3) := by decide +kernel
theorem d_Rn_readNumber_66 : decode b_Rn_readNumber 66 = .ok (.aload_n 0, 1) := by decide +kernel
theorem d_Rn_readNumber_67 : decode b_Rn_readNumber 67 = .ok (.getfield 45, 3) := by decide +kernel
theorem d_Rn_readNumber_70 : decode b_Rn_readNumber 70 = .ok (.ifCond .eq 5, 3) := by decide +kernel
theorem d_Rn_readNumber_73 : decode b_Rn_readNumber 73 = .ok (.iconst 0, 1) := by decide +kernel
theorem d_Rn_readNumber_74 : decode b_Rn_readNumber 74 = .ok (.ireturn, 1) := by decide +kernel
theorem d_Rn_readNumber_75 : decode b_Rn_readNumber 75 = .ok (.iconst 0, 1) := by decide +kernel
theorem d_Rn_readNumber_76 : decode b_Rn_readNumber 76 = .ok (.istore 4, 2) := by decide +kernel
theorem d_Rn_readNumber_78 : decode b_Rn_readNumber 78 = .ok (.iload_n 3, 1) := by decide +kernel
theorem d_Rn_readNumber_79 : decode b_Rn_readNumber 79 = .ok (.invokestatic 186, 3) := by decide +kernel
theorem d_Rn_readNumber_82 : decode b_Rn_readNumber 82 = .ok (.ifCond .eq 14, 3) := by decide +kernel
theorem d_Rn_readNumber_85 : decode b_Rn_readNumber 85 = .ok (.aload_n 0, 1) := by decide +kernel
theorem d_Rn_readNumber_86 : decode b_Rn_readNumber 86 = .ok (.iload_n 3, 1) := by decide +kernel
theorem d_Rn_readNumber_87 : decode b_Rn_readNumber 87 = .ok (.iload_n 1, 1) := by decide +kernel
theorem d_Rn_readNumber_88 : decode b_Rn_readNumber 88 = .ok (.invokevirtual 189, 3) := by decide +kernel
theorem d_Rn_readNumber_91 : decode b_Rn_readNumber 91 = .ok (.istore 4, 2) := by decide +kernel
theorem d_Rn_readNumber_93 : decode b_Rn_readNumber 93 = .ok (.goto 33, 3) := by decide +kernel
theorem d_Rn_readNumber_96 : decode b_Rn_readNumber 96 = .ok (.aload_n 0, 1) := by decide +kernel
theorem d_Rn_readNumber_97 : decode b_Rn_readNumber 97 = .ok (.getfield 25, 3) := by decide +kernel
theorem d_Rn_readNumber_100 : decode b_Rn_readNumber 100 = .ok (.iload_n 3, 1) := by decide +kernel
theorem d_Rn_readNumber_101 : decode b_Rn_readNumber 101 = .ok (.invokevirtual 88, 3) := by decide +kernel
theorem d_Rn_readNumber_104 : decode b_Rn_readNumber 104 = .ok (.iconst 4, 1) := by decide +kernel
theorem d_Rn_readNumber_105 : decode b_Rn_readNumber 105 = .ok (.if_icmp .ne 16, 3) := by decide +kernel
theorem d_Rn_readNumber_108 : decode b_Rn_readNumber 108 = .ok (.aload_n 0, 1) := by decide +kernel
theorem d_Rn_readNumber_109 : decode b_Rn_readNumber 109 = .ok (.getfield 25, 3) := by decide +kernel
theorem d_Rn_readNumber_112 : decode b_Rn_readNumber 112 = .ok (.iload_n 3, 1) := by decide +kernel
theorem d_Rn_readNumber_113 : decode b_Rn_readNumber 113 = .ok (.invokevirtual 104, 3) := by decide +kernel
theorem d_Rn_readNumber_116 : decode b_Rn_readNumber 116 = .ok (.istore 4, 2) := by decide +kernel
theorem d_Rn_readNumber_118 : decode b_Rn_readNumber 118 = .ok (.goto 8, 3) := by decide +kernel
theorem d_Rn_readNumber_121 : decode b_Rn_readNumber 121 = .ok (.aload_n 0, 1) := by decide +kernel
theorem d_Rn_readNumber_122 : decode b_Rn_readNumber 122 = .ok (.iconst 3, 1) := by decide +kernel
theorem d_Rn_readNumber_123 : decode b_Rn_readNumber 123 = .ok (.invokevirtual 60, 3) := by decide +kernel
theorem d_Rn_readNumber_126 : decode b_Rn_readNumber 126 = .ok (.iload_n 2, 1) := by decide +kernel
theorem d_Rn_readNumber_127 : decode b_Rn_readNumber 127 = .ok (.ifCond .eq 9, 3) := by decide +kernel
theorem d_Rn_readNumber_130 : decode b_Rn_readNumber 130 = .ok (.iload 4, 2) := by decide +kernel
theorem d_Rn_readNumber_132 : decode b_Rn_readNumber 132 = .ok (.ineg, 1) := by decide +kernel
theorem d_Rn_readNumber_133 : decode b_Rn_readNumber 133 = .ok (.goto 5, 3) := by decide +kernel
theorem d_Rn_readNumber_136 : decode b_Rn_readNumber 136 = .ok (.iload 4, 2) := by decide +kernel
theorem d_Rn_readNumber_138 : decode b_Rn_readNumber 138 = .ok (.ireturn, 1) := by decide +kernel
noncomputable def f_Rn_readNumber_66 (op : TBk → TRn → Int32 → TRn) (b : TBk) (u : TRn) (x1 : Int32) (x2 : Int32) (x3 : Int32) : (Int32 × TRn) := (if (TRn_fault u) = 0 then (if (f_Ct_isDigit x3) = 0 then (if (f_Bk_kindOf b x3) = 4 then (if x2 = 0 then ((f_Bk_valueOf b x3), u) else ((-(f_Bk_valueOf b x3)), u)) else (let v_6 := f_Rn_fail b u 3; (if x2 = 0 then (0, v_6) else ((-0), v_6)))) else (match f_Rn_readDigits op b u x3 x1 with | (r_10, v_10) => (if x2 = 0 then (r_10, v_10) else ((-r_10), v_10)))) else (0, u))
set_option maxHeartbeats 4000000 in
set_option maxRecDepth 100000 in
theorem k_Rn_readNumber_66 {p : Program} {e : Env} {s : State} {m : MethodId} {args : Array Value} {below : List Frame} {meth : Method} {c : Code} {A : Nat → Prop} (l : Launch) (dC : Nat → ClassId) (dI : Nat → Nat → Nat) (ad : Nat → Nat) (ca : Nat → ClassId) (op : TBk → TRn → Int32 → TRn) (rf rl : Nat) (k : Int) (hopm : ∀ (b : TBk) (u : TRn) (w : Int32), k ≤ oc u → oc u ≤ oc (op b u w)) (hop : ∀ (sz : Nat) (b : TBk) (u : TRn) (w : Int32), BkS b ∧ k ≤ oc u → wx_Mv l y_Rn_open ws_Rn_open ({ frames := rf, cells := 0, slots := 0, locals := rl } : Room) (dC, dI) vwCl (t_R ca) [.ref (ad 0), .int w] (w_R ad ca b u) sz (fun v : TRn => w_R ad ca b v) (fun v : TRn => v = op b u w)) (C0 : wx_C p s m args meth c b_Rn_readNumber (some .int) 5 R_Rn A (dC, dI) vwCl (t_R ca)) (F : (Int32 × TRn)) : ∀ (b : TBk) (u : TRn) (x1 : Int32) (x2 : Int32) (x3 : Int32), (BkS b ∧ k ≤ x1.toInt ∧ x1.toInt ≤ oc u) → F = f_Rn_readNumber_66 op b u x1 x2 x3 → ∀ (H : Heap) (locs : List Loc), va_P (dC, dI) vwCl (w_R ad ca b u) H → va_D A (w_R ad ca b u) → va_S A s.heap H locs → ∀ (ls : Array Slot), lv_has ls 5 [(0, .ref (ad 0)), (1, .int x1), (2, .int x2), (3, .int x3)] → W p l e ({ frames := rf + 9, cells := 0, slots := 0, locals := rl + 205 } : Room) s m args below meth c H locs 0 0 (MQ below (va_Qi (fun (r : Int32) (v : TRn) => (r, v) = F) (wx_B (dC, dI) vwCl (t_R ca) (fun v : TRn => w_R ad ca b v) A) A) args s 0 0 A) (F0 m 66 ls []) := by
  have C1 := C0
  obtain ⟨hx, hb, hr, hml, hown, ht, hlocks, hA, hK, hN⟩ := C1
  intro b u x1 x2 x3 hc he H locs hP hD hS ls hl
  unfold f_Rn_readNumber_66 at he
  refine lv_aload_n hx hb d_Rn_readNumber_66 rfl (lv_at hl 0 rfl) ?_
  refine va_get (D := (dC, dI)) (ci := 2) (v := .int (TRn_fault u)) (C := R_Rn) (T := T_Rn) (N := 12) hx hb ht i_Rn hown hK hP 0 rfl rfl 11 (by decide) (ht _ q_143) (fun _ h9 => h9) rfl d_Rn_readNumber_67 ?_
  refine lv_if_eq (tgt := 75) hx hb d_Rn_readNumber_70 (by decide) (fun c_1 => ?_) (fun c_1 => ?_)
  · have he := he.trans (if_pos c_1)
    refine lv_iconst (v := 0) hx hb d_Rn_readNumber_75 (by decide) ?_
    refine lv_istore (lv' := [(4, .int 0), (0, .ref (ad 0)), (1, .int x1), (2, .int x2), (3, .int x3)]) hx hb d_Rn_readNumber_76 hl (by decide) rfl (fun ls hl => ?_)
    refine lv_iload_n hx hb d_Rn_readNumber_78 rfl (lv_at hl 4 rfl) ?_
    refine wx_ci (wS := fun _ : Unit => w_E ad ca) (ws2 := fun _ : Unit => w_R ad ca b u) (va_runSN (As := [.int x3]) (rest := []) ⟨hx, hb, hml, hown, ht⟩ (c_Ct_isDigit l dC dI ad ca H.size x3 _ rfl) ⟨va_cnB 1 ht (tb_in q_360) rfl rfl rfl (hN _ nest_4) (ht _ q_44) p_Ct_isDigit.2 ⟨show 0 + 1 ≤ rf + 9 by omega, show 8 + (1 + 11) + 0 ≤ rl + 205 by omega⟩, ht _ q_359, trivial⟩ (wx_preS (wc := (w_E ad ca)) hN hK hP hD [] [] rfl (by decide) rfl) rfl rfl hl.1 rfl (lv_room (Nat.le_of_ble_eq_true rfl)) d_Rn_readNumber_79 ⟨Nat.zero_le _, Nat.zero_le _⟩) hP hD hS hA [] [0, 1, 2, 3, 4, 5, 6, 7, 8, 9, 10, 11, 12, 13, 14] [0, 1, 2, 3, 4, 5, 6, 7, 8, 9, 10, 11, 12, 13, 14] rfl rfl (by decide) (by decide) (by decide) (fun _ => rfl) (fun r_2 _ H locs hw_2 hP hD hS => ?_)
    subst hw_2
    have hP : va_P (dC, dI) vwCl (w_R ad ca b u) H := hP
    have hD : va_D A (w_R ad ca b u) := hD
    refine lv_if_eq (tgt := 96) hx hb d_Rn_readNumber_82 (by decide) (fun c_3 => ?_) (fun c_3 => ?_)
    · have he := he.trans (if_pos c_3)
      refine lv_aload_n hx hb d_Rn_readNumber_96 rfl (lv_at hl 1 rfl) ?_
      refine va_get (D := (dC, dI)) (ci := 2) (v := .ref (ad 8)) (C := R_Rn) (T := T_Rn) (N := 12) hx hb ht i_Rn hown hK hP 0 rfl rfl 0 (by decide) (ht _ q_132) (fun _ h9 => h9) rfl d_Rn_readNumber_97 ?_
      refine lv_iload_n hx hb d_Rn_readNumber_100 rfl (lv_at hl 4 rfl) ?_
      refine wx_ci (wS := fun _ : Unit => w_B ad ca b) (ws2 := fun _ : Unit => w_R ad ca b u) (va_runV (As := [.int x3]) (rest := []) ⟨hx, hb, hml, hown, ht⟩ (c_Bk_kindOf l dC dI ad ca H.size b x3 _ rfl) (cwV 1 ht (tb_V q_283 q_284 q_285 q_45 q_286) rfl rfl rfl p_Bk_kindOf ⟨show 1 + 1 ≤ rf + 9 by omega, show 8 + (2 + 11) + 20 ≤ rl + 205 by omega⟩) (wx_preV (wc := (w_B ad ca b)) hN hK hP hD [8, 9, 10, 11, 12, 13, 14] [6, 7, 8, 9, 10, 11] rfl (by decide) rfl (ci := 0) (q0 := 0) rfl rfl) rfl rfl hl.1 rfl (lv_room (Nat.le_of_ble_eq_true rfl)) d_Rn_readNumber_101 ⟨Nat.zero_le _, Nat.zero_le _⟩) hP hD hS hA [8, 9, 10, 11, 12, 13, 14] [0, 1, 2, 3, 4, 5, 6, 7] [0, 1, 2, 3, 4, 5, 6, 7, 8, 9, 10, 11, 12, 13, 14] rfl rfl (by decide) (by decide) (by decide) (fun _ => rfl) (fun r_4 _ H locs hw_4 hP hD hS => ?_)
      subst hw_4
      have hP : va_P (dC, dI) vwCl (w_R ad ca b u) H := hP
      have hD : va_D A (w_R ad ca b u) := hD
      refine lv_iconst (v := 4) hx hb d_Rn_readNumber_104 (by decide) ?_
      refine lv_icmp_ne (tgt := 121) hx hb d_Rn_readNumber_105 (by decide) (fun c_5 => ?_) (fun c_5 => ?_)
      · have he := he.trans (if_neg c_5)
        refine lv_aload_n hx hb d_Rn_readNumber_121 rfl (lv_at hl 1 rfl) ?_
        refine lv_iconst (v := 3) hx hb d_Rn_readNumber_122 (by decide) ?_
        refine wx_cv (wS := fun v : TRn => w_R ad ca b v) (ws2 := fun v : TRn => w_R ad ca b v) (va_runV (As := [.int 3]) (rest := []) ⟨hx, hb, hml, hown, ht⟩ (c_Rn_fail l dC dI ad ca H.size b u 3 _ rfl) (cwV 1 ht (tb_V q_275 q_277 q_3 q_46 q_278) rfl rfl rfl p_Rn_fail ⟨show 0 + 1 ≤ rf + 9 by omega, show 8 + (2 + 11) + 0 ≤ rl + 205 by omega⟩) (wx_preV (wc := (w_R ad ca b u)) hN hK hP hD [0, 1, 2, 3, 4, 5, 6, 7, 8, 9, 10, 11, 12, 13, 14] [0, 1, 2, 3, 4, 5, 6, 7, 8, 9, 10, 11] rfl (by decide) rfl (ci := 2) (q0 := 0) rfl rfl) rfl rfl hl.1 rfl (lv_room (Nat.le_of_ble_eq_true rfl)) d_Rn_readNumber_123 ⟨Nat.zero_le _, Nat.zero_le _⟩) hP hD hS hA [0, 1, 2, 3, 4, 5, 6, 7, 8, 9, 10, 11, 12, 13, 14] [] [0, 1, 2, 3, 4, 5, 6, 7, 8, 9, 10, 11, 12, 13, 14] rfl rfl (by decide) (by decide) (by decide) (fun _ => rfl) (fun v_6 H locs hw_6 hP hD hS => ?_)
        have hP : va_P (dC, dI) vwCl (w_R ad ca b v_6) H := hP
        have hD : va_D A (w_R ad ca b v_6) := hD
        rw [← hw_6] at he
        try dsimp only at he
        refine lv_iload_n hx hb d_Rn_readNumber_126 rfl (lv_at hl 3 rfl) ?_
        refine lv_if_eq (tgt := 136) hx hb d_Rn_readNumber_127 (by decide) (fun c_7 => ?_) (fun c_7 => ?_)
        · have he := he.trans (if_pos c_7)
          refine lv_iload hx hb d_Rn_readNumber_136 (lv_at hl 0 rfl) ?_
          exact W.iret hx hb hr (v := 0) (fun t ht hW => ⟨⟨0, v_6, rfl, he.symm, by rw [ht]; exact hP, va_K.moved hW.alike hK, hD⟩, hS.F ht⟩) hS.2.2 d_Rn_readNumber_138
        · have he := he.trans (if_neg c_7)
          refine lv_iload hx hb d_Rn_readNumber_130 (lv_at hl 0 rfl) ?_
          refine lv_ineg hx hb d_Rn_readNumber_132 ?_
          refine lv_goto (tgt := 138) hx hb d_Rn_readNumber_133 (by decide) ?_
          exact W.iret hx hb hr (v := (-0)) (fun t ht hW => ⟨⟨(-0), v_6, rfl, he.symm, by rw [ht]; exact hP, va_K.moved hW.alike hK, hD⟩, hS.F ht⟩) hS.2.2 d_Rn_readNumber_138
      · have he := he.trans (if_pos c_5)
        refine lv_aload_n hx hb d_Rn_readNumber_108 rfl (lv_at hl 1 rfl) ?_
        refine va_get (D := (dC, dI)) (ci := 2) (v := .ref (ad 8)) (C := R_Rn) (T := T_Rn) (N := 12) hx hb ht i_Rn hown hK hP 0 rfl rfl 0 (by decide) (ht _ q_132) (fun _ h9 => h9) rfl d_Rn_readNumber_109 ?_
        refine lv_iload_n hx hb d_Rn_readNumber_112 rfl (lv_at hl 4 rfl) ?_
        refine wx_ci (wS := fun _ : Unit => w_B ad ca b) (ws2 := fun _ : Unit => w_R ad ca b u) (va_runV (As := [.int x3]) (rest := []) ⟨hx, hb, hml, hown, ht⟩ (c_Bk_valueOf l dC dI ad ca H.size b x3 _ rfl) (cwV 1 ht (tb_V q_291 q_292 q_293 q_45 q_294) rfl rfl rfl p_Bk_valueOf ⟨show 1 + 1 ≤ rf + 9 by omega, show 8 + (2 + 11) + 20 ≤ rl + 205 by omega⟩) (wx_preV (wc := (w_B ad ca b)) hN hK hP hD [8, 9, 10, 11, 12, 13, 14] [6, 7, 8, 9, 10, 11] rfl (by decide) rfl (ci := 0) (q0 := 0) rfl rfl) rfl rfl hl.1 rfl (lv_room (Nat.le_of_ble_eq_true rfl)) d_Rn_readNumber_113 ⟨Nat.zero_le _, Nat.zero_le _⟩) hP hD hS hA [8, 9, 10, 11, 12, 13, 14] [0, 1, 2, 3, 4, 5, 6, 7] [0, 1, 2, 3, 4, 5, 6, 7, 8, 9, 10, 11, 12, 13, 14] rfl rfl (by decide) (by decide) (by decide) (fun _ => rfl) (fun r_8 _ H locs hw_8 hP hD hS => ?_)
        subst hw_8
        have hP : va_P (dC, dI) vwCl (w_R ad ca b u) H := hP
        have hD : va_D A (w_R ad ca b u) := hD
        refine lv_istore (lv' := [(4, .int (f_Bk_valueOf b x3)), (0, .ref (ad 0)), (1, .int x1), (2, .int x2), (3, .int x3)]) hx hb d_Rn_readNumber_116 hl (by decide) rfl (fun ls hl => ?_)
        refine lv_goto (tgt := 126) hx hb d_Rn_readNumber_118 (by decide) ?_
        refine lv_iload_n hx hb d_Rn_readNumber_126 rfl (lv_at hl 3 rfl) ?_
        refine lv_if_eq (tgt := 136) hx hb d_Rn_readNumber_127 (by decide) (fun c_9 => ?_) (fun c_9 => ?_)
        · have he := he.trans (if_pos c_9)
          refine lv_iload hx hb d_Rn_readNumber_136 (lv_at hl 0 rfl) ?_
          exact W.iret hx hb hr (v := (f_Bk_valueOf b x3)) (fun t ht hW => ⟨⟨(f_Bk_valueOf b x3), u, rfl, he.symm, by rw [ht]; exact hP, va_K.moved hW.alike hK, hD⟩, hS.F ht⟩) hS.2.2 d_Rn_readNumber_138
        · have he := he.trans (if_neg c_9)
          refine lv_iload hx hb d_Rn_readNumber_130 (lv_at hl 0 rfl) ?_
          refine lv_ineg hx hb d_Rn_readNumber_132 ?_
          refine lv_goto (tgt := 138) hx hb d_Rn_readNumber_133 (by decide) ?_
          exact W.iret hx hb hr (v := (-(f_Bk_valueOf b x3))) (fun t ht hW => ⟨⟨(-(f_Bk_valueOf b x3)), u, rfl, he.symm, by rw [ht]; exact hP, va_K.moved hW.alike hK, hD⟩, hS.F ht⟩) hS.2.2 d_Rn_readNumber_138
    · have he := he.trans (if_neg c_3)
      refine lv_aload_n hx hb d_Rn_readNumber_85 rfl (lv_at hl 1 rfl) ?_
      refine lv_iload_n hx hb d_Rn_readNumber_86 rfl (lv_at hl 4 rfl) ?_
      refine lv_iload_n hx hb d_Rn_readNumber_87 rfl (lv_at hl 2 rfl) ?_
      refine wx_ci (wS := fun v : TRn => w_R ad ca b v) (ws2 := fun v : TRn => w_R ad ca b v) (va_runV (As := [.int x3, .int x1]) (rest := []) ⟨hx, hb, hml, hown, ht⟩ (c_Rn_readDigits l dC dI ad ca op rf rl k hopm hop H.size b u x3 x1 hc _ rfl) (cwV 2 ht (tb_V q_361 q_363 q_15 q_46 q_364) rfl rfl rfl p_Rn_readDigits ⟨show (rf + 8) + 1 ≤ rf + 9 by omega, show 8 + (6 + 11) + (rl + 180) ≤ rl + 205 by omega⟩) (wx_preV (wc := (w_R ad ca b u)) hN hK hP hD [0, 1, 2, 3, 4, 5, 6, 7, 8, 9, 10, 11, 12, 13, 14] [0, 1, 2, 3, 4, 5, 6, 7, 8, 9, 10, 11] rfl (by decide) rfl (ci := 2) (q0 := 0) rfl rfl) rfl rfl hl.1 rfl (lv_room (Nat.le_of_ble_eq_true rfl)) d_Rn_readNumber_88 ⟨Nat.zero_le _, Nat.zero_le _⟩) hP hD hS hA [0, 1, 2, 3, 4, 5, 6, 7, 8, 9, 10, 11, 12, 13, 14] [] [0, 1, 2, 3, 4, 5, 6, 7, 8, 9, 10, 11, 12, 13, 14] rfl rfl (by decide) (by decide) (by decide) (fun _ => rfl) (fun r_10 v_10 H locs hw_10 hP hD hS => ?_)
      have hP : va_P (dC, dI) vwCl (w_R ad ca b v_10) H := hP
      have hD : va_D A (w_R ad ca b v_10) := hD
      rw [← hw_10] at he
      try dsimp only at he
      refine lv_istore (lv' := [(4, .int r_10), (0, .ref (ad 0)), (1, .int x1), (2, .int x2), (3, .int x3)]) hx hb d_Rn_readNumber_91 hl (by decide) rfl (fun ls hl => ?_)
      refine lv_goto (tgt := 126) hx hb d_Rn_readNumber_93 (by decide) ?_
      refine lv_iload_n hx hb d_Rn_readNumber_126 rfl (lv_at hl 3 rfl) ?_
      refine lv_if_eq (tgt := 136) hx hb d_Rn_readNumber_127 (by decide) (fun c_11 => ?_) (fun c_11 => ?_)
      · have he := he.trans (if_pos c_11)
        refine lv_iload hx hb d_Rn_readNumber_136 (lv_at hl 0 rfl) ?_
        exact W.iret hx hb hr (v := r_10) (fun t ht hW => ⟨⟨r_10, v_10, rfl, he.symm, by rw [ht]; exact hP, va_K.moved hW.alike hK, hD⟩, hS.F ht⟩) hS.2.2 d_Rn_readNumber_138
      · have he := he.trans (if_neg c_11)
        refine lv_iload hx hb d_Rn_readNumber_130 (lv_at hl 0 rfl) ?_
        refine lv_ineg hx hb d_Rn_readNumber_132 ?_
        refine lv_goto (tgt := 138) hx hb d_Rn_readNumber_133 (by decide) ?_
        exact W.iret hx hb hr (v := (-r_10)) (fun t ht hW => ⟨⟨(-r_10), v_10, rfl, he.symm, by rw [ht]; exact hP, va_K.moved hW.alike hK, hD⟩, hS.F ht⟩) hS.2.2 d_Rn_readNumber_138
  · have he := he.trans (if_neg c_1)
    refine lv_iconst (v := 0) hx hb d_Rn_readNumber_73 (by decide) ?_
    exact W.iret hx hb hr (v := 0) (fun t ht hW => ⟨⟨0, u, rfl, he.symm, by rw [ht]; exact hP, va_K.moved hW.alike hK, hD⟩, hS.F ht⟩) hS.2.2 d_Rn_readNumber_74
noncomputable def f_Rn_readNumber_11 (op : TBk → TRn → Int32 → TRn) : Nat → TBk → TRn → Int32 → Int32 → Int32 → Int32 → (Int32 × TRn)
  | 0, _, u, _, _, _, _ => (0, u)
  | n + 1, b, u, x1, x2, x3, x4 => (if 1000000 ≤ x4 then (f_Rn_readNumber_66 op b u x1 x2 x3) else (if x3 = 3115 then (if x3 = 3117 then (if x2 = 1 then (match f_Rn_readGoneOnWith op b u x1 with | (r_8, v_8) => (f_Rn_readNumber_11 op n b v_8 x1 0 r_8 (x4 + 1))) else (match f_Rn_readGoneOnWith op b u x1 with | (r_9, v_9) => (f_Rn_readNumber_11 op n b v_9 x1 1 r_9 (x4 + 1)))) else (if x2 = 0 then (match f_Rn_readGoneOnWith op b u x1 with | (r_5, v_5) => (f_Rn_readNumber_11 op n b v_5 x1 0 r_5 (x4 + 1))) else (match f_Rn_readGoneOnWith op b u x1 with | (r_6, v_6) => (f_Rn_readNumber_11 op n b v_6 x1 1 r_6 (x4 + 1))))) else (if x3 = 3117 then (if x2 = 1 then (match f_Rn_readGoneOnWith op b u x1 with | (r_13, v_13) => (f_Rn_readNumber_11 op n b v_13 x1 0 r_13 (x4 + 1))) else (match f_Rn_readGoneOnWith op b u x1 with | (r_14, v_14) => (f_Rn_readNumber_11 op n b v_14 x1 1 r_14 (x4 + 1)))) else (f_Rn_readNumber_66 op b u x1 x2 x3))))
set_option maxHeartbeats 4000000 in
set_option maxRecDepth 100000 in
theorem k_Rn_readNumber_11 {p : Program} {e : Env} {s : State} {m : MethodId} {args : Array Value} {below : List Frame} {meth : Method} {c : Code} {A : Nat → Prop} (l : Launch) (dC : Nat → ClassId) (dI : Nat → Nat → Nat) (ad : Nat → Nat) (ca : Nat → ClassId) (op : TBk → TRn → Int32 → TRn) (rf rl : Nat) (k : Int) (hopm : ∀ (b : TBk) (u : TRn) (w : Int32), k ≤ oc u → oc u ≤ oc (op b u w)) (hop : ∀ (sz : Nat) (b : TBk) (u : TRn) (w : Int32), BkS b ∧ k ≤ oc u → wx_Mv l y_Rn_open ws_Rn_open ({ frames := rf, cells := 0, slots := 0, locals := rl } : Room) (dC, dI) vwCl (t_R ca) [.ref (ad 0), .int w] (w_R ad ca b u) sz (fun v : TRn => w_R ad ca b v) (fun v : TRn => v = op b u w)) (C0 : wx_C p s m args meth c b_Rn_readNumber (some .int) 5 R_Rn A (dC, dI) vwCl (t_R ca)) (F : (Int32 × TRn)) : ∀ (n : Nat) (b : TBk) (u : TRn) (x1 : Int32) (x2 : Int32) (x3 : Int32) (x4 : Int32), ((BkS b ∧ k ≤ x1.toInt ∧ x1.toInt ≤ oc u) ∧ TLn 1000000 x4 n) → F = f_Rn_readNumber_11 op n b u x1 x2 x3 x4 → ∀ (H : Heap) (locs : List Loc), va_P (dC, dI) vwCl (w_R ad ca b u) H → va_D A (w_R ad ca b u) → va_S A s.heap H locs → ∀ (ls : Array Slot), lv_has ls 5 [(0, .ref (ad 0)), (1, .int x1), (2, .int x2), (3, .int x3), (4, .int x4)] → W p l e ({ frames := rf + 9, cells := 0, slots := 0, locals := rl + 205 } : Room) s m args below meth c H locs 0 0 (MQ below (va_Qi (fun (r : Int32) (v : TRn) => (r, v) = F) (wx_B (dC, dI) vwCl (t_R ca) (fun v : TRn => w_R ad ca b v) A) A) args s 0 0 A) (F0 m 11 ls []) := by
  have C1 := C0
  obtain ⟨hx, hb, hr, hml, hown, ht, hlocks, hA, hK, hN⟩ := C1
  intro n
  induction n with
  | zero =>
    intro b u x1 x2 x3 x4 hc he
    exact absurd hc (fun h => TLn_0 h.2)
  | succ n ih =>
    intro b u x1 x2 x3 x4 hc he H locs hP hD hS ls hl
    rw [f_Rn_readNumber_11] at he
    refine lv_iload hx hb d_Rn_readNumber_11 (lv_at hl 4 rfl) ?_
    refine lv_ldc (v := 1000000) hx hb hown (ht _ q_257) d_Rn_readNumber_13 ?_
    refine lv_icmp_ge (tgt := 66) hx hb d_Rn_readNumber_15 (by decide) (fun c_1 => ?_) (fun c_1 => ?_)
    · have he := he.trans (if_pos c_1)
      exact k_Rn_readNumber_66 l dC dI ad ca op rf rl k hopm hop C0 F b u x1 x2 x3 hc.1 he _ _ hP hD hS _ (lv_sub hl [0, 1, 2, 3] rfl)
    · have he := he.trans (if_neg c_1)
      refine lv_iload_n hx hb d_Rn_readNumber_18 rfl (lv_at hl 3 rfl) ?_
      refine lv_sipush (v := 3115) hx hb d_Rn_readNumber_19 (by decide) ?_
      refine lv_icmp_eq (tgt := 32) hx hb d_Rn_readNumber_22 (by decide) (fun c_2 => ?_) (fun c_2 => ?_)
      · have he := he.trans (if_pos c_2)
        refine lv_iload_n hx hb d_Rn_readNumber_32 rfl (lv_at hl 2 rfl) ?_
        refine lv_iload_n hx hb d_Rn_readNumber_33 rfl (lv_at hl 3 rfl) ?_
        refine lv_sipush (v := 3117) hx hb d_Rn_readNumber_34 (by decide) ?_
        refine lv_icmp_ne (tgt := 44) hx hb d_Rn_readNumber_37 (by decide) (fun c_3 => ?_) (fun c_3 => ?_)
        · have he := he.trans (if_neg c_3)
          refine lv_iconst (v := 0) hx hb d_Rn_readNumber_44 (by decide) ?_
          refine lv_icmp_eq (tgt := 52) hx hb d_Rn_readNumber_45 (by decide) (fun c_4 => ?_) (fun c_4 => ?_)
          · have he := he.trans (if_pos c_4)
            refine lv_iconst (v := 0) hx hb d_Rn_readNumber_52 (by decide) ?_
            refine lv_istore_n (lv' := [(2, .int 0), (0, .ref (ad 0)), (1, .int x1), (3, .int x3), (4, .int x4)]) hx hb d_Rn_readNumber_53 rfl hl (by decide) rfl (fun ls hl => ?_)
            refine lv_aload_n hx hb d_Rn_readNumber_54 rfl (lv_at hl 1 rfl) ?_
            refine lv_iload_n hx hb d_Rn_readNumber_55 rfl (lv_at hl 2 rfl) ?_
            refine wx_ci (wS := fun v : TRn => w_R ad ca b v) (ws2 := fun v : TRn => w_R ad ca b v) (va_runV (As := [.int x1]) (rest := []) ⟨hx, hb, hml, hown, ht⟩ (c_Rn_readGoneOnWith l dC dI ad ca op rf rl k hopm hop H.size b u x1 hc.1 _ rfl) (cwV 1 ht (tb_V q_315 q_317 q_9 q_46 q_318) rfl rfl rfl p_Rn_readGoneOnWith ⟨show (rf + 7) + 1 ≤ rf + 9 by omega, show 8 + (4 + 11) + (rl + 157) ≤ rl + 205 by omega⟩) (wx_preV (wc := (w_R ad ca b u)) hN hK hP hD [0, 1, 2, 3, 4, 5, 6, 7, 8, 9, 10, 11, 12, 13, 14] [0, 1, 2, 3, 4, 5, 6, 7, 8, 9, 10, 11] rfl (by decide) rfl (ci := 2) (q0 := 0) rfl rfl) rfl rfl hl.1 rfl (lv_room (Nat.le_of_ble_eq_true rfl)) d_Rn_readNumber_56 ⟨Nat.zero_le _, Nat.zero_le _⟩) hP hD hS hA [0, 1, 2, 3, 4, 5, 6, 7, 8, 9, 10, 11, 12, 13, 14] [] [0, 1, 2, 3, 4, 5, 6, 7, 8, 9, 10, 11, 12, 13, 14] rfl rfl (by decide) (by decide) (by decide) (fun _ => rfl) (fun r_5 v_5 H locs hw_5 hP hD hS => ?_)
            have hP : va_P (dC, dI) vwCl (w_R ad ca b v_5) H := hP
            have hD : va_D A (w_R ad ca b v_5) := hD
            rw [← hw_5] at he
            try dsimp only at he
            refine lv_istore_n (lv' := [(3, .int r_5), (2, .int 0), (0, .ref (ad 0)), (1, .int x1), (4, .int x4)]) hx hb d_Rn_readNumber_59 rfl hl (by decide) rfl (fun ls hl => ?_)
            refine lv_iinc (v := (x4 + 1)) (lv' := [(4, .int (x4 + 1)), (3, .int r_5), (2, .int 0), (0, .ref (ad 0)), (1, .int x1)]) hx hb d_Rn_readNumber_60 hl (k := 4) rfl rfl (by decide) rfl (fun ls hl => ?_)
            refine lv_goto (tgt := 11) hx hb d_Rn_readNumber_63 (by decide) ?_
            exact ih b v_5 x1 0 r_5 (x4 + 1) ⟨⟨hc.1.1, hc.1.2.1, oc_rg op k hopm hw_5 hc.1.2.1 hc.1.2.2⟩, TLn_s hc.2 (by decide) c_1⟩ he _ _ hP hD hS _ (lv_sub hl [3, 4, 2, 1, 0] rfl)
          · have he := he.trans (if_neg c_4)
            refine lv_iconst (v := 1) hx hb d_Rn_readNumber_48 (by decide) ?_
            refine lv_goto (tgt := 53) hx hb d_Rn_readNumber_49 (by decide) ?_
            refine lv_istore_n (lv' := [(2, .int 1), (0, .ref (ad 0)), (1, .int x1), (3, .int x3), (4, .int x4)]) hx hb d_Rn_readNumber_53 rfl hl (by decide) rfl (fun ls hl => ?_)
            refine lv_aload_n hx hb d_Rn_readNumber_54 rfl (lv_at hl 1 rfl) ?_
            refine lv_iload_n hx hb d_Rn_readNumber_55 rfl (lv_at hl 2 rfl) ?_
            refine wx_ci (wS := fun v : TRn => w_R ad ca b v) (ws2 := fun v : TRn => w_R ad ca b v) (va_runV (As := [.int x1]) (rest := []) ⟨hx, hb, hml, hown, ht⟩ (c_Rn_readGoneOnWith l dC dI ad ca op rf rl k hopm hop H.size b u x1 hc.1 _ rfl) (cwV 1 ht (tb_V q_315 q_317 q_9 q_46 q_318) rfl rfl rfl p_Rn_readGoneOnWith ⟨show (rf + 7) + 1 ≤ rf + 9 by omega, show 8 + (4 + 11) + (rl + 157) ≤ rl + 205 by omega⟩) (wx_preV (wc := (w_R ad ca b u)) hN hK hP hD [0, 1, 2, 3, 4, 5, 6, 7, 8, 9, 10, 11, 12, 13, 14] [0, 1, 2, 3, 4, 5, 6, 7, 8, 9, 10, 11] rfl (by decide) rfl (ci := 2) (q0 := 0) rfl rfl) rfl rfl hl.1 rfl (lv_room (Nat.le_of_ble_eq_true rfl)) d_Rn_readNumber_56 ⟨Nat.zero_le _, Nat.zero_le _⟩) hP hD hS hA [0, 1, 2, 3, 4, 5, 6, 7, 8, 9, 10, 11, 12, 13, 14] [] [0, 1, 2, 3, 4, 5, 6, 7, 8, 9, 10, 11, 12, 13, 14] rfl rfl (by decide) (by decide) (by decide) (fun _ => rfl) (fun r_6 v_6 H locs hw_6 hP hD hS => ?_)
            have hP : va_P (dC, dI) vwCl (w_R ad ca b v_6) H := hP
            have hD : va_D A (w_R ad ca b v_6) := hD
            rw [← hw_6] at he
            try dsimp only at he
            refine lv_istore_n (lv' := [(3, .int r_6), (2, .int 1), (0, .ref (ad 0)), (1, .int x1), (4, .int x4)]) hx hb d_Rn_readNumber_59 rfl hl (by decide) rfl (fun ls hl => ?_)
            refine lv_iinc (v := (x4 + 1)) (lv' := [(4, .int (x4 + 1)), (3, .int r_6), (2, .int 1), (0, .ref (ad 0)), (1, .int x1)]) hx hb d_Rn_readNumber_60 hl (k := 4) rfl rfl (by decide) rfl (fun ls hl => ?_)
            refine lv_goto (tgt := 11) hx hb d_Rn_readNumber_63 (by decide) ?_
            exact ih b v_6 x1 1 r_6 (x4 + 1) ⟨⟨hc.1.1, hc.1.2.1, oc_rg op k hopm hw_6 hc.1.2.1 hc.1.2.2⟩, TLn_s hc.2 (by decide) c_1⟩ he _ _ hP hD hS _ (lv_sub hl [3, 4, 2, 1, 0] rfl)
        · have he := he.trans (if_pos c_3)
          refine lv_iconst (v := 1) hx hb d_Rn_readNumber_40 (by decide) ?_
          refine lv_goto (tgt := 45) hx hb d_Rn_readNumber_41 (by decide) ?_
          refine lv_icmp_eq (tgt := 52) hx hb d_Rn_readNumber_45 (by decide) (fun c_7 => ?_) (fun c_7 => ?_)
          · have he := he.trans (if_pos c_7)
            refine lv_iconst (v := 0) hx hb d_Rn_readNumber_52 (by decide) ?_
            refine lv_istore_n (lv' := [(2, .int 0), (0, .ref (ad 0)), (1, .int x1), (3, .int x3), (4, .int x4)]) hx hb d_Rn_readNumber_53 rfl hl (by decide) rfl (fun ls hl => ?_)
            refine lv_aload_n hx hb d_Rn_readNumber_54 rfl (lv_at hl 1 rfl) ?_
            refine lv_iload_n hx hb d_Rn_readNumber_55 rfl (lv_at hl 2 rfl) ?_
            refine wx_ci (wS := fun v : TRn => w_R ad ca b v) (ws2 := fun v : TRn => w_R ad ca b v) (va_runV (As := [.int x1]) (rest := []) ⟨hx, hb, hml, hown, ht⟩ (c_Rn_readGoneOnWith l dC dI ad ca op rf rl k hopm hop H.size b u x1 hc.1 _ rfl) (cwV 1 ht (tb_V q_315 q_317 q_9 q_46 q_318) rfl rfl rfl p_Rn_readGoneOnWith ⟨show (rf + 7) + 1 ≤ rf + 9 by omega, show 8 + (4 + 11) + (rl + 157) ≤ rl + 205 by omega⟩) (wx_preV (wc := (w_R ad ca b u)) hN hK hP hD [0, 1, 2, 3, 4, 5, 6, 7, 8, 9, 10, 11, 12, 13, 14] [0, 1, 2, 3, 4, 5, 6, 7, 8, 9, 10, 11] rfl (by decide) rfl (ci := 2) (q0 := 0) rfl rfl) rfl rfl hl.1 rfl (lv_room (Nat.le_of_ble_eq_true rfl)) d_Rn_readNumber_56 ⟨Nat.zero_le _, Nat.zero_le _⟩) hP hD hS hA [0, 1, 2, 3, 4, 5, 6, 7, 8, 9, 10, 11, 12, 13, 14] [] [0, 1, 2, 3, 4, 5, 6, 7, 8, 9, 10, 11, 12, 13, 14] rfl rfl (by decide) (by decide) (by decide) (fun _ => rfl) (fun r_8 v_8 H locs hw_8 hP hD hS => ?_)
            have hP : va_P (dC, dI) vwCl (w_R ad ca b v_8) H := hP
            have hD : va_D A (w_R ad ca b v_8) := hD
            rw [← hw_8] at he
            try dsimp only at he
            refine lv_istore_n (lv' := [(3, .int r_8), (2, .int 0), (0, .ref (ad 0)), (1, .int x1), (4, .int x4)]) hx hb d_Rn_readNumber_59 rfl hl (by decide) rfl (fun ls hl => ?_)
            refine lv_iinc (v := (x4 + 1)) (lv' := [(4, .int (x4 + 1)), (3, .int r_8), (2, .int 0), (0, .ref (ad 0)), (1, .int x1)]) hx hb d_Rn_readNumber_60 hl (k := 4) rfl rfl (by decide) rfl (fun ls hl => ?_)
            refine lv_goto (tgt := 11) hx hb d_Rn_readNumber_63 (by decide) ?_
            exact ih b v_8 x1 0 r_8 (x4 + 1) ⟨⟨hc.1.1, hc.1.2.1, oc_rg op k hopm hw_8 hc.1.2.1 hc.1.2.2⟩, TLn_s hc.2 (by decide) c_1⟩ he _ _ hP hD hS _ (lv_sub hl [3, 4, 2, 1, 0] rfl)
          · have he := he.trans (if_neg c_7)
            refine lv_iconst (v := 1) hx hb d_Rn_readNumber_48 (by decide) ?_
            refine lv_goto (tgt := 53) hx hb d_Rn_readNumber_49 (by decide) ?_
            refine lv_istore_n (lv' := [(2, .int 1), (0, .ref (ad 0)), (1, .int x1), (3, .int x3), (4, .int x4)]) hx hb d_Rn_readNumber_53 rfl hl (by decide) rfl (fun ls hl => ?_)
            refine lv_aload_n hx hb d_Rn_readNumber_54 rfl (lv_at hl 1 rfl) ?_
            refine lv_iload_n hx hb d_Rn_readNumber_55 rfl (lv_at hl 2 rfl) ?_
            refine wx_ci (wS := fun v : TRn => w_R ad ca b v) (ws2 := fun v : TRn => w_R ad ca b v) (va_runV (As := [.int x1]) (rest := []) ⟨hx, hb, hml, hown, ht⟩ (c_Rn_readGoneOnWith l dC dI ad ca op rf rl k hopm hop H.size b u x1 hc.1 _ rfl) (cwV 1 ht (tb_V q_315 q_317 q_9 q_46 q_318) rfl rfl rfl p_Rn_readGoneOnWith ⟨show (rf + 7) + 1 ≤ rf + 9 by omega, show 8 + (4 + 11) + (rl + 157) ≤ rl + 205 by omega⟩) (wx_preV (wc := (w_R ad ca b u)) hN hK hP hD [0, 1, 2, 3, 4, 5, 6, 7, 8, 9, 10, 11, 12, 13, 14] [0, 1, 2, 3, 4, 5, 6, 7, 8, 9, 10, 11] rfl (by decide) rfl (ci := 2) (q0 := 0) rfl rfl) rfl rfl hl.1 rfl (lv_room (Nat.le_of_ble_eq_true rfl)) d_Rn_readNumber_56 ⟨Nat.zero_le _, Nat.zero_le _⟩) hP hD hS hA [0, 1, 2, 3, 4, 5, 6, 7, 8, 9, 10, 11, 12, 13, 14] [] [0, 1, 2, 3, 4, 5, 6, 7, 8, 9, 10, 11, 12, 13, 14] rfl rfl (by decide) (by decide) (by decide) (fun _ => rfl) (fun r_9 v_9 H locs hw_9 hP hD hS => ?_)
            have hP : va_P (dC, dI) vwCl (w_R ad ca b v_9) H := hP
            have hD : va_D A (w_R ad ca b v_9) := hD
            rw [← hw_9] at he
            try dsimp only at he
            refine lv_istore_n (lv' := [(3, .int r_9), (2, .int 1), (0, .ref (ad 0)), (1, .int x1), (4, .int x4)]) hx hb d_Rn_readNumber_59 rfl hl (by decide) rfl (fun ls hl => ?_)
            refine lv_iinc (v := (x4 + 1)) (lv' := [(4, .int (x4 + 1)), (3, .int r_9), (2, .int 1), (0, .ref (ad 0)), (1, .int x1)]) hx hb d_Rn_readNumber_60 hl (k := 4) rfl rfl (by decide) rfl (fun ls hl => ?_)
            refine lv_goto (tgt := 11) hx hb d_Rn_readNumber_63 (by decide) ?_
            exact ih b v_9 x1 1 r_9 (x4 + 1) ⟨⟨hc.1.1, hc.1.2.1, oc_rg op k hopm hw_9 hc.1.2.1 hc.1.2.2⟩, TLn_s hc.2 (by decide) c_1⟩ he _ _ hP hD hS _ (lv_sub hl [3, 4, 2, 1, 0] rfl)
      · have he := he.trans (if_neg c_2)
        refine lv_iload_n hx hb d_Rn_readNumber_25 rfl (lv_at hl 3 rfl) ?_
        refine lv_sipush (v := 3117) hx hb d_Rn_readNumber_26 (by decide) ?_
        refine lv_icmp_ne (tgt := 66) hx hb d_Rn_readNumber_29 (by decide) (fun c_10 => ?_) (fun c_10 => ?_)
        · have he := he.trans (if_neg c_10)
          exact k_Rn_readNumber_66 l dC dI ad ca op rf rl k hopm hop C0 F b u x1 x2 x3 hc.1 he _ _ hP hD hS _ (lv_sub hl [0, 1, 2, 3] rfl)
        · have he := he.trans (if_pos c_10)
          refine lv_iload_n hx hb d_Rn_readNumber_32 rfl (lv_at hl 2 rfl) ?_
          refine lv_iload_n hx hb d_Rn_readNumber_33 rfl (lv_at hl 3 rfl) ?_
          refine lv_sipush (v := 3117) hx hb d_Rn_readNumber_34 (by decide) ?_
          refine lv_icmp_ne (tgt := 44) hx hb d_Rn_readNumber_37 (by decide) (fun c_11 => ?_) (fun c_11 => ?_)
          · exact absurd c_10 c_11
          · refine lv_iconst (v := 1) hx hb d_Rn_readNumber_40 (by decide) ?_
            refine lv_goto (tgt := 45) hx hb d_Rn_readNumber_41 (by decide) ?_
            refine lv_icmp_eq (tgt := 52) hx hb d_Rn_readNumber_45 (by decide) (fun c_12 => ?_) (fun c_12 => ?_)
            · have he := he.trans (if_pos c_12)
              refine lv_iconst (v := 0) hx hb d_Rn_readNumber_52 (by decide) ?_
              refine lv_istore_n (lv' := [(2, .int 0), (0, .ref (ad 0)), (1, .int x1), (3, .int x3), (4, .int x4)]) hx hb d_Rn_readNumber_53 rfl hl (by decide) rfl (fun ls hl => ?_)
              refine lv_aload_n hx hb d_Rn_readNumber_54 rfl (lv_at hl 1 rfl) ?_
              refine lv_iload_n hx hb d_Rn_readNumber_55 rfl (lv_at hl 2 rfl) ?_
              refine wx_ci (wS := fun v : TRn => w_R ad ca b v) (ws2 := fun v : TRn => w_R ad ca b v) (va_runV (As := [.int x1]) (rest := []) ⟨hx, hb, hml, hown, ht⟩ (c_Rn_readGoneOnWith l dC dI ad ca op rf rl k hopm hop H.size b u x1 hc.1 _ rfl) (cwV 1 ht (tb_V q_315 q_317 q_9 q_46 q_318) rfl rfl rfl p_Rn_readGoneOnWith ⟨show (rf + 7) + 1 ≤ rf + 9 by omega, show 8 + (4 + 11) + (rl + 157) ≤ rl + 205 by omega⟩) (wx_preV (wc := (w_R ad ca b u)) hN hK hP hD [0, 1, 2, 3, 4, 5, 6, 7, 8, 9, 10, 11, 12, 13, 14] [0, 1, 2, 3, 4, 5, 6, 7, 8, 9, 10, 11] rfl (by decide) rfl (ci := 2) (q0 := 0) rfl rfl) rfl rfl hl.1 rfl (lv_room (Nat.le_of_ble_eq_true rfl)) d_Rn_readNumber_56 ⟨Nat.zero_le _, Nat.zero_le _⟩) hP hD hS hA [0, 1, 2, 3, 4, 5, 6, 7, 8, 9, 10, 11, 12, 13, 14] [] [0, 1, 2, 3, 4, 5, 6, 7, 8, 9, 10, 11, 12, 13, 14] rfl rfl (by decide) (by decide) (by decide) (fun _ => rfl) (fun r_13 v_13 H locs hw_13 hP hD hS => ?_)
              have hP : va_P (dC, dI) vwCl (w_R ad ca b v_13) H := hP
              have hD : va_D A (w_R ad ca b v_13) := hD
              rw [← hw_13] at he
              try dsimp only at he
              refine lv_istore_n (lv' := [(3, .int r_13), (2, .int 0), (0, .ref (ad 0)), (1, .int x1), (4, .int x4)]) hx hb d_Rn_readNumber_59 rfl hl (by decide) rfl (fun ls hl => ?_)
              refine lv_iinc (v := (x4 + 1)) (lv' := [(4, .int (x4 + 1)), (3, .int r_13), (2, .int 0), (0, .ref (ad 0)), (1, .int x1)]) hx hb d_Rn_readNumber_60 hl (k := 4) rfl rfl (by decide) rfl (fun ls hl => ?_)
              refine lv_goto (tgt := 11) hx hb d_Rn_readNumber_63 (by decide) ?_
              exact ih b v_13 x1 0 r_13 (x4 + 1) ⟨⟨hc.1.1, hc.1.2.1, oc_rg op k hopm hw_13 hc.1.2.1 hc.1.2.2⟩, TLn_s hc.2 (by decide) c_1⟩ he _ _ hP hD hS _ (lv_sub hl [3, 4, 2, 1, 0] rfl)
            · have he := he.trans (if_neg c_12)
              refine lv_iconst (v := 1) hx hb d_Rn_readNumber_48 (by decide) ?_
              refine lv_goto (tgt := 53) hx hb d_Rn_readNumber_49 (by decide) ?_
              refine lv_istore_n (lv' := [(2, .int 1), (0, .ref (ad 0)), (1, .int x1), (3, .int x3), (4, .int x4)]) hx hb d_Rn_readNumber_53 rfl hl (by decide) rfl (fun ls hl => ?_)
              refine lv_aload_n hx hb d_Rn_readNumber_54 rfl (lv_at hl 1 rfl) ?_
              refine lv_iload_n hx hb d_Rn_readNumber_55 rfl (lv_at hl 2 rfl) ?_
              refine wx_ci (wS := fun v : TRn => w_R ad ca b v) (ws2 := fun v : TRn => w_R ad ca b v) (va_runV (As := [.int x1]) (rest := []) ⟨hx, hb, hml, hown, ht⟩ (c_Rn_readGoneOnWith l dC dI ad ca op rf rl k hopm hop H.size b u x1 hc.1 _ rfl) (cwV 1 ht (tb_V q_315 q_317 q_9 q_46 q_318) rfl rfl rfl p_Rn_readGoneOnWith ⟨show (rf + 7) + 1 ≤ rf + 9 by omega, show 8 + (4 + 11) + (rl + 157) ≤ rl + 205 by omega⟩) (wx_preV (wc := (w_R ad ca b u)) hN hK hP hD [0, 1, 2, 3, 4, 5, 6, 7, 8, 9, 10, 11, 12, 13, 14] [0, 1, 2, 3, 4, 5, 6, 7, 8, 9, 10, 11] rfl (by decide) rfl (ci := 2) (q0 := 0) rfl rfl) rfl rfl hl.1 rfl (lv_room (Nat.le_of_ble_eq_true rfl)) d_Rn_readNumber_56 ⟨Nat.zero_le _, Nat.zero_le _⟩) hP hD hS hA [0, 1, 2, 3, 4, 5, 6, 7, 8, 9, 10, 11, 12, 13, 14] [] [0, 1, 2, 3, 4, 5, 6, 7, 8, 9, 10, 11, 12, 13, 14] rfl rfl (by decide) (by decide) (by decide) (fun _ => rfl) (fun r_14 v_14 H locs hw_14 hP hD hS => ?_)
              have hP : va_P (dC, dI) vwCl (w_R ad ca b v_14) H := hP
              have hD : va_D A (w_R ad ca b v_14) := hD
              rw [← hw_14] at he
              try dsimp only at he
              refine lv_istore_n (lv' := [(3, .int r_14), (2, .int 1), (0, .ref (ad 0)), (1, .int x1), (4, .int x4)]) hx hb d_Rn_readNumber_59 rfl hl (by decide) rfl (fun ls hl => ?_)
              refine lv_iinc (v := (x4 + 1)) (lv' := [(4, .int (x4 + 1)), (3, .int r_14), (2, .int 1), (0, .ref (ad 0)), (1, .int x1)]) hx hb d_Rn_readNumber_60 hl (k := 4) rfl rfl (by decide) rfl (fun ls hl => ?_)
              refine lv_goto (tgt := 11) hx hb d_Rn_readNumber_63 (by decide) ?_
              exact ih b v_14 x1 1 r_14 (x4 + 1) ⟨⟨hc.1.1, hc.1.2.1, oc_rg op k hopm hw_14 hc.1.2.1 hc.1.2.2⟩, TLn_s hc.2 (by decide) c_1⟩ he _ _ hP hD hS _ (lv_sub hl [3, 4, 2, 1, 0] rfl)
noncomputable def f_Rn_readNumber (op : TBk → TRn → Int32 → TRn) (b : TBk) (u : TRn) (p0 : Int32) : (Int32 × TRn) := (match f_Rn_readGoneOnWith op b u p0 with | (r_1, v_1) => (f_Rn_readNumber_11 op TM b v_1 p0 0 r_1 0))
set_option maxHeartbeats 4000000 in
set_option maxRecDepth 100000 in
theorem c_Rn_readNumber (l : Launch) (dC : Nat → ClassId) (dI : Nat → Nat → Nat) (ad : Nat → Nat) (ca : Nat → ClassId) (op : TBk → TRn → Int32 → TRn) (rf rl : Nat) (k : Int) (hopm : ∀ (b : TBk) (u : TRn) (w : Int32), k ≤ oc u → oc u ≤ oc (op b u w)) (hop : ∀ (sz : Nat) (b : TBk) (u : TRn) (w : Int32), BkS b ∧ k ≤ oc u → wx_Mv l y_Rn_open ws_Rn_open ({ frames := rf, cells := 0, slots := 0, locals := rl } : Room) (dC, dI) vwCl (t_R ca) [.ref (ad 0), .int w] (w_R ad ca b u) sz (fun v : TRn => w_R ad ca b v) (fun v : TRn => v = op b u w)) (sz : Nat) (b : TBk) (u : TRn) (p0 : Int32) (hpre : BkS b ∧ k ≤ p0.toInt ∧ p0.toInt ≤ oc u) (F : (Int32 × TRn)) (he : F = f_Rn_readNumber op b u p0) : wx_Mi l y_Rn_readNumber ws_Rn_readNumber ({ frames := rf + 9, cells := 0, slots := 0, locals := rl + 205 } : Room) (dC, dI) vwCl (t_R ca) [.ref (ad 0), .int p0] (w_R ad ca b u) sz (fun v : TRn => w_R ad ca b v) (fun (r : Int32) (v : TRn) => (r, v) = F) := by
  refine Met.ofW (cc := b_Rn_readNumber) (maxL := 5) (ret := some .int) (by decide) rfl ?_
  intro p e s m args below meth c s₁ B hml hv
  obtain ⟨rfl, hsz, hP, hK, hD0, hN⟩ := hv
  have hx := B.exec
  have hb := B.bytes
  have hr := B.returns
  have hts := atoms_spec (ws := ws_Rn_readNumber) B.pre
  have ht : ∀ w ∈ TB, w.before _ s = true := fun w h => hts w (List.mem_cons_of_mem _ h)
  have hown : s.vm.findClass R_Rn = some m.cls := findClass_of_methodNamed B.named
  have hlocks := B.notSynchronized
  subst hsz
  have hD := hD0.self (sz := s.heap.size)
  generalize hAe : va_A (w_R ad ca b u) s.heap.size = A at hD ⊢
  have hA : ∀ q : Nat, s.heap.size ≤ q → A q := fun q h => by rw [← hAe]; exact Or.inr h
  have hS : va_S A s.heap s.heap [] := va_S.rf
  have C0 : wx_C p s m ([.ref (ad 0), .int p0] : List Value).toArray meth c b_Rn_readNumber (some .int) 5 R_Rn A (dC, dI) vwCl (t_R ca) := ⟨hx, hb, hr, hml, hown, ht, hlocks, hA, hK, hN⟩
  have hl := lv_entry ([.ref (ad 0), .int p0]) (n := 5) (Nat.le_of_ble_eq_true rfl)
  rw [lg_entry_eq]
  generalize (lg_sl ([.ref (ad 0), .int p0]) ++ List.replicate (5 - (lg_sl ([.ref (ad 0), .int p0])).length) Slot.unset).toArray = ls at hl ⊢
  have hl : lv_has ls 5 [(0, .ref (ad 0)), (1, .int p0)] := hl
  unfold f_Rn_readNumber at he
  refine lv_iconst (v := 0) hx hb d_Rn_readNumber_0 (by decide) ?_
  refine lv_istore_n (lv' := [(2, .int 0), (0, .ref (ad 0)), (1, .int p0)]) hx hb d_Rn_readNumber_1 rfl hl (by decide) rfl (fun ls hl => ?_)
  refine lv_aload_n hx hb d_Rn_readNumber_2 rfl (lv_at hl 1 rfl) ?_
  refine lv_iload_n hx hb d_Rn_readNumber_3 rfl (lv_at hl 2 rfl) ?_
  refine wx_ci (wS := fun v : TRn => w_R ad ca b v) (ws2 := fun v : TRn => w_R ad ca b v) (va_runV (As := [.int p0]) (rest := []) ⟨hx, hb, hml, hown, ht⟩ (c_Rn_readGoneOnWith l dC dI ad ca op rf rl k hopm hop s.heap.size b u p0 hpre _ rfl) (cwV 1 ht (tb_V q_315 q_317 q_9 q_46 q_318) rfl rfl rfl p_Rn_readGoneOnWith ⟨show (rf + 7) + 1 ≤ rf + 9 by omega, show 8 + (4 + 11) + (rl + 157) ≤ rl + 205 by omega⟩) (wx_preV (wc := (w_R ad ca b u)) hN hK hP hD [0, 1, 2, 3, 4, 5, 6, 7, 8, 9, 10, 11, 12, 13, 14] [0, 1, 2, 3, 4, 5, 6, 7, 8, 9, 10, 11] rfl (by decide) rfl (ci := 2) (q0 := 0) rfl rfl) rfl rfl hl.1 rfl (lv_room (Nat.le_of_ble_eq_true rfl)) d_Rn_readNumber_4 ⟨Nat.zero_le _, Nat.zero_le _⟩) hP hD hS hA [0, 1, 2, 3, 4, 5, 6, 7, 8, 9, 10, 11, 12, 13, 14] [] [0, 1, 2, 3, 4, 5, 6, 7, 8, 9, 10, 11, 12, 13, 14] rfl rfl (by decide) (by decide) (by decide) (fun _ => rfl) (fun r_1 v_1 H locs hw_1 hP hD hS => ?_)
  have hP : va_P (dC, dI) vwCl (w_R ad ca b v_1) H := hP
  have hD : va_D A (w_R ad ca b v_1) := hD
  rw [← hw_1] at he
  try dsimp only at he
  refine lv_istore_n (lv' := [(3, .int r_1), (2, .int 0), (0, .ref (ad 0)), (1, .int p0)]) hx hb d_Rn_readNumber_7 rfl hl (by decide) rfl (fun ls hl => ?_)
  refine lv_iconst (v := 0) hx hb d_Rn_readNumber_8 (by decide) ?_
  refine lv_istore (lv' := [(4, .int 0), (3, .int r_1), (2, .int 0), (0, .ref (ad 0)), (1, .int p0)]) hx hb d_Rn_readNumber_9 hl (by decide) rfl (fun ls hl => ?_)
  exact k_Rn_readNumber_11 l dC dI ad ca op rf rl k hopm hop C0 F TM b v_1 p0 0 r_1 0 ⟨⟨hpre.1, hpre.2.1, oc_rg op k hopm hw_1 hpre.2.1 hpre.2.2⟩, TLn_m⟩ he _ _ hP hD hS _ (lv_sub hl [3, 4, 2, 1, 0] rfl)
end
section
theorem oc_rn66 (op : TBk → TRn → Int32 → TRn) (k : Int) (hopm : ∀ (b : TBk) (u : TRn) (w : Int32), k ≤ oc u → oc u ≤ oc (op b u w)) (b : TBk) (u : TRn) (x1 x2 x3 : Int32) (h1 : k ≤ x1.toInt) (h2 : x1.toInt ≤ oc u) : x1.toInt ≤ oc (f_Rn_readNumber_66 op b u x1 x2 x3).2 := by
  unfold f_Rn_readNumber_66
  rcases hl : f_Rn_readDigits op b u x3 x1 with ⟨r, v⟩
  have h3 : x1.toInt ≤ oc v := oc_rdg op k hopm hl.symm h1 h2
  dsimp only
  repeat' split
  all_goals try dsimp only
  all_goals first
    | (rw [oc_fail]; exact h2)
    | with_reducible exact h2
    | with_reducible exact h3
theorem oc_rn11 (op : TBk → TRn → Int32 → TRn) (k : Int) (hopm : ∀ (b : TBk) (u : TRn) (w : Int32), k ≤ oc u → oc u ≤ oc (op b u w)) (n : Nat) : ∀ (b : TBk) (u : TRn) (x1 x2 x3 x4 : Int32), k ≤ x1.toInt → x1.toInt ≤ oc u → x1.toInt ≤ oc (f_Rn_readNumber_11 op n b u x1 x2 x3 x4).2 := by
  induction n with
  | zero =>
    intro b u x1 x2 x3 x4 h1 h2
    rw [f_Rn_readNumber_11]
    exact h2
  | succ n ih =>
    intro b u x1 x2 x3 x4 h1 h2
    rw [f_Rn_readNumber_11]
    rcases hl : f_Rn_readGoneOnWith op b u x1 with ⟨r, v⟩
    have h3 : x1.toInt ≤ oc v := oc_rg op k hopm hl.symm h1 h2
    dsimp only
    repeat' split
    all_goals try dsimp only
    all_goals first
      | with_reducible exact oc_rn66 op k hopm _ _ _ _ _ h1 h2
      | with_reducible exact ih _ _ _ _ _ _ h1 h3
theorem oc_rn (op : TBk → TRn → Int32 → TRn) (k : Int) (hopm : ∀ (b : TBk) (u : TRn) (w : Int32), k ≤ oc u → oc u ≤ oc (op b u w)) {b : TBk} {u v : TRn} {base r : Int32} (h : (r, v) = f_Rn_readNumber op b u base) (hk : k ≤ base.toInt) (hb : base.toInt ≤ oc u) : base.toInt ≤ oc v := by
  have h1 : base.toInt ≤ oc (f_Rn_readNumber op b u base).2 := by
    unfold f_Rn_readNumber
    rcases hl : f_Rn_readGoneOnWith op b u base with ⟨r1, v1⟩
    have h3 : base.toInt ≤ oc v1 := oc_rg op k hopm hl.symm hk hb
    dsimp only
    exact oc_rn11 op k hopm _ _ _ _ _ _ _ hk h3
  rw [← h] at h1
  exact h1
end
section
theorem q_8 : Cond.selects R_Rn y_Rn_readSign y_Rn_readSign ∈ TB := tq 8 (by decide +kernel) rfl
theorem q_14 : Cond.selects R_Rn y_Rn_readNumber y_Rn_readNumber ∈ TB := tq 14 (by decide +kernel) rfl
theorem q_311 : Cond.methodLink R_Rn 168 y_Rn_readSign ∈ TB := tq 311 (by decide +kernel) rfl
theorem q_313 : Cond.instanceMethod y_Rn_readSign ∈ TB := tq 313 (by decide +kernel) rfl
theorem q_314 : Cond.code y_Rn_readSign b_Rn_readSign 3 (some .int) ∈ TB := tq 314 (by decide +kernel) rfl
theorem q_326 : Cond.methodLink R_Rn 171 y_Bk_codeOf ∈ TB := tq 326 (by decide +kernel) rfl
theorem q_327 : Cond.instanceMethod y_Bk_codeOf ∈ TB := tq 327 (by decide +kernel) rfl
theorem q_328 : Cond.selects R_Bk y_Bk_codeOf y_Bk_codeOf ∈ TB := tq 328 (by decide +kernel) rfl
theorem q_329 : Cond.code y_Bk_codeOf b_Bk_codeOf 2 (some .int) ∈ TB := tq 329 (by decide +kernel) rfl
theorem q_332 : Cond.methodLink R_Rn 174 y_Bk_categoryOf ∈ TB := tq 332 (by decide +kernel) rfl
theorem q_333 : Cond.instanceMethod y_Bk_categoryOf ∈ TB := tq 333 (by decide +kernel) rfl
theorem q_334 : Cond.selects R_Bk y_Bk_categoryOf y_Bk_categoryOf ∈ TB := tq 334 (by decide +kernel) rfl
theorem q_335 : Cond.code y_Bk_categoryOf b_Bk_categoryOf 2 (some .int) ∈ TB := tq 335 (by decide +kernel) rfl
theorem q_354 : Cond.methodLink R_Rn 152 y_Rn_readNumber ∈ TB := tq 354 (by decide +kernel) rfl
theorem q_356 : Cond.instanceMethod y_Rn_readNumber ∈ TB := tq 356 (by decide +kernel) rfl
theorem q_357 : Cond.code y_Rn_readNumber b_Rn_readNumber 5 (some .int) ∈ TB := tq 357 (by decide +kernel) rfl
theorem q_373 : Cond.static y_Ct_isRelation ∈ TB := tq 373 (by decide +kernel) rfl
theorem q_374 : Cond.code y_Ct_isRelation b_Ct_isRelation 1 (some .boolean) ∈ TB := tq 374 (by decide +kernel) rfl
theorem d_Rn_compareSigns_0 : decode b_Rn_compareSigns 0 = .ok (.aload_n 0, 1) := by decide +kernel
theorem d_Rn_compareSigns_1 : decode b_Rn_compareSigns 1 = .ok (.iload_n 2, 1) := by decide +kernel
theorem d_Rn_compareSigns_2 : decode b_Rn_compareSigns 2 = .ok (.invokevirtual 168, 3) := by decide +kernel
theorem d_Rn_compareSigns_5 : decode b_Rn_compareSigns 5 = .ok (.istore_n 3, 1) := by decide +kernel
theorem d_Rn_compareSigns_6 : decode b_Rn_compareSigns 6 = .ok (.aload_n 0, 1) := by decide +kernel
theorem d_Rn_compareSigns_7 : decode b_Rn_compareSigns 7 = .ok (.getfield 45, 3) := by decide +kernel
theorem d_Rn_compareSigns_10 : decode b_Rn_compareSigns 10 = .ok (.ifCond .eq 5, 3) := by decide +kernel
theorem d_Rn_compareSigns_13 : decode b_Rn_compareSigns 13 = .ok (.iconst 0, 1) := by decide +kernel
theorem d_Rn_compareSigns_14 : decode b_Rn_compareSigns 14 = .ok (.ireturn, 1) := by decide +kernel
theorem d_Rn_compareSigns_15 : decode b_Rn_compareSigns 15 = .ok (.aload_n 0, 1) := by decide +kernel
theorem d_Rn_compareSigns_16 : decode b_Rn_compareSigns 16 = .ok (.iload_n 2, 1) := by decide +kernel
theorem d_Rn_compareSigns_17 : decode b_Rn_compareSigns 17 = .ok (.invokevirtual 168, 3) := by decide +kernel
theorem d_Rn_compareSigns_20 : decode b_Rn_compareSigns 20 = .ok (.istore 4, 2) := by decide +kernel
theorem d_Rn_compareSigns_22 : decode b_Rn_compareSigns 22 = .ok (.aload_n 0, 1) := by decide +kernel
theorem d_Rn_compareSigns_23 : decode b_Rn_compareSigns 23 = .ok (.getfield 45, 3) := by decide +kernel
theorem d_Rn_compareSigns_26 : decode b_Rn_compareSigns 26 = .ok (.ifCond .eq 5, 3) := by decide +kernel
theorem d_Rn_compareSigns_29 : decode b_Rn_compareSigns 29 = .ok (.iconst 0, 1) := by decide +kernel
theorem d_Rn_compareSigns_30 : decode b_Rn_compareSigns 30 = .ok (.ireturn, 1) := by decide +kernel
theorem d_Rn_compareSigns_31 : decode b_Rn_compareSigns 31 = .ok (.iload_n 1, 1) := by decide +kernel
theorem d_Rn_compareSigns_32 : decode b_Rn_compareSigns 32 = .ok (.ifCond .eq 31, 3) := by decide +kernel
theorem d_Rn_compareSigns_35 : decode b_Rn_compareSigns 35 = .ok (.aload_n 0, 1) := by decide +kernel
theorem d_Rn_compareSigns_36 : decode b_Rn_compareSigns 36 = .ok (.getfield 25, 3) := by decide +kernel
theorem d_Rn_compareSigns_39 : decode b_Rn_compareSigns 39 = .ok (.iload_n 3, 1) := by decide +kernel
theorem d_Rn_compareSigns_40 : decode b_Rn_compareSigns 40 = .ok (.invokevirtual 171, 3) := by decide +kernel
theorem d_Rn_compareSigns_43 : decode b_Rn_compareSigns 43 = .ok (.aload_n 0, 1) := by decide +kernel
theorem d_Rn_compareSigns_44 : decode b_Rn_compareSigns 44 = .ok (.getfield 25, 3) := by decide +kernel
theorem d_Rn_compareSigns_47 : decode b_Rn_compareSigns 47 = .ok (.iload 4, 2) := by decide +kernel
theorem d_Rn_compareSigns_49 : decode b_Rn_compareSigns 49 = .ok (.invokevirtual 171, 3) := by decide +kernel
theorem d_Rn_compareSigns_52 : decode b_Rn_compareSigns 52 = .ok (.if_icmp .ne 7, 3) := by decide +kernel
theorem d_Rn_compareSigns_55 : decode b_Rn_compareSigns 55 = .ok (.iconst 1, 1) := by decide +kernel
theorem d_Rn_compareSigns_56 : decode b_Rn_compareSigns 56 = .ok (.goto 32, 3) := by decide +kernel
theorem d_Rn_compareSigns_59 : decode b_Rn_compareSigns 59 = .ok (.iconst 0, 1) := by decide +kernel
theorem d_Rn_compareSigns_60 : decode b_Rn_compareSigns 60 = .ok (.goto 28, 3) := by decide +kernel
theorem d_Rn_compareSigns_63 : decode b_Rn_compareSigns 63 = .ok (.aload_n 0, 1) := by decide +kernel
theorem d_Rn_compareSigns_64 : decode b_Rn_compareSigns 64 = .ok (.getfield 25, 3) := by decide +kernel
theorem d_Rn_compareSigns_67 : decode b_Rn_compareSigns 67 = .ok (.iload_n 3, 1) := by decide +kernel
theorem d_Rn_compareSigns_68 : decode b_Rn_compareSigns 68 = .ok (.invokevirtual 174, 3) := by decide +kernel
theorem d_Rn_compareSigns_71 : decode b_Rn_compareSigns 71 = .ok (.aload_n 0, 1) := by decide +kernel
theorem d_Rn_compareSigns_72 : decode b_Rn_compareSigns 72 = .ok (.getfield 25, 3) := by decide +kernel
theorem d_Rn_compareSigns_75 : decode b_Rn_compareSigns 75 = .ok (.iload 4, 2) := by decide +kernel
theorem d_Rn_compareSigns_77 : decode b_Rn_compareSigns 77 = .ok (.invokevirtual 174, 3) := by decide +kernel
theorem d_Rn_compareSigns_80 : decode b_Rn_compareSigns 80 = .ok (.if_icmp .ne 7, 3) := by decide +kernel
theorem d_Rn_compareSigns_83 : decode b_Rn_compareSigns 83 = .ok (.iconst 1, 1) := by decide +kernel
theorem d_Rn_compareSigns_84 : decode b_Rn_compareSigns 84 = .ok (.goto 4, 3) := by decide +kernel
theorem d_Rn_compareSigns_87 : decode b_Rn_compareSigns 87 = .ok (.iconst 0, 1) := by decide +kernel
theorem d_Rn_compareSigns_88 : decode b_Rn_compareSigns 88 = .ok (.istore 5, 2) := by decide +kernel
theorem d_Rn_compareSigns_90 : decode b_Rn_compareSigns 90 = .ok (.iload 5, 2) := by decide +kernel
theorem d_Rn_compareSigns_92 : decode b_Rn_compareSigns 92 = .ok (.ifCond .eq 7, 3) := by decide +kernel
theorem d_Rn_compareSigns_95 : decode b_Rn_compareSigns 95 = .ok (.iconst 1, 1) := by decide +kernel
theorem d_Rn_compareSigns_96 : decode b_Rn_compareSigns 96 = .ok (.goto 4, 3) := by decide +kernel
theorem d_Rn_compareSigns_99 : decode b_Rn_compareSigns 99 = .ok (.iconst 0, 1) := by decide +kernel
theorem d_Rn_compareSigns_100 : decode b_Rn_compareSigns 100 = .ok (.ireturn, 1) := by decide +kernel
theorem d_Rn_compareNumbers_0 : decode b_Rn_compareNumbers 0 = .ok (.aload_n 0, 1) := by decide +kernel
theorem d_Rn_compareNumbers_1 : decode b_Rn_compareNumbers 1 = .ok (.iload_n 1, 1) := by decide +kernel
theorem d_Rn_compareNumbers_2 : decode b_Rn_compareNumbers 2 = .ok (.invokevirtual 152, 3) := by decide +kernel
theorem d_Rn_compareNumbers_5 : decode b_Rn_compareNumbers 5 = .ok (.istore_n 2, 1) := by decide +kernel
theorem d_Rn_compareNumbers_6 : decode b_Rn_compareNumbers 6 = .ok (.aload_n 0, 1) := by decide +kernel
theorem d_Rn_compareNumbers_7 : decode b_Rn_compareNumbers 7 = .ok (.getfield 45, 3) := by decide +kernel
theorem d_Rn_compareNumbers_10 : decode b_Rn_compareNumbers 10 = .ok (.ifCond .eq 5, 3) := by decide +kernel
theorem d_Rn_compareNumbers_13 : decode b_Rn_compareNumbers 13 = .ok (.iconst 0, 1) := by decide +kernel
theorem d_Rn_compareNumbers_14 : decode b_Rn_compareNumbers 14 = .ok (.ireturn, 1) := by decide +kernel
theorem d_Rn_compareNumbers_15 : decode b_Rn_compareNumbers 15 = .ok (.aload_n 0, 1) := by decide +kernel
theorem d_Rn_compareNumbers_16 : decode b_Rn_compareNumbers 16 = .ok (.iload_n 1, 1) := by decide +kernel
theorem d_Rn_compareNumbers_17 : decode b_Rn_compareNumbers 17 = .ok (.invokevirtual 168, 3) := by decide +kernel
theorem d_Rn_compareNumbers_20 : decode b_Rn_compareNumbers 20 = .ok (.istore_n 3, 1) := by decide +kernel
theorem d_Rn_compareNumbers_21 : decode b_Rn_compareNumbers 21 = .ok (.aload_n 0, 1) := by decide +kernel
theorem d_Rn_compareNumbers_22 : decode b_Rn_compareNumbers 22 = .ok (.getfield 45, 3) := by decide +kernel
theorem d_Rn_compareNumbers_25 : decode b_Rn_compareNumbers 25 = .ok (.ifCond .eq 5, 3) := by decide +kernel
theorem d_Rn_compareNumbers_28 : decode b_Rn_compareNumbers 28 = .ok (.iconst 0, 1) := by decide +kernel
theorem d_Rn_compareNumbers_29 : decode b_Rn_compareNumbers 29 = .ok (.ireturn, 1) := by decide +kernel
theorem d_Rn_compareNumbers_30 : decode b_Rn_compareNumbers 30 = .ok (.iload_n 3, 1) := by decide +kernel
theorem d_Rn_compareNumbers_31 : decode b_Rn_compareNumbers 31 = .ok (.invokestatic 180, 3) := by decide +kernel
theorem d_Rn_compareNumbers_34 : decode b_Rn_compareNumbers 34 = .ok (.ifCond .ne 10, 3) := by decide +kernel
theorem d_Rn_compareNumbers_37 : decode b_Rn_compareNumbers 37 = .ok (.aload_n 0, 1) := by decide +kernel
theorem d_Rn_compareNumbers_38 : decode b_Rn_compareNumbers 38 = .ok (.iconst 4, 1) := by decide +kernel
theorem d_Rn_compareNumbers_39 : decode b_Rn_compareNumbers 39 = .ok (.invokevirtual 60, 3) := by decide +kernel
theorem d_Rn_compareNumbers_42 : decode b_Rn_compareNumbers 42 = .ok (.iconst 0, 1) := by decide +kernel
theorem d_Rn_compareNumbers_43 : decode b_Rn_compareNumbers 43 = .ok (.ireturn, 1) := by decide +kernel
theorem d_Rn_compareNumbers_44 : decode b_Rn_compareNumbers 44 = .ok (.aload_n 0, 1) := by decide +kernel
theorem d_Rn_compareNumbers_45 : decode b_Rn_compareNumbers 45 = .ok (.iload_n 1, 1) := by decide +kernel
theorem d_Rn_compareNumbers_46 : decode b_Rn_compareNumbers 46 = .ok (.invokevirtual 152, 3) := by decide +kernel
theorem d_Rn_compareNumbers_49 : decode b_Rn_compareNumbers 49 = .ok (.istore 4, 2) := by decide +kernel
theorem d_Rn_compareNumbers_51 : decode b_Rn_compareNumbers 51 = .ok (.iload_n 3, 1) := by decide +kernel
theorem d_Rn_compareNumbers_52 : decode b_Rn_compareNumbers 52 = .ok (.sipush 3132, 3) := by decide +kernel
theorem d_Rn_compareNumbers_55 : decode b_Rn_compareNumbers 55 = .ok (.if_icmp .ne 17, 3) := by decide +kernel
theorem d_Rn_compareNumbers_58 : decode b_Rn_compareNumbers 58 = .ok (.iload_n 2, 1) := by decide +kernel
theorem d_Rn_compareNumbers_59 : decode b_Rn_compareNumbers 59 = .ok (.iload 4, 2) := by decide +kernel
theorem d_Rn_compareNumbers_61 : decode b_Rn_compareNumbers 61 = .ok (.if_icmp .ge 7, 3) := by decide +kernel
theorem d_Rn_compareNumbers_64 : decode b_Rn_compareNumbers 64 = .ok (.iconst 1, 1) := by decide +kernel
theorem d_Rn_compareNumbers_65 : decode b_Rn_compareNumbers 65 = .ok (.goto 39, 3) := by decide +kernel
theorem d_Rn_compareNumbers_68 : decode b_Rn_compareNumbers 68 = .ok (.iconst 0, 1) := by decide +kernel
theorem d_Rn_compareNumbers_69 : decode b_Rn_compareNumbers 69 = .ok (.goto 35, 3) := by decide +kernel
theorem d_Rn_compareNumbers_72 : decode b_Rn_compareNumbers 72 = .ok (.iload_n 3, 1) := by decide +kernel
theorem d_Rn_compareNumbers_73 : decode b_Rn_compareNumbers 73 = .ok (.sipush 3133, 3) := by decide +kernel
theorem d_Rn_compareNumbers_76 : decode b_Rn_compareNumbers 76 = .ok (.if_icmp .ne 17, 3) := by decide +kernel
theorem d_Rn_compareNumbers_79 : decode b_Rn_compareNumbers 79 = .ok (.iload_n 2, 1) := by decide +kernel
theorem d_Rn_compareNumbers_80 : decode b_Rn_compareNumbers 80 = .ok (.iload 4, 2) := by decide +kernel
theorem d_Rn_compareNumbers_82 : decode b_Rn_compareNumbers 82 = .ok (.if_icmp .ne 7, 3) := by decide +kernel
theorem d_Rn_compareNumbers_85 : decode b_Rn_compareNumbers 85 = .ok (.iconst 1, 1) := by decide +kernel
theorem d_Rn_compareNumbers_86 : decode b_Rn_compareNumbers 86 = .ok (.goto 18, 3) := by decide +kernel
theorem d_Rn_compareNumbers_89 : decode b_Rn_compareNumbers 89 = .ok (.iconst 0, 1) := by decide +kernel
theorem d_Rn_compareNumbers_90 : decode b_Rn_compareNumbers 90 = .ok (.goto 14, 3) := by decide +kernel
theorem d_Rn_compareNumbers_93 : decode b_Rn_compareNumbers 93 = .ok (.iload_n 2, 1) := by decide +kernel
theorem d_Rn_compareNumbers_94 : decode b_Rn_compareNumbers 94 = .ok (.iload 4, 2) := by decide +kernel
theorem d_Rn_compareNumbers_96 : decode b_Rn_compareNumbers 96 = .ok (.if_icmp .le 7, 3) := by decide +kernel
theorem d_Rn_compareNumbers_99 : decode b_Rn_compareNumbers 99 = .ok (.iconst 1, 1) := by decide +kernel
theorem d_Rn_compareNumbers_100 : decode b_Rn_compareNumbers 100 = .ok (.goto 4, 3) := by decide +kernel
theorem d_Rn_compareNumbers_103 : decode b_Rn_compareNumbers 103 = .ok (.iconst 0, 1) := by decide +kernel
theorem d_Rn_compareNumbers_104 : decode b_Rn_compareNumbers 104 = .ok (.istore 5, 2) := by decide +kernel
theorem d_Rn_compareNumbers_106 : decode b_Rn_compareNumbers 106 = .ok (.iload 5, 2) := by decide +kernel
theorem d_Rn_compareNumbers_108 : decode b_Rn_compareNumbers 108 = .ok (.ifCond .eq 7, 3) := by decide +kernel
theorem d_Rn_compareNumbers_111 : decode b_Rn_compareNumbers 111 = .ok (.iconst 1, 1) := by decide +kernel
theorem d_Rn_compareNumbers_112 : decode b_Rn_compareNumbers 112 = .ok (.goto 4, 3) := by decide +kernel
theorem d_Rn_compareNumbers_115 : decode b_Rn_compareNumbers 115 = .ok (.iconst 0, 1) := by decide +kernel
theorem d_Rn_compareNumbers_116 : decode b_Rn_compareNumbers 116 = .ok (.ireturn, 1) := by decide +kernel
theorem d_Rn_askWhetherOn_0 : decode b_Rn_askWhetherOn 0 = .ok (.aload_n 0, 1) := by decide +kernel
theorem d_Rn_askWhetherOn_1 : decode b_Rn_askWhetherOn 1 = .ok (.iload_n 2, 1) := by decide +kernel
theorem d_Rn_askWhetherOn_2 : decode b_Rn_askWhetherOn 2 = .ok (.invokevirtual 152, 3) := by decide +kernel
theorem d_Rn_askWhetherOn_5 : decode b_Rn_askWhetherOn 5 = .ok (.istore_n 3, 1) := by decide +kernel
theorem d_Rn_askWhetherOn_6 : decode b_Rn_askWhetherOn 6 = .ok (.aload_n 0, 1) := by decide +kernel
theorem d_Rn_askWhetherOn_7 : decode b_Rn_askWhetherOn 7 = .ok (.getfield 45, 3) := by decide +kernel
theorem d_Rn_askWhetherOn_10 : decode b_Rn_askWhetherOn 10 = .ok (.ifCond .eq 5, 3) := by decide +kernel
theorem d_Rn_askWhetherOn_13 : decode b_Rn_askWhetherOn 13 = .ok (.iconst 0, 1) := by decide +kernel
theorem d_Rn_askWhetherOn_14 : decode b_Rn_askWhetherOn 14 = .ok (.ireturn, 1) := by decide +kernel
theorem d_Rn_askWhetherOn_15 : decode b_Rn_askWhetherOn 15 = .ok (.iload_n 3, 1) := by decide +kernel
theorem d_Rn_askWhetherOn_16 : decode b_Rn_askWhetherOn 16 = .ok (.ifCond .lt 9, 3) := by decide +kernel
theorem d_Rn_askWhetherOn_19 : decode b_Rn_askWhetherOn 19 = .ok (.iload_n 3, 1) := by decide +kernel
theorem d_Rn_askWhetherOn_20 : decode b_Rn_askWhetherOn 20 = .ok (.aload_n 1, 1) := by decide +kernel
theorem d_Rn_askWhetherOn_21 : decode b_Rn_askWhetherOn 21 = .ok (.arraylength, 1) := by decide +kernel
theorem d_Rn_askWhetherOn_22 : decode b_Rn_askWhetherOn 22 = .ok (.if_icmp .lt 11, 3) := by decide +kernel
theorem d_Rn_askWhetherOn_25 : decode b_Rn_askWhetherOn 25 = .ok (.aload_n 0, 1) := by decide +kernel
theorem d_Rn_askWhetherOn_26 : decode b_Rn_askWhetherOn 26 = .ok (.bipush 8, 2) := by decide +kernel
theorem d_Rn_askWhetherOn_28 : decode b_Rn_askWhetherOn 28 = .ok (.invokevirtual 60, 3) := by decide +kernel
theorem d_Rn_askWhetherOn_31 : decode b_Rn_askWhetherOn 31 = .ok (.iconst 0, 1) := by decide +kernel
theorem d_Rn_askWhetherOn_32 : decode b_Rn_askWhetherOn 32 = .ok (.ireturn, 1) := by decide +kernel
theorem d_Rn_askWhetherOn_33 : decode b_Rn_askWhetherOn 33 = .ok (.aload_n 1, 1) := by decide +kernel
theorem d_Rn_askWhetherOn_34 : decode b_Rn_askWhetherOn 34 = .ok (.iload_n 3, 1) := by decide +kernel
theorem d_Rn_askWhetherOn_35 : decode b_Rn_askWhetherOn 35 = .ok (.baload, 1) := by decide +kernel
theorem d_Rn_askWhetherOn_36 : decode b_Rn_askWhetherOn 36 = .ok (.ifCond .eq 7, 3) := by decide +kernel
theorem d_Rn_askWhetherOn_39 : decode b_Rn_askWhetherOn 39 = .ok (.iconst 1, 1) := by decide +kernel
theorem d_Rn_askWhetherOn_40 : decode b_Rn_askWhetherOn 40 = .ok (.goto 4, 3) := by decide +kernel
theorem d_Rn_askWhetherOn_43 : decode b_Rn_askWhetherOn 43 = .ok (.iconst 0, 1) := by decide +kernel
theorem d_Rn_askWhetherOn_44 : decode b_Rn_askWhetherOn 44 = .ok (.ireturn, 1) := by decide +kernel
noncomputable def f_Rn_compareSigns (op : TBk → TRn → Int32 → TRn) (b : TBk) (u : TRn) (p0 : Int32) (p1 : Int32) : (Int32 × TRn) := (match f_Rn_readSign op b u p1 with | (r_1, v_1) => (if (TRn_fault v_1) = 0 then (match f_Rn_readSign op b v_1 p1 with | (r_3, v_3) => (if (TRn_fault v_3) = 0 then (if p0 = 0 then (if (f_Bk_categoryOf b r_1) = (f_Bk_categoryOf b r_3) then (1, v_3) else (0, v_3)) else (if (f_Bk_codeOf b r_1) = (f_Bk_codeOf b r_3) then (1, v_3) else (0, v_3))) else (0, v_3))) else (0, v_1)))
set_option maxHeartbeats 4000000 in
set_option maxRecDepth 100000 in
theorem c_Rn_compareSigns (l : Launch) (dC : Nat → ClassId) (dI : Nat → Nat → Nat) (ad : Nat → Nat) (ca : Nat → ClassId) (op : TBk → TRn → Int32 → TRn) (rf rl : Nat) (k : Int) (hopm : ∀ (b : TBk) (u : TRn) (w : Int32), k ≤ oc u → oc u ≤ oc (op b u w)) (hop : ∀ (sz : Nat) (b : TBk) (u : TRn) (w : Int32), BkS b ∧ k ≤ oc u → wx_Mv l y_Rn_open ws_Rn_open ({ frames := rf, cells := 0, slots := 0, locals := rl } : Room) (dC, dI) vwCl (t_R ca) [.ref (ad 0), .int w] (w_R ad ca b u) sz (fun v : TRn => w_R ad ca b v) (fun v : TRn => v = op b u w)) (sz : Nat) (b : TBk) (u : TRn) (p0 : Int32) (p1 : Int32) (hpre : BkS b ∧ k ≤ p1.toInt ∧ p1.toInt ≤ oc u) (F : (Int32 × TRn)) (he : F = f_Rn_compareSigns op b u p0 p1) : wx_Mi l y_Rn_compareSigns ws_Rn_compareSigns ({ frames := rf + 9, cells := 0, slots := 0, locals := rl + 202 } : Room) (dC, dI) vwCl (t_R ca) [.ref (ad 0), .int p0, .int p1] (w_R ad ca b u) sz (fun v : TRn => w_R ad ca b v) (fun (r : Int32) (v : TRn) => (r, v) = F) := by
  refine Met.ofW (cc := b_Rn_compareSigns) (maxL := 6) (ret := some .int) (by decide) rfl ?_
  intro p e s m args below meth c s₁ B hml hv
  obtain ⟨rfl, hsz, hP, hK, hD0, hN⟩ := hv
  have hx := B.exec
  have hb := B.bytes
  have hr := B.returns
  have hts := atoms_spec (ws := ws_Rn_compareSigns) B.pre
  have ht : ∀ w ∈ TB, w.before _ s = true := fun w h => hts w (List.mem_cons_of_mem _ h)
  have hown : s.vm.findClass R_Rn = some m.cls := findClass_of_methodNamed B.named
  have hlocks := B.notSynchronized
  subst hsz
  have hD := hD0.self (sz := s.heap.size)
  generalize hAe : va_A (w_R ad ca b u) s.heap.size = A at hD ⊢
  have hA : ∀ q : Nat, s.heap.size ≤ q → A q := fun q h => by rw [← hAe]; exact Or.inr h
  have hS : va_S A s.heap s.heap [] := va_S.rf
  have hl := lv_entry ([.ref (ad 0), .int p0, .int p1]) (n := 6) (Nat.le_of_ble_eq_true rfl)
  rw [lg_entry_eq]
  generalize (lg_sl ([.ref (ad 0), .int p0, .int p1]) ++ List.replicate (6 - (lg_sl ([.ref (ad 0), .int p0, .int p1])).length) Slot.unset).toArray = ls at hl ⊢
  have hl : lv_has ls 6 [(0, .ref (ad 0)), (1, .int p0), (2, .int p1)] := hl
  unfold f_Rn_compareSigns at he
  refine lv_aload_n hx hb d_Rn_compareSigns_0 rfl (lv_at hl 0 rfl) ?_
  refine lv_iload_n hx hb d_Rn_compareSigns_1 rfl (lv_at hl 2 rfl) ?_
  refine wx_ci (wS := fun v : TRn => w_R ad ca b v) (ws2 := fun v : TRn => w_R ad ca b v) (va_runV (As := [.int p1]) (rest := []) ⟨hx, hb, hml, hown, ht⟩ (c_Rn_readSign l dC dI ad ca op rf rl k hopm hop s.heap.size b u p1 hpre _ rfl) (cwV 1 ht (tb_V q_311 q_313 q_8 q_46 q_314) rfl rfl rfl p_Rn_readSign ⟨show (rf + 8) + 1 ≤ rf + 9 by omega, show 8 + (3 + 11) + (rl + 180) ≤ rl + 202 by omega⟩) (wx_preV (wc := (w_R ad ca b u)) hN hK hP hD [0, 1, 2, 3, 4, 5, 6, 7, 8, 9, 10, 11, 12, 13, 14] [0, 1, 2, 3, 4, 5, 6, 7, 8, 9, 10, 11] rfl (by decide) rfl (ci := 2) (q0 := 0) rfl rfl) rfl rfl hl.1 rfl (lv_room (Nat.le_of_ble_eq_true rfl)) d_Rn_compareSigns_2 ⟨Nat.zero_le _, Nat.zero_le _⟩) hP hD hS hA [0, 1, 2, 3, 4, 5, 6, 7, 8, 9, 10, 11, 12, 13, 14] [] [0, 1, 2, 3, 4, 5, 6, 7, 8, 9, 10, 11, 12, 13, 14] rfl rfl (by decide) (by decide) (by decide) (fun _ => rfl) (fun r_1 v_1 H locs hw_1 hP hD hS => ?_)
  have hP : va_P (dC, dI) vwCl (w_R ad ca b v_1) H := hP
  have hD : va_D A (w_R ad ca b v_1) := hD
  rw [← hw_1] at he
  try dsimp only at he
  refine lv_istore_n (lv' := [(3, .int r_1), (0, .ref (ad 0)), (1, .int p0), (2, .int p1)]) hx hb d_Rn_compareSigns_5 rfl hl (by decide) rfl (fun ls hl => ?_)
  refine lv_aload_n hx hb d_Rn_compareSigns_6 rfl (lv_at hl 1 rfl) ?_
  refine va_get (D := (dC, dI)) (ci := 2) (v := .int (TRn_fault v_1)) (C := R_Rn) (T := T_Rn) (N := 12) hx hb ht i_Rn hown hK hP 0 rfl rfl 11 (by decide) (ht _ q_143) (fun _ h9 => h9) rfl d_Rn_compareSigns_7 ?_
  refine lv_if_eq (tgt := 15) hx hb d_Rn_compareSigns_10 (by decide) (fun c_2 => ?_) (fun c_2 => ?_)
  · have he := he.trans (if_pos c_2)
    refine lv_aload_n hx hb d_Rn_compareSigns_15 rfl (lv_at hl 1 rfl) ?_
    refine lv_iload_n hx hb d_Rn_compareSigns_16 rfl (lv_at hl 3 rfl) ?_
    refine wx_ci (wS := fun v : TRn => w_R ad ca b v) (ws2 := fun v : TRn => w_R ad ca b v) (va_runV (As := [.int p1]) (rest := []) ⟨hx, hb, hml, hown, ht⟩ (c_Rn_readSign l dC dI ad ca op rf rl k hopm hop H.size b v_1 p1 ⟨hpre.1, hpre.2.1, oc_rs op k hopm hw_1 hpre.2.1 hpre.2.2⟩ _ rfl) (cwV 1 ht (tb_V q_311 q_313 q_8 q_46 q_314) rfl rfl rfl p_Rn_readSign ⟨show (rf + 8) + 1 ≤ rf + 9 by omega, show 8 + (3 + 11) + (rl + 180) ≤ rl + 202 by omega⟩) (wx_preV (wc := (w_R ad ca b v_1)) hN hK hP hD [0, 1, 2, 3, 4, 5, 6, 7, 8, 9, 10, 11, 12, 13, 14] [0, 1, 2, 3, 4, 5, 6, 7, 8, 9, 10, 11] rfl (by decide) rfl (ci := 2) (q0 := 0) rfl rfl) rfl rfl hl.1 rfl (lv_room (Nat.le_of_ble_eq_true rfl)) d_Rn_compareSigns_17 ⟨Nat.zero_le _, Nat.zero_le _⟩) hP hD hS hA [0, 1, 2, 3, 4, 5, 6, 7, 8, 9, 10, 11, 12, 13, 14] [] [0, 1, 2, 3, 4, 5, 6, 7, 8, 9, 10, 11, 12, 13, 14] rfl rfl (by decide) (by decide) (by decide) (fun _ => rfl) (fun r_3 v_3 H locs hw_3 hP hD hS => ?_)
    have hP : va_P (dC, dI) vwCl (w_R ad ca b v_3) H := hP
    have hD : va_D A (w_R ad ca b v_3) := hD
    rw [← hw_3] at he
    try dsimp only at he
    refine lv_istore (lv' := [(4, .int r_3), (3, .int r_1), (0, .ref (ad 0)), (1, .int p0), (2, .int p1)]) hx hb d_Rn_compareSigns_20 hl (by decide) rfl (fun ls hl => ?_)
    refine lv_aload_n hx hb d_Rn_compareSigns_22 rfl (lv_at hl 2 rfl) ?_
    refine va_get (D := (dC, dI)) (ci := 2) (v := .int (TRn_fault v_3)) (C := R_Rn) (T := T_Rn) (N := 12) hx hb ht i_Rn hown hK hP 0 rfl rfl 11 (by decide) (ht _ q_143) (fun _ h9 => h9) rfl d_Rn_compareSigns_23 ?_
    refine lv_if_eq (tgt := 31) hx hb d_Rn_compareSigns_26 (by decide) (fun c_4 => ?_) (fun c_4 => ?_)
    · have he := he.trans (if_pos c_4)
      refine lv_iload_n hx hb d_Rn_compareSigns_31 rfl (lv_at hl 3 rfl) ?_
      refine lv_if_eq (tgt := 63) hx hb d_Rn_compareSigns_32 (by decide) (fun c_5 => ?_) (fun c_5 => ?_)
      · have he := he.trans (if_pos c_5)
        refine lv_aload_n hx hb d_Rn_compareSigns_63 rfl (lv_at hl 2 rfl) ?_
        refine va_get (D := (dC, dI)) (ci := 2) (v := .ref (ad 8)) (C := R_Rn) (T := T_Rn) (N := 12) hx hb ht i_Rn hown hK hP 0 rfl rfl 0 (by decide) (ht _ q_132) (fun _ h9 => h9) rfl d_Rn_compareSigns_64 ?_
        refine lv_iload_n hx hb d_Rn_compareSigns_67 rfl (lv_at hl 1 rfl) ?_
        refine wx_ci (wS := fun _ : Unit => w_B ad ca b) (ws2 := fun _ : Unit => w_R ad ca b v_3) (va_runV (As := [.int r_1]) (rest := []) ⟨hx, hb, hml, hown, ht⟩ (c_Bk_categoryOf l dC dI ad ca H.size b r_1 _ rfl) (cwV 1 ht (tb_V q_332 q_333 q_334 q_45 q_335) rfl rfl rfl p_Bk_categoryOf ⟨show 2 + 1 ≤ rf + 9 by omega, show 8 + (2 + 11) + 41 ≤ rl + 202 by omega⟩) (wx_preV (wc := (w_B ad ca b)) hN hK hP hD [8, 9, 10, 11, 12, 13, 14] [6, 7, 8, 9, 10, 11] rfl (by decide) rfl (ci := 0) (q0 := 0) rfl rfl) rfl rfl hl.1 rfl (lv_room (Nat.le_of_ble_eq_true rfl)) d_Rn_compareSigns_68 ⟨Nat.zero_le _, Nat.zero_le _⟩) hP hD hS hA [8, 9, 10, 11, 12, 13, 14] [0, 1, 2, 3, 4, 5, 6, 7] [0, 1, 2, 3, 4, 5, 6, 7, 8, 9, 10, 11, 12, 13, 14] rfl rfl (by decide) (by decide) (by decide) (fun _ => rfl) (fun r_6 _ H locs hw_6 hP hD hS => ?_)
        subst hw_6
        have hP : va_P (dC, dI) vwCl (w_R ad ca b v_3) H := hP
        have hD : va_D A (w_R ad ca b v_3) := hD
        refine lv_aload_n hx hb d_Rn_compareSigns_71 rfl (lv_at hl 2 rfl) ?_
        refine va_get (D := (dC, dI)) (ci := 2) (v := .ref (ad 8)) (C := R_Rn) (T := T_Rn) (N := 12) hx hb ht i_Rn hown hK hP 0 rfl rfl 0 (by decide) (ht _ q_132) (fun _ h9 => h9) rfl d_Rn_compareSigns_72 ?_
        refine lv_iload hx hb d_Rn_compareSigns_75 (lv_at hl 0 rfl) ?_
        refine wx_ci (wS := fun _ : Unit => w_B ad ca b) (ws2 := fun _ : Unit => w_R ad ca b v_3) (va_runV (As := [.int r_3]) (rest := [.int (f_Bk_categoryOf b r_1)]) ⟨hx, hb, hml, hown, ht⟩ (c_Bk_categoryOf l dC dI ad ca H.size b r_3 _ rfl) (cwV 1 ht (tb_V q_332 q_333 q_334 q_45 q_335) rfl rfl rfl p_Bk_categoryOf ⟨show 2 + 1 ≤ rf + 9 by omega, show 8 + (2 + 11) + 41 ≤ rl + 202 by omega⟩) (wx_preV (wc := (w_B ad ca b)) hN hK hP hD [8, 9, 10, 11, 12, 13, 14] [6, 7, 8, 9, 10, 11] rfl (by decide) rfl (ci := 0) (q0 := 0) rfl rfl) rfl rfl hl.1 rfl (lv_room (Nat.le_of_ble_eq_true rfl)) d_Rn_compareSigns_77 ⟨Nat.zero_le _, Nat.zero_le _⟩) hP hD hS hA [8, 9, 10, 11, 12, 13, 14] [0, 1, 2, 3, 4, 5, 6, 7] [0, 1, 2, 3, 4, 5, 6, 7, 8, 9, 10, 11, 12, 13, 14] rfl rfl (by decide) (by decide) (by decide) (fun _ => rfl) (fun r_7 _ H locs hw_7 hP hD hS => ?_)
        subst hw_7
        have hP : va_P (dC, dI) vwCl (w_R ad ca b v_3) H := hP
        have hD : va_D A (w_R ad ca b v_3) := hD
        refine lv_icmp_ne (tgt := 87) hx hb d_Rn_compareSigns_80 (by decide) (fun c_8 => ?_) (fun c_8 => ?_)
        · have he := he.trans (if_neg c_8)
          refine lv_iconst (v := 0) hx hb d_Rn_compareSigns_87 (by decide) ?_
          refine lv_istore (lv' := [(5, .int 0), (4, .int r_3), (3, .int r_1), (0, .ref (ad 0)), (1, .int p0), (2, .int p1)]) hx hb d_Rn_compareSigns_88 hl (by decide) rfl (fun ls hl => ?_)
          refine lv_iload hx hb d_Rn_compareSigns_90 (lv_at hl 0 rfl) ?_
          refine lv_if_eq (tgt := 99) hx hb d_Rn_compareSigns_92 (by decide) (fun c_9 => ?_) (fun c_9 => ?_)
          · refine lv_iconst (v := 0) hx hb d_Rn_compareSigns_99 (by decide) ?_
            exact W.iret hx hb hr (v := 0) (fun t ht hW => ⟨⟨0, v_3, rfl, he.symm, by rw [ht]; exact hP, va_K.moved hW.alike hK, hD⟩, hS.F ht⟩) hS.2.2 d_Rn_compareSigns_100
          · exact absurd c_9 (by decide)
        · have he := he.trans (if_pos c_8)
          refine lv_iconst (v := 1) hx hb d_Rn_compareSigns_83 (by decide) ?_
          refine lv_goto (tgt := 88) hx hb d_Rn_compareSigns_84 (by decide) ?_
          refine lv_istore (lv' := [(5, .int 1), (4, .int r_3), (3, .int r_1), (0, .ref (ad 0)), (1, .int p0), (2, .int p1)]) hx hb d_Rn_compareSigns_88 hl (by decide) rfl (fun ls hl => ?_)
          refine lv_iload hx hb d_Rn_compareSigns_90 (lv_at hl 0 rfl) ?_
          refine lv_if_eq (tgt := 99) hx hb d_Rn_compareSigns_92 (by decide) (fun c_10 => ?_) (fun c_10 => ?_)
          · exact absurd c_10 (by decide)
          · refine lv_iconst (v := 1) hx hb d_Rn_compareSigns_95 (by decide) ?_
            refine lv_goto (tgt := 100) hx hb d_Rn_compareSigns_96 (by decide) ?_
            exact W.iret hx hb hr (v := 1) (fun t ht hW => ⟨⟨1, v_3, rfl, he.symm, by rw [ht]; exact hP, va_K.moved hW.alike hK, hD⟩, hS.F ht⟩) hS.2.2 d_Rn_compareSigns_100
      · have he := he.trans (if_neg c_5)
        refine lv_aload_n hx hb d_Rn_compareSigns_35 rfl (lv_at hl 2 rfl) ?_
        refine va_get (D := (dC, dI)) (ci := 2) (v := .ref (ad 8)) (C := R_Rn) (T := T_Rn) (N := 12) hx hb ht i_Rn hown hK hP 0 rfl rfl 0 (by decide) (ht _ q_132) (fun _ h9 => h9) rfl d_Rn_compareSigns_36 ?_
        refine lv_iload_n hx hb d_Rn_compareSigns_39 rfl (lv_at hl 1 rfl) ?_
        refine wx_ci (wS := fun _ : Unit => w_B ad ca b) (ws2 := fun _ : Unit => w_R ad ca b v_3) (va_runV (As := [.int r_1]) (rest := []) ⟨hx, hb, hml, hown, ht⟩ (c_Bk_codeOf l dC dI ad ca H.size b r_1 _ rfl) (cwV 1 ht (tb_V q_326 q_327 q_328 q_45 q_329) rfl rfl rfl p_Bk_codeOf ⟨show 2 + 1 ≤ rf + 9 by omega, show 8 + (2 + 11) + 41 ≤ rl + 202 by omega⟩) (wx_preV (wc := (w_B ad ca b)) hN hK hP hD [8, 9, 10, 11, 12, 13, 14] [6, 7, 8, 9, 10, 11] rfl (by decide) rfl (ci := 0) (q0 := 0) rfl rfl) rfl rfl hl.1 rfl (lv_room (Nat.le_of_ble_eq_true rfl)) d_Rn_compareSigns_40 ⟨Nat.zero_le _, Nat.zero_le _⟩) hP hD hS hA [8, 9, 10, 11, 12, 13, 14] [0, 1, 2, 3, 4, 5, 6, 7] [0, 1, 2, 3, 4, 5, 6, 7, 8, 9, 10, 11, 12, 13, 14] rfl rfl (by decide) (by decide) (by decide) (fun _ => rfl) (fun r_11 _ H locs hw_11 hP hD hS => ?_)
        subst hw_11
        have hP : va_P (dC, dI) vwCl (w_R ad ca b v_3) H := hP
        have hD : va_D A (w_R ad ca b v_3) := hD
        refine lv_aload_n hx hb d_Rn_compareSigns_43 rfl (lv_at hl 2 rfl) ?_
        refine va_get (D := (dC, dI)) (ci := 2) (v := .ref (ad 8)) (C := R_Rn) (T := T_Rn) (N := 12) hx hb ht i_Rn hown hK hP 0 rfl rfl 0 (by decide) (ht _ q_132) (fun _ h9 => h9) rfl d_Rn_compareSigns_44 ?_
        refine lv_iload hx hb d_Rn_compareSigns_47 (lv_at hl 0 rfl) ?_
        refine wx_ci (wS := fun _ : Unit => w_B ad ca b) (ws2 := fun _ : Unit => w_R ad ca b v_3) (va_runV (As := [.int r_3]) (rest := [.int (f_Bk_codeOf b r_1)]) ⟨hx, hb, hml, hown, ht⟩ (c_Bk_codeOf l dC dI ad ca H.size b r_3 _ rfl) (cwV 1 ht (tb_V q_326 q_327 q_328 q_45 q_329) rfl rfl rfl p_Bk_codeOf ⟨show 2 + 1 ≤ rf + 9 by omega, show 8 + (2 + 11) + 41 ≤ rl + 202 by omega⟩) (wx_preV (wc := (w_B ad ca b)) hN hK hP hD [8, 9, 10, 11, 12, 13, 14] [6, 7, 8, 9, 10, 11] rfl (by decide) rfl (ci := 0) (q0 := 0) rfl rfl) rfl rfl hl.1 rfl (lv_room (Nat.le_of_ble_eq_true rfl)) d_Rn_compareSigns_49 ⟨Nat.zero_le _, Nat.zero_le _⟩) hP hD hS hA [8, 9, 10, 11, 12, 13, 14] [0, 1, 2, 3, 4, 5, 6, 7] [0, 1, 2, 3, 4, 5, 6, 7, 8, 9, 10, 11, 12, 13, 14] rfl rfl (by decide) (by decide) (by decide) (fun _ => rfl) (fun r_12 _ H locs hw_12 hP hD hS => ?_)
        subst hw_12
        have hP : va_P (dC, dI) vwCl (w_R ad ca b v_3) H := hP
        have hD : va_D A (w_R ad ca b v_3) := hD
        refine lv_icmp_ne (tgt := 59) hx hb d_Rn_compareSigns_52 (by decide) (fun c_13 => ?_) (fun c_13 => ?_)
        · have he := he.trans (if_neg c_13)
          refine lv_iconst (v := 0) hx hb d_Rn_compareSigns_59 (by decide) ?_
          refine lv_goto (tgt := 88) hx hb d_Rn_compareSigns_60 (by decide) ?_
          refine lv_istore (lv' := [(5, .int 0), (4, .int r_3), (3, .int r_1), (0, .ref (ad 0)), (1, .int p0), (2, .int p1)]) hx hb d_Rn_compareSigns_88 hl (by decide) rfl (fun ls hl => ?_)
          refine lv_iload hx hb d_Rn_compareSigns_90 (lv_at hl 0 rfl) ?_
          refine lv_if_eq (tgt := 99) hx hb d_Rn_compareSigns_92 (by decide) (fun c_14 => ?_) (fun c_14 => ?_)
          · refine lv_iconst (v := 0) hx hb d_Rn_compareSigns_99 (by decide) ?_
            exact W.iret hx hb hr (v := 0) (fun t ht hW => ⟨⟨0, v_3, rfl, he.symm, by rw [ht]; exact hP, va_K.moved hW.alike hK, hD⟩, hS.F ht⟩) hS.2.2 d_Rn_compareSigns_100
          · exact absurd c_14 (by decide)
        · have he := he.trans (if_pos c_13)
          refine lv_iconst (v := 1) hx hb d_Rn_compareSigns_55 (by decide) ?_
          refine lv_goto (tgt := 88) hx hb d_Rn_compareSigns_56 (by decide) ?_
          refine lv_istore (lv' := [(5, .int 1), (4, .int r_3), (3, .int r_1), (0, .ref (ad 0)), (1, .int p0), (2, .int p1)]) hx hb d_Rn_compareSigns_88 hl (by decide) rfl (fun ls hl => ?_)
          refine lv_iload hx hb d_Rn_compareSigns_90 (lv_at hl 0 rfl) ?_
          refine lv_if_eq (tgt := 99) hx hb d_Rn_compareSigns_92 (by decide) (fun c_15 => ?_) (fun c_15 => ?_)
          · exact absurd c_15 (by decide)
          · refine lv_iconst (v := 1) hx hb d_Rn_compareSigns_95 (by decide) ?_
            refine lv_goto (tgt := 100) hx hb d_Rn_compareSigns_96 (by decide) ?_
            exact W.iret hx hb hr (v := 1) (fun t ht hW => ⟨⟨1, v_3, rfl, he.symm, by rw [ht]; exact hP, va_K.moved hW.alike hK, hD⟩, hS.F ht⟩) hS.2.2 d_Rn_compareSigns_100
    · have he := he.trans (if_neg c_4)
      refine lv_iconst (v := 0) hx hb d_Rn_compareSigns_29 (by decide) ?_
      exact W.iret hx hb hr (v := 0) (fun t ht hW => ⟨⟨0, v_3, rfl, he.symm, by rw [ht]; exact hP, va_K.moved hW.alike hK, hD⟩, hS.F ht⟩) hS.2.2 d_Rn_compareSigns_30
  · have he := he.trans (if_neg c_2)
    refine lv_iconst (v := 0) hx hb d_Rn_compareSigns_13 (by decide) ?_
    exact W.iret hx hb hr (v := 0) (fun t ht hW => ⟨⟨0, v_1, rfl, he.symm, by rw [ht]; exact hP, va_K.moved hW.alike hK, hD⟩, hS.F ht⟩) hS.2.2 d_Rn_compareSigns_14
noncomputable def f_Rn_compareNumbers (op : TBk → TRn → Int32 → TRn) (b : TBk) (u : TRn) (p0 : Int32) : (Int32 × TRn) := (match f_Rn_readNumber op b u p0 with | (r_1, v_1) => (if (TRn_fault v_1) = 0 then (match f_Rn_readSign op b v_1 p0 with | (r_3, v_3) => (if (TRn_fault v_3) = 0 then (if (f_Ct_isRelation r_3) = 0 then (let v_19 := f_Rn_fail b v_3 4; (0, v_19)) else (match f_Rn_readNumber op b v_3 p0 with | (r_7, v_7) => (if r_3 = 3132 then (if r_7 ≤ r_1 then (0, v_7) else (1, v_7)) else (if r_3 = 3133 then (if r_1 = r_7 then (1, v_7) else (0, v_7)) else (if r_1 ≤ r_7 then (0, v_7) else (1, v_7)))))) else (0, v_3))) else (0, v_1)))
set_option maxHeartbeats 4000000 in
set_option maxRecDepth 100000 in
theorem c_Rn_compareNumbers (l : Launch) (dC : Nat → ClassId) (dI : Nat → Nat → Nat) (ad : Nat → Nat) (ca : Nat → ClassId) (op : TBk → TRn → Int32 → TRn) (rf rl : Nat) (k : Int) (hopm : ∀ (b : TBk) (u : TRn) (w : Int32), k ≤ oc u → oc u ≤ oc (op b u w)) (hop : ∀ (sz : Nat) (b : TBk) (u : TRn) (w : Int32), BkS b ∧ k ≤ oc u → wx_Mv l y_Rn_open ws_Rn_open ({ frames := rf, cells := 0, slots := 0, locals := rl } : Room) (dC, dI) vwCl (t_R ca) [.ref (ad 0), .int w] (w_R ad ca b u) sz (fun v : TRn => w_R ad ca b v) (fun v : TRn => v = op b u w)) (sz : Nat) (b : TBk) (u : TRn) (p0 : Int32) (hpre : BkS b ∧ k ≤ p0.toInt ∧ p0.toInt ≤ oc u) (F : (Int32 × TRn)) (he : F = f_Rn_compareNumbers op b u p0) : wx_Mi l y_Rn_compareNumbers ws_Rn_compareNumbers ({ frames := rf + 10, cells := 0, slots := 0, locals := rl + 229 } : Room) (dC, dI) vwCl (t_R ca) [.ref (ad 0), .int p0] (w_R ad ca b u) sz (fun v : TRn => w_R ad ca b v) (fun (r : Int32) (v : TRn) => (r, v) = F) := by
  refine Met.ofW (cc := b_Rn_compareNumbers) (maxL := 6) (ret := some .int) (by decide) rfl ?_
  intro p e s m args below meth c s₁ B hml hv
  obtain ⟨rfl, hsz, hP, hK, hD0, hN⟩ := hv
  have hx := B.exec
  have hb := B.bytes
  have hr := B.returns
  have hts := atoms_spec (ws := ws_Rn_compareNumbers) B.pre
  have ht : ∀ w ∈ TB, w.before _ s = true := fun w h => hts w (List.mem_cons_of_mem _ h)
  have hown : s.vm.findClass R_Rn = some m.cls := findClass_of_methodNamed B.named
  have hlocks := B.notSynchronized
  subst hsz
  have hD := hD0.self (sz := s.heap.size)
  generalize hAe : va_A (w_R ad ca b u) s.heap.size = A at hD ⊢
  have hA : ∀ q : Nat, s.heap.size ≤ q → A q := fun q h => by rw [← hAe]; exact Or.inr h
  have hS : va_S A s.heap s.heap [] := va_S.rf
  have hl := lv_entry ([.ref (ad 0), .int p0]) (n := 6) (Nat.le_of_ble_eq_true rfl)
  rw [lg_entry_eq]
  generalize (lg_sl ([.ref (ad 0), .int p0]) ++ List.replicate (6 - (lg_sl ([.ref (ad 0), .int p0])).length) Slot.unset).toArray = ls at hl ⊢
  have hl : lv_has ls 6 [(0, .ref (ad 0)), (1, .int p0)] := hl
  unfold f_Rn_compareNumbers at he
  refine lv_aload_n hx hb d_Rn_compareNumbers_0 rfl (lv_at hl 0 rfl) ?_
  refine lv_iload_n hx hb d_Rn_compareNumbers_1 rfl (lv_at hl 1 rfl) ?_
  refine wx_ci (wS := fun v : TRn => w_R ad ca b v) (ws2 := fun v : TRn => w_R ad ca b v) (va_runV (As := [.int p0]) (rest := []) ⟨hx, hb, hml, hown, ht⟩ (c_Rn_readNumber l dC dI ad ca op rf rl k hopm hop s.heap.size b u p0 hpre _ rfl) (cwV 1 ht (tb_V q_354 q_356 q_14 q_46 q_357) rfl rfl rfl p_Rn_readNumber ⟨show (rf + 9) + 1 ≤ rf + 10 by omega, show 8 + (5 + 11) + (rl + 205) ≤ rl + 229 by omega⟩) (wx_preV (wc := (w_R ad ca b u)) hN hK hP hD [0, 1, 2, 3, 4, 5, 6, 7, 8, 9, 10, 11, 12, 13, 14] [0, 1, 2, 3, 4, 5, 6, 7, 8, 9, 10, 11] rfl (by decide) rfl (ci := 2) (q0 := 0) rfl rfl) rfl rfl hl.1 rfl (lv_room (Nat.le_of_ble_eq_true rfl)) d_Rn_compareNumbers_2 ⟨Nat.zero_le _, Nat.zero_le _⟩) hP hD hS hA [0, 1, 2, 3, 4, 5, 6, 7, 8, 9, 10, 11, 12, 13, 14] [] [0, 1, 2, 3, 4, 5, 6, 7, 8, 9, 10, 11, 12, 13, 14] rfl rfl (by decide) (by decide) (by decide) (fun _ => rfl) (fun r_1 v_1 H locs hw_1 hP hD hS => ?_)
  have hP : va_P (dC, dI) vwCl (w_R ad ca b v_1) H := hP
  have hD : va_D A (w_R ad ca b v_1) := hD
  rw [← hw_1] at he
  try dsimp only at he
  refine lv_istore_n (lv' := [(2, .int r_1), (0, .ref (ad 0)), (1, .int p0)]) hx hb d_Rn_compareNumbers_5 rfl hl (by decide) rfl (fun ls hl => ?_)
  refine lv_aload_n hx hb d_Rn_compareNumbers_6 rfl (lv_at hl 1 rfl) ?_
  refine va_get (D := (dC, dI)) (ci := 2) (v := .int (TRn_fault v_1)) (C := R_Rn) (T := T_Rn) (N := 12) hx hb ht i_Rn hown hK hP 0 rfl rfl 11 (by decide) (ht _ q_143) (fun _ h9 => h9) rfl d_Rn_compareNumbers_7 ?_
  refine lv_if_eq (tgt := 15) hx hb d_Rn_compareNumbers_10 (by decide) (fun c_2 => ?_) (fun c_2 => ?_)
  · have he := he.trans (if_pos c_2)
    refine lv_aload_n hx hb d_Rn_compareNumbers_15 rfl (lv_at hl 1 rfl) ?_
    refine lv_iload_n hx hb d_Rn_compareNumbers_16 rfl (lv_at hl 2 rfl) ?_
    refine wx_ci (wS := fun v : TRn => w_R ad ca b v) (ws2 := fun v : TRn => w_R ad ca b v) (va_runV (As := [.int p0]) (rest := []) ⟨hx, hb, hml, hown, ht⟩ (c_Rn_readSign l dC dI ad ca op rf rl k hopm hop H.size b v_1 p0 ⟨hpre.1, hpre.2.1, oc_rn op k hopm hw_1 hpre.2.1 hpre.2.2⟩ _ rfl) (cwV 1 ht (tb_V q_311 q_313 q_8 q_46 q_314) rfl rfl rfl p_Rn_readSign ⟨show (rf + 8) + 1 ≤ rf + 10 by omega, show 8 + (3 + 11) + (rl + 180) ≤ rl + 229 by omega⟩) (wx_preV (wc := (w_R ad ca b v_1)) hN hK hP hD [0, 1, 2, 3, 4, 5, 6, 7, 8, 9, 10, 11, 12, 13, 14] [0, 1, 2, 3, 4, 5, 6, 7, 8, 9, 10, 11] rfl (by decide) rfl (ci := 2) (q0 := 0) rfl rfl) rfl rfl hl.1 rfl (lv_room (Nat.le_of_ble_eq_true rfl)) d_Rn_compareNumbers_17 ⟨Nat.zero_le _, Nat.zero_le _⟩) hP hD hS hA [0, 1, 2, 3, 4, 5, 6, 7, 8, 9, 10, 11, 12, 13, 14] [] [0, 1, 2, 3, 4, 5, 6, 7, 8, 9, 10, 11, 12, 13, 14] rfl rfl (by decide) (by decide) (by decide) (fun _ => rfl) (fun r_3 v_3 H locs hw_3 hP hD hS => ?_)
    have hP : va_P (dC, dI) vwCl (w_R ad ca b v_3) H := hP
    have hD : va_D A (w_R ad ca b v_3) := hD
    rw [← hw_3] at he
    try dsimp only at he
    refine lv_istore_n (lv' := [(3, .int r_3), (2, .int r_1), (0, .ref (ad 0)), (1, .int p0)]) hx hb d_Rn_compareNumbers_20 rfl hl (by decide) rfl (fun ls hl => ?_)
    refine lv_aload_n hx hb d_Rn_compareNumbers_21 rfl (lv_at hl 2 rfl) ?_
    refine va_get (D := (dC, dI)) (ci := 2) (v := .int (TRn_fault v_3)) (C := R_Rn) (T := T_Rn) (N := 12) hx hb ht i_Rn hown hK hP 0 rfl rfl 11 (by decide) (ht _ q_143) (fun _ h9 => h9) rfl d_Rn_compareNumbers_22 ?_
    refine lv_if_eq (tgt := 30) hx hb d_Rn_compareNumbers_25 (by decide) (fun c_4 => ?_) (fun c_4 => ?_)
    · have he := he.trans (if_pos c_4)
      refine lv_iload_n hx hb d_Rn_compareNumbers_30 rfl (lv_at hl 0 rfl) ?_
      refine wx_ci (wS := fun _ : Unit => w_E ad ca) (ws2 := fun _ : Unit => w_R ad ca b v_3) (va_runSN (As := [.int r_3]) (rest := []) ⟨hx, hb, hml, hown, ht⟩ (c_Ct_isRelation l dC dI ad ca H.size r_3 _ rfl) ⟨va_cnB 1 ht (tb_in q_374) rfl rfl rfl (hN _ nest_6) (ht _ q_44) p_Ct_isRelation.2 ⟨show 0 + 1 ≤ rf + 10 by omega, show 8 + (1 + 11) + 0 ≤ rl + 229 by omega⟩, ht _ q_373, trivial⟩ (wx_preS (wc := (w_E ad ca)) hN hK hP hD [] [] rfl (by decide) rfl) rfl rfl hl.1 rfl (lv_room (Nat.le_of_ble_eq_true rfl)) d_Rn_compareNumbers_31 ⟨Nat.zero_le _, Nat.zero_le _⟩) hP hD hS hA [] [0, 1, 2, 3, 4, 5, 6, 7, 8, 9, 10, 11, 12, 13, 14] [0, 1, 2, 3, 4, 5, 6, 7, 8, 9, 10, 11, 12, 13, 14] rfl rfl (by decide) (by decide) (by decide) (fun _ => rfl) (fun r_5 _ H locs hw_5 hP hD hS => ?_)
      subst hw_5
      have hP : va_P (dC, dI) vwCl (w_R ad ca b v_3) H := hP
      have hD : va_D A (w_R ad ca b v_3) := hD
      refine lv_if_ne (tgt := 44) hx hb d_Rn_compareNumbers_34 (by decide) (fun c_6 => ?_) (fun c_6 => ?_)
      · have he := he.trans (if_neg c_6)
        refine lv_aload_n hx hb d_Rn_compareNumbers_44 rfl (lv_at hl 2 rfl) ?_
        refine lv_iload_n hx hb d_Rn_compareNumbers_45 rfl (lv_at hl 3 rfl) ?_
        refine wx_ci (wS := fun v : TRn => w_R ad ca b v) (ws2 := fun v : TRn => w_R ad ca b v) (va_runV (As := [.int p0]) (rest := []) ⟨hx, hb, hml, hown, ht⟩ (c_Rn_readNumber l dC dI ad ca op rf rl k hopm hop H.size b v_3 p0 ⟨hpre.1, hpre.2.1, oc_rs op k hopm hw_3 hpre.2.1 (oc_rn op k hopm hw_1 hpre.2.1 hpre.2.2)⟩ _ rfl) (cwV 1 ht (tb_V q_354 q_356 q_14 q_46 q_357) rfl rfl rfl p_Rn_readNumber ⟨show (rf + 9) + 1 ≤ rf + 10 by omega, show 8 + (5 + 11) + (rl + 205) ≤ rl + 229 by omega⟩) (wx_preV (wc := (w_R ad ca b v_3)) hN hK hP hD [0, 1, 2, 3, 4, 5, 6, 7, 8, 9, 10, 11, 12, 13, 14] [0, 1, 2, 3, 4, 5, 6, 7, 8, 9, 10, 11] rfl (by decide) rfl (ci := 2) (q0 := 0) rfl rfl) rfl rfl hl.1 rfl (lv_room (Nat.le_of_ble_eq_true rfl)) d_Rn_compareNumbers_46 ⟨Nat.zero_le _, Nat.zero_le _⟩) hP hD hS hA [0, 1, 2, 3, 4, 5, 6, 7, 8, 9, 10, 11, 12, 13, 14] [] [0, 1, 2, 3, 4, 5, 6, 7, 8, 9, 10, 11, 12, 13, 14] rfl rfl (by decide) (by decide) (by decide) (fun _ => rfl) (fun r_7 v_7 H locs hw_7 hP hD hS => ?_)
        have hP : va_P (dC, dI) vwCl (w_R ad ca b v_7) H := hP
        have hD : va_D A (w_R ad ca b v_7) := hD
        rw [← hw_7] at he
        try dsimp only at he
        refine lv_istore (lv' := [(4, .int r_7), (3, .int r_3), (2, .int r_1), (0, .ref (ad 0)), (1, .int p0)]) hx hb d_Rn_compareNumbers_49 hl (by decide) rfl (fun ls hl => ?_)
        refine lv_iload_n hx hb d_Rn_compareNumbers_51 rfl (lv_at hl 1 rfl) ?_
        refine lv_sipush (v := 3132) hx hb d_Rn_compareNumbers_52 (by decide) ?_
        refine lv_icmp_ne (tgt := 72) hx hb d_Rn_compareNumbers_55 (by decide) (fun c_8 => ?_) (fun c_8 => ?_)
        · have he := he.trans (if_neg c_8)
          refine lv_iload_n hx hb d_Rn_compareNumbers_72 rfl (lv_at hl 1 rfl) ?_
          refine lv_sipush (v := 3133) hx hb d_Rn_compareNumbers_73 (by decide) ?_
          refine lv_icmp_ne (tgt := 93) hx hb d_Rn_compareNumbers_76 (by decide) (fun c_9 => ?_) (fun c_9 => ?_)
          · have he := he.trans (if_neg c_9)
            refine lv_iload_n hx hb d_Rn_compareNumbers_93 rfl (lv_at hl 2 rfl) ?_
            refine lv_iload hx hb d_Rn_compareNumbers_94 (lv_at hl 0 rfl) ?_
            refine lv_icmp_le (tgt := 103) hx hb d_Rn_compareNumbers_96 (by decide) (fun c_10 => ?_) (fun c_10 => ?_)
            · have he := he.trans (if_pos c_10)
              refine lv_iconst (v := 0) hx hb d_Rn_compareNumbers_103 (by decide) ?_
              refine lv_istore (lv' := [(5, .int 0), (4, .int r_7), (3, .int r_3), (2, .int r_1), (0, .ref (ad 0)), (1, .int p0)]) hx hb d_Rn_compareNumbers_104 hl (by decide) rfl (fun ls hl => ?_)
              refine lv_iload hx hb d_Rn_compareNumbers_106 (lv_at hl 0 rfl) ?_
              refine lv_if_eq (tgt := 115) hx hb d_Rn_compareNumbers_108 (by decide) (fun c_11 => ?_) (fun c_11 => ?_)
              · refine lv_iconst (v := 0) hx hb d_Rn_compareNumbers_115 (by decide) ?_
                exact W.iret hx hb hr (v := 0) (fun t ht hW => ⟨⟨0, v_7, rfl, he.symm, by rw [ht]; exact hP, va_K.moved hW.alike hK, hD⟩, hS.F ht⟩) hS.2.2 d_Rn_compareNumbers_116
              · exact absurd c_11 (by decide)
            · have he := he.trans (if_neg c_10)
              refine lv_iconst (v := 1) hx hb d_Rn_compareNumbers_99 (by decide) ?_
              refine lv_goto (tgt := 104) hx hb d_Rn_compareNumbers_100 (by decide) ?_
              refine lv_istore (lv' := [(5, .int 1), (4, .int r_7), (3, .int r_3), (2, .int r_1), (0, .ref (ad 0)), (1, .int p0)]) hx hb d_Rn_compareNumbers_104 hl (by decide) rfl (fun ls hl => ?_)
              refine lv_iload hx hb d_Rn_compareNumbers_106 (lv_at hl 0 rfl) ?_
              refine lv_if_eq (tgt := 115) hx hb d_Rn_compareNumbers_108 (by decide) (fun c_12 => ?_) (fun c_12 => ?_)
              · exact absurd c_12 (by decide)
              · refine lv_iconst (v := 1) hx hb d_Rn_compareNumbers_111 (by decide) ?_
                refine lv_goto (tgt := 116) hx hb d_Rn_compareNumbers_112 (by decide) ?_
                exact W.iret hx hb hr (v := 1) (fun t ht hW => ⟨⟨1, v_7, rfl, he.symm, by rw [ht]; exact hP, va_K.moved hW.alike hK, hD⟩, hS.F ht⟩) hS.2.2 d_Rn_compareNumbers_116
          · have he := he.trans (if_pos c_9)
            refine lv_iload_n hx hb d_Rn_compareNumbers_79 rfl (lv_at hl 2 rfl) ?_
            refine lv_iload hx hb d_Rn_compareNumbers_80 (lv_at hl 0 rfl) ?_
            refine lv_icmp_ne (tgt := 89) hx hb d_Rn_compareNumbers_82 (by decide) (fun c_13 => ?_) (fun c_13 => ?_)
            · have he := he.trans (if_neg c_13)
              refine lv_iconst (v := 0) hx hb d_Rn_compareNumbers_89 (by decide) ?_
              refine lv_goto (tgt := 104) hx hb d_Rn_compareNumbers_90 (by decide) ?_
              refine lv_istore (lv' := [(5, .int 0), (4, .int r_7), (3, .int r_3), (2, .int r_1), (0, .ref (ad 0)), (1, .int p0)]) hx hb d_Rn_compareNumbers_104 hl (by decide) rfl (fun ls hl => ?_)
              refine lv_iload hx hb d_Rn_compareNumbers_106 (lv_at hl 0 rfl) ?_
              refine lv_if_eq (tgt := 115) hx hb d_Rn_compareNumbers_108 (by decide) (fun c_14 => ?_) (fun c_14 => ?_)
              · refine lv_iconst (v := 0) hx hb d_Rn_compareNumbers_115 (by decide) ?_
                exact W.iret hx hb hr (v := 0) (fun t ht hW => ⟨⟨0, v_7, rfl, he.symm, by rw [ht]; exact hP, va_K.moved hW.alike hK, hD⟩, hS.F ht⟩) hS.2.2 d_Rn_compareNumbers_116
              · exact absurd c_14 (by decide)
            · have he := he.trans (if_pos c_13)
              refine lv_iconst (v := 1) hx hb d_Rn_compareNumbers_85 (by decide) ?_
              refine lv_goto (tgt := 104) hx hb d_Rn_compareNumbers_86 (by decide) ?_
              refine lv_istore (lv' := [(5, .int 1), (4, .int r_7), (3, .int r_3), (2, .int r_1), (0, .ref (ad 0)), (1, .int p0)]) hx hb d_Rn_compareNumbers_104 hl (by decide) rfl (fun ls hl => ?_)
              refine lv_iload hx hb d_Rn_compareNumbers_106 (lv_at hl 0 rfl) ?_
              refine lv_if_eq (tgt := 115) hx hb d_Rn_compareNumbers_108 (by decide) (fun c_15 => ?_) (fun c_15 => ?_)
              · exact absurd c_15 (by decide)
              · refine lv_iconst (v := 1) hx hb d_Rn_compareNumbers_111 (by decide) ?_
                refine lv_goto (tgt := 116) hx hb d_Rn_compareNumbers_112 (by decide) ?_
                exact W.iret hx hb hr (v := 1) (fun t ht hW => ⟨⟨1, v_7, rfl, he.symm, by rw [ht]; exact hP, va_K.moved hW.alike hK, hD⟩, hS.F ht⟩) hS.2.2 d_Rn_compareNumbers_116
        · have he := he.trans (if_pos c_8)
          refine lv_iload_n hx hb d_Rn_compareNumbers_58 rfl (lv_at hl 2 rfl) ?_
          refine lv_iload hx hb d_Rn_compareNumbers_59 (lv_at hl 0 rfl) ?_
          refine lv_icmp_ge (tgt := 68) hx hb d_Rn_compareNumbers_61 (by decide) (fun c_16 => ?_) (fun c_16 => ?_)
          · have he := he.trans (if_pos c_16)
            refine lv_iconst (v := 0) hx hb d_Rn_compareNumbers_68 (by decide) ?_
            refine lv_goto (tgt := 104) hx hb d_Rn_compareNumbers_69 (by decide) ?_
            refine lv_istore (lv' := [(5, .int 0), (4, .int r_7), (3, .int r_3), (2, .int r_1), (0, .ref (ad 0)), (1, .int p0)]) hx hb d_Rn_compareNumbers_104 hl (by decide) rfl (fun ls hl => ?_)
            refine lv_iload hx hb d_Rn_compareNumbers_106 (lv_at hl 0 rfl) ?_
            refine lv_if_eq (tgt := 115) hx hb d_Rn_compareNumbers_108 (by decide) (fun c_17 => ?_) (fun c_17 => ?_)
            · refine lv_iconst (v := 0) hx hb d_Rn_compareNumbers_115 (by decide) ?_
              exact W.iret hx hb hr (v := 0) (fun t ht hW => ⟨⟨0, v_7, rfl, he.symm, by rw [ht]; exact hP, va_K.moved hW.alike hK, hD⟩, hS.F ht⟩) hS.2.2 d_Rn_compareNumbers_116
            · exact absurd c_17 (by decide)
          · have he := he.trans (if_neg c_16)
            refine lv_iconst (v := 1) hx hb d_Rn_compareNumbers_64 (by decide) ?_
            refine lv_goto (tgt := 104) hx hb d_Rn_compareNumbers_65 (by decide) ?_
            refine lv_istore (lv' := [(5, .int 1), (4, .int r_7), (3, .int r_3), (2, .int r_1), (0, .ref (ad 0)), (1, .int p0)]) hx hb d_Rn_compareNumbers_104 hl (by decide) rfl (fun ls hl => ?_)
            refine lv_iload hx hb d_Rn_compareNumbers_106 (lv_at hl 0 rfl) ?_
            refine lv_if_eq (tgt := 115) hx hb d_Rn_compareNumbers_108 (by decide) (fun c_18 => ?_) (fun c_18 => ?_)
            · exact absurd c_18 (by decide)
            · refine lv_iconst (v := 1) hx hb d_Rn_compareNumbers_111 (by decide) ?_
              refine lv_goto (tgt := 116) hx hb d_Rn_compareNumbers_112 (by decide) ?_
              exact W.iret hx hb hr (v := 1) (fun t ht hW => ⟨⟨1, v_7, rfl, he.symm, by rw [ht]; exact hP, va_K.moved hW.alike hK, hD⟩, hS.F ht⟩) hS.2.2 d_Rn_compareNumbers_116
      · have he := he.trans (if_pos c_6)
        refine lv_aload_n hx hb d_Rn_compareNumbers_37 rfl (lv_at hl 2 rfl) ?_
        refine lv_iconst (v := 4) hx hb d_Rn_compareNumbers_38 (by decide) ?_
        refine wx_cv (wS := fun v : TRn => w_R ad ca b v) (ws2 := fun v : TRn => w_R ad ca b v) (va_runV (As := [.int 4]) (rest := []) ⟨hx, hb, hml, hown, ht⟩ (c_Rn_fail l dC dI ad ca H.size b v_3 4 _ rfl) (cwV 1 ht (tb_V q_275 q_277 q_3 q_46 q_278) rfl rfl rfl p_Rn_fail ⟨show 0 + 1 ≤ rf + 10 by omega, show 8 + (2 + 11) + 0 ≤ rl + 229 by omega⟩) (wx_preV (wc := (w_R ad ca b v_3)) hN hK hP hD [0, 1, 2, 3, 4, 5, 6, 7, 8, 9, 10, 11, 12, 13, 14] [0, 1, 2, 3, 4, 5, 6, 7, 8, 9, 10, 11] rfl (by decide) rfl (ci := 2) (q0 := 0) rfl rfl) rfl rfl hl.1 rfl (lv_room (Nat.le_of_ble_eq_true rfl)) d_Rn_compareNumbers_39 ⟨Nat.zero_le _, Nat.zero_le _⟩) hP hD hS hA [0, 1, 2, 3, 4, 5, 6, 7, 8, 9, 10, 11, 12, 13, 14] [] [0, 1, 2, 3, 4, 5, 6, 7, 8, 9, 10, 11, 12, 13, 14] rfl rfl (by decide) (by decide) (by decide) (fun _ => rfl) (fun v_19 H locs hw_19 hP hD hS => ?_)
        have hP : va_P (dC, dI) vwCl (w_R ad ca b v_19) H := hP
        have hD : va_D A (w_R ad ca b v_19) := hD
        rw [← hw_19] at he
        try dsimp only at he
        refine lv_iconst (v := 0) hx hb d_Rn_compareNumbers_42 (by decide) ?_
        exact W.iret hx hb hr (v := 0) (fun t ht hW => ⟨⟨0, v_19, rfl, he.symm, by rw [ht]; exact hP, va_K.moved hW.alike hK, hD⟩, hS.F ht⟩) hS.2.2 d_Rn_compareNumbers_43
    · have he := he.trans (if_neg c_4)
      refine lv_iconst (v := 0) hx hb d_Rn_compareNumbers_28 (by decide) ?_
      exact W.iret hx hb hr (v := 0) (fun t ht hW => ⟨⟨0, v_3, rfl, he.symm, by rw [ht]; exact hP, va_K.moved hW.alike hK, hD⟩, hS.F ht⟩) hS.2.2 d_Rn_compareNumbers_29
  · have he := he.trans (if_neg c_2)
    refine lv_iconst (v := 0) hx hb d_Rn_compareNumbers_13 (by decide) ?_
    exact W.iret hx hb hr (v := 0) (fun t ht hW => ⟨⟨0, v_1, rfl, he.symm, by rw [ht]; exact hP, va_K.moved hW.alike hK, hD⟩, hS.F ht⟩) hS.2.2 d_Rn_compareNumbers_14
noncomputable def f_Rn_askWhetherOn_m (op : TBk → TRn → Int32 → TRn) (b : TBk) (u : TRn) (p0 : Int32) : (Int32 × TRn) := (match f_Rn_readNumber op b u p0 with | (r_1, v_1) => (if (TRn_fault v_1) = 0 then (if r_1 < 0 then (let v_4 := f_Rn_fail b v_1 8; (0, v_4)) else (if r_1 < 4 then (if ((TBk_modes b) r_1.toNatClampNeg) = 0 then (0, v_1) else (1, v_1)) else (let v_7 := f_Rn_fail b v_1 8; (0, v_7)))) else (0, v_1)))
set_option maxHeartbeats 4000000 in
set_option maxRecDepth 100000 in
theorem c_Rn_askWhetherOn_m (l : Launch) (dC : Nat → ClassId) (dI : Nat → Nat → Nat) (ad : Nat → Nat) (ca : Nat → ClassId) (op : TBk → TRn → Int32 → TRn) (rf rl : Nat) (k : Int) (hopm : ∀ (b : TBk) (u : TRn) (w : Int32), k ≤ oc u → oc u ≤ oc (op b u w)) (hop : ∀ (sz : Nat) (b : TBk) (u : TRn) (w : Int32), BkS b ∧ k ≤ oc u → wx_Mv l y_Rn_open ws_Rn_open ({ frames := rf, cells := 0, slots := 0, locals := rl } : Room) (dC, dI) vwCl (t_R ca) [.ref (ad 0), .int w] (w_R ad ca b u) sz (fun v : TRn => w_R ad ca b v) (fun v : TRn => v = op b u w)) (sz : Nat) (b : TBk) (u : TRn) (p0 : Int32) (hpre : BkS b ∧ k ≤ p0.toInt ∧ p0.toInt ≤ oc u) (F : (Int32 × TRn)) (he : F = f_Rn_askWhetherOn_m op b u p0) : wx_Mi l y_Rn_askWhetherOn ws_Rn_askWhetherOn ({ frames := rf + 10, cells := 0, slots := 0, locals := rl + 229 } : Room) (dC, dI) vwCl (t_R ca) [.ref (ad 0), .ref (ad 13), .int p0] (w_R ad ca b u) sz (fun v : TRn => w_R ad ca b v) (fun (r : Int32) (v : TRn) => (r, v) = F) := by
  refine Met.ofW (cc := b_Rn_askWhetherOn) (maxL := 4) (ret := some .int) (by decide) rfl ?_
  intro p e s m args below meth c s₁ B hml hv
  obtain ⟨rfl, hsz, hP, hK, hD0, hN⟩ := hv
  have hx := B.exec
  have hb := B.bytes
  have hr := B.returns
  have hts := atoms_spec (ws := ws_Rn_askWhetherOn) B.pre
  have ht : ∀ w ∈ TB, w.before _ s = true := fun w h => hts w (List.mem_cons_of_mem _ h)
  have hown : s.vm.findClass R_Rn = some m.cls := findClass_of_methodNamed B.named
  have hlocks := B.notSynchronized
  subst hsz
  have hD := hD0.self (sz := s.heap.size)
  generalize hAe : va_A (w_R ad ca b u) s.heap.size = A at hD ⊢
  have hA : ∀ q : Nat, s.heap.size ≤ q → A q := fun q h => by rw [← hAe]; exact Or.inr h
  have hS : va_S A s.heap s.heap [] := va_S.rf
  have hl := lv_entry ([.ref (ad 0), .ref (ad 13), .int p0]) (n := 4) (Nat.le_of_ble_eq_true rfl)
  rw [lg_entry_eq]
  generalize (lg_sl ([.ref (ad 0), .ref (ad 13), .int p0]) ++ List.replicate (4 - (lg_sl ([.ref (ad 0), .ref (ad 13), .int p0])).length) Slot.unset).toArray = ls at hl ⊢
  have hl : lv_has ls 4 [(0, .ref (ad 0)), (1, .ref (ad 13)), (2, .int p0)] := hl
  unfold f_Rn_askWhetherOn_m at he
  refine lv_aload_n hx hb d_Rn_askWhetherOn_0 rfl (lv_at hl 0 rfl) ?_
  refine lv_iload_n hx hb d_Rn_askWhetherOn_1 rfl (lv_at hl 2 rfl) ?_
  refine wx_ci (wS := fun v : TRn => w_R ad ca b v) (ws2 := fun v : TRn => w_R ad ca b v) (va_runV (As := [.int p0]) (rest := []) ⟨hx, hb, hml, hown, ht⟩ (c_Rn_readNumber l dC dI ad ca op rf rl k hopm hop s.heap.size b u p0 hpre _ rfl) (cwV 1 ht (tb_V q_354 q_356 q_14 q_46 q_357) rfl rfl rfl p_Rn_readNumber ⟨show (rf + 9) + 1 ≤ rf + 10 by omega, show 8 + (5 + 11) + (rl + 205) ≤ rl + 229 by omega⟩) (wx_preV (wc := (w_R ad ca b u)) hN hK hP hD [0, 1, 2, 3, 4, 5, 6, 7, 8, 9, 10, 11, 12, 13, 14] [0, 1, 2, 3, 4, 5, 6, 7, 8, 9, 10, 11] rfl (by decide) rfl (ci := 2) (q0 := 0) rfl rfl) rfl rfl hl.1 rfl (lv_room (Nat.le_of_ble_eq_true rfl)) d_Rn_askWhetherOn_2 ⟨Nat.zero_le _, Nat.zero_le _⟩) hP hD hS hA [0, 1, 2, 3, 4, 5, 6, 7, 8, 9, 10, 11, 12, 13, 14] [] [0, 1, 2, 3, 4, 5, 6, 7, 8, 9, 10, 11, 12, 13, 14] rfl rfl (by decide) (by decide) (by decide) (fun _ => rfl) (fun r_1 v_1 H locs hw_1 hP hD hS => ?_)
  have hP : va_P (dC, dI) vwCl (w_R ad ca b v_1) H := hP
  have hD : va_D A (w_R ad ca b v_1) := hD
  rw [← hw_1] at he
  try dsimp only at he
  refine lv_istore_n (lv' := [(3, .int r_1), (0, .ref (ad 0)), (1, .ref (ad 13)), (2, .int p0)]) hx hb d_Rn_askWhetherOn_5 rfl hl (by decide) rfl (fun ls hl => ?_)
  refine lv_aload_n hx hb d_Rn_askWhetherOn_6 rfl (lv_at hl 1 rfl) ?_
  refine va_get (D := (dC, dI)) (ci := 2) (v := .int (TRn_fault v_1)) (C := R_Rn) (T := T_Rn) (N := 12) hx hb ht i_Rn hown hK hP 0 rfl rfl 11 (by decide) (ht _ q_143) (fun _ h9 => h9) rfl d_Rn_askWhetherOn_7 ?_
  refine lv_if_eq (tgt := 15) hx hb d_Rn_askWhetherOn_10 (by decide) (fun c_2 => ?_) (fun c_2 => ?_)
  · have he := he.trans (if_pos c_2)
    refine lv_iload_n hx hb d_Rn_askWhetherOn_15 rfl (lv_at hl 0 rfl) ?_
    refine lv_if_lt (tgt := 25) hx hb d_Rn_askWhetherOn_16 (by decide) (fun c_3 => ?_) (fun c_3 => ?_)
    · have he := he.trans (if_pos c_3)
      refine lv_aload_n hx hb d_Rn_askWhetherOn_25 rfl (lv_at hl 1 rfl) ?_
      refine lv_bipush (v := 8) hx hb d_Rn_askWhetherOn_26 (by decide) ?_
      refine wx_cv (wS := fun v : TRn => w_R ad ca b v) (ws2 := fun v : TRn => w_R ad ca b v) (va_runV (As := [.int 8]) (rest := []) ⟨hx, hb, hml, hown, ht⟩ (c_Rn_fail l dC dI ad ca H.size b v_1 8 _ rfl) (cwV 1 ht (tb_V q_275 q_277 q_3 q_46 q_278) rfl rfl rfl p_Rn_fail ⟨show 0 + 1 ≤ rf + 10 by omega, show 8 + (2 + 11) + 0 ≤ rl + 229 by omega⟩) (wx_preV (wc := (w_R ad ca b v_1)) hN hK hP hD [0, 1, 2, 3, 4, 5, 6, 7, 8, 9, 10, 11, 12, 13, 14] [0, 1, 2, 3, 4, 5, 6, 7, 8, 9, 10, 11] rfl (by decide) rfl (ci := 2) (q0 := 0) rfl rfl) rfl rfl hl.1 rfl (lv_room (Nat.le_of_ble_eq_true rfl)) d_Rn_askWhetherOn_28 ⟨Nat.zero_le _, Nat.zero_le _⟩) hP hD hS hA [0, 1, 2, 3, 4, 5, 6, 7, 8, 9, 10, 11, 12, 13, 14] [] [0, 1, 2, 3, 4, 5, 6, 7, 8, 9, 10, 11, 12, 13, 14] rfl rfl (by decide) (by decide) (by decide) (fun _ => rfl) (fun v_4 H locs hw_4 hP hD hS => ?_)
      have hP : va_P (dC, dI) vwCl (w_R ad ca b v_4) H := hP
      have hD : va_D A (w_R ad ca b v_4) := hD
      rw [← hw_4] at he
      try dsimp only at he
      refine lv_iconst (v := 0) hx hb d_Rn_askWhetherOn_31 (by decide) ?_
      exact W.iret hx hb hr (v := 0) (fun t ht hW => ⟨⟨0, v_4, rfl, he.symm, by rw [ht]; exact hP, va_K.moved hW.alike hK, hD⟩, hS.F ht⟩) hS.2.2 d_Rn_askWhetherOn_32
    · have he := he.trans (if_neg c_3)
      refine lv_iload_n hx hb d_Rn_askWhetherOn_19 rfl (lv_at hl 0 rfl) ?_
      refine lv_aload_n hx hb d_Rn_askWhetherOn_20 rfl (lv_at hl 2 rfl) ?_
      refine va_alen hx hb hK hP 13 10 rfl rfl (v := 4) rfl d_Rn_askWhetherOn_21 ?_
      refine lv_icmp_lt (tgt := 33) hx hb d_Rn_askWhetherOn_22 (by decide) (fun c_5 => ?_) (fun c_5 => ?_)
      · have he := he.trans (if_pos c_5)
        refine lv_aload_n hx hb d_Rn_askWhetherOn_33 rfl (lv_at hl 2 rfl) ?_
        refine lv_iload_n hx hb d_Rn_askWhetherOn_34 rfl (lv_at hl 0 rfl) ?_
        refine va_zald hx hb hK hP 13 10 rfl rfl (wx_inAV (by decide) c_3 c_5) d_Rn_askWhetherOn_35 ?_
        refine lv_if_eq (tgt := 43) hx hb d_Rn_askWhetherOn_36 (by decide) (fun c_6 => ?_) (fun c_6 => ?_)
        · have he := he.trans (if_pos c_6)
          refine lv_iconst (v := 0) hx hb d_Rn_askWhetherOn_43 (by decide) ?_
          exact W.iret hx hb hr (v := 0) (fun t ht hW => ⟨⟨0, v_1, rfl, he.symm, by rw [ht]; exact hP, va_K.moved hW.alike hK, hD⟩, hS.F ht⟩) hS.2.2 d_Rn_askWhetherOn_44
        · have he := he.trans (if_neg c_6)
          refine lv_iconst (v := 1) hx hb d_Rn_askWhetherOn_39 (by decide) ?_
          refine lv_goto (tgt := 44) hx hb d_Rn_askWhetherOn_40 (by decide) ?_
          exact W.iret hx hb hr (v := 1) (fun t ht hW => ⟨⟨1, v_1, rfl, he.symm, by rw [ht]; exact hP, va_K.moved hW.alike hK, hD⟩, hS.F ht⟩) hS.2.2 d_Rn_askWhetherOn_44
      · have he := he.trans (if_neg c_5)
        refine lv_aload_n hx hb d_Rn_askWhetherOn_25 rfl (lv_at hl 1 rfl) ?_
        refine lv_bipush (v := 8) hx hb d_Rn_askWhetherOn_26 (by decide) ?_
        refine wx_cv (wS := fun v : TRn => w_R ad ca b v) (ws2 := fun v : TRn => w_R ad ca b v) (va_runV (As := [.int 8]) (rest := []) ⟨hx, hb, hml, hown, ht⟩ (c_Rn_fail l dC dI ad ca H.size b v_1 8 _ rfl) (cwV 1 ht (tb_V q_275 q_277 q_3 q_46 q_278) rfl rfl rfl p_Rn_fail ⟨show 0 + 1 ≤ rf + 10 by omega, show 8 + (2 + 11) + 0 ≤ rl + 229 by omega⟩) (wx_preV (wc := (w_R ad ca b v_1)) hN hK hP hD [0, 1, 2, 3, 4, 5, 6, 7, 8, 9, 10, 11, 12, 13, 14] [0, 1, 2, 3, 4, 5, 6, 7, 8, 9, 10, 11] rfl (by decide) rfl (ci := 2) (q0 := 0) rfl rfl) rfl rfl hl.1 rfl (lv_room (Nat.le_of_ble_eq_true rfl)) d_Rn_askWhetherOn_28 ⟨Nat.zero_le _, Nat.zero_le _⟩) hP hD hS hA [0, 1, 2, 3, 4, 5, 6, 7, 8, 9, 10, 11, 12, 13, 14] [] [0, 1, 2, 3, 4, 5, 6, 7, 8, 9, 10, 11, 12, 13, 14] rfl rfl (by decide) (by decide) (by decide) (fun _ => rfl) (fun v_7 H locs hw_7 hP hD hS => ?_)
        have hP : va_P (dC, dI) vwCl (w_R ad ca b v_7) H := hP
        have hD : va_D A (w_R ad ca b v_7) := hD
        rw [← hw_7] at he
        try dsimp only at he
        refine lv_iconst (v := 0) hx hb d_Rn_askWhetherOn_31 (by decide) ?_
        exact W.iret hx hb hr (v := 0) (fun t ht hW => ⟨⟨0, v_7, rfl, he.symm, by rw [ht]; exact hP, va_K.moved hW.alike hK, hD⟩, hS.F ht⟩) hS.2.2 d_Rn_askWhetherOn_32
  · have he := he.trans (if_neg c_2)
    refine lv_iconst (v := 0) hx hb d_Rn_askWhetherOn_13 (by decide) ?_
    exact W.iret hx hb hr (v := 0) (fun t ht hW => ⟨⟨0, v_1, rfl, he.symm, by rw [ht]; exact hP, va_K.moved hW.alike hK, hD⟩, hS.F ht⟩) hS.2.2 d_Rn_askWhetherOn_14
noncomputable def f_Rn_askWhetherOn_e (op : TBk → TRn → Int32 → TRn) (b : TBk) (u : TRn) (p0 : Int32) : (Int32 × TRn) := (match f_Rn_readNumber op b u p0 with | (r_1, v_1) => (if (TRn_fault v_1) = 0 then (if r_1 < 0 then (let v_4 := f_Rn_fail b v_1 8; (0, v_4)) else (if r_1 < 8 then (if ((TBk_files b) r_1.toNatClampNeg) = 0 then (0, v_1) else (1, v_1)) else (let v_7 := f_Rn_fail b v_1 8; (0, v_7)))) else (0, v_1)))
set_option maxHeartbeats 4000000 in
set_option maxRecDepth 100000 in
theorem c_Rn_askWhetherOn_e (l : Launch) (dC : Nat → ClassId) (dI : Nat → Nat → Nat) (ad : Nat → Nat) (ca : Nat → ClassId) (op : TBk → TRn → Int32 → TRn) (rf rl : Nat) (k : Int) (hopm : ∀ (b : TBk) (u : TRn) (w : Int32), k ≤ oc u → oc u ≤ oc (op b u w)) (hop : ∀ (sz : Nat) (b : TBk) (u : TRn) (w : Int32), BkS b ∧ k ≤ oc u → wx_Mv l y_Rn_open ws_Rn_open ({ frames := rf, cells := 0, slots := 0, locals := rl } : Room) (dC, dI) vwCl (t_R ca) [.ref (ad 0), .int w] (w_R ad ca b u) sz (fun v : TRn => w_R ad ca b v) (fun v : TRn => v = op b u w)) (sz : Nat) (b : TBk) (u : TRn) (p0 : Int32) (hpre : BkS b ∧ k ≤ p0.toInt ∧ p0.toInt ≤ oc u) (F : (Int32 × TRn)) (he : F = f_Rn_askWhetherOn_e op b u p0) : wx_Mi l y_Rn_askWhetherOn ws_Rn_askWhetherOn ({ frames := rf + 10, cells := 0, slots := 0, locals := rl + 229 } : Room) (dC, dI) vwCl (t_R ca) [.ref (ad 0), .ref (ad 14), .int p0] (w_R ad ca b u) sz (fun v : TRn => w_R ad ca b v) (fun (r : Int32) (v : TRn) => (r, v) = F) := by
  refine Met.ofW (cc := b_Rn_askWhetherOn) (maxL := 4) (ret := some .int) (by decide) rfl ?_
  intro p e s m args below meth c s₁ B hml hv
  obtain ⟨rfl, hsz, hP, hK, hD0, hN⟩ := hv
  have hx := B.exec
  have hb := B.bytes
  have hr := B.returns
  have hts := atoms_spec (ws := ws_Rn_askWhetherOn) B.pre
  have ht : ∀ w ∈ TB, w.before _ s = true := fun w h => hts w (List.mem_cons_of_mem _ h)
  have hown : s.vm.findClass R_Rn = some m.cls := findClass_of_methodNamed B.named
  have hlocks := B.notSynchronized
  subst hsz
  have hD := hD0.self (sz := s.heap.size)
  generalize hAe : va_A (w_R ad ca b u) s.heap.size = A at hD ⊢
  have hA : ∀ q : Nat, s.heap.size ≤ q → A q := fun q h => by rw [← hAe]; exact Or.inr h
  have hS : va_S A s.heap s.heap [] := va_S.rf
  have hl := lv_entry ([.ref (ad 0), .ref (ad 14), .int p0]) (n := 4) (Nat.le_of_ble_eq_true rfl)
  rw [lg_entry_eq]
  generalize (lg_sl ([.ref (ad 0), .ref (ad 14), .int p0]) ++ List.replicate (4 - (lg_sl ([.ref (ad 0), .ref (ad 14), .int p0])).length) Slot.unset).toArray = ls at hl ⊢
  have hl : lv_has ls 4 [(0, .ref (ad 0)), (1, .ref (ad 14)), (2, .int p0)] := hl
  unfold f_Rn_askWhetherOn_e at he
  refine lv_aload_n hx hb d_Rn_askWhetherOn_0 rfl (lv_at hl 0 rfl) ?_
  refine lv_iload_n hx hb d_Rn_askWhetherOn_1 rfl (lv_at hl 2 rfl) ?_
  refine wx_ci (wS := fun v : TRn => w_R ad ca b v) (ws2 := fun v : TRn => w_R ad ca b v) (va_runV (As := [.int p0]) (rest := []) ⟨hx, hb, hml, hown, ht⟩ (c_Rn_readNumber l dC dI ad ca op rf rl k hopm hop s.heap.size b u p0 hpre _ rfl) (cwV 1 ht (tb_V q_354 q_356 q_14 q_46 q_357) rfl rfl rfl p_Rn_readNumber ⟨show (rf + 9) + 1 ≤ rf + 10 by omega, show 8 + (5 + 11) + (rl + 205) ≤ rl + 229 by omega⟩) (wx_preV (wc := (w_R ad ca b u)) hN hK hP hD [0, 1, 2, 3, 4, 5, 6, 7, 8, 9, 10, 11, 12, 13, 14] [0, 1, 2, 3, 4, 5, 6, 7, 8, 9, 10, 11] rfl (by decide) rfl (ci := 2) (q0 := 0) rfl rfl) rfl rfl hl.1 rfl (lv_room (Nat.le_of_ble_eq_true rfl)) d_Rn_askWhetherOn_2 ⟨Nat.zero_le _, Nat.zero_le _⟩) hP hD hS hA [0, 1, 2, 3, 4, 5, 6, 7, 8, 9, 10, 11, 12, 13, 14] [] [0, 1, 2, 3, 4, 5, 6, 7, 8, 9, 10, 11, 12, 13, 14] rfl rfl (by decide) (by decide) (by decide) (fun _ => rfl) (fun r_1 v_1 H locs hw_1 hP hD hS => ?_)
  have hP : va_P (dC, dI) vwCl (w_R ad ca b v_1) H := hP
  have hD : va_D A (w_R ad ca b v_1) := hD
  rw [← hw_1] at he
  try dsimp only at he
  refine lv_istore_n (lv' := [(3, .int r_1), (0, .ref (ad 0)), (1, .ref (ad 14)), (2, .int p0)]) hx hb d_Rn_askWhetherOn_5 rfl hl (by decide) rfl (fun ls hl => ?_)
  refine lv_aload_n hx hb d_Rn_askWhetherOn_6 rfl (lv_at hl 1 rfl) ?_
  refine va_get (D := (dC, dI)) (ci := 2) (v := .int (TRn_fault v_1)) (C := R_Rn) (T := T_Rn) (N := 12) hx hb ht i_Rn hown hK hP 0 rfl rfl 11 (by decide) (ht _ q_143) (fun _ h9 => h9) rfl d_Rn_askWhetherOn_7 ?_
  refine lv_if_eq (tgt := 15) hx hb d_Rn_askWhetherOn_10 (by decide) (fun c_2 => ?_) (fun c_2 => ?_)
  · have he := he.trans (if_pos c_2)
    refine lv_iload_n hx hb d_Rn_askWhetherOn_15 rfl (lv_at hl 0 rfl) ?_
    refine lv_if_lt (tgt := 25) hx hb d_Rn_askWhetherOn_16 (by decide) (fun c_3 => ?_) (fun c_3 => ?_)
    · have he := he.trans (if_pos c_3)
      refine lv_aload_n hx hb d_Rn_askWhetherOn_25 rfl (lv_at hl 1 rfl) ?_
      refine lv_bipush (v := 8) hx hb d_Rn_askWhetherOn_26 (by decide) ?_
      refine wx_cv (wS := fun v : TRn => w_R ad ca b v) (ws2 := fun v : TRn => w_R ad ca b v) (va_runV (As := [.int 8]) (rest := []) ⟨hx, hb, hml, hown, ht⟩ (c_Rn_fail l dC dI ad ca H.size b v_1 8 _ rfl) (cwV 1 ht (tb_V q_275 q_277 q_3 q_46 q_278) rfl rfl rfl p_Rn_fail ⟨show 0 + 1 ≤ rf + 10 by omega, show 8 + (2 + 11) + 0 ≤ rl + 229 by omega⟩) (wx_preV (wc := (w_R ad ca b v_1)) hN hK hP hD [0, 1, 2, 3, 4, 5, 6, 7, 8, 9, 10, 11, 12, 13, 14] [0, 1, 2, 3, 4, 5, 6, 7, 8, 9, 10, 11] rfl (by decide) rfl (ci := 2) (q0 := 0) rfl rfl) rfl rfl hl.1 rfl (lv_room (Nat.le_of_ble_eq_true rfl)) d_Rn_askWhetherOn_28 ⟨Nat.zero_le _, Nat.zero_le _⟩) hP hD hS hA [0, 1, 2, 3, 4, 5, 6, 7, 8, 9, 10, 11, 12, 13, 14] [] [0, 1, 2, 3, 4, 5, 6, 7, 8, 9, 10, 11, 12, 13, 14] rfl rfl (by decide) (by decide) (by decide) (fun _ => rfl) (fun v_4 H locs hw_4 hP hD hS => ?_)
      have hP : va_P (dC, dI) vwCl (w_R ad ca b v_4) H := hP
      have hD : va_D A (w_R ad ca b v_4) := hD
      rw [← hw_4] at he
      try dsimp only at he
      refine lv_iconst (v := 0) hx hb d_Rn_askWhetherOn_31 (by decide) ?_
      exact W.iret hx hb hr (v := 0) (fun t ht hW => ⟨⟨0, v_4, rfl, he.symm, by rw [ht]; exact hP, va_K.moved hW.alike hK, hD⟩, hS.F ht⟩) hS.2.2 d_Rn_askWhetherOn_32
    · have he := he.trans (if_neg c_3)
      refine lv_iload_n hx hb d_Rn_askWhetherOn_19 rfl (lv_at hl 0 rfl) ?_
      refine lv_aload_n hx hb d_Rn_askWhetherOn_20 rfl (lv_at hl 2 rfl) ?_
      refine va_alen hx hb hK hP 14 11 rfl rfl (v := 8) rfl d_Rn_askWhetherOn_21 ?_
      refine lv_icmp_lt (tgt := 33) hx hb d_Rn_askWhetherOn_22 (by decide) (fun c_5 => ?_) (fun c_5 => ?_)
      · have he := he.trans (if_pos c_5)
        refine lv_aload_n hx hb d_Rn_askWhetherOn_33 rfl (lv_at hl 2 rfl) ?_
        refine lv_iload_n hx hb d_Rn_askWhetherOn_34 rfl (lv_at hl 0 rfl) ?_
        refine va_zald hx hb hK hP 14 11 rfl rfl (wx_inAV (by decide) c_3 c_5) d_Rn_askWhetherOn_35 ?_
        refine lv_if_eq (tgt := 43) hx hb d_Rn_askWhetherOn_36 (by decide) (fun c_6 => ?_) (fun c_6 => ?_)
        · have he := he.trans (if_pos c_6)
          refine lv_iconst (v := 0) hx hb d_Rn_askWhetherOn_43 (by decide) ?_
          exact W.iret hx hb hr (v := 0) (fun t ht hW => ⟨⟨0, v_1, rfl, he.symm, by rw [ht]; exact hP, va_K.moved hW.alike hK, hD⟩, hS.F ht⟩) hS.2.2 d_Rn_askWhetherOn_44
        · have he := he.trans (if_neg c_6)
          refine lv_iconst (v := 1) hx hb d_Rn_askWhetherOn_39 (by decide) ?_
          refine lv_goto (tgt := 44) hx hb d_Rn_askWhetherOn_40 (by decide) ?_
          exact W.iret hx hb hr (v := 1) (fun t ht hW => ⟨⟨1, v_1, rfl, he.symm, by rw [ht]; exact hP, va_K.moved hW.alike hK, hD⟩, hS.F ht⟩) hS.2.2 d_Rn_askWhetherOn_44
      · have he := he.trans (if_neg c_5)
        refine lv_aload_n hx hb d_Rn_askWhetherOn_25 rfl (lv_at hl 1 rfl) ?_
        refine lv_bipush (v := 8) hx hb d_Rn_askWhetherOn_26 (by decide) ?_
        refine wx_cv (wS := fun v : TRn => w_R ad ca b v) (ws2 := fun v : TRn => w_R ad ca b v) (va_runV (As := [.int 8]) (rest := []) ⟨hx, hb, hml, hown, ht⟩ (c_Rn_fail l dC dI ad ca H.size b v_1 8 _ rfl) (cwV 1 ht (tb_V q_275 q_277 q_3 q_46 q_278) rfl rfl rfl p_Rn_fail ⟨show 0 + 1 ≤ rf + 10 by omega, show 8 + (2 + 11) + 0 ≤ rl + 229 by omega⟩) (wx_preV (wc := (w_R ad ca b v_1)) hN hK hP hD [0, 1, 2, 3, 4, 5, 6, 7, 8, 9, 10, 11, 12, 13, 14] [0, 1, 2, 3, 4, 5, 6, 7, 8, 9, 10, 11] rfl (by decide) rfl (ci := 2) (q0 := 0) rfl rfl) rfl rfl hl.1 rfl (lv_room (Nat.le_of_ble_eq_true rfl)) d_Rn_askWhetherOn_28 ⟨Nat.zero_le _, Nat.zero_le _⟩) hP hD hS hA [0, 1, 2, 3, 4, 5, 6, 7, 8, 9, 10, 11, 12, 13, 14] [] [0, 1, 2, 3, 4, 5, 6, 7, 8, 9, 10, 11, 12, 13, 14] rfl rfl (by decide) (by decide) (by decide) (fun _ => rfl) (fun v_7 H locs hw_7 hP hD hS => ?_)
        have hP : va_P (dC, dI) vwCl (w_R ad ca b v_7) H := hP
        have hD : va_D A (w_R ad ca b v_7) := hD
        rw [← hw_7] at he
        try dsimp only at he
        refine lv_iconst (v := 0) hx hb d_Rn_askWhetherOn_31 (by decide) ?_
        exact W.iret hx hb hr (v := 0) (fun t ht hW => ⟨⟨0, v_7, rfl, he.symm, by rw [ht]; exact hP, va_K.moved hW.alike hK, hD⟩, hS.F ht⟩) hS.2.2 d_Rn_askWhetherOn_32
  · have he := he.trans (if_neg c_2)
    refine lv_iconst (v := 0) hx hb d_Rn_askWhetherOn_13 (by decide) ?_
    exact W.iret hx hb hr (v := 0) (fun t ht hW => ⟨⟨0, v_1, rfl, he.symm, by rw [ht]; exact hP, va_K.moved hW.alike hK, hD⟩, hS.F ht⟩) hS.2.2 d_Rn_askWhetherOn_14
end
section
theorem q_7 : Cond.selects R_Rn y_Rn_compareSigns y_Rn_compareSigns ∈ TB := tq 7 (by decide +kernel) rfl
theorem q_11 : Cond.selects R_Rn y_Rn_compareMeanings y_Rn_compareMeanings ∈ TB := tq 11 (by decide +kernel) rfl
theorem q_13 : Cond.selects R_Rn y_Rn_compareNumbers y_Rn_compareNumbers ∈ TB := tq 13 (by decide +kernel) rfl
theorem q_16 : Cond.selects R_Rn y_Rn_askWhetherKnown y_Rn_askWhetherKnown ∈ TB := tq 16 (by decide +kernel) rfl
theorem q_17 : Cond.selects R_Rn y_Rn_askWhetherOn y_Rn_askWhetherOn ∈ TB := tq 17 (by decide +kernel) rfl
theorem q_71 : Cond.fieldLink R_Rn 158 "ConditionText$Book" "modes" "[Z" ∈ TB := tq 71 (by decide +kernel) rfl
theorem q_74 : Cond.fieldLink R_Rn 165 "ConditionText$Book" "files" "[Z" ∈ TB := tq 74 (by decide +kernel) rfl
theorem q_307 : Cond.methodLink R_Rn 142 y_Rn_compareSigns ∈ TB := tq 307 (by decide +kernel) rfl
theorem q_309 : Cond.instanceMethod y_Rn_compareSigns ∈ TB := tq 309 (by decide +kernel) rfl
theorem q_310 : Cond.code y_Rn_compareSigns b_Rn_compareSigns 6 (some .int) ∈ TB := tq 310 (by decide +kernel) rfl
theorem q_336 : Cond.methodLink R_Rn 146 y_Rn_compareMeanings ∈ TB := tq 336 (by decide +kernel) rfl
theorem q_338 : Cond.instanceMethod y_Rn_compareMeanings ∈ TB := tq 338 (by decide +kernel) rfl
theorem q_339 : Cond.code y_Rn_compareMeanings b_Rn_compareMeanings 3 (some .int) ∈ TB := tq 339 (by decide +kernel) rfl
theorem q_350 : Cond.methodLink R_Rn 149 y_Rn_compareNumbers ∈ TB := tq 350 (by decide +kernel) rfl
theorem q_352 : Cond.instanceMethod y_Rn_compareNumbers ∈ TB := tq 352 (by decide +kernel) rfl
theorem q_353 : Cond.code y_Rn_compareNumbers b_Rn_compareNumbers 6 (some .int) ∈ TB := tq 353 (by decide +kernel) rfl
theorem q_375 : Cond.methodLink R_Rn 155 y_Rn_askWhetherKnown ∈ TB := tq 375 (by decide +kernel) rfl
theorem q_377 : Cond.instanceMethod y_Rn_askWhetherKnown ∈ TB := tq 377 (by decide +kernel) rfl
theorem q_378 : Cond.code y_Rn_askWhetherKnown b_Rn_askWhetherKnown 2 (some .int) ∈ TB := tq 378 (by decide +kernel) rfl
theorem q_379 : Cond.methodLink R_Rn 161 y_Rn_askWhetherOn ∈ TB := tq 379 (by decide +kernel) rfl
theorem q_381 : Cond.instanceMethod y_Rn_askWhetherOn ∈ TB := tq 381 (by decide +kernel) rfl
theorem q_382 : Cond.code y_Rn_askWhetherOn b_Rn_askWhetherOn 4 (some .int) ∈ TB := tq 382 (by decide +kernel) rfl
theorem d_Rn_ask_0 : decode b_Rn_ask 0 = .ok (.iload_n 1, 1) := by decide +kernel
theorem d_Rn_ask_1 : decode b_Rn_ask 1 = .ok (.tableswitch 134 0 10 #[59, 59, 74, 79, 85, 93, 95, 97, 103, 108, 121], 59) := by decide +kernel
theorem d_Rn_ask_60 : decode b_Rn_ask 60 = .ok (.aload_n 0, 1) := by decide +kernel
theorem d_Rn_ask_61 : decode b_Rn_ask 61 = .ok (.iload_n 1, 1) := by decide +kernel
theorem d_Rn_ask_62 : decode b_Rn_ask 62 = .ok (.ifCond .ne 7, 3) := by decide +kernel
theorem d_Rn_ask_65 : decode b_Rn_ask 65 = .ok (.iconst 1, 1) := by decide +kernel
theorem d_Rn_ask_66 : decode b_Rn_ask 66 = .ok (.goto 4, 3) := by decide +kernel
theorem d_Rn_ask_69 : decode b_Rn_ask 69 = .ok (.iconst 0, 1) := by decide +kernel
theorem d_Rn_ask_70 : decode b_Rn_ask 70 = .ok (.iload_n 2, 1) := by decide +kernel
theorem d_Rn_ask_71 : decode b_Rn_ask 71 = .ok (.invokevirtual 142, 3) := by decide +kernel
theorem d_Rn_ask_74 : decode b_Rn_ask 74 = .ok (.ireturn, 1) := by decide +kernel
theorem d_Rn_ask_75 : decode b_Rn_ask 75 = .ok (.aload_n 0, 1) := by decide +kernel
theorem d_Rn_ask_76 : decode b_Rn_ask 76 = .ok (.invokevirtual 146, 3) := by decide +kernel
theorem d_Rn_ask_79 : decode b_Rn_ask 79 = .ok (.ireturn, 1) := by decide +kernel
theorem d_Rn_ask_80 : decode b_Rn_ask 80 = .ok (.aload_n 0, 1) := by decide +kernel
theorem d_Rn_ask_81 : decode b_Rn_ask 81 = .ok (.iload_n 2, 1) := by decide +kernel
theorem d_Rn_ask_82 : decode b_Rn_ask 82 = .ok (.invokevirtual 149, 3) := by decide +kernel
theorem d_Rn_ask_85 : decode b_Rn_ask 85 = .ok (.ireturn, 1) := by decide +kernel
theorem d_Rn_ask_86 : decode b_Rn_ask 86 = .ok (.aload_n 0, 1) := by decide +kernel
theorem d_Rn_ask_87 : decode b_Rn_ask 87 = .ok (.iload_n 2, 1) := by decide +kernel
theorem d_Rn_ask_88 : decode b_Rn_ask 88 = .ok (.invokevirtual 152, 3) := by decide +kernel
theorem d_Rn_ask_91 : decode b_Rn_ask 91 = .ok (.iconst 1, 1) := by decide +kernel
theorem d_Rn_ask_92 : decode b_Rn_ask 92 = .ok (.iand, 1) := by decide +kernel
theorem d_Rn_ask_93 : decode b_Rn_ask 93 = .ok (.ireturn, 1) := by decide +kernel
theorem d_Rn_ask_94 : decode b_Rn_ask 94 = .ok (.iconst 1, 1) := by decide +kernel
theorem d_Rn_ask_95 : decode b_Rn_ask 95 = .ok (.ireturn, 1) := by decide +kernel
theorem d_Rn_ask_96 : decode b_Rn_ask 96 = .ok (.iconst 0, 1) := by decide +kernel
theorem d_Rn_ask_97 : decode b_Rn_ask 97 = .ok (.ireturn, 1) := by decide +kernel
theorem d_Rn_ask_98 : decode b_Rn_ask 98 = .ok (.aload_n 0, 1) := by decide +kernel
theorem d_Rn_ask_99 : decode b_Rn_ask 99 = .ok (.iload_n 2, 1) := by decide +kernel
theorem d_Rn_ask_100 : decode b_Rn_ask 100 = .ok (.invokevirtual 152, 3) := by decide +kernel
theorem d_Rn_ask_103 : decode b_Rn_ask 103 = .ok (.ireturn, 1) := by decide +kernel
theorem d_Rn_ask_104 : decode b_Rn_ask 104 = .ok (.aload_n 0, 1) := by decide +kernel
theorem d_Rn_ask_105 : decode b_Rn_ask 105 = .ok (.invokevirtual 155, 3) := by decide +kernel
theorem d_Rn_ask_108 : decode b_Rn_ask 108 = .ok (.ireturn, 1) := by decide +kernel
theorem d_Rn_ask_109 : decode b_Rn_ask 109 = .ok (.aload_n 0, 1) := by decide +kernel
theorem d_Rn_ask_110 : decode b_Rn_ask 110 = .ok (.aload_n 0, 1) := by decide +kernel
theorem d_Rn_ask_111 : decode b_Rn_ask 111 = .ok (.getfield 25, 3) := by decide +kernel
theorem d_Rn_ask_114 : decode b_Rn_ask 114 = .ok (.getfield 158, 3) := by decide +kernel
theorem d_Rn_ask_117 : decode b_Rn_ask 117 = .ok (.iload_n 2, 1) := by decide +kernel
theorem d_Rn_ask_118 : decode b_Rn_ask 118 = .ok (.invokevirtual 161, 3) := by decide +kernel
theorem d_Rn_ask_121 : decode b_Rn_ask 121 = .ok (.ireturn, 1) := by decide +kernel
theorem d_Rn_ask_122 : decode b_Rn_ask 122 = .ok (.aload_n 0, 1) := by decide +kernel
theorem d_Rn_ask_123 : decode b_Rn_ask 123 = .ok (.aload_n 0, 1) := by decide +kernel
theorem d_Rn_ask_124 : decode b_Rn_ask 124 = .ok (.getfield 25, 3) := by decide +kernel
theorem d_Rn_ask_127 : decode b_Rn_ask 127 = .ok (.getfield 165, 3) := by decide +kernel
theorem d_Rn_ask_130 : decode b_Rn_ask 130 = .ok (.iload_n 2, 1) := by decide +kernel
theorem d_Rn_ask_131 : decode b_Rn_ask 131 = .ok (.invokevirtual 161, 3) := by decide +kernel
theorem d_Rn_ask_134 : decode b_Rn_ask 134 = .ok (.ireturn, 1) := by decide +kernel
theorem d_Rn_ask_135 : decode b_Rn_ask 135 = .ok (.iconst 0, 1) := by decide +kernel
theorem d_Rn_ask_136 : decode b_Rn_ask 136 = .ok (.ireturn, 1) := by decide +kernel
noncomputable def f_Rn_ask (op : TBk → TRn → Int32 → TRn) (b : TBk) (u : TRn) (p0 : Int32) (p1 : Int32) : (Int32 × TRn) := (if p0 = 0 then (match f_Rn_compareSigns op b u 1 p1 with | (r_3, v_3) => (r_3, v_3)) else (if p0 = 1 then (match f_Rn_compareSigns op b u 0 p1 with | (r_6, v_6) => (r_6, v_6)) else (if p0 = 2 then (match f_Rn_compareMeanings b u with | (r_8, v_8) => (r_8, v_8)) else (if p0 = 3 then (match f_Rn_compareNumbers op b u p1 with | (r_10, v_10) => (r_10, v_10)) else (if p0 = 4 then (match f_Rn_readNumber op b u p1 with | (r_12, v_12) => ((r_12 &&& 1), v_12)) else (if p0 = 5 then (1, u) else (if p0 = 6 then (0, u) else (if p0 = 7 then (match f_Rn_readNumber op b u p1 with | (r_16, v_16) => (r_16, v_16)) else (if p0 = 8 then (match f_Rn_askWhetherKnown b u with | (r_18, v_18) => (r_18, v_18)) else (if p0 = 9 then (match f_Rn_askWhetherOn_m op b u p1 with | (r_20, v_20) => (r_20, v_20)) else (if p0 = 10 then (match f_Rn_askWhetherOn_e op b u p1 with | (r_22, v_22) => (r_22, v_22)) else (0, u))))))))))))
set_option maxHeartbeats 4000000 in
set_option maxRecDepth 100000 in
theorem c_Rn_ask (l : Launch) (dC : Nat → ClassId) (dI : Nat → Nat → Nat) (ad : Nat → Nat) (ca : Nat → ClassId) (op : TBk → TRn → Int32 → TRn) (rf rl : Nat) (k : Int) (hopm : ∀ (b : TBk) (u : TRn) (w : Int32), k ≤ oc u → oc u ≤ oc (op b u w)) (hop : ∀ (sz : Nat) (b : TBk) (u : TRn) (w : Int32), BkS b ∧ k ≤ oc u → wx_Mv l y_Rn_open ws_Rn_open ({ frames := rf, cells := 0, slots := 0, locals := rl } : Room) (dC, dI) vwCl (t_R ca) [.ref (ad 0), .int w] (w_R ad ca b u) sz (fun v : TRn => w_R ad ca b v) (fun v : TRn => v = op b u w)) (sz : Nat) (b : TBk) (u : TRn) (p0 : Int32) (p1 : Int32) (hpre : BkS b ∧ k ≤ p1.toInt ∧ p1.toInt ≤ oc u) (F : (Int32 × TRn)) (he : F = f_Rn_ask op b u p0 p1) : wx_Mi l y_Rn_ask ws_Rn_ask ({ frames := rf + 11, cells := 0, slots := 0, locals := rl + 254 } : Room) (dC, dI) vwCl (t_R ca) [.ref (ad 0), .int p0, .int p1] (w_R ad ca b u) sz (fun v : TRn => w_R ad ca b v) (fun (r : Int32) (v : TRn) => (r, v) = F) := by
  refine Met.ofW (cc := b_Rn_ask) (maxL := 3) (ret := some .int) (by decide) rfl ?_
  intro p e s m args below meth c s₁ B hml hv
  obtain ⟨rfl, hsz, hP, hK, hD0, hN⟩ := hv
  have hx := B.exec
  have hb := B.bytes
  have hr := B.returns
  have hts := atoms_spec (ws := ws_Rn_ask) B.pre
  have ht : ∀ w ∈ TB, w.before _ s = true := fun w h => hts w (List.mem_cons_of_mem _ h)
  have hown : s.vm.findClass R_Rn = some m.cls := findClass_of_methodNamed B.named
  have hlocks := B.notSynchronized
  subst hsz
  have hD := hD0.self (sz := s.heap.size)
  generalize hAe : va_A (w_R ad ca b u) s.heap.size = A at hD ⊢
  have hA : ∀ q : Nat, s.heap.size ≤ q → A q := fun q h => by rw [← hAe]; exact Or.inr h
  have hS : va_S A s.heap s.heap [] := va_S.rf
  have hl := lv_entry ([.ref (ad 0), .int p0, .int p1]) (n := 3) (Nat.le_of_ble_eq_true rfl)
  rw [lg_entry_eq]
  generalize (lg_sl ([.ref (ad 0), .int p0, .int p1]) ++ List.replicate (3 - (lg_sl ([.ref (ad 0), .int p0, .int p1])).length) Slot.unset).toArray = ls at hl ⊢
  have hl : lv_has ls 3 [(0, .ref (ad 0)), (1, .int p0), (2, .int p1)] := hl
  unfold f_Rn_ask at he
  refine lv_iload_n hx hb d_Rn_ask_0 rfl (lv_at hl 1 rfl) ?_
  rcases Decidable.em (p0 = 0) with c_1 | c_1
  · have he := he.trans (if_pos c_1)
    refine lv_tableIn (off := 59) (tgt := 60) hx hb d_Rn_ask_1 (by rw [c_1]; decide) (by rw [c_1]; decide) (by rw [c_1]; rfl) (by decide) ?_
    refine lv_aload_n hx hb d_Rn_ask_60 rfl (lv_at hl 0 rfl) ?_
    refine lv_iload_n hx hb d_Rn_ask_61 rfl (lv_at hl 1 rfl) ?_
    refine lv_if_ne (tgt := 69) hx hb d_Rn_ask_62 (by decide) (fun c_2 => ?_) (fun c_2 => ?_)
    · exact absurd c_1 c_2
    · refine lv_iconst (v := 1) hx hb d_Rn_ask_65 (by decide) ?_
      refine lv_goto (tgt := 70) hx hb d_Rn_ask_66 (by decide) ?_
      refine lv_iload_n hx hb d_Rn_ask_70 rfl (lv_at hl 2 rfl) ?_
      refine wx_ci (wS := fun v : TRn => w_R ad ca b v) (ws2 := fun v : TRn => w_R ad ca b v) (va_runV (As := [.int 1, .int p1]) (rest := []) ⟨hx, hb, hml, hown, ht⟩ (c_Rn_compareSigns l dC dI ad ca op rf rl k hopm hop s.heap.size b u 1 p1 hpre _ rfl) (cwV 2 ht (tb_V q_307 q_309 q_7 q_46 q_310) rfl rfl rfl p_Rn_compareSigns ⟨show (rf + 9) + 1 ≤ rf + 11 by omega, show 8 + (6 + 11) + (rl + 202) ≤ rl + 254 by omega⟩) (wx_preV (wc := (w_R ad ca b u)) hN hK hP hD [0, 1, 2, 3, 4, 5, 6, 7, 8, 9, 10, 11, 12, 13, 14] [0, 1, 2, 3, 4, 5, 6, 7, 8, 9, 10, 11] rfl (by decide) rfl (ci := 2) (q0 := 0) rfl rfl) rfl rfl hl.1 rfl (lv_room (Nat.le_of_ble_eq_true rfl)) d_Rn_ask_71 ⟨Nat.zero_le _, Nat.zero_le _⟩) hP hD hS hA [0, 1, 2, 3, 4, 5, 6, 7, 8, 9, 10, 11, 12, 13, 14] [] [0, 1, 2, 3, 4, 5, 6, 7, 8, 9, 10, 11, 12, 13, 14] rfl rfl (by decide) (by decide) (by decide) (fun _ => rfl) (fun r_3 v_3 H locs hw_3 hP hD hS => ?_)
      have hP : va_P (dC, dI) vwCl (w_R ad ca b v_3) H := hP
      have hD : va_D A (w_R ad ca b v_3) := hD
      rw [← hw_3] at he
      try dsimp only at he
      exact W.iret hx hb hr (v := r_3) (fun t ht hW => ⟨⟨r_3, v_3, rfl, he.symm, by rw [ht]; exact hP, va_K.moved hW.alike hK, hD⟩, hS.F ht⟩) hS.2.2 d_Rn_ask_74
  · have he := he.trans (if_neg c_1)
    rcases Decidable.em (p0 = 1) with c_4 | c_4
    · have he := he.trans (if_pos c_4)
      refine lv_tableIn (off := 59) (tgt := 60) hx hb d_Rn_ask_1 (by rw [c_4]; decide) (by rw [c_4]; decide) (by rw [c_4]; rfl) (by decide) ?_
      refine lv_aload_n hx hb d_Rn_ask_60 rfl (lv_at hl 0 rfl) ?_
      refine lv_iload_n hx hb d_Rn_ask_61 rfl (lv_at hl 1 rfl) ?_
      refine lv_if_ne (tgt := 69) hx hb d_Rn_ask_62 (by decide) (fun c_5 => ?_) (fun c_5 => ?_)
      · refine lv_iconst (v := 0) hx hb d_Rn_ask_69 (by decide) ?_
        refine lv_iload_n hx hb d_Rn_ask_70 rfl (lv_at hl 2 rfl) ?_
        refine wx_ci (wS := fun v : TRn => w_R ad ca b v) (ws2 := fun v : TRn => w_R ad ca b v) (va_runV (As := [.int 0, .int p1]) (rest := []) ⟨hx, hb, hml, hown, ht⟩ (c_Rn_compareSigns l dC dI ad ca op rf rl k hopm hop s.heap.size b u 0 p1 hpre _ rfl) (cwV 2 ht (tb_V q_307 q_309 q_7 q_46 q_310) rfl rfl rfl p_Rn_compareSigns ⟨show (rf + 9) + 1 ≤ rf + 11 by omega, show 8 + (6 + 11) + (rl + 202) ≤ rl + 254 by omega⟩) (wx_preV (wc := (w_R ad ca b u)) hN hK hP hD [0, 1, 2, 3, 4, 5, 6, 7, 8, 9, 10, 11, 12, 13, 14] [0, 1, 2, 3, 4, 5, 6, 7, 8, 9, 10, 11] rfl (by decide) rfl (ci := 2) (q0 := 0) rfl rfl) rfl rfl hl.1 rfl (lv_room (Nat.le_of_ble_eq_true rfl)) d_Rn_ask_71 ⟨Nat.zero_le _, Nat.zero_le _⟩) hP hD hS hA [0, 1, 2, 3, 4, 5, 6, 7, 8, 9, 10, 11, 12, 13, 14] [] [0, 1, 2, 3, 4, 5, 6, 7, 8, 9, 10, 11, 12, 13, 14] rfl rfl (by decide) (by decide) (by decide) (fun _ => rfl) (fun r_6 v_6 H locs hw_6 hP hD hS => ?_)
        have hP : va_P (dC, dI) vwCl (w_R ad ca b v_6) H := hP
        have hD : va_D A (w_R ad ca b v_6) := hD
        rw [← hw_6] at he
        try dsimp only at he
        exact W.iret hx hb hr (v := r_6) (fun t ht hW => ⟨⟨r_6, v_6, rfl, he.symm, by rw [ht]; exact hP, va_K.moved hW.alike hK, hD⟩, hS.F ht⟩) hS.2.2 d_Rn_ask_74
      · exact absurd c_5 c_1
    · have he := he.trans (if_neg c_4)
      rcases Decidable.em (p0 = 2) with c_7 | c_7
      · have he := he.trans (if_pos c_7)
        refine lv_tableIn (off := 74) (tgt := 75) hx hb d_Rn_ask_1 (by rw [c_7]; decide) (by rw [c_7]; decide) (by rw [c_7]; rfl) (by decide) ?_
        refine lv_aload_n hx hb d_Rn_ask_75 rfl (lv_at hl 0 rfl) ?_
        refine wx_ci (wS := fun v : TRn => w_R ad ca b v) (ws2 := fun v : TRn => w_R ad ca b v) (va_runV (As := []) (rest := []) ⟨hx, hb, hml, hown, ht⟩ (c_Rn_compareMeanings l dC dI ad ca s.heap.size b u hpre.1 _ rfl) (cwV 0 ht (tb_V q_336 q_338 q_11 q_46 q_339) rfl rfl rfl p_Rn_compareMeanings ⟨show 4 + 1 ≤ rf + 11 by omega, show 8 + (3 + 11) + 91 ≤ rl + 254 by omega⟩) (wx_preV (wc := (w_R ad ca b u)) hN hK hP hD [0, 1, 2, 3, 4, 5, 6, 7, 8, 9, 10, 11, 12, 13, 14] [0, 1, 2, 3, 4, 5, 6, 7, 8, 9, 10, 11] rfl (by decide) rfl (ci := 2) (q0 := 0) rfl rfl) rfl rfl hl.1 rfl (lv_room (Nat.le_of_ble_eq_true rfl)) d_Rn_ask_76 ⟨Nat.zero_le _, Nat.zero_le _⟩) hP hD hS hA [0, 1, 2, 3, 4, 5, 6, 7, 8, 9, 10, 11, 12, 13, 14] [] [0, 1, 2, 3, 4, 5, 6, 7, 8, 9, 10, 11, 12, 13, 14] rfl rfl (by decide) (by decide) (by decide) (fun _ => rfl) (fun r_8 v_8 H locs hw_8 hP hD hS => ?_)
        have hP : va_P (dC, dI) vwCl (w_R ad ca b v_8) H := hP
        have hD : va_D A (w_R ad ca b v_8) := hD
        rw [← hw_8] at he
        try dsimp only at he
        exact W.iret hx hb hr (v := r_8) (fun t ht hW => ⟨⟨r_8, v_8, rfl, he.symm, by rw [ht]; exact hP, va_K.moved hW.alike hK, hD⟩, hS.F ht⟩) hS.2.2 d_Rn_ask_79
      · have he := he.trans (if_neg c_7)
        rcases Decidable.em (p0 = 3) with c_9 | c_9
        · have he := he.trans (if_pos c_9)
          refine lv_tableIn (off := 79) (tgt := 80) hx hb d_Rn_ask_1 (by rw [c_9]; decide) (by rw [c_9]; decide) (by rw [c_9]; rfl) (by decide) ?_
          refine lv_aload_n hx hb d_Rn_ask_80 rfl (lv_at hl 0 rfl) ?_
          refine lv_iload_n hx hb d_Rn_ask_81 rfl (lv_at hl 2 rfl) ?_
          refine wx_ci (wS := fun v : TRn => w_R ad ca b v) (ws2 := fun v : TRn => w_R ad ca b v) (va_runV (As := [.int p1]) (rest := []) ⟨hx, hb, hml, hown, ht⟩ (c_Rn_compareNumbers l dC dI ad ca op rf rl k hopm hop s.heap.size b u p1 hpre _ rfl) (cwV 1 ht (tb_V q_350 q_352 q_13 q_46 q_353) rfl rfl rfl p_Rn_compareNumbers ⟨show (rf + 10) + 1 ≤ rf + 11 by omega, show 8 + (6 + 11) + (rl + 229) ≤ rl + 254 by omega⟩) (wx_preV (wc := (w_R ad ca b u)) hN hK hP hD [0, 1, 2, 3, 4, 5, 6, 7, 8, 9, 10, 11, 12, 13, 14] [0, 1, 2, 3, 4, 5, 6, 7, 8, 9, 10, 11] rfl (by decide) rfl (ci := 2) (q0 := 0) rfl rfl) rfl rfl hl.1 rfl (lv_room (Nat.le_of_ble_eq_true rfl)) d_Rn_ask_82 ⟨Nat.zero_le _, Nat.zero_le _⟩) hP hD hS hA [0, 1, 2, 3, 4, 5, 6, 7, 8, 9, 10, 11, 12, 13, 14] [] [0, 1, 2, 3, 4, 5, 6, 7, 8, 9, 10, 11, 12, 13, 14] rfl rfl (by decide) (by decide) (by decide) (fun _ => rfl) (fun r_10 v_10 H locs hw_10 hP hD hS => ?_)
          have hP : va_P (dC, dI) vwCl (w_R ad ca b v_10) H := hP
          have hD : va_D A (w_R ad ca b v_10) := hD
          rw [← hw_10] at he
          try dsimp only at he
          exact W.iret hx hb hr (v := r_10) (fun t ht hW => ⟨⟨r_10, v_10, rfl, he.symm, by rw [ht]; exact hP, va_K.moved hW.alike hK, hD⟩, hS.F ht⟩) hS.2.2 d_Rn_ask_85
        · have he := he.trans (if_neg c_9)
          rcases Decidable.em (p0 = 4) with c_11 | c_11
          · have he := he.trans (if_pos c_11)
            refine lv_tableIn (off := 85) (tgt := 86) hx hb d_Rn_ask_1 (by rw [c_11]; decide) (by rw [c_11]; decide) (by rw [c_11]; rfl) (by decide) ?_
            refine lv_aload_n hx hb d_Rn_ask_86 rfl (lv_at hl 0 rfl) ?_
            refine lv_iload_n hx hb d_Rn_ask_87 rfl (lv_at hl 2 rfl) ?_
            refine wx_ci (wS := fun v : TRn => w_R ad ca b v) (ws2 := fun v : TRn => w_R ad ca b v) (va_runV (As := [.int p1]) (rest := []) ⟨hx, hb, hml, hown, ht⟩ (c_Rn_readNumber l dC dI ad ca op rf rl k hopm hop s.heap.size b u p1 hpre _ rfl) (cwV 1 ht (tb_V q_354 q_356 q_14 q_46 q_357) rfl rfl rfl p_Rn_readNumber ⟨show (rf + 9) + 1 ≤ rf + 11 by omega, show 8 + (5 + 11) + (rl + 205) ≤ rl + 254 by omega⟩) (wx_preV (wc := (w_R ad ca b u)) hN hK hP hD [0, 1, 2, 3, 4, 5, 6, 7, 8, 9, 10, 11, 12, 13, 14] [0, 1, 2, 3, 4, 5, 6, 7, 8, 9, 10, 11] rfl (by decide) rfl (ci := 2) (q0 := 0) rfl rfl) rfl rfl hl.1 rfl (lv_room (Nat.le_of_ble_eq_true rfl)) d_Rn_ask_88 ⟨Nat.zero_le _, Nat.zero_le _⟩) hP hD hS hA [0, 1, 2, 3, 4, 5, 6, 7, 8, 9, 10, 11, 12, 13, 14] [] [0, 1, 2, 3, 4, 5, 6, 7, 8, 9, 10, 11, 12, 13, 14] rfl rfl (by decide) (by decide) (by decide) (fun _ => rfl) (fun r_12 v_12 H locs hw_12 hP hD hS => ?_)
            have hP : va_P (dC, dI) vwCl (w_R ad ca b v_12) H := hP
            have hD : va_D A (w_R ad ca b v_12) := hD
            rw [← hw_12] at he
            try dsimp only at he
            refine lv_iconst (v := 1) hx hb d_Rn_ask_91 (by decide) ?_
            refine lv_iand hx hb d_Rn_ask_92 ?_
            exact W.iret hx hb hr (v := (r_12 &&& 1)) (fun t ht hW => ⟨⟨(r_12 &&& 1), v_12, rfl, he.symm, by rw [ht]; exact hP, va_K.moved hW.alike hK, hD⟩, hS.F ht⟩) hS.2.2 d_Rn_ask_93
          · have he := he.trans (if_neg c_11)
            rcases Decidable.em (p0 = 5) with c_13 | c_13
            · have he := he.trans (if_pos c_13)
              refine lv_tableIn (off := 93) (tgt := 94) hx hb d_Rn_ask_1 (by rw [c_13]; decide) (by rw [c_13]; decide) (by rw [c_13]; rfl) (by decide) ?_
              refine lv_iconst (v := 1) hx hb d_Rn_ask_94 (by decide) ?_
              exact W.iret hx hb hr (v := 1) (fun t ht hW => ⟨⟨1, u, rfl, he.symm, by rw [ht]; exact hP, va_K.moved hW.alike hK, hD⟩, hS.F ht⟩) hS.2.2 d_Rn_ask_95
            · have he := he.trans (if_neg c_13)
              rcases Decidable.em (p0 = 6) with c_14 | c_14
              · have he := he.trans (if_pos c_14)
                refine lv_tableIn (off := 95) (tgt := 96) hx hb d_Rn_ask_1 (by rw [c_14]; decide) (by rw [c_14]; decide) (by rw [c_14]; rfl) (by decide) ?_
                refine lv_iconst (v := 0) hx hb d_Rn_ask_96 (by decide) ?_
                exact W.iret hx hb hr (v := 0) (fun t ht hW => ⟨⟨0, u, rfl, he.symm, by rw [ht]; exact hP, va_K.moved hW.alike hK, hD⟩, hS.F ht⟩) hS.2.2 d_Rn_ask_97
              · have he := he.trans (if_neg c_14)
                rcases Decidable.em (p0 = 7) with c_15 | c_15
                · have he := he.trans (if_pos c_15)
                  refine lv_tableIn (off := 97) (tgt := 98) hx hb d_Rn_ask_1 (by rw [c_15]; decide) (by rw [c_15]; decide) (by rw [c_15]; rfl) (by decide) ?_
                  refine lv_aload_n hx hb d_Rn_ask_98 rfl (lv_at hl 0 rfl) ?_
                  refine lv_iload_n hx hb d_Rn_ask_99 rfl (lv_at hl 2 rfl) ?_
                  refine wx_ci (wS := fun v : TRn => w_R ad ca b v) (ws2 := fun v : TRn => w_R ad ca b v) (va_runV (As := [.int p1]) (rest := []) ⟨hx, hb, hml, hown, ht⟩ (c_Rn_readNumber l dC dI ad ca op rf rl k hopm hop s.heap.size b u p1 hpre _ rfl) (cwV 1 ht (tb_V q_354 q_356 q_14 q_46 q_357) rfl rfl rfl p_Rn_readNumber ⟨show (rf + 9) + 1 ≤ rf + 11 by omega, show 8 + (5 + 11) + (rl + 205) ≤ rl + 254 by omega⟩) (wx_preV (wc := (w_R ad ca b u)) hN hK hP hD [0, 1, 2, 3, 4, 5, 6, 7, 8, 9, 10, 11, 12, 13, 14] [0, 1, 2, 3, 4, 5, 6, 7, 8, 9, 10, 11] rfl (by decide) rfl (ci := 2) (q0 := 0) rfl rfl) rfl rfl hl.1 rfl (lv_room (Nat.le_of_ble_eq_true rfl)) d_Rn_ask_100 ⟨Nat.zero_le _, Nat.zero_le _⟩) hP hD hS hA [0, 1, 2, 3, 4, 5, 6, 7, 8, 9, 10, 11, 12, 13, 14] [] [0, 1, 2, 3, 4, 5, 6, 7, 8, 9, 10, 11, 12, 13, 14] rfl rfl (by decide) (by decide) (by decide) (fun _ => rfl) (fun r_16 v_16 H locs hw_16 hP hD hS => ?_)
                  have hP : va_P (dC, dI) vwCl (w_R ad ca b v_16) H := hP
                  have hD : va_D A (w_R ad ca b v_16) := hD
                  rw [← hw_16] at he
                  try dsimp only at he
                  exact W.iret hx hb hr (v := r_16) (fun t ht hW => ⟨⟨r_16, v_16, rfl, he.symm, by rw [ht]; exact hP, va_K.moved hW.alike hK, hD⟩, hS.F ht⟩) hS.2.2 d_Rn_ask_103
                · have he := he.trans (if_neg c_15)
                  rcases Decidable.em (p0 = 8) with c_17 | c_17
                  · have he := he.trans (if_pos c_17)
                    refine lv_tableIn (off := 103) (tgt := 104) hx hb d_Rn_ask_1 (by rw [c_17]; decide) (by rw [c_17]; decide) (by rw [c_17]; rfl) (by decide) ?_
                    refine lv_aload_n hx hb d_Rn_ask_104 rfl (lv_at hl 0 rfl) ?_
                    refine wx_ci (wS := fun v : TRn => w_R ad ca b v) (ws2 := fun v : TRn => w_R ad ca b v) (va_runV (As := []) (rest := []) ⟨hx, hb, hml, hown, ht⟩ (c_Rn_askWhetherKnown l dC dI ad ca s.heap.size b u hpre.1 _ rfl) (cwV 0 ht (tb_V q_375 q_377 q_16 q_46 q_378) rfl rfl rfl p_Rn_askWhetherKnown ⟨show 4 + 1 ≤ rf + 11 by omega, show 8 + (2 + 11) + 86 ≤ rl + 254 by omega⟩) (wx_preV (wc := (w_R ad ca b u)) hN hK hP hD [0, 1, 2, 3, 4, 5, 6, 7, 8, 9, 10, 11, 12, 13, 14] [0, 1, 2, 3, 4, 5, 6, 7, 8, 9, 10, 11] rfl (by decide) rfl (ci := 2) (q0 := 0) rfl rfl) rfl rfl hl.1 rfl (lv_room (Nat.le_of_ble_eq_true rfl)) d_Rn_ask_105 ⟨Nat.zero_le _, Nat.zero_le _⟩) hP hD hS hA [0, 1, 2, 3, 4, 5, 6, 7, 8, 9, 10, 11, 12, 13, 14] [] [0, 1, 2, 3, 4, 5, 6, 7, 8, 9, 10, 11, 12, 13, 14] rfl rfl (by decide) (by decide) (by decide) (fun _ => rfl) (fun r_18 v_18 H locs hw_18 hP hD hS => ?_)
                    have hP : va_P (dC, dI) vwCl (w_R ad ca b v_18) H := hP
                    have hD : va_D A (w_R ad ca b v_18) := hD
                    rw [← hw_18] at he
                    try dsimp only at he
                    exact W.iret hx hb hr (v := r_18) (fun t ht hW => ⟨⟨r_18, v_18, rfl, he.symm, by rw [ht]; exact hP, va_K.moved hW.alike hK, hD⟩, hS.F ht⟩) hS.2.2 d_Rn_ask_108
                  · have he := he.trans (if_neg c_17)
                    rcases Decidable.em (p0 = 9) with c_19 | c_19
                    · have he := he.trans (if_pos c_19)
                      refine lv_tableIn (off := 108) (tgt := 109) hx hb d_Rn_ask_1 (by rw [c_19]; decide) (by rw [c_19]; decide) (by rw [c_19]; rfl) (by decide) ?_
                      refine lv_aload_n hx hb d_Rn_ask_109 rfl (lv_at hl 0 rfl) ?_
                      refine lv_aload_n hx hb d_Rn_ask_110 rfl (lv_at hl 0 rfl) ?_
                      refine va_get (D := (dC, dI)) (ci := 2) (v := .ref (ad 8)) (C := R_Rn) (T := T_Rn) (N := 12) hx hb ht i_Rn hown hK hP 0 rfl rfl 0 (by decide) (ht _ q_132) (fun _ h9 => h9) rfl d_Rn_ask_111 ?_
                      refine va_get (D := (dC, dI)) (ci := 0) (v := .ref (ad 13)) (C := R_Bk) (T := T_Bk) (N := 7) hx hb ht i_Bk hown hK hP 8 rfl rfl 4 (by decide) (ht _ q_71) (fun _ h9 => h9) rfl d_Rn_ask_114 ?_
                      refine lv_iload_n hx hb d_Rn_ask_117 rfl (lv_at hl 2 rfl) ?_
                      refine wx_ci (wS := fun v : TRn => w_R ad ca b v) (ws2 := fun v : TRn => w_R ad ca b v) (va_runV (As := [.ref (ad 13), .int p1]) (rest := []) ⟨hx, hb, hml, hown, ht⟩ (c_Rn_askWhetherOn_m l dC dI ad ca op rf rl k hopm hop s.heap.size b u p1 hpre _ rfl) (cwV 2 ht (tb_V q_379 q_381 q_17 q_46 q_382) rfl rfl rfl p_Rn_askWhetherOn ⟨show (rf + 10) + 1 ≤ rf + 11 by omega, show 8 + (4 + 11) + (rl + 229) ≤ rl + 254 by omega⟩) (wx_preV (wc := (w_R ad ca b u)) hN hK hP hD [0, 1, 2, 3, 4, 5, 6, 7, 8, 9, 10, 11, 12, 13, 14] [0, 1, 2, 3, 4, 5, 6, 7, 8, 9, 10, 11] rfl (by decide) rfl (ci := 2) (q0 := 0) rfl rfl) rfl rfl hl.1 rfl (lv_room (Nat.le_of_ble_eq_true rfl)) d_Rn_ask_118 ⟨Nat.zero_le _, Nat.zero_le _⟩) hP hD hS hA [0, 1, 2, 3, 4, 5, 6, 7, 8, 9, 10, 11, 12, 13, 14] [] [0, 1, 2, 3, 4, 5, 6, 7, 8, 9, 10, 11, 12, 13, 14] rfl rfl (by decide) (by decide) (by decide) (fun _ => rfl) (fun r_20 v_20 H locs hw_20 hP hD hS => ?_)
                      have hP : va_P (dC, dI) vwCl (w_R ad ca b v_20) H := hP
                      have hD : va_D A (w_R ad ca b v_20) := hD
                      rw [← hw_20] at he
                      try dsimp only at he
                      exact W.iret hx hb hr (v := r_20) (fun t ht hW => ⟨⟨r_20, v_20, rfl, he.symm, by rw [ht]; exact hP, va_K.moved hW.alike hK, hD⟩, hS.F ht⟩) hS.2.2 d_Rn_ask_121
                    · have he := he.trans (if_neg c_19)
                      rcases Decidable.em (p0 = 10) with c_21 | c_21
                      · have he := he.trans (if_pos c_21)
                        refine lv_tableIn (off := 121) (tgt := 122) hx hb d_Rn_ask_1 (by rw [c_21]; decide) (by rw [c_21]; decide) (by rw [c_21]; rfl) (by decide) ?_
                        refine lv_aload_n hx hb d_Rn_ask_122 rfl (lv_at hl 0 rfl) ?_
                        refine lv_aload_n hx hb d_Rn_ask_123 rfl (lv_at hl 0 rfl) ?_
                        refine va_get (D := (dC, dI)) (ci := 2) (v := .ref (ad 8)) (C := R_Rn) (T := T_Rn) (N := 12) hx hb ht i_Rn hown hK hP 0 rfl rfl 0 (by decide) (ht _ q_132) (fun _ h9 => h9) rfl d_Rn_ask_124 ?_
                        refine va_get (D := (dC, dI)) (ci := 0) (v := .ref (ad 14)) (C := R_Bk) (T := T_Bk) (N := 7) hx hb ht i_Bk hown hK hP 8 rfl rfl 5 (by decide) (ht _ q_74) (fun _ h9 => h9) rfl d_Rn_ask_127 ?_
                        refine lv_iload_n hx hb d_Rn_ask_130 rfl (lv_at hl 2 rfl) ?_
                        refine wx_ci (wS := fun v : TRn => w_R ad ca b v) (ws2 := fun v : TRn => w_R ad ca b v) (va_runV (As := [.ref (ad 14), .int p1]) (rest := []) ⟨hx, hb, hml, hown, ht⟩ (c_Rn_askWhetherOn_e l dC dI ad ca op rf rl k hopm hop s.heap.size b u p1 hpre _ rfl) (cwV 2 ht (tb_V q_379 q_381 q_17 q_46 q_382) rfl rfl rfl p_Rn_askWhetherOn ⟨show (rf + 10) + 1 ≤ rf + 11 by omega, show 8 + (4 + 11) + (rl + 229) ≤ rl + 254 by omega⟩) (wx_preV (wc := (w_R ad ca b u)) hN hK hP hD [0, 1, 2, 3, 4, 5, 6, 7, 8, 9, 10, 11, 12, 13, 14] [0, 1, 2, 3, 4, 5, 6, 7, 8, 9, 10, 11] rfl (by decide) rfl (ci := 2) (q0 := 0) rfl rfl) rfl rfl hl.1 rfl (lv_room (Nat.le_of_ble_eq_true rfl)) d_Rn_ask_131 ⟨Nat.zero_le _, Nat.zero_le _⟩) hP hD hS hA [0, 1, 2, 3, 4, 5, 6, 7, 8, 9, 10, 11, 12, 13, 14] [] [0, 1, 2, 3, 4, 5, 6, 7, 8, 9, 10, 11, 12, 13, 14] rfl rfl (by decide) (by decide) (by decide) (fun _ => rfl) (fun r_22 v_22 H locs hw_22 hP hD hS => ?_)
                        have hP : va_P (dC, dI) vwCl (w_R ad ca b v_22) H := hP
                        have hD : va_D A (w_R ad ca b v_22) := hD
                        rw [← hw_22] at he
                        try dsimp only at he
                        exact W.iret hx hb hr (v := r_22) (fun t ht hW => ⟨⟨r_22, v_22, rfl, he.symm, by rw [ht]; exact hP, va_K.moved hW.alike hK, hD⟩, hS.F ht⟩) hS.2.2 d_Rn_ask_134
                      · have he := he.trans (if_neg c_21)
                        have ec_1 := lv_neT (a := 0) c_1 (by decide)
                        have ec_4 := lv_neT (a := 1) c_4 (by decide)
                        have ec_7 := lv_neT (a := 2) c_7 (by decide)
                        have ec_9 := lv_neT (a := 3) c_9 (by decide)
                        have ec_11 := lv_neT (a := 4) c_11 (by decide)
                        have ec_13 := lv_neT (a := 5) c_13 (by decide)
                        have ec_14 := lv_neT (a := 6) c_14 (by decide)
                        have ec_15 := lv_neT (a := 7) c_15 (by decide)
                        have ec_17 := lv_neT (a := 8) c_17 (by decide)
                        have ec_19 := lv_neT (a := 9) c_19 (by decide)
                        have ec_21 := lv_neT (a := 10) c_21 (by decide)
                        refine lv_tableOut (tgt := 135) hx hb d_Rn_ask_1 (by omega) (by decide) ?_
                        refine lv_iconst (v := 0) hx hb d_Rn_ask_135 (by decide) ?_
                        exact W.iret hx hb hr (v := 0) (fun t ht hW => ⟨⟨0, u, rfl, he.symm, by rw [ht]; exact hP, va_K.moved hW.alike hK, hD⟩, hS.F ht⟩) hS.2.2 d_Rn_ask_136
end
section
theorem open_k {u : TRn} {k : Int} (h : k - 1 ≤ oc u) (h0 : ¬ TRn_openCount u < 0) (h1 : TRn_openCount u < 20) : k ≤ (TRn_openCount u + 1).toInt := by
  rw [i32_lt] at h0 h1
  rw [Int32.toInt_zero] at h0
  have e1 : (20 : Int32).toInt = 20 := by decide
  have e2 : (1 : Int32).toInt = 1 := by decide
  have h2 : oc u = (TRn_openCount u).toInt := rfl
  rw [i32_add (by rw [e2]; omega) (by rw [e2]; omega), e2]
  omega
theorem q_6 : Cond.selects R_Rn y_Rn_ask y_Rn_ask ∈ TB := tq 6 (by decide +kernel) rfl
theorem q_18 : Cond.selects R_Rn y_Rn_decide y_Rn_decide ∈ TB := tq 18 (by decide +kernel) rfl
theorem q_50 : Cond.initialized "java/lang/Math" ∈ TB := tq 50 (by decide +kernel) rfl
theorem q_300 : Cond.methodLink R_Rn 116 Lib.Math.max.name ∈ TB := tq 300 (by decide +kernel) rfl
theorem q_301 : Cond.static Lib.Math.max.name ∈ TB := tq 301 (by decide +kernel) rfl
theorem q_302 : Cond.code Lib.Math.max.name Lib.Math.max.code 2 (some .int) ∈ TB := tq 302 (by decide +kernel) rfl
theorem q_303 : Cond.methodLink R_Rn 122 y_Rn_ask ∈ TB := tq 303 (by decide +kernel) rfl
theorem q_305 : Cond.instanceMethod y_Rn_ask ∈ TB := tq 305 (by decide +kernel) rfl
theorem q_306 : Cond.code y_Rn_ask b_Rn_ask 3 (some .int) ∈ TB := tq 306 (by decide +kernel) rfl
theorem q_383 : Cond.methodLink R_Rn 125 y_Rn_decide ∈ TB := tq 383 (by decide +kernel) rfl
theorem q_385 : Cond.instanceMethod y_Rn_decide ∈ TB := tq 385 (by decide +kernel) rfl
theorem q_386 : Cond.code y_Rn_decide b_Rn_decide 6 (none : Option Jvm.ClassFile.FieldType) ∈ TB := tq 386 (by decide +kernel) rfl
theorem d_Rn_open_0 : decode b_Rn_open 0 = .ok (.aload_n 0, 1) := by decide +kernel
theorem d_Rn_open_1 : decode b_Rn_open 1 = .ok (.getfield 57, 3) := by decide +kernel
theorem d_Rn_open_4 : decode b_Rn_open 4 = .ok (.ifCond .lt 12, 3) := by decide +kernel
theorem d_Rn_open_7 : decode b_Rn_open 7 = .ok (.aload_n 0, 1) := by decide +kernel
theorem d_Rn_open_8 : decode b_Rn_open 8 = .ok (.getfield 57, 3) := by decide +kernel
theorem d_Rn_open_11 : decode b_Rn_open 11 = .ok (.bipush 20, 2) := by decide +kernel
theorem d_Rn_open_13 : decode b_Rn_open 13 = .ok (.if_icmp .lt 9, 3) := by decide +kernel
theorem d_Rn_open_16 : decode b_Rn_open 16 = .ok (.aload_n 0, 1) := by decide +kernel
theorem d_Rn_open_17 : decode b_Rn_open 17 = .ok (.iconst 5, 1) := by decide +kernel
theorem d_Rn_open_18 : decode b_Rn_open 18 = .ok (.invokevirtual 60, 3) := by decide +kernel
theorem d_Rn_open_21 : decode b_Rn_open 21 = .ok (.return_, 1) := by decide +kernel
theorem d_Rn_open_22 : decode b_Rn_open 22 = .ok (.aload_n 0, 1) := by decide +kernel
theorem d_Rn_open_23 : decode b_Rn_open 23 = .ok (.getfield 69, 3) := by decide +kernel
theorem d_Rn_open_26 : decode b_Rn_open 26 = .ok (.istore_n 2, 1) := by decide +kernel
theorem d_Rn_open_27 : decode b_Rn_open 27 = .ok (.aload_n 0, 1) := by decide +kernel
theorem d_Rn_open_28 : decode b_Rn_open 28 = .ok (.getfield 18, 3) := by decide +kernel
theorem d_Rn_open_31 : decode b_Rn_open 31 = .ok (.aload_n 0, 1) := by decide +kernel
theorem d_Rn_open_32 : decode b_Rn_open 32 = .ok (.getfield 57, 3) := by decide +kernel
theorem d_Rn_open_35 : decode b_Rn_open 35 = .ok (.iload_n 1, 1) := by decide +kernel
theorem d_Rn_open_36 : decode b_Rn_open 36 = .ok (.bipush 7, 2) := by decide +kernel
theorem d_Rn_open_38 : decode b_Rn_open 38 = .ok (.if_icmp .ne 7, 3) := by decide +kernel
theorem d_Rn_open_41 : decode b_Rn_open 41 = .ok (.iconst 1, 1) := by decide +kernel
theorem d_Rn_open_42 : decode b_Rn_open 42 = .ok (.goto 4, 3) := by decide +kernel
theorem d_Rn_open_45 : decode b_Rn_open 45 = .ok (.iconst 0, 1) := by decide +kernel
theorem d_Rn_open_46 : decode b_Rn_open 46 = .ok (.bastore, 1) := by decide +kernel
theorem d_Rn_open_47 : decode b_Rn_open 47 = .ok (.aload_n 0, 1) := by decide +kernel
theorem d_Rn_open_48 : decode b_Rn_open 48 = .ok (.getfield 22, 3) := by decide +kernel
theorem d_Rn_open_51 : decode b_Rn_open 51 = .ok (.aload_n 0, 1) := by decide +kernel
theorem d_Rn_open_52 : decode b_Rn_open 52 = .ok (.getfield 57, 3) := by decide +kernel
theorem d_Rn_open_55 : decode b_Rn_open 55 = .ok (.iconst 0, 1) := by decide +kernel
theorem d_Rn_open_56 : decode b_Rn_open 56 = .ok (.bastore, 1) := by decide +kernel
theorem d_Rn_open_57 : decode b_Rn_open 57 = .ok (.aload_n 0, 1) := by decide +kernel
theorem d_Rn_open_58 : decode b_Rn_open 58 = .ok (.dup, 1) := by decide +kernel
theorem d_Rn_open_59 : decode b_Rn_open 59 = .ok (.getfield 69, 3) := by decide +kernel
theorem d_Rn_open_62 : decode b_Rn_open 62 = .ok (.iconst 1, 1) := by decide +kernel
theorem d_Rn_open_63 : decode b_Rn_open 63 = .ok (.iadd, 1) := by decide +kernel
theorem d_Rn_open_64 : decode b_Rn_open 64 = .ok (.putfield 69, 3) := by decide +kernel
theorem d_Rn_open_67 : decode b_Rn_open 67 = .ok (.aload_n 0, 1) := by decide +kernel
theorem d_Rn_open_68 : decode b_Rn_open 68 = .ok (.dup, 1) := by decide +kernel
theorem d_Rn_open_69 : decode b_Rn_open 69 = .ok (.getfield 57, 3) := by decide +kernel
theorem d_Rn_open_72 : decode b_Rn_open 72 = .ok (.iconst 1, 1) := by decide +kernel
theorem d_Rn_open_73 : decode b_Rn_open 73 = .ok (.iadd, 1) := by decide +kernel
theorem d_Rn_open_74 : decode b_Rn_open 74 = .ok (.putfield 57, 3) := by decide +kernel
theorem d_Rn_open_77 : decode b_Rn_open 77 = .ok (.aload_n 0, 1) := by decide +kernel
theorem d_Rn_open_78 : decode b_Rn_open 78 = .ok (.aload_n 0, 1) := by decide +kernel
theorem d_Rn_open_79 : decode b_Rn_open 79 = .ok (.getfield 72, 3) := by decide +kernel
theorem d_Rn_open_82 : decode b_Rn_open 82 = .ok (.aload_n 0, 1) := by decide +kernel
theorem d_Rn_open_83 : decode b_Rn_open 83 = .ok (.getfield 57, 3) := by decide +kernel
theorem d_Rn_open_86 : decode b_Rn_open 86 = .ok (.invokestatic 116, 3) := by decide +kernel
theorem d_Rn_open_89 : decode b_Rn_open 89 = .ok (.putfield 72, 3) := by decide +kernel
theorem d_Rn_open_92 : decode b_Rn_open 92 = .ok (.aload_n 0, 1) := by decide +kernel
theorem d_Rn_open_93 : decode b_Rn_open 93 = .ok (.getfield 57, 3) := by decide +kernel
theorem d_Rn_open_96 : decode b_Rn_open 96 = .ok (.istore_n 3, 1) := by decide +kernel
theorem d_Rn_open_97 : decode b_Rn_open 97 = .ok (.aload_n 0, 1) := by decide +kernel
theorem d_Rn_open_98 : decode b_Rn_open 98 = .ok (.iload_n 1, 1) := by decide +kernel
theorem d_Rn_open_99 : decode b_Rn_open 99 = .ok (.iload_n 3, 1) := by decide +kernel
theorem d_Rn_open_100 : decode b_Rn_open 100 = .ok (.invokevirtual 122, 3) := by decide +kernel
theorem d_Rn_open_103 : decode b_Rn_open 103 = .ok (.istore 4, 2) := by decide +kernel
theorem d_Rn_open_105 : decode b_Rn_open 105 = .ok (.aload_n 0, 1) := by decide +kernel
theorem d_Rn_open_106 : decode b_Rn_open 106 = .ok (.getfield 57, 3) := by decide +kernel
theorem d_Rn_open_109 : decode b_Rn_open 109 = .ok (.iload_n 3, 1) := by decide +kernel
theorem d_Rn_open_110 : decode b_Rn_open 110 = .ok (.if_icmp .le 9, 3) := by decide +kernel
theorem d_Rn_open_113 : decode b_Rn_open 113 = .ok (.aload_n 0, 1) := by decide +kernel
theorem d_Rn_open_114 : decode b_Rn_open 114 = .ok (.bipush 6, 2) := by decide +kernel
theorem d_Rn_open_116 : decode b_Rn_open 116 = .ok (.invokevirtual 60, 3) := by decide +kernel
theorem d_Rn_open_119 : decode b_Rn_open 119 = .ok (.aload_n 0, 1) := by decide +kernel
theorem d_Rn_open_120 : decode b_Rn_open 120 = .ok (.getfield 45, 3) := by decide +kernel
theorem d_Rn_open_123 : decode b_Rn_open 123 = .ok (.ifCond .ne 11, 3) := by decide +kernel
theorem d_Rn_open_126 : decode b_Rn_open 126 = .ok (.aload_n 0, 1) := by decide +kernel
theorem d_Rn_open_127 : decode b_Rn_open 127 = .ok (.iload_n 1, 1) := by decide +kernel
theorem d_Rn_open_128 : decode b_Rn_open 128 = .ok (.iload_n 2, 1) := by decide +kernel
theorem d_Rn_open_129 : decode b_Rn_open 129 = .ok (.iload 4, 2) := by decide +kernel
theorem d_Rn_open_131 : decode b_Rn_open 131 = .ok (.invokevirtual 125, 3) := by decide +kernel
theorem d_Rn_open_134 : decode b_Rn_open 134 = .ok (.return_, 1) := by decide +kernel
noncomputable def f_Rn_open_s (op : TBk → TRn → Int32 → TRn) (b : TBk) (u : TRn) (p0 : Int32) : TRn := (if (TRn_openCount u) < 0 then (let v_2 := f_Rn_fail b u 5; v_2) else (if (TRn_openCount u) < 20 then (if p0 = 7 then (match f_Rn_ask op b (TRn_set_mostOpen (TRn_set_opened (TRn_set_openCount (TRn_set_hadElse (TRn_set_isCase u (upd (TRn_isCase u) (TRn_openCount u).toNatClampNeg (vp_nar .boolean 1))) (upd (TRn_hadElse u) (TRn_openCount u).toNatClampNeg (vp_nar .boolean 0))) ((TRn_openCount u) + 1)) ((TRn_opened u) + 1)) (if (TRn_mostOpen u) < ((TRn_openCount u) + 1) then ((TRn_openCount u) + 1) else (TRn_mostOpen u))) p0 ((TRn_openCount u) + 1) with | (r_12, v_12) => (if (TRn_openCount v_12) ≤ ((TRn_openCount u) + 1) then (if (TRn_fault v_12) = 0 then (let v_15 := f_Rn_decide b v_12 p0 (TRn_opened u) r_12; v_15) else v_12) else (let v_16 := f_Rn_fail b v_12 6; (if (TRn_fault v_16) = 0 then (let v_18 := f_Rn_decide b v_16 p0 (TRn_opened u) r_12; v_18) else v_16)))) else (match f_Rn_ask op b (TRn_set_mostOpen (TRn_set_opened (TRn_set_openCount (TRn_set_hadElse (TRn_set_isCase u (upd (TRn_isCase u) (TRn_openCount u).toNatClampNeg (vp_nar .boolean 0))) (upd (TRn_hadElse u) (TRn_openCount u).toNatClampNeg (vp_nar .boolean 0))) ((TRn_openCount u) + 1)) ((TRn_opened u) + 1)) (if (TRn_mostOpen u) < ((TRn_openCount u) + 1) then ((TRn_openCount u) + 1) else (TRn_mostOpen u))) p0 ((TRn_openCount u) + 1) with | (r_5, v_5) => (if (TRn_openCount v_5) ≤ ((TRn_openCount u) + 1) then (if (TRn_fault v_5) = 0 then (let v_8 := f_Rn_decide b v_5 p0 (TRn_opened u) r_5; v_8) else v_5) else (let v_9 := f_Rn_fail b v_5 6; (if (TRn_fault v_9) = 0 then (let v_11 := f_Rn_decide b v_9 p0 (TRn_opened u) r_5; v_11) else v_9))))) else (let v_19 := f_Rn_fail b u 5; v_19)))
set_option maxHeartbeats 4000000 in
set_option maxRecDepth 100000 in
theorem c_Rn_open_s (l : Launch) (dC : Nat → ClassId) (dI : Nat → Nat → Nat) (ad : Nat → Nat) (ca : Nat → ClassId) (op : TBk → TRn → Int32 → TRn) (rf rl : Nat) (k : Int) (hopm : ∀ (b : TBk) (u : TRn) (w : Int32), k ≤ oc u → oc u ≤ oc (op b u w)) (hop : ∀ (sz : Nat) (b : TBk) (u : TRn) (w : Int32), BkS b ∧ k ≤ oc u → wx_Mv l y_Rn_open ws_Rn_open ({ frames := rf, cells := 0, slots := 0, locals := rl } : Room) (dC, dI) vwCl (t_R ca) [.ref (ad 0), .int w] (w_R ad ca b u) sz (fun v : TRn => w_R ad ca b v) (fun v : TRn => v = op b u w)) (sz : Nat) (b : TBk) (u : TRn) (p0 : Int32) (hpre : BkS b ∧ k - 1 ≤ oc u) (F : TRn) (he : F = f_Rn_open_s op b u p0) : wx_Mv l y_Rn_open ws_Rn_open ({ frames := rf + 12, cells := 0, slots := 0, locals := rl + 276 } : Room) (dC, dI) vwCl (t_R ca) [.ref (ad 0), .int p0] (w_R ad ca b u) sz (fun v : TRn => w_R ad ca b v) (fun v : TRn => v = F) := by
  refine Met.ofW (cc := b_Rn_open) (maxL := 5) (ret := none) (by decide) rfl ?_
  intro p e s m args below meth c s₁ B hml hv
  obtain ⟨rfl, hsz, hP, hK, hD0, hN⟩ := hv
  have hx := B.exec
  have hb := B.bytes
  have hr := B.returns
  have hts := atoms_spec (ws := ws_Rn_open) B.pre
  have ht : ∀ w ∈ TB, w.before _ s = true := fun w h => hts w (List.mem_cons_of_mem _ h)
  have hown : s.vm.findClass R_Rn = some m.cls := findClass_of_methodNamed B.named
  have hlocks := B.notSynchronized
  subst hsz
  have hD := hD0.self (sz := s.heap.size)
  generalize hAe : va_A (w_R ad ca b u) s.heap.size = A at hD ⊢
  have hA : ∀ q : Nat, s.heap.size ≤ q → A q := fun q h => by rw [← hAe]; exact Or.inr h
  have hS : va_S A s.heap s.heap [] := va_S.rf
  have hl := lv_entry ([.ref (ad 0), .int p0]) (n := 5) (Nat.le_of_ble_eq_true rfl)
  rw [lg_entry_eq]
  generalize (lg_sl ([.ref (ad 0), .int p0]) ++ List.replicate (5 - (lg_sl ([.ref (ad 0), .int p0])).length) Slot.unset).toArray = ls at hl ⊢
  have hl : lv_has ls 5 [(0, .ref (ad 0)), (1, .int p0)] := hl
  unfold f_Rn_open_s at he
  refine lv_aload_n hx hb d_Rn_open_0 rfl (lv_at hl 0 rfl) ?_
  refine va_get (D := (dC, dI)) (ci := 2) (v := .int (TRn_openCount u)) (C := R_Rn) (T := T_Rn) (N := 12) hx hb ht i_Rn hown hK hP 0 rfl rfl 7 (by decide) (ht _ q_139) (fun _ h9 => h9) rfl d_Rn_open_1 ?_
  refine lv_if_lt (tgt := 16) hx hb d_Rn_open_4 (by decide) (fun c_1 => ?_) (fun c_1 => ?_)
  · have he := he.trans (if_pos c_1)
    refine lv_aload_n hx hb d_Rn_open_16 rfl (lv_at hl 0 rfl) ?_
    refine lv_iconst (v := 5) hx hb d_Rn_open_17 (by decide) ?_
    refine wx_cv (wS := fun v : TRn => w_R ad ca b v) (ws2 := fun v : TRn => w_R ad ca b v) (va_runV (As := [.int 5]) (rest := []) ⟨hx, hb, hml, hown, ht⟩ (c_Rn_fail l dC dI ad ca s.heap.size b u 5 _ rfl) (cwV 1 ht (tb_V q_275 q_277 q_3 q_46 q_278) rfl rfl rfl p_Rn_fail ⟨show 0 + 1 ≤ rf + 12 by omega, show 8 + (2 + 11) + 0 ≤ rl + 276 by omega⟩) (wx_preV (wc := (w_R ad ca b u)) hN hK hP hD [0, 1, 2, 3, 4, 5, 6, 7, 8, 9, 10, 11, 12, 13, 14] [0, 1, 2, 3, 4, 5, 6, 7, 8, 9, 10, 11] rfl (by decide) rfl (ci := 2) (q0 := 0) rfl rfl) rfl rfl hl.1 rfl (lv_room (Nat.le_of_ble_eq_true rfl)) d_Rn_open_18 ⟨Nat.zero_le _, Nat.zero_le _⟩) hP hD hS hA [0, 1, 2, 3, 4, 5, 6, 7, 8, 9, 10, 11, 12, 13, 14] [] [0, 1, 2, 3, 4, 5, 6, 7, 8, 9, 10, 11, 12, 13, 14] rfl rfl (by decide) (by decide) (by decide) (fun _ => rfl) (fun v_2 H locs hw_2 hP hD hS => ?_)
    have hP : va_P (dC, dI) vwCl (w_R ad ca b v_2) H := hP
    have hD : va_D A (w_R ad ca b v_2) := hD
    rw [← hw_2] at he
    try dsimp only at he
    exact W.vret hx hb hr (fun t ht hW => ⟨⟨v_2, rfl, he.symm, by rw [ht]; exact hP, va_K.moved hW.alike hK, hD⟩, hS.F ht⟩) hS.2.2 d_Rn_open_21
  · have he := he.trans (if_neg c_1)
    refine lv_aload_n hx hb d_Rn_open_7 rfl (lv_at hl 0 rfl) ?_
    refine va_get (D := (dC, dI)) (ci := 2) (v := .int (TRn_openCount u)) (C := R_Rn) (T := T_Rn) (N := 12) hx hb ht i_Rn hown hK hP 0 rfl rfl 7 (by decide) (ht _ q_139) (fun _ h9 => h9) rfl d_Rn_open_8 ?_
    refine lv_bipush (v := 20) hx hb d_Rn_open_11 (by decide) ?_
    refine lv_icmp_lt (tgt := 22) hx hb d_Rn_open_13 (by decide) (fun c_3 => ?_) (fun c_3 => ?_)
    · have he := he.trans (if_pos c_3)
      refine lv_aload_n hx hb d_Rn_open_22 rfl (lv_at hl 0 rfl) ?_
      refine va_get (D := (dC, dI)) (ci := 2) (v := .int (TRn_opened u)) (C := R_Rn) (T := T_Rn) (N := 12) hx hb ht i_Rn hown hK hP 0 rfl rfl 8 (by decide) (ht _ q_140) (fun _ h9 => h9) rfl d_Rn_open_23 ?_
      refine lv_istore_n (lv' := [(2, .int (TRn_opened u)), (0, .ref (ad 0)), (1, .int p0)]) hx hb d_Rn_open_26 rfl hl (by decide) rfl (fun ls hl => ?_)
      refine lv_aload_n hx hb d_Rn_open_27 rfl (lv_at hl 1 rfl) ?_
      refine va_get (D := (dC, dI)) (ci := 2) (v := .ref (ad 3)) (C := R_Rn) (T := T_Rn) (N := 12) hx hb ht i_Rn hown hK hP 0 rfl rfl 4 (by decide) (ht _ q_136) (fun _ h9 => h9) rfl d_Rn_open_28 ?_
      refine lv_aload_n hx hb d_Rn_open_31 rfl (lv_at hl 1 rfl) ?_
      refine va_get (D := (dC, dI)) (ci := 2) (v := .int (TRn_openCount u)) (C := R_Rn) (T := T_Rn) (N := 12) hx hb ht i_Rn hown hK hP 0 rfl rfl 7 (by decide) (ht _ q_139) (fun _ h9 => h9) rfl d_Rn_open_32 ?_
      refine lv_iload_n hx hb d_Rn_open_35 rfl (lv_at hl 2 rfl) ?_
      refine lv_bipush (v := 7) hx hb d_Rn_open_36 (by decide) ?_
      refine lv_icmp_ne (tgt := 45) hx hb d_Rn_open_38 (by decide) (fun c_4 => ?_) (fun c_4 => ?_)
      · have he := he.trans (if_neg c_4)
        refine lv_iconst (v := 0) hx hb d_Rn_open_45 (by decide) ?_
        refine va_zast hx hb hK hP hD hS 3 2 rfl rfl (wx_inAV (by decide) c_1 c_3) d_Rn_open_46 (fun H locs hP hD hS => ?_)
        have hP : va_P (dC, dI) vwCl (w_R ad ca b (TRn_set_isCase u (upd (TRn_isCase u) (TRn_openCount u).toNatClampNeg (vp_nar .boolean 0)))) H := hP
        have hD : va_D A (w_R ad ca b (TRn_set_isCase u (upd (TRn_isCase u) (TRn_openCount u).toNatClampNeg (vp_nar .boolean 0)))) := hD
        refine lv_aload_n hx hb d_Rn_open_47 rfl (lv_at hl 1 rfl) ?_
        refine va_get (D := (dC, dI)) (ci := 2) (v := .ref (ad 4)) (C := R_Rn) (T := T_Rn) (N := 12) hx hb ht i_Rn hown hK hP 0 rfl rfl 5 (by decide) (ht _ q_137) (fun _ h9 => h9) rfl d_Rn_open_48 ?_
        refine lv_aload_n hx hb d_Rn_open_51 rfl (lv_at hl 1 rfl) ?_
        refine va_get (D := (dC, dI)) (ci := 2) (v := .int (TRn_openCount u)) (C := R_Rn) (T := T_Rn) (N := 12) hx hb ht i_Rn hown hK hP 0 rfl rfl 7 (by decide) (ht _ q_139) (fun _ h9 => h9) rfl d_Rn_open_52 ?_
        refine lv_iconst (v := 0) hx hb d_Rn_open_55 (by decide) ?_
        refine va_zast hx hb hK hP hD hS 4 3 rfl rfl (wx_inAV (by decide) c_1 c_3) d_Rn_open_56 (fun H locs hP hD hS => ?_)
        have hP : va_P (dC, dI) vwCl (w_R ad ca b (TRn_set_hadElse (TRn_set_isCase u (upd (TRn_isCase u) (TRn_openCount u).toNatClampNeg (vp_nar .boolean 0))) (upd (TRn_hadElse u) (TRn_openCount u).toNatClampNeg (vp_nar .boolean 0)))) H := hP
        have hD : va_D A (w_R ad ca b (TRn_set_hadElse (TRn_set_isCase u (upd (TRn_isCase u) (TRn_openCount u).toNatClampNeg (vp_nar .boolean 0))) (upd (TRn_hadElse u) (TRn_openCount u).toNatClampNeg (vp_nar .boolean 0)))) := hD
        refine lv_aload_n hx hb d_Rn_open_57 rfl (lv_at hl 1 rfl) ?_
        refine lv_dup hx hb d_Rn_open_58 rfl ?_
        refine va_get (D := (dC, dI)) (ci := 2) (v := .int (TRn_opened u)) (C := R_Rn) (T := T_Rn) (N := 12) hx hb ht i_Rn hown hK hP 0 rfl rfl 8 (by decide) (ht _ q_140) (fun _ h9 => h9) rfl d_Rn_open_59 ?_
        refine lv_iconst (v := 1) hx hb d_Rn_open_62 (by decide) ?_
        refine lv_iadd hx hb d_Rn_open_63 ?_
        refine va_put (D := (dC, dI)) (ci := 2) (v := .int ((TRn_opened u) + 1)) (ty := .int) (C := R_Rn) (T := T_Rn) (N := 12) hx hb ht i_Rn ty_Rn ty_Rn_ok nm_Rn hown hK hP hD hS 0 rfl rfl 8 (by decide) (ht _ q_140) (fun _ h9 => h9) rfl (by decide +kernel) rfl rfl (Nat.le_of_ble_eq_true rfl) d_Rn_open_64 (fun H locs hP hD hS => ?_)
        have hP : va_P (dC, dI) vwCl (w_R ad ca b (TRn_set_opened (TRn_set_hadElse (TRn_set_isCase u (upd (TRn_isCase u) (TRn_openCount u).toNatClampNeg (vp_nar .boolean 0))) (upd (TRn_hadElse u) (TRn_openCount u).toNatClampNeg (vp_nar .boolean 0))) ((TRn_opened u) + 1))) H := hP
        have hD : va_D A (w_R ad ca b (TRn_set_opened (TRn_set_hadElse (TRn_set_isCase u (upd (TRn_isCase u) (TRn_openCount u).toNatClampNeg (vp_nar .boolean 0))) (upd (TRn_hadElse u) (TRn_openCount u).toNatClampNeg (vp_nar .boolean 0))) ((TRn_opened u) + 1))) := hD
        refine lv_aload_n hx hb d_Rn_open_67 rfl (lv_at hl 1 rfl) ?_
        refine lv_dup hx hb d_Rn_open_68 rfl ?_
        refine va_get (D := (dC, dI)) (ci := 2) (v := .int (TRn_openCount u)) (C := R_Rn) (T := T_Rn) (N := 12) hx hb ht i_Rn hown hK hP 0 rfl rfl 7 (by decide) (ht _ q_139) (fun _ h9 => h9) rfl d_Rn_open_69 ?_
        refine lv_iconst (v := 1) hx hb d_Rn_open_72 (by decide) ?_
        refine lv_iadd hx hb d_Rn_open_73 ?_
        refine va_put (D := (dC, dI)) (ci := 2) (v := .int ((TRn_openCount u) + 1)) (ty := .int) (C := R_Rn) (T := T_Rn) (N := 12) hx hb ht i_Rn ty_Rn ty_Rn_ok nm_Rn hown hK hP hD hS 0 rfl rfl 7 (by decide) (ht _ q_139) (fun _ h9 => h9) rfl (by decide +kernel) rfl rfl (Nat.le_of_ble_eq_true rfl) d_Rn_open_74 (fun H locs hP hD hS => ?_)
        have hP : va_P (dC, dI) vwCl (w_R ad ca b (TRn_set_opened (TRn_set_openCount (TRn_set_hadElse (TRn_set_isCase u (upd (TRn_isCase u) (TRn_openCount u).toNatClampNeg (vp_nar .boolean 0))) (upd (TRn_hadElse u) (TRn_openCount u).toNatClampNeg (vp_nar .boolean 0))) ((TRn_openCount u) + 1)) ((TRn_opened u) + 1))) H := hP
        have hD : va_D A (w_R ad ca b (TRn_set_opened (TRn_set_openCount (TRn_set_hadElse (TRn_set_isCase u (upd (TRn_isCase u) (TRn_openCount u).toNatClampNeg (vp_nar .boolean 0))) (upd (TRn_hadElse u) (TRn_openCount u).toNatClampNeg (vp_nar .boolean 0))) ((TRn_openCount u) + 1)) ((TRn_opened u) + 1))) := hD
        refine lv_aload_n hx hb d_Rn_open_77 rfl (lv_at hl 1 rfl) ?_
        refine lv_aload_n hx hb d_Rn_open_78 rfl (lv_at hl 1 rfl) ?_
        refine va_get (D := (dC, dI)) (ci := 2) (v := .int (TRn_mostOpen u)) (C := R_Rn) (T := T_Rn) (N := 12) hx hb ht i_Rn hown hK hP 0 rfl rfl 9 (by decide) (ht _ q_141) (fun _ h9 => h9) rfl d_Rn_open_79 ?_
        refine lv_aload_n hx hb d_Rn_open_82 rfl (lv_at hl 1 rfl) ?_
        refine va_get (D := (dC, dI)) (ci := 2) (v := .int ((TRn_openCount u) + 1)) (C := R_Rn) (T := T_Rn) (N := 12) hx hb ht i_Rn hown hK hP 0 rfl rfl 7 (by decide) (ht _ q_139) (fun _ h9 => h9) rfl d_Rn_open_83 ?_
        refine va_mmax hx hb (hml.trans hl.1.symm) hown (ht _ q_300) (ht _ q_301) (ht _ q_50) (ht _ q_302) (by exact (show 1 ≤ rf + 12 by omega)) (by exact (show 1 + 13 ≤ rl + 276 by omega)) (Nat.zero_le _) (Nat.zero_le _) d_Rn_open_86 ?_
        refine va_put (D := (dC, dI)) (ci := 2) (v := .int (if (TRn_mostOpen u) < ((TRn_openCount u) + 1) then ((TRn_openCount u) + 1) else (TRn_mostOpen u))) (ty := .int) (C := R_Rn) (T := T_Rn) (N := 12) hx hb ht i_Rn ty_Rn ty_Rn_ok nm_Rn hown hK hP hD hS 0 rfl rfl 9 (by decide) (ht _ q_141) (fun _ h9 => h9) rfl (by decide +kernel) rfl rfl (Nat.le_of_ble_eq_true rfl) d_Rn_open_89 (fun H locs hP hD hS => ?_)
        have hP : va_P (dC, dI) vwCl (w_R ad ca b (TRn_set_mostOpen (TRn_set_opened (TRn_set_openCount (TRn_set_hadElse (TRn_set_isCase u (upd (TRn_isCase u) (TRn_openCount u).toNatClampNeg (vp_nar .boolean 0))) (upd (TRn_hadElse u) (TRn_openCount u).toNatClampNeg (vp_nar .boolean 0))) ((TRn_openCount u) + 1)) ((TRn_opened u) + 1)) (if (TRn_mostOpen u) < ((TRn_openCount u) + 1) then ((TRn_openCount u) + 1) else (TRn_mostOpen u)))) H := hP
        have hD : va_D A (w_R ad ca b (TRn_set_mostOpen (TRn_set_opened (TRn_set_openCount (TRn_set_hadElse (TRn_set_isCase u (upd (TRn_isCase u) (TRn_openCount u).toNatClampNeg (vp_nar .boolean 0))) (upd (TRn_hadElse u) (TRn_openCount u).toNatClampNeg (vp_nar .boolean 0))) ((TRn_openCount u) + 1)) ((TRn_opened u) + 1)) (if (TRn_mostOpen u) < ((TRn_openCount u) + 1) then ((TRn_openCount u) + 1) else (TRn_mostOpen u)))) := hD
        refine lv_aload_n hx hb d_Rn_open_92 rfl (lv_at hl 1 rfl) ?_
        refine va_get (D := (dC, dI)) (ci := 2) (v := .int ((TRn_openCount u) + 1)) (C := R_Rn) (T := T_Rn) (N := 12) hx hb ht i_Rn hown hK hP 0 rfl rfl 7 (by decide) (ht _ q_139) (fun _ h9 => h9) rfl d_Rn_open_93 ?_
        refine lv_istore_n (lv' := [(3, .int ((TRn_openCount u) + 1)), (2, .int (TRn_opened u)), (0, .ref (ad 0)), (1, .int p0)]) hx hb d_Rn_open_96 rfl hl (by decide) rfl (fun ls hl => ?_)
        refine lv_aload_n hx hb d_Rn_open_97 rfl (lv_at hl 2 rfl) ?_
        refine lv_iload_n hx hb d_Rn_open_98 rfl (lv_at hl 3 rfl) ?_
        refine lv_iload_n hx hb d_Rn_open_99 rfl (lv_at hl 0 rfl) ?_
        refine wx_ci (wS := fun v : TRn => w_R ad ca b v) (ws2 := fun v : TRn => w_R ad ca b v) (va_runV (As := [.int p0, .int ((TRn_openCount u) + 1)]) (rest := []) ⟨hx, hb, hml, hown, ht⟩ (c_Rn_ask l dC dI ad ca op rf rl k hopm hop H.size b (TRn_set_mostOpen (TRn_set_opened (TRn_set_openCount (TRn_set_hadElse (TRn_set_isCase u (upd (TRn_isCase u) (TRn_openCount u).toNatClampNeg (vp_nar .boolean 0))) (upd (TRn_hadElse u) (TRn_openCount u).toNatClampNeg (vp_nar .boolean 0))) ((TRn_openCount u) + 1)) ((TRn_opened u) + 1)) (if (TRn_mostOpen u) < ((TRn_openCount u) + 1) then ((TRn_openCount u) + 1) else (TRn_mostOpen u))) p0 ((TRn_openCount u) + 1) ⟨hpre.1, open_k hpre.2 c_1 c_3, Int.le_refl _⟩ _ rfl) (cwV 2 ht (tb_V q_303 q_305 q_6 q_46 q_306) rfl rfl rfl p_Rn_ask ⟨show (rf + 11) + 1 ≤ rf + 12 by omega, show 8 + (3 + 11) + (rl + 254) ≤ rl + 276 by omega⟩) (wx_preV (wc := (w_R ad ca b (TRn_set_mostOpen (TRn_set_opened (TRn_set_openCount (TRn_set_hadElse (TRn_set_isCase u (upd (TRn_isCase u) (TRn_openCount u).toNatClampNeg (vp_nar .boolean 0))) (upd (TRn_hadElse u) (TRn_openCount u).toNatClampNeg (vp_nar .boolean 0))) ((TRn_openCount u) + 1)) ((TRn_opened u) + 1)) (if (TRn_mostOpen u) < ((TRn_openCount u) + 1) then ((TRn_openCount u) + 1) else (TRn_mostOpen u))))) hN hK hP hD [0, 1, 2, 3, 4, 5, 6, 7, 8, 9, 10, 11, 12, 13, 14] [0, 1, 2, 3, 4, 5, 6, 7, 8, 9, 10, 11] rfl (by decide) rfl (ci := 2) (q0 := 0) rfl rfl) rfl rfl hl.1 rfl (lv_room (Nat.le_of_ble_eq_true rfl)) d_Rn_open_100 ⟨Nat.zero_le _, Nat.zero_le _⟩) hP hD hS hA [0, 1, 2, 3, 4, 5, 6, 7, 8, 9, 10, 11, 12, 13, 14] [] [0, 1, 2, 3, 4, 5, 6, 7, 8, 9, 10, 11, 12, 13, 14] rfl rfl (by decide) (by decide) (by decide) (fun _ => rfl) (fun r_5 v_5 H locs hw_5 hP hD hS => ?_)
        have hP : va_P (dC, dI) vwCl (w_R ad ca b v_5) H := hP
        have hD : va_D A (w_R ad ca b v_5) := hD
        rw [← hw_5] at he
        try dsimp only at he
        refine lv_istore (lv' := [(4, .int r_5), (3, .int ((TRn_openCount u) + 1)), (2, .int (TRn_opened u)), (0, .ref (ad 0)), (1, .int p0)]) hx hb d_Rn_open_103 hl (by decide) rfl (fun ls hl => ?_)
        refine lv_aload_n hx hb d_Rn_open_105 rfl (lv_at hl 3 rfl) ?_
        refine va_get (D := (dC, dI)) (ci := 2) (v := .int (TRn_openCount v_5)) (C := R_Rn) (T := T_Rn) (N := 12) hx hb ht i_Rn hown hK hP 0 rfl rfl 7 (by decide) (ht _ q_139) (fun _ h9 => h9) rfl d_Rn_open_106 ?_
        refine lv_iload_n hx hb d_Rn_open_109 rfl (lv_at hl 1 rfl) ?_
        refine lv_icmp_le (tgt := 119) hx hb d_Rn_open_110 (by decide) (fun c_6 => ?_) (fun c_6 => ?_)
        · have he := he.trans (if_pos c_6)
          refine lv_aload_n hx hb d_Rn_open_119 rfl (lv_at hl 3 rfl) ?_
          refine va_get (D := (dC, dI)) (ci := 2) (v := .int (TRn_fault v_5)) (C := R_Rn) (T := T_Rn) (N := 12) hx hb ht i_Rn hown hK hP 0 rfl rfl 11 (by decide) (ht _ q_143) (fun _ h9 => h9) rfl d_Rn_open_120 ?_
          refine lv_if_ne (tgt := 134) hx hb d_Rn_open_123 (by decide) (fun c_7 => ?_) (fun c_7 => ?_)
          · have he := he.trans (if_neg c_7)
            exact W.vret hx hb hr (fun t ht hW => ⟨⟨v_5, rfl, he.symm, by rw [ht]; exact hP, va_K.moved hW.alike hK, hD⟩, hS.F ht⟩) hS.2.2 d_Rn_open_134
          · have he := he.trans (if_pos c_7)
            refine lv_aload_n hx hb d_Rn_open_126 rfl (lv_at hl 3 rfl) ?_
            refine lv_iload_n hx hb d_Rn_open_127 rfl (lv_at hl 4 rfl) ?_
            refine lv_iload_n hx hb d_Rn_open_128 rfl (lv_at hl 2 rfl) ?_
            refine lv_iload hx hb d_Rn_open_129 (lv_at hl 0 rfl) ?_
            refine wx_cv (wS := fun v : TRn => w_R ad ca b v) (ws2 := fun v : TRn => w_R ad ca b v) (va_runV (As := [.int p0, .int (TRn_opened u), .int r_5]) (rest := []) ⟨hx, hb, hml, hown, ht⟩ (c_Rn_decide l dC dI ad ca H.size b v_5 p0 (TRn_opened u) r_5 hpre.1 _ rfl) (cwV 3 ht (tb_V q_383 q_385 q_18 q_46 q_386) rfl rfl rfl p_Rn_decide ⟨show 5 + 1 ≤ rf + 12 by omega, show 8 + (6 + 11) + 113 ≤ rl + 276 by omega⟩) (wx_preV (wc := (w_R ad ca b v_5)) hN hK hP hD [0, 1, 2, 3, 4, 5, 6, 7, 8, 9, 10, 11, 12, 13, 14] [0, 1, 2, 3, 4, 5, 6, 7, 8, 9, 10, 11] rfl (by decide) rfl (ci := 2) (q0 := 0) rfl rfl) rfl rfl hl.1 rfl (lv_room (Nat.le_of_ble_eq_true rfl)) d_Rn_open_131 ⟨Nat.zero_le _, Nat.zero_le _⟩) hP hD hS hA [0, 1, 2, 3, 4, 5, 6, 7, 8, 9, 10, 11, 12, 13, 14] [] [0, 1, 2, 3, 4, 5, 6, 7, 8, 9, 10, 11, 12, 13, 14] rfl rfl (by decide) (by decide) (by decide) (fun _ => rfl) (fun v_8 H locs hw_8 hP hD hS => ?_)
            have hP : va_P (dC, dI) vwCl (w_R ad ca b v_8) H := hP
            have hD : va_D A (w_R ad ca b v_8) := hD
            rw [← hw_8] at he
            try dsimp only at he
            exact W.vret hx hb hr (fun t ht hW => ⟨⟨v_8, rfl, he.symm, by rw [ht]; exact hP, va_K.moved hW.alike hK, hD⟩, hS.F ht⟩) hS.2.2 d_Rn_open_134
        · have he := he.trans (if_neg c_6)
          refine lv_aload_n hx hb d_Rn_open_113 rfl (lv_at hl 3 rfl) ?_
          refine lv_bipush (v := 6) hx hb d_Rn_open_114 (by decide) ?_
          refine wx_cv (wS := fun v : TRn => w_R ad ca b v) (ws2 := fun v : TRn => w_R ad ca b v) (va_runV (As := [.int 6]) (rest := []) ⟨hx, hb, hml, hown, ht⟩ (c_Rn_fail l dC dI ad ca H.size b v_5 6 _ rfl) (cwV 1 ht (tb_V q_275 q_277 q_3 q_46 q_278) rfl rfl rfl p_Rn_fail ⟨show 0 + 1 ≤ rf + 12 by omega, show 8 + (2 + 11) + 0 ≤ rl + 276 by omega⟩) (wx_preV (wc := (w_R ad ca b v_5)) hN hK hP hD [0, 1, 2, 3, 4, 5, 6, 7, 8, 9, 10, 11, 12, 13, 14] [0, 1, 2, 3, 4, 5, 6, 7, 8, 9, 10, 11] rfl (by decide) rfl (ci := 2) (q0 := 0) rfl rfl) rfl rfl hl.1 rfl (lv_room (Nat.le_of_ble_eq_true rfl)) d_Rn_open_116 ⟨Nat.zero_le _, Nat.zero_le _⟩) hP hD hS hA [0, 1, 2, 3, 4, 5, 6, 7, 8, 9, 10, 11, 12, 13, 14] [] [0, 1, 2, 3, 4, 5, 6, 7, 8, 9, 10, 11, 12, 13, 14] rfl rfl (by decide) (by decide) (by decide) (fun _ => rfl) (fun v_9 H locs hw_9 hP hD hS => ?_)
          have hP : va_P (dC, dI) vwCl (w_R ad ca b v_9) H := hP
          have hD : va_D A (w_R ad ca b v_9) := hD
          rw [← hw_9] at he
          try dsimp only at he
          refine lv_aload_n hx hb d_Rn_open_119 rfl (lv_at hl 3 rfl) ?_
          refine va_get (D := (dC, dI)) (ci := 2) (v := .int (TRn_fault v_9)) (C := R_Rn) (T := T_Rn) (N := 12) hx hb ht i_Rn hown hK hP 0 rfl rfl 11 (by decide) (ht _ q_143) (fun _ h9 => h9) rfl d_Rn_open_120 ?_
          refine lv_if_ne (tgt := 134) hx hb d_Rn_open_123 (by decide) (fun c_10 => ?_) (fun c_10 => ?_)
          · have he := he.trans (if_neg c_10)
            exact W.vret hx hb hr (fun t ht hW => ⟨⟨v_9, rfl, he.symm, by rw [ht]; exact hP, va_K.moved hW.alike hK, hD⟩, hS.F ht⟩) hS.2.2 d_Rn_open_134
          · have he := he.trans (if_pos c_10)
            refine lv_aload_n hx hb d_Rn_open_126 rfl (lv_at hl 3 rfl) ?_
            refine lv_iload_n hx hb d_Rn_open_127 rfl (lv_at hl 4 rfl) ?_
            refine lv_iload_n hx hb d_Rn_open_128 rfl (lv_at hl 2 rfl) ?_
            refine lv_iload hx hb d_Rn_open_129 (lv_at hl 0 rfl) ?_
            refine wx_cv (wS := fun v : TRn => w_R ad ca b v) (ws2 := fun v : TRn => w_R ad ca b v) (va_runV (As := [.int p0, .int (TRn_opened u), .int r_5]) (rest := []) ⟨hx, hb, hml, hown, ht⟩ (c_Rn_decide l dC dI ad ca H.size b v_9 p0 (TRn_opened u) r_5 hpre.1 _ rfl) (cwV 3 ht (tb_V q_383 q_385 q_18 q_46 q_386) rfl rfl rfl p_Rn_decide ⟨show 5 + 1 ≤ rf + 12 by omega, show 8 + (6 + 11) + 113 ≤ rl + 276 by omega⟩) (wx_preV (wc := (w_R ad ca b v_9)) hN hK hP hD [0, 1, 2, 3, 4, 5, 6, 7, 8, 9, 10, 11, 12, 13, 14] [0, 1, 2, 3, 4, 5, 6, 7, 8, 9, 10, 11] rfl (by decide) rfl (ci := 2) (q0 := 0) rfl rfl) rfl rfl hl.1 rfl (lv_room (Nat.le_of_ble_eq_true rfl)) d_Rn_open_131 ⟨Nat.zero_le _, Nat.zero_le _⟩) hP hD hS hA [0, 1, 2, 3, 4, 5, 6, 7, 8, 9, 10, 11, 12, 13, 14] [] [0, 1, 2, 3, 4, 5, 6, 7, 8, 9, 10, 11, 12, 13, 14] rfl rfl (by decide) (by decide) (by decide) (fun _ => rfl) (fun v_11 H locs hw_11 hP hD hS => ?_)
            have hP : va_P (dC, dI) vwCl (w_R ad ca b v_11) H := hP
            have hD : va_D A (w_R ad ca b v_11) := hD
            rw [← hw_11] at he
            try dsimp only at he
            exact W.vret hx hb hr (fun t ht hW => ⟨⟨v_11, rfl, he.symm, by rw [ht]; exact hP, va_K.moved hW.alike hK, hD⟩, hS.F ht⟩) hS.2.2 d_Rn_open_134
      · have he := he.trans (if_pos c_4)
        refine lv_iconst (v := 1) hx hb d_Rn_open_41 (by decide) ?_
        refine lv_goto (tgt := 46) hx hb d_Rn_open_42 (by decide) ?_
        refine va_zast hx hb hK hP hD hS 3 2 rfl rfl (wx_inAV (by decide) c_1 c_3) d_Rn_open_46 (fun H locs hP hD hS => ?_)
        have hP : va_P (dC, dI) vwCl (w_R ad ca b (TRn_set_isCase u (upd (TRn_isCase u) (TRn_openCount u).toNatClampNeg (vp_nar .boolean 1)))) H := hP
        have hD : va_D A (w_R ad ca b (TRn_set_isCase u (upd (TRn_isCase u) (TRn_openCount u).toNatClampNeg (vp_nar .boolean 1)))) := hD
        refine lv_aload_n hx hb d_Rn_open_47 rfl (lv_at hl 1 rfl) ?_
        refine va_get (D := (dC, dI)) (ci := 2) (v := .ref (ad 4)) (C := R_Rn) (T := T_Rn) (N := 12) hx hb ht i_Rn hown hK hP 0 rfl rfl 5 (by decide) (ht _ q_137) (fun _ h9 => h9) rfl d_Rn_open_48 ?_
        refine lv_aload_n hx hb d_Rn_open_51 rfl (lv_at hl 1 rfl) ?_
        refine va_get (D := (dC, dI)) (ci := 2) (v := .int (TRn_openCount u)) (C := R_Rn) (T := T_Rn) (N := 12) hx hb ht i_Rn hown hK hP 0 rfl rfl 7 (by decide) (ht _ q_139) (fun _ h9 => h9) rfl d_Rn_open_52 ?_
        refine lv_iconst (v := 0) hx hb d_Rn_open_55 (by decide) ?_
        refine va_zast hx hb hK hP hD hS 4 3 rfl rfl (wx_inAV (by decide) c_1 c_3) d_Rn_open_56 (fun H locs hP hD hS => ?_)
        have hP : va_P (dC, dI) vwCl (w_R ad ca b (TRn_set_hadElse (TRn_set_isCase u (upd (TRn_isCase u) (TRn_openCount u).toNatClampNeg (vp_nar .boolean 1))) (upd (TRn_hadElse u) (TRn_openCount u).toNatClampNeg (vp_nar .boolean 0)))) H := hP
        have hD : va_D A (w_R ad ca b (TRn_set_hadElse (TRn_set_isCase u (upd (TRn_isCase u) (TRn_openCount u).toNatClampNeg (vp_nar .boolean 1))) (upd (TRn_hadElse u) (TRn_openCount u).toNatClampNeg (vp_nar .boolean 0)))) := hD
        refine lv_aload_n hx hb d_Rn_open_57 rfl (lv_at hl 1 rfl) ?_
        refine lv_dup hx hb d_Rn_open_58 rfl ?_
        refine va_get (D := (dC, dI)) (ci := 2) (v := .int (TRn_opened u)) (C := R_Rn) (T := T_Rn) (N := 12) hx hb ht i_Rn hown hK hP 0 rfl rfl 8 (by decide) (ht _ q_140) (fun _ h9 => h9) rfl d_Rn_open_59 ?_
        refine lv_iconst (v := 1) hx hb d_Rn_open_62 (by decide) ?_
        refine lv_iadd hx hb d_Rn_open_63 ?_
        refine va_put (D := (dC, dI)) (ci := 2) (v := .int ((TRn_opened u) + 1)) (ty := .int) (C := R_Rn) (T := T_Rn) (N := 12) hx hb ht i_Rn ty_Rn ty_Rn_ok nm_Rn hown hK hP hD hS 0 rfl rfl 8 (by decide) (ht _ q_140) (fun _ h9 => h9) rfl (by decide +kernel) rfl rfl (Nat.le_of_ble_eq_true rfl) d_Rn_open_64 (fun H locs hP hD hS => ?_)
        have hP : va_P (dC, dI) vwCl (w_R ad ca b (TRn_set_opened (TRn_set_hadElse (TRn_set_isCase u (upd (TRn_isCase u) (TRn_openCount u).toNatClampNeg (vp_nar .boolean 1))) (upd (TRn_hadElse u) (TRn_openCount u).toNatClampNeg (vp_nar .boolean 0))) ((TRn_opened u) + 1))) H := hP
        have hD : va_D A (w_R ad ca b (TRn_set_opened (TRn_set_hadElse (TRn_set_isCase u (upd (TRn_isCase u) (TRn_openCount u).toNatClampNeg (vp_nar .boolean 1))) (upd (TRn_hadElse u) (TRn_openCount u).toNatClampNeg (vp_nar .boolean 0))) ((TRn_opened u) + 1))) := hD
        refine lv_aload_n hx hb d_Rn_open_67 rfl (lv_at hl 1 rfl) ?_
        refine lv_dup hx hb d_Rn_open_68 rfl ?_
        refine va_get (D := (dC, dI)) (ci := 2) (v := .int (TRn_openCount u)) (C := R_Rn) (T := T_Rn) (N := 12) hx hb ht i_Rn hown hK hP 0 rfl rfl 7 (by decide) (ht _ q_139) (fun _ h9 => h9) rfl d_Rn_open_69 ?_
        refine lv_iconst (v := 1) hx hb d_Rn_open_72 (by decide) ?_
        refine lv_iadd hx hb d_Rn_open_73 ?_
        refine va_put (D := (dC, dI)) (ci := 2) (v := .int ((TRn_openCount u) + 1)) (ty := .int) (C := R_Rn) (T := T_Rn) (N := 12) hx hb ht i_Rn ty_Rn ty_Rn_ok nm_Rn hown hK hP hD hS 0 rfl rfl 7 (by decide) (ht _ q_139) (fun _ h9 => h9) rfl (by decide +kernel) rfl rfl (Nat.le_of_ble_eq_true rfl) d_Rn_open_74 (fun H locs hP hD hS => ?_)
        have hP : va_P (dC, dI) vwCl (w_R ad ca b (TRn_set_opened (TRn_set_openCount (TRn_set_hadElse (TRn_set_isCase u (upd (TRn_isCase u) (TRn_openCount u).toNatClampNeg (vp_nar .boolean 1))) (upd (TRn_hadElse u) (TRn_openCount u).toNatClampNeg (vp_nar .boolean 0))) ((TRn_openCount u) + 1)) ((TRn_opened u) + 1))) H := hP
        have hD : va_D A (w_R ad ca b (TRn_set_opened (TRn_set_openCount (TRn_set_hadElse (TRn_set_isCase u (upd (TRn_isCase u) (TRn_openCount u).toNatClampNeg (vp_nar .boolean 1))) (upd (TRn_hadElse u) (TRn_openCount u).toNatClampNeg (vp_nar .boolean 0))) ((TRn_openCount u) + 1)) ((TRn_opened u) + 1))) := hD
        refine lv_aload_n hx hb d_Rn_open_77 rfl (lv_at hl 1 rfl) ?_
        refine lv_aload_n hx hb d_Rn_open_78 rfl (lv_at hl 1 rfl) ?_
        refine va_get (D := (dC, dI)) (ci := 2) (v := .int (TRn_mostOpen u)) (C := R_Rn) (T := T_Rn) (N := 12) hx hb ht i_Rn hown hK hP 0 rfl rfl 9 (by decide) (ht _ q_141) (fun _ h9 => h9) rfl d_Rn_open_79 ?_
        refine lv_aload_n hx hb d_Rn_open_82 rfl (lv_at hl 1 rfl) ?_
        refine va_get (D := (dC, dI)) (ci := 2) (v := .int ((TRn_openCount u) + 1)) (C := R_Rn) (T := T_Rn) (N := 12) hx hb ht i_Rn hown hK hP 0 rfl rfl 7 (by decide) (ht _ q_139) (fun _ h9 => h9) rfl d_Rn_open_83 ?_
        refine va_mmax hx hb (hml.trans hl.1.symm) hown (ht _ q_300) (ht _ q_301) (ht _ q_50) (ht _ q_302) (by exact (show 1 ≤ rf + 12 by omega)) (by exact (show 1 + 13 ≤ rl + 276 by omega)) (Nat.zero_le _) (Nat.zero_le _) d_Rn_open_86 ?_
        refine va_put (D := (dC, dI)) (ci := 2) (v := .int (if (TRn_mostOpen u) < ((TRn_openCount u) + 1) then ((TRn_openCount u) + 1) else (TRn_mostOpen u))) (ty := .int) (C := R_Rn) (T := T_Rn) (N := 12) hx hb ht i_Rn ty_Rn ty_Rn_ok nm_Rn hown hK hP hD hS 0 rfl rfl 9 (by decide) (ht _ q_141) (fun _ h9 => h9) rfl (by decide +kernel) rfl rfl (Nat.le_of_ble_eq_true rfl) d_Rn_open_89 (fun H locs hP hD hS => ?_)
        have hP : va_P (dC, dI) vwCl (w_R ad ca b (TRn_set_mostOpen (TRn_set_opened (TRn_set_openCount (TRn_set_hadElse (TRn_set_isCase u (upd (TRn_isCase u) (TRn_openCount u).toNatClampNeg (vp_nar .boolean 1))) (upd (TRn_hadElse u) (TRn_openCount u).toNatClampNeg (vp_nar .boolean 0))) ((TRn_openCount u) + 1)) ((TRn_opened u) + 1)) (if (TRn_mostOpen u) < ((TRn_openCount u) + 1) then ((TRn_openCount u) + 1) else (TRn_mostOpen u)))) H := hP
        have hD : va_D A (w_R ad ca b (TRn_set_mostOpen (TRn_set_opened (TRn_set_openCount (TRn_set_hadElse (TRn_set_isCase u (upd (TRn_isCase u) (TRn_openCount u).toNatClampNeg (vp_nar .boolean 1))) (upd (TRn_hadElse u) (TRn_openCount u).toNatClampNeg (vp_nar .boolean 0))) ((TRn_openCount u) + 1)) ((TRn_opened u) + 1)) (if (TRn_mostOpen u) < ((TRn_openCount u) + 1) then ((TRn_openCount u) + 1) else (TRn_mostOpen u)))) := hD
        refine lv_aload_n hx hb d_Rn_open_92 rfl (lv_at hl 1 rfl) ?_
        refine va_get (D := (dC, dI)) (ci := 2) (v := .int ((TRn_openCount u) + 1)) (C := R_Rn) (T := T_Rn) (N := 12) hx hb ht i_Rn hown hK hP 0 rfl rfl 7 (by decide) (ht _ q_139) (fun _ h9 => h9) rfl d_Rn_open_93 ?_
        refine lv_istore_n (lv' := [(3, .int ((TRn_openCount u) + 1)), (2, .int (TRn_opened u)), (0, .ref (ad 0)), (1, .int p0)]) hx hb d_Rn_open_96 rfl hl (by decide) rfl (fun ls hl => ?_)
        refine lv_aload_n hx hb d_Rn_open_97 rfl (lv_at hl 2 rfl) ?_
        refine lv_iload_n hx hb d_Rn_open_98 rfl (lv_at hl 3 rfl) ?_
        refine lv_iload_n hx hb d_Rn_open_99 rfl (lv_at hl 0 rfl) ?_
        refine wx_ci (wS := fun v : TRn => w_R ad ca b v) (ws2 := fun v : TRn => w_R ad ca b v) (va_runV (As := [.int p0, .int ((TRn_openCount u) + 1)]) (rest := []) ⟨hx, hb, hml, hown, ht⟩ (c_Rn_ask l dC dI ad ca op rf rl k hopm hop H.size b (TRn_set_mostOpen (TRn_set_opened (TRn_set_openCount (TRn_set_hadElse (TRn_set_isCase u (upd (TRn_isCase u) (TRn_openCount u).toNatClampNeg (vp_nar .boolean 1))) (upd (TRn_hadElse u) (TRn_openCount u).toNatClampNeg (vp_nar .boolean 0))) ((TRn_openCount u) + 1)) ((TRn_opened u) + 1)) (if (TRn_mostOpen u) < ((TRn_openCount u) + 1) then ((TRn_openCount u) + 1) else (TRn_mostOpen u))) p0 ((TRn_openCount u) + 1) ⟨hpre.1, open_k hpre.2 c_1 c_3, Int.le_refl _⟩ _ rfl) (cwV 2 ht (tb_V q_303 q_305 q_6 q_46 q_306) rfl rfl rfl p_Rn_ask ⟨show (rf + 11) + 1 ≤ rf + 12 by omega, show 8 + (3 + 11) + (rl + 254) ≤ rl + 276 by omega⟩) (wx_preV (wc := (w_R ad ca b (TRn_set_mostOpen (TRn_set_opened (TRn_set_openCount (TRn_set_hadElse (TRn_set_isCase u (upd (TRn_isCase u) (TRn_openCount u).toNatClampNeg (vp_nar .boolean 1))) (upd (TRn_hadElse u) (TRn_openCount u).toNatClampNeg (vp_nar .boolean 0))) ((TRn_openCount u) + 1)) ((TRn_opened u) + 1)) (if (TRn_mostOpen u) < ((TRn_openCount u) + 1) then ((TRn_openCount u) + 1) else (TRn_mostOpen u))))) hN hK hP hD [0, 1, 2, 3, 4, 5, 6, 7, 8, 9, 10, 11, 12, 13, 14] [0, 1, 2, 3, 4, 5, 6, 7, 8, 9, 10, 11] rfl (by decide) rfl (ci := 2) (q0 := 0) rfl rfl) rfl rfl hl.1 rfl (lv_room (Nat.le_of_ble_eq_true rfl)) d_Rn_open_100 ⟨Nat.zero_le _, Nat.zero_le _⟩) hP hD hS hA [0, 1, 2, 3, 4, 5, 6, 7, 8, 9, 10, 11, 12, 13, 14] [] [0, 1, 2, 3, 4, 5, 6, 7, 8, 9, 10, 11, 12, 13, 14] rfl rfl (by decide) (by decide) (by decide) (fun _ => rfl) (fun r_12 v_12 H locs hw_12 hP hD hS => ?_)
        have hP : va_P (dC, dI) vwCl (w_R ad ca b v_12) H := hP
        have hD : va_D A (w_R ad ca b v_12) := hD
        rw [← hw_12] at he
        try dsimp only at he
        refine lv_istore (lv' := [(4, .int r_12), (3, .int ((TRn_openCount u) + 1)), (2, .int (TRn_opened u)), (0, .ref (ad 0)), (1, .int p0)]) hx hb d_Rn_open_103 hl (by decide) rfl (fun ls hl => ?_)
        refine lv_aload_n hx hb d_Rn_open_105 rfl (lv_at hl 3 rfl) ?_
        refine va_get (D := (dC, dI)) (ci := 2) (v := .int (TRn_openCount v_12)) (C := R_Rn) (T := T_Rn) (N := 12) hx hb ht i_Rn hown hK hP 0 rfl rfl 7 (by decide) (ht _ q_139) (fun _ h9 => h9) rfl d_Rn_open_106 ?_
        refine lv_iload_n hx hb d_Rn_open_109 rfl (lv_at hl 1 rfl) ?_
        refine lv_icmp_le (tgt := 119) hx hb d_Rn_open_110 (by decide) (fun c_13 => ?_) (fun c_13 => ?_)
        · have he := he.trans (if_pos c_13)
          refine lv_aload_n hx hb d_Rn_open_119 rfl (lv_at hl 3 rfl) ?_
          refine va_get (D := (dC, dI)) (ci := 2) (v := .int (TRn_fault v_12)) (C := R_Rn) (T := T_Rn) (N := 12) hx hb ht i_Rn hown hK hP 0 rfl rfl 11 (by decide) (ht _ q_143) (fun _ h9 => h9) rfl d_Rn_open_120 ?_
          refine lv_if_ne (tgt := 134) hx hb d_Rn_open_123 (by decide) (fun c_14 => ?_) (fun c_14 => ?_)
          · have he := he.trans (if_neg c_14)
            exact W.vret hx hb hr (fun t ht hW => ⟨⟨v_12, rfl, he.symm, by rw [ht]; exact hP, va_K.moved hW.alike hK, hD⟩, hS.F ht⟩) hS.2.2 d_Rn_open_134
          · have he := he.trans (if_pos c_14)
            refine lv_aload_n hx hb d_Rn_open_126 rfl (lv_at hl 3 rfl) ?_
            refine lv_iload_n hx hb d_Rn_open_127 rfl (lv_at hl 4 rfl) ?_
            refine lv_iload_n hx hb d_Rn_open_128 rfl (lv_at hl 2 rfl) ?_
            refine lv_iload hx hb d_Rn_open_129 (lv_at hl 0 rfl) ?_
            refine wx_cv (wS := fun v : TRn => w_R ad ca b v) (ws2 := fun v : TRn => w_R ad ca b v) (va_runV (As := [.int p0, .int (TRn_opened u), .int r_12]) (rest := []) ⟨hx, hb, hml, hown, ht⟩ (c_Rn_decide l dC dI ad ca H.size b v_12 p0 (TRn_opened u) r_12 hpre.1 _ rfl) (cwV 3 ht (tb_V q_383 q_385 q_18 q_46 q_386) rfl rfl rfl p_Rn_decide ⟨show 5 + 1 ≤ rf + 12 by omega, show 8 + (6 + 11) + 113 ≤ rl + 276 by omega⟩) (wx_preV (wc := (w_R ad ca b v_12)) hN hK hP hD [0, 1, 2, 3, 4, 5, 6, 7, 8, 9, 10, 11, 12, 13, 14] [0, 1, 2, 3, 4, 5, 6, 7, 8, 9, 10, 11] rfl (by decide) rfl (ci := 2) (q0 := 0) rfl rfl) rfl rfl hl.1 rfl (lv_room (Nat.le_of_ble_eq_true rfl)) d_Rn_open_131 ⟨Nat.zero_le _, Nat.zero_le _⟩) hP hD hS hA [0, 1, 2, 3, 4, 5, 6, 7, 8, 9, 10, 11, 12, 13, 14] [] [0, 1, 2, 3, 4, 5, 6, 7, 8, 9, 10, 11, 12, 13, 14] rfl rfl (by decide) (by decide) (by decide) (fun _ => rfl) (fun v_15 H locs hw_15 hP hD hS => ?_)
            have hP : va_P (dC, dI) vwCl (w_R ad ca b v_15) H := hP
            have hD : va_D A (w_R ad ca b v_15) := hD
            rw [← hw_15] at he
            try dsimp only at he
            exact W.vret hx hb hr (fun t ht hW => ⟨⟨v_15, rfl, he.symm, by rw [ht]; exact hP, va_K.moved hW.alike hK, hD⟩, hS.F ht⟩) hS.2.2 d_Rn_open_134
        · have he := he.trans (if_neg c_13)
          refine lv_aload_n hx hb d_Rn_open_113 rfl (lv_at hl 3 rfl) ?_
          refine lv_bipush (v := 6) hx hb d_Rn_open_114 (by decide) ?_
          refine wx_cv (wS := fun v : TRn => w_R ad ca b v) (ws2 := fun v : TRn => w_R ad ca b v) (va_runV (As := [.int 6]) (rest := []) ⟨hx, hb, hml, hown, ht⟩ (c_Rn_fail l dC dI ad ca H.size b v_12 6 _ rfl) (cwV 1 ht (tb_V q_275 q_277 q_3 q_46 q_278) rfl rfl rfl p_Rn_fail ⟨show 0 + 1 ≤ rf + 12 by omega, show 8 + (2 + 11) + 0 ≤ rl + 276 by omega⟩) (wx_preV (wc := (w_R ad ca b v_12)) hN hK hP hD [0, 1, 2, 3, 4, 5, 6, 7, 8, 9, 10, 11, 12, 13, 14] [0, 1, 2, 3, 4, 5, 6, 7, 8, 9, 10, 11] rfl (by decide) rfl (ci := 2) (q0 := 0) rfl rfl) rfl rfl hl.1 rfl (lv_room (Nat.le_of_ble_eq_true rfl)) d_Rn_open_116 ⟨Nat.zero_le _, Nat.zero_le _⟩) hP hD hS hA [0, 1, 2, 3, 4, 5, 6, 7, 8, 9, 10, 11, 12, 13, 14] [] [0, 1, 2, 3, 4, 5, 6, 7, 8, 9, 10, 11, 12, 13, 14] rfl rfl (by decide) (by decide) (by decide) (fun _ => rfl) (fun v_16 H locs hw_16 hP hD hS => ?_)
          have hP : va_P (dC, dI) vwCl (w_R ad ca b v_16) H := hP
          have hD : va_D A (w_R ad ca b v_16) := hD
          rw [← hw_16] at he
          try dsimp only at he
          refine lv_aload_n hx hb d_Rn_open_119 rfl (lv_at hl 3 rfl) ?_
          refine va_get (D := (dC, dI)) (ci := 2) (v := .int (TRn_fault v_16)) (C := R_Rn) (T := T_Rn) (N := 12) hx hb ht i_Rn hown hK hP 0 rfl rfl 11 (by decide) (ht _ q_143) (fun _ h9 => h9) rfl d_Rn_open_120 ?_
          refine lv_if_ne (tgt := 134) hx hb d_Rn_open_123 (by decide) (fun c_17 => ?_) (fun c_17 => ?_)
          · have he := he.trans (if_neg c_17)
            exact W.vret hx hb hr (fun t ht hW => ⟨⟨v_16, rfl, he.symm, by rw [ht]; exact hP, va_K.moved hW.alike hK, hD⟩, hS.F ht⟩) hS.2.2 d_Rn_open_134
          · have he := he.trans (if_pos c_17)
            refine lv_aload_n hx hb d_Rn_open_126 rfl (lv_at hl 3 rfl) ?_
            refine lv_iload_n hx hb d_Rn_open_127 rfl (lv_at hl 4 rfl) ?_
            refine lv_iload_n hx hb d_Rn_open_128 rfl (lv_at hl 2 rfl) ?_
            refine lv_iload hx hb d_Rn_open_129 (lv_at hl 0 rfl) ?_
            refine wx_cv (wS := fun v : TRn => w_R ad ca b v) (ws2 := fun v : TRn => w_R ad ca b v) (va_runV (As := [.int p0, .int (TRn_opened u), .int r_12]) (rest := []) ⟨hx, hb, hml, hown, ht⟩ (c_Rn_decide l dC dI ad ca H.size b v_16 p0 (TRn_opened u) r_12 hpre.1 _ rfl) (cwV 3 ht (tb_V q_383 q_385 q_18 q_46 q_386) rfl rfl rfl p_Rn_decide ⟨show 5 + 1 ≤ rf + 12 by omega, show 8 + (6 + 11) + 113 ≤ rl + 276 by omega⟩) (wx_preV (wc := (w_R ad ca b v_16)) hN hK hP hD [0, 1, 2, 3, 4, 5, 6, 7, 8, 9, 10, 11, 12, 13, 14] [0, 1, 2, 3, 4, 5, 6, 7, 8, 9, 10, 11] rfl (by decide) rfl (ci := 2) (q0 := 0) rfl rfl) rfl rfl hl.1 rfl (lv_room (Nat.le_of_ble_eq_true rfl)) d_Rn_open_131 ⟨Nat.zero_le _, Nat.zero_le _⟩) hP hD hS hA [0, 1, 2, 3, 4, 5, 6, 7, 8, 9, 10, 11, 12, 13, 14] [] [0, 1, 2, 3, 4, 5, 6, 7, 8, 9, 10, 11, 12, 13, 14] rfl rfl (by decide) (by decide) (by decide) (fun _ => rfl) (fun v_18 H locs hw_18 hP hD hS => ?_)
            have hP : va_P (dC, dI) vwCl (w_R ad ca b v_18) H := hP
            have hD : va_D A (w_R ad ca b v_18) := hD
            rw [← hw_18] at he
            try dsimp only at he
            exact W.vret hx hb hr (fun t ht hW => ⟨⟨v_18, rfl, he.symm, by rw [ht]; exact hP, va_K.moved hW.alike hK, hD⟩, hS.F ht⟩) hS.2.2 d_Rn_open_134
    · have he := he.trans (if_neg c_3)
      refine lv_aload_n hx hb d_Rn_open_16 rfl (lv_at hl 0 rfl) ?_
      refine lv_iconst (v := 5) hx hb d_Rn_open_17 (by decide) ?_
      refine wx_cv (wS := fun v : TRn => w_R ad ca b v) (ws2 := fun v : TRn => w_R ad ca b v) (va_runV (As := [.int 5]) (rest := []) ⟨hx, hb, hml, hown, ht⟩ (c_Rn_fail l dC dI ad ca s.heap.size b u 5 _ rfl) (cwV 1 ht (tb_V q_275 q_277 q_3 q_46 q_278) rfl rfl rfl p_Rn_fail ⟨show 0 + 1 ≤ rf + 12 by omega, show 8 + (2 + 11) + 0 ≤ rl + 276 by omega⟩) (wx_preV (wc := (w_R ad ca b u)) hN hK hP hD [0, 1, 2, 3, 4, 5, 6, 7, 8, 9, 10, 11, 12, 13, 14] [0, 1, 2, 3, 4, 5, 6, 7, 8, 9, 10, 11] rfl (by decide) rfl (ci := 2) (q0 := 0) rfl rfl) rfl rfl hl.1 rfl (lv_room (Nat.le_of_ble_eq_true rfl)) d_Rn_open_18 ⟨Nat.zero_le _, Nat.zero_le _⟩) hP hD hS hA [0, 1, 2, 3, 4, 5, 6, 7, 8, 9, 10, 11, 12, 13, 14] [] [0, 1, 2, 3, 4, 5, 6, 7, 8, 9, 10, 11, 12, 13, 14] rfl rfl (by decide) (by decide) (by decide) (fun _ => rfl) (fun v_19 H locs hw_19 hP hD hS => ?_)
      have hP : va_P (dC, dI) vwCl (w_R ad ca b v_19) H := hP
      have hD : va_D A (w_R ad ca b v_19) := hD
      rw [← hw_19] at he
      try dsimp only at he
      exact W.vret hx hb hr (fun t ht hW => ⟨⟨v_19, rfl, he.symm, by rw [ht]; exact hP, va_K.moved hW.alike hK, hD⟩, hS.F ht⟩) hS.2.2 d_Rn_open_21
noncomputable def f_Rn_open_0 (b : TBk) (u : TRn) (p0 : Int32) : TRn := (if (TRn_openCount u) < 0 then (let v_2 := f_Rn_fail b u 5; v_2) else (let v_4 := f_Rn_fail b u 5; v_4))
set_option maxHeartbeats 4000000 in
set_option maxRecDepth 100000 in
theorem c_Rn_open_0 (l : Launch) (dC : Nat → ClassId) (dI : Nat → Nat → Nat) (ad : Nat → Nat) (ca : Nat → ClassId) (sz : Nat) (b : TBk) (u : TRn) (p0 : Int32) (hpre : ¬ (TRn_openCount u) < 20) (F : TRn) (he : F = f_Rn_open_0 b u p0) : wx_Mv l y_Rn_open ws_Rn_open ({ frames := 1, cells := 0, slots := 0, locals := 21 } : Room) (dC, dI) vwCl (t_R ca) [.ref (ad 0), .int p0] (w_R ad ca b u) sz (fun v : TRn => w_R ad ca b v) (fun v : TRn => v = F) := by
  refine Met.ofW (cc := b_Rn_open) (maxL := 5) (ret := none) (by decide) rfl ?_
  intro p e s m args below meth c s₁ B hml hv
  obtain ⟨rfl, hsz, hP, hK, hD0, hN⟩ := hv
  have hx := B.exec
  have hb := B.bytes
  have hr := B.returns
  have hts := atoms_spec (ws := ws_Rn_open) B.pre
  have ht : ∀ w ∈ TB, w.before _ s = true := fun w h => hts w (List.mem_cons_of_mem _ h)
  have hown : s.vm.findClass R_Rn = some m.cls := findClass_of_methodNamed B.named
  have hlocks := B.notSynchronized
  subst hsz
  have hD := hD0.self (sz := s.heap.size)
  generalize hAe : va_A (w_R ad ca b u) s.heap.size = A at hD ⊢
  have hA : ∀ q : Nat, s.heap.size ≤ q → A q := fun q h => by rw [← hAe]; exact Or.inr h
  have hS : va_S A s.heap s.heap [] := va_S.rf
  have hl := lv_entry ([.ref (ad 0), .int p0]) (n := 5) (Nat.le_of_ble_eq_true rfl)
  rw [lg_entry_eq]
  generalize (lg_sl ([.ref (ad 0), .int p0]) ++ List.replicate (5 - (lg_sl ([.ref (ad 0), .int p0])).length) Slot.unset).toArray = ls at hl ⊢
  have hl : lv_has ls 5 [(0, .ref (ad 0)), (1, .int p0)] := hl
  unfold f_Rn_open_0 at he
  refine lv_aload_n hx hb d_Rn_open_0 rfl (lv_at hl 0 rfl) ?_
  refine va_get (D := (dC, dI)) (ci := 2) (v := .int (TRn_openCount u)) (C := R_Rn) (T := T_Rn) (N := 12) hx hb ht i_Rn hown hK hP 0 rfl rfl 7 (by decide) (ht _ q_139) (fun _ h9 => h9) rfl d_Rn_open_1 ?_
  refine lv_if_lt (tgt := 16) hx hb d_Rn_open_4 (by decide) (fun c_1 => ?_) (fun c_1 => ?_)
  · have he := he.trans (if_pos c_1)
    refine lv_aload_n hx hb d_Rn_open_16 rfl (lv_at hl 0 rfl) ?_
    refine lv_iconst (v := 5) hx hb d_Rn_open_17 (by decide) ?_
    refine wx_cv (wS := fun v : TRn => w_R ad ca b v) (ws2 := fun v : TRn => w_R ad ca b v) (va_runV (As := [.int 5]) (rest := []) ⟨hx, hb, hml, hown, ht⟩ (c_Rn_fail l dC dI ad ca s.heap.size b u 5 _ rfl) (cwV 1 ht (tb_V q_275 q_277 q_3 q_46 q_278) rfl rfl rfl p_Rn_fail ⟨show 0 + 1 ≤ 1 by omega, show 8 + (2 + 11) + 0 ≤ 21 by omega⟩) (wx_preV (wc := (w_R ad ca b u)) hN hK hP hD [0, 1, 2, 3, 4, 5, 6, 7, 8, 9, 10, 11, 12, 13, 14] [0, 1, 2, 3, 4, 5, 6, 7, 8, 9, 10, 11] rfl (by decide) rfl (ci := 2) (q0 := 0) rfl rfl) rfl rfl hl.1 rfl (lv_room (Nat.le_of_ble_eq_true rfl)) d_Rn_open_18 ⟨Nat.zero_le _, Nat.zero_le _⟩) hP hD hS hA [0, 1, 2, 3, 4, 5, 6, 7, 8, 9, 10, 11, 12, 13, 14] [] [0, 1, 2, 3, 4, 5, 6, 7, 8, 9, 10, 11, 12, 13, 14] rfl rfl (by decide) (by decide) (by decide) (fun _ => rfl) (fun v_2 H locs hw_2 hP hD hS => ?_)
    have hP : va_P (dC, dI) vwCl (w_R ad ca b v_2) H := hP
    have hD : va_D A (w_R ad ca b v_2) := hD
    rw [← hw_2] at he
    try dsimp only at he
    exact W.vret hx hb hr (fun t ht hW => ⟨⟨v_2, rfl, he.symm, by rw [ht]; exact hP, va_K.moved hW.alike hK, hD⟩, hS.F ht⟩) hS.2.2 d_Rn_open_21
  · have he := he.trans (if_neg c_1)
    refine lv_aload_n hx hb d_Rn_open_7 rfl (lv_at hl 0 rfl) ?_
    refine va_get (D := (dC, dI)) (ci := 2) (v := .int (TRn_openCount u)) (C := R_Rn) (T := T_Rn) (N := 12) hx hb ht i_Rn hown hK hP 0 rfl rfl 7 (by decide) (ht _ q_139) (fun _ h9 => h9) rfl d_Rn_open_8 ?_
    refine lv_bipush (v := 20) hx hb d_Rn_open_11 (by decide) ?_
    refine lv_icmp_lt (tgt := 22) hx hb d_Rn_open_13 (by decide) (fun c_3 => ?_) (fun c_3 => ?_)
    · exact absurd c_3 hpre
    · refine lv_aload_n hx hb d_Rn_open_16 rfl (lv_at hl 0 rfl) ?_
      refine lv_iconst (v := 5) hx hb d_Rn_open_17 (by decide) ?_
      refine wx_cv (wS := fun v : TRn => w_R ad ca b v) (ws2 := fun v : TRn => w_R ad ca b v) (va_runV (As := [.int 5]) (rest := []) ⟨hx, hb, hml, hown, ht⟩ (c_Rn_fail l dC dI ad ca s.heap.size b u 5 _ rfl) (cwV 1 ht (tb_V q_275 q_277 q_3 q_46 q_278) rfl rfl rfl p_Rn_fail ⟨show 0 + 1 ≤ 1 by omega, show 8 + (2 + 11) + 0 ≤ 21 by omega⟩) (wx_preV (wc := (w_R ad ca b u)) hN hK hP hD [0, 1, 2, 3, 4, 5, 6, 7, 8, 9, 10, 11, 12, 13, 14] [0, 1, 2, 3, 4, 5, 6, 7, 8, 9, 10, 11] rfl (by decide) rfl (ci := 2) (q0 := 0) rfl rfl) rfl rfl hl.1 rfl (lv_room (Nat.le_of_ble_eq_true rfl)) d_Rn_open_18 ⟨Nat.zero_le _, Nat.zero_le _⟩) hP hD hS hA [0, 1, 2, 3, 4, 5, 6, 7, 8, 9, 10, 11, 12, 13, 14] [] [0, 1, 2, 3, 4, 5, 6, 7, 8, 9, 10, 11, 12, 13, 14] rfl rfl (by decide) (by decide) (by decide) (fun _ => rfl) (fun v_4 H locs hw_4 hP hD hS => ?_)
      have hP : va_P (dC, dI) vwCl (w_R ad ca b v_4) H := hP
      have hD : va_D A (w_R ad ca b v_4) := hD
      rw [← hw_4] at he
      try dsimp only at he
      exact W.vret hx hb hr (fun t ht hW => ⟨⟨v_4, rfl, he.symm, by rw [ht]; exact hP, va_K.moved hW.alike hK, hD⟩, hS.F ht⟩) hS.2.2 d_Rn_open_21
end
section
theorem oc_cm (b : TBk) (u : TRn) : oc (f_Rn_compareMeanings b u).2 = oc u := by
  unfold f_Rn_compareMeanings
  rcases h1 : f_Rn_lookForMore b u with ⟨r1, v1⟩
  have e1 : oc v1 = oc u := oc_lk h1.symm
  rcases h2 : f_Rn_lookForMore b v1 with ⟨r2, v2⟩
  have e2 : oc v2 = oc u := (oc_lk h2.symm).trans e1
  dsimp only
  rw [h2]
  dsimp only
  repeat' split
  all_goals try dsimp only
  all_goals first
    | with_reducible exact e1
    | with_reducible exact e2
theorem oc_ak (b : TBk) (u : TRn) : oc (f_Rn_askWhetherKnown b u).2 = oc u := by
  unfold f_Rn_askWhetherKnown
  rcases h1 : f_Rn_lookForMore b u with ⟨r1, v1⟩
  have e1 : oc v1 = oc u := oc_lk h1.symm
  dsimp only
  repeat' split
  all_goals try dsimp only
  all_goals with_reducible exact e1
theorem oc_cs (op : TBk → TRn → Int32 → TRn) (k : Int) (hopm : ∀ (b : TBk) (u : TRn) (w : Int32), k ≤ oc u → oc u ≤ oc (op b u w)) (b : TBk) (u : TRn) (p x1 : Int32) (h1 : k ≤ x1.toInt) (h2 : x1.toInt ≤ oc u) : x1.toInt ≤ oc (f_Rn_compareSigns op b u p x1).2 := by
  unfold f_Rn_compareSigns
  rcases hl : f_Rn_readSign op b u x1 with ⟨r, v⟩
  have h3 : x1.toInt ≤ oc v := oc_rs op k hopm hl.symm h1 h2
  rcases hl2 : f_Rn_readSign op b v x1 with ⟨r2, v2⟩
  have h4 : x1.toInt ≤ oc v2 := oc_rs op k hopm hl2.symm h1 h3
  dsimp only
  rw [hl2]
  dsimp only
  repeat' split
  all_goals try dsimp only
  all_goals first
    | with_reducible exact h3
    | with_reducible exact h4
theorem oc_cn (op : TBk → TRn → Int32 → TRn) (k : Int) (hopm : ∀ (b : TBk) (u : TRn) (w : Int32), k ≤ oc u → oc u ≤ oc (op b u w)) (b : TBk) (u : TRn) (x1 : Int32) (h1 : k ≤ x1.toInt) (h2 : x1.toInt ≤ oc u) : x1.toInt ≤ oc (f_Rn_compareNumbers op b u x1).2 := by
  unfold f_Rn_compareNumbers
  rcases hl : f_Rn_readNumber op b u x1 with ⟨r, v⟩
  have h3 : x1.toInt ≤ oc v := oc_rn op k hopm hl.symm h1 h2
  rcases hl2 : f_Rn_readSign op b v x1 with ⟨r2, v2⟩
  have h4 : x1.toInt ≤ oc v2 := oc_rs op k hopm hl2.symm h1 h3
  rcases hl3 : f_Rn_readNumber op b v2 x1 with ⟨r3, v3⟩
  have h5 : x1.toInt ≤ oc v3 := oc_rn op k hopm hl3.symm h1 h4
  dsimp only
  rw [hl2]
  dsimp only
  rw [hl3]
  dsimp only
  repeat' split
  all_goals try dsimp only
  all_goals first
    | (rw [oc_fail]; exact h4)
    | with_reducible exact h3
    | with_reducible exact h4
    | with_reducible exact h5
theorem oc_am (op : TBk → TRn → Int32 → TRn) (k : Int) (hopm : ∀ (b : TBk) (u : TRn) (w : Int32), k ≤ oc u → oc u ≤ oc (op b u w)) (b : TBk) (u : TRn) (x1 : Int32) (h1 : k ≤ x1.toInt) (h2 : x1.toInt ≤ oc u) : x1.toInt ≤ oc (f_Rn_askWhetherOn_m op b u x1).2 := by
  unfold f_Rn_askWhetherOn_m
  rcases hl : f_Rn_readNumber op b u x1 with ⟨r, v⟩
  have h3 : x1.toInt ≤ oc v := oc_rn op k hopm hl.symm h1 h2
  dsimp only
  repeat' split
  all_goals try dsimp only
  all_goals first
    | (rw [oc_fail]; exact h3)
    | with_reducible exact h3
theorem oc_ae (op : TBk → TRn → Int32 → TRn) (k : Int) (hopm : ∀ (b : TBk) (u : TRn) (w : Int32), k ≤ oc u → oc u ≤ oc (op b u w)) (b : TBk) (u : TRn) (x1 : Int32) (h1 : k ≤ x1.toInt) (h2 : x1.toInt ≤ oc u) : x1.toInt ≤ oc (f_Rn_askWhetherOn_e op b u x1).2 := by
  unfold f_Rn_askWhetherOn_e
  rcases hl : f_Rn_readNumber op b u x1 with ⟨r, v⟩
  have h3 : x1.toInt ≤ oc v := oc_rn op k hopm hl.symm h1 h2
  dsimp only
  repeat' split
  all_goals try dsimp only
  all_goals first
    | (rw [oc_fail]; exact h3)
    | with_reducible exact h3
end
section
theorem isSign_01 (x : Int32) : f_Ct_isSign x = 0 ∨ f_Ct_isSign x = 1 := by
  unfold f_Ct_isSign
  repeat' split
  all_goals first
    | exact Or.inl rfl
    | exact Or.inr rfl
theorem in_turn {x : Int32} {n : Nat} (hn : n < 2147483648) (h0 : ¬ x < 0) (h1 : x < Int32.ofNat n) : vp_in x n := by
  rw [i32_lt] at h0 h1
  rw [Int32.toInt_zero] at h0
  have h2 : (Int32.ofNat n).toInt = n := nI_toInt hn
  rw [vp_in_iff]
  omega
theorem q_70 : Cond.fieldLink R_Ct 51 "ConditionText$Book" "modes" "[Z" ∈ TB := tq 70 (by decide +kernel) rfl
theorem q_73 : Cond.fieldLink R_Ct 59 "ConditionText$Book" "files" "[Z" ∈ TB := tq 73 (by decide +kernel) rfl
theorem q_76 : Cond.fieldLink R_Ct 78 "ConditionText$Book" "bodyCount" "I" ∈ TB := tq 76 (by decide +kernel) rfl
theorem q_169 : Cond.fieldLink R_Ct 12 "ConditionText" "book" "LConditionText$Book;" ∈ TB := tq 169 (by decide +kernel) rfl
theorem q_170 : Cond.fieldLink R_Ct 21 "ConditionText" "runner" "LConditionText$Runner;" ∈ TB := tq 170 (by decide +kernel) rfl
theorem q_180 : Cond.methodLink R_Ct 25 y_Bk_hasBody ∈ TB := tq 180 (by decide +kernel) rfl
theorem q_181 : Cond.instanceMethod y_Bk_hasBody ∈ TB := tq 181 (by decide +kernel) rfl
theorem q_182 : Cond.selects R_Bk y_Bk_hasBody y_Bk_hasBody ∈ TB := tq 182 (by decide +kernel) rfl
theorem q_183 : Cond.code y_Bk_hasBody b_Bk_hasBody 2 (some .boolean) ∈ TB := tq 183 (by decide +kernel) rfl
theorem q_184 : Cond.methodLink R_Ct 29 y_Ct_fitsKind ∈ TB := tq 184 (by decide +kernel) rfl
theorem q_185 : Cond.static y_Ct_fitsKind ∈ TB := tq 185 (by decide +kernel) rfl
theorem q_186 : Cond.code y_Ct_fitsKind b_Ct_fitsKind 2 (some .boolean) ∈ TB := tq 186 (by decide +kernel) rfl
theorem q_190 : Cond.constant R_Ct 91 (-999999999) ∈ TB := tq 190 (by decide +kernel) rfl
theorem q_191 : Cond.constant R_Ct 92 999999999 ∈ TB := tq 191 (by decide +kernel) rfl
theorem q_192 : Cond.methodLink R_Ct 33 y_Bk_define ∈ TB := tq 192 (by decide +kernel) rfl
theorem q_193 : Cond.instanceMethod y_Bk_define ∈ TB := tq 193 (by decide +kernel) rfl
theorem q_194 : Cond.selects R_Bk y_Bk_define y_Bk_define ∈ TB := tq 194 (by decide +kernel) rfl
theorem q_195 : Cond.code y_Bk_define b_Bk_define 4 (none : Option Jvm.ClassFile.FieldType) ∈ TB := tq 195 (by decide +kernel) rfl
theorem q_200 : Cond.methodLink R_Ct 37 y_Bk_addBody ∈ TB := tq 200 (by decide +kernel) rfl
theorem q_201 : Cond.instanceMethod y_Bk_addBody ∈ TB := tq 201 (by decide +kernel) rfl
theorem q_202 : Cond.selects R_Bk y_Bk_addBody y_Bk_addBody ∈ TB := tq 202 (by decide +kernel) rfl
theorem q_203 : Cond.code y_Bk_addBody b_Bk_addBody 1 (some .int) ∈ TB := tq 203 (by decide +kernel) rfl
theorem q_208 : Cond.methodLink R_Ct 41 y_Ct_isToken ∈ TB := tq 208 (by decide +kernel) rfl
theorem q_209 : Cond.static y_Ct_isToken ∈ TB := tq 209 (by decide +kernel) rfl
theorem q_210 : Cond.code y_Ct_isToken b_Ct_isToken 1 (some .boolean) ∈ TB := tq 210 (by decide +kernel) rfl
theorem q_214 : Cond.methodLink R_Ct 44 y_Bk_append ∈ TB := tq 214 (by decide +kernel) rfl
theorem q_215 : Cond.instanceMethod y_Bk_append ∈ TB := tq 215 (by decide +kernel) rfl
theorem q_216 : Cond.selects R_Bk y_Bk_append y_Bk_append ∈ TB := tq 216 (by decide +kernel) rfl
theorem q_217 : Cond.code y_Bk_append b_Bk_append 6 (some .int) ∈ TB := tq 217 (by decide +kernel) rfl
theorem q_226 : Cond.methodLink R_Ct 48 y_Bk_emptyInput ∈ TB := tq 226 (by decide +kernel) rfl
theorem q_227 : Cond.instanceMethod y_Bk_emptyInput ∈ TB := tq 227 (by decide +kernel) rfl
theorem q_228 : Cond.selects R_Bk y_Bk_emptyInput y_Bk_emptyInput ∈ TB := tq 228 (by decide +kernel) rfl
theorem q_229 : Cond.code y_Bk_emptyInput b_Bk_emptyInput 2 (some .int) ∈ TB := tq 229 (by decide +kernel) rfl
theorem q_234 : Cond.methodLink R_Ct 55 y_Ct_turn ∈ TB := tq 234 (by decide +kernel) rfl
theorem q_235 : Cond.static y_Ct_turn ∈ TB := tq 235 (by decide +kernel) rfl
theorem q_236 : Cond.code y_Ct_turn b_Ct_turn 3 (some .int) ∈ TB := tq 236 (by decide +kernel) rfl
theorem q_411 : Cond.methodLink R_Ct 65 y_Rn_putOutAt ∈ TB := tq 411 (by decide +kernel) rfl
theorem q_412 : Cond.instanceMethod y_Rn_putOutAt ∈ TB := tq 412 (by decide +kernel) rfl
theorem q_413 : Cond.selects R_Rn y_Rn_putOutAt y_Rn_putOutAt ∈ TB := tq 413 (by decide +kernel) rfl
theorem q_414 : Cond.code y_Rn_putOutAt b_Rn_putOutAt 2 (some .int) ∈ TB := tq 414 (by decide +kernel) rfl
theorem q_419 : Cond.methodLink R_Ct 69 y_Rn_tell ∈ TB := tq 419 (by decide +kernel) rfl
theorem q_420 : Cond.instanceMethod y_Rn_tell ∈ TB := tq 420 (by decide +kernel) rfl
theorem q_421 : Cond.selects R_Rn y_Rn_tell y_Rn_tell ∈ TB := tq 421 (by decide +kernel) rfl
theorem q_422 : Cond.code y_Rn_tell b_Rn_tell 2 (some .int) ∈ TB := tq 422 (by decide +kernel) rfl
theorem q_431 : Cond.methodLink R_Ct 72 y_Rn_decisionOf ∈ TB := tq 431 (by decide +kernel) rfl
theorem q_432 : Cond.instanceMethod y_Rn_decisionOf ∈ TB := tq 432 (by decide +kernel) rfl
theorem q_433 : Cond.selects R_Rn y_Rn_decisionOf y_Rn_decisionOf ∈ TB := tq 433 (by decide +kernel) rfl
theorem q_434 : Cond.code y_Rn_decisionOf b_Rn_decisionOf 2 (some .int) ∈ TB := tq 434 (by decide +kernel) rfl
theorem q_439 : Cond.methodLink R_Ct 75 y_Bk_meanTheSame ∈ TB := tq 439 (by decide +kernel) rfl
theorem q_444 : Cond.methodLink R_Ct 82 y_Bk_sizeOf ∈ TB := tq 444 (by decide +kernel) rfl
theorem q_445 : Cond.methodLink R_Ct 85 y_Bk_tokensOfBodies ∈ TB := tq 445 (by decide +kernel) rfl
theorem q_446 : Cond.instanceMethod y_Bk_tokensOfBodies ∈ TB := tq 446 (by decide +kernel) rfl
theorem q_447 : Cond.selects R_Bk y_Bk_tokensOfBodies y_Bk_tokensOfBodies ∈ TB := tq 447 (by decide +kernel) rfl
theorem q_448 : Cond.code y_Bk_tokensOfBodies b_Bk_tokensOfBodies 3 (some .int) ∈ TB := tq 448 (by decide +kernel) rfl
theorem d_Ct_fitsKind_0 : decode b_Ct_fitsKind 0 = .ok (.iload_n 0, 1) := by decide +kernel
theorem d_Ct_fitsKind_1 : decode b_Ct_fitsKind 1 = .ok (.tableswitch 116 0 8 #[51, 61, 66, 66, 82, 100, 51, 51, 51], 51) := by decide +kernel
theorem d_Ct_fitsKind_52 : decode b_Ct_fitsKind 52 = .ok (.iload_n 1, 1) := by decide +kernel
theorem d_Ct_fitsKind_53 : decode b_Ct_fitsKind 53 = .ok (.ifCond .ne 7, 3) := by decide +kernel
theorem d_Ct_fitsKind_56 : decode b_Ct_fitsKind 56 = .ok (.iconst 1, 1) := by decide +kernel
theorem d_Ct_fitsKind_57 : decode b_Ct_fitsKind 57 = .ok (.goto 4, 3) := by decide +kernel
theorem d_Ct_fitsKind_60 : decode b_Ct_fitsKind 60 = .ok (.iconst 0, 1) := by decide +kernel
theorem d_Ct_fitsKind_61 : decode b_Ct_fitsKind 61 = .ok (.ireturn, 1) := by decide +kernel
theorem d_Ct_fitsKind_62 : decode b_Ct_fitsKind 62 = .ok (.iload_n 1, 1) := by decide +kernel
theorem d_Ct_fitsKind_63 : decode b_Ct_fitsKind 63 = .ok (.invokestatic 88, 3) := by decide +kernel
theorem d_Ct_fitsKind_66 : decode b_Ct_fitsKind 66 = .ok (.ireturn, 1) := by decide +kernel
theorem d_Ct_fitsKind_67 : decode b_Ct_fitsKind 67 = .ok (.iload_n 1, 1) := by decide +kernel
theorem d_Ct_fitsKind_68 : decode b_Ct_fitsKind 68 = .ok (.ifCond .lt 13, 3) := by decide +kernel
theorem d_Ct_fitsKind_71 : decode b_Ct_fitsKind 71 = .ok (.iload_n 1, 1) := by decide +kernel
theorem d_Ct_fitsKind_72 : decode b_Ct_fitsKind 72 = .ok (.bipush 20, 2) := by decide +kernel
theorem d_Ct_fitsKind_74 : decode b_Ct_fitsKind 74 = .ok (.if_icmp .ge 7, 3) := by decide +kernel
theorem d_Ct_fitsKind_77 : decode b_Ct_fitsKind 77 = .ok (.iconst 1, 1) := by decide +kernel
theorem d_Ct_fitsKind_78 : decode b_Ct_fitsKind 78 = .ok (.goto 4, 3) := by decide +kernel
theorem d_Ct_fitsKind_81 : decode b_Ct_fitsKind 81 = .ok (.iconst 0, 1) := by decide +kernel
theorem d_Ct_fitsKind_82 : decode b_Ct_fitsKind 82 = .ok (.ireturn, 1) := by decide +kernel
theorem d_Ct_fitsKind_83 : decode b_Ct_fitsKind 83 = .ok (.iload_n 1, 1) := by decide +kernel
theorem d_Ct_fitsKind_84 : decode b_Ct_fitsKind 84 = .ok (.ldc 91, 2) := by decide +kernel
theorem d_Ct_fitsKind_86 : decode b_Ct_fitsKind 86 = .ok (.if_icmp .lt 13, 3) := by decide +kernel
theorem d_Ct_fitsKind_89 : decode b_Ct_fitsKind 89 = .ok (.iload_n 1, 1) := by decide +kernel
theorem d_Ct_fitsKind_90 : decode b_Ct_fitsKind 90 = .ok (.ldc 92, 2) := by decide +kernel
theorem d_Ct_fitsKind_92 : decode b_Ct_fitsKind 92 = .ok (.if_icmp .gt 7, 3) := by decide +kernel
theorem d_Ct_fitsKind_95 : decode b_Ct_fitsKind 95 = .ok (.iconst 1, 1) := by decide +kernel
theorem d_Ct_fitsKind_96 : decode b_Ct_fitsKind 96 = .ok (.goto 4, 3) := by decide +kernel
theorem d_Ct_fitsKind_99 : decode b_Ct_fitsKind 99 = .ok (.iconst 0, 1) := by decide +kernel
theorem d_Ct_fitsKind_100 : decode b_Ct_fitsKind 100 = .ok (.ireturn, 1) := by decide +kernel
theorem d_Ct_fitsKind_101 : decode b_Ct_fitsKind 101 = .ok (.iload_n 1, 1) := by decide +kernel
theorem d_Ct_fitsKind_102 : decode b_Ct_fitsKind 102 = .ok (.ifCond .lt 13, 3) := by decide +kernel
theorem d_Ct_fitsKind_105 : decode b_Ct_fitsKind 105 = .ok (.iload_n 1, 1) := by decide +kernel
theorem d_Ct_fitsKind_106 : decode b_Ct_fitsKind 106 = .ok (.bipush 10, 2) := by decide +kernel
theorem d_Ct_fitsKind_108 : decode b_Ct_fitsKind 108 = .ok (.if_icmp .gt 7, 3) := by decide +kernel
theorem d_Ct_fitsKind_111 : decode b_Ct_fitsKind 111 = .ok (.iconst 1, 1) := by decide +kernel
theorem d_Ct_fitsKind_112 : decode b_Ct_fitsKind 112 = .ok (.goto 4, 3) := by decide +kernel
theorem d_Ct_fitsKind_115 : decode b_Ct_fitsKind 115 = .ok (.iconst 0, 1) := by decide +kernel
theorem d_Ct_fitsKind_116 : decode b_Ct_fitsKind 116 = .ok (.ireturn, 1) := by decide +kernel
theorem d_Ct_fitsKind_117 : decode b_Ct_fitsKind 117 = .ok (.iconst 0, 1) := by decide +kernel
theorem d_Ct_fitsKind_118 : decode b_Ct_fitsKind 118 = .ok (.ireturn, 1) := by decide +kernel
theorem d_Ct_turn_0 : decode b_Ct_turn 0 = .ok (.iload_n 1, 1) := by decide +kernel
theorem d_Ct_turn_1 : decode b_Ct_turn 1 = .ok (.ifCond .lt 9, 3) := by decide +kernel
theorem d_Ct_turn_4 : decode b_Ct_turn 4 = .ok (.iload_n 1, 1) := by decide +kernel
theorem d_Ct_turn_5 : decode b_Ct_turn 5 = .ok (.aload_n 0, 1) := by decide +kernel
theorem d_Ct_turn_6 : decode b_Ct_turn 6 = .ok (.arraylength, 1) := by decide +kernel
theorem d_Ct_turn_7 : decode b_Ct_turn 7 = .ok (.if_icmp .lt 6, 3) := by decide +kernel
theorem d_Ct_turn_10 : decode b_Ct_turn 10 = .ok (.bipush (-2), 2) := by decide +kernel
theorem d_Ct_turn_12 : decode b_Ct_turn 12 = .ok (.ireturn, 1) := by decide +kernel
theorem d_Ct_turn_13 : decode b_Ct_turn 13 = .ok (.aload_n 0, 1) := by decide +kernel
theorem d_Ct_turn_14 : decode b_Ct_turn 14 = .ok (.iload_n 1, 1) := by decide +kernel
theorem d_Ct_turn_15 : decode b_Ct_turn 15 = .ok (.iload_n 2, 1) := by decide +kernel
theorem d_Ct_turn_16 : decode b_Ct_turn 16 = .ok (.bastore, 1) := by decide +kernel
theorem d_Ct_turn_17 : decode b_Ct_turn 17 = .ok (.iconst 1, 1) := by decide +kernel
theorem d_Ct_turn_18 : decode b_Ct_turn 18 = .ok (.ireturn, 1) := by decide +kernel
theorem d_Ct_meaning_0 : decode b_Ct_meaning 0 = .ok (.iload_n 1, 1) := by decide +kernel
theorem d_Ct_meaning_1 : decode b_Ct_meaning 1 = .ok (.ifCond .lt 9, 3) := by decide +kernel
theorem d_Ct_meaning_4 : decode b_Ct_meaning 4 = .ok (.iload_n 1, 1) := by decide +kernel
theorem d_Ct_meaning_5 : decode b_Ct_meaning 5 = .ok (.bipush 40, 2) := by decide +kernel
theorem d_Ct_meaning_7 : decode b_Ct_meaning 7 = .ok (.if_icmp .lt 5, 3) := by decide +kernel
theorem d_Ct_meaning_10 : decode b_Ct_meaning 10 = .ok (.iconst (-1), 1) := by decide +kernel
theorem d_Ct_meaning_11 : decode b_Ct_meaning 11 = .ok (.ireturn, 1) := by decide +kernel
theorem d_Ct_meaning_12 : decode b_Ct_meaning 12 = .ok (.iload_n 2, 1) := by decide +kernel
theorem d_Ct_meaning_13 : decode b_Ct_meaning 13 = .ok (.iconst 2, 1) := by decide +kernel
theorem d_Ct_meaning_14 : decode b_Ct_meaning 14 = .ok (.if_icmp .eq 8, 3) := by decide +kernel
theorem d_Ct_meaning_17 : decode b_Ct_meaning 17 = .ok (.iload_n 2, 1) := by decide +kernel
theorem d_Ct_meaning_18 : decode b_Ct_meaning 18 = .ok (.iconst 3, 1) := by decide +kernel
theorem d_Ct_meaning_19 : decode b_Ct_meaning 19 = .ok (.if_icmp .ne 16, 3) := by decide +kernel
theorem d_Ct_meaning_22 : decode b_Ct_meaning 22 = .ok (.aload_n 0, 1) := by decide +kernel
theorem d_Ct_meaning_23 : decode b_Ct_meaning 23 = .ok (.getfield 12, 3) := by decide +kernel
theorem d_Ct_meaning_26 : decode b_Ct_meaning 26 = .ok (.iload_n 3, 1) := by decide +kernel
theorem d_Ct_meaning_27 : decode b_Ct_meaning 27 = .ok (.invokevirtual 25, 3) := by decide +kernel
theorem d_Ct_meaning_30 : decode b_Ct_meaning 30 = .ok (.ifCond .ne 5, 3) := by decide +kernel
theorem d_Ct_meaning_33 : decode b_Ct_meaning 33 = .ok (.iconst (-1), 1) := by decide +kernel
theorem d_Ct_meaning_34 : decode b_Ct_meaning 34 = .ok (.ireturn, 1) := by decide +kernel
theorem d_Ct_meaning_35 : decode b_Ct_meaning 35 = .ok (.iload_n 2, 1) := by decide +kernel
theorem d_Ct_meaning_36 : decode b_Ct_meaning 36 = .ok (.iload_n 3, 1) := by decide +kernel
theorem d_Ct_meaning_37 : decode b_Ct_meaning 37 = .ok (.invokestatic 29, 3) := by decide +kernel
theorem d_Ct_meaning_40 : decode b_Ct_meaning 40 = .ok (.ifCond .ne 6, 3) := by decide +kernel
theorem d_Ct_meaning_43 : decode b_Ct_meaning 43 = .ok (.bipush (-2), 2) := by decide +kernel
theorem d_Ct_meaning_45 : decode b_Ct_meaning 45 = .ok (.ireturn, 1) := by decide +kernel
theorem d_Ct_meaning_46 : decode b_Ct_meaning 46 = .ok (.aload_n 0, 1) := by decide +kernel
theorem d_Ct_meaning_47 : decode b_Ct_meaning 47 = .ok (.getfield 12, 3) := by decide +kernel
theorem d_Ct_meaning_50 : decode b_Ct_meaning 50 = .ok (.iload_n 1, 1) := by decide +kernel
theorem d_Ct_meaning_51 : decode b_Ct_meaning 51 = .ok (.iload_n 2, 1) := by decide +kernel
theorem d_Ct_meaning_52 : decode b_Ct_meaning 52 = .ok (.iload_n 3, 1) := by decide +kernel
theorem d_Ct_meaning_53 : decode b_Ct_meaning 53 = .ok (.invokevirtual 33, 3) := by decide +kernel
theorem d_Ct_meaning_56 : decode b_Ct_meaning 56 = .ok (.iconst 1, 1) := by decide +kernel
theorem d_Ct_meaning_57 : decode b_Ct_meaning 57 = .ok (.ireturn, 1) := by decide +kernel
theorem d_Ct_body_0 : decode b_Ct_body 0 = .ok (.aload_n 0, 1) := by decide +kernel
theorem d_Ct_body_1 : decode b_Ct_body 1 = .ok (.getfield 12, 3) := by decide +kernel
theorem d_Ct_body_4 : decode b_Ct_body 4 = .ok (.invokevirtual 37, 3) := by decide +kernel
theorem d_Ct_body_7 : decode b_Ct_body 7 = .ok (.ireturn, 1) := by decide +kernel
theorem d_Ct_token_0 : decode b_Ct_token 0 = .ok (.iload_n 1, 1) := by decide +kernel
theorem d_Ct_token_1 : decode b_Ct_token 1 = .ok (.iconst (-1), 1) := by decide +kernel
theorem d_Ct_token_2 : decode b_Ct_token 2 = .ok (.if_icmp .eq 16, 3) := by decide +kernel
theorem d_Ct_token_5 : decode b_Ct_token 5 = .ok (.aload_n 0, 1) := by decide +kernel
theorem d_Ct_token_6 : decode b_Ct_token 6 = .ok (.getfield 12, 3) := by decide +kernel
theorem d_Ct_token_9 : decode b_Ct_token 9 = .ok (.iload_n 1, 1) := by decide +kernel
theorem d_Ct_token_10 : decode b_Ct_token 10 = .ok (.invokevirtual 25, 3) := by decide +kernel
theorem d_Ct_token_13 : decode b_Ct_token 13 = .ok (.ifCond .ne 5, 3) := by decide +kernel
theorem d_Ct_token_16 : decode b_Ct_token 16 = .ok (.iconst (-1), 1) := by decide +kernel
theorem d_Ct_token_17 : decode b_Ct_token 17 = .ok (.ireturn, 1) := by decide +kernel
theorem d_Ct_token_18 : decode b_Ct_token 18 = .ok (.iload_n 2, 1) := by decide +kernel
theorem d_Ct_token_19 : decode b_Ct_token 19 = .ok (.invokestatic 41, 3) := by decide +kernel
theorem d_Ct_token_22 : decode b_Ct_token 22 = .ok (.ifCond .ne 6, 3) := by decide +kernel
theorem d_Ct_token_25 : decode b_Ct_token 25 = .ok (.bipush (-2), 2) := by decide +kernel
theorem d_Ct_token_27 : decode b_Ct_token 27 = .ok (.ireturn, 1) := by decide +kernel
theorem d_Ct_token_28 : decode b_Ct_token 28 = .ok (.aload_n 0, 1) := by decide +kernel
theorem d_Ct_token_29 : decode b_Ct_token 29 = .ok (.getfield 12, 3) := by decide +kernel
theorem d_Ct_token_32 : decode b_Ct_token 32 = .ok (.iload_n 1, 1) := by decide +kernel
theorem d_Ct_token_33 : decode b_Ct_token 33 = .ok (.iconst (-1), 1) := by decide +kernel
theorem d_Ct_token_34 : decode b_Ct_token 34 = .ok (.if_icmp .ne 8, 3) := by decide +kernel
theorem d_Ct_token_37 : decode b_Ct_token 37 = .ok (.bipush 20, 2) := by decide +kernel
theorem d_Ct_token_39 : decode b_Ct_token 39 = .ok (.goto 4, 3) := by decide +kernel
theorem d_Ct_token_42 : decode b_Ct_token 42 = .ok (.iload_n 1, 1) := by decide +kernel
theorem d_Ct_token_43 : decode b_Ct_token 43 = .ok (.iload_n 2, 1) := by decide +kernel
theorem d_Ct_token_44 : decode b_Ct_token 44 = .ok (.invokevirtual 44, 3) := by decide +kernel
theorem d_Ct_token_47 : decode b_Ct_token 47 = .ok (.ireturn, 1) := by decide +kernel
theorem d_Ct_clear_0 : decode b_Ct_clear 0 = .ok (.aload_n 0, 1) := by decide +kernel
theorem d_Ct_clear_1 : decode b_Ct_clear 1 = .ok (.getfield 12, 3) := by decide +kernel
theorem d_Ct_clear_4 : decode b_Ct_clear 4 = .ok (.invokevirtual 48, 3) := by decide +kernel
theorem d_Ct_clear_7 : decode b_Ct_clear 7 = .ok (.ireturn, 1) := by decide +kernel
theorem d_Ct_mode_0 : decode b_Ct_mode 0 = .ok (.aload_n 0, 1) := by decide +kernel
theorem d_Ct_mode_1 : decode b_Ct_mode 1 = .ok (.getfield 12, 3) := by decide +kernel
theorem d_Ct_mode_4 : decode b_Ct_mode 4 = .ok (.getfield 51, 3) := by decide +kernel
theorem d_Ct_mode_7 : decode b_Ct_mode 7 = .ok (.iload_n 1, 1) := by decide +kernel
theorem d_Ct_mode_8 : decode b_Ct_mode 8 = .ok (.iload_n 2, 1) := by decide +kernel
theorem d_Ct_mode_9 : decode b_Ct_mode 9 = .ok (.invokestatic 55, 3) := by decide +kernel
theorem d_Ct_mode_12 : decode b_Ct_mode 12 = .ok (.ireturn, 1) := by decide +kernel
theorem d_Ct_end_0 : decode b_Ct_end 0 = .ok (.aload_n 0, 1) := by decide +kernel
theorem d_Ct_end_1 : decode b_Ct_end 1 = .ok (.getfield 12, 3) := by decide +kernel
theorem d_Ct_end_4 : decode b_Ct_end 4 = .ok (.getfield 59, 3) := by decide +kernel
theorem d_Ct_end_7 : decode b_Ct_end 7 = .ok (.iload_n 1, 1) := by decide +kernel
theorem d_Ct_end_8 : decode b_Ct_end 8 = .ok (.iload_n 2, 1) := by decide +kernel
theorem d_Ct_end_9 : decode b_Ct_end 9 = .ok (.invokestatic 55, 3) := by decide +kernel
theorem d_Ct_end_12 : decode b_Ct_end 12 = .ok (.ireturn, 1) := by decide +kernel
theorem d_Ct_at_0 : decode b_Ct_at 0 = .ok (.aload_n 0, 1) := by decide +kernel
theorem d_Ct_at_1 : decode b_Ct_at 1 = .ok (.getfield 21, 3) := by decide +kernel
theorem d_Ct_at_4 : decode b_Ct_at 4 = .ok (.iload_n 1, 1) := by decide +kernel
theorem d_Ct_at_5 : decode b_Ct_at 5 = .ok (.invokevirtual 65, 3) := by decide +kernel
theorem d_Ct_at_8 : decode b_Ct_at 8 = .ok (.ireturn, 1) := by decide +kernel
theorem d_Ct_told_0 : decode b_Ct_told 0 = .ok (.aload_n 0, 1) := by decide +kernel
theorem d_Ct_told_1 : decode b_Ct_told 1 = .ok (.getfield 21, 3) := by decide +kernel
theorem d_Ct_told_4 : decode b_Ct_told 4 = .ok (.iload_n 1, 1) := by decide +kernel
theorem d_Ct_told_5 : decode b_Ct_told 5 = .ok (.invokevirtual 69, 3) := by decide +kernel
theorem d_Ct_told_8 : decode b_Ct_told 8 = .ok (.ireturn, 1) := by decide +kernel
theorem d_Ct_decided_0 : decode b_Ct_decided 0 = .ok (.aload_n 0, 1) := by decide +kernel
theorem d_Ct_decided_1 : decode b_Ct_decided 1 = .ok (.getfield 21, 3) := by decide +kernel
theorem d_Ct_decided_4 : decode b_Ct_decided 4 = .ok (.iload_n 1, 1) := by decide +kernel
theorem d_Ct_decided_5 : decode b_Ct_decided 5 = .ok (.invokevirtual 72, 3) := by decide +kernel
theorem d_Ct_decided_8 : decode b_Ct_decided 8 = .ok (.ireturn, 1) := by decide +kernel
theorem d_Ct_same_0 : decode b_Ct_same 0 = .ok (.iload_n 1, 1) := by decide +kernel
theorem d_Ct_same_1 : decode b_Ct_same 1 = .ok (.invokestatic 41, 3) := by decide +kernel
theorem d_Ct_same_4 : decode b_Ct_same 4 = .ok (.ifCond .eq 26, 3) := by decide +kernel
theorem d_Ct_same_7 : decode b_Ct_same 7 = .ok (.iload_n 2, 1) := by decide +kernel
theorem d_Ct_same_8 : decode b_Ct_same 8 = .ok (.invokestatic 41, 3) := by decide +kernel
theorem d_Ct_same_11 : decode b_Ct_same 11 = .ok (.ifCond .eq 19, 3) := by decide +kernel
theorem d_Ct_same_14 : decode b_Ct_same 14 = .ok (.aload_n 0, 1) := by decide +kernel
theorem d_Ct_same_15 : decode b_Ct_same 15 = .ok (.getfield 12, 3) := by decide +kernel
theorem d_Ct_same_18 : decode b_Ct_same 18 = .ok (.iload_n 1, 1) := by decide +kernel
theorem d_Ct_same_19 : decode b_Ct_same 19 = .ok (.iload_n 2, 1) := by decide +kernel
theorem d_Ct_same_20 : decode b_Ct_same 20 = .ok (.invokevirtual 75, 3) := by decide +kernel
theorem d_Ct_same_23 : decode b_Ct_same 23 = .ok (.ifCond .eq 7, 3) := by decide +kernel
theorem d_Ct_same_26 : decode b_Ct_same 26 = .ok (.iconst 1, 1) := by decide +kernel
theorem d_Ct_same_27 : decode b_Ct_same 27 = .ok (.goto 4, 3) := by decide +kernel
theorem d_Ct_same_30 : decode b_Ct_same 30 = .ok (.iconst 0, 1) := by decide +kernel
theorem d_Ct_same_31 : decode b_Ct_same 31 = .ok (.ireturn, 1) := by decide +kernel
theorem d_Ct_count_0 : decode b_Ct_count 0 = .ok (.iload_n 1, 1) := by decide +kernel
theorem d_Ct_count_1 : decode b_Ct_count 1 = .ok (.tableswitch 53 0 2 #[27, 35, 45], 27) := by decide +kernel
theorem d_Ct_count_28 : decode b_Ct_count 28 = .ok (.aload_n 0, 1) := by decide +kernel
theorem d_Ct_count_29 : decode b_Ct_count 29 = .ok (.getfield 12, 3) := by decide +kernel
theorem d_Ct_count_32 : decode b_Ct_count 32 = .ok (.getfield 78, 3) := by decide +kernel
theorem d_Ct_count_35 : decode b_Ct_count 35 = .ok (.ireturn, 1) := by decide +kernel
theorem d_Ct_count_36 : decode b_Ct_count 36 = .ok (.aload_n 0, 1) := by decide +kernel
theorem d_Ct_count_37 : decode b_Ct_count 37 = .ok (.getfield 12, 3) := by decide +kernel
theorem d_Ct_count_40 : decode b_Ct_count 40 = .ok (.bipush 20, 2) := by decide +kernel
theorem d_Ct_count_42 : decode b_Ct_count 42 = .ok (.invokevirtual 82, 3) := by decide +kernel
theorem d_Ct_count_45 : decode b_Ct_count 45 = .ok (.ireturn, 1) := by decide +kernel
theorem d_Ct_count_46 : decode b_Ct_count 46 = .ok (.aload_n 0, 1) := by decide +kernel
theorem d_Ct_count_47 : decode b_Ct_count 47 = .ok (.getfield 12, 3) := by decide +kernel
theorem d_Ct_count_50 : decode b_Ct_count 50 = .ok (.invokevirtual 85, 3) := by decide +kernel
theorem d_Ct_count_53 : decode b_Ct_count 53 = .ok (.ireturn, 1) := by decide +kernel
theorem d_Ct_count_54 : decode b_Ct_count 54 = .ok (.bipush (-2), 2) := by decide +kernel
theorem d_Ct_count_56 : decode b_Ct_count 56 = .ok (.ireturn, 1) := by decide +kernel
noncomputable def f_Ct_fitsKind (p0 : Int32) (p1 : Int32) : Int32 := (if p0 = 0 then (if p1 = 0 then 1 else 0) else (if p0 = 1 then (f_Ct_isSign p1) else (if p0 = 2 then (if p1 < 0 then 0 else (if 20 ≤ p1 then 0 else 1)) else (if p0 = 3 then (if p1 < 0 then 0 else (if 20 ≤ p1 then 0 else 1)) else (if p0 = 4 then (if p1 < (-999999999) then 0 else (if 999999999 < p1 then 0 else 1)) else (if p0 = 5 then (if p1 < 0 then 0 else (if 10 < p1 then 0 else 1)) else (if p0 = 6 then (if p1 = 0 then 1 else 0) else (if p0 = 7 then (if p1 = 0 then 1 else 0) else (if p0 = 8 then (if p1 = 0 then 1 else 0) else 0)))))))))
set_option maxHeartbeats 4000000 in
set_option maxRecDepth 100000 in
theorem c_Ct_fitsKind (l : Launch) (dC : Nat → ClassId) (dI : Nat → Nat → Nat) (ad : Nat → Nat) (ca : Nat → ClassId) (sz : Nat) (p0 : Int32) (p1 : Int32) (F : Int32) (he : F = f_Ct_fitsKind p0 p1) : wx_Mi l y_Ct_fitsKind ws_Ct_fitsKind ({ frames := 1, cells := 0, slots := 0, locals := 20 } : Room) (dC, dI) vwCl (t_E ca) [.int p0, .int p1] (w_E ad ca) sz (fun _ : Unit => w_E ad ca) (fun (r : Int32) (_ : Unit) => r = F) := by
  refine Met.ofW (cc := b_Ct_fitsKind) (maxL := 2) (ret := some .boolean) (by decide) rfl ?_
  intro p e s m args below meth c s₁ B hml hv
  obtain ⟨rfl, hsz, hP, hK, hD0, hN⟩ := hv
  have hx := B.exec
  have hb := B.bytes
  have hr := B.returns
  have hts := atoms_spec (ws := ws_Ct_fitsKind) B.pre
  have ht : ∀ w ∈ TB, w.before _ s = true := fun w h => hts w (List.mem_cons_of_mem _ h)
  have hown : s.vm.findClass R_Ct = some m.cls := findClass_of_methodNamed B.named
  have hlocks := B.notSynchronized
  subst hsz
  have hD := hD0.self (sz := s.heap.size)
  generalize hAe : va_A (w_E ad ca) s.heap.size = A at hD ⊢
  have hA : ∀ q : Nat, s.heap.size ≤ q → A q := fun q h => by rw [← hAe]; exact Or.inr h
  have hS : va_S A s.heap s.heap [] := va_S.rf
  have hl := lv_entry ([.int p0, .int p1]) (n := 2) (Nat.le_of_ble_eq_true rfl)
  rw [lg_entry_eq]
  generalize (lg_sl ([.int p0, .int p1]) ++ List.replicate (2 - (lg_sl ([.int p0, .int p1])).length) Slot.unset).toArray = ls at hl ⊢
  have hl : lv_has ls 2 [(0, .int p0), (1, .int p1)] := hl
  unfold f_Ct_fitsKind at he
  refine lv_iload_n hx hb d_Ct_fitsKind_0 rfl (lv_at hl 0 rfl) ?_
  rcases Decidable.em (p0 = 0) with c_1 | c_1
  · have he := he.trans (if_pos c_1)
    refine lv_tableIn (off := 51) (tgt := 52) hx hb d_Ct_fitsKind_1 (by rw [c_1]; decide) (by rw [c_1]; decide) (by rw [c_1]; rfl) (by decide) ?_
    refine lv_iload_n hx hb d_Ct_fitsKind_52 rfl (lv_at hl 1 rfl) ?_
    refine lv_if_ne (tgt := 60) hx hb d_Ct_fitsKind_53 (by decide) (fun c_2 => ?_) (fun c_2 => ?_)
    · have he := he.trans (if_neg c_2)
      refine lv_iconst (v := 0) hx hb d_Ct_fitsKind_60 (by decide) ?_
      exact W.zret hx hb hr (by rfl) (v := 0) (fun t ht hW => ⟨⟨0, (), rfl, he.symm, by rw [ht]; exact hP, va_K.moved hW.alike hK, hD⟩, hS.F ht⟩) hS.2.2 d_Ct_fitsKind_61
    · have he := he.trans (if_pos c_2)
      refine lv_iconst (v := 1) hx hb d_Ct_fitsKind_56 (by decide) ?_
      refine lv_goto (tgt := 61) hx hb d_Ct_fitsKind_57 (by decide) ?_
      exact W.zret hx hb hr (by rfl) (v := 1) (fun t ht hW => ⟨⟨1, (), rfl, he.symm, by rw [ht]; exact hP, va_K.moved hW.alike hK, hD⟩, hS.F ht⟩) hS.2.2 d_Ct_fitsKind_61
  · have he := he.trans (if_neg c_1)
    rcases Decidable.em (p0 = 1) with c_3 | c_3
    · have he := he.trans (if_pos c_3)
      refine lv_tableIn (off := 61) (tgt := 62) hx hb d_Ct_fitsKind_1 (by rw [c_3]; decide) (by rw [c_3]; decide) (by rw [c_3]; rfl) (by decide) ?_
      refine lv_iload_n hx hb d_Ct_fitsKind_62 rfl (lv_at hl 1 rfl) ?_
      refine wx_ci (wS := fun _ : Unit => w_E ad ca) (ws2 := fun _ : Unit => w_E ad ca) (va_runS (As := [.int p1]) (rest := []) ⟨hx, hb, hml, hown, ht⟩ (c_Ct_isSign l dC dI ad ca s.heap.size p1 _ rfl) (va_cwS 1 ht (tb_S q_187 q_188 q_44 q_189) rfl rfl rfl p_Ct_isSign.2 ⟨show 0 + 1 ≤ 1 by omega, show 8 + (1 + 11) + 0 ≤ 20 by omega⟩) (wx_preS (wc := (w_E ad ca)) hN hK hP hD [] [] rfl (by decide) rfl) rfl rfl hl.1 rfl (lv_room (Nat.le_of_ble_eq_true rfl)) d_Ct_fitsKind_63 ⟨Nat.zero_le _, Nat.zero_le _⟩) hP hD hS hA [] [] [] rfl rfl (by decide) (by decide) (by decide) (fun _ => rfl) (fun r_4 _ H locs hw_4 hP hD hS => ?_)
      subst hw_4
      have hP : va_P (dC, dI) vwCl (w_E ad ca) H := hP
      have hD : va_D A (w_E ad ca) := hD
      exact W.zret hx hb hr (by rcases isSign_01 p1 with h | h <;> rw [h] <;> rfl) (v := (f_Ct_isSign p1)) (fun t ht hW => ⟨⟨(f_Ct_isSign p1), (), rfl, he.symm, by rw [ht]; exact hP, va_K.moved hW.alike hK, hD⟩, hS.F ht⟩) hS.2.2 d_Ct_fitsKind_66
    · have he := he.trans (if_neg c_3)
      rcases Decidable.em (p0 = 2) with c_5 | c_5
      · have he := he.trans (if_pos c_5)
        refine lv_tableIn (off := 66) (tgt := 67) hx hb d_Ct_fitsKind_1 (by rw [c_5]; decide) (by rw [c_5]; decide) (by rw [c_5]; rfl) (by decide) ?_
        refine lv_iload_n hx hb d_Ct_fitsKind_67 rfl (lv_at hl 1 rfl) ?_
        refine lv_if_lt (tgt := 81) hx hb d_Ct_fitsKind_68 (by decide) (fun c_6 => ?_) (fun c_6 => ?_)
        · have he := he.trans (if_pos c_6)
          refine lv_iconst (v := 0) hx hb d_Ct_fitsKind_81 (by decide) ?_
          exact W.zret hx hb hr (by rfl) (v := 0) (fun t ht hW => ⟨⟨0, (), rfl, he.symm, by rw [ht]; exact hP, va_K.moved hW.alike hK, hD⟩, hS.F ht⟩) hS.2.2 d_Ct_fitsKind_82
        · have he := he.trans (if_neg c_6)
          refine lv_iload_n hx hb d_Ct_fitsKind_71 rfl (lv_at hl 1 rfl) ?_
          refine lv_bipush (v := 20) hx hb d_Ct_fitsKind_72 (by decide) ?_
          refine lv_icmp_ge (tgt := 81) hx hb d_Ct_fitsKind_74 (by decide) (fun c_7 => ?_) (fun c_7 => ?_)
          · have he := he.trans (if_pos c_7)
            refine lv_iconst (v := 0) hx hb d_Ct_fitsKind_81 (by decide) ?_
            exact W.zret hx hb hr (by rfl) (v := 0) (fun t ht hW => ⟨⟨0, (), rfl, he.symm, by rw [ht]; exact hP, va_K.moved hW.alike hK, hD⟩, hS.F ht⟩) hS.2.2 d_Ct_fitsKind_82
          · have he := he.trans (if_neg c_7)
            refine lv_iconst (v := 1) hx hb d_Ct_fitsKind_77 (by decide) ?_
            refine lv_goto (tgt := 82) hx hb d_Ct_fitsKind_78 (by decide) ?_
            exact W.zret hx hb hr (by rfl) (v := 1) (fun t ht hW => ⟨⟨1, (), rfl, he.symm, by rw [ht]; exact hP, va_K.moved hW.alike hK, hD⟩, hS.F ht⟩) hS.2.2 d_Ct_fitsKind_82
      · have he := he.trans (if_neg c_5)
        rcases Decidable.em (p0 = 3) with c_8 | c_8
        · have he := he.trans (if_pos c_8)
          refine lv_tableIn (off := 66) (tgt := 67) hx hb d_Ct_fitsKind_1 (by rw [c_8]; decide) (by rw [c_8]; decide) (by rw [c_8]; rfl) (by decide) ?_
          refine lv_iload_n hx hb d_Ct_fitsKind_67 rfl (lv_at hl 1 rfl) ?_
          refine lv_if_lt (tgt := 81) hx hb d_Ct_fitsKind_68 (by decide) (fun c_9 => ?_) (fun c_9 => ?_)
          · have he := he.trans (if_pos c_9)
            refine lv_iconst (v := 0) hx hb d_Ct_fitsKind_81 (by decide) ?_
            exact W.zret hx hb hr (by rfl) (v := 0) (fun t ht hW => ⟨⟨0, (), rfl, he.symm, by rw [ht]; exact hP, va_K.moved hW.alike hK, hD⟩, hS.F ht⟩) hS.2.2 d_Ct_fitsKind_82
          · have he := he.trans (if_neg c_9)
            refine lv_iload_n hx hb d_Ct_fitsKind_71 rfl (lv_at hl 1 rfl) ?_
            refine lv_bipush (v := 20) hx hb d_Ct_fitsKind_72 (by decide) ?_
            refine lv_icmp_ge (tgt := 81) hx hb d_Ct_fitsKind_74 (by decide) (fun c_10 => ?_) (fun c_10 => ?_)
            · have he := he.trans (if_pos c_10)
              refine lv_iconst (v := 0) hx hb d_Ct_fitsKind_81 (by decide) ?_
              exact W.zret hx hb hr (by rfl) (v := 0) (fun t ht hW => ⟨⟨0, (), rfl, he.symm, by rw [ht]; exact hP, va_K.moved hW.alike hK, hD⟩, hS.F ht⟩) hS.2.2 d_Ct_fitsKind_82
            · have he := he.trans (if_neg c_10)
              refine lv_iconst (v := 1) hx hb d_Ct_fitsKind_77 (by decide) ?_
              refine lv_goto (tgt := 82) hx hb d_Ct_fitsKind_78 (by decide) ?_
              exact W.zret hx hb hr (by rfl) (v := 1) (fun t ht hW => ⟨⟨1, (), rfl, he.symm, by rw [ht]; exact hP, va_K.moved hW.alike hK, hD⟩, hS.F ht⟩) hS.2.2 d_Ct_fitsKind_82
        · have he := he.trans (if_neg c_8)
          rcases Decidable.em (p0 = 4) with c_11 | c_11
          · have he := he.trans (if_pos c_11)
            refine lv_tableIn (off := 82) (tgt := 83) hx hb d_Ct_fitsKind_1 (by rw [c_11]; decide) (by rw [c_11]; decide) (by rw [c_11]; rfl) (by decide) ?_
            refine lv_iload_n hx hb d_Ct_fitsKind_83 rfl (lv_at hl 1 rfl) ?_
            refine lv_ldc (v := (-999999999)) hx hb hown (ht _ q_190) d_Ct_fitsKind_84 ?_
            refine lv_icmp_lt (tgt := 99) hx hb d_Ct_fitsKind_86 (by decide) (fun c_12 => ?_) (fun c_12 => ?_)
            · have he := he.trans (if_pos c_12)
              refine lv_iconst (v := 0) hx hb d_Ct_fitsKind_99 (by decide) ?_
              exact W.zret hx hb hr (by rfl) (v := 0) (fun t ht hW => ⟨⟨0, (), rfl, he.symm, by rw [ht]; exact hP, va_K.moved hW.alike hK, hD⟩, hS.F ht⟩) hS.2.2 d_Ct_fitsKind_100
            · have he := he.trans (if_neg c_12)
              refine lv_iload_n hx hb d_Ct_fitsKind_89 rfl (lv_at hl 1 rfl) ?_
              refine lv_ldc (v := 999999999) hx hb hown (ht _ q_191) d_Ct_fitsKind_90 ?_
              refine lv_icmp_gt (tgt := 99) hx hb d_Ct_fitsKind_92 (by decide) (fun c_13 => ?_) (fun c_13 => ?_)
              · have he := he.trans (if_pos c_13)
                refine lv_iconst (v := 0) hx hb d_Ct_fitsKind_99 (by decide) ?_
                exact W.zret hx hb hr (by rfl) (v := 0) (fun t ht hW => ⟨⟨0, (), rfl, he.symm, by rw [ht]; exact hP, va_K.moved hW.alike hK, hD⟩, hS.F ht⟩) hS.2.2 d_Ct_fitsKind_100
              · have he := he.trans (if_neg c_13)
                refine lv_iconst (v := 1) hx hb d_Ct_fitsKind_95 (by decide) ?_
                refine lv_goto (tgt := 100) hx hb d_Ct_fitsKind_96 (by decide) ?_
                exact W.zret hx hb hr (by rfl) (v := 1) (fun t ht hW => ⟨⟨1, (), rfl, he.symm, by rw [ht]; exact hP, va_K.moved hW.alike hK, hD⟩, hS.F ht⟩) hS.2.2 d_Ct_fitsKind_100
          · have he := he.trans (if_neg c_11)
            rcases Decidable.em (p0 = 5) with c_14 | c_14
            · have he := he.trans (if_pos c_14)
              refine lv_tableIn (off := 100) (tgt := 101) hx hb d_Ct_fitsKind_1 (by rw [c_14]; decide) (by rw [c_14]; decide) (by rw [c_14]; rfl) (by decide) ?_
              refine lv_iload_n hx hb d_Ct_fitsKind_101 rfl (lv_at hl 1 rfl) ?_
              refine lv_if_lt (tgt := 115) hx hb d_Ct_fitsKind_102 (by decide) (fun c_15 => ?_) (fun c_15 => ?_)
              · have he := he.trans (if_pos c_15)
                refine lv_iconst (v := 0) hx hb d_Ct_fitsKind_115 (by decide) ?_
                exact W.zret hx hb hr (by rfl) (v := 0) (fun t ht hW => ⟨⟨0, (), rfl, he.symm, by rw [ht]; exact hP, va_K.moved hW.alike hK, hD⟩, hS.F ht⟩) hS.2.2 d_Ct_fitsKind_116
              · have he := he.trans (if_neg c_15)
                refine lv_iload_n hx hb d_Ct_fitsKind_105 rfl (lv_at hl 1 rfl) ?_
                refine lv_bipush (v := 10) hx hb d_Ct_fitsKind_106 (by decide) ?_
                refine lv_icmp_gt (tgt := 115) hx hb d_Ct_fitsKind_108 (by decide) (fun c_16 => ?_) (fun c_16 => ?_)
                · have he := he.trans (if_pos c_16)
                  refine lv_iconst (v := 0) hx hb d_Ct_fitsKind_115 (by decide) ?_
                  exact W.zret hx hb hr (by rfl) (v := 0) (fun t ht hW => ⟨⟨0, (), rfl, he.symm, by rw [ht]; exact hP, va_K.moved hW.alike hK, hD⟩, hS.F ht⟩) hS.2.2 d_Ct_fitsKind_116
                · have he := he.trans (if_neg c_16)
                  refine lv_iconst (v := 1) hx hb d_Ct_fitsKind_111 (by decide) ?_
                  refine lv_goto (tgt := 116) hx hb d_Ct_fitsKind_112 (by decide) ?_
                  exact W.zret hx hb hr (by rfl) (v := 1) (fun t ht hW => ⟨⟨1, (), rfl, he.symm, by rw [ht]; exact hP, va_K.moved hW.alike hK, hD⟩, hS.F ht⟩) hS.2.2 d_Ct_fitsKind_116
            · have he := he.trans (if_neg c_14)
              rcases Decidable.em (p0 = 6) with c_17 | c_17
              · have he := he.trans (if_pos c_17)
                refine lv_tableIn (off := 51) (tgt := 52) hx hb d_Ct_fitsKind_1 (by rw [c_17]; decide) (by rw [c_17]; decide) (by rw [c_17]; rfl) (by decide) ?_
                refine lv_iload_n hx hb d_Ct_fitsKind_52 rfl (lv_at hl 1 rfl) ?_
                refine lv_if_ne (tgt := 60) hx hb d_Ct_fitsKind_53 (by decide) (fun c_18 => ?_) (fun c_18 => ?_)
                · have he := he.trans (if_neg c_18)
                  refine lv_iconst (v := 0) hx hb d_Ct_fitsKind_60 (by decide) ?_
                  exact W.zret hx hb hr (by rfl) (v := 0) (fun t ht hW => ⟨⟨0, (), rfl, he.symm, by rw [ht]; exact hP, va_K.moved hW.alike hK, hD⟩, hS.F ht⟩) hS.2.2 d_Ct_fitsKind_61
                · have he := he.trans (if_pos c_18)
                  refine lv_iconst (v := 1) hx hb d_Ct_fitsKind_56 (by decide) ?_
                  refine lv_goto (tgt := 61) hx hb d_Ct_fitsKind_57 (by decide) ?_
                  exact W.zret hx hb hr (by rfl) (v := 1) (fun t ht hW => ⟨⟨1, (), rfl, he.symm, by rw [ht]; exact hP, va_K.moved hW.alike hK, hD⟩, hS.F ht⟩) hS.2.2 d_Ct_fitsKind_61
              · have he := he.trans (if_neg c_17)
                rcases Decidable.em (p0 = 7) with c_19 | c_19
                · have he := he.trans (if_pos c_19)
                  refine lv_tableIn (off := 51) (tgt := 52) hx hb d_Ct_fitsKind_1 (by rw [c_19]; decide) (by rw [c_19]; decide) (by rw [c_19]; rfl) (by decide) ?_
                  refine lv_iload_n hx hb d_Ct_fitsKind_52 rfl (lv_at hl 1 rfl) ?_
                  refine lv_if_ne (tgt := 60) hx hb d_Ct_fitsKind_53 (by decide) (fun c_20 => ?_) (fun c_20 => ?_)
                  · have he := he.trans (if_neg c_20)
                    refine lv_iconst (v := 0) hx hb d_Ct_fitsKind_60 (by decide) ?_
                    exact W.zret hx hb hr (by rfl) (v := 0) (fun t ht hW => ⟨⟨0, (), rfl, he.symm, by rw [ht]; exact hP, va_K.moved hW.alike hK, hD⟩, hS.F ht⟩) hS.2.2 d_Ct_fitsKind_61
                  · have he := he.trans (if_pos c_20)
                    refine lv_iconst (v := 1) hx hb d_Ct_fitsKind_56 (by decide) ?_
                    refine lv_goto (tgt := 61) hx hb d_Ct_fitsKind_57 (by decide) ?_
                    exact W.zret hx hb hr (by rfl) (v := 1) (fun t ht hW => ⟨⟨1, (), rfl, he.symm, by rw [ht]; exact hP, va_K.moved hW.alike hK, hD⟩, hS.F ht⟩) hS.2.2 d_Ct_fitsKind_61
                · have he := he.trans (if_neg c_19)
                  rcases Decidable.em (p0 = 8) with c_21 | c_21
                  · have he := he.trans (if_pos c_21)
                    refine lv_tableIn (off := 51) (tgt := 52) hx hb d_Ct_fitsKind_1 (by rw [c_21]; decide) (by rw [c_21]; decide) (by rw [c_21]; rfl) (by decide) ?_
                    refine lv_iload_n hx hb d_Ct_fitsKind_52 rfl (lv_at hl 1 rfl) ?_
                    refine lv_if_ne (tgt := 60) hx hb d_Ct_fitsKind_53 (by decide) (fun c_22 => ?_) (fun c_22 => ?_)
                    · have he := he.trans (if_neg c_22)
                      refine lv_iconst (v := 0) hx hb d_Ct_fitsKind_60 (by decide) ?_
                      exact W.zret hx hb hr (by rfl) (v := 0) (fun t ht hW => ⟨⟨0, (), rfl, he.symm, by rw [ht]; exact hP, va_K.moved hW.alike hK, hD⟩, hS.F ht⟩) hS.2.2 d_Ct_fitsKind_61
                    · have he := he.trans (if_pos c_22)
                      refine lv_iconst (v := 1) hx hb d_Ct_fitsKind_56 (by decide) ?_
                      refine lv_goto (tgt := 61) hx hb d_Ct_fitsKind_57 (by decide) ?_
                      exact W.zret hx hb hr (by rfl) (v := 1) (fun t ht hW => ⟨⟨1, (), rfl, he.symm, by rw [ht]; exact hP, va_K.moved hW.alike hK, hD⟩, hS.F ht⟩) hS.2.2 d_Ct_fitsKind_61
                  · have he := he.trans (if_neg c_21)
                    have ec_1 := lv_neT (a := 0) c_1 (by decide)
                    have ec_3 := lv_neT (a := 1) c_3 (by decide)
                    have ec_5 := lv_neT (a := 2) c_5 (by decide)
                    have ec_8 := lv_neT (a := 3) c_8 (by decide)
                    have ec_11 := lv_neT (a := 4) c_11 (by decide)
                    have ec_14 := lv_neT (a := 5) c_14 (by decide)
                    have ec_17 := lv_neT (a := 6) c_17 (by decide)
                    have ec_19 := lv_neT (a := 7) c_19 (by decide)
                    have ec_21 := lv_neT (a := 8) c_21 (by decide)
                    refine lv_tableOut (tgt := 117) hx hb d_Ct_fitsKind_1 (by omega) (by decide) ?_
                    refine lv_iconst (v := 0) hx hb d_Ct_fitsKind_117 (by decide) ?_
                    exact W.zret hx hb hr (by rfl) (v := 0) (fun t ht hW => ⟨⟨0, (), rfl, he.symm, by rw [ht]; exact hP, va_K.moved hW.alike hK, hD⟩, hS.F ht⟩) hS.2.2 d_Ct_fitsKind_118
noncomputable def f_Ct_turn (n0 : Nat) (f : (Nat → Int32)) (p0 : Int32) (p1 : Int32) : (Int32 × (Nat → Int32)) := (if p0 < 0 then ((-2), f) else (if p0 < (Int32.ofNat n0) then (1, (upd f p0.toNatClampNeg (vp_nar .boolean p1))) else ((-2), f)))
set_option maxHeartbeats 4000000 in
set_option maxRecDepth 100000 in
theorem c_Ct_turn (l : Launch) (dC : Nat → ClassId) (dI : Nat → Nat → Nat) (ad : Nat → Nat) (ca : Nat → ClassId) (a0 : Nat) (k0 : ClassId) (n0 : Nat) (sz : Nat) (f : (Nat → Int32)) (p0 : Int32) (p1 : Int32) (hpre : n0 < 2147483648) (F : (Int32 × (Nat → Int32))) (he : F = f_Ct_turn n0 f p0 p1) : wx_Mi l y_Ct_turn ws_Ct_turn ({ frames := 0, cells := 0, slots := 0, locals := 0 } : Room) (dC, dI) vwCl (t_Z ca a0 k0 n0) [.ref a0, .int p0, .int p1] (w_Z ad ca a0 k0 n0 f) sz (fun v : (Nat → Int32) => w_Z ad ca a0 k0 n0 v) (fun (r : Int32) (v : (Nat → Int32)) => (r, v) = F) := by
  refine Met.ofW (cc := b_Ct_turn) (maxL := 3) (ret := some .int) (by decide) rfl ?_
  intro p e s m args below meth c s₁ B hml hv
  obtain ⟨rfl, hsz, hP, hK, hD0, hN⟩ := hv
  have hx := B.exec
  have hb := B.bytes
  have hr := B.returns
  have hts := atoms_spec (ws := ws_Ct_turn) B.pre
  have ht : ∀ w ∈ TB, w.before _ s = true := fun w h => hts w (List.mem_cons_of_mem _ h)
  have hown : s.vm.findClass R_Ct = some m.cls := findClass_of_methodNamed B.named
  have hlocks := B.notSynchronized
  subst hsz
  have hD := hD0.self (sz := s.heap.size)
  generalize hAe : va_A (w_Z ad ca a0 k0 n0 f) s.heap.size = A at hD ⊢
  have hA : ∀ q : Nat, s.heap.size ≤ q → A q := fun q h => by rw [← hAe]; exact Or.inr h
  have hS : va_S A s.heap s.heap [] := va_S.rf
  have hl := lv_entry ([.ref a0, .int p0, .int p1]) (n := 3) (Nat.le_of_ble_eq_true rfl)
  rw [lg_entry_eq]
  generalize (lg_sl ([.ref a0, .int p0, .int p1]) ++ List.replicate (3 - (lg_sl ([.ref a0, .int p0, .int p1])).length) Slot.unset).toArray = ls at hl ⊢
  have hl : lv_has ls 3 [(0, .ref a0), (1, .int p0), (2, .int p1)] := hl
  unfold f_Ct_turn at he
  refine lv_iload_n hx hb d_Ct_turn_0 rfl (lv_at hl 1 rfl) ?_
  refine lv_if_lt (tgt := 10) hx hb d_Ct_turn_1 (by decide) (fun c_1 => ?_) (fun c_1 => ?_)
  · have he := he.trans (if_pos c_1)
    refine lv_bipush (v := (-2)) hx hb d_Ct_turn_10 (by decide) ?_
    exact W.iret hx hb hr (v := (-2)) (fun t ht hW => ⟨⟨(-2), f, rfl, he.symm, by rw [ht]; exact hP, va_K.moved hW.alike hK, hD⟩, hS.F ht⟩) hS.2.2 d_Ct_turn_12
  · have he := he.trans (if_neg c_1)
    refine lv_iload_n hx hb d_Ct_turn_4 rfl (lv_at hl 1 rfl) ?_
    refine lv_aload_n hx hb d_Ct_turn_5 rfl (lv_at hl 0 rfl) ?_
    refine va_alen hx hb hK hP 0 0 rfl rfl (v := (Int32.ofNat n0)) rfl d_Ct_turn_6 ?_
    refine lv_icmp_lt (tgt := 13) hx hb d_Ct_turn_7 (by decide) (fun c_2 => ?_) (fun c_2 => ?_)
    · have he := he.trans (if_pos c_2)
      refine lv_aload_n hx hb d_Ct_turn_13 rfl (lv_at hl 0 rfl) ?_
      refine lv_iload_n hx hb d_Ct_turn_14 rfl (lv_at hl 1 rfl) ?_
      refine lv_iload_n hx hb d_Ct_turn_15 rfl (lv_at hl 2 rfl) ?_
      refine va_zast hx hb hK hP hD hS 0 0 rfl rfl (in_turn hpre c_1 c_2) d_Ct_turn_16 (fun H locs hP hD hS => ?_)
      have hP : va_P (dC, dI) vwCl (w_Z ad ca a0 k0 n0 (upd f p0.toNatClampNeg (vp_nar .boolean p1))) H := hP
      have hD : va_D A (w_Z ad ca a0 k0 n0 (upd f p0.toNatClampNeg (vp_nar .boolean p1))) := hD
      refine lv_iconst (v := 1) hx hb d_Ct_turn_17 (by decide) ?_
      exact W.iret hx hb hr (v := 1) (fun t ht hW => ⟨⟨1, (upd f p0.toNatClampNeg (vp_nar .boolean p1)), rfl, he.symm, by rw [ht]; exact hP, va_K.moved hW.alike hK, hD⟩, hS.F ht⟩) hS.2.2 d_Ct_turn_18
    · have he := he.trans (if_neg c_2)
      refine lv_bipush (v := (-2)) hx hb d_Ct_turn_10 (by decide) ?_
      exact W.iret hx hb hr (v := (-2)) (fun t ht hW => ⟨⟨(-2), f, rfl, he.symm, by rw [ht]; exact hP, va_K.moved hW.alike hK, hD⟩, hS.F ht⟩) hS.2.2 d_Ct_turn_12
noncomputable def f_Ct_meaning (z : TCt) (p0 : Int32) (p1 : Int32) (p2 : Int32) : (Int32 × TCt) := (if p0 < 0 then ((-1), z) else (if p0 < 40 then (if p1 = 2 then (if (f_Bk_hasBody (TCt_bk z) p2) = 0 then ((-1), z) else (if (f_Ct_fitsKind p1 p2) = 0 then ((-2), z) else (let v_8 := f_Bk_define (TCt_bk z) p0 p1 p2; (1, (TCt_set_bk z v_8))))) else (if p1 = 3 then (if (f_Bk_hasBody (TCt_bk z) p2) = 0 then ((-1), z) else (if (f_Ct_fitsKind p1 p2) = 0 then ((-2), z) else (let v_17 := f_Bk_define (TCt_bk z) p0 p1 p2; (1, (TCt_set_bk z v_17))))) else (if (f_Ct_fitsKind p1 p2) = 0 then ((-2), z) else (let v_12 := f_Bk_define (TCt_bk z) p0 p1 p2; (1, (TCt_set_bk z v_12)))))) else ((-1), z)))
set_option maxHeartbeats 4000000 in
set_option maxRecDepth 100000 in
theorem c_Ct_meaning (l : Launch) (dC : Nat → ClassId) (dI : Nat → Nat → Nat) (ad : Nat → Nat) (ca : Nat → ClassId) (sz : Nat) (z : TCt) (p0 : Int32) (p1 : Int32) (p2 : Int32) (F : (Int32 × TCt)) (he : F = f_Ct_meaning z p0 p1 p2) : wx_Mi l y_Ct_meaning ws_Ct_meaning ({ frames := 2, cells := 0, slots := 0, locals := 41 } : Room) (dC, dI) vwCl (t_C ca) [.ref (ad 15), .int p0, .int p1, .int p2] (w_C ad ca z) sz (fun v : TCt => w_C ad ca v) (fun (r : Int32) (v : TCt) => (r, v) = F) := by
  refine Met.ofW (cc := b_Ct_meaning) (maxL := 4) (ret := some .int) (by decide) rfl ?_
  intro p e s m args below meth c s₁ B hml hv
  obtain ⟨rfl, hsz, hP, hK, hD0, hN⟩ := hv
  have hx := B.exec
  have hb := B.bytes
  have hr := B.returns
  have hts := atoms_spec (ws := ws_Ct_meaning) B.pre
  have ht : ∀ w ∈ TB, w.before _ s = true := fun w h => hts w (List.mem_cons_of_mem _ h)
  have hown : s.vm.findClass R_Ct = some m.cls := findClass_of_methodNamed B.named
  have hlocks := B.notSynchronized
  subst hsz
  have hD := hD0.self (sz := s.heap.size)
  generalize hAe : va_A (w_C ad ca z) s.heap.size = A at hD ⊢
  have hA : ∀ q : Nat, s.heap.size ≤ q → A q := fun q h => by rw [← hAe]; exact Or.inr h
  have hS : va_S A s.heap s.heap [] := va_S.rf
  have hl := lv_entry ([.ref (ad 15), .int p0, .int p1, .int p2]) (n := 4) (Nat.le_of_ble_eq_true rfl)
  rw [lg_entry_eq]
  generalize (lg_sl ([.ref (ad 15), .int p0, .int p1, .int p2]) ++ List.replicate (4 - (lg_sl ([.ref (ad 15), .int p0, .int p1, .int p2])).length) Slot.unset).toArray = ls at hl ⊢
  have hl : lv_has ls 4 [(0, .ref (ad 15)), (1, .int p0), (2, .int p1), (3, .int p2)] := hl
  unfold f_Ct_meaning at he
  refine lv_iload_n hx hb d_Ct_meaning_0 rfl (lv_at hl 1 rfl) ?_
  refine lv_if_lt (tgt := 10) hx hb d_Ct_meaning_1 (by decide) (fun c_1 => ?_) (fun c_1 => ?_)
  · have he := he.trans (if_pos c_1)
    refine lv_iconst (v := (-1)) hx hb d_Ct_meaning_10 (by decide) ?_
    exact W.iret hx hb hr (v := (-1)) (fun t ht hW => ⟨⟨(-1), z, rfl, he.symm, by rw [ht]; exact hP, va_K.moved hW.alike hK, hD⟩, hS.F ht⟩) hS.2.2 d_Ct_meaning_11
  · have he := he.trans (if_neg c_1)
    refine lv_iload_n hx hb d_Ct_meaning_4 rfl (lv_at hl 1 rfl) ?_
    refine lv_bipush (v := 40) hx hb d_Ct_meaning_5 (by decide) ?_
    refine lv_icmp_lt (tgt := 12) hx hb d_Ct_meaning_7 (by decide) (fun c_2 => ?_) (fun c_2 => ?_)
    · have he := he.trans (if_pos c_2)
      refine lv_iload_n hx hb d_Ct_meaning_12 rfl (lv_at hl 2 rfl) ?_
      refine lv_iconst (v := 2) hx hb d_Ct_meaning_13 (by decide) ?_
      refine lv_icmp_eq (tgt := 22) hx hb d_Ct_meaning_14 (by decide) (fun c_3 => ?_) (fun c_3 => ?_)
      · have he := he.trans (if_pos c_3)
        refine lv_aload_n hx hb d_Ct_meaning_22 rfl (lv_at hl 0 rfl) ?_
        refine va_get (D := (dC, dI)) (ci := 3) (v := .ref (ad 8)) (C := R_Ct) (T := T_Ct) (N := 2) hx hb ht i_Ct hown hK hP 0 rfl rfl 0 (by decide) (ht _ q_169) (fun _ h9 => h9) rfl d_Ct_meaning_23 ?_
        refine lv_iload_n hx hb d_Ct_meaning_26 rfl (lv_at hl 3 rfl) ?_
        refine wx_ci (wS := fun _ : Unit => w_B ad ca (TCt_bk z)) (ws2 := fun _ : Unit => w_C ad ca z) (va_runV (As := [.int p2]) (rest := []) ⟨hx, hb, hml, hown, ht⟩ (c_Bk_hasBody l dC dI ad ca s.heap.size (TCt_bk z) p2 _ rfl) (cwV 1 ht (tb_V q_180 q_181 q_182 q_45 q_183) rfl rfl rfl p_Bk_hasBody ⟨show 0 + 1 ≤ 2 by omega, show 8 + (2 + 11) + 0 ≤ 41 by omega⟩) (wx_preV (wc := (w_B ad ca (TCt_bk z))) hN hK hP hD [9, 10, 11, 12, 13, 14, 15] [6, 7, 8, 9, 10, 11] rfl (by decide) rfl (ci := 0) (q0 := 0) rfl rfl) rfl rfl hl.1 rfl (lv_room (Nat.le_of_ble_eq_true rfl)) d_Ct_meaning_27 ⟨Nat.zero_le _, Nat.zero_le _⟩) hP hD hS hA [9, 10, 11, 12, 13, 14, 15] [0, 1, 2, 3, 4, 5, 6, 7, 8] [0, 1, 2, 3, 4, 5, 6, 7, 8, 9, 10, 11, 12, 13, 14, 15] rfl rfl (by decide) (by decide) (by decide) (fun _ => rfl) (fun r_4 _ H locs hw_4 hP hD hS => ?_)
        subst hw_4
        have hP : va_P (dC, dI) vwCl (w_C ad ca z) H := hP
        have hD : va_D A (w_C ad ca z) := hD
        refine lv_if_ne (tgt := 35) hx hb d_Ct_meaning_30 (by decide) (fun c_5 => ?_) (fun c_5 => ?_)
        · have he := he.trans (if_neg c_5)
          refine lv_iload_n hx hb d_Ct_meaning_35 rfl (lv_at hl 2 rfl) ?_
          refine lv_iload_n hx hb d_Ct_meaning_36 rfl (lv_at hl 3 rfl) ?_
          refine wx_ci (wS := fun _ : Unit => w_E ad ca) (ws2 := fun _ : Unit => w_C ad ca z) (va_runS (As := [.int p1, .int p2]) (rest := []) ⟨hx, hb, hml, hown, ht⟩ (c_Ct_fitsKind l dC dI ad ca H.size p1 p2 _ rfl) (va_cwS 2 ht (tb_S q_184 q_185 q_44 q_186) rfl rfl rfl p_Ct_fitsKind.2 ⟨show 1 + 1 ≤ 2 by omega, show 8 + (2 + 11) + 20 ≤ 41 by omega⟩) (wx_preS (wc := (w_E ad ca)) hN hK hP hD [] [] rfl (by decide) rfl) rfl rfl hl.1 rfl (lv_room (Nat.le_of_ble_eq_true rfl)) d_Ct_meaning_37 ⟨Nat.zero_le _, Nat.zero_le _⟩) hP hD hS hA [] [0, 1, 2, 3, 4, 5, 6, 7, 8, 9, 10, 11, 12, 13, 14, 15] [0, 1, 2, 3, 4, 5, 6, 7, 8, 9, 10, 11, 12, 13, 14, 15] rfl rfl (by decide) (by decide) (by decide) (fun _ => rfl) (fun r_6 _ H locs hw_6 hP hD hS => ?_)
          subst hw_6
          have hP : va_P (dC, dI) vwCl (w_C ad ca z) H := hP
          have hD : va_D A (w_C ad ca z) := hD
          refine lv_if_ne (tgt := 46) hx hb d_Ct_meaning_40 (by decide) (fun c_7 => ?_) (fun c_7 => ?_)
          · have he := he.trans (if_neg c_7)
            refine lv_aload_n hx hb d_Ct_meaning_46 rfl (lv_at hl 0 rfl) ?_
            refine va_get (D := (dC, dI)) (ci := 3) (v := .ref (ad 8)) (C := R_Ct) (T := T_Ct) (N := 2) hx hb ht i_Ct hown hK hP 0 rfl rfl 0 (by decide) (ht _ q_169) (fun _ h9 => h9) rfl d_Ct_meaning_47 ?_
            refine lv_iload_n hx hb d_Ct_meaning_50 rfl (lv_at hl 1 rfl) ?_
            refine lv_iload_n hx hb d_Ct_meaning_51 rfl (lv_at hl 2 rfl) ?_
            refine lv_iload_n hx hb d_Ct_meaning_52 rfl (lv_at hl 3 rfl) ?_
            refine wx_cv (wS := fun v : TBk => w_B ad ca v) (ws2 := fun v : TBk => w_C ad ca (TCt_set_bk z v)) (va_runV (As := [.int p0, .int p1, .int p2]) (rest := []) ⟨hx, hb, hml, hown, ht⟩ (c_Bk_define l dC dI ad ca H.size (TCt_bk z) p0 p1 p2 _ rfl) (cwV 3 ht (tb_V q_192 q_193 q_194 q_45 q_195) rfl rfl rfl p_Bk_define ⟨show 0 + 1 ≤ 2 by omega, show 8 + (4 + 11) + 0 ≤ 41 by omega⟩) (wx_preV (wc := (w_B ad ca (TCt_bk z))) hN hK hP hD [9, 10, 11, 12, 13, 14, 15] [6, 7, 8, 9, 10, 11] rfl (by decide) rfl (ci := 0) (q0 := 0) rfl rfl) rfl rfl hl.1 rfl (lv_room (Nat.le_of_ble_eq_true rfl)) d_Ct_meaning_53 ⟨Nat.zero_le _, Nat.zero_le _⟩) hP hD hS hA [9, 10, 11, 12, 13, 14, 15] [0, 1, 2, 3, 4, 5, 6, 7, 8] [0, 1, 2, 3, 4, 5, 6, 7, 8, 9, 10, 11, 12, 13, 14, 15] rfl rfl (by decide) (by decide) (by decide) (fun _ => rfl) (fun v_8 H locs hw_8 hP hD hS => ?_)
            have hP : va_P (dC, dI) vwCl (w_C ad ca (TCt_set_bk z v_8)) H := hP
            have hD : va_D A (w_C ad ca (TCt_set_bk z v_8)) := hD
            rw [← hw_8] at he
            try dsimp only at he
            refine lv_iconst (v := 1) hx hb d_Ct_meaning_56 (by decide) ?_
            exact W.iret hx hb hr (v := 1) (fun t ht hW => ⟨⟨1, (TCt_set_bk z v_8), rfl, he.symm, by rw [ht]; exact hP, va_K.moved hW.alike hK, hD⟩, hS.F ht⟩) hS.2.2 d_Ct_meaning_57
          · have he := he.trans (if_pos c_7)
            refine lv_bipush (v := (-2)) hx hb d_Ct_meaning_43 (by decide) ?_
            exact W.iret hx hb hr (v := (-2)) (fun t ht hW => ⟨⟨(-2), z, rfl, he.symm, by rw [ht]; exact hP, va_K.moved hW.alike hK, hD⟩, hS.F ht⟩) hS.2.2 d_Ct_meaning_45
        · have he := he.trans (if_pos c_5)
          refine lv_iconst (v := (-1)) hx hb d_Ct_meaning_33 (by decide) ?_
          exact W.iret hx hb hr (v := (-1)) (fun t ht hW => ⟨⟨(-1), z, rfl, he.symm, by rw [ht]; exact hP, va_K.moved hW.alike hK, hD⟩, hS.F ht⟩) hS.2.2 d_Ct_meaning_34
      · have he := he.trans (if_neg c_3)
        refine lv_iload_n hx hb d_Ct_meaning_17 rfl (lv_at hl 2 rfl) ?_
        refine lv_iconst (v := 3) hx hb d_Ct_meaning_18 (by decide) ?_
        refine lv_icmp_ne (tgt := 35) hx hb d_Ct_meaning_19 (by decide) (fun c_9 => ?_) (fun c_9 => ?_)
        · have he := he.trans (if_neg c_9)
          refine lv_iload_n hx hb d_Ct_meaning_35 rfl (lv_at hl 2 rfl) ?_
          refine lv_iload_n hx hb d_Ct_meaning_36 rfl (lv_at hl 3 rfl) ?_
          refine wx_ci (wS := fun _ : Unit => w_E ad ca) (ws2 := fun _ : Unit => w_C ad ca z) (va_runS (As := [.int p1, .int p2]) (rest := []) ⟨hx, hb, hml, hown, ht⟩ (c_Ct_fitsKind l dC dI ad ca s.heap.size p1 p2 _ rfl) (va_cwS 2 ht (tb_S q_184 q_185 q_44 q_186) rfl rfl rfl p_Ct_fitsKind.2 ⟨show 1 + 1 ≤ 2 by omega, show 8 + (2 + 11) + 20 ≤ 41 by omega⟩) (wx_preS (wc := (w_E ad ca)) hN hK hP hD [] [] rfl (by decide) rfl) rfl rfl hl.1 rfl (lv_room (Nat.le_of_ble_eq_true rfl)) d_Ct_meaning_37 ⟨Nat.zero_le _, Nat.zero_le _⟩) hP hD hS hA [] [0, 1, 2, 3, 4, 5, 6, 7, 8, 9, 10, 11, 12, 13, 14, 15] [0, 1, 2, 3, 4, 5, 6, 7, 8, 9, 10, 11, 12, 13, 14, 15] rfl rfl (by decide) (by decide) (by decide) (fun _ => rfl) (fun r_10 _ H locs hw_10 hP hD hS => ?_)
          subst hw_10
          have hP : va_P (dC, dI) vwCl (w_C ad ca z) H := hP
          have hD : va_D A (w_C ad ca z) := hD
          refine lv_if_ne (tgt := 46) hx hb d_Ct_meaning_40 (by decide) (fun c_11 => ?_) (fun c_11 => ?_)
          · have he := he.trans (if_neg c_11)
            refine lv_aload_n hx hb d_Ct_meaning_46 rfl (lv_at hl 0 rfl) ?_
            refine va_get (D := (dC, dI)) (ci := 3) (v := .ref (ad 8)) (C := R_Ct) (T := T_Ct) (N := 2) hx hb ht i_Ct hown hK hP 0 rfl rfl 0 (by decide) (ht _ q_169) (fun _ h9 => h9) rfl d_Ct_meaning_47 ?_
            refine lv_iload_n hx hb d_Ct_meaning_50 rfl (lv_at hl 1 rfl) ?_
            refine lv_iload_n hx hb d_Ct_meaning_51 rfl (lv_at hl 2 rfl) ?_
            refine lv_iload_n hx hb d_Ct_meaning_52 rfl (lv_at hl 3 rfl) ?_
            refine wx_cv (wS := fun v : TBk => w_B ad ca v) (ws2 := fun v : TBk => w_C ad ca (TCt_set_bk z v)) (va_runV (As := [.int p0, .int p1, .int p2]) (rest := []) ⟨hx, hb, hml, hown, ht⟩ (c_Bk_define l dC dI ad ca H.size (TCt_bk z) p0 p1 p2 _ rfl) (cwV 3 ht (tb_V q_192 q_193 q_194 q_45 q_195) rfl rfl rfl p_Bk_define ⟨show 0 + 1 ≤ 2 by omega, show 8 + (4 + 11) + 0 ≤ 41 by omega⟩) (wx_preV (wc := (w_B ad ca (TCt_bk z))) hN hK hP hD [9, 10, 11, 12, 13, 14, 15] [6, 7, 8, 9, 10, 11] rfl (by decide) rfl (ci := 0) (q0 := 0) rfl rfl) rfl rfl hl.1 rfl (lv_room (Nat.le_of_ble_eq_true rfl)) d_Ct_meaning_53 ⟨Nat.zero_le _, Nat.zero_le _⟩) hP hD hS hA [9, 10, 11, 12, 13, 14, 15] [0, 1, 2, 3, 4, 5, 6, 7, 8] [0, 1, 2, 3, 4, 5, 6, 7, 8, 9, 10, 11, 12, 13, 14, 15] rfl rfl (by decide) (by decide) (by decide) (fun _ => rfl) (fun v_12 H locs hw_12 hP hD hS => ?_)
            have hP : va_P (dC, dI) vwCl (w_C ad ca (TCt_set_bk z v_12)) H := hP
            have hD : va_D A (w_C ad ca (TCt_set_bk z v_12)) := hD
            rw [← hw_12] at he
            try dsimp only at he
            refine lv_iconst (v := 1) hx hb d_Ct_meaning_56 (by decide) ?_
            exact W.iret hx hb hr (v := 1) (fun t ht hW => ⟨⟨1, (TCt_set_bk z v_12), rfl, he.symm, by rw [ht]; exact hP, va_K.moved hW.alike hK, hD⟩, hS.F ht⟩) hS.2.2 d_Ct_meaning_57
          · have he := he.trans (if_pos c_11)
            refine lv_bipush (v := (-2)) hx hb d_Ct_meaning_43 (by decide) ?_
            exact W.iret hx hb hr (v := (-2)) (fun t ht hW => ⟨⟨(-2), z, rfl, he.symm, by rw [ht]; exact hP, va_K.moved hW.alike hK, hD⟩, hS.F ht⟩) hS.2.2 d_Ct_meaning_45
        · have he := he.trans (if_pos c_9)
          refine lv_aload_n hx hb d_Ct_meaning_22 rfl (lv_at hl 0 rfl) ?_
          refine va_get (D := (dC, dI)) (ci := 3) (v := .ref (ad 8)) (C := R_Ct) (T := T_Ct) (N := 2) hx hb ht i_Ct hown hK hP 0 rfl rfl 0 (by decide) (ht _ q_169) (fun _ h9 => h9) rfl d_Ct_meaning_23 ?_
          refine lv_iload_n hx hb d_Ct_meaning_26 rfl (lv_at hl 3 rfl) ?_
          refine wx_ci (wS := fun _ : Unit => w_B ad ca (TCt_bk z)) (ws2 := fun _ : Unit => w_C ad ca z) (va_runV (As := [.int p2]) (rest := []) ⟨hx, hb, hml, hown, ht⟩ (c_Bk_hasBody l dC dI ad ca s.heap.size (TCt_bk z) p2 _ rfl) (cwV 1 ht (tb_V q_180 q_181 q_182 q_45 q_183) rfl rfl rfl p_Bk_hasBody ⟨show 0 + 1 ≤ 2 by omega, show 8 + (2 + 11) + 0 ≤ 41 by omega⟩) (wx_preV (wc := (w_B ad ca (TCt_bk z))) hN hK hP hD [9, 10, 11, 12, 13, 14, 15] [6, 7, 8, 9, 10, 11] rfl (by decide) rfl (ci := 0) (q0 := 0) rfl rfl) rfl rfl hl.1 rfl (lv_room (Nat.le_of_ble_eq_true rfl)) d_Ct_meaning_27 ⟨Nat.zero_le _, Nat.zero_le _⟩) hP hD hS hA [9, 10, 11, 12, 13, 14, 15] [0, 1, 2, 3, 4, 5, 6, 7, 8] [0, 1, 2, 3, 4, 5, 6, 7, 8, 9, 10, 11, 12, 13, 14, 15] rfl rfl (by decide) (by decide) (by decide) (fun _ => rfl) (fun r_13 _ H locs hw_13 hP hD hS => ?_)
          subst hw_13
          have hP : va_P (dC, dI) vwCl (w_C ad ca z) H := hP
          have hD : va_D A (w_C ad ca z) := hD
          refine lv_if_ne (tgt := 35) hx hb d_Ct_meaning_30 (by decide) (fun c_14 => ?_) (fun c_14 => ?_)
          · have he := he.trans (if_neg c_14)
            refine lv_iload_n hx hb d_Ct_meaning_35 rfl (lv_at hl 2 rfl) ?_
            refine lv_iload_n hx hb d_Ct_meaning_36 rfl (lv_at hl 3 rfl) ?_
            refine wx_ci (wS := fun _ : Unit => w_E ad ca) (ws2 := fun _ : Unit => w_C ad ca z) (va_runS (As := [.int p1, .int p2]) (rest := []) ⟨hx, hb, hml, hown, ht⟩ (c_Ct_fitsKind l dC dI ad ca H.size p1 p2 _ rfl) (va_cwS 2 ht (tb_S q_184 q_185 q_44 q_186) rfl rfl rfl p_Ct_fitsKind.2 ⟨show 1 + 1 ≤ 2 by omega, show 8 + (2 + 11) + 20 ≤ 41 by omega⟩) (wx_preS (wc := (w_E ad ca)) hN hK hP hD [] [] rfl (by decide) rfl) rfl rfl hl.1 rfl (lv_room (Nat.le_of_ble_eq_true rfl)) d_Ct_meaning_37 ⟨Nat.zero_le _, Nat.zero_le _⟩) hP hD hS hA [] [0, 1, 2, 3, 4, 5, 6, 7, 8, 9, 10, 11, 12, 13, 14, 15] [0, 1, 2, 3, 4, 5, 6, 7, 8, 9, 10, 11, 12, 13, 14, 15] rfl rfl (by decide) (by decide) (by decide) (fun _ => rfl) (fun r_15 _ H locs hw_15 hP hD hS => ?_)
            subst hw_15
            have hP : va_P (dC, dI) vwCl (w_C ad ca z) H := hP
            have hD : va_D A (w_C ad ca z) := hD
            refine lv_if_ne (tgt := 46) hx hb d_Ct_meaning_40 (by decide) (fun c_16 => ?_) (fun c_16 => ?_)
            · have he := he.trans (if_neg c_16)
              refine lv_aload_n hx hb d_Ct_meaning_46 rfl (lv_at hl 0 rfl) ?_
              refine va_get (D := (dC, dI)) (ci := 3) (v := .ref (ad 8)) (C := R_Ct) (T := T_Ct) (N := 2) hx hb ht i_Ct hown hK hP 0 rfl rfl 0 (by decide) (ht _ q_169) (fun _ h9 => h9) rfl d_Ct_meaning_47 ?_
              refine lv_iload_n hx hb d_Ct_meaning_50 rfl (lv_at hl 1 rfl) ?_
              refine lv_iload_n hx hb d_Ct_meaning_51 rfl (lv_at hl 2 rfl) ?_
              refine lv_iload_n hx hb d_Ct_meaning_52 rfl (lv_at hl 3 rfl) ?_
              refine wx_cv (wS := fun v : TBk => w_B ad ca v) (ws2 := fun v : TBk => w_C ad ca (TCt_set_bk z v)) (va_runV (As := [.int p0, .int p1, .int p2]) (rest := []) ⟨hx, hb, hml, hown, ht⟩ (c_Bk_define l dC dI ad ca H.size (TCt_bk z) p0 p1 p2 _ rfl) (cwV 3 ht (tb_V q_192 q_193 q_194 q_45 q_195) rfl rfl rfl p_Bk_define ⟨show 0 + 1 ≤ 2 by omega, show 8 + (4 + 11) + 0 ≤ 41 by omega⟩) (wx_preV (wc := (w_B ad ca (TCt_bk z))) hN hK hP hD [9, 10, 11, 12, 13, 14, 15] [6, 7, 8, 9, 10, 11] rfl (by decide) rfl (ci := 0) (q0 := 0) rfl rfl) rfl rfl hl.1 rfl (lv_room (Nat.le_of_ble_eq_true rfl)) d_Ct_meaning_53 ⟨Nat.zero_le _, Nat.zero_le _⟩) hP hD hS hA [9, 10, 11, 12, 13, 14, 15] [0, 1, 2, 3, 4, 5, 6, 7, 8] [0, 1, 2, 3, 4, 5, 6, 7, 8, 9, 10, 11, 12, 13, 14, 15] rfl rfl (by decide) (by decide) (by decide) (fun _ => rfl) (fun v_17 H locs hw_17 hP hD hS => ?_)
              have hP : va_P (dC, dI) vwCl (w_C ad ca (TCt_set_bk z v_17)) H := hP
              have hD : va_D A (w_C ad ca (TCt_set_bk z v_17)) := hD
              rw [← hw_17] at he
              try dsimp only at he
              refine lv_iconst (v := 1) hx hb d_Ct_meaning_56 (by decide) ?_
              exact W.iret hx hb hr (v := 1) (fun t ht hW => ⟨⟨1, (TCt_set_bk z v_17), rfl, he.symm, by rw [ht]; exact hP, va_K.moved hW.alike hK, hD⟩, hS.F ht⟩) hS.2.2 d_Ct_meaning_57
            · have he := he.trans (if_pos c_16)
              refine lv_bipush (v := (-2)) hx hb d_Ct_meaning_43 (by decide) ?_
              exact W.iret hx hb hr (v := (-2)) (fun t ht hW => ⟨⟨(-2), z, rfl, he.symm, by rw [ht]; exact hP, va_K.moved hW.alike hK, hD⟩, hS.F ht⟩) hS.2.2 d_Ct_meaning_45
          · have he := he.trans (if_pos c_14)
            refine lv_iconst (v := (-1)) hx hb d_Ct_meaning_33 (by decide) ?_
            exact W.iret hx hb hr (v := (-1)) (fun t ht hW => ⟨⟨(-1), z, rfl, he.symm, by rw [ht]; exact hP, va_K.moved hW.alike hK, hD⟩, hS.F ht⟩) hS.2.2 d_Ct_meaning_34
    · have he := he.trans (if_neg c_2)
      refine lv_iconst (v := (-1)) hx hb d_Ct_meaning_10 (by decide) ?_
      exact W.iret hx hb hr (v := (-1)) (fun t ht hW => ⟨⟨(-1), z, rfl, he.symm, by rw [ht]; exact hP, va_K.moved hW.alike hK, hD⟩, hS.F ht⟩) hS.2.2 d_Ct_meaning_11
noncomputable def f_Ct_body (z : TCt) : (Int32 × TCt) := (match f_Bk_addBody (TCt_bk z) with | (r_1, v_1) => (r_1, (TCt_set_bk z v_1)))
set_option maxHeartbeats 4000000 in
set_option maxRecDepth 100000 in
theorem c_Ct_body (l : Launch) (dC : Nat → ClassId) (dI : Nat → Nat → Nat) (ad : Nat → Nat) (ca : Nat → ClassId) (sz : Nat) (z : TCt) (F : (Int32 × TCt)) (he : F = f_Ct_body z) : wx_Mi l y_Ct_body ws_Ct_body ({ frames := 1, cells := 0, slots := 0, locals := 20 } : Room) (dC, dI) vwCl (t_C ca) [.ref (ad 15)] (w_C ad ca z) sz (fun v : TCt => w_C ad ca v) (fun (r : Int32) (v : TCt) => (r, v) = F) := by
  refine Met.ofW (cc := b_Ct_body) (maxL := 1) (ret := some .int) (by decide) rfl ?_
  intro p e s m args below meth c s₁ B hml hv
  obtain ⟨rfl, hsz, hP, hK, hD0, hN⟩ := hv
  have hx := B.exec
  have hb := B.bytes
  have hr := B.returns
  have hts := atoms_spec (ws := ws_Ct_body) B.pre
  have ht : ∀ w ∈ TB, w.before _ s = true := fun w h => hts w (List.mem_cons_of_mem _ h)
  have hown : s.vm.findClass R_Ct = some m.cls := findClass_of_methodNamed B.named
  have hlocks := B.notSynchronized
  subst hsz
  have hD := hD0.self (sz := s.heap.size)
  generalize hAe : va_A (w_C ad ca z) s.heap.size = A at hD ⊢
  have hA : ∀ q : Nat, s.heap.size ≤ q → A q := fun q h => by rw [← hAe]; exact Or.inr h
  have hS : va_S A s.heap s.heap [] := va_S.rf
  have hl := lv_entry ([.ref (ad 15)]) (n := 1) (Nat.le_of_ble_eq_true rfl)
  rw [lg_entry_eq]
  generalize (lg_sl ([.ref (ad 15)]) ++ List.replicate (1 - (lg_sl ([.ref (ad 15)])).length) Slot.unset).toArray = ls at hl ⊢
  have hl : lv_has ls 1 [(0, .ref (ad 15))] := hl
  unfold f_Ct_body at he
  refine lv_aload_n hx hb d_Ct_body_0 rfl (lv_at hl 0 rfl) ?_
  refine va_get (D := (dC, dI)) (ci := 3) (v := .ref (ad 8)) (C := R_Ct) (T := T_Ct) (N := 2) hx hb ht i_Ct hown hK hP 0 rfl rfl 0 (by decide) (ht _ q_169) (fun _ h9 => h9) rfl d_Ct_body_1 ?_
  refine wx_ci (wS := fun v : TBk => w_B ad ca v) (ws2 := fun v : TBk => w_C ad ca (TCt_set_bk z v)) (va_runV (As := []) (rest := []) ⟨hx, hb, hml, hown, ht⟩ (c_Bk_addBody l dC dI ad ca s.heap.size (TCt_bk z) _ rfl) (cwV 0 ht (tb_V q_200 q_201 q_202 q_45 q_203) rfl rfl rfl p_Bk_addBody ⟨show 0 + 1 ≤ 1 by omega, show 8 + (1 + 11) + 0 ≤ 20 by omega⟩) (wx_preV (wc := (w_B ad ca (TCt_bk z))) hN hK hP hD [9, 10, 11, 12, 13, 14, 15] [6, 7, 8, 9, 10, 11] rfl (by decide) rfl (ci := 0) (q0 := 0) rfl rfl) rfl rfl hl.1 rfl (lv_room (Nat.le_of_ble_eq_true rfl)) d_Ct_body_4 ⟨Nat.zero_le _, Nat.zero_le _⟩) hP hD hS hA [9, 10, 11, 12, 13, 14, 15] [0, 1, 2, 3, 4, 5, 6, 7, 8] [0, 1, 2, 3, 4, 5, 6, 7, 8, 9, 10, 11, 12, 13, 14, 15] rfl rfl (by decide) (by decide) (by decide) (fun _ => rfl) (fun r_1 v_1 H locs hw_1 hP hD hS => ?_)
  have hP : va_P (dC, dI) vwCl (w_C ad ca (TCt_set_bk z v_1)) H := hP
  have hD : va_D A (w_C ad ca (TCt_set_bk z v_1)) := hD
  rw [← hw_1] at he
  try dsimp only at he
  exact W.iret hx hb hr (v := r_1) (fun t ht hW => ⟨⟨r_1, (TCt_set_bk z v_1), rfl, he.symm, by rw [ht]; exact hP, va_K.moved hW.alike hK, hD⟩, hS.F ht⟩) hS.2.2 d_Ct_body_7
noncomputable def f_Ct_token (z : TCt) (p0 : Int32) (p1 : Int32) : (Int32 × TCt) := (if p0 = (-1) then (if (f_Ct_isToken p1) = 0 then ((-2), z) else (match f_Bk_append (TCt_bk z) 20 p1 with | (r_5, v_5) => (r_5, (TCt_set_bk z v_5)))) else (if (f_Bk_hasBody (TCt_bk z) p0) = 0 then ((-1), z) else (if (f_Ct_isToken p1) = 0 then ((-2), z) else (match f_Bk_append (TCt_bk z) p0 p1 with | (r_11, v_11) => (r_11, (TCt_set_bk z v_11))))))
set_option maxHeartbeats 4000000 in
set_option maxRecDepth 100000 in
theorem c_Ct_token (l : Launch) (dC : Nat → ClassId) (dI : Nat → Nat → Nat) (ad : Nat → Nat) (ca : Nat → ClassId) (sz : Nat) (z : TCt) (p0 : Int32) (p1 : Int32) (hpre : BkS (TCt_bk z)) (F : (Int32 × TCt)) (he : F = f_Ct_token z p0 p1) : wx_Mi l y_Ct_token ws_Ct_token ({ frames := 2, cells := 0, slots := 0, locals := 46 } : Room) (dC, dI) vwCl (t_C ca) [.ref (ad 15), .int p0, .int p1] (w_C ad ca z) sz (fun v : TCt => w_C ad ca v) (fun (r : Int32) (v : TCt) => (r, v) = F) := by
  refine Met.ofW (cc := b_Ct_token) (maxL := 3) (ret := some .int) (by decide) rfl ?_
  intro p e s m args below meth c s₁ B hml hv
  obtain ⟨rfl, hsz, hP, hK, hD0, hN⟩ := hv
  have hx := B.exec
  have hb := B.bytes
  have hr := B.returns
  have hts := atoms_spec (ws := ws_Ct_token) B.pre
  have ht : ∀ w ∈ TB, w.before _ s = true := fun w h => hts w (List.mem_cons_of_mem _ h)
  have hown : s.vm.findClass R_Ct = some m.cls := findClass_of_methodNamed B.named
  have hlocks := B.notSynchronized
  subst hsz
  have hD := hD0.self (sz := s.heap.size)
  generalize hAe : va_A (w_C ad ca z) s.heap.size = A at hD ⊢
  have hA : ∀ q : Nat, s.heap.size ≤ q → A q := fun q h => by rw [← hAe]; exact Or.inr h
  have hS : va_S A s.heap s.heap [] := va_S.rf
  have hl := lv_entry ([.ref (ad 15), .int p0, .int p1]) (n := 3) (Nat.le_of_ble_eq_true rfl)
  rw [lg_entry_eq]
  generalize (lg_sl ([.ref (ad 15), .int p0, .int p1]) ++ List.replicate (3 - (lg_sl ([.ref (ad 15), .int p0, .int p1])).length) Slot.unset).toArray = ls at hl ⊢
  have hl : lv_has ls 3 [(0, .ref (ad 15)), (1, .int p0), (2, .int p1)] := hl
  unfold f_Ct_token at he
  refine lv_iload_n hx hb d_Ct_token_0 rfl (lv_at hl 1 rfl) ?_
  refine lv_iconst (v := (-1)) hx hb d_Ct_token_1 (by decide) ?_
  refine lv_icmp_eq (tgt := 18) hx hb d_Ct_token_2 (by decide) (fun c_1 => ?_) (fun c_1 => ?_)
  · have he := he.trans (if_pos c_1)
    refine lv_iload_n hx hb d_Ct_token_18 rfl (lv_at hl 2 rfl) ?_
    refine wx_ci (wS := fun _ : Unit => w_E ad ca) (ws2 := fun _ : Unit => w_C ad ca z) (va_runS (As := [.int p1]) (rest := []) ⟨hx, hb, hml, hown, ht⟩ (c_Ct_isToken l dC dI ad ca s.heap.size p1 _ rfl) (va_cwS 1 ht (tb_S q_208 q_209 q_44 q_210) rfl rfl rfl p_Ct_isToken.2 ⟨show 1 + 1 ≤ 2 by omega, show 8 + (1 + 11) + 20 ≤ 46 by omega⟩) (wx_preS (wc := (w_E ad ca)) hN hK hP hD [] [] rfl (by decide) rfl) rfl rfl hl.1 rfl (lv_room (Nat.le_of_ble_eq_true rfl)) d_Ct_token_19 ⟨Nat.zero_le _, Nat.zero_le _⟩) hP hD hS hA [] [0, 1, 2, 3, 4, 5, 6, 7, 8, 9, 10, 11, 12, 13, 14, 15] [0, 1, 2, 3, 4, 5, 6, 7, 8, 9, 10, 11, 12, 13, 14, 15] rfl rfl (by decide) (by decide) (by decide) (fun _ => rfl) (fun r_2 _ H locs hw_2 hP hD hS => ?_)
    subst hw_2
    have hP : va_P (dC, dI) vwCl (w_C ad ca z) H := hP
    have hD : va_D A (w_C ad ca z) := hD
    refine lv_if_ne (tgt := 28) hx hb d_Ct_token_22 (by decide) (fun c_3 => ?_) (fun c_3 => ?_)
    · have he := he.trans (if_neg c_3)
      refine lv_aload_n hx hb d_Ct_token_28 rfl (lv_at hl 0 rfl) ?_
      refine va_get (D := (dC, dI)) (ci := 3) (v := .ref (ad 8)) (C := R_Ct) (T := T_Ct) (N := 2) hx hb ht i_Ct hown hK hP 0 rfl rfl 0 (by decide) (ht _ q_169) (fun _ h9 => h9) rfl d_Ct_token_29 ?_
      refine lv_iload_n hx hb d_Ct_token_32 rfl (lv_at hl 1 rfl) ?_
      refine lv_iconst (v := (-1)) hx hb d_Ct_token_33 (by decide) ?_
      refine lv_icmp_ne (tgt := 42) hx hb d_Ct_token_34 (by decide) (fun c_4 => ?_) (fun c_4 => ?_)
      · exact absurd c_1 c_4
      · refine lv_bipush (v := 20) hx hb d_Ct_token_37 (by decide) ?_
        refine lv_goto (tgt := 43) hx hb d_Ct_token_39 (by decide) ?_
        refine lv_iload_n hx hb d_Ct_token_43 rfl (lv_at hl 2 rfl) ?_
        refine wx_ci (wS := fun v : TBk => w_B ad ca v) (ws2 := fun v : TBk => w_C ad ca (TCt_set_bk z v)) (va_runV (As := [.int 20, .int p1]) (rest := []) ⟨hx, hb, hml, hown, ht⟩ (c_Bk_append l dC dI ad ca H.size (TCt_bk z) 20 p1 hpre _ rfl) (cwV 2 ht (tb_V q_214 q_215 q_216 q_45 q_217) rfl rfl rfl p_Bk_append ⟨show 1 + 1 ≤ 2 by omega, show 8 + (6 + 11) + 21 ≤ 46 by omega⟩) (wx_preV (wc := (w_B ad ca (TCt_bk z))) hN hK hP hD [9, 10, 11, 12, 13, 14, 15] [6, 7, 8, 9, 10, 11] rfl (by decide) rfl (ci := 0) (q0 := 0) rfl rfl) rfl rfl hl.1 rfl (lv_room (Nat.le_of_ble_eq_true rfl)) d_Ct_token_44 ⟨Nat.zero_le _, Nat.zero_le _⟩) hP hD hS hA [9, 10, 11, 12, 13, 14, 15] [0, 1, 2, 3, 4, 5, 6, 7, 8] [0, 1, 2, 3, 4, 5, 6, 7, 8, 9, 10, 11, 12, 13, 14, 15] rfl rfl (by decide) (by decide) (by decide) (fun _ => rfl) (fun r_5 v_5 H locs hw_5 hP hD hS => ?_)
        have hP : va_P (dC, dI) vwCl (w_C ad ca (TCt_set_bk z v_5)) H := hP
        have hD : va_D A (w_C ad ca (TCt_set_bk z v_5)) := hD
        rw [← hw_5] at he
        try dsimp only at he
        exact W.iret hx hb hr (v := r_5) (fun t ht hW => ⟨⟨r_5, (TCt_set_bk z v_5), rfl, he.symm, by rw [ht]; exact hP, va_K.moved hW.alike hK, hD⟩, hS.F ht⟩) hS.2.2 d_Ct_token_47
    · have he := he.trans (if_pos c_3)
      refine lv_bipush (v := (-2)) hx hb d_Ct_token_25 (by decide) ?_
      exact W.iret hx hb hr (v := (-2)) (fun t ht hW => ⟨⟨(-2), z, rfl, he.symm, by rw [ht]; exact hP, va_K.moved hW.alike hK, hD⟩, hS.F ht⟩) hS.2.2 d_Ct_token_27
  · have he := he.trans (if_neg c_1)
    refine lv_aload_n hx hb d_Ct_token_5 rfl (lv_at hl 0 rfl) ?_
    refine va_get (D := (dC, dI)) (ci := 3) (v := .ref (ad 8)) (C := R_Ct) (T := T_Ct) (N := 2) hx hb ht i_Ct hown hK hP 0 rfl rfl 0 (by decide) (ht _ q_169) (fun _ h9 => h9) rfl d_Ct_token_6 ?_
    refine lv_iload_n hx hb d_Ct_token_9 rfl (lv_at hl 1 rfl) ?_
    refine wx_ci (wS := fun _ : Unit => w_B ad ca (TCt_bk z)) (ws2 := fun _ : Unit => w_C ad ca z) (va_runV (As := [.int p0]) (rest := []) ⟨hx, hb, hml, hown, ht⟩ (c_Bk_hasBody l dC dI ad ca s.heap.size (TCt_bk z) p0 _ rfl) (cwV 1 ht (tb_V q_180 q_181 q_182 q_45 q_183) rfl rfl rfl p_Bk_hasBody ⟨show 0 + 1 ≤ 2 by omega, show 8 + (2 + 11) + 0 ≤ 46 by omega⟩) (wx_preV (wc := (w_B ad ca (TCt_bk z))) hN hK hP hD [9, 10, 11, 12, 13, 14, 15] [6, 7, 8, 9, 10, 11] rfl (by decide) rfl (ci := 0) (q0 := 0) rfl rfl) rfl rfl hl.1 rfl (lv_room (Nat.le_of_ble_eq_true rfl)) d_Ct_token_10 ⟨Nat.zero_le _, Nat.zero_le _⟩) hP hD hS hA [9, 10, 11, 12, 13, 14, 15] [0, 1, 2, 3, 4, 5, 6, 7, 8] [0, 1, 2, 3, 4, 5, 6, 7, 8, 9, 10, 11, 12, 13, 14, 15] rfl rfl (by decide) (by decide) (by decide) (fun _ => rfl) (fun r_6 _ H locs hw_6 hP hD hS => ?_)
    subst hw_6
    have hP : va_P (dC, dI) vwCl (w_C ad ca z) H := hP
    have hD : va_D A (w_C ad ca z) := hD
    refine lv_if_ne (tgt := 18) hx hb d_Ct_token_13 (by decide) (fun c_7 => ?_) (fun c_7 => ?_)
    · have he := he.trans (if_neg c_7)
      refine lv_iload_n hx hb d_Ct_token_18 rfl (lv_at hl 2 rfl) ?_
      refine wx_ci (wS := fun _ : Unit => w_E ad ca) (ws2 := fun _ : Unit => w_C ad ca z) (va_runS (As := [.int p1]) (rest := []) ⟨hx, hb, hml, hown, ht⟩ (c_Ct_isToken l dC dI ad ca H.size p1 _ rfl) (va_cwS 1 ht (tb_S q_208 q_209 q_44 q_210) rfl rfl rfl p_Ct_isToken.2 ⟨show 1 + 1 ≤ 2 by omega, show 8 + (1 + 11) + 20 ≤ 46 by omega⟩) (wx_preS (wc := (w_E ad ca)) hN hK hP hD [] [] rfl (by decide) rfl) rfl rfl hl.1 rfl (lv_room (Nat.le_of_ble_eq_true rfl)) d_Ct_token_19 ⟨Nat.zero_le _, Nat.zero_le _⟩) hP hD hS hA [] [0, 1, 2, 3, 4, 5, 6, 7, 8, 9, 10, 11, 12, 13, 14, 15] [0, 1, 2, 3, 4, 5, 6, 7, 8, 9, 10, 11, 12, 13, 14, 15] rfl rfl (by decide) (by decide) (by decide) (fun _ => rfl) (fun r_8 _ H locs hw_8 hP hD hS => ?_)
      subst hw_8
      have hP : va_P (dC, dI) vwCl (w_C ad ca z) H := hP
      have hD : va_D A (w_C ad ca z) := hD
      refine lv_if_ne (tgt := 28) hx hb d_Ct_token_22 (by decide) (fun c_9 => ?_) (fun c_9 => ?_)
      · have he := he.trans (if_neg c_9)
        refine lv_aload_n hx hb d_Ct_token_28 rfl (lv_at hl 0 rfl) ?_
        refine va_get (D := (dC, dI)) (ci := 3) (v := .ref (ad 8)) (C := R_Ct) (T := T_Ct) (N := 2) hx hb ht i_Ct hown hK hP 0 rfl rfl 0 (by decide) (ht _ q_169) (fun _ h9 => h9) rfl d_Ct_token_29 ?_
        refine lv_iload_n hx hb d_Ct_token_32 rfl (lv_at hl 1 rfl) ?_
        refine lv_iconst (v := (-1)) hx hb d_Ct_token_33 (by decide) ?_
        refine lv_icmp_ne (tgt := 42) hx hb d_Ct_token_34 (by decide) (fun c_10 => ?_) (fun c_10 => ?_)
        · refine lv_iload_n hx hb d_Ct_token_42 rfl (lv_at hl 1 rfl) ?_
          refine lv_iload_n hx hb d_Ct_token_43 rfl (lv_at hl 2 rfl) ?_
          refine wx_ci (wS := fun v : TBk => w_B ad ca v) (ws2 := fun v : TBk => w_C ad ca (TCt_set_bk z v)) (va_runV (As := [.int p0, .int p1]) (rest := []) ⟨hx, hb, hml, hown, ht⟩ (c_Bk_append l dC dI ad ca H.size (TCt_bk z) p0 p1 hpre _ rfl) (cwV 2 ht (tb_V q_214 q_215 q_216 q_45 q_217) rfl rfl rfl p_Bk_append ⟨show 1 + 1 ≤ 2 by omega, show 8 + (6 + 11) + 21 ≤ 46 by omega⟩) (wx_preV (wc := (w_B ad ca (TCt_bk z))) hN hK hP hD [9, 10, 11, 12, 13, 14, 15] [6, 7, 8, 9, 10, 11] rfl (by decide) rfl (ci := 0) (q0 := 0) rfl rfl) rfl rfl hl.1 rfl (lv_room (Nat.le_of_ble_eq_true rfl)) d_Ct_token_44 ⟨Nat.zero_le _, Nat.zero_le _⟩) hP hD hS hA [9, 10, 11, 12, 13, 14, 15] [0, 1, 2, 3, 4, 5, 6, 7, 8] [0, 1, 2, 3, 4, 5, 6, 7, 8, 9, 10, 11, 12, 13, 14, 15] rfl rfl (by decide) (by decide) (by decide) (fun _ => rfl) (fun r_11 v_11 H locs hw_11 hP hD hS => ?_)
          have hP : va_P (dC, dI) vwCl (w_C ad ca (TCt_set_bk z v_11)) H := hP
          have hD : va_D A (w_C ad ca (TCt_set_bk z v_11)) := hD
          rw [← hw_11] at he
          try dsimp only at he
          exact W.iret hx hb hr (v := r_11) (fun t ht hW => ⟨⟨r_11, (TCt_set_bk z v_11), rfl, he.symm, by rw [ht]; exact hP, va_K.moved hW.alike hK, hD⟩, hS.F ht⟩) hS.2.2 d_Ct_token_47
        · exact absurd c_10 c_1
      · have he := he.trans (if_pos c_9)
        refine lv_bipush (v := (-2)) hx hb d_Ct_token_25 (by decide) ?_
        exact W.iret hx hb hr (v := (-2)) (fun t ht hW => ⟨⟨(-2), z, rfl, he.symm, by rw [ht]; exact hP, va_K.moved hW.alike hK, hD⟩, hS.F ht⟩) hS.2.2 d_Ct_token_27
    · have he := he.trans (if_pos c_7)
      refine lv_iconst (v := (-1)) hx hb d_Ct_token_16 (by decide) ?_
      exact W.iret hx hb hr (v := (-1)) (fun t ht hW => ⟨⟨(-1), z, rfl, he.symm, by rw [ht]; exact hP, va_K.moved hW.alike hK, hD⟩, hS.F ht⟩) hS.2.2 d_Ct_token_17
noncomputable def f_Ct_clear (z : TCt) : (Int32 × TCt) := (match f_Bk_emptyInput (TCt_bk z) with | (r_1, v_1) => (r_1, (TCt_set_bk z v_1)))
set_option maxHeartbeats 4000000 in
set_option maxRecDepth 100000 in
theorem c_Ct_clear (l : Launch) (dC : Nat → ClassId) (dI : Nat → Nat → Nat) (ad : Nat → Nat) (ca : Nat → ClassId) (sz : Nat) (z : TCt) (F : (Int32 × TCt)) (he : F = f_Ct_clear z) : wx_Mi l y_Ct_clear ws_Ct_clear ({ frames := 1, cells := 0, slots := 0, locals := 21 } : Room) (dC, dI) vwCl (t_C ca) [.ref (ad 15)] (w_C ad ca z) sz (fun v : TCt => w_C ad ca v) (fun (r : Int32) (v : TCt) => (r, v) = F) := by
  refine Met.ofW (cc := b_Ct_clear) (maxL := 1) (ret := some .int) (by decide) rfl ?_
  intro p e s m args below meth c s₁ B hml hv
  obtain ⟨rfl, hsz, hP, hK, hD0, hN⟩ := hv
  have hx := B.exec
  have hb := B.bytes
  have hr := B.returns
  have hts := atoms_spec (ws := ws_Ct_clear) B.pre
  have ht : ∀ w ∈ TB, w.before _ s = true := fun w h => hts w (List.mem_cons_of_mem _ h)
  have hown : s.vm.findClass R_Ct = some m.cls := findClass_of_methodNamed B.named
  have hlocks := B.notSynchronized
  subst hsz
  have hD := hD0.self (sz := s.heap.size)
  generalize hAe : va_A (w_C ad ca z) s.heap.size = A at hD ⊢
  have hA : ∀ q : Nat, s.heap.size ≤ q → A q := fun q h => by rw [← hAe]; exact Or.inr h
  have hS : va_S A s.heap s.heap [] := va_S.rf
  have hl := lv_entry ([.ref (ad 15)]) (n := 1) (Nat.le_of_ble_eq_true rfl)
  rw [lg_entry_eq]
  generalize (lg_sl ([.ref (ad 15)]) ++ List.replicate (1 - (lg_sl ([.ref (ad 15)])).length) Slot.unset).toArray = ls at hl ⊢
  have hl : lv_has ls 1 [(0, .ref (ad 15))] := hl
  unfold f_Ct_clear at he
  refine lv_aload_n hx hb d_Ct_clear_0 rfl (lv_at hl 0 rfl) ?_
  refine va_get (D := (dC, dI)) (ci := 3) (v := .ref (ad 8)) (C := R_Ct) (T := T_Ct) (N := 2) hx hb ht i_Ct hown hK hP 0 rfl rfl 0 (by decide) (ht _ q_169) (fun _ h9 => h9) rfl d_Ct_clear_1 ?_
  refine wx_ci (wS := fun v : TBk => w_B ad ca v) (ws2 := fun v : TBk => w_C ad ca (TCt_set_bk z v)) (va_runV (As := []) (rest := []) ⟨hx, hb, hml, hown, ht⟩ (c_Bk_emptyInput l dC dI ad ca s.heap.size (TCt_bk z) _ rfl) (cwV 0 ht (tb_V q_226 q_227 q_228 q_45 q_229) rfl rfl rfl p_Bk_emptyInput ⟨show 0 + 1 ≤ 1 by omega, show 8 + (2 + 11) + 0 ≤ 21 by omega⟩) (wx_preV (wc := (w_B ad ca (TCt_bk z))) hN hK hP hD [9, 10, 11, 12, 13, 14, 15] [6, 7, 8, 9, 10, 11] rfl (by decide) rfl (ci := 0) (q0 := 0) rfl rfl) rfl rfl hl.1 rfl (lv_room (Nat.le_of_ble_eq_true rfl)) d_Ct_clear_4 ⟨Nat.zero_le _, Nat.zero_le _⟩) hP hD hS hA [9, 10, 11, 12, 13, 14, 15] [0, 1, 2, 3, 4, 5, 6, 7, 8] [0, 1, 2, 3, 4, 5, 6, 7, 8, 9, 10, 11, 12, 13, 14, 15] rfl rfl (by decide) (by decide) (by decide) (fun _ => rfl) (fun r_1 v_1 H locs hw_1 hP hD hS => ?_)
  have hP : va_P (dC, dI) vwCl (w_C ad ca (TCt_set_bk z v_1)) H := hP
  have hD : va_D A (w_C ad ca (TCt_set_bk z v_1)) := hD
  rw [← hw_1] at he
  try dsimp only at he
  exact W.iret hx hb hr (v := r_1) (fun t ht hW => ⟨⟨r_1, (TCt_set_bk z v_1), rfl, he.symm, by rw [ht]; exact hP, va_K.moved hW.alike hK, hD⟩, hS.F ht⟩) hS.2.2 d_Ct_clear_7
noncomputable def f_Ct_mode (z : TCt) (p0 : Int32) (p1 : Int32) : (Int32 × TCt) := (match f_Ct_turn 4 (TBk_modes (TCt_bk z)) p0 p1 with | (r_1, v_1) => (r_1, (TCt_set_bk z (TBk_set_modes (TCt_bk z) v_1))))
set_option maxHeartbeats 4000000 in
set_option maxRecDepth 100000 in
theorem c_Ct_mode (l : Launch) (dC : Nat → ClassId) (dI : Nat → Nat → Nat) (ad : Nat → Nat) (ca : Nat → ClassId) (sz : Nat) (z : TCt) (p0 : Int32) (p1 : Int32) (F : (Int32 × TCt)) (he : F = f_Ct_mode z p0 p1) : wx_Mi l y_Ct_mode ws_Ct_mode ({ frames := 1, cells := 0, slots := 0, locals := 22 } : Room) (dC, dI) vwCl (t_C ca) [.ref (ad 15), .int p0, .int p1] (w_C ad ca z) sz (fun v : TCt => w_C ad ca v) (fun (r : Int32) (v : TCt) => (r, v) = F) := by
  refine Met.ofW (cc := b_Ct_mode) (maxL := 3) (ret := some .int) (by decide) rfl ?_
  intro p e s m args below meth c s₁ B hml hv
  obtain ⟨rfl, hsz, hP, hK, hD0, hN⟩ := hv
  have hx := B.exec
  have hb := B.bytes
  have hr := B.returns
  have hts := atoms_spec (ws := ws_Ct_mode) B.pre
  have ht : ∀ w ∈ TB, w.before _ s = true := fun w h => hts w (List.mem_cons_of_mem _ h)
  have hown : s.vm.findClass R_Ct = some m.cls := findClass_of_methodNamed B.named
  have hlocks := B.notSynchronized
  subst hsz
  have hD := hD0.self (sz := s.heap.size)
  generalize hAe : va_A (w_C ad ca z) s.heap.size = A at hD ⊢
  have hA : ∀ q : Nat, s.heap.size ≤ q → A q := fun q h => by rw [← hAe]; exact Or.inr h
  have hS : va_S A s.heap s.heap [] := va_S.rf
  have hl := lv_entry ([.ref (ad 15), .int p0, .int p1]) (n := 3) (Nat.le_of_ble_eq_true rfl)
  rw [lg_entry_eq]
  generalize (lg_sl ([.ref (ad 15), .int p0, .int p1]) ++ List.replicate (3 - (lg_sl ([.ref (ad 15), .int p0, .int p1])).length) Slot.unset).toArray = ls at hl ⊢
  have hl : lv_has ls 3 [(0, .ref (ad 15)), (1, .int p0), (2, .int p1)] := hl
  unfold f_Ct_mode at he
  refine lv_aload_n hx hb d_Ct_mode_0 rfl (lv_at hl 0 rfl) ?_
  refine va_get (D := (dC, dI)) (ci := 3) (v := .ref (ad 8)) (C := R_Ct) (T := T_Ct) (N := 2) hx hb ht i_Ct hown hK hP 0 rfl rfl 0 (by decide) (ht _ q_169) (fun _ h9 => h9) rfl d_Ct_mode_1 ?_
  refine va_get (D := (dC, dI)) (ci := 0) (v := .ref (ad 13)) (C := R_Bk) (T := T_Bk) (N := 7) hx hb ht i_Bk hown hK hP 9 rfl rfl 4 (by decide) (ht _ q_70) (fun _ h9 => h9) rfl d_Ct_mode_4 ?_
  refine lv_iload_n hx hb d_Ct_mode_7 rfl (lv_at hl 1 rfl) ?_
  refine lv_iload_n hx hb d_Ct_mode_8 rfl (lv_at hl 2 rfl) ?_
  refine wx_ci (wS := fun v : (Nat → Int32) => w_Z ad ca (ad 13) (ca 13) 4 v) (ws2 := fun v : (Nat → Int32) => w_C ad ca (TCt_set_bk z (TBk_set_modes (TCt_bk z) v))) (va_runS (As := [.ref (ad 13), .int p0, .int p1]) (rest := []) ⟨hx, hb, hml, hown, ht⟩ (c_Ct_turn l dC dI ad ca (ad 13) (ca 13) 4 s.heap.size (TBk_modes (TCt_bk z)) p0 p1 (by decide) _ rfl) (va_cwS 3 ht (tb_S q_234 q_235 q_44 q_236) rfl rfl rfl p_Ct_turn.2 ⟨show 0 + 1 ≤ 1 by omega, show 8 + (3 + 11) + 0 ≤ 22 by omega⟩) (wx_preS (wc := (w_Z ad ca (ad 13) (ca 13) 4 (TBk_modes (TCt_bk z)))) hN hK hP hD [14] [10] rfl (by decide) rfl) rfl rfl hl.1 rfl (lv_room (Nat.le_of_ble_eq_true rfl)) d_Ct_mode_9 ⟨Nat.zero_le _, Nat.zero_le _⟩) hP hD hS hA [14] [0, 1, 2, 3, 4, 5, 6, 7, 8, 9, 10, 11, 12, 13, 15] [0, 1, 2, 3, 4, 5, 6, 7, 8, 9, 10, 11, 12, 13, 15, 14] rfl rfl (by decide) (by decide) (by decide) (fun _ => rfl) (fun r_1 v_1 H locs hw_1 hP hD hS => ?_)
  have hP : va_P (dC, dI) vwCl (w_C ad ca (TCt_set_bk z (TBk_set_modes (TCt_bk z) v_1))) H := hP
  have hD : va_D A (w_C ad ca (TCt_set_bk z (TBk_set_modes (TCt_bk z) v_1))) := hD
  rw [← hw_1] at he
  try dsimp only at he
  exact W.iret hx hb hr (v := r_1) (fun t ht hW => ⟨⟨r_1, (TCt_set_bk z (TBk_set_modes (TCt_bk z) v_1)), rfl, he.symm, by rw [ht]; exact hP, va_K.moved hW.alike hK, hD⟩, hS.F ht⟩) hS.2.2 d_Ct_mode_12
noncomputable def f_Ct_end (z : TCt) (p0 : Int32) (p1 : Int32) : (Int32 × TCt) := (match f_Ct_turn 8 (TBk_files (TCt_bk z)) p0 p1 with | (r_1, v_1) => (r_1, (TCt_set_bk z (TBk_set_files (TCt_bk z) v_1))))
set_option maxHeartbeats 4000000 in
set_option maxRecDepth 100000 in
theorem c_Ct_end (l : Launch) (dC : Nat → ClassId) (dI : Nat → Nat → Nat) (ad : Nat → Nat) (ca : Nat → ClassId) (sz : Nat) (z : TCt) (p0 : Int32) (p1 : Int32) (F : (Int32 × TCt)) (he : F = f_Ct_end z p0 p1) : wx_Mi l y_Ct_end ws_Ct_end ({ frames := 1, cells := 0, slots := 0, locals := 22 } : Room) (dC, dI) vwCl (t_C ca) [.ref (ad 15), .int p0, .int p1] (w_C ad ca z) sz (fun v : TCt => w_C ad ca v) (fun (r : Int32) (v : TCt) => (r, v) = F) := by
  refine Met.ofW (cc := b_Ct_end) (maxL := 3) (ret := some .int) (by decide) rfl ?_
  intro p e s m args below meth c s₁ B hml hv
  obtain ⟨rfl, hsz, hP, hK, hD0, hN⟩ := hv
  have hx := B.exec
  have hb := B.bytes
  have hr := B.returns
  have hts := atoms_spec (ws := ws_Ct_end) B.pre
  have ht : ∀ w ∈ TB, w.before _ s = true := fun w h => hts w (List.mem_cons_of_mem _ h)
  have hown : s.vm.findClass R_Ct = some m.cls := findClass_of_methodNamed B.named
  have hlocks := B.notSynchronized
  subst hsz
  have hD := hD0.self (sz := s.heap.size)
  generalize hAe : va_A (w_C ad ca z) s.heap.size = A at hD ⊢
  have hA : ∀ q : Nat, s.heap.size ≤ q → A q := fun q h => by rw [← hAe]; exact Or.inr h
  have hS : va_S A s.heap s.heap [] := va_S.rf
  have hl := lv_entry ([.ref (ad 15), .int p0, .int p1]) (n := 3) (Nat.le_of_ble_eq_true rfl)
  rw [lg_entry_eq]
  generalize (lg_sl ([.ref (ad 15), .int p0, .int p1]) ++ List.replicate (3 - (lg_sl ([.ref (ad 15), .int p0, .int p1])).length) Slot.unset).toArray = ls at hl ⊢
  have hl : lv_has ls 3 [(0, .ref (ad 15)), (1, .int p0), (2, .int p1)] := hl
  unfold f_Ct_end at he
  refine lv_aload_n hx hb d_Ct_end_0 rfl (lv_at hl 0 rfl) ?_
  refine va_get (D := (dC, dI)) (ci := 3) (v := .ref (ad 8)) (C := R_Ct) (T := T_Ct) (N := 2) hx hb ht i_Ct hown hK hP 0 rfl rfl 0 (by decide) (ht _ q_169) (fun _ h9 => h9) rfl d_Ct_end_1 ?_
  refine va_get (D := (dC, dI)) (ci := 0) (v := .ref (ad 14)) (C := R_Bk) (T := T_Bk) (N := 7) hx hb ht i_Bk hown hK hP 9 rfl rfl 5 (by decide) (ht _ q_73) (fun _ h9 => h9) rfl d_Ct_end_4 ?_
  refine lv_iload_n hx hb d_Ct_end_7 rfl (lv_at hl 1 rfl) ?_
  refine lv_iload_n hx hb d_Ct_end_8 rfl (lv_at hl 2 rfl) ?_
  refine wx_ci (wS := fun v : (Nat → Int32) => w_Z ad ca (ad 14) (ca 14) 8 v) (ws2 := fun v : (Nat → Int32) => w_C ad ca (TCt_set_bk z (TBk_set_files (TCt_bk z) v))) (va_runS (As := [.ref (ad 14), .int p0, .int p1]) (rest := []) ⟨hx, hb, hml, hown, ht⟩ (c_Ct_turn l dC dI ad ca (ad 14) (ca 14) 8 s.heap.size (TBk_files (TCt_bk z)) p0 p1 (by decide) _ rfl) (va_cwS 3 ht (tb_S q_234 q_235 q_44 q_236) rfl rfl rfl p_Ct_turn.2 ⟨show 0 + 1 ≤ 1 by omega, show 8 + (3 + 11) + 0 ≤ 22 by omega⟩) (wx_preS (wc := (w_Z ad ca (ad 14) (ca 14) 8 (TBk_files (TCt_bk z)))) hN hK hP hD [15] [11] rfl (by decide) rfl) rfl rfl hl.1 rfl (lv_room (Nat.le_of_ble_eq_true rfl)) d_Ct_end_9 ⟨Nat.zero_le _, Nat.zero_le _⟩) hP hD hS hA [15] [0, 1, 2, 3, 4, 5, 6, 7, 8, 9, 10, 11, 12, 13, 14] [0, 1, 2, 3, 4, 5, 6, 7, 8, 9, 10, 11, 12, 13, 14, 15] rfl rfl (by decide) (by decide) (by decide) (fun _ => rfl) (fun r_1 v_1 H locs hw_1 hP hD hS => ?_)
  have hP : va_P (dC, dI) vwCl (w_C ad ca (TCt_set_bk z (TBk_set_files (TCt_bk z) v_1))) H := hP
  have hD : va_D A (w_C ad ca (TCt_set_bk z (TBk_set_files (TCt_bk z) v_1))) := hD
  rw [← hw_1] at he
  try dsimp only at he
  exact W.iret hx hb hr (v := r_1) (fun t ht hW => ⟨⟨r_1, (TCt_set_bk z (TBk_set_files (TCt_bk z) v_1)), rfl, he.symm, by rw [ht]; exact hP, va_K.moved hW.alike hK, hD⟩, hS.F ht⟩) hS.2.2 d_Ct_end_12
noncomputable def f_Ct_at (z : TCt) (p0 : Int32) : Int32 := (f_Rn_putOutAt (TCt_bk z) (TCt_rn z) p0)
set_option maxHeartbeats 4000000 in
set_option maxRecDepth 100000 in
theorem c_Ct_at (l : Launch) (dC : Nat → ClassId) (dI : Nat → Nat → Nat) (ad : Nat → Nat) (ca : Nat → ClassId) (sz : Nat) (z : TCt) (p0 : Int32) (F : Int32) (he : F = f_Ct_at z p0) : wx_Mi l y_Ct_at ws_Ct_at ({ frames := 1, cells := 0, slots := 0, locals := 21 } : Room) (dC, dI) vwCl (t_C ca) [.ref (ad 15), .int p0] (w_C ad ca z) sz (fun _ : Unit => w_C ad ca z) (fun (r : Int32) (_ : Unit) => r = F) := by
  refine Met.ofW (cc := b_Ct_at) (maxL := 2) (ret := some .int) (by decide) rfl ?_
  intro p e s m args below meth c s₁ B hml hv
  obtain ⟨rfl, hsz, hP, hK, hD0, hN⟩ := hv
  have hx := B.exec
  have hb := B.bytes
  have hr := B.returns
  have hts := atoms_spec (ws := ws_Ct_at) B.pre
  have ht : ∀ w ∈ TB, w.before _ s = true := fun w h => hts w (List.mem_cons_of_mem _ h)
  have hown : s.vm.findClass R_Ct = some m.cls := findClass_of_methodNamed B.named
  have hlocks := B.notSynchronized
  subst hsz
  have hD := hD0.self (sz := s.heap.size)
  generalize hAe : va_A (w_C ad ca z) s.heap.size = A at hD ⊢
  have hA : ∀ q : Nat, s.heap.size ≤ q → A q := fun q h => by rw [← hAe]; exact Or.inr h
  have hS : va_S A s.heap s.heap [] := va_S.rf
  have hl := lv_entry ([.ref (ad 15), .int p0]) (n := 2) (Nat.le_of_ble_eq_true rfl)
  rw [lg_entry_eq]
  generalize (lg_sl ([.ref (ad 15), .int p0]) ++ List.replicate (2 - (lg_sl ([.ref (ad 15), .int p0])).length) Slot.unset).toArray = ls at hl ⊢
  have hl : lv_has ls 2 [(0, .ref (ad 15)), (1, .int p0)] := hl
  unfold f_Ct_at at he
  refine lv_aload_n hx hb d_Ct_at_0 rfl (lv_at hl 0 rfl) ?_
  refine va_get (D := (dC, dI)) (ci := 3) (v := .ref (ad 0)) (C := R_Ct) (T := T_Ct) (N := 2) hx hb ht i_Ct hown hK hP 0 rfl rfl 1 (by decide) (ht _ q_170) (fun _ h9 => h9) rfl d_Ct_at_1 ?_
  refine lv_iload_n hx hb d_Ct_at_4 rfl (lv_at hl 1 rfl) ?_
  refine wx_ci (wS := fun _ : Unit => w_R ad ca (TCt_bk z) (TCt_rn z)) (ws2 := fun _ : Unit => w_C ad ca z) (va_runV (As := [.int p0]) (rest := []) ⟨hx, hb, hml, hown, ht⟩ (c_Rn_putOutAt l dC dI ad ca s.heap.size (TCt_bk z) (TCt_rn z) p0 _ rfl) (cwV 1 ht (tb_V q_411 q_412 q_413 q_46 q_414) rfl rfl rfl p_Rn_putOutAt ⟨show 0 + 1 ≤ 1 by omega, show 8 + (2 + 11) + 0 ≤ 21 by omega⟩) (wx_preV (wc := (w_R ad ca (TCt_bk z) (TCt_rn z))) hN hK hP hD [1, 2, 3, 4, 5, 6, 7, 8, 9, 10, 11, 12, 13, 14, 15] [0, 1, 2, 3, 4, 5, 6, 7, 8, 9, 10, 11] rfl (by decide) rfl (ci := 2) (q0 := 0) rfl rfl) rfl rfl hl.1 rfl (lv_room (Nat.le_of_ble_eq_true rfl)) d_Ct_at_5 ⟨Nat.zero_le _, Nat.zero_le _⟩) hP hD hS hA [1, 2, 3, 4, 5, 6, 7, 8, 9, 10, 11, 12, 13, 14, 15] [0] [0, 1, 2, 3, 4, 5, 6, 7, 8, 9, 10, 11, 12, 13, 14, 15] rfl rfl (by decide) (by decide) (by decide) (fun _ => rfl) (fun r_1 _ H locs hw_1 hP hD hS => ?_)
  subst hw_1
  have hP : va_P (dC, dI) vwCl (w_C ad ca z) H := hP
  have hD : va_D A (w_C ad ca z) := hD
  exact W.iret hx hb hr (v := (f_Rn_putOutAt (TCt_bk z) (TCt_rn z) p0)) (fun t ht hW => ⟨⟨(f_Rn_putOutAt (TCt_bk z) (TCt_rn z) p0), (), rfl, he.symm, by rw [ht]; exact hP, va_K.moved hW.alike hK, hD⟩, hS.F ht⟩) hS.2.2 d_Ct_at_8
noncomputable def f_Ct_told (z : TCt) (p0 : Int32) : Int32 := (f_Rn_tell (TCt_bk z) (TCt_rn z) p0)
set_option maxHeartbeats 4000000 in
set_option maxRecDepth 100000 in
theorem c_Ct_told (l : Launch) (dC : Nat → ClassId) (dI : Nat → Nat → Nat) (ad : Nat → Nat) (ca : Nat → ClassId) (sz : Nat) (z : TCt) (p0 : Int32) (F : Int32) (he : F = f_Ct_told z p0) : wx_Mi l y_Ct_told ws_Ct_told ({ frames := 2, cells := 0, slots := 0, locals := 41 } : Room) (dC, dI) vwCl (t_C ca) [.ref (ad 15), .int p0] (w_C ad ca z) sz (fun _ : Unit => w_C ad ca z) (fun (r : Int32) (_ : Unit) => r = F) := by
  refine Met.ofW (cc := b_Ct_told) (maxL := 2) (ret := some .int) (by decide) rfl ?_
  intro p e s m args below meth c s₁ B hml hv
  obtain ⟨rfl, hsz, hP, hK, hD0, hN⟩ := hv
  have hx := B.exec
  have hb := B.bytes
  have hr := B.returns
  have hts := atoms_spec (ws := ws_Ct_told) B.pre
  have ht : ∀ w ∈ TB, w.before _ s = true := fun w h => hts w (List.mem_cons_of_mem _ h)
  have hown : s.vm.findClass R_Ct = some m.cls := findClass_of_methodNamed B.named
  have hlocks := B.notSynchronized
  subst hsz
  have hD := hD0.self (sz := s.heap.size)
  generalize hAe : va_A (w_C ad ca z) s.heap.size = A at hD ⊢
  have hA : ∀ q : Nat, s.heap.size ≤ q → A q := fun q h => by rw [← hAe]; exact Or.inr h
  have hS : va_S A s.heap s.heap [] := va_S.rf
  have hl := lv_entry ([.ref (ad 15), .int p0]) (n := 2) (Nat.le_of_ble_eq_true rfl)
  rw [lg_entry_eq]
  generalize (lg_sl ([.ref (ad 15), .int p0]) ++ List.replicate (2 - (lg_sl ([.ref (ad 15), .int p0])).length) Slot.unset).toArray = ls at hl ⊢
  have hl : lv_has ls 2 [(0, .ref (ad 15)), (1, .int p0)] := hl
  unfold f_Ct_told at he
  refine lv_aload_n hx hb d_Ct_told_0 rfl (lv_at hl 0 rfl) ?_
  refine va_get (D := (dC, dI)) (ci := 3) (v := .ref (ad 0)) (C := R_Ct) (T := T_Ct) (N := 2) hx hb ht i_Ct hown hK hP 0 rfl rfl 1 (by decide) (ht _ q_170) (fun _ h9 => h9) rfl d_Ct_told_1 ?_
  refine lv_iload_n hx hb d_Ct_told_4 rfl (lv_at hl 1 rfl) ?_
  refine wx_ci (wS := fun _ : Unit => w_R ad ca (TCt_bk z) (TCt_rn z)) (ws2 := fun _ : Unit => w_C ad ca z) (va_runV (As := [.int p0]) (rest := []) ⟨hx, hb, hml, hown, ht⟩ (c_Rn_tell l dC dI ad ca s.heap.size (TCt_bk z) (TCt_rn z) p0 _ rfl) (cwV 1 ht (tb_V q_419 q_420 q_421 q_46 q_422) rfl rfl rfl p_Rn_tell ⟨show 1 + 1 ≤ 2 by omega, show 8 + (2 + 11) + 20 ≤ 41 by omega⟩) (wx_preV (wc := (w_R ad ca (TCt_bk z) (TCt_rn z))) hN hK hP hD [1, 2, 3, 4, 5, 6, 7, 8, 9, 10, 11, 12, 13, 14, 15] [0, 1, 2, 3, 4, 5, 6, 7, 8, 9, 10, 11] rfl (by decide) rfl (ci := 2) (q0 := 0) rfl rfl) rfl rfl hl.1 rfl (lv_room (Nat.le_of_ble_eq_true rfl)) d_Ct_told_5 ⟨Nat.zero_le _, Nat.zero_le _⟩) hP hD hS hA [1, 2, 3, 4, 5, 6, 7, 8, 9, 10, 11, 12, 13, 14, 15] [0] [0, 1, 2, 3, 4, 5, 6, 7, 8, 9, 10, 11, 12, 13, 14, 15] rfl rfl (by decide) (by decide) (by decide) (fun _ => rfl) (fun r_1 _ H locs hw_1 hP hD hS => ?_)
  subst hw_1
  have hP : va_P (dC, dI) vwCl (w_C ad ca z) H := hP
  have hD : va_D A (w_C ad ca z) := hD
  exact W.iret hx hb hr (v := (f_Rn_tell (TCt_bk z) (TCt_rn z) p0)) (fun t ht hW => ⟨⟨(f_Rn_tell (TCt_bk z) (TCt_rn z) p0), (), rfl, he.symm, by rw [ht]; exact hP, va_K.moved hW.alike hK, hD⟩, hS.F ht⟩) hS.2.2 d_Ct_told_8
noncomputable def f_Ct_decided (z : TCt) (p0 : Int32) : Int32 := (f_Rn_decisionOf (TCt_bk z) (TCt_rn z) p0)
set_option maxHeartbeats 4000000 in
set_option maxRecDepth 100000 in
theorem c_Ct_decided (l : Launch) (dC : Nat → ClassId) (dI : Nat → Nat → Nat) (ad : Nat → Nat) (ca : Nat → ClassId) (sz : Nat) (z : TCt) (p0 : Int32) (F : Int32) (he : F = f_Ct_decided z p0) : wx_Mi l y_Ct_decided ws_Ct_decided ({ frames := 1, cells := 0, slots := 0, locals := 21 } : Room) (dC, dI) vwCl (t_C ca) [.ref (ad 15), .int p0] (w_C ad ca z) sz (fun _ : Unit => w_C ad ca z) (fun (r : Int32) (_ : Unit) => r = F) := by
  refine Met.ofW (cc := b_Ct_decided) (maxL := 2) (ret := some .int) (by decide) rfl ?_
  intro p e s m args below meth c s₁ B hml hv
  obtain ⟨rfl, hsz, hP, hK, hD0, hN⟩ := hv
  have hx := B.exec
  have hb := B.bytes
  have hr := B.returns
  have hts := atoms_spec (ws := ws_Ct_decided) B.pre
  have ht : ∀ w ∈ TB, w.before _ s = true := fun w h => hts w (List.mem_cons_of_mem _ h)
  have hown : s.vm.findClass R_Ct = some m.cls := findClass_of_methodNamed B.named
  have hlocks := B.notSynchronized
  subst hsz
  have hD := hD0.self (sz := s.heap.size)
  generalize hAe : va_A (w_C ad ca z) s.heap.size = A at hD ⊢
  have hA : ∀ q : Nat, s.heap.size ≤ q → A q := fun q h => by rw [← hAe]; exact Or.inr h
  have hS : va_S A s.heap s.heap [] := va_S.rf
  have hl := lv_entry ([.ref (ad 15), .int p0]) (n := 2) (Nat.le_of_ble_eq_true rfl)
  rw [lg_entry_eq]
  generalize (lg_sl ([.ref (ad 15), .int p0]) ++ List.replicate (2 - (lg_sl ([.ref (ad 15), .int p0])).length) Slot.unset).toArray = ls at hl ⊢
  have hl : lv_has ls 2 [(0, .ref (ad 15)), (1, .int p0)] := hl
  unfold f_Ct_decided at he
  refine lv_aload_n hx hb d_Ct_decided_0 rfl (lv_at hl 0 rfl) ?_
  refine va_get (D := (dC, dI)) (ci := 3) (v := .ref (ad 0)) (C := R_Ct) (T := T_Ct) (N := 2) hx hb ht i_Ct hown hK hP 0 rfl rfl 1 (by decide) (ht _ q_170) (fun _ h9 => h9) rfl d_Ct_decided_1 ?_
  refine lv_iload_n hx hb d_Ct_decided_4 rfl (lv_at hl 1 rfl) ?_
  refine wx_ci (wS := fun _ : Unit => w_R ad ca (TCt_bk z) (TCt_rn z)) (ws2 := fun _ : Unit => w_C ad ca z) (va_runV (As := [.int p0]) (rest := []) ⟨hx, hb, hml, hown, ht⟩ (c_Rn_decisionOf l dC dI ad ca s.heap.size (TCt_bk z) (TCt_rn z) p0 _ rfl) (cwV 1 ht (tb_V q_431 q_432 q_433 q_46 q_434) rfl rfl rfl p_Rn_decisionOf ⟨show 0 + 1 ≤ 1 by omega, show 8 + (2 + 11) + 0 ≤ 21 by omega⟩) (wx_preV (wc := (w_R ad ca (TCt_bk z) (TCt_rn z))) hN hK hP hD [1, 2, 3, 4, 5, 6, 7, 8, 9, 10, 11, 12, 13, 14, 15] [0, 1, 2, 3, 4, 5, 6, 7, 8, 9, 10, 11] rfl (by decide) rfl (ci := 2) (q0 := 0) rfl rfl) rfl rfl hl.1 rfl (lv_room (Nat.le_of_ble_eq_true rfl)) d_Ct_decided_5 ⟨Nat.zero_le _, Nat.zero_le _⟩) hP hD hS hA [1, 2, 3, 4, 5, 6, 7, 8, 9, 10, 11, 12, 13, 14, 15] [0] [0, 1, 2, 3, 4, 5, 6, 7, 8, 9, 10, 11, 12, 13, 14, 15] rfl rfl (by decide) (by decide) (by decide) (fun _ => rfl) (fun r_1 _ H locs hw_1 hP hD hS => ?_)
  subst hw_1
  have hP : va_P (dC, dI) vwCl (w_C ad ca z) H := hP
  have hD : va_D A (w_C ad ca z) := hD
  exact W.iret hx hb hr (v := (f_Rn_decisionOf (TCt_bk z) (TCt_rn z) p0)) (fun t ht hW => ⟨⟨(f_Rn_decisionOf (TCt_bk z) (TCt_rn z) p0), (), rfl, he.symm, by rw [ht]; exact hP, va_K.moved hW.alike hK, hD⟩, hS.F ht⟩) hS.2.2 d_Ct_decided_8
noncomputable def f_Ct_same (z : TCt) (p0 : Int32) (p1 : Int32) : Int32 := (if (f_Ct_isToken p0) = 0 then 0 else (if (f_Ct_isToken p1) = 0 then 0 else (if (f_Bk_meanTheSame (TCt_bk z) p0 p1) = 0 then 0 else 1)))
set_option maxHeartbeats 4000000 in
set_option maxRecDepth 100000 in
theorem c_Ct_same (l : Launch) (dC : Nat → ClassId) (dI : Nat → Nat → Nat) (ad : Nat → Nat) (ca : Nat → ClassId) (sz : Nat) (z : TCt) (p0 : Int32) (p1 : Int32) (hpre : BkS (TCt_bk z)) (F : Int32) (he : F = f_Ct_same z p0 p1) : wx_Mi l y_Ct_same ws_Ct_same ({ frames := 4, cells := 0, slots := 0, locals := 91 } : Room) (dC, dI) vwCl (t_C ca) [.ref (ad 15), .int p0, .int p1] (w_C ad ca z) sz (fun _ : Unit => w_C ad ca z) (fun (r : Int32) (_ : Unit) => r = F) := by
  refine Met.ofW (cc := b_Ct_same) (maxL := 3) (ret := some .boolean) (by decide) rfl ?_
  intro p e s m args below meth c s₁ B hml hv
  obtain ⟨rfl, hsz, hP, hK, hD0, hN⟩ := hv
  have hx := B.exec
  have hb := B.bytes
  have hr := B.returns
  have hts := atoms_spec (ws := ws_Ct_same) B.pre
  have ht : ∀ w ∈ TB, w.before _ s = true := fun w h => hts w (List.mem_cons_of_mem _ h)
  have hown : s.vm.findClass R_Ct = some m.cls := findClass_of_methodNamed B.named
  have hlocks := B.notSynchronized
  subst hsz
  have hD := hD0.self (sz := s.heap.size)
  generalize hAe : va_A (w_C ad ca z) s.heap.size = A at hD ⊢
  have hA : ∀ q : Nat, s.heap.size ≤ q → A q := fun q h => by rw [← hAe]; exact Or.inr h
  have hS : va_S A s.heap s.heap [] := va_S.rf
  have hl := lv_entry ([.ref (ad 15), .int p0, .int p1]) (n := 3) (Nat.le_of_ble_eq_true rfl)
  rw [lg_entry_eq]
  generalize (lg_sl ([.ref (ad 15), .int p0, .int p1]) ++ List.replicate (3 - (lg_sl ([.ref (ad 15), .int p0, .int p1])).length) Slot.unset).toArray = ls at hl ⊢
  have hl : lv_has ls 3 [(0, .ref (ad 15)), (1, .int p0), (2, .int p1)] := hl
  unfold f_Ct_same at he
  refine lv_iload_n hx hb d_Ct_same_0 rfl (lv_at hl 1 rfl) ?_
  refine wx_ci (wS := fun _ : Unit => w_E ad ca) (ws2 := fun _ : Unit => w_C ad ca z) (va_runS (As := [.int p0]) (rest := []) ⟨hx, hb, hml, hown, ht⟩ (c_Ct_isToken l dC dI ad ca s.heap.size p0 _ rfl) (va_cwS 1 ht (tb_S q_208 q_209 q_44 q_210) rfl rfl rfl p_Ct_isToken.2 ⟨show 1 + 1 ≤ 4 by omega, show 8 + (1 + 11) + 20 ≤ 91 by omega⟩) (wx_preS (wc := (w_E ad ca)) hN hK hP hD [] [] rfl (by decide) rfl) rfl rfl hl.1 rfl (lv_room (Nat.le_of_ble_eq_true rfl)) d_Ct_same_1 ⟨Nat.zero_le _, Nat.zero_le _⟩) hP hD hS hA [] [0, 1, 2, 3, 4, 5, 6, 7, 8, 9, 10, 11, 12, 13, 14, 15] [0, 1, 2, 3, 4, 5, 6, 7, 8, 9, 10, 11, 12, 13, 14, 15] rfl rfl (by decide) (by decide) (by decide) (fun _ => rfl) (fun r_1 _ H locs hw_1 hP hD hS => ?_)
  subst hw_1
  have hP : va_P (dC, dI) vwCl (w_C ad ca z) H := hP
  have hD : va_D A (w_C ad ca z) := hD
  refine lv_if_eq (tgt := 30) hx hb d_Ct_same_4 (by decide) (fun c_2 => ?_) (fun c_2 => ?_)
  · have he := he.trans (if_pos c_2)
    refine lv_iconst (v := 0) hx hb d_Ct_same_30 (by decide) ?_
    exact W.zret hx hb hr (by rfl) (v := 0) (fun t ht hW => ⟨⟨0, (), rfl, he.symm, by rw [ht]; exact hP, va_K.moved hW.alike hK, hD⟩, hS.F ht⟩) hS.2.2 d_Ct_same_31
  · have he := he.trans (if_neg c_2)
    refine lv_iload_n hx hb d_Ct_same_7 rfl (lv_at hl 2 rfl) ?_
    refine wx_ci (wS := fun _ : Unit => w_E ad ca) (ws2 := fun _ : Unit => w_C ad ca z) (va_runS (As := [.int p1]) (rest := []) ⟨hx, hb, hml, hown, ht⟩ (c_Ct_isToken l dC dI ad ca H.size p1 _ rfl) (va_cwS 1 ht (tb_S q_208 q_209 q_44 q_210) rfl rfl rfl p_Ct_isToken.2 ⟨show 1 + 1 ≤ 4 by omega, show 8 + (1 + 11) + 20 ≤ 91 by omega⟩) (wx_preS (wc := (w_E ad ca)) hN hK hP hD [] [] rfl (by decide) rfl) rfl rfl hl.1 rfl (lv_room (Nat.le_of_ble_eq_true rfl)) d_Ct_same_8 ⟨Nat.zero_le _, Nat.zero_le _⟩) hP hD hS hA [] [0, 1, 2, 3, 4, 5, 6, 7, 8, 9, 10, 11, 12, 13, 14, 15] [0, 1, 2, 3, 4, 5, 6, 7, 8, 9, 10, 11, 12, 13, 14, 15] rfl rfl (by decide) (by decide) (by decide) (fun _ => rfl) (fun r_3 _ H locs hw_3 hP hD hS => ?_)
    subst hw_3
    have hP : va_P (dC, dI) vwCl (w_C ad ca z) H := hP
    have hD : va_D A (w_C ad ca z) := hD
    refine lv_if_eq (tgt := 30) hx hb d_Ct_same_11 (by decide) (fun c_4 => ?_) (fun c_4 => ?_)
    · have he := he.trans (if_pos c_4)
      refine lv_iconst (v := 0) hx hb d_Ct_same_30 (by decide) ?_
      exact W.zret hx hb hr (by rfl) (v := 0) (fun t ht hW => ⟨⟨0, (), rfl, he.symm, by rw [ht]; exact hP, va_K.moved hW.alike hK, hD⟩, hS.F ht⟩) hS.2.2 d_Ct_same_31
    · have he := he.trans (if_neg c_4)
      refine lv_aload_n hx hb d_Ct_same_14 rfl (lv_at hl 0 rfl) ?_
      refine va_get (D := (dC, dI)) (ci := 3) (v := .ref (ad 8)) (C := R_Ct) (T := T_Ct) (N := 2) hx hb ht i_Ct hown hK hP 0 rfl rfl 0 (by decide) (ht _ q_169) (fun _ h9 => h9) rfl d_Ct_same_15 ?_
      refine lv_iload_n hx hb d_Ct_same_18 rfl (lv_at hl 1 rfl) ?_
      refine lv_iload_n hx hb d_Ct_same_19 rfl (lv_at hl 2 rfl) ?_
      refine wx_ci (wS := fun _ : Unit => w_B ad ca (TCt_bk z)) (ws2 := fun _ : Unit => w_C ad ca z) (va_runV (As := [.int p0, .int p1]) (rest := []) ⟨hx, hb, hml, hown, ht⟩ (c_Bk_meanTheSame l dC dI ad ca H.size (TCt_bk z) p0 p1 hpre _ rfl) (cwV 2 ht (tb_V q_439 q_341 q_342 q_45 q_343) rfl rfl rfl p_Bk_meanTheSame ⟨show 3 + 1 ≤ 4 by omega, show 8 + (4 + 11) + 68 ≤ 91 by omega⟩) (wx_preV (wc := (w_B ad ca (TCt_bk z))) hN hK hP hD [9, 10, 11, 12, 13, 14, 15] [6, 7, 8, 9, 10, 11] rfl (by decide) rfl (ci := 0) (q0 := 0) rfl rfl) rfl rfl hl.1 rfl (lv_room (Nat.le_of_ble_eq_true rfl)) d_Ct_same_20 ⟨Nat.zero_le _, Nat.zero_le _⟩) hP hD hS hA [9, 10, 11, 12, 13, 14, 15] [0, 1, 2, 3, 4, 5, 6, 7, 8] [0, 1, 2, 3, 4, 5, 6, 7, 8, 9, 10, 11, 12, 13, 14, 15] rfl rfl (by decide) (by decide) (by decide) (fun _ => rfl) (fun r_5 _ H locs hw_5 hP hD hS => ?_)
      subst hw_5
      have hP : va_P (dC, dI) vwCl (w_C ad ca z) H := hP
      have hD : va_D A (w_C ad ca z) := hD
      refine lv_if_eq (tgt := 30) hx hb d_Ct_same_23 (by decide) (fun c_6 => ?_) (fun c_6 => ?_)
      · have he := he.trans (if_pos c_6)
        refine lv_iconst (v := 0) hx hb d_Ct_same_30 (by decide) ?_
        exact W.zret hx hb hr (by rfl) (v := 0) (fun t ht hW => ⟨⟨0, (), rfl, he.symm, by rw [ht]; exact hP, va_K.moved hW.alike hK, hD⟩, hS.F ht⟩) hS.2.2 d_Ct_same_31
      · have he := he.trans (if_neg c_6)
        refine lv_iconst (v := 1) hx hb d_Ct_same_26 (by decide) ?_
        refine lv_goto (tgt := 31) hx hb d_Ct_same_27 (by decide) ?_
        exact W.zret hx hb hr (by rfl) (v := 1) (fun t ht hW => ⟨⟨1, (), rfl, he.symm, by rw [ht]; exact hP, va_K.moved hW.alike hK, hD⟩, hS.F ht⟩) hS.2.2 d_Ct_same_31
noncomputable def f_Ct_count (z : TCt) (p0 : Int32) : Int32 := (if p0 = 0 then (TBk_bodyCount (TCt_bk z)) else (if p0 = 1 then (f_Bk_sizeOf (TCt_bk z) 20) else (if p0 = 2 then (f_Bk_tokensOfBodies (TCt_bk z)) else (-2))))
set_option maxHeartbeats 4000000 in
set_option maxRecDepth 100000 in
theorem c_Ct_count (l : Launch) (dC : Nat → ClassId) (dI : Nat → Nat → Nat) (ad : Nat → Nat) (ca : Nat → ClassId) (sz : Nat) (z : TCt) (p0 : Int32) (F : Int32) (he : F = f_Ct_count z p0) : wx_Mi l y_Ct_count ws_Ct_count ({ frames := 1, cells := 0, slots := 0, locals := 22 } : Room) (dC, dI) vwCl (t_C ca) [.ref (ad 15), .int p0] (w_C ad ca z) sz (fun _ : Unit => w_C ad ca z) (fun (r : Int32) (_ : Unit) => r = F) := by
  refine Met.ofW (cc := b_Ct_count) (maxL := 2) (ret := some .int) (by decide) rfl ?_
  intro p e s m args below meth c s₁ B hml hv
  obtain ⟨rfl, hsz, hP, hK, hD0, hN⟩ := hv
  have hx := B.exec
  have hb := B.bytes
  have hr := B.returns
  have hts := atoms_spec (ws := ws_Ct_count) B.pre
  have ht : ∀ w ∈ TB, w.before _ s = true := fun w h => hts w (List.mem_cons_of_mem _ h)
  have hown : s.vm.findClass R_Ct = some m.cls := findClass_of_methodNamed B.named
  have hlocks := B.notSynchronized
  subst hsz
  have hD := hD0.self (sz := s.heap.size)
  generalize hAe : va_A (w_C ad ca z) s.heap.size = A at hD ⊢
  have hA : ∀ q : Nat, s.heap.size ≤ q → A q := fun q h => by rw [← hAe]; exact Or.inr h
  have hS : va_S A s.heap s.heap [] := va_S.rf
  have hl := lv_entry ([.ref (ad 15), .int p0]) (n := 2) (Nat.le_of_ble_eq_true rfl)
  rw [lg_entry_eq]
  generalize (lg_sl ([.ref (ad 15), .int p0]) ++ List.replicate (2 - (lg_sl ([.ref (ad 15), .int p0])).length) Slot.unset).toArray = ls at hl ⊢
  have hl : lv_has ls 2 [(0, .ref (ad 15)), (1, .int p0)] := hl
  unfold f_Ct_count at he
  refine lv_iload_n hx hb d_Ct_count_0 rfl (lv_at hl 1 rfl) ?_
  rcases Decidable.em (p0 = 0) with c_1 | c_1
  · have he := he.trans (if_pos c_1)
    refine lv_tableIn (off := 27) (tgt := 28) hx hb d_Ct_count_1 (by rw [c_1]; decide) (by rw [c_1]; decide) (by rw [c_1]; rfl) (by decide) ?_
    refine lv_aload_n hx hb d_Ct_count_28 rfl (lv_at hl 0 rfl) ?_
    refine va_get (D := (dC, dI)) (ci := 3) (v := .ref (ad 8)) (C := R_Ct) (T := T_Ct) (N := 2) hx hb ht i_Ct hown hK hP 0 rfl rfl 0 (by decide) (ht _ q_169) (fun _ h9 => h9) rfl d_Ct_count_29 ?_
    refine va_get (D := (dC, dI)) (ci := 0) (v := .int (TBk_bodyCount (TCt_bk z))) (C := R_Bk) (T := T_Bk) (N := 7) hx hb ht i_Bk hown hK hP 9 rfl rfl 6 (by decide) (ht _ q_76) (fun _ h9 => h9) rfl d_Ct_count_32 ?_
    exact W.iret hx hb hr (v := (TBk_bodyCount (TCt_bk z))) (fun t ht hW => ⟨⟨(TBk_bodyCount (TCt_bk z)), (), rfl, he.symm, by rw [ht]; exact hP, va_K.moved hW.alike hK, hD⟩, hS.F ht⟩) hS.2.2 d_Ct_count_35
  · have he := he.trans (if_neg c_1)
    rcases Decidable.em (p0 = 1) with c_2 | c_2
    · have he := he.trans (if_pos c_2)
      refine lv_tableIn (off := 35) (tgt := 36) hx hb d_Ct_count_1 (by rw [c_2]; decide) (by rw [c_2]; decide) (by rw [c_2]; rfl) (by decide) ?_
      refine lv_aload_n hx hb d_Ct_count_36 rfl (lv_at hl 0 rfl) ?_
      refine va_get (D := (dC, dI)) (ci := 3) (v := .ref (ad 8)) (C := R_Ct) (T := T_Ct) (N := 2) hx hb ht i_Ct hown hK hP 0 rfl rfl 0 (by decide) (ht _ q_169) (fun _ h9 => h9) rfl d_Ct_count_37 ?_
      refine lv_bipush (v := 20) hx hb d_Ct_count_40 (by decide) ?_
      refine wx_ci (wS := fun _ : Unit => w_B ad ca (TCt_bk z)) (ws2 := fun _ : Unit => w_C ad ca z) (va_runV (As := [.int 20]) (rest := []) ⟨hx, hb, hml, hown, ht⟩ (c_Bk_sizeOf l dC dI ad ca s.heap.size (TCt_bk z) 20 _ rfl) (cwV 1 ht (tb_V q_444 q_219 q_220 q_45 q_221) rfl rfl rfl p_Bk_sizeOf ⟨show 0 + 1 ≤ 1 by omega, show 8 + (2 + 11) + 0 ≤ 22 by omega⟩) (wx_preV (wc := (w_B ad ca (TCt_bk z))) hN hK hP hD [9, 10, 11, 12, 13, 14, 15] [6, 7, 8, 9, 10, 11] rfl (by decide) rfl (ci := 0) (q0 := 0) rfl rfl) rfl rfl hl.1 rfl (lv_room (Nat.le_of_ble_eq_true rfl)) d_Ct_count_42 ⟨Nat.zero_le _, Nat.zero_le _⟩) hP hD hS hA [9, 10, 11, 12, 13, 14, 15] [0, 1, 2, 3, 4, 5, 6, 7, 8] [0, 1, 2, 3, 4, 5, 6, 7, 8, 9, 10, 11, 12, 13, 14, 15] rfl rfl (by decide) (by decide) (by decide) (fun _ => rfl) (fun r_3 _ H locs hw_3 hP hD hS => ?_)
      subst hw_3
      have hP : va_P (dC, dI) vwCl (w_C ad ca z) H := hP
      have hD : va_D A (w_C ad ca z) := hD
      exact W.iret hx hb hr (v := (f_Bk_sizeOf (TCt_bk z) 20)) (fun t ht hW => ⟨⟨(f_Bk_sizeOf (TCt_bk z) 20), (), rfl, he.symm, by rw [ht]; exact hP, va_K.moved hW.alike hK, hD⟩, hS.F ht⟩) hS.2.2 d_Ct_count_45
    · have he := he.trans (if_neg c_2)
      rcases Decidable.em (p0 = 2) with c_4 | c_4
      · have he := he.trans (if_pos c_4)
        refine lv_tableIn (off := 45) (tgt := 46) hx hb d_Ct_count_1 (by rw [c_4]; decide) (by rw [c_4]; decide) (by rw [c_4]; rfl) (by decide) ?_
        refine lv_aload_n hx hb d_Ct_count_46 rfl (lv_at hl 0 rfl) ?_
        refine va_get (D := (dC, dI)) (ci := 3) (v := .ref (ad 8)) (C := R_Ct) (T := T_Ct) (N := 2) hx hb ht i_Ct hown hK hP 0 rfl rfl 0 (by decide) (ht _ q_169) (fun _ h9 => h9) rfl d_Ct_count_47 ?_
        refine wx_ci (wS := fun _ : Unit => w_B ad ca (TCt_bk z)) (ws2 := fun _ : Unit => w_C ad ca z) (va_runV (As := []) (rest := []) ⟨hx, hb, hml, hown, ht⟩ (c_Bk_tokensOfBodies l dC dI ad ca s.heap.size (TCt_bk z) _ rfl) (cwV 0 ht (tb_V q_445 q_446 q_447 q_45 q_448) rfl rfl rfl p_Bk_tokensOfBodies ⟨show 0 + 1 ≤ 1 by omega, show 8 + (3 + 11) + 0 ≤ 22 by omega⟩) (wx_preV (wc := (w_B ad ca (TCt_bk z))) hN hK hP hD [9, 10, 11, 12, 13, 14, 15] [6, 7, 8, 9, 10, 11] rfl (by decide) rfl (ci := 0) (q0 := 0) rfl rfl) rfl rfl hl.1 rfl (lv_room (Nat.le_of_ble_eq_true rfl)) d_Ct_count_50 ⟨Nat.zero_le _, Nat.zero_le _⟩) hP hD hS hA [9, 10, 11, 12, 13, 14, 15] [0, 1, 2, 3, 4, 5, 6, 7, 8] [0, 1, 2, 3, 4, 5, 6, 7, 8, 9, 10, 11, 12, 13, 14, 15] rfl rfl (by decide) (by decide) (by decide) (fun _ => rfl) (fun r_5 _ H locs hw_5 hP hD hS => ?_)
        subst hw_5
        have hP : va_P (dC, dI) vwCl (w_C ad ca z) H := hP
        have hD : va_D A (w_C ad ca z) := hD
        exact W.iret hx hb hr (v := (f_Bk_tokensOfBodies (TCt_bk z))) (fun t ht hW => ⟨⟨(f_Bk_tokensOfBodies (TCt_bk z)), (), rfl, he.symm, by rw [ht]; exact hP, va_K.moved hW.alike hK, hD⟩, hS.F ht⟩) hS.2.2 d_Ct_count_53
      · have he := he.trans (if_neg c_4)
        have ec_1 := lv_neT (a := 0) c_1 (by decide)
        have ec_2 := lv_neT (a := 1) c_2 (by decide)
        have ec_4 := lv_neT (a := 2) c_4 (by decide)
        refine lv_tableOut (tgt := 54) hx hb d_Ct_count_1 (by omega) (by decide) ?_
        refine lv_bipush (v := (-2)) hx hb d_Ct_count_54 (by decide) ?_
        exact W.iret hx hb hr (v := (-2)) (fun t ht hW => ⟨⟨(-2), (), rfl, he.symm, by rw [ht]; exact hP, va_K.moved hW.alike hK, hD⟩, hS.F ht⟩) hS.2.2 d_Ct_count_56
end
section
theorem oc_ask (op : TBk → TRn → Int32 → TRn) (k : Int) (hopm : ∀ (b : TBk) (u : TRn) (w : Int32), k ≤ oc u → oc u ≤ oc (op b u w)) (b : TBk) (u : TRn) (p x1 : Int32) (h1 : k ≤ x1.toInt) (h2 : x1.toInt ≤ oc u) : x1.toInt ≤ oc (f_Rn_ask op b u p x1).2 := by
  have a1 : ∀ q, x1.toInt ≤ oc (f_Rn_compareSigns op b u q x1).2 := fun q => oc_cs op k hopm b u q x1 h1 h2
  have a2 : x1.toInt ≤ oc (f_Rn_compareMeanings b u).2 := by rw [oc_cm]; exact h2
  have a3 : x1.toInt ≤ oc (f_Rn_compareNumbers op b u x1).2 := oc_cn op k hopm b u x1 h1 h2
  have a4 : x1.toInt ≤ oc (f_Rn_readNumber op b u x1).2 := oc_rn op k hopm rfl h1 h2
  have a5 : x1.toInt ≤ oc (f_Rn_askWhetherKnown b u).2 := by rw [oc_ak]; exact h2
  have a6 : x1.toInt ≤ oc (f_Rn_askWhetherOn_m op b u x1).2 := oc_am op k hopm b u x1 h1 h2
  have a7 : x1.toInt ≤ oc (f_Rn_askWhetherOn_e op b u x1).2 := oc_ae op k hopm b u x1 h1 h2
  unfold f_Rn_ask
  repeat' split
  all_goals try dsimp only
  all_goals first
    | with_reducible exact h2
    | with_reducible exact a1 _
    | with_reducible exact a2
    | with_reducible exact a3
    | with_reducible exact a4
    | with_reducible exact a5
    | with_reducible exact a6
    | with_reducible exact a7
    | (rename_i hq; rw [hq] at a1; exact a1)
    | (rename_i hq; have a8 := a1 0; rw [hq] at a8; exact a8)
    | (rename_i hq; have a8 := a1 1; rw [hq] at a8; exact a8)
    | (rename_i hq; rw [hq] at a2; exact a2)
    | (rename_i hq; rw [hq] at a3; exact a3)
    | (rename_i hq; rw [hq] at a4; exact a4)
    | (rename_i hq; rw [hq] at a5; exact a5)
    | (rename_i hq; rw [hq] at a6; exact a6)
    | (rename_i hq; rw [hq] at a7; exact a7)
end
section
theorem oc_open_tail (b : TBk) (v : TRn) (p0 x y z : Int32) : oc v - 1 ≤ oc (if (TRn_openCount v) ≤ z then (if (TRn_fault v) = 0 then f_Rn_decide b v p0 x y else v) else (if (TRn_fault (f_Rn_fail b v 6)) = 0 then f_Rn_decide b (f_Rn_fail b v 6) p0 x y else f_Rn_fail b v 6)) := by
  split
  · split
    · exact oc_decide _ _ _ _ _
    · omega
  · split
    · have h := oc_decide b (f_Rn_fail b v 6) p0 x y
      rw [oc_fail] at h
      exact h
    · rw [oc_fail]
      omega
theorem oc_ask1 (op : TBk → TRn → Int32 → TRn) (k : Int) (hopm : ∀ (b : TBk) (u : TRn) (w : Int32), k ≤ oc u → oc u ≤ oc (op b u w)) {b : TBk} {st v : TRn} {w x1 r : Int32} (hl : f_Rn_ask op b st w x1 = (r, v)) (h1 : k ≤ x1.toInt) (h2 : x1.toInt ≤ oc st) : x1.toInt ≤ oc v := by
  have h3 := oc_ask op k hopm b st w x1 h1 h2
  rw [hl] at h3
  exact h3
theorem oc_open (op : TBk → TRn → Int32 → TRn) (k : Int) (hopm : ∀ (b : TBk) (u : TRn) (w : Int32), k ≤ oc u → oc u ≤ oc (op b u w)) (b : TBk) (u : TRn) (w : Int32) (h : k - 1 ≤ oc u) : oc u ≤ oc (f_Rn_open_s op b u w) := by
  unfold f_Rn_open_s
  split
  · exact Int.le_of_eq (oc_fail b u 5).symm
  · rename_i h0
    split
    · rename_i h1
      have hk : k ≤ (TRn_openCount u + 1).toInt := open_k h h0 h1
      have hz : oc u = (TRn_openCount u + 1).toInt - 1 := by
        rw [i32_lt] at h0 h1
        rw [Int32.toInt_zero] at h0
        have e1 : (20 : Int32).toInt = 20 := by decide
        have e2 : (1 : Int32).toInt = 1 := by decide
        rw [i32_add (by rw [e2]; omega) (by rw [e2]; omega), e2]
        show (TRn_openCount u).toInt = _
        omega
      split
      · rcases hl : f_Rn_ask op b _ w (TRn_openCount u + 1) with ⟨r, v⟩
        have h3 : (TRn_openCount u + 1).toInt ≤ oc v := oc_ask1 op k hopm hl hk (Int.le_refl _)
        dsimp only
        have h4 := oc_open_tail b v w (TRn_opened u) r (TRn_openCount u + 1)
        exact Int.le_trans (by omega) h4
      · rcases hl : f_Rn_ask op b _ w (TRn_openCount u + 1) with ⟨r, v⟩
        have h3 : (TRn_openCount u + 1).toInt ≤ oc v := oc_ask1 op k hopm hl hk (Int.le_refl _)
        dsimp only
        have h4 := oc_open_tail b v w (TRn_opened u) r (TRn_openCount u + 1)
        exact Int.le_trans (by omega) h4
    · exact Int.le_of_eq (oc_fail b u 5).symm
theorem oc_open0 (b : TBk) (u : TRn) (w : Int32) : oc u ≤ oc (f_Rn_open_0 b u w) := by
  unfold f_Rn_open_0
  split
  · exact Int.le_of_eq (oc_fail b u 5).symm
  · exact Int.le_of_eq (oc_fail b u 5).symm
end
section
theorem q_23 : Cond.selects R_Rn y_Rn_putOut y_Rn_putOut ∈ TB := tq 23 (by decide +kernel) rfl
theorem q_403 : Cond.methodLink R_Rn 98 y_Rn_putOut ∈ TB := tq 403 (by decide +kernel) rfl
theorem q_405 : Cond.instanceMethod y_Rn_putOut ∈ TB := tq 405 (by decide +kernel) rfl
theorem q_406 : Cond.code y_Rn_putOut b_Rn_putOut 2 (none : Option Jvm.ClassFile.FieldType) ∈ TB := tq 406 (by decide +kernel) rfl
theorem d_Rn_goThrough_0 : decode b_Rn_goThrough 0 = .ok (.iload_n 1, 1) := by decide +kernel
theorem d_Rn_goThrough_1 : decode b_Rn_goThrough 1 = .ok (.bipush (-2), 2) := by decide +kernel
theorem d_Rn_goThrough_3 : decode b_Rn_goThrough 3 = .ok (.if_icmp .ne 12, 3) := by decide +kernel
theorem d_Rn_goThrough_6 : decode b_Rn_goThrough 6 = .ok (.aload_n 0, 1) := by decide +kernel
theorem d_Rn_goThrough_7 : decode b_Rn_goThrough 7 = .ok (.bipush 9, 2) := by decide +kernel
theorem d_Rn_goThrough_9 : decode b_Rn_goThrough 9 = .ok (.invokevirtual 60, 3) := by decide +kernel
theorem d_Rn_goThrough_12 : decode b_Rn_goThrough 12 = .ok (.goto 39, 3) := by decide +kernel
theorem d_Rn_goThrough_15 : decode b_Rn_goThrough 15 = .ok (.aload_n 0, 1) := by decide +kernel
theorem d_Rn_goThrough_16 : decode b_Rn_goThrough 16 = .ok (.iload_n 1, 1) := by decide +kernel
theorem d_Rn_goThrough_17 : decode b_Rn_goThrough 17 = .ok (.iconst 0, 1) := by decide +kernel
theorem d_Rn_goThrough_18 : decode b_Rn_goThrough 18 = .ok (.invokevirtual 84, 3) := by decide +kernel
theorem d_Rn_goThrough_21 : decode b_Rn_goThrough 21 = .ok (.ifCond .ne 30, 3) := by decide +kernel
theorem d_Rn_goThrough_24 : decode b_Rn_goThrough 24 = .ok (.aload_n 0, 1) := by decide +kernel
theorem d_Rn_goThrough_25 : decode b_Rn_goThrough 25 = .ok (.getfield 25, 3) := by decide +kernel
theorem d_Rn_goThrough_28 : decode b_Rn_goThrough 28 = .ok (.iload_n 1, 1) := by decide +kernel
theorem d_Rn_goThrough_29 : decode b_Rn_goThrough 29 = .ok (.invokevirtual 88, 3) := by decide +kernel
theorem d_Rn_goThrough_32 : decode b_Rn_goThrough 32 = .ok (.invokestatic 94, 3) := by decide +kernel
theorem d_Rn_goThrough_35 : decode b_Rn_goThrough 35 = .ok (.ifCond .eq 11, 3) := by decide +kernel
theorem d_Rn_goThrough_38 : decode b_Rn_goThrough 38 = .ok (.aload_n 0, 1) := by decide +kernel
theorem d_Rn_goThrough_39 : decode b_Rn_goThrough 39 = .ok (.iconst 2, 1) := by decide +kernel
theorem d_Rn_goThrough_40 : decode b_Rn_goThrough 40 = .ok (.invokevirtual 60, 3) := by decide +kernel
theorem d_Rn_goThrough_43 : decode b_Rn_goThrough 43 = .ok (.goto 8, 3) := by decide +kernel
theorem d_Rn_goThrough_46 : decode b_Rn_goThrough 46 = .ok (.aload_n 0, 1) := by decide +kernel
theorem d_Rn_goThrough_47 : decode b_Rn_goThrough 47 = .ok (.iload_n 1, 1) := by decide +kernel
theorem d_Rn_goThrough_48 : decode b_Rn_goThrough 48 = .ok (.invokevirtual 98, 3) := by decide +kernel
theorem d_Rn_goThrough_51 : decode b_Rn_goThrough 51 = .ok (.return_, 1) := by decide +kernel
noncomputable def f_Rn_goThrough (op : TBk → TRn → Int32 → TRn) (b : TBk) (u : TRn) (p0 : Int32) : TRn := (if p0 = (-2) then (let v_9 := f_Rn_fail b u 9; v_9) else (match f_Rn_takeIn op b u p0 0 with | (r_2, v_2) => (if r_2 = 0 then (if (f_Ct_isMark (f_Bk_kindOf b p0)) = 0 then (let v_7 := f_Rn_putOut b v_2 p0; v_7) else (let v_8 := f_Rn_fail b v_2 2; v_8)) else v_2)))
set_option maxHeartbeats 4000000 in
set_option maxRecDepth 100000 in
theorem c_Rn_goThrough (l : Launch) (dC : Nat → ClassId) (dI : Nat → Nat → Nat) (ad : Nat → Nat) (ca : Nat → ClassId) (op : TBk → TRn → Int32 → TRn) (rf rl : Nat) (k : Int) (hopm : ∀ (b : TBk) (u : TRn) (w : Int32), k ≤ oc u → oc u ≤ oc (op b u w)) (hop : ∀ (sz : Nat) (b : TBk) (u : TRn) (w : Int32), BkS b ∧ k ≤ oc u → wx_Mv l y_Rn_open ws_Rn_open ({ frames := rf, cells := 0, slots := 0, locals := rl } : Room) (dC, dI) vwCl (t_R ca) [.ref (ad 0), .int w] (w_R ad ca b u) sz (fun v : TRn => w_R ad ca b v) (fun v : TRn => v = op b u w)) (sz : Nat) (b : TBk) (u : TRn) (p0 : Int32) (hpre : BkS b ∧ k ≤ 0 ∧ 0 ≤ oc u) (F : TRn) (he : F = f_Rn_goThrough op b u p0) : wx_Mv l y_Rn_goThrough ws_Rn_goThrough ({ frames := rf + 7, cells := 0, slots := 0, locals := rl + 157 } : Room) (dC, dI) vwCl (t_R ca) [.ref (ad 0), .int p0] (w_R ad ca b u) sz (fun v : TRn => w_R ad ca b v) (fun v : TRn => v = F) := by
  refine Met.ofW (cc := b_Rn_goThrough) (maxL := 2) (ret := none) (by decide) rfl ?_
  intro p e s m args below meth c s₁ B hml hv
  obtain ⟨rfl, hsz, hP, hK, hD0, hN⟩ := hv
  have hx := B.exec
  have hb := B.bytes
  have hr := B.returns
  have hts := atoms_spec (ws := ws_Rn_goThrough) B.pre
  have ht : ∀ w ∈ TB, w.before _ s = true := fun w h => hts w (List.mem_cons_of_mem _ h)
  have hown : s.vm.findClass R_Rn = some m.cls := findClass_of_methodNamed B.named
  have hlocks := B.notSynchronized
  subst hsz
  have hD := hD0.self (sz := s.heap.size)
  generalize hAe : va_A (w_R ad ca b u) s.heap.size = A at hD ⊢
  have hA : ∀ q : Nat, s.heap.size ≤ q → A q := fun q h => by rw [← hAe]; exact Or.inr h
  have hS : va_S A s.heap s.heap [] := va_S.rf
  have hl := lv_entry ([.ref (ad 0), .int p0]) (n := 2) (Nat.le_of_ble_eq_true rfl)
  rw [lg_entry_eq]
  generalize (lg_sl ([.ref (ad 0), .int p0]) ++ List.replicate (2 - (lg_sl ([.ref (ad 0), .int p0])).length) Slot.unset).toArray = ls at hl ⊢
  have hl : lv_has ls 2 [(0, .ref (ad 0)), (1, .int p0)] := hl
  unfold f_Rn_goThrough at he
  refine lv_iload_n hx hb d_Rn_goThrough_0 rfl (lv_at hl 1 rfl) ?_
  refine lv_bipush (v := (-2)) hx hb d_Rn_goThrough_1 (by decide) ?_
  refine lv_icmp_ne (tgt := 15) hx hb d_Rn_goThrough_3 (by decide) (fun c_1 => ?_) (fun c_1 => ?_)
  · have he := he.trans (if_neg c_1)
    refine lv_aload_n hx hb d_Rn_goThrough_15 rfl (lv_at hl 0 rfl) ?_
    refine lv_iload_n hx hb d_Rn_goThrough_16 rfl (lv_at hl 1 rfl) ?_
    refine lv_iconst (v := 0) hx hb d_Rn_goThrough_17 (by decide) ?_
    refine wx_ci (wS := fun v : TRn => w_R ad ca b v) (ws2 := fun v : TRn => w_R ad ca b v) (va_runV (As := [.int p0, .int 0]) (rest := []) ⟨hx, hb, hml, hown, ht⟩ (c_Rn_takeIn l dC dI ad ca op rf rl k hopm hop s.heap.size b u p0 0 ⟨hpre.1, Int.le_trans hpre.2.1 hpre.2.2⟩ _ rfl) (cwV 2 ht (tb_V q_279 q_281 q_4 q_46 q_282) rfl rfl rfl p_Rn_takeIn ⟨show (rf + 6) + 1 ≤ rf + 7 by omega, show 8 + (4 + 11) + (rl + 134) ≤ rl + 157 by omega⟩) (wx_preV (wc := (w_R ad ca b u)) hN hK hP hD [0, 1, 2, 3, 4, 5, 6, 7, 8, 9, 10, 11, 12, 13, 14] [0, 1, 2, 3, 4, 5, 6, 7, 8, 9, 10, 11] rfl (by decide) rfl (ci := 2) (q0 := 0) rfl rfl) rfl rfl hl.1 rfl (lv_room (Nat.le_of_ble_eq_true rfl)) d_Rn_goThrough_18 ⟨Nat.zero_le _, Nat.zero_le _⟩) hP hD hS hA [0, 1, 2, 3, 4, 5, 6, 7, 8, 9, 10, 11, 12, 13, 14] [] [0, 1, 2, 3, 4, 5, 6, 7, 8, 9, 10, 11, 12, 13, 14] rfl rfl (by decide) (by decide) (by decide) (fun _ => rfl) (fun r_2 v_2 H locs hw_2 hP hD hS => ?_)
    have hP : va_P (dC, dI) vwCl (w_R ad ca b v_2) H := hP
    have hD : va_D A (w_R ad ca b v_2) := hD
    rw [← hw_2] at he
    try dsimp only at he
    refine lv_if_ne (tgt := 51) hx hb d_Rn_goThrough_21 (by decide) (fun c_3 => ?_) (fun c_3 => ?_)
    · have he := he.trans (if_neg c_3)
      exact W.vret hx hb hr (fun t ht hW => ⟨⟨v_2, rfl, he.symm, by rw [ht]; exact hP, va_K.moved hW.alike hK, hD⟩, hS.F ht⟩) hS.2.2 d_Rn_goThrough_51
    · have he := he.trans (if_pos c_3)
      refine lv_aload_n hx hb d_Rn_goThrough_24 rfl (lv_at hl 0 rfl) ?_
      refine va_get (D := (dC, dI)) (ci := 2) (v := .ref (ad 8)) (C := R_Rn) (T := T_Rn) (N := 12) hx hb ht i_Rn hown hK hP 0 rfl rfl 0 (by decide) (ht _ q_132) (fun _ h9 => h9) rfl d_Rn_goThrough_25 ?_
      refine lv_iload_n hx hb d_Rn_goThrough_28 rfl (lv_at hl 1 rfl) ?_
      refine wx_ci (wS := fun _ : Unit => w_B ad ca b) (ws2 := fun _ : Unit => w_R ad ca b v_2) (va_runV (As := [.int p0]) (rest := []) ⟨hx, hb, hml, hown, ht⟩ (c_Bk_kindOf l dC dI ad ca H.size b p0 _ rfl) (cwV 1 ht (tb_V q_283 q_284 q_285 q_45 q_286) rfl rfl rfl p_Bk_kindOf ⟨show 1 + 1 ≤ rf + 7 by omega, show 8 + (2 + 11) + 20 ≤ rl + 157 by omega⟩) (wx_preV (wc := (w_B ad ca b)) hN hK hP hD [8, 9, 10, 11, 12, 13, 14] [6, 7, 8, 9, 10, 11] rfl (by decide) rfl (ci := 0) (q0 := 0) rfl rfl) rfl rfl hl.1 rfl (lv_room (Nat.le_of_ble_eq_true rfl)) d_Rn_goThrough_29 ⟨Nat.zero_le _, Nat.zero_le _⟩) hP hD hS hA [8, 9, 10, 11, 12, 13, 14] [0, 1, 2, 3, 4, 5, 6, 7] [0, 1, 2, 3, 4, 5, 6, 7, 8, 9, 10, 11, 12, 13, 14] rfl rfl (by decide) (by decide) (by decide) (fun _ => rfl) (fun r_4 _ H locs hw_4 hP hD hS => ?_)
      subst hw_4
      have hP : va_P (dC, dI) vwCl (w_R ad ca b v_2) H := hP
      have hD : va_D A (w_R ad ca b v_2) := hD
      refine wx_ci (wS := fun _ : Unit => w_E ad ca) (ws2 := fun _ : Unit => w_R ad ca b v_2) (va_runSN (As := [.int (f_Bk_kindOf b p0)]) (rest := []) ⟨hx, hb, hml, hown, ht⟩ (c_Ct_isMark l dC dI ad ca H.size (f_Bk_kindOf b p0) _ rfl) ⟨va_cnB 1 ht (tb_in q_325) rfl rfl rfl (hN _ nest_2) (ht _ q_44) p_Ct_isMark.2 ⟨show 0 + 1 ≤ rf + 7 by omega, show 8 + (1 + 11) + 0 ≤ rl + 157 by omega⟩, ht _ q_324, trivial⟩ (wx_preS (wc := (w_E ad ca)) hN hK hP hD [] [] rfl (by decide) rfl) rfl rfl hl.1 rfl (lv_room (Nat.le_of_ble_eq_true rfl)) d_Rn_goThrough_32 ⟨Nat.zero_le _, Nat.zero_le _⟩) hP hD hS hA [] [0, 1, 2, 3, 4, 5, 6, 7, 8, 9, 10, 11, 12, 13, 14] [0, 1, 2, 3, 4, 5, 6, 7, 8, 9, 10, 11, 12, 13, 14] rfl rfl (by decide) (by decide) (by decide) (fun _ => rfl) (fun r_5 _ H locs hw_5 hP hD hS => ?_)
      subst hw_5
      have hP : va_P (dC, dI) vwCl (w_R ad ca b v_2) H := hP
      have hD : va_D A (w_R ad ca b v_2) := hD
      refine lv_if_eq (tgt := 46) hx hb d_Rn_goThrough_35 (by decide) (fun c_6 => ?_) (fun c_6 => ?_)
      · have he := he.trans (if_pos c_6)
        refine lv_aload_n hx hb d_Rn_goThrough_46 rfl (lv_at hl 0 rfl) ?_
        refine lv_iload_n hx hb d_Rn_goThrough_47 rfl (lv_at hl 1 rfl) ?_
        refine wx_cv (wS := fun v : TRn => w_R ad ca b v) (ws2 := fun v : TRn => w_R ad ca b v) (va_runV (As := [.int p0]) (rest := []) ⟨hx, hb, hml, hown, ht⟩ (c_Rn_putOut l dC dI ad ca H.size b v_2 p0 _ rfl) (cwV 1 ht (tb_V q_403 q_405 q_23 q_46 q_406) rfl rfl rfl p_Rn_putOut ⟨show 1 + 1 ≤ rf + 7 by omega, show 8 + (2 + 11) + 21 ≤ rl + 157 by omega⟩) (wx_preV (wc := (w_R ad ca b v_2)) hN hK hP hD [0, 1, 2, 3, 4, 5, 6, 7, 8, 9, 10, 11, 12, 13, 14] [0, 1, 2, 3, 4, 5, 6, 7, 8, 9, 10, 11] rfl (by decide) rfl (ci := 2) (q0 := 0) rfl rfl) rfl rfl hl.1 rfl (lv_room (Nat.le_of_ble_eq_true rfl)) d_Rn_goThrough_48 ⟨Nat.zero_le _, Nat.zero_le _⟩) hP hD hS hA [0, 1, 2, 3, 4, 5, 6, 7, 8, 9, 10, 11, 12, 13, 14] [] [0, 1, 2, 3, 4, 5, 6, 7, 8, 9, 10, 11, 12, 13, 14] rfl rfl (by decide) (by decide) (by decide) (fun _ => rfl) (fun v_7 H locs hw_7 hP hD hS => ?_)
        have hP : va_P (dC, dI) vwCl (w_R ad ca b v_7) H := hP
        have hD : va_D A (w_R ad ca b v_7) := hD
        rw [← hw_7] at he
        try dsimp only at he
        exact W.vret hx hb hr (fun t ht hW => ⟨⟨v_7, rfl, he.symm, by rw [ht]; exact hP, va_K.moved hW.alike hK, hD⟩, hS.F ht⟩) hS.2.2 d_Rn_goThrough_51
      · have he := he.trans (if_neg c_6)
        refine lv_aload_n hx hb d_Rn_goThrough_38 rfl (lv_at hl 0 rfl) ?_
        refine lv_iconst (v := 2) hx hb d_Rn_goThrough_39 (by decide) ?_
        refine wx_cv (wS := fun v : TRn => w_R ad ca b v) (ws2 := fun v : TRn => w_R ad ca b v) (va_runV (As := [.int 2]) (rest := []) ⟨hx, hb, hml, hown, ht⟩ (c_Rn_fail l dC dI ad ca H.size b v_2 2 _ rfl) (cwV 1 ht (tb_V q_275 q_277 q_3 q_46 q_278) rfl rfl rfl p_Rn_fail ⟨show 0 + 1 ≤ rf + 7 by omega, show 8 + (2 + 11) + 0 ≤ rl + 157 by omega⟩) (wx_preV (wc := (w_R ad ca b v_2)) hN hK hP hD [0, 1, 2, 3, 4, 5, 6, 7, 8, 9, 10, 11, 12, 13, 14] [0, 1, 2, 3, 4, 5, 6, 7, 8, 9, 10, 11] rfl (by decide) rfl (ci := 2) (q0 := 0) rfl rfl) rfl rfl hl.1 rfl (lv_room (Nat.le_of_ble_eq_true rfl)) d_Rn_goThrough_40 ⟨Nat.zero_le _, Nat.zero_le _⟩) hP hD hS hA [0, 1, 2, 3, 4, 5, 6, 7, 8, 9, 10, 11, 12, 13, 14] [] [0, 1, 2, 3, 4, 5, 6, 7, 8, 9, 10, 11, 12, 13, 14] rfl rfl (by decide) (by decide) (by decide) (fun _ => rfl) (fun v_8 H locs hw_8 hP hD hS => ?_)
        have hP : va_P (dC, dI) vwCl (w_R ad ca b v_8) H := hP
        have hD : va_D A (w_R ad ca b v_8) := hD
        rw [← hw_8] at he
        try dsimp only at he
        refine lv_goto (tgt := 51) hx hb d_Rn_goThrough_43 (by decide) ?_
        exact W.vret hx hb hr (fun t ht hW => ⟨⟨v_8, rfl, he.symm, by rw [ht]; exact hP, va_K.moved hW.alike hK, hD⟩, hS.F ht⟩) hS.2.2 d_Rn_goThrough_51
  · have he := he.trans (if_pos c_1)
    refine lv_aload_n hx hb d_Rn_goThrough_6 rfl (lv_at hl 0 rfl) ?_
    refine lv_bipush (v := 9) hx hb d_Rn_goThrough_7 (by decide) ?_
    refine wx_cv (wS := fun v : TRn => w_R ad ca b v) (ws2 := fun v : TRn => w_R ad ca b v) (va_runV (As := [.int 9]) (rest := []) ⟨hx, hb, hml, hown, ht⟩ (c_Rn_fail l dC dI ad ca s.heap.size b u 9 _ rfl) (cwV 1 ht (tb_V q_275 q_277 q_3 q_46 q_278) rfl rfl rfl p_Rn_fail ⟨show 0 + 1 ≤ rf + 7 by omega, show 8 + (2 + 11) + 0 ≤ rl + 157 by omega⟩) (wx_preV (wc := (w_R ad ca b u)) hN hK hP hD [0, 1, 2, 3, 4, 5, 6, 7, 8, 9, 10, 11, 12, 13, 14] [0, 1, 2, 3, 4, 5, 6, 7, 8, 9, 10, 11] rfl (by decide) rfl (ci := 2) (q0 := 0) rfl rfl) rfl rfl hl.1 rfl (lv_room (Nat.le_of_ble_eq_true rfl)) d_Rn_goThrough_9 ⟨Nat.zero_le _, Nat.zero_le _⟩) hP hD hS hA [0, 1, 2, 3, 4, 5, 6, 7, 8, 9, 10, 11, 12, 13, 14] [] [0, 1, 2, 3, 4, 5, 6, 7, 8, 9, 10, 11, 12, 13, 14] rfl rfl (by decide) (by decide) (by decide) (fun _ => rfl) (fun v_9 H locs hw_9 hP hD hS => ?_)
    have hP : va_P (dC, dI) vwCl (w_R ad ca b v_9) H := hP
    have hD : va_D A (w_R ad ca b v_9) := hD
    rw [← hw_9] at he
    try dsimp only at he
    refine lv_goto (tgt := 51) hx hb d_Rn_goThrough_12 (by decide) ?_
    exact W.vret hx hb hr (fun t ht hW => ⟨⟨v_9, rfl, he.symm, by rw [ht]; exact hP, va_K.moved hW.alike hK, hD⟩, hS.F ht⟩) hS.2.2 d_Rn_goThrough_51
end
section
theorem oc_put (b : TBk) (u : TRn) (t : Int32) : oc (f_Rn_putOut b u t) = oc u := by
  unfold f_Rn_putOut
  dsimp only
  repeat' split
  all_goals first
    | exact oc_fail b u 9
    | rfl
theorem oc_gt (op : TBk → TRn → Int32 → TRn) (k : Int) (hopm : ∀ (b : TBk) (u : TRn) (w : Int32), k ≤ oc u → oc u ≤ oc (op b u w)) {b : TBk} {u v : TRn} {t : Int32} (h : v = f_Rn_goThrough op b u t) (hk : k ≤ 0) (hb : 0 ≤ oc u) : 0 ≤ oc v := by
  rw [h]
  unfold f_Rn_goThrough
  split
  · dsimp only
    rw [oc_fail]
    exact hb
  · rcases hl : f_Rn_takeIn op b u t 0 with ⟨r, w⟩
    have h3 : (0 : Int32).toInt ≤ oc w := oc_take op k hopm hl.symm (by rw [Int32.toInt_zero]; exact hk) (by rw [Int32.toInt_zero]; exact hb)
    rw [Int32.toInt_zero] at h3
    dsimp only
    repeat' split
    all_goals first
      | (rw [oc_put]; exact h3)
      | (rw [oc_fail]; exact h3)
      | with_reducible exact h3
theorem oc_forget {b : TBk} {u v : TRn} (h : v = f_Rn_forget b u) : (0 : Int) ≤ oc v := by
  rw [h]
  show (0 : Int) ≤ (0 : Int32).toInt
  decide
end
section
theorem q_0 : Cond.selects R_Rn y_Rn_forget y_Rn_forget ∈ TB := tq 0 (by decide +kernel) rfl
theorem q_2 : Cond.selects R_Rn y_Rn_goThrough y_Rn_goThrough ∈ TB := tq 2 (by decide +kernel) rfl
theorem q_125 : Cond.methodLink R_Rn 38 y_Rn_forget ∈ TB := tq 125 (by decide +kernel) rfl
theorem q_127 : Cond.instanceMethod y_Rn_forget ∈ TB := tq 127 (by decide +kernel) rfl
theorem q_128 : Cond.code y_Rn_forget b_Rn_forget 1 (none : Option Jvm.ClassFile.FieldType) ∈ TB := tq 128 (by decide +kernel) rfl
theorem q_245 : Cond.methodLink R_Ct 62 y_Rn_goThroughInput ∈ TB := tq 245 (by decide +kernel) rfl
theorem q_246 : Cond.instanceMethod y_Rn_goThroughInput ∈ TB := tq 246 (by decide +kernel) rfl
theorem q_247 : Cond.selects R_Rn y_Rn_goThroughInput y_Rn_goThroughInput ∈ TB := tq 247 (by decide +kernel) rfl
theorem q_248 : Cond.code y_Rn_goThroughInput b_Rn_goThroughInput 3 (some .int) ∈ TB := tq 248 (by decide +kernel) rfl
theorem q_249 : Cond.methodLink R_Rn 41 y_Rd_restart ∈ TB := tq 249 (by decide +kernel) rfl
theorem q_250 : Cond.instanceMethod y_Rd_restart ∈ TB := tq 250 (by decide +kernel) rfl
theorem q_251 : Cond.selects R_Rd y_Rd_restart y_Rd_restart ∈ TB := tq 251 (by decide +kernel) rfl
theorem q_252 : Cond.code y_Rd_restart b_Rd_restart 1 (none : Option Jvm.ClassFile.FieldType) ∈ TB := tq 252 (by decide +kernel) rfl
theorem q_271 : Cond.methodLink R_Rn 53 y_Rn_goThrough ∈ TB := tq 271 (by decide +kernel) rfl
theorem q_273 : Cond.instanceMethod y_Rn_goThrough ∈ TB := tq 273 (by decide +kernel) rfl
theorem q_274 : Cond.code y_Rn_goThrough b_Rn_goThrough 2 (none : Option Jvm.ClassFile.FieldType) ∈ TB := tq 274 (by decide +kernel) rfl
theorem d_Rn_goThroughInput_0 : decode b_Rn_goThroughInput 0 = .ok (.aload_n 0, 1) := by decide +kernel
theorem d_Rn_goThroughInput_1 : decode b_Rn_goThroughInput 1 = .ok (.invokevirtual 38, 3) := by decide +kernel
theorem d_Rn_goThroughInput_4 : decode b_Rn_goThroughInput 4 = .ok (.aload_n 0, 1) := by decide +kernel
theorem d_Rn_goThroughInput_5 : decode b_Rn_goThroughInput 5 = .ok (.getfield 34, 3) := by decide +kernel
theorem d_Rn_goThroughInput_8 : decode b_Rn_goThroughInput 8 = .ok (.invokevirtual 41, 3) := by decide +kernel
theorem d_Rn_goThroughInput_11 : decode b_Rn_goThroughInput 11 = .ok (.iconst 0, 1) := by decide +kernel
theorem d_Rn_goThroughInput_12 : decode b_Rn_goThroughInput 12 = .ok (.istore_n 1, 1) := by decide +kernel
theorem d_Rn_goThroughInput_13 : decode b_Rn_goThroughInput 13 = .ok (.iload_n 1, 1) := by decide +kernel
theorem d_Rn_goThroughInput_14 : decode b_Rn_goThroughInput 14 = .ok (.ldc 44, 2) := by decide +kernel
theorem d_Rn_goThroughInput_16 : decode b_Rn_goThroughInput 16 = .ok (.if_icmp .ge 37, 3) := by decide +kernel
theorem d_Rn_goThroughInput_19 : decode b_Rn_goThroughInput 19 = .ok (.aload_n 0, 1) := by decide +kernel
theorem d_Rn_goThroughInput_20 : decode b_Rn_goThroughInput 20 = .ok (.getfield 45, 3) := by decide +kernel
theorem d_Rn_goThroughInput_23 : decode b_Rn_goThroughInput 23 = .ok (.ifCond .ne 30, 3) := by decide +kernel
theorem d_Rn_goThroughInput_26 : decode b_Rn_goThroughInput 26 = .ok (.aload_n 0, 1) := by decide +kernel
theorem d_Rn_goThroughInput_27 : decode b_Rn_goThroughInput 27 = .ok (.getfield 34, 3) := by decide +kernel
theorem d_Rn_goThroughInput_30 : decode b_Rn_goThroughInput 30 = .ok (.invokevirtual 49, 3) := by decide +kernel
theorem d_Rn_goThroughInput_33 : decode b_Rn_goThroughInput 33 = .ok (.istore_n 2, 1) := by decide +kernel
theorem d_Rn_goThroughInput_34 : decode b_Rn_goThroughInput 34 = .ok (.iload_n 2, 1) := by decide +kernel
theorem d_Rn_goThroughInput_35 : decode b_Rn_goThroughInput 35 = .ok (.iconst (-1), 1) := by decide +kernel
theorem d_Rn_goThroughInput_36 : decode b_Rn_goThroughInput 36 = .ok (.if_icmp .ne 6, 3) := by decide +kernel
theorem d_Rn_goThroughInput_39 : decode b_Rn_goThroughInput 39 = .ok (.goto 14, 3) := by decide +kernel
theorem d_Rn_goThroughInput_42 : decode b_Rn_goThroughInput 42 = .ok (.aload_n 0, 1) := by decide +kernel
theorem d_Rn_goThroughInput_43 : decode b_Rn_goThroughInput 43 = .ok (.iload_n 2, 1) := by decide +kernel
theorem d_Rn_goThroughInput_44 : decode b_Rn_goThroughInput 44 = .ok (.invokevirtual 53, 3) := by decide +kernel
theorem d_Rn_goThroughInput_47 : decode b_Rn_goThroughInput 47 = .ok (.iinc 1 1, 3) := by decide +kernel
theorem d_Rn_goThroughInput_50 : decode b_Rn_goThroughInput 50 = .ok (.goto (-37), 3) := by decide +kernel
theorem d_Rn_goThroughInput_53 : decode b_Rn_goThroughInput 53 = .ok (.aload_n 0, 1) := by decide +kernel
theorem d_Rn_goThroughInput_54 : decode b_Rn_goThroughInput 54 = .ok (.getfield 45, 3) := by decide +kernel
theorem d_Rn_goThroughInput_57 : decode b_Rn_goThroughInput 57 = .ok (.ifCond .ne 15, 3) := by decide +kernel
theorem d_Rn_goThroughInput_60 : decode b_Rn_goThroughInput 60 = .ok (.aload_n 0, 1) := by decide +kernel
theorem d_Rn_goThroughInput_61 : decode b_Rn_goThroughInput 61 = .ok (.getfield 57, 3) := by decide +kernel
theorem d_Rn_goThroughInput_64 : decode b_Rn_goThroughInput 64 = .ok (.ifCond .le 8, 3) := by decide +kernel
theorem d_Rn_goThroughInput_67 : decode b_Rn_goThroughInput 67 = .ok (.aload_n 0, 1) := by decide +kernel
theorem d_Rn_goThroughInput_68 : decode b_Rn_goThroughInput 68 = .ok (.iconst 1, 1) := by decide +kernel
theorem d_Rn_goThroughInput_69 : decode b_Rn_goThroughInput 69 = .ok (.invokevirtual 60, 3) := by decide +kernel
theorem d_Rn_goThroughInput_72 : decode b_Rn_goThroughInput 72 = .ok (.aload_n 0, 1) := by decide +kernel
theorem d_Rn_goThroughInput_73 : decode b_Rn_goThroughInput 73 = .ok (.getfield 45, 3) := by decide +kernel
theorem d_Rn_goThroughInput_76 : decode b_Rn_goThroughInput 76 = .ok (.ifCond .ne 10, 3) := by decide +kernel
theorem d_Rn_goThroughInput_79 : decode b_Rn_goThroughInput 79 = .ok (.aload_n 0, 1) := by decide +kernel
theorem d_Rn_goThroughInput_80 : decode b_Rn_goThroughInput 80 = .ok (.getfield 63, 3) := by decide +kernel
theorem d_Rn_goThroughInput_83 : decode b_Rn_goThroughInput 83 = .ok (.goto 8, 3) := by decide +kernel
theorem d_Rn_goThroughInput_86 : decode b_Rn_goThroughInput 86 = .ok (.aload_n 0, 1) := by decide +kernel
theorem d_Rn_goThroughInput_87 : decode b_Rn_goThroughInput 87 = .ok (.getfield 45, 3) := by decide +kernel
theorem d_Rn_goThroughInput_90 : decode b_Rn_goThroughInput 90 = .ok (.ineg, 1) := by decide +kernel
theorem d_Rn_goThroughInput_91 : decode b_Rn_goThroughInput 91 = .ok (.ireturn, 1) := by decide +kernel
theorem d_Ct_run_0 : decode b_Ct_run 0 = .ok (.aload_n 0, 1) := by decide +kernel
theorem d_Ct_run_1 : decode b_Ct_run 1 = .ok (.getfield 21, 3) := by decide +kernel
theorem d_Ct_run_4 : decode b_Ct_run 4 = .ok (.invokevirtual 62, 3) := by decide +kernel
theorem d_Ct_run_7 : decode b_Ct_run 7 = .ok (.ireturn, 1) := by decide +kernel
noncomputable def f_Rn_goThroughInput_53 (op : TBk → TRn → Int32 → TRn) (b : TBk) (u : TRn) : (Int32 × TRn) := (if (TRn_fault u) = 0 then (if (TRn_openCount u) ≤ 0 then ((TRn_outSize u), u) else (let v_5 := f_Rn_fail b u 1; (if (TRn_fault v_5) = 0 then ((TRn_outSize v_5), v_5) else ((-(TRn_fault v_5)), v_5)))) else ((-(TRn_fault u)), u))
set_option maxHeartbeats 4000000 in
set_option maxRecDepth 100000 in
theorem k_Rn_goThroughInput_53 {p : Program} {e : Env} {s : State} {m : MethodId} {args : Array Value} {below : List Frame} {meth : Method} {c : Code} {A : Nat → Prop} (l : Launch) (dC : Nat → ClassId) (dI : Nat → Nat → Nat) (ad : Nat → Nat) (ca : Nat → ClassId) (op : TBk → TRn → Int32 → TRn) (rf rl : Nat) (k : Int) (hopm : ∀ (b : TBk) (u : TRn) (w : Int32), k ≤ oc u → oc u ≤ oc (op b u w)) (hop : ∀ (sz : Nat) (b : TBk) (u : TRn) (w : Int32), BkS b ∧ k ≤ oc u → wx_Mv l y_Rn_open ws_Rn_open ({ frames := rf, cells := 0, slots := 0, locals := rl } : Room) (dC, dI) vwCl (t_R ca) [.ref (ad 0), .int w] (w_R ad ca b u) sz (fun v : TRn => w_R ad ca b v) (fun v : TRn => v = op b u w)) (C0 : wx_C p s m args meth c b_Rn_goThroughInput (some .int) 3 R_Rn A (dC, dI) vwCl (t_R ca)) (F : (Int32 × TRn)) : ∀ (b : TBk) (u : TRn), (BkS b ∧ k ≤ 0) → F = f_Rn_goThroughInput_53 op b u → ∀ (H : Heap) (locs : List Loc), va_P (dC, dI) vwCl (w_R ad ca b u) H → va_D A (w_R ad ca b u) → va_S A s.heap H locs → ∀ (ls : Array Slot), lv_has ls 3 [(0, .ref (ad 0))] → W p l e ({ frames := rf + 8, cells := 0, slots := 0, locals := rl + 178 } : Room) s m args below meth c H locs 0 0 (MQ below (va_Qi (fun (r : Int32) (v : TRn) => (r, v) = F) (wx_B (dC, dI) vwCl (t_R ca) (fun v : TRn => w_R ad ca b v) A) A) args s 0 0 A) (F0 m 53 ls []) := by
  have C1 := C0
  obtain ⟨hx, hb, hr, hml, hown, ht, hlocks, hA, hK, hN⟩ := C1
  intro b u hpre he H locs hP hD hS ls hl
  unfold f_Rn_goThroughInput_53 at he
  refine lv_aload_n hx hb d_Rn_goThroughInput_53 rfl (lv_at hl 0 rfl) ?_
  refine va_get (D := (dC, dI)) (ci := 2) (v := .int (TRn_fault u)) (C := R_Rn) (T := T_Rn) (N := 12) hx hb ht i_Rn hown hK hP 0 rfl rfl 11 (by decide) (ht _ q_143) (fun _ h9 => h9) rfl d_Rn_goThroughInput_54 ?_
  refine lv_if_ne (tgt := 72) hx hb d_Rn_goThroughInput_57 (by decide) (fun c_1 => ?_) (fun c_1 => ?_)
  · have he := he.trans (if_neg c_1)
    refine lv_aload_n hx hb d_Rn_goThroughInput_72 rfl (lv_at hl 0 rfl) ?_
    refine va_get (D := (dC, dI)) (ci := 2) (v := .int (TRn_fault u)) (C := R_Rn) (T := T_Rn) (N := 12) hx hb ht i_Rn hown hK hP 0 rfl rfl 11 (by decide) (ht _ q_143) (fun _ h9 => h9) rfl d_Rn_goThroughInput_73 ?_
    refine lv_if_ne (tgt := 86) hx hb d_Rn_goThroughInput_76 (by decide) (fun c_2 => ?_) (fun c_2 => ?_)
    · refine lv_aload_n hx hb d_Rn_goThroughInput_86 rfl (lv_at hl 0 rfl) ?_
      refine va_get (D := (dC, dI)) (ci := 2) (v := .int (TRn_fault u)) (C := R_Rn) (T := T_Rn) (N := 12) hx hb ht i_Rn hown hK hP 0 rfl rfl 11 (by decide) (ht _ q_143) (fun _ h9 => h9) rfl d_Rn_goThroughInput_87 ?_
      refine lv_ineg hx hb d_Rn_goThroughInput_90 ?_
      exact W.iret hx hb hr (v := (-(TRn_fault u))) (fun t ht hW => ⟨⟨(-(TRn_fault u)), u, rfl, he.symm, by rw [ht]; exact hP, va_K.moved hW.alike hK, hD⟩, hS.F ht⟩) hS.2.2 d_Rn_goThroughInput_91
    · exact absurd c_2 c_1
  · have he := he.trans (if_pos c_1)
    refine lv_aload_n hx hb d_Rn_goThroughInput_60 rfl (lv_at hl 0 rfl) ?_
    refine va_get (D := (dC, dI)) (ci := 2) (v := .int (TRn_openCount u)) (C := R_Rn) (T := T_Rn) (N := 12) hx hb ht i_Rn hown hK hP 0 rfl rfl 7 (by decide) (ht _ q_139) (fun _ h9 => h9) rfl d_Rn_goThroughInput_61 ?_
    refine lv_if_le (tgt := 72) hx hb d_Rn_goThroughInput_64 (by decide) (fun c_3 => ?_) (fun c_3 => ?_)
    · have he := he.trans (if_pos c_3)
      refine lv_aload_n hx hb d_Rn_goThroughInput_72 rfl (lv_at hl 0 rfl) ?_
      refine va_get (D := (dC, dI)) (ci := 2) (v := .int (TRn_fault u)) (C := R_Rn) (T := T_Rn) (N := 12) hx hb ht i_Rn hown hK hP 0 rfl rfl 11 (by decide) (ht _ q_143) (fun _ h9 => h9) rfl d_Rn_goThroughInput_73 ?_
      refine lv_if_ne (tgt := 86) hx hb d_Rn_goThroughInput_76 (by decide) (fun c_4 => ?_) (fun c_4 => ?_)
      · exact absurd c_1 c_4
      · refine lv_aload_n hx hb d_Rn_goThroughInput_79 rfl (lv_at hl 0 rfl) ?_
        refine va_get (D := (dC, dI)) (ci := 2) (v := .int (TRn_outSize u)) (C := R_Rn) (T := T_Rn) (N := 12) hx hb ht i_Rn hown hK hP 0 rfl rfl 6 (by decide) (ht _ q_138) (fun _ h9 => h9) rfl d_Rn_goThroughInput_80 ?_
        refine lv_goto (tgt := 91) hx hb d_Rn_goThroughInput_83 (by decide) ?_
        exact W.iret hx hb hr (v := (TRn_outSize u)) (fun t ht hW => ⟨⟨(TRn_outSize u), u, rfl, he.symm, by rw [ht]; exact hP, va_K.moved hW.alike hK, hD⟩, hS.F ht⟩) hS.2.2 d_Rn_goThroughInput_91
    · have he := he.trans (if_neg c_3)
      refine lv_aload_n hx hb d_Rn_goThroughInput_67 rfl (lv_at hl 0 rfl) ?_
      refine lv_iconst (v := 1) hx hb d_Rn_goThroughInput_68 (by decide) ?_
      refine wx_cv (wS := fun v : TRn => w_R ad ca b v) (ws2 := fun v : TRn => w_R ad ca b v) (va_runV (As := [.int 1]) (rest := []) ⟨hx, hb, hml, hown, ht⟩ (c_Rn_fail l dC dI ad ca H.size b u 1 _ rfl) (cwV 1 ht (tb_V q_275 q_277 q_3 q_46 q_278) rfl rfl rfl p_Rn_fail ⟨show 0 + 1 ≤ rf + 8 by omega, show 8 + (2 + 11) + 0 ≤ rl + 178 by omega⟩) (wx_preV (wc := (w_R ad ca b u)) hN hK hP hD [0, 1, 2, 3, 4, 5, 6, 7, 8, 9, 10, 11, 12, 13, 14] [0, 1, 2, 3, 4, 5, 6, 7, 8, 9, 10, 11] rfl (by decide) rfl (ci := 2) (q0 := 0) rfl rfl) rfl rfl hl.1 rfl (lv_room (Nat.le_of_ble_eq_true rfl)) d_Rn_goThroughInput_69 ⟨Nat.zero_le _, Nat.zero_le _⟩) hP hD hS hA [0, 1, 2, 3, 4, 5, 6, 7, 8, 9, 10, 11, 12, 13, 14] [] [0, 1, 2, 3, 4, 5, 6, 7, 8, 9, 10, 11, 12, 13, 14] rfl rfl (by decide) (by decide) (by decide) (fun _ => rfl) (fun v_5 H locs hw_5 hP hD hS => ?_)
      have hP : va_P (dC, dI) vwCl (w_R ad ca b v_5) H := hP
      have hD : va_D A (w_R ad ca b v_5) := hD
      rw [← hw_5] at he
      try dsimp only at he
      refine lv_aload_n hx hb d_Rn_goThroughInput_72 rfl (lv_at hl 0 rfl) ?_
      refine va_get (D := (dC, dI)) (ci := 2) (v := .int (TRn_fault v_5)) (C := R_Rn) (T := T_Rn) (N := 12) hx hb ht i_Rn hown hK hP 0 rfl rfl 11 (by decide) (ht _ q_143) (fun _ h9 => h9) rfl d_Rn_goThroughInput_73 ?_
      refine lv_if_ne (tgt := 86) hx hb d_Rn_goThroughInput_76 (by decide) (fun c_6 => ?_) (fun c_6 => ?_)
      · have he := he.trans (if_neg c_6)
        refine lv_aload_n hx hb d_Rn_goThroughInput_86 rfl (lv_at hl 0 rfl) ?_
        refine va_get (D := (dC, dI)) (ci := 2) (v := .int (TRn_fault v_5)) (C := R_Rn) (T := T_Rn) (N := 12) hx hb ht i_Rn hown hK hP 0 rfl rfl 11 (by decide) (ht _ q_143) (fun _ h9 => h9) rfl d_Rn_goThroughInput_87 ?_
        refine lv_ineg hx hb d_Rn_goThroughInput_90 ?_
        exact W.iret hx hb hr (v := (-(TRn_fault v_5))) (fun t ht hW => ⟨⟨(-(TRn_fault v_5)), v_5, rfl, he.symm, by rw [ht]; exact hP, va_K.moved hW.alike hK, hD⟩, hS.F ht⟩) hS.2.2 d_Rn_goThroughInput_91
      · have he := he.trans (if_pos c_6)
        refine lv_aload_n hx hb d_Rn_goThroughInput_79 rfl (lv_at hl 0 rfl) ?_
        refine va_get (D := (dC, dI)) (ci := 2) (v := .int (TRn_outSize v_5)) (C := R_Rn) (T := T_Rn) (N := 12) hx hb ht i_Rn hown hK hP 0 rfl rfl 6 (by decide) (ht _ q_138) (fun _ h9 => h9) rfl d_Rn_goThroughInput_80 ?_
        refine lv_goto (tgt := 91) hx hb d_Rn_goThroughInput_83 (by decide) ?_
        exact W.iret hx hb hr (v := (TRn_outSize v_5)) (fun t ht hW => ⟨⟨(TRn_outSize v_5), v_5, rfl, he.symm, by rw [ht]; exact hP, va_K.moved hW.alike hK, hD⟩, hS.F ht⟩) hS.2.2 d_Rn_goThroughInput_91
noncomputable def f_Rn_goThroughInput_13 (op : TBk → TRn → Int32 → TRn) : Nat → TBk → TRn → Int32 → (Int32 × TRn)
  | 0, _, u, _ => (0, u)
  | n + 1, b, u, x1 => (if 1000000 ≤ x1 then (f_Rn_goThroughInput_53 op b u) else (if (TRn_fault u) = 0 then (match f_Rd_look b (TRn_rd u) with | (r_3, v_3) => (if r_3 = (-1) then (f_Rn_goThroughInput_53 op b (TRn_set_rd u v_3)) else (let v_5 := f_Rn_goThrough op b (TRn_set_rd u v_3) r_3; (f_Rn_goThroughInput_13 op n b v_5 (x1 + 1))))) else (f_Rn_goThroughInput_53 op b u)))
set_option maxHeartbeats 4000000 in
set_option maxRecDepth 100000 in
theorem k_Rn_goThroughInput_13 {p : Program} {e : Env} {s : State} {m : MethodId} {args : Array Value} {below : List Frame} {meth : Method} {c : Code} {A : Nat → Prop} (l : Launch) (dC : Nat → ClassId) (dI : Nat → Nat → Nat) (ad : Nat → Nat) (ca : Nat → ClassId) (op : TBk → TRn → Int32 → TRn) (rf rl : Nat) (k : Int) (hopm : ∀ (b : TBk) (u : TRn) (w : Int32), k ≤ oc u → oc u ≤ oc (op b u w)) (hop : ∀ (sz : Nat) (b : TBk) (u : TRn) (w : Int32), BkS b ∧ k ≤ oc u → wx_Mv l y_Rn_open ws_Rn_open ({ frames := rf, cells := 0, slots := 0, locals := rl } : Room) (dC, dI) vwCl (t_R ca) [.ref (ad 0), .int w] (w_R ad ca b u) sz (fun v : TRn => w_R ad ca b v) (fun v : TRn => v = op b u w)) (C0 : wx_C p s m args meth c b_Rn_goThroughInput (some .int) 3 R_Rn A (dC, dI) vwCl (t_R ca)) (F : (Int32 × TRn)) : ∀ (n : Nat) (b : TBk) (u : TRn) (x1 : Int32), (BkS b ∧ k ≤ 0) → ((0 ≤ oc u) ∧ TLn 1000000 x1 n) → F = f_Rn_goThroughInput_13 op n b u x1 → ∀ (H : Heap) (locs : List Loc), va_P (dC, dI) vwCl (w_R ad ca b u) H → va_D A (w_R ad ca b u) → va_S A s.heap H locs → ∀ (ls : Array Slot), lv_has ls 3 [(0, .ref (ad 0)), (1, .int x1)] → W p l e ({ frames := rf + 8, cells := 0, slots := 0, locals := rl + 178 } : Room) s m args below meth c H locs 0 0 (MQ below (va_Qi (fun (r : Int32) (v : TRn) => (r, v) = F) (wx_B (dC, dI) vwCl (t_R ca) (fun v : TRn => w_R ad ca b v) A) A) args s 0 0 A) (F0 m 13 ls []) := by
  have C1 := C0
  obtain ⟨hx, hb, hr, hml, hown, ht, hlocks, hA, hK, hN⟩ := C1
  intro n
  induction n with
  | zero =>
    intro b u x1 hpre hc he
    exact absurd hc (fun h => TLn_0 h.2)
  | succ n ih =>
    intro b u x1 hpre hc he H locs hP hD hS ls hl
    rw [f_Rn_goThroughInput_13] at he
    refine lv_iload_n hx hb d_Rn_goThroughInput_13 rfl (lv_at hl 1 rfl) ?_
    refine lv_ldc (v := 1000000) hx hb hown (ht _ q_257) d_Rn_goThroughInput_14 ?_
    refine lv_icmp_ge (tgt := 53) hx hb d_Rn_goThroughInput_16 (by decide) (fun c_1 => ?_) (fun c_1 => ?_)
    · have he := he.trans (if_pos c_1)
      exact k_Rn_goThroughInput_53 l dC dI ad ca op rf rl k hopm hop C0 F b u hpre he _ _ hP hD hS _ (lv_sub hl [0] rfl)
    · have he := he.trans (if_neg c_1)
      refine lv_aload_n hx hb d_Rn_goThroughInput_19 rfl (lv_at hl 0 rfl) ?_
      refine va_get (D := (dC, dI)) (ci := 2) (v := .int (TRn_fault u)) (C := R_Rn) (T := T_Rn) (N := 12) hx hb ht i_Rn hown hK hP 0 rfl rfl 11 (by decide) (ht _ q_143) (fun _ h9 => h9) rfl d_Rn_goThroughInput_20 ?_
      refine lv_if_ne (tgt := 53) hx hb d_Rn_goThroughInput_23 (by decide) (fun c_2 => ?_) (fun c_2 => ?_)
      · have he := he.trans (if_neg c_2)
        exact k_Rn_goThroughInput_53 l dC dI ad ca op rf rl k hopm hop C0 F b u hpre he _ _ hP hD hS _ (lv_sub hl [0] rfl)
      · have he := he.trans (if_pos c_2)
        refine lv_aload_n hx hb d_Rn_goThroughInput_26 rfl (lv_at hl 0 rfl) ?_
        refine va_get (D := (dC, dI)) (ci := 2) (v := .ref (ad 5)) (C := R_Rn) (T := T_Rn) (N := 12) hx hb ht i_Rn hown hK hP 0 rfl rfl 1 (by decide) (ht _ q_133) (fun _ h9 => h9) rfl d_Rn_goThroughInput_27 ?_
        refine wx_ci (wS := fun v : TRd => w_D ad ca b v) (ws2 := fun v : TRd => w_R ad ca b (TRn_set_rd u v)) (va_runV (As := []) (rest := []) ⟨hx, hb, hml, hown, ht⟩ (c_Rd_look l dC dI ad ca H.size b (TRn_rd u) hpre.1 _ rfl) (cwV 0 ht (tb_V q_258 q_259 q_260 q_47 q_261) rfl rfl rfl p_Rd_look ⟨show 2 + 1 ≤ rf + 8 by omega, show 8 + (2 + 11) + 44 ≤ rl + 178 by omega⟩) (wx_preV (wc := (w_D ad ca b (TRn_rd u))) hN hK hP hD [5, 6, 7, 8, 9, 10, 11, 12, 13, 14] [4, 5, 6, 7, 8, 9, 10, 11] rfl (by decide) rfl (ci := 1) (q0 := 0) rfl rfl) rfl rfl hl.1 rfl (lv_room (Nat.le_of_ble_eq_true rfl)) d_Rn_goThroughInput_30 ⟨Nat.zero_le _, Nat.zero_le _⟩) hP hD hS hA [5, 6, 7, 8, 9, 10, 11, 12, 13, 14] [0, 1, 2, 3, 4] [0, 1, 2, 3, 4, 5, 6, 7, 8, 9, 10, 11, 12, 13, 14] rfl rfl (by decide) (by decide) (by decide) (fun _ => rfl) (fun r_3 v_3 H locs hw_3 hP hD hS => ?_)
        have hP : va_P (dC, dI) vwCl (w_R ad ca b (TRn_set_rd u v_3)) H := hP
        have hD : va_D A (w_R ad ca b (TRn_set_rd u v_3)) := hD
        rw [← hw_3] at he
        try dsimp only at he
        refine lv_istore_n (lv' := [(2, .int r_3), (0, .ref (ad 0)), (1, .int x1)]) hx hb d_Rn_goThroughInput_33 rfl hl (by decide) rfl (fun ls hl => ?_)
        refine lv_iload_n hx hb d_Rn_goThroughInput_34 rfl (lv_at hl 0 rfl) ?_
        refine lv_iconst (v := (-1)) hx hb d_Rn_goThroughInput_35 (by decide) ?_
        refine lv_icmp_ne (tgt := 42) hx hb d_Rn_goThroughInput_36 (by decide) (fun c_4 => ?_) (fun c_4 => ?_)
        · have he := he.trans (if_neg c_4)
          refine lv_aload_n hx hb d_Rn_goThroughInput_42 rfl (lv_at hl 1 rfl) ?_
          refine lv_iload_n hx hb d_Rn_goThroughInput_43 rfl (lv_at hl 0 rfl) ?_
          refine wx_cv (wS := fun v : TRn => w_R ad ca b v) (ws2 := fun v : TRn => w_R ad ca b v) (va_runV (As := [.int r_3]) (rest := []) ⟨hx, hb, hml, hown, ht⟩ (c_Rn_goThrough l dC dI ad ca op rf rl k hopm hop H.size b (TRn_set_rd u v_3) r_3 ⟨hpre.1, hpre.2, hc.1⟩ _ rfl) (cwV 1 ht (tb_V q_271 q_273 q_2 q_46 q_274) rfl rfl rfl p_Rn_goThrough ⟨show (rf + 7) + 1 ≤ rf + 8 by omega, show 8 + (2 + 11) + (rl + 157) ≤ rl + 178 by omega⟩) (wx_preV (wc := (w_R ad ca b (TRn_set_rd u v_3))) hN hK hP hD [0, 1, 2, 3, 4, 5, 6, 7, 8, 9, 10, 11, 12, 13, 14] [0, 1, 2, 3, 4, 5, 6, 7, 8, 9, 10, 11] rfl (by decide) rfl (ci := 2) (q0 := 0) rfl rfl) rfl rfl hl.1 rfl (lv_room (Nat.le_of_ble_eq_true rfl)) d_Rn_goThroughInput_44 ⟨Nat.zero_le _, Nat.zero_le _⟩) hP hD hS hA [0, 1, 2, 3, 4, 5, 6, 7, 8, 9, 10, 11, 12, 13, 14] [] [0, 1, 2, 3, 4, 5, 6, 7, 8, 9, 10, 11, 12, 13, 14] rfl rfl (by decide) (by decide) (by decide) (fun _ => rfl) (fun v_5 H locs hw_5 hP hD hS => ?_)
          have hP : va_P (dC, dI) vwCl (w_R ad ca b v_5) H := hP
          have hD : va_D A (w_R ad ca b v_5) := hD
          rw [← hw_5] at he
          try dsimp only at he
          refine lv_iinc (v := (x1 + 1)) (lv' := [(1, .int (x1 + 1)), (2, .int r_3), (0, .ref (ad 0))]) hx hb d_Rn_goThroughInput_47 hl (k := 2) rfl rfl (by decide) rfl (fun ls hl => ?_)
          refine lv_goto (tgt := 13) hx hb d_Rn_goThroughInput_50 (by decide) ?_
          exact ih b v_5 (x1 + 1) hpre ⟨oc_gt op k hopm hw_5 hpre.2 hc.1, TLn_s hc.2 (by decide) c_1⟩ he _ _ hP hD hS _ (lv_sub hl [2, 0] rfl)
        · have he := he.trans (if_pos c_4)
          refine lv_goto (tgt := 53) hx hb d_Rn_goThroughInput_39 (by decide) ?_
          exact k_Rn_goThroughInput_53 l dC dI ad ca op rf rl k hopm hop C0 F b (TRn_set_rd u v_3) hpre he _ _ hP hD hS _ (lv_sub hl [1] rfl)
noncomputable def f_Rn_goThroughInput (op : TBk → TRn → Int32 → TRn) (b : TBk) (u : TRn) : (Int32 × TRn) := (let v_1 := f_Rn_forget b u; (let v_2 := f_Rd_restart b (TRn_rd v_1); (f_Rn_goThroughInput_13 op TM b (TRn_set_rd v_1 v_2) 0)))
set_option maxHeartbeats 4000000 in
set_option maxRecDepth 100000 in
theorem c_Rn_goThroughInput (l : Launch) (dC : Nat → ClassId) (dI : Nat → Nat → Nat) (ad : Nat → Nat) (ca : Nat → ClassId) (op : TBk → TRn → Int32 → TRn) (rf rl : Nat) (k : Int) (hopm : ∀ (b : TBk) (u : TRn) (w : Int32), k ≤ oc u → oc u ≤ oc (op b u w)) (hop : ∀ (sz : Nat) (b : TBk) (u : TRn) (w : Int32), BkS b ∧ k ≤ oc u → wx_Mv l y_Rn_open ws_Rn_open ({ frames := rf, cells := 0, slots := 0, locals := rl } : Room) (dC, dI) vwCl (t_R ca) [.ref (ad 0), .int w] (w_R ad ca b u) sz (fun v : TRn => w_R ad ca b v) (fun v : TRn => v = op b u w)) (sz : Nat) (b : TBk) (u : TRn) (hpre : BkS b ∧ k ≤ 0) (F : (Int32 × TRn)) (he : F = f_Rn_goThroughInput op b u) : wx_Mi l y_Rn_goThroughInput ws_Rn_goThroughInput ({ frames := rf + 8, cells := 0, slots := 0, locals := rl + 178 } : Room) (dC, dI) vwCl (t_R ca) [.ref (ad 0)] (w_R ad ca b u) sz (fun v : TRn => w_R ad ca b v) (fun (r : Int32) (v : TRn) => (r, v) = F) := by
  refine Met.ofW (cc := b_Rn_goThroughInput) (maxL := 3) (ret := some .int) (by decide) rfl ?_
  intro p e s m args below meth c s₁ B hml hv
  obtain ⟨rfl, hsz, hP, hK, hD0, hN⟩ := hv
  have hx := B.exec
  have hb := B.bytes
  have hr := B.returns
  have hts := atoms_spec (ws := ws_Rn_goThroughInput) B.pre
  have ht : ∀ w ∈ TB, w.before _ s = true := fun w h => hts w (List.mem_cons_of_mem _ h)
  have hown : s.vm.findClass R_Rn = some m.cls := findClass_of_methodNamed B.named
  have hlocks := B.notSynchronized
  subst hsz
  have hD := hD0.self (sz := s.heap.size)
  generalize hAe : va_A (w_R ad ca b u) s.heap.size = A at hD ⊢
  have hA : ∀ q : Nat, s.heap.size ≤ q → A q := fun q h => by rw [← hAe]; exact Or.inr h
  have hS : va_S A s.heap s.heap [] := va_S.rf
  have C0 : wx_C p s m ([.ref (ad 0)] : List Value).toArray meth c b_Rn_goThroughInput (some .int) 3 R_Rn A (dC, dI) vwCl (t_R ca) := ⟨hx, hb, hr, hml, hown, ht, hlocks, hA, hK, hN⟩
  have hl := lv_entry ([.ref (ad 0)]) (n := 3) (Nat.le_of_ble_eq_true rfl)
  rw [lg_entry_eq]
  generalize (lg_sl ([.ref (ad 0)]) ++ List.replicate (3 - (lg_sl ([.ref (ad 0)])).length) Slot.unset).toArray = ls at hl ⊢
  have hl : lv_has ls 3 [(0, .ref (ad 0))] := hl
  unfold f_Rn_goThroughInput at he
  refine lv_aload_n hx hb d_Rn_goThroughInput_0 rfl (lv_at hl 0 rfl) ?_
  refine wx_cv (wS := fun v : TRn => w_R ad ca b v) (ws2 := fun v : TRn => w_R ad ca b v) (va_runV (As := []) (rest := []) ⟨hx, hb, hml, hown, ht⟩ (c_Rn_forget l dC dI ad ca s.heap.size b u _ rfl) (cwV 0 ht (tb_V q_125 q_127 q_0 q_46 q_128) rfl rfl rfl p_Rn_forget ⟨show 1 + 1 ≤ rf + 8 by omega, show 8 + (1 + 11) + 23 ≤ rl + 178 by omega⟩) (wx_preV (wc := (w_R ad ca b u)) hN hK hP hD [0, 1, 2, 3, 4, 5, 6, 7, 8, 9, 10, 11, 12, 13, 14] [0, 1, 2, 3, 4, 5, 6, 7, 8, 9, 10, 11] rfl (by decide) rfl (ci := 2) (q0 := 0) rfl rfl) rfl rfl hl.1 rfl (lv_room (Nat.le_of_ble_eq_true rfl)) d_Rn_goThroughInput_1 ⟨Nat.zero_le _, Nat.zero_le _⟩) hP hD hS hA [0, 1, 2, 3, 4, 5, 6, 7, 8, 9, 10, 11, 12, 13, 14] [] [0, 1, 2, 3, 4, 5, 6, 7, 8, 9, 10, 11, 12, 13, 14] rfl rfl (by decide) (by decide) (by decide) (fun _ => rfl) (fun v_1 H locs hw_1 hP hD hS => ?_)
  have hP : va_P (dC, dI) vwCl (w_R ad ca b v_1) H := hP
  have hD : va_D A (w_R ad ca b v_1) := hD
  rw [← hw_1] at he
  try dsimp only at he
  refine lv_aload_n hx hb d_Rn_goThroughInput_4 rfl (lv_at hl 0 rfl) ?_
  refine va_get (D := (dC, dI)) (ci := 2) (v := .ref (ad 5)) (C := R_Rn) (T := T_Rn) (N := 12) hx hb ht i_Rn hown hK hP 0 rfl rfl 1 (by decide) (ht _ q_133) (fun _ h9 => h9) rfl d_Rn_goThroughInput_5 ?_
  refine wx_cv (wS := fun v : TRd => w_D ad ca b v) (ws2 := fun v : TRd => w_R ad ca b (TRn_set_rd v_1 v)) (va_runV (As := []) (rest := []) ⟨hx, hb, hml, hown, ht⟩ (c_Rd_restart l dC dI ad ca H.size b (TRn_rd v_1) _ rfl) (cwV 0 ht (tb_V q_249 q_250 q_251 q_47 q_252) rfl rfl rfl p_Rd_restart ⟨show 1 + 1 ≤ rf + 8 by omega, show 8 + (1 + 11) + 21 ≤ rl + 178 by omega⟩) (wx_preV (wc := (w_D ad ca b (TRn_rd v_1))) hN hK hP hD [5, 6, 7, 8, 9, 10, 11, 12, 13, 14] [4, 5, 6, 7, 8, 9, 10, 11] rfl (by decide) rfl (ci := 1) (q0 := 0) rfl rfl) rfl rfl hl.1 rfl (lv_room (Nat.le_of_ble_eq_true rfl)) d_Rn_goThroughInput_8 ⟨Nat.zero_le _, Nat.zero_le _⟩) hP hD hS hA [5, 6, 7, 8, 9, 10, 11, 12, 13, 14] [0, 1, 2, 3, 4] [0, 1, 2, 3, 4, 5, 6, 7, 8, 9, 10, 11, 12, 13, 14] rfl rfl (by decide) (by decide) (by decide) (fun _ => rfl) (fun v_2 H locs hw_2 hP hD hS => ?_)
  have hP : va_P (dC, dI) vwCl (w_R ad ca b (TRn_set_rd v_1 v_2)) H := hP
  have hD : va_D A (w_R ad ca b (TRn_set_rd v_1 v_2)) := hD
  rw [← hw_2] at he
  try dsimp only at he
  refine lv_iconst (v := 0) hx hb d_Rn_goThroughInput_11 (by decide) ?_
  refine lv_istore_n (lv' := [(1, .int 0), (0, .ref (ad 0))]) hx hb d_Rn_goThroughInput_12 rfl hl (by decide) rfl (fun ls hl => ?_)
  exact k_Rn_goThroughInput_13 l dC dI ad ca op rf rl k hopm hop C0 F TM b (TRn_set_rd v_1 v_2) 0 hpre ⟨(show (0 : Int) ≤ oc v_1 from oc_forget hw_1), TLn_m⟩ he _ _ hP hD hS _ (lv_sub hl [1, 0] rfl)
noncomputable def f_Ct_run (op : TBk → TRn → Int32 → TRn) (z : TCt) : (Int32 × TCt) := (match f_Rn_goThroughInput op (TCt_bk z) (TCt_rn z) with | (r_1, v_1) => (r_1, (TCt_set_rn z v_1)))
set_option maxHeartbeats 4000000 in
set_option maxRecDepth 100000 in
theorem c_Ct_run (l : Launch) (dC : Nat → ClassId) (dI : Nat → Nat → Nat) (ad : Nat → Nat) (ca : Nat → ClassId) (op : TBk → TRn → Int32 → TRn) (rf rl : Nat) (k : Int) (hopm : ∀ (b : TBk) (u : TRn) (w : Int32), k ≤ oc u → oc u ≤ oc (op b u w)) (hop : ∀ (sz : Nat) (b : TBk) (u : TRn) (w : Int32), BkS b ∧ k ≤ oc u → wx_Mv l y_Rn_open ws_Rn_open ({ frames := rf, cells := 0, slots := 0, locals := rl } : Room) (dC, dI) vwCl (t_R ca) [.ref (ad 0), .int w] (w_R ad ca b u) sz (fun v : TRn => w_R ad ca b v) (fun v : TRn => v = op b u w)) (sz : Nat) (z : TCt) (hpre : BkS (TCt_bk z) ∧ k ≤ 0) (F : (Int32 × TCt)) (he : F = f_Ct_run op z) : wx_Mi l y_Ct_run ws_Ct_run ({ frames := rf + 9, cells := 0, slots := 0, locals := rl + 200 } : Room) (dC, dI) vwCl (t_C ca) [.ref (ad 15)] (w_C ad ca z) sz (fun v : TCt => w_C ad ca v) (fun (r : Int32) (v : TCt) => (r, v) = F) := by
  refine Met.ofW (cc := b_Ct_run) (maxL := 1) (ret := some .int) (by decide) rfl ?_
  intro p e s m args below meth c s₁ B hml hv
  obtain ⟨rfl, hsz, hP, hK, hD0, hN⟩ := hv
  have hx := B.exec
  have hb := B.bytes
  have hr := B.returns
  have hts := atoms_spec (ws := ws_Ct_run) B.pre
  have ht : ∀ w ∈ TB, w.before _ s = true := fun w h => hts w (List.mem_cons_of_mem _ h)
  have hown : s.vm.findClass R_Ct = some m.cls := findClass_of_methodNamed B.named
  have hlocks := B.notSynchronized
  subst hsz
  have hD := hD0.self (sz := s.heap.size)
  generalize hAe : va_A (w_C ad ca z) s.heap.size = A at hD ⊢
  have hA : ∀ q : Nat, s.heap.size ≤ q → A q := fun q h => by rw [← hAe]; exact Or.inr h
  have hS : va_S A s.heap s.heap [] := va_S.rf
  have hl := lv_entry ([.ref (ad 15)]) (n := 1) (Nat.le_of_ble_eq_true rfl)
  rw [lg_entry_eq]
  generalize (lg_sl ([.ref (ad 15)]) ++ List.replicate (1 - (lg_sl ([.ref (ad 15)])).length) Slot.unset).toArray = ls at hl ⊢
  have hl : lv_has ls 1 [(0, .ref (ad 15))] := hl
  unfold f_Ct_run at he
  refine lv_aload_n hx hb d_Ct_run_0 rfl (lv_at hl 0 rfl) ?_
  refine va_get (D := (dC, dI)) (ci := 3) (v := .ref (ad 0)) (C := R_Ct) (T := T_Ct) (N := 2) hx hb ht i_Ct hown hK hP 0 rfl rfl 1 (by decide) (ht _ q_170) (fun _ h9 => h9) rfl d_Ct_run_1 ?_
  refine wx_ci (wS := fun v : TRn => w_R ad ca (TCt_bk z) v) (ws2 := fun v : TRn => w_C ad ca (TCt_set_rn z v)) (va_runV (As := []) (rest := []) ⟨hx, hb, hml, hown, ht⟩ (c_Rn_goThroughInput l dC dI ad ca op rf rl k hopm hop s.heap.size (TCt_bk z) (TCt_rn z) hpre _ rfl) (cwV 0 ht (tb_V q_245 q_246 q_247 q_46 q_248) rfl rfl rfl p_Rn_goThroughInput ⟨show (rf + 8) + 1 ≤ rf + 9 by omega, show 8 + (3 + 11) + (rl + 178) ≤ rl + 200 by omega⟩) (wx_preV (wc := (w_R ad ca (TCt_bk z) (TCt_rn z))) hN hK hP hD [1, 2, 3, 4, 5, 6, 7, 8, 9, 10, 11, 12, 13, 14, 15] [0, 1, 2, 3, 4, 5, 6, 7, 8, 9, 10, 11] rfl (by decide) rfl (ci := 2) (q0 := 0) rfl rfl) rfl rfl hl.1 rfl (lv_room (Nat.le_of_ble_eq_true rfl)) d_Ct_run_4 ⟨Nat.zero_le _, Nat.zero_le _⟩) hP hD hS hA [1, 2, 3, 4, 5, 6, 7, 8, 9, 10, 11, 12, 13, 14, 15] [0] [0, 1, 2, 3, 4, 5, 6, 7, 8, 9, 10, 11, 12, 13, 14, 15] rfl rfl (by decide) (by decide) (by decide) (fun _ => rfl) (fun r_1 v_1 H locs hw_1 hP hD hS => ?_)
  have hP : va_P (dC, dI) vwCl (w_C ad ca (TCt_set_rn z v_1)) H := hP
  have hD : va_D A (w_C ad ca (TCt_set_rn z v_1)) := hD
  rw [← hw_1] at he
  try dsimp only at he
  exact W.iret hx hb hr (v := r_1) (fun t ht hW => ⟨⟨r_1, (TCt_set_rn z v_1), rfl, he.symm, by rw [ht]; exact hP, va_K.moved hW.alike hK, hD⟩, hS.F ht⟩) hS.2.2 d_Ct_run_7
end
section
/-- open, as far as conditions may be open within one another -/
noncomputable def opN : Nat → TBk → TRn → Int32 → TRn
  | 0 => fun b u w => f_Rn_open_0 b u w
  | n + 1 => fun b u w => f_Rn_open_s (opN n) b u w
theorem opN_m (n : Nat) : ∀ (b : TBk) (u : TRn) (w : Int32), (20 : Int) - n ≤ oc u → oc u ≤ oc (opN n b u w) := by
  induction n with
  | zero =>
    intro b u w h
    exact oc_open0 b u w
  | succ n ih =>
    intro b u w h
    exact oc_open (opN n) ((20 : Int) - n) ih b u w (by omega)
theorem opN_c (l : Launch) (dC : Nat → ClassId) (dI : Nat → Nat → Nat) (ad : Nat → Nat) (ca : Nat → ClassId) (n : Nat) : ∀ (sz : Nat) (b : TBk) (u : TRn) (w : Int32), BkS b ∧ (20 : Int) - n ≤ oc u → wx_Mv l y_Rn_open ws_Rn_open ({ frames := 1 + n * 12, cells := 0, slots := 0, locals := 21 + n * 276 } : Room) (dC, dI) vwCl (t_R ca) [.ref (ad 0), .int w] (w_R ad ca b u) sz (fun v : TRn => w_R ad ca b v) (fun v : TRn => v = opN n b u w) := by
  induction n with
  | zero =>
    intro sz b u w h
    have h2 : ¬ (TRn_openCount u) < 20 := by
      rw [i32_lt]
      have e1 : (20 : Int32).toInt = 20 := by decide
      have h3 := h.2
      have h4 : oc u = (TRn_openCount u).toInt := rfl
      omega
    exact c_Rn_open_0 l dC dI ad ca sz b u w h2 _ rfl
  | succ n ih =>
    intro sz b u w h
    have h2 := c_Rn_open_s l dC dI ad ca (opN n) (1 + n * 12) (21 + n * 276) ((20 : Int) - n) (opN_m n) ih sz b u w ⟨h.1, by have := h.2; omega⟩ _ rfl
    rw [show 1 + n * 12 + 12 = 1 + (n + 1) * 12 by omega, show 21 + n * 276 + 276 = 21 + (n + 1) * 276 by omega] at h2
    exact h2
end
