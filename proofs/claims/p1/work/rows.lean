section
-- ===== PART A: goes FIRST, ahead of the names: the tables' words, and 'selects' of the private methods out of them =====
/-- a private method of a class that the tables say can be made, by its rows of tables_1 -/
def lw_okq (q : MethodName × Nat) : Prop := (q.1.cls ≠ "java/lang/invoke/MethodHandle" ∧ q.1.cls ≠ "java/lang/invoke/VarHandle") ∧ Cond.instantiable q.1.cls q.2 ∈ tables_1 ∧ Cond.privateMethod q.1 ∈ tables_1 ∧ Cond.instanceMethod q.1 ∈ tables_1
theorem lw_p0 : lw_okq (⟨"TrustDesk", "isKnown", "(I)Z"⟩, 13) := ⟨⟨by decide +kernel, by decide +kernel⟩, List.mem_of_getElem? (i := 32) (by decide +kernel), List.mem_of_getElem? (i := 326) (by decide +kernel), List.mem_of_getElem? (i := 327) (by decide +kernel)⟩
theorem lw_p1 : lw_okq (⟨"TrustDesk$Reader", "begin", "(I)V"⟩, 19) := ⟨⟨by decide +kernel, by decide +kernel⟩, List.mem_of_getElem? (i := 64) (by decide +kernel), List.mem_of_getElem? (i := 362) (by decide +kernel), List.mem_of_getElem? (i := 363) (by decide +kernel)⟩
theorem lw_p2 : lw_okq (⟨"TrustDesk$Reader", "cut", "()V"⟩, 19) := ⟨⟨by decide +kernel, by decide +kernel⟩, List.mem_of_getElem? (i := 64) (by decide +kernel), List.mem_of_getElem? (i := 366) (by decide +kernel), List.mem_of_getElem? (i := 367) (by decide +kernel)⟩
theorem lw_p3 : lw_okq (⟨"TrustDesk$Reader", "sortOf", "(I)I"⟩, 19) := ⟨⟨by decide +kernel, by decide +kernel⟩, List.mem_of_getElem? (i := 64) (by decide +kernel), List.mem_of_getElem? (i := 370) (by decide +kernel), List.mem_of_getElem? (i := 371) (by decide +kernel)⟩
theorem lw_p4 : lw_okq (⟨"TrustDesk$Reader", "byteAt", "(I)I"⟩, 19) := ⟨⟨by decide +kernel, by decide +kernel⟩, List.mem_of_getElem? (i := 64) (by decide +kernel), List.mem_of_getElem? (i := 374) (by decide +kernel), List.mem_of_getElem? (i := 375) (by decide +kernel)⟩
theorem lw_p5 : lw_okq (⟨"TrustDesk$Reader", "putToken", "(III)V"⟩, 19) := ⟨⟨by decide +kernel, by decide +kernel⟩, List.mem_of_getElem? (i := 64) (by decide +kernel), List.mem_of_getElem? (i := 378) (by decide +kernel), List.mem_of_getElem? (i := 379) (by decide +kernel)⟩
theorem lw_p6 : lw_okq (⟨"TrustDesk$Reader", "wordValue", "(II)I"⟩, 19) := ⟨⟨by decide +kernel, by decide +kernel⟩, List.mem_of_getElem? (i := 64) (by decide +kernel), List.mem_of_getElem? (i := 382) (by decide +kernel), List.mem_of_getElem? (i := 383) (by decide +kernel)⟩
theorem lw_p7 : lw_okq (⟨"TrustDesk$Reader", "indexIn", "(Ljava/lang/String;II)I"⟩, 19) := ⟨⟨by decide +kernel, by decide +kernel⟩, List.mem_of_getElem? (i := 64) (by decide +kernel), List.mem_of_getElem? (i := 387) (by decide +kernel), List.mem_of_getElem? (i := 388) (by decide +kernel)⟩
theorem lw_p8 : lw_okq (⟨"TrustDesk$Reader", "matches", "(Ljava/lang/String;III)Z"⟩, 19) := ⟨⟨by decide +kernel, by decide +kernel⟩, List.mem_of_getElem? (i := 64) (by decide +kernel), List.mem_of_getElem? (i := 439) (by decide +kernel), List.mem_of_getElem? (i := 440) (by decide +kernel)⟩
theorem lw_p9 : lw_okq (⟨"TrustDesk$Reader", "numberValue", "(II)I"⟩, 19) := ⟨⟨by decide +kernel, by decide +kernel⟩, List.mem_of_getElem? (i := 64) (by decide +kernel), List.mem_of_getElem? (i := 444) (by decide +kernel), List.mem_of_getElem? (i := 445) (by decide +kernel)⟩
theorem lw_p10 : lw_okq (⟨"TrustDesk$Reader", "advance", "()V"⟩, 19) := ⟨⟨by decide +kernel, by decide +kernel⟩, List.mem_of_getElem? (i := 64) (by decide +kernel), List.mem_of_getElem? (i := 448) (by decide +kernel), List.mem_of_getElem? (i := 449) (by decide +kernel)⟩
theorem lw_p11 : lw_okq (⟨"TrustDesk$Reader", "rule", "(LTrustDesk$Act;)Z"⟩, 19) := ⟨⟨by decide +kernel, by decide +kernel⟩, List.mem_of_getElem? (i := 64) (by decide +kernel), List.mem_of_getElem? (i := 452) (by decide +kernel), List.mem_of_getElem? (i := 453) (by decide +kernel)⟩
theorem lw_p12 : lw_okq (⟨"TrustDesk$Reader", "valueAmong", "(II)I"⟩, 19) := ⟨⟨by decide +kernel, by decide +kernel⟩, List.mem_of_getElem? (i := 64) (by decide +kernel), List.mem_of_getElem? (i := 456) (by decide +kernel), List.mem_of_getElem? (i := 457) (by decide +kernel)⟩
theorem lw_p13 : lw_okq (⟨"TrustDesk$Reader", "isWord", "(I)Z"⟩, 19) := ⟨⟨by decide +kernel, by decide +kernel⟩, List.mem_of_getElem? (i := 64) (by decide +kernel), List.mem_of_getElem? (i := 460) (by decide +kernel), List.mem_of_getElem? (i := 461) (by decide +kernel)⟩
theorem lw_p14 : lw_okq (⟨"TrustDesk$Reader", "refuse", "(I)Z"⟩, 19) := ⟨⟨by decide +kernel, by decide +kernel⟩, List.mem_of_getElem? (i := 64) (by decide +kernel), List.mem_of_getElem? (i := 464) (by decide +kernel), List.mem_of_getElem? (i := 465) (by decide +kernel)⟩
theorem lw_p15 : lw_okq (⟨"TrustDesk$Reader", "bar", "(LTrustDesk$Act;)Z"⟩, 19) := ⟨⟨by decide +kernel, by decide +kernel⟩, List.mem_of_getElem? (i := 64) (by decide +kernel), List.mem_of_getElem? (i := 468) (by decide +kernel), List.mem_of_getElem? (i := 469) (by decide +kernel)⟩
def lw_privs_1 : List (MethodName × Nat) := [(⟨"TrustDesk", "isKnown", "(I)Z"⟩, 13), (⟨"TrustDesk$Reader", "begin", "(I)V"⟩, 19), (⟨"TrustDesk$Reader", "cut", "()V"⟩, 19), (⟨"TrustDesk$Reader", "sortOf", "(I)I"⟩, 19), (⟨"TrustDesk$Reader", "byteAt", "(I)I"⟩, 19), (⟨"TrustDesk$Reader", "putToken", "(III)V"⟩, 19), (⟨"TrustDesk$Reader", "wordValue", "(II)I"⟩, 19), (⟨"TrustDesk$Reader", "indexIn", "(Ljava/lang/String;II)I"⟩, 19), (⟨"TrustDesk$Reader", "matches", "(Ljava/lang/String;III)Z"⟩, 19), (⟨"TrustDesk$Reader", "numberValue", "(II)I"⟩, 19), (⟨"TrustDesk$Reader", "advance", "()V"⟩, 19), (⟨"TrustDesk$Reader", "rule", "(LTrustDesk$Act;)Z"⟩, 19), (⟨"TrustDesk$Reader", "valueAmong", "(II)I"⟩, 19), (⟨"TrustDesk$Reader", "isWord", "(I)Z"⟩, 19), (⟨"TrustDesk$Reader", "refuse", "(I)Z"⟩, 19), (⟨"TrustDesk$Reader", "bar", "(LTrustDesk$Act;)Z"⟩, 19)]
theorem lw_r1 : ∀ q ∈ lw_privs_1, lw_okq q := List.forall_mem_cons.mpr ⟨lw_p0, List.forall_mem_cons.mpr ⟨lw_p1, List.forall_mem_cons.mpr ⟨lw_p2, List.forall_mem_cons.mpr ⟨lw_p3, List.forall_mem_cons.mpr ⟨lw_p4, List.forall_mem_cons.mpr ⟨lw_p5, List.forall_mem_cons.mpr ⟨lw_p6, List.forall_mem_cons.mpr ⟨lw_p7, List.forall_mem_cons.mpr ⟨lw_p8, List.forall_mem_cons.mpr ⟨lw_p9, List.forall_mem_cons.mpr ⟨lw_p10, List.forall_mem_cons.mpr ⟨lw_p11, List.forall_mem_cons.mpr ⟨lw_p12, List.forall_mem_cons.mpr ⟨lw_p13, List.forall_mem_cons.mpr ⟨lw_p14, List.forall_mem_cons.mpr ⟨lw_p15, fun _ h => absurd h List.not_mem_nil⟩⟩⟩⟩⟩⟩⟩⟩⟩⟩⟩⟩⟩⟩⟩⟩
theorem lw_p16 : lw_okq (⟨"TrustDesk$Reader", "word", "(I)Z"⟩, 19) := ⟨⟨by decide +kernel, by decide +kernel⟩, List.mem_of_getElem? (i := 64) (by decide +kernel), List.mem_of_getElem? (i := 472) (by decide +kernel), List.mem_of_getElem? (i := 473) (by decide +kernel)⟩
theorem lw_p17 : lw_okq (⟨"TrustDesk$Reader", "condition", "()Z"⟩, 19) := ⟨⟨by decide +kernel, by decide +kernel⟩, List.mem_of_getElem? (i := 64) (by decide +kernel), List.mem_of_getElem? (i := 476) (by decide +kernel), List.mem_of_getElem? (i := 477) (by decide +kernel)⟩
theorem lw_p18 : lw_okq (⟨"TrustDesk$Reader", "both", "()Z"⟩, 19) := ⟨⟨by decide +kernel, by decide +kernel⟩, List.mem_of_getElem? (i := 64) (by decide +kernel), List.mem_of_getElem? (i := 480) (by decide +kernel), List.mem_of_getElem? (i := 481) (by decide +kernel)⟩
theorem lw_p19 : lw_okq (⟨"TrustDesk$Reader", "term", "()Z"⟩, 19) := ⟨⟨by decide +kernel, by decide +kernel⟩, List.mem_of_getElem? (i := 64) (by decide +kernel), List.mem_of_getElem? (i := 484) (by decide +kernel), List.mem_of_getElem? (i := 485) (by decide +kernel)⟩
theorem lw_p20 : lw_okq (⟨"TrustDesk$Reader", "isSign", "(C)Z"⟩, 19) := ⟨⟨by decide +kernel, by decide +kernel⟩, List.mem_of_getElem? (i := 64) (by decide +kernel), List.mem_of_getElem? (i := 488) (by decide +kernel), List.mem_of_getElem? (i := 489) (by decide +kernel)⟩
theorem lw_p21 : lw_okq (⟨"TrustDesk$Reader", "openBracket", "()Z"⟩, 19) := ⟨⟨by decide +kernel, by decide +kernel⟩, List.mem_of_getElem? (i := 64) (by decide +kernel), List.mem_of_getElem? (i := 492) (by decide +kernel), List.mem_of_getElem? (i := 493) (by decide +kernel)⟩
theorem lw_p22 : lw_okq (⟨"TrustDesk$Reader", "sign", "(C)Z"⟩, 19) := ⟨⟨by decide +kernel, by decide +kernel⟩, List.mem_of_getElem? (i := 64) (by decide +kernel), List.mem_of_getElem? (i := 496) (by decide +kernel), List.mem_of_getElem? (i := 497) (by decide +kernel)⟩
theorem lw_p23 : lw_okq (⟨"TrustDesk$Reader", "sum", "()Z"⟩, 19) := ⟨⟨by decide +kernel, by decide +kernel⟩, List.mem_of_getElem? (i := 64) (by decide +kernel), List.mem_of_getElem? (i := 500) (by decide +kernel), List.mem_of_getElem? (i := 501) (by decide +kernel)⟩
theorem lw_p24 : lw_okq (⟨"TrustDesk$Reader", "product", "()Z"⟩, 19) := ⟨⟨by decide +kernel, by decide +kernel⟩, List.mem_of_getElem? (i := 64) (by decide +kernel), List.mem_of_getElem? (i := 504) (by decide +kernel), List.mem_of_getElem? (i := 505) (by decide +kernel)⟩
theorem lw_p25 : lw_okq (⟨"TrustDesk$Reader", "factor", "()Z"⟩, 19) := ⟨⟨by decide +kernel, by decide +kernel⟩, List.mem_of_getElem? (i := 64) (by decide +kernel), List.mem_of_getElem? (i := 508) (by decide +kernel), List.mem_of_getElem? (i := 509) (by decide +kernel)⟩
theorem lw_p26 : lw_okq (⟨"TrustDesk$Reader", "numeral", "(II)Z"⟩, 19) := ⟨⟨by decide +kernel, by decide +kernel⟩, List.mem_of_getElem? (i := 64) (by decide +kernel), List.mem_of_getElem? (i := 512) (by decide +kernel), List.mem_of_getElem? (i := 513) (by decide +kernel)⟩
theorem lw_p27 : lw_okq (⟨"TrustDesk$Reader", "emit", "(II)V"⟩, 19) := ⟨⟨by decide +kernel, by decide +kernel⟩, List.mem_of_getElem? (i := 64) (by decide +kernel), List.mem_of_getElem? (i := 516) (by decide +kernel), List.mem_of_getElem? (i := 517) (by decide +kernel)⟩
theorem lw_p28 : lw_okq (⟨"TrustDesk$Reader", "comparisonHere", "()I"⟩, 19) := ⟨⟨by decide +kernel, by decide +kernel⟩, List.mem_of_getElem? (i := 64) (by decide +kernel), List.mem_of_getElem? (i := 520) (by decide +kernel), List.mem_of_getElem? (i := 521) (by decide +kernel)⟩
theorem lw_p29 : lw_okq (⟨"TrustDesk$Reader", "stepsTaken", "()LTrustDesk$Code;"⟩, 19) := ⟨⟨by decide +kernel, by decide +kernel⟩, List.mem_of_getElem? (i := 64) (by decide +kernel), List.mem_of_getElem? (i := 524) (by decide +kernel), List.mem_of_getElem? (i := 525) (by decide +kernel)⟩
theorem lw_p30 : lw_okq (⟨"java/util/ArrayList", "add", "(Ljava/lang/Object;[Ljava/lang/Object;I)V"⟩, 3) := ⟨⟨by decide +kernel, by decide +kernel⟩, List.mem_of_getElem? (i := 212) (by decide +kernel), List.mem_of_getElem? (i := 564) (by decide +kernel), List.mem_of_getElem? (i := 565) (by decide +kernel)⟩
theorem lw_p31 : lw_okq (⟨"java/util/ArrayList", "grow", "()[Ljava/lang/Object;"⟩, 3) := ⟨⟨by decide +kernel, by decide +kernel⟩, List.mem_of_getElem? (i := 212) (by decide +kernel), List.mem_of_getElem? (i := 568) (by decide +kernel), List.mem_of_getElem? (i := 569) (by decide +kernel)⟩
def lw_privs_2 : List (MethodName × Nat) := [(⟨"TrustDesk$Reader", "word", "(I)Z"⟩, 19), (⟨"TrustDesk$Reader", "condition", "()Z"⟩, 19), (⟨"TrustDesk$Reader", "both", "()Z"⟩, 19), (⟨"TrustDesk$Reader", "term", "()Z"⟩, 19), (⟨"TrustDesk$Reader", "isSign", "(C)Z"⟩, 19), (⟨"TrustDesk$Reader", "openBracket", "()Z"⟩, 19), (⟨"TrustDesk$Reader", "sign", "(C)Z"⟩, 19), (⟨"TrustDesk$Reader", "sum", "()Z"⟩, 19), (⟨"TrustDesk$Reader", "product", "()Z"⟩, 19), (⟨"TrustDesk$Reader", "factor", "()Z"⟩, 19), (⟨"TrustDesk$Reader", "numeral", "(II)Z"⟩, 19), (⟨"TrustDesk$Reader", "emit", "(II)V"⟩, 19), (⟨"TrustDesk$Reader", "comparisonHere", "()I"⟩, 19), (⟨"TrustDesk$Reader", "stepsTaken", "()LTrustDesk$Code;"⟩, 19), (⟨"java/util/ArrayList", "add", "(Ljava/lang/Object;[Ljava/lang/Object;I)V"⟩, 3), (⟨"java/util/ArrayList", "grow", "()[Ljava/lang/Object;"⟩, 3)]
theorem lw_r2 : ∀ q ∈ lw_privs_2, lw_okq q := List.forall_mem_cons.mpr ⟨lw_p16, List.forall_mem_cons.mpr ⟨lw_p17, List.forall_mem_cons.mpr ⟨lw_p18, List.forall_mem_cons.mpr ⟨lw_p19, List.forall_mem_cons.mpr ⟨lw_p20, List.forall_mem_cons.mpr ⟨lw_p21, List.forall_mem_cons.mpr ⟨lw_p22, List.forall_mem_cons.mpr ⟨lw_p23, List.forall_mem_cons.mpr ⟨lw_p24, List.forall_mem_cons.mpr ⟨lw_p25, List.forall_mem_cons.mpr ⟨lw_p26, List.forall_mem_cons.mpr ⟨lw_p27, List.forall_mem_cons.mpr ⟨lw_p28, List.forall_mem_cons.mpr ⟨lw_p29, List.forall_mem_cons.mpr ⟨lw_p30, List.forall_mem_cons.mpr ⟨lw_p31, fun _ h => absurd h List.not_mem_nil⟩⟩⟩⟩⟩⟩⟩⟩⟩⟩⟩⟩⟩⟩⟩⟩
theorem lw_p32 : lw_okq (⟨"java/util/ArrayList", "grow", "(I)[Ljava/lang/Object;"⟩, 3) := ⟨⟨by decide +kernel, by decide +kernel⟩, List.mem_of_getElem? (i := 212) (by decide +kernel), List.mem_of_getElem? (i := 572) (by decide +kernel), List.mem_of_getElem? (i := 573) (by decide +kernel)⟩
theorem lw_p33 : lw_okq (⟨"TrustDesk$Reader", "ruleNumber", "(LTrustDesk$Act;I)Z"⟩, 19) := ⟨⟨by decide +kernel, by decide +kernel⟩, List.mem_of_getElem? (i := 64) (by decide +kernel), List.mem_of_getElem? (i := 614) (by decide +kernel), List.mem_of_getElem? (i := 615) (by decide +kernel)⟩
theorem lw_p34 : lw_okq (⟨"TrustDesk", "inForce", "(I)LTrustDesk$Act;"⟩, 13) := ⟨⟨by decide +kernel, by decide +kernel⟩, List.mem_of_getElem? (i := 32) (by decide +kernel), List.mem_of_getElem? (i := 631) (by decide +kernel), List.mem_of_getElem? (i := 632) (by decide +kernel)⟩
theorem lw_p35 : lw_okq (⟨"TrustDesk$Reader", "clause", "(LTrustDesk$Fund;I)Z"⟩, 19) := ⟨⟨by decide +kernel, by decide +kernel⟩, List.mem_of_getElem? (i := 64) (by decide +kernel), List.mem_of_getElem? (i := 731) (by decide +kernel), List.mem_of_getElem? (i := 732) (by decide +kernel)⟩
theorem lw_p36 : lw_okq (⟨"TrustDesk$Reader", "endText", "(LTrustDesk$Fund;)LTrustDesk$EndText;"⟩, 19) := ⟨⟨by decide +kernel, by decide +kernel⟩, List.mem_of_getElem? (i := 64) (by decide +kernel), List.mem_of_getElem? (i := 736) (by decide +kernel), List.mem_of_getElem? (i := 737) (by decide +kernel)⟩
theorem lw_p37 : lw_okq (⟨"TrustDesk$Reader", "wordAsNumber", "()J"⟩, 19) := ⟨⟨by decide +kernel, by decide +kernel⟩, List.mem_of_getElem? (i := 64) (by decide +kernel), List.mem_of_getElem? (i := 740) (by decide +kernel), List.mem_of_getElem? (i := 741) (by decide +kernel)⟩
theorem lw_p38 : lw_okq (⟨"TrustDesk$Reader", "markClause", "(LTrustDesk$Fund;)Z"⟩, 19) := ⟨⟨by decide +kernel, by decide +kernel⟩, List.mem_of_getElem? (i := 64) (by decide +kernel), List.mem_of_getElem? (i := 806) (by decide +kernel), List.mem_of_getElem? (i := 807) (by decide +kernel)⟩
theorem lw_p39 : lw_okq (⟨"TrustDesk$Reader", "trustClause", "(LTrustDesk$Fund;)Z"⟩, 19) := ⟨⟨by decide +kernel, by decide +kernel⟩, List.mem_of_getElem? (i := 64) (by decide +kernel), List.mem_of_getElem? (i := 810) (by decide +kernel), List.mem_of_getElem? (i := 811) (by decide +kernel)⟩
theorem lw_p40 : lw_okq (⟨"TrustDesk", "closeYear", "(I)V"⟩, 13) := ⟨⟨by decide +kernel, by decide +kernel⟩, List.mem_of_getElem? (i := 32) (by decide +kernel), List.mem_of_getElem? (i := 845) (by decide +kernel), List.mem_of_getElem? (i := 846) (by decide +kernel)⟩
theorem lw_p41 : lw_okq (⟨"TrustDesk", "closeFund", "(LTrustDesk$Fund;ILTrustDesk$Act;)V"⟩, 13) := ⟨⟨by decide +kernel, by decide +kernel⟩, List.mem_of_getElem? (i := 32) (by decide +kernel), List.mem_of_getElem? (i := 861) (by decide +kernel), List.mem_of_getElem? (i := 862) (by decide +kernel)⟩
theorem lw_p42 : lw_okq (⟨"TrustDesk", "closeEnd", "(LTrustDesk$Fund;ILTrustDesk$End;II)V"⟩, 13) := ⟨⟨by decide +kernel, by decide +kernel⟩, List.mem_of_getElem? (i := 32) (by decide +kernel), List.mem_of_getElem? (i := 879) (by decide +kernel), List.mem_of_getElem? (i := 880) (by decide +kernel)⟩
theorem lw_p43 : lw_okq (⟨"TrustDesk$Reckoner", "push", "(J)V"⟩, 5) := ⟨⟨by decide +kernel, by decide +kernel⟩, List.mem_of_getElem? (i := 131) (by decide +kernel), List.mem_of_getElem? (i := 894) (by decide +kernel), List.mem_of_getElem? (i := 895) (by decide +kernel)⟩
theorem lw_p44 : lw_okq (⟨"TrustDesk$Reckoner", "pop", "()J"⟩, 5) := ⟨⟨by decide +kernel, by decide +kernel⟩, List.mem_of_getElem? (i := 131) (by decide +kernel), List.mem_of_getElem? (i := 898) (by decide +kernel), List.mem_of_getElem? (i := 899) (by decide +kernel)⟩
theorem lw_p45 : lw_okq (⟨"TrustDesk$Reckoner", "worked", "(IJJ)J"⟩, 5) := ⟨⟨by decide +kernel, by decide +kernel⟩, List.mem_of_getElem? (i := 131) (by decide +kernel), List.mem_of_getElem? (i := 902) (by decide +kernel), List.mem_of_getElem? (i := 903) (by decide +kernel)⟩
theorem lw_p46 : lw_okq (⟨"TrustDesk$Reckoner", "compared", "(Z)J"⟩, 5) := ⟨⟨by decide +kernel, by decide +kernel⟩, List.mem_of_getElem? (i := 131) (by decide +kernel), List.mem_of_getElem? (i := 913) (by decide +kernel), List.mem_of_getElem? (i := 914) (by decide +kernel)⟩
theorem lw_p47 : lw_okq (⟨"TrustDesk", "leadBack", "(LTrustDesk$Fund;J)V"⟩, 13) := ⟨⟨by decide +kernel, by decide +kernel⟩, List.mem_of_getElem? (i := 32) (by decide +kernel), List.mem_of_getElem? (i := 922) (by decide +kernel), List.mem_of_getElem? (i := 923) (by decide +kernel)⟩
def lw_privs_3 : List (MethodName × Nat) := [(⟨"java/util/ArrayList", "grow", "(I)[Ljava/lang/Object;"⟩, 3), (⟨"TrustDesk$Reader", "ruleNumber", "(LTrustDesk$Act;I)Z"⟩, 19), (⟨"TrustDesk", "inForce", "(I)LTrustDesk$Act;"⟩, 13), (⟨"TrustDesk$Reader", "clause", "(LTrustDesk$Fund;I)Z"⟩, 19), (⟨"TrustDesk$Reader", "endText", "(LTrustDesk$Fund;)LTrustDesk$EndText;"⟩, 19), (⟨"TrustDesk$Reader", "wordAsNumber", "()J"⟩, 19), (⟨"TrustDesk$Reader", "markClause", "(LTrustDesk$Fund;)Z"⟩, 19), (⟨"TrustDesk$Reader", "trustClause", "(LTrustDesk$Fund;)Z"⟩, 19), (⟨"TrustDesk", "closeYear", "(I)V"⟩, 13), (⟨"TrustDesk", "closeFund", "(LTrustDesk$Fund;ILTrustDesk$Act;)V"⟩, 13), (⟨"TrustDesk", "closeEnd", "(LTrustDesk$Fund;ILTrustDesk$End;II)V"⟩, 13), (⟨"TrustDesk$Reckoner", "push", "(J)V"⟩, 5), (⟨"TrustDesk$Reckoner", "pop", "()J"⟩, 5), (⟨"TrustDesk$Reckoner", "worked", "(IJJ)J"⟩, 5), (⟨"TrustDesk$Reckoner", "compared", "(Z)J"⟩, 5), (⟨"TrustDesk", "leadBack", "(LTrustDesk$Fund;J)V"⟩, 13)]
theorem lw_r3 : ∀ q ∈ lw_privs_3, lw_okq q := List.forall_mem_cons.mpr ⟨lw_p32, List.forall_mem_cons.mpr ⟨lw_p33, List.forall_mem_cons.mpr ⟨lw_p34, List.forall_mem_cons.mpr ⟨lw_p35, List.forall_mem_cons.mpr ⟨lw_p36, List.forall_mem_cons.mpr ⟨lw_p37, List.forall_mem_cons.mpr ⟨lw_p38, List.forall_mem_cons.mpr ⟨lw_p39, List.forall_mem_cons.mpr ⟨lw_p40, List.forall_mem_cons.mpr ⟨lw_p41, List.forall_mem_cons.mpr ⟨lw_p42, List.forall_mem_cons.mpr ⟨lw_p43, List.forall_mem_cons.mpr ⟨lw_p44, List.forall_mem_cons.mpr ⟨lw_p45, List.forall_mem_cons.mpr ⟨lw_p46, List.forall_mem_cons.mpr ⟨lw_p47, fun _ h => absurd h List.not_mem_nil⟩⟩⟩⟩⟩⟩⟩⟩⟩⟩⟩⟩⟩⟩⟩⟩
theorem lw_p48 : lw_okq (⟨"TrustDesk", "write", "(IIII)V"⟩, 13) := ⟨⟨by decide +kernel, by decide +kernel⟩, List.mem_of_getElem? (i := 32) (by decide +kernel), List.mem_of_getElem? (i := 931) (by decide +kernel), List.mem_of_getElem? (i := 932) (by decide +kernel)⟩
theorem lw_p49 : lw_okq (⟨"TrustDesk", "fundAt", "(I)LTrustDesk$Fund;"⟩, 13) := ⟨⟨by decide +kernel, by decide +kernel⟩, List.mem_of_getElem? (i := 32) (by decide +kernel), List.mem_of_getElem? (i := 939) (by decide +kernel), List.mem_of_getElem? (i := 940) (by decide +kernel)⟩
theorem lw_p50 : lw_okq (⟨"TrustDesk", "isSubject", "(II)Z"⟩, 13) := ⟨⟨by decide +kernel, by decide +kernel⟩, List.mem_of_getElem? (i := 32) (by decide +kernel), List.mem_of_getElem? (i := 954) (by decide +kernel), List.mem_of_getElem? (i := 955) (by decide +kernel)⟩
theorem lw_p51 : lw_okq (⟨"TrustDesk", "nearAt", "(I)LTrustDesk$NearEnd;"⟩, 13) := ⟨⟨by decide +kernel, by decide +kernel⟩, List.mem_of_getElem? (i := 32) (by decide +kernel), List.mem_of_getElem? (i := 958) (by decide +kernel), List.mem_of_getElem? (i := 959) (by decide +kernel)⟩
theorem lw_p52 : lw_okq (⟨"TrustDesk", "schemeAt", "(I)LTrustDesk$Scheme;"⟩, 13) := ⟨⟨by decide +kernel, by decide +kernel⟩, List.mem_of_getElem? (i := 32) (by decide +kernel), List.mem_of_getElem? (i := 1018) (by decide +kernel), List.mem_of_getElem? (i := 1019) (by decide +kernel)⟩
theorem lw_p53 : lw_okq (⟨"TrustDesk", "maySpeak", "(LTrustDesk$Scheme;I)Z"⟩, 13) := ⟨⟨by decide +kernel, by decide +kernel⟩, List.mem_of_getElem? (i := 32) (by decide +kernel), List.mem_of_getElem? (i := 1038) (by decide +kernel), List.mem_of_getElem? (i := 1039) (by decide +kernel)⟩
theorem lw_p54 : lw_okq (⟨"TrustDesk", "failureOf", "(LTrustDesk$Scheme;)I"⟩, 13) := ⟨⟨by decide +kernel, by decide +kernel⟩, List.mem_of_getElem? (i := 32) (by decide +kernel), List.mem_of_getElem? (i := 1054) (by decide +kernel), List.mem_of_getElem? (i := 1055) (by decide +kernel)⟩
theorem lw_p55 : lw_okq (⟨"TrustDesk", "canBe", "(LTrustDesk$Scheme;LTrustDesk$Fund;)Z"⟩, 13) := ⟨⟨by decide +kernel, by decide +kernel⟩, List.mem_of_getElem? (i := 32) (by decide +kernel), List.mem_of_getElem? (i := 1058) (by decide +kernel), List.mem_of_getElem? (i := 1059) (by decide +kernel)⟩
theorem lw_p56 : lw_okq (⟨"TrustDesk", "canJoin", "(LTrustDesk$Fund;LTrustDesk$Fund;)Z"⟩, 13) := ⟨⟨by decide +kernel, by decide +kernel⟩, List.mem_of_getElem? (i := 32) (by decide +kernel), List.mem_of_getElem? (i := 1066) (by decide +kernel), List.mem_of_getElem? (i := 1067) (by decide +kernel)⟩
theorem lw_p57 : lw_okq (⟨"TrustDesk", "isBarred", "(ILTrustDesk$Fund;LTrustDesk$Act;)Z"⟩, 13) := ⟨⟨by decide +kernel, by decide +kernel⟩, List.mem_of_getElem? (i := 32) (by decide +kernel), List.mem_of_getElem? (i := 1082) (by decide +kernel), List.mem_of_getElem? (i := 1083) (by decide +kernel)⟩
theorem lw_p58 : lw_okq (⟨"TrustDesk", "marksLeft", "(LTrustDesk$Scheme;LTrustDesk$Fund;)I"⟩, 13) := ⟨⟨by decide +kernel, by decide +kernel⟩, List.mem_of_getElem? (i := 32) (by decide +kernel), List.mem_of_getElem? (i := 1101) (by decide +kernel), List.mem_of_getElem? (i := 1102) (by decide +kernel)⟩
theorem lw_p59 : lw_okq (⟨"TrustDesk", "isCarried", "(LTrustDesk$Scheme;LTrustDesk$Fund;)Z"⟩, 13) := ⟨⟨by decide +kernel, by decide +kernel⟩, List.mem_of_getElem? (i := 32) (by decide +kernel), List.mem_of_getElem? (i := 1105) (by decide +kernel), List.mem_of_getElem? (i := 1106) (by decide +kernel)⟩
theorem lw_p60 : lw_okq (⟨"TrustDesk", "carryOut", "(LTrustDesk$Scheme;)V"⟩, 13) := ⟨⟨by decide +kernel, by decide +kernel⟩, List.mem_of_getElem? (i := 32) (by decide +kernel), List.mem_of_getElem? (i := 1114) (by decide +kernel), List.mem_of_getElem? (i := 1115) (by decide +kernel)⟩
theorem lw_p61 : lw_okq (⟨"TrustDesk", "bringNear", "(LTrustDesk$Fund;LTrustDesk$NearEnd;)V"⟩, 13) := ⟨⟨by decide +kernel, by decide +kernel⟩, List.mem_of_getElem? (i := 32) (by decide +kernel), List.mem_of_getElem? (i := 1118) (by decide +kernel), List.mem_of_getElem? (i := 1119) (by decide +kernel)⟩
theorem lw_p62 : lw_okq (⟨"TrustDesk", "join", "(LTrustDesk$Fund;LTrustDesk$Fund;)V"⟩, 13) := ⟨⟨by decide +kernel, by decide +kernel⟩, List.mem_of_getElem? (i := 32) (by decide +kernel), List.mem_of_getElem? (i := 1126) (by decide +kernel), List.mem_of_getElem? (i := 1127) (by decide +kernel)⟩
theorem lw_p63 : lw_okq (⟨"TrustDesk", "worthOf", "(LTrustDesk$Fund;)J"⟩, 13) := ⟨⟨by decide +kernel, by decide +kernel⟩, List.mem_of_getElem? (i := 32) (by decide +kernel), List.mem_of_getElem? (i := 1130) (by decide +kernel), List.mem_of_getElem? (i := 1131) (by decide +kernel)⟩
def lw_privs_4 : List (MethodName × Nat) := [(⟨"TrustDesk", "write", "(IIII)V"⟩, 13), (⟨"TrustDesk", "fundAt", "(I)LTrustDesk$Fund;"⟩, 13), (⟨"TrustDesk", "isSubject", "(II)Z"⟩, 13), (⟨"TrustDesk", "nearAt", "(I)LTrustDesk$NearEnd;"⟩, 13), (⟨"TrustDesk", "schemeAt", "(I)LTrustDesk$Scheme;"⟩, 13), (⟨"TrustDesk", "maySpeak", "(LTrustDesk$Scheme;I)Z"⟩, 13), (⟨"TrustDesk", "failureOf", "(LTrustDesk$Scheme;)I"⟩, 13), (⟨"TrustDesk", "canBe", "(LTrustDesk$Scheme;LTrustDesk$Fund;)Z"⟩, 13), (⟨"TrustDesk", "canJoin", "(LTrustDesk$Fund;LTrustDesk$Fund;)Z"⟩, 13), (⟨"TrustDesk", "isBarred", "(ILTrustDesk$Fund;LTrustDesk$Act;)Z"⟩, 13), (⟨"TrustDesk", "marksLeft", "(LTrustDesk$Scheme;LTrustDesk$Fund;)I"⟩, 13), (⟨"TrustDesk", "isCarried", "(LTrustDesk$Scheme;LTrustDesk$Fund;)Z"⟩, 13), (⟨"TrustDesk", "carryOut", "(LTrustDesk$Scheme;)V"⟩, 13), (⟨"TrustDesk", "bringNear", "(LTrustDesk$Fund;LTrustDesk$NearEnd;)V"⟩, 13), (⟨"TrustDesk", "join", "(LTrustDesk$Fund;LTrustDesk$Fund;)V"⟩, 13), (⟨"TrustDesk", "worthOf", "(LTrustDesk$Fund;)J"⟩, 13)]
theorem lw_r4 : ∀ q ∈ lw_privs_4, lw_okq q := List.forall_mem_cons.mpr ⟨lw_p48, List.forall_mem_cons.mpr ⟨lw_p49, List.forall_mem_cons.mpr ⟨lw_p50, List.forall_mem_cons.mpr ⟨lw_p51, List.forall_mem_cons.mpr ⟨lw_p52, List.forall_mem_cons.mpr ⟨lw_p53, List.forall_mem_cons.mpr ⟨lw_p54, List.forall_mem_cons.mpr ⟨lw_p55, List.forall_mem_cons.mpr ⟨lw_p56, List.forall_mem_cons.mpr ⟨lw_p57, List.forall_mem_cons.mpr ⟨lw_p58, List.forall_mem_cons.mpr ⟨lw_p59, List.forall_mem_cons.mpr ⟨lw_p60, List.forall_mem_cons.mpr ⟨lw_p61, List.forall_mem_cons.mpr ⟨lw_p62, List.forall_mem_cons.mpr ⟨lw_p63, fun _ h => absurd h List.not_mem_nil⟩⟩⟩⟩⟩⟩⟩⟩⟩⟩⟩⟩⟩⟩⟩⟩
theorem lw_p64 : lw_okq (⟨"TrustDesk", "sell", "(LTrustDesk$Fund;I)V"⟩, 13) := ⟨⟨by decide +kernel, by decide +kernel⟩, List.mem_of_getElem? (i := 32) (by decide +kernel), List.mem_of_getElem? (i := 1159) (by decide +kernel), List.mem_of_getElem? (i := 1160) (by decide +kernel)⟩
theorem lw_p65 : lw_okq (⟨"TrustDesk", "strike", "(LTrustDesk$End;)V"⟩, 13) := ⟨⟨by decide +kernel, by decide +kernel⟩, List.mem_of_getElem? (i := 32) (by decide +kernel), List.mem_of_getElem? (i := 1163) (by decide +kernel), List.mem_of_getElem? (i := 1164) (by decide +kernel)⟩
theorem lw_p66 : lw_okq (⟨"TrustDesk", "endAt", "(II)LTrustDesk$End;"⟩, 13) := ⟨⟨by decide +kernel, by decide +kernel⟩, List.mem_of_getElem? (i := 32) (by decide +kernel), List.mem_of_getElem? (i := 1192) (by decide +kernel), List.mem_of_getElem? (i := 1193) (by decide +kernel)⟩
theorem lw_p67 : lw_okq (⟨"TrustDesk", "gather", "(I)Z"⟩, 13) := ⟨⟨by decide +kernel, by decide +kernel⟩, List.mem_of_getElem? (i := 32) (by decide +kernel), List.mem_of_getElem? (i := 1220) (by decide +kernel), List.mem_of_getElem? (i := 1221) (by decide +kernel)⟩
theorem lw_p68 : lw_okq (⟨"TrustDesk", "canGather", "(I)Z"⟩, 13) := ⟨⟨by decide +kernel, by decide +kernel⟩, List.mem_of_getElem? (i := 32) (by decide +kernel), List.mem_of_getElem? (i := 1224) (by decide +kernel), List.mem_of_getElem? (i := 1225) (by decide +kernel)⟩
theorem lw_p69 : lw_okq (⟨"TrustDesk", "spareOf", "(LTrustDesk$Fund;)J"⟩, 13) := ⟨⟨by decide +kernel, by decide +kernel⟩, List.mem_of_getElem? (i := 32) (by decide +kernel), List.mem_of_getElem? (i := 1232) (by decide +kernel), List.mem_of_getElem? (i := 1233) (by decide +kernel)⟩
theorem lw_p70 : lw_okq (⟨"TrustDesk$Grouping", "spread", "(II)V"⟩, 14) := ⟨⟨by decide +kernel, by decide +kernel⟩, List.mem_of_getElem? (i := 156) (by decide +kernel), List.mem_of_getElem? (i := 1245) (by decide +kernel), List.mem_of_getElem? (i := 1246) (by decide +kernel)⟩
theorem lw_p71 : lw_okq (⟨"TrustDesk$Grouping", "idleOf", "(I)J"⟩, 14) := ⟨⟨by decide +kernel, by decide +kernel⟩, List.mem_of_getElem? (i := 156) (by decide +kernel), List.mem_of_getElem? (i := 1249) (by decide +kernel), List.mem_of_getElem? (i := 1250) (by decide +kernel)⟩
theorem lw_p72 : lw_okq (⟨"TrustDesk$Grouping", "keepAsBest", "(JI)V"⟩, 14) := ⟨⟨by decide +kernel, by decide +kernel⟩, List.mem_of_getElem? (i := 156) (by decide +kernel), List.mem_of_getElem? (i := 1253) (by decide +kernel), List.mem_of_getElem? (i := 1254) (by decide +kernel)⟩
theorem lw_p73 : lw_okq (⟨"TrustDesk$Grouping", "put", "(II)V"⟩, 14) := ⟨⟨by decide +kernel, by decide +kernel⟩, List.mem_of_getElem? (i := 156) (by decide +kernel), List.mem_of_getElem? (i := 1257) (by decide +kernel), List.mem_of_getElem? (i := 1258) (by decide +kernel)⟩
theorem lw_p74 : lw_okq (⟨"TrustDesk$Grouping", "holdsTogether", "(I)Z"⟩, 14) := ⟨⟨by decide +kernel, by decide +kernel⟩, List.mem_of_getElem? (i := 156) (by decide +kernel), List.mem_of_getElem? (i := 1261) (by decide +kernel), List.mem_of_getElem? (i := 1262) (by decide +kernel)⟩
theorem lw_p75 : lw_okq (⟨"TrustDesk", "schemesMade", "()I"⟩, 13) := ⟨⟨by decide +kernel, by decide +kernel⟩, List.mem_of_getElem? (i := 32) (by decide +kernel), List.mem_of_getElem? (i := 1299) (by decide +kernel), List.mem_of_getElem? (i := 1300) (by decide +kernel)⟩
theorem lw_p76 : lw_okq (⟨"TrustDesk", "fundsNotJoined", "()I"⟩, 13) := ⟨⟨by decide +kernel, by decide +kernel⟩, List.mem_of_getElem? (i := 32) (by decide +kernel), List.mem_of_getElem? (i := 1303) (by decide +kernel), List.mem_of_getElem? (i := 1304) (by decide +kernel)⟩
theorem lw_p77 : lw_okq (⟨"java/lang/Throwable", "fillInStackTrace", "(I)Ljava/lang/Throwable;"⟩, 6) := ⟨⟨by decide +kernel, by decide +kernel⟩, List.mem_of_getElem? (i := 1351) (by decide +kernel), List.mem_of_getElem? (i := 1349) (by decide +kernel), List.mem_of_getElem? (i := 1350) (by decide +kernel)⟩
theorem lw_p78 : lw_okq (⟨"TrustDeskModel", "isKnown", "(I)Z"⟩, 72) := ⟨⟨by decide +kernel, by decide +kernel⟩, List.mem_of_getElem? (i := 1385) (by decide +kernel), List.mem_of_getElem? (i := 1624) (by decide +kernel), List.mem_of_getElem? (i := 1625) (by decide +kernel)⟩
theorem lw_p79 : lw_okq (⟨"TrustDeskModel", "factAt", "(III)I"⟩, 72) := ⟨⟨by decide +kernel, by decide +kernel⟩, List.mem_of_getElem? (i := 1385) (by decide +kernel), List.mem_of_getElem? (i := 1628) (by decide +kernel), List.mem_of_getElem? (i := 1629) (by decide +kernel)⟩
def lw_privs_5 : List (MethodName × Nat) := [(⟨"TrustDesk", "sell", "(LTrustDesk$Fund;I)V"⟩, 13), (⟨"TrustDesk", "strike", "(LTrustDesk$End;)V"⟩, 13), (⟨"TrustDesk", "endAt", "(II)LTrustDesk$End;"⟩, 13), (⟨"TrustDesk", "gather", "(I)Z"⟩, 13), (⟨"TrustDesk", "canGather", "(I)Z"⟩, 13), (⟨"TrustDesk", "spareOf", "(LTrustDesk$Fund;)J"⟩, 13), (⟨"TrustDesk$Grouping", "spread", "(II)V"⟩, 14), (⟨"TrustDesk$Grouping", "idleOf", "(I)J"⟩, 14), (⟨"TrustDesk$Grouping", "keepAsBest", "(JI)V"⟩, 14), (⟨"TrustDesk$Grouping", "put", "(II)V"⟩, 14), (⟨"TrustDesk$Grouping", "holdsTogether", "(I)Z"⟩, 14), (⟨"TrustDesk", "schemesMade", "()I"⟩, 13), (⟨"TrustDesk", "fundsNotJoined", "()I"⟩, 13), (⟨"java/lang/Throwable", "fillInStackTrace", "(I)Ljava/lang/Throwable;"⟩, 6), (⟨"TrustDeskModel", "isKnown", "(I)Z"⟩, 72), (⟨"TrustDeskModel", "factAt", "(III)I"⟩, 72)]
theorem lw_r5 : ∀ q ∈ lw_privs_5, lw_okq q := List.forall_mem_cons.mpr ⟨lw_p64, List.forall_mem_cons.mpr ⟨lw_p65, List.forall_mem_cons.mpr ⟨lw_p66, List.forall_mem_cons.mpr ⟨lw_p67, List.forall_mem_cons.mpr ⟨lw_p68, List.forall_mem_cons.mpr ⟨lw_p69, List.forall_mem_cons.mpr ⟨lw_p70, List.forall_mem_cons.mpr ⟨lw_p71, List.forall_mem_cons.mpr ⟨lw_p72, List.forall_mem_cons.mpr ⟨lw_p73, List.forall_mem_cons.mpr ⟨lw_p74, List.forall_mem_cons.mpr ⟨lw_p75, List.forall_mem_cons.mpr ⟨lw_p76, List.forall_mem_cons.mpr ⟨lw_p77, List.forall_mem_cons.mpr ⟨lw_p78, List.forall_mem_cons.mpr ⟨lw_p79, fun _ h => absurd h List.not_mem_nil⟩⟩⟩⟩⟩⟩⟩⟩⟩⟩⟩⟩⟩⟩⟩⟩
theorem lw_p80 : lw_okq (⟨"TrustDeskModel", "starts", "(Z)V"⟩, 72) := ⟨⟨by decide +kernel, by decide +kernel⟩, List.mem_of_getElem? (i := 1385) (by decide +kernel), List.mem_of_getElem? (i := 1649) (by decide +kernel), List.mem_of_getElem? (i := 1650) (by decide +kernel)⟩
theorem lw_p81 : lw_okq (⟨"TrustDeskModel", "next", "()V"⟩, 72) := ⟨⟨by decide +kernel, by decide +kernel⟩, List.mem_of_getElem? (i := 1385) (by decide +kernel), List.mem_of_getElem? (i := 1653) (by decide +kernel), List.mem_of_getElem? (i := 1654) (by decide +kernel)⟩
theorem lw_p82 : lw_okq (⟨"TrustDeskModel", "see", "(I)I"⟩, 72) := ⟨⟨by decide +kernel, by decide +kernel⟩, List.mem_of_getElem? (i := 1385) (by decide +kernel), List.mem_of_getElem? (i := 1660) (by decide +kernel), List.mem_of_getElem? (i := 1661) (by decide +kernel)⟩
theorem lw_p83 : lw_okq (⟨"TrustDeskModel", "isWell", "()Z"⟩, 72) := ⟨⟨by decide +kernel, by decide +kernel⟩, List.mem_of_getElem? (i := 1385) (by decide +kernel), List.mem_of_getElem? (i := 1667) (by decide +kernel), List.mem_of_getElem? (i := 1668) (by decide +kernel)⟩
theorem lw_p84 : lw_okq (⟨"TrustDeskModel", "readRule", "()V"⟩, 72) := ⟨⟨by decide +kernel, by decide +kernel⟩, List.mem_of_getElem? (i := 1385) (by decide +kernel), List.mem_of_getElem? (i := 1671) (by decide +kernel), List.mem_of_getElem? (i := 1672) (by decide +kernel)⟩
theorem lw_p85 : lw_okq (⟨"TrustDeskModel", "ruleWord", "()I"⟩, 72) := ⟨⟨by decide +kernel, by decide +kernel⟩, List.mem_of_getElem? (i := 1385) (by decide +kernel), List.mem_of_getElem? (i := 1675) (by decide +kernel), List.mem_of_getElem? (i := 1676) (by decide +kernel)⟩
theorem lw_p86 : lw_okq (⟨"TrustDeskModel", "isWord", "(Ljava/lang/String;)Z"⟩, 72) := ⟨⟨by decide +kernel, by decide +kernel⟩, List.mem_of_getElem? (i := 1385) (by decide +kernel), List.mem_of_getElem? (i := 1680) (by decide +kernel), List.mem_of_getElem? (i := 1681) (by decide +kernel)⟩
theorem lw_p87 : lw_okq (⟨"TrustDeskModel", "fails", "(I)V"⟩, 72) := ⟨⟨by decide +kernel, by decide +kernel⟩, List.mem_of_getElem? (i := 1385) (by decide +kernel), List.mem_of_getElem? (i := 1692) (by decide +kernel), List.mem_of_getElem? (i := 1693) (by decide +kernel)⟩
theorem lw_p88 : lw_okq (⟨"TrustDeskModel", "begin", "(I)I"⟩, 72) := ⟨⟨by decide +kernel, by decide +kernel⟩, List.mem_of_getElem? (i := 1385) (by decide +kernel), List.mem_of_getElem? (i := 1696) (by decide +kernel), List.mem_of_getElem? (i := 1697) (by decide +kernel)⟩
theorem lw_p89 : lw_okq (⟨"TrustDeskModel", "wantWord", "(Ljava/lang/String;)V"⟩, 72) := ⟨⟨by decide +kernel, by decide +kernel⟩, List.mem_of_getElem? (i := 1385) (by decide +kernel), List.mem_of_getElem? (i := 1705) (by decide +kernel), List.mem_of_getElem? (i := 1706) (by decide +kernel)⟩
theorem lw_p90 : lw_okq (⟨"TrustDeskModel", "cond", "()V"⟩, 72) := ⟨⟨by decide +kernel, by decide +kernel⟩, List.mem_of_getElem? (i := 1385) (by decide +kernel), List.mem_of_getElem? (i := 1709) (by decide +kernel), List.mem_of_getElem? (i := 1710) (by decide +kernel)⟩
theorem lw_p91 : lw_okq (⟨"TrustDeskModel", "both", "()V"⟩, 72) := ⟨⟨by decide +kernel, by decide +kernel⟩, List.mem_of_getElem? (i := 1385) (by decide +kernel), List.mem_of_getElem? (i := 1713) (by decide +kernel), List.mem_of_getElem? (i := 1714) (by decide +kernel)⟩
theorem lw_p92 : lw_okq (⟨"TrustDeskModel", "part", "()V"⟩, 72) := ⟨⟨by decide +kernel, by decide +kernel⟩, List.mem_of_getElem? (i := 1385) (by decide +kernel), List.mem_of_getElem? (i := 1717) (by decide +kernel), List.mem_of_getElem? (i := 1718) (by decide +kernel)⟩
theorem lw_p93 : lw_okq (⟨"TrustDeskModel", "isSign", "(I)Z"⟩, 72) := ⟨⟨by decide +kernel, by decide +kernel⟩, List.mem_of_getElem? (i := 1385) (by decide +kernel), List.mem_of_getElem? (i := 1722) (by decide +kernel), List.mem_of_getElem? (i := 1723) (by decide +kernel)⟩
theorem lw_p94 : lw_okq (⟨"TrustDeskModel", "opens", "()V"⟩, 72) := ⟨⟨by decide +kernel, by decide +kernel⟩, List.mem_of_getElem? (i := 1385) (by decide +kernel), List.mem_of_getElem? (i := 1726) (by decide +kernel), List.mem_of_getElem? (i := 1727) (by decide +kernel)⟩
theorem lw_p95 : lw_okq (⟨"TrustDeskModel", "wantSign", "(I)V"⟩, 72) := ⟨⟨by decide +kernel, by decide +kernel⟩, List.mem_of_getElem? (i := 1385) (by decide +kernel), List.mem_of_getElem? (i := 1730) (by decide +kernel), List.mem_of_getElem? (i := 1731) (by decide +kernel)⟩
def lw_privs_6 : List (MethodName × Nat) := [(⟨"TrustDeskModel", "starts", "(Z)V"⟩, 72), (⟨"TrustDeskModel", "next", "()V"⟩, 72), (⟨"TrustDeskModel", "see", "(I)I"⟩, 72), (⟨"TrustDeskModel", "isWell", "()Z"⟩, 72), (⟨"TrustDeskModel", "readRule", "()V"⟩, 72), (⟨"TrustDeskModel", "ruleWord", "()I"⟩, 72), (⟨"TrustDeskModel", "isWord", "(Ljava/lang/String;)Z"⟩, 72), (⟨"TrustDeskModel", "fails", "(I)V"⟩, 72), (⟨"TrustDeskModel", "begin", "(I)I"⟩, 72), (⟨"TrustDeskModel", "wantWord", "(Ljava/lang/String;)V"⟩, 72), (⟨"TrustDeskModel", "cond", "()V"⟩, 72), (⟨"TrustDeskModel", "both", "()V"⟩, 72), (⟨"TrustDeskModel", "part", "()V"⟩, 72), (⟨"TrustDeskModel", "isSign", "(I)Z"⟩, 72), (⟨"TrustDeskModel", "opens", "()V"⟩, 72), (⟨"TrustDeskModel", "wantSign", "(I)V"⟩, 72)]
theorem lw_r6 : ∀ q ∈ lw_privs_6, lw_okq q := List.forall_mem_cons.mpr ⟨lw_p80, List.forall_mem_cons.mpr ⟨lw_p81, List.forall_mem_cons.mpr ⟨lw_p82, List.forall_mem_cons.mpr ⟨lw_p83, List.forall_mem_cons.mpr ⟨lw_p84, List.forall_mem_cons.mpr ⟨lw_p85, List.forall_mem_cons.mpr ⟨lw_p86, List.forall_mem_cons.mpr ⟨lw_p87, List.forall_mem_cons.mpr ⟨lw_p88, List.forall_mem_cons.mpr ⟨lw_p89, List.forall_mem_cons.mpr ⟨lw_p90, List.forall_mem_cons.mpr ⟨lw_p91, List.forall_mem_cons.mpr ⟨lw_p92, List.forall_mem_cons.mpr ⟨lw_p93, List.forall_mem_cons.mpr ⟨lw_p94, List.forall_mem_cons.mpr ⟨lw_p95, fun _ h => absurd h List.not_mem_nil⟩⟩⟩⟩⟩⟩⟩⟩⟩⟩⟩⟩⟩⟩⟩⟩
theorem lw_p96 : lw_okq (⟨"TrustDeskModel", "compares", "()V"⟩, 72) := ⟨⟨by decide +kernel, by decide +kernel⟩, List.mem_of_getElem? (i := 1385) (by decide +kernel), List.mem_of_getElem? (i := 1734) (by decide +kernel), List.mem_of_getElem? (i := 1735) (by decide +kernel)⟩
theorem lw_p97 : lw_okq (⟨"TrustDeskModel", "sum", "()V"⟩, 72) := ⟨⟨by decide +kernel, by decide +kernel⟩, List.mem_of_getElem? (i := 1385) (by decide +kernel), List.mem_of_getElem? (i := 1738) (by decide +kernel), List.mem_of_getElem? (i := 1739) (by decide +kernel)⟩
theorem lw_p98 : lw_okq (⟨"TrustDeskModel", "product", "()V"⟩, 72) := ⟨⟨by decide +kernel, by decide +kernel⟩, List.mem_of_getElem? (i := 1385) (by decide +kernel), List.mem_of_getElem? (i := 1742) (by decide +kernel), List.mem_of_getElem? (i := 1743) (by decide +kernel)⟩
theorem lw_p99 : lw_okq (⟨"TrustDeskModel", "factor", "()V"⟩, 72) := ⟨⟨by decide +kernel, by decide +kernel⟩, List.mem_of_getElem? (i := 1385) (by decide +kernel), List.mem_of_getElem? (i := 1746) (by decide +kernel), List.mem_of_getElem? (i := 1747) (by decide +kernel)⟩
theorem lw_p100 : lw_okq (⟨"TrustDeskModel", "emits", "(I)V"⟩, 72) := ⟨⟨by decide +kernel, by decide +kernel⟩, List.mem_of_getElem? (i := 1385) (by decide +kernel), List.mem_of_getElem? (i := 1750) (by decide +kernel), List.mem_of_getElem? (i := 1751) (by decide +kernel)⟩
theorem lw_p101 : lw_okq (⟨"TrustDeskModel", "name", "()I"⟩, 72) := ⟨⟨by decide +kernel, by decide +kernel⟩, List.mem_of_getElem? (i := 1385) (by decide +kernel), List.mem_of_getElem? (i := 1754) (by decide +kernel), List.mem_of_getElem? (i := 1755) (by decide +kernel)⟩
theorem lw_p102 : lw_okq (⟨"TrustDeskModel", "number", "(II)I"⟩, 72) := ⟨⟨by decide +kernel, by decide +kernel⟩, List.mem_of_getElem? (i := 1385) (by decide +kernel), List.mem_of_getElem? (i := 1773) (by decide +kernel), List.mem_of_getElem? (i := 1774) (by decide +kernel)⟩
theorem lw_p103 : lw_okq (⟨"TrustDeskModel", "stops", "(I)I"⟩, 72) := ⟨⟨by decide +kernel, by decide +kernel⟩, List.mem_of_getElem? (i := 1385) (by decide +kernel), List.mem_of_getElem? (i := 1777) (by decide +kernel), List.mem_of_getElem? (i := 1778) (by decide +kernel)⟩
theorem lw_p104 : lw_okq (⟨"TrustDeskModel", "toldOn", "(II)I"⟩, 72) := ⟨⟨by decide +kernel, by decide +kernel⟩, List.mem_of_getElem? (i := 1385) (by decide +kernel), List.mem_of_getElem? (i := 1786) (by decide +kernel), List.mem_of_getElem? (i := 1787) (by decide +kernel)⟩
theorem lw_p105 : lw_okq (⟨"TrustDeskModel", "actOn", "(I)I"⟩, 72) := ⟨⟨by decide +kernel, by decide +kernel⟩, List.mem_of_getElem? (i := 1385) (by decide +kernel), List.mem_of_getElem? (i := 1790) (by decide +kernel), List.mem_of_getElem? (i := 1791) (by decide +kernel)⟩
theorem lw_p106 : lw_okq (⟨"TrustDeskModel", "readClause", "()V"⟩, 72) := ⟨⟨by decide +kernel, by decide +kernel⟩, List.mem_of_getElem? (i := 1385) (by decide +kernel), List.mem_of_getElem? (i := 1800) (by decide +kernel), List.mem_of_getElem? (i := 1801) (by decide +kernel)⟩
theorem lw_p107 : lw_okq (⟨"TrustDeskModel", "readEnd", "(I)V"⟩, 72) := ⟨⟨by decide +kernel, by decide +kernel⟩, List.mem_of_getElem? (i := 1385) (by decide +kernel), List.mem_of_getElem? (i := 1807) (by decide +kernel), List.mem_of_getElem? (i := 1808) (by decide +kernel)⟩
theorem lw_p108 : lw_okq (⟨"TrustDeskModel", "isThere", "()Z"⟩, 72) := ⟨⟨by decide +kernel, by decide +kernel⟩, List.mem_of_getElem? (i := 1385) (by decide +kernel), List.mem_of_getElem? (i := 1811) (by decide +kernel), List.mem_of_getElem? (i := 1812) (by decide +kernel)⟩
theorem lw_p109 : lw_okq (⟨"TrustDeskModel", "readMarks", "(I)V"⟩, 72) := ⟨⟨by decide +kernel, by decide +kernel⟩, List.mem_of_getElem? (i := 1385) (by decide +kernel), List.mem_of_getElem? (i := 1817) (by decide +kernel), List.mem_of_getElem? (i := 1818) (by decide +kernel)⟩
theorem lw_p110 : lw_okq (⟨"TrustDeskModel", "addEnd", "(IIIIII)V"⟩, 72) := ⟨⟨by decide +kernel, by decide +kernel⟩, List.mem_of_getElem? (i := 1385) (by decide +kernel), List.mem_of_getElem? (i := 1821) (by decide +kernel), List.mem_of_getElem? (i := 1822) (by decide +kernel)⟩
theorem lw_p111 : lw_okq (⟨"TrustDeskModel", "isEnd", "(II)Z"⟩, 72) := ⟨⟨by decide +kernel, by decide +kernel⟩, List.mem_of_getElem? (i := 1385) (by decide +kernel), List.mem_of_getElem? (i := 1835) (by decide +kernel), List.mem_of_getElem? (i := 1836) (by decide +kernel)⟩
def lw_privs_7 : List (MethodName × Nat) := [(⟨"TrustDeskModel", "compares", "()V"⟩, 72), (⟨"TrustDeskModel", "sum", "()V"⟩, 72), (⟨"TrustDeskModel", "product", "()V"⟩, 72), (⟨"TrustDeskModel", "factor", "()V"⟩, 72), (⟨"TrustDeskModel", "emits", "(I)V"⟩, 72), (⟨"TrustDeskModel", "name", "()I"⟩, 72), (⟨"TrustDeskModel", "number", "(II)I"⟩, 72), (⟨"TrustDeskModel", "stops", "(I)I"⟩, 72), (⟨"TrustDeskModel", "toldOn", "(II)I"⟩, 72), (⟨"TrustDeskModel", "actOn", "(I)I"⟩, 72), (⟨"TrustDeskModel", "readClause", "()V"⟩, 72), (⟨"TrustDeskModel", "readEnd", "(I)V"⟩, 72), (⟨"TrustDeskModel", "isThere", "()Z"⟩, 72), (⟨"TrustDeskModel", "readMarks", "(I)V"⟩, 72), (⟨"TrustDeskModel", "addEnd", "(IIIIII)V"⟩, 72), (⟨"TrustDeskModel", "isEnd", "(II)Z"⟩, 72)]
theorem lw_r7 : ∀ q ∈ lw_privs_7, lw_okq q := List.forall_mem_cons.mpr ⟨lw_p96, List.forall_mem_cons.mpr ⟨lw_p97, List.forall_mem_cons.mpr ⟨lw_p98, List.forall_mem_cons.mpr ⟨lw_p99, List.forall_mem_cons.mpr ⟨lw_p100, List.forall_mem_cons.mpr ⟨lw_p101, List.forall_mem_cons.mpr ⟨lw_p102, List.forall_mem_cons.mpr ⟨lw_p103, List.forall_mem_cons.mpr ⟨lw_p104, List.forall_mem_cons.mpr ⟨lw_p105, List.forall_mem_cons.mpr ⟨lw_p106, List.forall_mem_cons.mpr ⟨lw_p107, List.forall_mem_cons.mpr ⟨lw_p108, List.forall_mem_cons.mpr ⟨lw_p109, List.forall_mem_cons.mpr ⟨lw_p110, List.forall_mem_cons.mpr ⟨lw_p111, fun _ h => absurd h List.not_mem_nil⟩⟩⟩⟩⟩⟩⟩⟩⟩⟩⟩⟩⟩⟩⟩⟩
theorem lw_p112 : lw_okq (⟨"TrustDeskModel", "isFund", "(I)Z"⟩, 72) := ⟨⟨by decide +kernel, by decide +kernel⟩, List.mem_of_getElem? (i := 1385) (by decide +kernel), List.mem_of_getElem? (i := 1839) (by decide +kernel), List.mem_of_getElem? (i := 1840) (by decide +kernel)⟩
theorem lw_p113 : lw_okq (⟨"TrustDeskModel", "names", "(III)V"⟩, 72) := ⟨⟨by decide +kernel, by decide +kernel⟩, List.mem_of_getElem? (i := 1385) (by decide +kernel), List.mem_of_getElem? (i := 1843) (by decide +kernel), List.mem_of_getElem? (i := 1844) (by decide +kernel)⟩
theorem lw_p114 : lw_okq (⟨"TrustDeskModel", "incomeOf", "(III)I"⟩, 72) := ⟨⟨by decide +kernel, by decide +kernel⟩, List.mem_of_getElem? (i := 1385) (by decide +kernel), List.mem_of_getElem? (i := 1847) (by decide +kernel), List.mem_of_getElem? (i := 1848) (by decide +kernel)⟩
theorem lw_p115 : lw_okq (⟨"TrustDeskModel", "howMany", "(II)I"⟩, 72) := ⟨⟨by decide +kernel, by decide +kernel⟩, List.mem_of_getElem? (i := 1385) (by decide +kernel), List.mem_of_getElem? (i := 1858) (by decide +kernel), List.mem_of_getElem? (i := 1859) (by decide +kernel)⟩
theorem lw_p116 : lw_okq (⟨"TrustDeskModel", "asks", "(II)I"⟩, 72) := ⟨⟨by decide +kernel, by decide +kernel⟩, List.mem_of_getElem? (i := 1385) (by decide +kernel), List.mem_of_getElem? (i := 1865) (by decide +kernel), List.mem_of_getElem? (i := 1866) (by decide +kernel)⟩
theorem lw_p117 : lw_okq (⟨"TrustDeskModel", "works", "(III)I"⟩, 72) := ⟨⟨by decide +kernel, by decide +kernel⟩, List.mem_of_getElem? (i := 1385) (by decide +kernel), List.mem_of_getElem? (i := 1869) (by decide +kernel), List.mem_of_getElem? (i := 1870) (by decide +kernel)⟩
theorem lw_p118 : lw_okq (⟨"TrustDeskModel", "closes", "(II)V"⟩, 72) := ⟨⟨by decide +kernel, by decide +kernel⟩, List.mem_of_getElem? (i := 1385) (by decide +kernel), List.mem_of_getElem? (i := 1887) (by decide +kernel), List.mem_of_getElem? (i := 1888) (by decide +kernel)⟩
theorem lw_p119 : lw_okq (⟨"TrustDeskModel", "gets", "(IJ)V"⟩, 72) := ⟨⟨by decide +kernel, by decide +kernel⟩, List.mem_of_getElem? (i := 1385) (by decide +kernel), List.mem_of_getElem? (i := 1892) (by decide +kernel), List.mem_of_getElem? (i := 1893) (by decide +kernel)⟩
theorem lw_p120 : lw_okq (⟨"TrustDeskModel", "pays", "(IIII)V"⟩, 72) := ⟨⟨by decide +kernel, by decide +kernel⟩, List.mem_of_getElem? (i := 1385) (by decide +kernel), List.mem_of_getElem? (i := 1897) (by decide +kernel), List.mem_of_getElem? (i := 1898) (by decide +kernel)⟩
theorem lw_p121 : lw_okq (⟨"TrustDeskModel", "leadsBack", "(II)V"⟩, 72) := ⟨⟨by decide +kernel, by decide +kernel⟩, List.mem_of_getElem? (i := 1385) (by decide +kernel), List.mem_of_getElem? (i := 1901) (by decide +kernel), List.mem_of_getElem? (i := 1902) (by decide +kernel)⟩
theorem lw_p122 : lw_okq (⟨"TrustDeskModel", "isFree", "(I)Z"⟩, 72) := ⟨⟨by decide +kernel, by decide +kernel⟩, List.mem_of_getElem? (i := 1385) (by decide +kernel), List.mem_of_getElem? (i := 1910) (by decide +kernel), List.mem_of_getElem? (i := 1911) (by decide +kernel)⟩
theorem lw_p123 : lw_okq (⟨"TrustDeskModel", "trustees", "(I)I"⟩, 72) := ⟨⟨by decide +kernel, by decide +kernel⟩, List.mem_of_getElem? (i := 1385) (by decide +kernel), List.mem_of_getElem? (i := 1917) (by decide +kernel), List.mem_of_getElem? (i := 1918) (by decide +kernel)⟩
theorem lw_p124 : lw_okq (⟨"TrustDeskModel", "isScheme", "(I)Z"⟩, 72) := ⟨⟨by decide +kernel, by decide +kernel⟩, List.mem_of_getElem? (i := 1385) (by decide +kernel), List.mem_of_getElem? (i := 1930) (by decide +kernel), List.mem_of_getElem? (i := 1931) (by decide +kernel)⟩
theorem lw_p125 : lw_okq (⟨"TrustDeskModel", "lastDay", "(I)I"⟩, 72) := ⟨⟨by decide +kernel, by decide +kernel⟩, List.mem_of_getElem? (i := 1385) (by decide +kernel), List.mem_of_getElem? (i := 1934) (by decide +kernel), List.mem_of_getElem? (i := 1935) (by decide +kernel)⟩
theorem lw_p126 : lw_okq (⟨"TrustDeskModel", "against", "(I)I"⟩, 72) := ⟨⟨by decide +kernel, by decide +kernel⟩, List.mem_of_getElem? (i := 1385) (by decide +kernel), List.mem_of_getElem? (i := 1938) (by decide +kernel), List.mem_of_getElem? (i := 1939) (by decide +kernel)⟩
theorem lw_p127 : lw_okq (⟨"TrustDeskModel", "failsBy", "(I)I"⟩, 72) := ⟨⟨by decide +kernel, by decide +kernel⟩, List.mem_of_getElem? (i := 1385) (by decide +kernel), List.mem_of_getElem? (i := 1954) (by decide +kernel), List.mem_of_getElem? (i := 1955) (by decide +kernel)⟩
def lw_privs_8 : List (MethodName × Nat) := [(⟨"TrustDeskModel", "isFund", "(I)Z"⟩, 72), (⟨"TrustDeskModel", "names", "(III)V"⟩, 72), (⟨"TrustDeskModel", "incomeOf", "(III)I"⟩, 72), (⟨"TrustDeskModel", "howMany", "(II)I"⟩, 72), (⟨"TrustDeskModel", "asks", "(II)I"⟩, 72), (⟨"TrustDeskModel", "works", "(III)I"⟩, 72), (⟨"TrustDeskModel", "closes", "(II)V"⟩, 72), (⟨"TrustDeskModel", "gets", "(IJ)V"⟩, 72), (⟨"TrustDeskModel", "pays", "(IIII)V"⟩, 72), (⟨"TrustDeskModel", "leadsBack", "(II)V"⟩, 72), (⟨"TrustDeskModel", "isFree", "(I)Z"⟩, 72), (⟨"TrustDeskModel", "trustees", "(I)I"⟩, 72), (⟨"TrustDeskModel", "isScheme", "(I)Z"⟩, 72), (⟨"TrustDeskModel", "lastDay", "(I)I"⟩, 72), (⟨"TrustDeskModel", "against", "(I)I"⟩, 72), (⟨"TrustDeskModel", "failsBy", "(I)I"⟩, 72)]
theorem lw_r8 : ∀ q ∈ lw_privs_8, lw_okq q := List.forall_mem_cons.mpr ⟨lw_p112, List.forall_mem_cons.mpr ⟨lw_p113, List.forall_mem_cons.mpr ⟨lw_p114, List.forall_mem_cons.mpr ⟨lw_p115, List.forall_mem_cons.mpr ⟨lw_p116, List.forall_mem_cons.mpr ⟨lw_p117, List.forall_mem_cons.mpr ⟨lw_p118, List.forall_mem_cons.mpr ⟨lw_p119, List.forall_mem_cons.mpr ⟨lw_p120, List.forall_mem_cons.mpr ⟨lw_p121, List.forall_mem_cons.mpr ⟨lw_p122, List.forall_mem_cons.mpr ⟨lw_p123, List.forall_mem_cons.mpr ⟨lw_p124, List.forall_mem_cons.mpr ⟨lw_p125, List.forall_mem_cons.mpr ⟨lw_p126, List.forall_mem_cons.mpr ⟨lw_p127, fun _ h => absurd h List.not_mem_nil⟩⟩⟩⟩⟩⟩⟩⟩⟩⟩⟩⟩⟩⟩⟩⟩
theorem lw_p128 : lw_okq (⟨"TrustDeskModel", "canBe", "(I)Z"⟩, 72) := ⟨⟨by decide +kernel, by decide +kernel⟩, List.mem_of_getElem? (i := 1385) (by decide +kernel), List.mem_of_getElem? (i := 1958) (by decide +kernel), List.mem_of_getElem? (i := 1959) (by decide +kernel)⟩
theorem lw_p129 : lw_okq (⟨"TrustDeskModel", "firstDead", "(I)I"⟩, 72) := ⟨⟨by decide +kernel, by decide +kernel⟩, List.mem_of_getElem? (i := 1385) (by decide +kernel), List.mem_of_getElem? (i := 1962) (by decide +kernel), List.mem_of_getElem? (i := 1963) (by decide +kernel)⟩
theorem lw_p130 : lw_okq (⟨"TrustDeskModel", "isBarred", "(I)Z"⟩, 72) := ⟨⟨by decide +kernel, by decide +kernel⟩, List.mem_of_getElem? (i := 1385) (by decide +kernel), List.mem_of_getElem? (i := 1966) (by decide +kernel), List.mem_of_getElem? (i := 1967) (by decide +kernel)⟩
theorem lw_p131 : lw_okq (⟨"TrustDeskModel", "year", "()I"⟩, 72) := ⟨⟨by decide +kernel, by decide +kernel⟩, List.mem_of_getElem? (i := 1385) (by decide +kernel), List.mem_of_getElem? (i := 1970) (by decide +kernel), List.mem_of_getElem? (i := 1971) (by decide +kernel)⟩
theorem lw_p132 : lw_okq (⟨"TrustDeskModel", "marksLeft", "(I)I"⟩, 72) := ⟨⟨by decide +kernel, by decide +kernel⟩, List.mem_of_getElem? (i := 1385) (by decide +kernel), List.mem_of_getElem? (i := 1974) (by decide +kernel), List.mem_of_getElem? (i := 1975) (by decide +kernel)⟩
theorem lw_p133 : lw_okq (⟨"TrustDeskModel", "lacksYes", "(II)Z"⟩, 72) := ⟨⟨by decide +kernel, by decide +kernel⟩, List.mem_of_getElem? (i := 1385) (by decide +kernel), List.mem_of_getElem? (i := 1978) (by decide +kernel), List.mem_of_getElem? (i := 1979) (by decide +kernel)⟩
theorem lw_p134 : lw_okq (⟨"TrustDeskModel", "makes", "(I)V"⟩, 72) := ⟨⟨by decide +kernel, by decide +kernel⟩, List.mem_of_getElem? (i := 1385) (by decide +kernel), List.mem_of_getElem? (i := 1982) (by decide +kernel), List.mem_of_getElem? (i := 1983) (by decide +kernel)⟩
theorem lw_p135 : lw_okq (⟨"TrustDeskModel", "joins", "(II)V"⟩, 72) := ⟨⟨by decide +kernel, by decide +kernel⟩, List.mem_of_getElem? (i := 1385) (by decide +kernel), List.mem_of_getElem? (i := 1986) (by decide +kernel), List.mem_of_getElem? (i := 1987) (by decide +kernel)⟩
theorem lw_p136 : lw_okq (⟨"TrustDeskModel", "worth", "(I)J"⟩, 72) := ⟨⟨by decide +kernel, by decide +kernel⟩, List.mem_of_getElem? (i := 1385) (by decide +kernel), List.mem_of_getElem? (i := 1990) (by decide +kernel), List.mem_of_getElem? (i := 1991) (by decide +kernel)⟩
theorem lw_p137 : lw_okq (⟨"TrustDeskModel", "saidSo", "(II)I"⟩, 72) := ⟨⟨by decide +kernel, by decide +kernel⟩, List.mem_of_getElem? (i := 1385) (by decide +kernel), List.mem_of_getElem? (i := 2003) (by decide +kernel), List.mem_of_getElem? (i := 2004) (by decide +kernel)⟩
theorem lw_p138 : lw_okq (⟨"TrustDeskModel", "groups", "(I)Z"⟩, 72) := ⟨⟨by decide +kernel, by decide +kernel⟩, List.mem_of_getElem? (i := 1385) (by decide +kernel), List.mem_of_getElem? (i := 2019) (by decide +kernel), List.mem_of_getElem? (i := 2020) (by decide +kernel)⟩
theorem lw_p139 : lw_okq (⟨"TrustDeskModel", "areAsked", "(I)Z"⟩, 72) := ⟨⟨by decide +kernel, by decide +kernel⟩, List.mem_of_getElem? (i := 1385) (by decide +kernel), List.mem_of_getElem? (i := 2023) (by decide +kernel), List.mem_of_getElem? (i := 2024) (by decide +kernel)⟩
theorem lw_p140 : lw_okq (⟨"TrustDeskModel", "findOver", "(I)V"⟩, 72) := ⟨⟨by decide +kernel, by decide +kernel⟩, List.mem_of_getElem? (i := 1385) (by decide +kernel), List.mem_of_getElem? (i := 2027) (by decide +kernel), List.mem_of_getElem? (i := 2028) (by decide +kernel)⟩
theorem lw_p141 : lw_okq (⟨"TrustDeskModel", "counts", "(II)V"⟩, 72) := ⟨⟨by decide +kernel, by decide +kernel⟩, List.mem_of_getElem? (i := 1385) (by decide +kernel), List.mem_of_getElem? (i := 2031) (by decide +kernel), List.mem_of_getElem? (i := 2032) (by decide +kernel)⟩
theorem lw_p142 : lw_okq (⟨"TrustDeskModel", "idle", "([I)J"⟩, 72) := ⟨⟨by decide +kernel, by decide +kernel⟩, List.mem_of_getElem? (i := 1385) (by decide +kernel), List.mem_of_getElem? (i := 2035) (by decide +kernel), List.mem_of_getElem? (i := 2036) (by decide +kernel)⟩
theorem lw_p143 : lw_okq (⟨"TrustDeskModel", "made", "()I"⟩, 72) := ⟨⟨by decide +kernel, by decide +kernel⟩, List.mem_of_getElem? (i := 1385) (by decide +kernel), List.mem_of_getElem? (i := 2091) (by decide +kernel), List.mem_of_getElem? (i := 2092) (by decide +kernel)⟩
def lw_privs_9 : List (MethodName × Nat) := [(⟨"TrustDeskModel", "canBe", "(I)Z"⟩, 72), (⟨"TrustDeskModel", "firstDead", "(I)I"⟩, 72), (⟨"TrustDeskModel", "isBarred", "(I)Z"⟩, 72), (⟨"TrustDeskModel", "year", "()I"⟩, 72), (⟨"TrustDeskModel", "marksLeft", "(I)I"⟩, 72), (⟨"TrustDeskModel", "lacksYes", "(II)Z"⟩, 72), (⟨"TrustDeskModel", "makes", "(I)V"⟩, 72), (⟨"TrustDeskModel", "joins", "(II)V"⟩, 72), (⟨"TrustDeskModel", "worth", "(I)J"⟩, 72), (⟨"TrustDeskModel", "saidSo", "(II)I"⟩, 72), (⟨"TrustDeskModel", "groups", "(I)Z"⟩, 72), (⟨"TrustDeskModel", "areAsked", "(I)Z"⟩, 72), (⟨"TrustDeskModel", "findOver", "(I)V"⟩, 72), (⟨"TrustDeskModel", "counts", "(II)V"⟩, 72), (⟨"TrustDeskModel", "idle", "([I)J"⟩, 72), (⟨"TrustDeskModel", "made", "()I"⟩, 72)]
theorem lw_r9 : ∀ q ∈ lw_privs_9, lw_okq q := List.forall_mem_cons.mpr ⟨lw_p128, List.forall_mem_cons.mpr ⟨lw_p129, List.forall_mem_cons.mpr ⟨lw_p130, List.forall_mem_cons.mpr ⟨lw_p131, List.forall_mem_cons.mpr ⟨lw_p132, List.forall_mem_cons.mpr ⟨lw_p133, List.forall_mem_cons.mpr ⟨lw_p134, List.forall_mem_cons.mpr ⟨lw_p135, List.forall_mem_cons.mpr ⟨lw_p136, List.forall_mem_cons.mpr ⟨lw_p137, List.forall_mem_cons.mpr ⟨lw_p138, List.forall_mem_cons.mpr ⟨lw_p139, List.forall_mem_cons.mpr ⟨lw_p140, List.forall_mem_cons.mpr ⟨lw_p141, List.forall_mem_cons.mpr ⟨lw_p142, List.forall_mem_cons.mpr ⟨lw_p143, fun _ h => absurd h List.not_mem_nil⟩⟩⟩⟩⟩⟩⟩⟩⟩⟩⟩⟩⟩⟩⟩⟩
theorem lw_p144 : lw_okq (⟨"TrustDeskModel", "free", "()I"⟩, 72) := ⟨⟨by decide +kernel, by decide +kernel⟩, List.mem_of_getElem? (i := 1385) (by decide +kernel), List.mem_of_getElem? (i := 2095) (by decide +kernel), List.mem_of_getElem? (i := 2096) (by decide +kernel)⟩
def lw_privs_10 : List (MethodName × Nat) := [(⟨"TrustDeskModel", "free", "()I"⟩, 72)]
theorem lw_r10 : ∀ q ∈ lw_privs_10, lw_okq q := List.forall_mem_cons.mpr ⟨lw_p144, fun _ h => absurd h List.not_mem_nil⟩
def lw_privs : List (MethodName × Nat) := lw_privs_1 ++ (lw_privs_2 ++ (lw_privs_3 ++ (lw_privs_4 ++ (lw_privs_5 ++ (lw_privs_6 ++ (lw_privs_7 ++ (lw_privs_8 ++ (lw_privs_9 ++ (lw_privs_10)))))))))
def lw_tbl : List Cond := k2_sels lw_privs ++ tables_1
theorem lw_privs_ok : ∀ q ∈ lw_privs, lw_okq q := by
  show ∀ q ∈ lw_privs_1 ++ (lw_privs_2 ++ (lw_privs_3 ++ (lw_privs_4 ++ (lw_privs_5 ++ (lw_privs_6 ++ (lw_privs_7 ++ (lw_privs_8 ++ (lw_privs_9 ++ (lw_privs_10))))))))), lw_okq q
  exact List.forall_mem_append.mpr ⟨lw_r1, List.forall_mem_append.mpr ⟨lw_r2, List.forall_mem_append.mpr ⟨lw_r3, List.forall_mem_append.mpr ⟨lw_r4, List.forall_mem_append.mpr ⟨lw_r5, List.forall_mem_append.mpr ⟨lw_r6, List.forall_mem_append.mpr ⟨lw_r7, List.forall_mem_append.mpr ⟨lw_r8, List.forall_mem_append.mpr ⟨lw_r9, lw_r10⟩⟩⟩⟩⟩⟩⟩⟩⟩
end
section
def kR_ArrayList : String := "java/util/ArrayList"
def kF_ArrayList : u_T := fun k => match k with
  | 0 => ("java/util/AbstractList", "modCount", "I", false)
  | 1 => ("java/util/ArrayList", "elementData", "[Ljava/lang/Object;", false)
  | _ => ("java/util/ArrayList", "size", "I", false)
def kt_ArrayList : Nat → FieldType := fun k => match k with
  | 0 => .int
  | 1 => .array (.object "java/lang/Object")
  | _ => .int
theorem kn_ArrayList : ∀ a, a < 3 → ∀ b, b < 3 → a ≠ b → (kF_ArrayList a).2.1 ≠ (kF_ArrayList b).2.1 := by decide +kernel
theorem kto_ArrayList : ∀ k, k < 3 → parseFieldDescriptor (kF_ArrayList k).2.2.1 = some (kt_ArrayList k) := by decide +kernel
theorem ki_ArrayList : ∀ w ∈ u_ws kR_ArrayList kF_ArrayList 3, w ∈ tables_1 := by decide +kernel
def kR_Act : String := "TrustDesk$Act"
def kF_Act : u_T := fun k => match k with
  | 0 => ("TrustDesk$Act", "from", "I", true)
  | 1 => ("TrustDesk$Act", "ruleCount", "I", false)
  | 2 => ("TrustDesk$Act", "bars", "Ljava/util/ArrayList;", true)
  | 3 => ("TrustDesk$Act", "rules", "[I", true)
  | _ => ("TrustDesk$Act", "barKinds", "[I", true)
def kt_Act : Nat → FieldType := fun k => match k with
  | 0 => .int
  | 1 => .int
  | 2 => .object "java/util/ArrayList"
  | 3 => .array .int
  | _ => .array .int
theorem kn_Act : ∀ a, a < 5 → ∀ b, b < 5 → a ≠ b → (kF_Act a).2.1 ≠ (kF_Act b).2.1 := by decide +kernel
theorem kto_Act : ∀ k, k < 5 → parseFieldDescriptor (kF_Act k).2.2.1 = some (kt_Act k) := by decide +kernel
theorem ki_Act : ∀ w ∈ u_ws kR_Act kF_Act 5, w ∈ tables_1 := by decide +kernel
def kR_Code : String := "TrustDesk$Code"
def kF_Code : u_T := fun k => match k with
  | _ => ("TrustDesk$Code", "steps", "[I", true)
def kt_Code : Nat → FieldType := fun k => match k with
  | _ => .array .int
theorem kn_Code : ∀ a, a < 1 → ∀ b, b < 1 → a ≠ b → (kF_Code a).2.1 ≠ (kF_Code b).2.1 := by decide +kernel
theorem kto_Code : ∀ k, k < 1 → parseFieldDescriptor (kF_Code k).2.2.1 = some (kt_Code k) := by decide +kernel
theorem ki_Code : ∀ w ∈ u_ws kR_Code kF_Code 1, w ∈ tables_1 := by decide +kernel
def kR_End : String := "TrustDesk$End"
def kF_End : u_T := fun k => match k with
  | 0 => ("TrustDesk$End", "text", "LTrustDesk$EndText;", false)
  | 1 => ("TrustDesk$End", "state", "I", false)
  | 2 => ("TrustDesk$End", "failedYears", "I", false)
  | _ => ("TrustDesk$End", "diedIn", "I", false)
def kt_End : Nat → FieldType := fun k => match k with
  | 0 => .object "TrustDesk$EndText"
  | 1 => .int
  | 2 => .int
  | _ => .int
theorem kn_End : ∀ a, a < 4 → ∀ b, b < 4 → a ≠ b → (kF_End a).2.1 ≠ (kF_End b).2.1 := by decide +kernel
theorem kto_End : ∀ k, k < 4 → parseFieldDescriptor (kF_End k).2.2.1 = some (kt_End k) := by decide +kernel
theorem ki_End : ∀ w ∈ u_ws kR_End kF_End 4, w ∈ tables_1 := by decide +kernel
def kR_EndText : String := "TrustDesk$EndText"
def kF_EndText : u_T := fun k => match k with
  | 0 => ("TrustDesk$EndText", "name", "J", true)
  | 1 => ("TrustDesk$EndText", "letters", "I", true)
  | 2 => ("TrustDesk$EndText", "sum", "LTrustDesk$Code;", true)
  | 3 => ("TrustDesk$EndText", "condition", "LTrustDesk$Code;", true)
  | _ => ("TrustDesk$EndText", "takesPart", "Z", true)
def kt_EndText : Nat → FieldType := fun k => match k with
  | 0 => .long
  | 1 => .int
  | 2 => .object "TrustDesk$Code"
  | 3 => .object "TrustDesk$Code"
  | _ => .boolean
theorem kn_EndText : ∀ a, a < 5 → ∀ b, b < 5 → a ≠ b → (kF_EndText a).2.1 ≠ (kF_EndText b).2.1 := by decide +kernel
theorem kto_EndText : ∀ k, k < 5 → parseFieldDescriptor (kF_EndText k).2.2.1 = some (kt_EndText k) := by decide +kernel
theorem ki_EndText : ∀ w ∈ u_ws kR_EndText kF_EndText 5, w ∈ tables_1 := by decide +kernel
def kR_Facts : String := "TrustDesk$Facts"
def kF_Facts : u_T := fun k => match k with
  | 0 => ("TrustDesk$Facts", "kinds", "[I", true)
  | 1 => ("TrustDesk$Facts", "years", "[I", true)
  | 2 => ("TrustDesk$Facts", "values", "[I", true)
  | 3 => ("TrustDesk$Facts", "toldOn", "[I", true)
  | _ => ("TrustDesk$Facts", "count", "I", false)
def kt_Facts : Nat → FieldType := fun k => match k with
  | 0 => .array .int
  | 1 => .array .int
  | 2 => .array .int
  | 3 => .array .int
  | _ => .int
theorem kn_Facts : ∀ a, a < 5 → ∀ b, b < 5 → a ≠ b → (kF_Facts a).2.1 ≠ (kF_Facts b).2.1 := by decide +kernel
theorem kto_Facts : ∀ k, k < 5 → parseFieldDescriptor (kF_Facts k).2.2.1 = some (kt_Facts k) := by decide +kernel
theorem ki_Facts : ∀ w ∈ u_ws kR_Facts kF_Facts 5, w ∈ tables_1 := by decide +kernel
def kR_Fund : String := "TrustDesk$Fund"
def kF_Fund : u_T := fun k => match k with
  | 0 => ("TrustDesk$Fund", "number", "I", true)
  | 1 => ("TrustDesk$Fund", "acres", "I", false)
  | 2 => ("TrustDesk$Fund", "stock", "I", false)
  | 3 => ("TrustDesk$Fund", "coin", "J", false)
  | 4 => ("TrustDesk$Fund", "marks", "I", false)
  | 5 => ("TrustDesk$Fund", "trustMost", "I", false)
  | 6 => ("TrustDesk$Fund", "trustNeeds", "I", false)
  | 7 => ("TrustDesk$Fund", "trusteeCount", "I", false)
  | 8 => ("TrustDesk$Fund", "joinedTo", "I", false)
  | 9 => ("TrustDesk$Fund", "laidGroup", "I", false)
  | 10 => ("TrustDesk$Fund", "ledBack", "J", false)
  | 11 => ("TrustDesk$Fund", "ends", "Ljava/util/ArrayList;", true)
  | 12 => ("TrustDesk$Fund", "parts", "[I", true)
  | 13 => ("TrustDesk$Fund", "trustees", "[Z", true)
  | _ => ("TrustDesk$Fund", "accounts", "[Z", true)
def kt_Fund : Nat → FieldType := fun k => match k with
  | 0 => .int
  | 1 => .int
  | 2 => .int
  | 3 => .long
  | 4 => .int
  | 5 => .int
  | 6 => .int
  | 7 => .int
  | 8 => .int
  | 9 => .int
  | 10 => .long
  | 11 => .object "java/util/ArrayList"
  | 12 => .array .int
  | 13 => .array .boolean
  | _ => .array .boolean
theorem kn_Fund : ∀ a, a < 15 → ∀ b, b < 15 → a ≠ b → (kF_Fund a).2.1 ≠ (kF_Fund b).2.1 := by decide +kernel
theorem kto_Fund : ∀ k, k < 15 → parseFieldDescriptor (kF_Fund k).2.2.1 = some (kt_Fund k) := by decide +kernel
theorem ki_Fund : ∀ w ∈ u_ws kR_Fund kF_Fund 15, w ∈ tables_1 := by decide +kernel
def kR_Grouping : String := "TrustDesk$Grouping"
def kF_Grouping : u_T := fun k => match k with
  | 0 => ("TrustDesk$Grouping", "bestIdle", "J", false)
  | 1 => ("TrustDesk$Grouping", "keep", "I", false)
  | 2 => ("TrustDesk$Grouping", "size", "I", false)
  | 3 => ("TrustDesk$Grouping", "bestGroups", "I", false)
  | 4 => ("TrustDesk$Grouping", "marks", "[I", true)
  | 5 => ("TrustDesk$Grouping", "spare", "[J", true)
  | 6 => ("TrustDesk$Grouping", "laid", "[I", true)
  | 7 => ("TrustDesk$Grouping", "groups", "[I", true)
  | 8 => ("TrustDesk$Grouping", "bestOf", "[I", true)
  | 9 => ("TrustDesk$Grouping", "members", "[I", true)
  | 10 => ("TrustDesk$Grouping", "common", "[I", true)
  | 11 => ("TrustDesk$Grouping", "together", "[J", true)
  | 12 => ("TrustDesk$Grouping", "needsFrom", "[J", true)
  | _ => ("TrustDesk$Grouping", "leastOfAll", "J", false)
def kt_Grouping : Nat → FieldType := fun k => match k with
  | 0 => .long
  | 1 => .int
  | 2 => .int
  | 3 => .int
  | 4 => .array .int
  | 5 => .array .long
  | 6 => .array .int
  | 7 => .array .int
  | 8 => .array .int
  | 9 => .array .int
  | 10 => .array .int
  | 11 => .array .long
  | 12 => .array .long
  | _ => .long
theorem kn_Grouping : ∀ a, a < 14 → ∀ b, b < 14 → a ≠ b → (kF_Grouping a).2.1 ≠ (kF_Grouping b).2.1 := by decide +kernel
theorem kto_Grouping : ∀ k, k < 14 → parseFieldDescriptor (kF_Grouping k).2.2.1 = some (kt_Grouping k) := by decide +kernel
theorem ki_Grouping : ∀ w ∈ u_ws kR_Grouping kF_Grouping 14, w ∈ tables_1 := by decide +kernel
def kR_NearEnd : String := "TrustDesk$NearEnd"
def kF_NearEnd : u_T := fun k => match k with
  | 0 => ("TrustDesk$NearEnd", "text", "LTrustDesk$EndText;", true)
  | _ => ("TrustDesk$NearEnd", "marks", "I", true)
def kt_NearEnd : Nat → FieldType := fun k => match k with
  | 0 => .object "TrustDesk$EndText"
  | _ => .int
theorem kn_NearEnd : ∀ a, a < 2 → ∀ b, b < 2 → a ≠ b → (kF_NearEnd a).2.1 ≠ (kF_NearEnd b).2.1 := by decide +kernel
theorem kto_NearEnd : ∀ k, k < 2 → parseFieldDescriptor (kF_NearEnd k).2.2.1 = some (kt_NearEnd k) := by decide +kernel
theorem ki_NearEnd : ∀ w ∈ u_ws kR_NearEnd kF_NearEnd 2, w ∈ tables_1 := by decide +kernel
def kR_Reader : String := "TrustDesk$Reader"
def kF_Reader : u_T := fun k => match k with
  | 0 => ("TrustDesk$Reader", "size", "I", false)
  | 1 => ("TrustDesk$Reader", "fault", "I", false)
  | 2 => ("TrustDesk$Reader", "faultPlace", "I", false)
  | 3 => ("TrustDesk$Reader", "bytes", "[I", true)
  | 4 => ("TrustDesk$Reader", "kinds", "[I", true)
  | 5 => ("TrustDesk$Reader", "starts", "[I", true)
  | 6 => ("TrustDesk$Reader", "stops", "[I", true)
  | 7 => ("TrustDesk$Reader", "values", "[I", true)
  | 8 => ("TrustDesk$Reader", "tokenCount", "I", false)
  | 9 => ("TrustDesk$Reader", "at", "I", false)
  | 10 => ("TrustDesk$Reader", "kind", "I", false)
  | 11 => ("TrustDesk$Reader", "start", "I", false)
  | 12 => ("TrustDesk$Reader", "stop", "I", false)
  | 13 => ("TrustDesk$Reader", "value", "I", false)
  | 14 => ("TrustDesk$Reader", "number", "I", false)
  | 15 => ("TrustDesk$Reader", "nameCount", "I", false)
  | 16 => ("TrustDesk$Reader", "open", "I", false)
  | 17 => ("TrustDesk$Reader", "steps", "[I", true)
  | _ => ("TrustDesk$Reader", "stepCount", "I", false)
def kt_Reader : Nat → FieldType := fun k => match k with
  | 0 => .int
  | 1 => .int
  | 2 => .int
  | 3 => .array .int
  | 4 => .array .int
  | 5 => .array .int
  | 6 => .array .int
  | 7 => .array .int
  | 8 => .int
  | 9 => .int
  | 10 => .int
  | 11 => .int
  | 12 => .int
  | 13 => .int
  | 14 => .int
  | 15 => .int
  | 16 => .int
  | 17 => .array .int
  | _ => .int
theorem kn_Reader : ∀ a, a < 19 → ∀ b, b < 19 → a ≠ b → (kF_Reader a).2.1 ≠ (kF_Reader b).2.1 := by decide +kernel
theorem kto_Reader : ∀ k, k < 19 → parseFieldDescriptor (kF_Reader k).2.2.1 = some (kt_Reader k) := by decide +kernel
theorem ki_Reader : ∀ w ∈ u_ws kR_Reader kF_Reader 19, w ∈ tables_1 := by decide +kernel
def kR_Reckoner : String := "TrustDesk$Reckoner"
def kF_Reckoner : u_T := fun k => match k with
  | 0 => ("TrustDesk$Reckoner", "names", "[J", true)
  | 1 => ("TrustDesk$Reckoner", "firstFalse", "I", false)
  | 2 => ("TrustDesk$Reckoner", "stack", "[J", true)
  | 3 => ("TrustDesk$Reckoner", "top", "I", false)
  | _ => ("TrustDesk$Reckoner", "comparisons", "I", false)
def kt_Reckoner : Nat → FieldType := fun k => match k with
  | 0 => .array .long
  | 1 => .int
  | 2 => .array .long
  | 3 => .int
  | _ => .int
theorem kn_Reckoner : ∀ a, a < 5 → ∀ b, b < 5 → a ≠ b → (kF_Reckoner a).2.1 ≠ (kF_Reckoner b).2.1 := by decide +kernel
theorem kto_Reckoner : ∀ k, k < 5 → parseFieldDescriptor (kF_Reckoner k).2.2.1 = some (kt_Reckoner k) := by decide +kernel
theorem ki_Reckoner : ∀ w ∈ u_ws kR_Reckoner kF_Reckoner 5, w ∈ tables_1 := by decide +kernel
def kR_Scheme : String := "TrustDesk$Scheme"
def kF_Scheme : u_T := fun k => match k with
  | 0 => ("TrustDesk$Scheme", "kind", "I", true)
  | 1 => ("TrustDesk$Scheme", "fund", "I", true)
  | 2 => ("TrustDesk$Scheme", "x", "I", true)
  | 3 => ("TrustDesk$Scheme", "firstDay", "I", true)
  | 4 => ("TrustDesk$Scheme", "lastDay", "I", true)
  | 5 => ("TrustDesk$Scheme", "state", "I", false)
  | 6 => ("TrustDesk$Scheme", "failedBy", "I", false)
  | 7 => ("TrustDesk$Scheme", "objections", "I", false)
  | 8 => ("TrustDesk$Scheme", "saidYes", "I", false)
  | 9 => ("TrustDesk$Scheme", "saidNo", "I", false)
  | 10 => ("TrustDesk$Scheme", "objectors", "[Z", true)
  | _ => ("TrustDesk$Scheme", "votes", "[B", true)
def kt_Scheme : Nat → FieldType := fun k => match k with
  | 0 => .int
  | 1 => .int
  | 2 => .int
  | 3 => .int
  | 4 => .int
  | 5 => .int
  | 6 => .int
  | 7 => .int
  | 8 => .int
  | 9 => .int
  | 10 => .array .boolean
  | _ => .array .byte
theorem kn_Scheme : ∀ a, a < 12 → ∀ b, b < 12 → a ≠ b → (kF_Scheme a).2.1 ≠ (kF_Scheme b).2.1 := by decide +kernel
theorem kto_Scheme : ∀ k, k < 12 → parseFieldDescriptor (kF_Scheme k).2.2.1 = some (kt_Scheme k) := by decide +kernel
theorem ki_Scheme : ∀ w ∈ u_ws kR_Scheme kF_Scheme 12, w ∈ tables_1 := by decide +kernel
def kR_TrustDesk : String := "TrustDesk"
def kF_TrustDesk : u_T := fun k => match k with
  | 0 => ("TrustDesk", "facts", "LTrustDesk$Facts;", true)
  | 1 => ("TrustDesk", "reader", "LTrustDesk$Reader;", true)
  | 2 => ("TrustDesk", "reckoner", "LTrustDesk$Reckoner;", true)
  | 3 => ("TrustDesk", "grouping", "LTrustDesk$Grouping;", true)
  | 4 => ("TrustDesk", "noRules", "LTrustDesk$Act;", true)
  | 5 => ("TrustDesk", "acts", "Ljava/util/ArrayList;", true)
  | 6 => ("TrustDesk", "funds", "Ljava/util/ArrayList;", true)
  | 7 => ("TrustDesk", "nearEnds", "Ljava/util/ArrayList;", true)
  | 8 => ("TrustDesk", "schemes", "Ljava/util/ArrayList;", true)
  | 9 => ("TrustDesk", "entries", "[I", true)
  | 10 => ("TrustDesk", "entryCount", "I", false)
  | 11 => ("TrustDesk", "accountCount", "I", false)
  | _ => ("TrustDesk", "today", "I", false)
def kt_TrustDesk : Nat → FieldType := fun k => match k with
  | 0 => .object "TrustDesk$Facts"
  | 1 => .object "TrustDesk$Reader"
  | 2 => .object "TrustDesk$Reckoner"
  | 3 => .object "TrustDesk$Grouping"
  | 4 => .object "TrustDesk$Act"
  | 5 => .object "java/util/ArrayList"
  | 6 => .object "java/util/ArrayList"
  | 7 => .object "java/util/ArrayList"
  | 8 => .object "java/util/ArrayList"
  | 9 => .array .int
  | 10 => .int
  | 11 => .int
  | _ => .int
theorem kn_TrustDesk : ∀ a, a < 13 → ∀ b, b < 13 → a ≠ b → (kF_TrustDesk a).2.1 ≠ (kF_TrustDesk b).2.1 := by decide +kernel
theorem kto_TrustDesk : ∀ k, k < 13 → parseFieldDescriptor (kF_TrustDesk k).2.2.1 = some (kt_TrustDesk k) := by decide +kernel
theorem ki_TrustDesk : ∀ w ∈ u_ws kR_TrustDesk kF_TrustDesk 13, w ∈ tables_1 := by decide +kernel
def kR_TrustDeskModel : String := "TrustDeskModel"
def kF_TrustDeskModel : u_T := fun k => match k with
  | 0 => ("TrustDeskModel", "thrown", "I", false)
  | 1 => ("TrustDeskModel", "today", "I", false)
  | 2 => ("TrustDeskModel", "facts", "I", false)
  | 3 => ("TrustDeskModel", "fact", "[I", true)
  | 4 => ("TrustDeskModel", "signs", "[I", true)
  | 5 => ("TrustDeskModel", "signMany", "[I", true)
  | 6 => ("TrustDeskModel", "many", "[I", true)
  | 7 => ("TrustDeskModel", "kind", "[I", true)
  | 8 => ("TrustDeskModel", "one", "[I", true)
  | 9 => ("TrustDeskModel", "two", "[I", true)
  | 10 => ("TrustDeskModel", "begins", "[I", true)
  | 11 => ("TrustDeskModel", "middles", "[I", true)
  | 12 => ("TrustDeskModel", "ends", "[I", true)
  | 13 => ("TrustDeskModel", "tape", "[B", true)
  | 14 => ("TrustDeskModel", "taped", "I", false)
  | 15 => ("TrustDeskModel", "at", "I", false)
  | 16 => ("TrustDeskModel", "place", "I", false)
  | 17 => ("TrustDeskModel", "sort", "I", false)
  | 18 => ("TrustDeskModel", "value", "I", false)
  | 19 => ("TrustDeskModel", "fault", "I", false)
  | 20 => ("TrustDeskModel", "faultPlace", "I", false)
  | 21 => ("TrustDeskModel", "lastPlace", "I", false)
  | 22 => ("TrustDeskModel", "open", "I", false)
  | 23 => ("TrustDeskModel", "ofAct", "Z", false)
  | 24 => ("TrustDeskModel", "newEnds", "I", false)
  | 25 => ("TrustDeskModel", "nameFrom", "[I", true)
  | 26 => ("TrustDeskModel", "nameSize", "[I", true)
  | 27 => ("TrustDeskModel", "acts", "I", false)
  | 28 => ("TrustDeskModel", "actFrom", "[I", true)
  | 29 => ("TrustDeskModel", "named", "[I", true)
  | 30 => ("TrustDeskModel", "heap", "[I", true)
  | 31 => ("TrustDeskModel", "firstNot", "I", false)
  | 32 => ("TrustDeskModel", "funds", "I", false)
  | 33 => ("TrustDeskModel", "acres", "[I", true)
  | 34 => ("TrustDeskModel", "stock", "[I", true)
  | 35 => ("TrustDeskModel", "coin", "[J", true)
  | 36 => ("TrustDeskModel", "marks", "[I", true)
  | 37 => ("TrustDeskModel", "joinedTo", "[I", true)
  | 38 => ("TrustDeskModel", "trustMost", "[I", true)
  | 39 => ("TrustDeskModel", "trustYes", "[I", true)
  | 40 => ("TrustDeskModel", "isTrustee", "[Z", true)
  | 41 => ("TrustDeskModel", "part", "[I", true)
  | 42 => ("TrustDeskModel", "paid", "[J", true)
  | 43 => ("TrustDeskModel", "endMany", "[I", true)
  | 44 => ("TrustDeskModel", "endText", "[I", true)
  | 45 => ("TrustDeskModel", "endRow", "[I", true)
  | 46 => ("TrustDeskModel", "endHow", "[I", true)
  | 47 => ("TrustDeskModel", "endFailed", "[I", true)
  | 48 => ("TrustDeskModel", "endDied", "[I", true)
  | 49 => ("TrustDeskModel", "nears", "I", false)
  | 50 => ("TrustDeskModel", "nearMarks", "[I", true)
  | 51 => ("TrustDeskModel", "entries", "I", false)
  | 52 => ("TrustDeskModel", "entry", "[I", true)
  | 53 => ("TrustDeskModel", "schemes", "I", false)
  | 54 => ("TrustDeskModel", "schemeKind", "[I", true)
  | 55 => ("TrustDeskModel", "schemeFund", "[I", true)
  | 56 => ("TrustDeskModel", "schemeX", "[I", true)
  | 57 => ("TrustDeskModel", "schemeDay", "[I", true)
  | 58 => ("TrustDeskModel", "schemeLast", "[I", true)
  | 59 => ("TrustDeskModel", "schemeHow", "[I", true)
  | 60 => ("TrustDeskModel", "schemeBy", "[I", true)
  | 61 => ("TrustDeskModel", "isAgainst", "[Z", true)
  | 62 => ("TrustDeskModel", "said", "[I", true)
  | 63 => ("TrustDeskModel", "over", "[J", true)
  | 64 => ("TrustDeskModel", "tried", "[I", true)
  | 65 => ("TrustDeskModel", "best", "[I", true)
  | 66 => ("TrustDeskModel", "laid", "[I", true)
  | 67 => ("TrustDeskModel", "asked", "I", false)
  | 68 => ("TrustDeskModel", "bestIdle", "J", false)
  | 69 => ("TrustDeskModel", "bestMany", "I", false)
  | 70 => ("TrustDeskModel", "accounts", "I", false)
  | _ => ("TrustDeskModel", "isGiven", "[Z", true)
def kt_TrustDeskModel : Nat → FieldType := fun k => match k with
  | 0 => .int
  | 1 => .int
  | 2 => .int
  | 3 => .array .int
  | 4 => .array .int
  | 5 => .array .int
  | 6 => .array .int
  | 7 => .array .int
  | 8 => .array .int
  | 9 => .array .int
  | 10 => .array .int
  | 11 => .array .int
  | 12 => .array .int
  | 13 => .array .byte
  | 14 => .int
  | 15 => .int
  | 16 => .int
  | 17 => .int
  | 18 => .int
  | 19 => .int
  | 20 => .int
  | 21 => .int
  | 22 => .int
  | 23 => .boolean
  | 24 => .int
  | 25 => .array .int
  | 26 => .array .int
  | 27 => .int
  | 28 => .array .int
  | 29 => .array .int
  | 30 => .array .int
  | 31 => .int
  | 32 => .int
  | 33 => .array .int
  | 34 => .array .int
  | 35 => .array .long
  | 36 => .array .int
  | 37 => .array .int
  | 38 => .array .int
  | 39 => .array .int
  | 40 => .array .boolean
  | 41 => .array .int
  | 42 => .array .long
  | 43 => .array .int
  | 44 => .array .int
  | 45 => .array .int
  | 46 => .array .int
  | 47 => .array .int
  | 48 => .array .int
  | 49 => .int
  | 50 => .array .int
  | 51 => .int
  | 52 => .array .int
  | 53 => .int
  | 54 => .array .int
  | 55 => .array .int
  | 56 => .array .int
  | 57 => .array .int
  | 58 => .array .int
  | 59 => .array .int
  | 60 => .array .int
  | 61 => .array .boolean
  | 62 => .array .int
  | 63 => .array .long
  | 64 => .array .int
  | 65 => .array .int
  | 66 => .array .int
  | 67 => .int
  | 68 => .long
  | 69 => .int
  | 70 => .int
  | _ => .array .boolean
theorem kn_TrustDeskModel : ∀ a, a < 72 → ∀ b, b < 72 → a ≠ b → (kF_TrustDeskModel a).2.1 ≠ (kF_TrustDeskModel b).2.1 := by decide +kernel
theorem kto_TrustDeskModel : ∀ k, k < 72 → parseFieldDescriptor (kF_TrustDeskModel k).2.2.1 = some (kt_TrustDeskModel k) := by decide +kernel
theorem ki_TrustDeskModel : ∀ w ∈ u_ws kR_TrustDeskModel kF_TrustDeskModel 72, w ∈ tables_1 := by decide +kernel
/-- the classes whose objects a run makes, by their numbers: 0 ArrayList, 1 Act, 2 Code, 3 End, 4 EndText, 5 Facts, 6 Fund, 7 Grouping, 8 NearEnd, 9 Reader, 10 Reckoner, 11 Scheme, 12 TrustDesk, 13 TrustDeskModel -/
abbrev kcl : List vw_C := [(kR_ArrayList, kF_ArrayList, 3), (kR_Act, kF_Act, 5), (kR_Code, kF_Code, 1), (kR_End, kF_End, 4), (kR_EndText, kF_EndText, 5), (kR_Facts, kF_Facts, 5), (kR_Fund, kF_Fund, 15), (kR_Grouping, kF_Grouping, 14), (kR_NearEnd, kF_NearEnd, 2), (kR_Reader, kF_Reader, 19), (kR_Reckoner, kF_Reckoner, 5), (kR_Scheme, kF_Scheme, 12), (kR_TrustDesk, kF_TrustDesk, 13), (kR_TrustDeskModel, kF_TrustDeskModel, 72)]
end
section
/-! ===== BEGIN words of one list among another's, by their places ===== -/
theorem goodIn_r {big : List Cond} (ws : List Cond) (ps : List Nat) (hp : ws = ps.filterMap (fun i => big[i]?)) (h : ws.all goodWord = true) : GoodIn big ws := by
  intro w hw
  have h1 := List.all_eq_true.mp h w hw
  rw [hp] at hw
  obtain ⟨i, -, hi⟩ := List.mem_filterMap.mp hw
  have hm : w ∈ big := by first | exact List.mem_of_getElem? hi | exact List.getElem?_mem hi
  exact ⟨hm, good_of_word h1⟩
theorem goodIn_app {big a b : List Cond} (ha : GoodIn big a) (hb : GoodIn big b) : GoodIn big (a ++ b) := fun w h => (List.mem_append.mp h).elim (ha w) (hb w)
theorem goodIn_ca {big a b : List Cond} {c : Cond} (ha : GoodIn big (c :: a)) (hb : GoodIn big b) : GoodIn big (c :: (a ++ b)) := fun w h => (List.mem_cons.mp h).elim (fun e => ha w (List.mem_cons.mpr (Or.inl e))) (fun h => (List.mem_append.mp h).elim (fun h => ha w (List.mem_cons.mpr (Or.inr h))) (hb w))
theorem goodIn_sub {big ws : List Cond} (hm : ∀ w ∈ ws, w ∈ big) (h : ws.all goodWord = true) : GoodIn big ws := fun w hw => ⟨hm w hw, good_of_word (List.all_eq_true.mp h w hw)⟩
/-! ===== END ===== -/
/-! ===== BEGIN exceptions that leave a method, and their catching by the caller (launches without stack traces) ===== -/
section VXA
/-! The laws vx_back, vx_callV, vx_callS, vx_callSW, vx_throw0, vx_throwS follow proofs of the library, with one case more: JvmDerived/Free/Laws.lean (Back.of_free), Shelf42/LK1.lean (callV, callS), Shelf/KitTraced.lean (throwNew0V, throwNewS). -/
/-- where a method has thrown q: the class by its name, the cell, what was written, the world -/
def vx_T (XC : String → State → State → Prop) (st : State) (q : Addr) (t : State) (mc ms : Nat) (free : Addr → Prop) : Prop :=
  ∃ (E : String) (ce : Cell) (L : List Loc), XC E st t ∧ t.heap[q]? = some ce ∧ ce.vm = .none ∧ st.vm.findClass E = some ce.cls ∧ st.WarmedH t.vm ∧ st.sameButNew ({ t with vm := st.vm } : State) L mc ms ∧ ∀ z ∈ L, free z.base
def vx_Q (Qc : Array Value → State → Outcome → State → Prop) (XC : String → State → State → Prop) (mc ms : Nat) (free : Addr → Prop) : Array Value → State → Outcome → State → Prop := fun a st o t =>
  (Qc a st o t ∧ ∃ L, FrameEnd st o t L mc ms ∧ ∀ q ∈ L, free q.base) ∨ ∃ q, o = .threw q ∧ vx_T XC st q t mc ms free
/-- a callee that returns or throws -/
def vx_Met (l : Launch) (y : MethodName) (ws : List Cond) (rm : Room) (Pc : Array Value → State → Prop) (Qc : Array Value → State → Outcome → State → Prop) (XC : String → State → State → Prop) (mc ms : Nat) (free : Addr → Prop) : Prop :=
  MetFree l y (headSpec ws rm) Pc (fun _ _ _ _ _ => True) (vx_Q Qc XC mc ms free)
def vx_Post (XC : String → State → State → Prop) (mc ms : Nat) (free : Addr → Prop) : Pt → Array Value → Addr → Pt → Prop := fun A a q B =>
  ∃ (g : JFrame) (mk : MethodId) (t : State) (L : List Loc) (E : String) (ce : Cell), B.U.heap = t.heap ∧ B.U.vm = t.vm ∧ XC E (A.U.calling g mk a) t ∧ t.heap[q]? = some ce ∧ ce.vm = .none ∧ A.U.vm.findClass E = some ce.cls ∧ B.locs = A.locs ++ L ∧ (∀ z ∈ L, free z.base) ∧ B.cells = A.cells + mc ∧ B.slots = A.slots + ms
def vx_Back (l : Launch) (R : Room) (p : Program) (e : Env) (below : List Frame) (s : State) (sargs : Array Value) (y : MethodName) (len W9 : Nat)
    (Pre : Pt → Array Value → Prop) (Post : Pt → Array Value → Option Value → Pt → Prop) (PostX : Pt → Array Value → Addr → Pt → Prop) : Prop :=
  ∀ (m : MethodId) (meth : Method) (c : Code) (A : Pt) (g : JFrame) (ig : Instr) (mk : MethodId) (a : Array Value),
    Stand p l e R s m sargs below meth c A.U A.locs A.cells A.slots → g.method = m → g.locals.size = c.maxLocals → decode c.code g.pc = .ok (ig, len) →
    2 * g.monitorRoom + (g.stack.map fun v => v.category).sum ≤ W9 → A.U.methodNamed? y = some mk → Pre A a →
    (∃ (v : Option Value) (B : Pt), Stand p l e R s m sargs below meth c B.U B.locs B.cells B.slots ∧ Post A a v B ∧
      Steps p.tables e below (doInvoke e (A.U.setTop g) [] mk a).1 (B.U.setTop { g with pc := g.pc + len, stack := v.toList ++ g.stack })) ∨
    (∃ (q : Addr) (B : Pt), Stand p l e R s m sargs below meth c B.U B.locs B.cells B.slots ∧ PostX A a q B ∧
      Steps p.tables e below (doInvoke e (A.U.setTop g) [] mk a).1 ((B.U.setTop g).pushFrame (.throwing q)))
section Payer
variable {l : Launch} {R : Room} {p : Program} {e : Env} {below : List Frame} {s : State} {sargs : Array Value} {y : MethodName} {len W9 : Nat}
theorem vx_back {ws : List Cond} {rm : Room} {Pc : Array Value → State → Prop} {Qc : Array Value → State → Outcome → State → Prop} {XC : String → State → State → Prop} {mc ms : Nat} {free : Addr → Prop} {bytes : ByteArray} {maxL : Nat} {ret : Option FieldType}
    (hM : vx_Met l y ws rm Pc Qc XC mc ms free) (hblind : FrameBlind Pc) (hrc : rm.cells = mc) (hrs : rm.slots = ms)
    (hframes : rm.frames + 1 ≤ R.frames) (hlocals : W9 + (maxL + 11) + rm.locals ≤ R.locals)
    (hws : ∀ w ∈ ws, ∀ a' U, s.WarmedH U.vm → w.before a' U = true) (hcode : Cond.code y bytes maxL ret ∈ ws) (hinit : ∀ a' U, s.WarmedH U.vm → (Cond.initialized y.cls).before a' U = true) :
    vx_Back l R p e below s sargs y len W9 (PreOf R mc ms Pc) (PostOf Qc mc ms free) (vx_Post XC mc ms free) := by
  intro m meth c A g ig mk a X hg hsize hdg hW hn hp
  have h1 : (headSpec ws rm).pre.before a A.U = true := atoms_intro fun w hw => hws w hw _ _ X.warmed
  have h2 : (Cond.code y bytes maxL ret).before a A.U = true := hws _ hcode _ _ X.warmed
  have h3 : (Cond.initialized y.cls).before a A.U = true := hinit _ _ X.warmed
  have h4 : A.cells + (headSpec ws rm).room.cells ≤ R.cells := by rw [show (headSpec ws rm).room.cells = mc from hrc]; exact hp.1
  have h5 : A.slots + (headSpec ws rm).room.slots ≤ R.slots := by rw [show (headSpec ws rm).room.slots = ms from hrs]; exact hp.2.1
  have hPc : Pc a (A.U.calling g mk a) := hblind _ _ _ _ hp.2.2
  obtain ⟨U, Ls, c0, s0⟩ := A
  dsimp only [Pt.U, Pt.locs, Pt.cells, Pt.slots] at h1 h2 h3 h4 h5 X hn hPc ⊢
  obtain ⟨methY, cY, hmY, hcY, -, hlY, -, -, -, -⟩ := Cond.code_spec hn h2
  obtain ⟨kY, hkY, -⟩ := className_of_methodNamed hn
  have hinitY : kY.init = .initialized := Cond.initialized_spec (findClass_of_methodNamed hn) hkY h3
  have h : At U g.method c below := by rw [hg]; exact X.here
  have hlocals9 : W9 + (maxL + 11) + (headSpec ws rm).room.locals ≤ R.locals := hlocals
  have happ : (headSpec ws rm).appliesLoose y e.platform (U.calling g mk a) = true :=
    Spec.appliesLoose_calling (g := g) h hdg hn hkY hinitY
      (X.room_calling (g := g) (R' := (headSpec ws rm).room) hsize hmY hcY hframes (by rw [hlY]; omega) h4 h5) h1
  obtain ⟨mid, hmid⟩ := h.above
  have hfr : (U.setTop g).frames = (.java g :: mid) ++ below := by rw [State.frames_setTop' g h.top, hmid]; rfl
  obtain ⟨o, s₂, hsteps, -, hend, hq⟩ := Steps.callFree hM p X.admits X.cas X.clock (acts := []) hfr happ hPc trivial
  have hq' : vx_Q Qc XC mc ms free a (U.calling g mk a) o s₂ := hq
  rw [State.frames_setTop' g h.top] at hend
  obtain ⟨g₀, hg0⟩ := Option.isSome_iff_exists.mp h.top
  obtain ⟨r, hr⟩ := State.topJava?_eq_some.mp hg0
  have hr' : (({ U with heap := s₂.heap, slotsUsed := s₂.slotsUsed } : State).setVm s₂.vm).frames = .java g₀ :: r := hr
  rcases hq' with ⟨hqc, L, hfe, hL⟩ | ⟨q, rfl, E, ce, L, hx, hce, hcv, hcl, hW₂, hsm, hL⟩
  · obtain ⟨⟨v, rfl⟩, hW₂, e2, q2, q3, q4, q5, q6⟩ := id hfe
    have e3 : s₂ = ({ (U.calling g mk a).setFrames s₂.frames with heap := s₂.heap, slotsUsed := s₂.slotsUsed } : State).setVm s₂.vm := by
      have : s₂ = ({ s₂ with vm := (U.calling g mk a).vm } : State).setVm s₂.vm := rfl
      rw [e2] at this
      exact this
    obtain ⟨c₂, i₂, len₂, hc₂, hd₂, hf₂⟩ := hend
    have hW' : U.WarmedH s₂.vm := hW₂
    have hcc : c₂ = c := by
      have h1 : s₂.code? g.method = U.code? g.method := by
        rw [State.code?_eq, State.code?_eq, hW'.alike.method?]
      exact Option.some.inj (hc₂.symm.trans (h1.trans h.code))
    subst hcc
    have hlen : len₂ = len := by rw [hdg] at hd₂; cases hd₂; rfl
    subst hlen
    have hs₂ : s₂ = (({ U with heap := s₂.heap, slotsUsed := s₂.slotsUsed } : State).setVm s₂.vm).setTop { g with pc := g.pc + len₂, stack := v.toList ++ g.stack } := by
      refine e3.trans ?_
      rw [hf₂, State.calling_eq h.top, State.setFrames_setFrames, State.setTop_of_frames _ hr', hr]
      rfl
    have hsame : U.sameButNew ({ U with heap := s₂.heap, slotsUsed := s₂.slotsUsed } : State) L mc ms := by
      refine ⟨?_, q2, q3, q4, q5, q6⟩
      obtain ⟨t, ht, -⟩ := State.frames_cons hr
      show ({ U with heap := s₂.heap, slotsUsed := s₂.slotsUsed } : State) = { U.setFrames U.frames with heap := s₂.heap, slotsUsed := s₂.slotsUsed }
      rw [State.setFrames_self ht]
    subst hg
    refine Or.inl ⟨v, ⟨(({ U with heap := s₂.heap, slotsUsed := s₂.slotsUsed } : State).setVm s₂.vm), Ls ++ L, c0 + mc, s0 + ms⟩,
      ⟨X.admits, X.cas, X.clock, X.frames, X.room, X.hears, X.method, X.code, (X.here.setHeapUsed s₂.heap s₂.slotsUsed).setVm hW'.alike, X.tail, State.WarmedH.trans X.warmed hW', X.limits, X.bytes, X.same.trans (hsame.setVm s.vm)⟩,
      ⟨g, mk, s₂, L, rfl, rfl, hqc, rfl, hL, rfl, rfl⟩, ?_⟩
    show Steps p.tables e below _ ((({ U with heap := s₂.heap, slotsUsed := s₂.slotsUsed } : State).setVm s₂.vm).setTop { g with pc := g.pc + len₂, stack := v.toList ++ g.stack })
    rw [← hs₂]
    exact hsteps
  · obtain ⟨e2, q2, q3, q4, q5, q6⟩ := id hsm
    have e3 : s₂ = ({ (U.calling g mk a).setFrames s₂.frames with heap := s₂.heap, slotsUsed := s₂.slotsUsed } : State).setVm s₂.vm := by
      have : s₂ = ({ s₂ with vm := (U.calling g mk a).vm } : State).setVm s₂.vm := rfl
      rw [e2] at this
      exact this
    have hf₂ : s₂.frames = .throwing q :: .java g :: U.frames.tail := hend
    have hW' : U.WarmedH s₂.vm := hW₂
    have hs₂ : s₂ = ((({ U with heap := s₂.heap, slotsUsed := s₂.slotsUsed } : State).setVm s₂.vm).setTop g).pushFrame (.throwing q) := by
      refine e3.trans ?_
      rw [hf₂, State.calling_eq h.top, State.setFrames_setFrames, State.pushFrame, State.frames_setTop _ hr', State.setTop_of_frames _ hr', State.setFrames_setFrames, hr]
      rfl
    have hsame : U.sameButNew ({ U with heap := s₂.heap, slotsUsed := s₂.slotsUsed } : State) L mc ms := by
      refine ⟨?_, q2, q3, q4, q5, q6⟩
      obtain ⟨t, ht, -⟩ := State.frames_cons hr
      show ({ U with heap := s₂.heap, slotsUsed := s₂.slotsUsed } : State) = { U.setFrames U.frames with heap := s₂.heap, slotsUsed := s₂.slotsUsed }
      rw [State.setFrames_self ht]
    subst hg
    refine Or.inr ⟨q, ⟨(({ U with heap := s₂.heap, slotsUsed := s₂.slotsUsed } : State).setVm s₂.vm), Ls ++ L, c0 + mc, s0 + ms⟩,
      ⟨X.admits, X.cas, X.clock, X.frames, X.room, X.hears, X.method, X.code, (X.here.setHeapUsed s₂.heap s₂.slotsUsed).setVm hW'.alike, X.tail, State.WarmedH.trans X.warmed hW', X.limits, X.bytes, X.same.trans (hsame.setVm s.vm)⟩,
      ⟨g, mk, s₂, L, E, ce, rfl, rfl, hx, hce, hcv, hcl, rfl, hL, rfl, rfl⟩, ?_⟩
    show Steps p.tables e below _ (((({ U with heap := s₂.heap, slotsUsed := s₂.slotsUsed } : State).setVm s₂.vm).setTop g).pushFrame (.throwing q))
    rw [← hs₂]
    exact hsteps
end Payer
section Calls
variable {p : Program} {l : Launch} {e : Env} {R : Room} {s : State} {m : MethodId} {args : Array Value} {below : List Frame} {meth : Method} {c : Code} {T : State} {locs : List Loc} {cells slots : Nat}
theorem vx_callV (X : Stand p l e R s m args below meth c T locs cells slots) (hexec : p.tables.exec = Jvm.exec) {own C : String} {index : Nat} {y : MethodName} {bytes : ByteArray} {maxL : Nat} {ret : Option FieldType}
    (hown : s.vm.findClass own = some m.cls) (hlink : (Cond.methodLink own index y).before args s = true) (hinst : (Cond.instanceMethod y).before args s = true) (hsel : (Cond.selects C y y).before args s = true)
    (hcode : (Cond.code y bytes maxL ret).before args s = true) (hy : y.cls ≠ "java/lang/invoke/MethodHandle" ∧ y.cls ≠ "java/lang/invoke/VarHandle")
    {W9 : Nat} {Pre : Pt → Array Value → Prop} {Post : Pt → Array Value → Option Value → Pt → Prop} {PostX : Pt → Array Value → Addr → Pt → Prop} (hK : vx_Back l R p e below s args y 3 W9 Pre Post PostX)
    {b : Addr} {cellB : Cell} (hcell : T.heap[b]? = some cellB) (hobj : cellB.vm.isStatics = false) (hcls : s.vm.findClass C = some cellB.cls)
    {g : JFrame} (hg : g.method = m) (hsize : g.locals.size = c.maxLocals) {argsL rest : List Value} (hlen : ∀ sig, parseMethodDescriptor y.desc = some sig → argsL.length = sig.parameters.length)
    (hstack : g.stack = argsL.reverse ++ .ref b :: rest) (hW : 2 * g.monitorRoom + (rest.map fun v => v.category).sum ≤ W9) (hdg : decode c.code g.pc = .ok (.invokevirtual index, 3))
    (hpre : ∀ vm₁, s.WarmedH vm₁ → Pre ⟨T.setVm vm₁, locs, cells, slots⟩ (Value.ref b :: argsL).toArray) :
    (∃ (v : Option Value) (vm₁ : Vm) (B : Pt), s.WarmedH vm₁ ∧ Stand p l e R s m args below meth c B.U B.locs B.cells B.slots ∧ Post ⟨T.setVm vm₁, locs, cells, slots⟩ (Value.ref b :: argsL).toArray v B ∧
      ∀ target, Steps p.tables e below (B.U.setTop { g with pc := g.pc + 3, stack := v.toList ++ rest }) target → Steps p.tables e below (T.setTop g) target) ∨
    (∃ (q : Addr) (vm₁ : Vm) (B : Pt), s.WarmedH vm₁ ∧ Stand p l e R s m args below meth c B.U B.locs B.cells B.slots ∧ PostX ⟨T.setVm vm₁, locs, cells, slots⟩ (Value.ref b :: argsL).toArray q B ∧
      Steps p.tables e below (T.setTop g) ((B.U.setTop { g with stack := rest }).pushFrame (.throwing q))) := by
  obtain ⟨mk, methM, hnamed, hmethM, hstM, habM⟩ := Cond.instanceMethod_spec hinst
  obtain ⟨methM', cM, hmethM', -, -, -, -, -, -, hsigM⟩ := Cond.code_spec hnamed hcode
  cases hmethM.symm.trans hmethM'
  obtain ⟨c2, r2, m2, q1, q2, q3, q4, kP, hkP, hkPi⟩ := Cond.selects_spec hsel
  cases hcls.symm.trans q1
  cases (State.methodFound?_of_named hnamed hy).symm.trans q2
  cases hnamed.symm.trans q3
  have hselP : selectMethod e.platform s.vm cellB.cls mk = .method mk := by rw [Launch.admits_selectMethod X.admits]; exact q4
  obtain ⟨vm₁, X₁, hstep₁⟩ := X.invokevirtual hexec hown hlink hnamed hmethM hstM hkP hkPi hy (a := b) (cell := cellB) hcell
    (fun z h => by rw [h] at hobj; cases hobj) hselP hmethM habM hkP hkPi (g := g) hg (argsL := argsL) (rest := rest) (hlen _ hsigM) hstack hdg
  rcases hK m meth c ⟨T.setVm vm₁, locs, cells, slots⟩ { g with stack := rest } (.invokevirtual index) mk (Value.ref b :: argsL).toArray X₁ hg hsize hdg hW (X₁.named hnamed) (hpre vm₁ X₁.warmed) with ⟨v, B, X', hpost, hsteps⟩ | ⟨q, B, X', hpost, hsteps⟩
  · exact Or.inl ⟨v, vm₁, B, X₁.warmed, X', hpost, fun target h => hstep₁ _ fun acts => by rw [doInvoke_state]; exact hsteps.trans h⟩
  · exact Or.inr ⟨q, vm₁, B, X₁.warmed, X', hpost, hstep₁ _ fun acts => by rw [doInvoke_state]; exact hsteps⟩
theorem vx_callS (X : Stand p l e R s m args below meth c T locs cells slots) (hexec : p.tables.exec = Jvm.exec) {own : String} {index : Nat} {y : MethodName} {bytes : ByteArray} {maxL : Nat} {ret : Option FieldType}
    (hown : s.vm.findClass own = some m.cls) (hlink : (Cond.methodLink own index y).before args s = true) (hstat : (Cond.static y).before args s = true) (hinit : (Cond.initialized y.cls).before args s = true)
    (hcode : (Cond.code y bytes maxL ret).before args s = true) (hy : y.cls ≠ "java/lang/invoke/MethodHandle" ∧ y.cls ≠ "java/lang/invoke/VarHandle")
    {W9 : Nat} {Pre : Pt → Array Value → Prop} {Post : Pt → Array Value → Option Value → Pt → Prop} {PostX : Pt → Array Value → Addr → Pt → Prop} (hK : vx_Back l R p e below s args y 3 W9 Pre Post PostX)
    {g : JFrame} (hg : g.method = m) (hsize : g.locals.size = c.maxLocals) {argsL rest : List Value} (hlen : ∀ sig, parseMethodDescriptor y.desc = some sig → argsL.length = sig.parameters.length)
    (hstack : g.stack = argsL.reverse ++ rest) (hW : 2 * g.monitorRoom + (rest.map fun v => v.category).sum ≤ W9) (hdg : decode c.code g.pc = .ok (.invokestatic index, 3))
    (hpre : ∀ vm₁, s.WarmedH vm₁ → Pre ⟨T.setVm vm₁, locs, cells, slots⟩ argsL.toArray) :
    (∃ (v : Option Value) (vm₁ : Vm) (B : Pt), s.WarmedH vm₁ ∧ Stand p l e R s m args below meth c B.U B.locs B.cells B.slots ∧ Post ⟨T.setVm vm₁, locs, cells, slots⟩ argsL.toArray v B ∧
      ∀ target, Steps p.tables e below (B.U.setTop { g with pc := g.pc + 3, stack := v.toList ++ rest }) target → Steps p.tables e below (T.setTop g) target) ∨
    (∃ (q : Addr) (vm₁ : Vm) (B : Pt), s.WarmedH vm₁ ∧ Stand p l e R s m args below meth c B.U B.locs B.cells B.slots ∧ PostX ⟨T.setVm vm₁, locs, cells, slots⟩ argsL.toArray q B ∧
      Steps p.tables e below (T.setTop g) ((B.U.setTop { g with stack := rest }).pushFrame (.throwing q))) := by
  obtain ⟨mk, hnamed⟩ := Cond.code_named hcode
  obtain ⟨methM, cM, hmethM, -, -, -, -, -, -, hsigM⟩ := Cond.code_spec hnamed hcode
  have hstatic : methM.isStatic = true := Cond.static_spec hnamed hmethM hstat
  obtain ⟨kP, hkP, -⟩ := className_of_methodNamed hnamed
  have hinitP : kP.init = .initialized := Cond.initialized_spec (findClass_of_methodNamed hnamed) hkP hinit
  obtain ⟨vm₁, X₁, hstep₁⟩ := X.invokestatic hexec hown hlink hnamed hmethM hstatic hkP hinitP hy (g := g) hg (argsL := argsL) (rest := rest) (hlen _ hsigM) hstack hdg
  rcases hK m meth c ⟨T.setVm vm₁, locs, cells, slots⟩ { g with stack := rest } (.invokestatic index) mk argsL.toArray X₁ hg hsize hdg hW (X₁.named hnamed) (hpre vm₁ X₁.warmed) with ⟨v, B, X', hpost, hsteps⟩ | ⟨q, B, X', hpost, hsteps⟩
  · exact Or.inl ⟨v, vm₁, B, X₁.warmed, X', hpost, fun target h => hstep₁ _ fun acts => by rw [doInvoke_state]; exact hsteps.trans h⟩
  · exact Or.inr ⟨q, vm₁, B, X₁.warmed, X', hpost, hstep₁ _ fun acts => by rw [doInvoke_state]; exact hsteps⟩
end Calls
theorem vx_cls {s : State} {T : State} {vm₁ : Vm} {E : String} {k : ClassId} (hW : s.WarmedH vm₁) (h : (T.setVm vm₁).vm.findClass E = some k) : s.vm.findClass E = some k := by
  have h1 : vm₁.findClass E = some k := h
  rw [hW.alike.findClass] at h1
  exact h1
/-- the method's frame g, with q thrown over it -/
def vx_W (p : Program) (l : Launch) (e : Env) (R : Room) (s : State) (m : MethodId) (args : Array Value) (below : List Frame) (meth : Method) (c : Code) (H : Heap) (locs : List Loc) (cells slots : Nat) (Q : State → Prop) (g : JFrame) (q : Addr) : Prop :=
  ∀ T : State, T.heap = H → Stand p l e R s m args below meth c T locs cells slots → ∃ t, Steps p.tables e below ((T.setTop g).pushFrame (.throwing q)) t ∧ Q t
def vx_Run (p : Program) (l : Launch) (e : Env) (R : Room) (s : State) (m : MethodId) (args : Array Value) (below : List Frame) (meth : Method) (c : Code) (H : Heap) (locs : List Loc) (cells slots mc ms : Nat) (g : JFrame) (rest : List Value) (Qa : State → Outcome → State → Prop) (XC : String → State → State → Prop) (free : Addr → Prop) : Prop :=
  ∀ T : State, T.heap = H → Stand p l e R s m args below meth c T locs cells slots →
    (∃ (v : Option Value) (st₀ t T' : State) (L : List Loc), st₀.heap = H ∧ Stand p l e R s m args below meth c T' (locs ++ L) (cells + mc) (slots + ms) ∧ (∀ q ∈ L, free q.base) ∧ T'.heap = t.heap ∧ T'.vm = t.vm ∧ Qa st₀ (.returned v) t ∧
      Goes p e below T g T' { g with pc := g.pc + 3, stack := v.toList ++ rest }) ∨
    (∃ (q : Addr) (st₀ t T' : State) (L : List Loc) (E : String) (ce : Cell), st₀.heap = H ∧ Stand p l e R s m args below meth c T' (locs ++ L) (cells + mc) (slots + ms) ∧ (∀ z ∈ L, free z.base) ∧ T'.heap = t.heap ∧ T'.vm = t.vm ∧ XC E st₀ t ∧ t.heap[q]? = some ce ∧ ce.vm = .none ∧ s.vm.findClass E = some ce.cls ∧
      Steps p.tables e below (T.setTop g) ((T'.setTop { g with stack := rest }).pushFrame (.throwing q)))
def vx_X {S : Type} (px : S → Prop) (B : String → S → State → Prop) (A : Nat → Prop) : String → State → State → Prop := fun E st t => ∃ u : S, px u ∧ B E u t ∧ va_F A st t
section Runs
variable {p : Program} {l : Launch} {e : Env} {R : Room} {s : State} {m : MethodId} {args : Array Value} {below : List Frame} {meth : Method} {c : Code} {H : Heap} {locs : List Loc} {cells slots : Nat}
variable {y : MethodName} {bytes cc : ByteArray} {maxL nL mc ms n index : Nat} {ret : Option FieldType} {ws : List Cond} {rm : Room} {Pc : Array Value → State → Prop} {Qc : Array Value → State → Outcome → State → Prop} {XC : String → State → State → Prop} {free : Addr → Prop} {Ts : List Cond} {own C : String} {b : Addr} {As rest : List Value} {g : JFrame}
theorem vx_callBack (cb : CallB R s args own index y bytes maxL ret ws rm mc ms n) (hM : vx_Met l y ws rm Pc Qc XC mc ms free) (hbl : FrameBlind Pc) : vx_Back l R p e below s args y 3 8 (PreOf R mc ms Pc) (PostOf Qc mc ms free) (vx_Post XC mc ms free) := by
  obtain ⟨hrc, hrs, hfr, hlo, hws, hcw, -, hini, -⟩ := cb
  exact vx_back (bytes := bytes) (maxL := maxL) (ret := ret) hM hbl hrc hrs hfr hlo hws hcw (fun a' U hW => word_at hW (Or.inl (by first | rfl | simp [Cond.onTables, Cond.keeps, Cond.steady])) hini)
theorem vx_runV (S : CallFix p m c cc nL s args Ts own) (hM : vx_Met l y ws rm Pc Qc XC mc ms free) (cw : CallW R s args own C index y bytes maxL ret ws rm mc ms n) (hp : PreV s H C b Pc As)
    (hg : g.method = m) (hn : As.length = n) (hsize : g.locals.size = nL) (hstack : g.stack = As.reverse ++ .ref b :: rest) (hW : 2 * g.monitorRoom + (rest.map fun v => v.category).sum ≤ 8) (hdg : decode cc g.pc = .ok (.invokevirtual index, 3)) (hf : cells + mc ≤ R.cells ∧ slots + ms ≤ R.slots) :
    vx_Run p l e R s m args below meth c H locs cells slots mc ms g rest (Qc (Value.ref b :: As).toArray) XC free := by
  have hK : vx_Back l R p e below s args y 3 8 (PreOf R mc ms Pc) (PostOf Qc mc ms free) (vx_Post XC mc ms free) := vx_callBack cw.1 hM hp.1
  obtain ⟨⟨-, -, -, -, -, -, hcode, -, hy, hlen, hl⟩, hin, hse⟩ := cw
  obtain ⟨hx, hb, hml, ho, -⟩ := S
  obtain ⟨-, ⟨cellB, hcB, hoB, hclB⟩, hPc⟩ := hp
  intro T hT X
  rcases vx_callV X hx (C := C) (bytes := bytes) (maxL := maxL) (ret := ret) ho hl hin hse hcode hy hK (by rw [hT]; exact hcB) hoB hclB hg (hsize.trans hml.symm) (argsL := As) (rest := rest) (fun sig h => hn.trans (hlen sig h)) hstack hW (by rw [hb]; exact hdg)
    (fun vm₁ hW₁ => ⟨hf.1, hf.2, hPc (T.setVm vm₁) hT hW₁⟩) with ⟨v, vm₁, ⟨U', l2, c2, s2⟩, hW₁, X', ⟨g', mk, t, L, e1, e2, hq, h1, hL, h2, h3⟩, st⟩ | ⟨q, vm₁, ⟨U', l2, c2, s2⟩, hW₁, X', ⟨g', mk, t, L, E, ce, e1, e2, hq, hce, hcv, hcl, h1, hL, h2, h3⟩, st⟩
  · dsimp only [Pt.U, Pt.locs, Pt.cells, Pt.slots] at X' e1 e2 h1 h2 h3 st
    subst h1; subst h2; subst h3
    exact Or.inl ⟨v, (T.setVm vm₁).calling g' mk (Value.ref b :: As).toArray, t, U', L, hT, X', hL, e1, e2, hq, st⟩
  · dsimp only [Pt.U, Pt.locs, Pt.cells, Pt.slots] at X' e1 e2 h1 h2 h3 st hcl
    subst h1; subst h2; subst h3
    exact Or.inr ⟨q, (T.setVm vm₁).calling g' mk (Value.ref b :: As).toArray, t, U', L, E, ce, hT, X', hL, e1, e2, hq, hce, hcv, vx_cls hW₁ hcl, st⟩
theorem vx_runS (S : CallFix p m c cc nL s args Ts own) (hM : vx_Met l y ws rm Pc Qc XC mc ms free) (cw : CallB R s args own index y bytes maxL ret ws rm mc ms n ∧ (Cond.static y).before args s = true) (hp : PreS s H Pc As)
    (hg : g.method = m) (hn : As.length = n) (hsize : g.locals.size = nL) (hstack : g.stack = As.reverse ++ rest) (hW : 2 * g.monitorRoom + (rest.map fun v => v.category).sum ≤ 8) (hdg : decode cc g.pc = .ok (.invokestatic index, 3)) (hf : cells + mc ≤ R.cells ∧ slots + ms ≤ R.slots) :
    vx_Run p l e R s m args below meth c H locs cells slots mc ms g rest (Qc As.toArray) XC free := by
  have hK : vx_Back l R p e below s args y 3 8 (PreOf R mc ms Pc) (PostOf Qc mc ms free) (vx_Post XC mc ms free) := vx_callBack cw.1 hM hp.1
  obtain ⟨⟨-, -, -, -, -, -, hcode, hini, hy, hlen, hl⟩, hstt⟩ := cw
  obtain ⟨hx, hb, hml, ho, -⟩ := S
  intro T hT X
  rcases vx_callS X hx (bytes := bytes) (maxL := maxL) (ret := ret) ho hl hstt hini hcode hy hK hg (hsize.trans hml.symm) (argsL := As) (rest := rest) (fun sig h => hn.trans (hlen sig h)) hstack hW (by rw [hb]; exact hdg)
    (fun vm₁ hW₁ => ⟨hf.1, hf.2, hp.2 (T.setVm vm₁) hT hW₁⟩) with ⟨v, vm₁, ⟨U', l2, c2, s2⟩, hW₁, X', ⟨g', mk, t, L, e1, e2, hq, h1, hL, h2, h3⟩, st⟩ | ⟨q, vm₁, ⟨U', l2, c2, s2⟩, hW₁, X', ⟨g', mk, t, L, E, ce, e1, e2, hq, hce, hcv, hcl, h1, hL, h2, h3⟩, st⟩
  · dsimp only [Pt.U, Pt.locs, Pt.cells, Pt.slots] at X' e1 e2 h1 h2 h3 st
    subst h1; subst h2; subst h3
    exact Or.inl ⟨v, (T.setVm vm₁).calling g' mk As.toArray, t, U', L, hT, X', hL, e1, e2, hq, st⟩
  · dsimp only [Pt.U, Pt.locs, Pt.cells, Pt.slots] at X' e1 e2 h1 h2 h3 st hcl
    subst h1; subst h2; subst h3
    exact Or.inr ⟨q, (T.setVm vm₁).calling g' mk As.toArray, t, U', L, E, ce, hT, X', hL, e1, e2, hq, hce, hcv, vx_cls hW₁ hcl, st⟩
end Runs
section Rows
variable {p : Program} {l : Launch} {e : Env} {R : Room} {s : State} {m : MethodId} {args : Array Value} {below : List Frame} {meth : Method} {c : Code} {H : Heap} {locs : List Loc} {cells slots : Nat} {Q : State → Prop}
variable {mc ms : Nat} {free : Addr → Prop} {A0 A1 : Nat → Prop} {H0 : Heap} {a : Array Value} {pc : Nat} {ls : Array Slot} {st0 rest : List Value}
theorem vx_keep {st₀ t T' : State} {L : List Loc} (h0 : st₀.heap = H) (e1 : T'.heap = t.heap) (hS : va_S A0 H0 H locs) (hA : ∀ q, q < H.size → A1 q → A0 q) (hf : ∀ q, free q → A0 q) (hL : ∀ q ∈ L, free q.base) (hF : va_F A1 st₀ t) :
    H.size ≤ T'.heap.size ∧ (∀ q : Nat, q < H.size → ¬ A1 q → T'.heap[q]? = H[q]?) ∧ va_S A0 H0 T'.heap (locs ++ L) := by
  obtain ⟨hz, hk⟩ := hF
  rw [h0] at hz hk
  exact ⟨by rw [e1]; exact hz, fun q h1 h2 => by rw [e1]; exact hk q h1 h2,
    ⟨Nat.le_trans hS.1 (by rw [e1]; exact hz), fun q h1 h2 => by rw [e1, hk q (Nat.lt_of_lt_of_le h1 hS.1) (fun z => h2 (hA q (Nat.lt_of_lt_of_le h1 hS.1) z))]; exact hS.2.1 q h1 h2, fun q hq => by
      rcases List.mem_append.mp hq with h | h
      · exact hS.2.2 q h
      · exact hf _ (hL q h)⟩⟩
theorem vx_calli {S SX : Type} {post : Int32 → S → Prop} {px : SX → Prop} {B : S → State → Prop} {BX : String → SX → State → Prop} {AX : Nat → Prop} (hr : vx_Run p l e R s m args below meth c H locs cells slots mc ms (F0 m pc ls st0) rest (va_Qi post B A1 a) (vx_X px BX AX) free) (hS : va_S A0 H0 H locs) (hA : ∀ q, q < H.size → A1 q → A0 q) (hf : ∀ q, free q → A0 q) (hAX : ∀ q, q < H.size → AX q → A0 q)
    (kx : ∀ (E : String) (ce : Cell) (q9 : Addr) (u : SX) (t : State) (H1 : Heap) (locs1 : List Loc), t.heap = H1 → s.vm.Alike t.vm → px u → BX E u t → H.size ≤ H1.size → (∀ q : Nat, q < H.size → ¬ AX q → H1[q]? = H[q]?) → va_S A0 H0 H1 locs1 → H1[q9]? = some ce → ce.vm = .none → s.vm.findClass E = some ce.cls → vx_W p l e R s m args below meth c H1 locs1 (cells + mc) (slots + ms) Q (F0 m pc ls rest) q9)
    (kk : ∀ (r : Int32) (u : S) (t : State) (H1 : Heap) (locs1 : List Loc), t.heap = H1 → s.vm.Alike t.vm → post r u → B u t → H.size ≤ H1.size → (∀ q : Nat, q < H.size → ¬ A1 q → H1[q]? = H[q]?) → va_S A0 H0 H1 locs1 → W p l e R s m args below meth c H1 locs1 (cells + mc) (slots + ms) Q (F0 m (pc + 3) ls (.int r :: rest))) : W p l e R s m args below meth c H locs cells slots Q (F0 m pc ls st0) := by
  intro T hT X
  rcases hr T hT X with ⟨v, st₀, t, T', L, h0, X', hL, e1, e2, ⟨⟨r, u, hv, hp, hb⟩, hF⟩, st⟩ | ⟨q, st₀, t, T', L, E, ce, h0, X', hL, e1, e2, ⟨u, hp, hb, hF⟩, hce, hcv, hcl, st⟩
  · cases hv
    obtain ⟨k1, k2, k3⟩ := vx_keep h0 e1 hS hA hf hL hF
    obtain ⟨t2, a1, b1⟩ := kk r u t T'.heap (locs ++ L) e1.symm (by rw [← e2]; exact X'.warmed.alike) hp hb k1 k2 k3 T' rfl X'
    exact ⟨t2, st t2 a1, b1⟩
  · obtain ⟨k1, k2, k3⟩ := vx_keep h0 e1 hS hAX hf hL hF
    obtain ⟨t2, a1, b1⟩ := kx E ce q u t T'.heap (locs ++ L) e1.symm (by rw [← e2]; exact X'.warmed.alike) hp hb k1 k2 k3 (by rw [e1]; exact hce) hcv hcl T' rfl X'
    exact ⟨t2, st.trans a1, b1⟩
theorem vx_calll {S SX : Type} {post : Int64 → S → Prop} {px : SX → Prop} {B : S → State → Prop} {BX : String → SX → State → Prop} {AX : Nat → Prop} (hr : vx_Run p l e R s m args below meth c H locs cells slots mc ms (F0 m pc ls st0) rest (va_Ql post B A1 a) (vx_X px BX AX) free) (hS : va_S A0 H0 H locs) (hA : ∀ q, q < H.size → A1 q → A0 q) (hf : ∀ q, free q → A0 q) (hAX : ∀ q, q < H.size → AX q → A0 q)
    (kx : ∀ (E : String) (ce : Cell) (q9 : Addr) (u : SX) (t : State) (H1 : Heap) (locs1 : List Loc), t.heap = H1 → s.vm.Alike t.vm → px u → BX E u t → H.size ≤ H1.size → (∀ q : Nat, q < H.size → ¬ AX q → H1[q]? = H[q]?) → va_S A0 H0 H1 locs1 → H1[q9]? = some ce → ce.vm = .none → s.vm.findClass E = some ce.cls → vx_W p l e R s m args below meth c H1 locs1 (cells + mc) (slots + ms) Q (F0 m pc ls rest) q9)
    (kk : ∀ (r : Int64) (u : S) (t : State) (H1 : Heap) (locs1 : List Loc), t.heap = H1 → s.vm.Alike t.vm → post r u → B u t → H.size ≤ H1.size → (∀ q : Nat, q < H.size → ¬ A1 q → H1[q]? = H[q]?) → va_S A0 H0 H1 locs1 → W p l e R s m args below meth c H1 locs1 (cells + mc) (slots + ms) Q (F0 m (pc + 3) ls (.long r :: rest))) : W p l e R s m args below meth c H locs cells slots Q (F0 m pc ls st0) := by
  intro T hT X
  rcases hr T hT X with ⟨v, st₀, t, T', L, h0, X', hL, e1, e2, ⟨⟨r, u, hv, hp, hb⟩, hF⟩, st⟩ | ⟨q, st₀, t, T', L, E, ce, h0, X', hL, e1, e2, ⟨u, hp, hb, hF⟩, hce, hcv, hcl, st⟩
  · cases hv
    obtain ⟨k1, k2, k3⟩ := vx_keep h0 e1 hS hA hf hL hF
    obtain ⟨t2, a1, b1⟩ := kk r u t T'.heap (locs ++ L) e1.symm (by rw [← e2]; exact X'.warmed.alike) hp hb k1 k2 k3 T' rfl X'
    exact ⟨t2, st t2 a1, b1⟩
  · obtain ⟨k1, k2, k3⟩ := vx_keep h0 e1 hS hAX hf hL hF
    obtain ⟨t2, a1, b1⟩ := kx E ce q u t T'.heap (locs ++ L) e1.symm (by rw [← e2]; exact X'.warmed.alike) hp hb k1 k2 k3 (by rw [e1]; exact hce) hcv hcl T' rfl X'
    exact ⟨t2, st.trans a1, b1⟩
theorem vx_callf {S SX : Type} {post : UInt32 → S → Prop} {px : SX → Prop} {B : S → State → Prop} {BX : String → SX → State → Prop} {AX : Nat → Prop} (hr : vx_Run p l e R s m args below meth c H locs cells slots mc ms (F0 m pc ls st0) rest (va_Qf post B A1 a) (vx_X px BX AX) free) (hS : va_S A0 H0 H locs) (hA : ∀ q, q < H.size → A1 q → A0 q) (hf : ∀ q, free q → A0 q) (hAX : ∀ q, q < H.size → AX q → A0 q)
    (kx : ∀ (E : String) (ce : Cell) (q9 : Addr) (u : SX) (t : State) (H1 : Heap) (locs1 : List Loc), t.heap = H1 → s.vm.Alike t.vm → px u → BX E u t → H.size ≤ H1.size → (∀ q : Nat, q < H.size → ¬ AX q → H1[q]? = H[q]?) → va_S A0 H0 H1 locs1 → H1[q9]? = some ce → ce.vm = .none → s.vm.findClass E = some ce.cls → vx_W p l e R s m args below meth c H1 locs1 (cells + mc) (slots + ms) Q (F0 m pc ls rest) q9)
    (kk : ∀ (r : UInt32) (u : S) (t : State) (H1 : Heap) (locs1 : List Loc), t.heap = H1 → s.vm.Alike t.vm → post r u → B u t → H.size ≤ H1.size → (∀ q : Nat, q < H.size → ¬ A1 q → H1[q]? = H[q]?) → va_S A0 H0 H1 locs1 → W p l e R s m args below meth c H1 locs1 (cells + mc) (slots + ms) Q (F0 m (pc + 3) ls (.float r :: rest))) : W p l e R s m args below meth c H locs cells slots Q (F0 m pc ls st0) := by
  intro T hT X
  rcases hr T hT X with ⟨v, st₀, t, T', L, h0, X', hL, e1, e2, ⟨⟨r, u, hv, hp, hb⟩, hF⟩, st⟩ | ⟨q, st₀, t, T', L, E, ce, h0, X', hL, e1, e2, ⟨u, hp, hb, hF⟩, hce, hcv, hcl, st⟩
  · cases hv
    obtain ⟨k1, k2, k3⟩ := vx_keep h0 e1 hS hA hf hL hF
    obtain ⟨t2, a1, b1⟩ := kk r u t T'.heap (locs ++ L) e1.symm (by rw [← e2]; exact X'.warmed.alike) hp hb k1 k2 k3 T' rfl X'
    exact ⟨t2, st t2 a1, b1⟩
  · obtain ⟨k1, k2, k3⟩ := vx_keep h0 e1 hS hAX hf hL hF
    obtain ⟨t2, a1, b1⟩ := kx E ce q u t T'.heap (locs ++ L) e1.symm (by rw [← e2]; exact X'.warmed.alike) hp hb k1 k2 k3 (by rw [e1]; exact hce) hcv hcl T' rfl X'
    exact ⟨t2, st.trans a1, b1⟩
theorem vx_calld {S SX : Type} {post : UInt64 → S → Prop} {px : SX → Prop} {B : S → State → Prop} {BX : String → SX → State → Prop} {AX : Nat → Prop} (hr : vx_Run p l e R s m args below meth c H locs cells slots mc ms (F0 m pc ls st0) rest (va_Qd post B A1 a) (vx_X px BX AX) free) (hS : va_S A0 H0 H locs) (hA : ∀ q, q < H.size → A1 q → A0 q) (hf : ∀ q, free q → A0 q) (hAX : ∀ q, q < H.size → AX q → A0 q)
    (kx : ∀ (E : String) (ce : Cell) (q9 : Addr) (u : SX) (t : State) (H1 : Heap) (locs1 : List Loc), t.heap = H1 → s.vm.Alike t.vm → px u → BX E u t → H.size ≤ H1.size → (∀ q : Nat, q < H.size → ¬ AX q → H1[q]? = H[q]?) → va_S A0 H0 H1 locs1 → H1[q9]? = some ce → ce.vm = .none → s.vm.findClass E = some ce.cls → vx_W p l e R s m args below meth c H1 locs1 (cells + mc) (slots + ms) Q (F0 m pc ls rest) q9)
    (kk : ∀ (r : UInt64) (u : S) (t : State) (H1 : Heap) (locs1 : List Loc), t.heap = H1 → s.vm.Alike t.vm → post r u → B u t → H.size ≤ H1.size → (∀ q : Nat, q < H.size → ¬ A1 q → H1[q]? = H[q]?) → va_S A0 H0 H1 locs1 → W p l e R s m args below meth c H1 locs1 (cells + mc) (slots + ms) Q (F0 m (pc + 3) ls (.double r :: rest))) : W p l e R s m args below meth c H locs cells slots Q (F0 m pc ls st0) := by
  intro T hT X
  rcases hr T hT X with ⟨v, st₀, t, T', L, h0, X', hL, e1, e2, ⟨⟨r, u, hv, hp, hb⟩, hF⟩, st⟩ | ⟨q, st₀, t, T', L, E, ce, h0, X', hL, e1, e2, ⟨u, hp, hb, hF⟩, hce, hcv, hcl, st⟩
  · cases hv
    obtain ⟨k1, k2, k3⟩ := vx_keep h0 e1 hS hA hf hL hF
    obtain ⟨t2, a1, b1⟩ := kk r u t T'.heap (locs ++ L) e1.symm (by rw [← e2]; exact X'.warmed.alike) hp hb k1 k2 k3 T' rfl X'
    exact ⟨t2, st t2 a1, b1⟩
  · obtain ⟨k1, k2, k3⟩ := vx_keep h0 e1 hS hAX hf hL hF
    obtain ⟨t2, a1, b1⟩ := kx E ce q u t T'.heap (locs ++ L) e1.symm (by rw [← e2]; exact X'.warmed.alike) hp hb k1 k2 k3 (by rw [e1]; exact hce) hcv hcl T' rfl X'
    exact ⟨t2, st.trans a1, b1⟩
theorem vx_callv {S SX : Type} {post : S → Prop} {px : SX → Prop} {B : S → State → Prop} {BX : String → SX → State → Prop} {AX : Nat → Prop} (hr : vx_Run p l e R s m args below meth c H locs cells slots mc ms (F0 m pc ls st0) rest (va_Qv post B A1 a) (vx_X px BX AX) free) (hS : va_S A0 H0 H locs) (hA : ∀ q, q < H.size → A1 q → A0 q) (hf : ∀ q, free q → A0 q) (hAX : ∀ q, q < H.size → AX q → A0 q)
    (kx : ∀ (E : String) (ce : Cell) (q9 : Addr) (u : SX) (t : State) (H1 : Heap) (locs1 : List Loc), t.heap = H1 → s.vm.Alike t.vm → px u → BX E u t → H.size ≤ H1.size → (∀ q : Nat, q < H.size → ¬ AX q → H1[q]? = H[q]?) → va_S A0 H0 H1 locs1 → H1[q9]? = some ce → ce.vm = .none → s.vm.findClass E = some ce.cls → vx_W p l e R s m args below meth c H1 locs1 (cells + mc) (slots + ms) Q (F0 m pc ls rest) q9)
    (kk : ∀ (u : S) (t : State) (H1 : Heap) (locs1 : List Loc), t.heap = H1 → s.vm.Alike t.vm → post u → B u t → H.size ≤ H1.size → (∀ q : Nat, q < H.size → ¬ A1 q → H1[q]? = H[q]?) → va_S A0 H0 H1 locs1 → W p l e R s m args below meth c H1 locs1 (cells + mc) (slots + ms) Q (F0 m (pc + 3) ls (rest))) : W p l e R s m args below meth c H locs cells slots Q (F0 m pc ls st0) := by
  intro T hT X
  rcases hr T hT X with ⟨v, st₀, t, T', L, h0, X', hL, e1, e2, ⟨⟨u, hv, hp, hb⟩, hF⟩, st⟩ | ⟨q, st₀, t, T', L, E, ce, h0, X', hL, e1, e2, ⟨u, hp, hb, hF⟩, hce, hcv, hcl, st⟩
  · cases hv
    obtain ⟨k1, k2, k3⟩ := vx_keep h0 e1 hS hA hf hL hF
    obtain ⟨t2, a1, b1⟩ := kk u t T'.heap (locs ++ L) e1.symm (by rw [← e2]; exact X'.warmed.alike) hp hb k1 k2 k3 T' rfl X'
    exact ⟨t2, st t2 a1, b1⟩
  · obtain ⟨k1, k2, k3⟩ := vx_keep h0 e1 hS hAX hf hL hF
    obtain ⟨t2, a1, b1⟩ := kx E ce q u t T'.heap (locs ++ L) e1.symm (by rw [← e2]; exact X'.warmed.alike) hp hb k1 k2 k3 (by rw [e1]; exact hce) hcv hcl T' rfl X'
    exact ⟨t2, st.trans a1, b1⟩
/-- caught by the row x of this method's table; the rows ahead don't take it -/
theorem vx_catch {own name : String} {E : String} {ce : Cell} {q : Addr} (hown : s.vm.findClass own = some m.cls) (pre : List ExceptionTableEntry) (x : ExceptionTableEntry) (suf : List ExceptionTableEntry) (hsplit : c.exceptionTable.toList = pre ++ x :: suf)
    (hpass : ∀ z ∈ pre, covers z pc = false ∨ (z.catchType ≠ 0 ∧ ∃ nm : String, (Cond.classLink own z.catchType nm).before args s = true ∧ va_Nc E nm s)) (hx : covers x pc = true) (h0 : x.catchType ≠ 0)
    (hlink : (Cond.classLink own x.catchType name).before args s = true) (hcast : (Cond.castable E name).before args s = true) (hcell : H[q]? = some ce) (hv : ce.vm = .none) (hcl : s.vm.findClass E = some ce.cls)
    (kk : W p l e R s m args below meth c H locs cells slots Q (F0 m x.handlerPc ls [.ref q])) : vx_W p l e R s m args below meth c H locs cells slots Q (F0 m pc ls rest) q := by
  intro T hT X
  have hpl : e.platform.magicAccessors = ({} : Platform).magicAccessors := by rw [X.admits.platform]
  obtain ⟨c3, c4, hc3, hc4, hasg⟩ := Cond.castable_spec hcast
  cases Option.some.inj (hc3.symm.trans hcl)
  obtain ⟨c5, hc5, hcl5⟩ := Cond.classLink_spec hown hlink e.platform hpl
  cases Option.some.inj (hc4.symm.trans hc5)
  obtain ⟨vm', X', st⟩ := X.thenCaughtThrough q (g := F0 m pc ls rest) rfl (Steps.refl _) (by rw [hT]; exact hcell) (by rw [hv]; rfl) (by obtain ⟨k9, h9, -⟩ := Vm.findClass_spec hcl; exact ⟨k9, h9⟩) pre x suf hsplit
    (fun z hz => by
      rcases hpass z hz with h | ⟨hz0, nm, hl1, hn1⟩
      · exact Or.inl h
      · obtain ⟨c6, hc6, hcl6⟩ := Cond.classLink_spec hown hl1 e.platform hpl
        obtain ⟨a8, b8, h1, h2, h3⟩ := hn1
        cases Option.some.inj (h1.symm.trans hcl)
        cases Option.some.inj (h2.symm.trans hc6)
        exact Or.inr ⟨hz0, _, hcl6, h3⟩) hx (Or.inr ⟨h0, c4, hcl5, hasg⟩)
  obtain ⟨t, a1, b1⟩ := kk (T.setVm vm') hT X'
  exact ⟨t, st.trans a1, b1⟩
end Rows
section Ends
variable {p : Program} {l : Launch} {e : Env} {R : Room} {s : State} {m : MethodId} {args : Array Value} {below : List Frame} {meth : Method} {c : Code} {H : Heap} {locs : List Loc} {cells slots : Nat} {Q : State → Prop}
variable {mc ms : Nat} {free : Addr → Prop} {A0 A1 : Nat → Prop} {H0 : Heap} {a : Array Value} {ls : Array Slot} {st0 rest : List Value}
variable {Qc : Array Value → State → Outcome → State → Prop} {XC : String → State → State → Prop}
/-- what a body that may throw owes at its end -/
def vx_MQ (below : List Frame) (Qc : Array Value → State → Outcome → State → Prop) (XC : String → State → State → Prop) (a : Array Value) (s : State) (mc ms : Nat) (free : Addr → Prop) : State → Prop := fun t =>
  ∃ o, t.status = .running ∧ Ended t below o ∧ vx_Q Qc XC mc ms free a s o t
theorem vx_ret {g : JFrame} {mc ms : Nat} (k : W p l e R s m args below meth c H locs cells slots (MQ below Qc args s mc ms free) g) : W p l e R s m args below meth c H locs cells slots (vx_MQ below Qc XC args s mc ms free) g := by
  intro T hT X
  obtain ⟨t, a1, o, b1, b2, b3, b4⟩ := k T hT X
  exact ⟨t, a1, o, b1, b2, Or.inl ⟨b3, b4⟩⟩
/-- not caught here: it goes on to the caller -/
theorem vx_widen {g : JFrame} {q : Addr} {k n : Nat} (h1 : cells ≤ k) (h2 : slots ≤ n) (kk : vx_W p l e R s m args below meth c H locs k n Q g q) : vx_W p l e R s m args below meth c H locs cells slots Q g q := fun T hT X => kk T hT (stand_widen X h1 h2)
theorem vx_out {pc : Nat} {E : String} {ce : Cell} {q : Addr} {mc ms : Nat} (hout : ∀ x ∈ c.exceptionTable.toList, covers x pc = false) (hlocks : meth.locks = false) (hcell : H[q]? = some ce) (hv : ce.vm = .none) (hcl : s.vm.findClass E = some ce.cls)
    (hx : ∀ t : State, t.heap = H → s.vm.Alike t.vm → XC E s t) (hf : ∀ z ∈ locs, free z.base) (hc : cells ≤ mc) (hs : slots ≤ ms) :
    vx_W p l e R s m args below meth c H locs cells slots (vx_MQ below Qc XC args s mc ms free) (F0 m pc ls rest) q := by
  intro T hT X
  obtain ⟨st1, hrun, hend, hW, hsm⟩ := X.leaveThrown q (g := F0 m pc ls rest) rfl rfl rfl hout hlocks
  have hcell9 : (T.setFrames (.throwing q :: below)).heap[q]? = some ce := by
    show T.heap[q]? = some ce
    rw [hT]; exact hcell
  exact ⟨_, st1, .threw q, hrun, hend, Or.inr ⟨q, rfl, E, ce, locs, hx _ hT hW.alike, hcell9, hv, hcl, hW, hsm.mono hc hs, hf⟩⟩
theorem vx_frame {U : State} {k n : Nat} (h : s.sameButNew ({ U with vm := s.vm } : State) locs k n) : s.heap.size ≤ U.heap.size ∧ ∀ q : Nat, q < s.heap.size → (∀ z ∈ locs, z.base ≠ q) → U.heap[q]? = s.heap[q]? := by
  obtain ⟨-, h2, -, -, -, h6⟩ := h
  refine ⟨h2, fun q hq hz => ?_⟩
  obtain ⟨c9, e1, e2, e3, e4⟩ := h6 q _ (Array.getElem?_eq_getElem hq)
  have hs : c9.slots = (s.heap[q]).slots := Array.ext_getElem? fun i => e4 i fun hm => hz _ hm rfl
  have h9 : c9 = s.heap[q] := by
    rw [hs] at e2
    exact e2
  have e5 : U.heap[q]? = some c9 := e1
  rw [e5, h9, Array.getElem?_eq_getElem hq]
/-- the words of a throw but the four that speak of the heap -/
def vx_no (w : Cond) : Bool := decide (w ≠ .isRef (.static Bundle.tN "UNASSIGNED_STACK" Bundle.steD)) && decide (w ≠ .isRef (.static Bundle.tN "SUPPRESSED_SENTINEL" Bundle.listD)) && decide (w ≠ .laysStatic Bundle.tN "UNASSIGNED_STACK" Bundle.steD) && decide (w ≠ .laysStatic Bundle.tN "SUPPRESSED_SENTINEL" Bundle.listD)
def vx_at0 (own : String) (ic : Nat) (X : String) (names : List String) : List Cond := (Bundle.ownAtoms0 own ic X names).filter vx_no
def vx_atS (own : String) (ic : Nat) (X : String) (names : List String) : List Cond := (Bundle.ownAtoms own ic X names).filter vx_no
/-- a word that the tables alone decide, or a good one -/
def vx_ot (w : Cond) : Bool := w.onTables || goodWord w
theorem vx_ot_at {args a' : Array Value} {s U : State} {w : Cond} (hW : s.WarmedH U.vm) (hvm : s.vm = U.vm) (hg : vx_ot w = true) (h : w.before args s = true) : w.before a' U = true := by
  simp only [vx_ot, Bool.or_eq_true] at hg
  rcases hg with hg | hg
  · exact va_tabs hg hvm h
  · exact word_at hW (good_of_word hg) h
/-- a list's words: the good ones out of the method's own list, the others by premises of their own -/
theorem vx_hat {args : Array Value} {s : State} {L B : List Cond} (h1 : ∀ w ∈ L.filter goodWord, w.before args s = true) (h2 : ∀ w ∈ L.filter (fun w => !goodWord w), w ∈ B) (h3 : ∀ w ∈ B, w.before args s = true) : ∀ w ∈ L, w.before args s = true := by
  intro w hw
  by_cases g : goodWord w = true
  · exact h1 w (List.mem_filter.mpr ⟨hw, g⟩)
  · refine h3 w (h2 w (List.mem_filter.mpr ⟨hw, ?_⟩))
    show (!goodWord w) = true
    cases hgw : goodWord w
    · rfl
    · exact absurd hgw g
theorem vx_c {args : Array Value} {s : State} {w : Cond} {B : List Cond} (h : w.before args s = true) (t : ∀ w ∈ B, w.before args s = true) : ∀ w' ∈ w :: B, w'.before args s = true := fun w' h' => (List.mem_cons.mp h').elim (fun e => by rw [e]; exact h) (t w')
theorem vx_n {args : Array Value} {s : State} : ∀ w ∈ ([] : List Cond), w.before args s = true := fun _ h => nomatch h
theorem vx_own {args : Array Value} {s : State} {L : List Cond} (h1 : ∀ w ∈ L.filter vx_no, w.before args s = true)
    (hU : (Cond.isRef (.static Bundle.tN "UNASSIGNED_STACK" Bundle.steD)).before args s = true) (hN : (Cond.isRef (.static Bundle.tN "SUPPRESSED_SENTINEL" Bundle.listD)).before args s = true)
    (lU : (Cond.laysStatic Bundle.tN "UNASSIGNED_STACK" Bundle.steD).before args s = true) (lN : (Cond.laysStatic Bundle.tN "SUPPRESSED_SENTINEL" Bundle.listD).before args s = true) : ∀ w ∈ L, w.before args s = true := by
  intro w hw
  by_cases e1 : w = .isRef (.static Bundle.tN "UNASSIGNED_STACK" Bundle.steD)
  · rw [e1]; exact hU
  · by_cases e2 : w = .isRef (.static Bundle.tN "SUPPRESSED_SENTINEL" Bundle.listD)
    · rw [e2]; exact hN
    · by_cases e3 : w = .laysStatic Bundle.tN "UNASSIGNED_STACK" Bundle.steD
      · rw [e3]; exact lU
      · by_cases e4 : w = .laysStatic Bundle.tN "SUPPRESSED_SENTINEL" Bundle.listD
        · rw [e4]; exact lN
        · exact h1 w (List.mem_filter.mpr ⟨hw, by unfold vx_no; rw [decide_eq_true e1, decide_eq_true e2, decide_eq_true e3, decide_eq_true e4]; rfl⟩)
/-- where a static field lies, its class's statics cell in H -/
def vx_L (C n d : String) (A : Nat → Prop) (U : State) (H : Heap) : Prop := ∃ (c : ClassId) (k : Class) (i : Nat) (f : Field) (a : Nat) (cell : Cell), U.vm.findClass C = some c ∧ U.fieldFound? C n d = some (c, k, i, f) ∧ f.isStatic = true ∧ k.statics = some a ∧ H[a]? = some cell ∧ cell.vm.isStatics = true ∧ cell.cls = c ∧ f.slot < cell.slots.size ∧ k.staticTypes[f.slot]? = some f.type ∧ ¬ A a
theorem vx_L.moved {C n d : String} {A : Nat → Prop} {u U : State} {H : Heap} (hvm : u.vm.Alike U.vm) (h : vx_L C n d A u H) : vx_L C n d A U H := by
  obtain ⟨c, k, i, f, a, cell, h1, h2, h3, h4, h5, h6, h7, h8, h9, h10⟩ := h
  obtain ⟨k', hi', he⟩ := State.fieldFound?_setVm hvm h2
  exact ⟨c, k', i, f, a, cell, by rw [hvm.findClass]; exact h1, hi', h3, by rw [he]; exact h4, h5, h6, h7, h8, by rw [he]; exact h9, h10⟩
theorem vx_L.kept {C n d : String} {A : Nat → Prop} {U : State} {H H1 : Heap} (h : vx_L C n d A U H) (hq : ∀ a : Nat, a < H.size → ¬ A a → H1[a]? = H[a]?) : vx_L C n d A U H1 := by
  obtain ⟨c, k, i, f, a, cell, h1, h2, h3, h4, h5, h6, h7, h8, h9, h10⟩ := h
  exact ⟨c, k, i, f, a, cell, h1, h2, h3, h4, by rw [hq a (Array.getElem?_eq_some_iff.mp h5).1 h10]; exact h5, h6, h7, h8, h9, h10⟩
theorem vx_L.narrow {C n d : String} {A B : Nat → Prop} {U : State} {H : Heap} (h : vx_L C n d A U H) (hAB : ∀ q, B q → A q) : vx_L C n d B U H := by
  obtain ⟨c, k, i, f, a, cell, h1, h2, h3, h4, h5, h6, h7, h8, h9, h10⟩ := h
  exact ⟨c, k, i, f, a, cell, h1, h2, h3, h4, h5, h6, h7, h8, h9, fun z => h10 (hAB _ z)⟩
theorem vx_L.word {C n d : String} {A : Nat → Prop} {s : State} {args : Array Value} (h : vx_L C n d A s s.heap) : (Cond.laysStatic C n d).before args s = true := by
  obtain ⟨c, k, i, f, a, cell, h1, h2, h3, h4, h5, h6, h7, h8, h9, -⟩ := h
  show (Cond.laysStatic C n d).holds args s none s [] = true
  exact Cond.laysStatic_of h1 h2 h3 h4 h5 h6 h7 h8 h9
/-- .. and what it holds: null or some reference -/
def vx_Zq (C n d : String) (A : Nat → Prop) (U : State) (H : Heap) : Prop := va_Zq C n d A U H ∧ vx_L C n d A U H
theorem vx_Zq.moved {C n d : String} {A : Nat → Prop} {u U : State} {H : Heap} (hvm : u.vm.Alike U.vm) (h : vx_Zq C n d A u H) : vx_Zq C n d A U H := ⟨va_Zq.moved hvm h.1, vx_L.moved hvm h.2⟩
theorem vx_Zq.kept {C n d : String} {A : Nat → Prop} {U : State} {H H1 : Heap} (h : vx_Zq C n d A U H) (hq : ∀ a : Nat, a < H.size → ¬ A a → H1[a]? = H[a]?) : vx_Zq C n d A U H1 := ⟨va_Zq.kept h.1 hq, vx_L.kept h.2 hq⟩
theorem vx_Zq.narrow {C n d : String} {A B : Nat → Prop} {U : State} {H : Heap} (h : vx_Zq C n d A U H) (hAB : ∀ q, B q → A q) : vx_Zq C n d B U H := ⟨va_Zq.narrow h.1 hAB, vx_L.narrow h.2 hAB⟩
theorem vx_Zqof {args : Array Value} {s : State} {C n d : String} {A : Nat → Prop} (hl : (Cond.laysStatic C n d).before args s = true) (hini : (Cond.initialized C).before args s = true) (h : (Cond.isRef (.static C n d)).before args s = true) (hA : ∀ a : Nat, a < s.heap.size → ¬ A a) : vx_Zq C n d A s s.heap := by
  refine ⟨va_Zqof hl hini h hA, ?_⟩
  obtain ⟨c, k, i, f, a, cell, h1, h2, h3, h4, h5, h6, h7, h8, h9⟩ := Cond.laysStatic_spec hl
  exact ⟨c, k, i, f, a, cell, h1, h2, h3, h4, h5, h6, h7, h8, h9, hA a (Array.getElem?_eq_some_iff.mp h5).1⟩
theorem vx_isRef {C n d : String} {v : Value} {A : Nat → Prop} {s : State} {args : Array Value} (h : va_Z C n d v A s s.heap) (hv : v.isRef = true) : (Cond.isRef (.static C n d)).before args s = true := by
  obtain ⟨cf, kf, fi, f, a, cell, h1, h2, h3, h4, h5, h6, h7, -⟩ := h
  have he : (Term.static C n d).eval args s none [] s = some v := by
    simp [Term.eval, State.fieldNamed?, h1, h2, h4, h5, h6, h7]
  simp only [Cond.before, Cond.holds, Cond.value, he]
  cases v <;> simp_all [Value.isRef]
theorem vx_isRefq {C n d : String} {A : Nat → Prop} {s : State} {args : Array Value} (h : va_Zq C n d A s s.heap) : (Cond.isRef (.static C n d)).before args s = true := by
  rcases h with h | ⟨t, h⟩
  · exact vx_isRef h rfl
  · exact vx_isRef h rfl
/-- the same frame, seen from here: as if the method were called anew in this heap -/
theorem vx_rebase {T : State} (X : Stand p l e R s m args below meth c T locs cells slots) {R' : Room} (hf : R'.frames ≤ R.frames) (hl : R'.locals ≤ R.locals) (hc : cells + R'.cells ≤ R.cells) (hs : slots + R'.slots ≤ R.slots) :
    Stand p l e R' ((T.setVm s.vm).setFrames (.invoking m args :: below)) m args below meth c T [] 0 0 := by
  have htop : (T.setVm s.vm).topJava?.isSome := X.here.top
  have hF : ((T.setVm s.vm).setFrames (.invoking m args :: below)).frames = .invoking m args :: below := State.frames_setFrames _ (State.cur_lt_of_top htop)
  obtain ⟨g₀, hg0⟩ := Option.isSome_iff_exists.mp htop
  obtain ⟨r, hr⟩ := State.topJava?_eq_some.mp hg0
  have hl9 : e.platform.stackLimits (T.setVm s.vm).me = e.platform.stackLimits s.me := X.limits
  have hb9 : (T.setVm s.vm).me.stackBytes = s.me.stackBytes := X.bytes
  refine ⟨X.admits, X.cas, X.clock, hF, ?_, X.hears, X.method, X.code, X.here, X.tail, X.warmed, ?_, ?_, ?_⟩
  · have h := X.room
    have hU : ((T.setVm s.vm).setFrames (.invoking m args :: below)).localsInUse = s.localsInUse := by
      rw [State.localsInUse_invoking hF (meth := meth) (c := c) X.method X.code, State.localsInUse_invoking X.frames X.method X.code]
    simp only [State.hasRoom, Bool.and_eq_true, decide_eq_true_eq] at h ⊢
    obtain ⟨⟨⟨⟨h1, h2, h3, h4, h5, h6⟩, h7⟩, h8⟩, h9⟩ := h
    rw [X.frames, List.length_cons] at h2 h3
    have q1 := X.heapSize
    have q2 := X.used
    simp only [hF, hU, List.length_cons, State.stackLimits_setFrames, State.stackBytes_setFrames, hl9, hb9]
    refine ⟨⟨⟨⟨by omega, by omega, by omega, by omega, by omega, h6⟩, ?_⟩, ?_⟩, X.book⟩
    · show T.heap.size + R'.cells ≤ e.platform.maxCells
      omega
    · show T.slotsUsed + R'.slots ≤ e.platform.maxSlots
      omega
  · rw [State.stackLimits_setFrames]; rfl
  · rw [State.stackBytes_setFrames]; rfl
  · refine ⟨?_, Nat.le_refl _, Nat.le_refl _, ?_, ?_, fun a c9 h9 => ⟨c9, h9, rfl, rfl, fun _ _ => rfl⟩⟩
    · obtain ⟨t, ht, -⟩ := State.frames_cons hr
      show T.setVm s.vm = { ((T.setVm s.vm).setFrames (.invoking m args :: below)).setFrames (T.setVm s.vm).frames with heap := T.heap, slotsUsed := T.slotsUsed }
      rw [State.setFrames_setFrames, State.setFrames_self ht]
      rfl
    · show T.slotsUsed = T.slotsUsed + ((T.heap.toList.drop T.heap.size).map (·.slots.size)).sum
      rw [List.drop_eq_nil_of_le (Nat.le_of_eq Array.length_toList)]
      rfl
    · show ((T.heap.toList.drop T.heap.size).map (·.slots.size)).sum ≤ 0
      rw [List.drop_eq_nil_of_le (Nat.le_of_eq Array.length_toList)]
      exact Nat.le_refl _
/-- 'throw new E()': new; dup; invokespecial; athrow -/
theorem vx_throw0 {cc : ByteArray} {pc : Nat} (hexec : p.tables.exec = Jvm.exec) (hb : c.code = cc) (hl : l.stackTraces = false) {own cls : String} {names : List String} {ik ic mc ms : Nat} {A : Nat → Prop}
    (hown : s.vm.findClass own = some m.cls) (hcls : Bundle.fit cls = true) (hnames : ∀ n ∈ names, Bundle.fit n = true)
    (hk : (Cond.classLink own ik cls).before args s = true) (hini : (Cond.initialized cls).before args s = true) (hat : ∀ w ∈ vx_at0 own ic cls names, w.before args s = true)
    (hgood : ∀ w ∈ Cond.classLink own ik cls :: Cond.initialized cls :: vx_at0 own ic cls names, vx_ot w = true)
    (hU : vx_Zq Bundle.tN "UNASSIGNED_STACK" Bundle.steD A s s.heap) (hN : vx_Zq Bundle.tN "SUPPRESSED_SENTINEL" Bundle.listD A s s.heap) (hS : va_S A s.heap H locs) (hsize : ls.size = c.maxLocals)
    (d0 : decode cc pc = .ok (.new ik, 3)) (d3 : decode cc (pc + 3) = .ok (.dup, 1)) (d4 : decode cc (pc + 4) = .ok (.invokespecial ic, 3)) (d7 : decode cc (pc + 7) = .ok (.athrow, 1))
    (hout : ∀ x ∈ c.exceptionTable.toList, covers x (pc + 7) = false)
    (hRframes : names.length + 3 < R.frames) (hRlocals : (rest.map fun v => v.category).sum + (13 * (names.length + 1) + 42) ≤ R.locals) (hRcells : cells + 1 ≤ R.cells) (hRslots : slots + 6 ≤ R.slots) (hlocks : meth.locks = false)
    (hx : ∀ t : State, s.vm.Alike t.vm → H.size ≤ t.heap.size → (∀ q : Nat, q < H.size → t.heap[q]? = H[q]?) → XC cls s t)
    (hf : ∀ z ∈ locs, free z.base) (hc : cells + 1 ≤ mc) (hs : slots + 6 ≤ ms) :
    W p l e R s m args below meth c H locs cells slots (vx_MQ below Qc XC args s mc ms free) (F0 m pc ls rest) := by
  intro T hT X
  have htr : e.platform.stackTraces = false := (show e.platform.stackTraces = l.stackTraces by rw [X.admits.platform]).trans hl
  have Y := vx_rebase X (R' := { frames := R.frames, locals := R.locals, cells := 1, slots := 6 }) (Nat.le_refl _) (Nat.le_refl _) hRcells hRslots
  obtain ⟨s', hA⟩ : ∃ z, z = (T.setVm s.vm).setFrames (.invoking m args :: below) := ⟨_, rfl⟩
  rw [← hA] at Y
  have hvm : s'.vm = s.vm := by rw [hA]; rfl
  have hhp : s'.heap = H := by rw [hA]; exact hT
  have hW0 : s.WarmedH s'.vm := by rw [hvm]; exact State.WarmedH.refl s
  have hat' : ∀ w ∈ vx_at0 own ic cls names, w.before args s' = true := fun w hw => vx_ot_at hW0 hvm.symm (hgood w (List.mem_cons_of_mem _ (List.mem_cons_of_mem _ hw))) (hat w hw)
  have hk' : (Cond.classLink own ik cls).before args s' = true := vx_ot_at hW0 hvm.symm (hgood _ List.mem_cons_self) hk
  have hini' : (Cond.initialized cls).before args s' = true := vx_ot_at hW0 hvm.symm (hgood _ (List.mem_cons_of_mem _ List.mem_cons_self)) hini
  have hU' : vx_Zq Bundle.tN "UNASSIGNED_STACK" Bundle.steD A s' s'.heap := by rw [hhp]; exact vx_Zq.moved hW0.alike (hU.kept hS.2.1)
  have hN' : vx_Zq Bundle.tN "SUPPRESSED_SENTINEL" Bundle.listD A s' s'.heap := by rw [hhp]; exact vx_Zq.moved hW0.alike (hN.kept hS.2.1)
  have h : ∀ w ∈ Bundle.ownAtoms0 own ic cls names, w.before args s' = true := vx_own hat' (vx_isRefq hU'.1) (vx_isRefq hN'.1) hU'.2.word hN'.2.word
  have hown' : s'.vm.findClass own = some m.cls := by rw [hvm]; exact hown
  have hins : (Cond.instantiable cls 6).before args s' = true := h _ (by simp [Bundle.ownAtoms0])
  obtain ⟨vm₁, cX, kX, hfX, hkX, -, -, X₁, st1⟩ := Y.newCold hexec (own := own) (C := cls) (index := ik) (n := 6) hown' hk' hins hini'
    (g := F0 m pc ls rest) rfl (by rw [hb]; exact d0) (Nat.le_refl _) (Nat.le_refl _)
  generalize hT1 : (T.setVm vm₁).pushCell { cls := cX, slots := kX.instanceTypes.map defaultValue, vm := .none } = T1 at X₁ st1
  have hcat : (Value.ref T.heap.size).category = 1 := rfl
  have hcellA : T1.heap[T.heap.size]? = some (freshCell cX kX) := by rw [← hT1]; exact State.heap_pushCell_size _ _
  have d3' : decode c.code (pc + 3) = .ok (.dup, 1) := by rw [hb]; exact d3
  obtain ⟨U, hsteps, hrun, hend, hW, hsame, ce, hce, hO⟩ := X₁.ctorThrow0 hexec htr (own := own) (cls := cls) (names := names) (ic := ic) hown' hcls hnames h (fun x hx => nomatch hx) hfX hkX hcellA (by rw [hhp, hT]; exact Nat.le_refl _)
    (g := { method := m, pc := pc + 4, locals := ls, stack := .ref T.heap.size :: .ref T.heap.size :: rest, locked := none }) rfl hsize rfl rfl (rest := rest) rfl
    (by rw [hb]; exact d4) (by rw [hb]; exact d7) hout hRframes (by simp only [List.map_cons, List.sum_cons, hcat]; omega) hlocks
  obtain ⟨f1, f2⟩ := vx_frame hsame
  rw [hhp] at f1 f2
  have hWs : s.WarmedH U.vm := State.WarmedH.trans hW0 hW
  have hcl : s.vm.findClass cls = some ce.cls := by
    have h9 := hO.cls
    rw [hvm] at h9
    exact h9
  have hall : s.sameButNew ({ U with vm := s.vm } : State) locs mc ms := by
    subst hA
    obtain ⟨e1, e2⟩ := hsame
    rw [State.setFrames_setFrames] at e1
    have h2 : (T.setVm s.vm).sameButNew ({ U with vm := s.vm } : State) [] (0 + 1) (0 + 6) := ⟨e1, e2⟩
    have h3 := X.same.trans h2
    rw [List.append_nil] at h3
    exact h3.mono hc hs
  refine ⟨U, ?_, .threw T.heap.size, hrun, hend, Or.inr ⟨T.heap.size, rfl, cls, ce, locs, hx U hWs.alike f1 (fun q hq => f2 q hq (fun z hz => nomatch hz)), hce, hO.vm, hcl, hWs, hall, hf⟩⟩
  refine st1 _ ?_
  show Steps p.tables e below (T1.setTop { method := m, pc := pc + 3, locals := ls, stack := .ref T.heap.size :: rest, locked := none }) _
  jvm_step X₁.here [X₁.here.top, hexec, d3', Value.category]
  exact hsteps
/-- 'throw new E("text")': new; dup; ldc; invokespecial; athrow -/
theorem vx_throwS {cc : ByteArray} {pc : Nat} (hexec : p.tables.exec = Jvm.exec) (hb : c.code = cc) (hl : l.stackTraces = false) {own cls text : String} {names : List String} {ik is ic mc ms sa : Nat} {A : Nat → Prop}
    (hown : s.vm.findClass own = some m.cls) (hcls : Bundle.fit cls = true) (hnames : ∀ n ∈ names, Bundle.fit n = true)
    (hk : (Cond.classLink own ik cls).before args s = true) (hini : (Cond.initialized cls).before args s = true) (hstr : vk_R own is text sa s) (hat : ∀ w ∈ vx_atS own ic cls names, w.before args s = true)
    (hgood : ∀ w ∈ Cond.classLink own ik cls :: Cond.initialized cls :: vx_atS own ic cls names, vx_ot w = true)
    (hU : vx_Zq Bundle.tN "UNASSIGNED_STACK" Bundle.steD A s s.heap) (hN : vx_Zq Bundle.tN "SUPPRESSED_SENTINEL" Bundle.listD A s s.heap) (hS : va_S A s.heap H locs) (hsize : ls.size = c.maxLocals)
    (d0 : decode cc pc = .ok (.new ik, 3)) (d3 : decode cc (pc + 3) = .ok (.dup, 1)) (d4 : decode cc (pc + 4) = .ok (.ldc is, 2)) (d6 : decode cc (pc + 6) = .ok (.invokespecial ic, 3)) (d9 : decode cc (pc + 9) = .ok (.athrow, 1))
    (hout : ∀ x ∈ c.exceptionTable.toList, covers x (pc + 9) = false)
    (hRframes : names.length + 3 < R.frames) (hRlocals : (rest.map fun v => v.category).sum + (13 * (names.length + 1) + 43) ≤ R.locals) (hRcells : cells + 1 ≤ R.cells) (hRslots : slots + 6 ≤ R.slots) (hlocks : meth.locks = false)
    (hx : ∀ t : State, s.vm.Alike t.vm → H.size ≤ t.heap.size → (∀ q : Nat, q < H.size → t.heap[q]? = H[q]?) → XC cls s t)
    (hf : ∀ z ∈ locs, free z.base) (hc : cells + 1 ≤ mc) (hs : slots + 6 ≤ ms) :
    W p l e R s m args below meth c H locs cells slots (vx_MQ below Qc XC args s mc ms free) (F0 m pc ls rest) := by
  intro T hT X
  have htr : e.platform.stackTraces = false := (show e.platform.stackTraces = l.stackTraces by rw [X.admits.platform]).trans hl
  have Y := vx_rebase X (R' := { frames := R.frames, locals := R.locals, cells := 1, slots := 6 }) (Nat.le_refl _) (Nat.le_refl _) hRcells hRslots
  obtain ⟨s', hA⟩ : ∃ z, z = (T.setVm s.vm).setFrames (.invoking m args :: below) := ⟨_, rfl⟩
  rw [← hA] at Y
  have hvm : s'.vm = s.vm := by rw [hA]; rfl
  have hhp : s'.heap = H := by rw [hA]; exact hT
  have hW0 : s.WarmedH s'.vm := by rw [hvm]; exact State.WarmedH.refl s
  have hat' : ∀ w ∈ vx_atS own ic cls names, w.before args s' = true := fun w hw => vx_ot_at hW0 hvm.symm (hgood w (List.mem_cons_of_mem _ (List.mem_cons_of_mem _ hw))) (hat w hw)
  have hk' : (Cond.classLink own ik cls).before args s' = true := vx_ot_at hW0 hvm.symm (hgood _ List.mem_cons_self) hk
  have hini' : (Cond.initialized cls).before args s' = true := vx_ot_at hW0 hvm.symm (hgood _ (List.mem_cons_of_mem _ List.mem_cons_self)) hini
  have hU' : vx_Zq Bundle.tN "UNASSIGNED_STACK" Bundle.steD A s' s'.heap := by rw [hhp]; exact vx_Zq.moved hW0.alike (hU.kept hS.2.1)
  have hN' : vx_Zq Bundle.tN "SUPPRESSED_SENTINEL" Bundle.listD A s' s'.heap := by rw [hhp]; exact vx_Zq.moved hW0.alike (hN.kept hS.2.1)
  have h : ∀ w ∈ Bundle.ownAtoms own ic cls names, w.before args s' = true := vx_own hat' (vx_isRefq hU'.1) (vx_isRefq hN'.1) hU'.2.word hN'.2.word
  have hown' : s'.vm.findClass own = some m.cls := by rw [hvm]; exact hown
  have hins : (Cond.instantiable cls 6).before args s' = true := h _ (by simp [Bundle.ownAtoms])
  obtain ⟨vm₁, cX, kX, hfX, hkX, -, -, X₁, st1⟩ := Y.newCold hexec (own := own) (C := cls) (index := ik) (n := 6) hown' hk' hins hini'
    (g := F0 m pc ls rest) rfl (by rw [hb]; exact d0) (Nat.le_refl _) (Nat.le_refl _)
  generalize hT1 : (T.setVm vm₁).pushCell { cls := cX, slots := kX.instanceTypes.map defaultValue, vm := .none } = T1 at X₁ st1
  have hcat : (Value.ref T.heap.size).category = 1 := rfl
  have hcellA : T1.heap[T.heap.size]? = some (freshCell cX kX) := by rw [← hT1]; exact State.heap_pushCell_size _ _
  have d3' : decode c.code (pc + 3) = .ok (.dup, 1) := by rw [hb]; exact d3
  have d4' : decode c.code (pc + 4) = .ok (.ldc is, 2) := by rw [hb]; exact d4
  have hstr' : vk_R own is text sa s' := vk_R.warm hW0 hstr
  obtain ⟨U, hsteps, hrun, hend, hW, hsame, ce, hce, hO⟩ := X₁.ctorThrowS hexec htr (own := own) (cls := cls) (names := names) (ic := ic) hown' hcls hnames h (fun x hx => nomatch hx) hfX hkX hcellA (by rw [hhp, hT]; exact Nat.le_refl _) (msg := .ref sa) rfl
    (g := { method := m, pc := pc + 6, locals := ls, stack := .ref sa :: .ref T.heap.size :: .ref T.heap.size :: rest, locked := none }) rfl hsize rfl rfl (rest := rest) rfl
    (by rw [hb]; exact d6) (by rw [hb]; exact d9) hout hRframes (by simp only [List.map_cons, List.sum_cons, hcat]; omega) hlocks
  obtain ⟨f1, f2⟩ := vx_frame hsame
  rw [hhp] at f1 f2
  have hWs : s.WarmedH U.vm := State.WarmedH.trans hW0 hW
  have hcl : s.vm.findClass cls = some ce.cls := by
    have h9 := hO.cls
    rw [hvm] at h9
    exact h9
  have hall : s.sameButNew ({ U with vm := s.vm } : State) locs mc ms := by
    subst hA
    obtain ⟨e1, e2⟩ := hsame
    rw [State.setFrames_setFrames] at e1
    have h2 : (T.setVm s.vm).sameButNew ({ U with vm := s.vm } : State) [] (0 + 1) (0 + 6) := ⟨e1, e2⟩
    have h3 := X.same.trans h2
    rw [List.append_nil] at h3
    exact h3.mono hc hs
  refine ⟨U, ?_, .threw T.heap.size, hrun, hend, Or.inr ⟨T.heap.size, rfl, cls, ce, locs, hx U hWs.alike f1 (fun q hq => f2 q hq (fun z hz => nomatch hz)), hce, hO.vm, hcl, hWs, hall, hf⟩⟩
  refine st1 _ ?_
  show Steps p.tables e below (T1.setTop { method := m, pc := pc + 3, locals := ls, stack := .ref T.heap.size :: rest, locked := none }) _
  jvm_step X₁.here [X₁.here.top, hexec, d3', Value.category]
  exact X₁.ldcString hexec (own := own) (text := text) (index := is) (a := sa) hown' hstr'.1 hstr'.2
    (g := { method := m, pc := pc + 4, locals := ls, stack := .ref T.heap.size :: .ref T.heap.size :: rest, locked := none }) rfl d4' _ hsteps
/-- 'throw new E("text")', the text by a wide index -/
theorem vx_throwSW {cc : ByteArray} {pc : Nat} (hexec : p.tables.exec = Jvm.exec) (hb : c.code = cc) (hl : l.stackTraces = false) {own cls text : String} {names : List String} {ik is ic mc ms sa : Nat} {A : Nat → Prop}
    (hown : s.vm.findClass own = some m.cls) (hcls : Bundle.fit cls = true) (hnames : ∀ n ∈ names, Bundle.fit n = true)
    (hk : (Cond.classLink own ik cls).before args s = true) (hini : (Cond.initialized cls).before args s = true) (hstr : vk_R own is text sa s) (hat : ∀ w ∈ vx_atS own ic cls names, w.before args s = true)
    (hgood : ∀ w ∈ Cond.classLink own ik cls :: Cond.initialized cls :: vx_atS own ic cls names, vx_ot w = true)
    (hU : vx_Zq Bundle.tN "UNASSIGNED_STACK" Bundle.steD A s s.heap) (hN : vx_Zq Bundle.tN "SUPPRESSED_SENTINEL" Bundle.listD A s s.heap) (hS : va_S A s.heap H locs) (hsize : ls.size = c.maxLocals)
    (d0 : decode cc pc = .ok (.new ik, 3)) (d3 : decode cc (pc + 3) = .ok (.dup, 1)) (d4 : decode cc (pc + 4) = .ok (.ldc_w is, 3)) (d7 : decode cc (pc + 7) = .ok (.invokespecial ic, 3)) (d10 : decode cc (pc + 10) = .ok (.athrow, 1))
    (hout : ∀ x ∈ c.exceptionTable.toList, covers x (pc + 10) = false)
    (hRframes : names.length + 3 < R.frames) (hRlocals : (rest.map fun v => v.category).sum + (13 * (names.length + 1) + 43) ≤ R.locals) (hRcells : cells + 1 ≤ R.cells) (hRslots : slots + 6 ≤ R.slots) (hlocks : meth.locks = false)
    (hx : ∀ t : State, s.vm.Alike t.vm → H.size ≤ t.heap.size → (∀ q : Nat, q < H.size → t.heap[q]? = H[q]?) → XC cls s t)
    (hf : ∀ z ∈ locs, free z.base) (hc : cells + 1 ≤ mc) (hs : slots + 6 ≤ ms) :
    W p l e R s m args below meth c H locs cells slots (vx_MQ below Qc XC args s mc ms free) (F0 m pc ls rest) := by
  intro T hT X
  have htr : e.platform.stackTraces = false := (show e.platform.stackTraces = l.stackTraces by rw [X.admits.platform]).trans hl
  have Y := vx_rebase X (R' := { frames := R.frames, locals := R.locals, cells := 1, slots := 6 }) (Nat.le_refl _) (Nat.le_refl _) hRcells hRslots
  obtain ⟨s', hA⟩ : ∃ z, z = (T.setVm s.vm).setFrames (.invoking m args :: below) := ⟨_, rfl⟩
  rw [← hA] at Y
  have hvm : s'.vm = s.vm := by rw [hA]; rfl
  have hhp : s'.heap = H := by rw [hA]; exact hT
  have hW0 : s.WarmedH s'.vm := by rw [hvm]; exact State.WarmedH.refl s
  have hat' : ∀ w ∈ vx_atS own ic cls names, w.before args s' = true := fun w hw => vx_ot_at hW0 hvm.symm (hgood w (List.mem_cons_of_mem _ (List.mem_cons_of_mem _ hw))) (hat w hw)
  have hk' : (Cond.classLink own ik cls).before args s' = true := vx_ot_at hW0 hvm.symm (hgood _ List.mem_cons_self) hk
  have hini' : (Cond.initialized cls).before args s' = true := vx_ot_at hW0 hvm.symm (hgood _ (List.mem_cons_of_mem _ List.mem_cons_self)) hini
  have hU' : vx_Zq Bundle.tN "UNASSIGNED_STACK" Bundle.steD A s' s'.heap := by rw [hhp]; exact vx_Zq.moved hW0.alike (hU.kept hS.2.1)
  have hN' : vx_Zq Bundle.tN "SUPPRESSED_SENTINEL" Bundle.listD A s' s'.heap := by rw [hhp]; exact vx_Zq.moved hW0.alike (hN.kept hS.2.1)
  have h : ∀ w ∈ Bundle.ownAtoms own ic cls names, w.before args s' = true := vx_own hat' (vx_isRefq hU'.1) (vx_isRefq hN'.1) hU'.2.word hN'.2.word
  have hown' : s'.vm.findClass own = some m.cls := by rw [hvm]; exact hown
  have hins : (Cond.instantiable cls 6).before args s' = true := h _ (by simp [Bundle.ownAtoms])
  obtain ⟨vm₁, cX, kX, hfX, hkX, -, -, X₁, st1⟩ := Y.newCold hexec (own := own) (C := cls) (index := ik) (n := 6) hown' hk' hins hini'
    (g := F0 m pc ls rest) rfl (by rw [hb]; exact d0) (Nat.le_refl _) (Nat.le_refl _)
  generalize hT1 : (T.setVm vm₁).pushCell { cls := cX, slots := kX.instanceTypes.map defaultValue, vm := .none } = T1 at X₁ st1
  have hcat : (Value.ref T.heap.size).category = 1 := rfl
  have hcellA : T1.heap[T.heap.size]? = some (freshCell cX kX) := by rw [← hT1]; exact State.heap_pushCell_size _ _
  have d3' : decode c.code (pc + 3) = .ok (.dup, 1) := by rw [hb]; exact d3
  have d4' : decode c.code (pc + 4) = .ok (.ldc_w is, 3) := by rw [hb]; exact d4
  have hstr' : vk_R own is text sa s' := vk_R.warm hW0 hstr
  obtain ⟨U, hsteps, hrun, hend, hW, hsame, ce, hce, hO⟩ := X₁.ctorThrowS hexec htr (own := own) (cls := cls) (names := names) (ic := ic) hown' hcls hnames h (fun x hx => nomatch hx) hfX hkX hcellA (by rw [hhp, hT]; exact Nat.le_refl _) (msg := .ref sa) rfl
    (g := { method := m, pc := pc + 7, locals := ls, stack := .ref sa :: .ref T.heap.size :: .ref T.heap.size :: rest, locked := none }) rfl hsize rfl rfl (rest := rest) rfl
    (by rw [hb]; exact d7) (by rw [hb]; exact d10) hout hRframes (by simp only [List.map_cons, List.sum_cons, hcat]; omega) hlocks
  obtain ⟨f1, f2⟩ := vx_frame hsame
  rw [hhp] at f1 f2
  have hWs : s.WarmedH U.vm := State.WarmedH.trans hW0 hW
  have hcl : s.vm.findClass cls = some ce.cls := by
    have h9 := hO.cls
    rw [hvm] at h9
    exact h9
  have hall : s.sameButNew ({ U with vm := s.vm } : State) locs mc ms := by
    subst hA
    obtain ⟨e1, e2⟩ := hsame
    rw [State.setFrames_setFrames] at e1
    have h2 : (T.setVm s.vm).sameButNew ({ U with vm := s.vm } : State) [] (0 + 1) (0 + 6) := ⟨e1, e2⟩
    have h3 := X.same.trans h2
    rw [List.append_nil] at h3
    exact h3.mono hc hs
  refine ⟨U, ?_, .threw T.heap.size, hrun, hend, Or.inr ⟨T.heap.size, rfl, cls, ce, locs, hx U hWs.alike f1 (fun q hq => f2 q hq (fun z hz => nomatch hz)), hce, hO.vm, hcl, hWs, hall, hf⟩⟩
  refine st1 _ ?_
  show Steps p.tables e below (T1.setTop { method := m, pc := pc + 3, locals := ls, stack := .ref T.heap.size :: rest, locked := none }) _
  jvm_step X₁.here [X₁.here.top, hexec, d3', Value.category]
  exact X₁.ldcStringW hexec (own := own) (text := text) (index := is) (a := sa) hown' hstr'.1 hstr'.2
    (g := { method := m, pc := pc + 4, locals := ls, stack := .ref T.heap.size :: .ref T.heap.size :: rest, locked := none }) rfl d4' _ hsteps
end Ends
section Bodies
variable {l : Launch}
theorem vx_ofW {y : MethodName} {ws ws' : List Cond} {rm : Room} {Pc : Array Value → State → Prop} {Qc : Array Value → State → Outcome → State → Prop} {XC : String → State → State → Prop} {mc ms : Nat} {free : Addr → Prop} {cc : ByteArray} {maxL : Nat} {ret : Option FieldType}
    (hy : plainName y.cls = true) (hw : ws = Cond.code y cc maxL ret :: ws')
    (body : ∀ p e s m args below meth c s₁, BodyLoose p l y (headSpec ws rm) cc maxL ret e s m args below meth c s₁ → c.maxLocals = maxL → (∀ x ∈ c.exceptionTable.toList, False) → Pc args s →
      W p l e (headSpec ws rm).room s m args below meth c s.heap [] 0 0 (vx_MQ below Qc XC args s mc ms free) (entryFrame m args maxL)) : vx_Met l y ws rm Pc Qc XC mc ms free := by
  refine MetFree.of_bodyS (code := cc) (maxLocals := maxL) (ret := ret) hy ?_ ?_
  · intro args s m h hn
    obtain ⟨meth, c, h1, h2, h3, h4, h5, h6, -, -⟩ := Cond.code_spec hn (atoms_spec (ws := ws) h _ (by rw [hw]; exact List.mem_cons_self))
    exact ⟨meth, c, h1, h2, h3, h4, h5, h6⟩
  · intro p e s m args below meth c s₁ B hml hP _
    have hh0 : s₁.heap = s.heap := by rw [B.state]; rfl
    have ht : ∀ x ∈ c.exceptionTable.toList, False := by
      obtain ⟨meth9, c9, h1, h2, -, -, -, -, h7, -⟩ := Cond.code_spec B.named (atoms_spec (ws := ws) B.pre _ (by rw [hw]; exact List.mem_cons_self))
      cases Option.some.inj (h1.symm.trans B.method)
      cases Option.some.inj (h2.symm.trans (Stand.of_body B).code)
      intro x hx
      rw [Array.isEmpty_iff.mp h7] at hx
      cases hx
    obtain ⟨t, a1, o, b1, b2, b3⟩ := body p e s m args below meth c s₁ B hml ht hP s₁ hh0 (Stand.of_body B)
    exact ⟨t, o, a1, b1, b2, b3⟩
/-- the table of a body with handlers -/
theorem vx_table {p : Program} {x y : MethodName} {S : Spec} {cc bytes : ByteArray} {maxL maxL' : Nat} {ret ret' : Option FieldType} {e : Env} {s s₁ : State} {m : MethodId} {args : Array Value} {below : List Frame} {meth : Method} {c : Code} {hh : List (Nat × Nat × Nat × Nat)}
    (B : BodyLoose p l y S cc maxL ret e s m args below meth c s₁) (h : (Cond.codeWith y bytes maxL' ret' hh).before args s = true) : c.exceptionTable.toList = tableOf hh := by
  obtain ⟨m9, meth9, c9, hn9, h1, h2, -, -, h6, -⟩ := Cond.codeWith_spec h
  cases Option.some.inj (hn9.symm.trans B.named)
  cases Option.some.inj (h1.symm.trans B.method)
  cases Option.some.inj (h2.symm.trans (Stand.of_body B).code)
  rw [← h6, table_eq]
end Bodies
end VXA
/-! ===== END ===== -/
/-! ===== BEGIN a static call of a method with an exception table ===== -/
section VXS
variable {p : Program} {l : Launch} {e : Env} {R : Room} {s : State} {m : MethodId} {args : Array Value} {below : List Frame} {meth : Method} {c : Code} {T : State} {H : Heap} {locs : List Loc} {cells slots : Nat}
abbrev vx_CSW (R : Room) (s : State) (args : Array Value) (own : String) (index : Nat) (y : MethodName) (bytes : ByteArray) (maxL : Nat) (ret : Option FieldType) (hh : List (Nat × Nat × Nat × Nat)) (ws : List Cond) (rm : Room) (mc ms n : Nat) : Prop :=
  (rm.cells = mc ∧ rm.slots = ms ∧ rm.frames + 1 ≤ R.frames ∧ 8 + (maxL + 11) + rm.locals ≤ R.locals ∧ (∀ w ∈ ws, ∀ (a' : Array Value) (U : State), s.WarmedH U.vm → w.before a' U = true) ∧ Cond.codeWith y bytes maxL ret hh ∈ ws) ∧
  (Cond.codeWith y bytes maxL ret hh).before args s = true ∧ (Cond.initialized y.cls).before args s = true ∧ (y.cls ≠ "java/lang/invoke/MethodHandle" ∧ y.cls ≠ "java/lang/invoke/VarHandle") ∧
  (∀ sig, parseMethodDescriptor y.desc = some sig → n = sig.parameters.length) ∧ (Cond.methodLink own index y).before args s = true ∧ (Cond.static y).before args s = true
theorem vx_cwSW {own : String} {index maxL mc ms : Nat} {y : MethodName} {bytes : ByteArray} {ret : Option FieldType} {hh : List (Nat × Nat × Nat × Nat)} {Ts ws ws' : List Cond} {rm : Room} (n : Nat) (ht : ∀ w ∈ Ts, w.before args s = true) (hT : GoodIn Ts (va_wsS own index y ws)) (hw : ws = Cond.codeWith y bytes maxL ret hh :: ws') (hrc : rm.cells = mc) (hrs : rm.slots = ms)
    (hd : y.cls ≠ "java/lang/invoke/MethodHandle" ∧ y.cls ≠ "java/lang/invoke/VarHandle" ∧ (parseMethodDescriptor y.desc).map (fun d => d.parameters.length) = some n) (hR : rm.frames + 1 ≤ R.frames ∧ 8 + (maxL + 11) + rm.locals ≤ R.locals) :
    vx_CSW R s args own index y bytes maxL ret hh ws rm mc ms n := by
  have ok : ∀ w ∈ va_wsS own index y ws, w.before args s = true := fun w h => ht w (hT w h).1
  have hG : GoodIn Ts ws := fun w h => hT w (by unfold va_wsS; exact List.mem_append_right _ h)
  have hc : Cond.codeWith y bytes maxL ret hh ∈ ws := by rw [hw]; exact List.mem_cons_self
  refine ⟨⟨hrc, hrs, hR.1, hR.2, pay_in ht hG, hc⟩, ht _ (hG _ hc).1, ok _ (by simp [va_wsS]), ⟨hd.1, hd.2.1⟩, fun sig h => ?_, ok _ (by simp [va_wsS]), ok _ (by simp [va_wsS])⟩
  have h2 := hd.2.2
  rw [h] at h2
  exact (Option.some.inj h2).symm
theorem vx_callSW (X : Stand p l e R s m args below meth c T locs cells slots) (hexec : p.tables.exec = Jvm.exec) {own : String} {index : Nat} {y : MethodName} {bytes : ByteArray} {maxL : Nat} {ret : Option FieldType} {hh : List (Nat × Nat × Nat × Nat)}
    (hown : s.vm.findClass own = some m.cls) (hlink : (Cond.methodLink own index y).before args s = true) (hstat : (Cond.static y).before args s = true) (hinit : (Cond.initialized y.cls).before args s = true)
    (hcode : (Cond.codeWith y bytes maxL ret hh).before args s = true) (hy : y.cls ≠ "java/lang/invoke/MethodHandle" ∧ y.cls ≠ "java/lang/invoke/VarHandle")
    {W9 : Nat} {Pre : Pt → Array Value → Prop} {Post : Pt → Array Value → Option Value → Pt → Prop} (hK : Back l R p e below s args y 3 W9 Pre Post)
    {g : JFrame} (hg : g.method = m) (hsize : g.locals.size = c.maxLocals) {argsL rest : List Value} (hlen : ∀ sig, parseMethodDescriptor y.desc = some sig → argsL.length = sig.parameters.length)
    (hstack : g.stack = argsL.reverse ++ rest) (hW : 2 * g.monitorRoom + (rest.map fun v => v.category).sum ≤ W9) (hdg : decode c.code g.pc = .ok (.invokestatic index, 3))
    (hpre : ∀ vm₁, s.WarmedH vm₁ → Pre ⟨T.setVm vm₁, locs, cells, slots⟩ argsL.toArray) :
    ∃ (v : Option Value) (vm₁ : Vm) (B : Pt), s.WarmedH vm₁ ∧ Stand p l e R s m args below meth c B.U B.locs B.cells B.slots ∧ Post ⟨T.setVm vm₁, locs, cells, slots⟩ argsL.toArray v B ∧
      ∀ target, Steps p.tables e below (B.U.setTop { g with pc := g.pc + 3, stack := v.toList ++ rest }) target → Steps p.tables e below (T.setTop g) target := by
  obtain ⟨mk, methM, cM, hnamed, hmethM, -, -, -, -, -, -, hsigM⟩ := Cond.codeWith_spec hcode
  have hstatic : methM.isStatic = true := Cond.static_spec hnamed hmethM hstat
  obtain ⟨kP, hkP, -⟩ := className_of_methodNamed hnamed
  have hinitP : kP.init = .initialized := Cond.initialized_spec (findClass_of_methodNamed hnamed) hkP hinit
  obtain ⟨vm₁, X₁, hstep₁⟩ := X.invokestatic hexec hown hlink hnamed hmethM hstatic hkP hinitP hy (g := g) hg (argsL := argsL) (rest := rest) (hlen _ hsigM) hstack hdg
  obtain ⟨v, B, X', hpost, hsteps⟩ := hK m meth c ⟨T.setVm vm₁, locs, cells, slots⟩ { g with stack := rest } (.invokestatic index) mk argsL.toArray X₁ hg hsize hdg hW (X₁.named hnamed) (hpre vm₁ X₁.warmed)
  exact ⟨v, vm₁, B, X₁.warmed, X', hpost, fun target h => hstep₁ _ fun acts => by rw [doInvoke_state]; exact hsteps.trans h⟩
theorem vx_runSW {y : MethodName} {bytes cc : ByteArray} {maxL nL mc ms n index : Nat} {ret : Option FieldType} {hh : List (Nat × Nat × Nat × Nat)} {ws : List Cond} {rm : Room} {Pc : Array Value → State → Prop} {Qc : Array Value → State → Outcome → State → Prop} {free : Addr → Prop} {Ts : List Cond} {own : String} {As rest : List Value} {g : JFrame}
    (S : CallFix p m c cc nL s args Ts own) (hM : Met l y ws rm Pc Qc mc ms free) (cw : vx_CSW R s args own index y bytes maxL ret hh ws rm mc ms n) (hp : PreS s H Pc As)
    (hg : g.method = m) (hn : As.length = n) (hsize : g.locals.size = nL) (hstack : g.stack = As.reverse ++ rest) (hW : 2 * g.monitorRoom + (rest.map fun v => v.category).sum ≤ 8) (hdg : decode cc g.pc = .ok (.invokestatic index, 3)) (hf : cells + mc ≤ R.cells ∧ slots + ms ≤ R.slots) :
    va_Run p l e R s m args below meth c H locs cells slots mc ms g rest (Qc As.toArray) (free) := by
  obtain ⟨⟨hrc, hrs, hfr, hlo, hws, hcw⟩, hcode, hini, hy, hlen, hl, hstt⟩ := cw
  have hK : Back l R p e below s args y 3 8 (PreOf R mc ms Pc) (PostOf Qc mc ms free) := va_backW (hh := hh) (bytes := bytes) (maxL := maxL) (ret := ret) hM hp.1 hrc hrs hfr hlo hws hcw (fun a' U hW => word_at hW (Or.inl (by first | rfl | simp [Cond.onTables, Cond.keeps, Cond.steady])) hini)
  obtain ⟨hx, hb, hml, ho, -⟩ := S
  intro T hT X
  obtain ⟨v, vm₁, ⟨U', l2, c2, s2⟩, hW₁, X', ⟨g', mk, t, L, e1, e2, hq, h1, hL, h2, h3⟩, st⟩ := vx_callSW X hx (hh := hh) (bytes := bytes) (maxL := maxL) (ret := ret) ho hl hstt hini hcode hy hK hg (hsize.trans hml.symm) (argsL := As) (rest := rest) (fun sig h => hn.trans (hlen sig h)) hstack hW (by rw [hb]; exact hdg)
    (fun vm₁ hW₁ => ⟨hf.1, hf.2, hp.2 (T.setVm vm₁) hT hW₁⟩)
  dsimp only [Pt.U, Pt.locs, Pt.cells, Pt.slots] at X' e1 e2 h1 h2 h3 st
  subst h1; subst h2; subst h3
  exact ⟨v, (T.setVm vm₁).calling g' mk As.toArray, t, U', L, hT, X', hL, e1, e2, hq, st⟩
/-- not caught here, past rows that name other classes: it goes on to the caller -/
theorem vx_outP {p : Program} {l : Launch} {e : Env} {R : Room} {s : State} {m : MethodId} {args : Array Value} {below : List Frame} {meth : Method} {c : Code} {H : Heap} {locs : List Loc} {cells slots : Nat} {free : Addr → Prop} {ls : Array Slot} {rest : List Value} {Qc : Array Value → State → Outcome → State → Prop} {XC : String → State → State → Prop}
    {pc : Nat} {own E : String} {ce : Cell} {q : Addr} {mc ms : Nat} (hown : s.vm.findClass own = some m.cls) (hlocks : meth.locks = false)
    (hpass : ∀ z ∈ c.exceptionTable.toList, covers z pc = false ∨ (z.catchType ≠ 0 ∧ ∃ nm : String, (Cond.classLink own z.catchType nm).before args s = true ∧ va_Nc E nm s)) (hcell : H[q]? = some ce) (hv : ce.vm = .none) (hcl : s.vm.findClass E = some ce.cls)
    (hx : ∀ t : State, t.heap = H → s.vm.Alike t.vm → XC E s t) (hf : ∀ z ∈ locs, free z.base) (hc : cells ≤ mc) (hs : slots ≤ ms) :
    vx_W p l e R s m args below meth c H locs cells slots (vx_MQ below Qc XC args s mc ms free) (F0 m pc ls rest) q := by
  intro T hT X
  have hpl : e.platform.magicAccessors = ({} : Platform).magicAccessors := by rw [X.admits.platform]
  obtain ⟨vm', hW', X', st⟩ := X.outThrough hlocks q (g := F0 m pc ls rest) rfl rfl rfl (cell := ce) (by rw [hT]; exact hcell) (by rw [hv]; rfl)
    (by obtain ⟨k9, h9, -⟩ := Vm.findClass_spec hcl; exact ⟨k9, h9⟩) (fun z hz => by
      rcases hpass z hz with h | ⟨hz0, nm, hl1, hn1⟩
      · exact Or.inl h
      · obtain ⟨c6, hc6, hcl6⟩ := Cond.classLink_spec hown hl1 e.platform hpl
        obtain ⟨a8, b8, h1, h2, h3⟩ := hn1
        cases Option.some.inj (h1.symm.trans hcl)
        cases Option.some.inj (h2.symm.trans hc6)
        exact Or.inr ⟨hz0, _, hcl6, h3⟩)
  obtain ⟨g₀, hfr⟩ := X'.frames_eq
  have hcell9 : ((T.setVm vm').setFrames (.throwing q :: below)).heap[q]? = some ce := by
    show T.heap[q]? = some ce
    rw [hT]; exact hcell
  have hend : Ended ((T.setVm vm').setFrames (.throwing q :: below)) below (.threw q) := State.frames_setFrames _ (State.cur_lt_of_frames hfr)
  refine ⟨(T.setVm vm').setFrames (.throwing q :: below), ?_, .threw q, X'.here.running, hend, Or.inr ⟨q, rfl, E, ce, locs, hx _ hT (X'.ends _).1.alike, hcell9, hv, hcl, (X'.ends _).1, (X'.ends _).2.mono hc hs, hf⟩⟩
  rw [X.pushThrowing_eq]
  exact st
/-- a thing of a world lies in the heap -/
theorem vx_lt {D : va_G} {cl : List vw_C} {ws : va_W} {H1 : Heap} (h : va_P D cl ws H1) {k : Nat} {q : Nat × va_E} (hk : ws[k]? = some q) : q.1 < H1.size := (h k q hk).lt
end VXS
/-! ===== END ===== -/
/-! ===== BEGIN methods with a table of their own: called by a name, returning or throwing ===== -/
section VXH
/-! vx_backW, vx_callVX, vx_callSX, vx_callVW, vx_runVW, vx_runVX, vx_runSX, vx_ofWH follow the same proofs as their sisters above (Free/Laws.lean, Shelf42/LK1.lean); vx_outP calls Shelf42/NT130.lean (outThrough). -/
section
variable {l : Launch} {R : Room} {p : Program} {e : Env} {below : List Frame} {s : State} {sargs : Array Value} {y : MethodName} {len W9 : Nat}
theorem vx_backW {ws : List Cond} {rm : Room} {Pc : Array Value → State → Prop} {Qc : Array Value → State → Outcome → State → Prop} {XC : String → State → State → Prop} {mc ms : Nat} {free : Addr → Prop} {bytes : ByteArray} {maxL : Nat} {ret : Option FieldType} {hh : List (Nat × Nat × Nat × Nat)}
    (hM : vx_Met l y ws rm Pc Qc XC mc ms free) (hblind : FrameBlind Pc) (hrc : rm.cells = mc) (hrs : rm.slots = ms)
    (hframes : rm.frames + 1 ≤ R.frames) (hlocals : W9 + (maxL + 11) + rm.locals ≤ R.locals)
    (hws : ∀ w ∈ ws, ∀ a' U, s.WarmedH U.vm → w.before a' U = true) (hcode : Cond.codeWith y bytes maxL ret hh ∈ ws) (hinit : ∀ a' U, s.WarmedH U.vm → (Cond.initialized y.cls).before a' U = true) :
    vx_Back l R p e below s sargs y len W9 (PreOf R mc ms Pc) (PostOf Qc mc ms free) (vx_Post XC mc ms free) := by
  intro m meth c A g ig mk a X hg hsize hdg hW hn hp
  have h1 : (headSpec ws rm).pre.before a A.U = true := atoms_intro fun w hw => hws w hw _ _ X.warmed
  have h2 : (Cond.codeWith y bytes maxL ret hh).before a A.U = true := hws _ hcode _ _ X.warmed
  have h3 : (Cond.initialized y.cls).before a A.U = true := hinit _ _ X.warmed
  have h4 : A.cells + (headSpec ws rm).room.cells ≤ R.cells := by rw [show (headSpec ws rm).room.cells = mc from hrc]; exact hp.1
  have h5 : A.slots + (headSpec ws rm).room.slots ≤ R.slots := by rw [show (headSpec ws rm).room.slots = ms from hrs]; exact hp.2.1
  have hPc : Pc a (A.U.calling g mk a) := hblind _ _ _ _ hp.2.2
  obtain ⟨U, Ls, c0, s0⟩ := A
  dsimp only [Pt.U, Pt.locs, Pt.cells, Pt.slots] at h1 h2 h3 h4 h5 X hn hPc ⊢
  obtain ⟨m9, methY, cY, hn9, hmY, hcY, -, hlY, -⟩ := Cond.codeWith_spec h2
  cases Option.some.inj (hn9.symm.trans hn)
  obtain ⟨kY, hkY, -⟩ := className_of_methodNamed hn
  have hinitY : kY.init = .initialized := Cond.initialized_spec (findClass_of_methodNamed hn) hkY h3
  have h : At U g.method c below := by rw [hg]; exact X.here
  have hlocals9 : W9 + (maxL + 11) + (headSpec ws rm).room.locals ≤ R.locals := hlocals
  have happ : (headSpec ws rm).appliesLoose y e.platform (U.calling g mk a) = true :=
    Spec.appliesLoose_calling (g := g) h hdg hn hkY hinitY
      (X.room_calling (g := g) (R' := (headSpec ws rm).room) hsize hmY hcY hframes (by rw [hlY]; omega) h4 h5) h1
  obtain ⟨mid, hmid⟩ := h.above
  have hfr : (U.setTop g).frames = (.java g :: mid) ++ below := by rw [State.frames_setTop' g h.top, hmid]; rfl
  obtain ⟨o, s₂, hsteps, -, hend, hq⟩ := Steps.callFree hM p X.admits X.cas X.clock (acts := []) hfr happ hPc trivial
  have hq' : vx_Q Qc XC mc ms free a (U.calling g mk a) o s₂ := hq
  rw [State.frames_setTop' g h.top] at hend
  obtain ⟨g₀, hg0⟩ := Option.isSome_iff_exists.mp h.top
  obtain ⟨r, hr⟩ := State.topJava?_eq_some.mp hg0
  have hr' : (({ U with heap := s₂.heap, slotsUsed := s₂.slotsUsed } : State).setVm s₂.vm).frames = .java g₀ :: r := hr
  rcases hq' with ⟨hqc, L, hfe, hL⟩ | ⟨q, rfl, E, ce, L, hx, hce, hcv, hcl, hW₂, hsm, hL⟩
  · obtain ⟨⟨v, rfl⟩, hW₂, e2, q2, q3, q4, q5, q6⟩ := id hfe
    have e3 : s₂ = ({ (U.calling g mk a).setFrames s₂.frames with heap := s₂.heap, slotsUsed := s₂.slotsUsed } : State).setVm s₂.vm := by
      have : s₂ = ({ s₂ with vm := (U.calling g mk a).vm } : State).setVm s₂.vm := rfl
      rw [e2] at this
      exact this
    obtain ⟨c₂, i₂, len₂, hc₂, hd₂, hf₂⟩ := hend
    have hW' : U.WarmedH s₂.vm := hW₂
    have hcc : c₂ = c := by
      have h1 : s₂.code? g.method = U.code? g.method := by
        rw [State.code?_eq, State.code?_eq, hW'.alike.method?]
      exact Option.some.inj (hc₂.symm.trans (h1.trans h.code))
    subst hcc
    have hlen : len₂ = len := by rw [hdg] at hd₂; cases hd₂; rfl
    subst hlen
    have hs₂ : s₂ = (({ U with heap := s₂.heap, slotsUsed := s₂.slotsUsed } : State).setVm s₂.vm).setTop { g with pc := g.pc + len₂, stack := v.toList ++ g.stack } := by
      refine e3.trans ?_
      rw [hf₂, State.calling_eq h.top, State.setFrames_setFrames, State.setTop_of_frames _ hr', hr]
      rfl
    have hsame : U.sameButNew ({ U with heap := s₂.heap, slotsUsed := s₂.slotsUsed } : State) L mc ms := by
      refine ⟨?_, q2, q3, q4, q5, q6⟩
      obtain ⟨t, ht, -⟩ := State.frames_cons hr
      show ({ U with heap := s₂.heap, slotsUsed := s₂.slotsUsed } : State) = { U.setFrames U.frames with heap := s₂.heap, slotsUsed := s₂.slotsUsed }
      rw [State.setFrames_self ht]
    subst hg
    refine Or.inl ⟨v, ⟨(({ U with heap := s₂.heap, slotsUsed := s₂.slotsUsed } : State).setVm s₂.vm), Ls ++ L, c0 + mc, s0 + ms⟩,
      ⟨X.admits, X.cas, X.clock, X.frames, X.room, X.hears, X.method, X.code, (X.here.setHeapUsed s₂.heap s₂.slotsUsed).setVm hW'.alike, X.tail, State.WarmedH.trans X.warmed hW', X.limits, X.bytes, X.same.trans (hsame.setVm s.vm)⟩,
      ⟨g, mk, s₂, L, rfl, rfl, hqc, rfl, hL, rfl, rfl⟩, ?_⟩
    show Steps p.tables e below _ ((({ U with heap := s₂.heap, slotsUsed := s₂.slotsUsed } : State).setVm s₂.vm).setTop { g with pc := g.pc + len₂, stack := v.toList ++ g.stack })
    rw [← hs₂]
    exact hsteps
  · obtain ⟨e2, q2, q3, q4, q5, q6⟩ := id hsm
    have e3 : s₂ = ({ (U.calling g mk a).setFrames s₂.frames with heap := s₂.heap, slotsUsed := s₂.slotsUsed } : State).setVm s₂.vm := by
      have : s₂ = ({ s₂ with vm := (U.calling g mk a).vm } : State).setVm s₂.vm := rfl
      rw [e2] at this
      exact this
    have hf₂ : s₂.frames = .throwing q :: .java g :: U.frames.tail := hend
    have hW' : U.WarmedH s₂.vm := hW₂
    have hs₂ : s₂ = ((({ U with heap := s₂.heap, slotsUsed := s₂.slotsUsed } : State).setVm s₂.vm).setTop g).pushFrame (.throwing q) := by
      refine e3.trans ?_
      rw [hf₂, State.calling_eq h.top, State.setFrames_setFrames, State.pushFrame, State.frames_setTop _ hr', State.setTop_of_frames _ hr', State.setFrames_setFrames, hr]
      rfl
    have hsame : U.sameButNew ({ U with heap := s₂.heap, slotsUsed := s₂.slotsUsed } : State) L mc ms := by
      refine ⟨?_, q2, q3, q4, q5, q6⟩
      obtain ⟨t, ht, -⟩ := State.frames_cons hr
      show ({ U with heap := s₂.heap, slotsUsed := s₂.slotsUsed } : State) = { U.setFrames U.frames with heap := s₂.heap, slotsUsed := s₂.slotsUsed }
      rw [State.setFrames_self ht]
    subst hg
    refine Or.inr ⟨q, ⟨(({ U with heap := s₂.heap, slotsUsed := s₂.slotsUsed } : State).setVm s₂.vm), Ls ++ L, c0 + mc, s0 + ms⟩,
      ⟨X.admits, X.cas, X.clock, X.frames, X.room, X.hears, X.method, X.code, (X.here.setHeapUsed s₂.heap s₂.slotsUsed).setVm hW'.alike, X.tail, State.WarmedH.trans X.warmed hW', X.limits, X.bytes, X.same.trans (hsame.setVm s.vm)⟩,
      ⟨g, mk, s₂, L, E, ce, rfl, rfl, hx, hce, hcv, hcl, rfl, hL, rfl, rfl⟩, ?_⟩
    show Steps p.tables e below _ (((({ U with heap := s₂.heap, slotsUsed := s₂.slotsUsed } : State).setVm s₂.vm).setTop g).pushFrame (.throwing q))
    rw [← hs₂]
    exact hsteps
end
variable {p : Program} {l : Launch} {e : Env} {R : Room} {s : State} {m : MethodId} {args : Array Value} {below : List Frame} {meth : Method} {c : Code} {T : State} {H : Heap} {locs : List Loc} {cells slots : Nat}
theorem vx_callVX (X : Stand p l e R s m args below meth c T locs cells slots) (hexec : p.tables.exec = Jvm.exec) {own C : String} {index : Nat} {y : MethodName} {bytes : ByteArray} {maxL : Nat} {ret : Option FieldType} {hh : List (Nat × Nat × Nat × Nat)}
    (hown : s.vm.findClass own = some m.cls) (hlink : (Cond.methodLink own index y).before args s = true) (hinst : (Cond.instanceMethod y).before args s = true) (hsel : (Cond.selects C y y).before args s = true)
    (hcode : (Cond.codeWith y bytes maxL ret hh).before args s = true) (hy : y.cls ≠ "java/lang/invoke/MethodHandle" ∧ y.cls ≠ "java/lang/invoke/VarHandle")
    {W9 : Nat} {Pre : Pt → Array Value → Prop} {Post : Pt → Array Value → Option Value → Pt → Prop} {PostX : Pt → Array Value → Addr → Pt → Prop} (hK : vx_Back l R p e below s args y 3 W9 Pre Post PostX)
    {b : Addr} {cellB : Cell} (hcell : T.heap[b]? = some cellB) (hobj : cellB.vm.isStatics = false) (hcls : s.vm.findClass C = some cellB.cls)
    {g : JFrame} (hg : g.method = m) (hsize : g.locals.size = c.maxLocals) {argsL rest : List Value} (hlen : ∀ sig, parseMethodDescriptor y.desc = some sig → argsL.length = sig.parameters.length)
    (hstack : g.stack = argsL.reverse ++ .ref b :: rest) (hW : 2 * g.monitorRoom + (rest.map fun v => v.category).sum ≤ W9) (hdg : decode c.code g.pc = .ok (.invokevirtual index, 3))
    (hpre : ∀ vm₁, s.WarmedH vm₁ → Pre ⟨T.setVm vm₁, locs, cells, slots⟩ (Value.ref b :: argsL).toArray) :
    (∃ (v : Option Value) (vm₁ : Vm) (B : Pt), s.WarmedH vm₁ ∧ Stand p l e R s m args below meth c B.U B.locs B.cells B.slots ∧ Post ⟨T.setVm vm₁, locs, cells, slots⟩ (Value.ref b :: argsL).toArray v B ∧
      ∀ target, Steps p.tables e below (B.U.setTop { g with pc := g.pc + 3, stack := v.toList ++ rest }) target → Steps p.tables e below (T.setTop g) target) ∨
    (∃ (q : Addr) (vm₁ : Vm) (B : Pt), s.WarmedH vm₁ ∧ Stand p l e R s m args below meth c B.U B.locs B.cells B.slots ∧ PostX ⟨T.setVm vm₁, locs, cells, slots⟩ (Value.ref b :: argsL).toArray q B ∧
      Steps p.tables e below (T.setTop g) ((B.U.setTop { g with stack := rest }).pushFrame (.throwing q))) := by
  obtain ⟨mk, methM, hnamed, hmethM, hstM, habM⟩ := Cond.instanceMethod_spec hinst
  obtain ⟨m8, methM', cM, hn8, hmethM', -, -, -, -, -, -, hsigM⟩ := Cond.codeWith_spec hcode
  cases Option.some.inj (hn8.symm.trans hnamed)
  cases hmethM.symm.trans hmethM'
  obtain ⟨c2, r2, m2, q1, q2, q3, q4, kP, hkP, hkPi⟩ := Cond.selects_spec hsel
  cases hcls.symm.trans q1
  cases (State.methodFound?_of_named hnamed hy).symm.trans q2
  cases hnamed.symm.trans q3
  have hselP : selectMethod e.platform s.vm cellB.cls mk = .method mk := by rw [Launch.admits_selectMethod X.admits]; exact q4
  obtain ⟨vm₁, X₁, hstep₁⟩ := X.invokevirtual hexec hown hlink hnamed hmethM hstM hkP hkPi hy (a := b) (cell := cellB) hcell
    (fun z h => by rw [h] at hobj; cases hobj) hselP hmethM habM hkP hkPi (g := g) hg (argsL := argsL) (rest := rest) (hlen _ hsigM) hstack hdg
  rcases hK m meth c ⟨T.setVm vm₁, locs, cells, slots⟩ { g with stack := rest } (.invokevirtual index) mk (Value.ref b :: argsL).toArray X₁ hg hsize hdg hW (X₁.named hnamed) (hpre vm₁ X₁.warmed) with ⟨v, B, X', hpost, hsteps⟩ | ⟨q, B, X', hpost, hsteps⟩
  · exact Or.inl ⟨v, vm₁, B, X₁.warmed, X', hpost, fun target h => hstep₁ _ fun acts => by rw [doInvoke_state]; exact hsteps.trans h⟩
  · exact Or.inr ⟨q, vm₁, B, X₁.warmed, X', hpost, hstep₁ _ fun acts => by rw [doInvoke_state]; exact hsteps⟩
theorem vx_callSX (X : Stand p l e R s m args below meth c T locs cells slots) (hexec : p.tables.exec = Jvm.exec) {own : String} {index : Nat} {y : MethodName} {bytes : ByteArray} {maxL : Nat} {ret : Option FieldType} {hh : List (Nat × Nat × Nat × Nat)}
    (hown : s.vm.findClass own = some m.cls) (hlink : (Cond.methodLink own index y).before args s = true) (hstat : (Cond.static y).before args s = true) (hinit : (Cond.initialized y.cls).before args s = true)
    (hcode : (Cond.codeWith y bytes maxL ret hh).before args s = true) (hy : y.cls ≠ "java/lang/invoke/MethodHandle" ∧ y.cls ≠ "java/lang/invoke/VarHandle")
    {W9 : Nat} {Pre : Pt → Array Value → Prop} {Post : Pt → Array Value → Option Value → Pt → Prop} {PostX : Pt → Array Value → Addr → Pt → Prop} (hK : vx_Back l R p e below s args y 3 W9 Pre Post PostX)
    {g : JFrame} (hg : g.method = m) (hsize : g.locals.size = c.maxLocals) {argsL rest : List Value} (hlen : ∀ sig, parseMethodDescriptor y.desc = some sig → argsL.length = sig.parameters.length)
    (hstack : g.stack = argsL.reverse ++ rest) (hW : 2 * g.monitorRoom + (rest.map fun v => v.category).sum ≤ W9) (hdg : decode c.code g.pc = .ok (.invokestatic index, 3))
    (hpre : ∀ vm₁, s.WarmedH vm₁ → Pre ⟨T.setVm vm₁, locs, cells, slots⟩ argsL.toArray) :
    (∃ (v : Option Value) (vm₁ : Vm) (B : Pt), s.WarmedH vm₁ ∧ Stand p l e R s m args below meth c B.U B.locs B.cells B.slots ∧ Post ⟨T.setVm vm₁, locs, cells, slots⟩ argsL.toArray v B ∧
      ∀ target, Steps p.tables e below (B.U.setTop { g with pc := g.pc + 3, stack := v.toList ++ rest }) target → Steps p.tables e below (T.setTop g) target) ∨
    (∃ (q : Addr) (vm₁ : Vm) (B : Pt), s.WarmedH vm₁ ∧ Stand p l e R s m args below meth c B.U B.locs B.cells B.slots ∧ PostX ⟨T.setVm vm₁, locs, cells, slots⟩ argsL.toArray q B ∧
      Steps p.tables e below (T.setTop g) ((B.U.setTop { g with stack := rest }).pushFrame (.throwing q))) := by
  obtain ⟨mk, methM, cM, hnamed, hmethM, -, -, -, -, -, -, hsigM⟩ := Cond.codeWith_spec hcode
  have hstatic : methM.isStatic = true := Cond.static_spec hnamed hmethM hstat
  obtain ⟨kP, hkP, -⟩ := className_of_methodNamed hnamed
  have hinitP : kP.init = .initialized := Cond.initialized_spec (findClass_of_methodNamed hnamed) hkP hinit
  obtain ⟨vm₁, X₁, hstep₁⟩ := X.invokestatic hexec hown hlink hnamed hmethM hstatic hkP hinitP hy (g := g) hg (argsL := argsL) (rest := rest) (hlen _ hsigM) hstack hdg
  rcases hK m meth c ⟨T.setVm vm₁, locs, cells, slots⟩ { g with stack := rest } (.invokestatic index) mk argsL.toArray X₁ hg hsize hdg hW (X₁.named hnamed) (hpre vm₁ X₁.warmed) with ⟨v, B, X', hpost, hsteps⟩ | ⟨q, B, X', hpost, hsteps⟩
  · exact Or.inl ⟨v, vm₁, B, X₁.warmed, X', hpost, fun target h => hstep₁ _ fun acts => by rw [doInvoke_state]; exact hsteps.trans h⟩
  · exact Or.inr ⟨q, vm₁, B, X₁.warmed, X', hpost, hstep₁ _ fun acts => by rw [doInvoke_state]; exact hsteps⟩
theorem vx_callVW (X : Stand p l e R s m args below meth c T locs cells slots) (hexec : p.tables.exec = Jvm.exec) {own C : String} {index : Nat} {y : MethodName} {bytes : ByteArray} {maxL : Nat} {ret : Option FieldType} {hh : List (Nat × Nat × Nat × Nat)}
    (hown : s.vm.findClass own = some m.cls) (hlink : (Cond.methodLink own index y).before args s = true) (hinst : (Cond.instanceMethod y).before args s = true) (hsel : (Cond.selects C y y).before args s = true)
    (hcode : (Cond.codeWith y bytes maxL ret hh).before args s = true) (hy : y.cls ≠ "java/lang/invoke/MethodHandle" ∧ y.cls ≠ "java/lang/invoke/VarHandle")
    {W9 : Nat} {Pre : Pt → Array Value → Prop} {Post : Pt → Array Value → Option Value → Pt → Prop} (hK : Back l R p e below s args y 3 W9 Pre Post)
    {b : Addr} {cellB : Cell} (hcell : T.heap[b]? = some cellB) (hobj : cellB.vm.isStatics = false) (hcls : s.vm.findClass C = some cellB.cls)
    {g : JFrame} (hg : g.method = m) (hsize : g.locals.size = c.maxLocals) {argsL rest : List Value} (hlen : ∀ sig, parseMethodDescriptor y.desc = some sig → argsL.length = sig.parameters.length)
    (hstack : g.stack = argsL.reverse ++ .ref b :: rest) (hW : 2 * g.monitorRoom + (rest.map fun v => v.category).sum ≤ W9) (hdg : decode c.code g.pc = .ok (.invokevirtual index, 3))
    (hpre : ∀ vm₁, s.WarmedH vm₁ → Pre ⟨T.setVm vm₁, locs, cells, slots⟩ (Value.ref b :: argsL).toArray) :
    ∃ (v : Option Value) (vm₁ : Vm) (B : Pt), s.WarmedH vm₁ ∧ Stand p l e R s m args below meth c B.U B.locs B.cells B.slots ∧ Post ⟨T.setVm vm₁, locs, cells, slots⟩ (Value.ref b :: argsL).toArray v B ∧
      ∀ target, Steps p.tables e below (B.U.setTop { g with pc := g.pc + 3, stack := v.toList ++ rest }) target → Steps p.tables e below (T.setTop g) target := by
  obtain ⟨mk, methM, hnamed, hmethM, hstM, habM⟩ := Cond.instanceMethod_spec hinst
  obtain ⟨m8, methM', cM, hn8, hmethM', -, -, -, -, -, -, hsigM⟩ := Cond.codeWith_spec hcode
  cases Option.some.inj (hn8.symm.trans hnamed)
  cases hmethM.symm.trans hmethM'
  obtain ⟨c2, r2, m2, q1, q2, q3, q4, kP, hkP, hkPi⟩ := Cond.selects_spec hsel
  cases hcls.symm.trans q1
  cases (State.methodFound?_of_named hnamed hy).symm.trans q2
  cases hnamed.symm.trans q3
  have hselP : selectMethod e.platform s.vm cellB.cls mk = .method mk := by rw [Launch.admits_selectMethod X.admits]; exact q4
  obtain ⟨vm₁, X₁, hstep₁⟩ := X.invokevirtual hexec hown hlink hnamed hmethM hstM hkP hkPi hy (a := b) (cell := cellB) hcell
    (fun z h => by rw [h] at hobj; cases hobj) hselP hmethM habM hkP hkPi (g := g) hg (argsL := argsL) (rest := rest) (hlen _ hsigM) hstack hdg
  obtain ⟨v, B, X', hpost, hsteps⟩ := hK m meth c ⟨T.setVm vm₁, locs, cells, slots⟩ { g with stack := rest } (.invokevirtual index) mk (Value.ref b :: argsL).toArray X₁ hg hsize hdg hW (X₁.named hnamed) (hpre vm₁ X₁.warmed)
  exact ⟨v, vm₁, B, X₁.warmed, X', hpost, fun target h => hstep₁ _ fun acts => by rw [doInvoke_state]; exact hsteps.trans h⟩
abbrev vx_CVW (R : Room) (s : State) (args : Array Value) (own C : String) (index : Nat) (y : MethodName) (bytes : ByteArray) (maxL : Nat) (ret : Option FieldType) (hh : List (Nat × Nat × Nat × Nat)) (ws : List Cond) (rm : Room) (mc ms n : Nat) : Prop :=
  (rm.cells = mc ∧ rm.slots = ms ∧ rm.frames + 1 ≤ R.frames ∧ 8 + (maxL + 11) + rm.locals ≤ R.locals ∧ (∀ w ∈ ws, ∀ (a' : Array Value) (U : State), s.WarmedH U.vm → w.before a' U = true) ∧ Cond.codeWith y bytes maxL ret hh ∈ ws) ∧
  (Cond.codeWith y bytes maxL ret hh).before args s = true ∧ (Cond.initialized y.cls).before args s = true ∧ (y.cls ≠ "java/lang/invoke/MethodHandle" ∧ y.cls ≠ "java/lang/invoke/VarHandle") ∧
  (∀ sig, parseMethodDescriptor y.desc = some sig → n = sig.parameters.length) ∧ (Cond.methodLink own index y).before args s = true ∧ (Cond.instanceMethod y).before args s = true ∧ (Cond.selects C y y).before args s = true
theorem vx_cwVW {own C : String} {index maxL mc ms : Nat} {y : MethodName} {bytes : ByteArray} {ret : Option FieldType} {hh : List (Nat × Nat × Nat × Nat)} {Ts ws ws' : List Cond} {rm : Room} (n : Nat) (ht : ∀ w ∈ Ts, w.before args s = true) (hT : GoodIn Ts (wsV own index C y ws)) (hw : ws = Cond.codeWith y bytes maxL ret hh :: ws') (hrc : rm.cells = mc) (hrs : rm.slots = ms)
    (hd : y.cls = C ∧ y.cls ≠ "java/lang/invoke/MethodHandle" ∧ y.cls ≠ "java/lang/invoke/VarHandle" ∧ (parseMethodDescriptor y.desc).map (fun d => d.parameters.length) = some n) (hR : rm.frames + 1 ≤ R.frames ∧ 8 + (maxL + 11) + rm.locals ≤ R.locals) :
    vx_CVW R s args own C index y bytes maxL ret hh ws rm mc ms n := by
  obtain ⟨hC, hd⟩ := hd
  subst hC
  have ok : ∀ w ∈ wsV own index y.cls y ws, w.before args s = true := fun w h => ht w (hT w h).1
  have hG : GoodIn Ts ws := fun w h => hT w (by unfold wsV; exact List.mem_append_right _ h)
  have hc : Cond.codeWith y bytes maxL ret hh ∈ ws := by rw [hw]; exact List.mem_cons_self
  refine ⟨⟨hrc, hrs, hR.1, hR.2, pay_in ht hG, hc⟩, ht _ (hG _ hc).1, ok _ (by simp [wsV]), ⟨hd.1, hd.2.1⟩, fun sig h => ?_, ok _ (by simp [wsV]), ok _ (by simp [wsV]), ok _ (by simp [wsV])⟩
  have h2 := hd.2.2
  rw [h] at h2
  exact (Option.some.inj h2).symm
theorem vx_runVW {y : MethodName} {bytes cc : ByteArray} {maxL nL mc ms n index : Nat} {ret : Option FieldType} {hh : List (Nat × Nat × Nat × Nat)} {ws : List Cond} {rm : Room} {Pc : Array Value → State → Prop} {Qc : Array Value → State → Outcome → State → Prop} {free : Addr → Prop} {Ts : List Cond} {own C : String} {b : Addr} {As rest : List Value} {g : JFrame}
    (S : CallFix p m c cc nL s args Ts own) (hM : Met l y ws rm Pc Qc mc ms free) (cw : vx_CVW R s args own C index y bytes maxL ret hh ws rm mc ms n) (hp : PreV s H C b Pc As)
    (hg : g.method = m) (hn : As.length = n) (hsize : g.locals.size = nL) (hstack : g.stack = As.reverse ++ .ref b :: rest) (hW : 2 * g.monitorRoom + (rest.map fun v => v.category).sum ≤ 8) (hdg : decode cc g.pc = .ok (.invokevirtual index, 3)) (hf : cells + mc ≤ R.cells ∧ slots + ms ≤ R.slots) :
    va_Run p l e R s m args below meth c H locs cells slots mc ms g rest (Qc (Value.ref b :: As).toArray) free := by
  obtain ⟨⟨hrc, hrs, hfr, hlo, hws, hcw⟩, hcode, hini, hy, hlen, hl, hin, hse⟩ := cw
  have hK : Back l R p e below s args y 3 8 (PreOf R mc ms Pc) (PostOf Qc mc ms free) := va_backW (hh := hh) (bytes := bytes) (maxL := maxL) (ret := ret) hM hp.1 hrc hrs hfr hlo hws hcw (fun a' U hW => word_at hW (Or.inl (by first | rfl | simp [Cond.onTables, Cond.keeps, Cond.steady])) hini)
  obtain ⟨hx, hb, hml, ho, -⟩ := S
  obtain ⟨-, ⟨cellB, hcB, hoB, hclB⟩, hPc⟩ := hp
  intro T hT X
  obtain ⟨v, vm₁, ⟨U', l2, c2, s2⟩, hW₁, X', ⟨g', mk, t, L, e1, e2, hq, h1, hL, h2, h3⟩, st⟩ := vx_callVW X hx (C := C) (hh := hh) (bytes := bytes) (maxL := maxL) (ret := ret) ho hl hin hse hcode hy hK (by rw [hT]; exact hcB) hoB hclB hg (hsize.trans hml.symm) (argsL := As) (rest := rest) (fun sig h => hn.trans (hlen sig h)) hstack hW (by rw [hb]; exact hdg)
    (fun vm₁ hW₁ => ⟨hf.1, hf.2, hPc (T.setVm vm₁) hT hW₁⟩)
  dsimp only [Pt.U, Pt.locs, Pt.cells, Pt.slots] at X' e1 e2 h1 h2 h3 st
  subst h1; subst h2; subst h3
  exact ⟨v, (T.setVm vm₁).calling g' mk (Value.ref b :: As).toArray, t, U', L, hT, X', hL, e1, e2, hq, st⟩
section
variable {y : MethodName} {bytes cc : ByteArray} {maxL nL mc ms n index : Nat} {ret : Option FieldType} {ws : List Cond} {rm : Room} {Pc : Array Value → State → Prop} {Qc : Array Value → State → Outcome → State → Prop} {XC : String → State → State → Prop} {free : Addr → Prop} {Ts : List Cond} {own C : String} {b : Addr} {As rest : List Value} {g : JFrame}
theorem vx_runVX {hh : List (Nat × Nat × Nat × Nat)} (S : CallFix p m c cc nL s args Ts own) (hM : vx_Met l y ws rm Pc Qc XC mc ms free) (cw : vx_CVW R s args own C index y bytes maxL ret hh ws rm mc ms n) (hp : PreV s H C b Pc As)
    (hg : g.method = m) (hn : As.length = n) (hsize : g.locals.size = nL) (hstack : g.stack = As.reverse ++ .ref b :: rest) (hW : 2 * g.monitorRoom + (rest.map fun v => v.category).sum ≤ 8) (hdg : decode cc g.pc = .ok (.invokevirtual index, 3)) (hf : cells + mc ≤ R.cells ∧ slots + ms ≤ R.slots) :
    vx_Run p l e R s m args below meth c H locs cells slots mc ms g rest (Qc (Value.ref b :: As).toArray) XC free := by
  obtain ⟨⟨hrc, hrs, hfr, hlo, hws, hcw⟩, hcode, hini, hy, hlen, hl, hin, hse⟩ := cw
  have hK : vx_Back l R p e below s args y 3 8 (PreOf R mc ms Pc) (PostOf Qc mc ms free) (vx_Post XC mc ms free) := vx_backW (hh := hh) (bytes := bytes) (maxL := maxL) (ret := ret) hM hp.1 hrc hrs hfr hlo hws hcw (fun a' U hW => word_at hW (Or.inl (by first | rfl | simp [Cond.onTables, Cond.keeps, Cond.steady])) hini)
  obtain ⟨hx, hb, hml, ho, -⟩ := S
  obtain ⟨-, ⟨cellB, hcB, hoB, hclB⟩, hPc⟩ := hp
  intro T hT X
  rcases vx_callVX X hx (C := C) (hh := hh) (bytes := bytes) (maxL := maxL) (ret := ret) ho hl hin hse hcode hy hK (by rw [hT]; exact hcB) hoB hclB hg (hsize.trans hml.symm) (argsL := As) (rest := rest) (fun sig h => hn.trans (hlen sig h)) hstack hW (by rw [hb]; exact hdg)
    (fun vm₁ hW₁ => ⟨hf.1, hf.2, hPc (T.setVm vm₁) hT hW₁⟩) with ⟨v, vm₁, ⟨U', l2, c2, s2⟩, hW₁, X', ⟨g', mk, t, L, e1, e2, hq, h1, hL, h2, h3⟩, st⟩ | ⟨q, vm₁, ⟨U', l2, c2, s2⟩, hW₁, X', ⟨g', mk, t, L, E, ce, e1, e2, hq, hce, hcv, hcl, h1, hL, h2, h3⟩, st⟩
  · dsimp only [Pt.U, Pt.locs, Pt.cells, Pt.slots] at X' e1 e2 h1 h2 h3 st
    subst h1; subst h2; subst h3
    exact Or.inl ⟨v, (T.setVm vm₁).calling g' mk (Value.ref b :: As).toArray, t, U', L, hT, X', hL, e1, e2, hq, st⟩
  · dsimp only [Pt.U, Pt.locs, Pt.cells, Pt.slots] at X' e1 e2 h1 h2 h3 st hcl
    subst h1; subst h2; subst h3
    exact Or.inr ⟨q, (T.setVm vm₁).calling g' mk (Value.ref b :: As).toArray, t, U', L, E, ce, hT, X', hL, e1, e2, hq, hce, hcv, vx_cls hW₁ hcl, st⟩
theorem vx_runSX {hh : List (Nat × Nat × Nat × Nat)} (S : CallFix p m c cc nL s args Ts own) (hM : vx_Met l y ws rm Pc Qc XC mc ms free) (cw : vx_CSW R s args own index y bytes maxL ret hh ws rm mc ms n) (hp : PreS s H Pc As)
    (hg : g.method = m) (hn : As.length = n) (hsize : g.locals.size = nL) (hstack : g.stack = As.reverse ++ rest) (hW : 2 * g.monitorRoom + (rest.map fun v => v.category).sum ≤ 8) (hdg : decode cc g.pc = .ok (.invokestatic index, 3)) (hf : cells + mc ≤ R.cells ∧ slots + ms ≤ R.slots) :
    vx_Run p l e R s m args below meth c H locs cells slots mc ms g rest (Qc As.toArray) XC free := by
  obtain ⟨⟨hrc, hrs, hfr, hlo, hws, hcw⟩, hcode, hini, hy, hlen, hl, hstt⟩ := cw
  have hK : vx_Back l R p e below s args y 3 8 (PreOf R mc ms Pc) (PostOf Qc mc ms free) (vx_Post XC mc ms free) := vx_backW (hh := hh) (bytes := bytes) (maxL := maxL) (ret := ret) hM hp.1 hrc hrs hfr hlo hws hcw (fun a' U hW => word_at hW (Or.inl (by first | rfl | simp [Cond.onTables, Cond.keeps, Cond.steady])) hini)
  obtain ⟨hx, hb, hml, ho, -⟩ := S
  intro T hT X
  rcases vx_callSX X hx (hh := hh) (bytes := bytes) (maxL := maxL) (ret := ret) ho hl hstt hini hcode hy hK hg (hsize.trans hml.symm) (argsL := As) (rest := rest) (fun sig h => hn.trans (hlen sig h)) hstack hW (by rw [hb]; exact hdg)
    (fun vm₁ hW₁ => ⟨hf.1, hf.2, hp.2 (T.setVm vm₁) hT hW₁⟩) with ⟨v, vm₁, ⟨U', l2, c2, s2⟩, hW₁, X', ⟨g', mk, t, L, e1, e2, hq, h1, hL, h2, h3⟩, st⟩ | ⟨q, vm₁, ⟨U', l2, c2, s2⟩, hW₁, X', ⟨g', mk, t, L, E, ce, e1, e2, hq, hce, hcv, hcl, h1, hL, h2, h3⟩, st⟩
  · dsimp only [Pt.U, Pt.locs, Pt.cells, Pt.slots] at X' e1 e2 h1 h2 h3 st
    subst h1; subst h2; subst h3
    exact Or.inl ⟨v, (T.setVm vm₁).calling g' mk As.toArray, t, U', L, hT, X', hL, e1, e2, hq, st⟩
  · dsimp only [Pt.U, Pt.locs, Pt.cells, Pt.slots] at X' e1 e2 h1 h2 h3 st hcl
    subst h1; subst h2; subst h3
    exact Or.inr ⟨q, (T.setVm vm₁).calling g' mk As.toArray, t, U', L, E, ce, hT, X', hL, e1, e2, hq, hce, hcv, vx_cls hW₁ hcl, st⟩
end
end VXH
theorem vx_ofWH {l : Launch} {y : MethodName} {ws ws' : List Cond} {rm : Room} {Pc : Array Value → State → Prop} {Qc : Array Value → State → Outcome → State → Prop} {XC : String → State → State → Prop} {mc ms : Nat} {free : Addr → Prop} {cc : ByteArray} {maxL : Nat} {ret : Option FieldType} {hh : List (Nat × Nat × Nat × Nat)}
    (hy : plainName y.cls = true) (hw : ws = Cond.codeWith y cc maxL ret hh :: ws')
    (body : ∀ p e s m args below meth c s₁, BodyLoose p l y (headSpec ws rm) cc maxL ret e s m args below meth c s₁ → c.maxLocals = maxL → Pc args s →
      W p l e (headSpec ws rm).room s m args below meth c s.heap [] 0 0 (vx_MQ below Qc XC args s mc ms free) (entryFrame m args maxL)) : vx_Met l y ws rm Pc Qc XC mc ms free := by
  refine MetFree.of_bodyS (code := cc) (maxLocals := maxL) (ret := ret) hy ?_ ?_
  · intro args s m h hn
    obtain ⟨m9, meth, c, hn9, h1, h2, h3, h4, -, h5, h6, -⟩ := Cond.codeWith_spec (atoms_spec (ws := ws) h _ (by rw [hw]; exact List.mem_cons_self))
    cases hn.symm.trans hn9
    exact ⟨meth, c, h1, h2, h3, h4, h5, h6⟩
  · intro p e s m args below meth c s₁ B hml hP _
    have hh0 : s₁.heap = s.heap := by rw [B.state]; rfl
    obtain ⟨t, a1, o, b1, b2, b3⟩ := body p e s m args below meth c s₁ B hml hP s₁ hh0 (Stand.of_body B)
    exact ⟨t, o, a1, b1, b2, b3⟩
/-! ===== END ===== -/
/-! ===== BEGIN what the machine throws by itself, no traces kept ===== -/
section VXM
set_option maxHeartbeats 1000000 in
/-- the machine throws cls with the message text, no traces kept: from its note over the frame g to 'throwing' over the same frame (follows the proofs of Stand.vmThrowsMessage, Shelf/KitTracedVmS.lean, and Stand.throwsMessageColdBareV, StandMessageColdV.lean, without the step out of the frame) -/
theorem vx_vmAt {p : Program} {l : Launch} {e : Env} {R : Room} {s : State} {m₀ : MethodId} {args : Array Value} {below : List Frame} {meth : Method} {c : Code} {W : State} {locs : List Loc} {cells slots : Nat}
    (X : Stand p l e R s m₀ args below meth c W locs cells slots) (hexec : p.tables.exec = Jvm.exec) (htr : e.platform.stackTraces = false) {cls : String} {names : List String} {text : String}
    (hcls : Bundle.fit cls = true) (hnames : ∀ n ∈ names, Bundle.fit n = true) (hsoe : (cls == "java/lang/StackOverflowError") = false) (hoom : (cls == "java/lang/OutOfMemoryError") = false)
    (h : ∀ a ∈ Bundle.messageArmAtoms cls names, a.before args s = true)
    (hlocs : ∀ x ∈ locs, ∀ cell, s.heap[x.base]? = some cell → cell.vm.isStatics = false)
    (htext : (text == notModelled) = false) (hlimit : ¬ (stringBytes (stringToUtf16 text)).size > e.platform.arrayLengthLimit) (hheap : ¬ (stringBytes (stringToUtf16 text)).size * componentBytes .byte > e.platform.maxHeapBytes)
    {g : JFrame} (hg : g.method = m₀) (hsize : g.locals.size = c.maxLocals)
    (hRframes : names.length + 4 < R.frames) (hRlocals : 2 * g.monitorRoom + (g.stack.map fun v => v.category).sum + 10240 ≤ R.locals) (hshort : 13 * names.length + 55 ≤ 10240)
    (hRcells : cells + 3 ≤ R.cells) (hRslots : slots + ((stringBytes (stringToUtf16 text)).size + 4 + 6) ≤ R.slots) (hlocks : meth.locks = false) :
    ∃ (S : State) (q : Addr) (ce : Cell), (∀ target, Steps p.tables e below ((S.setTop g).pushFrame (.throwing q)) target → Steps p.tables e below ((W.setTop g).pushFrame (.throwNew cls (some text) none)) target) ∧
      Stand p l e R s m₀ args below meth c S locs (cells + 3) (slots + ((stringBytes (stringToUtf16 text)).size + 4 + 6)) ∧ S.heap[q]? = some ce ∧ s.vm.findClass cls = some ce.cls ∧ ce.vm = .none := by
  have howns : e.platform.frameOwnsMonitors = true := by rw [X.admits.platform]
  have hfin : e.platform.finalization = false := by rw [X.admits.platform]
  have hpl : e.platform.magicAccessors = ({} : Platform).magicAccessors := by rw [X.admits.platform]
  have a : ∀ x, x ∈ Bundle.messageArmAtoms cls names → x.holds args s none s [] = true := fun x hx => h x hx
  obtain ⟨T, Z0, L, -, Y⟩ := ThrowableC.of_atoms (args := args) howns hfin hpl (fun x hx => h x (by simp [Bundle.messageArmAtoms, hx]))
  obtain ⟨Z, M, LZ, LM, hnZ⟩ := Init0T.ofS_atoms (args := args) hpl L Y (fun x hx => h x (by simp [Bundle.messageArmAtoms, hx]))
  obtain ⟨P1, Ps, hlen, L1, hL, hP1m, hlink1, hlink⟩ := Bundle.chainS (args := args) hpl hnZ names cls hcls hnames (fun x hx => h x (by simp [Bundle.messageArmAtoms, hx]))
  obtain ⟨Zs, LZs, hn4, hfitv, hfitc⟩ := StringT.of_atoms (args := args) (fun x hx => h x (by simp [Bundle.messageArmAtoms, hx]))
  have hfound : s.vm.findClass cls = some P1.m.cls := findClass_of_methodNamed hP1m
  obtain ⟨c1, kX, hc1, hk, hord, -, -, hn6⟩ := Cond.instantiable_spec (a (.instantiable cls 6) (by simp [Bundle.messageArmAtoms]))
  cases Option.some.inj (hc1.symm.trans hfound)
  have hinit := Cond.initialized_spec hfound hk (a (.initialized cls) (by simp [Bundle.messageArmAtoms]))
  have hctor : kX.findMethod "<init>" "(Ljava/lang/String;)V" = some P1.m.idx := findMethod_of_methodNamed hP1m hk
  have hsel0 : selectMethod e.platform s.vm P1.m.cls T.fill0 = .method T.fill0 := by
    obtain ⟨c2, r2, m2, q1, q2, q3, q4, -⟩ := Cond.selects_spec (a (.selects cls Bundle.tFill0 Bundle.tFill0) (by simp [Bundle.messageArmAtoms]))
    cases Option.some.inj (q1.symm.trans hfound)
    cases Option.some.inj (q2.symm.trans (State.methodFound?_of_named Y.fill0 (by decide)))
    cases Option.some.inj (q3.symm.trans Y.fill0)
    rw [Launch.admits_selectMethod X.admits]; exact q4
  have hselF : selectMethod e.platform s.vm P1.m.cls T.fill = .method T.fill := by
    obtain ⟨c2, r2, m2, q1, q2, q3, q4, -⟩ := Cond.selects_spec (a (.selects cls Bundle.tFill Bundle.tFill) (by simp [Bundle.messageArmAtoms]))
    cases Option.some.inj (q1.symm.trans hfound)
    cases Option.some.inj (q2.symm.trans (State.methodFound?_of_named Y.fill (by decide)))
    cases Option.some.inj (q3.symm.trans Y.fill)
    rw [Launch.admits_selectMethod X.admits]; exact q4
  obtain ⟨cellS0, hcS0, hiss⟩ := Y.statics
  obtain ⟨u0, hu0⟩ := Cond.staticRefV Y.unassigned L.unassignedStatic L.statics hcS0 hiss (a (.isRef (.static Bundle.tN "UNASSIGNED_STACK" Bundle.steD)) (by simp [Bundle.messageArmAtoms]))
  obtain ⟨sen, hsen⟩ := Cond.staticRefV Y.sentinel L.sentinelStatic L.statics hcS0 hiss (a (.isRef (.static Bundle.tN "SUPPRESSED_SENTINEL" Bundle.listD)) (by simp [Bundle.messageArmAtoms]))
  obtain ⟨ci198, i198, fB, hk198, hg198, ha198, hsB, -, hnB, htB, hffB⟩ := Cond.ownField (t := .object "java/lang/Object") Y.found L.cls (by decide +kernel) (a (.fieldLink Bundle.tN 198 Bundle.tN "backtrace" "Ljava/lang/Object;") (by simp [Bundle.messageArmAtoms])) (a (.lays Bundle.tN Bundle.tN "backtrace" "Ljava/lang/Object;") (by simp [Bundle.messageArmAtoms])) e.platform hpl
  obtain ⟨cellS, hcS', heS, -, hkeep⟩ := X.same.2.2.2.2.2 T.aS cellS0 hcS0
  have hcellS : W.heap[T.aS]? = some cellS := hcS'
  have hout' : ∀ i, (⟨T.aS, i⟩ : Loc) ∉ locs := fun i hmem => by
    have := hlocs _ hmem cellS0 hcS0
    rw [hiss] at this; cases this
  have hknownS : cellS.vm ≠ .unknown := by
    rw [heS]; intro hu
    rw [show cellS0.vm = .unknown from hu] at hiss
    cases hiss
  have hvU : cellS.slots[T.fUnassigned.slot]? = some u0.v := by rw [hkeep _ (hout' _)]; exact hu0
  have hvSen : cellS.slots[T.fSentinel.slot]? = some sen.v := by rw [hkeep _ (hout' _)]; exact hsen
  obtain ⟨iM, hffM⟩ := Y.msg
  obtain ⟨tyC, dC, hdC, hdnC⟩ := Cond.laysAt hfound hk Y.cause (a (.lays cls Bundle.tN "cause" "Ljava/lang/Throwable;") (by simp [Bundle.messageArmAtoms]))
  obtain ⟨tyS, dS, hdS, hdnS⟩ := Cond.laysAt hfound hk Y.stack (a (.lays cls Bundle.tN "stackTrace" Bundle.steD) (by simp [Bundle.messageArmAtoms]))
  obtain ⟨tyP, dP, hdP, hdnP⟩ := Cond.laysAt hfound hk Y.supp (a (.lays cls Bundle.tN "suppressedExceptions" Bundle.listD) (by simp [Bundle.messageArmAtoms]))
  obtain ⟨tyM, dM, hdM, hdnM⟩ := Cond.laysAt hfound hk hffM (a (.lays cls Bundle.tN "detailMessage" "Ljava/lang/String;") (by simp [Bundle.messageArmAtoms]))
  obtain ⟨tyB, dB, hdB, hdnB⟩ := Cond.laysAt hfound hk hffB (a (.lays cls Bundle.tN "backtrace" "Ljava/lang/Object;") (by simp [Bundle.messageArmAtoms]))
  have bC := Cond.laysApart hdB hdC hdnB hdnC (by rw [hnB, Y.causeName]; decide)
  have bS := Cond.laysApart hdB hdS hdnB hdnS (by rw [hnB, Y.stackName]; decide)
  have bP := Cond.laysApart hdB hdP hdnB hdnP (by rw [hnB, Y.suppName]; decide)
  have hbk : ((preparedCellV T.toThrowableT (freshCell P1.m.cls kX) (W.heap.size + 2) u0 sen).withEntry W.cur).slots[fB.slot]? = some .null := by
    have := fresh_default (c := P1.m.cls) tyB
    rw [htB] at this
    simpa [preparedCellV, Cell.setSlot, Cell.withEntry, Array.getElem?_setIfInBounds, bC, bS, bP, bC.symm, bS.symm, bP.symm, defaultValue] using this
  have tkC := Takes.of_laid (v := .ref (W.heap.size + 2)) hk hord tyC (by rw [Y.causeType]; rfl)
  have tkS := Takes.of_laid (v := u0.v) hk hord tyS (by rw [Y.stackType]; exact fits_refV_array _ u0)
  have tkP := Takes.of_laid (v := sen.v) hk hord tyP (by rw [Y.suppType]; exact fits_refV_object _ sen)
  have tkM := Takes.of_laid (v := .ref (W.heap.size + 1)) hk hord tyM (by rw [Y.msgType]; rfl)
  have hskip : SkipFacts T e.platform s (fun u => u) u0 ((preparedCellV T.toThrowableT (freshCell P1.m.cls kX) (W.heap.size + 2) u0 sen).withEntry W.cur) := ⟨{ ci198 := ci198, i198 := i198, fBack := fB }, ⟨hk198, hg198, ha198, hsB⟩, hbk, fun _ _ => rfl⟩
  have h0 : At W g.method c below := by rw [hg]; exact X.here
  obtain ⟨hbeyond, hfreeW⟩ := X.vmMayThrow hsize (.throwNew cls (some text) none) (fun f hf => by cases hf) rfl hRlocals
  have hfr' : W.frames.length + Ps.length + 4 < (e.platform.stackLimits W.me).1 := by have := X.framesAbove hRframes; omega
  have hwd' : (stackUse (.java g :: W.frames.tail)).2 + 13 * Ps.length + 55 ≤ (e.platform.stackLimits W.me).2 := by have := X.stackAbove hsize (K := 13 * Ps.length + 55) (by omega); omega
  have hslots : W.slotsUsed + (stringBytes (stringToUtf16 text)).size + Zs.kS.instanceTypes.size + kX.instanceTypes.size ≤ e.platform.maxSlots := by
    have := X.slotsAbove hRslots
    rw [hn4, hn6]
    omega
  obtain ⟨vm', hW', st⟩ := Steps.vmThrowsMessageColdByV p (s₀ := s) (S := W) (g := g) h0 hexec T L Z LZ M LM X.warmed (t := W.cur) rfl Zs LZs P1 L1 Ps hL hlink1 hlink hsoe hoom hfound hk hinit hord hctor
    (Launch.admits_hotImplicitExceptions X.admits) hbeyond hfreeW htext hlimit hheap (X.cellsAbove hRcells) hslots (hfitv _) (hfitc _)
    (Nn := fun u => u) heapOnly_id (fun _ _ => rfl) (fun _ => rfl) (fun u x y => setCell_twice _ _ _ _) (fun _ => Nat.le_refl _) (cN := ((preparedCellV T.toThrowableT (freshCell P1.m.cls kX) (W.heap.size + 2) u0 sen).withEntry W.cur))
    hsel0 hcellS hknownS hvU tkS (fun _ hu => hu) (fun _ hu => hu) rfl rfl rfl (by simp [preparedCellV, Cell.setSlot, Cell.withEntry]) hskip (fun _ _ hA hW _ hroom _ hrest => L.nativeOff p htr hA hW hroom hrest) hselF hvSen tkC tkP tkM Y.objLocals rfl hfr' hwd'
  rw [plainBareV_eq T.toThrowableT (W.heap.size + 2) u0 sen (.ref (W.heap.size + 1)) W.cur rfl rfl] at st
  obtain ⟨-, -, w3, w4, -, -, -⟩ := withThrown_facts e.platform W Zs text P1.m.cls kX
  have X3 := ((X.pushed (bytesOf Zs.cB (stringToUtf16 text))).pushed (stringAt Zs.cS Zs.kS Zs.fv Zs.fc (stringToUtf16 text) W.heap.size)).pushed (freshCell P1.m.cls kX)
  rw [← withString_eq] at X3
  have X4 := X3.noted hW'
  have ha : (W.heap.size + 2) < ((withThrown W Zs text P1.m.cls kX).setVm vm').heap.size := by show _ < (withThrown W Zs text P1.m.cls kX).heap.size; rw [w3]; omega
  have hcell : ((withThrown W Zs text P1.m.cls kX).setVm vm').heap[(W.heap.size + 2)]? = some (freshCell P1.m.cls kX) := w4
  have X5 := ((((X4.stored hcell T.fCause.slot (.ref (W.heap.size + 2))).storedAgain ha T.fStack.slot u0.v).storedAgain ha T.fSupp.slot sen.v).storedAgain ha T.fStack.slot u0.v).storedAgain ha T.fMsg.slot (.ref (W.heap.size + 1))
  obtain ⟨g₁, hfrM⟩ := X5.frames_eq
  have hU : ((((withThrown W Zs text P1.m.cls kX).setVm vm').setCell (W.heap.size + 2) (plainBareV T.toThrowableT (freshCell P1.m.cls kX) (W.heap.size + 2) u0 sen (.ref (W.heap.size + 1)))).setTop g).pushFrame (.throwing (W.heap.size + 2)) = (((withThrown W Zs text P1.m.cls kX).setVm vm').setCell (W.heap.size + 2) (plainBareV T.toThrowableT (freshCell P1.m.cls kX) (W.heap.size + 2) u0 sen (.ref (W.heap.size + 1)))).setFrames (.throwing (W.heap.size + 2) :: .java g :: below) := by
    rw [State.pushFrame, State.frames_setTop _ hfrM, State.setTop_of_frames _ hfrM, State.setFrames_setFrames]
  have b1 : (bytesOf Zs.cB (stringToUtf16 text)).slots.size = (stringBytes (stringToUtf16 text)).size := by
    rw [(Cell.writeAll_facts _ _).2.2]; simp [bytes0]
  have b2 : (stringAt Zs.cS Zs.kS Zs.fv Zs.fc (stringToUtf16 text) W.heap.size).slots.size = 4 := by simp [string0, Cell.setSlot, hn4]
  have b3 : (freshCell P1.m.cls kX).slots.size = 6 := by simp [hn6]
  rw [b1, b2, b3] at X5
  have e9 : slots + (stringBytes (stringToUtf16 text)).size + 4 + 6 = slots + ((stringBytes (stringToUtf16 text)).size + 4 + 6) := by omega
  rw [e9] at X5
  simp only [List.append_assoc, List.cons_append, List.nil_append] at X5
  refine ⟨((withThrown W Zs text P1.m.cls kX).setVm vm').setCell (W.heap.size + 2) (plainBareV T.toThrowableT (freshCell P1.m.cls kX) (W.heap.size + 2) u0 sen (.ref (W.heap.size + 1))), W.heap.size + 2, _, fun target ht => st _ (by rw [X.tail, ← hU]; exact ht),
    X5.forget (fun y hy => ?_), heapAt_setCell_self _ ha, hfound, rfl⟩
  simp only [List.mem_cons, List.not_mem_nil, or_false] at hy
  have hge : s.heap.size ≤ W.heap.size := X.same.2.1
  rcases hy with rfl | rfl | rfl | rfl | rfl <;> exact Nat.le_trans hge (Nat.le_add_right _ 2)
set_option maxHeartbeats 1000000 in
/-- the machine throws NullPointerException, no traces kept: from its note over the frame g to 'throwing' over the same frame (follows the proof of Stand.vmThrowsNpe, Shelf42/KT2.lean; throwsNpeColdBareVAt, Shelf42/NT91.lean, called) -/
theorem vx_npeAt {p : Program} {l : Launch} {e : Env} {R : Room} {s : State} {m₀ : MethodId} {args : Array Value} {below : List Frame} {meth : Method} {c : Code} {W : State} {locs : List Loc} {cells slots : Nat}
    (X : Stand p l e R s m₀ args below meth c W locs cells slots) (hexec : p.tables.exec = Jvm.exec) (htr : e.platform.stackTraces = false) {n : Nat}
    (h : ∀ a ∈ Bundle.npeArmAtoms n, a.before args s = true)
    (hlocs : ∀ x ∈ locs, ∀ cell, s.heap[x.base]? = some cell → cell.vm.isStatics = false)
    {g : JFrame} (hg : g.method = m₀) (hsize : g.locals.size = c.maxLocals)
    (hRframes : 7 < R.frames) (hRlocals : 2 * g.monitorRoom + (g.stack.map fun v => v.category).sum + 10240 ≤ R.locals)
    (hRcells : cells + 1 ≤ R.cells) (hRslots : slots + n ≤ R.slots) (hlocks : meth.locks = false) :
    ∃ (S : State) (q : Addr) (ce : Cell), (∀ target, Steps p.tables e below ((S.setTop g).pushFrame (.throwing q)) target → Steps p.tables e below ((W.setTop g).pushFrame (.throwNew "java/lang/NullPointerException" none none)) target) ∧
      Stand p l e R s m₀ args below meth c S locs (cells + 1) (slots + n) ∧ S.heap[q]? = some ce ∧ s.vm.findClass "java/lang/NullPointerException" = some ce.cls ∧ ce.vm = .none := by
  have howns : e.platform.frameOwnsMonitors = true := by rw [X.admits.platform]
  have hfin : e.platform.finalization = false := by rw [X.admits.platform]
  have hpl : e.platform.magicAccessors = ({} : Platform).magicAccessors := by rw [X.admits.platform]
  have hpl2 : e.platform.arrayCloneIsPublic = true := by rw [X.admits.platform]
  have a' : ∀ x, x ∈ Bundle.npeArmAtoms n → x.holds args s none s [] = true := fun x hx => h x hx
  obtain ⟨T, Z, L, LZ, Y⟩ := ThrowableC.of_atoms (args := args) howns hfin hpl (fun x hx => h x (by simp [Bundle.npeArmAtoms, hx]))
  obtain ⟨N, LN, hcN, hnNF, hordN, hffS⟩ := NpeC.of_atoms (args := args) hpl hpl2 L Y (fun x hx => h x (by simp [Bundle.npeArmAtoms, hx]))
  obtain ⟨P1, L1, hP1m, hP1s⟩ := PassC.of_atoms (args := args) (s := s) hpl (X := Bundle.nN) (Y := Bundle.rN) (by decide) (by decide) LibCode.NullPointerException.Init0.at_0 LibCode.NullPointerException.Init0.at_1 LibCode.NullPointerException.Init0.at_4 (fun x hx => h x (by simp [Bundle.npeArmAtoms, hx]))
  obtain ⟨PR, LR, hPRm, hPRs⟩ := PassC.of_atoms (args := args) (s := s) hpl (X := Bundle.rN) (Y := Bundle.eN) (by decide) (by decide) LibCode.RuntimeException.Init0.at_0 LibCode.RuntimeException.Init0.at_1 LibCode.RuntimeException.Init0.at_4 (fun x hx => h x (by simp [Bundle.npeArmAtoms, hx]))
  obtain ⟨PE, LEx, hPEm, hPEs⟩ := PassC.of_atoms (args := args) (s := s) hpl (X := Bundle.eN) (Y := Bundle.tN) (by decide) (by decide) LibCode.Exception.Init0.at_0 LibCode.Exception.Init0.at_1 LibCode.Exception.Init0.at_4 (fun x hx => h x (by simp [Bundle.npeArmAtoms, hx]))
  have hfound : s.vm.findClass Bundle.nN = some P1.m.cls := findClass_of_methodNamed hP1m
  have ecls : N.cN = P1.m.cls := Option.some.inj (hcN.symm.trans hfound)
  have hk : s.vm.classes[P1.m.cls]? = some N.kN := by rw [← ecls]; exact LN.cls
  have hinit := Cond.initialized_spec hfound hk (a' (.initialized Bundle.nN) (by simp [Bundle.npeArmAtoms]))
  have hctor : N.kN.findMethod "<init>" "()V" = some P1.m.idx := findMethod_of_methodNamed hP1m hk
  obtain ⟨c1, k1, hc1, hk1, -, -, -, hn⟩ := Cond.instantiable_spec (a' (.instantiable Bundle.nN n) (by simp [Bundle.npeArmAtoms]))
  cases Option.some.inj (hc1.symm.trans hfound)
  cases Option.some.inj (hk1.symm.trans hk)
  have hfsz : (freshCell P1.m.cls N.kN).slots.size = n := by simp [hn]
  have hlink1 : P1.sup = PR.m := Option.some.inj (hP1s.symm.trans hPRm)
  have hlinkR : PR.sup = PE.m := Option.some.inj (hPRs.symm.trans hPEm)
  have hlinkE : PE.sup = Z.m T.toThrowableT := Option.some.inj (hPEs.symm.trans Y.init0)
  have hLs : ∀ P, P ∈ [PR, PE] → P.Links0 e.platform s := fun P hP => by
    simp only [List.mem_cons, List.not_mem_nil, or_false] at hP
    rcases hP with rfl | rfl
    · exact LR
    · exact LEx
  have hsel0 : selectMethod e.platform s.vm P1.m.cls T.fill0 = .method T.fill0 := by
    obtain ⟨c2, r2, m2, q1, q2, q3, q4, -⟩ := Cond.selects_spec (a' (.selects Bundle.nN Bundle.tFill0 Bundle.tFill0) (by simp [Bundle.npeArmAtoms]))
    cases Option.some.inj (q1.symm.trans hfound)
    cases Option.some.inj (q2.symm.trans (State.methodFound?_of_named Y.fill0 (by decide)))
    cases Option.some.inj (q3.symm.trans Y.fill0)
    rw [Launch.admits_selectMethod X.admits]; exact q4
  have hselF : selectMethod e.platform s.vm P1.m.cls T.fill = .method N.fill := by
    obtain ⟨c2, r2, m2, q1, q2, q3, q4, -⟩ := Cond.selects_spec (a' (.selects Bundle.nN Bundle.tFill Bundle.nFill) (by simp [Bundle.npeArmAtoms]))
    cases Option.some.inj (q1.symm.trans hfound)
    cases Option.some.inj (q2.symm.trans (State.methodFound?_of_named Y.fill (by decide)))
    cases Option.some.inj (q3.symm.trans hnNF)
    rw [Launch.admits_selectMethod X.admits]; exact q4
  obtain ⟨cellS0, hcS0, hiss⟩ := Y.statics
  obtain ⟨u0, hu0⟩ := Cond.staticRefV Y.unassigned L.unassignedStatic L.statics hcS0 hiss (a' (.isRef (.static Bundle.tN "UNASSIGNED_STACK" Bundle.steD)) (by simp [Bundle.npeArmAtoms]))
  obtain ⟨sen, hsen⟩ := Cond.staticRefV Y.sentinel L.sentinelStatic L.statics hcS0 hiss (a' (.isRef (.static Bundle.tN "SUPPRESSED_SENTINEL" Bundle.listD)) (by simp [Bundle.npeArmAtoms]))
  obtain ⟨ci198, i198, fB, hk198, hg198, ha198, hsB, -, hnB, htB, hffB⟩ := Cond.ownField (t := .object "java/lang/Object") Y.found L.cls (by decide +kernel) (a' (.fieldLink Bundle.tN 198 Bundle.tN "backtrace" Bundle.objD) (by simp [Bundle.npeArmAtoms])) (a' (.lays Bundle.tN Bundle.tN "backtrace" Bundle.objD) (by simp [Bundle.npeArmAtoms])) e.platform hpl
  obtain ⟨cellS, hcS', heS, -, hkeep⟩ := X.same.2.2.2.2.2 T.aS cellS0 hcS0
  have hcellS : W.heap[T.aS]? = some cellS := hcS'
  have hout' : ∀ i, (⟨T.aS, i⟩ : Loc) ∉ locs := fun i hmem => by
    have := hlocs _ hmem cellS0 hcS0
    rw [hiss] at this; cases this
  have hknownS : cellS.vm ≠ .unknown := by
    rw [heS]; intro hu
    rw [show cellS0.vm = .unknown from hu] at hiss
    cases hiss
  have hvU : cellS.slots[T.fUnassigned.slot]? = some u0.v := by rw [hkeep _ (hout' _)]; exact hu0
  have hvSen : cellS.slots[T.fSentinel.slot]? = some sen.v := by rw [hkeep _ (hout' _)]; exact hsen
  obtain ⟨tyC, dC, hdC, hdnC⟩ := Cond.laysAt hfound hk Y.cause (a' (.lays Bundle.nN Bundle.tN "cause" "Ljava/lang/Throwable;") (by simp [Bundle.npeArmAtoms]))
  obtain ⟨tyS, dS, hdS, hdnS⟩ := Cond.laysAt hfound hk Y.stack (a' (.lays Bundle.nN Bundle.tN "stackTrace" Bundle.steD) (by simp [Bundle.npeArmAtoms]))
  obtain ⟨tyP, dP, hdP, hdnP⟩ := Cond.laysAt hfound hk Y.supp (a' (.lays Bundle.nN Bundle.tN "suppressedExceptions" Bundle.listD) (by simp [Bundle.npeArmAtoms]))
  obtain ⟨tyX, dX, hdX, hdnX⟩ := Cond.laysAt hfound hk hffS (a' (.lays Bundle.nN Bundle.nN "extendedMessageState" "I") (by simp [Bundle.npeArmAtoms, Bundle.npeAtoms]))
  obtain ⟨hnX, htX⟩ := State.fieldFound?_type hffS (t := .int) (by decide +kernel)
  have xC := Cond.laysApart hdC hdX hdnC hdnX (by rw [hnX, Y.causeName]; decide)
  have xS := Cond.laysApart hdS hdX hdnS hdnX (by rw [hnX, Y.stackName]; decide)
  have xP := Cond.laysApart hdP hdX hdnP hdnX (by rw [hnX, Y.suppName]; decide)
  have hv0 : (freshCell P1.m.cls N.kN).slots[N.fState.slot]? = some (.int 0) := by
    have := fresh_default (c := P1.m.cls) tyX
    rw [htX] at this; exact this
  obtain ⟨tyB, dB, hdB, hdnB⟩ := Cond.laysAt hfound hk hffB (a' (.lays Bundle.nN Bundle.tN "backtrace" Bundle.objD) (by simp [Bundle.npeArmAtoms]))
  have bC := Cond.laysApart hdB hdC hdnB hdnC (by rw [hnB, Y.causeName]; decide)
  have bS := Cond.laysApart hdB hdS hdnB hdnS (by rw [hnB, Y.stackName]; decide)
  have bP := Cond.laysApart hdB hdP hdnB hdnP (by rw [hnB, Y.suppName]; decide)
  have bX := Cond.laysApart hdB hdX hdnB hdnX (by rw [hnB, hnX]; decide)
  have hbk : ((npeCell N.toNpeT (preparedCellV T.toThrowableT (freshCell P1.m.cls N.kN) W.heap.size u0 sen) W.cur).withEntry W.cur).slots[fB.slot]? = some .null := by
    have := fresh_default (c := P1.m.cls) tyB
    rw [htB] at this
    simpa [npeCell, preparedCellV, Cell.setSlot, Cell.withEntry, Array.getElem?_setIfInBounds, bC, bS, bP, bX, bC.symm, bS.symm, bP.symm, bX.symm, defaultValue] using this
  have tkC := Takes.of_laid (v := .ref W.heap.size) hk hordN tyC (by rw [Y.causeType]; rfl)
  have tkS := Takes.of_laid (v := u0.v) hk hordN tyS (by rw [Y.stackType]; exact fits_refV_array _ u0)
  have tkP := Takes.of_laid (v := sen.v) hk hordN tyP (by rw [Y.suppType]; exact fits_refV_object _ sen)
  have tkX := Takes.of_laid (v := .int 1) hk hordN tyX (by rw [htX]; rfl)
  have hskip : SkipFacts T e.platform s (fun u => u) u0 ((npeCell N.toNpeT (preparedCellV T.toThrowableT (freshCell P1.m.cls N.kN) W.heap.size u0 sen) W.cur).withEntry W.cur) := ⟨{ ci198 := ci198, i198 := i198, fBack := fB }, ⟨hk198, hg198, ha198, hsB⟩, hbk, fun _ _ => rfl⟩
  obtain ⟨vm', X3, st, -⟩ := X.throwsNpeColdBareVAt hexec hg hsize T L Z LZ N LN P1 L1 [PR, PE] hLs hlink1 ⟨hlinkR, hlinkE, trivial⟩ hfound hk hinit hordN hctor hsel0 hselF hcellS hknownS hvU hvSen
    hv0 xC xS xP tkC tkS tkP tkX Y.objLocals hskip (fun _ _ hA hW _ hroom _ hrest => L.nativeOff p htr hA hW hroom hrest) (by simpa using hRframes) hRlocals (by simp) hRcells (by rw [hn]; exact hRslots)
  have hlt : W.heap.size < ((W.pushCell (freshCell P1.m.cls N.kN)).setVm vm').heap.size := by
    show W.heap.size < (W.pushCell (freshCell P1.m.cls N.kN)).heap.size
    rw [State.heap_size_pushCell]; omega
  rw [hfsz] at X3
  obtain ⟨g₁, hfrM⟩ := X3.frames_eq
  have hU : ((((W.pushCell (freshCell P1.m.cls N.kN)).setVm vm').setCell W.heap.size (npeBareV T.toThrowableT N.toNpeT (freshCell P1.m.cls N.kN) W.heap.size u0 sen)).setTop g).pushFrame (.throwing W.heap.size) = (((W.pushCell (freshCell P1.m.cls N.kN)).setVm vm').setCell W.heap.size (npeBareV T.toThrowableT N.toNpeT (freshCell P1.m.cls N.kN) W.heap.size u0 sen)).setFrames (.throwing W.heap.size :: .java g :: below) := by
    rw [State.pushFrame, State.frames_setTop _ hfrM, State.setTop_of_frames _ hfrM, State.setFrames_setFrames]
  refine ⟨_, W.heap.size, _, fun target ht => st.trans (by rw [← hU]; exact ht), X3.forget (fun y hy => ?_), heapAt_setCell_self _ hlt, hfound, rfl⟩
  simp only [List.mem_cons, List.not_mem_nil, or_false] at hy
  have hge : s.heap.size ≤ W.heap.size := X.same.2.1
  rcases hy with rfl | rfl | rfl | rfl | rfl <;> exact hge
/-- the words of a machine's NullPointerException, but the four that speak of the heap -/
def vx_atN (n : Nat) : List Cond := (Bundle.npeArmAtoms n).filter vx_no
/-- the words of a machine's throw with a message, but the four that speak of the heap -/
def vx_atM (X : String) (names : List String) : List Cond := (Bundle.messageArmAtoms X names).filter vx_no
section
variable {p : Program} {l : Launch} {e : Env} {R : Room} {s : State} {m : MethodId} {args : Array Value} {below : List Frame} {meth : Method} {c : Code} {H : Heap} {locs : List Loc} {cells slots : Nat}
/-- a frame seen from a rebased start, seen from the first start again -/
theorem vx_back9 {T S : State} {R' : Room} {k n : Nat} (X : Stand p l e R s m args below meth c T locs cells slots) (Y : Stand p l e R' ((T.setVm s.vm).setFrames (.invoking m args :: below)) m args below meth c T [] 0 0) (Z : Stand p l e R' ((T.setVm s.vm).setFrames (.invoking m args :: below)) m args below meth c S [] k n) :
    Stand p l e R s m args below meth c S locs (cells + k) (slots + n) := by
  have hW0 : s.WarmedH ((T.setVm s.vm).setFrames (.invoking m args :: below)).vm := State.WarmedH.refl s
  refine { admits := X.admits, cas := X.cas, clock := X.clock, frames := X.frames, room := X.room, hears := X.hears, method := X.method, code := X.code, here := Z.here, tail := Z.tail, warmed := State.WarmedH.trans hW0 Z.warmed, limits := Z.limits.trans (Y.limits.symm.trans X.limits), bytes := Z.bytes.trans (Y.bytes.symm.trans X.bytes), same := ?_ }
  obtain ⟨e1, e2⟩ := Z.same
  rw [State.setFrames_setFrames] at e1
  have h2 : (T.setVm s.vm).sameButNew (S.setVm s.vm) [] k n := ⟨e1, e2⟩
  have h3 := X.same.trans h2
  rw [List.append_nil] at h3
  exact h3
/-- from the machine's note that E is thrown here with this text -/
def vx_Note (p : Program) (l : Launch) (e : Env) (R : Room) (s : State) (m : MethodId) (args : Array Value) (below : List Frame) (meth : Method) (c : Code) (H : Heap) (locs : List Loc) (cells slots : Nat) (Q : State → Prop) (g : JFrame) (E text : String) : Prop :=
  ∀ T : State, T.heap = H → Stand p l e R s m args below meth c T locs cells slots → ∃ t, Steps p.tables e below ((T.setTop g).pushFrame (.throwNew E (some text) none)) t ∧ Q t
theorem vx_vm {pc : Nat} {ls : Array Slot} {rest : List Value} {Q : State → Prop} (hexec : p.tables.exec = Jvm.exec) (hl : l.stackTraces = false) {cls text : String} {names : List String} {nb : Nat} {A : Nat → Prop}
    (hcls : Bundle.fit cls = true) (hnames : ∀ n ∈ names, Bundle.fit n = true) (hsoe : (cls == "java/lang/StackOverflowError") = false) (hoom : (cls == "java/lang/OutOfMemoryError") = false)
    (hat : ∀ w ∈ vx_atM cls names, w.before args s = true) (hgood : ∀ w ∈ vx_atM cls names, vx_ot w = true)
    (hU : vx_Zq Bundle.tN "UNASSIGNED_STACK" Bundle.steD A s s.heap) (hN : vx_Zq Bundle.tN "SUPPRESSED_SENTINEL" Bundle.listD A s s.heap) (hS : va_S A s.heap H locs) (hsize : ls.size = c.maxLocals)
    (htext : (text == notModelled) = false) (hnb : (stringBytes (stringToUtf16 text)).size ≤ nb) (hnb1 : nb ≤ 1000)
    (hRframes : names.length + 4 < R.frames) (hRlocals : (rest.map fun v => v.category).sum + 10240 ≤ R.locals) (hshort : 13 * names.length + 55 ≤ 10240) (hRcells : cells + 3 ≤ R.cells) (hRslots : slots + (nb + 10) ≤ R.slots) (hlocks : meth.locks = false)
    (k : ∀ (H1 : Heap) (q9 : Addr) (ce : Cell), H.size ≤ H1.size → (∀ q : Nat, q < H.size → H1[q]? = H[q]?) → va_S A s.heap H1 locs → H1[q9]? = some ce → ce.vm = .none → s.vm.findClass cls = some ce.cls → vx_W p l e R s m args below meth c H1 locs (cells + 3) (slots + (nb + 10)) Q (F0 m pc ls rest) q9) :
    vx_Note p l e R s m args below meth c H locs cells slots Q (F0 m pc ls rest) cls text := by
  intro T hT X
  have htr : e.platform.stackTraces = false := (show e.platform.stackTraces = l.stackTraces by rw [X.admits.platform]).trans hl
  have Y := vx_rebase X (R' := { frames := R.frames, locals := R.locals, cells := 3, slots := nb + 10 }) (Nat.le_refl _) (Nat.le_refl _) hRcells hRslots
  have hhp : ((T.setVm s.vm).setFrames (.invoking m args :: below)).heap = H := hT
  have hW0 : s.WarmedH ((T.setVm s.vm).setFrames (.invoking m args :: below)).vm := State.WarmedH.refl s
  have hat' : ∀ w ∈ vx_atM cls names, w.before args ((T.setVm s.vm).setFrames (.invoking m args :: below)) = true := fun w hw => vx_ot_at hW0 rfl (hgood w hw) (hat w hw)
  have hU' : vx_Zq Bundle.tN "UNASSIGNED_STACK" Bundle.steD A ((T.setVm s.vm).setFrames (.invoking m args :: below)) ((T.setVm s.vm).setFrames (.invoking m args :: below)).heap := by rw [hhp]; exact vx_Zq.moved hW0.alike (hU.kept hS.2.1)
  have hN' : vx_Zq Bundle.tN "SUPPRESSED_SENTINEL" Bundle.listD A ((T.setVm s.vm).setFrames (.invoking m args :: below)) ((T.setVm s.vm).setFrames (.invoking m args :: below)).heap := by rw [hhp]; exact vx_Zq.moved hW0.alike (hN.kept hS.2.1)
  obtain ⟨S, q, ce, st, Z, hce, hcl', hv⟩ := vx_vmAt Y hexec htr (cls := cls) (names := names) (text := text) hcls hnames hsoe hoom (vx_own hat' (vx_isRefq hU'.1) (vx_isRefq hN'.1) hU'.2.word hN'.2.word) (fun x hx => nomatch hx) htext
    (by rw [Launch.admits_arrayLengthLimit X.admits]; omega) (by rw [Launch.admits_maxHeapBytes X.admits]; simp only [componentBytes]; omega)
    (g := F0 m pc ls rest) rfl hsize hRframes (by show 2 * 0 + (rest.map fun v => v.category).sum + 10240 ≤ R.locals; omega) hshort (by show 0 + 3 ≤ 3; omega) (by show 0 + (_ + 4 + 6) ≤ nb + 10; omega) hlocks
  obtain ⟨f1, f2⟩ := vx_frame Z.same
  have f1' : H.size ≤ S.heap.size := by rw [← hT]; exact f1
  have f2' : ∀ q : Nat, q < H.size → S.heap[q]? = H[q]? := fun q hq => by
    rw [← hT]
    exact f2 q (by rw [← hT] at hq; exact hq) (fun z hz => nomatch hz)
  have X5 := vx_back9 X Y Z
  have X6 : Stand p l e R s m args below meth c S locs (cells + 3) (slots + (nb + 10)) := { X5 with same := X5.same.mono (by omega) (by omega) }
  obtain ⟨t, a1, b1⟩ := k S.heap q ce f1' f2' ⟨Nat.le_trans hS.1 f1', fun q h1 h2 => (f2' q (Nat.lt_of_lt_of_le h1 hS.1)).trans (hS.2.1 q h1 h2), hS.2.2⟩ hce hv hcl' S rfl X6
  exact ⟨t, st t a1, b1⟩
/-- from the machine's note that NullPointerException is thrown here -/
def vx_NoteN (p : Program) (l : Launch) (e : Env) (R : Room) (s : State) (m : MethodId) (args : Array Value) (below : List Frame) (meth : Method) (c : Code) (H : Heap) (locs : List Loc) (cells slots : Nat) (Q : State → Prop) (g : JFrame) : Prop :=
  ∀ T : State, T.heap = H → Stand p l e R s m args below meth c T locs cells slots → ∃ t, Steps p.tables e below ((T.setTop g).pushFrame (.throwNew "java/lang/NullPointerException" none none)) t ∧ Q t
theorem vx_npe {pc : Nat} {ls : Array Slot} {rest : List Value} {Q : State → Prop} (hexec : p.tables.exec = Jvm.exec) (hl : l.stackTraces = false) {nb : Nat} {A : Nat → Prop}
    (hat : ∀ w ∈ vx_atN nb, w.before args s = true) (hgood : ∀ w ∈ vx_atN nb, vx_ot w = true)
    (hU : vx_Zq Bundle.tN "UNASSIGNED_STACK" Bundle.steD A s s.heap) (hN : vx_Zq Bundle.tN "SUPPRESSED_SENTINEL" Bundle.listD A s s.heap) (hS : va_S A s.heap H locs) (hsize : ls.size = c.maxLocals)
    (hRframes : 7 < R.frames) (hRlocals : (rest.map fun v => v.category).sum + 10240 ≤ R.locals) (hRcells : cells + 1 ≤ R.cells) (hRslots : slots + nb ≤ R.slots) (hlocks : meth.locks = false)
    (k : ∀ (H1 : Heap) (q9 : Addr) (ce : Cell), H.size ≤ H1.size → (∀ q : Nat, q < H.size → H1[q]? = H[q]?) → va_S A s.heap H1 locs → H1[q9]? = some ce → ce.vm = .none → s.vm.findClass "java/lang/NullPointerException" = some ce.cls → vx_W p l e R s m args below meth c H1 locs (cells + 1) (slots + nb) Q (F0 m pc ls rest) q9) :
    vx_NoteN p l e R s m args below meth c H locs cells slots Q (F0 m pc ls rest) := by
  intro T hT X
  have htr : e.platform.stackTraces = false := (show e.platform.stackTraces = l.stackTraces by rw [X.admits.platform]).trans hl
  have Y := vx_rebase X (R' := { frames := R.frames, locals := R.locals, cells := 1, slots := nb }) (Nat.le_refl _) (Nat.le_refl _) hRcells hRslots
  have hhp : ((T.setVm s.vm).setFrames (.invoking m args :: below)).heap = H := hT
  have hW0 : s.WarmedH ((T.setVm s.vm).setFrames (.invoking m args :: below)).vm := State.WarmedH.refl s
  have hat' : ∀ w ∈ vx_atN nb, w.before args ((T.setVm s.vm).setFrames (.invoking m args :: below)) = true := fun w hw => vx_ot_at hW0 rfl (hgood w hw) (hat w hw)
  have hU' : vx_Zq Bundle.tN "UNASSIGNED_STACK" Bundle.steD A ((T.setVm s.vm).setFrames (.invoking m args :: below)) ((T.setVm s.vm).setFrames (.invoking m args :: below)).heap := by rw [hhp]; exact vx_Zq.moved hW0.alike (hU.kept hS.2.1)
  have hN' : vx_Zq Bundle.tN "SUPPRESSED_SENTINEL" Bundle.listD A ((T.setVm s.vm).setFrames (.invoking m args :: below)) ((T.setVm s.vm).setFrames (.invoking m args :: below)).heap := by rw [hhp]; exact vx_Zq.moved hW0.alike (hN.kept hS.2.1)
  obtain ⟨S, q, ce, st, Z, hce, hcl', hv⟩ := vx_npeAt Y hexec htr (n := nb) (vx_own hat' (vx_isRefq hU'.1) (vx_isRefq hN'.1) hU'.2.word hN'.2.word) (fun x hx => nomatch hx)
    (g := F0 m pc ls rest) rfl hsize hRframes (by show 2 * 0 + (rest.map fun v => v.category).sum + 10240 ≤ R.locals; omega) (by show 0 + 1 ≤ 1; omega) (by show 0 + nb ≤ nb; omega) hlocks
  obtain ⟨f1, f2⟩ := vx_frame Z.same
  have f1' : H.size ≤ S.heap.size := by rw [← hT]; exact f1
  have f2' : ∀ q : Nat, q < H.size → S.heap[q]? = H[q]? := fun q hq => by
    rw [← hT]
    exact f2 q (by rw [← hT] at hq; exact hq) (fun z hz => nomatch hz)
  have X5 := vx_back9 X Y Z
  have X6 : Stand p l e R s m args below meth c S locs (cells + 1) (slots + nb) := { X5 with same := X5.same.mono (by omega) (by omega) }
  obtain ⟨t, a1, b1⟩ := k S.heap q ce f1' f2' ⟨Nat.le_trans hS.1 f1', fun q h1 h2 => (f2' q (Nat.lt_of_lt_of_le h1 hS.1)).trans (hS.2.1 q h1 h2), hS.2.2⟩ hce hv hcl' S rfl X6
  exact ⟨t, st t a1, b1⟩
variable {Q : State → Prop} {cc : ByteArray} {pc : Nat} {ls : Array Slot} {rest : List Value}
theorem vx_idivZ (hexec : p.tables.exec = Jvm.exec) (hb : c.code = cc) {a b : Int32} (h0 : b = 0) (d : decode cc pc = .ok (.idiv, 1)) (k : vx_Note p l e R s m args below meth c H locs cells slots Q (F0 m pc ls rest) "java/lang/ArithmeticException" "/ by zero") :
    W p l e R s m args below meth c H locs cells slots Q (F0 m pc ls (.int b :: .int a :: rest)) := by
  intro T hT X
  obtain ⟨t, st, q⟩ := k T hT X
  exact ⟨t, X.idivZero hexec (g := F0 m pc ls (.int b :: .int a :: rest)) rfl (a := a) (rest := rest) (by rw [h0]) (by rw [hb]; exact d) t st, q⟩
theorem vx_iremZ (hexec : p.tables.exec = Jvm.exec) (hb : c.code = cc) {a b : Int32} (h0 : b = 0) (d : decode cc pc = .ok (.irem, 1)) (k : vx_Note p l e R s m args below meth c H locs cells slots Q (F0 m pc ls rest) "java/lang/ArithmeticException" "/ by zero") :
    W p l e R s m args below meth c H locs cells slots Q (F0 m pc ls (.int b :: .int a :: rest)) := by
  intro T hT X
  obtain ⟨t, st, q⟩ := k T hT X
  exact ⟨t, X.iremZero hexec (g := F0 m pc ls (.int b :: .int a :: rest)) rfl (a := a) (rest := rest) (by rw [h0]) (by rw [hb]; exact d) t st, q⟩
theorem vx_ldivZ (hexec : p.tables.exec = Jvm.exec) (hb : c.code = cc) {a b : Int64} (h0 : b = 0) (d : decode cc pc = .ok (.ldiv, 1)) (k : vx_Note p l e R s m args below meth c H locs cells slots Q (F0 m pc ls rest) "java/lang/ArithmeticException" "/ by zero") :
    W p l e R s m args below meth c H locs cells slots Q (F0 m pc ls (.long b :: .long a :: rest)) := by
  intro T hT X
  obtain ⟨t, st, q⟩ := k T hT X
  exact ⟨t, X.ldivZero hexec (g := F0 m pc ls (.long b :: .long a :: rest)) rfl (a := a) (rest := rest) (by rw [h0]) (by rw [hb]; exact d) t st, q⟩
theorem vx_lremZ (hexec : p.tables.exec = Jvm.exec) (hb : c.code = cc) {a b : Int64} (h0 : b = 0) (d : decode cc pc = .ok (.lrem, 1)) (k : vx_Note p l e R s m args below meth c H locs cells slots Q (F0 m pc ls rest) "java/lang/ArithmeticException" "/ by zero") :
    W p l e R s m args below meth c H locs cells slots Q (F0 m pc ls (.long b :: .long a :: rest)) := by
  intro T hT X
  obtain ⟨t, st, q⟩ := k T hT X
  exact ⟨t, X.lremZero hexec (g := F0 m pc ls (.long b :: .long a :: rest)) rfl (a := a) (rest := rest) (by rw [h0]) (by rw [hb]; exact d) t st, q⟩
theorem vx_ialdZ {D : va_G} {cl : List vw_C} {ws : va_W} {tys : List (ClassId × FieldType)} {a : Nat} (hexec : p.tables.exec = Jvm.exec) (hb : c.code = cc) (hK : va_K D cl tys s) (hP : va_P D cl ws H) (q0 t0 : Nat) {cA : ClassId} {n : Nat} {f : Nat → Int32} (ha : ws[q0]? = some (a, .inl (cA, n, .inl f))) (ht : tys[t0]? = some (cA, .int)) {i : Int32} (hout : ¬ vp_in i n) (hdg : decode cc pc = .ok (.iaload, 1))
    (k : ∀ tx : String, tx = (toString "Index " ++ toString i ++ toString " out of bounds for length " ++ toString n : String) → vx_Note p l e R s m args below meth c H locs cells slots Q (F0 m pc ls rest) "java/lang/ArrayIndexOutOfBoundsException" tx) : W p l e R s m args below meth c H locs cells slots Q (F0 m pc ls (.int i :: .ref a :: rest)) := by
  intro T hT X
  obtain ⟨t, st, q⟩ := k _ rfl T hT X
  refine ⟨t, ?_, q⟩
  have h1 := X.ialoadOut hexec (by rw [hT]; exact hP q0 _ ha) ((hK.2 t0 _ ht).1 n (fun j => .int (f j))) (j := i) (by show (i < 0 ∨ (arrV _ _ _).slots.size ≤ _); rw [arrV_size]; exact Classical.byContradiction hout) (g := F0 m pc ls (.int i :: .ref a :: rest)) rfl (rest := rest) rfl (by rw [hb]; exact hdg) t
  simp only [arrV_size] at h1
  exact h1 st
theorem vx_iastZ {D : va_G} {cl : List vw_C} {ws : va_W} {tys : List (ClassId × FieldType)} {a : Nat} (hexec : p.tables.exec = Jvm.exec) (hb : c.code = cc) (hK : va_K D cl tys s) (hP : va_P D cl ws H) (q0 t0 : Nat) {cA : ClassId} {n : Nat} {f : Nat → Int32} (ha : ws[q0]? = some (a, .inl (cA, n, .inl f))) (ht : tys[t0]? = some (cA, .int)) {i : Int32} {x : Int32} (hout : ¬ vp_in i n) (hdg : decode cc pc = .ok (.iastore, 1))
    (k : ∀ tx : String, tx = (toString "Index " ++ toString i ++ toString " out of bounds for length " ++ toString n : String) → vx_Note p l e R s m args below meth c H locs cells slots Q (F0 m pc ls rest) "java/lang/ArrayIndexOutOfBoundsException" tx) : W p l e R s m args below meth c H locs cells slots Q (F0 m pc ls (.int x :: .int i :: .ref a :: rest)) := by
  intro T hT X
  obtain ⟨t, st, q⟩ := k _ rfl T hT X
  refine ⟨t, ?_, q⟩
  have h1 := X.iastoreOut hexec (by rw [hT]; exact hP q0 _ ha) ((hK.2 t0 _ ht).1 n (fun j => .int (f j))) (j := i) (by show (i < 0 ∨ (arrV _ _ _).slots.size ≤ _); rw [arrV_size]; exact Classical.byContradiction hout) (g := F0 m pc ls (.int x :: .int i :: .ref a :: rest)) rfl (rest := rest) rfl (by rw [hb]; exact hdg) t
  simp only [arrV_size] at h1
  exact h1 st
theorem vx_baldZ {D : va_G} {cl : List vw_C} {ws : va_W} {tys : List (ClassId × FieldType)} {a : Nat} (hexec : p.tables.exec = Jvm.exec) (hb : c.code = cc) (hK : va_K D cl tys s) (hP : va_P D cl ws H) (q0 t0 : Nat) {cA : ClassId} {n : Nat} {f : Nat → Int32} (ha : ws[q0]? = some (a, .inl (cA, n, .inl f))) (ht : tys[t0]? = some (cA, .byte)) {i : Int32} (hout : ¬ vp_in i n) (hdg : decode cc pc = .ok (.baload, 1))
    (k : ∀ tx : String, tx = (toString "Index " ++ toString i ++ toString " out of bounds for length " ++ toString n : String) → vx_Note p l e R s m args below meth c H locs cells slots Q (F0 m pc ls rest) "java/lang/ArrayIndexOutOfBoundsException" tx) : W p l e R s m args below meth c H locs cells slots Q (F0 m pc ls (.int i :: .ref a :: rest)) := by
  intro T hT X
  obtain ⟨t, st, q⟩ := k _ rfl T hT X
  refine ⟨t, ?_, q⟩
  have h1 := X.baloadOut hexec (by rw [hT]; exact hP q0 _ ha) ((hK.2 t0 _ ht).1 n (fun j => .int (f j))) (j := i) (by show (i < 0 ∨ (arrV _ _ _).slots.size ≤ _); rw [arrV_size]; exact Classical.byContradiction hout) (g := F0 m pc ls (.int i :: .ref a :: rest)) rfl (rest := rest) rfl (by rw [hb]; exact hdg) t
  simp only [arrV_size] at h1
  exact h1 st
theorem vx_bastZ {D : va_G} {cl : List vw_C} {ws : va_W} {tys : List (ClassId × FieldType)} {a : Nat} (hexec : p.tables.exec = Jvm.exec) (hb : c.code = cc) (hK : va_K D cl tys s) (hP : va_P D cl ws H) (q0 t0 : Nat) {cA : ClassId} {n : Nat} {f : Nat → Int32} (ha : ws[q0]? = some (a, .inl (cA, n, .inl f))) (ht : tys[t0]? = some (cA, .byte)) {i : Int32} {x : Int32} (hout : ¬ vp_in i n) (hdg : decode cc pc = .ok (.bastore, 1))
    (k : ∀ tx : String, tx = (toString "Index " ++ toString i ++ toString " out of bounds for length " ++ toString n : String) → vx_Note p l e R s m args below meth c H locs cells slots Q (F0 m pc ls rest) "java/lang/ArrayIndexOutOfBoundsException" tx) : W p l e R s m args below meth c H locs cells slots Q (F0 m pc ls (.int x :: .int i :: .ref a :: rest)) := by
  intro T hT X
  obtain ⟨t, st, q⟩ := k _ rfl T hT X
  refine ⟨t, ?_, q⟩
  have h1 := X.bastoreOut hexec (by rw [hT]; exact hP q0 _ ha) ((hK.2 t0 _ ht).1 n (fun j => .int (f j))) (j := i) (by show (i < 0 ∨ (arrV _ _ _).slots.size ≤ _); rw [arrV_size]; exact Classical.byContradiction hout) (g := F0 m pc ls (.int x :: .int i :: .ref a :: rest)) rfl (rest := rest) rfl (by rw [hb]; exact hdg) t
  simp only [arrV_size] at h1
  exact h1 st
theorem vx_zaldZ {D : va_G} {cl : List vw_C} {ws : va_W} {tys : List (ClassId × FieldType)} {a : Nat} (hexec : p.tables.exec = Jvm.exec) (hb : c.code = cc) (hK : va_K D cl tys s) (hP : va_P D cl ws H) (q0 t0 : Nat) {cA : ClassId} {n : Nat} {f : Nat → Int32} (ha : ws[q0]? = some (a, .inl (cA, n, .inl f))) (ht : tys[t0]? = some (cA, .boolean)) {i : Int32} (hout : ¬ vp_in i n) (hdg : decode cc pc = .ok (.baload, 1))
    (k : ∀ tx : String, tx = (toString "Index " ++ toString i ++ toString " out of bounds for length " ++ toString n : String) → vx_Note p l e R s m args below meth c H locs cells slots Q (F0 m pc ls rest) "java/lang/ArrayIndexOutOfBoundsException" tx) : W p l e R s m args below meth c H locs cells slots Q (F0 m pc ls (.int i :: .ref a :: rest)) := by
  intro T hT X
  obtain ⟨t, st, q⟩ := k _ rfl T hT X
  refine ⟨t, ?_, q⟩
  have h1 := X.baloadOut hexec (by rw [hT]; exact hP q0 _ ha) ((hK.2 t0 _ ht).1 n (fun j => .int (f j))) (j := i) (by show (i < 0 ∨ (arrV _ _ _).slots.size ≤ _); rw [arrV_size]; exact Classical.byContradiction hout) (g := F0 m pc ls (.int i :: .ref a :: rest)) rfl (rest := rest) rfl (by rw [hb]; exact hdg) t
  simp only [arrV_size] at h1
  exact h1 st
theorem vx_zastZ {D : va_G} {cl : List vw_C} {ws : va_W} {tys : List (ClassId × FieldType)} {a : Nat} (hexec : p.tables.exec = Jvm.exec) (hb : c.code = cc) (hK : va_K D cl tys s) (hP : va_P D cl ws H) (q0 t0 : Nat) {cA : ClassId} {n : Nat} {f : Nat → Int32} (ha : ws[q0]? = some (a, .inl (cA, n, .inl f))) (ht : tys[t0]? = some (cA, .boolean)) {i : Int32} {x : Int32} (hout : ¬ vp_in i n) (hdg : decode cc pc = .ok (.bastore, 1))
    (k : ∀ tx : String, tx = (toString "Index " ++ toString i ++ toString " out of bounds for length " ++ toString n : String) → vx_Note p l e R s m args below meth c H locs cells slots Q (F0 m pc ls rest) "java/lang/ArrayIndexOutOfBoundsException" tx) : W p l e R s m args below meth c H locs cells slots Q (F0 m pc ls (.int x :: .int i :: .ref a :: rest)) := by
  intro T hT X
  obtain ⟨t, st, q⟩ := k _ rfl T hT X
  refine ⟨t, ?_, q⟩
  have h1 := X.bastoreOut hexec (by rw [hT]; exact hP q0 _ ha) ((hK.2 t0 _ ht).1 n (fun j => .int (f j))) (j := i) (by show (i < 0 ∨ (arrV _ _ _).slots.size ≤ _); rw [arrV_size]; exact Classical.byContradiction hout) (g := F0 m pc ls (.int x :: .int i :: .ref a :: rest)) rfl (rest := rest) rfl (by rw [hb]; exact hdg) t
  simp only [arrV_size] at h1
  exact h1 st
theorem vx_caldZ {D : va_G} {cl : List vw_C} {ws : va_W} {tys : List (ClassId × FieldType)} {a : Nat} (hexec : p.tables.exec = Jvm.exec) (hb : c.code = cc) (hK : va_K D cl tys s) (hP : va_P D cl ws H) (q0 t0 : Nat) {cA : ClassId} {n : Nat} {f : Nat → Int32} (ha : ws[q0]? = some (a, .inl (cA, n, .inl f))) (ht : tys[t0]? = some (cA, .char)) {i : Int32} (hout : ¬ vp_in i n) (hdg : decode cc pc = .ok (.caload, 1))
    (k : ∀ tx : String, tx = (toString "Index " ++ toString i ++ toString " out of bounds for length " ++ toString n : String) → vx_Note p l e R s m args below meth c H locs cells slots Q (F0 m pc ls rest) "java/lang/ArrayIndexOutOfBoundsException" tx) : W p l e R s m args below meth c H locs cells slots Q (F0 m pc ls (.int i :: .ref a :: rest)) := by
  intro T hT X
  obtain ⟨t, st, q⟩ := k _ rfl T hT X
  refine ⟨t, ?_, q⟩
  have h1 := X.caloadOut hexec (by rw [hT]; exact hP q0 _ ha) ((hK.2 t0 _ ht).1 n (fun j => .int (f j))) (j := i) (by show (i < 0 ∨ (arrV _ _ _).slots.size ≤ _); rw [arrV_size]; exact Classical.byContradiction hout) (g := F0 m pc ls (.int i :: .ref a :: rest)) rfl (rest := rest) rfl (by rw [hb]; exact hdg) t
  simp only [arrV_size] at h1
  exact h1 st
theorem vx_castZ {D : va_G} {cl : List vw_C} {ws : va_W} {tys : List (ClassId × FieldType)} {a : Nat} (hexec : p.tables.exec = Jvm.exec) (hb : c.code = cc) (hK : va_K D cl tys s) (hP : va_P D cl ws H) (q0 t0 : Nat) {cA : ClassId} {n : Nat} {f : Nat → Int32} (ha : ws[q0]? = some (a, .inl (cA, n, .inl f))) (ht : tys[t0]? = some (cA, .char)) {i : Int32} {x : Int32} (hout : ¬ vp_in i n) (hdg : decode cc pc = .ok (.castore, 1))
    (k : ∀ tx : String, tx = (toString "Index " ++ toString i ++ toString " out of bounds for length " ++ toString n : String) → vx_Note p l e R s m args below meth c H locs cells slots Q (F0 m pc ls rest) "java/lang/ArrayIndexOutOfBoundsException" tx) : W p l e R s m args below meth c H locs cells slots Q (F0 m pc ls (.int x :: .int i :: .ref a :: rest)) := by
  intro T hT X
  obtain ⟨t, st, q⟩ := k _ rfl T hT X
  refine ⟨t, ?_, q⟩
  have h1 := X.castoreOut hexec (by rw [hT]; exact hP q0 _ ha) ((hK.2 t0 _ ht).1 n (fun j => .int (f j))) (j := i) (by show (i < 0 ∨ (arrV _ _ _).slots.size ≤ _); rw [arrV_size]; exact Classical.byContradiction hout) (g := F0 m pc ls (.int x :: .int i :: .ref a :: rest)) rfl (rest := rest) rfl (by rw [hb]; exact hdg) t
  simp only [arrV_size] at h1
  exact h1 st
theorem vx_saldZ {D : va_G} {cl : List vw_C} {ws : va_W} {tys : List (ClassId × FieldType)} {a : Nat} (hexec : p.tables.exec = Jvm.exec) (hb : c.code = cc) (hK : va_K D cl tys s) (hP : va_P D cl ws H) (q0 t0 : Nat) {cA : ClassId} {n : Nat} {f : Nat → Int32} (ha : ws[q0]? = some (a, .inl (cA, n, .inl f))) (ht : tys[t0]? = some (cA, .short)) {i : Int32} (hout : ¬ vp_in i n) (hdg : decode cc pc = .ok (.saload, 1))
    (k : ∀ tx : String, tx = (toString "Index " ++ toString i ++ toString " out of bounds for length " ++ toString n : String) → vx_Note p l e R s m args below meth c H locs cells slots Q (F0 m pc ls rest) "java/lang/ArrayIndexOutOfBoundsException" tx) : W p l e R s m args below meth c H locs cells slots Q (F0 m pc ls (.int i :: .ref a :: rest)) := by
  intro T hT X
  obtain ⟨t, st, q⟩ := k _ rfl T hT X
  refine ⟨t, ?_, q⟩
  have h1 := X.saloadOut hexec (by rw [hT]; exact hP q0 _ ha) ((hK.2 t0 _ ht).1 n (fun j => .int (f j))) (j := i) (by show (i < 0 ∨ (arrV _ _ _).slots.size ≤ _); rw [arrV_size]; exact Classical.byContradiction hout) (g := F0 m pc ls (.int i :: .ref a :: rest)) rfl (rest := rest) rfl (by rw [hb]; exact hdg) t
  simp only [arrV_size] at h1
  exact h1 st
theorem vx_sastZ {D : va_G} {cl : List vw_C} {ws : va_W} {tys : List (ClassId × FieldType)} {a : Nat} (hexec : p.tables.exec = Jvm.exec) (hb : c.code = cc) (hK : va_K D cl tys s) (hP : va_P D cl ws H) (q0 t0 : Nat) {cA : ClassId} {n : Nat} {f : Nat → Int32} (ha : ws[q0]? = some (a, .inl (cA, n, .inl f))) (ht : tys[t0]? = some (cA, .short)) {i : Int32} {x : Int32} (hout : ¬ vp_in i n) (hdg : decode cc pc = .ok (.sastore, 1))
    (k : ∀ tx : String, tx = (toString "Index " ++ toString i ++ toString " out of bounds for length " ++ toString n : String) → vx_Note p l e R s m args below meth c H locs cells slots Q (F0 m pc ls rest) "java/lang/ArrayIndexOutOfBoundsException" tx) : W p l e R s m args below meth c H locs cells slots Q (F0 m pc ls (.int x :: .int i :: .ref a :: rest)) := by
  intro T hT X
  obtain ⟨t, st, q⟩ := k _ rfl T hT X
  refine ⟨t, ?_, q⟩
  have h1 := X.sastoreOut hexec (by rw [hT]; exact hP q0 _ ha) ((hK.2 t0 _ ht).1 n (fun j => .int (f j))) (j := i) (by show (i < 0 ∨ (arrV _ _ _).slots.size ≤ _); rw [arrV_size]; exact Classical.byContradiction hout) (g := F0 m pc ls (.int x :: .int i :: .ref a :: rest)) rfl (rest := rest) rfl (by rw [hb]; exact hdg) t
  simp only [arrV_size] at h1
  exact h1 st
theorem vx_laldZ {D : va_G} {cl : List vw_C} {ws : va_W} {tys : List (ClassId × FieldType)} {a : Nat} (hexec : p.tables.exec = Jvm.exec) (hb : c.code = cc) (hK : va_K D cl tys s) (hP : va_P D cl ws H) (q0 t0 : Nat) {cA : ClassId} {n : Nat} {f : Nat → Int64} (ha : ws[q0]? = some (a, .inl (cA, n, .inr (.inl f)))) (ht : tys[t0]? = some (cA, .long)) {i : Int32} (hout : ¬ vp_in i n) (hdg : decode cc pc = .ok (.laload, 1))
    (k : ∀ tx : String, tx = (toString "Index " ++ toString i ++ toString " out of bounds for length " ++ toString n : String) → vx_Note p l e R s m args below meth c H locs cells slots Q (F0 m pc ls rest) "java/lang/ArrayIndexOutOfBoundsException" tx) : W p l e R s m args below meth c H locs cells slots Q (F0 m pc ls (.int i :: .ref a :: rest)) := by
  intro T hT X
  obtain ⟨t, st, q⟩ := k _ rfl T hT X
  refine ⟨t, ?_, q⟩
  have h1 := X.laloadOut hexec (by rw [hT]; exact hP q0 _ ha) ((hK.2 t0 _ ht).1 n (fun j => .long (f j))) (j := i) (by show (i < 0 ∨ (arrV _ _ _).slots.size ≤ _); rw [arrV_size]; exact Classical.byContradiction hout) (g := F0 m pc ls (.int i :: .ref a :: rest)) rfl (rest := rest) rfl (by rw [hb]; exact hdg) t
  simp only [arrV_size] at h1
  exact h1 st
theorem vx_lastZ {D : va_G} {cl : List vw_C} {ws : va_W} {tys : List (ClassId × FieldType)} {a : Nat} (hexec : p.tables.exec = Jvm.exec) (hb : c.code = cc) (hK : va_K D cl tys s) (hP : va_P D cl ws H) (q0 t0 : Nat) {cA : ClassId} {n : Nat} {f : Nat → Int64} (ha : ws[q0]? = some (a, .inl (cA, n, .inr (.inl f)))) (ht : tys[t0]? = some (cA, .long)) {i : Int32} {x : Int64} (hout : ¬ vp_in i n) (hdg : decode cc pc = .ok (.lastore, 1))
    (k : ∀ tx : String, tx = (toString "Index " ++ toString i ++ toString " out of bounds for length " ++ toString n : String) → vx_Note p l e R s m args below meth c H locs cells slots Q (F0 m pc ls rest) "java/lang/ArrayIndexOutOfBoundsException" tx) : W p l e R s m args below meth c H locs cells slots Q (F0 m pc ls (.long x :: .int i :: .ref a :: rest)) := by
  intro T hT X
  obtain ⟨t, st, q⟩ := k _ rfl T hT X
  refine ⟨t, ?_, q⟩
  have h1 := X.lastoreOut hexec (by rw [hT]; exact hP q0 _ ha) ((hK.2 t0 _ ht).1 n (fun j => .long (f j))) (j := i) (by show (i < 0 ∨ (arrV _ _ _).slots.size ≤ _); rw [arrV_size]; exact Classical.byContradiction hout) (g := F0 m pc ls (.long x :: .int i :: .ref a :: rest)) rfl (rest := rest) rfl (by rw [hb]; exact hdg) t
  simp only [arrV_size] at h1
  exact h1 st
theorem vx_faldZ {D : va_G} {cl : List vw_C} {ws : va_W} {tys : List (ClassId × FieldType)} {a : Nat} (hexec : p.tables.exec = Jvm.exec) (hb : c.code = cc) (hK : va_K D cl tys s) (hP : va_P D cl ws H) (q0 t0 : Nat) {cA : ClassId} {n : Nat} {f : Nat → UInt32} (ha : ws[q0]? = some (a, .inl (cA, n, .inr (.inr (.inl f))))) (ht : tys[t0]? = some (cA, .float)) {i : Int32} (hout : ¬ vp_in i n) (hdg : decode cc pc = .ok (.faload, 1))
    (k : ∀ tx : String, tx = (toString "Index " ++ toString i ++ toString " out of bounds for length " ++ toString n : String) → vx_Note p l e R s m args below meth c H locs cells slots Q (F0 m pc ls rest) "java/lang/ArrayIndexOutOfBoundsException" tx) : W p l e R s m args below meth c H locs cells slots Q (F0 m pc ls (.int i :: .ref a :: rest)) := by
  intro T hT X
  obtain ⟨t, st, q⟩ := k _ rfl T hT X
  refine ⟨t, ?_, q⟩
  have h1 := X.faloadOut hexec (by rw [hT]; exact hP q0 _ ha) ((hK.2 t0 _ ht).1 n (fun j => .float (f j))) (j := i) (by show (i < 0 ∨ (arrV _ _ _).slots.size ≤ _); rw [arrV_size]; exact Classical.byContradiction hout) (g := F0 m pc ls (.int i :: .ref a :: rest)) rfl (rest := rest) rfl (by rw [hb]; exact hdg) t
  simp only [arrV_size] at h1
  exact h1 st
theorem vx_fastZ {D : va_G} {cl : List vw_C} {ws : va_W} {tys : List (ClassId × FieldType)} {a : Nat} (hexec : p.tables.exec = Jvm.exec) (hb : c.code = cc) (hK : va_K D cl tys s) (hP : va_P D cl ws H) (q0 t0 : Nat) {cA : ClassId} {n : Nat} {f : Nat → UInt32} (ha : ws[q0]? = some (a, .inl (cA, n, .inr (.inr (.inl f))))) (ht : tys[t0]? = some (cA, .float)) {i : Int32} {x : UInt32} (hout : ¬ vp_in i n) (hdg : decode cc pc = .ok (.fastore, 1))
    (k : ∀ tx : String, tx = (toString "Index " ++ toString i ++ toString " out of bounds for length " ++ toString n : String) → vx_Note p l e R s m args below meth c H locs cells slots Q (F0 m pc ls rest) "java/lang/ArrayIndexOutOfBoundsException" tx) : W p l e R s m args below meth c H locs cells slots Q (F0 m pc ls (.float x :: .int i :: .ref a :: rest)) := by
  intro T hT X
  obtain ⟨t, st, q⟩ := k _ rfl T hT X
  refine ⟨t, ?_, q⟩
  have h1 := X.fastoreOut hexec (by rw [hT]; exact hP q0 _ ha) ((hK.2 t0 _ ht).1 n (fun j => .float (f j))) (j := i) (by show (i < 0 ∨ (arrV _ _ _).slots.size ≤ _); rw [arrV_size]; exact Classical.byContradiction hout) (g := F0 m pc ls (.float x :: .int i :: .ref a :: rest)) rfl (rest := rest) rfl (by rw [hb]; exact hdg) t
  simp only [arrV_size] at h1
  exact h1 st
theorem vx_daldZ {D : va_G} {cl : List vw_C} {ws : va_W} {tys : List (ClassId × FieldType)} {a : Nat} (hexec : p.tables.exec = Jvm.exec) (hb : c.code = cc) (hK : va_K D cl tys s) (hP : va_P D cl ws H) (q0 t0 : Nat) {cA : ClassId} {n : Nat} {f : Nat → UInt64} (ha : ws[q0]? = some (a, .inl (cA, n, .inr (.inr (.inr (.inl f)))))) (ht : tys[t0]? = some (cA, .double)) {i : Int32} (hout : ¬ vp_in i n) (hdg : decode cc pc = .ok (.daload, 1))
    (k : ∀ tx : String, tx = (toString "Index " ++ toString i ++ toString " out of bounds for length " ++ toString n : String) → vx_Note p l e R s m args below meth c H locs cells slots Q (F0 m pc ls rest) "java/lang/ArrayIndexOutOfBoundsException" tx) : W p l e R s m args below meth c H locs cells slots Q (F0 m pc ls (.int i :: .ref a :: rest)) := by
  intro T hT X
  obtain ⟨t, st, q⟩ := k _ rfl T hT X
  refine ⟨t, ?_, q⟩
  have h1 := X.daloadOut hexec (by rw [hT]; exact hP q0 _ ha) ((hK.2 t0 _ ht).1 n (fun j => .double (f j))) (j := i) (by show (i < 0 ∨ (arrV _ _ _).slots.size ≤ _); rw [arrV_size]; exact Classical.byContradiction hout) (g := F0 m pc ls (.int i :: .ref a :: rest)) rfl (rest := rest) rfl (by rw [hb]; exact hdg) t
  simp only [arrV_size] at h1
  exact h1 st
theorem vx_dastZ {D : va_G} {cl : List vw_C} {ws : va_W} {tys : List (ClassId × FieldType)} {a : Nat} (hexec : p.tables.exec = Jvm.exec) (hb : c.code = cc) (hK : va_K D cl tys s) (hP : va_P D cl ws H) (q0 t0 : Nat) {cA : ClassId} {n : Nat} {f : Nat → UInt64} (ha : ws[q0]? = some (a, .inl (cA, n, .inr (.inr (.inr (.inl f)))))) (ht : tys[t0]? = some (cA, .double)) {i : Int32} {x : UInt64} (hout : ¬ vp_in i n) (hdg : decode cc pc = .ok (.dastore, 1))
    (k : ∀ tx : String, tx = (toString "Index " ++ toString i ++ toString " out of bounds for length " ++ toString n : String) → vx_Note p l e R s m args below meth c H locs cells slots Q (F0 m pc ls rest) "java/lang/ArrayIndexOutOfBoundsException" tx) : W p l e R s m args below meth c H locs cells slots Q (F0 m pc ls (.double x :: .int i :: .ref a :: rest)) := by
  intro T hT X
  obtain ⟨t, st, q⟩ := k _ rfl T hT X
  refine ⟨t, ?_, q⟩
  have h1 := X.dastoreOut hexec (by rw [hT]; exact hP q0 _ ha) ((hK.2 t0 _ ht).1 n (fun j => .double (f j))) (j := i) (by show (i < 0 ∨ (arrV _ _ _).slots.size ≤ _); rw [arrV_size]; exact Classical.byContradiction hout) (g := F0 m pc ls (.double x :: .int i :: .ref a :: rest)) rfl (rest := rest) rfl (by rw [hb]; exact hdg) t
  simp only [arrV_size] at h1
  exact h1 st
theorem vx_arraylengthN (hexec : p.tables.exec = Jvm.exec) (hb : c.code = cc) (hdg : decode cc pc = .ok (.arraylength, 1)) (k : vx_NoteN p l e R s m args below meth c H locs cells slots Q (F0 m pc ls rest)) : W p l e R s m args below meth c H locs cells slots Q (F0 m pc ls (.null :: rest)) := by
  intro T hT X
  obtain ⟨t, st, q⟩ := k T hT X
  exact ⟨t, X.arraylengthNull hexec (g := F0 m pc ls (.null :: rest)) rfl (rest := rest) rfl (by rw [hb]; exact hdg) t st, q⟩
theorem vx_ialoadN (hexec : p.tables.exec = Jvm.exec) (hb : c.code = cc) {i : Int32} (hdg : decode cc pc = .ok (.iaload, 1)) (k : vx_NoteN p l e R s m args below meth c H locs cells slots Q (F0 m pc ls rest)) : W p l e R s m args below meth c H locs cells slots Q (F0 m pc ls (.int i :: .null :: rest)) := by
  intro T hT X
  obtain ⟨t, st, q⟩ := k T hT X
  exact ⟨t, X.ialoadNull hexec (g := F0 m pc ls (.int i :: .null :: rest)) rfl (rest := rest) rfl (by rw [hb]; exact hdg) t st, q⟩
theorem vx_laloadN (hexec : p.tables.exec = Jvm.exec) (hb : c.code = cc) {i : Int32} (hdg : decode cc pc = .ok (.laload, 1)) (k : vx_NoteN p l e R s m args below meth c H locs cells slots Q (F0 m pc ls rest)) : W p l e R s m args below meth c H locs cells slots Q (F0 m pc ls (.int i :: .null :: rest)) := by
  intro T hT X
  obtain ⟨t, st, q⟩ := k T hT X
  exact ⟨t, X.laloadNull hexec (g := F0 m pc ls (.int i :: .null :: rest)) rfl (rest := rest) rfl (by rw [hb]; exact hdg) t st, q⟩
theorem vx_faloadN (hexec : p.tables.exec = Jvm.exec) (hb : c.code = cc) {i : Int32} (hdg : decode cc pc = .ok (.faload, 1)) (k : vx_NoteN p l e R s m args below meth c H locs cells slots Q (F0 m pc ls rest)) : W p l e R s m args below meth c H locs cells slots Q (F0 m pc ls (.int i :: .null :: rest)) := by
  intro T hT X
  obtain ⟨t, st, q⟩ := k T hT X
  exact ⟨t, X.faloadNull hexec (g := F0 m pc ls (.int i :: .null :: rest)) rfl (rest := rest) rfl (by rw [hb]; exact hdg) t st, q⟩
theorem vx_daloadN (hexec : p.tables.exec = Jvm.exec) (hb : c.code = cc) {i : Int32} (hdg : decode cc pc = .ok (.daload, 1)) (k : vx_NoteN p l e R s m args below meth c H locs cells slots Q (F0 m pc ls rest)) : W p l e R s m args below meth c H locs cells slots Q (F0 m pc ls (.int i :: .null :: rest)) := by
  intro T hT X
  obtain ⟨t, st, q⟩ := k T hT X
  exact ⟨t, X.daloadNull hexec (g := F0 m pc ls (.int i :: .null :: rest)) rfl (rest := rest) rfl (by rw [hb]; exact hdg) t st, q⟩
theorem vx_aaloadN (hexec : p.tables.exec = Jvm.exec) (hb : c.code = cc) {i : Int32} (hdg : decode cc pc = .ok (.aaload, 1)) (k : vx_NoteN p l e R s m args below meth c H locs cells slots Q (F0 m pc ls rest)) : W p l e R s m args below meth c H locs cells slots Q (F0 m pc ls (.int i :: .null :: rest)) := by
  intro T hT X
  obtain ⟨t, st, q⟩ := k T hT X
  exact ⟨t, X.aaloadNull hexec (g := F0 m pc ls (.int i :: .null :: rest)) rfl (rest := rest) rfl (by rw [hb]; exact hdg) t st, q⟩
theorem vx_baloadN (hexec : p.tables.exec = Jvm.exec) (hb : c.code = cc) {i : Int32} (hdg : decode cc pc = .ok (.baload, 1)) (k : vx_NoteN p l e R s m args below meth c H locs cells slots Q (F0 m pc ls rest)) : W p l e R s m args below meth c H locs cells slots Q (F0 m pc ls (.int i :: .null :: rest)) := by
  intro T hT X
  obtain ⟨t, st, q⟩ := k T hT X
  exact ⟨t, X.baloadNull hexec (g := F0 m pc ls (.int i :: .null :: rest)) rfl (rest := rest) rfl (by rw [hb]; exact hdg) t st, q⟩
theorem vx_caloadN (hexec : p.tables.exec = Jvm.exec) (hb : c.code = cc) {i : Int32} (hdg : decode cc pc = .ok (.caload, 1)) (k : vx_NoteN p l e R s m args below meth c H locs cells slots Q (F0 m pc ls rest)) : W p l e R s m args below meth c H locs cells slots Q (F0 m pc ls (.int i :: .null :: rest)) := by
  intro T hT X
  obtain ⟨t, st, q⟩ := k T hT X
  exact ⟨t, X.caloadNull hexec (g := F0 m pc ls (.int i :: .null :: rest)) rfl (rest := rest) rfl (by rw [hb]; exact hdg) t st, q⟩
theorem vx_saloadN (hexec : p.tables.exec = Jvm.exec) (hb : c.code = cc) {i : Int32} (hdg : decode cc pc = .ok (.saload, 1)) (k : vx_NoteN p l e R s m args below meth c H locs cells slots Q (F0 m pc ls rest)) : W p l e R s m args below meth c H locs cells slots Q (F0 m pc ls (.int i :: .null :: rest)) := by
  intro T hT X
  obtain ⟨t, st, q⟩ := k T hT X
  exact ⟨t, X.saloadNull hexec (g := F0 m pc ls (.int i :: .null :: rest)) rfl (rest := rest) rfl (by rw [hb]; exact hdg) t st, q⟩
theorem vx_iastoreN (hexec : p.tables.exec = Jvm.exec) (hb : c.code = cc) {x : Int32} {i : Int32} (hdg : decode cc pc = .ok (.iastore, 1)) (k : vx_NoteN p l e R s m args below meth c H locs cells slots Q (F0 m pc ls rest)) : W p l e R s m args below meth c H locs cells slots Q (F0 m pc ls (.int x :: .int i :: .null :: rest)) := by
  intro T hT X
  obtain ⟨t, st, q⟩ := k T hT X
  exact ⟨t, X.iastoreNull hexec (g := F0 m pc ls (.int x :: .int i :: .null :: rest)) rfl (rest := rest) rfl (by rw [hb]; exact hdg) t st, q⟩
theorem vx_lastoreN (hexec : p.tables.exec = Jvm.exec) (hb : c.code = cc) {x : Int64} {i : Int32} (hdg : decode cc pc = .ok (.lastore, 1)) (k : vx_NoteN p l e R s m args below meth c H locs cells slots Q (F0 m pc ls rest)) : W p l e R s m args below meth c H locs cells slots Q (F0 m pc ls (.long x :: .int i :: .null :: rest)) := by
  intro T hT X
  obtain ⟨t, st, q⟩ := k T hT X
  exact ⟨t, X.lastoreNull hexec (g := F0 m pc ls (.long x :: .int i :: .null :: rest)) rfl (rest := rest) rfl (by rw [hb]; exact hdg) t st, q⟩
theorem vx_fastoreN (hexec : p.tables.exec = Jvm.exec) (hb : c.code = cc) {x : UInt32} {i : Int32} (hdg : decode cc pc = .ok (.fastore, 1)) (k : vx_NoteN p l e R s m args below meth c H locs cells slots Q (F0 m pc ls rest)) : W p l e R s m args below meth c H locs cells slots Q (F0 m pc ls (.float x :: .int i :: .null :: rest)) := by
  intro T hT X
  obtain ⟨t, st, q⟩ := k T hT X
  exact ⟨t, X.fastoreNull hexec (g := F0 m pc ls (.float x :: .int i :: .null :: rest)) rfl (rest := rest) rfl (by rw [hb]; exact hdg) t st, q⟩
theorem vx_dastoreN (hexec : p.tables.exec = Jvm.exec) (hb : c.code = cc) {x : UInt64} {i : Int32} (hdg : decode cc pc = .ok (.dastore, 1)) (k : vx_NoteN p l e R s m args below meth c H locs cells slots Q (F0 m pc ls rest)) : W p l e R s m args below meth c H locs cells slots Q (F0 m pc ls (.double x :: .int i :: .null :: rest)) := by
  intro T hT X
  obtain ⟨t, st, q⟩ := k T hT X
  exact ⟨t, X.dastoreNull hexec (g := F0 m pc ls (.double x :: .int i :: .null :: rest)) rfl (rest := rest) rfl (by rw [hb]; exact hdg) t st, q⟩
theorem vx_bastoreN (hexec : p.tables.exec = Jvm.exec) (hb : c.code = cc) {x : Int32} {i : Int32} (hdg : decode cc pc = .ok (.bastore, 1)) (k : vx_NoteN p l e R s m args below meth c H locs cells slots Q (F0 m pc ls rest)) : W p l e R s m args below meth c H locs cells slots Q (F0 m pc ls (.int x :: .int i :: .null :: rest)) := by
  intro T hT X
  obtain ⟨t, st, q⟩ := k T hT X
  exact ⟨t, X.bastoreNull hexec (g := F0 m pc ls (.int x :: .int i :: .null :: rest)) rfl (rest := rest) rfl (by rw [hb]; exact hdg) t st, q⟩
theorem vx_castoreN (hexec : p.tables.exec = Jvm.exec) (hb : c.code = cc) {x : Int32} {i : Int32} (hdg : decode cc pc = .ok (.castore, 1)) (k : vx_NoteN p l e R s m args below meth c H locs cells slots Q (F0 m pc ls rest)) : W p l e R s m args below meth c H locs cells slots Q (F0 m pc ls (.int x :: .int i :: .null :: rest)) := by
  intro T hT X
  obtain ⟨t, st, q⟩ := k T hT X
  exact ⟨t, X.castoreNull hexec (g := F0 m pc ls (.int x :: .int i :: .null :: rest)) rfl (rest := rest) rfl (by rw [hb]; exact hdg) t st, q⟩
theorem vx_sastoreN (hexec : p.tables.exec = Jvm.exec) (hb : c.code = cc) {x : Int32} {i : Int32} (hdg : decode cc pc = .ok (.sastore, 1)) (k : vx_NoteN p l e R s m args below meth c H locs cells slots Q (F0 m pc ls rest)) : W p l e R s m args below meth c H locs cells slots Q (F0 m pc ls (.int x :: .int i :: .null :: rest)) := by
  intro T hT X
  obtain ⟨t, st, q⟩ := k T hT X
  exact ⟨t, X.sastoreNull hexec (g := F0 m pc ls (.int x :: .int i :: .null :: rest)) rfl (rest := rest) rfl (by rw [hb]; exact hdg) t st, q⟩
theorem vx_invokeN {own C : String} {index maxL : Nat} {y : MethodName} {bytes : ByteArray} {ret : Option FieldType} (hexec : p.tables.exec = Jvm.exec) (hb : c.code = cc) (hown : s.vm.findClass own = some m.cls) (hlink : (Cond.methodLink own index y).before args s = true) (hinst : (Cond.instanceMethod y).before args s = true) (hcode : (Cond.code y bytes maxL ret).before args s = true) (hsel : (Cond.selects C y y).before args s = true)
    (hx : y.cls ≠ "java/lang/invoke/MethodHandle" ∧ y.cls ≠ "java/lang/invoke/VarHandle") {As : List Value} (hlen : (parseMethodDescriptor y.desc).map (fun d => d.parameters.length) = some As.length) (hdg : decode cc pc = .ok (.invokevirtual index, 3))
    (k : vx_NoteN p l e R s m args below meth c H locs cells slots Q (F0 m pc ls rest)) {st0 : List Value} (hst : st0 = As.reverse ++ .null :: rest) : W p l e R s m args below meth c H locs cells slots Q (F0 m pc ls st0) := by
  intro T hT X
  obtain ⟨r0, r, hn, hrm, hstR, hsigR⟩ := va_Decl.of hinst hcode
  obtain ⟨c2, r2, m2, q1, q2, q3, q4, kP, hkP, hkPi⟩ := Cond.selects_spec hsel
  cases hn.symm.trans q3
  have hl9 : As.length = r.sig.parameters.length := by
    rw [hsigR] at hlen
    exact (Option.some.inj hlen).symm
  obtain ⟨vm', X1, st1⟩ := X.invokevirtualNull hexec hown hlink hn hrm hstR hkP hkPi hx (g := F0 m pc ls st0) rfl (argsL := As) (rest := rest) hl9 hst (by rw [hb]; exact hdg)
  obtain ⟨t, st, q⟩ := k (T.setVm vm') hT X1
  exact ⟨t, st1 t st, q⟩
theorem vx_newarrayZ {atype : ArrayType} (hexec : p.tables.exec = Jvm.exec) (hb : c.code = cc) {n : Int32} (h0 : n < 0) (hdg : decode cc pc = .ok (.newarray atype, 2)) (k : ∀ tx : String, tx = toString n → vx_Note p l e R s m args below meth c H locs cells slots Q (F0 m pc ls rest) "java/lang/NegativeArraySizeException" tx) : W p l e R s m args below meth c H locs cells slots Q (F0 m pc ls (.int n :: rest)) := by
  intro T hT X
  obtain ⟨t, st, q⟩ := k _ rfl T hT X
  exact ⟨t, X.newarrayNegative hexec (g := F0 m pc ls (.int n :: rest)) rfl h0 (rest := rest) rfl (by rw [hb]; exact hdg) t st, q⟩
end
end VXM
/-! ===== END ===== -/
/-! ===== BEGIN an exception as an object: made, kept, thrown later (no traces kept) ===== -/
section VXK
variable {p : Program} {l : Launch} {e : Env} {R : Room} {s : State} {m₀ : MethodId} {args : Array Value} {below : List Frame} {meth : Method} {c : Code} {W : State} {locs : List Loc} {cells slots : Nat}
set_option maxHeartbeats 1000000 in
theorem vx_ctorMadeS (X : Stand p l e R s m₀ args below meth c W locs cells slots) (hexec : p.tables.exec = Jvm.exec) (htr : e.platform.stackTraces = false) {own cls : String} {names : List String} {ic : Nat}
    (hown : s.vm.findClass own = some m₀.cls) (hcls : Bundle.fit cls = true) (hnames : ∀ n ∈ names, Bundle.fit n = true)
    (h : ∀ a ∈ Bundle.ownAtoms own ic cls names, a.before args s = true)
    (hlocs : ∀ x ∈ locs, ∀ cell, s.heap[x.base]? = some cell → cell.vm.isStatics = false)
    {a : Addr} {cX : ClassId} {kX : Class} (hfoundX : s.vm.findClass cls = some cX) (hkX : s.vm.classes[cX]? = some kX) (hcell : W.heap[a]? = some (freshCell cX kX)) (hnew : s.heap.size ≤ a)
    {msg : Value} (hmsg : msg.isRef = true)
    {g : JFrame} (hg : g.method = m₀) (hsize : g.locals.size = c.maxLocals) {rest : List Value} (hstack : g.stack = msg :: .ref a :: .ref a :: rest)
    (hd6 : decode c.code g.pc = .ok (.invokespecial ic, 3))
    (hRframes : names.length + 3 < R.frames) (hRlocals : 2 * g.monitorRoom + ((Value.ref a :: rest).map fun v => v.category).sum + (13 * (names.length + 1) + 42) ≤ R.locals) :
    ∃ (V : State) (ce : Cell) (L : List Loc), Stand p l e R s m₀ args below meth c (V.setCell a ce) (locs ++ L) cells slots ∧ (∀ y ∈ L, y.base = a) ∧ a < V.heap.size ∧ ce.cls = cX ∧ ce.vm = .none ∧
      ∀ target, Steps p.tables e below ((V.setCell a ce).setTop { g with stack := .ref a :: rest, pc := g.pc + 3 }) target → Steps p.tables e below (W.setTop g) target := by
  have howns : e.platform.frameOwnsMonitors = true := by rw [X.admits.platform]
  have hfin : e.platform.finalization = false := by rw [X.admits.platform]
  have hpl : e.platform.magicAccessors = ({} : Platform).magicAccessors := by rw [X.admits.platform]
  have a' : ∀ x, x ∈ Bundle.ownAtoms own ic cls names → x.holds args s none s [] = true := fun x hx => h x hx
  obtain ⟨T, Z0, L, -, Y⟩ := ThrowableC.of_atoms (args := args) howns hfin hpl (fun x hx => h x (by simp [Bundle.ownAtoms, hx]))
  obtain ⟨Z, M, LZ, LM, hnZ⟩ := Init0T.ofS_atoms (args := args) hpl L Y (fun x hx => h x (by simp [Bundle.ownAtoms, hx]))
  obtain ⟨P1, Ps, hlen, L1, hL, hP1m, hlink1, hlink⟩ := Bundle.chainS (args := args) hpl hnZ names cls hcls hnames (fun x hx => h x (by simp [Bundle.ownAtoms, hx]))
  have hfound : s.vm.findClass cls = some P1.m.cls := findClass_of_methodNamed hP1m
  cases Option.some.inj (hfoundX.symm.trans hfound)
  obtain ⟨c1, kX', hc1, hk, hord, -, -, hn6⟩ := Cond.instantiable_spec (a' (.instantiable cls 6) (by simp [Bundle.ownAtoms]))
  cases Option.some.inj (hc1.symm.trans hfound)
  cases Option.some.inj (hkX.symm.trans hk)
  have hsel0 : selectMethod e.platform s.vm P1.m.cls T.fill0 = .method T.fill0 := by
    obtain ⟨c2, r2, m2, q1, q2, q3, q4, -⟩ := Cond.selects_spec (a' (.selects cls Bundle.tFill0 Bundle.tFill0) (by simp [Bundle.ownAtoms]))
    cases Option.some.inj (q1.symm.trans hfound)
    cases Option.some.inj (q2.symm.trans (State.methodFound?_of_named Y.fill0 (by decide)))
    cases Option.some.inj (q3.symm.trans Y.fill0)
    rw [Launch.admits_selectMethod X.admits]; exact q4
  have hselF : selectMethod e.platform s.vm P1.m.cls T.fill = .method T.fill := by
    obtain ⟨c2, r2, m2, q1, q2, q3, q4, -⟩ := Cond.selects_spec (a' (.selects cls Bundle.tFill Bundle.tFill) (by simp [Bundle.ownAtoms]))
    cases Option.some.inj (q1.symm.trans hfound)
    cases Option.some.inj (q2.symm.trans (State.methodFound?_of_named Y.fill (by decide)))
    cases Option.some.inj (q3.symm.trans Y.fill)
    rw [Launch.admits_selectMethod X.admits]; exact q4
  obtain ⟨cellS0, hcS0, hiss⟩ := Y.statics
  obtain ⟨u0, hu0⟩ := Cond.staticRefV Y.unassigned L.unassignedStatic L.statics hcS0 hiss (a' (.isRef (.static Bundle.tN "UNASSIGNED_STACK" Bundle.steD)) (by simp [Bundle.ownAtoms]))
  obtain ⟨sen, hsen⟩ := Cond.staticRefV Y.sentinel L.sentinelStatic L.statics hcS0 hiss (a' (.isRef (.static Bundle.tN "SUPPRESSED_SENTINEL" Bundle.listD)) (by simp [Bundle.ownAtoms]))
  obtain ⟨ci198, i198, fB, hk198, hg198, ha198, hsB, -, hnB, htB, hffB⟩ := Cond.ownField (t := .object "java/lang/Object") Y.found L.cls (by decide +kernel) (a' (.fieldLink Bundle.tN 198 Bundle.tN "backtrace" "Ljava/lang/Object;") (by simp [Bundle.ownAtoms])) (a' (.lays Bundle.tN Bundle.tN "backtrace" "Ljava/lang/Object;") (by simp [Bundle.ownAtoms])) e.platform hpl
  obtain ⟨cellS, hcS', heS, -, hkeep⟩ := X.same.2.2.2.2.2 T.aS cellS0 hcS0
  have hcellS : W.heap[T.aS]? = some cellS := hcS'
  have hout' : ∀ i, (⟨T.aS, i⟩ : Loc) ∉ locs := fun i hmem => by
    have := hlocs _ hmem cellS0 hcS0
    rw [hiss] at this; cases this
  have hknownS : cellS.vm ≠ .unknown := by
    rw [heS]; intro hu
    rw [show cellS0.vm = .unknown from hu] at hiss
    cases hiss
  have hneS : T.aS ≠ a := Nat.ne_of_lt (Nat.lt_of_lt_of_le (Array.getElem?_eq_some_iff.mp hcS0).1 hnew)
  obtain ⟨iM, hffM⟩ := Y.msg
  obtain ⟨tyC, dC, hdC, hdnC⟩ := Cond.laysAt hfound hk Y.cause (a' (.lays cls Bundle.tN "cause" "Ljava/lang/Throwable;") (by simp [Bundle.ownAtoms]))
  obtain ⟨tyS, dS, hdS, hdnS⟩ := Cond.laysAt hfound hk Y.stack (a' (.lays cls Bundle.tN "stackTrace" Bundle.steD) (by simp [Bundle.ownAtoms]))
  obtain ⟨tyP, dP, hdP, hdnP⟩ := Cond.laysAt hfound hk Y.supp (a' (.lays cls Bundle.tN "suppressedExceptions" Bundle.listD) (by simp [Bundle.ownAtoms]))
  obtain ⟨tyM, dM, hdM, hdnM⟩ := Cond.laysAt hfound hk hffM (a' (.lays cls Bundle.tN "detailMessage" "Ljava/lang/String;") (by simp [Bundle.ownAtoms]))
  obtain ⟨tyB, dB, hdB, hdnB⟩ := Cond.laysAt hfound hk hffB (a' (.lays cls Bundle.tN "backtrace" "Ljava/lang/Object;") (by simp [Bundle.ownAtoms]))
  have bC := Cond.laysApart hdB hdC hdnB hdnC (by rw [hnB, Y.causeName]; decide)
  have bS := Cond.laysApart hdB hdS hdnB hdnS (by rw [hnB, Y.stackName]; decide)
  have bP := Cond.laysApart hdB hdP hdnB hdnP (by rw [hnB, Y.suppName]; decide)
  have hskip : SkipFacts T e.platform s (fun u => u) u0 ((preparedCellV T.toThrowableT (freshCell P1.m.cls kX) a u0 sen).withEntry W.cur) :=
    ⟨{ ci198 := ci198, i198 := i198, fBack := fB }, ⟨hk198, hg198, ha198, hsB⟩, by
      have := fresh_default (c := P1.m.cls) tyB
      rw [htB] at this
      simpa [preparedCellV, Cell.setSlot, Cell.withEntry, Array.getElem?_setIfInBounds, bC, bS, bP, bC.symm, bS.symm, bP.symm, defaultValue] using this, fun _ _ => rfl⟩
  obtain ⟨tm, methC, cdC, kC, vm₁, hnC, -, -, -, -, -, -, -, hW₁, st1⟩ := Steps.initColdS (tb := p.tables) (e := e) (below := below) (s := s) (U := W) X.here hexec X.warmed hpl hown (t := Bundle.initS cls) rfl rfl (Bundle.fit_spec hcls).2
    (a' (.methodLink own ic (Bundle.initS cls)) (by simp [Bundle.ownAtoms])) (h (.instanceMethod (Bundle.initS cls)) (by cases names <;> simp [Bundle.ownAtoms, Bundle.chainSAtoms, Bundle.passSAtoms])) (bytes := Bundle.six) (maxL := 2) (h (.code (Bundle.initS cls) Bundle.six 2 none) (by cases names <;> simp [Bundle.ownAtoms, Bundle.chainSAtoms, Bundle.passSAtoms]))
    (f := g) hg (a := a) (msg := msg) (rest := .ref a :: rest) hstack hd6
  cases Option.some.inj (hnC.symm.trans hP1m)
  have X₁ := X.noted hW₁
  obtain ⟨vm₂, X₂, st2⟩ := X₁.ctorMessageOffV hexec (g := { g with stack := .ref a :: rest }) hg hsize T L Z LZ M LM (P1 :: Ps)
    (fun P hP => by rcases List.mem_cons.mp hP with rfl | hP; exact L1; exact hL P hP) ⟨hlink1, hlink⟩ (u0 := u0) (sen := sen) (self := a) hmsg (cell := freshCell P1.m.cls kX) (cellS := cellS)
    hcell (fun _ => by simp) (by simp) rfl rfl hsel0 hselF hcellS hneS hknownS (by rw [hkeep _ (hout' _)]; exact hu0) (by rw [hkeep _ (hout' _)]; exact hsen)
    (Takes.of_laid hk hord tyC (by rw [Y.causeType]; rfl)) (Takes.of_laid hk hord tyS (by rw [Y.stackType]; exact fits_refV_array _ u0)) (Takes.of_laid hk hord tyP (by rw [Y.suppType]; exact fits_refV_object _ sen))
    (Takes.of_laid hk hord tyM (by rw [Y.msgType]; exact fits_refV_object _ ⟨msg, hmsg⟩)) Y.objLocals hskip htr [] hd6
    (by simp only [List.length_cons, hlen]; omega) (by simp only [List.length_cons, hlen]; exact hRlocals)
  have hlt : a < ((W.setVm vm₁).setVm vm₂).heap.size := (Array.getElem?_eq_some_iff.mp hcell).1
  refine ⟨(W.setVm vm₁).setVm vm₂, _, _, X₂, fun y hy => ?_, hlt, rfl, rfl, fun target hwalk => st1 _ (fun acts => ?_)⟩
  · simp only [List.mem_cons, List.not_mem_nil, or_false] at hy
    rcases hy with rfl | rfl | rfl | rfl | rfl <;> rfl
  · rw [doInvoke_state]
    exact st2 _ hwalk
set_option maxHeartbeats 1000000 in
theorem vx_ctorMade0 (X : Stand p l e R s m₀ args below meth c W locs cells slots) (hexec : p.tables.exec = Jvm.exec) (htr : e.platform.stackTraces = false) {own cls : String} {names : List String} {ic : Nat}
    (hown : s.vm.findClass own = some m₀.cls) (hcls : Bundle.fit cls = true) (hnames : ∀ n ∈ names, Bundle.fit n = true)
    (h : ∀ a ∈ Bundle.ownAtoms0 own ic cls names, a.before args s = true)
    (hlocs : ∀ x ∈ locs, ∀ cell, s.heap[x.base]? = some cell → cell.vm.isStatics = false)
    {a : Addr} {cX : ClassId} {kX : Class} (hfoundX : s.vm.findClass cls = some cX) (hkX : s.vm.classes[cX]? = some kX) (hcell : W.heap[a]? = some (freshCell cX kX)) (hnew : s.heap.size ≤ a)
    {g : JFrame} (hg : g.method = m₀) (hsize : g.locals.size = c.maxLocals) {rest : List Value} (hstack : g.stack = .ref a :: .ref a :: rest)
    (hd6 : decode c.code g.pc = .ok (.invokespecial ic, 3))
    (hRframes : names.length + 3 < R.frames) (hRlocals : 2 * g.monitorRoom + ((Value.ref a :: rest).map fun v => v.category).sum + (13 * (names.length + 1) + 41) ≤ R.locals) :
    ∃ (V : State) (ce : Cell) (L : List Loc), Stand p l e R s m₀ args below meth c (V.setCell a ce) (locs ++ L) cells slots ∧ (∀ y ∈ L, y.base = a) ∧ a < V.heap.size ∧ ce.cls = cX ∧ ce.vm = .none ∧
      ∀ target, Steps p.tables e below ((V.setCell a ce).setTop { g with stack := .ref a :: rest, pc := g.pc + 3 }) target → Steps p.tables e below (W.setTop g) target := by
  have howns : e.platform.frameOwnsMonitors = true := by rw [X.admits.platform]
  have hfin : e.platform.finalization = false := by rw [X.admits.platform]
  have hpl : e.platform.magicAccessors = ({} : Platform).magicAccessors := by rw [X.admits.platform]
  have a' : ∀ x, x ∈ Bundle.ownAtoms0 own ic cls names → x.holds args s none s [] = true := fun x hx => h x hx
  obtain ⟨T, Z, L, LZ, Y⟩ := ThrowableC.of_atoms (args := args) howns hfin hpl (fun x hx => h x (by simp [Bundle.ownAtoms0, hx]))
  obtain ⟨P1, Ps, hlen, L1, hL, hP1m, hlink1, hlink⟩ := Bundle.chain0 (args := args) hpl Y.init0 names cls hcls hnames (fun x hx => h x (by simp [Bundle.ownAtoms0, hx]))
  have hfound : s.vm.findClass cls = some P1.m.cls := findClass_of_methodNamed hP1m
  cases Option.some.inj (hfoundX.symm.trans hfound)
  obtain ⟨c1, kX', hc1, hk, hord, -, -, hn6⟩ := Cond.instantiable_spec (a' (.instantiable cls 6) (by simp [Bundle.ownAtoms0]))
  cases Option.some.inj (hc1.symm.trans hfound)
  cases Option.some.inj (hkX.symm.trans hk)
  have hsel0 : selectMethod e.platform s.vm P1.m.cls T.fill0 = .method T.fill0 := by
    obtain ⟨c2, r2, m2, q1, q2, q3, q4, -⟩ := Cond.selects_spec (a' (.selects cls Bundle.tFill0 Bundle.tFill0) (by simp [Bundle.ownAtoms0]))
    cases Option.some.inj (q1.symm.trans hfound)
    cases Option.some.inj (q2.symm.trans (State.methodFound?_of_named Y.fill0 (by decide)))
    cases Option.some.inj (q3.symm.trans Y.fill0)
    rw [Launch.admits_selectMethod X.admits]; exact q4
  have hselF : selectMethod e.platform s.vm P1.m.cls T.fill = .method T.fill := by
    obtain ⟨c2, r2, m2, q1, q2, q3, q4, -⟩ := Cond.selects_spec (a' (.selects cls Bundle.tFill Bundle.tFill) (by simp [Bundle.ownAtoms0]))
    cases Option.some.inj (q1.symm.trans hfound)
    cases Option.some.inj (q2.symm.trans (State.methodFound?_of_named Y.fill (by decide)))
    cases Option.some.inj (q3.symm.trans Y.fill)
    rw [Launch.admits_selectMethod X.admits]; exact q4
  obtain ⟨cellS0, hcS0, hiss⟩ := Y.statics
  obtain ⟨u0, hu0⟩ := Cond.staticRefV Y.unassigned L.unassignedStatic L.statics hcS0 hiss (a' (.isRef (.static Bundle.tN "UNASSIGNED_STACK" Bundle.steD)) (by simp [Bundle.ownAtoms0]))
  obtain ⟨sen, hsen⟩ := Cond.staticRefV Y.sentinel L.sentinelStatic L.statics hcS0 hiss (a' (.isRef (.static Bundle.tN "SUPPRESSED_SENTINEL" Bundle.listD)) (by simp [Bundle.ownAtoms0]))
  obtain ⟨ci198, i198, fB, hk198, hg198, ha198, hsB, -, hnB, htB, hffB⟩ := Cond.ownField (t := .object "java/lang/Object") Y.found L.cls (by decide +kernel) (a' (.fieldLink Bundle.tN 198 Bundle.tN "backtrace" "Ljava/lang/Object;") (by simp [Bundle.ownAtoms0])) (a' (.lays Bundle.tN Bundle.tN "backtrace" "Ljava/lang/Object;") (by simp [Bundle.ownAtoms0])) e.platform hpl
  obtain ⟨cellS, hcS', heS, -, hkeep⟩ := X.same.2.2.2.2.2 T.aS cellS0 hcS0
  have hcellS : W.heap[T.aS]? = some cellS := hcS'
  have hout' : ∀ i, (⟨T.aS, i⟩ : Loc) ∉ locs := fun i hmem => by
    have := hlocs _ hmem cellS0 hcS0
    rw [hiss] at this; cases this
  have hknownS : cellS.vm ≠ .unknown := by
    rw [heS]; intro hu
    rw [show cellS0.vm = .unknown from hu] at hiss
    cases hiss
  have hneS : T.aS ≠ a := Nat.ne_of_lt (Nat.lt_of_lt_of_le (Array.getElem?_eq_some_iff.mp hcS0).1 hnew)
  obtain ⟨iM, hffM⟩ := Y.msg
  obtain ⟨tyC, dC, hdC, hdnC⟩ := Cond.laysAt hfound hk Y.cause (a' (.lays cls Bundle.tN "cause" "Ljava/lang/Throwable;") (by simp [Bundle.ownAtoms0]))
  obtain ⟨tyS, dS, hdS, hdnS⟩ := Cond.laysAt hfound hk Y.stack (a' (.lays cls Bundle.tN "stackTrace" Bundle.steD) (by simp [Bundle.ownAtoms0]))
  obtain ⟨tyP, dP, hdP, hdnP⟩ := Cond.laysAt hfound hk Y.supp (a' (.lays cls Bundle.tN "suppressedExceptions" Bundle.listD) (by simp [Bundle.ownAtoms0]))
  obtain ⟨tyM, dM, hdM, hdnM⟩ := Cond.laysAt hfound hk hffM (a' (.lays cls Bundle.tN "detailMessage" "Ljava/lang/String;") (by simp [Bundle.ownAtoms0]))
  obtain ⟨tyB, dB, hdB, hdnB⟩ := Cond.laysAt hfound hk hffB (a' (.lays cls Bundle.tN "backtrace" "Ljava/lang/Object;") (by simp [Bundle.ownAtoms0]))
  have bC := Cond.laysApart hdB hdC hdnB hdnC (by rw [hnB, Y.causeName]; decide)
  have bS := Cond.laysApart hdB hdS hdnB hdnS (by rw [hnB, Y.stackName]; decide)
  have bP := Cond.laysApart hdB hdP hdnB hdnP (by rw [hnB, Y.suppName]; decide)
  have hskip : SkipFacts T e.platform s (fun u => u) u0 ((preparedCellV T.toThrowableT (freshCell P1.m.cls kX) a u0 sen).withEntry W.cur) :=
    ⟨{ ci198 := ci198, i198 := i198, fBack := fB }, ⟨hk198, hg198, ha198, hsB⟩, by
      have := fresh_default (c := P1.m.cls) tyB
      rw [htB] at this
      simpa [preparedCellV, Cell.setSlot, Cell.withEntry, Array.getElem?_setIfInBounds, bC, bS, bP, bC.symm, bS.symm, bP.symm, defaultValue] using this, fun _ _ => rfl⟩
  obtain ⟨tm, methC, cdC, kC, vm₁, hnC, -, -, -, -, -, -, -, hW₁, st1⟩ := Steps.initCold (tb := p.tables) (e := e) (below := below) (s := s) (U := W) X.here hexec X.warmed hpl hown (t := Bundle.init0 cls) rfl rfl (Bundle.fit_spec hcls).2
    (a' (.methodLink own ic (Bundle.init0 cls)) (by simp [Bundle.ownAtoms0])) (h (.instanceMethod (Bundle.init0 cls)) (by cases names <;> simp [Bundle.ownAtoms0, Bundle.chain0Atoms, Bundle.passAtoms])) (bytes := Bundle.five) (maxL := 1) (h (.code (Bundle.init0 cls) Bundle.five 1 none) (by cases names <;> simp [Bundle.ownAtoms0, Bundle.chain0Atoms, Bundle.passAtoms]))
    (f := g) hg (a := a) (rest := .ref a :: rest) hstack hd6
  cases Option.some.inj (hnC.symm.trans hP1m)
  have X₁ := X.noted hW₁
  obtain ⟨vm₂, X₂, st2⟩ := X₁.ctorPlainOffV hexec (g := { g with stack := .ref a :: rest }) hg hsize T L Z LZ (P1 :: Ps)
    (fun P hP => by rcases List.mem_cons.mp hP with rfl | hP; exact L1; exact hL P hP) ⟨hlink1, hlink⟩ (u0 := u0) (sen := sen) (self := a) (cell := freshCell P1.m.cls kX) (cellS := cellS)
    hcell (fun _ => by simp) (by simp) rfl rfl hsel0 hselF hcellS hneS hknownS (by rw [hkeep _ (hout' _)]; exact hu0) (by rw [hkeep _ (hout' _)]; exact hsen)
    (Takes.of_laid hk hord tyC (by rw [Y.causeType]; rfl)) (Takes.of_laid hk hord tyS (by rw [Y.stackType]; exact fits_refV_array _ u0)) (Takes.of_laid hk hord tyP (by rw [Y.suppType]; exact fits_refV_object _ sen)) Y.objLocals hskip htr [] hd6
    (by simp only [List.length_cons, hlen]; omega) (by simp only [List.length_cons, hlen]; exact hRlocals)
  have hlt : a < ((W.setVm vm₁).setVm vm₂).heap.size := (Array.getElem?_eq_some_iff.mp hcell).1
  refine ⟨(W.setVm vm₁).setVm vm₂, _, _, X₂, fun y hy => ?_, hlt, rfl, rfl, fun target hwalk => st1 _ (fun acts => ?_)⟩
  · simp only [List.mem_cons, List.not_mem_nil, or_false] at hy
    rcases hy with rfl | rfl | rfl | rfl <;> rfl
  · rw [doInvoke_state]
    exact st2 _ hwalk
end VXK
section VXK2
variable {p : Program} {l : Launch} {e : Env} {R : Room} {s : State} {m : MethodId} {args : Array Value} {below : List Frame} {meth : Method} {c : Code} {H : Heap} {locs : List Loc} {cells slots : Nat} {Q : State → Prop}
variable {ls : Array Slot} {rest : List Value} {D : va_G} {cl : List vw_C} {tys : List (ClassId × FieldType)} {ws : va_W}
/-- 'new E("text")' that isn't thrown at once: the object goes on the stack -/
theorem vx_makeS {cc : ByteArray} {pc : Nat} (hexec : p.tables.exec = Jvm.exec) (hb : c.code = cc) (hl : l.stackTraces = false) {own cls text : String} {names : List String} {ik is ic sa ci : Nat} {A : Nat → Prop} {T0 : u_T}
    (hown : s.vm.findClass own = some m.cls) (hcls : Bundle.fit cls = true) (hnames : ∀ n ∈ names, Bundle.fit n = true)
    (hk : (Cond.classLink own ik cls).before args s = true) (hini : (Cond.initialized cls).before args s = true) (hstr : vk_R own is text sa s) (hat : ∀ w ∈ vx_atS own ic cls names, w.before args s = true)
    (hgood : ∀ w ∈ Cond.classLink own ik cls :: Cond.initialized cls :: vx_atS own ic cls names, vx_ot w = true)
    (hU : vx_Zq Bundle.tN "UNASSIGNED_STACK" Bundle.steD A s s.heap) (hN : vx_Zq Bundle.tN "SUPPRESSED_SENTINEL" Bundle.listD A s s.heap) (hS : va_S A s.heap H locs) (hsize : ls.size = c.maxLocals)
    (d0 : decode cc pc = .ok (.new ik, 3)) (d3 : decode cc (pc + 3) = .ok (.dup, 1)) (d4 : decode cc (pc + 4) = .ok (.ldc is, 2)) (d6 : decode cc (pc + 6) = .ok (.invokespecial ic, 3))
    (hK : va_K D cl tys s) (hP : va_P D cl ws H) (hD : va_D A ws) (hA : ∀ q, s.heap.size ≤ q → A q) (hc : cl[ci]? = some (cls, T0, 0))
    (hRframes : names.length + 3 < R.frames) (hRlocals : (rest.map fun v => v.category).sum + (13 * (names.length + 1) + 43) ≤ R.locals) (hRcells : cells + 1 ≤ R.cells) (hRslots : slots + 6 ≤ R.slots)
    (kk : ∀ (q : Nat) (H1 : Heap), va_P D cl (ws ++ [(q, .inr (ci, []))]) H1 → va_D A (ws ++ [(q, .inr (ci, []))]) → va_S A s.heap H1 locs → W p l e R s m args below meth c H1 locs (cells + 1) (slots + 6) Q (F0 m (pc + 9) ls (.ref q :: rest))) :
    W p l e R s m args below meth c H locs cells slots Q (F0 m pc ls rest) := by
  intro T hT X
  subst hT
  have htr : e.platform.stackTraces = false := (show e.platform.stackTraces = l.stackTraces by rw [X.admits.platform]).trans hl
  have Y := vx_rebase X (R' := { frames := R.frames, locals := R.locals, cells := 1, slots := 6 }) (Nat.le_refl _) (Nat.le_refl _) hRcells hRslots
  obtain ⟨s', hA'⟩ : ∃ z, z = (T.setVm s.vm).setFrames (.invoking m args :: below) := ⟨_, rfl⟩
  rw [← hA'] at Y
  have hvm : s'.vm = s.vm := by rw [hA']; rfl
  have hhp : s'.heap = T.heap := by rw [hA']; rfl
  have hW0 : s.WarmedH s'.vm := by rw [hvm]; exact State.WarmedH.refl s
  have hat' : ∀ w ∈ vx_atS own ic cls names, w.before args s' = true := fun w hw => vx_ot_at hW0 hvm.symm (hgood w (List.mem_cons_of_mem _ (List.mem_cons_of_mem _ hw))) (hat w hw)
  have hk' : (Cond.classLink own ik cls).before args s' = true := vx_ot_at hW0 hvm.symm (hgood _ List.mem_cons_self) hk
  have hini' : (Cond.initialized cls).before args s' = true := vx_ot_at hW0 hvm.symm (hgood _ (List.mem_cons_of_mem _ List.mem_cons_self)) hini
  have hU' : vx_Zq Bundle.tN "UNASSIGNED_STACK" Bundle.steD A s' s'.heap := by rw [hhp]; exact vx_Zq.moved hW0.alike (hU.kept hS.2.1)
  have hN' : vx_Zq Bundle.tN "SUPPRESSED_SENTINEL" Bundle.listD A s' s'.heap := by rw [hhp]; exact vx_Zq.moved hW0.alike (hN.kept hS.2.1)
  have h : ∀ w ∈ Bundle.ownAtoms own ic cls names, w.before args s' = true := vx_own hat' (vx_isRefq hU'.1) (vx_isRefq hN'.1) hU'.2.word hN'.2.word
  have hown' : s'.vm.findClass own = some m.cls := by rw [hvm]; exact hown
  have hins : (Cond.instantiable cls 6).before args s' = true := h _ (by simp [Bundle.ownAtoms])
  obtain ⟨vm₁, cX, kX, hfX, hkX, -, -, X₁, st1⟩ := Y.newCold hexec (own := own) (C := cls) (index := ik) (n := 6) hown' hk' hins hini'
    (g := F0 m pc ls rest) rfl (by rw [hb]; exact d0) (Nat.le_refl _) (Nat.le_refl _)
  generalize hT1 : (T.setVm vm₁).pushCell { cls := cX, slots := kX.instanceTypes.map defaultValue, vm := .none } = T1 at X₁ st1
  have hcat : (Value.ref T.heap.size).category = 1 := rfl
  have hcellA : T1.heap[T.heap.size]? = some (freshCell cX kX) := by rw [← hT1]; exact State.heap_pushCell_size _ _
  have d3' : decode c.code (pc + 3) = .ok (.dup, 1) := by rw [hb]; exact d3
  have d4' : decode c.code (pc + 4) = .ok (.ldc is, 2) := by rw [hb]; exact d4
  have hstr' : vk_R own is text sa s' := vk_R.warm hW0 hstr
  obtain ⟨V, ce, L, Z, hL, hlt, hcl9, hvm9, st⟩ := vx_ctorMadeS X₁ hexec htr (own := own) (cls := cls) (names := names) (ic := ic) hown' hcls hnames h (fun x hx => nomatch hx) hfX hkX hcellA (by rw [hhp]; exact Nat.le_refl _) (msg := .ref sa) rfl
    (g := { method := m, pc := pc + 6, locals := ls, stack := .ref sa :: .ref T.heap.size :: .ref T.heap.size :: rest, locked := none }) rfl hsize (rest := rest) rfl
    (by rw [hb]; exact d6) hRframes (by simp only [List.map_cons, List.sum_cons, hcat]; omega)
  have Z0 := Stand.forget (locs := []) Z (fun y hy => by rw [hL y hy, hhp]; exact Nat.le_refl _)
  obtain ⟨f1, f2⟩ := vx_frame Z0.same
  rw [hhp] at f1 f2
  have hcid : ce.cls = D.1 ci := by
    rw [hcl9]
    have h1 := (hK.1 ci _ hc).2.1
    rw [hvm] at hfX
    exact Option.some.inj (hfX.symm.trans h1)
  have hh : (V.setCell T.heap.size ce).heap[T.heap.size]? = some ce := heapAt_setCell_self (s := V) ce hlt
  subst hA'
  have X5 := vx_back9 X Y Z0
  have X6 : Stand p l e R s m args below meth c (V.setCell T.heap.size ce) locs (cells + 1) (slots + 6) := { X5 with same := X5.same.mono (by omega) (by omega) }
  have hk9 : ∀ (k : Nat) (x : Nat × va_E), ws[k]? = some x → (V.setCell T.heap.size ce).heap[x.1]? = T.heap[x.1]? := fun k x hx => f2 x.1 ((hP k x hx).lt) (fun z hz => nomatch hz)
  obtain ⟨t, a1, b1⟩ := kk T.heap.size (V.setCell T.heap.size ce).heap ((hP.kept hk9).app (fun k x hx => by
      have hz : k < 1 := (List.getElem?_eq_some_iff.mp hx).1
      rw [show k = 0 by omega] at hx
      cases hx
      exact ⟨_, hc, ce, hh, hcid, hvm9, fun k hk => absurd hk (Nat.not_lt_zero k)⟩)) (hD.push hP rfl (hA _ hS.1)) ⟨Nat.le_trans hS.1 f1, fun q h1 h2 => (f2 q (Nat.lt_of_lt_of_le h1 hS.1) (fun z hz => nomatch hz)).trans (hS.2.1 q h1 h2), hS.2.2⟩ _ rfl X6
  refine ⟨t, st1 _ ?_, b1⟩
  show Steps p.tables e below (T1.setTop { method := m, pc := pc + 3, locals := ls, stack := .ref T.heap.size :: rest, locked := none }) _
  jvm_step X₁.here [X₁.here.top, hexec, d3', Value.category]
  exact X₁.ldcString hexec (own := own) (text := text) (index := is) (a := sa) hown' hstr'.1 hstr'.2
    (g := { method := m, pc := pc + 4, locals := ls, stack := .ref T.heap.size :: .ref T.heap.size :: rest, locked := none }) rfl d4' _ (st _ a1)
/-- 'new E()' that isn't thrown at once: the object goes on the stack -/
theorem vx_make0 {cc : ByteArray} {pc : Nat} (hexec : p.tables.exec = Jvm.exec) (hb : c.code = cc) (hl : l.stackTraces = false) {own cls : String} {names : List String} {ik ic ci : Nat} {A : Nat → Prop} {T0 : u_T}
    (hown : s.vm.findClass own = some m.cls) (hcls : Bundle.fit cls = true) (hnames : ∀ n ∈ names, Bundle.fit n = true)
    (hk : (Cond.classLink own ik cls).before args s = true) (hini : (Cond.initialized cls).before args s = true) (hat : ∀ w ∈ vx_at0 own ic cls names, w.before args s = true)
    (hgood : ∀ w ∈ Cond.classLink own ik cls :: Cond.initialized cls :: vx_at0 own ic cls names, vx_ot w = true)
    (hU : vx_Zq Bundle.tN "UNASSIGNED_STACK" Bundle.steD A s s.heap) (hN : vx_Zq Bundle.tN "SUPPRESSED_SENTINEL" Bundle.listD A s s.heap) (hS : va_S A s.heap H locs) (hsize : ls.size = c.maxLocals)
    (d0 : decode cc pc = .ok (.new ik, 3)) (d3 : decode cc (pc + 3) = .ok (.dup, 1)) (d4 : decode cc (pc + 4) = .ok (.invokespecial ic, 3))
    (hK : va_K D cl tys s) (hP : va_P D cl ws H) (hD : va_D A ws) (hA : ∀ q, s.heap.size ≤ q → A q) (hc : cl[ci]? = some (cls, T0, 0))
    (hRframes : names.length + 3 < R.frames) (hRlocals : (rest.map fun v => v.category).sum + (13 * (names.length + 1) + 42) ≤ R.locals) (hRcells : cells + 1 ≤ R.cells) (hRslots : slots + 6 ≤ R.slots)
    (kk : ∀ (q : Nat) (H1 : Heap), va_P D cl (ws ++ [(q, .inr (ci, []))]) H1 → va_D A (ws ++ [(q, .inr (ci, []))]) → va_S A s.heap H1 locs → W p l e R s m args below meth c H1 locs (cells + 1) (slots + 6) Q (F0 m (pc + 7) ls (.ref q :: rest))) :
    W p l e R s m args below meth c H locs cells slots Q (F0 m pc ls rest) := by
  intro T hT X
  subst hT
  have htr : e.platform.stackTraces = false := (show e.platform.stackTraces = l.stackTraces by rw [X.admits.platform]).trans hl
  have Y := vx_rebase X (R' := { frames := R.frames, locals := R.locals, cells := 1, slots := 6 }) (Nat.le_refl _) (Nat.le_refl _) hRcells hRslots
  obtain ⟨s', hA'⟩ : ∃ z, z = (T.setVm s.vm).setFrames (.invoking m args :: below) := ⟨_, rfl⟩
  rw [← hA'] at Y
  have hvm : s'.vm = s.vm := by rw [hA']; rfl
  have hhp : s'.heap = T.heap := by rw [hA']; rfl
  have hW0 : s.WarmedH s'.vm := by rw [hvm]; exact State.WarmedH.refl s
  have hat' : ∀ w ∈ vx_at0 own ic cls names, w.before args s' = true := fun w hw => vx_ot_at hW0 hvm.symm (hgood w (List.mem_cons_of_mem _ (List.mem_cons_of_mem _ hw))) (hat w hw)
  have hk' : (Cond.classLink own ik cls).before args s' = true := vx_ot_at hW0 hvm.symm (hgood _ List.mem_cons_self) hk
  have hini' : (Cond.initialized cls).before args s' = true := vx_ot_at hW0 hvm.symm (hgood _ (List.mem_cons_of_mem _ List.mem_cons_self)) hini
  have hU' : vx_Zq Bundle.tN "UNASSIGNED_STACK" Bundle.steD A s' s'.heap := by rw [hhp]; exact vx_Zq.moved hW0.alike (hU.kept hS.2.1)
  have hN' : vx_Zq Bundle.tN "SUPPRESSED_SENTINEL" Bundle.listD A s' s'.heap := by rw [hhp]; exact vx_Zq.moved hW0.alike (hN.kept hS.2.1)
  have h : ∀ w ∈ Bundle.ownAtoms0 own ic cls names, w.before args s' = true := vx_own hat' (vx_isRefq hU'.1) (vx_isRefq hN'.1) hU'.2.word hN'.2.word
  have hown' : s'.vm.findClass own = some m.cls := by rw [hvm]; exact hown
  have hins : (Cond.instantiable cls 6).before args s' = true := h _ (by simp [Bundle.ownAtoms0])
  obtain ⟨vm₁, cX, kX, hfX, hkX, -, -, X₁, st1⟩ := Y.newCold hexec (own := own) (C := cls) (index := ik) (n := 6) hown' hk' hins hini'
    (g := F0 m pc ls rest) rfl (by rw [hb]; exact d0) (Nat.le_refl _) (Nat.le_refl _)
  generalize hT1 : (T.setVm vm₁).pushCell { cls := cX, slots := kX.instanceTypes.map defaultValue, vm := .none } = T1 at X₁ st1
  have hcat : (Value.ref T.heap.size).category = 1 := rfl
  have hcellA : T1.heap[T.heap.size]? = some (freshCell cX kX) := by rw [← hT1]; exact State.heap_pushCell_size _ _
  have d3' : decode c.code (pc + 3) = .ok (.dup, 1) := by rw [hb]; exact d3
  obtain ⟨V, ce, L, Z, hL, hlt, hcl9, hvm9, st⟩ := vx_ctorMade0 X₁ hexec htr (own := own) (cls := cls) (names := names) (ic := ic) hown' hcls hnames h (fun x hx => nomatch hx) hfX hkX hcellA (by rw [hhp]; exact Nat.le_refl _)
    (g := { method := m, pc := pc + 4, locals := ls, stack := .ref T.heap.size :: .ref T.heap.size :: rest, locked := none }) rfl hsize (rest := rest) rfl
    (by rw [hb]; exact d4) hRframes (by simp only [List.map_cons, List.sum_cons, hcat]; omega)
  have Z0 := Stand.forget (locs := []) Z (fun y hy => by rw [hL y hy, hhp]; exact Nat.le_refl _)
  obtain ⟨f1, f2⟩ := vx_frame Z0.same
  rw [hhp] at f1 f2
  have hcid : ce.cls = D.1 ci := by
    rw [hcl9]
    have h1 := (hK.1 ci _ hc).2.1
    rw [hvm] at hfX
    exact Option.some.inj (hfX.symm.trans h1)
  have hh : (V.setCell T.heap.size ce).heap[T.heap.size]? = some ce := heapAt_setCell_self (s := V) ce hlt
  subst hA'
  have X5 := vx_back9 X Y Z0
  have X6 : Stand p l e R s m args below meth c (V.setCell T.heap.size ce) locs (cells + 1) (slots + 6) := { X5 with same := X5.same.mono (by omega) (by omega) }
  have hk9 : ∀ (k : Nat) (x : Nat × va_E), ws[k]? = some x → (V.setCell T.heap.size ce).heap[x.1]? = T.heap[x.1]? := fun k x hx => f2 x.1 ((hP k x hx).lt) (fun z hz => nomatch hz)
  obtain ⟨t, a1, b1⟩ := kk T.heap.size (V.setCell T.heap.size ce).heap ((hP.kept hk9).app (fun k x hx => by
      have hz : k < 1 := (List.getElem?_eq_some_iff.mp hx).1
      rw [show k = 0 by omega] at hx
      cases hx
      exact ⟨_, hc, ce, hh, hcid, hvm9, fun k hk => absurd hk (Nat.not_lt_zero k)⟩)) (hD.push hP rfl (hA _ hS.1)) ⟨Nat.le_trans hS.1 f1, fun q h1 h2 => (f2 q (Nat.lt_of_lt_of_le h1 hS.1) (fun z hz => nomatch hz)).trans (hS.2.1 q h1 h2), hS.2.2⟩ _ rfl X6
  refine ⟨t, st1 _ ?_, b1⟩
  show Steps p.tables e below (T1.setTop { method := m, pc := pc + 3, locals := ls, stack := .ref T.heap.size :: rest, locked := none }) _
  jvm_step X₁.here [X₁.here.top, hexec, d3', Value.category]
  exact st _ a1
/-- 'throw x' of an object that was made before -/
theorem vx_athrow {cc : ByteArray} {pc : Nat} (hexec : p.tables.exec = Jvm.exec) (hb : c.code = cc) {q : Addr} (hdg : decode cc pc = .ok (.athrow, 1)) (k : vx_W p l e R s m args below meth c H locs cells slots Q (F0 m pc ls rest) q) : W p l e R s m args below meth c H locs cells slots Q (F0 m pc ls (.ref q :: rest)) := by
  intro T hT X
  obtain ⟨t, st, hq⟩ := k T hT X
  refine ⟨t, ?_, hq⟩
  have hdg' : decode c.code pc = .ok (.athrow, 1) := by rw [hb]; exact hdg
  jvm_step X.here [X.here.top, hexec, hdg', athrow.wp_sem]
  exact st
end VXK2
/-! ===== END ===== -/
/-! ===== BEGIN a constructor that throws (launches without stack traces) ===== -/
section VXIA
variable {p : Program} {l : Launch} {e : Env} {R : Room} {s : State} {m : MethodId} {args : Array Value} {below : List Frame} {meth : Method} {c : Code} {T : State} {locs : List Loc} {cells slots : Nat}
theorem vx_callI (X : Stand p l e R s m args below meth c T locs cells slots) (hexec : p.tables.exec = Jvm.exec) {own : String} {index : Nat} {y : MethodName} {bytes : ByteArray} {maxL : Nat}
    (hown : s.vm.findClass own = some m.cls) (hy1 : y.name = "<init>") (hlink : (Cond.methodLink own index y).before args s = true) (hinst : (Cond.instanceMethod y).before args s = true)
    (hcode : (Cond.code y bytes maxL none).before args s = true) (hy : y.cls ≠ "java/lang/invoke/MethodHandle" ∧ y.cls ≠ "java/lang/invoke/VarHandle")
    {W9 : Nat} {Pre : Pt → Array Value → Prop} {Post : Pt → Array Value → Option Value → Pt → Prop} {PostX : Pt → Array Value → Addr → Pt → Prop} (hK : vx_Back l R p e below s args y 3 W9 Pre Post PostX)
    {g : JFrame} (hg : g.method = m) (hsize : g.locals.size = c.maxLocals) {a : Addr} {argsL rest : List Value} (hlen : ∀ sig, parseMethodDescriptor y.desc = some sig → argsL.length = sig.parameters.length)
    (hstack : g.stack = argsL.reverse ++ .ref a :: rest) (hW : 2 * g.monitorRoom + (rest.map fun v => v.category).sum ≤ W9) (hdg : decode c.code g.pc = .ok (.invokespecial index, 3))
    (hpre : ∀ vm₁, s.WarmedH vm₁ → Pre ⟨T.setVm vm₁, locs, cells, slots⟩ (Value.ref a :: argsL).toArray) :
    (∃ (v : Option Value) (vm₁ : Vm) (B : Pt), s.WarmedH vm₁ ∧ Stand p l e R s m args below meth c B.U B.locs B.cells B.slots ∧ Post ⟨T.setVm vm₁, locs, cells, slots⟩ (Value.ref a :: argsL).toArray v B ∧
      ∀ target, Steps p.tables e below (B.U.setTop { g with pc := g.pc + 3, stack := v.toList ++ rest }) target → Steps p.tables e below (T.setTop g) target) ∨
    (∃ (q : Addr) (vm₁ : Vm) (B : Pt), s.WarmedH vm₁ ∧ Stand p l e R s m args below meth c B.U B.locs B.cells B.slots ∧ PostX ⟨T.setVm vm₁, locs, cells, slots⟩ (Value.ref a :: argsL).toArray q B ∧
      Steps p.tables e below (T.setTop g) ((B.U.setTop { g with stack := rest }).pushFrame (.throwing q))) := by
  subst hg
  have hpl : e.platform.magicAccessors = ({} : Platform).magicAccessors := by rw [X.admits.platform]
  obtain ⟨mk, methM, cM, kP, vm₁, hnamed, hmethM, hcodeM, -, hlocalsM, -, hkP, -, hW₁, hstep₁⟩ := Steps.initColdArgs (e := e) X.here hexec X.warmed hpl hown hy1 hy hlink hinst hcode (f := g) rfl hlen hstack hdg
  have X₁ := X.noted hW₁
  rcases hK g.method meth c ⟨T.setVm vm₁, locs, cells, slots⟩ { g with stack := rest } (.invokespecial index) mk (Value.ref a :: argsL).toArray X₁ rfl hsize hdg hW (X₁.named hnamed) (hpre vm₁ X₁.warmed) with ⟨v, B, X', hpost, hsteps⟩ | ⟨q, B, X', hpost, hsteps⟩
  · exact Or.inl ⟨v, vm₁, B, X₁.warmed, X', hpost, fun target h => hstep₁ _ fun acts => by rw [doInvoke_state]; exact hsteps.trans h⟩
  · exact Or.inr ⟨q, vm₁, B, X₁.warmed, X', hpost, hstep₁ _ fun acts => by rw [doInvoke_state]; exact hsteps⟩
end VXIA
section VXIB
variable {p : Program} {l : Launch} {e : Env} {R : Room} {s : State} {m : MethodId} {args : Array Value} {below : List Frame} {meth : Method} {c : Code} {H : Heap} {locs : List Loc} {cells slots : Nat}
variable {y : MethodName} {bytes cc : ByteArray} {maxL nL mc ms n index : Nat} {ret : Option FieldType} {ws : List Cond} {rm : Room} {Pc : Array Value → State → Prop} {Qc : Array Value → State → Outcome → State → Prop} {XC : String → State → State → Prop} {free : Addr → Prop} {Ts : List Cond} {own C : String} {b : Addr} {As rest : List Value} {g : JFrame}
theorem vx_runI (S : CallFix p m c cc nL s args Ts own) (hM : vx_Met l y ws rm Pc Qc XC mc ms free) (cw : CallB R s args own index y bytes maxL none ws rm mc ms n ∧ y.name = "<init>" ∧ (Cond.instanceMethod y).before args s = true) (hp : PreS s H Pc (.ref b :: As))
    (hg : g.method = m) (hn : As.length = n) (hsize : g.locals.size = nL) (hstack : g.stack = As.reverse ++ .ref b :: rest) (hW : 2 * g.monitorRoom + (rest.map fun v => v.category).sum ≤ 8) (hdg : decode cc g.pc = .ok (.invokespecial index, 3)) (hf : cells + mc ≤ R.cells ∧ slots + ms ≤ R.slots) :
    vx_Run p l e R s m args below meth c H locs cells slots mc ms g rest (Qc (Value.ref b :: As).toArray) XC free := by
  have hK : vx_Back l R p e below s args y 3 8 (PreOf R mc ms Pc) (PostOf Qc mc ms free) (vx_Post XC mc ms free) := vx_callBack cw.1 hM hp.1
  obtain ⟨⟨-, -, -, -, -, -, hcode, -, hy, hlen, hl⟩, hy1, hin⟩ := cw
  obtain ⟨hx, hb, hml, ho, -⟩ := S
  have hPc := hp.2
  intro T hT X
  rcases vx_callI X hx (bytes := bytes) (maxL := maxL) ho hy1 hl hin hcode hy hK hg (hsize.trans hml.symm) (a := b) (argsL := As) (rest := rest) (fun sig h => hn.trans (hlen sig h)) hstack hW (by rw [hb]; exact hdg)
    (fun vm₁ hW₁ => ⟨hf.1, hf.2, hPc (T.setVm vm₁) hT hW₁⟩) with ⟨v, vm₁, ⟨U', l2, c2, s2⟩, hW₁, X', ⟨g', mk, t, L, e1, e2, hq, h1, hL, h2, h3⟩, st⟩ | ⟨q, vm₁, ⟨U', l2, c2, s2⟩, hW₁, X', ⟨g', mk, t, L, E, ce, e1, e2, hq, hce, hcv, hcl, h1, hL, h2, h3⟩, st⟩
  · dsimp only [Pt.U, Pt.locs, Pt.cells, Pt.slots] at X' e1 e2 h1 h2 h3 st
    subst h1; subst h2; subst h3
    exact Or.inl ⟨v, (T.setVm vm₁).calling g' mk (Value.ref b :: As).toArray, t, U', L, hT, X', hL, e1, e2, hq, st⟩
  · dsimp only [Pt.U, Pt.locs, Pt.cells, Pt.slots] at X' e1 e2 h1 h2 h3 st hcl
    subst h1; subst h2; subst h3
    exact Or.inr ⟨q, (T.setVm vm₁).calling g' mk (Value.ref b :: As).toArray, t, U', L, E, ce, hT, X', hL, e1, e2, hq, hce, hcv, vx_cls hW₁ hcl, st⟩
end VXIB
/-! ===== END ===== -/
/-! ===== BEGIN a private constructor of a nest mate that throws ===== -/
section VXIC
variable {p : Program} {l : Launch} {e : Env} {R : Room} {s : State} {m : MethodId} {args : Array Value} {below : List Frame} {meth : Method} {c : Code} {T : State} {locs : List Loc} {cells slots : Nat}
theorem vx_callIN (X : Stand p l e R s m args below meth c T locs cells slots) (hexec : p.tables.exec = Jvm.exec) {own : String} {index : Nat} {host : String} {y : MethodName} {bytes : ByteArray} {maxL : Nat}
    (hown : s.vm.findClass own = some m.cls) (hy1 : y.name = "<init>") (hlink : (Cond.methodLinkNest own index y host).before args s = true) (hinst : (Cond.instanceMethod y).before args s = true)
    (hcode : (Cond.code y bytes maxL none).before args s = true) (hy : y.cls ≠ "java/lang/invoke/MethodHandle" ∧ y.cls ≠ "java/lang/invoke/VarHandle")
    {W9 : Nat} {Pre : Pt → Array Value → Prop} {Post : Pt → Array Value → Option Value → Pt → Prop} {PostX : Pt → Array Value → Addr → Pt → Prop} (hK : vx_Back l R p e below s args y 3 W9 Pre Post PostX)
    {g : JFrame} (hg : g.method = m) (hsize : g.locals.size = c.maxLocals) {a : Addr} {argsL rest : List Value} (hlen : ∀ sig, parseMethodDescriptor y.desc = some sig → argsL.length = sig.parameters.length)
    (hstack : g.stack = argsL.reverse ++ .ref a :: rest) (hW : 2 * g.monitorRoom + (rest.map fun v => v.category).sum ≤ W9) (hdg : decode c.code g.pc = .ok (.invokespecial index, 3))
    (hpre : ∀ vm₁, s.WarmedH vm₁ → Pre ⟨T.setVm vm₁, locs, cells, slots⟩ (Value.ref a :: argsL).toArray) :
    (∃ (v : Option Value) (vm₁ : Vm) (B : Pt), s.WarmedH vm₁ ∧ Stand p l e R s m args below meth c B.U B.locs B.cells B.slots ∧ Post ⟨T.setVm vm₁, locs, cells, slots⟩ (Value.ref a :: argsL).toArray v B ∧
      ∀ target, Steps p.tables e below (B.U.setTop { g with pc := g.pc + 3, stack := v.toList ++ rest }) target → Steps p.tables e below (T.setTop g) target) ∨
    (∃ (q : Addr) (vm₁ : Vm) (B : Pt), s.WarmedH vm₁ ∧ Stand p l e R s m args below meth c B.U B.locs B.cells B.slots ∧ PostX ⟨T.setVm vm₁, locs, cells, slots⟩ (Value.ref a :: argsL).toArray q B ∧
      Steps p.tables e below (T.setTop g) ((B.U.setTop { g with stack := rest }).pushFrame (.throwing q))) := by
  subst hg
  have hpl : e.platform.magicAccessors = ({} : Platform).magicAccessors := by rw [X.admits.platform]
  obtain ⟨mk, methM, cM, kP, vm₁, hnamed, hmethM, hcodeM, -, hlocalsM, -, hkP, -, hW₁, hstep₁⟩ := Steps.initColdArgsNest (e := e) X.here hexec X.warmed hpl hown hy1 hy hlink hinst hcode (f := g) rfl hlen hstack hdg
  have X₁ := X.noted hW₁
  rcases hK g.method meth c ⟨T.setVm vm₁, locs, cells, slots⟩ { g with stack := rest } (.invokespecial index) mk (Value.ref a :: argsL).toArray X₁ rfl hsize hdg hW (X₁.named hnamed) (hpre vm₁ X₁.warmed) with ⟨v, B, X', hpost, hsteps⟩ | ⟨q, B, X', hpost, hsteps⟩
  · exact Or.inl ⟨v, vm₁, B, X₁.warmed, X', hpost, fun target h => hstep₁ _ fun acts => by rw [doInvoke_state]; exact hsteps.trans h⟩
  · exact Or.inr ⟨q, vm₁, B, X₁.warmed, X', hpost, hstep₁ _ fun acts => by rw [doInvoke_state]; exact hsteps⟩
end VXIC
section VXID
variable {p : Program} {l : Launch} {e : Env} {R : Room} {s : State} {m : MethodId} {args : Array Value} {below : List Frame} {meth : Method} {c : Code} {H : Heap} {locs : List Loc} {cells slots : Nat}
theorem vx_runIN {y : MethodName} {bytes cc : ByteArray} {maxL nL mc ms n index : Nat} {ws : List Cond} {rm : Room} {Pc : Array Value → State → Prop} {Qc : Array Value → State → Outcome → State → Prop} {XC : String → State → State → Prop} {free : Addr → Prop} {Ts : List Cond} {own host : String} {b : Addr} {As rest : List Value} {g : JFrame}
    (S : CallFix p m c cc nL s args Ts own) (hM : vx_Met l y ws rm Pc Qc XC mc ms free) (cw : va_CN R s args own index y host bytes maxL none ws rm mc ms n ∧ y.name = "<init>" ∧ (Cond.instanceMethod y).before args s = true) (hp : PreS s H Pc (.ref b :: As))
    (hg : g.method = m) (hn : As.length = n) (hsize : g.locals.size = nL) (hstack : g.stack = As.reverse ++ .ref b :: rest) (hW : 2 * g.monitorRoom + (rest.map fun v => v.category).sum ≤ 8) (hdg : decode cc g.pc = .ok (.invokespecial index, 3)) (hf : cells + mc ≤ R.cells ∧ slots + ms ≤ R.slots) :
    vx_Run p l e R s m args below meth c H locs cells slots mc ms g rest (Qc (Value.ref b :: As).toArray) XC free := by
  obtain ⟨⟨⟨hrc, hrs, hfr, hlo, hws, hcw⟩, hcode, hini, hy, hlen, hl⟩, hx1, hx2⟩ := cw
  have hK : vx_Back l R p e below s args y 3 8 (PreOf R mc ms Pc) (PostOf Qc mc ms free) (vx_Post XC mc ms free) := vx_back (bytes := bytes) (maxL := maxL) (ret := none) hM hp.1 hrc hrs hfr hlo hws hcw (fun a' U hW => word_at hW (Or.inl (by first | rfl | simp [Cond.onTables, Cond.keeps, Cond.steady])) hini)
  obtain ⟨hx, hb, hml, ho, -⟩ := S
  have hPc := hp.2
  intro T hT X
  rcases vx_callIN X hx (bytes := bytes) (maxL := maxL) ho hx1 hl hx2 hcode hy hK hg (hsize.trans hml.symm) (a := b) (argsL := As) (rest := rest) (fun sig h => hn.trans (hlen sig h)) hstack hW (by rw [hb]; exact hdg)
    (fun vm₁ hW₁ => ⟨hf.1, hf.2, hPc (T.setVm vm₁) hT hW₁⟩) with ⟨v, vm₁, ⟨U', l2, c2, s2⟩, hW₁, X', ⟨g', mk, t, L, e1, e2, hq, h1, hL, h2, h3⟩, st⟩ | ⟨q, vm₁, ⟨U', l2, c2, s2⟩, hW₁, X', ⟨g', mk, t, L, E, ce, e1, e2, hq, hce, hcv, hcl, h1, hL, h2, h3⟩, st⟩
  · dsimp only [Pt.U, Pt.locs, Pt.cells, Pt.slots] at X' e1 e2 h1 h2 h3 st
    subst h1; subst h2; subst h3
    exact Or.inl ⟨v, (T.setVm vm₁).calling g' mk (Value.ref b :: As).toArray, t, U', L, hT, X', hL, e1, e2, hq, st⟩
  · dsimp only [Pt.U, Pt.locs, Pt.cells, Pt.slots] at X' e1 e2 h1 h2 h3 st hcl
    subst h1; subst h2; subst h3
    exact Or.inr ⟨q, (T.setVm vm₁).calling g' mk (Value.ref b :: As).toArray, t, U', L, E, ce, hT, X', hL, e1, e2, hq, hce, hcv, vx_cls hW₁ hcl, st⟩
end VXID
/-! ===== END ===== -/
/-! ===== BEGIN a method of a class above, found by the receiver, that may throw (follows va_callVU, va_runU of this kit) ===== -/
section
variable {p : Program} {l : Launch} {e : Env} {R : Room} {s : State} {m : MethodId} {args : Array Value} {below : List Frame} {meth : Method} {c : Code} {H : Heap} {locs : List Loc} {cells slots : Nat}
theorem vx_callVU {T : State} {locs : List Loc} {cells slots : Nat} (X : Stand p l e R s m args below meth c T locs cells slots) (hexec : p.tables.exec = Jvm.exec) {own C owner : String} {index : Nat} {x y : MethodName} {bytes : ByteArray} {maxL : Nat} {ret : Option FieldType}
    (hown : s.vm.findClass own = some m.cls) (hlink : (Cond.methodLink own index x).before args s = true) (hsame : (Cond.sameMethod x.cls owner x.name x.desc).before args s = true)
    (hd0 : va_Decl s ⟨owner, x.name, x.desc⟩) (howner : owner ≠ "java/lang/invoke/MethodHandle" ∧ owner ≠ "java/lang/invoke/VarHandle")
    (hsel : (Cond.selects C x y).before args s = true) (hinst : (Cond.instanceMethod y).before args s = true) (hcode : (Cond.code y bytes maxL ret).before args s = true)
    {W : Nat} {Pre : Pt → Array Value → Prop} {Post : Pt → Array Value → Option Value → Pt → Prop} {PostX : Pt → Array Value → Addr → Pt → Prop} (hK : vx_Back l R p e below s args y 3 W Pre Post PostX)
    {b : Addr} {cellB : Cell} (hcell : T.heap[b]? = some cellB) (hobj : cellB.vm.isStatics = false) (hcls : s.vm.findClass C = some cellB.cls)
    {g : JFrame} (hg : g.method = m) (hsize : g.locals.size = c.maxLocals) {argsL rest : List Value} (hlen : ∀ sig, parseMethodDescriptor x.desc = some sig → argsL.length = sig.parameters.length)
    (hstack : g.stack = argsL.reverse ++ .ref b :: rest) (hW : 2 * g.monitorRoom + (rest.map fun v => v.category).sum ≤ W) (hdg : decode c.code g.pc = .ok (.invokevirtual index, 3))
    (hpre : ∀ vm₁, s.WarmedH vm₁ → Pre ⟨T.setVm vm₁, locs, cells, slots⟩ (Value.ref b :: argsL).toArray) :
    (∃ (v : Option Value) (vm₁ : Vm) (B : Pt), s.WarmedH vm₁ ∧ Stand p l e R s m args below meth c B.U B.locs B.cells B.slots ∧ Post ⟨T.setVm vm₁, locs, cells, slots⟩ (Value.ref b :: argsL).toArray v B ∧
      ∀ target, Steps p.tables e below (B.U.setTop { g with pc := g.pc + 3, stack := v.toList ++ rest }) target → Steps p.tables e below (T.setTop g) target) ∨
    (∃ (q : Addr) (vm₁ : Vm) (B : Pt), s.WarmedH vm₁ ∧ Stand p l e R s m args below meth c B.U B.locs B.cells B.slots ∧ PostX ⟨T.setVm vm₁, locs, cells, slots⟩ (Value.ref b :: argsL).toArray q B ∧
      Steps p.tables e below (T.setTop g) ((B.U.setTop { g with stack := rest }).pushFrame (.throwing q))) := by
  obtain ⟨r0, r, hn, hrm, hstR, hsigR⟩ := hd0
  obtain ⟨cn, ck, r1, hcn, hck, hni, hf, hn1⟩ := Cond.sameMethod_found hsame
  cases hn.symm.trans hn1
  obtain ⟨mk, methM, hnamed, hmethM, -, habM⟩ := Cond.instanceMethod_spec hinst
  obtain ⟨c2, r2, m2, q1, q2, q3, q4, kP, hkP, hkPi⟩ := Cond.selects_spec hsel
  cases hcls.symm.trans q1
  cases hf.symm.trans q2
  cases hnamed.symm.trans q3
  have hselP : selectMethod e.platform s.vm cellB.cls r0 = .method mk := by rw [Launch.admits_selectMethod X.admits]; exact q4
  obtain ⟨vm₁, X₁, hstep₁⟩ := X.invokevirtualUp hexec hown hlink hsame howner hn hrm hstR (a := b) (cell := cellB) hcell
    (fun z h => by rw [h] at hobj; cases hobj) hselP hmethM habM hkP hkPi (g := g) hg (argsL := argsL) (rest := rest) (hlen _ hsigR) hstack hdg
  rcases hK m meth c ⟨T.setVm vm₁, locs, cells, slots⟩ { g with stack := rest } (.invokevirtual index) mk (Value.ref b :: argsL).toArray X₁ hg hsize hdg hW (X₁.named hnamed) (hpre vm₁ X₁.warmed) with ⟨v, B, X', hpost, hsteps⟩ | ⟨q, B, X', hpost, hsteps⟩
  · exact Or.inl ⟨v, vm₁, B, X₁.warmed, X', hpost, fun target h => hstep₁ _ fun acts => by rw [doInvoke_state]; exact hsteps.trans h⟩
  · exact Or.inr ⟨q, vm₁, B, X₁.warmed, X', hpost, hstep₁ _ fun acts => by rw [doInvoke_state]; exact hsteps⟩
theorem vx_runU {x y : MethodName} {bytes cc : ByteArray} {maxL nL mc ms n index : Nat} {ret : Option FieldType} {ws : List Cond} {rm : Room} {Pc : Array Value → State → Prop} {Qc : Array Value → State → Outcome → State → Prop} {XC : String → State → State → Prop} {free : Addr → Prop} {Ts : List Cond} {own C owner : String} {b : Addr} {As rest : List Value} {g : JFrame}
    (S : CallFix p m c cc nL s args Ts own) (hM : vx_Met l y ws rm Pc Qc XC mc ms free) (cw : va_CU R s args own C owner index x y bytes maxL ret ws rm mc ms n) (hp : PreV s H C b Pc As)
    (hg : g.method = m) (hn : As.length = n) (hsize : g.locals.size = nL) (hstack : g.stack = As.reverse ++ .ref b :: rest) (hW : 2 * g.monitorRoom + (rest.map fun v => v.category).sum ≤ 8) (hdg : decode cc g.pc = .ok (.invokevirtual index, 3)) (hf : cells + mc ≤ R.cells ∧ slots + ms ≤ R.slots) :
    vx_Run p l e R s m args below meth c H locs cells slots mc ms g rest (Qc (Value.ref b :: As).toArray) XC free := by
  obtain ⟨hrc, hrs, hfr, hlo, hws, hcw⟩ := cw.back
  have hini := cw.init
  have hK : vx_Back l R p e below s args y 3 8 (PreOf R mc ms Pc) (PostOf Qc mc ms free) (vx_Post XC mc ms free) := vx_back (bytes := bytes) (maxL := maxL) (ret := ret) hM hp.1 hrc hrs hfr hlo hws hcw (fun a' U hW => word_at hW (Or.inl (by first | rfl | simp [Cond.onTables, Cond.keeps, Cond.steady])) hini)
  obtain ⟨hx, hb, hml, ho, -⟩ := S
  obtain ⟨-, ⟨cellB, hcB, hoB, hclB⟩, hPc⟩ := hp
  intro T hT X
  rcases vx_callVU X hx (C := C) (owner := owner) (bytes := bytes) (maxL := maxL) (ret := ret) ho cw.link cw.same cw.decl cw.notMH cw.sel cw.inst cw.code hK (by rw [hT]; exact hcB) hoB hclB hg (hsize.trans hml.symm) (argsL := As) (rest := rest) (fun sig h => hn.trans (cw.len sig h)) hstack hW (by rw [hb]; exact hdg)
    (fun vm₁ hW₁ => ⟨hf.1, hf.2, hPc (T.setVm vm₁) hT hW₁⟩) with ⟨v, vm₁, ⟨U', l2, c2, s2⟩, hW₁, X', ⟨g', mk, t, L, e1, e2, hq, h1, hL, h2, h3⟩, st⟩ | ⟨q, vm₁, ⟨U', l2, c2, s2⟩, hW₁, X', ⟨g', mk, t, L, E, ce, e1, e2, hq, hce, hcv, hcl, h1, hL, h2, h3⟩, st⟩
  · dsimp only [Pt.U, Pt.locs, Pt.cells, Pt.slots] at X' e1 e2 h1 h2 h3 st
    subst h1; subst h2; subst h3
    exact Or.inl ⟨v, (T.setVm vm₁).calling g' mk (Value.ref b :: As).toArray, t, U', L, hT, X', hL, e1, e2, hq, st⟩
  · dsimp only [Pt.U, Pt.locs, Pt.cells, Pt.slots] at X' e1 e2 h1 h2 h3 st hcl
    subst h1; subst h2; subst h3
    exact Or.inr ⟨q, (T.setVm vm₁).calling g' mk (Value.ref b :: As).toArray, t, U', L, E, ce, hT, X', hL, e1, e2, hq, hce, hcv, vx_cls hW₁ hcl, st⟩
end
/-! ===== END ===== -/
/-! ===== BEGIN super.m(..) that may throw (follows va_callSU, va_runSU) ===== -/
section
variable {p : Program} {l : Launch} {e : Env} {R : Room} {s : State} {m : MethodId} {args : Array Value} {below : List Frame} {meth : Method} {c : Code} {H : Heap} {locs : List Loc} {cells slots : Nat}
theorem vx_callSU {T : State} {locs : List Loc} {cells slots : Nat} (X : Stand p l e R s m args below meth c T locs cells slots) (hexec : p.tables.exec = Jvm.exec) {own : String} {index : Nat} {y : MethodName} {bytes : ByteArray} {maxL : Nat} {ret : Option FieldType}
    (hown : s.vm.findClass own = some m.cls) (hlink : (Cond.methodLink own index y).before args s = true) (hsame : (Cond.sameMethod y.cls y.cls y.name y.desc).before args s = true) (hsup : (Cond.superclass own y.cls).before args s = true)
    (hinst : (Cond.instanceMethod y).before args s = true) (hcode : (Cond.code y bytes maxL ret).before args s = true) (hno : y.name ≠ "<init>")
    {W : Nat} {Pre : Pt → Array Value → Prop} {Post : Pt → Array Value → Option Value → Pt → Prop} {PostX : Pt → Array Value → Addr → Pt → Prop} (hK : vx_Back l R p e below s args y 3 W Pre Post PostX)
    {b : Addr} {cellB : Cell} {kB : Class} (hcell : T.heap[b]? = some cellB) (hobj : cellB.vm.isStatics = false) (hkB : s.vm.classes[cellB.cls]? = some kB)
    {g : JFrame} (hg : g.method = m) (hsize : g.locals.size = c.maxLocals) {argsL rest : List Value} (hlen : ∀ sig, parseMethodDescriptor y.desc = some sig → argsL.length = sig.parameters.length)
    (hstack : g.stack = argsL.reverse ++ .ref b :: rest) (hW : 2 * g.monitorRoom + (rest.map fun v => v.category).sum ≤ W) (hdg : decode c.code g.pc = .ok (.invokespecial index, 3))
    (hpre : ∀ vm₁, s.WarmedH vm₁ → Pre ⟨T.setVm vm₁, locs, cells, slots⟩ (Value.ref b :: argsL).toArray) :
    (∃ (v : Option Value) (vm₁ : Vm) (B : Pt), s.WarmedH vm₁ ∧ Stand p l e R s m args below meth c B.U B.locs B.cells B.slots ∧ Post ⟨T.setVm vm₁, locs, cells, slots⟩ (Value.ref b :: argsL).toArray v B ∧
      ∀ target, Steps p.tables e below (B.U.setTop { g with pc := g.pc + 3, stack := v.toList ++ rest }) target → Steps p.tables e below (T.setTop g) target) ∨
    (∃ (q : Addr) (vm₁ : Vm) (B : Pt), s.WarmedH vm₁ ∧ Stand p l e R s m args below meth c B.U B.locs B.cells B.slots ∧ PostX ⟨T.setVm vm₁, locs, cells, slots⟩ (Value.ref b :: argsL).toArray q B ∧
      Steps p.tables e below (T.setTop g) ((B.U.setTop { g with stack := rest }).pushFrame (.throwing q))) := by
  obtain ⟨mk, methM, hnamed, hmethM, hstM, habM⟩ := Cond.instanceMethod_spec hinst
  obtain ⟨methM', cM, hmethM', -, -, -, -, -, -, hsigM⟩ := Cond.code_spec hnamed hcode
  cases hmethM.symm.trans hmethM'
  obtain ⟨ps, dk, kp, hps, hdk, hkp, hsuper, -, -, hnid⟩ := Cond.superclass_spec hown hsup
  have hn : s.methodNamed? ⟨y.cls, y.name, y.desc⟩ = some mk := hnamed
  have hpm : ps = mk.cls := Option.some.inj (hps.symm.trans (findClass_of_methodNamed hnamed))
  have hsub : s.vm.isSubclass ps mk.cls = true := by rw [hpm]; simp [Vm.isSubclass, Vm.isSubclassAux]
  obtain ⟨vm₁, X₁, hstep₁⟩ := X.invokespecialUp hexec hown hlink hsame hn hmethM hstM habM hno hdk hnid hps hsuper hsub (a := b) (cell := cellB) hcell
    (fun z h => by rw [h] at hobj; cases hobj) hkB (g := g) hg (argsL := argsL) (rest := rest) (hlen _ hsigM) hstack hdg
  rcases hK m meth c ⟨T.setVm vm₁, locs, cells, slots⟩ { g with stack := rest } (.invokespecial index) mk (Value.ref b :: argsL).toArray X₁ hg hsize hdg hW (X₁.named hnamed) (hpre vm₁ X₁.warmed) with ⟨v, B, X', hpost, hsteps⟩ | ⟨q, B, X', hpost, hsteps⟩
  · exact Or.inl ⟨v, vm₁, B, X₁.warmed, X', hpost, fun target h => hstep₁ _ (by rw [doInvoke_state]; exact hsteps.trans h)⟩
  · exact Or.inr ⟨q, vm₁, B, X₁.warmed, X', hpost, hstep₁ _ (by rw [doInvoke_state]; exact hsteps)⟩
theorem vx_runSU {y : MethodName} {bytes cc : ByteArray} {maxL nL mc ms n index : Nat} {ret : Option FieldType} {ws : List Cond} {rm : Room} {Pc : Array Value → State → Prop} {Qc : Array Value → State → Outcome → State → Prop} {XC : String → State → State → Prop} {free : Addr → Prop} {Ts : List Cond} {own C : String} {cC : ClassId} {b : Addr} {As rest : List Value} {g : JFrame}
    (hat : ClassAt s C cC) (S : CallFix p m c cc nL s args Ts own) (hM : vx_Met l y ws rm Pc Qc XC mc ms free) (cw : va_CS R s args own index y bytes maxL ret ws rm mc ms n) (hp : PreV s H C b Pc As)
    (hg : g.method = m) (hn : As.length = n) (hsize : g.locals.size = nL) (hstack : g.stack = As.reverse ++ .ref b :: rest) (hW : 2 * g.monitorRoom + (rest.map fun v => v.category).sum ≤ 8) (hdg : decode cc g.pc = .ok (.invokespecial index, 3)) (hf : cells + mc ≤ R.cells ∧ slots + ms ≤ R.slots) :
    vx_Run p l e R s m args below meth c H locs cells slots mc ms g rest (Qc (Value.ref b :: As).toArray) XC free := by
  obtain ⟨⟨hrc, hrs, hfr, hlo, hws, hcw⟩, hl1, hl2, hl3, hl4, hini, hcode, hno, hlen⟩ := cw
  have hK : vx_Back l R p e below s args y 3 8 (PreOf R mc ms Pc) (PostOf Qc mc ms free) (vx_Post XC mc ms free) := vx_back (bytes := bytes) (maxL := maxL) (ret := ret) hM hp.1 hrc hrs hfr hlo hws hcw (fun a' U hW => word_at hW (Or.inl (by first | rfl | simp [Cond.onTables, Cond.keeps, Cond.steady])) hini)
  obtain ⟨hx, hb, hml, ho, -⟩ := S
  obtain ⟨-, ⟨cellB, hcB, hoB, hclB⟩, hPc⟩ := hp
  obtain ⟨hfc, kB, hkB, -⟩ := hat
  cases hfc.symm.trans hclB
  intro T hT X
  rcases vx_callSU X hx (bytes := bytes) (maxL := maxL) (ret := ret) ho hl1 hl2 hl3 hl4 hcode hno hK (by rw [hT]; exact hcB) hoB hkB hg (hsize.trans hml.symm) (argsL := As) (rest := rest) (fun sig h => hn.trans (hlen sig h)) hstack hW (by rw [hb]; exact hdg)
    (fun vm₁ hW₁ => ⟨hf.1, hf.2, hPc (T.setVm vm₁) hT hW₁⟩) with ⟨v, vm₁, ⟨U', l2, c2, s2⟩, hW₁, X', ⟨g', mk, t, L, e1, e2, hq, h1, hL, h2, h3⟩, st⟩ | ⟨q, vm₁, ⟨U', l2, c2, s2⟩, hW₁, X', ⟨g', mk, t, L, E, ce, e1, e2, hq, hce, hcv, hcl, h1, hL, h2, h3⟩, st⟩
  · dsimp only [Pt.U, Pt.locs, Pt.cells, Pt.slots] at X' e1 e2 h1 h2 h3 st
    subst h1; subst h2; subst h3
    exact Or.inl ⟨v, (T.setVm vm₁).calling g' mk (Value.ref b :: As).toArray, t, U', L, hT, X', hL, e1, e2, hq, st⟩
  · dsimp only [Pt.U, Pt.locs, Pt.cells, Pt.slots] at X' e1 e2 h1 h2 h3 st hcl
    subst h1; subst h2; subst h3
    exact Or.inr ⟨q, (T.setVm vm₁).calling g' mk (Value.ref b :: As).toArray, t, U', L, E, ce, hT, X', hL, e1, e2, hq, hce, hcv, vx_cls hW₁ hcl, st⟩
end
/-! ===== END ===== -/
/-! ===== BEGIN a private method of a nest mate that may throw (follows va_callVN, va_callSN, va_runVN, va_runSN) ===== -/
section
variable {p : Program} {l : Launch} {e : Env} {R : Room} {s : State} {m : MethodId} {args : Array Value} {below : List Frame} {meth : Method} {c : Code} {H : Heap} {locs : List Loc} {cells slots : Nat}
variable {T : State}
theorem vx_callVN (X : Stand p l e R s m args below meth c T locs cells slots) (hexec : p.tables.exec = Jvm.exec) {own C : String} {index : Nat} {host : String} {y : MethodName} {bytes : ByteArray} {maxL : Nat} {ret : Option FieldType}
    (hown : s.vm.findClass own = some m.cls) (hlink : (Cond.methodLinkNest own index y host).before args s = true) (hinst : (Cond.instanceMethod y).before args s = true) (hsel : (Cond.selects C y y).before args s = true)
    (hcode : (Cond.code y bytes maxL ret).before args s = true) (hy : y.cls ≠ "java/lang/invoke/MethodHandle" ∧ y.cls ≠ "java/lang/invoke/VarHandle")
    {W : Nat} {Pre : Pt → Array Value → Prop} {Post : Pt → Array Value → Option Value → Pt → Prop} {PostX : Pt → Array Value → Addr → Pt → Prop} (hK : vx_Back l R p e below s args y 3 W Pre Post PostX)
    {b : Addr} {cellB : Cell} (hcell : T.heap[b]? = some cellB) (hobj : cellB.vm.isStatics = false) (hcls : s.vm.findClass C = some cellB.cls)
    {g : JFrame} (hg : g.method = m) (hsize : g.locals.size = c.maxLocals) {argsL rest : List Value} (hlen : ∀ sig, parseMethodDescriptor y.desc = some sig → argsL.length = sig.parameters.length)
    (hstack : g.stack = argsL.reverse ++ .ref b :: rest) (hW : 2 * g.monitorRoom + (rest.map fun v => v.category).sum ≤ W) (hdg : decode c.code g.pc = .ok (.invokevirtual index, 3))
    (hpre : ∀ vm₁, s.WarmedH vm₁ → Pre ⟨T.setVm vm₁, locs, cells, slots⟩ (Value.ref b :: argsL).toArray) :
    (∃ (v : Option Value) (vm₁ : Vm) (B : Pt), s.WarmedH vm₁ ∧ Stand p l e R s m args below meth c B.U B.locs B.cells B.slots ∧ Post ⟨T.setVm vm₁, locs, cells, slots⟩ (Value.ref b :: argsL).toArray v B ∧
      ∀ target, Steps p.tables e below (B.U.setTop { g with pc := g.pc + 3, stack := v.toList ++ rest }) target → Steps p.tables e below (T.setTop g) target) ∨
    (∃ (q : Addr) (vm₁ : Vm) (B : Pt), s.WarmedH vm₁ ∧ Stand p l e R s m args below meth c B.U B.locs B.cells B.slots ∧ PostX ⟨T.setVm vm₁, locs, cells, slots⟩ (Value.ref b :: argsL).toArray q B ∧
      Steps p.tables e below (T.setTop g) ((B.U.setTop { g with stack := rest }).pushFrame (.throwing q))) := by
  obtain ⟨mk, methM, hnamed, hmethM, hstM, habM⟩ := Cond.instanceMethod_spec hinst
  obtain ⟨methM', cM, hmethM', -, -, -, -, -, -, hsigM⟩ := Cond.code_spec hnamed hcode
  cases hmethM.symm.trans hmethM'
  obtain ⟨c2, r2, m2, q1, q2, q3, q4, kP, hkP, hkPi⟩ := Cond.selects_spec hsel
  cases hcls.symm.trans q1
  cases (State.methodFound?_of_named hnamed hy).symm.trans q2
  cases hnamed.symm.trans q3
  have hselP : selectMethod e.platform s.vm cellB.cls mk = .method mk := by rw [Launch.admits_selectMethod X.admits]; exact q4
  obtain ⟨vm₁, X₁, hstep₁⟩ := X.invokevirtualNest hexec hown hlink hnamed hmethM hstM hkP hkPi hy (a := b) (cell := cellB) hcell
    (fun z h => by rw [h] at hobj; cases hobj) hselP hmethM habM hkP hkPi (g := g) hg (argsL := argsL) (rest := rest) (hlen _ hsigM) hstack hdg
  rcases hK m meth c ⟨T.setVm vm₁, locs, cells, slots⟩ { g with stack := rest } (.invokevirtual index) mk (Value.ref b :: argsL).toArray X₁ hg hsize hdg hW (X₁.named hnamed) (hpre vm₁ X₁.warmed) with ⟨v, B, X', hpost, hsteps⟩ | ⟨q, B, X', hpost, hsteps⟩
  · exact Or.inl ⟨v, vm₁, B, X₁.warmed, X', hpost, fun target h => hstep₁ _ fun acts => by rw [doInvoke_state]; exact hsteps.trans h⟩
  · exact Or.inr ⟨q, vm₁, B, X₁.warmed, X', hpost, hstep₁ _ fun acts => by rw [doInvoke_state]; exact hsteps⟩
theorem vx_callSN (X : Stand p l e R s m args below meth c T locs cells slots) (hexec : p.tables.exec = Jvm.exec) {own : String} {index : Nat} {host : String} {y : MethodName} {bytes : ByteArray} {maxL : Nat} {ret : Option FieldType}
    (hown : s.vm.findClass own = some m.cls) (hlink : (Cond.methodLinkNest own index y host).before args s = true) (hstat : (Cond.static y).before args s = true) (hinit : (Cond.initialized y.cls).before args s = true)
    (hcode : (Cond.code y bytes maxL ret).before args s = true) (hy : y.cls ≠ "java/lang/invoke/MethodHandle" ∧ y.cls ≠ "java/lang/invoke/VarHandle")
    {W : Nat} {Pre : Pt → Array Value → Prop} {Post : Pt → Array Value → Option Value → Pt → Prop} {PostX : Pt → Array Value → Addr → Pt → Prop} (hK : vx_Back l R p e below s args y 3 W Pre Post PostX)
    {g : JFrame} (hg : g.method = m) (hsize : g.locals.size = c.maxLocals) {argsL rest : List Value} (hlen : ∀ sig, parseMethodDescriptor y.desc = some sig → argsL.length = sig.parameters.length)
    (hstack : g.stack = argsL.reverse ++ rest) (hW : 2 * g.monitorRoom + (rest.map fun v => v.category).sum ≤ W) (hdg : decode c.code g.pc = .ok (.invokestatic index, 3))
    (hpre : ∀ vm₁, s.WarmedH vm₁ → Pre ⟨T.setVm vm₁, locs, cells, slots⟩ argsL.toArray) :
    (∃ (v : Option Value) (vm₁ : Vm) (B : Pt), s.WarmedH vm₁ ∧ Stand p l e R s m args below meth c B.U B.locs B.cells B.slots ∧ Post ⟨T.setVm vm₁, locs, cells, slots⟩ argsL.toArray v B ∧
      ∀ target, Steps p.tables e below (B.U.setTop { g with pc := g.pc + 3, stack := v.toList ++ rest }) target → Steps p.tables e below (T.setTop g) target) ∨
    (∃ (q : Addr) (vm₁ : Vm) (B : Pt), s.WarmedH vm₁ ∧ Stand p l e R s m args below meth c B.U B.locs B.cells B.slots ∧ PostX ⟨T.setVm vm₁, locs, cells, slots⟩ argsL.toArray q B ∧
      Steps p.tables e below (T.setTop g) ((B.U.setTop { g with stack := rest }).pushFrame (.throwing q))) := by
  obtain ⟨mk, hnamed⟩ := Cond.code_named hcode
  obtain ⟨methM, cM, hmethM, -, -, -, -, -, -, hsigM⟩ := Cond.code_spec hnamed hcode
  have hstatic : methM.isStatic = true := Cond.static_spec hnamed hmethM hstat
  obtain ⟨kP, hkP, -⟩ := className_of_methodNamed hnamed
  have hinitP : kP.init = .initialized := Cond.initialized_spec (findClass_of_methodNamed hnamed) hkP hinit
  obtain ⟨vm₁, X₁, hstep₁⟩ := X.invokestaticNest hexec hown hlink hnamed hmethM hstatic hkP hinitP hy (g := g) hg (argsL := argsL) (rest := rest) (hlen _ hsigM) hstack hdg
  rcases hK m meth c ⟨T.setVm vm₁, locs, cells, slots⟩ { g with stack := rest } (.invokestatic index) mk argsL.toArray X₁ hg hsize hdg hW (X₁.named hnamed) (hpre vm₁ X₁.warmed) with ⟨v, B, X', hpost, hsteps⟩ | ⟨q, B, X', hpost, hsteps⟩
  · exact Or.inl ⟨v, vm₁, B, X₁.warmed, X', hpost, fun target h => hstep₁ _ fun acts => by rw [doInvoke_state]; exact hsteps.trans h⟩
  · exact Or.inr ⟨q, vm₁, B, X₁.warmed, X', hpost, hstep₁ _ fun acts => by rw [doInvoke_state]; exact hsteps⟩
theorem vx_runVN {y : MethodName} {bytes cc : ByteArray} {maxL nL mc ms n index : Nat} {ret : Option FieldType} {ws : List Cond} {rm : Room} {Pc : Array Value → State → Prop} {Qc : Array Value → State → Outcome → State → Prop} {XC : String → State → State → Prop} {free : Addr → Prop} {Ts : List Cond} {own C host : String} {b : Addr} {As rest : List Value} {g : JFrame}
    (S : CallFix p m c cc nL s args Ts own) (hM : vx_Met l y ws rm Pc Qc XC mc ms free) (cw : va_CN R s args own index y host bytes maxL ret ws rm mc ms n ∧ (Cond.instanceMethod y).before args s = true ∧ (Cond.selects C y y).before args s = true) (hp : PreV s H C b Pc As)
    (hg : g.method = m) (hn : As.length = n) (hsize : g.locals.size = nL) (hstack : g.stack = As.reverse ++ .ref b :: rest) (hW : 2 * g.monitorRoom + (rest.map fun v => v.category).sum ≤ 8) (hdg : decode cc g.pc = .ok (.invokevirtual index, 3)) (hf : cells + mc ≤ R.cells ∧ slots + ms ≤ R.slots) :
    vx_Run p l e R s m args below meth c H locs cells slots mc ms g rest (Qc (Value.ref b :: As).toArray) XC free := by
  obtain ⟨⟨⟨hrc, hrs, hfr, hlo, hws, hcw⟩, hcode, hini, hy, hlen, hl⟩, hx1, hx2⟩ := cw
  have hK : vx_Back l R p e below s args y 3 8 (PreOf R mc ms Pc) (PostOf Qc mc ms free) (vx_Post XC mc ms free) := vx_back (bytes := bytes) (maxL := maxL) (ret := ret) hM hp.1 hrc hrs hfr hlo hws hcw (fun a' U hW => word_at hW (Or.inl (by first | rfl | simp [Cond.onTables, Cond.keeps, Cond.steady])) hini)
  obtain ⟨hx, hb, hml, ho, -⟩ := S
  obtain ⟨-, ⟨cellB, hcB, hoB, hclB⟩, hPc⟩ := hp
  intro T hT X
  rcases vx_callVN X hx (C := C) (bytes := bytes) (maxL := maxL) (ret := ret) ho hl hx1 hx2 hcode hy hK (by rw [hT]; exact hcB) hoB hclB hg (hsize.trans hml.symm) (argsL := As) (rest := rest) (fun sig h => hn.trans (hlen sig h)) hstack hW (by rw [hb]; exact hdg)
    (fun vm₁ hW₁ => ⟨hf.1, hf.2, hPc (T.setVm vm₁) hT hW₁⟩) with ⟨v, vm₁, ⟨U', l2, c2, s2⟩, hW₁, X', ⟨g', mk, t, L, e1, e2, hq, h1, hL, h2, h3⟩, st⟩ | ⟨q, vm₁, ⟨U', l2, c2, s2⟩, hW₁, X', ⟨g', mk, t, L, E, ce, e1, e2, hq, hce, hcv, hcl, h1, hL, h2, h3⟩, st⟩
  · dsimp only [Pt.U, Pt.locs, Pt.cells, Pt.slots] at X' e1 e2 h1 h2 h3 st
    subst h1; subst h2; subst h3
    exact Or.inl ⟨v, (T.setVm vm₁).calling g' mk (Value.ref b :: As).toArray, t, U', L, hT, X', hL, e1, e2, hq, st⟩
  · dsimp only [Pt.U, Pt.locs, Pt.cells, Pt.slots] at X' e1 e2 h1 h2 h3 st hcl
    subst h1; subst h2; subst h3
    exact Or.inr ⟨q, (T.setVm vm₁).calling g' mk (Value.ref b :: As).toArray, t, U', L, E, ce, hT, X', hL, e1, e2, hq, hce, hcv, vx_cls hW₁ hcl, st⟩
theorem vx_runSN {y : MethodName} {bytes cc : ByteArray} {maxL nL mc ms n index : Nat} {ret : Option FieldType} {ws : List Cond} {rm : Room} {Pc : Array Value → State → Prop} {Qc : Array Value → State → Outcome → State → Prop} {XC : String → State → State → Prop} {free : Addr → Prop} {Ts : List Cond} {own host : String} {As rest : List Value} {g : JFrame}
    (S : CallFix p m c cc nL s args Ts own) (hM : vx_Met l y ws rm Pc Qc XC mc ms free) (cw : va_CN R s args own index y host bytes maxL ret ws rm mc ms n ∧ (Cond.static y).before args s = true ∧ True) (hp : PreS s H Pc As)
    (hg : g.method = m) (hn : As.length = n) (hsize : g.locals.size = nL) (hstack : g.stack = As.reverse ++ rest) (hW : 2 * g.monitorRoom + (rest.map fun v => v.category).sum ≤ 8) (hdg : decode cc g.pc = .ok (.invokestatic index, 3)) (hf : cells + mc ≤ R.cells ∧ slots + ms ≤ R.slots) :
    vx_Run p l e R s m args below meth c H locs cells slots mc ms g rest (Qc As.toArray) XC free := by
  obtain ⟨⟨⟨hrc, hrs, hfr, hlo, hws, hcw⟩, hcode, hini, hy, hlen, hl⟩, hx1, hx2⟩ := cw
  have hK : vx_Back l R p e below s args y 3 8 (PreOf R mc ms Pc) (PostOf Qc mc ms free) (vx_Post XC mc ms free) := vx_back (bytes := bytes) (maxL := maxL) (ret := ret) hM hp.1 hrc hrs hfr hlo hws hcw (fun a' U hW => word_at hW (Or.inl (by first | rfl | simp [Cond.onTables, Cond.keeps, Cond.steady])) hini)
  obtain ⟨hx, hb, hml, ho, -⟩ := S
  have hPc := hp.2
  intro T hT X
  rcases vx_callSN X hx (bytes := bytes) (maxL := maxL) (ret := ret) ho hl hx1 hini hcode hy hK hg (hsize.trans hml.symm) (argsL := As) (rest := rest) (fun sig h => hn.trans (hlen sig h)) hstack hW (by rw [hb]; exact hdg)
    (fun vm₁ hW₁ => ⟨hf.1, hf.2, hPc (T.setVm vm₁) hT hW₁⟩) with ⟨v, vm₁, ⟨U', l2, c2, s2⟩, hW₁, X', ⟨g', mk, t, L, e1, e2, hq, h1, hL, h2, h3⟩, st⟩ | ⟨q, vm₁, ⟨U', l2, c2, s2⟩, hW₁, X', ⟨g', mk, t, L, E, ce, e1, e2, hq, hce, hcv, hcl, h1, hL, h2, h3⟩, st⟩
  · dsimp only [Pt.U, Pt.locs, Pt.cells, Pt.slots] at X' e1 e2 h1 h2 h3 st
    subst h1; subst h2; subst h3
    exact Or.inl ⟨v, (T.setVm vm₁).calling g' mk As.toArray, t, U', L, hT, X', hL, e1, e2, hq, st⟩
  · dsimp only [Pt.U, Pt.locs, Pt.cells, Pt.slots] at X' e1 e2 h1 h2 h3 st hcl
    subst h1; subst h2; subst h3
    exact Or.inr ⟨q, (T.setVm vm₁).calling g' mk As.toArray, t, U', L, E, ce, hT, X', hL, e1, e2, hq, hce, hcv, vx_cls hW₁ hcl, st⟩
end
/-! ===== END ===== -/
/-! ===== BEGIN calls by an interface of methods that may throw (vx_callIF, vx_runF follow va_callIF, va_runF of this kit) ===== -/
section
variable {p : Program} {l : Launch} {e : Env} {R : Room} {s : State} {m : MethodId} {args : Array Value} {below : List Frame} {meth : Method} {c : Code} {H : Heap} {locs : List Loc} {cells slots : Nat} {Q : State → Prop}
variable {mc ms : Nat} {free : Addr → Prop} {A0 A1 : Nat → Prop} {H0 : Heap} {a : Array Value} {pc : Nat} {ls : Array Slot} {st0 rest : List Value}
def vx_Run5 (p : Program) (l : Launch) (e : Env) (R : Room) (s : State) (m : MethodId) (args : Array Value) (below : List Frame) (meth : Method) (c : Code) (H : Heap) (locs : List Loc) (cells slots mc ms : Nat) (g : JFrame) (rest : List Value) (Qa : State → Outcome → State → Prop) (XC : String → State → State → Prop) (free : Addr → Prop) : Prop :=
  ∀ T : State, T.heap = H → Stand p l e R s m args below meth c T locs cells slots →
    (∃ (v : Option Value) (st₀ t T' : State) (L : List Loc), st₀.heap = H ∧ Stand p l e R s m args below meth c T' (locs ++ L) (cells + mc) (slots + ms) ∧ (∀ q ∈ L, free q.base) ∧ T'.heap = t.heap ∧ T'.vm = t.vm ∧ Qa st₀ (.returned v) t ∧
      Goes p e below T g T' { g with pc := g.pc + 5, stack := v.toList ++ rest }) ∨
    (∃ (q : Addr) (st₀ t T' : State) (L : List Loc) (E : String) (ce : Cell), st₀.heap = H ∧ Stand p l e R s m args below meth c T' (locs ++ L) (cells + mc) (slots + ms) ∧ (∀ z ∈ L, free z.base) ∧ T'.heap = t.heap ∧ T'.vm = t.vm ∧ XC E st₀ t ∧ t.heap[q]? = some ce ∧ ce.vm = .none ∧ s.vm.findClass E = some ce.cls ∧
      Steps p.tables e below (T.setTop g) ((T'.setTop { g with stack := rest }).pushFrame (.throwing q)))
theorem vx_callIF {T : State} (X : Stand p l e R s m args below meth c T locs cells slots) (hexec : p.tables.exec = Jvm.exec) {own C : String} {index count : Nat} {x y : MethodName} {bytes : ByteArray} {maxL : Nat} {ret : Option FieldType}
    (hown : s.vm.findClass own = some m.cls) (hlink : (Cond.methodLink own index x).before args s = true) (hdecl : (Cond.declares x).before args s = true) (hface : (Cond.interfaceMethod x.cls x.cls x.name x.desc).before args s = true)
    (hsel : (Cond.selects C x y).before args s = true) (hinst : (Cond.instanceMethod y).before args s = true) (hpub : (Cond.publicMethod y).before args s = true) (hunh : (Cond.unhidden C x.name x.desc).before args s = true)
    (hcast : (Cond.castable C x.cls).before args s = true) (hcode : (Cond.code y bytes maxL ret).before args s = true) (hx : x.cls ≠ "java/lang/invoke/MethodHandle" ∧ x.cls ≠ "java/lang/invoke/VarHandle")
    {W9 : Nat} {Pre : Pt → Array Value → Prop} {Post : Pt → Array Value → Option Value → Pt → Prop} {PostX : Pt → Array Value → Addr → Pt → Prop} (hK : vx_Back l R p e below s args y 5 W9 Pre Post PostX)
    {b : Addr} {cellB : Cell} {kB : Class} (hcell : T.heap[b]? = some cellB) (hobj : cellB.vm.isStatics = false) (hcls : s.vm.findClass C = some cellB.cls) (hkB : s.vm.classes[cellB.cls]? = some kB)
    {g : JFrame} (hg : g.method = m) (hsize : g.locals.size = c.maxLocals) {argsL rest : List Value} (hlen : ∀ sig, parseMethodDescriptor x.desc = some sig → argsL.length = sig.parameters.length)
    (hstack : g.stack = argsL.reverse ++ .ref b :: rest) (hW : 2 * g.monitorRoom + (rest.map fun v => v.category).sum ≤ W9) (hdg : decode c.code g.pc = .ok (.invokeinterface index count, 5))
    (hpre : ∀ vm₁, s.WarmedH vm₁ → Pre ⟨T.setVm vm₁, locs, cells, slots⟩ (Value.ref b :: argsL).toArray) :
    (∃ (v : Option Value) (vm₁ : Vm) (B : Pt), s.WarmedH vm₁ ∧ Stand p l e R s m args below meth c B.U B.locs B.cells B.slots ∧ Post ⟨T.setVm vm₁, locs, cells, slots⟩ (Value.ref b :: argsL).toArray v B ∧
      ∀ target, Steps p.tables e below (B.U.setTop { g with pc := g.pc + 5, stack := v.toList ++ rest }) target → Steps p.tables e below (T.setTop g) target) ∨
    (∃ (q : Addr) (vm₁ : Vm) (B : Pt), s.WarmedH vm₁ ∧ Stand p l e R s m args below meth c B.U B.locs B.cells B.slots ∧ PostX ⟨T.setVm vm₁, locs, cells, slots⟩ (Value.ref b :: argsL).toArray q B ∧
      Steps p.tables e below (T.setTop g) ((B.U.setTop { g with stack := rest }).pushFrame (.throwing q))) := by
  obtain ⟨r0, r, hn, hrm, hstR, hsigR⟩ := Cond.declares_spec hdecl
  obtain ⟨cL, kL, r1, hcL, hkL, hiL, hfoundL, hn1⟩ := Cond.interfaceMethod_spec hface
  cases hn.symm.trans hn1
  have hr0cls : r0.cls = cL := Option.some.inj ((findClass_of_methodNamed hn).symm.trans hcL)
  obtain ⟨hnameR, hdescR⟩ := name_of_methodNamed hn hrm
  obtain ⟨mk, methM, hnamed, hmethM, -, habM⟩ := Cond.instanceMethod_spec hinst
  obtain ⟨c2, r2, m2, q1, q2, q3, q4, -⟩ := Cond.selects_spec hsel
  cases hcls.symm.trans q1
  cases hfoundL.symm.trans q2
  cases hnamed.symm.trans q3
  have hselP : selectMethod e.platform s.vm cellB.cls r0 = .method mk := by rw [Launch.admits_selectMethod X.admits]; exact q4
  have hpubM : hasFlag methM.accessFlags Acc.public_ = true := Cond.publicMethod_spec hnamed hmethM hpub
  have hway : ((cellB.cls :: s.vm.superclasses cellB.cls).any fun k => (declaredIn s.vm r.name r.desc k).any fun (_, z) => z.isPrivate || z.isStatic) = false := by
    rw [hnameR, hdescR]; exact Cond.unhidden_spec hcls hunh
  obtain ⟨c3, t3, w1, w2, w3⟩ := Cond.castable_spec hcast
  cases hcls.symm.trans w1
  cases hcL.symm.trans w2
  obtain ⟨vm₁, X₁, hstep₁⟩ := X.invokeinterface hexec hown hlink hn hrm hstR (by rw [hr0cls]; exact hkL) hiL hx (a := b) (cell := cellB) (kcell := kB) hcell
    (fun z h => by rw [h] at hobj; cases hobj) hkB (by rw [hr0cls]; exact w3) hselP hmethM hway hpubM habM (g := g) hg (argsL := argsL) (rest := rest) (hlen _ hsigR) hstack hdg
  rcases hK m meth c ⟨T.setVm vm₁, locs, cells, slots⟩ { g with stack := rest } (.invokeinterface index count) mk (Value.ref b :: argsL).toArray X₁ hg hsize hdg hW (X₁.named hnamed) (hpre vm₁ X₁.warmed) with ⟨v, B, X', hpost, hsteps⟩ | ⟨q, B, X', hpost, hsteps⟩
  · exact Or.inl ⟨v, vm₁, B, X₁.warmed, X', hpost, fun target h => hstep₁ _ fun acts => by rw [doInvoke_state]; exact hsteps.trans h⟩
  · exact Or.inr ⟨q, vm₁, B, X₁.warmed, X', hpost, hstep₁ _ fun acts => by rw [doInvoke_state]; exact hsteps⟩
theorem vx_runF {x y : MethodName} {bytes cc : ByteArray} {maxL nL mc ms n index count : Nat} {ret : Option FieldType} {ws : List Cond} {rm : Room} {Pc : Array Value → State → Prop} {Qc : Array Value → State → Outcome → State → Prop} {XC : String → State → State → Prop} {free : Addr → Prop} {Ts : List Cond} {own C : String} {cC : ClassId} {b : Addr} {As rest : List Value} {g : JFrame}
    (hat : ClassAt s C cC) (S : CallFix p m c cc nL s args Ts own) (hM : vx_Met l y ws rm Pc Qc XC mc ms free) (cw : va_CI R s args own C index x y bytes maxL ret ws rm mc ms n) (hp : PreV s H C b Pc As)
    (hg : g.method = m) (hn : As.length = n) (hsize : g.locals.size = nL) (hstack : g.stack = As.reverse ++ .ref b :: rest) (hW : 2 * g.monitorRoom + (rest.map fun v => v.category).sum ≤ 8) (hdg : decode cc g.pc = .ok (.invokeinterface index count, 5)) (hf : cells + mc ≤ R.cells ∧ slots + ms ≤ R.slots) :
    vx_Run5 p l e R s m args below meth c H locs cells slots mc ms g rest (Qc (Value.ref b :: As).toArray) XC free := by
  obtain ⟨hrc, hrs, hfr, hlo, hws, hcw⟩ := cw.back
  have hini := cw.init
  have hK : vx_Back l R p e below s args y 5 8 (PreOf R mc ms Pc) (PostOf Qc mc ms free) (vx_Post XC mc ms free) := vx_back (bytes := bytes) (maxL := maxL) (ret := ret) hM hp.1 hrc hrs hfr hlo hws hcw (fun a' U hW => word_at hW (Or.inl (by first | rfl | simp [Cond.onTables, Cond.keeps, Cond.steady])) hini)
  obtain ⟨hx, hb, hml, ho, -⟩ := S
  obtain ⟨-, ⟨cellB, hcB, hoB, hclB⟩, hPc⟩ := hp
  obtain ⟨hfc, kB, hkB, -⟩ := hat
  cases hfc.symm.trans hclB
  intro T hT X
  rcases vx_callIF X hx (C := C) (bytes := bytes) (maxL := maxL) (ret := ret) ho cw.link cw.decl cw.face cw.sel cw.inst cw.pub cw.unh cw.cast cw.code cw.notMH hK (by rw [hT]; exact hcB) hoB hclB hkB hg (hsize.trans hml.symm) (argsL := As) (rest := rest) (fun sig h => hn.trans (cw.len sig h)) hstack hW (by rw [hb]; exact hdg)
    (fun vm₁ hW₁ => ⟨hf.1, hf.2, hPc (T.setVm vm₁) hT hW₁⟩) with ⟨v, vm₁, ⟨U', l2, c2, s2⟩, hW₁, X', ⟨g', mk, t, L, e1, e2, hq, h1, hL, h2, h3⟩, st⟩ | ⟨q, vm₁, ⟨U', l2, c2, s2⟩, hW₁, X', ⟨g', mk, t, L, E, ce, e1, e2, hq, hce, hcv, hcl, h1, hL, h2, h3⟩, st⟩
  · dsimp only [Pt.U, Pt.locs, Pt.cells, Pt.slots] at X' e1 e2 h1 h2 h3 st
    subst h1; subst h2; subst h3
    exact Or.inl ⟨v, (T.setVm vm₁).calling g' mk (Value.ref b :: As).toArray, t, U', L, hT, X', hL, e1, e2, hq, st⟩
  · dsimp only [Pt.U, Pt.locs, Pt.cells, Pt.slots] at X' e1 e2 h1 h2 h3 st hcl
    subst h1; subst h2; subst h3
    exact Or.inr ⟨q, (T.setVm vm₁).calling g' mk (Value.ref b :: As).toArray, t, U', L, E, ce, hT, X', hL, e1, e2, hq, hce, hcv, vx_cls hW₁ hcl, st⟩
theorem vx_callFv {S SX : Type} {post : S → Prop} {px : SX → Prop} {B : S → State → Prop} {BX : String → SX → State → Prop} {AX : Nat → Prop} (hr : vx_Run5 p l e R s m args below meth c H locs cells slots mc ms (F0 m pc ls st0) rest (va_Qv post B A1 a) (vx_X px BX AX) free) (hS : va_S A0 H0 H locs) (hA : ∀ q, q < H.size → A1 q → A0 q) (hf : ∀ q, free q → A0 q) (hAX : ∀ q, q < H.size → AX q → A0 q)
    (kx : ∀ (E : String) (ce : Cell) (q9 : Addr) (u : SX) (t : State) (H1 : Heap) (locs1 : List Loc), t.heap = H1 → s.vm.Alike t.vm → px u → BX E u t → H.size ≤ H1.size → (∀ q : Nat, q < H.size → ¬ AX q → H1[q]? = H[q]?) → va_S A0 H0 H1 locs1 → H1[q9]? = some ce → ce.vm = .none → s.vm.findClass E = some ce.cls → vx_W p l e R s m args below meth c H1 locs1 (cells + mc) (slots + ms) Q (F0 m pc ls rest) q9)
    (kk : ∀ (u : S) (t : State) (H1 : Heap) (locs1 : List Loc), t.heap = H1 → s.vm.Alike t.vm → post u → B u t → H.size ≤ H1.size → (∀ q : Nat, q < H.size → ¬ A1 q → H1[q]? = H[q]?) → va_S A0 H0 H1 locs1 → W p l e R s m args below meth c H1 locs1 (cells + mc) (slots + ms) Q (F0 m (pc + 5) ls (rest))) : W p l e R s m args below meth c H locs cells slots Q (F0 m pc ls st0) := by
  intro T hT X
  rcases hr T hT X with ⟨v, st₀, t, T', L, h0, X', hL, e1, e2, ⟨⟨u, hv, hp, hb⟩, hF⟩, st⟩ | ⟨q, st₀, t, T', L, E, ce, h0, X', hL, e1, e2, ⟨u, hp, hb, hF⟩, hce, hcv, hcl, st⟩
  · cases hv
    obtain ⟨k1, k2, k3⟩ := vx_keep h0 e1 hS hA hf hL hF
    obtain ⟨t2, a1, b1⟩ := kk u t T'.heap (locs ++ L) e1.symm (by rw [← e2]; exact X'.warmed.alike) hp hb k1 k2 k3 T' rfl X'
    exact ⟨t2, st t2 a1, b1⟩
  · obtain ⟨k1, k2, k3⟩ := vx_keep h0 e1 hS hAX hf hL hF
    obtain ⟨t2, a1, b1⟩ := kx E ce q u t T'.heap (locs ++ L) e1.symm (by rw [← e2]; exact X'.warmed.alike) hp hb k1 k2 k3 (by rw [e1]; exact hce) hcv hcl T' rfl X'
    exact ⟨t2, st.trans a1, b1⟩
theorem vx_callFi {S SX : Type} {post : Int32 → S → Prop} {px : SX → Prop} {B : S → State → Prop} {BX : String → SX → State → Prop} {AX : Nat → Prop} (hr : vx_Run5 p l e R s m args below meth c H locs cells slots mc ms (F0 m pc ls st0) rest (va_Qi post B A1 a) (vx_X px BX AX) free) (hS : va_S A0 H0 H locs) (hA : ∀ q, q < H.size → A1 q → A0 q) (hf : ∀ q, free q → A0 q) (hAX : ∀ q, q < H.size → AX q → A0 q)
    (kx : ∀ (E : String) (ce : Cell) (q9 : Addr) (u : SX) (t : State) (H1 : Heap) (locs1 : List Loc), t.heap = H1 → s.vm.Alike t.vm → px u → BX E u t → H.size ≤ H1.size → (∀ q : Nat, q < H.size → ¬ AX q → H1[q]? = H[q]?) → va_S A0 H0 H1 locs1 → H1[q9]? = some ce → ce.vm = .none → s.vm.findClass E = some ce.cls → vx_W p l e R s m args below meth c H1 locs1 (cells + mc) (slots + ms) Q (F0 m pc ls rest) q9)
    (kk : ∀ (r : Int32) (u : S) (t : State) (H1 : Heap) (locs1 : List Loc), t.heap = H1 → s.vm.Alike t.vm → post r u → B u t → H.size ≤ H1.size → (∀ q : Nat, q < H.size → ¬ A1 q → H1[q]? = H[q]?) → va_S A0 H0 H1 locs1 → W p l e R s m args below meth c H1 locs1 (cells + mc) (slots + ms) Q (F0 m (pc + 5) ls (.int r :: rest))) : W p l e R s m args below meth c H locs cells slots Q (F0 m pc ls st0) := by
  intro T hT X
  rcases hr T hT X with ⟨v, st₀, t, T', L, h0, X', hL, e1, e2, ⟨⟨r, u, hv, hp, hb⟩, hF⟩, st⟩ | ⟨q, st₀, t, T', L, E, ce, h0, X', hL, e1, e2, ⟨u, hp, hb, hF⟩, hce, hcv, hcl, st⟩
  · cases hv
    obtain ⟨k1, k2, k3⟩ := vx_keep h0 e1 hS hA hf hL hF
    obtain ⟨t2, a1, b1⟩ := kk r u t T'.heap (locs ++ L) e1.symm (by rw [← e2]; exact X'.warmed.alike) hp hb k1 k2 k3 T' rfl X'
    exact ⟨t2, st t2 a1, b1⟩
  · obtain ⟨k1, k2, k3⟩ := vx_keep h0 e1 hS hAX hf hL hF
    obtain ⟨t2, a1, b1⟩ := kx E ce q u t T'.heap (locs ++ L) e1.symm (by rw [← e2]; exact X'.warmed.alike) hp hb k1 k2 k3 (by rw [e1]; exact hce) hcv hcl T' rfl X'
    exact ⟨t2, st.trans a1, b1⟩
theorem vx_callFl {S SX : Type} {post : Int64 → S → Prop} {px : SX → Prop} {B : S → State → Prop} {BX : String → SX → State → Prop} {AX : Nat → Prop} (hr : vx_Run5 p l e R s m args below meth c H locs cells slots mc ms (F0 m pc ls st0) rest (va_Ql post B A1 a) (vx_X px BX AX) free) (hS : va_S A0 H0 H locs) (hA : ∀ q, q < H.size → A1 q → A0 q) (hf : ∀ q, free q → A0 q) (hAX : ∀ q, q < H.size → AX q → A0 q)
    (kx : ∀ (E : String) (ce : Cell) (q9 : Addr) (u : SX) (t : State) (H1 : Heap) (locs1 : List Loc), t.heap = H1 → s.vm.Alike t.vm → px u → BX E u t → H.size ≤ H1.size → (∀ q : Nat, q < H.size → ¬ AX q → H1[q]? = H[q]?) → va_S A0 H0 H1 locs1 → H1[q9]? = some ce → ce.vm = .none → s.vm.findClass E = some ce.cls → vx_W p l e R s m args below meth c H1 locs1 (cells + mc) (slots + ms) Q (F0 m pc ls rest) q9)
    (kk : ∀ (r : Int64) (u : S) (t : State) (H1 : Heap) (locs1 : List Loc), t.heap = H1 → s.vm.Alike t.vm → post r u → B u t → H.size ≤ H1.size → (∀ q : Nat, q < H.size → ¬ A1 q → H1[q]? = H[q]?) → va_S A0 H0 H1 locs1 → W p l e R s m args below meth c H1 locs1 (cells + mc) (slots + ms) Q (F0 m (pc + 5) ls (.long r :: rest))) : W p l e R s m args below meth c H locs cells slots Q (F0 m pc ls st0) := by
  intro T hT X
  rcases hr T hT X with ⟨v, st₀, t, T', L, h0, X', hL, e1, e2, ⟨⟨r, u, hv, hp, hb⟩, hF⟩, st⟩ | ⟨q, st₀, t, T', L, E, ce, h0, X', hL, e1, e2, ⟨u, hp, hb, hF⟩, hce, hcv, hcl, st⟩
  · cases hv
    obtain ⟨k1, k2, k3⟩ := vx_keep h0 e1 hS hA hf hL hF
    obtain ⟨t2, a1, b1⟩ := kk r u t T'.heap (locs ++ L) e1.symm (by rw [← e2]; exact X'.warmed.alike) hp hb k1 k2 k3 T' rfl X'
    exact ⟨t2, st t2 a1, b1⟩
  · obtain ⟨k1, k2, k3⟩ := vx_keep h0 e1 hS hAX hf hL hF
    obtain ⟨t2, a1, b1⟩ := kx E ce q u t T'.heap (locs ++ L) e1.symm (by rw [← e2]; exact X'.warmed.alike) hp hb k1 k2 k3 (by rw [e1]; exact hce) hcv hcl T' rfl X'
    exact ⟨t2, st.trans a1, b1⟩
theorem vx_callFf {S SX : Type} {post : UInt32 → S → Prop} {px : SX → Prop} {B : S → State → Prop} {BX : String → SX → State → Prop} {AX : Nat → Prop} (hr : vx_Run5 p l e R s m args below meth c H locs cells slots mc ms (F0 m pc ls st0) rest (va_Qf post B A1 a) (vx_X px BX AX) free) (hS : va_S A0 H0 H locs) (hA : ∀ q, q < H.size → A1 q → A0 q) (hf : ∀ q, free q → A0 q) (hAX : ∀ q, q < H.size → AX q → A0 q)
    (kx : ∀ (E : String) (ce : Cell) (q9 : Addr) (u : SX) (t : State) (H1 : Heap) (locs1 : List Loc), t.heap = H1 → s.vm.Alike t.vm → px u → BX E u t → H.size ≤ H1.size → (∀ q : Nat, q < H.size → ¬ AX q → H1[q]? = H[q]?) → va_S A0 H0 H1 locs1 → H1[q9]? = some ce → ce.vm = .none → s.vm.findClass E = some ce.cls → vx_W p l e R s m args below meth c H1 locs1 (cells + mc) (slots + ms) Q (F0 m pc ls rest) q9)
    (kk : ∀ (r : UInt32) (u : S) (t : State) (H1 : Heap) (locs1 : List Loc), t.heap = H1 → s.vm.Alike t.vm → post r u → B u t → H.size ≤ H1.size → (∀ q : Nat, q < H.size → ¬ A1 q → H1[q]? = H[q]?) → va_S A0 H0 H1 locs1 → W p l e R s m args below meth c H1 locs1 (cells + mc) (slots + ms) Q (F0 m (pc + 5) ls (.float r :: rest))) : W p l e R s m args below meth c H locs cells slots Q (F0 m pc ls st0) := by
  intro T hT X
  rcases hr T hT X with ⟨v, st₀, t, T', L, h0, X', hL, e1, e2, ⟨⟨r, u, hv, hp, hb⟩, hF⟩, st⟩ | ⟨q, st₀, t, T', L, E, ce, h0, X', hL, e1, e2, ⟨u, hp, hb, hF⟩, hce, hcv, hcl, st⟩
  · cases hv
    obtain ⟨k1, k2, k3⟩ := vx_keep h0 e1 hS hA hf hL hF
    obtain ⟨t2, a1, b1⟩ := kk r u t T'.heap (locs ++ L) e1.symm (by rw [← e2]; exact X'.warmed.alike) hp hb k1 k2 k3 T' rfl X'
    exact ⟨t2, st t2 a1, b1⟩
  · obtain ⟨k1, k2, k3⟩ := vx_keep h0 e1 hS hAX hf hL hF
    obtain ⟨t2, a1, b1⟩ := kx E ce q u t T'.heap (locs ++ L) e1.symm (by rw [← e2]; exact X'.warmed.alike) hp hb k1 k2 k3 (by rw [e1]; exact hce) hcv hcl T' rfl X'
    exact ⟨t2, st.trans a1, b1⟩
theorem vx_callFd {S SX : Type} {post : UInt64 → S → Prop} {px : SX → Prop} {B : S → State → Prop} {BX : String → SX → State → Prop} {AX : Nat → Prop} (hr : vx_Run5 p l e R s m args below meth c H locs cells slots mc ms (F0 m pc ls st0) rest (va_Qd post B A1 a) (vx_X px BX AX) free) (hS : va_S A0 H0 H locs) (hA : ∀ q, q < H.size → A1 q → A0 q) (hf : ∀ q, free q → A0 q) (hAX : ∀ q, q < H.size → AX q → A0 q)
    (kx : ∀ (E : String) (ce : Cell) (q9 : Addr) (u : SX) (t : State) (H1 : Heap) (locs1 : List Loc), t.heap = H1 → s.vm.Alike t.vm → px u → BX E u t → H.size ≤ H1.size → (∀ q : Nat, q < H.size → ¬ AX q → H1[q]? = H[q]?) → va_S A0 H0 H1 locs1 → H1[q9]? = some ce → ce.vm = .none → s.vm.findClass E = some ce.cls → vx_W p l e R s m args below meth c H1 locs1 (cells + mc) (slots + ms) Q (F0 m pc ls rest) q9)
    (kk : ∀ (r : UInt64) (u : S) (t : State) (H1 : Heap) (locs1 : List Loc), t.heap = H1 → s.vm.Alike t.vm → post r u → B u t → H.size ≤ H1.size → (∀ q : Nat, q < H.size → ¬ A1 q → H1[q]? = H[q]?) → va_S A0 H0 H1 locs1 → W p l e R s m args below meth c H1 locs1 (cells + mc) (slots + ms) Q (F0 m (pc + 5) ls (.double r :: rest))) : W p l e R s m args below meth c H locs cells slots Q (F0 m pc ls st0) := by
  intro T hT X
  rcases hr T hT X with ⟨v, st₀, t, T', L, h0, X', hL, e1, e2, ⟨⟨r, u, hv, hp, hb⟩, hF⟩, st⟩ | ⟨q, st₀, t, T', L, E, ce, h0, X', hL, e1, e2, ⟨u, hp, hb, hF⟩, hce, hcv, hcl, st⟩
  · cases hv
    obtain ⟨k1, k2, k3⟩ := vx_keep h0 e1 hS hA hf hL hF
    obtain ⟨t2, a1, b1⟩ := kk r u t T'.heap (locs ++ L) e1.symm (by rw [← e2]; exact X'.warmed.alike) hp hb k1 k2 k3 T' rfl X'
    exact ⟨t2, st t2 a1, b1⟩
  · obtain ⟨k1, k2, k3⟩ := vx_keep h0 e1 hS hAX hf hL hF
    obtain ⟨t2, a1, b1⟩ := kx E ce q u t T'.heap (locs ++ L) e1.symm (by rw [← e2]; exact X'.warmed.alike) hp hb k1 k2 k3 (by rw [e1]; exact hce) hcv hcl T' rfl X'
    exact ⟨t2, st.trans a1, b1⟩
end
/-! ===== END ===== -/
/-! ===== BEGIN by an interface, a method with a table of its own that may throw (follows va_callIFW, va_runFW) ===== -/
section
variable {p : Program} {l : Launch} {e : Env} {R : Room} {s : State} {m : MethodId} {args : Array Value} {below : List Frame} {meth : Method} {c : Code} {H : Heap} {locs : List Loc} {cells slots : Nat}
theorem vx_callIFW {T : State} (X : Stand p l e R s m args below meth c T locs cells slots) (hexec : p.tables.exec = Jvm.exec) {own C : String} {index count : Nat} {x y : MethodName} {bytes : ByteArray} {maxL : Nat} {ret : Option FieldType} {hh : List (Nat × Nat × Nat × Nat)}
    (hown : s.vm.findClass own = some m.cls) (hlink : (Cond.methodLink own index x).before args s = true) (hdecl : (Cond.declares x).before args s = true) (hface : (Cond.interfaceMethod x.cls x.cls x.name x.desc).before args s = true)
    (hsel : (Cond.selects C x y).before args s = true) (hinst : (Cond.instanceMethod y).before args s = true) (hpub : (Cond.publicMethod y).before args s = true) (hunh : (Cond.unhidden C x.name x.desc).before args s = true)
    (hcast : (Cond.castable C x.cls).before args s = true) (hcode : (Cond.codeWith y bytes maxL ret hh).before args s = true) (hx : x.cls ≠ "java/lang/invoke/MethodHandle" ∧ x.cls ≠ "java/lang/invoke/VarHandle")
    {W : Nat} {Pre : Pt → Array Value → Prop} {Post : Pt → Array Value → Option Value → Pt → Prop} {PostX : Pt → Array Value → Addr → Pt → Prop} (hK : vx_Back l R p e below s args y 5 W Pre Post PostX)
    {b : Addr} {cellB : Cell} {kB : Class} (hcell : T.heap[b]? = some cellB) (hobj : cellB.vm.isStatics = false) (hcls : s.vm.findClass C = some cellB.cls) (hkB : s.vm.classes[cellB.cls]? = some kB)
    {g : JFrame} (hg : g.method = m) (hsize : g.locals.size = c.maxLocals) {argsL rest : List Value} (hlen : ∀ sig, parseMethodDescriptor x.desc = some sig → argsL.length = sig.parameters.length)
    (hstack : g.stack = argsL.reverse ++ .ref b :: rest) (hW : 2 * g.monitorRoom + (rest.map fun v => v.category).sum ≤ W) (hdg : decode c.code g.pc = .ok (.invokeinterface index count, 5))
    (hpre : ∀ vm₁, s.WarmedH vm₁ → Pre ⟨T.setVm vm₁, locs, cells, slots⟩ (Value.ref b :: argsL).toArray) :
    (∃ (v : Option Value) (vm₁ : Vm) (B : Pt), s.WarmedH vm₁ ∧ Stand p l e R s m args below meth c B.U B.locs B.cells B.slots ∧ Post ⟨T.setVm vm₁, locs, cells, slots⟩ (Value.ref b :: argsL).toArray v B ∧
      ∀ target, Steps p.tables e below (B.U.setTop { g with pc := g.pc + 5, stack := v.toList ++ rest }) target → Steps p.tables e below (T.setTop g) target) ∨
    (∃ (q : Addr) (vm₁ : Vm) (B : Pt), s.WarmedH vm₁ ∧ Stand p l e R s m args below meth c B.U B.locs B.cells B.slots ∧ PostX ⟨T.setVm vm₁, locs, cells, slots⟩ (Value.ref b :: argsL).toArray q B ∧
      Steps p.tables e below (T.setTop g) ((B.U.setTop { g with stack := rest }).pushFrame (.throwing q))) := by
  obtain ⟨r0, r, hn, hrm, hstR, hsigR⟩ := Cond.declares_spec hdecl
  obtain ⟨cL, kL, r1, hcL, hkL, hiL, hfoundL, hn1⟩ := Cond.interfaceMethod_spec hface
  cases hn.symm.trans hn1
  have hr0cls : r0.cls = cL := Option.some.inj ((findClass_of_methodNamed hn).symm.trans hcL)
  obtain ⟨hnameR, hdescR⟩ := name_of_methodNamed hn hrm
  obtain ⟨mk, methM, hnamed, hmethM, -, habM⟩ := Cond.instanceMethod_spec hinst
  obtain ⟨c2, r2, m2, q1, q2, q3, q4, -⟩ := Cond.selects_spec hsel
  cases hcls.symm.trans q1
  cases hfoundL.symm.trans q2
  cases hnamed.symm.trans q3
  have hselP : selectMethod e.platform s.vm cellB.cls r0 = .method mk := by rw [Launch.admits_selectMethod X.admits]; exact q4
  have hpubM : hasFlag methM.accessFlags Acc.public_ = true := Cond.publicMethod_spec hnamed hmethM hpub
  have hway : ((cellB.cls :: s.vm.superclasses cellB.cls).any fun k => (declaredIn s.vm r.name r.desc k).any fun (_, z) => z.isPrivate || z.isStatic) = false := by
    rw [hnameR, hdescR]; exact Cond.unhidden_spec hcls hunh
  obtain ⟨c3, t3, w1, w2, w3⟩ := Cond.castable_spec hcast
  cases hcls.symm.trans w1
  cases hcL.symm.trans w2
  obtain ⟨vm₁, X₁, hstep₁⟩ := X.invokeinterface hexec hown hlink hn hrm hstR (by rw [hr0cls]; exact hkL) hiL hx (a := b) (cell := cellB) (kcell := kB) hcell
    (fun z h => by rw [h] at hobj; cases hobj) hkB (by rw [hr0cls]; exact w3) hselP hmethM hway hpubM habM (g := g) hg (argsL := argsL) (rest := rest) (hlen _ hsigR) hstack hdg
  rcases hK m meth c ⟨T.setVm vm₁, locs, cells, slots⟩ { g with stack := rest } (.invokeinterface index count) mk (Value.ref b :: argsL).toArray X₁ hg hsize hdg hW (X₁.named hnamed) (hpre vm₁ X₁.warmed) with ⟨v, B, X', hpost, hsteps⟩ | ⟨q, B, X', hpost, hsteps⟩
  · exact Or.inl ⟨v, vm₁, B, X₁.warmed, X', hpost, fun target h => hstep₁ _ fun acts => by rw [doInvoke_state]; exact hsteps.trans h⟩
  · exact Or.inr ⟨q, vm₁, B, X₁.warmed, X', hpost, hstep₁ _ fun acts => by rw [doInvoke_state]; exact hsteps⟩
theorem vx_runFW {x y : MethodName} {bytes cc : ByteArray} {maxL nL mc ms n index count : Nat} {ret : Option FieldType} {hh : List (Nat × Nat × Nat × Nat)} {ws : List Cond} {rm : Room} {Pc : Array Value → State → Prop} {Qc : Array Value → State → Outcome → State → Prop} {XC : String → State → State → Prop} {free : Addr → Prop} {Ts : List Cond} {own C : String} {cC : ClassId} {b : Addr} {As rest : List Value} {g : JFrame}
    (hat : ClassAt s C cC) (S : CallFix p m c cc nL s args Ts own) (hM : vx_Met l y ws rm Pc Qc XC mc ms free) (cw : va_CIW R s args own C index x y bytes maxL ret hh ws rm mc ms n) (hp : PreV s H C b Pc As)
    (hg : g.method = m) (hn : As.length = n) (hsize : g.locals.size = nL) (hstack : g.stack = As.reverse ++ .ref b :: rest) (hW : 2 * g.monitorRoom + (rest.map fun v => v.category).sum ≤ 8) (hdg : decode cc g.pc = .ok (.invokeinterface index count, 5)) (hf : cells + mc ≤ R.cells ∧ slots + ms ≤ R.slots) :
    vx_Run5 p l e R s m args below meth c H locs cells slots mc ms g rest (Qc (Value.ref b :: As).toArray) XC free := by
  obtain ⟨hrc, hrs, hfr, hlo, hws, hcw⟩ := cw.back
  have hini := cw.init
  have hK : vx_Back l R p e below s args y 5 8 (PreOf R mc ms Pc) (PostOf Qc mc ms free) (vx_Post XC mc ms free) := vx_backW (hh := hh) (bytes := bytes) (maxL := maxL) (ret := ret) hM hp.1 hrc hrs hfr hlo hws hcw (fun a' U hW => word_at hW (Or.inl (by first | rfl | simp [Cond.onTables, Cond.keeps, Cond.steady])) hini)
  obtain ⟨hx, hb, hml, ho, -⟩ := S
  obtain ⟨-, ⟨cellB, hcB, hoB, hclB⟩, hPc⟩ := hp
  obtain ⟨hfc, kB, hkB, -⟩ := hat
  cases hfc.symm.trans hclB
  intro T hT X
  rcases vx_callIFW X hx (C := C) (hh := hh) (bytes := bytes) (maxL := maxL) (ret := ret) ho cw.link cw.decl cw.face cw.sel cw.inst cw.pub cw.unh cw.cast cw.code cw.notMH hK (by rw [hT]; exact hcB) hoB hclB hkB hg (hsize.trans hml.symm) (argsL := As) (rest := rest) (fun sig h => hn.trans (cw.len sig h)) hstack hW (by rw [hb]; exact hdg)
    (fun vm₁ hW₁ => ⟨hf.1, hf.2, hPc (T.setVm vm₁) hT hW₁⟩) with ⟨v, vm₁, ⟨U', l2, c2, s2⟩, hW₁, X', ⟨g', mk, t, L, e1, e2, hq, h1, hL, h2, h3⟩, st⟩ | ⟨q, vm₁, ⟨U', l2, c2, s2⟩, hW₁, X', ⟨g', mk, t, L, E, ce, e1, e2, hq, hce, hcv, hcl, h1, hL, h2, h3⟩, st⟩
  · dsimp only [Pt.U, Pt.locs, Pt.cells, Pt.slots] at X' e1 e2 h1 h2 h3 st
    subst h1; subst h2; subst h3
    exact Or.inl ⟨v, (T.setVm vm₁).calling g' mk (Value.ref b :: As).toArray, t, U', L, hT, X', hL, e1, e2, hq, st⟩
  · dsimp only [Pt.U, Pt.locs, Pt.cells, Pt.slots] at X' e1 e2 h1 h2 h3 st hcl
    subst h1; subst h2; subst h3
    exact Or.inr ⟨q, (T.setVm vm₁).calling g' mk (Value.ref b :: As).toArray, t, U', L, E, ce, hT, X', hL, e1, e2, hq, hce, hcv, vx_cls hW₁ hcl, st⟩
end
/-! ===== END ===== -/
/-! ===== BEGIN .. of methods that hand back an object of the pool ===== -/
section
variable {p : Program} {l : Launch} {e : Env} {R : Room} {s : State} {m : MethodId} {args : Array Value} {below : List Frame} {meth : Method} {c : Code} {H : Heap} {locs : List Loc} {cells slots : Nat} {Q : State → Prop}
variable {mc ms : Nat} {free : Addr → Prop} {A0 A1 : Nat → Prop} {H0 : Heap} {a : Array Value} {pc : Nat} {ls : Array Slot} {st0 rest : List Value}
theorem vx_callq {S SX : Type} {post : Option Nat → S → Prop} {px : SX → Prop} {B : S → State → Prop} {BX : String → SX → State → Prop} {AX : Nat → Prop} (hr : vx_Run p l e R s m args below meth c H locs cells slots mc ms (F0 m pc ls st0) rest (va_Qq post B A1 a) (vx_X px BX AX) free) (hS : va_S A0 H0 H locs) (hA : ∀ q, q < H.size → A1 q → A0 q) (hf : ∀ q, free q → A0 q) (hAX : ∀ q, q < H.size → AX q → A0 q)
    (kx : ∀ (E : String) (ce : Cell) (q9 : Addr) (u : SX) (t : State) (H1 : Heap) (locs1 : List Loc), t.heap = H1 → s.vm.Alike t.vm → px u → BX E u t → H.size ≤ H1.size → (∀ q : Nat, q < H.size → ¬ AX q → H1[q]? = H[q]?) → va_S A0 H0 H1 locs1 → H1[q9]? = some ce → ce.vm = .none → s.vm.findClass E = some ce.cls → vx_W p l e R s m args below meth c H1 locs1 (cells + mc) (slots + ms) Q (F0 m pc ls rest) q9)
    (kk : ∀ (r : Option Nat) (u : S) (t : State) (H1 : Heap) (locs1 : List Loc), t.heap = H1 → s.vm.Alike t.vm → post r u → B u t → H.size ≤ H1.size → (∀ q : Nat, q < H.size → ¬ A1 q → H1[q]? = H[q]?) → va_S A0 H0 H1 locs1 → W p l e R s m args below meth c H1 locs1 (cells + mc) (slots + ms) Q (F0 m (pc + 3) ls (va_rf r :: rest))) : W p l e R s m args below meth c H locs cells slots Q (F0 m pc ls st0) := by
  intro T hT X
  rcases hr T hT X with ⟨v, st₀, t, T', L, h0, X', hL, e1, e2, ⟨⟨r, u, hv, hp, hb⟩, hF⟩, st⟩ | ⟨q, st₀, t, T', L, E, ce, h0, X', hL, e1, e2, ⟨u, hp, hb, hF⟩, hce, hcv, hcl, st⟩
  · cases hv
    obtain ⟨k1, k2, k3⟩ := vx_keep h0 e1 hS hA hf hL hF
    obtain ⟨t2, a1, b1⟩ := kk r u t T'.heap (locs ++ L) e1.symm (by rw [← e2]; exact X'.warmed.alike) hp hb k1 k2 k3 T' rfl X'
    exact ⟨t2, st t2 a1, b1⟩
  · obtain ⟨k1, k2, k3⟩ := vx_keep h0 e1 hS hAX hf hL hF
    obtain ⟨t2, a1, b1⟩ := kx E ce q u t T'.heap (locs ++ L) e1.symm (by rw [← e2]; exact X'.warmed.alike) hp hb k1 k2 k3 (by rw [e1]; exact hce) hcv hcl T' rfl X'
    exact ⟨t2, st.trans a1, b1⟩
end
/-! ===== END ===== -/
/-! ===== BEGIN .. a constant ===== -/
section
variable {p : Program} {l : Launch} {e : Env} {R : Room} {s : State} {m : MethodId} {args : Array Value} {below : List Frame} {meth : Method} {c : Code} {H : Heap} {locs : List Loc} {cells slots : Nat} {Q : State → Prop}
variable {mc ms : Nat} {free : Addr → Prop} {A0 A1 : Nat → Prop} {H0 : Heap} {a : Array Value} {pc : Nat} {ls : Array Slot} {st0 rest : List Value}
theorem vx_calle {ad : Nat → Nat} {S SX : Type} {post : Option Nat → S → Prop} {px : SX → Prop} {B : S → State → Prop} {BX : String → SX → State → Prop} {AX : Nat → Prop} (hr : vx_Run p l e R s m args below meth c H locs cells slots mc ms (F0 m pc ls st0) rest (va_Qe ad post B A1 a) (vx_X px BX AX) free) (hS : va_S A0 H0 H locs) (hA : ∀ q, q < H.size → A1 q → A0 q) (hf : ∀ q, free q → A0 q) (hAX : ∀ q, q < H.size → AX q → A0 q)
    (kx : ∀ (E : String) (ce : Cell) (q9 : Addr) (u : SX) (t : State) (H1 : Heap) (locs1 : List Loc), t.heap = H1 → s.vm.Alike t.vm → px u → BX E u t → H.size ≤ H1.size → (∀ q : Nat, q < H.size → ¬ AX q → H1[q]? = H[q]?) → va_S A0 H0 H1 locs1 → H1[q9]? = some ce → ce.vm = .none → s.vm.findClass E = some ce.cls → vx_W p l e R s m args below meth c H1 locs1 (cells + mc) (slots + ms) Q (F0 m pc ls rest) q9)
    (kk : ∀ (r : Option Nat) (u : S) (t : State) (H1 : Heap) (locs1 : List Loc), t.heap = H1 → s.vm.Alike t.vm → post r u → B u t → H.size ≤ H1.size → (∀ q : Nat, q < H.size → ¬ A1 q → H1[q]? = H[q]?) → va_S A0 H0 H1 locs1 → W p l e R s m args below meth c H1 locs1 (cells + mc) (slots + ms) Q (F0 m (pc + 3) ls (va_re ad r :: rest))) : W p l e R s m args below meth c H locs cells slots Q (F0 m pc ls st0) := by
  intro T hT X
  rcases hr T hT X with ⟨v, st₀, t, T', L, h0, X', hL, e1, e2, ⟨⟨r, u, hv, hp, hb⟩, hF⟩, st⟩ | ⟨q, st₀, t, T', L, E, ce, h0, X', hL, e1, e2, ⟨u, hp, hb, hF⟩, hce, hcv, hcl, st⟩
  · cases hv
    obtain ⟨k1, k2, k3⟩ := vx_keep h0 e1 hS hA hf hL hF
    obtain ⟨t2, a1, b1⟩ := kk r u t T'.heap (locs ++ L) e1.symm (by rw [← e2]; exact X'.warmed.alike) hp hb k1 k2 k3 T' rfl X'
    exact ⟨t2, st t2 a1, b1⟩
  · obtain ⟨k1, k2, k3⟩ := vx_keep h0 e1 hS hAX hf hL hF
    obtain ⟨t2, a1, b1⟩ := kx E ce q u t T'.heap (locs ++ L) e1.symm (by rw [← e2]; exact X'.warmed.alike) hp hb k1 k2 k3 (by rw [e1]; exact hce) hcv hcl T' rfl X'
    exact ⟨t2, st.trans a1, b1⟩
end
/-! ===== END ===== -/
/-! ===== BEGIN .. by an interface, an object ===== -/
section
variable {p : Program} {l : Launch} {e : Env} {R : Room} {s : State} {m : MethodId} {args : Array Value} {below : List Frame} {meth : Method} {c : Code} {H : Heap} {locs : List Loc} {cells slots : Nat} {Q : State → Prop}
variable {mc ms : Nat} {free : Addr → Prop} {A0 A1 : Nat → Prop} {H0 : Heap} {a : Array Value} {pc : Nat} {ls : Array Slot} {st0 rest : List Value}
theorem vx_callFq {S SX : Type} {post : Option Nat → S → Prop} {px : SX → Prop} {B : S → State → Prop} {BX : String → SX → State → Prop} {AX : Nat → Prop} (hr : vx_Run5 p l e R s m args below meth c H locs cells slots mc ms (F0 m pc ls st0) rest (va_Qq post B A1 a) (vx_X px BX AX) free) (hS : va_S A0 H0 H locs) (hA : ∀ q, q < H.size → A1 q → A0 q) (hf : ∀ q, free q → A0 q) (hAX : ∀ q, q < H.size → AX q → A0 q)
    (kx : ∀ (E : String) (ce : Cell) (q9 : Addr) (u : SX) (t : State) (H1 : Heap) (locs1 : List Loc), t.heap = H1 → s.vm.Alike t.vm → px u → BX E u t → H.size ≤ H1.size → (∀ q : Nat, q < H.size → ¬ AX q → H1[q]? = H[q]?) → va_S A0 H0 H1 locs1 → H1[q9]? = some ce → ce.vm = .none → s.vm.findClass E = some ce.cls → vx_W p l e R s m args below meth c H1 locs1 (cells + mc) (slots + ms) Q (F0 m pc ls rest) q9)
    (kk : ∀ (r : Option Nat) (u : S) (t : State) (H1 : Heap) (locs1 : List Loc), t.heap = H1 → s.vm.Alike t.vm → post r u → B u t → H.size ≤ H1.size → (∀ q : Nat, q < H.size → ¬ A1 q → H1[q]? = H[q]?) → va_S A0 H0 H1 locs1 → W p l e R s m args below meth c H1 locs1 (cells + mc) (slots + ms) Q (F0 m (pc + 5) ls (va_rf r :: rest))) : W p l e R s m args below meth c H locs cells slots Q (F0 m pc ls st0) := by
  intro T hT X
  rcases hr T hT X with ⟨v, st₀, t, T', L, h0, X', hL, e1, e2, ⟨⟨r, u, hv, hp, hb⟩, hF⟩, st⟩ | ⟨q, st₀, t, T', L, E, ce, h0, X', hL, e1, e2, ⟨u, hp, hb, hF⟩, hce, hcv, hcl, st⟩
  · cases hv
    obtain ⟨k1, k2, k3⟩ := vx_keep h0 e1 hS hA hf hL hF
    obtain ⟨t2, a1, b1⟩ := kk r u t T'.heap (locs ++ L) e1.symm (by rw [← e2]; exact X'.warmed.alike) hp hb k1 k2 k3 T' rfl X'
    exact ⟨t2, st t2 a1, b1⟩
  · obtain ⟨k1, k2, k3⟩ := vx_keep h0 e1 hS hAX hf hL hF
    obtain ⟨t2, a1, b1⟩ := kx E ce q u t T'.heap (locs ++ L) e1.symm (by rw [← e2]; exact X'.warmed.alike) hp hb k1 k2 k3 (by rw [e1]; exact hce) hcv hcl T' rfl X'
    exact ⟨t2, st.trans a1, b1⟩
end
/-! ===== END ===== -/
/-! ===== BEGIN .. by an interface, a constant ===== -/
section
variable {p : Program} {l : Launch} {e : Env} {R : Room} {s : State} {m : MethodId} {args : Array Value} {below : List Frame} {meth : Method} {c : Code} {H : Heap} {locs : List Loc} {cells slots : Nat} {Q : State → Prop}
variable {mc ms : Nat} {free : Addr → Prop} {A0 A1 : Nat → Prop} {H0 : Heap} {a : Array Value} {pc : Nat} {ls : Array Slot} {st0 rest : List Value}
theorem vx_callFe {ad : Nat → Nat} {S SX : Type} {post : Option Nat → S → Prop} {px : SX → Prop} {B : S → State → Prop} {BX : String → SX → State → Prop} {AX : Nat → Prop} (hr : vx_Run5 p l e R s m args below meth c H locs cells slots mc ms (F0 m pc ls st0) rest (va_Qe ad post B A1 a) (vx_X px BX AX) free) (hS : va_S A0 H0 H locs) (hA : ∀ q, q < H.size → A1 q → A0 q) (hf : ∀ q, free q → A0 q) (hAX : ∀ q, q < H.size → AX q → A0 q)
    (kx : ∀ (E : String) (ce : Cell) (q9 : Addr) (u : SX) (t : State) (H1 : Heap) (locs1 : List Loc), t.heap = H1 → s.vm.Alike t.vm → px u → BX E u t → H.size ≤ H1.size → (∀ q : Nat, q < H.size → ¬ AX q → H1[q]? = H[q]?) → va_S A0 H0 H1 locs1 → H1[q9]? = some ce → ce.vm = .none → s.vm.findClass E = some ce.cls → vx_W p l e R s m args below meth c H1 locs1 (cells + mc) (slots + ms) Q (F0 m pc ls rest) q9)
    (kk : ∀ (r : Option Nat) (u : S) (t : State) (H1 : Heap) (locs1 : List Loc), t.heap = H1 → s.vm.Alike t.vm → post r u → B u t → H.size ≤ H1.size → (∀ q : Nat, q < H.size → ¬ A1 q → H1[q]? = H[q]?) → va_S A0 H0 H1 locs1 → W p l e R s m args below meth c H1 locs1 (cells + mc) (slots + ms) Q (F0 m (pc + 5) ls (va_re ad r :: rest))) : W p l e R s m args below meth c H locs cells slots Q (F0 m pc ls st0) := by
  intro T hT X
  rcases hr T hT X with ⟨v, st₀, t, T', L, h0, X', hL, e1, e2, ⟨⟨r, u, hv, hp, hb⟩, hF⟩, st⟩ | ⟨q, st₀, t, T', L, E, ce, h0, X', hL, e1, e2, ⟨u, hp, hb, hF⟩, hce, hcv, hcl, st⟩
  · cases hv
    obtain ⟨k1, k2, k3⟩ := vx_keep h0 e1 hS hA hf hL hF
    obtain ⟨t2, a1, b1⟩ := kk r u t T'.heap (locs ++ L) e1.symm (by rw [← e2]; exact X'.warmed.alike) hp hb k1 k2 k3 T' rfl X'
    exact ⟨t2, st t2 a1, b1⟩
  · obtain ⟨k1, k2, k3⟩ := vx_keep h0 e1 hS hAX hf hL hF
    obtain ⟨t2, a1, b1⟩ := kx E ce q u t T'.heap (locs ++ L) e1.symm (by rw [← e2]; exact X'.warmed.alike) hp hb k1 k2 k3 (by rw [e1]; exact hce) hcv hcl T' rfl X'
    exact ⟨t2, st.trans a1, b1⟩
end
/-! ===== END ===== -/
/-! ===== BEGIN what the machine throws by itself: null at a field, at athrow ===== -/
section VXM2
variable {p : Program} {l : Launch} {e : Env} {R : Room} {s : State} {m : MethodId} {args : Array Value} {below : List Frame} {meth : Method} {c : Code} {H : Heap} {locs : List Loc} {cells slots : Nat}
variable {Q : State → Prop} {cc : ByteArray} {pc : Nat} {ls : Array Slot} {rest : List Value}
theorem vx_getfN {D cl tys} {own ref C : String} {T : u_T} {N ci index : Nat} {Ts : List Cond} (hexec : p.tables.exec = Jvm.exec) (hb : c.code = cc) (hts : ∀ w ∈ Ts, w.before args s = true) (hin : ∀ w ∈ u_ws C T N, w ∈ Ts) (hown : s.vm.findClass own = some m.cls) (hK : va_K D cl tys s) (hc : cl[ci]? = some (C, T, N)) (k : Nat) (hk : k < N) (hlink : (Cond.fieldLink own index ref (T k).2.1 (T k).2.2.1).before args s = true) (hsame : ∀ x, s.fieldFound? (T k).1 (T k).2.1 (T k).2.2.1 = some x → s.fieldFound? ref (T k).2.1 (T k).2.2.1 = some x) (hdg : decode cc pc = .ok (.getfield index, 3)) (kk : vx_NoteN p l e R s m args below meth c H locs cells slots Q (F0 m pc ls rest)) : W p l e R s m args below meth c H locs cells slots Q (F0 m pc ls (.null :: rest)) := by
  obtain ⟨hS, hfc, kC, hkC, -⟩ := hK.1 ci _ hc
  obtain ⟨cf, kf, fi, f, hi, -⟩ := hS k hk
  intro U hU X
  obtain ⟨vm', X1, st1⟩ := X.getfieldNull hexec hown hlink (hsame _ hi) (u_facts hfc hkC (u_lays hts hin hk) hi).1 (g := F0 m pc ls (.null :: rest)) rfl (rest := rest) rfl (by rw [hb]; exact hdg)
  obtain ⟨t, st, q⟩ := kk (U.setVm vm') hU X1
  exact ⟨t, st1 t st, q⟩
theorem vx_getfNN {D cl tys} {own ref C host : String} {T : u_T} {N ci index : Nat} {Ts : List Cond} (hexec : p.tables.exec = Jvm.exec) (hb : c.code = cc) (hts : ∀ w ∈ Ts, w.before args s = true) (hin : ∀ w ∈ u_ws C T N, w ∈ Ts) (hown : s.vm.findClass own = some m.cls) (hK : va_K D cl tys s) (hc : cl[ci]? = some (C, T, N)) (k : Nat) (hk : k < N) (hlink : (Cond.fieldLinkNest own index ref (T k).2.1 (T k).2.2.1 host).before args s = true) (hsame : ∀ x, s.fieldFound? (T k).1 (T k).2.1 (T k).2.2.1 = some x → s.fieldFound? ref (T k).2.1 (T k).2.2.1 = some x) (hdg : decode cc pc = .ok (.getfield index, 3)) (kk : vx_NoteN p l e R s m args below meth c H locs cells slots Q (F0 m pc ls rest)) : W p l e R s m args below meth c H locs cells slots Q (F0 m pc ls (.null :: rest)) := by
  obtain ⟨hS, hfc, kC, hkC, -⟩ := hK.1 ci _ hc
  obtain ⟨cf, kf, fi, f, hi, -⟩ := hS k hk
  intro U hU X
  obtain ⟨vm', X1, st1⟩ := X.getfieldNullNest hexec hown hlink (hsame _ hi) (u_facts hfc hkC (u_lays hts hin hk) hi).1 (g := F0 m pc ls (.null :: rest)) rfl (rest := rest) rfl (by rw [hb]; exact hdg)
  obtain ⟨t, st, q⟩ := kk (U.setVm vm') hU X1
  exact ⟨t, st1 t st, q⟩
theorem vx_putfN {D cl tys} {own ref C : String} {T : u_T} {N ci index : Nat} {Ts : List Cond} (hexec : p.tables.exec = Jvm.exec) (hb : c.code = cc) (hts : ∀ w ∈ Ts, w.before args s = true) (hin : ∀ w ∈ u_ws C T N, w ∈ Ts) (hown : s.vm.findClass own = some m.cls) (hK : va_K D cl tys s) (hc : cl[ci]? = some (C, T, N)) (k : Nat) (hk : k < N) (hlink : (Cond.fieldLink own index ref (T k).2.1 (T k).2.2.1).before args s = true) (hsame : ∀ x, s.fieldFound? (T k).1 (T k).2.1 (T k).2.2.1 = some x → s.fieldFound? ref (T k).2.1 (T k).2.2.1 = some x) (hfin : (T k).2.2.2 = false) {v : Value} (hdg : decode cc pc = .ok (.putfield index, 3)) (kk : vx_NoteN p l e R s m args below meth c H locs cells slots Q (F0 m pc ls rest)) : W p l e R s m args below meth c H locs cells slots Q (F0 m pc ls (v :: .null :: rest)) := by
  obtain ⟨hS, hfc, kC, hkC, -⟩ := hK.1 ci _ hc
  obtain ⟨cf, kf, fi, f, hi, -⟩ := hS k hk
  have hlay := hts _ (hin _ (u_in_lay hk))
  unfold u_lay at hlay
  rw [if_neg (by rw [hfin]; decide)] at hlay
  obtain ⟨c9, k9, cf9, kf9, fi9, f9, -, -, hi9, hst9, hnf9, -⟩ := Cond.lays_spec hlay
  cases hi.symm.trans hi9
  intro U hU X
  obtain ⟨vm', X1, st1⟩ := X.putfieldNull hexec hown hlink (hsame _ hi) hst9 hnf9 (g := F0 m pc ls (v :: .null :: rest)) rfl (v := v) (rest := rest) rfl (by rw [hb]; exact hdg)
  obtain ⟨t, st, q⟩ := kk (U.setVm vm') hU X1
  exact ⟨t, st1 t st, q⟩
theorem vx_putfNN {D cl tys} {own ref C host : String} {T : u_T} {N ci index : Nat} {Ts : List Cond} (hexec : p.tables.exec = Jvm.exec) (hb : c.code = cc) (hts : ∀ w ∈ Ts, w.before args s = true) (hin : ∀ w ∈ u_ws C T N, w ∈ Ts) (hown : s.vm.findClass own = some m.cls) (hK : va_K D cl tys s) (hc : cl[ci]? = some (C, T, N)) (k : Nat) (hk : k < N) (hlink : (Cond.fieldLinkNest own index ref (T k).2.1 (T k).2.2.1 host).before args s = true) (hsame : ∀ x, s.fieldFound? (T k).1 (T k).2.1 (T k).2.2.1 = some x → s.fieldFound? ref (T k).2.1 (T k).2.2.1 = some x) (hfin : (T k).2.2.2 = false) {v : Value} (hdg : decode cc pc = .ok (.putfield index, 3)) (kk : vx_NoteN p l e R s m args below meth c H locs cells slots Q (F0 m pc ls rest)) : W p l e R s m args below meth c H locs cells slots Q (F0 m pc ls (v :: .null :: rest)) := by
  obtain ⟨hS, hfc, kC, hkC, -⟩ := hK.1 ci _ hc
  obtain ⟨cf, kf, fi, f, hi, -⟩ := hS k hk
  have hlay := hts _ (hin _ (u_in_lay hk))
  unfold u_lay at hlay
  rw [if_neg (by rw [hfin]; decide)] at hlay
  obtain ⟨c9, k9, cf9, kf9, fi9, f9, -, -, hi9, hst9, hnf9, -⟩ := Cond.lays_spec hlay
  cases hi.symm.trans hi9
  intro U hU X
  obtain ⟨vm', X1, st1⟩ := X.putfieldNullNest hexec hown hlink (hsame _ hi) hst9 hnf9 (g := F0 m pc ls (v :: .null :: rest)) rfl (v := v) (rest := rest) rfl (by rw [hb]; exact hdg)
  obtain ⟨t, st, q⟩ := kk (U.setVm vm') hU X1
  exact ⟨t, st1 t st, q⟩
theorem vx_athrowN (hexec : p.tables.exec = Jvm.exec) (hb : c.code = cc) (hdg : decode cc pc = .ok (.athrow, 1)) (k : vx_NoteN p l e R s m args below meth c H locs cells slots Q (F0 m pc ls rest)) : W p l e R s m args below meth c H locs cells slots Q (F0 m pc ls (.null :: rest)) := by
  intro T hT X
  obtain ⟨t, st, q⟩ := k T hT X
  exact ⟨t, X.athrowNull hexec (g := F0 m pc ls (.null :: rest)) rfl (rest := rest) rfl (by rw [hb]; exact hdg) t st, q⟩
end VXM2
/-! ===== END ===== -/
end
section
/-! A SMALL MACHINE OVER THE KIT'S: memory by logical addresses (64 and on: what the run makes, in its order; below: constants), one judgement mj_V at a place of a method, a rule an instruction. -/
abbrev mj_C : Type := (Nat × vp_A) ⊕ (Nat × List Value)
abbrev mj_M : Type := Nat → Option mj_C
/-- what a run is given: the first address that it makes, the classes' numbers and slots, the array classes (0 int, 1 long, 2 boolean, 3 byte, 4 Object), the constants' addresses, the script's length and ints -/
abbrev mj_G : Type := Nat × va_G × (Nat → ClassId) × (Nat → Nat) × Nat × (Nat → Int32)
/-- a method: name, bytes, locals, what it returns -/
abbrev mj_Y : Type := MethodName × ByteArray × Nat × Option FieldType
def mj_r (g : mj_G) (n : Nat) : Nat := if n < 64 then g.2.2.2.1 n else g.1 + (n - 64)
def mj_L (g : mj_G) : Nat := g.2.2.2.2.1
def mj_xs (g : mj_G) : Nat → Int32 := g.2.2.2.2.2
def mj_v (g : mj_G) (v : Value) : Value := match v with
  | .ref a => .ref (mj_r g a)
  | w => w
def mj_a (g : mj_G) (a : vp_A) : vp_A := (a.1, match a.2 with
  | .inl f => .inl f
  | .inr (.inl f) => .inr (.inl f)
  | .inr (.inr (.inl f)) => .inr (.inr (.inl f))
  | .inr (.inr (.inr (.inl f))) => .inr (.inr (.inr (.inl f)))
  | .inr (.inr (.inr (.inr f))) => .inr (.inr (.inr (.inr (fun j => (f j).map (mj_r g))))))
def mj_c (g : mj_G) (c : mj_C) : va_E := match c with
  | .inl x => .inl (g.2.2.1 x.1, mj_a g x.2)
  | .inr x => .inr (x.1, x.2.map (mj_v g))
def mj_p (g : mj_G) (q : Nat × Value) : Nat × Value := (q.1, mj_v g q.2)
def mj_tys (g : mj_G) : List (ClassId × FieldType) := [(g.2.2.1 0, .int), (g.2.2.1 1, .long), (g.2.2.1 2, .boolean), (g.2.2.1 3, .byte), (g.2.2.1 4, .object "java/lang/Object")]
/-- one cell written, or made -/
def mj_up (M : mj_M) (a : Nat) (c : mj_C) : mj_M := fun q => cond (Nat.beq q a) (some c) (M q)
def mj_A (g : mj_G) : Nat → Prop := fun q => g.1 ≤ q
/-- the heap holds the memory -/
def mj_R (g : mj_G) (M : mj_M) (nx : Nat) (H : Heap) : Prop := (∀ (a : Nat) (c : mj_C), M a = some c → 64 ≤ a ∧ a < nx ∧ va_at g.2.1 kcl (mj_r g a, mj_c g c) H) ∧ 64 ≤ nx ∧ H.size = mj_r g nx
def mj_K (g : mj_G) (U : State) : Prop := va_K g.2.1 kcl (mj_tys g) U
/-- the String constants: whose, which entry, the text, the logical address -/
def mj_strs : List (String × Nat × String × Nat) := [("TrustDesk$Reader", 264, "poor maids boys sick bread coal rent lake income coin living dead marks", 10), ("TrustDesk$Reader", 270, "fail keep days late gain sell near join sale strike bar mark trust end pays if part not and or", 11), ("TrustDesk", 444, "no such fund", 12), ("TrustDesk", 461, "no such question", 13), ("TrustDeskModel", 351, "fail", 14), ("TrustDeskModel", 353, "keep", 15), ("TrustDeskModel", 355, "days", 16), ("TrustDeskModel", 357, "late", 17), ("TrustDeskModel", 359, "gain", 18), ("TrustDeskModel", 361, "sell", 19), ("TrustDeskModel", 363, "bar", 20), ("TrustDeskModel", 368, "near", 21), ("TrustDeskModel", 370, "join", 22), ("TrustDeskModel", 372, "sale", 23), ("TrustDeskModel", 374, "strike", 24), ("TrustDeskModel", 333, "if", 25), ("TrustDeskModel", 300, "not", 26), ("TrustDeskModel", 248, "poor", 27), ("TrustDeskModel", 250, "maids", 28), ("TrustDeskModel", 252, "boys", 29), ("TrustDeskModel", 254, "sick", 30), ("TrustDeskModel", 256, "bread", 31), ("TrustDeskModel", 258, "coal", 32), ("TrustDeskModel", 260, "rent", 33), ("TrustDeskModel", 262, "lake", 34), ("TrustDeskModel", 264, "income", 35), ("TrustDeskModel", 266, "coin", 36), ("TrustDeskModel", 271, "living", 37), ("TrustDeskModel", 273, "dead", 38), ("TrustDeskModel", 275, "marks", 39), ("TrustDeskModel", 310, "and", 40), ("TrustDeskModel", 315, "or", 41), ("TrustDeskModel", 336, "end", 42), ("TrustDeskModel", 338, "mark", 43), ("TrustDeskModel", 340, "trust", 44), ("TrustDeskModel", 327, "pays", 45), ("TrustDeskModel", 335, "part", 46)]
def mj_rw : List Value := [.int 3, .int 1, .int 30, .int 90, .int 0, .int 20]
def mj_rl : List Value := [.int 1, .int 0, .int 1, .int 1, .int 0, .int 1]
def mj_rm : List Value := [.int 50, .int 8, .int 360, .int 720, .int 20, .int 40]
/-- a constant int array, its cell exactly -/
def mj_E (t N : Nat) (f : Nat → Value) (A : Nat → Prop) (U : State) (H : Heap) : Prop := ∃ cell : Cell, H[t]? = some cell ∧ cell.vm ≠ .unknown ∧ (∀ k, cell.vm ≠ .statics k) ∧ U.vm.findClass "[I" = some cell.cls ∧ cell.slots.size = N ∧ (∀ j : Nat, j < N → cell.slots[j]? = some (f j)) ∧ ¬ A t
theorem mj_E.moved {t N : Nat} {f : Nat → Value} {A : Nat → Prop} {u U : State} {H : Heap} (hvm : u.vm.Alike U.vm) (h : mj_E t N f A u H) : mj_E t N f A U H := by
  obtain ⟨cell, h1, h2, h3, h4, h5⟩ := h
  exact ⟨cell, h1, h2, h3, by rw [hvm.findClass]; exact h4, h5⟩
theorem mj_E.kept {t N : Nat} {f : Nat → Value} {A : Nat → Prop} {U : State} {H H1 : Heap} (h : mj_E t N f A U H) (hq : ∀ a : Nat, a < H.size → ¬ A a → H1[a]? = H[a]?) : mj_E t N f A U H1 := by
  obtain ⟨cell, h1, h2, h3, h4, h5, h6, h7⟩ := h
  exact ⟨cell, by rw [hq t (Array.getElem?_eq_some_iff.mp h1).1 h7]; exact h1, h2, h3, h4, h5, h6, h7⟩
/-- the constants: statics that nobody writes, static arrays, Strings -/
def mj_Z (g : mj_G) (U : State) (H : Heap) : Prop :=
  (va_Z "java/util/ArrayList" "DEFAULTCAPACITY_EMPTY_ELEMENTDATA" "[Ljava/lang/Object;" (.ref (mj_r g 0)) (mj_A g) U H ∧ va_T (.object "java/lang/Object") (mj_r g 0) 0 (fun _ => .null) (mj_A g) U H) ∧
  (va_Z "TrustDesk" "RULE_WITHOUT" "[I" (.ref (mj_r g 1)) (mj_A g) U H ∧ mj_E (mj_r g 1) 6 (fun j => mj_rw.getD j .null) (mj_A g) U H) ∧
  (va_Z "TrustDesk" "RULE_LEAST" "[I" (.ref (mj_r g 2)) (mj_A g) U H ∧ va_T .int (mj_r g 2) 6 (fun j => mj_rl.getD j .null) (mj_A g) U H) ∧
  (va_Z "TrustDesk" "RULE_MOST" "[I" (.ref (mj_r g 3)) (mj_A g) U H ∧ va_T .int (mj_r g 3) 6 (fun j => mj_rm.getD j .null) (mj_A g) U H) ∧
  (va_X (mj_r g 50) (mj_L g) (mj_xs g) U H ∧ ¬ mj_A g (mj_r g 50)) ∧
  (vx_Zq Bundle.tN "UNASSIGNED_STACK" Bundle.steD (mj_A g) U H ∧ vx_Zq Bundle.tN "SUPPRESSED_SENTINEL" Bundle.listD (mj_A g) U H) ∧
  ∀ q ∈ mj_strs, vk_R q.1 q.2.1 q.2.2.1 (mj_r g q.2.2.2) U
theorem mj_Z.kept {g : mj_G} {U : State} {H H1 : Heap} (h : mj_Z g U H) (hq : ∀ a : Nat, a < H.size → ¬ mj_A g a → H1[a]? = H[a]?) : mj_Z g U H1 := by
  obtain ⟨⟨a1, a2⟩, ⟨b1, b2⟩, ⟨c1, c2⟩, ⟨d1, d2⟩, ⟨f1, f2⟩, ⟨e1, e2⟩, e⟩ := h
  exact ⟨⟨a1.kept hq, a2.kept hq⟩, ⟨b1.kept hq, b2.kept hq⟩, ⟨c1.kept hq, c2.kept hq⟩, ⟨d1.kept hq, d2.kept hq⟩, ⟨f1.kept (hq _ (by obtain ⟨scr, z, -⟩ := f1; exact (Array.getElem?_eq_some_iff.mp z).1) f2), f2⟩, ⟨e1.kept hq, e2.kept hq⟩, e⟩
theorem mj_Z.warm {g : mj_G} {s U : State} {H : Heap} (hW : s.WarmedH U.vm) (h : mj_Z g s H) : mj_Z g U H := by
  obtain ⟨⟨a1, a2⟩, ⟨b1, b2⟩, ⟨c1, c2⟩, ⟨d1, d2⟩, ⟨f1, f2⟩, ⟨e1, e2⟩, e⟩ := h
  have k := hW.alike
  exact ⟨⟨a1.moved k, a2.moved k⟩, ⟨b1.moved k, b2.moved k⟩, ⟨c1.moved k, c2.moved k⟩, ⟨d1.moved k, d2.moved k⟩, ⟨f1.moved k, f2⟩, ⟨e1.moved k, e2.moved k⟩, fun q hq => (e q hq).warm hW⟩
theorem mj_Z.same {g : mj_G} {s U : State} {H : Heap} (hv : U.vm = s.vm) (h : mj_Z g s H) : mj_Z g U H := by
  obtain ⟨⟨a1, a2⟩, ⟨b1, b2⟩, ⟨c1, c2⟩, ⟨d1, d2⟩, ⟨f1, f2⟩, ⟨e1, e2⟩, e⟩ := h
  have k : s.vm.Alike U.vm := by rw [hv]; exact Vm.Alike.refl _
  exact ⟨⟨a1.moved k, a2.moved k⟩, ⟨b1.moved k, b2.moved k⟩, ⟨c1.moved k, c2.moved k⟩, ⟨d1.moved k, d2.moved k⟩, ⟨f1.moved k, f2⟩, ⟨e1.moved k, e2.moved k⟩, fun q hq => (e q hq).same hv⟩
/-- the words that every method is given: the steady ones of the tables -/
def mj_good (w : Cond) : Bool := (w.onTables && w.keeps) || (match w with
  | .arrayClass _ => true
  | .fieldLinkNest _ _ _ _ _ _ => true
  | .castable _ _ => true
  | .arrayOver (.object _) => true
  | _ => false)
def mj_T : List Cond := lw_tbl.filter mj_good
theorem mj_in {w : Cond} (h : w ∈ lw_tbl) (hg : mj_good w = true) : w ∈ mj_T := List.mem_filter.mpr ⟨h, hg⟩
theorem mj_in1 {w : Cond} (h : w ∈ tables_1) (hg : mj_good w = true) : w ∈ mj_T := mj_in (List.mem_append_right _ h) hg
theorem mj_pay {args : Array Value} {s : State} (hts : ∀ w ∈ mj_T, w.before args s = true) : ∀ w ∈ mj_T, ∀ (a' : Array Value) (U : State), s.WarmedH U.vm → w.before a' U = true := by
  intro w hw a' U hW
  have h1 := (List.mem_filter.mp hw).2
  have h0 := hts w hw
  cases w
  case arrayClass ty => exact word_at hW (Or.inr ⟨ty, rfl⟩) h0
  case fieldLinkNest a i b n d h => exact va_Nw.use rfl (va_Nw.warmF hW (va_Nw.of rfl h0))
  case castable a b => exact va_Nw.use rfl (va_Nw.warmC hW (va_Nw.of rfl h0))
  case arrayOver ty =>
    cases ty
    case object C => exact va_AO.use (va_AO.moved hW.alike (va_AO.of h0))
    all_goals exact word_at hW (Or.inl (by simpa [mj_good] using h1)) h0
  all_goals exact word_at hW (Or.inl (by simpa [mj_good] using h1)) h0
def mj_ws (y : mj_Y) : List Cond := Cond.code y.1 y.2.1 y.2.2.1 y.2.2.2 :: mj_T
/-- what holds in a method, from its entry on -/
def mj_X (g : mj_G) (y : mj_Y) (d : Nat) (p : Program) (R : Room) (s : State) (m : MethodId) (args : Array Value) (meth : Method) (c : Code) : Prop :=
  p.tables.exec = Jvm.exec ∧ c.code = y.2.1 ∧ c.maxLocals = y.2.2.1 ∧ meth.sig.returnType = y.2.2.2 ∧ meth.locks = false ∧ s.vm.findClass y.1.cls = some m.cls ∧ meth.name = y.1.name ∧ (∀ w ∈ mj_T, w.before args s = true) ∧ mj_K g s ∧ mj_Z g s s.heap ∧ d ≤ R.frames ∧ 100 * d ≤ R.locals ∧ g.1 ≤ s.heap.size
/-- what holds behind a method -/
def mj_Q (g : mj_G) (Q : Option Value → mj_M → Nat → Prop) : Array Value → State → Outcome → State → Prop := fun _ st o t =>
  (∃ (r : Option Value) (M : mj_M) (nx : Nat), o = .returned (r.map (mj_v g)) ∧ Q r M nx ∧ mj_R g M nx t.heap) ∧ va_F (mj_A g) st t
/-- THE JUDGEMENT: from this place of the method y, at depth d (calls that may still be open), with these locals, operands and memory (nx: the next logical address), with room for kc cells of ks slots, y returns with Q -/
def mj_V (g : mj_G) (l : Launch) (y : mj_Y) (d pc : Nat) (lv : List (Nat × Value)) (st : List Value) (M : mj_M) (nx kc ks : Nat) (Q : Option Value → mj_M → Nat → Prop) : Prop :=
  ∀ (p : Program) (e : Env) (R : Room) (s : State) (m : MethodId) (args : Array Value) (below : List Frame) (meth : Method) (c : Code) (H : Heap) (locs : List Loc) (ls : Array Slot) (cells slots TC TS : Nat),
    mj_X g y d p R s m args meth c → mj_R g M nx H → va_S (mj_A g) s.heap H locs → lv_has ls y.2.2.1 (lv.map (mj_p g)) → cells + kc ≤ TC → slots + ks ≤ TS → TC ≤ R.cells → TS ≤ R.slots →
    W p l e R s m args below meth c H locs cells slots (MQ below (mj_Q g Q) args s TC TS (mj_A g)) (F0 m pc ls (st.map (mj_v g)))
/-- a method's contract, from these arguments and this memory -/
def mj_Pc (g : mj_G) (As : List Value) (M : mj_M) (nx : Nat) : Array Value → State → Prop := fun v U => v = (As.map (mj_v g)).toArray ∧ mj_R g M nx U.heap ∧ mj_K g U ∧ mj_Z g U U.heap
def mj_rm0 (d kc ks : Nat) : Room := { frames := d, cells := kc, slots := ks, locals := 100 * d }
def mj_Met (g : mj_G) (l : Launch) (y : mj_Y) (d : Nat) (As : List Value) (M : mj_M) (nx kc ks : Nat) (Q : Option Value → mj_M → Nat → Prop) : Prop :=
  Met l y.1 (mj_ws y) (mj_rm0 d kc ks) (mj_Pc g As M nx) (mj_Q g Q) kc ks (mj_A g)
/-! the locals -/
def mj_lk : List (Nat × Value) → Nat → Option Value
  | [], _ => none
  | q :: r, i => cond (Nat.beq q.1 i) (some q.2) (mj_lk r i)
def mj_put (lv : List (Nat × Value)) (i : Nat) (v : Value) : List (Nat × Value) := (i, v) :: lv.filter (fun q => !(q.1 == i) && !(q.1 + 1 == i && q.2.category == 2))
def mj_put2 (lv : List (Nat × Value)) (i : Nat) (v : Value) : List (Nat × Value) := (i, v) :: lv.filter (fun q => !(q.1 == i) && (!(q.1 == i + 1) && !(q.1 + 1 == i && q.2.category == 2)))
theorem mj_cat (g : mj_G) (v : Value) : (mj_v g v).category = v.category := by cases v <;> rfl
theorem mj_cats (g : mj_G) (st : List Value) : ((st.map (mj_v g)).map fun v => v.category) = st.map fun v => v.category := by
  rw [List.map_map]
  exact List.map_congr_left (fun v _ => mj_cat g v)
theorem mj_put_map (g : mj_G) (lv : List (Nat × Value)) (i : Nat) (v : Value) : (mj_put lv i v).map (mj_p g) = (i, mj_v g v) :: (lv.map (mj_p g)).filter (fun q => !(q.1 == i) && !(q.1 + 1 == i && q.2.category == 2)) := by
  rw [mj_put, List.map_cons, List.filter_map]
  congr 2
  apply List.filter_congr
  intro q _
  simp only [Function.comp, mj_p, mj_cat]
theorem mj_put2_map (g : mj_G) (lv : List (Nat × Value)) (i : Nat) (v : Value) : (mj_put2 lv i v).map (mj_p g) = (i, mj_v g v) :: (lv.map (mj_p g)).filter (fun q => !(q.1 == i) && (!(q.1 == i + 1) && !(q.1 + 1 == i && q.2.category == 2))) := by
  rw [mj_put2, List.map_cons, List.filter_map]
  congr 2
  apply List.filter_congr
  intro q _
  simp only [Function.comp, mj_p, mj_cat]
theorem mj_lk_mem {lv : List (Nat × Value)} {i : Nat} {v : Value} (h : mj_lk lv i = some v) : (i, v) ∈ lv := by
  induction lv with
  | nil => cases h
  | cons q r ih =>
    rw [mj_lk] at h
    cases hb : Nat.beq q.1 i with
    | true =>
      rw [hb, cond_true] at h
      have e1 : q.1 = i := Nat.eq_of_beq_eq_true hb
      cases h
      rw [← e1]
      exact List.mem_cons_self
    | false =>
      rw [hb, cond_false] at h
      exact List.mem_cons_of_mem _ (ih h)
theorem mj_at {g : mj_G} {ls : Array Slot} {nL : Nat} {lv : List (Nat × Value)} {i : Nat} {v : Value} (hl : lv_has ls nL (lv.map (mj_p g))) (h : mj_lk lv i = some v) : ls[i]? = some (.val (mj_v g v)) :=
  hl.2.2 (i, mj_v g v) (List.mem_map.mpr ⟨(i, v), mj_lk_mem h, rfl⟩)
theorem mj_args (g : mj_G) : ∀ (As : List Value) (i : Nat), lv_args i (As.map (mj_v g)) = (lv_args i As).map (mj_p g)
  | [], _ => rfl
  | v :: r, i => by
    cases v <;> (simp only [List.map_cons, lv_args]; rw [mj_args g r]; rfl)
end
section
section MV
variable {g : mj_G} {l : Launch} {y : mj_Y} {d pc : Nat} {lv : List (Nat × Value)} {st : List Value} {M : mj_M} {nx kc ks : Nat} {Q : Option Value → mj_M → Nat → Prop}
theorem mv_iconst {n : Int} {v : Int32} (hd : decode y.2.1 pc = .ok (.iconst n, 1)) (hv : Int32.ofInt n = v) (k : mj_V g l y d (pc + 1) lv (.int v :: st) M nx kc ks Q) : mj_V g l y d pc lv st M nx kc ks Q := by
  intro p e R s m args below meth c H locs ls cells slots TC TS X hR hS hl h1 h2 h3 h4
  exact lv_iconst X.1 X.2.1 hd hv (k p e R s m args below meth c H locs ls cells slots TC TS X hR hS hl h1 h2 h3 h4)
theorem mv_bipush {n : Int} {v : Int32} (hd : decode y.2.1 pc = .ok (.bipush n, 2)) (hv : (Int8.ofInt n).toInt32 = v) (k : mj_V g l y d (pc + 2) lv (.int v :: st) M nx kc ks Q) : mj_V g l y d pc lv st M nx kc ks Q := by
  intro p e R s m args below meth c H locs ls cells slots TC TS X hR hS hl h1 h2 h3 h4
  exact lv_bipush X.1 X.2.1 hd hv (k p e R s m args below meth c H locs ls cells slots TC TS X hR hS hl h1 h2 h3 h4)
theorem mv_sipush {n : Int} {v : Int32} (hd : decode y.2.1 pc = .ok (.sipush n, 3)) (hv : (Int16.ofInt n).toInt32 = v) (k : mj_V g l y d (pc + 3) lv (.int v :: st) M nx kc ks Q) : mj_V g l y d pc lv st M nx kc ks Q := by
  intro p e R s m args below meth c H locs ls cells slots TC TS X hR hS hl h1 h2 h3 h4
  exact lv_sipush X.1 X.2.1 hd hv (k p e R s m args below meth c H locs ls cells slots TC TS X hR hS hl h1 h2 h3 h4)
theorem mv_lconst {n : Fin 2} {v : Int64} (hd : decode y.2.1 pc = .ok (.lconst n, 1)) (hv : Int64.ofNat (n : Nat) = v) (k : mj_V g l y d (pc + 1) lv (.long v :: st) M nx kc ks Q) : mj_V g l y d pc lv st M nx kc ks Q := by
  intro p e R s m args below meth c H locs ls cells slots TC TS X hR hS hl h1 h2 h3 h4
  exact lv_lconst X.1 X.2.1 hd hv (k p e R s m args below meth c H locs ls cells slots TC TS X hR hS hl h1 h2 h3 h4)
theorem mv_null  (hd : decode y.2.1 pc = .ok (.aconst_null, 1))  (k : mj_V g l y d (pc + 1) lv (.null :: st) M nx kc ks Q) : mj_V g l y d pc lv st M nx kc ks Q := by
  intro p e R s m args below meth c H locs ls cells slots TC TS X hR hS hl h1 h2 h3 h4
  exact lv_null X.1 X.2.1 hd  (k p e R s m args below meth c H locs ls cells slots TC TS X hR hS hl h1 h2 h3 h4)
theorem mv_iload_n {k : Fin 4} {i : Nat} {x : Int32} (hd : decode y.2.1 pc = .ok (.iload_n k, 1)) (hi : (k : Nat) = i) (hk : mj_lk lv i = some (.int x)) (k : mj_V g l y d (pc + 1) lv (.int x :: st) M nx kc ks Q) : mj_V g l y d pc lv st M nx kc ks Q := by
  intro p e R s m args below meth c H locs ls cells slots TC TS X hR hS hl h1 h2 h3 h4
  exact lv_iload_n X.1 X.2.1 hd hi (mj_at hl hk) (k p e R s m args below meth c H locs ls cells slots TC TS X hR hS hl h1 h2 h3 h4)
theorem mv_iload {i : Nat} {x : Int32} (hd : decode y.2.1 pc = .ok (.iload i, 2)) (hk : mj_lk lv i = some (.int x)) (k : mj_V g l y d (pc + 2) lv (.int x :: st) M nx kc ks Q) : mj_V g l y d pc lv st M nx kc ks Q := by
  intro p e R s m args below meth c H locs ls cells slots TC TS X hR hS hl h1 h2 h3 h4
  exact lv_iload X.1 X.2.1 hd (mj_at hl hk) (k p e R s m args below meth c H locs ls cells slots TC TS X hR hS hl h1 h2 h3 h4)
theorem mv_lload_n {k : Fin 4} {i : Nat} {x : Int64} (hd : decode y.2.1 pc = .ok (.lload_n k, 1)) (hi : (k : Nat) = i) (hk : mj_lk lv i = some (.long x)) (k : mj_V g l y d (pc + 1) lv (.long x :: st) M nx kc ks Q) : mj_V g l y d pc lv st M nx kc ks Q := by
  intro p e R s m args below meth c H locs ls cells slots TC TS X hR hS hl h1 h2 h3 h4
  exact lv_lload_n X.1 X.2.1 hd hi (mj_at hl hk) (k p e R s m args below meth c H locs ls cells slots TC TS X hR hS hl h1 h2 h3 h4)
theorem mv_lload {i : Nat} {x : Int64} (hd : decode y.2.1 pc = .ok (.lload i, 2)) (hk : mj_lk lv i = some (.long x)) (k : mj_V g l y d (pc + 2) lv (.long x :: st) M nx kc ks Q) : mj_V g l y d pc lv st M nx kc ks Q := by
  intro p e R s m args below meth c H locs ls cells slots TC TS X hR hS hl h1 h2 h3 h4
  exact lv_lload X.1 X.2.1 hd (mj_at hl hk) (k p e R s m args below meth c H locs ls cells slots TC TS X hR hS hl h1 h2 h3 h4)
theorem mv_aload_n {k : Fin 4} {i : Nat} {x : Nat} (hd : decode y.2.1 pc = .ok (.aload_n k, 1)) (hi : (k : Nat) = i) (hk : mj_lk lv i = some (.ref x)) (k : mj_V g l y d (pc + 1) lv (.ref x :: st) M nx kc ks Q) : mj_V g l y d pc lv st M nx kc ks Q := by
  intro p e R s m args below meth c H locs ls cells slots TC TS X hR hS hl h1 h2 h3 h4
  exact lv_aload_n X.1 X.2.1 hd hi (mj_at hl hk) (k p e R s m args below meth c H locs ls cells slots TC TS X hR hS hl h1 h2 h3 h4)
theorem mv_aload {i : Nat} {x : Nat} (hd : decode y.2.1 pc = .ok (.aload i, 2)) (hk : mj_lk lv i = some (.ref x)) (k : mj_V g l y d (pc + 2) lv (.ref x :: st) M nx kc ks Q) : mj_V g l y d pc lv st M nx kc ks Q := by
  intro p e R s m args below meth c H locs ls cells slots TC TS X hR hS hl h1 h2 h3 h4
  exact lv_aload X.1 X.2.1 hd (mj_at hl hk) (k p e R s m args below meth c H locs ls cells slots TC TS X hR hS hl h1 h2 h3 h4)
theorem mv_aload_nN {k : Fin 4} {i : Nat} (hd : decode y.2.1 pc = .ok (.aload_n k, 1)) (hi : (k : Nat) = i) (hk : mj_lk lv i = some .null) (k : mj_V g l y d (pc + 1) lv (.null :: st) M nx kc ks Q) : mj_V g l y d pc lv st M nx kc ks Q := by
  intro p e R s m args below meth c H locs ls cells slots TC TS X hR hS hl h1 h2 h3 h4
  exact lv_aload_nN X.1 X.2.1 hd hi (mj_at hl hk) (k p e R s m args below meth c H locs ls cells slots TC TS X hR hS hl h1 h2 h3 h4)
theorem mv_aloadN {i : Nat} (hd : decode y.2.1 pc = .ok (.aload i, 2)) (hk : mj_lk lv i = some .null) (k : mj_V g l y d (pc + 2) lv (.null :: st) M nx kc ks Q) : mj_V g l y d pc lv st M nx kc ks Q := by
  intro p e R s m args below meth c H locs ls cells slots TC TS X hR hS hl h1 h2 h3 h4
  exact lv_aloadN X.1 X.2.1 hd (mj_at hl hk) (k p e R s m args below meth c H locs ls cells slots TC TS X hR hS hl h1 h2 h3 h4)
theorem mv_rload_n {k : Fin 4} {i : Nat} {r : Option Nat} (hd : decode y.2.1 pc = .ok (.aload_n k, 1)) (hi : (k : Nat) = i) (hk : mj_lk lv i = some (va_rf r)) (kk : mj_V g l y d (pc + 1) lv (va_rf r :: st) M nx kc ks Q) : mj_V g l y d pc lv st M nx kc ks Q := by
  cases r with
  | none => exact mv_aload_nN hd hi hk kk
  | some a => exact mv_aload_n hd hi hk kk
theorem mv_rload {i : Nat} {r : Option Nat} (hd : decode y.2.1 pc = .ok (.aload i, 2)) (hk : mj_lk lv i = some (va_rf r)) (kk : mj_V g l y d (pc + 2) lv (va_rf r :: st) M nx kc ks Q) : mj_V g l y d pc lv st M nx kc ks Q := by
  cases r with
  | none => exact mv_aloadN hd hk kk
  | some a => exact mv_aload hd hk kk
theorem mv_istore_n {k0 : Fin 4} {i : Nat} {x : Int32} {lv' : List (Nat × Value)} (hd : decode y.2.1 pc = .ok (.istore_n k0, 1)) (hi : (k0 : Nat) = i) (hn : i < y.2.2.1) (hp : mj_put lv i (.int x) = lv') (k : mj_V g l y d (pc + 1) lv' st M nx kc ks Q) : mj_V g l y d pc lv (.int x :: st) M nx kc ks Q := by
  intro p e R s m args below meth c H locs ls cells slots TC TS X hR hS hl h1 h2 h3 h4
  subst hp
  exact lv_istore_n X.1 X.2.1 hd hi hl hn (mj_put_map g lv i (.int x)).symm (fun ls hl => k p e R s m args below meth c H locs ls cells slots TC TS X hR hS hl h1 h2 h3 h4)
theorem mv_istore {i : Nat} {x : Int32} {lv' : List (Nat × Value)} (hd : decode y.2.1 pc = .ok (.istore i, 2))  (hn : i < y.2.2.1) (hp : mj_put lv i (.int x) = lv') (k : mj_V g l y d (pc + 2) lv' st M nx kc ks Q) : mj_V g l y d pc lv (.int x :: st) M nx kc ks Q := by
  intro p e R s m args below meth c H locs ls cells slots TC TS X hR hS hl h1 h2 h3 h4
  subst hp
  exact lv_istore X.1 X.2.1 hd  hl hn (mj_put_map g lv i (.int x)).symm (fun ls hl => k p e R s m args below meth c H locs ls cells slots TC TS X hR hS hl h1 h2 h3 h4)
theorem mv_lstore_n {k0 : Fin 4} {i : Nat} {x : Int64} {lv' : List (Nat × Value)} (hd : decode y.2.1 pc = .ok (.lstore_n k0, 1)) (hi : (k0 : Nat) = i) (hn : i + 1 < y.2.2.1) (hp : mj_put2 lv i (.long x) = lv') (k : mj_V g l y d (pc + 1) lv' st M nx kc ks Q) : mj_V g l y d pc lv (.long x :: st) M nx kc ks Q := by
  intro p e R s m args below meth c H locs ls cells slots TC TS X hR hS hl h1 h2 h3 h4
  subst hp
  exact lv_lstore_n X.1 X.2.1 hd hi hl hn (mj_put2_map g lv i (.long x)).symm (fun ls hl => k p e R s m args below meth c H locs ls cells slots TC TS X hR hS hl h1 h2 h3 h4)
theorem mv_lstore {i : Nat} {x : Int64} {lv' : List (Nat × Value)} (hd : decode y.2.1 pc = .ok (.lstore i, 2))  (hn : i + 1 < y.2.2.1) (hp : mj_put2 lv i (.long x) = lv') (k : mj_V g l y d (pc + 2) lv' st M nx kc ks Q) : mj_V g l y d pc lv (.long x :: st) M nx kc ks Q := by
  intro p e R s m args below meth c H locs ls cells slots TC TS X hR hS hl h1 h2 h3 h4
  subst hp
  exact lv_lstore X.1 X.2.1 hd  hl hn (mj_put2_map g lv i (.long x)).symm (fun ls hl => k p e R s m args below meth c H locs ls cells slots TC TS X hR hS hl h1 h2 h3 h4)
theorem mv_astore_n {k0 : Fin 4} {i : Nat} {x : Nat} {lv' : List (Nat × Value)} (hd : decode y.2.1 pc = .ok (.astore_n k0, 1)) (hi : (k0 : Nat) = i) (hn : i < y.2.2.1) (hp : mj_put lv i (.ref x) = lv') (k : mj_V g l y d (pc + 1) lv' st M nx kc ks Q) : mj_V g l y d pc lv (.ref x :: st) M nx kc ks Q := by
  intro p e R s m args below meth c H locs ls cells slots TC TS X hR hS hl h1 h2 h3 h4
  subst hp
  exact lv_astore_n X.1 X.2.1 hd hi hl hn (mj_put_map g lv i (.ref x)).symm (fun ls hl => k p e R s m args below meth c H locs ls cells slots TC TS X hR hS hl h1 h2 h3 h4)
theorem mv_astore {i : Nat} {x : Nat} {lv' : List (Nat × Value)} (hd : decode y.2.1 pc = .ok (.astore i, 2))  (hn : i < y.2.2.1) (hp : mj_put lv i (.ref x) = lv') (k : mj_V g l y d (pc + 2) lv' st M nx kc ks Q) : mj_V g l y d pc lv (.ref x :: st) M nx kc ks Q := by
  intro p e R s m args below meth c H locs ls cells slots TC TS X hR hS hl h1 h2 h3 h4
  subst hp
  exact lv_astore X.1 X.2.1 hd  hl hn (mj_put_map g lv i (.ref x)).symm (fun ls hl => k p e R s m args below meth c H locs ls cells slots TC TS X hR hS hl h1 h2 h3 h4)
theorem mv_astore_nN {k0 : Fin 4} {i : Nat} {lv' : List (Nat × Value)} (hd : decode y.2.1 pc = .ok (.astore_n k0, 1)) (hi : (k0 : Nat) = i) (hn : i < y.2.2.1) (hp : mj_put lv i (.null) = lv') (k : mj_V g l y d (pc + 1) lv' st M nx kc ks Q) : mj_V g l y d pc lv (.null :: st) M nx kc ks Q := by
  intro p e R s m args below meth c H locs ls cells slots TC TS X hR hS hl h1 h2 h3 h4
  subst hp
  exact lv_astore_nN X.1 X.2.1 hd hi hl hn (mj_put_map g lv i (.null)).symm (fun ls hl => k p e R s m args below meth c H locs ls cells slots TC TS X hR hS hl h1 h2 h3 h4)
theorem mv_astoreN {i : Nat} {lv' : List (Nat × Value)} (hd : decode y.2.1 pc = .ok (.astore i, 2))  (hn : i < y.2.2.1) (hp : mj_put lv i (.null) = lv') (k : mj_V g l y d (pc + 2) lv' st M nx kc ks Q) : mj_V g l y d pc lv (.null :: st) M nx kc ks Q := by
  intro p e R s m args below meth c H locs ls cells slots TC TS X hR hS hl h1 h2 h3 h4
  subst hp
  exact lv_astoreN X.1 X.2.1 hd  hl hn (mj_put_map g lv i (.null)).symm (fun ls hl => k p e R s m args below meth c H locs ls cells slots TC TS X hR hS hl h1 h2 h3 h4)
theorem mv_rstore_n {k0 : Fin 4} {i : Nat} {r : Option Nat} {lv' : List (Nat × Value)} (hd : decode y.2.1 pc = .ok (.astore_n k0, 1)) (hi : (k0 : Nat) = i) (hn : i < y.2.2.1) (hp : mj_put lv i (va_rf r) = lv') (k : mj_V g l y d (pc + 1) lv' st M nx kc ks Q) : mj_V g l y d pc lv (va_rf r :: st) M nx kc ks Q := by
  cases r with
  | none => exact mv_astore_nN hd hi hn hp k
  | some a => exact mv_astore_n hd hi hn hp k
theorem mv_rstore {i : Nat} {r : Option Nat} {lv' : List (Nat × Value)} (hd : decode y.2.1 pc = .ok (.astore i, 2)) (hn : i < y.2.2.1) (hp : mj_put lv i (va_rf r) = lv') (k : mj_V g l y d (pc + 2) lv' st M nx kc ks Q) : mj_V g l y d pc lv (va_rf r :: st) M nx kc ks Q := by
  cases r with
  | none => exact mv_astoreN hd hn hp k
  | some a => exact mv_astore hd hn hp k
theorem mj_mem_pl {g : mj_G} {lv : List (Nat × Value)} {i : Nat} {v : Value} (h : mj_lk lv i = some v) : ∃ k : Nat, (lv.map (mj_p g))[k]? = some (i, mj_v g v) := by
  have h1 : (i, mj_v g v) ∈ lv.map (mj_p g) := List.mem_map.mpr ⟨(i, v), mj_lk_mem h, rfl⟩
  obtain ⟨k, hk⟩ := List.getElem?_of_mem h1
  exact ⟨k, hk⟩
theorem mv_iinc {i : Nat} {n : Int} {x v : Int32} {lv' : List (Nat × Value)} (hd : decode y.2.1 pc = .ok (.iinc i n, 3)) (hk : mj_lk lv i = some (.int x)) (hv : x + Int32.ofInt n = v) (hn : i < y.2.2.1) (hp : mj_put lv i (.int v) = lv') (k : mj_V g l y d (pc + 3) lv' st M nx kc ks Q) : mj_V g l y d pc lv st M nx kc ks Q := by
  intro p e R s m args below meth c H locs ls cells slots TC TS X hR hS hl h1 h2 h3 h4
  subst hp
  obtain ⟨k9, hk9⟩ := mj_mem_pl (g := g) hk
  exact lv_iinc X.1 X.2.1 hd hl hk9 hv hn (mj_put_map g lv i (.int v)).symm (fun ls hl => k p e R s m args below meth c H locs ls cells slots TC TS X hR hS hl h1 h2 h3 h4)
theorem mv_iadd {x y0 : Int32} (hd : decode y.2.1 pc = .ok (.iadd, 1))  (k : mj_V g l y d (pc + 1) lv (.int (x + y0) :: st) M nx kc ks Q) : mj_V g l y d pc lv (.int y0 :: .int x :: st) M nx kc ks Q := by
  intro p e R s m args below meth c H locs ls cells slots TC TS X hR hS hl h1 h2 h3 h4
  exact lv_iadd X.1 X.2.1 hd  (k p e R s m args below meth c H locs ls cells slots TC TS X hR hS hl h1 h2 h3 h4)
theorem mv_isub {x y0 : Int32} (hd : decode y.2.1 pc = .ok (.isub, 1))  (k : mj_V g l y d (pc + 1) lv (.int (x - y0) :: st) M nx kc ks Q) : mj_V g l y d pc lv (.int y0 :: .int x :: st) M nx kc ks Q := by
  intro p e R s m args below meth c H locs ls cells slots TC TS X hR hS hl h1 h2 h3 h4
  exact lv_isub X.1 X.2.1 hd  (k p e R s m args below meth c H locs ls cells slots TC TS X hR hS hl h1 h2 h3 h4)
theorem mv_imul {x y0 : Int32} (hd : decode y.2.1 pc = .ok (.imul, 1))  (k : mj_V g l y d (pc + 1) lv (.int (x * y0) :: st) M nx kc ks Q) : mj_V g l y d pc lv (.int y0 :: .int x :: st) M nx kc ks Q := by
  intro p e R s m args below meth c H locs ls cells slots TC TS X hR hS hl h1 h2 h3 h4
  exact lv_imul X.1 X.2.1 hd  (k p e R s m args below meth c H locs ls cells slots TC TS X hR hS hl h1 h2 h3 h4)
theorem mv_iand {x y0 : Int32} (hd : decode y.2.1 pc = .ok (.iand, 1))  (k : mj_V g l y d (pc + 1) lv (.int (x &&& y0) :: st) M nx kc ks Q) : mj_V g l y d pc lv (.int y0 :: .int x :: st) M nx kc ks Q := by
  intro p e R s m args below meth c H locs ls cells slots TC TS X hR hS hl h1 h2 h3 h4
  exact lv_iand X.1 X.2.1 hd  (k p e R s m args below meth c H locs ls cells slots TC TS X hR hS hl h1 h2 h3 h4)
theorem mv_ior {x y0 : Int32} (hd : decode y.2.1 pc = .ok (.ior, 1))  (k : mj_V g l y d (pc + 1) lv (.int (x ||| y0) :: st) M nx kc ks Q) : mj_V g l y d pc lv (.int y0 :: .int x :: st) M nx kc ks Q := by
  intro p e R s m args below meth c H locs ls cells slots TC TS X hR hS hl h1 h2 h3 h4
  exact lv_ior X.1 X.2.1 hd  (k p e R s m args below meth c H locs ls cells slots TC TS X hR hS hl h1 h2 h3 h4)
theorem mv_ixor {x y0 : Int32} (hd : decode y.2.1 pc = .ok (.ixor, 1))  (k : mj_V g l y d (pc + 1) lv (.int (x ^^^ y0) :: st) M nx kc ks Q) : mj_V g l y d pc lv (.int y0 :: .int x :: st) M nx kc ks Q := by
  intro p e R s m args below meth c H locs ls cells slots TC TS X hR hS hl h1 h2 h3 h4
  exact lv_ixor X.1 X.2.1 hd  (k p e R s m args below meth c H locs ls cells slots TC TS X hR hS hl h1 h2 h3 h4)
theorem mv_ishl {x y0 : Int32} (hd : decode y.2.1 pc = .ok (.ishl, 1))  (k : mj_V g l y d (pc + 1) lv (.int (x <<< (y0 &&& 31)) :: st) M nx kc ks Q) : mj_V g l y d pc lv (.int y0 :: .int x :: st) M nx kc ks Q := by
  intro p e R s m args below meth c H locs ls cells slots TC TS X hR hS hl h1 h2 h3 h4
  exact lv_ishl X.1 X.2.1 hd  (k p e R s m args below meth c H locs ls cells slots TC TS X hR hS hl h1 h2 h3 h4)
theorem mv_ishr {x y0 : Int32} (hd : decode y.2.1 pc = .ok (.ishr, 1))  (k : mj_V g l y d (pc + 1) lv (.int (x >>> (y0 &&& 31)) :: st) M nx kc ks Q) : mj_V g l y d pc lv (.int y0 :: .int x :: st) M nx kc ks Q := by
  intro p e R s m args below meth c H locs ls cells slots TC TS X hR hS hl h1 h2 h3 h4
  exact lv_ishr X.1 X.2.1 hd  (k p e R s m args below meth c H locs ls cells slots TC TS X hR hS hl h1 h2 h3 h4)
theorem mv_idiv {x y0 : Int32} (hd : decode y.2.1 pc = .ok (.idiv, 1)) (hne : ¬ y0 = 0) (k : mj_V g l y d (pc + 1) lv (.int (x / y0) :: st) M nx kc ks Q) : mj_V g l y d pc lv (.int y0 :: .int x :: st) M nx kc ks Q := by
  intro p e R s m args below meth c H locs ls cells slots TC TS X hR hS hl h1 h2 h3 h4
  exact lv_idiv X.1 X.2.1 hd hne (k p e R s m args below meth c H locs ls cells slots TC TS X hR hS hl h1 h2 h3 h4)
theorem mv_irem {x y0 : Int32} (hd : decode y.2.1 pc = .ok (.irem, 1)) (hne : ¬ y0 = 0) (k : mj_V g l y d (pc + 1) lv (.int (x - x / y0 * y0) :: st) M nx kc ks Q) : mj_V g l y d pc lv (.int y0 :: .int x :: st) M nx kc ks Q := by
  intro p e R s m args below meth c H locs ls cells slots TC TS X hR hS hl h1 h2 h3 h4
  exact lv_irem X.1 X.2.1 hd hne (k p e R s m args below meth c H locs ls cells slots TC TS X hR hS hl h1 h2 h3 h4)
theorem mv_ineg {x : Int32} (hd : decode y.2.1 pc = .ok (.ineg, 1))  (k : mj_V g l y d (pc + 1) lv (.int (-x) :: st) M nx kc ks Q) : mj_V g l y d pc lv (.int x :: st) M nx kc ks Q := by
  intro p e R s m args below meth c H locs ls cells slots TC TS X hR hS hl h1 h2 h3 h4
  exact lv_ineg X.1 X.2.1 hd  (k p e R s m args below meth c H locs ls cells slots TC TS X hR hS hl h1 h2 h3 h4)
theorem mv_ladd {x y0 : Int64} (hd : decode y.2.1 pc = .ok (.ladd, 1))  (k : mj_V g l y d (pc + 1) lv (.long (x + y0) :: st) M nx kc ks Q) : mj_V g l y d pc lv (.long y0 :: .long x :: st) M nx kc ks Q := by
  intro p e R s m args below meth c H locs ls cells slots TC TS X hR hS hl h1 h2 h3 h4
  exact lv_ladd X.1 X.2.1 hd  (k p e R s m args below meth c H locs ls cells slots TC TS X hR hS hl h1 h2 h3 h4)
theorem mv_lsub {x y0 : Int64} (hd : decode y.2.1 pc = .ok (.lsub, 1))  (k : mj_V g l y d (pc + 1) lv (.long (x - y0) :: st) M nx kc ks Q) : mj_V g l y d pc lv (.long y0 :: .long x :: st) M nx kc ks Q := by
  intro p e R s m args below meth c H locs ls cells slots TC TS X hR hS hl h1 h2 h3 h4
  exact lv_lsub X.1 X.2.1 hd  (k p e R s m args below meth c H locs ls cells slots TC TS X hR hS hl h1 h2 h3 h4)
theorem mv_lmul {x y0 : Int64} (hd : decode y.2.1 pc = .ok (.lmul, 1))  (k : mj_V g l y d (pc + 1) lv (.long (x * y0) :: st) M nx kc ks Q) : mj_V g l y d pc lv (.long y0 :: .long x :: st) M nx kc ks Q := by
  intro p e R s m args below meth c H locs ls cells slots TC TS X hR hS hl h1 h2 h3 h4
  exact lv_lmul X.1 X.2.1 hd  (k p e R s m args below meth c H locs ls cells slots TC TS X hR hS hl h1 h2 h3 h4)
theorem mv_land {x y0 : Int64} (hd : decode y.2.1 pc = .ok (.land, 1))  (k : mj_V g l y d (pc + 1) lv (.long (x &&& y0) :: st) M nx kc ks Q) : mj_V g l y d pc lv (.long y0 :: .long x :: st) M nx kc ks Q := by
  intro p e R s m args below meth c H locs ls cells slots TC TS X hR hS hl h1 h2 h3 h4
  exact lv_land X.1 X.2.1 hd  (k p e R s m args below meth c H locs ls cells slots TC TS X hR hS hl h1 h2 h3 h4)
theorem mv_lor {x y0 : Int64} (hd : decode y.2.1 pc = .ok (.lor, 1))  (k : mj_V g l y d (pc + 1) lv (.long (x ||| y0) :: st) M nx kc ks Q) : mj_V g l y d pc lv (.long y0 :: .long x :: st) M nx kc ks Q := by
  intro p e R s m args below meth c H locs ls cells slots TC TS X hR hS hl h1 h2 h3 h4
  exact lv_lor X.1 X.2.1 hd  (k p e R s m args below meth c H locs ls cells slots TC TS X hR hS hl h1 h2 h3 h4)
theorem mv_ldiv {x y0 : Int64} (hd : decode y.2.1 pc = .ok (.ldiv, 1)) (hne : ¬ y0 = 0) (k : mj_V g l y d (pc + 1) lv (.long (x / y0) :: st) M nx kc ks Q) : mj_V g l y d pc lv (.long y0 :: .long x :: st) M nx kc ks Q := by
  intro p e R s m args below meth c H locs ls cells slots TC TS X hR hS hl h1 h2 h3 h4
  exact lv_ldiv X.1 X.2.1 hd hne (k p e R s m args below meth c H locs ls cells slots TC TS X hR hS hl h1 h2 h3 h4)
theorem mv_lneg {x : Int64} (hd : decode y.2.1 pc = .ok (.lneg, 1))  (k : mj_V g l y d (pc + 1) lv (.long (-x) :: st) M nx kc ks Q) : mj_V g l y d pc lv (.long x :: st) M nx kc ks Q := by
  intro p e R s m args below meth c H locs ls cells slots TC TS X hR hS hl h1 h2 h3 h4
  exact lv_lneg X.1 X.2.1 hd  (k p e R s m args below meth c H locs ls cells slots TC TS X hR hS hl h1 h2 h3 h4)
theorem mv_i2l {x : Int32} {v : Int64} (hd : decode y.2.1 pc = .ok (.i2l, 1)) (hv : x.toInt64 = v) (k : mj_V g l y d (pc + 1) lv (.long v :: st) M nx kc ks Q) : mj_V g l y d pc lv (.int x :: st) M nx kc ks Q := by
  intro p e R s m args below meth c H locs ls cells slots TC TS X hR hS hl h1 h2 h3 h4
  exact lv_i2l X.1 X.2.1 hd hv (k p e R s m args below meth c H locs ls cells slots TC TS X hR hS hl h1 h2 h3 h4)
theorem mv_l2i {x : Int64} {v : Int32} (hd : decode y.2.1 pc = .ok (.l2i, 1)) (hv : x.toInt32 = v) (k : mj_V g l y d (pc + 1) lv (.int v :: st) M nx kc ks Q) : mj_V g l y d pc lv (.long x :: st) M nx kc ks Q := by
  intro p e R s m args below meth c H locs ls cells slots TC TS X hR hS hl h1 h2 h3 h4
  exact lv_l2i X.1 X.2.1 hd hv (k p e R s m args below meth c H locs ls cells slots TC TS X hR hS hl h1 h2 h3 h4)
theorem mv_i2b {x v : Int32} (hd : decode y.2.1 pc = .ok (.i2b, 1)) (hv : x.toInt8.toInt32 = v) (k : mj_V g l y d (pc + 1) lv (.int v :: st) M nx kc ks Q) : mj_V g l y d pc lv (.int x :: st) M nx kc ks Q := by
  intro p e R s m args below meth c H locs ls cells slots TC TS X hR hS hl h1 h2 h3 h4
  exact lv_i2b X.1 X.2.1 hd hv (k p e R s m args below meth c H locs ls cells slots TC TS X hR hS hl h1 h2 h3 h4)
theorem mv_i2c {x v : Int32} (hd : decode y.2.1 pc = .ok (.i2c, 1)) (hv : (x.toUInt32 % 65536).toInt32 = v) (k : mj_V g l y d (pc + 1) lv (.int v :: st) M nx kc ks Q) : mj_V g l y d pc lv (.int x :: st) M nx kc ks Q := by
  intro p e R s m args below meth c H locs ls cells slots TC TS X hR hS hl h1 h2 h3 h4
  exact lv_i2c X.1 X.2.1 hd hv (k p e R s m args below meth c H locs ls cells slots TC TS X hR hS hl h1 h2 h3 h4)
theorem mv_iushr {x y0 v : Int32} (hd : decode y.2.1 pc = .ok (.iushr, 1)) (hv : (x.toUInt32 >>> (y0.toUInt32 &&& Int32.toUInt32 31)).toInt32 = v) (k : mj_V g l y d (pc + 1) lv (.int v :: st) M nx kc ks Q) : mj_V g l y d pc lv (.int y0 :: .int x :: st) M nx kc ks Q := by
  intro p e R s m args below meth c H locs ls cells slots TC TS X hR hS hl h1 h2 h3 h4
  exact lv_iushr X.1 X.2.1 hd hv (k p e R s m args below meth c H locs ls cells slots TC TS X hR hS hl h1 h2 h3 h4)
theorem mv_lcmp {x y0 : Int64} (hd : decode y.2.1 pc = .ok (.lcmp, 1))  (k : mj_V g l y d (pc + 1) lv (.int (lg_cmp x y0) :: st) M nx kc ks Q) : mj_V g l y d pc lv (.long y0 :: .long x :: st) M nx kc ks Q := by
  intro p e R s m args below meth c H locs ls cells slots TC TS X hR hS hl h1 h2 h3 h4
  exact W.lcmp X.1 X.2.1 hd  (k p e R s m args below meth c H locs ls cells slots TC TS X hR hS hl h1 h2 h3 h4)
theorem mv_dup {va : Value} (hd : decode y.2.1 pc = .ok (.dup, 1)) (ha : va.category = 1) (k : mj_V g l y d (pc + 1) lv (va :: va :: st) M nx kc ks Q) : mj_V g l y d pc lv (va :: st) M nx kc ks Q := by
  intro p e R s m args below meth c H locs ls cells slots TC TS X hR hS hl h1 h2 h3 h4
  exact lv_dup X.1 X.2.1 hd (by rw [mj_cat]; exact ha) (k p e R s m args below meth c H locs ls cells slots TC TS X hR hS hl h1 h2 h3 h4)
theorem mv_pop {va : Value} (hd : decode y.2.1 pc = .ok (.pop, 1)) (ha : va.category = 1) (k : mj_V g l y d (pc + 1) lv (st) M nx kc ks Q) : mj_V g l y d pc lv (va :: st) M nx kc ks Q := by
  intro p e R s m args below meth c H locs ls cells slots TC TS X hR hS hl h1 h2 h3 h4
  exact lv_pop X.1 X.2.1 hd (by rw [mj_cat]; exact ha) (k p e R s m args below meth c H locs ls cells slots TC TS X hR hS hl h1 h2 h3 h4)
theorem mv_dup_x1 {va vb : Value} (hd : decode y.2.1 pc = .ok (.dup_x1, 1)) (ha : va.category = 1) (hb : vb.category = 1) (k : mj_V g l y d (pc + 1) lv (va :: vb :: va :: st) M nx kc ks Q) : mj_V g l y d pc lv (va :: vb :: st) M nx kc ks Q := by
  intro p e R s m args below meth c H locs ls cells slots TC TS X hR hS hl h1 h2 h3 h4
  exact lv_dup_x1 X.1 X.2.1 hd (by rw [mj_cat]; exact ha) (by rw [mj_cat]; exact hb) (k p e R s m args below meth c H locs ls cells slots TC TS X hR hS hl h1 h2 h3 h4)
theorem mv_dup_x2 {va vb vw : Value} (hd : decode y.2.1 pc = .ok (.dup_x2, 1)) (ha : va.category = 1) (hb : vb.category = 1) (hw : vw.category = 1) (k : mj_V g l y d (pc + 1) lv (va :: vb :: vw :: va :: st) M nx kc ks Q) : mj_V g l y d pc lv (va :: vb :: vw :: st) M nx kc ks Q := by
  intro p e R s m args below meth c H locs ls cells slots TC TS X hR hS hl h1 h2 h3 h4
  exact lv_dup_x2 X.1 X.2.1 hd (by rw [mj_cat]; exact ha) (by rw [mj_cat]; exact hb) (by rw [mj_cat]; exact hw) (k p e R s m args below meth c H locs ls cells slots TC TS X hR hS hl h1 h2 h3 h4)
theorem mv_dup2_11 {va vb : Value} (hd : decode y.2.1 pc = .ok (.dup2, 1)) (ha : va.category = 1) (hb : vb.category = 1) (k : mj_V g l y d (pc + 1) lv (va :: vb :: va :: vb :: st) M nx kc ks Q) : mj_V g l y d pc lv (va :: vb :: st) M nx kc ks Q := by
  intro p e R s m args below meth c H locs ls cells slots TC TS X hR hS hl h1 h2 h3 h4
  exact lv_dup2_11 X.1 X.2.1 hd (by rw [mj_cat]; exact ha) (by rw [mj_cat]; exact hb) (k p e R s m args below meth c H locs ls cells slots TC TS X hR hS hl h1 h2 h3 h4)
theorem mv_dup2_2 {va : Value} (hd : decode y.2.1 pc = .ok (.dup2, 1)) (ha : va.category = 2) (k : mj_V g l y d (pc + 1) lv (va :: va :: st) M nx kc ks Q) : mj_V g l y d pc lv (va :: st) M nx kc ks Q := by
  intro p e R s m args below meth c H locs ls cells slots TC TS X hR hS hl h1 h2 h3 h4
  exact lv_dup2_2 X.1 X.2.1 hd (by rw [mj_cat]; exact ha) (k p e R s m args below meth c H locs ls cells slots TC TS X hR hS hl h1 h2 h3 h4)
theorem mv_pop2_2 {va : Value} (hd : decode y.2.1 pc = .ok (.pop2, 1)) (ha : va.category = 2) (k : mj_V g l y d (pc + 1) lv (st) M nx kc ks Q) : mj_V g l y d pc lv (va :: st) M nx kc ks Q := by
  intro p e R s m args below meth c H locs ls cells slots TC TS X hR hS hl h1 h2 h3 h4
  exact lv_pop2_2 X.1 X.2.1 hd (by rw [mj_cat]; exact ha) (k p e R s m args below meth c H locs ls cells slots TC TS X hR hS hl h1 h2 h3 h4)
theorem mv_pop2_11 {va vb : Value} (hd : decode y.2.1 pc = .ok (.pop2, 1)) (ha : va.category = 1) (hb : vb.category = 1) (k : mj_V g l y d (pc + 1) lv (st) M nx kc ks Q) : mj_V g l y d pc lv (va :: vb :: st) M nx kc ks Q := by
  intro p e R s m args below meth c H locs ls cells slots TC TS X hR hS hl h1 h2 h3 h4
  exact lv_pop2_11 X.1 X.2.1 hd (by rw [mj_cat]; exact ha) (by rw [mj_cat]; exact hb) (k p e R s m args below meth c H locs ls cells slots TC TS X hR hS hl h1 h2 h3 h4)
theorem mv_if_eq {x : Int32} {off : Int} {tgt : Nat} (hd : decode y.2.1 pc = .ok (.ifCond .eq off, 3)) (ht : (pc : Int) + off = (tgt : Int)) (kt : x = 0 → mj_V g l y d tgt lv st M nx kc ks Q) (kf : ¬ x = 0 → mj_V g l y d (pc + 3) lv st M nx kc ks Q) : mj_V g l y d pc lv (.int x :: st) M nx kc ks Q := by
  intro p e R s m args below meth c H locs ls cells slots TC TS X hR hS hl h1 h2 h3 h4
  exact lv_if_eq X.1 X.2.1 hd ht (fun z => kt z p e R s m args below meth c H locs ls cells slots TC TS X hR hS hl h1 h2 h3 h4) (fun z => kf z p e R s m args below meth c H locs ls cells slots TC TS X hR hS hl h1 h2 h3 h4)
theorem mv_if_eq_t {x : Int32} {off : Int} {tgt : Nat} (hd : decode y.2.1 pc = .ok (.ifCond .eq off, 3)) (ht : (pc : Int) + off = (tgt : Int)) (hz : x = 0) (kt : mj_V g l y d tgt lv st M nx kc ks Q) : mj_V g l y d pc lv (.int x :: st) M nx kc ks Q := mv_if_eq hd ht (fun _ => kt) (fun z => absurd hz z)
theorem mv_if_eq_f {x : Int32} {off : Int} {tgt : Nat} (hd : decode y.2.1 pc = .ok (.ifCond .eq off, 3)) (ht : (pc : Int) + off = (tgt : Int)) (hz : ¬ x = 0) (kf : mj_V g l y d (pc + 3) lv st M nx kc ks Q) : mj_V g l y d pc lv (.int x :: st) M nx kc ks Q := mv_if_eq hd ht (fun z => absurd z hz) (fun _ => kf)
theorem mv_icmp_eq {x y0 : Int32} {off : Int} {tgt : Nat} (hd : decode y.2.1 pc = .ok (.if_icmp .eq off, 3)) (ht : (pc : Int) + off = (tgt : Int)) (kt : x = y0 → mj_V g l y d tgt lv st M nx kc ks Q) (kf : ¬ x = y0 → mj_V g l y d (pc + 3) lv st M nx kc ks Q) : mj_V g l y d pc lv (.int y0 :: .int x :: st) M nx kc ks Q := by
  intro p e R s m args below meth c H locs ls cells slots TC TS X hR hS hl h1 h2 h3 h4
  exact lv_icmp_eq X.1 X.2.1 hd ht (fun z => kt z p e R s m args below meth c H locs ls cells slots TC TS X hR hS hl h1 h2 h3 h4) (fun z => kf z p e R s m args below meth c H locs ls cells slots TC TS X hR hS hl h1 h2 h3 h4)
theorem mv_icmp_eq_t {x y0 : Int32} {off : Int} {tgt : Nat} (hd : decode y.2.1 pc = .ok (.if_icmp .eq off, 3)) (ht : (pc : Int) + off = (tgt : Int)) (hz : x = y0) (kt : mj_V g l y d tgt lv st M nx kc ks Q) : mj_V g l y d pc lv (.int y0 :: .int x :: st) M nx kc ks Q := mv_icmp_eq hd ht (fun _ => kt) (fun z => absurd hz z)
theorem mv_icmp_eq_f {x y0 : Int32} {off : Int} {tgt : Nat} (hd : decode y.2.1 pc = .ok (.if_icmp .eq off, 3)) (ht : (pc : Int) + off = (tgt : Int)) (hz : ¬ x = y0) (kf : mj_V g l y d (pc + 3) lv st M nx kc ks Q) : mj_V g l y d pc lv (.int y0 :: .int x :: st) M nx kc ks Q := mv_icmp_eq hd ht (fun z => absurd z hz) (fun _ => kf)
theorem mv_if_ne {x : Int32} {off : Int} {tgt : Nat} (hd : decode y.2.1 pc = .ok (.ifCond .ne off, 3)) (ht : (pc : Int) + off = (tgt : Int)) (kt : ¬ x = 0 → mj_V g l y d tgt lv st M nx kc ks Q) (kf : x = 0 → mj_V g l y d (pc + 3) lv st M nx kc ks Q) : mj_V g l y d pc lv (.int x :: st) M nx kc ks Q := by
  intro p e R s m args below meth c H locs ls cells slots TC TS X hR hS hl h1 h2 h3 h4
  exact lv_if_ne X.1 X.2.1 hd ht (fun z => kt z p e R s m args below meth c H locs ls cells slots TC TS X hR hS hl h1 h2 h3 h4) (fun z => kf z p e R s m args below meth c H locs ls cells slots TC TS X hR hS hl h1 h2 h3 h4)
theorem mv_if_ne_t {x : Int32} {off : Int} {tgt : Nat} (hd : decode y.2.1 pc = .ok (.ifCond .ne off, 3)) (ht : (pc : Int) + off = (tgt : Int)) (hz : ¬ x = 0) (kt : mj_V g l y d tgt lv st M nx kc ks Q) : mj_V g l y d pc lv (.int x :: st) M nx kc ks Q := mv_if_ne hd ht (fun _ => kt) (fun z => absurd z hz)
theorem mv_if_ne_f {x : Int32} {off : Int} {tgt : Nat} (hd : decode y.2.1 pc = .ok (.ifCond .ne off, 3)) (ht : (pc : Int) + off = (tgt : Int)) (hz : x = 0) (kf : mj_V g l y d (pc + 3) lv st M nx kc ks Q) : mj_V g l y d pc lv (.int x :: st) M nx kc ks Q := mv_if_ne hd ht (fun z => absurd hz z) (fun _ => kf)
theorem mv_icmp_ne {x y0 : Int32} {off : Int} {tgt : Nat} (hd : decode y.2.1 pc = .ok (.if_icmp .ne off, 3)) (ht : (pc : Int) + off = (tgt : Int)) (kt : ¬ x = y0 → mj_V g l y d tgt lv st M nx kc ks Q) (kf : x = y0 → mj_V g l y d (pc + 3) lv st M nx kc ks Q) : mj_V g l y d pc lv (.int y0 :: .int x :: st) M nx kc ks Q := by
  intro p e R s m args below meth c H locs ls cells slots TC TS X hR hS hl h1 h2 h3 h4
  exact lv_icmp_ne X.1 X.2.1 hd ht (fun z => kt z p e R s m args below meth c H locs ls cells slots TC TS X hR hS hl h1 h2 h3 h4) (fun z => kf z p e R s m args below meth c H locs ls cells slots TC TS X hR hS hl h1 h2 h3 h4)
theorem mv_icmp_ne_t {x y0 : Int32} {off : Int} {tgt : Nat} (hd : decode y.2.1 pc = .ok (.if_icmp .ne off, 3)) (ht : (pc : Int) + off = (tgt : Int)) (hz : ¬ x = y0) (kt : mj_V g l y d tgt lv st M nx kc ks Q) : mj_V g l y d pc lv (.int y0 :: .int x :: st) M nx kc ks Q := mv_icmp_ne hd ht (fun _ => kt) (fun z => absurd z hz)
theorem mv_icmp_ne_f {x y0 : Int32} {off : Int} {tgt : Nat} (hd : decode y.2.1 pc = .ok (.if_icmp .ne off, 3)) (ht : (pc : Int) + off = (tgt : Int)) (hz : x = y0) (kf : mj_V g l y d (pc + 3) lv st M nx kc ks Q) : mj_V g l y d pc lv (.int y0 :: .int x :: st) M nx kc ks Q := mv_icmp_ne hd ht (fun z => absurd hz z) (fun _ => kf)
theorem mv_if_lt {x : Int32} {off : Int} {tgt : Nat} (hd : decode y.2.1 pc = .ok (.ifCond .lt off, 3)) (ht : (pc : Int) + off = (tgt : Int)) (kt : x < 0 → mj_V g l y d tgt lv st M nx kc ks Q) (kf : ¬ x < 0 → mj_V g l y d (pc + 3) lv st M nx kc ks Q) : mj_V g l y d pc lv (.int x :: st) M nx kc ks Q := by
  intro p e R s m args below meth c H locs ls cells slots TC TS X hR hS hl h1 h2 h3 h4
  exact lv_if_lt X.1 X.2.1 hd ht (fun z => kt z p e R s m args below meth c H locs ls cells slots TC TS X hR hS hl h1 h2 h3 h4) (fun z => kf z p e R s m args below meth c H locs ls cells slots TC TS X hR hS hl h1 h2 h3 h4)
theorem mv_if_lt_t {x : Int32} {off : Int} {tgt : Nat} (hd : decode y.2.1 pc = .ok (.ifCond .lt off, 3)) (ht : (pc : Int) + off = (tgt : Int)) (hz : x < 0) (kt : mj_V g l y d tgt lv st M nx kc ks Q) : mj_V g l y d pc lv (.int x :: st) M nx kc ks Q := mv_if_lt hd ht (fun _ => kt) (fun z => absurd hz z)
theorem mv_if_lt_f {x : Int32} {off : Int} {tgt : Nat} (hd : decode y.2.1 pc = .ok (.ifCond .lt off, 3)) (ht : (pc : Int) + off = (tgt : Int)) (hz : ¬ x < 0) (kf : mj_V g l y d (pc + 3) lv st M nx kc ks Q) : mj_V g l y d pc lv (.int x :: st) M nx kc ks Q := mv_if_lt hd ht (fun z => absurd z hz) (fun _ => kf)
theorem mv_icmp_lt {x y0 : Int32} {off : Int} {tgt : Nat} (hd : decode y.2.1 pc = .ok (.if_icmp .lt off, 3)) (ht : (pc : Int) + off = (tgt : Int)) (kt : x < y0 → mj_V g l y d tgt lv st M nx kc ks Q) (kf : ¬ x < y0 → mj_V g l y d (pc + 3) lv st M nx kc ks Q) : mj_V g l y d pc lv (.int y0 :: .int x :: st) M nx kc ks Q := by
  intro p e R s m args below meth c H locs ls cells slots TC TS X hR hS hl h1 h2 h3 h4
  exact lv_icmp_lt X.1 X.2.1 hd ht (fun z => kt z p e R s m args below meth c H locs ls cells slots TC TS X hR hS hl h1 h2 h3 h4) (fun z => kf z p e R s m args below meth c H locs ls cells slots TC TS X hR hS hl h1 h2 h3 h4)
theorem mv_icmp_lt_t {x y0 : Int32} {off : Int} {tgt : Nat} (hd : decode y.2.1 pc = .ok (.if_icmp .lt off, 3)) (ht : (pc : Int) + off = (tgt : Int)) (hz : x < y0) (kt : mj_V g l y d tgt lv st M nx kc ks Q) : mj_V g l y d pc lv (.int y0 :: .int x :: st) M nx kc ks Q := mv_icmp_lt hd ht (fun _ => kt) (fun z => absurd hz z)
theorem mv_icmp_lt_f {x y0 : Int32} {off : Int} {tgt : Nat} (hd : decode y.2.1 pc = .ok (.if_icmp .lt off, 3)) (ht : (pc : Int) + off = (tgt : Int)) (hz : ¬ x < y0) (kf : mj_V g l y d (pc + 3) lv st M nx kc ks Q) : mj_V g l y d pc lv (.int y0 :: .int x :: st) M nx kc ks Q := mv_icmp_lt hd ht (fun z => absurd z hz) (fun _ => kf)
theorem mv_if_ge {x : Int32} {off : Int} {tgt : Nat} (hd : decode y.2.1 pc = .ok (.ifCond .ge off, 3)) (ht : (pc : Int) + off = (tgt : Int)) (kt : 0 ≤ x → mj_V g l y d tgt lv st M nx kc ks Q) (kf : ¬ 0 ≤ x → mj_V g l y d (pc + 3) lv st M nx kc ks Q) : mj_V g l y d pc lv (.int x :: st) M nx kc ks Q := by
  intro p e R s m args below meth c H locs ls cells slots TC TS X hR hS hl h1 h2 h3 h4
  exact lv_if_ge X.1 X.2.1 hd ht (fun z => kt z p e R s m args below meth c H locs ls cells slots TC TS X hR hS hl h1 h2 h3 h4) (fun z => kf z p e R s m args below meth c H locs ls cells slots TC TS X hR hS hl h1 h2 h3 h4)
theorem mv_if_ge_t {x : Int32} {off : Int} {tgt : Nat} (hd : decode y.2.1 pc = .ok (.ifCond .ge off, 3)) (ht : (pc : Int) + off = (tgt : Int)) (hz : 0 ≤ x) (kt : mj_V g l y d tgt lv st M nx kc ks Q) : mj_V g l y d pc lv (.int x :: st) M nx kc ks Q := mv_if_ge hd ht (fun _ => kt) (fun z => absurd hz z)
theorem mv_if_ge_f {x : Int32} {off : Int} {tgt : Nat} (hd : decode y.2.1 pc = .ok (.ifCond .ge off, 3)) (ht : (pc : Int) + off = (tgt : Int)) (hz : ¬ 0 ≤ x) (kf : mj_V g l y d (pc + 3) lv st M nx kc ks Q) : mj_V g l y d pc lv (.int x :: st) M nx kc ks Q := mv_if_ge hd ht (fun z => absurd z hz) (fun _ => kf)
theorem mv_icmp_ge {x y0 : Int32} {off : Int} {tgt : Nat} (hd : decode y.2.1 pc = .ok (.if_icmp .ge off, 3)) (ht : (pc : Int) + off = (tgt : Int)) (kt : y0 ≤ x → mj_V g l y d tgt lv st M nx kc ks Q) (kf : ¬ y0 ≤ x → mj_V g l y d (pc + 3) lv st M nx kc ks Q) : mj_V g l y d pc lv (.int y0 :: .int x :: st) M nx kc ks Q := by
  intro p e R s m args below meth c H locs ls cells slots TC TS X hR hS hl h1 h2 h3 h4
  exact lv_icmp_ge X.1 X.2.1 hd ht (fun z => kt z p e R s m args below meth c H locs ls cells slots TC TS X hR hS hl h1 h2 h3 h4) (fun z => kf z p e R s m args below meth c H locs ls cells slots TC TS X hR hS hl h1 h2 h3 h4)
theorem mv_icmp_ge_t {x y0 : Int32} {off : Int} {tgt : Nat} (hd : decode y.2.1 pc = .ok (.if_icmp .ge off, 3)) (ht : (pc : Int) + off = (tgt : Int)) (hz : y0 ≤ x) (kt : mj_V g l y d tgt lv st M nx kc ks Q) : mj_V g l y d pc lv (.int y0 :: .int x :: st) M nx kc ks Q := mv_icmp_ge hd ht (fun _ => kt) (fun z => absurd hz z)
theorem mv_icmp_ge_f {x y0 : Int32} {off : Int} {tgt : Nat} (hd : decode y.2.1 pc = .ok (.if_icmp .ge off, 3)) (ht : (pc : Int) + off = (tgt : Int)) (hz : ¬ y0 ≤ x) (kf : mj_V g l y d (pc + 3) lv st M nx kc ks Q) : mj_V g l y d pc lv (.int y0 :: .int x :: st) M nx kc ks Q := mv_icmp_ge hd ht (fun z => absurd z hz) (fun _ => kf)
theorem mv_if_gt {x : Int32} {off : Int} {tgt : Nat} (hd : decode y.2.1 pc = .ok (.ifCond .gt off, 3)) (ht : (pc : Int) + off = (tgt : Int)) (kt : 0 < x → mj_V g l y d tgt lv st M nx kc ks Q) (kf : ¬ 0 < x → mj_V g l y d (pc + 3) lv st M nx kc ks Q) : mj_V g l y d pc lv (.int x :: st) M nx kc ks Q := by
  intro p e R s m args below meth c H locs ls cells slots TC TS X hR hS hl h1 h2 h3 h4
  exact lv_if_gt X.1 X.2.1 hd ht (fun z => kt z p e R s m args below meth c H locs ls cells slots TC TS X hR hS hl h1 h2 h3 h4) (fun z => kf z p e R s m args below meth c H locs ls cells slots TC TS X hR hS hl h1 h2 h3 h4)
theorem mv_if_gt_t {x : Int32} {off : Int} {tgt : Nat} (hd : decode y.2.1 pc = .ok (.ifCond .gt off, 3)) (ht : (pc : Int) + off = (tgt : Int)) (hz : 0 < x) (kt : mj_V g l y d tgt lv st M nx kc ks Q) : mj_V g l y d pc lv (.int x :: st) M nx kc ks Q := mv_if_gt hd ht (fun _ => kt) (fun z => absurd hz z)
theorem mv_if_gt_f {x : Int32} {off : Int} {tgt : Nat} (hd : decode y.2.1 pc = .ok (.ifCond .gt off, 3)) (ht : (pc : Int) + off = (tgt : Int)) (hz : ¬ 0 < x) (kf : mj_V g l y d (pc + 3) lv st M nx kc ks Q) : mj_V g l y d pc lv (.int x :: st) M nx kc ks Q := mv_if_gt hd ht (fun z => absurd z hz) (fun _ => kf)
theorem mv_icmp_gt {x y0 : Int32} {off : Int} {tgt : Nat} (hd : decode y.2.1 pc = .ok (.if_icmp .gt off, 3)) (ht : (pc : Int) + off = (tgt : Int)) (kt : y0 < x → mj_V g l y d tgt lv st M nx kc ks Q) (kf : ¬ y0 < x → mj_V g l y d (pc + 3) lv st M nx kc ks Q) : mj_V g l y d pc lv (.int y0 :: .int x :: st) M nx kc ks Q := by
  intro p e R s m args below meth c H locs ls cells slots TC TS X hR hS hl h1 h2 h3 h4
  exact lv_icmp_gt X.1 X.2.1 hd ht (fun z => kt z p e R s m args below meth c H locs ls cells slots TC TS X hR hS hl h1 h2 h3 h4) (fun z => kf z p e R s m args below meth c H locs ls cells slots TC TS X hR hS hl h1 h2 h3 h4)
theorem mv_icmp_gt_t {x y0 : Int32} {off : Int} {tgt : Nat} (hd : decode y.2.1 pc = .ok (.if_icmp .gt off, 3)) (ht : (pc : Int) + off = (tgt : Int)) (hz : y0 < x) (kt : mj_V g l y d tgt lv st M nx kc ks Q) : mj_V g l y d pc lv (.int y0 :: .int x :: st) M nx kc ks Q := mv_icmp_gt hd ht (fun _ => kt) (fun z => absurd hz z)
theorem mv_icmp_gt_f {x y0 : Int32} {off : Int} {tgt : Nat} (hd : decode y.2.1 pc = .ok (.if_icmp .gt off, 3)) (ht : (pc : Int) + off = (tgt : Int)) (hz : ¬ y0 < x) (kf : mj_V g l y d (pc + 3) lv st M nx kc ks Q) : mj_V g l y d pc lv (.int y0 :: .int x :: st) M nx kc ks Q := mv_icmp_gt hd ht (fun z => absurd z hz) (fun _ => kf)
theorem mv_if_le {x : Int32} {off : Int} {tgt : Nat} (hd : decode y.2.1 pc = .ok (.ifCond .le off, 3)) (ht : (pc : Int) + off = (tgt : Int)) (kt : x ≤ 0 → mj_V g l y d tgt lv st M nx kc ks Q) (kf : ¬ x ≤ 0 → mj_V g l y d (pc + 3) lv st M nx kc ks Q) : mj_V g l y d pc lv (.int x :: st) M nx kc ks Q := by
  intro p e R s m args below meth c H locs ls cells slots TC TS X hR hS hl h1 h2 h3 h4
  exact lv_if_le X.1 X.2.1 hd ht (fun z => kt z p e R s m args below meth c H locs ls cells slots TC TS X hR hS hl h1 h2 h3 h4) (fun z => kf z p e R s m args below meth c H locs ls cells slots TC TS X hR hS hl h1 h2 h3 h4)
theorem mv_if_le_t {x : Int32} {off : Int} {tgt : Nat} (hd : decode y.2.1 pc = .ok (.ifCond .le off, 3)) (ht : (pc : Int) + off = (tgt : Int)) (hz : x ≤ 0) (kt : mj_V g l y d tgt lv st M nx kc ks Q) : mj_V g l y d pc lv (.int x :: st) M nx kc ks Q := mv_if_le hd ht (fun _ => kt) (fun z => absurd hz z)
theorem mv_if_le_f {x : Int32} {off : Int} {tgt : Nat} (hd : decode y.2.1 pc = .ok (.ifCond .le off, 3)) (ht : (pc : Int) + off = (tgt : Int)) (hz : ¬ x ≤ 0) (kf : mj_V g l y d (pc + 3) lv st M nx kc ks Q) : mj_V g l y d pc lv (.int x :: st) M nx kc ks Q := mv_if_le hd ht (fun z => absurd z hz) (fun _ => kf)
theorem mv_icmp_le {x y0 : Int32} {off : Int} {tgt : Nat} (hd : decode y.2.1 pc = .ok (.if_icmp .le off, 3)) (ht : (pc : Int) + off = (tgt : Int)) (kt : x ≤ y0 → mj_V g l y d tgt lv st M nx kc ks Q) (kf : ¬ x ≤ y0 → mj_V g l y d (pc + 3) lv st M nx kc ks Q) : mj_V g l y d pc lv (.int y0 :: .int x :: st) M nx kc ks Q := by
  intro p e R s m args below meth c H locs ls cells slots TC TS X hR hS hl h1 h2 h3 h4
  exact lv_icmp_le X.1 X.2.1 hd ht (fun z => kt z p e R s m args below meth c H locs ls cells slots TC TS X hR hS hl h1 h2 h3 h4) (fun z => kf z p e R s m args below meth c H locs ls cells slots TC TS X hR hS hl h1 h2 h3 h4)
theorem mv_icmp_le_t {x y0 : Int32} {off : Int} {tgt : Nat} (hd : decode y.2.1 pc = .ok (.if_icmp .le off, 3)) (ht : (pc : Int) + off = (tgt : Int)) (hz : x ≤ y0) (kt : mj_V g l y d tgt lv st M nx kc ks Q) : mj_V g l y d pc lv (.int y0 :: .int x :: st) M nx kc ks Q := mv_icmp_le hd ht (fun _ => kt) (fun z => absurd hz z)
theorem mv_icmp_le_f {x y0 : Int32} {off : Int} {tgt : Nat} (hd : decode y.2.1 pc = .ok (.if_icmp .le off, 3)) (ht : (pc : Int) + off = (tgt : Int)) (hz : ¬ x ≤ y0) (kf : mj_V g l y d (pc + 3) lv st M nx kc ks Q) : mj_V g l y d pc lv (.int y0 :: .int x :: st) M nx kc ks Q := mv_icmp_le hd ht (fun z => absurd z hz) (fun _ => kf)
theorem mv_goto {off : Int} {tgt : Nat} (hd : decode y.2.1 pc = .ok (.goto off, 3)) (ht : (pc : Int) + off = (tgt : Int)) (k : mj_V g l y d tgt lv st M nx kc ks Q) : mj_V g l y d pc lv st M nx kc ks Q := by
  intro p e R s m args below meth c H locs ls cells slots TC TS X hR hS hl h1 h2 h3 h4
  exact lv_goto X.1 X.2.1 hd ht (k p e R s m args below meth c H locs ls cells slots TC TS X hR hS hl h1 h2 h3 h4)
theorem mv_ifnonnull {a : Nat} {off : Int} {tgt : Nat} (hd : decode y.2.1 pc = .ok (.ifnonnull off, 3)) (ht : (pc : Int) + off = (tgt : Int)) (k : mj_V g l y d tgt lv st M nx kc ks Q) : mj_V g l y d pc lv (.ref a :: st) M nx kc ks Q := by
  intro p e R s m args below meth c H locs ls cells slots TC TS X hR hS hl h1 h2 h3 h4
  exact lv_ifnonnull X.1 X.2.1 hd ht (k p e R s m args below meth c H locs ls cells slots TC TS X hR hS hl h1 h2 h3 h4)
theorem mv_ifnull {a : Nat} {off : Int} (hd : decode y.2.1 pc = .ok (.ifnull off, 3)) (k : mj_V g l y d (pc + 3) lv st M nx kc ks Q) : mj_V g l y d pc lv (.ref a :: st) M nx kc ks Q := by
  intro p e R s m args below meth c H locs ls cells slots TC TS X hR hS hl h1 h2 h3 h4
  exact lv_ifnull X.1 X.2.1 hd (k p e R s m args below meth c H locs ls cells slots TC TS X hR hS hl h1 h2 h3 h4)
theorem mv_ifnullN {off : Int} {tgt : Nat} (hd : decode y.2.1 pc = .ok (.ifnull off, 3)) (ht : (pc : Int) + off = (tgt : Int)) (k : mj_V g l y d tgt lv st M nx kc ks Q) : mj_V g l y d pc lv (.null :: st) M nx kc ks Q := by
  intro p e R s m args below meth c H locs ls cells slots TC TS X hR hS hl h1 h2 h3 h4
  exact lv_ifnullN X.1 X.2.1 hd ht (k p e R s m args below meth c H locs ls cells slots TC TS X hR hS hl h1 h2 h3 h4)
theorem mv_ifnonnullN {off : Int} (hd : decode y.2.1 pc = .ok (.ifnonnull off, 3)) (k : mj_V g l y d (pc + 3) lv st M nx kc ks Q) : mj_V g l y d pc lv (.null :: st) M nx kc ks Q := by
  intro p e R s m args below meth c H locs ls cells slots TC TS X hR hS hl h1 h2 h3 h4
  exact lv_ifnonnullN X.1 X.2.1 hd (k p e R s m args below meth c H locs ls cells slots TC TS X hR hS hl h1 h2 h3 h4)
theorem mv_tableIn {dflt lo hi : Int} {offs : Array Int} {len : Nat} {x : Int32} {off : Int} {tgt : Nat} (hd : decode y.2.1 pc = .ok (.tableswitch dflt lo hi offs, len)) (z1 : ¬ x.toInt < lo) (z2 : ¬ hi < x.toInt) (ho : offs[(x.toInt - lo).toNat]? = some off) (ht : (pc : Int) + off = (tgt : Int)) (k : mj_V g l y d tgt lv st M nx kc ks Q) : mj_V g l y d pc lv (.int x :: st) M nx kc ks Q := by
  intro p e R s m args below meth c H locs ls cells slots TC TS X hR hS hl h1 h2 h3 h4
  exact lv_tableIn X.1 X.2.1 hd z1 z2 ho ht (k p e R s m args below meth c H locs ls cells slots TC TS X hR hS hl h1 h2 h3 h4)
theorem mv_tableOut {dflt lo hi : Int} {offs : Array Int} {len : Nat} {x : Int32} {tgt : Nat} (hd : decode y.2.1 pc = .ok (.tableswitch dflt lo hi offs, len)) (z : x.toInt < lo ∨ hi < x.toInt) (ht : (pc : Int) + dflt = (tgt : Int)) (k : mj_V g l y d tgt lv st M nx kc ks Q) : mj_V g l y d pc lv (.int x :: st) M nx kc ks Q := by
  intro p e R s m args below meth c H locs ls cells slots TC TS X hR hS hl h1 h2 h3 h4
  exact lv_tableOut X.1 X.2.1 hd z ht (k p e R s m args below meth c H locs ls cells slots TC TS X hR hS hl h1 h2 h3 h4)
theorem mv_ldc {index : Nat} {v : Int32} (hd : decode y.2.1 pc = .ok (.ldc index, 2)) (hw : Cond.constant y.1.cls index v ∈ mj_T) (k : mj_V g l y d (pc + 2) lv (.int v :: st) M nx kc ks Q) : mj_V g l y d pc lv st M nx kc ks Q := by
  intro p e R s m args below meth c H locs ls cells slots TC TS X hR hS hl h1 h2 h3 h4
  exact lv_ldc X.1 X.2.1 X.2.2.2.2.2.1 (X.2.2.2.2.2.2.2.1 _ hw) hd (k p e R s m args below meth c H locs ls cells slots TC TS X hR hS hl h1 h2 h3 h4)
theorem mv_ldcw {index : Nat} {v : Int32} (hd : decode y.2.1 pc = .ok (.ldc_w index, 3)) (hw : Cond.constant y.1.cls index v ∈ mj_T) (k : mj_V g l y d (pc + 3) lv (.int v :: st) M nx kc ks Q) : mj_V g l y d pc lv st M nx kc ks Q := by
  intro p e R s m args below meth c H locs ls cells slots TC TS X hR hS hl h1 h2 h3 h4
  exact lv_ldcw X.1 X.2.1 X.2.2.2.2.2.1 (X.2.2.2.2.2.2.2.1 _ hw) hd (k p e R s m args below meth c H locs ls cells slots TC TS X hR hS hl h1 h2 h3 h4)
theorem mv_ldc2 {index : Nat} {v : Int64} (hd : decode y.2.1 pc = .ok (.ldc2_w index, 3)) (hw : Cond.constantLong y.1.cls index v ∈ mj_T) (k : mj_V g l y d (pc + 3) lv (.long v :: st) M nx kc ks Q) : mj_V g l y d pc lv st M nx kc ks Q := by
  intro p e R s m args below meth c H locs ls cells slots TC TS X hR hS hl h1 h2 h3 h4
  exact lv_ldc2 X.1 X.2.1 X.2.2.2.2.2.1 (X.2.2.2.2.2.2.2.1 _ hw) hd (k p e R s m args below meth c H locs ls cells slots TC TS X hR hS hl h1 h2 h3 h4)
theorem mv_ldcS {index id : Nat} {tx : String} (hd : decode y.2.1 pc = .ok (.ldc index, 2)) (hw : (y.1.cls, index, tx, id) ∈ mj_strs) (k : mj_V g l y d (pc + 2) lv (.ref id :: st) M nx kc ks Q) : mj_V g l y d pc lv st M nx kc ks Q := by
  intro p e R s m args below meth c H locs ls cells slots TC TS X hR hS hl h1 h2 h3 h4
  exact va_ldcS X.1 X.2.1 X.2.2.2.2.2.1 (X.2.2.2.2.2.2.2.2.2.1.2.2.2.2.2.2 _ hw) hd (k p e R s m args below meth c H locs ls cells slots TC TS X hR hS hl h1 h2 h3 h4)
theorem mv_slen {v : Int32} (hd : decode y.2.1 pc = .ok (.arraylength, 1)) (hv : nI (mj_L g) = v) (k : mj_V g l y d (pc + 1) lv (.int v :: st) M nx kc ks Q) : mj_V g l y d pc lv (.ref 50 :: st) M nx kc ks Q := by
  intro p e R s m args below meth c H locs ls cells slots TC TS X hR hS hl h1 h2 h3 h4
  subst hv
  have hz := X.2.2.2.2.2.2.2.2.2.1.2.2.2.2.1
  exact va_slen X.1 X.2.1 hz.1 (by obtain ⟨scr, z, -⟩ := hz.1; exact (Array.getElem?_eq_some_iff.mp z).1) hz.2 hS hd (k p e R s m args below meth c H locs ls cells slots TC TS X hR hS hl h1 h2 h3 h4)
theorem mv_sld {i v : Int32} (hd : decode y.2.1 pc = .ok (.iaload, 1)) (hin : vp_in i (mj_L g)) (hv : mj_xs g i.toNatClampNeg = v) (k : mj_V g l y d (pc + 1) lv (.int v :: st) M nx kc ks Q) : mj_V g l y d pc lv (.int i :: .ref 50 :: st) M nx kc ks Q := by
  intro p e R s m args below meth c H locs ls cells slots TC TS X hR hS hl h1 h2 h3 h4
  subst hv
  have hz := X.2.2.2.2.2.2.2.2.2.1.2.2.2.2.1
  exact va_sld X.1 X.2.1 hz.1 (by obtain ⟨scr, z, -⟩ := hz.1; exact (Array.getElem?_eq_some_iff.mp z).1) hz.2 hS hin hd (k p e R s m args below meth c H locs ls cells slots TC TS X hR hS hl h1 h2 h3 h4)
end MV
end
section
/-! the memory and the heap -/
theorem mj_r_ge {g : mj_G} {a : Nat} (h : 64 ≤ a) : mj_r g a = g.1 + (a - 64) := if_neg (Nat.not_lt.mpr h)
theorem mj_A_r {g : mj_G} {a : Nat} (h : 64 ≤ a) : mj_A g (mj_r g a) := by
  show g.1 ≤ mj_r g a
  rw [mj_r_ge h]
  omega
theorem mj_r_ne {g : mj_G} {a b : Nat} (ha : 64 ≤ a) (hb : 64 ≤ b) (h : a ≠ b) : mj_r g a ≠ mj_r g b := by
  rw [mj_r_ge ha, mj_r_ge hb]
  omega
theorem mj_up_self (M : mj_M) (a : Nat) (c : mj_C) : mj_up M a c a = some c := by simp [mj_up]
theorem mj_up_ne (M : mj_M) {a b : Nat} (c : mj_C) (h : b ≠ a) : mj_up M a c b = M b := by
  have e : Nat.beq b a = false := by
    cases hb : Nat.beq b a with
    | true => exact absurd (Nat.eq_of_beq_eq_true hb) h
    | false => rfl
  rw [mj_up, e]
  rfl
theorem mj_R.set {g : mj_G} {M : mj_M} {nx a : Nat} {c0 c : mj_C} {H H1 : Heap} (hR : mj_R g M nx H) (hM : M a = some c0) (he : va_at g.2.1 kcl (mj_r g a, mj_c g c) H1) (z : H1.size = H.size) (oq : ∀ q : Nat, q ≠ mj_r g a → H1[q]? = H[q]?) : mj_R g (mj_up M a c) nx H1 := by
  refine ⟨fun b c9 hb => ?_, hR.2.1, z.trans hR.2.2⟩
  by_cases h : b = a
  · subst h
    rw [mj_up_self] at hb
    cases hb
    exact ⟨(hR.1 b c0 hM).1, (hR.1 b c0 hM).2.1, he⟩
  · rw [mj_up_ne M c h] at hb
    obtain ⟨e1, e2, e3⟩ := hR.1 b c9 hb
    exact ⟨e1, e2, e3.kept (oq _ (mj_r_ne e1 (hR.1 a c0 hM).1 h))⟩
theorem mj_R.push {g : mj_G} {M : mj_M} {nx : Nat} {c : mj_C} {H H1 : Heap} (hR : mj_R g M nx H) (he : va_at g.2.1 kcl (mj_r g nx, mj_c g c) H1) (z : H1.size = H.size + 1) (oq : ∀ q : Nat, q < H.size → H1[q]? = H[q]?) : mj_R g (mj_up M nx c) (nx + 1) H1 := by
  have hn := hR.2.1
  have hs := hR.2.2
  rw [mj_r_ge hn] at hs
  refine ⟨fun b c9 hb => ?_, by omega, by rw [z, hs, mj_r_ge (by omega)]; omega⟩
  by_cases h : b = nx
  · subst h
    rw [mj_up_self] at hb
    cases hb
    exact ⟨hn, Nat.lt_succ_self b, he⟩
  · rw [mj_up_ne M c h] at hb
    obtain ⟨e1, e2, e3⟩ := hR.1 b c9 hb
    exact ⟨e1, Nat.lt_succ_of_lt e2, e3.kept (oq _ (by rw [mj_r_ge e1, hs]; omega))⟩
theorem mj_R.fresh {g : mj_G} {M : mj_M} {nx : Nat} {H : Heap} (hR : mj_R g M nx H) {a : Nat} (h : nx ≤ a) : M a = none := by
  cases hm : M a with
  | none => rfl
  | some c =>
    have := (hR.1 a c hm).2.1
    omega
theorem mj_S_put {g : mj_G} {H0 H H1 : Heap} {locs : List Loc} {a k : Nat} (h : va_S (mj_A g) H0 H locs) (z : H1.size = H.size) (oq : ∀ q : Nat, q ≠ mj_r g a → H1[q]? = H[q]?) (ha : 64 ≤ a) : va_S (mj_A g) H0 H1 (locs ++ [⟨mj_r g a, k⟩]) := h.put z oq (mj_A_r ha)
theorem mj_S_push {g : mj_G} {H0 H H1 : Heap} {locs : List Loc} (h : va_S (mj_A g) H0 H locs) (z : H1.size = H.size + 1) (oq : ∀ q : Nat, q < H.size → H1[q]? = H[q]?) : va_S (mj_A g) H0 H1 locs :=
  ⟨Nat.le_trans h.1 (by omega), fun x h1 h2 => (oq x (Nat.lt_of_lt_of_le h1 h.1)).trans (h.2.1 x h1 h2), h.2.2⟩
theorem mj_nar (g : mj_G) (ty : FieldType) (v : Value) : narrow ty (mj_v g v) = mj_v g (narrow ty v) := by cases v <;> cases ty <;> rfl
theorem mj_fits (g : mj_G) (ty : FieldType) (v : Value) : fits ty (mj_v g v) = fits ty v := by cases v <;> cases ty <;> rfl
theorem mj_vrf (g : mj_G) (r : Option Nat) : mj_v g (va_rf r) = va_rf (r.map (mj_r g)) := by cases r <;> rfl
/-- a field: entry index of class own is the field k of class number ci -/
def mj_fl (own : String) (index ci k : Nat) : Prop := ∃ (C : String) (T : u_T) (N : Nat) (ref : String), kcl[ci]? = some (C, T, N) ∧ (∀ w ∈ u_ws C T N, w ∈ mj_T) ∧ k < N ∧ Cond.fieldLink own index ref (T k).2.1 (T k).2.2.1 ∈ mj_T ∧ (ref = (T k).1 ∨ Cond.sameField ref (T k).1 (T k).2.1 (T k).2.2.1 ∈ mj_T)
/-- .. of type ty, final or not -/
def mj_fp (own : String) (index ci k : Nat) (ty : FieldType) (fin : Bool) : Prop := ∃ (C : String) (T : u_T) (N : Nat) (ref : String) (ty0 : Nat → FieldType), kcl[ci]? = some (C, T, N) ∧ (∀ w ∈ u_ws C T N, w ∈ mj_T) ∧ k < N ∧ Cond.fieldLink own index ref (T k).2.1 (T k).2.2.1 ∈ mj_T ∧ (ref = (T k).1 ∨ Cond.sameField ref (T k).1 (T k).2.1 (T k).2.2.1 ∈ mj_T) ∧ (∀ k, k < N → parseFieldDescriptor (T k).2.2.1 = some (ty0 k)) ∧ (∀ a, a < N → ∀ b, b < N → a ≠ b → (T a).2.1 ≠ (T b).2.1) ∧ ty0 k = ty ∧ (T k).2.2.2 = fin ∧ (fin = true → (T k).1 = own)
/-- a new object of class number ci, with the values fs -/
def mj_nw (own : String) (index ci : Nat) (fs : List Value) : Prop := ∃ (C : String) (T : u_T) (N : Nat) (ty0 : Nat → FieldType), kcl[ci]? = some (C, T, N) ∧ (∀ w ∈ u_ws C T N, w ∈ mj_T) ∧ (∀ k, k < N → parseFieldDescriptor (T k).2.2.1 = some (ty0 k)) ∧ Cond.classLink own index C ∈ mj_T ∧ Cond.instantiable C N ∈ mj_T ∧ Cond.initialized C ∈ mj_T ∧ (∀ j, j < N → defaultValue (ty0 j) = vp_V fs j) ∧ fs.length = N ∧ ∀ g : mj_G, fs.map (mj_v g) = fs
theorem mj_same {s : State} {args : Array Value} {ref O n d : String} (hts : ∀ w ∈ mj_T, w.before args s = true) (h : ref = O ∨ Cond.sameField ref O n d ∈ mj_T) : ∀ x, s.fieldFound? O n d = some x → s.fieldFound? ref n d = some x := by
  rcases h with rfl | h
  · exact fun _ hx => hx
  · exact fun x hx => u_same (hts _ h) x hx
section MH
variable {g : mj_G} {l : Launch} {y : mj_Y} {d pc : Nat} {lv : List (Nat × Value)} {st : List Value} {M : mj_M} {nx kc ks : Nat} {Q : Option Value → mj_M → Nat → Prop}
theorem mv_get {index ci k a : Nat} {fs : List Value} {v : Value} (hd : decode y.2.1 pc = .ok (.getfield index, 3)) (hf : mj_fl y.1.cls index ci k) (hM : M a = some (.inr (ci, fs))) (hv : fs[k]? = some v) (kk : mj_V g l y d (pc + 3) lv (v :: st) M nx kc ks Q) : mj_V g l y d pc lv (.ref a :: st) M nx kc ks Q := by
  intro p e R s m args below meth c H locs ls cells slots TC TS X hR hS hl h1 h2 h3 h4
  obtain ⟨C, T, N, ref, hc, hin, hk, hlink, hsame⟩ := hf
  obtain ⟨hx, hb, hml, hr, hlk, hown, hnm, hts, hK, hZ, hfr, hlo, hg0⟩ := id X
  have hat := (hR.1 a _ hM).2.2
  refine va_get (D := g.2.1) (cl := kcl) (ws := [(mj_r g a, .inr (ci, fs.map (mj_v g)))]) hx hb hts hin hown hK (fun j q hq => ?_) 0 rfl hc k hk (hts _ hlink) (mj_same hts hsame) (v := mj_v g v) (by rw [List.getElem?_map, hv]; rfl) hd (kk p e R s m args below meth c H locs ls cells slots TC TS X hR hS hl h1 h2 h3 h4)
  have hj : j < 1 := (List.getElem?_eq_some_iff.mp hq).1
  rw [show j = 0 by omega] at hq
  cases hq
  exact hat
theorem mv_put {index ci k a : Nat} {fs fs' : List Value} {v : Value} {ty : FieldType} (hd : decode y.2.1 pc = .ok (.putfield index, 3)) (hf : mj_fp y.1.cls index ci k ty false) (hM : M a = some (.inr (ci, fs))) (hl9 : k < fs.length) (hn : narrow ty v = v) (hfit : fits ty v = true) (hs9 : fs.set k v = fs') (kk : mj_V g l y d (pc + 3) lv st (mj_up M a (.inr (ci, fs'))) nx kc ks Q) : mj_V g l y d pc lv (v :: .ref a :: st) M nx kc ks Q := by
  intro p e R s m args below meth c H locs ls cells slots TC TS X hR hS hl h1 h2 h3 h4
  obtain ⟨C, T, N, ref, ty0, hc, hin, hk, hlink, hsame, hty, hnmT, hte, hfin, -⟩ := hf
  obtain ⟨hx, hb, hml, hr, hlk, hown, hnm, hts, hK, hZ, hfr, hlo, hg0⟩ := id X
  have hd9 : parseFieldDescriptor (T k).2.2.1 = some ty := by rw [hty k hk, hte]
  have hap := va_apart (own := y.1.cls) hts hin ty0 hty hnmT hK hc
  obtain ⟨ha9, -, hat⟩ := hR.1 a _ hM
  have hat : ∃ r : vw_C, kcl[ci]? = some r ∧ t_OB (mj_r g a) (g.2.1.1 ci) r.2.2 (g.2.1.2 ci) H (vp_V (fs.map (mj_v g))) := hat
  obtain ⟨r, e1, cell, q1, q2, q3, q4⟩ := hat
  have hr9 : r = (C, T, N) := Option.some.inj (e1.symm.trans hc)
  subst hr9
  obtain ⟨hS9, hfc, kC, hkC, hkind⟩ := hK.1 ci _ hc
  obtain ⟨cf, kf, fi, f, hi, hsl⟩ := hS9 k hk
  have hlay := hts _ (hin _ (u_in_lay hk))
  unfold u_lay at hlay
  rw [if_neg (by rw [hfin]; decide)] at hlay
  have hst := (u_facts hfc hkC (u_lays hts hin hk) hi).1
  have h6 := u_store hfc hkC hkind hlay hi hd9 (v := mj_v g v) (by rw [mj_nar, hn]) (by rw [mj_fits]; exact hfit)
  refine W.putK hx hb (f := f) ⟨hown, hts _ hlink, ⟨_, _, _, mj_same hts hsame _ hi⟩, hst⟩ (by rw [q2]; exact h6) q1 q3 (by rw [hsl]; exact k2_hasslot (q4 k hk)) rfl rfl hd fun H' e1 e2 e3 => ?_
  rw [hsl] at e1 ⊢
  refine kk p e R s m args below meth c H' _ ls cells slots TC TS X (hR.set hM ?_ e2 e3) (mj_S_put hS e2 e3 ha9) hl h1 h2 h3 h4
  refine ⟨_, hc, t_OB.to (V := updV (vp_V (fs.map (mj_v g))) k (mj_v g v)) ⟨_, e1, q2, q3, t_set q4 hap hk (mj_v g v)⟩ (fun j _ => ?_)⟩
  rw [vp_updV_set (by rw [List.length_map]; exact hl9), ← hs9, ← List.map_set]
theorem mv_putF {index ci k a : Nat} {fs fs' : List Value} {v : Value} {ty : FieldType} (hd : decode y.2.1 pc = .ok (.putfield index, 3)) (hf : mj_fp y.1.cls index ci k ty true) (hi9 : y.1.name = "<init>") (hM : M a = some (.inr (ci, fs))) (hl9 : k < fs.length) (hn : narrow ty v = v) (hfit : fits ty v = true) (hs9 : fs.set k v = fs') (kk : mj_V g l y d (pc + 3) lv st (mj_up M a (.inr (ci, fs'))) nx kc ks Q) : mj_V g l y d pc lv (v :: .ref a :: st) M nx kc ks Q := by
  intro p e R s m args below meth c H locs ls cells slots TC TS X hR hS hl h1 h2 h3 h4
  obtain ⟨C, T, N, ref, ty0, hc, hin, hk, hlink, hsame, hty, hnmT, hte, hfin, hdecl⟩ := hf
  have hdecl := hdecl rfl
  obtain ⟨hx, hb, hml, hr, hlk, hown, hnm, hts, hK, hZ, hfr, hlo, hg0⟩ := id X
  have hd9 : parseFieldDescriptor (T k).2.2.1 = some ty := by rw [hty k hk, hte]
  have hap := va_apart (own := y.1.cls) hts hin ty0 hty hnmT hK hc
  obtain ⟨ha9, -, hat⟩ := hR.1 a _ hM
  have hat : ∃ r : vw_C, kcl[ci]? = some r ∧ t_OB (mj_r g a) (g.2.1.1 ci) r.2.2 (g.2.1.2 ci) H (vp_V (fs.map (mj_v g))) := hat
  obtain ⟨r, e1, cell, q1, q2, q3, q4⟩ := hat
  have hr9 : r = (C, T, N) := Option.some.inj (e1.symm.trans hc)
  subst hr9
  obtain ⟨hS9, hfc, kC, hkC, hkind⟩ := hK.1 ci _ hc
  obtain ⟨cf, kf, fi, f, hi, hsl⟩ := hS9 k hk
  have hlay := hts _ (hin _ (u_in_lay hk))
  unfold u_lay at hlay
  rw [if_pos hfin] at hlay
  have hst := (u_facts hfc hkC (u_lays hts hin hk) hi).1
  have hcf : m.cls = cf := by
    obtain ⟨_, _, c', _, _, _, -, -, hf', -, -, -, hown2, -⟩ := Cond.laysFinal_spec hlay
    have e1 : c' = cf := by have := hi.symm.trans hf'; simp at this; exact this.1.symm
    rw [hdecl] at hown2
    rw [← e1]; exact Option.some.inj (hown.symm.trans hown2)
  have h6 := u_fits hfc hkC hkind (Or.inr hlay) hi hd9 (v := mj_v g v) (by rw [mj_nar, hn]) (by rw [mj_fits]; exact hfit)
  refine W.putFinK hx hb hown (hts _ hlink) (mj_same hts hsame _ hi) hst hcf (by rw [hnm]; exact hi9) (by rw [q2]; exact h6) q1 q3 (by rw [hsl]; exact k2_hasslot (q4 k hk)) rfl rfl hd fun H' e1 e2 e3 => ?_
  rw [hsl] at e1 ⊢
  refine kk p e R s m args below meth c H' _ ls cells slots TC TS X (hR.set hM ?_ e2 e3) (mj_S_put hS e2 e3 ha9) hl h1 h2 h3 h4
  refine ⟨_, hc, t_OB.to (V := updV (vp_V (fs.map (mj_v g))) k (mj_v g v)) ⟨_, e1, q2, q3, t_set q4 hap hk (mj_v g v)⟩ (fun j _ => ?_)⟩
  rw [vp_updV_set (by rw [List.length_map]; exact hl9), ← hs9, ← List.map_set]
theorem mv_new {index ci kc' ks' : Nat} {fs : List Value} (hd : decode y.2.1 pc = .ok (.new index, 3)) (hf : mj_nw y.1.cls index ci fs) (hkc : kc' + 1 ≤ kc) (hks : ks' + fs.length ≤ ks) (kk : mj_V g l y d (pc + 3) lv (.ref nx :: st) (mj_up M nx (.inr (ci, fs))) (nx + 1) kc' ks' Q) : mj_V g l y d pc lv st M nx kc ks Q := by
  intro p e R s m args below meth c H locs ls cells slots TC TS X hR hS hl h1 h2 h3 h4
  obtain ⟨C, T, N, ty0, hc, hin, hty, hcl, hinst, hini, hfs, hlen, hmap⟩ := hf
  obtain ⟨hx, hb, hml, hr, hlk, hown, hnm, hts, hK, hZ, hfr, hlo, hg0⟩ := id X
  have hKn := hK.1 ci _ hc
  refine W.newcK hx hb hown (hts _ hcl) (hts _ hinst) (hts _ hini) rfl hd (by omega) (by omega) hKn.2.1 rfl fun H1 kC hkC e1 z1 o1 => ?_
  have hsz := hR.2.2
  refine W.eq (g2 := F0 m (pc + 3) ls ((Value.ref nx :: st).map (mj_v g))) (by rw [hsz]; rfl) ?_
  refine kk p e R s m args below meth c H1 locs ls (cells + 1) (slots + N) TC TS X (hR.push ?_ z1 o1) (mj_S_push hS z1 o1) hl (by omega) (by omega) h3 h4
  refine ⟨_, hc, ?_⟩
  have hb9 := (u_born ty0 hts hin hKn hkC e1 hty).to hfs
  rw [hsz] at hb9
  have hm9 := hmap g
  show t_OB (mj_r g nx) _ _ _ H1 (vp_V (fs.map (mj_v g)))
  rw [hm9]
  exact hb9
end MH
end
section
section MA
variable {g : mj_G} {l : Launch} {y : mj_Y} {d pc : Nat} {lv : List (Nat × Value)} {st : List Value} {M : mj_M} {nx kc ks : Nat} {Q : Option Value → mj_M → Nat → Prop}
theorem mj_one {D : va_G} {cl : List vw_C} {a : Nat} {e : va_E} {H : Heap} (h : va_at D cl (a, e) H) : va_P D cl [(a, e)] H := by
  intro j q hq
  have hj : j < 1 := (List.getElem?_eq_some_iff.mp hq).1
  rw [show j = 0 by omega] at hq
  cases hq
  exact h
theorem mv_iald {a n : Nat} {f : Nat → Int32} {i : Int32} {v : Int32} (hd : decode y.2.1 pc = .ok (.iaload, 1)) (hM : M a = some (.inl (0, n, .inl f))) (hin : vp_in i n) (hv : f i.toNatClampNeg = v) (kk : mj_V g l y d (pc + 1) lv (.int v :: st) M nx kc ks Q) : mj_V g l y d pc lv (.int i :: .ref a :: st) M nx kc ks Q := by
  intro p e R s m args below meth c H locs ls cells slots TC TS X hR hS hl h1 h2 h3 h4
  obtain ⟨hx, hb, hml, hr, hlk, hown, hnm, hts, hK, hZ, hfr, hlo, hg0⟩ := id X
  subst hv
  exact va_iald (D := g.2.1) (cl := kcl) (tys := mj_tys g) hx hb hK (mj_one (hR.1 a _ hM).2.2) 0 0 rfl rfl hin hd (kk p e R s m args below meth c H locs ls cells slots TC TS X hR hS hl h1 h2 h3 h4)
theorem mv_iast {a n : Nat} {f f' : Nat → Int32} {i : Int32} {x : Int32} (hd : decode y.2.1 pc = .ok (.iastore, 1)) (hM : M a = some (.inl (0, n, .inl f))) (hin : vp_in i n) (hf : upd f i.toNatClampNeg x = f') (kk : mj_V g l y d (pc + 1) lv st (mj_up M a (.inl (0, n, .inl f'))) nx kc ks Q) : mj_V g l y d pc lv (.int x :: .int i :: .ref a :: st) M nx kc ks Q := by
  intro p e R s m args below meth c H locs ls cells slots TC TS X hR hS hl h1 h2 h3 h4
  obtain ⟨hx, hb, hml, hr, hlk, hown, hnm, hts, hK, hZ, hfr, hlo, hg0⟩ := id X
  subst hf
  obtain ⟨ha9, -, hat⟩ := hR.1 a _ hM
  refine W.iast hx hb (cell := vp_cell (g.2.2.1 0) (n, .inl f)) hat ((hK.2 0 _ rfl).1 n (fun j => .int (f j))) (fun q => by cases q) (by show ¬ (i < 0 ∨ (arrV _ _ _).slots.size ≤ _); rw [arrV_size]; exact hin) rfl rfl hd fun H1 e9 z oq => ?_
  refine kk p e R s m args below meth c H1 _ ls cells slots TC TS X (hR.set hM ?_ z oq) (mj_S_put hS z oq ha9) hl h1 h2 h3 h4
  show H1[mj_r g a]? = some (vp_cell _ _)
  rw [e9]
  show _ = some (vp_cell (g.2.2.1 0) (n, .inl (upd f i.toNatClampNeg x)))
  rw [vp_cell_i, vp_cell_i, arrV_store]
  congr 2
  funext q
  by_cases hq : q = i.toNatClampNeg
  · subst hq
    simp [updV, upd, vp_updL, vp_nar]
    try rfl
  · simp [updV, upd, vp_updL, hq]
theorem mv_lald {a n : Nat} {f : Nat → Int64} {i : Int32} {v : Int64} (hd : decode y.2.1 pc = .ok (.laload, 1)) (hM : M a = some (.inl (1, n, .inr (.inl f)))) (hin : vp_in i n) (hv : f i.toNatClampNeg = v) (kk : mj_V g l y d (pc + 1) lv (.long v :: st) M nx kc ks Q) : mj_V g l y d pc lv (.int i :: .ref a :: st) M nx kc ks Q := by
  intro p e R s m args below meth c H locs ls cells slots TC TS X hR hS hl h1 h2 h3 h4
  obtain ⟨hx, hb, hml, hr, hlk, hown, hnm, hts, hK, hZ, hfr, hlo, hg0⟩ := id X
  subst hv
  exact va_lald (D := g.2.1) (cl := kcl) (tys := mj_tys g) hx hb hK (mj_one (hR.1 a _ hM).2.2) 0 1 rfl rfl hin hd (kk p e R s m args below meth c H locs ls cells slots TC TS X hR hS hl h1 h2 h3 h4)
theorem mv_last {a n : Nat} {f f' : Nat → Int64} {i : Int32} {x : Int64} (hd : decode y.2.1 pc = .ok (.lastore, 1)) (hM : M a = some (.inl (1, n, .inr (.inl f)))) (hin : vp_in i n) (hf : vp_updL f i.toNatClampNeg x = f') (kk : mj_V g l y d (pc + 1) lv st (mj_up M a (.inl (1, n, .inr (.inl f')))) nx kc ks Q) : mj_V g l y d pc lv (.long x :: .int i :: .ref a :: st) M nx kc ks Q := by
  intro p e R s m args below meth c H locs ls cells slots TC TS X hR hS hl h1 h2 h3 h4
  obtain ⟨hx, hb, hml, hr, hlk, hown, hnm, hts, hK, hZ, hfr, hlo, hg0⟩ := id X
  subst hf
  obtain ⟨ha9, -, hat⟩ := hR.1 a _ hM
  refine W.last hx hb (cell := vp_cell (g.2.2.1 1) (n, .inr (.inl f))) hat ((hK.2 1 _ rfl).1 n (fun j => .long (f j))) (fun q => by cases q) (by show ¬ (i < 0 ∨ (arrV _ _ _).slots.size ≤ _); rw [arrV_size]; exact hin) rfl rfl hd fun H1 e9 z oq => ?_
  refine kk p e R s m args below meth c H1 _ ls cells slots TC TS X (hR.set hM ?_ z oq) (mj_S_put hS z oq ha9) hl h1 h2 h3 h4
  show H1[mj_r g a]? = some (vp_cell _ _)
  rw [e9]
  show _ = some (vp_cell (g.2.2.1 1) (n, .inr (.inl (vp_updL f i.toNatClampNeg x))))
  rw [vp_cell_l, vp_cell_l, arrV_store]
  congr 2
  funext q
  by_cases hq : q = i.toNatClampNeg
  · subst hq
    simp [updV, upd, vp_updL, vp_nar]
    try rfl
  · simp [updV, upd, vp_updL, hq]
theorem mv_zald {a n : Nat} {f : Nat → Int32} {i : Int32} {v : Int32} (hd : decode y.2.1 pc = .ok (.baload, 1)) (hM : M a = some (.inl (2, n, .inl f))) (hin : vp_in i n) (hv : f i.toNatClampNeg = v) (kk : mj_V g l y d (pc + 1) lv (.int v :: st) M nx kc ks Q) : mj_V g l y d pc lv (.int i :: .ref a :: st) M nx kc ks Q := by
  intro p e R s m args below meth c H locs ls cells slots TC TS X hR hS hl h1 h2 h3 h4
  obtain ⟨hx, hb, hml, hr, hlk, hown, hnm, hts, hK, hZ, hfr, hlo, hg0⟩ := id X
  subst hv
  exact va_zald (D := g.2.1) (cl := kcl) (tys := mj_tys g) hx hb hK (mj_one (hR.1 a _ hM).2.2) 0 2 rfl rfl hin hd (kk p e R s m args below meth c H locs ls cells slots TC TS X hR hS hl h1 h2 h3 h4)
theorem mv_zast {a n : Nat} {f f' : Nat → Int32} {i : Int32} {x : Int32} (hd : decode y.2.1 pc = .ok (.bastore, 1)) (hM : M a = some (.inl (2, n, .inl f))) (hin : vp_in i n) (hf : upd f i.toNatClampNeg (vp_nar .boolean x) = f') (kk : mj_V g l y d (pc + 1) lv st (mj_up M a (.inl (2, n, .inl f'))) nx kc ks Q) : mj_V g l y d pc lv (.int x :: .int i :: .ref a :: st) M nx kc ks Q := by
  intro p e R s m args below meth c H locs ls cells slots TC TS X hR hS hl h1 h2 h3 h4
  obtain ⟨hx, hb, hml, hr, hlk, hown, hnm, hts, hK, hZ, hfr, hlo, hg0⟩ := id X
  subst hf
  obtain ⟨ha9, -, hat⟩ := hR.1 a _ hM
  refine W.zast hx hb (cell := vp_cell (g.2.2.1 2) (n, .inl f)) hat ((hK.2 2 _ rfl).1 n (fun j => .int (f j))) (fun q => by cases q) (by show ¬ (i < 0 ∨ (arrV _ _ _).slots.size ≤ _); rw [arrV_size]; exact hin) rfl rfl hd fun H1 e9 z oq => ?_
  refine kk p e R s m args below meth c H1 _ ls cells slots TC TS X (hR.set hM ?_ z oq) (mj_S_put hS z oq ha9) hl h1 h2 h3 h4
  show H1[mj_r g a]? = some (vp_cell _ _)
  rw [e9]
  show _ = some (vp_cell (g.2.2.1 2) (n, .inl (upd f i.toNatClampNeg (vp_nar .boolean x))))
  rw [vp_cell_i, vp_cell_i, arrV_store]
  congr 2
  funext q
  by_cases hq : q = i.toNatClampNeg
  · subst hq
    simp [updV, upd, vp_updL, vp_nar]
    try rfl
  · simp [updV, upd, vp_updL, hq]
theorem mv_bald {a n : Nat} {f : Nat → Int32} {i : Int32} {v : Int32} (hd : decode y.2.1 pc = .ok (.baload, 1)) (hM : M a = some (.inl (3, n, .inl f))) (hin : vp_in i n) (hv : f i.toNatClampNeg = v) (kk : mj_V g l y d (pc + 1) lv (.int v :: st) M nx kc ks Q) : mj_V g l y d pc lv (.int i :: .ref a :: st) M nx kc ks Q := by
  intro p e R s m args below meth c H locs ls cells slots TC TS X hR hS hl h1 h2 h3 h4
  obtain ⟨hx, hb, hml, hr, hlk, hown, hnm, hts, hK, hZ, hfr, hlo, hg0⟩ := id X
  subst hv
  exact va_bald (D := g.2.1) (cl := kcl) (tys := mj_tys g) hx hb hK (mj_one (hR.1 a _ hM).2.2) 0 3 rfl rfl hin hd (kk p e R s m args below meth c H locs ls cells slots TC TS X hR hS hl h1 h2 h3 h4)
theorem mv_bast {a n : Nat} {f f' : Nat → Int32} {i : Int32} {x : Int32} (hd : decode y.2.1 pc = .ok (.bastore, 1)) (hM : M a = some (.inl (3, n, .inl f))) (hin : vp_in i n) (hf : upd f i.toNatClampNeg (vp_nar .byte x) = f') (kk : mj_V g l y d (pc + 1) lv st (mj_up M a (.inl (3, n, .inl f'))) nx kc ks Q) : mj_V g l y d pc lv (.int x :: .int i :: .ref a :: st) M nx kc ks Q := by
  intro p e R s m args below meth c H locs ls cells slots TC TS X hR hS hl h1 h2 h3 h4
  obtain ⟨hx, hb, hml, hr, hlk, hown, hnm, hts, hK, hZ, hfr, hlo, hg0⟩ := id X
  subst hf
  obtain ⟨ha9, -, hat⟩ := hR.1 a _ hM
  refine W.bast hx hb (cell := vp_cell (g.2.2.1 3) (n, .inl f)) hat ((hK.2 3 _ rfl).1 n (fun j => .int (f j))) (fun q => by cases q) (by show ¬ (i < 0 ∨ (arrV _ _ _).slots.size ≤ _); rw [arrV_size]; exact hin) rfl rfl hd fun H1 e9 z oq => ?_
  refine kk p e R s m args below meth c H1 _ ls cells slots TC TS X (hR.set hM ?_ z oq) (mj_S_put hS z oq ha9) hl h1 h2 h3 h4
  show H1[mj_r g a]? = some (vp_cell _ _)
  rw [e9]
  show _ = some (vp_cell (g.2.2.1 3) (n, .inl (upd f i.toNatClampNeg (vp_nar .byte x))))
  rw [vp_cell_i, vp_cell_i, arrV_store]
  congr 2
  funext q
  by_cases hq : q = i.toNatClampNeg
  · subst hq
    simp [updV, upd, vp_updL, vp_nar]
    try rfl
  · simp [updV, upd, vp_updL, hq]
theorem mv_aald {a n : Nat} {f : Nat → Option Nat} {i : Int32} {r : Option Nat} (hd : decode y.2.1 pc = .ok (.aaload, 1)) (hM : M a = some (.inl (4, n, .inr (.inr (.inr (.inr f)))))) (hin : vp_in i n) (hv : f i.toNatClampNeg = r) (kk : mj_V g l y d (pc + 1) lv (va_rf r :: st) M nx kc ks Q) : mj_V g l y d pc lv (.int i :: .ref a :: st) M nx kc ks Q := by
  intro p e R s m args below meth c H locs ls cells slots TC TS X hR hS hl h1 h2 h3 h4
  obtain ⟨hx, hb, hml, hr, hlk, hown, hnm, hts, hK, hZ, hfr, hlo, hg0⟩ := id X
  subst hv
  refine va_aldq (D := g.2.1) (cl := kcl) (tys := mj_tys g) (C := "java/lang/Object") (f := fun j => (f j).map (mj_r g)) hx hb hK (mj_one (hR.1 a _ hM).2.2) 0 4 rfl rfl hin hd ?_
  refine W.eq (g2 := F0 m (pc + 1) ls ((va_rf (f i.toNatClampNeg) :: st).map (mj_v g))) (by rw [List.map_cons, mj_vrf]) (kk p e R s m args below meth c H locs ls cells slots TC TS X hR hS hl h1 h2 h3 h4)
theorem mv_alen {t a : Nat} {x : vp_A} {v : Int32} (hd : decode y.2.1 pc = .ok (.arraylength, 1)) (hM : M a = some (.inl (t, x))) (ht : t < 5) (hv : Int32.ofNat x.1 = v) (kk : mj_V g l y d (pc + 1) lv (.int v :: st) M nx kc ks Q) : mj_V g l y d pc lv (.ref a :: st) M nx kc ks Q := by
  intro p e R s m args below meth c H locs ls cells slots TC TS X hR hS hl h1 h2 h3 h4
  obtain ⟨hx, hb, hml, hr, hlk, hown, hnm, hts, hK, hZ, hfr, hlo, hg0⟩ := id X
  have h9 : ∃ q, (mj_tys g)[t]? = some (g.2.2.1 t, q) := by
    rcases (show t = 0 ∨ t = 1 ∨ t = 2 ∨ t = 3 ∨ t = 4 by omega) with rfl | rfl | rfl | rfl | rfl <;> exact ⟨_, rfl⟩
  obtain ⟨q, hq⟩ := h9
  exact va_alen (D := g.2.1) (cl := kcl) (tys := mj_tys g) (x := mj_a g x) hx hb hK (mj_one (hR.1 a _ hM).2.2) 0 t rfl hq hv hd (kk p e R s m args below meth c H locs ls cells slots TC TS X hR hS hl h1 h2 h3 h4)
theorem mj_ac_int : Cond.arrayClass .int ∈ mj_T := mj_in1 (by decide +kernel) rfl
theorem mv_newa_int {n : Int32} {N kc' ks' : Nat} (hd : decode y.2.1 pc = .ok (.newarray .int, 2)) (hn : ¬ n < 0) (hN : n.toNatClampNeg = N) (hbt : N * 4 ≤ 536870912) (hkc : kc' + 1 ≤ kc) (hks : ks' + N ≤ ks) (kk : mj_V g l y d (pc + 2) lv (.ref nx :: st) (mj_up M nx (.inl (0, N, .inl (fun _ => 0)))) (nx + 1) kc' ks' Q) : mj_V g l y d pc lv (.int n :: st) M nx kc ks Q := by
  intro p e R s m args below meth c H locs ls cells slots TC TS X hR hS hl h1 h2 h3 h4
  obtain ⟨hx, hb, hml, hr, hlk, hown, hnm, hts, hK, hZ, hfr, hlo, hg0⟩ := id X
  have hsz := hR.2.2
  refine va_newaK (atype := .int) hx hb (hts _ mj_ac_int) rfl hd rfl hn hN hbt (by omega) (by omega) rfl fun H1 cA e1 z1 o1 hAr hNm => ?_
  have hcA : cA = g.2.2.1 0 := Option.some.inj (hNm.symm.trans (hK.2 0 _ rfl).2)
  subst hcA
  refine W.eq (g2 := F0 m (pc + 2) ls ((Value.ref nx :: st).map (mj_v g))) (by rw [hsz]; rfl) ?_
  refine kk p e R s m args below meth c H1 locs ls (cells + 1) (slots + N) TC TS X (hR.push ?_ z1 o1) (mj_S_push hS z1 o1) hl (by omega) (by omega) h3 h4
  show H1[mj_r g nx]? = some (vp_cell (g.2.2.1 0) (N, .inl (fun _ => 0)))
  rw [← hsz]
  exact e1
theorem mj_ac_long : Cond.arrayClass .long ∈ mj_T := mj_in1 (by decide +kernel) rfl
theorem mv_newa_long {n : Int32} {N kc' ks' : Nat} (hd : decode y.2.1 pc = .ok (.newarray .long, 2)) (hn : ¬ n < 0) (hN : n.toNatClampNeg = N) (hbt : N * 8 ≤ 536870912) (hkc : kc' + 1 ≤ kc) (hks : ks' + N ≤ ks) (kk : mj_V g l y d (pc + 2) lv (.ref nx :: st) (mj_up M nx (.inl (1, N, .inr (.inl (fun _ => 0))))) (nx + 1) kc' ks' Q) : mj_V g l y d pc lv (.int n :: st) M nx kc ks Q := by
  intro p e R s m args below meth c H locs ls cells slots TC TS X hR hS hl h1 h2 h3 h4
  obtain ⟨hx, hb, hml, hr, hlk, hown, hnm, hts, hK, hZ, hfr, hlo, hg0⟩ := id X
  have hsz := hR.2.2
  refine va_newaK (atype := .long) hx hb (hts _ mj_ac_long) rfl hd rfl hn hN hbt (by omega) (by omega) rfl fun H1 cA e1 z1 o1 hAr hNm => ?_
  have hcA : cA = g.2.2.1 1 := Option.some.inj (hNm.symm.trans (hK.2 1 _ rfl).2)
  subst hcA
  refine W.eq (g2 := F0 m (pc + 2) ls ((Value.ref nx :: st).map (mj_v g))) (by rw [hsz]; rfl) ?_
  refine kk p e R s m args below meth c H1 locs ls (cells + 1) (slots + N) TC TS X (hR.push ?_ z1 o1) (mj_S_push hS z1 o1) hl (by omega) (by omega) h3 h4
  show H1[mj_r g nx]? = some (vp_cell (g.2.2.1 1) (N, .inr (.inl (fun _ => 0))))
  rw [← hsz]
  exact e1
theorem mj_ac_bool : Cond.arrayClass .boolean ∈ mj_T := mj_in1 (by decide +kernel) rfl
theorem mv_newa_bool {n : Int32} {N kc' ks' : Nat} (hd : decode y.2.1 pc = .ok (.newarray .boolean, 2)) (hn : ¬ n < 0) (hN : n.toNatClampNeg = N) (hbt : N * 1 ≤ 536870912) (hkc : kc' + 1 ≤ kc) (hks : ks' + N ≤ ks) (kk : mj_V g l y d (pc + 2) lv (.ref nx :: st) (mj_up M nx (.inl (2, N, .inl (fun _ => 0)))) (nx + 1) kc' ks' Q) : mj_V g l y d pc lv (.int n :: st) M nx kc ks Q := by
  intro p e R s m args below meth c H locs ls cells slots TC TS X hR hS hl h1 h2 h3 h4
  obtain ⟨hx, hb, hml, hr, hlk, hown, hnm, hts, hK, hZ, hfr, hlo, hg0⟩ := id X
  have hsz := hR.2.2
  refine va_newaK (atype := .boolean) hx hb (hts _ mj_ac_bool) rfl hd rfl hn hN hbt (by omega) (by omega) rfl fun H1 cA e1 z1 o1 hAr hNm => ?_
  have hcA : cA = g.2.2.1 2 := Option.some.inj (hNm.symm.trans (hK.2 2 _ rfl).2)
  subst hcA
  refine W.eq (g2 := F0 m (pc + 2) ls ((Value.ref nx :: st).map (mj_v g))) (by rw [hsz]; rfl) ?_
  refine kk p e R s m args below meth c H1 locs ls (cells + 1) (slots + N) TC TS X (hR.push ?_ z1 o1) (mj_S_push hS z1 o1) hl (by omega) (by omega) h3 h4
  show H1[mj_r g nx]? = some (vp_cell (g.2.2.1 2) (N, .inl (fun _ => 0)))
  rw [← hsz]
  exact e1
theorem mj_ac_byte : Cond.arrayClass .byte ∈ mj_T := mj_in1 (by decide +kernel) rfl
theorem mv_newa_byte {n : Int32} {N kc' ks' : Nat} (hd : decode y.2.1 pc = .ok (.newarray .byte, 2)) (hn : ¬ n < 0) (hN : n.toNatClampNeg = N) (hbt : N * 1 ≤ 536870912) (hkc : kc' + 1 ≤ kc) (hks : ks' + N ≤ ks) (kk : mj_V g l y d (pc + 2) lv (.ref nx :: st) (mj_up M nx (.inl (3, N, .inl (fun _ => 0)))) (nx + 1) kc' ks' Q) : mj_V g l y d pc lv (.int n :: st) M nx kc ks Q := by
  intro p e R s m args below meth c H locs ls cells slots TC TS X hR hS hl h1 h2 h3 h4
  obtain ⟨hx, hb, hml, hr, hlk, hown, hnm, hts, hK, hZ, hfr, hlo, hg0⟩ := id X
  have hsz := hR.2.2
  refine va_newaK (atype := .byte) hx hb (hts _ mj_ac_byte) rfl hd rfl hn hN hbt (by omega) (by omega) rfl fun H1 cA e1 z1 o1 hAr hNm => ?_
  have hcA : cA = g.2.2.1 3 := Option.some.inj (hNm.symm.trans (hK.2 3 _ rfl).2)
  subst hcA
  refine W.eq (g2 := F0 m (pc + 2) ls ((Value.ref nx :: st).map (mj_v g))) (by rw [hsz]; rfl) ?_
  refine kk p e R s m args below meth c H1 locs ls (cells + 1) (slots + N) TC TS X (hR.push ?_ z1 o1) (mj_S_push hS z1 o1) hl (by omega) (by omega) h3 h4
  show H1[mj_r g nx]? = some (vp_cell (g.2.2.1 3) (N, .inl (fun _ => 0)))
  rw [← hsz]
  exact e1
theorem mj_ao : Cond.arrayOver (.object "java/lang/Object") ∈ mj_T := mj_in1 (by decide +kernel) rfl
theorem mv_newq {index : Nat} {n : Int32} {N kc' ks' : Nat} (hd : decode y.2.1 pc = .ok (.anewarray index, 3)) (hw : Cond.classLink y.1.cls index "java/lang/Object" ∈ mj_T) (hn : ¬ n < 0) (hN : n.toNatClampNeg = N) (hbt : N * 4 ≤ 536870912) (hkc : kc' + 1 ≤ kc) (hks : ks' + N ≤ ks) (kk : mj_V g l y d (pc + 3) lv (.ref nx :: st) (mj_up M nx (.inl (4, N, .inr (.inr (.inr (.inr (fun _ => none))))))) (nx + 1) kc' ks' Q) : mj_V g l y d pc lv (.int n :: st) M nx kc ks Q := by
  intro p e R s m args below meth c H locs ls cells slots TC TS X hR hS hl h1 h2 h3 h4
  obtain ⟨hx, hb, hml, hr, hlk, hown, hnm, hts, hK, hZ, hfr, hlo, hg0⟩ := id X
  have hsz := hR.2.2
  subst hN
  refine W.anew hx hb hown (hts _ hw) (hts _ mj_ao) rfl hd rfl hn hbt (by omega) (by omega) fun cA kA comp f1 f2 f3 f4 => ?_
  obtain ⟨kB, compB, b1, b2, b3, b4⟩ := (hK.2 4 _ rfl).2
  have hcA : cA = g.2.2.1 4 := Option.some.inj (f1.symm.trans b4)
  subst hcA
  generalize hH1 : H.push ({ cls := g.2.2.1 4, slots := Array.replicate n.toNatClampNeg .null, vm := .none } : Cell) = H1
  have z1 : H1.size = H.size + 1 := by rw [← hH1, Array.size_push]
  have e1 : H1[H.size]? = some (arrV (g.2.2.1 4) n.toNatClampNeg (fun _ => .null)) := by rw [← hH1, Array.getElem?_push_size, ← arrV_new]
  have o1 : ∀ q : Nat, q < H.size → H1[q]? = H[q]? := fun q hq => by rw [← hH1, Array.getElem?_push, if_neg (Nat.ne_of_lt hq)]
  refine W.eq (g2 := F0 m (pc + 3) ls ((Value.ref nx :: st).map (mj_v g))) (by rw [hsz]; rfl) ?_
  refine kk p e R s m args below meth c H1 locs ls (cells + 1) (slots + n.toNatClampNeg) TC TS X (hR.push ?_ z1 o1) (mj_S_push hS z1 o1) hl (by omega) (by omega) h3 h4
  show H1[mj_r g nx]? = some (vp_cell (g.2.2.1 4) (n.toNatClampNeg, .inr (.inr (.inr (.inr (fun j => ((fun _ => none : Nat → Option Nat) j).map (mj_r g)))))))
  rw [← hsz, vp_cell_q]
  exact e1
theorem mv_aast {a n v ci : Nat} {vs : List Value} {f f' : Nat → Option Nat} {C : String} {T : u_T} {N : Nat} {i : Int32} (hd : decode y.2.1 pc = .ok (.aastore, 1)) (hM : M a = some (.inl (4, n, .inr (.inr (.inr (.inr f)))))) (hin : vp_in i n) (hv : M v = some (.inr (ci, vs))) (hc : kcl[ci]? = some (C, T, N)) (hca : Cond.castable C "java/lang/Object" ∈ mj_T) (hf : va_up f i.toNatClampNeg (some v) = f') (kk : mj_V g l y d (pc + 1) lv st (mj_up M a (.inl (4, n, .inr (.inr (.inr (.inr f')))))) nx kc ks Q) : mj_V g l y d pc lv (.ref v :: .int i :: .ref a :: st) M nx kc ks Q := by
  intro p e R s m args below meth c H locs ls cells slots TC TS X hR hS hl h1 h2 h3 h4
  obtain ⟨hx, hb, hml, hr, hlk, hown, hnm, hts, hK, hZ, hfr, hlo, hg0⟩ := id X
  subst hf
  have hlt : i.toNatClampNeg < n := Nat.not_le.mp fun q => hin (Or.inr q)
  have h0 : ¬ i < 0 := fun q => hin (Or.inl q)
  obtain ⟨ha9, -, hat⟩ := hR.1 a _ hM
  obtain ⟨-, -, hvt⟩ := hR.1 v _ hv
  have hvt : ∃ r : vw_C, kcl[ci]? = some r ∧ t_OB (mj_r g v) (g.2.1.1 ci) r.2.2 (g.2.1.2 ci) H (vp_V (vs.map (mj_v g))) := hvt
  obtain ⟨r', hr', cellV, g1, g2, g3, -⟩ := hvt
  have hcls := (hK.1 ci _ hc).2
  obtain ⟨kA, comp, k1, k2, k3, -⟩ := (hK.2 4 _ rfl).2
  obtain ⟨kE, hkE, -⟩ := Vm.findClass_spec k3
  obtain ⟨c0, t1, f1, f2, f3⟩ := Cond.castable_spec (hts _ hca)
  cases hcls.1.symm.trans f1
  cases k3.symm.trans f2
  obtain ⟨kC, hkC, -⟩ := hcls.2
  refine W.aast hx hb (cell := vp_cell (g.2.2.1 4) (n, .inr (.inr (.inr (.inr (fun j => (f j).map (mj_r g))))))) hat (fun q h => by cases h) (fun h => by cases h) k1 k2 rfl hkE ⟨h0, by show _ < (arrV _ _ _).slots.size; rw [arrV_size]; exact hlt⟩ g1 (fun q h => by rw [g3] at h; cases h) (by rw [g2]; exact hkC) (by rw [g2]; exact f3) rfl rfl hd fun H1 e9 z oq => ?_
  refine kk p e R s m args below meth c H1 _ ls cells slots TC TS X (hR.set hM ?_ z oq) (mj_S_put hS z oq ha9) hl h1 h2 h3 h4
  show H1[mj_r g a]? = some (vp_cell (g.2.2.1 4) (n, .inr (.inr (.inr (.inr (fun j => ((va_up f i.toNatClampNeg (some v)) j).map (mj_r g)))))))
  rw [e9]
  rw [vp_cell_q, vp_cell_q, arrV_store]
  congr 2
  funext q
  by_cases hq : q = i.toNatClampNeg
  · subst hq
    simp [updV, va_up, va_rf]
  · simp [updV, va_up, hq]
theorem mv_getsD {index : Nat} (hd : decode y.2.1 pc = .ok (.getstatic index, 3)) (hw : Cond.fieldLink y.1.cls index "java/util/ArrayList" "DEFAULTCAPACITY_EMPTY_ELEMENTDATA" "[Ljava/lang/Object;" ∈ mj_T) (kk : mj_V g l y d (pc + 3) lv (.ref 0 :: st) M nx kc ks Q) : mj_V g l y d pc lv st M nx kc ks Q := by
  intro p e R s m args below meth c H locs ls cells slots TC TS X hR hS hl h1 h2 h3 h4
  obtain ⟨hx, hb, hml, hr, hlk, hown, hnm, hts, hK, hZ, hfr, hlo, hg0⟩ := id X
  exact va_gets hx hb hZ.1.1 hS hown (hts _ hw) (fun _ h => h) hd (kk p e R s m args below meth c H locs ls cells slots TC TS X hR hS hl h1 h2 h3 h4)
theorem mv_gets1 {index : Nat} (hd : decode y.2.1 pc = .ok (.getstatic index, 3)) (hw : Cond.fieldLinkNest y.1.cls index "TrustDesk" "RULE_WITHOUT" "[I" "TrustDesk" ∈ mj_T) (kk : mj_V g l y d (pc + 3) lv (.ref 1 :: st) M nx kc ks Q) : mj_V g l y d pc lv st M nx kc ks Q := by
  intro p e R s m args below meth c H locs ls cells slots TC TS X hR hS hl h1 h2 h3 h4
  obtain ⟨hx, hb, hml, hr, hlk, hown, hnm, hts, hK, hZ, hfr, hlo, hg0⟩ := id X
  exact va_getsN hx hb hZ.2.1.1 hS hown (hts _ hw) (fun _ h => h) hd (kk p e R s m args below meth c H locs ls cells slots TC TS X hR hS hl h1 h2 h3 h4)
theorem mv_gets2 {index : Nat} (hd : decode y.2.1 pc = .ok (.getstatic index, 3)) (hw : Cond.fieldLinkNest y.1.cls index "TrustDesk" "RULE_LEAST" "[I" "TrustDesk" ∈ mj_T) (kk : mj_V g l y d (pc + 3) lv (.ref 2 :: st) M nx kc ks Q) : mj_V g l y d pc lv st M nx kc ks Q := by
  intro p e R s m args below meth c H locs ls cells slots TC TS X hR hS hl h1 h2 h3 h4
  obtain ⟨hx, hb, hml, hr, hlk, hown, hnm, hts, hK, hZ, hfr, hlo, hg0⟩ := id X
  exact va_getsN hx hb hZ.2.2.1.1 hS hown (hts _ hw) (fun _ h => h) hd (kk p e R s m args below meth c H locs ls cells slots TC TS X hR hS hl h1 h2 h3 h4)
theorem mv_gets3 {index : Nat} (hd : decode y.2.1 pc = .ok (.getstatic index, 3)) (hw : Cond.fieldLinkNest y.1.cls index "TrustDesk" "RULE_MOST" "[I" "TrustDesk" ∈ mj_T) (kk : mj_V g l y d (pc + 3) lv (.ref 3 :: st) M nx kc ks Q) : mj_V g l y d pc lv st M nx kc ks Q := by
  intro p e R s m args below meth c H locs ls cells slots TC TS X hR hS hl h1 h2 h3 h4
  obtain ⟨hx, hb, hml, hr, hlk, hown, hnm, hts, hK, hZ, hfr, hlo, hg0⟩ := id X
  exact va_getsN hx hb hZ.2.2.2.1.1 hS hown (hts _ hw) (fun _ h => h) hd (kk p e R s m args below meth c H locs ls cells slots TC TS X hR hS hl h1 h2 h3 h4)
theorem mv_alen0 (hd : decode y.2.1 pc = .ok (.arraylength, 1)) (kk : mj_V g l y d (pc + 1) lv (.int 0 :: st) M nx kc ks Q) : mj_V g l y d pc lv (.ref 0 :: st) M nx kc ks Q := by
  intro p e R s m args below meth c H locs ls cells slots TC TS X hR hS hl h1 h2 h3 h4
  obtain ⟨hx, hb, hml, hr, hlk, hown, hnm, hts, hK, hZ, hfr, hlo, hg0⟩ := id X
  exact va_tlen hx hb hZ.1.2 hS (by rfl) hd (kk p e R s m args below meth c H locs ls cells slots TC TS X hR hS hl h1 h2 h3 h4)
theorem mv_alen2 (hd : decode y.2.1 pc = .ok (.arraylength, 1)) (kk : mj_V g l y d (pc + 1) lv (.int 6 :: st) M nx kc ks Q) : mj_V g l y d pc lv (.ref 2 :: st) M nx kc ks Q := by
  intro p e R s m args below meth c H locs ls cells slots TC TS X hR hS hl h1 h2 h3 h4
  obtain ⟨hx, hb, hml, hr, hlk, hown, hnm, hts, hK, hZ, hfr, hlo, hg0⟩ := id X
  exact va_tlen hx hb hZ.2.2.1.2 hS (by rfl) hd (kk p e R s m args below meth c H locs ls cells slots TC TS X hR hS hl h1 h2 h3 h4)
theorem mv_iald2 {i v : Int32} (hd : decode y.2.1 pc = .ok (.iaload, 1)) (hin : vp_in i 6) (hv : mj_rl.getD i.toNatClampNeg .null = .int v) (kk : mj_V g l y d (pc + 1) lv (.int v :: st) M nx kc ks Q) : mj_V g l y d pc lv (.int i :: .ref 2 :: st) M nx kc ks Q := by
  intro p e R s m args below meth c H locs ls cells slots TC TS X hR hS hl h1 h2 h3 h4
  obtain ⟨hx, hb, hml, hr, hlk, hown, hnm, hts, hK, hZ, hfr, hlo, hg0⟩ := id X
  exact va_ti hx hb hZ.2.2.1.2 hS hin hv hd (kk p e R s m args below meth c H locs ls cells slots TC TS X hR hS hl h1 h2 h3 h4)
theorem mv_alen3 (hd : decode y.2.1 pc = .ok (.arraylength, 1)) (kk : mj_V g l y d (pc + 1) lv (.int 6 :: st) M nx kc ks Q) : mj_V g l y d pc lv (.ref 3 :: st) M nx kc ks Q := by
  intro p e R s m args below meth c H locs ls cells slots TC TS X hR hS hl h1 h2 h3 h4
  obtain ⟨hx, hb, hml, hr, hlk, hown, hnm, hts, hK, hZ, hfr, hlo, hg0⟩ := id X
  exact va_tlen hx hb hZ.2.2.2.1.2 hS (by rfl) hd (kk p e R s m args below meth c H locs ls cells slots TC TS X hR hS hl h1 h2 h3 h4)
theorem mv_iald3 {i v : Int32} (hd : decode y.2.1 pc = .ok (.iaload, 1)) (hin : vp_in i 6) (hv : mj_rm.getD i.toNatClampNeg .null = .int v) (kk : mj_V g l y d (pc + 1) lv (.int v :: st) M nx kc ks Q) : mj_V g l y d pc lv (.int i :: .ref 3 :: st) M nx kc ks Q := by
  intro p e R s m args below meth c H locs ls cells slots TC TS X hR hS hl h1 h2 h3 h4
  obtain ⟨hx, hb, hml, hr, hlk, hown, hnm, hts, hK, hZ, hfr, hlo, hg0⟩ := id X
  exact va_ti hx hb hZ.2.2.2.1.2 hS hin hv hd (kk p e R s m args below meth c H locs ls cells slots TC TS X hR hS hl h1 h2 h3 h4)
theorem mv_castN {index : Nat} (hd : decode y.2.1 pc = .ok (.checkcast index, 3)) (kk : mj_V g l y d (pc + 3) lv (.null :: st) M nx kc ks Q) : mj_V g l y d pc lv (.null :: st) M nx kc ks Q := by
  intro p e R s m args below meth c H locs ls cells slots TC TS X hR hS hl h1 h2 h3 h4
  obtain ⟨hx, hb, hml, hr, hlk, hown, hnm, hts, hK, hZ, hfr, hlo, hg0⟩ := id X
  exact lv_castN hx hb hd (kk p e R s m args below meth c H locs ls cells slots TC TS X hR hS hl h1 h2 h3 h4)
theorem mv_castY {index a ci : Nat} {fs : List Value} {C nm : String} {T : u_T} {N : Nat} (hd : decode y.2.1 pc = .ok (.checkcast index, 3)) (hw : Cond.classLink y.1.cls index nm ∈ mj_T) (hM : M a = some (.inr (ci, fs))) (hc : kcl[ci]? = some (C, T, N)) (hca : Cond.castable C nm ∈ mj_T) (kk : mj_V g l y d (pc + 3) lv (.ref a :: st) M nx kc ks Q) : mj_V g l y d pc lv (.ref a :: st) M nx kc ks Q := by
  intro p e R s m args below meth c H locs ls cells slots TC TS X hR hS hl h1 h2 h3 h4
  obtain ⟨hx, hb, hml, hr, hlk, hown, hnm, hts, hK, hZ, hfr, hlo, hg0⟩ := id X
  exact va_castY hx hb hown (hts _ hw) (va_Nw.of rfl (hts _ hca)) (va_recv hK (mj_one (hR.1 a _ hM).2.2) hc (q0 := 0) rfl) hd (kk p e R s m args below meth c H locs ls cells slots TC TS X hR hS hl h1 h2 h3 h4)
theorem mv_castA {index a n : Nat} {f : Nat → Int32} (hd : decode y.2.1 pc = .ok (.checkcast index, 3)) (hw : Cond.classLink y.1.cls index "[I" ∈ mj_T) (hM : M a = some (.inl (0, n, .inl f))) (kk : mj_V g l y d (pc + 3) lv (.ref a :: st) M nx kc ks Q) : mj_V g l y d pc lv (.ref a :: st) M nx kc ks Q := by
  intro p e R s m args below meth c H locs ls cells slots TC TS X hR hS hl h1 h2 h3 h4
  obtain ⟨hx, hb, hml, hr, hlk, hown, hnm, hts, hK, hZ, hfr, hlo, hg0⟩ := id X
  exact va_castA hx hb hown (hts _ hw) (mj_one (hR.1 a _ hM).2.2) 0 rfl (va_nm_int (hK.2 0 _ rfl).2) hd (kk p e R s m args below meth c H locs ls cells slots TC TS X hR hS hl h1 h2 h3 h4)
theorem mv_iret {v : Int32} {ty : FieldType} (hd : decode y.2.1 pc = .ok (.ireturn, 1)) (hr9 : y.2.2.2 = some ty) (hn : narrow ty (.int v) = .int v) (hq : Q (some (.int v)) M nx) : mj_V g l y d pc lv [.int v] M nx kc ks Q := by
  intro p e R s m args below meth c H locs ls cells slots TC TS X hR hS hl h1 h2 h3 h4
  obtain ⟨hx, hb, hml, hr, hlk, hown, hnm, hts, hK, hZ, hfr, hlo, hg0⟩ := id X
  refine W.widen (k := TC) (n := TS) (by omega) (by omega) ?_
  exact W.zret hx hb (hr.trans hr9) hn (fun t ht hW => ⟨⟨_, M, nx, rfl, hq, by rw [ht]; exact hR⟩, hS.F ht⟩) hS.2.2 hd hlk
theorem mv_lret {v : Int64} (hd : decode y.2.1 pc = .ok (.lreturn, 1)) (hr9 : y.2.2.2 = some .long) (hq : Q (some (.long v)) M nx) : mj_V g l y d pc lv [.long v] M nx kc ks Q := by
  intro p e R s m args below meth c H locs ls cells slots TC TS X hR hS hl h1 h2 h3 h4
  obtain ⟨hx, hb, hml, hr, hlk, hown, hnm, hts, hK, hZ, hfr, hlo, hg0⟩ := id X
  refine W.widen (k := TC) (n := TS) (by omega) (by omega) ?_
  exact W.lret hx hb (hr.trans hr9) (fun t ht hW => ⟨⟨_, M, nx, rfl, hq, by rw [ht]; exact hR⟩, hS.F ht⟩) hS.2.2 hd hlk
theorem mv_vret  (hd : decode y.2.1 pc = .ok (.return_, 1)) (hr9 : y.2.2.2 = none) (hq : Q none M nx) : mj_V g l y d pc lv [] M nx kc ks Q := by
  intro p e R s m args below meth c H locs ls cells slots TC TS X hR hS hl h1 h2 h3 h4
  obtain ⟨hx, hb, hml, hr, hlk, hown, hnm, hts, hK, hZ, hfr, hlo, hg0⟩ := id X
  refine W.widen (k := TC) (n := TS) (by omega) (by omega) ?_
  exact W.vret hx hb (hr.trans hr9) (fun t ht hW => ⟨⟨_, M, nx, rfl, hq, by rw [ht]; exact hR⟩, hS.F ht⟩) hS.2.2 hd hlk
theorem mv_aret {r : Option Nat} {ty : FieldType} (hd : decode y.2.1 pc = .ok (.areturn, 1)) (hr9 : y.2.2.2 = some ty) (hty : (∃ n, ty = .object n) ∨ ∃ t, ty = .array t) (hq : Q (some (va_rf r)) M nx) : mj_V g l y d pc lv [va_rf r] M nx kc ks Q := by
  intro p e R s m args below meth c H locs ls cells slots TC TS X hR hS hl h1 h2 h3 h4
  obtain ⟨hx, hb, hml, hr, hlk, hown, hnm, hts, hK, hZ, hfr, hlo, hg0⟩ := id X
  refine W.widen (k := TC) (n := TS) (by omega) (by omega) ?_
  exact W.aret (v := mj_v g (va_rf r)) hx hb (hr.trans hr9) hty (by cases r <;> first | exact Or.inl rfl | exact Or.inr ⟨_, rfl⟩) (fun t ht hW => ⟨⟨_, M, nx, rfl, hq, by rw [ht]; exact hR⟩, hS.F ht⟩) hS.2.2 hd hlk
/-- behind a call -/
theorem mj_back {p : Program} {e : Env} {R : Room} {s : State} {m : MethodId} {args : Array Value} {below : List Frame} {meth : Method} {c : Code} {H : Heap} {locs : List Loc} {cells slots mc ms : Nat} {ls : Array Slot} {st0 rest : List Value} {a : Array Value} {Q' : Option Value → mj_M → Nat → Prop} {Qf : State → Prop}
    (hr : va_Run p l e R s m args below meth c H locs cells slots mc ms (F0 m pc ls st0) rest (mj_Q g Q' a) (mj_A g)) (hS : va_S (mj_A g) s.heap H locs)
    (kk : ∀ (r : Option Value) (M' : mj_M) (nx' : Nat) (H1 : Heap) (locs1 : List Loc), Q' r M' nx' → mj_R g M' nx' H1 → va_S (mj_A g) s.heap H1 locs1 → W p l e R s m args below meth c H1 locs1 (cells + mc) (slots + ms) Qf (F0 m (pc + 3) ls ((r.map (mj_v g)).toList ++ rest))) : W p l e R s m args below meth c H locs cells slots Qf (F0 m pc ls st0) := by
  intro T hT X
  obtain ⟨v, st₀, t, T', L, h0, X', hL, e1, e2, ⟨⟨r, M', nx', hv, hq, hR'⟩, hz, hk⟩, st9⟩ := hr T hT X
  cases hv
  rw [h0] at hz hk
  obtain ⟨t2, a1, b1⟩ := kk r M' nx' T'.heap (locs ++ L) hq (by rw [e1]; exact hR')
    ⟨Nat.le_trans hS.1 (by rw [e1]; exact hz), fun q h1 h2 => by rw [e1, hk q (Nat.lt_of_lt_of_le h1 hS.1) h2]; exact hS.2.1 q h1 h2, fun q hq => by
      rcases List.mem_append.mp hq with h | h
      · exact hS.2.2 q h
      · exact hL q h⟩ T' rfl X'
  exact ⟨t2, st9 t2 a1, b1⟩
theorem mj_Pc_blind {g : mj_G} {As : List Value} {M : mj_M} {nx : Nat} : FrameBlind (mj_Pc g As M nx) := fun a U g9 mk h =>
  ⟨h.1, h.2.1, va_K.moved (u := U) (U := U.calling g9 mk a) (Vm.Alike.refl U.vm) h.2.2.1, mj_Z.same (s := U) (U := U.calling g9 mk a) rfl h.2.2.2⟩
theorem mj_Pc_at {g : mj_G} {y : mj_Y} {d : Nat} {p : Program} {R : Room} {s : State} {m : MethodId} {args : Array Value} {meth : Method} {c : Code} {M : mj_M} {nx : Nat} {H : Heap} {locs : List Loc} {As : List Value} (X : mj_X g y d p R s m args meth c) (hR : mj_R g M nx H) (hS : va_S (mj_A g) s.heap H locs) : ∀ U : State, U.heap = H → s.WarmedH U.vm → mj_Pc g As M nx (As.map (mj_v g)).toArray U := by
  intro U hU hW
  obtain ⟨hx, hb, hml, hr, hlk, hown, hnm, hts, hK, hZ, hfr, hlo, hg0⟩ := id X
  refine ⟨rfl, by rw [hU]; exact hR, va_K.moved hW.alike hK, ?_⟩
  rw [hU]
  exact (hZ.kept fun a h1 h2 => hS.2.1 a h1 h2).warm hW
/-- what a call asks of the tables: n arguments behind the receiver -/
def mj_lB (own : String) (index : Nat) (y : mj_Y) (n : Nat) : Prop := Cond.methodLink own index y.1 ∈ mj_T ∧ Cond.initialized y.1.cls ∈ mj_T ∧ Cond.code y.1 y.2.1 y.2.2.1 y.2.2.2 ∈ mj_T ∧ (y.1.cls ≠ "java/lang/invoke/MethodHandle" ∧ y.1.cls ≠ "java/lang/invoke/VarHandle") ∧ (parseMethodDescriptor y.1.desc).map (fun d => d.parameters.length) = some n ∧ y.2.2.1 ≤ 80
def mj_lV (own : String) (index : Nat) (y : mj_Y) (n : Nat) : Prop := mj_lB own index y n ∧ Cond.instanceMethod y.1 ∈ mj_T ∧ Cond.selects y.1.cls y.1 y.1 ∈ mj_T
def mj_lS (own : String) (index : Nat) (y : mj_Y) (n : Nat) : Prop := mj_lB own index y n ∧ Cond.static y.1 ∈ mj_T
def mj_lI (own : String) (index : Nat) (y : mj_Y) (n : Nat) : Prop := mj_lB own index y n ∧ y.1.name = "<init>" ∧ Cond.instanceMethod y.1 ∈ mj_T ∧ y.2.2.2 = none
theorem mj_cB {R : Room} {s : State} {args : Array Value} {own : String} {index n d kc ks : Nat} {y2 : mj_Y} (hts : ∀ w ∈ mj_T, w.before args s = true) (h : mj_lB own index y2 n) (hfr : d + 1 ≤ R.frames) (hlo : 100 * (d + 1) ≤ R.locals) : CallB R s args own index y2.1 y2.2.1 y2.2.2.1 y2.2.2.2 (mj_ws y2) (mj_rm0 d kc ks) kc ks n := by
  obtain ⟨a1, a2, a3, a4, a5, a6⟩ := h
  refine ⟨rfl, rfl, hfr, ?_, fun w hw => ?_, List.mem_cons_self, hts _ a3, hts _ a2, a4, fun sig hsig => ?_, hts _ a1⟩
  · show 8 + (y2.2.2.1 + 11) + 100 * d ≤ R.locals
    omega
  · rcases List.mem_cons.mp hw with rfl | hw
    · exact mj_pay hts _ a3
    · exact mj_pay hts w hw
  · rw [hsig] at a5
    exact (Option.some.inj a5).symm
theorem mj_room {g : mj_G} {m : MethodId} {pc : Nat} {ls : Array Slot} {st9 : List Value} {st : List Value} (h : (st.map fun v => v.category).sum ≤ 8) : 2 * (F0 m pc ls st9).monitorRoom + ((st.map (mj_v g)).map fun v => v.category).sum ≤ 8 := by
  rw [mj_cats]
  exact lv_room h
/-- invokevirtual of a method of the receiver's own class (private ones too) -/
theorem mv_callV {index n kc1 ks1 kc' ks' a ci : Nat} {fs : List Value} {T : u_T} {N : Nat} {y2 : mj_Y} {As : List Value} {Q' : Option Value → mj_M → Nat → Prop} (hd : decode y.2.1 pc = .ok (.invokevirtual index, 3)) (hw : mj_lV y.1.cls index y2 n) (hM : M a = some (.inr (ci, fs))) (hc : kcl[ci]? = some (y2.1.cls, T, N)) (hm : mj_Met g l y2 d (.ref a :: As) M nx kc1 ks1 Q') (hn : As.length = n) (hcat : (st.map fun v => v.category).sum ≤ 8) (hkc : kc' + kc1 ≤ kc) (hks : ks' + ks1 ≤ ks) (st9 : List Value) (hst : As.reverse ++ .ref a :: st = st9)
    (kk : ∀ (r : Option Value) (M' : mj_M) (nx' : Nat), Q' r M' nx' → mj_V g l y (d + 1) (pc + 3) lv (r.toList ++ st) M' nx' kc' ks' Q) : mj_V g l y (d + 1) pc lv st9 M nx kc ks Q := by
  intro p e R s m args below meth c H locs ls cells slots TC TS X hR hS hl h1 h2 h3 h4
  obtain ⟨hx, hb, hml, hr, hlk, hown, hnm, hts, hK, hZ, hfr, hlo, hg0⟩ := id X
  subst hst
  obtain ⟨hw1, hw2, hw3⟩ := hw
  have hrun := va_runV (e := e) (below := below) (meth := meth) (m := m) (cells := cells) (slots := slots) (locs := locs) (g := F0 m pc ls ((As.reverse ++ .ref a :: st).map (mj_v g))) (rest := st.map (mj_v g)) (As := As.map (mj_v g)) (b := mj_r g a) (H := H) ⟨hx, hb, hml, hown, hts⟩ hm ⟨mj_cB hts hw1 hfr hlo, hts _ hw2, hts _ hw3⟩ ⟨mj_Pc_blind, va_recv hK (mj_one (hR.1 a _ hM).2.2) hc (q0 := 0) rfl, mj_Pc_at (As := .ref a :: As) X hR hS⟩ rfl (by rw [List.length_map]; exact hn) hl.1 (by simp only [List.map_append, List.map_reverse, List.map_cons]; rfl) (mj_room hcat) hd ⟨by omega, by omega⟩
  refine mj_back hrun hS fun r M' nx' H1 locs1 hq hR1 hS1 => ?_
  have h9 := kk r M' nx' hq p e R s m args below meth c H1 locs1 ls (cells + kc1) (slots + ks1) TC TS X hR1 hS1 hl (by omega) (by omega) h3 h4
  refine W.eq ?_ h9
  cases r <;> rfl
theorem mv_callS {index n kc1 ks1 kc' ks' : Nat} {y2 : mj_Y} {As : List Value} {Q' : Option Value → mj_M → Nat → Prop} (hd : decode y.2.1 pc = .ok (.invokestatic index, 3)) (hw : mj_lS y.1.cls index y2 n) (hm : mj_Met g l y2 d As M nx kc1 ks1 Q') (hn : As.length = n) (hcat : (st.map fun v => v.category).sum ≤ 8) (hkc : kc' + kc1 ≤ kc) (hks : ks' + ks1 ≤ ks) (st9 : List Value) (hst : As.reverse ++ st = st9)
    (kk : ∀ (r : Option Value) (M' : mj_M) (nx' : Nat), Q' r M' nx' → mj_V g l y (d + 1) (pc + 3) lv (r.toList ++ st) M' nx' kc' ks' Q) : mj_V g l y (d + 1) pc lv st9 M nx kc ks Q := by
  intro p e R s m args below meth c H locs ls cells slots TC TS X hR hS hl h1 h2 h3 h4
  obtain ⟨hx, hb, hml, hr, hlk, hown, hnm, hts, hK, hZ, hfr, hlo, hg0⟩ := id X
  subst hst
  obtain ⟨hw1, hw2⟩ := hw
  have hrun := va_runS (e := e) (below := below) (meth := meth) (m := m) (cells := cells) (slots := slots) (locs := locs) (g := F0 m pc ls ((As.reverse ++ st).map (mj_v g))) (rest := st.map (mj_v g)) (As := As.map (mj_v g)) (H := H) ⟨hx, hb, hml, hown, hts⟩ hm ⟨mj_cB hts hw1 hfr hlo, hts _ hw2⟩ ⟨mj_Pc_blind, mj_Pc_at (As := As) X hR hS⟩ rfl (by rw [List.length_map]; exact hn) hl.1 (by simp only [List.map_append, List.map_reverse]) (mj_room hcat) hd ⟨by omega, by omega⟩
  refine mj_back hrun hS fun r M' nx' H1 locs1 hq hR1 hS1 => ?_
  have h9 := kk r M' nx' hq p e R s m args below meth c H1 locs1 ls (cells + kc1) (slots + ks1) TC TS X hR1 hS1 hl (by omega) (by omega) h3 h4
  refine W.eq ?_ h9
  cases r <;> rfl
theorem mv_callI {index n kc1 ks1 kc' ks' a : Nat} {y2 : mj_Y} {As : List Value} {Q' : Option Value → mj_M → Nat → Prop} (hd : decode y.2.1 pc = .ok (.invokespecial index, 3)) (hw : mj_lI y.1.cls index y2 n) (hm : mj_Met g l y2 d (.ref a :: As) M nx kc1 ks1 Q') (hn : As.length = n) (hcat : (st.map fun v => v.category).sum ≤ 8) (hkc : kc' + kc1 ≤ kc) (hks : ks' + ks1 ≤ ks) (st9 : List Value) (hst : As.reverse ++ .ref a :: st = st9)
    (kk : ∀ (r : Option Value) (M' : mj_M) (nx' : Nat), Q' r M' nx' → mj_V g l y (d + 1) (pc + 3) lv (r.toList ++ st) M' nx' kc' ks' Q) : mj_V g l y (d + 1) pc lv st9 M nx kc ks Q := by
  intro p e R s m args below meth c H locs ls cells slots TC TS X hR hS hl h1 h2 h3 h4
  obtain ⟨hx, hb, hml, hr, hlk, hown, hnm, hts, hK, hZ, hfr, hlo, hg0⟩ := id X
  subst hst
  obtain ⟨hw1, hw2, hw3, hw4⟩ := hw
  have hcb := mj_cB (kc := kc1) (ks := ks1) hts hw1 hfr hlo
  rw [hw4] at hcb
  have hrun := va_runI (e := e) (below := below) (meth := meth) (m := m) (cells := cells) (slots := slots) (locs := locs) (g := F0 m pc ls ((As.reverse ++ .ref a :: st).map (mj_v g))) (rest := st.map (mj_v g)) (As := As.map (mj_v g)) (b := mj_r g a) (H := H) ⟨hx, hb, hml, hown, hts⟩ hm ⟨hcb, hw2, hts _ hw3⟩ ⟨mj_Pc_blind, mj_Pc_at (As := .ref a :: As) X hR hS⟩ rfl (by rw [List.length_map]; exact hn) hl.1 (by simp only [List.map_append, List.map_reverse, List.map_cons]; rfl) (mj_room hcat) hd ⟨by omega, by omega⟩
  refine mj_back hrun hS fun r M' nx' H1 locs1 hq hR1 hS1 => ?_
  have h9 := kk r M' nx' hq p e R s m args below meth c H1 locs1 ls (cells + kc1) (slots + ks1) TC TS X hR1 hS1 hl (by omega) (by omega) h3 h4
  refine W.eq ?_ h9
  cases r <;> rfl
theorem mj_oi : Cond.instanceMethod objectInit ∈ mj_T ∧ Cond.code objectInit ⟨#[0xb1]⟩ 1 none ∈ mj_T := ⟨mj_in1 (by decide +kernel) rfl, mj_in1 (by decide +kernel) rfl⟩
/-- Object() -/
theorem mv_oinit {index a : Nat} (hd : decode y.2.1 pc = .ok (.invokespecial index, 3)) (hw : Cond.methodLink y.1.cls index objectInit ∈ mj_T) (hcat : (st.map fun v => v.category).sum ≤ 8) (kk : mj_V g l y (d + 1) (pc + 3) lv st M nx kc ks Q) : mj_V g l y (d + 1) pc lv (.ref a :: st) M nx kc ks Q := by
  intro p e R s m args below meth c H locs ls cells slots TC TS X hR hS hl h1 h2 h3 h4
  obtain ⟨hx, hb, hml, hr, hlk, hown, hnm, hts, hK, hZ, hfr, hlo, hg0⟩ := id X
  have hc9 := mj_room (g := g) (m := m) (pc := pc) (ls := ls) (st9 := (Value.ref a :: st).map (mj_v g)) hcat
  refine W.objInit hx hb hown (hts _ hw) (hts _ mj_oi.1) (hts _ mj_oi.2) rfl (hl.1.trans hml.symm) rfl hd (by omega) (by omega) ?_
  exact kk p e R s m args below meth c H locs ls cells slots TC TS X hR hS hl h1 h2 h3 h4
/-- THE HEAD OF A METHOD -/
theorem mj_enter {As : List Value} (hy : plainName y.1.cls = true) (hn : (lg_sl As).length ≤ y.2.2.1) (h : mj_V g l y d 0 (lv_args 0 As) [] M nx kc ks Q) : mj_Met g l y d As M nx kc ks Q := by
  refine Met.ofW (cc := y.2.1) (maxL := y.2.2.1) (ret := y.2.2.2) hy rfl ?_
  intro p e s m args below meth c s₁ B hml hv
  obtain ⟨rfl, hR, hK, hZ⟩ := hv
  have hts0 := atoms_spec (ws := mj_ws y) B.pre
  have hl := lv_entry (As.map (mj_v g)) (n := y.2.2.1) (by
    have : ∀ L : List Value, (lg_sl (L.map (mj_v g))).length = (lg_sl L).length := by
      intro L
      induction L with
      | nil => rfl
      | cons v r ih => cases v <;> simp_all [lg_sl, mj_v, Value.category]
    rw [this]; exact hn)
  rw [lg_entry_eq]
  generalize (lg_sl (As.map (mj_v g)) ++ List.replicate (y.2.2.1 - (lg_sl (As.map (mj_v g))).length) Slot.unset).toArray = ls at hl ⊢
  rw [mj_args] at hl
  have hge : g.1 ≤ s.heap.size := by
    rw [hR.2.2, mj_r_ge hR.2.1]
    omega
  exact h p e _ s m _ below meth c s.heap [] ls 0 0 kc ks ⟨B.exec, B.bytes, hml, B.returns, B.notSynchronized, findClass_of_methodNamed B.named, (name_of_methodNamed B.named B.method).1, fun w hw => hts0 w (List.mem_cons_of_mem _ hw), hK, hZ, Nat.le_refl _, Nat.le_refl _, hge⟩ hR va_S.rf hl (by omega) (by omega) (Nat.le_refl _) (Nat.le_refl _)
end MA
end
section
section MZ
variable {g : mj_G} {l : Launch} {y : mj_Y} {d pc : Nat} {lv : List (Nat × Value)} {st : List Value} {M : mj_M} {nx kc ks : Nat} {Q : Option Value → mj_M → Nat → Prop}
theorem mv_iaddv {x y0 v : Int32} (hd : decode y.2.1 pc = .ok (.iadd, 1)) (hv : x + y0 = v) (k : mj_V g l y d (pc + 1) lv (.int v :: st) M nx kc ks Q) : mj_V g l y d pc lv (.int y0 :: .int x :: st) M nx kc ks Q := by subst hv; exact mv_iadd hd k
theorem mv_isubv {x y0 v : Int32} (hd : decode y.2.1 pc = .ok (.isub, 1)) (hv : x - y0 = v) (k : mj_V g l y d (pc + 1) lv (.int v :: st) M nx kc ks Q) : mj_V g l y d pc lv (.int y0 :: .int x :: st) M nx kc ks Q := by subst hv; exact mv_isub hd k
theorem mv_imulv {x y0 v : Int32} (hd : decode y.2.1 pc = .ok (.imul, 1)) (hv : x * y0 = v) (k : mj_V g l y d (pc + 1) lv (.int v :: st) M nx kc ks Q) : mj_V g l y d pc lv (.int y0 :: .int x :: st) M nx kc ks Q := by subst hv; exact mv_imul hd k
theorem mv_iandv {x y0 v : Int32} (hd : decode y.2.1 pc = .ok (.iand, 1)) (hv : x &&& y0 = v) (k : mj_V g l y d (pc + 1) lv (.int v :: st) M nx kc ks Q) : mj_V g l y d pc lv (.int y0 :: .int x :: st) M nx kc ks Q := by subst hv; exact mv_iand hd k
theorem mv_iorv {x y0 v : Int32} (hd : decode y.2.1 pc = .ok (.ior, 1)) (hv : x ||| y0 = v) (k : mj_V g l y d (pc + 1) lv (.int v :: st) M nx kc ks Q) : mj_V g l y d pc lv (.int y0 :: .int x :: st) M nx kc ks Q := by subst hv; exact mv_ior hd k
theorem mv_ixorv {x y0 v : Int32} (hd : decode y.2.1 pc = .ok (.ixor, 1)) (hv : x ^^^ y0 = v) (k : mj_V g l y d (pc + 1) lv (.int v :: st) M nx kc ks Q) : mj_V g l y d pc lv (.int y0 :: .int x :: st) M nx kc ks Q := by subst hv; exact mv_ixor hd k
theorem mv_ishlv {x y0 v : Int32} (hd : decode y.2.1 pc = .ok (.ishl, 1)) (hv : x <<< (y0 &&& 31) = v) (k : mj_V g l y d (pc + 1) lv (.int v :: st) M nx kc ks Q) : mj_V g l y d pc lv (.int y0 :: .int x :: st) M nx kc ks Q := by subst hv; exact mv_ishl hd k
theorem mv_ishrv {x y0 v : Int32} (hd : decode y.2.1 pc = .ok (.ishr, 1)) (hv : x >>> (y0 &&& 31) = v) (k : mj_V g l y d (pc + 1) lv (.int v :: st) M nx kc ks Q) : mj_V g l y d pc lv (.int y0 :: .int x :: st) M nx kc ks Q := by subst hv; exact mv_ishr hd k
theorem mv_laddv {x y0 v : Int64} (hd : decode y.2.1 pc = .ok (.ladd, 1)) (hv : x + y0 = v) (k : mj_V g l y d (pc + 1) lv (.long v :: st) M nx kc ks Q) : mj_V g l y d pc lv (.long y0 :: .long x :: st) M nx kc ks Q := by subst hv; exact mv_ladd hd k
theorem mv_lsubv {x y0 v : Int64} (hd : decode y.2.1 pc = .ok (.lsub, 1)) (hv : x - y0 = v) (k : mj_V g l y d (pc + 1) lv (.long v :: st) M nx kc ks Q) : mj_V g l y d pc lv (.long y0 :: .long x :: st) M nx kc ks Q := by subst hv; exact mv_lsub hd k
theorem mv_lmulv {x y0 v : Int64} (hd : decode y.2.1 pc = .ok (.lmul, 1)) (hv : x * y0 = v) (k : mj_V g l y d (pc + 1) lv (.long v :: st) M nx kc ks Q) : mj_V g l y d pc lv (.long y0 :: .long x :: st) M nx kc ks Q := by subst hv; exact mv_lmul hd k
theorem mv_idivv {x y0 v : Int32} (hd : decode y.2.1 pc = .ok (.idiv, 1)) (hne : ¬ y0 = 0) (hv : x / y0 = v) (k : mj_V g l y d (pc + 1) lv (.int v :: st) M nx kc ks Q) : mj_V g l y d pc lv (.int y0 :: .int x :: st) M nx kc ks Q := by subst hv; exact mv_idiv hd hne k
theorem mv_iremv {x y0 v : Int32} (hd : decode y.2.1 pc = .ok (.irem, 1)) (hne : ¬ y0 = 0) (hv : x - x / y0 * y0 = v) (k : mj_V g l y d (pc + 1) lv (.int v :: st) M nx kc ks Q) : mj_V g l y d pc lv (.int y0 :: .int x :: st) M nx kc ks Q := by subst hv; exact mv_irem hd hne k
theorem mv_ldivv {x y0 v : Int64} (hd : decode y.2.1 pc = .ok (.ldiv, 1)) (hne : ¬ y0 = 0) (hv : x / y0 = v) (k : mj_V g l y d (pc + 1) lv (.long v :: st) M nx kc ks Q) : mj_V g l y d pc lv (.long y0 :: .long x :: st) M nx kc ks Q := by subst hv; exact mv_ldiv hd hne k
theorem mv_lcmpv {x y0 : Int64} {v : Int32} (hd : decode y.2.1 pc = .ok (.lcmp, 1)) (hv : lg_cmp x y0 = v) (k : mj_V g l y d (pc + 1) lv (.int v :: st) M nx kc ks Q) : mj_V g l y d pc lv (.long y0 :: .long x :: st) M nx kc ks Q := by subst hv; exact mv_lcmp hd k
theorem mz_lt {x y : Int32} {a b : Int} (ha : x.toInt = a) (hb : y.toInt = b) : x < y ↔ a < b := by rw [← ha, ← hb]; exact Int32.lt_iff_toInt_lt
theorem mz_le {x y : Int32} {a b : Int} (ha : x.toInt = a) (hb : y.toInt = b) : x ≤ y ↔ a ≤ b := by rw [← ha, ← hb]; exact Int32.le_iff_toInt_le
theorem mz_eq {x y : Int32} {a b : Int} (ha : x.toInt = a) (hb : y.toInt = b) : x = y ↔ a = b := by rw [← ha, ← hb]; exact Int32.toInt_inj.symm
theorem mz_0 : (0 : Int32).toInt = 0 := rfl
theorem mv_if_ltZ {x : Int32} {a : Int} {off : Int} {tgt : Nat} (hd : decode y.2.1 pc = .ok (.ifCond .lt off, 3)) (ht : (pc : Int) + off = (tgt : Int)) (ha : x.toInt = a) (kt : a < 0 → mj_V g l y d tgt lv st M nx kc ks Q) (kf : 0 ≤ a → mj_V g l y d (pc + 3) lv st M nx kc ks Q) : mj_V g l y d pc lv (.int x :: st) M nx kc ks Q := mv_if_lt hd ht (fun z => kt ((mz_lt ha mz_0).mp z)) (fun z => kf (Int.not_lt.mp (fun q => z ((mz_lt ha mz_0).mpr q))))
theorem mv_icmp_ltZ {x y0 : Int32} {a b : Int} {off : Int} {tgt : Nat} (hd : decode y.2.1 pc = .ok (.if_icmp .lt off, 3)) (ht : (pc : Int) + off = (tgt : Int)) (ha : x.toInt = a) (hb : y0.toInt = b) (kt : a < b → mj_V g l y d tgt lv st M nx kc ks Q) (kf : b ≤ a → mj_V g l y d (pc + 3) lv st M nx kc ks Q) : mj_V g l y d pc lv (.int y0 :: .int x :: st) M nx kc ks Q := mv_icmp_lt hd ht (fun z => kt ((mz_lt ha hb).mp z)) (fun z => kf (Int.not_lt.mp (fun q => z ((mz_lt ha hb).mpr q))))
theorem mv_if_geZ {x : Int32} {a : Int} {off : Int} {tgt : Nat} (hd : decode y.2.1 pc = .ok (.ifCond .ge off, 3)) (ht : (pc : Int) + off = (tgt : Int)) (ha : x.toInt = a) (kt : 0 ≤ a → mj_V g l y d tgt lv st M nx kc ks Q) (kf : a < 0 → mj_V g l y d (pc + 3) lv st M nx kc ks Q) : mj_V g l y d pc lv (.int x :: st) M nx kc ks Q := mv_if_ge hd ht (fun z => kt ((mz_le mz_0 ha).mp z)) (fun z => kf (Int.not_le.mp (fun q => z ((mz_le mz_0 ha).mpr q))))
theorem mv_icmp_geZ {x y0 : Int32} {a b : Int} {off : Int} {tgt : Nat} (hd : decode y.2.1 pc = .ok (.if_icmp .ge off, 3)) (ht : (pc : Int) + off = (tgt : Int)) (ha : x.toInt = a) (hb : y0.toInt = b) (kt : b ≤ a → mj_V g l y d tgt lv st M nx kc ks Q) (kf : a < b → mj_V g l y d (pc + 3) lv st M nx kc ks Q) : mj_V g l y d pc lv (.int y0 :: .int x :: st) M nx kc ks Q := mv_icmp_ge hd ht (fun z => kt ((mz_le hb ha).mp z)) (fun z => kf (Int.not_le.mp (fun q => z ((mz_le hb ha).mpr q))))
theorem mv_if_gtZ {x : Int32} {a : Int} {off : Int} {tgt : Nat} (hd : decode y.2.1 pc = .ok (.ifCond .gt off, 3)) (ht : (pc : Int) + off = (tgt : Int)) (ha : x.toInt = a) (kt : 0 < a → mj_V g l y d tgt lv st M nx kc ks Q) (kf : a ≤ 0 → mj_V g l y d (pc + 3) lv st M nx kc ks Q) : mj_V g l y d pc lv (.int x :: st) M nx kc ks Q := mv_if_gt hd ht (fun z => kt ((mz_lt mz_0 ha).mp z)) (fun z => kf (Int.not_lt.mp (fun q => z ((mz_lt mz_0 ha).mpr q))))
theorem mv_icmp_gtZ {x y0 : Int32} {a b : Int} {off : Int} {tgt : Nat} (hd : decode y.2.1 pc = .ok (.if_icmp .gt off, 3)) (ht : (pc : Int) + off = (tgt : Int)) (ha : x.toInt = a) (hb : y0.toInt = b) (kt : b < a → mj_V g l y d tgt lv st M nx kc ks Q) (kf : a ≤ b → mj_V g l y d (pc + 3) lv st M nx kc ks Q) : mj_V g l y d pc lv (.int y0 :: .int x :: st) M nx kc ks Q := mv_icmp_gt hd ht (fun z => kt ((mz_lt hb ha).mp z)) (fun z => kf (Int.not_lt.mp (fun q => z ((mz_lt hb ha).mpr q))))
theorem mv_if_leZ {x : Int32} {a : Int} {off : Int} {tgt : Nat} (hd : decode y.2.1 pc = .ok (.ifCond .le off, 3)) (ht : (pc : Int) + off = (tgt : Int)) (ha : x.toInt = a) (kt : a ≤ 0 → mj_V g l y d tgt lv st M nx kc ks Q) (kf : 0 < a → mj_V g l y d (pc + 3) lv st M nx kc ks Q) : mj_V g l y d pc lv (.int x :: st) M nx kc ks Q := mv_if_le hd ht (fun z => kt ((mz_le ha mz_0).mp z)) (fun z => kf (Int.not_le.mp (fun q => z ((mz_le ha mz_0).mpr q))))
theorem mv_icmp_leZ {x y0 : Int32} {a b : Int} {off : Int} {tgt : Nat} (hd : decode y.2.1 pc = .ok (.if_icmp .le off, 3)) (ht : (pc : Int) + off = (tgt : Int)) (ha : x.toInt = a) (hb : y0.toInt = b) (kt : a ≤ b → mj_V g l y d tgt lv st M nx kc ks Q) (kf : b < a → mj_V g l y d (pc + 3) lv st M nx kc ks Q) : mj_V g l y d pc lv (.int y0 :: .int x :: st) M nx kc ks Q := mv_icmp_le hd ht (fun z => kt ((mz_le ha hb).mp z)) (fun z => kf (Int.not_le.mp (fun q => z ((mz_le ha hb).mpr q))))
theorem mv_if_eqZ {x : Int32} {a : Int} {off : Int} {tgt : Nat} (hd : decode y.2.1 pc = .ok (.ifCond .eq off, 3)) (ht : (pc : Int) + off = (tgt : Int)) (ha : x.toInt = a) (kt : a = 0 → mj_V g l y d tgt lv st M nx kc ks Q) (kf : ¬ a = 0 → mj_V g l y d (pc + 3) lv st M nx kc ks Q) : mj_V g l y d pc lv (.int x :: st) M nx kc ks Q := mv_if_eq hd ht (fun z => kt ((mz_eq ha mz_0).mp z)) (fun z => kf (fun q => z ((mz_eq ha mz_0).mpr q)))
theorem mv_icmp_eqZ {x y0 : Int32} {a b : Int} {off : Int} {tgt : Nat} (hd : decode y.2.1 pc = .ok (.if_icmp .eq off, 3)) (ht : (pc : Int) + off = (tgt : Int)) (ha : x.toInt = a) (hb : y0.toInt = b) (kt : a = b → mj_V g l y d tgt lv st M nx kc ks Q) (kf : ¬ a = b → mj_V g l y d (pc + 3) lv st M nx kc ks Q) : mj_V g l y d pc lv (.int y0 :: .int x :: st) M nx kc ks Q := mv_icmp_eq hd ht (fun z => kt ((mz_eq ha hb).mp z)) (fun z => kf (fun q => z ((mz_eq ha hb).mpr q)))
theorem mv_if_neZ {x : Int32} {a : Int} {off : Int} {tgt : Nat} (hd : decode y.2.1 pc = .ok (.ifCond .ne off, 3)) (ht : (pc : Int) + off = (tgt : Int)) (ha : x.toInt = a) (kt : ¬ a = 0 → mj_V g l y d tgt lv st M nx kc ks Q) (kf : a = 0 → mj_V g l y d (pc + 3) lv st M nx kc ks Q) : mj_V g l y d pc lv (.int x :: st) M nx kc ks Q := mv_if_ne hd ht (fun z => kt (fun q => z ((mz_eq ha mz_0).mpr q))) (fun z => kf ((mz_eq ha mz_0).mp z))
theorem mv_icmp_neZ {x y0 : Int32} {a b : Int} {off : Int} {tgt : Nat} (hd : decode y.2.1 pc = .ok (.if_icmp .ne off, 3)) (ht : (pc : Int) + off = (tgt : Int)) (ha : x.toInt = a) (hb : y0.toInt = b) (kt : ¬ a = b → mj_V g l y d tgt lv st M nx kc ks Q) (kf : a = b → mj_V g l y d (pc + 3) lv st M nx kc ks Q) : mj_V g l y d pc lv (.int y0 :: .int x :: st) M nx kc ks Q := mv_icmp_ne hd ht (fun z => kt (fun q => z ((mz_eq ha hb).mpr q))) (fun z => kf ((mz_eq ha hb).mp z))
/-- lcmp and a branch on it, by the numbers -/
theorem mz_llt {x y : Int64} {a b : Int} (ha : x.toInt = a) (hb : y.toInt = b) : lg_cmp x y < 0 ↔ a < b := by
  rw [← ha, ← hb]
  unfold lg_cmp
  simp only [gt_iff_lt, Int64.lt_iff_toInt_lt, ← Int64.toInt_inj]
  repeat' split
  all_goals first | (constructor <;> intro h <;> first | omega | (exact absurd h (by decide)) | decide)
theorem mz_lgt {x y : Int64} {a b : Int} (ha : x.toInt = a) (hb : y.toInt = b) : 0 < lg_cmp x y ↔ b < a := by
  rw [← ha, ← hb]
  unfold lg_cmp
  simp only [gt_iff_lt, Int64.lt_iff_toInt_lt, ← Int64.toInt_inj]
  repeat' split
  all_goals first | (constructor <;> intro h <;> first | omega | (exact absurd h (by decide)) | decide)
theorem mz_nlt {x y : Int32} : ¬ x < y ↔ y ≤ x := by
  rw [Int32.lt_iff_toInt_lt, Int32.le_iff_toInt_le]; omega
theorem mv_lltZ {x y0 : Int64} {a b : Int} {off : Int} {tgt : Nat} (hd1 : decode y.2.1 pc = .ok (.lcmp, 1)) (hd : decode y.2.1 (pc + 1) = .ok (.ifCond .lt off, 3)) (ht : ((pc + 1 : Nat) : Int) + off = (tgt : Int)) (ha : x.toInt = a) (hb : y0.toInt = b) (kt : a < b → mj_V g l y d tgt lv st M nx kc ks Q) (kf : b ≤ a → mj_V g l y d (pc + 4) lv st M nx kc ks Q) : mj_V g l y d pc lv (.long y0 :: .long x :: st) M nx kc ks Q := mv_lcmp hd1 (mv_if_lt hd ht (fun z => kt ((mz_llt ha hb).mp z)) (fun z => kf (Int.not_lt.mp (fun q => z ((mz_llt ha hb).mpr q)))))
theorem mv_lgeZ {x y0 : Int64} {a b : Int} {off : Int} {tgt : Nat} (hd1 : decode y.2.1 pc = .ok (.lcmp, 1)) (hd : decode y.2.1 (pc + 1) = .ok (.ifCond .ge off, 3)) (ht : ((pc + 1 : Nat) : Int) + off = (tgt : Int)) (ha : x.toInt = a) (hb : y0.toInt = b) (kt : b ≤ a → mj_V g l y d tgt lv st M nx kc ks Q) (kf : a < b → mj_V g l y d (pc + 4) lv st M nx kc ks Q) : mj_V g l y d pc lv (.long y0 :: .long x :: st) M nx kc ks Q := mv_lcmp hd1 (mv_if_ge hd ht (fun z => kt (Int.not_lt.mp (fun q => absurd ((mz_llt ha hb).mpr q) (mz_nlt.mpr z)))) (fun z => kf ((mz_llt ha hb).mp (Int32.not_le.mp z))))
theorem mv_lgtZ {x y0 : Int64} {a b : Int} {off : Int} {tgt : Nat} (hd1 : decode y.2.1 pc = .ok (.lcmp, 1)) (hd : decode y.2.1 (pc + 1) = .ok (.ifCond .gt off, 3)) (ht : ((pc + 1 : Nat) : Int) + off = (tgt : Int)) (ha : x.toInt = a) (hb : y0.toInt = b) (kt : b < a → mj_V g l y d tgt lv st M nx kc ks Q) (kf : a ≤ b → mj_V g l y d (pc + 4) lv st M nx kc ks Q) : mj_V g l y d pc lv (.long y0 :: .long x :: st) M nx kc ks Q := mv_lcmp hd1 (mv_if_gt hd ht (fun z => kt ((mz_lgt ha hb).mp z)) (fun z => kf (Int.not_lt.mp (fun q => z ((mz_lgt ha hb).mpr q)))))
theorem mv_lleZ {x y0 : Int64} {a b : Int} {off : Int} {tgt : Nat} (hd1 : decode y.2.1 pc = .ok (.lcmp, 1)) (hd : decode y.2.1 (pc + 1) = .ok (.ifCond .le off, 3)) (ht : ((pc + 1 : Nat) : Int) + off = (tgt : Int)) (ha : x.toInt = a) (hb : y0.toInt = b) (kt : a ≤ b → mj_V g l y d tgt lv st M nx kc ks Q) (kf : b < a → mj_V g l y d (pc + 4) lv st M nx kc ks Q) : mj_V g l y d pc lv (.long y0 :: .long x :: st) M nx kc ks Q := mv_lcmp hd1 (mv_if_le hd ht (fun z => kt (Int.not_lt.mp (fun q => absurd ((mz_lgt ha hb).mpr q) (mz_nlt.mpr z)))) (fun z => kf ((mz_lgt ha hb).mp (Int32.not_le.mp z))))
theorem mz_wide (x : Int32) : x.toInt64.toInt = x.toInt := Int32.toInt_toInt64 x
end MZ
/-- a yes or no that changes nothing -/
def mj_B (P : Prop) (M : mj_M) (nx : Nat) : Option Value → mj_M → Nat → Prop := fun r M' nx' => ((P ∧ r = some (.int 1)) ∨ (¬ P ∧ r = some (.int 0))) ∧ M' = M ∧ nx' = nx
/-- an answer, and the memory behind it -/
def mj_E1 (v : Option Value) (M : mj_M) (nx : Nat) : Option Value → mj_M → Nat → Prop := fun r M' nx' => r = v ∧ M' = M ∧ nx' = nx
end
section
section MK
variable {g : mj_G} {l : Launch} {y : mj_Y} {d pc : Nat} {lv : List (Nat × Value)} {st : List Value} {M : mj_M} {nx kc ks : Nat} {Q : Option Value → mj_M → Nat → Prop}
theorem mv_callV_s {index n kc1 ks1 kc' ks' : Nat} {y2 : mj_Y} {a ci : Nat} {fs : List Value} {T : u_T} {N : Nat} {w : Value} {M1 : mj_M} {nx1 : Nat} (As : List Value) (st9 : List Value) (hd : decode y.2.1 pc = .ok (.invokevirtual index, 3)) (hw : mj_lV y.1.cls index y2 n) (hM : M a = some (.inr (ci, fs))) (hc : kcl[ci]? = some (y2.1.cls, T, N)) (hm : mj_Met g l y2 d (.ref a :: As) M nx kc1 ks1 (mj_E1 (some w) M1 nx1)) (hn : As.length = n) (hcat : (st.map fun v => v.category).sum ≤ 8) (hkc : kc' + kc1 ≤ kc) (hks : ks' + ks1 ≤ ks) (hst : As.reverse ++ .ref a :: st = st9) (kk : mj_V g l y (d + 1) (pc + 3) lv (w :: st) M1 nx1 kc' ks' Q) : mj_V g l y (d + 1) pc lv st9 M nx kc ks Q := by
  refine mv_callV hd hw hM hc hm hn hcat hkc hks st9 hst fun r M' nx' hq => ?_
  obtain ⟨rfl, rfl, rfl⟩ := hq
  exact kk
theorem mv_callV_n {index n kc1 ks1 kc' ks' : Nat} {y2 : mj_Y} {a ci : Nat} {fs : List Value} {T : u_T} {N : Nat} {M1 : mj_M} {nx1 : Nat} (As : List Value) (st9 : List Value) (hd : decode y.2.1 pc = .ok (.invokevirtual index, 3)) (hw : mj_lV y.1.cls index y2 n) (hM : M a = some (.inr (ci, fs))) (hc : kcl[ci]? = some (y2.1.cls, T, N)) (hm : mj_Met g l y2 d (.ref a :: As) M nx kc1 ks1 (mj_E1 none M1 nx1)) (hn : As.length = n) (hcat : (st.map fun v => v.category).sum ≤ 8) (hkc : kc' + kc1 ≤ kc) (hks : ks' + ks1 ≤ ks) (hst : As.reverse ++ .ref a :: st = st9) (kk : mj_V g l y (d + 1) (pc + 3) lv st M1 nx1 kc' ks' Q) : mj_V g l y (d + 1) pc lv st9 M nx kc ks Q := by
  refine mv_callV hd hw hM hc hm hn hcat hkc hks st9 hst fun r M' nx' hq => ?_
  obtain ⟨rfl, rfl, rfl⟩ := hq
  exact kk
theorem mv_callV_b {index n kc1 ks1 kc' ks' : Nat} {y2 : mj_Y} {a ci : Nat} {fs : List Value} {T : u_T} {N : Nat} {P : Prop} (As : List Value) (st9 : List Value) (hd : decode y.2.1 pc = .ok (.invokevirtual index, 3)) (hw : mj_lV y.1.cls index y2 n) (hM : M a = some (.inr (ci, fs))) (hc : kcl[ci]? = some (y2.1.cls, T, N)) (hm : mj_Met g l y2 d (.ref a :: As) M nx kc1 ks1 (mj_B P M nx)) (hn : As.length = n) (hcat : (st.map fun v => v.category).sum ≤ 8) (hkc : kc' + kc1 ≤ kc) (hks : ks' + ks1 ≤ ks) (hst : As.reverse ++ .ref a :: st = st9) (kt : P → mj_V g l y (d + 1) (pc + 3) lv (.int 1 :: st) M nx kc' ks' Q) (kf : ¬ P → mj_V g l y (d + 1) (pc + 3) lv (.int 0 :: st) M nx kc' ks' Q) : mj_V g l y (d + 1) pc lv st9 M nx kc ks Q := by
  refine mv_callV hd hw hM hc hm hn hcat hkc hks st9 hst fun r M' nx' hq => ?_
  obtain ⟨⟨hp, rfl⟩ | ⟨hp, rfl⟩, rfl, rfl⟩ := hq
  · exact kt hp
  · exact kf hp
theorem mv_callS_s {index n kc1 ks1 kc' ks' : Nat} {y2 : mj_Y} {w : Value} {M1 : mj_M} {nx1 : Nat} (As : List Value) (st9 : List Value) (hd : decode y.2.1 pc = .ok (.invokestatic index, 3)) (hw : mj_lS y.1.cls index y2 n) (hm : mj_Met g l y2 d As M nx kc1 ks1 (mj_E1 (some w) M1 nx1)) (hn : As.length = n) (hcat : (st.map fun v => v.category).sum ≤ 8) (hkc : kc' + kc1 ≤ kc) (hks : ks' + ks1 ≤ ks) (hst : As.reverse ++ st = st9) (kk : mj_V g l y (d + 1) (pc + 3) lv (w :: st) M1 nx1 kc' ks' Q) : mj_V g l y (d + 1) pc lv st9 M nx kc ks Q := by
  refine mv_callS hd hw hm hn hcat hkc hks st9 hst fun r M' nx' hq => ?_
  obtain ⟨rfl, rfl, rfl⟩ := hq
  exact kk
theorem mv_callS_n {index n kc1 ks1 kc' ks' : Nat} {y2 : mj_Y} {M1 : mj_M} {nx1 : Nat} (As : List Value) (st9 : List Value) (hd : decode y.2.1 pc = .ok (.invokestatic index, 3)) (hw : mj_lS y.1.cls index y2 n) (hm : mj_Met g l y2 d As M nx kc1 ks1 (mj_E1 none M1 nx1)) (hn : As.length = n) (hcat : (st.map fun v => v.category).sum ≤ 8) (hkc : kc' + kc1 ≤ kc) (hks : ks' + ks1 ≤ ks) (hst : As.reverse ++ st = st9) (kk : mj_V g l y (d + 1) (pc + 3) lv st M1 nx1 kc' ks' Q) : mj_V g l y (d + 1) pc lv st9 M nx kc ks Q := by
  refine mv_callS hd hw hm hn hcat hkc hks st9 hst fun r M' nx' hq => ?_
  obtain ⟨rfl, rfl, rfl⟩ := hq
  exact kk
theorem mv_callS_b {index n kc1 ks1 kc' ks' : Nat} {y2 : mj_Y} {P : Prop} (As : List Value) (st9 : List Value) (hd : decode y.2.1 pc = .ok (.invokestatic index, 3)) (hw : mj_lS y.1.cls index y2 n) (hm : mj_Met g l y2 d As M nx kc1 ks1 (mj_B P M nx)) (hn : As.length = n) (hcat : (st.map fun v => v.category).sum ≤ 8) (hkc : kc' + kc1 ≤ kc) (hks : ks' + ks1 ≤ ks) (hst : As.reverse ++ st = st9) (kt : P → mj_V g l y (d + 1) (pc + 3) lv (.int 1 :: st) M nx kc' ks' Q) (kf : ¬ P → mj_V g l y (d + 1) (pc + 3) lv (.int 0 :: st) M nx kc' ks' Q) : mj_V g l y (d + 1) pc lv st9 M nx kc ks Q := by
  refine mv_callS hd hw hm hn hcat hkc hks st9 hst fun r M' nx' hq => ?_
  obtain ⟨⟨hp, rfl⟩ | ⟨hp, rfl⟩, rfl, rfl⟩ := hq
  · exact kt hp
  · exact kf hp
theorem mv_callI_n {index n kc1 ks1 kc' ks' : Nat} {y2 : mj_Y} {a : Nat} {M1 : mj_M} {nx1 : Nat} (As : List Value) (st9 : List Value) (hd : decode y.2.1 pc = .ok (.invokespecial index, 3)) (hw : mj_lI y.1.cls index y2 n) (hm : mj_Met g l y2 d (.ref a :: As) M nx kc1 ks1 (mj_E1 none M1 nx1)) (hn : As.length = n) (hcat : (st.map fun v => v.category).sum ≤ 8) (hkc : kc' + kc1 ≤ kc) (hks : ks' + ks1 ≤ ks) (hst : As.reverse ++ .ref a :: st = st9) (kk : mj_V g l y (d + 1) (pc + 3) lv st M1 nx1 kc' ks' Q) : mj_V g l y (d + 1) pc lv st9 M nx kc ks Q := by
  refine mv_callI hd hw hm hn hcat hkc hks st9 hst fun r M' nx' hq => ?_
  obtain ⟨rfl, rfl, rfl⟩ := hq
  exact kk
end MK
end
section
/-! the clone of the static RULE_WITHOUT -/
def mj_rwf : Nat → Int32 := fun j => [3, 1, 30, 90, 0, 20].getD j 0
theorem mj_rw_int : ∀ j, j < 6 → mj_rw.getD j .null = .int (mj_rwf j) := by
  intro j hj
  rcases (show j = 0 ∨ j = 1 ∨ j = 2 ∨ j = 3 ∨ j = 4 ∨ j = 5 by omega) with rfl | rfl | rfl | rfl | rfl | rfl <;> rfl
theorem mj_cl : Cond.sameMethod "[I" "java/lang/Object" "clone" "()Ljava/lang/Object;" ∈ mj_T ∧ Cond.native ⟨"java/lang/Object", "clone", "()Ljava/lang/Object;"⟩ ∈ mj_T ∧ Cond.instanceMethod ⟨"java/lang/Object", "clone", "()Ljava/lang/Object;"⟩ ∈ mj_T ∧ Cond.selects "[I" ⟨"[I", "clone", "()Ljava/lang/Object;"⟩ ⟨"java/lang/Object", "clone", "()Ljava/lang/Object;"⟩ ∈ mj_T ∧ Cond.castable "[I" "java/lang/Cloneable" ∈ mj_T :=
  ⟨mj_in1 (by decide +kernel) rfl, mj_in1 (by decide +kernel) rfl, mj_in1 (by decide +kernel) rfl, mj_in1 (by decide +kernel) rfl, mj_in1 (by decide +kernel) rfl⟩
set_option maxHeartbeats 4000000 in
theorem mv_cloneR {g : mj_G} {l : Launch} {y : mj_Y} {d pc : Nat} {lv : List (Nat × Value)} {st : List Value} {M : mj_M} {nx kc ks : Nat} {Q : Option Value → mj_M → Nat → Prop} {index kc' ks' : Nat} (hd : decode y.2.1 pc = .ok (.invokevirtual index, 3)) (hw : Cond.methodLink y.1.cls index ⟨"[I", "clone", "()Ljava/lang/Object;"⟩ ∈ mj_T) (hcat : (st.map fun v => v.category).sum ≤ 8) (hkc : kc' + 1 ≤ kc) (hks : ks' + 6 ≤ ks) (kk : mj_V g l y (d + 1) (pc + 3) lv (.ref nx :: st) (mj_up M nx (.inl (0, 6, .inl mj_rwf))) (nx + 1) kc' ks' Q) : mj_V g l y (d + 1) pc lv (.ref 1 :: st) M nx kc ks Q := by
  intro p e R s m args below meth c H locs ls cells slots TC TS X0 hR hS hl h1 h2 h3 h4
  obtain ⟨hx, hb, hml, hr, hlk, hown, hnm, hts, hK, hZ, hfr, hlo, hg0⟩ := id X0
  obtain ⟨cell, q1, q2, q3, q4, q5, q6, q7⟩ := hZ.2.1.2
  have hcl0 : cell.cls = g.2.2.1 0 := Option.some.inj (q4.symm.trans (va_nm_int (hK.2 0 _ rfl).2))
  have hval : ∀ j : Nat, j < 6 → cell.slots[j]? = some (.int (mj_rwf j)) := fun j hj => (q6 j hj).trans (congrArg some (mj_rw_int j hj))
  have hcellE : ({ cls := cell.cls, slots := cell.slots } : Cell) = vp_cell (g.2.2.1 0) (6, .inl mj_rwf) := by
    rw [vp_cell_i, hcl0]
    have hs9 : cell.slots = (arrV (g.2.2.1 0) 6 (fun j => .int (mj_rwf j))).slots := by
      apply Array.ext_getElem?
      intro i
      by_cases hi : i < 6
      · rw [hval i hi, arrV_read _ _ hi]
      · rw [Array.getElem?_eq_none (by rw [q5]; omega), Array.getElem?_eq_none (by rw [arrV_size]; omega)]
    rw [hs9]
    rfl
  obtain ⟨c0, t0', f1, f2, f3⟩ := Cond.castable_spec (va_Nw.use (A := args) rfl (va_Nw.of rfl (hts _ mj_cl.2.2.2.2)))
  cases q4.symm.trans f1
  have hcH : H[mj_r g 1]? = some cell := by rw [hS.2.1 _ (Array.getElem?_eq_some_iff.mp q1).1 q7]; exact q1
  have hc9 := mj_room (g := g) (m := m) (pc := pc) (ls := ls) (st9 := (Value.ref 1 :: st).map (mj_v g)) hcat
  intro T hT X
  have hcellT : T.heap[mj_r g 1]? = some cell := by rw [hT]; exact hcH
  obtain ⟨-, kA, hkA, comp, hkind⟩ := State.isArrayOf_alike X.warmed.alike ((hK.2 0 _ rfl).1 0 (fun _ => .null))
  obtain ⟨-, kS, hkS, compS, hkindS⟩ := (hK.2 0 _ rfl).1 0 (fun _ => .null)
  obtain ⟨vm', X', st9⟩ := X.cloneArray hx hown (hts _ hw) (hts _ mj_cl.1) (hts _ mj_cl.2.1) (hts _ mj_cl.2.2.1) (hts _ mj_cl.2.2.2.1) (a := mj_r g 1) (cell := cell) hcellT q3 q2 q4 f2 f3
    (fun i v hv => by
      rw [hcl0]
      have hk' : T.vm.classes[g.2.2.1 0]? = some kA := hkA
      have hi : i < 6 := by
        have := (Array.getElem?_eq_some_iff.mp hv).1
        omega
      have hv2 : v = .int (mj_rwf i) := Option.some.inj (hv.symm.trans (hval i hi))
      subst hv2
      simp [State.fitsSlot, State.slotType?, hk', hkind, fits])
    (g := F0 m pc ls ((Value.ref 1 :: st).map (mj_v g))) (rest := st.map (mj_v g)) rfl (hl.1.trans hml.symm) rfl (by rw [hb]; exact hd) (by omega) (by rw [mj_cats]; show 2 * 0 + _ + 14 ≤ _; omega) (by omega) (by rw [q5]; omega) (hloader := by rw [hcl0]; exact Vm.clonesLoader_of_array hkS hkindS)
  rw [hcellE, q5] at X'
  generalize hH1 : H.push (vp_cell (g.2.2.1 0) (6, .inl mj_rwf)) = H1
  have hsz := hR.2.2
  have z1 : H1.size = H.size + 1 := by rw [← hH1, Array.size_push]
  have e1 : H1[H.size]? = some (vp_cell (g.2.2.1 0) (6, .inl mj_rwf)) := by rw [← hH1, Array.getElem?_push_size]
  have o1 : ∀ q : Nat, q < H.size → H1[q]? = H[q]? := fun q hq => by rw [← hH1, Array.getElem?_push, if_neg (Nat.ne_of_lt hq)]
  have hk9 := kk p e R s m args below meth c H1 locs ls (cells + 1) (slots + 6) TC TS X0 (hR.push (by rw [← hsz]; exact e1) z1 o1) (mj_S_push hS z1 o1) hl (by omega) (by omega) h3 h4
  obtain ⟨t, b1, b2⟩ := hk9 _ (by rw [← hH1, ← hT]; rfl) X'
  refine ⟨t, st9 t ?_, b2⟩
  have hE : (Value.ref (Array.size T.heap)) = mj_v g (.ref nx) := by
    show _ = Value.ref (mj_r g nx)
    rw [hT, hsz]
  rw [hE, hcellE]
  exact b1
theorem mv_acmp_eq_t {g : mj_G} {l : Launch} {y : mj_Y} {d pc : Nat} {lv : List (Nat × Value)} {st : List Value} {M : mj_M} {nx kc ks : Nat} {Q : Option Value → mj_M → Nat → Prop} {r : Option Nat} {off : Int} {tgt : Nat} (hd : decode y.2.1 pc = .ok (.if_acmp .eq off, 3)) (ht : (pc : Int) + off = (tgt : Int)) (k : mj_V g l y d tgt lv st M nx kc ks Q) : mj_V g l y d pc lv (va_rf r :: va_rf r :: st) M nx kc ks Q := by
  intro p e R s m args below meth c H locs ls cells slots TC TS X hR hS hl h1 h2 h3 h4
  refine W.eq (g2 := F0 m pc ls (va_rf (r.map (mj_r g)) :: va_rf (r.map (mj_r g)) :: st.map (mj_v g))) (by rw [List.map_cons, List.map_cons, mj_vrf]) ?_
  exact lv_acmp_eq X.1 X.2.1 hd ht (fun _ => k p e R s m args below meth c H locs ls cells slots TC TS X hR hS hl h1 h2 h3 h4) (fun z => absurd rfl z)
end
section
abbrev kY_TrustDesk_init : mj_Y := (⟨"TrustDesk", "<init>", "()V"⟩, prog_1_method_1_code, 1, (Option.none : Option Jvm.ClassFile.FieldType))
theorem d_TrustDesk_init_0 : decode kY_TrustDesk_init.2.1 0 = .ok (.aload_n 0, 1) := by decide +kernel
theorem d_TrustDesk_init_1 : decode kY_TrustDesk_init.2.1 1 = .ok (.invokespecial 1, 3) := by decide +kernel
theorem d_TrustDesk_init_4 : decode kY_TrustDesk_init.2.1 4 = .ok (.aload_n 0, 1) := by decide +kernel
theorem d_TrustDesk_init_5 : decode kY_TrustDesk_init.2.1 5 = .ok (.new 7, 3) := by decide +kernel
theorem kg_5 : ∀ w ∈ u_ws kR_Facts kF_Facts 5, w ∈ mj_T := fun w h => mj_in1 (ki_Facts w h) (List.all_eq_true.mp (show (u_ws kR_Facts kF_Facts 5).all mj_good = true by decide +kernel) w h)
theorem n_TrustDesk_7 : mj_nw "TrustDesk" 7 5 [.null, .null, .null, .null, .int 0] := ⟨kR_Facts, kF_Facts, 5, kt_Facts, rfl, kg_5, kto_Facts, (mj_in1 (List.mem_of_getElem? (i := 39) (by decide +kernel)) rfl), (mj_in1 (List.mem_of_getElem? (i := 40) (by decide +kernel)) rfl), (mj_in1 (List.mem_of_getElem? (i := 2) (by decide +kernel)) rfl), by decide +kernel, rfl, fun _ => rfl⟩
theorem d_TrustDesk_init_8 : decode kY_TrustDesk_init.2.1 8 = .ok (.dup, 1) := by decide +kernel
theorem d_TrustDesk_init_9 : decode kY_TrustDesk_init.2.1 9 = .ok (.invokespecial 9, 3) := by decide +kernel
abbrev kY_Facts_init : mj_Y := (⟨"TrustDesk$Facts", "<init>", "()V"⟩, prog_6_method_1_code, 1, (Option.none : Option Jvm.ClassFile.FieldType))
theorem lI_TrustDesk_9 : mj_lI "TrustDesk" 9 kY_Facts_init 0 := ⟨⟨(mj_in1 (List.mem_of_getElem? (i := 41) (by decide +kernel)) rfl), (mj_in1 (List.mem_of_getElem? (i := 2) (by decide +kernel)) rfl), (mj_in1 (List.mem_of_getElem? (i := 43) (by decide +kernel)) rfl), by decide, rfl, by decide⟩, rfl, (mj_in1 (List.mem_of_getElem? (i := 42) (by decide +kernel)) rfl), rfl⟩
theorem d_Facts_init_0 : decode kY_Facts_init.2.1 0 = .ok (.aload_n 0, 1) := by decide +kernel
theorem d_Facts_init_1 : decode kY_Facts_init.2.1 1 = .ok (.invokespecial 3, 3) := by decide +kernel
theorem d_Facts_init_4 : decode kY_Facts_init.2.1 4 = .ok (.aload_n 0, 1) := by decide +kernel
theorem d_Facts_init_5 : decode kY_Facts_init.2.1 5 = .ok (.sipush 300, 3) := by decide +kernel
theorem d_Facts_init_8 : decode kY_Facts_init.2.1 8 = .ok (.newarray .int, 2) := by decide +kernel
theorem d_Facts_init_10 : decode kY_Facts_init.2.1 10 = .ok (.putfield 9, 3) := by decide +kernel
theorem p_Facts_9_5 : mj_fp "TrustDesk$Facts" 9 5 0 (kt_Facts 0) true := ⟨kR_Facts, kF_Facts, 5, "TrustDesk$Facts", kt_Facts, rfl, kg_5, by decide, (mj_in1 (List.mem_of_getElem? (i := 45) (by decide +kernel)) rfl), Or.inl rfl, kto_Facts, kn_Facts, rfl, rfl, fun _ => rfl⟩
theorem d_Facts_init_13 : decode kY_Facts_init.2.1 13 = .ok (.aload_n 0, 1) := by decide +kernel
theorem d_Facts_init_14 : decode kY_Facts_init.2.1 14 = .ok (.sipush 300, 3) := by decide +kernel
theorem d_Facts_init_17 : decode kY_Facts_init.2.1 17 = .ok (.newarray .int, 2) := by decide +kernel
theorem d_Facts_init_19 : decode kY_Facts_init.2.1 19 = .ok (.putfield 15, 3) := by decide +kernel
theorem p_Facts_15_5 : mj_fp "TrustDesk$Facts" 15 5 1 (kt_Facts 1) true := ⟨kR_Facts, kF_Facts, 5, "TrustDesk$Facts", kt_Facts, rfl, kg_5, by decide, (mj_in1 (List.mem_of_getElem? (i := 46) (by decide +kernel)) rfl), Or.inl rfl, kto_Facts, kn_Facts, rfl, rfl, fun _ => rfl⟩
theorem d_Facts_init_22 : decode kY_Facts_init.2.1 22 = .ok (.aload_n 0, 1) := by decide +kernel
theorem d_Facts_init_23 : decode kY_Facts_init.2.1 23 = .ok (.sipush 300, 3) := by decide +kernel
theorem d_Facts_init_26 : decode kY_Facts_init.2.1 26 = .ok (.newarray .int, 2) := by decide +kernel
theorem d_Facts_init_28 : decode kY_Facts_init.2.1 28 = .ok (.putfield 18, 3) := by decide +kernel
theorem p_Facts_18_5 : mj_fp "TrustDesk$Facts" 18 5 2 (kt_Facts 2) true := ⟨kR_Facts, kF_Facts, 5, "TrustDesk$Facts", kt_Facts, rfl, kg_5, by decide, (mj_in1 (List.mem_of_getElem? (i := 47) (by decide +kernel)) rfl), Or.inl rfl, kto_Facts, kn_Facts, rfl, rfl, fun _ => rfl⟩
theorem d_Facts_init_31 : decode kY_Facts_init.2.1 31 = .ok (.aload_n 0, 1) := by decide +kernel
theorem d_Facts_init_32 : decode kY_Facts_init.2.1 32 = .ok (.sipush 300, 3) := by decide +kernel
theorem d_Facts_init_35 : decode kY_Facts_init.2.1 35 = .ok (.newarray .int, 2) := by decide +kernel
theorem d_Facts_init_37 : decode kY_Facts_init.2.1 37 = .ok (.putfield 21, 3) := by decide +kernel
theorem p_Facts_21_5 : mj_fp "TrustDesk$Facts" 21 5 3 (kt_Facts 3) true := ⟨kR_Facts, kF_Facts, 5, "TrustDesk$Facts", kt_Facts, rfl, kg_5, by decide, (mj_in1 (List.mem_of_getElem? (i := 48) (by decide +kernel)) rfl), Or.inl rfl, kto_Facts, kn_Facts, rfl, rfl, fun _ => rfl⟩
theorem d_Facts_init_40 : decode kY_Facts_init.2.1 40 = .ok (.return_, 1) := by decide +kernel
theorem c_Facts_init_0 {g : mj_G} {l : Launch} {d : Nat} {M : mj_M} (h_65 : M 65 = some (.inr (5, [.null, .null, .null, .null, .int 0]))) : mj_Met g l kY_Facts_init (d + 1) [.ref 65] M 66 4 1200 (mj_E1 none (mj_up (mj_up (mj_up (mj_up (mj_up (mj_up (mj_up (mj_up M 66 (.inl (0, 300, .inl (fun _ => 0)))) 65 (.inr (5, [.ref 66, .null, .null, .null, .int 0]))) 67 (.inl (0, 300, .inl (fun _ => 0)))) 65 (.inr (5, [.ref 66, .ref 67, .null, .null, .int 0]))) 68 (.inl (0, 300, .inl (fun _ => 0)))) 65 (.inr (5, [.ref 66, .ref 67, .ref 68, .null, .int 0]))) 69 (.inl (0, 300, .inl (fun _ => 0)))) 65 (.inr (5, [.ref 66, .ref 67, .ref 68, .ref 69, .int 0]))) 70) := by
  refine mj_enter (by decide) (Nat.le_of_ble_eq_true rfl) ?_
  refine mv_aload_n d_Facts_init_0 rfl rfl ?_
  refine mv_oinit d_Facts_init_1 (mj_in1 (List.mem_of_getElem? (i := 44) (by decide +kernel)) rfl) (by decide) ?_
  refine mv_aload_n d_Facts_init_4 rfl rfl ?_
  refine mv_sipush (v := 300) d_Facts_init_5 (by decide) ?_
  refine mv_newa_int (N := 300) (kc' := 3) (ks' := 900) d_Facts_init_8 (by decide) (by decide) (Nat.le_of_ble_eq_true rfl) (Nat.le_of_ble_eq_true rfl) (Nat.le_of_ble_eq_true rfl) ?_
  refine mv_putF (fs' := [.ref 66, .null, .null, .null, .int 0]) d_Facts_init_10 p_Facts_9_5 rfl ((mj_up_ne _ _ (Nat.ne_of_beq_eq_false rfl)).trans h_65) (by decide) rfl rfl rfl ?_
  refine mv_aload_n d_Facts_init_13 rfl rfl ?_
  refine mv_sipush (v := 300) d_Facts_init_14 (by decide) ?_
  refine mv_newa_int (N := 300) (kc' := 2) (ks' := 600) d_Facts_init_17 (by decide) (by decide) (Nat.le_of_ble_eq_true rfl) (Nat.le_of_ble_eq_true rfl) (Nat.le_of_ble_eq_true rfl) ?_
  refine mv_putF (fs' := [.ref 66, .ref 67, .null, .null, .int 0]) d_Facts_init_19 p_Facts_15_5 rfl ((mj_up_ne _ _ (Nat.ne_of_beq_eq_false rfl)).trans (mj_up_self _ _ _)) (by decide) rfl rfl rfl ?_
  refine mv_aload_n d_Facts_init_22 rfl rfl ?_
  refine mv_sipush (v := 300) d_Facts_init_23 (by decide) ?_
  refine mv_newa_int (N := 300) (kc' := 1) (ks' := 300) d_Facts_init_26 (by decide) (by decide) (Nat.le_of_ble_eq_true rfl) (Nat.le_of_ble_eq_true rfl) (Nat.le_of_ble_eq_true rfl) ?_
  refine mv_putF (fs' := [.ref 66, .ref 67, .ref 68, .null, .int 0]) d_Facts_init_28 p_Facts_18_5 rfl ((mj_up_ne _ _ (Nat.ne_of_beq_eq_false rfl)).trans (mj_up_self _ _ _)) (by decide) rfl rfl rfl ?_
  refine mv_aload_n d_Facts_init_31 rfl rfl ?_
  refine mv_sipush (v := 300) d_Facts_init_32 (by decide) ?_
  refine mv_newa_int (N := 300) (kc' := 0) (ks' := 0) d_Facts_init_35 (by decide) (by decide) (Nat.le_of_ble_eq_true rfl) (Nat.le_of_ble_eq_true rfl) (Nat.le_of_ble_eq_true rfl) ?_
  refine mv_putF (fs' := [.ref 66, .ref 67, .ref 68, .ref 69, .int 0]) d_Facts_init_37 p_Facts_21_5 rfl ((mj_up_ne _ _ (Nat.ne_of_beq_eq_false rfl)).trans (mj_up_self _ _ _)) (by decide) rfl rfl rfl ?_
  exact mv_vret d_Facts_init_40 rfl ⟨rfl, rfl, rfl⟩
theorem d_TrustDesk_init_12 : decode kY_TrustDesk_init.2.1 12 = .ok (.putfield 10, 3) := by decide +kernel
theorem kg_12 : ∀ w ∈ u_ws kR_TrustDesk kF_TrustDesk 13, w ∈ mj_T := fun w h => mj_in1 (ki_TrustDesk w h) (List.all_eq_true.mp (show (u_ws kR_TrustDesk kF_TrustDesk 13).all mj_good = true by decide +kernel) w h)
theorem p_TrustDesk_10_12 : mj_fp "TrustDesk" 10 12 0 (kt_TrustDesk 0) true := ⟨kR_TrustDesk, kF_TrustDesk, 13, "TrustDesk", kt_TrustDesk, rfl, kg_12, by decide, (mj_in1 (List.mem_of_getElem? (i := 267) (by decide +kernel)) rfl), Or.inl rfl, kto_TrustDesk, kn_TrustDesk, rfl, rfl, fun _ => rfl⟩
theorem d_TrustDesk_init_15 : decode kY_TrustDesk_init.2.1 15 = .ok (.aload_n 0, 1) := by decide +kernel
theorem d_TrustDesk_init_16 : decode kY_TrustDesk_init.2.1 16 = .ok (.new 16, 3) := by decide +kernel
theorem kg_9 : ∀ w ∈ u_ws kR_Reader kF_Reader 19, w ∈ mj_T := fun w h => mj_in1 (ki_Reader w h) (List.all_eq_true.mp (show (u_ws kR_Reader kF_Reader 19).all mj_good = true by decide +kernel) w h)
theorem n_TrustDesk_16 : mj_nw "TrustDesk" 16 9 [.int 0, .int 0, .int 0, .null, .null, .null, .null, .null, .int 0, .int 0, .int 0, .int 0, .int 0, .int 0, .int 0, .int 0, .int 0, .null, .int 0] := ⟨kR_Reader, kF_Reader, 19, kt_Reader, rfl, kg_9, kto_Reader, (mj_in1 (List.mem_of_getElem? (i := 63) (by decide +kernel)) rfl), (mj_in1 (List.mem_of_getElem? (i := 64) (by decide +kernel)) rfl), (mj_in1 (List.mem_of_getElem? (i := 3) (by decide +kernel)) rfl), by decide +kernel, rfl, fun _ => rfl⟩
theorem d_TrustDesk_init_19 : decode kY_TrustDesk_init.2.1 19 = .ok (.dup, 1) := by decide +kernel
theorem d_TrustDesk_init_20 : decode kY_TrustDesk_init.2.1 20 = .ok (.invokespecial 18, 3) := by decide +kernel
abbrev kY_Reader_init : mj_Y := (⟨"TrustDesk$Reader", "<init>", "()V"⟩, prog_10_method_1_code, 1, (Option.none : Option Jvm.ClassFile.FieldType))
theorem lI_TrustDesk_18 : mj_lI "TrustDesk" 18 kY_Reader_init 0 := ⟨⟨(mj_in1 (List.mem_of_getElem? (i := 65) (by decide +kernel)) rfl), (mj_in1 (List.mem_of_getElem? (i := 3) (by decide +kernel)) rfl), (mj_in1 (List.mem_of_getElem? (i := 67) (by decide +kernel)) rfl), by decide, rfl, by decide⟩, rfl, (mj_in1 (List.mem_of_getElem? (i := 66) (by decide +kernel)) rfl), rfl⟩
theorem d_Reader_init_0 : decode kY_Reader_init.2.1 0 = .ok (.aload_n 0, 1) := by decide +kernel
theorem d_Reader_init_1 : decode kY_Reader_init.2.1 1 = .ok (.invokespecial 5, 3) := by decide +kernel
theorem d_Reader_init_4 : decode kY_Reader_init.2.1 4 = .ok (.aload_n 0, 1) := by decide +kernel
theorem d_Reader_init_5 : decode kY_Reader_init.2.1 5 = .ok (.iconst (-1), 1) := by decide +kernel
theorem d_Reader_init_6 : decode kY_Reader_init.2.1 6 = .ok (.putfield 11, 3) := by decide +kernel
theorem p_Reader_11_9 : mj_fp "TrustDesk$Reader" 11 9 2 (kt_Reader 2) false := ⟨kR_Reader, kF_Reader, 19, "TrustDesk$Reader", kt_Reader, rfl, kg_9, by decide, (mj_in1 (List.mem_of_getElem? (i := 73) (by decide +kernel)) rfl), Or.inl rfl, kto_Reader, kn_Reader, rfl, rfl, fun h => by cases h⟩
theorem d_Reader_init_9 : decode kY_Reader_init.2.1 9 = .ok (.aload_n 0, 1) := by decide +kernel
theorem d_Reader_init_10 : decode kY_Reader_init.2.1 10 = .ok (.sipush 400, 3) := by decide +kernel
theorem d_Reader_init_13 : decode kY_Reader_init.2.1 13 = .ok (.newarray .int, 2) := by decide +kernel
theorem d_Reader_init_15 : decode kY_Reader_init.2.1 15 = .ok (.putfield 15, 3) := by decide +kernel
theorem p_Reader_15_9 : mj_fp "TrustDesk$Reader" 15 9 3 (kt_Reader 3) true := ⟨kR_Reader, kF_Reader, 19, "TrustDesk$Reader", kt_Reader, rfl, kg_9, by decide, (mj_in1 (List.mem_of_getElem? (i := 75) (by decide +kernel)) rfl), Or.inl rfl, kto_Reader, kn_Reader, rfl, rfl, fun _ => rfl⟩
theorem d_Reader_init_18 : decode kY_Reader_init.2.1 18 = .ok (.aload_n 0, 1) := by decide +kernel
theorem d_Reader_init_19 : decode kY_Reader_init.2.1 19 = .ok (.sipush 400, 3) := by decide +kernel
theorem d_Reader_init_22 : decode kY_Reader_init.2.1 22 = .ok (.newarray .int, 2) := by decide +kernel
theorem d_Reader_init_24 : decode kY_Reader_init.2.1 24 = .ok (.putfield 19, 3) := by decide +kernel
theorem p_Reader_19_9 : mj_fp "TrustDesk$Reader" 19 9 4 (kt_Reader 4) true := ⟨kR_Reader, kF_Reader, 19, "TrustDesk$Reader", kt_Reader, rfl, kg_9, by decide, (mj_in1 (List.mem_of_getElem? (i := 76) (by decide +kernel)) rfl), Or.inl rfl, kto_Reader, kn_Reader, rfl, rfl, fun _ => rfl⟩
theorem d_Reader_init_27 : decode kY_Reader_init.2.1 27 = .ok (.aload_n 0, 1) := by decide +kernel
theorem d_Reader_init_28 : decode kY_Reader_init.2.1 28 = .ok (.sipush 400, 3) := by decide +kernel
theorem d_Reader_init_31 : decode kY_Reader_init.2.1 31 = .ok (.newarray .int, 2) := by decide +kernel
theorem d_Reader_init_33 : decode kY_Reader_init.2.1 33 = .ok (.putfield 22, 3) := by decide +kernel
theorem p_Reader_22_9 : mj_fp "TrustDesk$Reader" 22 9 5 (kt_Reader 5) true := ⟨kR_Reader, kF_Reader, 19, "TrustDesk$Reader", kt_Reader, rfl, kg_9, by decide, (mj_in1 (List.mem_of_getElem? (i := 77) (by decide +kernel)) rfl), Or.inl rfl, kto_Reader, kn_Reader, rfl, rfl, fun _ => rfl⟩
theorem d_Reader_init_36 : decode kY_Reader_init.2.1 36 = .ok (.aload_n 0, 1) := by decide +kernel
theorem d_Reader_init_37 : decode kY_Reader_init.2.1 37 = .ok (.sipush 400, 3) := by decide +kernel
theorem d_Reader_init_40 : decode kY_Reader_init.2.1 40 = .ok (.newarray .int, 2) := by decide +kernel
theorem d_Reader_init_42 : decode kY_Reader_init.2.1 42 = .ok (.putfield 25, 3) := by decide +kernel
theorem p_Reader_25_9 : mj_fp "TrustDesk$Reader" 25 9 6 (kt_Reader 6) true := ⟨kR_Reader, kF_Reader, 19, "TrustDesk$Reader", kt_Reader, rfl, kg_9, by decide, (mj_in1 (List.mem_of_getElem? (i := 78) (by decide +kernel)) rfl), Or.inl rfl, kto_Reader, kn_Reader, rfl, rfl, fun _ => rfl⟩
theorem d_Reader_init_45 : decode kY_Reader_init.2.1 45 = .ok (.aload_n 0, 1) := by decide +kernel
theorem d_Reader_init_46 : decode kY_Reader_init.2.1 46 = .ok (.sipush 400, 3) := by decide +kernel
theorem d_Reader_init_49 : decode kY_Reader_init.2.1 49 = .ok (.newarray .int, 2) := by decide +kernel
theorem d_Reader_init_51 : decode kY_Reader_init.2.1 51 = .ok (.putfield 28, 3) := by decide +kernel
theorem p_Reader_28_9 : mj_fp "TrustDesk$Reader" 28 9 7 (kt_Reader 7) true := ⟨kR_Reader, kF_Reader, 19, "TrustDesk$Reader", kt_Reader, rfl, kg_9, by decide, (mj_in1 (List.mem_of_getElem? (i := 79) (by decide +kernel)) rfl), Or.inl rfl, kto_Reader, kn_Reader, rfl, rfl, fun _ => rfl⟩
theorem d_Reader_init_54 : decode kY_Reader_init.2.1 54 = .ok (.aload_n 0, 1) := by decide +kernel
theorem d_Reader_init_55 : decode kY_Reader_init.2.1 55 = .ok (.sipush 400, 3) := by decide +kernel
theorem d_Reader_init_58 : decode kY_Reader_init.2.1 58 = .ok (.newarray .int, 2) := by decide +kernel
theorem d_Reader_init_60 : decode kY_Reader_init.2.1 60 = .ok (.putfield 31, 3) := by decide +kernel
theorem p_Reader_31_9 : mj_fp "TrustDesk$Reader" 31 9 17 (kt_Reader 17) true := ⟨kR_Reader, kF_Reader, 19, "TrustDesk$Reader", kt_Reader, rfl, kg_9, by decide, (mj_in1 (List.mem_of_getElem? (i := 89) (by decide +kernel)) rfl), Or.inl rfl, kto_Reader, kn_Reader, rfl, rfl, fun _ => rfl⟩
theorem d_Reader_init_63 : decode kY_Reader_init.2.1 63 = .ok (.return_, 1) := by decide +kernel
theorem c_Reader_init_0 {g : mj_G} {l : Launch} {d : Nat} {M : mj_M} (h_70 : M 70 = some (.inr (9, [.int 0, .int 0, .int 0, .null, .null, .null, .null, .null, .int 0, .int 0, .int 0, .int 0, .int 0, .int 0, .int 0, .int 0, .int 0, .null, .int 0]))) : mj_Met g l kY_Reader_init (d + 1) [.ref 70] M 71 6 2400 (mj_E1 none (mj_up (mj_up (mj_up (mj_up (mj_up (mj_up (mj_up (mj_up (mj_up (mj_up (mj_up (mj_up (mj_up M 70 (.inr (9, [.int 0, .int 0, .int (-1), .null, .null, .null, .null, .null, .int 0, .int 0, .int 0, .int 0, .int 0, .int 0, .int 0, .int 0, .int 0, .null, .int 0]))) 71 (.inl (0, 400, .inl (fun _ => 0)))) 70 (.inr (9, [.int 0, .int 0, .int (-1), .ref 71, .null, .null, .null, .null, .int 0, .int 0, .int 0, .int 0, .int 0, .int 0, .int 0, .int 0, .int 0, .null, .int 0]))) 72 (.inl (0, 400, .inl (fun _ => 0)))) 70 (.inr (9, [.int 0, .int 0, .int (-1), .ref 71, .ref 72, .null, .null, .null, .int 0, .int 0, .int 0, .int 0, .int 0, .int 0, .int 0, .int 0, .int 0, .null, .int 0]))) 73 (.inl (0, 400, .inl (fun _ => 0)))) 70 (.inr (9, [.int 0, .int 0, .int (-1), .ref 71, .ref 72, .ref 73, .null, .null, .int 0, .int 0, .int 0, .int 0, .int 0, .int 0, .int 0, .int 0, .int 0, .null, .int 0]))) 74 (.inl (0, 400, .inl (fun _ => 0)))) 70 (.inr (9, [.int 0, .int 0, .int (-1), .ref 71, .ref 72, .ref 73, .ref 74, .null, .int 0, .int 0, .int 0, .int 0, .int 0, .int 0, .int 0, .int 0, .int 0, .null, .int 0]))) 75 (.inl (0, 400, .inl (fun _ => 0)))) 70 (.inr (9, [.int 0, .int 0, .int (-1), .ref 71, .ref 72, .ref 73, .ref 74, .ref 75, .int 0, .int 0, .int 0, .int 0, .int 0, .int 0, .int 0, .int 0, .int 0, .null, .int 0]))) 76 (.inl (0, 400, .inl (fun _ => 0)))) 70 (.inr (9, [.int 0, .int 0, .int (-1), .ref 71, .ref 72, .ref 73, .ref 74, .ref 75, .int 0, .int 0, .int 0, .int 0, .int 0, .int 0, .int 0, .int 0, .int 0, .ref 76, .int 0]))) 77) := by
  refine mj_enter (by decide) (Nat.le_of_ble_eq_true rfl) ?_
  refine mv_aload_n d_Reader_init_0 rfl rfl ?_
  refine mv_oinit d_Reader_init_1 (mj_in1 (List.mem_of_getElem? (i := 68) (by decide +kernel)) rfl) (by decide) ?_
  refine mv_aload_n d_Reader_init_4 rfl rfl ?_
  refine mv_iconst (v := (-1)) d_Reader_init_5 (by decide) ?_
  refine mv_put (fs' := [.int 0, .int 0, .int (-1), .null, .null, .null, .null, .null, .int 0, .int 0, .int 0, .int 0, .int 0, .int 0, .int 0, .int 0, .int 0, .null, .int 0]) d_Reader_init_6 p_Reader_11_9 h_70 (by decide) rfl rfl rfl ?_
  refine mv_aload_n d_Reader_init_9 rfl rfl ?_
  refine mv_sipush (v := 400) d_Reader_init_10 (by decide) ?_
  refine mv_newa_int (N := 400) (kc' := 5) (ks' := 2000) d_Reader_init_13 (by decide) (by decide) (Nat.le_of_ble_eq_true rfl) (Nat.le_of_ble_eq_true rfl) (Nat.le_of_ble_eq_true rfl) ?_
  refine mv_putF (fs' := [.int 0, .int 0, .int (-1), .ref 71, .null, .null, .null, .null, .int 0, .int 0, .int 0, .int 0, .int 0, .int 0, .int 0, .int 0, .int 0, .null, .int 0]) d_Reader_init_15 p_Reader_15_9 rfl ((mj_up_ne _ _ (Nat.ne_of_beq_eq_false rfl)).trans (mj_up_self _ _ _)) (by decide) rfl rfl rfl ?_
  refine mv_aload_n d_Reader_init_18 rfl rfl ?_
  refine mv_sipush (v := 400) d_Reader_init_19 (by decide) ?_
  refine mv_newa_int (N := 400) (kc' := 4) (ks' := 1600) d_Reader_init_22 (by decide) (by decide) (Nat.le_of_ble_eq_true rfl) (Nat.le_of_ble_eq_true rfl) (Nat.le_of_ble_eq_true rfl) ?_
  refine mv_putF (fs' := [.int 0, .int 0, .int (-1), .ref 71, .ref 72, .null, .null, .null, .int 0, .int 0, .int 0, .int 0, .int 0, .int 0, .int 0, .int 0, .int 0, .null, .int 0]) d_Reader_init_24 p_Reader_19_9 rfl ((mj_up_ne _ _ (Nat.ne_of_beq_eq_false rfl)).trans (mj_up_self _ _ _)) (by decide) rfl rfl rfl ?_
  refine mv_aload_n d_Reader_init_27 rfl rfl ?_
  refine mv_sipush (v := 400) d_Reader_init_28 (by decide) ?_
  refine mv_newa_int (N := 400) (kc' := 3) (ks' := 1200) d_Reader_init_31 (by decide) (by decide) (Nat.le_of_ble_eq_true rfl) (Nat.le_of_ble_eq_true rfl) (Nat.le_of_ble_eq_true rfl) ?_
  refine mv_putF (fs' := [.int 0, .int 0, .int (-1), .ref 71, .ref 72, .ref 73, .null, .null, .int 0, .int 0, .int 0, .int 0, .int 0, .int 0, .int 0, .int 0, .int 0, .null, .int 0]) d_Reader_init_33 p_Reader_22_9 rfl ((mj_up_ne _ _ (Nat.ne_of_beq_eq_false rfl)).trans (mj_up_self _ _ _)) (by decide) rfl rfl rfl ?_
  refine mv_aload_n d_Reader_init_36 rfl rfl ?_
  refine mv_sipush (v := 400) d_Reader_init_37 (by decide) ?_
  refine mv_newa_int (N := 400) (kc' := 2) (ks' := 800) d_Reader_init_40 (by decide) (by decide) (Nat.le_of_ble_eq_true rfl) (Nat.le_of_ble_eq_true rfl) (Nat.le_of_ble_eq_true rfl) ?_
  refine mv_putF (fs' := [.int 0, .int 0, .int (-1), .ref 71, .ref 72, .ref 73, .ref 74, .null, .int 0, .int 0, .int 0, .int 0, .int 0, .int 0, .int 0, .int 0, .int 0, .null, .int 0]) d_Reader_init_42 p_Reader_25_9 rfl ((mj_up_ne _ _ (Nat.ne_of_beq_eq_false rfl)).trans (mj_up_self _ _ _)) (by decide) rfl rfl rfl ?_
  refine mv_aload_n d_Reader_init_45 rfl rfl ?_
  refine mv_sipush (v := 400) d_Reader_init_46 (by decide) ?_
  refine mv_newa_int (N := 400) (kc' := 1) (ks' := 400) d_Reader_init_49 (by decide) (by decide) (Nat.le_of_ble_eq_true rfl) (Nat.le_of_ble_eq_true rfl) (Nat.le_of_ble_eq_true rfl) ?_
  refine mv_putF (fs' := [.int 0, .int 0, .int (-1), .ref 71, .ref 72, .ref 73, .ref 74, .ref 75, .int 0, .int 0, .int 0, .int 0, .int 0, .int 0, .int 0, .int 0, .int 0, .null, .int 0]) d_Reader_init_51 p_Reader_28_9 rfl ((mj_up_ne _ _ (Nat.ne_of_beq_eq_false rfl)).trans (mj_up_self _ _ _)) (by decide) rfl rfl rfl ?_
  refine mv_aload_n d_Reader_init_54 rfl rfl ?_
  refine mv_sipush (v := 400) d_Reader_init_55 (by decide) ?_
  refine mv_newa_int (N := 400) (kc' := 0) (ks' := 0) d_Reader_init_58 (by decide) (by decide) (Nat.le_of_ble_eq_true rfl) (Nat.le_of_ble_eq_true rfl) (Nat.le_of_ble_eq_true rfl) ?_
  refine mv_putF (fs' := [.int 0, .int 0, .int (-1), .ref 71, .ref 72, .ref 73, .ref 74, .ref 75, .int 0, .int 0, .int 0, .int 0, .int 0, .int 0, .int 0, .int 0, .int 0, .ref 76, .int 0]) d_Reader_init_60 p_Reader_31_9 rfl ((mj_up_ne _ _ (Nat.ne_of_beq_eq_false rfl)).trans (mj_up_self _ _ _)) (by decide) rfl rfl rfl ?_
  exact mv_vret d_Reader_init_63 rfl ⟨rfl, rfl, rfl⟩
theorem d_TrustDesk_init_23 : decode kY_TrustDesk_init.2.1 23 = .ok (.putfield 19, 3) := by decide +kernel
theorem p_TrustDesk_19_12 : mj_fp "TrustDesk" 19 12 1 (kt_TrustDesk 1) true := ⟨kR_TrustDesk, kF_TrustDesk, 13, "TrustDesk", kt_TrustDesk, rfl, kg_12, by decide, (mj_in1 (List.mem_of_getElem? (i := 268) (by decide +kernel)) rfl), Or.inl rfl, kto_TrustDesk, kn_TrustDesk, rfl, rfl, fun _ => rfl⟩
theorem d_TrustDesk_init_26 : decode kY_TrustDesk_init.2.1 26 = .ok (.aload_n 0, 1) := by decide +kernel
theorem d_TrustDesk_init_27 : decode kY_TrustDesk_init.2.1 27 = .ok (.new 23, 3) := by decide +kernel
theorem kg_10 : ∀ w ∈ u_ws kR_Reckoner kF_Reckoner 5, w ∈ mj_T := fun w h => mj_in1 (ki_Reckoner w h) (List.all_eq_true.mp (show (u_ws kR_Reckoner kF_Reckoner 5).all mj_good = true by decide +kernel) w h)
theorem n_TrustDesk_23 : mj_nw "TrustDesk" 23 10 [.null, .int 0, .null, .int 0, .int 0] := ⟨kR_Reckoner, kF_Reckoner, 5, kt_Reckoner, rfl, kg_10, kto_Reckoner, (mj_in1 (List.mem_of_getElem? (i := 130) (by decide +kernel)) rfl), (mj_in1 (List.mem_of_getElem? (i := 131) (by decide +kernel)) rfl), (mj_in1 (List.mem_of_getElem? (i := 4) (by decide +kernel)) rfl), by decide +kernel, rfl, fun _ => rfl⟩
theorem d_TrustDesk_init_30 : decode kY_TrustDesk_init.2.1 30 = .ok (.dup, 1) := by decide +kernel
theorem d_TrustDesk_init_31 : decode kY_TrustDesk_init.2.1 31 = .ok (.invokespecial 25, 3) := by decide +kernel
abbrev kY_Reckoner_init : mj_Y := (⟨"TrustDesk$Reckoner", "<init>", "()V"⟩, prog_11_method_1_code, 1, (Option.none : Option Jvm.ClassFile.FieldType))
theorem lI_TrustDesk_25 : mj_lI "TrustDesk" 25 kY_Reckoner_init 0 := ⟨⟨(mj_in1 (List.mem_of_getElem? (i := 132) (by decide +kernel)) rfl), (mj_in1 (List.mem_of_getElem? (i := 4) (by decide +kernel)) rfl), (mj_in1 (List.mem_of_getElem? (i := 134) (by decide +kernel)) rfl), by decide, rfl, by decide⟩, rfl, (mj_in1 (List.mem_of_getElem? (i := 133) (by decide +kernel)) rfl), rfl⟩
theorem d_Reckoner_init_0 : decode kY_Reckoner_init.2.1 0 = .ok (.aload_n 0, 1) := by decide +kernel
theorem d_Reckoner_init_1 : decode kY_Reckoner_init.2.1 1 = .ok (.invokespecial 3, 3) := by decide +kernel
theorem d_Reckoner_init_4 : decode kY_Reckoner_init.2.1 4 = .ok (.aload_n 0, 1) := by decide +kernel
theorem d_Reckoner_init_5 : decode kY_Reckoner_init.2.1 5 = .ok (.bipush 13, 2) := by decide +kernel
theorem d_Reckoner_init_7 : decode kY_Reckoner_init.2.1 7 = .ok (.newarray .long, 2) := by decide +kernel
theorem d_Reckoner_init_9 : decode kY_Reckoner_init.2.1 9 = .ok (.putfield 9, 3) := by decide +kernel
theorem p_Reckoner_9_10 : mj_fp "TrustDesk$Reckoner" 9 10 0 (kt_Reckoner 0) true := ⟨kR_Reckoner, kF_Reckoner, 5, "TrustDesk$Reckoner", kt_Reckoner, rfl, kg_10, by decide, (mj_in1 (List.mem_of_getElem? (i := 136) (by decide +kernel)) rfl), Or.inl rfl, kto_Reckoner, kn_Reckoner, rfl, rfl, fun _ => rfl⟩
theorem d_Reckoner_init_12 : decode kY_Reckoner_init.2.1 12 = .ok (.aload_n 0, 1) := by decide +kernel
theorem d_Reckoner_init_13 : decode kY_Reckoner_init.2.1 13 = .ok (.iconst (-1), 1) := by decide +kernel
theorem d_Reckoner_init_14 : decode kY_Reckoner_init.2.1 14 = .ok (.putfield 15, 3) := by decide +kernel
theorem p_Reckoner_15_10 : mj_fp "TrustDesk$Reckoner" 15 10 1 (kt_Reckoner 1) false := ⟨kR_Reckoner, kF_Reckoner, 5, "TrustDesk$Reckoner", kt_Reckoner, rfl, kg_10, by decide, (mj_in1 (List.mem_of_getElem? (i := 138) (by decide +kernel)) rfl), Or.inl rfl, kto_Reckoner, kn_Reckoner, rfl, rfl, fun h => by cases h⟩
theorem d_Reckoner_init_17 : decode kY_Reckoner_init.2.1 17 = .ok (.aload_n 0, 1) := by decide +kernel
theorem d_Reckoner_init_18 : decode kY_Reckoner_init.2.1 18 = .ok (.bipush 64, 2) := by decide +kernel
theorem d_Reckoner_init_20 : decode kY_Reckoner_init.2.1 20 = .ok (.newarray .long, 2) := by decide +kernel
theorem d_Reckoner_init_22 : decode kY_Reckoner_init.2.1 22 = .ok (.putfield 19, 3) := by decide +kernel
theorem p_Reckoner_19_10 : mj_fp "TrustDesk$Reckoner" 19 10 2 (kt_Reckoner 2) true := ⟨kR_Reckoner, kF_Reckoner, 5, "TrustDesk$Reckoner", kt_Reckoner, rfl, kg_10, by decide, (mj_in1 (List.mem_of_getElem? (i := 140) (by decide +kernel)) rfl), Or.inl rfl, kto_Reckoner, kn_Reckoner, rfl, rfl, fun _ => rfl⟩
theorem d_Reckoner_init_25 : decode kY_Reckoner_init.2.1 25 = .ok (.return_, 1) := by decide +kernel
theorem c_Reckoner_init_0 {g : mj_G} {l : Launch} {d : Nat} {M : mj_M} (h_77 : M 77 = some (.inr (10, [.null, .int 0, .null, .int 0, .int 0]))) : mj_Met g l kY_Reckoner_init (d + 1) [.ref 77] M 78 2 77 (mj_E1 none (mj_up (mj_up (mj_up (mj_up (mj_up M 78 (.inl (1, 13, .inr (.inl (fun _ => 0))))) 77 (.inr (10, [.ref 78, .int 0, .null, .int 0, .int 0]))) 77 (.inr (10, [.ref 78, .int (-1), .null, .int 0, .int 0]))) 79 (.inl (1, 64, .inr (.inl (fun _ => 0))))) 77 (.inr (10, [.ref 78, .int (-1), .ref 79, .int 0, .int 0]))) 80) := by
  refine mj_enter (by decide) (Nat.le_of_ble_eq_true rfl) ?_
  refine mv_aload_n d_Reckoner_init_0 rfl rfl ?_
  refine mv_oinit d_Reckoner_init_1 (mj_in1 (List.mem_of_getElem? (i := 135) (by decide +kernel)) rfl) (by decide) ?_
  refine mv_aload_n d_Reckoner_init_4 rfl rfl ?_
  refine mv_bipush (v := 13) d_Reckoner_init_5 (by decide) ?_
  refine mv_newa_long (N := 13) (kc' := 1) (ks' := 64) d_Reckoner_init_7 (by decide) (by decide) (Nat.le_of_ble_eq_true rfl) (Nat.le_of_ble_eq_true rfl) (Nat.le_of_ble_eq_true rfl) ?_
  refine mv_putF (fs' := [.ref 78, .int 0, .null, .int 0, .int 0]) d_Reckoner_init_9 p_Reckoner_9_10 rfl ((mj_up_ne _ _ (Nat.ne_of_beq_eq_false rfl)).trans h_77) (by decide) rfl rfl rfl ?_
  refine mv_aload_n d_Reckoner_init_12 rfl rfl ?_
  refine mv_iconst (v := (-1)) d_Reckoner_init_13 (by decide) ?_
  refine mv_put (fs' := [.ref 78, .int (-1), .null, .int 0, .int 0]) d_Reckoner_init_14 p_Reckoner_15_10 (mj_up_self _ _ _) (by decide) rfl rfl rfl ?_
  refine mv_aload_n d_Reckoner_init_17 rfl rfl ?_
  refine mv_bipush (v := 64) d_Reckoner_init_18 (by decide) ?_
  refine mv_newa_long (N := 64) (kc' := 0) (ks' := 0) d_Reckoner_init_20 (by decide) (by decide) (Nat.le_of_ble_eq_true rfl) (Nat.le_of_ble_eq_true rfl) (Nat.le_of_ble_eq_true rfl) ?_
  refine mv_putF (fs' := [.ref 78, .int (-1), .ref 79, .int 0, .int 0]) d_Reckoner_init_22 p_Reckoner_19_10 rfl ((mj_up_ne _ _ (Nat.ne_of_beq_eq_false rfl)).trans (mj_up_self _ _ _)) (by decide) rfl rfl rfl ?_
  exact mv_vret d_Reckoner_init_25 rfl ⟨rfl, rfl, rfl⟩
theorem d_TrustDesk_init_34 : decode kY_TrustDesk_init.2.1 34 = .ok (.putfield 26, 3) := by decide +kernel
theorem p_TrustDesk_26_12 : mj_fp "TrustDesk" 26 12 2 (kt_TrustDesk 2) true := ⟨kR_TrustDesk, kF_TrustDesk, 13, "TrustDesk", kt_TrustDesk, rfl, kg_12, by decide, (mj_in1 (List.mem_of_getElem? (i := 269) (by decide +kernel)) rfl), Or.inl rfl, kto_TrustDesk, kn_TrustDesk, rfl, rfl, fun _ => rfl⟩
theorem d_TrustDesk_init_37 : decode kY_TrustDesk_init.2.1 37 = .ok (.aload_n 0, 1) := by decide +kernel
theorem d_TrustDesk_init_38 : decode kY_TrustDesk_init.2.1 38 = .ok (.new 30, 3) := by decide +kernel
theorem kg_7 : ∀ w ∈ u_ws kR_Grouping kF_Grouping 14, w ∈ mj_T := fun w h => mj_in1 (ki_Grouping w h) (List.all_eq_true.mp (show (u_ws kR_Grouping kF_Grouping 14).all mj_good = true by decide +kernel) w h)
theorem n_TrustDesk_30 : mj_nw "TrustDesk" 30 7 [.long 0, .int 0, .int 0, .int 0, .null, .null, .null, .null, .null, .null, .null, .null, .null, .long 0] := ⟨kR_Grouping, kF_Grouping, 14, kt_Grouping, rfl, kg_7, kto_Grouping, (mj_in1 (List.mem_of_getElem? (i := 155) (by decide +kernel)) rfl), (mj_in1 (List.mem_of_getElem? (i := 156) (by decide +kernel)) rfl), (mj_in1 (List.mem_of_getElem? (i := 5) (by decide +kernel)) rfl), by decide +kernel, rfl, fun _ => rfl⟩
theorem d_TrustDesk_init_41 : decode kY_TrustDesk_init.2.1 41 = .ok (.dup, 1) := by decide +kernel
theorem d_TrustDesk_init_42 : decode kY_TrustDesk_init.2.1 42 = .ok (.invokespecial 32, 3) := by decide +kernel
abbrev kY_Grouping_init : mj_Y := (⟨"TrustDesk$Grouping", "<init>", "()V"⟩, prog_8_method_1_code, 1, (Option.none : Option Jvm.ClassFile.FieldType))
theorem lI_TrustDesk_32 : mj_lI "TrustDesk" 32 kY_Grouping_init 0 := ⟨⟨(mj_in1 (List.mem_of_getElem? (i := 157) (by decide +kernel)) rfl), (mj_in1 (List.mem_of_getElem? (i := 5) (by decide +kernel)) rfl), (mj_in1 (List.mem_of_getElem? (i := 159) (by decide +kernel)) rfl), by decide, rfl, by decide⟩, rfl, (mj_in1 (List.mem_of_getElem? (i := 158) (by decide +kernel)) rfl), rfl⟩
theorem d_Grouping_init_0 : decode kY_Grouping_init.2.1 0 = .ok (.aload_n 0, 1) := by decide +kernel
theorem d_Grouping_init_1 : decode kY_Grouping_init.2.1 1 = .ok (.invokespecial 3, 3) := by decide +kernel
theorem d_Grouping_init_4 : decode kY_Grouping_init.2.1 4 = .ok (.aload_n 0, 1) := by decide +kernel
theorem d_Grouping_init_5 : decode kY_Grouping_init.2.1 5 = .ok (.bipush 8, 2) := by decide +kernel
theorem d_Grouping_init_7 : decode kY_Grouping_init.2.1 7 = .ok (.newarray .int, 2) := by decide +kernel
theorem d_Grouping_init_9 : decode kY_Grouping_init.2.1 9 = .ok (.putfield 9, 3) := by decide +kernel
theorem p_Grouping_9_7 : mj_fp "TrustDesk$Grouping" 9 7 4 (kt_Grouping 4) true := ⟨kR_Grouping, kF_Grouping, 14, "TrustDesk$Grouping", kt_Grouping, rfl, kg_7, by decide, (mj_in1 (List.mem_of_getElem? (i := 166) (by decide +kernel)) rfl), Or.inl rfl, kto_Grouping, kn_Grouping, rfl, rfl, fun _ => rfl⟩
theorem d_Grouping_init_12 : decode kY_Grouping_init.2.1 12 = .ok (.aload_n 0, 1) := by decide +kernel
theorem d_Grouping_init_13 : decode kY_Grouping_init.2.1 13 = .ok (.bipush 8, 2) := by decide +kernel
theorem d_Grouping_init_15 : decode kY_Grouping_init.2.1 15 = .ok (.newarray .long, 2) := by decide +kernel
theorem d_Grouping_init_17 : decode kY_Grouping_init.2.1 17 = .ok (.putfield 15, 3) := by decide +kernel
theorem p_Grouping_15_7 : mj_fp "TrustDesk$Grouping" 15 7 5 (kt_Grouping 5) true := ⟨kR_Grouping, kF_Grouping, 14, "TrustDesk$Grouping", kt_Grouping, rfl, kg_7, by decide, (mj_in1 (List.mem_of_getElem? (i := 167) (by decide +kernel)) rfl), Or.inl rfl, kto_Grouping, kn_Grouping, rfl, rfl, fun _ => rfl⟩
theorem d_Grouping_init_20 : decode kY_Grouping_init.2.1 20 = .ok (.aload_n 0, 1) := by decide +kernel
theorem d_Grouping_init_21 : decode kY_Grouping_init.2.1 21 = .ok (.bipush 8, 2) := by decide +kernel
theorem d_Grouping_init_23 : decode kY_Grouping_init.2.1 23 = .ok (.newarray .int, 2) := by decide +kernel
theorem d_Grouping_init_25 : decode kY_Grouping_init.2.1 25 = .ok (.putfield 19, 3) := by decide +kernel
theorem p_Grouping_19_7 : mj_fp "TrustDesk$Grouping" 19 7 6 (kt_Grouping 6) true := ⟨kR_Grouping, kF_Grouping, 14, "TrustDesk$Grouping", kt_Grouping, rfl, kg_7, by decide, (mj_in1 (List.mem_of_getElem? (i := 168) (by decide +kernel)) rfl), Or.inl rfl, kto_Grouping, kn_Grouping, rfl, rfl, fun _ => rfl⟩
theorem d_Grouping_init_28 : decode kY_Grouping_init.2.1 28 = .ok (.aload_n 0, 1) := by decide +kernel
theorem d_Grouping_init_29 : decode kY_Grouping_init.2.1 29 = .ok (.bipush 8, 2) := by decide +kernel
theorem d_Grouping_init_31 : decode kY_Grouping_init.2.1 31 = .ok (.newarray .int, 2) := by decide +kernel
theorem d_Grouping_init_33 : decode kY_Grouping_init.2.1 33 = .ok (.putfield 22, 3) := by decide +kernel
theorem p_Grouping_22_7 : mj_fp "TrustDesk$Grouping" 22 7 7 (kt_Grouping 7) true := ⟨kR_Grouping, kF_Grouping, 14, "TrustDesk$Grouping", kt_Grouping, rfl, kg_7, by decide, (mj_in1 (List.mem_of_getElem? (i := 169) (by decide +kernel)) rfl), Or.inl rfl, kto_Grouping, kn_Grouping, rfl, rfl, fun _ => rfl⟩
theorem d_Grouping_init_36 : decode kY_Grouping_init.2.1 36 = .ok (.aload_n 0, 1) := by decide +kernel
theorem d_Grouping_init_37 : decode kY_Grouping_init.2.1 37 = .ok (.bipush 8, 2) := by decide +kernel
theorem d_Grouping_init_39 : decode kY_Grouping_init.2.1 39 = .ok (.newarray .int, 2) := by decide +kernel
theorem d_Grouping_init_41 : decode kY_Grouping_init.2.1 41 = .ok (.putfield 25, 3) := by decide +kernel
theorem p_Grouping_25_7 : mj_fp "TrustDesk$Grouping" 25 7 8 (kt_Grouping 8) true := ⟨kR_Grouping, kF_Grouping, 14, "TrustDesk$Grouping", kt_Grouping, rfl, kg_7, by decide, (mj_in1 (List.mem_of_getElem? (i := 170) (by decide +kernel)) rfl), Or.inl rfl, kto_Grouping, kn_Grouping, rfl, rfl, fun _ => rfl⟩
theorem d_Grouping_init_44 : decode kY_Grouping_init.2.1 44 = .ok (.aload_n 0, 1) := by decide +kernel
theorem d_Grouping_init_45 : decode kY_Grouping_init.2.1 45 = .ok (.bipush 8, 2) := by decide +kernel
theorem d_Grouping_init_47 : decode kY_Grouping_init.2.1 47 = .ok (.newarray .int, 2) := by decide +kernel
theorem d_Grouping_init_49 : decode kY_Grouping_init.2.1 49 = .ok (.putfield 28, 3) := by decide +kernel
theorem p_Grouping_28_7 : mj_fp "TrustDesk$Grouping" 28 7 9 (kt_Grouping 9) true := ⟨kR_Grouping, kF_Grouping, 14, "TrustDesk$Grouping", kt_Grouping, rfl, kg_7, by decide, (mj_in1 (List.mem_of_getElem? (i := 171) (by decide +kernel)) rfl), Or.inl rfl, kto_Grouping, kn_Grouping, rfl, rfl, fun _ => rfl⟩
theorem d_Grouping_init_52 : decode kY_Grouping_init.2.1 52 = .ok (.aload_n 0, 1) := by decide +kernel
theorem d_Grouping_init_53 : decode kY_Grouping_init.2.1 53 = .ok (.bipush 8, 2) := by decide +kernel
theorem d_Grouping_init_55 : decode kY_Grouping_init.2.1 55 = .ok (.newarray .int, 2) := by decide +kernel
theorem d_Grouping_init_57 : decode kY_Grouping_init.2.1 57 = .ok (.putfield 31, 3) := by decide +kernel
theorem p_Grouping_31_7 : mj_fp "TrustDesk$Grouping" 31 7 10 (kt_Grouping 10) true := ⟨kR_Grouping, kF_Grouping, 14, "TrustDesk$Grouping", kt_Grouping, rfl, kg_7, by decide, (mj_in1 (List.mem_of_getElem? (i := 172) (by decide +kernel)) rfl), Or.inl rfl, kto_Grouping, kn_Grouping, rfl, rfl, fun _ => rfl⟩
theorem d_Grouping_init_60 : decode kY_Grouping_init.2.1 60 = .ok (.aload_n 0, 1) := by decide +kernel
theorem d_Grouping_init_61 : decode kY_Grouping_init.2.1 61 = .ok (.bipush 8, 2) := by decide +kernel
theorem d_Grouping_init_63 : decode kY_Grouping_init.2.1 63 = .ok (.newarray .long, 2) := by decide +kernel
theorem d_Grouping_init_65 : decode kY_Grouping_init.2.1 65 = .ok (.putfield 34, 3) := by decide +kernel
theorem p_Grouping_34_7 : mj_fp "TrustDesk$Grouping" 34 7 11 (kt_Grouping 11) true := ⟨kR_Grouping, kF_Grouping, 14, "TrustDesk$Grouping", kt_Grouping, rfl, kg_7, by decide, (mj_in1 (List.mem_of_getElem? (i := 173) (by decide +kernel)) rfl), Or.inl rfl, kto_Grouping, kn_Grouping, rfl, rfl, fun _ => rfl⟩
theorem d_Grouping_init_68 : decode kY_Grouping_init.2.1 68 = .ok (.aload_n 0, 1) := by decide +kernel
theorem d_Grouping_init_69 : decode kY_Grouping_init.2.1 69 = .ok (.bipush 9, 2) := by decide +kernel
theorem d_Grouping_init_71 : decode kY_Grouping_init.2.1 71 = .ok (.newarray .long, 2) := by decide +kernel
theorem d_Grouping_init_73 : decode kY_Grouping_init.2.1 73 = .ok (.putfield 37, 3) := by decide +kernel
theorem p_Grouping_37_7 : mj_fp "TrustDesk$Grouping" 37 7 12 (kt_Grouping 12) true := ⟨kR_Grouping, kF_Grouping, 14, "TrustDesk$Grouping", kt_Grouping, rfl, kg_7, by decide, (mj_in1 (List.mem_of_getElem? (i := 174) (by decide +kernel)) rfl), Or.inl rfl, kto_Grouping, kn_Grouping, rfl, rfl, fun _ => rfl⟩
theorem d_Grouping_init_76 : decode kY_Grouping_init.2.1 76 = .ok (.return_, 1) := by decide +kernel
theorem c_Grouping_init_0 {g : mj_G} {l : Launch} {d : Nat} {M : mj_M} (h_80 : M 80 = some (.inr (7, [.long 0, .int 0, .int 0, .int 0, .null, .null, .null, .null, .null, .null, .null, .null, .null, .long 0]))) : mj_Met g l kY_Grouping_init (d + 1) [.ref 80] M 81 9 73 (mj_E1 none (mj_up (mj_up (mj_up (mj_up (mj_up (mj_up (mj_up (mj_up (mj_up (mj_up (mj_up (mj_up (mj_up (mj_up (mj_up (mj_up (mj_up (mj_up M 81 (.inl (0, 8, .inl (fun _ => 0)))) 80 (.inr (7, [.long 0, .int 0, .int 0, .int 0, .ref 81, .null, .null, .null, .null, .null, .null, .null, .null, .long 0]))) 82 (.inl (1, 8, .inr (.inl (fun _ => 0))))) 80 (.inr (7, [.long 0, .int 0, .int 0, .int 0, .ref 81, .ref 82, .null, .null, .null, .null, .null, .null, .null, .long 0]))) 83 (.inl (0, 8, .inl (fun _ => 0)))) 80 (.inr (7, [.long 0, .int 0, .int 0, .int 0, .ref 81, .ref 82, .ref 83, .null, .null, .null, .null, .null, .null, .long 0]))) 84 (.inl (0, 8, .inl (fun _ => 0)))) 80 (.inr (7, [.long 0, .int 0, .int 0, .int 0, .ref 81, .ref 82, .ref 83, .ref 84, .null, .null, .null, .null, .null, .long 0]))) 85 (.inl (0, 8, .inl (fun _ => 0)))) 80 (.inr (7, [.long 0, .int 0, .int 0, .int 0, .ref 81, .ref 82, .ref 83, .ref 84, .ref 85, .null, .null, .null, .null, .long 0]))) 86 (.inl (0, 8, .inl (fun _ => 0)))) 80 (.inr (7, [.long 0, .int 0, .int 0, .int 0, .ref 81, .ref 82, .ref 83, .ref 84, .ref 85, .ref 86, .null, .null, .null, .long 0]))) 87 (.inl (0, 8, .inl (fun _ => 0)))) 80 (.inr (7, [.long 0, .int 0, .int 0, .int 0, .ref 81, .ref 82, .ref 83, .ref 84, .ref 85, .ref 86, .ref 87, .null, .null, .long 0]))) 88 (.inl (1, 8, .inr (.inl (fun _ => 0))))) 80 (.inr (7, [.long 0, .int 0, .int 0, .int 0, .ref 81, .ref 82, .ref 83, .ref 84, .ref 85, .ref 86, .ref 87, .ref 88, .null, .long 0]))) 89 (.inl (1, 9, .inr (.inl (fun _ => 0))))) 80 (.inr (7, [.long 0, .int 0, .int 0, .int 0, .ref 81, .ref 82, .ref 83, .ref 84, .ref 85, .ref 86, .ref 87, .ref 88, .ref 89, .long 0]))) 90) := by
  refine mj_enter (by decide) (Nat.le_of_ble_eq_true rfl) ?_
  refine mv_aload_n d_Grouping_init_0 rfl rfl ?_
  refine mv_oinit d_Grouping_init_1 (mj_in1 (List.mem_of_getElem? (i := 160) (by decide +kernel)) rfl) (by decide) ?_
  refine mv_aload_n d_Grouping_init_4 rfl rfl ?_
  refine mv_bipush (v := 8) d_Grouping_init_5 (by decide) ?_
  refine mv_newa_int (N := 8) (kc' := 8) (ks' := 65) d_Grouping_init_7 (by decide) (by decide) (Nat.le_of_ble_eq_true rfl) (Nat.le_of_ble_eq_true rfl) (Nat.le_of_ble_eq_true rfl) ?_
  refine mv_putF (fs' := [.long 0, .int 0, .int 0, .int 0, .ref 81, .null, .null, .null, .null, .null, .null, .null, .null, .long 0]) d_Grouping_init_9 p_Grouping_9_7 rfl ((mj_up_ne _ _ (Nat.ne_of_beq_eq_false rfl)).trans h_80) (by decide) rfl rfl rfl ?_
  refine mv_aload_n d_Grouping_init_12 rfl rfl ?_
  refine mv_bipush (v := 8) d_Grouping_init_13 (by decide) ?_
  refine mv_newa_long (N := 8) (kc' := 7) (ks' := 57) d_Grouping_init_15 (by decide) (by decide) (Nat.le_of_ble_eq_true rfl) (Nat.le_of_ble_eq_true rfl) (Nat.le_of_ble_eq_true rfl) ?_
  refine mv_putF (fs' := [.long 0, .int 0, .int 0, .int 0, .ref 81, .ref 82, .null, .null, .null, .null, .null, .null, .null, .long 0]) d_Grouping_init_17 p_Grouping_15_7 rfl ((mj_up_ne _ _ (Nat.ne_of_beq_eq_false rfl)).trans (mj_up_self _ _ _)) (by decide) rfl rfl rfl ?_
  refine mv_aload_n d_Grouping_init_20 rfl rfl ?_
  refine mv_bipush (v := 8) d_Grouping_init_21 (by decide) ?_
  refine mv_newa_int (N := 8) (kc' := 6) (ks' := 49) d_Grouping_init_23 (by decide) (by decide) (Nat.le_of_ble_eq_true rfl) (Nat.le_of_ble_eq_true rfl) (Nat.le_of_ble_eq_true rfl) ?_
  refine mv_putF (fs' := [.long 0, .int 0, .int 0, .int 0, .ref 81, .ref 82, .ref 83, .null, .null, .null, .null, .null, .null, .long 0]) d_Grouping_init_25 p_Grouping_19_7 rfl ((mj_up_ne _ _ (Nat.ne_of_beq_eq_false rfl)).trans (mj_up_self _ _ _)) (by decide) rfl rfl rfl ?_
  refine mv_aload_n d_Grouping_init_28 rfl rfl ?_
  refine mv_bipush (v := 8) d_Grouping_init_29 (by decide) ?_
  refine mv_newa_int (N := 8) (kc' := 5) (ks' := 41) d_Grouping_init_31 (by decide) (by decide) (Nat.le_of_ble_eq_true rfl) (Nat.le_of_ble_eq_true rfl) (Nat.le_of_ble_eq_true rfl) ?_
  refine mv_putF (fs' := [.long 0, .int 0, .int 0, .int 0, .ref 81, .ref 82, .ref 83, .ref 84, .null, .null, .null, .null, .null, .long 0]) d_Grouping_init_33 p_Grouping_22_7 rfl ((mj_up_ne _ _ (Nat.ne_of_beq_eq_false rfl)).trans (mj_up_self _ _ _)) (by decide) rfl rfl rfl ?_
  refine mv_aload_n d_Grouping_init_36 rfl rfl ?_
  refine mv_bipush (v := 8) d_Grouping_init_37 (by decide) ?_
  refine mv_newa_int (N := 8) (kc' := 4) (ks' := 33) d_Grouping_init_39 (by decide) (by decide) (Nat.le_of_ble_eq_true rfl) (Nat.le_of_ble_eq_true rfl) (Nat.le_of_ble_eq_true rfl) ?_
  refine mv_putF (fs' := [.long 0, .int 0, .int 0, .int 0, .ref 81, .ref 82, .ref 83, .ref 84, .ref 85, .null, .null, .null, .null, .long 0]) d_Grouping_init_41 p_Grouping_25_7 rfl ((mj_up_ne _ _ (Nat.ne_of_beq_eq_false rfl)).trans (mj_up_self _ _ _)) (by decide) rfl rfl rfl ?_
  refine mv_aload_n d_Grouping_init_44 rfl rfl ?_
  refine mv_bipush (v := 8) d_Grouping_init_45 (by decide) ?_
  refine mv_newa_int (N := 8) (kc' := 3) (ks' := 25) d_Grouping_init_47 (by decide) (by decide) (Nat.le_of_ble_eq_true rfl) (Nat.le_of_ble_eq_true rfl) (Nat.le_of_ble_eq_true rfl) ?_
  refine mv_putF (fs' := [.long 0, .int 0, .int 0, .int 0, .ref 81, .ref 82, .ref 83, .ref 84, .ref 85, .ref 86, .null, .null, .null, .long 0]) d_Grouping_init_49 p_Grouping_28_7 rfl ((mj_up_ne _ _ (Nat.ne_of_beq_eq_false rfl)).trans (mj_up_self _ _ _)) (by decide) rfl rfl rfl ?_
  refine mv_aload_n d_Grouping_init_52 rfl rfl ?_
  refine mv_bipush (v := 8) d_Grouping_init_53 (by decide) ?_
  refine mv_newa_int (N := 8) (kc' := 2) (ks' := 17) d_Grouping_init_55 (by decide) (by decide) (Nat.le_of_ble_eq_true rfl) (Nat.le_of_ble_eq_true rfl) (Nat.le_of_ble_eq_true rfl) ?_
  refine mv_putF (fs' := [.long 0, .int 0, .int 0, .int 0, .ref 81, .ref 82, .ref 83, .ref 84, .ref 85, .ref 86, .ref 87, .null, .null, .long 0]) d_Grouping_init_57 p_Grouping_31_7 rfl ((mj_up_ne _ _ (Nat.ne_of_beq_eq_false rfl)).trans (mj_up_self _ _ _)) (by decide) rfl rfl rfl ?_
  refine mv_aload_n d_Grouping_init_60 rfl rfl ?_
  refine mv_bipush (v := 8) d_Grouping_init_61 (by decide) ?_
  refine mv_newa_long (N := 8) (kc' := 1) (ks' := 9) d_Grouping_init_63 (by decide) (by decide) (Nat.le_of_ble_eq_true rfl) (Nat.le_of_ble_eq_true rfl) (Nat.le_of_ble_eq_true rfl) ?_
  refine mv_putF (fs' := [.long 0, .int 0, .int 0, .int 0, .ref 81, .ref 82, .ref 83, .ref 84, .ref 85, .ref 86, .ref 87, .ref 88, .null, .long 0]) d_Grouping_init_65 p_Grouping_34_7 rfl ((mj_up_ne _ _ (Nat.ne_of_beq_eq_false rfl)).trans (mj_up_self _ _ _)) (by decide) rfl rfl rfl ?_
  refine mv_aload_n d_Grouping_init_68 rfl rfl ?_
  refine mv_bipush (v := 9) d_Grouping_init_69 (by decide) ?_
  refine mv_newa_long (N := 9) (kc' := 0) (ks' := 0) d_Grouping_init_71 (by decide) (by decide) (Nat.le_of_ble_eq_true rfl) (Nat.le_of_ble_eq_true rfl) (Nat.le_of_ble_eq_true rfl) ?_
  refine mv_putF (fs' := [.long 0, .int 0, .int 0, .int 0, .ref 81, .ref 82, .ref 83, .ref 84, .ref 85, .ref 86, .ref 87, .ref 88, .ref 89, .long 0]) d_Grouping_init_73 p_Grouping_37_7 rfl ((mj_up_ne _ _ (Nat.ne_of_beq_eq_false rfl)).trans (mj_up_self _ _ _)) (by decide) rfl rfl rfl ?_
  exact mv_vret d_Grouping_init_76 rfl ⟨rfl, rfl, rfl⟩
theorem d_TrustDesk_init_45 : decode kY_TrustDesk_init.2.1 45 = .ok (.putfield 33, 3) := by decide +kernel
theorem p_TrustDesk_33_12 : mj_fp "TrustDesk" 33 12 3 (kt_TrustDesk 3) true := ⟨kR_TrustDesk, kF_TrustDesk, 13, "TrustDesk", kt_TrustDesk, rfl, kg_12, by decide, (mj_in1 (List.mem_of_getElem? (i := 270) (by decide +kernel)) rfl), Or.inl rfl, kto_TrustDesk, kn_TrustDesk, rfl, rfl, fun _ => rfl⟩
theorem d_TrustDesk_init_48 : decode kY_TrustDesk_init.2.1 48 = .ok (.aload_n 0, 1) := by decide +kernel
theorem d_TrustDesk_init_49 : decode kY_TrustDesk_init.2.1 49 = .ok (.new 37, 3) := by decide +kernel
theorem kg_1 : ∀ w ∈ u_ws kR_Act kF_Act 5, w ∈ mj_T := fun w h => mj_in1 (ki_Act w h) (List.all_eq_true.mp (show (u_ws kR_Act kF_Act 5).all mj_good = true by decide +kernel) w h)
theorem n_TrustDesk_37 : mj_nw "TrustDesk" 37 1 [.int 0, .int 0, .null, .null, .null] := ⟨kR_Act, kF_Act, 5, kt_Act, rfl, kg_1, kto_Act, (mj_in1 (List.mem_of_getElem? (i := 205) (by decide +kernel)) rfl), (mj_in1 (List.mem_of_getElem? (i := 206) (by decide +kernel)) rfl), (mj_in1 (List.mem_of_getElem? (i := 6) (by decide +kernel)) rfl), by decide +kernel, rfl, fun _ => rfl⟩
theorem d_TrustDesk_init_52 : decode kY_TrustDesk_init.2.1 52 = .ok (.dup, 1) := by decide +kernel
theorem d_TrustDesk_init_53 : decode kY_TrustDesk_init.2.1 53 = .ok (.iconst 0, 1) := by decide +kernel
theorem d_TrustDesk_init_54 : decode kY_TrustDesk_init.2.1 54 = .ok (.invokespecial 39, 3) := by decide +kernel
abbrev kY_Act_init : mj_Y := (⟨"TrustDesk$Act", "<init>", "(I)V"⟩, prog_2_method_1_code, 2, (Option.none : Option Jvm.ClassFile.FieldType))
theorem lI_TrustDesk_39 : mj_lI "TrustDesk" 39 kY_Act_init 1 := ⟨⟨(mj_in1 (List.mem_of_getElem? (i := 207) (by decide +kernel)) rfl), (mj_in1 (List.mem_of_getElem? (i := 6) (by decide +kernel)) rfl), (mj_in1 (List.mem_of_getElem? (i := 209) (by decide +kernel)) rfl), by decide, rfl, by decide⟩, rfl, (mj_in1 (List.mem_of_getElem? (i := 208) (by decide +kernel)) rfl), rfl⟩
theorem d_Act_init_0 : decode kY_Act_init.2.1 0 = .ok (.aload_n 0, 1) := by decide +kernel
theorem d_Act_init_1 : decode kY_Act_init.2.1 1 = .ok (.invokespecial 3, 3) := by decide +kernel
theorem d_Act_init_4 : decode kY_Act_init.2.1 4 = .ok (.aload_n 0, 1) := by decide +kernel
theorem d_Act_init_5 : decode kY_Act_init.2.1 5 = .ok (.new 9, 3) := by decide +kernel
theorem kg_0 : ∀ w ∈ u_ws kR_ArrayList kF_ArrayList 3, w ∈ mj_T := fun w h => mj_in1 (ki_ArrayList w h) (List.all_eq_true.mp (show (u_ws kR_ArrayList kF_ArrayList 3).all mj_good = true by decide +kernel) w h)
theorem n_Act_9 : mj_nw "TrustDesk$Act" 9 0 [.int 0, .null, .int 0] := ⟨kR_ArrayList, kF_ArrayList, 3, kt_ArrayList, rfl, kg_0, kto_ArrayList, (mj_in1 (List.mem_of_getElem? (i := 211) (by decide +kernel)) rfl), (mj_in1 (List.mem_of_getElem? (i := 212) (by decide +kernel)) rfl), (mj_in1 (List.mem_of_getElem? (i := 9) (by decide +kernel)) rfl), by decide +kernel, rfl, fun _ => rfl⟩
theorem d_Act_init_8 : decode kY_Act_init.2.1 8 = .ok (.dup, 1) := by decide +kernel
theorem d_Act_init_9 : decode kY_Act_init.2.1 9 = .ok (.invokespecial 11, 3) := by decide +kernel
abbrev kY_ArrayList_init : mj_Y := (⟨"java/util/ArrayList", "<init>", "()V"⟩, prog_33_method_2_code, 1, (Option.none : Option Jvm.ClassFile.FieldType))
theorem lI_Act_11 : mj_lI "TrustDesk$Act" 11 kY_ArrayList_init 0 := ⟨⟨(mj_in1 (List.mem_of_getElem? (i := 213) (by decide +kernel)) rfl), (mj_in1 (List.mem_of_getElem? (i := 9) (by decide +kernel)) rfl), (mj_in1 (List.mem_of_getElem? (i := 215) (by decide +kernel)) rfl), by decide, rfl, by decide⟩, rfl, (mj_in1 (List.mem_of_getElem? (i := 214) (by decide +kernel)) rfl), rfl⟩
theorem d_ArrayList_init_0 : decode kY_ArrayList_init.2.1 0 = .ok (.aload_n 0, 1) := by decide +kernel
theorem d_ArrayList_init_1 : decode kY_ArrayList_init.2.1 1 = .ok (.invokespecial 1, 3) := by decide +kernel
abbrev kY_AbstractList_init : mj_Y := (⟨"java/util/AbstractList", "<init>", "()V"⟩, prog_32_method_1_code, 1, (Option.none : Option Jvm.ClassFile.FieldType))
theorem lI_ArrayList_1 : mj_lI "java/util/ArrayList" 1 kY_AbstractList_init 0 := ⟨⟨(mj_in1 (List.mem_of_getElem? (i := 216) (by decide +kernel)) rfl), (mj_in1 (List.mem_of_getElem? (i := 8) (by decide +kernel)) rfl), (mj_in1 (List.mem_of_getElem? (i := 218) (by decide +kernel)) rfl), by decide, rfl, by decide⟩, rfl, (mj_in1 (List.mem_of_getElem? (i := 217) (by decide +kernel)) rfl), rfl⟩
theorem d_AbstractList_init_0 : decode kY_AbstractList_init.2.1 0 = .ok (.aload_n 0, 1) := by decide +kernel
theorem d_AbstractList_init_1 : decode kY_AbstractList_init.2.1 1 = .ok (.invokespecial 1, 3) := by decide +kernel
abbrev kY_AbstractCollection_init : mj_Y := (⟨"java/util/AbstractCollection", "<init>", "()V"⟩, prog_31_method_1_code, 1, (Option.none : Option Jvm.ClassFile.FieldType))
theorem lI_AbstractList_1 : mj_lI "java/util/AbstractList" 1 kY_AbstractCollection_init 0 := ⟨⟨(mj_in1 (List.mem_of_getElem? (i := 219) (by decide +kernel)) rfl), (mj_in1 (List.mem_of_getElem? (i := 7) (by decide +kernel)) rfl), (mj_in1 (List.mem_of_getElem? (i := 221) (by decide +kernel)) rfl), by decide, rfl, by decide⟩, rfl, (mj_in1 (List.mem_of_getElem? (i := 220) (by decide +kernel)) rfl), rfl⟩
theorem d_AbstractCollection_init_0 : decode kY_AbstractCollection_init.2.1 0 = .ok (.aload_n 0, 1) := by decide +kernel
theorem d_AbstractCollection_init_1 : decode kY_AbstractCollection_init.2.1 1 = .ok (.invokespecial 1, 3) := by decide +kernel
theorem d_AbstractCollection_init_4 : decode kY_AbstractCollection_init.2.1 4 = .ok (.return_, 1) := by decide +kernel
theorem c_AbstractCollection_init_0 {g : mj_G} {l : Launch} {d nx : Nat} {M : mj_M} : mj_Met g l kY_AbstractCollection_init (d + 1) [.ref 91] M nx 0 0 (mj_E1 none M nx) := by
  refine mj_enter (by decide) (Nat.le_of_ble_eq_true rfl) ?_
  refine mv_aload_n d_AbstractCollection_init_0 rfl rfl ?_
  refine mv_oinit d_AbstractCollection_init_1 (mj_in1 (List.mem_of_getElem? (i := 222) (by decide +kernel)) rfl) (by decide) ?_
  exact mv_vret d_AbstractCollection_init_4 rfl ⟨rfl, rfl, rfl⟩
theorem d_AbstractList_init_4 : decode kY_AbstractList_init.2.1 4 = .ok (.aload_n 0, 1) := by decide +kernel
theorem d_AbstractList_init_5 : decode kY_AbstractList_init.2.1 5 = .ok (.iconst 0, 1) := by decide +kernel
theorem d_AbstractList_init_6 : decode kY_AbstractList_init.2.1 6 = .ok (.putfield 7, 3) := by decide +kernel
theorem p_AbstractList_7_0 : mj_fp "java/util/AbstractList" 7 0 0 (kt_ArrayList 0) false := ⟨kR_ArrayList, kF_ArrayList, 3, "java/util/AbstractList", kt_ArrayList, rfl, kg_0, by decide, (mj_in1 (List.mem_of_getElem? (i := 227) (by decide +kernel)) rfl), Or.inl rfl, kto_ArrayList, kn_ArrayList, rfl, rfl, fun h => by cases h⟩
theorem d_AbstractList_init_9 : decode kY_AbstractList_init.2.1 9 = .ok (.return_, 1) := by decide +kernel
theorem c_AbstractList_init_0 {g : mj_G} {l : Launch} {d nx : Nat} {M : mj_M} (h_91 : M 91 = some (.inr (0, [.int 0, .null, .int 0]))) : mj_Met g l kY_AbstractList_init (d + 2) [.ref 91] M nx 0 0 (mj_E1 none (mj_up M 91 (.inr (0, [.int 0, .null, .int 0]))) nx) := by
  refine mj_enter (by decide) (Nat.le_of_ble_eq_true rfl) ?_
  refine mv_aload_n d_AbstractList_init_0 rfl rfl ?_
  refine mv_callI_n (kc' := 0) (ks' := 0) [] [.ref 91] d_AbstractList_init_1 lI_AbstractList_1 (c_AbstractCollection_init_0 (d := d)) rfl (by decide) (Nat.le_of_ble_eq_true rfl) (Nat.le_of_ble_eq_true rfl) rfl ?_
  refine mv_aload_n d_AbstractList_init_4 rfl rfl ?_
  refine mv_iconst (v := 0) d_AbstractList_init_5 (by decide) ?_
  refine mv_put (fs' := [.int 0, .null, .int 0]) d_AbstractList_init_6 p_AbstractList_7_0 h_91 (by decide) rfl rfl rfl ?_
  exact mv_vret d_AbstractList_init_9 rfl ⟨rfl, rfl, rfl⟩
theorem d_ArrayList_init_4 : decode kY_ArrayList_init.2.1 4 = .ok (.aload_n 0, 1) := by decide +kernel
theorem d_ArrayList_init_5 : decode kY_ArrayList_init.2.1 5 = .ok (.getstatic 39, 3) := by decide +kernel
theorem d_ArrayList_init_8 : decode kY_ArrayList_init.2.1 8 = .ok (.putfield 9, 3) := by decide +kernel
theorem p_ArrayList_9_0 : mj_fp "java/util/ArrayList" 9 0 1 (kt_ArrayList 1) false := ⟨kR_ArrayList, kF_ArrayList, 3, "java/util/ArrayList", kt_ArrayList, rfl, kg_0, by decide, (mj_in1 (List.mem_of_getElem? (i := 225) (by decide +kernel)) rfl), Or.inl rfl, kto_ArrayList, kn_ArrayList, rfl, rfl, fun h => by cases h⟩
theorem d_ArrayList_init_11 : decode kY_ArrayList_init.2.1 11 = .ok (.return_, 1) := by decide +kernel
theorem c_ArrayList_init_0 {g : mj_G} {l : Launch} {d nx : Nat} {M : mj_M} (h_91 : M 91 = some (.inr (0, [.int 0, .null, .int 0]))) : mj_Met g l kY_ArrayList_init (d + 3) [.ref 91] M nx 0 0 (mj_E1 none (mj_up (mj_up M 91 (.inr (0, [.int 0, .null, .int 0]))) 91 (.inr (0, [.int 0, .ref 0, .int 0]))) nx) := by
  refine mj_enter (by decide) (Nat.le_of_ble_eq_true rfl) ?_
  refine mv_aload_n d_ArrayList_init_0 rfl rfl ?_
  refine mv_callI_n (kc' := 0) (ks' := 0) [] [.ref 91] d_ArrayList_init_1 lI_ArrayList_1 (c_AbstractList_init_0 (d := d) (h_91 := h_91)) rfl (by decide) (Nat.le_of_ble_eq_true rfl) (Nat.le_of_ble_eq_true rfl) rfl ?_
  refine mv_aload_n d_ArrayList_init_4 rfl rfl ?_
  refine mv_getsD d_ArrayList_init_5 (mj_in1 (List.mem_of_getElem? (i := 223) (by decide +kernel)) rfl) ?_
  refine mv_put (fs' := [.int 0, .ref 0, .int 0]) d_ArrayList_init_8 p_ArrayList_9_0 (mj_up_self _ _ _) (by decide) rfl rfl rfl ?_
  exact mv_vret d_ArrayList_init_11 rfl ⟨rfl, rfl, rfl⟩
theorem d_Act_init_12 : decode kY_Act_init.2.1 12 = .ok (.putfield 12, 3) := by decide +kernel
theorem p_Act_12_1 : mj_fp "TrustDesk$Act" 12 1 2 (kt_Act 2) true := ⟨kR_Act, kF_Act, 5, "TrustDesk$Act", kt_Act, rfl, kg_1, by decide, (mj_in1 (List.mem_of_getElem? (i := 250) (by decide +kernel)) rfl), Or.inl rfl, kto_Act, kn_Act, rfl, rfl, fun _ => rfl⟩
theorem d_Act_init_15 : decode kY_Act_init.2.1 15 = .ok (.aload_n 0, 1) := by decide +kernel
theorem d_Act_init_16 : decode kY_Act_init.2.1 16 = .ok (.getstatic 18, 3) := by decide +kernel
theorem d_Act_init_19 : decode kY_Act_init.2.1 19 = .ok (.invokevirtual 22, 3) := by decide +kernel
theorem d_Act_init_22 : decode kY_Act_init.2.1 22 = .ok (.checkcast 23, 3) := by decide +kernel
theorem d_Act_init_25 : decode kY_Act_init.2.1 25 = .ok (.putfield 27, 3) := by decide +kernel
theorem p_Act_27_1 : mj_fp "TrustDesk$Act" 27 1 3 (kt_Act 3) true := ⟨kR_Act, kF_Act, 5, "TrustDesk$Act", kt_Act, rfl, kg_1, by decide, (mj_in1 (List.mem_of_getElem? (i := 252) (by decide +kernel)) rfl), Or.inl rfl, kto_Act, kn_Act, rfl, rfl, fun _ => rfl⟩
theorem d_Act_init_28 : decode kY_Act_init.2.1 28 = .ok (.aload_n 0, 1) := by decide +kernel
theorem d_Act_init_29 : decode kY_Act_init.2.1 29 = .ok (.bipush 20, 2) := by decide +kernel
theorem d_Act_init_31 : decode kY_Act_init.2.1 31 = .ok (.newarray .int, 2) := by decide +kernel
theorem d_Act_init_33 : decode kY_Act_init.2.1 33 = .ok (.putfield 30, 3) := by decide +kernel
theorem p_Act_30_1 : mj_fp "TrustDesk$Act" 30 1 4 (kt_Act 4) true := ⟨kR_Act, kF_Act, 5, "TrustDesk$Act", kt_Act, rfl, kg_1, by decide, (mj_in1 (List.mem_of_getElem? (i := 253) (by decide +kernel)) rfl), Or.inl rfl, kto_Act, kn_Act, rfl, rfl, fun _ => rfl⟩
theorem d_Act_init_36 : decode kY_Act_init.2.1 36 = .ok (.aload_n 0, 1) := by decide +kernel
theorem d_Act_init_37 : decode kY_Act_init.2.1 37 = .ok (.iload_n 1, 1) := by decide +kernel
theorem d_Act_init_38 : decode kY_Act_init.2.1 38 = .ok (.putfield 33, 3) := by decide +kernel
theorem p_Act_33_1 : mj_fp "TrustDesk$Act" 33 1 0 (kt_Act 0) true := ⟨kR_Act, kF_Act, 5, "TrustDesk$Act", kt_Act, rfl, kg_1, by decide, (mj_in1 (List.mem_of_getElem? (i := 246) (by decide +kernel)) rfl), Or.inl rfl, kto_Act, kn_Act, rfl, rfl, fun _ => rfl⟩
theorem d_Act_init_41 : decode kY_Act_init.2.1 41 = .ok (.return_, 1) := by decide +kernel
theorem c_Act_init_0 {g : mj_G} {l : Launch} {d : Nat} {M : mj_M} (h_90 : M 90 = some (.inr (1, [.int 0, .int 0, .null, .null, .null]))) : mj_Met g l kY_Act_init (d + 4) [.ref 90, .int 0] M 91 3 29 (mj_E1 none (mj_up (mj_up (mj_up (mj_up (mj_up (mj_up (mj_up (mj_up (mj_up M 91 (.inr (0, [.int 0, .null, .int 0]))) 91 (.inr (0, [.int 0, .null, .int 0]))) 91 (.inr (0, [.int 0, .ref 0, .int 0]))) 90 (.inr (1, [.int 0, .int 0, .ref 91, .null, .null]))) 92 (.inl (0, 6, .inl mj_rwf))) 90 (.inr (1, [.int 0, .int 0, .ref 91, .ref 92, .null]))) 93 (.inl (0, 20, .inl (fun _ => 0)))) 90 (.inr (1, [.int 0, .int 0, .ref 91, .ref 92, .ref 93]))) 90 (.inr (1, [.int 0, .int 0, .ref 91, .ref 92, .ref 93]))) 94) := by
  refine mj_enter (by decide) (Nat.le_of_ble_eq_true rfl) ?_
  refine mv_aload_n d_Act_init_0 rfl rfl ?_
  refine mv_oinit d_Act_init_1 (mj_in1 (List.mem_of_getElem? (i := 210) (by decide +kernel)) rfl) (by decide) ?_
  refine mv_aload_n d_Act_init_4 rfl rfl ?_
  refine mv_new (kc' := 2) (ks' := 26) d_Act_init_5 n_Act_9 (Nat.le_of_ble_eq_true rfl) (Nat.le_of_ble_eq_true rfl) ?_
  refine mv_dup d_Act_init_8 rfl ?_
  refine mv_callI_n (kc' := 2) (ks' := 26) [] [.ref 91, .ref 91, .ref 90] d_Act_init_9 lI_Act_11 (c_ArrayList_init_0 (d := d) (h_91 := (mj_up_self _ _ _))) rfl (by decide) (Nat.le_of_ble_eq_true rfl) (Nat.le_of_ble_eq_true rfl) rfl ?_
  refine mv_putF (fs' := [.int 0, .int 0, .ref 91, .null, .null]) d_Act_init_12 p_Act_12_1 rfl ((mj_up_ne _ _ (Nat.ne_of_beq_eq_false rfl)).trans ((mj_up_ne _ _ (Nat.ne_of_beq_eq_false rfl)).trans ((mj_up_ne _ _ (Nat.ne_of_beq_eq_false rfl)).trans h_90))) (by decide) rfl rfl rfl ?_
  refine mv_aload_n d_Act_init_15 rfl rfl ?_
  refine mv_gets1 d_Act_init_16 (mj_in1 (List.mem_of_getElem? (i := 237) (by decide +kernel)) rfl) ?_
  refine mv_cloneR (kc' := 1) (ks' := 20) d_Act_init_19 (mj_in1 (List.mem_of_getElem? (i := 239) (by decide +kernel)) rfl) (by decide) (Nat.le_of_ble_eq_true rfl) (Nat.le_of_ble_eq_true rfl) ?_
  refine mv_castA d_Act_init_22 (mj_in1 (List.mem_of_getElem? (i := 245) (by decide +kernel)) rfl) (mj_up_self _ _ _) ?_
  refine mv_putF (fs' := [.int 0, .int 0, .ref 91, .ref 92, .null]) d_Act_init_25 p_Act_27_1 rfl ((mj_up_ne _ _ (Nat.ne_of_beq_eq_false rfl)).trans (mj_up_self _ _ _)) (by decide) rfl rfl rfl ?_
  refine mv_aload_n d_Act_init_28 rfl rfl ?_
  refine mv_bipush (v := 20) d_Act_init_29 (by decide) ?_
  refine mv_newa_int (N := 20) (kc' := 0) (ks' := 0) d_Act_init_31 (by decide) (by decide) (Nat.le_of_ble_eq_true rfl) (Nat.le_of_ble_eq_true rfl) (Nat.le_of_ble_eq_true rfl) ?_
  refine mv_putF (fs' := [.int 0, .int 0, .ref 91, .ref 92, .ref 93]) d_Act_init_33 p_Act_30_1 rfl ((mj_up_ne _ _ (Nat.ne_of_beq_eq_false rfl)).trans (mj_up_self _ _ _)) (by decide) rfl rfl rfl ?_
  refine mv_aload_n d_Act_init_36 rfl rfl ?_
  refine mv_iload_n d_Act_init_37 rfl rfl ?_
  refine mv_putF (fs' := [.int 0, .int 0, .ref 91, .ref 92, .ref 93]) d_Act_init_38 p_Act_33_1 rfl (mj_up_self _ _ _) (by decide) rfl rfl rfl ?_
  exact mv_vret d_Act_init_41 rfl ⟨rfl, rfl, rfl⟩
theorem d_TrustDesk_init_57 : decode kY_TrustDesk_init.2.1 57 = .ok (.putfield 42, 3) := by decide +kernel
theorem p_TrustDesk_42_12 : mj_fp "TrustDesk" 42 12 4 (kt_TrustDesk 4) true := ⟨kR_TrustDesk, kF_TrustDesk, 13, "TrustDesk", kt_TrustDesk, rfl, kg_12, by decide, (mj_in1 (List.mem_of_getElem? (i := 271) (by decide +kernel)) rfl), Or.inl rfl, kto_TrustDesk, kn_TrustDesk, rfl, rfl, fun _ => rfl⟩
theorem d_TrustDesk_init_60 : decode kY_TrustDesk_init.2.1 60 = .ok (.aload_n 0, 1) := by decide +kernel
theorem d_TrustDesk_init_61 : decode kY_TrustDesk_init.2.1 61 = .ok (.new 46, 3) := by decide +kernel
theorem n_TrustDesk_46 : mj_nw "TrustDesk" 46 0 [.int 0, .null, .int 0] := ⟨kR_ArrayList, kF_ArrayList, 3, kt_ArrayList, rfl, kg_0, kto_ArrayList, (mj_in1 (List.mem_of_getElem? (i := 265) (by decide +kernel)) rfl), (mj_in1 (List.mem_of_getElem? (i := 212) (by decide +kernel)) rfl), (mj_in1 (List.mem_of_getElem? (i := 9) (by decide +kernel)) rfl), by decide +kernel, rfl, fun _ => rfl⟩
theorem d_TrustDesk_init_64 : decode kY_TrustDesk_init.2.1 64 = .ok (.dup, 1) := by decide +kernel
theorem d_TrustDesk_init_65 : decode kY_TrustDesk_init.2.1 65 = .ok (.invokespecial 48, 3) := by decide +kernel
theorem lI_TrustDesk_48 : mj_lI "TrustDesk" 48 kY_ArrayList_init 0 := ⟨⟨(mj_in1 (List.mem_of_getElem? (i := 266) (by decide +kernel)) rfl), (mj_in1 (List.mem_of_getElem? (i := 9) (by decide +kernel)) rfl), (mj_in1 (List.mem_of_getElem? (i := 215) (by decide +kernel)) rfl), by decide, rfl, by decide⟩, rfl, (mj_in1 (List.mem_of_getElem? (i := 214) (by decide +kernel)) rfl), rfl⟩
theorem c_AbstractCollection_init_1 {g : mj_G} {l : Launch} {d nx : Nat} {M : mj_M} : mj_Met g l kY_AbstractCollection_init (d + 1) [.ref 94] M nx 0 0 (mj_E1 none M nx) := by
  refine mj_enter (by decide) (Nat.le_of_ble_eq_true rfl) ?_
  refine mv_aload_n d_AbstractCollection_init_0 rfl rfl ?_
  refine mv_oinit d_AbstractCollection_init_1 (mj_in1 (List.mem_of_getElem? (i := 222) (by decide +kernel)) rfl) (by decide) ?_
  exact mv_vret d_AbstractCollection_init_4 rfl ⟨rfl, rfl, rfl⟩
theorem c_AbstractList_init_1 {g : mj_G} {l : Launch} {d nx : Nat} {M : mj_M} (h_94 : M 94 = some (.inr (0, [.int 0, .null, .int 0]))) : mj_Met g l kY_AbstractList_init (d + 2) [.ref 94] M nx 0 0 (mj_E1 none (mj_up M 94 (.inr (0, [.int 0, .null, .int 0]))) nx) := by
  refine mj_enter (by decide) (Nat.le_of_ble_eq_true rfl) ?_
  refine mv_aload_n d_AbstractList_init_0 rfl rfl ?_
  refine mv_callI_n (kc' := 0) (ks' := 0) [] [.ref 94] d_AbstractList_init_1 lI_AbstractList_1 (c_AbstractCollection_init_1 (d := d)) rfl (by decide) (Nat.le_of_ble_eq_true rfl) (Nat.le_of_ble_eq_true rfl) rfl ?_
  refine mv_aload_n d_AbstractList_init_4 rfl rfl ?_
  refine mv_iconst (v := 0) d_AbstractList_init_5 (by decide) ?_
  refine mv_put (fs' := [.int 0, .null, .int 0]) d_AbstractList_init_6 p_AbstractList_7_0 h_94 (by decide) rfl rfl rfl ?_
  exact mv_vret d_AbstractList_init_9 rfl ⟨rfl, rfl, rfl⟩
theorem c_ArrayList_init_1 {g : mj_G} {l : Launch} {d nx : Nat} {M : mj_M} (h_94 : M 94 = some (.inr (0, [.int 0, .null, .int 0]))) : mj_Met g l kY_ArrayList_init (d + 3) [.ref 94] M nx 0 0 (mj_E1 none (mj_up (mj_up M 94 (.inr (0, [.int 0, .null, .int 0]))) 94 (.inr (0, [.int 0, .ref 0, .int 0]))) nx) := by
  refine mj_enter (by decide) (Nat.le_of_ble_eq_true rfl) ?_
  refine mv_aload_n d_ArrayList_init_0 rfl rfl ?_
  refine mv_callI_n (kc' := 0) (ks' := 0) [] [.ref 94] d_ArrayList_init_1 lI_ArrayList_1 (c_AbstractList_init_1 (d := d) (h_94 := h_94)) rfl (by decide) (Nat.le_of_ble_eq_true rfl) (Nat.le_of_ble_eq_true rfl) rfl ?_
  refine mv_aload_n d_ArrayList_init_4 rfl rfl ?_
  refine mv_getsD d_ArrayList_init_5 (mj_in1 (List.mem_of_getElem? (i := 223) (by decide +kernel)) rfl) ?_
  refine mv_put (fs' := [.int 0, .ref 0, .int 0]) d_ArrayList_init_8 p_ArrayList_9_0 (mj_up_self _ _ _) (by decide) rfl rfl rfl ?_
  exact mv_vret d_ArrayList_init_11 rfl ⟨rfl, rfl, rfl⟩
theorem d_TrustDesk_init_68 : decode kY_TrustDesk_init.2.1 68 = .ok (.putfield 49, 3) := by decide +kernel
theorem p_TrustDesk_49_12 : mj_fp "TrustDesk" 49 12 5 (kt_TrustDesk 5) true := ⟨kR_TrustDesk, kF_TrustDesk, 13, "TrustDesk", kt_TrustDesk, rfl, kg_12, by decide, (mj_in1 (List.mem_of_getElem? (i := 272) (by decide +kernel)) rfl), Or.inl rfl, kto_TrustDesk, kn_TrustDesk, rfl, rfl, fun _ => rfl⟩
theorem d_TrustDesk_init_71 : decode kY_TrustDesk_init.2.1 71 = .ok (.aload_n 0, 1) := by decide +kernel
theorem d_TrustDesk_init_72 : decode kY_TrustDesk_init.2.1 72 = .ok (.new 46, 3) := by decide +kernel
theorem d_TrustDesk_init_75 : decode kY_TrustDesk_init.2.1 75 = .ok (.dup, 1) := by decide +kernel
theorem d_TrustDesk_init_76 : decode kY_TrustDesk_init.2.1 76 = .ok (.invokespecial 48, 3) := by decide +kernel
theorem c_AbstractCollection_init_2 {g : mj_G} {l : Launch} {d nx : Nat} {M : mj_M} : mj_Met g l kY_AbstractCollection_init (d + 1) [.ref 95] M nx 0 0 (mj_E1 none M nx) := by
  refine mj_enter (by decide) (Nat.le_of_ble_eq_true rfl) ?_
  refine mv_aload_n d_AbstractCollection_init_0 rfl rfl ?_
  refine mv_oinit d_AbstractCollection_init_1 (mj_in1 (List.mem_of_getElem? (i := 222) (by decide +kernel)) rfl) (by decide) ?_
  exact mv_vret d_AbstractCollection_init_4 rfl ⟨rfl, rfl, rfl⟩
theorem c_AbstractList_init_2 {g : mj_G} {l : Launch} {d nx : Nat} {M : mj_M} (h_95 : M 95 = some (.inr (0, [.int 0, .null, .int 0]))) : mj_Met g l kY_AbstractList_init (d + 2) [.ref 95] M nx 0 0 (mj_E1 none (mj_up M 95 (.inr (0, [.int 0, .null, .int 0]))) nx) := by
  refine mj_enter (by decide) (Nat.le_of_ble_eq_true rfl) ?_
  refine mv_aload_n d_AbstractList_init_0 rfl rfl ?_
  refine mv_callI_n (kc' := 0) (ks' := 0) [] [.ref 95] d_AbstractList_init_1 lI_AbstractList_1 (c_AbstractCollection_init_2 (d := d)) rfl (by decide) (Nat.le_of_ble_eq_true rfl) (Nat.le_of_ble_eq_true rfl) rfl ?_
  refine mv_aload_n d_AbstractList_init_4 rfl rfl ?_
  refine mv_iconst (v := 0) d_AbstractList_init_5 (by decide) ?_
  refine mv_put (fs' := [.int 0, .null, .int 0]) d_AbstractList_init_6 p_AbstractList_7_0 h_95 (by decide) rfl rfl rfl ?_
  exact mv_vret d_AbstractList_init_9 rfl ⟨rfl, rfl, rfl⟩
theorem c_ArrayList_init_2 {g : mj_G} {l : Launch} {d nx : Nat} {M : mj_M} (h_95 : M 95 = some (.inr (0, [.int 0, .null, .int 0]))) : mj_Met g l kY_ArrayList_init (d + 3) [.ref 95] M nx 0 0 (mj_E1 none (mj_up (mj_up M 95 (.inr (0, [.int 0, .null, .int 0]))) 95 (.inr (0, [.int 0, .ref 0, .int 0]))) nx) := by
  refine mj_enter (by decide) (Nat.le_of_ble_eq_true rfl) ?_
  refine mv_aload_n d_ArrayList_init_0 rfl rfl ?_
  refine mv_callI_n (kc' := 0) (ks' := 0) [] [.ref 95] d_ArrayList_init_1 lI_ArrayList_1 (c_AbstractList_init_2 (d := d) (h_95 := h_95)) rfl (by decide) (Nat.le_of_ble_eq_true rfl) (Nat.le_of_ble_eq_true rfl) rfl ?_
  refine mv_aload_n d_ArrayList_init_4 rfl rfl ?_
  refine mv_getsD d_ArrayList_init_5 (mj_in1 (List.mem_of_getElem? (i := 223) (by decide +kernel)) rfl) ?_
  refine mv_put (fs' := [.int 0, .ref 0, .int 0]) d_ArrayList_init_8 p_ArrayList_9_0 (mj_up_self _ _ _) (by decide) rfl rfl rfl ?_
  exact mv_vret d_ArrayList_init_11 rfl ⟨rfl, rfl, rfl⟩
theorem d_TrustDesk_init_79 : decode kY_TrustDesk_init.2.1 79 = .ok (.putfield 53, 3) := by decide +kernel
theorem p_TrustDesk_53_12 : mj_fp "TrustDesk" 53 12 6 (kt_TrustDesk 6) true := ⟨kR_TrustDesk, kF_TrustDesk, 13, "TrustDesk", kt_TrustDesk, rfl, kg_12, by decide, (mj_in1 (List.mem_of_getElem? (i := 273) (by decide +kernel)) rfl), Or.inl rfl, kto_TrustDesk, kn_TrustDesk, rfl, rfl, fun _ => rfl⟩
theorem d_TrustDesk_init_82 : decode kY_TrustDesk_init.2.1 82 = .ok (.aload_n 0, 1) := by decide +kernel
theorem d_TrustDesk_init_83 : decode kY_TrustDesk_init.2.1 83 = .ok (.new 46, 3) := by decide +kernel
theorem d_TrustDesk_init_86 : decode kY_TrustDesk_init.2.1 86 = .ok (.dup, 1) := by decide +kernel
theorem d_TrustDesk_init_87 : decode kY_TrustDesk_init.2.1 87 = .ok (.invokespecial 48, 3) := by decide +kernel
theorem c_AbstractCollection_init_3 {g : mj_G} {l : Launch} {d nx : Nat} {M : mj_M} : mj_Met g l kY_AbstractCollection_init (d + 1) [.ref 96] M nx 0 0 (mj_E1 none M nx) := by
  refine mj_enter (by decide) (Nat.le_of_ble_eq_true rfl) ?_
  refine mv_aload_n d_AbstractCollection_init_0 rfl rfl ?_
  refine mv_oinit d_AbstractCollection_init_1 (mj_in1 (List.mem_of_getElem? (i := 222) (by decide +kernel)) rfl) (by decide) ?_
  exact mv_vret d_AbstractCollection_init_4 rfl ⟨rfl, rfl, rfl⟩
theorem c_AbstractList_init_3 {g : mj_G} {l : Launch} {d nx : Nat} {M : mj_M} (h_96 : M 96 = some (.inr (0, [.int 0, .null, .int 0]))) : mj_Met g l kY_AbstractList_init (d + 2) [.ref 96] M nx 0 0 (mj_E1 none (mj_up M 96 (.inr (0, [.int 0, .null, .int 0]))) nx) := by
  refine mj_enter (by decide) (Nat.le_of_ble_eq_true rfl) ?_
  refine mv_aload_n d_AbstractList_init_0 rfl rfl ?_
  refine mv_callI_n (kc' := 0) (ks' := 0) [] [.ref 96] d_AbstractList_init_1 lI_AbstractList_1 (c_AbstractCollection_init_3 (d := d)) rfl (by decide) (Nat.le_of_ble_eq_true rfl) (Nat.le_of_ble_eq_true rfl) rfl ?_
  refine mv_aload_n d_AbstractList_init_4 rfl rfl ?_
  refine mv_iconst (v := 0) d_AbstractList_init_5 (by decide) ?_
  refine mv_put (fs' := [.int 0, .null, .int 0]) d_AbstractList_init_6 p_AbstractList_7_0 h_96 (by decide) rfl rfl rfl ?_
  exact mv_vret d_AbstractList_init_9 rfl ⟨rfl, rfl, rfl⟩
theorem c_ArrayList_init_3 {g : mj_G} {l : Launch} {d nx : Nat} {M : mj_M} (h_96 : M 96 = some (.inr (0, [.int 0, .null, .int 0]))) : mj_Met g l kY_ArrayList_init (d + 3) [.ref 96] M nx 0 0 (mj_E1 none (mj_up (mj_up M 96 (.inr (0, [.int 0, .null, .int 0]))) 96 (.inr (0, [.int 0, .ref 0, .int 0]))) nx) := by
  refine mj_enter (by decide) (Nat.le_of_ble_eq_true rfl) ?_
  refine mv_aload_n d_ArrayList_init_0 rfl rfl ?_
  refine mv_callI_n (kc' := 0) (ks' := 0) [] [.ref 96] d_ArrayList_init_1 lI_ArrayList_1 (c_AbstractList_init_3 (d := d) (h_96 := h_96)) rfl (by decide) (Nat.le_of_ble_eq_true rfl) (Nat.le_of_ble_eq_true rfl) rfl ?_
  refine mv_aload_n d_ArrayList_init_4 rfl rfl ?_
  refine mv_getsD d_ArrayList_init_5 (mj_in1 (List.mem_of_getElem? (i := 223) (by decide +kernel)) rfl) ?_
  refine mv_put (fs' := [.int 0, .ref 0, .int 0]) d_ArrayList_init_8 p_ArrayList_9_0 (mj_up_self _ _ _) (by decide) rfl rfl rfl ?_
  exact mv_vret d_ArrayList_init_11 rfl ⟨rfl, rfl, rfl⟩
theorem d_TrustDesk_init_90 : decode kY_TrustDesk_init.2.1 90 = .ok (.putfield 56, 3) := by decide +kernel
theorem p_TrustDesk_56_12 : mj_fp "TrustDesk" 56 12 7 (kt_TrustDesk 7) true := ⟨kR_TrustDesk, kF_TrustDesk, 13, "TrustDesk", kt_TrustDesk, rfl, kg_12, by decide, (mj_in1 (List.mem_of_getElem? (i := 274) (by decide +kernel)) rfl), Or.inl rfl, kto_TrustDesk, kn_TrustDesk, rfl, rfl, fun _ => rfl⟩
theorem d_TrustDesk_init_93 : decode kY_TrustDesk_init.2.1 93 = .ok (.aload_n 0, 1) := by decide +kernel
theorem d_TrustDesk_init_94 : decode kY_TrustDesk_init.2.1 94 = .ok (.new 46, 3) := by decide +kernel
theorem d_TrustDesk_init_97 : decode kY_TrustDesk_init.2.1 97 = .ok (.dup, 1) := by decide +kernel
theorem d_TrustDesk_init_98 : decode kY_TrustDesk_init.2.1 98 = .ok (.invokespecial 48, 3) := by decide +kernel
theorem c_AbstractCollection_init_4 {g : mj_G} {l : Launch} {d nx : Nat} {M : mj_M} : mj_Met g l kY_AbstractCollection_init (d + 1) [.ref 97] M nx 0 0 (mj_E1 none M nx) := by
  refine mj_enter (by decide) (Nat.le_of_ble_eq_true rfl) ?_
  refine mv_aload_n d_AbstractCollection_init_0 rfl rfl ?_
  refine mv_oinit d_AbstractCollection_init_1 (mj_in1 (List.mem_of_getElem? (i := 222) (by decide +kernel)) rfl) (by decide) ?_
  exact mv_vret d_AbstractCollection_init_4 rfl ⟨rfl, rfl, rfl⟩
theorem c_AbstractList_init_4 {g : mj_G} {l : Launch} {d nx : Nat} {M : mj_M} (h_97 : M 97 = some (.inr (0, [.int 0, .null, .int 0]))) : mj_Met g l kY_AbstractList_init (d + 2) [.ref 97] M nx 0 0 (mj_E1 none (mj_up M 97 (.inr (0, [.int 0, .null, .int 0]))) nx) := by
  refine mj_enter (by decide) (Nat.le_of_ble_eq_true rfl) ?_
  refine mv_aload_n d_AbstractList_init_0 rfl rfl ?_
  refine mv_callI_n (kc' := 0) (ks' := 0) [] [.ref 97] d_AbstractList_init_1 lI_AbstractList_1 (c_AbstractCollection_init_4 (d := d)) rfl (by decide) (Nat.le_of_ble_eq_true rfl) (Nat.le_of_ble_eq_true rfl) rfl ?_
  refine mv_aload_n d_AbstractList_init_4 rfl rfl ?_
  refine mv_iconst (v := 0) d_AbstractList_init_5 (by decide) ?_
  refine mv_put (fs' := [.int 0, .null, .int 0]) d_AbstractList_init_6 p_AbstractList_7_0 h_97 (by decide) rfl rfl rfl ?_
  exact mv_vret d_AbstractList_init_9 rfl ⟨rfl, rfl, rfl⟩
theorem c_ArrayList_init_4 {g : mj_G} {l : Launch} {d nx : Nat} {M : mj_M} (h_97 : M 97 = some (.inr (0, [.int 0, .null, .int 0]))) : mj_Met g l kY_ArrayList_init (d + 3) [.ref 97] M nx 0 0 (mj_E1 none (mj_up (mj_up M 97 (.inr (0, [.int 0, .null, .int 0]))) 97 (.inr (0, [.int 0, .ref 0, .int 0]))) nx) := by
  refine mj_enter (by decide) (Nat.le_of_ble_eq_true rfl) ?_
  refine mv_aload_n d_ArrayList_init_0 rfl rfl ?_
  refine mv_callI_n (kc' := 0) (ks' := 0) [] [.ref 97] d_ArrayList_init_1 lI_ArrayList_1 (c_AbstractList_init_4 (d := d) (h_97 := h_97)) rfl (by decide) (Nat.le_of_ble_eq_true rfl) (Nat.le_of_ble_eq_true rfl) rfl ?_
  refine mv_aload_n d_ArrayList_init_4 rfl rfl ?_
  refine mv_getsD d_ArrayList_init_5 (mj_in1 (List.mem_of_getElem? (i := 223) (by decide +kernel)) rfl) ?_
  refine mv_put (fs' := [.int 0, .ref 0, .int 0]) d_ArrayList_init_8 p_ArrayList_9_0 (mj_up_self _ _ _) (by decide) rfl rfl rfl ?_
  exact mv_vret d_ArrayList_init_11 rfl ⟨rfl, rfl, rfl⟩
theorem d_TrustDesk_init_101 : decode kY_TrustDesk_init.2.1 101 = .ok (.putfield 59, 3) := by decide +kernel
theorem p_TrustDesk_59_12 : mj_fp "TrustDesk" 59 12 8 (kt_TrustDesk 8) true := ⟨kR_TrustDesk, kF_TrustDesk, 13, "TrustDesk", kt_TrustDesk, rfl, kg_12, by decide, (mj_in1 (List.mem_of_getElem? (i := 275) (by decide +kernel)) rfl), Or.inl rfl, kto_TrustDesk, kn_TrustDesk, rfl, rfl, fun _ => rfl⟩
theorem d_TrustDesk_init_104 : decode kY_TrustDesk_init.2.1 104 = .ok (.aload_n 0, 1) := by decide +kernel
theorem d_TrustDesk_init_105 : decode kY_TrustDesk_init.2.1 105 = .ok (.sipush 2400, 3) := by decide +kernel
theorem d_TrustDesk_init_108 : decode kY_TrustDesk_init.2.1 108 = .ok (.newarray .int, 2) := by decide +kernel
theorem d_TrustDesk_init_110 : decode kY_TrustDesk_init.2.1 110 = .ok (.putfield 62, 3) := by decide +kernel
theorem p_TrustDesk_62_12 : mj_fp "TrustDesk" 62 12 9 (kt_TrustDesk 9) true := ⟨kR_TrustDesk, kF_TrustDesk, 13, "TrustDesk", kt_TrustDesk, rfl, kg_12, by decide, (mj_in1 (List.mem_of_getElem? (i := 276) (by decide +kernel)) rfl), Or.inl rfl, kto_TrustDesk, kn_TrustDesk, rfl, rfl, fun _ => rfl⟩
theorem d_TrustDesk_init_113 : decode kY_TrustDesk_init.2.1 113 = .ok (.return_, 1) := by decide +kernel
theorem c_TrustDesk_init_0 {g : mj_G} {l : Launch} {d : Nat} {M : mj_M} (h_64 : M 64 = some (.inr (12, [.null, .null, .null, .null, .null, .null, .null, .null, .null, .null, .int 0, .int 0, .int 0]))) : mj_Met g l kY_TrustDesk_init (d + 5) [.ref 64] M 65 34 6239 (mj_E1 none (mj_up (mj_up (mj_up (mj_up (mj_up (mj_up (mj_up (mj_up (mj_up (mj_up (mj_up (mj_up (mj_up (mj_up (mj_up (mj_up (mj_up (mj_up (mj_up (mj_up (mj_up (mj_up (mj_up (mj_up (mj_up (mj_up (mj_up (mj_up (mj_up (mj_up (mj_up (mj_up (mj_up (mj_up (mj_up (mj_up (mj_up (mj_up (mj_up (mj_up (mj_up (mj_up (mj_up (mj_up (mj_up (mj_up (mj_up (mj_up (mj_up (mj_up (mj_up (mj_up (mj_up (mj_up (mj_up (mj_up (mj_up (mj_up (mj_up (mj_up (mj_up (mj_up (mj_up (mj_up (mj_up (mj_up (mj_up (mj_up (mj_up (mj_up (mj_up (mj_up (mj_up (mj_up (mj_up (mj_up (mj_up (mj_up (mj_up (mj_up (mj_up M 65 (.inr (5, [.null, .null, .null, .null, .int 0]))) 66 (.inl (0, 300, .inl (fun _ => 0)))) 65 (.inr (5, [.ref 66, .null, .null, .null, .int 0]))) 67 (.inl (0, 300, .inl (fun _ => 0)))) 65 (.inr (5, [.ref 66, .ref 67, .null, .null, .int 0]))) 68 (.inl (0, 300, .inl (fun _ => 0)))) 65 (.inr (5, [.ref 66, .ref 67, .ref 68, .null, .int 0]))) 69 (.inl (0, 300, .inl (fun _ => 0)))) 65 (.inr (5, [.ref 66, .ref 67, .ref 68, .ref 69, .int 0]))) 64 (.inr (12, [.ref 65, .null, .null, .null, .null, .null, .null, .null, .null, .null, .int 0, .int 0, .int 0]))) 70 (.inr (9, [.int 0, .int 0, .int 0, .null, .null, .null, .null, .null, .int 0, .int 0, .int 0, .int 0, .int 0, .int 0, .int 0, .int 0, .int 0, .null, .int 0]))) 70 (.inr (9, [.int 0, .int 0, .int (-1), .null, .null, .null, .null, .null, .int 0, .int 0, .int 0, .int 0, .int 0, .int 0, .int 0, .int 0, .int 0, .null, .int 0]))) 71 (.inl (0, 400, .inl (fun _ => 0)))) 70 (.inr (9, [.int 0, .int 0, .int (-1), .ref 71, .null, .null, .null, .null, .int 0, .int 0, .int 0, .int 0, .int 0, .int 0, .int 0, .int 0, .int 0, .null, .int 0]))) 72 (.inl (0, 400, .inl (fun _ => 0)))) 70 (.inr (9, [.int 0, .int 0, .int (-1), .ref 71, .ref 72, .null, .null, .null, .int 0, .int 0, .int 0, .int 0, .int 0, .int 0, .int 0, .int 0, .int 0, .null, .int 0]))) 73 (.inl (0, 400, .inl (fun _ => 0)))) 70 (.inr (9, [.int 0, .int 0, .int (-1), .ref 71, .ref 72, .ref 73, .null, .null, .int 0, .int 0, .int 0, .int 0, .int 0, .int 0, .int 0, .int 0, .int 0, .null, .int 0]))) 74 (.inl (0, 400, .inl (fun _ => 0)))) 70 (.inr (9, [.int 0, .int 0, .int (-1), .ref 71, .ref 72, .ref 73, .ref 74, .null, .int 0, .int 0, .int 0, .int 0, .int 0, .int 0, .int 0, .int 0, .int 0, .null, .int 0]))) 75 (.inl (0, 400, .inl (fun _ => 0)))) 70 (.inr (9, [.int 0, .int 0, .int (-1), .ref 71, .ref 72, .ref 73, .ref 74, .ref 75, .int 0, .int 0, .int 0, .int 0, .int 0, .int 0, .int 0, .int 0, .int 0, .null, .int 0]))) 76 (.inl (0, 400, .inl (fun _ => 0)))) 70 (.inr (9, [.int 0, .int 0, .int (-1), .ref 71, .ref 72, .ref 73, .ref 74, .ref 75, .int 0, .int 0, .int 0, .int 0, .int 0, .int 0, .int 0, .int 0, .int 0, .ref 76, .int 0]))) 64 (.inr (12, [.ref 65, .ref 70, .null, .null, .null, .null, .null, .null, .null, .null, .int 0, .int 0, .int 0]))) 77 (.inr (10, [.null, .int 0, .null, .int 0, .int 0]))) 78 (.inl (1, 13, .inr (.inl (fun _ => 0))))) 77 (.inr (10, [.ref 78, .int 0, .null, .int 0, .int 0]))) 77 (.inr (10, [.ref 78, .int (-1), .null, .int 0, .int 0]))) 79 (.inl (1, 64, .inr (.inl (fun _ => 0))))) 77 (.inr (10, [.ref 78, .int (-1), .ref 79, .int 0, .int 0]))) 64 (.inr (12, [.ref 65, .ref 70, .ref 77, .null, .null, .null, .null, .null, .null, .null, .int 0, .int 0, .int 0]))) 80 (.inr (7, [.long 0, .int 0, .int 0, .int 0, .null, .null, .null, .null, .null, .null, .null, .null, .null, .long 0]))) 81 (.inl (0, 8, .inl (fun _ => 0)))) 80 (.inr (7, [.long 0, .int 0, .int 0, .int 0, .ref 81, .null, .null, .null, .null, .null, .null, .null, .null, .long 0]))) 82 (.inl (1, 8, .inr (.inl (fun _ => 0))))) 80 (.inr (7, [.long 0, .int 0, .int 0, .int 0, .ref 81, .ref 82, .null, .null, .null, .null, .null, .null, .null, .long 0]))) 83 (.inl (0, 8, .inl (fun _ => 0)))) 80 (.inr (7, [.long 0, .int 0, .int 0, .int 0, .ref 81, .ref 82, .ref 83, .null, .null, .null, .null, .null, .null, .long 0]))) 84 (.inl (0, 8, .inl (fun _ => 0)))) 80 (.inr (7, [.long 0, .int 0, .int 0, .int 0, .ref 81, .ref 82, .ref 83, .ref 84, .null, .null, .null, .null, .null, .long 0]))) 85 (.inl (0, 8, .inl (fun _ => 0)))) 80 (.inr (7, [.long 0, .int 0, .int 0, .int 0, .ref 81, .ref 82, .ref 83, .ref 84, .ref 85, .null, .null, .null, .null, .long 0]))) 86 (.inl (0, 8, .inl (fun _ => 0)))) 80 (.inr (7, [.long 0, .int 0, .int 0, .int 0, .ref 81, .ref 82, .ref 83, .ref 84, .ref 85, .ref 86, .null, .null, .null, .long 0]))) 87 (.inl (0, 8, .inl (fun _ => 0)))) 80 (.inr (7, [.long 0, .int 0, .int 0, .int 0, .ref 81, .ref 82, .ref 83, .ref 84, .ref 85, .ref 86, .ref 87, .null, .null, .long 0]))) 88 (.inl (1, 8, .inr (.inl (fun _ => 0))))) 80 (.inr (7, [.long 0, .int 0, .int 0, .int 0, .ref 81, .ref 82, .ref 83, .ref 84, .ref 85, .ref 86, .ref 87, .ref 88, .null, .long 0]))) 89 (.inl (1, 9, .inr (.inl (fun _ => 0))))) 80 (.inr (7, [.long 0, .int 0, .int 0, .int 0, .ref 81, .ref 82, .ref 83, .ref 84, .ref 85, .ref 86, .ref 87, .ref 88, .ref 89, .long 0]))) 64 (.inr (12, [.ref 65, .ref 70, .ref 77, .ref 80, .null, .null, .null, .null, .null, .null, .int 0, .int 0, .int 0]))) 90 (.inr (1, [.int 0, .int 0, .null, .null, .null]))) 91 (.inr (0, [.int 0, .null, .int 0]))) 91 (.inr (0, [.int 0, .null, .int 0]))) 91 (.inr (0, [.int 0, .ref 0, .int 0]))) 90 (.inr (1, [.int 0, .int 0, .ref 91, .null, .null]))) 92 (.inl (0, 6, .inl mj_rwf))) 90 (.inr (1, [.int 0, .int 0, .ref 91, .ref 92, .null]))) 93 (.inl (0, 20, .inl (fun _ => 0)))) 90 (.inr (1, [.int 0, .int 0, .ref 91, .ref 92, .ref 93]))) 90 (.inr (1, [.int 0, .int 0, .ref 91, .ref 92, .ref 93]))) 64 (.inr (12, [.ref 65, .ref 70, .ref 77, .ref 80, .ref 90, .null, .null, .null, .null, .null, .int 0, .int 0, .int 0]))) 94 (.inr (0, [.int 0, .null, .int 0]))) 94 (.inr (0, [.int 0, .null, .int 0]))) 94 (.inr (0, [.int 0, .ref 0, .int 0]))) 64 (.inr (12, [.ref 65, .ref 70, .ref 77, .ref 80, .ref 90, .ref 94, .null, .null, .null, .null, .int 0, .int 0, .int 0]))) 95 (.inr (0, [.int 0, .null, .int 0]))) 95 (.inr (0, [.int 0, .null, .int 0]))) 95 (.inr (0, [.int 0, .ref 0, .int 0]))) 64 (.inr (12, [.ref 65, .ref 70, .ref 77, .ref 80, .ref 90, .ref 94, .ref 95, .null, .null, .null, .int 0, .int 0, .int 0]))) 96 (.inr (0, [.int 0, .null, .int 0]))) 96 (.inr (0, [.int 0, .null, .int 0]))) 96 (.inr (0, [.int 0, .ref 0, .int 0]))) 64 (.inr (12, [.ref 65, .ref 70, .ref 77, .ref 80, .ref 90, .ref 94, .ref 95, .ref 96, .null, .null, .int 0, .int 0, .int 0]))) 97 (.inr (0, [.int 0, .null, .int 0]))) 97 (.inr (0, [.int 0, .null, .int 0]))) 97 (.inr (0, [.int 0, .ref 0, .int 0]))) 64 (.inr (12, [.ref 65, .ref 70, .ref 77, .ref 80, .ref 90, .ref 94, .ref 95, .ref 96, .ref 97, .null, .int 0, .int 0, .int 0]))) 98 (.inl (0, 2400, .inl (fun _ => 0)))) 64 (.inr (12, [.ref 65, .ref 70, .ref 77, .ref 80, .ref 90, .ref 94, .ref 95, .ref 96, .ref 97, .ref 98, .int 0, .int 0, .int 0]))) 99) := by
  refine mj_enter (by decide) (Nat.le_of_ble_eq_true rfl) ?_
  refine mv_aload_n d_TrustDesk_init_0 rfl rfl ?_
  refine mv_oinit d_TrustDesk_init_1 (mj_in1 (List.mem_of_getElem? (i := 36) (by decide +kernel)) rfl) (by decide) ?_
  refine mv_aload_n d_TrustDesk_init_4 rfl rfl ?_
  refine mv_new (kc' := 33) (ks' := 6234) d_TrustDesk_init_5 n_TrustDesk_7 (Nat.le_of_ble_eq_true rfl) (Nat.le_of_ble_eq_true rfl) ?_
  refine mv_dup d_TrustDesk_init_8 rfl ?_
  refine mv_callI_n (kc' := 29) (ks' := 5034) [] [.ref 65, .ref 65, .ref 64] d_TrustDesk_init_9 lI_TrustDesk_9 (c_Facts_init_0 (d := (d + 3)) (h_65 := (mj_up_self _ _ _))) rfl (by decide) (Nat.le_of_ble_eq_true rfl) (Nat.le_of_ble_eq_true rfl) rfl ?_
  refine mv_putF (fs' := [.ref 65, .null, .null, .null, .null, .null, .null, .null, .null, .null, .int 0, .int 0, .int 0]) d_TrustDesk_init_12 p_TrustDesk_10_12 rfl ((mj_up_ne _ _ (Nat.ne_of_beq_eq_false rfl)).trans ((mj_up_ne _ _ (Nat.ne_of_beq_eq_false rfl)).trans ((mj_up_ne _ _ (Nat.ne_of_beq_eq_false rfl)).trans ((mj_up_ne _ _ (Nat.ne_of_beq_eq_false rfl)).trans ((mj_up_ne _ _ (Nat.ne_of_beq_eq_false rfl)).trans ((mj_up_ne _ _ (Nat.ne_of_beq_eq_false rfl)).trans ((mj_up_ne _ _ (Nat.ne_of_beq_eq_false rfl)).trans ((mj_up_ne _ _ (Nat.ne_of_beq_eq_false rfl)).trans ((mj_up_ne _ _ (Nat.ne_of_beq_eq_false rfl)).trans h_64))))))))) (by decide) rfl rfl rfl ?_
  refine mv_aload_n d_TrustDesk_init_15 rfl rfl ?_
  refine mv_new (kc' := 28) (ks' := 5015) d_TrustDesk_init_16 n_TrustDesk_16 (Nat.le_of_ble_eq_true rfl) (Nat.le_of_ble_eq_true rfl) ?_
  refine mv_dup d_TrustDesk_init_19 rfl ?_
  refine mv_callI_n (kc' := 22) (ks' := 2615) [] [.ref 70, .ref 70, .ref 64] d_TrustDesk_init_20 lI_TrustDesk_18 (c_Reader_init_0 (d := (d + 3)) (h_70 := (mj_up_self _ _ _))) rfl (by decide) (Nat.le_of_ble_eq_true rfl) (Nat.le_of_ble_eq_true rfl) rfl ?_
  refine mv_putF (fs' := [.ref 65, .ref 70, .null, .null, .null, .null, .null, .null, .null, .null, .int 0, .int 0, .int 0]) d_TrustDesk_init_23 p_TrustDesk_19_12 rfl ((mj_up_ne _ _ (Nat.ne_of_beq_eq_false rfl)).trans ((mj_up_ne _ _ (Nat.ne_of_beq_eq_false rfl)).trans ((mj_up_ne _ _ (Nat.ne_of_beq_eq_false rfl)).trans ((mj_up_ne _ _ (Nat.ne_of_beq_eq_false rfl)).trans ((mj_up_ne _ _ (Nat.ne_of_beq_eq_false rfl)).trans ((mj_up_ne _ _ (Nat.ne_of_beq_eq_false rfl)).trans ((mj_up_ne _ _ (Nat.ne_of_beq_eq_false rfl)).trans ((mj_up_ne _ _ (Nat.ne_of_beq_eq_false rfl)).trans ((mj_up_ne _ _ (Nat.ne_of_beq_eq_false rfl)).trans ((mj_up_ne _ _ (Nat.ne_of_beq_eq_false rfl)).trans ((mj_up_ne _ _ (Nat.ne_of_beq_eq_false rfl)).trans ((mj_up_ne _ _ (Nat.ne_of_beq_eq_false rfl)).trans ((mj_up_ne _ _ (Nat.ne_of_beq_eq_false rfl)).trans ((mj_up_ne _ _ (Nat.ne_of_beq_eq_false rfl)).trans (mj_up_self _ _ _))))))))))))))) (by decide) rfl rfl rfl ?_
  refine mv_aload_n d_TrustDesk_init_26 rfl rfl ?_
  refine mv_new (kc' := 21) (ks' := 2610) d_TrustDesk_init_27 n_TrustDesk_23 (Nat.le_of_ble_eq_true rfl) (Nat.le_of_ble_eq_true rfl) ?_
  refine mv_dup d_TrustDesk_init_30 rfl ?_
  refine mv_callI_n (kc' := 19) (ks' := 2533) [] [.ref 77, .ref 77, .ref 64] d_TrustDesk_init_31 lI_TrustDesk_25 (c_Reckoner_init_0 (d := (d + 3)) (h_77 := (mj_up_self _ _ _))) rfl (by decide) (Nat.le_of_ble_eq_true rfl) (Nat.le_of_ble_eq_true rfl) rfl ?_
  refine mv_putF (fs' := [.ref 65, .ref 70, .ref 77, .null, .null, .null, .null, .null, .null, .null, .int 0, .int 0, .int 0]) d_TrustDesk_init_34 p_TrustDesk_26_12 rfl ((mj_up_ne _ _ (Nat.ne_of_beq_eq_false rfl)).trans ((mj_up_ne _ _ (Nat.ne_of_beq_eq_false rfl)).trans ((mj_up_ne _ _ (Nat.ne_of_beq_eq_false rfl)).trans ((mj_up_ne _ _ (Nat.ne_of_beq_eq_false rfl)).trans ((mj_up_ne _ _ (Nat.ne_of_beq_eq_false rfl)).trans ((mj_up_ne _ _ (Nat.ne_of_beq_eq_false rfl)).trans (mj_up_self _ _ _))))))) (by decide) rfl rfl rfl ?_
  refine mv_aload_n d_TrustDesk_init_37 rfl rfl ?_
  refine mv_new (kc' := 18) (ks' := 2519) d_TrustDesk_init_38 n_TrustDesk_30 (Nat.le_of_ble_eq_true rfl) (Nat.le_of_ble_eq_true rfl) ?_
  refine mv_dup d_TrustDesk_init_41 rfl ?_
  refine mv_callI_n (kc' := 9) (ks' := 2446) [] [.ref 80, .ref 80, .ref 64] d_TrustDesk_init_42 lI_TrustDesk_32 (c_Grouping_init_0 (d := (d + 3)) (h_80 := (mj_up_self _ _ _))) rfl (by decide) (Nat.le_of_ble_eq_true rfl) (Nat.le_of_ble_eq_true rfl) rfl ?_
  refine mv_putF (fs' := [.ref 65, .ref 70, .ref 77, .ref 80, .null, .null, .null, .null, .null, .null, .int 0, .int 0, .int 0]) d_TrustDesk_init_45 p_TrustDesk_33_12 rfl ((mj_up_ne _ _ (Nat.ne_of_beq_eq_false rfl)).trans ((mj_up_ne _ _ (Nat.ne_of_beq_eq_false rfl)).trans ((mj_up_ne _ _ (Nat.ne_of_beq_eq_false rfl)).trans ((mj_up_ne _ _ (Nat.ne_of_beq_eq_false rfl)).trans ((mj_up_ne _ _ (Nat.ne_of_beq_eq_false rfl)).trans ((mj_up_ne _ _ (Nat.ne_of_beq_eq_false rfl)).trans ((mj_up_ne _ _ (Nat.ne_of_beq_eq_false rfl)).trans ((mj_up_ne _ _ (Nat.ne_of_beq_eq_false rfl)).trans ((mj_up_ne _ _ (Nat.ne_of_beq_eq_false rfl)).trans ((mj_up_ne _ _ (Nat.ne_of_beq_eq_false rfl)).trans ((mj_up_ne _ _ (Nat.ne_of_beq_eq_false rfl)).trans ((mj_up_ne _ _ (Nat.ne_of_beq_eq_false rfl)).trans ((mj_up_ne _ _ (Nat.ne_of_beq_eq_false rfl)).trans ((mj_up_ne _ _ (Nat.ne_of_beq_eq_false rfl)).trans ((mj_up_ne _ _ (Nat.ne_of_beq_eq_false rfl)).trans ((mj_up_ne _ _ (Nat.ne_of_beq_eq_false rfl)).trans ((mj_up_ne _ _ (Nat.ne_of_beq_eq_false rfl)).trans ((mj_up_ne _ _ (Nat.ne_of_beq_eq_false rfl)).trans ((mj_up_ne _ _ (Nat.ne_of_beq_eq_false rfl)).trans (mj_up_self _ _ _)))))))))))))))))))) (by decide) rfl rfl rfl ?_
  refine mv_aload_n d_TrustDesk_init_48 rfl rfl ?_
  refine mv_new (kc' := 8) (ks' := 2441) d_TrustDesk_init_49 n_TrustDesk_37 (Nat.le_of_ble_eq_true rfl) (Nat.le_of_ble_eq_true rfl) ?_
  refine mv_dup d_TrustDesk_init_52 rfl ?_
  refine mv_iconst (v := 0) d_TrustDesk_init_53 (by decide) ?_
  refine mv_callI_n (kc' := 5) (ks' := 2412) [.int 0] [.int 0, .ref 90, .ref 90, .ref 64] d_TrustDesk_init_54 lI_TrustDesk_39 (c_Act_init_0 (d := d) (h_90 := (mj_up_self _ _ _))) rfl (by decide) (Nat.le_of_ble_eq_true rfl) (Nat.le_of_ble_eq_true rfl) rfl ?_
  refine mv_putF (fs' := [.ref 65, .ref 70, .ref 77, .ref 80, .ref 90, .null, .null, .null, .null, .null, .int 0, .int 0, .int 0]) d_TrustDesk_init_57 p_TrustDesk_42_12 rfl ((mj_up_ne _ _ (Nat.ne_of_beq_eq_false rfl)).trans ((mj_up_ne _ _ (Nat.ne_of_beq_eq_false rfl)).trans ((mj_up_ne _ _ (Nat.ne_of_beq_eq_false rfl)).trans ((mj_up_ne _ _ (Nat.ne_of_beq_eq_false rfl)).trans ((mj_up_ne _ _ (Nat.ne_of_beq_eq_false rfl)).trans ((mj_up_ne _ _ (Nat.ne_of_beq_eq_false rfl)).trans ((mj_up_ne _ _ (Nat.ne_of_beq_eq_false rfl)).trans ((mj_up_ne _ _ (Nat.ne_of_beq_eq_false rfl)).trans ((mj_up_ne _ _ (Nat.ne_of_beq_eq_false rfl)).trans ((mj_up_ne _ _ (Nat.ne_of_beq_eq_false rfl)).trans (mj_up_self _ _ _))))))))))) (by decide) rfl rfl rfl ?_
  refine mv_aload_n d_TrustDesk_init_60 rfl rfl ?_
  refine mv_new (kc' := 4) (ks' := 2409) d_TrustDesk_init_61 n_TrustDesk_46 (Nat.le_of_ble_eq_true rfl) (Nat.le_of_ble_eq_true rfl) ?_
  refine mv_dup d_TrustDesk_init_64 rfl ?_
  refine mv_callI_n (kc' := 4) (ks' := 2409) [] [.ref 94, .ref 94, .ref 64] d_TrustDesk_init_65 lI_TrustDesk_48 (c_ArrayList_init_1 (d := (d + 1)) (h_94 := (mj_up_self _ _ _))) rfl (by decide) (Nat.le_of_ble_eq_true rfl) (Nat.le_of_ble_eq_true rfl) rfl ?_
  refine mv_putF (fs' := [.ref 65, .ref 70, .ref 77, .ref 80, .ref 90, .ref 94, .null, .null, .null, .null, .int 0, .int 0, .int 0]) d_TrustDesk_init_68 p_TrustDesk_49_12 rfl ((mj_up_ne _ _ (Nat.ne_of_beq_eq_false rfl)).trans ((mj_up_ne _ _ (Nat.ne_of_beq_eq_false rfl)).trans ((mj_up_ne _ _ (Nat.ne_of_beq_eq_false rfl)).trans (mj_up_self _ _ _)))) (by decide) rfl rfl rfl ?_
  refine mv_aload_n d_TrustDesk_init_71 rfl rfl ?_
  refine mv_new (kc' := 3) (ks' := 2406) d_TrustDesk_init_72 n_TrustDesk_46 (Nat.le_of_ble_eq_true rfl) (Nat.le_of_ble_eq_true rfl) ?_
  refine mv_dup d_TrustDesk_init_75 rfl ?_
  refine mv_callI_n (kc' := 3) (ks' := 2406) [] [.ref 95, .ref 95, .ref 64] d_TrustDesk_init_76 lI_TrustDesk_48 (c_ArrayList_init_2 (d := (d + 1)) (h_95 := (mj_up_self _ _ _))) rfl (by decide) (Nat.le_of_ble_eq_true rfl) (Nat.le_of_ble_eq_true rfl) rfl ?_
  refine mv_putF (fs' := [.ref 65, .ref 70, .ref 77, .ref 80, .ref 90, .ref 94, .ref 95, .null, .null, .null, .int 0, .int 0, .int 0]) d_TrustDesk_init_79 p_TrustDesk_53_12 rfl ((mj_up_ne _ _ (Nat.ne_of_beq_eq_false rfl)).trans ((mj_up_ne _ _ (Nat.ne_of_beq_eq_false rfl)).trans ((mj_up_ne _ _ (Nat.ne_of_beq_eq_false rfl)).trans (mj_up_self _ _ _)))) (by decide) rfl rfl rfl ?_
  refine mv_aload_n d_TrustDesk_init_82 rfl rfl ?_
  refine mv_new (kc' := 2) (ks' := 2403) d_TrustDesk_init_83 n_TrustDesk_46 (Nat.le_of_ble_eq_true rfl) (Nat.le_of_ble_eq_true rfl) ?_
  refine mv_dup d_TrustDesk_init_86 rfl ?_
  refine mv_callI_n (kc' := 2) (ks' := 2403) [] [.ref 96, .ref 96, .ref 64] d_TrustDesk_init_87 lI_TrustDesk_48 (c_ArrayList_init_3 (d := (d + 1)) (h_96 := (mj_up_self _ _ _))) rfl (by decide) (Nat.le_of_ble_eq_true rfl) (Nat.le_of_ble_eq_true rfl) rfl ?_
  refine mv_putF (fs' := [.ref 65, .ref 70, .ref 77, .ref 80, .ref 90, .ref 94, .ref 95, .ref 96, .null, .null, .int 0, .int 0, .int 0]) d_TrustDesk_init_90 p_TrustDesk_56_12 rfl ((mj_up_ne _ _ (Nat.ne_of_beq_eq_false rfl)).trans ((mj_up_ne _ _ (Nat.ne_of_beq_eq_false rfl)).trans ((mj_up_ne _ _ (Nat.ne_of_beq_eq_false rfl)).trans (mj_up_self _ _ _)))) (by decide) rfl rfl rfl ?_
  refine mv_aload_n d_TrustDesk_init_93 rfl rfl ?_
  refine mv_new (kc' := 1) (ks' := 2400) d_TrustDesk_init_94 n_TrustDesk_46 (Nat.le_of_ble_eq_true rfl) (Nat.le_of_ble_eq_true rfl) ?_
  refine mv_dup d_TrustDesk_init_97 rfl ?_
  refine mv_callI_n (kc' := 1) (ks' := 2400) [] [.ref 97, .ref 97, .ref 64] d_TrustDesk_init_98 lI_TrustDesk_48 (c_ArrayList_init_4 (d := (d + 1)) (h_97 := (mj_up_self _ _ _))) rfl (by decide) (Nat.le_of_ble_eq_true rfl) (Nat.le_of_ble_eq_true rfl) rfl ?_
  refine mv_putF (fs' := [.ref 65, .ref 70, .ref 77, .ref 80, .ref 90, .ref 94, .ref 95, .ref 96, .ref 97, .null, .int 0, .int 0, .int 0]) d_TrustDesk_init_101 p_TrustDesk_59_12 rfl ((mj_up_ne _ _ (Nat.ne_of_beq_eq_false rfl)).trans ((mj_up_ne _ _ (Nat.ne_of_beq_eq_false rfl)).trans ((mj_up_ne _ _ (Nat.ne_of_beq_eq_false rfl)).trans (mj_up_self _ _ _)))) (by decide) rfl rfl rfl ?_
  refine mv_aload_n d_TrustDesk_init_104 rfl rfl ?_
  refine mv_sipush (v := 2400) d_TrustDesk_init_105 (by decide) ?_
  refine mv_newa_int (N := 2400) (kc' := 0) (ks' := 0) d_TrustDesk_init_108 (by decide) (by decide) (Nat.le_of_ble_eq_true rfl) (Nat.le_of_ble_eq_true rfl) (Nat.le_of_ble_eq_true rfl) ?_
  refine mv_putF (fs' := [.ref 65, .ref 70, .ref 77, .ref 80, .ref 90, .ref 94, .ref 95, .ref 96, .ref 97, .ref 98, .int 0, .int 0, .int 0]) d_TrustDesk_init_110 p_TrustDesk_62_12 rfl ((mj_up_ne _ _ (Nat.ne_of_beq_eq_false rfl)).trans (mj_up_self _ _ _)) (by decide) rfl rfl rfl ?_
  exact mv_vret d_TrustDesk_init_113 rfl ⟨rfl, rfl, rfl⟩
end
