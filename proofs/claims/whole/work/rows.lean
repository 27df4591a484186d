section
-- ===== PART A: goes FIRST, ahead of the names: the tables' words, and 'selects' of the private methods out of them =====
/-- a private method of a class that the tables say can be made, by its rows of tables_1 -/
def lw_okq (q : MethodName × Nat) : Prop := (q.1.cls ≠ "java/lang/invoke/MethodHandle" ∧ q.1.cls ≠ "java/lang/invoke/VarHandle") ∧ Cond.instantiable q.1.cls q.2 ∈ tables_1 ∧ Cond.privateMethod q.1 ∈ tables_1 ∧ Cond.instanceMethod q.1 ∈ tables_1
theorem lw_p0 : lw_okq (⟨"ClaimJudge$Judgement", "clear", "()V"⟩, 11) := ⟨⟨by decide +kernel, by decide +kernel⟩, List.mem_of_getElem? (i := 92) (by decide +kernel), List.mem_of_getElem? (i := 236) (by decide +kernel), List.mem_of_getElem? (i := 237) (by decide +kernel)⟩
theorem lw_p1 : lw_okq (⟨"ClaimJudge$Runs", "endAt", "(I)I"⟩, 3) := ⟨⟨by decide +kernel, by decide +kernel⟩, List.mem_of_getElem? (i := 76) (by decide +kernel), List.mem_of_getElem? (i := 282) (by decide +kernel), List.mem_of_getElem? (i := 283) (by decide +kernel)⟩
theorem lw_p2 : lw_okq (⟨"ClaimJudge$Runs", "settle", "(II)V"⟩, 3) := ⟨⟨by decide +kernel, by decide +kernel⟩, List.mem_of_getElem? (i := 76) (by decide +kernel), List.mem_of_getElem? (i := 292) (by decide +kernel), List.mem_of_getElem? (i := 293) (by decide +kernel)⟩
theorem lw_p3 : lw_okq (⟨"ClaimJudge$Judgement", "countRun", "(II)V"⟩, 11) := ⟨⟨by decide +kernel, by decide +kernel⟩, List.mem_of_getElem? (i := 92) (by decide +kernel), List.mem_of_getElem? (i := 296) (by decide +kernel), List.mem_of_getElem? (i := 297) (by decide +kernel)⟩
theorem lw_p4 : lw_okq (⟨"ClaimJudge$Judgement", "followRun", "(I)V"⟩, 11) := ⟨⟨by decide +kernel, by decide +kernel⟩, List.mem_of_getElem? (i := 92) (by decide +kernel), List.mem_of_getElem? (i := 300) (by decide +kernel), List.mem_of_getElem? (i := 301) (by decide +kernel)⟩
theorem lw_p5 : lw_okq (⟨"ClaimJudge$Judgement", "isVisited", "(I)Z"⟩, 11) := ⟨⟨by decide +kernel, by decide +kernel⟩, List.mem_of_getElem? (i := 92) (by decide +kernel), List.mem_of_getElem? (i := 304) (by decide +kernel), List.mem_of_getElem? (i := 305) (by decide +kernel)⟩
theorem lw_p6 : lw_okq (⟨"ClaimJudge$Judgement", "noteValues", "(I)V"⟩, 11) := ⟨⟨by decide +kernel, by decide +kernel⟩, List.mem_of_getElem? (i := 92) (by decide +kernel), List.mem_of_getElem? (i := 308) (by decide +kernel), List.mem_of_getElem? (i := 309) (by decide +kernel)⟩
theorem lw_p7 : lw_okq (⟨"ClaimJudge$Text", "takeStatement", "()Z"⟩, 9) := ⟨⟨by decide +kernel, by decide +kernel⟩, List.mem_of_getElem? (i := 165) (by decide +kernel), List.mem_of_getElem? (i := 348) (by decide +kernel), List.mem_of_getElem? (i := 349) (by decide +kernel)⟩
theorem lw_p8 : lw_okq (⟨"ClaimJudge$Text", "take", "(C)Z"⟩, 9) := ⟨⟨by decide +kernel, by decide +kernel⟩, List.mem_of_getElem? (i := 165) (by decide +kernel), List.mem_of_getElem? (i := 352) (by decide +kernel), List.mem_of_getElem? (i := 353) (by decide +kernel)⟩
theorem lw_p9 : lw_okq (⟨"ClaimJudge$Text", "next", "()C"⟩, 9) := ⟨⟨by decide +kernel, by decide +kernel⟩, List.mem_of_getElem? (i := 165) (by decide +kernel), List.mem_of_getElem? (i := 356) (by decide +kernel), List.mem_of_getElem? (i := 357) (by decide +kernel)⟩
theorem lw_p10 : lw_okq (⟨"ClaimJudge$Text", "takeTest", "()Z"⟩, 9) := ⟨⟨by decide +kernel, by decide +kernel⟩, List.mem_of_getElem? (i := 165) (by decide +kernel), List.mem_of_getElem? (i := 360) (by decide +kernel), List.mem_of_getElem? (i := 361) (by decide +kernel)⟩
theorem lw_p11 : lw_okq (⟨"ClaimJudge$Text", "takeVariable", "()Z"⟩, 9) := ⟨⟨by decide +kernel, by decide +kernel⟩, List.mem_of_getElem? (i := 165) (by decide +kernel), List.mem_of_getElem? (i := 364) (by decide +kernel), List.mem_of_getElem? (i := 365) (by decide +kernel)⟩
theorem lw_p12 : lw_okq (⟨"ClaimJudge$Text", "takeSign", "()Z"⟩, 9) := ⟨⟨by decide +kernel, by decide +kernel⟩, List.mem_of_getElem? (i := 165) (by decide +kernel), List.mem_of_getElem? (i := 455) (by decide +kernel), List.mem_of_getElem? (i := 456) (by decide +kernel)⟩
theorem lw_p13 : lw_okq (⟨"ClaimJudge$Text", "takeOperand", "()Z"⟩, 9) := ⟨⟨by decide +kernel, by decide +kernel⟩, List.mem_of_getElem? (i := 165) (by decide +kernel), List.mem_of_getElem? (i := 460) (by decide +kernel), List.mem_of_getElem? (i := 461) (by decide +kernel)⟩
theorem lw_p14 : lw_okq (⟨"ClaimJudge$Text", "isDigitTo", "(C)Z"⟩, 9) := ⟨⟨by decide +kernel, by decide +kernel⟩, List.mem_of_getElem? (i := 165) (by decide +kernel), List.mem_of_getElem? (i := 464) (by decide +kernel), List.mem_of_getElem? (i := 465) (by decide +kernel)⟩
theorem lw_p15 : lw_okq (⟨"ClaimJudge$Text", "keep", "(I)Z"⟩, 9) := ⟨⟨by decide +kernel, by decide +kernel⟩, List.mem_of_getElem? (i := 165) (by decide +kernel), List.mem_of_getElem? (i := 468) (by decide +kernel), List.mem_of_getElem? (i := 469) (by decide +kernel)⟩
def lw_privs_1 : List (MethodName × Nat) := [(⟨"ClaimJudge$Judgement", "clear", "()V"⟩, 11), (⟨"ClaimJudge$Runs", "endAt", "(I)I"⟩, 3), (⟨"ClaimJudge$Runs", "settle", "(II)V"⟩, 3), (⟨"ClaimJudge$Judgement", "countRun", "(II)V"⟩, 11), (⟨"ClaimJudge$Judgement", "followRun", "(I)V"⟩, 11), (⟨"ClaimJudge$Judgement", "isVisited", "(I)Z"⟩, 11), (⟨"ClaimJudge$Judgement", "noteValues", "(I)V"⟩, 11), (⟨"ClaimJudge$Text", "takeStatement", "()Z"⟩, 9), (⟨"ClaimJudge$Text", "take", "(C)Z"⟩, 9), (⟨"ClaimJudge$Text", "next", "()C"⟩, 9), (⟨"ClaimJudge$Text", "takeTest", "()Z"⟩, 9), (⟨"ClaimJudge$Text", "takeVariable", "()Z"⟩, 9), (⟨"ClaimJudge$Text", "takeSign", "()Z"⟩, 9), (⟨"ClaimJudge$Text", "takeOperand", "()Z"⟩, 9), (⟨"ClaimJudge$Text", "isDigitTo", "(C)Z"⟩, 9), (⟨"ClaimJudge$Text", "keep", "(I)Z"⟩, 9)]
theorem lw_r1 : ∀ q ∈ lw_privs_1, lw_okq q := List.forall_mem_cons.mpr ⟨lw_p0, List.forall_mem_cons.mpr ⟨lw_p1, List.forall_mem_cons.mpr ⟨lw_p2, List.forall_mem_cons.mpr ⟨lw_p3, List.forall_mem_cons.mpr ⟨lw_p4, List.forall_mem_cons.mpr ⟨lw_p5, List.forall_mem_cons.mpr ⟨lw_p6, List.forall_mem_cons.mpr ⟨lw_p7, List.forall_mem_cons.mpr ⟨lw_p8, List.forall_mem_cons.mpr ⟨lw_p9, List.forall_mem_cons.mpr ⟨lw_p10, List.forall_mem_cons.mpr ⟨lw_p11, List.forall_mem_cons.mpr ⟨lw_p12, List.forall_mem_cons.mpr ⟨lw_p13, List.forall_mem_cons.mpr ⟨lw_p14, List.forall_mem_cons.mpr ⟨lw_p15, fun _ h => absurd h List.not_mem_nil⟩⟩⟩⟩⟩⟩⟩⟩⟩⟩⟩⟩⟩⟩⟩⟩
theorem lw_p16 : lw_okq (⟨"ClaimJudge$Text", "takeGoal", "()Z"⟩, 9) := ⟨⟨by decide +kernel, by decide +kernel⟩, List.mem_of_getElem? (i := 165) (by decide +kernel), List.mem_of_getElem? (i := 476) (by decide +kernel), List.mem_of_getElem? (i := 477) (by decide +kernel)⟩
theorem lw_p17 : lw_okq (⟨"ClaimJudge$Text", "takeAddend", "()Z"⟩, 9) := ⟨⟨by decide +kernel, by decide +kernel⟩, List.mem_of_getElem? (i := 165) (by decide +kernel), List.mem_of_getElem? (i := 480) (by decide +kernel), List.mem_of_getElem? (i := 481) (by decide +kernel)⟩
theorem lw_p18 : lw_okq (⟨"java/lang/Throwable", "fillInStackTrace", "(I)Ljava/lang/Throwable;"⟩, 6) := ⟨⟨by decide +kernel, by decide +kernel⟩, List.mem_of_getElem? (i := 543) (by decide +kernel), List.mem_of_getElem? (i := 541) (by decide +kernel), List.mem_of_getElem? (i := 542) (by decide +kernel)⟩
theorem lw_p19 : lw_okq (⟨"ClaimJudge", "unprovedValues", "(I)I"⟩, 6) := ⟨⟨by decide +kernel, by decide +kernel⟩, List.mem_of_getElem? (i := 23) (by decide +kernel), List.mem_of_getElem? (i := 610) (by decide +kernel), List.mem_of_getElem? (i := 611) (by decide +kernel)⟩
theorem lw_p20 : lw_okq (⟨"ClaimJudge", "saveState", "()V"⟩, 6) := ⟨⟨by decide +kernel, by decide +kernel⟩, List.mem_of_getElem? (i := 23) (by decide +kernel), List.mem_of_getElem? (i := 649) (by decide +kernel), List.mem_of_getElem? (i := 650) (by decide +kernel)⟩
theorem lw_p21 : lw_okq (⟨"ClaimJudge", "forgetProgram", "()V"⟩, 6) := ⟨⟨by decide +kernel, by decide +kernel⟩, List.mem_of_getElem? (i := 23) (by decide +kernel), List.mem_of_getElem? (i := 676) (by decide +kernel), List.mem_of_getElem? (i := 677) (by decide +kernel)⟩
theorem lw_p22 : lw_okq (⟨"ClaimJudge", "fitsBehind", "(LClaimJudge$Program;)Z"⟩, 6) := ⟨⟨by decide +kernel, by decide +kernel⟩, List.mem_of_getElem? (i := 23) (by decide +kernel), List.mem_of_getElem? (i := 695) (by decide +kernel), List.mem_of_getElem? (i := 696) (by decide +kernel)⟩
theorem lw_p23 : lw_okq (⟨"ClaimJudgeModel", "reads", "()Z"⟩, 14) := ⟨⟨by decide +kernel, by decide +kernel⟩, List.mem_of_getElem? (i := 831) (by decide +kernel), List.mem_of_getElem? (i := 889) (by decide +kernel), List.mem_of_getElem? (i := 890) (by decide +kernel)⟩
theorem lw_p24 : lw_okq (⟨"ClaimJudgeModel", "readStatement", "()V"⟩, 14) := ⟨⟨by decide +kernel, by decide +kernel⟩, List.mem_of_getElem? (i := 831) (by decide +kernel), List.mem_of_getElem? (i := 893) (by decide +kernel), List.mem_of_getElem? (i := 894) (by decide +kernel)⟩
theorem lw_p25 : lw_okq (⟨"ClaimJudgeModel", "isNext", "(II)Z"⟩, 14) := ⟨⟨by decide +kernel, by decide +kernel⟩, List.mem_of_getElem? (i := 831) (by decide +kernel), List.mem_of_getElem? (i := 897) (by decide +kernel), List.mem_of_getElem? (i := 898) (by decide +kernel)⟩
theorem lw_p26 : lw_okq (⟨"ClaimJudgeModel", "readAssignment", "()V"⟩, 14) := ⟨⟨by decide +kernel, by decide +kernel⟩, List.mem_of_getElem? (i := 831) (by decide +kernel), List.mem_of_getElem? (i := 904) (by decide +kernel), List.mem_of_getElem? (i := 905) (by decide +kernel)⟩
theorem lw_p27 : lw_okq (⟨"ClaimJudgeModel", "puts", "(II)V"⟩, 14) := ⟨⟨by decide +kernel, by decide +kernel⟩, List.mem_of_getElem? (i := 831) (by decide +kernel), List.mem_of_getElem? (i := 908) (by decide +kernel), List.mem_of_getElem? (i := 909) (by decide +kernel)⟩
theorem lw_p28 : lw_okq (⟨"ClaimJudgeModel", "takes", "(II)I"⟩, 14) := ⟨⟨by decide +kernel, by decide +kernel⟩, List.mem_of_getElem? (i := 831) (by decide +kernel), List.mem_of_getElem? (i := 912) (by decide +kernel), List.mem_of_getElem? (i := 913) (by decide +kernel)⟩
theorem lw_p29 : lw_okq (⟨"ClaimJudgeModel", "readOperand", "()I"⟩, 14) := ⟨⟨by decide +kernel, by decide +kernel⟩, List.mem_of_getElem? (i := 831) (by decide +kernel), List.mem_of_getElem? (i := 916) (by decide +kernel), List.mem_of_getElem? (i := 917) (by decide +kernel)⟩
theorem lw_p30 : lw_okq (⟨"ClaimJudgeModel", "readTest", "()V"⟩, 14) := ⟨⟨by decide +kernel, by decide +kernel⟩, List.mem_of_getElem? (i := 831) (by decide +kernel), List.mem_of_getElem? (i := 920) (by decide +kernel), List.mem_of_getElem? (i := 921) (by decide +kernel)⟩
theorem lw_p31 : lw_okq (⟨"ClaimJudgeModel", "holds", "(I)Z"⟩, 14) := ⟨⟨by decide +kernel, by decide +kernel⟩, List.mem_of_getElem? (i := 831) (by decide +kernel), List.mem_of_getElem? (i := 924) (by decide +kernel), List.mem_of_getElem? (i := 925) (by decide +kernel)⟩
def lw_privs_2 : List (MethodName × Nat) := [(⟨"ClaimJudge$Text", "takeGoal", "()Z"⟩, 9), (⟨"ClaimJudge$Text", "takeAddend", "()Z"⟩, 9), (⟨"java/lang/Throwable", "fillInStackTrace", "(I)Ljava/lang/Throwable;"⟩, 6), (⟨"ClaimJudge", "unprovedValues", "(I)I"⟩, 6), (⟨"ClaimJudge", "saveState", "()V"⟩, 6), (⟨"ClaimJudge", "forgetProgram", "()V"⟩, 6), (⟨"ClaimJudge", "fitsBehind", "(LClaimJudge$Program;)Z"⟩, 6), (⟨"ClaimJudgeModel", "reads", "()Z"⟩, 14), (⟨"ClaimJudgeModel", "readStatement", "()V"⟩, 14), (⟨"ClaimJudgeModel", "isNext", "(II)Z"⟩, 14), (⟨"ClaimJudgeModel", "readAssignment", "()V"⟩, 14), (⟨"ClaimJudgeModel", "puts", "(II)V"⟩, 14), (⟨"ClaimJudgeModel", "takes", "(II)I"⟩, 14), (⟨"ClaimJudgeModel", "readOperand", "()I"⟩, 14), (⟨"ClaimJudgeModel", "readTest", "()V"⟩, 14), (⟨"ClaimJudgeModel", "holds", "(I)Z"⟩, 14)]
theorem lw_r2 : ∀ q ∈ lw_privs_2, lw_okq q := List.forall_mem_cons.mpr ⟨lw_p16, List.forall_mem_cons.mpr ⟨lw_p17, List.forall_mem_cons.mpr ⟨lw_p18, List.forall_mem_cons.mpr ⟨lw_p19, List.forall_mem_cons.mpr ⟨lw_p20, List.forall_mem_cons.mpr ⟨lw_p21, List.forall_mem_cons.mpr ⟨lw_p22, List.forall_mem_cons.mpr ⟨lw_p23, List.forall_mem_cons.mpr ⟨lw_p24, List.forall_mem_cons.mpr ⟨lw_p25, List.forall_mem_cons.mpr ⟨lw_p26, List.forall_mem_cons.mpr ⟨lw_p27, List.forall_mem_cons.mpr ⟨lw_p28, List.forall_mem_cons.mpr ⟨lw_p29, List.forall_mem_cons.mpr ⟨lw_p30, List.forall_mem_cons.mpr ⟨lw_p31, fun _ h => absurd h List.not_mem_nil⟩⟩⟩⟩⟩⟩⟩⟩⟩⟩⟩⟩⟩⟩⟩⟩
theorem lw_p32 : lw_okq (⟨"ClaimJudgeModel", "save", "()V"⟩, 14) := ⟨⟨by decide +kernel, by decide +kernel⟩, List.mem_of_getElem? (i := 831) (by decide +kernel), List.mem_of_getElem? (i := 928) (by decide +kernel), List.mem_of_getElem? (i := 929) (by decide +kernel)⟩
theorem lw_p33 : lw_okq (⟨"ClaimJudgeModel", "places", "(I)I"⟩, 14) := ⟨⟨by decide +kernel, by decide +kernel⟩, List.mem_of_getElem? (i := 831) (by decide +kernel), List.mem_of_getElem? (i := 932) (by decide +kernel), List.mem_of_getElem? (i := 933) (by decide +kernel)⟩
theorem lw_p34 : lw_okq (⟨"ClaimJudgeModel", "isStatement", "(I)Z"⟩, 14) := ⟨⟨by decide +kernel, by decide +kernel⟩, List.mem_of_getElem? (i := 831) (by decide +kernel), List.mem_of_getElem? (i := 955) (by decide +kernel), List.mem_of_getElem? (i := 956) (by decide +kernel)⟩
theorem lw_p35 : lw_okq (⟨"ClaimJudgeModel", "targetOf", "(I)I"⟩, 14) := ⟨⟨by decide +kernel, by decide +kernel⟩, List.mem_of_getElem? (i := 831) (by decide +kernel), List.mem_of_getElem? (i := 963) (by decide +kernel), List.mem_of_getElem? (i := 964) (by decide +kernel)⟩
theorem lw_p36 : lw_okq (⟨"ClaimJudgeModel", "worksOut", "()V"⟩, 14) := ⟨⟨by decide +kernel, by decide +kernel⟩, List.mem_of_getElem? (i := 831) (by decide +kernel), List.mem_of_getElem? (i := 974) (by decide +kernel), List.mem_of_getElem? (i := 975) (by decide +kernel)⟩
theorem lw_p37 : lw_okq (⟨"ClaimJudgeModel", "isEnd", "(I)Z"⟩, 14) := ⟨⟨by decide +kernel, by decide +kernel⟩, List.mem_of_getElem? (i := 831) (by decide +kernel), List.mem_of_getElem? (i := 978) (by decide +kernel), List.mem_of_getElem? (i := 979) (by decide +kernel)⟩
theorem lw_p38 : lw_okq (⟨"ClaimJudgeModel", "follows", "(I)V"⟩, 14) := ⟨⟨by decide +kernel, by decide +kernel⟩, List.mem_of_getElem? (i := 831) (by decide +kernel), List.mem_of_getElem? (i := 982) (by decide +kernel), List.mem_of_getElem? (i := 983) (by decide +kernel)⟩
theorem lw_p39 : lw_okq (⟨"ClaimJudgeModel", "goesTo", "(I)I"⟩, 14) := ⟨⟨by decide +kernel, by decide +kernel⟩, List.mem_of_getElem? (i := 831) (by decide +kernel), List.mem_of_getElem? (i := 986) (by decide +kernel), List.mem_of_getElem? (i := 987) (by decide +kernel)⟩
theorem lw_p40 : lw_okq (⟨"ClaimJudgeModel", "operand", "(II)I"⟩, 14) := ⟨⟨by decide +kernel, by decide +kernel⟩, List.mem_of_getElem? (i := 831) (by decide +kernel), List.mem_of_getElem? (i := 990) (by decide +kernel), List.mem_of_getElem? (i := 991) (by decide +kernel)⟩
theorem lw_p41 : lw_okq (⟨"ClaimJudgeModel", "isTrue", "(II)Z"⟩, 14) := ⟨⟨by decide +kernel, by decide +kernel⟩, List.mem_of_getElem? (i := 831) (by decide +kernel), List.mem_of_getElem? (i := 1000) (by decide +kernel), List.mem_of_getElem? (i := 1001) (by decide +kernel)⟩
theorem lw_p42 : lw_okq (⟨"ClaimJudgeModel", "demanded", "(I)I"⟩, 14) := ⟨⟨by decide +kernel, by decide +kernel⟩, List.mem_of_getElem? (i := 831) (by decide +kernel), List.mem_of_getElem? (i := 1015) (by decide +kernel), List.mem_of_getElem? (i := 1016) (by decide +kernel)⟩
theorem lw_p43 : lw_okq (⟨"ClaimJudgeModel", "assumed", "()I"⟩, 14) := ⟨⟨by decide +kernel, by decide +kernel⟩, List.mem_of_getElem? (i := 831) (by decide +kernel), List.mem_of_getElem? (i := 1027) (by decide +kernel), List.mem_of_getElem? (i := 1028) (by decide +kernel)⟩
theorem lw_p44 : lw_okq (⟨"ClaimJudgeModel", "looks", "()V"⟩, 14) := ⟨⟨by decide +kernel, by decide +kernel⟩, List.mem_of_getElem? (i := 831) (by decide +kernel), List.mem_of_getElem? (i := 1035) (by decide +kernel), List.mem_of_getElem? (i := 1036) (by decide +kernel)⟩
theorem lw_p45 : lw_okq (⟨"ClaimJudgeModel", "isAssumed", "(I)Z"⟩, 14) := ⟨⟨by decide +kernel, by decide +kernel⟩, List.mem_of_getElem? (i := 831) (by decide +kernel), List.mem_of_getElem? (i := 1039) (by decide +kernel), List.mem_of_getElem? (i := 1040) (by decide +kernel)⟩
theorem lw_p46 : lw_okq (⟨"ClaimJudgeModel", "verdictOf", "(I)I"⟩, 14) := ⟨⟨by decide +kernel, by decide +kernel⟩, List.mem_of_getElem? (i := 831) (by decide +kernel), List.mem_of_getElem? (i := 1043) (by decide +kernel), List.mem_of_getElem? (i := 1044) (by decide +kernel)⟩
theorem lw_p47 : lw_okq (⟨"ClaimJudgeModel", "isReached", "(I)Z"⟩, 14) := ⟨⟨by decide +kernel, by decide +kernel⟩, List.mem_of_getElem? (i := 831) (by decide +kernel), List.mem_of_getElem? (i := 1047) (by decide +kernel), List.mem_of_getElem? (i := 1048) (by decide +kernel)⟩
def lw_privs_3 : List (MethodName × Nat) := [(⟨"ClaimJudgeModel", "save", "()V"⟩, 14), (⟨"ClaimJudgeModel", "places", "(I)I"⟩, 14), (⟨"ClaimJudgeModel", "isStatement", "(I)Z"⟩, 14), (⟨"ClaimJudgeModel", "targetOf", "(I)I"⟩, 14), (⟨"ClaimJudgeModel", "worksOut", "()V"⟩, 14), (⟨"ClaimJudgeModel", "isEnd", "(I)Z"⟩, 14), (⟨"ClaimJudgeModel", "follows", "(I)V"⟩, 14), (⟨"ClaimJudgeModel", "goesTo", "(I)I"⟩, 14), (⟨"ClaimJudgeModel", "operand", "(II)I"⟩, 14), (⟨"ClaimJudgeModel", "isTrue", "(II)Z"⟩, 14), (⟨"ClaimJudgeModel", "demanded", "(I)I"⟩, 14), (⟨"ClaimJudgeModel", "assumed", "()I"⟩, 14), (⟨"ClaimJudgeModel", "looks", "()V"⟩, 14), (⟨"ClaimJudgeModel", "isAssumed", "(I)Z"⟩, 14), (⟨"ClaimJudgeModel", "verdictOf", "(I)I"⟩, 14), (⟨"ClaimJudgeModel", "isReached", "(I)Z"⟩, 14)]
theorem lw_r3 : ∀ q ∈ lw_privs_3, lw_okq q := List.forall_mem_cons.mpr ⟨lw_p32, List.forall_mem_cons.mpr ⟨lw_p33, List.forall_mem_cons.mpr ⟨lw_p34, List.forall_mem_cons.mpr ⟨lw_p35, List.forall_mem_cons.mpr ⟨lw_p36, List.forall_mem_cons.mpr ⟨lw_p37, List.forall_mem_cons.mpr ⟨lw_p38, List.forall_mem_cons.mpr ⟨lw_p39, List.forall_mem_cons.mpr ⟨lw_p40, List.forall_mem_cons.mpr ⟨lw_p41, List.forall_mem_cons.mpr ⟨lw_p42, List.forall_mem_cons.mpr ⟨lw_p43, List.forall_mem_cons.mpr ⟨lw_p44, List.forall_mem_cons.mpr ⟨lw_p45, List.forall_mem_cons.mpr ⟨lw_p46, List.forall_mem_cons.mpr ⟨lw_p47, fun _ h => absurd h List.not_mem_nil⟩⟩⟩⟩⟩⟩⟩⟩⟩⟩⟩⟩⟩⟩⟩⟩
theorem lw_p48 : lw_okq (⟨"ClaimJudgeModel", "exampleOf", "(I)I"⟩, 14) := ⟨⟨by decide +kernel, by decide +kernel⟩, List.mem_of_getElem? (i := 831) (by decide +kernel), List.mem_of_getElem? (i := 1051) (by decide +kernel), List.mem_of_getElem? (i := 1052) (by decide +kernel)⟩
theorem lw_p49 : lw_okq (⟨"ClaimJudgeModel", "runsThat", "(I)I"⟩, 14) := ⟨⟨by decide +kernel, by decide +kernel⟩, List.mem_of_getElem? (i := 831) (by decide +kernel), List.mem_of_getElem? (i := 1063) (by decide +kernel), List.mem_of_getElem? (i := 1064) (by decide +kernel)⟩
theorem lw_p50 : lw_okq (⟨"ClaimJudgeModel", "judged", "()I"⟩, 14) := ⟨⟨by decide +kernel, by decide +kernel⟩, List.mem_of_getElem? (i := 831) (by decide +kernel), List.mem_of_getElem? (i := 1071) (by decide +kernel), List.mem_of_getElem? (i := 1072) (by decide +kernel)⟩
theorem lw_p51 : lw_okq (⟨"ClaimJudgeModel", "bound", "(IIZ)I"⟩, 14) := ⟨⟨by decide +kernel, by decide +kernel⟩, List.mem_of_getElem? (i := 831) (by decide +kernel), List.mem_of_getElem? (i := 1083) (by decide +kernel), List.mem_of_getElem? (i := 1084) (by decide +kernel)⟩
theorem lw_p52 : lw_okq (⟨"ClaimJudgeModel", "widestOf", "(I)I"⟩, 14) := ⟨⟨by decide +kernel, by decide +kernel⟩, List.mem_of_getElem? (i := 831) (by decide +kernel), List.mem_of_getElem? (i := 1095) (by decide +kernel), List.mem_of_getElem? (i := 1096) (by decide +kernel)⟩
theorem lw_p53 : lw_okq (⟨"ClaimJudgeModel", "digestOne", "(J)V"⟩, 14) := ⟨⟨by decide +kernel, by decide +kernel⟩, List.mem_of_getElem? (i := 831) (by decide +kernel), List.mem_of_getElem? (i := 1124) (by decide +kernel), List.mem_of_getElem? (i := 1125) (by decide +kernel)⟩
theorem lw_p54 : lw_okq (⟨"ClaimJudgeModel", "digestBounds", "(I)V"⟩, 14) := ⟨⟨by decide +kernel, by decide +kernel⟩, List.mem_of_getElem? (i := 831) (by decide +kernel), List.mem_of_getElem? (i := 1129) (by decide +kernel), List.mem_of_getElem? (i := 1130) (by decide +kernel)⟩
def lw_privs_4 : List (MethodName × Nat) := [(⟨"ClaimJudgeModel", "exampleOf", "(I)I"⟩, 14), (⟨"ClaimJudgeModel", "runsThat", "(I)I"⟩, 14), (⟨"ClaimJudgeModel", "judged", "()I"⟩, 14), (⟨"ClaimJudgeModel", "bound", "(IIZ)I"⟩, 14), (⟨"ClaimJudgeModel", "widestOf", "(I)I"⟩, 14), (⟨"ClaimJudgeModel", "digestOne", "(J)V"⟩, 14), (⟨"ClaimJudgeModel", "digestBounds", "(I)V"⟩, 14)]
theorem lw_r4 : ∀ q ∈ lw_privs_4, lw_okq q := List.forall_mem_cons.mpr ⟨lw_p48, List.forall_mem_cons.mpr ⟨lw_p49, List.forall_mem_cons.mpr ⟨lw_p50, List.forall_mem_cons.mpr ⟨lw_p51, List.forall_mem_cons.mpr ⟨lw_p52, List.forall_mem_cons.mpr ⟨lw_p53, List.forall_mem_cons.mpr ⟨lw_p54, fun _ h => absurd h List.not_mem_nil⟩⟩⟩⟩⟩⟩⟩
def lw_privs : List (MethodName × Nat) := lw_privs_1 ++ (lw_privs_2 ++ (lw_privs_3 ++ (lw_privs_4)))
def lw_tbl : List Cond := k2_sels lw_privs ++ tables_1
theorem lw_privs_ok : ∀ q ∈ lw_privs, lw_okq q := by
  show ∀ q ∈ lw_privs_1 ++ (lw_privs_2 ++ (lw_privs_3 ++ (lw_privs_4))), lw_okq q
  exact List.forall_mem_append.mpr ⟨lw_r1, List.forall_mem_append.mpr ⟨lw_r2, List.forall_mem_append.mpr ⟨lw_r3, lw_r4⟩⟩⟩
/-- the streams that the claim lets the run draw from -/
abbrev lw_cs : List Choice := [Jvm.Choice.named "NaN.bits"]
theorem lw_bits : nanBits ∈ lw_cs := by first | decide | exact List.mem_cons_self | simp [lw_cs, nanBits]
end
section
/-! ===== BEGIN words of one list among another's, by their places ===== -/
theorem goodIn_r {big : List Cond} (ws : List Cond) (ps : List Nat) (hp : ws = ps.filterMap (fun i => big[i]?)) (h : ws.all goodWord = true) : GoodIn big ws := by
  intro w hw
  have h1 := List.all_eq_true.mp h w hw
  rw [hp] at hw
  obtain ⟨i, -, hi⟩ := List.mem_filterMap.mp hw
  have hm : w ∈ big := by first | exact List.mem_of_getElem? hi | exact List.getElem?_mem hi
  exact ⟨hm, good_of_word h1⟩
theorem goodIn_app {big a b : List Cond} (ha : GoodIn big a) (hb : GoodIn big b) : GoodIn big (a ++ b) := fun w h => (List.mem_append.mp h).elim (ha w) (hb w)
theorem goodIn_ca {big a b : List Cond} {c : Cond} (ha : GoodIn big (c :: a)) (hb : GoodIn big b) : GoodIn big (c :: (a ++ b)) := fun w h => (List.mem_cons.mp h).elim (fun e => ha w (List.mem_cons.mpr (Or.inl e))) (fun h => (List.mem_append.mp h).elim (fun h => ha w (List.mem_cons.mpr (Or.inr h))) (hb w))
theorem goodIn_sub {big ws : List Cond} (hm : ∀ w ∈ ws, w ∈ big) (h : ws.all goodWord = true) : GoodIn big ws := fun w hw => ⟨hm w hw, good_of_word (List.all_eq_true.mp h w hw)⟩
/-! ===== END ===== -/

/-! ===== BEGIN exceptions that leave a method, and their catching by the caller (launches without stack traces) ===== -/
section VXA
/-! The laws vx_back, vx_callV, vx_callS, vx_callSW, vx_throw0, vx_throwS follow proofs of the library, with one case more: JvmDerived/Free/Laws.lean (Back.of_free), Shelf42/LK1.lean (callV, callS), Shelf/KitTraced.lean (throwNew0V, throwNewS). -/
/-- where a method has thrown q: the class by its name, the cell, what was written, the world -/
def vx_T (XC : String → State → State → Prop) (st : State) (q : Addr) (t : State) (mc ms : Nat) (free : Addr → Prop) : Prop :=
  ∃ (E : String) (ce : Cell) (L : List Loc), XC E st t ∧ t.heap[q]? = some ce ∧ ce.vm = .none ∧ st.vm.findClass E = some ce.cls ∧ st.WarmedH t.vm ∧ st.sameButNew ({ t with vm := st.vm } : State) L mc ms ∧ ∀ z ∈ L, free z.base
def vx_Q (Qc : Array Value → State → Outcome → State → Prop) (XC : String → State → State → Prop) (mc ms : Nat) (free : Addr → Prop) : Array Value → State → Outcome → State → Prop := fun a st o t =>
  (Qc a st o t ∧ ∃ L, FrameEnd st o t L mc ms ∧ ∀ q ∈ L, free q.base) ∨ ∃ q, o = .threw q ∧ vx_T XC st q t mc ms free
/-- a callee that returns or throws -/
def vx_Met (l : Launch) (y : MethodName) (ws : List Cond) (rm : Room) (Pc : Array Value → State → Prop) (Qc : Array Value → State → Outcome → State → Prop) (XC : String → State → State → Prop) (mc ms : Nat) (free : Addr → Prop) : Prop :=
  MetFree l y (headSpec ws rm) Pc (fun _ _ _ _ _ => True) (vx_Q Qc XC mc ms free)
def vx_Post (XC : String → State → State → Prop) (mc ms : Nat) (free : Addr → Prop) : Pt → Array Value → Addr → Pt → Prop := fun A a q B =>
  ∃ (g : JFrame) (mk : MethodId) (t : State) (L : List Loc) (E : String) (ce : Cell), B.U.heap = t.heap ∧ B.U.vm = t.vm ∧ XC E (A.U.calling g mk a) t ∧ t.heap[q]? = some ce ∧ ce.vm = .none ∧ A.U.vm.findClass E = some ce.cls ∧ B.locs = A.locs ++ L ∧ (∀ z ∈ L, free z.base) ∧ B.cells = A.cells + mc ∧ B.slots = A.slots + ms
def vx_Back (l : Launch) (R : Room) (p : Program) (e : Env) (below : List Frame) (s : State) (sargs : Array Value) (y : MethodName) (len W9 : Nat)
    (Pre : Pt → Array Value → Prop) (Post : Pt → Array Value → Option Value → Pt → Prop) (PostX : Pt → Array Value → Addr → Pt → Prop) : Prop :=
  ∀ (m : MethodId) (meth : Method) (c : Code) (A : Pt) (g : JFrame) (ig : Instr) (mk : MethodId) (a : Array Value),
    Stand p l e R s m sargs below meth c A.U A.locs A.cells A.slots → g.method = m → g.locals.size = c.maxLocals → decode c.code g.pc = .ok (ig, len) →
    2 * g.monitorRoom + (g.stack.map fun v => v.category).sum ≤ W9 → A.U.methodNamed? y = some mk → Pre A a →
    (∃ (v : Option Value) (B : Pt), Stand p l e R s m sargs below meth c B.U B.locs B.cells B.slots ∧ Post A a v B ∧
      Steps p.tables e below (doInvoke e (A.U.setTop g) [] mk a).1 (B.U.setTop { g with pc := g.pc + len, stack := v.toList ++ g.stack })) ∨
    (∃ (q : Addr) (B : Pt), Stand p l e R s m sargs below meth c B.U B.locs B.cells B.slots ∧ PostX A a q B ∧
      Steps p.tables e below (doInvoke e (A.U.setTop g) [] mk a).1 ((B.U.setTop g).pushFrame (.throwing q)))
section Payer
variable {l : Launch} {R : Room} {p : Program} {e : Env} {below : List Frame} {s : State} {sargs : Array Value} {y : MethodName} {len W9 : Nat}
theorem vx_back {ws : List Cond} {rm : Room} {Pc : Array Value → State → Prop} {Qc : Array Value → State → Outcome → State → Prop} {XC : String → State → State → Prop} {mc ms : Nat} {free : Addr → Prop} {bytes : ByteArray} {maxL : Nat} {ret : Option FieldType}
    (hM : vx_Met l y ws rm Pc Qc XC mc ms free) (hblind : FrameBlind Pc) (hrc : rm.cells = mc) (hrs : rm.slots = ms)
    (hframes : rm.frames + 1 ≤ R.frames) (hlocals : W9 + (maxL + 11) + rm.locals ≤ R.locals)
    (hws : ∀ w ∈ ws, ∀ a' U, s.WarmedH U.vm → w.before a' U = true) (hcode : Cond.code y bytes maxL ret ∈ ws) (hinit : ∀ a' U, s.WarmedH U.vm → (Cond.initialized y.cls).before a' U = true) :
    vx_Back l R p e below s sargs y len W9 (PreOf R mc ms Pc) (PostOf Qc mc ms free) (vx_Post XC mc ms free) := by
  intro m meth c A g ig mk a X hg hsize hdg hW hn hp
  have h1 : (headSpec ws rm).pre.before a A.U = true := atoms_intro fun w hw => hws w hw _ _ X.warmed
  have h2 : (Cond.code y bytes maxL ret).before a A.U = true := hws _ hcode _ _ X.warmed
  have h3 : (Cond.initialized y.cls).before a A.U = true := hinit _ _ X.warmed
  have h4 : A.cells + (headSpec ws rm).room.cells ≤ R.cells := by rw [show (headSpec ws rm).room.cells = mc from hrc]; exact hp.1
  have h5 : A.slots + (headSpec ws rm).room.slots ≤ R.slots := by rw [show (headSpec ws rm).room.slots = ms from hrs]; exact hp.2.1
  have hPc : Pc a (A.U.calling g mk a) := hblind _ _ _ _ hp.2.2
  obtain ⟨U, Ls, c0, s0⟩ := A
  dsimp only [Pt.U, Pt.locs, Pt.cells, Pt.slots] at h1 h2 h3 h4 h5 X hn hPc ⊢
  obtain ⟨methY, cY, hmY, hcY, -, hlY, -, -, -, -⟩ := Cond.code_spec hn h2
  obtain ⟨kY, hkY, -⟩ := className_of_methodNamed hn
  have hinitY : kY.init = .initialized := Cond.initialized_spec (findClass_of_methodNamed hn) hkY h3
  have h : At U g.method c below := by rw [hg]; exact X.here
  have hlocals9 : W9 + (maxL + 11) + (headSpec ws rm).room.locals ≤ R.locals := hlocals
  have happ : (headSpec ws rm).appliesLoose y e.platform (U.calling g mk a) = true :=
    Spec.appliesLoose_calling (g := g) h hdg hn hkY hinitY
      (X.room_calling (g := g) (R' := (headSpec ws rm).room) hsize hmY hcY hframes (by rw [hlY]; omega) h4 h5) h1
  obtain ⟨mid, hmid⟩ := h.above
  have hfr : (U.setTop g).frames = (.java g :: mid) ++ below := by rw [State.frames_setTop' g h.top, hmid]; rfl
  obtain ⟨o, s₂, hsteps, -, hend, hq⟩ := Steps.callFree hM p X.admits X.cas X.clock (acts := []) hfr happ hPc trivial
  have hq' : vx_Q Qc XC mc ms free a (U.calling g mk a) o s₂ := hq
  rw [State.frames_setTop' g h.top] at hend
  obtain ⟨g₀, hg0⟩ := Option.isSome_iff_exists.mp h.top
  obtain ⟨r, hr⟩ := State.topJava?_eq_some.mp hg0
  have hr' : (({ U with heap := s₂.heap, slotsUsed := s₂.slotsUsed } : State).setVm s₂.vm).frames = .java g₀ :: r := hr
  rcases hq' with ⟨hqc, L, hfe, hL⟩ | ⟨q, rfl, E, ce, L, hx, hce, hcv, hcl, hW₂, hsm, hL⟩
  · obtain ⟨⟨v, rfl⟩, hW₂, e2, q2, q3, q4, q5, q6⟩ := id hfe
    have e3 : s₂ = ({ (U.calling g mk a).setFrames s₂.frames with heap := s₂.heap, slotsUsed := s₂.slotsUsed } : State).setVm s₂.vm := by
      have : s₂ = ({ s₂ with vm := (U.calling g mk a).vm } : State).setVm s₂.vm := rfl
      rw [e2] at this
      exact this
    obtain ⟨c₂, i₂, len₂, hc₂, hd₂, hf₂⟩ := hend
    have hW' : U.WarmedH s₂.vm := hW₂
    have hcc : c₂ = c := by
      have h1 : s₂.code? g.method = U.code? g.method := by
        rw [State.code?_eq, State.code?_eq, hW'.alike.method?]
      exact Option.some.inj (hc₂.symm.trans (h1.trans h.code))
    subst hcc
    have hlen : len₂ = len := by rw [hdg] at hd₂; cases hd₂; rfl
    subst hlen
    have hs₂ : s₂ = (({ U with heap := s₂.heap, slotsUsed := s₂.slotsUsed } : State).setVm s₂.vm).setTop { g with pc := g.pc + len₂, stack := v.toList ++ g.stack } := by
      refine e3.trans ?_
      rw [hf₂, State.calling_eq h.top, State.setFrames_setFrames, State.setTop_of_frames _ hr', hr]
      rfl
    have hsame : U.sameButNew ({ U with heap := s₂.heap, slotsUsed := s₂.slotsUsed } : State) L mc ms := by
      refine ⟨?_, q2, q3, q4, q5, q6⟩
      obtain ⟨t, ht, -⟩ := State.frames_cons hr
      show ({ U with heap := s₂.heap, slotsUsed := s₂.slotsUsed } : State) = { U.setFrames U.frames with heap := s₂.heap, slotsUsed := s₂.slotsUsed }
      rw [State.setFrames_self ht]
    subst hg
    refine Or.inl ⟨v, ⟨(({ U with heap := s₂.heap, slotsUsed := s₂.slotsUsed } : State).setVm s₂.vm), Ls ++ L, c0 + mc, s0 + ms⟩,
      ⟨X.admits, X.cas, X.clock, X.frames, X.room, X.hears, X.method, X.code, (X.here.setHeapUsed s₂.heap s₂.slotsUsed).setVm hW'.alike, X.tail, State.WarmedH.trans X.warmed hW', X.limits, X.bytes, X.same.trans (hsame.setVm s.vm)⟩,
      ⟨g, mk, s₂, L, rfl, rfl, hqc, rfl, hL, rfl, rfl⟩, ?_⟩
    show Steps p.tables e below _ ((({ U with heap := s₂.heap, slotsUsed := s₂.slotsUsed } : State).setVm s₂.vm).setTop { g with pc := g.pc + len₂, stack := v.toList ++ g.stack })
    rw [← hs₂]
    exact hsteps
  · obtain ⟨e2, q2, q3, q4, q5, q6⟩ := id hsm
    have e3 : s₂ = ({ (U.calling g mk a).setFrames s₂.frames with heap := s₂.heap, slotsUsed := s₂.slotsUsed } : State).setVm s₂.vm := by
      have : s₂ = ({ s₂ with vm := (U.calling g mk a).vm } : State).setVm s₂.vm := rfl
      rw [e2] at this
      exact this
    have hf₂ : s₂.frames = .throwing q :: .java g :: U.frames.tail := hend
    have hW' : U.WarmedH s₂.vm := hW₂
    have hs₂ : s₂ = ((({ U with heap := s₂.heap, slotsUsed := s₂.slotsUsed } : State).setVm s₂.vm).setTop g).pushFrame (.throwing q) := by
      refine e3.trans ?_
      rw [hf₂, State.calling_eq h.top, State.setFrames_setFrames, State.pushFrame, State.frames_setTop _ hr', State.setTop_of_frames _ hr', State.setFrames_setFrames, hr]
      rfl
    have hsame : U.sameButNew ({ U with heap := s₂.heap, slotsUsed := s₂.slotsUsed } : State) L mc ms := by
      refine ⟨?_, q2, q3, q4, q5, q6⟩
      obtain ⟨t, ht, -⟩ := State.frames_cons hr
      show ({ U with heap := s₂.heap, slotsUsed := s₂.slotsUsed } : State) = { U.setFrames U.frames with heap := s₂.heap, slotsUsed := s₂.slotsUsed }
      rw [State.setFrames_self ht]
    subst hg
    refine Or.inr ⟨q, ⟨(({ U with heap := s₂.heap, slotsUsed := s₂.slotsUsed } : State).setVm s₂.vm), Ls ++ L, c0 + mc, s0 + ms⟩,
      ⟨X.admits, X.cas, X.clock, X.frames, X.room, X.hears, X.method, X.code, (X.here.setHeapUsed s₂.heap s₂.slotsUsed).setVm hW'.alike, X.tail, State.WarmedH.trans X.warmed hW', X.limits, X.bytes, X.same.trans (hsame.setVm s.vm)⟩,
      ⟨g, mk, s₂, L, E, ce, rfl, rfl, hx, hce, hcv, hcl, rfl, hL, rfl, rfl⟩, ?_⟩
    show Steps p.tables e below _ (((({ U with heap := s₂.heap, slotsUsed := s₂.slotsUsed } : State).setVm s₂.vm).setTop g).pushFrame (.throwing q))
    rw [← hs₂]
    exact hsteps
end Payer
section Calls
variable {p : Program} {l : Launch} {e : Env} {R : Room} {s : State} {m : MethodId} {args : Array Value} {below : List Frame} {meth : Method} {c : Code} {T : State} {locs : List Loc} {cells slots : Nat}
theorem vx_callV (X : Stand p l e R s m args below meth c T locs cells slots) (hexec : p.tables.exec = Jvm.exec) {own C : String} {index : Nat} {y : MethodName} {bytes : ByteArray} {maxL : Nat} {ret : Option FieldType}
    (hown : s.vm.findClass own = some m.cls) (hlink : (Cond.methodLink own index y).before args s = true) (hinst : (Cond.instanceMethod y).before args s = true) (hsel : (Cond.selects C y y).before args s = true)
    (hcode : (Cond.code y bytes maxL ret).before args s = true) (hy : y.cls ≠ "java/lang/invoke/MethodHandle" ∧ y.cls ≠ "java/lang/invoke/VarHandle")
    {W9 : Nat} {Pre : Pt → Array Value → Prop} {Post : Pt → Array Value → Option Value → Pt → Prop} {PostX : Pt → Array Value → Addr → Pt → Prop} (hK : vx_Back l R p e below s args y 3 W9 Pre Post PostX)
    {b : Addr} {cellB : Cell} (hcell : T.heap[b]? = some cellB) (hobj : cellB.vm.isStatics = false) (hcls : s.vm.findClass C = some cellB.cls)
    {g : JFrame} (hg : g.method = m) (hsize : g.locals.size = c.maxLocals) {argsL rest : List Value} (hlen : ∀ sig, parseMethodDescriptor y.desc = some sig → argsL.length = sig.parameters.length)
    (hstack : g.stack = argsL.reverse ++ .ref b :: rest) (hW : 2 * g.monitorRoom + (rest.map fun v => v.category).sum ≤ W9) (hdg : decode c.code g.pc = .ok (.invokevirtual index, 3))
    (hpre : ∀ vm₁, s.WarmedH vm₁ → Pre ⟨T.setVm vm₁, locs, cells, slots⟩ (Value.ref b :: argsL).toArray) :
    (∃ (v : Option Value) (vm₁ : Vm) (B : Pt), s.WarmedH vm₁ ∧ Stand p l e R s m args below meth c B.U B.locs B.cells B.slots ∧ Post ⟨T.setVm vm₁, locs, cells, slots⟩ (Value.ref b :: argsL).toArray v B ∧
      ∀ target, Steps p.tables e below (B.U.setTop { g with pc := g.pc + 3, stack := v.toList ++ rest }) target → Steps p.tables e below (T.setTop g) target) ∨
    (∃ (q : Addr) (vm₁ : Vm) (B : Pt), s.WarmedH vm₁ ∧ Stand p l e R s m args below meth c B.U B.locs B.cells B.slots ∧ PostX ⟨T.setVm vm₁, locs, cells, slots⟩ (Value.ref b :: argsL).toArray q B ∧
      Steps p.tables e below (T.setTop g) ((B.U.setTop { g with stack := rest }).pushFrame (.throwing q))) := by
  obtain ⟨mk, methM, hnamed, hmethM, hstM, habM⟩ := Cond.instanceMethod_spec hinst
  obtain ⟨methM', cM, hmethM', -, -, -, -, -, -, hsigM⟩ := Cond.code_spec hnamed hcode
  cases hmethM.symm.trans hmethM'
  obtain ⟨c2, r2, m2, q1, q2, q3, q4, kP, hkP, hkPi⟩ := Cond.selects_spec hsel
  cases hcls.symm.trans q1
  cases (State.methodFound?_of_named hnamed hy).symm.trans q2
  cases hnamed.symm.trans q3
  have hselP : selectMethod e.platform s.vm cellB.cls mk = .method mk := by rw [Launch.admits_selectMethod X.admits]; exact q4
  obtain ⟨vm₁, X₁, hstep₁⟩ := X.invokevirtual hexec hown hlink hnamed hmethM hstM hkP hkPi hy (a := b) (cell := cellB) hcell
    (fun z h => by rw [h] at hobj; cases hobj) hselP hmethM habM hkP hkPi (g := g) hg (argsL := argsL) (rest := rest) (hlen _ hsigM) hstack hdg
  rcases hK m meth c ⟨T.setVm vm₁, locs, cells, slots⟩ { g with stack := rest } (.invokevirtual index) mk (Value.ref b :: argsL).toArray X₁ hg hsize hdg hW (X₁.named hnamed) (hpre vm₁ X₁.warmed) with ⟨v, B, X', hpost, hsteps⟩ | ⟨q, B, X', hpost, hsteps⟩
  · exact Or.inl ⟨v, vm₁, B, X₁.warmed, X', hpost, fun target h => hstep₁ _ fun acts => by rw [doInvoke_state]; exact hsteps.trans h⟩
  · exact Or.inr ⟨q, vm₁, B, X₁.warmed, X', hpost, hstep₁ _ fun acts => by rw [doInvoke_state]; exact hsteps⟩
theorem vx_callS (X : Stand p l e R s m args below meth c T locs cells slots) (hexec : p.tables.exec = Jvm.exec) {own : String} {index : Nat} {y : MethodName} {bytes : ByteArray} {maxL : Nat} {ret : Option FieldType}
    (hown : s.vm.findClass own = some m.cls) (hlink : (Cond.methodLink own index y).before args s = true) (hstat : (Cond.static y).before args s = true) (hinit : (Cond.initialized y.cls).before args s = true)
    (hcode : (Cond.code y bytes maxL ret).before args s = true) (hy : y.cls ≠ "java/lang/invoke/MethodHandle" ∧ y.cls ≠ "java/lang/invoke/VarHandle")
    {W9 : Nat} {Pre : Pt → Array Value → Prop} {Post : Pt → Array Value → Option Value → Pt → Prop} {PostX : Pt → Array Value → Addr → Pt → Prop} (hK : vx_Back l R p e below s args y 3 W9 Pre Post PostX)
    {g : JFrame} (hg : g.method = m) (hsize : g.locals.size = c.maxLocals) {argsL rest : List Value} (hlen : ∀ sig, parseMethodDescriptor y.desc = some sig → argsL.length = sig.parameters.length)
    (hstack : g.stack = argsL.reverse ++ rest) (hW : 2 * g.monitorRoom + (rest.map fun v => v.category).sum ≤ W9) (hdg : decode c.code g.pc = .ok (.invokestatic index, 3))
    (hpre : ∀ vm₁, s.WarmedH vm₁ → Pre ⟨T.setVm vm₁, locs, cells, slots⟩ argsL.toArray) :
    (∃ (v : Option Value) (vm₁ : Vm) (B : Pt), s.WarmedH vm₁ ∧ Stand p l e R s m args below meth c B.U B.locs B.cells B.slots ∧ Post ⟨T.setVm vm₁, locs, cells, slots⟩ argsL.toArray v B ∧
      ∀ target, Steps p.tables e below (B.U.setTop { g with pc := g.pc + 3, stack := v.toList ++ rest }) target → Steps p.tables e below (T.setTop g) target) ∨
    (∃ (q : Addr) (vm₁ : Vm) (B : Pt), s.WarmedH vm₁ ∧ Stand p l e R s m args below meth c B.U B.locs B.cells B.slots ∧ PostX ⟨T.setVm vm₁, locs, cells, slots⟩ argsL.toArray q B ∧
      Steps p.tables e below (T.setTop g) ((B.U.setTop { g with stack := rest }).pushFrame (.throwing q))) := by
  obtain ⟨mk, hnamed⟩ := Cond.code_named hcode
  obtain ⟨methM, cM, hmethM, -, -, -, -, -, -, hsigM⟩ := Cond.code_spec hnamed hcode
  have hstatic : methM.isStatic = true := Cond.static_spec hnamed hmethM hstat
  obtain ⟨kP, hkP, -⟩ := className_of_methodNamed hnamed
  have hinitP : kP.init = .initialized := Cond.initialized_spec (findClass_of_methodNamed hnamed) hkP hinit
  obtain ⟨vm₁, X₁, hstep₁⟩ := X.invokestatic hexec hown hlink hnamed hmethM hstatic hkP hinitP hy (g := g) hg (argsL := argsL) (rest := rest) (hlen _ hsigM) hstack hdg
  rcases hK m meth c ⟨T.setVm vm₁, locs, cells, slots⟩ { g with stack := rest } (.invokestatic index) mk argsL.toArray X₁ hg hsize hdg hW (X₁.named hnamed) (hpre vm₁ X₁.warmed) with ⟨v, B, X', hpost, hsteps⟩ | ⟨q, B, X', hpost, hsteps⟩
  · exact Or.inl ⟨v, vm₁, B, X₁.warmed, X', hpost, fun target h => hstep₁ _ fun acts => by rw [doInvoke_state]; exact hsteps.trans h⟩
  · exact Or.inr ⟨q, vm₁, B, X₁.warmed, X', hpost, hstep₁ _ fun acts => by rw [doInvoke_state]; exact hsteps⟩
end Calls
theorem vx_cls {s : State} {T : State} {vm₁ : Vm} {E : String} {k : ClassId} (hW : s.WarmedH vm₁) (h : (T.setVm vm₁).vm.findClass E = some k) : s.vm.findClass E = some k := by
  have h1 : vm₁.findClass E = some k := h
  rw [hW.alike.findClass] at h1
  exact h1
/-- the method's frame g, with q thrown over it -/
def vx_W (p : Program) (l : Launch) (e : Env) (R : Room) (s : State) (m : MethodId) (args : Array Value) (below : List Frame) (meth : Method) (c : Code) (H : Heap) (locs : List Loc) (cells slots : Nat) (Q : State → Prop) (g : JFrame) (q : Addr) : Prop :=
  ∀ T : State, T.heap = H → Stand p l e R s m args below meth c T locs cells slots → ∃ t, Steps p.tables e below ((T.setTop g).pushFrame (.throwing q)) t ∧ Q t
def vx_Run (p : Program) (l : Launch) (e : Env) (R : Room) (s : State) (m : MethodId) (args : Array Value) (below : List Frame) (meth : Method) (c : Code) (H : Heap) (locs : List Loc) (cells slots mc ms : Nat) (g : JFrame) (rest : List Value) (Qa : State → Outcome → State → Prop) (XC : String → State → State → Prop) (free : Addr → Prop) : Prop :=
  ∀ T : State, T.heap = H → Stand p l e R s m args below meth c T locs cells slots →
    (∃ (v : Option Value) (st₀ t T' : State) (L : List Loc), st₀.heap = H ∧ Stand p l e R s m args below meth c T' (locs ++ L) (cells + mc) (slots + ms) ∧ (∀ q ∈ L, free q.base) ∧ T'.heap = t.heap ∧ T'.vm = t.vm ∧ Qa st₀ (.returned v) t ∧
      Goes p e below T g T' { g with pc := g.pc + 3, stack := v.toList ++ rest }) ∨
    (∃ (q : Addr) (st₀ t T' : State) (L : List Loc) (E : String) (ce : Cell), st₀.heap = H ∧ Stand p l e R s m args below meth c T' (locs ++ L) (cells + mc) (slots + ms) ∧ (∀ z ∈ L, free z.base) ∧ T'.heap = t.heap ∧ T'.vm = t.vm ∧ XC E st₀ t ∧ t.heap[q]? = some ce ∧ ce.vm = .none ∧ s.vm.findClass E = some ce.cls ∧
      Steps p.tables e below (T.setTop g) ((T'.setTop { g with stack := rest }).pushFrame (.throwing q)))
def vx_X {S : Type} (px : S → Prop) (B : String → S → State → Prop) (A : Nat → Prop) : String → State → State → Prop := fun E st t => ∃ u : S, px u ∧ B E u t ∧ va_F A st t
section Runs
variable {p : Program} {l : Launch} {e : Env} {R : Room} {s : State} {m : MethodId} {args : Array Value} {below : List Frame} {meth : Method} {c : Code} {H : Heap} {locs : List Loc} {cells slots : Nat}
variable {y : MethodName} {bytes cc : ByteArray} {maxL nL mc ms n index : Nat} {ret : Option FieldType} {ws : List Cond} {rm : Room} {Pc : Array Value → State → Prop} {Qc : Array Value → State → Outcome → State → Prop} {XC : String → State → State → Prop} {free : Addr → Prop} {Ts : List Cond} {own C : String} {b : Addr} {As rest : List Value} {g : JFrame}
theorem vx_callBack (cb : CallB R s args own index y bytes maxL ret ws rm mc ms n) (hM : vx_Met l y ws rm Pc Qc XC mc ms free) (hbl : FrameBlind Pc) : vx_Back l R p e below s args y 3 8 (PreOf R mc ms Pc) (PostOf Qc mc ms free) (vx_Post XC mc ms free) := by
  obtain ⟨hrc, hrs, hfr, hlo, hws, hcw, -, hini, -⟩ := cb
  exact vx_back (bytes := bytes) (maxL := maxL) (ret := ret) hM hbl hrc hrs hfr hlo hws hcw (fun a' U hW => word_at hW (Or.inl (by first | rfl | simp [Cond.onTables, Cond.keeps, Cond.steady])) hini)
theorem vx_runV (S : CallFix p m c cc nL s args Ts own) (hM : vx_Met l y ws rm Pc Qc XC mc ms free) (cw : CallW R s args own C index y bytes maxL ret ws rm mc ms n) (hp : PreV s H C b Pc As)
    (hg : g.method = m) (hn : As.length = n) (hsize : g.locals.size = nL) (hstack : g.stack = As.reverse ++ .ref b :: rest) (hW : 2 * g.monitorRoom + (rest.map fun v => v.category).sum ≤ 8) (hdg : decode cc g.pc = .ok (.invokevirtual index, 3)) (hf : cells + mc ≤ R.cells ∧ slots + ms ≤ R.slots) :
    vx_Run p l e R s m args below meth c H locs cells slots mc ms g rest (Qc (Value.ref b :: As).toArray) XC free := by
  have hK : vx_Back l R p e below s args y 3 8 (PreOf R mc ms Pc) (PostOf Qc mc ms free) (vx_Post XC mc ms free) := vx_callBack cw.1 hM hp.1
  obtain ⟨⟨-, -, -, -, -, -, hcode, -, hy, hlen, hl⟩, hin, hse⟩ := cw
  obtain ⟨hx, hb, hml, ho, -⟩ := S
  obtain ⟨-, ⟨cellB, hcB, hoB, hclB⟩, hPc⟩ := hp
  intro T hT X
  rcases vx_callV X hx (C := C) (bytes := bytes) (maxL := maxL) (ret := ret) ho hl hin hse hcode hy hK (by rw [hT]; exact hcB) hoB hclB hg (hsize.trans hml.symm) (argsL := As) (rest := rest) (fun sig h => hn.trans (hlen sig h)) hstack hW (by rw [hb]; exact hdg)
    (fun vm₁ hW₁ => ⟨hf.1, hf.2, hPc (T.setVm vm₁) hT hW₁⟩) with ⟨v, vm₁, ⟨U', l2, c2, s2⟩, hW₁, X', ⟨g', mk, t, L, e1, e2, hq, h1, hL, h2, h3⟩, st⟩ | ⟨q, vm₁, ⟨U', l2, c2, s2⟩, hW₁, X', ⟨g', mk, t, L, E, ce, e1, e2, hq, hce, hcv, hcl, h1, hL, h2, h3⟩, st⟩
  · dsimp only [Pt.U, Pt.locs, Pt.cells, Pt.slots] at X' e1 e2 h1 h2 h3 st
    subst h1; subst h2; subst h3
    exact Or.inl ⟨v, (T.setVm vm₁).calling g' mk (Value.ref b :: As).toArray, t, U', L, hT, X', hL, e1, e2, hq, st⟩
  · dsimp only [Pt.U, Pt.locs, Pt.cells, Pt.slots] at X' e1 e2 h1 h2 h3 st hcl
    subst h1; subst h2; subst h3
    exact Or.inr ⟨q, (T.setVm vm₁).calling g' mk (Value.ref b :: As).toArray, t, U', L, E, ce, hT, X', hL, e1, e2, hq, hce, hcv, vx_cls hW₁ hcl, st⟩
theorem vx_runS (S : CallFix p m c cc nL s args Ts own) (hM : vx_Met l y ws rm Pc Qc XC mc ms free) (cw : CallB R s args own index y bytes maxL ret ws rm mc ms n ∧ (Cond.static y).before args s = true) (hp : PreS s H Pc As)
    (hg : g.method = m) (hn : As.length = n) (hsize : g.locals.size = nL) (hstack : g.stack = As.reverse ++ rest) (hW : 2 * g.monitorRoom + (rest.map fun v => v.category).sum ≤ 8) (hdg : decode cc g.pc = .ok (.invokestatic index, 3)) (hf : cells + mc ≤ R.cells ∧ slots + ms ≤ R.slots) :
    vx_Run p l e R s m args below meth c H locs cells slots mc ms g rest (Qc As.toArray) XC free := by
  have hK : vx_Back l R p e below s args y 3 8 (PreOf R mc ms Pc) (PostOf Qc mc ms free) (vx_Post XC mc ms free) := vx_callBack cw.1 hM hp.1
  obtain ⟨⟨-, -, -, -, -, -, hcode, hini, hy, hlen, hl⟩, hstt⟩ := cw
  obtain ⟨hx, hb, hml, ho, -⟩ := S
  intro T hT X
  rcases vx_callS X hx (bytes := bytes) (maxL := maxL) (ret := ret) ho hl hstt hini hcode hy hK hg (hsize.trans hml.symm) (argsL := As) (rest := rest) (fun sig h => hn.trans (hlen sig h)) hstack hW (by rw [hb]; exact hdg)
    (fun vm₁ hW₁ => ⟨hf.1, hf.2, hp.2 (T.setVm vm₁) hT hW₁⟩) with ⟨v, vm₁, ⟨U', l2, c2, s2⟩, hW₁, X', ⟨g', mk, t, L, e1, e2, hq, h1, hL, h2, h3⟩, st⟩ | ⟨q, vm₁, ⟨U', l2, c2, s2⟩, hW₁, X', ⟨g', mk, t, L, E, ce, e1, e2, hq, hce, hcv, hcl, h1, hL, h2, h3⟩, st⟩
  · dsimp only [Pt.U, Pt.locs, Pt.cells, Pt.slots] at X' e1 e2 h1 h2 h3 st
    subst h1; subst h2; subst h3
    exact Or.inl ⟨v, (T.setVm vm₁).calling g' mk As.toArray, t, U', L, hT, X', hL, e1, e2, hq, st⟩
  · dsimp only [Pt.U, Pt.locs, Pt.cells, Pt.slots] at X' e1 e2 h1 h2 h3 st hcl
    subst h1; subst h2; subst h3
    exact Or.inr ⟨q, (T.setVm vm₁).calling g' mk As.toArray, t, U', L, E, ce, hT, X', hL, e1, e2, hq, hce, hcv, vx_cls hW₁ hcl, st⟩
end Runs
section Rows
variable {p : Program} {l : Launch} {e : Env} {R : Room} {s : State} {m : MethodId} {args : Array Value} {below : List Frame} {meth : Method} {c : Code} {H : Heap} {locs : List Loc} {cells slots : Nat} {Q : State → Prop}
variable {mc ms : Nat} {free : Addr → Prop} {A0 A1 : Nat → Prop} {H0 : Heap} {a : Array Value} {pc : Nat} {ls : Array Slot} {st0 rest : List Value}
theorem vx_keep {st₀ t T' : State} {L : List Loc} (h0 : st₀.heap = H) (e1 : T'.heap = t.heap) (hS : va_S A0 H0 H locs) (hA : ∀ q, q < H.size → A1 q → A0 q) (hf : ∀ q, free q → A0 q) (hL : ∀ q ∈ L, free q.base) (hF : va_F A1 st₀ t) :
    H.size ≤ T'.heap.size ∧ (∀ q : Nat, q < H.size → ¬ A1 q → T'.heap[q]? = H[q]?) ∧ va_S A0 H0 T'.heap (locs ++ L) := by
  obtain ⟨hz, hk⟩ := hF
  rw [h0] at hz hk
  exact ⟨by rw [e1]; exact hz, fun q h1 h2 => by rw [e1]; exact hk q h1 h2,
    ⟨Nat.le_trans hS.1 (by rw [e1]; exact hz), fun q h1 h2 => by rw [e1, hk q (Nat.lt_of_lt_of_le h1 hS.1) (fun z => h2 (hA q (Nat.lt_of_lt_of_le h1 hS.1) z))]; exact hS.2.1 q h1 h2, fun q hq => by
      rcases List.mem_append.mp hq with h | h
      · exact hS.2.2 q h
      · exact hf _ (hL q h)⟩⟩
theorem vx_calli {S SX : Type} {post : Int32 → S → Prop} {px : SX → Prop} {B : S → State → Prop} {BX : String → SX → State → Prop} {AX : Nat → Prop} (hr : vx_Run p l e R s m args below meth c H locs cells slots mc ms (F0 m pc ls st0) rest (va_Qi post B A1 a) (vx_X px BX AX) free) (hS : va_S A0 H0 H locs) (hA : ∀ q, q < H.size → A1 q → A0 q) (hf : ∀ q, free q → A0 q) (hAX : ∀ q, q < H.size → AX q → A0 q)
    (kx : ∀ (E : String) (ce : Cell) (q9 : Addr) (u : SX) (t : State) (H1 : Heap) (locs1 : List Loc), t.heap = H1 → s.vm.Alike t.vm → px u → BX E u t → H.size ≤ H1.size → (∀ q : Nat, q < H.size → ¬ AX q → H1[q]? = H[q]?) → va_S A0 H0 H1 locs1 → H1[q9]? = some ce → ce.vm = .none → s.vm.findClass E = some ce.cls → vx_W p l e R s m args below meth c H1 locs1 (cells + mc) (slots + ms) Q (F0 m pc ls rest) q9)
    (kk : ∀ (r : Int32) (u : S) (t : State) (H1 : Heap) (locs1 : List Loc), t.heap = H1 → s.vm.Alike t.vm → post r u → B u t → H.size ≤ H1.size → (∀ q : Nat, q < H.size → ¬ A1 q → H1[q]? = H[q]?) → va_S A0 H0 H1 locs1 → W p l e R s m args below meth c H1 locs1 (cells + mc) (slots + ms) Q (F0 m (pc + 3) ls (.int r :: rest))) : W p l e R s m args below meth c H locs cells slots Q (F0 m pc ls st0) := by
  intro T hT X
  rcases hr T hT X with ⟨v, st₀, t, T', L, h0, X', hL, e1, e2, ⟨⟨r, u, hv, hp, hb⟩, hF⟩, st⟩ | ⟨q, st₀, t, T', L, E, ce, h0, X', hL, e1, e2, ⟨u, hp, hb, hF⟩, hce, hcv, hcl, st⟩
  · cases hv
    obtain ⟨k1, k2, k3⟩ := vx_keep h0 e1 hS hA hf hL hF
    obtain ⟨t2, a1, b1⟩ := kk r u t T'.heap (locs ++ L) e1.symm (by rw [← e2]; exact X'.warmed.alike) hp hb k1 k2 k3 T' rfl X'
    exact ⟨t2, st t2 a1, b1⟩
  · obtain ⟨k1, k2, k3⟩ := vx_keep h0 e1 hS hAX hf hL hF
    obtain ⟨t2, a1, b1⟩ := kx E ce q u t T'.heap (locs ++ L) e1.symm (by rw [← e2]; exact X'.warmed.alike) hp hb k1 k2 k3 (by rw [e1]; exact hce) hcv hcl T' rfl X'
    exact ⟨t2, st.trans a1, b1⟩
theorem vx_calll {S SX : Type} {post : Int64 → S → Prop} {px : SX → Prop} {B : S → State → Prop} {BX : String → SX → State → Prop} {AX : Nat → Prop} (hr : vx_Run p l e R s m args below meth c H locs cells slots mc ms (F0 m pc ls st0) rest (va_Ql post B A1 a) (vx_X px BX AX) free) (hS : va_S A0 H0 H locs) (hA : ∀ q, q < H.size → A1 q → A0 q) (hf : ∀ q, free q → A0 q) (hAX : ∀ q, q < H.size → AX q → A0 q)
    (kx : ∀ (E : String) (ce : Cell) (q9 : Addr) (u : SX) (t : State) (H1 : Heap) (locs1 : List Loc), t.heap = H1 → s.vm.Alike t.vm → px u → BX E u t → H.size ≤ H1.size → (∀ q : Nat, q < H.size → ¬ AX q → H1[q]? = H[q]?) → va_S A0 H0 H1 locs1 → H1[q9]? = some ce → ce.vm = .none → s.vm.findClass E = some ce.cls → vx_W p l e R s m args below meth c H1 locs1 (cells + mc) (slots + ms) Q (F0 m pc ls rest) q9)
    (kk : ∀ (r : Int64) (u : S) (t : State) (H1 : Heap) (locs1 : List Loc), t.heap = H1 → s.vm.Alike t.vm → post r u → B u t → H.size ≤ H1.size → (∀ q : Nat, q < H.size → ¬ A1 q → H1[q]? = H[q]?) → va_S A0 H0 H1 locs1 → W p l e R s m args below meth c H1 locs1 (cells + mc) (slots + ms) Q (F0 m (pc + 3) ls (.long r :: rest))) : W p l e R s m args below meth c H locs cells slots Q (F0 m pc ls st0) := by
  intro T hT X
  rcases hr T hT X with ⟨v, st₀, t, T', L, h0, X', hL, e1, e2, ⟨⟨r, u, hv, hp, hb⟩, hF⟩, st⟩ | ⟨q, st₀, t, T', L, E, ce, h0, X', hL, e1, e2, ⟨u, hp, hb, hF⟩, hce, hcv, hcl, st⟩
  · cases hv
    obtain ⟨k1, k2, k3⟩ := vx_keep h0 e1 hS hA hf hL hF
    obtain ⟨t2, a1, b1⟩ := kk r u t T'.heap (locs ++ L) e1.symm (by rw [← e2]; exact X'.warmed.alike) hp hb k1 k2 k3 T' rfl X'
    exact ⟨t2, st t2 a1, b1⟩
  · obtain ⟨k1, k2, k3⟩ := vx_keep h0 e1 hS hAX hf hL hF
    obtain ⟨t2, a1, b1⟩ := kx E ce q u t T'.heap (locs ++ L) e1.symm (by rw [← e2]; exact X'.warmed.alike) hp hb k1 k2 k3 (by rw [e1]; exact hce) hcv hcl T' rfl X'
    exact ⟨t2, st.trans a1, b1⟩
theorem vx_callf {S SX : Type} {post : UInt32 → S → Prop} {px : SX → Prop} {B : S → State → Prop} {BX : String → SX → State → Prop} {AX : Nat → Prop} (hr : vx_Run p l e R s m args below meth c H locs cells slots mc ms (F0 m pc ls st0) rest (va_Qf post B A1 a) (vx_X px BX AX) free) (hS : va_S A0 H0 H locs) (hA : ∀ q, q < H.size → A1 q → A0 q) (hf : ∀ q, free q → A0 q) (hAX : ∀ q, q < H.size → AX q → A0 q)
    (kx : ∀ (E : String) (ce : Cell) (q9 : Addr) (u : SX) (t : State) (H1 : Heap) (locs1 : List Loc), t.heap = H1 → s.vm.Alike t.vm → px u → BX E u t → H.size ≤ H1.size → (∀ q : Nat, q < H.size → ¬ AX q → H1[q]? = H[q]?) → va_S A0 H0 H1 locs1 → H1[q9]? = some ce → ce.vm = .none → s.vm.findClass E = some ce.cls → vx_W p l e R s m args below meth c H1 locs1 (cells + mc) (slots + ms) Q (F0 m pc ls rest) q9)
    (kk : ∀ (r : UInt32) (u : S) (t : State) (H1 : Heap) (locs1 : List Loc), t.heap = H1 → s.vm.Alike t.vm → post r u → B u t → H.size ≤ H1.size → (∀ q : Nat, q < H.size → ¬ A1 q → H1[q]? = H[q]?) → va_S A0 H0 H1 locs1 → W p l e R s m args below meth c H1 locs1 (cells + mc) (slots + ms) Q (F0 m (pc + 3) ls (.float r :: rest))) : W p l e R s m args below meth c H locs cells slots Q (F0 m pc ls st0) := by
  intro T hT X
  rcases hr T hT X with ⟨v, st₀, t, T', L, h0, X', hL, e1, e2, ⟨⟨r, u, hv, hp, hb⟩, hF⟩, st⟩ | ⟨q, st₀, t, T', L, E, ce, h0, X', hL, e1, e2, ⟨u, hp, hb, hF⟩, hce, hcv, hcl, st⟩
  · cases hv
    obtain ⟨k1, k2, k3⟩ := vx_keep h0 e1 hS hA hf hL hF
    obtain ⟨t2, a1, b1⟩ := kk r u t T'.heap (locs ++ L) e1.symm (by rw [← e2]; exact X'.warmed.alike) hp hb k1 k2 k3 T' rfl X'
    exact ⟨t2, st t2 a1, b1⟩
  · obtain ⟨k1, k2, k3⟩ := vx_keep h0 e1 hS hAX hf hL hF
    obtain ⟨t2, a1, b1⟩ := kx E ce q u t T'.heap (locs ++ L) e1.symm (by rw [← e2]; exact X'.warmed.alike) hp hb k1 k2 k3 (by rw [e1]; exact hce) hcv hcl T' rfl X'
    exact ⟨t2, st.trans a1, b1⟩
theorem vx_calld {S SX : Type} {post : UInt64 → S → Prop} {px : SX → Prop} {B : S → State → Prop} {BX : String → SX → State → Prop} {AX : Nat → Prop} (hr : vx_Run p l e R s m args below meth c H locs cells slots mc ms (F0 m pc ls st0) rest (va_Qd post B A1 a) (vx_X px BX AX) free) (hS : va_S A0 H0 H locs) (hA : ∀ q, q < H.size → A1 q → A0 q) (hf : ∀ q, free q → A0 q) (hAX : ∀ q, q < H.size → AX q → A0 q)
    (kx : ∀ (E : String) (ce : Cell) (q9 : Addr) (u : SX) (t : State) (H1 : Heap) (locs1 : List Loc), t.heap = H1 → s.vm.Alike t.vm → px u → BX E u t → H.size ≤ H1.size → (∀ q : Nat, q < H.size → ¬ AX q → H1[q]? = H[q]?) → va_S A0 H0 H1 locs1 → H1[q9]? = some ce → ce.vm = .none → s.vm.findClass E = some ce.cls → vx_W p l e R s m args below meth c H1 locs1 (cells + mc) (slots + ms) Q (F0 m pc ls rest) q9)
    (kk : ∀ (r : UInt64) (u : S) (t : State) (H1 : Heap) (locs1 : List Loc), t.heap = H1 → s.vm.Alike t.vm → post r u → B u t → H.size ≤ H1.size → (∀ q : Nat, q < H.size → ¬ A1 q → H1[q]? = H[q]?) → va_S A0 H0 H1 locs1 → W p l e R s m args below meth c H1 locs1 (cells + mc) (slots + ms) Q (F0 m (pc + 3) ls (.double r :: rest))) : W p l e R s m args below meth c H locs cells slots Q (F0 m pc ls st0) := by
  intro T hT X
  rcases hr T hT X with ⟨v, st₀, t, T', L, h0, X', hL, e1, e2, ⟨⟨r, u, hv, hp, hb⟩, hF⟩, st⟩ | ⟨q, st₀, t, T', L, E, ce, h0, X', hL, e1, e2, ⟨u, hp, hb, hF⟩, hce, hcv, hcl, st⟩
  · cases hv
    obtain ⟨k1, k2, k3⟩ := vx_keep h0 e1 hS hA hf hL hF
    obtain ⟨t2, a1, b1⟩ := kk r u t T'.heap (locs ++ L) e1.symm (by rw [← e2]; exact X'.warmed.alike) hp hb k1 k2 k3 T' rfl X'
    exact ⟨t2, st t2 a1, b1⟩
  · obtain ⟨k1, k2, k3⟩ := vx_keep h0 e1 hS hAX hf hL hF
    obtain ⟨t2, a1, b1⟩ := kx E ce q u t T'.heap (locs ++ L) e1.symm (by rw [← e2]; exact X'.warmed.alike) hp hb k1 k2 k3 (by rw [e1]; exact hce) hcv hcl T' rfl X'
    exact ⟨t2, st.trans a1, b1⟩
theorem vx_callv {S SX : Type} {post : S → Prop} {px : SX → Prop} {B : S → State → Prop} {BX : String → SX → State → Prop} {AX : Nat → Prop} (hr : vx_Run p l e R s m args below meth c H locs cells slots mc ms (F0 m pc ls st0) rest (va_Qv post B A1 a) (vx_X px BX AX) free) (hS : va_S A0 H0 H locs) (hA : ∀ q, q < H.size → A1 q → A0 q) (hf : ∀ q, free q → A0 q) (hAX : ∀ q, q < H.size → AX q → A0 q)
    (kx : ∀ (E : String) (ce : Cell) (q9 : Addr) (u : SX) (t : State) (H1 : Heap) (locs1 : List Loc), t.heap = H1 → s.vm.Alike t.vm → px u → BX E u t → H.size ≤ H1.size → (∀ q : Nat, q < H.size → ¬ AX q → H1[q]? = H[q]?) → va_S A0 H0 H1 locs1 → H1[q9]? = some ce → ce.vm = .none → s.vm.findClass E = some ce.cls → vx_W p l e R s m args below meth c H1 locs1 (cells + mc) (slots + ms) Q (F0 m pc ls rest) q9)
    (kk : ∀ (u : S) (t : State) (H1 : Heap) (locs1 : List Loc), t.heap = H1 → s.vm.Alike t.vm → post u → B u t → H.size ≤ H1.size → (∀ q : Nat, q < H.size → ¬ A1 q → H1[q]? = H[q]?) → va_S A0 H0 H1 locs1 → W p l e R s m args below meth c H1 locs1 (cells + mc) (slots + ms) Q (F0 m (pc + 3) ls (rest))) : W p l e R s m args below meth c H locs cells slots Q (F0 m pc ls st0) := by
  intro T hT X
  rcases hr T hT X with ⟨v, st₀, t, T', L, h0, X', hL, e1, e2, ⟨⟨u, hv, hp, hb⟩, hF⟩, st⟩ | ⟨q, st₀, t, T', L, E, ce, h0, X', hL, e1, e2, ⟨u, hp, hb, hF⟩, hce, hcv, hcl, st⟩
  · cases hv
    obtain ⟨k1, k2, k3⟩ := vx_keep h0 e1 hS hA hf hL hF
    obtain ⟨t2, a1, b1⟩ := kk u t T'.heap (locs ++ L) e1.symm (by rw [← e2]; exact X'.warmed.alike) hp hb k1 k2 k3 T' rfl X'
    exact ⟨t2, st t2 a1, b1⟩
  · obtain ⟨k1, k2, k3⟩ := vx_keep h0 e1 hS hAX hf hL hF
    obtain ⟨t2, a1, b1⟩ := kx E ce q u t T'.heap (locs ++ L) e1.symm (by rw [← e2]; exact X'.warmed.alike) hp hb k1 k2 k3 (by rw [e1]; exact hce) hcv hcl T' rfl X'
    exact ⟨t2, st.trans a1, b1⟩
/-- caught by the row x of this method's table; the rows ahead don't take it -/
theorem vx_catch {own name : String} {E : String} {ce : Cell} {q : Addr} (hown : s.vm.findClass own = some m.cls) (pre : List ExceptionTableEntry) (x : ExceptionTableEntry) (suf : List ExceptionTableEntry) (hsplit : c.exceptionTable.toList = pre ++ x :: suf)
    (hpass : ∀ z ∈ pre, covers z pc = false ∨ (z.catchType ≠ 0 ∧ ∃ nm : String, (Cond.classLink own z.catchType nm).before args s = true ∧ va_Nc E nm s)) (hx : covers x pc = true) (h0 : x.catchType ≠ 0)
    (hlink : (Cond.classLink own x.catchType name).before args s = true) (hcast : (Cond.castable E name).before args s = true) (hcell : H[q]? = some ce) (hv : ce.vm = .none) (hcl : s.vm.findClass E = some ce.cls)
    (kk : W p l e R s m args below meth c H locs cells slots Q (F0 m x.handlerPc ls [.ref q])) : vx_W p l e R s m args below meth c H locs cells slots Q (F0 m pc ls rest) q := by
  intro T hT X
  have hpl : e.platform.magicAccessors = ({} : Platform).magicAccessors := by rw [X.admits.platform]
  obtain ⟨c3, c4, hc3, hc4, hasg⟩ := Cond.castable_spec hcast
  cases Option.some.inj (hc3.symm.trans hcl)
  obtain ⟨c5, hc5, hcl5⟩ := Cond.classLink_spec hown hlink e.platform hpl
  cases Option.some.inj (hc4.symm.trans hc5)
  obtain ⟨vm', X', st⟩ := X.thenCaughtThrough q (g := F0 m pc ls rest) rfl (Steps.refl _) (by rw [hT]; exact hcell) (by rw [hv]; rfl) (by obtain ⟨k9, h9, -⟩ := Vm.findClass_spec hcl; exact ⟨k9, h9⟩) pre x suf hsplit
    (fun z hz => by
      rcases hpass z hz with h | ⟨hz0, nm, hl1, hn1⟩
      · exact Or.inl h
      · obtain ⟨c6, hc6, hcl6⟩ := Cond.classLink_spec hown hl1 e.platform hpl
        obtain ⟨a8, b8, h1, h2, h3⟩ := hn1
        cases Option.some.inj (h1.symm.trans hcl)
        cases Option.some.inj (h2.symm.trans hc6)
        exact Or.inr ⟨hz0, _, hcl6, h3⟩) hx (Or.inr ⟨h0, c4, hcl5, hasg⟩)
  obtain ⟨t, a1, b1⟩ := kk (T.setVm vm') hT X'
  exact ⟨t, st.trans a1, b1⟩
end Rows
section Ends
variable {p : Program} {l : Launch} {e : Env} {R : Room} {s : State} {m : MethodId} {args : Array Value} {below : List Frame} {meth : Method} {c : Code} {H : Heap} {locs : List Loc} {cells slots : Nat} {Q : State → Prop}
variable {mc ms : Nat} {free : Addr → Prop} {A0 A1 : Nat → Prop} {H0 : Heap} {a : Array Value} {ls : Array Slot} {st0 rest : List Value}
variable {Qc : Array Value → State → Outcome → State → Prop} {XC : String → State → State → Prop}
/-- what a body that may throw owes at its end -/
def vx_MQ (below : List Frame) (Qc : Array Value → State → Outcome → State → Prop) (XC : String → State → State → Prop) (a : Array Value) (s : State) (mc ms : Nat) (free : Addr → Prop) : State → Prop := fun t =>
  ∃ o, t.status = .running ∧ Ended t below o ∧ vx_Q Qc XC mc ms free a s o t
theorem vx_ret {g : JFrame} {mc ms : Nat} (k : W p l e R s m args below meth c H locs cells slots (MQ below Qc args s mc ms free) g) : W p l e R s m args below meth c H locs cells slots (vx_MQ below Qc XC args s mc ms free) g := by
  intro T hT X
  obtain ⟨t, a1, o, b1, b2, b3, b4⟩ := k T hT X
  exact ⟨t, a1, o, b1, b2, Or.inl ⟨b3, b4⟩⟩
/-- not caught here: it goes on to the caller -/
theorem vx_widen {g : JFrame} {q : Addr} {k n : Nat} (h1 : cells ≤ k) (h2 : slots ≤ n) (kk : vx_W p l e R s m args below meth c H locs k n Q g q) : vx_W p l e R s m args below meth c H locs cells slots Q g q := fun T hT X => kk T hT (stand_widen X h1 h2)
theorem vx_out {pc : Nat} {E : String} {ce : Cell} {q : Addr} {mc ms : Nat} (hout : ∀ x ∈ c.exceptionTable.toList, covers x pc = false) (hlocks : meth.locks = false) (hcell : H[q]? = some ce) (hv : ce.vm = .none) (hcl : s.vm.findClass E = some ce.cls)
    (hx : ∀ t : State, t.heap = H → s.vm.Alike t.vm → XC E s t) (hf : ∀ z ∈ locs, free z.base) (hc : cells ≤ mc) (hs : slots ≤ ms) :
    vx_W p l e R s m args below meth c H locs cells slots (vx_MQ below Qc XC args s mc ms free) (F0 m pc ls rest) q := by
  intro T hT X
  obtain ⟨st1, hrun, hend, hW, hsm⟩ := X.leaveThrown q (g := F0 m pc ls rest) rfl rfl rfl hout hlocks
  have hcell9 : (T.setFrames (.throwing q :: below)).heap[q]? = some ce := by
    show T.heap[q]? = some ce
    rw [hT]; exact hcell
  exact ⟨_, st1, .threw q, hrun, hend, Or.inr ⟨q, rfl, E, ce, locs, hx _ hT hW.alike, hcell9, hv, hcl, hW, hsm.mono hc hs, hf⟩⟩
theorem vx_frame {U : State} {k n : Nat} (h : s.sameButNew ({ U with vm := s.vm } : State) locs k n) : s.heap.size ≤ U.heap.size ∧ ∀ q : Nat, q < s.heap.size → (∀ z ∈ locs, z.base ≠ q) → U.heap[q]? = s.heap[q]? := by
  obtain ⟨-, h2, -, -, -, h6⟩ := h
  refine ⟨h2, fun q hq hz => ?_⟩
  obtain ⟨c9, e1, e2, e3, e4⟩ := h6 q _ (Array.getElem?_eq_getElem hq)
  have hs : c9.slots = (s.heap[q]).slots := Array.ext_getElem? fun i => e4 i fun hm => hz _ hm rfl
  have h9 : c9 = s.heap[q] := by
    rw [hs] at e2
    exact e2
  have e5 : U.heap[q]? = some c9 := e1
  rw [e5, h9, Array.getElem?_eq_getElem hq]
/-- the words of a throw but the four that speak of the heap -/
def vx_no (w : Cond) : Bool := decide (w ≠ .isRef (.static Bundle.tN "UNASSIGNED_STACK" Bundle.steD)) && decide (w ≠ .isRef (.static Bundle.tN "SUPPRESSED_SENTINEL" Bundle.listD)) && decide (w ≠ .laysStatic Bundle.tN "UNASSIGNED_STACK" Bundle.steD) && decide (w ≠ .laysStatic Bundle.tN "SUPPRESSED_SENTINEL" Bundle.listD)
def vx_at0 (own : String) (ic : Nat) (X : String) (names : List String) : List Cond := (Bundle.ownAtoms0 own ic X names).filter vx_no
def vx_atS (own : String) (ic : Nat) (X : String) (names : List String) : List Cond := (Bundle.ownAtoms own ic X names).filter vx_no
/-- a word that the tables alone decide, or a good one -/
def vx_ot (w : Cond) : Bool := w.onTables || goodWord w
theorem vx_ot_at {args a' : Array Value} {s U : State} {w : Cond} (hW : s.WarmedH U.vm) (hvm : s.vm = U.vm) (hg : vx_ot w = true) (h : w.before args s = true) : w.before a' U = true := by
  simp only [vx_ot, Bool.or_eq_true] at hg
  rcases hg with hg | hg
  · exact va_tabs hg hvm h
  · exact word_at hW (good_of_word hg) h
/-- a list's words: the good ones out of the method's own list, the others by premises of their own -/
theorem vx_hat {args : Array Value} {s : State} {L B : List Cond} (h1 : ∀ w ∈ L.filter goodWord, w.before args s = true) (h2 : ∀ w ∈ L.filter (fun w => !goodWord w), w ∈ B) (h3 : ∀ w ∈ B, w.before args s = true) : ∀ w ∈ L, w.before args s = true := by
  intro w hw
  by_cases g : goodWord w = true
  · exact h1 w (List.mem_filter.mpr ⟨hw, g⟩)
  · refine h3 w (h2 w (List.mem_filter.mpr ⟨hw, ?_⟩))
    show (!goodWord w) = true
    cases hgw : goodWord w
    · rfl
    · exact absurd hgw g
theorem vx_c {args : Array Value} {s : State} {w : Cond} {B : List Cond} (h : w.before args s = true) (t : ∀ w ∈ B, w.before args s = true) : ∀ w' ∈ w :: B, w'.before args s = true := fun w' h' => (List.mem_cons.mp h').elim (fun e => by rw [e]; exact h) (t w')
theorem vx_n {args : Array Value} {s : State} : ∀ w ∈ ([] : List Cond), w.before args s = true := fun _ h => nomatch h
theorem vx_own {args : Array Value} {s : State} {L : List Cond} (h1 : ∀ w ∈ L.filter vx_no, w.before args s = true)
    (hU : (Cond.isRef (.static Bundle.tN "UNASSIGNED_STACK" Bundle.steD)).before args s = true) (hN : (Cond.isRef (.static Bundle.tN "SUPPRESSED_SENTINEL" Bundle.listD)).before args s = true)
    (lU : (Cond.laysStatic Bundle.tN "UNASSIGNED_STACK" Bundle.steD).before args s = true) (lN : (Cond.laysStatic Bundle.tN "SUPPRESSED_SENTINEL" Bundle.listD).before args s = true) : ∀ w ∈ L, w.before args s = true := by
  intro w hw
  by_cases e1 : w = .isRef (.static Bundle.tN "UNASSIGNED_STACK" Bundle.steD)
  · rw [e1]; exact hU
  · by_cases e2 : w = .isRef (.static Bundle.tN "SUPPRESSED_SENTINEL" Bundle.listD)
    · rw [e2]; exact hN
    · by_cases e3 : w = .laysStatic Bundle.tN "UNASSIGNED_STACK" Bundle.steD
      · rw [e3]; exact lU
      · by_cases e4 : w = .laysStatic Bundle.tN "SUPPRESSED_SENTINEL" Bundle.listD
        · rw [e4]; exact lN
        · exact h1 w (List.mem_filter.mpr ⟨hw, by unfold vx_no; rw [decide_eq_true e1, decide_eq_true e2, decide_eq_true e3, decide_eq_true e4]; rfl⟩)
/-- where a static field lies, its class's statics cell in H -/
def vx_L (C n d : String) (A : Nat → Prop) (U : State) (H : Heap) : Prop := ∃ (c : ClassId) (k : Class) (i : Nat) (f : Field) (a : Nat) (cell : Cell), U.vm.findClass C = some c ∧ U.fieldFound? C n d = some (c, k, i, f) ∧ f.isStatic = true ∧ k.statics = some a ∧ H[a]? = some cell ∧ cell.vm.isStatics = true ∧ cell.cls = c ∧ f.slot < cell.slots.size ∧ k.staticTypes[f.slot]? = some f.type ∧ ¬ A a
theorem vx_L.moved {C n d : String} {A : Nat → Prop} {u U : State} {H : Heap} (hvm : u.vm.Alike U.vm) (h : vx_L C n d A u H) : vx_L C n d A U H := by
  obtain ⟨c, k, i, f, a, cell, h1, h2, h3, h4, h5, h6, h7, h8, h9, h10⟩ := h
  obtain ⟨k', hi', he⟩ := State.fieldFound?_setVm hvm h2
  exact ⟨c, k', i, f, a, cell, by rw [hvm.findClass]; exact h1, hi', h3, by rw [he]; exact h4, h5, h6, h7, h8, by rw [he]; exact h9, h10⟩
theorem vx_L.kept {C n d : String} {A : Nat → Prop} {U : State} {H H1 : Heap} (h : vx_L C n d A U H) (hq : ∀ a : Nat, a < H.size → ¬ A a → H1[a]? = H[a]?) : vx_L C n d A U H1 := by
  obtain ⟨c, k, i, f, a, cell, h1, h2, h3, h4, h5, h6, h7, h8, h9, h10⟩ := h
  exact ⟨c, k, i, f, a, cell, h1, h2, h3, h4, by rw [hq a (Array.getElem?_eq_some_iff.mp h5).1 h10]; exact h5, h6, h7, h8, h9, h10⟩
theorem vx_L.narrow {C n d : String} {A B : Nat → Prop} {U : State} {H : Heap} (h : vx_L C n d A U H) (hAB : ∀ q, B q → A q) : vx_L C n d B U H := by
  obtain ⟨c, k, i, f, a, cell, h1, h2, h3, h4, h5, h6, h7, h8, h9, h10⟩ := h
  exact ⟨c, k, i, f, a, cell, h1, h2, h3, h4, h5, h6, h7, h8, h9, fun z => h10 (hAB _ z)⟩
theorem vx_L.word {C n d : String} {A : Nat → Prop} {s : State} {args : Array Value} (h : vx_L C n d A s s.heap) : (Cond.laysStatic C n d).before args s = true := by
  obtain ⟨c, k, i, f, a, cell, h1, h2, h3, h4, h5, h6, h7, h8, h9, -⟩ := h
  show (Cond.laysStatic C n d).holds args s none s [] = true
  exact Cond.laysStatic_of h1 h2 h3 h4 h5 h6 h7 h8 h9
/-- .. and what it holds: null or some reference -/
def vx_Zq (C n d : String) (A : Nat → Prop) (U : State) (H : Heap) : Prop := va_Zq C n d A U H ∧ vx_L C n d A U H
theorem vx_Zq.moved {C n d : String} {A : Nat → Prop} {u U : State} {H : Heap} (hvm : u.vm.Alike U.vm) (h : vx_Zq C n d A u H) : vx_Zq C n d A U H := ⟨va_Zq.moved hvm h.1, vx_L.moved hvm h.2⟩
theorem vx_Zq.kept {C n d : String} {A : Nat → Prop} {U : State} {H H1 : Heap} (h : vx_Zq C n d A U H) (hq : ∀ a : Nat, a < H.size → ¬ A a → H1[a]? = H[a]?) : vx_Zq C n d A U H1 := ⟨va_Zq.kept h.1 hq, vx_L.kept h.2 hq⟩
theorem vx_Zq.narrow {C n d : String} {A B : Nat → Prop} {U : State} {H : Heap} (h : vx_Zq C n d A U H) (hAB : ∀ q, B q → A q) : vx_Zq C n d B U H := ⟨va_Zq.narrow h.1 hAB, vx_L.narrow h.2 hAB⟩
theorem vx_Zqof {args : Array Value} {s : State} {C n d : String} {A : Nat → Prop} (hl : (Cond.laysStatic C n d).before args s = true) (hini : (Cond.initialized C).before args s = true) (h : (Cond.isRef (.static C n d)).before args s = true) (hA : ∀ a : Nat, a < s.heap.size → ¬ A a) : vx_Zq C n d A s s.heap := by
  refine ⟨va_Zqof hl hini h hA, ?_⟩
  obtain ⟨c, k, i, f, a, cell, h1, h2, h3, h4, h5, h6, h7, h8, h9⟩ := Cond.laysStatic_spec hl
  exact ⟨c, k, i, f, a, cell, h1, h2, h3, h4, h5, h6, h7, h8, h9, hA a (Array.getElem?_eq_some_iff.mp h5).1⟩
theorem vx_isRef {C n d : String} {v : Value} {A : Nat → Prop} {s : State} {args : Array Value} (h : va_Z C n d v A s s.heap) (hv : v.isRef = true) : (Cond.isRef (.static C n d)).before args s = true := by
  obtain ⟨cf, kf, fi, f, a, cell, h1, h2, h3, h4, h5, h6, h7, -⟩ := h
  have he : (Term.static C n d).eval args s none [] s = some v := by
    simp [Term.eval, State.fieldNamed?, h1, h2, h4, h5, h6, h7]
  simp only [Cond.before, Cond.holds, Cond.value, he]
  cases v <;> simp_all [Value.isRef]
theorem vx_isRefq {C n d : String} {A : Nat → Prop} {s : State} {args : Array Value} (h : va_Zq C n d A s s.heap) : (Cond.isRef (.static C n d)).before args s = true := by
  rcases h with h | ⟨t, h⟩
  · exact vx_isRef h rfl
  · exact vx_isRef h rfl
/-- the same frame, seen from here: as if the method were called anew in this heap -/
theorem vx_rebase {T : State} (X : Stand p l e R s m args below meth c T locs cells slots) {R' : Room} (hf : R'.frames ≤ R.frames) (hl : R'.locals ≤ R.locals) (hc : cells + R'.cells ≤ R.cells) (hs : slots + R'.slots ≤ R.slots) :
    Stand p l e R' ((T.setVm s.vm).setFrames (.invoking m args :: below)) m args below meth c T [] 0 0 := by
  have htop : (T.setVm s.vm).topJava?.isSome := X.here.top
  have hF : ((T.setVm s.vm).setFrames (.invoking m args :: below)).frames = .invoking m args :: below := State.frames_setFrames _ (State.cur_lt_of_top htop)
  obtain ⟨g₀, hg0⟩ := Option.isSome_iff_exists.mp htop
  obtain ⟨r, hr⟩ := State.topJava?_eq_some.mp hg0
  have hl9 : e.platform.stackLimits (T.setVm s.vm).me = e.platform.stackLimits s.me := X.limits
  have hb9 : (T.setVm s.vm).me.stackBytes = s.me.stackBytes := X.bytes
  refine ⟨X.admits, X.cas, X.clock, hF, ?_, X.hears, X.method, X.code, X.here, X.tail, X.warmed, ?_, ?_, ?_⟩
  · have h := X.room
    have hU : ((T.setVm s.vm).setFrames (.invoking m args :: below)).localsInUse = s.localsInUse := by
      rw [State.localsInUse_invoking hF (meth := meth) (c := c) X.method X.code, State.localsInUse_invoking X.frames X.method X.code]
    simp only [State.hasRoom, Bool.and_eq_true, decide_eq_true_eq] at h ⊢
    obtain ⟨⟨⟨⟨h1, h2, h3, h4, h5, h6⟩, h7⟩, h8⟩, h9⟩ := h
    rw [X.frames, List.length_cons] at h2 h3
    have q1 := X.heapSize
    have q2 := X.used
    simp only [hF, hU, List.length_cons, State.stackLimits_setFrames, State.stackBytes_setFrames, hl9, hb9]
    refine ⟨⟨⟨⟨by omega, by omega, by omega, by omega, by omega, h6⟩, ?_⟩, ?_⟩, X.book⟩
    · show T.heap.size + R'.cells ≤ e.platform.maxCells
      omega
    · show T.slotsUsed + R'.slots ≤ e.platform.maxSlots
      omega
  · rw [State.stackLimits_setFrames]; rfl
  · rw [State.stackBytes_setFrames]; rfl
  · refine ⟨?_, Nat.le_refl _, Nat.le_refl _, ?_, ?_, fun a c9 h9 => ⟨c9, h9, rfl, rfl, fun _ _ => rfl⟩⟩
    · obtain ⟨t, ht, -⟩ := State.frames_cons hr
      show T.setVm s.vm = { ((T.setVm s.vm).setFrames (.invoking m args :: below)).setFrames (T.setVm s.vm).frames with heap := T.heap, slotsUsed := T.slotsUsed }
      rw [State.setFrames_setFrames, State.setFrames_self ht]
      rfl
    · show T.slotsUsed = T.slotsUsed + ((T.heap.toList.drop T.heap.size).map (·.slots.size)).sum
      rw [List.drop_eq_nil_of_le (Nat.le_of_eq Array.length_toList)]
      rfl
    · show ((T.heap.toList.drop T.heap.size).map (·.slots.size)).sum ≤ 0
      rw [List.drop_eq_nil_of_le (Nat.le_of_eq Array.length_toList)]
      exact Nat.le_refl _
/-- 'throw new E()': new; dup; invokespecial; athrow -/
theorem vx_throw0 {cc : ByteArray} {pc : Nat} (hexec : p.tables.exec = Jvm.exec) (hb : c.code = cc) (hl : l.stackTraces = false) {own cls : String} {names : List String} {ik ic mc ms : Nat} {A : Nat → Prop}
    (hown : s.vm.findClass own = some m.cls) (hcls : Bundle.fit cls = true) (hnames : ∀ n ∈ names, Bundle.fit n = true)
    (hk : (Cond.classLink own ik cls).before args s = true) (hini : (Cond.initialized cls).before args s = true) (hat : ∀ w ∈ vx_at0 own ic cls names, w.before args s = true)
    (hgood : ∀ w ∈ Cond.classLink own ik cls :: Cond.initialized cls :: vx_at0 own ic cls names, vx_ot w = true)
    (hU : vx_Zq Bundle.tN "UNASSIGNED_STACK" Bundle.steD A s s.heap) (hN : vx_Zq Bundle.tN "SUPPRESSED_SENTINEL" Bundle.listD A s s.heap) (hS : va_S A s.heap H locs) (hsize : ls.size = c.maxLocals)
    (d0 : decode cc pc = .ok (.new ik, 3)) (d3 : decode cc (pc + 3) = .ok (.dup, 1)) (d4 : decode cc (pc + 4) = .ok (.invokespecial ic, 3)) (d7 : decode cc (pc + 7) = .ok (.athrow, 1))
    (hout : ∀ x ∈ c.exceptionTable.toList, covers x (pc + 7) = false)
    (hRframes : names.length + 3 < R.frames) (hRlocals : (rest.map fun v => v.category).sum + (13 * (names.length + 1) + 42) ≤ R.locals) (hRcells : cells + 1 ≤ R.cells) (hRslots : slots + 6 ≤ R.slots) (hlocks : meth.locks = false)
    (hx : ∀ t : State, s.vm.Alike t.vm → H.size ≤ t.heap.size → (∀ q : Nat, q < H.size → t.heap[q]? = H[q]?) → XC cls s t)
    (hf : ∀ z ∈ locs, free z.base) (hc : cells + 1 ≤ mc) (hs : slots + 6 ≤ ms) :
    W p l e R s m args below meth c H locs cells slots (vx_MQ below Qc XC args s mc ms free) (F0 m pc ls rest) := by
  intro T hT X
  have htr : e.platform.stackTraces = false := (show e.platform.stackTraces = l.stackTraces by rw [X.admits.platform]).trans hl
  have Y := vx_rebase X (R' := { frames := R.frames, locals := R.locals, cells := 1, slots := 6 }) (Nat.le_refl _) (Nat.le_refl _) hRcells hRslots
  obtain ⟨s', hA⟩ : ∃ z, z = (T.setVm s.vm).setFrames (.invoking m args :: below) := ⟨_, rfl⟩
  rw [← hA] at Y
  have hvm : s'.vm = s.vm := by rw [hA]; rfl
  have hhp : s'.heap = H := by rw [hA]; exact hT
  have hW0 : s.WarmedH s'.vm := by rw [hvm]; exact State.WarmedH.refl s
  have hat' : ∀ w ∈ vx_at0 own ic cls names, w.before args s' = true := fun w hw => vx_ot_at hW0 hvm.symm (hgood w (List.mem_cons_of_mem _ (List.mem_cons_of_mem _ hw))) (hat w hw)
  have hk' : (Cond.classLink own ik cls).before args s' = true := vx_ot_at hW0 hvm.symm (hgood _ List.mem_cons_self) hk
  have hini' : (Cond.initialized cls).before args s' = true := vx_ot_at hW0 hvm.symm (hgood _ (List.mem_cons_of_mem _ List.mem_cons_self)) hini
  have hU' : vx_Zq Bundle.tN "UNASSIGNED_STACK" Bundle.steD A s' s'.heap := by rw [hhp]; exact vx_Zq.moved hW0.alike (hU.kept hS.2.1)
  have hN' : vx_Zq Bundle.tN "SUPPRESSED_SENTINEL" Bundle.listD A s' s'.heap := by rw [hhp]; exact vx_Zq.moved hW0.alike (hN.kept hS.2.1)
  have h : ∀ w ∈ Bundle.ownAtoms0 own ic cls names, w.before args s' = true := vx_own hat' (vx_isRefq hU'.1) (vx_isRefq hN'.1) hU'.2.word hN'.2.word
  have hown' : s'.vm.findClass own = some m.cls := by rw [hvm]; exact hown
  have hins : (Cond.instantiable cls 6).before args s' = true := h _ (by simp [Bundle.ownAtoms0])
  obtain ⟨vm₁, cX, kX, hfX, hkX, -, -, X₁, st1⟩ := Y.newCold hexec (own := own) (C := cls) (index := ik) (n := 6) hown' hk' hins hini'
    (g := F0 m pc ls rest) rfl (by rw [hb]; exact d0) (Nat.le_refl _) (Nat.le_refl _)
  generalize hT1 : (T.setVm vm₁).pushCell { cls := cX, slots := kX.instanceTypes.map defaultValue, vm := .none } = T1 at X₁ st1
  have hcat : (Value.ref T.heap.size).category = 1 := rfl
  have hcellA : T1.heap[T.heap.size]? = some (freshCell cX kX) := by rw [← hT1]; exact State.heap_pushCell_size _ _
  have d3' : decode c.code (pc + 3) = .ok (.dup, 1) := by rw [hb]; exact d3
  obtain ⟨U, hsteps, hrun, hend, hW, hsame, ce, hce, hO⟩ := X₁.ctorThrow0 hexec htr (own := own) (cls := cls) (names := names) (ic := ic) hown' hcls hnames h (fun x hx => nomatch hx) hfX hkX hcellA (by rw [hhp, hT]; exact Nat.le_refl _)
    (g := { method := m, pc := pc + 4, locals := ls, stack := .ref T.heap.size :: .ref T.heap.size :: rest, locked := none }) rfl hsize rfl rfl (rest := rest) rfl
    (by rw [hb]; exact d4) (by rw [hb]; exact d7) hout hRframes (by simp only [List.map_cons, List.sum_cons, hcat]; omega) hlocks
  obtain ⟨f1, f2⟩ := vx_frame hsame
  rw [hhp] at f1 f2
  have hWs : s.WarmedH U.vm := State.WarmedH.trans hW0 hW
  have hcl : s.vm.findClass cls = some ce.cls := by
    have h9 := hO.cls
    rw [hvm] at h9
    exact h9
  have hall : s.sameButNew ({ U with vm := s.vm } : State) locs mc ms := by
    subst hA
    obtain ⟨e1, e2⟩ := hsame
    rw [State.setFrames_setFrames] at e1
    have h2 : (T.setVm s.vm).sameButNew ({ U with vm := s.vm } : State) [] (0 + 1) (0 + 6) := ⟨e1, e2⟩
    have h3 := X.same.trans h2
    rw [List.append_nil] at h3
    exact h3.mono hc hs
  refine ⟨U, ?_, .threw T.heap.size, hrun, hend, Or.inr ⟨T.heap.size, rfl, cls, ce, locs, hx U hWs.alike f1 (fun q hq => f2 q hq (fun z hz => nomatch hz)), hce, hO.vm, hcl, hWs, hall, hf⟩⟩
  refine st1 _ ?_
  show Steps p.tables e below (T1.setTop { method := m, pc := pc + 3, locals := ls, stack := .ref T.heap.size :: rest, locked := none }) _
  jvm_step X₁.here [X₁.here.top, hexec, d3', Value.category]
  exact hsteps
/-- 'throw new E("text")': new; dup; ldc; invokespecial; athrow -/
theorem vx_throwS {cc : ByteArray} {pc : Nat} (hexec : p.tables.exec = Jvm.exec) (hb : c.code = cc) (hl : l.stackTraces = false) {own cls text : String} {names : List String} {ik is ic mc ms sa : Nat} {A : Nat → Prop}
    (hown : s.vm.findClass own = some m.cls) (hcls : Bundle.fit cls = true) (hnames : ∀ n ∈ names, Bundle.fit n = true)
    (hk : (Cond.classLink own ik cls).before args s = true) (hini : (Cond.initialized cls).before args s = true) (hstr : vk_R own is text sa s) (hat : ∀ w ∈ vx_atS own ic cls names, w.before args s = true)
    (hgood : ∀ w ∈ Cond.classLink own ik cls :: Cond.initialized cls :: vx_atS own ic cls names, vx_ot w = true)
    (hU : vx_Zq Bundle.tN "UNASSIGNED_STACK" Bundle.steD A s s.heap) (hN : vx_Zq Bundle.tN "SUPPRESSED_SENTINEL" Bundle.listD A s s.heap) (hS : va_S A s.heap H locs) (hsize : ls.size = c.maxLocals)
    (d0 : decode cc pc = .ok (.new ik, 3)) (d3 : decode cc (pc + 3) = .ok (.dup, 1)) (d4 : decode cc (pc + 4) = .ok (.ldc is, 2)) (d6 : decode cc (pc + 6) = .ok (.invokespecial ic, 3)) (d9 : decode cc (pc + 9) = .ok (.athrow, 1))
    (hout : ∀ x ∈ c.exceptionTable.toList, covers x (pc + 9) = false)
    (hRframes : names.length + 3 < R.frames) (hRlocals : (rest.map fun v => v.category).sum + (13 * (names.length + 1) + 43) ≤ R.locals) (hRcells : cells + 1 ≤ R.cells) (hRslots : slots + 6 ≤ R.slots) (hlocks : meth.locks = false)
    (hx : ∀ t : State, s.vm.Alike t.vm → H.size ≤ t.heap.size → (∀ q : Nat, q < H.size → t.heap[q]? = H[q]?) → XC cls s t)
    (hf : ∀ z ∈ locs, free z.base) (hc : cells + 1 ≤ mc) (hs : slots + 6 ≤ ms) :
    W p l e R s m args below meth c H locs cells slots (vx_MQ below Qc XC args s mc ms free) (F0 m pc ls rest) := by
  intro T hT X
  have htr : e.platform.stackTraces = false := (show e.platform.stackTraces = l.stackTraces by rw [X.admits.platform]).trans hl
  have Y := vx_rebase X (R' := { frames := R.frames, locals := R.locals, cells := 1, slots := 6 }) (Nat.le_refl _) (Nat.le_refl _) hRcells hRslots
  obtain ⟨s', hA⟩ : ∃ z, z = (T.setVm s.vm).setFrames (.invoking m args :: below) := ⟨_, rfl⟩
  rw [← hA] at Y
  have hvm : s'.vm = s.vm := by rw [hA]; rfl
  have hhp : s'.heap = H := by rw [hA]; exact hT
  have hW0 : s.WarmedH s'.vm := by rw [hvm]; exact State.WarmedH.refl s
  have hat' : ∀ w ∈ vx_atS own ic cls names, w.before args s' = true := fun w hw => vx_ot_at hW0 hvm.symm (hgood w (List.mem_cons_of_mem _ (List.mem_cons_of_mem _ hw))) (hat w hw)
  have hk' : (Cond.classLink own ik cls).before args s' = true := vx_ot_at hW0 hvm.symm (hgood _ List.mem_cons_self) hk
  have hini' : (Cond.initialized cls).before args s' = true := vx_ot_at hW0 hvm.symm (hgood _ (List.mem_cons_of_mem _ List.mem_cons_self)) hini
  have hU' : vx_Zq Bundle.tN "UNASSIGNED_STACK" Bundle.steD A s' s'.heap := by rw [hhp]; exact vx_Zq.moved hW0.alike (hU.kept hS.2.1)
  have hN' : vx_Zq Bundle.tN "SUPPRESSED_SENTINEL" Bundle.listD A s' s'.heap := by rw [hhp]; exact vx_Zq.moved hW0.alike (hN.kept hS.2.1)
  have h : ∀ w ∈ Bundle.ownAtoms own ic cls names, w.before args s' = true := vx_own hat' (vx_isRefq hU'.1) (vx_isRefq hN'.1) hU'.2.word hN'.2.word
  have hown' : s'.vm.findClass own = some m.cls := by rw [hvm]; exact hown
  have hins : (Cond.instantiable cls 6).before args s' = true := h _ (by simp [Bundle.ownAtoms])
  obtain ⟨vm₁, cX, kX, hfX, hkX, -, -, X₁, st1⟩ := Y.newCold hexec (own := own) (C := cls) (index := ik) (n := 6) hown' hk' hins hini'
    (g := F0 m pc ls rest) rfl (by rw [hb]; exact d0) (Nat.le_refl _) (Nat.le_refl _)
  generalize hT1 : (T.setVm vm₁).pushCell { cls := cX, slots := kX.instanceTypes.map defaultValue, vm := .none } = T1 at X₁ st1
  have hcat : (Value.ref T.heap.size).category = 1 := rfl
  have hcellA : T1.heap[T.heap.size]? = some (freshCell cX kX) := by rw [← hT1]; exact State.heap_pushCell_size _ _
  have d3' : decode c.code (pc + 3) = .ok (.dup, 1) := by rw [hb]; exact d3
  have d4' : decode c.code (pc + 4) = .ok (.ldc is, 2) := by rw [hb]; exact d4
  have hstr' : vk_R own is text sa s' := vk_R.warm hW0 hstr
  obtain ⟨U, hsteps, hrun, hend, hW, hsame, ce, hce, hO⟩ := X₁.ctorThrowS hexec htr (own := own) (cls := cls) (names := names) (ic := ic) hown' hcls hnames h (fun x hx => nomatch hx) hfX hkX hcellA (by rw [hhp, hT]; exact Nat.le_refl _) (msg := .ref sa) rfl
    (g := { method := m, pc := pc + 6, locals := ls, stack := .ref sa :: .ref T.heap.size :: .ref T.heap.size :: rest, locked := none }) rfl hsize rfl rfl (rest := rest) rfl
    (by rw [hb]; exact d6) (by rw [hb]; exact d9) hout hRframes (by simp only [List.map_cons, List.sum_cons, hcat]; omega) hlocks
  obtain ⟨f1, f2⟩ := vx_frame hsame
  rw [hhp] at f1 f2
  have hWs : s.WarmedH U.vm := State.WarmedH.trans hW0 hW
  have hcl : s.vm.findClass cls = some ce.cls := by
    have h9 := hO.cls
    rw [hvm] at h9
    exact h9
  have hall : s.sameButNew ({ U with vm := s.vm } : State) locs mc ms := by
    subst hA
    obtain ⟨e1, e2⟩ := hsame
    rw [State.setFrames_setFrames] at e1
    have h2 : (T.setVm s.vm).sameButNew ({ U with vm := s.vm } : State) [] (0 + 1) (0 + 6) := ⟨e1, e2⟩
    have h3 := X.same.trans h2
    rw [List.append_nil] at h3
    exact h3.mono hc hs
  refine ⟨U, ?_, .threw T.heap.size, hrun, hend, Or.inr ⟨T.heap.size, rfl, cls, ce, locs, hx U hWs.alike f1 (fun q hq => f2 q hq (fun z hz => nomatch hz)), hce, hO.vm, hcl, hWs, hall, hf⟩⟩
  refine st1 _ ?_
  show Steps p.tables e below (T1.setTop { method := m, pc := pc + 3, locals := ls, stack := .ref T.heap.size :: rest, locked := none }) _
  jvm_step X₁.here [X₁.here.top, hexec, d3', Value.category]
  exact X₁.ldcString hexec (own := own) (text := text) (index := is) (a := sa) hown' hstr'.1 hstr'.2
    (g := { method := m, pc := pc + 4, locals := ls, stack := .ref T.heap.size :: .ref T.heap.size :: rest, locked := none }) rfl d4' _ hsteps
/-- 'throw new E("text")', the text by a wide index -/
theorem vx_throwSW {cc : ByteArray} {pc : Nat} (hexec : p.tables.exec = Jvm.exec) (hb : c.code = cc) (hl : l.stackTraces = false) {own cls text : String} {names : List String} {ik is ic mc ms sa : Nat} {A : Nat → Prop}
    (hown : s.vm.findClass own = some m.cls) (hcls : Bundle.fit cls = true) (hnames : ∀ n ∈ names, Bundle.fit n = true)
    (hk : (Cond.classLink own ik cls).before args s = true) (hini : (Cond.initialized cls).before args s = true) (hstr : vk_R own is text sa s) (hat : ∀ w ∈ vx_atS own ic cls names, w.before args s = true)
    (hgood : ∀ w ∈ Cond.classLink own ik cls :: Cond.initialized cls :: vx_atS own ic cls names, vx_ot w = true)
    (hU : vx_Zq Bundle.tN "UNASSIGNED_STACK" Bundle.steD A s s.heap) (hN : vx_Zq Bundle.tN "SUPPRESSED_SENTINEL" Bundle.listD A s s.heap) (hS : va_S A s.heap H locs) (hsize : ls.size = c.maxLocals)
    (d0 : decode cc pc = .ok (.new ik, 3)) (d3 : decode cc (pc + 3) = .ok (.dup, 1)) (d4 : decode cc (pc + 4) = .ok (.ldc_w is, 3)) (d7 : decode cc (pc + 7) = .ok (.invokespecial ic, 3)) (d10 : decode cc (pc + 10) = .ok (.athrow, 1))
    (hout : ∀ x ∈ c.exceptionTable.toList, covers x (pc + 10) = false)
    (hRframes : names.length + 3 < R.frames) (hRlocals : (rest.map fun v => v.category).sum + (13 * (names.length + 1) + 43) ≤ R.locals) (hRcells : cells + 1 ≤ R.cells) (hRslots : slots + 6 ≤ R.slots) (hlocks : meth.locks = false)
    (hx : ∀ t : State, s.vm.Alike t.vm → H.size ≤ t.heap.size → (∀ q : Nat, q < H.size → t.heap[q]? = H[q]?) → XC cls s t)
    (hf : ∀ z ∈ locs, free z.base) (hc : cells + 1 ≤ mc) (hs : slots + 6 ≤ ms) :
    W p l e R s m args below meth c H locs cells slots (vx_MQ below Qc XC args s mc ms free) (F0 m pc ls rest) := by
  intro T hT X
  have htr : e.platform.stackTraces = false := (show e.platform.stackTraces = l.stackTraces by rw [X.admits.platform]).trans hl
  have Y := vx_rebase X (R' := { frames := R.frames, locals := R.locals, cells := 1, slots := 6 }) (Nat.le_refl _) (Nat.le_refl _) hRcells hRslots
  obtain ⟨s', hA⟩ : ∃ z, z = (T.setVm s.vm).setFrames (.invoking m args :: below) := ⟨_, rfl⟩
  rw [← hA] at Y
  have hvm : s'.vm = s.vm := by rw [hA]; rfl
  have hhp : s'.heap = H := by rw [hA]; exact hT
  have hW0 : s.WarmedH s'.vm := by rw [hvm]; exact State.WarmedH.refl s
  have hat' : ∀ w ∈ vx_atS own ic cls names, w.before args s' = true := fun w hw => vx_ot_at hW0 hvm.symm (hgood w (List.mem_cons_of_mem _ (List.mem_cons_of_mem _ hw))) (hat w hw)
  have hk' : (Cond.classLink own ik cls).before args s' = true := vx_ot_at hW0 hvm.symm (hgood _ List.mem_cons_self) hk
  have hini' : (Cond.initialized cls).before args s' = true := vx_ot_at hW0 hvm.symm (hgood _ (List.mem_cons_of_mem _ List.mem_cons_self)) hini
  have hU' : vx_Zq Bundle.tN "UNASSIGNED_STACK" Bundle.steD A s' s'.heap := by rw [hhp]; exact vx_Zq.moved hW0.alike (hU.kept hS.2.1)
  have hN' : vx_Zq Bundle.tN "SUPPRESSED_SENTINEL" Bundle.listD A s' s'.heap := by rw [hhp]; exact vx_Zq.moved hW0.alike (hN.kept hS.2.1)
  have h : ∀ w ∈ Bundle.ownAtoms own ic cls names, w.before args s' = true := vx_own hat' (vx_isRefq hU'.1) (vx_isRefq hN'.1) hU'.2.word hN'.2.word
  have hown' : s'.vm.findClass own = some m.cls := by rw [hvm]; exact hown
  have hins : (Cond.instantiable cls 6).before args s' = true := h _ (by simp [Bundle.ownAtoms])
  obtain ⟨vm₁, cX, kX, hfX, hkX, -, -, X₁, st1⟩ := Y.newCold hexec (own := own) (C := cls) (index := ik) (n := 6) hown' hk' hins hini'
    (g := F0 m pc ls rest) rfl (by rw [hb]; exact d0) (Nat.le_refl _) (Nat.le_refl _)
  generalize hT1 : (T.setVm vm₁).pushCell { cls := cX, slots := kX.instanceTypes.map defaultValue, vm := .none } = T1 at X₁ st1
  have hcat : (Value.ref T.heap.size).category = 1 := rfl
  have hcellA : T1.heap[T.heap.size]? = some (freshCell cX kX) := by rw [← hT1]; exact State.heap_pushCell_size _ _
  have d3' : decode c.code (pc + 3) = .ok (.dup, 1) := by rw [hb]; exact d3
  have d4' : decode c.code (pc + 4) = .ok (.ldc_w is, 3) := by rw [hb]; exact d4
  have hstr' : vk_R own is text sa s' := vk_R.warm hW0 hstr
  obtain ⟨U, hsteps, hrun, hend, hW, hsame, ce, hce, hO⟩ := X₁.ctorThrowS hexec htr (own := own) (cls := cls) (names := names) (ic := ic) hown' hcls hnames h (fun x hx => nomatch hx) hfX hkX hcellA (by rw [hhp, hT]; exact Nat.le_refl _) (msg := .ref sa) rfl
    (g := { method := m, pc := pc + 7, locals := ls, stack := .ref sa :: .ref T.heap.size :: .ref T.heap.size :: rest, locked := none }) rfl hsize rfl rfl (rest := rest) rfl
    (by rw [hb]; exact d7) (by rw [hb]; exact d10) hout hRframes (by simp only [List.map_cons, List.sum_cons, hcat]; omega) hlocks
  obtain ⟨f1, f2⟩ := vx_frame hsame
  rw [hhp] at f1 f2
  have hWs : s.WarmedH U.vm := State.WarmedH.trans hW0 hW
  have hcl : s.vm.findClass cls = some ce.cls := by
    have h9 := hO.cls
    rw [hvm] at h9
    exact h9
  have hall : s.sameButNew ({ U with vm := s.vm } : State) locs mc ms := by
    subst hA
    obtain ⟨e1, e2⟩ := hsame
    rw [State.setFrames_setFrames] at e1
    have h2 : (T.setVm s.vm).sameButNew ({ U with vm := s.vm } : State) [] (0 + 1) (0 + 6) := ⟨e1, e2⟩
    have h3 := X.same.trans h2
    rw [List.append_nil] at h3
    exact h3.mono hc hs
  refine ⟨U, ?_, .threw T.heap.size, hrun, hend, Or.inr ⟨T.heap.size, rfl, cls, ce, locs, hx U hWs.alike f1 (fun q hq => f2 q hq (fun z hz => nomatch hz)), hce, hO.vm, hcl, hWs, hall, hf⟩⟩
  refine st1 _ ?_
  show Steps p.tables e below (T1.setTop { method := m, pc := pc + 3, locals := ls, stack := .ref T.heap.size :: rest, locked := none }) _
  jvm_step X₁.here [X₁.here.top, hexec, d3', Value.category]
  exact X₁.ldcStringW hexec (own := own) (text := text) (index := is) (a := sa) hown' hstr'.1 hstr'.2
    (g := { method := m, pc := pc + 4, locals := ls, stack := .ref T.heap.size :: .ref T.heap.size :: rest, locked := none }) rfl d4' _ hsteps
end Ends
section Bodies
variable {l : Launch}
theorem vx_ofW {y : MethodName} {ws ws' : List Cond} {rm : Room} {Pc : Array Value → State → Prop} {Qc : Array Value → State → Outcome → State → Prop} {XC : String → State → State → Prop} {mc ms : Nat} {free : Addr → Prop} {cc : ByteArray} {maxL : Nat} {ret : Option FieldType}
    (hy : plainName y.cls = true) (hw : ws = Cond.code y cc maxL ret :: ws')
    (body : ∀ p e s m args below meth c s₁, BodyLoose p l y (headSpec ws rm) cc maxL ret e s m args below meth c s₁ → c.maxLocals = maxL → (∀ x ∈ c.exceptionTable.toList, False) → Pc args s →
      W p l e (headSpec ws rm).room s m args below meth c s.heap [] 0 0 (vx_MQ below Qc XC args s mc ms free) (entryFrame m args maxL)) : vx_Met l y ws rm Pc Qc XC mc ms free := by
  refine MetFree.of_bodyS (code := cc) (maxLocals := maxL) (ret := ret) hy ?_ ?_
  · intro args s m h hn
    obtain ⟨meth, c, h1, h2, h3, h4, h5, h6, -, -⟩ := Cond.code_spec hn (atoms_spec (ws := ws) h _ (by rw [hw]; exact List.mem_cons_self))
    exact ⟨meth, c, h1, h2, h3, h4, h5, h6⟩
  · intro p e s m args below meth c s₁ B hml hP _
    have hh0 : s₁.heap = s.heap := by rw [B.state]; rfl
    have ht : ∀ x ∈ c.exceptionTable.toList, False := by
      obtain ⟨meth9, c9, h1, h2, -, -, -, -, h7, -⟩ := Cond.code_spec B.named (atoms_spec (ws := ws) B.pre _ (by rw [hw]; exact List.mem_cons_self))
      cases Option.some.inj (h1.symm.trans B.method)
      cases Option.some.inj (h2.symm.trans (Stand.of_body B).code)
      intro x hx
      rw [Array.isEmpty_iff.mp h7] at hx
      cases hx
    obtain ⟨t, a1, o, b1, b2, b3⟩ := body p e s m args below meth c s₁ B hml ht hP s₁ hh0 (Stand.of_body B)
    exact ⟨t, o, a1, b1, b2, b3⟩
/-- the table of a body with handlers -/
theorem vx_table {p : Program} {x y : MethodName} {S : Spec} {cc bytes : ByteArray} {maxL maxL' : Nat} {ret ret' : Option FieldType} {e : Env} {s s₁ : State} {m : MethodId} {args : Array Value} {below : List Frame} {meth : Method} {c : Code} {hh : List (Nat × Nat × Nat × Nat)}
    (B : BodyLoose p l y S cc maxL ret e s m args below meth c s₁) (h : (Cond.codeWith y bytes maxL' ret' hh).before args s = true) : c.exceptionTable.toList = tableOf hh := by
  obtain ⟨m9, meth9, c9, hn9, h1, h2, -, -, h6, -⟩ := Cond.codeWith_spec h
  cases Option.some.inj (hn9.symm.trans B.named)
  cases Option.some.inj (h1.symm.trans B.method)
  cases Option.some.inj (h2.symm.trans (Stand.of_body B).code)
  rw [← h6, table_eq]
end Bodies
end VXA
/-! ===== END ===== -/
/-! ===== BEGIN a static call of a method with an exception table ===== -/
section VXS
variable {p : Program} {l : Launch} {e : Env} {R : Room} {s : State} {m : MethodId} {args : Array Value} {below : List Frame} {meth : Method} {c : Code} {T : State} {H : Heap} {locs : List Loc} {cells slots : Nat}
abbrev vx_CSW (R : Room) (s : State) (args : Array Value) (own : String) (index : Nat) (y : MethodName) (bytes : ByteArray) (maxL : Nat) (ret : Option FieldType) (hh : List (Nat × Nat × Nat × Nat)) (ws : List Cond) (rm : Room) (mc ms n : Nat) : Prop :=
  (rm.cells = mc ∧ rm.slots = ms ∧ rm.frames + 1 ≤ R.frames ∧ 8 + (maxL + 11) + rm.locals ≤ R.locals ∧ (∀ w ∈ ws, ∀ (a' : Array Value) (U : State), s.WarmedH U.vm → w.before a' U = true) ∧ Cond.codeWith y bytes maxL ret hh ∈ ws) ∧
  (Cond.codeWith y bytes maxL ret hh).before args s = true ∧ (Cond.initialized y.cls).before args s = true ∧ (y.cls ≠ "java/lang/invoke/MethodHandle" ∧ y.cls ≠ "java/lang/invoke/VarHandle") ∧
  (∀ sig, parseMethodDescriptor y.desc = some sig → n = sig.parameters.length) ∧ (Cond.methodLink own index y).before args s = true ∧ (Cond.static y).before args s = true
theorem vx_cwSW {own : String} {index maxL mc ms : Nat} {y : MethodName} {bytes : ByteArray} {ret : Option FieldType} {hh : List (Nat × Nat × Nat × Nat)} {Ts ws ws' : List Cond} {rm : Room} (n : Nat) (ht : ∀ w ∈ Ts, w.before args s = true) (hT : GoodIn Ts (va_wsS own index y ws)) (hw : ws = Cond.codeWith y bytes maxL ret hh :: ws') (hrc : rm.cells = mc) (hrs : rm.slots = ms)
    (hd : y.cls ≠ "java/lang/invoke/MethodHandle" ∧ y.cls ≠ "java/lang/invoke/VarHandle" ∧ (parseMethodDescriptor y.desc).map (fun d => d.parameters.length) = some n) (hR : rm.frames + 1 ≤ R.frames ∧ 8 + (maxL + 11) + rm.locals ≤ R.locals) :
    vx_CSW R s args own index y bytes maxL ret hh ws rm mc ms n := by
  have ok : ∀ w ∈ va_wsS own index y ws, w.before args s = true := fun w h => ht w (hT w h).1
  have hG : GoodIn Ts ws := fun w h => hT w (by unfold va_wsS; exact List.mem_append_right _ h)
  have hc : Cond.codeWith y bytes maxL ret hh ∈ ws := by rw [hw]; exact List.mem_cons_self
  refine ⟨⟨hrc, hrs, hR.1, hR.2, pay_in ht hG, hc⟩, ht _ (hG _ hc).1, ok _ (by simp [va_wsS]), ⟨hd.1, hd.2.1⟩, fun sig h => ?_, ok _ (by simp [va_wsS]), ok _ (by simp [va_wsS])⟩
  have h2 := hd.2.2
  rw [h] at h2
  exact (Option.some.inj h2).symm
theorem vx_callSW (X : Stand p l e R s m args below meth c T locs cells slots) (hexec : p.tables.exec = Jvm.exec) {own : String} {index : Nat} {y : MethodName} {bytes : ByteArray} {maxL : Nat} {ret : Option FieldType} {hh : List (Nat × Nat × Nat × Nat)}
    (hown : s.vm.findClass own = some m.cls) (hlink : (Cond.methodLink own index y).before args s = true) (hstat : (Cond.static y).before args s = true) (hinit : (Cond.initialized y.cls).before args s = true)
    (hcode : (Cond.codeWith y bytes maxL ret hh).before args s = true) (hy : y.cls ≠ "java/lang/invoke/MethodHandle" ∧ y.cls ≠ "java/lang/invoke/VarHandle")
    {W9 : Nat} {Pre : Pt → Array Value → Prop} {Post : Pt → Array Value → Option Value → Pt → Prop} (hK : Back l R p e below s args y 3 W9 Pre Post)
    {g : JFrame} (hg : g.method = m) (hsize : g.locals.size = c.maxLocals) {argsL rest : List Value} (hlen : ∀ sig, parseMethodDescriptor y.desc = some sig → argsL.length = sig.parameters.length)
    (hstack : g.stack = argsL.reverse ++ rest) (hW : 2 * g.monitorRoom + (rest.map fun v => v.category).sum ≤ W9) (hdg : decode c.code g.pc = .ok (.invokestatic index, 3))
    (hpre : ∀ vm₁, s.WarmedH vm₁ → Pre ⟨T.setVm vm₁, locs, cells, slots⟩ argsL.toArray) :
    ∃ (v : Option Value) (vm₁ : Vm) (B : Pt), s.WarmedH vm₁ ∧ Stand p l e R s m args below meth c B.U B.locs B.cells B.slots ∧ Post ⟨T.setVm vm₁, locs, cells, slots⟩ argsL.toArray v B ∧
      ∀ target, Steps p.tables e below (B.U.setTop { g with pc := g.pc + 3, stack := v.toList ++ rest }) target → Steps p.tables e below (T.setTop g) target := by
  obtain ⟨mk, methM, cM, hnamed, hmethM, -, -, -, -, -, -, hsigM⟩ := Cond.codeWith_spec hcode
  have hstatic : methM.isStatic = true := Cond.static_spec hnamed hmethM hstat
  obtain ⟨kP, hkP, -⟩ := className_of_methodNamed hnamed
  have hinitP : kP.init = .initialized := Cond.initialized_spec (findClass_of_methodNamed hnamed) hkP hinit
  obtain ⟨vm₁, X₁, hstep₁⟩ := X.invokestatic hexec hown hlink hnamed hmethM hstatic hkP hinitP hy (g := g) hg (argsL := argsL) (rest := rest) (hlen _ hsigM) hstack hdg
  obtain ⟨v, B, X', hpost, hsteps⟩ := hK m meth c ⟨T.setVm vm₁, locs, cells, slots⟩ { g with stack := rest } (.invokestatic index) mk argsL.toArray X₁ hg hsize hdg hW (X₁.named hnamed) (hpre vm₁ X₁.warmed)
  exact ⟨v, vm₁, B, X₁.warmed, X', hpost, fun target h => hstep₁ _ fun acts => by rw [doInvoke_state]; exact hsteps.trans h⟩
theorem vx_runSW {y : MethodName} {bytes cc : ByteArray} {maxL nL mc ms n index : Nat} {ret : Option FieldType} {hh : List (Nat × Nat × Nat × Nat)} {ws : List Cond} {rm : Room} {Pc : Array Value → State → Prop} {Qc : Array Value → State → Outcome → State → Prop} {free : Addr → Prop} {Ts : List Cond} {own : String} {As rest : List Value} {g : JFrame}
    (S : CallFix p m c cc nL s args Ts own) (hM : Met l y ws rm Pc Qc mc ms free) (cw : vx_CSW R s args own index y bytes maxL ret hh ws rm mc ms n) (hp : PreS s H Pc As)
    (hg : g.method = m) (hn : As.length = n) (hsize : g.locals.size = nL) (hstack : g.stack = As.reverse ++ rest) (hW : 2 * g.monitorRoom + (rest.map fun v => v.category).sum ≤ 8) (hdg : decode cc g.pc = .ok (.invokestatic index, 3)) (hf : cells + mc ≤ R.cells ∧ slots + ms ≤ R.slots) :
    va_Run p l e R s m args below meth c H locs cells slots mc ms g rest (Qc As.toArray) (free) := by
  obtain ⟨⟨hrc, hrs, hfr, hlo, hws, hcw⟩, hcode, hini, hy, hlen, hl, hstt⟩ := cw
  have hK : Back l R p e below s args y 3 8 (PreOf R mc ms Pc) (PostOf Qc mc ms free) := va_backW (hh := hh) (bytes := bytes) (maxL := maxL) (ret := ret) hM hp.1 hrc hrs hfr hlo hws hcw (fun a' U hW => word_at hW (Or.inl (by first | rfl | simp [Cond.onTables, Cond.keeps, Cond.steady])) hini)
  obtain ⟨hx, hb, hml, ho, -⟩ := S
  intro T hT X
  obtain ⟨v, vm₁, ⟨U', l2, c2, s2⟩, hW₁, X', ⟨g', mk, t, L, e1, e2, hq, h1, hL, h2, h3⟩, st⟩ := vx_callSW X hx (hh := hh) (bytes := bytes) (maxL := maxL) (ret := ret) ho hl hstt hini hcode hy hK hg (hsize.trans hml.symm) (argsL := As) (rest := rest) (fun sig h => hn.trans (hlen sig h)) hstack hW (by rw [hb]; exact hdg)
    (fun vm₁ hW₁ => ⟨hf.1, hf.2, hp.2 (T.setVm vm₁) hT hW₁⟩)
  dsimp only [Pt.U, Pt.locs, Pt.cells, Pt.slots] at X' e1 e2 h1 h2 h3 st
  subst h1; subst h2; subst h3
  exact ⟨v, (T.setVm vm₁).calling g' mk As.toArray, t, U', L, hT, X', hL, e1, e2, hq, st⟩
/-- not caught here, past rows that name other classes: it goes on to the caller -/
theorem vx_outP {p : Program} {l : Launch} {e : Env} {R : Room} {s : State} {m : MethodId} {args : Array Value} {below : List Frame} {meth : Method} {c : Code} {H : Heap} {locs : List Loc} {cells slots : Nat} {free : Addr → Prop} {ls : Array Slot} {rest : List Value} {Qc : Array Value → State → Outcome → State → Prop} {XC : String → State → State → Prop}
    {pc : Nat} {own E : String} {ce : Cell} {q : Addr} {mc ms : Nat} (hown : s.vm.findClass own = some m.cls) (hlocks : meth.locks = false)
    (hpass : ∀ z ∈ c.exceptionTable.toList, covers z pc = false ∨ (z.catchType ≠ 0 ∧ ∃ nm : String, (Cond.classLink own z.catchType nm).before args s = true ∧ va_Nc E nm s)) (hcell : H[q]? = some ce) (hv : ce.vm = .none) (hcl : s.vm.findClass E = some ce.cls)
    (hx : ∀ t : State, t.heap = H → s.vm.Alike t.vm → XC E s t) (hf : ∀ z ∈ locs, free z.base) (hc : cells ≤ mc) (hs : slots ≤ ms) :
    vx_W p l e R s m args below meth c H locs cells slots (vx_MQ below Qc XC args s mc ms free) (F0 m pc ls rest) q := by
  intro T hT X
  have hpl : e.platform.magicAccessors = ({} : Platform).magicAccessors := by rw [X.admits.platform]
  obtain ⟨vm', hW', X', st⟩ := X.outThrough hlocks q (g := F0 m pc ls rest) rfl rfl rfl (cell := ce) (by rw [hT]; exact hcell) (by rw [hv]; rfl)
    (by obtain ⟨k9, h9, -⟩ := Vm.findClass_spec hcl; exact ⟨k9, h9⟩) (fun z hz => by
      rcases hpass z hz with h | ⟨hz0, nm, hl1, hn1⟩
      · exact Or.inl h
      · obtain ⟨c6, hc6, hcl6⟩ := Cond.classLink_spec hown hl1 e.platform hpl
        obtain ⟨a8, b8, h1, h2, h3⟩ := hn1
        cases Option.some.inj (h1.symm.trans hcl)
        cases Option.some.inj (h2.symm.trans hc6)
        exact Or.inr ⟨hz0, _, hcl6, h3⟩)
  obtain ⟨g₀, hfr⟩ := X'.frames_eq
  have hcell9 : ((T.setVm vm').setFrames (.throwing q :: below)).heap[q]? = some ce := by
    show T.heap[q]? = some ce
    rw [hT]; exact hcell
  have hend : Ended ((T.setVm vm').setFrames (.throwing q :: below)) below (.threw q) := State.frames_setFrames _ (State.cur_lt_of_frames hfr)
  refine ⟨(T.setVm vm').setFrames (.throwing q :: below), ?_, .threw q, X'.here.running, hend, Or.inr ⟨q, rfl, E, ce, locs, hx _ hT (X'.ends _).1.alike, hcell9, hv, hcl, (X'.ends _).1, (X'.ends _).2.mono hc hs, hf⟩⟩
  rw [X.pushThrowing_eq]
  exact st
/-- a thing of a world lies in the heap -/
theorem vx_lt {D : va_G} {cl : List vw_C} {ws : va_W} {H1 : Heap} (h : va_P D cl ws H1) {k : Nat} {q : Nat × va_E} (hk : ws[k]? = some q) : q.1 < H1.size := (h k q hk).lt
end VXS
/-! ===== END ===== -/
/-! ===== BEGIN methods with a table of their own: called by a name, returning or throwing ===== -/
section VXH
/-! vx_backW, vx_callVX, vx_callSX, vx_callVW, vx_runVW, vx_runVX, vx_runSX, vx_ofWH follow the same proofs as their sisters above (Free/Laws.lean, Shelf42/LK1.lean); vx_outP calls Shelf42/NT130.lean (outThrough). -/
section
variable {l : Launch} {R : Room} {p : Program} {e : Env} {below : List Frame} {s : State} {sargs : Array Value} {y : MethodName} {len W9 : Nat}
theorem vx_backW {ws : List Cond} {rm : Room} {Pc : Array Value → State → Prop} {Qc : Array Value → State → Outcome → State → Prop} {XC : String → State → State → Prop} {mc ms : Nat} {free : Addr → Prop} {bytes : ByteArray} {maxL : Nat} {ret : Option FieldType} {hh : List (Nat × Nat × Nat × Nat)}
    (hM : vx_Met l y ws rm Pc Qc XC mc ms free) (hblind : FrameBlind Pc) (hrc : rm.cells = mc) (hrs : rm.slots = ms)
    (hframes : rm.frames + 1 ≤ R.frames) (hlocals : W9 + (maxL + 11) + rm.locals ≤ R.locals)
    (hws : ∀ w ∈ ws, ∀ a' U, s.WarmedH U.vm → w.before a' U = true) (hcode : Cond.codeWith y bytes maxL ret hh ∈ ws) (hinit : ∀ a' U, s.WarmedH U.vm → (Cond.initialized y.cls).before a' U = true) :
    vx_Back l R p e below s sargs y len W9 (PreOf R mc ms Pc) (PostOf Qc mc ms free) (vx_Post XC mc ms free) := by
  intro m meth c A g ig mk a X hg hsize hdg hW hn hp
  have h1 : (headSpec ws rm).pre.before a A.U = true := atoms_intro fun w hw => hws w hw _ _ X.warmed
  have h2 : (Cond.codeWith y bytes maxL ret hh).before a A.U = true := hws _ hcode _ _ X.warmed
  have h3 : (Cond.initialized y.cls).before a A.U = true := hinit _ _ X.warmed
  have h4 : A.cells + (headSpec ws rm).room.cells ≤ R.cells := by rw [show (headSpec ws rm).room.cells = mc from hrc]; exact hp.1
  have h5 : A.slots + (headSpec ws rm).room.slots ≤ R.slots := by rw [show (headSpec ws rm).room.slots = ms from hrs]; exact hp.2.1
  have hPc : Pc a (A.U.calling g mk a) := hblind _ _ _ _ hp.2.2
  obtain ⟨U, Ls, c0, s0⟩ := A
  dsimp only [Pt.U, Pt.locs, Pt.cells, Pt.slots] at h1 h2 h3 h4 h5 X hn hPc ⊢
  obtain ⟨m9, methY, cY, hn9, hmY, hcY, -, hlY, -⟩ := Cond.codeWith_spec h2
  cases Option.some.inj (hn9.symm.trans hn)
  obtain ⟨kY, hkY, -⟩ := className_of_methodNamed hn
  have hinitY : kY.init = .initialized := Cond.initialized_spec (findClass_of_methodNamed hn) hkY h3
  have h : At U g.method c below := by rw [hg]; exact X.here
  have hlocals9 : W9 + (maxL + 11) + (headSpec ws rm).room.locals ≤ R.locals := hlocals
  have happ : (headSpec ws rm).appliesLoose y e.platform (U.calling g mk a) = true :=
    Spec.appliesLoose_calling (g := g) h hdg hn hkY hinitY
      (X.room_calling (g := g) (R' := (headSpec ws rm).room) hsize hmY hcY hframes (by rw [hlY]; omega) h4 h5) h1
  obtain ⟨mid, hmid⟩ := h.above
  have hfr : (U.setTop g).frames = (.java g :: mid) ++ below := by rw [State.frames_setTop' g h.top, hmid]; rfl
  obtain ⟨o, s₂, hsteps, -, hend, hq⟩ := Steps.callFree hM p X.admits X.cas X.clock (acts := []) hfr happ hPc trivial
  have hq' : vx_Q Qc XC mc ms free a (U.calling g mk a) o s₂ := hq
  rw [State.frames_setTop' g h.top] at hend
  obtain ⟨g₀, hg0⟩ := Option.isSome_iff_exists.mp h.top
  obtain ⟨r, hr⟩ := State.topJava?_eq_some.mp hg0
  have hr' : (({ U with heap := s₂.heap, slotsUsed := s₂.slotsUsed } : State).setVm s₂.vm).frames = .java g₀ :: r := hr
  rcases hq' with ⟨hqc, L, hfe, hL⟩ | ⟨q, rfl, E, ce, L, hx, hce, hcv, hcl, hW₂, hsm, hL⟩
  · obtain ⟨⟨v, rfl⟩, hW₂, e2, q2, q3, q4, q5, q6⟩ := id hfe
    have e3 : s₂ = ({ (U.calling g mk a).setFrames s₂.frames with heap := s₂.heap, slotsUsed := s₂.slotsUsed } : State).setVm s₂.vm := by
      have : s₂ = ({ s₂ with vm := (U.calling g mk a).vm } : State).setVm s₂.vm := rfl
      rw [e2] at this
      exact this
    obtain ⟨c₂, i₂, len₂, hc₂, hd₂, hf₂⟩ := hend
    have hW' : U.WarmedH s₂.vm := hW₂
    have hcc : c₂ = c := by
      have h1 : s₂.code? g.method = U.code? g.method := by
        rw [State.code?_eq, State.code?_eq, hW'.alike.method?]
      exact Option.some.inj (hc₂.symm.trans (h1.trans h.code))
    subst hcc
    have hlen : len₂ = len := by rw [hdg] at hd₂; cases hd₂; rfl
    subst hlen
    have hs₂ : s₂ = (({ U with heap := s₂.heap, slotsUsed := s₂.slotsUsed } : State).setVm s₂.vm).setTop { g with pc := g.pc + len₂, stack := v.toList ++ g.stack } := by
      refine e3.trans ?_
      rw [hf₂, State.calling_eq h.top, State.setFrames_setFrames, State.setTop_of_frames _ hr', hr]
      rfl
    have hsame : U.sameButNew ({ U with heap := s₂.heap, slotsUsed := s₂.slotsUsed } : State) L mc ms := by
      refine ⟨?_, q2, q3, q4, q5, q6⟩
      obtain ⟨t, ht, -⟩ := State.frames_cons hr
      show ({ U with heap := s₂.heap, slotsUsed := s₂.slotsUsed } : State) = { U.setFrames U.frames with heap := s₂.heap, slotsUsed := s₂.slotsUsed }
      rw [State.setFrames_self ht]
    subst hg
    refine Or.inl ⟨v, ⟨(({ U with heap := s₂.heap, slotsUsed := s₂.slotsUsed } : State).setVm s₂.vm), Ls ++ L, c0 + mc, s0 + ms⟩,
      ⟨X.admits, X.cas, X.clock, X.frames, X.room, X.hears, X.method, X.code, (X.here.setHeapUsed s₂.heap s₂.slotsUsed).setVm hW'.alike, X.tail, State.WarmedH.trans X.warmed hW', X.limits, X.bytes, X.same.trans (hsame.setVm s.vm)⟩,
      ⟨g, mk, s₂, L, rfl, rfl, hqc, rfl, hL, rfl, rfl⟩, ?_⟩
    show Steps p.tables e below _ ((({ U with heap := s₂.heap, slotsUsed := s₂.slotsUsed } : State).setVm s₂.vm).setTop { g with pc := g.pc + len₂, stack := v.toList ++ g.stack })
    rw [← hs₂]
    exact hsteps
  · obtain ⟨e2, q2, q3, q4, q5, q6⟩ := id hsm
    have e3 : s₂ = ({ (U.calling g mk a).setFrames s₂.frames with heap := s₂.heap, slotsUsed := s₂.slotsUsed } : State).setVm s₂.vm := by
      have : s₂ = ({ s₂ with vm := (U.calling g mk a).vm } : State).setVm s₂.vm := rfl
      rw [e2] at this
      exact this
    have hf₂ : s₂.frames = .throwing q :: .java g :: U.frames.tail := hend
    have hW' : U.WarmedH s₂.vm := hW₂
    have hs₂ : s₂ = ((({ U with heap := s₂.heap, slotsUsed := s₂.slotsUsed } : State).setVm s₂.vm).setTop g).pushFrame (.throwing q) := by
      refine e3.trans ?_
      rw [hf₂, State.calling_eq h.top, State.setFrames_setFrames, State.pushFrame, State.frames_setTop _ hr', State.setTop_of_frames _ hr', State.setFrames_setFrames, hr]
      rfl
    have hsame : U.sameButNew ({ U with heap := s₂.heap, slotsUsed := s₂.slotsUsed } : State) L mc ms := by
      refine ⟨?_, q2, q3, q4, q5, q6⟩
      obtain ⟨t, ht, -⟩ := State.frames_cons hr
      show ({ U with heap := s₂.heap, slotsUsed := s₂.slotsUsed } : State) = { U.setFrames U.frames with heap := s₂.heap, slotsUsed := s₂.slotsUsed }
      rw [State.setFrames_self ht]
    subst hg
    refine Or.inr ⟨q, ⟨(({ U with heap := s₂.heap, slotsUsed := s₂.slotsUsed } : State).setVm s₂.vm), Ls ++ L, c0 + mc, s0 + ms⟩,
      ⟨X.admits, X.cas, X.clock, X.frames, X.room, X.hears, X.method, X.code, (X.here.setHeapUsed s₂.heap s₂.slotsUsed).setVm hW'.alike, X.tail, State.WarmedH.trans X.warmed hW', X.limits, X.bytes, X.same.trans (hsame.setVm s.vm)⟩,
      ⟨g, mk, s₂, L, E, ce, rfl, rfl, hx, hce, hcv, hcl, rfl, hL, rfl, rfl⟩, ?_⟩
    show Steps p.tables e below _ (((({ U with heap := s₂.heap, slotsUsed := s₂.slotsUsed } : State).setVm s₂.vm).setTop g).pushFrame (.throwing q))
    rw [← hs₂]
    exact hsteps
end
variable {p : Program} {l : Launch} {e : Env} {R : Room} {s : State} {m : MethodId} {args : Array Value} {below : List Frame} {meth : Method} {c : Code} {T : State} {H : Heap} {locs : List Loc} {cells slots : Nat}
theorem vx_callVX (X : Stand p l e R s m args below meth c T locs cells slots) (hexec : p.tables.exec = Jvm.exec) {own C : String} {index : Nat} {y : MethodName} {bytes : ByteArray} {maxL : Nat} {ret : Option FieldType} {hh : List (Nat × Nat × Nat × Nat)}
    (hown : s.vm.findClass own = some m.cls) (hlink : (Cond.methodLink own index y).before args s = true) (hinst : (Cond.instanceMethod y).before args s = true) (hsel : (Cond.selects C y y).before args s = true)
    (hcode : (Cond.codeWith y bytes maxL ret hh).before args s = true) (hy : y.cls ≠ "java/lang/invoke/MethodHandle" ∧ y.cls ≠ "java/lang/invoke/VarHandle")
    {W9 : Nat} {Pre : Pt → Array Value → Prop} {Post : Pt → Array Value → Option Value → Pt → Prop} {PostX : Pt → Array Value → Addr → Pt → Prop} (hK : vx_Back l R p e below s args y 3 W9 Pre Post PostX)
    {b : Addr} {cellB : Cell} (hcell : T.heap[b]? = some cellB) (hobj : cellB.vm.isStatics = false) (hcls : s.vm.findClass C = some cellB.cls)
    {g : JFrame} (hg : g.method = m) (hsize : g.locals.size = c.maxLocals) {argsL rest : List Value} (hlen : ∀ sig, parseMethodDescriptor y.desc = some sig → argsL.length = sig.parameters.length)
    (hstack : g.stack = argsL.reverse ++ .ref b :: rest) (hW : 2 * g.monitorRoom + (rest.map fun v => v.category).sum ≤ W9) (hdg : decode c.code g.pc = .ok (.invokevirtual index, 3))
    (hpre : ∀ vm₁, s.WarmedH vm₁ → Pre ⟨T.setVm vm₁, locs, cells, slots⟩ (Value.ref b :: argsL).toArray) :
    (∃ (v : Option Value) (vm₁ : Vm) (B : Pt), s.WarmedH vm₁ ∧ Stand p l e R s m args below meth c B.U B.locs B.cells B.slots ∧ Post ⟨T.setVm vm₁, locs, cells, slots⟩ (Value.ref b :: argsL).toArray v B ∧
      ∀ target, Steps p.tables e below (B.U.setTop { g with pc := g.pc + 3, stack := v.toList ++ rest }) target → Steps p.tables e below (T.setTop g) target) ∨
    (∃ (q : Addr) (vm₁ : Vm) (B : Pt), s.WarmedH vm₁ ∧ Stand p l e R s m args below meth c B.U B.locs B.cells B.slots ∧ PostX ⟨T.setVm vm₁, locs, cells, slots⟩ (Value.ref b :: argsL).toArray q B ∧
      Steps p.tables e below (T.setTop g) ((B.U.setTop { g with stack := rest }).pushFrame (.throwing q))) := by
  obtain ⟨mk, methM, hnamed, hmethM, hstM, habM⟩ := Cond.instanceMethod_spec hinst
  obtain ⟨m8, methM', cM, hn8, hmethM', -, -, -, -, -, -, hsigM⟩ := Cond.codeWith_spec hcode
  cases Option.some.inj (hn8.symm.trans hnamed)
  cases hmethM.symm.trans hmethM'
  obtain ⟨c2, r2, m2, q1, q2, q3, q4, kP, hkP, hkPi⟩ := Cond.selects_spec hsel
  cases hcls.symm.trans q1
  cases (State.methodFound?_of_named hnamed hy).symm.trans q2
  cases hnamed.symm.trans q3
  have hselP : selectMethod e.platform s.vm cellB.cls mk = .method mk := by rw [Launch.admits_selectMethod X.admits]; exact q4
  obtain ⟨vm₁, X₁, hstep₁⟩ := X.invokevirtual hexec hown hlink hnamed hmethM hstM hkP hkPi hy (a := b) (cell := cellB) hcell
    (fun z h => by rw [h] at hobj; cases hobj) hselP hmethM habM hkP hkPi (g := g) hg (argsL := argsL) (rest := rest) (hlen _ hsigM) hstack hdg
  rcases hK m meth c ⟨T.setVm vm₁, locs, cells, slots⟩ { g with stack := rest } (.invokevirtual index) mk (Value.ref b :: argsL).toArray X₁ hg hsize hdg hW (X₁.named hnamed) (hpre vm₁ X₁.warmed) with ⟨v, B, X', hpost, hsteps⟩ | ⟨q, B, X', hpost, hsteps⟩
  · exact Or.inl ⟨v, vm₁, B, X₁.warmed, X', hpost, fun target h => hstep₁ _ fun acts => by rw [doInvoke_state]; exact hsteps.trans h⟩
  · exact Or.inr ⟨q, vm₁, B, X₁.warmed, X', hpost, hstep₁ _ fun acts => by rw [doInvoke_state]; exact hsteps⟩
theorem vx_callSX (X : Stand p l e R s m args below meth c T locs cells slots) (hexec : p.tables.exec = Jvm.exec) {own : String} {index : Nat} {y : MethodName} {bytes : ByteArray} {maxL : Nat} {ret : Option FieldType} {hh : List (Nat × Nat × Nat × Nat)}
    (hown : s.vm.findClass own = some m.cls) (hlink : (Cond.methodLink own index y).before args s = true) (hstat : (Cond.static y).before args s = true) (hinit : (Cond.initialized y.cls).before args s = true)
    (hcode : (Cond.codeWith y bytes maxL ret hh).before args s = true) (hy : y.cls ≠ "java/lang/invoke/MethodHandle" ∧ y.cls ≠ "java/lang/invoke/VarHandle")
    {W9 : Nat} {Pre : Pt → Array Value → Prop} {Post : Pt → Array Value → Option Value → Pt → Prop} {PostX : Pt → Array Value → Addr → Pt → Prop} (hK : vx_Back l R p e below s args y 3 W9 Pre Post PostX)
    {g : JFrame} (hg : g.method = m) (hsize : g.locals.size = c.maxLocals) {argsL rest : List Value} (hlen : ∀ sig, parseMethodDescriptor y.desc = some sig → argsL.length = sig.parameters.length)
    (hstack : g.stack = argsL.reverse ++ rest) (hW : 2 * g.monitorRoom + (rest.map fun v => v.category).sum ≤ W9) (hdg : decode c.code g.pc = .ok (.invokestatic index, 3))
    (hpre : ∀ vm₁, s.WarmedH vm₁ → Pre ⟨T.setVm vm₁, locs, cells, slots⟩ argsL.toArray) :
    (∃ (v : Option Value) (vm₁ : Vm) (B : Pt), s.WarmedH vm₁ ∧ Stand p l e R s m args below meth c B.U B.locs B.cells B.slots ∧ Post ⟨T.setVm vm₁, locs, cells, slots⟩ argsL.toArray v B ∧
      ∀ target, Steps p.tables e below (B.U.setTop { g with pc := g.pc + 3, stack := v.toList ++ rest }) target → Steps p.tables e below (T.setTop g) target) ∨
    (∃ (q : Addr) (vm₁ : Vm) (B : Pt), s.WarmedH vm₁ ∧ Stand p l e R s m args below meth c B.U B.locs B.cells B.slots ∧ PostX ⟨T.setVm vm₁, locs, cells, slots⟩ argsL.toArray q B ∧
      Steps p.tables e below (T.setTop g) ((B.U.setTop { g with stack := rest }).pushFrame (.throwing q))) := by
  obtain ⟨mk, methM, cM, hnamed, hmethM, -, -, -, -, -, -, hsigM⟩ := Cond.codeWith_spec hcode
  have hstatic : methM.isStatic = true := Cond.static_spec hnamed hmethM hstat
  obtain ⟨kP, hkP, -⟩ := className_of_methodNamed hnamed
  have hinitP : kP.init = .initialized := Cond.initialized_spec (findClass_of_methodNamed hnamed) hkP hinit
  obtain ⟨vm₁, X₁, hstep₁⟩ := X.invokestatic hexec hown hlink hnamed hmethM hstatic hkP hinitP hy (g := g) hg (argsL := argsL) (rest := rest) (hlen _ hsigM) hstack hdg
  rcases hK m meth c ⟨T.setVm vm₁, locs, cells, slots⟩ { g with stack := rest } (.invokestatic index) mk argsL.toArray X₁ hg hsize hdg hW (X₁.named hnamed) (hpre vm₁ X₁.warmed) with ⟨v, B, X', hpost, hsteps⟩ | ⟨q, B, X', hpost, hsteps⟩
  · exact Or.inl ⟨v, vm₁, B, X₁.warmed, X', hpost, fun target h => hstep₁ _ fun acts => by rw [doInvoke_state]; exact hsteps.trans h⟩
  · exact Or.inr ⟨q, vm₁, B, X₁.warmed, X', hpost, hstep₁ _ fun acts => by rw [doInvoke_state]; exact hsteps⟩
theorem vx_callVW (X : Stand p l e R s m args below meth c T locs cells slots) (hexec : p.tables.exec = Jvm.exec) {own C : String} {index : Nat} {y : MethodName} {bytes : ByteArray} {maxL : Nat} {ret : Option FieldType} {hh : List (Nat × Nat × Nat × Nat)}
    (hown : s.vm.findClass own = some m.cls) (hlink : (Cond.methodLink own index y).before args s = true) (hinst : (Cond.instanceMethod y).before args s = true) (hsel : (Cond.selects C y y).before args s = true)
    (hcode : (Cond.codeWith y bytes maxL ret hh).before args s = true) (hy : y.cls ≠ "java/lang/invoke/MethodHandle" ∧ y.cls ≠ "java/lang/invoke/VarHandle")
    {W9 : Nat} {Pre : Pt → Array Value → Prop} {Post : Pt → Array Value → Option Value → Pt → Prop} (hK : Back l R p e below s args y 3 W9 Pre Post)
    {b : Addr} {cellB : Cell} (hcell : T.heap[b]? = some cellB) (hobj : cellB.vm.isStatics = false) (hcls : s.vm.findClass C = some cellB.cls)
    {g : JFrame} (hg : g.method = m) (hsize : g.locals.size = c.maxLocals) {argsL rest : List Value} (hlen : ∀ sig, parseMethodDescriptor y.desc = some sig → argsL.length = sig.parameters.length)
    (hstack : g.stack = argsL.reverse ++ .ref b :: rest) (hW : 2 * g.monitorRoom + (rest.map fun v => v.category).sum ≤ W9) (hdg : decode c.code g.pc = .ok (.invokevirtual index, 3))
    (hpre : ∀ vm₁, s.WarmedH vm₁ → Pre ⟨T.setVm vm₁, locs, cells, slots⟩ (Value.ref b :: argsL).toArray) :
    ∃ (v : Option Value) (vm₁ : Vm) (B : Pt), s.WarmedH vm₁ ∧ Stand p l e R s m args below meth c B.U B.locs B.cells B.slots ∧ Post ⟨T.setVm vm₁, locs, cells, slots⟩ (Value.ref b :: argsL).toArray v B ∧
      ∀ target, Steps p.tables e below (B.U.setTop { g with pc := g.pc + 3, stack := v.toList ++ rest }) target → Steps p.tables e below (T.setTop g) target := by
  obtain ⟨mk, methM, hnamed, hmethM, hstM, habM⟩ := Cond.instanceMethod_spec hinst
  obtain ⟨m8, methM', cM, hn8, hmethM', -, -, -, -, -, -, hsigM⟩ := Cond.codeWith_spec hcode
  cases Option.some.inj (hn8.symm.trans hnamed)
  cases hmethM.symm.trans hmethM'
  obtain ⟨c2, r2, m2, q1, q2, q3, q4, kP, hkP, hkPi⟩ := Cond.selects_spec hsel
  cases hcls.symm.trans q1
  cases (State.methodFound?_of_named hnamed hy).symm.trans q2
  cases hnamed.symm.trans q3
  have hselP : selectMethod e.platform s.vm cellB.cls mk = .method mk := by rw [Launch.admits_selectMethod X.admits]; exact q4
  obtain ⟨vm₁, X₁, hstep₁⟩ := X.invokevirtual hexec hown hlink hnamed hmethM hstM hkP hkPi hy (a := b) (cell := cellB) hcell
    (fun z h => by rw [h] at hobj; cases hobj) hselP hmethM habM hkP hkPi (g := g) hg (argsL := argsL) (rest := rest) (hlen _ hsigM) hstack hdg
  obtain ⟨v, B, X', hpost, hsteps⟩ := hK m meth c ⟨T.setVm vm₁, locs, cells, slots⟩ { g with stack := rest } (.invokevirtual index) mk (Value.ref b :: argsL).toArray X₁ hg hsize hdg hW (X₁.named hnamed) (hpre vm₁ X₁.warmed)
  exact ⟨v, vm₁, B, X₁.warmed, X', hpost, fun target h => hstep₁ _ fun acts => by rw [doInvoke_state]; exact hsteps.trans h⟩
abbrev vx_CVW (R : Room) (s : State) (args : Array Value) (own C : String) (index : Nat) (y : MethodName) (bytes : ByteArray) (maxL : Nat) (ret : Option FieldType) (hh : List (Nat × Nat × Nat × Nat)) (ws : List Cond) (rm : Room) (mc ms n : Nat) : Prop :=
  (rm.cells = mc ∧ rm.slots = ms ∧ rm.frames + 1 ≤ R.frames ∧ 8 + (maxL + 11) + rm.locals ≤ R.locals ∧ (∀ w ∈ ws, ∀ (a' : Array Value) (U : State), s.WarmedH U.vm → w.before a' U = true) ∧ Cond.codeWith y bytes maxL ret hh ∈ ws) ∧
  (Cond.codeWith y bytes maxL ret hh).before args s = true ∧ (Cond.initialized y.cls).before args s = true ∧ (y.cls ≠ "java/lang/invoke/MethodHandle" ∧ y.cls ≠ "java/lang/invoke/VarHandle") ∧
  (∀ sig, parseMethodDescriptor y.desc = some sig → n = sig.parameters.length) ∧ (Cond.methodLink own index y).before args s = true ∧ (Cond.instanceMethod y).before args s = true ∧ (Cond.selects C y y).before args s = true
theorem vx_cwVW {own C : String} {index maxL mc ms : Nat} {y : MethodName} {bytes : ByteArray} {ret : Option FieldType} {hh : List (Nat × Nat × Nat × Nat)} {Ts ws ws' : List Cond} {rm : Room} (n : Nat) (ht : ∀ w ∈ Ts, w.before args s = true) (hT : GoodIn Ts (wsV own index C y ws)) (hw : ws = Cond.codeWith y bytes maxL ret hh :: ws') (hrc : rm.cells = mc) (hrs : rm.slots = ms)
    (hd : y.cls = C ∧ y.cls ≠ "java/lang/invoke/MethodHandle" ∧ y.cls ≠ "java/lang/invoke/VarHandle" ∧ (parseMethodDescriptor y.desc).map (fun d => d.parameters.length) = some n) (hR : rm.frames + 1 ≤ R.frames ∧ 8 + (maxL + 11) + rm.locals ≤ R.locals) :
    vx_CVW R s args own C index y bytes maxL ret hh ws rm mc ms n := by
  obtain ⟨hC, hd⟩ := hd
  subst hC
  have ok : ∀ w ∈ wsV own index y.cls y ws, w.before args s = true := fun w h => ht w (hT w h).1
  have hG : GoodIn Ts ws := fun w h => hT w (by unfold wsV; exact List.mem_append_right _ h)
  have hc : Cond.codeWith y bytes maxL ret hh ∈ ws := by rw [hw]; exact List.mem_cons_self
  refine ⟨⟨hrc, hrs, hR.1, hR.2, pay_in ht hG, hc⟩, ht _ (hG _ hc).1, ok _ (by simp [wsV]), ⟨hd.1, hd.2.1⟩, fun sig h => ?_, ok _ (by simp [wsV]), ok _ (by simp [wsV]), ok _ (by simp [wsV])⟩
  have h2 := hd.2.2
  rw [h] at h2
  exact (Option.some.inj h2).symm
theorem vx_runVW {y : MethodName} {bytes cc : ByteArray} {maxL nL mc ms n index : Nat} {ret : Option FieldType} {hh : List (Nat × Nat × Nat × Nat)} {ws : List Cond} {rm : Room} {Pc : Array Value → State → Prop} {Qc : Array Value → State → Outcome → State → Prop} {free : Addr → Prop} {Ts : List Cond} {own C : String} {b : Addr} {As rest : List Value} {g : JFrame}
    (S : CallFix p m c cc nL s args Ts own) (hM : Met l y ws rm Pc Qc mc ms free) (cw : vx_CVW R s args own C index y bytes maxL ret hh ws rm mc ms n) (hp : PreV s H C b Pc As)
    (hg : g.method = m) (hn : As.length = n) (hsize : g.locals.size = nL) (hstack : g.stack = As.reverse ++ .ref b :: rest) (hW : 2 * g.monitorRoom + (rest.map fun v => v.category).sum ≤ 8) (hdg : decode cc g.pc = .ok (.invokevirtual index, 3)) (hf : cells + mc ≤ R.cells ∧ slots + ms ≤ R.slots) :
    va_Run p l e R s m args below meth c H locs cells slots mc ms g rest (Qc (Value.ref b :: As).toArray) free := by
  obtain ⟨⟨hrc, hrs, hfr, hlo, hws, hcw⟩, hcode, hini, hy, hlen, hl, hin, hse⟩ := cw
  have hK : Back l R p e below s args y 3 8 (PreOf R mc ms Pc) (PostOf Qc mc ms free) := va_backW (hh := hh) (bytes := bytes) (maxL := maxL) (ret := ret) hM hp.1 hrc hrs hfr hlo hws hcw (fun a' U hW => word_at hW (Or.inl (by first | rfl | simp [Cond.onTables, Cond.keeps, Cond.steady])) hini)
  obtain ⟨hx, hb, hml, ho, -⟩ := S
  obtain ⟨-, ⟨cellB, hcB, hoB, hclB⟩, hPc⟩ := hp
  intro T hT X
  obtain ⟨v, vm₁, ⟨U', l2, c2, s2⟩, hW₁, X', ⟨g', mk, t, L, e1, e2, hq, h1, hL, h2, h3⟩, st⟩ := vx_callVW X hx (C := C) (hh := hh) (bytes := bytes) (maxL := maxL) (ret := ret) ho hl hin hse hcode hy hK (by rw [hT]; exact hcB) hoB hclB hg (hsize.trans hml.symm) (argsL := As) (rest := rest) (fun sig h => hn.trans (hlen sig h)) hstack hW (by rw [hb]; exact hdg)
    (fun vm₁ hW₁ => ⟨hf.1, hf.2, hPc (T.setVm vm₁) hT hW₁⟩)
  dsimp only [Pt.U, Pt.locs, Pt.cells, Pt.slots] at X' e1 e2 h1 h2 h3 st
  subst h1; subst h2; subst h3
  exact ⟨v, (T.setVm vm₁).calling g' mk (Value.ref b :: As).toArray, t, U', L, hT, X', hL, e1, e2, hq, st⟩
section
variable {y : MethodName} {bytes cc : ByteArray} {maxL nL mc ms n index : Nat} {ret : Option FieldType} {ws : List Cond} {rm : Room} {Pc : Array Value → State → Prop} {Qc : Array Value → State → Outcome → State → Prop} {XC : String → State → State → Prop} {free : Addr → Prop} {Ts : List Cond} {own C : String} {b : Addr} {As rest : List Value} {g : JFrame}
theorem vx_runVX {hh : List (Nat × Nat × Nat × Nat)} (S : CallFix p m c cc nL s args Ts own) (hM : vx_Met l y ws rm Pc Qc XC mc ms free) (cw : vx_CVW R s args own C index y bytes maxL ret hh ws rm mc ms n) (hp : PreV s H C b Pc As)
    (hg : g.method = m) (hn : As.length = n) (hsize : g.locals.size = nL) (hstack : g.stack = As.reverse ++ .ref b :: rest) (hW : 2 * g.monitorRoom + (rest.map fun v => v.category).sum ≤ 8) (hdg : decode cc g.pc = .ok (.invokevirtual index, 3)) (hf : cells + mc ≤ R.cells ∧ slots + ms ≤ R.slots) :
    vx_Run p l e R s m args below meth c H locs cells slots mc ms g rest (Qc (Value.ref b :: As).toArray) XC free := by
  obtain ⟨⟨hrc, hrs, hfr, hlo, hws, hcw⟩, hcode, hini, hy, hlen, hl, hin, hse⟩ := cw
  have hK : vx_Back l R p e below s args y 3 8 (PreOf R mc ms Pc) (PostOf Qc mc ms free) (vx_Post XC mc ms free) := vx_backW (hh := hh) (bytes := bytes) (maxL := maxL) (ret := ret) hM hp.1 hrc hrs hfr hlo hws hcw (fun a' U hW => word_at hW (Or.inl (by first | rfl | simp [Cond.onTables, Cond.keeps, Cond.steady])) hini)
  obtain ⟨hx, hb, hml, ho, -⟩ := S
  obtain ⟨-, ⟨cellB, hcB, hoB, hclB⟩, hPc⟩ := hp
  intro T hT X
  rcases vx_callVX X hx (C := C) (hh := hh) (bytes := bytes) (maxL := maxL) (ret := ret) ho hl hin hse hcode hy hK (by rw [hT]; exact hcB) hoB hclB hg (hsize.trans hml.symm) (argsL := As) (rest := rest) (fun sig h => hn.trans (hlen sig h)) hstack hW (by rw [hb]; exact hdg)
    (fun vm₁ hW₁ => ⟨hf.1, hf.2, hPc (T.setVm vm₁) hT hW₁⟩) with ⟨v, vm₁, ⟨U', l2, c2, s2⟩, hW₁, X', ⟨g', mk, t, L, e1, e2, hq, h1, hL, h2, h3⟩, st⟩ | ⟨q, vm₁, ⟨U', l2, c2, s2⟩, hW₁, X', ⟨g', mk, t, L, E, ce, e1, e2, hq, hce, hcv, hcl, h1, hL, h2, h3⟩, st⟩
  · dsimp only [Pt.U, Pt.locs, Pt.cells, Pt.slots] at X' e1 e2 h1 h2 h3 st
    subst h1; subst h2; subst h3
    exact Or.inl ⟨v, (T.setVm vm₁).calling g' mk (Value.ref b :: As).toArray, t, U', L, hT, X', hL, e1, e2, hq, st⟩
  · dsimp only [Pt.U, Pt.locs, Pt.cells, Pt.slots] at X' e1 e2 h1 h2 h3 st hcl
    subst h1; subst h2; subst h3
    exact Or.inr ⟨q, (T.setVm vm₁).calling g' mk (Value.ref b :: As).toArray, t, U', L, E, ce, hT, X', hL, e1, e2, hq, hce, hcv, vx_cls hW₁ hcl, st⟩
theorem vx_runSX {hh : List (Nat × Nat × Nat × Nat)} (S : CallFix p m c cc nL s args Ts own) (hM : vx_Met l y ws rm Pc Qc XC mc ms free) (cw : vx_CSW R s args own index y bytes maxL ret hh ws rm mc ms n) (hp : PreS s H Pc As)
    (hg : g.method = m) (hn : As.length = n) (hsize : g.locals.size = nL) (hstack : g.stack = As.reverse ++ rest) (hW : 2 * g.monitorRoom + (rest.map fun v => v.category).sum ≤ 8) (hdg : decode cc g.pc = .ok (.invokestatic index, 3)) (hf : cells + mc ≤ R.cells ∧ slots + ms ≤ R.slots) :
    vx_Run p l e R s m args below meth c H locs cells slots mc ms g rest (Qc As.toArray) XC free := by
  obtain ⟨⟨hrc, hrs, hfr, hlo, hws, hcw⟩, hcode, hini, hy, hlen, hl, hstt⟩ := cw
  have hK : vx_Back l R p e below s args y 3 8 (PreOf R mc ms Pc) (PostOf Qc mc ms free) (vx_Post XC mc ms free) := vx_backW (hh := hh) (bytes := bytes) (maxL := maxL) (ret := ret) hM hp.1 hrc hrs hfr hlo hws hcw (fun a' U hW => word_at hW (Or.inl (by first | rfl | simp [Cond.onTables, Cond.keeps, Cond.steady])) hini)
  obtain ⟨hx, hb, hml, ho, -⟩ := S
  intro T hT X
  rcases vx_callSX X hx (hh := hh) (bytes := bytes) (maxL := maxL) (ret := ret) ho hl hstt hini hcode hy hK hg (hsize.trans hml.symm) (argsL := As) (rest := rest) (fun sig h => hn.trans (hlen sig h)) hstack hW (by rw [hb]; exact hdg)
    (fun vm₁ hW₁ => ⟨hf.1, hf.2, hp.2 (T.setVm vm₁) hT hW₁⟩) with ⟨v, vm₁, ⟨U', l2, c2, s2⟩, hW₁, X', ⟨g', mk, t, L, e1, e2, hq, h1, hL, h2, h3⟩, st⟩ | ⟨q, vm₁, ⟨U', l2, c2, s2⟩, hW₁, X', ⟨g', mk, t, L, E, ce, e1, e2, hq, hce, hcv, hcl, h1, hL, h2, h3⟩, st⟩
  · dsimp only [Pt.U, Pt.locs, Pt.cells, Pt.slots] at X' e1 e2 h1 h2 h3 st
    subst h1; subst h2; subst h3
    exact Or.inl ⟨v, (T.setVm vm₁).calling g' mk As.toArray, t, U', L, hT, X', hL, e1, e2, hq, st⟩
  · dsimp only [Pt.U, Pt.locs, Pt.cells, Pt.slots] at X' e1 e2 h1 h2 h3 st hcl
    subst h1; subst h2; subst h3
    exact Or.inr ⟨q, (T.setVm vm₁).calling g' mk As.toArray, t, U', L, E, ce, hT, X', hL, e1, e2, hq, hce, hcv, vx_cls hW₁ hcl, st⟩
end
end VXH
theorem vx_ofWH {l : Launch} {y : MethodName} {ws ws' : List Cond} {rm : Room} {Pc : Array Value → State → Prop} {Qc : Array Value → State → Outcome → State → Prop} {XC : String → State → State → Prop} {mc ms : Nat} {free : Addr → Prop} {cc : ByteArray} {maxL : Nat} {ret : Option FieldType} {hh : List (Nat × Nat × Nat × Nat)}
    (hy : plainName y.cls = true) (hw : ws = Cond.codeWith y cc maxL ret hh :: ws')
    (body : ∀ p e s m args below meth c s₁, BodyLoose p l y (headSpec ws rm) cc maxL ret e s m args below meth c s₁ → c.maxLocals = maxL → Pc args s →
      W p l e (headSpec ws rm).room s m args below meth c s.heap [] 0 0 (vx_MQ below Qc XC args s mc ms free) (entryFrame m args maxL)) : vx_Met l y ws rm Pc Qc XC mc ms free := by
  refine MetFree.of_bodyS (code := cc) (maxLocals := maxL) (ret := ret) hy ?_ ?_
  · intro args s m h hn
    obtain ⟨m9, meth, c, hn9, h1, h2, h3, h4, -, h5, h6, -⟩ := Cond.codeWith_spec (atoms_spec (ws := ws) h _ (by rw [hw]; exact List.mem_cons_self))
    cases hn.symm.trans hn9
    exact ⟨meth, c, h1, h2, h3, h4, h5, h6⟩
  · intro p e s m args below meth c s₁ B hml hP _
    have hh0 : s₁.heap = s.heap := by rw [B.state]; rfl
    obtain ⟨t, a1, o, b1, b2, b3⟩ := body p e s m args below meth c s₁ B hml hP s₁ hh0 (Stand.of_body B)
    exact ⟨t, o, a1, b1, b2, b3⟩
/-! ===== END ===== -/
end
section
/-! ===== BEGIN printed: names, fields, word lists, decode rows ===== -/
def RX0 : String := "ClaimJudge$Assumption"
def TX0 : u_T := fun k => match k with
  | 0 => ("ClaimJudge$Assumption", "lowest", "[I", true)
  | _ => ("ClaimJudge$Assumption", "highest", "[I", true)
def tyX0 : Nat → FieldType := fun k => match k with
  | 0 => .array .int
  | _ => .array .int
abbrev wsX00 : List Cond := u_ws RX0 TX0 2
theorem nmX0 : ∀ a, a < 2 → ∀ b, b < 2 → a ≠ b → (TX0 a).2.1 ≠ (TX0 b).2.1 := by decide +kernel
theorem tyX0_ok : ∀ k, k < 2 → parseFieldDescriptor (TX0 k).2.2.1 = some (tyX0 k) := by decide +kernel
abbrev cX0_init : ByteArray := prog_2_method_1_code
def yX0_init : MethodName := ⟨RX0, "<init>", "()V"⟩
abbrev cX0_limit : ByteArray := prog_2_method_2_code
def yX0_limit : MethodName := ⟨RX0, "limit", "(III)V"⟩
abbrev cX0_copyFrom : ByteArray := prog_2_method_3_code
def yX0_copyFrom : MethodName := ⟨RX0, "copyFrom", "(LClaimJudge$Assumption;)V"⟩
abbrev cX0_allows : ByteArray := prog_2_method_4_code
def yX0_allows : MethodName := ⟨RX0, "allows", "(I)Z"⟩
abbrev cX0_allowsBut : ByteArray := prog_2_method_5_code
def yX0_allowsBut : MethodName := ⟨RX0, "allowsBut", "(II)Z"⟩
abbrev cX0_count : ByteArray := prog_2_method_6_code
def yX0_count : MethodName := ⟨RX0, "count", "()I"⟩
def RX1 : String := "ClaimJudge$History"
def TX1 : u_T := fun k => match k with
  | 0 => ("ClaimJudge$History", "programs", "[LClaimJudge$Program;", true)
  | 1 => ("ClaimJudge$History", "assumptions", "[LClaimJudge$Assumption;", true)
  | 2 => ("ClaimJudge$History", "oldest", "I", false)
  | _ => ("ClaimJudge$History", "count", "I", false)
def tyX1 : Nat → FieldType := fun k => match k with
  | 0 => .array (.object "ClaimJudge$Program")
  | 1 => .array (.object "ClaimJudge$Assumption")
  | 2 => .int
  | _ => .int
abbrev wsX10 : List Cond := u_ws RX1 TX1 4
theorem nmX1 : ∀ a, a < 4 → ∀ b, b < 4 → a ≠ b → (TX1 a).2.1 ≠ (TX1 b).2.1 := by decide +kernel
theorem tyX1_ok : ∀ k, k < 4 → parseFieldDescriptor (TX1 k).2.2.1 = some (tyX1 k) := by decide +kernel
abbrev cX1_init : ByteArray := prog_3_method_1_code
def yX1_init : MethodName := ⟨RX1, "<init>", "()V"⟩
abbrev cX1_save : ByteArray := prog_3_method_2_code
def yX1_save : MethodName := ⟨RX1, "save", "(LClaimJudge$Program;LClaimJudge$Assumption;)V"⟩
abbrev cX1_restore : ByteArray := prog_3_method_3_code
def yX1_restore : MethodName := ⟨RX1, "restore", "(LClaimJudge$Program;LClaimJudge$Assumption;)V"⟩
def RX2 : String := "ClaimJudge$Judgement"
def TX2 : u_T := fun k => match k with
  | 0 => ("ClaimJudge$Judgement", "program", "LClaimJudge$Program;", true)
  | 1 => ("ClaimJudge$Judgement", "assumption", "LClaimJudge$Assumption;", true)
  | 2 => ("ClaimJudge$Judgement", "runs", "LClaimJudge$Runs;", true)
  | 3 => ("ClaimJudge$Judgement", "examples", "[I", true)
  | 4 => ("ClaimJudge$Judgement", "lows", "[I", true)
  | 5 => ("ClaimJudge$Judgement", "highs", "[I", true)
  | 6 => ("ClaimJudge$Judgement", "endlessRuns", "I", false)
  | 7 => ("ClaimJudge$Judgement", "failedRuns", "I", false)
  | 8 => ("ClaimJudge$Judgement", "successfulRuns", "I", false)
  | 9 => ("ClaimJudge$Judgement", "visited", "[J", true)
  | _ => ("ClaimJudge$Judgement", "stale", "Z", false)
def tyX2 : Nat → FieldType := fun k => match k with
  | 0 => .object "ClaimJudge$Program"
  | 1 => .object "ClaimJudge$Assumption"
  | 2 => .object "ClaimJudge$Runs"
  | 3 => .array .int
  | 4 => .array .int
  | 5 => .array .int
  | 6 => .int
  | 7 => .int
  | 8 => .int
  | 9 => .array .long
  | _ => .boolean
abbrev wsX20 : List Cond := u_ws RX2 TX2 11
theorem nmX2 : ∀ a, a < 11 → ∀ b, b < 11 → a ≠ b → (TX2 a).2.1 ≠ (TX2 b).2.1 := by decide +kernel
theorem tyX2_ok : ∀ k, k < 11 → parseFieldDescriptor (TX2 k).2.2.1 = some (tyX2 k) := by decide +kernel
abbrev cX2_init : ByteArray := prog_4_method_1_code
def yX2_init : MethodName := ⟨RX2, "<init>", "(LClaimJudge$Program;LClaimJudge$Assumption;LClaimJudge$Runs;)V"⟩
abbrev cX2_forget : ByteArray := prog_4_method_2_code
def yX2_forget : MethodName := ⟨RX2, "forget", "()V"⟩
abbrev cX2_isReached : ByteArray := prog_4_method_3_code
def yX2_isReached : MethodName := ⟨RX2, "isReached", "(I)Z"⟩
abbrev cX2_refresh : ByteArray := prog_4_method_4_code
def yX2_refresh : MethodName := ⟨RX2, "refresh", "()V"⟩
abbrev cX2_clear : ByteArray := prog_4_method_5_code
def yX2_clear : MethodName := ⟨RX2, "clear", "()V"⟩
abbrev cX2_countRun : ByteArray := prog_4_method_6_code
def yX2_countRun : MethodName := ⟨RX2, "countRun", "(II)V"⟩
abbrev cX2_followRun : ByteArray := prog_4_method_7_code
def yX2_followRun : MethodName := ⟨RX2, "followRun", "(I)V"⟩
abbrev cX2_isVisited : ByteArray := prog_4_method_8_code
def yX2_isVisited : MethodName := ⟨RX2, "isVisited", "(I)Z"⟩
abbrev cX2_noteValues : ByteArray := prog_4_method_9_code
def yX2_noteValues : MethodName := ⟨RX2, "noteValues", "(I)V"⟩
def RX3 : String := "ClaimJudge$Program"
def TX3 : u_T := fun k => match k with
  | 0 => ("ClaimJudge$Program", "size", "I", false)
  | 1 => ("ClaimJudge$Program", "kinds", "[I", true)
  | 2 => ("ClaimJudge$Program", "variables", "[I", true)
  | 3 => ("ClaimJudge$Program", "signs", "[I", true)
  | 4 => ("ClaimJudge$Program", "operands", "[I", true)
  | 5 => ("ClaimJudge$Program", "addends", "[I", true)
  | _ => ("ClaimJudge$Program", "targets", "[I", true)
def tyX3 : Nat → FieldType := fun k => match k with
  | 0 => .int
  | 1 => .array .int
  | 2 => .array .int
  | 3 => .array .int
  | 4 => .array .int
  | 5 => .array .int
  | _ => .array .int
abbrev wsX30 : List Cond := u_ws RX3 TX3 7
theorem nmX3 : ∀ a, a < 7 → ∀ b, b < 7 → a ≠ b → (TX3 a).2.1 ≠ (TX3 b).2.1 := by decide +kernel
theorem tyX3_ok : ∀ k, k < 7 → parseFieldDescriptor (TX3 k).2.2.1 = some (tyX3 k) := by decide +kernel
abbrev cX3_init : ByteArray := prog_5_method_1_code
def yX3_init : MethodName := ⟨RX3, "<init>", "()V"⟩
abbrev cX3_clear : ByteArray := prog_5_method_2_code
def yX3_clear : MethodName := ⟨RX3, "clear", "()V"⟩
abbrev cX3_put : ByteArray := prog_5_method_3_code
def yX3_put : MethodName := ⟨RX3, "put", "(IIIIII)V"⟩
abbrev cX3_putAll : ByteArray := prog_5_method_4_code
def yX3_putAll : MethodName := ⟨RX3, "putAll", "(LClaimJudge$Program;)V"⟩
abbrev cX3_copyFrom : ByteArray := prog_5_method_5_code
def yX3_copyFrom : MethodName := ⟨RX3, "copyFrom", "(LClaimJudge$Program;)V"⟩
abbrev cX3_dropLast : ByteArray := prog_5_method_6_code
def yX3_dropLast : MethodName := ⟨RX3, "dropLast", "()V"⟩
abbrev cX3_highestTarget : ByteArray := prog_5_method_7_code
def yX3_highestTarget : MethodName := ⟨RX3, "highestTarget", "()I"⟩
abbrev cX3_isEnd : ByteArray := prog_5_method_8_code
def yX3_isEnd : MethodName := ⟨RX3, "isEnd", "(I)Z"⟩
abbrev cX3_placeAfter : ByteArray := prog_5_method_9_code
def yX3_placeAfter : MethodName := ⟨RX3, "placeAfter", "(I)I"⟩
abbrev cX3_compares : ByteArray := prog_5_method_10_code
def yX3_compares : MethodName := ⟨RX3, "compares", "(III)Z"⟩
def RX4 : String := "ClaimJudge$Runs"
def TX4 : u_T := fun k => match k with
  | 0 => ("ClaimJudge$Runs", "program", "LClaimJudge$Program;", true)
  | 1 => ("ClaimJudge$Runs", "ends", "[I", true)
  | _ => ("ClaimJudge$Runs", "stale", "Z", false)
def tyX4 : Nat → FieldType := fun k => match k with
  | 0 => .object "ClaimJudge$Program"
  | 1 => .array .int
  | _ => .boolean
abbrev wsX40 : List Cond := u_ws RX4 TX4 3
theorem nmX4 : ∀ a, a < 3 → ∀ b, b < 3 → a ≠ b → (TX4 a).2.1 ≠ (TX4 b).2.1 := by decide +kernel
theorem tyX4_ok : ∀ k, k < 3 → parseFieldDescriptor (TX4 k).2.2.1 = some (tyX4 k) := by decide +kernel
abbrev cX4_init : ByteArray := prog_6_method_1_code
def yX4_init : MethodName := ⟨RX4, "<init>", "(LClaimJudge$Program;)V"⟩
abbrev cX4_forget : ByteArray := prog_6_method_2_code
def yX4_forget : MethodName := ⟨RX4, "forget", "()V"⟩
abbrev cX4_succeedsFrom : ByteArray := prog_6_method_3_code
def yX4_succeedsFrom : MethodName := ⟨RX4, "succeedsFrom", "(I)Z"⟩
abbrev cX4_endFrom : ByteArray := prog_6_method_4_code
def yX4_endFrom : MethodName := ⟨RX4, "endFrom", "(I)I"⟩
abbrev cX4_endAt : ByteArray := prog_6_method_5_code
def yX4_endAt : MethodName := ⟨RX4, "endAt", "(I)I"⟩
abbrev cX4_settle : ByteArray := prog_6_method_6_code
def yX4_settle : MethodName := ⟨RX4, "settle", "(II)V"⟩
abbrev cX4_lengthFrom : ByteArray := prog_6_method_7_code
def yX4_lengthFrom : MethodName := ⟨RX4, "lengthFrom", "(I)I"⟩
def RX5 : String := "ClaimJudge$Text"
def TX5 : u_T := fun k => match k with
  | 0 => ("ClaimJudge$Text", "characters", "[C", true)
  | 1 => ("ClaimJudge$Text", "length", "I", false)
  | 2 => ("ClaimJudge$Text", "loaded", "LClaimJudge$Program;", true)
  | 3 => ("ClaimJudge$Text", "at", "I", false)
  | 4 => ("ClaimJudge$Text", "variable", "I", false)
  | 5 => ("ClaimJudge$Text", "sign", "I", false)
  | 6 => ("ClaimJudge$Text", "operand", "I", false)
  | 7 => ("ClaimJudge$Text", "addend", "I", false)
  | _ => ("ClaimJudge$Text", "goal", "I", false)
def tyX5 : Nat → FieldType := fun k => match k with
  | 0 => .array .char
  | 1 => .int
  | 2 => .object "ClaimJudge$Program"
  | 3 => .int
  | 4 => .int
  | 5 => .int
  | 6 => .int
  | 7 => .int
  | _ => .int
abbrev wsX50 : List Cond := u_ws RX5 TX5 9
theorem nmX5 : ∀ a, a < 9 → ∀ b, b < 9 → a ≠ b → (TX5 a).2.1 ≠ (TX5 b).2.1 := by decide +kernel
theorem tyX5_ok : ∀ k, k < 9 → parseFieldDescriptor (TX5 k).2.2.1 = some (tyX5 k) := by decide +kernel
abbrev cX5_init : ByteArray := prog_7_method_1_code
def yX5_init : MethodName := ⟨RX5, "<init>", "()V"⟩
abbrev cX5_put : ByteArray := prog_7_method_2_code
def yX5_put : MethodName := ⟨RX5, "put", "(C)V"⟩
abbrev cX5_clear : ByteArray := prog_7_method_3_code
def yX5_clear : MethodName := ⟨RX5, "clear", "()V"⟩
abbrev cX5_readAll : ByteArray := prog_7_method_4_code
def yX5_readAll : MethodName := ⟨RX5, "readAll", "()Z"⟩
abbrev cX5_takeStatement : ByteArray := prog_7_method_5_code
def yX5_takeStatement : MethodName := ⟨RX5, "takeStatement", "()Z"⟩
abbrev cX5_keep : ByteArray := prog_7_method_6_code
def yX5_keep : MethodName := ⟨RX5, "keep", "(I)Z"⟩
abbrev cX5_takeTest : ByteArray := prog_7_method_7_code
def yX5_takeTest : MethodName := ⟨RX5, "takeTest", "()Z"⟩
abbrev cX5_takeVariable : ByteArray := prog_7_method_8_code
def yX5_takeVariable : MethodName := ⟨RX5, "takeVariable", "()Z"⟩
abbrev cX5_takeSign : ByteArray := prog_7_method_9_code
def yX5_takeSign : MethodName := ⟨RX5, "takeSign", "()Z"⟩
abbrev cX5_takeOperand : ByteArray := prog_7_method_10_code
def yX5_takeOperand : MethodName := ⟨RX5, "takeOperand", "()Z"⟩
abbrev cX5_takeAddend : ByteArray := prog_7_method_11_code
def yX5_takeAddend : MethodName := ⟨RX5, "takeAddend", "()Z"⟩
abbrev cX5_takeGoal : ByteArray := prog_7_method_12_code
def yX5_takeGoal : MethodName := ⟨RX5, "takeGoal", "()Z"⟩
abbrev cX5_take : ByteArray := prog_7_method_13_code
def yX5_take : MethodName := ⟨RX5, "take", "(C)Z"⟩
abbrev cX5_isDigitTo : ByteArray := prog_7_method_14_code
def yX5_isDigitTo : MethodName := ⟨RX5, "isDigitTo", "(C)Z"⟩
abbrev cX5_next : ByteArray := prog_7_method_15_code
def yX5_next : MethodName := ⟨RX5, "next", "()C"⟩
def RX6 : String := "ClaimJudge"
def TX6 : u_T := fun k => match k with
  | 0 => ("ClaimJudge", "program", "LClaimJudge$Program;", true)
  | 1 => ("ClaimJudge", "assumption", "LClaimJudge$Assumption;", true)
  | 2 => ("ClaimJudge", "runs", "LClaimJudge$Runs;", true)
  | 3 => ("ClaimJudge", "judgement", "LClaimJudge$Judgement;", true)
  | 4 => ("ClaimJudge", "history", "LClaimJudge$History;", true)
  | _ => ("ClaimJudge", "text", "LClaimJudge$Text;", true)
def tyX6 : Nat → FieldType := fun k => match k with
  | 0 => .object "ClaimJudge$Program"
  | 1 => .object "ClaimJudge$Assumption"
  | 2 => .object "ClaimJudge$Runs"
  | 3 => .object "ClaimJudge$Judgement"
  | 4 => .object "ClaimJudge$History"
  | _ => .object "ClaimJudge$Text"
abbrev wsX60 : List Cond := u_ws RX6 TX6 6
theorem nmX6 : ∀ a, a < 6 → ∀ b, b < 6 → a ≠ b → (TX6 a).2.1 ≠ (TX6 b).2.1 := by decide +kernel
theorem tyX6_ok : ∀ k, k < 6 → parseFieldDescriptor (TX6 k).2.2.1 = some (tyX6 k) := by decide +kernel
abbrev cX6_init : ByteArray := prog_1_method_1_code
def yX6_init : MethodName := ⟨RX6, "<init>", "()V"⟩
abbrev cX6_load : ByteArray := prog_1_method_2_code
def yX6_load : MethodName := ⟨RX6, "load", "()I"⟩
abbrev cX6_add : ByteArray := prog_1_method_3_code
def yX6_add : MethodName := ⟨RX6, "add", "()I"⟩
abbrev cX6_removeLast : ByteArray := prog_1_method_4_code
def yX6_removeLast : MethodName := ⟨RX6, "removeLast", "()I"⟩
abbrev cX6_statements : ByteArray := prog_1_method_5_code
def yX6_statements : MethodName := ⟨RX6, "statements", "()I"⟩
abbrev cX6_kind : ByteArray := prog_1_method_6_code
def yX6_kind : MethodName := ⟨RX6, "kind", "(I)I"⟩
abbrev cX6_target : ByteArray := prog_1_method_7_code
def yX6_target : MethodName := ⟨RX6, "target", "(I)I"⟩
abbrev cX6_run : ByteArray := prog_1_method_8_code
def yX6_run : MethodName := ⟨RX6, "run", "(III)I"⟩
abbrev cX6_steps : ByteArray := prog_1_method_9_code
def yX6_steps : MethodName := ⟨RX6, "steps", "(III)I"⟩
abbrev cX6_demand : ByteArray := prog_1_method_10_code
def yX6_demand : MethodName := ⟨RX6, "demand", "(I)I"⟩
abbrev cX6_demands : ByteArray := prog_1_method_11_code
def yX6_demands : MethodName := ⟨RX6, "demands", "(IIII)Z"⟩
abbrev cX6_assume : ByteArray := prog_1_method_12_code
def yX6_assume : MethodName := ⟨RX6, "assume", "(III)I"⟩
abbrev cX6_verdict : ByteArray := prog_1_method_13_code
def yX6_verdict : MethodName := ⟨RX6, "verdict", "(I)I"⟩
abbrev cX6_example : ByteArray := prog_1_method_14_code
def yX6_example : MethodName := ⟨RX6, "example", "(I)I"⟩
abbrev cX6_endless : ByteArray := prog_1_method_15_code
def yX6_endless : MethodName := ⟨RX6, "endless", "()I"⟩
abbrev cX6_proof : ByteArray := prog_1_method_16_code
def yX6_proof : MethodName := ⟨RX6, "proof", "()I"⟩
abbrev cX6_provedShare : ByteArray := prog_1_method_17_code
def yX6_provedShare : MethodName := ⟨RX6, "provedShare", "()D"⟩
abbrev cX6_least : ByteArray := prog_1_method_18_code
def yX6_least : MethodName := ⟨RX6, "least", "(II)I"⟩
abbrev cX6_greatest : ByteArray := prog_1_method_19_code
def yX6_greatest : MethodName := ⟨RX6, "greatest", "(II)I"⟩
abbrev cX6_widest : ByteArray := prog_1_method_20_code
def yX6_widest : MethodName := ⟨RX6, "widest", "(I)I"⟩
abbrev cX6_append : ByteArray := prog_1_method_21_code
def yX6_append : MethodName := ⟨RX6, "append", "(I)I"⟩
abbrev cX6_clearBuffer : ByteArray := prog_1_method_22_code
def yX6_clearBuffer : MethodName := ⟨RX6, "clearBuffer", "()I"⟩
abbrev cX6_firstError : ByteArray := prog_1_method_23_code
def yX6_firstError : MethodName := ⟨RX6, "firstError", "()I"⟩
abbrev cX6_undo : ByteArray := prog_1_method_24_code
def yX6_undo : MethodName := ⟨RX6, "undo", "()I"⟩
abbrev cX6_savedStates : ByteArray := prog_1_method_25_code
def yX6_savedStates : MethodName := ⟨RX6, "savedStates", "()I"⟩
abbrev cX6_digest : ByteArray := prog_1_method_26_code
def yX6_digest : MethodName := ⟨RX6, "digest", "()J"⟩
abbrev cX6_fitsBehind : ByteArray := prog_1_method_27_code
def yX6_fitsBehind : MethodName := ⟨RX6, "fitsBehind", "(LClaimJudge$Program;)Z"⟩
abbrev cX6_unprovedValues : ByteArray := prog_1_method_28_code
def yX6_unprovedValues : MethodName := ⟨RX6, "unprovedValues", "(I)I"⟩
abbrev cX6_widestRange : ByteArray := prog_1_method_29_code
def yX6_widestRange : MethodName := ⟨RX6, "widestRange", "(I)I"⟩
abbrev cX6_saveState : ByteArray := prog_1_method_30_code
def yX6_saveState : MethodName := ⟨RX6, "saveState", "()V"⟩
abbrev cX6_forgetProgram : ByteArray := prog_1_method_31_code
def yX6_forgetProgram : MethodName := ⟨RX6, "forgetProgram", "()V"⟩
abbrev cX6_checkIndex : ByteArray := prog_1_method_32_code
def yX6_checkIndex : MethodName := ⟨RX6, "checkIndex", "(II)V"⟩
abbrev cX6_checkValues : ByteArray := prog_1_method_33_code
def yX6_checkValues : MethodName := ⟨RX6, "checkValues", "(III)V"⟩
abbrev cX6_isValue : ByteArray := prog_1_method_34_code
def yX6_isValue : MethodName := ⟨RX6, "isValue", "(I)Z"⟩
abbrev cX6_tripleOf : ByteArray := prog_1_method_35_code
def yX6_tripleOf : MethodName := ⟨RX6, "tripleOf", "(III)I"⟩
abbrev cX6_valueOf : ByteArray := prog_1_method_36_code
def yX6_valueOf : MethodName := ⟨RX6, "valueOf", "(II)I"⟩
abbrev cX6_withValue : ByteArray := prog_1_method_37_code
def yX6_withValue : MethodName := ⟨RX6, "withValue", "(III)I"⟩
abbrev cX6_placeOf : ByteArray := prog_1_method_38_code
def yX6_placeOf : MethodName := ⟨RX6, "placeOf", "(II)I"⟩
abbrev cX6_statementAt : ByteArray := prog_1_method_39_code
def yX6_statementAt : MethodName := ⟨RX6, "statementAt", "(I)I"⟩
abbrev cX6_tripleAt : ByteArray := prog_1_method_40_code
def yX6_tripleAt : MethodName := ⟨RX6, "tripleAt", "(I)I"⟩
def RX7 : String := "ClaimJudgeModel"
def TX7 : u_T := fun k => match k with
  | 0 => ("ClaimJudgeModel", "thrown", "I", false)
  | 1 => ("ClaimJudgeModel", "s", "[I", true)
  | 2 => ("ClaimJudgeModel", "saved", "[I", true)
  | 3 => ("ClaimJudgeModel", "savedMany", "I", false)
  | 4 => ("ClaimJudgeModel", "text", "[I", true)
  | 5 => ("ClaimJudgeModel", "length", "I", false)
  | 6 => ("ClaimJudgeModel", "read", "[I", true)
  | 7 => ("ClaimJudgeModel", "readMany", "I", false)
  | 8 => ("ClaimJudgeModel", "farthest", "I", false)
  | 9 => ("ClaimJudgeModel", "ends", "[I", true)
  | 10 => ("ClaimJudgeModel", "seen", "[Z", true)
  | 11 => ("ClaimJudgeModel", "spot", "I", false)
  | 12 => ("ClaimJudgeModel", "isWrong", "Z", false)
  | _ => ("ClaimJudgeModel", "digested", "J", false)
def tyX7 : Nat → FieldType := fun k => match k with
  | 0 => .int
  | 1 => .array .int
  | 2 => .array .int
  | 3 => .int
  | 4 => .array .int
  | 5 => .int
  | 6 => .array .int
  | 7 => .int
  | 8 => .int
  | 9 => .array .int
  | 10 => .array .boolean
  | 11 => .int
  | 12 => .boolean
  | _ => .long
abbrev wsX70 : List Cond := u_ws RX7 TX7 14
theorem nmX7 : ∀ a, a < 14 → ∀ b, b < 14 → a ≠ b → (TX7 a).2.1 ≠ (TX7 b).2.1 := by decide +kernel
theorem tyX7_ok : ∀ k, k < 14 → parseFieldDescriptor (TX7 k).2.2.1 = some (tyX7 k) := by decide +kernel
abbrev cX7_init : ByteArray := prog_9_method_1_code
def yX7_init : MethodName := ⟨RX7, "<init>", "()V"⟩
abbrev cX7_thrown : ByteArray := prog_9_method_2_code
def yX7_thrown : MethodName := ⟨RX7, "thrown", "()I"⟩
abbrev cX7_in : ByteArray := prog_9_method_3_code
def yX7_in : MethodName := ⟨RX7, "in", "(III)Z"⟩
abbrev cX7_holds : ByteArray := prog_9_method_4_code
def yX7_holds : MethodName := ⟨RX7, "holds", "(I)Z"⟩
abbrev cX7_of : ByteArray := prog_9_method_5_code
def yX7_of : MethodName := ⟨RX7, "of", "(II)I"⟩
abbrev cX7_isStatement : ByteArray := prog_9_method_6_code
def yX7_isStatement : MethodName := ⟨RX7, "isStatement", "(I)Z"⟩
abbrev cX7_areValues : ByteArray := prog_9_method_7_code
def yX7_areValues : MethodName := ⟨RX7, "areValues", "(III)Z"⟩
abbrev cX7_triple : ByteArray := prog_9_method_8_code
def yX7_triple : MethodName := ⟨RX7, "triple", "(III)I"⟩
abbrev cX7_save : ByteArray := prog_9_method_9_code
def yX7_save : MethodName := ⟨RX7, "save", "()V"⟩
abbrev cX7_valueOf : ByteArray := prog_9_method_10_code
def yX7_valueOf : MethodName := ⟨RX7, "valueOf", "(II)I"⟩
abbrev cX7_withValue : ByteArray := prog_9_method_11_code
def yX7_withValue : MethodName := ⟨RX7, "withValue", "(III)I"⟩
abbrev cX7_operand : ByteArray := prog_9_method_12_code
def yX7_operand : MethodName := ⟨RX7, "operand", "(II)I"⟩
abbrev cX7_isTrue : ByteArray := prog_9_method_13_code
def yX7_isTrue : MethodName := ⟨RX7, "isTrue", "(II)Z"⟩
abbrev cX7_goesTo : ByteArray := prog_9_method_14_code
def yX7_goesTo : MethodName := ⟨RX7, "goesTo", "(I)I"⟩
abbrev cX7_isEnd : ByteArray := prog_9_method_15_code
def yX7_isEnd : MethodName := ⟨RX7, "isEnd", "(I)Z"⟩
abbrev cX7_follows : ByteArray := prog_9_method_16_code
def yX7_follows : MethodName := ⟨RX7, "follows", "(I)V"⟩
abbrev cX7_worksOut : ByteArray := prog_9_method_17_code
def yX7_worksOut : MethodName := ⟨RX7, "worksOut", "()V"⟩
abbrev cX7_isAssumed : ByteArray := prog_9_method_18_code
def yX7_isAssumed : MethodName := ⟨RX7, "isAssumed", "(I)Z"⟩
abbrev cX7_assumed : ByteArray := prog_9_method_19_code
def yX7_assumed : MethodName := ⟨RX7, "assumed", "()I"⟩
abbrev cX7_looks : ByteArray := prog_9_method_20_code
def yX7_looks : MethodName := ⟨RX7, "looks", "()V"⟩
abbrev cX7_isNext : ByteArray := prog_9_method_21_code
def yX7_isNext : MethodName := ⟨RX7, "isNext", "(II)Z"⟩
abbrev cX7_takes : ByteArray := prog_9_method_22_code
def yX7_takes : MethodName := ⟨RX7, "takes", "(II)I"⟩
abbrev cX7_readOperand : ByteArray := prog_9_method_23_code
def yX7_readOperand : MethodName := ⟨RX7, "readOperand", "()I"⟩
abbrev cX7_puts : ByteArray := prog_9_method_24_code
def yX7_puts : MethodName := ⟨RX7, "puts", "(II)V"⟩
abbrev cX7_readTest : ByteArray := prog_9_method_25_code
def yX7_readTest : MethodName := ⟨RX7, "readTest", "()V"⟩
abbrev cX7_readAssignment : ByteArray := prog_9_method_26_code
def yX7_readAssignment : MethodName := ⟨RX7, "readAssignment", "()V"⟩
abbrev cX7_readStatement : ByteArray := prog_9_method_27_code
def yX7_readStatement : MethodName := ⟨RX7, "readStatement", "()V"⟩
abbrev cX7_reads : ByteArray := prog_9_method_28_code
def yX7_reads : MethodName := ⟨RX7, "reads", "()Z"⟩
abbrev cX7_places : ByteArray := prog_9_method_29_code
def yX7_places : MethodName := ⟨RX7, "places", "(I)I"⟩
abbrev cX7_load : ByteArray := prog_9_method_30_code
def yX7_load : MethodName := ⟨RX7, "load", "()I"⟩
abbrev cX7_add : ByteArray := prog_9_method_31_code
def yX7_add : MethodName := ⟨RX7, "add", "()I"⟩
abbrev cX7_removeLast : ByteArray := prog_9_method_32_code
def yX7_removeLast : MethodName := ⟨RX7, "removeLast", "()I"⟩
abbrev cX7_statements : ByteArray := prog_9_method_33_code
def yX7_statements : MethodName := ⟨RX7, "statements", "()I"⟩
abbrev cX7_kind : ByteArray := prog_9_method_34_code
def yX7_kind : MethodName := ⟨RX7, "kind", "(I)I"⟩
abbrev cX7_targetOf : ByteArray := prog_9_method_35_code
def yX7_targetOf : MethodName := ⟨RX7, "targetOf", "(I)I"⟩
abbrev cX7_target : ByteArray := prog_9_method_36_code
def yX7_target : MethodName := ⟨RX7, "target", "(I)I"⟩
abbrev cX7_run : ByteArray := prog_9_method_37_code
def yX7_run : MethodName := ⟨RX7, "run", "(III)I"⟩
abbrev cX7_steps : ByteArray := prog_9_method_38_code
def yX7_steps : MethodName := ⟨RX7, "steps", "(III)I"⟩
abbrev cX7_demanded : ByteArray := prog_9_method_39_code
def yX7_demanded : MethodName := ⟨RX7, "demanded", "(I)I"⟩
abbrev cX7_demand : ByteArray := prog_9_method_40_code
def yX7_demand : MethodName := ⟨RX7, "demand", "(I)I"⟩
abbrev cX7_demands : ByteArray := prog_9_method_41_code
def yX7_demands : MethodName := ⟨RX7, "demands", "(IIII)Z"⟩
abbrev cX7_assume : ByteArray := prog_9_method_42_code
def yX7_assume : MethodName := ⟨RX7, "assume", "(III)I"⟩
abbrev cX7_isReached : ByteArray := prog_9_method_43_code
def yX7_isReached : MethodName := ⟨RX7, "isReached", "(I)Z"⟩
abbrev cX7_exampleOf : ByteArray := prog_9_method_44_code
def yX7_exampleOf : MethodName := ⟨RX7, "exampleOf", "(I)I"⟩
abbrev cX7_verdictOf : ByteArray := prog_9_method_45_code
def yX7_verdictOf : MethodName := ⟨RX7, "verdictOf", "(I)I"⟩
abbrev cX7_verdict : ByteArray := prog_9_method_46_code
def yX7_verdict : MethodName := ⟨RX7, "verdict", "(I)I"⟩
abbrev cX7_example : ByteArray := prog_9_method_47_code
def yX7_example : MethodName := ⟨RX7, "example", "(I)I"⟩
abbrev cX7_runsThat : ByteArray := prog_9_method_48_code
def yX7_runsThat : MethodName := ⟨RX7, "runsThat", "(I)I"⟩
abbrev cX7_judged : ByteArray := prog_9_method_49_code
def yX7_judged : MethodName := ⟨RX7, "judged", "()I"⟩
abbrev cX7_endless : ByteArray := prog_9_method_50_code
def yX7_endless : MethodName := ⟨RX7, "endless", "()I"⟩
abbrev cX7_proof : ByteArray := prog_9_method_51_code
def yX7_proof : MethodName := ⟨RX7, "proof", "()I"⟩
abbrev cX7_provedShare : ByteArray := prog_9_method_52_code
def yX7_provedShare : MethodName := ⟨RX7, "provedShare", "()D"⟩
abbrev cX7_bound : ByteArray := prog_9_method_53_code
def yX7_bound : MethodName := ⟨RX7, "bound", "(IIZ)I"⟩
abbrev cX7_least : ByteArray := prog_9_method_54_code
def yX7_least : MethodName := ⟨RX7, "least", "(II)I"⟩
abbrev cX7_greatest : ByteArray := prog_9_method_55_code
def yX7_greatest : MethodName := ⟨RX7, "greatest", "(II)I"⟩
abbrev cX7_widestOf : ByteArray := prog_9_method_56_code
def yX7_widestOf : MethodName := ⟨RX7, "widestOf", "(I)I"⟩
abbrev cX7_widest : ByteArray := prog_9_method_57_code
def yX7_widest : MethodName := ⟨RX7, "widest", "(I)I"⟩
abbrev cX7_append : ByteArray := prog_9_method_58_code
def yX7_append : MethodName := ⟨RX7, "append", "(I)I"⟩
abbrev cX7_clearBuffer : ByteArray := prog_9_method_59_code
def yX7_clearBuffer : MethodName := ⟨RX7, "clearBuffer", "()I"⟩
abbrev cX7_firstError : ByteArray := prog_9_method_60_code
def yX7_firstError : MethodName := ⟨RX7, "firstError", "()I"⟩
abbrev cX7_undo : ByteArray := prog_9_method_61_code
def yX7_undo : MethodName := ⟨RX7, "undo", "()I"⟩
abbrev cX7_savedStates : ByteArray := prog_9_method_62_code
def yX7_savedStates : MethodName := ⟨RX7, "savedStates", "()I"⟩
abbrev cX7_digestOne : ByteArray := prog_9_method_63_code
def yX7_digestOne : MethodName := ⟨RX7, "digestOne", "(J)V"⟩
abbrev cX7_digestBounds : ByteArray := prog_9_method_64_code
def yX7_digestBounds : MethodName := ⟨RX7, "digestBounds", "(I)V"⟩
abbrev cX7_digest : ByteArray := prog_9_method_65_code
def yX7_digest : MethodName := ⟨RX7, "digest", "()J"⟩
def RJx145de : String := "java/io/Serializable"
def TJx145de : u_T := fun k => match k with
  | _ => ("", "", "", false)
def tyJx145de : Nat → FieldType := fun k => match k with
  | _ => .int
abbrev wsJx145de0 : List Cond := u_ws RJx145de TJx145de 0
theorem nmJx145de : ∀ a, a < 0 → ∀ b, b < 0 → a ≠ b → (TJx145de a).2.1 ≠ (TJx145de b).2.1 := by decide +kernel
theorem tyJx145de_ok : ∀ k, k < 0 → parseFieldDescriptor (TJx145de k).2.2.1 = some (tyJx145de k) := by decide +kernel
def RJx9f9b0 : String := "java/lang/CharSequence"
def TJx9f9b0 : u_T := fun k => match k with
  | _ => ("", "", "", false)
def tyJx9f9b0 : Nat → FieldType := fun k => match k with
  | _ => .int
abbrev wsJx9f9b00 : List Cond := u_ws RJx9f9b0 TJx9f9b0 0
theorem nmJx9f9b0 : ∀ a, a < 0 → ∀ b, b < 0 → a ≠ b → (TJx9f9b0 a).2.1 ≠ (TJx9f9b0 b).2.1 := by decide +kernel
theorem tyJx9f9b0_ok : ∀ k, k < 0 → parseFieldDescriptor (TJx9f9b0 k).2.2.1 = some (tyJx9f9b0 k) := by decide +kernel
def RJ11 : String := "java/lang/Character"
def TJ11 : u_T := fun k => match k with
  | _ => ("", "", "", false)
def tyJ11 : Nat → FieldType := fun k => match k with
  | _ => .int
abbrev wsJ110 : List Cond := u_ws RJ11 TJ11 0
theorem nmJ11 : ∀ a, a < 0 → ∀ b, b < 0 → a ≠ b → (TJ11 a).2.1 ≠ (TJ11 b).2.1 := by decide +kernel
theorem tyJ11_ok : ∀ k, k < 0 → parseFieldDescriptor (TJ11 k).2.2.1 = some (tyJ11 k) := by decide +kernel
abbrev cJ11_isValidCodePoint_9a6ad : ByteArray := prog_10_method_11_code
def yJ11_isValidCodePoint_9a6ad : MethodName := ⟨RJ11, "isValidCodePoint", "(I)Z"⟩
abbrev cJ11_highSurrogate_5068e : ByteArray := prog_10_method_28_code
def yJ11_highSurrogate_5068e : MethodName := ⟨RJ11, "highSurrogate", "(I)C"⟩
abbrev cJ11_lowSurrogate_5068e : ByteArray := prog_10_method_29_code
def yJ11_lowSurrogate_5068e : MethodName := ⟨RJ11, "lowSurrogate", "(I)C"⟩
def RJxb160c : String := "java/lang/Comparable"
def TJxb160c : u_T := fun k => match k with
  | _ => ("", "", "", false)
def tyJxb160c : Nat → FieldType := fun k => match k with
  | _ => .int
abbrev wsJxb160c0 : List Cond := u_ws RJxb160c TJxb160c 0
theorem nmJxb160c : ∀ a, a < 0 → ∀ b, b < 0 → a ≠ b → (TJxb160c a).2.1 ≠ (TJxb160c b).2.1 := by decide +kernel
theorem tyJxb160c_ok : ∀ k, k < 0 → parseFieldDescriptor (TJxb160c k).2.2.1 = some (tyJxb160c k) := by decide +kernel
def RJ9 : String := "java/lang/Math"
def TJ9 : u_T := fun k => match k with
  | _ => ("", "", "", false)
def tyJ9 : Nat → FieldType := fun k => match k with
  | _ => .int
abbrev wsJ90 : List Cond := u_ws RJ9 TJ9 0
theorem nmJ9 : ∀ a, a < 0 → ∀ b, b < 0 → a ≠ b → (TJ9 a).2.1 ≠ (TJ9 b).2.1 := by decide +kernel
theorem tyJ9_ok : ∀ k, k < 0 → parseFieldDescriptor (TJ9 k).2.2.1 = some (tyJ9 k) := by decide +kernel
abbrev cJ9_max_7cf53 : ByteArray := prog_15_method_65_code
def yJ9_max_7cf53 : MethodName := ⟨RJ9, "max", "(II)I"⟩
abbrev cJ9_min_7cf53 : ByteArray := prog_15_method_69_code
def yJ9_min_7cf53 : MethodName := ⟨RJ9, "min", "(II)I"⟩
def RJ0 : String := "java/lang/String"
def TJ0 : u_T := fun k => match k with
  | _ => ("", "", "", false)
def tyJ0 : Nat → FieldType := fun k => match k with
  | _ => .int
abbrev wsJ00 : List Cond := u_ws RJ0 TJ0 0
theorem nmJ0 : ∀ a, a < 0 → ∀ b, b < 0 → a ≠ b → (TJ0 a).2.1 ≠ (TJ0 b).2.1 := by decide +kernel
theorem tyJ0_ok : ∀ k, k < 0 → parseFieldDescriptor (TJ0 k).2.2.1 = some (tyJ0 k) := by decide +kernel
abbrev cJ0_length_8abf5 : ByteArray := prog_17_method_54_code
def yJ0_length_8abf5 : MethodName := ⟨RJ0, "length", "()I"⟩
abbrev cJ0_indexOf_0f7a4 : ByteArray := prog_17_method_79_code
def yJ0_indexOf_0f7a4 : MethodName := ⟨RJ0, "indexOf", "(I)I"⟩
abbrev cJ0_indexOf_7cf53 : ByteArray := prog_17_method_80_code
def yJ0_indexOf_7cf53 : MethodName := ⟨RJ0, "indexOf", "(II)I"⟩
abbrev cJ0_coder_7d493 : ByteArray := prog_17_method_152_code
def yJ0_coder_7d493 : MethodName := ⟨RJ0, "coder", "()B"⟩
abbrev cJ0_isLatin1_aae02 : ByteArray := prog_17_method_154_code
def yJ0_isLatin1_aae02 : MethodName := ⟨RJ0, "isLatin1", "()Z"⟩
abbrev cJ0_checkBoundsBeginEnd_23922 : ByteArray := prog_17_method_158_code
def yJ0_checkBoundsBeginEnd_23922 : MethodName := ⟨RJ0, "checkBoundsBeginEnd", "(III)V"⟩
def RJ1 : String := "java/lang/StringLatin1"
def TJ1 : u_T := fun k => match k with
  | _ => ("", "", "", false)
def tyJ1 : Nat → FieldType := fun k => match k with
  | _ => .int
abbrev wsJ10 : List Cond := u_ws RJ1 TJ1 0
theorem nmJ1 : ∀ a, a < 0 → ∀ b, b < 0 → a ≠ b → (TJ1 a).2.1 ≠ (TJ1 b).2.1 := by decide +kernel
theorem tyJ1_ok : ∀ k, k < 0 → parseFieldDescriptor (TJ1 k).2.2.1 = some (tyJ1 k) := by decide +kernel
abbrev cJ1_canEncode_9a6ad : ByteArray := prog_18_method_4_code
def yJ1_canEncode_9a6ad : MethodName := ⟨RJ1, "canEncode", "(I)Z"⟩
abbrev cJ1_indexOf_4cfef : ByteArray := prog_18_method_22_code
def yJ1_indexOf_4cfef : MethodName := ⟨RJ1, "indexOf", "([BIII)I"⟩
abbrev cJ1_indexOfChar_4cfef : ByteArray := prog_18_method_23_code
def yJ1_indexOfChar_4cfef : MethodName := ⟨RJ1, "indexOfChar", "([BIII)I"⟩
def RJ2 : String := "java/lang/StringUTF16"
def TJ2 : u_T := fun k => match k with
  | _ => ("", "", "", false)
def tyJ2 : Nat → FieldType := fun k => match k with
  | _ => .int
abbrev wsJ20 : List Cond := u_ws RJ2 TJ2 0
theorem nmJ2 : ∀ a, a < 0 → ∀ b, b < 0 → a ≠ b → (TJ2 a).2.1 ≠ (TJ2 b).2.1 := by decide +kernel
theorem tyJ2_ok : ∀ k, k < 0 → parseFieldDescriptor (TJ2 k).2.2.1 = some (tyJ2 k) := by decide +kernel
abbrev cJ2_getChar_3b067 : ByteArray := prog_19_method_5_code
def yJ2_getChar_3b067 : MethodName := ⟨RJ2, "getChar", "([BI)C"⟩
abbrev cJ2_length_9d52b : ByteArray := prog_19_method_6_code
def yJ2_length_9d52b : MethodName := ⟨RJ2, "length", "([B)I"⟩
abbrev cJ2_indexOf_4cfef : ByteArray := prog_19_method_40_code
def yJ2_indexOf_4cfef : MethodName := ⟨RJ2, "indexOf", "([BIII)I"⟩
abbrev cJ2_indexOfChar_4cfef : ByteArray := prog_19_method_47_code
def yJ2_indexOfChar_4cfef : MethodName := ⟨RJ2, "indexOfChar", "([BIII)I"⟩
abbrev cJ2_indexOfCharUnsafe_4cfef : ByteArray := prog_19_method_48_code
def yJ2_indexOfCharUnsafe_4cfef : MethodName := ⟨RJ2, "indexOfCharUnsafe", "([BIII)I"⟩
abbrev cJ2_indexOfSupplementary_4cfef : ByteArray := prog_19_method_49_code
def yJ2_indexOfSupplementary_4cfef : MethodName := ⟨RJ2, "indexOfSupplementary", "([BIII)I"⟩
abbrev cJ2_checkBoundsBeginEnd_d044e : ByteArray := prog_19_method_93_code
def yJ2_checkBoundsBeginEnd_d044e : MethodName := ⟨RJ2, "checkBoundsBeginEnd", "(II[B)V"⟩
def RJxfd54e : String := "java/lang/constant/Constable"
def TJxfd54e : u_T := fun k => match k with
  | _ => ("", "", "", false)
def tyJxfd54e : Nat → FieldType := fun k => match k with
  | _ => .int
abbrev wsJxfd54e0 : List Cond := u_ws RJxfd54e TJxfd54e 0
theorem nmJxfd54e : ∀ a, a < 0 → ∀ b, b < 0 → a ≠ b → (TJxfd54e a).2.1 ≠ (TJxfd54e b).2.1 := by decide +kernel
theorem tyJxfd54e_ok : ∀ k, k < 0 → parseFieldDescriptor (TJxfd54e k).2.2.1 = some (tyJxfd54e k) := by decide +kernel
def RJx3cf43 : String := "java/lang/constant/ConstantDesc"
def TJx3cf43 : u_T := fun k => match k with
  | _ => ("", "", "", false)
def tyJx3cf43 : Nat → FieldType := fun k => match k with
  | _ => .int
abbrev wsJx3cf430 : List Cond := u_ws RJx3cf43 TJx3cf43 0
theorem nmJx3cf43 : ∀ a, a < 0 → ∀ b, b < 0 → a ≠ b → (TJx3cf43 a).2.1 ≠ (TJx3cf43 b).2.1 := by decide +kernel
theorem tyJx3cf43_ok : ∀ k, k < 0 → parseFieldDescriptor (TJx3cf43 k).2.2.1 = some (tyJx3cf43 k) := by decide +kernel
def RJ7 : String := "java/util/Arrays"
def TJ7 : u_T := fun k => match k with
  | _ => ("", "", "", false)
def tyJ7 : Nat → FieldType := fun k => match k with
  | _ => .int
abbrev wsJ70 : List Cond := u_ws RJ7 TJ7 0
theorem nmJ7 : ∀ a, a < 0 → ∀ b, b < 0 → a ≠ b → (TJ7 a).2.1 ≠ (TJ7 b).2.1 := by decide +kernel
theorem tyJ7_ok : ∀ k, k < 0 → parseFieldDescriptor (TJ7 k).2.2.1 = some (tyJ7 k) := by decide +kernel
abbrev cJ7_fill_d0a16 : ByteArray := prog_21_method_101_code
def yJ7_fill_d0a16 : MethodName := ⟨RJ7, "fill", "([JJ)V"⟩
abbrev cJ7_fill_53178 : ByteArray := prog_21_method_103_code
def yJ7_fill_53178 : MethodName := ⟨RJ7, "fill", "([II)V"⟩
def RJ3 : String := "jdk/internal/util/Preconditions"
def TJ3 : u_T := fun k => match k with
  | _ => ("", "", "", false)
def tyJ3 : Nat → FieldType := fun k => match k with
  | _ => .int
abbrev wsJ30 : List Cond := u_ws RJ3 TJ3 0
theorem nmJ3 : ∀ a, a < 0 → ∀ b, b < 0 → a ≠ b → (TJ3 a).2.1 ≠ (TJ3 b).2.1 := by decide +kernel
theorem tyJ3_ok : ∀ k, k < 0 → parseFieldDescriptor (TJ3 k).2.2.1 = some (tyJ3 k) := by decide +kernel
abbrev cJ3_checkFromToIndex_8c36e : ByteArray := prog_22_method_12_code
def yJ3_checkFromToIndex_8c36e : MethodName := ⟨RJ3, "checkFromToIndex", "(IIILjava/util/function/BiFunction;)I"⟩
def RL : String := "ClaimJudgeLaw"
abbrev cL_load : ByteArray := method_3_code
def yL_load : MethodName := ⟨RL, "load", "(LClaimJudge;[J)I"⟩
abbrev cL_add : ByteArray := method_4_code
def yL_add : MethodName := ⟨RL, "add", "(LClaimJudge;[J)I"⟩
abbrev cL_removeLast : ByteArray := method_5_code
def yL_removeLast : MethodName := ⟨RL, "removeLast", "(LClaimJudge;[J)I"⟩
abbrev cL_kind : ByteArray := method_6_code
def yL_kind : MethodName := ⟨RL, "kind", "(LClaimJudge;I[J)I"⟩
abbrev cL_target : ByteArray := method_7_code
def yL_target : MethodName := ⟨RL, "target", "(LClaimJudge;I[J)I"⟩
abbrev cL_run : ByteArray := method_8_code
def yL_run : MethodName := ⟨RL, "run", "(LClaimJudge;III[J)I"⟩
abbrev cL_steps : ByteArray := method_9_code
def yL_steps : MethodName := ⟨RL, "steps", "(LClaimJudge;III[J)I"⟩
abbrev cL_demand : ByteArray := method_10_code
def yL_demand : MethodName := ⟨RL, "demand", "(LClaimJudge;I[J)I"⟩
abbrev cL_demands : ByteArray := method_11_code
def yL_demands : MethodName := ⟨RL, "demands", "(LClaimJudge;IIII[J)I"⟩
abbrev cL_assume : ByteArray := method_12_code
def yL_assume : MethodName := ⟨RL, "assume", "(LClaimJudge;III[J)I"⟩
abbrev cL_verdict : ByteArray := method_13_code
def yL_verdict : MethodName := ⟨RL, "verdict", "(LClaimJudge;I[J)I"⟩
abbrev cL_example : ByteArray := method_14_code
def yL_example : MethodName := ⟨RL, "example", "(LClaimJudge;I[J)I"⟩
abbrev cL_least : ByteArray := method_15_code
def yL_least : MethodName := ⟨RL, "least", "(LClaimJudge;II[J)I"⟩
abbrev cL_greatest : ByteArray := method_16_code
def yL_greatest : MethodName := ⟨RL, "greatest", "(LClaimJudge;II[J)I"⟩
abbrev cL_widest : ByteArray := method_17_code
def yL_widest : MethodName := ⟨RL, "widest", "(LClaimJudge;I[J)I"⟩
abbrev cL_append : ByteArray := method_18_code
def yL_append : MethodName := ⟨RL, "append", "(LClaimJudge;I[J)I"⟩
abbrev cL_undo : ByteArray := method_19_code
def yL_undo : MethodName := ⟨RL, "undo", "(LClaimJudge;[J)I"⟩
abbrev cL_law : ByteArray := code
def yL_law : MethodName := ⟨RL, "law", "([I)Z"⟩
def wsL_law0_r1 : List Cond := [Cond.classLink RL 8 RX6, Cond.instantiable RX6 6, Cond.initialized RX6, Cond.classLink RL 72 RX7, Cond.instantiable RX7 14, Cond.initialized RX7, Cond.arrayClass .long, Cond.methodLink RL 71 yX6_init, Cond.instanceMethod yX6_init, Cond.code yX6_init cX6_init 1 none, Cond.methodLink RX6 3 objectInit, Cond.instanceMethod objectInit, Cond.code objectInit ⟨#[0xb1]⟩ 1 none, Cond.classLink RX6 9 RX3, Cond.instantiable RX3 7, Cond.initialized RX3, Cond.fieldLink RX6 12 "ClaimJudge" "program" "LClaimJudge$Program;", Cond.classLink RX6 16 RX0, Cond.instantiable RX0 2, Cond.initialized RX0, Cond.fieldLink RX6 19 "ClaimJudge" "assumption" "LClaimJudge$Assumption;", Cond.classLink RX6 23 RX4, Cond.instantiable RX4 3, Cond.initialized RX4]
def wsL_law0_r2 : List Cond := [Cond.fieldLink RX6 28 "ClaimJudge" "runs" "LClaimJudge$Runs;", Cond.classLink RX6 32 RX2, Cond.instantiable RX2 11, Cond.initialized RX2, Cond.fieldLink RX6 37 "ClaimJudge" "judgement" "LClaimJudge$Judgement;", Cond.classLink RX6 41 RX1, Cond.instantiable RX1 4, Cond.initialized RX1, Cond.fieldLink RX6 44 "ClaimJudge" "history" "LClaimJudge$History;", Cond.classLink RX6 48 RX5, Cond.instantiable RX5 9, Cond.initialized RX5, Cond.fieldLink RX6 51 "ClaimJudge" "text" "LClaimJudge$Text;", Cond.instanceMethod yX3_init, Cond.code yX3_init cX3_init 1 none, Cond.methodLink RX3 3 objectInit, Cond.arrayClass .int, Cond.fieldLink RX3 9 "ClaimJudge$Program" "kinds" "[I", Cond.fieldLink RX3 15 "ClaimJudge$Program" "variables" "[I", Cond.fieldLink RX3 18 "ClaimJudge$Program" "signs" "[I", Cond.fieldLink RX3 21 "ClaimJudge$Program" "operands" "[I", Cond.fieldLink RX3 24 "ClaimJudge$Program" "addends" "[I", Cond.fieldLink RX3 27 "ClaimJudge$Program" "targets" "[I", Cond.instanceMethod yX0_init]
def wsL_law0_r3 : List Cond := [Cond.code yX0_init cX0_init 1 none, Cond.methodLink RX0 3 objectInit, Cond.fieldLink RX0 9 "ClaimJudge$Assumption" "lowest" "[I", Cond.fieldLink RX0 15 "ClaimJudge$Assumption" "highest" "[I", Cond.methodLink RX6 25 yX4_init, Cond.instanceMethod yX4_init, Cond.code yX4_init cX4_init 2 none, Cond.methodLink RX4 3 objectInit, Cond.fieldLink RX4 9 "ClaimJudge$Runs" "ends" "[I", Cond.fieldLink RX4 15 "ClaimJudge$Runs" "stale" "Z", Cond.fieldLink RX4 19 "ClaimJudge$Runs" "program" "LClaimJudge$Program;", Cond.methodLink RX6 34 yX2_init, Cond.instanceMethod yX2_init, Cond.code yX2_init cX2_init 4 none, Cond.methodLink RX2 3 objectInit, Cond.fieldLink RX2 9 "ClaimJudge$Judgement" "examples" "[I", Cond.fieldLink RX2 15 "ClaimJudge$Judgement" "lows" "[I", Cond.fieldLink RX2 18 "ClaimJudge$Judgement" "highs" "[I", Cond.fieldLink RX2 21 "ClaimJudge$Judgement" "visited" "[J", Cond.fieldLink RX2 25 "ClaimJudge$Judgement" "stale" "Z", Cond.fieldLink RX2 29 "ClaimJudge$Judgement" "program" "LClaimJudge$Program;", Cond.fieldLink RX2 33 "ClaimJudge$Judgement" "assumption" "LClaimJudge$Assumption;", Cond.fieldLink RX2 37 "ClaimJudge$Judgement" "runs" "LClaimJudge$Runs;", Cond.methodLink RX6 43 yX1_init]
def wsL_law0_r4 : List Cond := [Cond.instanceMethod yX1_init, Cond.code yX1_init cX1_init 2 none, Cond.methodLink RX1 3 objectInit, Cond.classLink RX1 9 RX3, Cond.fieldLink RX1 11 "ClaimJudge$History" "programs" "[LClaimJudge$Program;", Cond.classLink RX1 17 RX0, Cond.fieldLink RX1 19 "ClaimJudge$History" "assumptions" "[LClaimJudge$Assumption;", Cond.instanceMethod yX5_init, Cond.code yX5_init cX5_init 1 none, Cond.methodLink RX5 3 objectInit, Cond.arrayClass .char, Cond.fieldLink RX5 9 "ClaimJudge$Text" "characters" "[C", Cond.classLink RX5 15 RX3, Cond.fieldLink RX5 18 "ClaimJudge$Text" "loaded" "LClaimJudge$Program;", Cond.methodLink RL 74 yX7_init, Cond.instanceMethod yX7_init, Cond.code yX7_init cX7_init 2 none, Cond.methodLink RX7 1 objectInit, Cond.fieldLink RX7 7 "ClaimJudgeModel" "s" "[I", Cond.fieldLink RX7 13 "ClaimJudgeModel" "saved" "[I", Cond.fieldLink RX7 16 "ClaimJudgeModel" "text" "[I", Cond.fieldLink RX7 19 "ClaimJudgeModel" "read" "[I", Cond.fieldLink RX7 22 "ClaimJudgeModel" "ends" "[I", Cond.arrayClass .boolean]
def wsL_law0_r5 : List Cond := [Cond.fieldLink RX7 25 "ClaimJudgeModel" "seen" "[Z", Cond.methodLink RL 75 yL_load, Cond.static yL_load, Cond.initialized RL, Cond.codeWith yL_load cL_load 3 (some .int) [(0, 8, 11, 13)], Cond.classLink RL 13 "java/lang/IllegalArgumentException", Cond.methodLink RL 7 yX6_load, Cond.instanceMethod yX6_load, Cond.selects RX6 yX6_load yX6_load, Cond.code yX6_load cX6_load 2 (some .int), Cond.classLink RX6 70 "java/lang/IllegalArgumentException", Cond.initialized "java/lang/IllegalArgumentException", Cond.methodLink RX6 58 yX5_readAll, Cond.instanceMethod yX5_readAll, Cond.selects RX5 yX5_readAll yX5_readAll, Cond.code yX5_readAll cX5_readAll 2 (some .boolean), Cond.fieldLink RX5 26 "ClaimJudge$Text" "at" "I", Cond.fieldLink RX5 22 "ClaimJudge$Text" "length" "I", Cond.methodLink RX5 29 yX3_clear, Cond.instanceMethod yX3_clear, Cond.selects RX3 yX3_clear yX3_clear, Cond.code yX3_clear cX3_clear 1 none, Cond.fieldLink RX3 30 "ClaimJudge$Program" "size" "I", Cond.methodLink RX5 32 yX5_takeStatement]
def wsL_law0_r6 : List Cond := [Cond.instanceMethod yX5_takeStatement, Cond.selects RX5 yX5_takeStatement yX5_takeStatement, Cond.code yX5_takeStatement cX5_takeStatement 1 (some .boolean), Cond.fieldLink RX5 40 "ClaimJudge$Text" "sign" "I", Cond.fieldLink RX5 43 "ClaimJudge$Text" "addend" "I", Cond.fieldLink RX5 46 "ClaimJudge$Text" "goal" "I", Cond.methodLink RX5 36 yX5_take, Cond.instanceMethod yX5_take, Cond.selects RX5 yX5_take yX5_take, Cond.code yX5_take cX5_take 2 (some .boolean), Cond.methodLink RX5 83 yX5_next, Cond.instanceMethod yX5_next, Cond.selects RX5 yX5_next yX5_next, Cond.code yX5_next cX5_next 1 (some .char), Cond.methodLink RX5 49 yX5_takeTest, Cond.instanceMethod yX5_takeTest, Cond.selects RX5 yX5_takeTest yX5_takeTest, Cond.code yX5_takeTest cX5_takeTest 1 (some .boolean), Cond.methodLink RX5 59 yX5_takeVariable, Cond.instanceMethod yX5_takeVariable, Cond.selects RX5 yX5_takeVariable yX5_takeVariable, Cond.code yX5_takeVariable cX5_takeVariable 2 (some .boolean), Cond.fieldLink RX5 68 "ClaimJudge$Text" "variable" "I", Cond.methodLink RX5 87 yJ0_indexOf_0f7a4]
def wsL_law0_r7 : List Cond := [Cond.instanceMethod yJ0_indexOf_0f7a4, Cond.selects RJ0 yJ0_indexOf_0f7a4 yJ0_indexOf_0f7a4, Cond.initialized RJ0, Cond.code yJ0_indexOf_0f7a4 cJ0_indexOf_0f7a4 2 (some .int), Cond.methodLink RJ0 633 yJ0_indexOf_7cf53, Cond.instanceMethod yJ0_indexOf_7cf53, Cond.selects RJ0 yJ0_indexOf_7cf53 yJ0_indexOf_7cf53, Cond.code yJ0_indexOf_7cf53 cJ0_indexOf_7cf53 3 (some .int), Cond.fieldLink RJ0 9 "java/lang/String" "value" "[B", Cond.methodLink RJ0 492 yJ0_isLatin1_aae02, Cond.instanceMethod yJ0_isLatin1_aae02, Cond.selects RJ0 yJ0_isLatin1_aae02 yJ0_isLatin1_aae02, Cond.code yJ0_isLatin1_aae02 cJ0_isLatin1_aae02 1 (some .boolean), Cond.fieldLink RJ0 38 "java/lang/String" "COMPACT_STRINGS" "Z", Cond.fieldLink RJ0 15 "java/lang/String" "coder" "B", Cond.methodLink RJ0 505 yJ0_length_8abf5, Cond.instanceMethod yJ0_length_8abf5, Cond.selects RJ0 yJ0_length_8abf5 yJ0_length_8abf5, Cond.code yJ0_length_8abf5 cJ0_length_8abf5 1 (some .int), Cond.methodLink RJ0 335 yJ0_coder_7d493, Cond.instanceMethod yJ0_coder_7d493, Cond.selects RJ0 yJ0_coder_7d493 yJ0_coder_7d493, Cond.code yJ0_coder_7d493 cJ0_coder_7d493 1 (some .byte), Cond.methodLink RJ0 637 yJ1_indexOf_4cfef]
def wsL_law0_r8 : List Cond := [Cond.static yJ1_indexOf_4cfef, Cond.initialized RJ1, Cond.code yJ1_indexOf_4cfef cJ1_indexOf_4cfef 4 (some .int), Cond.methodLink RJ1 92 Lib.Math.max.name, Cond.static Lib.Math.max.name, Cond.initialized "java/lang/Math", Cond.code Lib.Math.max.name Lib.Math.max.code 2 (some .int), Cond.methodLink RJ1 38 Lib.Math.min.name, Cond.static Lib.Math.min.name, Cond.code Lib.Math.min.name Lib.Math.min.code 2 (some .int), Cond.methodLink RJ1 88 yJ1_canEncode_9a6ad, Cond.static yJ1_canEncode_9a6ad, Cond.code yJ1_canEncode_9a6ad cJ1_canEncode_9a6ad 1 (some .boolean), Cond.methodLink RJ1 95 yJ1_indexOfChar_4cfef, Cond.static yJ1_indexOfChar_4cfef, Cond.code yJ1_indexOfChar_4cfef cJ1_indexOfChar_4cfef 6 (some .int), Cond.methodLink RJ0 640 yJ2_indexOf_4cfef, Cond.static yJ2_indexOf_4cfef, Cond.initialized RJ2, Cond.code yJ2_indexOf_4cfef cJ2_indexOf_4cfef 4 (some .int), Cond.methodLink RJ2 224 Lib.Math.max.name, Cond.methodLink RJ2 183 Lib.Math.min.name, Cond.constant RJ2 227 (65536), Cond.methodLink RJ2 228 yJ2_indexOfChar_4cfef]
def wsL_law0_r9 : List Cond := [Cond.static yJ2_indexOfChar_4cfef, Cond.code yJ2_indexOfChar_4cfef cJ2_indexOfChar_4cfef 4 (some .int), Cond.methodLink RJ2 96 yJ2_checkBoundsBeginEnd_d044e, Cond.static yJ2_checkBoundsBeginEnd_d044e, Cond.code yJ2_checkBoundsBeginEnd_d044e cJ2_checkBoundsBeginEnd_d044e 3 none, Cond.methodLink RJ2 48 yJ2_length_9d52b, Cond.static yJ2_length_9d52b, Cond.code yJ2_length_9d52b cJ2_length_9d52b 1 (some .int), Cond.methodLink RJ2 241 yJ0_checkBoundsBeginEnd_23922, Cond.static yJ0_checkBoundsBeginEnd_23922, Cond.code yJ0_checkBoundsBeginEnd_23922 cJ0_checkBoundsBeginEnd_23922 3 none, Cond.fieldLink RJ0 1053 "jdk/internal/util/Preconditions" "SIOOBE_FORMATTER" "Ljava/util/function/BiFunction;", Cond.methodLink RJ0 1062 yJ3_checkFromToIndex_8c36e, Cond.static yJ3_checkFromToIndex_8c36e, Cond.initialized RJ3, Cond.code yJ3_checkFromToIndex_8c36e cJ3_checkFromToIndex_8c36e 4 (some .int), Cond.methodLink RJ2 244 yJ2_indexOfCharUnsafe_4cfef, Cond.static yJ2_indexOfCharUnsafe_4cfef, Cond.code yJ2_indexOfCharUnsafe_4cfef cJ2_indexOfCharUnsafe_4cfef 5 (some .int), Cond.methodLink RJ2 71 yJ2_getChar_3b067, Cond.static yJ2_getChar_3b067, Cond.code yJ2_getChar_3b067 cJ2_getChar_3b067 2 (some .char), Cond.fieldLink RJ2 44 "java/lang/StringUTF16" "$assertionsDisabled" "Z", Cond.fieldLink RJ2 59 "java/lang/StringUTF16" "HI_BYTE_SHIFT" "I"]
def wsL_law0_r10 : List Cond := [Cond.fieldLink RJ2 63 "java/lang/StringUTF16" "LO_BYTE_SHIFT" "I", Cond.methodLink RJ2 232 yJ2_indexOfSupplementary_4cfef, Cond.static yJ2_indexOfSupplementary_4cfef, Cond.code yJ2_indexOfSupplementary_4cfef cJ2_indexOfSupplementary_4cfef 7 (some .int), Cond.methodLink RJ2 164 yJ11_isValidCodePoint_9a6ad, Cond.static yJ11_isValidCodePoint_9a6ad, Cond.initialized RJ11, Cond.code yJ11_isValidCodePoint_9a6ad cJ11_isValidCodePoint_9a6ad 2 (some .boolean), Cond.methodLink RJ2 157 yJ11_highSurrogate_5068e, Cond.static yJ11_highSurrogate_5068e, Cond.code yJ11_highSurrogate_5068e cJ11_highSurrogate_5068e 1 (some .char), Cond.constant RJ11 110 (55232), Cond.methodLink RJ2 161 yJ11_lowSurrogate_5068e, Cond.static yJ11_lowSurrogate_5068e, Cond.code yJ11_lowSurrogate_5068e cJ11_lowSurrogate_5068e 1 (some .char), Cond.constant RJ11 76 (56320), Cond.methodLink RX5 78 yX5_takeSign, Cond.instanceMethod yX5_takeSign, Cond.selects RX5 yX5_takeSign yX5_takeSign, Cond.code yX5_takeSign cX5_takeSign 2 (some .boolean), Cond.methodLink RX5 62 yX5_takeOperand, Cond.instanceMethod yX5_takeOperand, Cond.selects RX5 yX5_takeOperand yX5_takeOperand, Cond.code yX5_takeOperand cX5_takeOperand 2 (some .boolean)]
def wsL_law0_r11 : List Cond := [Cond.fieldLink RX5 71 "ClaimJudge$Text" "operand" "I", Cond.methodLink RX5 95 yX5_isDigitTo, Cond.instanceMethod yX5_isDigitTo, Cond.selects RX5 yX5_isDigitTo yX5_isDigitTo, Cond.code yX5_isDigitTo cX5_isDigitTo 2 (some .boolean), Cond.methodLink RX5 52 yX5_keep, Cond.instanceMethod yX5_keep, Cond.selects RX5 yX5_keep yX5_keep, Cond.code yX5_keep cX5_keep 2 (some .boolean), Cond.methodLink RX5 74 yX3_put, Cond.instanceMethod yX3_put, Cond.selects RX3 yX3_put yX3_put, Cond.code yX3_put cX3_put 7 none, Cond.methodLink RX5 56 yX5_takeGoal, Cond.instanceMethod yX5_takeGoal, Cond.selects RX5 yX5_takeGoal yX5_takeGoal, Cond.code yX5_takeGoal cX5_takeGoal 1 (some .boolean), Cond.methodLink RX5 65 yX5_takeAddend, Cond.instanceMethod yX5_takeAddend, Cond.selects RX5 yX5_takeAddend yX5_takeAddend, Cond.code yX5_takeAddend cX5_takeAddend 2 (some .boolean), Cond.methodLink RX6 62 yX3_highestTarget, Cond.instanceMethod yX3_highestTarget, Cond.selects RX3 yX3_highestTarget yX3_highestTarget]
def wsL_law0_r12 : List Cond := [Cond.code yX3_highestTarget cX3_highestTarget 3 (some .int), Cond.methodLink RX3 45 Lib.Math.max.name, Cond.methodLink RX6 77 yX6_saveState, Cond.instanceMethod yX6_saveState, Cond.selects RX6 yX6_saveState yX6_saveState, Cond.code yX6_saveState cX6_saveState 1 none, Cond.methodLink RX6 250 yX1_save, Cond.instanceMethod yX1_save, Cond.selects RX1 yX1_save yX1_save, Cond.code yX1_save cX1_save 4 none, Cond.fieldLink RX1 25 "ClaimJudge$History" "count" "I", Cond.fieldLink RX1 29 "ClaimJudge$History" "oldest" "I", Cond.methodLink RX1 32 yX3_copyFrom, Cond.instanceMethod yX3_copyFrom, Cond.selects RX3 yX3_copyFrom yX3_copyFrom, Cond.code yX3_copyFrom cX3_copyFrom 2 none, Cond.methodLink RX3 38 yX3_clear, Cond.methodLink RX3 41 yX3_putAll, Cond.instanceMethod yX3_putAll, Cond.selects RX3 yX3_putAll yX3_putAll, Cond.code yX3_putAll cX3_putAll 3 none, Cond.methodLink RX3 34 yX3_put, Cond.methodLink RX1 36 yX0_copyFrom, Cond.instanceMethod yX0_copyFrom]
def wsL_law0_r13 : List Cond := [Cond.selects RX0 yX0_copyFrom yX0_copyFrom, Cond.code yX0_copyFrom cX0_copyFrom 3 none, Cond.methodLink RX0 18 yX0_limit, Cond.instanceMethod yX0_limit, Cond.selects RX0 yX0_limit yX0_limit, Cond.code yX0_limit cX0_limit 4 none, Cond.methodLink RX6 80 yX3_copyFrom, Cond.methodLink RX6 83 yX5_clear, Cond.instanceMethod yX5_clear, Cond.selects RX5 yX5_clear yX5_clear, Cond.code yX5_clear cX5_clear 1 none, Cond.methodLink RX6 86 yX6_forgetProgram, Cond.instanceMethod yX6_forgetProgram, Cond.selects RX6 yX6_forgetProgram yX6_forgetProgram, Cond.code yX6_forgetProgram cX6_forgetProgram 1 none, Cond.methodLink RX6 253 yX4_forget, Cond.instanceMethod yX4_forget, Cond.selects RX4 yX4_forget yX4_forget, Cond.code yX4_forget cX4_forget 1 none, Cond.methodLink RX6 148 yX2_forget, Cond.instanceMethod yX2_forget, Cond.selects RX2 yX2_forget yX2_forget, Cond.code yX2_forget cX2_forget 1 none, Cond.methodLink RL 80 yX7_load]
def wsL_law0_r14 : List Cond := [Cond.instanceMethod yX7_load, Cond.selects RX7 yX7_load yX7_load, Cond.code yX7_load cX7_load 2 (some .int), Cond.fieldLink RX7 106 "ClaimJudgeModel" "farthest" "I", Cond.fieldLink RX7 89 "ClaimJudgeModel" "readMany" "I", Cond.methodLink RX7 112 yX7_reads, Cond.instanceMethod yX7_reads, Cond.selects RX7 yX7_reads yX7_reads, Cond.code yX7_reads cX7_reads 2 (some .boolean), Cond.fieldLink RX7 77 "ClaimJudgeModel" "spot" "I", Cond.fieldLink RX7 73 "ClaimJudgeModel" "isWrong" "Z", Cond.fieldLink RX7 80 "ClaimJudgeModel" "length" "I", Cond.methodLink RX7 109 yX7_readStatement, Cond.instanceMethod yX7_readStatement, Cond.selects RX7 yX7_readStatement yX7_readStatement, Cond.code yX7_readStatement cX7_readStatement 4 none, Cond.methodLink RX7 83 yX7_isNext, Cond.instanceMethod yX7_isNext, Cond.selects RX7 yX7_isNext yX7_isNext, Cond.code yX7_isNext cX7_isNext 3 (some .boolean), Cond.methodLink RX7 33 yX7_in, Cond.static yX7_in, Cond.code yX7_in cX7_in 3 (some .boolean), Cond.methodLink RX7 100 yX7_readAssignment]
def wsL_law0_r15 : List Cond := [Cond.instanceMethod yX7_readAssignment, Cond.selects RX7 yX7_readAssignment yX7_readAssignment, Cond.code yX7_readAssignment cX7_readAssignment 4 none, Cond.methodLink RX7 92 yX7_puts, Cond.instanceMethod yX7_puts, Cond.selects RX7 yX7_puts yX7_puts, Cond.code yX7_puts cX7_puts 3 none, Cond.methodLink RX7 86 yX7_takes, Cond.instanceMethod yX7_takes, Cond.selects RX7 yX7_takes yX7_takes, Cond.code yX7_takes cX7_takes 5 (some .int), Cond.methodLink RX7 96 yX7_readOperand, Cond.instanceMethod yX7_readOperand, Cond.selects RX7 yX7_readOperand yX7_readOperand, Cond.code yX7_readOperand cX7_readOperand 1 (some .int), Cond.methodLink RX7 103 yX7_readTest, Cond.instanceMethod yX7_readTest, Cond.selects RX7 yX7_readTest yX7_readTest, Cond.code yX7_readTest cX7_readTest 2 none, Cond.methodLink RX7 116 yX7_holds, Cond.instanceMethod yX7_holds, Cond.selects RX7 yX7_holds yX7_holds, Cond.code yX7_holds cX7_holds 2 (some .boolean), Cond.fieldLink RX7 29 "ClaimJudgeModel" "thrown" "I"]
def wsL_law0_r16 : List Cond := [Cond.methodLink RX7 119 yX7_save, Cond.instanceMethod yX7_save, Cond.selects RX7 yX7_save yX7_save, Cond.code yX7_save cX7_save 2 none, Cond.fieldLink RX7 37 "ClaimJudgeModel" "savedMany" "I", Cond.methodLink RX7 122 yX7_places, Cond.instanceMethod yX7_places, Cond.selects RX7 yX7_places yX7_places, Cond.code yX7_places cX7_places 3 (some .int), Cond.methodLink RL 81 yX7_thrown, Cond.instanceMethod yX7_thrown, Cond.selects RX7 yX7_thrown yX7_thrown, Cond.code yX7_thrown cX7_thrown 1 (some .int), Cond.methodLink RL 84 yL_add, Cond.static yL_add, Cond.codeWith yL_add cL_add 3 (some .int) [(0, 8, 11, 13)], Cond.methodLink RL 15 yX6_add, Cond.instanceMethod yX6_add, Cond.selects RX6 yX6_add yX6_add, Cond.code yX6_add cX6_add 2 (some .int), Cond.methodLink RX6 89 yX6_fitsBehind, Cond.instanceMethod yX6_fitsBehind, Cond.selects RX6 yX6_fitsBehind yX6_fitsBehind, Cond.code yX6_fitsBehind cX6_fitsBehind 3 (some .boolean)]
def wsL_law0_r17 : List Cond := [Cond.methodLink RX6 95 yX3_putAll, Cond.methodLink RL 86 yX7_add, Cond.instanceMethod yX7_add, Cond.selects RX7 yX7_add yX7_add, Cond.code yX7_add cX7_add 2 (some .int), Cond.methodLink RL 87 yL_removeLast, Cond.static yL_removeLast, Cond.codeWith yL_removeLast cL_removeLast 3 (some .int) [(0, 8, 11, 21)], Cond.classLink RL 21 "java/lang/IllegalStateException", Cond.methodLink RL 18 yX6_removeLast, Cond.instanceMethod yX6_removeLast, Cond.selects RX6 yX6_removeLast yX6_removeLast, Cond.code yX6_removeLast cX6_removeLast 1 (some .int), Cond.classLink RX6 98 "java/lang/IllegalStateException", Cond.initialized "java/lang/IllegalStateException", Cond.methodLink RX6 103 yX3_dropLast, Cond.instanceMethod yX3_dropLast, Cond.selects RX3 yX3_dropLast yX3_dropLast, Cond.code yX3_dropLast cX3_dropLast 3 none, Cond.methodLink RL 89 yX7_removeLast, Cond.instanceMethod yX7_removeLast, Cond.selects RX7 yX7_removeLast yX7_removeLast, Cond.code yX7_removeLast cX7_removeLast 3 (some .int), Cond.methodLink RX7 44 yX7_of]
def wsL_law0_r18 : List Cond := [Cond.static yX7_of, Cond.code yX7_of cX7_of 2 (some .int), Cond.methodLink RL 90 yX6_statements, Cond.instanceMethod yX6_statements, Cond.selects RX6 yX6_statements yX6_statements, Cond.code yX6_statements cX6_statements 1 (some .int), Cond.methodLink RL 93 yX7_statements, Cond.instanceMethod yX7_statements, Cond.selects RX7 yX7_statements yX7_statements, Cond.code yX7_statements cX7_statements 1 (some .int), Cond.methodLink RL 94 yL_kind, Cond.static yL_kind, Cond.codeWith yL_kind cL_kind 4 (some .int) [(0, 9, 12, 27)], Cond.classLink RL 27 "java/lang/IndexOutOfBoundsException", Cond.methodLink RL 23 yX6_kind, Cond.instanceMethod yX6_kind, Cond.selects RX6 yX6_kind yX6_kind, Cond.code yX6_kind cX6_kind 2 (some .int), Cond.methodLink RX6 106 yX6_checkIndex, Cond.static yX6_checkIndex, Cond.code yX6_checkIndex cX6_checkIndex 2 none, Cond.classLink RX6 254 "java/lang/IndexOutOfBoundsException", Cond.initialized "java/lang/IndexOutOfBoundsException", Cond.methodLink RL 97 yX7_kind]
def wsL_law0_r19 : List Cond := [Cond.instanceMethod yX7_kind, Cond.selects RX7 yX7_kind yX7_kind, Cond.code yX7_kind cX7_kind 2 (some .int), Cond.methodLink RX7 125 yX7_isStatement, Cond.instanceMethod yX7_isStatement, Cond.selects RX7 yX7_isStatement yX7_isStatement, Cond.code yX7_isStatement cX7_isStatement 2 (some .boolean), Cond.methodLink RL 98 yL_target, Cond.static yL_target, Cond.codeWith yL_target cL_target 4 (some .int) [(0, 9, 12, 27)], Cond.methodLink RL 29 yX6_target, Cond.instanceMethod yX6_target, Cond.selects RX6 yX6_target yX6_target, Cond.code yX6_target cX6_target 2 (some .int), Cond.methodLink RL 100 yX7_target, Cond.instanceMethod yX7_target, Cond.selects RX7 yX7_target yX7_target, Cond.code yX7_target cX7_target 2 (some .int), Cond.methodLink RX7 128 yX7_targetOf, Cond.instanceMethod yX7_targetOf, Cond.selects RX7 yX7_targetOf yX7_targetOf, Cond.code yX7_targetOf cX7_targetOf 2 (some .int), Cond.methodLink RL 101 yL_run, Cond.static yL_run]
def wsL_law0_r20 : List Cond := [Cond.codeWith yL_run cL_run 6 (some .int) [(0, 12, 15, 13)], Cond.methodLink RL 32 yX6_run, Cond.instanceMethod yX6_run, Cond.selects RX6 yX6_run yX6_run, Cond.code yX6_run cX6_run 4 (some .int), Cond.methodLink RX6 117 yX6_checkValues, Cond.static yX6_checkValues, Cond.code yX6_checkValues cX6_checkValues 3 none, Cond.methodLink RX6 140 yX6_isValue, Cond.static yX6_isValue, Cond.code yX6_isValue cX6_isValue 1 (some .boolean), Cond.methodLink RX6 121 yX6_tripleOf, Cond.static yX6_tripleOf, Cond.code yX6_tripleOf cX6_tripleOf 3 (some .int), Cond.methodLink RX6 125 yX4_endFrom, Cond.instanceMethod yX4_endFrom, Cond.selects RX4 yX4_endFrom yX4_endFrom, Cond.code yX4_endFrom cX4_endFrom 5 (some .int), Cond.methodLink RX4 27 yJ7_fill_53178, Cond.static yJ7_fill_53178, Cond.initialized RJ7, Cond.code yJ7_fill_53178 cJ7_fill_53178 4 none, Cond.methodLink RX4 33 yX3_placeAfter, Cond.instanceMethod yX3_placeAfter]
def wsL_law0_r21 : List Cond := [Cond.selects RX3 yX3_placeAfter yX3_placeAfter, Cond.code yX3_placeAfter cX3_placeAfter 7 (some .int), Cond.static yX6_statementAt, Cond.code yX6_statementAt cX6_statementAt 1 (some .int), Cond.static yX6_tripleAt, Cond.code yX6_tripleAt cX6_tripleAt 1 (some .int), Cond.static yX6_valueOf, Cond.code yX6_valueOf cX6_valueOf 2 (some .int), Cond.static yX6_withValue, Cond.code yX6_withValue cX6_withValue 4 (some .int), Cond.static yX6_placeOf, Cond.code yX6_placeOf cX6_placeOf 2 (some .int), Cond.methodLink RX3 68 yX3_compares, Cond.static yX3_compares, Cond.code yX3_compares cX3_compares 3 (some .boolean), Cond.methodLink RX4 38 yX4_endAt, Cond.instanceMethod yX4_endAt, Cond.selects RX4 yX4_endAt yX4_endAt, Cond.code yX4_endAt cX4_endAt 2 (some .int), Cond.methodLink RX4 45 yX3_isEnd, Cond.instanceMethod yX3_isEnd, Cond.selects RX3 yX3_isEnd yX3_isEnd, Cond.code yX3_isEnd cX3_isEnd 2 (some .boolean), Cond.methodLink RX4 41 yX4_settle]
def wsL_law0_r22 : List Cond := [Cond.instanceMethod yX4_settle, Cond.selects RX4 yX4_settle yX4_settle, Cond.code yX4_settle cX4_settle 5 none, Cond.methodLink RL 104 yX7_run, Cond.instanceMethod yX7_run, Cond.selects RX7 yX7_run yX7_run, Cond.code yX7_run cX7_run 4 (some .int), Cond.methodLink RX7 131 yX7_areValues, Cond.static yX7_areValues, Cond.code yX7_areValues cX7_areValues 3 (some .boolean), Cond.methodLink RX7 134 yX7_worksOut, Cond.instanceMethod yX7_worksOut, Cond.selects RX7 yX7_worksOut yX7_worksOut, Cond.code yX7_worksOut cX7_worksOut 2 none, Cond.methodLink RX7 58 yX7_isEnd, Cond.instanceMethod yX7_isEnd, Cond.selects RX7 yX7_isEnd yX7_isEnd, Cond.code yX7_isEnd cX7_isEnd 2 (some .boolean), Cond.methodLink RX7 66 yX7_follows, Cond.instanceMethod yX7_follows, Cond.selects RX7 yX7_follows yX7_follows, Cond.code yX7_follows cX7_follows 5 none, Cond.methodLink RX7 62 yX7_goesTo, Cond.instanceMethod yX7_goesTo]
def wsL_law0_r23 : List Cond := [Cond.selects RX7 yX7_goesTo yX7_goesTo, Cond.code yX7_goesTo cX7_goesTo 6 (some .int), Cond.methodLink RX7 47 yX7_operand, Cond.instanceMethod yX7_operand, Cond.selects RX7 yX7_operand yX7_operand, Cond.code yX7_operand cX7_operand 4 (some .int), Cond.methodLink RX7 40 yX7_valueOf, Cond.static yX7_valueOf, Cond.code yX7_valueOf cX7_valueOf 2 (some .int), Cond.methodLink RX7 50 yX7_withValue, Cond.static yX7_withValue, Cond.code yX7_withValue cX7_withValue 4 (some .int), Cond.methodLink RX7 54 yX7_isTrue, Cond.instanceMethod yX7_isTrue, Cond.selects RX7 yX7_isTrue yX7_isTrue, Cond.code yX7_isTrue cX7_isTrue 5 (some .boolean), Cond.methodLink RX7 137 yX7_triple, Cond.static yX7_triple, Cond.code yX7_triple cX7_triple 3 (some .int), Cond.methodLink RL 105 yL_steps, Cond.static yL_steps, Cond.codeWith yL_steps cL_steps 6 (some .int) [(0, 12, 15, 13)], Cond.methodLink RL 36 yX6_steps, Cond.instanceMethod yX6_steps]
def wsL_law0_r24 : List Cond := [Cond.selects RX6 yX6_steps yX6_steps, Cond.code yX6_steps cX6_steps 4 (some .int), Cond.methodLink RX6 129 yX4_lengthFrom, Cond.instanceMethod yX4_lengthFrom, Cond.selects RX4 yX4_lengthFrom yX4_lengthFrom, Cond.code yX4_lengthFrom cX4_lengthFrom 5 (some .int), Cond.methodLink RX4 23 yX4_endFrom, Cond.methodLink RL 107 yX7_steps, Cond.instanceMethod yX7_steps, Cond.selects RX7 yX7_steps yX7_steps, Cond.code yX7_steps cX7_steps 6 (some .int), Cond.methodLink RL 108 yL_demand, Cond.static yL_demand, Cond.codeWith yL_demand cL_demand 4 (some .int) [(0, 9, 12, 27)], Cond.methodLink RL 39 yX6_demand, Cond.instanceMethod yX6_demand, Cond.selects RX6 yX6_demand yX6_demand, Cond.code yX6_demand cX6_demand 4 (some .int), Cond.methodLink RX6 132 yX6_placeOf, Cond.methodLink RX6 136 yX4_succeedsFrom, Cond.instanceMethod yX4_succeedsFrom, Cond.selects RX4 yX4_succeedsFrom yX4_succeedsFrom, Cond.code yX4_succeedsFrom cX4_succeedsFrom 2 (some .boolean), Cond.methodLink RL 110 yX7_demand]
def wsL_law0_r25 : List Cond := [Cond.instanceMethod yX7_demand, Cond.selects RX7 yX7_demand yX7_demand, Cond.code yX7_demand cX7_demand 2 (some .int), Cond.methodLink RX7 140 yX7_demanded, Cond.instanceMethod yX7_demanded, Cond.selects RX7 yX7_demanded yX7_demanded, Cond.code yX7_demanded cX7_demanded 4 (some .int), Cond.methodLink RL 111 yL_demands, Cond.static yL_demands, Cond.codeWith yL_demands cL_demands 7 (some .int) [(0, 21, 24, 27), (0, 21, 28, 13)], Cond.methodLink RL 42 yX6_demands, Cond.instanceMethod yX6_demands, Cond.selects RX6 yX6_demands yX6_demands, Cond.code yX6_demands cX6_demands 5 (some .boolean), Cond.methodLink RL 114 yX7_demands, Cond.instanceMethod yX7_demands, Cond.selects RX7 yX7_demands yX7_demands, Cond.code yX7_demands cX7_demands 5 (some .boolean), Cond.methodLink RL 115 yL_assume, Cond.static yL_assume, Cond.codeWith yL_assume cL_assume 6 (some .int) [(0, 12, 15, 27), (0, 12, 19, 13)], Cond.methodLink RL 46 yX6_assume, Cond.instanceMethod yX6_assume, Cond.selects RX6 yX6_assume yX6_assume]
def wsL_law0_r26 : List Cond := [Cond.code yX6_assume cX6_assume 4 (some .int), Cond.methodLink RX6 145 yX0_limit, Cond.methodLink RX6 151 yX0_count, Cond.instanceMethod yX0_count, Cond.selects RX0 yX0_count yX0_count, Cond.code yX0_count cX0_count 3 (some .int), Cond.methodLink RL 117 yX7_assume, Cond.instanceMethod yX7_assume, Cond.selects RX7 yX7_assume yX7_assume, Cond.code yX7_assume cX7_assume 5 (some .int), Cond.methodLink RX7 143 yX7_assumed, Cond.instanceMethod yX7_assumed, Cond.selects RX7 yX7_assumed yX7_assumed, Cond.code yX7_assumed cX7_assumed 3 (some .int), Cond.methodLink RL 118 yL_verdict, Cond.static yL_verdict, Cond.codeWith yL_verdict cL_verdict 4 (some .int) [(0, 9, 12, 27)], Cond.methodLink RL 49 yX6_verdict, Cond.instanceMethod yX6_verdict, Cond.selects RX6 yX6_verdict yX6_verdict, Cond.code yX6_verdict cX6_verdict 2 (some .int), Cond.methodLink RX6 154 yX2_refresh, Cond.instanceMethod yX2_refresh, Cond.selects RX2 yX2_refresh yX2_refresh]
def wsL_law0_r27 : List Cond := [Cond.code yX2_refresh cX2_refresh 2 none, Cond.methodLink RX2 41 yX2_clear, Cond.instanceMethod yX2_clear, Cond.selects RX2 yX2_clear yX2_clear, Cond.code yX2_clear cX2_clear 1 none, Cond.fieldLink RX2 73 "ClaimJudge$Judgement" "endlessRuns" "I", Cond.fieldLink RX2 77 "ClaimJudge$Judgement" "failedRuns" "I", Cond.fieldLink RX2 80 "ClaimJudge$Judgement" "successfulRuns" "I", Cond.methodLink RX2 64 yJ7_fill_53178, Cond.methodLink RX2 70 yJ7_fill_d0a16, Cond.static yJ7_fill_d0a16, Cond.code yJ7_fill_d0a16 cJ7_fill_d0a16 5 none, Cond.methodLink RX2 44 yX0_allows, Cond.instanceMethod yX0_allows, Cond.selects RX0 yX0_allows yX0_allows, Cond.code yX0_allows cX0_allows 2 (some .boolean), Cond.methodLink RX0 22 yX0_allowsBut, Cond.instanceMethod yX0_allowsBut, Cond.selects RX0 yX0_allowsBut yX0_allowsBut, Cond.code yX0_allowsBut cX0_allowsBut 5 (some .boolean), Cond.methodLink RX2 50 yX4_endFrom, Cond.methodLink RX2 56 yX2_countRun, Cond.instanceMethod yX2_countRun, Cond.selects RX2 yX2_countRun yX2_countRun]
def wsL_law0_r28 : List Cond := [Cond.code yX2_countRun cX2_countRun 3 none, Cond.methodLink RX2 60 yX2_followRun, Cond.instanceMethod yX2_followRun, Cond.selects RX2 yX2_followRun yX2_followRun, Cond.code yX2_followRun cX2_followRun 4 none, Cond.methodLink RX2 83 yX2_isVisited, Cond.instanceMethod yX2_isVisited, Cond.selects RX2 yX2_isVisited yX2_isVisited, Cond.code yX2_isVisited cX2_isVisited 2 (some .boolean), Cond.methodLink RX2 86 yX2_noteValues, Cond.instanceMethod yX2_noteValues, Cond.selects RX2 yX2_noteValues yX2_noteValues, Cond.code yX2_noteValues cX2_noteValues 6 none, Cond.methodLink RX2 89 yX3_placeAfter, Cond.methodLink RX6 160 yX2_isReached, Cond.instanceMethod yX2_isReached, Cond.selects RX2 yX2_isReached yX2_isReached, Cond.code yX2_isReached cX2_isReached 2 (some .boolean), Cond.methodLink RL 120 yX7_verdict, Cond.instanceMethod yX7_verdict, Cond.selects RX7 yX7_verdict yX7_verdict, Cond.code yX7_verdict cX7_verdict 2 (some .int), Cond.methodLink RX7 152 yX7_looks, Cond.instanceMethod yX7_looks]
def wsL_law0_r29 : List Cond := [Cond.selects RX7 yX7_looks yX7_looks, Cond.code yX7_looks cX7_looks 3 none, Cond.methodLink RX7 70 yX7_isAssumed, Cond.instanceMethod yX7_isAssumed, Cond.selects RX7 yX7_isAssumed yX7_isAssumed, Cond.code yX7_isAssumed cX7_isAssumed 4 (some .boolean), Cond.methodLink RX7 155 yX7_verdictOf, Cond.instanceMethod yX7_verdictOf, Cond.selects RX7 yX7_verdictOf yX7_verdictOf, Cond.code yX7_verdictOf cX7_verdictOf 2 (some .int), Cond.methodLink RX7 146 yX7_isReached, Cond.instanceMethod yX7_isReached, Cond.selects RX7 yX7_isReached yX7_isReached, Cond.code yX7_isReached cX7_isReached 4 (some .boolean), Cond.methodLink RX7 149 yX7_exampleOf, Cond.instanceMethod yX7_exampleOf, Cond.selects RX7 yX7_exampleOf yX7_exampleOf, Cond.code yX7_exampleOf cX7_exampleOf 4 (some .int), Cond.methodLink RL 121 yL_example, Cond.static yL_example, Cond.codeWith yL_example cL_example 4 (some .int) [(0, 9, 12, 27)], Cond.methodLink RL 52 yX6_example, Cond.instanceMethod yX6_example, Cond.selects RX6 yX6_example yX6_example]
def wsL_law0_r30 : List Cond := [Cond.code yX6_example cX6_example 2 (some .int), Cond.methodLink RL 123 yX7_example, Cond.instanceMethod yX7_example, Cond.selects RX7 yX7_example yX7_example, Cond.code yX7_example cX7_example 2 (some .int), Cond.methodLink RL 124 yX6_endless, Cond.instanceMethod yX6_endless, Cond.selects RX6 yX6_endless yX6_endless, Cond.code yX6_endless cX6_endless 1 (some .int), Cond.methodLink RL 127 yX7_endless, Cond.instanceMethod yX7_endless, Cond.selects RX7 yX7_endless yX7_endless, Cond.code yX7_endless cX7_endless 1 (some .int), Cond.methodLink RX7 158 yX7_runsThat, Cond.instanceMethod yX7_runsThat, Cond.selects RX7 yX7_runsThat yX7_runsThat, Cond.code yX7_runsThat cX7_runsThat 5 (some .int), Cond.methodLink RL 128 yX6_proof, Cond.instanceMethod yX6_proof, Cond.selects RX6 yX6_proof yX6_proof, Cond.code yX6_proof cX6_proof 1 (some .int), Cond.methodLink RL 131 yX7_proof, Cond.instanceMethod yX7_proof, Cond.selects RX7 yX7_proof yX7_proof]
def wsL_law0_r31 : List Cond := [Cond.code yX7_proof cX7_proof 1 (some .int), Cond.methodLink RX7 161 yX7_judged, Cond.instanceMethod yX7_judged, Cond.selects RX7 yX7_judged yX7_judged, Cond.code yX7_judged cX7_judged 1 (some .int), Cond.methodLink RL 132 yX6_provedShare, Cond.instanceMethod yX6_provedShare, Cond.selects RX6 yX6_provedShare yX6_provedShare, Cond.code yX6_provedShare cX6_provedShare 1 (some .double), Cond.methodLink RL 136 yX7_provedShare, Cond.instanceMethod yX7_provedShare, Cond.selects RX7 yX7_provedShare yX7_provedShare, Cond.code yX7_provedShare cX7_provedShare 1 (some .double), Cond.methodLink RL 137 yL_least, Cond.static yL_least, Cond.codeWith yL_least cL_least 5 (some .int) [(0, 10, 13, 27)], Cond.methodLink RL 55 yX6_least, Cond.instanceMethod yX6_least, Cond.selects RX6 yX6_least yX6_least, Cond.code yX6_least cX6_least 3 (some .int), Cond.methodLink RL 140 yX7_least, Cond.instanceMethod yX7_least, Cond.selects RX7 yX7_least yX7_least, Cond.code yX7_least cX7_least 3 (some .int)]
def wsL_law0_r32 : List Cond := [Cond.methodLink RX7 164 yX7_bound, Cond.instanceMethod yX7_bound, Cond.selects RX7 yX7_bound yX7_bound, Cond.code yX7_bound cX7_bound 8 (some .int), Cond.methodLink RL 141 yL_greatest, Cond.static yL_greatest, Cond.codeWith yL_greatest cL_greatest 5 (some .int) [(0, 10, 13, 27)], Cond.methodLink RL 59 yX6_greatest, Cond.instanceMethod yX6_greatest, Cond.selects RX6 yX6_greatest yX6_greatest, Cond.code yX6_greatest cX6_greatest 3 (some .int), Cond.methodLink RL 143 yX7_greatest, Cond.instanceMethod yX7_greatest, Cond.selects RX7 yX7_greatest yX7_greatest, Cond.code yX7_greatest cX7_greatest 3 (some .int), Cond.methodLink RL 144 yL_widest, Cond.static yL_widest, Cond.codeWith yL_widest cL_widest 4 (some .int) [(0, 9, 12, 27)], Cond.methodLink RL 62 yX6_widest, Cond.instanceMethod yX6_widest, Cond.selects RX6 yX6_widest yX6_widest, Cond.code yX6_widest cX6_widest 2 (some .int), Cond.methodLink RX6 178 yX6_unprovedValues, Cond.instanceMethod yX6_unprovedValues]
def wsL_law0_r33 : List Cond := [Cond.selects RX6 yX6_unprovedValues yX6_unprovedValues, Cond.code yX6_unprovedValues cX6_unprovedValues 4 (some .int), Cond.methodLink RX6 243 yX0_allowsBut, Cond.methodLink RX6 247 yX6_valueOf, Cond.methodLink RX6 181 yX6_widestRange, Cond.static yX6_widestRange, Cond.code yX6_widestRange cX6_widestRange 5 (some .int), Cond.methodLink RL 146 yX7_widest, Cond.instanceMethod yX7_widest, Cond.selects RX7 yX7_widest yX7_widest, Cond.code yX7_widest cX7_widest 2 (some .int), Cond.methodLink RX7 168 yX7_widestOf, Cond.instanceMethod yX7_widestOf, Cond.selects RX7 yX7_widestOf yX7_widestOf, Cond.code yX7_widestOf cX7_widestOf 8 (some .int), Cond.methodLink RL 147 yL_append, Cond.static yL_append, Cond.codeWith yL_append cL_append 4 (some .int) [(0, 9, 12, 13), (0, 9, 15, 21)], Cond.methodLink RL 65 yX6_append, Cond.instanceMethod yX6_append, Cond.selects RX6 yX6_append yX6_append, Cond.code yX6_append cX6_append 2 (some .int), Cond.methodLink RX6 191 yX5_put, Cond.instanceMethod yX5_put]
def wsL_law0_r34 : List Cond := [Cond.selects RX5 yX5_put yX5_put, Cond.code yX5_put cX5_put 2 none, Cond.methodLink RL 149 yX7_append, Cond.instanceMethod yX7_append, Cond.selects RX7 yX7_append yX7_append, Cond.code yX7_append cX7_append 2 (some .int), Cond.methodLink RL 150 yX6_clearBuffer, Cond.instanceMethod yX6_clearBuffer, Cond.selects RX6 yX6_clearBuffer yX6_clearBuffer, Cond.code yX6_clearBuffer cX6_clearBuffer 2 (some .int), Cond.methodLink RL 153 yX7_clearBuffer, Cond.instanceMethod yX7_clearBuffer, Cond.selects RX7 yX7_clearBuffer yX7_clearBuffer, Cond.code yX7_clearBuffer cX7_clearBuffer 2 (some .int), Cond.methodLink RL 154 yX6_firstError, Cond.instanceMethod yX6_firstError, Cond.selects RX6 yX6_firstError yX6_firstError, Cond.code yX6_firstError cX6_firstError 1 (some .int), Cond.methodLink RL 157 yX7_firstError, Cond.instanceMethod yX7_firstError, Cond.selects RX7 yX7_firstError yX7_firstError, Cond.code yX7_firstError cX7_firstError 1 (some .int), Cond.methodLink RL 158 yL_undo, Cond.static yL_undo]
def wsL_law0_r35 : List Cond := [Cond.codeWith yL_undo cL_undo 3 (some .int) [(0, 8, 11, 21)], Cond.methodLink RL 68 yX6_undo, Cond.instanceMethod yX6_undo, Cond.selects RX6 yX6_undo yX6_undo, Cond.code yX6_undo cX6_undo 1 (some .int), Cond.methodLink RX6 202 yX1_restore, Cond.instanceMethod yX1_restore, Cond.selects RX1 yX1_restore yX1_restore, Cond.code yX1_restore cX1_restore 4 none, Cond.methodLink RL 160 yX7_undo, Cond.instanceMethod yX7_undo, Cond.selects RX7 yX7_undo yX7_undo, Cond.code yX7_undo cX7_undo 2 (some .int), Cond.methodLink RL 161 yX6_savedStates, Cond.instanceMethod yX6_savedStates, Cond.selects RX6 yX6_savedStates yX6_savedStates, Cond.code yX6_savedStates cX6_savedStates 1 (some .int), Cond.methodLink RL 164 yX7_savedStates, Cond.instanceMethod yX7_savedStates, Cond.selects RX7 yX7_savedStates yX7_savedStates, Cond.code yX7_savedStates cX7_savedStates 1 (some .int), Cond.methodLink RL 165 yX6_digest, Cond.instanceMethod yX6_digest, Cond.selects RX6 yX6_digest yX6_digest]
def wsL_law0_r36 : List Cond := [Cond.code yX6_digest cX6_digest 5 (some .long), Cond.constantLong RX6 206 (4234), Cond.constantLong RX6 208 (31), Cond.methodLink RX6 210 yX6_statements, Cond.methodLink RX6 213 yX6_endless, Cond.methodLink RX6 216 yX6_proof, Cond.methodLink RX6 219 yX6_kind, Cond.methodLink RX6 222 yX6_target, Cond.methodLink RX6 225 yX6_demand, Cond.methodLink RX6 228 yX6_verdict, Cond.methodLink RX6 231 yX6_example, Cond.methodLink RX6 234 yX6_least, Cond.methodLink RX6 237 yX6_greatest, Cond.methodLink RX6 240 yX6_widest, Cond.methodLink RL 169 yX7_digest, Cond.instanceMethod yX7_digest, Cond.selects RX7 yX7_digest yX7_digest, Cond.code yX7_digest cX7_digest 2 (some .long), Cond.constantLong RX7 181 (4234), Cond.fieldLink RX7 173 "ClaimJudgeModel" "digested" "J", Cond.methodLink RX7 177 yX7_digestOne, Cond.instanceMethod yX7_digestOne, Cond.selects RX7 yX7_digestOne yX7_digestOne, Cond.code yX7_digestOne cX7_digestOne 3 none]
def wsL_law0_r37 : List Cond := [Cond.constantLong RX7 171 (31), Cond.methodLink RX7 183 yX7_digestBounds, Cond.instanceMethod yX7_digestBounds, Cond.selects RX7 yX7_digestBounds yX7_digestBounds, Cond.code yX7_digestBounds cX7_digestBounds 3 none]
def wsL_law0 : List Cond := (wsL_law0_r1 ++ (wsL_law0_r2 ++ (wsL_law0_r3 ++ (wsL_law0_r4 ++ (wsL_law0_r5 ++ (wsL_law0_r6 ++ (wsL_law0_r7 ++ (wsL_law0_r8 ++ (wsL_law0_r9 ++ (wsL_law0_r10 ++ (wsL_law0_r11 ++ (wsL_law0_r12 ++ (wsL_law0_r13 ++ (wsL_law0_r14 ++ (wsL_law0_r15 ++ (wsL_law0_r16 ++ (wsL_law0_r17 ++ (wsL_law0_r18 ++ (wsL_law0_r19 ++ (wsL_law0_r20 ++ (wsL_law0_r21 ++ (wsL_law0_r22 ++ (wsL_law0_r23 ++ (wsL_law0_r24 ++ (wsL_law0_r25 ++ (wsL_law0_r26 ++ (wsL_law0_r27 ++ (wsL_law0_r28 ++ (wsL_law0_r29 ++ (wsL_law0_r30 ++ (wsL_law0_r31 ++ (wsL_law0_r32 ++ (wsL_law0_r33 ++ (wsL_law0_r34 ++ (wsL_law0_r35 ++ (wsL_law0_r36 ++ wsL_law0_r37)))))))))))))))))))))))))))))))))))) ++ wsX60 ++ wsX70 ++ wsX30 ++ wsX00 ++ wsX40 ++ wsX20 ++ wsX10 ++ wsX50 ++ ([] : List Cond)
def wsL_law : List Cond := wsL_law0 ++ (vx_atS RX6 74 "java/lang/IllegalArgumentException" ["java/lang/RuntimeException", "java/lang/Exception"]).filter goodWord ++ (vx_atS RX6 102 "java/lang/IllegalStateException" ["java/lang/RuntimeException", "java/lang/Exception"]).filter goodWord ++ (vx_atS RX6 258 "java/lang/IndexOutOfBoundsException" ["java/lang/RuntimeException", "java/lang/Exception"]).filter goodWord
theorem dX0_init_0 : decode cX0_init 0 = .ok (.aload_n 0, 1) := by decide +kernel
theorem dX0_init_1 : decode cX0_init 1 = .ok (.invokespecial 3, 3) := by decide +kernel
theorem dX0_init_4 : decode cX0_init 4 = .ok (.aload_n 0, 1) := by decide +kernel
theorem dX0_init_5 : decode cX0_init 5 = .ok (.iconst 3, 1) := by decide +kernel
theorem dX0_init_6 : decode cX0_init 6 = .ok (.newarray .int, 2) := by decide +kernel
theorem dX0_init_8 : decode cX0_init 8 = .ok (.dup, 1) := by decide +kernel
theorem dX0_init_9 : decode cX0_init 9 = .ok (.iconst 0, 1) := by decide +kernel
theorem dX0_init_10 : decode cX0_init 10 = .ok (.iconst 0, 1) := by decide +kernel
theorem dX0_init_11 : decode cX0_init 11 = .ok (.iastore, 1) := by decide +kernel
theorem dX0_init_12 : decode cX0_init 12 = .ok (.dup, 1) := by decide +kernel
theorem dX0_init_13 : decode cX0_init 13 = .ok (.iconst 1, 1) := by decide +kernel
theorem dX0_init_14 : decode cX0_init 14 = .ok (.iconst 0, 1) := by decide +kernel
theorem dX0_init_15 : decode cX0_init 15 = .ok (.iastore, 1) := by decide +kernel
theorem dX0_init_16 : decode cX0_init 16 = .ok (.dup, 1) := by decide +kernel
theorem dX0_init_17 : decode cX0_init 17 = .ok (.iconst 2, 1) := by decide +kernel
theorem dX0_init_18 : decode cX0_init 18 = .ok (.iconst 0, 1) := by decide +kernel
theorem dX0_init_19 : decode cX0_init 19 = .ok (.iastore, 1) := by decide +kernel
theorem dX0_init_20 : decode cX0_init 20 = .ok (.putfield 9, 3) := by decide +kernel
theorem dX0_init_23 : decode cX0_init 23 = .ok (.aload_n 0, 1) := by decide +kernel
theorem dX0_init_24 : decode cX0_init 24 = .ok (.iconst 3, 1) := by decide +kernel
theorem dX0_init_25 : decode cX0_init 25 = .ok (.newarray .int, 2) := by decide +kernel
theorem dX0_init_27 : decode cX0_init 27 = .ok (.dup, 1) := by decide +kernel
theorem dX0_init_28 : decode cX0_init 28 = .ok (.iconst 0, 1) := by decide +kernel
theorem dX0_init_29 : decode cX0_init 29 = .ok (.bipush 7, 2) := by decide +kernel
theorem dX0_init_31 : decode cX0_init 31 = .ok (.iastore, 1) := by decide +kernel
theorem dX0_init_32 : decode cX0_init 32 = .ok (.dup, 1) := by decide +kernel
theorem dX0_init_33 : decode cX0_init 33 = .ok (.iconst 1, 1) := by decide +kernel
theorem dX0_init_34 : decode cX0_init 34 = .ok (.bipush 7, 2) := by decide +kernel
theorem dX0_init_36 : decode cX0_init 36 = .ok (.iastore, 1) := by decide +kernel
theorem dX0_init_37 : decode cX0_init 37 = .ok (.dup, 1) := by decide +kernel
theorem dX0_init_38 : decode cX0_init 38 = .ok (.iconst 2, 1) := by decide +kernel
theorem dX0_init_39 : decode cX0_init 39 = .ok (.bipush 7, 2) := by decide +kernel
theorem dX0_init_41 : decode cX0_init 41 = .ok (.iastore, 1) := by decide +kernel
theorem dX0_init_42 : decode cX0_init 42 = .ok (.putfield 15, 3) := by decide +kernel
theorem dX0_init_45 : decode cX0_init 45 = .ok (.return_, 1) := by decide +kernel
theorem dX0_limit_0 : decode cX0_limit 0 = .ok (.aload_n 0, 1) := by decide +kernel
theorem dX0_limit_1 : decode cX0_limit 1 = .ok (.getfield 9, 3) := by decide +kernel
theorem dX0_limit_4 : decode cX0_limit 4 = .ok (.iload_n 1, 1) := by decide +kernel
theorem dX0_limit_5 : decode cX0_limit 5 = .ok (.iload_n 2, 1) := by decide +kernel
theorem dX0_limit_6 : decode cX0_limit 6 = .ok (.iastore, 1) := by decide +kernel
theorem dX0_limit_7 : decode cX0_limit 7 = .ok (.aload_n 0, 1) := by decide +kernel
theorem dX0_limit_8 : decode cX0_limit 8 = .ok (.getfield 15, 3) := by decide +kernel
theorem dX0_limit_11 : decode cX0_limit 11 = .ok (.iload_n 1, 1) := by decide +kernel
theorem dX0_limit_12 : decode cX0_limit 12 = .ok (.iload_n 3, 1) := by decide +kernel
theorem dX0_limit_13 : decode cX0_limit 13 = .ok (.iastore, 1) := by decide +kernel
theorem dX0_limit_14 : decode cX0_limit 14 = .ok (.return_, 1) := by decide +kernel
theorem dX0_copyFrom_0 : decode cX0_copyFrom 0 = .ok (.iconst 0, 1) := by decide +kernel
theorem dX0_copyFrom_1 : decode cX0_copyFrom 1 = .ok (.istore_n 2, 1) := by decide +kernel
theorem dX0_copyFrom_2 : decode cX0_copyFrom 2 = .ok (.iload_n 2, 1) := by decide +kernel
theorem dX0_copyFrom_3 : decode cX0_copyFrom 3 = .ok (.iconst 3, 1) := by decide +kernel
theorem dX0_copyFrom_4 : decode cX0_copyFrom 4 = .ok (.if_icmp .ge 26, 3) := by decide +kernel
theorem dX0_copyFrom_7 : decode cX0_copyFrom 7 = .ok (.aload_n 0, 1) := by decide +kernel
theorem dX0_copyFrom_8 : decode cX0_copyFrom 8 = .ok (.iload_n 2, 1) := by decide +kernel
theorem dX0_copyFrom_9 : decode cX0_copyFrom 9 = .ok (.aload_n 1, 1) := by decide +kernel
theorem dX0_copyFrom_10 : decode cX0_copyFrom 10 = .ok (.getfield 9, 3) := by decide +kernel
theorem dX0_copyFrom_13 : decode cX0_copyFrom 13 = .ok (.iload_n 2, 1) := by decide +kernel
theorem dX0_copyFrom_14 : decode cX0_copyFrom 14 = .ok (.iaload, 1) := by decide +kernel
theorem dX0_copyFrom_15 : decode cX0_copyFrom 15 = .ok (.aload_n 1, 1) := by decide +kernel
theorem dX0_copyFrom_16 : decode cX0_copyFrom 16 = .ok (.getfield 15, 3) := by decide +kernel
theorem dX0_copyFrom_19 : decode cX0_copyFrom 19 = .ok (.iload_n 2, 1) := by decide +kernel
theorem dX0_copyFrom_20 : decode cX0_copyFrom 20 = .ok (.iaload, 1) := by decide +kernel
theorem dX0_copyFrom_21 : decode cX0_copyFrom 21 = .ok (.invokevirtual 18, 3) := by decide +kernel
theorem dX0_copyFrom_24 : decode cX0_copyFrom 24 = .ok (.iinc 2 1, 3) := by decide +kernel
theorem dX0_copyFrom_27 : decode cX0_copyFrom 27 = .ok (.goto (-25), 3) := by decide +kernel
theorem dX0_copyFrom_30 : decode cX0_copyFrom 30 = .ok (.return_, 1) := by decide +kernel
theorem dX0_allows_0 : decode cX0_allows 0 = .ok (.aload_n 0, 1) := by decide +kernel
theorem dX0_allows_1 : decode cX0_allows 1 = .ok (.iconst (-1), 1) := by decide +kernel
theorem dX0_allows_2 : decode cX0_allows 2 = .ok (.iload_n 1, 1) := by decide +kernel
theorem dX0_allows_3 : decode cX0_allows 3 = .ok (.invokevirtual 22, 3) := by decide +kernel
theorem dX0_allows_6 : decode cX0_allows 6 = .ok (.ireturn, 1) := by decide +kernel
theorem dX0_allowsBut_0 : decode cX0_allowsBut 0 = .ok (.iconst 0, 1) := by decide +kernel
theorem dX0_allowsBut_1 : decode cX0_allowsBut 1 = .ok (.istore_n 3, 1) := by decide +kernel
theorem dX0_allowsBut_2 : decode cX0_allowsBut 2 = .ok (.iload_n 3, 1) := by decide +kernel
theorem dX0_allowsBut_3 : decode cX0_allowsBut 3 = .ok (.iconst 3, 1) := by decide +kernel
theorem dX0_allowsBut_4 : decode cX0_allowsBut 4 = .ok (.if_icmp .ge 45, 3) := by decide +kernel
theorem dX0_allowsBut_7 : decode cX0_allowsBut 7 = .ok (.iload_n 2, 1) := by decide +kernel
theorem dX0_allowsBut_8 : decode cX0_allowsBut 8 = .ok (.iload_n 3, 1) := by decide +kernel
theorem dX0_allowsBut_9 : decode cX0_allowsBut 9 = .ok (.invokestatic 26, 3) := by decide +kernel
theorem dX0_allowsBut_12 : decode cX0_allowsBut 12 = .ok (.istore 4, 2) := by decide +kernel
theorem dX0_allowsBut_14 : decode cX0_allowsBut 14 = .ok (.iload_n 3, 1) := by decide +kernel
theorem dX0_allowsBut_15 : decode cX0_allowsBut 15 = .ok (.iload_n 1, 1) := by decide +kernel
theorem dX0_allowsBut_16 : decode cX0_allowsBut 16 = .ok (.if_icmp .eq 27, 3) := by decide +kernel
theorem dX0_allowsBut_19 : decode cX0_allowsBut 19 = .ok (.iload 4, 2) := by decide +kernel
theorem dX0_allowsBut_21 : decode cX0_allowsBut 21 = .ok (.aload_n 0, 1) := by decide +kernel
theorem dX0_allowsBut_22 : decode cX0_allowsBut 22 = .ok (.getfield 9, 3) := by decide +kernel
theorem dX0_allowsBut_25 : decode cX0_allowsBut 25 = .ok (.iload_n 3, 1) := by decide +kernel
theorem dX0_allowsBut_26 : decode cX0_allowsBut 26 = .ok (.iaload, 1) := by decide +kernel
theorem dX0_allowsBut_27 : decode cX0_allowsBut 27 = .ok (.if_icmp .lt 14, 3) := by decide +kernel
theorem dX0_allowsBut_30 : decode cX0_allowsBut 30 = .ok (.iload 4, 2) := by decide +kernel
theorem dX0_allowsBut_32 : decode cX0_allowsBut 32 = .ok (.aload_n 0, 1) := by decide +kernel
theorem dX0_allowsBut_33 : decode cX0_allowsBut 33 = .ok (.getfield 15, 3) := by decide +kernel
theorem dX0_allowsBut_36 : decode cX0_allowsBut 36 = .ok (.iload_n 3, 1) := by decide +kernel
theorem dX0_allowsBut_37 : decode cX0_allowsBut 37 = .ok (.iaload, 1) := by decide +kernel
theorem dX0_allowsBut_38 : decode cX0_allowsBut 38 = .ok (.if_icmp .le 5, 3) := by decide +kernel
theorem dX0_allowsBut_41 : decode cX0_allowsBut 41 = .ok (.iconst 0, 1) := by decide +kernel
theorem dX0_allowsBut_42 : decode cX0_allowsBut 42 = .ok (.ireturn, 1) := by decide +kernel
theorem dX0_allowsBut_43 : decode cX0_allowsBut 43 = .ok (.iinc 3 1, 3) := by decide +kernel
theorem dX0_allowsBut_46 : decode cX0_allowsBut 46 = .ok (.goto (-44), 3) := by decide +kernel
theorem dX0_allowsBut_49 : decode cX0_allowsBut 49 = .ok (.iconst 1, 1) := by decide +kernel
theorem dX0_allowsBut_50 : decode cX0_allowsBut 50 = .ok (.ireturn, 1) := by decide +kernel
theorem dX0_count_0 : decode cX0_count 0 = .ok (.iconst 1, 1) := by decide +kernel
theorem dX0_count_1 : decode cX0_count 1 = .ok (.istore_n 1, 1) := by decide +kernel
theorem dX0_count_2 : decode cX0_count 2 = .ok (.iconst 0, 1) := by decide +kernel
theorem dX0_count_3 : decode cX0_count 3 = .ok (.istore_n 2, 1) := by decide +kernel
theorem dX0_count_4 : decode cX0_count 4 = .ok (.iload_n 2, 1) := by decide +kernel
theorem dX0_count_5 : decode cX0_count 5 = .ok (.iconst 3, 1) := by decide +kernel
theorem dX0_count_6 : decode cX0_count 6 = .ok (.if_icmp .ge 27, 3) := by decide +kernel
theorem dX0_count_9 : decode cX0_count 9 = .ok (.iload_n 1, 1) := by decide +kernel
theorem dX0_count_10 : decode cX0_count 10 = .ok (.aload_n 0, 1) := by decide +kernel
theorem dX0_count_11 : decode cX0_count 11 = .ok (.getfield 15, 3) := by decide +kernel
theorem dX0_count_14 : decode cX0_count 14 = .ok (.iload_n 2, 1) := by decide +kernel
theorem dX0_count_15 : decode cX0_count 15 = .ok (.iaload, 1) := by decide +kernel
theorem dX0_count_16 : decode cX0_count 16 = .ok (.aload_n 0, 1) := by decide +kernel
theorem dX0_count_17 : decode cX0_count 17 = .ok (.getfield 9, 3) := by decide +kernel
theorem dX0_count_20 : decode cX0_count 20 = .ok (.iload_n 2, 1) := by decide +kernel
theorem dX0_count_21 : decode cX0_count 21 = .ok (.iaload, 1) := by decide +kernel
theorem dX0_count_22 : decode cX0_count 22 = .ok (.isub, 1) := by decide +kernel
theorem dX0_count_23 : decode cX0_count 23 = .ok (.iconst 1, 1) := by decide +kernel
theorem dX0_count_24 : decode cX0_count 24 = .ok (.iadd, 1) := by decide +kernel
theorem dX0_count_25 : decode cX0_count 25 = .ok (.imul, 1) := by decide +kernel
theorem dX0_count_26 : decode cX0_count 26 = .ok (.istore_n 1, 1) := by decide +kernel
theorem dX0_count_27 : decode cX0_count 27 = .ok (.iinc 2 1, 3) := by decide +kernel
theorem dX0_count_30 : decode cX0_count 30 = .ok (.goto (-26), 3) := by decide +kernel
theorem dX0_count_33 : decode cX0_count 33 = .ok (.iload_n 1, 1) := by decide +kernel
theorem dX0_count_34 : decode cX0_count 34 = .ok (.ireturn, 1) := by decide +kernel
theorem dX1_init_0 : decode cX1_init 0 = .ok (.aload_n 0, 1) := by decide +kernel
theorem dX1_init_1 : decode cX1_init 1 = .ok (.invokespecial 3, 3) := by decide +kernel
theorem dX1_init_4 : decode cX1_init 4 = .ok (.aload_n 0, 1) := by decide +kernel
theorem dX1_init_5 : decode cX1_init 5 = .ok (.bipush 6, 2) := by decide +kernel
theorem dX1_init_7 : decode cX1_init 7 = .ok (.anewarray 9, 3) := by decide +kernel
theorem dX1_init_10 : decode cX1_init 10 = .ok (.putfield 11, 3) := by decide +kernel
theorem dX1_init_13 : decode cX1_init 13 = .ok (.aload_n 0, 1) := by decide +kernel
theorem dX1_init_14 : decode cX1_init 14 = .ok (.bipush 6, 2) := by decide +kernel
theorem dX1_init_16 : decode cX1_init 16 = .ok (.anewarray 17, 3) := by decide +kernel
theorem dX1_init_19 : decode cX1_init 19 = .ok (.putfield 19, 3) := by decide +kernel
theorem dX1_init_22 : decode cX1_init 22 = .ok (.iconst 0, 1) := by decide +kernel
theorem dX1_init_23 : decode cX1_init 23 = .ok (.istore_n 1, 1) := by decide +kernel
theorem dX1_init_24 : decode cX1_init 24 = .ok (.iload_n 1, 1) := by decide +kernel
theorem dX1_init_25 : decode cX1_init 25 = .ok (.bipush 6, 2) := by decide +kernel
theorem dX1_init_27 : decode cX1_init 27 = .ok (.if_icmp .ge 35, 3) := by decide +kernel
theorem dX1_init_30 : decode cX1_init 30 = .ok (.aload_n 0, 1) := by decide +kernel
theorem dX1_init_31 : decode cX1_init 31 = .ok (.getfield 11, 3) := by decide +kernel
theorem dX1_init_34 : decode cX1_init 34 = .ok (.iload_n 1, 1) := by decide +kernel
theorem dX1_init_35 : decode cX1_init 35 = .ok (.new 9, 3) := by decide +kernel
theorem dX1_init_38 : decode cX1_init 38 = .ok (.dup, 1) := by decide +kernel
theorem dX1_init_39 : decode cX1_init 39 = .ok (.invokespecial 23, 3) := by decide +kernel
theorem dX1_init_42 : decode cX1_init 42 = .ok (.aastore, 1) := by decide +kernel
theorem dX1_init_43 : decode cX1_init 43 = .ok (.aload_n 0, 1) := by decide +kernel
theorem dX1_init_44 : decode cX1_init 44 = .ok (.getfield 19, 3) := by decide +kernel
theorem dX1_init_47 : decode cX1_init 47 = .ok (.iload_n 1, 1) := by decide +kernel
theorem dX1_init_48 : decode cX1_init 48 = .ok (.new 17, 3) := by decide +kernel
theorem dX1_init_51 : decode cX1_init 51 = .ok (.dup, 1) := by decide +kernel
theorem dX1_init_52 : decode cX1_init 52 = .ok (.invokespecial 24, 3) := by decide +kernel
theorem dX1_init_55 : decode cX1_init 55 = .ok (.aastore, 1) := by decide +kernel
theorem dX1_init_56 : decode cX1_init 56 = .ok (.iinc 1 1, 3) := by decide +kernel
theorem dX1_init_59 : decode cX1_init 59 = .ok (.goto (-35), 3) := by decide +kernel
theorem dX1_init_62 : decode cX1_init 62 = .ok (.return_, 1) := by decide +kernel
theorem dX1_save_0 : decode cX1_save 0 = .ok (.aload_n 0, 1) := by decide +kernel
theorem dX1_save_1 : decode cX1_save 1 = .ok (.getfield 25, 3) := by decide +kernel
theorem dX1_save_4 : decode cX1_save 4 = .ok (.bipush 6, 2) := by decide +kernel
theorem dX1_save_6 : decode cX1_save 6 = .ok (.if_icmp .ne 26, 3) := by decide +kernel
theorem dX1_save_9 : decode cX1_save 9 = .ok (.aload_n 0, 1) := by decide +kernel
theorem dX1_save_10 : decode cX1_save 10 = .ok (.aload_n 0, 1) := by decide +kernel
theorem dX1_save_11 : decode cX1_save 11 = .ok (.getfield 29, 3) := by decide +kernel
theorem dX1_save_14 : decode cX1_save 14 = .ok (.iconst 1, 1) := by decide +kernel
theorem dX1_save_15 : decode cX1_save 15 = .ok (.iadd, 1) := by decide +kernel
theorem dX1_save_16 : decode cX1_save 16 = .ok (.bipush 6, 2) := by decide +kernel
theorem dX1_save_18 : decode cX1_save 18 = .ok (.irem, 1) := by decide +kernel
theorem dX1_save_19 : decode cX1_save 19 = .ok (.putfield 29, 3) := by decide +kernel
theorem dX1_save_22 : decode cX1_save 22 = .ok (.aload_n 0, 1) := by decide +kernel
theorem dX1_save_23 : decode cX1_save 23 = .ok (.dup, 1) := by decide +kernel
theorem dX1_save_24 : decode cX1_save 24 = .ok (.getfield 25, 3) := by decide +kernel
theorem dX1_save_27 : decode cX1_save 27 = .ok (.iconst 1, 1) := by decide +kernel
theorem dX1_save_28 : decode cX1_save 28 = .ok (.isub, 1) := by decide +kernel
theorem dX1_save_29 : decode cX1_save 29 = .ok (.putfield 25, 3) := by decide +kernel
theorem dX1_save_32 : decode cX1_save 32 = .ok (.aload_n 0, 1) := by decide +kernel
theorem dX1_save_33 : decode cX1_save 33 = .ok (.getfield 29, 3) := by decide +kernel
theorem dX1_save_36 : decode cX1_save 36 = .ok (.aload_n 0, 1) := by decide +kernel
theorem dX1_save_37 : decode cX1_save 37 = .ok (.getfield 25, 3) := by decide +kernel
theorem dX1_save_40 : decode cX1_save 40 = .ok (.iadd, 1) := by decide +kernel
theorem dX1_save_41 : decode cX1_save 41 = .ok (.bipush 6, 2) := by decide +kernel
theorem dX1_save_43 : decode cX1_save 43 = .ok (.irem, 1) := by decide +kernel
theorem dX1_save_44 : decode cX1_save 44 = .ok (.istore_n 3, 1) := by decide +kernel
theorem dX1_save_45 : decode cX1_save 45 = .ok (.aload_n 0, 1) := by decide +kernel
theorem dX1_save_46 : decode cX1_save 46 = .ok (.getfield 11, 3) := by decide +kernel
theorem dX1_save_49 : decode cX1_save 49 = .ok (.iload_n 3, 1) := by decide +kernel
theorem dX1_save_50 : decode cX1_save 50 = .ok (.aaload, 1) := by decide +kernel
theorem dX1_save_51 : decode cX1_save 51 = .ok (.aload_n 1, 1) := by decide +kernel
theorem dX1_save_52 : decode cX1_save 52 = .ok (.invokevirtual 32, 3) := by decide +kernel
theorem dX1_save_55 : decode cX1_save 55 = .ok (.aload_n 0, 1) := by decide +kernel
theorem dX1_save_56 : decode cX1_save 56 = .ok (.getfield 19, 3) := by decide +kernel
theorem dX1_save_59 : decode cX1_save 59 = .ok (.iload_n 3, 1) := by decide +kernel
theorem dX1_save_60 : decode cX1_save 60 = .ok (.aaload, 1) := by decide +kernel
theorem dX1_save_61 : decode cX1_save 61 = .ok (.aload_n 2, 1) := by decide +kernel
theorem dX1_save_62 : decode cX1_save 62 = .ok (.invokevirtual 36, 3) := by decide +kernel
theorem dX1_save_65 : decode cX1_save 65 = .ok (.aload_n 0, 1) := by decide +kernel
theorem dX1_save_66 : decode cX1_save 66 = .ok (.dup, 1) := by decide +kernel
theorem dX1_save_67 : decode cX1_save 67 = .ok (.getfield 25, 3) := by decide +kernel
theorem dX1_save_70 : decode cX1_save 70 = .ok (.iconst 1, 1) := by decide +kernel
theorem dX1_save_71 : decode cX1_save 71 = .ok (.iadd, 1) := by decide +kernel
theorem dX1_save_72 : decode cX1_save 72 = .ok (.putfield 25, 3) := by decide +kernel
theorem dX1_save_75 : decode cX1_save 75 = .ok (.return_, 1) := by decide +kernel
theorem dX1_restore_0 : decode cX1_restore 0 = .ok (.aload_n 0, 1) := by decide +kernel
theorem dX1_restore_1 : decode cX1_restore 1 = .ok (.getfield 25, 3) := by decide +kernel
theorem dX1_restore_4 : decode cX1_restore 4 = .ok (.ifCond .ne 4, 3) := by decide +kernel
theorem dX1_restore_7 : decode cX1_restore 7 = .ok (.return_, 1) := by decide +kernel
theorem dX1_restore_8 : decode cX1_restore 8 = .ok (.aload_n 0, 1) := by decide +kernel
theorem dX1_restore_9 : decode cX1_restore 9 = .ok (.dup, 1) := by decide +kernel
theorem dX1_restore_10 : decode cX1_restore 10 = .ok (.getfield 25, 3) := by decide +kernel
theorem dX1_restore_13 : decode cX1_restore 13 = .ok (.iconst 1, 1) := by decide +kernel
theorem dX1_restore_14 : decode cX1_restore 14 = .ok (.isub, 1) := by decide +kernel
theorem dX1_restore_15 : decode cX1_restore 15 = .ok (.putfield 25, 3) := by decide +kernel
theorem dX1_restore_18 : decode cX1_restore 18 = .ok (.aload_n 0, 1) := by decide +kernel
theorem dX1_restore_19 : decode cX1_restore 19 = .ok (.getfield 29, 3) := by decide +kernel
theorem dX1_restore_22 : decode cX1_restore 22 = .ok (.aload_n 0, 1) := by decide +kernel
theorem dX1_restore_23 : decode cX1_restore 23 = .ok (.getfield 25, 3) := by decide +kernel
theorem dX1_restore_26 : decode cX1_restore 26 = .ok (.iadd, 1) := by decide +kernel
theorem dX1_restore_27 : decode cX1_restore 27 = .ok (.bipush 6, 2) := by decide +kernel
theorem dX1_restore_29 : decode cX1_restore 29 = .ok (.irem, 1) := by decide +kernel
theorem dX1_restore_30 : decode cX1_restore 30 = .ok (.istore_n 3, 1) := by decide +kernel
theorem dX1_restore_31 : decode cX1_restore 31 = .ok (.aload_n 1, 1) := by decide +kernel
theorem dX1_restore_32 : decode cX1_restore 32 = .ok (.aload_n 0, 1) := by decide +kernel
theorem dX1_restore_33 : decode cX1_restore 33 = .ok (.getfield 11, 3) := by decide +kernel
theorem dX1_restore_36 : decode cX1_restore 36 = .ok (.iload_n 3, 1) := by decide +kernel
theorem dX1_restore_37 : decode cX1_restore 37 = .ok (.aaload, 1) := by decide +kernel
theorem dX1_restore_38 : decode cX1_restore 38 = .ok (.invokevirtual 32, 3) := by decide +kernel
theorem dX1_restore_41 : decode cX1_restore 41 = .ok (.aload_n 2, 1) := by decide +kernel
theorem dX1_restore_42 : decode cX1_restore 42 = .ok (.aload_n 0, 1) := by decide +kernel
theorem dX1_restore_43 : decode cX1_restore 43 = .ok (.getfield 19, 3) := by decide +kernel
theorem dX1_restore_46 : decode cX1_restore 46 = .ok (.iload_n 3, 1) := by decide +kernel
theorem dX1_restore_47 : decode cX1_restore 47 = .ok (.aaload, 1) := by decide +kernel
theorem dX1_restore_48 : decode cX1_restore 48 = .ok (.invokevirtual 36, 3) := by decide +kernel
theorem dX1_restore_51 : decode cX1_restore 51 = .ok (.return_, 1) := by decide +kernel
theorem dX2_init_0 : decode cX2_init 0 = .ok (.aload_n 0, 1) := by decide +kernel
theorem dX2_init_1 : decode cX2_init 1 = .ok (.invokespecial 3, 3) := by decide +kernel
theorem dX2_init_4 : decode cX2_init 4 = .ok (.aload_n 0, 1) := by decide +kernel
theorem dX2_init_5 : decode cX2_init 5 = .ok (.bipush 12, 2) := by decide +kernel
theorem dX2_init_7 : decode cX2_init 7 = .ok (.newarray .int, 2) := by decide +kernel
theorem dX2_init_9 : decode cX2_init 9 = .ok (.putfield 9, 3) := by decide +kernel
theorem dX2_init_12 : decode cX2_init 12 = .ok (.aload_n 0, 1) := by decide +kernel
theorem dX2_init_13 : decode cX2_init 13 = .ok (.bipush 39, 2) := by decide +kernel
theorem dX2_init_15 : decode cX2_init 15 = .ok (.newarray .int, 2) := by decide +kernel
theorem dX2_init_17 : decode cX2_init 17 = .ok (.putfield 15, 3) := by decide +kernel
theorem dX2_init_20 : decode cX2_init 20 = .ok (.aload_n 0, 1) := by decide +kernel
theorem dX2_init_21 : decode cX2_init 21 = .ok (.bipush 39, 2) := by decide +kernel
theorem dX2_init_23 : decode cX2_init 23 = .ok (.newarray .int, 2) := by decide +kernel
theorem dX2_init_25 : decode cX2_init 25 = .ok (.putfield 18, 3) := by decide +kernel
theorem dX2_init_28 : decode cX2_init 28 = .ok (.aload_n 0, 1) := by decide +kernel
theorem dX2_init_29 : decode cX2_init 29 = .ok (.bipush 104, 2) := by decide +kernel
theorem dX2_init_31 : decode cX2_init 31 = .ok (.newarray .long, 2) := by decide +kernel
theorem dX2_init_33 : decode cX2_init 33 = .ok (.putfield 21, 3) := by decide +kernel
theorem dX2_init_36 : decode cX2_init 36 = .ok (.aload_n 0, 1) := by decide +kernel
theorem dX2_init_37 : decode cX2_init 37 = .ok (.iconst 1, 1) := by decide +kernel
theorem dX2_init_38 : decode cX2_init 38 = .ok (.putfield 25, 3) := by decide +kernel
theorem dX2_init_41 : decode cX2_init 41 = .ok (.aload_n 0, 1) := by decide +kernel
theorem dX2_init_42 : decode cX2_init 42 = .ok (.aload_n 1, 1) := by decide +kernel
theorem dX2_init_43 : decode cX2_init 43 = .ok (.putfield 29, 3) := by decide +kernel
theorem dX2_init_46 : decode cX2_init 46 = .ok (.aload_n 0, 1) := by decide +kernel
theorem dX2_init_47 : decode cX2_init 47 = .ok (.aload_n 2, 1) := by decide +kernel
theorem dX2_init_48 : decode cX2_init 48 = .ok (.putfield 33, 3) := by decide +kernel
theorem dX2_init_51 : decode cX2_init 51 = .ok (.aload_n 0, 1) := by decide +kernel
theorem dX2_init_52 : decode cX2_init 52 = .ok (.aload_n 3, 1) := by decide +kernel
theorem dX2_init_53 : decode cX2_init 53 = .ok (.putfield 37, 3) := by decide +kernel
theorem dX2_init_56 : decode cX2_init 56 = .ok (.return_, 1) := by decide +kernel
theorem dX2_forget_0 : decode cX2_forget 0 = .ok (.aload_n 0, 1) := by decide +kernel
theorem dX2_forget_1 : decode cX2_forget 1 = .ok (.iconst 1, 1) := by decide +kernel
theorem dX2_forget_2 : decode cX2_forget 2 = .ok (.putfield 25, 3) := by decide +kernel
theorem dX2_forget_5 : decode cX2_forget 5 = .ok (.return_, 1) := by decide +kernel
theorem dX2_isReached_0 : decode cX2_isReached 0 = .ok (.aload_n 0, 1) := by decide +kernel
theorem dX2_isReached_1 : decode cX2_isReached 1 = .ok (.getfield 15, 3) := by decide +kernel
theorem dX2_isReached_4 : decode cX2_isReached 4 = .ok (.iload_n 1, 1) := by decide +kernel
theorem dX2_isReached_5 : decode cX2_isReached 5 = .ok (.iconst 3, 1) := by decide +kernel
theorem dX2_isReached_6 : decode cX2_isReached 6 = .ok (.imul, 1) := by decide +kernel
theorem dX2_isReached_7 : decode cX2_isReached 7 = .ok (.iaload, 1) := by decide +kernel
theorem dX2_isReached_8 : decode cX2_isReached 8 = .ok (.iconst (-1), 1) := by decide +kernel
theorem dX2_isReached_9 : decode cX2_isReached 9 = .ok (.if_icmp .eq 7, 3) := by decide +kernel
theorem dX2_isReached_12 : decode cX2_isReached 12 = .ok (.iconst 1, 1) := by decide +kernel
theorem dX2_isReached_13 : decode cX2_isReached 13 = .ok (.goto 4, 3) := by decide +kernel
theorem dX2_isReached_16 : decode cX2_isReached 16 = .ok (.iconst 0, 1) := by decide +kernel
theorem dX2_isReached_17 : decode cX2_isReached 17 = .ok (.ireturn, 1) := by decide +kernel
theorem dX2_refresh_0 : decode cX2_refresh 0 = .ok (.aload_n 0, 1) := by decide +kernel
theorem dX2_refresh_1 : decode cX2_refresh 1 = .ok (.getfield 25, 3) := by decide +kernel
theorem dX2_refresh_4 : decode cX2_refresh 4 = .ok (.ifCond .ne 4, 3) := by decide +kernel
theorem dX2_refresh_7 : decode cX2_refresh 7 = .ok (.return_, 1) := by decide +kernel
theorem dX2_refresh_8 : decode cX2_refresh 8 = .ok (.aload_n 0, 1) := by decide +kernel
theorem dX2_refresh_9 : decode cX2_refresh 9 = .ok (.invokevirtual 41, 3) := by decide +kernel
theorem dX2_refresh_12 : decode cX2_refresh 12 = .ok (.iconst 0, 1) := by decide +kernel
theorem dX2_refresh_13 : decode cX2_refresh 13 = .ok (.istore_n 1, 1) := by decide +kernel
theorem dX2_refresh_14 : decode cX2_refresh 14 = .ok (.iload_n 1, 1) := by decide +kernel
theorem dX2_refresh_15 : decode cX2_refresh 15 = .ok (.sipush 512, 3) := by decide +kernel
theorem dX2_refresh_18 : decode cX2_refresh 18 = .ok (.if_icmp .ge 38, 3) := by decide +kernel
theorem dX2_refresh_21 : decode cX2_refresh 21 = .ok (.aload_n 0, 1) := by decide +kernel
theorem dX2_refresh_22 : decode cX2_refresh 22 = .ok (.getfield 33, 3) := by decide +kernel
theorem dX2_refresh_25 : decode cX2_refresh 25 = .ok (.iload_n 1, 1) := by decide +kernel
theorem dX2_refresh_26 : decode cX2_refresh 26 = .ok (.invokevirtual 44, 3) := by decide +kernel
theorem dX2_refresh_29 : decode cX2_refresh 29 = .ok (.ifCond .eq 21, 3) := by decide +kernel
theorem dX2_refresh_32 : decode cX2_refresh 32 = .ok (.aload_n 0, 1) := by decide +kernel
theorem dX2_refresh_33 : decode cX2_refresh 33 = .ok (.iload_n 1, 1) := by decide +kernel
theorem dX2_refresh_34 : decode cX2_refresh 34 = .ok (.aload_n 0, 1) := by decide +kernel
theorem dX2_refresh_35 : decode cX2_refresh 35 = .ok (.getfield 37, 3) := by decide +kernel
theorem dX2_refresh_38 : decode cX2_refresh 38 = .ok (.iload_n 1, 1) := by decide +kernel
theorem dX2_refresh_39 : decode cX2_refresh 39 = .ok (.invokevirtual 50, 3) := by decide +kernel
theorem dX2_refresh_42 : decode cX2_refresh 42 = .ok (.invokevirtual 56, 3) := by decide +kernel
theorem dX2_refresh_45 : decode cX2_refresh 45 = .ok (.aload_n 0, 1) := by decide +kernel
theorem dX2_refresh_46 : decode cX2_refresh 46 = .ok (.iload_n 1, 1) := by decide +kernel
theorem dX2_refresh_47 : decode cX2_refresh 47 = .ok (.invokevirtual 60, 3) := by decide +kernel
theorem dX2_refresh_50 : decode cX2_refresh 50 = .ok (.iinc 1 1, 3) := by decide +kernel
theorem dX2_refresh_53 : decode cX2_refresh 53 = .ok (.goto (-39), 3) := by decide +kernel
theorem dX2_refresh_56 : decode cX2_refresh 56 = .ok (.aload_n 0, 1) := by decide +kernel
theorem dX2_refresh_57 : decode cX2_refresh 57 = .ok (.iconst 0, 1) := by decide +kernel
theorem dX2_refresh_58 : decode cX2_refresh 58 = .ok (.putfield 25, 3) := by decide +kernel
theorem dX2_refresh_61 : decode cX2_refresh 61 = .ok (.return_, 1) := by decide +kernel
theorem dX2_clear_0 : decode cX2_clear 0 = .ok (.aload_n 0, 1) := by decide +kernel
theorem dX2_clear_1 : decode cX2_clear 1 = .ok (.getfield 9, 3) := by decide +kernel
theorem dX2_clear_4 : decode cX2_clear 4 = .ok (.iconst (-1), 1) := by decide +kernel
theorem dX2_clear_5 : decode cX2_clear 5 = .ok (.invokestatic 64, 3) := by decide +kernel
theorem dX2_clear_8 : decode cX2_clear 8 = .ok (.aload_n 0, 1) := by decide +kernel
theorem dX2_clear_9 : decode cX2_clear 9 = .ok (.getfield 15, 3) := by decide +kernel
theorem dX2_clear_12 : decode cX2_clear 12 = .ok (.iconst (-1), 1) := by decide +kernel
theorem dX2_clear_13 : decode cX2_clear 13 = .ok (.invokestatic 64, 3) := by decide +kernel
theorem dX2_clear_16 : decode cX2_clear 16 = .ok (.aload_n 0, 1) := by decide +kernel
theorem dX2_clear_17 : decode cX2_clear 17 = .ok (.getfield 18, 3) := by decide +kernel
theorem dX2_clear_20 : decode cX2_clear 20 = .ok (.iconst (-1), 1) := by decide +kernel
theorem dX2_clear_21 : decode cX2_clear 21 = .ok (.invokestatic 64, 3) := by decide +kernel
theorem dX2_clear_24 : decode cX2_clear 24 = .ok (.aload_n 0, 1) := by decide +kernel
theorem dX2_clear_25 : decode cX2_clear 25 = .ok (.getfield 21, 3) := by decide +kernel
theorem dX2_clear_28 : decode cX2_clear 28 = .ok (.lconst 0, 1) := by decide +kernel
theorem dX2_clear_29 : decode cX2_clear 29 = .ok (.invokestatic 70, 3) := by decide +kernel
theorem dX2_clear_32 : decode cX2_clear 32 = .ok (.aload_n 0, 1) := by decide +kernel
theorem dX2_clear_33 : decode cX2_clear 33 = .ok (.iconst 0, 1) := by decide +kernel
theorem dX2_clear_34 : decode cX2_clear 34 = .ok (.putfield 73, 3) := by decide +kernel
theorem dX2_clear_37 : decode cX2_clear 37 = .ok (.aload_n 0, 1) := by decide +kernel
theorem dX2_clear_38 : decode cX2_clear 38 = .ok (.iconst 0, 1) := by decide +kernel
theorem dX2_clear_39 : decode cX2_clear 39 = .ok (.putfield 77, 3) := by decide +kernel
theorem dX2_clear_42 : decode cX2_clear 42 = .ok (.aload_n 0, 1) := by decide +kernel
theorem dX2_clear_43 : decode cX2_clear 43 = .ok (.iconst 0, 1) := by decide +kernel
theorem dX2_clear_44 : decode cX2_clear 44 = .ok (.putfield 80, 3) := by decide +kernel
theorem dX2_clear_47 : decode cX2_clear 47 = .ok (.return_, 1) := by decide +kernel
theorem dX2_countRun_0 : decode cX2_countRun 0 = .ok (.iload_n 2, 1) := by decide +kernel
theorem dX2_countRun_1 : decode cX2_countRun 1 = .ok (.sipush 1000, 3) := by decide +kernel
theorem dX2_countRun_4 : decode cX2_countRun 4 = .ok (.if_icmp .lt 16, 3) := by decide +kernel
theorem dX2_countRun_7 : decode cX2_countRun 7 = .ok (.aload_n 0, 1) := by decide +kernel
theorem dX2_countRun_8 : decode cX2_countRun 8 = .ok (.dup, 1) := by decide +kernel
theorem dX2_countRun_9 : decode cX2_countRun 9 = .ok (.getfield 80, 3) := by decide +kernel
theorem dX2_countRun_12 : decode cX2_countRun 12 = .ok (.iconst 1, 1) := by decide +kernel
theorem dX2_countRun_13 : decode cX2_countRun 13 = .ok (.iadd, 1) := by decide +kernel
theorem dX2_countRun_14 : decode cX2_countRun 14 = .ok (.putfield 80, 3) := by decide +kernel
theorem dX2_countRun_17 : decode cX2_countRun 17 = .ok (.goto 48, 3) := by decide +kernel
theorem dX2_countRun_20 : decode cX2_countRun 20 = .ok (.iload_n 2, 1) := by decide +kernel
theorem dX2_countRun_21 : decode cX2_countRun 21 = .ok (.iconst (-1), 1) := by decide +kernel
theorem dX2_countRun_22 : decode cX2_countRun 22 = .ok (.if_icmp .ne 16, 3) := by decide +kernel
theorem dX2_countRun_25 : decode cX2_countRun 25 = .ok (.aload_n 0, 1) := by decide +kernel
theorem dX2_countRun_26 : decode cX2_countRun 26 = .ok (.dup, 1) := by decide +kernel
theorem dX2_countRun_27 : decode cX2_countRun 27 = .ok (.getfield 73, 3) := by decide +kernel
theorem dX2_countRun_30 : decode cX2_countRun 30 = .ok (.iconst 1, 1) := by decide +kernel
theorem dX2_countRun_31 : decode cX2_countRun 31 = .ok (.iadd, 1) := by decide +kernel
theorem dX2_countRun_32 : decode cX2_countRun 32 = .ok (.putfield 73, 3) := by decide +kernel
theorem dX2_countRun_35 : decode cX2_countRun 35 = .ok (.goto 30, 3) := by decide +kernel
theorem dX2_countRun_38 : decode cX2_countRun 38 = .ok (.aload_n 0, 1) := by decide +kernel
theorem dX2_countRun_39 : decode cX2_countRun 39 = .ok (.dup, 1) := by decide +kernel
theorem dX2_countRun_40 : decode cX2_countRun 40 = .ok (.getfield 77, 3) := by decide +kernel
theorem dX2_countRun_43 : decode cX2_countRun 43 = .ok (.iconst 1, 1) := by decide +kernel
theorem dX2_countRun_44 : decode cX2_countRun 44 = .ok (.iadd, 1) := by decide +kernel
theorem dX2_countRun_45 : decode cX2_countRun 45 = .ok (.putfield 77, 3) := by decide +kernel
theorem dX2_countRun_48 : decode cX2_countRun 48 = .ok (.aload_n 0, 1) := by decide +kernel
theorem dX2_countRun_49 : decode cX2_countRun 49 = .ok (.getfield 9, 3) := by decide +kernel
theorem dX2_countRun_52 : decode cX2_countRun 52 = .ok (.iload_n 2, 1) := by decide +kernel
theorem dX2_countRun_53 : decode cX2_countRun 53 = .ok (.iaload, 1) := by decide +kernel
theorem dX2_countRun_54 : decode cX2_countRun 54 = .ok (.iconst (-1), 1) := by decide +kernel
theorem dX2_countRun_55 : decode cX2_countRun 55 = .ok (.if_icmp .ne 10, 3) := by decide +kernel
theorem dX2_countRun_58 : decode cX2_countRun 58 = .ok (.aload_n 0, 1) := by decide +kernel
theorem dX2_countRun_59 : decode cX2_countRun 59 = .ok (.getfield 9, 3) := by decide +kernel
theorem dX2_countRun_62 : decode cX2_countRun 62 = .ok (.iload_n 2, 1) := by decide +kernel
theorem dX2_countRun_63 : decode cX2_countRun 63 = .ok (.iload_n 1, 1) := by decide +kernel
theorem dX2_countRun_64 : decode cX2_countRun 64 = .ok (.iastore, 1) := by decide +kernel
theorem dX2_countRun_65 : decode cX2_countRun 65 = .ok (.return_, 1) := by decide +kernel
theorem dX2_followRun_0 : decode cX2_followRun 0 = .ok (.iload_n 1, 1) := by decide +kernel
theorem dX2_followRun_1 : decode cX2_followRun 1 = .ok (.istore_n 2, 1) := by decide +kernel
theorem dX2_followRun_2 : decode cX2_followRun 2 = .ok (.iconst 0, 1) := by decide +kernel
theorem dX2_followRun_3 : decode cX2_followRun 3 = .ok (.istore_n 3, 1) := by decide +kernel
theorem dX2_followRun_4 : decode cX2_followRun 4 = .ok (.iload_n 3, 1) := by decide +kernel
theorem dX2_followRun_5 : decode cX2_followRun 5 = .ok (.sipush 6656, 3) := by decide +kernel
theorem dX2_followRun_8 : decode cX2_followRun 8 = .ok (.if_icmp .ge 54, 3) := by decide +kernel
theorem dX2_followRun_11 : decode cX2_followRun 11 = .ok (.iload_n 2, 1) := by decide +kernel
theorem dX2_followRun_12 : decode cX2_followRun 12 = .ok (.iconst (-1), 1) := by decide +kernel
theorem dX2_followRun_13 : decode cX2_followRun 13 = .ok (.if_icmp .eq 49, 3) := by decide +kernel
theorem dX2_followRun_16 : decode cX2_followRun 16 = .ok (.aload_n 0, 1) := by decide +kernel
theorem dX2_followRun_17 : decode cX2_followRun 17 = .ok (.iload_n 2, 1) := by decide +kernel
theorem dX2_followRun_18 : decode cX2_followRun 18 = .ok (.invokevirtual 83, 3) := by decide +kernel
theorem dX2_followRun_21 : decode cX2_followRun 21 = .ok (.ifCond .ne 41, 3) := by decide +kernel
theorem dX2_followRun_24 : decode cX2_followRun 24 = .ok (.aload_n 0, 1) := by decide +kernel
theorem dX2_followRun_25 : decode cX2_followRun 25 = .ok (.getfield 21, 3) := by decide +kernel
theorem dX2_followRun_28 : decode cX2_followRun 28 = .ok (.iload_n 2, 1) := by decide +kernel
theorem dX2_followRun_29 : decode cX2_followRun 29 = .ok (.bipush 6, 2) := by decide +kernel
theorem dX2_followRun_31 : decode cX2_followRun 31 = .ok (.ishr, 1) := by decide +kernel
theorem dX2_followRun_32 : decode cX2_followRun 32 = .ok (.dup2, 1) := by decide +kernel
theorem dX2_followRun_33 : decode cX2_followRun 33 = .ok (.laload, 1) := by decide +kernel
theorem dX2_followRun_34 : decode cX2_followRun 34 = .ok (.lconst 1, 1) := by decide +kernel
theorem dX2_followRun_35 : decode cX2_followRun 35 = .ok (.iload_n 2, 1) := by decide +kernel
theorem dX2_followRun_36 : decode cX2_followRun 36 = .ok (.bipush 63, 2) := by decide +kernel
theorem dX2_followRun_38 : decode cX2_followRun 38 = .ok (.iand, 1) := by decide +kernel
theorem dX2_followRun_39 : decode cX2_followRun 39 = .ok (.lshl, 1) := by decide +kernel
theorem dX2_followRun_40 : decode cX2_followRun 40 = .ok (.lor, 1) := by decide +kernel
theorem dX2_followRun_41 : decode cX2_followRun 41 = .ok (.lastore, 1) := by decide +kernel
theorem dX2_followRun_42 : decode cX2_followRun 42 = .ok (.aload_n 0, 1) := by decide +kernel
theorem dX2_followRun_43 : decode cX2_followRun 43 = .ok (.iload_n 2, 1) := by decide +kernel
theorem dX2_followRun_44 : decode cX2_followRun 44 = .ok (.invokevirtual 86, 3) := by decide +kernel
theorem dX2_followRun_47 : decode cX2_followRun 47 = .ok (.aload_n 0, 1) := by decide +kernel
theorem dX2_followRun_48 : decode cX2_followRun 48 = .ok (.getfield 29, 3) := by decide +kernel
theorem dX2_followRun_51 : decode cX2_followRun 51 = .ok (.iload_n 2, 1) := by decide +kernel
theorem dX2_followRun_52 : decode cX2_followRun 52 = .ok (.invokevirtual 89, 3) := by decide +kernel
theorem dX2_followRun_55 : decode cX2_followRun 55 = .ok (.istore_n 2, 1) := by decide +kernel
theorem dX2_followRun_56 : decode cX2_followRun 56 = .ok (.iinc 3 1, 3) := by decide +kernel
theorem dX2_followRun_59 : decode cX2_followRun 59 = .ok (.goto (-55), 3) := by decide +kernel
theorem dX2_followRun_62 : decode cX2_followRun 62 = .ok (.return_, 1) := by decide +kernel
theorem dX2_isVisited_0 : decode cX2_isVisited 0 = .ok (.aload_n 0, 1) := by decide +kernel
theorem dX2_isVisited_1 : decode cX2_isVisited 1 = .ok (.getfield 21, 3) := by decide +kernel
theorem dX2_isVisited_4 : decode cX2_isVisited 4 = .ok (.iload_n 1, 1) := by decide +kernel
theorem dX2_isVisited_5 : decode cX2_isVisited 5 = .ok (.bipush 6, 2) := by decide +kernel
theorem dX2_isVisited_7 : decode cX2_isVisited 7 = .ok (.ishr, 1) := by decide +kernel
theorem dX2_isVisited_8 : decode cX2_isVisited 8 = .ok (.laload, 1) := by decide +kernel
theorem dX2_isVisited_9 : decode cX2_isVisited 9 = .ok (.iload_n 1, 1) := by decide +kernel
theorem dX2_isVisited_10 : decode cX2_isVisited 10 = .ok (.bipush 63, 2) := by decide +kernel
theorem dX2_isVisited_12 : decode cX2_isVisited 12 = .ok (.iand, 1) := by decide +kernel
theorem dX2_isVisited_13 : decode cX2_isVisited 13 = .ok (.lshr, 1) := by decide +kernel
theorem dX2_isVisited_14 : decode cX2_isVisited 14 = .ok (.lconst 1, 1) := by decide +kernel
theorem dX2_isVisited_15 : decode cX2_isVisited 15 = .ok (.land, 1) := by decide +kernel
theorem dX2_isVisited_16 : decode cX2_isVisited 16 = .ok (.lconst 0, 1) := by decide +kernel
theorem dX2_isVisited_17 : decode cX2_isVisited 17 = .ok (.lcmp, 1) := by decide +kernel
theorem dX2_isVisited_18 : decode cX2_isVisited 18 = .ok (.ifCond .eq 7, 3) := by decide +kernel
theorem dX2_isVisited_21 : decode cX2_isVisited 21 = .ok (.iconst 1, 1) := by decide +kernel
theorem dX2_isVisited_22 : decode cX2_isVisited 22 = .ok (.goto 4, 3) := by decide +kernel
theorem dX2_isVisited_25 : decode cX2_isVisited 25 = .ok (.iconst 0, 1) := by decide +kernel
theorem dX2_isVisited_26 : decode cX2_isVisited 26 = .ok (.ireturn, 1) := by decide +kernel
theorem dX2_noteValues_0 : decode cX2_noteValues 0 = .ok (.iload_n 1, 1) := by decide +kernel
theorem dX2_noteValues_1 : decode cX2_noteValues 1 = .ok (.invokestatic 94, 3) := by decide +kernel
theorem dX2_noteValues_4 : decode cX2_noteValues 4 = .ok (.iconst 3, 1) := by decide +kernel
theorem dX2_noteValues_5 : decode cX2_noteValues 5 = .ok (.imul, 1) := by decide +kernel
theorem dX2_noteValues_6 : decode cX2_noteValues 6 = .ok (.istore_n 2, 1) := by decide +kernel
theorem dX2_noteValues_7 : decode cX2_noteValues 7 = .ok (.iconst 0, 1) := by decide +kernel
theorem dX2_noteValues_8 : decode cX2_noteValues 8 = .ok (.istore_n 3, 1) := by decide +kernel
theorem dX2_noteValues_9 : decode cX2_noteValues 9 = .ok (.iload_n 3, 1) := by decide +kernel
theorem dX2_noteValues_10 : decode cX2_noteValues 10 = .ok (.iconst 3, 1) := by decide +kernel
theorem dX2_noteValues_11 : decode cX2_noteValues 11 = .ok (.if_icmp .ge 77, 3) := by decide +kernel
theorem dX2_noteValues_14 : decode cX2_noteValues 14 = .ok (.iload_n 1, 1) := by decide +kernel
theorem dX2_noteValues_15 : decode cX2_noteValues 15 = .ok (.invokestatic 97, 3) := by decide +kernel
theorem dX2_noteValues_18 : decode cX2_noteValues 18 = .ok (.iload_n 3, 1) := by decide +kernel
theorem dX2_noteValues_19 : decode cX2_noteValues 19 = .ok (.invokestatic 100, 3) := by decide +kernel
theorem dX2_noteValues_22 : decode cX2_noteValues 22 = .ok (.istore 4, 2) := by decide +kernel
theorem dX2_noteValues_24 : decode cX2_noteValues 24 = .ok (.iload_n 2, 1) := by decide +kernel
theorem dX2_noteValues_25 : decode cX2_noteValues 25 = .ok (.iload_n 3, 1) := by decide +kernel
theorem dX2_noteValues_26 : decode cX2_noteValues 26 = .ok (.iadd, 1) := by decide +kernel
theorem dX2_noteValues_27 : decode cX2_noteValues 27 = .ok (.istore 5, 2) := by decide +kernel
theorem dX2_noteValues_29 : decode cX2_noteValues 29 = .ok (.aload_n 0, 1) := by decide +kernel
theorem dX2_noteValues_30 : decode cX2_noteValues 30 = .ok (.getfield 15, 3) := by decide +kernel
theorem dX2_noteValues_33 : decode cX2_noteValues 33 = .ok (.iload 5, 2) := by decide +kernel
theorem dX2_noteValues_35 : decode cX2_noteValues 35 = .ok (.iaload, 1) := by decide +kernel
theorem dX2_noteValues_36 : decode cX2_noteValues 36 = .ok (.iconst (-1), 1) := by decide +kernel
theorem dX2_noteValues_37 : decode cX2_noteValues 37 = .ok (.if_icmp .eq 15, 3) := by decide +kernel
theorem dX2_noteValues_40 : decode cX2_noteValues 40 = .ok (.iload 4, 2) := by decide +kernel
theorem dX2_noteValues_42 : decode cX2_noteValues 42 = .ok (.aload_n 0, 1) := by decide +kernel
theorem dX2_noteValues_43 : decode cX2_noteValues 43 = .ok (.getfield 15, 3) := by decide +kernel
theorem dX2_noteValues_46 : decode cX2_noteValues 46 = .ok (.iload 5, 2) := by decide +kernel
theorem dX2_noteValues_48 : decode cX2_noteValues 48 = .ok (.iaload, 1) := by decide +kernel
theorem dX2_noteValues_49 : decode cX2_noteValues 49 = .ok (.if_icmp .ge 12, 3) := by decide +kernel
theorem dX2_noteValues_52 : decode cX2_noteValues 52 = .ok (.aload_n 0, 1) := by decide +kernel
theorem dX2_noteValues_53 : decode cX2_noteValues 53 = .ok (.getfield 15, 3) := by decide +kernel
theorem dX2_noteValues_56 : decode cX2_noteValues 56 = .ok (.iload 5, 2) := by decide +kernel
theorem dX2_noteValues_58 : decode cX2_noteValues 58 = .ok (.iload 4, 2) := by decide +kernel
theorem dX2_noteValues_60 : decode cX2_noteValues 60 = .ok (.iastore, 1) := by decide +kernel
theorem dX2_noteValues_61 : decode cX2_noteValues 61 = .ok (.iload 4, 2) := by decide +kernel
theorem dX2_noteValues_63 : decode cX2_noteValues 63 = .ok (.aload_n 0, 1) := by decide +kernel
theorem dX2_noteValues_64 : decode cX2_noteValues 64 = .ok (.getfield 18, 3) := by decide +kernel
theorem dX2_noteValues_67 : decode cX2_noteValues 67 = .ok (.iload 5, 2) := by decide +kernel
theorem dX2_noteValues_69 : decode cX2_noteValues 69 = .ok (.iaload, 1) := by decide +kernel
theorem dX2_noteValues_70 : decode cX2_noteValues 70 = .ok (.if_icmp .le 12, 3) := by decide +kernel
theorem dX2_noteValues_73 : decode cX2_noteValues 73 = .ok (.aload_n 0, 1) := by decide +kernel
theorem dX2_noteValues_74 : decode cX2_noteValues 74 = .ok (.getfield 18, 3) := by decide +kernel
theorem dX2_noteValues_77 : decode cX2_noteValues 77 = .ok (.iload 5, 2) := by decide +kernel
theorem dX2_noteValues_79 : decode cX2_noteValues 79 = .ok (.iload 4, 2) := by decide +kernel
theorem dX2_noteValues_81 : decode cX2_noteValues 81 = .ok (.iastore, 1) := by decide +kernel
theorem dX2_noteValues_82 : decode cX2_noteValues 82 = .ok (.iinc 3 1, 3) := by decide +kernel
theorem dX2_noteValues_85 : decode cX2_noteValues 85 = .ok (.goto (-76), 3) := by decide +kernel
theorem dX2_noteValues_88 : decode cX2_noteValues 88 = .ok (.return_, 1) := by decide +kernel
theorem dX3_init_0 : decode cX3_init 0 = .ok (.aload_n 0, 1) := by decide +kernel
theorem dX3_init_1 : decode cX3_init 1 = .ok (.invokespecial 3, 3) := by decide +kernel
theorem dX3_init_4 : decode cX3_init 4 = .ok (.aload_n 0, 1) := by decide +kernel
theorem dX3_init_5 : decode cX3_init 5 = .ok (.bipush 12, 2) := by decide +kernel
theorem dX3_init_7 : decode cX3_init 7 = .ok (.newarray .int, 2) := by decide +kernel
theorem dX3_init_9 : decode cX3_init 9 = .ok (.putfield 9, 3) := by decide +kernel
theorem dX3_init_12 : decode cX3_init 12 = .ok (.aload_n 0, 1) := by decide +kernel
theorem dX3_init_13 : decode cX3_init 13 = .ok (.bipush 12, 2) := by decide +kernel
theorem dX3_init_15 : decode cX3_init 15 = .ok (.newarray .int, 2) := by decide +kernel
theorem dX3_init_17 : decode cX3_init 17 = .ok (.putfield 15, 3) := by decide +kernel
theorem dX3_init_20 : decode cX3_init 20 = .ok (.aload_n 0, 1) := by decide +kernel
theorem dX3_init_21 : decode cX3_init 21 = .ok (.bipush 12, 2) := by decide +kernel
theorem dX3_init_23 : decode cX3_init 23 = .ok (.newarray .int, 2) := by decide +kernel
theorem dX3_init_25 : decode cX3_init 25 = .ok (.putfield 18, 3) := by decide +kernel
theorem dX3_init_28 : decode cX3_init 28 = .ok (.aload_n 0, 1) := by decide +kernel
theorem dX3_init_29 : decode cX3_init 29 = .ok (.bipush 12, 2) := by decide +kernel
theorem dX3_init_31 : decode cX3_init 31 = .ok (.newarray .int, 2) := by decide +kernel
theorem dX3_init_33 : decode cX3_init 33 = .ok (.putfield 21, 3) := by decide +kernel
theorem dX3_init_36 : decode cX3_init 36 = .ok (.aload_n 0, 1) := by decide +kernel
theorem dX3_init_37 : decode cX3_init 37 = .ok (.bipush 12, 2) := by decide +kernel
theorem dX3_init_39 : decode cX3_init 39 = .ok (.newarray .int, 2) := by decide +kernel
theorem dX3_init_41 : decode cX3_init 41 = .ok (.putfield 24, 3) := by decide +kernel
theorem dX3_init_44 : decode cX3_init 44 = .ok (.aload_n 0, 1) := by decide +kernel
theorem dX3_init_45 : decode cX3_init 45 = .ok (.bipush 12, 2) := by decide +kernel
theorem dX3_init_47 : decode cX3_init 47 = .ok (.newarray .int, 2) := by decide +kernel
theorem dX3_init_49 : decode cX3_init 49 = .ok (.putfield 27, 3) := by decide +kernel
theorem dX3_init_52 : decode cX3_init 52 = .ok (.return_, 1) := by decide +kernel
theorem dX3_clear_0 : decode cX3_clear 0 = .ok (.aload_n 0, 1) := by decide +kernel
theorem dX3_clear_1 : decode cX3_clear 1 = .ok (.iconst 0, 1) := by decide +kernel
theorem dX3_clear_2 : decode cX3_clear 2 = .ok (.putfield 30, 3) := by decide +kernel
theorem dX3_clear_5 : decode cX3_clear 5 = .ok (.return_, 1) := by decide +kernel
theorem dX3_put_0 : decode cX3_put 0 = .ok (.aload_n 0, 1) := by decide +kernel
theorem dX3_put_1 : decode cX3_put 1 = .ok (.getfield 30, 3) := by decide +kernel
theorem dX3_put_4 : decode cX3_put 4 = .ok (.bipush 12, 2) := by decide +kernel
theorem dX3_put_6 : decode cX3_put 6 = .ok (.if_icmp .lt 4, 3) := by decide +kernel
theorem dX3_put_9 : decode cX3_put 9 = .ok (.return_, 1) := by decide +kernel
theorem dX3_put_10 : decode cX3_put 10 = .ok (.aload_n 0, 1) := by decide +kernel
theorem dX3_put_11 : decode cX3_put 11 = .ok (.getfield 9, 3) := by decide +kernel
theorem dX3_put_14 : decode cX3_put 14 = .ok (.aload_n 0, 1) := by decide +kernel
theorem dX3_put_15 : decode cX3_put 15 = .ok (.getfield 30, 3) := by decide +kernel
theorem dX3_put_18 : decode cX3_put 18 = .ok (.iload_n 1, 1) := by decide +kernel
theorem dX3_put_19 : decode cX3_put 19 = .ok (.iastore, 1) := by decide +kernel
theorem dX3_put_20 : decode cX3_put 20 = .ok (.aload_n 0, 1) := by decide +kernel
theorem dX3_put_21 : decode cX3_put 21 = .ok (.getfield 15, 3) := by decide +kernel
theorem dX3_put_24 : decode cX3_put 24 = .ok (.aload_n 0, 1) := by decide +kernel
theorem dX3_put_25 : decode cX3_put 25 = .ok (.getfield 30, 3) := by decide +kernel
theorem dX3_put_28 : decode cX3_put 28 = .ok (.iload_n 2, 1) := by decide +kernel
theorem dX3_put_29 : decode cX3_put 29 = .ok (.iastore, 1) := by decide +kernel
theorem dX3_put_30 : decode cX3_put 30 = .ok (.aload_n 0, 1) := by decide +kernel
theorem dX3_put_31 : decode cX3_put 31 = .ok (.getfield 18, 3) := by decide +kernel
theorem dX3_put_34 : decode cX3_put 34 = .ok (.aload_n 0, 1) := by decide +kernel
theorem dX3_put_35 : decode cX3_put 35 = .ok (.getfield 30, 3) := by decide +kernel
theorem dX3_put_38 : decode cX3_put 38 = .ok (.iload_n 3, 1) := by decide +kernel
theorem dX3_put_39 : decode cX3_put 39 = .ok (.iastore, 1) := by decide +kernel
theorem dX3_put_40 : decode cX3_put 40 = .ok (.aload_n 0, 1) := by decide +kernel
theorem dX3_put_41 : decode cX3_put 41 = .ok (.getfield 21, 3) := by decide +kernel
theorem dX3_put_44 : decode cX3_put 44 = .ok (.aload_n 0, 1) := by decide +kernel
theorem dX3_put_45 : decode cX3_put 45 = .ok (.getfield 30, 3) := by decide +kernel
theorem dX3_put_48 : decode cX3_put 48 = .ok (.iload 4, 2) := by decide +kernel
theorem dX3_put_50 : decode cX3_put 50 = .ok (.iastore, 1) := by decide +kernel
theorem dX3_put_51 : decode cX3_put 51 = .ok (.aload_n 0, 1) := by decide +kernel
theorem dX3_put_52 : decode cX3_put 52 = .ok (.getfield 24, 3) := by decide +kernel
theorem dX3_put_55 : decode cX3_put 55 = .ok (.aload_n 0, 1) := by decide +kernel
theorem dX3_put_56 : decode cX3_put 56 = .ok (.getfield 30, 3) := by decide +kernel
theorem dX3_put_59 : decode cX3_put 59 = .ok (.iload 5, 2) := by decide +kernel
theorem dX3_put_61 : decode cX3_put 61 = .ok (.iastore, 1) := by decide +kernel
theorem dX3_put_62 : decode cX3_put 62 = .ok (.aload_n 0, 1) := by decide +kernel
theorem dX3_put_63 : decode cX3_put 63 = .ok (.getfield 27, 3) := by decide +kernel
theorem dX3_put_66 : decode cX3_put 66 = .ok (.aload_n 0, 1) := by decide +kernel
theorem dX3_put_67 : decode cX3_put 67 = .ok (.getfield 30, 3) := by decide +kernel
theorem dX3_put_70 : decode cX3_put 70 = .ok (.iload 6, 2) := by decide +kernel
theorem dX3_put_72 : decode cX3_put 72 = .ok (.iastore, 1) := by decide +kernel
theorem dX3_put_73 : decode cX3_put 73 = .ok (.aload_n 0, 1) := by decide +kernel
theorem dX3_put_74 : decode cX3_put 74 = .ok (.dup, 1) := by decide +kernel
theorem dX3_put_75 : decode cX3_put 75 = .ok (.getfield 30, 3) := by decide +kernel
theorem dX3_put_78 : decode cX3_put 78 = .ok (.iconst 1, 1) := by decide +kernel
theorem dX3_put_79 : decode cX3_put 79 = .ok (.iadd, 1) := by decide +kernel
theorem dX3_put_80 : decode cX3_put 80 = .ok (.putfield 30, 3) := by decide +kernel
theorem dX3_put_83 : decode cX3_put 83 = .ok (.return_, 1) := by decide +kernel
theorem dX3_putAll_0 : decode cX3_putAll 0 = .ok (.iconst 0, 1) := by decide +kernel
theorem dX3_putAll_1 : decode cX3_putAll 1 = .ok (.istore_n 2, 1) := by decide +kernel
theorem dX3_putAll_2 : decode cX3_putAll 2 = .ok (.iload_n 2, 1) := by decide +kernel
theorem dX3_putAll_3 : decode cX3_putAll 3 = .ok (.aload_n 1, 1) := by decide +kernel
theorem dX3_putAll_4 : decode cX3_putAll 4 = .ok (.getfield 30, 3) := by decide +kernel
theorem dX3_putAll_7 : decode cX3_putAll 7 = .ok (.if_icmp .ge 49, 3) := by decide +kernel
theorem dX3_putAll_10 : decode cX3_putAll 10 = .ok (.aload_n 0, 1) := by decide +kernel
theorem dX3_putAll_11 : decode cX3_putAll 11 = .ok (.aload_n 1, 1) := by decide +kernel
theorem dX3_putAll_12 : decode cX3_putAll 12 = .ok (.getfield 9, 3) := by decide +kernel
theorem dX3_putAll_15 : decode cX3_putAll 15 = .ok (.iload_n 2, 1) := by decide +kernel
theorem dX3_putAll_16 : decode cX3_putAll 16 = .ok (.iaload, 1) := by decide +kernel
theorem dX3_putAll_17 : decode cX3_putAll 17 = .ok (.aload_n 1, 1) := by decide +kernel
theorem dX3_putAll_18 : decode cX3_putAll 18 = .ok (.getfield 15, 3) := by decide +kernel
theorem dX3_putAll_21 : decode cX3_putAll 21 = .ok (.iload_n 2, 1) := by decide +kernel
theorem dX3_putAll_22 : decode cX3_putAll 22 = .ok (.iaload, 1) := by decide +kernel
theorem dX3_putAll_23 : decode cX3_putAll 23 = .ok (.aload_n 1, 1) := by decide +kernel
theorem dX3_putAll_24 : decode cX3_putAll 24 = .ok (.getfield 18, 3) := by decide +kernel
theorem dX3_putAll_27 : decode cX3_putAll 27 = .ok (.iload_n 2, 1) := by decide +kernel
theorem dX3_putAll_28 : decode cX3_putAll 28 = .ok (.iaload, 1) := by decide +kernel
theorem dX3_putAll_29 : decode cX3_putAll 29 = .ok (.aload_n 1, 1) := by decide +kernel
theorem dX3_putAll_30 : decode cX3_putAll 30 = .ok (.getfield 21, 3) := by decide +kernel
theorem dX3_putAll_33 : decode cX3_putAll 33 = .ok (.iload_n 2, 1) := by decide +kernel
theorem dX3_putAll_34 : decode cX3_putAll 34 = .ok (.iaload, 1) := by decide +kernel
theorem dX3_putAll_35 : decode cX3_putAll 35 = .ok (.aload_n 1, 1) := by decide +kernel
theorem dX3_putAll_36 : decode cX3_putAll 36 = .ok (.getfield 24, 3) := by decide +kernel
theorem dX3_putAll_39 : decode cX3_putAll 39 = .ok (.iload_n 2, 1) := by decide +kernel
theorem dX3_putAll_40 : decode cX3_putAll 40 = .ok (.iaload, 1) := by decide +kernel
theorem dX3_putAll_41 : decode cX3_putAll 41 = .ok (.aload_n 1, 1) := by decide +kernel
theorem dX3_putAll_42 : decode cX3_putAll 42 = .ok (.getfield 27, 3) := by decide +kernel
theorem dX3_putAll_45 : decode cX3_putAll 45 = .ok (.iload_n 2, 1) := by decide +kernel
theorem dX3_putAll_46 : decode cX3_putAll 46 = .ok (.iaload, 1) := by decide +kernel
theorem dX3_putAll_47 : decode cX3_putAll 47 = .ok (.invokevirtual 34, 3) := by decide +kernel
theorem dX3_putAll_50 : decode cX3_putAll 50 = .ok (.iinc 2 1, 3) := by decide +kernel
theorem dX3_putAll_53 : decode cX3_putAll 53 = .ok (.goto (-51), 3) := by decide +kernel
theorem dX3_putAll_56 : decode cX3_putAll 56 = .ok (.return_, 1) := by decide +kernel
theorem dX3_copyFrom_0 : decode cX3_copyFrom 0 = .ok (.aload_n 0, 1) := by decide +kernel
theorem dX3_copyFrom_1 : decode cX3_copyFrom 1 = .ok (.invokevirtual 38, 3) := by decide +kernel
theorem dX3_copyFrom_4 : decode cX3_copyFrom 4 = .ok (.aload_n 0, 1) := by decide +kernel
theorem dX3_copyFrom_5 : decode cX3_copyFrom 5 = .ok (.aload_n 1, 1) := by decide +kernel
theorem dX3_copyFrom_6 : decode cX3_copyFrom 6 = .ok (.invokevirtual 41, 3) := by decide +kernel
theorem dX3_copyFrom_9 : decode cX3_copyFrom 9 = .ok (.return_, 1) := by decide +kernel
theorem dX3_dropLast_0 : decode cX3_dropLast 0 = .ok (.aload_n 0, 1) := by decide +kernel
theorem dX3_dropLast_1 : decode cX3_dropLast 1 = .ok (.getfield 30, 3) := by decide +kernel
theorem dX3_dropLast_4 : decode cX3_dropLast 4 = .ok (.iconst 1, 1) := by decide +kernel
theorem dX3_dropLast_5 : decode cX3_dropLast 5 = .ok (.isub, 1) := by decide +kernel
theorem dX3_dropLast_6 : decode cX3_dropLast 6 = .ok (.iconst 0, 1) := by decide +kernel
theorem dX3_dropLast_7 : decode cX3_dropLast 7 = .ok (.invokestatic 45, 3) := by decide +kernel
theorem dX3_dropLast_10 : decode cX3_dropLast 10 = .ok (.istore_n 1, 1) := by decide +kernel
theorem dX3_dropLast_11 : decode cX3_dropLast 11 = .ok (.iconst 0, 1) := by decide +kernel
theorem dX3_dropLast_12 : decode cX3_dropLast 12 = .ok (.istore_n 2, 1) := by decide +kernel
theorem dX3_dropLast_13 : decode cX3_dropLast 13 = .ok (.iload_n 2, 1) := by decide +kernel
theorem dX3_dropLast_14 : decode cX3_dropLast 14 = .ok (.iload_n 1, 1) := by decide +kernel
theorem dX3_dropLast_15 : decode cX3_dropLast 15 = .ok (.if_icmp .ge 26, 3) := by decide +kernel
theorem dX3_dropLast_18 : decode cX3_dropLast 18 = .ok (.aload_n 0, 1) := by decide +kernel
theorem dX3_dropLast_19 : decode cX3_dropLast 19 = .ok (.getfield 27, 3) := by decide +kernel
theorem dX3_dropLast_22 : decode cX3_dropLast 22 = .ok (.iload_n 2, 1) := by decide +kernel
theorem dX3_dropLast_23 : decode cX3_dropLast 23 = .ok (.iaload, 1) := by decide +kernel
theorem dX3_dropLast_24 : decode cX3_dropLast 24 = .ok (.iload_n 1, 1) := by decide +kernel
theorem dX3_dropLast_25 : decode cX3_dropLast 25 = .ok (.if_icmp .le 10, 3) := by decide +kernel
theorem dX3_dropLast_28 : decode cX3_dropLast 28 = .ok (.aload_n 0, 1) := by decide +kernel
theorem dX3_dropLast_29 : decode cX3_dropLast 29 = .ok (.getfield 27, 3) := by decide +kernel
theorem dX3_dropLast_32 : decode cX3_dropLast 32 = .ok (.iload_n 2, 1) := by decide +kernel
theorem dX3_dropLast_33 : decode cX3_dropLast 33 = .ok (.iload_n 1, 1) := by decide +kernel
theorem dX3_dropLast_34 : decode cX3_dropLast 34 = .ok (.iastore, 1) := by decide +kernel
theorem dX3_dropLast_35 : decode cX3_dropLast 35 = .ok (.iinc 2 1, 3) := by decide +kernel
theorem dX3_dropLast_38 : decode cX3_dropLast 38 = .ok (.goto (-25), 3) := by decide +kernel
theorem dX3_dropLast_41 : decode cX3_dropLast 41 = .ok (.aload_n 0, 1) := by decide +kernel
theorem dX3_dropLast_42 : decode cX3_dropLast 42 = .ok (.iload_n 1, 1) := by decide +kernel
theorem dX3_dropLast_43 : decode cX3_dropLast 43 = .ok (.putfield 30, 3) := by decide +kernel
theorem dX3_dropLast_46 : decode cX3_dropLast 46 = .ok (.return_, 1) := by decide +kernel
theorem dX3_highestTarget_0 : decode cX3_highestTarget 0 = .ok (.iconst (-1), 1) := by decide +kernel
theorem dX3_highestTarget_1 : decode cX3_highestTarget 1 = .ok (.istore_n 1, 1) := by decide +kernel
theorem dX3_highestTarget_2 : decode cX3_highestTarget 2 = .ok (.iconst 0, 1) := by decide +kernel
theorem dX3_highestTarget_3 : decode cX3_highestTarget 3 = .ok (.istore_n 2, 1) := by decide +kernel
theorem dX3_highestTarget_4 : decode cX3_highestTarget 4 = .ok (.iload_n 2, 1) := by decide +kernel
theorem dX3_highestTarget_5 : decode cX3_highestTarget 5 = .ok (.aload_n 0, 1) := by decide +kernel
theorem dX3_highestTarget_6 : decode cX3_highestTarget 6 = .ok (.getfield 30, 3) := by decide +kernel
theorem dX3_highestTarget_9 : decode cX3_highestTarget 9 = .ok (.if_icmp .ge 20, 3) := by decide +kernel
theorem dX3_highestTarget_12 : decode cX3_highestTarget 12 = .ok (.iload_n 1, 1) := by decide +kernel
theorem dX3_highestTarget_13 : decode cX3_highestTarget 13 = .ok (.aload_n 0, 1) := by decide +kernel
theorem dX3_highestTarget_14 : decode cX3_highestTarget 14 = .ok (.getfield 27, 3) := by decide +kernel
theorem dX3_highestTarget_17 : decode cX3_highestTarget 17 = .ok (.iload_n 2, 1) := by decide +kernel
theorem dX3_highestTarget_18 : decode cX3_highestTarget 18 = .ok (.iaload, 1) := by decide +kernel
theorem dX3_highestTarget_19 : decode cX3_highestTarget 19 = .ok (.invokestatic 45, 3) := by decide +kernel
theorem dX3_highestTarget_22 : decode cX3_highestTarget 22 = .ok (.istore_n 1, 1) := by decide +kernel
theorem dX3_highestTarget_23 : decode cX3_highestTarget 23 = .ok (.iinc 2 1, 3) := by decide +kernel
theorem dX3_highestTarget_26 : decode cX3_highestTarget 26 = .ok (.goto (-22), 3) := by decide +kernel
theorem dX3_highestTarget_29 : decode cX3_highestTarget 29 = .ok (.iload_n 1, 1) := by decide +kernel
theorem dX3_highestTarget_30 : decode cX3_highestTarget 30 = .ok (.ireturn, 1) := by decide +kernel
theorem dX3_isEnd_0 : decode cX3_isEnd 0 = .ok (.iload_n 1, 1) := by decide +kernel
theorem dX3_isEnd_1 : decode cX3_isEnd 1 = .ok (.invokestatic 51, 3) := by decide +kernel
theorem dX3_isEnd_4 : decode cX3_isEnd 4 = .ok (.aload_n 0, 1) := by decide +kernel
theorem dX3_isEnd_5 : decode cX3_isEnd 5 = .ok (.getfield 30, 3) := by decide +kernel
theorem dX3_isEnd_8 : decode cX3_isEnd 8 = .ok (.if_icmp .lt 7, 3) := by decide +kernel
theorem dX3_isEnd_11 : decode cX3_isEnd 11 = .ok (.iconst 1, 1) := by decide +kernel
theorem dX3_isEnd_12 : decode cX3_isEnd 12 = .ok (.goto 4, 3) := by decide +kernel
theorem dX3_isEnd_15 : decode cX3_isEnd 15 = .ok (.iconst 0, 1) := by decide +kernel
theorem dX3_isEnd_16 : decode cX3_isEnd 16 = .ok (.ireturn, 1) := by decide +kernel
theorem dX3_placeAfter_0 : decode cX3_placeAfter 0 = .ok (.iload_n 1, 1) := by decide +kernel
theorem dX3_placeAfter_1 : decode cX3_placeAfter 1 = .ok (.invokestatic 51, 3) := by decide +kernel
theorem dX3_placeAfter_4 : decode cX3_placeAfter 4 = .ok (.istore_n 2, 1) := by decide +kernel
theorem dX3_placeAfter_5 : decode cX3_placeAfter 5 = .ok (.iload_n 1, 1) := by decide +kernel
theorem dX3_placeAfter_6 : decode cX3_placeAfter 6 = .ok (.invokestatic 55, 3) := by decide +kernel
theorem dX3_placeAfter_9 : decode cX3_placeAfter 9 = .ok (.istore_n 3, 1) := by decide +kernel
theorem dX3_placeAfter_10 : decode cX3_placeAfter 10 = .ok (.iload_n 2, 1) := by decide +kernel
theorem dX3_placeAfter_11 : decode cX3_placeAfter 11 = .ok (.aload_n 0, 1) := by decide +kernel
theorem dX3_placeAfter_12 : decode cX3_placeAfter 12 = .ok (.getfield 30, 3) := by decide +kernel
theorem dX3_placeAfter_15 : decode cX3_placeAfter 15 = .ok (.if_icmp .lt 5, 3) := by decide +kernel
theorem dX3_placeAfter_18 : decode cX3_placeAfter 18 = .ok (.iconst (-1), 1) := by decide +kernel
theorem dX3_placeAfter_19 : decode cX3_placeAfter 19 = .ok (.ireturn, 1) := by decide +kernel
theorem dX3_placeAfter_20 : decode cX3_placeAfter 20 = .ok (.aload_n 0, 1) := by decide +kernel
theorem dX3_placeAfter_21 : decode cX3_placeAfter 21 = .ok (.getfield 21, 3) := by decide +kernel
theorem dX3_placeAfter_24 : decode cX3_placeAfter 24 = .ok (.iload_n 2, 1) := by decide +kernel
theorem dX3_placeAfter_25 : decode cX3_placeAfter 25 = .ok (.iaload, 1) := by decide +kernel
theorem dX3_placeAfter_26 : decode cX3_placeAfter 26 = .ok (.istore 4, 2) := by decide +kernel
theorem dX3_placeAfter_28 : decode cX3_placeAfter 28 = .ok (.iload 4, 2) := by decide +kernel
theorem dX3_placeAfter_30 : decode cX3_placeAfter 30 = .ok (.bipush 8, 2) := by decide +kernel
theorem dX3_placeAfter_32 : decode cX3_placeAfter 32 = .ok (.if_icmp .ge 8, 3) := by decide +kernel
theorem dX3_placeAfter_35 : decode cX3_placeAfter 35 = .ok (.iload 4, 2) := by decide +kernel
theorem dX3_placeAfter_37 : decode cX3_placeAfter 37 = .ok (.goto 12, 3) := by decide +kernel
theorem dX3_placeAfter_40 : decode cX3_placeAfter 40 = .ok (.iload_n 3, 1) := by decide +kernel
theorem dX3_placeAfter_41 : decode cX3_placeAfter 41 = .ok (.iload 4, 2) := by decide +kernel
theorem dX3_placeAfter_43 : decode cX3_placeAfter 43 = .ok (.bipush 8, 2) := by decide +kernel
theorem dX3_placeAfter_45 : decode cX3_placeAfter 45 = .ok (.isub, 1) := by decide +kernel
theorem dX3_placeAfter_46 : decode cX3_placeAfter 46 = .ok (.invokestatic 58, 3) := by decide +kernel
theorem dX3_placeAfter_49 : decode cX3_placeAfter 49 = .ok (.istore 5, 2) := by decide +kernel
theorem dX3_placeAfter_51 : decode cX3_placeAfter 51 = .ok (.aload_n 0, 1) := by decide +kernel
theorem dX3_placeAfter_52 : decode cX3_placeAfter 52 = .ok (.getfield 9, 3) := by decide +kernel
theorem dX3_placeAfter_55 : decode cX3_placeAfter 55 = .ok (.iload_n 2, 1) := by decide +kernel
theorem dX3_placeAfter_56 : decode cX3_placeAfter 56 = .ok (.iaload, 1) := by decide +kernel
theorem dX3_placeAfter_57 : decode cX3_placeAfter 57 = .ok (.ifCond .ne 36, 3) := by decide +kernel
theorem dX3_placeAfter_60 : decode cX3_placeAfter 60 = .ok (.iload 5, 2) := by decide +kernel
theorem dX3_placeAfter_62 : decode cX3_placeAfter 62 = .ok (.aload_n 0, 1) := by decide +kernel
theorem dX3_placeAfter_63 : decode cX3_placeAfter 63 = .ok (.getfield 24, 3) := by decide +kernel
theorem dX3_placeAfter_66 : decode cX3_placeAfter 66 = .ok (.iload_n 2, 1) := by decide +kernel
theorem dX3_placeAfter_67 : decode cX3_placeAfter 67 = .ok (.iaload, 1) := by decide +kernel
theorem dX3_placeAfter_68 : decode cX3_placeAfter 68 = .ok (.iadd, 1) := by decide +kernel
theorem dX3_placeAfter_69 : decode cX3_placeAfter 69 = .ok (.bipush 7, 2) := by decide +kernel
theorem dX3_placeAfter_71 : decode cX3_placeAfter 71 = .ok (.iand, 1) := by decide +kernel
theorem dX3_placeAfter_72 : decode cX3_placeAfter 72 = .ok (.istore 6, 2) := by decide +kernel
theorem dX3_placeAfter_74 : decode cX3_placeAfter 74 = .ok (.iload_n 2, 1) := by decide +kernel
theorem dX3_placeAfter_75 : decode cX3_placeAfter 75 = .ok (.iconst 1, 1) := by decide +kernel
theorem dX3_placeAfter_76 : decode cX3_placeAfter 76 = .ok (.iadd, 1) := by decide +kernel
theorem dX3_placeAfter_77 : decode cX3_placeAfter 77 = .ok (.iload_n 3, 1) := by decide +kernel
theorem dX3_placeAfter_78 : decode cX3_placeAfter 78 = .ok (.aload_n 0, 1) := by decide +kernel
theorem dX3_placeAfter_79 : decode cX3_placeAfter 79 = .ok (.getfield 15, 3) := by decide +kernel
theorem dX3_placeAfter_82 : decode cX3_placeAfter 82 = .ok (.iload_n 2, 1) := by decide +kernel
theorem dX3_placeAfter_83 : decode cX3_placeAfter 83 = .ok (.iaload, 1) := by decide +kernel
theorem dX3_placeAfter_84 : decode cX3_placeAfter 84 = .ok (.iload 6, 2) := by decide +kernel
theorem dX3_placeAfter_86 : decode cX3_placeAfter 86 = .ok (.invokestatic 61, 3) := by decide +kernel
theorem dX3_placeAfter_89 : decode cX3_placeAfter 89 = .ok (.invokestatic 65, 3) := by decide +kernel
theorem dX3_placeAfter_92 : decode cX3_placeAfter 92 = .ok (.ireturn, 1) := by decide +kernel
theorem dX3_placeAfter_93 : decode cX3_placeAfter 93 = .ok (.iload_n 3, 1) := by decide +kernel
theorem dX3_placeAfter_94 : decode cX3_placeAfter 94 = .ok (.aload_n 0, 1) := by decide +kernel
theorem dX3_placeAfter_95 : decode cX3_placeAfter 95 = .ok (.getfield 15, 3) := by decide +kernel
theorem dX3_placeAfter_98 : decode cX3_placeAfter 98 = .ok (.iload_n 2, 1) := by decide +kernel
theorem dX3_placeAfter_99 : decode cX3_placeAfter 99 = .ok (.iaload, 1) := by decide +kernel
theorem dX3_placeAfter_100 : decode cX3_placeAfter 100 = .ok (.invokestatic 58, 3) := by decide +kernel
theorem dX3_placeAfter_103 : decode cX3_placeAfter 103 = .ok (.aload_n 0, 1) := by decide +kernel
theorem dX3_placeAfter_104 : decode cX3_placeAfter 104 = .ok (.getfield 18, 3) := by decide +kernel
theorem dX3_placeAfter_107 : decode cX3_placeAfter 107 = .ok (.iload_n 2, 1) := by decide +kernel
theorem dX3_placeAfter_108 : decode cX3_placeAfter 108 = .ok (.iaload, 1) := by decide +kernel
theorem dX3_placeAfter_109 : decode cX3_placeAfter 109 = .ok (.iload 5, 2) := by decide +kernel
theorem dX3_placeAfter_111 : decode cX3_placeAfter 111 = .ok (.invokestatic 68, 3) := by decide +kernel
theorem dX3_placeAfter_114 : decode cX3_placeAfter 114 = .ok (.istore 6, 2) := by decide +kernel
theorem dX3_placeAfter_116 : decode cX3_placeAfter 116 = .ok (.aload_n 0, 1) := by decide +kernel
theorem dX3_placeAfter_117 : decode cX3_placeAfter 117 = .ok (.getfield 9, 3) := by decide +kernel
theorem dX3_placeAfter_120 : decode cX3_placeAfter 120 = .ok (.iload_n 2, 1) := by decide +kernel
theorem dX3_placeAfter_121 : decode cX3_placeAfter 121 = .ok (.iaload, 1) := by decide +kernel
theorem dX3_placeAfter_122 : decode cX3_placeAfter 122 = .ok (.iconst 2, 1) := by decide +kernel
theorem dX3_placeAfter_123 : decode cX3_placeAfter 123 = .ok (.if_icmp .ne 25, 3) := by decide +kernel
theorem dX3_placeAfter_126 : decode cX3_placeAfter 126 = .ok (.iload 6, 2) := by decide +kernel
theorem dX3_placeAfter_128 : decode cX3_placeAfter 128 = .ok (.ifCond .eq 12, 3) := by decide +kernel
theorem dX3_placeAfter_131 : decode cX3_placeAfter 131 = .ok (.aload_n 0, 1) := by decide +kernel
theorem dX3_placeAfter_132 : decode cX3_placeAfter 132 = .ok (.getfield 27, 3) := by decide +kernel
theorem dX3_placeAfter_135 : decode cX3_placeAfter 135 = .ok (.iload_n 2, 1) := by decide +kernel
theorem dX3_placeAfter_136 : decode cX3_placeAfter 136 = .ok (.iaload, 1) := by decide +kernel
theorem dX3_placeAfter_137 : decode cX3_placeAfter 137 = .ok (.goto 6, 3) := by decide +kernel
theorem dX3_placeAfter_140 : decode cX3_placeAfter 140 = .ok (.iload_n 2, 1) := by decide +kernel
theorem dX3_placeAfter_141 : decode cX3_placeAfter 141 = .ok (.iconst 1, 1) := by decide +kernel
theorem dX3_placeAfter_142 : decode cX3_placeAfter 142 = .ok (.iadd, 1) := by decide +kernel
theorem dX3_placeAfter_143 : decode cX3_placeAfter 143 = .ok (.iload_n 3, 1) := by decide +kernel
theorem dX3_placeAfter_144 : decode cX3_placeAfter 144 = .ok (.invokestatic 65, 3) := by decide +kernel
theorem dX3_placeAfter_147 : decode cX3_placeAfter 147 = .ok (.ireturn, 1) := by decide +kernel
theorem dX3_placeAfter_148 : decode cX3_placeAfter 148 = .ok (.iload 6, 2) := by decide +kernel
theorem dX3_placeAfter_150 : decode cX3_placeAfter 150 = .ok (.ifCond .eq 13, 3) := by decide +kernel
theorem dX3_placeAfter_153 : decode cX3_placeAfter 153 = .ok (.iload_n 2, 1) := by decide +kernel
theorem dX3_placeAfter_154 : decode cX3_placeAfter 154 = .ok (.iconst 1, 1) := by decide +kernel
theorem dX3_placeAfter_155 : decode cX3_placeAfter 155 = .ok (.iadd, 1) := by decide +kernel
theorem dX3_placeAfter_156 : decode cX3_placeAfter 156 = .ok (.iload_n 3, 1) := by decide +kernel
theorem dX3_placeAfter_157 : decode cX3_placeAfter 157 = .ok (.invokestatic 65, 3) := by decide +kernel
theorem dX3_placeAfter_160 : decode cX3_placeAfter 160 = .ok (.goto 4, 3) := by decide +kernel
theorem dX3_placeAfter_163 : decode cX3_placeAfter 163 = .ok (.iconst (-1), 1) := by decide +kernel
theorem dX3_placeAfter_164 : decode cX3_placeAfter 164 = .ok (.ireturn, 1) := by decide +kernel
theorem dX3_compares_0 : decode cX3_compares 0 = .ok (.iload_n 1, 1) := by decide +kernel
theorem dX3_compares_1 : decode cX3_compares 1 = .ok (.tableswitch 60 0 2 #[27, 38, 49], 27) := by decide +kernel
theorem dX3_compares_28 : decode cX3_compares 28 = .ok (.iload_n 0, 1) := by decide +kernel
theorem dX3_compares_29 : decode cX3_compares 29 = .ok (.iload_n 2, 1) := by decide +kernel
theorem dX3_compares_30 : decode cX3_compares 30 = .ok (.if_icmp .ne 7, 3) := by decide +kernel
theorem dX3_compares_33 : decode cX3_compares 33 = .ok (.iconst 1, 1) := by decide +kernel
theorem dX3_compares_34 : decode cX3_compares 34 = .ok (.goto 4, 3) := by decide +kernel
theorem dX3_compares_37 : decode cX3_compares 37 = .ok (.iconst 0, 1) := by decide +kernel
theorem dX3_compares_38 : decode cX3_compares 38 = .ok (.ireturn, 1) := by decide +kernel
theorem dX3_compares_39 : decode cX3_compares 39 = .ok (.iload_n 0, 1) := by decide +kernel
theorem dX3_compares_40 : decode cX3_compares 40 = .ok (.iload_n 2, 1) := by decide +kernel
theorem dX3_compares_41 : decode cX3_compares 41 = .ok (.if_icmp .ge 7, 3) := by decide +kernel
theorem dX3_compares_44 : decode cX3_compares 44 = .ok (.iconst 1, 1) := by decide +kernel
theorem dX3_compares_45 : decode cX3_compares 45 = .ok (.goto 4, 3) := by decide +kernel
theorem dX3_compares_48 : decode cX3_compares 48 = .ok (.iconst 0, 1) := by decide +kernel
theorem dX3_compares_49 : decode cX3_compares 49 = .ok (.ireturn, 1) := by decide +kernel
theorem dX3_compares_50 : decode cX3_compares 50 = .ok (.iload_n 0, 1) := by decide +kernel
theorem dX3_compares_51 : decode cX3_compares 51 = .ok (.iload_n 2, 1) := by decide +kernel
theorem dX3_compares_52 : decode cX3_compares 52 = .ok (.if_icmp .le 7, 3) := by decide +kernel
theorem dX3_compares_55 : decode cX3_compares 55 = .ok (.iconst 1, 1) := by decide +kernel
theorem dX3_compares_56 : decode cX3_compares 56 = .ok (.goto 4, 3) := by decide +kernel
theorem dX3_compares_59 : decode cX3_compares 59 = .ok (.iconst 0, 1) := by decide +kernel
theorem dX3_compares_60 : decode cX3_compares 60 = .ok (.ireturn, 1) := by decide +kernel
theorem dX3_compares_61 : decode cX3_compares 61 = .ok (.iload_n 0, 1) := by decide +kernel
theorem dX3_compares_62 : decode cX3_compares 62 = .ok (.iload_n 2, 1) := by decide +kernel
theorem dX3_compares_63 : decode cX3_compares 63 = .ok (.if_icmp .eq 7, 3) := by decide +kernel
theorem dX3_compares_66 : decode cX3_compares 66 = .ok (.iconst 1, 1) := by decide +kernel
theorem dX3_compares_67 : decode cX3_compares 67 = .ok (.goto 4, 3) := by decide +kernel
theorem dX3_compares_70 : decode cX3_compares 70 = .ok (.iconst 0, 1) := by decide +kernel
theorem dX3_compares_71 : decode cX3_compares 71 = .ok (.ireturn, 1) := by decide +kernel
theorem dX4_init_0 : decode cX4_init 0 = .ok (.aload_n 0, 1) := by decide +kernel
theorem dX4_init_1 : decode cX4_init 1 = .ok (.invokespecial 3, 3) := by decide +kernel
theorem dX4_init_4 : decode cX4_init 4 = .ok (.aload_n 0, 1) := by decide +kernel
theorem dX4_init_5 : decode cX4_init 5 = .ok (.sipush 6656, 3) := by decide +kernel
theorem dX4_init_8 : decode cX4_init 8 = .ok (.newarray .int, 2) := by decide +kernel
theorem dX4_init_10 : decode cX4_init 10 = .ok (.putfield 9, 3) := by decide +kernel
theorem dX4_init_13 : decode cX4_init 13 = .ok (.aload_n 0, 1) := by decide +kernel
theorem dX4_init_14 : decode cX4_init 14 = .ok (.iconst 1, 1) := by decide +kernel
theorem dX4_init_15 : decode cX4_init 15 = .ok (.putfield 15, 3) := by decide +kernel
theorem dX4_init_18 : decode cX4_init 18 = .ok (.aload_n 0, 1) := by decide +kernel
theorem dX4_init_19 : decode cX4_init 19 = .ok (.aload_n 1, 1) := by decide +kernel
theorem dX4_init_20 : decode cX4_init 20 = .ok (.putfield 19, 3) := by decide +kernel
theorem dX4_init_23 : decode cX4_init 23 = .ok (.return_, 1) := by decide +kernel
theorem dX4_forget_0 : decode cX4_forget 0 = .ok (.aload_n 0, 1) := by decide +kernel
theorem dX4_forget_1 : decode cX4_forget 1 = .ok (.iconst 1, 1) := by decide +kernel
theorem dX4_forget_2 : decode cX4_forget 2 = .ok (.putfield 15, 3) := by decide +kernel
theorem dX4_forget_5 : decode cX4_forget 5 = .ok (.return_, 1) := by decide +kernel
theorem dX4_succeedsFrom_0 : decode cX4_succeedsFrom 0 = .ok (.aload_n 0, 1) := by decide +kernel
theorem dX4_succeedsFrom_1 : decode cX4_succeedsFrom 1 = .ok (.iload_n 1, 1) := by decide +kernel
theorem dX4_succeedsFrom_2 : decode cX4_succeedsFrom 2 = .ok (.invokevirtual 23, 3) := by decide +kernel
theorem dX4_succeedsFrom_5 : decode cX4_succeedsFrom 5 = .ok (.sipush 1000, 3) := by decide +kernel
theorem dX4_succeedsFrom_8 : decode cX4_succeedsFrom 8 = .ok (.if_icmp .lt 7, 3) := by decide +kernel
theorem dX4_succeedsFrom_11 : decode cX4_succeedsFrom 11 = .ok (.iconst 1, 1) := by decide +kernel
theorem dX4_succeedsFrom_12 : decode cX4_succeedsFrom 12 = .ok (.goto 4, 3) := by decide +kernel
theorem dX4_succeedsFrom_15 : decode cX4_succeedsFrom 15 = .ok (.iconst 0, 1) := by decide +kernel
theorem dX4_succeedsFrom_16 : decode cX4_succeedsFrom 16 = .ok (.ireturn, 1) := by decide +kernel
theorem dX4_endFrom_0 : decode cX4_endFrom 0 = .ok (.aload_n 0, 1) := by decide +kernel
theorem dX4_endFrom_1 : decode cX4_endFrom 1 = .ok (.getfield 15, 3) := by decide +kernel
theorem dX4_endFrom_4 : decode cX4_endFrom 4 = .ok (.ifCond .eq 17, 3) := by decide +kernel
theorem dX4_endFrom_7 : decode cX4_endFrom 7 = .ok (.aload_n 0, 1) := by decide +kernel
theorem dX4_endFrom_8 : decode cX4_endFrom 8 = .ok (.getfield 9, 3) := by decide +kernel
theorem dX4_endFrom_11 : decode cX4_endFrom 11 = .ok (.bipush (-2), 2) := by decide +kernel
theorem dX4_endFrom_13 : decode cX4_endFrom 13 = .ok (.invokestatic 27, 3) := by decide +kernel
theorem dX4_endFrom_16 : decode cX4_endFrom 16 = .ok (.aload_n 0, 1) := by decide +kernel
theorem dX4_endFrom_17 : decode cX4_endFrom 17 = .ok (.iconst 0, 1) := by decide +kernel
theorem dX4_endFrom_18 : decode cX4_endFrom 18 = .ok (.putfield 15, 3) := by decide +kernel
theorem dX4_endFrom_21 : decode cX4_endFrom 21 = .ok (.iload_n 1, 1) := by decide +kernel
theorem dX4_endFrom_22 : decode cX4_endFrom 22 = .ok (.istore_n 2, 1) := by decide +kernel
theorem dX4_endFrom_23 : decode cX4_endFrom 23 = .ok (.iconst 0, 1) := by decide +kernel
theorem dX4_endFrom_24 : decode cX4_endFrom 24 = .ok (.istore_n 3, 1) := by decide +kernel
theorem dX4_endFrom_25 : decode cX4_endFrom 25 = .ok (.iload_n 3, 1) := by decide +kernel
theorem dX4_endFrom_26 : decode cX4_endFrom 26 = .ok (.sipush 6656, 3) := by decide +kernel
theorem dX4_endFrom_29 : decode cX4_endFrom 29 = .ok (.if_icmp .ge 61, 3) := by decide +kernel
theorem dX4_endFrom_32 : decode cX4_endFrom 32 = .ok (.aload_n 0, 1) := by decide +kernel
theorem dX4_endFrom_33 : decode cX4_endFrom 33 = .ok (.getfield 9, 3) := by decide +kernel
theorem dX4_endFrom_36 : decode cX4_endFrom 36 = .ok (.iload_n 2, 1) := by decide +kernel
theorem dX4_endFrom_37 : decode cX4_endFrom 37 = .ok (.iaload, 1) := by decide +kernel
theorem dX4_endFrom_38 : decode cX4_endFrom 38 = .ok (.bipush (-2), 2) := by decide +kernel
theorem dX4_endFrom_40 : decode cX4_endFrom 40 = .ok (.if_icmp .ne 50, 3) := by decide +kernel
theorem dX4_endFrom_43 : decode cX4_endFrom 43 = .ok (.aload_n 0, 1) := by decide +kernel
theorem dX4_endFrom_44 : decode cX4_endFrom 44 = .ok (.getfield 19, 3) := by decide +kernel
theorem dX4_endFrom_47 : decode cX4_endFrom 47 = .ok (.iload_n 2, 1) := by decide +kernel
theorem dX4_endFrom_48 : decode cX4_endFrom 48 = .ok (.invokevirtual 33, 3) := by decide +kernel
theorem dX4_endFrom_51 : decode cX4_endFrom 51 = .ok (.istore 4, 2) := by decide +kernel
theorem dX4_endFrom_53 : decode cX4_endFrom 53 = .ok (.iload 4, 2) := by decide +kernel
theorem dX4_endFrom_55 : decode cX4_endFrom 55 = .ok (.iconst (-1), 1) := by decide +kernel
theorem dX4_endFrom_56 : decode cX4_endFrom 56 = .ok (.if_icmp .ne 17, 3) := by decide +kernel
theorem dX4_endFrom_59 : decode cX4_endFrom 59 = .ok (.aload_n 0, 1) := by decide +kernel
theorem dX4_endFrom_60 : decode cX4_endFrom 60 = .ok (.getfield 9, 3) := by decide +kernel
theorem dX4_endFrom_63 : decode cX4_endFrom 63 = .ok (.iload_n 2, 1) := by decide +kernel
theorem dX4_endFrom_64 : decode cX4_endFrom 64 = .ok (.aload_n 0, 1) := by decide +kernel
theorem dX4_endFrom_65 : decode cX4_endFrom 65 = .ok (.iload_n 2, 1) := by decide +kernel
theorem dX4_endFrom_66 : decode cX4_endFrom 66 = .ok (.invokevirtual 38, 3) := by decide +kernel
theorem dX4_endFrom_69 : decode cX4_endFrom 69 = .ok (.iastore, 1) := by decide +kernel
theorem dX4_endFrom_70 : decode cX4_endFrom 70 = .ok (.goto 14, 3) := by decide +kernel
theorem dX4_endFrom_73 : decode cX4_endFrom 73 = .ok (.aload_n 0, 1) := by decide +kernel
theorem dX4_endFrom_74 : decode cX4_endFrom 74 = .ok (.getfield 9, 3) := by decide +kernel
theorem dX4_endFrom_77 : decode cX4_endFrom 77 = .ok (.iload_n 2, 1) := by decide +kernel
theorem dX4_endFrom_78 : decode cX4_endFrom 78 = .ok (.bipush (-3), 2) := by decide +kernel
theorem dX4_endFrom_80 : decode cX4_endFrom 80 = .ok (.iastore, 1) := by decide +kernel
theorem dX4_endFrom_81 : decode cX4_endFrom 81 = .ok (.iload 4, 2) := by decide +kernel
theorem dX4_endFrom_83 : decode cX4_endFrom 83 = .ok (.istore_n 2, 1) := by decide +kernel
theorem dX4_endFrom_84 : decode cX4_endFrom 84 = .ok (.iinc 3 1, 3) := by decide +kernel
theorem dX4_endFrom_87 : decode cX4_endFrom 87 = .ok (.goto (-62), 3) := by decide +kernel
theorem dX4_endFrom_90 : decode cX4_endFrom 90 = .ok (.aload_n 0, 1) := by decide +kernel
theorem dX4_endFrom_91 : decode cX4_endFrom 91 = .ok (.iload_n 1, 1) := by decide +kernel
theorem dX4_endFrom_92 : decode cX4_endFrom 92 = .ok (.aload_n 0, 1) := by decide +kernel
theorem dX4_endFrom_93 : decode cX4_endFrom 93 = .ok (.getfield 9, 3) := by decide +kernel
theorem dX4_endFrom_96 : decode cX4_endFrom 96 = .ok (.iload_n 2, 1) := by decide +kernel
theorem dX4_endFrom_97 : decode cX4_endFrom 97 = .ok (.iaload, 1) := by decide +kernel
theorem dX4_endFrom_98 : decode cX4_endFrom 98 = .ok (.bipush (-3), 2) := by decide +kernel
theorem dX4_endFrom_100 : decode cX4_endFrom 100 = .ok (.if_icmp .ne 7, 3) := by decide +kernel
theorem dX4_endFrom_103 : decode cX4_endFrom 103 = .ok (.iconst (-1), 1) := by decide +kernel
theorem dX4_endFrom_104 : decode cX4_endFrom 104 = .ok (.goto 9, 3) := by decide +kernel
theorem dX4_endFrom_107 : decode cX4_endFrom 107 = .ok (.aload_n 0, 1) := by decide +kernel
theorem dX4_endFrom_108 : decode cX4_endFrom 108 = .ok (.getfield 9, 3) := by decide +kernel
theorem dX4_endFrom_111 : decode cX4_endFrom 111 = .ok (.iload_n 2, 1) := by decide +kernel
theorem dX4_endFrom_112 : decode cX4_endFrom 112 = .ok (.iaload, 1) := by decide +kernel
theorem dX4_endFrom_113 : decode cX4_endFrom 113 = .ok (.invokevirtual 41, 3) := by decide +kernel
theorem dX4_endFrom_116 : decode cX4_endFrom 116 = .ok (.aload_n 0, 1) := by decide +kernel
theorem dX4_endFrom_117 : decode cX4_endFrom 117 = .ok (.getfield 9, 3) := by decide +kernel
theorem dX4_endFrom_120 : decode cX4_endFrom 120 = .ok (.iload_n 1, 1) := by decide +kernel
theorem dX4_endFrom_121 : decode cX4_endFrom 121 = .ok (.iaload, 1) := by decide +kernel
theorem dX4_endFrom_122 : decode cX4_endFrom 122 = .ok (.ireturn, 1) := by decide +kernel
theorem dX4_endAt_0 : decode cX4_endAt 0 = .ok (.aload_n 0, 1) := by decide +kernel
theorem dX4_endAt_1 : decode cX4_endAt 1 = .ok (.getfield 19, 3) := by decide +kernel
theorem dX4_endAt_4 : decode cX4_endAt 4 = .ok (.iload_n 1, 1) := by decide +kernel
theorem dX4_endAt_5 : decode cX4_endAt 5 = .ok (.invokevirtual 45, 3) := by decide +kernel
theorem dX4_endAt_8 : decode cX4_endAt 8 = .ok (.ifCond .eq 14, 3) := by decide +kernel
theorem dX4_endAt_11 : decode cX4_endAt 11 = .ok (.sipush 1000, 3) := by decide +kernel
theorem dX4_endAt_14 : decode cX4_endAt 14 = .ok (.iload_n 1, 1) := by decide +kernel
theorem dX4_endAt_15 : decode cX4_endAt 15 = .ok (.invokestatic 49, 3) := by decide +kernel
theorem dX4_endAt_18 : decode cX4_endAt 18 = .ok (.iadd, 1) := by decide +kernel
theorem dX4_endAt_19 : decode cX4_endAt 19 = .ok (.goto 7, 3) := by decide +kernel
theorem dX4_endAt_22 : decode cX4_endAt 22 = .ok (.iload_n 1, 1) := by decide +kernel
theorem dX4_endAt_23 : decode cX4_endAt 23 = .ok (.invokestatic 52, 3) := by decide +kernel
theorem dX4_endAt_26 : decode cX4_endAt 26 = .ok (.ireturn, 1) := by decide +kernel
theorem dX4_settle_0 : decode cX4_settle 0 = .ok (.iload_n 1, 1) := by decide +kernel
theorem dX4_settle_1 : decode cX4_settle 1 = .ok (.istore_n 3, 1) := by decide +kernel
theorem dX4_settle_2 : decode cX4_settle 2 = .ok (.iconst 0, 1) := by decide +kernel
theorem dX4_settle_3 : decode cX4_settle 3 = .ok (.istore 4, 2) := by decide +kernel
theorem dX4_settle_5 : decode cX4_settle 5 = .ok (.iload 4, 2) := by decide +kernel
theorem dX4_settle_7 : decode cX4_settle 7 = .ok (.sipush 6656, 3) := by decide +kernel
theorem dX4_settle_10 : decode cX4_settle 10 = .ok (.if_icmp .ge 41, 3) := by decide +kernel
theorem dX4_settle_13 : decode cX4_settle 13 = .ok (.iload_n 3, 1) := by decide +kernel
theorem dX4_settle_14 : decode cX4_settle 14 = .ok (.iconst (-1), 1) := by decide +kernel
theorem dX4_settle_15 : decode cX4_settle 15 = .ok (.if_icmp .eq 36, 3) := by decide +kernel
theorem dX4_settle_18 : decode cX4_settle 18 = .ok (.aload_n 0, 1) := by decide +kernel
theorem dX4_settle_19 : decode cX4_settle 19 = .ok (.getfield 9, 3) := by decide +kernel
theorem dX4_settle_22 : decode cX4_settle 22 = .ok (.iload_n 3, 1) := by decide +kernel
theorem dX4_settle_23 : decode cX4_settle 23 = .ok (.iaload, 1) := by decide +kernel
theorem dX4_settle_24 : decode cX4_settle 24 = .ok (.bipush (-3), 2) := by decide +kernel
theorem dX4_settle_26 : decode cX4_settle 26 = .ok (.if_icmp .ne 25, 3) := by decide +kernel
theorem dX4_settle_29 : decode cX4_settle 29 = .ok (.aload_n 0, 1) := by decide +kernel
theorem dX4_settle_30 : decode cX4_settle 30 = .ok (.getfield 9, 3) := by decide +kernel
theorem dX4_settle_33 : decode cX4_settle 33 = .ok (.iload_n 3, 1) := by decide +kernel
theorem dX4_settle_34 : decode cX4_settle 34 = .ok (.iload_n 2, 1) := by decide +kernel
theorem dX4_settle_35 : decode cX4_settle 35 = .ok (.iastore, 1) := by decide +kernel
theorem dX4_settle_36 : decode cX4_settle 36 = .ok (.aload_n 0, 1) := by decide +kernel
theorem dX4_settle_37 : decode cX4_settle 37 = .ok (.getfield 19, 3) := by decide +kernel
theorem dX4_settle_40 : decode cX4_settle 40 = .ok (.iload_n 3, 1) := by decide +kernel
theorem dX4_settle_41 : decode cX4_settle 41 = .ok (.invokevirtual 33, 3) := by decide +kernel
theorem dX4_settle_44 : decode cX4_settle 44 = .ok (.istore_n 3, 1) := by decide +kernel
theorem dX4_settle_45 : decode cX4_settle 45 = .ok (.iinc 4 1, 3) := by decide +kernel
theorem dX4_settle_48 : decode cX4_settle 48 = .ok (.goto (-43), 3) := by decide +kernel
theorem dX4_settle_51 : decode cX4_settle 51 = .ok (.return_, 1) := by decide +kernel
theorem dX4_lengthFrom_0 : decode cX4_lengthFrom 0 = .ok (.aload_n 0, 1) := by decide +kernel
theorem dX4_lengthFrom_1 : decode cX4_lengthFrom 1 = .ok (.iload_n 1, 1) := by decide +kernel
theorem dX4_lengthFrom_2 : decode cX4_lengthFrom 2 = .ok (.invokevirtual 23, 3) := by decide +kernel
theorem dX4_lengthFrom_5 : decode cX4_lengthFrom 5 = .ok (.iconst (-1), 1) := by decide +kernel
theorem dX4_lengthFrom_6 : decode cX4_lengthFrom 6 = .ok (.if_icmp .ne 5, 3) := by decide +kernel
theorem dX4_lengthFrom_9 : decode cX4_lengthFrom 9 = .ok (.iconst (-1), 1) := by decide +kernel
theorem dX4_lengthFrom_10 : decode cX4_lengthFrom 10 = .ok (.ireturn, 1) := by decide +kernel
theorem dX4_lengthFrom_11 : decode cX4_lengthFrom 11 = .ok (.iconst 0, 1) := by decide +kernel
theorem dX4_lengthFrom_12 : decode cX4_lengthFrom 12 = .ok (.istore_n 2, 1) := by decide +kernel
theorem dX4_lengthFrom_13 : decode cX4_lengthFrom 13 = .ok (.iload_n 1, 1) := by decide +kernel
theorem dX4_lengthFrom_14 : decode cX4_lengthFrom 14 = .ok (.istore_n 3, 1) := by decide +kernel
theorem dX4_lengthFrom_15 : decode cX4_lengthFrom 15 = .ok (.iconst 0, 1) := by decide +kernel
theorem dX4_lengthFrom_16 : decode cX4_lengthFrom 16 = .ok (.istore 4, 2) := by decide +kernel
theorem dX4_lengthFrom_18 : decode cX4_lengthFrom 18 = .ok (.iload 4, 2) := by decide +kernel
theorem dX4_lengthFrom_20 : decode cX4_lengthFrom 20 = .ok (.sipush 6656, 3) := by decide +kernel
theorem dX4_lengthFrom_23 : decode cX4_lengthFrom 23 = .ok (.if_icmp .ge 37, 3) := by decide +kernel
theorem dX4_lengthFrom_26 : decode cX4_lengthFrom 26 = .ok (.iload_n 3, 1) := by decide +kernel
theorem dX4_lengthFrom_27 : decode cX4_lengthFrom 27 = .ok (.iconst (-1), 1) := by decide +kernel
theorem dX4_lengthFrom_28 : decode cX4_lengthFrom 28 = .ok (.if_icmp .eq 32, 3) := by decide +kernel
theorem dX4_lengthFrom_31 : decode cX4_lengthFrom 31 = .ok (.aload_n 0, 1) := by decide +kernel
theorem dX4_lengthFrom_32 : decode cX4_lengthFrom 32 = .ok (.getfield 19, 3) := by decide +kernel
theorem dX4_lengthFrom_35 : decode cX4_lengthFrom 35 = .ok (.iload_n 3, 1) := by decide +kernel
theorem dX4_lengthFrom_36 : decode cX4_lengthFrom 36 = .ok (.invokevirtual 45, 3) := by decide +kernel
theorem dX4_lengthFrom_39 : decode cX4_lengthFrom 39 = .ok (.ifCond .ne 21, 3) := by decide +kernel
theorem dX4_lengthFrom_42 : decode cX4_lengthFrom 42 = .ok (.iinc 2 1, 3) := by decide +kernel
theorem dX4_lengthFrom_45 : decode cX4_lengthFrom 45 = .ok (.aload_n 0, 1) := by decide +kernel
theorem dX4_lengthFrom_46 : decode cX4_lengthFrom 46 = .ok (.getfield 19, 3) := by decide +kernel
theorem dX4_lengthFrom_49 : decode cX4_lengthFrom 49 = .ok (.iload_n 3, 1) := by decide +kernel
theorem dX4_lengthFrom_50 : decode cX4_lengthFrom 50 = .ok (.invokevirtual 33, 3) := by decide +kernel
theorem dX4_lengthFrom_53 : decode cX4_lengthFrom 53 = .ok (.istore_n 3, 1) := by decide +kernel
theorem dX4_lengthFrom_54 : decode cX4_lengthFrom 54 = .ok (.iinc 4 1, 3) := by decide +kernel
theorem dX4_lengthFrom_57 : decode cX4_lengthFrom 57 = .ok (.goto (-39), 3) := by decide +kernel
theorem dX4_lengthFrom_60 : decode cX4_lengthFrom 60 = .ok (.iload_n 2, 1) := by decide +kernel
theorem dX4_lengthFrom_61 : decode cX4_lengthFrom 61 = .ok (.ireturn, 1) := by decide +kernel
theorem dX5_init_0 : decode cX5_init 0 = .ok (.aload_n 0, 1) := by decide +kernel
theorem dX5_init_1 : decode cX5_init 1 = .ok (.invokespecial 3, 3) := by decide +kernel
theorem dX5_init_4 : decode cX5_init 4 = .ok (.aload_n 0, 1) := by decide +kernel
theorem dX5_init_5 : decode cX5_init 5 = .ok (.bipush 60, 2) := by decide +kernel
theorem dX5_init_7 : decode cX5_init 7 = .ok (.newarray .char, 2) := by decide +kernel
theorem dX5_init_9 : decode cX5_init 9 = .ok (.putfield 9, 3) := by decide +kernel
theorem dX5_init_12 : decode cX5_init 12 = .ok (.aload_n 0, 1) := by decide +kernel
theorem dX5_init_13 : decode cX5_init 13 = .ok (.new 15, 3) := by decide +kernel
theorem dX5_init_16 : decode cX5_init 16 = .ok (.dup, 1) := by decide +kernel
theorem dX5_init_17 : decode cX5_init 17 = .ok (.invokespecial 17, 3) := by decide +kernel
theorem dX5_init_20 : decode cX5_init 20 = .ok (.putfield 18, 3) := by decide +kernel
theorem dX5_init_23 : decode cX5_init 23 = .ok (.return_, 1) := by decide +kernel
theorem dX5_put_0 : decode cX5_put 0 = .ok (.aload_n 0, 1) := by decide +kernel
theorem dX5_put_1 : decode cX5_put 1 = .ok (.getfield 22, 3) := by decide +kernel
theorem dX5_put_4 : decode cX5_put 4 = .ok (.bipush 60, 2) := by decide +kernel
theorem dX5_put_6 : decode cX5_put 6 = .ok (.if_icmp .ge 23, 3) := by decide +kernel
theorem dX5_put_9 : decode cX5_put 9 = .ok (.aload_n 0, 1) := by decide +kernel
theorem dX5_put_10 : decode cX5_put 10 = .ok (.getfield 9, 3) := by decide +kernel
theorem dX5_put_13 : decode cX5_put 13 = .ok (.aload_n 0, 1) := by decide +kernel
theorem dX5_put_14 : decode cX5_put 14 = .ok (.getfield 22, 3) := by decide +kernel
theorem dX5_put_17 : decode cX5_put 17 = .ok (.iload_n 1, 1) := by decide +kernel
theorem dX5_put_18 : decode cX5_put 18 = .ok (.castore, 1) := by decide +kernel
theorem dX5_put_19 : decode cX5_put 19 = .ok (.aload_n 0, 1) := by decide +kernel
theorem dX5_put_20 : decode cX5_put 20 = .ok (.dup, 1) := by decide +kernel
theorem dX5_put_21 : decode cX5_put 21 = .ok (.getfield 22, 3) := by decide +kernel
theorem dX5_put_24 : decode cX5_put 24 = .ok (.iconst 1, 1) := by decide +kernel
theorem dX5_put_25 : decode cX5_put 25 = .ok (.iadd, 1) := by decide +kernel
theorem dX5_put_26 : decode cX5_put 26 = .ok (.putfield 22, 3) := by decide +kernel
theorem dX5_put_29 : decode cX5_put 29 = .ok (.return_, 1) := by decide +kernel
theorem dX5_clear_0 : decode cX5_clear 0 = .ok (.aload_n 0, 1) := by decide +kernel
theorem dX5_clear_1 : decode cX5_clear 1 = .ok (.iconst 0, 1) := by decide +kernel
theorem dX5_clear_2 : decode cX5_clear 2 = .ok (.putfield 22, 3) := by decide +kernel
theorem dX5_clear_5 : decode cX5_clear 5 = .ok (.return_, 1) := by decide +kernel
theorem dX5_readAll_0 : decode cX5_readAll 0 = .ok (.aload_n 0, 1) := by decide +kernel
theorem dX5_readAll_1 : decode cX5_readAll 1 = .ok (.iconst 0, 1) := by decide +kernel
theorem dX5_readAll_2 : decode cX5_readAll 2 = .ok (.putfield 26, 3) := by decide +kernel
theorem dX5_readAll_5 : decode cX5_readAll 5 = .ok (.aload_n 0, 1) := by decide +kernel
theorem dX5_readAll_6 : decode cX5_readAll 6 = .ok (.getfield 18, 3) := by decide +kernel
theorem dX5_readAll_9 : decode cX5_readAll 9 = .ok (.invokevirtual 29, 3) := by decide +kernel
theorem dX5_readAll_12 : decode cX5_readAll 12 = .ok (.iconst 1, 1) := by decide +kernel
theorem dX5_readAll_13 : decode cX5_readAll 13 = .ok (.istore_n 1, 1) := by decide +kernel
theorem dX5_readAll_14 : decode cX5_readAll 14 = .ok (.iload_n 1, 1) := by decide +kernel
theorem dX5_readAll_15 : decode cX5_readAll 15 = .ok (.bipush 12, 2) := by decide +kernel
theorem dX5_readAll_17 : decode cX5_readAll 17 = .ok (.if_icmp .gt 48, 3) := by decide +kernel
theorem dX5_readAll_20 : decode cX5_readAll 20 = .ok (.aload_n 0, 1) := by decide +kernel
theorem dX5_readAll_21 : decode cX5_readAll 21 = .ok (.invokevirtual 32, 3) := by decide +kernel
theorem dX5_readAll_24 : decode cX5_readAll 24 = .ok (.ifCond .ne 5, 3) := by decide +kernel
theorem dX5_readAll_27 : decode cX5_readAll 27 = .ok (.iconst 0, 1) := by decide +kernel
theorem dX5_readAll_28 : decode cX5_readAll 28 = .ok (.ireturn, 1) := by decide +kernel
theorem dX5_readAll_29 : decode cX5_readAll 29 = .ok (.aload_n 0, 1) := by decide +kernel
theorem dX5_readAll_30 : decode cX5_readAll 30 = .ok (.getfield 26, 3) := by decide +kernel
theorem dX5_readAll_33 : decode cX5_readAll 33 = .ok (.aload_n 0, 1) := by decide +kernel
theorem dX5_readAll_34 : decode cX5_readAll 34 = .ok (.getfield 22, 3) := by decide +kernel
theorem dX5_readAll_37 : decode cX5_readAll 37 = .ok (.if_icmp .ne 5, 3) := by decide +kernel
theorem dX5_readAll_40 : decode cX5_readAll 40 = .ok (.iconst 1, 1) := by decide +kernel
theorem dX5_readAll_41 : decode cX5_readAll 41 = .ok (.ireturn, 1) := by decide +kernel
theorem dX5_readAll_42 : decode cX5_readAll 42 = .ok (.iload_n 1, 1) := by decide +kernel
theorem dX5_readAll_43 : decode cX5_readAll 43 = .ok (.bipush 12, 2) := by decide +kernel
theorem dX5_readAll_45 : decode cX5_readAll 45 = .ok (.if_icmp .eq 12, 3) := by decide +kernel
theorem dX5_readAll_48 : decode cX5_readAll 48 = .ok (.aload_n 0, 1) := by decide +kernel
theorem dX5_readAll_49 : decode cX5_readAll 49 = .ok (.bipush 59, 2) := by decide +kernel
theorem dX5_readAll_51 : decode cX5_readAll 51 = .ok (.invokevirtual 36, 3) := by decide +kernel
theorem dX5_readAll_54 : decode cX5_readAll 54 = .ok (.ifCond .ne 5, 3) := by decide +kernel
theorem dX5_readAll_57 : decode cX5_readAll 57 = .ok (.iconst 0, 1) := by decide +kernel
theorem dX5_readAll_58 : decode cX5_readAll 58 = .ok (.ireturn, 1) := by decide +kernel
theorem dX5_readAll_59 : decode cX5_readAll 59 = .ok (.iinc 1 1, 3) := by decide +kernel
theorem dX5_readAll_62 : decode cX5_readAll 62 = .ok (.goto (-48), 3) := by decide +kernel
theorem dX5_readAll_65 : decode cX5_readAll 65 = .ok (.iconst 0, 1) := by decide +kernel
theorem dX5_readAll_66 : decode cX5_readAll 66 = .ok (.ireturn, 1) := by decide +kernel
theorem dX5_takeStatement_0 : decode cX5_takeStatement 0 = .ok (.aload_n 0, 1) := by decide +kernel
theorem dX5_takeStatement_1 : decode cX5_takeStatement 1 = .ok (.iconst 0, 1) := by decide +kernel
theorem dX5_takeStatement_2 : decode cX5_takeStatement 2 = .ok (.putfield 40, 3) := by decide +kernel
theorem dX5_takeStatement_5 : decode cX5_takeStatement 5 = .ok (.aload_n 0, 1) := by decide +kernel
theorem dX5_takeStatement_6 : decode cX5_takeStatement 6 = .ok (.iconst 0, 1) := by decide +kernel
theorem dX5_takeStatement_7 : decode cX5_takeStatement 7 = .ok (.putfield 43, 3) := by decide +kernel
theorem dX5_takeStatement_10 : decode cX5_takeStatement 10 = .ok (.aload_n 0, 1) := by decide +kernel
theorem dX5_takeStatement_11 : decode cX5_takeStatement 11 = .ok (.iconst (-1), 1) := by decide +kernel
theorem dX5_takeStatement_12 : decode cX5_takeStatement 12 = .ok (.putfield 46, 3) := by decide +kernel
theorem dX5_takeStatement_15 : decode cX5_takeStatement 15 = .ok (.aload_n 0, 1) := by decide +kernel
theorem dX5_takeStatement_16 : decode cX5_takeStatement 16 = .ok (.bipush 33, 2) := by decide +kernel
theorem dX5_takeStatement_18 : decode cX5_takeStatement 18 = .ok (.invokevirtual 36, 3) := by decide +kernel
theorem dX5_takeStatement_21 : decode cX5_takeStatement 21 = .ok (.ifCond .eq 24, 3) := by decide +kernel
theorem dX5_takeStatement_24 : decode cX5_takeStatement 24 = .ok (.aload_n 0, 1) := by decide +kernel
theorem dX5_takeStatement_25 : decode cX5_takeStatement 25 = .ok (.invokevirtual 49, 3) := by decide +kernel
theorem dX5_takeStatement_28 : decode cX5_takeStatement 28 = .ok (.ifCond .eq 15, 3) := by decide +kernel
theorem dX5_takeStatement_31 : decode cX5_takeStatement 31 = .ok (.aload_n 0, 1) := by decide +kernel
theorem dX5_takeStatement_32 : decode cX5_takeStatement 32 = .ok (.iconst 1, 1) := by decide +kernel
theorem dX5_takeStatement_33 : decode cX5_takeStatement 33 = .ok (.invokevirtual 52, 3) := by decide +kernel
theorem dX5_takeStatement_36 : decode cX5_takeStatement 36 = .ok (.ifCond .eq 7, 3) := by decide +kernel
theorem dX5_takeStatement_39 : decode cX5_takeStatement 39 = .ok (.iconst 1, 1) := by decide +kernel
theorem dX5_takeStatement_40 : decode cX5_takeStatement 40 = .ok (.goto 4, 3) := by decide +kernel
theorem dX5_takeStatement_43 : decode cX5_takeStatement 43 = .ok (.iconst 0, 1) := by decide +kernel
theorem dX5_takeStatement_44 : decode cX5_takeStatement 44 = .ok (.ireturn, 1) := by decide +kernel
theorem dX5_takeStatement_45 : decode cX5_takeStatement 45 = .ok (.aload_n 0, 1) := by decide +kernel
theorem dX5_takeStatement_46 : decode cX5_takeStatement 46 = .ok (.bipush 63, 2) := by decide +kernel
theorem dX5_takeStatement_48 : decode cX5_takeStatement 48 = .ok (.invokevirtual 36, 3) := by decide +kernel
theorem dX5_takeStatement_51 : decode cX5_takeStatement 51 = .ok (.ifCond .eq 40, 3) := by decide +kernel
theorem dX5_takeStatement_54 : decode cX5_takeStatement 54 = .ok (.aload_n 0, 1) := by decide +kernel
theorem dX5_takeStatement_55 : decode cX5_takeStatement 55 = .ok (.invokevirtual 49, 3) := by decide +kernel
theorem dX5_takeStatement_58 : decode cX5_takeStatement 58 = .ok (.ifCond .eq 31, 3) := by decide +kernel
theorem dX5_takeStatement_61 : decode cX5_takeStatement 61 = .ok (.aload_n 0, 1) := by decide +kernel
theorem dX5_takeStatement_62 : decode cX5_takeStatement 62 = .ok (.bipush 64, 2) := by decide +kernel
theorem dX5_takeStatement_64 : decode cX5_takeStatement 64 = .ok (.invokevirtual 36, 3) := by decide +kernel
theorem dX5_takeStatement_67 : decode cX5_takeStatement 67 = .ok (.ifCond .eq 22, 3) := by decide +kernel
theorem dX5_takeStatement_70 : decode cX5_takeStatement 70 = .ok (.aload_n 0, 1) := by decide +kernel
theorem dX5_takeStatement_71 : decode cX5_takeStatement 71 = .ok (.invokevirtual 56, 3) := by decide +kernel
theorem dX5_takeStatement_74 : decode cX5_takeStatement 74 = .ok (.ifCond .eq 15, 3) := by decide +kernel
theorem dX5_takeStatement_77 : decode cX5_takeStatement 77 = .ok (.aload_n 0, 1) := by decide +kernel
theorem dX5_takeStatement_78 : decode cX5_takeStatement 78 = .ok (.iconst 2, 1) := by decide +kernel
theorem dX5_takeStatement_79 : decode cX5_takeStatement 79 = .ok (.invokevirtual 52, 3) := by decide +kernel
theorem dX5_takeStatement_82 : decode cX5_takeStatement 82 = .ok (.ifCond .eq 7, 3) := by decide +kernel
theorem dX5_takeStatement_85 : decode cX5_takeStatement 85 = .ok (.iconst 1, 1) := by decide +kernel
theorem dX5_takeStatement_86 : decode cX5_takeStatement 86 = .ok (.goto 4, 3) := by decide +kernel
theorem dX5_takeStatement_89 : decode cX5_takeStatement 89 = .ok (.iconst 0, 1) := by decide +kernel
theorem dX5_takeStatement_90 : decode cX5_takeStatement 90 = .ok (.ireturn, 1) := by decide +kernel
theorem dX5_takeStatement_91 : decode cX5_takeStatement 91 = .ok (.aload_n 0, 1) := by decide +kernel
theorem dX5_takeStatement_92 : decode cX5_takeStatement 92 = .ok (.invokevirtual 59, 3) := by decide +kernel
theorem dX5_takeStatement_95 : decode cX5_takeStatement 95 = .ok (.ifCond .eq 38, 3) := by decide +kernel
theorem dX5_takeStatement_98 : decode cX5_takeStatement 98 = .ok (.aload_n 0, 1) := by decide +kernel
theorem dX5_takeStatement_99 : decode cX5_takeStatement 99 = .ok (.bipush 58, 2) := by decide +kernel
theorem dX5_takeStatement_101 : decode cX5_takeStatement 101 = .ok (.invokevirtual 36, 3) := by decide +kernel
theorem dX5_takeStatement_104 : decode cX5_takeStatement 104 = .ok (.ifCond .eq 29, 3) := by decide +kernel
theorem dX5_takeStatement_107 : decode cX5_takeStatement 107 = .ok (.aload_n 0, 1) := by decide +kernel
theorem dX5_takeStatement_108 : decode cX5_takeStatement 108 = .ok (.invokevirtual 62, 3) := by decide +kernel
theorem dX5_takeStatement_111 : decode cX5_takeStatement 111 = .ok (.ifCond .eq 22, 3) := by decide +kernel
theorem dX5_takeStatement_114 : decode cX5_takeStatement 114 = .ok (.aload_n 0, 1) := by decide +kernel
theorem dX5_takeStatement_115 : decode cX5_takeStatement 115 = .ok (.invokevirtual 65, 3) := by decide +kernel
theorem dX5_takeStatement_118 : decode cX5_takeStatement 118 = .ok (.ifCond .eq 15, 3) := by decide +kernel
theorem dX5_takeStatement_121 : decode cX5_takeStatement 121 = .ok (.aload_n 0, 1) := by decide +kernel
theorem dX5_takeStatement_122 : decode cX5_takeStatement 122 = .ok (.iconst 0, 1) := by decide +kernel
theorem dX5_takeStatement_123 : decode cX5_takeStatement 123 = .ok (.invokevirtual 52, 3) := by decide +kernel
theorem dX5_takeStatement_126 : decode cX5_takeStatement 126 = .ok (.ifCond .eq 7, 3) := by decide +kernel
theorem dX5_takeStatement_129 : decode cX5_takeStatement 129 = .ok (.iconst 1, 1) := by decide +kernel
theorem dX5_takeStatement_130 : decode cX5_takeStatement 130 = .ok (.goto 4, 3) := by decide +kernel
theorem dX5_takeStatement_133 : decode cX5_takeStatement 133 = .ok (.iconst 0, 1) := by decide +kernel
theorem dX5_takeStatement_134 : decode cX5_takeStatement 134 = .ok (.ireturn, 1) := by decide +kernel
theorem dX5_keep_0 : decode cX5_keep 0 = .ok (.aload_n 0, 1) := by decide +kernel
theorem dX5_keep_1 : decode cX5_keep 1 = .ok (.getfield 18, 3) := by decide +kernel
theorem dX5_keep_4 : decode cX5_keep 4 = .ok (.iload_n 1, 1) := by decide +kernel
theorem dX5_keep_5 : decode cX5_keep 5 = .ok (.aload_n 0, 1) := by decide +kernel
theorem dX5_keep_6 : decode cX5_keep 6 = .ok (.getfield 68, 3) := by decide +kernel
theorem dX5_keep_9 : decode cX5_keep 9 = .ok (.aload_n 0, 1) := by decide +kernel
theorem dX5_keep_10 : decode cX5_keep 10 = .ok (.getfield 40, 3) := by decide +kernel
theorem dX5_keep_13 : decode cX5_keep 13 = .ok (.aload_n 0, 1) := by decide +kernel
theorem dX5_keep_14 : decode cX5_keep 14 = .ok (.getfield 71, 3) := by decide +kernel
theorem dX5_keep_17 : decode cX5_keep 17 = .ok (.aload_n 0, 1) := by decide +kernel
theorem dX5_keep_18 : decode cX5_keep 18 = .ok (.getfield 43, 3) := by decide +kernel
theorem dX5_keep_21 : decode cX5_keep 21 = .ok (.aload_n 0, 1) := by decide +kernel
theorem dX5_keep_22 : decode cX5_keep 22 = .ok (.getfield 46, 3) := by decide +kernel
theorem dX5_keep_25 : decode cX5_keep 25 = .ok (.invokevirtual 74, 3) := by decide +kernel
theorem dX5_keep_28 : decode cX5_keep 28 = .ok (.iconst 1, 1) := by decide +kernel
theorem dX5_keep_29 : decode cX5_keep 29 = .ok (.ireturn, 1) := by decide +kernel
theorem dX5_takeTest_0 : decode cX5_takeTest 0 = .ok (.aload_n 0, 1) := by decide +kernel
theorem dX5_takeTest_1 : decode cX5_takeTest 1 = .ok (.invokevirtual 59, 3) := by decide +kernel
theorem dX5_takeTest_4 : decode cX5_takeTest 4 = .ok (.ifCond .eq 21, 3) := by decide +kernel
theorem dX5_takeTest_7 : decode cX5_takeTest 7 = .ok (.aload_n 0, 1) := by decide +kernel
theorem dX5_takeTest_8 : decode cX5_takeTest 8 = .ok (.invokevirtual 78, 3) := by decide +kernel
theorem dX5_takeTest_11 : decode cX5_takeTest 11 = .ok (.ifCond .eq 14, 3) := by decide +kernel
theorem dX5_takeTest_14 : decode cX5_takeTest 14 = .ok (.aload_n 0, 1) := by decide +kernel
theorem dX5_takeTest_15 : decode cX5_takeTest 15 = .ok (.invokevirtual 62, 3) := by decide +kernel
theorem dX5_takeTest_18 : decode cX5_takeTest 18 = .ok (.ifCond .eq 7, 3) := by decide +kernel
theorem dX5_takeTest_21 : decode cX5_takeTest 21 = .ok (.iconst 1, 1) := by decide +kernel
theorem dX5_takeTest_22 : decode cX5_takeTest 22 = .ok (.goto 4, 3) := by decide +kernel
theorem dX5_takeTest_25 : decode cX5_takeTest 25 = .ok (.iconst 0, 1) := by decide +kernel
theorem dX5_takeTest_26 : decode cX5_takeTest 26 = .ok (.ireturn, 1) := by decide +kernel
theorem dX5_takeVariable_0 : decode cX5_takeVariable 0 = .ok (.ldc 81, 2) := by decide +kernel
theorem dX5_takeVariable_2 : decode cX5_takeVariable 2 = .ok (.aload_n 0, 1) := by decide +kernel
theorem dX5_takeVariable_3 : decode cX5_takeVariable 3 = .ok (.invokevirtual 83, 3) := by decide +kernel
theorem dX5_takeVariable_6 : decode cX5_takeVariable 6 = .ok (.invokevirtual 87, 3) := by decide +kernel
theorem dX5_takeVariable_9 : decode cX5_takeVariable 9 = .ok (.istore_n 1, 1) := by decide +kernel
theorem dX5_takeVariable_10 : decode cX5_takeVariable 10 = .ok (.iload_n 1, 1) := by decide +kernel
theorem dX5_takeVariable_11 : decode cX5_takeVariable 11 = .ok (.ifCond .ge 5, 3) := by decide +kernel
theorem dX5_takeVariable_14 : decode cX5_takeVariable 14 = .ok (.iconst 0, 1) := by decide +kernel
theorem dX5_takeVariable_15 : decode cX5_takeVariable 15 = .ok (.ireturn, 1) := by decide +kernel
theorem dX5_takeVariable_16 : decode cX5_takeVariable 16 = .ok (.aload_n 0, 1) := by decide +kernel
theorem dX5_takeVariable_17 : decode cX5_takeVariable 17 = .ok (.iload_n 1, 1) := by decide +kernel
theorem dX5_takeVariable_18 : decode cX5_takeVariable 18 = .ok (.putfield 68, 3) := by decide +kernel
theorem dX5_takeVariable_21 : decode cX5_takeVariable 21 = .ok (.aload_n 0, 1) := by decide +kernel
theorem dX5_takeVariable_22 : decode cX5_takeVariable 22 = .ok (.dup, 1) := by decide +kernel
theorem dX5_takeVariable_23 : decode cX5_takeVariable 23 = .ok (.getfield 26, 3) := by decide +kernel
theorem dX5_takeVariable_26 : decode cX5_takeVariable 26 = .ok (.iconst 1, 1) := by decide +kernel
theorem dX5_takeVariable_27 : decode cX5_takeVariable 27 = .ok (.iadd, 1) := by decide +kernel
theorem dX5_takeVariable_28 : decode cX5_takeVariable 28 = .ok (.putfield 26, 3) := by decide +kernel
theorem dX5_takeVariable_31 : decode cX5_takeVariable 31 = .ok (.iconst 1, 1) := by decide +kernel
theorem dX5_takeVariable_32 : decode cX5_takeVariable 32 = .ok (.ireturn, 1) := by decide +kernel
theorem dX5_takeSign_0 : decode cX5_takeSign 0 = .ok (.ldc 93, 2) := by decide +kernel
theorem dX5_takeSign_2 : decode cX5_takeSign 2 = .ok (.aload_n 0, 1) := by decide +kernel
theorem dX5_takeSign_3 : decode cX5_takeSign 3 = .ok (.invokevirtual 83, 3) := by decide +kernel
theorem dX5_takeSign_6 : decode cX5_takeSign 6 = .ok (.invokevirtual 87, 3) := by decide +kernel
theorem dX5_takeSign_9 : decode cX5_takeSign 9 = .ok (.istore_n 1, 1) := by decide +kernel
theorem dX5_takeSign_10 : decode cX5_takeSign 10 = .ok (.iload_n 1, 1) := by decide +kernel
theorem dX5_takeSign_11 : decode cX5_takeSign 11 = .ok (.ifCond .ge 5, 3) := by decide +kernel
theorem dX5_takeSign_14 : decode cX5_takeSign 14 = .ok (.iconst 0, 1) := by decide +kernel
theorem dX5_takeSign_15 : decode cX5_takeSign 15 = .ok (.ireturn, 1) := by decide +kernel
theorem dX5_takeSign_16 : decode cX5_takeSign 16 = .ok (.aload_n 0, 1) := by decide +kernel
theorem dX5_takeSign_17 : decode cX5_takeSign 17 = .ok (.iload_n 1, 1) := by decide +kernel
theorem dX5_takeSign_18 : decode cX5_takeSign 18 = .ok (.putfield 40, 3) := by decide +kernel
theorem dX5_takeSign_21 : decode cX5_takeSign 21 = .ok (.aload_n 0, 1) := by decide +kernel
theorem dX5_takeSign_22 : decode cX5_takeSign 22 = .ok (.dup, 1) := by decide +kernel
theorem dX5_takeSign_23 : decode cX5_takeSign 23 = .ok (.getfield 26, 3) := by decide +kernel
theorem dX5_takeSign_26 : decode cX5_takeSign 26 = .ok (.iconst 1, 1) := by decide +kernel
theorem dX5_takeSign_27 : decode cX5_takeSign 27 = .ok (.iadd, 1) := by decide +kernel
theorem dX5_takeSign_28 : decode cX5_takeSign 28 = .ok (.putfield 26, 3) := by decide +kernel
theorem dX5_takeSign_31 : decode cX5_takeSign 31 = .ok (.iconst 1, 1) := by decide +kernel
theorem dX5_takeSign_32 : decode cX5_takeSign 32 = .ok (.ireturn, 1) := by decide +kernel
theorem dX5_takeOperand_0 : decode cX5_takeOperand 0 = .ok (.ldc 81, 2) := by decide +kernel
theorem dX5_takeOperand_2 : decode cX5_takeOperand 2 = .ok (.aload_n 0, 1) := by decide +kernel
theorem dX5_takeOperand_3 : decode cX5_takeOperand 3 = .ok (.invokevirtual 83, 3) := by decide +kernel
theorem dX5_takeOperand_6 : decode cX5_takeOperand 6 = .ok (.invokevirtual 87, 3) := by decide +kernel
theorem dX5_takeOperand_9 : decode cX5_takeOperand 9 = .ok (.istore_n 1, 1) := by decide +kernel
theorem dX5_takeOperand_10 : decode cX5_takeOperand 10 = .ok (.iload_n 1, 1) := by decide +kernel
theorem dX5_takeOperand_11 : decode cX5_takeOperand 11 = .ok (.ifCond .ge 14, 3) := by decide +kernel
theorem dX5_takeOperand_14 : decode cX5_takeOperand 14 = .ok (.aload_n 0, 1) := by decide +kernel
theorem dX5_takeOperand_15 : decode cX5_takeOperand 15 = .ok (.bipush 55, 2) := by decide +kernel
theorem dX5_takeOperand_17 : decode cX5_takeOperand 17 = .ok (.invokevirtual 95, 3) := by decide +kernel
theorem dX5_takeOperand_20 : decode cX5_takeOperand 20 = .ok (.ifCond .ne 5, 3) := by decide +kernel
theorem dX5_takeOperand_23 : decode cX5_takeOperand 23 = .ok (.iconst 0, 1) := by decide +kernel
theorem dX5_takeOperand_24 : decode cX5_takeOperand 24 = .ok (.ireturn, 1) := by decide +kernel
theorem dX5_takeOperand_25 : decode cX5_takeOperand 25 = .ok (.aload_n 0, 1) := by decide +kernel
theorem dX5_takeOperand_26 : decode cX5_takeOperand 26 = .ok (.iload_n 1, 1) := by decide +kernel
theorem dX5_takeOperand_27 : decode cX5_takeOperand 27 = .ok (.ifCond .ge 13, 3) := by decide +kernel
theorem dX5_takeOperand_30 : decode cX5_takeOperand 30 = .ok (.aload_n 0, 1) := by decide +kernel
theorem dX5_takeOperand_31 : decode cX5_takeOperand 31 = .ok (.invokevirtual 83, 3) := by decide +kernel
theorem dX5_takeOperand_34 : decode cX5_takeOperand 34 = .ok (.bipush 48, 2) := by decide +kernel
theorem dX5_takeOperand_36 : decode cX5_takeOperand 36 = .ok (.isub, 1) := by decide +kernel
theorem dX5_takeOperand_37 : decode cX5_takeOperand 37 = .ok (.goto 7, 3) := by decide +kernel
theorem dX5_takeOperand_40 : decode cX5_takeOperand 40 = .ok (.bipush 8, 2) := by decide +kernel
theorem dX5_takeOperand_42 : decode cX5_takeOperand 42 = .ok (.iload_n 1, 1) := by decide +kernel
theorem dX5_takeOperand_43 : decode cX5_takeOperand 43 = .ok (.iadd, 1) := by decide +kernel
theorem dX5_takeOperand_44 : decode cX5_takeOperand 44 = .ok (.putfield 71, 3) := by decide +kernel
theorem dX5_takeOperand_47 : decode cX5_takeOperand 47 = .ok (.aload_n 0, 1) := by decide +kernel
theorem dX5_takeOperand_48 : decode cX5_takeOperand 48 = .ok (.dup, 1) := by decide +kernel
theorem dX5_takeOperand_49 : decode cX5_takeOperand 49 = .ok (.getfield 26, 3) := by decide +kernel
theorem dX5_takeOperand_52 : decode cX5_takeOperand 52 = .ok (.iconst 1, 1) := by decide +kernel
theorem dX5_takeOperand_53 : decode cX5_takeOperand 53 = .ok (.iadd, 1) := by decide +kernel
theorem dX5_takeOperand_54 : decode cX5_takeOperand 54 = .ok (.putfield 26, 3) := by decide +kernel
theorem dX5_takeOperand_57 : decode cX5_takeOperand 57 = .ok (.iconst 1, 1) := by decide +kernel
theorem dX5_takeOperand_58 : decode cX5_takeOperand 58 = .ok (.ireturn, 1) := by decide +kernel
theorem dX5_takeAddend_0 : decode cX5_takeAddend 0 = .ok (.aload_n 0, 1) := by decide +kernel
theorem dX5_takeAddend_1 : decode cX5_takeAddend 1 = .ok (.bipush 45, 2) := by decide +kernel
theorem dX5_takeAddend_3 : decode cX5_takeAddend 3 = .ok (.invokevirtual 36, 3) := by decide +kernel
theorem dX5_takeAddend_6 : decode cX5_takeAddend 6 = .ok (.istore_n 1, 1) := by decide +kernel
theorem dX5_takeAddend_7 : decode cX5_takeAddend 7 = .ok (.iload_n 1, 1) := by decide +kernel
theorem dX5_takeAddend_8 : decode cX5_takeAddend 8 = .ok (.ifCond .ne 14, 3) := by decide +kernel
theorem dX5_takeAddend_11 : decode cX5_takeAddend 11 = .ok (.aload_n 0, 1) := by decide +kernel
theorem dX5_takeAddend_12 : decode cX5_takeAddend 12 = .ok (.bipush 43, 2) := by decide +kernel
theorem dX5_takeAddend_14 : decode cX5_takeAddend 14 = .ok (.invokevirtual 36, 3) := by decide +kernel
theorem dX5_takeAddend_17 : decode cX5_takeAddend 17 = .ok (.ifCond .ne 5, 3) := by decide +kernel
theorem dX5_takeAddend_20 : decode cX5_takeAddend 20 = .ok (.iconst 1, 1) := by decide +kernel
theorem dX5_takeAddend_21 : decode cX5_takeAddend 21 = .ok (.ireturn, 1) := by decide +kernel
theorem dX5_takeAddend_22 : decode cX5_takeAddend 22 = .ok (.aload_n 0, 1) := by decide +kernel
theorem dX5_takeAddend_23 : decode cX5_takeAddend 23 = .ok (.bipush 55, 2) := by decide +kernel
theorem dX5_takeAddend_25 : decode cX5_takeAddend 25 = .ok (.invokevirtual 95, 3) := by decide +kernel
theorem dX5_takeAddend_28 : decode cX5_takeAddend 28 = .ok (.ifCond .ne 5, 3) := by decide +kernel
theorem dX5_takeAddend_31 : decode cX5_takeAddend 31 = .ok (.iconst 0, 1) := by decide +kernel
theorem dX5_takeAddend_32 : decode cX5_takeAddend 32 = .ok (.ireturn, 1) := by decide +kernel
theorem dX5_takeAddend_33 : decode cX5_takeAddend 33 = .ok (.aload_n 0, 1) := by decide +kernel
theorem dX5_takeAddend_34 : decode cX5_takeAddend 34 = .ok (.iload_n 1, 1) := by decide +kernel
theorem dX5_takeAddend_35 : decode cX5_takeAddend 35 = .ok (.ifCond .eq 13, 3) := by decide +kernel
theorem dX5_takeAddend_38 : decode cX5_takeAddend 38 = .ok (.bipush 48, 2) := by decide +kernel
theorem dX5_takeAddend_40 : decode cX5_takeAddend 40 = .ok (.aload_n 0, 1) := by decide +kernel
theorem dX5_takeAddend_41 : decode cX5_takeAddend 41 = .ok (.invokevirtual 83, 3) := by decide +kernel
theorem dX5_takeAddend_44 : decode cX5_takeAddend 44 = .ok (.isub, 1) := by decide +kernel
theorem dX5_takeAddend_45 : decode cX5_takeAddend 45 = .ok (.goto 10, 3) := by decide +kernel
theorem dX5_takeAddend_48 : decode cX5_takeAddend 48 = .ok (.aload_n 0, 1) := by decide +kernel
theorem dX5_takeAddend_49 : decode cX5_takeAddend 49 = .ok (.invokevirtual 83, 3) := by decide +kernel
theorem dX5_takeAddend_52 : decode cX5_takeAddend 52 = .ok (.bipush 48, 2) := by decide +kernel
theorem dX5_takeAddend_54 : decode cX5_takeAddend 54 = .ok (.isub, 1) := by decide +kernel
theorem dX5_takeAddend_55 : decode cX5_takeAddend 55 = .ok (.putfield 43, 3) := by decide +kernel
theorem dX5_takeAddend_58 : decode cX5_takeAddend 58 = .ok (.aload_n 0, 1) := by decide +kernel
theorem dX5_takeAddend_59 : decode cX5_takeAddend 59 = .ok (.dup, 1) := by decide +kernel
theorem dX5_takeAddend_60 : decode cX5_takeAddend 60 = .ok (.getfield 26, 3) := by decide +kernel
theorem dX5_takeAddend_63 : decode cX5_takeAddend 63 = .ok (.iconst 1, 1) := by decide +kernel
theorem dX5_takeAddend_64 : decode cX5_takeAddend 64 = .ok (.iadd, 1) := by decide +kernel
theorem dX5_takeAddend_65 : decode cX5_takeAddend 65 = .ok (.putfield 26, 3) := by decide +kernel
theorem dX5_takeAddend_68 : decode cX5_takeAddend 68 = .ok (.iconst 1, 1) := by decide +kernel
theorem dX5_takeAddend_69 : decode cX5_takeAddend 69 = .ok (.ireturn, 1) := by decide +kernel
theorem dX5_takeGoal_0 : decode cX5_takeGoal 0 = .ok (.aload_n 0, 1) := by decide +kernel
theorem dX5_takeGoal_1 : decode cX5_takeGoal 1 = .ok (.bipush 57, 2) := by decide +kernel
theorem dX5_takeGoal_3 : decode cX5_takeGoal 3 = .ok (.invokevirtual 95, 3) := by decide +kernel
theorem dX5_takeGoal_6 : decode cX5_takeGoal 6 = .ok (.ifCond .ne 5, 3) := by decide +kernel
theorem dX5_takeGoal_9 : decode cX5_takeGoal 9 = .ok (.iconst 0, 1) := by decide +kernel
theorem dX5_takeGoal_10 : decode cX5_takeGoal 10 = .ok (.ireturn, 1) := by decide +kernel
theorem dX5_takeGoal_11 : decode cX5_takeGoal 11 = .ok (.aload_n 0, 1) := by decide +kernel
theorem dX5_takeGoal_12 : decode cX5_takeGoal 12 = .ok (.aload_n 0, 1) := by decide +kernel
theorem dX5_takeGoal_13 : decode cX5_takeGoal 13 = .ok (.invokevirtual 83, 3) := by decide +kernel
theorem dX5_takeGoal_16 : decode cX5_takeGoal 16 = .ok (.bipush 48, 2) := by decide +kernel
theorem dX5_takeGoal_18 : decode cX5_takeGoal 18 = .ok (.isub, 1) := by decide +kernel
theorem dX5_takeGoal_19 : decode cX5_takeGoal 19 = .ok (.putfield 46, 3) := by decide +kernel
theorem dX5_takeGoal_22 : decode cX5_takeGoal 22 = .ok (.aload_n 0, 1) := by decide +kernel
theorem dX5_takeGoal_23 : decode cX5_takeGoal 23 = .ok (.dup, 1) := by decide +kernel
theorem dX5_takeGoal_24 : decode cX5_takeGoal 24 = .ok (.getfield 26, 3) := by decide +kernel
theorem dX5_takeGoal_27 : decode cX5_takeGoal 27 = .ok (.iconst 1, 1) := by decide +kernel
theorem dX5_takeGoal_28 : decode cX5_takeGoal 28 = .ok (.iadd, 1) := by decide +kernel
theorem dX5_takeGoal_29 : decode cX5_takeGoal 29 = .ok (.putfield 26, 3) := by decide +kernel
theorem dX5_takeGoal_32 : decode cX5_takeGoal 32 = .ok (.aload_n 0, 1) := by decide +kernel
theorem dX5_takeGoal_33 : decode cX5_takeGoal 33 = .ok (.getfield 46, 3) := by decide +kernel
theorem dX5_takeGoal_36 : decode cX5_takeGoal 36 = .ok (.iconst 1, 1) := by decide +kernel
theorem dX5_takeGoal_37 : decode cX5_takeGoal 37 = .ok (.if_icmp .ne 36, 3) := by decide +kernel
theorem dX5_takeGoal_40 : decode cX5_takeGoal 40 = .ok (.aload_n 0, 1) := by decide +kernel
theorem dX5_takeGoal_41 : decode cX5_takeGoal 41 = .ok (.bipush 50, 2) := by decide +kernel
theorem dX5_takeGoal_43 : decode cX5_takeGoal 43 = .ok (.invokevirtual 95, 3) := by decide +kernel
theorem dX5_takeGoal_46 : decode cX5_takeGoal 46 = .ok (.ifCond .eq 27, 3) := by decide +kernel
theorem dX5_takeGoal_49 : decode cX5_takeGoal 49 = .ok (.aload_n 0, 1) := by decide +kernel
theorem dX5_takeGoal_50 : decode cX5_takeGoal 50 = .ok (.bipush 10, 2) := by decide +kernel
theorem dX5_takeGoal_52 : decode cX5_takeGoal 52 = .ok (.aload_n 0, 1) := by decide +kernel
theorem dX5_takeGoal_53 : decode cX5_takeGoal 53 = .ok (.invokevirtual 83, 3) := by decide +kernel
theorem dX5_takeGoal_56 : decode cX5_takeGoal 56 = .ok (.iadd, 1) := by decide +kernel
theorem dX5_takeGoal_57 : decode cX5_takeGoal 57 = .ok (.bipush 48, 2) := by decide +kernel
theorem dX5_takeGoal_59 : decode cX5_takeGoal 59 = .ok (.isub, 1) := by decide +kernel
theorem dX5_takeGoal_60 : decode cX5_takeGoal 60 = .ok (.putfield 46, 3) := by decide +kernel
theorem dX5_takeGoal_63 : decode cX5_takeGoal 63 = .ok (.aload_n 0, 1) := by decide +kernel
theorem dX5_takeGoal_64 : decode cX5_takeGoal 64 = .ok (.dup, 1) := by decide +kernel
theorem dX5_takeGoal_65 : decode cX5_takeGoal 65 = .ok (.getfield 26, 3) := by decide +kernel
theorem dX5_takeGoal_68 : decode cX5_takeGoal 68 = .ok (.iconst 1, 1) := by decide +kernel
theorem dX5_takeGoal_69 : decode cX5_takeGoal 69 = .ok (.iadd, 1) := by decide +kernel
theorem dX5_takeGoal_70 : decode cX5_takeGoal 70 = .ok (.putfield 26, 3) := by decide +kernel
theorem dX5_takeGoal_73 : decode cX5_takeGoal 73 = .ok (.iconst 1, 1) := by decide +kernel
theorem dX5_takeGoal_74 : decode cX5_takeGoal 74 = .ok (.ireturn, 1) := by decide +kernel
theorem dX5_take_0 : decode cX5_take 0 = .ok (.aload_n 0, 1) := by decide +kernel
theorem dX5_take_1 : decode cX5_take 1 = .ok (.invokevirtual 83, 3) := by decide +kernel
theorem dX5_take_4 : decode cX5_take 4 = .ok (.iload_n 1, 1) := by decide +kernel
theorem dX5_take_5 : decode cX5_take 5 = .ok (.if_icmp .eq 5, 3) := by decide +kernel
theorem dX5_take_8 : decode cX5_take 8 = .ok (.iconst 0, 1) := by decide +kernel
theorem dX5_take_9 : decode cX5_take 9 = .ok (.ireturn, 1) := by decide +kernel
theorem dX5_take_10 : decode cX5_take 10 = .ok (.aload_n 0, 1) := by decide +kernel
theorem dX5_take_11 : decode cX5_take 11 = .ok (.dup, 1) := by decide +kernel
theorem dX5_take_12 : decode cX5_take 12 = .ok (.getfield 26, 3) := by decide +kernel
theorem dX5_take_15 : decode cX5_take 15 = .ok (.iconst 1, 1) := by decide +kernel
theorem dX5_take_16 : decode cX5_take 16 = .ok (.iadd, 1) := by decide +kernel
theorem dX5_take_17 : decode cX5_take 17 = .ok (.putfield 26, 3) := by decide +kernel
theorem dX5_take_20 : decode cX5_take 20 = .ok (.iconst 1, 1) := by decide +kernel
theorem dX5_take_21 : decode cX5_take 21 = .ok (.ireturn, 1) := by decide +kernel
theorem dX5_isDigitTo_0 : decode cX5_isDigitTo 0 = .ok (.aload_n 0, 1) := by decide +kernel
theorem dX5_isDigitTo_1 : decode cX5_isDigitTo 1 = .ok (.invokevirtual 83, 3) := by decide +kernel
theorem dX5_isDigitTo_4 : decode cX5_isDigitTo 4 = .ok (.bipush 48, 2) := by decide +kernel
theorem dX5_isDigitTo_6 : decode cX5_isDigitTo 6 = .ok (.if_icmp .lt 15, 3) := by decide +kernel
theorem dX5_isDigitTo_9 : decode cX5_isDigitTo 9 = .ok (.aload_n 0, 1) := by decide +kernel
theorem dX5_isDigitTo_10 : decode cX5_isDigitTo 10 = .ok (.invokevirtual 83, 3) := by decide +kernel
theorem dX5_isDigitTo_13 : decode cX5_isDigitTo 13 = .ok (.iload_n 1, 1) := by decide +kernel
theorem dX5_isDigitTo_14 : decode cX5_isDigitTo 14 = .ok (.if_icmp .gt 7, 3) := by decide +kernel
theorem dX5_isDigitTo_17 : decode cX5_isDigitTo 17 = .ok (.iconst 1, 1) := by decide +kernel
theorem dX5_isDigitTo_18 : decode cX5_isDigitTo 18 = .ok (.goto 4, 3) := by decide +kernel
theorem dX5_isDigitTo_21 : decode cX5_isDigitTo 21 = .ok (.iconst 0, 1) := by decide +kernel
theorem dX5_isDigitTo_22 : decode cX5_isDigitTo 22 = .ok (.ireturn, 1) := by decide +kernel
theorem dX5_next_0 : decode cX5_next 0 = .ok (.aload_n 0, 1) := by decide +kernel
theorem dX5_next_1 : decode cX5_next 1 = .ok (.getfield 26, 3) := by decide +kernel
theorem dX5_next_4 : decode cX5_next 4 = .ok (.aload_n 0, 1) := by decide +kernel
theorem dX5_next_5 : decode cX5_next 5 = .ok (.getfield 22, 3) := by decide +kernel
theorem dX5_next_8 : decode cX5_next 8 = .ok (.if_icmp .ge 15, 3) := by decide +kernel
theorem dX5_next_11 : decode cX5_next 11 = .ok (.aload_n 0, 1) := by decide +kernel
theorem dX5_next_12 : decode cX5_next 12 = .ok (.getfield 9, 3) := by decide +kernel
theorem dX5_next_15 : decode cX5_next 15 = .ok (.aload_n 0, 1) := by decide +kernel
theorem dX5_next_16 : decode cX5_next 16 = .ok (.getfield 26, 3) := by decide +kernel
theorem dX5_next_19 : decode cX5_next 19 = .ok (.caload, 1) := by decide +kernel
theorem dX5_next_20 : decode cX5_next 20 = .ok (.goto 4, 3) := by decide +kernel
theorem dX5_next_23 : decode cX5_next 23 = .ok (.iconst 0, 1) := by decide +kernel
theorem dX5_next_24 : decode cX5_next 24 = .ok (.ireturn, 1) := by decide +kernel
theorem dX6_init_0 : decode cX6_init 0 = .ok (.aload_n 0, 1) := by decide +kernel
theorem dX6_init_1 : decode cX6_init 1 = .ok (.invokespecial 3, 3) := by decide +kernel
theorem dX6_init_4 : decode cX6_init 4 = .ok (.aload_n 0, 1) := by decide +kernel
theorem dX6_init_5 : decode cX6_init 5 = .ok (.new 9, 3) := by decide +kernel
theorem dX6_init_8 : decode cX6_init 8 = .ok (.dup, 1) := by decide +kernel
theorem dX6_init_9 : decode cX6_init 9 = .ok (.invokespecial 11, 3) := by decide +kernel
theorem dX6_init_12 : decode cX6_init 12 = .ok (.putfield 12, 3) := by decide +kernel
theorem dX6_init_15 : decode cX6_init 15 = .ok (.aload_n 0, 1) := by decide +kernel
theorem dX6_init_16 : decode cX6_init 16 = .ok (.new 16, 3) := by decide +kernel
theorem dX6_init_19 : decode cX6_init 19 = .ok (.dup, 1) := by decide +kernel
theorem dX6_init_20 : decode cX6_init 20 = .ok (.invokespecial 18, 3) := by decide +kernel
theorem dX6_init_23 : decode cX6_init 23 = .ok (.putfield 19, 3) := by decide +kernel
theorem dX6_init_26 : decode cX6_init 26 = .ok (.aload_n 0, 1) := by decide +kernel
theorem dX6_init_27 : decode cX6_init 27 = .ok (.new 23, 3) := by decide +kernel
theorem dX6_init_30 : decode cX6_init 30 = .ok (.dup, 1) := by decide +kernel
theorem dX6_init_31 : decode cX6_init 31 = .ok (.aload_n 0, 1) := by decide +kernel
theorem dX6_init_32 : decode cX6_init 32 = .ok (.getfield 12, 3) := by decide +kernel
theorem dX6_init_35 : decode cX6_init 35 = .ok (.invokespecial 25, 3) := by decide +kernel
theorem dX6_init_38 : decode cX6_init 38 = .ok (.putfield 28, 3) := by decide +kernel
theorem dX6_init_41 : decode cX6_init 41 = .ok (.aload_n 0, 1) := by decide +kernel
theorem dX6_init_42 : decode cX6_init 42 = .ok (.new 32, 3) := by decide +kernel
theorem dX6_init_45 : decode cX6_init 45 = .ok (.dup, 1) := by decide +kernel
theorem dX6_init_46 : decode cX6_init 46 = .ok (.aload_n 0, 1) := by decide +kernel
theorem dX6_init_47 : decode cX6_init 47 = .ok (.getfield 12, 3) := by decide +kernel
theorem dX6_init_50 : decode cX6_init 50 = .ok (.aload_n 0, 1) := by decide +kernel
theorem dX6_init_51 : decode cX6_init 51 = .ok (.getfield 19, 3) := by decide +kernel
theorem dX6_init_54 : decode cX6_init 54 = .ok (.aload_n 0, 1) := by decide +kernel
theorem dX6_init_55 : decode cX6_init 55 = .ok (.getfield 28, 3) := by decide +kernel
theorem dX6_init_58 : decode cX6_init 58 = .ok (.invokespecial 34, 3) := by decide +kernel
theorem dX6_init_61 : decode cX6_init 61 = .ok (.putfield 37, 3) := by decide +kernel
theorem dX6_init_64 : decode cX6_init 64 = .ok (.aload_n 0, 1) := by decide +kernel
theorem dX6_init_65 : decode cX6_init 65 = .ok (.new 41, 3) := by decide +kernel
theorem dX6_init_68 : decode cX6_init 68 = .ok (.dup, 1) := by decide +kernel
theorem dX6_init_69 : decode cX6_init 69 = .ok (.invokespecial 43, 3) := by decide +kernel
theorem dX6_init_72 : decode cX6_init 72 = .ok (.putfield 44, 3) := by decide +kernel
theorem dX6_init_75 : decode cX6_init 75 = .ok (.aload_n 0, 1) := by decide +kernel
theorem dX6_init_76 : decode cX6_init 76 = .ok (.new 48, 3) := by decide +kernel
theorem dX6_init_79 : decode cX6_init 79 = .ok (.dup, 1) := by decide +kernel
theorem dX6_init_80 : decode cX6_init 80 = .ok (.invokespecial 50, 3) := by decide +kernel
theorem dX6_init_83 : decode cX6_init 83 = .ok (.putfield 51, 3) := by decide +kernel
theorem dX6_init_86 : decode cX6_init 86 = .ok (.return_, 1) := by decide +kernel
theorem dX6_load_0 : decode cX6_load 0 = .ok (.aload_n 0, 1) := by decide +kernel
theorem dX6_load_1 : decode cX6_load 1 = .ok (.getfield 51, 3) := by decide +kernel
theorem dX6_load_4 : decode cX6_load 4 = .ok (.getfield 55, 3) := by decide +kernel
theorem dX6_load_7 : decode cX6_load 7 = .ok (.astore_n 1, 1) := by decide +kernel
theorem dX6_load_8 : decode cX6_load 8 = .ok (.aload_n 0, 1) := by decide +kernel
theorem dX6_load_9 : decode cX6_load 9 = .ok (.getfield 51, 3) := by decide +kernel
theorem dX6_load_12 : decode cX6_load 12 = .ok (.invokevirtual 58, 3) := by decide +kernel
theorem dX6_load_15 : decode cX6_load 15 = .ok (.ifCond .eq 14, 3) := by decide +kernel
theorem dX6_load_18 : decode cX6_load 18 = .ok (.aload_n 1, 1) := by decide +kernel
theorem dX6_load_19 : decode cX6_load 19 = .ok (.invokevirtual 62, 3) := by decide +kernel
theorem dX6_load_22 : decode cX6_load 22 = .ok (.aload_n 1, 1) := by decide +kernel
theorem dX6_load_23 : decode cX6_load 23 = .ok (.getfield 66, 3) := by decide +kernel
theorem dX6_load_26 : decode cX6_load 26 = .ok (.if_icmp .le 13, 3) := by decide +kernel
theorem dX6_load_29 : decode cX6_load 29 = .ok (.new 70, 3) := by decide +kernel
theorem dX6_load_32 : decode cX6_load 32 = .ok (.dup, 1) := by decide +kernel
theorem dX6_load_33 : decode cX6_load 33 = .ok (.ldc 72, 2) := by decide +kernel
theorem dX6_load_35 : decode cX6_load 35 = .ok (.invokespecial 74, 3) := by decide +kernel
theorem dX6_load_38 : decode cX6_load 38 = .ok (.athrow, 1) := by decide +kernel
theorem dX6_load_39 : decode cX6_load 39 = .ok (.aload_n 0, 1) := by decide +kernel
theorem dX6_load_40 : decode cX6_load 40 = .ok (.invokevirtual 77, 3) := by decide +kernel
theorem dX6_load_43 : decode cX6_load 43 = .ok (.aload_n 0, 1) := by decide +kernel
theorem dX6_load_44 : decode cX6_load 44 = .ok (.getfield 12, 3) := by decide +kernel
theorem dX6_load_47 : decode cX6_load 47 = .ok (.aload_n 1, 1) := by decide +kernel
theorem dX6_load_48 : decode cX6_load 48 = .ok (.invokevirtual 80, 3) := by decide +kernel
theorem dX6_load_51 : decode cX6_load 51 = .ok (.aload_n 0, 1) := by decide +kernel
theorem dX6_load_52 : decode cX6_load 52 = .ok (.getfield 51, 3) := by decide +kernel
theorem dX6_load_55 : decode cX6_load 55 = .ok (.invokevirtual 83, 3) := by decide +kernel
theorem dX6_load_58 : decode cX6_load 58 = .ok (.aload_n 0, 1) := by decide +kernel
theorem dX6_load_59 : decode cX6_load 59 = .ok (.invokevirtual 86, 3) := by decide +kernel
theorem dX6_load_62 : decode cX6_load 62 = .ok (.aload_n 0, 1) := by decide +kernel
theorem dX6_load_63 : decode cX6_load 63 = .ok (.getfield 12, 3) := by decide +kernel
theorem dX6_load_66 : decode cX6_load 66 = .ok (.getfield 66, 3) := by decide +kernel
theorem dX6_load_69 : decode cX6_load 69 = .ok (.ireturn, 1) := by decide +kernel
theorem dX6_add_0 : decode cX6_add 0 = .ok (.aload_n 0, 1) := by decide +kernel
theorem dX6_add_1 : decode cX6_add 1 = .ok (.getfield 51, 3) := by decide +kernel
theorem dX6_add_4 : decode cX6_add 4 = .ok (.getfield 55, 3) := by decide +kernel
theorem dX6_add_7 : decode cX6_add 7 = .ok (.astore_n 1, 1) := by decide +kernel
theorem dX6_add_8 : decode cX6_add 8 = .ok (.aload_n 0, 1) := by decide +kernel
theorem dX6_add_9 : decode cX6_add 9 = .ok (.getfield 51, 3) := by decide +kernel
theorem dX6_add_12 : decode cX6_add 12 = .ok (.invokevirtual 58, 3) := by decide +kernel
theorem dX6_add_15 : decode cX6_add 15 = .ok (.ifCond .eq 11, 3) := by decide +kernel
theorem dX6_add_18 : decode cX6_add 18 = .ok (.aload_n 0, 1) := by decide +kernel
theorem dX6_add_19 : decode cX6_add 19 = .ok (.aload_n 1, 1) := by decide +kernel
theorem dX6_add_20 : decode cX6_add 20 = .ok (.invokevirtual 89, 3) := by decide +kernel
theorem dX6_add_23 : decode cX6_add 23 = .ok (.ifCond .ne 13, 3) := by decide +kernel
theorem dX6_add_26 : decode cX6_add 26 = .ok (.new 70, 3) := by decide +kernel
theorem dX6_add_29 : decode cX6_add 29 = .ok (.dup, 1) := by decide +kernel
theorem dX6_add_30 : decode cX6_add 30 = .ok (.ldc 93, 2) := by decide +kernel
theorem dX6_add_32 : decode cX6_add 32 = .ok (.invokespecial 74, 3) := by decide +kernel
theorem dX6_add_35 : decode cX6_add 35 = .ok (.athrow, 1) := by decide +kernel
theorem dX6_add_36 : decode cX6_add 36 = .ok (.aload_n 0, 1) := by decide +kernel
theorem dX6_add_37 : decode cX6_add 37 = .ok (.invokevirtual 77, 3) := by decide +kernel
theorem dX6_add_40 : decode cX6_add 40 = .ok (.aload_n 0, 1) := by decide +kernel
theorem dX6_add_41 : decode cX6_add 41 = .ok (.getfield 12, 3) := by decide +kernel
theorem dX6_add_44 : decode cX6_add 44 = .ok (.aload_n 1, 1) := by decide +kernel
theorem dX6_add_45 : decode cX6_add 45 = .ok (.invokevirtual 95, 3) := by decide +kernel
theorem dX6_add_48 : decode cX6_add 48 = .ok (.aload_n 0, 1) := by decide +kernel
theorem dX6_add_49 : decode cX6_add 49 = .ok (.getfield 51, 3) := by decide +kernel
theorem dX6_add_52 : decode cX6_add 52 = .ok (.invokevirtual 83, 3) := by decide +kernel
theorem dX6_add_55 : decode cX6_add 55 = .ok (.aload_n 0, 1) := by decide +kernel
theorem dX6_add_56 : decode cX6_add 56 = .ok (.invokevirtual 86, 3) := by decide +kernel
theorem dX6_add_59 : decode cX6_add 59 = .ok (.aload_n 0, 1) := by decide +kernel
theorem dX6_add_60 : decode cX6_add 60 = .ok (.getfield 12, 3) := by decide +kernel
theorem dX6_add_63 : decode cX6_add 63 = .ok (.getfield 66, 3) := by decide +kernel
theorem dX6_add_66 : decode cX6_add 66 = .ok (.ireturn, 1) := by decide +kernel
theorem dX6_removeLast_0 : decode cX6_removeLast 0 = .ok (.aload_n 0, 1) := by decide +kernel
theorem dX6_removeLast_1 : decode cX6_removeLast 1 = .ok (.getfield 12, 3) := by decide +kernel
theorem dX6_removeLast_4 : decode cX6_removeLast 4 = .ok (.getfield 66, 3) := by decide +kernel
theorem dX6_removeLast_7 : decode cX6_removeLast 7 = .ok (.ifCond .ne 13, 3) := by decide +kernel
theorem dX6_removeLast_10 : decode cX6_removeLast 10 = .ok (.new 98, 3) := by decide +kernel
theorem dX6_removeLast_13 : decode cX6_removeLast 13 = .ok (.dup, 1) := by decide +kernel
theorem dX6_removeLast_14 : decode cX6_removeLast 14 = .ok (.ldc 100, 2) := by decide +kernel
theorem dX6_removeLast_16 : decode cX6_removeLast 16 = .ok (.invokespecial 102, 3) := by decide +kernel
theorem dX6_removeLast_19 : decode cX6_removeLast 19 = .ok (.athrow, 1) := by decide +kernel
theorem dX6_removeLast_20 : decode cX6_removeLast 20 = .ok (.aload_n 0, 1) := by decide +kernel
theorem dX6_removeLast_21 : decode cX6_removeLast 21 = .ok (.invokevirtual 77, 3) := by decide +kernel
theorem dX6_removeLast_24 : decode cX6_removeLast 24 = .ok (.aload_n 0, 1) := by decide +kernel
theorem dX6_removeLast_25 : decode cX6_removeLast 25 = .ok (.getfield 12, 3) := by decide +kernel
theorem dX6_removeLast_28 : decode cX6_removeLast 28 = .ok (.invokevirtual 103, 3) := by decide +kernel
theorem dX6_removeLast_31 : decode cX6_removeLast 31 = .ok (.aload_n 0, 1) := by decide +kernel
theorem dX6_removeLast_32 : decode cX6_removeLast 32 = .ok (.invokevirtual 86, 3) := by decide +kernel
theorem dX6_removeLast_35 : decode cX6_removeLast 35 = .ok (.aload_n 0, 1) := by decide +kernel
theorem dX6_removeLast_36 : decode cX6_removeLast 36 = .ok (.getfield 12, 3) := by decide +kernel
theorem dX6_removeLast_39 : decode cX6_removeLast 39 = .ok (.getfield 66, 3) := by decide +kernel
theorem dX6_removeLast_42 : decode cX6_removeLast 42 = .ok (.ireturn, 1) := by decide +kernel
theorem dX6_statements_0 : decode cX6_statements 0 = .ok (.aload_n 0, 1) := by decide +kernel
theorem dX6_statements_1 : decode cX6_statements 1 = .ok (.getfield 12, 3) := by decide +kernel
theorem dX6_statements_4 : decode cX6_statements 4 = .ok (.getfield 66, 3) := by decide +kernel
theorem dX6_statements_7 : decode cX6_statements 7 = .ok (.ireturn, 1) := by decide +kernel
theorem dX6_kind_0 : decode cX6_kind 0 = .ok (.iload_n 1, 1) := by decide +kernel
theorem dX6_kind_1 : decode cX6_kind 1 = .ok (.aload_n 0, 1) := by decide +kernel
theorem dX6_kind_2 : decode cX6_kind 2 = .ok (.getfield 12, 3) := by decide +kernel
theorem dX6_kind_5 : decode cX6_kind 5 = .ok (.getfield 66, 3) := by decide +kernel
theorem dX6_kind_8 : decode cX6_kind 8 = .ok (.invokestatic 106, 3) := by decide +kernel
theorem dX6_kind_11 : decode cX6_kind 11 = .ok (.aload_n 0, 1) := by decide +kernel
theorem dX6_kind_12 : decode cX6_kind 12 = .ok (.getfield 12, 3) := by decide +kernel
theorem dX6_kind_15 : decode cX6_kind 15 = .ok (.getfield 110, 3) := by decide +kernel
theorem dX6_kind_18 : decode cX6_kind 18 = .ok (.iload_n 1, 1) := by decide +kernel
theorem dX6_kind_19 : decode cX6_kind 19 = .ok (.iaload, 1) := by decide +kernel
theorem dX6_kind_20 : decode cX6_kind 20 = .ok (.ireturn, 1) := by decide +kernel
theorem dX6_target_0 : decode cX6_target 0 = .ok (.iload_n 1, 1) := by decide +kernel
theorem dX6_target_1 : decode cX6_target 1 = .ok (.aload_n 0, 1) := by decide +kernel
theorem dX6_target_2 : decode cX6_target 2 = .ok (.getfield 12, 3) := by decide +kernel
theorem dX6_target_5 : decode cX6_target 5 = .ok (.getfield 66, 3) := by decide +kernel
theorem dX6_target_8 : decode cX6_target 8 = .ok (.invokestatic 106, 3) := by decide +kernel
theorem dX6_target_11 : decode cX6_target 11 = .ok (.aload_n 0, 1) := by decide +kernel
theorem dX6_target_12 : decode cX6_target 12 = .ok (.getfield 12, 3) := by decide +kernel
theorem dX6_target_15 : decode cX6_target 15 = .ok (.getfield 114, 3) := by decide +kernel
theorem dX6_target_18 : decode cX6_target 18 = .ok (.iload_n 1, 1) := by decide +kernel
theorem dX6_target_19 : decode cX6_target 19 = .ok (.iaload, 1) := by decide +kernel
theorem dX6_target_20 : decode cX6_target 20 = .ok (.ireturn, 1) := by decide +kernel
theorem dX6_run_0 : decode cX6_run 0 = .ok (.iload_n 1, 1) := by decide +kernel
theorem dX6_run_1 : decode cX6_run 1 = .ok (.iload_n 2, 1) := by decide +kernel
theorem dX6_run_2 : decode cX6_run 2 = .ok (.iload_n 3, 1) := by decide +kernel
theorem dX6_run_3 : decode cX6_run 3 = .ok (.invokestatic 117, 3) := by decide +kernel
theorem dX6_run_6 : decode cX6_run 6 = .ok (.aload_n 0, 1) := by decide +kernel
theorem dX6_run_7 : decode cX6_run 7 = .ok (.getfield 28, 3) := by decide +kernel
theorem dX6_run_10 : decode cX6_run 10 = .ok (.iload_n 1, 1) := by decide +kernel
theorem dX6_run_11 : decode cX6_run 11 = .ok (.iload_n 2, 1) := by decide +kernel
theorem dX6_run_12 : decode cX6_run 12 = .ok (.iload_n 3, 1) := by decide +kernel
theorem dX6_run_13 : decode cX6_run 13 = .ok (.invokestatic 121, 3) := by decide +kernel
theorem dX6_run_16 : decode cX6_run 16 = .ok (.invokevirtual 125, 3) := by decide +kernel
theorem dX6_run_19 : decode cX6_run 19 = .ok (.ireturn, 1) := by decide +kernel
theorem dX6_steps_0 : decode cX6_steps 0 = .ok (.iload_n 1, 1) := by decide +kernel
theorem dX6_steps_1 : decode cX6_steps 1 = .ok (.iload_n 2, 1) := by decide +kernel
theorem dX6_steps_2 : decode cX6_steps 2 = .ok (.iload_n 3, 1) := by decide +kernel
theorem dX6_steps_3 : decode cX6_steps 3 = .ok (.invokestatic 117, 3) := by decide +kernel
theorem dX6_steps_6 : decode cX6_steps 6 = .ok (.aload_n 0, 1) := by decide +kernel
theorem dX6_steps_7 : decode cX6_steps 7 = .ok (.getfield 28, 3) := by decide +kernel
theorem dX6_steps_10 : decode cX6_steps 10 = .ok (.iload_n 1, 1) := by decide +kernel
theorem dX6_steps_11 : decode cX6_steps 11 = .ok (.iload_n 2, 1) := by decide +kernel
theorem dX6_steps_12 : decode cX6_steps 12 = .ok (.iload_n 3, 1) := by decide +kernel
theorem dX6_steps_13 : decode cX6_steps 13 = .ok (.invokestatic 121, 3) := by decide +kernel
theorem dX6_steps_16 : decode cX6_steps 16 = .ok (.invokevirtual 129, 3) := by decide +kernel
theorem dX6_steps_19 : decode cX6_steps 19 = .ok (.ireturn, 1) := by decide +kernel
theorem dX6_demand_0 : decode cX6_demand 0 = .ok (.iload_n 1, 1) := by decide +kernel
theorem dX6_demand_1 : decode cX6_demand 1 = .ok (.aload_n 0, 1) := by decide +kernel
theorem dX6_demand_2 : decode cX6_demand 2 = .ok (.getfield 12, 3) := by decide +kernel
theorem dX6_demand_5 : decode cX6_demand 5 = .ok (.getfield 66, 3) := by decide +kernel
theorem dX6_demand_8 : decode cX6_demand 8 = .ok (.iconst 1, 1) := by decide +kernel
theorem dX6_demand_9 : decode cX6_demand 9 = .ok (.iadd, 1) := by decide +kernel
theorem dX6_demand_10 : decode cX6_demand 10 = .ok (.invokestatic 106, 3) := by decide +kernel
theorem dX6_demand_13 : decode cX6_demand 13 = .ok (.iconst 0, 1) := by decide +kernel
theorem dX6_demand_14 : decode cX6_demand 14 = .ok (.istore_n 2, 1) := by decide +kernel
theorem dX6_demand_15 : decode cX6_demand 15 = .ok (.iconst 0, 1) := by decide +kernel
theorem dX6_demand_16 : decode cX6_demand 16 = .ok (.istore_n 3, 1) := by decide +kernel
theorem dX6_demand_17 : decode cX6_demand 17 = .ok (.iload_n 3, 1) := by decide +kernel
theorem dX6_demand_18 : decode cX6_demand 18 = .ok (.sipush 512, 3) := by decide +kernel
theorem dX6_demand_21 : decode cX6_demand 21 = .ok (.if_icmp .ge 27, 3) := by decide +kernel
theorem dX6_demand_24 : decode cX6_demand 24 = .ok (.aload_n 0, 1) := by decide +kernel
theorem dX6_demand_25 : decode cX6_demand 25 = .ok (.getfield 28, 3) := by decide +kernel
theorem dX6_demand_28 : decode cX6_demand 28 = .ok (.iload_n 1, 1) := by decide +kernel
theorem dX6_demand_29 : decode cX6_demand 29 = .ok (.iload_n 3, 1) := by decide +kernel
theorem dX6_demand_30 : decode cX6_demand 30 = .ok (.invokestatic 132, 3) := by decide +kernel
theorem dX6_demand_33 : decode cX6_demand 33 = .ok (.invokevirtual 136, 3) := by decide +kernel
theorem dX6_demand_36 : decode cX6_demand 36 = .ok (.ifCond .eq 6, 3) := by decide +kernel
theorem dX6_demand_39 : decode cX6_demand 39 = .ok (.iinc 2 1, 3) := by decide +kernel
theorem dX6_demand_42 : decode cX6_demand 42 = .ok (.iinc 3 1, 3) := by decide +kernel
theorem dX6_demand_45 : decode cX6_demand 45 = .ok (.goto (-28), 3) := by decide +kernel
theorem dX6_demand_48 : decode cX6_demand 48 = .ok (.iload_n 2, 1) := by decide +kernel
theorem dX6_demand_49 : decode cX6_demand 49 = .ok (.ireturn, 1) := by decide +kernel
theorem dX6_demands_0 : decode cX6_demands 0 = .ok (.iload_n 1, 1) := by decide +kernel
theorem dX6_demands_1 : decode cX6_demands 1 = .ok (.aload_n 0, 1) := by decide +kernel
theorem dX6_demands_2 : decode cX6_demands 2 = .ok (.getfield 12, 3) := by decide +kernel
theorem dX6_demands_5 : decode cX6_demands 5 = .ok (.getfield 66, 3) := by decide +kernel
theorem dX6_demands_8 : decode cX6_demands 8 = .ok (.iconst 1, 1) := by decide +kernel
theorem dX6_demands_9 : decode cX6_demands 9 = .ok (.iadd, 1) := by decide +kernel
theorem dX6_demands_10 : decode cX6_demands 10 = .ok (.invokestatic 106, 3) := by decide +kernel
theorem dX6_demands_13 : decode cX6_demands 13 = .ok (.iload_n 2, 1) := by decide +kernel
theorem dX6_demands_14 : decode cX6_demands 14 = .ok (.iload_n 3, 1) := by decide +kernel
theorem dX6_demands_15 : decode cX6_demands 15 = .ok (.iload 4, 2) := by decide +kernel
theorem dX6_demands_17 : decode cX6_demands 17 = .ok (.invokestatic 117, 3) := by decide +kernel
theorem dX6_demands_20 : decode cX6_demands 20 = .ok (.aload_n 0, 1) := by decide +kernel
theorem dX6_demands_21 : decode cX6_demands 21 = .ok (.getfield 28, 3) := by decide +kernel
theorem dX6_demands_24 : decode cX6_demands 24 = .ok (.iload_n 1, 1) := by decide +kernel
theorem dX6_demands_25 : decode cX6_demands 25 = .ok (.iload_n 2, 1) := by decide +kernel
theorem dX6_demands_26 : decode cX6_demands 26 = .ok (.iload_n 3, 1) := by decide +kernel
theorem dX6_demands_27 : decode cX6_demands 27 = .ok (.iload 4, 2) := by decide +kernel
theorem dX6_demands_29 : decode cX6_demands 29 = .ok (.invokestatic 121, 3) := by decide +kernel
theorem dX6_demands_32 : decode cX6_demands 32 = .ok (.invokestatic 132, 3) := by decide +kernel
theorem dX6_demands_35 : decode cX6_demands 35 = .ok (.invokevirtual 136, 3) := by decide +kernel
theorem dX6_demands_38 : decode cX6_demands 38 = .ok (.ireturn, 1) := by decide +kernel
theorem dX6_assume_0 : decode cX6_assume 0 = .ok (.iload_n 1, 1) := by decide +kernel
theorem dX6_assume_1 : decode cX6_assume 1 = .ok (.iconst 3, 1) := by decide +kernel
theorem dX6_assume_2 : decode cX6_assume 2 = .ok (.invokestatic 106, 3) := by decide +kernel
theorem dX6_assume_5 : decode cX6_assume 5 = .ok (.iload_n 2, 1) := by decide +kernel
theorem dX6_assume_6 : decode cX6_assume 6 = .ok (.invokestatic 140, 3) := by decide +kernel
theorem dX6_assume_9 : decode cX6_assume 9 = .ok (.ifCond .eq 15, 3) := by decide +kernel
theorem dX6_assume_12 : decode cX6_assume 12 = .ok (.iload_n 3, 1) := by decide +kernel
theorem dX6_assume_13 : decode cX6_assume 13 = .ok (.invokestatic 140, 3) := by decide +kernel
theorem dX6_assume_16 : decode cX6_assume 16 = .ok (.ifCond .eq 8, 3) := by decide +kernel
theorem dX6_assume_19 : decode cX6_assume 19 = .ok (.iload_n 3, 1) := by decide +kernel
theorem dX6_assume_20 : decode cX6_assume 20 = .ok (.iload_n 2, 1) := by decide +kernel
theorem dX6_assume_21 : decode cX6_assume 21 = .ok (.if_icmp .ge 13, 3) := by decide +kernel
theorem dX6_assume_24 : decode cX6_assume 24 = .ok (.new 70, 3) := by decide +kernel
theorem dX6_assume_27 : decode cX6_assume 27 = .ok (.dup, 1) := by decide +kernel
theorem dX6_assume_28 : decode cX6_assume 28 = .ok (.ldc 143, 2) := by decide +kernel
theorem dX6_assume_30 : decode cX6_assume 30 = .ok (.invokespecial 74, 3) := by decide +kernel
theorem dX6_assume_33 : decode cX6_assume 33 = .ok (.athrow, 1) := by decide +kernel
theorem dX6_assume_34 : decode cX6_assume 34 = .ok (.aload_n 0, 1) := by decide +kernel
theorem dX6_assume_35 : decode cX6_assume 35 = .ok (.invokevirtual 77, 3) := by decide +kernel
theorem dX6_assume_38 : decode cX6_assume 38 = .ok (.aload_n 0, 1) := by decide +kernel
theorem dX6_assume_39 : decode cX6_assume 39 = .ok (.getfield 19, 3) := by decide +kernel
theorem dX6_assume_42 : decode cX6_assume 42 = .ok (.iload_n 1, 1) := by decide +kernel
theorem dX6_assume_43 : decode cX6_assume 43 = .ok (.iload_n 2, 1) := by decide +kernel
theorem dX6_assume_44 : decode cX6_assume 44 = .ok (.iload_n 3, 1) := by decide +kernel
theorem dX6_assume_45 : decode cX6_assume 45 = .ok (.invokevirtual 145, 3) := by decide +kernel
theorem dX6_assume_48 : decode cX6_assume 48 = .ok (.aload_n 0, 1) := by decide +kernel
theorem dX6_assume_49 : decode cX6_assume 49 = .ok (.getfield 37, 3) := by decide +kernel
theorem dX6_assume_52 : decode cX6_assume 52 = .ok (.invokevirtual 148, 3) := by decide +kernel
theorem dX6_assume_55 : decode cX6_assume 55 = .ok (.aload_n 0, 1) := by decide +kernel
theorem dX6_assume_56 : decode cX6_assume 56 = .ok (.getfield 19, 3) := by decide +kernel
theorem dX6_assume_59 : decode cX6_assume 59 = .ok (.invokevirtual 151, 3) := by decide +kernel
theorem dX6_assume_62 : decode cX6_assume 62 = .ok (.ireturn, 1) := by decide +kernel
theorem dX6_verdict_0 : decode cX6_verdict 0 = .ok (.iload_n 1, 1) := by decide +kernel
theorem dX6_verdict_1 : decode cX6_verdict 1 = .ok (.aload_n 0, 1) := by decide +kernel
theorem dX6_verdict_2 : decode cX6_verdict 2 = .ok (.getfield 12, 3) := by decide +kernel
theorem dX6_verdict_5 : decode cX6_verdict 5 = .ok (.getfield 66, 3) := by decide +kernel
theorem dX6_verdict_8 : decode cX6_verdict 8 = .ok (.invokestatic 106, 3) := by decide +kernel
theorem dX6_verdict_11 : decode cX6_verdict 11 = .ok (.aload_n 0, 1) := by decide +kernel
theorem dX6_verdict_12 : decode cX6_verdict 12 = .ok (.getfield 12, 3) := by decide +kernel
theorem dX6_verdict_15 : decode cX6_verdict 15 = .ok (.getfield 110, 3) := by decide +kernel
theorem dX6_verdict_18 : decode cX6_verdict 18 = .ok (.iload_n 1, 1) := by decide +kernel
theorem dX6_verdict_19 : decode cX6_verdict 19 = .ok (.iaload, 1) := by decide +kernel
theorem dX6_verdict_20 : decode cX6_verdict 20 = .ok (.iconst 1, 1) := by decide +kernel
theorem dX6_verdict_21 : decode cX6_verdict 21 = .ok (.if_icmp .eq 5, 3) := by decide +kernel
theorem dX6_verdict_24 : decode cX6_verdict 24 = .ok (.iconst (-1), 1) := by decide +kernel
theorem dX6_verdict_25 : decode cX6_verdict 25 = .ok (.ireturn, 1) := by decide +kernel
theorem dX6_verdict_26 : decode cX6_verdict 26 = .ok (.aload_n 0, 1) := by decide +kernel
theorem dX6_verdict_27 : decode cX6_verdict 27 = .ok (.getfield 37, 3) := by decide +kernel
theorem dX6_verdict_30 : decode cX6_verdict 30 = .ok (.invokevirtual 154, 3) := by decide +kernel
theorem dX6_verdict_33 : decode cX6_verdict 33 = .ok (.aload_n 0, 1) := by decide +kernel
theorem dX6_verdict_34 : decode cX6_verdict 34 = .ok (.getfield 37, 3) := by decide +kernel
theorem dX6_verdict_37 : decode cX6_verdict 37 = .ok (.getfield 157, 3) := by decide +kernel
theorem dX6_verdict_40 : decode cX6_verdict 40 = .ok (.iload_n 1, 1) := by decide +kernel
theorem dX6_verdict_41 : decode cX6_verdict 41 = .ok (.iaload, 1) := by decide +kernel
theorem dX6_verdict_42 : decode cX6_verdict 42 = .ok (.iconst (-1), 1) := by decide +kernel
theorem dX6_verdict_43 : decode cX6_verdict 43 = .ok (.if_icmp .eq 5, 3) := by decide +kernel
theorem dX6_verdict_46 : decode cX6_verdict 46 = .ok (.iconst 2, 1) := by decide +kernel
theorem dX6_verdict_47 : decode cX6_verdict 47 = .ok (.ireturn, 1) := by decide +kernel
theorem dX6_verdict_48 : decode cX6_verdict 48 = .ok (.aload_n 0, 1) := by decide +kernel
theorem dX6_verdict_49 : decode cX6_verdict 49 = .ok (.getfield 37, 3) := by decide +kernel
theorem dX6_verdict_52 : decode cX6_verdict 52 = .ok (.iload_n 1, 1) := by decide +kernel
theorem dX6_verdict_53 : decode cX6_verdict 53 = .ok (.invokevirtual 160, 3) := by decide +kernel
theorem dX6_verdict_56 : decode cX6_verdict 56 = .ok (.ifCond .eq 7, 3) := by decide +kernel
theorem dX6_verdict_59 : decode cX6_verdict 59 = .ok (.iconst 1, 1) := by decide +kernel
theorem dX6_verdict_60 : decode cX6_verdict 60 = .ok (.goto 4, 3) := by decide +kernel
theorem dX6_verdict_63 : decode cX6_verdict 63 = .ok (.iconst 0, 1) := by decide +kernel
theorem dX6_verdict_64 : decode cX6_verdict 64 = .ok (.ireturn, 1) := by decide +kernel
theorem dX6_example_0 : decode cX6_example 0 = .ok (.iload_n 1, 1) := by decide +kernel
theorem dX6_example_1 : decode cX6_example 1 = .ok (.aload_n 0, 1) := by decide +kernel
theorem dX6_example_2 : decode cX6_example 2 = .ok (.getfield 12, 3) := by decide +kernel
theorem dX6_example_5 : decode cX6_example 5 = .ok (.getfield 66, 3) := by decide +kernel
theorem dX6_example_8 : decode cX6_example 8 = .ok (.invokestatic 106, 3) := by decide +kernel
theorem dX6_example_11 : decode cX6_example 11 = .ok (.aload_n 0, 1) := by decide +kernel
theorem dX6_example_12 : decode cX6_example 12 = .ok (.getfield 37, 3) := by decide +kernel
theorem dX6_example_15 : decode cX6_example 15 = .ok (.invokevirtual 154, 3) := by decide +kernel
theorem dX6_example_18 : decode cX6_example 18 = .ok (.aload_n 0, 1) := by decide +kernel
theorem dX6_example_19 : decode cX6_example 19 = .ok (.getfield 37, 3) := by decide +kernel
theorem dX6_example_22 : decode cX6_example 22 = .ok (.getfield 157, 3) := by decide +kernel
theorem dX6_example_25 : decode cX6_example 25 = .ok (.iload_n 1, 1) := by decide +kernel
theorem dX6_example_26 : decode cX6_example 26 = .ok (.iaload, 1) := by decide +kernel
theorem dX6_example_27 : decode cX6_example 27 = .ok (.ireturn, 1) := by decide +kernel
theorem dX6_endless_0 : decode cX6_endless 0 = .ok (.aload_n 0, 1) := by decide +kernel
theorem dX6_endless_1 : decode cX6_endless 1 = .ok (.getfield 37, 3) := by decide +kernel
theorem dX6_endless_4 : decode cX6_endless 4 = .ok (.invokevirtual 154, 3) := by decide +kernel
theorem dX6_endless_7 : decode cX6_endless 7 = .ok (.aload_n 0, 1) := by decide +kernel
theorem dX6_endless_8 : decode cX6_endless 8 = .ok (.getfield 37, 3) := by decide +kernel
theorem dX6_endless_11 : decode cX6_endless 11 = .ok (.getfield 163, 3) := by decide +kernel
theorem dX6_endless_14 : decode cX6_endless 14 = .ok (.ireturn, 1) := by decide +kernel
theorem dX6_proof_0 : decode cX6_proof 0 = .ok (.aload_n 0, 1) := by decide +kernel
theorem dX6_proof_1 : decode cX6_proof 1 = .ok (.getfield 37, 3) := by decide +kernel
theorem dX6_proof_4 : decode cX6_proof 4 = .ok (.invokevirtual 154, 3) := by decide +kernel
theorem dX6_proof_7 : decode cX6_proof 7 = .ok (.aload_n 0, 1) := by decide +kernel
theorem dX6_proof_8 : decode cX6_proof 8 = .ok (.getfield 37, 3) := by decide +kernel
theorem dX6_proof_11 : decode cX6_proof 11 = .ok (.getfield 166, 3) := by decide +kernel
theorem dX6_proof_14 : decode cX6_proof 14 = .ok (.ifCond .le 5, 3) := by decide +kernel
theorem dX6_proof_17 : decode cX6_proof 17 = .ok (.iconst 2, 1) := by decide +kernel
theorem dX6_proof_18 : decode cX6_proof 18 = .ok (.ireturn, 1) := by decide +kernel
theorem dX6_proof_19 : decode cX6_proof 19 = .ok (.aload_n 0, 1) := by decide +kernel
theorem dX6_proof_20 : decode cX6_proof 20 = .ok (.getfield 37, 3) := by decide +kernel
theorem dX6_proof_23 : decode cX6_proof 23 = .ok (.getfield 163, 3) := by decide +kernel
theorem dX6_proof_26 : decode cX6_proof 26 = .ok (.ifCond .le 7, 3) := by decide +kernel
theorem dX6_proof_29 : decode cX6_proof 29 = .ok (.iconst 0, 1) := by decide +kernel
theorem dX6_proof_30 : decode cX6_proof 30 = .ok (.goto 4, 3) := by decide +kernel
theorem dX6_proof_33 : decode cX6_proof 33 = .ok (.iconst 1, 1) := by decide +kernel
theorem dX6_proof_34 : decode cX6_proof 34 = .ok (.ireturn, 1) := by decide +kernel
theorem dX6_provedShare_0 : decode cX6_provedShare 0 = .ok (.aload_n 0, 1) := by decide +kernel
theorem dX6_provedShare_1 : decode cX6_provedShare 1 = .ok (.getfield 37, 3) := by decide +kernel
theorem dX6_provedShare_4 : decode cX6_provedShare 4 = .ok (.invokevirtual 154, 3) := by decide +kernel
theorem dX6_provedShare_7 : decode cX6_provedShare 7 = .ok (.aload_n 0, 1) := by decide +kernel
theorem dX6_provedShare_8 : decode cX6_provedShare 8 = .ok (.getfield 37, 3) := by decide +kernel
theorem dX6_provedShare_11 : decode cX6_provedShare 11 = .ok (.getfield 169, 3) := by decide +kernel
theorem dX6_provedShare_14 : decode cX6_provedShare 14 = .ok (.i2d, 1) := by decide +kernel
theorem dX6_provedShare_15 : decode cX6_provedShare 15 = .ok (.aload_n 0, 1) := by decide +kernel
theorem dX6_provedShare_16 : decode cX6_provedShare 16 = .ok (.getfield 19, 3) := by decide +kernel
theorem dX6_provedShare_19 : decode cX6_provedShare 19 = .ok (.invokevirtual 151, 3) := by decide +kernel
theorem dX6_provedShare_22 : decode cX6_provedShare 22 = .ok (.i2d, 1) := by decide +kernel
theorem dX6_provedShare_23 : decode cX6_provedShare 23 = .ok (.ddiv, 1) := by decide +kernel
theorem dX6_provedShare_24 : decode cX6_provedShare 24 = .ok (.dreturn, 1) := by decide +kernel
theorem dX6_least_0 : decode cX6_least 0 = .ok (.iload_n 1, 1) := by decide +kernel
theorem dX6_least_1 : decode cX6_least 1 = .ok (.aload_n 0, 1) := by decide +kernel
theorem dX6_least_2 : decode cX6_least 2 = .ok (.getfield 12, 3) := by decide +kernel
theorem dX6_least_5 : decode cX6_least 5 = .ok (.getfield 66, 3) := by decide +kernel
theorem dX6_least_8 : decode cX6_least 8 = .ok (.iconst 1, 1) := by decide +kernel
theorem dX6_least_9 : decode cX6_least 9 = .ok (.iadd, 1) := by decide +kernel
theorem dX6_least_10 : decode cX6_least 10 = .ok (.invokestatic 106, 3) := by decide +kernel
theorem dX6_least_13 : decode cX6_least 13 = .ok (.iload_n 2, 1) := by decide +kernel
theorem dX6_least_14 : decode cX6_least 14 = .ok (.iconst 3, 1) := by decide +kernel
theorem dX6_least_15 : decode cX6_least 15 = .ok (.invokestatic 106, 3) := by decide +kernel
theorem dX6_least_18 : decode cX6_least 18 = .ok (.aload_n 0, 1) := by decide +kernel
theorem dX6_least_19 : decode cX6_least 19 = .ok (.getfield 37, 3) := by decide +kernel
theorem dX6_least_22 : decode cX6_least 22 = .ok (.invokevirtual 154, 3) := by decide +kernel
theorem dX6_least_25 : decode cX6_least 25 = .ok (.aload_n 0, 1) := by decide +kernel
theorem dX6_least_26 : decode cX6_least 26 = .ok (.getfield 37, 3) := by decide +kernel
theorem dX6_least_29 : decode cX6_least 29 = .ok (.getfield 172, 3) := by decide +kernel
theorem dX6_least_32 : decode cX6_least 32 = .ok (.iload_n 1, 1) := by decide +kernel
theorem dX6_least_33 : decode cX6_least 33 = .ok (.iconst 3, 1) := by decide +kernel
theorem dX6_least_34 : decode cX6_least 34 = .ok (.imul, 1) := by decide +kernel
theorem dX6_least_35 : decode cX6_least 35 = .ok (.iload_n 2, 1) := by decide +kernel
theorem dX6_least_36 : decode cX6_least 36 = .ok (.iadd, 1) := by decide +kernel
theorem dX6_least_37 : decode cX6_least 37 = .ok (.iaload, 1) := by decide +kernel
theorem dX6_least_38 : decode cX6_least 38 = .ok (.ireturn, 1) := by decide +kernel
theorem dX6_greatest_0 : decode cX6_greatest 0 = .ok (.iload_n 1, 1) := by decide +kernel
theorem dX6_greatest_1 : decode cX6_greatest 1 = .ok (.aload_n 0, 1) := by decide +kernel
theorem dX6_greatest_2 : decode cX6_greatest 2 = .ok (.getfield 12, 3) := by decide +kernel
theorem dX6_greatest_5 : decode cX6_greatest 5 = .ok (.getfield 66, 3) := by decide +kernel
theorem dX6_greatest_8 : decode cX6_greatest 8 = .ok (.iconst 1, 1) := by decide +kernel
theorem dX6_greatest_9 : decode cX6_greatest 9 = .ok (.iadd, 1) := by decide +kernel
theorem dX6_greatest_10 : decode cX6_greatest 10 = .ok (.invokestatic 106, 3) := by decide +kernel
theorem dX6_greatest_13 : decode cX6_greatest 13 = .ok (.iload_n 2, 1) := by decide +kernel
theorem dX6_greatest_14 : decode cX6_greatest 14 = .ok (.iconst 3, 1) := by decide +kernel
theorem dX6_greatest_15 : decode cX6_greatest 15 = .ok (.invokestatic 106, 3) := by decide +kernel
theorem dX6_greatest_18 : decode cX6_greatest 18 = .ok (.aload_n 0, 1) := by decide +kernel
theorem dX6_greatest_19 : decode cX6_greatest 19 = .ok (.getfield 37, 3) := by decide +kernel
theorem dX6_greatest_22 : decode cX6_greatest 22 = .ok (.invokevirtual 154, 3) := by decide +kernel
theorem dX6_greatest_25 : decode cX6_greatest 25 = .ok (.aload_n 0, 1) := by decide +kernel
theorem dX6_greatest_26 : decode cX6_greatest 26 = .ok (.getfield 37, 3) := by decide +kernel
theorem dX6_greatest_29 : decode cX6_greatest 29 = .ok (.getfield 175, 3) := by decide +kernel
theorem dX6_greatest_32 : decode cX6_greatest 32 = .ok (.iload_n 1, 1) := by decide +kernel
theorem dX6_greatest_33 : decode cX6_greatest 33 = .ok (.iconst 3, 1) := by decide +kernel
theorem dX6_greatest_34 : decode cX6_greatest 34 = .ok (.imul, 1) := by decide +kernel
theorem dX6_greatest_35 : decode cX6_greatest 35 = .ok (.iload_n 2, 1) := by decide +kernel
theorem dX6_greatest_36 : decode cX6_greatest 36 = .ok (.iadd, 1) := by decide +kernel
theorem dX6_greatest_37 : decode cX6_greatest 37 = .ok (.iaload, 1) := by decide +kernel
theorem dX6_greatest_38 : decode cX6_greatest 38 = .ok (.ireturn, 1) := by decide +kernel
theorem dX6_widest_0 : decode cX6_widest 0 = .ok (.iload_n 1, 1) := by decide +kernel
theorem dX6_widest_1 : decode cX6_widest 1 = .ok (.iconst 3, 1) := by decide +kernel
theorem dX6_widest_2 : decode cX6_widest 2 = .ok (.invokestatic 106, 3) := by decide +kernel
theorem dX6_widest_5 : decode cX6_widest 5 = .ok (.aload_n 0, 1) := by decide +kernel
theorem dX6_widest_6 : decode cX6_widest 6 = .ok (.iload_n 1, 1) := by decide +kernel
theorem dX6_widest_7 : decode cX6_widest 7 = .ok (.invokevirtual 178, 3) := by decide +kernel
theorem dX6_widest_10 : decode cX6_widest 10 = .ok (.invokestatic 181, 3) := by decide +kernel
theorem dX6_widest_13 : decode cX6_widest 13 = .ok (.ireturn, 1) := by decide +kernel
theorem dX6_append_0 : decode cX6_append 0 = .ok (.iload_n 1, 1) := by decide +kernel
theorem dX6_append_1 : decode cX6_append 1 = .ok (.bipush 33, 2) := by decide +kernel
theorem dX6_append_3 : decode cX6_append 3 = .ok (.if_icmp .lt 9, 3) := by decide +kernel
theorem dX6_append_6 : decode cX6_append 6 = .ok (.iload_n 1, 1) := by decide +kernel
theorem dX6_append_7 : decode cX6_append 7 = .ok (.bipush 126, 2) := by decide +kernel
theorem dX6_append_9 : decode cX6_append 9 = .ok (.if_icmp .le 13, 3) := by decide +kernel
theorem dX6_append_12 : decode cX6_append 12 = .ok (.new 70, 3) := by decide +kernel
theorem dX6_append_15 : decode cX6_append 15 = .ok (.dup, 1) := by decide +kernel
theorem dX6_append_16 : decode cX6_append 16 = .ok (.ldc 184, 2) := by decide +kernel
theorem dX6_append_18 : decode cX6_append 18 = .ok (.invokespecial 74, 3) := by decide +kernel
theorem dX6_append_21 : decode cX6_append 21 = .ok (.athrow, 1) := by decide +kernel
theorem dX6_append_22 : decode cX6_append 22 = .ok (.aload_n 0, 1) := by decide +kernel
theorem dX6_append_23 : decode cX6_append 23 = .ok (.getfield 51, 3) := by decide +kernel
theorem dX6_append_26 : decode cX6_append 26 = .ok (.getfield 186, 3) := by decide +kernel
theorem dX6_append_29 : decode cX6_append 29 = .ok (.bipush 60, 2) := by decide +kernel
theorem dX6_append_31 : decode cX6_append 31 = .ok (.if_icmp .lt 13, 3) := by decide +kernel
theorem dX6_append_34 : decode cX6_append 34 = .ok (.new 98, 3) := by decide +kernel
theorem dX6_append_37 : decode cX6_append 37 = .ok (.dup, 1) := by decide +kernel
theorem dX6_append_38 : decode cX6_append 38 = .ok (.ldc 189, 2) := by decide +kernel
theorem dX6_append_40 : decode cX6_append 40 = .ok (.invokespecial 102, 3) := by decide +kernel
theorem dX6_append_43 : decode cX6_append 43 = .ok (.athrow, 1) := by decide +kernel
theorem dX6_append_44 : decode cX6_append 44 = .ok (.aload_n 0, 1) := by decide +kernel
theorem dX6_append_45 : decode cX6_append 45 = .ok (.getfield 51, 3) := by decide +kernel
theorem dX6_append_48 : decode cX6_append 48 = .ok (.iload_n 1, 1) := by decide +kernel
theorem dX6_append_49 : decode cX6_append 49 = .ok (.i2c, 1) := by decide +kernel
theorem dX6_append_50 : decode cX6_append 50 = .ok (.invokevirtual 191, 3) := by decide +kernel
theorem dX6_append_53 : decode cX6_append 53 = .ok (.aload_n 0, 1) := by decide +kernel
theorem dX6_append_54 : decode cX6_append 54 = .ok (.getfield 51, 3) := by decide +kernel
theorem dX6_append_57 : decode cX6_append 57 = .ok (.getfield 186, 3) := by decide +kernel
theorem dX6_append_60 : decode cX6_append 60 = .ok (.ireturn, 1) := by decide +kernel
theorem dX6_clearBuffer_0 : decode cX6_clearBuffer 0 = .ok (.aload_n 0, 1) := by decide +kernel
theorem dX6_clearBuffer_1 : decode cX6_clearBuffer 1 = .ok (.getfield 51, 3) := by decide +kernel
theorem dX6_clearBuffer_4 : decode cX6_clearBuffer 4 = .ok (.getfield 186, 3) := by decide +kernel
theorem dX6_clearBuffer_7 : decode cX6_clearBuffer 7 = .ok (.istore_n 1, 1) := by decide +kernel
theorem dX6_clearBuffer_8 : decode cX6_clearBuffer 8 = .ok (.aload_n 0, 1) := by decide +kernel
theorem dX6_clearBuffer_9 : decode cX6_clearBuffer 9 = .ok (.getfield 51, 3) := by decide +kernel
theorem dX6_clearBuffer_12 : decode cX6_clearBuffer 12 = .ok (.invokevirtual 83, 3) := by decide +kernel
theorem dX6_clearBuffer_15 : decode cX6_clearBuffer 15 = .ok (.iload_n 1, 1) := by decide +kernel
theorem dX6_clearBuffer_16 : decode cX6_clearBuffer 16 = .ok (.ireturn, 1) := by decide +kernel
theorem dX6_firstError_0 : decode cX6_firstError 0 = .ok (.aload_n 0, 1) := by decide +kernel
theorem dX6_firstError_1 : decode cX6_firstError 1 = .ok (.getfield 51, 3) := by decide +kernel
theorem dX6_firstError_4 : decode cX6_firstError 4 = .ok (.invokevirtual 58, 3) := by decide +kernel
theorem dX6_firstError_7 : decode cX6_firstError 7 = .ok (.pop, 1) := by decide +kernel
theorem dX6_firstError_8 : decode cX6_firstError 8 = .ok (.aload_n 0, 1) := by decide +kernel
theorem dX6_firstError_9 : decode cX6_firstError 9 = .ok (.getfield 51, 3) := by decide +kernel
theorem dX6_firstError_12 : decode cX6_firstError 12 = .ok (.getfield 195, 3) := by decide +kernel
theorem dX6_firstError_15 : decode cX6_firstError 15 = .ok (.ireturn, 1) := by decide +kernel
theorem dX6_undo_0 : decode cX6_undo 0 = .ok (.aload_n 0, 1) := by decide +kernel
theorem dX6_undo_1 : decode cX6_undo 1 = .ok (.getfield 44, 3) := by decide +kernel
theorem dX6_undo_4 : decode cX6_undo 4 = .ok (.getfield 198, 3) := by decide +kernel
theorem dX6_undo_7 : decode cX6_undo 7 = .ok (.ifCond .ne 13, 3) := by decide +kernel
theorem dX6_undo_10 : decode cX6_undo 10 = .ok (.new 98, 3) := by decide +kernel
theorem dX6_undo_13 : decode cX6_undo 13 = .ok (.dup, 1) := by decide +kernel
theorem dX6_undo_14 : decode cX6_undo 14 = .ok (.ldc 200, 2) := by decide +kernel
theorem dX6_undo_16 : decode cX6_undo 16 = .ok (.invokespecial 102, 3) := by decide +kernel
theorem dX6_undo_19 : decode cX6_undo 19 = .ok (.athrow, 1) := by decide +kernel
theorem dX6_undo_20 : decode cX6_undo 20 = .ok (.aload_n 0, 1) := by decide +kernel
theorem dX6_undo_21 : decode cX6_undo 21 = .ok (.getfield 44, 3) := by decide +kernel
theorem dX6_undo_24 : decode cX6_undo 24 = .ok (.aload_n 0, 1) := by decide +kernel
theorem dX6_undo_25 : decode cX6_undo 25 = .ok (.getfield 12, 3) := by decide +kernel
theorem dX6_undo_28 : decode cX6_undo 28 = .ok (.aload_n 0, 1) := by decide +kernel
theorem dX6_undo_29 : decode cX6_undo 29 = .ok (.getfield 19, 3) := by decide +kernel
theorem dX6_undo_32 : decode cX6_undo 32 = .ok (.invokevirtual 202, 3) := by decide +kernel
theorem dX6_undo_35 : decode cX6_undo 35 = .ok (.aload_n 0, 1) := by decide +kernel
theorem dX6_undo_36 : decode cX6_undo 36 = .ok (.invokevirtual 86, 3) := by decide +kernel
theorem dX6_undo_39 : decode cX6_undo 39 = .ok (.aload_n 0, 1) := by decide +kernel
theorem dX6_undo_40 : decode cX6_undo 40 = .ok (.getfield 44, 3) := by decide +kernel
theorem dX6_undo_43 : decode cX6_undo 43 = .ok (.getfield 198, 3) := by decide +kernel
theorem dX6_undo_46 : decode cX6_undo 46 = .ok (.ireturn, 1) := by decide +kernel
theorem dX6_savedStates_0 : decode cX6_savedStates 0 = .ok (.aload_n 0, 1) := by decide +kernel
theorem dX6_savedStates_1 : decode cX6_savedStates 1 = .ok (.getfield 44, 3) := by decide +kernel
theorem dX6_savedStates_4 : decode cX6_savedStates 4 = .ok (.getfield 198, 3) := by decide +kernel
theorem dX6_savedStates_7 : decode cX6_savedStates 7 = .ok (.ireturn, 1) := by decide +kernel
theorem dX6_digest_0 : decode cX6_digest 0 = .ok (.ldc2_w 206, 3) := by decide +kernel
theorem dX6_digest_3 : decode cX6_digest 3 = .ok (.lstore_n 1, 1) := by decide +kernel
theorem dX6_digest_4 : decode cX6_digest 4 = .ok (.ldc2_w 208, 3) := by decide +kernel
theorem dX6_digest_7 : decode cX6_digest 7 = .ok (.lload_n 1, 1) := by decide +kernel
theorem dX6_digest_8 : decode cX6_digest 8 = .ok (.lmul, 1) := by decide +kernel
theorem dX6_digest_9 : decode cX6_digest 9 = .ok (.aload_n 0, 1) := by decide +kernel
theorem dX6_digest_10 : decode cX6_digest 10 = .ok (.invokevirtual 210, 3) := by decide +kernel
theorem dX6_digest_13 : decode cX6_digest 13 = .ok (.i2l, 1) := by decide +kernel
theorem dX6_digest_14 : decode cX6_digest 14 = .ok (.ladd, 1) := by decide +kernel
theorem dX6_digest_15 : decode cX6_digest 15 = .ok (.lstore_n 1, 1) := by decide +kernel
theorem dX6_digest_16 : decode cX6_digest 16 = .ok (.ldc2_w 208, 3) := by decide +kernel
theorem dX6_digest_19 : decode cX6_digest 19 = .ok (.lload_n 1, 1) := by decide +kernel
theorem dX6_digest_20 : decode cX6_digest 20 = .ok (.lmul, 1) := by decide +kernel
theorem dX6_digest_21 : decode cX6_digest 21 = .ok (.aload_n 0, 1) := by decide +kernel
theorem dX6_digest_22 : decode cX6_digest 22 = .ok (.invokevirtual 213, 3) := by decide +kernel
theorem dX6_digest_25 : decode cX6_digest 25 = .ok (.i2l, 1) := by decide +kernel
theorem dX6_digest_26 : decode cX6_digest 26 = .ok (.ladd, 1) := by decide +kernel
theorem dX6_digest_27 : decode cX6_digest 27 = .ok (.lstore_n 1, 1) := by decide +kernel
theorem dX6_digest_28 : decode cX6_digest 28 = .ok (.ldc2_w 208, 3) := by decide +kernel
theorem dX6_digest_31 : decode cX6_digest 31 = .ok (.lload_n 1, 1) := by decide +kernel
theorem dX6_digest_32 : decode cX6_digest 32 = .ok (.lmul, 1) := by decide +kernel
theorem dX6_digest_33 : decode cX6_digest 33 = .ok (.aload_n 0, 1) := by decide +kernel
theorem dX6_digest_34 : decode cX6_digest 34 = .ok (.invokevirtual 216, 3) := by decide +kernel
theorem dX6_digest_37 : decode cX6_digest 37 = .ok (.i2l, 1) := by decide +kernel
theorem dX6_digest_38 : decode cX6_digest 38 = .ok (.ladd, 1) := by decide +kernel
theorem dX6_digest_39 : decode cX6_digest 39 = .ok (.lstore_n 1, 1) := by decide +kernel
theorem dX6_digest_40 : decode cX6_digest 40 = .ok (.iconst 0, 1) := by decide +kernel
theorem dX6_digest_41 : decode cX6_digest 41 = .ok (.istore_n 3, 1) := by decide +kernel
theorem dX6_digest_42 : decode cX6_digest 42 = .ok (.iload_n 3, 1) := by decide +kernel
theorem dX6_digest_43 : decode cX6_digest 43 = .ok (.aload_n 0, 1) := by decide +kernel
theorem dX6_digest_44 : decode cX6_digest 44 = .ok (.getfield 12, 3) := by decide +kernel
theorem dX6_digest_47 : decode cX6_digest 47 = .ok (.getfield 66, 3) := by decide +kernel
theorem dX6_digest_50 : decode cX6_digest 50 = .ok (.if_icmp .gt 130, 3) := by decide +kernel
theorem dX6_digest_53 : decode cX6_digest 53 = .ok (.iload_n 3, 1) := by decide +kernel
theorem dX6_digest_54 : decode cX6_digest 54 = .ok (.aload_n 0, 1) := by decide +kernel
theorem dX6_digest_55 : decode cX6_digest 55 = .ok (.getfield 12, 3) := by decide +kernel
theorem dX6_digest_58 : decode cX6_digest 58 = .ok (.getfield 66, 3) := by decide +kernel
theorem dX6_digest_61 : decode cX6_digest 61 = .ok (.if_icmp .ge 68, 3) := by decide +kernel
theorem dX6_digest_64 : decode cX6_digest 64 = .ok (.ldc2_w 208, 3) := by decide +kernel
theorem dX6_digest_67 : decode cX6_digest 67 = .ok (.lload_n 1, 1) := by decide +kernel
theorem dX6_digest_68 : decode cX6_digest 68 = .ok (.lmul, 1) := by decide +kernel
theorem dX6_digest_69 : decode cX6_digest 69 = .ok (.aload_n 0, 1) := by decide +kernel
theorem dX6_digest_70 : decode cX6_digest 70 = .ok (.iload_n 3, 1) := by decide +kernel
theorem dX6_digest_71 : decode cX6_digest 71 = .ok (.invokevirtual 219, 3) := by decide +kernel
theorem dX6_digest_74 : decode cX6_digest 74 = .ok (.i2l, 1) := by decide +kernel
theorem dX6_digest_75 : decode cX6_digest 75 = .ok (.ladd, 1) := by decide +kernel
theorem dX6_digest_76 : decode cX6_digest 76 = .ok (.lstore_n 1, 1) := by decide +kernel
theorem dX6_digest_77 : decode cX6_digest 77 = .ok (.ldc2_w 208, 3) := by decide +kernel
theorem dX6_digest_80 : decode cX6_digest 80 = .ok (.lload_n 1, 1) := by decide +kernel
theorem dX6_digest_81 : decode cX6_digest 81 = .ok (.lmul, 1) := by decide +kernel
theorem dX6_digest_82 : decode cX6_digest 82 = .ok (.aload_n 0, 1) := by decide +kernel
theorem dX6_digest_83 : decode cX6_digest 83 = .ok (.iload_n 3, 1) := by decide +kernel
theorem dX6_digest_84 : decode cX6_digest 84 = .ok (.invokevirtual 222, 3) := by decide +kernel
theorem dX6_digest_87 : decode cX6_digest 87 = .ok (.i2l, 1) := by decide +kernel
theorem dX6_digest_88 : decode cX6_digest 88 = .ok (.ladd, 1) := by decide +kernel
theorem dX6_digest_89 : decode cX6_digest 89 = .ok (.lstore_n 1, 1) := by decide +kernel
theorem dX6_digest_90 : decode cX6_digest 90 = .ok (.ldc2_w 208, 3) := by decide +kernel
theorem dX6_digest_93 : decode cX6_digest 93 = .ok (.lload_n 1, 1) := by decide +kernel
theorem dX6_digest_94 : decode cX6_digest 94 = .ok (.lmul, 1) := by decide +kernel
theorem dX6_digest_95 : decode cX6_digest 95 = .ok (.aload_n 0, 1) := by decide +kernel
theorem dX6_digest_96 : decode cX6_digest 96 = .ok (.iload_n 3, 1) := by decide +kernel
theorem dX6_digest_97 : decode cX6_digest 97 = .ok (.invokevirtual 225, 3) := by decide +kernel
theorem dX6_digest_100 : decode cX6_digest 100 = .ok (.i2l, 1) := by decide +kernel
theorem dX6_digest_101 : decode cX6_digest 101 = .ok (.ladd, 1) := by decide +kernel
theorem dX6_digest_102 : decode cX6_digest 102 = .ok (.lstore_n 1, 1) := by decide +kernel
theorem dX6_digest_103 : decode cX6_digest 103 = .ok (.ldc2_w 208, 3) := by decide +kernel
theorem dX6_digest_106 : decode cX6_digest 106 = .ok (.lload_n 1, 1) := by decide +kernel
theorem dX6_digest_107 : decode cX6_digest 107 = .ok (.lmul, 1) := by decide +kernel
theorem dX6_digest_108 : decode cX6_digest 108 = .ok (.aload_n 0, 1) := by decide +kernel
theorem dX6_digest_109 : decode cX6_digest 109 = .ok (.iload_n 3, 1) := by decide +kernel
theorem dX6_digest_110 : decode cX6_digest 110 = .ok (.invokevirtual 228, 3) := by decide +kernel
theorem dX6_digest_113 : decode cX6_digest 113 = .ok (.i2l, 1) := by decide +kernel
theorem dX6_digest_114 : decode cX6_digest 114 = .ok (.ladd, 1) := by decide +kernel
theorem dX6_digest_115 : decode cX6_digest 115 = .ok (.lstore_n 1, 1) := by decide +kernel
theorem dX6_digest_116 : decode cX6_digest 116 = .ok (.ldc2_w 208, 3) := by decide +kernel
theorem dX6_digest_119 : decode cX6_digest 119 = .ok (.lload_n 1, 1) := by decide +kernel
theorem dX6_digest_120 : decode cX6_digest 120 = .ok (.lmul, 1) := by decide +kernel
theorem dX6_digest_121 : decode cX6_digest 121 = .ok (.aload_n 0, 1) := by decide +kernel
theorem dX6_digest_122 : decode cX6_digest 122 = .ok (.iload_n 3, 1) := by decide +kernel
theorem dX6_digest_123 : decode cX6_digest 123 = .ok (.invokevirtual 231, 3) := by decide +kernel
theorem dX6_digest_126 : decode cX6_digest 126 = .ok (.i2l, 1) := by decide +kernel
theorem dX6_digest_127 : decode cX6_digest 127 = .ok (.ladd, 1) := by decide +kernel
theorem dX6_digest_128 : decode cX6_digest 128 = .ok (.lstore_n 1, 1) := by decide +kernel
theorem dX6_digest_129 : decode cX6_digest 129 = .ok (.iconst 0, 1) := by decide +kernel
theorem dX6_digest_130 : decode cX6_digest 130 = .ok (.istore 4, 2) := by decide +kernel
theorem dX6_digest_132 : decode cX6_digest 132 = .ok (.iload 4, 2) := by decide +kernel
theorem dX6_digest_134 : decode cX6_digest 134 = .ok (.iconst 3, 1) := by decide +kernel
theorem dX6_digest_135 : decode cX6_digest 135 = .ok (.if_icmp .ge 39, 3) := by decide +kernel
theorem dX6_digest_138 : decode cX6_digest 138 = .ok (.ldc2_w 208, 3) := by decide +kernel
theorem dX6_digest_141 : decode cX6_digest 141 = .ok (.lload_n 1, 1) := by decide +kernel
theorem dX6_digest_142 : decode cX6_digest 142 = .ok (.lmul, 1) := by decide +kernel
theorem dX6_digest_143 : decode cX6_digest 143 = .ok (.aload_n 0, 1) := by decide +kernel
theorem dX6_digest_144 : decode cX6_digest 144 = .ok (.iload_n 3, 1) := by decide +kernel
theorem dX6_digest_145 : decode cX6_digest 145 = .ok (.iload 4, 2) := by decide +kernel
theorem dX6_digest_147 : decode cX6_digest 147 = .ok (.invokevirtual 234, 3) := by decide +kernel
theorem dX6_digest_150 : decode cX6_digest 150 = .ok (.i2l, 1) := by decide +kernel
theorem dX6_digest_151 : decode cX6_digest 151 = .ok (.ladd, 1) := by decide +kernel
theorem dX6_digest_152 : decode cX6_digest 152 = .ok (.lstore_n 1, 1) := by decide +kernel
theorem dX6_digest_153 : decode cX6_digest 153 = .ok (.ldc2_w 208, 3) := by decide +kernel
theorem dX6_digest_156 : decode cX6_digest 156 = .ok (.lload_n 1, 1) := by decide +kernel
theorem dX6_digest_157 : decode cX6_digest 157 = .ok (.lmul, 1) := by decide +kernel
theorem dX6_digest_158 : decode cX6_digest 158 = .ok (.aload_n 0, 1) := by decide +kernel
theorem dX6_digest_159 : decode cX6_digest 159 = .ok (.iload_n 3, 1) := by decide +kernel
theorem dX6_digest_160 : decode cX6_digest 160 = .ok (.iload 4, 2) := by decide +kernel
theorem dX6_digest_162 : decode cX6_digest 162 = .ok (.invokevirtual 237, 3) := by decide +kernel
theorem dX6_digest_165 : decode cX6_digest 165 = .ok (.i2l, 1) := by decide +kernel
theorem dX6_digest_166 : decode cX6_digest 166 = .ok (.ladd, 1) := by decide +kernel
theorem dX6_digest_167 : decode cX6_digest 167 = .ok (.lstore_n 1, 1) := by decide +kernel
theorem dX6_digest_168 : decode cX6_digest 168 = .ok (.iinc 4 1, 3) := by decide +kernel
theorem dX6_digest_171 : decode cX6_digest 171 = .ok (.goto (-39), 3) := by decide +kernel
theorem dX6_digest_174 : decode cX6_digest 174 = .ok (.iinc 3 1, 3) := by decide +kernel
theorem dX6_digest_177 : decode cX6_digest 177 = .ok (.goto (-135), 3) := by decide +kernel
theorem dX6_digest_180 : decode cX6_digest 180 = .ok (.iconst 0, 1) := by decide +kernel
theorem dX6_digest_181 : decode cX6_digest 181 = .ok (.istore_n 3, 1) := by decide +kernel
theorem dX6_digest_182 : decode cX6_digest 182 = .ok (.iload_n 3, 1) := by decide +kernel
theorem dX6_digest_183 : decode cX6_digest 183 = .ok (.iconst 3, 1) := by decide +kernel
theorem dX6_digest_184 : decode cX6_digest 184 = .ok (.if_icmp .ge 22, 3) := by decide +kernel
theorem dX6_digest_187 : decode cX6_digest 187 = .ok (.ldc2_w 208, 3) := by decide +kernel
theorem dX6_digest_190 : decode cX6_digest 190 = .ok (.lload_n 1, 1) := by decide +kernel
theorem dX6_digest_191 : decode cX6_digest 191 = .ok (.lmul, 1) := by decide +kernel
theorem dX6_digest_192 : decode cX6_digest 192 = .ok (.aload_n 0, 1) := by decide +kernel
theorem dX6_digest_193 : decode cX6_digest 193 = .ok (.iload_n 3, 1) := by decide +kernel
theorem dX6_digest_194 : decode cX6_digest 194 = .ok (.invokevirtual 240, 3) := by decide +kernel
theorem dX6_digest_197 : decode cX6_digest 197 = .ok (.i2l, 1) := by decide +kernel
theorem dX6_digest_198 : decode cX6_digest 198 = .ok (.ladd, 1) := by decide +kernel
theorem dX6_digest_199 : decode cX6_digest 199 = .ok (.lstore_n 1, 1) := by decide +kernel
theorem dX6_digest_200 : decode cX6_digest 200 = .ok (.iinc 3 1, 3) := by decide +kernel
theorem dX6_digest_203 : decode cX6_digest 203 = .ok (.goto (-21), 3) := by decide +kernel
theorem dX6_digest_206 : decode cX6_digest 206 = .ok (.lload_n 1, 1) := by decide +kernel
theorem dX6_digest_207 : decode cX6_digest 207 = .ok (.lreturn, 1) := by decide +kernel
theorem dX6_fitsBehind_0 : decode cX6_fitsBehind 0 = .ok (.aload_n 0, 1) := by decide +kernel
theorem dX6_fitsBehind_1 : decode cX6_fitsBehind 1 = .ok (.getfield 12, 3) := by decide +kernel
theorem dX6_fitsBehind_4 : decode cX6_fitsBehind 4 = .ok (.getfield 66, 3) := by decide +kernel
theorem dX6_fitsBehind_7 : decode cX6_fitsBehind 7 = .ok (.aload_n 1, 1) := by decide +kernel
theorem dX6_fitsBehind_8 : decode cX6_fitsBehind 8 = .ok (.getfield 66, 3) := by decide +kernel
theorem dX6_fitsBehind_11 : decode cX6_fitsBehind 11 = .ok (.iadd, 1) := by decide +kernel
theorem dX6_fitsBehind_12 : decode cX6_fitsBehind 12 = .ok (.istore_n 2, 1) := by decide +kernel
theorem dX6_fitsBehind_13 : decode cX6_fitsBehind 13 = .ok (.iload_n 2, 1) := by decide +kernel
theorem dX6_fitsBehind_14 : decode cX6_fitsBehind 14 = .ok (.bipush 12, 2) := by decide +kernel
theorem dX6_fitsBehind_16 : decode cX6_fitsBehind 16 = .ok (.if_icmp .gt 15, 3) := by decide +kernel
theorem dX6_fitsBehind_19 : decode cX6_fitsBehind 19 = .ok (.aload_n 1, 1) := by decide +kernel
theorem dX6_fitsBehind_20 : decode cX6_fitsBehind 20 = .ok (.invokevirtual 62, 3) := by decide +kernel
theorem dX6_fitsBehind_23 : decode cX6_fitsBehind 23 = .ok (.iload_n 2, 1) := by decide +kernel
theorem dX6_fitsBehind_24 : decode cX6_fitsBehind 24 = .ok (.if_icmp .gt 7, 3) := by decide +kernel
theorem dX6_fitsBehind_27 : decode cX6_fitsBehind 27 = .ok (.iconst 1, 1) := by decide +kernel
theorem dX6_fitsBehind_28 : decode cX6_fitsBehind 28 = .ok (.goto 4, 3) := by decide +kernel
theorem dX6_fitsBehind_31 : decode cX6_fitsBehind 31 = .ok (.iconst 0, 1) := by decide +kernel
theorem dX6_fitsBehind_32 : decode cX6_fitsBehind 32 = .ok (.ireturn, 1) := by decide +kernel
theorem dX6_unprovedValues_0 : decode cX6_unprovedValues 0 = .ok (.iconst 0, 1) := by decide +kernel
theorem dX6_unprovedValues_1 : decode cX6_unprovedValues 1 = .ok (.istore_n 2, 1) := by decide +kernel
theorem dX6_unprovedValues_2 : decode cX6_unprovedValues 2 = .ok (.iconst 0, 1) := by decide +kernel
theorem dX6_unprovedValues_3 : decode cX6_unprovedValues 3 = .ok (.istore_n 3, 1) := by decide +kernel
theorem dX6_unprovedValues_4 : decode cX6_unprovedValues 4 = .ok (.iload_n 3, 1) := by decide +kernel
theorem dX6_unprovedValues_5 : decode cX6_unprovedValues 5 = .ok (.sipush 512, 3) := by decide +kernel
theorem dX6_unprovedValues_8 : decode cX6_unprovedValues 8 = .ok (.if_icmp .ge 45, 3) := by decide +kernel
theorem dX6_unprovedValues_11 : decode cX6_unprovedValues 11 = .ok (.aload_n 0, 1) := by decide +kernel
theorem dX6_unprovedValues_12 : decode cX6_unprovedValues 12 = .ok (.getfield 19, 3) := by decide +kernel
theorem dX6_unprovedValues_15 : decode cX6_unprovedValues 15 = .ok (.iload_n 1, 1) := by decide +kernel
theorem dX6_unprovedValues_16 : decode cX6_unprovedValues 16 = .ok (.iload_n 3, 1) := by decide +kernel
theorem dX6_unprovedValues_17 : decode cX6_unprovedValues 17 = .ok (.invokevirtual 243, 3) := by decide +kernel
theorem dX6_unprovedValues_20 : decode cX6_unprovedValues 20 = .ok (.ifCond .eq 27, 3) := by decide +kernel
theorem dX6_unprovedValues_23 : decode cX6_unprovedValues 23 = .ok (.aload_n 0, 1) := by decide +kernel
theorem dX6_unprovedValues_24 : decode cX6_unprovedValues 24 = .ok (.getfield 28, 3) := by decide +kernel
theorem dX6_unprovedValues_27 : decode cX6_unprovedValues 27 = .ok (.iload_n 3, 1) := by decide +kernel
theorem dX6_unprovedValues_28 : decode cX6_unprovedValues 28 = .ok (.invokevirtual 125, 3) := by decide +kernel
theorem dX6_unprovedValues_31 : decode cX6_unprovedValues 31 = .ok (.sipush 1000, 3) := by decide +kernel
theorem dX6_unprovedValues_34 : decode cX6_unprovedValues 34 = .ok (.if_icmp .ge 13, 3) := by decide +kernel
theorem dX6_unprovedValues_37 : decode cX6_unprovedValues 37 = .ok (.iload_n 2, 1) := by decide +kernel
theorem dX6_unprovedValues_38 : decode cX6_unprovedValues 38 = .ok (.iconst 1, 1) := by decide +kernel
theorem dX6_unprovedValues_39 : decode cX6_unprovedValues 39 = .ok (.iload_n 3, 1) := by decide +kernel
theorem dX6_unprovedValues_40 : decode cX6_unprovedValues 40 = .ok (.iload_n 1, 1) := by decide +kernel
theorem dX6_unprovedValues_41 : decode cX6_unprovedValues 41 = .ok (.invokestatic 247, 3) := by decide +kernel
theorem dX6_unprovedValues_44 : decode cX6_unprovedValues 44 = .ok (.ishl, 1) := by decide +kernel
theorem dX6_unprovedValues_45 : decode cX6_unprovedValues 45 = .ok (.ior, 1) := by decide +kernel
theorem dX6_unprovedValues_46 : decode cX6_unprovedValues 46 = .ok (.istore_n 2, 1) := by decide +kernel
theorem dX6_unprovedValues_47 : decode cX6_unprovedValues 47 = .ok (.iinc 3 1, 3) := by decide +kernel
theorem dX6_unprovedValues_50 : decode cX6_unprovedValues 50 = .ok (.goto (-46), 3) := by decide +kernel
theorem dX6_unprovedValues_53 : decode cX6_unprovedValues 53 = .ok (.iload_n 2, 1) := by decide +kernel
theorem dX6_unprovedValues_54 : decode cX6_unprovedValues 54 = .ok (.ireturn, 1) := by decide +kernel
theorem dX6_widestRange_0 : decode cX6_widestRange 0 = .ok (.iconst (-1), 1) := by decide +kernel
theorem dX6_widestRange_1 : decode cX6_widestRange 1 = .ok (.istore_n 1, 1) := by decide +kernel
theorem dX6_widestRange_2 : decode cX6_widestRange 2 = .ok (.iconst 0, 1) := by decide +kernel
theorem dX6_widestRange_3 : decode cX6_widestRange 3 = .ok (.istore_n 2, 1) := by decide +kernel
theorem dX6_widestRange_4 : decode cX6_widestRange 4 = .ok (.iconst 0, 1) := by decide +kernel
theorem dX6_widestRange_5 : decode cX6_widestRange 5 = .ok (.istore_n 3, 1) := by decide +kernel
theorem dX6_widestRange_6 : decode cX6_widestRange 6 = .ok (.iconst 0, 1) := by decide +kernel
theorem dX6_widestRange_7 : decode cX6_widestRange 7 = .ok (.istore 4, 2) := by decide +kernel
theorem dX6_widestRange_9 : decode cX6_widestRange 9 = .ok (.iload 4, 2) := by decide +kernel
theorem dX6_widestRange_11 : decode cX6_widestRange 11 = .ok (.bipush 8, 2) := by decide +kernel
theorem dX6_widestRange_13 : decode cX6_widestRange 13 = .ok (.if_icmp .ge 52, 3) := by decide +kernel
theorem dX6_widestRange_16 : decode cX6_widestRange 16 = .ok (.iload_n 0, 1) := by decide +kernel
theorem dX6_widestRange_17 : decode cX6_widestRange 17 = .ok (.iload 4, 2) := by decide +kernel
theorem dX6_widestRange_19 : decode cX6_widestRange 19 = .ok (.ishr, 1) := by decide +kernel
theorem dX6_widestRange_20 : decode cX6_widestRange 20 = .ok (.iconst 1, 1) := by decide +kernel
theorem dX6_widestRange_21 : decode cX6_widestRange 21 = .ok (.iand, 1) := by decide +kernel
theorem dX6_widestRange_22 : decode cX6_widestRange 22 = .ok (.iconst 1, 1) := by decide +kernel
theorem dX6_widestRange_23 : decode cX6_widestRange 23 = .ok (.if_icmp .ne 11, 3) := by decide +kernel
theorem dX6_widestRange_26 : decode cX6_widestRange 26 = .ok (.iload 4, 2) := by decide +kernel
theorem dX6_widestRange_28 : decode cX6_widestRange 28 = .ok (.iconst 1, 1) := by decide +kernel
theorem dX6_widestRange_29 : decode cX6_widestRange 29 = .ok (.iadd, 1) := by decide +kernel
theorem dX6_widestRange_30 : decode cX6_widestRange 30 = .ok (.istore_n 3, 1) := by decide +kernel
theorem dX6_widestRange_31 : decode cX6_widestRange 31 = .ok (.goto 28, 3) := by decide +kernel
theorem dX6_widestRange_34 : decode cX6_widestRange 34 = .ok (.iload 4, 2) := by decide +kernel
theorem dX6_widestRange_36 : decode cX6_widestRange 36 = .ok (.iload_n 3, 1) := by decide +kernel
theorem dX6_widestRange_37 : decode cX6_widestRange 37 = .ok (.isub, 1) := by decide +kernel
theorem dX6_widestRange_38 : decode cX6_widestRange 38 = .ok (.iconst 1, 1) := by decide +kernel
theorem dX6_widestRange_39 : decode cX6_widestRange 39 = .ok (.iadd, 1) := by decide +kernel
theorem dX6_widestRange_40 : decode cX6_widestRange 40 = .ok (.iload_n 2, 1) := by decide +kernel
theorem dX6_widestRange_41 : decode cX6_widestRange 41 = .ok (.if_icmp .le 18, 3) := by decide +kernel
theorem dX6_widestRange_44 : decode cX6_widestRange 44 = .ok (.iload 4, 2) := by decide +kernel
theorem dX6_widestRange_46 : decode cX6_widestRange 46 = .ok (.iload_n 3, 1) := by decide +kernel
theorem dX6_widestRange_47 : decode cX6_widestRange 47 = .ok (.isub, 1) := by decide +kernel
theorem dX6_widestRange_48 : decode cX6_widestRange 48 = .ok (.iconst 1, 1) := by decide +kernel
theorem dX6_widestRange_49 : decode cX6_widestRange 49 = .ok (.iadd, 1) := by decide +kernel
theorem dX6_widestRange_50 : decode cX6_widestRange 50 = .ok (.istore_n 2, 1) := by decide +kernel
theorem dX6_widestRange_51 : decode cX6_widestRange 51 = .ok (.bipush 10, 2) := by decide +kernel
theorem dX6_widestRange_53 : decode cX6_widestRange 53 = .ok (.iload_n 3, 1) := by decide +kernel
theorem dX6_widestRange_54 : decode cX6_widestRange 54 = .ok (.imul, 1) := by decide +kernel
theorem dX6_widestRange_55 : decode cX6_widestRange 55 = .ok (.iload 4, 2) := by decide +kernel
theorem dX6_widestRange_57 : decode cX6_widestRange 57 = .ok (.iadd, 1) := by decide +kernel
theorem dX6_widestRange_58 : decode cX6_widestRange 58 = .ok (.istore_n 1, 1) := by decide +kernel
theorem dX6_widestRange_59 : decode cX6_widestRange 59 = .ok (.iinc 4 1, 3) := by decide +kernel
theorem dX6_widestRange_62 : decode cX6_widestRange 62 = .ok (.goto (-53), 3) := by decide +kernel
theorem dX6_widestRange_65 : decode cX6_widestRange 65 = .ok (.iload_n 1, 1) := by decide +kernel
theorem dX6_widestRange_66 : decode cX6_widestRange 66 = .ok (.ireturn, 1) := by decide +kernel
theorem dX6_saveState_0 : decode cX6_saveState 0 = .ok (.aload_n 0, 1) := by decide +kernel
theorem dX6_saveState_1 : decode cX6_saveState 1 = .ok (.getfield 44, 3) := by decide +kernel
theorem dX6_saveState_4 : decode cX6_saveState 4 = .ok (.aload_n 0, 1) := by decide +kernel
theorem dX6_saveState_5 : decode cX6_saveState 5 = .ok (.getfield 12, 3) := by decide +kernel
theorem dX6_saveState_8 : decode cX6_saveState 8 = .ok (.aload_n 0, 1) := by decide +kernel
theorem dX6_saveState_9 : decode cX6_saveState 9 = .ok (.getfield 19, 3) := by decide +kernel
theorem dX6_saveState_12 : decode cX6_saveState 12 = .ok (.invokevirtual 250, 3) := by decide +kernel
theorem dX6_saveState_15 : decode cX6_saveState 15 = .ok (.return_, 1) := by decide +kernel
theorem dX6_forgetProgram_0 : decode cX6_forgetProgram 0 = .ok (.aload_n 0, 1) := by decide +kernel
theorem dX6_forgetProgram_1 : decode cX6_forgetProgram 1 = .ok (.getfield 28, 3) := by decide +kernel
theorem dX6_forgetProgram_4 : decode cX6_forgetProgram 4 = .ok (.invokevirtual 253, 3) := by decide +kernel
theorem dX6_forgetProgram_7 : decode cX6_forgetProgram 7 = .ok (.aload_n 0, 1) := by decide +kernel
theorem dX6_forgetProgram_8 : decode cX6_forgetProgram 8 = .ok (.getfield 37, 3) := by decide +kernel
theorem dX6_forgetProgram_11 : decode cX6_forgetProgram 11 = .ok (.invokevirtual 148, 3) := by decide +kernel
theorem dX6_forgetProgram_14 : decode cX6_forgetProgram 14 = .ok (.return_, 1) := by decide +kernel
theorem dX6_checkIndex_0 : decode cX6_checkIndex 0 = .ok (.iload_n 0, 1) := by decide +kernel
theorem dX6_checkIndex_1 : decode cX6_checkIndex 1 = .ok (.ifCond .lt 8, 3) := by decide +kernel
theorem dX6_checkIndex_4 : decode cX6_checkIndex 4 = .ok (.iload_n 0, 1) := by decide +kernel
theorem dX6_checkIndex_5 : decode cX6_checkIndex 5 = .ok (.iload_n 1, 1) := by decide +kernel
theorem dX6_checkIndex_6 : decode cX6_checkIndex 6 = .ok (.if_icmp .lt 14, 3) := by decide +kernel
theorem dX6_checkIndex_9 : decode cX6_checkIndex 9 = .ok (.new 254, 3) := by decide +kernel
theorem dX6_checkIndex_12 : decode cX6_checkIndex 12 = .ok (.dup, 1) := by decide +kernel
theorem dX6_checkIndex_13 : decode cX6_checkIndex 13 = .ok (.ldc_w 256, 3) := by decide +kernel
theorem dX6_checkIndex_16 : decode cX6_checkIndex 16 = .ok (.invokespecial 258, 3) := by decide +kernel
theorem dX6_checkIndex_19 : decode cX6_checkIndex 19 = .ok (.athrow, 1) := by decide +kernel
theorem dX6_checkIndex_20 : decode cX6_checkIndex 20 = .ok (.return_, 1) := by decide +kernel
theorem dX6_checkValues_0 : decode cX6_checkValues 0 = .ok (.iload_n 0, 1) := by decide +kernel
theorem dX6_checkValues_1 : decode cX6_checkValues 1 = .ok (.invokestatic 140, 3) := by decide +kernel
theorem dX6_checkValues_4 : decode cX6_checkValues 4 = .ok (.ifCond .eq 17, 3) := by decide +kernel
theorem dX6_checkValues_7 : decode cX6_checkValues 7 = .ok (.iload_n 1, 1) := by decide +kernel
theorem dX6_checkValues_8 : decode cX6_checkValues 8 = .ok (.invokestatic 140, 3) := by decide +kernel
theorem dX6_checkValues_11 : decode cX6_checkValues 11 = .ok (.ifCond .eq 10, 3) := by decide +kernel
theorem dX6_checkValues_14 : decode cX6_checkValues 14 = .ok (.iload_n 2, 1) := by decide +kernel
theorem dX6_checkValues_15 : decode cX6_checkValues 15 = .ok (.invokestatic 140, 3) := by decide +kernel
theorem dX6_checkValues_18 : decode cX6_checkValues 18 = .ok (.ifCond .ne 14, 3) := by decide +kernel
theorem dX6_checkValues_21 : decode cX6_checkValues 21 = .ok (.new 70, 3) := by decide +kernel
theorem dX6_checkValues_24 : decode cX6_checkValues 24 = .ok (.dup, 1) := by decide +kernel
theorem dX6_checkValues_25 : decode cX6_checkValues 25 = .ok (.ldc_w 259, 3) := by decide +kernel
theorem dX6_checkValues_28 : decode cX6_checkValues 28 = .ok (.invokespecial 74, 3) := by decide +kernel
theorem dX6_checkValues_31 : decode cX6_checkValues 31 = .ok (.athrow, 1) := by decide +kernel
theorem dX6_checkValues_32 : decode cX6_checkValues 32 = .ok (.return_, 1) := by decide +kernel
theorem dX6_isValue_0 : decode cX6_isValue 0 = .ok (.iload_n 0, 1) := by decide +kernel
theorem dX6_isValue_1 : decode cX6_isValue 1 = .ok (.ifCond .lt 13, 3) := by decide +kernel
theorem dX6_isValue_4 : decode cX6_isValue 4 = .ok (.iload_n 0, 1) := by decide +kernel
theorem dX6_isValue_5 : decode cX6_isValue 5 = .ok (.bipush 8, 2) := by decide +kernel
theorem dX6_isValue_7 : decode cX6_isValue 7 = .ok (.if_icmp .ge 7, 3) := by decide +kernel
theorem dX6_isValue_10 : decode cX6_isValue 10 = .ok (.iconst 1, 1) := by decide +kernel
theorem dX6_isValue_11 : decode cX6_isValue 11 = .ok (.goto 4, 3) := by decide +kernel
theorem dX6_isValue_14 : decode cX6_isValue 14 = .ok (.iconst 0, 1) := by decide +kernel
theorem dX6_isValue_15 : decode cX6_isValue 15 = .ok (.ireturn, 1) := by decide +kernel
theorem dX6_tripleOf_0 : decode cX6_tripleOf 0 = .ok (.bipush 64, 2) := by decide +kernel
theorem dX6_tripleOf_2 : decode cX6_tripleOf 2 = .ok (.iload_n 0, 1) := by decide +kernel
theorem dX6_tripleOf_3 : decode cX6_tripleOf 3 = .ok (.imul, 1) := by decide +kernel
theorem dX6_tripleOf_4 : decode cX6_tripleOf 4 = .ok (.bipush 8, 2) := by decide +kernel
theorem dX6_tripleOf_6 : decode cX6_tripleOf 6 = .ok (.iload_n 1, 1) := by decide +kernel
theorem dX6_tripleOf_7 : decode cX6_tripleOf 7 = .ok (.imul, 1) := by decide +kernel
theorem dX6_tripleOf_8 : decode cX6_tripleOf 8 = .ok (.iadd, 1) := by decide +kernel
theorem dX6_tripleOf_9 : decode cX6_tripleOf 9 = .ok (.iload_n 2, 1) := by decide +kernel
theorem dX6_tripleOf_10 : decode cX6_tripleOf 10 = .ok (.iadd, 1) := by decide +kernel
theorem dX6_tripleOf_11 : decode cX6_tripleOf 11 = .ok (.ireturn, 1) := by decide +kernel
theorem dX6_valueOf_0 : decode cX6_valueOf 0 = .ok (.iload_n 0, 1) := by decide +kernel
theorem dX6_valueOf_1 : decode cX6_valueOf 1 = .ok (.bipush 6, 2) := by decide +kernel
theorem dX6_valueOf_3 : decode cX6_valueOf 3 = .ok (.iconst 3, 1) := by decide +kernel
theorem dX6_valueOf_4 : decode cX6_valueOf 4 = .ok (.iload_n 1, 1) := by decide +kernel
theorem dX6_valueOf_5 : decode cX6_valueOf 5 = .ok (.imul, 1) := by decide +kernel
theorem dX6_valueOf_6 : decode cX6_valueOf 6 = .ok (.isub, 1) := by decide +kernel
theorem dX6_valueOf_7 : decode cX6_valueOf 7 = .ok (.ishr, 1) := by decide +kernel
theorem dX6_valueOf_8 : decode cX6_valueOf 8 = .ok (.bipush 7, 2) := by decide +kernel
theorem dX6_valueOf_10 : decode cX6_valueOf 10 = .ok (.iand, 1) := by decide +kernel
theorem dX6_valueOf_11 : decode cX6_valueOf 11 = .ok (.ireturn, 1) := by decide +kernel
theorem dX6_withValue_0 : decode cX6_withValue 0 = .ok (.bipush 6, 2) := by decide +kernel
theorem dX6_withValue_2 : decode cX6_withValue 2 = .ok (.iconst 3, 1) := by decide +kernel
theorem dX6_withValue_3 : decode cX6_withValue 3 = .ok (.iload_n 1, 1) := by decide +kernel
theorem dX6_withValue_4 : decode cX6_withValue 4 = .ok (.imul, 1) := by decide +kernel
theorem dX6_withValue_5 : decode cX6_withValue 5 = .ok (.isub, 1) := by decide +kernel
theorem dX6_withValue_6 : decode cX6_withValue 6 = .ok (.istore_n 3, 1) := by decide +kernel
theorem dX6_withValue_7 : decode cX6_withValue 7 = .ok (.iload_n 0, 1) := by decide +kernel
theorem dX6_withValue_8 : decode cX6_withValue 8 = .ok (.bipush 7, 2) := by decide +kernel
theorem dX6_withValue_10 : decode cX6_withValue 10 = .ok (.iload_n 3, 1) := by decide +kernel
theorem dX6_withValue_11 : decode cX6_withValue 11 = .ok (.ishl, 1) := by decide +kernel
theorem dX6_withValue_12 : decode cX6_withValue 12 = .ok (.iconst (-1), 1) := by decide +kernel
theorem dX6_withValue_13 : decode cX6_withValue 13 = .ok (.ixor, 1) := by decide +kernel
theorem dX6_withValue_14 : decode cX6_withValue 14 = .ok (.iand, 1) := by decide +kernel
theorem dX6_withValue_15 : decode cX6_withValue 15 = .ok (.iload_n 2, 1) := by decide +kernel
theorem dX6_withValue_16 : decode cX6_withValue 16 = .ok (.iload_n 3, 1) := by decide +kernel
theorem dX6_withValue_17 : decode cX6_withValue 17 = .ok (.ishl, 1) := by decide +kernel
theorem dX6_withValue_18 : decode cX6_withValue 18 = .ok (.ior, 1) := by decide +kernel
theorem dX6_withValue_19 : decode cX6_withValue 19 = .ok (.ireturn, 1) := by decide +kernel
theorem dX6_placeOf_0 : decode cX6_placeOf 0 = .ok (.iload_n 0, 1) := by decide +kernel
theorem dX6_placeOf_1 : decode cX6_placeOf 1 = .ok (.sipush 512, 3) := by decide +kernel
theorem dX6_placeOf_4 : decode cX6_placeOf 4 = .ok (.imul, 1) := by decide +kernel
theorem dX6_placeOf_5 : decode cX6_placeOf 5 = .ok (.iload_n 1, 1) := by decide +kernel
theorem dX6_placeOf_6 : decode cX6_placeOf 6 = .ok (.iadd, 1) := by decide +kernel
theorem dX6_placeOf_7 : decode cX6_placeOf 7 = .ok (.ireturn, 1) := by decide +kernel
theorem dX6_statementAt_0 : decode cX6_statementAt 0 = .ok (.iload_n 0, 1) := by decide +kernel
theorem dX6_statementAt_1 : decode cX6_statementAt 1 = .ok (.sipush 512, 3) := by decide +kernel
theorem dX6_statementAt_4 : decode cX6_statementAt 4 = .ok (.idiv, 1) := by decide +kernel
theorem dX6_statementAt_5 : decode cX6_statementAt 5 = .ok (.ireturn, 1) := by decide +kernel
theorem dX6_tripleAt_0 : decode cX6_tripleAt 0 = .ok (.iload_n 0, 1) := by decide +kernel
theorem dX6_tripleAt_1 : decode cX6_tripleAt 1 = .ok (.sipush 512, 3) := by decide +kernel
theorem dX6_tripleAt_4 : decode cX6_tripleAt 4 = .ok (.irem, 1) := by decide +kernel
theorem dX6_tripleAt_5 : decode cX6_tripleAt 5 = .ok (.ireturn, 1) := by decide +kernel
theorem dX7_init_0 : decode cX7_init 0 = .ok (.aload_n 0, 1) := by decide +kernel
theorem dX7_init_1 : decode cX7_init 1 = .ok (.invokespecial 1, 3) := by decide +kernel
theorem dX7_init_4 : decode cX7_init 4 = .ok (.aload_n 0, 1) := by decide +kernel
theorem dX7_init_5 : decode cX7_init 5 = .ok (.bipush 67, 2) := by decide +kernel
theorem dX7_init_7 : decode cX7_init 7 = .ok (.newarray .int, 2) := by decide +kernel
theorem dX7_init_9 : decode cX7_init 9 = .ok (.putfield 7, 3) := by decide +kernel
theorem dX7_init_12 : decode cX7_init 12 = .ok (.aload_n 0, 1) := by decide +kernel
theorem dX7_init_13 : decode cX7_init 13 = .ok (.sipush 402, 3) := by decide +kernel
theorem dX7_init_16 : decode cX7_init 16 = .ok (.newarray .int, 2) := by decide +kernel
theorem dX7_init_18 : decode cX7_init 18 = .ok (.putfield 13, 3) := by decide +kernel
theorem dX7_init_21 : decode cX7_init 21 = .ok (.aload_n 0, 1) := by decide +kernel
theorem dX7_init_22 : decode cX7_init 22 = .ok (.bipush 60, 2) := by decide +kernel
theorem dX7_init_24 : decode cX7_init 24 = .ok (.newarray .int, 2) := by decide +kernel
theorem dX7_init_26 : decode cX7_init 26 = .ok (.putfield 16, 3) := by decide +kernel
theorem dX7_init_29 : decode cX7_init 29 = .ok (.aload_n 0, 1) := by decide +kernel
theorem dX7_init_30 : decode cX7_init 30 = .ok (.bipush 60, 2) := by decide +kernel
theorem dX7_init_32 : decode cX7_init 32 = .ok (.newarray .int, 2) := by decide +kernel
theorem dX7_init_34 : decode cX7_init 34 = .ok (.putfield 19, 3) := by decide +kernel
theorem dX7_init_37 : decode cX7_init 37 = .ok (.aload_n 0, 1) := by decide +kernel
theorem dX7_init_38 : decode cX7_init 38 = .ok (.sipush 6656, 3) := by decide +kernel
theorem dX7_init_41 : decode cX7_init 41 = .ok (.newarray .int, 2) := by decide +kernel
theorem dX7_init_43 : decode cX7_init 43 = .ok (.putfield 22, 3) := by decide +kernel
theorem dX7_init_46 : decode cX7_init 46 = .ok (.aload_n 0, 1) := by decide +kernel
theorem dX7_init_47 : decode cX7_init 47 = .ok (.sipush 6656, 3) := by decide +kernel
theorem dX7_init_50 : decode cX7_init 50 = .ok (.newarray .boolean, 2) := by decide +kernel
theorem dX7_init_52 : decode cX7_init 52 = .ok (.putfield 25, 3) := by decide +kernel
theorem dX7_init_55 : decode cX7_init 55 = .ok (.iconst 0, 1) := by decide +kernel
theorem dX7_init_56 : decode cX7_init 56 = .ok (.istore_n 1, 1) := by decide +kernel
theorem dX7_init_57 : decode cX7_init 57 = .ok (.iload_n 1, 1) := by decide +kernel
theorem dX7_init_58 : decode cX7_init 58 = .ok (.iconst 3, 1) := by decide +kernel
theorem dX7_init_59 : decode cX7_init 59 = .ok (.if_icmp .ge 24, 3) := by decide +kernel
theorem dX7_init_62 : decode cX7_init 62 = .ok (.aload_n 0, 1) := by decide +kernel
theorem dX7_init_63 : decode cX7_init 63 = .ok (.getfield 7, 3) := by decide +kernel
theorem dX7_init_66 : decode cX7_init 66 = .ok (.bipush 61, 2) := by decide +kernel
theorem dX7_init_68 : decode cX7_init 68 = .ok (.iconst 2, 1) := by decide +kernel
theorem dX7_init_69 : decode cX7_init 69 = .ok (.iload_n 1, 1) := by decide +kernel
theorem dX7_init_70 : decode cX7_init 70 = .ok (.imul, 1) := by decide +kernel
theorem dX7_init_71 : decode cX7_init 71 = .ok (.iadd, 1) := by decide +kernel
theorem dX7_init_72 : decode cX7_init 72 = .ok (.iconst 1, 1) := by decide +kernel
theorem dX7_init_73 : decode cX7_init 73 = .ok (.iadd, 1) := by decide +kernel
theorem dX7_init_74 : decode cX7_init 74 = .ok (.bipush 7, 2) := by decide +kernel
theorem dX7_init_76 : decode cX7_init 76 = .ok (.iastore, 1) := by decide +kernel
theorem dX7_init_77 : decode cX7_init 77 = .ok (.iinc 1 1, 3) := by decide +kernel
theorem dX7_init_80 : decode cX7_init 80 = .ok (.goto (-23), 3) := by decide +kernel
theorem dX7_init_83 : decode cX7_init 83 = .ok (.return_, 1) := by decide +kernel
theorem dX7_thrown_0 : decode cX7_thrown 0 = .ok (.aload_n 0, 1) := by decide +kernel
theorem dX7_thrown_1 : decode cX7_thrown 1 = .ok (.getfield 29, 3) := by decide +kernel
theorem dX7_thrown_4 : decode cX7_thrown 4 = .ok (.ireturn, 1) := by decide +kernel
theorem dX7_in_0 : decode cX7_in 0 = .ok (.iload_n 0, 1) := by decide +kernel
theorem dX7_in_1 : decode cX7_in 1 = .ok (.iload_n 1, 1) := by decide +kernel
theorem dX7_in_2 : decode cX7_in 2 = .ok (.if_icmp .lt 12, 3) := by decide +kernel
theorem dX7_in_5 : decode cX7_in 5 = .ok (.iload_n 0, 1) := by decide +kernel
theorem dX7_in_6 : decode cX7_in 6 = .ok (.iload_n 2, 1) := by decide +kernel
theorem dX7_in_7 : decode cX7_in 7 = .ok (.if_icmp .gt 7, 3) := by decide +kernel
theorem dX7_in_10 : decode cX7_in 10 = .ok (.iconst 1, 1) := by decide +kernel
theorem dX7_in_11 : decode cX7_in 11 = .ok (.goto 4, 3) := by decide +kernel
theorem dX7_in_14 : decode cX7_in 14 = .ok (.iconst 0, 1) := by decide +kernel
theorem dX7_in_15 : decode cX7_in 15 = .ok (.ireturn, 1) := by decide +kernel
theorem dX7_holds_0 : decode cX7_holds 0 = .ok (.aload_n 0, 1) := by decide +kernel
theorem dX7_holds_1 : decode cX7_holds 1 = .ok (.iload_n 1, 1) := by decide +kernel
theorem dX7_holds_2 : decode cX7_holds 2 = .ok (.putfield 29, 3) := by decide +kernel
theorem dX7_holds_5 : decode cX7_holds 5 = .ok (.iload_n 1, 1) := by decide +kernel
theorem dX7_holds_6 : decode cX7_holds 6 = .ok (.ifCond .ne 7, 3) := by decide +kernel
theorem dX7_holds_9 : decode cX7_holds 9 = .ok (.iconst 1, 1) := by decide +kernel
theorem dX7_holds_10 : decode cX7_holds 10 = .ok (.goto 4, 3) := by decide +kernel
theorem dX7_holds_13 : decode cX7_holds 13 = .ok (.iconst 0, 1) := by decide +kernel
theorem dX7_holds_14 : decode cX7_holds 14 = .ok (.ireturn, 1) := by decide +kernel
theorem dX7_of_0 : decode cX7_of 0 = .ok (.iconst 1, 1) := by decide +kernel
theorem dX7_of_1 : decode cX7_of 1 = .ok (.iconst 5, 1) := by decide +kernel
theorem dX7_of_2 : decode cX7_of 2 = .ok (.iload_n 0, 1) := by decide +kernel
theorem dX7_of_3 : decode cX7_of 3 = .ok (.imul, 1) := by decide +kernel
theorem dX7_of_4 : decode cX7_of 4 = .ok (.iadd, 1) := by decide +kernel
theorem dX7_of_5 : decode cX7_of 5 = .ok (.iload_n 1, 1) := by decide +kernel
theorem dX7_of_6 : decode cX7_of 6 = .ok (.iadd, 1) := by decide +kernel
theorem dX7_of_7 : decode cX7_of 7 = .ok (.ireturn, 1) := by decide +kernel
theorem dX7_isStatement_0 : decode cX7_isStatement 0 = .ok (.iload_n 1, 1) := by decide +kernel
theorem dX7_isStatement_1 : decode cX7_isStatement 1 = .ok (.iconst 0, 1) := by decide +kernel
theorem dX7_isStatement_2 : decode cX7_isStatement 2 = .ok (.aload_n 0, 1) := by decide +kernel
theorem dX7_isStatement_3 : decode cX7_isStatement 3 = .ok (.getfield 7, 3) := by decide +kernel
theorem dX7_isStatement_6 : decode cX7_isStatement 6 = .ok (.iconst 0, 1) := by decide +kernel
theorem dX7_isStatement_7 : decode cX7_isStatement 7 = .ok (.iaload, 1) := by decide +kernel
theorem dX7_isStatement_8 : decode cX7_isStatement 8 = .ok (.iconst 1, 1) := by decide +kernel
theorem dX7_isStatement_9 : decode cX7_isStatement 9 = .ok (.isub, 1) := by decide +kernel
theorem dX7_isStatement_10 : decode cX7_isStatement 10 = .ok (.invokestatic 33, 3) := by decide +kernel
theorem dX7_isStatement_13 : decode cX7_isStatement 13 = .ok (.ireturn, 1) := by decide +kernel
theorem dX7_areValues_0 : decode cX7_areValues 0 = .ok (.iload_n 0, 1) := by decide +kernel
theorem dX7_areValues_1 : decode cX7_areValues 1 = .ok (.iconst 0, 1) := by decide +kernel
theorem dX7_areValues_2 : decode cX7_areValues 2 = .ok (.bipush 7, 2) := by decide +kernel
theorem dX7_areValues_4 : decode cX7_areValues 4 = .ok (.invokestatic 33, 3) := by decide +kernel
theorem dX7_areValues_7 : decode cX7_areValues 7 = .ok (.ifCond .eq 27, 3) := by decide +kernel
theorem dX7_areValues_10 : decode cX7_areValues 10 = .ok (.iload_n 1, 1) := by decide +kernel
theorem dX7_areValues_11 : decode cX7_areValues 11 = .ok (.iconst 0, 1) := by decide +kernel
theorem dX7_areValues_12 : decode cX7_areValues 12 = .ok (.bipush 7, 2) := by decide +kernel
theorem dX7_areValues_14 : decode cX7_areValues 14 = .ok (.invokestatic 33, 3) := by decide +kernel
theorem dX7_areValues_17 : decode cX7_areValues 17 = .ok (.ifCond .eq 17, 3) := by decide +kernel
theorem dX7_areValues_20 : decode cX7_areValues 20 = .ok (.iload_n 2, 1) := by decide +kernel
theorem dX7_areValues_21 : decode cX7_areValues 21 = .ok (.iconst 0, 1) := by decide +kernel
theorem dX7_areValues_22 : decode cX7_areValues 22 = .ok (.bipush 7, 2) := by decide +kernel
theorem dX7_areValues_24 : decode cX7_areValues 24 = .ok (.invokestatic 33, 3) := by decide +kernel
theorem dX7_areValues_27 : decode cX7_areValues 27 = .ok (.ifCond .eq 7, 3) := by decide +kernel
theorem dX7_areValues_30 : decode cX7_areValues 30 = .ok (.iconst 1, 1) := by decide +kernel
theorem dX7_areValues_31 : decode cX7_areValues 31 = .ok (.goto 4, 3) := by decide +kernel
theorem dX7_areValues_34 : decode cX7_areValues 34 = .ok (.iconst 0, 1) := by decide +kernel
theorem dX7_areValues_35 : decode cX7_areValues 35 = .ok (.ireturn, 1) := by decide +kernel
theorem dX7_triple_0 : decode cX7_triple 0 = .ok (.bipush 64, 2) := by decide +kernel
theorem dX7_triple_2 : decode cX7_triple 2 = .ok (.iload_n 0, 1) := by decide +kernel
theorem dX7_triple_3 : decode cX7_triple 3 = .ok (.imul, 1) := by decide +kernel
theorem dX7_triple_4 : decode cX7_triple 4 = .ok (.bipush 8, 2) := by decide +kernel
theorem dX7_triple_6 : decode cX7_triple 6 = .ok (.iload_n 1, 1) := by decide +kernel
theorem dX7_triple_7 : decode cX7_triple 7 = .ok (.imul, 1) := by decide +kernel
theorem dX7_triple_8 : decode cX7_triple 8 = .ok (.iadd, 1) := by decide +kernel
theorem dX7_triple_9 : decode cX7_triple 9 = .ok (.iload_n 2, 1) := by decide +kernel
theorem dX7_triple_10 : decode cX7_triple 10 = .ok (.iadd, 1) := by decide +kernel
theorem dX7_triple_11 : decode cX7_triple 11 = .ok (.ireturn, 1) := by decide +kernel
theorem dX7_save_0 : decode cX7_save 0 = .ok (.aload_n 0, 1) := by decide +kernel
theorem dX7_save_1 : decode cX7_save 1 = .ok (.getfield 37, 3) := by decide +kernel
theorem dX7_save_4 : decode cX7_save 4 = .ok (.bipush 6, 2) := by decide +kernel
theorem dX7_save_6 : decode cX7_save 6 = .ok (.if_icmp .ne 43, 3) := by decide +kernel
theorem dX7_save_9 : decode cX7_save 9 = .ok (.iconst 0, 1) := by decide +kernel
theorem dX7_save_10 : decode cX7_save 10 = .ok (.istore_n 1, 1) := by decide +kernel
theorem dX7_save_11 : decode cX7_save 11 = .ok (.iload_n 1, 1) := by decide +kernel
theorem dX7_save_12 : decode cX7_save 12 = .ok (.sipush 335, 3) := by decide +kernel
theorem dX7_save_15 : decode cX7_save 15 = .ok (.if_icmp .ge 24, 3) := by decide +kernel
theorem dX7_save_18 : decode cX7_save 18 = .ok (.aload_n 0, 1) := by decide +kernel
theorem dX7_save_19 : decode cX7_save 19 = .ok (.getfield 13, 3) := by decide +kernel
theorem dX7_save_22 : decode cX7_save 22 = .ok (.iload_n 1, 1) := by decide +kernel
theorem dX7_save_23 : decode cX7_save 23 = .ok (.aload_n 0, 1) := by decide +kernel
theorem dX7_save_24 : decode cX7_save 24 = .ok (.getfield 13, 3) := by decide +kernel
theorem dX7_save_27 : decode cX7_save 27 = .ok (.iload_n 1, 1) := by decide +kernel
theorem dX7_save_28 : decode cX7_save 28 = .ok (.bipush 67, 2) := by decide +kernel
theorem dX7_save_30 : decode cX7_save 30 = .ok (.iadd, 1) := by decide +kernel
theorem dX7_save_31 : decode cX7_save 31 = .ok (.iaload, 1) := by decide +kernel
theorem dX7_save_32 : decode cX7_save 32 = .ok (.iastore, 1) := by decide +kernel
theorem dX7_save_33 : decode cX7_save 33 = .ok (.iinc 1 1, 3) := by decide +kernel
theorem dX7_save_36 : decode cX7_save 36 = .ok (.goto (-25), 3) := by decide +kernel
theorem dX7_save_39 : decode cX7_save 39 = .ok (.aload_n 0, 1) := by decide +kernel
theorem dX7_save_40 : decode cX7_save 40 = .ok (.dup, 1) := by decide +kernel
theorem dX7_save_41 : decode cX7_save 41 = .ok (.getfield 37, 3) := by decide +kernel
theorem dX7_save_44 : decode cX7_save 44 = .ok (.iconst 1, 1) := by decide +kernel
theorem dX7_save_45 : decode cX7_save 45 = .ok (.isub, 1) := by decide +kernel
theorem dX7_save_46 : decode cX7_save 46 = .ok (.putfield 37, 3) := by decide +kernel
theorem dX7_save_49 : decode cX7_save 49 = .ok (.iconst 0, 1) := by decide +kernel
theorem dX7_save_50 : decode cX7_save 50 = .ok (.istore_n 1, 1) := by decide +kernel
theorem dX7_save_51 : decode cX7_save 51 = .ok (.iload_n 1, 1) := by decide +kernel
theorem dX7_save_52 : decode cX7_save 52 = .ok (.bipush 67, 2) := by decide +kernel
theorem dX7_save_54 : decode cX7_save 54 = .ok (.if_icmp .ge 29, 3) := by decide +kernel
theorem dX7_save_57 : decode cX7_save 57 = .ok (.aload_n 0, 1) := by decide +kernel
theorem dX7_save_58 : decode cX7_save 58 = .ok (.getfield 13, 3) := by decide +kernel
theorem dX7_save_61 : decode cX7_save 61 = .ok (.bipush 67, 2) := by decide +kernel
theorem dX7_save_63 : decode cX7_save 63 = .ok (.aload_n 0, 1) := by decide +kernel
theorem dX7_save_64 : decode cX7_save 64 = .ok (.getfield 37, 3) := by decide +kernel
theorem dX7_save_67 : decode cX7_save 67 = .ok (.imul, 1) := by decide +kernel
theorem dX7_save_68 : decode cX7_save 68 = .ok (.iload_n 1, 1) := by decide +kernel
theorem dX7_save_69 : decode cX7_save 69 = .ok (.iadd, 1) := by decide +kernel
theorem dX7_save_70 : decode cX7_save 70 = .ok (.aload_n 0, 1) := by decide +kernel
theorem dX7_save_71 : decode cX7_save 71 = .ok (.getfield 7, 3) := by decide +kernel
theorem dX7_save_74 : decode cX7_save 74 = .ok (.iload_n 1, 1) := by decide +kernel
theorem dX7_save_75 : decode cX7_save 75 = .ok (.iaload, 1) := by decide +kernel
theorem dX7_save_76 : decode cX7_save 76 = .ok (.iastore, 1) := by decide +kernel
theorem dX7_save_77 : decode cX7_save 77 = .ok (.iinc 1 1, 3) := by decide +kernel
theorem dX7_save_80 : decode cX7_save 80 = .ok (.goto (-29), 3) := by decide +kernel
theorem dX7_save_83 : decode cX7_save 83 = .ok (.aload_n 0, 1) := by decide +kernel
theorem dX7_save_84 : decode cX7_save 84 = .ok (.dup, 1) := by decide +kernel
theorem dX7_save_85 : decode cX7_save 85 = .ok (.getfield 37, 3) := by decide +kernel
theorem dX7_save_88 : decode cX7_save 88 = .ok (.iconst 1, 1) := by decide +kernel
theorem dX7_save_89 : decode cX7_save 89 = .ok (.iadd, 1) := by decide +kernel
theorem dX7_save_90 : decode cX7_save 90 = .ok (.putfield 37, 3) := by decide +kernel
theorem dX7_save_93 : decode cX7_save 93 = .ok (.return_, 1) := by decide +kernel
theorem dX7_valueOf_0 : decode cX7_valueOf 0 = .ok (.iload_n 1, 1) := by decide +kernel
theorem dX7_valueOf_1 : decode cX7_valueOf 1 = .ok (.ifCond .ne 10, 3) := by decide +kernel
theorem dX7_valueOf_4 : decode cX7_valueOf 4 = .ok (.iload_n 0, 1) := by decide +kernel
theorem dX7_valueOf_5 : decode cX7_valueOf 5 = .ok (.bipush 64, 2) := by decide +kernel
theorem dX7_valueOf_7 : decode cX7_valueOf 7 = .ok (.idiv, 1) := by decide +kernel
theorem dX7_valueOf_8 : decode cX7_valueOf 8 = .ok (.goto 22, 3) := by decide +kernel
theorem dX7_valueOf_11 : decode cX7_valueOf 11 = .ok (.iload_n 1, 1) := by decide +kernel
theorem dX7_valueOf_12 : decode cX7_valueOf 12 = .ok (.iconst 1, 1) := by decide +kernel
theorem dX7_valueOf_13 : decode cX7_valueOf 13 = .ok (.if_icmp .ne 13, 3) := by decide +kernel
theorem dX7_valueOf_16 : decode cX7_valueOf 16 = .ok (.iload_n 0, 1) := by decide +kernel
theorem dX7_valueOf_17 : decode cX7_valueOf 17 = .ok (.bipush 8, 2) := by decide +kernel
theorem dX7_valueOf_19 : decode cX7_valueOf 19 = .ok (.idiv, 1) := by decide +kernel
theorem dX7_valueOf_20 : decode cX7_valueOf 20 = .ok (.bipush 8, 2) := by decide +kernel
theorem dX7_valueOf_22 : decode cX7_valueOf 22 = .ok (.irem, 1) := by decide +kernel
theorem dX7_valueOf_23 : decode cX7_valueOf 23 = .ok (.goto 7, 3) := by decide +kernel
theorem dX7_valueOf_26 : decode cX7_valueOf 26 = .ok (.iload_n 0, 1) := by decide +kernel
theorem dX7_valueOf_27 : decode cX7_valueOf 27 = .ok (.bipush 8, 2) := by decide +kernel
theorem dX7_valueOf_29 : decode cX7_valueOf 29 = .ok (.irem, 1) := by decide +kernel
theorem dX7_valueOf_30 : decode cX7_valueOf 30 = .ok (.ireturn, 1) := by decide +kernel
theorem dX7_withValue_0 : decode cX7_withValue 0 = .ok (.iload_n 1, 1) := by decide +kernel
theorem dX7_withValue_1 : decode cX7_withValue 1 = .ok (.ifCond .ne 8, 3) := by decide +kernel
theorem dX7_withValue_4 : decode cX7_withValue 4 = .ok (.bipush 64, 2) := by decide +kernel
theorem dX7_withValue_6 : decode cX7_withValue 6 = .ok (.goto 14, 3) := by decide +kernel
theorem dX7_withValue_9 : decode cX7_withValue 9 = .ok (.iload_n 1, 1) := by decide +kernel
theorem dX7_withValue_10 : decode cX7_withValue 10 = .ok (.iconst 1, 1) := by decide +kernel
theorem dX7_withValue_11 : decode cX7_withValue 11 = .ok (.if_icmp .ne 8, 3) := by decide +kernel
theorem dX7_withValue_14 : decode cX7_withValue 14 = .ok (.bipush 8, 2) := by decide +kernel
theorem dX7_withValue_16 : decode cX7_withValue 16 = .ok (.goto 4, 3) := by decide +kernel
theorem dX7_withValue_19 : decode cX7_withValue 19 = .ok (.iconst 1, 1) := by decide +kernel
theorem dX7_withValue_20 : decode cX7_withValue 20 = .ok (.istore_n 3, 1) := by decide +kernel
theorem dX7_withValue_21 : decode cX7_withValue 21 = .ok (.iload_n 0, 1) := by decide +kernel
theorem dX7_withValue_22 : decode cX7_withValue 22 = .ok (.iload_n 3, 1) := by decide +kernel
theorem dX7_withValue_23 : decode cX7_withValue 23 = .ok (.iload_n 2, 1) := by decide +kernel
theorem dX7_withValue_24 : decode cX7_withValue 24 = .ok (.iload_n 0, 1) := by decide +kernel
theorem dX7_withValue_25 : decode cX7_withValue 25 = .ok (.iload_n 1, 1) := by decide +kernel
theorem dX7_withValue_26 : decode cX7_withValue 26 = .ok (.invokestatic 40, 3) := by decide +kernel
theorem dX7_withValue_29 : decode cX7_withValue 29 = .ok (.isub, 1) := by decide +kernel
theorem dX7_withValue_30 : decode cX7_withValue 30 = .ok (.imul, 1) := by decide +kernel
theorem dX7_withValue_31 : decode cX7_withValue 31 = .ok (.iadd, 1) := by decide +kernel
theorem dX7_withValue_32 : decode cX7_withValue 32 = .ok (.ireturn, 1) := by decide +kernel
theorem dX7_operand_0 : decode cX7_operand 0 = .ok (.aload_n 0, 1) := by decide +kernel
theorem dX7_operand_1 : decode cX7_operand 1 = .ok (.getfield 7, 3) := by decide +kernel
theorem dX7_operand_4 : decode cX7_operand 4 = .ok (.iload_n 1, 1) := by decide +kernel
theorem dX7_operand_5 : decode cX7_operand 5 = .ok (.iconst 3, 1) := by decide +kernel
theorem dX7_operand_6 : decode cX7_operand 6 = .ok (.invokestatic 44, 3) := by decide +kernel
theorem dX7_operand_9 : decode cX7_operand 9 = .ok (.iaload, 1) := by decide +kernel
theorem dX7_operand_10 : decode cX7_operand 10 = .ok (.istore_n 3, 1) := by decide +kernel
theorem dX7_operand_11 : decode cX7_operand 11 = .ok (.iload_n 3, 1) := by decide +kernel
theorem dX7_operand_12 : decode cX7_operand 12 = .ok (.iconst 3, 1) := by decide +kernel
theorem dX7_operand_13 : decode cX7_operand 13 = .ok (.if_icmp .ge 11, 3) := by decide +kernel
theorem dX7_operand_16 : decode cX7_operand 16 = .ok (.iload_n 2, 1) := by decide +kernel
theorem dX7_operand_17 : decode cX7_operand 17 = .ok (.iload_n 3, 1) := by decide +kernel
theorem dX7_operand_18 : decode cX7_operand 18 = .ok (.invokestatic 40, 3) := by decide +kernel
theorem dX7_operand_21 : decode cX7_operand 21 = .ok (.goto 6, 3) := by decide +kernel
theorem dX7_operand_24 : decode cX7_operand 24 = .ok (.iload_n 3, 1) := by decide +kernel
theorem dX7_operand_25 : decode cX7_operand 25 = .ok (.iconst 3, 1) := by decide +kernel
theorem dX7_operand_26 : decode cX7_operand 26 = .ok (.isub, 1) := by decide +kernel
theorem dX7_operand_27 : decode cX7_operand 27 = .ok (.ireturn, 1) := by decide +kernel
theorem dX7_isTrue_0 : decode cX7_isTrue 0 = .ok (.iload_n 2, 1) := by decide +kernel
theorem dX7_isTrue_1 : decode cX7_isTrue 1 = .ok (.aload_n 0, 1) := by decide +kernel
theorem dX7_isTrue_2 : decode cX7_isTrue 2 = .ok (.getfield 7, 3) := by decide +kernel
theorem dX7_isTrue_5 : decode cX7_isTrue 5 = .ok (.iload_n 1, 1) := by decide +kernel
theorem dX7_isTrue_6 : decode cX7_isTrue 6 = .ok (.iconst 1, 1) := by decide +kernel
theorem dX7_isTrue_7 : decode cX7_isTrue 7 = .ok (.invokestatic 44, 3) := by decide +kernel
theorem dX7_isTrue_10 : decode cX7_isTrue 10 = .ok (.iaload, 1) := by decide +kernel
theorem dX7_isTrue_11 : decode cX7_isTrue 11 = .ok (.invokestatic 40, 3) := by decide +kernel
theorem dX7_isTrue_14 : decode cX7_isTrue 14 = .ok (.istore_n 3, 1) := by decide +kernel
theorem dX7_isTrue_15 : decode cX7_isTrue 15 = .ok (.aload_n 0, 1) := by decide +kernel
theorem dX7_isTrue_16 : decode cX7_isTrue 16 = .ok (.iload_n 1, 1) := by decide +kernel
theorem dX7_isTrue_17 : decode cX7_isTrue 17 = .ok (.iload_n 2, 1) := by decide +kernel
theorem dX7_isTrue_18 : decode cX7_isTrue 18 = .ok (.invokevirtual 47, 3) := by decide +kernel
theorem dX7_isTrue_21 : decode cX7_isTrue 21 = .ok (.istore 4, 2) := by decide +kernel
theorem dX7_isTrue_23 : decode cX7_isTrue 23 = .ok (.aload_n 0, 1) := by decide +kernel
theorem dX7_isTrue_24 : decode cX7_isTrue 24 = .ok (.getfield 7, 3) := by decide +kernel
theorem dX7_isTrue_27 : decode cX7_isTrue 27 = .ok (.iload_n 1, 1) := by decide +kernel
theorem dX7_isTrue_28 : decode cX7_isTrue 28 = .ok (.iconst 2, 1) := by decide +kernel
theorem dX7_isTrue_29 : decode cX7_isTrue 29 = .ok (.invokestatic 44, 3) := by decide +kernel
theorem dX7_isTrue_32 : decode cX7_isTrue 32 = .ok (.iaload, 1) := by decide +kernel
theorem dX7_isTrue_33 : decode cX7_isTrue 33 = .ok (.tableswitch 63 60 62 #[39, 27, 51], 27) := by decide +kernel
theorem dX7_isTrue_60 : decode cX7_isTrue 60 = .ok (.iload_n 3, 1) := by decide +kernel
theorem dX7_isTrue_61 : decode cX7_isTrue 61 = .ok (.iload 4, 2) := by decide +kernel
theorem dX7_isTrue_63 : decode cX7_isTrue 63 = .ok (.if_icmp .ne 7, 3) := by decide +kernel
theorem dX7_isTrue_66 : decode cX7_isTrue 66 = .ok (.iconst 1, 1) := by decide +kernel
theorem dX7_isTrue_67 : decode cX7_isTrue 67 = .ok (.goto 4, 3) := by decide +kernel
theorem dX7_isTrue_70 : decode cX7_isTrue 70 = .ok (.iconst 0, 1) := by decide +kernel
theorem dX7_isTrue_71 : decode cX7_isTrue 71 = .ok (.ireturn, 1) := by decide +kernel
theorem dX7_isTrue_72 : decode cX7_isTrue 72 = .ok (.iload_n 3, 1) := by decide +kernel
theorem dX7_isTrue_73 : decode cX7_isTrue 73 = .ok (.iload 4, 2) := by decide +kernel
theorem dX7_isTrue_75 : decode cX7_isTrue 75 = .ok (.if_icmp .ge 7, 3) := by decide +kernel
theorem dX7_isTrue_78 : decode cX7_isTrue 78 = .ok (.iconst 1, 1) := by decide +kernel
theorem dX7_isTrue_79 : decode cX7_isTrue 79 = .ok (.goto 4, 3) := by decide +kernel
theorem dX7_isTrue_82 : decode cX7_isTrue 82 = .ok (.iconst 0, 1) := by decide +kernel
theorem dX7_isTrue_83 : decode cX7_isTrue 83 = .ok (.ireturn, 1) := by decide +kernel
theorem dX7_isTrue_84 : decode cX7_isTrue 84 = .ok (.iload_n 3, 1) := by decide +kernel
theorem dX7_isTrue_85 : decode cX7_isTrue 85 = .ok (.iload 4, 2) := by decide +kernel
theorem dX7_isTrue_87 : decode cX7_isTrue 87 = .ok (.if_icmp .le 7, 3) := by decide +kernel
theorem dX7_isTrue_90 : decode cX7_isTrue 90 = .ok (.iconst 1, 1) := by decide +kernel
theorem dX7_isTrue_91 : decode cX7_isTrue 91 = .ok (.goto 4, 3) := by decide +kernel
theorem dX7_isTrue_94 : decode cX7_isTrue 94 = .ok (.iconst 0, 1) := by decide +kernel
theorem dX7_isTrue_95 : decode cX7_isTrue 95 = .ok (.ireturn, 1) := by decide +kernel
theorem dX7_isTrue_96 : decode cX7_isTrue 96 = .ok (.iload_n 3, 1) := by decide +kernel
theorem dX7_isTrue_97 : decode cX7_isTrue 97 = .ok (.iload 4, 2) := by decide +kernel
theorem dX7_isTrue_99 : decode cX7_isTrue 99 = .ok (.if_icmp .eq 7, 3) := by decide +kernel
theorem dX7_isTrue_102 : decode cX7_isTrue 102 = .ok (.iconst 1, 1) := by decide +kernel
theorem dX7_isTrue_103 : decode cX7_isTrue 103 = .ok (.goto 4, 3) := by decide +kernel
theorem dX7_isTrue_106 : decode cX7_isTrue 106 = .ok (.iconst 0, 1) := by decide +kernel
theorem dX7_isTrue_107 : decode cX7_isTrue 107 = .ok (.ireturn, 1) := by decide +kernel
theorem dX7_goesTo_0 : decode cX7_goesTo 0 = .ok (.iload_n 1, 1) := by decide +kernel
theorem dX7_goesTo_1 : decode cX7_goesTo 1 = .ok (.sipush 512, 3) := by decide +kernel
theorem dX7_goesTo_4 : decode cX7_goesTo 4 = .ok (.idiv, 1) := by decide +kernel
theorem dX7_goesTo_5 : decode cX7_goesTo 5 = .ok (.istore_n 2, 1) := by decide +kernel
theorem dX7_goesTo_6 : decode cX7_goesTo 6 = .ok (.iload_n 1, 1) := by decide +kernel
theorem dX7_goesTo_7 : decode cX7_goesTo 7 = .ok (.sipush 512, 3) := by decide +kernel
theorem dX7_goesTo_10 : decode cX7_goesTo 10 = .ok (.irem, 1) := by decide +kernel
theorem dX7_goesTo_11 : decode cX7_goesTo 11 = .ok (.istore_n 3, 1) := by decide +kernel
theorem dX7_goesTo_12 : decode cX7_goesTo 12 = .ok (.aload_n 0, 1) := by decide +kernel
theorem dX7_goesTo_13 : decode cX7_goesTo 13 = .ok (.getfield 7, 3) := by decide +kernel
theorem dX7_goesTo_16 : decode cX7_goesTo 16 = .ok (.iload_n 2, 1) := by decide +kernel
theorem dX7_goesTo_17 : decode cX7_goesTo 17 = .ok (.iconst 0, 1) := by decide +kernel
theorem dX7_goesTo_18 : decode cX7_goesTo 18 = .ok (.invokestatic 44, 3) := by decide +kernel
theorem dX7_goesTo_21 : decode cX7_goesTo 21 = .ok (.iaload, 1) := by decide +kernel
theorem dX7_goesTo_22 : decode cX7_goesTo 22 = .ok (.istore 4, 2) := by decide +kernel
theorem dX7_goesTo_24 : decode cX7_goesTo 24 = .ok (.iload 4, 2) := by decide +kernel
theorem dX7_goesTo_26 : decode cX7_goesTo 26 = .ok (.ifCond .ne 53, 3) := by decide +kernel
theorem dX7_goesTo_29 : decode cX7_goesTo 29 = .ok (.aload_n 0, 1) := by decide +kernel
theorem dX7_goesTo_30 : decode cX7_goesTo 30 = .ok (.iload_n 2, 1) := by decide +kernel
theorem dX7_goesTo_31 : decode cX7_goesTo 31 = .ok (.iload_n 3, 1) := by decide +kernel
theorem dX7_goesTo_32 : decode cX7_goesTo 32 = .ok (.invokevirtual 47, 3) := by decide +kernel
theorem dX7_goesTo_35 : decode cX7_goesTo 35 = .ok (.aload_n 0, 1) := by decide +kernel
theorem dX7_goesTo_36 : decode cX7_goesTo 36 = .ok (.getfield 7, 3) := by decide +kernel
theorem dX7_goesTo_39 : decode cX7_goesTo 39 = .ok (.iload_n 2, 1) := by decide +kernel
theorem dX7_goesTo_40 : decode cX7_goesTo 40 = .ok (.iconst 4, 1) := by decide +kernel
theorem dX7_goesTo_41 : decode cX7_goesTo 41 = .ok (.invokestatic 44, 3) := by decide +kernel
theorem dX7_goesTo_44 : decode cX7_goesTo 44 = .ok (.iaload, 1) := by decide +kernel
theorem dX7_goesTo_45 : decode cX7_goesTo 45 = .ok (.iadd, 1) := by decide +kernel
theorem dX7_goesTo_46 : decode cX7_goesTo 46 = .ok (.bipush 8, 2) := by decide +kernel
theorem dX7_goesTo_48 : decode cX7_goesTo 48 = .ok (.iadd, 1) := by decide +kernel
theorem dX7_goesTo_49 : decode cX7_goesTo 49 = .ok (.bipush 8, 2) := by decide +kernel
theorem dX7_goesTo_51 : decode cX7_goesTo 51 = .ok (.irem, 1) := by decide +kernel
theorem dX7_goesTo_52 : decode cX7_goesTo 52 = .ok (.istore 5, 2) := by decide +kernel
theorem dX7_goesTo_54 : decode cX7_goesTo 54 = .ok (.sipush 512, 3) := by decide +kernel
theorem dX7_goesTo_57 : decode cX7_goesTo 57 = .ok (.iload_n 2, 1) := by decide +kernel
theorem dX7_goesTo_58 : decode cX7_goesTo 58 = .ok (.iconst 1, 1) := by decide +kernel
theorem dX7_goesTo_59 : decode cX7_goesTo 59 = .ok (.iadd, 1) := by decide +kernel
theorem dX7_goesTo_60 : decode cX7_goesTo 60 = .ok (.imul, 1) := by decide +kernel
theorem dX7_goesTo_61 : decode cX7_goesTo 61 = .ok (.iload_n 3, 1) := by decide +kernel
theorem dX7_goesTo_62 : decode cX7_goesTo 62 = .ok (.aload_n 0, 1) := by decide +kernel
theorem dX7_goesTo_63 : decode cX7_goesTo 63 = .ok (.getfield 7, 3) := by decide +kernel
theorem dX7_goesTo_66 : decode cX7_goesTo 66 = .ok (.iload_n 2, 1) := by decide +kernel
theorem dX7_goesTo_67 : decode cX7_goesTo 67 = .ok (.iconst 1, 1) := by decide +kernel
theorem dX7_goesTo_68 : decode cX7_goesTo 68 = .ok (.invokestatic 44, 3) := by decide +kernel
theorem dX7_goesTo_71 : decode cX7_goesTo 71 = .ok (.iaload, 1) := by decide +kernel
theorem dX7_goesTo_72 : decode cX7_goesTo 72 = .ok (.iload 5, 2) := by decide +kernel
theorem dX7_goesTo_74 : decode cX7_goesTo 74 = .ok (.invokestatic 50, 3) := by decide +kernel
theorem dX7_goesTo_77 : decode cX7_goesTo 77 = .ok (.iadd, 1) := by decide +kernel
theorem dX7_goesTo_78 : decode cX7_goesTo 78 = .ok (.ireturn, 1) := by decide +kernel
theorem dX7_goesTo_79 : decode cX7_goesTo 79 = .ok (.aload_n 0, 1) := by decide +kernel
theorem dX7_goesTo_80 : decode cX7_goesTo 80 = .ok (.iload_n 2, 1) := by decide +kernel
theorem dX7_goesTo_81 : decode cX7_goesTo 81 = .ok (.iload_n 3, 1) := by decide +kernel
theorem dX7_goesTo_82 : decode cX7_goesTo 82 = .ok (.invokevirtual 54, 3) := by decide +kernel
theorem dX7_goesTo_85 : decode cX7_goesTo 85 = .ok (.istore 5, 2) := by decide +kernel
theorem dX7_goesTo_87 : decode cX7_goesTo 87 = .ok (.iload 4, 2) := by decide +kernel
theorem dX7_goesTo_89 : decode cX7_goesTo 89 = .ok (.iconst 1, 1) := by decide +kernel
theorem dX7_goesTo_90 : decode cX7_goesTo 90 = .ok (.if_icmp .ne 18, 3) := by decide +kernel
theorem dX7_goesTo_93 : decode cX7_goesTo 93 = .ok (.iload 5, 2) := by decide +kernel
theorem dX7_goesTo_95 : decode cX7_goesTo 95 = .ok (.ifCond .eq 11, 3) := by decide +kernel
theorem dX7_goesTo_98 : decode cX7_goesTo 98 = .ok (.iload_n 1, 1) := by decide +kernel
theorem dX7_goesTo_99 : decode cX7_goesTo 99 = .ok (.sipush 512, 3) := by decide +kernel
theorem dX7_goesTo_102 : decode cX7_goesTo 102 = .ok (.iadd, 1) := by decide +kernel
theorem dX7_goesTo_103 : decode cX7_goesTo 103 = .ok (.goto 4, 3) := by decide +kernel
theorem dX7_goesTo_106 : decode cX7_goesTo 106 = .ok (.iconst (-1), 1) := by decide +kernel
theorem dX7_goesTo_107 : decode cX7_goesTo 107 = .ok (.ireturn, 1) := by decide +kernel
theorem dX7_goesTo_108 : decode cX7_goesTo 108 = .ok (.iload 5, 2) := by decide +kernel
theorem dX7_goesTo_110 : decode cX7_goesTo 110 = .ok (.ifCond .eq 22, 3) := by decide +kernel
theorem dX7_goesTo_113 : decode cX7_goesTo 113 = .ok (.sipush 512, 3) := by decide +kernel
theorem dX7_goesTo_116 : decode cX7_goesTo 116 = .ok (.aload_n 0, 1) := by decide +kernel
theorem dX7_goesTo_117 : decode cX7_goesTo 117 = .ok (.getfield 7, 3) := by decide +kernel
theorem dX7_goesTo_120 : decode cX7_goesTo 120 = .ok (.iload_n 2, 1) := by decide +kernel
theorem dX7_goesTo_121 : decode cX7_goesTo 121 = .ok (.iconst 4, 1) := by decide +kernel
theorem dX7_goesTo_122 : decode cX7_goesTo 122 = .ok (.invokestatic 44, 3) := by decide +kernel
theorem dX7_goesTo_125 : decode cX7_goesTo 125 = .ok (.iaload, 1) := by decide +kernel
theorem dX7_goesTo_126 : decode cX7_goesTo 126 = .ok (.imul, 1) := by decide +kernel
theorem dX7_goesTo_127 : decode cX7_goesTo 127 = .ok (.iload_n 3, 1) := by decide +kernel
theorem dX7_goesTo_128 : decode cX7_goesTo 128 = .ok (.iadd, 1) := by decide +kernel
theorem dX7_goesTo_129 : decode cX7_goesTo 129 = .ok (.goto 8, 3) := by decide +kernel
theorem dX7_goesTo_132 : decode cX7_goesTo 132 = .ok (.iload_n 1, 1) := by decide +kernel
theorem dX7_goesTo_133 : decode cX7_goesTo 133 = .ok (.sipush 512, 3) := by decide +kernel
theorem dX7_goesTo_136 : decode cX7_goesTo 136 = .ok (.iadd, 1) := by decide +kernel
theorem dX7_goesTo_137 : decode cX7_goesTo 137 = .ok (.ireturn, 1) := by decide +kernel
theorem dX7_isEnd_0 : decode cX7_isEnd 0 = .ok (.iload_n 1, 1) := by decide +kernel
theorem dX7_isEnd_1 : decode cX7_isEnd 1 = .ok (.sipush 512, 3) := by decide +kernel
theorem dX7_isEnd_4 : decode cX7_isEnd 4 = .ok (.idiv, 1) := by decide +kernel
theorem dX7_isEnd_5 : decode cX7_isEnd 5 = .ok (.aload_n 0, 1) := by decide +kernel
theorem dX7_isEnd_6 : decode cX7_isEnd 6 = .ok (.getfield 7, 3) := by decide +kernel
theorem dX7_isEnd_9 : decode cX7_isEnd 9 = .ok (.iconst 0, 1) := by decide +kernel
theorem dX7_isEnd_10 : decode cX7_isEnd 10 = .ok (.iaload, 1) := by decide +kernel
theorem dX7_isEnd_11 : decode cX7_isEnd 11 = .ok (.if_icmp .ne 7, 3) := by decide +kernel
theorem dX7_isEnd_14 : decode cX7_isEnd 14 = .ok (.iconst 1, 1) := by decide +kernel
theorem dX7_isEnd_15 : decode cX7_isEnd 15 = .ok (.goto 4, 3) := by decide +kernel
theorem dX7_isEnd_18 : decode cX7_isEnd 18 = .ok (.iconst 0, 1) := by decide +kernel
theorem dX7_isEnd_19 : decode cX7_isEnd 19 = .ok (.ireturn, 1) := by decide +kernel
theorem dX7_follows_0 : decode cX7_follows 0 = .ok (.iload_n 1, 1) := by decide +kernel
theorem dX7_follows_1 : decode cX7_follows 1 = .ok (.istore_n 2, 1) := by decide +kernel
theorem dX7_follows_2 : decode cX7_follows 2 = .ok (.iload_n 1, 1) := by decide +kernel
theorem dX7_follows_3 : decode cX7_follows 3 = .ok (.istore_n 3, 1) := by decide +kernel
theorem dX7_follows_4 : decode cX7_follows 4 = .ok (.iload_n 2, 1) := by decide +kernel
theorem dX7_follows_5 : decode cX7_follows 5 = .ok (.iconst (-1), 1) := by decide +kernel
theorem dX7_follows_6 : decode cX7_follows 6 = .ok (.if_icmp .eq 41, 3) := by decide +kernel
theorem dX7_follows_9 : decode cX7_follows 9 = .ok (.aload_n 0, 1) := by decide +kernel
theorem dX7_follows_10 : decode cX7_follows 10 = .ok (.getfield 22, 3) := by decide +kernel
theorem dX7_follows_13 : decode cX7_follows 13 = .ok (.iload_n 2, 1) := by decide +kernel
theorem dX7_follows_14 : decode cX7_follows 14 = .ok (.iaload, 1) := by decide +kernel
theorem dX7_follows_15 : decode cX7_follows 15 = .ok (.bipush (-2), 2) := by decide +kernel
theorem dX7_follows_17 : decode cX7_follows 17 = .ok (.if_icmp .ne 30, 3) := by decide +kernel
theorem dX7_follows_20 : decode cX7_follows 20 = .ok (.aload_n 0, 1) := by decide +kernel
theorem dX7_follows_21 : decode cX7_follows 21 = .ok (.iload_n 2, 1) := by decide +kernel
theorem dX7_follows_22 : decode cX7_follows 22 = .ok (.invokevirtual 58, 3) := by decide +kernel
theorem dX7_follows_25 : decode cX7_follows 25 = .ok (.ifCond .ne 22, 3) := by decide +kernel
theorem dX7_follows_28 : decode cX7_follows 28 = .ok (.aload_n 0, 1) := by decide +kernel
theorem dX7_follows_29 : decode cX7_follows 29 = .ok (.getfield 22, 3) := by decide +kernel
theorem dX7_follows_32 : decode cX7_follows 32 = .ok (.iload_n 2, 1) := by decide +kernel
theorem dX7_follows_33 : decode cX7_follows 33 = .ok (.bipush (-3), 2) := by decide +kernel
theorem dX7_follows_35 : decode cX7_follows 35 = .ok (.iastore, 1) := by decide +kernel
theorem dX7_follows_36 : decode cX7_follows 36 = .ok (.iload_n 2, 1) := by decide +kernel
theorem dX7_follows_37 : decode cX7_follows 37 = .ok (.istore_n 3, 1) := by decide +kernel
theorem dX7_follows_38 : decode cX7_follows 38 = .ok (.aload_n 0, 1) := by decide +kernel
theorem dX7_follows_39 : decode cX7_follows 39 = .ok (.iload_n 2, 1) := by decide +kernel
theorem dX7_follows_40 : decode cX7_follows 40 = .ok (.invokevirtual 62, 3) := by decide +kernel
theorem dX7_follows_43 : decode cX7_follows 43 = .ok (.istore_n 2, 1) := by decide +kernel
theorem dX7_follows_44 : decode cX7_follows 44 = .ok (.goto (-40), 3) := by decide +kernel
theorem dX7_follows_47 : decode cX7_follows 47 = .ok (.iload_n 2, 1) := by decide +kernel
theorem dX7_follows_48 : decode cX7_follows 48 = .ok (.iconst (-1), 1) := by decide +kernel
theorem dX7_follows_49 : decode cX7_follows 49 = .ok (.if_icmp .ne 11, 3) := by decide +kernel
theorem dX7_follows_52 : decode cX7_follows 52 = .ok (.iload_n 3, 1) := by decide +kernel
theorem dX7_follows_53 : decode cX7_follows 53 = .ok (.sipush 512, 3) := by decide +kernel
theorem dX7_follows_56 : decode cX7_follows 56 = .ok (.idiv, 1) := by decide +kernel
theorem dX7_follows_57 : decode cX7_follows 57 = .ok (.goto 44, 3) := by decide +kernel
theorem dX7_follows_60 : decode cX7_follows 60 = .ok (.aload_n 0, 1) := by decide +kernel
theorem dX7_follows_61 : decode cX7_follows 61 = .ok (.iload_n 2, 1) := by decide +kernel
theorem dX7_follows_62 : decode cX7_follows 62 = .ok (.invokevirtual 58, 3) := by decide +kernel
theorem dX7_follows_65 : decode cX7_follows 65 = .ok (.ifCond .eq 15, 3) := by decide +kernel
theorem dX7_follows_68 : decode cX7_follows 68 = .ok (.sipush 1000, 3) := by decide +kernel
theorem dX7_follows_71 : decode cX7_follows 71 = .ok (.iload_n 2, 1) := by decide +kernel
theorem dX7_follows_72 : decode cX7_follows 72 = .ok (.sipush 512, 3) := by decide +kernel
theorem dX7_follows_75 : decode cX7_follows 75 = .ok (.irem, 1) := by decide +kernel
theorem dX7_follows_76 : decode cX7_follows 76 = .ok (.iadd, 1) := by decide +kernel
theorem dX7_follows_77 : decode cX7_follows 77 = .ok (.goto 24, 3) := by decide +kernel
theorem dX7_follows_80 : decode cX7_follows 80 = .ok (.aload_n 0, 1) := by decide +kernel
theorem dX7_follows_81 : decode cX7_follows 81 = .ok (.getfield 22, 3) := by decide +kernel
theorem dX7_follows_84 : decode cX7_follows 84 = .ok (.iload_n 2, 1) := by decide +kernel
theorem dX7_follows_85 : decode cX7_follows 85 = .ok (.iaload, 1) := by decide +kernel
theorem dX7_follows_86 : decode cX7_follows 86 = .ok (.bipush (-3), 2) := by decide +kernel
theorem dX7_follows_88 : decode cX7_follows 88 = .ok (.if_icmp .ne 7, 3) := by decide +kernel
theorem dX7_follows_91 : decode cX7_follows 91 = .ok (.iconst (-1), 1) := by decide +kernel
theorem dX7_follows_92 : decode cX7_follows 92 = .ok (.goto 9, 3) := by decide +kernel
theorem dX7_follows_95 : decode cX7_follows 95 = .ok (.aload_n 0, 1) := by decide +kernel
theorem dX7_follows_96 : decode cX7_follows 96 = .ok (.getfield 22, 3) := by decide +kernel
theorem dX7_follows_99 : decode cX7_follows 99 = .ok (.iload_n 2, 1) := by decide +kernel
theorem dX7_follows_100 : decode cX7_follows 100 = .ok (.iaload, 1) := by decide +kernel
theorem dX7_follows_101 : decode cX7_follows 101 = .ok (.istore 4, 2) := by decide +kernel
theorem dX7_follows_103 : decode cX7_follows 103 = .ok (.iload_n 1, 1) := by decide +kernel
theorem dX7_follows_104 : decode cX7_follows 104 = .ok (.istore_n 2, 1) := by decide +kernel
theorem dX7_follows_105 : decode cX7_follows 105 = .ok (.iload_n 2, 1) := by decide +kernel
theorem dX7_follows_106 : decode cX7_follows 106 = .ok (.iconst (-1), 1) := by decide +kernel
theorem dX7_follows_107 : decode cX7_follows 107 = .ok (.if_icmp .eq 31, 3) := by decide +kernel
theorem dX7_follows_110 : decode cX7_follows 110 = .ok (.aload_n 0, 1) := by decide +kernel
theorem dX7_follows_111 : decode cX7_follows 111 = .ok (.getfield 22, 3) := by decide +kernel
theorem dX7_follows_114 : decode cX7_follows 114 = .ok (.iload_n 2, 1) := by decide +kernel
theorem dX7_follows_115 : decode cX7_follows 115 = .ok (.iaload, 1) := by decide +kernel
theorem dX7_follows_116 : decode cX7_follows 116 = .ok (.bipush (-3), 2) := by decide +kernel
theorem dX7_follows_118 : decode cX7_follows 118 = .ok (.if_icmp .ne 20, 3) := by decide +kernel
theorem dX7_follows_121 : decode cX7_follows 121 = .ok (.aload_n 0, 1) := by decide +kernel
theorem dX7_follows_122 : decode cX7_follows 122 = .ok (.getfield 22, 3) := by decide +kernel
theorem dX7_follows_125 : decode cX7_follows 125 = .ok (.iload_n 2, 1) := by decide +kernel
theorem dX7_follows_126 : decode cX7_follows 126 = .ok (.iload 4, 2) := by decide +kernel
theorem dX7_follows_128 : decode cX7_follows 128 = .ok (.iastore, 1) := by decide +kernel
theorem dX7_follows_129 : decode cX7_follows 129 = .ok (.aload_n 0, 1) := by decide +kernel
theorem dX7_follows_130 : decode cX7_follows 130 = .ok (.iload_n 2, 1) := by decide +kernel
theorem dX7_follows_131 : decode cX7_follows 131 = .ok (.invokevirtual 62, 3) := by decide +kernel
theorem dX7_follows_134 : decode cX7_follows 134 = .ok (.istore_n 2, 1) := by decide +kernel
theorem dX7_follows_135 : decode cX7_follows 135 = .ok (.goto (-30), 3) := by decide +kernel
theorem dX7_follows_138 : decode cX7_follows 138 = .ok (.return_, 1) := by decide +kernel
theorem dX7_worksOut_0 : decode cX7_worksOut 0 = .ok (.iconst 0, 1) := by decide +kernel
theorem dX7_worksOut_1 : decode cX7_worksOut 1 = .ok (.istore_n 1, 1) := by decide +kernel
theorem dX7_worksOut_2 : decode cX7_worksOut 2 = .ok (.iload_n 1, 1) := by decide +kernel
theorem dX7_worksOut_3 : decode cX7_worksOut 3 = .ok (.sipush 512, 3) := by decide +kernel
theorem dX7_worksOut_6 : decode cX7_worksOut 6 = .ok (.aload_n 0, 1) := by decide +kernel
theorem dX7_worksOut_7 : decode cX7_worksOut 7 = .ok (.getfield 7, 3) := by decide +kernel
theorem dX7_worksOut_10 : decode cX7_worksOut 10 = .ok (.iconst 0, 1) := by decide +kernel
theorem dX7_worksOut_11 : decode cX7_worksOut 11 = .ok (.iaload, 1) := by decide +kernel
theorem dX7_worksOut_12 : decode cX7_worksOut 12 = .ok (.iconst 1, 1) := by decide +kernel
theorem dX7_worksOut_13 : decode cX7_worksOut 13 = .ok (.iadd, 1) := by decide +kernel
theorem dX7_worksOut_14 : decode cX7_worksOut 14 = .ok (.imul, 1) := by decide +kernel
theorem dX7_worksOut_15 : decode cX7_worksOut 15 = .ok (.if_icmp .ge 37, 3) := by decide +kernel
theorem dX7_worksOut_18 : decode cX7_worksOut 18 = .ok (.aload_n 0, 1) := by decide +kernel
theorem dX7_worksOut_19 : decode cX7_worksOut 19 = .ok (.getfield 22, 3) := by decide +kernel
theorem dX7_worksOut_22 : decode cX7_worksOut 22 = .ok (.iload_n 1, 1) := by decide +kernel
theorem dX7_worksOut_23 : decode cX7_worksOut 23 = .ok (.aload_n 0, 1) := by decide +kernel
theorem dX7_worksOut_24 : decode cX7_worksOut 24 = .ok (.iload_n 1, 1) := by decide +kernel
theorem dX7_worksOut_25 : decode cX7_worksOut 25 = .ok (.invokevirtual 58, 3) := by decide +kernel
theorem dX7_worksOut_28 : decode cX7_worksOut 28 = .ok (.ifCond .eq 15, 3) := by decide +kernel
theorem dX7_worksOut_31 : decode cX7_worksOut 31 = .ok (.sipush 1000, 3) := by decide +kernel
theorem dX7_worksOut_34 : decode cX7_worksOut 34 = .ok (.iload_n 1, 1) := by decide +kernel
theorem dX7_worksOut_35 : decode cX7_worksOut 35 = .ok (.sipush 512, 3) := by decide +kernel
theorem dX7_worksOut_38 : decode cX7_worksOut 38 = .ok (.irem, 1) := by decide +kernel
theorem dX7_worksOut_39 : decode cX7_worksOut 39 = .ok (.iadd, 1) := by decide +kernel
theorem dX7_worksOut_40 : decode cX7_worksOut 40 = .ok (.goto 5, 3) := by decide +kernel
theorem dX7_worksOut_43 : decode cX7_worksOut 43 = .ok (.bipush (-2), 2) := by decide +kernel
theorem dX7_worksOut_45 : decode cX7_worksOut 45 = .ok (.iastore, 1) := by decide +kernel
theorem dX7_worksOut_46 : decode cX7_worksOut 46 = .ok (.iinc 1 1, 3) := by decide +kernel
theorem dX7_worksOut_49 : decode cX7_worksOut 49 = .ok (.goto (-47), 3) := by decide +kernel
theorem dX7_worksOut_52 : decode cX7_worksOut 52 = .ok (.iconst 0, 1) := by decide +kernel
theorem dX7_worksOut_53 : decode cX7_worksOut 53 = .ok (.istore_n 1, 1) := by decide +kernel
theorem dX7_worksOut_54 : decode cX7_worksOut 54 = .ok (.iload_n 1, 1) := by decide +kernel
theorem dX7_worksOut_55 : decode cX7_worksOut 55 = .ok (.sipush 512, 3) := by decide +kernel
theorem dX7_worksOut_58 : decode cX7_worksOut 58 = .ok (.aload_n 0, 1) := by decide +kernel
theorem dX7_worksOut_59 : decode cX7_worksOut 59 = .ok (.getfield 7, 3) := by decide +kernel
theorem dX7_worksOut_62 : decode cX7_worksOut 62 = .ok (.iconst 0, 1) := by decide +kernel
theorem dX7_worksOut_63 : decode cX7_worksOut 63 = .ok (.iaload, 1) := by decide +kernel
theorem dX7_worksOut_64 : decode cX7_worksOut 64 = .ok (.imul, 1) := by decide +kernel
theorem dX7_worksOut_65 : decode cX7_worksOut 65 = .ok (.if_icmp .ge 25, 3) := by decide +kernel
theorem dX7_worksOut_68 : decode cX7_worksOut 68 = .ok (.aload_n 0, 1) := by decide +kernel
theorem dX7_worksOut_69 : decode cX7_worksOut 69 = .ok (.getfield 22, 3) := by decide +kernel
theorem dX7_worksOut_72 : decode cX7_worksOut 72 = .ok (.iload_n 1, 1) := by decide +kernel
theorem dX7_worksOut_73 : decode cX7_worksOut 73 = .ok (.iaload, 1) := by decide +kernel
theorem dX7_worksOut_74 : decode cX7_worksOut 74 = .ok (.bipush (-2), 2) := by decide +kernel
theorem dX7_worksOut_76 : decode cX7_worksOut 76 = .ok (.if_icmp .ne 8, 3) := by decide +kernel
theorem dX7_worksOut_79 : decode cX7_worksOut 79 = .ok (.aload_n 0, 1) := by decide +kernel
theorem dX7_worksOut_80 : decode cX7_worksOut 80 = .ok (.iload_n 1, 1) := by decide +kernel
theorem dX7_worksOut_81 : decode cX7_worksOut 81 = .ok (.invokevirtual 66, 3) := by decide +kernel
theorem dX7_worksOut_84 : decode cX7_worksOut 84 = .ok (.iinc 1 1, 3) := by decide +kernel
theorem dX7_worksOut_87 : decode cX7_worksOut 87 = .ok (.goto (-33), 3) := by decide +kernel
theorem dX7_worksOut_90 : decode cX7_worksOut 90 = .ok (.return_, 1) := by decide +kernel
theorem dX7_isAssumed_0 : decode cX7_isAssumed 0 = .ok (.iconst 1, 1) := by decide +kernel
theorem dX7_isAssumed_1 : decode cX7_isAssumed 1 = .ok (.istore_n 2, 1) := by decide +kernel
theorem dX7_isAssumed_2 : decode cX7_isAssumed 2 = .ok (.iconst 0, 1) := by decide +kernel
theorem dX7_isAssumed_3 : decode cX7_isAssumed 3 = .ok (.istore_n 3, 1) := by decide +kernel
theorem dX7_isAssumed_4 : decode cX7_isAssumed 4 = .ok (.iload_n 3, 1) := by decide +kernel
theorem dX7_isAssumed_5 : decode cX7_isAssumed 5 = .ok (.iconst 3, 1) := by decide +kernel
theorem dX7_isAssumed_6 : decode cX7_isAssumed 6 = .ok (.if_icmp .ge 54, 3) := by decide +kernel
theorem dX7_isAssumed_9 : decode cX7_isAssumed 9 = .ok (.iload_n 2, 1) := by decide +kernel
theorem dX7_isAssumed_10 : decode cX7_isAssumed 10 = .ok (.ifCond .eq 42, 3) := by decide +kernel
theorem dX7_isAssumed_13 : decode cX7_isAssumed 13 = .ok (.iload_n 1, 1) := by decide +kernel
theorem dX7_isAssumed_14 : decode cX7_isAssumed 14 = .ok (.iload_n 3, 1) := by decide +kernel
theorem dX7_isAssumed_15 : decode cX7_isAssumed 15 = .ok (.invokestatic 40, 3) := by decide +kernel
theorem dX7_isAssumed_18 : decode cX7_isAssumed 18 = .ok (.aload_n 0, 1) := by decide +kernel
theorem dX7_isAssumed_19 : decode cX7_isAssumed 19 = .ok (.getfield 7, 3) := by decide +kernel
theorem dX7_isAssumed_22 : decode cX7_isAssumed 22 = .ok (.bipush 61, 2) := by decide +kernel
theorem dX7_isAssumed_24 : decode cX7_isAssumed 24 = .ok (.iconst 2, 1) := by decide +kernel
theorem dX7_isAssumed_25 : decode cX7_isAssumed 25 = .ok (.iload_n 3, 1) := by decide +kernel
theorem dX7_isAssumed_26 : decode cX7_isAssumed 26 = .ok (.imul, 1) := by decide +kernel
theorem dX7_isAssumed_27 : decode cX7_isAssumed 27 = .ok (.iadd, 1) := by decide +kernel
theorem dX7_isAssumed_28 : decode cX7_isAssumed 28 = .ok (.iaload, 1) := by decide +kernel
theorem dX7_isAssumed_29 : decode cX7_isAssumed 29 = .ok (.aload_n 0, 1) := by decide +kernel
theorem dX7_isAssumed_30 : decode cX7_isAssumed 30 = .ok (.getfield 7, 3) := by decide +kernel
theorem dX7_isAssumed_33 : decode cX7_isAssumed 33 = .ok (.bipush 61, 2) := by decide +kernel
theorem dX7_isAssumed_35 : decode cX7_isAssumed 35 = .ok (.iconst 2, 1) := by decide +kernel
theorem dX7_isAssumed_36 : decode cX7_isAssumed 36 = .ok (.iload_n 3, 1) := by decide +kernel
theorem dX7_isAssumed_37 : decode cX7_isAssumed 37 = .ok (.imul, 1) := by decide +kernel
theorem dX7_isAssumed_38 : decode cX7_isAssumed 38 = .ok (.iadd, 1) := by decide +kernel
theorem dX7_isAssumed_39 : decode cX7_isAssumed 39 = .ok (.iconst 1, 1) := by decide +kernel
theorem dX7_isAssumed_40 : decode cX7_isAssumed 40 = .ok (.iadd, 1) := by decide +kernel
theorem dX7_isAssumed_41 : decode cX7_isAssumed 41 = .ok (.iaload, 1) := by decide +kernel
theorem dX7_isAssumed_42 : decode cX7_isAssumed 42 = .ok (.invokestatic 33, 3) := by decide +kernel
theorem dX7_isAssumed_45 : decode cX7_isAssumed 45 = .ok (.ifCond .eq 7, 3) := by decide +kernel
theorem dX7_isAssumed_48 : decode cX7_isAssumed 48 = .ok (.iconst 1, 1) := by decide +kernel
theorem dX7_isAssumed_49 : decode cX7_isAssumed 49 = .ok (.goto 4, 3) := by decide +kernel
theorem dX7_isAssumed_52 : decode cX7_isAssumed 52 = .ok (.iconst 0, 1) := by decide +kernel
theorem dX7_isAssumed_53 : decode cX7_isAssumed 53 = .ok (.istore_n 2, 1) := by decide +kernel
theorem dX7_isAssumed_54 : decode cX7_isAssumed 54 = .ok (.iinc 3 1, 3) := by decide +kernel
theorem dX7_isAssumed_57 : decode cX7_isAssumed 57 = .ok (.goto (-53), 3) := by decide +kernel
theorem dX7_isAssumed_60 : decode cX7_isAssumed 60 = .ok (.iload_n 2, 1) := by decide +kernel
theorem dX7_isAssumed_61 : decode cX7_isAssumed 61 = .ok (.ireturn, 1) := by decide +kernel
theorem dX7_assumed_0 : decode cX7_assumed 0 = .ok (.iconst 1, 1) := by decide +kernel
theorem dX7_assumed_1 : decode cX7_assumed 1 = .ok (.istore_n 1, 1) := by decide +kernel
theorem dX7_assumed_2 : decode cX7_assumed 2 = .ok (.iconst 0, 1) := by decide +kernel
theorem dX7_assumed_3 : decode cX7_assumed 3 = .ok (.istore_n 2, 1) := by decide +kernel
theorem dX7_assumed_4 : decode cX7_assumed 4 = .ok (.iload_n 2, 1) := by decide +kernel
theorem dX7_assumed_5 : decode cX7_assumed 5 = .ok (.iconst 3, 1) := by decide +kernel
theorem dX7_assumed_6 : decode cX7_assumed 6 = .ok (.if_icmp .ge 39, 3) := by decide +kernel
theorem dX7_assumed_9 : decode cX7_assumed 9 = .ok (.iload_n 1, 1) := by decide +kernel
theorem dX7_assumed_10 : decode cX7_assumed 10 = .ok (.aload_n 0, 1) := by decide +kernel
theorem dX7_assumed_11 : decode cX7_assumed 11 = .ok (.getfield 7, 3) := by decide +kernel
theorem dX7_assumed_14 : decode cX7_assumed 14 = .ok (.bipush 61, 2) := by decide +kernel
theorem dX7_assumed_16 : decode cX7_assumed 16 = .ok (.iconst 2, 1) := by decide +kernel
theorem dX7_assumed_17 : decode cX7_assumed 17 = .ok (.iload_n 2, 1) := by decide +kernel
theorem dX7_assumed_18 : decode cX7_assumed 18 = .ok (.imul, 1) := by decide +kernel
theorem dX7_assumed_19 : decode cX7_assumed 19 = .ok (.iadd, 1) := by decide +kernel
theorem dX7_assumed_20 : decode cX7_assumed 20 = .ok (.iconst 1, 1) := by decide +kernel
theorem dX7_assumed_21 : decode cX7_assumed 21 = .ok (.iadd, 1) := by decide +kernel
theorem dX7_assumed_22 : decode cX7_assumed 22 = .ok (.iaload, 1) := by decide +kernel
theorem dX7_assumed_23 : decode cX7_assumed 23 = .ok (.aload_n 0, 1) := by decide +kernel
theorem dX7_assumed_24 : decode cX7_assumed 24 = .ok (.getfield 7, 3) := by decide +kernel
theorem dX7_assumed_27 : decode cX7_assumed 27 = .ok (.bipush 61, 2) := by decide +kernel
theorem dX7_assumed_29 : decode cX7_assumed 29 = .ok (.iconst 2, 1) := by decide +kernel
theorem dX7_assumed_30 : decode cX7_assumed 30 = .ok (.iload_n 2, 1) := by decide +kernel
theorem dX7_assumed_31 : decode cX7_assumed 31 = .ok (.imul, 1) := by decide +kernel
theorem dX7_assumed_32 : decode cX7_assumed 32 = .ok (.iadd, 1) := by decide +kernel
theorem dX7_assumed_33 : decode cX7_assumed 33 = .ok (.iaload, 1) := by decide +kernel
theorem dX7_assumed_34 : decode cX7_assumed 34 = .ok (.isub, 1) := by decide +kernel
theorem dX7_assumed_35 : decode cX7_assumed 35 = .ok (.iconst 1, 1) := by decide +kernel
theorem dX7_assumed_36 : decode cX7_assumed 36 = .ok (.iadd, 1) := by decide +kernel
theorem dX7_assumed_37 : decode cX7_assumed 37 = .ok (.imul, 1) := by decide +kernel
theorem dX7_assumed_38 : decode cX7_assumed 38 = .ok (.istore_n 1, 1) := by decide +kernel
theorem dX7_assumed_39 : decode cX7_assumed 39 = .ok (.iinc 2 1, 3) := by decide +kernel
theorem dX7_assumed_42 : decode cX7_assumed 42 = .ok (.goto (-38), 3) := by decide +kernel
theorem dX7_assumed_45 : decode cX7_assumed 45 = .ok (.iload_n 1, 1) := by decide +kernel
theorem dX7_assumed_46 : decode cX7_assumed 46 = .ok (.ireturn, 1) := by decide +kernel
theorem dX7_looks_0 : decode cX7_looks 0 = .ok (.iconst 0, 1) := by decide +kernel
theorem dX7_looks_1 : decode cX7_looks 1 = .ok (.istore_n 1, 1) := by decide +kernel
theorem dX7_looks_2 : decode cX7_looks 2 = .ok (.iload_n 1, 1) := by decide +kernel
theorem dX7_looks_3 : decode cX7_looks 3 = .ok (.sipush 512, 3) := by decide +kernel
theorem dX7_looks_6 : decode cX7_looks 6 = .ok (.aload_n 0, 1) := by decide +kernel
theorem dX7_looks_7 : decode cX7_looks 7 = .ok (.getfield 7, 3) := by decide +kernel
theorem dX7_looks_10 : decode cX7_looks 10 = .ok (.iconst 0, 1) := by decide +kernel
theorem dX7_looks_11 : decode cX7_looks 11 = .ok (.iaload, 1) := by decide +kernel
theorem dX7_looks_12 : decode cX7_looks 12 = .ok (.iconst 1, 1) := by decide +kernel
theorem dX7_looks_13 : decode cX7_looks 13 = .ok (.iadd, 1) := by decide +kernel
theorem dX7_looks_14 : decode cX7_looks 14 = .ok (.imul, 1) := by decide +kernel
theorem dX7_looks_15 : decode cX7_looks 15 = .ok (.if_icmp .ge 16, 3) := by decide +kernel
theorem dX7_looks_18 : decode cX7_looks 18 = .ok (.aload_n 0, 1) := by decide +kernel
theorem dX7_looks_19 : decode cX7_looks 19 = .ok (.getfield 25, 3) := by decide +kernel
theorem dX7_looks_22 : decode cX7_looks 22 = .ok (.iload_n 1, 1) := by decide +kernel
theorem dX7_looks_23 : decode cX7_looks 23 = .ok (.iconst 0, 1) := by decide +kernel
theorem dX7_looks_24 : decode cX7_looks 24 = .ok (.bastore, 1) := by decide +kernel
theorem dX7_looks_25 : decode cX7_looks 25 = .ok (.iinc 1 1, 3) := by decide +kernel
theorem dX7_looks_28 : decode cX7_looks 28 = .ok (.goto (-26), 3) := by decide +kernel
theorem dX7_looks_31 : decode cX7_looks 31 = .ok (.iconst 0, 1) := by decide +kernel
theorem dX7_looks_32 : decode cX7_looks 32 = .ok (.istore_n 1, 1) := by decide +kernel
theorem dX7_looks_33 : decode cX7_looks 33 = .ok (.iload_n 1, 1) := by decide +kernel
theorem dX7_looks_34 : decode cX7_looks 34 = .ok (.sipush 512, 3) := by decide +kernel
theorem dX7_looks_37 : decode cX7_looks 37 = .ok (.if_icmp .ge 65, 3) := by decide +kernel
theorem dX7_looks_40 : decode cX7_looks 40 = .ok (.aload_n 0, 1) := by decide +kernel
theorem dX7_looks_41 : decode cX7_looks 41 = .ok (.iload_n 1, 1) := by decide +kernel
theorem dX7_looks_42 : decode cX7_looks 42 = .ok (.invokevirtual 70, 3) := by decide +kernel
theorem dX7_looks_45 : decode cX7_looks 45 = .ok (.ifCond .eq 7, 3) := by decide +kernel
theorem dX7_looks_48 : decode cX7_looks 48 = .ok (.iload_n 1, 1) := by decide +kernel
theorem dX7_looks_49 : decode cX7_looks 49 = .ok (.goto 4, 3) := by decide +kernel
theorem dX7_looks_52 : decode cX7_looks 52 = .ok (.iconst (-1), 1) := by decide +kernel
theorem dX7_looks_53 : decode cX7_looks 53 = .ok (.istore_n 2, 1) := by decide +kernel
theorem dX7_looks_54 : decode cX7_looks 54 = .ok (.iload_n 2, 1) := by decide +kernel
theorem dX7_looks_55 : decode cX7_looks 55 = .ok (.iconst (-1), 1) := by decide +kernel
theorem dX7_looks_56 : decode cX7_looks 56 = .ok (.if_icmp .eq 40, 3) := by decide +kernel
theorem dX7_looks_59 : decode cX7_looks 59 = .ok (.aload_n 0, 1) := by decide +kernel
theorem dX7_looks_60 : decode cX7_looks 60 = .ok (.getfield 25, 3) := by decide +kernel
theorem dX7_looks_63 : decode cX7_looks 63 = .ok (.iload_n 2, 1) := by decide +kernel
theorem dX7_looks_64 : decode cX7_looks 64 = .ok (.baload, 1) := by decide +kernel
theorem dX7_looks_65 : decode cX7_looks 65 = .ok (.ifCond .ne 31, 3) := by decide +kernel
theorem dX7_looks_68 : decode cX7_looks 68 = .ok (.aload_n 0, 1) := by decide +kernel
theorem dX7_looks_69 : decode cX7_looks 69 = .ok (.getfield 25, 3) := by decide +kernel
theorem dX7_looks_72 : decode cX7_looks 72 = .ok (.iload_n 2, 1) := by decide +kernel
theorem dX7_looks_73 : decode cX7_looks 73 = .ok (.iconst 1, 1) := by decide +kernel
theorem dX7_looks_74 : decode cX7_looks 74 = .ok (.bastore, 1) := by decide +kernel
theorem dX7_looks_75 : decode cX7_looks 75 = .ok (.aload_n 0, 1) := by decide +kernel
theorem dX7_looks_76 : decode cX7_looks 76 = .ok (.iload_n 2, 1) := by decide +kernel
theorem dX7_looks_77 : decode cX7_looks 77 = .ok (.invokevirtual 58, 3) := by decide +kernel
theorem dX7_looks_80 : decode cX7_looks 80 = .ok (.ifCond .eq 7, 3) := by decide +kernel
theorem dX7_looks_83 : decode cX7_looks 83 = .ok (.iconst (-1), 1) := by decide +kernel
theorem dX7_looks_84 : decode cX7_looks 84 = .ok (.goto 8, 3) := by decide +kernel
theorem dX7_looks_87 : decode cX7_looks 87 = .ok (.aload_n 0, 1) := by decide +kernel
theorem dX7_looks_88 : decode cX7_looks 88 = .ok (.iload_n 2, 1) := by decide +kernel
theorem dX7_looks_89 : decode cX7_looks 89 = .ok (.invokevirtual 62, 3) := by decide +kernel
theorem dX7_looks_92 : decode cX7_looks 92 = .ok (.istore_n 2, 1) := by decide +kernel
theorem dX7_looks_93 : decode cX7_looks 93 = .ok (.goto (-39), 3) := by decide +kernel
theorem dX7_looks_96 : decode cX7_looks 96 = .ok (.iinc 1 1, 3) := by decide +kernel
theorem dX7_looks_99 : decode cX7_looks 99 = .ok (.goto (-66), 3) := by decide +kernel
theorem dX7_looks_102 : decode cX7_looks 102 = .ok (.return_, 1) := by decide +kernel
theorem dX7_isNext_0 : decode cX7_isNext 0 = .ok (.aload_n 0, 1) := by decide +kernel
theorem dX7_isNext_1 : decode cX7_isNext 1 = .ok (.getfield 73, 3) := by decide +kernel
theorem dX7_isNext_4 : decode cX7_isNext 4 = .ok (.ifCond .ne 35, 3) := by decide +kernel
theorem dX7_isNext_7 : decode cX7_isNext 7 = .ok (.aload_n 0, 1) := by decide +kernel
theorem dX7_isNext_8 : decode cX7_isNext 8 = .ok (.getfield 77, 3) := by decide +kernel
theorem dX7_isNext_11 : decode cX7_isNext 11 = .ok (.aload_n 0, 1) := by decide +kernel
theorem dX7_isNext_12 : decode cX7_isNext 12 = .ok (.getfield 80, 3) := by decide +kernel
theorem dX7_isNext_15 : decode cX7_isNext 15 = .ok (.if_icmp .ge 24, 3) := by decide +kernel
theorem dX7_isNext_18 : decode cX7_isNext 18 = .ok (.aload_n 0, 1) := by decide +kernel
theorem dX7_isNext_19 : decode cX7_isNext 19 = .ok (.getfield 16, 3) := by decide +kernel
theorem dX7_isNext_22 : decode cX7_isNext 22 = .ok (.aload_n 0, 1) := by decide +kernel
theorem dX7_isNext_23 : decode cX7_isNext 23 = .ok (.getfield 77, 3) := by decide +kernel
theorem dX7_isNext_26 : decode cX7_isNext 26 = .ok (.iaload, 1) := by decide +kernel
theorem dX7_isNext_27 : decode cX7_isNext 27 = .ok (.iload_n 1, 1) := by decide +kernel
theorem dX7_isNext_28 : decode cX7_isNext 28 = .ok (.iload_n 2, 1) := by decide +kernel
theorem dX7_isNext_29 : decode cX7_isNext 29 = .ok (.invokestatic 33, 3) := by decide +kernel
theorem dX7_isNext_32 : decode cX7_isNext 32 = .ok (.ifCond .eq 7, 3) := by decide +kernel
theorem dX7_isNext_35 : decode cX7_isNext 35 = .ok (.iconst 1, 1) := by decide +kernel
theorem dX7_isNext_36 : decode cX7_isNext 36 = .ok (.goto 4, 3) := by decide +kernel
theorem dX7_isNext_39 : decode cX7_isNext 39 = .ok (.iconst 0, 1) := by decide +kernel
theorem dX7_isNext_40 : decode cX7_isNext 40 = .ok (.ireturn, 1) := by decide +kernel
theorem dX7_takes_0 : decode cX7_takes 0 = .ok (.aload_n 0, 1) := by decide +kernel
theorem dX7_takes_1 : decode cX7_takes 1 = .ok (.iload_n 1, 1) := by decide +kernel
theorem dX7_takes_2 : decode cX7_takes 2 = .ok (.iload_n 2, 1) := by decide +kernel
theorem dX7_takes_3 : decode cX7_takes 3 = .ok (.invokevirtual 83, 3) := by decide +kernel
theorem dX7_takes_6 : decode cX7_takes 6 = .ok (.istore_n 3, 1) := by decide +kernel
theorem dX7_takes_7 : decode cX7_takes 7 = .ok (.iload_n 3, 1) := by decide +kernel
theorem dX7_takes_8 : decode cX7_takes 8 = .ok (.ifCond .eq 17, 3) := by decide +kernel
theorem dX7_takes_11 : decode cX7_takes 11 = .ok (.aload_n 0, 1) := by decide +kernel
theorem dX7_takes_12 : decode cX7_takes 12 = .ok (.getfield 16, 3) := by decide +kernel
theorem dX7_takes_15 : decode cX7_takes 15 = .ok (.aload_n 0, 1) := by decide +kernel
theorem dX7_takes_16 : decode cX7_takes 16 = .ok (.getfield 77, 3) := by decide +kernel
theorem dX7_takes_19 : decode cX7_takes 19 = .ok (.iaload, 1) := by decide +kernel
theorem dX7_takes_20 : decode cX7_takes 20 = .ok (.iload_n 1, 1) := by decide +kernel
theorem dX7_takes_21 : decode cX7_takes 21 = .ok (.isub, 1) := by decide +kernel
theorem dX7_takes_22 : decode cX7_takes 22 = .ok (.goto 4, 3) := by decide +kernel
theorem dX7_takes_25 : decode cX7_takes 25 = .ok (.iconst 0, 1) := by decide +kernel
theorem dX7_takes_26 : decode cX7_takes 26 = .ok (.istore 4, 2) := by decide +kernel
theorem dX7_takes_28 : decode cX7_takes 28 = .ok (.aload_n 0, 1) := by decide +kernel
theorem dX7_takes_29 : decode cX7_takes 29 = .ok (.dup, 1) := by decide +kernel
theorem dX7_takes_30 : decode cX7_takes 30 = .ok (.getfield 77, 3) := by decide +kernel
theorem dX7_takes_33 : decode cX7_takes 33 = .ok (.iload_n 3, 1) := by decide +kernel
theorem dX7_takes_34 : decode cX7_takes 34 = .ok (.ifCond .eq 7, 3) := by decide +kernel
theorem dX7_takes_37 : decode cX7_takes 37 = .ok (.iconst 1, 1) := by decide +kernel
theorem dX7_takes_38 : decode cX7_takes 38 = .ok (.goto 4, 3) := by decide +kernel
theorem dX7_takes_41 : decode cX7_takes 41 = .ok (.iconst 0, 1) := by decide +kernel
theorem dX7_takes_42 : decode cX7_takes 42 = .ok (.iadd, 1) := by decide +kernel
theorem dX7_takes_43 : decode cX7_takes 43 = .ok (.putfield 77, 3) := by decide +kernel
theorem dX7_takes_46 : decode cX7_takes 46 = .ok (.aload_n 0, 1) := by decide +kernel
theorem dX7_takes_47 : decode cX7_takes 47 = .ok (.aload_n 0, 1) := by decide +kernel
theorem dX7_takes_48 : decode cX7_takes 48 = .ok (.getfield 73, 3) := by decide +kernel
theorem dX7_takes_51 : decode cX7_takes 51 = .ok (.ifCond .ne 7, 3) := by decide +kernel
theorem dX7_takes_54 : decode cX7_takes 54 = .ok (.iload_n 3, 1) := by decide +kernel
theorem dX7_takes_55 : decode cX7_takes 55 = .ok (.ifCond .ne 7, 3) := by decide +kernel
theorem dX7_takes_58 : decode cX7_takes 58 = .ok (.iconst 1, 1) := by decide +kernel
theorem dX7_takes_59 : decode cX7_takes 59 = .ok (.goto 4, 3) := by decide +kernel
theorem dX7_takes_62 : decode cX7_takes 62 = .ok (.iconst 0, 1) := by decide +kernel
theorem dX7_takes_63 : decode cX7_takes 63 = .ok (.putfield 73, 3) := by decide +kernel
theorem dX7_takes_66 : decode cX7_takes 66 = .ok (.iload 4, 2) := by decide +kernel
theorem dX7_takes_68 : decode cX7_takes 68 = .ok (.ireturn, 1) := by decide +kernel
theorem dX7_readOperand_0 : decode cX7_readOperand 0 = .ok (.aload_n 0, 1) := by decide +kernel
theorem dX7_readOperand_1 : decode cX7_readOperand 1 = .ok (.bipush 120, 2) := by decide +kernel
theorem dX7_readOperand_3 : decode cX7_readOperand 3 = .ok (.bipush 122, 2) := by decide +kernel
theorem dX7_readOperand_5 : decode cX7_readOperand 5 = .ok (.invokevirtual 83, 3) := by decide +kernel
theorem dX7_readOperand_8 : decode cX7_readOperand 8 = .ok (.ifCond .eq 14, 3) := by decide +kernel
theorem dX7_readOperand_11 : decode cX7_readOperand 11 = .ok (.aload_n 0, 1) := by decide +kernel
theorem dX7_readOperand_12 : decode cX7_readOperand 12 = .ok (.bipush 120, 2) := by decide +kernel
theorem dX7_readOperand_14 : decode cX7_readOperand 14 = .ok (.bipush 122, 2) := by decide +kernel
theorem dX7_readOperand_16 : decode cX7_readOperand 16 = .ok (.invokevirtual 86, 3) := by decide +kernel
theorem dX7_readOperand_19 : decode cX7_readOperand 19 = .ok (.goto 13, 3) := by decide +kernel
theorem dX7_readOperand_22 : decode cX7_readOperand 22 = .ok (.iconst 3, 1) := by decide +kernel
theorem dX7_readOperand_23 : decode cX7_readOperand 23 = .ok (.aload_n 0, 1) := by decide +kernel
theorem dX7_readOperand_24 : decode cX7_readOperand 24 = .ok (.bipush 48, 2) := by decide +kernel
theorem dX7_readOperand_26 : decode cX7_readOperand 26 = .ok (.bipush 55, 2) := by decide +kernel
theorem dX7_readOperand_28 : decode cX7_readOperand 28 = .ok (.invokevirtual 86, 3) := by decide +kernel
theorem dX7_readOperand_31 : decode cX7_readOperand 31 = .ok (.iadd, 1) := by decide +kernel
theorem dX7_readOperand_32 : decode cX7_readOperand 32 = .ok (.ireturn, 1) := by decide +kernel
theorem dX7_puts_0 : decode cX7_puts 0 = .ok (.aload_n 0, 1) := by decide +kernel
theorem dX7_puts_1 : decode cX7_puts 1 = .ok (.getfield 19, 3) := by decide +kernel
theorem dX7_puts_4 : decode cX7_puts 4 = .ok (.iconst 5, 1) := by decide +kernel
theorem dX7_puts_5 : decode cX7_puts 5 = .ok (.aload_n 0, 1) := by decide +kernel
theorem dX7_puts_6 : decode cX7_puts 6 = .ok (.getfield 89, 3) := by decide +kernel
theorem dX7_puts_9 : decode cX7_puts 9 = .ok (.imul, 1) := by decide +kernel
theorem dX7_puts_10 : decode cX7_puts 10 = .ok (.iload_n 1, 1) := by decide +kernel
theorem dX7_puts_11 : decode cX7_puts 11 = .ok (.iadd, 1) := by decide +kernel
theorem dX7_puts_12 : decode cX7_puts 12 = .ok (.iload_n 2, 1) := by decide +kernel
theorem dX7_puts_13 : decode cX7_puts 13 = .ok (.iastore, 1) := by decide +kernel
theorem dX7_puts_14 : decode cX7_puts 14 = .ok (.return_, 1) := by decide +kernel
theorem dX7_readTest_0 : decode cX7_readTest 0 = .ok (.aload_n 0, 1) := by decide +kernel
theorem dX7_readTest_1 : decode cX7_readTest 1 = .ok (.iconst 1, 1) := by decide +kernel
theorem dX7_readTest_2 : decode cX7_readTest 2 = .ok (.aload_n 0, 1) := by decide +kernel
theorem dX7_readTest_3 : decode cX7_readTest 3 = .ok (.bipush 120, 2) := by decide +kernel
theorem dX7_readTest_5 : decode cX7_readTest 5 = .ok (.bipush 122, 2) := by decide +kernel
theorem dX7_readTest_7 : decode cX7_readTest 7 = .ok (.invokevirtual 86, 3) := by decide +kernel
theorem dX7_readTest_10 : decode cX7_readTest 10 = .ok (.invokevirtual 92, 3) := by decide +kernel
theorem dX7_readTest_13 : decode cX7_readTest 13 = .ok (.aload_n 0, 1) := by decide +kernel
theorem dX7_readTest_14 : decode cX7_readTest 14 = .ok (.bipush 35, 2) := by decide +kernel
theorem dX7_readTest_16 : decode cX7_readTest 16 = .ok (.bipush 35, 2) := by decide +kernel
theorem dX7_readTest_18 : decode cX7_readTest 18 = .ok (.invokevirtual 83, 3) := by decide +kernel
theorem dX7_readTest_21 : decode cX7_readTest 21 = .ok (.ifCond .ne 14, 3) := by decide +kernel
theorem dX7_readTest_24 : decode cX7_readTest 24 = .ok (.aload_n 0, 1) := by decide +kernel
theorem dX7_readTest_25 : decode cX7_readTest 25 = .ok (.bipush 60, 2) := by decide +kernel
theorem dX7_readTest_27 : decode cX7_readTest 27 = .ok (.bipush 62, 2) := by decide +kernel
theorem dX7_readTest_29 : decode cX7_readTest 29 = .ok (.invokevirtual 83, 3) := by decide +kernel
theorem dX7_readTest_32 : decode cX7_readTest 32 = .ok (.ifCond .eq 15, 3) := by decide +kernel
theorem dX7_readTest_35 : decode cX7_readTest 35 = .ok (.aload_n 0, 1) := by decide +kernel
theorem dX7_readTest_36 : decode cX7_readTest 36 = .ok (.getfield 16, 3) := by decide +kernel
theorem dX7_readTest_39 : decode cX7_readTest 39 = .ok (.aload_n 0, 1) := by decide +kernel
theorem dX7_readTest_40 : decode cX7_readTest 40 = .ok (.getfield 77, 3) := by decide +kernel
theorem dX7_readTest_43 : decode cX7_readTest 43 = .ok (.iaload, 1) := by decide +kernel
theorem dX7_readTest_44 : decode cX7_readTest 44 = .ok (.goto 4, 3) := by decide +kernel
theorem dX7_readTest_47 : decode cX7_readTest 47 = .ok (.iconst 0, 1) := by decide +kernel
theorem dX7_readTest_48 : decode cX7_readTest 48 = .ok (.istore_n 1, 1) := by decide +kernel
theorem dX7_readTest_49 : decode cX7_readTest 49 = .ok (.aload_n 0, 1) := by decide +kernel
theorem dX7_readTest_50 : decode cX7_readTest 50 = .ok (.aload_n 0, 1) := by decide +kernel
theorem dX7_readTest_51 : decode cX7_readTest 51 = .ok (.getfield 73, 3) := by decide +kernel
theorem dX7_readTest_54 : decode cX7_readTest 54 = .ok (.ifCond .ne 7, 3) := by decide +kernel
theorem dX7_readTest_57 : decode cX7_readTest 57 = .ok (.iload_n 1, 1) := by decide +kernel
theorem dX7_readTest_58 : decode cX7_readTest 58 = .ok (.ifCond .ne 7, 3) := by decide +kernel
theorem dX7_readTest_61 : decode cX7_readTest 61 = .ok (.iconst 1, 1) := by decide +kernel
theorem dX7_readTest_62 : decode cX7_readTest 62 = .ok (.goto 4, 3) := by decide +kernel
theorem dX7_readTest_65 : decode cX7_readTest 65 = .ok (.iconst 0, 1) := by decide +kernel
theorem dX7_readTest_66 : decode cX7_readTest 66 = .ok (.putfield 73, 3) := by decide +kernel
theorem dX7_readTest_69 : decode cX7_readTest 69 = .ok (.aload_n 0, 1) := by decide +kernel
theorem dX7_readTest_70 : decode cX7_readTest 70 = .ok (.dup, 1) := by decide +kernel
theorem dX7_readTest_71 : decode cX7_readTest 71 = .ok (.getfield 77, 3) := by decide +kernel
theorem dX7_readTest_74 : decode cX7_readTest 74 = .ok (.aload_n 0, 1) := by decide +kernel
theorem dX7_readTest_75 : decode cX7_readTest 75 = .ok (.getfield 73, 3) := by decide +kernel
theorem dX7_readTest_78 : decode cX7_readTest 78 = .ok (.ifCond .eq 7, 3) := by decide +kernel
theorem dX7_readTest_81 : decode cX7_readTest 81 = .ok (.iconst 0, 1) := by decide +kernel
theorem dX7_readTest_82 : decode cX7_readTest 82 = .ok (.goto 4, 3) := by decide +kernel
theorem dX7_readTest_85 : decode cX7_readTest 85 = .ok (.iconst 1, 1) := by decide +kernel
theorem dX7_readTest_86 : decode cX7_readTest 86 = .ok (.iadd, 1) := by decide +kernel
theorem dX7_readTest_87 : decode cX7_readTest 87 = .ok (.putfield 77, 3) := by decide +kernel
theorem dX7_readTest_90 : decode cX7_readTest 90 = .ok (.aload_n 0, 1) := by decide +kernel
theorem dX7_readTest_91 : decode cX7_readTest 91 = .ok (.iconst 2, 1) := by decide +kernel
theorem dX7_readTest_92 : decode cX7_readTest 92 = .ok (.iload_n 1, 1) := by decide +kernel
theorem dX7_readTest_93 : decode cX7_readTest 93 = .ok (.invokevirtual 92, 3) := by decide +kernel
theorem dX7_readTest_96 : decode cX7_readTest 96 = .ok (.aload_n 0, 1) := by decide +kernel
theorem dX7_readTest_97 : decode cX7_readTest 97 = .ok (.iconst 3, 1) := by decide +kernel
theorem dX7_readTest_98 : decode cX7_readTest 98 = .ok (.aload_n 0, 1) := by decide +kernel
theorem dX7_readTest_99 : decode cX7_readTest 99 = .ok (.invokevirtual 96, 3) := by decide +kernel
theorem dX7_readTest_102 : decode cX7_readTest 102 = .ok (.invokevirtual 92, 3) := by decide +kernel
theorem dX7_readTest_105 : decode cX7_readTest 105 = .ok (.return_, 1) := by decide +kernel
theorem dX7_readAssignment_0 : decode cX7_readAssignment 0 = .ok (.aload_n 0, 1) := by decide +kernel
theorem dX7_readAssignment_1 : decode cX7_readAssignment 1 = .ok (.iconst 0, 1) := by decide +kernel
theorem dX7_readAssignment_2 : decode cX7_readAssignment 2 = .ok (.iconst 0, 1) := by decide +kernel
theorem dX7_readAssignment_3 : decode cX7_readAssignment 3 = .ok (.invokevirtual 92, 3) := by decide +kernel
theorem dX7_readAssignment_6 : decode cX7_readAssignment 6 = .ok (.aload_n 0, 1) := by decide +kernel
theorem dX7_readAssignment_7 : decode cX7_readAssignment 7 = .ok (.iconst 1, 1) := by decide +kernel
theorem dX7_readAssignment_8 : decode cX7_readAssignment 8 = .ok (.aload_n 0, 1) := by decide +kernel
theorem dX7_readAssignment_9 : decode cX7_readAssignment 9 = .ok (.bipush 120, 2) := by decide +kernel
theorem dX7_readAssignment_11 : decode cX7_readAssignment 11 = .ok (.bipush 122, 2) := by decide +kernel
theorem dX7_readAssignment_13 : decode cX7_readAssignment 13 = .ok (.invokevirtual 86, 3) := by decide +kernel
theorem dX7_readAssignment_16 : decode cX7_readAssignment 16 = .ok (.invokevirtual 92, 3) := by decide +kernel
theorem dX7_readAssignment_19 : decode cX7_readAssignment 19 = .ok (.aload_n 0, 1) := by decide +kernel
theorem dX7_readAssignment_20 : decode cX7_readAssignment 20 = .ok (.bipush 58, 2) := by decide +kernel
theorem dX7_readAssignment_22 : decode cX7_readAssignment 22 = .ok (.bipush 58, 2) := by decide +kernel
theorem dX7_readAssignment_24 : decode cX7_readAssignment 24 = .ok (.invokevirtual 86, 3) := by decide +kernel
theorem dX7_readAssignment_27 : decode cX7_readAssignment 27 = .ok (.istore_n 1, 1) := by decide +kernel
theorem dX7_readAssignment_28 : decode cX7_readAssignment 28 = .ok (.aload_n 0, 1) := by decide +kernel
theorem dX7_readAssignment_29 : decode cX7_readAssignment 29 = .ok (.iconst 2, 1) := by decide +kernel
theorem dX7_readAssignment_30 : decode cX7_readAssignment 30 = .ok (.iconst 0, 1) := by decide +kernel
theorem dX7_readAssignment_31 : decode cX7_readAssignment 31 = .ok (.invokevirtual 92, 3) := by decide +kernel
theorem dX7_readAssignment_34 : decode cX7_readAssignment 34 = .ok (.aload_n 0, 1) := by decide +kernel
theorem dX7_readAssignment_35 : decode cX7_readAssignment 35 = .ok (.iconst 3, 1) := by decide +kernel
theorem dX7_readAssignment_36 : decode cX7_readAssignment 36 = .ok (.aload_n 0, 1) := by decide +kernel
theorem dX7_readAssignment_37 : decode cX7_readAssignment 37 = .ok (.invokevirtual 96, 3) := by decide +kernel
theorem dX7_readAssignment_40 : decode cX7_readAssignment 40 = .ok (.invokevirtual 92, 3) := by decide +kernel
theorem dX7_readAssignment_43 : decode cX7_readAssignment 43 = .ok (.aload_n 0, 1) := by decide +kernel
theorem dX7_readAssignment_44 : decode cX7_readAssignment 44 = .ok (.bipush 43, 2) := by decide +kernel
theorem dX7_readAssignment_46 : decode cX7_readAssignment 46 = .ok (.bipush 43, 2) := by decide +kernel
theorem dX7_readAssignment_48 : decode cX7_readAssignment 48 = .ok (.invokevirtual 83, 3) := by decide +kernel
theorem dX7_readAssignment_51 : decode cX7_readAssignment 51 = .ok (.istore_n 2, 1) := by decide +kernel
theorem dX7_readAssignment_52 : decode cX7_readAssignment 52 = .ok (.aload_n 0, 1) := by decide +kernel
theorem dX7_readAssignment_53 : decode cX7_readAssignment 53 = .ok (.bipush 45, 2) := by decide +kernel
theorem dX7_readAssignment_55 : decode cX7_readAssignment 55 = .ok (.bipush 45, 2) := by decide +kernel
theorem dX7_readAssignment_57 : decode cX7_readAssignment 57 = .ok (.invokevirtual 83, 3) := by decide +kernel
theorem dX7_readAssignment_60 : decode cX7_readAssignment 60 = .ok (.istore_n 3, 1) := by decide +kernel
theorem dX7_readAssignment_61 : decode cX7_readAssignment 61 = .ok (.aload_n 0, 1) := by decide +kernel
theorem dX7_readAssignment_62 : decode cX7_readAssignment 62 = .ok (.dup, 1) := by decide +kernel
theorem dX7_readAssignment_63 : decode cX7_readAssignment 63 = .ok (.getfield 77, 3) := by decide +kernel
theorem dX7_readAssignment_66 : decode cX7_readAssignment 66 = .ok (.iload_n 2, 1) := by decide +kernel
theorem dX7_readAssignment_67 : decode cX7_readAssignment 67 = .ok (.ifCond .ne 7, 3) := by decide +kernel
theorem dX7_readAssignment_70 : decode cX7_readAssignment 70 = .ok (.iload_n 3, 1) := by decide +kernel
theorem dX7_readAssignment_71 : decode cX7_readAssignment 71 = .ok (.ifCond .eq 7, 3) := by decide +kernel
theorem dX7_readAssignment_74 : decode cX7_readAssignment 74 = .ok (.iconst 1, 1) := by decide +kernel
theorem dX7_readAssignment_75 : decode cX7_readAssignment 75 = .ok (.goto 4, 3) := by decide +kernel
theorem dX7_readAssignment_78 : decode cX7_readAssignment 78 = .ok (.iconst 0, 1) := by decide +kernel
theorem dX7_readAssignment_79 : decode cX7_readAssignment 79 = .ok (.iadd, 1) := by decide +kernel
theorem dX7_readAssignment_80 : decode cX7_readAssignment 80 = .ok (.putfield 77, 3) := by decide +kernel
theorem dX7_readAssignment_83 : decode cX7_readAssignment 83 = .ok (.aload_n 0, 1) := by decide +kernel
theorem dX7_readAssignment_84 : decode cX7_readAssignment 84 = .ok (.iconst 4, 1) := by decide +kernel
theorem dX7_readAssignment_85 : decode cX7_readAssignment 85 = .ok (.iload_n 2, 1) := by decide +kernel
theorem dX7_readAssignment_86 : decode cX7_readAssignment 86 = .ok (.ifCond .eq 14, 3) := by decide +kernel
theorem dX7_readAssignment_89 : decode cX7_readAssignment 89 = .ok (.aload_n 0, 1) := by decide +kernel
theorem dX7_readAssignment_90 : decode cX7_readAssignment 90 = .ok (.bipush 48, 2) := by decide +kernel
theorem dX7_readAssignment_92 : decode cX7_readAssignment 92 = .ok (.bipush 55, 2) := by decide +kernel
theorem dX7_readAssignment_94 : decode cX7_readAssignment 94 = .ok (.invokevirtual 86, 3) := by decide +kernel
theorem dX7_readAssignment_97 : decode cX7_readAssignment 97 = .ok (.goto 20, 3) := by decide +kernel
theorem dX7_readAssignment_100 : decode cX7_readAssignment 100 = .ok (.iload_n 3, 1) := by decide +kernel
theorem dX7_readAssignment_101 : decode cX7_readAssignment 101 = .ok (.ifCond .eq 15, 3) := by decide +kernel
theorem dX7_readAssignment_104 : decode cX7_readAssignment 104 = .ok (.aload_n 0, 1) := by decide +kernel
theorem dX7_readAssignment_105 : decode cX7_readAssignment 105 = .ok (.bipush 48, 2) := by decide +kernel
theorem dX7_readAssignment_107 : decode cX7_readAssignment 107 = .ok (.bipush 55, 2) := by decide +kernel
theorem dX7_readAssignment_109 : decode cX7_readAssignment 109 = .ok (.invokevirtual 86, 3) := by decide +kernel
theorem dX7_readAssignment_112 : decode cX7_readAssignment 112 = .ok (.ineg, 1) := by decide +kernel
theorem dX7_readAssignment_113 : decode cX7_readAssignment 113 = .ok (.goto 4, 3) := by decide +kernel
theorem dX7_readAssignment_116 : decode cX7_readAssignment 116 = .ok (.iconst 0, 1) := by decide +kernel
theorem dX7_readAssignment_117 : decode cX7_readAssignment 117 = .ok (.invokevirtual 92, 3) := by decide +kernel
theorem dX7_readAssignment_120 : decode cX7_readAssignment 120 = .ok (.return_, 1) := by decide +kernel
theorem dX7_readStatement_0 : decode cX7_readStatement 0 = .ok (.aload_n 0, 1) := by decide +kernel
theorem dX7_readStatement_1 : decode cX7_readStatement 1 = .ok (.bipush 33, 2) := by decide +kernel
theorem dX7_readStatement_3 : decode cX7_readStatement 3 = .ok (.bipush 33, 2) := by decide +kernel
theorem dX7_readStatement_5 : decode cX7_readStatement 5 = .ok (.invokevirtual 83, 3) := by decide +kernel
theorem dX7_readStatement_8 : decode cX7_readStatement 8 = .ok (.istore_n 1, 1) := by decide +kernel
theorem dX7_readStatement_9 : decode cX7_readStatement 9 = .ok (.iload_n 1, 1) := by decide +kernel
theorem dX7_readStatement_10 : decode cX7_readStatement 10 = .ok (.ifCond .ne 19, 3) := by decide +kernel
theorem dX7_readStatement_13 : decode cX7_readStatement 13 = .ok (.aload_n 0, 1) := by decide +kernel
theorem dX7_readStatement_14 : decode cX7_readStatement 14 = .ok (.bipush 63, 2) := by decide +kernel
theorem dX7_readStatement_16 : decode cX7_readStatement 16 = .ok (.bipush 63, 2) := by decide +kernel
theorem dX7_readStatement_18 : decode cX7_readStatement 18 = .ok (.invokevirtual 83, 3) := by decide +kernel
theorem dX7_readStatement_21 : decode cX7_readStatement 21 = .ok (.ifCond .ne 8, 3) := by decide +kernel
theorem dX7_readStatement_24 : decode cX7_readStatement 24 = .ok (.aload_n 0, 1) := by decide +kernel
theorem dX7_readStatement_25 : decode cX7_readStatement 25 = .ok (.invokevirtual 100, 3) := by decide +kernel
theorem dX7_readStatement_28 : decode cX7_readStatement 28 = .ok (.return_, 1) := by decide +kernel
theorem dX7_readStatement_29 : decode cX7_readStatement 29 = .ok (.aload_n 0, 1) := by decide +kernel
theorem dX7_readStatement_30 : decode cX7_readStatement 30 = .ok (.dup, 1) := by decide +kernel
theorem dX7_readStatement_31 : decode cX7_readStatement 31 = .ok (.getfield 77, 3) := by decide +kernel
theorem dX7_readStatement_34 : decode cX7_readStatement 34 = .ok (.iconst 1, 1) := by decide +kernel
theorem dX7_readStatement_35 : decode cX7_readStatement 35 = .ok (.iadd, 1) := by decide +kernel
theorem dX7_readStatement_36 : decode cX7_readStatement 36 = .ok (.putfield 77, 3) := by decide +kernel
theorem dX7_readStatement_39 : decode cX7_readStatement 39 = .ok (.aload_n 0, 1) := by decide +kernel
theorem dX7_readStatement_40 : decode cX7_readStatement 40 = .ok (.iconst 0, 1) := by decide +kernel
theorem dX7_readStatement_41 : decode cX7_readStatement 41 = .ok (.iload_n 1, 1) := by decide +kernel
theorem dX7_readStatement_42 : decode cX7_readStatement 42 = .ok (.ifCond .eq 7, 3) := by decide +kernel
theorem dX7_readStatement_45 : decode cX7_readStatement 45 = .ok (.iconst 1, 1) := by decide +kernel
theorem dX7_readStatement_46 : decode cX7_readStatement 46 = .ok (.goto 4, 3) := by decide +kernel
theorem dX7_readStatement_49 : decode cX7_readStatement 49 = .ok (.iconst 2, 1) := by decide +kernel
theorem dX7_readStatement_50 : decode cX7_readStatement 50 = .ok (.invokevirtual 92, 3) := by decide +kernel
theorem dX7_readStatement_53 : decode cX7_readStatement 53 = .ok (.aload_n 0, 1) := by decide +kernel
theorem dX7_readStatement_54 : decode cX7_readStatement 54 = .ok (.invokevirtual 103, 3) := by decide +kernel
theorem dX7_readStatement_57 : decode cX7_readStatement 57 = .ok (.aload_n 0, 1) := by decide +kernel
theorem dX7_readStatement_58 : decode cX7_readStatement 58 = .ok (.iconst 4, 1) := by decide +kernel
theorem dX7_readStatement_59 : decode cX7_readStatement 59 = .ok (.iconst 0, 1) := by decide +kernel
theorem dX7_readStatement_60 : decode cX7_readStatement 60 = .ok (.invokevirtual 92, 3) := by decide +kernel
theorem dX7_readStatement_63 : decode cX7_readStatement 63 = .ok (.iload_n 1, 1) := by decide +kernel
theorem dX7_readStatement_64 : decode cX7_readStatement 64 = .ok (.ifCond .ne 79, 3) := by decide +kernel
theorem dX7_readStatement_67 : decode cX7_readStatement 67 = .ok (.aload_n 0, 1) := by decide +kernel
theorem dX7_readStatement_68 : decode cX7_readStatement 68 = .ok (.bipush 64, 2) := by decide +kernel
theorem dX7_readStatement_70 : decode cX7_readStatement 70 = .ok (.bipush 64, 2) := by decide +kernel
theorem dX7_readStatement_72 : decode cX7_readStatement 72 = .ok (.invokevirtual 86, 3) := by decide +kernel
theorem dX7_readStatement_75 : decode cX7_readStatement 75 = .ok (.istore_n 2, 1) := by decide +kernel
theorem dX7_readStatement_76 : decode cX7_readStatement 76 = .ok (.aload_n 0, 1) := by decide +kernel
theorem dX7_readStatement_77 : decode cX7_readStatement 77 = .ok (.bipush 48, 2) := by decide +kernel
theorem dX7_readStatement_79 : decode cX7_readStatement 79 = .ok (.bipush 57, 2) := by decide +kernel
theorem dX7_readStatement_81 : decode cX7_readStatement 81 = .ok (.invokevirtual 86, 3) := by decide +kernel
theorem dX7_readStatement_84 : decode cX7_readStatement 84 = .ok (.istore_n 3, 1) := by decide +kernel
theorem dX7_readStatement_85 : decode cX7_readStatement 85 = .ok (.iload_n 3, 1) := by decide +kernel
theorem dX7_readStatement_86 : decode cX7_readStatement 86 = .ok (.iconst 1, 1) := by decide +kernel
theorem dX7_readStatement_87 : decode cX7_readStatement 87 = .ok (.if_icmp .ne 28, 3) := by decide +kernel
theorem dX7_readStatement_90 : decode cX7_readStatement 90 = .ok (.aload_n 0, 1) := by decide +kernel
theorem dX7_readStatement_91 : decode cX7_readStatement 91 = .ok (.bipush 48, 2) := by decide +kernel
theorem dX7_readStatement_93 : decode cX7_readStatement 93 = .ok (.bipush 50, 2) := by decide +kernel
theorem dX7_readStatement_95 : decode cX7_readStatement 95 = .ok (.invokevirtual 83, 3) := by decide +kernel
theorem dX7_readStatement_98 : decode cX7_readStatement 98 = .ok (.ifCond .eq 17, 3) := by decide +kernel
theorem dX7_readStatement_101 : decode cX7_readStatement 101 = .ok (.bipush 10, 2) := by decide +kernel
theorem dX7_readStatement_103 : decode cX7_readStatement 103 = .ok (.aload_n 0, 1) := by decide +kernel
theorem dX7_readStatement_104 : decode cX7_readStatement 104 = .ok (.bipush 48, 2) := by decide +kernel
theorem dX7_readStatement_106 : decode cX7_readStatement 106 = .ok (.bipush 50, 2) := by decide +kernel
theorem dX7_readStatement_108 : decode cX7_readStatement 108 = .ok (.invokevirtual 86, 3) := by decide +kernel
theorem dX7_readStatement_111 : decode cX7_readStatement 111 = .ok (.iadd, 1) := by decide +kernel
theorem dX7_readStatement_112 : decode cX7_readStatement 112 = .ok (.goto 4, 3) := by decide +kernel
theorem dX7_readStatement_115 : decode cX7_readStatement 115 = .ok (.iload_n 3, 1) := by decide +kernel
theorem dX7_readStatement_116 : decode cX7_readStatement 116 = .ok (.istore_n 3, 1) := by decide +kernel
theorem dX7_readStatement_117 : decode cX7_readStatement 117 = .ok (.aload_n 0, 1) := by decide +kernel
theorem dX7_readStatement_118 : decode cX7_readStatement 118 = .ok (.iconst 4, 1) := by decide +kernel
theorem dX7_readStatement_119 : decode cX7_readStatement 119 = .ok (.iload_n 3, 1) := by decide +kernel
theorem dX7_readStatement_120 : decode cX7_readStatement 120 = .ok (.invokevirtual 92, 3) := by decide +kernel
theorem dX7_readStatement_123 : decode cX7_readStatement 123 = .ok (.aload_n 0, 1) := by decide +kernel
theorem dX7_readStatement_124 : decode cX7_readStatement 124 = .ok (.iload_n 3, 1) := by decide +kernel
theorem dX7_readStatement_125 : decode cX7_readStatement 125 = .ok (.aload_n 0, 1) := by decide +kernel
theorem dX7_readStatement_126 : decode cX7_readStatement 126 = .ok (.getfield 106, 3) := by decide +kernel
theorem dX7_readStatement_129 : decode cX7_readStatement 129 = .ok (.if_icmp .le 7, 3) := by decide +kernel
theorem dX7_readStatement_132 : decode cX7_readStatement 132 = .ok (.iload_n 3, 1) := by decide +kernel
theorem dX7_readStatement_133 : decode cX7_readStatement 133 = .ok (.goto 7, 3) := by decide +kernel
theorem dX7_readStatement_136 : decode cX7_readStatement 136 = .ok (.aload_n 0, 1) := by decide +kernel
theorem dX7_readStatement_137 : decode cX7_readStatement 137 = .ok (.getfield 106, 3) := by decide +kernel
theorem dX7_readStatement_140 : decode cX7_readStatement 140 = .ok (.putfield 106, 3) := by decide +kernel
theorem dX7_readStatement_143 : decode cX7_readStatement 143 = .ok (.return_, 1) := by decide +kernel
theorem dX7_reads_0 : decode cX7_reads 0 = .ok (.aload_n 0, 1) := by decide +kernel
theorem dX7_reads_1 : decode cX7_reads 1 = .ok (.iconst 0, 1) := by decide +kernel
theorem dX7_reads_2 : decode cX7_reads 2 = .ok (.putfield 77, 3) := by decide +kernel
theorem dX7_reads_5 : decode cX7_reads 5 = .ok (.aload_n 0, 1) := by decide +kernel
theorem dX7_reads_6 : decode cX7_reads 6 = .ok (.iconst 0, 1) := by decide +kernel
theorem dX7_reads_7 : decode cX7_reads 7 = .ok (.putfield 73, 3) := by decide +kernel
theorem dX7_reads_10 : decode cX7_reads 10 = .ok (.aload_n 0, 1) := by decide +kernel
theorem dX7_reads_11 : decode cX7_reads 11 = .ok (.iconst 0, 1) := by decide +kernel
theorem dX7_reads_12 : decode cX7_reads 12 = .ok (.putfield 89, 3) := by decide +kernel
theorem dX7_reads_15 : decode cX7_reads 15 = .ok (.aload_n 0, 1) := by decide +kernel
theorem dX7_reads_16 : decode cX7_reads 16 = .ok (.iconst 0, 1) := by decide +kernel
theorem dX7_reads_17 : decode cX7_reads 17 = .ok (.putfield 106, 3) := by decide +kernel
theorem dX7_reads_20 : decode cX7_reads 20 = .ok (.iconst 1, 1) := by decide +kernel
theorem dX7_reads_21 : decode cX7_reads 21 = .ok (.istore_n 1, 1) := by decide +kernel
theorem dX7_reads_22 : decode cX7_reads 22 = .ok (.iload_n 1, 1) := by decide +kernel
theorem dX7_reads_23 : decode cX7_reads 23 = .ok (.ifCond .eq 93, 3) := by decide +kernel
theorem dX7_reads_26 : decode cX7_reads 26 = .ok (.aload_n 0, 1) := by decide +kernel
theorem dX7_reads_27 : decode cX7_reads 27 = .ok (.invokevirtual 109, 3) := by decide +kernel
theorem dX7_reads_30 : decode cX7_reads 30 = .ok (.aload_n 0, 1) := by decide +kernel
theorem dX7_reads_31 : decode cX7_reads 31 = .ok (.dup, 1) := by decide +kernel
theorem dX7_reads_32 : decode cX7_reads 32 = .ok (.getfield 89, 3) := by decide +kernel
theorem dX7_reads_35 : decode cX7_reads 35 = .ok (.aload_n 0, 1) := by decide +kernel
theorem dX7_reads_36 : decode cX7_reads 36 = .ok (.getfield 73, 3) := by decide +kernel
theorem dX7_reads_39 : decode cX7_reads 39 = .ok (.ifCond .eq 7, 3) := by decide +kernel
theorem dX7_reads_42 : decode cX7_reads 42 = .ok (.iconst 0, 1) := by decide +kernel
theorem dX7_reads_43 : decode cX7_reads 43 = .ok (.goto 4, 3) := by decide +kernel
theorem dX7_reads_46 : decode cX7_reads 46 = .ok (.iconst 1, 1) := by decide +kernel
theorem dX7_reads_47 : decode cX7_reads 47 = .ok (.iadd, 1) := by decide +kernel
theorem dX7_reads_48 : decode cX7_reads 48 = .ok (.putfield 89, 3) := by decide +kernel
theorem dX7_reads_51 : decode cX7_reads 51 = .ok (.aload_n 0, 1) := by decide +kernel
theorem dX7_reads_52 : decode cX7_reads 52 = .ok (.getfield 73, 3) := by decide +kernel
theorem dX7_reads_55 : decode cX7_reads 55 = .ok (.ifCond .ne 38, 3) := by decide +kernel
theorem dX7_reads_58 : decode cX7_reads 58 = .ok (.aload_n 0, 1) := by decide +kernel
theorem dX7_reads_59 : decode cX7_reads 59 = .ok (.getfield 77, 3) := by decide +kernel
theorem dX7_reads_62 : decode cX7_reads 62 = .ok (.aload_n 0, 1) := by decide +kernel
theorem dX7_reads_63 : decode cX7_reads 63 = .ok (.getfield 80, 3) := by decide +kernel
theorem dX7_reads_66 : decode cX7_reads 66 = .ok (.if_icmp .ge 27, 3) := by decide +kernel
theorem dX7_reads_69 : decode cX7_reads 69 = .ok (.aload_n 0, 1) := by decide +kernel
theorem dX7_reads_70 : decode cX7_reads 70 = .ok (.getfield 89, 3) := by decide +kernel
theorem dX7_reads_73 : decode cX7_reads 73 = .ok (.bipush 12, 2) := by decide +kernel
theorem dX7_reads_75 : decode cX7_reads 75 = .ok (.if_icmp .ge 18, 3) := by decide +kernel
theorem dX7_reads_78 : decode cX7_reads 78 = .ok (.aload_n 0, 1) := by decide +kernel
theorem dX7_reads_79 : decode cX7_reads 79 = .ok (.bipush 59, 2) := by decide +kernel
theorem dX7_reads_81 : decode cX7_reads 81 = .ok (.bipush 59, 2) := by decide +kernel
theorem dX7_reads_83 : decode cX7_reads 83 = .ok (.invokevirtual 83, 3) := by decide +kernel
theorem dX7_reads_86 : decode cX7_reads 86 = .ok (.ifCond .eq 7, 3) := by decide +kernel
theorem dX7_reads_89 : decode cX7_reads 89 = .ok (.iconst 1, 1) := by decide +kernel
theorem dX7_reads_90 : decode cX7_reads 90 = .ok (.goto 4, 3) := by decide +kernel
theorem dX7_reads_93 : decode cX7_reads 93 = .ok (.iconst 0, 1) := by decide +kernel
theorem dX7_reads_94 : decode cX7_reads 94 = .ok (.istore_n 1, 1) := by decide +kernel
theorem dX7_reads_95 : decode cX7_reads 95 = .ok (.aload_n 0, 1) := by decide +kernel
theorem dX7_reads_96 : decode cX7_reads 96 = .ok (.dup, 1) := by decide +kernel
theorem dX7_reads_97 : decode cX7_reads 97 = .ok (.getfield 77, 3) := by decide +kernel
theorem dX7_reads_100 : decode cX7_reads 100 = .ok (.iload_n 1, 1) := by decide +kernel
theorem dX7_reads_101 : decode cX7_reads 101 = .ok (.ifCond .eq 7, 3) := by decide +kernel
theorem dX7_reads_104 : decode cX7_reads 104 = .ok (.iconst 1, 1) := by decide +kernel
theorem dX7_reads_105 : decode cX7_reads 105 = .ok (.goto 4, 3) := by decide +kernel
theorem dX7_reads_108 : decode cX7_reads 108 = .ok (.iconst 0, 1) := by decide +kernel
theorem dX7_reads_109 : decode cX7_reads 109 = .ok (.iadd, 1) := by decide +kernel
theorem dX7_reads_110 : decode cX7_reads 110 = .ok (.putfield 77, 3) := by decide +kernel
theorem dX7_reads_113 : decode cX7_reads 113 = .ok (.goto (-91), 3) := by decide +kernel
theorem dX7_reads_116 : decode cX7_reads 116 = .ok (.aload_n 0, 1) := by decide +kernel
theorem dX7_reads_117 : decode cX7_reads 117 = .ok (.getfield 73, 3) := by decide +kernel
theorem dX7_reads_120 : decode cX7_reads 120 = .ok (.ifCond .ne 18, 3) := by decide +kernel
theorem dX7_reads_123 : decode cX7_reads 123 = .ok (.aload_n 0, 1) := by decide +kernel
theorem dX7_reads_124 : decode cX7_reads 124 = .ok (.getfield 77, 3) := by decide +kernel
theorem dX7_reads_127 : decode cX7_reads 127 = .ok (.aload_n 0, 1) := by decide +kernel
theorem dX7_reads_128 : decode cX7_reads 128 = .ok (.getfield 80, 3) := by decide +kernel
theorem dX7_reads_131 : decode cX7_reads 131 = .ok (.if_icmp .ne 7, 3) := by decide +kernel
theorem dX7_reads_134 : decode cX7_reads 134 = .ok (.iconst 1, 1) := by decide +kernel
theorem dX7_reads_135 : decode cX7_reads 135 = .ok (.goto 4, 3) := by decide +kernel
theorem dX7_reads_138 : decode cX7_reads 138 = .ok (.iconst 0, 1) := by decide +kernel
theorem dX7_reads_139 : decode cX7_reads 139 = .ok (.ireturn, 1) := by decide +kernel
theorem dX7_places_0 : decode cX7_places 0 = .ok (.iconst 0, 1) := by decide +kernel
theorem dX7_places_1 : decode cX7_places 1 = .ok (.istore_n 2, 1) := by decide +kernel
theorem dX7_places_2 : decode cX7_places 2 = .ok (.iload_n 2, 1) := by decide +kernel
theorem dX7_places_3 : decode cX7_places 3 = .ok (.iconst 5, 1) := by decide +kernel
theorem dX7_places_4 : decode cX7_places 4 = .ok (.aload_n 0, 1) := by decide +kernel
theorem dX7_places_5 : decode cX7_places 5 = .ok (.getfield 89, 3) := by decide +kernel
theorem dX7_places_8 : decode cX7_places 8 = .ok (.imul, 1) := by decide +kernel
theorem dX7_places_9 : decode cX7_places 9 = .ok (.if_icmp .ge 27, 3) := by decide +kernel
theorem dX7_places_12 : decode cX7_places 12 = .ok (.aload_n 0, 1) := by decide +kernel
theorem dX7_places_13 : decode cX7_places 13 = .ok (.getfield 7, 3) := by decide +kernel
theorem dX7_places_16 : decode cX7_places 16 = .ok (.iconst 1, 1) := by decide +kernel
theorem dX7_places_17 : decode cX7_places 17 = .ok (.iconst 5, 1) := by decide +kernel
theorem dX7_places_18 : decode cX7_places 18 = .ok (.iload_n 1, 1) := by decide +kernel
theorem dX7_places_19 : decode cX7_places 19 = .ok (.imul, 1) := by decide +kernel
theorem dX7_places_20 : decode cX7_places 20 = .ok (.iadd, 1) := by decide +kernel
theorem dX7_places_21 : decode cX7_places 21 = .ok (.iload_n 2, 1) := by decide +kernel
theorem dX7_places_22 : decode cX7_places 22 = .ok (.iadd, 1) := by decide +kernel
theorem dX7_places_23 : decode cX7_places 23 = .ok (.aload_n 0, 1) := by decide +kernel
theorem dX7_places_24 : decode cX7_places 24 = .ok (.getfield 19, 3) := by decide +kernel
theorem dX7_places_27 : decode cX7_places 27 = .ok (.iload_n 2, 1) := by decide +kernel
theorem dX7_places_28 : decode cX7_places 28 = .ok (.iaload, 1) := by decide +kernel
theorem dX7_places_29 : decode cX7_places 29 = .ok (.iastore, 1) := by decide +kernel
theorem dX7_places_30 : decode cX7_places 30 = .ok (.iinc 2 1, 3) := by decide +kernel
theorem dX7_places_33 : decode cX7_places 33 = .ok (.goto (-31), 3) := by decide +kernel
theorem dX7_places_36 : decode cX7_places 36 = .ok (.aload_n 0, 1) := by decide +kernel
theorem dX7_places_37 : decode cX7_places 37 = .ok (.getfield 7, 3) := by decide +kernel
theorem dX7_places_40 : decode cX7_places 40 = .ok (.iconst 0, 1) := by decide +kernel
theorem dX7_places_41 : decode cX7_places 41 = .ok (.iload_n 1, 1) := by decide +kernel
theorem dX7_places_42 : decode cX7_places 42 = .ok (.aload_n 0, 1) := by decide +kernel
theorem dX7_places_43 : decode cX7_places 43 = .ok (.getfield 89, 3) := by decide +kernel
theorem dX7_places_46 : decode cX7_places 46 = .ok (.iadd, 1) := by decide +kernel
theorem dX7_places_47 : decode cX7_places 47 = .ok (.iastore, 1) := by decide +kernel
theorem dX7_places_48 : decode cX7_places 48 = .ok (.aload_n 0, 1) := by decide +kernel
theorem dX7_places_49 : decode cX7_places 49 = .ok (.iconst 0, 1) := by decide +kernel
theorem dX7_places_50 : decode cX7_places 50 = .ok (.putfield 80, 3) := by decide +kernel
theorem dX7_places_53 : decode cX7_places 53 = .ok (.aload_n 0, 1) := by decide +kernel
theorem dX7_places_54 : decode cX7_places 54 = .ok (.getfield 7, 3) := by decide +kernel
theorem dX7_places_57 : decode cX7_places 57 = .ok (.iconst 0, 1) := by decide +kernel
theorem dX7_places_58 : decode cX7_places 58 = .ok (.iaload, 1) := by decide +kernel
theorem dX7_places_59 : decode cX7_places 59 = .ok (.ireturn, 1) := by decide +kernel
theorem dX7_load_0 : decode cX7_load 0 = .ok (.aload_n 0, 1) := by decide +kernel
theorem dX7_load_1 : decode cX7_load 1 = .ok (.invokevirtual 112, 3) := by decide +kernel
theorem dX7_load_4 : decode cX7_load 4 = .ok (.ifCond .eq 18, 3) := by decide +kernel
theorem dX7_load_7 : decode cX7_load 7 = .ok (.aload_n 0, 1) := by decide +kernel
theorem dX7_load_8 : decode cX7_load 8 = .ok (.getfield 106, 3) := by decide +kernel
theorem dX7_load_11 : decode cX7_load 11 = .ok (.aload_n 0, 1) := by decide +kernel
theorem dX7_load_12 : decode cX7_load 12 = .ok (.getfield 89, 3) := by decide +kernel
theorem dX7_load_15 : decode cX7_load 15 = .ok (.if_icmp .gt 7, 3) := by decide +kernel
theorem dX7_load_18 : decode cX7_load 18 = .ok (.iconst 1, 1) := by decide +kernel
theorem dX7_load_19 : decode cX7_load 19 = .ok (.goto 4, 3) := by decide +kernel
theorem dX7_load_22 : decode cX7_load 22 = .ok (.iconst 0, 1) := by decide +kernel
theorem dX7_load_23 : decode cX7_load 23 = .ok (.istore_n 1, 1) := by decide +kernel
theorem dX7_load_24 : decode cX7_load 24 = .ok (.aload_n 0, 1) := by decide +kernel
theorem dX7_load_25 : decode cX7_load 25 = .ok (.iload_n 1, 1) := by decide +kernel
theorem dX7_load_26 : decode cX7_load 26 = .ok (.ifCond .eq 7, 3) := by decide +kernel
theorem dX7_load_29 : decode cX7_load 29 = .ok (.iconst 0, 1) := by decide +kernel
theorem dX7_load_30 : decode cX7_load 30 = .ok (.goto 4, 3) := by decide +kernel
theorem dX7_load_33 : decode cX7_load 33 = .ok (.iconst 1, 1) := by decide +kernel
theorem dX7_load_34 : decode cX7_load 34 = .ok (.invokevirtual 116, 3) := by decide +kernel
theorem dX7_load_37 : decode cX7_load 37 = .ok (.ifCond .ne 5, 3) := by decide +kernel
theorem dX7_load_40 : decode cX7_load 40 = .ok (.iconst 0, 1) := by decide +kernel
theorem dX7_load_41 : decode cX7_load 41 = .ok (.ireturn, 1) := by decide +kernel
theorem dX7_load_42 : decode cX7_load 42 = .ok (.aload_n 0, 1) := by decide +kernel
theorem dX7_load_43 : decode cX7_load 43 = .ok (.invokevirtual 119, 3) := by decide +kernel
theorem dX7_load_46 : decode cX7_load 46 = .ok (.aload_n 0, 1) := by decide +kernel
theorem dX7_load_47 : decode cX7_load 47 = .ok (.iconst 0, 1) := by decide +kernel
theorem dX7_load_48 : decode cX7_load 48 = .ok (.invokevirtual 122, 3) := by decide +kernel
theorem dX7_load_51 : decode cX7_load 51 = .ok (.ireturn, 1) := by decide +kernel
theorem dX7_add_0 : decode cX7_add 0 = .ok (.aload_n 0, 1) := by decide +kernel
theorem dX7_add_1 : decode cX7_add 1 = .ok (.invokevirtual 112, 3) := by decide +kernel
theorem dX7_add_4 : decode cX7_add 4 = .ok (.ifCond .eq 41, 3) := by decide +kernel
theorem dX7_add_7 : decode cX7_add 7 = .ok (.aload_n 0, 1) := by decide +kernel
theorem dX7_add_8 : decode cX7_add 8 = .ok (.getfield 7, 3) := by decide +kernel
theorem dX7_add_11 : decode cX7_add 11 = .ok (.iconst 0, 1) := by decide +kernel
theorem dX7_add_12 : decode cX7_add 12 = .ok (.iaload, 1) := by decide +kernel
theorem dX7_add_13 : decode cX7_add 13 = .ok (.aload_n 0, 1) := by decide +kernel
theorem dX7_add_14 : decode cX7_add 14 = .ok (.getfield 89, 3) := by decide +kernel
theorem dX7_add_17 : decode cX7_add 17 = .ok (.iadd, 1) := by decide +kernel
theorem dX7_add_18 : decode cX7_add 18 = .ok (.bipush 12, 2) := by decide +kernel
theorem dX7_add_20 : decode cX7_add 20 = .ok (.if_icmp .gt 25, 3) := by decide +kernel
theorem dX7_add_23 : decode cX7_add 23 = .ok (.aload_n 0, 1) := by decide +kernel
theorem dX7_add_24 : decode cX7_add 24 = .ok (.getfield 106, 3) := by decide +kernel
theorem dX7_add_27 : decode cX7_add 27 = .ok (.aload_n 0, 1) := by decide +kernel
theorem dX7_add_28 : decode cX7_add 28 = .ok (.getfield 7, 3) := by decide +kernel
theorem dX7_add_31 : decode cX7_add 31 = .ok (.iconst 0, 1) := by decide +kernel
theorem dX7_add_32 : decode cX7_add 32 = .ok (.iaload, 1) := by decide +kernel
theorem dX7_add_33 : decode cX7_add 33 = .ok (.aload_n 0, 1) := by decide +kernel
theorem dX7_add_34 : decode cX7_add 34 = .ok (.getfield 89, 3) := by decide +kernel
theorem dX7_add_37 : decode cX7_add 37 = .ok (.iadd, 1) := by decide +kernel
theorem dX7_add_38 : decode cX7_add 38 = .ok (.if_icmp .gt 7, 3) := by decide +kernel
theorem dX7_add_41 : decode cX7_add 41 = .ok (.iconst 1, 1) := by decide +kernel
theorem dX7_add_42 : decode cX7_add 42 = .ok (.goto 4, 3) := by decide +kernel
theorem dX7_add_45 : decode cX7_add 45 = .ok (.iconst 0, 1) := by decide +kernel
theorem dX7_add_46 : decode cX7_add 46 = .ok (.istore_n 1, 1) := by decide +kernel
theorem dX7_add_47 : decode cX7_add 47 = .ok (.aload_n 0, 1) := by decide +kernel
theorem dX7_add_48 : decode cX7_add 48 = .ok (.iload_n 1, 1) := by decide +kernel
theorem dX7_add_49 : decode cX7_add 49 = .ok (.ifCond .eq 7, 3) := by decide +kernel
theorem dX7_add_52 : decode cX7_add 52 = .ok (.iconst 0, 1) := by decide +kernel
theorem dX7_add_53 : decode cX7_add 53 = .ok (.goto 4, 3) := by decide +kernel
theorem dX7_add_56 : decode cX7_add 56 = .ok (.iconst 1, 1) := by decide +kernel
theorem dX7_add_57 : decode cX7_add 57 = .ok (.invokevirtual 116, 3) := by decide +kernel
theorem dX7_add_60 : decode cX7_add 60 = .ok (.ifCond .ne 5, 3) := by decide +kernel
theorem dX7_add_63 : decode cX7_add 63 = .ok (.iconst 0, 1) := by decide +kernel
theorem dX7_add_64 : decode cX7_add 64 = .ok (.ireturn, 1) := by decide +kernel
theorem dX7_add_65 : decode cX7_add 65 = .ok (.aload_n 0, 1) := by decide +kernel
theorem dX7_add_66 : decode cX7_add 66 = .ok (.invokevirtual 119, 3) := by decide +kernel
theorem dX7_add_69 : decode cX7_add 69 = .ok (.aload_n 0, 1) := by decide +kernel
theorem dX7_add_70 : decode cX7_add 70 = .ok (.aload_n 0, 1) := by decide +kernel
theorem dX7_add_71 : decode cX7_add 71 = .ok (.getfield 7, 3) := by decide +kernel
theorem dX7_add_74 : decode cX7_add 74 = .ok (.iconst 0, 1) := by decide +kernel
theorem dX7_add_75 : decode cX7_add 75 = .ok (.iaload, 1) := by decide +kernel
theorem dX7_add_76 : decode cX7_add 76 = .ok (.invokevirtual 122, 3) := by decide +kernel
theorem dX7_add_79 : decode cX7_add 79 = .ok (.ireturn, 1) := by decide +kernel
theorem dX7_removeLast_0 : decode cX7_removeLast 0 = .ok (.aload_n 0, 1) := by decide +kernel
theorem dX7_removeLast_1 : decode cX7_removeLast 1 = .ok (.aload_n 0, 1) := by decide +kernel
theorem dX7_removeLast_2 : decode cX7_removeLast 2 = .ok (.getfield 7, 3) := by decide +kernel
theorem dX7_removeLast_5 : decode cX7_removeLast 5 = .ok (.iconst 0, 1) := by decide +kernel
theorem dX7_removeLast_6 : decode cX7_removeLast 6 = .ok (.iaload, 1) := by decide +kernel
theorem dX7_removeLast_7 : decode cX7_removeLast 7 = .ok (.ifCond .le 7, 3) := by decide +kernel
theorem dX7_removeLast_10 : decode cX7_removeLast 10 = .ok (.iconst 0, 1) := by decide +kernel
theorem dX7_removeLast_11 : decode cX7_removeLast 11 = .ok (.goto 4, 3) := by decide +kernel
theorem dX7_removeLast_14 : decode cX7_removeLast 14 = .ok (.iconst 1, 1) := by decide +kernel
theorem dX7_removeLast_15 : decode cX7_removeLast 15 = .ok (.invokevirtual 116, 3) := by decide +kernel
theorem dX7_removeLast_18 : decode cX7_removeLast 18 = .ok (.ifCond .ne 5, 3) := by decide +kernel
theorem dX7_removeLast_21 : decode cX7_removeLast 21 = .ok (.iconst 0, 1) := by decide +kernel
theorem dX7_removeLast_22 : decode cX7_removeLast 22 = .ok (.ireturn, 1) := by decide +kernel
theorem dX7_removeLast_23 : decode cX7_removeLast 23 = .ok (.aload_n 0, 1) := by decide +kernel
theorem dX7_removeLast_24 : decode cX7_removeLast 24 = .ok (.invokevirtual 119, 3) := by decide +kernel
theorem dX7_removeLast_27 : decode cX7_removeLast 27 = .ok (.aload_n 0, 1) := by decide +kernel
theorem dX7_removeLast_28 : decode cX7_removeLast 28 = .ok (.getfield 7, 3) := by decide +kernel
theorem dX7_removeLast_31 : decode cX7_removeLast 31 = .ok (.iconst 0, 1) := by decide +kernel
theorem dX7_removeLast_32 : decode cX7_removeLast 32 = .ok (.dup2, 1) := by decide +kernel
theorem dX7_removeLast_33 : decode cX7_removeLast 33 = .ok (.iaload, 1) := by decide +kernel
theorem dX7_removeLast_34 : decode cX7_removeLast 34 = .ok (.iconst 1, 1) := by decide +kernel
theorem dX7_removeLast_35 : decode cX7_removeLast 35 = .ok (.isub, 1) := by decide +kernel
theorem dX7_removeLast_36 : decode cX7_removeLast 36 = .ok (.iastore, 1) := by decide +kernel
theorem dX7_removeLast_37 : decode cX7_removeLast 37 = .ok (.iconst 0, 1) := by decide +kernel
theorem dX7_removeLast_38 : decode cX7_removeLast 38 = .ok (.istore_n 1, 1) := by decide +kernel
theorem dX7_removeLast_39 : decode cX7_removeLast 39 = .ok (.iload_n 1, 1) := by decide +kernel
theorem dX7_removeLast_40 : decode cX7_removeLast 40 = .ok (.aload_n 0, 1) := by decide +kernel
theorem dX7_removeLast_41 : decode cX7_removeLast 41 = .ok (.getfield 7, 3) := by decide +kernel
theorem dX7_removeLast_44 : decode cX7_removeLast 44 = .ok (.iconst 0, 1) := by decide +kernel
theorem dX7_removeLast_45 : decode cX7_removeLast 45 = .ok (.iaload, 1) := by decide +kernel
theorem dX7_removeLast_46 : decode cX7_removeLast 46 = .ok (.if_icmp .ge 81, 3) := by decide +kernel
theorem dX7_removeLast_49 : decode cX7_removeLast 49 = .ok (.aload_n 0, 1) := by decide +kernel
theorem dX7_removeLast_50 : decode cX7_removeLast 50 = .ok (.getfield 7, 3) := by decide +kernel
theorem dX7_removeLast_53 : decode cX7_removeLast 53 = .ok (.iload_n 1, 1) := by decide +kernel
theorem dX7_removeLast_54 : decode cX7_removeLast 54 = .ok (.iconst 0, 1) := by decide +kernel
theorem dX7_removeLast_55 : decode cX7_removeLast 55 = .ok (.invokestatic 44, 3) := by decide +kernel
theorem dX7_removeLast_58 : decode cX7_removeLast 58 = .ok (.iaload, 1) := by decide +kernel
theorem dX7_removeLast_59 : decode cX7_removeLast 59 = .ok (.iconst 2, 1) := by decide +kernel
theorem dX7_removeLast_60 : decode cX7_removeLast 60 = .ok (.if_icmp .ne 26, 3) := by decide +kernel
theorem dX7_removeLast_63 : decode cX7_removeLast 63 = .ok (.aload_n 0, 1) := by decide +kernel
theorem dX7_removeLast_64 : decode cX7_removeLast 64 = .ok (.getfield 7, 3) := by decide +kernel
theorem dX7_removeLast_67 : decode cX7_removeLast 67 = .ok (.iload_n 1, 1) := by decide +kernel
theorem dX7_removeLast_68 : decode cX7_removeLast 68 = .ok (.iconst 4, 1) := by decide +kernel
theorem dX7_removeLast_69 : decode cX7_removeLast 69 = .ok (.invokestatic 44, 3) := by decide +kernel
theorem dX7_removeLast_72 : decode cX7_removeLast 72 = .ok (.iaload, 1) := by decide +kernel
theorem dX7_removeLast_73 : decode cX7_removeLast 73 = .ok (.aload_n 0, 1) := by decide +kernel
theorem dX7_removeLast_74 : decode cX7_removeLast 74 = .ok (.getfield 7, 3) := by decide +kernel
theorem dX7_removeLast_77 : decode cX7_removeLast 77 = .ok (.iconst 0, 1) := by decide +kernel
theorem dX7_removeLast_78 : decode cX7_removeLast 78 = .ok (.iaload, 1) := by decide +kernel
theorem dX7_removeLast_79 : decode cX7_removeLast 79 = .ok (.if_icmp .le 7, 3) := by decide +kernel
theorem dX7_removeLast_82 : decode cX7_removeLast 82 = .ok (.iconst 1, 1) := by decide +kernel
theorem dX7_removeLast_83 : decode cX7_removeLast 83 = .ok (.goto 4, 3) := by decide +kernel
theorem dX7_removeLast_86 : decode cX7_removeLast 86 = .ok (.iconst 0, 1) := by decide +kernel
theorem dX7_removeLast_87 : decode cX7_removeLast 87 = .ok (.istore_n 2, 1) := by decide +kernel
theorem dX7_removeLast_88 : decode cX7_removeLast 88 = .ok (.aload_n 0, 1) := by decide +kernel
theorem dX7_removeLast_89 : decode cX7_removeLast 89 = .ok (.getfield 7, 3) := by decide +kernel
theorem dX7_removeLast_92 : decode cX7_removeLast 92 = .ok (.iload_n 1, 1) := by decide +kernel
theorem dX7_removeLast_93 : decode cX7_removeLast 93 = .ok (.iconst 4, 1) := by decide +kernel
theorem dX7_removeLast_94 : decode cX7_removeLast 94 = .ok (.invokestatic 44, 3) := by decide +kernel
theorem dX7_removeLast_97 : decode cX7_removeLast 97 = .ok (.iload_n 2, 1) := by decide +kernel
theorem dX7_removeLast_98 : decode cX7_removeLast 98 = .ok (.ifCond .eq 12, 3) := by decide +kernel
theorem dX7_removeLast_101 : decode cX7_removeLast 101 = .ok (.aload_n 0, 1) := by decide +kernel
theorem dX7_removeLast_102 : decode cX7_removeLast 102 = .ok (.getfield 7, 3) := by decide +kernel
theorem dX7_removeLast_105 : decode cX7_removeLast 105 = .ok (.iconst 0, 1) := by decide +kernel
theorem dX7_removeLast_106 : decode cX7_removeLast 106 = .ok (.iaload, 1) := by decide +kernel
theorem dX7_removeLast_107 : decode cX7_removeLast 107 = .ok (.goto 13, 3) := by decide +kernel
theorem dX7_removeLast_110 : decode cX7_removeLast 110 = .ok (.aload_n 0, 1) := by decide +kernel
theorem dX7_removeLast_111 : decode cX7_removeLast 111 = .ok (.getfield 7, 3) := by decide +kernel
theorem dX7_removeLast_114 : decode cX7_removeLast 114 = .ok (.iload_n 1, 1) := by decide +kernel
theorem dX7_removeLast_115 : decode cX7_removeLast 115 = .ok (.iconst 4, 1) := by decide +kernel
theorem dX7_removeLast_116 : decode cX7_removeLast 116 = .ok (.invokestatic 44, 3) := by decide +kernel
theorem dX7_removeLast_119 : decode cX7_removeLast 119 = .ok (.iaload, 1) := by decide +kernel
theorem dX7_removeLast_120 : decode cX7_removeLast 120 = .ok (.iastore, 1) := by decide +kernel
theorem dX7_removeLast_121 : decode cX7_removeLast 121 = .ok (.iinc 1 1, 3) := by decide +kernel
theorem dX7_removeLast_124 : decode cX7_removeLast 124 = .ok (.goto (-85), 3) := by decide +kernel
theorem dX7_removeLast_127 : decode cX7_removeLast 127 = .ok (.aload_n 0, 1) := by decide +kernel
theorem dX7_removeLast_128 : decode cX7_removeLast 128 = .ok (.getfield 7, 3) := by decide +kernel
theorem dX7_removeLast_131 : decode cX7_removeLast 131 = .ok (.iconst 0, 1) := by decide +kernel
theorem dX7_removeLast_132 : decode cX7_removeLast 132 = .ok (.iaload, 1) := by decide +kernel
theorem dX7_removeLast_133 : decode cX7_removeLast 133 = .ok (.ireturn, 1) := by decide +kernel
theorem dX7_statements_0 : decode cX7_statements 0 = .ok (.aload_n 0, 1) := by decide +kernel
theorem dX7_statements_1 : decode cX7_statements 1 = .ok (.iconst 0, 1) := by decide +kernel
theorem dX7_statements_2 : decode cX7_statements 2 = .ok (.putfield 29, 3) := by decide +kernel
theorem dX7_statements_5 : decode cX7_statements 5 = .ok (.aload_n 0, 1) := by decide +kernel
theorem dX7_statements_6 : decode cX7_statements 6 = .ok (.getfield 7, 3) := by decide +kernel
theorem dX7_statements_9 : decode cX7_statements 9 = .ok (.iconst 0, 1) := by decide +kernel
theorem dX7_statements_10 : decode cX7_statements 10 = .ok (.iaload, 1) := by decide +kernel
theorem dX7_statements_11 : decode cX7_statements 11 = .ok (.ireturn, 1) := by decide +kernel
theorem dX7_kind_0 : decode cX7_kind 0 = .ok (.aload_n 0, 1) := by decide +kernel
theorem dX7_kind_1 : decode cX7_kind 1 = .ok (.aload_n 0, 1) := by decide +kernel
theorem dX7_kind_2 : decode cX7_kind 2 = .ok (.iload_n 1, 1) := by decide +kernel
theorem dX7_kind_3 : decode cX7_kind 3 = .ok (.invokevirtual 125, 3) := by decide +kernel
theorem dX7_kind_6 : decode cX7_kind 6 = .ok (.ifCond .eq 7, 3) := by decide +kernel
theorem dX7_kind_9 : decode cX7_kind 9 = .ok (.iconst 0, 1) := by decide +kernel
theorem dX7_kind_10 : decode cX7_kind 10 = .ok (.goto 4, 3) := by decide +kernel
theorem dX7_kind_13 : decode cX7_kind 13 = .ok (.iconst 1, 1) := by decide +kernel
theorem dX7_kind_14 : decode cX7_kind 14 = .ok (.invokevirtual 116, 3) := by decide +kernel
theorem dX7_kind_17 : decode cX7_kind 17 = .ok (.ifCond .eq 16, 3) := by decide +kernel
theorem dX7_kind_20 : decode cX7_kind 20 = .ok (.aload_n 0, 1) := by decide +kernel
theorem dX7_kind_21 : decode cX7_kind 21 = .ok (.getfield 7, 3) := by decide +kernel
theorem dX7_kind_24 : decode cX7_kind 24 = .ok (.iload_n 1, 1) := by decide +kernel
theorem dX7_kind_25 : decode cX7_kind 25 = .ok (.iconst 0, 1) := by decide +kernel
theorem dX7_kind_26 : decode cX7_kind 26 = .ok (.invokestatic 44, 3) := by decide +kernel
theorem dX7_kind_29 : decode cX7_kind 29 = .ok (.iaload, 1) := by decide +kernel
theorem dX7_kind_30 : decode cX7_kind 30 = .ok (.goto 4, 3) := by decide +kernel
theorem dX7_kind_33 : decode cX7_kind 33 = .ok (.iconst 0, 1) := by decide +kernel
theorem dX7_kind_34 : decode cX7_kind 34 = .ok (.ireturn, 1) := by decide +kernel
theorem dX7_targetOf_0 : decode cX7_targetOf 0 = .ok (.aload_n 0, 1) := by decide +kernel
theorem dX7_targetOf_1 : decode cX7_targetOf 1 = .ok (.getfield 7, 3) := by decide +kernel
theorem dX7_targetOf_4 : decode cX7_targetOf 4 = .ok (.iload_n 1, 1) := by decide +kernel
theorem dX7_targetOf_5 : decode cX7_targetOf 5 = .ok (.iconst 0, 1) := by decide +kernel
theorem dX7_targetOf_6 : decode cX7_targetOf 6 = .ok (.invokestatic 44, 3) := by decide +kernel
theorem dX7_targetOf_9 : decode cX7_targetOf 9 = .ok (.iaload, 1) := by decide +kernel
theorem dX7_targetOf_10 : decode cX7_targetOf 10 = .ok (.iconst 2, 1) := by decide +kernel
theorem dX7_targetOf_11 : decode cX7_targetOf 11 = .ok (.if_icmp .ne 16, 3) := by decide +kernel
theorem dX7_targetOf_14 : decode cX7_targetOf 14 = .ok (.aload_n 0, 1) := by decide +kernel
theorem dX7_targetOf_15 : decode cX7_targetOf 15 = .ok (.getfield 7, 3) := by decide +kernel
theorem dX7_targetOf_18 : decode cX7_targetOf 18 = .ok (.iload_n 1, 1) := by decide +kernel
theorem dX7_targetOf_19 : decode cX7_targetOf 19 = .ok (.iconst 4, 1) := by decide +kernel
theorem dX7_targetOf_20 : decode cX7_targetOf 20 = .ok (.invokestatic 44, 3) := by decide +kernel
theorem dX7_targetOf_23 : decode cX7_targetOf 23 = .ok (.iaload, 1) := by decide +kernel
theorem dX7_targetOf_24 : decode cX7_targetOf 24 = .ok (.goto 4, 3) := by decide +kernel
theorem dX7_targetOf_27 : decode cX7_targetOf 27 = .ok (.iconst (-1), 1) := by decide +kernel
theorem dX7_targetOf_28 : decode cX7_targetOf 28 = .ok (.ireturn, 1) := by decide +kernel
theorem dX7_target_0 : decode cX7_target 0 = .ok (.aload_n 0, 1) := by decide +kernel
theorem dX7_target_1 : decode cX7_target 1 = .ok (.aload_n 0, 1) := by decide +kernel
theorem dX7_target_2 : decode cX7_target 2 = .ok (.iload_n 1, 1) := by decide +kernel
theorem dX7_target_3 : decode cX7_target 3 = .ok (.invokevirtual 125, 3) := by decide +kernel
theorem dX7_target_6 : decode cX7_target 6 = .ok (.ifCond .eq 7, 3) := by decide +kernel
theorem dX7_target_9 : decode cX7_target 9 = .ok (.iconst 0, 1) := by decide +kernel
theorem dX7_target_10 : decode cX7_target 10 = .ok (.goto 4, 3) := by decide +kernel
theorem dX7_target_13 : decode cX7_target 13 = .ok (.iconst 1, 1) := by decide +kernel
theorem dX7_target_14 : decode cX7_target 14 = .ok (.invokevirtual 116, 3) := by decide +kernel
theorem dX7_target_17 : decode cX7_target 17 = .ok (.ifCond .eq 11, 3) := by decide +kernel
theorem dX7_target_20 : decode cX7_target 20 = .ok (.aload_n 0, 1) := by decide +kernel
theorem dX7_target_21 : decode cX7_target 21 = .ok (.iload_n 1, 1) := by decide +kernel
theorem dX7_target_22 : decode cX7_target 22 = .ok (.invokevirtual 128, 3) := by decide +kernel
theorem dX7_target_25 : decode cX7_target 25 = .ok (.goto 4, 3) := by decide +kernel
theorem dX7_target_28 : decode cX7_target 28 = .ok (.iconst 0, 1) := by decide +kernel
theorem dX7_target_29 : decode cX7_target 29 = .ok (.ireturn, 1) := by decide +kernel
theorem dX7_run_0 : decode cX7_run 0 = .ok (.aload_n 0, 1) := by decide +kernel
theorem dX7_run_1 : decode cX7_run 1 = .ok (.iload_n 1, 1) := by decide +kernel
theorem dX7_run_2 : decode cX7_run 2 = .ok (.iload_n 2, 1) := by decide +kernel
theorem dX7_run_3 : decode cX7_run 3 = .ok (.iload_n 3, 1) := by decide +kernel
theorem dX7_run_4 : decode cX7_run 4 = .ok (.invokestatic 131, 3) := by decide +kernel
theorem dX7_run_7 : decode cX7_run 7 = .ok (.ifCond .eq 7, 3) := by decide +kernel
theorem dX7_run_10 : decode cX7_run 10 = .ok (.iconst 0, 1) := by decide +kernel
theorem dX7_run_11 : decode cX7_run 11 = .ok (.goto 4, 3) := by decide +kernel
theorem dX7_run_14 : decode cX7_run 14 = .ok (.iconst 1, 1) := by decide +kernel
theorem dX7_run_15 : decode cX7_run 15 = .ok (.invokevirtual 116, 3) := by decide +kernel
theorem dX7_run_18 : decode cX7_run 18 = .ok (.ifCond .ne 5, 3) := by decide +kernel
theorem dX7_run_21 : decode cX7_run 21 = .ok (.iconst 0, 1) := by decide +kernel
theorem dX7_run_22 : decode cX7_run 22 = .ok (.ireturn, 1) := by decide +kernel
theorem dX7_run_23 : decode cX7_run 23 = .ok (.aload_n 0, 1) := by decide +kernel
theorem dX7_run_24 : decode cX7_run 24 = .ok (.invokevirtual 134, 3) := by decide +kernel
theorem dX7_run_27 : decode cX7_run 27 = .ok (.aload_n 0, 1) := by decide +kernel
theorem dX7_run_28 : decode cX7_run 28 = .ok (.getfield 22, 3) := by decide +kernel
theorem dX7_run_31 : decode cX7_run 31 = .ok (.iload_n 1, 1) := by decide +kernel
theorem dX7_run_32 : decode cX7_run 32 = .ok (.iload_n 2, 1) := by decide +kernel
theorem dX7_run_33 : decode cX7_run 33 = .ok (.iload_n 3, 1) := by decide +kernel
theorem dX7_run_34 : decode cX7_run 34 = .ok (.invokestatic 137, 3) := by decide +kernel
theorem dX7_run_37 : decode cX7_run 37 = .ok (.iaload, 1) := by decide +kernel
theorem dX7_run_38 : decode cX7_run 38 = .ok (.ireturn, 1) := by decide +kernel
theorem dX7_steps_0 : decode cX7_steps 0 = .ok (.aload_n 0, 1) := by decide +kernel
theorem dX7_steps_1 : decode cX7_steps 1 = .ok (.iload_n 1, 1) := by decide +kernel
theorem dX7_steps_2 : decode cX7_steps 2 = .ok (.iload_n 2, 1) := by decide +kernel
theorem dX7_steps_3 : decode cX7_steps 3 = .ok (.iload_n 3, 1) := by decide +kernel
theorem dX7_steps_4 : decode cX7_steps 4 = .ok (.invokestatic 131, 3) := by decide +kernel
theorem dX7_steps_7 : decode cX7_steps 7 = .ok (.ifCond .eq 7, 3) := by decide +kernel
theorem dX7_steps_10 : decode cX7_steps 10 = .ok (.iconst 0, 1) := by decide +kernel
theorem dX7_steps_11 : decode cX7_steps 11 = .ok (.goto 4, 3) := by decide +kernel
theorem dX7_steps_14 : decode cX7_steps 14 = .ok (.iconst 1, 1) := by decide +kernel
theorem dX7_steps_15 : decode cX7_steps 15 = .ok (.invokevirtual 116, 3) := by decide +kernel
theorem dX7_steps_18 : decode cX7_steps 18 = .ok (.ifCond .ne 5, 3) := by decide +kernel
theorem dX7_steps_21 : decode cX7_steps 21 = .ok (.iconst 0, 1) := by decide +kernel
theorem dX7_steps_22 : decode cX7_steps 22 = .ok (.ireturn, 1) := by decide +kernel
theorem dX7_steps_23 : decode cX7_steps 23 = .ok (.aload_n 0, 1) := by decide +kernel
theorem dX7_steps_24 : decode cX7_steps 24 = .ok (.invokevirtual 134, 3) := by decide +kernel
theorem dX7_steps_27 : decode cX7_steps 27 = .ok (.iload_n 1, 1) := by decide +kernel
theorem dX7_steps_28 : decode cX7_steps 28 = .ok (.iload_n 2, 1) := by decide +kernel
theorem dX7_steps_29 : decode cX7_steps 29 = .ok (.iload_n 3, 1) := by decide +kernel
theorem dX7_steps_30 : decode cX7_steps 30 = .ok (.invokestatic 137, 3) := by decide +kernel
theorem dX7_steps_33 : decode cX7_steps 33 = .ok (.istore 4, 2) := by decide +kernel
theorem dX7_steps_35 : decode cX7_steps 35 = .ok (.aload_n 0, 1) := by decide +kernel
theorem dX7_steps_36 : decode cX7_steps 36 = .ok (.getfield 22, 3) := by decide +kernel
theorem dX7_steps_39 : decode cX7_steps 39 = .ok (.iload 4, 2) := by decide +kernel
theorem dX7_steps_41 : decode cX7_steps 41 = .ok (.iaload, 1) := by decide +kernel
theorem dX7_steps_42 : decode cX7_steps 42 = .ok (.iconst (-1), 1) := by decide +kernel
theorem dX7_steps_43 : decode cX7_steps 43 = .ok (.if_icmp .ne 5, 3) := by decide +kernel
theorem dX7_steps_46 : decode cX7_steps 46 = .ok (.iconst (-1), 1) := by decide +kernel
theorem dX7_steps_47 : decode cX7_steps 47 = .ok (.ireturn, 1) := by decide +kernel
theorem dX7_steps_48 : decode cX7_steps 48 = .ok (.iconst 0, 1) := by decide +kernel
theorem dX7_steps_49 : decode cX7_steps 49 = .ok (.istore 5, 2) := by decide +kernel
theorem dX7_steps_51 : decode cX7_steps 51 = .ok (.iload 4, 2) := by decide +kernel
theorem dX7_steps_53 : decode cX7_steps 53 = .ok (.iconst (-1), 1) := by decide +kernel
theorem dX7_steps_54 : decode cX7_steps 54 = .ok (.if_icmp .eq 26, 3) := by decide +kernel
theorem dX7_steps_57 : decode cX7_steps 57 = .ok (.aload_n 0, 1) := by decide +kernel
theorem dX7_steps_58 : decode cX7_steps 58 = .ok (.iload 4, 2) := by decide +kernel
theorem dX7_steps_60 : decode cX7_steps 60 = .ok (.invokevirtual 58, 3) := by decide +kernel
theorem dX7_steps_63 : decode cX7_steps 63 = .ok (.ifCond .ne 17, 3) := by decide +kernel
theorem dX7_steps_66 : decode cX7_steps 66 = .ok (.aload_n 0, 1) := by decide +kernel
theorem dX7_steps_67 : decode cX7_steps 67 = .ok (.iload 4, 2) := by decide +kernel
theorem dX7_steps_69 : decode cX7_steps 69 = .ok (.invokevirtual 62, 3) := by decide +kernel
theorem dX7_steps_72 : decode cX7_steps 72 = .ok (.istore 4, 2) := by decide +kernel
theorem dX7_steps_74 : decode cX7_steps 74 = .ok (.iinc 5 1, 3) := by decide +kernel
theorem dX7_steps_77 : decode cX7_steps 77 = .ok (.goto (-26), 3) := by decide +kernel
theorem dX7_steps_80 : decode cX7_steps 80 = .ok (.iload 5, 2) := by decide +kernel
theorem dX7_steps_82 : decode cX7_steps 82 = .ok (.ireturn, 1) := by decide +kernel
theorem dX7_demanded_0 : decode cX7_demanded 0 = .ok (.iconst 0, 1) := by decide +kernel
theorem dX7_demanded_1 : decode cX7_demanded 1 = .ok (.istore_n 2, 1) := by decide +kernel
theorem dX7_demanded_2 : decode cX7_demanded 2 = .ok (.iconst 0, 1) := by decide +kernel
theorem dX7_demanded_3 : decode cX7_demanded 3 = .ok (.istore_n 3, 1) := by decide +kernel
theorem dX7_demanded_4 : decode cX7_demanded 4 = .ok (.iload_n 3, 1) := by decide +kernel
theorem dX7_demanded_5 : decode cX7_demanded 5 = .ok (.sipush 512, 3) := by decide +kernel
theorem dX7_demanded_8 : decode cX7_demanded 8 = .ok (.if_icmp .ge 35, 3) := by decide +kernel
theorem dX7_demanded_11 : decode cX7_demanded 11 = .ok (.iload_n 2, 1) := by decide +kernel
theorem dX7_demanded_12 : decode cX7_demanded 12 = .ok (.aload_n 0, 1) := by decide +kernel
theorem dX7_demanded_13 : decode cX7_demanded 13 = .ok (.getfield 22, 3) := by decide +kernel
theorem dX7_demanded_16 : decode cX7_demanded 16 = .ok (.sipush 512, 3) := by decide +kernel
theorem dX7_demanded_19 : decode cX7_demanded 19 = .ok (.iload_n 1, 1) := by decide +kernel
theorem dX7_demanded_20 : decode cX7_demanded 20 = .ok (.imul, 1) := by decide +kernel
theorem dX7_demanded_21 : decode cX7_demanded 21 = .ok (.iload_n 3, 1) := by decide +kernel
theorem dX7_demanded_22 : decode cX7_demanded 22 = .ok (.iadd, 1) := by decide +kernel
theorem dX7_demanded_23 : decode cX7_demanded 23 = .ok (.iaload, 1) := by decide +kernel
theorem dX7_demanded_24 : decode cX7_demanded 24 = .ok (.sipush 1000, 3) := by decide +kernel
theorem dX7_demanded_27 : decode cX7_demanded 27 = .ok (.if_icmp .lt 7, 3) := by decide +kernel
theorem dX7_demanded_30 : decode cX7_demanded 30 = .ok (.iconst 1, 1) := by decide +kernel
theorem dX7_demanded_31 : decode cX7_demanded 31 = .ok (.goto 4, 3) := by decide +kernel
theorem dX7_demanded_34 : decode cX7_demanded 34 = .ok (.iconst 0, 1) := by decide +kernel
theorem dX7_demanded_35 : decode cX7_demanded 35 = .ok (.iadd, 1) := by decide +kernel
theorem dX7_demanded_36 : decode cX7_demanded 36 = .ok (.istore_n 2, 1) := by decide +kernel
theorem dX7_demanded_37 : decode cX7_demanded 37 = .ok (.iinc 3 1, 3) := by decide +kernel
theorem dX7_demanded_40 : decode cX7_demanded 40 = .ok (.goto (-36), 3) := by decide +kernel
theorem dX7_demanded_43 : decode cX7_demanded 43 = .ok (.iload_n 2, 1) := by decide +kernel
theorem dX7_demanded_44 : decode cX7_demanded 44 = .ok (.ireturn, 1) := by decide +kernel
theorem dX7_demand_0 : decode cX7_demand 0 = .ok (.aload_n 0, 1) := by decide +kernel
theorem dX7_demand_1 : decode cX7_demand 1 = .ok (.iload_n 1, 1) := by decide +kernel
theorem dX7_demand_2 : decode cX7_demand 2 = .ok (.iconst 0, 1) := by decide +kernel
theorem dX7_demand_3 : decode cX7_demand 3 = .ok (.aload_n 0, 1) := by decide +kernel
theorem dX7_demand_4 : decode cX7_demand 4 = .ok (.getfield 7, 3) := by decide +kernel
theorem dX7_demand_7 : decode cX7_demand 7 = .ok (.iconst 0, 1) := by decide +kernel
theorem dX7_demand_8 : decode cX7_demand 8 = .ok (.iaload, 1) := by decide +kernel
theorem dX7_demand_9 : decode cX7_demand 9 = .ok (.invokestatic 33, 3) := by decide +kernel
theorem dX7_demand_12 : decode cX7_demand 12 = .ok (.ifCond .eq 7, 3) := by decide +kernel
theorem dX7_demand_15 : decode cX7_demand 15 = .ok (.iconst 0, 1) := by decide +kernel
theorem dX7_demand_16 : decode cX7_demand 16 = .ok (.goto 4, 3) := by decide +kernel
theorem dX7_demand_19 : decode cX7_demand 19 = .ok (.iconst 1, 1) := by decide +kernel
theorem dX7_demand_20 : decode cX7_demand 20 = .ok (.invokevirtual 116, 3) := by decide +kernel
theorem dX7_demand_23 : decode cX7_demand 23 = .ok (.ifCond .ne 5, 3) := by decide +kernel
theorem dX7_demand_26 : decode cX7_demand 26 = .ok (.iconst 0, 1) := by decide +kernel
theorem dX7_demand_27 : decode cX7_demand 27 = .ok (.ireturn, 1) := by decide +kernel
theorem dX7_demand_28 : decode cX7_demand 28 = .ok (.aload_n 0, 1) := by decide +kernel
theorem dX7_demand_29 : decode cX7_demand 29 = .ok (.invokevirtual 134, 3) := by decide +kernel
theorem dX7_demand_32 : decode cX7_demand 32 = .ok (.aload_n 0, 1) := by decide +kernel
theorem dX7_demand_33 : decode cX7_demand 33 = .ok (.iload_n 1, 1) := by decide +kernel
theorem dX7_demand_34 : decode cX7_demand 34 = .ok (.invokevirtual 140, 3) := by decide +kernel
theorem dX7_demand_37 : decode cX7_demand 37 = .ok (.ireturn, 1) := by decide +kernel
theorem dX7_demands_0 : decode cX7_demands 0 = .ok (.aload_n 0, 1) := by decide +kernel
theorem dX7_demands_1 : decode cX7_demands 1 = .ok (.iload_n 1, 1) := by decide +kernel
theorem dX7_demands_2 : decode cX7_demands 2 = .ok (.iconst 0, 1) := by decide +kernel
theorem dX7_demands_3 : decode cX7_demands 3 = .ok (.aload_n 0, 1) := by decide +kernel
theorem dX7_demands_4 : decode cX7_demands 4 = .ok (.getfield 7, 3) := by decide +kernel
theorem dX7_demands_7 : decode cX7_demands 7 = .ok (.iconst 0, 1) := by decide +kernel
theorem dX7_demands_8 : decode cX7_demands 8 = .ok (.iaload, 1) := by decide +kernel
theorem dX7_demands_9 : decode cX7_demands 9 = .ok (.invokestatic 33, 3) := by decide +kernel
theorem dX7_demands_12 : decode cX7_demands 12 = .ok (.ifCond .ne 7, 3) := by decide +kernel
theorem dX7_demands_15 : decode cX7_demands 15 = .ok (.iconst 1, 1) := by decide +kernel
theorem dX7_demands_16 : decode cX7_demands 16 = .ok (.goto 18, 3) := by decide +kernel
theorem dX7_demands_19 : decode cX7_demands 19 = .ok (.iload_n 2, 1) := by decide +kernel
theorem dX7_demands_20 : decode cX7_demands 20 = .ok (.iload_n 3, 1) := by decide +kernel
theorem dX7_demands_21 : decode cX7_demands 21 = .ok (.iload 4, 2) := by decide +kernel
theorem dX7_demands_23 : decode cX7_demands 23 = .ok (.invokestatic 131, 3) := by decide +kernel
theorem dX7_demands_26 : decode cX7_demands 26 = .ok (.ifCond .eq 7, 3) := by decide +kernel
theorem dX7_demands_29 : decode cX7_demands 29 = .ok (.iconst 0, 1) := by decide +kernel
theorem dX7_demands_30 : decode cX7_demands 30 = .ok (.goto 4, 3) := by decide +kernel
theorem dX7_demands_33 : decode cX7_demands 33 = .ok (.iconst 2, 1) := by decide +kernel
theorem dX7_demands_34 : decode cX7_demands 34 = .ok (.invokevirtual 116, 3) := by decide +kernel
theorem dX7_demands_37 : decode cX7_demands 37 = .ok (.ifCond .ne 5, 3) := by decide +kernel
theorem dX7_demands_40 : decode cX7_demands 40 = .ok (.iconst 0, 1) := by decide +kernel
theorem dX7_demands_41 : decode cX7_demands 41 = .ok (.ireturn, 1) := by decide +kernel
theorem dX7_demands_42 : decode cX7_demands 42 = .ok (.aload_n 0, 1) := by decide +kernel
theorem dX7_demands_43 : decode cX7_demands 43 = .ok (.invokevirtual 134, 3) := by decide +kernel
theorem dX7_demands_46 : decode cX7_demands 46 = .ok (.aload_n 0, 1) := by decide +kernel
theorem dX7_demands_47 : decode cX7_demands 47 = .ok (.getfield 22, 3) := by decide +kernel
theorem dX7_demands_50 : decode cX7_demands 50 = .ok (.sipush 512, 3) := by decide +kernel
theorem dX7_demands_53 : decode cX7_demands 53 = .ok (.iload_n 1, 1) := by decide +kernel
theorem dX7_demands_54 : decode cX7_demands 54 = .ok (.imul, 1) := by decide +kernel
theorem dX7_demands_55 : decode cX7_demands 55 = .ok (.iload_n 2, 1) := by decide +kernel
theorem dX7_demands_56 : decode cX7_demands 56 = .ok (.iload_n 3, 1) := by decide +kernel
theorem dX7_demands_57 : decode cX7_demands 57 = .ok (.iload 4, 2) := by decide +kernel
theorem dX7_demands_59 : decode cX7_demands 59 = .ok (.invokestatic 137, 3) := by decide +kernel
theorem dX7_demands_62 : decode cX7_demands 62 = .ok (.iadd, 1) := by decide +kernel
theorem dX7_demands_63 : decode cX7_demands 63 = .ok (.iaload, 1) := by decide +kernel
theorem dX7_demands_64 : decode cX7_demands 64 = .ok (.sipush 1000, 3) := by decide +kernel
theorem dX7_demands_67 : decode cX7_demands 67 = .ok (.if_icmp .lt 7, 3) := by decide +kernel
theorem dX7_demands_70 : decode cX7_demands 70 = .ok (.iconst 1, 1) := by decide +kernel
theorem dX7_demands_71 : decode cX7_demands 71 = .ok (.goto 4, 3) := by decide +kernel
theorem dX7_demands_74 : decode cX7_demands 74 = .ok (.iconst 0, 1) := by decide +kernel
theorem dX7_demands_75 : decode cX7_demands 75 = .ok (.ireturn, 1) := by decide +kernel
theorem dX7_assume_0 : decode cX7_assume 0 = .ok (.iload_n 2, 1) := by decide +kernel
theorem dX7_assume_1 : decode cX7_assume 1 = .ok (.iconst 0, 1) := by decide +kernel
theorem dX7_assume_2 : decode cX7_assume 2 = .ok (.bipush 7, 2) := by decide +kernel
theorem dX7_assume_4 : decode cX7_assume 4 = .ok (.invokestatic 33, 3) := by decide +kernel
theorem dX7_assume_7 : decode cX7_assume 7 = .ok (.ifCond .eq 17, 3) := by decide +kernel
theorem dX7_assume_10 : decode cX7_assume 10 = .ok (.iload_n 3, 1) := by decide +kernel
theorem dX7_assume_11 : decode cX7_assume 11 = .ok (.iload_n 2, 1) := by decide +kernel
theorem dX7_assume_12 : decode cX7_assume 12 = .ok (.bipush 7, 2) := by decide +kernel
theorem dX7_assume_14 : decode cX7_assume 14 = .ok (.invokestatic 33, 3) := by decide +kernel
theorem dX7_assume_17 : decode cX7_assume 17 = .ok (.ifCond .eq 7, 3) := by decide +kernel
theorem dX7_assume_20 : decode cX7_assume 20 = .ok (.iconst 1, 1) := by decide +kernel
theorem dX7_assume_21 : decode cX7_assume 21 = .ok (.goto 4, 3) := by decide +kernel
theorem dX7_assume_24 : decode cX7_assume 24 = .ok (.iconst 0, 1) := by decide +kernel
theorem dX7_assume_25 : decode cX7_assume 25 = .ok (.istore 4, 2) := by decide +kernel
theorem dX7_assume_27 : decode cX7_assume 27 = .ok (.aload_n 0, 1) := by decide +kernel
theorem dX7_assume_28 : decode cX7_assume 28 = .ok (.iload_n 1, 1) := by decide +kernel
theorem dX7_assume_29 : decode cX7_assume 29 = .ok (.iconst 0, 1) := by decide +kernel
theorem dX7_assume_30 : decode cX7_assume 30 = .ok (.iconst 2, 1) := by decide +kernel
theorem dX7_assume_31 : decode cX7_assume 31 = .ok (.invokestatic 33, 3) := by decide +kernel
theorem dX7_assume_34 : decode cX7_assume 34 = .ok (.ifCond .ne 7, 3) := by decide +kernel
theorem dX7_assume_37 : decode cX7_assume 37 = .ok (.iconst 1, 1) := by decide +kernel
theorem dX7_assume_38 : decode cX7_assume 38 = .ok (.goto 13, 3) := by decide +kernel
theorem dX7_assume_41 : decode cX7_assume 41 = .ok (.iload 4, 2) := by decide +kernel
theorem dX7_assume_43 : decode cX7_assume 43 = .ok (.ifCond .eq 7, 3) := by decide +kernel
theorem dX7_assume_46 : decode cX7_assume 46 = .ok (.iconst 0, 1) := by decide +kernel
theorem dX7_assume_47 : decode cX7_assume 47 = .ok (.goto 4, 3) := by decide +kernel
theorem dX7_assume_50 : decode cX7_assume 50 = .ok (.iconst 2, 1) := by decide +kernel
theorem dX7_assume_51 : decode cX7_assume 51 = .ok (.invokevirtual 116, 3) := by decide +kernel
theorem dX7_assume_54 : decode cX7_assume 54 = .ok (.ifCond .ne 5, 3) := by decide +kernel
theorem dX7_assume_57 : decode cX7_assume 57 = .ok (.iconst 0, 1) := by decide +kernel
theorem dX7_assume_58 : decode cX7_assume 58 = .ok (.ireturn, 1) := by decide +kernel
theorem dX7_assume_59 : decode cX7_assume 59 = .ok (.aload_n 0, 1) := by decide +kernel
theorem dX7_assume_60 : decode cX7_assume 60 = .ok (.invokevirtual 119, 3) := by decide +kernel
theorem dX7_assume_63 : decode cX7_assume 63 = .ok (.aload_n 0, 1) := by decide +kernel
theorem dX7_assume_64 : decode cX7_assume 64 = .ok (.getfield 7, 3) := by decide +kernel
theorem dX7_assume_67 : decode cX7_assume 67 = .ok (.bipush 61, 2) := by decide +kernel
theorem dX7_assume_69 : decode cX7_assume 69 = .ok (.iconst 2, 1) := by decide +kernel
theorem dX7_assume_70 : decode cX7_assume 70 = .ok (.iload_n 1, 1) := by decide +kernel
theorem dX7_assume_71 : decode cX7_assume 71 = .ok (.imul, 1) := by decide +kernel
theorem dX7_assume_72 : decode cX7_assume 72 = .ok (.iadd, 1) := by decide +kernel
theorem dX7_assume_73 : decode cX7_assume 73 = .ok (.iload_n 2, 1) := by decide +kernel
theorem dX7_assume_74 : decode cX7_assume 74 = .ok (.iastore, 1) := by decide +kernel
theorem dX7_assume_75 : decode cX7_assume 75 = .ok (.aload_n 0, 1) := by decide +kernel
theorem dX7_assume_76 : decode cX7_assume 76 = .ok (.getfield 7, 3) := by decide +kernel
theorem dX7_assume_79 : decode cX7_assume 79 = .ok (.bipush 61, 2) := by decide +kernel
theorem dX7_assume_81 : decode cX7_assume 81 = .ok (.iconst 2, 1) := by decide +kernel
theorem dX7_assume_82 : decode cX7_assume 82 = .ok (.iload_n 1, 1) := by decide +kernel
theorem dX7_assume_83 : decode cX7_assume 83 = .ok (.imul, 1) := by decide +kernel
theorem dX7_assume_84 : decode cX7_assume 84 = .ok (.iadd, 1) := by decide +kernel
theorem dX7_assume_85 : decode cX7_assume 85 = .ok (.iconst 1, 1) := by decide +kernel
theorem dX7_assume_86 : decode cX7_assume 86 = .ok (.iadd, 1) := by decide +kernel
theorem dX7_assume_87 : decode cX7_assume 87 = .ok (.iload_n 3, 1) := by decide +kernel
theorem dX7_assume_88 : decode cX7_assume 88 = .ok (.iastore, 1) := by decide +kernel
theorem dX7_assume_89 : decode cX7_assume 89 = .ok (.aload_n 0, 1) := by decide +kernel
theorem dX7_assume_90 : decode cX7_assume 90 = .ok (.invokevirtual 143, 3) := by decide +kernel
theorem dX7_assume_93 : decode cX7_assume 93 = .ok (.ireturn, 1) := by decide +kernel
theorem dX7_isReached_0 : decode cX7_isReached 0 = .ok (.iconst 0, 1) := by decide +kernel
theorem dX7_isReached_1 : decode cX7_isReached 1 = .ok (.istore_n 2, 1) := by decide +kernel
theorem dX7_isReached_2 : decode cX7_isReached 2 = .ok (.iconst 0, 1) := by decide +kernel
theorem dX7_isReached_3 : decode cX7_isReached 3 = .ok (.istore_n 3, 1) := by decide +kernel
theorem dX7_isReached_4 : decode cX7_isReached 4 = .ok (.iload_n 3, 1) := by decide +kernel
theorem dX7_isReached_5 : decode cX7_isReached 5 = .ok (.sipush 512, 3) := by decide +kernel
theorem dX7_isReached_8 : decode cX7_isReached 8 = .ok (.if_icmp .ge 34, 3) := by decide +kernel
theorem dX7_isReached_11 : decode cX7_isReached 11 = .ok (.iload_n 2, 1) := by decide +kernel
theorem dX7_isReached_12 : decode cX7_isReached 12 = .ok (.ifCond .ne 18, 3) := by decide +kernel
theorem dX7_isReached_15 : decode cX7_isReached 15 = .ok (.aload_n 0, 1) := by decide +kernel
theorem dX7_isReached_16 : decode cX7_isReached 16 = .ok (.getfield 25, 3) := by decide +kernel
theorem dX7_isReached_19 : decode cX7_isReached 19 = .ok (.sipush 512, 3) := by decide +kernel
theorem dX7_isReached_22 : decode cX7_isReached 22 = .ok (.iload_n 1, 1) := by decide +kernel
theorem dX7_isReached_23 : decode cX7_isReached 23 = .ok (.imul, 1) := by decide +kernel
theorem dX7_isReached_24 : decode cX7_isReached 24 = .ok (.iload_n 3, 1) := by decide +kernel
theorem dX7_isReached_25 : decode cX7_isReached 25 = .ok (.iadd, 1) := by decide +kernel
theorem dX7_isReached_26 : decode cX7_isReached 26 = .ok (.baload, 1) := by decide +kernel
theorem dX7_isReached_27 : decode cX7_isReached 27 = .ok (.ifCond .eq 7, 3) := by decide +kernel
theorem dX7_isReached_30 : decode cX7_isReached 30 = .ok (.iconst 1, 1) := by decide +kernel
theorem dX7_isReached_31 : decode cX7_isReached 31 = .ok (.goto 4, 3) := by decide +kernel
theorem dX7_isReached_34 : decode cX7_isReached 34 = .ok (.iconst 0, 1) := by decide +kernel
theorem dX7_isReached_35 : decode cX7_isReached 35 = .ok (.istore_n 2, 1) := by decide +kernel
theorem dX7_isReached_36 : decode cX7_isReached 36 = .ok (.iinc 3 1, 3) := by decide +kernel
theorem dX7_isReached_39 : decode cX7_isReached 39 = .ok (.goto (-35), 3) := by decide +kernel
theorem dX7_isReached_42 : decode cX7_isReached 42 = .ok (.iload_n 2, 1) := by decide +kernel
theorem dX7_isReached_43 : decode cX7_isReached 43 = .ok (.ireturn, 1) := by decide +kernel
theorem dX7_exampleOf_0 : decode cX7_exampleOf 0 = .ok (.iconst (-1), 1) := by decide +kernel
theorem dX7_exampleOf_1 : decode cX7_exampleOf 1 = .ok (.istore_n 2, 1) := by decide +kernel
theorem dX7_exampleOf_2 : decode cX7_exampleOf 2 = .ok (.sipush 511, 3) := by decide +kernel
theorem dX7_exampleOf_5 : decode cX7_exampleOf 5 = .ok (.istore_n 3, 1) := by decide +kernel
theorem dX7_exampleOf_6 : decode cX7_exampleOf 6 = .ok (.iload_n 3, 1) := by decide +kernel
theorem dX7_exampleOf_7 : decode cX7_exampleOf 7 = .ok (.ifCond .lt 33, 3) := by decide +kernel
theorem dX7_exampleOf_10 : decode cX7_exampleOf 10 = .ok (.aload_n 0, 1) := by decide +kernel
theorem dX7_exampleOf_11 : decode cX7_exampleOf 11 = .ok (.iload_n 3, 1) := by decide +kernel
theorem dX7_exampleOf_12 : decode cX7_exampleOf 12 = .ok (.invokevirtual 70, 3) := by decide +kernel
theorem dX7_exampleOf_15 : decode cX7_exampleOf 15 = .ok (.ifCond .eq 17, 3) := by decide +kernel
theorem dX7_exampleOf_18 : decode cX7_exampleOf 18 = .ok (.aload_n 0, 1) := by decide +kernel
theorem dX7_exampleOf_19 : decode cX7_exampleOf 19 = .ok (.getfield 22, 3) := by decide +kernel
theorem dX7_exampleOf_22 : decode cX7_exampleOf 22 = .ok (.iload_n 3, 1) := by decide +kernel
theorem dX7_exampleOf_23 : decode cX7_exampleOf 23 = .ok (.iaload, 1) := by decide +kernel
theorem dX7_exampleOf_24 : decode cX7_exampleOf 24 = .ok (.iload_n 1, 1) := by decide +kernel
theorem dX7_exampleOf_25 : decode cX7_exampleOf 25 = .ok (.if_icmp .ne 7, 3) := by decide +kernel
theorem dX7_exampleOf_28 : decode cX7_exampleOf 28 = .ok (.iload_n 3, 1) := by decide +kernel
theorem dX7_exampleOf_29 : decode cX7_exampleOf 29 = .ok (.goto 4, 3) := by decide +kernel
theorem dX7_exampleOf_32 : decode cX7_exampleOf 32 = .ok (.iload_n 2, 1) := by decide +kernel
theorem dX7_exampleOf_33 : decode cX7_exampleOf 33 = .ok (.istore_n 2, 1) := by decide +kernel
theorem dX7_exampleOf_34 : decode cX7_exampleOf 34 = .ok (.iinc 3 (-1), 3) := by decide +kernel
theorem dX7_exampleOf_37 : decode cX7_exampleOf 37 = .ok (.goto (-31), 3) := by decide +kernel
theorem dX7_exampleOf_40 : decode cX7_exampleOf 40 = .ok (.iload_n 2, 1) := by decide +kernel
theorem dX7_exampleOf_41 : decode cX7_exampleOf 41 = .ok (.ireturn, 1) := by decide +kernel
theorem dX7_verdictOf_0 : decode cX7_verdictOf 0 = .ok (.aload_n 0, 1) := by decide +kernel
theorem dX7_verdictOf_1 : decode cX7_verdictOf 1 = .ok (.getfield 7, 3) := by decide +kernel
theorem dX7_verdictOf_4 : decode cX7_verdictOf 4 = .ok (.iload_n 1, 1) := by decide +kernel
theorem dX7_verdictOf_5 : decode cX7_verdictOf 5 = .ok (.iconst 0, 1) := by decide +kernel
theorem dX7_verdictOf_6 : decode cX7_verdictOf 6 = .ok (.invokestatic 44, 3) := by decide +kernel
theorem dX7_verdictOf_9 : decode cX7_verdictOf 9 = .ok (.iaload, 1) := by decide +kernel
theorem dX7_verdictOf_10 : decode cX7_verdictOf 10 = .ok (.iconst 1, 1) := by decide +kernel
theorem dX7_verdictOf_11 : decode cX7_verdictOf 11 = .ok (.if_icmp .eq 5, 3) := by decide +kernel
theorem dX7_verdictOf_14 : decode cX7_verdictOf 14 = .ok (.iconst (-1), 1) := by decide +kernel
theorem dX7_verdictOf_15 : decode cX7_verdictOf 15 = .ok (.ireturn, 1) := by decide +kernel
theorem dX7_verdictOf_16 : decode cX7_verdictOf 16 = .ok (.aload_n 0, 1) := by decide +kernel
theorem dX7_verdictOf_17 : decode cX7_verdictOf 17 = .ok (.iload_n 1, 1) := by decide +kernel
theorem dX7_verdictOf_18 : decode cX7_verdictOf 18 = .ok (.invokevirtual 146, 3) := by decide +kernel
theorem dX7_verdictOf_21 : decode cX7_verdictOf 21 = .ok (.ifCond .ne 7, 3) := by decide +kernel
theorem dX7_verdictOf_24 : decode cX7_verdictOf 24 = .ok (.iconst 0, 1) := by decide +kernel
theorem dX7_verdictOf_25 : decode cX7_verdictOf 25 = .ok (.goto 17, 3) := by decide +kernel
theorem dX7_verdictOf_28 : decode cX7_verdictOf 28 = .ok (.aload_n 0, 1) := by decide +kernel
theorem dX7_verdictOf_29 : decode cX7_verdictOf 29 = .ok (.iload_n 1, 1) := by decide +kernel
theorem dX7_verdictOf_30 : decode cX7_verdictOf 30 = .ok (.invokevirtual 149, 3) := by decide +kernel
theorem dX7_verdictOf_33 : decode cX7_verdictOf 33 = .ok (.iconst (-1), 1) := by decide +kernel
theorem dX7_verdictOf_34 : decode cX7_verdictOf 34 = .ok (.if_icmp .ne 7, 3) := by decide +kernel
theorem dX7_verdictOf_37 : decode cX7_verdictOf 37 = .ok (.iconst 1, 1) := by decide +kernel
theorem dX7_verdictOf_38 : decode cX7_verdictOf 38 = .ok (.goto 4, 3) := by decide +kernel
theorem dX7_verdictOf_41 : decode cX7_verdictOf 41 = .ok (.iconst 2, 1) := by decide +kernel
theorem dX7_verdictOf_42 : decode cX7_verdictOf 42 = .ok (.ireturn, 1) := by decide +kernel
theorem dX7_verdict_0 : decode cX7_verdict 0 = .ok (.aload_n 0, 1) := by decide +kernel
theorem dX7_verdict_1 : decode cX7_verdict 1 = .ok (.aload_n 0, 1) := by decide +kernel
theorem dX7_verdict_2 : decode cX7_verdict 2 = .ok (.iload_n 1, 1) := by decide +kernel
theorem dX7_verdict_3 : decode cX7_verdict 3 = .ok (.invokevirtual 125, 3) := by decide +kernel
theorem dX7_verdict_6 : decode cX7_verdict 6 = .ok (.ifCond .eq 7, 3) := by decide +kernel
theorem dX7_verdict_9 : decode cX7_verdict 9 = .ok (.iconst 0, 1) := by decide +kernel
theorem dX7_verdict_10 : decode cX7_verdict 10 = .ok (.goto 4, 3) := by decide +kernel
theorem dX7_verdict_13 : decode cX7_verdict 13 = .ok (.iconst 1, 1) := by decide +kernel
theorem dX7_verdict_14 : decode cX7_verdict 14 = .ok (.invokevirtual 116, 3) := by decide +kernel
theorem dX7_verdict_17 : decode cX7_verdict 17 = .ok (.ifCond .ne 5, 3) := by decide +kernel
theorem dX7_verdict_20 : decode cX7_verdict 20 = .ok (.iconst 0, 1) := by decide +kernel
theorem dX7_verdict_21 : decode cX7_verdict 21 = .ok (.ireturn, 1) := by decide +kernel
theorem dX7_verdict_22 : decode cX7_verdict 22 = .ok (.aload_n 0, 1) := by decide +kernel
theorem dX7_verdict_23 : decode cX7_verdict 23 = .ok (.invokevirtual 134, 3) := by decide +kernel
theorem dX7_verdict_26 : decode cX7_verdict 26 = .ok (.aload_n 0, 1) := by decide +kernel
theorem dX7_verdict_27 : decode cX7_verdict 27 = .ok (.invokevirtual 152, 3) := by decide +kernel
theorem dX7_verdict_30 : decode cX7_verdict 30 = .ok (.aload_n 0, 1) := by decide +kernel
theorem dX7_verdict_31 : decode cX7_verdict 31 = .ok (.iload_n 1, 1) := by decide +kernel
theorem dX7_verdict_32 : decode cX7_verdict 32 = .ok (.invokevirtual 155, 3) := by decide +kernel
theorem dX7_verdict_35 : decode cX7_verdict 35 = .ok (.ireturn, 1) := by decide +kernel
theorem dX7_example_0 : decode cX7_example 0 = .ok (.aload_n 0, 1) := by decide +kernel
theorem dX7_example_1 : decode cX7_example 1 = .ok (.aload_n 0, 1) := by decide +kernel
theorem dX7_example_2 : decode cX7_example 2 = .ok (.iload_n 1, 1) := by decide +kernel
theorem dX7_example_3 : decode cX7_example 3 = .ok (.invokevirtual 125, 3) := by decide +kernel
theorem dX7_example_6 : decode cX7_example 6 = .ok (.ifCond .eq 7, 3) := by decide +kernel
theorem dX7_example_9 : decode cX7_example 9 = .ok (.iconst 0, 1) := by decide +kernel
theorem dX7_example_10 : decode cX7_example 10 = .ok (.goto 4, 3) := by decide +kernel
theorem dX7_example_13 : decode cX7_example 13 = .ok (.iconst 1, 1) := by decide +kernel
theorem dX7_example_14 : decode cX7_example 14 = .ok (.invokevirtual 116, 3) := by decide +kernel
theorem dX7_example_17 : decode cX7_example 17 = .ok (.ifCond .ne 5, 3) := by decide +kernel
theorem dX7_example_20 : decode cX7_example 20 = .ok (.iconst 0, 1) := by decide +kernel
theorem dX7_example_21 : decode cX7_example 21 = .ok (.ireturn, 1) := by decide +kernel
theorem dX7_example_22 : decode cX7_example 22 = .ok (.aload_n 0, 1) := by decide +kernel
theorem dX7_example_23 : decode cX7_example 23 = .ok (.invokevirtual 134, 3) := by decide +kernel
theorem dX7_example_26 : decode cX7_example 26 = .ok (.aload_n 0, 1) := by decide +kernel
theorem dX7_example_27 : decode cX7_example 27 = .ok (.iload_n 1, 1) := by decide +kernel
theorem dX7_example_28 : decode cX7_example 28 = .ok (.invokevirtual 149, 3) := by decide +kernel
theorem dX7_example_31 : decode cX7_example 31 = .ok (.ireturn, 1) := by decide +kernel
theorem dX7_runsThat_0 : decode cX7_runsThat 0 = .ok (.iconst 0, 1) := by decide +kernel
theorem dX7_runsThat_1 : decode cX7_runsThat 1 = .ok (.istore_n 2, 1) := by decide +kernel
theorem dX7_runsThat_2 : decode cX7_runsThat 2 = .ok (.iconst 0, 1) := by decide +kernel
theorem dX7_runsThat_3 : decode cX7_runsThat 3 = .ok (.istore_n 3, 1) := by decide +kernel
theorem dX7_runsThat_4 : decode cX7_runsThat 4 = .ok (.iload_n 3, 1) := by decide +kernel
theorem dX7_runsThat_5 : decode cX7_runsThat 5 = .ok (.sipush 512, 3) := by decide +kernel
theorem dX7_runsThat_8 : decode cX7_runsThat 8 = .ok (.if_icmp .ge 64, 3) := by decide +kernel
theorem dX7_runsThat_11 : decode cX7_runsThat 11 = .ok (.aload_n 0, 1) := by decide +kernel
theorem dX7_runsThat_12 : decode cX7_runsThat 12 = .ok (.getfield 22, 3) := by decide +kernel
theorem dX7_runsThat_15 : decode cX7_runsThat 15 = .ok (.iload_n 3, 1) := by decide +kernel
theorem dX7_runsThat_16 : decode cX7_runsThat 16 = .ok (.iaload, 1) := by decide +kernel
theorem dX7_runsThat_17 : decode cX7_runsThat 17 = .ok (.iconst (-1), 1) := by decide +kernel
theorem dX7_runsThat_18 : decode cX7_runsThat 18 = .ok (.if_icmp .ne 7, 3) := by decide +kernel
theorem dX7_runsThat_21 : decode cX7_runsThat 21 = .ok (.iconst 0, 1) := by decide +kernel
theorem dX7_runsThat_22 : decode cX7_runsThat 22 = .ok (.goto 20, 3) := by decide +kernel
theorem dX7_runsThat_25 : decode cX7_runsThat 25 = .ok (.aload_n 0, 1) := by decide +kernel
theorem dX7_runsThat_26 : decode cX7_runsThat 26 = .ok (.getfield 22, 3) := by decide +kernel
theorem dX7_runsThat_29 : decode cX7_runsThat 29 = .ok (.iload_n 3, 1) := by decide +kernel
theorem dX7_runsThat_30 : decode cX7_runsThat 30 = .ok (.iaload, 1) := by decide +kernel
theorem dX7_runsThat_31 : decode cX7_runsThat 31 = .ok (.sipush 1000, 3) := by decide +kernel
theorem dX7_runsThat_34 : decode cX7_runsThat 34 = .ok (.if_icmp .ge 7, 3) := by decide +kernel
theorem dX7_runsThat_37 : decode cX7_runsThat 37 = .ok (.iconst 1, 1) := by decide +kernel
theorem dX7_runsThat_38 : decode cX7_runsThat 38 = .ok (.goto 4, 3) := by decide +kernel
theorem dX7_runsThat_41 : decode cX7_runsThat 41 = .ok (.iconst 2, 1) := by decide +kernel
theorem dX7_runsThat_42 : decode cX7_runsThat 42 = .ok (.istore 4, 2) := by decide +kernel
theorem dX7_runsThat_44 : decode cX7_runsThat 44 = .ok (.iload_n 2, 1) := by decide +kernel
theorem dX7_runsThat_45 : decode cX7_runsThat 45 = .ok (.aload_n 0, 1) := by decide +kernel
theorem dX7_runsThat_46 : decode cX7_runsThat 46 = .ok (.iload_n 3, 1) := by decide +kernel
theorem dX7_runsThat_47 : decode cX7_runsThat 47 = .ok (.invokevirtual 70, 3) := by decide +kernel
theorem dX7_runsThat_50 : decode cX7_runsThat 50 = .ok (.ifCond .eq 13, 3) := by decide +kernel
theorem dX7_runsThat_53 : decode cX7_runsThat 53 = .ok (.iload 4, 2) := by decide +kernel
theorem dX7_runsThat_55 : decode cX7_runsThat 55 = .ok (.iload_n 1, 1) := by decide +kernel
theorem dX7_runsThat_56 : decode cX7_runsThat 56 = .ok (.if_icmp .ne 7, 3) := by decide +kernel
theorem dX7_runsThat_59 : decode cX7_runsThat 59 = .ok (.iconst 1, 1) := by decide +kernel
theorem dX7_runsThat_60 : decode cX7_runsThat 60 = .ok (.goto 4, 3) := by decide +kernel
theorem dX7_runsThat_63 : decode cX7_runsThat 63 = .ok (.iconst 0, 1) := by decide +kernel
theorem dX7_runsThat_64 : decode cX7_runsThat 64 = .ok (.iadd, 1) := by decide +kernel
theorem dX7_runsThat_65 : decode cX7_runsThat 65 = .ok (.istore_n 2, 1) := by decide +kernel
theorem dX7_runsThat_66 : decode cX7_runsThat 66 = .ok (.iinc 3 1, 3) := by decide +kernel
theorem dX7_runsThat_69 : decode cX7_runsThat 69 = .ok (.goto (-65), 3) := by decide +kernel
theorem dX7_runsThat_72 : decode cX7_runsThat 72 = .ok (.iload_n 2, 1) := by decide +kernel
theorem dX7_runsThat_73 : decode cX7_runsThat 73 = .ok (.ireturn, 1) := by decide +kernel
theorem dX7_judged_0 : decode cX7_judged 0 = .ok (.aload_n 0, 1) := by decide +kernel
theorem dX7_judged_1 : decode cX7_judged 1 = .ok (.iconst 1, 1) := by decide +kernel
theorem dX7_judged_2 : decode cX7_judged 2 = .ok (.invokevirtual 158, 3) := by decide +kernel
theorem dX7_judged_5 : decode cX7_judged 5 = .ok (.ifCond .le 7, 3) := by decide +kernel
theorem dX7_judged_8 : decode cX7_judged 8 = .ok (.iconst 2, 1) := by decide +kernel
theorem dX7_judged_9 : decode cX7_judged 9 = .ok (.goto 16, 3) := by decide +kernel
theorem dX7_judged_12 : decode cX7_judged 12 = .ok (.aload_n 0, 1) := by decide +kernel
theorem dX7_judged_13 : decode cX7_judged 13 = .ok (.iconst 0, 1) := by decide +kernel
theorem dX7_judged_14 : decode cX7_judged 14 = .ok (.invokevirtual 158, 3) := by decide +kernel
theorem dX7_judged_17 : decode cX7_judged 17 = .ok (.ifCond .le 7, 3) := by decide +kernel
theorem dX7_judged_20 : decode cX7_judged 20 = .ok (.iconst 0, 1) := by decide +kernel
theorem dX7_judged_21 : decode cX7_judged 21 = .ok (.goto 4, 3) := by decide +kernel
theorem dX7_judged_24 : decode cX7_judged 24 = .ok (.iconst 1, 1) := by decide +kernel
theorem dX7_judged_25 : decode cX7_judged 25 = .ok (.ireturn, 1) := by decide +kernel
theorem dX7_endless_0 : decode cX7_endless 0 = .ok (.aload_n 0, 1) := by decide +kernel
theorem dX7_endless_1 : decode cX7_endless 1 = .ok (.iconst 0, 1) := by decide +kernel
theorem dX7_endless_2 : decode cX7_endless 2 = .ok (.putfield 29, 3) := by decide +kernel
theorem dX7_endless_5 : decode cX7_endless 5 = .ok (.aload_n 0, 1) := by decide +kernel
theorem dX7_endless_6 : decode cX7_endless 6 = .ok (.invokevirtual 134, 3) := by decide +kernel
theorem dX7_endless_9 : decode cX7_endless 9 = .ok (.aload_n 0, 1) := by decide +kernel
theorem dX7_endless_10 : decode cX7_endless 10 = .ok (.iconst 0, 1) := by decide +kernel
theorem dX7_endless_11 : decode cX7_endless 11 = .ok (.invokevirtual 158, 3) := by decide +kernel
theorem dX7_endless_14 : decode cX7_endless 14 = .ok (.ireturn, 1) := by decide +kernel
theorem dX7_proof_0 : decode cX7_proof 0 = .ok (.aload_n 0, 1) := by decide +kernel
theorem dX7_proof_1 : decode cX7_proof 1 = .ok (.iconst 0, 1) := by decide +kernel
theorem dX7_proof_2 : decode cX7_proof 2 = .ok (.putfield 29, 3) := by decide +kernel
theorem dX7_proof_5 : decode cX7_proof 5 = .ok (.aload_n 0, 1) := by decide +kernel
theorem dX7_proof_6 : decode cX7_proof 6 = .ok (.invokevirtual 134, 3) := by decide +kernel
theorem dX7_proof_9 : decode cX7_proof 9 = .ok (.aload_n 0, 1) := by decide +kernel
theorem dX7_proof_10 : decode cX7_proof 10 = .ok (.invokevirtual 161, 3) := by decide +kernel
theorem dX7_proof_13 : decode cX7_proof 13 = .ok (.ireturn, 1) := by decide +kernel
theorem dX7_provedShare_0 : decode cX7_provedShare 0 = .ok (.aload_n 0, 1) := by decide +kernel
theorem dX7_provedShare_1 : decode cX7_provedShare 1 = .ok (.iconst 0, 1) := by decide +kernel
theorem dX7_provedShare_2 : decode cX7_provedShare 2 = .ok (.putfield 29, 3) := by decide +kernel
theorem dX7_provedShare_5 : decode cX7_provedShare 5 = .ok (.aload_n 0, 1) := by decide +kernel
theorem dX7_provedShare_6 : decode cX7_provedShare 6 = .ok (.invokevirtual 134, 3) := by decide +kernel
theorem dX7_provedShare_9 : decode cX7_provedShare 9 = .ok (.aload_n 0, 1) := by decide +kernel
theorem dX7_provedShare_10 : decode cX7_provedShare 10 = .ok (.iconst 2, 1) := by decide +kernel
theorem dX7_provedShare_11 : decode cX7_provedShare 11 = .ok (.invokevirtual 158, 3) := by decide +kernel
theorem dX7_provedShare_14 : decode cX7_provedShare 14 = .ok (.i2d, 1) := by decide +kernel
theorem dX7_provedShare_15 : decode cX7_provedShare 15 = .ok (.aload_n 0, 1) := by decide +kernel
theorem dX7_provedShare_16 : decode cX7_provedShare 16 = .ok (.invokevirtual 143, 3) := by decide +kernel
theorem dX7_provedShare_19 : decode cX7_provedShare 19 = .ok (.i2d, 1) := by decide +kernel
theorem dX7_provedShare_20 : decode cX7_provedShare 20 = .ok (.ddiv, 1) := by decide +kernel
theorem dX7_provedShare_21 : decode cX7_provedShare 21 = .ok (.dreturn, 1) := by decide +kernel
theorem dX7_bound_0 : decode cX7_bound 0 = .ok (.iconst (-1), 1) := by decide +kernel
theorem dX7_bound_1 : decode cX7_bound 1 = .ok (.istore 4, 2) := by decide +kernel
theorem dX7_bound_3 : decode cX7_bound 3 = .ok (.iconst 0, 1) := by decide +kernel
theorem dX7_bound_4 : decode cX7_bound 4 = .ok (.istore 5, 2) := by decide +kernel
theorem dX7_bound_6 : decode cX7_bound 6 = .ok (.iload 5, 2) := by decide +kernel
theorem dX7_bound_8 : decode cX7_bound 8 = .ok (.sipush 512, 3) := by decide +kernel
theorem dX7_bound_11 : decode cX7_bound 11 = .ok (.if_icmp .ge 81, 3) := by decide +kernel
theorem dX7_bound_14 : decode cX7_bound 14 = .ok (.iload 5, 2) := by decide +kernel
theorem dX7_bound_16 : decode cX7_bound 16 = .ok (.iload_n 2, 1) := by decide +kernel
theorem dX7_bound_17 : decode cX7_bound 17 = .ok (.invokestatic 40, 3) := by decide +kernel
theorem dX7_bound_20 : decode cX7_bound 20 = .ok (.istore 6, 2) := by decide +kernel
theorem dX7_bound_22 : decode cX7_bound 22 = .ok (.aload_n 0, 1) := by decide +kernel
theorem dX7_bound_23 : decode cX7_bound 23 = .ok (.getfield 25, 3) := by decide +kernel
theorem dX7_bound_26 : decode cX7_bound 26 = .ok (.sipush 512, 3) := by decide +kernel
theorem dX7_bound_29 : decode cX7_bound 29 = .ok (.iload_n 1, 1) := by decide +kernel
theorem dX7_bound_30 : decode cX7_bound 30 = .ok (.imul, 1) := by decide +kernel
theorem dX7_bound_31 : decode cX7_bound 31 = .ok (.iload 5, 2) := by decide +kernel
theorem dX7_bound_33 : decode cX7_bound 33 = .ok (.iadd, 1) := by decide +kernel
theorem dX7_bound_34 : decode cX7_bound 34 = .ok (.baload, 1) := by decide +kernel
theorem dX7_bound_35 : decode cX7_bound 35 = .ok (.ifCond .eq 34, 3) := by decide +kernel
theorem dX7_bound_38 : decode cX7_bound 38 = .ok (.iload 4, 2) := by decide +kernel
theorem dX7_bound_40 : decode cX7_bound 40 = .ok (.iconst (-1), 1) := by decide +kernel
theorem dX7_bound_41 : decode cX7_bound 41 = .ok (.if_icmp .eq 24, 3) := by decide +kernel
theorem dX7_bound_44 : decode cX7_bound 44 = .ok (.iload_n 3, 1) := by decide +kernel
theorem dX7_bound_45 : decode cX7_bound 45 = .ok (.ifCond .eq 13, 3) := by decide +kernel
theorem dX7_bound_48 : decode cX7_bound 48 = .ok (.iload 6, 2) := by decide +kernel
theorem dX7_bound_50 : decode cX7_bound 50 = .ok (.iload 4, 2) := by decide +kernel
theorem dX7_bound_52 : decode cX7_bound 52 = .ok (.if_icmp .ge 17, 3) := by decide +kernel
theorem dX7_bound_55 : decode cX7_bound 55 = .ok (.goto 10, 3) := by decide +kernel
theorem dX7_bound_58 : decode cX7_bound 58 = .ok (.iload 6, 2) := by decide +kernel
theorem dX7_bound_60 : decode cX7_bound 60 = .ok (.iload 4, 2) := by decide +kernel
theorem dX7_bound_62 : decode cX7_bound 62 = .ok (.if_icmp .le 7, 3) := by decide +kernel
theorem dX7_bound_65 : decode cX7_bound 65 = .ok (.iconst 1, 1) := by decide +kernel
theorem dX7_bound_66 : decode cX7_bound 66 = .ok (.goto 4, 3) := by decide +kernel
theorem dX7_bound_69 : decode cX7_bound 69 = .ok (.iconst 0, 1) := by decide +kernel
theorem dX7_bound_70 : decode cX7_bound 70 = .ok (.istore 7, 2) := by decide +kernel
theorem dX7_bound_72 : decode cX7_bound 72 = .ok (.iload 7, 2) := by decide +kernel
theorem dX7_bound_74 : decode cX7_bound 74 = .ok (.ifCond .eq 8, 3) := by decide +kernel
theorem dX7_bound_77 : decode cX7_bound 77 = .ok (.iload 6, 2) := by decide +kernel
theorem dX7_bound_79 : decode cX7_bound 79 = .ok (.goto 5, 3) := by decide +kernel
theorem dX7_bound_82 : decode cX7_bound 82 = .ok (.iload 4, 2) := by decide +kernel
theorem dX7_bound_84 : decode cX7_bound 84 = .ok (.istore 4, 2) := by decide +kernel
theorem dX7_bound_86 : decode cX7_bound 86 = .ok (.iinc 5 1, 3) := by decide +kernel
theorem dX7_bound_89 : decode cX7_bound 89 = .ok (.goto (-83), 3) := by decide +kernel
theorem dX7_bound_92 : decode cX7_bound 92 = .ok (.iload 4, 2) := by decide +kernel
theorem dX7_bound_94 : decode cX7_bound 94 = .ok (.ireturn, 1) := by decide +kernel
theorem dX7_least_0 : decode cX7_least 0 = .ok (.aload_n 0, 1) := by decide +kernel
theorem dX7_least_1 : decode cX7_least 1 = .ok (.iload_n 1, 1) := by decide +kernel
theorem dX7_least_2 : decode cX7_least 2 = .ok (.iconst 0, 1) := by decide +kernel
theorem dX7_least_3 : decode cX7_least 3 = .ok (.aload_n 0, 1) := by decide +kernel
theorem dX7_least_4 : decode cX7_least 4 = .ok (.getfield 7, 3) := by decide +kernel
theorem dX7_least_7 : decode cX7_least 7 = .ok (.iconst 0, 1) := by decide +kernel
theorem dX7_least_8 : decode cX7_least 8 = .ok (.iaload, 1) := by decide +kernel
theorem dX7_least_9 : decode cX7_least 9 = .ok (.invokestatic 33, 3) := by decide +kernel
theorem dX7_least_12 : decode cX7_least 12 = .ok (.ifCond .eq 16, 3) := by decide +kernel
theorem dX7_least_15 : decode cX7_least 15 = .ok (.iload_n 2, 1) := by decide +kernel
theorem dX7_least_16 : decode cX7_least 16 = .ok (.iconst 0, 1) := by decide +kernel
theorem dX7_least_17 : decode cX7_least 17 = .ok (.iconst 2, 1) := by decide +kernel
theorem dX7_least_18 : decode cX7_least 18 = .ok (.invokestatic 33, 3) := by decide +kernel
theorem dX7_least_21 : decode cX7_least 21 = .ok (.ifCond .eq 7, 3) := by decide +kernel
theorem dX7_least_24 : decode cX7_least 24 = .ok (.iconst 0, 1) := by decide +kernel
theorem dX7_least_25 : decode cX7_least 25 = .ok (.goto 4, 3) := by decide +kernel
theorem dX7_least_28 : decode cX7_least 28 = .ok (.iconst 1, 1) := by decide +kernel
theorem dX7_least_29 : decode cX7_least 29 = .ok (.invokevirtual 116, 3) := by decide +kernel
theorem dX7_least_32 : decode cX7_least 32 = .ok (.ifCond .ne 5, 3) := by decide +kernel
theorem dX7_least_35 : decode cX7_least 35 = .ok (.iconst 0, 1) := by decide +kernel
theorem dX7_least_36 : decode cX7_least 36 = .ok (.ireturn, 1) := by decide +kernel
theorem dX7_least_37 : decode cX7_least 37 = .ok (.aload_n 0, 1) := by decide +kernel
theorem dX7_least_38 : decode cX7_least 38 = .ok (.invokevirtual 152, 3) := by decide +kernel
theorem dX7_least_41 : decode cX7_least 41 = .ok (.aload_n 0, 1) := by decide +kernel
theorem dX7_least_42 : decode cX7_least 42 = .ok (.iload_n 1, 1) := by decide +kernel
theorem dX7_least_43 : decode cX7_least 43 = .ok (.iload_n 2, 1) := by decide +kernel
theorem dX7_least_44 : decode cX7_least 44 = .ok (.iconst 1, 1) := by decide +kernel
theorem dX7_least_45 : decode cX7_least 45 = .ok (.invokevirtual 164, 3) := by decide +kernel
theorem dX7_least_48 : decode cX7_least 48 = .ok (.ireturn, 1) := by decide +kernel
theorem dX7_greatest_0 : decode cX7_greatest 0 = .ok (.aload_n 0, 1) := by decide +kernel
theorem dX7_greatest_1 : decode cX7_greatest 1 = .ok (.iload_n 1, 1) := by decide +kernel
theorem dX7_greatest_2 : decode cX7_greatest 2 = .ok (.iconst 0, 1) := by decide +kernel
theorem dX7_greatest_3 : decode cX7_greatest 3 = .ok (.aload_n 0, 1) := by decide +kernel
theorem dX7_greatest_4 : decode cX7_greatest 4 = .ok (.getfield 7, 3) := by decide +kernel
theorem dX7_greatest_7 : decode cX7_greatest 7 = .ok (.iconst 0, 1) := by decide +kernel
theorem dX7_greatest_8 : decode cX7_greatest 8 = .ok (.iaload, 1) := by decide +kernel
theorem dX7_greatest_9 : decode cX7_greatest 9 = .ok (.invokestatic 33, 3) := by decide +kernel
theorem dX7_greatest_12 : decode cX7_greatest 12 = .ok (.ifCond .eq 16, 3) := by decide +kernel
theorem dX7_greatest_15 : decode cX7_greatest 15 = .ok (.iload_n 2, 1) := by decide +kernel
theorem dX7_greatest_16 : decode cX7_greatest 16 = .ok (.iconst 0, 1) := by decide +kernel
theorem dX7_greatest_17 : decode cX7_greatest 17 = .ok (.iconst 2, 1) := by decide +kernel
theorem dX7_greatest_18 : decode cX7_greatest 18 = .ok (.invokestatic 33, 3) := by decide +kernel
theorem dX7_greatest_21 : decode cX7_greatest 21 = .ok (.ifCond .eq 7, 3) := by decide +kernel
theorem dX7_greatest_24 : decode cX7_greatest 24 = .ok (.iconst 0, 1) := by decide +kernel
theorem dX7_greatest_25 : decode cX7_greatest 25 = .ok (.goto 4, 3) := by decide +kernel
theorem dX7_greatest_28 : decode cX7_greatest 28 = .ok (.iconst 1, 1) := by decide +kernel
theorem dX7_greatest_29 : decode cX7_greatest 29 = .ok (.invokevirtual 116, 3) := by decide +kernel
theorem dX7_greatest_32 : decode cX7_greatest 32 = .ok (.ifCond .ne 5, 3) := by decide +kernel
theorem dX7_greatest_35 : decode cX7_greatest 35 = .ok (.iconst 0, 1) := by decide +kernel
theorem dX7_greatest_36 : decode cX7_greatest 36 = .ok (.ireturn, 1) := by decide +kernel
theorem dX7_greatest_37 : decode cX7_greatest 37 = .ok (.aload_n 0, 1) := by decide +kernel
theorem dX7_greatest_38 : decode cX7_greatest 38 = .ok (.invokevirtual 152, 3) := by decide +kernel
theorem dX7_greatest_41 : decode cX7_greatest 41 = .ok (.aload_n 0, 1) := by decide +kernel
theorem dX7_greatest_42 : decode cX7_greatest 42 = .ok (.iload_n 1, 1) := by decide +kernel
theorem dX7_greatest_43 : decode cX7_greatest 43 = .ok (.iload_n 2, 1) := by decide +kernel
theorem dX7_greatest_44 : decode cX7_greatest 44 = .ok (.iconst 0, 1) := by decide +kernel
theorem dX7_greatest_45 : decode cX7_greatest 45 = .ok (.invokevirtual 164, 3) := by decide +kernel
theorem dX7_greatest_48 : decode cX7_greatest 48 = .ok (.ireturn, 1) := by decide +kernel
theorem dX7_widestOf_0 : decode cX7_widestOf 0 = .ok (.bipush 61, 2) := by decide +kernel
theorem dX7_widestOf_2 : decode cX7_widestOf 2 = .ok (.iconst 2, 1) := by decide +kernel
theorem dX7_widestOf_3 : decode cX7_widestOf 3 = .ok (.iload_n 1, 1) := by decide +kernel
theorem dX7_widestOf_4 : decode cX7_widestOf 4 = .ok (.imul, 1) := by decide +kernel
theorem dX7_widestOf_5 : decode cX7_widestOf 5 = .ok (.iadd, 1) := by decide +kernel
theorem dX7_widestOf_6 : decode cX7_widestOf 6 = .ok (.istore_n 2, 1) := by decide +kernel
theorem dX7_widestOf_7 : decode cX7_widestOf 7 = .ok (.aload_n 0, 1) := by decide +kernel
theorem dX7_widestOf_8 : decode cX7_widestOf 8 = .ok (.getfield 7, 3) := by decide +kernel
theorem dX7_widestOf_11 : decode cX7_widestOf 11 = .ok (.iload_n 2, 1) := by decide +kernel
theorem dX7_widestOf_12 : decode cX7_widestOf 12 = .ok (.iaload, 1) := by decide +kernel
theorem dX7_widestOf_13 : decode cX7_widestOf 13 = .ok (.istore_n 3, 1) := by decide +kernel
theorem dX7_widestOf_14 : decode cX7_widestOf 14 = .ok (.aload_n 0, 1) := by decide +kernel
theorem dX7_widestOf_15 : decode cX7_widestOf 15 = .ok (.getfield 7, 3) := by decide +kernel
theorem dX7_widestOf_18 : decode cX7_widestOf 18 = .ok (.iload_n 2, 1) := by decide +kernel
theorem dX7_widestOf_19 : decode cX7_widestOf 19 = .ok (.iconst 1, 1) := by decide +kernel
theorem dX7_widestOf_20 : decode cX7_widestOf 20 = .ok (.iadd, 1) := by decide +kernel
theorem dX7_widestOf_21 : decode cX7_widestOf 21 = .ok (.iaload, 1) := by decide +kernel
theorem dX7_widestOf_22 : decode cX7_widestOf 22 = .ok (.istore 4, 2) := by decide +kernel
theorem dX7_widestOf_24 : decode cX7_widestOf 24 = .ok (.iconst (-1), 1) := by decide +kernel
theorem dX7_widestOf_25 : decode cX7_widestOf 25 = .ok (.istore 5, 2) := by decide +kernel
theorem dX7_widestOf_27 : decode cX7_widestOf 27 = .ok (.bipush 8, 2) := by decide +kernel
theorem dX7_widestOf_29 : decode cX7_widestOf 29 = .ok (.istore 6, 2) := by decide +kernel
theorem dX7_widestOf_31 : decode cX7_widestOf 31 = .ok (.iload 6, 2) := by decide +kernel
theorem dX7_widestOf_33 : decode cX7_widestOf 33 = .ok (.ifCond .le 89, 3) := by decide +kernel
theorem dX7_widestOf_36 : decode cX7_widestOf 36 = .ok (.iload 5, 2) := by decide +kernel
theorem dX7_widestOf_38 : decode cX7_widestOf 38 = .ok (.iconst (-1), 1) := by decide +kernel
theorem dX7_widestOf_39 : decode cX7_widestOf 39 = .ok (.if_icmp .ne 83, 3) := by decide +kernel
theorem dX7_widestOf_42 : decode cX7_widestOf 42 = .ok (.bipush 8, 2) := by decide +kernel
theorem dX7_widestOf_44 : decode cX7_widestOf 44 = .ok (.iload 6, 2) := by decide +kernel
theorem dX7_widestOf_46 : decode cX7_widestOf 46 = .ok (.isub, 1) := by decide +kernel
theorem dX7_widestOf_47 : decode cX7_widestOf 47 = .ok (.istore 7, 2) := by decide +kernel
theorem dX7_widestOf_49 : decode cX7_widestOf 49 = .ok (.iload 7, 2) := by decide +kernel
theorem dX7_widestOf_51 : decode cX7_widestOf 51 = .ok (.ifCond .lt 65, 3) := by decide +kernel
theorem dX7_widestOf_54 : decode cX7_widestOf 54 = .ok (.aload_n 0, 1) := by decide +kernel
theorem dX7_widestOf_55 : decode cX7_widestOf 55 = .ok (.getfield 7, 3) := by decide +kernel
theorem dX7_widestOf_58 : decode cX7_widestOf 58 = .ok (.iload_n 2, 1) := by decide +kernel
theorem dX7_widestOf_59 : decode cX7_widestOf 59 = .ok (.iload 7, 2) := by decide +kernel
theorem dX7_widestOf_61 : decode cX7_widestOf 61 = .ok (.iastore, 1) := by decide +kernel
theorem dX7_widestOf_62 : decode cX7_widestOf 62 = .ok (.aload_n 0, 1) := by decide +kernel
theorem dX7_widestOf_63 : decode cX7_widestOf 63 = .ok (.getfield 7, 3) := by decide +kernel
theorem dX7_widestOf_66 : decode cX7_widestOf 66 = .ok (.iload_n 2, 1) := by decide +kernel
theorem dX7_widestOf_67 : decode cX7_widestOf 67 = .ok (.iconst 1, 1) := by decide +kernel
theorem dX7_widestOf_68 : decode cX7_widestOf 68 = .ok (.iadd, 1) := by decide +kernel
theorem dX7_widestOf_69 : decode cX7_widestOf 69 = .ok (.iload 7, 2) := by decide +kernel
theorem dX7_widestOf_71 : decode cX7_widestOf 71 = .ok (.iload 6, 2) := by decide +kernel
theorem dX7_widestOf_73 : decode cX7_widestOf 73 = .ok (.iadd, 1) := by decide +kernel
theorem dX7_widestOf_74 : decode cX7_widestOf 74 = .ok (.iconst 1, 1) := by decide +kernel
theorem dX7_widestOf_75 : decode cX7_widestOf 75 = .ok (.isub, 1) := by decide +kernel
theorem dX7_widestOf_76 : decode cX7_widestOf 76 = .ok (.iastore, 1) := by decide +kernel
theorem dX7_widestOf_77 : decode cX7_widestOf 77 = .ok (.aload_n 0, 1) := by decide +kernel
theorem dX7_widestOf_78 : decode cX7_widestOf 78 = .ok (.invokevirtual 161, 3) := by decide +kernel
theorem dX7_widestOf_81 : decode cX7_widestOf 81 = .ok (.iconst 1, 1) := by decide +kernel
theorem dX7_widestOf_82 : decode cX7_widestOf 82 = .ok (.if_icmp .ne 24, 3) := by decide +kernel
theorem dX7_widestOf_85 : decode cX7_widestOf 85 = .ok (.bipush 10, 2) := by decide +kernel
theorem dX7_widestOf_87 : decode cX7_widestOf 87 = .ok (.aload_n 0, 1) := by decide +kernel
theorem dX7_widestOf_88 : decode cX7_widestOf 88 = .ok (.getfield 7, 3) := by decide +kernel
theorem dX7_widestOf_91 : decode cX7_widestOf 91 = .ok (.iload_n 2, 1) := by decide +kernel
theorem dX7_widestOf_92 : decode cX7_widestOf 92 = .ok (.iaload, 1) := by decide +kernel
theorem dX7_widestOf_93 : decode cX7_widestOf 93 = .ok (.imul, 1) := by decide +kernel
theorem dX7_widestOf_94 : decode cX7_widestOf 94 = .ok (.aload_n 0, 1) := by decide +kernel
theorem dX7_widestOf_95 : decode cX7_widestOf 95 = .ok (.getfield 7, 3) := by decide +kernel
theorem dX7_widestOf_98 : decode cX7_widestOf 98 = .ok (.iload_n 2, 1) := by decide +kernel
theorem dX7_widestOf_99 : decode cX7_widestOf 99 = .ok (.iconst 1, 1) := by decide +kernel
theorem dX7_widestOf_100 : decode cX7_widestOf 100 = .ok (.iadd, 1) := by decide +kernel
theorem dX7_widestOf_101 : decode cX7_widestOf 101 = .ok (.iaload, 1) := by decide +kernel
theorem dX7_widestOf_102 : decode cX7_widestOf 102 = .ok (.iadd, 1) := by decide +kernel
theorem dX7_widestOf_103 : decode cX7_widestOf 103 = .ok (.goto 5, 3) := by decide +kernel
theorem dX7_widestOf_106 : decode cX7_widestOf 106 = .ok (.iload 5, 2) := by decide +kernel
theorem dX7_widestOf_108 : decode cX7_widestOf 108 = .ok (.istore 5, 2) := by decide +kernel
theorem dX7_widestOf_110 : decode cX7_widestOf 110 = .ok (.iinc 7 (-1), 3) := by decide +kernel
theorem dX7_widestOf_113 : decode cX7_widestOf 113 = .ok (.goto (-64), 3) := by decide +kernel
theorem dX7_widestOf_116 : decode cX7_widestOf 116 = .ok (.iinc 6 (-1), 3) := by decide +kernel
theorem dX7_widestOf_119 : decode cX7_widestOf 119 = .ok (.goto (-88), 3) := by decide +kernel
theorem dX7_widestOf_122 : decode cX7_widestOf 122 = .ok (.aload_n 0, 1) := by decide +kernel
theorem dX7_widestOf_123 : decode cX7_widestOf 123 = .ok (.getfield 7, 3) := by decide +kernel
theorem dX7_widestOf_126 : decode cX7_widestOf 126 = .ok (.iload_n 2, 1) := by decide +kernel
theorem dX7_widestOf_127 : decode cX7_widestOf 127 = .ok (.iload_n 3, 1) := by decide +kernel
theorem dX7_widestOf_128 : decode cX7_widestOf 128 = .ok (.iastore, 1) := by decide +kernel
theorem dX7_widestOf_129 : decode cX7_widestOf 129 = .ok (.aload_n 0, 1) := by decide +kernel
theorem dX7_widestOf_130 : decode cX7_widestOf 130 = .ok (.getfield 7, 3) := by decide +kernel
theorem dX7_widestOf_133 : decode cX7_widestOf 133 = .ok (.iload_n 2, 1) := by decide +kernel
theorem dX7_widestOf_134 : decode cX7_widestOf 134 = .ok (.iconst 1, 1) := by decide +kernel
theorem dX7_widestOf_135 : decode cX7_widestOf 135 = .ok (.iadd, 1) := by decide +kernel
theorem dX7_widestOf_136 : decode cX7_widestOf 136 = .ok (.iload 4, 2) := by decide +kernel
theorem dX7_widestOf_138 : decode cX7_widestOf 138 = .ok (.iastore, 1) := by decide +kernel
theorem dX7_widestOf_139 : decode cX7_widestOf 139 = .ok (.iload 5, 2) := by decide +kernel
theorem dX7_widestOf_141 : decode cX7_widestOf 141 = .ok (.ireturn, 1) := by decide +kernel
theorem dX7_widest_0 : decode cX7_widest 0 = .ok (.aload_n 0, 1) := by decide +kernel
theorem dX7_widest_1 : decode cX7_widest 1 = .ok (.iload_n 1, 1) := by decide +kernel
theorem dX7_widest_2 : decode cX7_widest 2 = .ok (.iconst 0, 1) := by decide +kernel
theorem dX7_widest_3 : decode cX7_widest 3 = .ok (.iconst 2, 1) := by decide +kernel
theorem dX7_widest_4 : decode cX7_widest 4 = .ok (.invokestatic 33, 3) := by decide +kernel
theorem dX7_widest_7 : decode cX7_widest 7 = .ok (.ifCond .eq 7, 3) := by decide +kernel
theorem dX7_widest_10 : decode cX7_widest 10 = .ok (.iconst 0, 1) := by decide +kernel
theorem dX7_widest_11 : decode cX7_widest 11 = .ok (.goto 4, 3) := by decide +kernel
theorem dX7_widest_14 : decode cX7_widest 14 = .ok (.iconst 1, 1) := by decide +kernel
theorem dX7_widest_15 : decode cX7_widest 15 = .ok (.invokevirtual 116, 3) := by decide +kernel
theorem dX7_widest_18 : decode cX7_widest 18 = .ok (.ifCond .ne 5, 3) := by decide +kernel
theorem dX7_widest_21 : decode cX7_widest 21 = .ok (.iconst 0, 1) := by decide +kernel
theorem dX7_widest_22 : decode cX7_widest 22 = .ok (.ireturn, 1) := by decide +kernel
theorem dX7_widest_23 : decode cX7_widest 23 = .ok (.aload_n 0, 1) := by decide +kernel
theorem dX7_widest_24 : decode cX7_widest 24 = .ok (.invokevirtual 134, 3) := by decide +kernel
theorem dX7_widest_27 : decode cX7_widest 27 = .ok (.aload_n 0, 1) := by decide +kernel
theorem dX7_widest_28 : decode cX7_widest 28 = .ok (.iload_n 1, 1) := by decide +kernel
theorem dX7_widest_29 : decode cX7_widest 29 = .ok (.invokevirtual 168, 3) := by decide +kernel
theorem dX7_widest_32 : decode cX7_widest 32 = .ok (.ireturn, 1) := by decide +kernel
theorem dX7_append_0 : decode cX7_append 0 = .ok (.aload_n 0, 1) := by decide +kernel
theorem dX7_append_1 : decode cX7_append 1 = .ok (.iload_n 1, 1) := by decide +kernel
theorem dX7_append_2 : decode cX7_append 2 = .ok (.bipush 33, 2) := by decide +kernel
theorem dX7_append_4 : decode cX7_append 4 = .ok (.bipush 126, 2) := by decide +kernel
theorem dX7_append_6 : decode cX7_append 6 = .ok (.invokestatic 33, 3) := by decide +kernel
theorem dX7_append_9 : decode cX7_append 9 = .ok (.ifCond .ne 7, 3) := by decide +kernel
theorem dX7_append_12 : decode cX7_append 12 = .ok (.iconst 1, 1) := by decide +kernel
theorem dX7_append_13 : decode cX7_append 13 = .ok (.goto 17, 3) := by decide +kernel
theorem dX7_append_16 : decode cX7_append 16 = .ok (.aload_n 0, 1) := by decide +kernel
theorem dX7_append_17 : decode cX7_append 17 = .ok (.getfield 80, 3) := by decide +kernel
theorem dX7_append_20 : decode cX7_append 20 = .ok (.bipush 60, 2) := by decide +kernel
theorem dX7_append_22 : decode cX7_append 22 = .ok (.if_icmp .ne 7, 3) := by decide +kernel
theorem dX7_append_25 : decode cX7_append 25 = .ok (.iconst 2, 1) := by decide +kernel
theorem dX7_append_26 : decode cX7_append 26 = .ok (.goto 4, 3) := by decide +kernel
theorem dX7_append_29 : decode cX7_append 29 = .ok (.iconst 0, 1) := by decide +kernel
theorem dX7_append_30 : decode cX7_append 30 = .ok (.invokevirtual 116, 3) := by decide +kernel
theorem dX7_append_33 : decode cX7_append 33 = .ok (.ifCond .ne 5, 3) := by decide +kernel
theorem dX7_append_36 : decode cX7_append 36 = .ok (.iconst 0, 1) := by decide +kernel
theorem dX7_append_37 : decode cX7_append 37 = .ok (.ireturn, 1) := by decide +kernel
theorem dX7_append_38 : decode cX7_append 38 = .ok (.aload_n 0, 1) := by decide +kernel
theorem dX7_append_39 : decode cX7_append 39 = .ok (.getfield 16, 3) := by decide +kernel
theorem dX7_append_42 : decode cX7_append 42 = .ok (.aload_n 0, 1) := by decide +kernel
theorem dX7_append_43 : decode cX7_append 43 = .ok (.getfield 80, 3) := by decide +kernel
theorem dX7_append_46 : decode cX7_append 46 = .ok (.iload_n 1, 1) := by decide +kernel
theorem dX7_append_47 : decode cX7_append 47 = .ok (.iastore, 1) := by decide +kernel
theorem dX7_append_48 : decode cX7_append 48 = .ok (.aload_n 0, 1) := by decide +kernel
theorem dX7_append_49 : decode cX7_append 49 = .ok (.dup, 1) := by decide +kernel
theorem dX7_append_50 : decode cX7_append 50 = .ok (.getfield 80, 3) := by decide +kernel
theorem dX7_append_53 : decode cX7_append 53 = .ok (.iconst 1, 1) := by decide +kernel
theorem dX7_append_54 : decode cX7_append 54 = .ok (.iadd, 1) := by decide +kernel
theorem dX7_append_55 : decode cX7_append 55 = .ok (.putfield 80, 3) := by decide +kernel
theorem dX7_append_58 : decode cX7_append 58 = .ok (.aload_n 0, 1) := by decide +kernel
theorem dX7_append_59 : decode cX7_append 59 = .ok (.getfield 80, 3) := by decide +kernel
theorem dX7_append_62 : decode cX7_append 62 = .ok (.ireturn, 1) := by decide +kernel
theorem dX7_clearBuffer_0 : decode cX7_clearBuffer 0 = .ok (.aload_n 0, 1) := by decide +kernel
theorem dX7_clearBuffer_1 : decode cX7_clearBuffer 1 = .ok (.iconst 0, 1) := by decide +kernel
theorem dX7_clearBuffer_2 : decode cX7_clearBuffer 2 = .ok (.putfield 29, 3) := by decide +kernel
theorem dX7_clearBuffer_5 : decode cX7_clearBuffer 5 = .ok (.aload_n 0, 1) := by decide +kernel
theorem dX7_clearBuffer_6 : decode cX7_clearBuffer 6 = .ok (.getfield 80, 3) := by decide +kernel
theorem dX7_clearBuffer_9 : decode cX7_clearBuffer 9 = .ok (.istore_n 1, 1) := by decide +kernel
theorem dX7_clearBuffer_10 : decode cX7_clearBuffer 10 = .ok (.aload_n 0, 1) := by decide +kernel
theorem dX7_clearBuffer_11 : decode cX7_clearBuffer 11 = .ok (.iconst 0, 1) := by decide +kernel
theorem dX7_clearBuffer_12 : decode cX7_clearBuffer 12 = .ok (.putfield 80, 3) := by decide +kernel
theorem dX7_clearBuffer_15 : decode cX7_clearBuffer 15 = .ok (.iload_n 1, 1) := by decide +kernel
theorem dX7_clearBuffer_16 : decode cX7_clearBuffer 16 = .ok (.ireturn, 1) := by decide +kernel
theorem dX7_firstError_0 : decode cX7_firstError 0 = .ok (.aload_n 0, 1) := by decide +kernel
theorem dX7_firstError_1 : decode cX7_firstError 1 = .ok (.iconst 0, 1) := by decide +kernel
theorem dX7_firstError_2 : decode cX7_firstError 2 = .ok (.putfield 29, 3) := by decide +kernel
theorem dX7_firstError_5 : decode cX7_firstError 5 = .ok (.aload_n 0, 1) := by decide +kernel
theorem dX7_firstError_6 : decode cX7_firstError 6 = .ok (.invokevirtual 112, 3) := by decide +kernel
theorem dX7_firstError_9 : decode cX7_firstError 9 = .ok (.ifCond .eq 10, 3) := by decide +kernel
theorem dX7_firstError_12 : decode cX7_firstError 12 = .ok (.aload_n 0, 1) := by decide +kernel
theorem dX7_firstError_13 : decode cX7_firstError 13 = .ok (.getfield 80, 3) := by decide +kernel
theorem dX7_firstError_16 : decode cX7_firstError 16 = .ok (.goto 7, 3) := by decide +kernel
theorem dX7_firstError_19 : decode cX7_firstError 19 = .ok (.aload_n 0, 1) := by decide +kernel
theorem dX7_firstError_20 : decode cX7_firstError 20 = .ok (.getfield 77, 3) := by decide +kernel
theorem dX7_firstError_23 : decode cX7_firstError 23 = .ok (.ireturn, 1) := by decide +kernel
theorem dX7_undo_0 : decode cX7_undo 0 = .ok (.aload_n 0, 1) := by decide +kernel
theorem dX7_undo_1 : decode cX7_undo 1 = .ok (.aload_n 0, 1) := by decide +kernel
theorem dX7_undo_2 : decode cX7_undo 2 = .ok (.getfield 37, 3) := by decide +kernel
theorem dX7_undo_5 : decode cX7_undo 5 = .ok (.ifCond .le 7, 3) := by decide +kernel
theorem dX7_undo_8 : decode cX7_undo 8 = .ok (.iconst 0, 1) := by decide +kernel
theorem dX7_undo_9 : decode cX7_undo 9 = .ok (.goto 4, 3) := by decide +kernel
theorem dX7_undo_12 : decode cX7_undo 12 = .ok (.iconst 1, 1) := by decide +kernel
theorem dX7_undo_13 : decode cX7_undo 13 = .ok (.invokevirtual 116, 3) := by decide +kernel
theorem dX7_undo_16 : decode cX7_undo 16 = .ok (.ifCond .ne 5, 3) := by decide +kernel
theorem dX7_undo_19 : decode cX7_undo 19 = .ok (.iconst 0, 1) := by decide +kernel
theorem dX7_undo_20 : decode cX7_undo 20 = .ok (.ireturn, 1) := by decide +kernel
theorem dX7_undo_21 : decode cX7_undo 21 = .ok (.aload_n 0, 1) := by decide +kernel
theorem dX7_undo_22 : decode cX7_undo 22 = .ok (.dup, 1) := by decide +kernel
theorem dX7_undo_23 : decode cX7_undo 23 = .ok (.getfield 37, 3) := by decide +kernel
theorem dX7_undo_26 : decode cX7_undo 26 = .ok (.iconst 1, 1) := by decide +kernel
theorem dX7_undo_27 : decode cX7_undo 27 = .ok (.isub, 1) := by decide +kernel
theorem dX7_undo_28 : decode cX7_undo 28 = .ok (.putfield 37, 3) := by decide +kernel
theorem dX7_undo_31 : decode cX7_undo 31 = .ok (.iconst 0, 1) := by decide +kernel
theorem dX7_undo_32 : decode cX7_undo 32 = .ok (.istore_n 1, 1) := by decide +kernel
theorem dX7_undo_33 : decode cX7_undo 33 = .ok (.iload_n 1, 1) := by decide +kernel
theorem dX7_undo_34 : decode cX7_undo 34 = .ok (.bipush 67, 2) := by decide +kernel
theorem dX7_undo_36 : decode cX7_undo 36 = .ok (.if_icmp .ge 29, 3) := by decide +kernel
theorem dX7_undo_39 : decode cX7_undo 39 = .ok (.aload_n 0, 1) := by decide +kernel
theorem dX7_undo_40 : decode cX7_undo 40 = .ok (.getfield 7, 3) := by decide +kernel
theorem dX7_undo_43 : decode cX7_undo 43 = .ok (.iload_n 1, 1) := by decide +kernel
theorem dX7_undo_44 : decode cX7_undo 44 = .ok (.aload_n 0, 1) := by decide +kernel
theorem dX7_undo_45 : decode cX7_undo 45 = .ok (.getfield 13, 3) := by decide +kernel
theorem dX7_undo_48 : decode cX7_undo 48 = .ok (.bipush 67, 2) := by decide +kernel
theorem dX7_undo_50 : decode cX7_undo 50 = .ok (.aload_n 0, 1) := by decide +kernel
theorem dX7_undo_51 : decode cX7_undo 51 = .ok (.getfield 37, 3) := by decide +kernel
theorem dX7_undo_54 : decode cX7_undo 54 = .ok (.imul, 1) := by decide +kernel
theorem dX7_undo_55 : decode cX7_undo 55 = .ok (.iload_n 1, 1) := by decide +kernel
theorem dX7_undo_56 : decode cX7_undo 56 = .ok (.iadd, 1) := by decide +kernel
theorem dX7_undo_57 : decode cX7_undo 57 = .ok (.iaload, 1) := by decide +kernel
theorem dX7_undo_58 : decode cX7_undo 58 = .ok (.iastore, 1) := by decide +kernel
theorem dX7_undo_59 : decode cX7_undo 59 = .ok (.iinc 1 1, 3) := by decide +kernel
theorem dX7_undo_62 : decode cX7_undo 62 = .ok (.goto (-29), 3) := by decide +kernel
theorem dX7_undo_65 : decode cX7_undo 65 = .ok (.aload_n 0, 1) := by decide +kernel
theorem dX7_undo_66 : decode cX7_undo 66 = .ok (.getfield 37, 3) := by decide +kernel
theorem dX7_undo_69 : decode cX7_undo 69 = .ok (.ireturn, 1) := by decide +kernel
theorem dX7_savedStates_0 : decode cX7_savedStates 0 = .ok (.aload_n 0, 1) := by decide +kernel
theorem dX7_savedStates_1 : decode cX7_savedStates 1 = .ok (.iconst 0, 1) := by decide +kernel
theorem dX7_savedStates_2 : decode cX7_savedStates 2 = .ok (.putfield 29, 3) := by decide +kernel
theorem dX7_savedStates_5 : decode cX7_savedStates 5 = .ok (.aload_n 0, 1) := by decide +kernel
theorem dX7_savedStates_6 : decode cX7_savedStates 6 = .ok (.getfield 37, 3) := by decide +kernel
theorem dX7_savedStates_9 : decode cX7_savedStates 9 = .ok (.ireturn, 1) := by decide +kernel
theorem dX7_digestOne_0 : decode cX7_digestOne 0 = .ok (.aload_n 0, 1) := by decide +kernel
theorem dX7_digestOne_1 : decode cX7_digestOne 1 = .ok (.ldc2_w 171, 3) := by decide +kernel
theorem dX7_digestOne_4 : decode cX7_digestOne 4 = .ok (.aload_n 0, 1) := by decide +kernel
theorem dX7_digestOne_5 : decode cX7_digestOne 5 = .ok (.getfield 173, 3) := by decide +kernel
theorem dX7_digestOne_8 : decode cX7_digestOne 8 = .ok (.lmul, 1) := by decide +kernel
theorem dX7_digestOne_9 : decode cX7_digestOne 9 = .ok (.lload_n 1, 1) := by decide +kernel
theorem dX7_digestOne_10 : decode cX7_digestOne 10 = .ok (.ladd, 1) := by decide +kernel
theorem dX7_digestOne_11 : decode cX7_digestOne 11 = .ok (.putfield 173, 3) := by decide +kernel
theorem dX7_digestOne_14 : decode cX7_digestOne 14 = .ok (.return_, 1) := by decide +kernel
theorem dX7_digestBounds_0 : decode cX7_digestBounds 0 = .ok (.iconst 0, 1) := by decide +kernel
theorem dX7_digestBounds_1 : decode cX7_digestBounds 1 = .ok (.istore_n 2, 1) := by decide +kernel
theorem dX7_digestBounds_2 : decode cX7_digestBounds 2 = .ok (.iload_n 2, 1) := by decide +kernel
theorem dX7_digestBounds_3 : decode cX7_digestBounds 3 = .ok (.bipush 6, 2) := by decide +kernel
theorem dX7_digestBounds_5 : decode cX7_digestBounds 5 = .ok (.if_icmp .ge 33, 3) := by decide +kernel
theorem dX7_digestBounds_8 : decode cX7_digestBounds 8 = .ok (.aload_n 0, 1) := by decide +kernel
theorem dX7_digestBounds_9 : decode cX7_digestBounds 9 = .ok (.aload_n 0, 1) := by decide +kernel
theorem dX7_digestBounds_10 : decode cX7_digestBounds 10 = .ok (.iload_n 1, 1) := by decide +kernel
theorem dX7_digestBounds_11 : decode cX7_digestBounds 11 = .ok (.iload_n 2, 1) := by decide +kernel
theorem dX7_digestBounds_12 : decode cX7_digestBounds 12 = .ok (.iconst 2, 1) := by decide +kernel
theorem dX7_digestBounds_13 : decode cX7_digestBounds 13 = .ok (.idiv, 1) := by decide +kernel
theorem dX7_digestBounds_14 : decode cX7_digestBounds 14 = .ok (.iload_n 2, 1) := by decide +kernel
theorem dX7_digestBounds_15 : decode cX7_digestBounds 15 = .ok (.iconst 2, 1) := by decide +kernel
theorem dX7_digestBounds_16 : decode cX7_digestBounds 16 = .ok (.irem, 1) := by decide +kernel
theorem dX7_digestBounds_17 : decode cX7_digestBounds 17 = .ok (.ifCond .ne 7, 3) := by decide +kernel
theorem dX7_digestBounds_20 : decode cX7_digestBounds 20 = .ok (.iconst 1, 1) := by decide +kernel
theorem dX7_digestBounds_21 : decode cX7_digestBounds 21 = .ok (.goto 4, 3) := by decide +kernel
theorem dX7_digestBounds_24 : decode cX7_digestBounds 24 = .ok (.iconst 0, 1) := by decide +kernel
theorem dX7_digestBounds_25 : decode cX7_digestBounds 25 = .ok (.invokevirtual 164, 3) := by decide +kernel
theorem dX7_digestBounds_28 : decode cX7_digestBounds 28 = .ok (.i2l, 1) := by decide +kernel
theorem dX7_digestBounds_29 : decode cX7_digestBounds 29 = .ok (.invokevirtual 177, 3) := by decide +kernel
theorem dX7_digestBounds_32 : decode cX7_digestBounds 32 = .ok (.iinc 2 1, 3) := by decide +kernel
theorem dX7_digestBounds_35 : decode cX7_digestBounds 35 = .ok (.goto (-33), 3) := by decide +kernel
theorem dX7_digestBounds_38 : decode cX7_digestBounds 38 = .ok (.return_, 1) := by decide +kernel
theorem dX7_digest_0 : decode cX7_digest 0 = .ok (.aload_n 0, 1) := by decide +kernel
theorem dX7_digest_1 : decode cX7_digest 1 = .ok (.iconst 0, 1) := by decide +kernel
theorem dX7_digest_2 : decode cX7_digest 2 = .ok (.putfield 29, 3) := by decide +kernel
theorem dX7_digest_5 : decode cX7_digest 5 = .ok (.aload_n 0, 1) := by decide +kernel
theorem dX7_digest_6 : decode cX7_digest 6 = .ok (.invokevirtual 134, 3) := by decide +kernel
theorem dX7_digest_9 : decode cX7_digest 9 = .ok (.aload_n 0, 1) := by decide +kernel
theorem dX7_digest_10 : decode cX7_digest 10 = .ok (.invokevirtual 152, 3) := by decide +kernel
theorem dX7_digest_13 : decode cX7_digest 13 = .ok (.aload_n 0, 1) := by decide +kernel
theorem dX7_digest_14 : decode cX7_digest 14 = .ok (.ldc2_w 181, 3) := by decide +kernel
theorem dX7_digest_17 : decode cX7_digest 17 = .ok (.putfield 173, 3) := by decide +kernel
theorem dX7_digest_20 : decode cX7_digest 20 = .ok (.aload_n 0, 1) := by decide +kernel
theorem dX7_digest_21 : decode cX7_digest 21 = .ok (.aload_n 0, 1) := by decide +kernel
theorem dX7_digest_22 : decode cX7_digest 22 = .ok (.getfield 7, 3) := by decide +kernel
theorem dX7_digest_25 : decode cX7_digest 25 = .ok (.iconst 0, 1) := by decide +kernel
theorem dX7_digest_26 : decode cX7_digest 26 = .ok (.iaload, 1) := by decide +kernel
theorem dX7_digest_27 : decode cX7_digest 27 = .ok (.i2l, 1) := by decide +kernel
theorem dX7_digest_28 : decode cX7_digest 28 = .ok (.invokevirtual 177, 3) := by decide +kernel
theorem dX7_digest_31 : decode cX7_digest 31 = .ok (.aload_n 0, 1) := by decide +kernel
theorem dX7_digest_32 : decode cX7_digest 32 = .ok (.aload_n 0, 1) := by decide +kernel
theorem dX7_digest_33 : decode cX7_digest 33 = .ok (.iconst 0, 1) := by decide +kernel
theorem dX7_digest_34 : decode cX7_digest 34 = .ok (.invokevirtual 158, 3) := by decide +kernel
theorem dX7_digest_37 : decode cX7_digest 37 = .ok (.i2l, 1) := by decide +kernel
theorem dX7_digest_38 : decode cX7_digest 38 = .ok (.invokevirtual 177, 3) := by decide +kernel
theorem dX7_digest_41 : decode cX7_digest 41 = .ok (.aload_n 0, 1) := by decide +kernel
theorem dX7_digest_42 : decode cX7_digest 42 = .ok (.aload_n 0, 1) := by decide +kernel
theorem dX7_digest_43 : decode cX7_digest 43 = .ok (.invokevirtual 161, 3) := by decide +kernel
theorem dX7_digest_46 : decode cX7_digest 46 = .ok (.i2l, 1) := by decide +kernel
theorem dX7_digest_47 : decode cX7_digest 47 = .ok (.invokevirtual 177, 3) := by decide +kernel
theorem dX7_digest_50 : decode cX7_digest 50 = .ok (.iconst 0, 1) := by decide +kernel
theorem dX7_digest_51 : decode cX7_digest 51 = .ok (.istore_n 1, 1) := by decide +kernel
theorem dX7_digest_52 : decode cX7_digest 52 = .ok (.iload_n 1, 1) := by decide +kernel
theorem dX7_digest_53 : decode cX7_digest 53 = .ok (.aload_n 0, 1) := by decide +kernel
theorem dX7_digest_54 : decode cX7_digest 54 = .ok (.getfield 7, 3) := by decide +kernel
theorem dX7_digest_57 : decode cX7_digest 57 = .ok (.iconst 0, 1) := by decide +kernel
theorem dX7_digest_58 : decode cX7_digest 58 = .ok (.iaload, 1) := by decide +kernel
theorem dX7_digest_59 : decode cX7_digest 59 = .ok (.if_icmp .ge 69, 3) := by decide +kernel
theorem dX7_digest_62 : decode cX7_digest 62 = .ok (.aload_n 0, 1) := by decide +kernel
theorem dX7_digest_63 : decode cX7_digest 63 = .ok (.aload_n 0, 1) := by decide +kernel
theorem dX7_digest_64 : decode cX7_digest 64 = .ok (.getfield 7, 3) := by decide +kernel
theorem dX7_digest_67 : decode cX7_digest 67 = .ok (.iload_n 1, 1) := by decide +kernel
theorem dX7_digest_68 : decode cX7_digest 68 = .ok (.iconst 0, 1) := by decide +kernel
theorem dX7_digest_69 : decode cX7_digest 69 = .ok (.invokestatic 44, 3) := by decide +kernel
theorem dX7_digest_72 : decode cX7_digest 72 = .ok (.iaload, 1) := by decide +kernel
theorem dX7_digest_73 : decode cX7_digest 73 = .ok (.i2l, 1) := by decide +kernel
theorem dX7_digest_74 : decode cX7_digest 74 = .ok (.invokevirtual 177, 3) := by decide +kernel
theorem dX7_digest_77 : decode cX7_digest 77 = .ok (.aload_n 0, 1) := by decide +kernel
theorem dX7_digest_78 : decode cX7_digest 78 = .ok (.aload_n 0, 1) := by decide +kernel
theorem dX7_digest_79 : decode cX7_digest 79 = .ok (.iload_n 1, 1) := by decide +kernel
theorem dX7_digest_80 : decode cX7_digest 80 = .ok (.invokevirtual 128, 3) := by decide +kernel
theorem dX7_digest_83 : decode cX7_digest 83 = .ok (.i2l, 1) := by decide +kernel
theorem dX7_digest_84 : decode cX7_digest 84 = .ok (.invokevirtual 177, 3) := by decide +kernel
theorem dX7_digest_87 : decode cX7_digest 87 = .ok (.aload_n 0, 1) := by decide +kernel
theorem dX7_digest_88 : decode cX7_digest 88 = .ok (.aload_n 0, 1) := by decide +kernel
theorem dX7_digest_89 : decode cX7_digest 89 = .ok (.iload_n 1, 1) := by decide +kernel
theorem dX7_digest_90 : decode cX7_digest 90 = .ok (.invokevirtual 140, 3) := by decide +kernel
theorem dX7_digest_93 : decode cX7_digest 93 = .ok (.i2l, 1) := by decide +kernel
theorem dX7_digest_94 : decode cX7_digest 94 = .ok (.invokevirtual 177, 3) := by decide +kernel
theorem dX7_digest_97 : decode cX7_digest 97 = .ok (.aload_n 0, 1) := by decide +kernel
theorem dX7_digest_98 : decode cX7_digest 98 = .ok (.aload_n 0, 1) := by decide +kernel
theorem dX7_digest_99 : decode cX7_digest 99 = .ok (.iload_n 1, 1) := by decide +kernel
theorem dX7_digest_100 : decode cX7_digest 100 = .ok (.invokevirtual 155, 3) := by decide +kernel
theorem dX7_digest_103 : decode cX7_digest 103 = .ok (.i2l, 1) := by decide +kernel
theorem dX7_digest_104 : decode cX7_digest 104 = .ok (.invokevirtual 177, 3) := by decide +kernel
theorem dX7_digest_107 : decode cX7_digest 107 = .ok (.aload_n 0, 1) := by decide +kernel
theorem dX7_digest_108 : decode cX7_digest 108 = .ok (.aload_n 0, 1) := by decide +kernel
theorem dX7_digest_109 : decode cX7_digest 109 = .ok (.iload_n 1, 1) := by decide +kernel
theorem dX7_digest_110 : decode cX7_digest 110 = .ok (.invokevirtual 149, 3) := by decide +kernel
theorem dX7_digest_113 : decode cX7_digest 113 = .ok (.i2l, 1) := by decide +kernel
theorem dX7_digest_114 : decode cX7_digest 114 = .ok (.invokevirtual 177, 3) := by decide +kernel
theorem dX7_digest_117 : decode cX7_digest 117 = .ok (.aload_n 0, 1) := by decide +kernel
theorem dX7_digest_118 : decode cX7_digest 118 = .ok (.iload_n 1, 1) := by decide +kernel
theorem dX7_digest_119 : decode cX7_digest 119 = .ok (.invokevirtual 183, 3) := by decide +kernel
theorem dX7_digest_122 : decode cX7_digest 122 = .ok (.iinc 1 1, 3) := by decide +kernel
theorem dX7_digest_125 : decode cX7_digest 125 = .ok (.goto (-73), 3) := by decide +kernel
theorem dX7_digest_128 : decode cX7_digest 128 = .ok (.aload_n 0, 1) := by decide +kernel
theorem dX7_digest_129 : decode cX7_digest 129 = .ok (.aload_n 0, 1) := by decide +kernel
theorem dX7_digest_130 : decode cX7_digest 130 = .ok (.getfield 7, 3) := by decide +kernel
theorem dX7_digest_133 : decode cX7_digest 133 = .ok (.iconst 0, 1) := by decide +kernel
theorem dX7_digest_134 : decode cX7_digest 134 = .ok (.iaload, 1) := by decide +kernel
theorem dX7_digest_135 : decode cX7_digest 135 = .ok (.invokevirtual 183, 3) := by decide +kernel
theorem dX7_digest_138 : decode cX7_digest 138 = .ok (.iconst 0, 1) := by decide +kernel
theorem dX7_digest_139 : decode cX7_digest 139 = .ok (.istore_n 1, 1) := by decide +kernel
theorem dX7_digest_140 : decode cX7_digest 140 = .ok (.iload_n 1, 1) := by decide +kernel
theorem dX7_digest_141 : decode cX7_digest 141 = .ok (.iconst 3, 1) := by decide +kernel
theorem dX7_digest_142 : decode cX7_digest 142 = .ok (.if_icmp .ge 19, 3) := by decide +kernel
theorem dX7_digest_145 : decode cX7_digest 145 = .ok (.aload_n 0, 1) := by decide +kernel
theorem dX7_digest_146 : decode cX7_digest 146 = .ok (.aload_n 0, 1) := by decide +kernel
theorem dX7_digest_147 : decode cX7_digest 147 = .ok (.iload_n 1, 1) := by decide +kernel
theorem dX7_digest_148 : decode cX7_digest 148 = .ok (.invokevirtual 168, 3) := by decide +kernel
theorem dX7_digest_151 : decode cX7_digest 151 = .ok (.i2l, 1) := by decide +kernel
theorem dX7_digest_152 : decode cX7_digest 152 = .ok (.invokevirtual 177, 3) := by decide +kernel
theorem dX7_digest_155 : decode cX7_digest 155 = .ok (.iinc 1 1, 3) := by decide +kernel
theorem dX7_digest_158 : decode cX7_digest 158 = .ok (.goto (-18), 3) := by decide +kernel
theorem dX7_digest_161 : decode cX7_digest 161 = .ok (.aload_n 0, 1) := by decide +kernel
theorem dX7_digest_162 : decode cX7_digest 162 = .ok (.getfield 173, 3) := by decide +kernel
theorem dX7_digest_165 : decode cX7_digest 165 = .ok (.lreturn, 1) := by decide +kernel
theorem dJ11_isValidCodePoint_9a6ad_0 : decode cJ11_isValidCodePoint_9a6ad 0 = .ok (.iload_n 0, 1) := by decide +kernel
theorem dJ11_isValidCodePoint_9a6ad_1 : decode cJ11_isValidCodePoint_9a6ad 1 = .ok (.bipush 16, 2) := by decide +kernel
theorem dJ11_isValidCodePoint_9a6ad_3 : decode cJ11_isValidCodePoint_9a6ad 3 = .ok (.iushr, 1) := by decide +kernel
theorem dJ11_isValidCodePoint_9a6ad_4 : decode cJ11_isValidCodePoint_9a6ad 4 = .ok (.istore_n 1, 1) := by decide +kernel
theorem dJ11_isValidCodePoint_9a6ad_5 : decode cJ11_isValidCodePoint_9a6ad 5 = .ok (.iload_n 1, 1) := by decide +kernel
theorem dJ11_isValidCodePoint_9a6ad_6 : decode cJ11_isValidCodePoint_9a6ad 6 = .ok (.bipush 17, 2) := by decide +kernel
theorem dJ11_isValidCodePoint_9a6ad_8 : decode cJ11_isValidCodePoint_9a6ad 8 = .ok (.if_icmp .ge 7, 3) := by decide +kernel
theorem dJ11_isValidCodePoint_9a6ad_11 : decode cJ11_isValidCodePoint_9a6ad 11 = .ok (.iconst 1, 1) := by decide +kernel
theorem dJ11_isValidCodePoint_9a6ad_12 : decode cJ11_isValidCodePoint_9a6ad 12 = .ok (.goto 4, 3) := by decide +kernel
theorem dJ11_isValidCodePoint_9a6ad_15 : decode cJ11_isValidCodePoint_9a6ad 15 = .ok (.iconst 0, 1) := by decide +kernel
theorem dJ11_isValidCodePoint_9a6ad_16 : decode cJ11_isValidCodePoint_9a6ad 16 = .ok (.ireturn, 1) := by decide +kernel
theorem dJ11_highSurrogate_5068e_0 : decode cJ11_highSurrogate_5068e 0 = .ok (.iload_n 0, 1) := by decide +kernel
theorem dJ11_highSurrogate_5068e_1 : decode cJ11_highSurrogate_5068e 1 = .ok (.bipush 10, 2) := by decide +kernel
theorem dJ11_highSurrogate_5068e_3 : decode cJ11_highSurrogate_5068e 3 = .ok (.iushr, 1) := by decide +kernel
theorem dJ11_highSurrogate_5068e_4 : decode cJ11_highSurrogate_5068e 4 = .ok (.ldc 110, 2) := by decide +kernel
theorem dJ11_highSurrogate_5068e_6 : decode cJ11_highSurrogate_5068e 6 = .ok (.iadd, 1) := by decide +kernel
theorem dJ11_highSurrogate_5068e_7 : decode cJ11_highSurrogate_5068e 7 = .ok (.i2c, 1) := by decide +kernel
theorem dJ11_highSurrogate_5068e_8 : decode cJ11_highSurrogate_5068e 8 = .ok (.ireturn, 1) := by decide +kernel
theorem dJ11_lowSurrogate_5068e_0 : decode cJ11_lowSurrogate_5068e 0 = .ok (.iload_n 0, 1) := by decide +kernel
theorem dJ11_lowSurrogate_5068e_1 : decode cJ11_lowSurrogate_5068e 1 = .ok (.sipush 1023, 3) := by decide +kernel
theorem dJ11_lowSurrogate_5068e_4 : decode cJ11_lowSurrogate_5068e 4 = .ok (.iand, 1) := by decide +kernel
theorem dJ11_lowSurrogate_5068e_5 : decode cJ11_lowSurrogate_5068e 5 = .ok (.ldc 76, 2) := by decide +kernel
theorem dJ11_lowSurrogate_5068e_7 : decode cJ11_lowSurrogate_5068e 7 = .ok (.iadd, 1) := by decide +kernel
theorem dJ11_lowSurrogate_5068e_8 : decode cJ11_lowSurrogate_5068e 8 = .ok (.i2c, 1) := by decide +kernel
theorem dJ11_lowSurrogate_5068e_9 : decode cJ11_lowSurrogate_5068e 9 = .ok (.ireturn, 1) := by decide +kernel
theorem dJ9_max_7cf53_0 : decode cJ9_max_7cf53 0 = .ok (.iload_n 0, 1) := by decide +kernel
theorem dJ9_max_7cf53_1 : decode cJ9_max_7cf53 1 = .ok (.iload_n 1, 1) := by decide +kernel
theorem dJ9_max_7cf53_2 : decode cJ9_max_7cf53 2 = .ok (.if_icmp .lt 7, 3) := by decide +kernel
theorem dJ9_max_7cf53_5 : decode cJ9_max_7cf53 5 = .ok (.iload_n 0, 1) := by decide +kernel
theorem dJ9_max_7cf53_6 : decode cJ9_max_7cf53 6 = .ok (.goto 4, 3) := by decide +kernel
theorem dJ9_max_7cf53_9 : decode cJ9_max_7cf53 9 = .ok (.iload_n 1, 1) := by decide +kernel
theorem dJ9_max_7cf53_10 : decode cJ9_max_7cf53 10 = .ok (.ireturn, 1) := by decide +kernel
theorem dJ9_min_7cf53_0 : decode cJ9_min_7cf53 0 = .ok (.iload_n 0, 1) := by decide +kernel
theorem dJ9_min_7cf53_1 : decode cJ9_min_7cf53 1 = .ok (.iload_n 1, 1) := by decide +kernel
theorem dJ9_min_7cf53_2 : decode cJ9_min_7cf53 2 = .ok (.if_icmp .gt 7, 3) := by decide +kernel
theorem dJ9_min_7cf53_5 : decode cJ9_min_7cf53 5 = .ok (.iload_n 0, 1) := by decide +kernel
theorem dJ9_min_7cf53_6 : decode cJ9_min_7cf53 6 = .ok (.goto 4, 3) := by decide +kernel
theorem dJ9_min_7cf53_9 : decode cJ9_min_7cf53 9 = .ok (.iload_n 1, 1) := by decide +kernel
theorem dJ9_min_7cf53_10 : decode cJ9_min_7cf53 10 = .ok (.ireturn, 1) := by decide +kernel
theorem dJ0_length_8abf5_0 : decode cJ0_length_8abf5 0 = .ok (.aload_n 0, 1) := by decide +kernel
theorem dJ0_length_8abf5_1 : decode cJ0_length_8abf5 1 = .ok (.getfield 9, 3) := by decide +kernel
theorem dJ0_length_8abf5_4 : decode cJ0_length_8abf5 4 = .ok (.arraylength, 1) := by decide +kernel
theorem dJ0_length_8abf5_5 : decode cJ0_length_8abf5 5 = .ok (.aload_n 0, 1) := by decide +kernel
theorem dJ0_length_8abf5_6 : decode cJ0_length_8abf5 6 = .ok (.invokevirtual 335, 3) := by decide +kernel
theorem dJ0_length_8abf5_9 : decode cJ0_length_8abf5 9 = .ok (.ishr, 1) := by decide +kernel
theorem dJ0_length_8abf5_10 : decode cJ0_length_8abf5 10 = .ok (.ireturn, 1) := by decide +kernel
theorem dJ0_indexOf_0f7a4_0 : decode cJ0_indexOf_0f7a4 0 = .ok (.aload_n 0, 1) := by decide +kernel
theorem dJ0_indexOf_0f7a4_1 : decode cJ0_indexOf_0f7a4 1 = .ok (.iload_n 1, 1) := by decide +kernel
theorem dJ0_indexOf_0f7a4_2 : decode cJ0_indexOf_0f7a4 2 = .ok (.iconst 0, 1) := by decide +kernel
theorem dJ0_indexOf_0f7a4_3 : decode cJ0_indexOf_0f7a4 3 = .ok (.invokevirtual 633, 3) := by decide +kernel
theorem dJ0_indexOf_0f7a4_6 : decode cJ0_indexOf_0f7a4 6 = .ok (.ireturn, 1) := by decide +kernel
theorem dJ0_indexOf_7cf53_0 : decode cJ0_indexOf_7cf53 0 = .ok (.aload_n 0, 1) := by decide +kernel
theorem dJ0_indexOf_7cf53_1 : decode cJ0_indexOf_7cf53 1 = .ok (.invokevirtual 492, 3) := by decide +kernel
theorem dJ0_indexOf_7cf53_4 : decode cJ0_indexOf_7cf53 4 = .ok (.ifCond .eq 19, 3) := by decide +kernel
theorem dJ0_indexOf_7cf53_7 : decode cJ0_indexOf_7cf53 7 = .ok (.aload_n 0, 1) := by decide +kernel
theorem dJ0_indexOf_7cf53_8 : decode cJ0_indexOf_7cf53 8 = .ok (.getfield 9, 3) := by decide +kernel
theorem dJ0_indexOf_7cf53_11 : decode cJ0_indexOf_7cf53 11 = .ok (.iload_n 1, 1) := by decide +kernel
theorem dJ0_indexOf_7cf53_12 : decode cJ0_indexOf_7cf53 12 = .ok (.iload_n 2, 1) := by decide +kernel
theorem dJ0_indexOf_7cf53_13 : decode cJ0_indexOf_7cf53 13 = .ok (.aload_n 0, 1) := by decide +kernel
theorem dJ0_indexOf_7cf53_14 : decode cJ0_indexOf_7cf53 14 = .ok (.invokevirtual 505, 3) := by decide +kernel
theorem dJ0_indexOf_7cf53_17 : decode cJ0_indexOf_7cf53 17 = .ok (.invokestatic 637, 3) := by decide +kernel
theorem dJ0_indexOf_7cf53_20 : decode cJ0_indexOf_7cf53 20 = .ok (.goto 16, 3) := by decide +kernel
theorem dJ0_indexOf_7cf53_23 : decode cJ0_indexOf_7cf53 23 = .ok (.aload_n 0, 1) := by decide +kernel
theorem dJ0_indexOf_7cf53_24 : decode cJ0_indexOf_7cf53 24 = .ok (.getfield 9, 3) := by decide +kernel
theorem dJ0_indexOf_7cf53_27 : decode cJ0_indexOf_7cf53 27 = .ok (.iload_n 1, 1) := by decide +kernel
theorem dJ0_indexOf_7cf53_28 : decode cJ0_indexOf_7cf53 28 = .ok (.iload_n 2, 1) := by decide +kernel
theorem dJ0_indexOf_7cf53_29 : decode cJ0_indexOf_7cf53 29 = .ok (.aload_n 0, 1) := by decide +kernel
theorem dJ0_indexOf_7cf53_30 : decode cJ0_indexOf_7cf53 30 = .ok (.invokevirtual 505, 3) := by decide +kernel
theorem dJ0_indexOf_7cf53_33 : decode cJ0_indexOf_7cf53 33 = .ok (.invokestatic 640, 3) := by decide +kernel
theorem dJ0_indexOf_7cf53_36 : decode cJ0_indexOf_7cf53 36 = .ok (.ireturn, 1) := by decide +kernel
theorem dJ0_coder_7d493_0 : decode cJ0_coder_7d493 0 = .ok (.getstatic 38, 3) := by decide +kernel
theorem dJ0_coder_7d493_3 : decode cJ0_coder_7d493 3 = .ok (.ifCond .eq 10, 3) := by decide +kernel
theorem dJ0_coder_7d493_6 : decode cJ0_coder_7d493 6 = .ok (.aload_n 0, 1) := by decide +kernel
theorem dJ0_coder_7d493_7 : decode cJ0_coder_7d493 7 = .ok (.getfield 15, 3) := by decide +kernel
theorem dJ0_coder_7d493_10 : decode cJ0_coder_7d493 10 = .ok (.goto 4, 3) := by decide +kernel
theorem dJ0_coder_7d493_13 : decode cJ0_coder_7d493 13 = .ok (.iconst 1, 1) := by decide +kernel
theorem dJ0_coder_7d493_14 : decode cJ0_coder_7d493 14 = .ok (.ireturn, 1) := by decide +kernel
theorem dJ0_isLatin1_aae02_0 : decode cJ0_isLatin1_aae02 0 = .ok (.getstatic 38, 3) := by decide +kernel
theorem dJ0_isLatin1_aae02_3 : decode cJ0_isLatin1_aae02 3 = .ok (.ifCond .eq 14, 3) := by decide +kernel
theorem dJ0_isLatin1_aae02_6 : decode cJ0_isLatin1_aae02 6 = .ok (.aload_n 0, 1) := by decide +kernel
theorem dJ0_isLatin1_aae02_7 : decode cJ0_isLatin1_aae02 7 = .ok (.getfield 15, 3) := by decide +kernel
theorem dJ0_isLatin1_aae02_10 : decode cJ0_isLatin1_aae02 10 = .ok (.ifCond .ne 7, 3) := by decide +kernel
theorem dJ0_isLatin1_aae02_13 : decode cJ0_isLatin1_aae02 13 = .ok (.iconst 1, 1) := by decide +kernel
theorem dJ0_isLatin1_aae02_14 : decode cJ0_isLatin1_aae02 14 = .ok (.goto 4, 3) := by decide +kernel
theorem dJ0_isLatin1_aae02_17 : decode cJ0_isLatin1_aae02 17 = .ok (.iconst 0, 1) := by decide +kernel
theorem dJ0_isLatin1_aae02_18 : decode cJ0_isLatin1_aae02 18 = .ok (.ireturn, 1) := by decide +kernel
theorem dJ0_checkBoundsBeginEnd_23922_0 : decode cJ0_checkBoundsBeginEnd_23922 0 = .ok (.iload_n 0, 1) := by decide +kernel
theorem dJ0_checkBoundsBeginEnd_23922_1 : decode cJ0_checkBoundsBeginEnd_23922 1 = .ok (.iload_n 1, 1) := by decide +kernel
theorem dJ0_checkBoundsBeginEnd_23922_2 : decode cJ0_checkBoundsBeginEnd_23922 2 = .ok (.iload_n 2, 1) := by decide +kernel
theorem dJ0_checkBoundsBeginEnd_23922_3 : decode cJ0_checkBoundsBeginEnd_23922 3 = .ok (.getstatic 1053, 3) := by decide +kernel
theorem dJ0_checkBoundsBeginEnd_23922_6 : decode cJ0_checkBoundsBeginEnd_23922 6 = .ok (.invokestatic 1062, 3) := by decide +kernel
theorem dJ0_checkBoundsBeginEnd_23922_9 : decode cJ0_checkBoundsBeginEnd_23922 9 = .ok (.pop, 1) := by decide +kernel
theorem dJ0_checkBoundsBeginEnd_23922_10 : decode cJ0_checkBoundsBeginEnd_23922 10 = .ok (.return_, 1) := by decide +kernel
theorem dJ1_canEncode_9a6ad_0 : decode cJ1_canEncode_9a6ad 0 = .ok (.iload_n 0, 1) := by decide +kernel
theorem dJ1_canEncode_9a6ad_1 : decode cJ1_canEncode_9a6ad 1 = .ok (.ifCond .lt 14, 3) := by decide +kernel
theorem dJ1_canEncode_9a6ad_4 : decode cJ1_canEncode_9a6ad 4 = .ok (.iload_n 0, 1) := by decide +kernel
theorem dJ1_canEncode_9a6ad_5 : decode cJ1_canEncode_9a6ad 5 = .ok (.sipush 255, 3) := by decide +kernel
theorem dJ1_canEncode_9a6ad_8 : decode cJ1_canEncode_9a6ad 8 = .ok (.if_icmp .gt 7, 3) := by decide +kernel
theorem dJ1_canEncode_9a6ad_11 : decode cJ1_canEncode_9a6ad 11 = .ok (.iconst 1, 1) := by decide +kernel
theorem dJ1_canEncode_9a6ad_12 : decode cJ1_canEncode_9a6ad 12 = .ok (.goto 4, 3) := by decide +kernel
theorem dJ1_canEncode_9a6ad_15 : decode cJ1_canEncode_9a6ad 15 = .ok (.iconst 0, 1) := by decide +kernel
theorem dJ1_canEncode_9a6ad_16 : decode cJ1_canEncode_9a6ad 16 = .ok (.ireturn, 1) := by decide +kernel
theorem dJ1_indexOf_4cfef_0 : decode cJ1_indexOf_4cfef 0 = .ok (.iload_n 1, 1) := by decide +kernel
theorem dJ1_indexOf_4cfef_1 : decode cJ1_indexOf_4cfef 1 = .ok (.invokestatic 88, 3) := by decide +kernel
theorem dJ1_indexOf_4cfef_4 : decode cJ1_indexOf_4cfef 4 = .ok (.ifCond .ne 5, 3) := by decide +kernel
theorem dJ1_indexOf_4cfef_7 : decode cJ1_indexOf_4cfef 7 = .ok (.iconst (-1), 1) := by decide +kernel
theorem dJ1_indexOf_4cfef_8 : decode cJ1_indexOf_4cfef 8 = .ok (.ireturn, 1) := by decide +kernel
theorem dJ1_indexOf_4cfef_9 : decode cJ1_indexOf_4cfef 9 = .ok (.iload_n 2, 1) := by decide +kernel
theorem dJ1_indexOf_4cfef_10 : decode cJ1_indexOf_4cfef 10 = .ok (.iconst 0, 1) := by decide +kernel
theorem dJ1_indexOf_4cfef_11 : decode cJ1_indexOf_4cfef 11 = .ok (.invokestatic 92, 3) := by decide +kernel
theorem dJ1_indexOf_4cfef_14 : decode cJ1_indexOf_4cfef 14 = .ok (.istore_n 2, 1) := by decide +kernel
theorem dJ1_indexOf_4cfef_15 : decode cJ1_indexOf_4cfef 15 = .ok (.iload_n 3, 1) := by decide +kernel
theorem dJ1_indexOf_4cfef_16 : decode cJ1_indexOf_4cfef 16 = .ok (.aload_n 0, 1) := by decide +kernel
theorem dJ1_indexOf_4cfef_17 : decode cJ1_indexOf_4cfef 17 = .ok (.arraylength, 1) := by decide +kernel
theorem dJ1_indexOf_4cfef_18 : decode cJ1_indexOf_4cfef 18 = .ok (.invokestatic 38, 3) := by decide +kernel
theorem dJ1_indexOf_4cfef_21 : decode cJ1_indexOf_4cfef 21 = .ok (.istore_n 3, 1) := by decide +kernel
theorem dJ1_indexOf_4cfef_22 : decode cJ1_indexOf_4cfef 22 = .ok (.iload_n 2, 1) := by decide +kernel
theorem dJ1_indexOf_4cfef_23 : decode cJ1_indexOf_4cfef 23 = .ok (.iload_n 3, 1) := by decide +kernel
theorem dJ1_indexOf_4cfef_24 : decode cJ1_indexOf_4cfef 24 = .ok (.if_icmp .lt 5, 3) := by decide +kernel
theorem dJ1_indexOf_4cfef_27 : decode cJ1_indexOf_4cfef 27 = .ok (.iconst (-1), 1) := by decide +kernel
theorem dJ1_indexOf_4cfef_28 : decode cJ1_indexOf_4cfef 28 = .ok (.ireturn, 1) := by decide +kernel
theorem dJ1_indexOf_4cfef_29 : decode cJ1_indexOf_4cfef 29 = .ok (.aload_n 0, 1) := by decide +kernel
theorem dJ1_indexOf_4cfef_30 : decode cJ1_indexOf_4cfef 30 = .ok (.iload_n 1, 1) := by decide +kernel
theorem dJ1_indexOf_4cfef_31 : decode cJ1_indexOf_4cfef 31 = .ok (.iload_n 2, 1) := by decide +kernel
theorem dJ1_indexOf_4cfef_32 : decode cJ1_indexOf_4cfef 32 = .ok (.iload_n 3, 1) := by decide +kernel
theorem dJ1_indexOf_4cfef_33 : decode cJ1_indexOf_4cfef 33 = .ok (.invokestatic 95, 3) := by decide +kernel
theorem dJ1_indexOf_4cfef_36 : decode cJ1_indexOf_4cfef 36 = .ok (.ireturn, 1) := by decide +kernel
theorem dJ1_indexOfChar_4cfef_0 : decode cJ1_indexOfChar_4cfef 0 = .ok (.iload_n 1, 1) := by decide +kernel
theorem dJ1_indexOfChar_4cfef_1 : decode cJ1_indexOfChar_4cfef 1 = .ok (.i2b, 1) := by decide +kernel
theorem dJ1_indexOfChar_4cfef_2 : decode cJ1_indexOfChar_4cfef 2 = .ok (.istore 4, 2) := by decide +kernel
theorem dJ1_indexOfChar_4cfef_4 : decode cJ1_indexOfChar_4cfef 4 = .ok (.iload_n 2, 1) := by decide +kernel
theorem dJ1_indexOfChar_4cfef_5 : decode cJ1_indexOfChar_4cfef 5 = .ok (.istore 5, 2) := by decide +kernel
theorem dJ1_indexOfChar_4cfef_7 : decode cJ1_indexOfChar_4cfef 7 = .ok (.iload 5, 2) := by decide +kernel
theorem dJ1_indexOfChar_4cfef_9 : decode cJ1_indexOfChar_4cfef 9 = .ok (.iload_n 3, 1) := by decide +kernel
theorem dJ1_indexOfChar_4cfef_10 : decode cJ1_indexOfChar_4cfef 10 = .ok (.if_icmp .ge 21, 3) := by decide +kernel
theorem dJ1_indexOfChar_4cfef_13 : decode cJ1_indexOfChar_4cfef 13 = .ok (.aload_n 0, 1) := by decide +kernel
theorem dJ1_indexOfChar_4cfef_14 : decode cJ1_indexOfChar_4cfef 14 = .ok (.iload 5, 2) := by decide +kernel
theorem dJ1_indexOfChar_4cfef_16 : decode cJ1_indexOfChar_4cfef 16 = .ok (.baload, 1) := by decide +kernel
theorem dJ1_indexOfChar_4cfef_17 : decode cJ1_indexOfChar_4cfef 17 = .ok (.iload 4, 2) := by decide +kernel
theorem dJ1_indexOfChar_4cfef_19 : decode cJ1_indexOfChar_4cfef 19 = .ok (.if_icmp .ne 6, 3) := by decide +kernel
theorem dJ1_indexOfChar_4cfef_22 : decode cJ1_indexOfChar_4cfef 22 = .ok (.iload 5, 2) := by decide +kernel
theorem dJ1_indexOfChar_4cfef_24 : decode cJ1_indexOfChar_4cfef 24 = .ok (.ireturn, 1) := by decide +kernel
theorem dJ1_indexOfChar_4cfef_25 : decode cJ1_indexOfChar_4cfef 25 = .ok (.iinc 5 1, 3) := by decide +kernel
theorem dJ1_indexOfChar_4cfef_28 : decode cJ1_indexOfChar_4cfef 28 = .ok (.goto (-21), 3) := by decide +kernel
theorem dJ1_indexOfChar_4cfef_31 : decode cJ1_indexOfChar_4cfef 31 = .ok (.iconst (-1), 1) := by decide +kernel
theorem dJ1_indexOfChar_4cfef_32 : decode cJ1_indexOfChar_4cfef 32 = .ok (.ireturn, 1) := by decide +kernel
theorem dJ2_getChar_3b067_0 : decode cJ2_getChar_3b067 0 = .ok (.getstatic 44, 3) := by decide +kernel
theorem dJ2_getChar_3b067_3 : decode cJ2_getChar_3b067 3 = .ok (.ifCond .ne 25, 3) := by decide +kernel
theorem dJ2_getChar_3b067_6 : decode cJ2_getChar_3b067 6 = .ok (.iload_n 1, 1) := by decide +kernel
theorem dJ2_getChar_3b067_7 : decode cJ2_getChar_3b067 7 = .ok (.ifCond .lt 11, 3) := by decide +kernel
theorem dJ2_getChar_3b067_10 : decode cJ2_getChar_3b067 10 = .ok (.iload_n 1, 1) := by decide +kernel
theorem dJ2_getChar_3b067_11 : decode cJ2_getChar_3b067 11 = .ok (.aload_n 0, 1) := by decide +kernel
theorem dJ2_getChar_3b067_12 : decode cJ2_getChar_3b067 12 = .ok (.invokestatic 48, 3) := by decide +kernel
theorem dJ2_getChar_3b067_15 : decode cJ2_getChar_3b067 15 = .ok (.if_icmp .lt 13, 3) := by decide +kernel
theorem dJ2_getChar_3b067_18 : decode cJ2_getChar_3b067 18 = .ok (.new 52, 3) := by decide +kernel
theorem dJ2_getChar_3b067_21 : decode cJ2_getChar_3b067 21 = .ok (.dup, 1) := by decide +kernel
theorem dJ2_getChar_3b067_22 : decode cJ2_getChar_3b067 22 = .ok (.ldc 54, 2) := by decide +kernel
theorem dJ2_getChar_3b067_24 : decode cJ2_getChar_3b067 24 = .ok (.invokespecial 56, 3) := by decide +kernel
theorem dJ2_getChar_3b067_27 : decode cJ2_getChar_3b067 27 = .ok (.athrow, 1) := by decide +kernel
theorem dJ2_getChar_3b067_28 : decode cJ2_getChar_3b067 28 = .ok (.iload_n 1, 1) := by decide +kernel
theorem dJ2_getChar_3b067_29 : decode cJ2_getChar_3b067 29 = .ok (.iconst 1, 1) := by decide +kernel
theorem dJ2_getChar_3b067_30 : decode cJ2_getChar_3b067 30 = .ok (.ishl, 1) := by decide +kernel
theorem dJ2_getChar_3b067_31 : decode cJ2_getChar_3b067 31 = .ok (.istore_n 1, 1) := by decide +kernel
theorem dJ2_getChar_3b067_32 : decode cJ2_getChar_3b067 32 = .ok (.aload_n 0, 1) := by decide +kernel
theorem dJ2_getChar_3b067_33 : decode cJ2_getChar_3b067 33 = .ok (.iload_n 1, 1) := by decide +kernel
theorem dJ2_getChar_3b067_34 : decode cJ2_getChar_3b067 34 = .ok (.iinc 1 1, 3) := by decide +kernel
theorem dJ2_getChar_3b067_37 : decode cJ2_getChar_3b067 37 = .ok (.baload, 1) := by decide +kernel
theorem dJ2_getChar_3b067_38 : decode cJ2_getChar_3b067 38 = .ok (.sipush 255, 3) := by decide +kernel
theorem dJ2_getChar_3b067_41 : decode cJ2_getChar_3b067 41 = .ok (.iand, 1) := by decide +kernel
theorem dJ2_getChar_3b067_42 : decode cJ2_getChar_3b067 42 = .ok (.getstatic 59, 3) := by decide +kernel
theorem dJ2_getChar_3b067_45 : decode cJ2_getChar_3b067 45 = .ok (.ishl, 1) := by decide +kernel
theorem dJ2_getChar_3b067_46 : decode cJ2_getChar_3b067 46 = .ok (.aload_n 0, 1) := by decide +kernel
theorem dJ2_getChar_3b067_47 : decode cJ2_getChar_3b067 47 = .ok (.iload_n 1, 1) := by decide +kernel
theorem dJ2_getChar_3b067_48 : decode cJ2_getChar_3b067 48 = .ok (.baload, 1) := by decide +kernel
theorem dJ2_getChar_3b067_49 : decode cJ2_getChar_3b067 49 = .ok (.sipush 255, 3) := by decide +kernel
theorem dJ2_getChar_3b067_52 : decode cJ2_getChar_3b067 52 = .ok (.iand, 1) := by decide +kernel
theorem dJ2_getChar_3b067_53 : decode cJ2_getChar_3b067 53 = .ok (.getstatic 63, 3) := by decide +kernel
theorem dJ2_getChar_3b067_56 : decode cJ2_getChar_3b067 56 = .ok (.ishl, 1) := by decide +kernel
theorem dJ2_getChar_3b067_57 : decode cJ2_getChar_3b067 57 = .ok (.ior, 1) := by decide +kernel
theorem dJ2_getChar_3b067_58 : decode cJ2_getChar_3b067 58 = .ok (.i2c, 1) := by decide +kernel
theorem dJ2_getChar_3b067_59 : decode cJ2_getChar_3b067 59 = .ok (.ireturn, 1) := by decide +kernel
theorem dJ2_length_9d52b_0 : decode cJ2_length_9d52b 0 = .ok (.aload_n 0, 1) := by decide +kernel
theorem dJ2_length_9d52b_1 : decode cJ2_length_9d52b 1 = .ok (.arraylength, 1) := by decide +kernel
theorem dJ2_length_9d52b_2 : decode cJ2_length_9d52b 2 = .ok (.iconst 1, 1) := by decide +kernel
theorem dJ2_length_9d52b_3 : decode cJ2_length_9d52b 3 = .ok (.ishr, 1) := by decide +kernel
theorem dJ2_length_9d52b_4 : decode cJ2_length_9d52b 4 = .ok (.ireturn, 1) := by decide +kernel
theorem dJ2_indexOf_4cfef_0 : decode cJ2_indexOf_4cfef 0 = .ok (.iload_n 2, 1) := by decide +kernel
theorem dJ2_indexOf_4cfef_1 : decode cJ2_indexOf_4cfef 1 = .ok (.iconst 0, 1) := by decide +kernel
theorem dJ2_indexOf_4cfef_2 : decode cJ2_indexOf_4cfef 2 = .ok (.invokestatic 224, 3) := by decide +kernel
theorem dJ2_indexOf_4cfef_5 : decode cJ2_indexOf_4cfef 5 = .ok (.istore_n 2, 1) := by decide +kernel
theorem dJ2_indexOf_4cfef_6 : decode cJ2_indexOf_4cfef 6 = .ok (.iload_n 3, 1) := by decide +kernel
theorem dJ2_indexOf_4cfef_7 : decode cJ2_indexOf_4cfef 7 = .ok (.aload_n 0, 1) := by decide +kernel
theorem dJ2_indexOf_4cfef_8 : decode cJ2_indexOf_4cfef 8 = .ok (.arraylength, 1) := by decide +kernel
theorem dJ2_indexOf_4cfef_9 : decode cJ2_indexOf_4cfef 9 = .ok (.iconst 1, 1) := by decide +kernel
theorem dJ2_indexOf_4cfef_10 : decode cJ2_indexOf_4cfef 10 = .ok (.ishr, 1) := by decide +kernel
theorem dJ2_indexOf_4cfef_11 : decode cJ2_indexOf_4cfef 11 = .ok (.invokestatic 183, 3) := by decide +kernel
theorem dJ2_indexOf_4cfef_14 : decode cJ2_indexOf_4cfef 14 = .ok (.istore_n 3, 1) := by decide +kernel
theorem dJ2_indexOf_4cfef_15 : decode cJ2_indexOf_4cfef 15 = .ok (.iload_n 2, 1) := by decide +kernel
theorem dJ2_indexOf_4cfef_16 : decode cJ2_indexOf_4cfef 16 = .ok (.iload_n 3, 1) := by decide +kernel
theorem dJ2_indexOf_4cfef_17 : decode cJ2_indexOf_4cfef 17 = .ok (.if_icmp .lt 5, 3) := by decide +kernel
theorem dJ2_indexOf_4cfef_20 : decode cJ2_indexOf_4cfef 20 = .ok (.iconst (-1), 1) := by decide +kernel
theorem dJ2_indexOf_4cfef_21 : decode cJ2_indexOf_4cfef 21 = .ok (.ireturn, 1) := by decide +kernel
theorem dJ2_indexOf_4cfef_22 : decode cJ2_indexOf_4cfef 22 = .ok (.iload_n 1, 1) := by decide +kernel
theorem dJ2_indexOf_4cfef_23 : decode cJ2_indexOf_4cfef 23 = .ok (.ldc 227, 2) := by decide +kernel
theorem dJ2_indexOf_4cfef_25 : decode cJ2_indexOf_4cfef 25 = .ok (.if_icmp .ge 11, 3) := by decide +kernel
theorem dJ2_indexOf_4cfef_28 : decode cJ2_indexOf_4cfef 28 = .ok (.aload_n 0, 1) := by decide +kernel
theorem dJ2_indexOf_4cfef_29 : decode cJ2_indexOf_4cfef 29 = .ok (.iload_n 1, 1) := by decide +kernel
theorem dJ2_indexOf_4cfef_30 : decode cJ2_indexOf_4cfef 30 = .ok (.iload_n 2, 1) := by decide +kernel
theorem dJ2_indexOf_4cfef_31 : decode cJ2_indexOf_4cfef 31 = .ok (.iload_n 3, 1) := by decide +kernel
theorem dJ2_indexOf_4cfef_32 : decode cJ2_indexOf_4cfef 32 = .ok (.invokestatic 228, 3) := by decide +kernel
theorem dJ2_indexOf_4cfef_35 : decode cJ2_indexOf_4cfef 35 = .ok (.ireturn, 1) := by decide +kernel
theorem dJ2_indexOf_4cfef_36 : decode cJ2_indexOf_4cfef 36 = .ok (.aload_n 0, 1) := by decide +kernel
theorem dJ2_indexOf_4cfef_37 : decode cJ2_indexOf_4cfef 37 = .ok (.iload_n 1, 1) := by decide +kernel
theorem dJ2_indexOf_4cfef_38 : decode cJ2_indexOf_4cfef 38 = .ok (.iload_n 2, 1) := by decide +kernel
theorem dJ2_indexOf_4cfef_39 : decode cJ2_indexOf_4cfef 39 = .ok (.iload_n 3, 1) := by decide +kernel
theorem dJ2_indexOf_4cfef_40 : decode cJ2_indexOf_4cfef 40 = .ok (.invokestatic 232, 3) := by decide +kernel
theorem dJ2_indexOf_4cfef_43 : decode cJ2_indexOf_4cfef 43 = .ok (.ireturn, 1) := by decide +kernel
theorem dJ2_indexOfChar_4cfef_0 : decode cJ2_indexOfChar_4cfef 0 = .ok (.iload_n 2, 1) := by decide +kernel
theorem dJ2_indexOfChar_4cfef_1 : decode cJ2_indexOfChar_4cfef 1 = .ok (.iload_n 3, 1) := by decide +kernel
theorem dJ2_indexOfChar_4cfef_2 : decode cJ2_indexOfChar_4cfef 2 = .ok (.aload_n 0, 1) := by decide +kernel
theorem dJ2_indexOfChar_4cfef_3 : decode cJ2_indexOfChar_4cfef 3 = .ok (.invokestatic 96, 3) := by decide +kernel
theorem dJ2_indexOfChar_4cfef_6 : decode cJ2_indexOfChar_4cfef 6 = .ok (.aload_n 0, 1) := by decide +kernel
theorem dJ2_indexOfChar_4cfef_7 : decode cJ2_indexOfChar_4cfef 7 = .ok (.iload_n 1, 1) := by decide +kernel
theorem dJ2_indexOfChar_4cfef_8 : decode cJ2_indexOfChar_4cfef 8 = .ok (.iload_n 2, 1) := by decide +kernel
theorem dJ2_indexOfChar_4cfef_9 : decode cJ2_indexOfChar_4cfef 9 = .ok (.iload_n 3, 1) := by decide +kernel
theorem dJ2_indexOfChar_4cfef_10 : decode cJ2_indexOfChar_4cfef 10 = .ok (.invokestatic 244, 3) := by decide +kernel
theorem dJ2_indexOfChar_4cfef_13 : decode cJ2_indexOfChar_4cfef 13 = .ok (.ireturn, 1) := by decide +kernel
theorem dJ2_indexOfCharUnsafe_4cfef_0 : decode cJ2_indexOfCharUnsafe_4cfef 0 = .ok (.iload_n 2, 1) := by decide +kernel
theorem dJ2_indexOfCharUnsafe_4cfef_1 : decode cJ2_indexOfCharUnsafe_4cfef 1 = .ok (.istore 4, 2) := by decide +kernel
theorem dJ2_indexOfCharUnsafe_4cfef_3 : decode cJ2_indexOfCharUnsafe_4cfef 3 = .ok (.iload 4, 2) := by decide +kernel
theorem dJ2_indexOfCharUnsafe_4cfef_5 : decode cJ2_indexOfCharUnsafe_4cfef 5 = .ok (.iload_n 3, 1) := by decide +kernel
theorem dJ2_indexOfCharUnsafe_4cfef_6 : decode cJ2_indexOfCharUnsafe_4cfef 6 = .ok (.if_icmp .ge 22, 3) := by decide +kernel
theorem dJ2_indexOfCharUnsafe_4cfef_9 : decode cJ2_indexOfCharUnsafe_4cfef 9 = .ok (.aload_n 0, 1) := by decide +kernel
theorem dJ2_indexOfCharUnsafe_4cfef_10 : decode cJ2_indexOfCharUnsafe_4cfef 10 = .ok (.iload 4, 2) := by decide +kernel
theorem dJ2_indexOfCharUnsafe_4cfef_12 : decode cJ2_indexOfCharUnsafe_4cfef 12 = .ok (.invokestatic 71, 3) := by decide +kernel
theorem dJ2_indexOfCharUnsafe_4cfef_15 : decode cJ2_indexOfCharUnsafe_4cfef 15 = .ok (.iload_n 1, 1) := by decide +kernel
theorem dJ2_indexOfCharUnsafe_4cfef_16 : decode cJ2_indexOfCharUnsafe_4cfef 16 = .ok (.if_icmp .ne 6, 3) := by decide +kernel
theorem dJ2_indexOfCharUnsafe_4cfef_19 : decode cJ2_indexOfCharUnsafe_4cfef 19 = .ok (.iload 4, 2) := by decide +kernel
theorem dJ2_indexOfCharUnsafe_4cfef_21 : decode cJ2_indexOfCharUnsafe_4cfef 21 = .ok (.ireturn, 1) := by decide +kernel
theorem dJ2_indexOfCharUnsafe_4cfef_22 : decode cJ2_indexOfCharUnsafe_4cfef 22 = .ok (.iinc 4 1, 3) := by decide +kernel
theorem dJ2_indexOfCharUnsafe_4cfef_25 : decode cJ2_indexOfCharUnsafe_4cfef 25 = .ok (.goto (-22), 3) := by decide +kernel
theorem dJ2_indexOfCharUnsafe_4cfef_28 : decode cJ2_indexOfCharUnsafe_4cfef 28 = .ok (.iconst (-1), 1) := by decide +kernel
theorem dJ2_indexOfCharUnsafe_4cfef_29 : decode cJ2_indexOfCharUnsafe_4cfef 29 = .ok (.ireturn, 1) := by decide +kernel
theorem dJ2_indexOfSupplementary_4cfef_0 : decode cJ2_indexOfSupplementary_4cfef 0 = .ok (.iload_n 1, 1) := by decide +kernel
theorem dJ2_indexOfSupplementary_4cfef_1 : decode cJ2_indexOfSupplementary_4cfef 1 = .ok (.invokestatic 164, 3) := by decide +kernel
theorem dJ2_indexOfSupplementary_4cfef_4 : decode cJ2_indexOfSupplementary_4cfef 4 = .ok (.ifCond .eq 65, 3) := by decide +kernel
theorem dJ2_indexOfSupplementary_4cfef_7 : decode cJ2_indexOfSupplementary_4cfef 7 = .ok (.iload_n 1, 1) := by decide +kernel
theorem dJ2_indexOfSupplementary_4cfef_8 : decode cJ2_indexOfSupplementary_4cfef 8 = .ok (.invokestatic 157, 3) := by decide +kernel
theorem dJ2_indexOfSupplementary_4cfef_11 : decode cJ2_indexOfSupplementary_4cfef 11 = .ok (.istore 4, 2) := by decide +kernel
theorem dJ2_indexOfSupplementary_4cfef_13 : decode cJ2_indexOfSupplementary_4cfef 13 = .ok (.iload_n 1, 1) := by decide +kernel
theorem dJ2_indexOfSupplementary_4cfef_14 : decode cJ2_indexOfSupplementary_4cfef 14 = .ok (.invokestatic 161, 3) := by decide +kernel
theorem dJ2_indexOfSupplementary_4cfef_17 : decode cJ2_indexOfSupplementary_4cfef 17 = .ok (.istore 5, 2) := by decide +kernel
theorem dJ2_indexOfSupplementary_4cfef_19 : decode cJ2_indexOfSupplementary_4cfef 19 = .ok (.iload_n 2, 1) := by decide +kernel
theorem dJ2_indexOfSupplementary_4cfef_20 : decode cJ2_indexOfSupplementary_4cfef 20 = .ok (.iload_n 3, 1) := by decide +kernel
theorem dJ2_indexOfSupplementary_4cfef_21 : decode cJ2_indexOfSupplementary_4cfef 21 = .ok (.aload_n 0, 1) := by decide +kernel
theorem dJ2_indexOfSupplementary_4cfef_22 : decode cJ2_indexOfSupplementary_4cfef 22 = .ok (.invokestatic 96, 3) := by decide +kernel
theorem dJ2_indexOfSupplementary_4cfef_25 : decode cJ2_indexOfSupplementary_4cfef 25 = .ok (.iload_n 2, 1) := by decide +kernel
theorem dJ2_indexOfSupplementary_4cfef_26 : decode cJ2_indexOfSupplementary_4cfef 26 = .ok (.istore 6, 2) := by decide +kernel
theorem dJ2_indexOfSupplementary_4cfef_28 : decode cJ2_indexOfSupplementary_4cfef 28 = .ok (.iload 6, 2) := by decide +kernel
theorem dJ2_indexOfSupplementary_4cfef_30 : decode cJ2_indexOfSupplementary_4cfef 30 = .ok (.iload_n 3, 1) := by decide +kernel
theorem dJ2_indexOfSupplementary_4cfef_31 : decode cJ2_indexOfSupplementary_4cfef 31 = .ok (.iconst 1, 1) := by decide +kernel
theorem dJ2_indexOfSupplementary_4cfef_32 : decode cJ2_indexOfSupplementary_4cfef 32 = .ok (.isub, 1) := by decide +kernel
theorem dJ2_indexOfSupplementary_4cfef_33 : decode cJ2_indexOfSupplementary_4cfef 33 = .ok (.if_icmp .ge 36, 3) := by decide +kernel
theorem dJ2_indexOfSupplementary_4cfef_36 : decode cJ2_indexOfSupplementary_4cfef 36 = .ok (.aload_n 0, 1) := by decide +kernel
theorem dJ2_indexOfSupplementary_4cfef_37 : decode cJ2_indexOfSupplementary_4cfef 37 = .ok (.iload 6, 2) := by decide +kernel
theorem dJ2_indexOfSupplementary_4cfef_39 : decode cJ2_indexOfSupplementary_4cfef 39 = .ok (.invokestatic 71, 3) := by decide +kernel
theorem dJ2_indexOfSupplementary_4cfef_42 : decode cJ2_indexOfSupplementary_4cfef 42 = .ok (.iload 4, 2) := by decide +kernel
theorem dJ2_indexOfSupplementary_4cfef_44 : decode cJ2_indexOfSupplementary_4cfef 44 = .ok (.if_icmp .ne 19, 3) := by decide +kernel
theorem dJ2_indexOfSupplementary_4cfef_47 : decode cJ2_indexOfSupplementary_4cfef 47 = .ok (.aload_n 0, 1) := by decide +kernel
theorem dJ2_indexOfSupplementary_4cfef_48 : decode cJ2_indexOfSupplementary_4cfef 48 = .ok (.iload 6, 2) := by decide +kernel
theorem dJ2_indexOfSupplementary_4cfef_50 : decode cJ2_indexOfSupplementary_4cfef 50 = .ok (.iconst 1, 1) := by decide +kernel
theorem dJ2_indexOfSupplementary_4cfef_51 : decode cJ2_indexOfSupplementary_4cfef 51 = .ok (.iadd, 1) := by decide +kernel
theorem dJ2_indexOfSupplementary_4cfef_52 : decode cJ2_indexOfSupplementary_4cfef 52 = .ok (.invokestatic 71, 3) := by decide +kernel
theorem dJ2_indexOfSupplementary_4cfef_55 : decode cJ2_indexOfSupplementary_4cfef 55 = .ok (.iload 5, 2) := by decide +kernel
theorem dJ2_indexOfSupplementary_4cfef_57 : decode cJ2_indexOfSupplementary_4cfef 57 = .ok (.if_icmp .ne 6, 3) := by decide +kernel
theorem dJ2_indexOfSupplementary_4cfef_60 : decode cJ2_indexOfSupplementary_4cfef 60 = .ok (.iload 6, 2) := by decide +kernel
theorem dJ2_indexOfSupplementary_4cfef_62 : decode cJ2_indexOfSupplementary_4cfef 62 = .ok (.ireturn, 1) := by decide +kernel
theorem dJ2_indexOfSupplementary_4cfef_63 : decode cJ2_indexOfSupplementary_4cfef 63 = .ok (.iinc 6 1, 3) := by decide +kernel
theorem dJ2_indexOfSupplementary_4cfef_66 : decode cJ2_indexOfSupplementary_4cfef 66 = .ok (.goto (-38), 3) := by decide +kernel
theorem dJ2_indexOfSupplementary_4cfef_69 : decode cJ2_indexOfSupplementary_4cfef 69 = .ok (.iconst (-1), 1) := by decide +kernel
theorem dJ2_indexOfSupplementary_4cfef_70 : decode cJ2_indexOfSupplementary_4cfef 70 = .ok (.ireturn, 1) := by decide +kernel
theorem dJ2_checkBoundsBeginEnd_d044e_0 : decode cJ2_checkBoundsBeginEnd_d044e 0 = .ok (.iload_n 0, 1) := by decide +kernel
theorem dJ2_checkBoundsBeginEnd_d044e_1 : decode cJ2_checkBoundsBeginEnd_d044e 1 = .ok (.iload_n 1, 1) := by decide +kernel
theorem dJ2_checkBoundsBeginEnd_d044e_2 : decode cJ2_checkBoundsBeginEnd_d044e 2 = .ok (.aload_n 2, 1) := by decide +kernel
theorem dJ2_checkBoundsBeginEnd_d044e_3 : decode cJ2_checkBoundsBeginEnd_d044e 3 = .ok (.invokestatic 48, 3) := by decide +kernel
theorem dJ2_checkBoundsBeginEnd_d044e_6 : decode cJ2_checkBoundsBeginEnd_d044e 6 = .ok (.invokestatic 241, 3) := by decide +kernel
theorem dJ2_checkBoundsBeginEnd_d044e_9 : decode cJ2_checkBoundsBeginEnd_d044e 9 = .ok (.return_, 1) := by decide +kernel
theorem dJ7_fill_d0a16_0 : decode cJ7_fill_d0a16 0 = .ok (.iconst 0, 1) := by decide +kernel
theorem dJ7_fill_d0a16_1 : decode cJ7_fill_d0a16 1 = .ok (.istore_n 3, 1) := by decide +kernel
theorem dJ7_fill_d0a16_2 : decode cJ7_fill_d0a16 2 = .ok (.aload_n 0, 1) := by decide +kernel
theorem dJ7_fill_d0a16_3 : decode cJ7_fill_d0a16 3 = .ok (.arraylength, 1) := by decide +kernel
theorem dJ7_fill_d0a16_4 : decode cJ7_fill_d0a16 4 = .ok (.istore 4, 2) := by decide +kernel
theorem dJ7_fill_d0a16_6 : decode cJ7_fill_d0a16 6 = .ok (.iload_n 3, 1) := by decide +kernel
theorem dJ7_fill_d0a16_7 : decode cJ7_fill_d0a16 7 = .ok (.iload 4, 2) := by decide +kernel
theorem dJ7_fill_d0a16_9 : decode cJ7_fill_d0a16 9 = .ok (.if_icmp .ge 13, 3) := by decide +kernel
theorem dJ7_fill_d0a16_12 : decode cJ7_fill_d0a16 12 = .ok (.aload_n 0, 1) := by decide +kernel
theorem dJ7_fill_d0a16_13 : decode cJ7_fill_d0a16 13 = .ok (.iload_n 3, 1) := by decide +kernel
theorem dJ7_fill_d0a16_14 : decode cJ7_fill_d0a16 14 = .ok (.lload_n 1, 1) := by decide +kernel
theorem dJ7_fill_d0a16_15 : decode cJ7_fill_d0a16 15 = .ok (.lastore, 1) := by decide +kernel
theorem dJ7_fill_d0a16_16 : decode cJ7_fill_d0a16 16 = .ok (.iinc 3 1, 3) := by decide +kernel
theorem dJ7_fill_d0a16_19 : decode cJ7_fill_d0a16 19 = .ok (.goto (-13), 3) := by decide +kernel
theorem dJ7_fill_d0a16_22 : decode cJ7_fill_d0a16 22 = .ok (.return_, 1) := by decide +kernel
theorem dJ7_fill_53178_0 : decode cJ7_fill_53178 0 = .ok (.iconst 0, 1) := by decide +kernel
theorem dJ7_fill_53178_1 : decode cJ7_fill_53178 1 = .ok (.istore_n 2, 1) := by decide +kernel
theorem dJ7_fill_53178_2 : decode cJ7_fill_53178 2 = .ok (.aload_n 0, 1) := by decide +kernel
theorem dJ7_fill_53178_3 : decode cJ7_fill_53178 3 = .ok (.arraylength, 1) := by decide +kernel
theorem dJ7_fill_53178_4 : decode cJ7_fill_53178 4 = .ok (.istore_n 3, 1) := by decide +kernel
theorem dJ7_fill_53178_5 : decode cJ7_fill_53178 5 = .ok (.iload_n 2, 1) := by decide +kernel
theorem dJ7_fill_53178_6 : decode cJ7_fill_53178 6 = .ok (.iload_n 3, 1) := by decide +kernel
theorem dJ7_fill_53178_7 : decode cJ7_fill_53178 7 = .ok (.if_icmp .ge 13, 3) := by decide +kernel
theorem dJ7_fill_53178_10 : decode cJ7_fill_53178 10 = .ok (.aload_n 0, 1) := by decide +kernel
theorem dJ7_fill_53178_11 : decode cJ7_fill_53178 11 = .ok (.iload_n 2, 1) := by decide +kernel
theorem dJ7_fill_53178_12 : decode cJ7_fill_53178 12 = .ok (.iload_n 1, 1) := by decide +kernel
theorem dJ7_fill_53178_13 : decode cJ7_fill_53178 13 = .ok (.iastore, 1) := by decide +kernel
theorem dJ7_fill_53178_14 : decode cJ7_fill_53178 14 = .ok (.iinc 2 1, 3) := by decide +kernel
theorem dJ7_fill_53178_17 : decode cJ7_fill_53178 17 = .ok (.goto (-12), 3) := by decide +kernel
theorem dJ7_fill_53178_20 : decode cJ7_fill_53178 20 = .ok (.return_, 1) := by decide +kernel
theorem dJ3_checkFromToIndex_8c36e_0 : decode cJ3_checkFromToIndex_8c36e 0 = .ok (.iload_n 0, 1) := by decide +kernel
theorem dJ3_checkFromToIndex_8c36e_1 : decode cJ3_checkFromToIndex_8c36e 1 = .ok (.ifCond .lt 13, 3) := by decide +kernel
theorem dJ3_checkFromToIndex_8c36e_4 : decode cJ3_checkFromToIndex_8c36e 4 = .ok (.iload_n 0, 1) := by decide +kernel
theorem dJ3_checkFromToIndex_8c36e_5 : decode cJ3_checkFromToIndex_8c36e 5 = .ok (.iload_n 1, 1) := by decide +kernel
theorem dJ3_checkFromToIndex_8c36e_6 : decode cJ3_checkFromToIndex_8c36e 6 = .ok (.if_icmp .gt 8, 3) := by decide +kernel
theorem dJ3_checkFromToIndex_8c36e_9 : decode cJ3_checkFromToIndex_8c36e 9 = .ok (.iload_n 1, 1) := by decide +kernel
theorem dJ3_checkFromToIndex_8c36e_10 : decode cJ3_checkFromToIndex_8c36e 10 = .ok (.iload_n 2, 1) := by decide +kernel
theorem dJ3_checkFromToIndex_8c36e_11 : decode cJ3_checkFromToIndex_8c36e 11 = .ok (.if_icmp .le 11, 3) := by decide +kernel
theorem dJ3_checkFromToIndex_8c36e_14 : decode cJ3_checkFromToIndex_8c36e 14 = .ok (.aload_n 3, 1) := by decide +kernel
theorem dJ3_checkFromToIndex_8c36e_15 : decode cJ3_checkFromToIndex_8c36e 15 = .ok (.iload_n 0, 1) := by decide +kernel
theorem dJ3_checkFromToIndex_8c36e_16 : decode cJ3_checkFromToIndex_8c36e 16 = .ok (.iload_n 1, 1) := by decide +kernel
theorem dJ3_checkFromToIndex_8c36e_17 : decode cJ3_checkFromToIndex_8c36e 17 = .ok (.iload_n 2, 1) := by decide +kernel
theorem dJ3_checkFromToIndex_8c36e_18 : decode cJ3_checkFromToIndex_8c36e 18 = .ok (.invokestatic 99, 3) := by decide +kernel
theorem dJ3_checkFromToIndex_8c36e_21 : decode cJ3_checkFromToIndex_8c36e 21 = .ok (.athrow, 1) := by decide +kernel
theorem dJ3_checkFromToIndex_8c36e_22 : decode cJ3_checkFromToIndex_8c36e 22 = .ok (.iload_n 0, 1) := by decide +kernel
theorem dJ3_checkFromToIndex_8c36e_23 : decode cJ3_checkFromToIndex_8c36e 23 = .ok (.ireturn, 1) := by decide +kernel
theorem dL_load_0 : decode cL_load 0 = .ok (.aload_n 1, 1) := by decide +kernel
theorem dL_load_1 : decode cL_load 1 = .ok (.iconst 0, 1) := by decide +kernel
theorem dL_load_2 : decode cL_load 2 = .ok (.aload_n 0, 1) := by decide +kernel
theorem dL_load_3 : decode cL_load 3 = .ok (.invokevirtual 7, 3) := by decide +kernel
theorem dL_load_6 : decode cL_load 6 = .ok (.i2l, 1) := by decide +kernel
theorem dL_load_7 : decode cL_load 7 = .ok (.lastore, 1) := by decide +kernel
theorem dL_load_8 : decode cL_load 8 = .ok (.goto 6, 3) := by decide +kernel
theorem dL_load_11 : decode cL_load 11 = .ok (.astore_n 2, 1) := by decide +kernel
theorem dL_load_12 : decode cL_load 12 = .ok (.iconst 1, 1) := by decide +kernel
theorem dL_load_13 : decode cL_load 13 = .ok (.ireturn, 1) := by decide +kernel
theorem dL_load_14 : decode cL_load 14 = .ok (.iconst 0, 1) := by decide +kernel
theorem dL_load_15 : decode cL_load 15 = .ok (.ireturn, 1) := by decide +kernel
theorem dL_add_0 : decode cL_add 0 = .ok (.aload_n 1, 1) := by decide +kernel
theorem dL_add_1 : decode cL_add 1 = .ok (.iconst 0, 1) := by decide +kernel
theorem dL_add_2 : decode cL_add 2 = .ok (.aload_n 0, 1) := by decide +kernel
theorem dL_add_3 : decode cL_add 3 = .ok (.invokevirtual 15, 3) := by decide +kernel
theorem dL_add_6 : decode cL_add 6 = .ok (.i2l, 1) := by decide +kernel
theorem dL_add_7 : decode cL_add 7 = .ok (.lastore, 1) := by decide +kernel
theorem dL_add_8 : decode cL_add 8 = .ok (.goto 6, 3) := by decide +kernel
theorem dL_add_11 : decode cL_add 11 = .ok (.astore_n 2, 1) := by decide +kernel
theorem dL_add_12 : decode cL_add 12 = .ok (.iconst 1, 1) := by decide +kernel
theorem dL_add_13 : decode cL_add 13 = .ok (.ireturn, 1) := by decide +kernel
theorem dL_add_14 : decode cL_add 14 = .ok (.iconst 0, 1) := by decide +kernel
theorem dL_add_15 : decode cL_add 15 = .ok (.ireturn, 1) := by decide +kernel
theorem dL_removeLast_0 : decode cL_removeLast 0 = .ok (.aload_n 1, 1) := by decide +kernel
theorem dL_removeLast_1 : decode cL_removeLast 1 = .ok (.iconst 0, 1) := by decide +kernel
theorem dL_removeLast_2 : decode cL_removeLast 2 = .ok (.aload_n 0, 1) := by decide +kernel
theorem dL_removeLast_3 : decode cL_removeLast 3 = .ok (.invokevirtual 18, 3) := by decide +kernel
theorem dL_removeLast_6 : decode cL_removeLast 6 = .ok (.i2l, 1) := by decide +kernel
theorem dL_removeLast_7 : decode cL_removeLast 7 = .ok (.lastore, 1) := by decide +kernel
theorem dL_removeLast_8 : decode cL_removeLast 8 = .ok (.goto 6, 3) := by decide +kernel
theorem dL_removeLast_11 : decode cL_removeLast 11 = .ok (.astore_n 2, 1) := by decide +kernel
theorem dL_removeLast_12 : decode cL_removeLast 12 = .ok (.iconst 1, 1) := by decide +kernel
theorem dL_removeLast_13 : decode cL_removeLast 13 = .ok (.ireturn, 1) := by decide +kernel
theorem dL_removeLast_14 : decode cL_removeLast 14 = .ok (.iconst 0, 1) := by decide +kernel
theorem dL_removeLast_15 : decode cL_removeLast 15 = .ok (.ireturn, 1) := by decide +kernel
theorem dL_kind_0 : decode cL_kind 0 = .ok (.aload_n 2, 1) := by decide +kernel
theorem dL_kind_1 : decode cL_kind 1 = .ok (.iconst 0, 1) := by decide +kernel
theorem dL_kind_2 : decode cL_kind 2 = .ok (.aload_n 0, 1) := by decide +kernel
theorem dL_kind_3 : decode cL_kind 3 = .ok (.iload_n 1, 1) := by decide +kernel
theorem dL_kind_4 : decode cL_kind 4 = .ok (.invokevirtual 23, 3) := by decide +kernel
theorem dL_kind_7 : decode cL_kind 7 = .ok (.i2l, 1) := by decide +kernel
theorem dL_kind_8 : decode cL_kind 8 = .ok (.lastore, 1) := by decide +kernel
theorem dL_kind_9 : decode cL_kind 9 = .ok (.goto 6, 3) := by decide +kernel
theorem dL_kind_12 : decode cL_kind 12 = .ok (.astore_n 3, 1) := by decide +kernel
theorem dL_kind_13 : decode cL_kind 13 = .ok (.iconst 1, 1) := by decide +kernel
theorem dL_kind_14 : decode cL_kind 14 = .ok (.ireturn, 1) := by decide +kernel
theorem dL_kind_15 : decode cL_kind 15 = .ok (.iconst 0, 1) := by decide +kernel
theorem dL_kind_16 : decode cL_kind 16 = .ok (.ireturn, 1) := by decide +kernel
theorem dL_target_0 : decode cL_target 0 = .ok (.aload_n 2, 1) := by decide +kernel
theorem dL_target_1 : decode cL_target 1 = .ok (.iconst 0, 1) := by decide +kernel
theorem dL_target_2 : decode cL_target 2 = .ok (.aload_n 0, 1) := by decide +kernel
theorem dL_target_3 : decode cL_target 3 = .ok (.iload_n 1, 1) := by decide +kernel
theorem dL_target_4 : decode cL_target 4 = .ok (.invokevirtual 29, 3) := by decide +kernel
theorem dL_target_7 : decode cL_target 7 = .ok (.i2l, 1) := by decide +kernel
theorem dL_target_8 : decode cL_target 8 = .ok (.lastore, 1) := by decide +kernel
theorem dL_target_9 : decode cL_target 9 = .ok (.goto 6, 3) := by decide +kernel
theorem dL_target_12 : decode cL_target 12 = .ok (.astore_n 3, 1) := by decide +kernel
theorem dL_target_13 : decode cL_target 13 = .ok (.iconst 1, 1) := by decide +kernel
theorem dL_target_14 : decode cL_target 14 = .ok (.ireturn, 1) := by decide +kernel
theorem dL_target_15 : decode cL_target 15 = .ok (.iconst 0, 1) := by decide +kernel
theorem dL_target_16 : decode cL_target 16 = .ok (.ireturn, 1) := by decide +kernel
theorem dL_run_0 : decode cL_run 0 = .ok (.aload 4, 2) := by decide +kernel
theorem dL_run_2 : decode cL_run 2 = .ok (.iconst 0, 1) := by decide +kernel
theorem dL_run_3 : decode cL_run 3 = .ok (.aload_n 0, 1) := by decide +kernel
theorem dL_run_4 : decode cL_run 4 = .ok (.iload_n 1, 1) := by decide +kernel
theorem dL_run_5 : decode cL_run 5 = .ok (.iload_n 2, 1) := by decide +kernel
theorem dL_run_6 : decode cL_run 6 = .ok (.iload_n 3, 1) := by decide +kernel
theorem dL_run_7 : decode cL_run 7 = .ok (.invokevirtual 32, 3) := by decide +kernel
theorem dL_run_10 : decode cL_run 10 = .ok (.i2l, 1) := by decide +kernel
theorem dL_run_11 : decode cL_run 11 = .ok (.lastore, 1) := by decide +kernel
theorem dL_run_12 : decode cL_run 12 = .ok (.goto 7, 3) := by decide +kernel
theorem dL_run_15 : decode cL_run 15 = .ok (.astore 5, 2) := by decide +kernel
theorem dL_run_17 : decode cL_run 17 = .ok (.iconst 1, 1) := by decide +kernel
theorem dL_run_18 : decode cL_run 18 = .ok (.ireturn, 1) := by decide +kernel
theorem dL_run_19 : decode cL_run 19 = .ok (.iconst 0, 1) := by decide +kernel
theorem dL_run_20 : decode cL_run 20 = .ok (.ireturn, 1) := by decide +kernel
theorem dL_steps_0 : decode cL_steps 0 = .ok (.aload 4, 2) := by decide +kernel
theorem dL_steps_2 : decode cL_steps 2 = .ok (.iconst 0, 1) := by decide +kernel
theorem dL_steps_3 : decode cL_steps 3 = .ok (.aload_n 0, 1) := by decide +kernel
theorem dL_steps_4 : decode cL_steps 4 = .ok (.iload_n 1, 1) := by decide +kernel
theorem dL_steps_5 : decode cL_steps 5 = .ok (.iload_n 2, 1) := by decide +kernel
theorem dL_steps_6 : decode cL_steps 6 = .ok (.iload_n 3, 1) := by decide +kernel
theorem dL_steps_7 : decode cL_steps 7 = .ok (.invokevirtual 36, 3) := by decide +kernel
theorem dL_steps_10 : decode cL_steps 10 = .ok (.i2l, 1) := by decide +kernel
theorem dL_steps_11 : decode cL_steps 11 = .ok (.lastore, 1) := by decide +kernel
theorem dL_steps_12 : decode cL_steps 12 = .ok (.goto 7, 3) := by decide +kernel
theorem dL_steps_15 : decode cL_steps 15 = .ok (.astore 5, 2) := by decide +kernel
theorem dL_steps_17 : decode cL_steps 17 = .ok (.iconst 1, 1) := by decide +kernel
theorem dL_steps_18 : decode cL_steps 18 = .ok (.ireturn, 1) := by decide +kernel
theorem dL_steps_19 : decode cL_steps 19 = .ok (.iconst 0, 1) := by decide +kernel
theorem dL_steps_20 : decode cL_steps 20 = .ok (.ireturn, 1) := by decide +kernel
theorem dL_demand_0 : decode cL_demand 0 = .ok (.aload_n 2, 1) := by decide +kernel
theorem dL_demand_1 : decode cL_demand 1 = .ok (.iconst 0, 1) := by decide +kernel
theorem dL_demand_2 : decode cL_demand 2 = .ok (.aload_n 0, 1) := by decide +kernel
theorem dL_demand_3 : decode cL_demand 3 = .ok (.iload_n 1, 1) := by decide +kernel
theorem dL_demand_4 : decode cL_demand 4 = .ok (.invokevirtual 39, 3) := by decide +kernel
theorem dL_demand_7 : decode cL_demand 7 = .ok (.i2l, 1) := by decide +kernel
theorem dL_demand_8 : decode cL_demand 8 = .ok (.lastore, 1) := by decide +kernel
theorem dL_demand_9 : decode cL_demand 9 = .ok (.goto 6, 3) := by decide +kernel
theorem dL_demand_12 : decode cL_demand 12 = .ok (.astore_n 3, 1) := by decide +kernel
theorem dL_demand_13 : decode cL_demand 13 = .ok (.iconst 1, 1) := by decide +kernel
theorem dL_demand_14 : decode cL_demand 14 = .ok (.ireturn, 1) := by decide +kernel
theorem dL_demand_15 : decode cL_demand 15 = .ok (.iconst 0, 1) := by decide +kernel
theorem dL_demand_16 : decode cL_demand 16 = .ok (.ireturn, 1) := by decide +kernel
theorem dL_demands_0 : decode cL_demands 0 = .ok (.aload 5, 2) := by decide +kernel
theorem dL_demands_2 : decode cL_demands 2 = .ok (.iconst 0, 1) := by decide +kernel
theorem dL_demands_3 : decode cL_demands 3 = .ok (.aload_n 0, 1) := by decide +kernel
theorem dL_demands_4 : decode cL_demands 4 = .ok (.iload_n 1, 1) := by decide +kernel
theorem dL_demands_5 : decode cL_demands 5 = .ok (.iload_n 2, 1) := by decide +kernel
theorem dL_demands_6 : decode cL_demands 6 = .ok (.iload_n 3, 1) := by decide +kernel
theorem dL_demands_7 : decode cL_demands 7 = .ok (.iload 4, 2) := by decide +kernel
theorem dL_demands_9 : decode cL_demands 9 = .ok (.invokevirtual 42, 3) := by decide +kernel
theorem dL_demands_12 : decode cL_demands 12 = .ok (.ifCond .eq 7, 3) := by decide +kernel
theorem dL_demands_15 : decode cL_demands 15 = .ok (.lconst 1, 1) := by decide +kernel
theorem dL_demands_16 : decode cL_demands 16 = .ok (.goto 4, 3) := by decide +kernel
theorem dL_demands_19 : decode cL_demands 19 = .ok (.lconst 0, 1) := by decide +kernel
theorem dL_demands_20 : decode cL_demands 20 = .ok (.lastore, 1) := by decide +kernel
theorem dL_demands_21 : decode cL_demands 21 = .ok (.goto 11, 3) := by decide +kernel
theorem dL_demands_24 : decode cL_demands 24 = .ok (.astore 6, 2) := by decide +kernel
theorem dL_demands_26 : decode cL_demands 26 = .ok (.iconst 1, 1) := by decide +kernel
theorem dL_demands_27 : decode cL_demands 27 = .ok (.ireturn, 1) := by decide +kernel
theorem dL_demands_28 : decode cL_demands 28 = .ok (.astore 6, 2) := by decide +kernel
theorem dL_demands_30 : decode cL_demands 30 = .ok (.iconst 2, 1) := by decide +kernel
theorem dL_demands_31 : decode cL_demands 31 = .ok (.ireturn, 1) := by decide +kernel
theorem dL_demands_32 : decode cL_demands 32 = .ok (.iconst 0, 1) := by decide +kernel
theorem dL_demands_33 : decode cL_demands 33 = .ok (.ireturn, 1) := by decide +kernel
theorem dL_assume_0 : decode cL_assume 0 = .ok (.aload 4, 2) := by decide +kernel
theorem dL_assume_2 : decode cL_assume 2 = .ok (.iconst 0, 1) := by decide +kernel
theorem dL_assume_3 : decode cL_assume 3 = .ok (.aload_n 0, 1) := by decide +kernel
theorem dL_assume_4 : decode cL_assume 4 = .ok (.iload_n 1, 1) := by decide +kernel
theorem dL_assume_5 : decode cL_assume 5 = .ok (.iload_n 2, 1) := by decide +kernel
theorem dL_assume_6 : decode cL_assume 6 = .ok (.iload_n 3, 1) := by decide +kernel
theorem dL_assume_7 : decode cL_assume 7 = .ok (.invokevirtual 46, 3) := by decide +kernel
theorem dL_assume_10 : decode cL_assume 10 = .ok (.i2l, 1) := by decide +kernel
theorem dL_assume_11 : decode cL_assume 11 = .ok (.lastore, 1) := by decide +kernel
theorem dL_assume_12 : decode cL_assume 12 = .ok (.goto 11, 3) := by decide +kernel
theorem dL_assume_15 : decode cL_assume 15 = .ok (.astore 5, 2) := by decide +kernel
theorem dL_assume_17 : decode cL_assume 17 = .ok (.iconst 1, 1) := by decide +kernel
theorem dL_assume_18 : decode cL_assume 18 = .ok (.ireturn, 1) := by decide +kernel
theorem dL_assume_19 : decode cL_assume 19 = .ok (.astore 5, 2) := by decide +kernel
theorem dL_assume_21 : decode cL_assume 21 = .ok (.iconst 2, 1) := by decide +kernel
theorem dL_assume_22 : decode cL_assume 22 = .ok (.ireturn, 1) := by decide +kernel
theorem dL_assume_23 : decode cL_assume 23 = .ok (.iconst 0, 1) := by decide +kernel
theorem dL_assume_24 : decode cL_assume 24 = .ok (.ireturn, 1) := by decide +kernel
theorem dL_verdict_0 : decode cL_verdict 0 = .ok (.aload_n 2, 1) := by decide +kernel
theorem dL_verdict_1 : decode cL_verdict 1 = .ok (.iconst 0, 1) := by decide +kernel
theorem dL_verdict_2 : decode cL_verdict 2 = .ok (.aload_n 0, 1) := by decide +kernel
theorem dL_verdict_3 : decode cL_verdict 3 = .ok (.iload_n 1, 1) := by decide +kernel
theorem dL_verdict_4 : decode cL_verdict 4 = .ok (.invokevirtual 49, 3) := by decide +kernel
theorem dL_verdict_7 : decode cL_verdict 7 = .ok (.i2l, 1) := by decide +kernel
theorem dL_verdict_8 : decode cL_verdict 8 = .ok (.lastore, 1) := by decide +kernel
theorem dL_verdict_9 : decode cL_verdict 9 = .ok (.goto 6, 3) := by decide +kernel
theorem dL_verdict_12 : decode cL_verdict 12 = .ok (.astore_n 3, 1) := by decide +kernel
theorem dL_verdict_13 : decode cL_verdict 13 = .ok (.iconst 1, 1) := by decide +kernel
theorem dL_verdict_14 : decode cL_verdict 14 = .ok (.ireturn, 1) := by decide +kernel
theorem dL_verdict_15 : decode cL_verdict 15 = .ok (.iconst 0, 1) := by decide +kernel
theorem dL_verdict_16 : decode cL_verdict 16 = .ok (.ireturn, 1) := by decide +kernel
theorem dL_example_0 : decode cL_example 0 = .ok (.aload_n 2, 1) := by decide +kernel
theorem dL_example_1 : decode cL_example 1 = .ok (.iconst 0, 1) := by decide +kernel
theorem dL_example_2 : decode cL_example 2 = .ok (.aload_n 0, 1) := by decide +kernel
theorem dL_example_3 : decode cL_example 3 = .ok (.iload_n 1, 1) := by decide +kernel
theorem dL_example_4 : decode cL_example 4 = .ok (.invokevirtual 52, 3) := by decide +kernel
theorem dL_example_7 : decode cL_example 7 = .ok (.i2l, 1) := by decide +kernel
theorem dL_example_8 : decode cL_example 8 = .ok (.lastore, 1) := by decide +kernel
theorem dL_example_9 : decode cL_example 9 = .ok (.goto 6, 3) := by decide +kernel
theorem dL_example_12 : decode cL_example 12 = .ok (.astore_n 3, 1) := by decide +kernel
theorem dL_example_13 : decode cL_example 13 = .ok (.iconst 1, 1) := by decide +kernel
theorem dL_example_14 : decode cL_example 14 = .ok (.ireturn, 1) := by decide +kernel
theorem dL_example_15 : decode cL_example 15 = .ok (.iconst 0, 1) := by decide +kernel
theorem dL_example_16 : decode cL_example 16 = .ok (.ireturn, 1) := by decide +kernel
theorem dL_least_0 : decode cL_least 0 = .ok (.aload_n 3, 1) := by decide +kernel
theorem dL_least_1 : decode cL_least 1 = .ok (.iconst 0, 1) := by decide +kernel
theorem dL_least_2 : decode cL_least 2 = .ok (.aload_n 0, 1) := by decide +kernel
theorem dL_least_3 : decode cL_least 3 = .ok (.iload_n 1, 1) := by decide +kernel
theorem dL_least_4 : decode cL_least 4 = .ok (.iload_n 2, 1) := by decide +kernel
theorem dL_least_5 : decode cL_least 5 = .ok (.invokevirtual 55, 3) := by decide +kernel
theorem dL_least_8 : decode cL_least 8 = .ok (.i2l, 1) := by decide +kernel
theorem dL_least_9 : decode cL_least 9 = .ok (.lastore, 1) := by decide +kernel
theorem dL_least_10 : decode cL_least 10 = .ok (.goto 7, 3) := by decide +kernel
theorem dL_least_13 : decode cL_least 13 = .ok (.astore 4, 2) := by decide +kernel
theorem dL_least_15 : decode cL_least 15 = .ok (.iconst 1, 1) := by decide +kernel
theorem dL_least_16 : decode cL_least 16 = .ok (.ireturn, 1) := by decide +kernel
theorem dL_least_17 : decode cL_least 17 = .ok (.iconst 0, 1) := by decide +kernel
theorem dL_least_18 : decode cL_least 18 = .ok (.ireturn, 1) := by decide +kernel
theorem dL_greatest_0 : decode cL_greatest 0 = .ok (.aload_n 3, 1) := by decide +kernel
theorem dL_greatest_1 : decode cL_greatest 1 = .ok (.iconst 0, 1) := by decide +kernel
theorem dL_greatest_2 : decode cL_greatest 2 = .ok (.aload_n 0, 1) := by decide +kernel
theorem dL_greatest_3 : decode cL_greatest 3 = .ok (.iload_n 1, 1) := by decide +kernel
theorem dL_greatest_4 : decode cL_greatest 4 = .ok (.iload_n 2, 1) := by decide +kernel
theorem dL_greatest_5 : decode cL_greatest 5 = .ok (.invokevirtual 59, 3) := by decide +kernel
theorem dL_greatest_8 : decode cL_greatest 8 = .ok (.i2l, 1) := by decide +kernel
theorem dL_greatest_9 : decode cL_greatest 9 = .ok (.lastore, 1) := by decide +kernel
theorem dL_greatest_10 : decode cL_greatest 10 = .ok (.goto 7, 3) := by decide +kernel
theorem dL_greatest_13 : decode cL_greatest 13 = .ok (.astore 4, 2) := by decide +kernel
theorem dL_greatest_15 : decode cL_greatest 15 = .ok (.iconst 1, 1) := by decide +kernel
theorem dL_greatest_16 : decode cL_greatest 16 = .ok (.ireturn, 1) := by decide +kernel
theorem dL_greatest_17 : decode cL_greatest 17 = .ok (.iconst 0, 1) := by decide +kernel
theorem dL_greatest_18 : decode cL_greatest 18 = .ok (.ireturn, 1) := by decide +kernel
theorem dL_widest_0 : decode cL_widest 0 = .ok (.aload_n 2, 1) := by decide +kernel
theorem dL_widest_1 : decode cL_widest 1 = .ok (.iconst 0, 1) := by decide +kernel
theorem dL_widest_2 : decode cL_widest 2 = .ok (.aload_n 0, 1) := by decide +kernel
theorem dL_widest_3 : decode cL_widest 3 = .ok (.iload_n 1, 1) := by decide +kernel
theorem dL_widest_4 : decode cL_widest 4 = .ok (.invokevirtual 62, 3) := by decide +kernel
theorem dL_widest_7 : decode cL_widest 7 = .ok (.i2l, 1) := by decide +kernel
theorem dL_widest_8 : decode cL_widest 8 = .ok (.lastore, 1) := by decide +kernel
theorem dL_widest_9 : decode cL_widest 9 = .ok (.goto 6, 3) := by decide +kernel
theorem dL_widest_12 : decode cL_widest 12 = .ok (.astore_n 3, 1) := by decide +kernel
theorem dL_widest_13 : decode cL_widest 13 = .ok (.iconst 1, 1) := by decide +kernel
theorem dL_widest_14 : decode cL_widest 14 = .ok (.ireturn, 1) := by decide +kernel
theorem dL_widest_15 : decode cL_widest 15 = .ok (.iconst 0, 1) := by decide +kernel
theorem dL_widest_16 : decode cL_widest 16 = .ok (.ireturn, 1) := by decide +kernel
theorem dL_append_0 : decode cL_append 0 = .ok (.aload_n 2, 1) := by decide +kernel
theorem dL_append_1 : decode cL_append 1 = .ok (.iconst 0, 1) := by decide +kernel
theorem dL_append_2 : decode cL_append 2 = .ok (.aload_n 0, 1) := by decide +kernel
theorem dL_append_3 : decode cL_append 3 = .ok (.iload_n 1, 1) := by decide +kernel
theorem dL_append_4 : decode cL_append 4 = .ok (.invokevirtual 65, 3) := by decide +kernel
theorem dL_append_7 : decode cL_append 7 = .ok (.i2l, 1) := by decide +kernel
theorem dL_append_8 : decode cL_append 8 = .ok (.lastore, 1) := by decide +kernel
theorem dL_append_9 : decode cL_append 9 = .ok (.goto 9, 3) := by decide +kernel
theorem dL_append_12 : decode cL_append 12 = .ok (.astore_n 3, 1) := by decide +kernel
theorem dL_append_13 : decode cL_append 13 = .ok (.iconst 1, 1) := by decide +kernel
theorem dL_append_14 : decode cL_append 14 = .ok (.ireturn, 1) := by decide +kernel
theorem dL_append_15 : decode cL_append 15 = .ok (.astore_n 3, 1) := by decide +kernel
theorem dL_append_16 : decode cL_append 16 = .ok (.iconst 2, 1) := by decide +kernel
theorem dL_append_17 : decode cL_append 17 = .ok (.ireturn, 1) := by decide +kernel
theorem dL_append_18 : decode cL_append 18 = .ok (.iconst 0, 1) := by decide +kernel
theorem dL_append_19 : decode cL_append 19 = .ok (.ireturn, 1) := by decide +kernel
theorem dL_undo_0 : decode cL_undo 0 = .ok (.aload_n 1, 1) := by decide +kernel
theorem dL_undo_1 : decode cL_undo 1 = .ok (.iconst 0, 1) := by decide +kernel
theorem dL_undo_2 : decode cL_undo 2 = .ok (.aload_n 0, 1) := by decide +kernel
theorem dL_undo_3 : decode cL_undo 3 = .ok (.invokevirtual 68, 3) := by decide +kernel
theorem dL_undo_6 : decode cL_undo 6 = .ok (.i2l, 1) := by decide +kernel
theorem dL_undo_7 : decode cL_undo 7 = .ok (.lastore, 1) := by decide +kernel
theorem dL_undo_8 : decode cL_undo 8 = .ok (.goto 6, 3) := by decide +kernel
theorem dL_undo_11 : decode cL_undo 11 = .ok (.astore_n 2, 1) := by decide +kernel
theorem dL_undo_12 : decode cL_undo 12 = .ok (.iconst 1, 1) := by decide +kernel
theorem dL_undo_13 : decode cL_undo 13 = .ok (.ireturn, 1) := by decide +kernel
theorem dL_undo_14 : decode cL_undo 14 = .ok (.iconst 0, 1) := by decide +kernel
theorem dL_undo_15 : decode cL_undo 15 = .ok (.ireturn, 1) := by decide +kernel
theorem dL_law_0 : decode cL_law 0 = .ok (.new 8, 3) := by decide +kernel
theorem dL_law_3 : decode cL_law 3 = .ok (.dup, 1) := by decide +kernel
theorem dL_law_4 : decode cL_law 4 = .ok (.invokespecial 71, 3) := by decide +kernel
theorem dL_law_7 : decode cL_law 7 = .ok (.astore_n 1, 1) := by decide +kernel
theorem dL_law_8 : decode cL_law 8 = .ok (.new 72, 3) := by decide +kernel
theorem dL_law_11 : decode cL_law 11 = .ok (.dup, 1) := by decide +kernel
theorem dL_law_12 : decode cL_law 12 = .ok (.invokespecial 74, 3) := by decide +kernel
theorem dL_law_15 : decode cL_law 15 = .ok (.astore_n 2, 1) := by decide +kernel
theorem dL_law_16 : decode cL_law 16 = .ok (.iconst 1, 1) := by decide +kernel
theorem dL_law_17 : decode cL_law 17 = .ok (.newarray .long, 2) := by decide +kernel
theorem dL_law_19 : decode cL_law 19 = .ok (.astore_n 3, 1) := by decide +kernel
theorem dL_law_20 : decode cL_law 20 = .ok (.iconst 0, 1) := by decide +kernel
theorem dL_law_21 : decode cL_law 21 = .ok (.istore 4, 2) := by decide +kernel
theorem dL_law_23 : decode cL_law 23 = .ok (.iload 4, 2) := by decide +kernel
theorem dL_law_25 : decode cL_law 25 = .ok (.aload_n 0, 1) := by decide +kernel
theorem dL_law_26 : decode cL_law 26 = .ok (.arraylength, 1) := by decide +kernel
theorem dL_law_27 : decode cL_law 27 = .ok (.iconst 5, 1) := by decide +kernel
theorem dL_law_28 : decode cL_law 28 = .ok (.isub, 1) := by decide +kernel
theorem dL_law_29 : decode cL_law 29 = .ok (.if_icmp .gt 1305, 3) := by decide +kernel
theorem dL_law_32 : decode cL_law 32 = .ok (.aload_n 0, 1) := by decide +kernel
theorem dL_law_33 : decode cL_law 33 = .ok (.iload 4, 2) := by decide +kernel
theorem dL_law_35 : decode cL_law 35 = .ok (.iaload, 1) := by decide +kernel
theorem dL_law_36 : decode cL_law 36 = .ok (.bipush 31, 2) := by decide +kernel
theorem dL_law_38 : decode cL_law 38 = .ok (.iand, 1) := by decide +kernel
theorem dL_law_39 : decode cL_law 39 = .ok (.tableswitch 1289 0 24 #[113, 157, 201, 245, 258, 314, 370, 450, 530, 586, 685, 765, 821, 877, 890, 903, 944, 1012, 1080, 1136, 1192, 1205, 1218, 1262, 1275], 113) := by decide +kernel
theorem dL_law_152 : decode cL_law 152 = .ok (.aload_n 1, 1) := by decide +kernel
theorem dL_law_153 : decode cL_law 153 = .ok (.aload_n 3, 1) := by decide +kernel
theorem dL_law_154 : decode cL_law 154 = .ok (.invokestatic 75, 3) := by decide +kernel
theorem dL_law_157 : decode cL_law 157 = .ok (.istore 5, 2) := by decide +kernel
theorem dL_law_159 : decode cL_law 159 = .ok (.aload_n 2, 1) := by decide +kernel
theorem dL_law_160 : decode cL_law 160 = .ok (.invokevirtual 80, 3) := by decide +kernel
theorem dL_law_163 : decode cL_law 163 = .ok (.istore 6, 2) := by decide +kernel
theorem dL_law_165 : decode cL_law 165 = .ok (.aload_n 2, 1) := by decide +kernel
theorem dL_law_166 : decode cL_law 166 = .ok (.invokevirtual 81, 3) := by decide +kernel
theorem dL_law_169 : decode cL_law 169 = .ok (.iload 5, 2) := by decide +kernel
theorem dL_law_171 : decode cL_law 171 = .ok (.if_icmp .eq 5, 3) := by decide +kernel
theorem dL_law_174 : decode cL_law 174 = .ok (.iconst 0, 1) := by decide +kernel
theorem dL_law_175 : decode cL_law 175 = .ok (.ireturn, 1) := by decide +kernel
theorem dL_law_176 : decode cL_law 176 = .ok (.iload 5, 2) := by decide +kernel
theorem dL_law_178 : decode cL_law 178 = .ok (.ifCond .ne 15, 3) := by decide +kernel
theorem dL_law_181 : decode cL_law 181 = .ok (.aload_n 3, 1) := by decide +kernel
theorem dL_law_182 : decode cL_law 182 = .ok (.iconst 0, 1) := by decide +kernel
theorem dL_law_183 : decode cL_law 183 = .ok (.laload, 1) := by decide +kernel
theorem dL_law_184 : decode cL_law 184 = .ok (.iload 6, 2) := by decide +kernel
theorem dL_law_186 : decode cL_law 186 = .ok (.i2l, 1) := by decide +kernel
theorem dL_law_187 : decode cL_law 187 = .ok (.lcmp, 1) := by decide +kernel
theorem dL_law_188 : decode cL_law 188 = .ok (.ifCond .eq 5, 3) := by decide +kernel
theorem dL_law_191 : decode cL_law 191 = .ok (.iconst 0, 1) := by decide +kernel
theorem dL_law_192 : decode cL_law 192 = .ok (.ireturn, 1) := by decide +kernel
theorem dL_law_193 : decode cL_law 193 = .ok (.goto 1135, 3) := by decide +kernel
theorem dL_law_196 : decode cL_law 196 = .ok (.aload_n 1, 1) := by decide +kernel
theorem dL_law_197 : decode cL_law 197 = .ok (.aload_n 3, 1) := by decide +kernel
theorem dL_law_198 : decode cL_law 198 = .ok (.invokestatic 84, 3) := by decide +kernel
theorem dL_law_201 : decode cL_law 201 = .ok (.istore 5, 2) := by decide +kernel
theorem dL_law_203 : decode cL_law 203 = .ok (.aload_n 2, 1) := by decide +kernel
theorem dL_law_204 : decode cL_law 204 = .ok (.invokevirtual 86, 3) := by decide +kernel
theorem dL_law_207 : decode cL_law 207 = .ok (.istore 6, 2) := by decide +kernel
theorem dL_law_209 : decode cL_law 209 = .ok (.aload_n 2, 1) := by decide +kernel
theorem dL_law_210 : decode cL_law 210 = .ok (.invokevirtual 81, 3) := by decide +kernel
theorem dL_law_213 : decode cL_law 213 = .ok (.iload 5, 2) := by decide +kernel
theorem dL_law_215 : decode cL_law 215 = .ok (.if_icmp .eq 5, 3) := by decide +kernel
theorem dL_law_218 : decode cL_law 218 = .ok (.iconst 0, 1) := by decide +kernel
theorem dL_law_219 : decode cL_law 219 = .ok (.ireturn, 1) := by decide +kernel
theorem dL_law_220 : decode cL_law 220 = .ok (.iload 5, 2) := by decide +kernel
theorem dL_law_222 : decode cL_law 222 = .ok (.ifCond .ne 15, 3) := by decide +kernel
theorem dL_law_225 : decode cL_law 225 = .ok (.aload_n 3, 1) := by decide +kernel
theorem dL_law_226 : decode cL_law 226 = .ok (.iconst 0, 1) := by decide +kernel
theorem dL_law_227 : decode cL_law 227 = .ok (.laload, 1) := by decide +kernel
theorem dL_law_228 : decode cL_law 228 = .ok (.iload 6, 2) := by decide +kernel
theorem dL_law_230 : decode cL_law 230 = .ok (.i2l, 1) := by decide +kernel
theorem dL_law_231 : decode cL_law 231 = .ok (.lcmp, 1) := by decide +kernel
theorem dL_law_232 : decode cL_law 232 = .ok (.ifCond .eq 5, 3) := by decide +kernel
theorem dL_law_235 : decode cL_law 235 = .ok (.iconst 0, 1) := by decide +kernel
theorem dL_law_236 : decode cL_law 236 = .ok (.ireturn, 1) := by decide +kernel
theorem dL_law_237 : decode cL_law 237 = .ok (.goto 1091, 3) := by decide +kernel
theorem dL_law_240 : decode cL_law 240 = .ok (.aload_n 1, 1) := by decide +kernel
theorem dL_law_241 : decode cL_law 241 = .ok (.aload_n 3, 1) := by decide +kernel
theorem dL_law_242 : decode cL_law 242 = .ok (.invokestatic 87, 3) := by decide +kernel
theorem dL_law_245 : decode cL_law 245 = .ok (.istore 5, 2) := by decide +kernel
theorem dL_law_247 : decode cL_law 247 = .ok (.aload_n 2, 1) := by decide +kernel
theorem dL_law_248 : decode cL_law 248 = .ok (.invokevirtual 89, 3) := by decide +kernel
theorem dL_law_251 : decode cL_law 251 = .ok (.istore 6, 2) := by decide +kernel
theorem dL_law_253 : decode cL_law 253 = .ok (.aload_n 2, 1) := by decide +kernel
theorem dL_law_254 : decode cL_law 254 = .ok (.invokevirtual 81, 3) := by decide +kernel
theorem dL_law_257 : decode cL_law 257 = .ok (.iload 5, 2) := by decide +kernel
theorem dL_law_259 : decode cL_law 259 = .ok (.if_icmp .eq 5, 3) := by decide +kernel
theorem dL_law_262 : decode cL_law 262 = .ok (.iconst 0, 1) := by decide +kernel
theorem dL_law_263 : decode cL_law 263 = .ok (.ireturn, 1) := by decide +kernel
theorem dL_law_264 : decode cL_law 264 = .ok (.iload 5, 2) := by decide +kernel
theorem dL_law_266 : decode cL_law 266 = .ok (.ifCond .ne 15, 3) := by decide +kernel
theorem dL_law_269 : decode cL_law 269 = .ok (.aload_n 3, 1) := by decide +kernel
theorem dL_law_270 : decode cL_law 270 = .ok (.iconst 0, 1) := by decide +kernel
theorem dL_law_271 : decode cL_law 271 = .ok (.laload, 1) := by decide +kernel
theorem dL_law_272 : decode cL_law 272 = .ok (.iload 6, 2) := by decide +kernel
theorem dL_law_274 : decode cL_law 274 = .ok (.i2l, 1) := by decide +kernel
theorem dL_law_275 : decode cL_law 275 = .ok (.lcmp, 1) := by decide +kernel
theorem dL_law_276 : decode cL_law 276 = .ok (.ifCond .eq 5, 3) := by decide +kernel
theorem dL_law_279 : decode cL_law 279 = .ok (.iconst 0, 1) := by decide +kernel
theorem dL_law_280 : decode cL_law 280 = .ok (.ireturn, 1) := by decide +kernel
theorem dL_law_281 : decode cL_law 281 = .ok (.goto 1047, 3) := by decide +kernel
theorem dL_law_284 : decode cL_law 284 = .ok (.aload_n 1, 1) := by decide +kernel
theorem dL_law_285 : decode cL_law 285 = .ok (.invokevirtual 90, 3) := by decide +kernel
theorem dL_law_288 : decode cL_law 288 = .ok (.aload_n 2, 1) := by decide +kernel
theorem dL_law_289 : decode cL_law 289 = .ok (.invokevirtual 93, 3) := by decide +kernel
theorem dL_law_292 : decode cL_law 292 = .ok (.if_icmp .eq 1036, 3) := by decide +kernel
theorem dL_law_295 : decode cL_law 295 = .ok (.iconst 0, 1) := by decide +kernel
theorem dL_law_296 : decode cL_law 296 = .ok (.ireturn, 1) := by decide +kernel
theorem dL_law_297 : decode cL_law 297 = .ok (.aload_n 1, 1) := by decide +kernel
theorem dL_law_298 : decode cL_law 298 = .ok (.aload_n 0, 1) := by decide +kernel
theorem dL_law_299 : decode cL_law 299 = .ok (.iload 4, 2) := by decide +kernel
theorem dL_law_301 : decode cL_law 301 = .ok (.iconst 1, 1) := by decide +kernel
theorem dL_law_302 : decode cL_law 302 = .ok (.iadd, 1) := by decide +kernel
theorem dL_law_303 : decode cL_law 303 = .ok (.iaload, 1) := by decide +kernel
theorem dL_law_304 : decode cL_law 304 = .ok (.aload_n 3, 1) := by decide +kernel
theorem dL_law_305 : decode cL_law 305 = .ok (.invokestatic 94, 3) := by decide +kernel
theorem dL_law_308 : decode cL_law 308 = .ok (.istore 5, 2) := by decide +kernel
theorem dL_law_310 : decode cL_law 310 = .ok (.aload_n 2, 1) := by decide +kernel
theorem dL_law_311 : decode cL_law 311 = .ok (.aload_n 0, 1) := by decide +kernel
theorem dL_law_312 : decode cL_law 312 = .ok (.iload 4, 2) := by decide +kernel
theorem dL_law_314 : decode cL_law 314 = .ok (.iconst 1, 1) := by decide +kernel
theorem dL_law_315 : decode cL_law 315 = .ok (.iadd, 1) := by decide +kernel
theorem dL_law_316 : decode cL_law 316 = .ok (.iaload, 1) := by decide +kernel
theorem dL_law_317 : decode cL_law 317 = .ok (.invokevirtual 97, 3) := by decide +kernel
theorem dL_law_320 : decode cL_law 320 = .ok (.istore 6, 2) := by decide +kernel
theorem dL_law_322 : decode cL_law 322 = .ok (.aload_n 2, 1) := by decide +kernel
theorem dL_law_323 : decode cL_law 323 = .ok (.invokevirtual 81, 3) := by decide +kernel
theorem dL_law_326 : decode cL_law 326 = .ok (.iload 5, 2) := by decide +kernel
theorem dL_law_328 : decode cL_law 328 = .ok (.if_icmp .eq 5, 3) := by decide +kernel
theorem dL_law_331 : decode cL_law 331 = .ok (.iconst 0, 1) := by decide +kernel
theorem dL_law_332 : decode cL_law 332 = .ok (.ireturn, 1) := by decide +kernel
theorem dL_law_333 : decode cL_law 333 = .ok (.iload 5, 2) := by decide +kernel
theorem dL_law_335 : decode cL_law 335 = .ok (.ifCond .ne 15, 3) := by decide +kernel
theorem dL_law_338 : decode cL_law 338 = .ok (.aload_n 3, 1) := by decide +kernel
theorem dL_law_339 : decode cL_law 339 = .ok (.iconst 0, 1) := by decide +kernel
theorem dL_law_340 : decode cL_law 340 = .ok (.laload, 1) := by decide +kernel
theorem dL_law_341 : decode cL_law 341 = .ok (.iload 6, 2) := by decide +kernel
theorem dL_law_343 : decode cL_law 343 = .ok (.i2l, 1) := by decide +kernel
theorem dL_law_344 : decode cL_law 344 = .ok (.lcmp, 1) := by decide +kernel
theorem dL_law_345 : decode cL_law 345 = .ok (.ifCond .eq 5, 3) := by decide +kernel
theorem dL_law_348 : decode cL_law 348 = .ok (.iconst 0, 1) := by decide +kernel
theorem dL_law_349 : decode cL_law 349 = .ok (.ireturn, 1) := by decide +kernel
theorem dL_law_350 : decode cL_law 350 = .ok (.goto 978, 3) := by decide +kernel
theorem dL_law_353 : decode cL_law 353 = .ok (.aload_n 1, 1) := by decide +kernel
theorem dL_law_354 : decode cL_law 354 = .ok (.aload_n 0, 1) := by decide +kernel
theorem dL_law_355 : decode cL_law 355 = .ok (.iload 4, 2) := by decide +kernel
theorem dL_law_357 : decode cL_law 357 = .ok (.iconst 1, 1) := by decide +kernel
theorem dL_law_358 : decode cL_law 358 = .ok (.iadd, 1) := by decide +kernel
theorem dL_law_359 : decode cL_law 359 = .ok (.iaload, 1) := by decide +kernel
theorem dL_law_360 : decode cL_law 360 = .ok (.aload_n 3, 1) := by decide +kernel
theorem dL_law_361 : decode cL_law 361 = .ok (.invokestatic 98, 3) := by decide +kernel
theorem dL_law_364 : decode cL_law 364 = .ok (.istore 5, 2) := by decide +kernel
theorem dL_law_366 : decode cL_law 366 = .ok (.aload_n 2, 1) := by decide +kernel
theorem dL_law_367 : decode cL_law 367 = .ok (.aload_n 0, 1) := by decide +kernel
theorem dL_law_368 : decode cL_law 368 = .ok (.iload 4, 2) := by decide +kernel
theorem dL_law_370 : decode cL_law 370 = .ok (.iconst 1, 1) := by decide +kernel
theorem dL_law_371 : decode cL_law 371 = .ok (.iadd, 1) := by decide +kernel
theorem dL_law_372 : decode cL_law 372 = .ok (.iaload, 1) := by decide +kernel
theorem dL_law_373 : decode cL_law 373 = .ok (.invokevirtual 100, 3) := by decide +kernel
theorem dL_law_376 : decode cL_law 376 = .ok (.istore 6, 2) := by decide +kernel
theorem dL_law_378 : decode cL_law 378 = .ok (.aload_n 2, 1) := by decide +kernel
theorem dL_law_379 : decode cL_law 379 = .ok (.invokevirtual 81, 3) := by decide +kernel
theorem dL_law_382 : decode cL_law 382 = .ok (.iload 5, 2) := by decide +kernel
theorem dL_law_384 : decode cL_law 384 = .ok (.if_icmp .eq 5, 3) := by decide +kernel
theorem dL_law_387 : decode cL_law 387 = .ok (.iconst 0, 1) := by decide +kernel
theorem dL_law_388 : decode cL_law 388 = .ok (.ireturn, 1) := by decide +kernel
theorem dL_law_389 : decode cL_law 389 = .ok (.iload 5, 2) := by decide +kernel
theorem dL_law_391 : decode cL_law 391 = .ok (.ifCond .ne 15, 3) := by decide +kernel
theorem dL_law_394 : decode cL_law 394 = .ok (.aload_n 3, 1) := by decide +kernel
theorem dL_law_395 : decode cL_law 395 = .ok (.iconst 0, 1) := by decide +kernel
theorem dL_law_396 : decode cL_law 396 = .ok (.laload, 1) := by decide +kernel
theorem dL_law_397 : decode cL_law 397 = .ok (.iload 6, 2) := by decide +kernel
theorem dL_law_399 : decode cL_law 399 = .ok (.i2l, 1) := by decide +kernel
theorem dL_law_400 : decode cL_law 400 = .ok (.lcmp, 1) := by decide +kernel
theorem dL_law_401 : decode cL_law 401 = .ok (.ifCond .eq 5, 3) := by decide +kernel
theorem dL_law_404 : decode cL_law 404 = .ok (.iconst 0, 1) := by decide +kernel
theorem dL_law_405 : decode cL_law 405 = .ok (.ireturn, 1) := by decide +kernel
theorem dL_law_406 : decode cL_law 406 = .ok (.goto 922, 3) := by decide +kernel
theorem dL_law_409 : decode cL_law 409 = .ok (.aload_n 1, 1) := by decide +kernel
theorem dL_law_410 : decode cL_law 410 = .ok (.aload_n 0, 1) := by decide +kernel
theorem dL_law_411 : decode cL_law 411 = .ok (.iload 4, 2) := by decide +kernel
theorem dL_law_413 : decode cL_law 413 = .ok (.iconst 1, 1) := by decide +kernel
theorem dL_law_414 : decode cL_law 414 = .ok (.iadd, 1) := by decide +kernel
theorem dL_law_415 : decode cL_law 415 = .ok (.iaload, 1) := by decide +kernel
theorem dL_law_416 : decode cL_law 416 = .ok (.aload_n 0, 1) := by decide +kernel
theorem dL_law_417 : decode cL_law 417 = .ok (.iload 4, 2) := by decide +kernel
theorem dL_law_419 : decode cL_law 419 = .ok (.iconst 2, 1) := by decide +kernel
theorem dL_law_420 : decode cL_law 420 = .ok (.iadd, 1) := by decide +kernel
theorem dL_law_421 : decode cL_law 421 = .ok (.iaload, 1) := by decide +kernel
theorem dL_law_422 : decode cL_law 422 = .ok (.aload_n 0, 1) := by decide +kernel
theorem dL_law_423 : decode cL_law 423 = .ok (.iload 4, 2) := by decide +kernel
theorem dL_law_425 : decode cL_law 425 = .ok (.iconst 3, 1) := by decide +kernel
theorem dL_law_426 : decode cL_law 426 = .ok (.iadd, 1) := by decide +kernel
theorem dL_law_427 : decode cL_law 427 = .ok (.iaload, 1) := by decide +kernel
theorem dL_law_428 : decode cL_law 428 = .ok (.aload_n 3, 1) := by decide +kernel
theorem dL_law_429 : decode cL_law 429 = .ok (.invokestatic 101, 3) := by decide +kernel
theorem dL_law_432 : decode cL_law 432 = .ok (.istore 5, 2) := by decide +kernel
theorem dL_law_434 : decode cL_law 434 = .ok (.aload_n 2, 1) := by decide +kernel
theorem dL_law_435 : decode cL_law 435 = .ok (.aload_n 0, 1) := by decide +kernel
theorem dL_law_436 : decode cL_law 436 = .ok (.iload 4, 2) := by decide +kernel
theorem dL_law_438 : decode cL_law 438 = .ok (.iconst 1, 1) := by decide +kernel
theorem dL_law_439 : decode cL_law 439 = .ok (.iadd, 1) := by decide +kernel
theorem dL_law_440 : decode cL_law 440 = .ok (.iaload, 1) := by decide +kernel
theorem dL_law_441 : decode cL_law 441 = .ok (.aload_n 0, 1) := by decide +kernel
theorem dL_law_442 : decode cL_law 442 = .ok (.iload 4, 2) := by decide +kernel
theorem dL_law_444 : decode cL_law 444 = .ok (.iconst 2, 1) := by decide +kernel
theorem dL_law_445 : decode cL_law 445 = .ok (.iadd, 1) := by decide +kernel
theorem dL_law_446 : decode cL_law 446 = .ok (.iaload, 1) := by decide +kernel
theorem dL_law_447 : decode cL_law 447 = .ok (.aload_n 0, 1) := by decide +kernel
theorem dL_law_448 : decode cL_law 448 = .ok (.iload 4, 2) := by decide +kernel
theorem dL_law_450 : decode cL_law 450 = .ok (.iconst 3, 1) := by decide +kernel
theorem dL_law_451 : decode cL_law 451 = .ok (.iadd, 1) := by decide +kernel
theorem dL_law_452 : decode cL_law 452 = .ok (.iaload, 1) := by decide +kernel
theorem dL_law_453 : decode cL_law 453 = .ok (.invokevirtual 104, 3) := by decide +kernel
theorem dL_law_456 : decode cL_law 456 = .ok (.istore 6, 2) := by decide +kernel
theorem dL_law_458 : decode cL_law 458 = .ok (.aload_n 2, 1) := by decide +kernel
theorem dL_law_459 : decode cL_law 459 = .ok (.invokevirtual 81, 3) := by decide +kernel
theorem dL_law_462 : decode cL_law 462 = .ok (.iload 5, 2) := by decide +kernel
theorem dL_law_464 : decode cL_law 464 = .ok (.if_icmp .eq 5, 3) := by decide +kernel
theorem dL_law_467 : decode cL_law 467 = .ok (.iconst 0, 1) := by decide +kernel
theorem dL_law_468 : decode cL_law 468 = .ok (.ireturn, 1) := by decide +kernel
theorem dL_law_469 : decode cL_law 469 = .ok (.iload 5, 2) := by decide +kernel
theorem dL_law_471 : decode cL_law 471 = .ok (.ifCond .ne 15, 3) := by decide +kernel
theorem dL_law_474 : decode cL_law 474 = .ok (.aload_n 3, 1) := by decide +kernel
theorem dL_law_475 : decode cL_law 475 = .ok (.iconst 0, 1) := by decide +kernel
theorem dL_law_476 : decode cL_law 476 = .ok (.laload, 1) := by decide +kernel
theorem dL_law_477 : decode cL_law 477 = .ok (.iload 6, 2) := by decide +kernel
theorem dL_law_479 : decode cL_law 479 = .ok (.i2l, 1) := by decide +kernel
theorem dL_law_480 : decode cL_law 480 = .ok (.lcmp, 1) := by decide +kernel
theorem dL_law_481 : decode cL_law 481 = .ok (.ifCond .eq 5, 3) := by decide +kernel
theorem dL_law_484 : decode cL_law 484 = .ok (.iconst 0, 1) := by decide +kernel
theorem dL_law_485 : decode cL_law 485 = .ok (.ireturn, 1) := by decide +kernel
theorem dL_law_486 : decode cL_law 486 = .ok (.goto 842, 3) := by decide +kernel
theorem dL_law_489 : decode cL_law 489 = .ok (.aload_n 1, 1) := by decide +kernel
theorem dL_law_490 : decode cL_law 490 = .ok (.aload_n 0, 1) := by decide +kernel
theorem dL_law_491 : decode cL_law 491 = .ok (.iload 4, 2) := by decide +kernel
theorem dL_law_493 : decode cL_law 493 = .ok (.iconst 1, 1) := by decide +kernel
theorem dL_law_494 : decode cL_law 494 = .ok (.iadd, 1) := by decide +kernel
theorem dL_law_495 : decode cL_law 495 = .ok (.iaload, 1) := by decide +kernel
theorem dL_law_496 : decode cL_law 496 = .ok (.aload_n 0, 1) := by decide +kernel
theorem dL_law_497 : decode cL_law 497 = .ok (.iload 4, 2) := by decide +kernel
theorem dL_law_499 : decode cL_law 499 = .ok (.iconst 2, 1) := by decide +kernel
theorem dL_law_500 : decode cL_law 500 = .ok (.iadd, 1) := by decide +kernel
theorem dL_law_501 : decode cL_law 501 = .ok (.iaload, 1) := by decide +kernel
theorem dL_law_502 : decode cL_law 502 = .ok (.aload_n 0, 1) := by decide +kernel
theorem dL_law_503 : decode cL_law 503 = .ok (.iload 4, 2) := by decide +kernel
theorem dL_law_505 : decode cL_law 505 = .ok (.iconst 3, 1) := by decide +kernel
theorem dL_law_506 : decode cL_law 506 = .ok (.iadd, 1) := by decide +kernel
theorem dL_law_507 : decode cL_law 507 = .ok (.iaload, 1) := by decide +kernel
theorem dL_law_508 : decode cL_law 508 = .ok (.aload_n 3, 1) := by decide +kernel
theorem dL_law_509 : decode cL_law 509 = .ok (.invokestatic 105, 3) := by decide +kernel
theorem dL_law_512 : decode cL_law 512 = .ok (.istore 5, 2) := by decide +kernel
theorem dL_law_514 : decode cL_law 514 = .ok (.aload_n 2, 1) := by decide +kernel
theorem dL_law_515 : decode cL_law 515 = .ok (.aload_n 0, 1) := by decide +kernel
theorem dL_law_516 : decode cL_law 516 = .ok (.iload 4, 2) := by decide +kernel
theorem dL_law_518 : decode cL_law 518 = .ok (.iconst 1, 1) := by decide +kernel
theorem dL_law_519 : decode cL_law 519 = .ok (.iadd, 1) := by decide +kernel
theorem dL_law_520 : decode cL_law 520 = .ok (.iaload, 1) := by decide +kernel
theorem dL_law_521 : decode cL_law 521 = .ok (.aload_n 0, 1) := by decide +kernel
theorem dL_law_522 : decode cL_law 522 = .ok (.iload 4, 2) := by decide +kernel
theorem dL_law_524 : decode cL_law 524 = .ok (.iconst 2, 1) := by decide +kernel
theorem dL_law_525 : decode cL_law 525 = .ok (.iadd, 1) := by decide +kernel
theorem dL_law_526 : decode cL_law 526 = .ok (.iaload, 1) := by decide +kernel
theorem dL_law_527 : decode cL_law 527 = .ok (.aload_n 0, 1) := by decide +kernel
theorem dL_law_528 : decode cL_law 528 = .ok (.iload 4, 2) := by decide +kernel
theorem dL_law_530 : decode cL_law 530 = .ok (.iconst 3, 1) := by decide +kernel
theorem dL_law_531 : decode cL_law 531 = .ok (.iadd, 1) := by decide +kernel
theorem dL_law_532 : decode cL_law 532 = .ok (.iaload, 1) := by decide +kernel
theorem dL_law_533 : decode cL_law 533 = .ok (.invokevirtual 107, 3) := by decide +kernel
theorem dL_law_536 : decode cL_law 536 = .ok (.istore 6, 2) := by decide +kernel
theorem dL_law_538 : decode cL_law 538 = .ok (.aload_n 2, 1) := by decide +kernel
theorem dL_law_539 : decode cL_law 539 = .ok (.invokevirtual 81, 3) := by decide +kernel
theorem dL_law_542 : decode cL_law 542 = .ok (.iload 5, 2) := by decide +kernel
theorem dL_law_544 : decode cL_law 544 = .ok (.if_icmp .eq 5, 3) := by decide +kernel
theorem dL_law_547 : decode cL_law 547 = .ok (.iconst 0, 1) := by decide +kernel
theorem dL_law_548 : decode cL_law 548 = .ok (.ireturn, 1) := by decide +kernel
theorem dL_law_549 : decode cL_law 549 = .ok (.iload 5, 2) := by decide +kernel
theorem dL_law_551 : decode cL_law 551 = .ok (.ifCond .ne 15, 3) := by decide +kernel
theorem dL_law_554 : decode cL_law 554 = .ok (.aload_n 3, 1) := by decide +kernel
theorem dL_law_555 : decode cL_law 555 = .ok (.iconst 0, 1) := by decide +kernel
theorem dL_law_556 : decode cL_law 556 = .ok (.laload, 1) := by decide +kernel
theorem dL_law_557 : decode cL_law 557 = .ok (.iload 6, 2) := by decide +kernel
theorem dL_law_559 : decode cL_law 559 = .ok (.i2l, 1) := by decide +kernel
theorem dL_law_560 : decode cL_law 560 = .ok (.lcmp, 1) := by decide +kernel
theorem dL_law_561 : decode cL_law 561 = .ok (.ifCond .eq 5, 3) := by decide +kernel
theorem dL_law_564 : decode cL_law 564 = .ok (.iconst 0, 1) := by decide +kernel
theorem dL_law_565 : decode cL_law 565 = .ok (.ireturn, 1) := by decide +kernel
theorem dL_law_566 : decode cL_law 566 = .ok (.goto 762, 3) := by decide +kernel
theorem dL_law_569 : decode cL_law 569 = .ok (.aload_n 1, 1) := by decide +kernel
theorem dL_law_570 : decode cL_law 570 = .ok (.aload_n 0, 1) := by decide +kernel
theorem dL_law_571 : decode cL_law 571 = .ok (.iload 4, 2) := by decide +kernel
theorem dL_law_573 : decode cL_law 573 = .ok (.iconst 1, 1) := by decide +kernel
theorem dL_law_574 : decode cL_law 574 = .ok (.iadd, 1) := by decide +kernel
theorem dL_law_575 : decode cL_law 575 = .ok (.iaload, 1) := by decide +kernel
theorem dL_law_576 : decode cL_law 576 = .ok (.aload_n 3, 1) := by decide +kernel
theorem dL_law_577 : decode cL_law 577 = .ok (.invokestatic 108, 3) := by decide +kernel
theorem dL_law_580 : decode cL_law 580 = .ok (.istore 5, 2) := by decide +kernel
theorem dL_law_582 : decode cL_law 582 = .ok (.aload_n 2, 1) := by decide +kernel
theorem dL_law_583 : decode cL_law 583 = .ok (.aload_n 0, 1) := by decide +kernel
theorem dL_law_584 : decode cL_law 584 = .ok (.iload 4, 2) := by decide +kernel
theorem dL_law_586 : decode cL_law 586 = .ok (.iconst 1, 1) := by decide +kernel
theorem dL_law_587 : decode cL_law 587 = .ok (.iadd, 1) := by decide +kernel
theorem dL_law_588 : decode cL_law 588 = .ok (.iaload, 1) := by decide +kernel
theorem dL_law_589 : decode cL_law 589 = .ok (.invokevirtual 110, 3) := by decide +kernel
theorem dL_law_592 : decode cL_law 592 = .ok (.istore 6, 2) := by decide +kernel
theorem dL_law_594 : decode cL_law 594 = .ok (.aload_n 2, 1) := by decide +kernel
theorem dL_law_595 : decode cL_law 595 = .ok (.invokevirtual 81, 3) := by decide +kernel
theorem dL_law_598 : decode cL_law 598 = .ok (.iload 5, 2) := by decide +kernel
theorem dL_law_600 : decode cL_law 600 = .ok (.if_icmp .eq 5, 3) := by decide +kernel
theorem dL_law_603 : decode cL_law 603 = .ok (.iconst 0, 1) := by decide +kernel
theorem dL_law_604 : decode cL_law 604 = .ok (.ireturn, 1) := by decide +kernel
theorem dL_law_605 : decode cL_law 605 = .ok (.iload 5, 2) := by decide +kernel
theorem dL_law_607 : decode cL_law 607 = .ok (.ifCond .ne 15, 3) := by decide +kernel
theorem dL_law_610 : decode cL_law 610 = .ok (.aload_n 3, 1) := by decide +kernel
theorem dL_law_611 : decode cL_law 611 = .ok (.iconst 0, 1) := by decide +kernel
theorem dL_law_612 : decode cL_law 612 = .ok (.laload, 1) := by decide +kernel
theorem dL_law_613 : decode cL_law 613 = .ok (.iload 6, 2) := by decide +kernel
theorem dL_law_615 : decode cL_law 615 = .ok (.i2l, 1) := by decide +kernel
theorem dL_law_616 : decode cL_law 616 = .ok (.lcmp, 1) := by decide +kernel
theorem dL_law_617 : decode cL_law 617 = .ok (.ifCond .eq 5, 3) := by decide +kernel
theorem dL_law_620 : decode cL_law 620 = .ok (.iconst 0, 1) := by decide +kernel
theorem dL_law_621 : decode cL_law 621 = .ok (.ireturn, 1) := by decide +kernel
theorem dL_law_622 : decode cL_law 622 = .ok (.goto 706, 3) := by decide +kernel
theorem dL_law_625 : decode cL_law 625 = .ok (.aload_n 1, 1) := by decide +kernel
theorem dL_law_626 : decode cL_law 626 = .ok (.aload_n 0, 1) := by decide +kernel
theorem dL_law_627 : decode cL_law 627 = .ok (.iload 4, 2) := by decide +kernel
theorem dL_law_629 : decode cL_law 629 = .ok (.iconst 1, 1) := by decide +kernel
theorem dL_law_630 : decode cL_law 630 = .ok (.iadd, 1) := by decide +kernel
theorem dL_law_631 : decode cL_law 631 = .ok (.iaload, 1) := by decide +kernel
theorem dL_law_632 : decode cL_law 632 = .ok (.aload_n 0, 1) := by decide +kernel
theorem dL_law_633 : decode cL_law 633 = .ok (.iload 4, 2) := by decide +kernel
theorem dL_law_635 : decode cL_law 635 = .ok (.iconst 2, 1) := by decide +kernel
theorem dL_law_636 : decode cL_law 636 = .ok (.iadd, 1) := by decide +kernel
theorem dL_law_637 : decode cL_law 637 = .ok (.iaload, 1) := by decide +kernel
theorem dL_law_638 : decode cL_law 638 = .ok (.aload_n 0, 1) := by decide +kernel
theorem dL_law_639 : decode cL_law 639 = .ok (.iload 4, 2) := by decide +kernel
theorem dL_law_641 : decode cL_law 641 = .ok (.iconst 3, 1) := by decide +kernel
theorem dL_law_642 : decode cL_law 642 = .ok (.iadd, 1) := by decide +kernel
theorem dL_law_643 : decode cL_law 643 = .ok (.iaload, 1) := by decide +kernel
theorem dL_law_644 : decode cL_law 644 = .ok (.aload_n 0, 1) := by decide +kernel
theorem dL_law_645 : decode cL_law 645 = .ok (.iload 4, 2) := by decide +kernel
theorem dL_law_647 : decode cL_law 647 = .ok (.iconst 4, 1) := by decide +kernel
theorem dL_law_648 : decode cL_law 648 = .ok (.iadd, 1) := by decide +kernel
theorem dL_law_649 : decode cL_law 649 = .ok (.iaload, 1) := by decide +kernel
theorem dL_law_650 : decode cL_law 650 = .ok (.aload_n 3, 1) := by decide +kernel
theorem dL_law_651 : decode cL_law 651 = .ok (.invokestatic 111, 3) := by decide +kernel
theorem dL_law_654 : decode cL_law 654 = .ok (.istore 5, 2) := by decide +kernel
theorem dL_law_656 : decode cL_law 656 = .ok (.aload_n 2, 1) := by decide +kernel
theorem dL_law_657 : decode cL_law 657 = .ok (.aload_n 0, 1) := by decide +kernel
theorem dL_law_658 : decode cL_law 658 = .ok (.iload 4, 2) := by decide +kernel
theorem dL_law_660 : decode cL_law 660 = .ok (.iconst 1, 1) := by decide +kernel
theorem dL_law_661 : decode cL_law 661 = .ok (.iadd, 1) := by decide +kernel
theorem dL_law_662 : decode cL_law 662 = .ok (.iaload, 1) := by decide +kernel
theorem dL_law_663 : decode cL_law 663 = .ok (.aload_n 0, 1) := by decide +kernel
theorem dL_law_664 : decode cL_law 664 = .ok (.iload 4, 2) := by decide +kernel
theorem dL_law_666 : decode cL_law 666 = .ok (.iconst 2, 1) := by decide +kernel
theorem dL_law_667 : decode cL_law 667 = .ok (.iadd, 1) := by decide +kernel
theorem dL_law_668 : decode cL_law 668 = .ok (.iaload, 1) := by decide +kernel
theorem dL_law_669 : decode cL_law 669 = .ok (.aload_n 0, 1) := by decide +kernel
theorem dL_law_670 : decode cL_law 670 = .ok (.iload 4, 2) := by decide +kernel
theorem dL_law_672 : decode cL_law 672 = .ok (.iconst 3, 1) := by decide +kernel
theorem dL_law_673 : decode cL_law 673 = .ok (.iadd, 1) := by decide +kernel
theorem dL_law_674 : decode cL_law 674 = .ok (.iaload, 1) := by decide +kernel
theorem dL_law_675 : decode cL_law 675 = .ok (.aload_n 0, 1) := by decide +kernel
theorem dL_law_676 : decode cL_law 676 = .ok (.iload 4, 2) := by decide +kernel
theorem dL_law_678 : decode cL_law 678 = .ok (.iconst 4, 1) := by decide +kernel
theorem dL_law_679 : decode cL_law 679 = .ok (.iadd, 1) := by decide +kernel
theorem dL_law_680 : decode cL_law 680 = .ok (.iaload, 1) := by decide +kernel
theorem dL_law_681 : decode cL_law 681 = .ok (.invokevirtual 114, 3) := by decide +kernel
theorem dL_law_684 : decode cL_law 684 = .ok (.istore 6, 2) := by decide +kernel
theorem dL_law_686 : decode cL_law 686 = .ok (.aload_n 2, 1) := by decide +kernel
theorem dL_law_687 : decode cL_law 687 = .ok (.invokevirtual 81, 3) := by decide +kernel
theorem dL_law_690 : decode cL_law 690 = .ok (.iload 5, 2) := by decide +kernel
theorem dL_law_692 : decode cL_law 692 = .ok (.if_icmp .eq 5, 3) := by decide +kernel
theorem dL_law_695 : decode cL_law 695 = .ok (.iconst 0, 1) := by decide +kernel
theorem dL_law_696 : decode cL_law 696 = .ok (.ireturn, 1) := by decide +kernel
theorem dL_law_697 : decode cL_law 697 = .ok (.iload 5, 2) := by decide +kernel
theorem dL_law_699 : decode cL_law 699 = .ok (.ifCond .ne 22, 3) := by decide +kernel
theorem dL_law_702 : decode cL_law 702 = .ok (.aload_n 3, 1) := by decide +kernel
theorem dL_law_703 : decode cL_law 703 = .ok (.iconst 0, 1) := by decide +kernel
theorem dL_law_704 : decode cL_law 704 = .ok (.laload, 1) := by decide +kernel
theorem dL_law_705 : decode cL_law 705 = .ok (.iload 6, 2) := by decide +kernel
theorem dL_law_707 : decode cL_law 707 = .ok (.ifCond .eq 7, 3) := by decide +kernel
theorem dL_law_710 : decode cL_law 710 = .ok (.lconst 1, 1) := by decide +kernel
theorem dL_law_711 : decode cL_law 711 = .ok (.goto 4, 3) := by decide +kernel
theorem dL_law_714 : decode cL_law 714 = .ok (.lconst 0, 1) := by decide +kernel
theorem dL_law_715 : decode cL_law 715 = .ok (.lcmp, 1) := by decide +kernel
theorem dL_law_716 : decode cL_law 716 = .ok (.ifCond .eq 5, 3) := by decide +kernel
theorem dL_law_719 : decode cL_law 719 = .ok (.iconst 0, 1) := by decide +kernel
theorem dL_law_720 : decode cL_law 720 = .ok (.ireturn, 1) := by decide +kernel
theorem dL_law_721 : decode cL_law 721 = .ok (.goto 607, 3) := by decide +kernel
theorem dL_law_724 : decode cL_law 724 = .ok (.aload_n 1, 1) := by decide +kernel
theorem dL_law_725 : decode cL_law 725 = .ok (.aload_n 0, 1) := by decide +kernel
theorem dL_law_726 : decode cL_law 726 = .ok (.iload 4, 2) := by decide +kernel
theorem dL_law_728 : decode cL_law 728 = .ok (.iconst 1, 1) := by decide +kernel
theorem dL_law_729 : decode cL_law 729 = .ok (.iadd, 1) := by decide +kernel
theorem dL_law_730 : decode cL_law 730 = .ok (.iaload, 1) := by decide +kernel
theorem dL_law_731 : decode cL_law 731 = .ok (.aload_n 0, 1) := by decide +kernel
theorem dL_law_732 : decode cL_law 732 = .ok (.iload 4, 2) := by decide +kernel
theorem dL_law_734 : decode cL_law 734 = .ok (.iconst 2, 1) := by decide +kernel
theorem dL_law_735 : decode cL_law 735 = .ok (.iadd, 1) := by decide +kernel
theorem dL_law_736 : decode cL_law 736 = .ok (.iaload, 1) := by decide +kernel
theorem dL_law_737 : decode cL_law 737 = .ok (.aload_n 0, 1) := by decide +kernel
theorem dL_law_738 : decode cL_law 738 = .ok (.iload 4, 2) := by decide +kernel
theorem dL_law_740 : decode cL_law 740 = .ok (.iconst 3, 1) := by decide +kernel
theorem dL_law_741 : decode cL_law 741 = .ok (.iadd, 1) := by decide +kernel
theorem dL_law_742 : decode cL_law 742 = .ok (.iaload, 1) := by decide +kernel
theorem dL_law_743 : decode cL_law 743 = .ok (.aload_n 3, 1) := by decide +kernel
theorem dL_law_744 : decode cL_law 744 = .ok (.invokestatic 115, 3) := by decide +kernel
theorem dL_law_747 : decode cL_law 747 = .ok (.istore 5, 2) := by decide +kernel
theorem dL_law_749 : decode cL_law 749 = .ok (.aload_n 2, 1) := by decide +kernel
theorem dL_law_750 : decode cL_law 750 = .ok (.aload_n 0, 1) := by decide +kernel
theorem dL_law_751 : decode cL_law 751 = .ok (.iload 4, 2) := by decide +kernel
theorem dL_law_753 : decode cL_law 753 = .ok (.iconst 1, 1) := by decide +kernel
theorem dL_law_754 : decode cL_law 754 = .ok (.iadd, 1) := by decide +kernel
theorem dL_law_755 : decode cL_law 755 = .ok (.iaload, 1) := by decide +kernel
theorem dL_law_756 : decode cL_law 756 = .ok (.aload_n 0, 1) := by decide +kernel
theorem dL_law_757 : decode cL_law 757 = .ok (.iload 4, 2) := by decide +kernel
theorem dL_law_759 : decode cL_law 759 = .ok (.iconst 2, 1) := by decide +kernel
theorem dL_law_760 : decode cL_law 760 = .ok (.iadd, 1) := by decide +kernel
theorem dL_law_761 : decode cL_law 761 = .ok (.iaload, 1) := by decide +kernel
theorem dL_law_762 : decode cL_law 762 = .ok (.aload_n 0, 1) := by decide +kernel
theorem dL_law_763 : decode cL_law 763 = .ok (.iload 4, 2) := by decide +kernel
theorem dL_law_765 : decode cL_law 765 = .ok (.iconst 3, 1) := by decide +kernel
theorem dL_law_766 : decode cL_law 766 = .ok (.iadd, 1) := by decide +kernel
theorem dL_law_767 : decode cL_law 767 = .ok (.iaload, 1) := by decide +kernel
theorem dL_law_768 : decode cL_law 768 = .ok (.invokevirtual 117, 3) := by decide +kernel
theorem dL_law_771 : decode cL_law 771 = .ok (.istore 6, 2) := by decide +kernel
theorem dL_law_773 : decode cL_law 773 = .ok (.aload_n 2, 1) := by decide +kernel
theorem dL_law_774 : decode cL_law 774 = .ok (.invokevirtual 81, 3) := by decide +kernel
theorem dL_law_777 : decode cL_law 777 = .ok (.iload 5, 2) := by decide +kernel
theorem dL_law_779 : decode cL_law 779 = .ok (.if_icmp .eq 5, 3) := by decide +kernel
theorem dL_law_782 : decode cL_law 782 = .ok (.iconst 0, 1) := by decide +kernel
theorem dL_law_783 : decode cL_law 783 = .ok (.ireturn, 1) := by decide +kernel
theorem dL_law_784 : decode cL_law 784 = .ok (.iload 5, 2) := by decide +kernel
theorem dL_law_786 : decode cL_law 786 = .ok (.ifCond .ne 15, 3) := by decide +kernel
theorem dL_law_789 : decode cL_law 789 = .ok (.aload_n 3, 1) := by decide +kernel
theorem dL_law_790 : decode cL_law 790 = .ok (.iconst 0, 1) := by decide +kernel
theorem dL_law_791 : decode cL_law 791 = .ok (.laload, 1) := by decide +kernel
theorem dL_law_792 : decode cL_law 792 = .ok (.iload 6, 2) := by decide +kernel
theorem dL_law_794 : decode cL_law 794 = .ok (.i2l, 1) := by decide +kernel
theorem dL_law_795 : decode cL_law 795 = .ok (.lcmp, 1) := by decide +kernel
theorem dL_law_796 : decode cL_law 796 = .ok (.ifCond .eq 5, 3) := by decide +kernel
theorem dL_law_799 : decode cL_law 799 = .ok (.iconst 0, 1) := by decide +kernel
theorem dL_law_800 : decode cL_law 800 = .ok (.ireturn, 1) := by decide +kernel
theorem dL_law_801 : decode cL_law 801 = .ok (.goto 527, 3) := by decide +kernel
theorem dL_law_804 : decode cL_law 804 = .ok (.aload_n 1, 1) := by decide +kernel
theorem dL_law_805 : decode cL_law 805 = .ok (.aload_n 0, 1) := by decide +kernel
theorem dL_law_806 : decode cL_law 806 = .ok (.iload 4, 2) := by decide +kernel
theorem dL_law_808 : decode cL_law 808 = .ok (.iconst 1, 1) := by decide +kernel
theorem dL_law_809 : decode cL_law 809 = .ok (.iadd, 1) := by decide +kernel
theorem dL_law_810 : decode cL_law 810 = .ok (.iaload, 1) := by decide +kernel
theorem dL_law_811 : decode cL_law 811 = .ok (.aload_n 3, 1) := by decide +kernel
theorem dL_law_812 : decode cL_law 812 = .ok (.invokestatic 118, 3) := by decide +kernel
theorem dL_law_815 : decode cL_law 815 = .ok (.istore 5, 2) := by decide +kernel
theorem dL_law_817 : decode cL_law 817 = .ok (.aload_n 2, 1) := by decide +kernel
theorem dL_law_818 : decode cL_law 818 = .ok (.aload_n 0, 1) := by decide +kernel
theorem dL_law_819 : decode cL_law 819 = .ok (.iload 4, 2) := by decide +kernel
theorem dL_law_821 : decode cL_law 821 = .ok (.iconst 1, 1) := by decide +kernel
theorem dL_law_822 : decode cL_law 822 = .ok (.iadd, 1) := by decide +kernel
theorem dL_law_823 : decode cL_law 823 = .ok (.iaload, 1) := by decide +kernel
theorem dL_law_824 : decode cL_law 824 = .ok (.invokevirtual 120, 3) := by decide +kernel
theorem dL_law_827 : decode cL_law 827 = .ok (.istore 6, 2) := by decide +kernel
theorem dL_law_829 : decode cL_law 829 = .ok (.aload_n 2, 1) := by decide +kernel
theorem dL_law_830 : decode cL_law 830 = .ok (.invokevirtual 81, 3) := by decide +kernel
theorem dL_law_833 : decode cL_law 833 = .ok (.iload 5, 2) := by decide +kernel
theorem dL_law_835 : decode cL_law 835 = .ok (.if_icmp .eq 5, 3) := by decide +kernel
theorem dL_law_838 : decode cL_law 838 = .ok (.iconst 0, 1) := by decide +kernel
theorem dL_law_839 : decode cL_law 839 = .ok (.ireturn, 1) := by decide +kernel
theorem dL_law_840 : decode cL_law 840 = .ok (.iload 5, 2) := by decide +kernel
theorem dL_law_842 : decode cL_law 842 = .ok (.ifCond .ne 15, 3) := by decide +kernel
theorem dL_law_845 : decode cL_law 845 = .ok (.aload_n 3, 1) := by decide +kernel
theorem dL_law_846 : decode cL_law 846 = .ok (.iconst 0, 1) := by decide +kernel
theorem dL_law_847 : decode cL_law 847 = .ok (.laload, 1) := by decide +kernel
theorem dL_law_848 : decode cL_law 848 = .ok (.iload 6, 2) := by decide +kernel
theorem dL_law_850 : decode cL_law 850 = .ok (.i2l, 1) := by decide +kernel
theorem dL_law_851 : decode cL_law 851 = .ok (.lcmp, 1) := by decide +kernel
theorem dL_law_852 : decode cL_law 852 = .ok (.ifCond .eq 5, 3) := by decide +kernel
theorem dL_law_855 : decode cL_law 855 = .ok (.iconst 0, 1) := by decide +kernel
theorem dL_law_856 : decode cL_law 856 = .ok (.ireturn, 1) := by decide +kernel
theorem dL_law_857 : decode cL_law 857 = .ok (.goto 471, 3) := by decide +kernel
theorem dL_law_860 : decode cL_law 860 = .ok (.aload_n 1, 1) := by decide +kernel
theorem dL_law_861 : decode cL_law 861 = .ok (.aload_n 0, 1) := by decide +kernel
theorem dL_law_862 : decode cL_law 862 = .ok (.iload 4, 2) := by decide +kernel
theorem dL_law_864 : decode cL_law 864 = .ok (.iconst 1, 1) := by decide +kernel
theorem dL_law_865 : decode cL_law 865 = .ok (.iadd, 1) := by decide +kernel
theorem dL_law_866 : decode cL_law 866 = .ok (.iaload, 1) := by decide +kernel
theorem dL_law_867 : decode cL_law 867 = .ok (.aload_n 3, 1) := by decide +kernel
theorem dL_law_868 : decode cL_law 868 = .ok (.invokestatic 121, 3) := by decide +kernel
theorem dL_law_871 : decode cL_law 871 = .ok (.istore 5, 2) := by decide +kernel
theorem dL_law_873 : decode cL_law 873 = .ok (.aload_n 2, 1) := by decide +kernel
theorem dL_law_874 : decode cL_law 874 = .ok (.aload_n 0, 1) := by decide +kernel
theorem dL_law_875 : decode cL_law 875 = .ok (.iload 4, 2) := by decide +kernel
theorem dL_law_877 : decode cL_law 877 = .ok (.iconst 1, 1) := by decide +kernel
theorem dL_law_878 : decode cL_law 878 = .ok (.iadd, 1) := by decide +kernel
theorem dL_law_879 : decode cL_law 879 = .ok (.iaload, 1) := by decide +kernel
theorem dL_law_880 : decode cL_law 880 = .ok (.invokevirtual 123, 3) := by decide +kernel
theorem dL_law_883 : decode cL_law 883 = .ok (.istore 6, 2) := by decide +kernel
theorem dL_law_885 : decode cL_law 885 = .ok (.aload_n 2, 1) := by decide +kernel
theorem dL_law_886 : decode cL_law 886 = .ok (.invokevirtual 81, 3) := by decide +kernel
theorem dL_law_889 : decode cL_law 889 = .ok (.iload 5, 2) := by decide +kernel
theorem dL_law_891 : decode cL_law 891 = .ok (.if_icmp .eq 5, 3) := by decide +kernel
theorem dL_law_894 : decode cL_law 894 = .ok (.iconst 0, 1) := by decide +kernel
theorem dL_law_895 : decode cL_law 895 = .ok (.ireturn, 1) := by decide +kernel
theorem dL_law_896 : decode cL_law 896 = .ok (.iload 5, 2) := by decide +kernel
theorem dL_law_898 : decode cL_law 898 = .ok (.ifCond .ne 15, 3) := by decide +kernel
theorem dL_law_901 : decode cL_law 901 = .ok (.aload_n 3, 1) := by decide +kernel
theorem dL_law_902 : decode cL_law 902 = .ok (.iconst 0, 1) := by decide +kernel
theorem dL_law_903 : decode cL_law 903 = .ok (.laload, 1) := by decide +kernel
theorem dL_law_904 : decode cL_law 904 = .ok (.iload 6, 2) := by decide +kernel
theorem dL_law_906 : decode cL_law 906 = .ok (.i2l, 1) := by decide +kernel
theorem dL_law_907 : decode cL_law 907 = .ok (.lcmp, 1) := by decide +kernel
theorem dL_law_908 : decode cL_law 908 = .ok (.ifCond .eq 5, 3) := by decide +kernel
theorem dL_law_911 : decode cL_law 911 = .ok (.iconst 0, 1) := by decide +kernel
theorem dL_law_912 : decode cL_law 912 = .ok (.ireturn, 1) := by decide +kernel
theorem dL_law_913 : decode cL_law 913 = .ok (.goto 415, 3) := by decide +kernel
theorem dL_law_916 : decode cL_law 916 = .ok (.aload_n 1, 1) := by decide +kernel
theorem dL_law_917 : decode cL_law 917 = .ok (.invokevirtual 124, 3) := by decide +kernel
theorem dL_law_920 : decode cL_law 920 = .ok (.aload_n 2, 1) := by decide +kernel
theorem dL_law_921 : decode cL_law 921 = .ok (.invokevirtual 127, 3) := by decide +kernel
theorem dL_law_924 : decode cL_law 924 = .ok (.if_icmp .eq 404, 3) := by decide +kernel
theorem dL_law_927 : decode cL_law 927 = .ok (.iconst 0, 1) := by decide +kernel
theorem dL_law_928 : decode cL_law 928 = .ok (.ireturn, 1) := by decide +kernel
theorem dL_law_929 : decode cL_law 929 = .ok (.aload_n 1, 1) := by decide +kernel
theorem dL_law_930 : decode cL_law 930 = .ok (.invokevirtual 128, 3) := by decide +kernel
theorem dL_law_933 : decode cL_law 933 = .ok (.aload_n 2, 1) := by decide +kernel
theorem dL_law_934 : decode cL_law 934 = .ok (.invokevirtual 131, 3) := by decide +kernel
theorem dL_law_937 : decode cL_law 937 = .ok (.if_icmp .eq 391, 3) := by decide +kernel
theorem dL_law_940 : decode cL_law 940 = .ok (.iconst 0, 1) := by decide +kernel
theorem dL_law_941 : decode cL_law 941 = .ok (.ireturn, 1) := by decide +kernel
theorem dL_law_942 : decode cL_law 942 = .ok (.aload_n 1, 1) := by decide +kernel
theorem dL_law_943 : decode cL_law 943 = .ok (.invokevirtual 132, 3) := by decide +kernel
theorem dL_law_946 : decode cL_law 946 = .ok (.dstore 5, 2) := by decide +kernel
theorem dL_law_948 : decode cL_law 948 = .ok (.aload_n 2, 1) := by decide +kernel
theorem dL_law_949 : decode cL_law 949 = .ok (.invokevirtual 136, 3) := by decide +kernel
theorem dL_law_952 : decode cL_law 952 = .ok (.dstore 7, 2) := by decide +kernel
theorem dL_law_954 : decode cL_law 954 = .ok (.dload 5, 2) := by decide +kernel
theorem dL_law_956 : decode cL_law 956 = .ok (.dload 7, 2) := by decide +kernel
theorem dL_law_958 : decode cL_law 958 = .ok (.dcmp .l, 1) := by decide +kernel
theorem dL_law_959 : decode cL_law 959 = .ok (.ifCond .eq 21, 3) := by decide +kernel
theorem dL_law_962 : decode cL_law 962 = .ok (.dload 5, 2) := by decide +kernel
theorem dL_law_964 : decode cL_law 964 = .ok (.dload 5, 2) := by decide +kernel
theorem dL_law_966 : decode cL_law 966 = .ok (.dcmp .l, 1) := by decide +kernel
theorem dL_law_967 : decode cL_law 967 = .ok (.ifCond .eq 11, 3) := by decide +kernel
theorem dL_law_970 : decode cL_law 970 = .ok (.dload 7, 2) := by decide +kernel
theorem dL_law_972 : decode cL_law 972 = .ok (.dload 7, 2) := by decide +kernel
theorem dL_law_974 : decode cL_law 974 = .ok (.dcmp .l, 1) := by decide +kernel
theorem dL_law_975 : decode cL_law 975 = .ok (.ifCond .ne 5, 3) := by decide +kernel
theorem dL_law_978 : decode cL_law 978 = .ok (.iconst 0, 1) := by decide +kernel
theorem dL_law_979 : decode cL_law 979 = .ok (.ireturn, 1) := by decide +kernel
theorem dL_law_980 : decode cL_law 980 = .ok (.goto 348, 3) := by decide +kernel
theorem dL_law_983 : decode cL_law 983 = .ok (.aload_n 1, 1) := by decide +kernel
theorem dL_law_984 : decode cL_law 984 = .ok (.aload_n 0, 1) := by decide +kernel
theorem dL_law_985 : decode cL_law 985 = .ok (.iload 4, 2) := by decide +kernel
theorem dL_law_987 : decode cL_law 987 = .ok (.iconst 1, 1) := by decide +kernel
theorem dL_law_988 : decode cL_law 988 = .ok (.iadd, 1) := by decide +kernel
theorem dL_law_989 : decode cL_law 989 = .ok (.iaload, 1) := by decide +kernel
theorem dL_law_990 : decode cL_law 990 = .ok (.aload_n 0, 1) := by decide +kernel
theorem dL_law_991 : decode cL_law 991 = .ok (.iload 4, 2) := by decide +kernel
theorem dL_law_993 : decode cL_law 993 = .ok (.iconst 2, 1) := by decide +kernel
theorem dL_law_994 : decode cL_law 994 = .ok (.iadd, 1) := by decide +kernel
theorem dL_law_995 : decode cL_law 995 = .ok (.iaload, 1) := by decide +kernel
theorem dL_law_996 : decode cL_law 996 = .ok (.aload_n 3, 1) := by decide +kernel
theorem dL_law_997 : decode cL_law 997 = .ok (.invokestatic 137, 3) := by decide +kernel
theorem dL_law_1000 : decode cL_law 1000 = .ok (.istore 5, 2) := by decide +kernel
theorem dL_law_1002 : decode cL_law 1002 = .ok (.aload_n 2, 1) := by decide +kernel
theorem dL_law_1003 : decode cL_law 1003 = .ok (.aload_n 0, 1) := by decide +kernel
theorem dL_law_1004 : decode cL_law 1004 = .ok (.iload 4, 2) := by decide +kernel
theorem dL_law_1006 : decode cL_law 1006 = .ok (.iconst 1, 1) := by decide +kernel
theorem dL_law_1007 : decode cL_law 1007 = .ok (.iadd, 1) := by decide +kernel
theorem dL_law_1008 : decode cL_law 1008 = .ok (.iaload, 1) := by decide +kernel
theorem dL_law_1009 : decode cL_law 1009 = .ok (.aload_n 0, 1) := by decide +kernel
theorem dL_law_1010 : decode cL_law 1010 = .ok (.iload 4, 2) := by decide +kernel
theorem dL_law_1012 : decode cL_law 1012 = .ok (.iconst 2, 1) := by decide +kernel
theorem dL_law_1013 : decode cL_law 1013 = .ok (.iadd, 1) := by decide +kernel
theorem dL_law_1014 : decode cL_law 1014 = .ok (.iaload, 1) := by decide +kernel
theorem dL_law_1015 : decode cL_law 1015 = .ok (.invokevirtual 140, 3) := by decide +kernel
theorem dL_law_1018 : decode cL_law 1018 = .ok (.istore 6, 2) := by decide +kernel
theorem dL_law_1020 : decode cL_law 1020 = .ok (.aload_n 2, 1) := by decide +kernel
theorem dL_law_1021 : decode cL_law 1021 = .ok (.invokevirtual 81, 3) := by decide +kernel
theorem dL_law_1024 : decode cL_law 1024 = .ok (.iload 5, 2) := by decide +kernel
theorem dL_law_1026 : decode cL_law 1026 = .ok (.if_icmp .eq 5, 3) := by decide +kernel
theorem dL_law_1029 : decode cL_law 1029 = .ok (.iconst 0, 1) := by decide +kernel
theorem dL_law_1030 : decode cL_law 1030 = .ok (.ireturn, 1) := by decide +kernel
theorem dL_law_1031 : decode cL_law 1031 = .ok (.iload 5, 2) := by decide +kernel
theorem dL_law_1033 : decode cL_law 1033 = .ok (.ifCond .ne 15, 3) := by decide +kernel
theorem dL_law_1036 : decode cL_law 1036 = .ok (.aload_n 3, 1) := by decide +kernel
theorem dL_law_1037 : decode cL_law 1037 = .ok (.iconst 0, 1) := by decide +kernel
theorem dL_law_1038 : decode cL_law 1038 = .ok (.laload, 1) := by decide +kernel
theorem dL_law_1039 : decode cL_law 1039 = .ok (.iload 6, 2) := by decide +kernel
theorem dL_law_1041 : decode cL_law 1041 = .ok (.i2l, 1) := by decide +kernel
theorem dL_law_1042 : decode cL_law 1042 = .ok (.lcmp, 1) := by decide +kernel
theorem dL_law_1043 : decode cL_law 1043 = .ok (.ifCond .eq 5, 3) := by decide +kernel
theorem dL_law_1046 : decode cL_law 1046 = .ok (.iconst 0, 1) := by decide +kernel
theorem dL_law_1047 : decode cL_law 1047 = .ok (.ireturn, 1) := by decide +kernel
theorem dL_law_1048 : decode cL_law 1048 = .ok (.goto 280, 3) := by decide +kernel
theorem dL_law_1051 : decode cL_law 1051 = .ok (.aload_n 1, 1) := by decide +kernel
theorem dL_law_1052 : decode cL_law 1052 = .ok (.aload_n 0, 1) := by decide +kernel
theorem dL_law_1053 : decode cL_law 1053 = .ok (.iload 4, 2) := by decide +kernel
theorem dL_law_1055 : decode cL_law 1055 = .ok (.iconst 1, 1) := by decide +kernel
theorem dL_law_1056 : decode cL_law 1056 = .ok (.iadd, 1) := by decide +kernel
theorem dL_law_1057 : decode cL_law 1057 = .ok (.iaload, 1) := by decide +kernel
theorem dL_law_1058 : decode cL_law 1058 = .ok (.aload_n 0, 1) := by decide +kernel
theorem dL_law_1059 : decode cL_law 1059 = .ok (.iload 4, 2) := by decide +kernel
theorem dL_law_1061 : decode cL_law 1061 = .ok (.iconst 2, 1) := by decide +kernel
theorem dL_law_1062 : decode cL_law 1062 = .ok (.iadd, 1) := by decide +kernel
theorem dL_law_1063 : decode cL_law 1063 = .ok (.iaload, 1) := by decide +kernel
theorem dL_law_1064 : decode cL_law 1064 = .ok (.aload_n 3, 1) := by decide +kernel
theorem dL_law_1065 : decode cL_law 1065 = .ok (.invokestatic 141, 3) := by decide +kernel
theorem dL_law_1068 : decode cL_law 1068 = .ok (.istore 5, 2) := by decide +kernel
theorem dL_law_1070 : decode cL_law 1070 = .ok (.aload_n 2, 1) := by decide +kernel
theorem dL_law_1071 : decode cL_law 1071 = .ok (.aload_n 0, 1) := by decide +kernel
theorem dL_law_1072 : decode cL_law 1072 = .ok (.iload 4, 2) := by decide +kernel
theorem dL_law_1074 : decode cL_law 1074 = .ok (.iconst 1, 1) := by decide +kernel
theorem dL_law_1075 : decode cL_law 1075 = .ok (.iadd, 1) := by decide +kernel
theorem dL_law_1076 : decode cL_law 1076 = .ok (.iaload, 1) := by decide +kernel
theorem dL_law_1077 : decode cL_law 1077 = .ok (.aload_n 0, 1) := by decide +kernel
theorem dL_law_1078 : decode cL_law 1078 = .ok (.iload 4, 2) := by decide +kernel
theorem dL_law_1080 : decode cL_law 1080 = .ok (.iconst 2, 1) := by decide +kernel
theorem dL_law_1081 : decode cL_law 1081 = .ok (.iadd, 1) := by decide +kernel
theorem dL_law_1082 : decode cL_law 1082 = .ok (.iaload, 1) := by decide +kernel
theorem dL_law_1083 : decode cL_law 1083 = .ok (.invokevirtual 143, 3) := by decide +kernel
theorem dL_law_1086 : decode cL_law 1086 = .ok (.istore 6, 2) := by decide +kernel
theorem dL_law_1088 : decode cL_law 1088 = .ok (.aload_n 2, 1) := by decide +kernel
theorem dL_law_1089 : decode cL_law 1089 = .ok (.invokevirtual 81, 3) := by decide +kernel
theorem dL_law_1092 : decode cL_law 1092 = .ok (.iload 5, 2) := by decide +kernel
theorem dL_law_1094 : decode cL_law 1094 = .ok (.if_icmp .eq 5, 3) := by decide +kernel
theorem dL_law_1097 : decode cL_law 1097 = .ok (.iconst 0, 1) := by decide +kernel
theorem dL_law_1098 : decode cL_law 1098 = .ok (.ireturn, 1) := by decide +kernel
theorem dL_law_1099 : decode cL_law 1099 = .ok (.iload 5, 2) := by decide +kernel
theorem dL_law_1101 : decode cL_law 1101 = .ok (.ifCond .ne 15, 3) := by decide +kernel
theorem dL_law_1104 : decode cL_law 1104 = .ok (.aload_n 3, 1) := by decide +kernel
theorem dL_law_1105 : decode cL_law 1105 = .ok (.iconst 0, 1) := by decide +kernel
theorem dL_law_1106 : decode cL_law 1106 = .ok (.laload, 1) := by decide +kernel
theorem dL_law_1107 : decode cL_law 1107 = .ok (.iload 6, 2) := by decide +kernel
theorem dL_law_1109 : decode cL_law 1109 = .ok (.i2l, 1) := by decide +kernel
theorem dL_law_1110 : decode cL_law 1110 = .ok (.lcmp, 1) := by decide +kernel
theorem dL_law_1111 : decode cL_law 1111 = .ok (.ifCond .eq 5, 3) := by decide +kernel
theorem dL_law_1114 : decode cL_law 1114 = .ok (.iconst 0, 1) := by decide +kernel
theorem dL_law_1115 : decode cL_law 1115 = .ok (.ireturn, 1) := by decide +kernel
theorem dL_law_1116 : decode cL_law 1116 = .ok (.goto 212, 3) := by decide +kernel
theorem dL_law_1119 : decode cL_law 1119 = .ok (.aload_n 1, 1) := by decide +kernel
theorem dL_law_1120 : decode cL_law 1120 = .ok (.aload_n 0, 1) := by decide +kernel
theorem dL_law_1121 : decode cL_law 1121 = .ok (.iload 4, 2) := by decide +kernel
theorem dL_law_1123 : decode cL_law 1123 = .ok (.iconst 1, 1) := by decide +kernel
theorem dL_law_1124 : decode cL_law 1124 = .ok (.iadd, 1) := by decide +kernel
theorem dL_law_1125 : decode cL_law 1125 = .ok (.iaload, 1) := by decide +kernel
theorem dL_law_1126 : decode cL_law 1126 = .ok (.aload_n 3, 1) := by decide +kernel
theorem dL_law_1127 : decode cL_law 1127 = .ok (.invokestatic 144, 3) := by decide +kernel
theorem dL_law_1130 : decode cL_law 1130 = .ok (.istore 5, 2) := by decide +kernel
theorem dL_law_1132 : decode cL_law 1132 = .ok (.aload_n 2, 1) := by decide +kernel
theorem dL_law_1133 : decode cL_law 1133 = .ok (.aload_n 0, 1) := by decide +kernel
theorem dL_law_1134 : decode cL_law 1134 = .ok (.iload 4, 2) := by decide +kernel
theorem dL_law_1136 : decode cL_law 1136 = .ok (.iconst 1, 1) := by decide +kernel
theorem dL_law_1137 : decode cL_law 1137 = .ok (.iadd, 1) := by decide +kernel
theorem dL_law_1138 : decode cL_law 1138 = .ok (.iaload, 1) := by decide +kernel
theorem dL_law_1139 : decode cL_law 1139 = .ok (.invokevirtual 146, 3) := by decide +kernel
theorem dL_law_1142 : decode cL_law 1142 = .ok (.istore 6, 2) := by decide +kernel
theorem dL_law_1144 : decode cL_law 1144 = .ok (.aload_n 2, 1) := by decide +kernel
theorem dL_law_1145 : decode cL_law 1145 = .ok (.invokevirtual 81, 3) := by decide +kernel
theorem dL_law_1148 : decode cL_law 1148 = .ok (.iload 5, 2) := by decide +kernel
theorem dL_law_1150 : decode cL_law 1150 = .ok (.if_icmp .eq 5, 3) := by decide +kernel
theorem dL_law_1153 : decode cL_law 1153 = .ok (.iconst 0, 1) := by decide +kernel
theorem dL_law_1154 : decode cL_law 1154 = .ok (.ireturn, 1) := by decide +kernel
theorem dL_law_1155 : decode cL_law 1155 = .ok (.iload 5, 2) := by decide +kernel
theorem dL_law_1157 : decode cL_law 1157 = .ok (.ifCond .ne 15, 3) := by decide +kernel
theorem dL_law_1160 : decode cL_law 1160 = .ok (.aload_n 3, 1) := by decide +kernel
theorem dL_law_1161 : decode cL_law 1161 = .ok (.iconst 0, 1) := by decide +kernel
theorem dL_law_1162 : decode cL_law 1162 = .ok (.laload, 1) := by decide +kernel
theorem dL_law_1163 : decode cL_law 1163 = .ok (.iload 6, 2) := by decide +kernel
theorem dL_law_1165 : decode cL_law 1165 = .ok (.i2l, 1) := by decide +kernel
theorem dL_law_1166 : decode cL_law 1166 = .ok (.lcmp, 1) := by decide +kernel
theorem dL_law_1167 : decode cL_law 1167 = .ok (.ifCond .eq 5, 3) := by decide +kernel
theorem dL_law_1170 : decode cL_law 1170 = .ok (.iconst 0, 1) := by decide +kernel
theorem dL_law_1171 : decode cL_law 1171 = .ok (.ireturn, 1) := by decide +kernel
theorem dL_law_1172 : decode cL_law 1172 = .ok (.goto 156, 3) := by decide +kernel
theorem dL_law_1175 : decode cL_law 1175 = .ok (.aload_n 1, 1) := by decide +kernel
theorem dL_law_1176 : decode cL_law 1176 = .ok (.aload_n 0, 1) := by decide +kernel
theorem dL_law_1177 : decode cL_law 1177 = .ok (.iload 4, 2) := by decide +kernel
theorem dL_law_1179 : decode cL_law 1179 = .ok (.iconst 1, 1) := by decide +kernel
theorem dL_law_1180 : decode cL_law 1180 = .ok (.iadd, 1) := by decide +kernel
theorem dL_law_1181 : decode cL_law 1181 = .ok (.iaload, 1) := by decide +kernel
theorem dL_law_1182 : decode cL_law 1182 = .ok (.aload_n 3, 1) := by decide +kernel
theorem dL_law_1183 : decode cL_law 1183 = .ok (.invokestatic 147, 3) := by decide +kernel
theorem dL_law_1186 : decode cL_law 1186 = .ok (.istore 5, 2) := by decide +kernel
theorem dL_law_1188 : decode cL_law 1188 = .ok (.aload_n 2, 1) := by decide +kernel
theorem dL_law_1189 : decode cL_law 1189 = .ok (.aload_n 0, 1) := by decide +kernel
theorem dL_law_1190 : decode cL_law 1190 = .ok (.iload 4, 2) := by decide +kernel
theorem dL_law_1192 : decode cL_law 1192 = .ok (.iconst 1, 1) := by decide +kernel
theorem dL_law_1193 : decode cL_law 1193 = .ok (.iadd, 1) := by decide +kernel
theorem dL_law_1194 : decode cL_law 1194 = .ok (.iaload, 1) := by decide +kernel
theorem dL_law_1195 : decode cL_law 1195 = .ok (.invokevirtual 149, 3) := by decide +kernel
theorem dL_law_1198 : decode cL_law 1198 = .ok (.istore 6, 2) := by decide +kernel
theorem dL_law_1200 : decode cL_law 1200 = .ok (.aload_n 2, 1) := by decide +kernel
theorem dL_law_1201 : decode cL_law 1201 = .ok (.invokevirtual 81, 3) := by decide +kernel
theorem dL_law_1204 : decode cL_law 1204 = .ok (.iload 5, 2) := by decide +kernel
theorem dL_law_1206 : decode cL_law 1206 = .ok (.if_icmp .eq 5, 3) := by decide +kernel
theorem dL_law_1209 : decode cL_law 1209 = .ok (.iconst 0, 1) := by decide +kernel
theorem dL_law_1210 : decode cL_law 1210 = .ok (.ireturn, 1) := by decide +kernel
theorem dL_law_1211 : decode cL_law 1211 = .ok (.iload 5, 2) := by decide +kernel
theorem dL_law_1213 : decode cL_law 1213 = .ok (.ifCond .ne 15, 3) := by decide +kernel
theorem dL_law_1216 : decode cL_law 1216 = .ok (.aload_n 3, 1) := by decide +kernel
theorem dL_law_1217 : decode cL_law 1217 = .ok (.iconst 0, 1) := by decide +kernel
theorem dL_law_1218 : decode cL_law 1218 = .ok (.laload, 1) := by decide +kernel
theorem dL_law_1219 : decode cL_law 1219 = .ok (.iload 6, 2) := by decide +kernel
theorem dL_law_1221 : decode cL_law 1221 = .ok (.i2l, 1) := by decide +kernel
theorem dL_law_1222 : decode cL_law 1222 = .ok (.lcmp, 1) := by decide +kernel
theorem dL_law_1223 : decode cL_law 1223 = .ok (.ifCond .eq 5, 3) := by decide +kernel
theorem dL_law_1226 : decode cL_law 1226 = .ok (.iconst 0, 1) := by decide +kernel
theorem dL_law_1227 : decode cL_law 1227 = .ok (.ireturn, 1) := by decide +kernel
theorem dL_law_1228 : decode cL_law 1228 = .ok (.goto 100, 3) := by decide +kernel
theorem dL_law_1231 : decode cL_law 1231 = .ok (.aload_n 1, 1) := by decide +kernel
theorem dL_law_1232 : decode cL_law 1232 = .ok (.invokevirtual 150, 3) := by decide +kernel
theorem dL_law_1235 : decode cL_law 1235 = .ok (.aload_n 2, 1) := by decide +kernel
theorem dL_law_1236 : decode cL_law 1236 = .ok (.invokevirtual 153, 3) := by decide +kernel
theorem dL_law_1239 : decode cL_law 1239 = .ok (.if_icmp .eq 89, 3) := by decide +kernel
theorem dL_law_1242 : decode cL_law 1242 = .ok (.iconst 0, 1) := by decide +kernel
theorem dL_law_1243 : decode cL_law 1243 = .ok (.ireturn, 1) := by decide +kernel
theorem dL_law_1244 : decode cL_law 1244 = .ok (.aload_n 1, 1) := by decide +kernel
theorem dL_law_1245 : decode cL_law 1245 = .ok (.invokevirtual 154, 3) := by decide +kernel
theorem dL_law_1248 : decode cL_law 1248 = .ok (.aload_n 2, 1) := by decide +kernel
theorem dL_law_1249 : decode cL_law 1249 = .ok (.invokevirtual 157, 3) := by decide +kernel
theorem dL_law_1252 : decode cL_law 1252 = .ok (.if_icmp .eq 76, 3) := by decide +kernel
theorem dL_law_1255 : decode cL_law 1255 = .ok (.iconst 0, 1) := by decide +kernel
theorem dL_law_1256 : decode cL_law 1256 = .ok (.ireturn, 1) := by decide +kernel
theorem dL_law_1257 : decode cL_law 1257 = .ok (.aload_n 1, 1) := by decide +kernel
theorem dL_law_1258 : decode cL_law 1258 = .ok (.aload_n 3, 1) := by decide +kernel
theorem dL_law_1259 : decode cL_law 1259 = .ok (.invokestatic 158, 3) := by decide +kernel
theorem dL_law_1262 : decode cL_law 1262 = .ok (.istore 5, 2) := by decide +kernel
theorem dL_law_1264 : decode cL_law 1264 = .ok (.aload_n 2, 1) := by decide +kernel
theorem dL_law_1265 : decode cL_law 1265 = .ok (.invokevirtual 160, 3) := by decide +kernel
theorem dL_law_1268 : decode cL_law 1268 = .ok (.istore 6, 2) := by decide +kernel
theorem dL_law_1270 : decode cL_law 1270 = .ok (.aload_n 2, 1) := by decide +kernel
theorem dL_law_1271 : decode cL_law 1271 = .ok (.invokevirtual 81, 3) := by decide +kernel
theorem dL_law_1274 : decode cL_law 1274 = .ok (.iload 5, 2) := by decide +kernel
theorem dL_law_1276 : decode cL_law 1276 = .ok (.if_icmp .eq 5, 3) := by decide +kernel
theorem dL_law_1279 : decode cL_law 1279 = .ok (.iconst 0, 1) := by decide +kernel
theorem dL_law_1280 : decode cL_law 1280 = .ok (.ireturn, 1) := by decide +kernel
theorem dL_law_1281 : decode cL_law 1281 = .ok (.iload 5, 2) := by decide +kernel
theorem dL_law_1283 : decode cL_law 1283 = .ok (.ifCond .ne 15, 3) := by decide +kernel
theorem dL_law_1286 : decode cL_law 1286 = .ok (.aload_n 3, 1) := by decide +kernel
theorem dL_law_1287 : decode cL_law 1287 = .ok (.iconst 0, 1) := by decide +kernel
theorem dL_law_1288 : decode cL_law 1288 = .ok (.laload, 1) := by decide +kernel
theorem dL_law_1289 : decode cL_law 1289 = .ok (.iload 6, 2) := by decide +kernel
theorem dL_law_1291 : decode cL_law 1291 = .ok (.i2l, 1) := by decide +kernel
theorem dL_law_1292 : decode cL_law 1292 = .ok (.lcmp, 1) := by decide +kernel
theorem dL_law_1293 : decode cL_law 1293 = .ok (.ifCond .eq 5, 3) := by decide +kernel
theorem dL_law_1296 : decode cL_law 1296 = .ok (.iconst 0, 1) := by decide +kernel
theorem dL_law_1297 : decode cL_law 1297 = .ok (.ireturn, 1) := by decide +kernel
theorem dL_law_1298 : decode cL_law 1298 = .ok (.goto 30, 3) := by decide +kernel
theorem dL_law_1301 : decode cL_law 1301 = .ok (.aload_n 1, 1) := by decide +kernel
theorem dL_law_1302 : decode cL_law 1302 = .ok (.invokevirtual 161, 3) := by decide +kernel
theorem dL_law_1305 : decode cL_law 1305 = .ok (.aload_n 2, 1) := by decide +kernel
theorem dL_law_1306 : decode cL_law 1306 = .ok (.invokevirtual 164, 3) := by decide +kernel
theorem dL_law_1309 : decode cL_law 1309 = .ok (.if_icmp .eq 19, 3) := by decide +kernel
theorem dL_law_1312 : decode cL_law 1312 = .ok (.iconst 0, 1) := by decide +kernel
theorem dL_law_1313 : decode cL_law 1313 = .ok (.ireturn, 1) := by decide +kernel
theorem dL_law_1314 : decode cL_law 1314 = .ok (.aload_n 1, 1) := by decide +kernel
theorem dL_law_1315 : decode cL_law 1315 = .ok (.invokevirtual 165, 3) := by decide +kernel
theorem dL_law_1318 : decode cL_law 1318 = .ok (.aload_n 2, 1) := by decide +kernel
theorem dL_law_1319 : decode cL_law 1319 = .ok (.invokevirtual 169, 3) := by decide +kernel
theorem dL_law_1322 : decode cL_law 1322 = .ok (.lcmp, 1) := by decide +kernel
theorem dL_law_1323 : decode cL_law 1323 = .ok (.ifCond .eq 5, 3) := by decide +kernel
theorem dL_law_1326 : decode cL_law 1326 = .ok (.iconst 0, 1) := by decide +kernel
theorem dL_law_1327 : decode cL_law 1327 = .ok (.ireturn, 1) := by decide +kernel
theorem dL_law_1328 : decode cL_law 1328 = .ok (.iinc 4 5, 3) := by decide +kernel
theorem dL_law_1331 : decode cL_law 1331 = .ok (.goto (-1308), 3) := by decide +kernel
theorem dL_law_1334 : decode cL_law 1334 = .ok (.iconst 1, 1) := by decide +kernel
theorem dL_law_1335 : decode cL_law 1335 = .ok (.ireturn, 1) := by decide +kernel
abbrev vwCl : List vw_C := [(RX0, TX0, 2), (RX1, TX1, 4), (RX2, TX2, 11), (RX3, TX3, 7), (RX4, TX4, 3), (RX5, TX5, 9), (RX6, TX6, 6), (RX7, TX7, 14)]
end
section
theorem qT_1 {w : Cond} (h : w ∈ tables_1_1) : w ∈ lw_tbl := List.mem_append_right _ (List.mem_append_left _ (h))
theorem qT_2 {w : Cond} (h : w ∈ tables_1_2) : w ∈ lw_tbl := List.mem_append_right _ (List.mem_append_right _ (List.mem_append_left _ (h)))
theorem qT_3 {w : Cond} (h : w ∈ tables_1_3) : w ∈ lw_tbl := List.mem_append_right _ (List.mem_append_right _ (List.mem_append_right _ (List.mem_append_left _ (h))))
theorem qT_4 {w : Cond} (h : w ∈ tables_1_4) : w ∈ lw_tbl := List.mem_append_right _ (List.mem_append_right _ (List.mem_append_right _ (List.mem_append_right _ (List.mem_append_left _ (h)))))
theorem qT_5 {w : Cond} (h : w ∈ tables_1_5) : w ∈ lw_tbl := List.mem_append_right _ (List.mem_append_right _ (List.mem_append_right _ (List.mem_append_right _ (List.mem_append_right _ (h)))))
theorem qP_0 {q : MethodName × Nat} (h : q ∈ lw_privs_1) : Cond.selects q.1.cls q.1 q.1 ∈ lw_tbl := List.mem_append_left _ (List.mem_map.mpr ⟨q, List.mem_append_left _ (h), rfl⟩)
theorem qP_1 {q : MethodName × Nat} (h : q ∈ lw_privs_2) : Cond.selects q.1.cls q.1 q.1 ∈ lw_tbl := List.mem_append_left _ (List.mem_map.mpr ⟨q, List.mem_append_right _ (List.mem_append_left _ (h)), rfl⟩)
theorem qP_2 {q : MethodName × Nat} (h : q ∈ lw_privs_3) : Cond.selects q.1.cls q.1 q.1 ∈ lw_tbl := List.mem_append_left _ (List.mem_map.mpr ⟨q, List.mem_append_right _ (List.mem_append_right _ (List.mem_append_left _ (h))), rfl⟩)
theorem qP_3 {q : MethodName × Nat} (h : q ∈ lw_privs_4) : Cond.selects q.1.cls q.1 q.1 ∈ lw_tbl := List.mem_append_left _ (List.mem_map.mpr ⟨q, List.mem_append_right _ (List.mem_append_right _ (List.mem_append_right _ (h))), rfl⟩)
theorem qt_1_0 : (Cond.classLink RL 8 RX6) ∈ lw_tbl := qT_1 (List.mem_of_getElem? (i := 22) rfl)
theorem qt_1_1 : (Cond.instantiable RX6 6) ∈ lw_tbl := qT_1 (List.mem_of_getElem? (i := 23) rfl)
theorem qt_1_2 : (Cond.initialized RX6) ∈ lw_tbl := qT_1 (List.mem_of_getElem? (i := 1) rfl)
theorem qt_1_3 : (Cond.classLink RL 72 RX7) ∈ lw_tbl := qT_4 (List.mem_of_getElem? (i := 110) rfl)
theorem qt_1_4 : (Cond.instantiable RX7 14) ∈ lw_tbl := qT_4 (List.mem_of_getElem? (i := 111) rfl)
theorem qt_1_5 : (Cond.initialized RX7) ∈ lw_tbl := qT_1 (List.mem_of_getElem? (i := 8) rfl)
theorem qt_1_6 : (Cond.arrayClass .long) ∈ lw_tbl := qT_1 (List.mem_of_getElem? (i := 137) rfl)
theorem qt_1_7 : (Cond.methodLink RL 71 yX6_init) ∈ lw_tbl := qT_1 (List.mem_of_getElem? (i := 24) rfl)
theorem qt_1_8 : (Cond.instanceMethod yX6_init) ∈ lw_tbl := qT_1 (List.mem_of_getElem? (i := 25) rfl)
theorem qt_1_9 : (Cond.code yX6_init cX6_init 1 none) ∈ lw_tbl := qT_1 (List.mem_of_getElem? (i := 26) rfl)
theorem qt_1_10 : (Cond.methodLink RX6 3 objectInit) ∈ lw_tbl := qT_1 (List.mem_of_getElem? (i := 27) rfl)
theorem qt_1_11 : (Cond.instanceMethod objectInit) ∈ lw_tbl := qT_1 (List.mem_of_getElem? (i := 28) rfl)
theorem qt_1_12 : (Cond.code objectInit ⟨#[0xb1]⟩ 1 none) ∈ lw_tbl := qT_1 (List.mem_of_getElem? (i := 29) rfl)
theorem qt_1_13 : (Cond.classLink RX6 9 RX3) ∈ lw_tbl := qT_1 (List.mem_of_getElem? (i := 30) rfl)
theorem qt_1_14 : (Cond.instantiable RX3 7) ∈ lw_tbl := qT_1 (List.mem_of_getElem? (i := 31) rfl)
theorem qt_1_15 : (Cond.initialized RX3) ∈ lw_tbl := qT_1 (List.mem_of_getElem? (i := 2) rfl)
theorem qt_1_16 : (Cond.fieldLink RX6 12 "ClaimJudge" "program" "LClaimJudge$Program;") ∈ lw_tbl := qT_1 (List.mem_of_getElem? (i := 204) rfl)
theorem qt_1_17 : (Cond.classLink RX6 16 RX0) ∈ lw_tbl := qT_1 (List.mem_of_getElem? (i := 62) rfl)
theorem qt_1_18 : (Cond.instantiable RX0 2) ∈ lw_tbl := qT_1 (List.mem_of_getElem? (i := 63) rfl)
theorem qt_1_19 : (Cond.initialized RX0) ∈ lw_tbl := qT_1 (List.mem_of_getElem? (i := 3) rfl)
theorem qt_1_20 : (Cond.fieldLink RX6 19 "ClaimJudge" "assumption" "LClaimJudge$Assumption;") ∈ lw_tbl := qT_1 (List.mem_of_getElem? (i := 205) rfl)
theorem qt_1_21 : (Cond.classLink RX6 23 RX4) ∈ lw_tbl := qT_1 (List.mem_of_getElem? (i := 75) rfl)
theorem qt_1_22 : (Cond.instantiable RX4 3) ∈ lw_tbl := qT_1 (List.mem_of_getElem? (i := 76) rfl)
theorem qt_1_23 : (Cond.initialized RX4) ∈ lw_tbl := qT_1 (List.mem_of_getElem? (i := 4) rfl)
theorem qr_1 : ∀ w ∈ wsL_law0_r1, w ∈ lw_tbl := by
  intro w hw
  simp only [wsL_law0_r1, List.mem_cons, List.not_mem_nil, or_false] at hw
  rcases hw with rfl | rfl | rfl | rfl | rfl | rfl | rfl | rfl | rfl | rfl | rfl | rfl | rfl | rfl | rfl | rfl | rfl | rfl | rfl | rfl | rfl | rfl | rfl | rfl
  · exact qt_1_0
  · exact qt_1_1
  · exact qt_1_2
  · exact qt_1_3
  · exact qt_1_4
  · exact qt_1_5
  · exact qt_1_6
  · exact qt_1_7
  · exact qt_1_8
  · exact qt_1_9
  · exact qt_1_10
  · exact qt_1_11
  · exact qt_1_12
  · exact qt_1_13
  · exact qt_1_14
  · exact qt_1_15
  · exact qt_1_16
  · exact qt_1_17
  · exact qt_1_18
  · exact qt_1_19
  · exact qt_1_20
  · exact qt_1_21
  · exact qt_1_22
  · exact qt_1_23
theorem qt_2_0 : (Cond.fieldLink RX6 28 "ClaimJudge" "runs" "LClaimJudge$Runs;") ∈ lw_tbl := qT_1 (List.mem_of_getElem? (i := 206) rfl)
theorem qt_2_1 : (Cond.classLink RX6 32 RX2) ∈ lw_tbl := qT_1 (List.mem_of_getElem? (i := 91) rfl)
theorem qt_2_2 : (Cond.instantiable RX2 11) ∈ lw_tbl := qT_1 (List.mem_of_getElem? (i := 92) rfl)
theorem qt_2_3 : (Cond.initialized RX2) ∈ lw_tbl := qT_1 (List.mem_of_getElem? (i := 5) rfl)
theorem qt_2_4 : (Cond.fieldLink RX6 37 "ClaimJudge" "judgement" "LClaimJudge$Judgement;") ∈ lw_tbl := qT_1 (List.mem_of_getElem? (i := 207) rfl)
theorem qt_2_5 : (Cond.classLink RX6 41 RX1) ∈ lw_tbl := qT_1 (List.mem_of_getElem? (i := 138) rfl)
theorem qt_2_6 : (Cond.instantiable RX1 4) ∈ lw_tbl := qT_1 (List.mem_of_getElem? (i := 139) rfl)
theorem qt_2_7 : (Cond.initialized RX1) ∈ lw_tbl := qT_1 (List.mem_of_getElem? (i := 6) rfl)
theorem qt_2_8 : (Cond.fieldLink RX6 44 "ClaimJudge" "history" "LClaimJudge$History;") ∈ lw_tbl := qT_1 (List.mem_of_getElem? (i := 208) rfl)
theorem qt_2_9 : (Cond.classLink RX6 48 RX5) ∈ lw_tbl := qT_1 (List.mem_of_getElem? (i := 164) rfl)
theorem qt_2_10 : (Cond.instantiable RX5 9) ∈ lw_tbl := qT_1 (List.mem_of_getElem? (i := 165) rfl)
theorem qt_2_11 : (Cond.initialized RX5) ∈ lw_tbl := qT_1 (List.mem_of_getElem? (i := 7) rfl)
theorem qt_2_12 : (Cond.fieldLink RX6 51 "ClaimJudge" "text" "LClaimJudge$Text;") ∈ lw_tbl := qT_1 (List.mem_of_getElem? (i := 209) rfl)
theorem qt_2_13 : (Cond.instanceMethod yX3_init) ∈ lw_tbl := qT_1 (List.mem_of_getElem? (i := 33) rfl)
theorem qt_2_14 : (Cond.code yX3_init cX3_init 1 none) ∈ lw_tbl := qT_1 (List.mem_of_getElem? (i := 34) rfl)
theorem qt_2_15 : (Cond.methodLink RX3 3 objectInit) ∈ lw_tbl := qT_1 (List.mem_of_getElem? (i := 35) rfl)
theorem qt_2_16 : (Cond.arrayClass .int) ∈ lw_tbl := qT_1 (List.mem_of_getElem? (i := 61) rfl)
theorem qt_2_17 : (Cond.fieldLink RX3 9 "ClaimJudge$Program" "kinds" "[I") ∈ lw_tbl := qT_1 (List.mem_of_getElem? (i := 38) rfl)
theorem qt_2_18 : (Cond.fieldLink RX3 15 "ClaimJudge$Program" "variables" "[I") ∈ lw_tbl := qT_1 (List.mem_of_getElem? (i := 40) rfl)
theorem qt_2_19 : (Cond.fieldLink RX3 18 "ClaimJudge$Program" "signs" "[I") ∈ lw_tbl := qT_1 (List.mem_of_getElem? (i := 41) rfl)
theorem qt_2_20 : (Cond.fieldLink RX3 21 "ClaimJudge$Program" "operands" "[I") ∈ lw_tbl := qT_1 (List.mem_of_getElem? (i := 42) rfl)
theorem qt_2_21 : (Cond.fieldLink RX3 24 "ClaimJudge$Program" "addends" "[I") ∈ lw_tbl := qT_1 (List.mem_of_getElem? (i := 43) rfl)
theorem qt_2_22 : (Cond.fieldLink RX3 27 "ClaimJudge$Program" "targets" "[I") ∈ lw_tbl := qT_1 (List.mem_of_getElem? (i := 44) rfl)
theorem qt_2_23 : (Cond.instanceMethod yX0_init) ∈ lw_tbl := qT_1 (List.mem_of_getElem? (i := 65) rfl)
theorem qr_2 : ∀ w ∈ wsL_law0_r2, w ∈ lw_tbl := by
  intro w hw
  simp only [wsL_law0_r2, List.mem_cons, List.not_mem_nil, or_false] at hw
  rcases hw with rfl | rfl | rfl | rfl | rfl | rfl | rfl | rfl | rfl | rfl | rfl | rfl | rfl | rfl | rfl | rfl | rfl | rfl | rfl | rfl | rfl | rfl | rfl | rfl
  · exact qt_2_0
  · exact qt_2_1
  · exact qt_2_2
  · exact qt_2_3
  · exact qt_2_4
  · exact qt_2_5
  · exact qt_2_6
  · exact qt_2_7
  · exact qt_2_8
  · exact qt_2_9
  · exact qt_2_10
  · exact qt_2_11
  · exact qt_2_12
  · exact qt_2_13
  · exact qt_2_14
  · exact qt_2_15
  · exact qt_2_16
  · exact qt_2_17
  · exact qt_2_18
  · exact qt_2_19
  · exact qt_2_20
  · exact qt_2_21
  · exact qt_2_22
  · exact qt_2_23
theorem qt_3_0 : (Cond.code yX0_init cX0_init 1 none) ∈ lw_tbl := qT_1 (List.mem_of_getElem? (i := 66) rfl)
theorem qt_3_1 : (Cond.methodLink RX0 3 objectInit) ∈ lw_tbl := qT_1 (List.mem_of_getElem? (i := 67) rfl)
theorem qt_3_2 : (Cond.fieldLink RX0 9 "ClaimJudge$Assumption" "lowest" "[I") ∈ lw_tbl := qT_1 (List.mem_of_getElem? (i := 68) rfl)
theorem qt_3_3 : (Cond.fieldLink RX0 15 "ClaimJudge$Assumption" "highest" "[I") ∈ lw_tbl := qT_1 (List.mem_of_getElem? (i := 69) rfl)
theorem qt_3_4 : (Cond.methodLink RX6 25 yX4_init) ∈ lw_tbl := qT_1 (List.mem_of_getElem? (i := 77) rfl)
theorem qt_3_5 : (Cond.instanceMethod yX4_init) ∈ lw_tbl := qT_1 (List.mem_of_getElem? (i := 78) rfl)
theorem qt_3_6 : (Cond.code yX4_init cX4_init 2 none) ∈ lw_tbl := qT_1 (List.mem_of_getElem? (i := 79) rfl)
theorem qt_3_7 : (Cond.methodLink RX4 3 objectInit) ∈ lw_tbl := qT_1 (List.mem_of_getElem? (i := 80) rfl)
theorem qt_3_8 : (Cond.fieldLink RX4 9 "ClaimJudge$Runs" "ends" "[I") ∈ lw_tbl := qT_1 (List.mem_of_getElem? (i := 82) rfl)
theorem qt_3_9 : (Cond.fieldLink RX4 15 "ClaimJudge$Runs" "stale" "Z") ∈ lw_tbl := qT_1 (List.mem_of_getElem? (i := 83) rfl)
theorem qt_3_10 : (Cond.fieldLink RX4 19 "ClaimJudge$Runs" "program" "LClaimJudge$Program;") ∈ lw_tbl := qT_1 (List.mem_of_getElem? (i := 81) rfl)
theorem qt_3_11 : (Cond.methodLink RX6 34 yX2_init) ∈ lw_tbl := qT_1 (List.mem_of_getElem? (i := 93) rfl)
theorem qt_3_12 : (Cond.instanceMethod yX2_init) ∈ lw_tbl := qT_1 (List.mem_of_getElem? (i := 94) rfl)
theorem qt_3_13 : (Cond.code yX2_init cX2_init 4 none) ∈ lw_tbl := qT_1 (List.mem_of_getElem? (i := 95) rfl)
theorem qt_3_14 : (Cond.methodLink RX2 3 objectInit) ∈ lw_tbl := qT_1 (List.mem_of_getElem? (i := 96) rfl)
theorem qt_3_15 : (Cond.fieldLink RX2 9 "ClaimJudge$Judgement" "examples" "[I") ∈ lw_tbl := qT_1 (List.mem_of_getElem? (i := 100) rfl)
theorem qt_3_16 : (Cond.fieldLink RX2 15 "ClaimJudge$Judgement" "lows" "[I") ∈ lw_tbl := qT_1 (List.mem_of_getElem? (i := 102) rfl)
theorem qt_3_17 : (Cond.fieldLink RX2 18 "ClaimJudge$Judgement" "highs" "[I") ∈ lw_tbl := qT_1 (List.mem_of_getElem? (i := 104) rfl)
theorem qt_3_18 : (Cond.fieldLink RX2 21 "ClaimJudge$Judgement" "visited" "[J") ∈ lw_tbl := qT_1 (List.mem_of_getElem? (i := 112) rfl)
theorem qt_3_19 : (Cond.fieldLink RX2 25 "ClaimJudge$Judgement" "stale" "Z") ∈ lw_tbl := qT_1 (List.mem_of_getElem? (i := 113) rfl)
theorem qt_3_20 : (Cond.fieldLink RX2 29 "ClaimJudge$Judgement" "program" "LClaimJudge$Program;") ∈ lw_tbl := qT_1 (List.mem_of_getElem? (i := 97) rfl)
theorem qt_3_21 : (Cond.fieldLink RX2 33 "ClaimJudge$Judgement" "assumption" "LClaimJudge$Assumption;") ∈ lw_tbl := qT_1 (List.mem_of_getElem? (i := 98) rfl)
theorem qt_3_22 : (Cond.fieldLink RX2 37 "ClaimJudge$Judgement" "runs" "LClaimJudge$Runs;") ∈ lw_tbl := qT_1 (List.mem_of_getElem? (i := 99) rfl)
theorem qt_3_23 : (Cond.methodLink RX6 43 yX1_init) ∈ lw_tbl := qT_1 (List.mem_of_getElem? (i := 140) rfl)
theorem qr_3 : ∀ w ∈ wsL_law0_r3, w ∈ lw_tbl := by
  intro w hw
  simp only [wsL_law0_r3, List.mem_cons, List.not_mem_nil, or_false] at hw
  rcases hw with rfl | rfl | rfl | rfl | rfl | rfl | rfl | rfl | rfl | rfl | rfl | rfl | rfl | rfl | rfl | rfl | rfl | rfl | rfl | rfl | rfl | rfl | rfl | rfl
  · exact qt_3_0
  · exact qt_3_1
  · exact qt_3_2
  · exact qt_3_3
  · exact qt_3_4
  · exact qt_3_5
  · exact qt_3_6
  · exact qt_3_7
  · exact qt_3_8
  · exact qt_3_9
  · exact qt_3_10
  · exact qt_3_11
  · exact qt_3_12
  · exact qt_3_13
  · exact qt_3_14
  · exact qt_3_15
  · exact qt_3_16
  · exact qt_3_17
  · exact qt_3_18
  · exact qt_3_19
  · exact qt_3_20
  · exact qt_3_21
  · exact qt_3_22
  · exact qt_3_23
theorem qt_4_0 : (Cond.instanceMethod yX1_init) ∈ lw_tbl := qT_1 (List.mem_of_getElem? (i := 141) rfl)
theorem qt_4_1 : (Cond.code yX1_init cX1_init 2 none) ∈ lw_tbl := qT_1 (List.mem_of_getElem? (i := 142) rfl)
theorem qt_4_2 : (Cond.methodLink RX1 3 objectInit) ∈ lw_tbl := qT_1 (List.mem_of_getElem? (i := 143) rfl)
theorem qt_4_3 : (Cond.classLink RX1 9 RX3) ∈ lw_tbl := qT_1 (List.mem_of_getElem? (i := 144) rfl)
theorem qt_4_4 : (Cond.fieldLink RX1 11 "ClaimJudge$History" "programs" "[LClaimJudge$Program;") ∈ lw_tbl := qT_1 (List.mem_of_getElem? (i := 150) rfl)
theorem qt_4_5 : (Cond.classLink RX1 17 RX0) ∈ lw_tbl := qT_1 (List.mem_of_getElem? (i := 146) rfl)
theorem qt_4_6 : (Cond.fieldLink RX1 19 "ClaimJudge$History" "assumptions" "[LClaimJudge$Assumption;") ∈ lw_tbl := qT_1 (List.mem_of_getElem? (i := 151) rfl)
theorem qt_4_7 : (Cond.instanceMethod yX5_init) ∈ lw_tbl := qT_1 (List.mem_of_getElem? (i := 167) rfl)
theorem qt_4_8 : (Cond.code yX5_init cX5_init 1 none) ∈ lw_tbl := qT_1 (List.mem_of_getElem? (i := 168) rfl)
theorem qt_4_9 : (Cond.methodLink RX5 3 objectInit) ∈ lw_tbl := qT_1 (List.mem_of_getElem? (i := 169) rfl)
theorem qt_4_10 : (Cond.arrayClass .char) ∈ lw_tbl := qT_1 (List.mem_of_getElem? (i := 203) rfl)
theorem qt_4_11 : (Cond.fieldLink RX5 9 "ClaimJudge$Text" "characters" "[C") ∈ lw_tbl := qT_1 (List.mem_of_getElem? (i := 172) rfl)
theorem qt_4_12 : (Cond.classLink RX5 15 RX3) ∈ lw_tbl := qT_1 (List.mem_of_getElem? (i := 170) rfl)
theorem qt_4_13 : (Cond.fieldLink RX5 18 "ClaimJudge$Text" "loaded" "LClaimJudge$Program;") ∈ lw_tbl := qT_1 (List.mem_of_getElem? (i := 175) rfl)
theorem qt_4_14 : (Cond.methodLink RL 74 yX7_init) ∈ lw_tbl := qT_4 (List.mem_of_getElem? (i := 112) rfl)
theorem qt_4_15 : (Cond.instanceMethod yX7_init) ∈ lw_tbl := qT_4 (List.mem_of_getElem? (i := 113) rfl)
theorem qt_4_16 : (Cond.code yX7_init cX7_init 2 none) ∈ lw_tbl := qT_4 (List.mem_of_getElem? (i := 114) rfl)
theorem qt_4_17 : (Cond.methodLink RX7 1 objectInit) ∈ lw_tbl := qT_4 (List.mem_of_getElem? (i := 115) rfl)
theorem qt_4_18 : (Cond.fieldLink RX7 7 "ClaimJudgeModel" "s" "[I") ∈ lw_tbl := qT_4 (List.mem_of_getElem? (i := 117) rfl)
theorem qt_4_19 : (Cond.fieldLink RX7 13 "ClaimJudgeModel" "saved" "[I") ∈ lw_tbl := qT_4 (List.mem_of_getElem? (i := 118) rfl)
theorem qt_4_20 : (Cond.fieldLink RX7 16 "ClaimJudgeModel" "text" "[I") ∈ lw_tbl := qT_4 (List.mem_of_getElem? (i := 120) rfl)
theorem qt_4_21 : (Cond.fieldLink RX7 19 "ClaimJudgeModel" "read" "[I") ∈ lw_tbl := qT_4 (List.mem_of_getElem? (i := 122) rfl)
theorem qt_4_22 : (Cond.fieldLink RX7 22 "ClaimJudgeModel" "ends" "[I") ∈ lw_tbl := qT_4 (List.mem_of_getElem? (i := 125) rfl)
theorem qt_4_23 : (Cond.arrayClass .boolean) ∈ lw_tbl := qT_4 (List.mem_of_getElem? (i := 159) rfl)
theorem qr_4 : ∀ w ∈ wsL_law0_r4, w ∈ lw_tbl := by
  intro w hw
  simp only [wsL_law0_r4, List.mem_cons, List.not_mem_nil, or_false] at hw
  rcases hw with rfl | rfl | rfl | rfl | rfl | rfl | rfl | rfl | rfl | rfl | rfl | rfl | rfl | rfl | rfl | rfl | rfl | rfl | rfl | rfl | rfl | rfl | rfl | rfl
  · exact qt_4_0
  · exact qt_4_1
  · exact qt_4_2
  · exact qt_4_3
  · exact qt_4_4
  · exact qt_4_5
  · exact qt_4_6
  · exact qt_4_7
  · exact qt_4_8
  · exact qt_4_9
  · exact qt_4_10
  · exact qt_4_11
  · exact qt_4_12
  · exact qt_4_13
  · exact qt_4_14
  · exact qt_4_15
  · exact qt_4_16
  · exact qt_4_17
  · exact qt_4_18
  · exact qt_4_19
  · exact qt_4_20
  · exact qt_4_21
  · exact qt_4_22
  · exact qt_4_23
theorem qt_5_0 : (Cond.fieldLink RX7 25 "ClaimJudgeModel" "seen" "[Z") ∈ lw_tbl := qT_4 (List.mem_of_getElem? (i := 126) rfl)
theorem qt_5_1 : (Cond.methodLink RL 75 yL_load) ∈ lw_tbl := qT_3 (List.mem_of_getElem? (i := 139) rfl)
theorem qt_5_2 : (Cond.static yL_load) ∈ lw_tbl := qT_3 (List.mem_of_getElem? (i := 140) rfl)
theorem qt_5_3 : (Cond.initialized RL) ∈ lw_tbl := qT_1 (List.mem_of_getElem? (i := 0) rfl)
theorem qt_5_4 : (Cond.codeWith yL_load cL_load 3 (some .int) [(0, 8, 11, 13)]) ∈ lw_tbl := qT_3 (List.mem_of_getElem? (i := 141) rfl)
theorem qt_5_5 : (Cond.classLink RL 13 "java/lang/IllegalArgumentException") ∈ lw_tbl := qT_3 (List.mem_of_getElem? (i := 142) rfl)
theorem qt_5_6 : (Cond.methodLink RL 7 yX6_load) ∈ lw_tbl := qT_3 (List.mem_of_getElem? (i := 143) rfl)
theorem qt_5_7 : (Cond.instanceMethod yX6_load) ∈ lw_tbl := qT_3 (List.mem_of_getElem? (i := 144) rfl)
theorem qt_5_8 : (Cond.selects RX6 yX6_load yX6_load) ∈ lw_tbl := qT_3 (List.mem_of_getElem? (i := 145) rfl)
theorem qt_5_9 : (Cond.code yX6_load cX6_load 2 (some .int)) ∈ lw_tbl := qT_3 (List.mem_of_getElem? (i := 146) rfl)
theorem qt_5_10 : (Cond.classLink RX6 70 "java/lang/IllegalArgumentException") ∈ lw_tbl := qT_3 (List.mem_of_getElem? (i := 152) rfl)
theorem qt_5_11 : (Cond.initialized "java/lang/IllegalArgumentException") ∈ lw_tbl := qT_1 (List.mem_of_getElem? (i := 18) rfl)
theorem qt_5_12 : (Cond.methodLink RX6 58 yX5_readAll) ∈ lw_tbl := qT_2 (List.mem_of_getElem? (i := 99) rfl)
theorem qt_5_13 : (Cond.instanceMethod yX5_readAll) ∈ lw_tbl := qT_2 (List.mem_of_getElem? (i := 100) rfl)
theorem qt_5_14 : (Cond.selects RX5 yX5_readAll yX5_readAll) ∈ lw_tbl := qT_2 (List.mem_of_getElem? (i := 101) rfl)
theorem qt_5_15 : (Cond.code yX5_readAll cX5_readAll 2 (some .boolean)) ∈ lw_tbl := qT_2 (List.mem_of_getElem? (i := 102) rfl)
theorem qt_5_16 : (Cond.fieldLink RX5 26 "ClaimJudge$Text" "at" "I") ∈ lw_tbl := qT_1 (List.mem_of_getElem? (i := 177) rfl)
theorem qt_5_17 : (Cond.fieldLink RX5 22 "ClaimJudge$Text" "length" "I") ∈ lw_tbl := qT_1 (List.mem_of_getElem? (i := 173) rfl)
theorem qt_5_18 : (Cond.methodLink RX5 29 yX3_clear) ∈ lw_tbl := qT_2 (List.mem_of_getElem? (i := 103) rfl)
theorem qt_5_19 : (Cond.instanceMethod yX3_clear) ∈ lw_tbl := qT_2 (List.mem_of_getElem? (i := 104) rfl)
theorem qt_5_20 : (Cond.selects RX3 yX3_clear yX3_clear) ∈ lw_tbl := qT_2 (List.mem_of_getElem? (i := 105) rfl)
theorem qt_5_21 : (Cond.code yX3_clear cX3_clear 1 none) ∈ lw_tbl := qT_2 (List.mem_of_getElem? (i := 106) rfl)
theorem qt_5_22 : (Cond.fieldLink RX3 30 "ClaimJudge$Program" "size" "I") ∈ lw_tbl := qT_1 (List.mem_of_getElem? (i := 36) rfl)
theorem qt_5_23 : (Cond.methodLink RX5 32 yX5_takeStatement) ∈ lw_tbl := qT_2 (List.mem_of_getElem? (i := 107) rfl)
theorem qr_5 : ∀ w ∈ wsL_law0_r5, w ∈ lw_tbl := by
  intro w hw
  simp only [wsL_law0_r5, List.mem_cons, List.not_mem_nil, or_false] at hw
  rcases hw with rfl | rfl | rfl | rfl | rfl | rfl | rfl | rfl | rfl | rfl | rfl | rfl | rfl | rfl | rfl | rfl | rfl | rfl | rfl | rfl | rfl | rfl | rfl | rfl
  · exact qt_5_0
  · exact qt_5_1
  · exact qt_5_2
  · exact qt_5_3
  · exact qt_5_4
  · exact qt_5_5
  · exact qt_5_6
  · exact qt_5_7
  · exact qt_5_8
  · exact qt_5_9
  · exact qt_5_10
  · exact qt_5_11
  · exact qt_5_12
  · exact qt_5_13
  · exact qt_5_14
  · exact qt_5_15
  · exact qt_5_16
  · exact qt_5_17
  · exact qt_5_18
  · exact qt_5_19
  · exact qt_5_20
  · exact qt_5_21
  · exact qt_5_22
  · exact qt_5_23
theorem qt_6_0 : (Cond.instanceMethod yX5_takeStatement) ∈ lw_tbl := qT_2 (List.mem_of_getElem? (i := 109) rfl)
theorem qt_6_1 : (Cond.selects RX5 yX5_takeStatement yX5_takeStatement) ∈ lw_tbl := qP_0 (List.mem_of_getElem? (l := lw_privs_1) (i := 7) rfl)
theorem qt_6_2 : (Cond.code yX5_takeStatement cX5_takeStatement 1 (some .boolean)) ∈ lw_tbl := qT_2 (List.mem_of_getElem? (i := 110) rfl)
theorem qt_6_3 : (Cond.fieldLink RX5 40 "ClaimJudge$Text" "sign" "I") ∈ lw_tbl := qT_1 (List.mem_of_getElem? (i := 180) rfl)
theorem qt_6_4 : (Cond.fieldLink RX5 43 "ClaimJudge$Text" "addend" "I") ∈ lw_tbl := qT_1 (List.mem_of_getElem? (i := 182) rfl)
theorem qt_6_5 : (Cond.fieldLink RX5 46 "ClaimJudge$Text" "goal" "I") ∈ lw_tbl := qT_1 (List.mem_of_getElem? (i := 183) rfl)
theorem qt_6_6 : (Cond.methodLink RX5 36 yX5_take) ∈ lw_tbl := qT_2 (List.mem_of_getElem? (i := 111) rfl)
theorem qt_6_7 : (Cond.instanceMethod yX5_take) ∈ lw_tbl := qT_2 (List.mem_of_getElem? (i := 113) rfl)
theorem qt_6_8 : (Cond.selects RX5 yX5_take yX5_take) ∈ lw_tbl := qP_0 (List.mem_of_getElem? (l := lw_privs_1) (i := 8) rfl)
theorem qt_6_9 : (Cond.code yX5_take cX5_take 2 (some .boolean)) ∈ lw_tbl := qT_2 (List.mem_of_getElem? (i := 114) rfl)
theorem qt_6_10 : (Cond.methodLink RX5 83 yX5_next) ∈ lw_tbl := qT_2 (List.mem_of_getElem? (i := 115) rfl)
theorem qt_6_11 : (Cond.instanceMethod yX5_next) ∈ lw_tbl := qT_2 (List.mem_of_getElem? (i := 117) rfl)
theorem qt_6_12 : (Cond.selects RX5 yX5_next yX5_next) ∈ lw_tbl := qP_0 (List.mem_of_getElem? (l := lw_privs_1) (i := 9) rfl)
theorem qt_6_13 : (Cond.code yX5_next cX5_next 1 (some .char)) ∈ lw_tbl := qT_2 (List.mem_of_getElem? (i := 118) rfl)
theorem qt_6_14 : (Cond.methodLink RX5 49 yX5_takeTest) ∈ lw_tbl := qT_2 (List.mem_of_getElem? (i := 119) rfl)
theorem qt_6_15 : (Cond.instanceMethod yX5_takeTest) ∈ lw_tbl := qT_2 (List.mem_of_getElem? (i := 121) rfl)
theorem qt_6_16 : (Cond.selects RX5 yX5_takeTest yX5_takeTest) ∈ lw_tbl := qP_0 (List.mem_of_getElem? (l := lw_privs_1) (i := 10) rfl)
theorem qt_6_17 : (Cond.code yX5_takeTest cX5_takeTest 1 (some .boolean)) ∈ lw_tbl := qT_2 (List.mem_of_getElem? (i := 122) rfl)
theorem qt_6_18 : (Cond.methodLink RX5 59 yX5_takeVariable) ∈ lw_tbl := qT_2 (List.mem_of_getElem? (i := 123) rfl)
theorem qt_6_19 : (Cond.instanceMethod yX5_takeVariable) ∈ lw_tbl := qT_2 (List.mem_of_getElem? (i := 125) rfl)
theorem qt_6_20 : (Cond.selects RX5 yX5_takeVariable yX5_takeVariable) ∈ lw_tbl := qP_0 (List.mem_of_getElem? (l := lw_privs_1) (i := 11) rfl)
theorem qt_6_21 : (Cond.code yX5_takeVariable cX5_takeVariable 2 (some .boolean)) ∈ lw_tbl := qT_2 (List.mem_of_getElem? (i := 126) rfl)
theorem qt_6_22 : (Cond.fieldLink RX5 68 "ClaimJudge$Text" "variable" "I") ∈ lw_tbl := qT_1 (List.mem_of_getElem? (i := 179) rfl)
theorem qt_6_23 : (Cond.methodLink RX5 87 yJ0_indexOf_0f7a4) ∈ lw_tbl := qT_2 (List.mem_of_getElem? (i := 128) rfl)
theorem qr_6 : ∀ w ∈ wsL_law0_r6, w ∈ lw_tbl := by
  intro w hw
  simp only [wsL_law0_r6, List.mem_cons, List.not_mem_nil, or_false] at hw
  rcases hw with rfl | rfl | rfl | rfl | rfl | rfl | rfl | rfl | rfl | rfl | rfl | rfl | rfl | rfl | rfl | rfl | rfl | rfl | rfl | rfl | rfl | rfl | rfl | rfl
  · exact qt_6_0
  · exact qt_6_1
  · exact qt_6_2
  · exact qt_6_3
  · exact qt_6_4
  · exact qt_6_5
  · exact qt_6_6
  · exact qt_6_7
  · exact qt_6_8
  · exact qt_6_9
  · exact qt_6_10
  · exact qt_6_11
  · exact qt_6_12
  · exact qt_6_13
  · exact qt_6_14
  · exact qt_6_15
  · exact qt_6_16
  · exact qt_6_17
  · exact qt_6_18
  · exact qt_6_19
  · exact qt_6_20
  · exact qt_6_21
  · exact qt_6_22
  · exact qt_6_23
theorem qt_7_0 : (Cond.instanceMethod yJ0_indexOf_0f7a4) ∈ lw_tbl := qT_2 (List.mem_of_getElem? (i := 129) rfl)
theorem qt_7_1 : (Cond.selects RJ0 yJ0_indexOf_0f7a4 yJ0_indexOf_0f7a4) ∈ lw_tbl := qT_2 (List.mem_of_getElem? (i := 130) rfl)
theorem qt_7_2 : (Cond.initialized RJ0) ∈ lw_tbl := qT_1 (List.mem_of_getElem? (i := 9) rfl)
theorem qt_7_3 : (Cond.code yJ0_indexOf_0f7a4 cJ0_indexOf_0f7a4 2 (some .int)) ∈ lw_tbl := qT_2 (List.mem_of_getElem? (i := 131) rfl)
theorem qt_7_4 : (Cond.methodLink RJ0 633 yJ0_indexOf_7cf53) ∈ lw_tbl := qT_2 (List.mem_of_getElem? (i := 132) rfl)
theorem qt_7_5 : (Cond.instanceMethod yJ0_indexOf_7cf53) ∈ lw_tbl := qT_2 (List.mem_of_getElem? (i := 133) rfl)
theorem qt_7_6 : (Cond.selects RJ0 yJ0_indexOf_7cf53 yJ0_indexOf_7cf53) ∈ lw_tbl := qT_2 (List.mem_of_getElem? (i := 134) rfl)
theorem qt_7_7 : (Cond.code yJ0_indexOf_7cf53 cJ0_indexOf_7cf53 3 (some .int)) ∈ lw_tbl := qT_2 (List.mem_of_getElem? (i := 135) rfl)
theorem qt_7_8 : (Cond.fieldLink RJ0 9 "java/lang/String" "value" "[B") ∈ lw_tbl := qT_5 (List.mem_of_getElem? (i := 174) rfl)
theorem qt_7_9 : (Cond.methodLink RJ0 492 yJ0_isLatin1_aae02) ∈ lw_tbl := qT_2 (List.mem_of_getElem? (i := 136) rfl)
theorem qt_7_10 : (Cond.instanceMethod yJ0_isLatin1_aae02) ∈ lw_tbl := qT_2 (List.mem_of_getElem? (i := 137) rfl)
theorem qt_7_11 : (Cond.selects RJ0 yJ0_isLatin1_aae02 yJ0_isLatin1_aae02) ∈ lw_tbl := qT_2 (List.mem_of_getElem? (i := 138) rfl)
theorem qt_7_12 : (Cond.code yJ0_isLatin1_aae02 cJ0_isLatin1_aae02 1 (some .boolean)) ∈ lw_tbl := qT_2 (List.mem_of_getElem? (i := 139) rfl)
theorem qt_7_13 : (Cond.fieldLink RJ0 38 "java/lang/String" "COMPACT_STRINGS" "Z") ∈ lw_tbl := qT_2 (List.mem_of_getElem? (i := 140) rfl)
theorem qt_7_14 : (Cond.fieldLink RJ0 15 "java/lang/String" "coder" "B") ∈ lw_tbl := qT_5 (List.mem_of_getElem? (i := 173) rfl)
theorem qt_7_15 : (Cond.methodLink RJ0 505 yJ0_length_8abf5) ∈ lw_tbl := qT_2 (List.mem_of_getElem? (i := 142) rfl)
theorem qt_7_16 : (Cond.instanceMethod yJ0_length_8abf5) ∈ lw_tbl := qT_2 (List.mem_of_getElem? (i := 143) rfl)
theorem qt_7_17 : (Cond.selects RJ0 yJ0_length_8abf5 yJ0_length_8abf5) ∈ lw_tbl := qT_2 (List.mem_of_getElem? (i := 144) rfl)
theorem qt_7_18 : (Cond.code yJ0_length_8abf5 cJ0_length_8abf5 1 (some .int)) ∈ lw_tbl := qT_2 (List.mem_of_getElem? (i := 145) rfl)
theorem qt_7_19 : (Cond.methodLink RJ0 335 yJ0_coder_7d493) ∈ lw_tbl := qT_2 (List.mem_of_getElem? (i := 146) rfl)
theorem qt_7_20 : (Cond.instanceMethod yJ0_coder_7d493) ∈ lw_tbl := qT_2 (List.mem_of_getElem? (i := 147) rfl)
theorem qt_7_21 : (Cond.selects RJ0 yJ0_coder_7d493 yJ0_coder_7d493) ∈ lw_tbl := qT_2 (List.mem_of_getElem? (i := 148) rfl)
theorem qt_7_22 : (Cond.code yJ0_coder_7d493 cJ0_coder_7d493 1 (some .byte)) ∈ lw_tbl := qT_2 (List.mem_of_getElem? (i := 149) rfl)
theorem qt_7_23 : (Cond.methodLink RJ0 637 yJ1_indexOf_4cfef) ∈ lw_tbl := qT_2 (List.mem_of_getElem? (i := 150) rfl)
theorem qr_7 : ∀ w ∈ wsL_law0_r7, w ∈ lw_tbl := by
  intro w hw
  simp only [wsL_law0_r7, List.mem_cons, List.not_mem_nil, or_false] at hw
  rcases hw with rfl | rfl | rfl | rfl | rfl | rfl | rfl | rfl | rfl | rfl | rfl | rfl | rfl | rfl | rfl | rfl | rfl | rfl | rfl | rfl | rfl | rfl | rfl | rfl
  · exact qt_7_0
  · exact qt_7_1
  · exact qt_7_2
  · exact qt_7_3
  · exact qt_7_4
  · exact qt_7_5
  · exact qt_7_6
  · exact qt_7_7
  · exact qt_7_8
  · exact qt_7_9
  · exact qt_7_10
  · exact qt_7_11
  · exact qt_7_12
  · exact qt_7_13
  · exact qt_7_14
  · exact qt_7_15
  · exact qt_7_16
  · exact qt_7_17
  · exact qt_7_18
  · exact qt_7_19
  · exact qt_7_20
  · exact qt_7_21
  · exact qt_7_22
  · exact qt_7_23
theorem qt_8_0 : (Cond.static yJ1_indexOf_4cfef) ∈ lw_tbl := qT_2 (List.mem_of_getElem? (i := 151) rfl)
theorem qt_8_1 : (Cond.initialized RJ1) ∈ lw_tbl := qT_1 (List.mem_of_getElem? (i := 10) rfl)
theorem qt_8_2 : (Cond.code yJ1_indexOf_4cfef cJ1_indexOf_4cfef 4 (some .int)) ∈ lw_tbl := qT_2 (List.mem_of_getElem? (i := 152) rfl)
theorem qt_8_3 : (Cond.methodLink RJ1 92 Lib.Math.max.name) ∈ lw_tbl := qT_2 (List.mem_of_getElem? (i := 156) rfl)
theorem qt_8_4 : (Cond.static Lib.Math.max.name) ∈ lw_tbl := qT_2 (List.mem_of_getElem? (i := 157) rfl)
theorem qt_8_5 : (Cond.initialized "java/lang/Math") ∈ lw_tbl := qT_1 (List.mem_of_getElem? (i := 11) rfl)
theorem qt_8_6 : (Cond.code Lib.Math.max.name Lib.Math.max.code 2 (some .int)) ∈ lw_tbl := qT_2 (List.mem_of_getElem? (i := 158) rfl)
theorem qt_8_7 : (Cond.methodLink RJ1 38 Lib.Math.min.name) ∈ lw_tbl := qT_2 (List.mem_of_getElem? (i := 159) rfl)
theorem qt_8_8 : (Cond.static Lib.Math.min.name) ∈ lw_tbl := qT_2 (List.mem_of_getElem? (i := 160) rfl)
theorem qt_8_9 : (Cond.code Lib.Math.min.name Lib.Math.min.code 2 (some .int)) ∈ lw_tbl := qT_2 (List.mem_of_getElem? (i := 161) rfl)
theorem qt_8_10 : (Cond.methodLink RJ1 88 yJ1_canEncode_9a6ad) ∈ lw_tbl := qT_2 (List.mem_of_getElem? (i := 153) rfl)
theorem qt_8_11 : (Cond.static yJ1_canEncode_9a6ad) ∈ lw_tbl := qT_2 (List.mem_of_getElem? (i := 154) rfl)
theorem qt_8_12 : (Cond.code yJ1_canEncode_9a6ad cJ1_canEncode_9a6ad 1 (some .boolean)) ∈ lw_tbl := qT_2 (List.mem_of_getElem? (i := 155) rfl)
theorem qt_8_13 : (Cond.methodLink RJ1 95 yJ1_indexOfChar_4cfef) ∈ lw_tbl := qT_2 (List.mem_of_getElem? (i := 162) rfl)
theorem qt_8_14 : (Cond.static yJ1_indexOfChar_4cfef) ∈ lw_tbl := qT_2 (List.mem_of_getElem? (i := 163) rfl)
theorem qt_8_15 : (Cond.code yJ1_indexOfChar_4cfef cJ1_indexOfChar_4cfef 6 (some .int)) ∈ lw_tbl := qT_2 (List.mem_of_getElem? (i := 164) rfl)
theorem qt_8_16 : (Cond.methodLink RJ0 640 yJ2_indexOf_4cfef) ∈ lw_tbl := qT_2 (List.mem_of_getElem? (i := 165) rfl)
theorem qt_8_17 : (Cond.static yJ2_indexOf_4cfef) ∈ lw_tbl := qT_2 (List.mem_of_getElem? (i := 166) rfl)
theorem qt_8_18 : (Cond.initialized RJ2) ∈ lw_tbl := qT_1 (List.mem_of_getElem? (i := 12) rfl)
theorem qt_8_19 : (Cond.code yJ2_indexOf_4cfef cJ2_indexOf_4cfef 4 (some .int)) ∈ lw_tbl := qT_2 (List.mem_of_getElem? (i := 167) rfl)
theorem qt_8_20 : (Cond.methodLink RJ2 224 Lib.Math.max.name) ∈ lw_tbl := qT_2 (List.mem_of_getElem? (i := 168) rfl)
theorem qt_8_21 : (Cond.methodLink RJ2 183 Lib.Math.min.name) ∈ lw_tbl := qT_2 (List.mem_of_getElem? (i := 169) rfl)
theorem qt_8_22 : (Cond.constant RJ2 227 (65536)) ∈ lw_tbl := qT_2 (List.mem_of_getElem? (i := 170) rfl)
theorem qt_8_23 : (Cond.methodLink RJ2 228 yJ2_indexOfChar_4cfef) ∈ lw_tbl := qT_2 (List.mem_of_getElem? (i := 171) rfl)
theorem qr_8 : ∀ w ∈ wsL_law0_r8, w ∈ lw_tbl := by
  intro w hw
  simp only [wsL_law0_r8, List.mem_cons, List.not_mem_nil, or_false] at hw
  rcases hw with rfl | rfl | rfl | rfl | rfl | rfl | rfl | rfl | rfl | rfl | rfl | rfl | rfl | rfl | rfl | rfl | rfl | rfl | rfl | rfl | rfl | rfl | rfl | rfl
  · exact qt_8_0
  · exact qt_8_1
  · exact qt_8_2
  · exact qt_8_3
  · exact qt_8_4
  · exact qt_8_5
  · exact qt_8_6
  · exact qt_8_7
  · exact qt_8_8
  · exact qt_8_9
  · exact qt_8_10
  · exact qt_8_11
  · exact qt_8_12
  · exact qt_8_13
  · exact qt_8_14
  · exact qt_8_15
  · exact qt_8_16
  · exact qt_8_17
  · exact qt_8_18
  · exact qt_8_19
  · exact qt_8_20
  · exact qt_8_21
  · exact qt_8_22
  · exact qt_8_23
theorem qt_9_0 : (Cond.static yJ2_indexOfChar_4cfef) ∈ lw_tbl := qT_2 (List.mem_of_getElem? (i := 172) rfl)
theorem qt_9_1 : (Cond.code yJ2_indexOfChar_4cfef cJ2_indexOfChar_4cfef 4 (some .int)) ∈ lw_tbl := qT_2 (List.mem_of_getElem? (i := 173) rfl)
theorem qt_9_2 : (Cond.methodLink RJ2 96 yJ2_checkBoundsBeginEnd_d044e) ∈ lw_tbl := qT_2 (List.mem_of_getElem? (i := 174) rfl)
theorem qt_9_3 : (Cond.static yJ2_checkBoundsBeginEnd_d044e) ∈ lw_tbl := qT_2 (List.mem_of_getElem? (i := 175) rfl)
theorem qt_9_4 : (Cond.code yJ2_checkBoundsBeginEnd_d044e cJ2_checkBoundsBeginEnd_d044e 3 none) ∈ lw_tbl := qT_2 (List.mem_of_getElem? (i := 176) rfl)
theorem qt_9_5 : (Cond.methodLink RJ2 48 yJ2_length_9d52b) ∈ lw_tbl := qT_2 (List.mem_of_getElem? (i := 177) rfl)
theorem qt_9_6 : (Cond.static yJ2_length_9d52b) ∈ lw_tbl := qT_2 (List.mem_of_getElem? (i := 178) rfl)
theorem qt_9_7 : (Cond.code yJ2_length_9d52b cJ2_length_9d52b 1 (some .int)) ∈ lw_tbl := qT_2 (List.mem_of_getElem? (i := 179) rfl)
theorem qt_9_8 : (Cond.methodLink RJ2 241 yJ0_checkBoundsBeginEnd_23922) ∈ lw_tbl := qT_2 (List.mem_of_getElem? (i := 180) rfl)
theorem qt_9_9 : (Cond.static yJ0_checkBoundsBeginEnd_23922) ∈ lw_tbl := qT_2 (List.mem_of_getElem? (i := 181) rfl)
theorem qt_9_10 : (Cond.code yJ0_checkBoundsBeginEnd_23922 cJ0_checkBoundsBeginEnd_23922 3 none) ∈ lw_tbl := qT_2 (List.mem_of_getElem? (i := 182) rfl)
theorem qt_9_11 : (Cond.fieldLink RJ0 1053 "jdk/internal/util/Preconditions" "SIOOBE_FORMATTER" "Ljava/util/function/BiFunction;") ∈ lw_tbl := qT_2 (List.mem_of_getElem? (i := 183) rfl)
theorem qt_9_12 : (Cond.methodLink RJ0 1062 yJ3_checkFromToIndex_8c36e) ∈ lw_tbl := qT_2 (List.mem_of_getElem? (i := 185) rfl)
theorem qt_9_13 : (Cond.static yJ3_checkFromToIndex_8c36e) ∈ lw_tbl := qT_2 (List.mem_of_getElem? (i := 186) rfl)
theorem qt_9_14 : (Cond.initialized RJ3) ∈ lw_tbl := qT_1 (List.mem_of_getElem? (i := 13) rfl)
theorem qt_9_15 : (Cond.code yJ3_checkFromToIndex_8c36e cJ3_checkFromToIndex_8c36e 4 (some .int)) ∈ lw_tbl := qT_2 (List.mem_of_getElem? (i := 187) rfl)
theorem qt_9_16 : (Cond.methodLink RJ2 244 yJ2_indexOfCharUnsafe_4cfef) ∈ lw_tbl := qT_2 (List.mem_of_getElem? (i := 188) rfl)
theorem qt_9_17 : (Cond.static yJ2_indexOfCharUnsafe_4cfef) ∈ lw_tbl := qT_2 (List.mem_of_getElem? (i := 189) rfl)
theorem qt_9_18 : (Cond.code yJ2_indexOfCharUnsafe_4cfef cJ2_indexOfCharUnsafe_4cfef 5 (some .int)) ∈ lw_tbl := qT_2 (List.mem_of_getElem? (i := 190) rfl)
theorem qt_9_19 : (Cond.methodLink RJ2 71 yJ2_getChar_3b067) ∈ lw_tbl := qT_2 (List.mem_of_getElem? (i := 191) rfl)
theorem qt_9_20 : (Cond.static yJ2_getChar_3b067) ∈ lw_tbl := qT_2 (List.mem_of_getElem? (i := 192) rfl)
theorem qt_9_21 : (Cond.code yJ2_getChar_3b067 cJ2_getChar_3b067 2 (some .char)) ∈ lw_tbl := qT_2 (List.mem_of_getElem? (i := 193) rfl)
theorem qt_9_22 : (Cond.fieldLink RJ2 44 "java/lang/StringUTF16" "$assertionsDisabled" "Z") ∈ lw_tbl := qT_2 (List.mem_of_getElem? (i := 194) rfl)
theorem qt_9_23 : (Cond.fieldLink RJ2 59 "java/lang/StringUTF16" "HI_BYTE_SHIFT" "I") ∈ lw_tbl := qT_2 (List.mem_of_getElem? (i := 196) rfl)
theorem qr_9 : ∀ w ∈ wsL_law0_r9, w ∈ lw_tbl := by
  intro w hw
  simp only [wsL_law0_r9, List.mem_cons, List.not_mem_nil, or_false] at hw
  rcases hw with rfl | rfl | rfl | rfl | rfl | rfl | rfl | rfl | rfl | rfl | rfl | rfl | rfl | rfl | rfl | rfl | rfl | rfl | rfl | rfl | rfl | rfl | rfl | rfl
  · exact qt_9_0
  · exact qt_9_1
  · exact qt_9_2
  · exact qt_9_3
  · exact qt_9_4
  · exact qt_9_5
  · exact qt_9_6
  · exact qt_9_7
  · exact qt_9_8
  · exact qt_9_9
  · exact qt_9_10
  · exact qt_9_11
  · exact qt_9_12
  · exact qt_9_13
  · exact qt_9_14
  · exact qt_9_15
  · exact qt_9_16
  · exact qt_9_17
  · exact qt_9_18
  · exact qt_9_19
  · exact qt_9_20
  · exact qt_9_21
  · exact qt_9_22
  · exact qt_9_23
theorem qt_10_0 : (Cond.fieldLink RJ2 63 "java/lang/StringUTF16" "LO_BYTE_SHIFT" "I") ∈ lw_tbl := qT_2 (List.mem_of_getElem? (i := 198) rfl)
theorem qt_10_1 : (Cond.methodLink RJ2 232 yJ2_indexOfSupplementary_4cfef) ∈ lw_tbl := qT_2 (List.mem_of_getElem? (i := 200) rfl)
theorem qt_10_2 : (Cond.static yJ2_indexOfSupplementary_4cfef) ∈ lw_tbl := qT_2 (List.mem_of_getElem? (i := 201) rfl)
theorem qt_10_3 : (Cond.code yJ2_indexOfSupplementary_4cfef cJ2_indexOfSupplementary_4cfef 7 (some .int)) ∈ lw_tbl := qT_2 (List.mem_of_getElem? (i := 202) rfl)
theorem qt_10_4 : (Cond.methodLink RJ2 164 yJ11_isValidCodePoint_9a6ad) ∈ lw_tbl := qT_2 (List.mem_of_getElem? (i := 203) rfl)
theorem qt_10_5 : (Cond.static yJ11_isValidCodePoint_9a6ad) ∈ lw_tbl := qT_2 (List.mem_of_getElem? (i := 204) rfl)
theorem qt_10_6 : (Cond.initialized RJ11) ∈ lw_tbl := qT_1 (List.mem_of_getElem? (i := 14) rfl)
theorem qt_10_7 : (Cond.code yJ11_isValidCodePoint_9a6ad cJ11_isValidCodePoint_9a6ad 2 (some .boolean)) ∈ lw_tbl := qT_2 (List.mem_of_getElem? (i := 205) rfl)
theorem qt_10_8 : (Cond.methodLink RJ2 157 yJ11_highSurrogate_5068e) ∈ lw_tbl := qT_2 (List.mem_of_getElem? (i := 206) rfl)
theorem qt_10_9 : (Cond.static yJ11_highSurrogate_5068e) ∈ lw_tbl := qT_2 (List.mem_of_getElem? (i := 207) rfl)
theorem qt_10_10 : (Cond.code yJ11_highSurrogate_5068e cJ11_highSurrogate_5068e 1 (some .char)) ∈ lw_tbl := qT_2 (List.mem_of_getElem? (i := 208) rfl)
theorem qt_10_11 : (Cond.constant RJ11 110 (55232)) ∈ lw_tbl := qT_2 (List.mem_of_getElem? (i := 209) rfl)
theorem qt_10_12 : (Cond.methodLink RJ2 161 yJ11_lowSurrogate_5068e) ∈ lw_tbl := qT_2 (List.mem_of_getElem? (i := 210) rfl)
theorem qt_10_13 : (Cond.static yJ11_lowSurrogate_5068e) ∈ lw_tbl := qT_2 (List.mem_of_getElem? (i := 211) rfl)
theorem qt_10_14 : (Cond.code yJ11_lowSurrogate_5068e cJ11_lowSurrogate_5068e 1 (some .char)) ∈ lw_tbl := qT_2 (List.mem_of_getElem? (i := 212) rfl)
theorem qt_10_15 : (Cond.constant RJ11 76 (56320)) ∈ lw_tbl := qT_2 (List.mem_of_getElem? (i := 213) rfl)
theorem qt_10_16 : (Cond.methodLink RX5 78 yX5_takeSign) ∈ lw_tbl := qT_2 (List.mem_of_getElem? (i := 214) rfl)
theorem qt_10_17 : (Cond.instanceMethod yX5_takeSign) ∈ lw_tbl := qT_2 (List.mem_of_getElem? (i := 216) rfl)
theorem qt_10_18 : (Cond.selects RX5 yX5_takeSign yX5_takeSign) ∈ lw_tbl := qP_0 (List.mem_of_getElem? (l := lw_privs_1) (i := 12) rfl)
theorem qt_10_19 : (Cond.code yX5_takeSign cX5_takeSign 2 (some .boolean)) ∈ lw_tbl := qT_2 (List.mem_of_getElem? (i := 217) rfl)
theorem qt_10_20 : (Cond.methodLink RX5 62 yX5_takeOperand) ∈ lw_tbl := qT_2 (List.mem_of_getElem? (i := 219) rfl)
theorem qt_10_21 : (Cond.instanceMethod yX5_takeOperand) ∈ lw_tbl := qT_2 (List.mem_of_getElem? (i := 221) rfl)
theorem qt_10_22 : (Cond.selects RX5 yX5_takeOperand yX5_takeOperand) ∈ lw_tbl := qP_0 (List.mem_of_getElem? (l := lw_privs_1) (i := 13) rfl)
theorem qt_10_23 : (Cond.code yX5_takeOperand cX5_takeOperand 2 (some .boolean)) ∈ lw_tbl := qT_2 (List.mem_of_getElem? (i := 222) rfl)
theorem qr_10 : ∀ w ∈ wsL_law0_r10, w ∈ lw_tbl := by
  intro w hw
  simp only [wsL_law0_r10, List.mem_cons, List.not_mem_nil, or_false] at hw
  rcases hw with rfl | rfl | rfl | rfl | rfl | rfl | rfl | rfl | rfl | rfl | rfl | rfl | rfl | rfl | rfl | rfl | rfl | rfl | rfl | rfl | rfl | rfl | rfl | rfl
  · exact qt_10_0
  · exact qt_10_1
  · exact qt_10_2
  · exact qt_10_3
  · exact qt_10_4
  · exact qt_10_5
  · exact qt_10_6
  · exact qt_10_7
  · exact qt_10_8
  · exact qt_10_9
  · exact qt_10_10
  · exact qt_10_11
  · exact qt_10_12
  · exact qt_10_13
  · exact qt_10_14
  · exact qt_10_15
  · exact qt_10_16
  · exact qt_10_17
  · exact qt_10_18
  · exact qt_10_19
  · exact qt_10_20
  · exact qt_10_21
  · exact qt_10_22
  · exact qt_10_23
theorem qt_11_0 : (Cond.fieldLink RX5 71 "ClaimJudge$Text" "operand" "I") ∈ lw_tbl := qT_1 (List.mem_of_getElem? (i := 181) rfl)
theorem qt_11_1 : (Cond.methodLink RX5 95 yX5_isDigitTo) ∈ lw_tbl := qT_2 (List.mem_of_getElem? (i := 223) rfl)
theorem qt_11_2 : (Cond.instanceMethod yX5_isDigitTo) ∈ lw_tbl := qT_2 (List.mem_of_getElem? (i := 225) rfl)
theorem qt_11_3 : (Cond.selects RX5 yX5_isDigitTo yX5_isDigitTo) ∈ lw_tbl := qP_0 (List.mem_of_getElem? (l := lw_privs_1) (i := 14) rfl)
theorem qt_11_4 : (Cond.code yX5_isDigitTo cX5_isDigitTo 2 (some .boolean)) ∈ lw_tbl := qT_2 (List.mem_of_getElem? (i := 226) rfl)
theorem qt_11_5 : (Cond.methodLink RX5 52 yX5_keep) ∈ lw_tbl := qT_2 (List.mem_of_getElem? (i := 227) rfl)
theorem qt_11_6 : (Cond.instanceMethod yX5_keep) ∈ lw_tbl := qT_2 (List.mem_of_getElem? (i := 229) rfl)
theorem qt_11_7 : (Cond.selects RX5 yX5_keep yX5_keep) ∈ lw_tbl := qP_0 (List.mem_of_getElem? (l := lw_privs_1) (i := 15) rfl)
theorem qt_11_8 : (Cond.code yX5_keep cX5_keep 2 (some .boolean)) ∈ lw_tbl := qT_2 (List.mem_of_getElem? (i := 230) rfl)
theorem qt_11_9 : (Cond.methodLink RX5 74 yX3_put) ∈ lw_tbl := qT_2 (List.mem_of_getElem? (i := 231) rfl)
theorem qt_11_10 : (Cond.instanceMethod yX3_put) ∈ lw_tbl := qT_2 (List.mem_of_getElem? (i := 232) rfl)
theorem qt_11_11 : (Cond.selects RX3 yX3_put yX3_put) ∈ lw_tbl := qT_2 (List.mem_of_getElem? (i := 233) rfl)
theorem qt_11_12 : (Cond.code yX3_put cX3_put 7 none) ∈ lw_tbl := qT_2 (List.mem_of_getElem? (i := 234) rfl)
theorem qt_11_13 : (Cond.methodLink RX5 56 yX5_takeGoal) ∈ lw_tbl := qT_2 (List.mem_of_getElem? (i := 235) rfl)
theorem qt_11_14 : (Cond.instanceMethod yX5_takeGoal) ∈ lw_tbl := qT_2 (List.mem_of_getElem? (i := 237) rfl)
theorem qt_11_15 : (Cond.selects RX5 yX5_takeGoal yX5_takeGoal) ∈ lw_tbl := qP_1 (List.mem_of_getElem? (l := lw_privs_2) (i := 0) rfl)
theorem qt_11_16 : (Cond.code yX5_takeGoal cX5_takeGoal 1 (some .boolean)) ∈ lw_tbl := qT_2 (List.mem_of_getElem? (i := 238) rfl)
theorem qt_11_17 : (Cond.methodLink RX5 65 yX5_takeAddend) ∈ lw_tbl := qT_2 (List.mem_of_getElem? (i := 239) rfl)
theorem qt_11_18 : (Cond.instanceMethod yX5_takeAddend) ∈ lw_tbl := qT_3 (List.mem_of_getElem? (i := 1) rfl)
theorem qt_11_19 : (Cond.selects RX5 yX5_takeAddend yX5_takeAddend) ∈ lw_tbl := qP_1 (List.mem_of_getElem? (l := lw_privs_2) (i := 1) rfl)
theorem qt_11_20 : (Cond.code yX5_takeAddend cX5_takeAddend 2 (some .boolean)) ∈ lw_tbl := qT_3 (List.mem_of_getElem? (i := 2) rfl)
theorem qt_11_21 : (Cond.methodLink RX6 62 yX3_highestTarget) ∈ lw_tbl := qT_3 (List.mem_of_getElem? (i := 147) rfl)
theorem qt_11_22 : (Cond.instanceMethod yX3_highestTarget) ∈ lw_tbl := qT_3 (List.mem_of_getElem? (i := 148) rfl)
theorem qt_11_23 : (Cond.selects RX3 yX3_highestTarget yX3_highestTarget) ∈ lw_tbl := qT_3 (List.mem_of_getElem? (i := 149) rfl)
theorem qr_11 : ∀ w ∈ wsL_law0_r11, w ∈ lw_tbl := by
  intro w hw
  simp only [wsL_law0_r11, List.mem_cons, List.not_mem_nil, or_false] at hw
  rcases hw with rfl | rfl | rfl | rfl | rfl | rfl | rfl | rfl | rfl | rfl | rfl | rfl | rfl | rfl | rfl | rfl | rfl | rfl | rfl | rfl | rfl | rfl | rfl | rfl
  · exact qt_11_0
  · exact qt_11_1
  · exact qt_11_2
  · exact qt_11_3
  · exact qt_11_4
  · exact qt_11_5
  · exact qt_11_6
  · exact qt_11_7
  · exact qt_11_8
  · exact qt_11_9
  · exact qt_11_10
  · exact qt_11_11
  · exact qt_11_12
  · exact qt_11_13
  · exact qt_11_14
  · exact qt_11_15
  · exact qt_11_16
  · exact qt_11_17
  · exact qt_11_18
  · exact qt_11_19
  · exact qt_11_20
  · exact qt_11_21
  · exact qt_11_22
  · exact qt_11_23
theorem qt_12_0 : (Cond.code yX3_highestTarget cX3_highestTarget 3 (some .int)) ∈ lw_tbl := qT_3 (List.mem_of_getElem? (i := 150) rfl)
theorem qt_12_1 : (Cond.methodLink RX3 45 Lib.Math.max.name) ∈ lw_tbl := qT_3 (List.mem_of_getElem? (i := 151) rfl)
theorem qt_12_2 : (Cond.methodLink RX6 77 yX6_saveState) ∈ lw_tbl := qT_3 (List.mem_of_getElem? (i := 168) rfl)
theorem qt_12_3 : (Cond.instanceMethod yX6_saveState) ∈ lw_tbl := qT_3 (List.mem_of_getElem? (i := 170) rfl)
theorem qt_12_4 : (Cond.selects RX6 yX6_saveState yX6_saveState) ∈ lw_tbl := qP_1 (List.mem_of_getElem? (l := lw_privs_2) (i := 4) rfl)
theorem qt_12_5 : (Cond.code yX6_saveState cX6_saveState 1 none) ∈ lw_tbl := qT_3 (List.mem_of_getElem? (i := 171) rfl)
theorem qt_12_6 : (Cond.methodLink RX6 250 yX1_save) ∈ lw_tbl := qT_3 (List.mem_of_getElem? (i := 172) rfl)
theorem qt_12_7 : (Cond.instanceMethod yX1_save) ∈ lw_tbl := qT_3 (List.mem_of_getElem? (i := 173) rfl)
theorem qt_12_8 : (Cond.selects RX1 yX1_save yX1_save) ∈ lw_tbl := qT_3 (List.mem_of_getElem? (i := 174) rfl)
theorem qt_12_9 : (Cond.code yX1_save cX1_save 4 none) ∈ lw_tbl := qT_3 (List.mem_of_getElem? (i := 175) rfl)
theorem qt_12_10 : (Cond.fieldLink RX1 25 "ClaimJudge$History" "count" "I") ∈ lw_tbl := qT_1 (List.mem_of_getElem? (i := 153) rfl)
theorem qt_12_11 : (Cond.fieldLink RX1 29 "ClaimJudge$History" "oldest" "I") ∈ lw_tbl := qT_1 (List.mem_of_getElem? (i := 152) rfl)
theorem qt_12_12 : (Cond.methodLink RX1 32 yX3_copyFrom) ∈ lw_tbl := qT_3 (List.mem_of_getElem? (i := 176) rfl)
theorem qt_12_13 : (Cond.instanceMethod yX3_copyFrom) ∈ lw_tbl := qT_3 (List.mem_of_getElem? (i := 177) rfl)
theorem qt_12_14 : (Cond.selects RX3 yX3_copyFrom yX3_copyFrom) ∈ lw_tbl := qT_3 (List.mem_of_getElem? (i := 178) rfl)
theorem qt_12_15 : (Cond.code yX3_copyFrom cX3_copyFrom 2 none) ∈ lw_tbl := qT_3 (List.mem_of_getElem? (i := 179) rfl)
theorem qt_12_16 : (Cond.methodLink RX3 38 yX3_clear) ∈ lw_tbl := qT_3 (List.mem_of_getElem? (i := 180) rfl)
theorem qt_12_17 : (Cond.methodLink RX3 41 yX3_putAll) ∈ lw_tbl := qT_3 (List.mem_of_getElem? (i := 181) rfl)
theorem qt_12_18 : (Cond.instanceMethod yX3_putAll) ∈ lw_tbl := qT_3 (List.mem_of_getElem? (i := 182) rfl)
theorem qt_12_19 : (Cond.selects RX3 yX3_putAll yX3_putAll) ∈ lw_tbl := qT_3 (List.mem_of_getElem? (i := 183) rfl)
theorem qt_12_20 : (Cond.code yX3_putAll cX3_putAll 3 none) ∈ lw_tbl := qT_3 (List.mem_of_getElem? (i := 184) rfl)
theorem qt_12_21 : (Cond.methodLink RX3 34 yX3_put) ∈ lw_tbl := qT_3 (List.mem_of_getElem? (i := 185) rfl)
theorem qt_12_22 : (Cond.methodLink RX1 36 yX0_copyFrom) ∈ lw_tbl := qT_3 (List.mem_of_getElem? (i := 186) rfl)
theorem qt_12_23 : (Cond.instanceMethod yX0_copyFrom) ∈ lw_tbl := qT_3 (List.mem_of_getElem? (i := 187) rfl)
theorem qr_12 : ∀ w ∈ wsL_law0_r12, w ∈ lw_tbl := by
  intro w hw
  simp only [wsL_law0_r12, List.mem_cons, List.not_mem_nil, or_false] at hw
  rcases hw with rfl | rfl | rfl | rfl | rfl | rfl | rfl | rfl | rfl | rfl | rfl | rfl | rfl | rfl | rfl | rfl | rfl | rfl | rfl | rfl | rfl | rfl | rfl | rfl
  · exact qt_12_0
  · exact qt_12_1
  · exact qt_12_2
  · exact qt_12_3
  · exact qt_12_4
  · exact qt_12_5
  · exact qt_12_6
  · exact qt_12_7
  · exact qt_12_8
  · exact qt_12_9
  · exact qt_12_10
  · exact qt_12_11
  · exact qt_12_12
  · exact qt_12_13
  · exact qt_12_14
  · exact qt_12_15
  · exact qt_12_16
  · exact qt_12_17
  · exact qt_12_18
  · exact qt_12_19
  · exact qt_12_20
  · exact qt_12_21
  · exact qt_12_22
  · exact qt_12_23
theorem qt_13_0 : (Cond.selects RX0 yX0_copyFrom yX0_copyFrom) ∈ lw_tbl := qT_3 (List.mem_of_getElem? (i := 188) rfl)
theorem qt_13_1 : (Cond.code yX0_copyFrom cX0_copyFrom 3 none) ∈ lw_tbl := qT_3 (List.mem_of_getElem? (i := 189) rfl)
theorem qt_13_2 : (Cond.methodLink RX0 18 yX0_limit) ∈ lw_tbl := qT_3 (List.mem_of_getElem? (i := 190) rfl)
theorem qt_13_3 : (Cond.instanceMethod yX0_limit) ∈ lw_tbl := qT_3 (List.mem_of_getElem? (i := 191) rfl)
theorem qt_13_4 : (Cond.selects RX0 yX0_limit yX0_limit) ∈ lw_tbl := qT_3 (List.mem_of_getElem? (i := 192) rfl)
theorem qt_13_5 : (Cond.code yX0_limit cX0_limit 4 none) ∈ lw_tbl := qT_3 (List.mem_of_getElem? (i := 193) rfl)
theorem qt_13_6 : (Cond.methodLink RX6 80 yX3_copyFrom) ∈ lw_tbl := qT_3 (List.mem_of_getElem? (i := 194) rfl)
theorem qt_13_7 : (Cond.methodLink RX6 83 yX5_clear) ∈ lw_tbl := qT_2 (List.mem_of_getElem? (i := 91) rfl)
theorem qt_13_8 : (Cond.instanceMethod yX5_clear) ∈ lw_tbl := qT_2 (List.mem_of_getElem? (i := 92) rfl)
theorem qt_13_9 : (Cond.selects RX5 yX5_clear yX5_clear) ∈ lw_tbl := qT_2 (List.mem_of_getElem? (i := 93) rfl)
theorem qt_13_10 : (Cond.code yX5_clear cX5_clear 1 none) ∈ lw_tbl := qT_2 (List.mem_of_getElem? (i := 94) rfl)
theorem qt_13_11 : (Cond.methodLink RX6 86 yX6_forgetProgram) ∈ lw_tbl := qT_3 (List.mem_of_getElem? (i := 195) rfl)
theorem qt_13_12 : (Cond.instanceMethod yX6_forgetProgram) ∈ lw_tbl := qT_3 (List.mem_of_getElem? (i := 197) rfl)
theorem qt_13_13 : (Cond.selects RX6 yX6_forgetProgram yX6_forgetProgram) ∈ lw_tbl := qP_1 (List.mem_of_getElem? (l := lw_privs_2) (i := 5) rfl)
theorem qt_13_14 : (Cond.code yX6_forgetProgram cX6_forgetProgram 1 none) ∈ lw_tbl := qT_3 (List.mem_of_getElem? (i := 198) rfl)
theorem qt_13_15 : (Cond.methodLink RX6 253 yX4_forget) ∈ lw_tbl := qT_3 (List.mem_of_getElem? (i := 199) rfl)
theorem qt_13_16 : (Cond.instanceMethod yX4_forget) ∈ lw_tbl := qT_3 (List.mem_of_getElem? (i := 200) rfl)
theorem qt_13_17 : (Cond.selects RX4 yX4_forget yX4_forget) ∈ lw_tbl := qT_3 (List.mem_of_getElem? (i := 201) rfl)
theorem qt_13_18 : (Cond.code yX4_forget cX4_forget 1 none) ∈ lw_tbl := qT_3 (List.mem_of_getElem? (i := 202) rfl)
theorem qt_13_19 : (Cond.methodLink RX6 148 yX2_forget) ∈ lw_tbl := qT_3 (List.mem_of_getElem? (i := 203) rfl)
theorem qt_13_20 : (Cond.instanceMethod yX2_forget) ∈ lw_tbl := qT_3 (List.mem_of_getElem? (i := 204) rfl)
theorem qt_13_21 : (Cond.selects RX2 yX2_forget yX2_forget) ∈ lw_tbl := qT_3 (List.mem_of_getElem? (i := 205) rfl)
theorem qt_13_22 : (Cond.code yX2_forget cX2_forget 1 none) ∈ lw_tbl := qT_3 (List.mem_of_getElem? (i := 206) rfl)
theorem qt_13_23 : (Cond.methodLink RL 80 yX7_load) ∈ lw_tbl := qT_4 (List.mem_of_getElem? (i := 164) rfl)
theorem qr_13 : ∀ w ∈ wsL_law0_r13, w ∈ lw_tbl := by
  intro w hw
  simp only [wsL_law0_r13, List.mem_cons, List.not_mem_nil, or_false] at hw
  rcases hw with rfl | rfl | rfl | rfl | rfl | rfl | rfl | rfl | rfl | rfl | rfl | rfl | rfl | rfl | rfl | rfl | rfl | rfl | rfl | rfl | rfl | rfl | rfl | rfl
  · exact qt_13_0
  · exact qt_13_1
  · exact qt_13_2
  · exact qt_13_3
  · exact qt_13_4
  · exact qt_13_5
  · exact qt_13_6
  · exact qt_13_7
  · exact qt_13_8
  · exact qt_13_9
  · exact qt_13_10
  · exact qt_13_11
  · exact qt_13_12
  · exact qt_13_13
  · exact qt_13_14
  · exact qt_13_15
  · exact qt_13_16
  · exact qt_13_17
  · exact qt_13_18
  · exact qt_13_19
  · exact qt_13_20
  · exact qt_13_21
  · exact qt_13_22
  · exact qt_13_23
theorem qt_14_0 : (Cond.instanceMethod yX7_load) ∈ lw_tbl := qT_4 (List.mem_of_getElem? (i := 165) rfl)
theorem qt_14_1 : (Cond.selects RX7 yX7_load yX7_load) ∈ lw_tbl := qT_4 (List.mem_of_getElem? (i := 166) rfl)
theorem qt_14_2 : (Cond.code yX7_load cX7_load 2 (some .int)) ∈ lw_tbl := qT_4 (List.mem_of_getElem? (i := 167) rfl)
theorem qt_14_3 : (Cond.fieldLink RX7 106 "ClaimJudgeModel" "farthest" "I") ∈ lw_tbl := qT_4 (List.mem_of_getElem? (i := 124) rfl)
theorem qt_14_4 : (Cond.fieldLink RX7 89 "ClaimJudgeModel" "readMany" "I") ∈ lw_tbl := qT_4 (List.mem_of_getElem? (i := 123) rfl)
theorem qt_14_5 : (Cond.methodLink RX7 112 yX7_reads) ∈ lw_tbl := qT_4 (List.mem_of_getElem? (i := 168) rfl)
theorem qt_14_6 : (Cond.instanceMethod yX7_reads) ∈ lw_tbl := qT_4 (List.mem_of_getElem? (i := 170) rfl)
theorem qt_14_7 : (Cond.selects RX7 yX7_reads yX7_reads) ∈ lw_tbl := qP_1 (List.mem_of_getElem? (l := lw_privs_2) (i := 7) rfl)
theorem qt_14_8 : (Cond.code yX7_reads cX7_reads 2 (some .boolean)) ∈ lw_tbl := qT_4 (List.mem_of_getElem? (i := 171) rfl)
theorem qt_14_9 : (Cond.fieldLink RX7 77 "ClaimJudgeModel" "spot" "I") ∈ lw_tbl := qT_4 (List.mem_of_getElem? (i := 127) rfl)
theorem qt_14_10 : (Cond.fieldLink RX7 73 "ClaimJudgeModel" "isWrong" "Z") ∈ lw_tbl := qT_4 (List.mem_of_getElem? (i := 128) rfl)
theorem qt_14_11 : (Cond.fieldLink RX7 80 "ClaimJudgeModel" "length" "I") ∈ lw_tbl := qT_4 (List.mem_of_getElem? (i := 121) rfl)
theorem qt_14_12 : (Cond.methodLink RX7 109 yX7_readStatement) ∈ lw_tbl := qT_4 (List.mem_of_getElem? (i := 172) rfl)
theorem qt_14_13 : (Cond.instanceMethod yX7_readStatement) ∈ lw_tbl := qT_4 (List.mem_of_getElem? (i := 174) rfl)
theorem qt_14_14 : (Cond.selects RX7 yX7_readStatement yX7_readStatement) ∈ lw_tbl := qP_1 (List.mem_of_getElem? (l := lw_privs_2) (i := 8) rfl)
theorem qt_14_15 : (Cond.code yX7_readStatement cX7_readStatement 4 none) ∈ lw_tbl := qT_4 (List.mem_of_getElem? (i := 175) rfl)
theorem qt_14_16 : (Cond.methodLink RX7 83 yX7_isNext) ∈ lw_tbl := qT_4 (List.mem_of_getElem? (i := 176) rfl)
theorem qt_14_17 : (Cond.instanceMethod yX7_isNext) ∈ lw_tbl := qT_4 (List.mem_of_getElem? (i := 178) rfl)
theorem qt_14_18 : (Cond.selects RX7 yX7_isNext yX7_isNext) ∈ lw_tbl := qP_1 (List.mem_of_getElem? (l := lw_privs_2) (i := 9) rfl)
theorem qt_14_19 : (Cond.code yX7_isNext cX7_isNext 3 (some .boolean)) ∈ lw_tbl := qT_4 (List.mem_of_getElem? (i := 179) rfl)
theorem qt_14_20 : (Cond.methodLink RX7 33 yX7_in) ∈ lw_tbl := qT_4 (List.mem_of_getElem? (i := 180) rfl)
theorem qt_14_21 : (Cond.static yX7_in) ∈ lw_tbl := qT_4 (List.mem_of_getElem? (i := 181) rfl)
theorem qt_14_22 : (Cond.code yX7_in cX7_in 3 (some .boolean)) ∈ lw_tbl := qT_4 (List.mem_of_getElem? (i := 182) rfl)
theorem qt_14_23 : (Cond.methodLink RX7 100 yX7_readAssignment) ∈ lw_tbl := qT_4 (List.mem_of_getElem? (i := 183) rfl)
theorem qr_14 : ∀ w ∈ wsL_law0_r14, w ∈ lw_tbl := by
  intro w hw
  simp only [wsL_law0_r14, List.mem_cons, List.not_mem_nil, or_false] at hw
  rcases hw with rfl | rfl | rfl | rfl | rfl | rfl | rfl | rfl | rfl | rfl | rfl | rfl | rfl | rfl | rfl | rfl | rfl | rfl | rfl | rfl | rfl | rfl | rfl | rfl
  · exact qt_14_0
  · exact qt_14_1
  · exact qt_14_2
  · exact qt_14_3
  · exact qt_14_4
  · exact qt_14_5
  · exact qt_14_6
  · exact qt_14_7
  · exact qt_14_8
  · exact qt_14_9
  · exact qt_14_10
  · exact qt_14_11
  · exact qt_14_12
  · exact qt_14_13
  · exact qt_14_14
  · exact qt_14_15
  · exact qt_14_16
  · exact qt_14_17
  · exact qt_14_18
  · exact qt_14_19
  · exact qt_14_20
  · exact qt_14_21
  · exact qt_14_22
  · exact qt_14_23
theorem qt_15_0 : (Cond.instanceMethod yX7_readAssignment) ∈ lw_tbl := qT_4 (List.mem_of_getElem? (i := 185) rfl)
theorem qt_15_1 : (Cond.selects RX7 yX7_readAssignment yX7_readAssignment) ∈ lw_tbl := qP_1 (List.mem_of_getElem? (l := lw_privs_2) (i := 10) rfl)
theorem qt_15_2 : (Cond.code yX7_readAssignment cX7_readAssignment 4 none) ∈ lw_tbl := qT_4 (List.mem_of_getElem? (i := 186) rfl)
theorem qt_15_3 : (Cond.methodLink RX7 92 yX7_puts) ∈ lw_tbl := qT_4 (List.mem_of_getElem? (i := 187) rfl)
theorem qt_15_4 : (Cond.instanceMethod yX7_puts) ∈ lw_tbl := qT_4 (List.mem_of_getElem? (i := 189) rfl)
theorem qt_15_5 : (Cond.selects RX7 yX7_puts yX7_puts) ∈ lw_tbl := qP_1 (List.mem_of_getElem? (l := lw_privs_2) (i := 11) rfl)
theorem qt_15_6 : (Cond.code yX7_puts cX7_puts 3 none) ∈ lw_tbl := qT_4 (List.mem_of_getElem? (i := 190) rfl)
theorem qt_15_7 : (Cond.methodLink RX7 86 yX7_takes) ∈ lw_tbl := qT_4 (List.mem_of_getElem? (i := 191) rfl)
theorem qt_15_8 : (Cond.instanceMethod yX7_takes) ∈ lw_tbl := qT_4 (List.mem_of_getElem? (i := 193) rfl)
theorem qt_15_9 : (Cond.selects RX7 yX7_takes yX7_takes) ∈ lw_tbl := qP_1 (List.mem_of_getElem? (l := lw_privs_2) (i := 12) rfl)
theorem qt_15_10 : (Cond.code yX7_takes cX7_takes 5 (some .int)) ∈ lw_tbl := qT_4 (List.mem_of_getElem? (i := 194) rfl)
theorem qt_15_11 : (Cond.methodLink RX7 96 yX7_readOperand) ∈ lw_tbl := qT_4 (List.mem_of_getElem? (i := 195) rfl)
theorem qt_15_12 : (Cond.instanceMethod yX7_readOperand) ∈ lw_tbl := qT_4 (List.mem_of_getElem? (i := 197) rfl)
theorem qt_15_13 : (Cond.selects RX7 yX7_readOperand yX7_readOperand) ∈ lw_tbl := qP_1 (List.mem_of_getElem? (l := lw_privs_2) (i := 13) rfl)
theorem qt_15_14 : (Cond.code yX7_readOperand cX7_readOperand 1 (some .int)) ∈ lw_tbl := qT_4 (List.mem_of_getElem? (i := 198) rfl)
theorem qt_15_15 : (Cond.methodLink RX7 103 yX7_readTest) ∈ lw_tbl := qT_4 (List.mem_of_getElem? (i := 199) rfl)
theorem qt_15_16 : (Cond.instanceMethod yX7_readTest) ∈ lw_tbl := qT_4 (List.mem_of_getElem? (i := 201) rfl)
theorem qt_15_17 : (Cond.selects RX7 yX7_readTest yX7_readTest) ∈ lw_tbl := qP_1 (List.mem_of_getElem? (l := lw_privs_2) (i := 14) rfl)
theorem qt_15_18 : (Cond.code yX7_readTest cX7_readTest 2 none) ∈ lw_tbl := qT_4 (List.mem_of_getElem? (i := 202) rfl)
theorem qt_15_19 : (Cond.methodLink RX7 116 yX7_holds) ∈ lw_tbl := qT_4 (List.mem_of_getElem? (i := 203) rfl)
theorem qt_15_20 : (Cond.instanceMethod yX7_holds) ∈ lw_tbl := qT_4 (List.mem_of_getElem? (i := 205) rfl)
theorem qt_15_21 : (Cond.selects RX7 yX7_holds yX7_holds) ∈ lw_tbl := qP_1 (List.mem_of_getElem? (l := lw_privs_2) (i := 15) rfl)
theorem qt_15_22 : (Cond.code yX7_holds cX7_holds 2 (some .boolean)) ∈ lw_tbl := qT_4 (List.mem_of_getElem? (i := 206) rfl)
theorem qt_15_23 : (Cond.fieldLink RX7 29 "ClaimJudgeModel" "thrown" "I") ∈ lw_tbl := qT_4 (List.mem_of_getElem? (i := 116) rfl)
theorem qr_15 : ∀ w ∈ wsL_law0_r15, w ∈ lw_tbl := by
  intro w hw
  simp only [wsL_law0_r15, List.mem_cons, List.not_mem_nil, or_false] at hw
  rcases hw with rfl | rfl | rfl | rfl | rfl | rfl | rfl | rfl | rfl | rfl | rfl | rfl | rfl | rfl | rfl | rfl | rfl | rfl | rfl | rfl | rfl | rfl | rfl | rfl
  · exact qt_15_0
  · exact qt_15_1
  · exact qt_15_2
  · exact qt_15_3
  · exact qt_15_4
  · exact qt_15_5
  · exact qt_15_6
  · exact qt_15_7
  · exact qt_15_8
  · exact qt_15_9
  · exact qt_15_10
  · exact qt_15_11
  · exact qt_15_12
  · exact qt_15_13
  · exact qt_15_14
  · exact qt_15_15
  · exact qt_15_16
  · exact qt_15_17
  · exact qt_15_18
  · exact qt_15_19
  · exact qt_15_20
  · exact qt_15_21
  · exact qt_15_22
  · exact qt_15_23
theorem qt_16_0 : (Cond.methodLink RX7 119 yX7_save) ∈ lw_tbl := qT_4 (List.mem_of_getElem? (i := 207) rfl)
theorem qt_16_1 : (Cond.instanceMethod yX7_save) ∈ lw_tbl := qT_4 (List.mem_of_getElem? (i := 209) rfl)
theorem qt_16_2 : (Cond.selects RX7 yX7_save yX7_save) ∈ lw_tbl := qP_2 (List.mem_of_getElem? (l := lw_privs_3) (i := 0) rfl)
theorem qt_16_3 : (Cond.code yX7_save cX7_save 2 none) ∈ lw_tbl := qT_4 (List.mem_of_getElem? (i := 210) rfl)
theorem qt_16_4 : (Cond.fieldLink RX7 37 "ClaimJudgeModel" "savedMany" "I") ∈ lw_tbl := qT_4 (List.mem_of_getElem? (i := 119) rfl)
theorem qt_16_5 : (Cond.methodLink RX7 122 yX7_places) ∈ lw_tbl := qT_4 (List.mem_of_getElem? (i := 211) rfl)
theorem qt_16_6 : (Cond.instanceMethod yX7_places) ∈ lw_tbl := qT_4 (List.mem_of_getElem? (i := 213) rfl)
theorem qt_16_7 : (Cond.selects RX7 yX7_places yX7_places) ∈ lw_tbl := qP_2 (List.mem_of_getElem? (l := lw_privs_3) (i := 1) rfl)
theorem qt_16_8 : (Cond.code yX7_places cX7_places 3 (some .int)) ∈ lw_tbl := qT_4 (List.mem_of_getElem? (i := 214) rfl)
theorem qt_16_9 : (Cond.methodLink RL 81 yX7_thrown) ∈ lw_tbl := qT_4 (List.mem_of_getElem? (i := 160) rfl)
theorem qt_16_10 : (Cond.instanceMethod yX7_thrown) ∈ lw_tbl := qT_4 (List.mem_of_getElem? (i := 161) rfl)
theorem qt_16_11 : (Cond.selects RX7 yX7_thrown yX7_thrown) ∈ lw_tbl := qT_4 (List.mem_of_getElem? (i := 162) rfl)
theorem qt_16_12 : (Cond.code yX7_thrown cX7_thrown 1 (some .int)) ∈ lw_tbl := qT_4 (List.mem_of_getElem? (i := 163) rfl)
theorem qt_16_13 : (Cond.methodLink RL 84 yL_add) ∈ lw_tbl := qT_3 (List.mem_of_getElem? (i := 207) rfl)
theorem qt_16_14 : (Cond.static yL_add) ∈ lw_tbl := qT_3 (List.mem_of_getElem? (i := 208) rfl)
theorem qt_16_15 : (Cond.codeWith yL_add cL_add 3 (some .int) [(0, 8, 11, 13)]) ∈ lw_tbl := qT_3 (List.mem_of_getElem? (i := 209) rfl)
theorem qt_16_16 : (Cond.methodLink RL 15 yX6_add) ∈ lw_tbl := qT_3 (List.mem_of_getElem? (i := 210) rfl)
theorem qt_16_17 : (Cond.instanceMethod yX6_add) ∈ lw_tbl := qT_3 (List.mem_of_getElem? (i := 211) rfl)
theorem qt_16_18 : (Cond.selects RX6 yX6_add yX6_add) ∈ lw_tbl := qT_3 (List.mem_of_getElem? (i := 212) rfl)
theorem qt_16_19 : (Cond.code yX6_add cX6_add 2 (some .int)) ∈ lw_tbl := qT_3 (List.mem_of_getElem? (i := 213) rfl)
theorem qt_16_20 : (Cond.methodLink RX6 89 yX6_fitsBehind) ∈ lw_tbl := qT_3 (List.mem_of_getElem? (i := 214) rfl)
theorem qt_16_21 : (Cond.instanceMethod yX6_fitsBehind) ∈ lw_tbl := qT_3 (List.mem_of_getElem? (i := 216) rfl)
theorem qt_16_22 : (Cond.selects RX6 yX6_fitsBehind yX6_fitsBehind) ∈ lw_tbl := qP_1 (List.mem_of_getElem? (l := lw_privs_2) (i := 6) rfl)
theorem qt_16_23 : (Cond.code yX6_fitsBehind cX6_fitsBehind 3 (some .boolean)) ∈ lw_tbl := qT_3 (List.mem_of_getElem? (i := 217) rfl)
theorem qr_16 : ∀ w ∈ wsL_law0_r16, w ∈ lw_tbl := by
  intro w hw
  simp only [wsL_law0_r16, List.mem_cons, List.not_mem_nil, or_false] at hw
  rcases hw with rfl | rfl | rfl | rfl | rfl | rfl | rfl | rfl | rfl | rfl | rfl | rfl | rfl | rfl | rfl | rfl | rfl | rfl | rfl | rfl | rfl | rfl | rfl | rfl
  · exact qt_16_0
  · exact qt_16_1
  · exact qt_16_2
  · exact qt_16_3
  · exact qt_16_4
  · exact qt_16_5
  · exact qt_16_6
  · exact qt_16_7
  · exact qt_16_8
  · exact qt_16_9
  · exact qt_16_10
  · exact qt_16_11
  · exact qt_16_12
  · exact qt_16_13
  · exact qt_16_14
  · exact qt_16_15
  · exact qt_16_16
  · exact qt_16_17
  · exact qt_16_18
  · exact qt_16_19
  · exact qt_16_20
  · exact qt_16_21
  · exact qt_16_22
  · exact qt_16_23
theorem qt_17_0 : (Cond.methodLink RX6 95 yX3_putAll) ∈ lw_tbl := qT_3 (List.mem_of_getElem? (i := 219) rfl)
theorem qt_17_1 : (Cond.methodLink RL 86 yX7_add) ∈ lw_tbl := qT_4 (List.mem_of_getElem? (i := 215) rfl)
theorem qt_17_2 : (Cond.instanceMethod yX7_add) ∈ lw_tbl := qT_4 (List.mem_of_getElem? (i := 216) rfl)
theorem qt_17_3 : (Cond.selects RX7 yX7_add yX7_add) ∈ lw_tbl := qT_4 (List.mem_of_getElem? (i := 217) rfl)
theorem qt_17_4 : (Cond.code yX7_add cX7_add 2 (some .int)) ∈ lw_tbl := qT_4 (List.mem_of_getElem? (i := 218) rfl)
theorem qt_17_5 : (Cond.methodLink RL 87 yL_removeLast) ∈ lw_tbl := qT_3 (List.mem_of_getElem? (i := 220) rfl)
theorem qt_17_6 : (Cond.static yL_removeLast) ∈ lw_tbl := qT_3 (List.mem_of_getElem? (i := 221) rfl)
theorem qt_17_7 : (Cond.codeWith yL_removeLast cL_removeLast 3 (some .int) [(0, 8, 11, 21)]) ∈ lw_tbl := qT_3 (List.mem_of_getElem? (i := 222) rfl)
theorem qt_17_8 : (Cond.classLink RL 21 "java/lang/IllegalStateException") ∈ lw_tbl := qT_3 (List.mem_of_getElem? (i := 223) rfl)
theorem qt_17_9 : (Cond.methodLink RL 18 yX6_removeLast) ∈ lw_tbl := qT_3 (List.mem_of_getElem? (i := 224) rfl)
theorem qt_17_10 : (Cond.instanceMethod yX6_removeLast) ∈ lw_tbl := qT_3 (List.mem_of_getElem? (i := 225) rfl)
theorem qt_17_11 : (Cond.selects RX6 yX6_removeLast yX6_removeLast) ∈ lw_tbl := qT_3 (List.mem_of_getElem? (i := 226) rfl)
theorem qt_17_12 : (Cond.code yX6_removeLast cX6_removeLast 1 (some .int)) ∈ lw_tbl := qT_3 (List.mem_of_getElem? (i := 227) rfl)
theorem qt_17_13 : (Cond.classLink RX6 98 "java/lang/IllegalStateException") ∈ lw_tbl := qT_3 (List.mem_of_getElem? (i := 228) rfl)
theorem qt_17_14 : (Cond.initialized "java/lang/IllegalStateException") ∈ lw_tbl := qT_1 (List.mem_of_getElem? (i := 19) rfl)
theorem qt_17_15 : (Cond.methodLink RX6 103 yX3_dropLast) ∈ lw_tbl := qT_4 (List.mem_of_getElem? (i := 4) rfl)
theorem qt_17_16 : (Cond.instanceMethod yX3_dropLast) ∈ lw_tbl := qT_4 (List.mem_of_getElem? (i := 5) rfl)
theorem qt_17_17 : (Cond.selects RX3 yX3_dropLast yX3_dropLast) ∈ lw_tbl := qT_4 (List.mem_of_getElem? (i := 6) rfl)
theorem qt_17_18 : (Cond.code yX3_dropLast cX3_dropLast 3 none) ∈ lw_tbl := qT_4 (List.mem_of_getElem? (i := 7) rfl)
theorem qt_17_19 : (Cond.methodLink RL 89 yX7_removeLast) ∈ lw_tbl := qT_4 (List.mem_of_getElem? (i := 219) rfl)
theorem qt_17_20 : (Cond.instanceMethod yX7_removeLast) ∈ lw_tbl := qT_4 (List.mem_of_getElem? (i := 220) rfl)
theorem qt_17_21 : (Cond.selects RX7 yX7_removeLast yX7_removeLast) ∈ lw_tbl := qT_4 (List.mem_of_getElem? (i := 221) rfl)
theorem qt_17_22 : (Cond.code yX7_removeLast cX7_removeLast 3 (some .int)) ∈ lw_tbl := qT_4 (List.mem_of_getElem? (i := 222) rfl)
theorem qt_17_23 : (Cond.methodLink RX7 44 yX7_of) ∈ lw_tbl := qT_4 (List.mem_of_getElem? (i := 223) rfl)
theorem qr_17 : ∀ w ∈ wsL_law0_r17, w ∈ lw_tbl := by
  intro w hw
  simp only [wsL_law0_r17, List.mem_cons, List.not_mem_nil, or_false] at hw
  rcases hw with rfl | rfl | rfl | rfl | rfl | rfl | rfl | rfl | rfl | rfl | rfl | rfl | rfl | rfl | rfl | rfl | rfl | rfl | rfl | rfl | rfl | rfl | rfl | rfl
  · exact qt_17_0
  · exact qt_17_1
  · exact qt_17_2
  · exact qt_17_3
  · exact qt_17_4
  · exact qt_17_5
  · exact qt_17_6
  · exact qt_17_7
  · exact qt_17_8
  · exact qt_17_9
  · exact qt_17_10
  · exact qt_17_11
  · exact qt_17_12
  · exact qt_17_13
  · exact qt_17_14
  · exact qt_17_15
  · exact qt_17_16
  · exact qt_17_17
  · exact qt_17_18
  · exact qt_17_19
  · exact qt_17_20
  · exact qt_17_21
  · exact qt_17_22
  · exact qt_17_23
theorem qt_18_0 : (Cond.static yX7_of) ∈ lw_tbl := qT_4 (List.mem_of_getElem? (i := 224) rfl)
theorem qt_18_1 : (Cond.code yX7_of cX7_of 2 (some .int)) ∈ lw_tbl := qT_4 (List.mem_of_getElem? (i := 225) rfl)
theorem qt_18_2 : (Cond.methodLink RL 90 yX6_statements) ∈ lw_tbl := qT_1 (List.mem_of_getElem? (i := 223) rfl)
theorem qt_18_3 : (Cond.instanceMethod yX6_statements) ∈ lw_tbl := qT_1 (List.mem_of_getElem? (i := 224) rfl)
theorem qt_18_4 : (Cond.selects RX6 yX6_statements yX6_statements) ∈ lw_tbl := qT_1 (List.mem_of_getElem? (i := 225) rfl)
theorem qt_18_5 : (Cond.code yX6_statements cX6_statements 1 (some .int)) ∈ lw_tbl := qT_1 (List.mem_of_getElem? (i := 226) rfl)
theorem qt_18_6 : (Cond.methodLink RL 93 yX7_statements) ∈ lw_tbl := qT_4 (List.mem_of_getElem? (i := 226) rfl)
theorem qt_18_7 : (Cond.instanceMethod yX7_statements) ∈ lw_tbl := qT_4 (List.mem_of_getElem? (i := 227) rfl)
theorem qt_18_8 : (Cond.selects RX7 yX7_statements yX7_statements) ∈ lw_tbl := qT_4 (List.mem_of_getElem? (i := 228) rfl)
theorem qt_18_9 : (Cond.code yX7_statements cX7_statements 1 (some .int)) ∈ lw_tbl := qT_4 (List.mem_of_getElem? (i := 229) rfl)
theorem qt_18_10 : (Cond.methodLink RL 94 yL_kind) ∈ lw_tbl := qT_4 (List.mem_of_getElem? (i := 8) rfl)
theorem qt_18_11 : (Cond.static yL_kind) ∈ lw_tbl := qT_4 (List.mem_of_getElem? (i := 9) rfl)
theorem qt_18_12 : (Cond.codeWith yL_kind cL_kind 4 (some .int) [(0, 9, 12, 27)]) ∈ lw_tbl := qT_4 (List.mem_of_getElem? (i := 10) rfl)
theorem qt_18_13 : (Cond.classLink RL 27 "java/lang/IndexOutOfBoundsException") ∈ lw_tbl := qT_4 (List.mem_of_getElem? (i := 11) rfl)
theorem qt_18_14 : (Cond.methodLink RL 23 yX6_kind) ∈ lw_tbl := qT_4 (List.mem_of_getElem? (i := 12) rfl)
theorem qt_18_15 : (Cond.instanceMethod yX6_kind) ∈ lw_tbl := qT_3 (List.mem_of_getElem? (i := 18) rfl)
theorem qt_18_16 : (Cond.selects RX6 yX6_kind yX6_kind) ∈ lw_tbl := qT_3 (List.mem_of_getElem? (i := 19) rfl)
theorem qt_18_17 : (Cond.code yX6_kind cX6_kind 2 (some .int)) ∈ lw_tbl := qT_3 (List.mem_of_getElem? (i := 20) rfl)
theorem qt_18_18 : (Cond.methodLink RX6 106 yX6_checkIndex) ∈ lw_tbl := qT_3 (List.mem_of_getElem? (i := 21) rfl)
theorem qt_18_19 : (Cond.static yX6_checkIndex) ∈ lw_tbl := qT_3 (List.mem_of_getElem? (i := 22) rfl)
theorem qt_18_20 : (Cond.code yX6_checkIndex cX6_checkIndex 2 none) ∈ lw_tbl := qT_3 (List.mem_of_getElem? (i := 23) rfl)
theorem qt_18_21 : (Cond.classLink RX6 254 "java/lang/IndexOutOfBoundsException") ∈ lw_tbl := qT_3 (List.mem_of_getElem? (i := 24) rfl)
theorem qt_18_22 : (Cond.initialized "java/lang/IndexOutOfBoundsException") ∈ lw_tbl := qT_1 (List.mem_of_getElem? (i := 20) rfl)
theorem qt_18_23 : (Cond.methodLink RL 97 yX7_kind) ∈ lw_tbl := qT_4 (List.mem_of_getElem? (i := 230) rfl)
theorem qr_18 : ∀ w ∈ wsL_law0_r18, w ∈ lw_tbl := by
  intro w hw
  simp only [wsL_law0_r18, List.mem_cons, List.not_mem_nil, or_false] at hw
  rcases hw with rfl | rfl | rfl | rfl | rfl | rfl | rfl | rfl | rfl | rfl | rfl | rfl | rfl | rfl | rfl | rfl | rfl | rfl | rfl | rfl | rfl | rfl | rfl | rfl
  · exact qt_18_0
  · exact qt_18_1
  · exact qt_18_2
  · exact qt_18_3
  · exact qt_18_4
  · exact qt_18_5
  · exact qt_18_6
  · exact qt_18_7
  · exact qt_18_8
  · exact qt_18_9
  · exact qt_18_10
  · exact qt_18_11
  · exact qt_18_12
  · exact qt_18_13
  · exact qt_18_14
  · exact qt_18_15
  · exact qt_18_16
  · exact qt_18_17
  · exact qt_18_18
  · exact qt_18_19
  · exact qt_18_20
  · exact qt_18_21
  · exact qt_18_22
  · exact qt_18_23
theorem qt_19_0 : (Cond.instanceMethod yX7_kind) ∈ lw_tbl := qT_4 (List.mem_of_getElem? (i := 231) rfl)
theorem qt_19_1 : (Cond.selects RX7 yX7_kind yX7_kind) ∈ lw_tbl := qT_4 (List.mem_of_getElem? (i := 232) rfl)
theorem qt_19_2 : (Cond.code yX7_kind cX7_kind 2 (some .int)) ∈ lw_tbl := qT_4 (List.mem_of_getElem? (i := 233) rfl)
theorem qt_19_3 : (Cond.methodLink RX7 125 yX7_isStatement) ∈ lw_tbl := qT_4 (List.mem_of_getElem? (i := 234) rfl)
theorem qt_19_4 : (Cond.instanceMethod yX7_isStatement) ∈ lw_tbl := qT_4 (List.mem_of_getElem? (i := 236) rfl)
theorem qt_19_5 : (Cond.selects RX7 yX7_isStatement yX7_isStatement) ∈ lw_tbl := qP_2 (List.mem_of_getElem? (l := lw_privs_3) (i := 2) rfl)
theorem qt_19_6 : (Cond.code yX7_isStatement cX7_isStatement 2 (some .boolean)) ∈ lw_tbl := qT_4 (List.mem_of_getElem? (i := 237) rfl)
theorem qt_19_7 : (Cond.methodLink RL 98 yL_target) ∈ lw_tbl := qT_4 (List.mem_of_getElem? (i := 13) rfl)
theorem qt_19_8 : (Cond.static yL_target) ∈ lw_tbl := qT_4 (List.mem_of_getElem? (i := 14) rfl)
theorem qt_19_9 : (Cond.codeWith yL_target cL_target 4 (some .int) [(0, 9, 12, 27)]) ∈ lw_tbl := qT_4 (List.mem_of_getElem? (i := 15) rfl)
theorem qt_19_10 : (Cond.methodLink RL 29 yX6_target) ∈ lw_tbl := qT_4 (List.mem_of_getElem? (i := 16) rfl)
theorem qt_19_11 : (Cond.instanceMethod yX6_target) ∈ lw_tbl := qT_3 (List.mem_of_getElem? (i := 92) rfl)
theorem qt_19_12 : (Cond.selects RX6 yX6_target yX6_target) ∈ lw_tbl := qT_3 (List.mem_of_getElem? (i := 93) rfl)
theorem qt_19_13 : (Cond.code yX6_target cX6_target 2 (some .int)) ∈ lw_tbl := qT_3 (List.mem_of_getElem? (i := 94) rfl)
theorem qt_19_14 : (Cond.methodLink RL 100 yX7_target) ∈ lw_tbl := qT_4 (List.mem_of_getElem? (i := 238) rfl)
theorem qt_19_15 : (Cond.instanceMethod yX7_target) ∈ lw_tbl := qT_4 (List.mem_of_getElem? (i := 239) rfl)
theorem qt_19_16 : (Cond.selects RX7 yX7_target yX7_target) ∈ lw_tbl := qT_5 (List.mem_of_getElem? (i := 0) rfl)
theorem qt_19_17 : (Cond.code yX7_target cX7_target 2 (some .int)) ∈ lw_tbl := qT_5 (List.mem_of_getElem? (i := 1) rfl)
theorem qt_19_18 : (Cond.methodLink RX7 128 yX7_targetOf) ∈ lw_tbl := qT_5 (List.mem_of_getElem? (i := 2) rfl)
theorem qt_19_19 : (Cond.instanceMethod yX7_targetOf) ∈ lw_tbl := qT_5 (List.mem_of_getElem? (i := 4) rfl)
theorem qt_19_20 : (Cond.selects RX7 yX7_targetOf yX7_targetOf) ∈ lw_tbl := qP_2 (List.mem_of_getElem? (l := lw_privs_3) (i := 3) rfl)
theorem qt_19_21 : (Cond.code yX7_targetOf cX7_targetOf 2 (some .int)) ∈ lw_tbl := qT_5 (List.mem_of_getElem? (i := 5) rfl)
theorem qt_19_22 : (Cond.methodLink RL 101 yL_run) ∈ lw_tbl := qT_4 (List.mem_of_getElem? (i := 17) rfl)
theorem qt_19_23 : (Cond.static yL_run) ∈ lw_tbl := qT_4 (List.mem_of_getElem? (i := 18) rfl)
theorem qr_19 : ∀ w ∈ wsL_law0_r19, w ∈ lw_tbl := by
  intro w hw
  simp only [wsL_law0_r19, List.mem_cons, List.not_mem_nil, or_false] at hw
  rcases hw with rfl | rfl | rfl | rfl | rfl | rfl | rfl | rfl | rfl | rfl | rfl | rfl | rfl | rfl | rfl | rfl | rfl | rfl | rfl | rfl | rfl | rfl | rfl | rfl
  · exact qt_19_0
  · exact qt_19_1
  · exact qt_19_2
  · exact qt_19_3
  · exact qt_19_4
  · exact qt_19_5
  · exact qt_19_6
  · exact qt_19_7
  · exact qt_19_8
  · exact qt_19_9
  · exact qt_19_10
  · exact qt_19_11
  · exact qt_19_12
  · exact qt_19_13
  · exact qt_19_14
  · exact qt_19_15
  · exact qt_19_16
  · exact qt_19_17
  · exact qt_19_18
  · exact qt_19_19
  · exact qt_19_20
  · exact qt_19_21
  · exact qt_19_22
  · exact qt_19_23
theorem qt_20_0 : (Cond.codeWith yL_run cL_run 6 (some .int) [(0, 12, 15, 13)]) ∈ lw_tbl := qT_4 (List.mem_of_getElem? (i := 19) rfl)
theorem qt_20_1 : (Cond.methodLink RL 32 yX6_run) ∈ lw_tbl := qT_4 (List.mem_of_getElem? (i := 20) rfl)
theorem qt_20_2 : (Cond.instanceMethod yX6_run) ∈ lw_tbl := qT_4 (List.mem_of_getElem? (i := 21) rfl)
theorem qt_20_3 : (Cond.selects RX6 yX6_run yX6_run) ∈ lw_tbl := qT_4 (List.mem_of_getElem? (i := 22) rfl)
theorem qt_20_4 : (Cond.code yX6_run cX6_run 4 (some .int)) ∈ lw_tbl := qT_4 (List.mem_of_getElem? (i := 23) rfl)
theorem qt_20_5 : (Cond.methodLink RX6 117 yX6_checkValues) ∈ lw_tbl := qT_4 (List.mem_of_getElem? (i := 24) rfl)
theorem qt_20_6 : (Cond.static yX6_checkValues) ∈ lw_tbl := qT_4 (List.mem_of_getElem? (i := 25) rfl)
theorem qt_20_7 : (Cond.code yX6_checkValues cX6_checkValues 3 none) ∈ lw_tbl := qT_4 (List.mem_of_getElem? (i := 26) rfl)
theorem qt_20_8 : (Cond.methodLink RX6 140 yX6_isValue) ∈ lw_tbl := qT_4 (List.mem_of_getElem? (i := 27) rfl)
theorem qt_20_9 : (Cond.static yX6_isValue) ∈ lw_tbl := qT_4 (List.mem_of_getElem? (i := 28) rfl)
theorem qt_20_10 : (Cond.code yX6_isValue cX6_isValue 1 (some .boolean)) ∈ lw_tbl := qT_4 (List.mem_of_getElem? (i := 29) rfl)
theorem qt_20_11 : (Cond.methodLink RX6 121 yX6_tripleOf) ∈ lw_tbl := qT_4 (List.mem_of_getElem? (i := 31) rfl)
theorem qt_20_12 : (Cond.static yX6_tripleOf) ∈ lw_tbl := qT_4 (List.mem_of_getElem? (i := 32) rfl)
theorem qt_20_13 : (Cond.code yX6_tripleOf cX6_tripleOf 3 (some .int)) ∈ lw_tbl := qT_4 (List.mem_of_getElem? (i := 33) rfl)
theorem qt_20_14 : (Cond.methodLink RX6 125 yX4_endFrom) ∈ lw_tbl := qT_3 (List.mem_of_getElem? (i := 134) rfl)
theorem qt_20_15 : (Cond.instanceMethod yX4_endFrom) ∈ lw_tbl := qT_2 (List.mem_of_getElem? (i := 17) rfl)
theorem qt_20_16 : (Cond.selects RX4 yX4_endFrom yX4_endFrom) ∈ lw_tbl := qT_2 (List.mem_of_getElem? (i := 18) rfl)
theorem qt_20_17 : (Cond.code yX4_endFrom cX4_endFrom 5 (some .int)) ∈ lw_tbl := qT_2 (List.mem_of_getElem? (i := 19) rfl)
theorem qt_20_18 : (Cond.methodLink RX4 27 yJ7_fill_53178) ∈ lw_tbl := qT_2 (List.mem_of_getElem? (i := 20) rfl)
theorem qt_20_19 : (Cond.static yJ7_fill_53178) ∈ lw_tbl := qT_2 (List.mem_of_getElem? (i := 0) rfl)
theorem qt_20_20 : (Cond.initialized RJ7) ∈ lw_tbl := qT_1 (List.mem_of_getElem? (i := 21) rfl)
theorem qt_20_21 : (Cond.code yJ7_fill_53178 cJ7_fill_53178 4 none) ∈ lw_tbl := qT_2 (List.mem_of_getElem? (i := 1) rfl)
theorem qt_20_22 : (Cond.methodLink RX4 33 yX3_placeAfter) ∈ lw_tbl := qT_2 (List.mem_of_getElem? (i := 21) rfl)
theorem qt_20_23 : (Cond.instanceMethod yX3_placeAfter) ∈ lw_tbl := qT_2 (List.mem_of_getElem? (i := 22) rfl)
theorem qr_20 : ∀ w ∈ wsL_law0_r20, w ∈ lw_tbl := by
  intro w hw
  simp only [wsL_law0_r20, List.mem_cons, List.not_mem_nil, or_false] at hw
  rcases hw with rfl | rfl | rfl | rfl | rfl | rfl | rfl | rfl | rfl | rfl | rfl | rfl | rfl | rfl | rfl | rfl | rfl | rfl | rfl | rfl | rfl | rfl | rfl | rfl
  · exact qt_20_0
  · exact qt_20_1
  · exact qt_20_2
  · exact qt_20_3
  · exact qt_20_4
  · exact qt_20_5
  · exact qt_20_6
  · exact qt_20_7
  · exact qt_20_8
  · exact qt_20_9
  · exact qt_20_10
  · exact qt_20_11
  · exact qt_20_12
  · exact qt_20_13
  · exact qt_20_14
  · exact qt_20_15
  · exact qt_20_16
  · exact qt_20_17
  · exact qt_20_18
  · exact qt_20_19
  · exact qt_20_20
  · exact qt_20_21
  · exact qt_20_22
  · exact qt_20_23
theorem qt_21_0 : (Cond.selects RX3 yX3_placeAfter yX3_placeAfter) ∈ lw_tbl := qT_2 (List.mem_of_getElem? (i := 23) rfl)
theorem qt_21_1 : (Cond.code yX3_placeAfter cX3_placeAfter 7 (some .int)) ∈ lw_tbl := qT_2 (List.mem_of_getElem? (i := 24) rfl)
theorem qt_21_2 : (Cond.static yX6_statementAt) ∈ lw_tbl := qT_2 (List.mem_of_getElem? (i := 26) rfl)
theorem qt_21_3 : (Cond.code yX6_statementAt cX6_statementAt 1 (some .int)) ∈ lw_tbl := qT_2 (List.mem_of_getElem? (i := 27) rfl)
theorem qt_21_4 : (Cond.static yX6_tripleAt) ∈ lw_tbl := qT_2 (List.mem_of_getElem? (i := 29) rfl)
theorem qt_21_5 : (Cond.code yX6_tripleAt cX6_tripleAt 1 (some .int)) ∈ lw_tbl := qT_2 (List.mem_of_getElem? (i := 30) rfl)
theorem qt_21_6 : (Cond.static yX6_valueOf) ∈ lw_tbl := qT_2 (List.mem_of_getElem? (i := 14) rfl)
theorem qt_21_7 : (Cond.code yX6_valueOf cX6_valueOf 2 (some .int)) ∈ lw_tbl := qT_2 (List.mem_of_getElem? (i := 15) rfl)
theorem qt_21_8 : (Cond.static yX6_withValue) ∈ lw_tbl := qT_2 (List.mem_of_getElem? (i := 33) rfl)
theorem qt_21_9 : (Cond.code yX6_withValue cX6_withValue 4 (some .int)) ∈ lw_tbl := qT_2 (List.mem_of_getElem? (i := 34) rfl)
theorem qt_21_10 : (Cond.static yX6_placeOf) ∈ lw_tbl := qT_2 (List.mem_of_getElem? (i := 36) rfl)
theorem qt_21_11 : (Cond.code yX6_placeOf cX6_placeOf 2 (some .int)) ∈ lw_tbl := qT_2 (List.mem_of_getElem? (i := 37) rfl)
theorem qt_21_12 : (Cond.methodLink RX3 68 yX3_compares) ∈ lw_tbl := qT_2 (List.mem_of_getElem? (i := 38) rfl)
theorem qt_21_13 : (Cond.static yX3_compares) ∈ lw_tbl := qT_2 (List.mem_of_getElem? (i := 39) rfl)
theorem qt_21_14 : (Cond.code yX3_compares cX3_compares 3 (some .boolean)) ∈ lw_tbl := qT_2 (List.mem_of_getElem? (i := 40) rfl)
theorem qt_21_15 : (Cond.methodLink RX4 38 yX4_endAt) ∈ lw_tbl := qT_2 (List.mem_of_getElem? (i := 41) rfl)
theorem qt_21_16 : (Cond.instanceMethod yX4_endAt) ∈ lw_tbl := qT_2 (List.mem_of_getElem? (i := 43) rfl)
theorem qt_21_17 : (Cond.selects RX4 yX4_endAt yX4_endAt) ∈ lw_tbl := qP_0 (List.mem_of_getElem? (l := lw_privs_1) (i := 1) rfl)
theorem qt_21_18 : (Cond.code yX4_endAt cX4_endAt 2 (some .int)) ∈ lw_tbl := qT_2 (List.mem_of_getElem? (i := 44) rfl)
theorem qt_21_19 : (Cond.methodLink RX4 45 yX3_isEnd) ∈ lw_tbl := qT_2 (List.mem_of_getElem? (i := 45) rfl)
theorem qt_21_20 : (Cond.instanceMethod yX3_isEnd) ∈ lw_tbl := qT_2 (List.mem_of_getElem? (i := 46) rfl)
theorem qt_21_21 : (Cond.selects RX3 yX3_isEnd yX3_isEnd) ∈ lw_tbl := qT_2 (List.mem_of_getElem? (i := 47) rfl)
theorem qt_21_22 : (Cond.code yX3_isEnd cX3_isEnd 2 (some .boolean)) ∈ lw_tbl := qT_2 (List.mem_of_getElem? (i := 48) rfl)
theorem qt_21_23 : (Cond.methodLink RX4 41 yX4_settle) ∈ lw_tbl := qT_2 (List.mem_of_getElem? (i := 51) rfl)
theorem qr_21 : ∀ w ∈ wsL_law0_r21, w ∈ lw_tbl := by
  intro w hw
  simp only [wsL_law0_r21, List.mem_cons, List.not_mem_nil, or_false] at hw
  rcases hw with rfl | rfl | rfl | rfl | rfl | rfl | rfl | rfl | rfl | rfl | rfl | rfl | rfl | rfl | rfl | rfl | rfl | rfl | rfl | rfl | rfl | rfl | rfl | rfl
  · exact qt_21_0
  · exact qt_21_1
  · exact qt_21_2
  · exact qt_21_3
  · exact qt_21_4
  · exact qt_21_5
  · exact qt_21_6
  · exact qt_21_7
  · exact qt_21_8
  · exact qt_21_9
  · exact qt_21_10
  · exact qt_21_11
  · exact qt_21_12
  · exact qt_21_13
  · exact qt_21_14
  · exact qt_21_15
  · exact qt_21_16
  · exact qt_21_17
  · exact qt_21_18
  · exact qt_21_19
  · exact qt_21_20
  · exact qt_21_21
  · exact qt_21_22
  · exact qt_21_23
theorem qt_22_0 : (Cond.instanceMethod yX4_settle) ∈ lw_tbl := qT_2 (List.mem_of_getElem? (i := 53) rfl)
theorem qt_22_1 : (Cond.selects RX4 yX4_settle yX4_settle) ∈ lw_tbl := qP_0 (List.mem_of_getElem? (l := lw_privs_1) (i := 2) rfl)
theorem qt_22_2 : (Cond.code yX4_settle cX4_settle 5 none) ∈ lw_tbl := qT_2 (List.mem_of_getElem? (i := 54) rfl)
theorem qt_22_3 : (Cond.methodLink RL 104 yX7_run) ∈ lw_tbl := qT_5 (List.mem_of_getElem? (i := 6) rfl)
theorem qt_22_4 : (Cond.instanceMethod yX7_run) ∈ lw_tbl := qT_5 (List.mem_of_getElem? (i := 7) rfl)
theorem qt_22_5 : (Cond.selects RX7 yX7_run yX7_run) ∈ lw_tbl := qT_5 (List.mem_of_getElem? (i := 8) rfl)
theorem qt_22_6 : (Cond.code yX7_run cX7_run 4 (some .int)) ∈ lw_tbl := qT_5 (List.mem_of_getElem? (i := 9) rfl)
theorem qt_22_7 : (Cond.methodLink RX7 131 yX7_areValues) ∈ lw_tbl := qT_5 (List.mem_of_getElem? (i := 10) rfl)
theorem qt_22_8 : (Cond.static yX7_areValues) ∈ lw_tbl := qT_5 (List.mem_of_getElem? (i := 11) rfl)
theorem qt_22_9 : (Cond.code yX7_areValues cX7_areValues 3 (some .boolean)) ∈ lw_tbl := qT_5 (List.mem_of_getElem? (i := 12) rfl)
theorem qt_22_10 : (Cond.methodLink RX7 134 yX7_worksOut) ∈ lw_tbl := qT_5 (List.mem_of_getElem? (i := 13) rfl)
theorem qt_22_11 : (Cond.instanceMethod yX7_worksOut) ∈ lw_tbl := qT_5 (List.mem_of_getElem? (i := 15) rfl)
theorem qt_22_12 : (Cond.selects RX7 yX7_worksOut yX7_worksOut) ∈ lw_tbl := qP_2 (List.mem_of_getElem? (l := lw_privs_3) (i := 4) rfl)
theorem qt_22_13 : (Cond.code yX7_worksOut cX7_worksOut 2 none) ∈ lw_tbl := qT_5 (List.mem_of_getElem? (i := 16) rfl)
theorem qt_22_14 : (Cond.methodLink RX7 58 yX7_isEnd) ∈ lw_tbl := qT_5 (List.mem_of_getElem? (i := 17) rfl)
theorem qt_22_15 : (Cond.instanceMethod yX7_isEnd) ∈ lw_tbl := qT_5 (List.mem_of_getElem? (i := 19) rfl)
theorem qt_22_16 : (Cond.selects RX7 yX7_isEnd yX7_isEnd) ∈ lw_tbl := qP_2 (List.mem_of_getElem? (l := lw_privs_3) (i := 5) rfl)
theorem qt_22_17 : (Cond.code yX7_isEnd cX7_isEnd 2 (some .boolean)) ∈ lw_tbl := qT_5 (List.mem_of_getElem? (i := 20) rfl)
theorem qt_22_18 : (Cond.methodLink RX7 66 yX7_follows) ∈ lw_tbl := qT_5 (List.mem_of_getElem? (i := 21) rfl)
theorem qt_22_19 : (Cond.instanceMethod yX7_follows) ∈ lw_tbl := qT_5 (List.mem_of_getElem? (i := 23) rfl)
theorem qt_22_20 : (Cond.selects RX7 yX7_follows yX7_follows) ∈ lw_tbl := qP_2 (List.mem_of_getElem? (l := lw_privs_3) (i := 6) rfl)
theorem qt_22_21 : (Cond.code yX7_follows cX7_follows 5 none) ∈ lw_tbl := qT_5 (List.mem_of_getElem? (i := 24) rfl)
theorem qt_22_22 : (Cond.methodLink RX7 62 yX7_goesTo) ∈ lw_tbl := qT_5 (List.mem_of_getElem? (i := 25) rfl)
theorem qt_22_23 : (Cond.instanceMethod yX7_goesTo) ∈ lw_tbl := qT_5 (List.mem_of_getElem? (i := 27) rfl)
theorem qr_22 : ∀ w ∈ wsL_law0_r22, w ∈ lw_tbl := by
  intro w hw
  simp only [wsL_law0_r22, List.mem_cons, List.not_mem_nil, or_false] at hw
  rcases hw with rfl | rfl | rfl | rfl | rfl | rfl | rfl | rfl | rfl | rfl | rfl | rfl | rfl | rfl | rfl | rfl | rfl | rfl | rfl | rfl | rfl | rfl | rfl | rfl
  · exact qt_22_0
  · exact qt_22_1
  · exact qt_22_2
  · exact qt_22_3
  · exact qt_22_4
  · exact qt_22_5
  · exact qt_22_6
  · exact qt_22_7
  · exact qt_22_8
  · exact qt_22_9
  · exact qt_22_10
  · exact qt_22_11
  · exact qt_22_12
  · exact qt_22_13
  · exact qt_22_14
  · exact qt_22_15
  · exact qt_22_16
  · exact qt_22_17
  · exact qt_22_18
  · exact qt_22_19
  · exact qt_22_20
  · exact qt_22_21
  · exact qt_22_22
  · exact qt_22_23
theorem qt_23_0 : (Cond.selects RX7 yX7_goesTo yX7_goesTo) ∈ lw_tbl := qP_2 (List.mem_of_getElem? (l := lw_privs_3) (i := 7) rfl)
theorem qt_23_1 : (Cond.code yX7_goesTo cX7_goesTo 6 (some .int)) ∈ lw_tbl := qT_5 (List.mem_of_getElem? (i := 28) rfl)
theorem qt_23_2 : (Cond.methodLink RX7 47 yX7_operand) ∈ lw_tbl := qT_5 (List.mem_of_getElem? (i := 29) rfl)
theorem qt_23_3 : (Cond.instanceMethod yX7_operand) ∈ lw_tbl := qT_5 (List.mem_of_getElem? (i := 31) rfl)
theorem qt_23_4 : (Cond.selects RX7 yX7_operand yX7_operand) ∈ lw_tbl := qP_2 (List.mem_of_getElem? (l := lw_privs_3) (i := 8) rfl)
theorem qt_23_5 : (Cond.code yX7_operand cX7_operand 4 (some .int)) ∈ lw_tbl := qT_5 (List.mem_of_getElem? (i := 32) rfl)
theorem qt_23_6 : (Cond.methodLink RX7 40 yX7_valueOf) ∈ lw_tbl := qT_5 (List.mem_of_getElem? (i := 33) rfl)
theorem qt_23_7 : (Cond.static yX7_valueOf) ∈ lw_tbl := qT_5 (List.mem_of_getElem? (i := 34) rfl)
theorem qt_23_8 : (Cond.code yX7_valueOf cX7_valueOf 2 (some .int)) ∈ lw_tbl := qT_5 (List.mem_of_getElem? (i := 35) rfl)
theorem qt_23_9 : (Cond.methodLink RX7 50 yX7_withValue) ∈ lw_tbl := qT_5 (List.mem_of_getElem? (i := 36) rfl)
theorem qt_23_10 : (Cond.static yX7_withValue) ∈ lw_tbl := qT_5 (List.mem_of_getElem? (i := 37) rfl)
theorem qt_23_11 : (Cond.code yX7_withValue cX7_withValue 4 (some .int)) ∈ lw_tbl := qT_5 (List.mem_of_getElem? (i := 38) rfl)
theorem qt_23_12 : (Cond.methodLink RX7 54 yX7_isTrue) ∈ lw_tbl := qT_5 (List.mem_of_getElem? (i := 39) rfl)
theorem qt_23_13 : (Cond.instanceMethod yX7_isTrue) ∈ lw_tbl := qT_5 (List.mem_of_getElem? (i := 41) rfl)
theorem qt_23_14 : (Cond.selects RX7 yX7_isTrue yX7_isTrue) ∈ lw_tbl := qP_2 (List.mem_of_getElem? (l := lw_privs_3) (i := 9) rfl)
theorem qt_23_15 : (Cond.code yX7_isTrue cX7_isTrue 5 (some .boolean)) ∈ lw_tbl := qT_5 (List.mem_of_getElem? (i := 42) rfl)
theorem qt_23_16 : (Cond.methodLink RX7 137 yX7_triple) ∈ lw_tbl := qT_5 (List.mem_of_getElem? (i := 43) rfl)
theorem qt_23_17 : (Cond.static yX7_triple) ∈ lw_tbl := qT_5 (List.mem_of_getElem? (i := 44) rfl)
theorem qt_23_18 : (Cond.code yX7_triple cX7_triple 3 (some .int)) ∈ lw_tbl := qT_5 (List.mem_of_getElem? (i := 45) rfl)
theorem qt_23_19 : (Cond.methodLink RL 105 yL_steps) ∈ lw_tbl := qT_4 (List.mem_of_getElem? (i := 34) rfl)
theorem qt_23_20 : (Cond.static yL_steps) ∈ lw_tbl := qT_4 (List.mem_of_getElem? (i := 35) rfl)
theorem qt_23_21 : (Cond.codeWith yL_steps cL_steps 6 (some .int) [(0, 12, 15, 13)]) ∈ lw_tbl := qT_4 (List.mem_of_getElem? (i := 36) rfl)
theorem qt_23_22 : (Cond.methodLink RL 36 yX6_steps) ∈ lw_tbl := qT_4 (List.mem_of_getElem? (i := 37) rfl)
theorem qt_23_23 : (Cond.instanceMethod yX6_steps) ∈ lw_tbl := qT_4 (List.mem_of_getElem? (i := 38) rfl)
theorem qr_23 : ∀ w ∈ wsL_law0_r23, w ∈ lw_tbl := by
  intro w hw
  simp only [wsL_law0_r23, List.mem_cons, List.not_mem_nil, or_false] at hw
  rcases hw with rfl | rfl | rfl | rfl | rfl | rfl | rfl | rfl | rfl | rfl | rfl | rfl | rfl | rfl | rfl | rfl | rfl | rfl | rfl | rfl | rfl | rfl | rfl | rfl
  · exact qt_23_0
  · exact qt_23_1
  · exact qt_23_2
  · exact qt_23_3
  · exact qt_23_4
  · exact qt_23_5
  · exact qt_23_6
  · exact qt_23_7
  · exact qt_23_8
  · exact qt_23_9
  · exact qt_23_10
  · exact qt_23_11
  · exact qt_23_12
  · exact qt_23_13
  · exact qt_23_14
  · exact qt_23_15
  · exact qt_23_16
  · exact qt_23_17
  · exact qt_23_18
  · exact qt_23_19
  · exact qt_23_20
  · exact qt_23_21
  · exact qt_23_22
  · exact qt_23_23
theorem qt_24_0 : (Cond.selects RX6 yX6_steps yX6_steps) ∈ lw_tbl := qT_4 (List.mem_of_getElem? (i := 39) rfl)
theorem qt_24_1 : (Cond.code yX6_steps cX6_steps 4 (some .int)) ∈ lw_tbl := qT_4 (List.mem_of_getElem? (i := 40) rfl)
theorem qt_24_2 : (Cond.methodLink RX6 129 yX4_lengthFrom) ∈ lw_tbl := qT_4 (List.mem_of_getElem? (i := 41) rfl)
theorem qt_24_3 : (Cond.instanceMethod yX4_lengthFrom) ∈ lw_tbl := qT_4 (List.mem_of_getElem? (i := 42) rfl)
theorem qt_24_4 : (Cond.selects RX4 yX4_lengthFrom yX4_lengthFrom) ∈ lw_tbl := qT_4 (List.mem_of_getElem? (i := 43) rfl)
theorem qt_24_5 : (Cond.code yX4_lengthFrom cX4_lengthFrom 5 (some .int)) ∈ lw_tbl := qT_4 (List.mem_of_getElem? (i := 44) rfl)
theorem qt_24_6 : (Cond.methodLink RX4 23 yX4_endFrom) ∈ lw_tbl := qT_3 (List.mem_of_getElem? (i := 104) rfl)
theorem qt_24_7 : (Cond.methodLink RL 107 yX7_steps) ∈ lw_tbl := qT_5 (List.mem_of_getElem? (i := 46) rfl)
theorem qt_24_8 : (Cond.instanceMethod yX7_steps) ∈ lw_tbl := qT_5 (List.mem_of_getElem? (i := 47) rfl)
theorem qt_24_9 : (Cond.selects RX7 yX7_steps yX7_steps) ∈ lw_tbl := qT_5 (List.mem_of_getElem? (i := 48) rfl)
theorem qt_24_10 : (Cond.code yX7_steps cX7_steps 6 (some .int)) ∈ lw_tbl := qT_5 (List.mem_of_getElem? (i := 49) rfl)
theorem qt_24_11 : (Cond.methodLink RL 108 yL_demand) ∈ lw_tbl := qT_4 (List.mem_of_getElem? (i := 45) rfl)
theorem qt_24_12 : (Cond.static yL_demand) ∈ lw_tbl := qT_4 (List.mem_of_getElem? (i := 46) rfl)
theorem qt_24_13 : (Cond.codeWith yL_demand cL_demand 4 (some .int) [(0, 9, 12, 27)]) ∈ lw_tbl := qT_4 (List.mem_of_getElem? (i := 47) rfl)
theorem qt_24_14 : (Cond.methodLink RL 39 yX6_demand) ∈ lw_tbl := qT_4 (List.mem_of_getElem? (i := 48) rfl)
theorem qt_24_15 : (Cond.instanceMethod yX6_demand) ∈ lw_tbl := qT_3 (List.mem_of_getElem? (i := 96) rfl)
theorem qt_24_16 : (Cond.selects RX6 yX6_demand yX6_demand) ∈ lw_tbl := qT_3 (List.mem_of_getElem? (i := 97) rfl)
theorem qt_24_17 : (Cond.code yX6_demand cX6_demand 4 (some .int)) ∈ lw_tbl := qT_3 (List.mem_of_getElem? (i := 98) rfl)
theorem qt_24_18 : (Cond.methodLink RX6 132 yX6_placeOf) ∈ lw_tbl := qT_3 (List.mem_of_getElem? (i := 99) rfl)
theorem qt_24_19 : (Cond.methodLink RX6 136 yX4_succeedsFrom) ∈ lw_tbl := qT_3 (List.mem_of_getElem? (i := 100) rfl)
theorem qt_24_20 : (Cond.instanceMethod yX4_succeedsFrom) ∈ lw_tbl := qT_3 (List.mem_of_getElem? (i := 101) rfl)
theorem qt_24_21 : (Cond.selects RX4 yX4_succeedsFrom yX4_succeedsFrom) ∈ lw_tbl := qT_3 (List.mem_of_getElem? (i := 102) rfl)
theorem qt_24_22 : (Cond.code yX4_succeedsFrom cX4_succeedsFrom 2 (some .boolean)) ∈ lw_tbl := qT_3 (List.mem_of_getElem? (i := 103) rfl)
theorem qt_24_23 : (Cond.methodLink RL 110 yX7_demand) ∈ lw_tbl := qT_5 (List.mem_of_getElem? (i := 50) rfl)
theorem qr_24 : ∀ w ∈ wsL_law0_r24, w ∈ lw_tbl := by
  intro w hw
  simp only [wsL_law0_r24, List.mem_cons, List.not_mem_nil, or_false] at hw
  rcases hw with rfl | rfl | rfl | rfl | rfl | rfl | rfl | rfl | rfl | rfl | rfl | rfl | rfl | rfl | rfl | rfl | rfl | rfl | rfl | rfl | rfl | rfl | rfl | rfl
  · exact qt_24_0
  · exact qt_24_1
  · exact qt_24_2
  · exact qt_24_3
  · exact qt_24_4
  · exact qt_24_5
  · exact qt_24_6
  · exact qt_24_7
  · exact qt_24_8
  · exact qt_24_9
  · exact qt_24_10
  · exact qt_24_11
  · exact qt_24_12
  · exact qt_24_13
  · exact qt_24_14
  · exact qt_24_15
  · exact qt_24_16
  · exact qt_24_17
  · exact qt_24_18
  · exact qt_24_19
  · exact qt_24_20
  · exact qt_24_21
  · exact qt_24_22
  · exact qt_24_23
theorem qt_25_0 : (Cond.instanceMethod yX7_demand) ∈ lw_tbl := qT_5 (List.mem_of_getElem? (i := 51) rfl)
theorem qt_25_1 : (Cond.selects RX7 yX7_demand yX7_demand) ∈ lw_tbl := qT_5 (List.mem_of_getElem? (i := 52) rfl)
theorem qt_25_2 : (Cond.code yX7_demand cX7_demand 2 (some .int)) ∈ lw_tbl := qT_5 (List.mem_of_getElem? (i := 53) rfl)
theorem qt_25_3 : (Cond.methodLink RX7 140 yX7_demanded) ∈ lw_tbl := qT_5 (List.mem_of_getElem? (i := 54) rfl)
theorem qt_25_4 : (Cond.instanceMethod yX7_demanded) ∈ lw_tbl := qT_5 (List.mem_of_getElem? (i := 56) rfl)
theorem qt_25_5 : (Cond.selects RX7 yX7_demanded yX7_demanded) ∈ lw_tbl := qP_2 (List.mem_of_getElem? (l := lw_privs_3) (i := 10) rfl)
theorem qt_25_6 : (Cond.code yX7_demanded cX7_demanded 4 (some .int)) ∈ lw_tbl := qT_5 (List.mem_of_getElem? (i := 57) rfl)
theorem qt_25_7 : (Cond.methodLink RL 111 yL_demands) ∈ lw_tbl := qT_4 (List.mem_of_getElem? (i := 49) rfl)
theorem qt_25_8 : (Cond.static yL_demands) ∈ lw_tbl := qT_4 (List.mem_of_getElem? (i := 50) rfl)
theorem qt_25_9 : (Cond.codeWith yL_demands cL_demands 7 (some .int) [(0, 21, 24, 27), (0, 21, 28, 13)]) ∈ lw_tbl := qT_4 (List.mem_of_getElem? (i := 51) rfl)
theorem qt_25_10 : (Cond.methodLink RL 42 yX6_demands) ∈ lw_tbl := qT_4 (List.mem_of_getElem? (i := 52) rfl)
theorem qt_25_11 : (Cond.instanceMethod yX6_demands) ∈ lw_tbl := qT_4 (List.mem_of_getElem? (i := 53) rfl)
theorem qt_25_12 : (Cond.selects RX6 yX6_demands yX6_demands) ∈ lw_tbl := qT_4 (List.mem_of_getElem? (i := 54) rfl)
theorem qt_25_13 : (Cond.code yX6_demands cX6_demands 5 (some .boolean)) ∈ lw_tbl := qT_4 (List.mem_of_getElem? (i := 55) rfl)
theorem qt_25_14 : (Cond.methodLink RL 114 yX7_demands) ∈ lw_tbl := qT_5 (List.mem_of_getElem? (i := 58) rfl)
theorem qt_25_15 : (Cond.instanceMethod yX7_demands) ∈ lw_tbl := qT_5 (List.mem_of_getElem? (i := 59) rfl)
theorem qt_25_16 : (Cond.selects RX7 yX7_demands yX7_demands) ∈ lw_tbl := qT_5 (List.mem_of_getElem? (i := 60) rfl)
theorem qt_25_17 : (Cond.code yX7_demands cX7_demands 5 (some .boolean)) ∈ lw_tbl := qT_5 (List.mem_of_getElem? (i := 61) rfl)
theorem qt_25_18 : (Cond.methodLink RL 115 yL_assume) ∈ lw_tbl := qT_4 (List.mem_of_getElem? (i := 56) rfl)
theorem qt_25_19 : (Cond.static yL_assume) ∈ lw_tbl := qT_4 (List.mem_of_getElem? (i := 57) rfl)
theorem qt_25_20 : (Cond.codeWith yL_assume cL_assume 6 (some .int) [(0, 12, 15, 27), (0, 12, 19, 13)]) ∈ lw_tbl := qT_4 (List.mem_of_getElem? (i := 58) rfl)
theorem qt_25_21 : (Cond.methodLink RL 46 yX6_assume) ∈ lw_tbl := qT_4 (List.mem_of_getElem? (i := 59) rfl)
theorem qt_25_22 : (Cond.instanceMethod yX6_assume) ∈ lw_tbl := qT_4 (List.mem_of_getElem? (i := 60) rfl)
theorem qt_25_23 : (Cond.selects RX6 yX6_assume yX6_assume) ∈ lw_tbl := qT_4 (List.mem_of_getElem? (i := 61) rfl)
theorem qr_25 : ∀ w ∈ wsL_law0_r25, w ∈ lw_tbl := by
  intro w hw
  simp only [wsL_law0_r25, List.mem_cons, List.not_mem_nil, or_false] at hw
  rcases hw with rfl | rfl | rfl | rfl | rfl | rfl | rfl | rfl | rfl | rfl | rfl | rfl | rfl | rfl | rfl | rfl | rfl | rfl | rfl | rfl | rfl | rfl | rfl | rfl
  · exact qt_25_0
  · exact qt_25_1
  · exact qt_25_2
  · exact qt_25_3
  · exact qt_25_4
  · exact qt_25_5
  · exact qt_25_6
  · exact qt_25_7
  · exact qt_25_8
  · exact qt_25_9
  · exact qt_25_10
  · exact qt_25_11
  · exact qt_25_12
  · exact qt_25_13
  · exact qt_25_14
  · exact qt_25_15
  · exact qt_25_16
  · exact qt_25_17
  · exact qt_25_18
  · exact qt_25_19
  · exact qt_25_20
  · exact qt_25_21
  · exact qt_25_22
  · exact qt_25_23
theorem qt_26_0 : (Cond.code yX6_assume cX6_assume 4 (some .int)) ∈ lw_tbl := qT_4 (List.mem_of_getElem? (i := 62) rfl)
theorem qt_26_1 : (Cond.methodLink RX6 145 yX0_limit) ∈ lw_tbl := qT_4 (List.mem_of_getElem? (i := 64) rfl)
theorem qt_26_2 : (Cond.methodLink RX6 151 yX0_count) ∈ lw_tbl := qT_2 (List.mem_of_getElem? (i := 83) rfl)
theorem qt_26_3 : (Cond.instanceMethod yX0_count) ∈ lw_tbl := qT_2 (List.mem_of_getElem? (i := 84) rfl)
theorem qt_26_4 : (Cond.selects RX0 yX0_count yX0_count) ∈ lw_tbl := qT_2 (List.mem_of_getElem? (i := 85) rfl)
theorem qt_26_5 : (Cond.code yX0_count cX0_count 3 (some .int)) ∈ lw_tbl := qT_2 (List.mem_of_getElem? (i := 86) rfl)
theorem qt_26_6 : (Cond.methodLink RL 117 yX7_assume) ∈ lw_tbl := qT_5 (List.mem_of_getElem? (i := 62) rfl)
theorem qt_26_7 : (Cond.instanceMethod yX7_assume) ∈ lw_tbl := qT_5 (List.mem_of_getElem? (i := 63) rfl)
theorem qt_26_8 : (Cond.selects RX7 yX7_assume yX7_assume) ∈ lw_tbl := qT_5 (List.mem_of_getElem? (i := 64) rfl)
theorem qt_26_9 : (Cond.code yX7_assume cX7_assume 5 (some .int)) ∈ lw_tbl := qT_5 (List.mem_of_getElem? (i := 65) rfl)
theorem qt_26_10 : (Cond.methodLink RX7 143 yX7_assumed) ∈ lw_tbl := qT_5 (List.mem_of_getElem? (i := 66) rfl)
theorem qt_26_11 : (Cond.instanceMethod yX7_assumed) ∈ lw_tbl := qT_5 (List.mem_of_getElem? (i := 68) rfl)
theorem qt_26_12 : (Cond.selects RX7 yX7_assumed yX7_assumed) ∈ lw_tbl := qP_2 (List.mem_of_getElem? (l := lw_privs_3) (i := 11) rfl)
theorem qt_26_13 : (Cond.code yX7_assumed cX7_assumed 3 (some .int)) ∈ lw_tbl := qT_5 (List.mem_of_getElem? (i := 69) rfl)
theorem qt_26_14 : (Cond.methodLink RL 118 yL_verdict) ∈ lw_tbl := qT_4 (List.mem_of_getElem? (i := 65) rfl)
theorem qt_26_15 : (Cond.static yL_verdict) ∈ lw_tbl := qT_4 (List.mem_of_getElem? (i := 66) rfl)
theorem qt_26_16 : (Cond.codeWith yL_verdict cL_verdict 4 (some .int) [(0, 9, 12, 27)]) ∈ lw_tbl := qT_4 (List.mem_of_getElem? (i := 67) rfl)
theorem qt_26_17 : (Cond.methodLink RL 49 yX6_verdict) ∈ lw_tbl := qT_4 (List.mem_of_getElem? (i := 68) rfl)
theorem qt_26_18 : (Cond.instanceMethod yX6_verdict) ∈ lw_tbl := qT_3 (List.mem_of_getElem? (i := 106) rfl)
theorem qt_26_19 : (Cond.selects RX6 yX6_verdict yX6_verdict) ∈ lw_tbl := qT_3 (List.mem_of_getElem? (i := 107) rfl)
theorem qt_26_20 : (Cond.code yX6_verdict cX6_verdict 2 (some .int)) ∈ lw_tbl := qT_3 (List.mem_of_getElem? (i := 108) rfl)
theorem qt_26_21 : (Cond.methodLink RX6 154 yX2_refresh) ∈ lw_tbl := qT_1 (List.mem_of_getElem? (i := 231) rfl)
theorem qt_26_22 : (Cond.instanceMethod yX2_refresh) ∈ lw_tbl := qT_1 (List.mem_of_getElem? (i := 232) rfl)
theorem qt_26_23 : (Cond.selects RX2 yX2_refresh yX2_refresh) ∈ lw_tbl := qT_1 (List.mem_of_getElem? (i := 233) rfl)
theorem qr_26 : ∀ w ∈ wsL_law0_r26, w ∈ lw_tbl := by
  intro w hw
  simp only [wsL_law0_r26, List.mem_cons, List.not_mem_nil, or_false] at hw
  rcases hw with rfl | rfl | rfl | rfl | rfl | rfl | rfl | rfl | rfl | rfl | rfl | rfl | rfl | rfl | rfl | rfl | rfl | rfl | rfl | rfl | rfl | rfl | rfl | rfl
  · exact qt_26_0
  · exact qt_26_1
  · exact qt_26_2
  · exact qt_26_3
  · exact qt_26_4
  · exact qt_26_5
  · exact qt_26_6
  · exact qt_26_7
  · exact qt_26_8
  · exact qt_26_9
  · exact qt_26_10
  · exact qt_26_11
  · exact qt_26_12
  · exact qt_26_13
  · exact qt_26_14
  · exact qt_26_15
  · exact qt_26_16
  · exact qt_26_17
  · exact qt_26_18
  · exact qt_26_19
  · exact qt_26_20
  · exact qt_26_21
  · exact qt_26_22
  · exact qt_26_23
theorem qt_27_0 : (Cond.code yX2_refresh cX2_refresh 2 none) ∈ lw_tbl := qT_1 (List.mem_of_getElem? (i := 234) rfl)
theorem qt_27_1 : (Cond.methodLink RX2 41 yX2_clear) ∈ lw_tbl := qT_1 (List.mem_of_getElem? (i := 235) rfl)
theorem qt_27_2 : (Cond.instanceMethod yX2_clear) ∈ lw_tbl := qT_1 (List.mem_of_getElem? (i := 237) rfl)
theorem qt_27_3 : (Cond.selects RX2 yX2_clear yX2_clear) ∈ lw_tbl := qP_0 (List.mem_of_getElem? (l := lw_privs_1) (i := 0) rfl)
theorem qt_27_4 : (Cond.code yX2_clear cX2_clear 1 none) ∈ lw_tbl := qT_1 (List.mem_of_getElem? (i := 238) rfl)
theorem qt_27_5 : (Cond.fieldLink RX2 73 "ClaimJudge$Judgement" "endlessRuns" "I") ∈ lw_tbl := qT_1 (List.mem_of_getElem? (i := 106) rfl)
theorem qt_27_6 : (Cond.fieldLink RX2 77 "ClaimJudge$Judgement" "failedRuns" "I") ∈ lw_tbl := qT_1 (List.mem_of_getElem? (i := 108) rfl)
theorem qt_27_7 : (Cond.fieldLink RX2 80 "ClaimJudge$Judgement" "successfulRuns" "I") ∈ lw_tbl := qT_1 (List.mem_of_getElem? (i := 110) rfl)
theorem qt_27_8 : (Cond.methodLink RX2 64 yJ7_fill_53178) ∈ lw_tbl := qT_1 (List.mem_of_getElem? (i := 239) rfl)
theorem qt_27_9 : (Cond.methodLink RX2 70 yJ7_fill_d0a16) ∈ lw_tbl := qT_2 (List.mem_of_getElem? (i := 2) rfl)
theorem qt_27_10 : (Cond.static yJ7_fill_d0a16) ∈ lw_tbl := qT_2 (List.mem_of_getElem? (i := 3) rfl)
theorem qt_27_11 : (Cond.code yJ7_fill_d0a16 cJ7_fill_d0a16 5 none) ∈ lw_tbl := qT_2 (List.mem_of_getElem? (i := 4) rfl)
theorem qt_27_12 : (Cond.methodLink RX2 44 yX0_allows) ∈ lw_tbl := qT_2 (List.mem_of_getElem? (i := 5) rfl)
theorem qt_27_13 : (Cond.instanceMethod yX0_allows) ∈ lw_tbl := qT_2 (List.mem_of_getElem? (i := 6) rfl)
theorem qt_27_14 : (Cond.selects RX0 yX0_allows yX0_allows) ∈ lw_tbl := qT_2 (List.mem_of_getElem? (i := 7) rfl)
theorem qt_27_15 : (Cond.code yX0_allows cX0_allows 2 (some .boolean)) ∈ lw_tbl := qT_2 (List.mem_of_getElem? (i := 8) rfl)
theorem qt_27_16 : (Cond.methodLink RX0 22 yX0_allowsBut) ∈ lw_tbl := qT_2 (List.mem_of_getElem? (i := 9) rfl)
theorem qt_27_17 : (Cond.instanceMethod yX0_allowsBut) ∈ lw_tbl := qT_2 (List.mem_of_getElem? (i := 10) rfl)
theorem qt_27_18 : (Cond.selects RX0 yX0_allowsBut yX0_allowsBut) ∈ lw_tbl := qT_2 (List.mem_of_getElem? (i := 11) rfl)
theorem qt_27_19 : (Cond.code yX0_allowsBut cX0_allowsBut 5 (some .boolean)) ∈ lw_tbl := qT_2 (List.mem_of_getElem? (i := 12) rfl)
theorem qt_27_20 : (Cond.methodLink RX2 50 yX4_endFrom) ∈ lw_tbl := qT_2 (List.mem_of_getElem? (i := 16) rfl)
theorem qt_27_21 : (Cond.methodLink RX2 56 yX2_countRun) ∈ lw_tbl := qT_2 (List.mem_of_getElem? (i := 55) rfl)
theorem qt_27_22 : (Cond.instanceMethod yX2_countRun) ∈ lw_tbl := qT_2 (List.mem_of_getElem? (i := 57) rfl)
theorem qt_27_23 : (Cond.selects RX2 yX2_countRun yX2_countRun) ∈ lw_tbl := qP_0 (List.mem_of_getElem? (l := lw_privs_1) (i := 3) rfl)
theorem qr_27 : ∀ w ∈ wsL_law0_r27, w ∈ lw_tbl := by
  intro w hw
  simp only [wsL_law0_r27, List.mem_cons, List.not_mem_nil, or_false] at hw
  rcases hw with rfl | rfl | rfl | rfl | rfl | rfl | rfl | rfl | rfl | rfl | rfl | rfl | rfl | rfl | rfl | rfl | rfl | rfl | rfl | rfl | rfl | rfl | rfl | rfl
  · exact qt_27_0
  · exact qt_27_1
  · exact qt_27_2
  · exact qt_27_3
  · exact qt_27_4
  · exact qt_27_5
  · exact qt_27_6
  · exact qt_27_7
  · exact qt_27_8
  · exact qt_27_9
  · exact qt_27_10
  · exact qt_27_11
  · exact qt_27_12
  · exact qt_27_13
  · exact qt_27_14
  · exact qt_27_15
  · exact qt_27_16
  · exact qt_27_17
  · exact qt_27_18
  · exact qt_27_19
  · exact qt_27_20
  · exact qt_27_21
  · exact qt_27_22
  · exact qt_27_23
theorem qt_28_0 : (Cond.code yX2_countRun cX2_countRun 3 none) ∈ lw_tbl := qT_2 (List.mem_of_getElem? (i := 58) rfl)
theorem qt_28_1 : (Cond.methodLink RX2 60 yX2_followRun) ∈ lw_tbl := qT_2 (List.mem_of_getElem? (i := 59) rfl)
theorem qt_28_2 : (Cond.instanceMethod yX2_followRun) ∈ lw_tbl := qT_2 (List.mem_of_getElem? (i := 61) rfl)
theorem qt_28_3 : (Cond.selects RX2 yX2_followRun yX2_followRun) ∈ lw_tbl := qP_0 (List.mem_of_getElem? (l := lw_privs_1) (i := 4) rfl)
theorem qt_28_4 : (Cond.code yX2_followRun cX2_followRun 4 none) ∈ lw_tbl := qT_2 (List.mem_of_getElem? (i := 62) rfl)
theorem qt_28_5 : (Cond.methodLink RX2 83 yX2_isVisited) ∈ lw_tbl := qT_2 (List.mem_of_getElem? (i := 63) rfl)
theorem qt_28_6 : (Cond.instanceMethod yX2_isVisited) ∈ lw_tbl := qT_2 (List.mem_of_getElem? (i := 65) rfl)
theorem qt_28_7 : (Cond.selects RX2 yX2_isVisited yX2_isVisited) ∈ lw_tbl := qP_0 (List.mem_of_getElem? (l := lw_privs_1) (i := 5) rfl)
theorem qt_28_8 : (Cond.code yX2_isVisited cX2_isVisited 2 (some .boolean)) ∈ lw_tbl := qT_2 (List.mem_of_getElem? (i := 66) rfl)
theorem qt_28_9 : (Cond.methodLink RX2 86 yX2_noteValues) ∈ lw_tbl := qT_2 (List.mem_of_getElem? (i := 67) rfl)
theorem qt_28_10 : (Cond.instanceMethod yX2_noteValues) ∈ lw_tbl := qT_2 (List.mem_of_getElem? (i := 69) rfl)
theorem qt_28_11 : (Cond.selects RX2 yX2_noteValues yX2_noteValues) ∈ lw_tbl := qP_0 (List.mem_of_getElem? (l := lw_privs_1) (i := 6) rfl)
theorem qt_28_12 : (Cond.code yX2_noteValues cX2_noteValues 6 none) ∈ lw_tbl := qT_2 (List.mem_of_getElem? (i := 70) rfl)
theorem qt_28_13 : (Cond.methodLink RX2 89 yX3_placeAfter) ∈ lw_tbl := qT_2 (List.mem_of_getElem? (i := 74) rfl)
theorem qt_28_14 : (Cond.methodLink RX6 160 yX2_isReached) ∈ lw_tbl := qT_3 (List.mem_of_getElem? (i := 109) rfl)
theorem qt_28_15 : (Cond.instanceMethod yX2_isReached) ∈ lw_tbl := qT_3 (List.mem_of_getElem? (i := 110) rfl)
theorem qt_28_16 : (Cond.selects RX2 yX2_isReached yX2_isReached) ∈ lw_tbl := qT_3 (List.mem_of_getElem? (i := 111) rfl)
theorem qt_28_17 : (Cond.code yX2_isReached cX2_isReached 2 (some .boolean)) ∈ lw_tbl := qT_3 (List.mem_of_getElem? (i := 112) rfl)
theorem qt_28_18 : (Cond.methodLink RL 120 yX7_verdict) ∈ lw_tbl := qT_5 (List.mem_of_getElem? (i := 70) rfl)
theorem qt_28_19 : (Cond.instanceMethod yX7_verdict) ∈ lw_tbl := qT_5 (List.mem_of_getElem? (i := 71) rfl)
theorem qt_28_20 : (Cond.selects RX7 yX7_verdict yX7_verdict) ∈ lw_tbl := qT_5 (List.mem_of_getElem? (i := 72) rfl)
theorem qt_28_21 : (Cond.code yX7_verdict cX7_verdict 2 (some .int)) ∈ lw_tbl := qT_5 (List.mem_of_getElem? (i := 73) rfl)
theorem qt_28_22 : (Cond.methodLink RX7 152 yX7_looks) ∈ lw_tbl := qT_5 (List.mem_of_getElem? (i := 74) rfl)
theorem qt_28_23 : (Cond.instanceMethod yX7_looks) ∈ lw_tbl := qT_5 (List.mem_of_getElem? (i := 76) rfl)
theorem qr_28 : ∀ w ∈ wsL_law0_r28, w ∈ lw_tbl := by
  intro w hw
  simp only [wsL_law0_r28, List.mem_cons, List.not_mem_nil, or_false] at hw
  rcases hw with rfl | rfl | rfl | rfl | rfl | rfl | rfl | rfl | rfl | rfl | rfl | rfl | rfl | rfl | rfl | rfl | rfl | rfl | rfl | rfl | rfl | rfl | rfl | rfl
  · exact qt_28_0
  · exact qt_28_1
  · exact qt_28_2
  · exact qt_28_3
  · exact qt_28_4
  · exact qt_28_5
  · exact qt_28_6
  · exact qt_28_7
  · exact qt_28_8
  · exact qt_28_9
  · exact qt_28_10
  · exact qt_28_11
  · exact qt_28_12
  · exact qt_28_13
  · exact qt_28_14
  · exact qt_28_15
  · exact qt_28_16
  · exact qt_28_17
  · exact qt_28_18
  · exact qt_28_19
  · exact qt_28_20
  · exact qt_28_21
  · exact qt_28_22
  · exact qt_28_23
theorem qt_29_0 : (Cond.selects RX7 yX7_looks yX7_looks) ∈ lw_tbl := qP_2 (List.mem_of_getElem? (l := lw_privs_3) (i := 12) rfl)
theorem qt_29_1 : (Cond.code yX7_looks cX7_looks 3 none) ∈ lw_tbl := qT_5 (List.mem_of_getElem? (i := 77) rfl)
theorem qt_29_2 : (Cond.methodLink RX7 70 yX7_isAssumed) ∈ lw_tbl := qT_5 (List.mem_of_getElem? (i := 78) rfl)
theorem qt_29_3 : (Cond.instanceMethod yX7_isAssumed) ∈ lw_tbl := qT_5 (List.mem_of_getElem? (i := 80) rfl)
theorem qt_29_4 : (Cond.selects RX7 yX7_isAssumed yX7_isAssumed) ∈ lw_tbl := qP_2 (List.mem_of_getElem? (l := lw_privs_3) (i := 13) rfl)
theorem qt_29_5 : (Cond.code yX7_isAssumed cX7_isAssumed 4 (some .boolean)) ∈ lw_tbl := qT_5 (List.mem_of_getElem? (i := 81) rfl)
theorem qt_29_6 : (Cond.methodLink RX7 155 yX7_verdictOf) ∈ lw_tbl := qT_5 (List.mem_of_getElem? (i := 82) rfl)
theorem qt_29_7 : (Cond.instanceMethod yX7_verdictOf) ∈ lw_tbl := qT_5 (List.mem_of_getElem? (i := 84) rfl)
theorem qt_29_8 : (Cond.selects RX7 yX7_verdictOf yX7_verdictOf) ∈ lw_tbl := qP_2 (List.mem_of_getElem? (l := lw_privs_3) (i := 14) rfl)
theorem qt_29_9 : (Cond.code yX7_verdictOf cX7_verdictOf 2 (some .int)) ∈ lw_tbl := qT_5 (List.mem_of_getElem? (i := 85) rfl)
theorem qt_29_10 : (Cond.methodLink RX7 146 yX7_isReached) ∈ lw_tbl := qT_5 (List.mem_of_getElem? (i := 86) rfl)
theorem qt_29_11 : (Cond.instanceMethod yX7_isReached) ∈ lw_tbl := qT_5 (List.mem_of_getElem? (i := 88) rfl)
theorem qt_29_12 : (Cond.selects RX7 yX7_isReached yX7_isReached) ∈ lw_tbl := qP_2 (List.mem_of_getElem? (l := lw_privs_3) (i := 15) rfl)
theorem qt_29_13 : (Cond.code yX7_isReached cX7_isReached 4 (some .boolean)) ∈ lw_tbl := qT_5 (List.mem_of_getElem? (i := 89) rfl)
theorem qt_29_14 : (Cond.methodLink RX7 149 yX7_exampleOf) ∈ lw_tbl := qT_5 (List.mem_of_getElem? (i := 90) rfl)
theorem qt_29_15 : (Cond.instanceMethod yX7_exampleOf) ∈ lw_tbl := qT_5 (List.mem_of_getElem? (i := 92) rfl)
theorem qt_29_16 : (Cond.selects RX7 yX7_exampleOf yX7_exampleOf) ∈ lw_tbl := qP_3 (List.mem_of_getElem? (l := lw_privs_4) (i := 0) rfl)
theorem qt_29_17 : (Cond.code yX7_exampleOf cX7_exampleOf 4 (some .int)) ∈ lw_tbl := qT_5 (List.mem_of_getElem? (i := 93) rfl)
theorem qt_29_18 : (Cond.methodLink RL 121 yL_example) ∈ lw_tbl := qT_4 (List.mem_of_getElem? (i := 69) rfl)
theorem qt_29_19 : (Cond.static yL_example) ∈ lw_tbl := qT_4 (List.mem_of_getElem? (i := 70) rfl)
theorem qt_29_20 : (Cond.codeWith yL_example cL_example 4 (some .int) [(0, 9, 12, 27)]) ∈ lw_tbl := qT_4 (List.mem_of_getElem? (i := 71) rfl)
theorem qt_29_21 : (Cond.methodLink RL 52 yX6_example) ∈ lw_tbl := qT_4 (List.mem_of_getElem? (i := 72) rfl)
theorem qt_29_22 : (Cond.instanceMethod yX6_example) ∈ lw_tbl := qT_3 (List.mem_of_getElem? (i := 114) rfl)
theorem qt_29_23 : (Cond.selects RX6 yX6_example yX6_example) ∈ lw_tbl := qT_3 (List.mem_of_getElem? (i := 115) rfl)
theorem qr_29 : ∀ w ∈ wsL_law0_r29, w ∈ lw_tbl := by
  intro w hw
  simp only [wsL_law0_r29, List.mem_cons, List.not_mem_nil, or_false] at hw
  rcases hw with rfl | rfl | rfl | rfl | rfl | rfl | rfl | rfl | rfl | rfl | rfl | rfl | rfl | rfl | rfl | rfl | rfl | rfl | rfl | rfl | rfl | rfl | rfl | rfl
  · exact qt_29_0
  · exact qt_29_1
  · exact qt_29_2
  · exact qt_29_3
  · exact qt_29_4
  · exact qt_29_5
  · exact qt_29_6
  · exact qt_29_7
  · exact qt_29_8
  · exact qt_29_9
  · exact qt_29_10
  · exact qt_29_11
  · exact qt_29_12
  · exact qt_29_13
  · exact qt_29_14
  · exact qt_29_15
  · exact qt_29_16
  · exact qt_29_17
  · exact qt_29_18
  · exact qt_29_19
  · exact qt_29_20
  · exact qt_29_21
  · exact qt_29_22
  · exact qt_29_23
theorem qt_30_0 : (Cond.code yX6_example cX6_example 2 (some .int)) ∈ lw_tbl := qT_3 (List.mem_of_getElem? (i := 116) rfl)
theorem qt_30_1 : (Cond.methodLink RL 123 yX7_example) ∈ lw_tbl := qT_5 (List.mem_of_getElem? (i := 94) rfl)
theorem qt_30_2 : (Cond.instanceMethod yX7_example) ∈ lw_tbl := qT_5 (List.mem_of_getElem? (i := 95) rfl)
theorem qt_30_3 : (Cond.selects RX7 yX7_example yX7_example) ∈ lw_tbl := qT_5 (List.mem_of_getElem? (i := 96) rfl)
theorem qt_30_4 : (Cond.code yX7_example cX7_example 2 (some .int)) ∈ lw_tbl := qT_5 (List.mem_of_getElem? (i := 97) rfl)
theorem qt_30_5 : (Cond.methodLink RL 124 yX6_endless) ∈ lw_tbl := qT_1 (List.mem_of_getElem? (i := 227) rfl)
theorem qt_30_6 : (Cond.instanceMethod yX6_endless) ∈ lw_tbl := qT_1 (List.mem_of_getElem? (i := 228) rfl)
theorem qt_30_7 : (Cond.selects RX6 yX6_endless yX6_endless) ∈ lw_tbl := qT_1 (List.mem_of_getElem? (i := 229) rfl)
theorem qt_30_8 : (Cond.code yX6_endless cX6_endless 1 (some .int)) ∈ lw_tbl := qT_1 (List.mem_of_getElem? (i := 230) rfl)
theorem qt_30_9 : (Cond.methodLink RL 127 yX7_endless) ∈ lw_tbl := qT_5 (List.mem_of_getElem? (i := 98) rfl)
theorem qt_30_10 : (Cond.instanceMethod yX7_endless) ∈ lw_tbl := qT_5 (List.mem_of_getElem? (i := 99) rfl)
theorem qt_30_11 : (Cond.selects RX7 yX7_endless yX7_endless) ∈ lw_tbl := qT_5 (List.mem_of_getElem? (i := 100) rfl)
theorem qt_30_12 : (Cond.code yX7_endless cX7_endless 1 (some .int)) ∈ lw_tbl := qT_5 (List.mem_of_getElem? (i := 101) rfl)
theorem qt_30_13 : (Cond.methodLink RX7 158 yX7_runsThat) ∈ lw_tbl := qT_5 (List.mem_of_getElem? (i := 102) rfl)
theorem qt_30_14 : (Cond.instanceMethod yX7_runsThat) ∈ lw_tbl := qT_5 (List.mem_of_getElem? (i := 104) rfl)
theorem qt_30_15 : (Cond.selects RX7 yX7_runsThat yX7_runsThat) ∈ lw_tbl := qP_3 (List.mem_of_getElem? (l := lw_privs_4) (i := 1) rfl)
theorem qt_30_16 : (Cond.code yX7_runsThat cX7_runsThat 5 (some .int)) ∈ lw_tbl := qT_5 (List.mem_of_getElem? (i := 105) rfl)
theorem qt_30_17 : (Cond.methodLink RL 128 yX6_proof) ∈ lw_tbl := qT_2 (List.mem_of_getElem? (i := 75) rfl)
theorem qt_30_18 : (Cond.instanceMethod yX6_proof) ∈ lw_tbl := qT_2 (List.mem_of_getElem? (i := 76) rfl)
theorem qt_30_19 : (Cond.selects RX6 yX6_proof yX6_proof) ∈ lw_tbl := qT_2 (List.mem_of_getElem? (i := 77) rfl)
theorem qt_30_20 : (Cond.code yX6_proof cX6_proof 1 (some .int)) ∈ lw_tbl := qT_2 (List.mem_of_getElem? (i := 78) rfl)
theorem qt_30_21 : (Cond.methodLink RL 131 yX7_proof) ∈ lw_tbl := qT_5 (List.mem_of_getElem? (i := 106) rfl)
theorem qt_30_22 : (Cond.instanceMethod yX7_proof) ∈ lw_tbl := qT_5 (List.mem_of_getElem? (i := 107) rfl)
theorem qt_30_23 : (Cond.selects RX7 yX7_proof yX7_proof) ∈ lw_tbl := qT_5 (List.mem_of_getElem? (i := 108) rfl)
theorem qr_30 : ∀ w ∈ wsL_law0_r30, w ∈ lw_tbl := by
  intro w hw
  simp only [wsL_law0_r30, List.mem_cons, List.not_mem_nil, or_false] at hw
  rcases hw with rfl | rfl | rfl | rfl | rfl | rfl | rfl | rfl | rfl | rfl | rfl | rfl | rfl | rfl | rfl | rfl | rfl | rfl | rfl | rfl | rfl | rfl | rfl | rfl
  · exact qt_30_0
  · exact qt_30_1
  · exact qt_30_2
  · exact qt_30_3
  · exact qt_30_4
  · exact qt_30_5
  · exact qt_30_6
  · exact qt_30_7
  · exact qt_30_8
  · exact qt_30_9
  · exact qt_30_10
  · exact qt_30_11
  · exact qt_30_12
  · exact qt_30_13
  · exact qt_30_14
  · exact qt_30_15
  · exact qt_30_16
  · exact qt_30_17
  · exact qt_30_18
  · exact qt_30_19
  · exact qt_30_20
  · exact qt_30_21
  · exact qt_30_22
  · exact qt_30_23
theorem qt_31_0 : (Cond.code yX7_proof cX7_proof 1 (some .int)) ∈ lw_tbl := qT_5 (List.mem_of_getElem? (i := 109) rfl)
theorem qt_31_1 : (Cond.methodLink RX7 161 yX7_judged) ∈ lw_tbl := qT_5 (List.mem_of_getElem? (i := 110) rfl)
theorem qt_31_2 : (Cond.instanceMethod yX7_judged) ∈ lw_tbl := qT_5 (List.mem_of_getElem? (i := 112) rfl)
theorem qt_31_3 : (Cond.selects RX7 yX7_judged yX7_judged) ∈ lw_tbl := qP_3 (List.mem_of_getElem? (l := lw_privs_4) (i := 2) rfl)
theorem qt_31_4 : (Cond.code yX7_judged cX7_judged 1 (some .int)) ∈ lw_tbl := qT_5 (List.mem_of_getElem? (i := 113) rfl)
theorem qt_31_5 : (Cond.methodLink RL 132 yX6_provedShare) ∈ lw_tbl := qT_2 (List.mem_of_getElem? (i := 79) rfl)
theorem qt_31_6 : (Cond.instanceMethod yX6_provedShare) ∈ lw_tbl := qT_2 (List.mem_of_getElem? (i := 80) rfl)
theorem qt_31_7 : (Cond.selects RX6 yX6_provedShare yX6_provedShare) ∈ lw_tbl := qT_2 (List.mem_of_getElem? (i := 81) rfl)
theorem qt_31_8 : (Cond.code yX6_provedShare cX6_provedShare 1 (some .double)) ∈ lw_tbl := qT_2 (List.mem_of_getElem? (i := 82) rfl)
theorem qt_31_9 : (Cond.methodLink RL 136 yX7_provedShare) ∈ lw_tbl := qT_5 (List.mem_of_getElem? (i := 114) rfl)
theorem qt_31_10 : (Cond.instanceMethod yX7_provedShare) ∈ lw_tbl := qT_5 (List.mem_of_getElem? (i := 115) rfl)
theorem qt_31_11 : (Cond.selects RX7 yX7_provedShare yX7_provedShare) ∈ lw_tbl := qT_5 (List.mem_of_getElem? (i := 116) rfl)
theorem qt_31_12 : (Cond.code yX7_provedShare cX7_provedShare 1 (some .double)) ∈ lw_tbl := qT_5 (List.mem_of_getElem? (i := 117) rfl)
theorem qt_31_13 : (Cond.methodLink RL 137 yL_least) ∈ lw_tbl := qT_4 (List.mem_of_getElem? (i := 73) rfl)
theorem qt_31_14 : (Cond.static yL_least) ∈ lw_tbl := qT_4 (List.mem_of_getElem? (i := 74) rfl)
theorem qt_31_15 : (Cond.codeWith yL_least cL_least 5 (some .int) [(0, 10, 13, 27)]) ∈ lw_tbl := qT_4 (List.mem_of_getElem? (i := 75) rfl)
theorem qt_31_16 : (Cond.methodLink RL 55 yX6_least) ∈ lw_tbl := qT_4 (List.mem_of_getElem? (i := 76) rfl)
theorem qt_31_17 : (Cond.instanceMethod yX6_least) ∈ lw_tbl := qT_3 (List.mem_of_getElem? (i := 118) rfl)
theorem qt_31_18 : (Cond.selects RX6 yX6_least yX6_least) ∈ lw_tbl := qT_3 (List.mem_of_getElem? (i := 119) rfl)
theorem qt_31_19 : (Cond.code yX6_least cX6_least 3 (some .int)) ∈ lw_tbl := qT_3 (List.mem_of_getElem? (i := 120) rfl)
theorem qt_31_20 : (Cond.methodLink RL 140 yX7_least) ∈ lw_tbl := qT_5 (List.mem_of_getElem? (i := 118) rfl)
theorem qt_31_21 : (Cond.instanceMethod yX7_least) ∈ lw_tbl := qT_5 (List.mem_of_getElem? (i := 119) rfl)
theorem qt_31_22 : (Cond.selects RX7 yX7_least yX7_least) ∈ lw_tbl := qT_5 (List.mem_of_getElem? (i := 120) rfl)
theorem qt_31_23 : (Cond.code yX7_least cX7_least 3 (some .int)) ∈ lw_tbl := qT_5 (List.mem_of_getElem? (i := 121) rfl)
theorem qr_31 : ∀ w ∈ wsL_law0_r31, w ∈ lw_tbl := by
  intro w hw
  simp only [wsL_law0_r31, List.mem_cons, List.not_mem_nil, or_false] at hw
  rcases hw with rfl | rfl | rfl | rfl | rfl | rfl | rfl | rfl | rfl | rfl | rfl | rfl | rfl | rfl | rfl | rfl | rfl | rfl | rfl | rfl | rfl | rfl | rfl | rfl
  · exact qt_31_0
  · exact qt_31_1
  · exact qt_31_2
  · exact qt_31_3
  · exact qt_31_4
  · exact qt_31_5
  · exact qt_31_6
  · exact qt_31_7
  · exact qt_31_8
  · exact qt_31_9
  · exact qt_31_10
  · exact qt_31_11
  · exact qt_31_12
  · exact qt_31_13
  · exact qt_31_14
  · exact qt_31_15
  · exact qt_31_16
  · exact qt_31_17
  · exact qt_31_18
  · exact qt_31_19
  · exact qt_31_20
  · exact qt_31_21
  · exact qt_31_22
  · exact qt_31_23
theorem qt_32_0 : (Cond.methodLink RX7 164 yX7_bound) ∈ lw_tbl := qT_5 (List.mem_of_getElem? (i := 122) rfl)
theorem qt_32_1 : (Cond.instanceMethod yX7_bound) ∈ lw_tbl := qT_5 (List.mem_of_getElem? (i := 124) rfl)
theorem qt_32_2 : (Cond.selects RX7 yX7_bound yX7_bound) ∈ lw_tbl := qP_3 (List.mem_of_getElem? (l := lw_privs_4) (i := 3) rfl)
theorem qt_32_3 : (Cond.code yX7_bound cX7_bound 8 (some .int)) ∈ lw_tbl := qT_5 (List.mem_of_getElem? (i := 125) rfl)
theorem qt_32_4 : (Cond.methodLink RL 141 yL_greatest) ∈ lw_tbl := qT_4 (List.mem_of_getElem? (i := 77) rfl)
theorem qt_32_5 : (Cond.static yL_greatest) ∈ lw_tbl := qT_4 (List.mem_of_getElem? (i := 78) rfl)
theorem qt_32_6 : (Cond.codeWith yL_greatest cL_greatest 5 (some .int) [(0, 10, 13, 27)]) ∈ lw_tbl := qT_4 (List.mem_of_getElem? (i := 79) rfl)
theorem qt_32_7 : (Cond.methodLink RL 59 yX6_greatest) ∈ lw_tbl := qT_4 (List.mem_of_getElem? (i := 80) rfl)
theorem qt_32_8 : (Cond.instanceMethod yX6_greatest) ∈ lw_tbl := qT_3 (List.mem_of_getElem? (i := 122) rfl)
theorem qt_32_9 : (Cond.selects RX6 yX6_greatest yX6_greatest) ∈ lw_tbl := qT_3 (List.mem_of_getElem? (i := 123) rfl)
theorem qt_32_10 : (Cond.code yX6_greatest cX6_greatest 3 (some .int)) ∈ lw_tbl := qT_3 (List.mem_of_getElem? (i := 124) rfl)
theorem qt_32_11 : (Cond.methodLink RL 143 yX7_greatest) ∈ lw_tbl := qT_5 (List.mem_of_getElem? (i := 126) rfl)
theorem qt_32_12 : (Cond.instanceMethod yX7_greatest) ∈ lw_tbl := qT_5 (List.mem_of_getElem? (i := 127) rfl)
theorem qt_32_13 : (Cond.selects RX7 yX7_greatest yX7_greatest) ∈ lw_tbl := qT_5 (List.mem_of_getElem? (i := 128) rfl)
theorem qt_32_14 : (Cond.code yX7_greatest cX7_greatest 3 (some .int)) ∈ lw_tbl := qT_5 (List.mem_of_getElem? (i := 129) rfl)
theorem qt_32_15 : (Cond.methodLink RL 144 yL_widest) ∈ lw_tbl := qT_4 (List.mem_of_getElem? (i := 81) rfl)
theorem qt_32_16 : (Cond.static yL_widest) ∈ lw_tbl := qT_4 (List.mem_of_getElem? (i := 82) rfl)
theorem qt_32_17 : (Cond.codeWith yL_widest cL_widest 4 (some .int) [(0, 9, 12, 27)]) ∈ lw_tbl := qT_4 (List.mem_of_getElem? (i := 83) rfl)
theorem qt_32_18 : (Cond.methodLink RL 62 yX6_widest) ∈ lw_tbl := qT_4 (List.mem_of_getElem? (i := 84) rfl)
theorem qt_32_19 : (Cond.instanceMethod yX6_widest) ∈ lw_tbl := qT_3 (List.mem_of_getElem? (i := 126) rfl)
theorem qt_32_20 : (Cond.selects RX6 yX6_widest yX6_widest) ∈ lw_tbl := qT_3 (List.mem_of_getElem? (i := 127) rfl)
theorem qt_32_21 : (Cond.code yX6_widest cX6_widest 2 (some .int)) ∈ lw_tbl := qT_3 (List.mem_of_getElem? (i := 128) rfl)
theorem qt_32_22 : (Cond.methodLink RX6 178 yX6_unprovedValues) ∈ lw_tbl := qT_3 (List.mem_of_getElem? (i := 129) rfl)
theorem qt_32_23 : (Cond.instanceMethod yX6_unprovedValues) ∈ lw_tbl := qT_3 (List.mem_of_getElem? (i := 131) rfl)
theorem qr_32 : ∀ w ∈ wsL_law0_r32, w ∈ lw_tbl := by
  intro w hw
  simp only [wsL_law0_r32, List.mem_cons, List.not_mem_nil, or_false] at hw
  rcases hw with rfl | rfl | rfl | rfl | rfl | rfl | rfl | rfl | rfl | rfl | rfl | rfl | rfl | rfl | rfl | rfl | rfl | rfl | rfl | rfl | rfl | rfl | rfl | rfl
  · exact qt_32_0
  · exact qt_32_1
  · exact qt_32_2
  · exact qt_32_3
  · exact qt_32_4
  · exact qt_32_5
  · exact qt_32_6
  · exact qt_32_7
  · exact qt_32_8
  · exact qt_32_9
  · exact qt_32_10
  · exact qt_32_11
  · exact qt_32_12
  · exact qt_32_13
  · exact qt_32_14
  · exact qt_32_15
  · exact qt_32_16
  · exact qt_32_17
  · exact qt_32_18
  · exact qt_32_19
  · exact qt_32_20
  · exact qt_32_21
  · exact qt_32_22
  · exact qt_32_23
theorem qt_33_0 : (Cond.selects RX6 yX6_unprovedValues yX6_unprovedValues) ∈ lw_tbl := qP_1 (List.mem_of_getElem? (l := lw_privs_2) (i := 3) rfl)
theorem qt_33_1 : (Cond.code yX6_unprovedValues cX6_unprovedValues 4 (some .int)) ∈ lw_tbl := qT_3 (List.mem_of_getElem? (i := 132) rfl)
theorem qt_33_2 : (Cond.methodLink RX6 243 yX0_allowsBut) ∈ lw_tbl := qT_3 (List.mem_of_getElem? (i := 133) rfl)
theorem qt_33_3 : (Cond.methodLink RX6 247 yX6_valueOf) ∈ lw_tbl := qT_3 (List.mem_of_getElem? (i := 135) rfl)
theorem qt_33_4 : (Cond.methodLink RX6 181 yX6_widestRange) ∈ lw_tbl := qT_3 (List.mem_of_getElem? (i := 136) rfl)
theorem qt_33_5 : (Cond.static yX6_widestRange) ∈ lw_tbl := qT_3 (List.mem_of_getElem? (i := 137) rfl)
theorem qt_33_6 : (Cond.code yX6_widestRange cX6_widestRange 5 (some .int)) ∈ lw_tbl := qT_3 (List.mem_of_getElem? (i := 138) rfl)
theorem qt_33_7 : (Cond.methodLink RL 146 yX7_widest) ∈ lw_tbl := qT_5 (List.mem_of_getElem? (i := 130) rfl)
theorem qt_33_8 : (Cond.instanceMethod yX7_widest) ∈ lw_tbl := qT_5 (List.mem_of_getElem? (i := 131) rfl)
theorem qt_33_9 : (Cond.selects RX7 yX7_widest yX7_widest) ∈ lw_tbl := qT_5 (List.mem_of_getElem? (i := 132) rfl)
theorem qt_33_10 : (Cond.code yX7_widest cX7_widest 2 (some .int)) ∈ lw_tbl := qT_5 (List.mem_of_getElem? (i := 133) rfl)
theorem qt_33_11 : (Cond.methodLink RX7 168 yX7_widestOf) ∈ lw_tbl := qT_5 (List.mem_of_getElem? (i := 134) rfl)
theorem qt_33_12 : (Cond.instanceMethod yX7_widestOf) ∈ lw_tbl := qT_5 (List.mem_of_getElem? (i := 136) rfl)
theorem qt_33_13 : (Cond.selects RX7 yX7_widestOf yX7_widestOf) ∈ lw_tbl := qP_3 (List.mem_of_getElem? (l := lw_privs_4) (i := 4) rfl)
theorem qt_33_14 : (Cond.code yX7_widestOf cX7_widestOf 8 (some .int)) ∈ lw_tbl := qT_5 (List.mem_of_getElem? (i := 137) rfl)
theorem qt_33_15 : (Cond.methodLink RL 147 yL_append) ∈ lw_tbl := qT_4 (List.mem_of_getElem? (i := 85) rfl)
theorem qt_33_16 : (Cond.static yL_append) ∈ lw_tbl := qT_4 (List.mem_of_getElem? (i := 86) rfl)
theorem qt_33_17 : (Cond.codeWith yL_append cL_append 4 (some .int) [(0, 9, 12, 13), (0, 9, 15, 21)]) ∈ lw_tbl := qT_4 (List.mem_of_getElem? (i := 87) rfl)
theorem qt_33_18 : (Cond.methodLink RL 65 yX6_append) ∈ lw_tbl := qT_4 (List.mem_of_getElem? (i := 88) rfl)
theorem qt_33_19 : (Cond.instanceMethod yX6_append) ∈ lw_tbl := qT_4 (List.mem_of_getElem? (i := 89) rfl)
theorem qt_33_20 : (Cond.selects RX6 yX6_append yX6_append) ∈ lw_tbl := qT_4 (List.mem_of_getElem? (i := 90) rfl)
theorem qt_33_21 : (Cond.code yX6_append cX6_append 2 (some .int)) ∈ lw_tbl := qT_4 (List.mem_of_getElem? (i := 91) rfl)
theorem qt_33_22 : (Cond.methodLink RX6 191 yX5_put) ∈ lw_tbl := qT_4 (List.mem_of_getElem? (i := 94) rfl)
theorem qt_33_23 : (Cond.instanceMethod yX5_put) ∈ lw_tbl := qT_4 (List.mem_of_getElem? (i := 95) rfl)
theorem qr_33 : ∀ w ∈ wsL_law0_r33, w ∈ lw_tbl := by
  intro w hw
  simp only [wsL_law0_r33, List.mem_cons, List.not_mem_nil, or_false] at hw
  rcases hw with rfl | rfl | rfl | rfl | rfl | rfl | rfl | rfl | rfl | rfl | rfl | rfl | rfl | rfl | rfl | rfl | rfl | rfl | rfl | rfl | rfl | rfl | rfl | rfl
  · exact qt_33_0
  · exact qt_33_1
  · exact qt_33_2
  · exact qt_33_3
  · exact qt_33_4
  · exact qt_33_5
  · exact qt_33_6
  · exact qt_33_7
  · exact qt_33_8
  · exact qt_33_9
  · exact qt_33_10
  · exact qt_33_11
  · exact qt_33_12
  · exact qt_33_13
  · exact qt_33_14
  · exact qt_33_15
  · exact qt_33_16
  · exact qt_33_17
  · exact qt_33_18
  · exact qt_33_19
  · exact qt_33_20
  · exact qt_33_21
  · exact qt_33_22
  · exact qt_33_23
theorem qt_34_0 : (Cond.selects RX5 yX5_put yX5_put) ∈ lw_tbl := qT_4 (List.mem_of_getElem? (i := 96) rfl)
theorem qt_34_1 : (Cond.code yX5_put cX5_put 2 none) ∈ lw_tbl := qT_4 (List.mem_of_getElem? (i := 97) rfl)
theorem qt_34_2 : (Cond.methodLink RL 149 yX7_append) ∈ lw_tbl := qT_5 (List.mem_of_getElem? (i := 138) rfl)
theorem qt_34_3 : (Cond.instanceMethod yX7_append) ∈ lw_tbl := qT_5 (List.mem_of_getElem? (i := 139) rfl)
theorem qt_34_4 : (Cond.selects RX7 yX7_append yX7_append) ∈ lw_tbl := qT_5 (List.mem_of_getElem? (i := 140) rfl)
theorem qt_34_5 : (Cond.code yX7_append cX7_append 2 (some .int)) ∈ lw_tbl := qT_5 (List.mem_of_getElem? (i := 141) rfl)
theorem qt_34_6 : (Cond.methodLink RL 150 yX6_clearBuffer) ∈ lw_tbl := qT_2 (List.mem_of_getElem? (i := 87) rfl)
theorem qt_34_7 : (Cond.instanceMethod yX6_clearBuffer) ∈ lw_tbl := qT_2 (List.mem_of_getElem? (i := 88) rfl)
theorem qt_34_8 : (Cond.selects RX6 yX6_clearBuffer yX6_clearBuffer) ∈ lw_tbl := qT_2 (List.mem_of_getElem? (i := 89) rfl)
theorem qt_34_9 : (Cond.code yX6_clearBuffer cX6_clearBuffer 2 (some .int)) ∈ lw_tbl := qT_2 (List.mem_of_getElem? (i := 90) rfl)
theorem qt_34_10 : (Cond.methodLink RL 153 yX7_clearBuffer) ∈ lw_tbl := qT_5 (List.mem_of_getElem? (i := 142) rfl)
theorem qt_34_11 : (Cond.instanceMethod yX7_clearBuffer) ∈ lw_tbl := qT_5 (List.mem_of_getElem? (i := 143) rfl)
theorem qt_34_12 : (Cond.selects RX7 yX7_clearBuffer yX7_clearBuffer) ∈ lw_tbl := qT_5 (List.mem_of_getElem? (i := 144) rfl)
theorem qt_34_13 : (Cond.code yX7_clearBuffer cX7_clearBuffer 2 (some .int)) ∈ lw_tbl := qT_5 (List.mem_of_getElem? (i := 145) rfl)
theorem qt_34_14 : (Cond.methodLink RL 154 yX6_firstError) ∈ lw_tbl := qT_2 (List.mem_of_getElem? (i := 95) rfl)
theorem qt_34_15 : (Cond.instanceMethod yX6_firstError) ∈ lw_tbl := qT_2 (List.mem_of_getElem? (i := 96) rfl)
theorem qt_34_16 : (Cond.selects RX6 yX6_firstError yX6_firstError) ∈ lw_tbl := qT_2 (List.mem_of_getElem? (i := 97) rfl)
theorem qt_34_17 : (Cond.code yX6_firstError cX6_firstError 1 (some .int)) ∈ lw_tbl := qT_2 (List.mem_of_getElem? (i := 98) rfl)
theorem qt_34_18 : (Cond.methodLink RL 157 yX7_firstError) ∈ lw_tbl := qT_5 (List.mem_of_getElem? (i := 146) rfl)
theorem qt_34_19 : (Cond.instanceMethod yX7_firstError) ∈ lw_tbl := qT_5 (List.mem_of_getElem? (i := 147) rfl)
theorem qt_34_20 : (Cond.selects RX7 yX7_firstError yX7_firstError) ∈ lw_tbl := qT_5 (List.mem_of_getElem? (i := 148) rfl)
theorem qt_34_21 : (Cond.code yX7_firstError cX7_firstError 1 (some .int)) ∈ lw_tbl := qT_5 (List.mem_of_getElem? (i := 149) rfl)
theorem qt_34_22 : (Cond.methodLink RL 158 yL_undo) ∈ lw_tbl := qT_4 (List.mem_of_getElem? (i := 98) rfl)
theorem qt_34_23 : (Cond.static yL_undo) ∈ lw_tbl := qT_4 (List.mem_of_getElem? (i := 99) rfl)
theorem qr_34 : ∀ w ∈ wsL_law0_r34, w ∈ lw_tbl := by
  intro w hw
  simp only [wsL_law0_r34, List.mem_cons, List.not_mem_nil, or_false] at hw
  rcases hw with rfl | rfl | rfl | rfl | rfl | rfl | rfl | rfl | rfl | rfl | rfl | rfl | rfl | rfl | rfl | rfl | rfl | rfl | rfl | rfl | rfl | rfl | rfl | rfl
  · exact qt_34_0
  · exact qt_34_1
  · exact qt_34_2
  · exact qt_34_3
  · exact qt_34_4
  · exact qt_34_5
  · exact qt_34_6
  · exact qt_34_7
  · exact qt_34_8
  · exact qt_34_9
  · exact qt_34_10
  · exact qt_34_11
  · exact qt_34_12
  · exact qt_34_13
  · exact qt_34_14
  · exact qt_34_15
  · exact qt_34_16
  · exact qt_34_17
  · exact qt_34_18
  · exact qt_34_19
  · exact qt_34_20
  · exact qt_34_21
  · exact qt_34_22
  · exact qt_34_23
theorem qt_35_0 : (Cond.codeWith yL_undo cL_undo 3 (some .int) [(0, 8, 11, 21)]) ∈ lw_tbl := qT_4 (List.mem_of_getElem? (i := 100) rfl)
theorem qt_35_1 : (Cond.methodLink RL 68 yX6_undo) ∈ lw_tbl := qT_4 (List.mem_of_getElem? (i := 101) rfl)
theorem qt_35_2 : (Cond.instanceMethod yX6_undo) ∈ lw_tbl := qT_4 (List.mem_of_getElem? (i := 102) rfl)
theorem qt_35_3 : (Cond.selects RX6 yX6_undo yX6_undo) ∈ lw_tbl := qT_4 (List.mem_of_getElem? (i := 103) rfl)
theorem qt_35_4 : (Cond.code yX6_undo cX6_undo 1 (some .int)) ∈ lw_tbl := qT_4 (List.mem_of_getElem? (i := 104) rfl)
theorem qt_35_5 : (Cond.methodLink RX6 202 yX1_restore) ∈ lw_tbl := qT_4 (List.mem_of_getElem? (i := 106) rfl)
theorem qt_35_6 : (Cond.instanceMethod yX1_restore) ∈ lw_tbl := qT_4 (List.mem_of_getElem? (i := 107) rfl)
theorem qt_35_7 : (Cond.selects RX1 yX1_restore yX1_restore) ∈ lw_tbl := qT_4 (List.mem_of_getElem? (i := 108) rfl)
theorem qt_35_8 : (Cond.code yX1_restore cX1_restore 4 none) ∈ lw_tbl := qT_4 (List.mem_of_getElem? (i := 109) rfl)
theorem qt_35_9 : (Cond.methodLink RL 160 yX7_undo) ∈ lw_tbl := qT_5 (List.mem_of_getElem? (i := 150) rfl)
theorem qt_35_10 : (Cond.instanceMethod yX7_undo) ∈ lw_tbl := qT_5 (List.mem_of_getElem? (i := 151) rfl)
theorem qt_35_11 : (Cond.selects RX7 yX7_undo yX7_undo) ∈ lw_tbl := qT_5 (List.mem_of_getElem? (i := 152) rfl)
theorem qt_35_12 : (Cond.code yX7_undo cX7_undo 2 (some .int)) ∈ lw_tbl := qT_5 (List.mem_of_getElem? (i := 153) rfl)
theorem qt_35_13 : (Cond.methodLink RL 161 yX6_savedStates) ∈ lw_tbl := qT_3 (List.mem_of_getElem? (i := 4) rfl)
theorem qt_35_14 : (Cond.instanceMethod yX6_savedStates) ∈ lw_tbl := qT_3 (List.mem_of_getElem? (i := 5) rfl)
theorem qt_35_15 : (Cond.selects RX6 yX6_savedStates yX6_savedStates) ∈ lw_tbl := qT_3 (List.mem_of_getElem? (i := 6) rfl)
theorem qt_35_16 : (Cond.code yX6_savedStates cX6_savedStates 1 (some .int)) ∈ lw_tbl := qT_3 (List.mem_of_getElem? (i := 7) rfl)
theorem qt_35_17 : (Cond.methodLink RL 164 yX7_savedStates) ∈ lw_tbl := qT_5 (List.mem_of_getElem? (i := 154) rfl)
theorem qt_35_18 : (Cond.instanceMethod yX7_savedStates) ∈ lw_tbl := qT_5 (List.mem_of_getElem? (i := 155) rfl)
theorem qt_35_19 : (Cond.selects RX7 yX7_savedStates yX7_savedStates) ∈ lw_tbl := qT_5 (List.mem_of_getElem? (i := 156) rfl)
theorem qt_35_20 : (Cond.code yX7_savedStates cX7_savedStates 1 (some .int)) ∈ lw_tbl := qT_5 (List.mem_of_getElem? (i := 157) rfl)
theorem qt_35_21 : (Cond.methodLink RL 165 yX6_digest) ∈ lw_tbl := qT_3 (List.mem_of_getElem? (i := 8) rfl)
theorem qt_35_22 : (Cond.instanceMethod yX6_digest) ∈ lw_tbl := qT_3 (List.mem_of_getElem? (i := 9) rfl)
theorem qt_35_23 : (Cond.selects RX6 yX6_digest yX6_digest) ∈ lw_tbl := qT_3 (List.mem_of_getElem? (i := 10) rfl)
theorem qr_35 : ∀ w ∈ wsL_law0_r35, w ∈ lw_tbl := by
  intro w hw
  simp only [wsL_law0_r35, List.mem_cons, List.not_mem_nil, or_false] at hw
  rcases hw with rfl | rfl | rfl | rfl | rfl | rfl | rfl | rfl | rfl | rfl | rfl | rfl | rfl | rfl | rfl | rfl | rfl | rfl | rfl | rfl | rfl | rfl | rfl | rfl
  · exact qt_35_0
  · exact qt_35_1
  · exact qt_35_2
  · exact qt_35_3
  · exact qt_35_4
  · exact qt_35_5
  · exact qt_35_6
  · exact qt_35_7
  · exact qt_35_8
  · exact qt_35_9
  · exact qt_35_10
  · exact qt_35_11
  · exact qt_35_12
  · exact qt_35_13
  · exact qt_35_14
  · exact qt_35_15
  · exact qt_35_16
  · exact qt_35_17
  · exact qt_35_18
  · exact qt_35_19
  · exact qt_35_20
  · exact qt_35_21
  · exact qt_35_22
  · exact qt_35_23
theorem qt_36_0 : (Cond.code yX6_digest cX6_digest 5 (some .long)) ∈ lw_tbl := qT_3 (List.mem_of_getElem? (i := 11) rfl)
theorem qt_36_1 : (Cond.constantLong RX6 206 (4234)) ∈ lw_tbl := qT_3 (List.mem_of_getElem? (i := 12) rfl)
theorem qt_36_2 : (Cond.constantLong RX6 208 (31)) ∈ lw_tbl := qT_3 (List.mem_of_getElem? (i := 13) rfl)
theorem qt_36_3 : (Cond.methodLink RX6 210 yX6_statements) ∈ lw_tbl := qT_3 (List.mem_of_getElem? (i := 14) rfl)
theorem qt_36_4 : (Cond.methodLink RX6 213 yX6_endless) ∈ lw_tbl := qT_3 (List.mem_of_getElem? (i := 15) rfl)
theorem qt_36_5 : (Cond.methodLink RX6 216 yX6_proof) ∈ lw_tbl := qT_3 (List.mem_of_getElem? (i := 16) rfl)
theorem qt_36_6 : (Cond.methodLink RX6 219 yX6_kind) ∈ lw_tbl := qT_3 (List.mem_of_getElem? (i := 17) rfl)
theorem qt_36_7 : (Cond.methodLink RX6 222 yX6_target) ∈ lw_tbl := qT_3 (List.mem_of_getElem? (i := 91) rfl)
theorem qt_36_8 : (Cond.methodLink RX6 225 yX6_demand) ∈ lw_tbl := qT_3 (List.mem_of_getElem? (i := 95) rfl)
theorem qt_36_9 : (Cond.methodLink RX6 228 yX6_verdict) ∈ lw_tbl := qT_3 (List.mem_of_getElem? (i := 105) rfl)
theorem qt_36_10 : (Cond.methodLink RX6 231 yX6_example) ∈ lw_tbl := qT_3 (List.mem_of_getElem? (i := 113) rfl)
theorem qt_36_11 : (Cond.methodLink RX6 234 yX6_least) ∈ lw_tbl := qT_3 (List.mem_of_getElem? (i := 117) rfl)
theorem qt_36_12 : (Cond.methodLink RX6 237 yX6_greatest) ∈ lw_tbl := qT_3 (List.mem_of_getElem? (i := 121) rfl)
theorem qt_36_13 : (Cond.methodLink RX6 240 yX6_widest) ∈ lw_tbl := qT_3 (List.mem_of_getElem? (i := 125) rfl)
theorem qt_36_14 : (Cond.methodLink RL 169 yX7_digest) ∈ lw_tbl := qT_5 (List.mem_of_getElem? (i := 158) rfl)
theorem qt_36_15 : (Cond.instanceMethod yX7_digest) ∈ lw_tbl := qT_5 (List.mem_of_getElem? (i := 159) rfl)
theorem qt_36_16 : (Cond.selects RX7 yX7_digest yX7_digest) ∈ lw_tbl := qT_5 (List.mem_of_getElem? (i := 160) rfl)
theorem qt_36_17 : (Cond.code yX7_digest cX7_digest 2 (some .long)) ∈ lw_tbl := qT_5 (List.mem_of_getElem? (i := 161) rfl)
theorem qt_36_18 : (Cond.constantLong RX7 181 (4234)) ∈ lw_tbl := qT_5 (List.mem_of_getElem? (i := 162) rfl)
theorem qt_36_19 : (Cond.fieldLink RX7 173 "ClaimJudgeModel" "digested" "J") ∈ lw_tbl := qT_4 (List.mem_of_getElem? (i := 129) rfl)
theorem qt_36_20 : (Cond.methodLink RX7 177 yX7_digestOne) ∈ lw_tbl := qT_5 (List.mem_of_getElem? (i := 163) rfl)
theorem qt_36_21 : (Cond.instanceMethod yX7_digestOne) ∈ lw_tbl := qT_5 (List.mem_of_getElem? (i := 165) rfl)
theorem qt_36_22 : (Cond.selects RX7 yX7_digestOne yX7_digestOne) ∈ lw_tbl := qP_3 (List.mem_of_getElem? (l := lw_privs_4) (i := 5) rfl)
theorem qt_36_23 : (Cond.code yX7_digestOne cX7_digestOne 3 none) ∈ lw_tbl := qT_5 (List.mem_of_getElem? (i := 166) rfl)
theorem qr_36 : ∀ w ∈ wsL_law0_r36, w ∈ lw_tbl := by
  intro w hw
  simp only [wsL_law0_r36, List.mem_cons, List.not_mem_nil, or_false] at hw
  rcases hw with rfl | rfl | rfl | rfl | rfl | rfl | rfl | rfl | rfl | rfl | rfl | rfl | rfl | rfl | rfl | rfl | rfl | rfl | rfl | rfl | rfl | rfl | rfl | rfl
  · exact qt_36_0
  · exact qt_36_1
  · exact qt_36_2
  · exact qt_36_3
  · exact qt_36_4
  · exact qt_36_5
  · exact qt_36_6
  · exact qt_36_7
  · exact qt_36_8
  · exact qt_36_9
  · exact qt_36_10
  · exact qt_36_11
  · exact qt_36_12
  · exact qt_36_13
  · exact qt_36_14
  · exact qt_36_15
  · exact qt_36_16
  · exact qt_36_17
  · exact qt_36_18
  · exact qt_36_19
  · exact qt_36_20
  · exact qt_36_21
  · exact qt_36_22
  · exact qt_36_23
theorem qt_37_0 : (Cond.constantLong RX7 171 (31)) ∈ lw_tbl := qT_5 (List.mem_of_getElem? (i := 167) rfl)
theorem qt_37_1 : (Cond.methodLink RX7 183 yX7_digestBounds) ∈ lw_tbl := qT_5 (List.mem_of_getElem? (i := 168) rfl)
theorem qt_37_2 : (Cond.instanceMethod yX7_digestBounds) ∈ lw_tbl := qT_5 (List.mem_of_getElem? (i := 170) rfl)
theorem qt_37_3 : (Cond.selects RX7 yX7_digestBounds yX7_digestBounds) ∈ lw_tbl := qP_3 (List.mem_of_getElem? (l := lw_privs_4) (i := 6) rfl)
theorem qt_37_4 : (Cond.code yX7_digestBounds cX7_digestBounds 3 none) ∈ lw_tbl := qT_5 (List.mem_of_getElem? (i := 171) rfl)
theorem qr_37 : ∀ w ∈ wsL_law0_r37, w ∈ lw_tbl := by
  intro w hw
  simp only [wsL_law0_r37, List.mem_cons, List.not_mem_nil, or_false] at hw
  rcases hw with rfl | rfl | rfl | rfl | rfl
  · exact qt_37_0
  · exact qt_37_1
  · exact qt_37_2
  · exact qt_37_3
  · exact qt_37_4
theorem qx_wsX60 : ∀ w ∈ wsX60, w ∈ lw_tbl := by
  intro w hw
  obtain ⟨k, hk, rfl⟩ := List.mem_map.mp hw
  have hk := List.mem_range.mp hk
  match k, hk with
  | 0, _ => exact qT_1 (List.mem_of_getElem? (i := 210) rfl)
  | 1, _ => exact qT_1 (List.mem_of_getElem? (i := 212) rfl)
  | 2, _ => exact qT_1 (List.mem_of_getElem? (i := 214) rfl)
  | 3, _ => exact qT_1 (List.mem_of_getElem? (i := 216) rfl)
  | 4, _ => exact qT_1 (List.mem_of_getElem? (i := 218) rfl)
  | 5, _ => exact qT_1 (List.mem_of_getElem? (i := 220) rfl)
  | k + 6, hk => exact absurd hk (by omega)
theorem qx_wsX70 : ∀ w ∈ wsX70, w ∈ lw_tbl := by
  intro w hw
  obtain ⟨k, hk, rfl⟩ := List.mem_map.mp hw
  have hk := List.mem_range.mp hk
  match k, hk with
  | 0, _ => exact qT_4 (List.mem_of_getElem? (i := 130) rfl)
  | 1, _ => exact qT_4 (List.mem_of_getElem? (i := 132) rfl)
  | 2, _ => exact qT_4 (List.mem_of_getElem? (i := 134) rfl)
  | 3, _ => exact qT_4 (List.mem_of_getElem? (i := 136) rfl)
  | 4, _ => exact qT_4 (List.mem_of_getElem? (i := 138) rfl)
  | 5, _ => exact qT_4 (List.mem_of_getElem? (i := 140) rfl)
  | 6, _ => exact qT_4 (List.mem_of_getElem? (i := 142) rfl)
  | 7, _ => exact qT_4 (List.mem_of_getElem? (i := 144) rfl)
  | 8, _ => exact qT_4 (List.mem_of_getElem? (i := 146) rfl)
  | 9, _ => exact qT_4 (List.mem_of_getElem? (i := 148) rfl)
  | 10, _ => exact qT_4 (List.mem_of_getElem? (i := 150) rfl)
  | 11, _ => exact qT_4 (List.mem_of_getElem? (i := 152) rfl)
  | 12, _ => exact qT_4 (List.mem_of_getElem? (i := 154) rfl)
  | 13, _ => exact qT_4 (List.mem_of_getElem? (i := 156) rfl)
  | k + 14, hk => exact absurd hk (by omega)
theorem qx_wsX30 : ∀ w ∈ wsX30, w ∈ lw_tbl := by
  intro w hw
  obtain ⟨k, hk, rfl⟩ := List.mem_map.mp hw
  have hk := List.mem_range.mp hk
  match k, hk with
  | 0, _ => exact qT_1 (List.mem_of_getElem? (i := 46) rfl)
  | 1, _ => exact qT_1 (List.mem_of_getElem? (i := 48) rfl)
  | 2, _ => exact qT_1 (List.mem_of_getElem? (i := 50) rfl)
  | 3, _ => exact qT_1 (List.mem_of_getElem? (i := 52) rfl)
  | 4, _ => exact qT_1 (List.mem_of_getElem? (i := 54) rfl)
  | 5, _ => exact qT_1 (List.mem_of_getElem? (i := 56) rfl)
  | 6, _ => exact qT_1 (List.mem_of_getElem? (i := 58) rfl)
  | k + 7, hk => exact absurd hk (by omega)
theorem qx_wsX00 : ∀ w ∈ wsX00, w ∈ lw_tbl := by
  intro w hw
  obtain ⟨k, hk, rfl⟩ := List.mem_map.mp hw
  have hk := List.mem_range.mp hk
  match k, hk with
  | 0, _ => exact qT_1 (List.mem_of_getElem? (i := 70) rfl)
  | 1, _ => exact qT_1 (List.mem_of_getElem? (i := 72) rfl)
  | k + 2, hk => exact absurd hk (by omega)
theorem qx_wsX40 : ∀ w ∈ wsX40, w ∈ lw_tbl := by
  intro w hw
  obtain ⟨k, hk, rfl⟩ := List.mem_map.mp hw
  have hk := List.mem_range.mp hk
  match k, hk with
  | 0, _ => exact qT_1 (List.mem_of_getElem? (i := 84) rfl)
  | 1, _ => exact qT_1 (List.mem_of_getElem? (i := 86) rfl)
  | 2, _ => exact qT_1 (List.mem_of_getElem? (i := 88) rfl)
  | k + 3, hk => exact absurd hk (by omega)
theorem qx_wsX20 : ∀ w ∈ wsX20, w ∈ lw_tbl := by
  intro w hw
  obtain ⟨k, hk, rfl⟩ := List.mem_map.mp hw
  have hk := List.mem_range.mp hk
  match k, hk with
  | 0, _ => exact qT_1 (List.mem_of_getElem? (i := 114) rfl)
  | 1, _ => exact qT_1 (List.mem_of_getElem? (i := 116) rfl)
  | 2, _ => exact qT_1 (List.mem_of_getElem? (i := 118) rfl)
  | 3, _ => exact qT_1 (List.mem_of_getElem? (i := 120) rfl)
  | 4, _ => exact qT_1 (List.mem_of_getElem? (i := 122) rfl)
  | 5, _ => exact qT_1 (List.mem_of_getElem? (i := 124) rfl)
  | 6, _ => exact qT_1 (List.mem_of_getElem? (i := 126) rfl)
  | 7, _ => exact qT_1 (List.mem_of_getElem? (i := 128) rfl)
  | 8, _ => exact qT_1 (List.mem_of_getElem? (i := 130) rfl)
  | 9, _ => exact qT_1 (List.mem_of_getElem? (i := 132) rfl)
  | 10, _ => exact qT_1 (List.mem_of_getElem? (i := 134) rfl)
  | k + 11, hk => exact absurd hk (by omega)
theorem qx_wsX10 : ∀ w ∈ wsX10, w ∈ lw_tbl := by
  intro w hw
  obtain ⟨k, hk, rfl⟩ := List.mem_map.mp hw
  have hk := List.mem_range.mp hk
  match k, hk with
  | 0, _ => exact qT_1 (List.mem_of_getElem? (i := 155) rfl)
  | 1, _ => exact qT_1 (List.mem_of_getElem? (i := 157) rfl)
  | 2, _ => exact qT_1 (List.mem_of_getElem? (i := 159) rfl)
  | 3, _ => exact qT_1 (List.mem_of_getElem? (i := 161) rfl)
  | k + 4, hk => exact absurd hk (by omega)
theorem qx_wsX50 : ∀ w ∈ wsX50, w ∈ lw_tbl := by
  intro w hw
  obtain ⟨k, hk, rfl⟩ := List.mem_map.mp hw
  have hk := List.mem_range.mp hk
  match k, hk with
  | 0, _ => exact qT_1 (List.mem_of_getElem? (i := 184) rfl)
  | 1, _ => exact qT_1 (List.mem_of_getElem? (i := 186) rfl)
  | 2, _ => exact qT_1 (List.mem_of_getElem? (i := 188) rfl)
  | 3, _ => exact qT_1 (List.mem_of_getElem? (i := 190) rfl)
  | 4, _ => exact qT_1 (List.mem_of_getElem? (i := 192) rfl)
  | 5, _ => exact qT_1 (List.mem_of_getElem? (i := 194) rfl)
  | 6, _ => exact qT_1 (List.mem_of_getElem? (i := 196) rfl)
  | 7, _ => exact qT_1 (List.mem_of_getElem? (i := 198) rfl)
  | 8, _ => exact qT_1 (List.mem_of_getElem? (i := 200) rfl)
  | k + 9, hk => exact absurd hk (by omega)
theorem wsL_law_in0 : ∀ w ∈ wsL_law0, w ∈ lw_tbl := fun w => (fun h => (List.mem_append.mp h).elim (fun h => (List.mem_append.mp h).elim (fun h => (List.mem_append.mp h).elim (fun h => (List.mem_append.mp h).elim (fun h => (List.mem_append.mp h).elim (fun h => (List.mem_append.mp h).elim (fun h => (List.mem_append.mp h).elim (fun h => (List.mem_append.mp h).elim (fun h => (List.mem_append.mp h).elim (fun h => (List.mem_append.mp h).elim (fun h => qr_1 w h) (fun h => (List.mem_append.mp h).elim (fun h => qr_2 w h) (fun h => (List.mem_append.mp h).elim (fun h => qr_3 w h) (fun h => (List.mem_append.mp h).elim (fun h => qr_4 w h) (fun h => (List.mem_append.mp h).elim (fun h => qr_5 w h) (fun h => (List.mem_append.mp h).elim (fun h => qr_6 w h) (fun h => (List.mem_append.mp h).elim (fun h => qr_7 w h) (fun h => (List.mem_append.mp h).elim (fun h => qr_8 w h) (fun h => (List.mem_append.mp h).elim (fun h => qr_9 w h) (fun h => (List.mem_append.mp h).elim (fun h => qr_10 w h) (fun h => (List.mem_append.mp h).elim (fun h => qr_11 w h) (fun h => (List.mem_append.mp h).elim (fun h => qr_12 w h) (fun h => (List.mem_append.mp h).elim (fun h => qr_13 w h) (fun h => (List.mem_append.mp h).elim (fun h => qr_14 w h) (fun h => (List.mem_append.mp h).elim (fun h => qr_15 w h) (fun h => (List.mem_append.mp h).elim (fun h => qr_16 w h) (fun h => (List.mem_append.mp h).elim (fun h => qr_17 w h) (fun h => (List.mem_append.mp h).elim (fun h => qr_18 w h) (fun h => (List.mem_append.mp h).elim (fun h => qr_19 w h) (fun h => (List.mem_append.mp h).elim (fun h => qr_20 w h) (fun h => (List.mem_append.mp h).elim (fun h => qr_21 w h) (fun h => (List.mem_append.mp h).elim (fun h => qr_22 w h) (fun h => (List.mem_append.mp h).elim (fun h => qr_23 w h) (fun h => (List.mem_append.mp h).elim (fun h => qr_24 w h) (fun h => (List.mem_append.mp h).elim (fun h => qr_25 w h) (fun h => (List.mem_append.mp h).elim (fun h => qr_26 w h) (fun h => (List.mem_append.mp h).elim (fun h => qr_27 w h) (fun h => (List.mem_append.mp h).elim (fun h => qr_28 w h) (fun h => (List.mem_append.mp h).elim (fun h => qr_29 w h) (fun h => (List.mem_append.mp h).elim (fun h => qr_30 w h) (fun h => (List.mem_append.mp h).elim (fun h => qr_31 w h) (fun h => (List.mem_append.mp h).elim (fun h => qr_32 w h) (fun h => (List.mem_append.mp h).elim (fun h => qr_33 w h) (fun h => (List.mem_append.mp h).elim (fun h => qr_34 w h) (fun h => (List.mem_append.mp h).elim (fun h => qr_35 w h) (fun h => (List.mem_append.mp h).elim (fun h => qr_36 w h) (fun h => qr_37 w h))))))))))))))))))))))))))))))))))))) (fun h => qx_wsX60 w h)) (fun h => qx_wsX70 w h)) (fun h => qx_wsX30 w h)) (fun h => qx_wsX00 w h)) (fun h => qx_wsX40 w h)) (fun h => qx_wsX20 w h)) (fun h => qx_wsX10 w h)) (fun h => qx_wsX50 w h)) (fun h => absurd h List.not_mem_nil))
theorem wsL_law_x0 : ∀ w ∈ (vx_atS RX6 74 "java/lang/IllegalArgumentException" ["java/lang/RuntimeException", "java/lang/Exception"]).filter goodWord, w ∈ lw_tbl := by decide +kernel
theorem wsL_law_x1 : ∀ w ∈ (vx_atS RX6 102 "java/lang/IllegalStateException" ["java/lang/RuntimeException", "java/lang/Exception"]).filter goodWord, w ∈ lw_tbl := by decide +kernel
theorem wsL_law_x2 : ∀ w ∈ (vx_atS RX6 258 "java/lang/IndexOutOfBoundsException" ["java/lang/RuntimeException", "java/lang/Exception"]).filter goodWord, w ∈ lw_tbl := by decide +kernel
theorem wsL_law_in : ∀ w ∈ wsL_law, w ∈ lw_tbl := fun w h => (List.mem_append.mp h).elim (fun h => (List.mem_append.mp h).elim (fun h => (List.mem_append.mp h).elim (fun h => wsL_law_in0 w h) (fun h => wsL_law_x0 w h)) (fun h => wsL_law_x1 w h)) (fun h => wsL_law_x2 w h)
theorem inlX0 : ∀ w ∈ wsX00, w ∈ wsL_law := fun _ h => List.mem_append_left _ (List.mem_append_left _ (List.mem_append_left _ (List.mem_append_left _ (List.mem_append_left _ (List.mem_append_left _ (List.mem_append_left _ (List.mem_append_left _ (List.mem_append_right _ h))))))))
theorem inlX1 : ∀ w ∈ wsX10, w ∈ wsL_law := fun _ h => List.mem_append_left _ (List.mem_append_left _ (List.mem_append_left _ (List.mem_append_left _ (List.mem_append_left _ (List.mem_append_right _ h)))))
theorem inlX2 : ∀ w ∈ wsX20, w ∈ wsL_law := fun _ h => List.mem_append_left _ (List.mem_append_left _ (List.mem_append_left _ (List.mem_append_left _ (List.mem_append_left _ (List.mem_append_left _ (List.mem_append_right _ h))))))
theorem inlX3 : ∀ w ∈ wsX30, w ∈ wsL_law := fun _ h => List.mem_append_left _ (List.mem_append_left _ (List.mem_append_left _ (List.mem_append_left _ (List.mem_append_left _ (List.mem_append_left _ (List.mem_append_left _ (List.mem_append_left _ (List.mem_append_left _ (List.mem_append_right _ h)))))))))
theorem inlX4 : ∀ w ∈ wsX40, w ∈ wsL_law := fun _ h => List.mem_append_left _ (List.mem_append_left _ (List.mem_append_left _ (List.mem_append_left _ (List.mem_append_left _ (List.mem_append_left _ (List.mem_append_left _ (List.mem_append_right _ h)))))))
theorem inlX5 : ∀ w ∈ wsX50, w ∈ wsL_law := fun _ h => List.mem_append_left _ (List.mem_append_left _ (List.mem_append_left _ (List.mem_append_left _ (List.mem_append_right _ h))))
theorem inlX6 : ∀ w ∈ wsX60, w ∈ wsL_law := fun _ h => List.mem_append_left _ (List.mem_append_left _ (List.mem_append_left _ (List.mem_append_left _ (List.mem_append_left _ (List.mem_append_left _ (List.mem_append_left _ (List.mem_append_left _ (List.mem_append_left _ (List.mem_append_left _ (List.mem_append_left _ (List.mem_append_right _ h)))))))))))
theorem inlX7 : ∀ w ∈ wsX70, w ∈ wsL_law := fun _ h => List.mem_append_left _ (List.mem_append_left _ (List.mem_append_left _ (List.mem_append_left _ (List.mem_append_left _ (List.mem_append_left _ (List.mem_append_left _ (List.mem_append_left _ (List.mem_append_left _ (List.mem_append_left _ (List.mem_append_right _ h))))))))))
theorem qL_app {w : Cond} (h : w ∈ wsL_law0) : w ∈ wsL_law := List.mem_append_left _ (List.mem_append_left _ (List.mem_append_left _ h))
theorem qL_1 {w : Cond} (h : w ∈ wsL_law0_r1) : w ∈ wsL_law := qL_app (List.mem_append_left _ (List.mem_append_left _ (List.mem_append_left _ (List.mem_append_left _ (List.mem_append_left _ (List.mem_append_left _ (List.mem_append_left _ (List.mem_append_left _ (List.mem_append_left _ (List.mem_append_left _ h))))))))))
theorem q_1_0 : (Cond.classLink RL 8 RX6) ∈ wsL_law := qL_1 (List.mem_of_getElem? (i := 0) rfl)
theorem q_1_1 : (Cond.instantiable RX6 6) ∈ wsL_law := qL_1 (List.mem_of_getElem? (i := 1) rfl)
theorem q_1_2 : (Cond.initialized RX6) ∈ wsL_law := qL_1 (List.mem_of_getElem? (i := 2) rfl)
theorem q_1_3 : (Cond.classLink RL 72 RX7) ∈ wsL_law := qL_1 (List.mem_of_getElem? (i := 3) rfl)
theorem q_1_4 : (Cond.instantiable RX7 14) ∈ wsL_law := qL_1 (List.mem_of_getElem? (i := 4) rfl)
theorem q_1_5 : (Cond.initialized RX7) ∈ wsL_law := qL_1 (List.mem_of_getElem? (i := 5) rfl)
theorem q_1_6 : (Cond.arrayClass .long) ∈ wsL_law := qL_1 (List.mem_of_getElem? (i := 6) rfl)
theorem q_1_7 : (Cond.methodLink RL 71 yX6_init) ∈ wsL_law := qL_1 (List.mem_of_getElem? (i := 7) rfl)
theorem q_1_8 : (Cond.instanceMethod yX6_init) ∈ wsL_law := qL_1 (List.mem_of_getElem? (i := 8) rfl)
theorem q_1_9 : (Cond.code yX6_init cX6_init 1 none) ∈ wsL_law := qL_1 (List.mem_of_getElem? (i := 9) rfl)
theorem q_1_10 : (Cond.methodLink RX6 3 objectInit) ∈ wsL_law := qL_1 (List.mem_of_getElem? (i := 10) rfl)
theorem q_1_11 : (Cond.instanceMethod objectInit) ∈ wsL_law := qL_1 (List.mem_of_getElem? (i := 11) rfl)
theorem q_1_12 : (Cond.code objectInit ⟨#[0xb1]⟩ 1 none) ∈ wsL_law := qL_1 (List.mem_of_getElem? (i := 12) rfl)
theorem q_1_13 : (Cond.classLink RX6 9 RX3) ∈ wsL_law := qL_1 (List.mem_of_getElem? (i := 13) rfl)
theorem q_1_14 : (Cond.instantiable RX3 7) ∈ wsL_law := qL_1 (List.mem_of_getElem? (i := 14) rfl)
theorem q_1_15 : (Cond.initialized RX3) ∈ wsL_law := qL_1 (List.mem_of_getElem? (i := 15) rfl)
theorem q_1_16 : (Cond.fieldLink RX6 12 "ClaimJudge" "program" "LClaimJudge$Program;") ∈ wsL_law := qL_1 (List.mem_of_getElem? (i := 16) rfl)
theorem q_1_17 : (Cond.classLink RX6 16 RX0) ∈ wsL_law := qL_1 (List.mem_of_getElem? (i := 17) rfl)
theorem q_1_18 : (Cond.instantiable RX0 2) ∈ wsL_law := qL_1 (List.mem_of_getElem? (i := 18) rfl)
theorem q_1_19 : (Cond.initialized RX0) ∈ wsL_law := qL_1 (List.mem_of_getElem? (i := 19) rfl)
theorem q_1_20 : (Cond.fieldLink RX6 19 "ClaimJudge" "assumption" "LClaimJudge$Assumption;") ∈ wsL_law := qL_1 (List.mem_of_getElem? (i := 20) rfl)
theorem q_1_21 : (Cond.classLink RX6 23 RX4) ∈ wsL_law := qL_1 (List.mem_of_getElem? (i := 21) rfl)
theorem q_1_22 : (Cond.instantiable RX4 3) ∈ wsL_law := qL_1 (List.mem_of_getElem? (i := 22) rfl)
theorem q_1_23 : (Cond.initialized RX4) ∈ wsL_law := qL_1 (List.mem_of_getElem? (i := 23) rfl)
theorem qL_2 {w : Cond} (h : w ∈ wsL_law0_r2) : w ∈ wsL_law := qL_app (List.mem_append_left _ (List.mem_append_left _ (List.mem_append_left _ (List.mem_append_left _ (List.mem_append_left _ (List.mem_append_left _ (List.mem_append_left _ (List.mem_append_left _ (List.mem_append_left _ (List.mem_append_right _ (List.mem_append_left _ h)))))))))))
theorem q_2_0 : (Cond.fieldLink RX6 28 "ClaimJudge" "runs" "LClaimJudge$Runs;") ∈ wsL_law := qL_2 (List.mem_of_getElem? (i := 0) rfl)
theorem q_2_1 : (Cond.classLink RX6 32 RX2) ∈ wsL_law := qL_2 (List.mem_of_getElem? (i := 1) rfl)
theorem q_2_2 : (Cond.instantiable RX2 11) ∈ wsL_law := qL_2 (List.mem_of_getElem? (i := 2) rfl)
theorem q_2_3 : (Cond.initialized RX2) ∈ wsL_law := qL_2 (List.mem_of_getElem? (i := 3) rfl)
theorem q_2_4 : (Cond.fieldLink RX6 37 "ClaimJudge" "judgement" "LClaimJudge$Judgement;") ∈ wsL_law := qL_2 (List.mem_of_getElem? (i := 4) rfl)
theorem q_2_5 : (Cond.classLink RX6 41 RX1) ∈ wsL_law := qL_2 (List.mem_of_getElem? (i := 5) rfl)
theorem q_2_6 : (Cond.instantiable RX1 4) ∈ wsL_law := qL_2 (List.mem_of_getElem? (i := 6) rfl)
theorem q_2_7 : (Cond.initialized RX1) ∈ wsL_law := qL_2 (List.mem_of_getElem? (i := 7) rfl)
theorem q_2_8 : (Cond.fieldLink RX6 44 "ClaimJudge" "history" "LClaimJudge$History;") ∈ wsL_law := qL_2 (List.mem_of_getElem? (i := 8) rfl)
theorem q_2_9 : (Cond.classLink RX6 48 RX5) ∈ wsL_law := qL_2 (List.mem_of_getElem? (i := 9) rfl)
theorem q_2_10 : (Cond.instantiable RX5 9) ∈ wsL_law := qL_2 (List.mem_of_getElem? (i := 10) rfl)
theorem q_2_11 : (Cond.initialized RX5) ∈ wsL_law := qL_2 (List.mem_of_getElem? (i := 11) rfl)
theorem q_2_12 : (Cond.fieldLink RX6 51 "ClaimJudge" "text" "LClaimJudge$Text;") ∈ wsL_law := qL_2 (List.mem_of_getElem? (i := 12) rfl)
theorem q_2_13 : (Cond.instanceMethod yX3_init) ∈ wsL_law := qL_2 (List.mem_of_getElem? (i := 13) rfl)
theorem q_2_14 : (Cond.code yX3_init cX3_init 1 none) ∈ wsL_law := qL_2 (List.mem_of_getElem? (i := 14) rfl)
theorem q_2_15 : (Cond.methodLink RX3 3 objectInit) ∈ wsL_law := qL_2 (List.mem_of_getElem? (i := 15) rfl)
theorem q_2_16 : (Cond.arrayClass .int) ∈ wsL_law := qL_2 (List.mem_of_getElem? (i := 16) rfl)
theorem q_2_17 : (Cond.fieldLink RX3 9 "ClaimJudge$Program" "kinds" "[I") ∈ wsL_law := qL_2 (List.mem_of_getElem? (i := 17) rfl)
theorem q_2_18 : (Cond.fieldLink RX3 15 "ClaimJudge$Program" "variables" "[I") ∈ wsL_law := qL_2 (List.mem_of_getElem? (i := 18) rfl)
theorem q_2_19 : (Cond.fieldLink RX3 18 "ClaimJudge$Program" "signs" "[I") ∈ wsL_law := qL_2 (List.mem_of_getElem? (i := 19) rfl)
theorem q_2_20 : (Cond.fieldLink RX3 21 "ClaimJudge$Program" "operands" "[I") ∈ wsL_law := qL_2 (List.mem_of_getElem? (i := 20) rfl)
theorem q_2_21 : (Cond.fieldLink RX3 24 "ClaimJudge$Program" "addends" "[I") ∈ wsL_law := qL_2 (List.mem_of_getElem? (i := 21) rfl)
theorem q_2_22 : (Cond.fieldLink RX3 27 "ClaimJudge$Program" "targets" "[I") ∈ wsL_law := qL_2 (List.mem_of_getElem? (i := 22) rfl)
theorem q_2_23 : (Cond.instanceMethod yX0_init) ∈ wsL_law := qL_2 (List.mem_of_getElem? (i := 23) rfl)
theorem qL_3 {w : Cond} (h : w ∈ wsL_law0_r3) : w ∈ wsL_law := qL_app (List.mem_append_left _ (List.mem_append_left _ (List.mem_append_left _ (List.mem_append_left _ (List.mem_append_left _ (List.mem_append_left _ (List.mem_append_left _ (List.mem_append_left _ (List.mem_append_left _ (List.mem_append_right _ (List.mem_append_right _ (List.mem_append_left _ h))))))))))))
theorem q_3_0 : (Cond.code yX0_init cX0_init 1 none) ∈ wsL_law := qL_3 (List.mem_of_getElem? (i := 0) rfl)
theorem q_3_1 : (Cond.methodLink RX0 3 objectInit) ∈ wsL_law := qL_3 (List.mem_of_getElem? (i := 1) rfl)
theorem q_3_2 : (Cond.fieldLink RX0 9 "ClaimJudge$Assumption" "lowest" "[I") ∈ wsL_law := qL_3 (List.mem_of_getElem? (i := 2) rfl)
theorem q_3_3 : (Cond.fieldLink RX0 15 "ClaimJudge$Assumption" "highest" "[I") ∈ wsL_law := qL_3 (List.mem_of_getElem? (i := 3) rfl)
theorem q_3_4 : (Cond.methodLink RX6 25 yX4_init) ∈ wsL_law := qL_3 (List.mem_of_getElem? (i := 4) rfl)
theorem q_3_5 : (Cond.instanceMethod yX4_init) ∈ wsL_law := qL_3 (List.mem_of_getElem? (i := 5) rfl)
theorem q_3_6 : (Cond.code yX4_init cX4_init 2 none) ∈ wsL_law := qL_3 (List.mem_of_getElem? (i := 6) rfl)
theorem q_3_7 : (Cond.methodLink RX4 3 objectInit) ∈ wsL_law := qL_3 (List.mem_of_getElem? (i := 7) rfl)
theorem q_3_8 : (Cond.fieldLink RX4 9 "ClaimJudge$Runs" "ends" "[I") ∈ wsL_law := qL_3 (List.mem_of_getElem? (i := 8) rfl)
theorem q_3_9 : (Cond.fieldLink RX4 15 "ClaimJudge$Runs" "stale" "Z") ∈ wsL_law := qL_3 (List.mem_of_getElem? (i := 9) rfl)
theorem q_3_10 : (Cond.fieldLink RX4 19 "ClaimJudge$Runs" "program" "LClaimJudge$Program;") ∈ wsL_law := qL_3 (List.mem_of_getElem? (i := 10) rfl)
theorem q_3_11 : (Cond.methodLink RX6 34 yX2_init) ∈ wsL_law := qL_3 (List.mem_of_getElem? (i := 11) rfl)
theorem q_3_12 : (Cond.instanceMethod yX2_init) ∈ wsL_law := qL_3 (List.mem_of_getElem? (i := 12) rfl)
theorem q_3_13 : (Cond.code yX2_init cX2_init 4 none) ∈ wsL_law := qL_3 (List.mem_of_getElem? (i := 13) rfl)
theorem q_3_14 : (Cond.methodLink RX2 3 objectInit) ∈ wsL_law := qL_3 (List.mem_of_getElem? (i := 14) rfl)
theorem q_3_15 : (Cond.fieldLink RX2 9 "ClaimJudge$Judgement" "examples" "[I") ∈ wsL_law := qL_3 (List.mem_of_getElem? (i := 15) rfl)
theorem q_3_16 : (Cond.fieldLink RX2 15 "ClaimJudge$Judgement" "lows" "[I") ∈ wsL_law := qL_3 (List.mem_of_getElem? (i := 16) rfl)
theorem q_3_17 : (Cond.fieldLink RX2 18 "ClaimJudge$Judgement" "highs" "[I") ∈ wsL_law := qL_3 (List.mem_of_getElem? (i := 17) rfl)
theorem q_3_18 : (Cond.fieldLink RX2 21 "ClaimJudge$Judgement" "visited" "[J") ∈ wsL_law := qL_3 (List.mem_of_getElem? (i := 18) rfl)
theorem q_3_19 : (Cond.fieldLink RX2 25 "ClaimJudge$Judgement" "stale" "Z") ∈ wsL_law := qL_3 (List.mem_of_getElem? (i := 19) rfl)
theorem q_3_20 : (Cond.fieldLink RX2 29 "ClaimJudge$Judgement" "program" "LClaimJudge$Program;") ∈ wsL_law := qL_3 (List.mem_of_getElem? (i := 20) rfl)
theorem q_3_21 : (Cond.fieldLink RX2 33 "ClaimJudge$Judgement" "assumption" "LClaimJudge$Assumption;") ∈ wsL_law := qL_3 (List.mem_of_getElem? (i := 21) rfl)
theorem q_3_22 : (Cond.fieldLink RX2 37 "ClaimJudge$Judgement" "runs" "LClaimJudge$Runs;") ∈ wsL_law := qL_3 (List.mem_of_getElem? (i := 22) rfl)
theorem q_3_23 : (Cond.methodLink RX6 43 yX1_init) ∈ wsL_law := qL_3 (List.mem_of_getElem? (i := 23) rfl)
theorem qL_4 {w : Cond} (h : w ∈ wsL_law0_r4) : w ∈ wsL_law := qL_app (List.mem_append_left _ (List.mem_append_left _ (List.mem_append_left _ (List.mem_append_left _ (List.mem_append_left _ (List.mem_append_left _ (List.mem_append_left _ (List.mem_append_left _ (List.mem_append_left _ (List.mem_append_right _ (List.mem_append_right _ (List.mem_append_right _ (List.mem_append_left _ h)))))))))))))
theorem q_4_0 : (Cond.instanceMethod yX1_init) ∈ wsL_law := qL_4 (List.mem_of_getElem? (i := 0) rfl)
theorem q_4_1 : (Cond.code yX1_init cX1_init 2 none) ∈ wsL_law := qL_4 (List.mem_of_getElem? (i := 1) rfl)
theorem q_4_2 : (Cond.methodLink RX1 3 objectInit) ∈ wsL_law := qL_4 (List.mem_of_getElem? (i := 2) rfl)
theorem q_4_3 : (Cond.classLink RX1 9 RX3) ∈ wsL_law := qL_4 (List.mem_of_getElem? (i := 3) rfl)
theorem q_4_4 : (Cond.fieldLink RX1 11 "ClaimJudge$History" "programs" "[LClaimJudge$Program;") ∈ wsL_law := qL_4 (List.mem_of_getElem? (i := 4) rfl)
theorem q_4_5 : (Cond.classLink RX1 17 RX0) ∈ wsL_law := qL_4 (List.mem_of_getElem? (i := 5) rfl)
theorem q_4_6 : (Cond.fieldLink RX1 19 "ClaimJudge$History" "assumptions" "[LClaimJudge$Assumption;") ∈ wsL_law := qL_4 (List.mem_of_getElem? (i := 6) rfl)
theorem q_4_7 : (Cond.instanceMethod yX5_init) ∈ wsL_law := qL_4 (List.mem_of_getElem? (i := 7) rfl)
theorem q_4_8 : (Cond.code yX5_init cX5_init 1 none) ∈ wsL_law := qL_4 (List.mem_of_getElem? (i := 8) rfl)
theorem q_4_9 : (Cond.methodLink RX5 3 objectInit) ∈ wsL_law := qL_4 (List.mem_of_getElem? (i := 9) rfl)
theorem q_4_10 : (Cond.arrayClass .char) ∈ wsL_law := qL_4 (List.mem_of_getElem? (i := 10) rfl)
theorem q_4_11 : (Cond.fieldLink RX5 9 "ClaimJudge$Text" "characters" "[C") ∈ wsL_law := qL_4 (List.mem_of_getElem? (i := 11) rfl)
theorem q_4_12 : (Cond.classLink RX5 15 RX3) ∈ wsL_law := qL_4 (List.mem_of_getElem? (i := 12) rfl)
theorem q_4_13 : (Cond.fieldLink RX5 18 "ClaimJudge$Text" "loaded" "LClaimJudge$Program;") ∈ wsL_law := qL_4 (List.mem_of_getElem? (i := 13) rfl)
theorem q_4_14 : (Cond.methodLink RL 74 yX7_init) ∈ wsL_law := qL_4 (List.mem_of_getElem? (i := 14) rfl)
theorem q_4_15 : (Cond.instanceMethod yX7_init) ∈ wsL_law := qL_4 (List.mem_of_getElem? (i := 15) rfl)
theorem q_4_16 : (Cond.code yX7_init cX7_init 2 none) ∈ wsL_law := qL_4 (List.mem_of_getElem? (i := 16) rfl)
theorem q_4_17 : (Cond.methodLink RX7 1 objectInit) ∈ wsL_law := qL_4 (List.mem_of_getElem? (i := 17) rfl)
theorem q_4_18 : (Cond.fieldLink RX7 7 "ClaimJudgeModel" "s" "[I") ∈ wsL_law := qL_4 (List.mem_of_getElem? (i := 18) rfl)
theorem q_4_19 : (Cond.fieldLink RX7 13 "ClaimJudgeModel" "saved" "[I") ∈ wsL_law := qL_4 (List.mem_of_getElem? (i := 19) rfl)
theorem q_4_20 : (Cond.fieldLink RX7 16 "ClaimJudgeModel" "text" "[I") ∈ wsL_law := qL_4 (List.mem_of_getElem? (i := 20) rfl)
theorem q_4_21 : (Cond.fieldLink RX7 19 "ClaimJudgeModel" "read" "[I") ∈ wsL_law := qL_4 (List.mem_of_getElem? (i := 21) rfl)
theorem q_4_22 : (Cond.fieldLink RX7 22 "ClaimJudgeModel" "ends" "[I") ∈ wsL_law := qL_4 (List.mem_of_getElem? (i := 22) rfl)
theorem q_4_23 : (Cond.arrayClass .boolean) ∈ wsL_law := qL_4 (List.mem_of_getElem? (i := 23) rfl)
theorem qL_5 {w : Cond} (h : w ∈ wsL_law0_r5) : w ∈ wsL_law := qL_app (List.mem_append_left _ (List.mem_append_left _ (List.mem_append_left _ (List.mem_append_left _ (List.mem_append_left _ (List.mem_append_left _ (List.mem_append_left _ (List.mem_append_left _ (List.mem_append_left _ (List.mem_append_right _ (List.mem_append_right _ (List.mem_append_right _ (List.mem_append_right _ (List.mem_append_left _ h))))))))))))))
theorem q_5_0 : (Cond.fieldLink RX7 25 "ClaimJudgeModel" "seen" "[Z") ∈ wsL_law := qL_5 (List.mem_of_getElem? (i := 0) rfl)
theorem q_5_1 : (Cond.methodLink RL 75 yL_load) ∈ wsL_law := qL_5 (List.mem_of_getElem? (i := 1) rfl)
theorem q_5_2 : (Cond.static yL_load) ∈ wsL_law := qL_5 (List.mem_of_getElem? (i := 2) rfl)
theorem q_5_3 : (Cond.initialized RL) ∈ wsL_law := qL_5 (List.mem_of_getElem? (i := 3) rfl)
theorem q_5_4 : (Cond.codeWith yL_load cL_load 3 (some .int) [(0, 8, 11, 13)]) ∈ wsL_law := qL_5 (List.mem_of_getElem? (i := 4) rfl)
theorem q_5_5 : (Cond.classLink RL 13 "java/lang/IllegalArgumentException") ∈ wsL_law := qL_5 (List.mem_of_getElem? (i := 5) rfl)
theorem q_5_6 : (Cond.methodLink RL 7 yX6_load) ∈ wsL_law := qL_5 (List.mem_of_getElem? (i := 6) rfl)
theorem q_5_7 : (Cond.instanceMethod yX6_load) ∈ wsL_law := qL_5 (List.mem_of_getElem? (i := 7) rfl)
theorem q_5_8 : (Cond.selects RX6 yX6_load yX6_load) ∈ wsL_law := qL_5 (List.mem_of_getElem? (i := 8) rfl)
theorem q_5_9 : (Cond.code yX6_load cX6_load 2 (some .int)) ∈ wsL_law := qL_5 (List.mem_of_getElem? (i := 9) rfl)
theorem q_5_10 : (Cond.classLink RX6 70 "java/lang/IllegalArgumentException") ∈ wsL_law := qL_5 (List.mem_of_getElem? (i := 10) rfl)
theorem q_5_11 : (Cond.initialized "java/lang/IllegalArgumentException") ∈ wsL_law := qL_5 (List.mem_of_getElem? (i := 11) rfl)
theorem q_5_12 : (Cond.methodLink RX6 58 yX5_readAll) ∈ wsL_law := qL_5 (List.mem_of_getElem? (i := 12) rfl)
theorem q_5_13 : (Cond.instanceMethod yX5_readAll) ∈ wsL_law := qL_5 (List.mem_of_getElem? (i := 13) rfl)
theorem q_5_14 : (Cond.selects RX5 yX5_readAll yX5_readAll) ∈ wsL_law := qL_5 (List.mem_of_getElem? (i := 14) rfl)
theorem q_5_15 : (Cond.code yX5_readAll cX5_readAll 2 (some .boolean)) ∈ wsL_law := qL_5 (List.mem_of_getElem? (i := 15) rfl)
theorem q_5_16 : (Cond.fieldLink RX5 26 "ClaimJudge$Text" "at" "I") ∈ wsL_law := qL_5 (List.mem_of_getElem? (i := 16) rfl)
theorem q_5_17 : (Cond.fieldLink RX5 22 "ClaimJudge$Text" "length" "I") ∈ wsL_law := qL_5 (List.mem_of_getElem? (i := 17) rfl)
theorem q_5_18 : (Cond.methodLink RX5 29 yX3_clear) ∈ wsL_law := qL_5 (List.mem_of_getElem? (i := 18) rfl)
theorem q_5_19 : (Cond.instanceMethod yX3_clear) ∈ wsL_law := qL_5 (List.mem_of_getElem? (i := 19) rfl)
theorem q_5_20 : (Cond.selects RX3 yX3_clear yX3_clear) ∈ wsL_law := qL_5 (List.mem_of_getElem? (i := 20) rfl)
theorem q_5_21 : (Cond.code yX3_clear cX3_clear 1 none) ∈ wsL_law := qL_5 (List.mem_of_getElem? (i := 21) rfl)
theorem q_5_22 : (Cond.fieldLink RX3 30 "ClaimJudge$Program" "size" "I") ∈ wsL_law := qL_5 (List.mem_of_getElem? (i := 22) rfl)
theorem q_5_23 : (Cond.methodLink RX5 32 yX5_takeStatement) ∈ wsL_law := qL_5 (List.mem_of_getElem? (i := 23) rfl)
theorem qL_6 {w : Cond} (h : w ∈ wsL_law0_r6) : w ∈ wsL_law := qL_app (List.mem_append_left _ (List.mem_append_left _ (List.mem_append_left _ (List.mem_append_left _ (List.mem_append_left _ (List.mem_append_left _ (List.mem_append_left _ (List.mem_append_left _ (List.mem_append_left _ (List.mem_append_right _ (List.mem_append_right _ (List.mem_append_right _ (List.mem_append_right _ (List.mem_append_right _ (List.mem_append_left _ h)))))))))))))))
theorem q_6_0 : (Cond.instanceMethod yX5_takeStatement) ∈ wsL_law := qL_6 (List.mem_of_getElem? (i := 0) rfl)
theorem q_6_1 : (Cond.selects RX5 yX5_takeStatement yX5_takeStatement) ∈ wsL_law := qL_6 (List.mem_of_getElem? (i := 1) rfl)
theorem q_6_2 : (Cond.code yX5_takeStatement cX5_takeStatement 1 (some .boolean)) ∈ wsL_law := qL_6 (List.mem_of_getElem? (i := 2) rfl)
theorem q_6_3 : (Cond.fieldLink RX5 40 "ClaimJudge$Text" "sign" "I") ∈ wsL_law := qL_6 (List.mem_of_getElem? (i := 3) rfl)
theorem q_6_4 : (Cond.fieldLink RX5 43 "ClaimJudge$Text" "addend" "I") ∈ wsL_law := qL_6 (List.mem_of_getElem? (i := 4) rfl)
theorem q_6_5 : (Cond.fieldLink RX5 46 "ClaimJudge$Text" "goal" "I") ∈ wsL_law := qL_6 (List.mem_of_getElem? (i := 5) rfl)
theorem q_6_6 : (Cond.methodLink RX5 36 yX5_take) ∈ wsL_law := qL_6 (List.mem_of_getElem? (i := 6) rfl)
theorem q_6_7 : (Cond.instanceMethod yX5_take) ∈ wsL_law := qL_6 (List.mem_of_getElem? (i := 7) rfl)
theorem q_6_8 : (Cond.selects RX5 yX5_take yX5_take) ∈ wsL_law := qL_6 (List.mem_of_getElem? (i := 8) rfl)
theorem q_6_9 : (Cond.code yX5_take cX5_take 2 (some .boolean)) ∈ wsL_law := qL_6 (List.mem_of_getElem? (i := 9) rfl)
theorem q_6_10 : (Cond.methodLink RX5 83 yX5_next) ∈ wsL_law := qL_6 (List.mem_of_getElem? (i := 10) rfl)
theorem q_6_11 : (Cond.instanceMethod yX5_next) ∈ wsL_law := qL_6 (List.mem_of_getElem? (i := 11) rfl)
theorem q_6_12 : (Cond.selects RX5 yX5_next yX5_next) ∈ wsL_law := qL_6 (List.mem_of_getElem? (i := 12) rfl)
theorem q_6_13 : (Cond.code yX5_next cX5_next 1 (some .char)) ∈ wsL_law := qL_6 (List.mem_of_getElem? (i := 13) rfl)
theorem q_6_14 : (Cond.methodLink RX5 49 yX5_takeTest) ∈ wsL_law := qL_6 (List.mem_of_getElem? (i := 14) rfl)
theorem q_6_15 : (Cond.instanceMethod yX5_takeTest) ∈ wsL_law := qL_6 (List.mem_of_getElem? (i := 15) rfl)
theorem q_6_16 : (Cond.selects RX5 yX5_takeTest yX5_takeTest) ∈ wsL_law := qL_6 (List.mem_of_getElem? (i := 16) rfl)
theorem q_6_17 : (Cond.code yX5_takeTest cX5_takeTest 1 (some .boolean)) ∈ wsL_law := qL_6 (List.mem_of_getElem? (i := 17) rfl)
theorem q_6_18 : (Cond.methodLink RX5 59 yX5_takeVariable) ∈ wsL_law := qL_6 (List.mem_of_getElem? (i := 18) rfl)
theorem q_6_19 : (Cond.instanceMethod yX5_takeVariable) ∈ wsL_law := qL_6 (List.mem_of_getElem? (i := 19) rfl)
theorem q_6_20 : (Cond.selects RX5 yX5_takeVariable yX5_takeVariable) ∈ wsL_law := qL_6 (List.mem_of_getElem? (i := 20) rfl)
theorem q_6_21 : (Cond.code yX5_takeVariable cX5_takeVariable 2 (some .boolean)) ∈ wsL_law := qL_6 (List.mem_of_getElem? (i := 21) rfl)
theorem q_6_22 : (Cond.fieldLink RX5 68 "ClaimJudge$Text" "variable" "I") ∈ wsL_law := qL_6 (List.mem_of_getElem? (i := 22) rfl)
theorem q_6_23 : (Cond.methodLink RX5 87 yJ0_indexOf_0f7a4) ∈ wsL_law := qL_6 (List.mem_of_getElem? (i := 23) rfl)
theorem qL_7 {w : Cond} (h : w ∈ wsL_law0_r7) : w ∈ wsL_law := qL_app (List.mem_append_left _ (List.mem_append_left _ (List.mem_append_left _ (List.mem_append_left _ (List.mem_append_left _ (List.mem_append_left _ (List.mem_append_left _ (List.mem_append_left _ (List.mem_append_left _ (List.mem_append_right _ (List.mem_append_right _ (List.mem_append_right _ (List.mem_append_right _ (List.mem_append_right _ (List.mem_append_right _ (List.mem_append_left _ h))))))))))))))))
theorem q_7_0 : (Cond.instanceMethod yJ0_indexOf_0f7a4) ∈ wsL_law := qL_7 (List.mem_of_getElem? (i := 0) rfl)
theorem q_7_1 : (Cond.selects RJ0 yJ0_indexOf_0f7a4 yJ0_indexOf_0f7a4) ∈ wsL_law := qL_7 (List.mem_of_getElem? (i := 1) rfl)
theorem q_7_2 : (Cond.initialized RJ0) ∈ wsL_law := qL_7 (List.mem_of_getElem? (i := 2) rfl)
theorem q_7_3 : (Cond.code yJ0_indexOf_0f7a4 cJ0_indexOf_0f7a4 2 (some .int)) ∈ wsL_law := qL_7 (List.mem_of_getElem? (i := 3) rfl)
theorem q_7_4 : (Cond.methodLink RJ0 633 yJ0_indexOf_7cf53) ∈ wsL_law := qL_7 (List.mem_of_getElem? (i := 4) rfl)
theorem q_7_5 : (Cond.instanceMethod yJ0_indexOf_7cf53) ∈ wsL_law := qL_7 (List.mem_of_getElem? (i := 5) rfl)
theorem q_7_6 : (Cond.selects RJ0 yJ0_indexOf_7cf53 yJ0_indexOf_7cf53) ∈ wsL_law := qL_7 (List.mem_of_getElem? (i := 6) rfl)
theorem q_7_7 : (Cond.code yJ0_indexOf_7cf53 cJ0_indexOf_7cf53 3 (some .int)) ∈ wsL_law := qL_7 (List.mem_of_getElem? (i := 7) rfl)
theorem q_7_8 : (Cond.fieldLink RJ0 9 "java/lang/String" "value" "[B") ∈ wsL_law := qL_7 (List.mem_of_getElem? (i := 8) rfl)
theorem q_7_9 : (Cond.methodLink RJ0 492 yJ0_isLatin1_aae02) ∈ wsL_law := qL_7 (List.mem_of_getElem? (i := 9) rfl)
theorem q_7_10 : (Cond.instanceMethod yJ0_isLatin1_aae02) ∈ wsL_law := qL_7 (List.mem_of_getElem? (i := 10) rfl)
theorem q_7_11 : (Cond.selects RJ0 yJ0_isLatin1_aae02 yJ0_isLatin1_aae02) ∈ wsL_law := qL_7 (List.mem_of_getElem? (i := 11) rfl)
theorem q_7_12 : (Cond.code yJ0_isLatin1_aae02 cJ0_isLatin1_aae02 1 (some .boolean)) ∈ wsL_law := qL_7 (List.mem_of_getElem? (i := 12) rfl)
theorem q_7_13 : (Cond.fieldLink RJ0 38 "java/lang/String" "COMPACT_STRINGS" "Z") ∈ wsL_law := qL_7 (List.mem_of_getElem? (i := 13) rfl)
theorem q_7_14 : (Cond.fieldLink RJ0 15 "java/lang/String" "coder" "B") ∈ wsL_law := qL_7 (List.mem_of_getElem? (i := 14) rfl)
theorem q_7_15 : (Cond.methodLink RJ0 505 yJ0_length_8abf5) ∈ wsL_law := qL_7 (List.mem_of_getElem? (i := 15) rfl)
theorem q_7_16 : (Cond.instanceMethod yJ0_length_8abf5) ∈ wsL_law := qL_7 (List.mem_of_getElem? (i := 16) rfl)
theorem q_7_17 : (Cond.selects RJ0 yJ0_length_8abf5 yJ0_length_8abf5) ∈ wsL_law := qL_7 (List.mem_of_getElem? (i := 17) rfl)
theorem q_7_18 : (Cond.code yJ0_length_8abf5 cJ0_length_8abf5 1 (some .int)) ∈ wsL_law := qL_7 (List.mem_of_getElem? (i := 18) rfl)
theorem q_7_19 : (Cond.methodLink RJ0 335 yJ0_coder_7d493) ∈ wsL_law := qL_7 (List.mem_of_getElem? (i := 19) rfl)
theorem q_7_20 : (Cond.instanceMethod yJ0_coder_7d493) ∈ wsL_law := qL_7 (List.mem_of_getElem? (i := 20) rfl)
theorem q_7_21 : (Cond.selects RJ0 yJ0_coder_7d493 yJ0_coder_7d493) ∈ wsL_law := qL_7 (List.mem_of_getElem? (i := 21) rfl)
theorem q_7_22 : (Cond.code yJ0_coder_7d493 cJ0_coder_7d493 1 (some .byte)) ∈ wsL_law := qL_7 (List.mem_of_getElem? (i := 22) rfl)
theorem q_7_23 : (Cond.methodLink RJ0 637 yJ1_indexOf_4cfef) ∈ wsL_law := qL_7 (List.mem_of_getElem? (i := 23) rfl)
theorem qL_8 {w : Cond} (h : w ∈ wsL_law0_r8) : w ∈ wsL_law := qL_app (List.mem_append_left _ (List.mem_append_left _ (List.mem_append_left _ (List.mem_append_left _ (List.mem_append_left _ (List.mem_append_left _ (List.mem_append_left _ (List.mem_append_left _ (List.mem_append_left _ (List.mem_append_right _ (List.mem_append_right _ (List.mem_append_right _ (List.mem_append_right _ (List.mem_append_right _ (List.mem_append_right _ (List.mem_append_right _ (List.mem_append_left _ h)))))))))))))))))
theorem q_8_0 : (Cond.static yJ1_indexOf_4cfef) ∈ wsL_law := qL_8 (List.mem_of_getElem? (i := 0) rfl)
theorem q_8_1 : (Cond.initialized RJ1) ∈ wsL_law := qL_8 (List.mem_of_getElem? (i := 1) rfl)
theorem q_8_2 : (Cond.code yJ1_indexOf_4cfef cJ1_indexOf_4cfef 4 (some .int)) ∈ wsL_law := qL_8 (List.mem_of_getElem? (i := 2) rfl)
theorem q_8_3 : (Cond.methodLink RJ1 92 Lib.Math.max.name) ∈ wsL_law := qL_8 (List.mem_of_getElem? (i := 3) rfl)
theorem q_8_4 : (Cond.static Lib.Math.max.name) ∈ wsL_law := qL_8 (List.mem_of_getElem? (i := 4) rfl)
theorem q_8_5 : (Cond.initialized "java/lang/Math") ∈ wsL_law := qL_8 (List.mem_of_getElem? (i := 5) rfl)
theorem q_8_6 : (Cond.code Lib.Math.max.name Lib.Math.max.code 2 (some .int)) ∈ wsL_law := qL_8 (List.mem_of_getElem? (i := 6) rfl)
theorem q_8_7 : (Cond.methodLink RJ1 38 Lib.Math.min.name) ∈ wsL_law := qL_8 (List.mem_of_getElem? (i := 7) rfl)
theorem q_8_8 : (Cond.static Lib.Math.min.name) ∈ wsL_law := qL_8 (List.mem_of_getElem? (i := 8) rfl)
theorem q_8_9 : (Cond.code Lib.Math.min.name Lib.Math.min.code 2 (some .int)) ∈ wsL_law := qL_8 (List.mem_of_getElem? (i := 9) rfl)
theorem q_8_10 : (Cond.methodLink RJ1 88 yJ1_canEncode_9a6ad) ∈ wsL_law := qL_8 (List.mem_of_getElem? (i := 10) rfl)
theorem q_8_11 : (Cond.static yJ1_canEncode_9a6ad) ∈ wsL_law := qL_8 (List.mem_of_getElem? (i := 11) rfl)
theorem q_8_12 : (Cond.code yJ1_canEncode_9a6ad cJ1_canEncode_9a6ad 1 (some .boolean)) ∈ wsL_law := qL_8 (List.mem_of_getElem? (i := 12) rfl)
theorem q_8_13 : (Cond.methodLink RJ1 95 yJ1_indexOfChar_4cfef) ∈ wsL_law := qL_8 (List.mem_of_getElem? (i := 13) rfl)
theorem q_8_14 : (Cond.static yJ1_indexOfChar_4cfef) ∈ wsL_law := qL_8 (List.mem_of_getElem? (i := 14) rfl)
theorem q_8_15 : (Cond.code yJ1_indexOfChar_4cfef cJ1_indexOfChar_4cfef 6 (some .int)) ∈ wsL_law := qL_8 (List.mem_of_getElem? (i := 15) rfl)
theorem q_8_16 : (Cond.methodLink RJ0 640 yJ2_indexOf_4cfef) ∈ wsL_law := qL_8 (List.mem_of_getElem? (i := 16) rfl)
theorem q_8_17 : (Cond.static yJ2_indexOf_4cfef) ∈ wsL_law := qL_8 (List.mem_of_getElem? (i := 17) rfl)
theorem q_8_18 : (Cond.initialized RJ2) ∈ wsL_law := qL_8 (List.mem_of_getElem? (i := 18) rfl)
theorem q_8_19 : (Cond.code yJ2_indexOf_4cfef cJ2_indexOf_4cfef 4 (some .int)) ∈ wsL_law := qL_8 (List.mem_of_getElem? (i := 19) rfl)
theorem q_8_20 : (Cond.methodLink RJ2 224 Lib.Math.max.name) ∈ wsL_law := qL_8 (List.mem_of_getElem? (i := 20) rfl)
theorem q_8_21 : (Cond.methodLink RJ2 183 Lib.Math.min.name) ∈ wsL_law := qL_8 (List.mem_of_getElem? (i := 21) rfl)
theorem q_8_22 : (Cond.constant RJ2 227 (65536)) ∈ wsL_law := qL_8 (List.mem_of_getElem? (i := 22) rfl)
theorem q_8_23 : (Cond.methodLink RJ2 228 yJ2_indexOfChar_4cfef) ∈ wsL_law := qL_8 (List.mem_of_getElem? (i := 23) rfl)
theorem qL_9 {w : Cond} (h : w ∈ wsL_law0_r9) : w ∈ wsL_law := qL_app (List.mem_append_left _ (List.mem_append_left _ (List.mem_append_left _ (List.mem_append_left _ (List.mem_append_left _ (List.mem_append_left _ (List.mem_append_left _ (List.mem_append_left _ (List.mem_append_left _ (List.mem_append_right _ (List.mem_append_right _ (List.mem_append_right _ (List.mem_append_right _ (List.mem_append_right _ (List.mem_append_right _ (List.mem_append_right _ (List.mem_append_right _ (List.mem_append_left _ h))))))))))))))))))
theorem q_9_0 : (Cond.static yJ2_indexOfChar_4cfef) ∈ wsL_law := qL_9 (List.mem_of_getElem? (i := 0) rfl)
theorem q_9_1 : (Cond.code yJ2_indexOfChar_4cfef cJ2_indexOfChar_4cfef 4 (some .int)) ∈ wsL_law := qL_9 (List.mem_of_getElem? (i := 1) rfl)
theorem q_9_2 : (Cond.methodLink RJ2 96 yJ2_checkBoundsBeginEnd_d044e) ∈ wsL_law := qL_9 (List.mem_of_getElem? (i := 2) rfl)
theorem q_9_3 : (Cond.static yJ2_checkBoundsBeginEnd_d044e) ∈ wsL_law := qL_9 (List.mem_of_getElem? (i := 3) rfl)
theorem q_9_4 : (Cond.code yJ2_checkBoundsBeginEnd_d044e cJ2_checkBoundsBeginEnd_d044e 3 none) ∈ wsL_law := qL_9 (List.mem_of_getElem? (i := 4) rfl)
theorem q_9_5 : (Cond.methodLink RJ2 48 yJ2_length_9d52b) ∈ wsL_law := qL_9 (List.mem_of_getElem? (i := 5) rfl)
theorem q_9_6 : (Cond.static yJ2_length_9d52b) ∈ wsL_law := qL_9 (List.mem_of_getElem? (i := 6) rfl)
theorem q_9_7 : (Cond.code yJ2_length_9d52b cJ2_length_9d52b 1 (some .int)) ∈ wsL_law := qL_9 (List.mem_of_getElem? (i := 7) rfl)
theorem q_9_8 : (Cond.methodLink RJ2 241 yJ0_checkBoundsBeginEnd_23922) ∈ wsL_law := qL_9 (List.mem_of_getElem? (i := 8) rfl)
theorem q_9_9 : (Cond.static yJ0_checkBoundsBeginEnd_23922) ∈ wsL_law := qL_9 (List.mem_of_getElem? (i := 9) rfl)
theorem q_9_10 : (Cond.code yJ0_checkBoundsBeginEnd_23922 cJ0_checkBoundsBeginEnd_23922 3 none) ∈ wsL_law := qL_9 (List.mem_of_getElem? (i := 10) rfl)
theorem q_9_11 : (Cond.fieldLink RJ0 1053 "jdk/internal/util/Preconditions" "SIOOBE_FORMATTER" "Ljava/util/function/BiFunction;") ∈ wsL_law := qL_9 (List.mem_of_getElem? (i := 11) rfl)
theorem q_9_12 : (Cond.methodLink RJ0 1062 yJ3_checkFromToIndex_8c36e) ∈ wsL_law := qL_9 (List.mem_of_getElem? (i := 12) rfl)
theorem q_9_13 : (Cond.static yJ3_checkFromToIndex_8c36e) ∈ wsL_law := qL_9 (List.mem_of_getElem? (i := 13) rfl)
theorem q_9_14 : (Cond.initialized RJ3) ∈ wsL_law := qL_9 (List.mem_of_getElem? (i := 14) rfl)
theorem q_9_15 : (Cond.code yJ3_checkFromToIndex_8c36e cJ3_checkFromToIndex_8c36e 4 (some .int)) ∈ wsL_law := qL_9 (List.mem_of_getElem? (i := 15) rfl)
theorem q_9_16 : (Cond.methodLink RJ2 244 yJ2_indexOfCharUnsafe_4cfef) ∈ wsL_law := qL_9 (List.mem_of_getElem? (i := 16) rfl)
theorem q_9_17 : (Cond.static yJ2_indexOfCharUnsafe_4cfef) ∈ wsL_law := qL_9 (List.mem_of_getElem? (i := 17) rfl)
theorem q_9_18 : (Cond.code yJ2_indexOfCharUnsafe_4cfef cJ2_indexOfCharUnsafe_4cfef 5 (some .int)) ∈ wsL_law := qL_9 (List.mem_of_getElem? (i := 18) rfl)
theorem q_9_19 : (Cond.methodLink RJ2 71 yJ2_getChar_3b067) ∈ wsL_law := qL_9 (List.mem_of_getElem? (i := 19) rfl)
theorem q_9_20 : (Cond.static yJ2_getChar_3b067) ∈ wsL_law := qL_9 (List.mem_of_getElem? (i := 20) rfl)
theorem q_9_21 : (Cond.code yJ2_getChar_3b067 cJ2_getChar_3b067 2 (some .char)) ∈ wsL_law := qL_9 (List.mem_of_getElem? (i := 21) rfl)
theorem q_9_22 : (Cond.fieldLink RJ2 44 "java/lang/StringUTF16" "$assertionsDisabled" "Z") ∈ wsL_law := qL_9 (List.mem_of_getElem? (i := 22) rfl)
theorem q_9_23 : (Cond.fieldLink RJ2 59 "java/lang/StringUTF16" "HI_BYTE_SHIFT" "I") ∈ wsL_law := qL_9 (List.mem_of_getElem? (i := 23) rfl)
theorem qL_10 {w : Cond} (h : w ∈ wsL_law0_r10) : w ∈ wsL_law := qL_app (List.mem_append_left _ (List.mem_append_left _ (List.mem_append_left _ (List.mem_append_left _ (List.mem_append_left _ (List.mem_append_left _ (List.mem_append_left _ (List.mem_append_left _ (List.mem_append_left _ (List.mem_append_right _ (List.mem_append_right _ (List.mem_append_right _ (List.mem_append_right _ (List.mem_append_right _ (List.mem_append_right _ (List.mem_append_right _ (List.mem_append_right _ (List.mem_append_right _ (List.mem_append_left _ h)))))))))))))))))))
theorem q_10_0 : (Cond.fieldLink RJ2 63 "java/lang/StringUTF16" "LO_BYTE_SHIFT" "I") ∈ wsL_law := qL_10 (List.mem_of_getElem? (i := 0) rfl)
theorem q_10_1 : (Cond.methodLink RJ2 232 yJ2_indexOfSupplementary_4cfef) ∈ wsL_law := qL_10 (List.mem_of_getElem? (i := 1) rfl)
theorem q_10_2 : (Cond.static yJ2_indexOfSupplementary_4cfef) ∈ wsL_law := qL_10 (List.mem_of_getElem? (i := 2) rfl)
theorem q_10_3 : (Cond.code yJ2_indexOfSupplementary_4cfef cJ2_indexOfSupplementary_4cfef 7 (some .int)) ∈ wsL_law := qL_10 (List.mem_of_getElem? (i := 3) rfl)
theorem q_10_4 : (Cond.methodLink RJ2 164 yJ11_isValidCodePoint_9a6ad) ∈ wsL_law := qL_10 (List.mem_of_getElem? (i := 4) rfl)
theorem q_10_5 : (Cond.static yJ11_isValidCodePoint_9a6ad) ∈ wsL_law := qL_10 (List.mem_of_getElem? (i := 5) rfl)
theorem q_10_6 : (Cond.initialized RJ11) ∈ wsL_law := qL_10 (List.mem_of_getElem? (i := 6) rfl)
theorem q_10_7 : (Cond.code yJ11_isValidCodePoint_9a6ad cJ11_isValidCodePoint_9a6ad 2 (some .boolean)) ∈ wsL_law := qL_10 (List.mem_of_getElem? (i := 7) rfl)
theorem q_10_8 : (Cond.methodLink RJ2 157 yJ11_highSurrogate_5068e) ∈ wsL_law := qL_10 (List.mem_of_getElem? (i := 8) rfl)
theorem q_10_9 : (Cond.static yJ11_highSurrogate_5068e) ∈ wsL_law := qL_10 (List.mem_of_getElem? (i := 9) rfl)
theorem q_10_10 : (Cond.code yJ11_highSurrogate_5068e cJ11_highSurrogate_5068e 1 (some .char)) ∈ wsL_law := qL_10 (List.mem_of_getElem? (i := 10) rfl)
theorem q_10_11 : (Cond.constant RJ11 110 (55232)) ∈ wsL_law := qL_10 (List.mem_of_getElem? (i := 11) rfl)
theorem q_10_12 : (Cond.methodLink RJ2 161 yJ11_lowSurrogate_5068e) ∈ wsL_law := qL_10 (List.mem_of_getElem? (i := 12) rfl)
theorem q_10_13 : (Cond.static yJ11_lowSurrogate_5068e) ∈ wsL_law := qL_10 (List.mem_of_getElem? (i := 13) rfl)
theorem q_10_14 : (Cond.code yJ11_lowSurrogate_5068e cJ11_lowSurrogate_5068e 1 (some .char)) ∈ wsL_law := qL_10 (List.mem_of_getElem? (i := 14) rfl)
theorem q_10_15 : (Cond.constant RJ11 76 (56320)) ∈ wsL_law := qL_10 (List.mem_of_getElem? (i := 15) rfl)
theorem q_10_16 : (Cond.methodLink RX5 78 yX5_takeSign) ∈ wsL_law := qL_10 (List.mem_of_getElem? (i := 16) rfl)
theorem q_10_17 : (Cond.instanceMethod yX5_takeSign) ∈ wsL_law := qL_10 (List.mem_of_getElem? (i := 17) rfl)
theorem q_10_18 : (Cond.selects RX5 yX5_takeSign yX5_takeSign) ∈ wsL_law := qL_10 (List.mem_of_getElem? (i := 18) rfl)
theorem q_10_19 : (Cond.code yX5_takeSign cX5_takeSign 2 (some .boolean)) ∈ wsL_law := qL_10 (List.mem_of_getElem? (i := 19) rfl)
theorem q_10_20 : (Cond.methodLink RX5 62 yX5_takeOperand) ∈ wsL_law := qL_10 (List.mem_of_getElem? (i := 20) rfl)
theorem q_10_21 : (Cond.instanceMethod yX5_takeOperand) ∈ wsL_law := qL_10 (List.mem_of_getElem? (i := 21) rfl)
theorem q_10_22 : (Cond.selects RX5 yX5_takeOperand yX5_takeOperand) ∈ wsL_law := qL_10 (List.mem_of_getElem? (i := 22) rfl)
theorem q_10_23 : (Cond.code yX5_takeOperand cX5_takeOperand 2 (some .boolean)) ∈ wsL_law := qL_10 (List.mem_of_getElem? (i := 23) rfl)
theorem qL_11 {w : Cond} (h : w ∈ wsL_law0_r11) : w ∈ wsL_law := qL_app (List.mem_append_left _ (List.mem_append_left _ (List.mem_append_left _ (List.mem_append_left _ (List.mem_append_left _ (List.mem_append_left _ (List.mem_append_left _ (List.mem_append_left _ (List.mem_append_left _ (List.mem_append_right _ (List.mem_append_right _ (List.mem_append_right _ (List.mem_append_right _ (List.mem_append_right _ (List.mem_append_right _ (List.mem_append_right _ (List.mem_append_right _ (List.mem_append_right _ (List.mem_append_right _ (List.mem_append_left _ h))))))))))))))))))))
theorem q_11_0 : (Cond.fieldLink RX5 71 "ClaimJudge$Text" "operand" "I") ∈ wsL_law := qL_11 (List.mem_of_getElem? (i := 0) rfl)
theorem q_11_1 : (Cond.methodLink RX5 95 yX5_isDigitTo) ∈ wsL_law := qL_11 (List.mem_of_getElem? (i := 1) rfl)
theorem q_11_2 : (Cond.instanceMethod yX5_isDigitTo) ∈ wsL_law := qL_11 (List.mem_of_getElem? (i := 2) rfl)
theorem q_11_3 : (Cond.selects RX5 yX5_isDigitTo yX5_isDigitTo) ∈ wsL_law := qL_11 (List.mem_of_getElem? (i := 3) rfl)
theorem q_11_4 : (Cond.code yX5_isDigitTo cX5_isDigitTo 2 (some .boolean)) ∈ wsL_law := qL_11 (List.mem_of_getElem? (i := 4) rfl)
theorem q_11_5 : (Cond.methodLink RX5 52 yX5_keep) ∈ wsL_law := qL_11 (List.mem_of_getElem? (i := 5) rfl)
theorem q_11_6 : (Cond.instanceMethod yX5_keep) ∈ wsL_law := qL_11 (List.mem_of_getElem? (i := 6) rfl)
theorem q_11_7 : (Cond.selects RX5 yX5_keep yX5_keep) ∈ wsL_law := qL_11 (List.mem_of_getElem? (i := 7) rfl)
theorem q_11_8 : (Cond.code yX5_keep cX5_keep 2 (some .boolean)) ∈ wsL_law := qL_11 (List.mem_of_getElem? (i := 8) rfl)
theorem q_11_9 : (Cond.methodLink RX5 74 yX3_put) ∈ wsL_law := qL_11 (List.mem_of_getElem? (i := 9) rfl)
theorem q_11_10 : (Cond.instanceMethod yX3_put) ∈ wsL_law := qL_11 (List.mem_of_getElem? (i := 10) rfl)
theorem q_11_11 : (Cond.selects RX3 yX3_put yX3_put) ∈ wsL_law := qL_11 (List.mem_of_getElem? (i := 11) rfl)
theorem q_11_12 : (Cond.code yX3_put cX3_put 7 none) ∈ wsL_law := qL_11 (List.mem_of_getElem? (i := 12) rfl)
theorem q_11_13 : (Cond.methodLink RX5 56 yX5_takeGoal) ∈ wsL_law := qL_11 (List.mem_of_getElem? (i := 13) rfl)
theorem q_11_14 : (Cond.instanceMethod yX5_takeGoal) ∈ wsL_law := qL_11 (List.mem_of_getElem? (i := 14) rfl)
theorem q_11_15 : (Cond.selects RX5 yX5_takeGoal yX5_takeGoal) ∈ wsL_law := qL_11 (List.mem_of_getElem? (i := 15) rfl)
theorem q_11_16 : (Cond.code yX5_takeGoal cX5_takeGoal 1 (some .boolean)) ∈ wsL_law := qL_11 (List.mem_of_getElem? (i := 16) rfl)
theorem q_11_17 : (Cond.methodLink RX5 65 yX5_takeAddend) ∈ wsL_law := qL_11 (List.mem_of_getElem? (i := 17) rfl)
theorem q_11_18 : (Cond.instanceMethod yX5_takeAddend) ∈ wsL_law := qL_11 (List.mem_of_getElem? (i := 18) rfl)
theorem q_11_19 : (Cond.selects RX5 yX5_takeAddend yX5_takeAddend) ∈ wsL_law := qL_11 (List.mem_of_getElem? (i := 19) rfl)
theorem q_11_20 : (Cond.code yX5_takeAddend cX5_takeAddend 2 (some .boolean)) ∈ wsL_law := qL_11 (List.mem_of_getElem? (i := 20) rfl)
theorem q_11_21 : (Cond.methodLink RX6 62 yX3_highestTarget) ∈ wsL_law := qL_11 (List.mem_of_getElem? (i := 21) rfl)
theorem q_11_22 : (Cond.instanceMethod yX3_highestTarget) ∈ wsL_law := qL_11 (List.mem_of_getElem? (i := 22) rfl)
theorem q_11_23 : (Cond.selects RX3 yX3_highestTarget yX3_highestTarget) ∈ wsL_law := qL_11 (List.mem_of_getElem? (i := 23) rfl)
theorem qL_12 {w : Cond} (h : w ∈ wsL_law0_r12) : w ∈ wsL_law := qL_app (List.mem_append_left _ (List.mem_append_left _ (List.mem_append_left _ (List.mem_append_left _ (List.mem_append_left _ (List.mem_append_left _ (List.mem_append_left _ (List.mem_append_left _ (List.mem_append_left _ (List.mem_append_right _ (List.mem_append_right _ (List.mem_append_right _ (List.mem_append_right _ (List.mem_append_right _ (List.mem_append_right _ (List.mem_append_right _ (List.mem_append_right _ (List.mem_append_right _ (List.mem_append_right _ (List.mem_append_right _ (List.mem_append_left _ h)))))))))))))))))))))
theorem q_12_0 : (Cond.code yX3_highestTarget cX3_highestTarget 3 (some .int)) ∈ wsL_law := qL_12 (List.mem_of_getElem? (i := 0) rfl)
theorem q_12_1 : (Cond.methodLink RX3 45 Lib.Math.max.name) ∈ wsL_law := qL_12 (List.mem_of_getElem? (i := 1) rfl)
theorem q_12_2 : (Cond.methodLink RX6 77 yX6_saveState) ∈ wsL_law := qL_12 (List.mem_of_getElem? (i := 2) rfl)
theorem q_12_3 : (Cond.instanceMethod yX6_saveState) ∈ wsL_law := qL_12 (List.mem_of_getElem? (i := 3) rfl)
theorem q_12_4 : (Cond.selects RX6 yX6_saveState yX6_saveState) ∈ wsL_law := qL_12 (List.mem_of_getElem? (i := 4) rfl)
theorem q_12_5 : (Cond.code yX6_saveState cX6_saveState 1 none) ∈ wsL_law := qL_12 (List.mem_of_getElem? (i := 5) rfl)
theorem q_12_6 : (Cond.methodLink RX6 250 yX1_save) ∈ wsL_law := qL_12 (List.mem_of_getElem? (i := 6) rfl)
theorem q_12_7 : (Cond.instanceMethod yX1_save) ∈ wsL_law := qL_12 (List.mem_of_getElem? (i := 7) rfl)
theorem q_12_8 : (Cond.selects RX1 yX1_save yX1_save) ∈ wsL_law := qL_12 (List.mem_of_getElem? (i := 8) rfl)
theorem q_12_9 : (Cond.code yX1_save cX1_save 4 none) ∈ wsL_law := qL_12 (List.mem_of_getElem? (i := 9) rfl)
theorem q_12_10 : (Cond.fieldLink RX1 25 "ClaimJudge$History" "count" "I") ∈ wsL_law := qL_12 (List.mem_of_getElem? (i := 10) rfl)
theorem q_12_11 : (Cond.fieldLink RX1 29 "ClaimJudge$History" "oldest" "I") ∈ wsL_law := qL_12 (List.mem_of_getElem? (i := 11) rfl)
theorem q_12_12 : (Cond.methodLink RX1 32 yX3_copyFrom) ∈ wsL_law := qL_12 (List.mem_of_getElem? (i := 12) rfl)
theorem q_12_13 : (Cond.instanceMethod yX3_copyFrom) ∈ wsL_law := qL_12 (List.mem_of_getElem? (i := 13) rfl)
theorem q_12_14 : (Cond.selects RX3 yX3_copyFrom yX3_copyFrom) ∈ wsL_law := qL_12 (List.mem_of_getElem? (i := 14) rfl)
theorem q_12_15 : (Cond.code yX3_copyFrom cX3_copyFrom 2 none) ∈ wsL_law := qL_12 (List.mem_of_getElem? (i := 15) rfl)
theorem q_12_16 : (Cond.methodLink RX3 38 yX3_clear) ∈ wsL_law := qL_12 (List.mem_of_getElem? (i := 16) rfl)
theorem q_12_17 : (Cond.methodLink RX3 41 yX3_putAll) ∈ wsL_law := qL_12 (List.mem_of_getElem? (i := 17) rfl)
theorem q_12_18 : (Cond.instanceMethod yX3_putAll) ∈ wsL_law := qL_12 (List.mem_of_getElem? (i := 18) rfl)
theorem q_12_19 : (Cond.selects RX3 yX3_putAll yX3_putAll) ∈ wsL_law := qL_12 (List.mem_of_getElem? (i := 19) rfl)
theorem q_12_20 : (Cond.code yX3_putAll cX3_putAll 3 none) ∈ wsL_law := qL_12 (List.mem_of_getElem? (i := 20) rfl)
theorem q_12_21 : (Cond.methodLink RX3 34 yX3_put) ∈ wsL_law := qL_12 (List.mem_of_getElem? (i := 21) rfl)
theorem q_12_22 : (Cond.methodLink RX1 36 yX0_copyFrom) ∈ wsL_law := qL_12 (List.mem_of_getElem? (i := 22) rfl)
theorem q_12_23 : (Cond.instanceMethod yX0_copyFrom) ∈ wsL_law := qL_12 (List.mem_of_getElem? (i := 23) rfl)
theorem qL_13 {w : Cond} (h : w ∈ wsL_law0_r13) : w ∈ wsL_law := qL_app (List.mem_append_left _ (List.mem_append_left _ (List.mem_append_left _ (List.mem_append_left _ (List.mem_append_left _ (List.mem_append_left _ (List.mem_append_left _ (List.mem_append_left _ (List.mem_append_left _ (List.mem_append_right _ (List.mem_append_right _ (List.mem_append_right _ (List.mem_append_right _ (List.mem_append_right _ (List.mem_append_right _ (List.mem_append_right _ (List.mem_append_right _ (List.mem_append_right _ (List.mem_append_right _ (List.mem_append_right _ (List.mem_append_right _ (List.mem_append_left _ h))))))))))))))))))))))
theorem q_13_0 : (Cond.selects RX0 yX0_copyFrom yX0_copyFrom) ∈ wsL_law := qL_13 (List.mem_of_getElem? (i := 0) rfl)
theorem q_13_1 : (Cond.code yX0_copyFrom cX0_copyFrom 3 none) ∈ wsL_law := qL_13 (List.mem_of_getElem? (i := 1) rfl)
theorem q_13_2 : (Cond.methodLink RX0 18 yX0_limit) ∈ wsL_law := qL_13 (List.mem_of_getElem? (i := 2) rfl)
theorem q_13_3 : (Cond.instanceMethod yX0_limit) ∈ wsL_law := qL_13 (List.mem_of_getElem? (i := 3) rfl)
theorem q_13_4 : (Cond.selects RX0 yX0_limit yX0_limit) ∈ wsL_law := qL_13 (List.mem_of_getElem? (i := 4) rfl)
theorem q_13_5 : (Cond.code yX0_limit cX0_limit 4 none) ∈ wsL_law := qL_13 (List.mem_of_getElem? (i := 5) rfl)
theorem q_13_6 : (Cond.methodLink RX6 80 yX3_copyFrom) ∈ wsL_law := qL_13 (List.mem_of_getElem? (i := 6) rfl)
theorem q_13_7 : (Cond.methodLink RX6 83 yX5_clear) ∈ wsL_law := qL_13 (List.mem_of_getElem? (i := 7) rfl)
theorem q_13_8 : (Cond.instanceMethod yX5_clear) ∈ wsL_law := qL_13 (List.mem_of_getElem? (i := 8) rfl)
theorem q_13_9 : (Cond.selects RX5 yX5_clear yX5_clear) ∈ wsL_law := qL_13 (List.mem_of_getElem? (i := 9) rfl)
theorem q_13_10 : (Cond.code yX5_clear cX5_clear 1 none) ∈ wsL_law := qL_13 (List.mem_of_getElem? (i := 10) rfl)
theorem q_13_11 : (Cond.methodLink RX6 86 yX6_forgetProgram) ∈ wsL_law := qL_13 (List.mem_of_getElem? (i := 11) rfl)
theorem q_13_12 : (Cond.instanceMethod yX6_forgetProgram) ∈ wsL_law := qL_13 (List.mem_of_getElem? (i := 12) rfl)
theorem q_13_13 : (Cond.selects RX6 yX6_forgetProgram yX6_forgetProgram) ∈ wsL_law := qL_13 (List.mem_of_getElem? (i := 13) rfl)
theorem q_13_14 : (Cond.code yX6_forgetProgram cX6_forgetProgram 1 none) ∈ wsL_law := qL_13 (List.mem_of_getElem? (i := 14) rfl)
theorem q_13_15 : (Cond.methodLink RX6 253 yX4_forget) ∈ wsL_law := qL_13 (List.mem_of_getElem? (i := 15) rfl)
theorem q_13_16 : (Cond.instanceMethod yX4_forget) ∈ wsL_law := qL_13 (List.mem_of_getElem? (i := 16) rfl)
theorem q_13_17 : (Cond.selects RX4 yX4_forget yX4_forget) ∈ wsL_law := qL_13 (List.mem_of_getElem? (i := 17) rfl)
theorem q_13_18 : (Cond.code yX4_forget cX4_forget 1 none) ∈ wsL_law := qL_13 (List.mem_of_getElem? (i := 18) rfl)
theorem q_13_19 : (Cond.methodLink RX6 148 yX2_forget) ∈ wsL_law := qL_13 (List.mem_of_getElem? (i := 19) rfl)
theorem q_13_20 : (Cond.instanceMethod yX2_forget) ∈ wsL_law := qL_13 (List.mem_of_getElem? (i := 20) rfl)
theorem q_13_21 : (Cond.selects RX2 yX2_forget yX2_forget) ∈ wsL_law := qL_13 (List.mem_of_getElem? (i := 21) rfl)
theorem q_13_22 : (Cond.code yX2_forget cX2_forget 1 none) ∈ wsL_law := qL_13 (List.mem_of_getElem? (i := 22) rfl)
theorem q_13_23 : (Cond.methodLink RL 80 yX7_load) ∈ wsL_law := qL_13 (List.mem_of_getElem? (i := 23) rfl)
theorem qL_14 {w : Cond} (h : w ∈ wsL_law0_r14) : w ∈ wsL_law := qL_app (List.mem_append_left _ (List.mem_append_left _ (List.mem_append_left _ (List.mem_append_left _ (List.mem_append_left _ (List.mem_append_left _ (List.mem_append_left _ (List.mem_append_left _ (List.mem_append_left _ (List.mem_append_right _ (List.mem_append_right _ (List.mem_append_right _ (List.mem_append_right _ (List.mem_append_right _ (List.mem_append_right _ (List.mem_append_right _ (List.mem_append_right _ (List.mem_append_right _ (List.mem_append_right _ (List.mem_append_right _ (List.mem_append_right _ (List.mem_append_right _ (List.mem_append_left _ h)))))))))))))))))))))))
theorem q_14_0 : (Cond.instanceMethod yX7_load) ∈ wsL_law := qL_14 (List.mem_of_getElem? (i := 0) rfl)
theorem q_14_1 : (Cond.selects RX7 yX7_load yX7_load) ∈ wsL_law := qL_14 (List.mem_of_getElem? (i := 1) rfl)
theorem q_14_2 : (Cond.code yX7_load cX7_load 2 (some .int)) ∈ wsL_law := qL_14 (List.mem_of_getElem? (i := 2) rfl)
theorem q_14_3 : (Cond.fieldLink RX7 106 "ClaimJudgeModel" "farthest" "I") ∈ wsL_law := qL_14 (List.mem_of_getElem? (i := 3) rfl)
theorem q_14_4 : (Cond.fieldLink RX7 89 "ClaimJudgeModel" "readMany" "I") ∈ wsL_law := qL_14 (List.mem_of_getElem? (i := 4) rfl)
theorem q_14_5 : (Cond.methodLink RX7 112 yX7_reads) ∈ wsL_law := qL_14 (List.mem_of_getElem? (i := 5) rfl)
theorem q_14_6 : (Cond.instanceMethod yX7_reads) ∈ wsL_law := qL_14 (List.mem_of_getElem? (i := 6) rfl)
theorem q_14_7 : (Cond.selects RX7 yX7_reads yX7_reads) ∈ wsL_law := qL_14 (List.mem_of_getElem? (i := 7) rfl)
theorem q_14_8 : (Cond.code yX7_reads cX7_reads 2 (some .boolean)) ∈ wsL_law := qL_14 (List.mem_of_getElem? (i := 8) rfl)
theorem q_14_9 : (Cond.fieldLink RX7 77 "ClaimJudgeModel" "spot" "I") ∈ wsL_law := qL_14 (List.mem_of_getElem? (i := 9) rfl)
theorem q_14_10 : (Cond.fieldLink RX7 73 "ClaimJudgeModel" "isWrong" "Z") ∈ wsL_law := qL_14 (List.mem_of_getElem? (i := 10) rfl)
theorem q_14_11 : (Cond.fieldLink RX7 80 "ClaimJudgeModel" "length" "I") ∈ wsL_law := qL_14 (List.mem_of_getElem? (i := 11) rfl)
theorem q_14_12 : (Cond.methodLink RX7 109 yX7_readStatement) ∈ wsL_law := qL_14 (List.mem_of_getElem? (i := 12) rfl)
theorem q_14_13 : (Cond.instanceMethod yX7_readStatement) ∈ wsL_law := qL_14 (List.mem_of_getElem? (i := 13) rfl)
theorem q_14_14 : (Cond.selects RX7 yX7_readStatement yX7_readStatement) ∈ wsL_law := qL_14 (List.mem_of_getElem? (i := 14) rfl)
theorem q_14_15 : (Cond.code yX7_readStatement cX7_readStatement 4 none) ∈ wsL_law := qL_14 (List.mem_of_getElem? (i := 15) rfl)
theorem q_14_16 : (Cond.methodLink RX7 83 yX7_isNext) ∈ wsL_law := qL_14 (List.mem_of_getElem? (i := 16) rfl)
theorem q_14_17 : (Cond.instanceMethod yX7_isNext) ∈ wsL_law := qL_14 (List.mem_of_getElem? (i := 17) rfl)
theorem q_14_18 : (Cond.selects RX7 yX7_isNext yX7_isNext) ∈ wsL_law := qL_14 (List.mem_of_getElem? (i := 18) rfl)
theorem q_14_19 : (Cond.code yX7_isNext cX7_isNext 3 (some .boolean)) ∈ wsL_law := qL_14 (List.mem_of_getElem? (i := 19) rfl)
theorem q_14_20 : (Cond.methodLink RX7 33 yX7_in) ∈ wsL_law := qL_14 (List.mem_of_getElem? (i := 20) rfl)
theorem q_14_21 : (Cond.static yX7_in) ∈ wsL_law := qL_14 (List.mem_of_getElem? (i := 21) rfl)
theorem q_14_22 : (Cond.code yX7_in cX7_in 3 (some .boolean)) ∈ wsL_law := qL_14 (List.mem_of_getElem? (i := 22) rfl)
theorem q_14_23 : (Cond.methodLink RX7 100 yX7_readAssignment) ∈ wsL_law := qL_14 (List.mem_of_getElem? (i := 23) rfl)
theorem qL_15 {w : Cond} (h : w ∈ wsL_law0_r15) : w ∈ wsL_law := qL_app (List.mem_append_left _ (List.mem_append_left _ (List.mem_append_left _ (List.mem_append_left _ (List.mem_append_left _ (List.mem_append_left _ (List.mem_append_left _ (List.mem_append_left _ (List.mem_append_left _ (List.mem_append_right _ (List.mem_append_right _ (List.mem_append_right _ (List.mem_append_right _ (List.mem_append_right _ (List.mem_append_right _ (List.mem_append_right _ (List.mem_append_right _ (List.mem_append_right _ (List.mem_append_right _ (List.mem_append_right _ (List.mem_append_right _ (List.mem_append_right _ (List.mem_append_right _ (List.mem_append_left _ h))))))))))))))))))))))))
theorem q_15_0 : (Cond.instanceMethod yX7_readAssignment) ∈ wsL_law := qL_15 (List.mem_of_getElem? (i := 0) rfl)
theorem q_15_1 : (Cond.selects RX7 yX7_readAssignment yX7_readAssignment) ∈ wsL_law := qL_15 (List.mem_of_getElem? (i := 1) rfl)
theorem q_15_2 : (Cond.code yX7_readAssignment cX7_readAssignment 4 none) ∈ wsL_law := qL_15 (List.mem_of_getElem? (i := 2) rfl)
theorem q_15_3 : (Cond.methodLink RX7 92 yX7_puts) ∈ wsL_law := qL_15 (List.mem_of_getElem? (i := 3) rfl)
theorem q_15_4 : (Cond.instanceMethod yX7_puts) ∈ wsL_law := qL_15 (List.mem_of_getElem? (i := 4) rfl)
theorem q_15_5 : (Cond.selects RX7 yX7_puts yX7_puts) ∈ wsL_law := qL_15 (List.mem_of_getElem? (i := 5) rfl)
theorem q_15_6 : (Cond.code yX7_puts cX7_puts 3 none) ∈ wsL_law := qL_15 (List.mem_of_getElem? (i := 6) rfl)
theorem q_15_7 : (Cond.methodLink RX7 86 yX7_takes) ∈ wsL_law := qL_15 (List.mem_of_getElem? (i := 7) rfl)
theorem q_15_8 : (Cond.instanceMethod yX7_takes) ∈ wsL_law := qL_15 (List.mem_of_getElem? (i := 8) rfl)
theorem q_15_9 : (Cond.selects RX7 yX7_takes yX7_takes) ∈ wsL_law := qL_15 (List.mem_of_getElem? (i := 9) rfl)
theorem q_15_10 : (Cond.code yX7_takes cX7_takes 5 (some .int)) ∈ wsL_law := qL_15 (List.mem_of_getElem? (i := 10) rfl)
theorem q_15_11 : (Cond.methodLink RX7 96 yX7_readOperand) ∈ wsL_law := qL_15 (List.mem_of_getElem? (i := 11) rfl)
theorem q_15_12 : (Cond.instanceMethod yX7_readOperand) ∈ wsL_law := qL_15 (List.mem_of_getElem? (i := 12) rfl)
theorem q_15_13 : (Cond.selects RX7 yX7_readOperand yX7_readOperand) ∈ wsL_law := qL_15 (List.mem_of_getElem? (i := 13) rfl)
theorem q_15_14 : (Cond.code yX7_readOperand cX7_readOperand 1 (some .int)) ∈ wsL_law := qL_15 (List.mem_of_getElem? (i := 14) rfl)
theorem q_15_15 : (Cond.methodLink RX7 103 yX7_readTest) ∈ wsL_law := qL_15 (List.mem_of_getElem? (i := 15) rfl)
theorem q_15_16 : (Cond.instanceMethod yX7_readTest) ∈ wsL_law := qL_15 (List.mem_of_getElem? (i := 16) rfl)
theorem q_15_17 : (Cond.selects RX7 yX7_readTest yX7_readTest) ∈ wsL_law := qL_15 (List.mem_of_getElem? (i := 17) rfl)
theorem q_15_18 : (Cond.code yX7_readTest cX7_readTest 2 none) ∈ wsL_law := qL_15 (List.mem_of_getElem? (i := 18) rfl)
theorem q_15_19 : (Cond.methodLink RX7 116 yX7_holds) ∈ wsL_law := qL_15 (List.mem_of_getElem? (i := 19) rfl)
theorem q_15_20 : (Cond.instanceMethod yX7_holds) ∈ wsL_law := qL_15 (List.mem_of_getElem? (i := 20) rfl)
theorem q_15_21 : (Cond.selects RX7 yX7_holds yX7_holds) ∈ wsL_law := qL_15 (List.mem_of_getElem? (i := 21) rfl)
theorem q_15_22 : (Cond.code yX7_holds cX7_holds 2 (some .boolean)) ∈ wsL_law := qL_15 (List.mem_of_getElem? (i := 22) rfl)
theorem q_15_23 : (Cond.fieldLink RX7 29 "ClaimJudgeModel" "thrown" "I") ∈ wsL_law := qL_15 (List.mem_of_getElem? (i := 23) rfl)
theorem qL_16 {w : Cond} (h : w ∈ wsL_law0_r16) : w ∈ wsL_law := qL_app (List.mem_append_left _ (List.mem_append_left _ (List.mem_append_left _ (List.mem_append_left _ (List.mem_append_left _ (List.mem_append_left _ (List.mem_append_left _ (List.mem_append_left _ (List.mem_append_left _ (List.mem_append_right _ (List.mem_append_right _ (List.mem_append_right _ (List.mem_append_right _ (List.mem_append_right _ (List.mem_append_right _ (List.mem_append_right _ (List.mem_append_right _ (List.mem_append_right _ (List.mem_append_right _ (List.mem_append_right _ (List.mem_append_right _ (List.mem_append_right _ (List.mem_append_right _ (List.mem_append_right _ (List.mem_append_left _ h)))))))))))))))))))))))))
theorem q_16_0 : (Cond.methodLink RX7 119 yX7_save) ∈ wsL_law := qL_16 (List.mem_of_getElem? (i := 0) rfl)
theorem q_16_1 : (Cond.instanceMethod yX7_save) ∈ wsL_law := qL_16 (List.mem_of_getElem? (i := 1) rfl)
theorem q_16_2 : (Cond.selects RX7 yX7_save yX7_save) ∈ wsL_law := qL_16 (List.mem_of_getElem? (i := 2) rfl)
theorem q_16_3 : (Cond.code yX7_save cX7_save 2 none) ∈ wsL_law := qL_16 (List.mem_of_getElem? (i := 3) rfl)
theorem q_16_4 : (Cond.fieldLink RX7 37 "ClaimJudgeModel" "savedMany" "I") ∈ wsL_law := qL_16 (List.mem_of_getElem? (i := 4) rfl)
theorem q_16_5 : (Cond.methodLink RX7 122 yX7_places) ∈ wsL_law := qL_16 (List.mem_of_getElem? (i := 5) rfl)
theorem q_16_6 : (Cond.instanceMethod yX7_places) ∈ wsL_law := qL_16 (List.mem_of_getElem? (i := 6) rfl)
theorem q_16_7 : (Cond.selects RX7 yX7_places yX7_places) ∈ wsL_law := qL_16 (List.mem_of_getElem? (i := 7) rfl)
theorem q_16_8 : (Cond.code yX7_places cX7_places 3 (some .int)) ∈ wsL_law := qL_16 (List.mem_of_getElem? (i := 8) rfl)
theorem q_16_9 : (Cond.methodLink RL 81 yX7_thrown) ∈ wsL_law := qL_16 (List.mem_of_getElem? (i := 9) rfl)
theorem q_16_10 : (Cond.instanceMethod yX7_thrown) ∈ wsL_law := qL_16 (List.mem_of_getElem? (i := 10) rfl)
theorem q_16_11 : (Cond.selects RX7 yX7_thrown yX7_thrown) ∈ wsL_law := qL_16 (List.mem_of_getElem? (i := 11) rfl)
theorem q_16_12 : (Cond.code yX7_thrown cX7_thrown 1 (some .int)) ∈ wsL_law := qL_16 (List.mem_of_getElem? (i := 12) rfl)
theorem q_16_13 : (Cond.methodLink RL 84 yL_add) ∈ wsL_law := qL_16 (List.mem_of_getElem? (i := 13) rfl)
theorem q_16_14 : (Cond.static yL_add) ∈ wsL_law := qL_16 (List.mem_of_getElem? (i := 14) rfl)
theorem q_16_15 : (Cond.codeWith yL_add cL_add 3 (some .int) [(0, 8, 11, 13)]) ∈ wsL_law := qL_16 (List.mem_of_getElem? (i := 15) rfl)
theorem q_16_16 : (Cond.methodLink RL 15 yX6_add) ∈ wsL_law := qL_16 (List.mem_of_getElem? (i := 16) rfl)
theorem q_16_17 : (Cond.instanceMethod yX6_add) ∈ wsL_law := qL_16 (List.mem_of_getElem? (i := 17) rfl)
theorem q_16_18 : (Cond.selects RX6 yX6_add yX6_add) ∈ wsL_law := qL_16 (List.mem_of_getElem? (i := 18) rfl)
theorem q_16_19 : (Cond.code yX6_add cX6_add 2 (some .int)) ∈ wsL_law := qL_16 (List.mem_of_getElem? (i := 19) rfl)
theorem q_16_20 : (Cond.methodLink RX6 89 yX6_fitsBehind) ∈ wsL_law := qL_16 (List.mem_of_getElem? (i := 20) rfl)
theorem q_16_21 : (Cond.instanceMethod yX6_fitsBehind) ∈ wsL_law := qL_16 (List.mem_of_getElem? (i := 21) rfl)
theorem q_16_22 : (Cond.selects RX6 yX6_fitsBehind yX6_fitsBehind) ∈ wsL_law := qL_16 (List.mem_of_getElem? (i := 22) rfl)
theorem q_16_23 : (Cond.code yX6_fitsBehind cX6_fitsBehind 3 (some .boolean)) ∈ wsL_law := qL_16 (List.mem_of_getElem? (i := 23) rfl)
theorem qL_17 {w : Cond} (h : w ∈ wsL_law0_r17) : w ∈ wsL_law := qL_app (List.mem_append_left _ (List.mem_append_left _ (List.mem_append_left _ (List.mem_append_left _ (List.mem_append_left _ (List.mem_append_left _ (List.mem_append_left _ (List.mem_append_left _ (List.mem_append_left _ (List.mem_append_right _ (List.mem_append_right _ (List.mem_append_right _ (List.mem_append_right _ (List.mem_append_right _ (List.mem_append_right _ (List.mem_append_right _ (List.mem_append_right _ (List.mem_append_right _ (List.mem_append_right _ (List.mem_append_right _ (List.mem_append_right _ (List.mem_append_right _ (List.mem_append_right _ (List.mem_append_right _ (List.mem_append_right _ (List.mem_append_left _ h))))))))))))))))))))))))))
theorem q_17_0 : (Cond.methodLink RX6 95 yX3_putAll) ∈ wsL_law := qL_17 (List.mem_of_getElem? (i := 0) rfl)
theorem q_17_1 : (Cond.methodLink RL 86 yX7_add) ∈ wsL_law := qL_17 (List.mem_of_getElem? (i := 1) rfl)
theorem q_17_2 : (Cond.instanceMethod yX7_add) ∈ wsL_law := qL_17 (List.mem_of_getElem? (i := 2) rfl)
theorem q_17_3 : (Cond.selects RX7 yX7_add yX7_add) ∈ wsL_law := qL_17 (List.mem_of_getElem? (i := 3) rfl)
theorem q_17_4 : (Cond.code yX7_add cX7_add 2 (some .int)) ∈ wsL_law := qL_17 (List.mem_of_getElem? (i := 4) rfl)
theorem q_17_5 : (Cond.methodLink RL 87 yL_removeLast) ∈ wsL_law := qL_17 (List.mem_of_getElem? (i := 5) rfl)
theorem q_17_6 : (Cond.static yL_removeLast) ∈ wsL_law := qL_17 (List.mem_of_getElem? (i := 6) rfl)
theorem q_17_7 : (Cond.codeWith yL_removeLast cL_removeLast 3 (some .int) [(0, 8, 11, 21)]) ∈ wsL_law := qL_17 (List.mem_of_getElem? (i := 7) rfl)
theorem q_17_8 : (Cond.classLink RL 21 "java/lang/IllegalStateException") ∈ wsL_law := qL_17 (List.mem_of_getElem? (i := 8) rfl)
theorem q_17_9 : (Cond.methodLink RL 18 yX6_removeLast) ∈ wsL_law := qL_17 (List.mem_of_getElem? (i := 9) rfl)
theorem q_17_10 : (Cond.instanceMethod yX6_removeLast) ∈ wsL_law := qL_17 (List.mem_of_getElem? (i := 10) rfl)
theorem q_17_11 : (Cond.selects RX6 yX6_removeLast yX6_removeLast) ∈ wsL_law := qL_17 (List.mem_of_getElem? (i := 11) rfl)
theorem q_17_12 : (Cond.code yX6_removeLast cX6_removeLast 1 (some .int)) ∈ wsL_law := qL_17 (List.mem_of_getElem? (i := 12) rfl)
theorem q_17_13 : (Cond.classLink RX6 98 "java/lang/IllegalStateException") ∈ wsL_law := qL_17 (List.mem_of_getElem? (i := 13) rfl)
theorem q_17_14 : (Cond.initialized "java/lang/IllegalStateException") ∈ wsL_law := qL_17 (List.mem_of_getElem? (i := 14) rfl)
theorem q_17_15 : (Cond.methodLink RX6 103 yX3_dropLast) ∈ wsL_law := qL_17 (List.mem_of_getElem? (i := 15) rfl)
theorem q_17_16 : (Cond.instanceMethod yX3_dropLast) ∈ wsL_law := qL_17 (List.mem_of_getElem? (i := 16) rfl)
theorem q_17_17 : (Cond.selects RX3 yX3_dropLast yX3_dropLast) ∈ wsL_law := qL_17 (List.mem_of_getElem? (i := 17) rfl)
theorem q_17_18 : (Cond.code yX3_dropLast cX3_dropLast 3 none) ∈ wsL_law := qL_17 (List.mem_of_getElem? (i := 18) rfl)
theorem q_17_19 : (Cond.methodLink RL 89 yX7_removeLast) ∈ wsL_law := qL_17 (List.mem_of_getElem? (i := 19) rfl)
theorem q_17_20 : (Cond.instanceMethod yX7_removeLast) ∈ wsL_law := qL_17 (List.mem_of_getElem? (i := 20) rfl)
theorem q_17_21 : (Cond.selects RX7 yX7_removeLast yX7_removeLast) ∈ wsL_law := qL_17 (List.mem_of_getElem? (i := 21) rfl)
theorem q_17_22 : (Cond.code yX7_removeLast cX7_removeLast 3 (some .int)) ∈ wsL_law := qL_17 (List.mem_of_getElem? (i := 22) rfl)
theorem q_17_23 : (Cond.methodLink RX7 44 yX7_of) ∈ wsL_law := qL_17 (List.mem_of_getElem? (i := 23) rfl)
theorem qL_18 {w : Cond} (h : w ∈ wsL_law0_r18) : w ∈ wsL_law := qL_app (List.mem_append_left _ (List.mem_append_left _ (List.mem_append_left _ (List.mem_append_left _ (List.mem_append_left _ (List.mem_append_left _ (List.mem_append_left _ (List.mem_append_left _ (List.mem_append_left _ (List.mem_append_right _ (List.mem_append_right _ (List.mem_append_right _ (List.mem_append_right _ (List.mem_append_right _ (List.mem_append_right _ (List.mem_append_right _ (List.mem_append_right _ (List.mem_append_right _ (List.mem_append_right _ (List.mem_append_right _ (List.mem_append_right _ (List.mem_append_right _ (List.mem_append_right _ (List.mem_append_right _ (List.mem_append_right _ (List.mem_append_right _ (List.mem_append_left _ h)))))))))))))))))))))))))))
theorem q_18_0 : (Cond.static yX7_of) ∈ wsL_law := qL_18 (List.mem_of_getElem? (i := 0) rfl)
theorem q_18_1 : (Cond.code yX7_of cX7_of 2 (some .int)) ∈ wsL_law := qL_18 (List.mem_of_getElem? (i := 1) rfl)
theorem q_18_2 : (Cond.methodLink RL 90 yX6_statements) ∈ wsL_law := qL_18 (List.mem_of_getElem? (i := 2) rfl)
theorem q_18_3 : (Cond.instanceMethod yX6_statements) ∈ wsL_law := qL_18 (List.mem_of_getElem? (i := 3) rfl)
theorem q_18_4 : (Cond.selects RX6 yX6_statements yX6_statements) ∈ wsL_law := qL_18 (List.mem_of_getElem? (i := 4) rfl)
theorem q_18_5 : (Cond.code yX6_statements cX6_statements 1 (some .int)) ∈ wsL_law := qL_18 (List.mem_of_getElem? (i := 5) rfl)
theorem q_18_6 : (Cond.methodLink RL 93 yX7_statements) ∈ wsL_law := qL_18 (List.mem_of_getElem? (i := 6) rfl)
theorem q_18_7 : (Cond.instanceMethod yX7_statements) ∈ wsL_law := qL_18 (List.mem_of_getElem? (i := 7) rfl)
theorem q_18_8 : (Cond.selects RX7 yX7_statements yX7_statements) ∈ wsL_law := qL_18 (List.mem_of_getElem? (i := 8) rfl)
theorem q_18_9 : (Cond.code yX7_statements cX7_statements 1 (some .int)) ∈ wsL_law := qL_18 (List.mem_of_getElem? (i := 9) rfl)
theorem q_18_10 : (Cond.methodLink RL 94 yL_kind) ∈ wsL_law := qL_18 (List.mem_of_getElem? (i := 10) rfl)
theorem q_18_11 : (Cond.static yL_kind) ∈ wsL_law := qL_18 (List.mem_of_getElem? (i := 11) rfl)
theorem q_18_12 : (Cond.codeWith yL_kind cL_kind 4 (some .int) [(0, 9, 12, 27)]) ∈ wsL_law := qL_18 (List.mem_of_getElem? (i := 12) rfl)
theorem q_18_13 : (Cond.classLink RL 27 "java/lang/IndexOutOfBoundsException") ∈ wsL_law := qL_18 (List.mem_of_getElem? (i := 13) rfl)
theorem q_18_14 : (Cond.methodLink RL 23 yX6_kind) ∈ wsL_law := qL_18 (List.mem_of_getElem? (i := 14) rfl)
theorem q_18_15 : (Cond.instanceMethod yX6_kind) ∈ wsL_law := qL_18 (List.mem_of_getElem? (i := 15) rfl)
theorem q_18_16 : (Cond.selects RX6 yX6_kind yX6_kind) ∈ wsL_law := qL_18 (List.mem_of_getElem? (i := 16) rfl)
theorem q_18_17 : (Cond.code yX6_kind cX6_kind 2 (some .int)) ∈ wsL_law := qL_18 (List.mem_of_getElem? (i := 17) rfl)
theorem q_18_18 : (Cond.methodLink RX6 106 yX6_checkIndex) ∈ wsL_law := qL_18 (List.mem_of_getElem? (i := 18) rfl)
theorem q_18_19 : (Cond.static yX6_checkIndex) ∈ wsL_law := qL_18 (List.mem_of_getElem? (i := 19) rfl)
theorem q_18_20 : (Cond.code yX6_checkIndex cX6_checkIndex 2 none) ∈ wsL_law := qL_18 (List.mem_of_getElem? (i := 20) rfl)
theorem q_18_21 : (Cond.classLink RX6 254 "java/lang/IndexOutOfBoundsException") ∈ wsL_law := qL_18 (List.mem_of_getElem? (i := 21) rfl)
theorem q_18_22 : (Cond.initialized "java/lang/IndexOutOfBoundsException") ∈ wsL_law := qL_18 (List.mem_of_getElem? (i := 22) rfl)
theorem q_18_23 : (Cond.methodLink RL 97 yX7_kind) ∈ wsL_law := qL_18 (List.mem_of_getElem? (i := 23) rfl)
theorem qL_19 {w : Cond} (h : w ∈ wsL_law0_r19) : w ∈ wsL_law := qL_app (List.mem_append_left _ (List.mem_append_left _ (List.mem_append_left _ (List.mem_append_left _ (List.mem_append_left _ (List.mem_append_left _ (List.mem_append_left _ (List.mem_append_left _ (List.mem_append_left _ (List.mem_append_right _ (List.mem_append_right _ (List.mem_append_right _ (List.mem_append_right _ (List.mem_append_right _ (List.mem_append_right _ (List.mem_append_right _ (List.mem_append_right _ (List.mem_append_right _ (List.mem_append_right _ (List.mem_append_right _ (List.mem_append_right _ (List.mem_append_right _ (List.mem_append_right _ (List.mem_append_right _ (List.mem_append_right _ (List.mem_append_right _ (List.mem_append_right _ (List.mem_append_left _ h))))))))))))))))))))))))))))
theorem q_19_0 : (Cond.instanceMethod yX7_kind) ∈ wsL_law := qL_19 (List.mem_of_getElem? (i := 0) rfl)
theorem q_19_1 : (Cond.selects RX7 yX7_kind yX7_kind) ∈ wsL_law := qL_19 (List.mem_of_getElem? (i := 1) rfl)
theorem q_19_2 : (Cond.code yX7_kind cX7_kind 2 (some .int)) ∈ wsL_law := qL_19 (List.mem_of_getElem? (i := 2) rfl)
theorem q_19_3 : (Cond.methodLink RX7 125 yX7_isStatement) ∈ wsL_law := qL_19 (List.mem_of_getElem? (i := 3) rfl)
theorem q_19_4 : (Cond.instanceMethod yX7_isStatement) ∈ wsL_law := qL_19 (List.mem_of_getElem? (i := 4) rfl)
theorem q_19_5 : (Cond.selects RX7 yX7_isStatement yX7_isStatement) ∈ wsL_law := qL_19 (List.mem_of_getElem? (i := 5) rfl)
theorem q_19_6 : (Cond.code yX7_isStatement cX7_isStatement 2 (some .boolean)) ∈ wsL_law := qL_19 (List.mem_of_getElem? (i := 6) rfl)
theorem q_19_7 : (Cond.methodLink RL 98 yL_target) ∈ wsL_law := qL_19 (List.mem_of_getElem? (i := 7) rfl)
theorem q_19_8 : (Cond.static yL_target) ∈ wsL_law := qL_19 (List.mem_of_getElem? (i := 8) rfl)
theorem q_19_9 : (Cond.codeWith yL_target cL_target 4 (some .int) [(0, 9, 12, 27)]) ∈ wsL_law := qL_19 (List.mem_of_getElem? (i := 9) rfl)
theorem q_19_10 : (Cond.methodLink RL 29 yX6_target) ∈ wsL_law := qL_19 (List.mem_of_getElem? (i := 10) rfl)
theorem q_19_11 : (Cond.instanceMethod yX6_target) ∈ wsL_law := qL_19 (List.mem_of_getElem? (i := 11) rfl)
theorem q_19_12 : (Cond.selects RX6 yX6_target yX6_target) ∈ wsL_law := qL_19 (List.mem_of_getElem? (i := 12) rfl)
theorem q_19_13 : (Cond.code yX6_target cX6_target 2 (some .int)) ∈ wsL_law := qL_19 (List.mem_of_getElem? (i := 13) rfl)
theorem q_19_14 : (Cond.methodLink RL 100 yX7_target) ∈ wsL_law := qL_19 (List.mem_of_getElem? (i := 14) rfl)
theorem q_19_15 : (Cond.instanceMethod yX7_target) ∈ wsL_law := qL_19 (List.mem_of_getElem? (i := 15) rfl)
theorem q_19_16 : (Cond.selects RX7 yX7_target yX7_target) ∈ wsL_law := qL_19 (List.mem_of_getElem? (i := 16) rfl)
theorem q_19_17 : (Cond.code yX7_target cX7_target 2 (some .int)) ∈ wsL_law := qL_19 (List.mem_of_getElem? (i := 17) rfl)
theorem q_19_18 : (Cond.methodLink RX7 128 yX7_targetOf) ∈ wsL_law := qL_19 (List.mem_of_getElem? (i := 18) rfl)
theorem q_19_19 : (Cond.instanceMethod yX7_targetOf) ∈ wsL_law := qL_19 (List.mem_of_getElem? (i := 19) rfl)
theorem q_19_20 : (Cond.selects RX7 yX7_targetOf yX7_targetOf) ∈ wsL_law := qL_19 (List.mem_of_getElem? (i := 20) rfl)
theorem q_19_21 : (Cond.code yX7_targetOf cX7_targetOf 2 (some .int)) ∈ wsL_law := qL_19 (List.mem_of_getElem? (i := 21) rfl)
theorem q_19_22 : (Cond.methodLink RL 101 yL_run) ∈ wsL_law := qL_19 (List.mem_of_getElem? (i := 22) rfl)
theorem q_19_23 : (Cond.static yL_run) ∈ wsL_law := qL_19 (List.mem_of_getElem? (i := 23) rfl)
theorem qL_20 {w : Cond} (h : w ∈ wsL_law0_r20) : w ∈ wsL_law := qL_app (List.mem_append_left _ (List.mem_append_left _ (List.mem_append_left _ (List.mem_append_left _ (List.mem_append_left _ (List.mem_append_left _ (List.mem_append_left _ (List.mem_append_left _ (List.mem_append_left _ (List.mem_append_right _ (List.mem_append_right _ (List.mem_append_right _ (List.mem_append_right _ (List.mem_append_right _ (List.mem_append_right _ (List.mem_append_right _ (List.mem_append_right _ (List.mem_append_right _ (List.mem_append_right _ (List.mem_append_right _ (List.mem_append_right _ (List.mem_append_right _ (List.mem_append_right _ (List.mem_append_right _ (List.mem_append_right _ (List.mem_append_right _ (List.mem_append_right _ (List.mem_append_right _ (List.mem_append_left _ h)))))))))))))))))))))))))))))
theorem q_20_0 : (Cond.codeWith yL_run cL_run 6 (some .int) [(0, 12, 15, 13)]) ∈ wsL_law := qL_20 (List.mem_of_getElem? (i := 0) rfl)
theorem q_20_1 : (Cond.methodLink RL 32 yX6_run) ∈ wsL_law := qL_20 (List.mem_of_getElem? (i := 1) rfl)
theorem q_20_2 : (Cond.instanceMethod yX6_run) ∈ wsL_law := qL_20 (List.mem_of_getElem? (i := 2) rfl)
theorem q_20_3 : (Cond.selects RX6 yX6_run yX6_run) ∈ wsL_law := qL_20 (List.mem_of_getElem? (i := 3) rfl)
theorem q_20_4 : (Cond.code yX6_run cX6_run 4 (some .int)) ∈ wsL_law := qL_20 (List.mem_of_getElem? (i := 4) rfl)
theorem q_20_5 : (Cond.methodLink RX6 117 yX6_checkValues) ∈ wsL_law := qL_20 (List.mem_of_getElem? (i := 5) rfl)
theorem q_20_6 : (Cond.static yX6_checkValues) ∈ wsL_law := qL_20 (List.mem_of_getElem? (i := 6) rfl)
theorem q_20_7 : (Cond.code yX6_checkValues cX6_checkValues 3 none) ∈ wsL_law := qL_20 (List.mem_of_getElem? (i := 7) rfl)
theorem q_20_8 : (Cond.methodLink RX6 140 yX6_isValue) ∈ wsL_law := qL_20 (List.mem_of_getElem? (i := 8) rfl)
theorem q_20_9 : (Cond.static yX6_isValue) ∈ wsL_law := qL_20 (List.mem_of_getElem? (i := 9) rfl)
theorem q_20_10 : (Cond.code yX6_isValue cX6_isValue 1 (some .boolean)) ∈ wsL_law := qL_20 (List.mem_of_getElem? (i := 10) rfl)
theorem q_20_11 : (Cond.methodLink RX6 121 yX6_tripleOf) ∈ wsL_law := qL_20 (List.mem_of_getElem? (i := 11) rfl)
theorem q_20_12 : (Cond.static yX6_tripleOf) ∈ wsL_law := qL_20 (List.mem_of_getElem? (i := 12) rfl)
theorem q_20_13 : (Cond.code yX6_tripleOf cX6_tripleOf 3 (some .int)) ∈ wsL_law := qL_20 (List.mem_of_getElem? (i := 13) rfl)
theorem q_20_14 : (Cond.methodLink RX6 125 yX4_endFrom) ∈ wsL_law := qL_20 (List.mem_of_getElem? (i := 14) rfl)
theorem q_20_15 : (Cond.instanceMethod yX4_endFrom) ∈ wsL_law := qL_20 (List.mem_of_getElem? (i := 15) rfl)
theorem q_20_16 : (Cond.selects RX4 yX4_endFrom yX4_endFrom) ∈ wsL_law := qL_20 (List.mem_of_getElem? (i := 16) rfl)
theorem q_20_17 : (Cond.code yX4_endFrom cX4_endFrom 5 (some .int)) ∈ wsL_law := qL_20 (List.mem_of_getElem? (i := 17) rfl)
theorem q_20_18 : (Cond.methodLink RX4 27 yJ7_fill_53178) ∈ wsL_law := qL_20 (List.mem_of_getElem? (i := 18) rfl)
theorem q_20_19 : (Cond.static yJ7_fill_53178) ∈ wsL_law := qL_20 (List.mem_of_getElem? (i := 19) rfl)
theorem q_20_20 : (Cond.initialized RJ7) ∈ wsL_law := qL_20 (List.mem_of_getElem? (i := 20) rfl)
theorem q_20_21 : (Cond.code yJ7_fill_53178 cJ7_fill_53178 4 none) ∈ wsL_law := qL_20 (List.mem_of_getElem? (i := 21) rfl)
theorem q_20_22 : (Cond.methodLink RX4 33 yX3_placeAfter) ∈ wsL_law := qL_20 (List.mem_of_getElem? (i := 22) rfl)
theorem q_20_23 : (Cond.instanceMethod yX3_placeAfter) ∈ wsL_law := qL_20 (List.mem_of_getElem? (i := 23) rfl)
theorem qL_21 {w : Cond} (h : w ∈ wsL_law0_r21) : w ∈ wsL_law := qL_app (List.mem_append_left _ (List.mem_append_left _ (List.mem_append_left _ (List.mem_append_left _ (List.mem_append_left _ (List.mem_append_left _ (List.mem_append_left _ (List.mem_append_left _ (List.mem_append_left _ (List.mem_append_right _ (List.mem_append_right _ (List.mem_append_right _ (List.mem_append_right _ (List.mem_append_right _ (List.mem_append_right _ (List.mem_append_right _ (List.mem_append_right _ (List.mem_append_right _ (List.mem_append_right _ (List.mem_append_right _ (List.mem_append_right _ (List.mem_append_right _ (List.mem_append_right _ (List.mem_append_right _ (List.mem_append_right _ (List.mem_append_right _ (List.mem_append_right _ (List.mem_append_right _ (List.mem_append_right _ (List.mem_append_left _ h))))))))))))))))))))))))))))))
theorem q_21_0 : (Cond.selects RX3 yX3_placeAfter yX3_placeAfter) ∈ wsL_law := qL_21 (List.mem_of_getElem? (i := 0) rfl)
theorem q_21_1 : (Cond.code yX3_placeAfter cX3_placeAfter 7 (some .int)) ∈ wsL_law := qL_21 (List.mem_of_getElem? (i := 1) rfl)
theorem q_21_2 : (Cond.static yX6_statementAt) ∈ wsL_law := qL_21 (List.mem_of_getElem? (i := 2) rfl)
theorem q_21_3 : (Cond.code yX6_statementAt cX6_statementAt 1 (some .int)) ∈ wsL_law := qL_21 (List.mem_of_getElem? (i := 3) rfl)
theorem q_21_4 : (Cond.static yX6_tripleAt) ∈ wsL_law := qL_21 (List.mem_of_getElem? (i := 4) rfl)
theorem q_21_5 : (Cond.code yX6_tripleAt cX6_tripleAt 1 (some .int)) ∈ wsL_law := qL_21 (List.mem_of_getElem? (i := 5) rfl)
theorem q_21_6 : (Cond.static yX6_valueOf) ∈ wsL_law := qL_21 (List.mem_of_getElem? (i := 6) rfl)
theorem q_21_7 : (Cond.code yX6_valueOf cX6_valueOf 2 (some .int)) ∈ wsL_law := qL_21 (List.mem_of_getElem? (i := 7) rfl)
theorem q_21_8 : (Cond.static yX6_withValue) ∈ wsL_law := qL_21 (List.mem_of_getElem? (i := 8) rfl)
theorem q_21_9 : (Cond.code yX6_withValue cX6_withValue 4 (some .int)) ∈ wsL_law := qL_21 (List.mem_of_getElem? (i := 9) rfl)
theorem q_21_10 : (Cond.static yX6_placeOf) ∈ wsL_law := qL_21 (List.mem_of_getElem? (i := 10) rfl)
theorem q_21_11 : (Cond.code yX6_placeOf cX6_placeOf 2 (some .int)) ∈ wsL_law := qL_21 (List.mem_of_getElem? (i := 11) rfl)
theorem q_21_12 : (Cond.methodLink RX3 68 yX3_compares) ∈ wsL_law := qL_21 (List.mem_of_getElem? (i := 12) rfl)
theorem q_21_13 : (Cond.static yX3_compares) ∈ wsL_law := qL_21 (List.mem_of_getElem? (i := 13) rfl)
theorem q_21_14 : (Cond.code yX3_compares cX3_compares 3 (some .boolean)) ∈ wsL_law := qL_21 (List.mem_of_getElem? (i := 14) rfl)
theorem q_21_15 : (Cond.methodLink RX4 38 yX4_endAt) ∈ wsL_law := qL_21 (List.mem_of_getElem? (i := 15) rfl)
theorem q_21_16 : (Cond.instanceMethod yX4_endAt) ∈ wsL_law := qL_21 (List.mem_of_getElem? (i := 16) rfl)
theorem q_21_17 : (Cond.selects RX4 yX4_endAt yX4_endAt) ∈ wsL_law := qL_21 (List.mem_of_getElem? (i := 17) rfl)
theorem q_21_18 : (Cond.code yX4_endAt cX4_endAt 2 (some .int)) ∈ wsL_law := qL_21 (List.mem_of_getElem? (i := 18) rfl)
theorem q_21_19 : (Cond.methodLink RX4 45 yX3_isEnd) ∈ wsL_law := qL_21 (List.mem_of_getElem? (i := 19) rfl)
theorem q_21_20 : (Cond.instanceMethod yX3_isEnd) ∈ wsL_law := qL_21 (List.mem_of_getElem? (i := 20) rfl)
theorem q_21_21 : (Cond.selects RX3 yX3_isEnd yX3_isEnd) ∈ wsL_law := qL_21 (List.mem_of_getElem? (i := 21) rfl)
theorem q_21_22 : (Cond.code yX3_isEnd cX3_isEnd 2 (some .boolean)) ∈ wsL_law := qL_21 (List.mem_of_getElem? (i := 22) rfl)
theorem q_21_23 : (Cond.methodLink RX4 41 yX4_settle) ∈ wsL_law := qL_21 (List.mem_of_getElem? (i := 23) rfl)
theorem qL_22 {w : Cond} (h : w ∈ wsL_law0_r22) : w ∈ wsL_law := qL_app (List.mem_append_left _ (List.mem_append_left _ (List.mem_append_left _ (List.mem_append_left _ (List.mem_append_left _ (List.mem_append_left _ (List.mem_append_left _ (List.mem_append_left _ (List.mem_append_left _ (List.mem_append_right _ (List.mem_append_right _ (List.mem_append_right _ (List.mem_append_right _ (List.mem_append_right _ (List.mem_append_right _ (List.mem_append_right _ (List.mem_append_right _ (List.mem_append_right _ (List.mem_append_right _ (List.mem_append_right _ (List.mem_append_right _ (List.mem_append_right _ (List.mem_append_right _ (List.mem_append_right _ (List.mem_append_right _ (List.mem_append_right _ (List.mem_append_right _ (List.mem_append_right _ (List.mem_append_right _ (List.mem_append_right _ (List.mem_append_left _ h)))))))))))))))))))))))))))))))
theorem q_22_0 : (Cond.instanceMethod yX4_settle) ∈ wsL_law := qL_22 (List.mem_of_getElem? (i := 0) rfl)
theorem q_22_1 : (Cond.selects RX4 yX4_settle yX4_settle) ∈ wsL_law := qL_22 (List.mem_of_getElem? (i := 1) rfl)
theorem q_22_2 : (Cond.code yX4_settle cX4_settle 5 none) ∈ wsL_law := qL_22 (List.mem_of_getElem? (i := 2) rfl)
theorem q_22_3 : (Cond.methodLink RL 104 yX7_run) ∈ wsL_law := qL_22 (List.mem_of_getElem? (i := 3) rfl)
theorem q_22_4 : (Cond.instanceMethod yX7_run) ∈ wsL_law := qL_22 (List.mem_of_getElem? (i := 4) rfl)
theorem q_22_5 : (Cond.selects RX7 yX7_run yX7_run) ∈ wsL_law := qL_22 (List.mem_of_getElem? (i := 5) rfl)
theorem q_22_6 : (Cond.code yX7_run cX7_run 4 (some .int)) ∈ wsL_law := qL_22 (List.mem_of_getElem? (i := 6) rfl)
theorem q_22_7 : (Cond.methodLink RX7 131 yX7_areValues) ∈ wsL_law := qL_22 (List.mem_of_getElem? (i := 7) rfl)
theorem q_22_8 : (Cond.static yX7_areValues) ∈ wsL_law := qL_22 (List.mem_of_getElem? (i := 8) rfl)
theorem q_22_9 : (Cond.code yX7_areValues cX7_areValues 3 (some .boolean)) ∈ wsL_law := qL_22 (List.mem_of_getElem? (i := 9) rfl)
theorem q_22_10 : (Cond.methodLink RX7 134 yX7_worksOut) ∈ wsL_law := qL_22 (List.mem_of_getElem? (i := 10) rfl)
theorem q_22_11 : (Cond.instanceMethod yX7_worksOut) ∈ wsL_law := qL_22 (List.mem_of_getElem? (i := 11) rfl)
theorem q_22_12 : (Cond.selects RX7 yX7_worksOut yX7_worksOut) ∈ wsL_law := qL_22 (List.mem_of_getElem? (i := 12) rfl)
theorem q_22_13 : (Cond.code yX7_worksOut cX7_worksOut 2 none) ∈ wsL_law := qL_22 (List.mem_of_getElem? (i := 13) rfl)
theorem q_22_14 : (Cond.methodLink RX7 58 yX7_isEnd) ∈ wsL_law := qL_22 (List.mem_of_getElem? (i := 14) rfl)
theorem q_22_15 : (Cond.instanceMethod yX7_isEnd) ∈ wsL_law := qL_22 (List.mem_of_getElem? (i := 15) rfl)
theorem q_22_16 : (Cond.selects RX7 yX7_isEnd yX7_isEnd) ∈ wsL_law := qL_22 (List.mem_of_getElem? (i := 16) rfl)
theorem q_22_17 : (Cond.code yX7_isEnd cX7_isEnd 2 (some .boolean)) ∈ wsL_law := qL_22 (List.mem_of_getElem? (i := 17) rfl)
theorem q_22_18 : (Cond.methodLink RX7 66 yX7_follows) ∈ wsL_law := qL_22 (List.mem_of_getElem? (i := 18) rfl)
theorem q_22_19 : (Cond.instanceMethod yX7_follows) ∈ wsL_law := qL_22 (List.mem_of_getElem? (i := 19) rfl)
theorem q_22_20 : (Cond.selects RX7 yX7_follows yX7_follows) ∈ wsL_law := qL_22 (List.mem_of_getElem? (i := 20) rfl)
theorem q_22_21 : (Cond.code yX7_follows cX7_follows 5 none) ∈ wsL_law := qL_22 (List.mem_of_getElem? (i := 21) rfl)
theorem q_22_22 : (Cond.methodLink RX7 62 yX7_goesTo) ∈ wsL_law := qL_22 (List.mem_of_getElem? (i := 22) rfl)
theorem q_22_23 : (Cond.instanceMethod yX7_goesTo) ∈ wsL_law := qL_22 (List.mem_of_getElem? (i := 23) rfl)
theorem qL_23 {w : Cond} (h : w ∈ wsL_law0_r23) : w ∈ wsL_law := qL_app (List.mem_append_left _ (List.mem_append_left _ (List.mem_append_left _ (List.mem_append_left _ (List.mem_append_left _ (List.mem_append_left _ (List.mem_append_left _ (List.mem_append_left _ (List.mem_append_left _ (List.mem_append_right _ (List.mem_append_right _ (List.mem_append_right _ (List.mem_append_right _ (List.mem_append_right _ (List.mem_append_right _ (List.mem_append_right _ (List.mem_append_right _ (List.mem_append_right _ (List.mem_append_right _ (List.mem_append_right _ (List.mem_append_right _ (List.mem_append_right _ (List.mem_append_right _ (List.mem_append_right _ (List.mem_append_right _ (List.mem_append_right _ (List.mem_append_right _ (List.mem_append_right _ (List.mem_append_right _ (List.mem_append_right _ (List.mem_append_right _ (List.mem_append_left _ h))))))))))))))))))))))))))))))))
theorem q_23_0 : (Cond.selects RX7 yX7_goesTo yX7_goesTo) ∈ wsL_law := qL_23 (List.mem_of_getElem? (i := 0) rfl)
theorem q_23_1 : (Cond.code yX7_goesTo cX7_goesTo 6 (some .int)) ∈ wsL_law := qL_23 (List.mem_of_getElem? (i := 1) rfl)
theorem q_23_2 : (Cond.methodLink RX7 47 yX7_operand) ∈ wsL_law := qL_23 (List.mem_of_getElem? (i := 2) rfl)
theorem q_23_3 : (Cond.instanceMethod yX7_operand) ∈ wsL_law := qL_23 (List.mem_of_getElem? (i := 3) rfl)
theorem q_23_4 : (Cond.selects RX7 yX7_operand yX7_operand) ∈ wsL_law := qL_23 (List.mem_of_getElem? (i := 4) rfl)
theorem q_23_5 : (Cond.code yX7_operand cX7_operand 4 (some .int)) ∈ wsL_law := qL_23 (List.mem_of_getElem? (i := 5) rfl)
theorem q_23_6 : (Cond.methodLink RX7 40 yX7_valueOf) ∈ wsL_law := qL_23 (List.mem_of_getElem? (i := 6) rfl)
theorem q_23_7 : (Cond.static yX7_valueOf) ∈ wsL_law := qL_23 (List.mem_of_getElem? (i := 7) rfl)
theorem q_23_8 : (Cond.code yX7_valueOf cX7_valueOf 2 (some .int)) ∈ wsL_law := qL_23 (List.mem_of_getElem? (i := 8) rfl)
theorem q_23_9 : (Cond.methodLink RX7 50 yX7_withValue) ∈ wsL_law := qL_23 (List.mem_of_getElem? (i := 9) rfl)
theorem q_23_10 : (Cond.static yX7_withValue) ∈ wsL_law := qL_23 (List.mem_of_getElem? (i := 10) rfl)
theorem q_23_11 : (Cond.code yX7_withValue cX7_withValue 4 (some .int)) ∈ wsL_law := qL_23 (List.mem_of_getElem? (i := 11) rfl)
theorem q_23_12 : (Cond.methodLink RX7 54 yX7_isTrue) ∈ wsL_law := qL_23 (List.mem_of_getElem? (i := 12) rfl)
theorem q_23_13 : (Cond.instanceMethod yX7_isTrue) ∈ wsL_law := qL_23 (List.mem_of_getElem? (i := 13) rfl)
theorem q_23_14 : (Cond.selects RX7 yX7_isTrue yX7_isTrue) ∈ wsL_law := qL_23 (List.mem_of_getElem? (i := 14) rfl)
theorem q_23_15 : (Cond.code yX7_isTrue cX7_isTrue 5 (some .boolean)) ∈ wsL_law := qL_23 (List.mem_of_getElem? (i := 15) rfl)
theorem q_23_16 : (Cond.methodLink RX7 137 yX7_triple) ∈ wsL_law := qL_23 (List.mem_of_getElem? (i := 16) rfl)
theorem q_23_17 : (Cond.static yX7_triple) ∈ wsL_law := qL_23 (List.mem_of_getElem? (i := 17) rfl)
theorem q_23_18 : (Cond.code yX7_triple cX7_triple 3 (some .int)) ∈ wsL_law := qL_23 (List.mem_of_getElem? (i := 18) rfl)
theorem q_23_19 : (Cond.methodLink RL 105 yL_steps) ∈ wsL_law := qL_23 (List.mem_of_getElem? (i := 19) rfl)
theorem q_23_20 : (Cond.static yL_steps) ∈ wsL_law := qL_23 (List.mem_of_getElem? (i := 20) rfl)
theorem q_23_21 : (Cond.codeWith yL_steps cL_steps 6 (some .int) [(0, 12, 15, 13)]) ∈ wsL_law := qL_23 (List.mem_of_getElem? (i := 21) rfl)
theorem q_23_22 : (Cond.methodLink RL 36 yX6_steps) ∈ wsL_law := qL_23 (List.mem_of_getElem? (i := 22) rfl)
theorem q_23_23 : (Cond.instanceMethod yX6_steps) ∈ wsL_law := qL_23 (List.mem_of_getElem? (i := 23) rfl)
theorem qL_24 {w : Cond} (h : w ∈ wsL_law0_r24) : w ∈ wsL_law := qL_app (List.mem_append_left _ (List.mem_append_left _ (List.mem_append_left _ (List.mem_append_left _ (List.mem_append_left _ (List.mem_append_left _ (List.mem_append_left _ (List.mem_append_left _ (List.mem_append_left _ (List.mem_append_right _ (List.mem_append_right _ (List.mem_append_right _ (List.mem_append_right _ (List.mem_append_right _ (List.mem_append_right _ (List.mem_append_right _ (List.mem_append_right _ (List.mem_append_right _ (List.mem_append_right _ (List.mem_append_right _ (List.mem_append_right _ (List.mem_append_right _ (List.mem_append_right _ (List.mem_append_right _ (List.mem_append_right _ (List.mem_append_right _ (List.mem_append_right _ (List.mem_append_right _ (List.mem_append_right _ (List.mem_append_right _ (List.mem_append_right _ (List.mem_append_right _ (List.mem_append_left _ h)))))))))))))))))))))))))))))))))
theorem q_24_0 : (Cond.selects RX6 yX6_steps yX6_steps) ∈ wsL_law := qL_24 (List.mem_of_getElem? (i := 0) rfl)
theorem q_24_1 : (Cond.code yX6_steps cX6_steps 4 (some .int)) ∈ wsL_law := qL_24 (List.mem_of_getElem? (i := 1) rfl)
theorem q_24_2 : (Cond.methodLink RX6 129 yX4_lengthFrom) ∈ wsL_law := qL_24 (List.mem_of_getElem? (i := 2) rfl)
theorem q_24_3 : (Cond.instanceMethod yX4_lengthFrom) ∈ wsL_law := qL_24 (List.mem_of_getElem? (i := 3) rfl)
theorem q_24_4 : (Cond.selects RX4 yX4_lengthFrom yX4_lengthFrom) ∈ wsL_law := qL_24 (List.mem_of_getElem? (i := 4) rfl)
theorem q_24_5 : (Cond.code yX4_lengthFrom cX4_lengthFrom 5 (some .int)) ∈ wsL_law := qL_24 (List.mem_of_getElem? (i := 5) rfl)
theorem q_24_6 : (Cond.methodLink RX4 23 yX4_endFrom) ∈ wsL_law := qL_24 (List.mem_of_getElem? (i := 6) rfl)
theorem q_24_7 : (Cond.methodLink RL 107 yX7_steps) ∈ wsL_law := qL_24 (List.mem_of_getElem? (i := 7) rfl)
theorem q_24_8 : (Cond.instanceMethod yX7_steps) ∈ wsL_law := qL_24 (List.mem_of_getElem? (i := 8) rfl)
theorem q_24_9 : (Cond.selects RX7 yX7_steps yX7_steps) ∈ wsL_law := qL_24 (List.mem_of_getElem? (i := 9) rfl)
theorem q_24_10 : (Cond.code yX7_steps cX7_steps 6 (some .int)) ∈ wsL_law := qL_24 (List.mem_of_getElem? (i := 10) rfl)
theorem q_24_11 : (Cond.methodLink RL 108 yL_demand) ∈ wsL_law := qL_24 (List.mem_of_getElem? (i := 11) rfl)
theorem q_24_12 : (Cond.static yL_demand) ∈ wsL_law := qL_24 (List.mem_of_getElem? (i := 12) rfl)
theorem q_24_13 : (Cond.codeWith yL_demand cL_demand 4 (some .int) [(0, 9, 12, 27)]) ∈ wsL_law := qL_24 (List.mem_of_getElem? (i := 13) rfl)
theorem q_24_14 : (Cond.methodLink RL 39 yX6_demand) ∈ wsL_law := qL_24 (List.mem_of_getElem? (i := 14) rfl)
theorem q_24_15 : (Cond.instanceMethod yX6_demand) ∈ wsL_law := qL_24 (List.mem_of_getElem? (i := 15) rfl)
theorem q_24_16 : (Cond.selects RX6 yX6_demand yX6_demand) ∈ wsL_law := qL_24 (List.mem_of_getElem? (i := 16) rfl)
theorem q_24_17 : (Cond.code yX6_demand cX6_demand 4 (some .int)) ∈ wsL_law := qL_24 (List.mem_of_getElem? (i := 17) rfl)
theorem q_24_18 : (Cond.methodLink RX6 132 yX6_placeOf) ∈ wsL_law := qL_24 (List.mem_of_getElem? (i := 18) rfl)
theorem q_24_19 : (Cond.methodLink RX6 136 yX4_succeedsFrom) ∈ wsL_law := qL_24 (List.mem_of_getElem? (i := 19) rfl)
theorem q_24_20 : (Cond.instanceMethod yX4_succeedsFrom) ∈ wsL_law := qL_24 (List.mem_of_getElem? (i := 20) rfl)
theorem q_24_21 : (Cond.selects RX4 yX4_succeedsFrom yX4_succeedsFrom) ∈ wsL_law := qL_24 (List.mem_of_getElem? (i := 21) rfl)
theorem q_24_22 : (Cond.code yX4_succeedsFrom cX4_succeedsFrom 2 (some .boolean)) ∈ wsL_law := qL_24 (List.mem_of_getElem? (i := 22) rfl)
theorem q_24_23 : (Cond.methodLink RL 110 yX7_demand) ∈ wsL_law := qL_24 (List.mem_of_getElem? (i := 23) rfl)
theorem qL_25 {w : Cond} (h : w ∈ wsL_law0_r25) : w ∈ wsL_law := qL_app (List.mem_append_left _ (List.mem_append_left _ (List.mem_append_left _ (List.mem_append_left _ (List.mem_append_left _ (List.mem_append_left _ (List.mem_append_left _ (List.mem_append_left _ (List.mem_append_left _ (List.mem_append_right _ (List.mem_append_right _ (List.mem_append_right _ (List.mem_append_right _ (List.mem_append_right _ (List.mem_append_right _ (List.mem_append_right _ (List.mem_append_right _ (List.mem_append_right _ (List.mem_append_right _ (List.mem_append_right _ (List.mem_append_right _ (List.mem_append_right _ (List.mem_append_right _ (List.mem_append_right _ (List.mem_append_right _ (List.mem_append_right _ (List.mem_append_right _ (List.mem_append_right _ (List.mem_append_right _ (List.mem_append_right _ (List.mem_append_right _ (List.mem_append_right _ (List.mem_append_right _ (List.mem_append_left _ h))))))))))))))))))))))))))))))))))
theorem q_25_0 : (Cond.instanceMethod yX7_demand) ∈ wsL_law := qL_25 (List.mem_of_getElem? (i := 0) rfl)
theorem q_25_1 : (Cond.selects RX7 yX7_demand yX7_demand) ∈ wsL_law := qL_25 (List.mem_of_getElem? (i := 1) rfl)
theorem q_25_2 : (Cond.code yX7_demand cX7_demand 2 (some .int)) ∈ wsL_law := qL_25 (List.mem_of_getElem? (i := 2) rfl)
theorem q_25_3 : (Cond.methodLink RX7 140 yX7_demanded) ∈ wsL_law := qL_25 (List.mem_of_getElem? (i := 3) rfl)
theorem q_25_4 : (Cond.instanceMethod yX7_demanded) ∈ wsL_law := qL_25 (List.mem_of_getElem? (i := 4) rfl)
theorem q_25_5 : (Cond.selects RX7 yX7_demanded yX7_demanded) ∈ wsL_law := qL_25 (List.mem_of_getElem? (i := 5) rfl)
theorem q_25_6 : (Cond.code yX7_demanded cX7_demanded 4 (some .int)) ∈ wsL_law := qL_25 (List.mem_of_getElem? (i := 6) rfl)
theorem q_25_7 : (Cond.methodLink RL 111 yL_demands) ∈ wsL_law := qL_25 (List.mem_of_getElem? (i := 7) rfl)
theorem q_25_8 : (Cond.static yL_demands) ∈ wsL_law := qL_25 (List.mem_of_getElem? (i := 8) rfl)
theorem q_25_9 : (Cond.codeWith yL_demands cL_demands 7 (some .int) [(0, 21, 24, 27), (0, 21, 28, 13)]) ∈ wsL_law := qL_25 (List.mem_of_getElem? (i := 9) rfl)
theorem q_25_10 : (Cond.methodLink RL 42 yX6_demands) ∈ wsL_law := qL_25 (List.mem_of_getElem? (i := 10) rfl)
theorem q_25_11 : (Cond.instanceMethod yX6_demands) ∈ wsL_law := qL_25 (List.mem_of_getElem? (i := 11) rfl)
theorem q_25_12 : (Cond.selects RX6 yX6_demands yX6_demands) ∈ wsL_law := qL_25 (List.mem_of_getElem? (i := 12) rfl)
theorem q_25_13 : (Cond.code yX6_demands cX6_demands 5 (some .boolean)) ∈ wsL_law := qL_25 (List.mem_of_getElem? (i := 13) rfl)
theorem q_25_14 : (Cond.methodLink RL 114 yX7_demands) ∈ wsL_law := qL_25 (List.mem_of_getElem? (i := 14) rfl)
theorem q_25_15 : (Cond.instanceMethod yX7_demands) ∈ wsL_law := qL_25 (List.mem_of_getElem? (i := 15) rfl)
theorem q_25_16 : (Cond.selects RX7 yX7_demands yX7_demands) ∈ wsL_law := qL_25 (List.mem_of_getElem? (i := 16) rfl)
theorem q_25_17 : (Cond.code yX7_demands cX7_demands 5 (some .boolean)) ∈ wsL_law := qL_25 (List.mem_of_getElem? (i := 17) rfl)
theorem q_25_18 : (Cond.methodLink RL 115 yL_assume) ∈ wsL_law := qL_25 (List.mem_of_getElem? (i := 18) rfl)
theorem q_25_19 : (Cond.static yL_assume) ∈ wsL_law := qL_25 (List.mem_of_getElem? (i := 19) rfl)
theorem q_25_20 : (Cond.codeWith yL_assume cL_assume 6 (some .int) [(0, 12, 15, 27), (0, 12, 19, 13)]) ∈ wsL_law := qL_25 (List.mem_of_getElem? (i := 20) rfl)
theorem q_25_21 : (Cond.methodLink RL 46 yX6_assume) ∈ wsL_law := qL_25 (List.mem_of_getElem? (i := 21) rfl)
theorem q_25_22 : (Cond.instanceMethod yX6_assume) ∈ wsL_law := qL_25 (List.mem_of_getElem? (i := 22) rfl)
theorem q_25_23 : (Cond.selects RX6 yX6_assume yX6_assume) ∈ wsL_law := qL_25 (List.mem_of_getElem? (i := 23) rfl)
theorem qL_26 {w : Cond} (h : w ∈ wsL_law0_r26) : w ∈ wsL_law := qL_app (List.mem_append_left _ (List.mem_append_left _ (List.mem_append_left _ (List.mem_append_left _ (List.mem_append_left _ (List.mem_append_left _ (List.mem_append_left _ (List.mem_append_left _ (List.mem_append_left _ (List.mem_append_right _ (List.mem_append_right _ (List.mem_append_right _ (List.mem_append_right _ (List.mem_append_right _ (List.mem_append_right _ (List.mem_append_right _ (List.mem_append_right _ (List.mem_append_right _ (List.mem_append_right _ (List.mem_append_right _ (List.mem_append_right _ (List.mem_append_right _ (List.mem_append_right _ (List.mem_append_right _ (List.mem_append_right _ (List.mem_append_right _ (List.mem_append_right _ (List.mem_append_right _ (List.mem_append_right _ (List.mem_append_right _ (List.mem_append_right _ (List.mem_append_right _ (List.mem_append_right _ (List.mem_append_right _ (List.mem_append_left _ h)))))))))))))))))))))))))))))))))))
theorem q_26_0 : (Cond.code yX6_assume cX6_assume 4 (some .int)) ∈ wsL_law := qL_26 (List.mem_of_getElem? (i := 0) rfl)
theorem q_26_1 : (Cond.methodLink RX6 145 yX0_limit) ∈ wsL_law := qL_26 (List.mem_of_getElem? (i := 1) rfl)
theorem q_26_2 : (Cond.methodLink RX6 151 yX0_count) ∈ wsL_law := qL_26 (List.mem_of_getElem? (i := 2) rfl)
theorem q_26_3 : (Cond.instanceMethod yX0_count) ∈ wsL_law := qL_26 (List.mem_of_getElem? (i := 3) rfl)
theorem q_26_4 : (Cond.selects RX0 yX0_count yX0_count) ∈ wsL_law := qL_26 (List.mem_of_getElem? (i := 4) rfl)
theorem q_26_5 : (Cond.code yX0_count cX0_count 3 (some .int)) ∈ wsL_law := qL_26 (List.mem_of_getElem? (i := 5) rfl)
theorem q_26_6 : (Cond.methodLink RL 117 yX7_assume) ∈ wsL_law := qL_26 (List.mem_of_getElem? (i := 6) rfl)
theorem q_26_7 : (Cond.instanceMethod yX7_assume) ∈ wsL_law := qL_26 (List.mem_of_getElem? (i := 7) rfl)
theorem q_26_8 : (Cond.selects RX7 yX7_assume yX7_assume) ∈ wsL_law := qL_26 (List.mem_of_getElem? (i := 8) rfl)
theorem q_26_9 : (Cond.code yX7_assume cX7_assume 5 (some .int)) ∈ wsL_law := qL_26 (List.mem_of_getElem? (i := 9) rfl)
theorem q_26_10 : (Cond.methodLink RX7 143 yX7_assumed) ∈ wsL_law := qL_26 (List.mem_of_getElem? (i := 10) rfl)
theorem q_26_11 : (Cond.instanceMethod yX7_assumed) ∈ wsL_law := qL_26 (List.mem_of_getElem? (i := 11) rfl)
theorem q_26_12 : (Cond.selects RX7 yX7_assumed yX7_assumed) ∈ wsL_law := qL_26 (List.mem_of_getElem? (i := 12) rfl)
theorem q_26_13 : (Cond.code yX7_assumed cX7_assumed 3 (some .int)) ∈ wsL_law := qL_26 (List.mem_of_getElem? (i := 13) rfl)
theorem q_26_14 : (Cond.methodLink RL 118 yL_verdict) ∈ wsL_law := qL_26 (List.mem_of_getElem? (i := 14) rfl)
theorem q_26_15 : (Cond.static yL_verdict) ∈ wsL_law := qL_26 (List.mem_of_getElem? (i := 15) rfl)
theorem q_26_16 : (Cond.codeWith yL_verdict cL_verdict 4 (some .int) [(0, 9, 12, 27)]) ∈ wsL_law := qL_26 (List.mem_of_getElem? (i := 16) rfl)
theorem q_26_17 : (Cond.methodLink RL 49 yX6_verdict) ∈ wsL_law := qL_26 (List.mem_of_getElem? (i := 17) rfl)
theorem q_26_18 : (Cond.instanceMethod yX6_verdict) ∈ wsL_law := qL_26 (List.mem_of_getElem? (i := 18) rfl)
theorem q_26_19 : (Cond.selects RX6 yX6_verdict yX6_verdict) ∈ wsL_law := qL_26 (List.mem_of_getElem? (i := 19) rfl)
theorem q_26_20 : (Cond.code yX6_verdict cX6_verdict 2 (some .int)) ∈ wsL_law := qL_26 (List.mem_of_getElem? (i := 20) rfl)
theorem q_26_21 : (Cond.methodLink RX6 154 yX2_refresh) ∈ wsL_law := qL_26 (List.mem_of_getElem? (i := 21) rfl)
theorem q_26_22 : (Cond.instanceMethod yX2_refresh) ∈ wsL_law := qL_26 (List.mem_of_getElem? (i := 22) rfl)
theorem q_26_23 : (Cond.selects RX2 yX2_refresh yX2_refresh) ∈ wsL_law := qL_26 (List.mem_of_getElem? (i := 23) rfl)
theorem qL_27 {w : Cond} (h : w ∈ wsL_law0_r27) : w ∈ wsL_law := qL_app (List.mem_append_left _ (List.mem_append_left _ (List.mem_append_left _ (List.mem_append_left _ (List.mem_append_left _ (List.mem_append_left _ (List.mem_append_left _ (List.mem_append_left _ (List.mem_append_left _ (List.mem_append_right _ (List.mem_append_right _ (List.mem_append_right _ (List.mem_append_right _ (List.mem_append_right _ (List.mem_append_right _ (List.mem_append_right _ (List.mem_append_right _ (List.mem_append_right _ (List.mem_append_right _ (List.mem_append_right _ (List.mem_append_right _ (List.mem_append_right _ (List.mem_append_right _ (List.mem_append_right _ (List.mem_append_right _ (List.mem_append_right _ (List.mem_append_right _ (List.mem_append_right _ (List.mem_append_right _ (List.mem_append_right _ (List.mem_append_right _ (List.mem_append_right _ (List.mem_append_right _ (List.mem_append_right _ (List.mem_append_right _ (List.mem_append_left _ h))))))))))))))))))))))))))))))))))))
theorem q_27_0 : (Cond.code yX2_refresh cX2_refresh 2 none) ∈ wsL_law := qL_27 (List.mem_of_getElem? (i := 0) rfl)
theorem q_27_1 : (Cond.methodLink RX2 41 yX2_clear) ∈ wsL_law := qL_27 (List.mem_of_getElem? (i := 1) rfl)
theorem q_27_2 : (Cond.instanceMethod yX2_clear) ∈ wsL_law := qL_27 (List.mem_of_getElem? (i := 2) rfl)
theorem q_27_3 : (Cond.selects RX2 yX2_clear yX2_clear) ∈ wsL_law := qL_27 (List.mem_of_getElem? (i := 3) rfl)
theorem q_27_4 : (Cond.code yX2_clear cX2_clear 1 none) ∈ wsL_law := qL_27 (List.mem_of_getElem? (i := 4) rfl)
theorem q_27_5 : (Cond.fieldLink RX2 73 "ClaimJudge$Judgement" "endlessRuns" "I") ∈ wsL_law := qL_27 (List.mem_of_getElem? (i := 5) rfl)
theorem q_27_6 : (Cond.fieldLink RX2 77 "ClaimJudge$Judgement" "failedRuns" "I") ∈ wsL_law := qL_27 (List.mem_of_getElem? (i := 6) rfl)
theorem q_27_7 : (Cond.fieldLink RX2 80 "ClaimJudge$Judgement" "successfulRuns" "I") ∈ wsL_law := qL_27 (List.mem_of_getElem? (i := 7) rfl)
theorem q_27_8 : (Cond.methodLink RX2 64 yJ7_fill_53178) ∈ wsL_law := qL_27 (List.mem_of_getElem? (i := 8) rfl)
theorem q_27_9 : (Cond.methodLink RX2 70 yJ7_fill_d0a16) ∈ wsL_law := qL_27 (List.mem_of_getElem? (i := 9) rfl)
theorem q_27_10 : (Cond.static yJ7_fill_d0a16) ∈ wsL_law := qL_27 (List.mem_of_getElem? (i := 10) rfl)
theorem q_27_11 : (Cond.code yJ7_fill_d0a16 cJ7_fill_d0a16 5 none) ∈ wsL_law := qL_27 (List.mem_of_getElem? (i := 11) rfl)
theorem q_27_12 : (Cond.methodLink RX2 44 yX0_allows) ∈ wsL_law := qL_27 (List.mem_of_getElem? (i := 12) rfl)
theorem q_27_13 : (Cond.instanceMethod yX0_allows) ∈ wsL_law := qL_27 (List.mem_of_getElem? (i := 13) rfl)
theorem q_27_14 : (Cond.selects RX0 yX0_allows yX0_allows) ∈ wsL_law := qL_27 (List.mem_of_getElem? (i := 14) rfl)
theorem q_27_15 : (Cond.code yX0_allows cX0_allows 2 (some .boolean)) ∈ wsL_law := qL_27 (List.mem_of_getElem? (i := 15) rfl)
theorem q_27_16 : (Cond.methodLink RX0 22 yX0_allowsBut) ∈ wsL_law := qL_27 (List.mem_of_getElem? (i := 16) rfl)
theorem q_27_17 : (Cond.instanceMethod yX0_allowsBut) ∈ wsL_law := qL_27 (List.mem_of_getElem? (i := 17) rfl)
theorem q_27_18 : (Cond.selects RX0 yX0_allowsBut yX0_allowsBut) ∈ wsL_law := qL_27 (List.mem_of_getElem? (i := 18) rfl)
theorem q_27_19 : (Cond.code yX0_allowsBut cX0_allowsBut 5 (some .boolean)) ∈ wsL_law := qL_27 (List.mem_of_getElem? (i := 19) rfl)
theorem q_27_20 : (Cond.methodLink RX2 50 yX4_endFrom) ∈ wsL_law := qL_27 (List.mem_of_getElem? (i := 20) rfl)
theorem q_27_21 : (Cond.methodLink RX2 56 yX2_countRun) ∈ wsL_law := qL_27 (List.mem_of_getElem? (i := 21) rfl)
theorem q_27_22 : (Cond.instanceMethod yX2_countRun) ∈ wsL_law := qL_27 (List.mem_of_getElem? (i := 22) rfl)
theorem q_27_23 : (Cond.selects RX2 yX2_countRun yX2_countRun) ∈ wsL_law := qL_27 (List.mem_of_getElem? (i := 23) rfl)
theorem qL_28 {w : Cond} (h : w ∈ wsL_law0_r28) : w ∈ wsL_law := qL_app (List.mem_append_left _ (List.mem_append_left _ (List.mem_append_left _ (List.mem_append_left _ (List.mem_append_left _ (List.mem_append_left _ (List.mem_append_left _ (List.mem_append_left _ (List.mem_append_left _ (List.mem_append_right _ (List.mem_append_right _ (List.mem_append_right _ (List.mem_append_right _ (List.mem_append_right _ (List.mem_append_right _ (List.mem_append_right _ (List.mem_append_right _ (List.mem_append_right _ (List.mem_append_right _ (List.mem_append_right _ (List.mem_append_right _ (List.mem_append_right _ (List.mem_append_right _ (List.mem_append_right _ (List.mem_append_right _ (List.mem_append_right _ (List.mem_append_right _ (List.mem_append_right _ (List.mem_append_right _ (List.mem_append_right _ (List.mem_append_right _ (List.mem_append_right _ (List.mem_append_right _ (List.mem_append_right _ (List.mem_append_right _ (List.mem_append_right _ (List.mem_append_left _ h)))))))))))))))))))))))))))))))))))))
theorem q_28_0 : (Cond.code yX2_countRun cX2_countRun 3 none) ∈ wsL_law := qL_28 (List.mem_of_getElem? (i := 0) rfl)
theorem q_28_1 : (Cond.methodLink RX2 60 yX2_followRun) ∈ wsL_law := qL_28 (List.mem_of_getElem? (i := 1) rfl)
theorem q_28_2 : (Cond.instanceMethod yX2_followRun) ∈ wsL_law := qL_28 (List.mem_of_getElem? (i := 2) rfl)
theorem q_28_3 : (Cond.selects RX2 yX2_followRun yX2_followRun) ∈ wsL_law := qL_28 (List.mem_of_getElem? (i := 3) rfl)
theorem q_28_4 : (Cond.code yX2_followRun cX2_followRun 4 none) ∈ wsL_law := qL_28 (List.mem_of_getElem? (i := 4) rfl)
theorem q_28_5 : (Cond.methodLink RX2 83 yX2_isVisited) ∈ wsL_law := qL_28 (List.mem_of_getElem? (i := 5) rfl)
theorem q_28_6 : (Cond.instanceMethod yX2_isVisited) ∈ wsL_law := qL_28 (List.mem_of_getElem? (i := 6) rfl)
theorem q_28_7 : (Cond.selects RX2 yX2_isVisited yX2_isVisited) ∈ wsL_law := qL_28 (List.mem_of_getElem? (i := 7) rfl)
theorem q_28_8 : (Cond.code yX2_isVisited cX2_isVisited 2 (some .boolean)) ∈ wsL_law := qL_28 (List.mem_of_getElem? (i := 8) rfl)
theorem q_28_9 : (Cond.methodLink RX2 86 yX2_noteValues) ∈ wsL_law := qL_28 (List.mem_of_getElem? (i := 9) rfl)
theorem q_28_10 : (Cond.instanceMethod yX2_noteValues) ∈ wsL_law := qL_28 (List.mem_of_getElem? (i := 10) rfl)
theorem q_28_11 : (Cond.selects RX2 yX2_noteValues yX2_noteValues) ∈ wsL_law := qL_28 (List.mem_of_getElem? (i := 11) rfl)
theorem q_28_12 : (Cond.code yX2_noteValues cX2_noteValues 6 none) ∈ wsL_law := qL_28 (List.mem_of_getElem? (i := 12) rfl)
theorem q_28_13 : (Cond.methodLink RX2 89 yX3_placeAfter) ∈ wsL_law := qL_28 (List.mem_of_getElem? (i := 13) rfl)
theorem q_28_14 : (Cond.methodLink RX6 160 yX2_isReached) ∈ wsL_law := qL_28 (List.mem_of_getElem? (i := 14) rfl)
theorem q_28_15 : (Cond.instanceMethod yX2_isReached) ∈ wsL_law := qL_28 (List.mem_of_getElem? (i := 15) rfl)
theorem q_28_16 : (Cond.selects RX2 yX2_isReached yX2_isReached) ∈ wsL_law := qL_28 (List.mem_of_getElem? (i := 16) rfl)
theorem q_28_17 : (Cond.code yX2_isReached cX2_isReached 2 (some .boolean)) ∈ wsL_law := qL_28 (List.mem_of_getElem? (i := 17) rfl)
theorem q_28_18 : (Cond.methodLink RL 120 yX7_verdict) ∈ wsL_law := qL_28 (List.mem_of_getElem? (i := 18) rfl)
theorem q_28_19 : (Cond.instanceMethod yX7_verdict) ∈ wsL_law := qL_28 (List.mem_of_getElem? (i := 19) rfl)
theorem q_28_20 : (Cond.selects RX7 yX7_verdict yX7_verdict) ∈ wsL_law := qL_28 (List.mem_of_getElem? (i := 20) rfl)
theorem q_28_21 : (Cond.code yX7_verdict cX7_verdict 2 (some .int)) ∈ wsL_law := qL_28 (List.mem_of_getElem? (i := 21) rfl)
theorem q_28_22 : (Cond.methodLink RX7 152 yX7_looks) ∈ wsL_law := qL_28 (List.mem_of_getElem? (i := 22) rfl)
theorem q_28_23 : (Cond.instanceMethod yX7_looks) ∈ wsL_law := qL_28 (List.mem_of_getElem? (i := 23) rfl)
theorem qL_29 {w : Cond} (h : w ∈ wsL_law0_r29) : w ∈ wsL_law := qL_app (List.mem_append_left _ (List.mem_append_left _ (List.mem_append_left _ (List.mem_append_left _ (List.mem_append_left _ (List.mem_append_left _ (List.mem_append_left _ (List.mem_append_left _ (List.mem_append_left _ (List.mem_append_right _ (List.mem_append_right _ (List.mem_append_right _ (List.mem_append_right _ (List.mem_append_right _ (List.mem_append_right _ (List.mem_append_right _ (List.mem_append_right _ (List.mem_append_right _ (List.mem_append_right _ (List.mem_append_right _ (List.mem_append_right _ (List.mem_append_right _ (List.mem_append_right _ (List.mem_append_right _ (List.mem_append_right _ (List.mem_append_right _ (List.mem_append_right _ (List.mem_append_right _ (List.mem_append_right _ (List.mem_append_right _ (List.mem_append_right _ (List.mem_append_right _ (List.mem_append_right _ (List.mem_append_right _ (List.mem_append_right _ (List.mem_append_right _ (List.mem_append_right _ (List.mem_append_left _ h))))))))))))))))))))))))))))))))))))))
theorem q_29_0 : (Cond.selects RX7 yX7_looks yX7_looks) ∈ wsL_law := qL_29 (List.mem_of_getElem? (i := 0) rfl)
theorem q_29_1 : (Cond.code yX7_looks cX7_looks 3 none) ∈ wsL_law := qL_29 (List.mem_of_getElem? (i := 1) rfl)
theorem q_29_2 : (Cond.methodLink RX7 70 yX7_isAssumed) ∈ wsL_law := qL_29 (List.mem_of_getElem? (i := 2) rfl)
theorem q_29_3 : (Cond.instanceMethod yX7_isAssumed) ∈ wsL_law := qL_29 (List.mem_of_getElem? (i := 3) rfl)
theorem q_29_4 : (Cond.selects RX7 yX7_isAssumed yX7_isAssumed) ∈ wsL_law := qL_29 (List.mem_of_getElem? (i := 4) rfl)
theorem q_29_5 : (Cond.code yX7_isAssumed cX7_isAssumed 4 (some .boolean)) ∈ wsL_law := qL_29 (List.mem_of_getElem? (i := 5) rfl)
theorem q_29_6 : (Cond.methodLink RX7 155 yX7_verdictOf) ∈ wsL_law := qL_29 (List.mem_of_getElem? (i := 6) rfl)
theorem q_29_7 : (Cond.instanceMethod yX7_verdictOf) ∈ wsL_law := qL_29 (List.mem_of_getElem? (i := 7) rfl)
theorem q_29_8 : (Cond.selects RX7 yX7_verdictOf yX7_verdictOf) ∈ wsL_law := qL_29 (List.mem_of_getElem? (i := 8) rfl)
theorem q_29_9 : (Cond.code yX7_verdictOf cX7_verdictOf 2 (some .int)) ∈ wsL_law := qL_29 (List.mem_of_getElem? (i := 9) rfl)
theorem q_29_10 : (Cond.methodLink RX7 146 yX7_isReached) ∈ wsL_law := qL_29 (List.mem_of_getElem? (i := 10) rfl)
theorem q_29_11 : (Cond.instanceMethod yX7_isReached) ∈ wsL_law := qL_29 (List.mem_of_getElem? (i := 11) rfl)
theorem q_29_12 : (Cond.selects RX7 yX7_isReached yX7_isReached) ∈ wsL_law := qL_29 (List.mem_of_getElem? (i := 12) rfl)
theorem q_29_13 : (Cond.code yX7_isReached cX7_isReached 4 (some .boolean)) ∈ wsL_law := qL_29 (List.mem_of_getElem? (i := 13) rfl)
theorem q_29_14 : (Cond.methodLink RX7 149 yX7_exampleOf) ∈ wsL_law := qL_29 (List.mem_of_getElem? (i := 14) rfl)
theorem q_29_15 : (Cond.instanceMethod yX7_exampleOf) ∈ wsL_law := qL_29 (List.mem_of_getElem? (i := 15) rfl)
theorem q_29_16 : (Cond.selects RX7 yX7_exampleOf yX7_exampleOf) ∈ wsL_law := qL_29 (List.mem_of_getElem? (i := 16) rfl)
theorem q_29_17 : (Cond.code yX7_exampleOf cX7_exampleOf 4 (some .int)) ∈ wsL_law := qL_29 (List.mem_of_getElem? (i := 17) rfl)
theorem q_29_18 : (Cond.methodLink RL 121 yL_example) ∈ wsL_law := qL_29 (List.mem_of_getElem? (i := 18) rfl)
theorem q_29_19 : (Cond.static yL_example) ∈ wsL_law := qL_29 (List.mem_of_getElem? (i := 19) rfl)
theorem q_29_20 : (Cond.codeWith yL_example cL_example 4 (some .int) [(0, 9, 12, 27)]) ∈ wsL_law := qL_29 (List.mem_of_getElem? (i := 20) rfl)
theorem q_29_21 : (Cond.methodLink RL 52 yX6_example) ∈ wsL_law := qL_29 (List.mem_of_getElem? (i := 21) rfl)
theorem q_29_22 : (Cond.instanceMethod yX6_example) ∈ wsL_law := qL_29 (List.mem_of_getElem? (i := 22) rfl)
theorem q_29_23 : (Cond.selects RX6 yX6_example yX6_example) ∈ wsL_law := qL_29 (List.mem_of_getElem? (i := 23) rfl)
theorem qL_30 {w : Cond} (h : w ∈ wsL_law0_r30) : w ∈ wsL_law := qL_app (List.mem_append_left _ (List.mem_append_left _ (List.mem_append_left _ (List.mem_append_left _ (List.mem_append_left _ (List.mem_append_left _ (List.mem_append_left _ (List.mem_append_left _ (List.mem_append_left _ (List.mem_append_right _ (List.mem_append_right _ (List.mem_append_right _ (List.mem_append_right _ (List.mem_append_right _ (List.mem_append_right _ (List.mem_append_right _ (List.mem_append_right _ (List.mem_append_right _ (List.mem_append_right _ (List.mem_append_right _ (List.mem_append_right _ (List.mem_append_right _ (List.mem_append_right _ (List.mem_append_right _ (List.mem_append_right _ (List.mem_append_right _ (List.mem_append_right _ (List.mem_append_right _ (List.mem_append_right _ (List.mem_append_right _ (List.mem_append_right _ (List.mem_append_right _ (List.mem_append_right _ (List.mem_append_right _ (List.mem_append_right _ (List.mem_append_right _ (List.mem_append_right _ (List.mem_append_right _ (List.mem_append_left _ h)))))))))))))))))))))))))))))))))))))))
theorem q_30_0 : (Cond.code yX6_example cX6_example 2 (some .int)) ∈ wsL_law := qL_30 (List.mem_of_getElem? (i := 0) rfl)
theorem q_30_1 : (Cond.methodLink RL 123 yX7_example) ∈ wsL_law := qL_30 (List.mem_of_getElem? (i := 1) rfl)
theorem q_30_2 : (Cond.instanceMethod yX7_example) ∈ wsL_law := qL_30 (List.mem_of_getElem? (i := 2) rfl)
theorem q_30_3 : (Cond.selects RX7 yX7_example yX7_example) ∈ wsL_law := qL_30 (List.mem_of_getElem? (i := 3) rfl)
theorem q_30_4 : (Cond.code yX7_example cX7_example 2 (some .int)) ∈ wsL_law := qL_30 (List.mem_of_getElem? (i := 4) rfl)
theorem q_30_5 : (Cond.methodLink RL 124 yX6_endless) ∈ wsL_law := qL_30 (List.mem_of_getElem? (i := 5) rfl)
theorem q_30_6 : (Cond.instanceMethod yX6_endless) ∈ wsL_law := qL_30 (List.mem_of_getElem? (i := 6) rfl)
theorem q_30_7 : (Cond.selects RX6 yX6_endless yX6_endless) ∈ wsL_law := qL_30 (List.mem_of_getElem? (i := 7) rfl)
theorem q_30_8 : (Cond.code yX6_endless cX6_endless 1 (some .int)) ∈ wsL_law := qL_30 (List.mem_of_getElem? (i := 8) rfl)
theorem q_30_9 : (Cond.methodLink RL 127 yX7_endless) ∈ wsL_law := qL_30 (List.mem_of_getElem? (i := 9) rfl)
theorem q_30_10 : (Cond.instanceMethod yX7_endless) ∈ wsL_law := qL_30 (List.mem_of_getElem? (i := 10) rfl)
theorem q_30_11 : (Cond.selects RX7 yX7_endless yX7_endless) ∈ wsL_law := qL_30 (List.mem_of_getElem? (i := 11) rfl)
theorem q_30_12 : (Cond.code yX7_endless cX7_endless 1 (some .int)) ∈ wsL_law := qL_30 (List.mem_of_getElem? (i := 12) rfl)
theorem q_30_13 : (Cond.methodLink RX7 158 yX7_runsThat) ∈ wsL_law := qL_30 (List.mem_of_getElem? (i := 13) rfl)
theorem q_30_14 : (Cond.instanceMethod yX7_runsThat) ∈ wsL_law := qL_30 (List.mem_of_getElem? (i := 14) rfl)
theorem q_30_15 : (Cond.selects RX7 yX7_runsThat yX7_runsThat) ∈ wsL_law := qL_30 (List.mem_of_getElem? (i := 15) rfl)
theorem q_30_16 : (Cond.code yX7_runsThat cX7_runsThat 5 (some .int)) ∈ wsL_law := qL_30 (List.mem_of_getElem? (i := 16) rfl)
theorem q_30_17 : (Cond.methodLink RL 128 yX6_proof) ∈ wsL_law := qL_30 (List.mem_of_getElem? (i := 17) rfl)
theorem q_30_18 : (Cond.instanceMethod yX6_proof) ∈ wsL_law := qL_30 (List.mem_of_getElem? (i := 18) rfl)
theorem q_30_19 : (Cond.selects RX6 yX6_proof yX6_proof) ∈ wsL_law := qL_30 (List.mem_of_getElem? (i := 19) rfl)
theorem q_30_20 : (Cond.code yX6_proof cX6_proof 1 (some .int)) ∈ wsL_law := qL_30 (List.mem_of_getElem? (i := 20) rfl)
theorem q_30_21 : (Cond.methodLink RL 131 yX7_proof) ∈ wsL_law := qL_30 (List.mem_of_getElem? (i := 21) rfl)
theorem q_30_22 : (Cond.instanceMethod yX7_proof) ∈ wsL_law := qL_30 (List.mem_of_getElem? (i := 22) rfl)
theorem q_30_23 : (Cond.selects RX7 yX7_proof yX7_proof) ∈ wsL_law := qL_30 (List.mem_of_getElem? (i := 23) rfl)
theorem qL_31 {w : Cond} (h : w ∈ wsL_law0_r31) : w ∈ wsL_law := qL_app (List.mem_append_left _ (List.mem_append_left _ (List.mem_append_left _ (List.mem_append_left _ (List.mem_append_left _ (List.mem_append_left _ (List.mem_append_left _ (List.mem_append_left _ (List.mem_append_left _ (List.mem_append_right _ (List.mem_append_right _ (List.mem_append_right _ (List.mem_append_right _ (List.mem_append_right _ (List.mem_append_right _ (List.mem_append_right _ (List.mem_append_right _ (List.mem_append_right _ (List.mem_append_right _ (List.mem_append_right _ (List.mem_append_right _ (List.mem_append_right _ (List.mem_append_right _ (List.mem_append_right _ (List.mem_append_right _ (List.mem_append_right _ (List.mem_append_right _ (List.mem_append_right _ (List.mem_append_right _ (List.mem_append_right _ (List.mem_append_right _ (List.mem_append_right _ (List.mem_append_right _ (List.mem_append_right _ (List.mem_append_right _ (List.mem_append_right _ (List.mem_append_right _ (List.mem_append_right _ (List.mem_append_right _ (List.mem_append_left _ h))))))))))))))))))))))))))))))))))))))))
theorem q_31_0 : (Cond.code yX7_proof cX7_proof 1 (some .int)) ∈ wsL_law := qL_31 (List.mem_of_getElem? (i := 0) rfl)
theorem q_31_1 : (Cond.methodLink RX7 161 yX7_judged) ∈ wsL_law := qL_31 (List.mem_of_getElem? (i := 1) rfl)
theorem q_31_2 : (Cond.instanceMethod yX7_judged) ∈ wsL_law := qL_31 (List.mem_of_getElem? (i := 2) rfl)
theorem q_31_3 : (Cond.selects RX7 yX7_judged yX7_judged) ∈ wsL_law := qL_31 (List.mem_of_getElem? (i := 3) rfl)
theorem q_31_4 : (Cond.code yX7_judged cX7_judged 1 (some .int)) ∈ wsL_law := qL_31 (List.mem_of_getElem? (i := 4) rfl)
theorem q_31_5 : (Cond.methodLink RL 132 yX6_provedShare) ∈ wsL_law := qL_31 (List.mem_of_getElem? (i := 5) rfl)
theorem q_31_6 : (Cond.instanceMethod yX6_provedShare) ∈ wsL_law := qL_31 (List.mem_of_getElem? (i := 6) rfl)
theorem q_31_7 : (Cond.selects RX6 yX6_provedShare yX6_provedShare) ∈ wsL_law := qL_31 (List.mem_of_getElem? (i := 7) rfl)
theorem q_31_8 : (Cond.code yX6_provedShare cX6_provedShare 1 (some .double)) ∈ wsL_law := qL_31 (List.mem_of_getElem? (i := 8) rfl)
theorem q_31_9 : (Cond.methodLink RL 136 yX7_provedShare) ∈ wsL_law := qL_31 (List.mem_of_getElem? (i := 9) rfl)
theorem q_31_10 : (Cond.instanceMethod yX7_provedShare) ∈ wsL_law := qL_31 (List.mem_of_getElem? (i := 10) rfl)
theorem q_31_11 : (Cond.selects RX7 yX7_provedShare yX7_provedShare) ∈ wsL_law := qL_31 (List.mem_of_getElem? (i := 11) rfl)
theorem q_31_12 : (Cond.code yX7_provedShare cX7_provedShare 1 (some .double)) ∈ wsL_law := qL_31 (List.mem_of_getElem? (i := 12) rfl)
theorem q_31_13 : (Cond.methodLink RL 137 yL_least) ∈ wsL_law := qL_31 (List.mem_of_getElem? (i := 13) rfl)
theorem q_31_14 : (Cond.static yL_least) ∈ wsL_law := qL_31 (List.mem_of_getElem? (i := 14) rfl)
theorem q_31_15 : (Cond.codeWith yL_least cL_least 5 (some .int) [(0, 10, 13, 27)]) ∈ wsL_law := qL_31 (List.mem_of_getElem? (i := 15) rfl)
theorem q_31_16 : (Cond.methodLink RL 55 yX6_least) ∈ wsL_law := qL_31 (List.mem_of_getElem? (i := 16) rfl)
theorem q_31_17 : (Cond.instanceMethod yX6_least) ∈ wsL_law := qL_31 (List.mem_of_getElem? (i := 17) rfl)
theorem q_31_18 : (Cond.selects RX6 yX6_least yX6_least) ∈ wsL_law := qL_31 (List.mem_of_getElem? (i := 18) rfl)
theorem q_31_19 : (Cond.code yX6_least cX6_least 3 (some .int)) ∈ wsL_law := qL_31 (List.mem_of_getElem? (i := 19) rfl)
theorem q_31_20 : (Cond.methodLink RL 140 yX7_least) ∈ wsL_law := qL_31 (List.mem_of_getElem? (i := 20) rfl)
theorem q_31_21 : (Cond.instanceMethod yX7_least) ∈ wsL_law := qL_31 (List.mem_of_getElem? (i := 21) rfl)
theorem q_31_22 : (Cond.selects RX7 yX7_least yX7_least) ∈ wsL_law := qL_31 (List.mem_of_getElem? (i := 22) rfl)
theorem q_31_23 : (Cond.code yX7_least cX7_least 3 (some .int)) ∈ wsL_law := qL_31 (List.mem_of_getElem? (i := 23) rfl)
theorem qL_32 {w : Cond} (h : w ∈ wsL_law0_r32) : w ∈ wsL_law := qL_app (List.mem_append_left _ (List.mem_append_left _ (List.mem_append_left _ (List.mem_append_left _ (List.mem_append_left _ (List.mem_append_left _ (List.mem_append_left _ (List.mem_append_left _ (List.mem_append_left _ (List.mem_append_right _ (List.mem_append_right _ (List.mem_append_right _ (List.mem_append_right _ (List.mem_append_right _ (List.mem_append_right _ (List.mem_append_right _ (List.mem_append_right _ (List.mem_append_right _ (List.mem_append_right _ (List.mem_append_right _ (List.mem_append_right _ (List.mem_append_right _ (List.mem_append_right _ (List.mem_append_right _ (List.mem_append_right _ (List.mem_append_right _ (List.mem_append_right _ (List.mem_append_right _ (List.mem_append_right _ (List.mem_append_right _ (List.mem_append_right _ (List.mem_append_right _ (List.mem_append_right _ (List.mem_append_right _ (List.mem_append_right _ (List.mem_append_right _ (List.mem_append_right _ (List.mem_append_right _ (List.mem_append_right _ (List.mem_append_right _ (List.mem_append_left _ h)))))))))))))))))))))))))))))))))))))))))
theorem q_32_0 : (Cond.methodLink RX7 164 yX7_bound) ∈ wsL_law := qL_32 (List.mem_of_getElem? (i := 0) rfl)
theorem q_32_1 : (Cond.instanceMethod yX7_bound) ∈ wsL_law := qL_32 (List.mem_of_getElem? (i := 1) rfl)
theorem q_32_2 : (Cond.selects RX7 yX7_bound yX7_bound) ∈ wsL_law := qL_32 (List.mem_of_getElem? (i := 2) rfl)
theorem q_32_3 : (Cond.code yX7_bound cX7_bound 8 (some .int)) ∈ wsL_law := qL_32 (List.mem_of_getElem? (i := 3) rfl)
theorem q_32_4 : (Cond.methodLink RL 141 yL_greatest) ∈ wsL_law := qL_32 (List.mem_of_getElem? (i := 4) rfl)
theorem q_32_5 : (Cond.static yL_greatest) ∈ wsL_law := qL_32 (List.mem_of_getElem? (i := 5) rfl)
theorem q_32_6 : (Cond.codeWith yL_greatest cL_greatest 5 (some .int) [(0, 10, 13, 27)]) ∈ wsL_law := qL_32 (List.mem_of_getElem? (i := 6) rfl)
theorem q_32_7 : (Cond.methodLink RL 59 yX6_greatest) ∈ wsL_law := qL_32 (List.mem_of_getElem? (i := 7) rfl)
theorem q_32_8 : (Cond.instanceMethod yX6_greatest) ∈ wsL_law := qL_32 (List.mem_of_getElem? (i := 8) rfl)
theorem q_32_9 : (Cond.selects RX6 yX6_greatest yX6_greatest) ∈ wsL_law := qL_32 (List.mem_of_getElem? (i := 9) rfl)
theorem q_32_10 : (Cond.code yX6_greatest cX6_greatest 3 (some .int)) ∈ wsL_law := qL_32 (List.mem_of_getElem? (i := 10) rfl)
theorem q_32_11 : (Cond.methodLink RL 143 yX7_greatest) ∈ wsL_law := qL_32 (List.mem_of_getElem? (i := 11) rfl)
theorem q_32_12 : (Cond.instanceMethod yX7_greatest) ∈ wsL_law := qL_32 (List.mem_of_getElem? (i := 12) rfl)
theorem q_32_13 : (Cond.selects RX7 yX7_greatest yX7_greatest) ∈ wsL_law := qL_32 (List.mem_of_getElem? (i := 13) rfl)
theorem q_32_14 : (Cond.code yX7_greatest cX7_greatest 3 (some .int)) ∈ wsL_law := qL_32 (List.mem_of_getElem? (i := 14) rfl)
theorem q_32_15 : (Cond.methodLink RL 144 yL_widest) ∈ wsL_law := qL_32 (List.mem_of_getElem? (i := 15) rfl)
theorem q_32_16 : (Cond.static yL_widest) ∈ wsL_law := qL_32 (List.mem_of_getElem? (i := 16) rfl)
theorem q_32_17 : (Cond.codeWith yL_widest cL_widest 4 (some .int) [(0, 9, 12, 27)]) ∈ wsL_law := qL_32 (List.mem_of_getElem? (i := 17) rfl)
theorem q_32_18 : (Cond.methodLink RL 62 yX6_widest) ∈ wsL_law := qL_32 (List.mem_of_getElem? (i := 18) rfl)
theorem q_32_19 : (Cond.instanceMethod yX6_widest) ∈ wsL_law := qL_32 (List.mem_of_getElem? (i := 19) rfl)
theorem q_32_20 : (Cond.selects RX6 yX6_widest yX6_widest) ∈ wsL_law := qL_32 (List.mem_of_getElem? (i := 20) rfl)
theorem q_32_21 : (Cond.code yX6_widest cX6_widest 2 (some .int)) ∈ wsL_law := qL_32 (List.mem_of_getElem? (i := 21) rfl)
theorem q_32_22 : (Cond.methodLink RX6 178 yX6_unprovedValues) ∈ wsL_law := qL_32 (List.mem_of_getElem? (i := 22) rfl)
theorem q_32_23 : (Cond.instanceMethod yX6_unprovedValues) ∈ wsL_law := qL_32 (List.mem_of_getElem? (i := 23) rfl)
theorem qL_33 {w : Cond} (h : w ∈ wsL_law0_r33) : w ∈ wsL_law := qL_app (List.mem_append_left _ (List.mem_append_left _ (List.mem_append_left _ (List.mem_append_left _ (List.mem_append_left _ (List.mem_append_left _ (List.mem_append_left _ (List.mem_append_left _ (List.mem_append_left _ (List.mem_append_right _ (List.mem_append_right _ (List.mem_append_right _ (List.mem_append_right _ (List.mem_append_right _ (List.mem_append_right _ (List.mem_append_right _ (List.mem_append_right _ (List.mem_append_right _ (List.mem_append_right _ (List.mem_append_right _ (List.mem_append_right _ (List.mem_append_right _ (List.mem_append_right _ (List.mem_append_right _ (List.mem_append_right _ (List.mem_append_right _ (List.mem_append_right _ (List.mem_append_right _ (List.mem_append_right _ (List.mem_append_right _ (List.mem_append_right _ (List.mem_append_right _ (List.mem_append_right _ (List.mem_append_right _ (List.mem_append_right _ (List.mem_append_right _ (List.mem_append_right _ (List.mem_append_right _ (List.mem_append_right _ (List.mem_append_right _ (List.mem_append_right _ (List.mem_append_left _ h))))))))))))))))))))))))))))))))))))))))))
theorem q_33_0 : (Cond.selects RX6 yX6_unprovedValues yX6_unprovedValues) ∈ wsL_law := qL_33 (List.mem_of_getElem? (i := 0) rfl)
theorem q_33_1 : (Cond.code yX6_unprovedValues cX6_unprovedValues 4 (some .int)) ∈ wsL_law := qL_33 (List.mem_of_getElem? (i := 1) rfl)
theorem q_33_2 : (Cond.methodLink RX6 243 yX0_allowsBut) ∈ wsL_law := qL_33 (List.mem_of_getElem? (i := 2) rfl)
theorem q_33_3 : (Cond.methodLink RX6 247 yX6_valueOf) ∈ wsL_law := qL_33 (List.mem_of_getElem? (i := 3) rfl)
theorem q_33_4 : (Cond.methodLink RX6 181 yX6_widestRange) ∈ wsL_law := qL_33 (List.mem_of_getElem? (i := 4) rfl)
theorem q_33_5 : (Cond.static yX6_widestRange) ∈ wsL_law := qL_33 (List.mem_of_getElem? (i := 5) rfl)
theorem q_33_6 : (Cond.code yX6_widestRange cX6_widestRange 5 (some .int)) ∈ wsL_law := qL_33 (List.mem_of_getElem? (i := 6) rfl)
theorem q_33_7 : (Cond.methodLink RL 146 yX7_widest) ∈ wsL_law := qL_33 (List.mem_of_getElem? (i := 7) rfl)
theorem q_33_8 : (Cond.instanceMethod yX7_widest) ∈ wsL_law := qL_33 (List.mem_of_getElem? (i := 8) rfl)
theorem q_33_9 : (Cond.selects RX7 yX7_widest yX7_widest) ∈ wsL_law := qL_33 (List.mem_of_getElem? (i := 9) rfl)
theorem q_33_10 : (Cond.code yX7_widest cX7_widest 2 (some .int)) ∈ wsL_law := qL_33 (List.mem_of_getElem? (i := 10) rfl)
theorem q_33_11 : (Cond.methodLink RX7 168 yX7_widestOf) ∈ wsL_law := qL_33 (List.mem_of_getElem? (i := 11) rfl)
theorem q_33_12 : (Cond.instanceMethod yX7_widestOf) ∈ wsL_law := qL_33 (List.mem_of_getElem? (i := 12) rfl)
theorem q_33_13 : (Cond.selects RX7 yX7_widestOf yX7_widestOf) ∈ wsL_law := qL_33 (List.mem_of_getElem? (i := 13) rfl)
theorem q_33_14 : (Cond.code yX7_widestOf cX7_widestOf 8 (some .int)) ∈ wsL_law := qL_33 (List.mem_of_getElem? (i := 14) rfl)
theorem q_33_15 : (Cond.methodLink RL 147 yL_append) ∈ wsL_law := qL_33 (List.mem_of_getElem? (i := 15) rfl)
theorem q_33_16 : (Cond.static yL_append) ∈ wsL_law := qL_33 (List.mem_of_getElem? (i := 16) rfl)
theorem q_33_17 : (Cond.codeWith yL_append cL_append 4 (some .int) [(0, 9, 12, 13), (0, 9, 15, 21)]) ∈ wsL_law := qL_33 (List.mem_of_getElem? (i := 17) rfl)
theorem q_33_18 : (Cond.methodLink RL 65 yX6_append) ∈ wsL_law := qL_33 (List.mem_of_getElem? (i := 18) rfl)
theorem q_33_19 : (Cond.instanceMethod yX6_append) ∈ wsL_law := qL_33 (List.mem_of_getElem? (i := 19) rfl)
theorem q_33_20 : (Cond.selects RX6 yX6_append yX6_append) ∈ wsL_law := qL_33 (List.mem_of_getElem? (i := 20) rfl)
theorem q_33_21 : (Cond.code yX6_append cX6_append 2 (some .int)) ∈ wsL_law := qL_33 (List.mem_of_getElem? (i := 21) rfl)
theorem q_33_22 : (Cond.methodLink RX6 191 yX5_put) ∈ wsL_law := qL_33 (List.mem_of_getElem? (i := 22) rfl)
theorem q_33_23 : (Cond.instanceMethod yX5_put) ∈ wsL_law := qL_33 (List.mem_of_getElem? (i := 23) rfl)
theorem qL_34 {w : Cond} (h : w ∈ wsL_law0_r34) : w ∈ wsL_law := qL_app (List.mem_append_left _ (List.mem_append_left _ (List.mem_append_left _ (List.mem_append_left _ (List.mem_append_left _ (List.mem_append_left _ (List.mem_append_left _ (List.mem_append_left _ (List.mem_append_left _ (List.mem_append_right _ (List.mem_append_right _ (List.mem_append_right _ (List.mem_append_right _ (List.mem_append_right _ (List.mem_append_right _ (List.mem_append_right _ (List.mem_append_right _ (List.mem_append_right _ (List.mem_append_right _ (List.mem_append_right _ (List.mem_append_right _ (List.mem_append_right _ (List.mem_append_right _ (List.mem_append_right _ (List.mem_append_right _ (List.mem_append_right _ (List.mem_append_right _ (List.mem_append_right _ (List.mem_append_right _ (List.mem_append_right _ (List.mem_append_right _ (List.mem_append_right _ (List.mem_append_right _ (List.mem_append_right _ (List.mem_append_right _ (List.mem_append_right _ (List.mem_append_right _ (List.mem_append_right _ (List.mem_append_right _ (List.mem_append_right _ (List.mem_append_right _ (List.mem_append_right _ (List.mem_append_left _ h)))))))))))))))))))))))))))))))))))))))))))
theorem q_34_0 : (Cond.selects RX5 yX5_put yX5_put) ∈ wsL_law := qL_34 (List.mem_of_getElem? (i := 0) rfl)
theorem q_34_1 : (Cond.code yX5_put cX5_put 2 none) ∈ wsL_law := qL_34 (List.mem_of_getElem? (i := 1) rfl)
theorem q_34_2 : (Cond.methodLink RL 149 yX7_append) ∈ wsL_law := qL_34 (List.mem_of_getElem? (i := 2) rfl)
theorem q_34_3 : (Cond.instanceMethod yX7_append) ∈ wsL_law := qL_34 (List.mem_of_getElem? (i := 3) rfl)
theorem q_34_4 : (Cond.selects RX7 yX7_append yX7_append) ∈ wsL_law := qL_34 (List.mem_of_getElem? (i := 4) rfl)
theorem q_34_5 : (Cond.code yX7_append cX7_append 2 (some .int)) ∈ wsL_law := qL_34 (List.mem_of_getElem? (i := 5) rfl)
theorem q_34_6 : (Cond.methodLink RL 150 yX6_clearBuffer) ∈ wsL_law := qL_34 (List.mem_of_getElem? (i := 6) rfl)
theorem q_34_7 : (Cond.instanceMethod yX6_clearBuffer) ∈ wsL_law := qL_34 (List.mem_of_getElem? (i := 7) rfl)
theorem q_34_8 : (Cond.selects RX6 yX6_clearBuffer yX6_clearBuffer) ∈ wsL_law := qL_34 (List.mem_of_getElem? (i := 8) rfl)
theorem q_34_9 : (Cond.code yX6_clearBuffer cX6_clearBuffer 2 (some .int)) ∈ wsL_law := qL_34 (List.mem_of_getElem? (i := 9) rfl)
theorem q_34_10 : (Cond.methodLink RL 153 yX7_clearBuffer) ∈ wsL_law := qL_34 (List.mem_of_getElem? (i := 10) rfl)
theorem q_34_11 : (Cond.instanceMethod yX7_clearBuffer) ∈ wsL_law := qL_34 (List.mem_of_getElem? (i := 11) rfl)
theorem q_34_12 : (Cond.selects RX7 yX7_clearBuffer yX7_clearBuffer) ∈ wsL_law := qL_34 (List.mem_of_getElem? (i := 12) rfl)
theorem q_34_13 : (Cond.code yX7_clearBuffer cX7_clearBuffer 2 (some .int)) ∈ wsL_law := qL_34 (List.mem_of_getElem? (i := 13) rfl)
theorem q_34_14 : (Cond.methodLink RL 154 yX6_firstError) ∈ wsL_law := qL_34 (List.mem_of_getElem? (i := 14) rfl)
theorem q_34_15 : (Cond.instanceMethod yX6_firstError) ∈ wsL_law := qL_34 (List.mem_of_getElem? (i := 15) rfl)
theorem q_34_16 : (Cond.selects RX6 yX6_firstError yX6_firstError) ∈ wsL_law := qL_34 (List.mem_of_getElem? (i := 16) rfl)
theorem q_34_17 : (Cond.code yX6_firstError cX6_firstError 1 (some .int)) ∈ wsL_law := qL_34 (List.mem_of_getElem? (i := 17) rfl)
theorem q_34_18 : (Cond.methodLink RL 157 yX7_firstError) ∈ wsL_law := qL_34 (List.mem_of_getElem? (i := 18) rfl)
theorem q_34_19 : (Cond.instanceMethod yX7_firstError) ∈ wsL_law := qL_34 (List.mem_of_getElem? (i := 19) rfl)
theorem q_34_20 : (Cond.selects RX7 yX7_firstError yX7_firstError) ∈ wsL_law := qL_34 (List.mem_of_getElem? (i := 20) rfl)
theorem q_34_21 : (Cond.code yX7_firstError cX7_firstError 1 (some .int)) ∈ wsL_law := qL_34 (List.mem_of_getElem? (i := 21) rfl)
theorem q_34_22 : (Cond.methodLink RL 158 yL_undo) ∈ wsL_law := qL_34 (List.mem_of_getElem? (i := 22) rfl)
theorem q_34_23 : (Cond.static yL_undo) ∈ wsL_law := qL_34 (List.mem_of_getElem? (i := 23) rfl)
theorem qL_35 {w : Cond} (h : w ∈ wsL_law0_r35) : w ∈ wsL_law := qL_app (List.mem_append_left _ (List.mem_append_left _ (List.mem_append_left _ (List.mem_append_left _ (List.mem_append_left _ (List.mem_append_left _ (List.mem_append_left _ (List.mem_append_left _ (List.mem_append_left _ (List.mem_append_right _ (List.mem_append_right _ (List.mem_append_right _ (List.mem_append_right _ (List.mem_append_right _ (List.mem_append_right _ (List.mem_append_right _ (List.mem_append_right _ (List.mem_append_right _ (List.mem_append_right _ (List.mem_append_right _ (List.mem_append_right _ (List.mem_append_right _ (List.mem_append_right _ (List.mem_append_right _ (List.mem_append_right _ (List.mem_append_right _ (List.mem_append_right _ (List.mem_append_right _ (List.mem_append_right _ (List.mem_append_right _ (List.mem_append_right _ (List.mem_append_right _ (List.mem_append_right _ (List.mem_append_right _ (List.mem_append_right _ (List.mem_append_right _ (List.mem_append_right _ (List.mem_append_right _ (List.mem_append_right _ (List.mem_append_right _ (List.mem_append_right _ (List.mem_append_right _ (List.mem_append_right _ (List.mem_append_left _ h))))))))))))))))))))))))))))))))))))))))))))
theorem q_35_0 : (Cond.codeWith yL_undo cL_undo 3 (some .int) [(0, 8, 11, 21)]) ∈ wsL_law := qL_35 (List.mem_of_getElem? (i := 0) rfl)
theorem q_35_1 : (Cond.methodLink RL 68 yX6_undo) ∈ wsL_law := qL_35 (List.mem_of_getElem? (i := 1) rfl)
theorem q_35_2 : (Cond.instanceMethod yX6_undo) ∈ wsL_law := qL_35 (List.mem_of_getElem? (i := 2) rfl)
theorem q_35_3 : (Cond.selects RX6 yX6_undo yX6_undo) ∈ wsL_law := qL_35 (List.mem_of_getElem? (i := 3) rfl)
theorem q_35_4 : (Cond.code yX6_undo cX6_undo 1 (some .int)) ∈ wsL_law := qL_35 (List.mem_of_getElem? (i := 4) rfl)
theorem q_35_5 : (Cond.methodLink RX6 202 yX1_restore) ∈ wsL_law := qL_35 (List.mem_of_getElem? (i := 5) rfl)
theorem q_35_6 : (Cond.instanceMethod yX1_restore) ∈ wsL_law := qL_35 (List.mem_of_getElem? (i := 6) rfl)
theorem q_35_7 : (Cond.selects RX1 yX1_restore yX1_restore) ∈ wsL_law := qL_35 (List.mem_of_getElem? (i := 7) rfl)
theorem q_35_8 : (Cond.code yX1_restore cX1_restore 4 none) ∈ wsL_law := qL_35 (List.mem_of_getElem? (i := 8) rfl)
theorem q_35_9 : (Cond.methodLink RL 160 yX7_undo) ∈ wsL_law := qL_35 (List.mem_of_getElem? (i := 9) rfl)
theorem q_35_10 : (Cond.instanceMethod yX7_undo) ∈ wsL_law := qL_35 (List.mem_of_getElem? (i := 10) rfl)
theorem q_35_11 : (Cond.selects RX7 yX7_undo yX7_undo) ∈ wsL_law := qL_35 (List.mem_of_getElem? (i := 11) rfl)
theorem q_35_12 : (Cond.code yX7_undo cX7_undo 2 (some .int)) ∈ wsL_law := qL_35 (List.mem_of_getElem? (i := 12) rfl)
theorem q_35_13 : (Cond.methodLink RL 161 yX6_savedStates) ∈ wsL_law := qL_35 (List.mem_of_getElem? (i := 13) rfl)
theorem q_35_14 : (Cond.instanceMethod yX6_savedStates) ∈ wsL_law := qL_35 (List.mem_of_getElem? (i := 14) rfl)
theorem q_35_15 : (Cond.selects RX6 yX6_savedStates yX6_savedStates) ∈ wsL_law := qL_35 (List.mem_of_getElem? (i := 15) rfl)
theorem q_35_16 : (Cond.code yX6_savedStates cX6_savedStates 1 (some .int)) ∈ wsL_law := qL_35 (List.mem_of_getElem? (i := 16) rfl)
theorem q_35_17 : (Cond.methodLink RL 164 yX7_savedStates) ∈ wsL_law := qL_35 (List.mem_of_getElem? (i := 17) rfl)
theorem q_35_18 : (Cond.instanceMethod yX7_savedStates) ∈ wsL_law := qL_35 (List.mem_of_getElem? (i := 18) rfl)
theorem q_35_19 : (Cond.selects RX7 yX7_savedStates yX7_savedStates) ∈ wsL_law := qL_35 (List.mem_of_getElem? (i := 19) rfl)
theorem q_35_20 : (Cond.code yX7_savedStates cX7_savedStates 1 (some .int)) ∈ wsL_law := qL_35 (List.mem_of_getElem? (i := 20) rfl)
theorem q_35_21 : (Cond.methodLink RL 165 yX6_digest) ∈ wsL_law := qL_35 (List.mem_of_getElem? (i := 21) rfl)
theorem q_35_22 : (Cond.instanceMethod yX6_digest) ∈ wsL_law := qL_35 (List.mem_of_getElem? (i := 22) rfl)
theorem q_35_23 : (Cond.selects RX6 yX6_digest yX6_digest) ∈ wsL_law := qL_35 (List.mem_of_getElem? (i := 23) rfl)
theorem qL_36 {w : Cond} (h : w ∈ wsL_law0_r36) : w ∈ wsL_law := qL_app (List.mem_append_left _ (List.mem_append_left _ (List.mem_append_left _ (List.mem_append_left _ (List.mem_append_left _ (List.mem_append_left _ (List.mem_append_left _ (List.mem_append_left _ (List.mem_append_left _ (List.mem_append_right _ (List.mem_append_right _ (List.mem_append_right _ (List.mem_append_right _ (List.mem_append_right _ (List.mem_append_right _ (List.mem_append_right _ (List.mem_append_right _ (List.mem_append_right _ (List.mem_append_right _ (List.mem_append_right _ (List.mem_append_right _ (List.mem_append_right _ (List.mem_append_right _ (List.mem_append_right _ (List.mem_append_right _ (List.mem_append_right _ (List.mem_append_right _ (List.mem_append_right _ (List.mem_append_right _ (List.mem_append_right _ (List.mem_append_right _ (List.mem_append_right _ (List.mem_append_right _ (List.mem_append_right _ (List.mem_append_right _ (List.mem_append_right _ (List.mem_append_right _ (List.mem_append_right _ (List.mem_append_right _ (List.mem_append_right _ (List.mem_append_right _ (List.mem_append_right _ (List.mem_append_right _ (List.mem_append_right _ (List.mem_append_left _ h)))))))))))))))))))))))))))))))))))))))))))))
theorem q_36_0 : (Cond.code yX6_digest cX6_digest 5 (some .long)) ∈ wsL_law := qL_36 (List.mem_of_getElem? (i := 0) rfl)
theorem q_36_1 : (Cond.constantLong RX6 206 (4234)) ∈ wsL_law := qL_36 (List.mem_of_getElem? (i := 1) rfl)
theorem q_36_2 : (Cond.constantLong RX6 208 (31)) ∈ wsL_law := qL_36 (List.mem_of_getElem? (i := 2) rfl)
theorem q_36_3 : (Cond.methodLink RX6 210 yX6_statements) ∈ wsL_law := qL_36 (List.mem_of_getElem? (i := 3) rfl)
theorem q_36_4 : (Cond.methodLink RX6 213 yX6_endless) ∈ wsL_law := qL_36 (List.mem_of_getElem? (i := 4) rfl)
theorem q_36_5 : (Cond.methodLink RX6 216 yX6_proof) ∈ wsL_law := qL_36 (List.mem_of_getElem? (i := 5) rfl)
theorem q_36_6 : (Cond.methodLink RX6 219 yX6_kind) ∈ wsL_law := qL_36 (List.mem_of_getElem? (i := 6) rfl)
theorem q_36_7 : (Cond.methodLink RX6 222 yX6_target) ∈ wsL_law := qL_36 (List.mem_of_getElem? (i := 7) rfl)
theorem q_36_8 : (Cond.methodLink RX6 225 yX6_demand) ∈ wsL_law := qL_36 (List.mem_of_getElem? (i := 8) rfl)
theorem q_36_9 : (Cond.methodLink RX6 228 yX6_verdict) ∈ wsL_law := qL_36 (List.mem_of_getElem? (i := 9) rfl)
theorem q_36_10 : (Cond.methodLink RX6 231 yX6_example) ∈ wsL_law := qL_36 (List.mem_of_getElem? (i := 10) rfl)
theorem q_36_11 : (Cond.methodLink RX6 234 yX6_least) ∈ wsL_law := qL_36 (List.mem_of_getElem? (i := 11) rfl)
theorem q_36_12 : (Cond.methodLink RX6 237 yX6_greatest) ∈ wsL_law := qL_36 (List.mem_of_getElem? (i := 12) rfl)
theorem q_36_13 : (Cond.methodLink RX6 240 yX6_widest) ∈ wsL_law := qL_36 (List.mem_of_getElem? (i := 13) rfl)
theorem q_36_14 : (Cond.methodLink RL 169 yX7_digest) ∈ wsL_law := qL_36 (List.mem_of_getElem? (i := 14) rfl)
theorem q_36_15 : (Cond.instanceMethod yX7_digest) ∈ wsL_law := qL_36 (List.mem_of_getElem? (i := 15) rfl)
theorem q_36_16 : (Cond.selects RX7 yX7_digest yX7_digest) ∈ wsL_law := qL_36 (List.mem_of_getElem? (i := 16) rfl)
theorem q_36_17 : (Cond.code yX7_digest cX7_digest 2 (some .long)) ∈ wsL_law := qL_36 (List.mem_of_getElem? (i := 17) rfl)
theorem q_36_18 : (Cond.constantLong RX7 181 (4234)) ∈ wsL_law := qL_36 (List.mem_of_getElem? (i := 18) rfl)
theorem q_36_19 : (Cond.fieldLink RX7 173 "ClaimJudgeModel" "digested" "J") ∈ wsL_law := qL_36 (List.mem_of_getElem? (i := 19) rfl)
theorem q_36_20 : (Cond.methodLink RX7 177 yX7_digestOne) ∈ wsL_law := qL_36 (List.mem_of_getElem? (i := 20) rfl)
theorem q_36_21 : (Cond.instanceMethod yX7_digestOne) ∈ wsL_law := qL_36 (List.mem_of_getElem? (i := 21) rfl)
theorem q_36_22 : (Cond.selects RX7 yX7_digestOne yX7_digestOne) ∈ wsL_law := qL_36 (List.mem_of_getElem? (i := 22) rfl)
theorem q_36_23 : (Cond.code yX7_digestOne cX7_digestOne 3 none) ∈ wsL_law := qL_36 (List.mem_of_getElem? (i := 23) rfl)
theorem qL_37 {w : Cond} (h : w ∈ wsL_law0_r37) : w ∈ wsL_law := qL_app (List.mem_append_left _ (List.mem_append_left _ (List.mem_append_left _ (List.mem_append_left _ (List.mem_append_left _ (List.mem_append_left _ (List.mem_append_left _ (List.mem_append_left _ (List.mem_append_left _ (List.mem_append_right _ (List.mem_append_right _ (List.mem_append_right _ (List.mem_append_right _ (List.mem_append_right _ (List.mem_append_right _ (List.mem_append_right _ (List.mem_append_right _ (List.mem_append_right _ (List.mem_append_right _ (List.mem_append_right _ (List.mem_append_right _ (List.mem_append_right _ (List.mem_append_right _ (List.mem_append_right _ (List.mem_append_right _ (List.mem_append_right _ (List.mem_append_right _ (List.mem_append_right _ (List.mem_append_right _ (List.mem_append_right _ (List.mem_append_right _ (List.mem_append_right _ (List.mem_append_right _ (List.mem_append_right _ (List.mem_append_right _ (List.mem_append_right _ (List.mem_append_right _ (List.mem_append_right _ (List.mem_append_right _ (List.mem_append_right _ (List.mem_append_right _ (List.mem_append_right _ (List.mem_append_right _ (List.mem_append_right _ (List.mem_append_right _ (h))))))))))))))))))))))))))))))))))))))))))))))
theorem q_37_0 : (Cond.constantLong RX7 171 (31)) ∈ wsL_law := qL_37 (List.mem_of_getElem? (i := 0) rfl)
theorem q_37_1 : (Cond.methodLink RX7 183 yX7_digestBounds) ∈ wsL_law := qL_37 (List.mem_of_getElem? (i := 1) rfl)
theorem q_37_2 : (Cond.instanceMethod yX7_digestBounds) ∈ wsL_law := qL_37 (List.mem_of_getElem? (i := 2) rfl)
theorem q_37_3 : (Cond.selects RX7 yX7_digestBounds yX7_digestBounds) ∈ wsL_law := qL_37 (List.mem_of_getElem? (i := 3) rfl)
theorem q_37_4 : (Cond.code yX7_digestBounds cX7_digestBounds 3 none) ∈ wsL_law := qL_37 (List.mem_of_getElem? (i := 4) rfl)
set_option maxRecDepth 100000 in
set_option maxHeartbeats 4000000 in
theorem qL_good : wsL_law.all goodWord = true := by decide +kernel
end
