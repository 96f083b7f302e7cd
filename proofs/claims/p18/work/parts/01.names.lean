-- ===== PART A: goes FIRST, ahead of the names: the tables' words, and 'selects' of the private methods out of them =====
/-- a private method of a class that the tables say can be made, by its rows of tables_1 -/
def lw_okq (q : MethodName × Nat) : Prop := (q.1.cls ≠ "java/lang/invoke/MethodHandle" ∧ q.1.cls ≠ "java/lang/invoke/VarHandle") ∧ Cond.instantiable q.1.cls q.2 ∈ tables_1 ∧ Cond.privateMethod q.1 ∈ tables_1 ∧ Cond.instanceMethod q.1 ∈ tables_1
theorem lw_p0 : lw_okq (⟨"PaidMistakes", "putBytes", "(I)V"⟩, 11) := ⟨⟨by decide +kernel, by decide +kernel⟩, List.mem_of_getElem? (i := 20) (by decide +kernel), List.mem_of_getElem? (i := 339) (by decide +kernel), List.mem_of_getElem? (i := 340) (by decide +kernel)⟩
theorem lw_p1 : lw_okq (⟨"PaidMistakes$Text", "cutToken", "([III)I"⟩, 9) := ⟨⟨by decide +kernel, by decide +kernel⟩, List.mem_of_getElem? (i := 203) (by decide +kernel), List.mem_of_getElem? (i := 358) (by decide +kernel), List.mem_of_getElem? (i := 359) (by decide +kernel)⟩
theorem lw_p2 : lw_okq (⟨"PaidMistakes$Text", "cutNumber", "([III)I"⟩, 9) := ⟨⟨by decide +kernel, by decide +kernel⟩, List.mem_of_getElem? (i := 203) (by decide +kernel), List.mem_of_getElem? (i := 368) (by decide +kernel), List.mem_of_getElem? (i := 369) (by decide +kernel)⟩
theorem lw_p3 : lw_okq (⟨"PaidMistakes$Text", "addToken", "(III)V"⟩, 9) := ⟨⟨by decide +kernel, by decide +kernel⟩, List.mem_of_getElem? (i := 203) (by decide +kernel), List.mem_of_getElem? (i := 372) (by decide +kernel), List.mem_of_getElem? (i := 373) (by decide +kernel)⟩
theorem lw_p4 : lw_okq (⟨"PaidMistakes$Text", "cutWord", "([III)I"⟩, 9) := ⟨⟨by decide +kernel, by decide +kernel⟩, List.mem_of_getElem? (i := 203) (by decide +kernel), List.mem_of_getElem? (i := 379) (by decide +kernel), List.mem_of_getElem? (i := 380) (by decide +kernel)⟩
theorem lw_p5 : lw_okq (⟨"PaidMistakes$Work", "readClause", "(LPaidMistakes$Text;I)V"⟩, 18) := ⟨⟨by decide +kernel, by decide +kernel⟩, List.mem_of_getElem? (i := 32) (by decide +kernel), List.mem_of_getElem? (i := 465) (by decide +kernel), List.mem_of_getElem? (i := 466) (by decide +kernel)⟩
theorem lw_p6 : lw_okq (⟨"PaidMistakes$Work", "readKind", "(LPaidMistakes$Text;)V"⟩, 18) := ⟨⟨by decide +kernel, by decide +kernel⟩, List.mem_of_getElem? (i := 32) (by decide +kernel), List.mem_of_getElem? (i := 479) (by decide +kernel), List.mem_of_getElem? (i := 480) (by decide +kernel)⟩
theorem lw_p7 : lw_okq (⟨"PaidMistakes$Work", "readFault", "(LPaidMistakes$Text;)V"⟩, 18) := ⟨⟨by decide +kernel, by decide +kernel⟩, List.mem_of_getElem? (i := 32) (by decide +kernel), List.mem_of_getElem? (i := 484) (by decide +kernel), List.mem_of_getElem? (i := 485) (by decide +kernel)⟩
theorem lw_p8 : lw_okq (⟨"PaidMistakes$Work", "orderLooks", "()V"⟩, 18) := ⟨⟨by decide +kernel, by decide +kernel⟩, List.mem_of_getElem? (i := 32) (by decide +kernel), List.mem_of_getElem? (i := 493) (by decide +kernel), List.mem_of_getElem? (i := 494) (by decide +kernel)⟩
theorem lw_p9 : lw_okq (⟨"PaidMistakes$RuleReader", "readSum", "()V"⟩, 8) := ⟨⟨by decide +kernel, by decide +kernel⟩, List.mem_of_getElem? (i := 197) (by decide +kernel), List.mem_of_getElem? (i := 527) (by decide +kernel), List.mem_of_getElem? (i := 528) (by decide +kernel)⟩
theorem lw_p10 : lw_okq (⟨"PaidMistakes$RuleReader", "readValue", "()V"⟩, 8) := ⟨⟨by decide +kernel, by decide +kernel⟩, List.mem_of_getElem? (i := 197) (by decide +kernel), List.mem_of_getElem? (i := 531) (by decide +kernel), List.mem_of_getElem? (i := 532) (by decide +kernel)⟩
theorem lw_p11 : lw_okq (⟨"PaidMistakes$RuleReader", "emit", "(I)V"⟩, 8) := ⟨⟨by decide +kernel, by decide +kernel⟩, List.mem_of_getElem? (i := 197) (by decide +kernel), List.mem_of_getElem? (i := 535) (by decide +kernel), List.mem_of_getElem? (i := 536) (by decide +kernel)⟩
theorem lw_p12 : lw_okq (⟨"PaidMistakes$RuleReader", "readTest", "(I)V"⟩, 8) := ⟨⟨by decide +kernel, by decide +kernel⟩, List.mem_of_getElem? (i := 197) (by decide +kernel), List.mem_of_getElem? (i := 539) (by decide +kernel), List.mem_of_getElem? (i := 540) (by decide +kernel)⟩
theorem lw_p13 : lw_okq (⟨"PaidMistakes$RuleReader", "readFact", "(I)V"⟩, 8) := ⟨⟨by decide +kernel, by decide +kernel⟩, List.mem_of_getElem? (i := 197) (by decide +kernel), List.mem_of_getElem? (i := 543) (by decide +kernel), List.mem_of_getElem? (i := 544) (by decide +kernel)⟩
theorem lw_p14 : lw_okq (⟨"PaidMistakes$RuleReader", "readComparison", "()V"⟩, 8) := ⟨⟨by decide +kernel, by decide +kernel⟩, List.mem_of_getElem? (i := 197) (by decide +kernel), List.mem_of_getElem? (i := 547) (by decide +kernel), List.mem_of_getElem? (i := 548) (by decide +kernel)⟩
theorem lw_p15 : lw_okq (⟨"PaidMistakes", "isFault", "(I)Z"⟩, 11) := ⟨⟨by decide +kernel, by decide +kernel⟩, List.mem_of_getElem? (i := 20) (by decide +kernel), List.mem_of_getElem? (i := 612) (by decide +kernel), List.mem_of_getElem? (i := 613) (by decide +kernel)⟩
def lw_privs_1 : List (MethodName × Nat) := [(⟨"PaidMistakes", "putBytes", "(I)V"⟩, 11), (⟨"PaidMistakes$Text", "cutToken", "([III)I"⟩, 9), (⟨"PaidMistakes$Text", "cutNumber", "([III)I"⟩, 9), (⟨"PaidMistakes$Text", "addToken", "(III)V"⟩, 9), (⟨"PaidMistakes$Text", "cutWord", "([III)I"⟩, 9), (⟨"PaidMistakes$Work", "readClause", "(LPaidMistakes$Text;I)V"⟩, 18), (⟨"PaidMistakes$Work", "readKind", "(LPaidMistakes$Text;)V"⟩, 18), (⟨"PaidMistakes$Work", "readFault", "(LPaidMistakes$Text;)V"⟩, 18), (⟨"PaidMistakes$Work", "orderLooks", "()V"⟩, 18), (⟨"PaidMistakes$RuleReader", "readSum", "()V"⟩, 8), (⟨"PaidMistakes$RuleReader", "readValue", "()V"⟩, 8), (⟨"PaidMistakes$RuleReader", "emit", "(I)V"⟩, 8), (⟨"PaidMistakes$RuleReader", "readTest", "(I)V"⟩, 8), (⟨"PaidMistakes$RuleReader", "readFact", "(I)V"⟩, 8), (⟨"PaidMistakes$RuleReader", "readComparison", "()V"⟩, 8), (⟨"PaidMistakes", "isFault", "(I)Z"⟩, 11)]
theorem lw_r1 : ∀ q ∈ lw_privs_1, lw_okq q := List.forall_mem_cons.mpr ⟨lw_p0, List.forall_mem_cons.mpr ⟨lw_p1, List.forall_mem_cons.mpr ⟨lw_p2, List.forall_mem_cons.mpr ⟨lw_p3, List.forall_mem_cons.mpr ⟨lw_p4, List.forall_mem_cons.mpr ⟨lw_p5, List.forall_mem_cons.mpr ⟨lw_p6, List.forall_mem_cons.mpr ⟨lw_p7, List.forall_mem_cons.mpr ⟨lw_p8, List.forall_mem_cons.mpr ⟨lw_p9, List.forall_mem_cons.mpr ⟨lw_p10, List.forall_mem_cons.mpr ⟨lw_p11, List.forall_mem_cons.mpr ⟨lw_p12, List.forall_mem_cons.mpr ⟨lw_p13, List.forall_mem_cons.mpr ⟨lw_p14, List.forall_mem_cons.mpr ⟨lw_p15, fun _ h => absurd h List.not_mem_nil⟩⟩⟩⟩⟩⟩⟩⟩⟩⟩⟩⟩⟩⟩⟩⟩
theorem lw_p16 : lw_okq (⟨"PaidMistakes", "hasWork", "()Z"⟩, 11) := ⟨⟨by decide +kernel, by decide +kernel⟩, List.mem_of_getElem? (i := 20) (by decide +kernel), List.mem_of_getElem? (i := 663) (by decide +kernel), List.mem_of_getElem? (i := 664) (by decide +kernel)⟩
theorem lw_p17 : lw_okq (⟨"PaidMistakes$Work", "together", "([II)I"⟩, 18) := ⟨⟨by decide +kernel, by decide +kernel⟩, List.mem_of_getElem? (i := 32) (by decide +kernel), List.mem_of_getElem? (i := 680) (by decide +kernel), List.mem_of_getElem? (i := 681) (by decide +kernel)⟩
theorem lw_p18 : lw_okq (⟨"PaidMistakes", "ruleForWork", "(I)LPaidMistakes$Rule;"⟩, 11) := ⟨⟨by decide +kernel, by decide +kernel⟩, List.mem_of_getElem? (i := 20) (by decide +kernel), List.mem_of_getElem? (i := 694) (by decide +kernel), List.mem_of_getElem? (i := 695) (by decide +kernel)⟩
theorem lw_p19 : lw_okq (⟨"PaidMistakes$Player", "nextFault", "(LPaidMistakes$Work;LPaidMistakes$Rule;LPaidMistakes$Day;)I"⟩, 1) := ⟨⟨by decide +kernel, by decide +kernel⟩, List.mem_of_getElem? (i := 269) (by decide +kernel), List.mem_of_getElem? (i := 702) (by decide +kernel), List.mem_of_getElem? (i := 703) (by decide +kernel)⟩
theorem lw_p20 : lw_okq (⟨"PaidMistakes$Player", "lookClause", "(LPaidMistakes$Work;LPaidMistakes$Rule;LPaidMistakes$Day;I)I"⟩, 1) := ⟨⟨by decide +kernel, by decide +kernel⟩, List.mem_of_getElem? (i := 269) (by decide +kernel), List.mem_of_getElem? (i := 709) (by decide +kernel), List.mem_of_getElem? (i := 710) (by decide +kernel)⟩
theorem lw_p21 : lw_okq (⟨"PaidMistakes$Player", "reckon", "([IIILPaidMistakes$Work;LPaidMistakes$Day;I)J"⟩, 1) := ⟨⟨by decide +kernel, by decide +kernel⟩, List.mem_of_getElem? (i := 269) (by decide +kernel), List.mem_of_getElem? (i := 713) (by decide +kernel), List.mem_of_getElem? (i := 714) (by decide +kernel)⟩
theorem lw_p22 : lw_okq (⟨"PaidMistakes$Player", "stopsAt", "(LPaidMistakes$Work;LPaidMistakes$Rule;LPaidMistakes$Day;I)Z"⟩, 1) := ⟨⟨by decide +kernel, by decide +kernel⟩, List.mem_of_getElem? (i := 269) (by decide +kernel), List.mem_of_getElem? (i := 728) (by decide +kernel), List.mem_of_getElem? (i := 729) (by decide +kernel)⟩
theorem lw_p23 : lw_okq (⟨"PaidMistakes", "rowMean", "(IIII)J"⟩, 11) := ⟨⟨by decide +kernel, by decide +kernel⟩, List.mem_of_getElem? (i := 20) (by decide +kernel), List.mem_of_getElem? (i := 755) (by decide +kernel), List.mem_of_getElem? (i := 756) (by decide +kernel)⟩
theorem lw_p24 : lw_okq (⟨"PaidMistakes$Planner", "earnedBy", "(LPaidMistakes$Work;IIII)J"⟩, 4) := ⟨⟨by decide +kernel, by decide +kernel⟩, List.mem_of_getElem? (i := 280) (by decide +kernel), List.mem_of_getElem? (i := 793) (by decide +kernel), List.mem_of_getElem? (i := 794) (by decide +kernel)⟩
theorem lw_p25 : lw_okq (⟨"PaidMistakes$Planner", "leastFree", "(LPaidMistakes$Work;I)I"⟩, 4) := ⟨⟨by decide +kernel, by decide +kernel⟩, List.mem_of_getElem? (i := 280) (by decide +kernel), List.mem_of_getElem? (i := 815) (by decide +kernel), List.mem_of_getElem? (i := 816) (by decide +kernel)⟩
theorem lw_p26 : lw_okq (⟨"PaidMistakes$Planner", "hiddenMean", "(LPaidMistakes$Work;III)J"⟩, 4) := ⟨⟨by decide +kernel, by decide +kernel⟩, List.mem_of_getElem? (i := 280) (by decide +kernel), List.mem_of_getElem? (i := 821) (by decide +kernel), List.mem_of_getElem? (i := 822) (by decide +kernel)⟩
theorem lw_p27 : lw_okq (⟨"PaidMistakesModel", "four", "(I)V"⟩, 36) := ⟨⟨by decide +kernel, by decide +kernel⟩, List.mem_of_getElem? (i := 877) (by decide +kernel), List.mem_of_getElem? (i := 997) (by decide +kernel), List.mem_of_getElem? (i := 998) (by decide +kernel)⟩
theorem lw_p28 : lw_okq (⟨"PaidMistakesModel", "readsAll", "()Z"⟩, 36) := ⟨⟨by decide +kernel, by decide +kernel⟩, List.mem_of_getElem? (i := 877) (by decide +kernel), List.mem_of_getElem? (i := 1009) (by decide +kernel), List.mem_of_getElem? (i := 1010) (by decide +kernel)⟩
theorem lw_p29 : lw_okq (⟨"PaidMistakesModel", "clauseHere", "()Z"⟩, 36) := ⟨⟨by decide +kernel, by decide +kernel⟩, List.mem_of_getElem? (i := 877) (by decide +kernel), List.mem_of_getElem? (i := 1013) (by decide +kernel), List.mem_of_getElem? (i := 1014) (by decide +kernel)⟩
theorem lw_p30 : lw_okq (⟨"PaidMistakesModel", "see", "()I"⟩, 36) := ⟨⟨by decide +kernel, by decide +kernel⟩, List.mem_of_getElem? (i := 877) (by decide +kernel), List.mem_of_getElem? (i := 1017) (by decide +kernel), List.mem_of_getElem? (i := 1018) (by decide +kernel)⟩
theorem lw_p31 : lw_okq (⟨"PaidMistakesModel", "isWord", "(J)Z"⟩, 36) := ⟨⟨by decide +kernel, by decide +kernel⟩, List.mem_of_getElem? (i := 877) (by decide +kernel), List.mem_of_getElem? (i := 1022) (by decide +kernel), List.mem_of_getElem? (i := 1023) (by decide +kernel)⟩
def lw_privs_2 : List (MethodName × Nat) := [(⟨"PaidMistakes", "hasWork", "()Z"⟩, 11), (⟨"PaidMistakes$Work", "together", "([II)I"⟩, 18), (⟨"PaidMistakes", "ruleForWork", "(I)LPaidMistakes$Rule;"⟩, 11), (⟨"PaidMistakes$Player", "nextFault", "(LPaidMistakes$Work;LPaidMistakes$Rule;LPaidMistakes$Day;)I"⟩, 1), (⟨"PaidMistakes$Player", "lookClause", "(LPaidMistakes$Work;LPaidMistakes$Rule;LPaidMistakes$Day;I)I"⟩, 1), (⟨"PaidMistakes$Player", "reckon", "([IIILPaidMistakes$Work;LPaidMistakes$Day;I)J"⟩, 1), (⟨"PaidMistakes$Player", "stopsAt", "(LPaidMistakes$Work;LPaidMistakes$Rule;LPaidMistakes$Day;I)Z"⟩, 1), (⟨"PaidMistakes", "rowMean", "(IIII)J"⟩, 11), (⟨"PaidMistakes$Planner", "earnedBy", "(LPaidMistakes$Work;IIII)J"⟩, 4), (⟨"PaidMistakes$Planner", "leastFree", "(LPaidMistakes$Work;I)I"⟩, 4), (⟨"PaidMistakes$Planner", "hiddenMean", "(LPaidMistakes$Work;III)J"⟩, 4), (⟨"PaidMistakesModel", "four", "(I)V"⟩, 36), (⟨"PaidMistakesModel", "readsAll", "()Z"⟩, 36), (⟨"PaidMistakesModel", "clauseHere", "()Z"⟩, 36), (⟨"PaidMistakesModel", "see", "()I"⟩, 36), (⟨"PaidMistakesModel", "isWord", "(J)Z"⟩, 36)]
theorem lw_r2 : ∀ q ∈ lw_privs_2, lw_okq q := List.forall_mem_cons.mpr ⟨lw_p16, List.forall_mem_cons.mpr ⟨lw_p17, List.forall_mem_cons.mpr ⟨lw_p18, List.forall_mem_cons.mpr ⟨lw_p19, List.forall_mem_cons.mpr ⟨lw_p20, List.forall_mem_cons.mpr ⟨lw_p21, List.forall_mem_cons.mpr ⟨lw_p22, List.forall_mem_cons.mpr ⟨lw_p23, List.forall_mem_cons.mpr ⟨lw_p24, List.forall_mem_cons.mpr ⟨lw_p25, List.forall_mem_cons.mpr ⟨lw_p26, List.forall_mem_cons.mpr ⟨lw_p27, List.forall_mem_cons.mpr ⟨lw_p28, List.forall_mem_cons.mpr ⟨lw_p29, List.forall_mem_cons.mpr ⟨lw_p30, List.forall_mem_cons.mpr ⟨lw_p31, fun _ h => absurd h List.not_mem_nil⟩⟩⟩⟩⟩⟩⟩⟩⟩⟩⟩⟩⟩⟩⟩⟩
theorem lw_p32 : lw_okq (⟨"PaidMistakesModel", "isLetter", "(I)Z"⟩, 36) := ⟨⟨by decide +kernel, by decide +kernel⟩, List.mem_of_getElem? (i := 877) (by decide +kernel), List.mem_of_getElem? (i := 1026) (by decide +kernel), List.mem_of_getElem? (i := 1027) (by decide +kernel)⟩
theorem lw_p33 : lw_okq (⟨"PaidMistakesModel", "fails", "(II)Z"⟩, 36) := ⟨⟨by decide +kernel, by decide +kernel⟩, List.mem_of_getElem? (i := 877) (by decide +kernel), List.mem_of_getElem? (i := 1034) (by decide +kernel), List.mem_of_getElem? (i := 1035) (by decide +kernel)⟩
theorem lw_p34 : lw_okq (⟨"PaidMistakesModel", "isDoingHere", "(I)Z"⟩, 36) := ⟨⟨by decide +kernel, by decide +kernel⟩, List.mem_of_getElem? (i := 877) (by decide +kernel), List.mem_of_getElem? (i := 1038) (by decide +kernel), List.mem_of_getElem? (i := 1039) (by decide +kernel)⟩
theorem lw_p35 : lw_okq (⟨"PaidMistakesModel", "passWord", "()V"⟩, 36) := ⟨⟨by decide +kernel, by decide +kernel⟩, List.mem_of_getElem? (i := 877) (by decide +kernel), List.mem_of_getElem? (i := 1042) (by decide +kernel), List.mem_of_getElem? (i := 1043) (by decide +kernel)⟩
theorem lw_p36 : lw_okq (⟨"PaidMistakesModel", "sum", "()Z"⟩, 36) := ⟨⟨by decide +kernel, by decide +kernel⟩, List.mem_of_getElem? (i := 877) (by decide +kernel), List.mem_of_getElem? (i := 1046) (by decide +kernel), List.mem_of_getElem? (i := 1047) (by decide +kernel)⟩
theorem lw_p37 : lw_okq (⟨"PaidMistakesModel", "term", "()Z"⟩, 36) := ⟨⟨by decide +kernel, by decide +kernel⟩, List.mem_of_getElem? (i := 877) (by decide +kernel), List.mem_of_getElem? (i := 1050) (by decide +kernel), List.mem_of_getElem? (i := 1051) (by decide +kernel)⟩
theorem lw_p38 : lw_okq (⟨"PaidMistakesModel", "value", "()Z"⟩, 36) := ⟨⟨by decide +kernel, by decide +kernel⟩, List.mem_of_getElem? (i := 877) (by decide +kernel), List.mem_of_getElem? (i := 1054) (by decide +kernel), List.mem_of_getElem? (i := 1055) (by decide +kernel)⟩
theorem lw_p39 : lw_okq (⟨"PaidMistakesModel", "isDigit", "(I)Z"⟩, 36) := ⟨⟨by decide +kernel, by decide +kernel⟩, List.mem_of_getElem? (i := 877) (by decide +kernel), List.mem_of_getElem? (i := 1058) (by decide +kernel), List.mem_of_getElem? (i := 1059) (by decide +kernel)⟩
theorem lw_p40 : lw_okq (⟨"PaidMistakesModel", "numberHere", "(II)Z"⟩, 36) := ⟨⟨by decide +kernel, by decide +kernel⟩, List.mem_of_getElem? (i := 877) (by decide +kernel), List.mem_of_getElem? (i := 1063) (by decide +kernel), List.mem_of_getElem? (i := 1064) (by decide +kernel)⟩
theorem lw_p41 : lw_okq (⟨"PaidMistakesModel", "makes", "(I)Z"⟩, 36) := ⟨⟨by decide +kernel, by decide +kernel⟩, List.mem_of_getElem? (i := 877) (by decide +kernel), List.mem_of_getElem? (i := 1070) (by decide +kernel), List.mem_of_getElem? (i := 1071) (by decide +kernel)⟩
theorem lw_p42 : lw_okq (⟨"PaidMistakesModel", "puts", "(II)V"⟩, 36) := ⟨⟨by decide +kernel, by decide +kernel⟩, List.mem_of_getElem? (i := 877) (by decide +kernel), List.mem_of_getElem? (i := 1074) (by decide +kernel), List.mem_of_getElem? (i := 1075) (by decide +kernel)⟩
theorem lw_p43 : lw_okq (⟨"PaidMistakesModel", "wordHere", "()I"⟩, 36) := ⟨⟨by decide +kernel, by decide +kernel⟩, List.mem_of_getElem? (i := 877) (by decide +kernel), List.mem_of_getElem? (i := 1078) (by decide +kernel), List.mem_of_getElem? (i := 1079) (by decide +kernel)⟩
theorem lw_p44 : lw_okq (⟨"PaidMistakesModel", "takesWord", "(J)Z"⟩, 36) := ⟨⟨by decide +kernel, by decide +kernel⟩, List.mem_of_getElem? (i := 877) (by decide +kernel), List.mem_of_getElem? (i := 1090) (by decide +kernel), List.mem_of_getElem? (i := 1091) (by decide +kernel)⟩
theorem lw_p45 : lw_okq (⟨"PaidMistakesModel", "tested", "()Z"⟩, 36) := ⟨⟨by decide +kernel, by decide +kernel⟩, List.mem_of_getElem? (i := 877) (by decide +kernel), List.mem_of_getElem? (i := 1094) (by decide +kernel), List.mem_of_getElem? (i := 1095) (by decide +kernel)⟩
theorem lw_p46 : lw_okq (⟨"PaidMistakesModel", "fact", "()Z"⟩, 36) := ⟨⟨by decide +kernel, by decide +kernel⟩, List.mem_of_getElem? (i := 877) (by decide +kernel), List.mem_of_getElem? (i := 1098) (by decide +kernel), List.mem_of_getElem? (i := 1099) (by decide +kernel)⟩
theorem lw_p47 : lw_okq (⟨"PaidMistakesModel", "opens", "(I)Z"⟩, 36) := ⟨⟨by decide +kernel, by decide +kernel⟩, List.mem_of_getElem? (i := 877) (by decide +kernel), List.mem_of_getElem? (i := 1103) (by decide +kernel), List.mem_of_getElem? (i := 1104) (by decide +kernel)⟩
def lw_privs_3 : List (MethodName × Nat) := [(⟨"PaidMistakesModel", "isLetter", "(I)Z"⟩, 36), (⟨"PaidMistakesModel", "fails", "(II)Z"⟩, 36), (⟨"PaidMistakesModel", "isDoingHere", "(I)Z"⟩, 36), (⟨"PaidMistakesModel", "passWord", "()V"⟩, 36), (⟨"PaidMistakesModel", "sum", "()Z"⟩, 36), (⟨"PaidMistakesModel", "term", "()Z"⟩, 36), (⟨"PaidMistakesModel", "value", "()Z"⟩, 36), (⟨"PaidMistakesModel", "isDigit", "(I)Z"⟩, 36), (⟨"PaidMistakesModel", "numberHere", "(II)Z"⟩, 36), (⟨"PaidMistakesModel", "makes", "(I)Z"⟩, 36), (⟨"PaidMistakesModel", "puts", "(II)V"⟩, 36), (⟨"PaidMistakesModel", "wordHere", "()I"⟩, 36), (⟨"PaidMistakesModel", "takesWord", "(J)Z"⟩, 36), (⟨"PaidMistakesModel", "tested", "()Z"⟩, 36), (⟨"PaidMistakesModel", "fact", "()Z"⟩, 36), (⟨"PaidMistakesModel", "opens", "(I)Z"⟩, 36)]
theorem lw_r3 : ∀ q ∈ lw_privs_3, lw_okq q := List.forall_mem_cons.mpr ⟨lw_p32, List.forall_mem_cons.mpr ⟨lw_p33, List.forall_mem_cons.mpr ⟨lw_p34, List.forall_mem_cons.mpr ⟨lw_p35, List.forall_mem_cons.mpr ⟨lw_p36, List.forall_mem_cons.mpr ⟨lw_p37, List.forall_mem_cons.mpr ⟨lw_p38, List.forall_mem_cons.mpr ⟨lw_p39, List.forall_mem_cons.mpr ⟨lw_p40, List.forall_mem_cons.mpr ⟨lw_p41, List.forall_mem_cons.mpr ⟨lw_p42, List.forall_mem_cons.mpr ⟨lw_p43, List.forall_mem_cons.mpr ⟨lw_p44, List.forall_mem_cons.mpr ⟨lw_p45, List.forall_mem_cons.mpr ⟨lw_p46, List.forall_mem_cons.mpr ⟨lw_p47, fun _ h => absurd h List.not_mem_nil⟩⟩⟩⟩⟩⟩⟩⟩⟩⟩⟩⟩⟩⟩⟩⟩
theorem lw_p48 : lw_okq (⟨"PaidMistakesModel", "compare", "()Z"⟩, 36) := ⟨⟨by decide +kernel, by decide +kernel⟩, List.mem_of_getElem? (i := 877) (by decide +kernel), List.mem_of_getElem? (i := 1107) (by decide +kernel), List.mem_of_getElem? (i := 1108) (by decide +kernel)⟩
theorem lw_p49 : lw_okq (⟨"PaidMistakesModel", "closes", "()V"⟩, 36) := ⟨⟨by decide +kernel, by decide +kernel⟩, List.mem_of_getElem? (i := 877) (by decide +kernel), List.mem_of_getElem? (i := 1111) (by decide +kernel), List.mem_of_getElem? (i := 1112) (by decide +kernel)⟩
theorem lw_p50 : lw_okq (⟨"PaidMistakesModel", "settles", "(I)V"⟩, 36) := ⟨⟨by decide +kernel, by decide +kernel⟩, List.mem_of_getElem? (i := 877) (by decide +kernel), List.mem_of_getElem? (i := 1115) (by decide +kernel), List.mem_of_getElem? (i := 1116) (by decide +kernel)⟩
theorem lw_p51 : lw_okq (⟨"PaidMistakesModel", "isInside", "()Z"⟩, 36) := ⟨⟨by decide +kernel, by decide +kernel⟩, List.mem_of_getElem? (i := 877) (by decide +kernel), List.mem_of_getElem? (i := 1122) (by decide +kernel), List.mem_of_getElem? (i := 1123) (by decide +kernel)⟩
theorem lw_p52 : lw_okq (⟨"PaidMistakesModel", "isTimeHere", "(I)Z"⟩, 36) := ⟨⟨by decide +kernel, by decide +kernel⟩, List.mem_of_getElem? (i := 877) (by decide +kernel), List.mem_of_getElem? (i := 1128) (by decide +kernel), List.mem_of_getElem? (i := 1129) (by decide +kernel)⟩
theorem lw_p53 : lw_okq (⟨"PaidMistakesModel", "isKindHere", "(I)Z"⟩, 36) := ⟨⟨by decide +kernel, by decide +kernel⟩, List.mem_of_getElem? (i := 877) (by decide +kernel), List.mem_of_getElem? (i := 1132) (by decide +kernel), List.mem_of_getElem? (i := 1133) (by decide +kernel)⟩
theorem lw_p54 : lw_okq (⟨"PaidMistakesModel", "isFaultHere", "(I)Z"⟩, 36) := ⟨⟨by decide +kernel, by decide +kernel⟩, List.mem_of_getElem? (i := 877) (by decide +kernel), List.mem_of_getElem? (i := 1136) (by decide +kernel), List.mem_of_getElem? (i := 1137) (by decide +kernel)⟩
theorem lw_p55 : lw_okq (⟨"PaidMistakesModel", "isFault", "(I)Z"⟩, 36) := ⟨⟨by decide +kernel, by decide +kernel⟩, List.mem_of_getElem? (i := 877) (by decide +kernel), List.mem_of_getElem? (i := 1154) (by decide +kernel), List.mem_of_getElem? (i := 1155) (by decide +kernel)⟩
theorem lw_p56 : lw_okq (⟨"PaidMistakesModel", "faultOf", "(II)I"⟩, 36) := ⟨⟨by decide +kernel, by decide +kernel⟩, List.mem_of_getElem? (i := 877) (by decide +kernel), List.mem_of_getElem? (i := 1159) (by decide +kernel), List.mem_of_getElem? (i := 1160) (by decide +kernel)⟩
theorem lw_p57 : lw_okq (⟨"PaidMistakesModel", "isOpen", "(I)Z"⟩, 36) := ⟨⟨by decide +kernel, by decide +kernel⟩, List.mem_of_getElem? (i := 877) (by decide +kernel), List.mem_of_getElem? (i := 1163) (by decide +kernel), List.mem_of_getElem? (i := 1164) (by decide +kernel)⟩
theorem lw_p58 : lw_okq (⟨"PaidMistakesModel", "canLook", "(I)Z"⟩, 36) := ⟨⟨by decide +kernel, by decide +kernel⟩, List.mem_of_getElem? (i := 877) (by decide +kernel), List.mem_of_getElem? (i := 1171) (by decide +kernel), List.mem_of_getElem? (i := 1172) (by decide +kernel)⟩
theorem lw_p59 : lw_okq (⟨"PaidMistakesModel", "looks", "(I)Z"⟩, 36) := ⟨⟨by decide +kernel, by decide +kernel⟩, List.mem_of_getElem? (i := 877) (by decide +kernel), List.mem_of_getElem? (i := 1175) (by decide +kernel), List.mem_of_getElem? (i := 1176) (by decide +kernel)⟩
theorem lw_p60 : lw_okq (⟨"PaidMistakesModel", "draw", "(I)I"⟩, 36) := ⟨⟨by decide +kernel, by decide +kernel⟩, List.mem_of_getElem? (i := 877) (by decide +kernel), List.mem_of_getElem? (i := 1179) (by decide +kernel), List.mem_of_getElem? (i := 1180) (by decide +kernel)⟩
theorem lw_p61 : lw_okq (⟨"PaidMistakesModel", "kindOf", "(II)I"⟩, 36) := ⟨⟨by decide +kernel, by decide +kernel⟩, List.mem_of_getElem? (i := 877) (by decide +kernel), List.mem_of_getElem? (i := 1187) (by decide +kernel), List.mem_of_getElem? (i := 1188) (by decide +kernel)⟩
theorem lw_p62 : lw_okq (⟨"PaidMistakesModel", "isWork", "()Z"⟩, 36) := ⟨⟨by decide +kernel, by decide +kernel⟩, List.mem_of_getElem? (i := 877) (by decide +kernel), List.mem_of_getElem? (i := 1195) (by decide +kernel), List.mem_of_getElem? (i := 1196) (by decide +kernel)⟩
theorem lw_p63 : lw_okq (⟨"PaidMistakesModel", "hidden", "()I"⟩, 36) := ⟨⟨by decide +kernel, by decide +kernel⟩, List.mem_of_getElem? (i := 877) (by decide +kernel), List.mem_of_getElem? (i := 1209) (by decide +kernel), List.mem_of_getElem? (i := 1210) (by decide +kernel)⟩
def lw_privs_4 : List (MethodName × Nat) := [(⟨"PaidMistakesModel", "compare", "()Z"⟩, 36), (⟨"PaidMistakesModel", "closes", "()V"⟩, 36), (⟨"PaidMistakesModel", "settles", "(I)V"⟩, 36), (⟨"PaidMistakesModel", "isInside", "()Z"⟩, 36), (⟨"PaidMistakesModel", "isTimeHere", "(I)Z"⟩, 36), (⟨"PaidMistakesModel", "isKindHere", "(I)Z"⟩, 36), (⟨"PaidMistakesModel", "isFaultHere", "(I)Z"⟩, 36), (⟨"PaidMistakesModel", "isFault", "(I)Z"⟩, 36), (⟨"PaidMistakesModel", "faultOf", "(II)I"⟩, 36), (⟨"PaidMistakesModel", "isOpen", "(I)Z"⟩, 36), (⟨"PaidMistakesModel", "canLook", "(I)Z"⟩, 36), (⟨"PaidMistakesModel", "looks", "(I)Z"⟩, 36), (⟨"PaidMistakesModel", "draw", "(I)I"⟩, 36), (⟨"PaidMistakesModel", "kindOf", "(II)I"⟩, 36), (⟨"PaidMistakesModel", "isWork", "()Z"⟩, 36), (⟨"PaidMistakesModel", "hidden", "()I"⟩, 36)]
theorem lw_r4 : ∀ q ∈ lw_privs_4, lw_okq q := List.forall_mem_cons.mpr ⟨lw_p48, List.forall_mem_cons.mpr ⟨lw_p49, List.forall_mem_cons.mpr ⟨lw_p50, List.forall_mem_cons.mpr ⟨lw_p51, List.forall_mem_cons.mpr ⟨lw_p52, List.forall_mem_cons.mpr ⟨lw_p53, List.forall_mem_cons.mpr ⟨lw_p54, List.forall_mem_cons.mpr ⟨lw_p55, List.forall_mem_cons.mpr ⟨lw_p56, List.forall_mem_cons.mpr ⟨lw_p57, List.forall_mem_cons.mpr ⟨lw_p58, List.forall_mem_cons.mpr ⟨lw_p59, List.forall_mem_cons.mpr ⟨lw_p60, List.forall_mem_cons.mpr ⟨lw_p61, List.forall_mem_cons.mpr ⟨lw_p62, List.forall_mem_cons.mpr ⟨lw_p63, fun _ h => absurd h List.not_mem_nil⟩⟩⟩⟩⟩⟩⟩⟩⟩⟩⟩⟩⟩⟩⟩⟩
theorem lw_p64 : lw_okq (⟨"PaidMistakesModel", "begins", "()V"⟩, 36) := ⟨⟨by decide +kernel, by decide +kernel⟩, List.mem_of_getElem? (i := 877) (by decide +kernel), List.mem_of_getElem? (i := 1213) (by decide +kernel), List.mem_of_getElem? (i := 1214) (by decide +kernel)⟩
theorem lw_p65 : lw_okq (⟨"PaidMistakesModel", "isRule", "(I)Z"⟩, 36) := ⟨⟨by decide +kernel, by decide +kernel⟩, List.mem_of_getElem? (i := 877) (by decide +kernel), List.mem_of_getElem? (i := 1221) (by decide +kernel), List.mem_of_getElem? (i := 1222) (by decide +kernel)⟩
theorem lw_p66 : lw_okq (⟨"PaidMistakesModel", "passes", "(I)I"⟩, 36) := ⟨⟨by decide +kernel, by decide +kernel⟩, List.mem_of_getElem? (i := 877) (by decide +kernel), List.mem_of_getElem? (i := 1225) (by decide +kernel), List.mem_of_getElem? (i := 1226) (by decide +kernel)⟩
theorem lw_p67 : lw_okq (⟨"PaidMistakesModel", "nextFor", "(I)I"⟩, 36) := ⟨⟨by decide +kernel, by decide +kernel⟩, List.mem_of_getElem? (i := 877) (by decide +kernel), List.mem_of_getElem? (i := 1229) (by decide +kernel), List.mem_of_getElem? (i := 1230) (by decide +kernel)⟩
theorem lw_p68 : lw_okq (⟨"PaidMistakesModel", "clauseFor", "(II)I"⟩, 36) := ⟨⟨by decide +kernel, by decide +kernel⟩, List.mem_of_getElem? (i := 877) (by decide +kernel), List.mem_of_getElem? (i := 1233) (by decide +kernel), List.mem_of_getElem? (i := 1234) (by decide +kernel)⟩
theorem lw_p69 : lw_okq (⟨"PaidMistakesModel", "words", "(I)V"⟩, 36) := ⟨⟨by decide +kernel, by decide +kernel⟩, List.mem_of_getElem? (i := 877) (by decide +kernel), List.mem_of_getElem? (i := 1237) (by decide +kernel), List.mem_of_getElem? (i := 1238) (by decide +kernel)⟩
theorem lw_p70 : lw_okq (⟨"PaidMistakesModel", "thatAre", "(I)I"⟩, 36) := ⟨⟨by decide +kernel, by decide +kernel⟩, List.mem_of_getElem? (i := 877) (by decide +kernel), List.mem_of_getElem? (i := 1241) (by decide +kernel), List.mem_of_getElem? (i := 1242) (by decide +kernel)⟩
theorem lw_p71 : lw_okq (⟨"PaidMistakesModel", "reckons", "(III)J"⟩, 36) := ⟨⟨by decide +kernel, by decide +kernel⟩, List.mem_of_getElem? (i := 877) (by decide +kernel), List.mem_of_getElem? (i := 1248) (by decide +kernel), List.mem_of_getElem? (i := 1249) (by decide +kernel)⟩
theorem lw_p72 : lw_okq (⟨"PaidMistakesModel", "push", "(J)V"⟩, 36) := ⟨⟨by decide +kernel, by decide +kernel⟩, List.mem_of_getElem? (i := 877) (by decide +kernel), List.mem_of_getElem? (i := 1252) (by decide +kernel), List.mem_of_getElem? (i := 1253) (by decide +kernel)⟩
theorem lw_p73 : lw_okq (⟨"PaidMistakesModel", "pop", "()J"⟩, 36) := ⟨⟨by decide +kernel, by decide +kernel⟩, List.mem_of_getElem? (i := 877) (by decide +kernel), List.mem_of_getElem? (i := 1256) (by decide +kernel), List.mem_of_getElem? (i := 1257) (by decide +kernel)⟩
theorem lw_p74 : lw_okq (⟨"PaidMistakesModel", "stops", "(II)Z"⟩, 36) := ⟨⟨by decide +kernel, by decide +kernel⟩, List.mem_of_getElem? (i := 877) (by decide +kernel), List.mem_of_getElem? (i := 1263) (by decide +kernel), List.mem_of_getElem? (i := 1264) (by decide +kernel)⟩
theorem lw_p75 : lw_okq (⟨"PaidMistakesModel", "keeps", "()V"⟩, 36) := ⟨⟨by decide +kernel, by decide +kernel⟩, List.mem_of_getElem? (i := 877) (by decide +kernel), List.mem_of_getElem? (i := 1272) (by decide +kernel), List.mem_of_getElem? (i := 1273) (by decide +kernel)⟩
theorem lw_p76 : lw_okq (⟨"PaidMistakesModel", "putsBack", "()V"⟩, 36) := ⟨⟨by decide +kernel, by decide +kernel⟩, List.mem_of_getElem? (i := 877) (by decide +kernel), List.mem_of_getElem? (i := 1276) (by decide +kernel), List.mem_of_getElem? (i := 1277) (by decide +kernel)⟩
theorem lw_p77 : lw_okq (⟨"PaidMistakesModel", "meanOf", "(I)J"⟩, 36) := ⟨⟨by decide +kernel, by decide +kernel⟩, List.mem_of_getElem? (i := 877) (by decide +kernel), List.mem_of_getElem? (i := 1289) (by decide +kernel), List.mem_of_getElem? (i := 1290) (by decide +kernel)⟩
theorem lw_p78 : lw_okq (⟨"PaidMistakesModel", "comesOut", "(I)J"⟩, 36) := ⟨⟨by decide +kernel, by decide +kernel⟩, List.mem_of_getElem? (i := 877) (by decide +kernel), List.mem_of_getElem? (i := 1293) (by decide +kernel), List.mem_of_getElem? (i := 1294) (by decide +kernel)⟩
theorem lw_p79 : lw_okq (⟨"PaidMistakesModel", "hundreds", "(I)J"⟩, 36) := ⟨⟨by decide +kernel, by decide +kernel⟩, List.mem_of_getElem? (i := 877) (by decide +kernel), List.mem_of_getElem? (i := 1301) (by decide +kernel), List.mem_of_getElem? (i := 1302) (by decide +kernel)⟩
def lw_privs_5 : List (MethodName × Nat) := [(⟨"PaidMistakesModel", "begins", "()V"⟩, 36), (⟨"PaidMistakesModel", "isRule", "(I)Z"⟩, 36), (⟨"PaidMistakesModel", "passes", "(I)I"⟩, 36), (⟨"PaidMistakesModel", "nextFor", "(I)I"⟩, 36), (⟨"PaidMistakesModel", "clauseFor", "(II)I"⟩, 36), (⟨"PaidMistakesModel", "words", "(I)V"⟩, 36), (⟨"PaidMistakesModel", "thatAre", "(I)I"⟩, 36), (⟨"PaidMistakesModel", "reckons", "(III)J"⟩, 36), (⟨"PaidMistakesModel", "push", "(J)V"⟩, 36), (⟨"PaidMistakesModel", "pop", "()J"⟩, 36), (⟨"PaidMistakesModel", "stops", "(II)Z"⟩, 36), (⟨"PaidMistakesModel", "keeps", "()V"⟩, 36), (⟨"PaidMistakesModel", "putsBack", "()V"⟩, 36), (⟨"PaidMistakesModel", "meanOf", "(I)J"⟩, 36), (⟨"PaidMistakesModel", "comesOut", "(I)J"⟩, 36), (⟨"PaidMistakesModel", "hundreds", "(I)J"⟩, 36)]
theorem lw_r5 : ∀ q ∈ lw_privs_5, lw_okq q := List.forall_mem_cons.mpr ⟨lw_p64, List.forall_mem_cons.mpr ⟨lw_p65, List.forall_mem_cons.mpr ⟨lw_p66, List.forall_mem_cons.mpr ⟨lw_p67, List.forall_mem_cons.mpr ⟨lw_p68, List.forall_mem_cons.mpr ⟨lw_p69, List.forall_mem_cons.mpr ⟨lw_p70, List.forall_mem_cons.mpr ⟨lw_p71, List.forall_mem_cons.mpr ⟨lw_p72, List.forall_mem_cons.mpr ⟨lw_p73, List.forall_mem_cons.mpr ⟨lw_p74, List.forall_mem_cons.mpr ⟨lw_p75, List.forall_mem_cons.mpr ⟨lw_p76, List.forall_mem_cons.mpr ⟨lw_p77, List.forall_mem_cons.mpr ⟨lw_p78, List.forall_mem_cons.mpr ⟨lw_p79, fun _ h => absurd h List.not_mem_nil⟩⟩⟩⟩⟩⟩⟩⟩⟩⟩⟩⟩⟩⟩⟩⟩
theorem lw_p80 : lw_okq (⟨"PaidMistakesModel", "partOf", "(JJI)J"⟩, 36) := ⟨⟨by decide +kernel, by decide +kernel⟩, List.mem_of_getElem? (i := 877) (by decide +kernel), List.mem_of_getElem? (i := 1305) (by decide +kernel), List.mem_of_getElem? (i := 1306) (by decide +kernel)⟩
theorem lw_p81 : lw_okq (⟨"PaidMistakesModel", "goesThrough", "(I)V"⟩, 36) := ⟨⟨by decide +kernel, by decide +kernel⟩, List.mem_of_getElem? (i := 877) (by decide +kernel), List.mem_of_getElem? (i := 1321) (by decide +kernel), List.mem_of_getElem? (i := 1322) (by decide +kernel)⟩
theorem lw_p82 : lw_okq (⟨"PaidMistakesModel", "comesTo", "(II)V"⟩, 36) := ⟨⟨by decide +kernel, by decide +kernel⟩, List.mem_of_getElem? (i := 877) (by decide +kernel), List.mem_of_getElem? (i := 1325) (by decide +kernel), List.mem_of_getElem? (i := 1326) (by decide +kernel)⟩
theorem lw_p83 : lw_okq (⟨"PaidMistakesModel", "triesNext", "(I)Z"⟩, 36) := ⟨⟨by decide +kernel, by decide +kernel⟩, List.mem_of_getElem? (i := 877) (by decide +kernel), List.mem_of_getElem? (i := 1329) (by decide +kernel), List.mem_of_getElem? (i := 1330) (by decide +kernel)⟩
theorem lw_p84 : lw_okq (⟨"PaidMistakesModel", "takes", "(IIJJ)V"⟩, 36) := ⟨⟨by decide +kernel, by decide +kernel⟩, List.mem_of_getElem? (i := 877) (by decide +kernel), List.mem_of_getElem? (i := 1333) (by decide +kernel), List.mem_of_getElem? (i := 1334) (by decide +kernel)⟩
theorem lw_p85 : lw_okq (⟨"PaidMistakesModel", "triesAs", "(IZ)V"⟩, 36) := ⟨⟨by decide +kernel, by decide +kernel⟩, List.mem_of_getElem? (i := 877) (by decide +kernel), List.mem_of_getElem? (i := 1337) (by decide +kernel), List.mem_of_getElem? (i := 1338) (by decide +kernel)⟩
theorem lw_p86 : lw_okq (⟨"PaidMistakesModel", "gameOf", "(I)I"⟩, 36) := ⟨⟨by decide +kernel, by decide +kernel⟩, List.mem_of_getElem? (i := 877) (by decide +kernel), List.mem_of_getElem? (i := 1357) (by decide +kernel), List.mem_of_getElem? (i := 1358) (by decide +kernel)⟩
theorem lw_p87 : lw_okq (⟨"PaidMistakesModel", "couldBe", "(II)Z"⟩, 36) := ⟨⟨by decide +kernel, by decide +kernel⟩, List.mem_of_getElem? (i := 877) (by decide +kernel), List.mem_of_getElem? (i := 1375) (by decide +kernel), List.mem_of_getElem? (i := 1376) (by decide +kernel)⟩
def lw_privs_6 : List (MethodName × Nat) := [(⟨"PaidMistakesModel", "partOf", "(JJI)J"⟩, 36), (⟨"PaidMistakesModel", "goesThrough", "(I)V"⟩, 36), (⟨"PaidMistakesModel", "comesTo", "(II)V"⟩, 36), (⟨"PaidMistakesModel", "triesNext", "(I)Z"⟩, 36), (⟨"PaidMistakesModel", "takes", "(IIJJ)V"⟩, 36), (⟨"PaidMistakesModel", "triesAs", "(IZ)V"⟩, 36), (⟨"PaidMistakesModel", "gameOf", "(I)I"⟩, 36), (⟨"PaidMistakesModel", "couldBe", "(II)Z"⟩, 36)]
theorem lw_r6 : ∀ q ∈ lw_privs_6, lw_okq q := List.forall_mem_cons.mpr ⟨lw_p80, List.forall_mem_cons.mpr ⟨lw_p81, List.forall_mem_cons.mpr ⟨lw_p82, List.forall_mem_cons.mpr ⟨lw_p83, List.forall_mem_cons.mpr ⟨lw_p84, List.forall_mem_cons.mpr ⟨lw_p85, List.forall_mem_cons.mpr ⟨lw_p86, List.forall_mem_cons.mpr ⟨lw_p87, fun _ h => absurd h List.not_mem_nil⟩⟩⟩⟩⟩⟩⟩⟩
def lw_privs : List (MethodName × Nat) := lw_privs_1 ++ (lw_privs_2 ++ (lw_privs_3 ++ (lw_privs_4 ++ (lw_privs_5 ++ (lw_privs_6)))))
def lw_tbl : List Cond := k2_sels lw_privs ++ tables_1
theorem lw_privs_ok : ∀ q ∈ lw_privs, lw_okq q := by
  show ∀ q ∈ lw_privs_1 ++ (lw_privs_2 ++ (lw_privs_3 ++ (lw_privs_4 ++ (lw_privs_5 ++ (lw_privs_6))))), lw_okq q
  exact List.forall_mem_append.mpr ⟨lw_r1, List.forall_mem_append.mpr ⟨lw_r2, List.forall_mem_append.mpr ⟨lw_r3, List.forall_mem_append.mpr ⟨lw_r4, List.forall_mem_append.mpr ⟨lw_r5, lw_r6⟩⟩⟩⟩⟩
def RX0 : String := "PaidMistakes$Day"
def TX0 : u_T := fun k => match k with
  | 0 => ("PaidMistakes$Day", "left", "I", false)
  | 1 => ("PaidMistakes$Day", "earned", "I", false)
  | 2 => ("PaidMistakes$Day", "found", "I", false)
  | 3 => ("PaidMistakes$Day", "mended", "I", false)
  | 4 => ("PaidMistakes$Day", "x", "I", false)
  | _ => ("PaidMistakes$Day", "tries", "[I", true)
def tyX0 : Nat → FieldType := fun k => match k with
  | 0 => .int
  | 1 => .int
  | 2 => .int
  | 3 => .int
  | 4 => .int
  | _ => .array .int
theorem nmX0 : ∀ a, a < 6 → ∀ b, b < 6 → a ≠ b → (TX0 a).2.1 ≠ (TX0 b).2.1 := by decide +kernel
theorem tyX0_ok : ∀ k, k < 6 → parseFieldDescriptor (TX0 k).2.2.1 = some (tyX0 k) := by decide +kernel
abbrev cX0_init : ByteArray := prog_2_method_1_code
def yX0_init : MethodName := ⟨RX0, "<init>", "()V"⟩
abbrev cX0_copyFrom : ByteArray := prog_2_method_2_code
def yX0_copyFrom : MethodName := ⟨RX0, "copyFrom", "(LPaidMistakes$Day;)V"⟩
abbrev cX0_begin : ByteArray := prog_2_method_3_code
def yX0_begin : MethodName := ⟨RX0, "begin", "(I)V"⟩
abbrev cX0_gone : ByteArray := prog_2_method_4_code
def yX0_gone : MethodName := ⟨RX0, "gone", "()I"⟩
abbrev cX0_lookFor : ByteArray := prog_2_method_5_code
def yX0_lookFor : MethodName := ⟨RX0, "lookFor", "(LPaidMistakes$Work;I)Z"⟩
def RX1 : String := "PaidMistakes$Planner"
def TX1 : u_T := fun k => match k with
  | 0 => ("PaidMistakes$Planner", "keys", "[J", true)
  | 1 => ("PaidMistakes$Planner", "kept", "[J", true)
  | 2 => ("PaidMistakes$Planner", "setToMend", "I", false)
  | _ => ("PaidMistakes$Planner", "meanOfSet", "J", false)
def tyX1 : Nat → FieldType := fun k => match k with
  | 0 => .array .long
  | 1 => .array .long
  | 2 => .int
  | _ => .long
theorem nmX1 : ∀ a, a < 4 → ∀ b, b < 4 → a ≠ b → (TX1 a).2.1 ≠ (TX1 b).2.1 := by decide +kernel
theorem tyX1_ok : ∀ k, k < 4 → parseFieldDescriptor (TX1 k).2.2.1 = some (tyX1 k) := by decide +kernel
abbrev cX1_init : ByteArray := prog_3_method_1_code
def yX1_init : MethodName := ⟨RX1, "<init>", "()V"⟩
abbrev cX1_mostEarned : ByteArray := prog_3_method_2_code
def yX1_mostEarned : MethodName := ⟨RX1, "mostEarned", "(LPaidMistakes$Work;III)J"⟩
abbrev cX1_earnedBy : ByteArray := prog_3_method_3_code
def yX1_earnedBy : MethodName := ⟨RX1, "earnedBy", "(LPaidMistakes$Work;IIII)J"⟩
abbrev cX1_choice : ByteArray := prog_3_method_4_code
def yX1_choice : MethodName := ⟨RX1, "choice", "(LPaidMistakes$Work;III)I"⟩
abbrev cX1_hiddenMean : ByteArray := prog_3_method_5_code
def yX1_hiddenMean : MethodName := ⟨RX1, "hiddenMean", "(LPaidMistakes$Work;III)J"⟩
abbrev cX1_weighSets : ByteArray := prog_3_method_6_code
def yX1_weighSets : MethodName := ⟨RX1, "weighSets", "(LPaidMistakes$Work;III)V"⟩
abbrev cX1_leastFree : ByteArray := prog_3_method_7_code
def yX1_leastFree : MethodName := ⟨RX1, "leastFree", "(LPaidMistakes$Work;I)I"⟩
def RX2 : String := "PaidMistakes$Player"
def TX2 : u_T := fun k => match k with
  | _ => ("PaidMistakes$Player", "stack", "[J", true)
def tyX2 : Nat → FieldType := fun k => match k with
  | _ => .array .long
theorem nmX2 : ∀ a, a < 1 → ∀ b, b < 1 → a ≠ b → (TX2 a).2.1 ≠ (TX2 b).2.1 := by decide +kernel
theorem tyX2_ok : ∀ k, k < 1 → parseFieldDescriptor (TX2 k).2.2.1 = some (tyX2 k) := by decide +kernel
abbrev cX2_init : ByteArray := prog_4_method_1_code
def yX2_init : MethodName := ⟨RX2, "<init>", "()V"⟩
abbrev cX2_play : ByteArray := prog_4_method_2_code
def yX2_play : MethodName := ⟨RX2, "play", "(LPaidMistakes$Work;LPaidMistakes$Rule;LPaidMistakes$Day;)I"⟩
abbrev cX2_nextFault : ByteArray := prog_4_method_3_code
def yX2_nextFault : MethodName := ⟨RX2, "nextFault", "(LPaidMistakes$Work;LPaidMistakes$Rule;LPaidMistakes$Day;)I"⟩
abbrev cX2_lookClause : ByteArray := prog_4_method_4_code
def yX2_lookClause : MethodName := ⟨RX2, "lookClause", "(LPaidMistakes$Work;LPaidMistakes$Rule;LPaidMistakes$Day;I)I"⟩
abbrev cX2_stopsAt : ByteArray := prog_4_method_5_code
def yX2_stopsAt : MethodName := ⟨RX2, "stopsAt", "(LPaidMistakes$Work;LPaidMistakes$Rule;LPaidMistakes$Day;I)Z"⟩
abbrev cX2_reckon : ByteArray := prog_4_method_6_code
def yX2_reckon : MethodName := ⟨RX2, "reckon", "([IIILPaidMistakes$Work;LPaidMistakes$Day;I)J"⟩
abbrev cX2_wordOf : ByteArray := prog_4_method_7_code
def yX2_wordOf : MethodName := ⟨RX2, "wordOf", "(ILPaidMistakes$Work;LPaidMistakes$Day;I)J"⟩
abbrev cX2_join : ByteArray := prog_4_method_8_code
def yX2_join : MethodName := ⟨RX2, "join", "(IJJ)J"⟩
abbrev cX2_compares : ByteArray := prog_4_method_9_code
def yX2_compares : MethodName := ⟨RX2, "compares", "(IJJ)Z"⟩
def RX3 : String := "PaidMistakes$Rule"
def TX3 : u_T := fun k => match k with
  | 0 => ("PaidMistakes$Rule", "code", "[I", true)
  | 1 => ("PaidMistakes$Rule", "clauses", "I", true)
  | 2 => ("PaidMistakes$Rule", "begin", "[I", true)
  | 3 => ("PaidMistakes$Rule", "middle", "[I", true)
  | _ => ("PaidMistakes$Rule", "finish", "[I", true)
def tyX3 : Nat → FieldType := fun k => match k with
  | 0 => .array .int
  | 1 => .int
  | 2 => .array .int
  | 3 => .array .int
  | _ => .array .int
theorem nmX3 : ∀ a, a < 5 → ∀ b, b < 5 → a ≠ b → (TX3 a).2.1 ≠ (TX3 b).2.1 := by decide +kernel
theorem tyX3_ok : ∀ k, k < 5 → parseFieldDescriptor (TX3 k).2.2.1 = some (tyX3 k) := by decide +kernel
abbrev cX3_init : ByteArray := prog_5_method_1_code
def yX3_init : MethodName := ⟨RX3, "<init>", "([II[I[I[I)V"⟩
def RX4 : String := "PaidMistakes$RuleReader"
def TX4 : u_T := fun k => match k with
  | 0 => ("PaidMistakes$RuleReader", "text", "LPaidMistakes$Text;", true)
  | 1 => ("PaidMistakes$RuleReader", "code", "[I", true)
  | 2 => ("PaidMistakes$RuleReader", "length", "I", false)
  | 3 => ("PaidMistakes$RuleReader", "pieces", "I", false)
  | 4 => ("PaidMistakes$RuleReader", "clauses", "I", false)
  | 5 => ("PaidMistakes$RuleReader", "begin", "[I", true)
  | 6 => ("PaidMistakes$RuleReader", "middle", "[I", true)
  | _ => ("PaidMistakes$RuleReader", "finish", "[I", true)
def tyX4 : Nat → FieldType := fun k => match k with
  | 0 => .object "PaidMistakes$Text"
  | 1 => .array .int
  | 2 => .int
  | 3 => .int
  | 4 => .int
  | 5 => .array .int
  | 6 => .array .int
  | _ => .array .int
theorem nmX4 : ∀ a, a < 8 → ∀ b, b < 8 → a ≠ b → (TX4 a).2.1 ≠ (TX4 b).2.1 := by decide +kernel
theorem tyX4_ok : ∀ k, k < 8 → parseFieldDescriptor (TX4 k).2.2.1 = some (tyX4 k) := by decide +kernel
abbrev cX4_init : ByteArray := prog_6_method_1_code
def yX4_init : MethodName := ⟨RX4, "<init>", "()V"⟩
abbrev cX4_start : ByteArray := prog_6_method_2_code
def yX4_start : MethodName := ⟨RX4, "start", "()V"⟩
abbrev cX4_makeRule : ByteArray := prog_6_method_3_code
def yX4_makeRule : MethodName := ⟨RX4, "makeRule", "()LPaidMistakes$Rule;"⟩
abbrev cX4_readClause : ByteArray := prog_6_method_4_code
def yX4_readClause : MethodName := ⟨RX4, "readClause", "()V"⟩
abbrev cX4_readTest : ByteArray := prog_6_method_5_code
def yX4_readTest : MethodName := ⟨RX4, "readTest", "(I)V"⟩
abbrev cX4_readFact : ByteArray := prog_6_method_6_code
def yX4_readFact : MethodName := ⟨RX4, "readFact", "(I)V"⟩
abbrev cX4_readComparison : ByteArray := prog_6_method_7_code
def yX4_readComparison : MethodName := ⟨RX4, "readComparison", "()V"⟩
abbrev cX4_readSum : ByteArray := prog_6_method_8_code
def yX4_readSum : MethodName := ⟨RX4, "readSum", "()V"⟩
abbrev cX4_readValue : ByteArray := prog_6_method_9_code
def yX4_readValue : MethodName := ⟨RX4, "readValue", "()V"⟩
abbrev cX4_emit : ByteArray := prog_6_method_10_code
def yX4_emit : MethodName := ⟨RX4, "emit", "(I)V"⟩
def RX5 : String := "PaidMistakes$State"
def TX5 : u_T := fun k => match k with
  | 0 => ("PaidMistakes$State", "work", "LPaidMistakes$Work;", false)
  | 1 => ("PaidMistakes$State", "today", "LPaidMistakes$Day;", true)
  | 2 => ("PaidMistakes$State", "masterCoins", "I", false)
  | 3 => ("PaidMistakes$State", "earnedBefore", "I", false)
  | 4 => ("PaidMistakes$State", "days", "I", false)
  | 5 => ("PaidMistakes$State", "row", "[I", true)
  | 6 => ("PaidMistakes$State", "rowLength", "I", false)
  | _ => ("PaidMistakes$State", "game", "[I", true)
def tyX5 : Nat → FieldType := fun k => match k with
  | 0 => .object "PaidMistakes$Work"
  | 1 => .object "PaidMistakes$Day"
  | 2 => .int
  | 3 => .int
  | 4 => .int
  | 5 => .array .int
  | 6 => .int
  | _ => .array .int
theorem nmX5 : ∀ a, a < 8 → ∀ b, b < 8 → a ≠ b → (TX5 a).2.1 ≠ (TX5 b).2.1 := by decide +kernel
theorem tyX5_ok : ∀ k, k < 8 → parseFieldDescriptor (TX5 k).2.2.1 = some (tyX5 k) := by decide +kernel
abbrev cX5_init : ByteArray := prog_7_method_1_code
def yX5_init : MethodName := ⟨RX5, "<init>", "(LPaidMistakes$Work;)V"⟩
abbrev cX5_copyFrom : ByteArray := prog_7_method_2_code
def yX5_copyFrom : MethodName := ⟨RX5, "copyFrom", "(LPaidMistakes$State;)V"⟩
abbrev cX5_beginWork : ByteArray := prog_7_method_3_code
def yX5_beginWork : MethodName := ⟨RX5, "beginWork", "(LPaidMistakes$Work;)V"⟩
def RX6 : String := "PaidMistakes$Text"
def TX6 : u_T := fun k => match k with
  | 0 => ("PaidMistakes$Text", "codes", "[I", true)
  | 1 => ("PaidMistakes$Text", "places", "[I", true)
  | 2 => ("PaidMistakes$Text", "numbers", "[I", true)
  | 3 => ("PaidMistakes$Text", "tokens", "I", false)
  | 4 => ("PaidMistakes$Text", "next", "I", false)
  | 5 => ("PaidMistakes$Text", "code", "I", false)
  | 6 => ("PaidMistakes$Text", "place", "I", false)
  | 7 => ("PaidMistakes$Text", "number", "I", false)
  | _ => ("PaidMistakes$Text", "fault", "I", false)
def tyX6 : Nat → FieldType := fun k => match k with
  | 0 => .array .int
  | 1 => .array .int
  | 2 => .array .int
  | 3 => .int
  | 4 => .int
  | 5 => .int
  | 6 => .int
  | 7 => .int
  | _ => .int
theorem nmX6 : ∀ a, a < 9 → ∀ b, b < 9 → a ≠ b → (TX6 a).2.1 ≠ (TX6 b).2.1 := by decide +kernel
theorem tyX6_ok : ∀ k, k < 9 → parseFieldDescriptor (TX6 k).2.2.1 = some (tyX6 k) := by decide +kernel
abbrev cX6_init : ByteArray := prog_8_method_1_code
def yX6_init : MethodName := ⟨RX6, "<init>", "()V"⟩
abbrev cX6_open : ByteArray := prog_8_method_2_code
def yX6_open : MethodName := ⟨RX6, "open", "([II)V"⟩
abbrev cX6_cutToken : ByteArray := prog_8_method_3_code
def yX6_cutToken : MethodName := ⟨RX6, "cutToken", "([III)I"⟩
abbrev cX6_cutNumber : ByteArray := prog_8_method_4_code
def yX6_cutNumber : MethodName := ⟨RX6, "cutNumber", "([III)I"⟩
abbrev cX6_cutWord : ByteArray := prog_8_method_5_code
def yX6_cutWord : MethodName := ⟨RX6, "cutWord", "([III)I"⟩
abbrev cX6_isDigit : ByteArray := prog_8_method_6_code
def yX6_isDigit : MethodName := ⟨RX6, "isDigit", "(I)Z"⟩
abbrev cX6_isLetter : ByteArray := prog_8_method_7_code
def yX6_isLetter : MethodName := ⟨RX6, "isLetter", "(I)Z"⟩
abbrev cX6_clauseWord : ByteArray := prog_8_method_8_code
def yX6_clauseWord : MethodName := ⟨RX6, "clauseWord", "([III)I"⟩
abbrev cX6_valueWord : ByteArray := prog_8_method_9_code
def yX6_valueWord : MethodName := ⟨RX6, "valueWord", "([III)I"⟩
abbrev cX6_spells : ByteArray := prog_8_method_10_code
def yX6_spells : MethodName := ⟨RX6, "spells", "([IIILjava/lang/String;)Z"⟩
abbrev cX6_addToken : ByteArray := prog_8_method_11_code
def yX6_addToken : MethodName := ⟨RX6, "addToken", "(III)V"⟩
abbrev cX6_step : ByteArray := prog_8_method_12_code
def yX6_step : MethodName := ⟨RX6, "step", "()V"⟩
abbrev cX6_fail : ByteArray := prog_8_method_13_code
def yX6_fail : MethodName := ⟨RX6, "fail", "(I)V"⟩
abbrev cX6_takeNumber : ByteArray := prog_8_method_14_code
def yX6_takeNumber : MethodName := ⟨RX6, "takeNumber", "(II)I"⟩
abbrev cX6_anotherClause : ByteArray := prog_8_method_15_code
def yX6_anotherClause : MethodName := ⟨RX6, "anotherClause", "()Z"⟩
def RX7 : String := "PaidMistakes$Work"
def TX7 : u_T := fun k => match k with
  | 0 => ("PaidMistakes$Work", "serial", "I", true)
  | 1 => ("PaidMistakes$Work", "time", "I", false)
  | 2 => ("PaidMistakes$Work", "kinds", "I", false)
  | 3 => ("PaidMistakes$Work", "faults", "I", false)
  | 4 => ("PaidMistakes$Work", "timeTold", "Z", false)
  | 5 => ("PaidMistakes$Work", "kindPay", "[I", true)
  | 6 => ("PaidMistakes$Work", "kindHide", "[I", true)
  | 7 => ("PaidMistakes$Work", "kindMend", "[I", true)
  | 8 => ("PaidMistakes$Work", "kindOf", "[I", true)
  | 9 => ("PaidMistakes$Work", "minutes", "[I", true)
  | 10 => ("PaidMistakes$Work", "odds", "[I", true)
  | 11 => ("PaidMistakes$Work", "under", "[I", true)
  | 12 => ("PaidMistakes$Work", "pay", "[I", true)
  | 13 => ("PaidMistakes$Work", "hide", "[I", true)
  | 14 => ("PaidMistakes$Work", "mend", "[I", true)
  | 15 => ("PaidMistakes$Work", "oneLook", "[I", true)
  | 16 => ("PaidMistakes$Work", "byOneLook", "[I", true)
  | _ => ("PaidMistakes$Work", "longest", "I", false)
def tyX7 : Nat → FieldType := fun k => match k with
  | 0 => .int
  | 1 => .int
  | 2 => .int
  | 3 => .int
  | 4 => .boolean
  | 5 => .array .int
  | 6 => .array .int
  | 7 => .array .int
  | 8 => .array .int
  | 9 => .array .int
  | 10 => .array .int
  | 11 => .array .int
  | 12 => .array .int
  | 13 => .array .int
  | 14 => .array .int
  | 15 => .array .int
  | 16 => .array .int
  | _ => .int
theorem nmX7 : ∀ a, a < 18 → ∀ b, b < 18 → a ≠ b → (TX7 a).2.1 ≠ (TX7 b).2.1 := by decide +kernel
theorem tyX7_ok : ∀ k, k < 18 → parseFieldDescriptor (TX7 k).2.2.1 = some (tyX7 k) := by decide +kernel
abbrev cX7_init : ByteArray := prog_9_method_1_code
def yX7_init : MethodName := ⟨RX7, "<init>", "(I)V"⟩
abbrev cX7_readFrom : ByteArray := prog_9_method_2_code
def yX7_readFrom : MethodName := ⟨RX7, "readFrom", "(LPaidMistakes$Text;)V"⟩
abbrev cX7_orderLooks : ByteArray := prog_9_method_3_code
def yX7_orderLooks : MethodName := ⟨RX7, "orderLooks", "()V"⟩
abbrev cX7_readClause : ByteArray := prog_9_method_4_code
def yX7_readClause : MethodName := ⟨RX7, "readClause", "(LPaidMistakes$Text;I)V"⟩
abbrev cX7_readKind : ByteArray := prog_9_method_5_code
def yX7_readKind : MethodName := ⟨RX7, "readKind", "(LPaidMistakes$Text;)V"⟩
abbrev cX7_readFault : ByteArray := prog_9_method_6_code
def yX7_readFault : MethodName := ⟨RX7, "readFault", "(LPaidMistakes$Text;)V"⟩
abbrev cX7_isOpen : ByteArray := prog_9_method_7_code
def yX7_isOpen : MethodName := ⟨RX7, "isOpen", "(II)Z"⟩
abbrev cX7_mostByOneLook : ByteArray := prog_9_method_8_code
def yX7_mostByOneLook : MethodName := ⟨RX7, "mostByOneLook", "(II)I"⟩
abbrev cX7_hiddenCoins : ByteArray := prog_9_method_9_code
def yX7_hiddenCoins : MethodName := ⟨RX7, "hiddenCoins", "(I)I"⟩
abbrev cX7_payOf : ByteArray := prog_9_method_10_code
def yX7_payOf : MethodName := ⟨RX7, "payOf", "(I)I"⟩
abbrev cX7_mendingOf : ByteArray := prog_9_method_11_code
def yX7_mendingOf : MethodName := ⟨RX7, "mendingOf", "(I)I"⟩
abbrev cX7_together : ByteArray := prog_9_method_12_code
def yX7_together : MethodName := ⟨RX7, "together", "([II)I"⟩
abbrev cX7_couldBeFound : ByteArray := prog_9_method_13_code
def yX7_couldBeFound : MethodName := ⟨RX7, "couldBeFound", "(II)Z"⟩
def RX8 : String := "PaidMistakes"
def TX8 : u_T := fun k => match k with
  | 0 => ("PaidMistakes", "tape", "[I", true)
  | 1 => ("PaidMistakes", "tapeLength", "I", false)
  | 2 => ("PaidMistakes", "rules", "[LPaidMistakes$Rule;", true)
  | 3 => ("PaidMistakes", "ruleCount", "I", false)
  | 4 => ("PaidMistakes", "worksTold", "I", false)
  | 5 => ("PaidMistakes", "now", "LPaidMistakes$State;", true)
  | 6 => ("PaidMistakes", "images", "[LPaidMistakes$State;", true)
  | 7 => ("PaidMistakes", "trial", "LPaidMistakes$Day;", true)
  | 8 => ("PaidMistakes", "ruleReader", "LPaidMistakes$RuleReader;", true)
  | 9 => ("PaidMistakes", "player", "LPaidMistakes$Player;", true)
  | _ => ("PaidMistakes", "planner", "LPaidMistakes$Planner;", true)
def tyX8 : Nat → FieldType := fun k => match k with
  | 0 => .array .int
  | 1 => .int
  | 2 => .array (.object "PaidMistakes$Rule")
  | 3 => .int
  | 4 => .int
  | 5 => .object "PaidMistakes$State"
  | 6 => .array (.object "PaidMistakes$State")
  | 7 => .object "PaidMistakes$Day"
  | 8 => .object "PaidMistakes$RuleReader"
  | 9 => .object "PaidMistakes$Player"
  | _ => .object "PaidMistakes$Planner"
theorem nmX8 : ∀ a, a < 11 → ∀ b, b < 11 → a ≠ b → (TX8 a).2.1 ≠ (TX8 b).2.1 := by decide +kernel
theorem tyX8_ok : ∀ k, k < 11 → parseFieldDescriptor (TX8 k).2.2.1 = some (tyX8 k) := by decide +kernel
abbrev cX8_init : ByteArray := prog_1_method_1_code
def yX8_init : MethodName := ⟨RX8, "<init>", "()V"⟩
abbrev cX8_feed : ByteArray := prog_1_method_2_code
def yX8_feed : MethodName := ⟨RX8, "feed", "(IIIII)I"⟩
abbrev cX8_putBytes : ByteArray := prog_1_method_3_code
def yX8_putBytes : MethodName := ⟨RX8, "putBytes", "(I)V"⟩
abbrev cX8_end : ByteArray := prog_1_method_4_code
def yX8_end : MethodName := ⟨RX8, "end", "(I)I"⟩
abbrev cX8_work : ByteArray := prog_1_method_5_code
def yX8_work : MethodName := ⟨RX8, "work", "()I"⟩
abbrev cX8_rule : ByteArray := prog_1_method_6_code
def yX8_rule : MethodName := ⟨RX8, "rule", "()I"⟩
abbrev cX8_hasWork : ByteArray := prog_1_method_7_code
def yX8_hasWork : MethodName := ⟨RX8, "hasWork", "()Z"⟩
abbrev cX8_isFault : ByteArray := prog_1_method_8_code
def yX8_isFault : MethodName := ⟨RX8, "isFault", "(I)Z"⟩
abbrev cX8_kind : ByteArray := prog_1_method_9_code
def yX8_kind : MethodName := ⟨RX8, "kind", "(II)I"⟩
abbrev cX8_fault : ByteArray := prog_1_method_10_code
def yX8_fault : MethodName := ⟨RX8, "fault", "(II)I"⟩
abbrev cX8_count : ByteArray := prog_1_method_11_code
def yX8_count : MethodName := ⟨RX8, "count", "(I)I"⟩
abbrev cX8_coins : ByteArray := prog_1_method_12_code
def yX8_coins : MethodName := ⟨RX8, "coins", "(I)I"⟩
abbrev cX8_look : ByteArray := prog_1_method_13_code
def yX8_look : MethodName := ⟨RX8, "look", "(I)I"⟩
abbrev cX8_fine : ByteArray := prog_1_method_14_code
def yX8_fine : MethodName := ⟨RX8, "fine", "(I)I"⟩
abbrev cX8_mend : ByteArray := prog_1_method_15_code
def yX8_mend : MethodName := ⟨RX8, "mend", "(I)I"⟩
abbrev cX8_dawn : ByteArray := prog_1_method_16_code
def yX8_dawn : MethodName := ⟨RX8, "dawn", "()I"⟩
abbrev cX8_seed : ByteArray := prog_1_method_17_code
def yX8_seed : MethodName := ⟨RX8, "seed", "(I)I"⟩
abbrev cX8_ruleForWork : ByteArray := prog_1_method_18_code
def yX8_ruleForWork : MethodName := ⟨RX8, "ruleForWork", "(I)LPaidMistakes$Rule;"⟩
abbrev cX8_day : ByteArray := prog_1_method_19_code
def yX8_day : MethodName := ⟨RX8, "day", "(I)I"⟩
abbrev cX8_would : ByteArray := prog_1_method_20_code
def yX8_would : MethodName := ⟨RX8, "would", "(II)I"⟩
abbrev cX8_weeks : ByteArray := prog_1_method_21_code
def yX8_weeks : MethodName := ⟨RX8, "weeks", "(III)I"⟩
abbrev cX8_row : ByteArray := prog_1_method_22_code
def yX8_row : MethodName := ⟨RX8, "row", "(I)I"⟩
abbrev cX8_worth : ByteArray := prog_1_method_23_code
def yX8_worth : MethodName := ⟨RX8, "worth", "(I)J"⟩
abbrev cX8_seen : ByteArray := prog_1_method_24_code
def yX8_seen : MethodName := ⟨RX8, "seen", "(II)J"⟩
abbrev cX8_rowMean : ByteArray := prog_1_method_25_code
def yX8_rowMean : MethodName := ⟨RX8, "rowMean", "(IIII)J"⟩
abbrev cX8_best : ByteArray := prog_1_method_26_code
def yX8_best : MethodName := ⟨RX8, "best", "(II)J"⟩
abbrev cX8_master : ByteArray := prog_1_method_27_code
def yX8_master : MethodName := ⟨RX8, "master", "(II)J"⟩
abbrev cX8_game : ByteArray := prog_1_method_28_code
def yX8_game : MethodName := ⟨RX8, "game", "(II)I"⟩
abbrev cX8_rests : ByteArray := prog_1_method_29_code
def yX8_rests : MethodName := ⟨RX8, "rests", "()I"⟩
abbrev cX8_mixed : ByteArray := prog_1_method_30_code
def yX8_mixed : MethodName := ⟨RX8, "mixed", "(II)I"⟩
abbrev cX8_checks : ByteArray := prog_1_method_31_code
def yX8_checks : MethodName := ⟨RX8, "checks", "(II)I"⟩
abbrev cX8_fits : ByteArray := prog_1_method_32_code
def yX8_fits : MethodName := ⟨RX8, "fits", "(II)I"⟩
abbrev cX8_image : ByteArray := prog_1_method_33_code
def yX8_image : MethodName := ⟨RX8, "image", "(I)I"⟩
abbrev cX8_back : ByteArray := prog_1_method_34_code
def yX8_back : MethodName := ⟨RX8, "back", "(I)I"⟩
abbrev cX8_at : ByteArray := prog_1_method_35_code
def yX8_at : MethodName := ⟨RX8, "at", "([II)I"⟩
abbrev cX8_put : ByteArray := prog_1_method_36_code
def yX8_put : MethodName := ⟨RX8, "put", "([III)V"⟩
abbrev cX8_bit : ByteArray := prog_1_method_37_code
def yX8_bit : MethodName := ⟨RX8, "bit", "(I)I"⟩
abbrev cX8_has : ByteArray := prog_1_method_38_code
def yX8_has : MethodName := ⟨RX8, "has", "(II)Z"⟩
abbrev cX8_hundreds : ByteArray := prog_1_method_39_code
def yX8_hundreds : MethodName := ⟨RX8, "hundreds", "(I)J"⟩
abbrev cX8_partOf : ByteArray := prog_1_method_40_code
def yX8_partOf : MethodName := ⟨RX8, "partOf", "(JJI)J"⟩
def RX9 : String := "PaidMistakesModel"
def TX9 : u_T := fun k => match k with
  | 0 => ("PaidMistakesModel", "tape", "[B", true)
  | 1 => ("PaidMistakesModel", "taped", "I", false)
  | 2 => ("PaidMistakesModel", "rules", "I", false)
  | 3 => ("PaidMistakesModel", "sign", "[I", true)
  | 4 => ("PaidMistakesModel", "length", "[I", true)
  | 5 => ("PaidMistakesModel", "clause", "[I", true)
  | 6 => ("PaidMistakesModel", "clauses", "[I", true)
  | 7 => ("PaidMistakesModel", "timeRead", "I", false)
  | 8 => ("PaidMistakesModel", "kindsRead", "I", false)
  | 9 => ("PaidMistakesModel", "faultsRead", "I", false)
  | 10 => ("PaidMistakesModel", "kindRead", "[I", true)
  | 11 => ("PaidMistakesModel", "faultRead", "[I", true)
  | 12 => ("PaidMistakesModel", "next", "I", false)
  | 13 => ("PaidMistakesModel", "wrong", "I", false)
  | 14 => ("PaidMistakesModel", "number", "I", false)
  | 15 => ("PaidMistakesModel", "text", "I", false)
  | 16 => ("PaidMistakesModel", "made", "I", false)
  | 17 => ("PaidMistakesModel", "deep", "I", false)
  | 18 => ("PaidMistakesModel", "lines", "I", false)
  | 19 => ("PaidMistakesModel", "open", "[I", true)
  | 20 => ("PaidMistakesModel", "opened", "I", false)
  | 21 => ("PaidMistakesModel", "stack", "[J", true)
  | 22 => ("PaidMistakesModel", "top", "I", false)
  | 23 => ("PaidMistakesModel", "word", "[J", true)
  | 24 => ("PaidMistakesModel", "said", "[I", true)
  | 25 => ("PaidMistakesModel", "kept", "[I", true)
  | 26 => ("PaidMistakesModel", "triedAt", "[I", true)
  | 27 => ("PaidMistakesModel", "isFoundAt", "[Z", true)
  | 28 => ("PaidMistakesModel", "foundBrings", "[J", true)
  | 29 => ("PaidMistakesModel", "foundHides", "[J", true)
  | 30 => ("PaidMistakesModel", "bestBrings", "[J", true)
  | 31 => ("PaidMistakesModel", "bestHides", "[J", true)
  | 32 => ("PaidMistakesModel", "bestLook", "[I", true)
  | 33 => ("PaidMistakesModel", "leftAt", "[I", true)
  | 34 => ("PaidMistakesModel", "images", "[I", true)
  | _ => ("PaidMistakesModel", "isMade", "[Z", true)
def tyX9 : Nat → FieldType := fun k => match k with
  | 0 => .array .byte
  | 1 => .int
  | 2 => .int
  | 3 => .array .int
  | 4 => .array .int
  | 5 => .array .int
  | 6 => .array .int
  | 7 => .int
  | 8 => .int
  | 9 => .int
  | 10 => .array .int
  | 11 => .array .int
  | 12 => .int
  | 13 => .int
  | 14 => .int
  | 15 => .int
  | 16 => .int
  | 17 => .int
  | 18 => .int
  | 19 => .array .int
  | 20 => .int
  | 21 => .array .long
  | 22 => .int
  | 23 => .array .long
  | 24 => .array .int
  | 25 => .array .int
  | 26 => .array .int
  | 27 => .array .boolean
  | 28 => .array .long
  | 29 => .array .long
  | 30 => .array .long
  | 31 => .array .long
  | 32 => .array .int
  | 33 => .array .int
  | 34 => .array .int
  | _ => .array .boolean
theorem nmX9 : ∀ a, a < 36 → ∀ b, b < 36 → a ≠ b → (TX9 a).2.1 ≠ (TX9 b).2.1 := by decide +kernel
theorem tyX9_ok : ∀ k, k < 36 → parseFieldDescriptor (TX9 k).2.2.1 = some (tyX9 k) := by decide +kernel
abbrev cX9_init : ByteArray := prog_11_method_1_code
def yX9_init : MethodName := ⟨RX9, "<init>", "()V"⟩
abbrev cX9_in : ByteArray := prog_11_method_2_code
def yX9_in : MethodName := ⟨RX9, "in", "(JJJ)Z"⟩
abbrev cX9_isOf : ByteArray := prog_11_method_3_code
def yX9_isOf : MethodName := ⟨RX9, "isOf", "(II)Z"⟩
abbrev cX9_bits : ByteArray := prog_11_method_4_code
def yX9_bits : MethodName := ⟨RX9, "bits", "(I)I"⟩
abbrev cX9_divisor : ByteArray := prog_11_method_5_code
def yX9_divisor : MethodName := ⟨RX9, "divisor", "(JJ)J"⟩
abbrev cX9_four : ByteArray := prog_11_method_6_code
def yX9_four : MethodName := ⟨RX9, "four", "(I)V"⟩
abbrev cX9_feed : ByteArray := prog_11_method_7_code
def yX9_feed : MethodName := ⟨RX9, "feed", "(IIIII)I"⟩
abbrev cX9_end : ByteArray := prog_11_method_8_code
def yX9_end : MethodName := ⟨RX9, "end", "(I)I"⟩
abbrev cX9_fails : ByteArray := prog_11_method_9_code
def yX9_fails : MethodName := ⟨RX9, "fails", "(II)Z"⟩
abbrev cX9_see : ByteArray := prog_11_method_10_code
def yX9_see : MethodName := ⟨RX9, "see", "()I"⟩
abbrev cX9_isDigit : ByteArray := prog_11_method_11_code
def yX9_isDigit : MethodName := ⟨RX9, "isDigit", "(I)Z"⟩
abbrev cX9_isLetter : ByteArray := prog_11_method_12_code
def yX9_isLetter : MethodName := ⟨RX9, "isLetter", "(I)Z"⟩
abbrev cX9_isWord : ByteArray := prog_11_method_13_code
def yX9_isWord : MethodName := ⟨RX9, "isWord", "(J)Z"⟩
abbrev cX9_passWord : ByteArray := prog_11_method_14_code
def yX9_passWord : MethodName := ⟨RX9, "passWord", "()V"⟩
abbrev cX9_takesWord : ByteArray := prog_11_method_15_code
def yX9_takesWord : MethodName := ⟨RX9, "takesWord", "(J)Z"⟩
abbrev cX9_numberHere : ByteArray := prog_11_method_16_code
def yX9_numberHere : MethodName := ⟨RX9, "numberHere", "(II)Z"⟩
abbrev cX9_wordHere : ByteArray := prog_11_method_17_code
def yX9_wordHere : MethodName := ⟨RX9, "wordHere", "()I"⟩
abbrev cX9_puts : ByteArray := prog_11_method_18_code
def yX9_puts : MethodName := ⟨RX9, "puts", "(II)V"⟩
abbrev cX9_makes : ByteArray := prog_11_method_19_code
def yX9_makes : MethodName := ⟨RX9, "makes", "(I)Z"⟩
abbrev cX9_opens : ByteArray := prog_11_method_20_code
def yX9_opens : MethodName := ⟨RX9, "opens", "(I)Z"⟩
abbrev cX9_strength : ByteArray := prog_11_method_21_code
def yX9_strength : MethodName := ⟨RX9, "strength", "(I)I"⟩
abbrev cX9_settles : ByteArray := prog_11_method_22_code
def yX9_settles : MethodName := ⟨RX9, "settles", "(I)V"⟩
abbrev cX9_value : ByteArray := prog_11_method_23_code
def yX9_value : MethodName := ⟨RX9, "value", "()Z"⟩
abbrev cX9_term : ByteArray := prog_11_method_24_code
def yX9_term : MethodName := ⟨RX9, "term", "()Z"⟩
abbrev cX9_sum : ByteArray := prog_11_method_25_code
def yX9_sum : MethodName := ⟨RX9, "sum", "()Z"⟩
abbrev cX9_compare : ByteArray := prog_11_method_26_code
def yX9_compare : MethodName := ⟨RX9, "compare", "()Z"⟩
abbrev cX9_fact : ByteArray := prog_11_method_27_code
def yX9_fact : MethodName := ⟨RX9, "fact", "()Z"⟩
abbrev cX9_isInside : ByteArray := prog_11_method_28_code
def yX9_isInside : MethodName := ⟨RX9, "isInside", "()Z"⟩
abbrev cX9_closes : ByteArray := prog_11_method_29_code
def yX9_closes : MethodName := ⟨RX9, "closes", "()V"⟩
abbrev cX9_tested : ByteArray := prog_11_method_30_code
def yX9_tested : MethodName := ⟨RX9, "tested", "()Z"⟩
abbrev cX9_isDoingHere : ByteArray := prog_11_method_31_code
def yX9_isDoingHere : MethodName := ⟨RX9, "isDoingHere", "(I)Z"⟩
abbrev cX9_isTimeHere : ByteArray := prog_11_method_32_code
def yX9_isTimeHere : MethodName := ⟨RX9, "isTimeHere", "(I)Z"⟩
abbrev cX9_isKindHere : ByteArray := prog_11_method_33_code
def yX9_isKindHere : MethodName := ⟨RX9, "isKindHere", "(I)Z"⟩
abbrev cX9_isFaultHere : ByteArray := prog_11_method_34_code
def yX9_isFaultHere : MethodName := ⟨RX9, "isFaultHere", "(I)Z"⟩
abbrev cX9_clauseHere : ByteArray := prog_11_method_35_code
def yX9_clauseHere : MethodName := ⟨RX9, "clauseHere", "()Z"⟩
abbrev cX9_readsAll : ByteArray := prog_11_method_36_code
def yX9_readsAll : MethodName := ⟨RX9, "readsAll", "()Z"⟩
abbrev cX9_rule : ByteArray := prog_11_method_37_code
def yX9_rule : MethodName := ⟨RX9, "rule", "()I"⟩
abbrev cX9_work : ByteArray := prog_11_method_38_code
def yX9_work : MethodName := ⟨RX9, "work", "()I"⟩
abbrev cX9_isRule : ByteArray := prog_11_method_39_code
def yX9_isRule : MethodName := ⟨RX9, "isRule", "(I)Z"⟩
abbrev cX9_push : ByteArray := prog_11_method_40_code
def yX9_push : MethodName := ⟨RX9, "push", "(J)V"⟩
abbrev cX9_pop : ByteArray := prog_11_method_41_code
def yX9_pop : MethodName := ⟨RX9, "pop", "()J"⟩
abbrev cX9_one : ByteArray := prog_11_method_42_code
def yX9_one : MethodName := ⟨RX9, "one", "(IJJ)J"⟩
abbrev cX9_reckons : ByteArray := prog_11_method_43_code
def yX9_reckons : MethodName := ⟨RX9, "reckons", "(III)J"⟩
abbrev cX9_isWork : ByteArray := prog_11_method_44_code
def yX9_isWork : MethodName := ⟨RX9, "isWork", "()Z"⟩
abbrev cX9_isFault : ByteArray := prog_11_method_45_code
def yX9_isFault : MethodName := ⟨RX9, "isFault", "(I)Z"⟩
abbrev cX9_faultOf : ByteArray := prog_11_method_46_code
def yX9_faultOf : MethodName := ⟨RX9, "faultOf", "(II)I"⟩
abbrev cX9_kindOf : ByteArray := prog_11_method_47_code
def yX9_kindOf : MethodName := ⟨RX9, "kindOf", "(II)I"⟩
abbrev cX9_isOpen : ByteArray := prog_11_method_48_code
def yX9_isOpen : MethodName := ⟨RX9, "isOpen", "(I)Z"⟩
abbrev cX9_canLook : ByteArray := prog_11_method_49_code
def yX9_canLook : MethodName := ⟨RX9, "canLook", "(I)Z"⟩
abbrev cX9_thatAre : ByteArray := prog_11_method_50_code
def yX9_thatAre : MethodName := ⟨RX9, "thatAre", "(I)I"⟩
abbrev cX9_hidden : ByteArray := prog_11_method_51_code
def yX9_hidden : MethodName := ⟨RX9, "hidden", "()I"⟩
abbrev cX9_kind : ByteArray := prog_11_method_52_code
def yX9_kind : MethodName := ⟨RX9, "kind", "(II)I"⟩
abbrev cX9_fault : ByteArray := prog_11_method_53_code
def yX9_fault : MethodName := ⟨RX9, "fault", "(II)I"⟩
abbrev cX9_draw : ByteArray := prog_11_method_54_code
def yX9_draw : MethodName := ⟨RX9, "draw", "(I)I"⟩
abbrev cX9_looks : ByteArray := prog_11_method_55_code
def yX9_looks : MethodName := ⟨RX9, "looks", "(I)Z"⟩
abbrev cX9_look : ByteArray := prog_11_method_56_code
def yX9_look : MethodName := ⟨RX9, "look", "(I)I"⟩
abbrev cX9_fine : ByteArray := prog_11_method_57_code
def yX9_fine : MethodName := ⟨RX9, "fine", "(I)I"⟩
abbrev cX9_mend : ByteArray := prog_11_method_58_code
def yX9_mend : MethodName := ⟨RX9, "mend", "(I)I"⟩
abbrev cX9_begins : ByteArray := prog_11_method_59_code
def yX9_begins : MethodName := ⟨RX9, "begins", "()V"⟩
abbrev cX9_dawn : ByteArray := prog_11_method_60_code
def yX9_dawn : MethodName := ⟨RX9, "dawn", "()I"⟩
abbrev cX9_words : ByteArray := prog_11_method_61_code
def yX9_words : MethodName := ⟨RX9, "words", "(I)V"⟩
abbrev cX9_clauseFor : ByteArray := prog_11_method_62_code
def yX9_clauseFor : MethodName := ⟨RX9, "clauseFor", "(II)I"⟩
abbrev cX9_stops : ByteArray := prog_11_method_63_code
def yX9_stops : MethodName := ⟨RX9, "stops", "(II)Z"⟩
abbrev cX9_nextFor : ByteArray := prog_11_method_64_code
def yX9_nextFor : MethodName := ⟨RX9, "nextFor", "(I)I"⟩
abbrev cX9_passes : ByteArray := prog_11_method_65_code
def yX9_passes : MethodName := ⟨RX9, "passes", "(I)I"⟩
abbrev cX9_day : ByteArray := prog_11_method_66_code
def yX9_day : MethodName := ⟨RX9, "day", "(I)I"⟩
abbrev cX9_keeps : ByteArray := prog_11_method_67_code
def yX9_keeps : MethodName := ⟨RX9, "keeps", "()V"⟩
abbrev cX9_putsBack : ByteArray := prog_11_method_68_code
def yX9_putsBack : MethodName := ⟨RX9, "putsBack", "()V"⟩
abbrev cX9_would : ByteArray := prog_11_method_69_code
def yX9_would : MethodName := ⟨RX9, "would", "(II)I"⟩
abbrev cX9_row : ByteArray := prog_11_method_70_code
def yX9_row : MethodName := ⟨RX9, "row", "(I)I"⟩
abbrev cX9_comesOut : ByteArray := prog_11_method_71_code
def yX9_comesOut : MethodName := ⟨RX9, "comesOut", "(I)J"⟩
abbrev cX9_meanOf : ByteArray := prog_11_method_72_code
def yX9_meanOf : MethodName := ⟨RX9, "meanOf", "(I)J"⟩
abbrev cX9_hundreds : ByteArray := prog_11_method_73_code
def yX9_hundreds : MethodName := ⟨RX9, "hundreds", "(I)J"⟩
abbrev cX9_partOf : ByteArray := prog_11_method_74_code
def yX9_partOf : MethodName := ⟨RX9, "partOf", "(JJI)J"⟩
abbrev cX9_worth : ByteArray := prog_11_method_75_code
def yX9_worth : MethodName := ⟨RX9, "worth", "(I)J"⟩
abbrev cX9_seen : ByteArray := prog_11_method_76_code
def yX9_seen : MethodName := ⟨RX9, "seen", "(II)J"⟩
abbrev cX9_comesTo : ByteArray := prog_11_method_77_code
def yX9_comesTo : MethodName := ⟨RX9, "comesTo", "(II)V"⟩
abbrev cX9_triesNext : ByteArray := prog_11_method_78_code
def yX9_triesNext : MethodName := ⟨RX9, "triesNext", "(I)Z"⟩
abbrev cX9_triesAs : ByteArray := prog_11_method_79_code
def yX9_triesAs : MethodName := ⟨RX9, "triesAs", "(IZ)V"⟩
abbrev cX9_takes : ByteArray := prog_11_method_80_code
def yX9_takes : MethodName := ⟨RX9, "takes", "(IIJJ)V"⟩
abbrev cX9_goesThrough : ByteArray := prog_11_method_81_code
def yX9_goesThrough : MethodName := ⟨RX9, "goesThrough", "(I)V"⟩
abbrev cX9_best : ByteArray := prog_11_method_82_code
def yX9_best : MethodName := ⟨RX9, "best", "(II)J"⟩
abbrev cX9_master : ByteArray := prog_11_method_83_code
def yX9_master : MethodName := ⟨RX9, "master", "(II)J"⟩
abbrev cX9_game : ByteArray := prog_11_method_84_code
def yX9_game : MethodName := ⟨RX9, "game", "(II)I"⟩
abbrev cX9_gameOf : ByteArray := prog_11_method_85_code
def yX9_gameOf : MethodName := ⟨RX9, "gameOf", "(I)I"⟩
abbrev cX9_rests : ByteArray := prog_11_method_86_code
def yX9_rests : MethodName := ⟨RX9, "rests", "()I"⟩
abbrev cX9_mixed : ByteArray := prog_11_method_87_code
def yX9_mixed : MethodName := ⟨RX9, "mixed", "(II)I"⟩
abbrev cX9_checks : ByteArray := prog_11_method_88_code
def yX9_checks : MethodName := ⟨RX9, "checks", "(II)I"⟩
abbrev cX9_couldBe : ByteArray := prog_11_method_89_code
def yX9_couldBe : MethodName := ⟨RX9, "couldBe", "(II)Z"⟩
abbrev cX9_fits : ByteArray := prog_11_method_90_code
def yX9_fits : MethodName := ⟨RX9, "fits", "(II)I"⟩
abbrev cX9_seed : ByteArray := prog_11_method_91_code
def yX9_seed : MethodName := ⟨RX9, "seed", "(I)I"⟩
abbrev cX9_weeks : ByteArray := prog_11_method_92_code
def yX9_weeks : MethodName := ⟨RX9, "weeks", "(III)I"⟩
abbrev cX9_coins : ByteArray := prog_11_method_93_code
def yX9_coins : MethodName := ⟨RX9, "coins", "(I)I"⟩
abbrev cX9_count : ByteArray := prog_11_method_94_code
def yX9_count : MethodName := ⟨RX9, "count", "(I)I"⟩
abbrev cX9_image : ByteArray := prog_11_method_95_code
def yX9_image : MethodName := ⟨RX9, "image", "(I)I"⟩
abbrev cX9_back : ByteArray := prog_11_method_96_code
def yX9_back : MethodName := ⟨RX9, "back", "(I)I"⟩
def RJ6 : String := "java/lang/Integer"
abbrev cJ6_bitCount_0f7a4 : ByteArray := prog_13_method_49_code
def yJ6_bitCount_0f7a4 : MethodName := ⟨RJ6, "bitCount", "(I)I"⟩
def RJ9 : String := "java/lang/Math"
abbrev cJ9_abs_0f7a4 : ByteArray := prog_14_method_59_code
def yJ9_abs_0f7a4 : MethodName := ⟨RJ9, "abs", "(I)I"⟩
abbrev cJ9_abs_067f4 : ByteArray := prog_14_method_61_code
def yJ9_abs_067f4 : MethodName := ⟨RJ9, "abs", "(J)J"⟩
abbrev cJ9_max_7cf53 : ByteArray := prog_14_method_65_code
def yJ9_max_7cf53 : MethodName := ⟨RJ9, "max", "(II)I"⟩
abbrev cJ9_max_f86c9 : ByteArray := prog_14_method_66_code
def yJ9_max_f86c9 : MethodName := ⟨RJ9, "max", "(JJ)J"⟩
abbrev cJ9_min_7cf53 : ByteArray := prog_14_method_69_code
def yJ9_min_7cf53 : MethodName := ⟨RJ9, "min", "(II)I"⟩
def RJ0 : String := "java/lang/String"
abbrev cJ0_length_8abf5 : ByteArray := prog_15_method_54_code
def yJ0_length_8abf5 : MethodName := ⟨RJ0, "length", "()I"⟩
abbrev cJ0_charAt_5068e : ByteArray := prog_15_method_56_code
def yJ0_charAt_5068e : MethodName := ⟨RJ0, "charAt", "(I)C"⟩
abbrev cJ0_coder_7d493 : ByteArray := prog_15_method_152_code
def yJ0_coder_7d493 : MethodName := ⟨RJ0, "coder", "()B"⟩
abbrev cJ0_isLatin1_aae02 : ByteArray := prog_15_method_154_code
def yJ0_isLatin1_aae02 : MethodName := ⟨RJ0, "isLatin1", "()Z"⟩
abbrev cJ0_checkIndex_df160 : ByteArray := prog_15_method_155_code
def yJ0_checkIndex_df160 : MethodName := ⟨RJ0, "checkIndex", "(II)V"⟩
def RJ1 : String := "java/lang/StringLatin1"
abbrev cJ1_charAt_3b067 : ByteArray := prog_16_method_2_code
def yJ1_charAt_3b067 : MethodName := ⟨RJ1, "charAt", "([BI)C"⟩
def RJ2 : String := "java/lang/StringUTF16"
abbrev cJ2_getChar_3b067 : ByteArray := prog_17_method_5_code
def yJ2_getChar_3b067 : MethodName := ⟨RJ2, "getChar", "([BI)C"⟩
abbrev cJ2_length_9d52b : ByteArray := prog_17_method_6_code
def yJ2_length_9d52b : MethodName := ⟨RJ2, "length", "([B)I"⟩
abbrev cJ2_charAt_3b067 : ByteArray := prog_17_method_83_code
def yJ2_charAt_3b067 : MethodName := ⟨RJ2, "charAt", "([BI)C"⟩
abbrev cJ2_checkIndex_2214a : ByteArray := prog_17_method_91_code
def yJ2_checkIndex_2214a : MethodName := ⟨RJ2, "checkIndex", "(I[B)V"⟩
def RJ10 : String := "java/lang/System"
def RJ7 : String := "java/util/Arrays"
abbrev cJ7_fill_53178 : ByteArray := prog_19_method_103_code
def yJ7_fill_53178 : MethodName := ⟨RJ7, "fill", "([II)V"⟩
abbrev cJ7_copyOf_59c91 : ByteArray := prog_19_method_123_code
def yJ7_copyOf_59c91 : MethodName := ⟨RJ7, "copyOf", "([II)[I"⟩
def RJ3 : String := "jdk/internal/util/Preconditions"
abbrev cJ3_checkIndex_8e157 : ByteArray := prog_20_method_11_code
def yJ3_checkIndex_8e157 : MethodName := ⟨RJ3, "checkIndex", "(IILjava/util/function/BiFunction;)I"⟩
def RL : String := "PaidMistakesLaw"
abbrev cL_law : ByteArray := code
def yL_law : MethodName := ⟨RL, "law", "([I)Z"⟩
