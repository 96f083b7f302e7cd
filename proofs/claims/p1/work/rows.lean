section
-- ===== PART A: goes FIRST, ahead of the names: the tables' words, and 'selects' of the private methods out of them =====
/-- a private method of a class that the tables say can be made, by its rows of tables_1 -/
def lw_okq (q : MethodName × Nat) : Prop := (q.1.cls ≠ "java/lang/invoke/MethodHandle" ∧ q.1.cls ≠ "java/lang/invoke/VarHandle") ∧ Cond.instantiable q.1.cls q.2 ∈ tables_1 ∧ Cond.privateMethod q.1 ∈ tables_1 ∧ Cond.instanceMethod q.1 ∈ tables_1
theorem lw_p0 : lw_okq (⟨"PaidMistakes", "putBytes", "(I)V"⟩, 11) := ⟨⟨by decide +kernel, by decide +kernel⟩, List.mem_of_getElem? (i := 20) (by decide +kernel), List.mem_of_getElem? (i := 339) (by decide +kernel), List.mem_of_getElem? (i := 340) (by decide +kernel)⟩
theorem lw_p1 : lw_okq (⟨"PaidMistakes$Text", "cutToken", "([III)I"⟩, 9) := ⟨⟨by decide +kernel, by decide +kernel⟩, List.mem_of_getElem? (i := 203) (by decide +kernel), List.mem_of_getElem? (i := 358) (by decide +kernel), List.mem_of_getElem? (i := 359) (by decide +kernel)⟩
theorem lw_p2 : lw_okq (⟨"PaidMistakes$Text", "cutNumber", "([III)I"⟩, 9) := ⟨⟨by decide +kernel, by decide +kernel⟩, List.mem_of_getElem? (i := 203) (by decide +kernel), List.mem_of_getElem? (i := 368) (by decide +kernel), List.mem_of_getElem? (i := 369) (by decide +kernel)⟩
theorem lw_p3 : lw_okq (⟨"PaidMistakes$Text", "addToken", "(III)V"⟩, 9) := ⟨⟨by decide +kernel, by decide +kernel⟩, List.mem_of_getElem? (i := 203) (by decide +kernel), List.mem_of_getElem? (i := 372) (by decide +kernel), List.mem_of_getElem? (i := 373) (by decide +kernel)⟩
theorem lw_p4 : lw_okq (⟨"PaidMistakes$Text", "cutWord", "([III)I"⟩, 9) := ⟨⟨by decide +kernel, by decide +kernel⟩, List.mem_of_getElem? (i := 203) (by decide +kernel), List.mem_of_getElem? (i := 379) (by decide +kernel), List.mem_of_getElem? (i := 380) (by decide +kernel)⟩
theorem lw_p5 : lw_okq (⟨"PaidMistakes$Work", "readClause", "(LPaidMistakes$Text;I)V"⟩, 18) := ⟨⟨by decide +kernel, by decide +kernel⟩, List.mem_of_getElem? (i := 32) (by decide +kernel), List.mem_of_getElem? (i := 465) (by decide +kernel), List.mem_of_getElem? (i := 466) (by decide +kernel)⟩
theorem lw_p6 : lw_okq (⟨"PaidMistakes$Work", "readKind", "(LPaidMistakes$Text;)V"⟩, 18) := ⟨⟨by decide +kernel, by decide +kernel⟩, List.mem_of_getElem? (i := 32) (by decide +kernel), List.mem_of_getElem? (i := 479) (by decide +kernel), List.mem_of_getElem? (i := 480) (by decide +kernel)⟩
theorem lw_p7 : lw_okq (⟨"PaidMistakes$Work", "readFault", "(LPaidMistakes$Text;)V"⟩, 18) := ⟨⟨by decide +kernel, by decide +kernel⟩, List.mem_of_getElem? (i := 32) (by decide +kernel), List.mem_of_getElem? (i := 484) (by decide +kernel), List.mem_of_getElem? (i := 485) (by decide +kernel)⟩
theorem lw_p8 : lw_okq (⟨"PaidMistakes$Work", "orderLooks", "()V"⟩, 18) := ⟨⟨by decide +kernel, by decide +kernel⟩, List.mem_of_getElem? (i := 32) (by decide +kernel), List.mem_of_getElem? (i := 493) (by decide +kernel), List.mem_of_getElem? (i := 494) (by decide +kernel)⟩
theorem lw_p9 : lw_okq (⟨"PaidMistakes$RuleReader", "readSum", "()V"⟩, 8) := ⟨⟨by decide +kernel, by decide +kernel⟩, List.mem_of_getElem? (i := 197) (by decide +kernel), List.mem_of_getElem? (i := 527) (by decide +kernel), List.mem_of_getElem? (i := 528) (by decide +kernel)⟩
theorem lw_p10 : lw_okq (⟨"PaidMistakes$RuleReader", "readValue", "()V"⟩, 8) := ⟨⟨by decide +kernel, by decide +kernel⟩, List.mem_of_getElem? (i := 197) (by decide +kernel), List.mem_of_getElem? (i := 531) (by decide +kernel), List.mem_of_getElem? (i := 532) (by decide +kernel)⟩
theorem lw_p11 : lw_okq (⟨"PaidMistakes$RuleReader", "emit", "(I)V"⟩, 8) := ⟨⟨by decide +kernel, by decide +kernel⟩, List.mem_of_getElem? (i := 197) (by decide +kernel), List.mem_of_getElem? (i := 535) (by decide +kernel), List.mem_of_getElem? (i := 536) (by decide +kernel)⟩
theorem lw_p12 : lw_okq (⟨"PaidMistakes$RuleReader", "readTest", "(I)V"⟩, 8) := ⟨⟨by decide +kernel, by decide +kernel⟩, List.mem_of_getElem? (i := 197) (by decide +kernel), List.mem_of_getElem? (i := 539) (by decide +kernel), List.mem_of_getElem? (i := 540) (by decide +kernel)⟩
theorem lw_p13 : lw_okq (⟨"PaidMistakes$RuleReader", "readFact", "(I)V"⟩, 8) := ⟨⟨by decide +kernel, by decide +kernel⟩, List.mem_of_getElem? (i := 197) (by decide +kernel), List.mem_of_getElem? (i := 543) (by decide +kernel), List.mem_of_getElem? (i := 544) (by decide +kernel)⟩
theorem lw_p14 : lw_okq (⟨"PaidMistakes$RuleReader", "readComparison", "()V"⟩, 8) := ⟨⟨by decide +kernel, by decide +kernel⟩, List.mem_of_getElem? (i := 197) (by decide +kernel), List.mem_of_getElem? (i := 547) (by decide +kernel), List.mem_of_getElem? (i := 548) (by decide +kernel)⟩
theorem lw_p15 : lw_okq (⟨"PaidMistakes", "isFault", "(I)Z"⟩, 11) := ⟨⟨by decide +kernel, by decide +kernel⟩, List.mem_of_getElem? (i := 20) (by decide +kernel), List.mem_of_getElem? (i := 612) (by decide +kernel), List.mem_of_getElem? (i := 613) (by decide +kernel)⟩
def lw_privs_1 : List (MethodName × Nat) := [(⟨"PaidMistakes", "putBytes", "(I)V"⟩, 11), (⟨"PaidMistakes$Text", "cutToken", "([III)I"⟩, 9), (⟨"PaidMistakes$Text", "cutNumber", "([III)I"⟩, 9), (⟨"PaidMistakes$Text", "addToken", "(III)V"⟩, 9), (⟨"PaidMistakes$Text", "cutWord", "([III)I"⟩, 9), (⟨"PaidMistakes$Work", "readClause", "(LPaidMistakes$Text;I)V"⟩, 18), (⟨"PaidMistakes$Work", "readKind", "(LPaidMistakes$Text;)V"⟩, 18), (⟨"PaidMistakes$Work", "readFault", "(LPaidMistakes$Text;)V"⟩, 18), (⟨"PaidMistakes$Work", "orderLooks", "()V"⟩, 18), (⟨"PaidMistakes$RuleReader", "readSum", "()V"⟩, 8), (⟨"PaidMistakes$RuleReader", "readValue", "()V"⟩, 8), (⟨"PaidMistakes$RuleReader", "emit", "(I)V"⟩, 8), (⟨"PaidMistakes$RuleReader", "readTest", "(I)V"⟩, 8), (⟨"PaidMistakes$RuleReader", "readFact", "(I)V"⟩, 8), (⟨"PaidMistakes$RuleReader", "readComparison", "()V"⟩, 8), (⟨"PaidMistakes", "isFault", "(I)Z"⟩, 11)]
theorem lw_r1 : ∀ q ∈ lw_privs_1, lw_okq q := List.forall_mem_cons.mpr ⟨lw_p0, List.forall_mem_cons.mpr ⟨lw_p1, List.forall_mem_cons.mpr ⟨lw_p2, List.forall_mem_cons.mpr ⟨lw_p3, List.forall_mem_cons.mpr ⟨lw_p4, List.forall_mem_cons.mpr ⟨lw_p5, List.forall_mem_cons.mpr ⟨lw_p6, List.forall_mem_cons.mpr ⟨lw_p7, List.forall_mem_cons.mpr ⟨lw_p8, List.forall_mem_cons.mpr ⟨lw_p9, List.forall_mem_cons.mpr ⟨lw_p10, List.forall_mem_cons.mpr ⟨lw_p11, List.forall_mem_cons.mpr ⟨lw_p12, List.forall_mem_cons.mpr ⟨lw_p13, List.forall_mem_cons.mpr ⟨lw_p14, List.forall_mem_cons.mpr ⟨lw_p15, fun _ h => absurd h List.not_mem_nil⟩⟩⟩⟩⟩⟩⟩⟩⟩⟩⟩⟩⟩⟩⟩⟩
theorem lw_p16 : lw_okq (⟨"PaidMistakes", "hasWork", "()Z"⟩, 11) := ⟨⟨by decide +kernel, by decide +kernel⟩, List.mem_of_getElem? (i := 20) (by decide +kernel), List.mem_of_getElem? (i := 663) (by decide +kernel), List.mem_of_getElem? (i := 664) (by decide +kernel)⟩
theorem lw_p17 : lw_okq (⟨"PaidMistakes$Work", "together", "([II)I"⟩, 18) := ⟨⟨by decide +kernel, by decide +kernel⟩, List.mem_of_getElem? (i := 32) (by decide +kernel), List.mem_of_getElem? (i := 680) (by decide +kernel), List.mem_of_getElem? (i := 681) (by decide +kernel)⟩
theorem lw_p18 : lw_okq (⟨"PaidMistakes", "ruleForWork", "(I)LPaidMistakes$Rule;"⟩, 11) := ⟨⟨by decide +kernel, by decide +kernel⟩, List.mem_of_getElem? (i := 20) (by decide +kernel), List.mem_of_getElem? (i := 694) (by decide +kernel), List.mem_of_getElem? (i := 695) (by decide +kernel)⟩
theorem lw_p19 : lw_okq (⟨"PaidMistakes$Player", "nextFault", "(LPaidMistakes$Work;LPaidMistakes$Rule;LPaidMistakes$Day;)I"⟩, 1) := ⟨⟨by decide +kernel, by decide +kernel⟩, List.mem_of_getElem? (i := 269) (by decide +kernel), List.mem_of_getElem? (i := 702) (by decide +kernel), List.mem_of_getElem? (i := 703) (by decide +kernel)⟩
theorem lw_p20 : lw_okq (⟨"PaidMistakes$Player", "lookClause", "(LPaidMistakes$Work;LPaidMistakes$Rule;LPaidMistakes$Day;I)I"⟩, 1) := ⟨⟨by decide +kernel, by decide +kernel⟩, List.mem_of_getElem? (i := 269) (by decide +kernel), List.mem_of_getElem? (i := 709) (by decide +kernel), List.mem_of_getElem? (i := 710) (by decide +kernel)⟩
theorem lw_p21 : lw_okq (⟨"PaidMistakes$Player", "reckon", "([IIILPaidMistakes$Work;LPaidMistakes$Day;I)J"⟩, 1) := ⟨⟨by decide +kernel, by decide +kernel⟩, List.mem_of_getElem? (i := 269) (by decide +kernel), List.mem_of_getElem? (i := 713) (by decide +kernel), List.mem_of_getElem? (i := 714) (by decide +kernel)⟩
theorem lw_p22 : lw_okq (⟨"PaidMistakes$Player", "stopsAt", "(LPaidMistakes$Work;LPaidMistakes$Rule;LPaidMistakes$Day;I)Z"⟩, 1) := ⟨⟨by decide +kernel, by decide +kernel⟩, List.mem_of_getElem? (i := 269) (by decide +kernel), List.mem_of_getElem? (i := 728) (by decide +kernel), List.mem_of_getElem? (i := 729) (by decide +kernel)⟩
theorem lw_p23 : lw_okq (⟨"PaidMistakes", "rowMean", "(IIII)J"⟩, 11) := ⟨⟨by decide +kernel, by decide +kernel⟩, List.mem_of_getElem? (i := 20) (by decide +kernel), List.mem_of_getElem? (i := 755) (by decide +kernel), List.mem_of_getElem? (i := 756) (by decide +kernel)⟩
theorem lw_p24 : lw_okq (⟨"PaidMistakes$Planner", "earnedBy", "(LPaidMistakes$Work;IIII)J"⟩, 4) := ⟨⟨by decide +kernel, by decide +kernel⟩, List.mem_of_getElem? (i := 280) (by decide +kernel), List.mem_of_getElem? (i := 793) (by decide +kernel), List.mem_of_getElem? (i := 794) (by decide +kernel)⟩
theorem lw_p25 : lw_okq (⟨"PaidMistakes$Planner", "leastFree", "(LPaidMistakes$Work;I)I"⟩, 4) := ⟨⟨by decide +kernel, by decide +kernel⟩, List.mem_of_getElem? (i := 280) (by decide +kernel), List.mem_of_getElem? (i := 815) (by decide +kernel), List.mem_of_getElem? (i := 816) (by decide +kernel)⟩
theorem lw_p26 : lw_okq (⟨"PaidMistakes$Planner", "hiddenMean", "(LPaidMistakes$Work;III)J"⟩, 4) := ⟨⟨by decide +kernel, by decide +kernel⟩, List.mem_of_getElem? (i := 280) (by decide +kernel), List.mem_of_getElem? (i := 821) (by decide +kernel), List.mem_of_getElem? (i := 822) (by decide +kernel)⟩
theorem lw_p27 : lw_okq (⟨"PaidMistakesModel", "four", "(I)V"⟩, 36) := ⟨⟨by decide +kernel, by decide +kernel⟩, List.mem_of_getElem? (i := 877) (by decide +kernel), List.mem_of_getElem? (i := 997) (by decide +kernel), List.mem_of_getElem? (i := 998) (by decide +kernel)⟩
theorem lw_p28 : lw_okq (⟨"PaidMistakesModel", "readsAll", "()Z"⟩, 36) := ⟨⟨by decide +kernel, by decide +kernel⟩, List.mem_of_getElem? (i := 877) (by decide +kernel), List.mem_of_getElem? (i := 1009) (by decide +kernel), List.mem_of_getElem? (i := 1010) (by decide +kernel)⟩
theorem lw_p29 : lw_okq (⟨"PaidMistakesModel", "clauseHere", "()Z"⟩, 36) := ⟨⟨by decide +kernel, by decide +kernel⟩, List.mem_of_getElem? (i := 877) (by decide +kernel), List.mem_of_getElem? (i := 1013) (by decide +kernel), List.mem_of_getElem? (i := 1014) (by decide +kernel)⟩
theorem lw_p30 : lw_okq (⟨"PaidMistakesModel", "see", "()I"⟩, 36) := ⟨⟨by decide +kernel, by decide +kernel⟩, List.mem_of_getElem? (i := 877) (by decide +kernel), List.mem_of_getElem? (i := 1017) (by decide +kernel), List.mem_of_getElem? (i := 1018) (by decide +kernel)⟩
theorem lw_p31 : lw_okq (⟨"PaidMistakesModel", "isWord", "(J)Z"⟩, 36) := ⟨⟨by decide +kernel, by decide +kernel⟩, List.mem_of_getElem? (i := 877) (by decide +kernel), List.mem_of_getElem? (i := 1022) (by decide +kernel), List.mem_of_getElem? (i := 1023) (by decide +kernel)⟩
def lw_privs_2 : List (MethodName × Nat) := [(⟨"PaidMistakes", "hasWork", "()Z"⟩, 11), (⟨"PaidMistakes$Work", "together", "([II)I"⟩, 18), (⟨"PaidMistakes", "ruleForWork", "(I)LPaidMistakes$Rule;"⟩, 11), (⟨"PaidMistakes$Player", "nextFault", "(LPaidMistakes$Work;LPaidMistakes$Rule;LPaidMistakes$Day;)I"⟩, 1), (⟨"PaidMistakes$Player", "lookClause", "(LPaidMistakes$Work;LPaidMistakes$Rule;LPaidMistakes$Day;I)I"⟩, 1), (⟨"PaidMistakes$Player", "reckon", "([IIILPaidMistakes$Work;LPaidMistakes$Day;I)J"⟩, 1), (⟨"PaidMistakes$Player", "stopsAt", "(LPaidMistakes$Work;LPaidMistakes$Rule;LPaidMistakes$Day;I)Z"⟩, 1), (⟨"PaidMistakes", "rowMean", "(IIII)J"⟩, 11), (⟨"PaidMistakes$Planner", "earnedBy", "(LPaidMistakes$Work;IIII)J"⟩, 4), (⟨"PaidMistakes$Planner", "leastFree", "(LPaidMistakes$Work;I)I"⟩, 4), (⟨"PaidMistakes$Planner", "hiddenMean", "(LPaidMistakes$Work;III)J"⟩, 4), (⟨"PaidMistakesModel", "four", "(I)V"⟩, 36), (⟨"PaidMistakesModel", "readsAll", "()Z"⟩, 36), (⟨"PaidMistakesModel", "clauseHere", "()Z"⟩, 36), (⟨"PaidMistakesModel", "see", "()I"⟩, 36), (⟨"PaidMistakesModel", "isWord", "(J)Z"⟩, 36)]
theorem lw_r2 : ∀ q ∈ lw_privs_2, lw_okq q := List.forall_mem_cons.mpr ⟨lw_p16, List.forall_mem_cons.mpr ⟨lw_p17, List.forall_mem_cons.mpr ⟨lw_p18, List.forall_mem_cons.mpr ⟨lw_p19, List.forall_mem_cons.mpr ⟨lw_p20, List.forall_mem_cons.mpr ⟨lw_p21, List.forall_mem_cons.mpr ⟨lw_p22, List.forall_mem_cons.mpr ⟨lw_p23, List.forall_mem_cons.mpr ⟨lw_p24, List.forall_mem_cons.mpr ⟨lw_p25, List.forall_mem_cons.mpr ⟨lw_p26, List.forall_mem_cons.mpr ⟨lw_p27, List.forall_mem_cons.mpr ⟨lw_p28, List.forall_mem_cons.mpr ⟨lw_p29, List.forall_mem_cons.mpr ⟨lw_p30, List.forall_mem_cons.mpr ⟨lw_p31, fun _ h => absurd h List.not_mem_nil⟩⟩⟩⟩⟩⟩⟩⟩⟩⟩⟩⟩⟩⟩⟩⟩
theorem lw_p32 : lw_okq (⟨"PaidMistakesModel", "isLetter", "(I)Z"⟩, 36) := ⟨⟨by decide +kernel, by decide +kernel⟩, List.mem_of_getElem? (i := 877) (by decide +kernel), List.mem_of_getElem? (i := 1026) (by decide +kernel), List.mem_of_getElem? (i := 1027) (by decide +kernel)⟩
theorem lw_p33 : lw_okq (⟨"PaidMistakesModel", "fails", "(II)Z"⟩, 36) := ⟨⟨by decide +kernel, by decide +kernel⟩, List.mem_of_getElem? (i := 877) (by decide +kernel), List.mem_of_getElem? (i := 1034) (by decide +kernel), List.mem_of_getElem? (i := 1035) (by decide +kernel)⟩
theorem lw_p34 : lw_okq (⟨"PaidMistakesModel", "isDoingHere", "(I)Z"⟩, 36) := ⟨⟨by decide +kernel, by decide +kernel⟩, List.mem_of_getElem? (i := 877) (by decide +kernel), List.mem_of_getElem? (i := 1038) (by decide +kernel), List.mem_of_getElem? (i := 1039) (by decide +kernel)⟩
theorem lw_p35 : lw_okq (⟨"PaidMistakesModel", "passWord", "()V"⟩, 36) := ⟨⟨by decide +kernel, by decide +kernel⟩, List.mem_of_getElem? (i := 877) (by decide +kernel), List.mem_of_getElem? (i := 1042) (by decide +kernel), List.mem_of_getElem? (i := 1043) (by decide +kernel)⟩
theorem lw_p36 : lw_okq (⟨"PaidMistakesModel", "sum", "()Z"⟩, 36) := ⟨⟨by decide +kernel, by decide +kernel⟩, List.mem_of_getElem? (i := 877) (by decide +kernel), List.mem_of_getElem? (i := 1046) (by decide +kernel), List.mem_of_getElem? (i := 1047) (by decide +kernel)⟩
theorem lw_p37 : lw_okq (⟨"PaidMistakesModel", "term", "()Z"⟩, 36) := ⟨⟨by decide +kernel, by decide +kernel⟩, List.mem_of_getElem? (i := 877) (by decide +kernel), List.mem_of_getElem? (i := 1050) (by decide +kernel), List.mem_of_getElem? (i := 1051) (by decide +kernel)⟩
theorem lw_p38 : lw_okq (⟨"PaidMistakesModel", "value", "()Z"⟩, 36) := ⟨⟨by decide +kernel, by decide +kernel⟩, List.mem_of_getElem? (i := 877) (by decide +kernel), List.mem_of_getElem? (i := 1054) (by decide +kernel), List.mem_of_getElem? (i := 1055) (by decide +kernel)⟩
theorem lw_p39 : lw_okq (⟨"PaidMistakesModel", "isDigit", "(I)Z"⟩, 36) := ⟨⟨by decide +kernel, by decide +kernel⟩, List.mem_of_getElem? (i := 877) (by decide +kernel), List.mem_of_getElem? (i := 1058) (by decide +kernel), List.mem_of_getElem? (i := 1059) (by decide +kernel)⟩
theorem lw_p40 : lw_okq (⟨"PaidMistakesModel", "numberHere", "(II)Z"⟩, 36) := ⟨⟨by decide +kernel, by decide +kernel⟩, List.mem_of_getElem? (i := 877) (by decide +kernel), List.mem_of_getElem? (i := 1063) (by decide +kernel), List.mem_of_getElem? (i := 1064) (by decide +kernel)⟩
theorem lw_p41 : lw_okq (⟨"PaidMistakesModel", "makes", "(I)Z"⟩, 36) := ⟨⟨by decide +kernel, by decide +kernel⟩, List.mem_of_getElem? (i := 877) (by decide +kernel), List.mem_of_getElem? (i := 1070) (by decide +kernel), List.mem_of_getElem? (i := 1071) (by decide +kernel)⟩
theorem lw_p42 : lw_okq (⟨"PaidMistakesModel", "puts", "(II)V"⟩, 36) := ⟨⟨by decide +kernel, by decide +kernel⟩, List.mem_of_getElem? (i := 877) (by decide +kernel), List.mem_of_getElem? (i := 1074) (by decide +kernel), List.mem_of_getElem? (i := 1075) (by decide +kernel)⟩
theorem lw_p43 : lw_okq (⟨"PaidMistakesModel", "wordHere", "()I"⟩, 36) := ⟨⟨by decide +kernel, by decide +kernel⟩, List.mem_of_getElem? (i := 877) (by decide +kernel), List.mem_of_getElem? (i := 1078) (by decide +kernel), List.mem_of_getElem? (i := 1079) (by decide +kernel)⟩
theorem lw_p44 : lw_okq (⟨"PaidMistakesModel", "takesWord", "(J)Z"⟩, 36) := ⟨⟨by decide +kernel, by decide +kernel⟩, List.mem_of_getElem? (i := 877) (by decide +kernel), List.mem_of_getElem? (i := 1090) (by decide +kernel), List.mem_of_getElem? (i := 1091) (by decide +kernel)⟩
theorem lw_p45 : lw_okq (⟨"PaidMistakesModel", "tested", "()Z"⟩, 36) := ⟨⟨by decide +kernel, by decide +kernel⟩, List.mem_of_getElem? (i := 877) (by decide +kernel), List.mem_of_getElem? (i := 1094) (by decide +kernel), List.mem_of_getElem? (i := 1095) (by decide +kernel)⟩
theorem lw_p46 : lw_okq (⟨"PaidMistakesModel", "fact", "()Z"⟩, 36) := ⟨⟨by decide +kernel, by decide +kernel⟩, List.mem_of_getElem? (i := 877) (by decide +kernel), List.mem_of_getElem? (i := 1098) (by decide +kernel), List.mem_of_getElem? (i := 1099) (by decide +kernel)⟩
theorem lw_p47 : lw_okq (⟨"PaidMistakesModel", "opens", "(I)Z"⟩, 36) := ⟨⟨by decide +kernel, by decide +kernel⟩, List.mem_of_getElem? (i := 877) (by decide +kernel), List.mem_of_getElem? (i := 1103) (by decide +kernel), List.mem_of_getElem? (i := 1104) (by decide +kernel)⟩
def lw_privs_3 : List (MethodName × Nat) := [(⟨"PaidMistakesModel", "isLetter", "(I)Z"⟩, 36), (⟨"PaidMistakesModel", "fails", "(II)Z"⟩, 36), (⟨"PaidMistakesModel", "isDoingHere", "(I)Z"⟩, 36), (⟨"PaidMistakesModel", "passWord", "()V"⟩, 36), (⟨"PaidMistakesModel", "sum", "()Z"⟩, 36), (⟨"PaidMistakesModel", "term", "()Z"⟩, 36), (⟨"PaidMistakesModel", "value", "()Z"⟩, 36), (⟨"PaidMistakesModel", "isDigit", "(I)Z"⟩, 36), (⟨"PaidMistakesModel", "numberHere", "(II)Z"⟩, 36), (⟨"PaidMistakesModel", "makes", "(I)Z"⟩, 36), (⟨"PaidMistakesModel", "puts", "(II)V"⟩, 36), (⟨"PaidMistakesModel", "wordHere", "()I"⟩, 36), (⟨"PaidMistakesModel", "takesWord", "(J)Z"⟩, 36), (⟨"PaidMistakesModel", "tested", "()Z"⟩, 36), (⟨"PaidMistakesModel", "fact", "()Z"⟩, 36), (⟨"PaidMistakesModel", "opens", "(I)Z"⟩, 36)]
theorem lw_r3 : ∀ q ∈ lw_privs_3, lw_okq q := List.forall_mem_cons.mpr ⟨lw_p32, List.forall_mem_cons.mpr ⟨lw_p33, List.forall_mem_cons.mpr ⟨lw_p34, List.forall_mem_cons.mpr ⟨lw_p35, List.forall_mem_cons.mpr ⟨lw_p36, List.forall_mem_cons.mpr ⟨lw_p37, List.forall_mem_cons.mpr ⟨lw_p38, List.forall_mem_cons.mpr ⟨lw_p39, List.forall_mem_cons.mpr ⟨lw_p40, List.forall_mem_cons.mpr ⟨lw_p41, List.forall_mem_cons.mpr ⟨lw_p42, List.forall_mem_cons.mpr ⟨lw_p43, List.forall_mem_cons.mpr ⟨lw_p44, List.forall_mem_cons.mpr ⟨lw_p45, List.forall_mem_cons.mpr ⟨lw_p46, List.forall_mem_cons.mpr ⟨lw_p47, fun _ h => absurd h List.not_mem_nil⟩⟩⟩⟩⟩⟩⟩⟩⟩⟩⟩⟩⟩⟩⟩⟩
theorem lw_p48 : lw_okq (⟨"PaidMistakesModel", "compare", "()Z"⟩, 36) := ⟨⟨by decide +kernel, by decide +kernel⟩, List.mem_of_getElem? (i := 877) (by decide +kernel), List.mem_of_getElem? (i := 1107) (by decide +kernel), List.mem_of_getElem? (i := 1108) (by decide +kernel)⟩
theorem lw_p49 : lw_okq (⟨"PaidMistakesModel", "closes", "()V"⟩, 36) := ⟨⟨by decide +kernel, by decide +kernel⟩, List.mem_of_getElem? (i := 877) (by decide +kernel), List.mem_of_getElem? (i := 1111) (by decide +kernel), List.mem_of_getElem? (i := 1112) (by decide +kernel)⟩
theorem lw_p50 : lw_okq (⟨"PaidMistakesModel", "settles", "(I)V"⟩, 36) := ⟨⟨by decide +kernel, by decide +kernel⟩, List.mem_of_getElem? (i := 877) (by decide +kernel), List.mem_of_getElem? (i := 1115) (by decide +kernel), List.mem_of_getElem? (i := 1116) (by decide +kernel)⟩
theorem lw_p51 : lw_okq (⟨"PaidMistakesModel", "isInside", "()Z"⟩, 36) := ⟨⟨by decide +kernel, by decide +kernel⟩, List.mem_of_getElem? (i := 877) (by decide +kernel), List.mem_of_getElem? (i := 1122) (by decide +kernel), List.mem_of_getElem? (i := 1123) (by decide +kernel)⟩
theorem lw_p52 : lw_okq (⟨"PaidMistakesModel", "isTimeHere", "(I)Z"⟩, 36) := ⟨⟨by decide +kernel, by decide +kernel⟩, List.mem_of_getElem? (i := 877) (by decide +kernel), List.mem_of_getElem? (i := 1128) (by decide +kernel), List.mem_of_getElem? (i := 1129) (by decide +kernel)⟩
theorem lw_p53 : lw_okq (⟨"PaidMistakesModel", "isKindHere", "(I)Z"⟩, 36) := ⟨⟨by decide +kernel, by decide +kernel⟩, List.mem_of_getElem? (i := 877) (by decide +kernel), List.mem_of_getElem? (i := 1132) (by decide +kernel), List.mem_of_getElem? (i := 1133) (by decide +kernel)⟩
theorem lw_p54 : lw_okq (⟨"PaidMistakesModel", "isFaultHere", "(I)Z"⟩, 36) := ⟨⟨by decide +kernel, by decide +kernel⟩, List.mem_of_getElem? (i := 877) (by decide +kernel), List.mem_of_getElem? (i := 1136) (by decide +kernel), List.mem_of_getElem? (i := 1137) (by decide +kernel)⟩
theorem lw_p55 : lw_okq (⟨"PaidMistakesModel", "isFault", "(I)Z"⟩, 36) := ⟨⟨by decide +kernel, by decide +kernel⟩, List.mem_of_getElem? (i := 877) (by decide +kernel), List.mem_of_getElem? (i := 1154) (by decide +kernel), List.mem_of_getElem? (i := 1155) (by decide +kernel)⟩
theorem lw_p56 : lw_okq (⟨"PaidMistakesModel", "faultOf", "(II)I"⟩, 36) := ⟨⟨by decide +kernel, by decide +kernel⟩, List.mem_of_getElem? (i := 877) (by decide +kernel), List.mem_of_getElem? (i := 1159) (by decide +kernel), List.mem_of_getElem? (i := 1160) (by decide +kernel)⟩
theorem lw_p57 : lw_okq (⟨"PaidMistakesModel", "isOpen", "(I)Z"⟩, 36) := ⟨⟨by decide +kernel, by decide +kernel⟩, List.mem_of_getElem? (i := 877) (by decide +kernel), List.mem_of_getElem? (i := 1163) (by decide +kernel), List.mem_of_getElem? (i := 1164) (by decide +kernel)⟩
theorem lw_p58 : lw_okq (⟨"PaidMistakesModel", "canLook", "(I)Z"⟩, 36) := ⟨⟨by decide +kernel, by decide +kernel⟩, List.mem_of_getElem? (i := 877) (by decide +kernel), List.mem_of_getElem? (i := 1171) (by decide +kernel), List.mem_of_getElem? (i := 1172) (by decide +kernel)⟩
theorem lw_p59 : lw_okq (⟨"PaidMistakesModel", "looks", "(I)Z"⟩, 36) := ⟨⟨by decide +kernel, by decide +kernel⟩, List.mem_of_getElem? (i := 877) (by decide +kernel), List.mem_of_getElem? (i := 1175) (by decide +kernel), List.mem_of_getElem? (i := 1176) (by decide +kernel)⟩
theorem lw_p60 : lw_okq (⟨"PaidMistakesModel", "draw", "(I)I"⟩, 36) := ⟨⟨by decide +kernel, by decide +kernel⟩, List.mem_of_getElem? (i := 877) (by decide +kernel), List.mem_of_getElem? (i := 1179) (by decide +kernel), List.mem_of_getElem? (i := 1180) (by decide +kernel)⟩
theorem lw_p61 : lw_okq (⟨"PaidMistakesModel", "kindOf", "(II)I"⟩, 36) := ⟨⟨by decide +kernel, by decide +kernel⟩, List.mem_of_getElem? (i := 877) (by decide +kernel), List.mem_of_getElem? (i := 1187) (by decide +kernel), List.mem_of_getElem? (i := 1188) (by decide +kernel)⟩
theorem lw_p62 : lw_okq (⟨"PaidMistakesModel", "isWork", "()Z"⟩, 36) := ⟨⟨by decide +kernel, by decide +kernel⟩, List.mem_of_getElem? (i := 877) (by decide +kernel), List.mem_of_getElem? (i := 1195) (by decide +kernel), List.mem_of_getElem? (i := 1196) (by decide +kernel)⟩
theorem lw_p63 : lw_okq (⟨"PaidMistakesModel", "hidden", "()I"⟩, 36) := ⟨⟨by decide +kernel, by decide +kernel⟩, List.mem_of_getElem? (i := 877) (by decide +kernel), List.mem_of_getElem? (i := 1209) (by decide +kernel), List.mem_of_getElem? (i := 1210) (by decide +kernel)⟩
def lw_privs_4 : List (MethodName × Nat) := [(⟨"PaidMistakesModel", "compare", "()Z"⟩, 36), (⟨"PaidMistakesModel", "closes", "()V"⟩, 36), (⟨"PaidMistakesModel", "settles", "(I)V"⟩, 36), (⟨"PaidMistakesModel", "isInside", "()Z"⟩, 36), (⟨"PaidMistakesModel", "isTimeHere", "(I)Z"⟩, 36), (⟨"PaidMistakesModel", "isKindHere", "(I)Z"⟩, 36), (⟨"PaidMistakesModel", "isFaultHere", "(I)Z"⟩, 36), (⟨"PaidMistakesModel", "isFault", "(I)Z"⟩, 36), (⟨"PaidMistakesModel", "faultOf", "(II)I"⟩, 36), (⟨"PaidMistakesModel", "isOpen", "(I)Z"⟩, 36), (⟨"PaidMistakesModel", "canLook", "(I)Z"⟩, 36), (⟨"PaidMistakesModel", "looks", "(I)Z"⟩, 36), (⟨"PaidMistakesModel", "draw", "(I)I"⟩, 36), (⟨"PaidMistakesModel", "kindOf", "(II)I"⟩, 36), (⟨"PaidMistakesModel", "isWork", "()Z"⟩, 36), (⟨"PaidMistakesModel", "hidden", "()I"⟩, 36)]
theorem lw_r4 : ∀ q ∈ lw_privs_4, lw_okq q := List.forall_mem_cons.mpr ⟨lw_p48, List.forall_mem_cons.mpr ⟨lw_p49, List.forall_mem_cons.mpr ⟨lw_p50, List.forall_mem_cons.mpr ⟨lw_p51, List.forall_mem_cons.mpr ⟨lw_p52, List.forall_mem_cons.mpr ⟨lw_p53, List.forall_mem_cons.mpr ⟨lw_p54, List.forall_mem_cons.mpr ⟨lw_p55, List.forall_mem_cons.mpr ⟨lw_p56, List.forall_mem_cons.mpr ⟨lw_p57, List.forall_mem_cons.mpr ⟨lw_p58, List.forall_mem_cons.mpr ⟨lw_p59, List.forall_mem_cons.mpr ⟨lw_p60, List.forall_mem_cons.mpr ⟨lw_p61, List.forall_mem_cons.mpr ⟨lw_p62, List.forall_mem_cons.mpr ⟨lw_p63, fun _ h => absurd h List.not_mem_nil⟩⟩⟩⟩⟩⟩⟩⟩⟩⟩⟩⟩⟩⟩⟩⟩
theorem lw_p64 : lw_okq (⟨"PaidMistakesModel", "begins", "()V"⟩, 36) := ⟨⟨by decide +kernel, by decide +kernel⟩, List.mem_of_getElem? (i := 877) (by decide +kernel), List.mem_of_getElem? (i := 1213) (by decide +kernel), List.mem_of_getElem? (i := 1214) (by decide +kernel)⟩
theorem lw_p65 : lw_okq (⟨"PaidMistakesModel", "isRule", "(I)Z"⟩, 36) := ⟨⟨by decide +kernel, by decide +kernel⟩, List.mem_of_getElem? (i := 877) (by decide +kernel), List.mem_of_getElem? (i := 1221) (by decide +kernel), List.mem_of_getElem? (i := 1222) (by decide +kernel)⟩
theorem lw_p66 : lw_okq (⟨"PaidMistakesModel", "passes", "(I)I"⟩, 36) := ⟨⟨by decide +kernel, by decide +kernel⟩, List.mem_of_getElem? (i := 877) (by decide +kernel), List.mem_of_getElem? (i := 1225) (by decide +kernel), List.mem_of_getElem? (i := 1226) (by decide +kernel)⟩
theorem lw_p67 : lw_okq (⟨"PaidMistakesModel", "nextFor", "(I)I"⟩, 36) := ⟨⟨by decide +kernel, by decide +kernel⟩, List.mem_of_getElem? (i := 877) (by decide +kernel), List.mem_of_getElem? (i := 1229) (by decide +kernel), List.mem_of_getElem? (i := 1230) (by decide +kernel)⟩
theorem lw_p68 : lw_okq (⟨"PaidMistakesModel", "clauseFor", "(II)I"⟩, 36) := ⟨⟨by decide +kernel, by decide +kernel⟩, List.mem_of_getElem? (i := 877) (by decide +kernel), List.mem_of_getElem? (i := 1233) (by decide +kernel), List.mem_of_getElem? (i := 1234) (by decide +kernel)⟩
theorem lw_p69 : lw_okq (⟨"PaidMistakesModel", "words", "(I)V"⟩, 36) := ⟨⟨by decide +kernel, by decide +kernel⟩, List.mem_of_getElem? (i := 877) (by decide +kernel), List.mem_of_getElem? (i := 1237) (by decide +kernel), List.mem_of_getElem? (i := 1238) (by decide +kernel)⟩
theorem lw_p70 : lw_okq (⟨"PaidMistakesModel", "thatAre", "(I)I"⟩, 36) := ⟨⟨by decide +kernel, by decide +kernel⟩, List.mem_of_getElem? (i := 877) (by decide +kernel), List.mem_of_getElem? (i := 1241) (by decide +kernel), List.mem_of_getElem? (i := 1242) (by decide +kernel)⟩
theorem lw_p71 : lw_okq (⟨"PaidMistakesModel", "reckons", "(III)J"⟩, 36) := ⟨⟨by decide +kernel, by decide +kernel⟩, List.mem_of_getElem? (i := 877) (by decide +kernel), List.mem_of_getElem? (i := 1248) (by decide +kernel), List.mem_of_getElem? (i := 1249) (by decide +kernel)⟩
theorem lw_p72 : lw_okq (⟨"PaidMistakesModel", "push", "(J)V"⟩, 36) := ⟨⟨by decide +kernel, by decide +kernel⟩, List.mem_of_getElem? (i := 877) (by decide +kernel), List.mem_of_getElem? (i := 1252) (by decide +kernel), List.mem_of_getElem? (i := 1253) (by decide +kernel)⟩
theorem lw_p73 : lw_okq (⟨"PaidMistakesModel", "pop", "()J"⟩, 36) := ⟨⟨by decide +kernel, by decide +kernel⟩, List.mem_of_getElem? (i := 877) (by decide +kernel), List.mem_of_getElem? (i := 1256) (by decide +kernel), List.mem_of_getElem? (i := 1257) (by decide +kernel)⟩
theorem lw_p74 : lw_okq (⟨"PaidMistakesModel", "stops", "(II)Z"⟩, 36) := ⟨⟨by decide +kernel, by decide +kernel⟩, List.mem_of_getElem? (i := 877) (by decide +kernel), List.mem_of_getElem? (i := 1263) (by decide +kernel), List.mem_of_getElem? (i := 1264) (by decide +kernel)⟩
theorem lw_p75 : lw_okq (⟨"PaidMistakesModel", "keeps", "()V"⟩, 36) := ⟨⟨by decide +kernel, by decide +kernel⟩, List.mem_of_getElem? (i := 877) (by decide +kernel), List.mem_of_getElem? (i := 1272) (by decide +kernel), List.mem_of_getElem? (i := 1273) (by decide +kernel)⟩
theorem lw_p76 : lw_okq (⟨"PaidMistakesModel", "putsBack", "()V"⟩, 36) := ⟨⟨by decide +kernel, by decide +kernel⟩, List.mem_of_getElem? (i := 877) (by decide +kernel), List.mem_of_getElem? (i := 1276) (by decide +kernel), List.mem_of_getElem? (i := 1277) (by decide +kernel)⟩
theorem lw_p77 : lw_okq (⟨"PaidMistakesModel", "meanOf", "(I)J"⟩, 36) := ⟨⟨by decide +kernel, by decide +kernel⟩, List.mem_of_getElem? (i := 877) (by decide +kernel), List.mem_of_getElem? (i := 1289) (by decide +kernel), List.mem_of_getElem? (i := 1290) (by decide +kernel)⟩
theorem lw_p78 : lw_okq (⟨"PaidMistakesModel", "comesOut", "(I)J"⟩, 36) := ⟨⟨by decide +kernel, by decide +kernel⟩, List.mem_of_getElem? (i := 877) (by decide +kernel), List.mem_of_getElem? (i := 1293) (by decide +kernel), List.mem_of_getElem? (i := 1294) (by decide +kernel)⟩
theorem lw_p79 : lw_okq (⟨"PaidMistakesModel", "hundreds", "(I)J"⟩, 36) := ⟨⟨by decide +kernel, by decide +kernel⟩, List.mem_of_getElem? (i := 877) (by decide +kernel), List.mem_of_getElem? (i := 1301) (by decide +kernel), List.mem_of_getElem? (i := 1302) (by decide +kernel)⟩
def lw_privs_5 : List (MethodName × Nat) := [(⟨"PaidMistakesModel", "begins", "()V"⟩, 36), (⟨"PaidMistakesModel", "isRule", "(I)Z"⟩, 36), (⟨"PaidMistakesModel", "passes", "(I)I"⟩, 36), (⟨"PaidMistakesModel", "nextFor", "(I)I"⟩, 36), (⟨"PaidMistakesModel", "clauseFor", "(II)I"⟩, 36), (⟨"PaidMistakesModel", "words", "(I)V"⟩, 36), (⟨"PaidMistakesModel", "thatAre", "(I)I"⟩, 36), (⟨"PaidMistakesModel", "reckons", "(III)J"⟩, 36), (⟨"PaidMistakesModel", "push", "(J)V"⟩, 36), (⟨"PaidMistakesModel", "pop", "()J"⟩, 36), (⟨"PaidMistakesModel", "stops", "(II)Z"⟩, 36), (⟨"PaidMistakesModel", "keeps", "()V"⟩, 36), (⟨"PaidMistakesModel", "putsBack", "()V"⟩, 36), (⟨"PaidMistakesModel", "meanOf", "(I)J"⟩, 36), (⟨"PaidMistakesModel", "comesOut", "(I)J"⟩, 36), (⟨"PaidMistakesModel", "hundreds", "(I)J"⟩, 36)]
theorem lw_r5 : ∀ q ∈ lw_privs_5, lw_okq q := List.forall_mem_cons.mpr ⟨lw_p64, List.forall_mem_cons.mpr ⟨lw_p65, List.forall_mem_cons.mpr ⟨lw_p66, List.forall_mem_cons.mpr ⟨lw_p67, List.forall_mem_cons.mpr ⟨lw_p68, List.forall_mem_cons.mpr ⟨lw_p69, List.forall_mem_cons.mpr ⟨lw_p70, List.forall_mem_cons.mpr ⟨lw_p71, List.forall_mem_cons.mpr ⟨lw_p72, List.forall_mem_cons.mpr ⟨lw_p73, List.forall_mem_cons.mpr ⟨lw_p74, List.forall_mem_cons.mpr ⟨lw_p75, List.forall_mem_cons.mpr ⟨lw_p76, List.forall_mem_cons.mpr ⟨lw_p77, List.forall_mem_cons.mpr ⟨lw_p78, List.forall_mem_cons.mpr ⟨lw_p79, fun _ h => absurd h List.not_mem_nil⟩⟩⟩⟩⟩⟩⟩⟩⟩⟩⟩⟩⟩⟩⟩⟩
theorem lw_p80 : lw_okq (⟨"PaidMistakesModel", "partOf", "(JJI)J"⟩, 36) := ⟨⟨by decide +kernel, by decide +kernel⟩, List.mem_of_getElem? (i := 877) (by decide +kernel), List.mem_of_getElem? (i := 1305) (by decide +kernel), List.mem_of_getElem? (i := 1306) (by decide +kernel)⟩
theorem lw_p81 : lw_okq (⟨"PaidMistakesModel", "goesThrough", "(I)V"⟩, 36) := ⟨⟨by decide +kernel, by decide +kernel⟩, List.mem_of_getElem? (i := 877) (by decide +kernel), List.mem_of_getElem? (i := 1321) (by decide +kernel), List.mem_of_getElem? (i := 1322) (by decide +kernel)⟩
theorem lw_p82 : lw_okq (⟨"PaidMistakesModel", "comesTo", "(II)V"⟩, 36) := ⟨⟨by decide +kernel, by decide +kernel⟩, List.mem_of_getElem? (i := 877) (by decide +kernel), List.mem_of_getElem? (i := 1325) (by decide +kernel), List.mem_of_getElem? (i := 1326) (by decide +kernel)⟩
theorem lw_p83 : lw_okq (⟨"PaidMistakesModel", "triesNext", "(I)Z"⟩, 36) := ⟨⟨by decide +kernel, by decide +kernel⟩, List.mem_of_getElem? (i := 877) (by decide +kernel), List.mem_of_getElem? (i := 1329) (by decide +kernel), List.mem_of_getElem? (i := 1330) (by decide +kernel)⟩
theorem lw_p84 : lw_okq (⟨"PaidMistakesModel", "takes", "(IIJJ)V"⟩, 36) := ⟨⟨by decide +kernel, by decide +kernel⟩, List.mem_of_getElem? (i := 877) (by decide +kernel), List.mem_of_getElem? (i := 1333) (by decide +kernel), List.mem_of_getElem? (i := 1334) (by decide +kernel)⟩
theorem lw_p85 : lw_okq (⟨"PaidMistakesModel", "triesAs", "(IZ)V"⟩, 36) := ⟨⟨by decide +kernel, by decide +kernel⟩, List.mem_of_getElem? (i := 877) (by decide +kernel), List.mem_of_getElem? (i := 1337) (by decide +kernel), List.mem_of_getElem? (i := 1338) (by decide +kernel)⟩
theorem lw_p86 : lw_okq (⟨"PaidMistakesModel", "gameOf", "(I)I"⟩, 36) := ⟨⟨by decide +kernel, by decide +kernel⟩, List.mem_of_getElem? (i := 877) (by decide +kernel), List.mem_of_getElem? (i := 1357) (by decide +kernel), List.mem_of_getElem? (i := 1358) (by decide +kernel)⟩
theorem lw_p87 : lw_okq (⟨"PaidMistakesModel", "couldBe", "(II)Z"⟩, 36) := ⟨⟨by decide +kernel, by decide +kernel⟩, List.mem_of_getElem? (i := 877) (by decide +kernel), List.mem_of_getElem? (i := 1375) (by decide +kernel), List.mem_of_getElem? (i := 1376) (by decide +kernel)⟩
def lw_privs_6 : List (MethodName × Nat) := [(⟨"PaidMistakesModel", "partOf", "(JJI)J"⟩, 36), (⟨"PaidMistakesModel", "goesThrough", "(I)V"⟩, 36), (⟨"PaidMistakesModel", "comesTo", "(II)V"⟩, 36), (⟨"PaidMistakesModel", "triesNext", "(I)Z"⟩, 36), (⟨"PaidMistakesModel", "takes", "(IIJJ)V"⟩, 36), (⟨"PaidMistakesModel", "triesAs", "(IZ)V"⟩, 36), (⟨"PaidMistakesModel", "gameOf", "(I)I"⟩, 36), (⟨"PaidMistakesModel", "couldBe", "(II)Z"⟩, 36)]
theorem lw_r6 : ∀ q ∈ lw_privs_6, lw_okq q := List.forall_mem_cons.mpr ⟨lw_p80, List.forall_mem_cons.mpr ⟨lw_p81, List.forall_mem_cons.mpr ⟨lw_p82, List.forall_mem_cons.mpr ⟨lw_p83, List.forall_mem_cons.mpr ⟨lw_p84, List.forall_mem_cons.mpr ⟨lw_p85, List.forall_mem_cons.mpr ⟨lw_p86, List.forall_mem_cons.mpr ⟨lw_p87, fun _ h => absurd h List.not_mem_nil⟩⟩⟩⟩⟩⟩⟩⟩
def lw_privs : List (MethodName × Nat) := lw_privs_1 ++ (lw_privs_2 ++ (lw_privs_3 ++ (lw_privs_4 ++ (lw_privs_5 ++ (lw_privs_6)))))
def lw_tbl : List Cond := k2_sels lw_privs ++ tables_1
theorem lw_privs_ok : ∀ q ∈ lw_privs, lw_okq q := by
  show ∀ q ∈ lw_privs_1 ++ (lw_privs_2 ++ (lw_privs_3 ++ (lw_privs_4 ++ (lw_privs_5 ++ (lw_privs_6))))), lw_okq q
  exact List.forall_mem_append.mpr ⟨lw_r1, List.forall_mem_append.mpr ⟨lw_r2, List.forall_mem_append.mpr ⟨lw_r3, List.forall_mem_append.mpr ⟨lw_r4, List.forall_mem_append.mpr ⟨lw_r5, lw_r6⟩⟩⟩⟩⟩
def RX0 : String := "PaidMistakes$Day"
def TX0 : u_T := fun k => match k with
  | 0 => ("PaidMistakes$Day", "left", "I", false)
  | 1 => ("PaidMistakes$Day", "earned", "I", false)
  | 2 => ("PaidMistakes$Day", "found", "I", false)
  | 3 => ("PaidMistakes$Day", "mended", "I", false)
  | 4 => ("PaidMistakes$Day", "x", "I", false)
  | _ => ("PaidMistakes$Day", "tries", "[I", true)
def tyX0 : Nat → FieldType := fun k => match k with
  | 0 => .int
  | 1 => .int
  | 2 => .int
  | 3 => .int
  | 4 => .int
  | _ => .array .int
theorem nmX0 : ∀ a, a < 6 → ∀ b, b < 6 → a ≠ b → (TX0 a).2.1 ≠ (TX0 b).2.1 := by decide +kernel
theorem tyX0_ok : ∀ k, k < 6 → parseFieldDescriptor (TX0 k).2.2.1 = some (tyX0 k) := by decide +kernel
abbrev cX0_init : ByteArray := prog_2_method_1_code
def yX0_init : MethodName := ⟨RX0, "<init>", "()V"⟩
abbrev cX0_copyFrom : ByteArray := prog_2_method_2_code
def yX0_copyFrom : MethodName := ⟨RX0, "copyFrom", "(LPaidMistakes$Day;)V"⟩
abbrev cX0_begin : ByteArray := prog_2_method_3_code
def yX0_begin : MethodName := ⟨RX0, "begin", "(I)V"⟩
abbrev cX0_gone : ByteArray := prog_2_method_4_code
def yX0_gone : MethodName := ⟨RX0, "gone", "()I"⟩
abbrev cX0_lookFor : ByteArray := prog_2_method_5_code
def yX0_lookFor : MethodName := ⟨RX0, "lookFor", "(LPaidMistakes$Work;I)Z"⟩
def RX1 : String := "PaidMistakes$Planner"
def TX1 : u_T := fun k => match k with
  | 0 => ("PaidMistakes$Planner", "keys", "[J", true)
  | 1 => ("PaidMistakes$Planner", "kept", "[J", true)
  | 2 => ("PaidMistakes$Planner", "setToMend", "I", false)
  | _ => ("PaidMistakes$Planner", "meanOfSet", "J", false)
def tyX1 : Nat → FieldType := fun k => match k with
  | 0 => .array .long
  | 1 => .array .long
  | 2 => .int
  | _ => .long
theorem nmX1 : ∀ a, a < 4 → ∀ b, b < 4 → a ≠ b → (TX1 a).2.1 ≠ (TX1 b).2.1 := by decide +kernel
theorem tyX1_ok : ∀ k, k < 4 → parseFieldDescriptor (TX1 k).2.2.1 = some (tyX1 k) := by decide +kernel
abbrev cX1_init : ByteArray := prog_3_method_1_code
def yX1_init : MethodName := ⟨RX1, "<init>", "()V"⟩
abbrev cX1_mostEarned : ByteArray := prog_3_method_2_code
def yX1_mostEarned : MethodName := ⟨RX1, "mostEarned", "(LPaidMistakes$Work;III)J"⟩
abbrev cX1_earnedBy : ByteArray := prog_3_method_3_code
def yX1_earnedBy : MethodName := ⟨RX1, "earnedBy", "(LPaidMistakes$Work;IIII)J"⟩
abbrev cX1_choice : ByteArray := prog_3_method_4_code
def yX1_choice : MethodName := ⟨RX1, "choice", "(LPaidMistakes$Work;III)I"⟩
abbrev cX1_hiddenMean : ByteArray := prog_3_method_5_code
def yX1_hiddenMean : MethodName := ⟨RX1, "hiddenMean", "(LPaidMistakes$Work;III)J"⟩
abbrev cX1_weighSets : ByteArray := prog_3_method_6_code
def yX1_weighSets : MethodName := ⟨RX1, "weighSets", "(LPaidMistakes$Work;III)V"⟩
abbrev cX1_leastFree : ByteArray := prog_3_method_7_code
def yX1_leastFree : MethodName := ⟨RX1, "leastFree", "(LPaidMistakes$Work;I)I"⟩
def RX2 : String := "PaidMistakes$Player"
def TX2 : u_T := fun k => match k with
  | _ => ("PaidMistakes$Player", "stack", "[J", true)
def tyX2 : Nat → FieldType := fun k => match k with
  | _ => .array .long
theorem nmX2 : ∀ a, a < 1 → ∀ b, b < 1 → a ≠ b → (TX2 a).2.1 ≠ (TX2 b).2.1 := by decide +kernel
theorem tyX2_ok : ∀ k, k < 1 → parseFieldDescriptor (TX2 k).2.2.1 = some (tyX2 k) := by decide +kernel
abbrev cX2_init : ByteArray := prog_4_method_1_code
def yX2_init : MethodName := ⟨RX2, "<init>", "()V"⟩
abbrev cX2_play : ByteArray := prog_4_method_2_code
def yX2_play : MethodName := ⟨RX2, "play", "(LPaidMistakes$Work;LPaidMistakes$Rule;LPaidMistakes$Day;)I"⟩
abbrev cX2_nextFault : ByteArray := prog_4_method_3_code
def yX2_nextFault : MethodName := ⟨RX2, "nextFault", "(LPaidMistakes$Work;LPaidMistakes$Rule;LPaidMistakes$Day;)I"⟩
abbrev cX2_lookClause : ByteArray := prog_4_method_4_code
def yX2_lookClause : MethodName := ⟨RX2, "lookClause", "(LPaidMistakes$Work;LPaidMistakes$Rule;LPaidMistakes$Day;I)I"⟩
abbrev cX2_stopsAt : ByteArray := prog_4_method_5_code
def yX2_stopsAt : MethodName := ⟨RX2, "stopsAt", "(LPaidMistakes$Work;LPaidMistakes$Rule;LPaidMistakes$Day;I)Z"⟩
abbrev cX2_reckon : ByteArray := prog_4_method_6_code
def yX2_reckon : MethodName := ⟨RX2, "reckon", "([IIILPaidMistakes$Work;LPaidMistakes$Day;I)J"⟩
abbrev cX2_wordOf : ByteArray := prog_4_method_7_code
def yX2_wordOf : MethodName := ⟨RX2, "wordOf", "(ILPaidMistakes$Work;LPaidMistakes$Day;I)J"⟩
abbrev cX2_join : ByteArray := prog_4_method_8_code
def yX2_join : MethodName := ⟨RX2, "join", "(IJJ)J"⟩
abbrev cX2_compares : ByteArray := prog_4_method_9_code
def yX2_compares : MethodName := ⟨RX2, "compares", "(IJJ)Z"⟩
def RX3 : String := "PaidMistakes$Rule"
def TX3 : u_T := fun k => match k with
  | 0 => ("PaidMistakes$Rule", "code", "[I", true)
  | 1 => ("PaidMistakes$Rule", "clauses", "I", true)
  | 2 => ("PaidMistakes$Rule", "begin", "[I", true)
  | 3 => ("PaidMistakes$Rule", "middle", "[I", true)
  | _ => ("PaidMistakes$Rule", "finish", "[I", true)
def tyX3 : Nat → FieldType := fun k => match k with
  | 0 => .array .int
  | 1 => .int
  | 2 => .array .int
  | 3 => .array .int
  | _ => .array .int
theorem nmX3 : ∀ a, a < 5 → ∀ b, b < 5 → a ≠ b → (TX3 a).2.1 ≠ (TX3 b).2.1 := by decide +kernel
theorem tyX3_ok : ∀ k, k < 5 → parseFieldDescriptor (TX3 k).2.2.1 = some (tyX3 k) := by decide +kernel
abbrev cX3_init : ByteArray := prog_5_method_1_code
def yX3_init : MethodName := ⟨RX3, "<init>", "([II[I[I[I)V"⟩
def RX4 : String := "PaidMistakes$RuleReader"
def TX4 : u_T := fun k => match k with
  | 0 => ("PaidMistakes$RuleReader", "text", "LPaidMistakes$Text;", true)
  | 1 => ("PaidMistakes$RuleReader", "code", "[I", true)
  | 2 => ("PaidMistakes$RuleReader", "length", "I", false)
  | 3 => ("PaidMistakes$RuleReader", "pieces", "I", false)
  | 4 => ("PaidMistakes$RuleReader", "clauses", "I", false)
  | 5 => ("PaidMistakes$RuleReader", "begin", "[I", true)
  | 6 => ("PaidMistakes$RuleReader", "middle", "[I", true)
  | _ => ("PaidMistakes$RuleReader", "finish", "[I", true)
def tyX4 : Nat → FieldType := fun k => match k with
  | 0 => .object "PaidMistakes$Text"
  | 1 => .array .int
  | 2 => .int
  | 3 => .int
  | 4 => .int
  | 5 => .array .int
  | 6 => .array .int
  | _ => .array .int
theorem nmX4 : ∀ a, a < 8 → ∀ b, b < 8 → a ≠ b → (TX4 a).2.1 ≠ (TX4 b).2.1 := by decide +kernel
theorem tyX4_ok : ∀ k, k < 8 → parseFieldDescriptor (TX4 k).2.2.1 = some (tyX4 k) := by decide +kernel
abbrev cX4_init : ByteArray := prog_6_method_1_code
def yX4_init : MethodName := ⟨RX4, "<init>", "()V"⟩
abbrev cX4_start : ByteArray := prog_6_method_2_code
def yX4_start : MethodName := ⟨RX4, "start", "()V"⟩
abbrev cX4_makeRule : ByteArray := prog_6_method_3_code
def yX4_makeRule : MethodName := ⟨RX4, "makeRule", "()LPaidMistakes$Rule;"⟩
abbrev cX4_readClause : ByteArray := prog_6_method_4_code
def yX4_readClause : MethodName := ⟨RX4, "readClause", "()V"⟩
abbrev cX4_readTest : ByteArray := prog_6_method_5_code
def yX4_readTest : MethodName := ⟨RX4, "readTest", "(I)V"⟩
abbrev cX4_readFact : ByteArray := prog_6_method_6_code
def yX4_readFact : MethodName := ⟨RX4, "readFact", "(I)V"⟩
abbrev cX4_readComparison : ByteArray := prog_6_method_7_code
def yX4_readComparison : MethodName := ⟨RX4, "readComparison", "()V"⟩
abbrev cX4_readSum : ByteArray := prog_6_method_8_code
def yX4_readSum : MethodName := ⟨RX4, "readSum", "()V"⟩
abbrev cX4_readValue : ByteArray := prog_6_method_9_code
def yX4_readValue : MethodName := ⟨RX4, "readValue", "()V"⟩
abbrev cX4_emit : ByteArray := prog_6_method_10_code
def yX4_emit : MethodName := ⟨RX4, "emit", "(I)V"⟩
def RX5 : String := "PaidMistakes$State"
def TX5 : u_T := fun k => match k with
  | 0 => ("PaidMistakes$State", "work", "LPaidMistakes$Work;", false)
  | 1 => ("PaidMistakes$State", "today", "LPaidMistakes$Day;", true)
  | 2 => ("PaidMistakes$State", "masterCoins", "I", false)
  | 3 => ("PaidMistakes$State", "earnedBefore", "I", false)
  | 4 => ("PaidMistakes$State", "days", "I", false)
  | 5 => ("PaidMistakes$State", "row", "[I", true)
  | 6 => ("PaidMistakes$State", "rowLength", "I", false)
  | _ => ("PaidMistakes$State", "game", "[I", true)
def tyX5 : Nat → FieldType := fun k => match k with
  | 0 => .object "PaidMistakes$Work"
  | 1 => .object "PaidMistakes$Day"
  | 2 => .int
  | 3 => .int
  | 4 => .int
  | 5 => .array .int
  | 6 => .int
  | _ => .array .int
theorem nmX5 : ∀ a, a < 8 → ∀ b, b < 8 → a ≠ b → (TX5 a).2.1 ≠ (TX5 b).2.1 := by decide +kernel
theorem tyX5_ok : ∀ k, k < 8 → parseFieldDescriptor (TX5 k).2.2.1 = some (tyX5 k) := by decide +kernel
abbrev cX5_init : ByteArray := prog_7_method_1_code
def yX5_init : MethodName := ⟨RX5, "<init>", "(LPaidMistakes$Work;)V"⟩
abbrev cX5_copyFrom : ByteArray := prog_7_method_2_code
def yX5_copyFrom : MethodName := ⟨RX5, "copyFrom", "(LPaidMistakes$State;)V"⟩
abbrev cX5_beginWork : ByteArray := prog_7_method_3_code
def yX5_beginWork : MethodName := ⟨RX5, "beginWork", "(LPaidMistakes$Work;)V"⟩
def RX6 : String := "PaidMistakes$Text"
def TX6 : u_T := fun k => match k with
  | 0 => ("PaidMistakes$Text", "codes", "[I", true)
  | 1 => ("PaidMistakes$Text", "places", "[I", true)
  | 2 => ("PaidMistakes$Text", "numbers", "[I", true)
  | 3 => ("PaidMistakes$Text", "tokens", "I", false)
  | 4 => ("PaidMistakes$Text", "next", "I", false)
  | 5 => ("PaidMistakes$Text", "code", "I", false)
  | 6 => ("PaidMistakes$Text", "place", "I", false)
  | 7 => ("PaidMistakes$Text", "number", "I", false)
  | _ => ("PaidMistakes$Text", "fault", "I", false)
def tyX6 : Nat → FieldType := fun k => match k with
  | 0 => .array .int
  | 1 => .array .int
  | 2 => .array .int
  | 3 => .int
  | 4 => .int
  | 5 => .int
  | 6 => .int
  | 7 => .int
  | _ => .int
theorem nmX6 : ∀ a, a < 9 → ∀ b, b < 9 → a ≠ b → (TX6 a).2.1 ≠ (TX6 b).2.1 := by decide +kernel
theorem tyX6_ok : ∀ k, k < 9 → parseFieldDescriptor (TX6 k).2.2.1 = some (tyX6 k) := by decide +kernel
abbrev cX6_init : ByteArray := prog_8_method_1_code
def yX6_init : MethodName := ⟨RX6, "<init>", "()V"⟩
abbrev cX6_open : ByteArray := prog_8_method_2_code
def yX6_open : MethodName := ⟨RX6, "open", "([II)V"⟩
abbrev cX6_cutToken : ByteArray := prog_8_method_3_code
def yX6_cutToken : MethodName := ⟨RX6, "cutToken", "([III)I"⟩
abbrev cX6_cutNumber : ByteArray := prog_8_method_4_code
def yX6_cutNumber : MethodName := ⟨RX6, "cutNumber", "([III)I"⟩
abbrev cX6_cutWord : ByteArray := prog_8_method_5_code
def yX6_cutWord : MethodName := ⟨RX6, "cutWord", "([III)I"⟩
abbrev cX6_isDigit : ByteArray := prog_8_method_6_code
def yX6_isDigit : MethodName := ⟨RX6, "isDigit", "(I)Z"⟩
abbrev cX6_isLetter : ByteArray := prog_8_method_7_code
def yX6_isLetter : MethodName := ⟨RX6, "isLetter", "(I)Z"⟩
abbrev cX6_clauseWord : ByteArray := prog_8_method_8_code
def yX6_clauseWord : MethodName := ⟨RX6, "clauseWord", "([III)I"⟩
abbrev cX6_valueWord : ByteArray := prog_8_method_9_code
def yX6_valueWord : MethodName := ⟨RX6, "valueWord", "([III)I"⟩
abbrev cX6_spells : ByteArray := prog_8_method_10_code
def yX6_spells : MethodName := ⟨RX6, "spells", "([IIILjava/lang/String;)Z"⟩
abbrev cX6_addToken : ByteArray := prog_8_method_11_code
def yX6_addToken : MethodName := ⟨RX6, "addToken", "(III)V"⟩
abbrev cX6_step : ByteArray := prog_8_method_12_code
def yX6_step : MethodName := ⟨RX6, "step", "()V"⟩
abbrev cX6_fail : ByteArray := prog_8_method_13_code
def yX6_fail : MethodName := ⟨RX6, "fail", "(I)V"⟩
abbrev cX6_takeNumber : ByteArray := prog_8_method_14_code
def yX6_takeNumber : MethodName := ⟨RX6, "takeNumber", "(II)I"⟩
abbrev cX6_anotherClause : ByteArray := prog_8_method_15_code
def yX6_anotherClause : MethodName := ⟨RX6, "anotherClause", "()Z"⟩
def RX7 : String := "PaidMistakes$Work"
def TX7 : u_T := fun k => match k with
  | 0 => ("PaidMistakes$Work", "serial", "I", true)
  | 1 => ("PaidMistakes$Work", "time", "I", false)
  | 2 => ("PaidMistakes$Work", "kinds", "I", false)
  | 3 => ("PaidMistakes$Work", "faults", "I", false)
  | 4 => ("PaidMistakes$Work", "timeTold", "Z", false)
  | 5 => ("PaidMistakes$Work", "kindPay", "[I", true)
  | 6 => ("PaidMistakes$Work", "kindHide", "[I", true)
  | 7 => ("PaidMistakes$Work", "kindMend", "[I", true)
  | 8 => ("PaidMistakes$Work", "kindOf", "[I", true)
  | 9 => ("PaidMistakes$Work", "minutes", "[I", true)
  | 10 => ("PaidMistakes$Work", "odds", "[I", true)
  | 11 => ("PaidMistakes$Work", "under", "[I", true)
  | 12 => ("PaidMistakes$Work", "pay", "[I", true)
  | 13 => ("PaidMistakes$Work", "hide", "[I", true)
  | 14 => ("PaidMistakes$Work", "mend", "[I", true)
  | 15 => ("PaidMistakes$Work", "oneLook", "[I", true)
  | 16 => ("PaidMistakes$Work", "byOneLook", "[I", true)
  | _ => ("PaidMistakes$Work", "longest", "I", false)
def tyX7 : Nat → FieldType := fun k => match k with
  | 0 => .int
  | 1 => .int
  | 2 => .int
  | 3 => .int
  | 4 => .boolean
  | 5 => .array .int
  | 6 => .array .int
  | 7 => .array .int
  | 8 => .array .int
  | 9 => .array .int
  | 10 => .array .int
  | 11 => .array .int
  | 12 => .array .int
  | 13 => .array .int
  | 14 => .array .int
  | 15 => .array .int
  | 16 => .array .int
  | _ => .int
theorem nmX7 : ∀ a, a < 18 → ∀ b, b < 18 → a ≠ b → (TX7 a).2.1 ≠ (TX7 b).2.1 := by decide +kernel
theorem tyX7_ok : ∀ k, k < 18 → parseFieldDescriptor (TX7 k).2.2.1 = some (tyX7 k) := by decide +kernel
abbrev cX7_init : ByteArray := prog_9_method_1_code
def yX7_init : MethodName := ⟨RX7, "<init>", "(I)V"⟩
abbrev cX7_readFrom : ByteArray := prog_9_method_2_code
def yX7_readFrom : MethodName := ⟨RX7, "readFrom", "(LPaidMistakes$Text;)V"⟩
abbrev cX7_orderLooks : ByteArray := prog_9_method_3_code
def yX7_orderLooks : MethodName := ⟨RX7, "orderLooks", "()V"⟩
abbrev cX7_readClause : ByteArray := prog_9_method_4_code
def yX7_readClause : MethodName := ⟨RX7, "readClause", "(LPaidMistakes$Text;I)V"⟩
abbrev cX7_readKind : ByteArray := prog_9_method_5_code
def yX7_readKind : MethodName := ⟨RX7, "readKind", "(LPaidMistakes$Text;)V"⟩
abbrev cX7_readFault : ByteArray := prog_9_method_6_code
def yX7_readFault : MethodName := ⟨RX7, "readFault", "(LPaidMistakes$Text;)V"⟩
abbrev cX7_isOpen : ByteArray := prog_9_method_7_code
def yX7_isOpen : MethodName := ⟨RX7, "isOpen", "(II)Z"⟩
abbrev cX7_mostByOneLook : ByteArray := prog_9_method_8_code
def yX7_mostByOneLook : MethodName := ⟨RX7, "mostByOneLook", "(II)I"⟩
abbrev cX7_hiddenCoins : ByteArray := prog_9_method_9_code
def yX7_hiddenCoins : MethodName := ⟨RX7, "hiddenCoins", "(I)I"⟩
abbrev cX7_payOf : ByteArray := prog_9_method_10_code
def yX7_payOf : MethodName := ⟨RX7, "payOf", "(I)I"⟩
abbrev cX7_mendingOf : ByteArray := prog_9_method_11_code
def yX7_mendingOf : MethodName := ⟨RX7, "mendingOf", "(I)I"⟩
abbrev cX7_together : ByteArray := prog_9_method_12_code
def yX7_together : MethodName := ⟨RX7, "together", "([II)I"⟩
abbrev cX7_couldBeFound : ByteArray := prog_9_method_13_code
def yX7_couldBeFound : MethodName := ⟨RX7, "couldBeFound", "(II)Z"⟩
def RX8 : String := "PaidMistakes"
def TX8 : u_T := fun k => match k with
  | 0 => ("PaidMistakes", "tape", "[I", true)
  | 1 => ("PaidMistakes", "tapeLength", "I", false)
  | 2 => ("PaidMistakes", "rules", "[LPaidMistakes$Rule;", true)
  | 3 => ("PaidMistakes", "ruleCount", "I", false)
  | 4 => ("PaidMistakes", "worksTold", "I", false)
  | 5 => ("PaidMistakes", "now", "LPaidMistakes$State;", true)
  | 6 => ("PaidMistakes", "images", "[LPaidMistakes$State;", true)
  | 7 => ("PaidMistakes", "trial", "LPaidMistakes$Day;", true)
  | 8 => ("PaidMistakes", "ruleReader", "LPaidMistakes$RuleReader;", true)
  | 9 => ("PaidMistakes", "player", "LPaidMistakes$Player;", true)
  | _ => ("PaidMistakes", "planner", "LPaidMistakes$Planner;", true)
def tyX8 : Nat → FieldType := fun k => match k with
  | 0 => .array .int
  | 1 => .int
  | 2 => .array (.object "PaidMistakes$Rule")
  | 3 => .int
  | 4 => .int
  | 5 => .object "PaidMistakes$State"
  | 6 => .array (.object "PaidMistakes$State")
  | 7 => .object "PaidMistakes$Day"
  | 8 => .object "PaidMistakes$RuleReader"
  | 9 => .object "PaidMistakes$Player"
  | _ => .object "PaidMistakes$Planner"
theorem nmX8 : ∀ a, a < 11 → ∀ b, b < 11 → a ≠ b → (TX8 a).2.1 ≠ (TX8 b).2.1 := by decide +kernel
theorem tyX8_ok : ∀ k, k < 11 → parseFieldDescriptor (TX8 k).2.2.1 = some (tyX8 k) := by decide +kernel
abbrev cX8_init : ByteArray := prog_1_method_1_code
def yX8_init : MethodName := ⟨RX8, "<init>", "()V"⟩
abbrev cX8_feed : ByteArray := prog_1_method_2_code
def yX8_feed : MethodName := ⟨RX8, "feed", "(IIIII)I"⟩
abbrev cX8_putBytes : ByteArray := prog_1_method_3_code
def yX8_putBytes : MethodName := ⟨RX8, "putBytes", "(I)V"⟩
abbrev cX8_end : ByteArray := prog_1_method_4_code
def yX8_end : MethodName := ⟨RX8, "end", "(I)I"⟩
abbrev cX8_work : ByteArray := prog_1_method_5_code
def yX8_work : MethodName := ⟨RX8, "work", "()I"⟩
abbrev cX8_rule : ByteArray := prog_1_method_6_code
def yX8_rule : MethodName := ⟨RX8, "rule", "()I"⟩
abbrev cX8_hasWork : ByteArray := prog_1_method_7_code
def yX8_hasWork : MethodName := ⟨RX8, "hasWork", "()Z"⟩
abbrev cX8_isFault : ByteArray := prog_1_method_8_code
def yX8_isFault : MethodName := ⟨RX8, "isFault", "(I)Z"⟩
abbrev cX8_kind : ByteArray := prog_1_method_9_code
def yX8_kind : MethodName := ⟨RX8, "kind", "(II)I"⟩
abbrev cX8_fault : ByteArray := prog_1_method_10_code
def yX8_fault : MethodName := ⟨RX8, "fault", "(II)I"⟩
abbrev cX8_count : ByteArray := prog_1_method_11_code
def yX8_count : MethodName := ⟨RX8, "count", "(I)I"⟩
abbrev cX8_coins : ByteArray := prog_1_method_12_code
def yX8_coins : MethodName := ⟨RX8, "coins", "(I)I"⟩
abbrev cX8_look : ByteArray := prog_1_method_13_code
def yX8_look : MethodName := ⟨RX8, "look", "(I)I"⟩
abbrev cX8_fine : ByteArray := prog_1_method_14_code
def yX8_fine : MethodName := ⟨RX8, "fine", "(I)I"⟩
abbrev cX8_mend : ByteArray := prog_1_method_15_code
def yX8_mend : MethodName := ⟨RX8, "mend", "(I)I"⟩
abbrev cX8_dawn : ByteArray := prog_1_method_16_code
def yX8_dawn : MethodName := ⟨RX8, "dawn", "()I"⟩
abbrev cX8_seed : ByteArray := prog_1_method_17_code
def yX8_seed : MethodName := ⟨RX8, "seed", "(I)I"⟩
abbrev cX8_ruleForWork : ByteArray := prog_1_method_18_code
def yX8_ruleForWork : MethodName := ⟨RX8, "ruleForWork", "(I)LPaidMistakes$Rule;"⟩
abbrev cX8_day : ByteArray := prog_1_method_19_code
def yX8_day : MethodName := ⟨RX8, "day", "(I)I"⟩
abbrev cX8_would : ByteArray := prog_1_method_20_code
def yX8_would : MethodName := ⟨RX8, "would", "(II)I"⟩
abbrev cX8_weeks : ByteArray := prog_1_method_21_code
def yX8_weeks : MethodName := ⟨RX8, "weeks", "(III)I"⟩
abbrev cX8_row : ByteArray := prog_1_method_22_code
def yX8_row : MethodName := ⟨RX8, "row", "(I)I"⟩
abbrev cX8_worth : ByteArray := prog_1_method_23_code
def yX8_worth : MethodName := ⟨RX8, "worth", "(I)J"⟩
abbrev cX8_seen : ByteArray := prog_1_method_24_code
def yX8_seen : MethodName := ⟨RX8, "seen", "(II)J"⟩
abbrev cX8_rowMean : ByteArray := prog_1_method_25_code
def yX8_rowMean : MethodName := ⟨RX8, "rowMean", "(IIII)J"⟩
abbrev cX8_best : ByteArray := prog_1_method_26_code
def yX8_best : MethodName := ⟨RX8, "best", "(II)J"⟩
abbrev cX8_master : ByteArray := prog_1_method_27_code
def yX8_master : MethodName := ⟨RX8, "master", "(II)J"⟩
abbrev cX8_game : ByteArray := prog_1_method_28_code
def yX8_game : MethodName := ⟨RX8, "game", "(II)I"⟩
abbrev cX8_rests : ByteArray := prog_1_method_29_code
def yX8_rests : MethodName := ⟨RX8, "rests", "()I"⟩
abbrev cX8_mixed : ByteArray := prog_1_method_30_code
def yX8_mixed : MethodName := ⟨RX8, "mixed", "(II)I"⟩
abbrev cX8_checks : ByteArray := prog_1_method_31_code
def yX8_checks : MethodName := ⟨RX8, "checks", "(II)I"⟩
abbrev cX8_fits : ByteArray := prog_1_method_32_code
def yX8_fits : MethodName := ⟨RX8, "fits", "(II)I"⟩
abbrev cX8_image : ByteArray := prog_1_method_33_code
def yX8_image : MethodName := ⟨RX8, "image", "(I)I"⟩
abbrev cX8_back : ByteArray := prog_1_method_34_code
def yX8_back : MethodName := ⟨RX8, "back", "(I)I"⟩
abbrev cX8_at : ByteArray := prog_1_method_35_code
def yX8_at : MethodName := ⟨RX8, "at", "([II)I"⟩
abbrev cX8_put : ByteArray := prog_1_method_36_code
def yX8_put : MethodName := ⟨RX8, "put", "([III)V"⟩
abbrev cX8_bit : ByteArray := prog_1_method_37_code
def yX8_bit : MethodName := ⟨RX8, "bit", "(I)I"⟩
abbrev cX8_has : ByteArray := prog_1_method_38_code
def yX8_has : MethodName := ⟨RX8, "has", "(II)Z"⟩
abbrev cX8_hundreds : ByteArray := prog_1_method_39_code
def yX8_hundreds : MethodName := ⟨RX8, "hundreds", "(I)J"⟩
abbrev cX8_partOf : ByteArray := prog_1_method_40_code
def yX8_partOf : MethodName := ⟨RX8, "partOf", "(JJI)J"⟩
def RX9 : String := "PaidMistakesModel"
def TX9 : u_T := fun k => match k with
  | 0 => ("PaidMistakesModel", "tape", "[B", true)
  | 1 => ("PaidMistakesModel", "taped", "I", false)
  | 2 => ("PaidMistakesModel", "rules", "I", false)
  | 3 => ("PaidMistakesModel", "sign", "[I", true)
  | 4 => ("PaidMistakesModel", "length", "[I", true)
  | 5 => ("PaidMistakesModel", "clause", "[I", true)
  | 6 => ("PaidMistakesModel", "clauses", "[I", true)
  | 7 => ("PaidMistakesModel", "timeRead", "I", false)
  | 8 => ("PaidMistakesModel", "kindsRead", "I", false)
  | 9 => ("PaidMistakesModel", "faultsRead", "I", false)
  | 10 => ("PaidMistakesModel", "kindRead", "[I", true)
  | 11 => ("PaidMistakesModel", "faultRead", "[I", true)
  | 12 => ("PaidMistakesModel", "next", "I", false)
  | 13 => ("PaidMistakesModel", "wrong", "I", false)
  | 14 => ("PaidMistakesModel", "number", "I", false)
  | 15 => ("PaidMistakesModel", "text", "I", false)
  | 16 => ("PaidMistakesModel", "made", "I", false)
  | 17 => ("PaidMistakesModel", "deep", "I", false)
  | 18 => ("PaidMistakesModel", "lines", "I", false)
  | 19 => ("PaidMistakesModel", "open", "[I", true)
  | 20 => ("PaidMistakesModel", "opened", "I", false)
  | 21 => ("PaidMistakesModel", "stack", "[J", true)
  | 22 => ("PaidMistakesModel", "top", "I", false)
  | 23 => ("PaidMistakesModel", "word", "[J", true)
  | 24 => ("PaidMistakesModel", "said", "[I", true)
  | 25 => ("PaidMistakesModel", "kept", "[I", true)
  | 26 => ("PaidMistakesModel", "triedAt", "[I", true)
  | 27 => ("PaidMistakesModel", "isFoundAt", "[Z", true)
  | 28 => ("PaidMistakesModel", "foundBrings", "[J", true)
  | 29 => ("PaidMistakesModel", "foundHides", "[J", true)
  | 30 => ("PaidMistakesModel", "bestBrings", "[J", true)
  | 31 => ("PaidMistakesModel", "bestHides", "[J", true)
  | 32 => ("PaidMistakesModel", "bestLook", "[I", true)
  | 33 => ("PaidMistakesModel", "leftAt", "[I", true)
  | 34 => ("PaidMistakesModel", "images", "[I", true)
  | _ => ("PaidMistakesModel", "isMade", "[Z", true)
def tyX9 : Nat → FieldType := fun k => match k with
  | 0 => .array .byte
  | 1 => .int
  | 2 => .int
  | 3 => .array .int
  | 4 => .array .int
  | 5 => .array .int
  | 6 => .array .int
  | 7 => .int
  | 8 => .int
  | 9 => .int
  | 10 => .array .int
  | 11 => .array .int
  | 12 => .int
  | 13 => .int
  | 14 => .int
  | 15 => .int
  | 16 => .int
  | 17 => .int
  | 18 => .int
  | 19 => .array .int
  | 20 => .int
  | 21 => .array .long
  | 22 => .int
  | 23 => .array .long
  | 24 => .array .int
  | 25 => .array .int
  | 26 => .array .int
  | 27 => .array .boolean
  | 28 => .array .long
  | 29 => .array .long
  | 30 => .array .long
  | 31 => .array .long
  | 32 => .array .int
  | 33 => .array .int
  | 34 => .array .int
  | _ => .array .boolean
theorem nmX9 : ∀ a, a < 36 → ∀ b, b < 36 → a ≠ b → (TX9 a).2.1 ≠ (TX9 b).2.1 := by decide +kernel
theorem tyX9_ok : ∀ k, k < 36 → parseFieldDescriptor (TX9 k).2.2.1 = some (tyX9 k) := by decide +kernel
abbrev cX9_init : ByteArray := prog_11_method_1_code
def yX9_init : MethodName := ⟨RX9, "<init>", "()V"⟩
abbrev cX9_in : ByteArray := prog_11_method_2_code
def yX9_in : MethodName := ⟨RX9, "in", "(JJJ)Z"⟩
abbrev cX9_isOf : ByteArray := prog_11_method_3_code
def yX9_isOf : MethodName := ⟨RX9, "isOf", "(II)Z"⟩
abbrev cX9_bits : ByteArray := prog_11_method_4_code
def yX9_bits : MethodName := ⟨RX9, "bits", "(I)I"⟩
abbrev cX9_divisor : ByteArray := prog_11_method_5_code
def yX9_divisor : MethodName := ⟨RX9, "divisor", "(JJ)J"⟩
abbrev cX9_four : ByteArray := prog_11_method_6_code
def yX9_four : MethodName := ⟨RX9, "four", "(I)V"⟩
abbrev cX9_feed : ByteArray := prog_11_method_7_code
def yX9_feed : MethodName := ⟨RX9, "feed", "(IIIII)I"⟩
abbrev cX9_end : ByteArray := prog_11_method_8_code
def yX9_end : MethodName := ⟨RX9, "end", "(I)I"⟩
abbrev cX9_fails : ByteArray := prog_11_method_9_code
def yX9_fails : MethodName := ⟨RX9, "fails", "(II)Z"⟩
abbrev cX9_see : ByteArray := prog_11_method_10_code
def yX9_see : MethodName := ⟨RX9, "see", "()I"⟩
abbrev cX9_isDigit : ByteArray := prog_11_method_11_code
def yX9_isDigit : MethodName := ⟨RX9, "isDigit", "(I)Z"⟩
abbrev cX9_isLetter : ByteArray := prog_11_method_12_code
def yX9_isLetter : MethodName := ⟨RX9, "isLetter", "(I)Z"⟩
abbrev cX9_isWord : ByteArray := prog_11_method_13_code
def yX9_isWord : MethodName := ⟨RX9, "isWord", "(J)Z"⟩
abbrev cX9_passWord : ByteArray := prog_11_method_14_code
def yX9_passWord : MethodName := ⟨RX9, "passWord", "()V"⟩
abbrev cX9_takesWord : ByteArray := prog_11_method_15_code
def yX9_takesWord : MethodName := ⟨RX9, "takesWord", "(J)Z"⟩
abbrev cX9_numberHere : ByteArray := prog_11_method_16_code
def yX9_numberHere : MethodName := ⟨RX9, "numberHere", "(II)Z"⟩
abbrev cX9_wordHere : ByteArray := prog_11_method_17_code
def yX9_wordHere : MethodName := ⟨RX9, "wordHere", "()I"⟩
abbrev cX9_puts : ByteArray := prog_11_method_18_code
def yX9_puts : MethodName := ⟨RX9, "puts", "(II)V"⟩
abbrev cX9_makes : ByteArray := prog_11_method_19_code
def yX9_makes : MethodName := ⟨RX9, "makes", "(I)Z"⟩
abbrev cX9_opens : ByteArray := prog_11_method_20_code
def yX9_opens : MethodName := ⟨RX9, "opens", "(I)Z"⟩
abbrev cX9_strength : ByteArray := prog_11_method_21_code
def yX9_strength : MethodName := ⟨RX9, "strength", "(I)I"⟩
abbrev cX9_settles : ByteArray := prog_11_method_22_code
def yX9_settles : MethodName := ⟨RX9, "settles", "(I)V"⟩
abbrev cX9_value : ByteArray := prog_11_method_23_code
def yX9_value : MethodName := ⟨RX9, "value", "()Z"⟩
abbrev cX9_term : ByteArray := prog_11_method_24_code
def yX9_term : MethodName := ⟨RX9, "term", "()Z"⟩
abbrev cX9_sum : ByteArray := prog_11_method_25_code
def yX9_sum : MethodName := ⟨RX9, "sum", "()Z"⟩
abbrev cX9_compare : ByteArray := prog_11_method_26_code
def yX9_compare : MethodName := ⟨RX9, "compare", "()Z"⟩
abbrev cX9_fact : ByteArray := prog_11_method_27_code
def yX9_fact : MethodName := ⟨RX9, "fact", "()Z"⟩
abbrev cX9_isInside : ByteArray := prog_11_method_28_code
def yX9_isInside : MethodName := ⟨RX9, "isInside", "()Z"⟩
abbrev cX9_closes : ByteArray := prog_11_method_29_code
def yX9_closes : MethodName := ⟨RX9, "closes", "()V"⟩
abbrev cX9_tested : ByteArray := prog_11_method_30_code
def yX9_tested : MethodName := ⟨RX9, "tested", "()Z"⟩
abbrev cX9_isDoingHere : ByteArray := prog_11_method_31_code
def yX9_isDoingHere : MethodName := ⟨RX9, "isDoingHere", "(I)Z"⟩
abbrev cX9_isTimeHere : ByteArray := prog_11_method_32_code
def yX9_isTimeHere : MethodName := ⟨RX9, "isTimeHere", "(I)Z"⟩
abbrev cX9_isKindHere : ByteArray := prog_11_method_33_code
def yX9_isKindHere : MethodName := ⟨RX9, "isKindHere", "(I)Z"⟩
abbrev cX9_isFaultHere : ByteArray := prog_11_method_34_code
def yX9_isFaultHere : MethodName := ⟨RX9, "isFaultHere", "(I)Z"⟩
abbrev cX9_clauseHere : ByteArray := prog_11_method_35_code
def yX9_clauseHere : MethodName := ⟨RX9, "clauseHere", "()Z"⟩
abbrev cX9_readsAll : ByteArray := prog_11_method_36_code
def yX9_readsAll : MethodName := ⟨RX9, "readsAll", "()Z"⟩
abbrev cX9_rule : ByteArray := prog_11_method_37_code
def yX9_rule : MethodName := ⟨RX9, "rule", "()I"⟩
abbrev cX9_work : ByteArray := prog_11_method_38_code
def yX9_work : MethodName := ⟨RX9, "work", "()I"⟩
abbrev cX9_isRule : ByteArray := prog_11_method_39_code
def yX9_isRule : MethodName := ⟨RX9, "isRule", "(I)Z"⟩
abbrev cX9_push : ByteArray := prog_11_method_40_code
def yX9_push : MethodName := ⟨RX9, "push", "(J)V"⟩
abbrev cX9_pop : ByteArray := prog_11_method_41_code
def yX9_pop : MethodName := ⟨RX9, "pop", "()J"⟩
abbrev cX9_one : ByteArray := prog_11_method_42_code
def yX9_one : MethodName := ⟨RX9, "one", "(IJJ)J"⟩
abbrev cX9_reckons : ByteArray := prog_11_method_43_code
def yX9_reckons : MethodName := ⟨RX9, "reckons", "(III)J"⟩
abbrev cX9_isWork : ByteArray := prog_11_method_44_code
def yX9_isWork : MethodName := ⟨RX9, "isWork", "()Z"⟩
abbrev cX9_isFault : ByteArray := prog_11_method_45_code
def yX9_isFault : MethodName := ⟨RX9, "isFault", "(I)Z"⟩
abbrev cX9_faultOf : ByteArray := prog_11_method_46_code
def yX9_faultOf : MethodName := ⟨RX9, "faultOf", "(II)I"⟩
abbrev cX9_kindOf : ByteArray := prog_11_method_47_code
def yX9_kindOf : MethodName := ⟨RX9, "kindOf", "(II)I"⟩
abbrev cX9_isOpen : ByteArray := prog_11_method_48_code
def yX9_isOpen : MethodName := ⟨RX9, "isOpen", "(I)Z"⟩
abbrev cX9_canLook : ByteArray := prog_11_method_49_code
def yX9_canLook : MethodName := ⟨RX9, "canLook", "(I)Z"⟩
abbrev cX9_thatAre : ByteArray := prog_11_method_50_code
def yX9_thatAre : MethodName := ⟨RX9, "thatAre", "(I)I"⟩
abbrev cX9_hidden : ByteArray := prog_11_method_51_code
def yX9_hidden : MethodName := ⟨RX9, "hidden", "()I"⟩
abbrev cX9_kind : ByteArray := prog_11_method_52_code
def yX9_kind : MethodName := ⟨RX9, "kind", "(II)I"⟩
abbrev cX9_fault : ByteArray := prog_11_method_53_code
def yX9_fault : MethodName := ⟨RX9, "fault", "(II)I"⟩
abbrev cX9_draw : ByteArray := prog_11_method_54_code
def yX9_draw : MethodName := ⟨RX9, "draw", "(I)I"⟩
abbrev cX9_looks : ByteArray := prog_11_method_55_code
def yX9_looks : MethodName := ⟨RX9, "looks", "(I)Z"⟩
abbrev cX9_look : ByteArray := prog_11_method_56_code
def yX9_look : MethodName := ⟨RX9, "look", "(I)I"⟩
abbrev cX9_fine : ByteArray := prog_11_method_57_code
def yX9_fine : MethodName := ⟨RX9, "fine", "(I)I"⟩
abbrev cX9_mend : ByteArray := prog_11_method_58_code
def yX9_mend : MethodName := ⟨RX9, "mend", "(I)I"⟩
abbrev cX9_begins : ByteArray := prog_11_method_59_code
def yX9_begins : MethodName := ⟨RX9, "begins", "()V"⟩
abbrev cX9_dawn : ByteArray := prog_11_method_60_code
def yX9_dawn : MethodName := ⟨RX9, "dawn", "()I"⟩
abbrev cX9_words : ByteArray := prog_11_method_61_code
def yX9_words : MethodName := ⟨RX9, "words", "(I)V"⟩
abbrev cX9_clauseFor : ByteArray := prog_11_method_62_code
def yX9_clauseFor : MethodName := ⟨RX9, "clauseFor", "(II)I"⟩
abbrev cX9_stops : ByteArray := prog_11_method_63_code
def yX9_stops : MethodName := ⟨RX9, "stops", "(II)Z"⟩
abbrev cX9_nextFor : ByteArray := prog_11_method_64_code
def yX9_nextFor : MethodName := ⟨RX9, "nextFor", "(I)I"⟩
abbrev cX9_passes : ByteArray := prog_11_method_65_code
def yX9_passes : MethodName := ⟨RX9, "passes", "(I)I"⟩
abbrev cX9_day : ByteArray := prog_11_method_66_code
def yX9_day : MethodName := ⟨RX9, "day", "(I)I"⟩
abbrev cX9_keeps : ByteArray := prog_11_method_67_code
def yX9_keeps : MethodName := ⟨RX9, "keeps", "()V"⟩
abbrev cX9_putsBack : ByteArray := prog_11_method_68_code
def yX9_putsBack : MethodName := ⟨RX9, "putsBack", "()V"⟩
abbrev cX9_would : ByteArray := prog_11_method_69_code
def yX9_would : MethodName := ⟨RX9, "would", "(II)I"⟩
abbrev cX9_row : ByteArray := prog_11_method_70_code
def yX9_row : MethodName := ⟨RX9, "row", "(I)I"⟩
abbrev cX9_comesOut : ByteArray := prog_11_method_71_code
def yX9_comesOut : MethodName := ⟨RX9, "comesOut", "(I)J"⟩
abbrev cX9_meanOf : ByteArray := prog_11_method_72_code
def yX9_meanOf : MethodName := ⟨RX9, "meanOf", "(I)J"⟩
abbrev cX9_hundreds : ByteArray := prog_11_method_73_code
def yX9_hundreds : MethodName := ⟨RX9, "hundreds", "(I)J"⟩
abbrev cX9_partOf : ByteArray := prog_11_method_74_code
def yX9_partOf : MethodName := ⟨RX9, "partOf", "(JJI)J"⟩
abbrev cX9_worth : ByteArray := prog_11_method_75_code
def yX9_worth : MethodName := ⟨RX9, "worth", "(I)J"⟩
abbrev cX9_seen : ByteArray := prog_11_method_76_code
def yX9_seen : MethodName := ⟨RX9, "seen", "(II)J"⟩
abbrev cX9_comesTo : ByteArray := prog_11_method_77_code
def yX9_comesTo : MethodName := ⟨RX9, "comesTo", "(II)V"⟩
abbrev cX9_triesNext : ByteArray := prog_11_method_78_code
def yX9_triesNext : MethodName := ⟨RX9, "triesNext", "(I)Z"⟩
abbrev cX9_triesAs : ByteArray := prog_11_method_79_code
def yX9_triesAs : MethodName := ⟨RX9, "triesAs", "(IZ)V"⟩
abbrev cX9_takes : ByteArray := prog_11_method_80_code
def yX9_takes : MethodName := ⟨RX9, "takes", "(IIJJ)V"⟩
abbrev cX9_goesThrough : ByteArray := prog_11_method_81_code
def yX9_goesThrough : MethodName := ⟨RX9, "goesThrough", "(I)V"⟩
abbrev cX9_best : ByteArray := prog_11_method_82_code
def yX9_best : MethodName := ⟨RX9, "best", "(II)J"⟩
abbrev cX9_master : ByteArray := prog_11_method_83_code
def yX9_master : MethodName := ⟨RX9, "master", "(II)J"⟩
abbrev cX9_game : ByteArray := prog_11_method_84_code
def yX9_game : MethodName := ⟨RX9, "game", "(II)I"⟩
abbrev cX9_gameOf : ByteArray := prog_11_method_85_code
def yX9_gameOf : MethodName := ⟨RX9, "gameOf", "(I)I"⟩
abbrev cX9_rests : ByteArray := prog_11_method_86_code
def yX9_rests : MethodName := ⟨RX9, "rests", "()I"⟩
abbrev cX9_mixed : ByteArray := prog_11_method_87_code
def yX9_mixed : MethodName := ⟨RX9, "mixed", "(II)I"⟩
abbrev cX9_checks : ByteArray := prog_11_method_88_code
def yX9_checks : MethodName := ⟨RX9, "checks", "(II)I"⟩
abbrev cX9_couldBe : ByteArray := prog_11_method_89_code
def yX9_couldBe : MethodName := ⟨RX9, "couldBe", "(II)Z"⟩
abbrev cX9_fits : ByteArray := prog_11_method_90_code
def yX9_fits : MethodName := ⟨RX9, "fits", "(II)I"⟩
abbrev cX9_seed : ByteArray := prog_11_method_91_code
def yX9_seed : MethodName := ⟨RX9, "seed", "(I)I"⟩
abbrev cX9_weeks : ByteArray := prog_11_method_92_code
def yX9_weeks : MethodName := ⟨RX9, "weeks", "(III)I"⟩
abbrev cX9_coins : ByteArray := prog_11_method_93_code
def yX9_coins : MethodName := ⟨RX9, "coins", "(I)I"⟩
abbrev cX9_count : ByteArray := prog_11_method_94_code
def yX9_count : MethodName := ⟨RX9, "count", "(I)I"⟩
abbrev cX9_image : ByteArray := prog_11_method_95_code
def yX9_image : MethodName := ⟨RX9, "image", "(I)I"⟩
abbrev cX9_back : ByteArray := prog_11_method_96_code
def yX9_back : MethodName := ⟨RX9, "back", "(I)I"⟩
def RJ6 : String := "java/lang/Integer"
abbrev cJ6_bitCount_0f7a4 : ByteArray := prog_13_method_49_code
def yJ6_bitCount_0f7a4 : MethodName := ⟨RJ6, "bitCount", "(I)I"⟩
def RJ9 : String := "java/lang/Math"
abbrev cJ9_abs_0f7a4 : ByteArray := prog_14_method_59_code
def yJ9_abs_0f7a4 : MethodName := ⟨RJ9, "abs", "(I)I"⟩
abbrev cJ9_abs_067f4 : ByteArray := prog_14_method_61_code
def yJ9_abs_067f4 : MethodName := ⟨RJ9, "abs", "(J)J"⟩
abbrev cJ9_max_7cf53 : ByteArray := prog_14_method_65_code
def yJ9_max_7cf53 : MethodName := ⟨RJ9, "max", "(II)I"⟩
abbrev cJ9_max_f86c9 : ByteArray := prog_14_method_66_code
def yJ9_max_f86c9 : MethodName := ⟨RJ9, "max", "(JJ)J"⟩
abbrev cJ9_min_7cf53 : ByteArray := prog_14_method_69_code
def yJ9_min_7cf53 : MethodName := ⟨RJ9, "min", "(II)I"⟩
def RJ0 : String := "java/lang/String"
abbrev cJ0_length_8abf5 : ByteArray := prog_15_method_54_code
def yJ0_length_8abf5 : MethodName := ⟨RJ0, "length", "()I"⟩
abbrev cJ0_charAt_5068e : ByteArray := prog_15_method_56_code
def yJ0_charAt_5068e : MethodName := ⟨RJ0, "charAt", "(I)C"⟩
abbrev cJ0_coder_7d493 : ByteArray := prog_15_method_152_code
def yJ0_coder_7d493 : MethodName := ⟨RJ0, "coder", "()B"⟩
abbrev cJ0_isLatin1_aae02 : ByteArray := prog_15_method_154_code
def yJ0_isLatin1_aae02 : MethodName := ⟨RJ0, "isLatin1", "()Z"⟩
abbrev cJ0_checkIndex_df160 : ByteArray := prog_15_method_155_code
def yJ0_checkIndex_df160 : MethodName := ⟨RJ0, "checkIndex", "(II)V"⟩
def RJ1 : String := "java/lang/StringLatin1"
abbrev cJ1_charAt_3b067 : ByteArray := prog_16_method_2_code
def yJ1_charAt_3b067 : MethodName := ⟨RJ1, "charAt", "([BI)C"⟩
def RJ2 : String := "java/lang/StringUTF16"
abbrev cJ2_getChar_3b067 : ByteArray := prog_17_method_5_code
def yJ2_getChar_3b067 : MethodName := ⟨RJ2, "getChar", "([BI)C"⟩
abbrev cJ2_length_9d52b : ByteArray := prog_17_method_6_code
def yJ2_length_9d52b : MethodName := ⟨RJ2, "length", "([B)I"⟩
abbrev cJ2_charAt_3b067 : ByteArray := prog_17_method_83_code
def yJ2_charAt_3b067 : MethodName := ⟨RJ2, "charAt", "([BI)C"⟩
abbrev cJ2_checkIndex_2214a : ByteArray := prog_17_method_91_code
def yJ2_checkIndex_2214a : MethodName := ⟨RJ2, "checkIndex", "(I[B)V"⟩
def RJ10 : String := "java/lang/System"
def RJ7 : String := "java/util/Arrays"
abbrev cJ7_fill_53178 : ByteArray := prog_19_method_103_code
def yJ7_fill_53178 : MethodName := ⟨RJ7, "fill", "([II)V"⟩
abbrev cJ7_copyOf_59c91 : ByteArray := prog_19_method_123_code
def yJ7_copyOf_59c91 : MethodName := ⟨RJ7, "copyOf", "([II)[I"⟩
def RJ3 : String := "jdk/internal/util/Preconditions"
abbrev cJ3_checkIndex_8e157 : ByteArray := prog_20_method_11_code
def yJ3_checkIndex_8e157 : MethodName := ⟨RJ3, "checkIndex", "(IILjava/util/function/BiFunction;)I"⟩
def RL : String := "PaidMistakesLaw"
abbrev cL_law : ByteArray := code
def yL_law : MethodName := ⟨RL, "law", "([I)Z"⟩
end
section
/-! The words of the tables that hold on (good words); contracts over them; rows of calls and returns. -/
def TBg : List Cond := lw_tbl.filter goodWord
theorem tb_of {w : Cond} (h : w ∈ tables_1) (g : goodWord w = true) : w ∈ TBg := List.mem_filter.mpr ⟨List.mem_append_right _ h, g⟩
theorem tb_sel {q : MethodName × Nat} (h : q ∈ lw_privs) : Cond.selects q.1.cls q.1 q.1 ∈ TBg := List.mem_filter.mpr ⟨List.mem_append_left _ (List.mem_map.mpr ⟨q, h, rfl⟩), rfl⟩
abbrev Mt : Type := MethodName × ByteArray × Nat × Option FieldType
def cw (M : Mt) : Cond := .code M.1 M.2.1 M.2.2.1 M.2.2.2
def WS (M : Mt) : List Cond := cw M :: TBg
theorem gWS {M : Mt} (h : cw M ∈ TBg) : GoodIn TBg (WS M) := by
  intro w hw
  have hm : w ∈ TBg := by
    rcases List.mem_cons.mp hw with h2 | h2
    · rw [h2]; exact h
    · exact h2
  exact ⟨hm, good_of_word (List.mem_filter.mp hm).2⟩
abbrev classes : List vw_C := [(RX0, TX0, 6), (RX1, TX1, 4), (RX2, TX2, 1), (RX3, TX3, 5), (RX4, TX4, 8), (RX5, TX5, 8), (RX6, TX6, 9), (RX7, TX7, 18), (RX8, TX8, 11), (RX9, TX9, 36)]
abbrev TY (a : Nat → ClassId) : List (ClassId × FieldType) := [(a 0, .int), (a 1, .long), (a 2, .byte), (a 3, .boolean), (a 4, .object RX3), (a 5, .object RX5)]
def NWs : List Cond := [.methodLinkNest RX6 42 yX8_at RX8, .methodLinkNest RX7 88 yX8_put RX8, .methodLinkNest RX7 78 yX8_at RX8, .methodLinkNest RX4 75 yX8_put RX8, .methodLinkNest RX0 48 yX8_at RX8, .methodLinkNest RX0 52 yX8_put RX8, .methodLinkNest RX0 66 yX8_bit RX8, .methodLinkNest RX7 125 yX8_has RX8, .methodLinkNest RX2 47 yX8_at RX8, .methodLinkNest RX1 55 yX8_at RX8, .methodLinkNest RX1 71 yX8_hundreds RX8, .methodLinkNest RX1 75 yX8_bit RX8, .methodLinkNest RX1 112 yX8_has RX8]
def isNM : Cond → Bool
  | .methodLinkNest _ _ _ _ => true
  | _ => false
theorem NWs_nm : NWs.all isNM = true := by decide +kernel
theorem NM_shape {w : Cond} (h : isNM w = true) : ∃ a i x b, w = .methodLinkNest a i x b := by
  cases w <;> first | exact ⟨_, _, _, _, rfl⟩ | (exfalso; revert h; simp [isNM])
theorem NW_warm {s U : State} (hW : s.WarmedH U.vm) (h : ∀ w ∈ NWs, va_Nw w s) : ∀ w ∈ NWs, va_Nw w U := by
  intro w hw
  obtain ⟨a, i, x, b, e⟩ := NM_shape (List.all_eq_true.mp NWs_nm w hw)
  have h1 := h w hw
  subst e
  exact va_Nw.warmM hW h1
theorem NW_same {s U : State} (hv : s.vm = U.vm) (h : ∀ w ∈ NWs, va_Nw w s) : ∀ w ∈ NWs, va_Nw w U := by
  intro w hw
  obtain ⟨a, i, x, b, e⟩ := NM_shape (List.all_eq_true.mp NWs_nm w hw)
  have h1 := h w hw
  subst e
  exact va_Nw.same rfl hv h1
def KK (D : va_G) (a : Nat → ClassId) (U : State) : Prop := va_K D classes (TY a) U ∧ (∀ w ∈ NWs, va_Nw w U) ∧ va_AO RX3 U ∧ va_AO RX5 U
theorem KK.warm {D : va_G} {a : Nat → ClassId} {s U : State} (hW : s.WarmedH U.vm) (h : KK D a s) : KK D a U := ⟨va_K.moved hW.alike h.1, NW_warm hW h.2.1, va_AO.moved hW.alike h.2.2.1, va_AO.moved hW.alike h.2.2.2⟩
theorem KK.calling {D : va_G} {a : Nat → ClassId} {U : State} {g : JFrame} {mk : MethodId} {av : Array Value} (h : KK D a U) : KK D a (U.calling g mk av) := ⟨va_K.moved (u := U) (U := U.calling g mk av) (Vm.Alike.refl U.vm) h.1, NW_same (s := U) (U := U.calling g mk av) rfl h.2.1, va_AO.moved (u := U) (U := U.calling g mk av) (Vm.Alike.refl U.vm) h.2.2.1, va_AO.moved (u := U) (U := U.calling g mk av) (Vm.Alike.refl U.vm) h.2.2.2⟩
/-! contracts: R reads only, M may write -/
abbrev rmM (f c z lo : Nat) : Room := { frames := f, cells := c, slots := z, locals := lo }
def PR (D : va_G) (a : Nat → ClassId) (As : List Value) (wc : va_W) : Array Value → State → Prop := va_Pc As (fun U => va_P D classes wc U.heap ∧ KK D a U)
def PM (D : va_G) (a : Nat → ClassId) (As : List Value) (wc : va_W) (sz : Nat) : Array Value → State → Prop := va_Pc As (fun U => U.heap.size = sz ∧ va_P D classes wc U.heap ∧ KK D a U ∧ va_D (fun _ => True) wc)
def Bw {S : Type} (D : va_G) (A : Nat → Prop) (g : S → va_W) (u : S) (t : State) : Prop := va_P D classes (g u) t.heap ∧ va_D A (g u)
def CRi (l : Launch) (M : Mt) (f lo : Nat) (D : va_G) (a : Nat → ClassId) (As : List Value) (wc : va_W) (post : Int32 → Prop) : Prop := Met l M.1 (WS M) (rmM f 0 0 lo) (PR D a As wc) (vp_Si post) 0 0 (fun _ => False)
def CRl (l : Launch) (M : Mt) (f lo : Nat) (D : va_G) (a : Nat → ClassId) (As : List Value) (wc : va_W) (post : Int64 → Prop) : Prop := Met l M.1 (WS M) (rmM f 0 0 lo) (PR D a As wc) (vp_Sl post) 0 0 (fun _ => False)
def CRq (l : Launch) (M : Mt) (f lo : Nat) (D : va_G) (a : Nat → ClassId) (As : List Value) (wc : va_W) (post : Option Nat → Prop) : Prop := Met l M.1 (WS M) (rmM f 0 0 lo) (PR D a As wc) (va_Sq post) 0 0 (fun _ => False)
def CMi {S : Type} (l : Launch) (M : Mt) (f lo mc ms : Nat) (D : va_G) (a : Nat → ClassId) (As : List Value) (wc : va_W) (sz : Nat) (post : Int32 → S → Prop) (g : S → va_W) : Prop := Met l M.1 (WS M) (rmM f mc ms lo) (PM D a As wc sz) (va_Qi post (Bw D (va_A wc sz) g) (va_A wc sz)) mc ms (va_A wc sz)
def CMl {S : Type} (l : Launch) (M : Mt) (f lo mc ms : Nat) (D : va_G) (a : Nat → ClassId) (As : List Value) (wc : va_W) (sz : Nat) (post : Int64 → S → Prop) (g : S → va_W) : Prop := Met l M.1 (WS M) (rmM f mc ms lo) (PM D a As wc sz) (va_Ql post (Bw D (va_A wc sz) g) (va_A wc sz)) mc ms (va_A wc sz)
def CMv {S : Type} (l : Launch) (M : Mt) (f lo mc ms : Nat) (D : va_G) (a : Nat → ClassId) (As : List Value) (wc : va_W) (sz : Nat) (post : S → Prop) (g : S → va_W) : Prop := Met l M.1 (WS M) (rmM f mc ms lo) (PM D a As wc sz) (va_Qv post (Bw D (va_A wc sz) g) (va_A wc sz)) mc ms (va_A wc sz)
def CMq {S : Type} (l : Launch) (M : Mt) (f lo mc ms : Nat) (D : va_G) (a : Nat → ClassId) (As : List Value) (wc : va_W) (sz : Nat) (post : Option Nat → S → Prop) (g : S → va_W) : Prop := Met l M.1 (WS M) (rmM f mc ms lo) (PM D a As wc sz) (va_Qq post (Bw D (va_A wc sz) g) (va_A wc sz)) mc ms (va_A wc sz)
/-- what holds all along a method -/
def Cx (p : Program) (s : State) (m : MethodId) (args : Array Value) (meth : Method) (c : Code) (M : Mt) : Prop :=
  p.tables.exec = Jvm.exec ∧ c.code = M.2.1 ∧ c.maxLocals = M.2.2.1 ∧ s.vm.findClass M.1.cls = some m.cls ∧ (∀ w ∈ TBg, w.before args s = true) ∧ meth.sig.returnType = M.2.2.2 ∧ meth.locks = false ∧ (M.1.name = "<init>" → meth.name = "<init>")
theorem entW {l : Launch} {M : Mt} {rm : Room} {As : List Value} {B : State → Prop} {Qc : Array Value → State → Outcome → State → Prop} {mc ms : Nat} {free : Addr → Prop} (hp : plainName M.1.cls = true) (hlen : (lg_sl As).length ≤ M.2.2.1)
    (body : ∀ (p : Program) (e : Env) (s : State) (m : MethodId) (below : List Frame) (meth : Method) (c : Code), Cx p s m As.toArray meth c M → B s → ∀ ls : Array Slot, lv_has ls M.2.2.1 (lv_args 0 As) → W p l e rm s m As.toArray below meth c s.heap [] 0 0 (MQ below Qc As.toArray s mc ms free) (F0 m 0 ls [])) : Met l M.1 (WS M) rm (va_Pc As B) Qc mc ms free := by
  refine Met.ofW (cc := M.2.1) (maxL := M.2.2.1) (ret := M.2.2.2) hp rfl ?_
  intro p e s m args below meth c s₁ B' hml hv
  obtain ⟨rfl, hB⟩ := hv
  have hts := atoms_spec (ws := WS M) B'.pre
  have hl := lv_entry As (n := M.2.2.1) hlen
  rw [lg_entry_eq]
  exact body p e s m below meth c ⟨B'.exec, B'.bytes, hml, findClass_of_methodNamed B'.named, fun w h => hts w (List.mem_cons_of_mem _ h), B'.returns, B'.notSynchronized, fun h => ((name_of_methodNamed B'.named B'.method).1).trans h⟩ hB _ hl
theorem entR {l : Launch} {M : Mt} {rm : Room} {D : va_G} {a : Nat → ClassId} {As : List Value} {wc : va_W} {Qc : Array Value → State → Outcome → State → Prop} {mc ms : Nat} {free : Addr → Prop} (hp : plainName M.1.cls = true) (hlen : (lg_sl As).length ≤ M.2.2.1)
    (body : ∀ (p : Program) (e : Env) (s : State) (m : MethodId) (below : List Frame) (meth : Method) (c : Code), Cx p s m As.toArray meth c M → KK D a s → va_P D classes wc s.heap → ∀ ls : Array Slot, lv_has ls M.2.2.1 (lv_args 0 As) → W p l e rm s m As.toArray below meth c s.heap [] 0 0 (MQ below Qc As.toArray s mc ms free) (F0 m 0 ls [])) : Met l M.1 (WS M) rm (PR D a As wc) Qc mc ms free :=
  entW hp hlen (fun p e s m below meth c C h ls hl => body p e s m below meth c C h.2 h.1 ls hl)
theorem entM {l : Launch} {M : Mt} {rm : Room} {D : va_G} {a : Nat → ClassId} {As : List Value} {wc : va_W} {sz : Nat} {Qf : (Nat → Prop) → Array Value → State → Outcome → State → Prop} {mc ms : Nat} (hp : plainName M.1.cls = true) (hlen : (lg_sl As).length ≤ M.2.2.1)
    (body : ∀ (p : Program) (e : Env) (s : State) (m : MethodId) (below : List Frame) (meth : Method) (c : Code), Cx p s m As.toArray meth c M → KK D a s → ∀ A : Nat → Prop, (∀ q, s.heap.size ≤ q → A q) → va_P D classes wc s.heap → va_D A wc → ∀ ls : Array Slot, lv_has ls M.2.2.1 (lv_args 0 As) → W p l e rm s m As.toArray below meth c s.heap [] 0 0 (MQ below (Qf A) As.toArray s mc ms A) (F0 m 0 ls [])) : Met l M.1 (WS M) rm (PM D a As wc sz) (Qf (va_A wc sz)) mc ms (va_A wc sz) := by
  refine entW hp hlen (fun p e s m below meth c C h ls hl => ?_)
  obtain ⟨hsz, hP, hK, hD⟩ := h
  subst hsz
  exact body p e s m below meth c C hK (va_A wc s.heap.size) (fun q h => Or.inr h) hP hD.self ls hl
theorem entMi {S : Type} {l : Launch} {M : Mt} {f lo mc ms : Nat} {D : va_G} {a : Nat → ClassId} {As : List Value} {wc : va_W} {sz : Nat} {post : Int32 → S → Prop} {g : S → va_W} (hp : plainName M.1.cls = true) (hlen : (lg_sl As).length ≤ M.2.2.1)
    (body : ∀ (p : Program) (e : Env) (s : State) (m : MethodId) (below : List Frame) (meth : Method) (c : Code), Cx p s m As.toArray meth c M → KK D a s → ∀ A : Nat → Prop, (∀ q, s.heap.size ≤ q → A q) → va_P D classes wc s.heap → va_D A wc → ∀ ls : Array Slot, lv_has ls M.2.2.1 (lv_args 0 As) → W p l e (rmM f mc ms lo) s m As.toArray below meth c s.heap [] 0 0 (MQ below (va_Qi post (Bw D A g) A) As.toArray s mc ms A) (F0 m 0 ls [])) : CMi l M f lo mc ms D a As wc sz post g :=
  entM (Qf := fun A => va_Qi post (Bw D A g) A) hp hlen body
theorem entMl {S : Type} {l : Launch} {M : Mt} {f lo mc ms : Nat} {D : va_G} {a : Nat → ClassId} {As : List Value} {wc : va_W} {sz : Nat} {post : Int64 → S → Prop} {g : S → va_W} (hp : plainName M.1.cls = true) (hlen : (lg_sl As).length ≤ M.2.2.1)
    (body : ∀ (p : Program) (e : Env) (s : State) (m : MethodId) (below : List Frame) (meth : Method) (c : Code), Cx p s m As.toArray meth c M → KK D a s → ∀ A : Nat → Prop, (∀ q, s.heap.size ≤ q → A q) → va_P D classes wc s.heap → va_D A wc → ∀ ls : Array Slot, lv_has ls M.2.2.1 (lv_args 0 As) → W p l e (rmM f mc ms lo) s m As.toArray below meth c s.heap [] 0 0 (MQ below (va_Ql post (Bw D A g) A) As.toArray s mc ms A) (F0 m 0 ls [])) : CMl l M f lo mc ms D a As wc sz post g :=
  entM (Qf := fun A => va_Ql post (Bw D A g) A) hp hlen body
theorem entMv {S : Type} {l : Launch} {M : Mt} {f lo mc ms : Nat} {D : va_G} {a : Nat → ClassId} {As : List Value} {wc : va_W} {sz : Nat} {post : S → Prop} {g : S → va_W} (hp : plainName M.1.cls = true) (hlen : (lg_sl As).length ≤ M.2.2.1)
    (body : ∀ (p : Program) (e : Env) (s : State) (m : MethodId) (below : List Frame) (meth : Method) (c : Code), Cx p s m As.toArray meth c M → KK D a s → ∀ A : Nat → Prop, (∀ q, s.heap.size ≤ q → A q) → va_P D classes wc s.heap → va_D A wc → ∀ ls : Array Slot, lv_has ls M.2.2.1 (lv_args 0 As) → W p l e (rmM f mc ms lo) s m As.toArray below meth c s.heap [] 0 0 (MQ below (va_Qv post (Bw D A g) A) As.toArray s mc ms A) (F0 m 0 ls [])) : CMv l M f lo mc ms D a As wc sz post g :=
  entM (Qf := fun A => va_Qv post (Bw D A g) A) hp hlen body
/-- a method's number of arguments -/
def okN (M : Mt) (n : Nat) : Prop := M.1.cls ≠ "java/lang/invoke/MethodHandle" ∧ M.1.cls ≠ "java/lang/invoke/VarHandle" ∧ (parseMethodDescriptor M.1.desc).map (fun d => d.parameters.length) = some n
def LkS (own : String) (i : Nat) (M : Mt) : Prop := cw M ∈ TBg ∧ .initialized M.1.cls ∈ TBg ∧ .methodLink own i M.1 ∈ TBg ∧ .static M.1 ∈ TBg
def LkV (own : String) (i : Nat) (M : Mt) : Prop := cw M ∈ TBg ∧ .initialized M.1.cls ∈ TBg ∧ .methodLink own i M.1 ∈ TBg ∧ .instanceMethod M.1 ∈ TBg ∧ .selects M.1.cls M.1 M.1 ∈ TBg
def LkI (own : String) (i : Nat) (M : Mt) : Prop := cw M ∈ TBg ∧ .initialized M.1.cls ∈ TBg ∧ .methodLink own i M.1 ∈ TBg ∧ .instanceMethod M.1 ∈ TBg ∧ M.1.name = "<init>" ∧ M.2.2.2 = none
def LkN (own : String) (i : Nat) (M : Mt) : Prop := cw M ∈ TBg ∧ .initialized M.1.cls ∈ TBg ∧ .static M.1 ∈ TBg ∧ .methodLinkNest own i M.1 RX8 ∈ NWs
theorem P_of_map {D : va_G} {ws wc : va_W} {H : Heap} (h : va_P D classes ws H) (is : List Nat) (hs : is.map (fun i => ws[i]?) = wc.map some) : va_P D classes wc H := by
  intro k q hq
  have h1 : (is.map (fun i => ws[i]?))[k]? = some (some q) := by rw [hs, List.getElem?_map, hq]; rfl
  rw [List.getElem?_map] at h1
  cases hi : is[k]? with
  | none => rw [hi] at h1; cases h1
  | some i => rw [hi] at h1; exact h i q (Option.some.inj h1)
section LRUN
variable {p : Program} {l : Launch} {e : Env} {R : Room} {s : State} {m : MethodId} {args : Array Value} {below : List Frame} {meth : Method} {c : Code} {H : Heap} {locs : List Loc} {cells slots : Nat} {Q : State → Prop}
variable {M0 M : Mt} {rm : Room} {Pc : Array Value → State → Prop} {Qc : Array Value → State → Outcome → State → Prop} {mc ms i : Nat} {free : Addr → Prop} {As rest st0 : List Value} {ls : Array Slot} {pc b : Nat}
variable {D : va_G} {a : Nat → ClassId} {A : Nat → Prop} {ws wc wr : va_W}
theorem runS (C : Cx p s m args meth c M0) (hM : Met l M.1 (WS M) rm Pc Qc mc ms free) (L : LkS M0.1.cls i M) (hok : okN M As.length) (hR : rm.frames + 1 ≤ R.frames ∧ 8 + (M.2.2.1 + 11) + rm.locals ≤ R.locals) (hrm : rm.cells = mc ∧ rm.slots = ms) (hp : PreS s H Pc As) (hls : ls.size = M0.2.2.1) (hst : st0 = As.reverse ++ rest) (hW : (rest.map fun v => v.category).sum ≤ 8) (hdg : decode M0.2.1 pc = .ok (.invokestatic i, 3)) (hf : cells + mc ≤ R.cells ∧ slots + ms ≤ R.slots) : va_Run p l e R s m args below meth c H locs cells slots mc ms (F0 m pc ls st0) rest (Qc As.toArray) free := by
  obtain ⟨hx, hb, hml, hown, hts, -⟩ := C
  exact va_runS (Ts := TBg) (own := M0.1.cls) (nL := M0.2.2.1) ⟨hx, hb, hml, hown, hts⟩ hM ⟨callB_of As.length hts (gWS L.1) rfl hrm.1 hrm.2 (hts _ L.2.1) (hts _ L.2.2.1) hok hR, hts _ L.2.2.2⟩ hp rfl rfl hls hst (lv_room hW) hdg hf
theorem runV (C : Cx p s m args meth c M0) (hM : Met l M.1 (WS M) rm Pc Qc mc ms free) (L : LkV M0.1.cls i M) (hok : okN M As.length) (hR : rm.frames + 1 ≤ R.frames ∧ 8 + (M.2.2.1 + 11) + rm.locals ≤ R.locals) (hrm : rm.cells = mc ∧ rm.slots = ms) (hp : PreV s H M.1.cls b Pc As) (hls : ls.size = M0.2.2.1) (hst : st0 = As.reverse ++ .ref b :: rest) (hW : (rest.map fun v => v.category).sum ≤ 8) (hdg : decode M0.2.1 pc = .ok (.invokevirtual i, 3)) (hf : cells + mc ≤ R.cells ∧ slots + ms ≤ R.slots) : va_Run p l e R s m args below meth c H locs cells slots mc ms (F0 m pc ls st0) rest (Qc (Value.ref b :: As).toArray) free := by
  obtain ⟨hx, hb, hml, hown, hts, -⟩ := C
  exact va_runV (Ts := TBg) (own := M0.1.cls) (nL := M0.2.2.1) ⟨hx, hb, hml, hown, hts⟩ hM ⟨callB_of As.length hts (gWS L.1) rfl hrm.1 hrm.2 (hts _ L.2.1) (hts _ L.2.2.1) hok hR, hts _ L.2.2.2.1, hts _ L.2.2.2.2⟩ hp rfl rfl hls hst (lv_room hW) hdg hf
theorem runI (C : Cx p s m args meth c M0) (hM : Met l M.1 (WS M) rm Pc Qc mc ms free) (L : LkI M0.1.cls i M) (hok : okN M As.length) (hR : rm.frames + 1 ≤ R.frames ∧ 8 + (M.2.2.1 + 11) + rm.locals ≤ R.locals) (hrm : rm.cells = mc ∧ rm.slots = ms) (hp : PreS s H Pc (.ref b :: As)) (hls : ls.size = M0.2.2.1) (hst : st0 = As.reverse ++ .ref b :: rest) (hW : (rest.map fun v => v.category).sum ≤ 8) (hdg : decode M0.2.1 pc = .ok (.invokespecial i, 3)) (hf : cells + mc ≤ R.cells ∧ slots + ms ≤ R.slots) : va_Run p l e R s m args below meth c H locs cells slots mc ms (F0 m pc ls st0) rest (Qc (Value.ref b :: As).toArray) free := by
  obtain ⟨hx, hb, hml, hown, hts, -⟩ := C
  obtain ⟨y, cc, n, ret⟩ := M
  obtain ⟨h1, h2, h3, h4, h5, h6⟩ := L
  dsimp only at h6
  subst h6
  exact va_runI (Ts := TBg) (own := M0.1.cls) (nL := M0.2.2.1) ⟨hx, hb, hml, hown, hts⟩ hM ⟨callB_of As.length hts (gWS h1) rfl hrm.1 hrm.2 (hts _ h2) (hts _ h3) hok hR, h5, hts _ h4⟩ hp rfl rfl hls hst (lv_room hW) hdg hf
theorem runN (C : Cx p s m args meth c M0) (hK : KK D a s) (hM : Met l M.1 (WS M) rm Pc Qc mc ms free) (L : LkN M0.1.cls i M) (hok : okN M As.length) (hR : rm.frames + 1 ≤ R.frames ∧ 8 + (M.2.2.1 + 11) + rm.locals ≤ R.locals) (hrm : rm.cells = mc ∧ rm.slots = ms) (hp : PreS s H Pc As) (hls : ls.size = M0.2.2.1) (hst : st0 = As.reverse ++ rest) (hW : (rest.map fun v => v.category).sum ≤ 8) (hdg : decode M0.2.1 pc = .ok (.invokestatic i, 3)) (hf : cells + mc ≤ R.cells ∧ slots + ms ≤ R.slots) : va_Run p l e R s m args below meth c H locs cells slots mc ms (F0 m pc ls st0) rest (Qc As.toArray) free := by
  obtain ⟨hx, hb, hml, hown, hts, -⟩ := C
  exact va_runSN (Ts := TBg) (own := M0.1.cls) (nL := M0.2.2.1) ⟨hx, hb, hml, hown, hts⟩ hM ⟨va_cnB As.length hts (gWS L.1) rfl hrm.1 hrm.2 (hK.2.1 _ L.2.2.2) (hts _ L.2.1) hok hR, hts _ L.2.2.1, trivial⟩ hp rfl rfl hls hst (lv_room hW) hdg hf
theorem preR (hK : KK D a s) (hP : va_P D classes wc H) : PreS s H (PR D a As wc) As :=
  ⟨fun _ _ _ _ q => ⟨q.1, q.2.1, q.2.2.calling⟩, fun U hU hW => ⟨rfl, by rw [hU]; exact hP, hK.warm hW⟩⟩
theorem preM (hK : KK D a s) (hP : va_P D classes wc H) (hD : va_D A wc) : PreS s H (PM D a As wc H.size) As :=
  ⟨fun _ _ _ _ q => ⟨q.1, q.2.1, q.2.2.1, q.2.2.2.1.calling, q.2.2.2.2⟩, fun U hU hW => ⟨rfl, by rw [hU], by rw [hU]; exact hP, hK.warm hW, hD.weaken (fun _ _ _ _ => trivial)⟩⟩
theorem recvOf {ci : Nat} {r : vw_C} {fs : List Value} (hK : KK D a s) (hP : va_P D classes ws H) (q0 : Nat) (he : ws[q0]? = some (b, .inr (ci, fs))) (hc : classes[ci]? = some r) : ∃ cell : Cell, H[b]? = some cell ∧ cell.vm.isStatics = false ∧ s.vm.findClass r.1 = some cell.cls := va_recv hK.1 hP hc he
theorem preV {C : String} {Pc : Array Value → State → Prop} (h : PreS s H Pc (.ref b :: As)) (hr : ∃ cell : Cell, H[b]? = some cell ∧ cell.vm.isStatics = false ∧ s.vm.findClass C = some cell.cls) : PreV s H C b Pc As := ⟨h.1, hr, h.2⟩
/-- behind a call that only reads -/
theorem aftRi {post : Int32 → Prop} {av : Array Value} (hr : va_Run p l e R s m args below meth c H locs cells slots 0 0 (F0 m pc ls st0) rest (vp_Si post av) (fun _ => False)) (kk : ∀ r : Int32, post r → W p l e R s m args below meth c H locs cells slots Q (F0 m (pc + 3) ls (.int r :: rest))) : W p l e R s m args below meth c H locs cells slots Q (F0 m pc ls st0) := vp_callSi hr.run kk
theorem aftRl {post : Int64 → Prop} {av : Array Value} (hr : va_Run p l e R s m args below meth c H locs cells slots 0 0 (F0 m pc ls st0) rest (vp_Sl post av) (fun _ => False)) (kk : ∀ r : Int64, post r → W p l e R s m args below meth c H locs cells slots Q (F0 m (pc + 3) ls (.long r :: rest))) : W p l e R s m args below meth c H locs cells slots Q (F0 m pc ls st0) := vp_callSl hr.run kk
theorem aftRq {post : Option Nat → Prop} {av : Array Value} (hr : va_Run p l e R s m args below meth c H locs cells slots 0 0 (F0 m pc ls st0) rest (va_Sq post av) (fun _ => False)) (kk : ∀ r : Option Nat, post r → W p l e R s m args below meth c H locs cells slots Q (F0 m (pc + 3) ls (va_rf r :: rest))) : W p l e R s m args below meth c H locs cells slots Q (F0 m pc ls st0) := va_csq hr.run kk
/-- the worlds behind a call that writes: the rest, and what came back, in the order that is wanted -/
theorem joinM {S : Type} {g : S → va_W} {H1 : Heap} (u : S) (hP : va_P D classes ws H) (hD : va_D A ws) (isC isR pm : List Nat) (hC : isC.map (fun i => ws[i]?) = wc.map some) (hRr : isR.map (fun i => ws[i]?) = wr.map some) (hn : va_nd isR = true) (hdis : ∀ i ∈ isR, i ∉ isC) {fw : S → va_W} (hpm : ∀ u, pm.map (fun i => (wr ++ g u)[i]?) = (fw u).map some) (hnp : va_nd pm = true) (hF : ∀ q, va_A wc H.size q → A q) (hk : ∀ q : Nat, q < H.size → ¬ va_A wc H.size q → H1[q]? = H[q]?) (hP1 : va_P D classes (g u) H1) (hD1 : va_D (va_A wc H.size) (g u)) : va_P D classes (fw u) H1 ∧ va_D A (fw u) := by
  obtain ⟨h1, h2⟩ := va_join hP hD isC isR hC hRr hn hdis hk hF hP1 hD1
  exact ⟨P_of_map h1 pm (hpm u), h2.sub pm hnp (hpm u)⟩
theorem aftMi {S : Type} {post : Int32 → S → Prop} {g : S → va_W} {av : Array Value} (hr : va_Run p l e R s m args below meth c H locs cells slots mc ms (F0 m pc ls st0) rest (va_Qi post (Bw D (va_A wc H.size) g) (va_A wc H.size) av) (va_A wc H.size)) (hP : va_P D classes ws H) (hD : va_D A ws) (hS : va_S A s.heap H locs) (hA : ∀ q, s.heap.size ≤ q → A q) (isC isR pm : List Nat) (hC : isC.map (fun i => ws[i]?) = wc.map some) (hRr : isR.map (fun i => ws[i]?) = wr.map some) (hn : va_nd isR = true) (hdis : ∀ i ∈ isR, i ∉ isC) {fw : S → va_W} (hpm : ∀ u, pm.map (fun i => (wr ++ g u)[i]?) = (fw u).map some) (hnp : va_nd pm = true)
    (kk : ∀ (r : Int32) (u : S) (H1 : Heap) (locs1 : List Loc), post r u → va_P D classes (fw u) H1 → va_D A (fw u) → va_S A s.heap H1 locs1 → W p l e R s m args below meth c H1 locs1 (cells + mc) (slots + ms) Q (F0 m (pc + 3) ls (.int r :: rest))) : W p l e R s m args below meth c H locs cells slots Q (F0 m pc ls st0) := by
  have hF := va_free (wc := wc) hD hS hA isC hC
  refine va_calli hr hS (fun q _ h => hF q h) hF (fun r u t H1 locs1 ht hvm hw hB hz1 hk1 hS1 => ?_)
  have hB1 := hB.1
  rw [ht] at hB1
  obtain ⟨h1, h2⟩ := joinM u hP hD isC isR pm hC hRr hn hdis hpm hnp hF hk1 hB1 hB.2
  exact kk r u H1 locs1 hw h1 h2 hS1
theorem aftMl {S : Type} {post : Int64 → S → Prop} {g : S → va_W} {av : Array Value} (hr : va_Run p l e R s m args below meth c H locs cells slots mc ms (F0 m pc ls st0) rest (va_Ql post (Bw D (va_A wc H.size) g) (va_A wc H.size) av) (va_A wc H.size)) (hP : va_P D classes ws H) (hD : va_D A ws) (hS : va_S A s.heap H locs) (hA : ∀ q, s.heap.size ≤ q → A q) (isC isR pm : List Nat) (hC : isC.map (fun i => ws[i]?) = wc.map some) (hRr : isR.map (fun i => ws[i]?) = wr.map some) (hn : va_nd isR = true) (hdis : ∀ i ∈ isR, i ∉ isC) {fw : S → va_W} (hpm : ∀ u, pm.map (fun i => (wr ++ g u)[i]?) = (fw u).map some) (hnp : va_nd pm = true)
    (kk : ∀ (r : Int64) (u : S) (H1 : Heap) (locs1 : List Loc), post r u → va_P D classes (fw u) H1 → va_D A (fw u) → va_S A s.heap H1 locs1 → W p l e R s m args below meth c H1 locs1 (cells + mc) (slots + ms) Q (F0 m (pc + 3) ls (.long r :: rest))) : W p l e R s m args below meth c H locs cells slots Q (F0 m pc ls st0) := by
  have hF := va_free (wc := wc) hD hS hA isC hC
  refine va_calll hr hS (fun q _ h => hF q h) hF (fun r u t H1 locs1 ht hvm hw hB hz1 hk1 hS1 => ?_)
  have hB1 := hB.1
  rw [ht] at hB1
  obtain ⟨h1, h2⟩ := joinM u hP hD isC isR pm hC hRr hn hdis hpm hnp hF hk1 hB1 hB.2
  exact kk r u H1 locs1 hw h1 h2 hS1
theorem aftMv {S : Type} {post : S → Prop} {g : S → va_W} {av : Array Value} (hr : va_Run p l e R s m args below meth c H locs cells slots mc ms (F0 m pc ls st0) rest (va_Qv post (Bw D (va_A wc H.size) g) (va_A wc H.size) av) (va_A wc H.size)) (hP : va_P D classes ws H) (hD : va_D A ws) (hS : va_S A s.heap H locs) (hA : ∀ q, s.heap.size ≤ q → A q) (isC isR pm : List Nat) (hC : isC.map (fun i => ws[i]?) = wc.map some) (hRr : isR.map (fun i => ws[i]?) = wr.map some) (hn : va_nd isR = true) (hdis : ∀ i ∈ isR, i ∉ isC) {fw : S → va_W} (hpm : ∀ u, pm.map (fun i => (wr ++ g u)[i]?) = (fw u).map some) (hnp : va_nd pm = true)
    (kk : ∀ (u : S) (H1 : Heap) (locs1 : List Loc), post u → va_P D classes (fw u) H1 → va_D A (fw u) → va_S A s.heap H1 locs1 → W p l e R s m args below meth c H1 locs1 (cells + mc) (slots + ms) Q (F0 m (pc + 3) ls rest)) : W p l e R s m args below meth c H locs cells slots Q (F0 m pc ls st0) := by
  have hF := va_free (wc := wc) hD hS hA isC hC
  refine va_callv hr hS (fun q _ h => hF q h) hF (fun u t H1 locs1 ht hvm hw hB hz1 hk1 hS1 => ?_)
  have hB1 := hB.1
  rw [ht] at hB1
  obtain ⟨h1, h2⟩ := joinM u hP hD isC isR pm hC hRr hn hdis hpm hnp hF hk1 hB1 hB.2
  exact kk u H1 locs1 hw h1 h2 hS1
/-- returns -/
theorem retMi {S : Type} {post : Int32 → S → Prop} {g : S → va_W} {v : Int32} (C : Cx p s m args meth c M0) (hri : M0.2.2.2 = some .int) (u : S) (hp : post v u) (hP : va_P D classes (g u) H) (hD : va_D A (g u)) (hS : va_S A s.heap H locs) (hc : cells ≤ mc) (hs : slots ≤ ms) (hdg : decode M0.2.1 pc = .ok (.ireturn, 1)) : W p l e R s m args below meth c H locs cells slots (MQ below (va_Qi post (Bw D A g) A) args s mc ms A) (F0 m pc ls [.int v]) := by
  obtain ⟨hx, hb, -, -, -, hr, hlocks, -⟩ := C
  refine W.widen hc hs ?_
  exact W.iret hx hb (hr.trans hri) (fun t ht hW => ⟨⟨v, u, rfl, hp, by rw [ht]; exact hP, hD⟩, hS.F ht⟩) hS.2.2 hdg hlocks
theorem retMz {S : Type} {post : Int32 → S → Prop} {g : S → va_W} {v : Int32} (C : Cx p s m args meth c M0) (hri : M0.2.2.2 = some .boolean) (hz : v = 0 ∨ v = 1) (u : S) (hp : post v u) (hP : va_P D classes (g u) H) (hD : va_D A (g u)) (hS : va_S A s.heap H locs) (hc : cells ≤ mc) (hs : slots ≤ ms) (hdg : decode M0.2.1 pc = .ok (.ireturn, 1)) : W p l e R s m args below meth c H locs cells slots (MQ below (va_Qi post (Bw D A g) A) args s mc ms A) (F0 m pc ls [.int v]) := by
  obtain ⟨hx, hb, -, -, -, hr, hlocks, -⟩ := C
  refine W.widen hc hs ?_
  exact W.zret hx hb (hr.trans hri) (by rcases hz with h | h <;> rw [h] <;> decide) (fun t ht hW => ⟨⟨v, u, rfl, hp, by rw [ht]; exact hP, hD⟩, hS.F ht⟩) hS.2.2 hdg hlocks
theorem retMl {S : Type} {post : Int64 → S → Prop} {g : S → va_W} {v : Int64} (C : Cx p s m args meth c M0) (hri : M0.2.2.2 = some .long) (u : S) (hp : post v u) (hP : va_P D classes (g u) H) (hD : va_D A (g u)) (hS : va_S A s.heap H locs) (hc : cells ≤ mc) (hs : slots ≤ ms) (hdg : decode M0.2.1 pc = .ok (.lreturn, 1)) : W p l e R s m args below meth c H locs cells slots (MQ below (va_Ql post (Bw D A g) A) args s mc ms A) (F0 m pc ls [.long v]) := by
  obtain ⟨hx, hb, -, -, -, hr, hlocks, -⟩ := C
  refine W.widen hc hs ?_
  exact W.lret hx hb (hr.trans hri) (fun t ht hW => ⟨⟨v, u, rfl, hp, by rw [ht]; exact hP, hD⟩, hS.F ht⟩) hS.2.2 hdg hlocks
theorem retMv {S : Type} {post : S → Prop} {g : S → va_W} (C : Cx p s m args meth c M0) (hri : M0.2.2.2 = none) (u : S) (hp : post u) (hP : va_P D classes (g u) H) (hD : va_D A (g u)) (hS : va_S A s.heap H locs) (hc : cells ≤ mc) (hs : slots ≤ ms) (hdg : decode M0.2.1 pc = .ok (.return_, 1)) : W p l e R s m args below meth c H locs cells slots (MQ below (va_Qv post (Bw D A g) A) args s mc ms A) (F0 m pc ls []) := by
  obtain ⟨hx, hb, -, -, -, hr, hlocks, -⟩ := C
  refine W.widen hc hs ?_
  exact W.vret hx hb (hr.trans hri) (fun t ht hW => ⟨⟨u, rfl, hp, by rw [ht]; exact hP, hD⟩, hS.F ht⟩) hS.2.2 hdg hlocks
theorem retRi {post : Int32 → Prop} {v : Int32} (C : Cx p s m args meth c M0) (hri : M0.2.2.2 = some .int) (hp : post v) (hdg : decode M0.2.1 pc = .ok (.ireturn, 1)) : W p l e R s m args below meth c s.heap [] 0 0 (MQ below (vp_Si post) args s 0 0 (fun _ => False)) (F0 m pc ls [.int v]) := by
  obtain ⟨hx, hb, -, -, -, hr, hlocks, -⟩ := C
  exact W.iret hx hb (hr.trans hri) (fun t ht hW => ⟨v, rfl, hp, ht⟩) (fun _ h => by cases h) hdg hlocks
theorem retRz {post : Int32 → Prop} {v : Int32} (C : Cx p s m args meth c M0) (hri : M0.2.2.2 = some .boolean) (hz : v = 0 ∨ v = 1) (hp : post v) (hdg : decode M0.2.1 pc = .ok (.ireturn, 1)) : W p l e R s m args below meth c s.heap [] 0 0 (MQ below (vp_Si post) args s 0 0 (fun _ => False)) (F0 m pc ls [.int v]) := by
  obtain ⟨hx, hb, -, -, -, hr, hlocks, -⟩ := C
  exact W.zret hx hb (hr.trans hri) (by rcases hz with h | h <;> rw [h] <;> decide) (fun t ht hW => ⟨v, rfl, hp, ht⟩) (fun _ h => by cases h) hdg hlocks
theorem retRl {post : Int64 → Prop} {v : Int64} (C : Cx p s m args meth c M0) (hri : M0.2.2.2 = some .long) (hp : post v) (hdg : decode M0.2.1 pc = .ok (.lreturn, 1)) : W p l e R s m args below meth c s.heap [] 0 0 (MQ below (vp_Sl post) args s 0 0 (fun _ => False)) (F0 m pc ls [.long v]) := by
  obtain ⟨hx, hb, -, -, -, hr, hlocks, -⟩ := C
  exact W.lret hx hb (hr.trans hri) (fun t ht hW => ⟨v, rfl, hp, ht⟩) (fun _ h => by cases h) hdg hlocks
theorem retRq {post : Option Nat → Prop} {v : Option Nat} {rt : FieldType} (C : Cx p s m args meth c M0) (hri : M0.2.2.2 = some rt) (hrt : (∃ n, rt = .object n) ∨ ∃ t, rt = .array t) (hp : post v) (hdg : decode M0.2.1 pc = .ok (.areturn, 1)) : W p l e R s m args below meth c s.heap [] 0 0 (MQ below (va_Sq post) args s 0 0 (fun _ => False)) (F0 m pc ls [va_rf v]) := by
  obtain ⟨hx, hb, -, -, -, hr, hlocks, -⟩ := C
  exact W.aret hx hb (hr.trans hri) hrt (by cases v with | none => exact Or.inl rfl | some x => exact Or.inr ⟨x, rfl⟩) (fun t ht hW => ⟨v, rfl, hp, ht⟩) (fun _ h => by cases h) hdg hlocks
/-- new arrays, of a class that is known already -/
theorem newA {ty : FieldType} {atype : ArrayType} {n : Int32} {N' : Nat} {a0 : vp_A} {cc : ByteArray} (hexec : p.tables.exec = Jvm.exec) (hb : c.code = cc) (hK : KK D a s) (t0 : Nat) {cA : ClassId} (ht : (TY a)[t0]? = some (cA, ty)) (hpr : ∀ U c', va_RA U c' ty ↔ U.vm.findClass ("[" ++ ty.toString) = some c') (harr : (Cond.arrayClass (newarray.typeOf atype)).before args s = true) (hty : newarray.typeOf atype = ty) (hP : va_P D classes ws H) (hD : va_D A ws) (hS : va_S A s.heap H locs) (hA : ∀ q, s.heap.size ≤ q → A q) (ha : ∀ cA : ClassId, vp_cell cA a0 = arrV cA N' (fun _ => defaultValue ty)) (hn : ¬ n < 0) (hN : n.toNatClampNeg = N') (hbytes : N' * componentBytes ty ≤ 536870912) (hcells : cells + 1 ≤ R.cells) (hslots : slots + N' ≤ R.slots) (hdg : decode cc pc = .ok (.newarray atype, 2))
    (kk : ∀ (q : Nat) (H1 : Heap), va_P D classes (ws ++ [(q, .inl (cA, a0))]) H1 → va_D A (ws ++ [(q, .inl (cA, a0))]) → va_S A s.heap H1 locs → W p l e R s m args below meth c H1 locs (cells + 1) (slots + N') Q (F0 m (pc + 2) ls (.ref q :: rest))) : W p l e R s m args below meth c H locs cells slots Q (F0 m pc ls (.int n :: rest)) := by
  refine va_newa hexec hb harr hty hK.1 hP hD hS hA ha hn hN hbytes hcells hslots hdg (fun q cB H1 hK1 hP1 hD1 hS1 => ?_)
  have e1 := (hpr _ _).mp (hK.1.2 t0 _ ht).2
  have e2 := (hpr _ _).mp (hK1.2 (TY a).length (cB, ty) rfl).2
  have e3 : cB = cA := Option.some.inj (e2.symm.trans e1)
  subst e3
  exact kk q H1 hP1 hD1 hS1
theorem newQ {E : String} {i : Nat} {n : Int32} {N' : Nat} {cc : ByteArray} {own : String} (hexec : p.tables.exec = Jvm.exec) (hb : c.code = cc) (hown : s.vm.findClass own = some m.cls) (hcl : (Cond.classLink own i E).before args s = true) (hov : va_AO E s) (hK : KK D a s) (t0 : Nat) {cA : ClassId} (ht : (TY a)[t0]? = some (cA, .object E)) (hP : va_P D classes ws H) (hD : va_D A ws) (hS : va_S A s.heap H locs) (hA : ∀ q, s.heap.size ≤ q → A q) (hn : ¬ n < 0) (hN : n.toNatClampNeg = N') (hbytes : N' * 4 ≤ 536870912) (hcells : cells + 1 ≤ R.cells) (hslots : slots + N' ≤ R.slots) (hdg : decode cc pc = .ok (.anewarray i, 3))
    (kk : ∀ (q : Nat) (H1 : Heap), va_P D classes (ws ++ [(q, .inl (cA, N', .inr (.inr (.inr (.inr (fun _ => none))))))]) H1 → va_D A (ws ++ [(q, .inl (cA, N', .inr (.inr (.inr (.inr (fun _ => none))))))]) → va_S A s.heap H1 locs → W p l e R s m args below meth c H1 locs (cells + 1) (slots + N') Q (F0 m (pc + 3) ls (.ref q :: rest))) : W p l e R s m args below meth c H locs cells slots Q (F0 m pc ls (.int n :: rest)) := by
  refine va_newq hexec hb hown hcl hov hK.1 hP hD hS hA hn hN hbytes hcells hslots hdg (fun q cB H1 hK1 hP1 hD1 hS1 => ?_)
  obtain ⟨-, -, -, -, -, e1⟩ := (hK.1.2 t0 _ ht).2
  obtain ⟨-, -, -, -, -, e2⟩ := (hK1.2 (TY a).length (cB, .object E) rfl).2
  have e3 : cB = cA := Option.some.inj (e2.symm.trans e1)
  subst e3
  exact kk q H1 hP1 hD1 hS1
end LRUN
theorem ra_int (U : State) (c : ClassId) : va_RA U c .int ↔ U.vm.findClass ("[" ++ FieldType.toString .int) = some c := Iff.rfl
theorem ra_long (U : State) (c : ClassId) : va_RA U c .long ↔ U.vm.findClass ("[" ++ FieldType.toString .long) = some c := Iff.rfl
theorem ra_byte (U : State) (c : ClassId) : va_RA U c .byte ↔ U.vm.findClass ("[" ++ FieldType.toString .byte) = some c := Iff.rfl
theorem ra_bool (U : State) (c : ClassId) : va_RA U c .boolean ↔ U.vm.findClass ("[" ++ FieldType.toString .boolean) = some c := Iff.rfl
/-- an index, as a number -/
def IX (i : Int32) (k n : Nat) : Prop := i.toNatClampNeg = k ∧ ¬ i < 0 ∧ k < n
theorem ix_lit {i : Int32} {k n : Nat} (h : decide (i.toNatClampNeg = k ∧ ¬ i < 0 ∧ k < n) = true) : IX i k n := by
  have h2 : i.toNatClampNeg = k ∧ ¬ i < 0 ∧ k < n := of_decide_eq_true h
  exact h2
theorem ix_nI {k n : Nat} (h : k < n) (hn : n < 2 ^ 31) : IX (nI k) k n := ⟨nI_clamp (Nat.lt_trans h hn), nI_pos (Nat.lt_trans h hn), h⟩
theorem IX.vin {i : Int32} {k n : Nat} (h : IX i k n) : vp_in i n := by
  intro q
  rcases q with q | q
  · exact h.2.1 q
  · rw [h.1] at q; exact absurd h.2.2 (Nat.not_lt.mpr q)
section LARR
variable {p : Program} {l : Launch} {e : Env} {R : Room} {s : State} {m : MethodId} {args : Array Value} {below : List Frame} {meth : Method} {c : Code} {H : Heap} {locs : List Loc} {cells slots : Nat} {Q : State → Prop}
variable {cc : ByteArray} {pc : Nat} {ls : Array Slot} {rest : List Value} {D : va_G} {cl : List vw_C} {A : Nat → Prop} {a : Nat} {tys : List (ClassId × FieldType)} {ws : va_W} {H0 : Heap}
theorem ald_i (hexec : p.tables.exec = Jvm.exec) (hb : c.code = cc) (hK : va_K D cl tys s) (hP : va_P D cl ws H) (q0 t0 : Nat) {cA : ClassId} {n : Nat} {f : Nat → Int32} (ha : ws[q0]? = some (a, .inl (cA, n, .inl f))) (ht : tys[t0]? = some (cA, .int)) {i : Int32} (k : Nat) (hi : IX i k n) (hdg : decode cc pc = .ok (.iaload, 1)) (kk : W p l e R s m args below meth c H locs cells slots Q (F0 m (pc + 1) ls (.int (f k) :: rest))) : W p l e R s m args below meth c H locs cells slots Q (F0 m pc ls (.int i :: .ref a :: rest)) := by
  refine va_iald hexec hb hK hP q0 t0 ha ht hi.vin hdg ?_
  rw [hi.1]; exact kk
theorem ald_b (hexec : p.tables.exec = Jvm.exec) (hb : c.code = cc) (hK : va_K D cl tys s) (hP : va_P D cl ws H) (q0 t0 : Nat) {cA : ClassId} {n : Nat} {f : Nat → Int32} (ha : ws[q0]? = some (a, .inl (cA, n, .inl f))) (ht : tys[t0]? = some (cA, .byte)) {i : Int32} (k : Nat) (hi : IX i k n) (hdg : decode cc pc = .ok (.baload, 1)) (kk : W p l e R s m args below meth c H locs cells slots Q (F0 m (pc + 1) ls (.int (f k) :: rest))) : W p l e R s m args below meth c H locs cells slots Q (F0 m pc ls (.int i :: .ref a :: rest)) := by
  refine va_bald hexec hb hK hP q0 t0 ha ht hi.vin hdg ?_
  rw [hi.1]; exact kk
theorem ald_z (hexec : p.tables.exec = Jvm.exec) (hb : c.code = cc) (hK : va_K D cl tys s) (hP : va_P D cl ws H) (q0 t0 : Nat) {cA : ClassId} {n : Nat} {f : Nat → Int32} (ha : ws[q0]? = some (a, .inl (cA, n, .inl f))) (ht : tys[t0]? = some (cA, .boolean)) {i : Int32} (k : Nat) (hi : IX i k n) (hdg : decode cc pc = .ok (.baload, 1)) (kk : W p l e R s m args below meth c H locs cells slots Q (F0 m (pc + 1) ls (.int (f k) :: rest))) : W p l e R s m args below meth c H locs cells slots Q (F0 m pc ls (.int i :: .ref a :: rest)) := by
  refine va_zald hexec hb hK hP q0 t0 ha ht hi.vin hdg ?_
  rw [hi.1]; exact kk
theorem ald_l (hexec : p.tables.exec = Jvm.exec) (hb : c.code = cc) (hK : va_K D cl tys s) (hP : va_P D cl ws H) (q0 t0 : Nat) {cA : ClassId} {n : Nat} {f : Nat → Int64} (ha : ws[q0]? = some (a, .inl (cA, n, .inr (.inl f)))) (ht : tys[t0]? = some (cA, .long)) {i : Int32} (k : Nat) (hi : IX i k n) (hdg : decode cc pc = .ok (.laload, 1)) (kk : W p l e R s m args below meth c H locs cells slots Q (F0 m (pc + 1) ls (.long (f k) :: rest))) : W p l e R s m args below meth c H locs cells slots Q (F0 m pc ls (.int i :: .ref a :: rest)) := by
  refine va_lald hexec hb hK hP q0 t0 ha ht hi.vin hdg ?_
  rw [hi.1]; exact kk
theorem ald_q (hexec : p.tables.exec = Jvm.exec) (hb : c.code = cc) (hK : va_K D cl tys s) (hP : va_P D cl ws H) (q0 t0 : Nat) {cA : ClassId} {E : String} {n : Nat} {f : Nat → Option Nat} (ha : ws[q0]? = some (a, .inl (cA, n, .inr (.inr (.inr (.inr f)))))) (ht : tys[t0]? = some (cA, .object E)) {i : Int32} (k : Nat) (hi : IX i k n) (hdg : decode cc pc = .ok (.aaload, 1)) (kk : W p l e R s m args below meth c H locs cells slots Q (F0 m (pc + 1) ls (va_rf (f k) :: rest))) : W p l e R s m args below meth c H locs cells slots Q (F0 m pc ls (.int i :: .ref a :: rest)) := by
  refine va_aldq hexec hb hK hP q0 t0 ha ht hi.vin hdg ?_
  rw [hi.1]; exact kk
theorem ast_i (hexec : p.tables.exec = Jvm.exec) (hb : c.code = cc) (hK : va_K D cl tys s) (hP : va_P D cl ws H) (hD : va_D A ws) (hS : va_S A H0 H locs) (q0 t0 : Nat) {cA : ClassId} {n : Nat} {f : Nat → Int32} (ha : ws[q0]? = some (a, .inl (cA, n, .inl f))) (ht : tys[t0]? = some (cA, .int)) {i : Int32} {x : Int32} (k : Nat) (hi : IX i k n) (hdg : decode cc pc = .ok (.iastore, 1)) (kk : ∀ (H1 : Heap) (locs1 : List Loc), va_P D cl (ws.set q0 (a, .inl (cA, n, .inl (upd f k x)))) H1 → va_D A (ws.set q0 (a, .inl (cA, n, .inl (upd f k x)))) → va_S A H0 H1 locs1 → W p l e R s m args below meth c H1 locs1 cells slots Q (F0 m (pc + 1) ls rest)) : W p l e R s m args below meth c H locs cells slots Q (F0 m pc ls (.int x :: .int i :: .ref a :: rest)) := by
  refine va_iast hexec hb hK hP hD hS q0 t0 ha ht hi.vin hdg ?_
  rw [hi.1]; exact kk
theorem ast_b (hexec : p.tables.exec = Jvm.exec) (hb : c.code = cc) (hK : va_K D cl tys s) (hP : va_P D cl ws H) (hD : va_D A ws) (hS : va_S A H0 H locs) (q0 t0 : Nat) {cA : ClassId} {n : Nat} {f : Nat → Int32} (ha : ws[q0]? = some (a, .inl (cA, n, .inl f))) (ht : tys[t0]? = some (cA, .byte)) {i : Int32} {x : Int32} (k : Nat) (hi : IX i k n) (hdg : decode cc pc = .ok (.bastore, 1)) (kk : ∀ (H1 : Heap) (locs1 : List Loc), va_P D cl (ws.set q0 (a, .inl (cA, n, .inl (upd f k (vp_nar .byte x))))) H1 → va_D A (ws.set q0 (a, .inl (cA, n, .inl (upd f k (vp_nar .byte x))))) → va_S A H0 H1 locs1 → W p l e R s m args below meth c H1 locs1 cells slots Q (F0 m (pc + 1) ls rest)) : W p l e R s m args below meth c H locs cells slots Q (F0 m pc ls (.int x :: .int i :: .ref a :: rest)) := by
  refine va_bast hexec hb hK hP hD hS q0 t0 ha ht hi.vin hdg ?_
  rw [hi.1]; exact kk
theorem ast_z (hexec : p.tables.exec = Jvm.exec) (hb : c.code = cc) (hK : va_K D cl tys s) (hP : va_P D cl ws H) (hD : va_D A ws) (hS : va_S A H0 H locs) (q0 t0 : Nat) {cA : ClassId} {n : Nat} {f : Nat → Int32} (ha : ws[q0]? = some (a, .inl (cA, n, .inl f))) (ht : tys[t0]? = some (cA, .boolean)) {i : Int32} {x : Int32} (k : Nat) (hi : IX i k n) (hdg : decode cc pc = .ok (.bastore, 1)) (kk : ∀ (H1 : Heap) (locs1 : List Loc), va_P D cl (ws.set q0 (a, .inl (cA, n, .inl (upd f k (vp_nar .boolean x))))) H1 → va_D A (ws.set q0 (a, .inl (cA, n, .inl (upd f k (vp_nar .boolean x))))) → va_S A H0 H1 locs1 → W p l e R s m args below meth c H1 locs1 cells slots Q (F0 m (pc + 1) ls rest)) : W p l e R s m args below meth c H locs cells slots Q (F0 m pc ls (.int x :: .int i :: .ref a :: rest)) := by
  refine va_zast hexec hb hK hP hD hS q0 t0 ha ht hi.vin hdg ?_
  rw [hi.1]; exact kk
theorem ast_l (hexec : p.tables.exec = Jvm.exec) (hb : c.code = cc) (hK : va_K D cl tys s) (hP : va_P D cl ws H) (hD : va_D A ws) (hS : va_S A H0 H locs) (q0 t0 : Nat) {cA : ClassId} {n : Nat} {f : Nat → Int64} (ha : ws[q0]? = some (a, .inl (cA, n, .inr (.inl f)))) (ht : tys[t0]? = some (cA, .long)) {i : Int32} {x : Int64} (k : Nat) (hi : IX i k n) (hdg : decode cc pc = .ok (.lastore, 1)) (kk : ∀ (H1 : Heap) (locs1 : List Loc), va_P D cl (ws.set q0 (a, .inl (cA, n, .inr (.inl (vp_updL f k x))))) H1 → va_D A (ws.set q0 (a, .inl (cA, n, .inr (.inl (vp_updL f k x))))) → va_S A H0 H1 locs1 → W p l e R s m args below meth c H1 locs1 cells slots Q (F0 m (pc + 1) ls rest)) : W p l e R s m args below meth c H locs cells slots Q (F0 m pc ls (.long x :: .int i :: .ref a :: rest)) := by
  refine va_last hexec hb hK hP hD hS q0 t0 ha ht hi.vin hdg ?_
  rw [hi.1]; exact kk
theorem ast_q (hexec : p.tables.exec = Jvm.exec) (hb : c.code = cc) (hK : va_K D cl tys s) (hP : va_P D cl ws H) (hD : va_D A ws) (hS : va_S A H0 H locs) (q0 t0 qk ci : Nat) {cA : ClassId} {r : vw_C} {n v : Nat} {vs : List Value} {f : Nat → Option Nat} (ha : ws[q0]? = some (a, .inl (cA, n, .inr (.inr (.inr (.inr f)))))) (ht : tys[t0]? = some (cA, .object r.1)) (hv : ws[qk]? = some (v, .inr (ci, vs))) (hc : cl[ci]? = some r) {i : Int32} (k : Nat) (hi : IX i k n) (hdg : decode cc pc = .ok (.aastore, 1)) (kk : ∀ (H1 : Heap) (locs1 : List Loc), va_P D cl (ws.set q0 (a, .inl (cA, n, .inr (.inr (.inr (.inr (va_up f k (some v)))))))) H1 → va_D A (ws.set q0 (a, .inl (cA, n, .inr (.inr (.inr (.inr (va_up f k (some v)))))))) → va_S A H0 H1 locs1 → W p l e R s m args below meth c H1 locs1 cells slots Q (F0 m (pc + 1) ls rest)) : W p l e R s m args below meth c H locs cells slots Q (F0 m pc ls (.ref v :: .int i :: .ref a :: rest)) := by
  refine va_astq hexec hb hK hP hD hS q0 t0 qk ci ha ht hv hc hi.vin hdg ?_
  rw [hi.1]; exact kk
end LARR
end
section
/-! Calls whose outcome may be one of several; numbers behind branches; the law's script. -/
abbrev SS : Type := Nat × List Nat × List Int32 × List Int64 × List (Nat → Int32) × List (Nat → Int64)
abbrev pk (l : List va_W) (i : Nat) : va_W := l.getD i []
section LRUN2
variable {p : Program} {l : Launch} {e : Env} {R : Room} {s : State} {m : MethodId} {args : Array Value} {below : List Frame} {meth : Method} {c : Code} {H : Heap} {locs : List Loc} {cells slots : Nat} {Q : State → Prop}
variable {mc ms : Nat} {rest st0 : List Value} {ls : Array Slot} {pc : Nat}
variable {D : va_G} {A : Nat → Prop} {ws wc wr : va_W}
theorem afMi {S : Type} {post : Int32 → S → Prop} {g : S → va_W} {av : Array Value} (hr : va_Run p l e R s m args below meth c H locs cells slots mc ms (F0 m pc ls st0) rest (va_Qi post (Bw D (va_A wc H.size) g) (va_A wc H.size) av) (va_A wc H.size)) (hP : va_P D classes ws H) (hD : va_D A ws) (hS : va_S A s.heap H locs) (hA : ∀ q, s.heap.size ≤ q → A q) (isC isR : List Nat) (hC : isC.map (fun i => ws[i]?) = wc.map some) (hRr : isR.map (fun i => ws[i]?) = wr.map some) (hn : va_nd isR = true) (hdis : ∀ i ∈ isR, i ∉ isC)
    (kk : ∀ (r : Int32) (u : S) (H1 : Heap) (locs1 : List Loc), post r u → va_P D classes (wr ++ g u) H1 → va_D A (wr ++ g u) → va_S A s.heap H1 locs1 → W p l e R s m args below meth c H1 locs1 (cells + mc) (slots + ms) Q (F0 m (pc + 3) ls (.int r :: rest))) : W p l e R s m args below meth c H locs cells slots Q (F0 m pc ls st0) := by
  have hF := va_free (wc := wc) hD hS hA isC hC
  refine va_calli hr hS (fun q _ h => hF q h) hF (fun r u t H1 locs1 ht hvm hw hB hz1 hk1 hS1 => ?_)
  have hB1 := hB.1
  rw [ht] at hB1
  obtain ⟨h1, h2⟩ := va_join hP hD isC isR hC hRr hn hdis hk1 hF hB1 hB.2
  exact kk r u H1 locs1 hw h1 h2 hS1
theorem afMl {S : Type} {post : Int64 → S → Prop} {g : S → va_W} {av : Array Value} (hr : va_Run p l e R s m args below meth c H locs cells slots mc ms (F0 m pc ls st0) rest (va_Ql post (Bw D (va_A wc H.size) g) (va_A wc H.size) av) (va_A wc H.size)) (hP : va_P D classes ws H) (hD : va_D A ws) (hS : va_S A s.heap H locs) (hA : ∀ q, s.heap.size ≤ q → A q) (isC isR : List Nat) (hC : isC.map (fun i => ws[i]?) = wc.map some) (hRr : isR.map (fun i => ws[i]?) = wr.map some) (hn : va_nd isR = true) (hdis : ∀ i ∈ isR, i ∉ isC)
    (kk : ∀ (r : Int64) (u : S) (H1 : Heap) (locs1 : List Loc), post r u → va_P D classes (wr ++ g u) H1 → va_D A (wr ++ g u) → va_S A s.heap H1 locs1 → W p l e R s m args below meth c H1 locs1 (cells + mc) (slots + ms) Q (F0 m (pc + 3) ls (.long r :: rest))) : W p l e R s m args below meth c H locs cells slots Q (F0 m pc ls st0) := by
  have hF := va_free (wc := wc) hD hS hA isC hC
  refine va_calll hr hS (fun q _ h => hF q h) hF (fun r u t H1 locs1 ht hvm hw hB hz1 hk1 hS1 => ?_)
  have hB1 := hB.1
  rw [ht] at hB1
  obtain ⟨h1, h2⟩ := va_join hP hD isC isR hC hRr hn hdis hk1 hF hB1 hB.2
  exact kk r u H1 locs1 hw h1 h2 hS1
theorem afMv {S : Type} {post : S → Prop} {g : S → va_W} {av : Array Value} (hr : va_Run p l e R s m args below meth c H locs cells slots mc ms (F0 m pc ls st0) rest (va_Qv post (Bw D (va_A wc H.size) g) (va_A wc H.size) av) (va_A wc H.size)) (hP : va_P D classes ws H) (hD : va_D A ws) (hS : va_S A s.heap H locs) (hA : ∀ q, s.heap.size ≤ q → A q) (isC isR : List Nat) (hC : isC.map (fun i => ws[i]?) = wc.map some) (hRr : isR.map (fun i => ws[i]?) = wr.map some) (hn : va_nd isR = true) (hdis : ∀ i ∈ isR, i ∉ isC)
    (kk : ∀ (u : S) (H1 : Heap) (locs1 : List Loc), post u → va_P D classes (wr ++ g u) H1 → va_D A (wr ++ g u) → va_S A s.heap H1 locs1 → W p l e R s m args below meth c H1 locs1 (cells + mc) (slots + ms) Q (F0 m (pc + 3) ls rest)) : W p l e R s m args below meth c H locs cells slots Q (F0 m pc ls st0) := by
  have hF := va_free (wc := wc) hD hS hA isC hC
  refine va_callv hr hS (fun q _ h => hF q h) hF (fun u t H1 locs1 ht hvm hw hB hz1 hk1 hS1 => ?_)
  have hB1 := hB.1
  rw [ht] at hB1
  obtain ⟨h1, h2⟩ := va_join hP hD isC isR hC hRr hn hdis hk1 hF hB1 hB.2
  exact kk u H1 locs1 hw h1 h2 hS1
theorem sld {cc : ByteArray} {H0 : Heap} (hexec : p.tables.exec = Jvm.exec) (hb : c.code = cc) {b L : Nat} {xs : Nat → Int32} (hX : va_X b L xs s H0) (hbl : b < H0.size) (hbA : ¬ A b) (hS : va_S A H0 H locs) {i : Int32} (k : Nat) (hi : IX i k L) (hdg : decode cc pc = .ok (.iaload, 1))
    (kk : W p l e R s m args below meth c H locs cells slots Q (F0 m (pc + 1) ls (.int (xs k) :: rest))) : W p l e R s m args below meth c H locs cells slots Q (F0 m pc ls (.int i :: .ref b :: rest)) := by
  refine va_sld hexec hb hX hbl hbA hS hi.vin hdg ?_
  rw [hi.1]; exact kk
theorem sldE {cc : ByteArray} {H0 : Heap} (hexec : p.tables.exec = Jvm.exec) (hb : c.code = cc) {b L : Nat} {xs : Nat → Int32} (hX : va_X b L xs s H0) (hbl : b < H0.size) (hbA : ¬ A b) (hS : va_S A H0 H locs) {i v : Int32} (k : Nat) (hi : IX i k L) (hv : v = xs k) (hdg : decode cc pc = .ok (.iaload, 1))
    (kk : W p l e R s m args below meth c H locs cells slots Q (F0 m (pc + 1) ls (.int v :: rest))) : W p l e R s m args below meth c H locs cells slots Q (F0 m pc ls (.int i :: .ref b :: rest)) := by
  refine sld hexec hb hX hbl hbA hS k hi hdg ?_
  rw [← hv]; exact kk
end LRUN2
section NUMS
variable {x y : Int32} {a b : Int}
theorem i32_lt (x y : Int32) : x < y ↔ x.toInt < y.toInt := Int32.lt_iff_toInt_lt
theorem i32_le (x y : Int32) : x ≤ y ↔ x.toInt ≤ y.toInt := Int32.le_iff_toInt_le
theorem bI_eq (ha : x.toInt = a) (hb : y.toInt = b) (h : x = y) : a = b := by rw [← ha, ← hb, h]
theorem bI_neq (ha : x.toInt = a) (hb : y.toInt = b) (h : ¬ x = y) : a ≠ b := fun e => h (Int32.toInt.inj (by rw [ha, hb, e]))
theorem bI_ne (ha : x.toInt = a) (hb : y.toInt = b) (h : ¬ x = y) : a ≠ b := bI_neq ha hb h
theorem bI_nne (ha : x.toInt = a) (hb : y.toInt = b) (h : x = y) : a = b := bI_eq ha hb h
theorem bI_lt (ha : x.toInt = a) (hb : y.toInt = b) (h : x < y) : a < b := by rw [← ha, ← hb]; exact (i32_lt x y).mp h
theorem bI_nlt (ha : x.toInt = a) (hb : y.toInt = b) (h : ¬ x < y) : a ≥ b := by rw [← ha, ← hb]; exact Int.not_lt.mp (fun q => h ((i32_lt x y).mpr q))
theorem bI_ge (ha : x.toInt = a) (hb : y.toInt = b) (h : y ≤ x) : a ≥ b := by rw [← ha, ← hb]; exact (i32_le y x).mp h
theorem bI_nge (ha : x.toInt = a) (hb : y.toInt = b) (h : ¬ y ≤ x) : a < b := by rw [← ha, ← hb]; exact Int.not_le.mp (fun q => h ((i32_le y x).mpr q))
theorem bI_gt (ha : x.toInt = a) (hb : y.toInt = b) (h : y < x) : a > b := by rw [← ha, ← hb]; exact (i32_lt y x).mp h
theorem bI_ngt (ha : x.toInt = a) (hb : y.toInt = b) (h : ¬ y < x) : a ≤ b := by rw [← ha, ← hb]; exact Int.not_lt.mp (fun q => h ((i32_lt y x).mpr q))
theorem bI_le (ha : x.toInt = a) (hb : y.toInt = b) (h : x ≤ y) : a ≤ b := by rw [← ha, ← hb]; exact (i32_le x y).mp h
theorem bI_nle (ha : x.toInt = a) (hb : y.toInt = b) (h : ¬ x ≤ y) : a > b := by rw [← ha, ← hb]; exact Int.not_le.mp (fun q => h ((i32_le x y).mpr q))
end NUMS
section NUML
variable {x y : Int64} {a b : Int}
theorem i64_lt (x y : Int64) : x < y ↔ x.toInt < y.toInt := Int64.lt_iff_toInt_lt
theorem i64_le (x y : Int64) : x ≤ y ↔ x.toInt ≤ y.toInt := Int64.le_iff_toInt_le
theorem cI_eq (ha : x.toInt = a) (hb : y.toInt = b) (h : lg_cmp x y = 0) : a = b := by rw [← ha, ← hb, (lg_cmp_eq x y).mp h]
theorem cI_neq (ha : x.toInt = a) (hb : y.toInt = b) (h : ¬ lg_cmp x y = 0) : a ≠ b := fun e => h ((lg_cmp_eq x y).mpr (Int64.toInt.inj (by rw [ha, hb, e])))
theorem cI_ne (ha : x.toInt = a) (hb : y.toInt = b) (h : ¬ lg_cmp x y = 0) : a ≠ b := cI_neq ha hb h
theorem cI_nne (ha : x.toInt = a) (hb : y.toInt = b) (h : lg_cmp x y = 0) : a = b := cI_eq ha hb h
theorem cI_lt (ha : x.toInt = a) (hb : y.toInt = b) (h : lg_cmp x y < 0) : a < b := by rw [← ha, ← hb]; exact (i64_lt x y).mp ((lg_cmp_lt x y).mp h)
theorem cI_nlt (ha : x.toInt = a) (hb : y.toInt = b) (h : ¬ lg_cmp x y < 0) : a ≥ b := by rw [← ha, ← hb]; exact Int.not_lt.mp (fun q => h ((lg_cmp_lt x y).mpr ((i64_lt x y).mpr q)))
theorem cI_ge (ha : x.toInt = a) (hb : y.toInt = b) (h : 0 ≤ lg_cmp x y) : a ≥ b := by rw [← ha, ← hb]; exact (i64_le y x).mp ((lg_cmp_ge x y).mp h)
theorem cI_nge (ha : x.toInt = a) (hb : y.toInt = b) (h : ¬ 0 ≤ lg_cmp x y) : a < b := by rw [← ha, ← hb]; exact Int.not_le.mp (fun q => h ((lg_cmp_ge x y).mpr ((i64_le y x).mpr q)))
theorem cI_gt (ha : x.toInt = a) (hb : y.toInt = b) (h : 0 < lg_cmp x y) : a > b := by rw [← ha, ← hb]; exact (i64_lt y x).mp ((lg_cmp_gt x y).mp h)
theorem cI_ngt (ha : x.toInt = a) (hb : y.toInt = b) (h : ¬ 0 < lg_cmp x y) : a ≤ b := by rw [← ha, ← hb]; exact Int.not_lt.mp (fun q => h ((lg_cmp_gt x y).mpr ((i64_lt y x).mpr q)))
theorem cI_le (ha : x.toInt = a) (hb : y.toInt = b) (h : lg_cmp x y ≤ 0) : a ≤ b := by rw [← ha, ← hb]; exact (i64_le x y).mp ((lg_cmp_le x y).mp h)
theorem cI_nle (ha : x.toInt = a) (hb : y.toInt = b) (h : ¬ lg_cmp x y ≤ 0) : a > b := by rw [← ha, ← hb]; exact Int.not_le.mp (fun q => h ((lg_cmp_le x y).mpr ((i64_le x y).mpr q)))
end NUML
theorem ix_of {i : Int32} {n : Nat} (h0 : 0 ≤ i.toInt) (h1 : i.toInt < n) : IX i i.toNatClampNeg n := by
  have e : (i.toNatClampNeg : Int) = i.toInt := by
    rw [Int32.toNatClampNeg]; exact Int.toNat_of_nonneg h0
  refine ⟨rfl, fun q => ?_, by omega⟩
  have := (i32_lt i 0).mp q
  have e2 : (0 : Int32).toInt = 0 := by decide
  omega
theorem i32_add {i j : Int32} {a b : Int} (ha : i.toInt = a) (hb : j.toInt = b) (h0 : -2147483648 ≤ a + b) (h1 : a + b < 2147483648) : (i + j).toInt = a + b := by
  rw [Int32.toInt_add, ha, hb]
  exact Int.bmod_eq_of_le (by simpa using h0) (by simpa using h1)
theorem ix_add {i j : Int32} {n : Nat} {a b : Int} (ha : i.toInt = a) (hb : j.toInt = b) (h0 : 0 ≤ a + b) (h1 : a + b < n) (hn : n < 2147483648) : IX (i + j) (i + j).toNatClampNeg n := by
  have e := i32_add ha hb (by omega) (by omega)
  exact ix_of (by rw [e]; exact h0) (by rw [e]; exact h1)
theorem cpy00 (a b n : Nat) : va_cpy (fun _ => (0 : Int32)) (fun _ => 0) a b n = (fun _ => 0) := by
  funext j
  by_cases h : b ≤ j ∧ j < b + n
  · exact pk_cpy_in h.1 h.2
  · exact pk_cpy_out (by omega)
end
section
abbrev ML_law : Mt := (yL_law, cL_law, 4, some .boolean)
abbrev MX8_init : Mt := (yX8_init, cX8_init, 1, none)
abbrev MX7_init : Mt := (yX7_init, cX7_init, 2, none)
abbrev MX5_init : Mt := (yX5_init, cX5_init, 2, none)
abbrev MX0_init : Mt := (yX0_init, cX0_init, 1, none)
abbrev MX4_init : Mt := (yX4_init, cX4_init, 1, none)
abbrev MX6_init : Mt := (yX6_init, cX6_init, 1, none)
abbrev MX2_init : Mt := (yX2_init, cX2_init, 1, none)
abbrev MX1_init : Mt := (yX1_init, cX1_init, 1, none)
abbrev MX9_init : Mt := (yX9_init, cX9_init, 1, none)
abbrev MX8_kind : Mt := (yX8_kind, cX8_kind, 4, some .int)
abbrev MX9_kind : Mt := (yX9_kind, cX9_kind, 3, some .int)
abbrev MX9_in : Mt := (yX9_in, cX9_in, 6, some .boolean)
abbrev MX8_fault : Mt := (yX8_fault, cX8_fault, 5, some .int)
abbrev MX8_isFault : Mt := (yX8_isFault, cX8_isFault, 2, some .boolean)
abbrev MX9_fault : Mt := (yX9_fault, cX9_fault, 3, some .int)
abbrev MX9_isFault : Mt := (yX9_isFault, cX9_isFault, 2, some .boolean)
abbrev MX8_look : Mt := (yX8_look, cX8_look, 2, some .int)
abbrev MX9_look : Mt := (yX9_look, cX9_look, 2, some .int)
theorem t_1 : Cond.initialized RX8 ∈ TBg := tb_of (List.mem_of_getElem? (i := 1) (by decide +kernel)) (by decide +kernel)
theorem t_2 : Cond.initialized RX5 ∈ TBg := tb_of (List.mem_of_getElem? (i := 2) (by decide +kernel)) (by decide +kernel)
theorem t_3 : Cond.initialized RX7 ∈ TBg := tb_of (List.mem_of_getElem? (i := 3) (by decide +kernel)) (by decide +kernel)
theorem t_4 : Cond.initialized RX0 ∈ TBg := tb_of (List.mem_of_getElem? (i := 4) (by decide +kernel)) (by decide +kernel)
theorem t_5 : Cond.initialized RX4 ∈ TBg := tb_of (List.mem_of_getElem? (i := 5) (by decide +kernel)) (by decide +kernel)
theorem t_6 : Cond.initialized RX6 ∈ TBg := tb_of (List.mem_of_getElem? (i := 6) (by decide +kernel)) (by decide +kernel)
theorem t_7 : Cond.initialized RX2 ∈ TBg := tb_of (List.mem_of_getElem? (i := 7) (by decide +kernel)) (by decide +kernel)
theorem t_8 : Cond.initialized RX1 ∈ TBg := tb_of (List.mem_of_getElem? (i := 8) (by decide +kernel)) (by decide +kernel)
theorem t_9 : Cond.initialized RX9 ∈ TBg := tb_of (List.mem_of_getElem? (i := 9) (by decide +kernel)) (by decide +kernel)
theorem t_19 : Cond.classLink RL 7 RX8 ∈ TBg := tb_of (List.mem_of_getElem? (i := 19) (by decide +kernel)) (by decide +kernel)
theorem t_20 : Cond.instantiable RX8 11 ∈ TBg := tb_of (List.mem_of_getElem? (i := 20) (by decide +kernel)) (by decide +kernel)
theorem t_21 : Cond.methodLink RL 9 yX8_init ∈ TBg := tb_of (List.mem_of_getElem? (i := 21) (by decide +kernel)) (by decide +kernel)
theorem t_22 : Cond.instanceMethod yX8_init ∈ TBg := tb_of (List.mem_of_getElem? (i := 22) (by decide +kernel)) (by decide +kernel)
theorem t_23 : cw MX8_init ∈ TBg := tb_of (List.mem_of_getElem? (i := 23) (by decide +kernel)) (by decide +kernel)
theorem t_24 : Cond.methodLink RX8 1 objectInit ∈ TBg := tb_of (List.mem_of_getElem? (i := 24) (by decide +kernel)) (by decide +kernel)
theorem t_25 : Cond.instanceMethod objectInit ∈ TBg := tb_of (List.mem_of_getElem? (i := 25) (by decide +kernel)) (by decide +kernel)
theorem t_26 : Cond.code objectInit ⟨#[0xb1]⟩ 1 none ∈ TBg := tb_of (List.mem_of_getElem? (i := 26) (by decide +kernel)) (by decide +kernel)
theorem t_27 : Cond.classLink RX8 17 RX3 ∈ TBg := tb_of (List.mem_of_getElem? (i := 27) (by decide +kernel)) (by decide +kernel)
theorem t_29 : Cond.classLink RX8 29 RX5 ∈ TBg := tb_of (List.mem_of_getElem? (i := 29) (by decide +kernel)) (by decide +kernel)
theorem t_30 : Cond.instantiable RX5 8 ∈ TBg := tb_of (List.mem_of_getElem? (i := 30) (by decide +kernel)) (by decide +kernel)
theorem t_31 : Cond.classLink RX8 31 RX7 ∈ TBg := tb_of (List.mem_of_getElem? (i := 31) (by decide +kernel)) (by decide +kernel)
theorem t_32 : Cond.instantiable RX7 18 ∈ TBg := tb_of (List.mem_of_getElem? (i := 32) (by decide +kernel)) (by decide +kernel)
theorem t_33 : Cond.methodLink RX8 33 yX7_init ∈ TBg := tb_of (List.mem_of_getElem? (i := 33) (by decide +kernel)) (by decide +kernel)
theorem t_34 : Cond.instanceMethod yX7_init ∈ TBg := tb_of (List.mem_of_getElem? (i := 34) (by decide +kernel)) (by decide +kernel)
theorem t_35 : cw MX7_init ∈ TBg := tb_of (List.mem_of_getElem? (i := 35) (by decide +kernel)) (by decide +kernel)
theorem t_36 : Cond.methodLink RX7 3 objectInit ∈ TBg := tb_of (List.mem_of_getElem? (i := 36) (by decide +kernel)) (by decide +kernel)
theorem t_37 : Cond.fieldLink RX7 9 "PaidMistakes$Work" "serial" "I" ∈ TBg := tb_of (List.mem_of_getElem? (i := 37) (by decide +kernel)) (by decide +kernel)
theorem t_43 : Cond.fieldLink RX8 123 "PaidMistakes$Work" "kinds" "I" ∈ TBg := tb_of (List.mem_of_getElem? (i := 43) (by decide +kernel)) (by decide +kernel)
theorem t_47 : Cond.fieldLink RX8 102 "PaidMistakes$Work" "faults" "I" ∈ TBg := tb_of (List.mem_of_getElem? (i := 47) (by decide +kernel)) (by decide +kernel)
theorem t_49 : Cond.fieldLink RX7 15 "PaidMistakes$Work" "kindPay" "[I" ∈ TBg := tb_of (List.mem_of_getElem? (i := 49) (by decide +kernel)) (by decide +kernel)
theorem t_51 : Cond.fieldLink RX7 19 "PaidMistakes$Work" "kindHide" "[I" ∈ TBg := tb_of (List.mem_of_getElem? (i := 51) (by decide +kernel)) (by decide +kernel)
theorem t_53 : Cond.fieldLink RX7 22 "PaidMistakes$Work" "kindMend" "[I" ∈ TBg := tb_of (List.mem_of_getElem? (i := 53) (by decide +kernel)) (by decide +kernel)
theorem t_55 : Cond.fieldLink RX7 25 "PaidMistakes$Work" "kindOf" "[I" ∈ TBg := tb_of (List.mem_of_getElem? (i := 55) (by decide +kernel)) (by decide +kernel)
theorem t_58 : Cond.fieldLink RX7 28 "PaidMistakes$Work" "minutes" "[I" ∈ TBg := tb_of (List.mem_of_getElem? (i := 58) (by decide +kernel)) (by decide +kernel)
theorem t_63 : Cond.fieldLink RX7 31 "PaidMistakes$Work" "odds" "[I" ∈ TBg := tb_of (List.mem_of_getElem? (i := 63) (by decide +kernel)) (by decide +kernel)
theorem t_68 : Cond.fieldLink RX7 34 "PaidMistakes$Work" "under" "[I" ∈ TBg := tb_of (List.mem_of_getElem? (i := 68) (by decide +kernel)) (by decide +kernel)
theorem t_70 : Cond.fieldLink RX7 37 "PaidMistakes$Work" "pay" "[I" ∈ TBg := tb_of (List.mem_of_getElem? (i := 70) (by decide +kernel)) (by decide +kernel)
theorem t_75 : Cond.fieldLink RX7 40 "PaidMistakes$Work" "hide" "[I" ∈ TBg := tb_of (List.mem_of_getElem? (i := 75) (by decide +kernel)) (by decide +kernel)
theorem t_76 : Cond.fieldLink RX7 43 "PaidMistakes$Work" "mend" "[I" ∈ TBg := tb_of (List.mem_of_getElem? (i := 76) (by decide +kernel)) (by decide +kernel)
theorem t_78 : Cond.fieldLink RX7 46 "PaidMistakes$Work" "oneLook" "[I" ∈ TBg := tb_of (List.mem_of_getElem? (i := 78) (by decide +kernel)) (by decide +kernel)
theorem t_79 : Cond.fieldLink RX7 49 "PaidMistakes$Work" "byOneLook" "[I" ∈ TBg := tb_of (List.mem_of_getElem? (i := 79) (by decide +kernel)) (by decide +kernel)
theorem t_82 : Cond.laysFinal RX7 "PaidMistakes$Work" "serial" "I" ∈ TBg := tb_of (List.mem_of_getElem? (i := 82) (by decide +kernel)) (by decide +kernel)
theorem t_84 : Cond.lays RX7 "PaidMistakes$Work" "time" "I" ∈ TBg := tb_of (List.mem_of_getElem? (i := 84) (by decide +kernel)) (by decide +kernel)
theorem t_86 : Cond.lays RX7 "PaidMistakes$Work" "kinds" "I" ∈ TBg := tb_of (List.mem_of_getElem? (i := 86) (by decide +kernel)) (by decide +kernel)
theorem t_88 : Cond.lays RX7 "PaidMistakes$Work" "faults" "I" ∈ TBg := tb_of (List.mem_of_getElem? (i := 88) (by decide +kernel)) (by decide +kernel)
theorem t_90 : Cond.lays RX7 "PaidMistakes$Work" "timeTold" "Z" ∈ TBg := tb_of (List.mem_of_getElem? (i := 90) (by decide +kernel)) (by decide +kernel)
theorem t_92 : Cond.laysFinal RX7 "PaidMistakes$Work" "kindPay" "[I" ∈ TBg := tb_of (List.mem_of_getElem? (i := 92) (by decide +kernel)) (by decide +kernel)
theorem t_94 : Cond.laysFinal RX7 "PaidMistakes$Work" "kindHide" "[I" ∈ TBg := tb_of (List.mem_of_getElem? (i := 94) (by decide +kernel)) (by decide +kernel)
theorem t_96 : Cond.laysFinal RX7 "PaidMistakes$Work" "kindMend" "[I" ∈ TBg := tb_of (List.mem_of_getElem? (i := 96) (by decide +kernel)) (by decide +kernel)
theorem t_98 : Cond.laysFinal RX7 "PaidMistakes$Work" "kindOf" "[I" ∈ TBg := tb_of (List.mem_of_getElem? (i := 98) (by decide +kernel)) (by decide +kernel)
theorem t_100 : Cond.laysFinal RX7 "PaidMistakes$Work" "minutes" "[I" ∈ TBg := tb_of (List.mem_of_getElem? (i := 100) (by decide +kernel)) (by decide +kernel)
theorem t_102 : Cond.laysFinal RX7 "PaidMistakes$Work" "odds" "[I" ∈ TBg := tb_of (List.mem_of_getElem? (i := 102) (by decide +kernel)) (by decide +kernel)
theorem t_104 : Cond.laysFinal RX7 "PaidMistakes$Work" "under" "[I" ∈ TBg := tb_of (List.mem_of_getElem? (i := 104) (by decide +kernel)) (by decide +kernel)
theorem t_106 : Cond.laysFinal RX7 "PaidMistakes$Work" "pay" "[I" ∈ TBg := tb_of (List.mem_of_getElem? (i := 106) (by decide +kernel)) (by decide +kernel)
theorem t_108 : Cond.laysFinal RX7 "PaidMistakes$Work" "hide" "[I" ∈ TBg := tb_of (List.mem_of_getElem? (i := 108) (by decide +kernel)) (by decide +kernel)
theorem t_110 : Cond.laysFinal RX7 "PaidMistakes$Work" "mend" "[I" ∈ TBg := tb_of (List.mem_of_getElem? (i := 110) (by decide +kernel)) (by decide +kernel)
theorem t_112 : Cond.laysFinal RX7 "PaidMistakes$Work" "oneLook" "[I" ∈ TBg := tb_of (List.mem_of_getElem? (i := 112) (by decide +kernel)) (by decide +kernel)
theorem t_114 : Cond.laysFinal RX7 "PaidMistakes$Work" "byOneLook" "[I" ∈ TBg := tb_of (List.mem_of_getElem? (i := 114) (by decide +kernel)) (by decide +kernel)
theorem t_116 : Cond.lays RX7 "PaidMistakes$Work" "longest" "I" ∈ TBg := tb_of (List.mem_of_getElem? (i := 116) (by decide +kernel)) (by decide +kernel)
theorem t_119 : Cond.arrayClass .int ∈ TBg := tb_of (List.mem_of_getElem? (i := 119) (by decide +kernel)) (by decide +kernel)
theorem t_120 : Cond.methodLink RX8 36 yX5_init ∈ TBg := tb_of (List.mem_of_getElem? (i := 120) (by decide +kernel)) (by decide +kernel)
theorem t_121 : Cond.instanceMethod yX5_init ∈ TBg := tb_of (List.mem_of_getElem? (i := 121) (by decide +kernel)) (by decide +kernel)
theorem t_122 : cw MX5_init ∈ TBg := tb_of (List.mem_of_getElem? (i := 122) (by decide +kernel)) (by decide +kernel)
theorem t_123 : Cond.methodLink RX5 3 objectInit ∈ TBg := tb_of (List.mem_of_getElem? (i := 123) (by decide +kernel)) (by decide +kernel)
theorem t_124 : Cond.classLink RX5 15 RX0 ∈ TBg := tb_of (List.mem_of_getElem? (i := 124) (by decide +kernel)) (by decide +kernel)
theorem t_125 : Cond.instantiable RX0 6 ∈ TBg := tb_of (List.mem_of_getElem? (i := 125) (by decide +kernel)) (by decide +kernel)
theorem t_126 : Cond.methodLink RX5 17 yX0_init ∈ TBg := tb_of (List.mem_of_getElem? (i := 126) (by decide +kernel)) (by decide +kernel)
theorem t_127 : Cond.instanceMethod yX0_init ∈ TBg := tb_of (List.mem_of_getElem? (i := 127) (by decide +kernel)) (by decide +kernel)
theorem t_128 : cw MX0_init ∈ TBg := tb_of (List.mem_of_getElem? (i := 128) (by decide +kernel)) (by decide +kernel)
theorem t_129 : Cond.methodLink RX0 3 objectInit ∈ TBg := tb_of (List.mem_of_getElem? (i := 129) (by decide +kernel)) (by decide +kernel)
theorem t_144 : Cond.fieldLink RX0 9 "PaidMistakes$Day" "tries" "[I" ∈ TBg := tb_of (List.mem_of_getElem? (i := 144) (by decide +kernel)) (by decide +kernel)
theorem t_147 : Cond.lays RX0 "PaidMistakes$Day" "left" "I" ∈ TBg := tb_of (List.mem_of_getElem? (i := 147) (by decide +kernel)) (by decide +kernel)
theorem t_149 : Cond.lays RX0 "PaidMistakes$Day" "earned" "I" ∈ TBg := tb_of (List.mem_of_getElem? (i := 149) (by decide +kernel)) (by decide +kernel)
theorem t_151 : Cond.lays RX0 "PaidMistakes$Day" "found" "I" ∈ TBg := tb_of (List.mem_of_getElem? (i := 151) (by decide +kernel)) (by decide +kernel)
theorem t_153 : Cond.lays RX0 "PaidMistakes$Day" "mended" "I" ∈ TBg := tb_of (List.mem_of_getElem? (i := 153) (by decide +kernel)) (by decide +kernel)
theorem t_155 : Cond.lays RX0 "PaidMistakes$Day" "x" "I" ∈ TBg := tb_of (List.mem_of_getElem? (i := 155) (by decide +kernel)) (by decide +kernel)
theorem t_157 : Cond.laysFinal RX0 "PaidMistakes$Day" "tries" "[I" ∈ TBg := tb_of (List.mem_of_getElem? (i := 157) (by decide +kernel)) (by decide +kernel)
theorem t_160 : Cond.fieldLink RX5 9 "PaidMistakes$State" "work" "LPaidMistakes$Work;" ∈ TBg := tb_of (List.mem_of_getElem? (i := 160) (by decide +kernel)) (by decide +kernel)
theorem t_161 : Cond.fieldLink RX8 119 "PaidMistakes$State" "work" "LPaidMistakes$Work;" ∈ TBg := tb_of (List.mem_of_getElem? (i := 161) (by decide +kernel)) (by decide +kernel)
theorem t_162 : Cond.fieldLink RX5 18 "PaidMistakes$State" "today" "LPaidMistakes$Day;" ∈ TBg := tb_of (List.mem_of_getElem? (i := 162) (by decide +kernel)) (by decide +kernel)
theorem t_170 : Cond.fieldLink RX5 22 "PaidMistakes$State" "row" "[I" ∈ TBg := tb_of (List.mem_of_getElem? (i := 170) (by decide +kernel)) (by decide +kernel)
theorem t_174 : Cond.fieldLink RX5 26 "PaidMistakes$State" "game" "[I" ∈ TBg := tb_of (List.mem_of_getElem? (i := 174) (by decide +kernel)) (by decide +kernel)
theorem t_176 : Cond.lays RX5 "PaidMistakes$State" "work" "LPaidMistakes$Work;" ∈ TBg := tb_of (List.mem_of_getElem? (i := 176) (by decide +kernel)) (by decide +kernel)
theorem t_178 : Cond.laysFinal RX5 "PaidMistakes$State" "today" "LPaidMistakes$Day;" ∈ TBg := tb_of (List.mem_of_getElem? (i := 178) (by decide +kernel)) (by decide +kernel)
theorem t_180 : Cond.lays RX5 "PaidMistakes$State" "masterCoins" "I" ∈ TBg := tb_of (List.mem_of_getElem? (i := 180) (by decide +kernel)) (by decide +kernel)
theorem t_182 : Cond.lays RX5 "PaidMistakes$State" "earnedBefore" "I" ∈ TBg := tb_of (List.mem_of_getElem? (i := 182) (by decide +kernel)) (by decide +kernel)
theorem t_184 : Cond.lays RX5 "PaidMistakes$State" "days" "I" ∈ TBg := tb_of (List.mem_of_getElem? (i := 184) (by decide +kernel)) (by decide +kernel)
theorem t_186 : Cond.laysFinal RX5 "PaidMistakes$State" "row" "[I" ∈ TBg := tb_of (List.mem_of_getElem? (i := 186) (by decide +kernel)) (by decide +kernel)
theorem t_188 : Cond.lays RX5 "PaidMistakes$State" "rowLength" "I" ∈ TBg := tb_of (List.mem_of_getElem? (i := 188) (by decide +kernel)) (by decide +kernel)
theorem t_190 : Cond.laysFinal RX5 "PaidMistakes$State" "game" "[I" ∈ TBg := tb_of (List.mem_of_getElem? (i := 190) (by decide +kernel)) (by decide +kernel)
theorem t_194 : Cond.classLink RX8 47 RX0 ∈ TBg := tb_of (List.mem_of_getElem? (i := 194) (by decide +kernel)) (by decide +kernel)
theorem t_195 : Cond.methodLink RX8 49 yX0_init ∈ TBg := tb_of (List.mem_of_getElem? (i := 195) (by decide +kernel)) (by decide +kernel)
theorem t_196 : Cond.classLink RX8 54 RX4 ∈ TBg := tb_of (List.mem_of_getElem? (i := 196) (by decide +kernel)) (by decide +kernel)
theorem t_197 : Cond.instantiable RX4 8 ∈ TBg := tb_of (List.mem_of_getElem? (i := 197) (by decide +kernel)) (by decide +kernel)
theorem t_198 : Cond.methodLink RX8 56 yX4_init ∈ TBg := tb_of (List.mem_of_getElem? (i := 198) (by decide +kernel)) (by decide +kernel)
theorem t_199 : Cond.instanceMethod yX4_init ∈ TBg := tb_of (List.mem_of_getElem? (i := 199) (by decide +kernel)) (by decide +kernel)
theorem t_200 : cw MX4_init ∈ TBg := tb_of (List.mem_of_getElem? (i := 200) (by decide +kernel)) (by decide +kernel)
theorem t_201 : Cond.methodLink RX4 3 objectInit ∈ TBg := tb_of (List.mem_of_getElem? (i := 201) (by decide +kernel)) (by decide +kernel)
theorem t_202 : Cond.classLink RX4 9 RX6 ∈ TBg := tb_of (List.mem_of_getElem? (i := 202) (by decide +kernel)) (by decide +kernel)
theorem t_203 : Cond.instantiable RX6 9 ∈ TBg := tb_of (List.mem_of_getElem? (i := 203) (by decide +kernel)) (by decide +kernel)
theorem t_204 : Cond.methodLink RX4 11 yX6_init ∈ TBg := tb_of (List.mem_of_getElem? (i := 204) (by decide +kernel)) (by decide +kernel)
theorem t_205 : Cond.instanceMethod yX6_init ∈ TBg := tb_of (List.mem_of_getElem? (i := 205) (by decide +kernel)) (by decide +kernel)
theorem t_206 : cw MX6_init ∈ TBg := tb_of (List.mem_of_getElem? (i := 206) (by decide +kernel)) (by decide +kernel)
theorem t_207 : Cond.methodLink RX6 3 objectInit ∈ TBg := tb_of (List.mem_of_getElem? (i := 207) (by decide +kernel)) (by decide +kernel)
theorem t_208 : Cond.fieldLink RX6 9 "PaidMistakes$Text" "codes" "[I" ∈ TBg := tb_of (List.mem_of_getElem? (i := 208) (by decide +kernel)) (by decide +kernel)
theorem t_209 : Cond.fieldLink RX6 15 "PaidMistakes$Text" "places" "[I" ∈ TBg := tb_of (List.mem_of_getElem? (i := 209) (by decide +kernel)) (by decide +kernel)
theorem t_210 : Cond.fieldLink RX6 18 "PaidMistakes$Text" "numbers" "[I" ∈ TBg := tb_of (List.mem_of_getElem? (i := 210) (by decide +kernel)) (by decide +kernel)
theorem t_223 : Cond.laysFinal RX6 "PaidMistakes$Text" "codes" "[I" ∈ TBg := tb_of (List.mem_of_getElem? (i := 223) (by decide +kernel)) (by decide +kernel)
theorem t_225 : Cond.laysFinal RX6 "PaidMistakes$Text" "places" "[I" ∈ TBg := tb_of (List.mem_of_getElem? (i := 225) (by decide +kernel)) (by decide +kernel)
theorem t_227 : Cond.laysFinal RX6 "PaidMistakes$Text" "numbers" "[I" ∈ TBg := tb_of (List.mem_of_getElem? (i := 227) (by decide +kernel)) (by decide +kernel)
theorem t_229 : Cond.lays RX6 "PaidMistakes$Text" "tokens" "I" ∈ TBg := tb_of (List.mem_of_getElem? (i := 229) (by decide +kernel)) (by decide +kernel)
theorem t_231 : Cond.lays RX6 "PaidMistakes$Text" "next" "I" ∈ TBg := tb_of (List.mem_of_getElem? (i := 231) (by decide +kernel)) (by decide +kernel)
theorem t_233 : Cond.lays RX6 "PaidMistakes$Text" "code" "I" ∈ TBg := tb_of (List.mem_of_getElem? (i := 233) (by decide +kernel)) (by decide +kernel)
theorem t_235 : Cond.lays RX6 "PaidMistakes$Text" "place" "I" ∈ TBg := tb_of (List.mem_of_getElem? (i := 235) (by decide +kernel)) (by decide +kernel)
theorem t_237 : Cond.lays RX6 "PaidMistakes$Text" "number" "I" ∈ TBg := tb_of (List.mem_of_getElem? (i := 237) (by decide +kernel)) (by decide +kernel)
theorem t_239 : Cond.lays RX6 "PaidMistakes$Text" "fault" "I" ∈ TBg := tb_of (List.mem_of_getElem? (i := 239) (by decide +kernel)) (by decide +kernel)
theorem t_242 : Cond.fieldLink RX4 12 "PaidMistakes$RuleReader" "text" "LPaidMistakes$Text;" ∈ TBg := tb_of (List.mem_of_getElem? (i := 242) (by decide +kernel)) (by decide +kernel)
theorem t_244 : Cond.fieldLink RX4 18 "PaidMistakes$RuleReader" "code" "[I" ∈ TBg := tb_of (List.mem_of_getElem? (i := 244) (by decide +kernel)) (by decide +kernel)
theorem t_248 : Cond.fieldLink RX4 22 "PaidMistakes$RuleReader" "begin" "[I" ∈ TBg := tb_of (List.mem_of_getElem? (i := 248) (by decide +kernel)) (by decide +kernel)
theorem t_249 : Cond.fieldLink RX4 25 "PaidMistakes$RuleReader" "middle" "[I" ∈ TBg := tb_of (List.mem_of_getElem? (i := 249) (by decide +kernel)) (by decide +kernel)
theorem t_250 : Cond.fieldLink RX4 28 "PaidMistakes$RuleReader" "finish" "[I" ∈ TBg := tb_of (List.mem_of_getElem? (i := 250) (by decide +kernel)) (by decide +kernel)
theorem t_251 : Cond.laysFinal RX4 "PaidMistakes$RuleReader" "text" "LPaidMistakes$Text;" ∈ TBg := tb_of (List.mem_of_getElem? (i := 251) (by decide +kernel)) (by decide +kernel)
theorem t_253 : Cond.laysFinal RX4 "PaidMistakes$RuleReader" "code" "[I" ∈ TBg := tb_of (List.mem_of_getElem? (i := 253) (by decide +kernel)) (by decide +kernel)
theorem t_255 : Cond.lays RX4 "PaidMistakes$RuleReader" "length" "I" ∈ TBg := tb_of (List.mem_of_getElem? (i := 255) (by decide +kernel)) (by decide +kernel)
theorem t_257 : Cond.lays RX4 "PaidMistakes$RuleReader" "pieces" "I" ∈ TBg := tb_of (List.mem_of_getElem? (i := 257) (by decide +kernel)) (by decide +kernel)
theorem t_259 : Cond.lays RX4 "PaidMistakes$RuleReader" "clauses" "I" ∈ TBg := tb_of (List.mem_of_getElem? (i := 259) (by decide +kernel)) (by decide +kernel)
theorem t_261 : Cond.laysFinal RX4 "PaidMistakes$RuleReader" "begin" "[I" ∈ TBg := tb_of (List.mem_of_getElem? (i := 261) (by decide +kernel)) (by decide +kernel)
theorem t_263 : Cond.laysFinal RX4 "PaidMistakes$RuleReader" "middle" "[I" ∈ TBg := tb_of (List.mem_of_getElem? (i := 263) (by decide +kernel)) (by decide +kernel)
theorem t_265 : Cond.laysFinal RX4 "PaidMistakes$RuleReader" "finish" "[I" ∈ TBg := tb_of (List.mem_of_getElem? (i := 265) (by decide +kernel)) (by decide +kernel)
theorem t_268 : Cond.classLink RX8 61 RX2 ∈ TBg := tb_of (List.mem_of_getElem? (i := 268) (by decide +kernel)) (by decide +kernel)
theorem t_269 : Cond.instantiable RX2 1 ∈ TBg := tb_of (List.mem_of_getElem? (i := 269) (by decide +kernel)) (by decide +kernel)
theorem t_270 : Cond.methodLink RX8 63 yX2_init ∈ TBg := tb_of (List.mem_of_getElem? (i := 270) (by decide +kernel)) (by decide +kernel)
theorem t_271 : Cond.instanceMethod yX2_init ∈ TBg := tb_of (List.mem_of_getElem? (i := 271) (by decide +kernel)) (by decide +kernel)
theorem t_272 : cw MX2_init ∈ TBg := tb_of (List.mem_of_getElem? (i := 272) (by decide +kernel)) (by decide +kernel)
theorem t_273 : Cond.methodLink RX2 3 objectInit ∈ TBg := tb_of (List.mem_of_getElem? (i := 273) (by decide +kernel)) (by decide +kernel)
theorem t_274 : Cond.fieldLink RX2 9 "PaidMistakes$Player" "stack" "[J" ∈ TBg := tb_of (List.mem_of_getElem? (i := 274) (by decide +kernel)) (by decide +kernel)
theorem t_275 : Cond.laysFinal RX2 "PaidMistakes$Player" "stack" "[J" ∈ TBg := tb_of (List.mem_of_getElem? (i := 275) (by decide +kernel)) (by decide +kernel)
theorem t_278 : Cond.arrayClass .long ∈ TBg := tb_of (List.mem_of_getElem? (i := 278) (by decide +kernel)) (by decide +kernel)
theorem t_279 : Cond.classLink RX8 68 RX1 ∈ TBg := tb_of (List.mem_of_getElem? (i := 279) (by decide +kernel)) (by decide +kernel)
theorem t_280 : Cond.instantiable RX1 4 ∈ TBg := tb_of (List.mem_of_getElem? (i := 280) (by decide +kernel)) (by decide +kernel)
theorem t_281 : Cond.methodLink RX8 70 yX1_init ∈ TBg := tb_of (List.mem_of_getElem? (i := 281) (by decide +kernel)) (by decide +kernel)
theorem t_282 : Cond.instanceMethod yX1_init ∈ TBg := tb_of (List.mem_of_getElem? (i := 282) (by decide +kernel)) (by decide +kernel)
theorem t_283 : cw MX1_init ∈ TBg := tb_of (List.mem_of_getElem? (i := 283) (by decide +kernel)) (by decide +kernel)
theorem t_284 : Cond.methodLink RX1 3 objectInit ∈ TBg := tb_of (List.mem_of_getElem? (i := 284) (by decide +kernel)) (by decide +kernel)
theorem t_285 : Cond.fieldLink RX1 11 "PaidMistakes$Planner" "keys" "[J" ∈ TBg := tb_of (List.mem_of_getElem? (i := 285) (by decide +kernel)) (by decide +kernel)
theorem t_286 : Cond.fieldLink RX1 15 "PaidMistakes$Planner" "kept" "[J" ∈ TBg := tb_of (List.mem_of_getElem? (i := 286) (by decide +kernel)) (by decide +kernel)
theorem t_291 : Cond.laysFinal RX1 "PaidMistakes$Planner" "keys" "[J" ∈ TBg := tb_of (List.mem_of_getElem? (i := 291) (by decide +kernel)) (by decide +kernel)
theorem t_293 : Cond.laysFinal RX1 "PaidMistakes$Planner" "kept" "[J" ∈ TBg := tb_of (List.mem_of_getElem? (i := 293) (by decide +kernel)) (by decide +kernel)
theorem t_295 : Cond.lays RX1 "PaidMistakes$Planner" "setToMend" "I" ∈ TBg := tb_of (List.mem_of_getElem? (i := 295) (by decide +kernel)) (by decide +kernel)
theorem t_297 : Cond.lays RX1 "PaidMistakes$Planner" "meanOfSet" "J" ∈ TBg := tb_of (List.mem_of_getElem? (i := 297) (by decide +kernel)) (by decide +kernel)
theorem t_300 : Cond.fieldLink RX8 9 "PaidMistakes" "tape" "[I" ∈ TBg := tb_of (List.mem_of_getElem? (i := 300) (by decide +kernel)) (by decide +kernel)
theorem t_301 : Cond.fieldLink RX8 13 "PaidMistakes" "tapeLength" "I" ∈ TBg := tb_of (List.mem_of_getElem? (i := 301) (by decide +kernel)) (by decide +kernel)
theorem t_302 : Cond.fieldLink RX8 19 "PaidMistakes" "rules" "[LPaidMistakes$Rule;" ∈ TBg := tb_of (List.mem_of_getElem? (i := 302) (by decide +kernel)) (by decide +kernel)
theorem t_303 : Cond.fieldLink RX8 23 "PaidMistakes" "ruleCount" "I" ∈ TBg := tb_of (List.mem_of_getElem? (i := 303) (by decide +kernel)) (by decide +kernel)
theorem t_304 : Cond.fieldLink RX8 26 "PaidMistakes" "worksTold" "I" ∈ TBg := tb_of (List.mem_of_getElem? (i := 304) (by decide +kernel)) (by decide +kernel)
theorem t_305 : Cond.fieldLink RX8 39 "PaidMistakes" "now" "LPaidMistakes$State;" ∈ TBg := tb_of (List.mem_of_getElem? (i := 305) (by decide +kernel)) (by decide +kernel)
theorem t_306 : Cond.fieldLink RX8 43 "PaidMistakes" "images" "[LPaidMistakes$State;" ∈ TBg := tb_of (List.mem_of_getElem? (i := 306) (by decide +kernel)) (by decide +kernel)
theorem t_307 : Cond.fieldLink RX8 50 "PaidMistakes" "trial" "LPaidMistakes$Day;" ∈ TBg := tb_of (List.mem_of_getElem? (i := 307) (by decide +kernel)) (by decide +kernel)
theorem t_308 : Cond.fieldLink RX8 57 "PaidMistakes" "ruleReader" "LPaidMistakes$RuleReader;" ∈ TBg := tb_of (List.mem_of_getElem? (i := 308) (by decide +kernel)) (by decide +kernel)
theorem t_309 : Cond.fieldLink RX8 64 "PaidMistakes" "player" "LPaidMistakes$Player;" ∈ TBg := tb_of (List.mem_of_getElem? (i := 309) (by decide +kernel)) (by decide +kernel)
theorem t_310 : Cond.fieldLink RX8 71 "PaidMistakes" "planner" "LPaidMistakes$Planner;" ∈ TBg := tb_of (List.mem_of_getElem? (i := 310) (by decide +kernel)) (by decide +kernel)
theorem t_311 : Cond.laysFinal RX8 "PaidMistakes" "tape" "[I" ∈ TBg := tb_of (List.mem_of_getElem? (i := 311) (by decide +kernel)) (by decide +kernel)
theorem t_313 : Cond.lays RX8 "PaidMistakes" "tapeLength" "I" ∈ TBg := tb_of (List.mem_of_getElem? (i := 313) (by decide +kernel)) (by decide +kernel)
theorem t_315 : Cond.laysFinal RX8 "PaidMistakes" "rules" "[LPaidMistakes$Rule;" ∈ TBg := tb_of (List.mem_of_getElem? (i := 315) (by decide +kernel)) (by decide +kernel)
theorem t_317 : Cond.lays RX8 "PaidMistakes" "ruleCount" "I" ∈ TBg := tb_of (List.mem_of_getElem? (i := 317) (by decide +kernel)) (by decide +kernel)
theorem t_319 : Cond.lays RX8 "PaidMistakes" "worksTold" "I" ∈ TBg := tb_of (List.mem_of_getElem? (i := 319) (by decide +kernel)) (by decide +kernel)
theorem t_321 : Cond.laysFinal RX8 "PaidMistakes" "now" "LPaidMistakes$State;" ∈ TBg := tb_of (List.mem_of_getElem? (i := 321) (by decide +kernel)) (by decide +kernel)
theorem t_323 : Cond.laysFinal RX8 "PaidMistakes" "images" "[LPaidMistakes$State;" ∈ TBg := tb_of (List.mem_of_getElem? (i := 323) (by decide +kernel)) (by decide +kernel)
theorem t_325 : Cond.laysFinal RX8 "PaidMistakes" "trial" "LPaidMistakes$Day;" ∈ TBg := tb_of (List.mem_of_getElem? (i := 325) (by decide +kernel)) (by decide +kernel)
theorem t_327 : Cond.laysFinal RX8 "PaidMistakes" "ruleReader" "LPaidMistakes$RuleReader;" ∈ TBg := tb_of (List.mem_of_getElem? (i := 327) (by decide +kernel)) (by decide +kernel)
theorem t_329 : Cond.laysFinal RX8 "PaidMistakes" "player" "LPaidMistakes$Player;" ∈ TBg := tb_of (List.mem_of_getElem? (i := 329) (by decide +kernel)) (by decide +kernel)
theorem t_331 : Cond.laysFinal RX8 "PaidMistakes" "planner" "LPaidMistakes$Planner;" ∈ TBg := tb_of (List.mem_of_getElem? (i := 331) (by decide +kernel)) (by decide +kernel)
theorem t_510 : Cond.arrayClass .byte ∈ TBg := tb_of (List.mem_of_getElem? (i := 510) (by decide +kernel)) (by decide +kernel)
theorem t_591 : Cond.laysFinal RX3 "PaidMistakes$Rule" "code" "[I" ∈ TBg := tb_of (List.mem_of_getElem? (i := 591) (by decide +kernel)) (by decide +kernel)
theorem t_593 : Cond.laysFinal RX3 "PaidMistakes$Rule" "clauses" "I" ∈ TBg := tb_of (List.mem_of_getElem? (i := 593) (by decide +kernel)) (by decide +kernel)
theorem t_595 : Cond.laysFinal RX3 "PaidMistakes$Rule" "begin" "[I" ∈ TBg := tb_of (List.mem_of_getElem? (i := 595) (by decide +kernel)) (by decide +kernel)
theorem t_597 : Cond.laysFinal RX3 "PaidMistakes$Rule" "middle" "[I" ∈ TBg := tb_of (List.mem_of_getElem? (i := 597) (by decide +kernel)) (by decide +kernel)
theorem t_599 : Cond.laysFinal RX3 "PaidMistakes$Rule" "finish" "[I" ∈ TBg := tb_of (List.mem_of_getElem? (i := 599) (by decide +kernel)) (by decide +kernel)
theorem t_602 : Cond.methodLink RL 32 yX8_kind ∈ TBg := tb_of (List.mem_of_getElem? (i := 602) (by decide +kernel)) (by decide +kernel)
theorem t_603 : Cond.instanceMethod yX8_kind ∈ TBg := tb_of (List.mem_of_getElem? (i := 603) (by decide +kernel)) (by decide +kernel)
theorem t_604 : Cond.selects RX8 yX8_kind yX8_kind ∈ TBg := tb_of (List.mem_of_getElem? (i := 604) (by decide +kernel)) (by decide +kernel)
theorem t_605 : cw MX8_kind ∈ TBg := tb_of (List.mem_of_getElem? (i := 605) (by decide +kernel)) (by decide +kernel)
theorem t_607 : Cond.methodLink RL 37 yX8_fault ∈ TBg := tb_of (List.mem_of_getElem? (i := 607) (by decide +kernel)) (by decide +kernel)
theorem t_608 : Cond.instanceMethod yX8_fault ∈ TBg := tb_of (List.mem_of_getElem? (i := 608) (by decide +kernel)) (by decide +kernel)
theorem t_609 : Cond.selects RX8 yX8_fault yX8_fault ∈ TBg := tb_of (List.mem_of_getElem? (i := 609) (by decide +kernel)) (by decide +kernel)
theorem t_610 : cw MX8_fault ∈ TBg := tb_of (List.mem_of_getElem? (i := 610) (by decide +kernel)) (by decide +kernel)
theorem t_611 : Cond.methodLink RX8 139 yX8_isFault ∈ TBg := tb_of (List.mem_of_getElem? (i := 611) (by decide +kernel)) (by decide +kernel)
theorem t_613 : Cond.instanceMethod yX8_isFault ∈ TBg := tb_of (List.mem_of_getElem? (i := 613) (by decide +kernel)) (by decide +kernel)
theorem t_614 : cw MX8_isFault ∈ TBg := tb_of (List.mem_of_getElem? (i := 614) (by decide +kernel)) (by decide +kernel)
theorem t_641 : Cond.methodLink RL 41 yX8_look ∈ TBg := tb_of (List.mem_of_getElem? (i := 641) (by decide +kernel)) (by decide +kernel)
theorem t_642 : Cond.instanceMethod yX8_look ∈ TBg := tb_of (List.mem_of_getElem? (i := 642) (by decide +kernel)) (by decide +kernel)
theorem t_643 : Cond.selects RX8 yX8_look yX8_look ∈ TBg := tb_of (List.mem_of_getElem? (i := 643) (by decide +kernel)) (by decide +kernel)
theorem t_644 : cw MX8_look ∈ TBg := tb_of (List.mem_of_getElem? (i := 644) (by decide +kernel)) (by decide +kernel)
theorem t_876 : Cond.classLink RL 10 RX9 ∈ TBg := tb_of (List.mem_of_getElem? (i := 876) (by decide +kernel)) (by decide +kernel)
theorem t_877 : Cond.instantiable RX9 36 ∈ TBg := tb_of (List.mem_of_getElem? (i := 877) (by decide +kernel)) (by decide +kernel)
theorem t_878 : Cond.methodLink RL 12 yX9_init ∈ TBg := tb_of (List.mem_of_getElem? (i := 878) (by decide +kernel)) (by decide +kernel)
theorem t_879 : Cond.instanceMethod yX9_init ∈ TBg := tb_of (List.mem_of_getElem? (i := 879) (by decide +kernel)) (by decide +kernel)
theorem t_880 : cw MX9_init ∈ TBg := tb_of (List.mem_of_getElem? (i := 880) (by decide +kernel)) (by decide +kernel)
theorem t_881 : Cond.methodLink RX9 1 objectInit ∈ TBg := tb_of (List.mem_of_getElem? (i := 881) (by decide +kernel)) (by decide +kernel)
theorem t_882 : Cond.fieldLink RX9 7 "PaidMistakesModel" "tape" "[B" ∈ TBg := tb_of (List.mem_of_getElem? (i := 882) (by decide +kernel)) (by decide +kernel)
theorem t_885 : Cond.fieldLink RX9 13 "PaidMistakesModel" "sign" "[I" ∈ TBg := tb_of (List.mem_of_getElem? (i := 885) (by decide +kernel)) (by decide +kernel)
theorem t_886 : Cond.fieldLink RX9 17 "PaidMistakesModel" "length" "[I" ∈ TBg := tb_of (List.mem_of_getElem? (i := 886) (by decide +kernel)) (by decide +kernel)
theorem t_887 : Cond.fieldLink RX9 20 "PaidMistakesModel" "clause" "[I" ∈ TBg := tb_of (List.mem_of_getElem? (i := 887) (by decide +kernel)) (by decide +kernel)
theorem t_888 : Cond.fieldLink RX9 23 "PaidMistakesModel" "clauses" "[I" ∈ TBg := tb_of (List.mem_of_getElem? (i := 888) (by decide +kernel)) (by decide +kernel)
theorem t_892 : Cond.fieldLink RX9 26 "PaidMistakesModel" "kindRead" "[I" ∈ TBg := tb_of (List.mem_of_getElem? (i := 892) (by decide +kernel)) (by decide +kernel)
theorem t_893 : Cond.fieldLink RX9 29 "PaidMistakesModel" "faultRead" "[I" ∈ TBg := tb_of (List.mem_of_getElem? (i := 893) (by decide +kernel)) (by decide +kernel)
theorem t_901 : Cond.fieldLink RX9 32 "PaidMistakesModel" "open" "[I" ∈ TBg := tb_of (List.mem_of_getElem? (i := 901) (by decide +kernel)) (by decide +kernel)
theorem t_903 : Cond.fieldLink RX9 35 "PaidMistakesModel" "stack" "[J" ∈ TBg := tb_of (List.mem_of_getElem? (i := 903) (by decide +kernel)) (by decide +kernel)
theorem t_905 : Cond.fieldLink RX9 39 "PaidMistakesModel" "word" "[J" ∈ TBg := tb_of (List.mem_of_getElem? (i := 905) (by decide +kernel)) (by decide +kernel)
theorem t_906 : Cond.fieldLink RX9 42 "PaidMistakesModel" "said" "[I" ∈ TBg := tb_of (List.mem_of_getElem? (i := 906) (by decide +kernel)) (by decide +kernel)
theorem t_907 : Cond.fieldLink RX9 45 "PaidMistakesModel" "kept" "[I" ∈ TBg := tb_of (List.mem_of_getElem? (i := 907) (by decide +kernel)) (by decide +kernel)
theorem t_908 : Cond.fieldLink RX9 48 "PaidMistakesModel" "triedAt" "[I" ∈ TBg := tb_of (List.mem_of_getElem? (i := 908) (by decide +kernel)) (by decide +kernel)
theorem t_909 : Cond.fieldLink RX9 51 "PaidMistakesModel" "isFoundAt" "[Z" ∈ TBg := tb_of (List.mem_of_getElem? (i := 909) (by decide +kernel)) (by decide +kernel)
theorem t_910 : Cond.fieldLink RX9 55 "PaidMistakesModel" "foundBrings" "[J" ∈ TBg := tb_of (List.mem_of_getElem? (i := 910) (by decide +kernel)) (by decide +kernel)
theorem t_911 : Cond.fieldLink RX9 58 "PaidMistakesModel" "foundHides" "[J" ∈ TBg := tb_of (List.mem_of_getElem? (i := 911) (by decide +kernel)) (by decide +kernel)
theorem t_912 : Cond.fieldLink RX9 61 "PaidMistakesModel" "bestBrings" "[J" ∈ TBg := tb_of (List.mem_of_getElem? (i := 912) (by decide +kernel)) (by decide +kernel)
theorem t_913 : Cond.fieldLink RX9 64 "PaidMistakesModel" "bestHides" "[J" ∈ TBg := tb_of (List.mem_of_getElem? (i := 913) (by decide +kernel)) (by decide +kernel)
theorem t_914 : Cond.fieldLink RX9 67 "PaidMistakesModel" "bestLook" "[I" ∈ TBg := tb_of (List.mem_of_getElem? (i := 914) (by decide +kernel)) (by decide +kernel)
theorem t_915 : Cond.fieldLink RX9 70 "PaidMistakesModel" "leftAt" "[I" ∈ TBg := tb_of (List.mem_of_getElem? (i := 915) (by decide +kernel)) (by decide +kernel)
theorem t_916 : Cond.fieldLink RX9 73 "PaidMistakesModel" "images" "[I" ∈ TBg := tb_of (List.mem_of_getElem? (i := 916) (by decide +kernel)) (by decide +kernel)
theorem t_917 : Cond.fieldLink RX9 76 "PaidMistakesModel" "isMade" "[Z" ∈ TBg := tb_of (List.mem_of_getElem? (i := 917) (by decide +kernel)) (by decide +kernel)
theorem t_918 : Cond.laysFinal RX9 "PaidMistakesModel" "tape" "[B" ∈ TBg := tb_of (List.mem_of_getElem? (i := 918) (by decide +kernel)) (by decide +kernel)
theorem t_920 : Cond.lays RX9 "PaidMistakesModel" "taped" "I" ∈ TBg := tb_of (List.mem_of_getElem? (i := 920) (by decide +kernel)) (by decide +kernel)
theorem t_922 : Cond.lays RX9 "PaidMistakesModel" "rules" "I" ∈ TBg := tb_of (List.mem_of_getElem? (i := 922) (by decide +kernel)) (by decide +kernel)
theorem t_924 : Cond.laysFinal RX9 "PaidMistakesModel" "sign" "[I" ∈ TBg := tb_of (List.mem_of_getElem? (i := 924) (by decide +kernel)) (by decide +kernel)
theorem t_926 : Cond.laysFinal RX9 "PaidMistakesModel" "length" "[I" ∈ TBg := tb_of (List.mem_of_getElem? (i := 926) (by decide +kernel)) (by decide +kernel)
theorem t_928 : Cond.laysFinal RX9 "PaidMistakesModel" "clause" "[I" ∈ TBg := tb_of (List.mem_of_getElem? (i := 928) (by decide +kernel)) (by decide +kernel)
theorem t_930 : Cond.laysFinal RX9 "PaidMistakesModel" "clauses" "[I" ∈ TBg := tb_of (List.mem_of_getElem? (i := 930) (by decide +kernel)) (by decide +kernel)
theorem t_932 : Cond.lays RX9 "PaidMistakesModel" "timeRead" "I" ∈ TBg := tb_of (List.mem_of_getElem? (i := 932) (by decide +kernel)) (by decide +kernel)
theorem t_934 : Cond.lays RX9 "PaidMistakesModel" "kindsRead" "I" ∈ TBg := tb_of (List.mem_of_getElem? (i := 934) (by decide +kernel)) (by decide +kernel)
theorem t_936 : Cond.lays RX9 "PaidMistakesModel" "faultsRead" "I" ∈ TBg := tb_of (List.mem_of_getElem? (i := 936) (by decide +kernel)) (by decide +kernel)
theorem t_938 : Cond.laysFinal RX9 "PaidMistakesModel" "kindRead" "[I" ∈ TBg := tb_of (List.mem_of_getElem? (i := 938) (by decide +kernel)) (by decide +kernel)
theorem t_940 : Cond.laysFinal RX9 "PaidMistakesModel" "faultRead" "[I" ∈ TBg := tb_of (List.mem_of_getElem? (i := 940) (by decide +kernel)) (by decide +kernel)
theorem t_942 : Cond.lays RX9 "PaidMistakesModel" "next" "I" ∈ TBg := tb_of (List.mem_of_getElem? (i := 942) (by decide +kernel)) (by decide +kernel)
theorem t_944 : Cond.lays RX9 "PaidMistakesModel" "wrong" "I" ∈ TBg := tb_of (List.mem_of_getElem? (i := 944) (by decide +kernel)) (by decide +kernel)
theorem t_946 : Cond.lays RX9 "PaidMistakesModel" "number" "I" ∈ TBg := tb_of (List.mem_of_getElem? (i := 946) (by decide +kernel)) (by decide +kernel)
theorem t_948 : Cond.lays RX9 "PaidMistakesModel" "text" "I" ∈ TBg := tb_of (List.mem_of_getElem? (i := 948) (by decide +kernel)) (by decide +kernel)
theorem t_950 : Cond.lays RX9 "PaidMistakesModel" "made" "I" ∈ TBg := tb_of (List.mem_of_getElem? (i := 950) (by decide +kernel)) (by decide +kernel)
theorem t_952 : Cond.lays RX9 "PaidMistakesModel" "deep" "I" ∈ TBg := tb_of (List.mem_of_getElem? (i := 952) (by decide +kernel)) (by decide +kernel)
theorem t_954 : Cond.lays RX9 "PaidMistakesModel" "lines" "I" ∈ TBg := tb_of (List.mem_of_getElem? (i := 954) (by decide +kernel)) (by decide +kernel)
theorem t_956 : Cond.laysFinal RX9 "PaidMistakesModel" "open" "[I" ∈ TBg := tb_of (List.mem_of_getElem? (i := 956) (by decide +kernel)) (by decide +kernel)
theorem t_958 : Cond.lays RX9 "PaidMistakesModel" "opened" "I" ∈ TBg := tb_of (List.mem_of_getElem? (i := 958) (by decide +kernel)) (by decide +kernel)
theorem t_960 : Cond.laysFinal RX9 "PaidMistakesModel" "stack" "[J" ∈ TBg := tb_of (List.mem_of_getElem? (i := 960) (by decide +kernel)) (by decide +kernel)
theorem t_962 : Cond.lays RX9 "PaidMistakesModel" "top" "I" ∈ TBg := tb_of (List.mem_of_getElem? (i := 962) (by decide +kernel)) (by decide +kernel)
theorem t_964 : Cond.laysFinal RX9 "PaidMistakesModel" "word" "[J" ∈ TBg := tb_of (List.mem_of_getElem? (i := 964) (by decide +kernel)) (by decide +kernel)
theorem t_966 : Cond.laysFinal RX9 "PaidMistakesModel" "said" "[I" ∈ TBg := tb_of (List.mem_of_getElem? (i := 966) (by decide +kernel)) (by decide +kernel)
theorem t_968 : Cond.laysFinal RX9 "PaidMistakesModel" "kept" "[I" ∈ TBg := tb_of (List.mem_of_getElem? (i := 968) (by decide +kernel)) (by decide +kernel)
theorem t_970 : Cond.laysFinal RX9 "PaidMistakesModel" "triedAt" "[I" ∈ TBg := tb_of (List.mem_of_getElem? (i := 970) (by decide +kernel)) (by decide +kernel)
theorem t_972 : Cond.laysFinal RX9 "PaidMistakesModel" "isFoundAt" "[Z" ∈ TBg := tb_of (List.mem_of_getElem? (i := 972) (by decide +kernel)) (by decide +kernel)
theorem t_974 : Cond.laysFinal RX9 "PaidMistakesModel" "foundBrings" "[J" ∈ TBg := tb_of (List.mem_of_getElem? (i := 974) (by decide +kernel)) (by decide +kernel)
theorem t_976 : Cond.laysFinal RX9 "PaidMistakesModel" "foundHides" "[J" ∈ TBg := tb_of (List.mem_of_getElem? (i := 976) (by decide +kernel)) (by decide +kernel)
theorem t_978 : Cond.laysFinal RX9 "PaidMistakesModel" "bestBrings" "[J" ∈ TBg := tb_of (List.mem_of_getElem? (i := 978) (by decide +kernel)) (by decide +kernel)
theorem t_980 : Cond.laysFinal RX9 "PaidMistakesModel" "bestHides" "[J" ∈ TBg := tb_of (List.mem_of_getElem? (i := 980) (by decide +kernel)) (by decide +kernel)
theorem t_982 : Cond.laysFinal RX9 "PaidMistakesModel" "bestLook" "[I" ∈ TBg := tb_of (List.mem_of_getElem? (i := 982) (by decide +kernel)) (by decide +kernel)
theorem t_984 : Cond.laysFinal RX9 "PaidMistakesModel" "leftAt" "[I" ∈ TBg := tb_of (List.mem_of_getElem? (i := 984) (by decide +kernel)) (by decide +kernel)
theorem t_986 : Cond.laysFinal RX9 "PaidMistakesModel" "images" "[I" ∈ TBg := tb_of (List.mem_of_getElem? (i := 986) (by decide +kernel)) (by decide +kernel)
theorem t_988 : Cond.laysFinal RX9 "PaidMistakesModel" "isMade" "[Z" ∈ TBg := tb_of (List.mem_of_getElem? (i := 988) (by decide +kernel)) (by decide +kernel)
theorem t_991 : Cond.arrayClass .boolean ∈ TBg := tb_of (List.mem_of_getElem? (i := 991) (by decide +kernel)) (by decide +kernel)
theorem t_1066 : Cond.methodLink RX9 118 yX9_in ∈ TBg := tb_of (List.mem_of_getElem? (i := 1066) (by decide +kernel)) (by decide +kernel)
theorem t_1067 : Cond.static yX9_in ∈ TBg := tb_of (List.mem_of_getElem? (i := 1067) (by decide +kernel)) (by decide +kernel)
theorem t_1068 : cw MX9_in ∈ TBg := tb_of (List.mem_of_getElem? (i := 1068) (by decide +kernel)) (by decide +kernel)
theorem t_1144 : Cond.methodLink RL 36 yX9_kind ∈ TBg := tb_of (List.mem_of_getElem? (i := 1144) (by decide +kernel)) (by decide +kernel)
theorem t_1145 : Cond.instanceMethod yX9_kind ∈ TBg := tb_of (List.mem_of_getElem? (i := 1145) (by decide +kernel)) (by decide +kernel)
theorem t_1146 : Cond.selects RX9 yX9_kind yX9_kind ∈ TBg := tb_of (List.mem_of_getElem? (i := 1146) (by decide +kernel)) (by decide +kernel)
theorem t_1147 : cw MX9_kind ∈ TBg := tb_of (List.mem_of_getElem? (i := 1147) (by decide +kernel)) (by decide +kernel)
theorem t_1149 : Cond.methodLink RL 40 yX9_fault ∈ TBg := tb_of (List.mem_of_getElem? (i := 1149) (by decide +kernel)) (by decide +kernel)
theorem t_1150 : Cond.instanceMethod yX9_fault ∈ TBg := tb_of (List.mem_of_getElem? (i := 1150) (by decide +kernel)) (by decide +kernel)
theorem t_1151 : Cond.selects RX9 yX9_fault yX9_fault ∈ TBg := tb_of (List.mem_of_getElem? (i := 1151) (by decide +kernel)) (by decide +kernel)
theorem t_1152 : cw MX9_fault ∈ TBg := tb_of (List.mem_of_getElem? (i := 1152) (by decide +kernel)) (by decide +kernel)
theorem t_1153 : Cond.methodLink RX9 280 yX9_isFault ∈ TBg := tb_of (List.mem_of_getElem? (i := 1153) (by decide +kernel)) (by decide +kernel)
theorem t_1155 : Cond.instanceMethod yX9_isFault ∈ TBg := tb_of (List.mem_of_getElem? (i := 1155) (by decide +kernel)) (by decide +kernel)
theorem t_1156 : cw MX9_isFault ∈ TBg := tb_of (List.mem_of_getElem? (i := 1156) (by decide +kernel)) (by decide +kernel)
theorem t_1166 : Cond.methodLink RL 44 yX9_look ∈ TBg := tb_of (List.mem_of_getElem? (i := 1166) (by decide +kernel)) (by decide +kernel)
theorem t_1167 : Cond.instanceMethod yX9_look ∈ TBg := tb_of (List.mem_of_getElem? (i := 1167) (by decide +kernel)) (by decide +kernel)
theorem t_1168 : Cond.selects RX9 yX9_look yX9_look ∈ TBg := tb_of (List.mem_of_getElem? (i := 1168) (by decide +kernel)) (by decide +kernel)
theorem t_1169 : cw MX9_look ∈ TBg := tb_of (List.mem_of_getElem? (i := 1169) (by decide +kernel)) (by decide +kernel)
theorem okN_X7_init : okN MX7_init 1 := ⟨by decide, by decide, by decide +kernel⟩
theorem okN_X0_init : okN MX0_init 0 := ⟨by decide, by decide, by decide +kernel⟩
theorem okN_X5_init : okN MX5_init 1 := ⟨by decide, by decide, by decide +kernel⟩
theorem okN_X6_init : okN MX6_init 0 := ⟨by decide, by decide, by decide +kernel⟩
theorem okN_X4_init : okN MX4_init 0 := ⟨by decide, by decide, by decide +kernel⟩
theorem okN_X2_init : okN MX2_init 0 := ⟨by decide, by decide, by decide +kernel⟩
theorem okN_X1_init : okN MX1_init 0 := ⟨by decide, by decide, by decide +kernel⟩
theorem okN_X8_init : okN MX8_init 0 := ⟨by decide, by decide, by decide +kernel⟩
theorem okN_X9_init : okN MX9_init 0 := ⟨by decide, by decide, by decide +kernel⟩
theorem okN_X8_kind : okN MX8_kind 2 := ⟨by decide, by decide, by decide +kernel⟩
theorem okN_X9_in : okN MX9_in 3 := ⟨by decide, by decide, by decide +kernel⟩
theorem okN_X9_kind : okN MX9_kind 2 := ⟨by decide, by decide, by decide +kernel⟩
theorem s_X8_isFault : Cond.selects yX8_isFault.cls yX8_isFault yX8_isFault ∈ TBg := tb_sel (q := (yX8_isFault, 11)) (by decide +kernel)
theorem okN_X8_isFault : okN MX8_isFault 1 := ⟨by decide, by decide, by decide +kernel⟩
theorem okN_X8_fault : okN MX8_fault 2 := ⟨by decide, by decide, by decide +kernel⟩
theorem s_X9_isFault : Cond.selects yX9_isFault.cls yX9_isFault yX9_isFault ∈ TBg := tb_sel (q := (yX9_isFault, 36)) (by decide +kernel)
theorem okN_X9_isFault : okN MX9_isFault 1 := ⟨by decide, by decide, by decide +kernel⟩
theorem okN_X9_fault : okN MX9_fault 2 := ⟨by decide, by decide, by decide +kernel⟩
theorem okN_X8_look : okN MX8_look 1 := ⟨by decide, by decide, by decide +kernel⟩
theorem okN_X9_look : okN MX9_look 1 := ⟨by decide, by decide, by decide +kernel⟩
theorem lk_I_8_33 : LkI RX8 33 MX7_init := ⟨t_35, t_3, t_33, t_34, rfl, rfl⟩
theorem lk_I_5_17 : LkI RX5 17 MX0_init := ⟨t_128, t_4, t_126, t_127, rfl, rfl⟩
theorem lk_I_8_36 : LkI RX8 36 MX5_init := ⟨t_122, t_2, t_120, t_121, rfl, rfl⟩
theorem lk_I_8_49 : LkI RX8 49 MX0_init := ⟨t_128, t_4, t_195, t_127, rfl, rfl⟩
theorem lk_I_4_11 : LkI RX4 11 MX6_init := ⟨t_206, t_6, t_204, t_205, rfl, rfl⟩
theorem lk_I_8_56 : LkI RX8 56 MX4_init := ⟨t_200, t_5, t_198, t_199, rfl, rfl⟩
theorem lk_I_8_63 : LkI RX8 63 MX2_init := ⟨t_272, t_7, t_270, t_271, rfl, rfl⟩
theorem lk_I_8_70 : LkI RX8 70 MX1_init := ⟨t_283, t_8, t_281, t_282, rfl, rfl⟩
theorem lk_I_L_9 : LkI RL 9 MX8_init := ⟨t_23, t_1, t_21, t_22, rfl, rfl⟩
theorem lk_I_L_12 : LkI RL 12 MX9_init := ⟨t_880, t_9, t_878, t_879, rfl, rfl⟩
theorem lk_V_L_32 : LkV RL 32 MX8_kind := ⟨t_605, t_1, t_602, t_603, t_604⟩
theorem lk_S_9_118 : LkS RX9 118 MX9_in := ⟨t_1068, t_9, t_1066, t_1067⟩
theorem lk_V_L_36 : LkV RL 36 MX9_kind := ⟨t_1147, t_9, t_1144, t_1145, t_1146⟩
theorem lk_V_8_139 : LkV RX8 139 MX8_isFault := ⟨t_614, t_1, t_611, t_613, s_X8_isFault⟩
theorem lk_V_L_37 : LkV RL 37 MX8_fault := ⟨t_610, t_1, t_607, t_608, t_609⟩
theorem lk_V_9_280 : LkV RX9 280 MX9_isFault := ⟨t_1156, t_9, t_1153, t_1155, s_X9_isFault⟩
theorem lk_V_L_40 : LkV RL 40 MX9_fault := ⟨t_1152, t_9, t_1149, t_1150, t_1151⟩
theorem lk_V_L_41 : LkV RL 41 MX8_look := ⟨t_644, t_1, t_641, t_642, t_643⟩
theorem lk_V_L_44 : LkV RL 44 MX9_look := ⟨t_1169, t_9, t_1166, t_1167, t_1168⟩
theorem iX0 : ∀ w ∈ u_ws RX0 TX0 6, w ∈ TBg := by
  intro w hw
  obtain ⟨k, hk, rfl⟩ := List.mem_map.mp hw
  have hk := List.mem_range.mp hk
  match k, hk with
  | 0, _ => exact t_147
  | 1, _ => exact t_149
  | 2, _ => exact t_151
  | 3, _ => exact t_153
  | 4, _ => exact t_155
  | 5, _ => exact t_157
  | k + 6, hk => exact absurd hk (by omega)
theorem dfX0 : ∀ j, j < 6 → defaultValue (tyX0 j) = vp_V [.int 0, .int 0, .int 0, .int 0, .int 0, .null] j := by
  intro j hj
  match j, hj with
  | 0, _ => rfl
  | 1, _ => rfl
  | 2, _ => rfl
  | 3, _ => rfl
  | 4, _ => rfl
  | 5, _ => rfl
  | j + 6, hj => exact absurd hj (by omega)
theorem iX1 : ∀ w ∈ u_ws RX1 TX1 4, w ∈ TBg := by
  intro w hw
  obtain ⟨k, hk, rfl⟩ := List.mem_map.mp hw
  have hk := List.mem_range.mp hk
  match k, hk with
  | 0, _ => exact t_291
  | 1, _ => exact t_293
  | 2, _ => exact t_295
  | 3, _ => exact t_297
  | k + 4, hk => exact absurd hk (by omega)
theorem dfX1 : ∀ j, j < 4 → defaultValue (tyX1 j) = vp_V [.null, .null, .int 0, .long 0] j := by
  intro j hj
  match j, hj with
  | 0, _ => rfl
  | 1, _ => rfl
  | 2, _ => rfl
  | 3, _ => rfl
  | j + 4, hj => exact absurd hj (by omega)
theorem iX2 : ∀ w ∈ u_ws RX2 TX2 1, w ∈ TBg := by
  intro w hw
  obtain ⟨k, hk, rfl⟩ := List.mem_map.mp hw
  have hk := List.mem_range.mp hk
  match k, hk with
  | 0, _ => exact t_275
  | k + 1, hk => exact absurd hk (by omega)
theorem dfX2 : ∀ j, j < 1 → defaultValue (tyX2 j) = vp_V [.null] j := by
  intro j hj
  match j, hj with
  | 0, _ => rfl
  | j + 1, hj => exact absurd hj (by omega)
theorem iX3 : ∀ w ∈ u_ws RX3 TX3 5, w ∈ TBg := by
  intro w hw
  obtain ⟨k, hk, rfl⟩ := List.mem_map.mp hw
  have hk := List.mem_range.mp hk
  match k, hk with
  | 0, _ => exact t_591
  | 1, _ => exact t_593
  | 2, _ => exact t_595
  | 3, _ => exact t_597
  | 4, _ => exact t_599
  | k + 5, hk => exact absurd hk (by omega)
theorem dfX3 : ∀ j, j < 5 → defaultValue (tyX3 j) = vp_V [.null, .int 0, .null, .null, .null] j := by
  intro j hj
  match j, hj with
  | 0, _ => rfl
  | 1, _ => rfl
  | 2, _ => rfl
  | 3, _ => rfl
  | 4, _ => rfl
  | j + 5, hj => exact absurd hj (by omega)
theorem iX4 : ∀ w ∈ u_ws RX4 TX4 8, w ∈ TBg := by
  intro w hw
  obtain ⟨k, hk, rfl⟩ := List.mem_map.mp hw
  have hk := List.mem_range.mp hk
  match k, hk with
  | 0, _ => exact t_251
  | 1, _ => exact t_253
  | 2, _ => exact t_255
  | 3, _ => exact t_257
  | 4, _ => exact t_259
  | 5, _ => exact t_261
  | 6, _ => exact t_263
  | 7, _ => exact t_265
  | k + 8, hk => exact absurd hk (by omega)
theorem dfX4 : ∀ j, j < 8 → defaultValue (tyX4 j) = vp_V [.null, .null, .int 0, .int 0, .int 0, .null, .null, .null] j := by
  intro j hj
  match j, hj with
  | 0, _ => rfl
  | 1, _ => rfl
  | 2, _ => rfl
  | 3, _ => rfl
  | 4, _ => rfl
  | 5, _ => rfl
  | 6, _ => rfl
  | 7, _ => rfl
  | j + 8, hj => exact absurd hj (by omega)
theorem iX5 : ∀ w ∈ u_ws RX5 TX5 8, w ∈ TBg := by
  intro w hw
  obtain ⟨k, hk, rfl⟩ := List.mem_map.mp hw
  have hk := List.mem_range.mp hk
  match k, hk with
  | 0, _ => exact t_176
  | 1, _ => exact t_178
  | 2, _ => exact t_180
  | 3, _ => exact t_182
  | 4, _ => exact t_184
  | 5, _ => exact t_186
  | 6, _ => exact t_188
  | 7, _ => exact t_190
  | k + 8, hk => exact absurd hk (by omega)
theorem dfX5 : ∀ j, j < 8 → defaultValue (tyX5 j) = vp_V [.null, .null, .int 0, .int 0, .int 0, .null, .int 0, .null] j := by
  intro j hj
  match j, hj with
  | 0, _ => rfl
  | 1, _ => rfl
  | 2, _ => rfl
  | 3, _ => rfl
  | 4, _ => rfl
  | 5, _ => rfl
  | 6, _ => rfl
  | 7, _ => rfl
  | j + 8, hj => exact absurd hj (by omega)
theorem iX6 : ∀ w ∈ u_ws RX6 TX6 9, w ∈ TBg := by
  intro w hw
  obtain ⟨k, hk, rfl⟩ := List.mem_map.mp hw
  have hk := List.mem_range.mp hk
  match k, hk with
  | 0, _ => exact t_223
  | 1, _ => exact t_225
  | 2, _ => exact t_227
  | 3, _ => exact t_229
  | 4, _ => exact t_231
  | 5, _ => exact t_233
  | 6, _ => exact t_235
  | 7, _ => exact t_237
  | 8, _ => exact t_239
  | k + 9, hk => exact absurd hk (by omega)
theorem dfX6 : ∀ j, j < 9 → defaultValue (tyX6 j) = vp_V [.null, .null, .null, .int 0, .int 0, .int 0, .int 0, .int 0, .int 0] j := by
  intro j hj
  match j, hj with
  | 0, _ => rfl
  | 1, _ => rfl
  | 2, _ => rfl
  | 3, _ => rfl
  | 4, _ => rfl
  | 5, _ => rfl
  | 6, _ => rfl
  | 7, _ => rfl
  | 8, _ => rfl
  | j + 9, hj => exact absurd hj (by omega)
theorem iX7 : ∀ w ∈ u_ws RX7 TX7 18, w ∈ TBg := by
  intro w hw
  obtain ⟨k, hk, rfl⟩ := List.mem_map.mp hw
  have hk := List.mem_range.mp hk
  match k, hk with
  | 0, _ => exact t_82
  | 1, _ => exact t_84
  | 2, _ => exact t_86
  | 3, _ => exact t_88
  | 4, _ => exact t_90
  | 5, _ => exact t_92
  | 6, _ => exact t_94
  | 7, _ => exact t_96
  | 8, _ => exact t_98
  | 9, _ => exact t_100
  | 10, _ => exact t_102
  | 11, _ => exact t_104
  | 12, _ => exact t_106
  | 13, _ => exact t_108
  | 14, _ => exact t_110
  | 15, _ => exact t_112
  | 16, _ => exact t_114
  | 17, _ => exact t_116
  | k + 18, hk => exact absurd hk (by omega)
theorem dfX7 : ∀ j, j < 18 → defaultValue (tyX7 j) = vp_V [.int 0, .int 0, .int 0, .int 0, .int 0, .null, .null, .null, .null, .null, .null, .null, .null, .null, .null, .null, .null, .int 0] j := by
  intro j hj
  match j, hj with
  | 0, _ => rfl
  | 1, _ => rfl
  | 2, _ => rfl
  | 3, _ => rfl
  | 4, _ => rfl
  | 5, _ => rfl
  | 6, _ => rfl
  | 7, _ => rfl
  | 8, _ => rfl
  | 9, _ => rfl
  | 10, _ => rfl
  | 11, _ => rfl
  | 12, _ => rfl
  | 13, _ => rfl
  | 14, _ => rfl
  | 15, _ => rfl
  | 16, _ => rfl
  | 17, _ => rfl
  | j + 18, hj => exact absurd hj (by omega)
theorem iX8 : ∀ w ∈ u_ws RX8 TX8 11, w ∈ TBg := by
  intro w hw
  obtain ⟨k, hk, rfl⟩ := List.mem_map.mp hw
  have hk := List.mem_range.mp hk
  match k, hk with
  | 0, _ => exact t_311
  | 1, _ => exact t_313
  | 2, _ => exact t_315
  | 3, _ => exact t_317
  | 4, _ => exact t_319
  | 5, _ => exact t_321
  | 6, _ => exact t_323
  | 7, _ => exact t_325
  | 8, _ => exact t_327
  | 9, _ => exact t_329
  | 10, _ => exact t_331
  | k + 11, hk => exact absurd hk (by omega)
theorem dfX8 : ∀ j, j < 11 → defaultValue (tyX8 j) = vp_V [.null, .int 0, .null, .int 0, .int 0, .null, .null, .null, .null, .null, .null] j := by
  intro j hj
  match j, hj with
  | 0, _ => rfl
  | 1, _ => rfl
  | 2, _ => rfl
  | 3, _ => rfl
  | 4, _ => rfl
  | 5, _ => rfl
  | 6, _ => rfl
  | 7, _ => rfl
  | 8, _ => rfl
  | 9, _ => rfl
  | 10, _ => rfl
  | j + 11, hj => exact absurd hj (by omega)
theorem iX9 : ∀ w ∈ u_ws RX9 TX9 36, w ∈ TBg := by
  intro w hw
  obtain ⟨k, hk, rfl⟩ := List.mem_map.mp hw
  have hk := List.mem_range.mp hk
  match k, hk with
  | 0, _ => exact t_918
  | 1, _ => exact t_920
  | 2, _ => exact t_922
  | 3, _ => exact t_924
  | 4, _ => exact t_926
  | 5, _ => exact t_928
  | 6, _ => exact t_930
  | 7, _ => exact t_932
  | 8, _ => exact t_934
  | 9, _ => exact t_936
  | 10, _ => exact t_938
  | 11, _ => exact t_940
  | 12, _ => exact t_942
  | 13, _ => exact t_944
  | 14, _ => exact t_946
  | 15, _ => exact t_948
  | 16, _ => exact t_950
  | 17, _ => exact t_952
  | 18, _ => exact t_954
  | 19, _ => exact t_956
  | 20, _ => exact t_958
  | 21, _ => exact t_960
  | 22, _ => exact t_962
  | 23, _ => exact t_964
  | 24, _ => exact t_966
  | 25, _ => exact t_968
  | 26, _ => exact t_970
  | 27, _ => exact t_972
  | 28, _ => exact t_974
  | 29, _ => exact t_976
  | 30, _ => exact t_978
  | 31, _ => exact t_980
  | 32, _ => exact t_982
  | 33, _ => exact t_984
  | 34, _ => exact t_986
  | 35, _ => exact t_988
  | k + 36, hk => exact absurd hk (by omega)
theorem dfX9 : ∀ j, j < 36 → defaultValue (tyX9 j) = vp_V [.null, .int 0, .int 0, .null, .null, .null, .null, .int 0, .int 0, .int 0, .null, .null, .int 0, .int 0, .int 0, .int 0, .int 0, .int 0, .int 0, .null, .int 0, .null, .int 0, .null, .null, .null, .null, .null, .null, .null, .null, .null, .null, .null, .null, .null] j := by
  intro j hj
  match j, hj with
  | 0, _ => rfl
  | 1, _ => rfl
  | 2, _ => rfl
  | 3, _ => rfl
  | 4, _ => rfl
  | 5, _ => rfl
  | 6, _ => rfl
  | 7, _ => rfl
  | 8, _ => rfl
  | 9, _ => rfl
  | 10, _ => rfl
  | 11, _ => rfl
  | 12, _ => rfl
  | 13, _ => rfl
  | 14, _ => rfl
  | 15, _ => rfl
  | 16, _ => rfl
  | 17, _ => rfl
  | 18, _ => rfl
  | 19, _ => rfl
  | 20, _ => rfl
  | 21, _ => rfl
  | 22, _ => rfl
  | 23, _ => rfl
  | 24, _ => rfl
  | 25, _ => rfl
  | 26, _ => rfl
  | 27, _ => rfl
  | 28, _ => rfl
  | 29, _ => rfl
  | 30, _ => rfl
  | 31, _ => rfl
  | 32, _ => rfl
  | 33, _ => rfl
  | 34, _ => rfl
  | 35, _ => rfl
  | j + 36, hj => exact absurd hj (by omega)
end
section
theorem dL_law_0 : decode cL_law 0 = .ok (.new 7, 3) := by decide +kernel
theorem dL_law_3 : decode cL_law 3 = .ok (.dup, 1) := by decide +kernel
theorem dL_law_4 : decode cL_law 4 = .ok (.invokespecial 9, 3) := by decide +kernel
theorem dL_law_7 : decode cL_law 7 = .ok (.astore_n 1, 1) := by decide +kernel
theorem dL_law_8 : decode cL_law 8 = .ok (.new 10, 3) := by decide +kernel
theorem dL_law_11 : decode cL_law 11 = .ok (.dup, 1) := by decide +kernel
theorem dL_law_12 : decode cL_law 12 = .ok (.invokespecial 12, 3) := by decide +kernel
theorem dL_law_15 : decode cL_law 15 = .ok (.astore_n 2, 1) := by decide +kernel
theorem dL_law_16 : decode cL_law 16 = .ok (.iconst 0, 1) := by decide +kernel
theorem dL_law_17 : decode cL_law 17 = .ok (.istore_n 3, 1) := by decide +kernel
theorem dL_law_18 : decode cL_law 18 = .ok (.iload_n 3, 1) := by decide +kernel
theorem dL_law_19 : decode cL_law 19 = .ok (.aload_n 0, 1) := by decide +kernel
theorem dL_law_20 : decode cL_law 20 = .ok (.arraylength, 1) := by decide +kernel
theorem dL_law_21 : decode cL_law 21 = .ok (.bipush 6, 2) := by decide +kernel
theorem dL_law_23 : decode cL_law 23 = .ok (.isub, 1) := by decide +kernel
theorem dL_law_24 : decode cL_law 24 = .ok (.if_icmp .gt 910, 3) := by decide +kernel
theorem dL_law_272 : decode cL_law 272 = .ok (.aload_n 1, 1) := by decide +kernel
theorem dL_law_273 : decode cL_law 273 = .ok (.aload_n 0, 1) := by decide +kernel
theorem dL_law_274 : decode cL_law 274 = .ok (.iload_n 3, 1) := by decide +kernel
theorem dL_law_275 : decode cL_law 275 = .ok (.iconst 1, 1) := by decide +kernel
theorem dL_law_276 : decode cL_law 276 = .ok (.iadd, 1) := by decide +kernel
theorem dL_law_277 : decode cL_law 277 = .ok (.iaload, 1) := by decide +kernel
theorem dL_law_278 : decode cL_law 278 = .ok (.aload_n 0, 1) := by decide +kernel
theorem dL_law_279 : decode cL_law 279 = .ok (.iload_n 3, 1) := by decide +kernel
theorem dL_law_280 : decode cL_law 280 = .ok (.iconst 2, 1) := by decide +kernel
theorem dL_law_281 : decode cL_law 281 = .ok (.iadd, 1) := by decide +kernel
theorem dL_law_282 : decode cL_law 282 = .ok (.iaload, 1) := by decide +kernel
theorem dL_law_283 : decode cL_law 283 = .ok (.invokevirtual 32, 3) := by decide +kernel
theorem dL_law_286 : decode cL_law 286 = .ok (.aload_n 2, 1) := by decide +kernel
theorem dL_law_287 : decode cL_law 287 = .ok (.aload_n 0, 1) := by decide +kernel
theorem dL_law_288 : decode cL_law 288 = .ok (.iload_n 3, 1) := by decide +kernel
theorem dL_law_289 : decode cL_law 289 = .ok (.iconst 1, 1) := by decide +kernel
theorem dL_law_290 : decode cL_law 290 = .ok (.iadd, 1) := by decide +kernel
theorem dL_law_291 : decode cL_law 291 = .ok (.iaload, 1) := by decide +kernel
theorem dL_law_292 : decode cL_law 292 = .ok (.aload_n 0, 1) := by decide +kernel
theorem dL_law_293 : decode cL_law 293 = .ok (.iload_n 3, 1) := by decide +kernel
theorem dL_law_294 : decode cL_law 294 = .ok (.iconst 2, 1) := by decide +kernel
theorem dL_law_295 : decode cL_law 295 = .ok (.iadd, 1) := by decide +kernel
theorem dL_law_296 : decode cL_law 296 = .ok (.iaload, 1) := by decide +kernel
theorem dL_law_297 : decode cL_law 297 = .ok (.invokevirtual 36, 3) := by decide +kernel
theorem dL_law_300 : decode cL_law 300 = .ok (.if_icmp .eq 628, 3) := by decide +kernel
theorem dL_law_305 : decode cL_law 305 = .ok (.aload_n 1, 1) := by decide +kernel
theorem dL_law_306 : decode cL_law 306 = .ok (.aload_n 0, 1) := by decide +kernel
theorem dL_law_307 : decode cL_law 307 = .ok (.iload_n 3, 1) := by decide +kernel
theorem dL_law_308 : decode cL_law 308 = .ok (.iconst 1, 1) := by decide +kernel
theorem dL_law_309 : decode cL_law 309 = .ok (.iadd, 1) := by decide +kernel
theorem dL_law_310 : decode cL_law 310 = .ok (.iaload, 1) := by decide +kernel
theorem dL_law_311 : decode cL_law 311 = .ok (.aload_n 0, 1) := by decide +kernel
theorem dL_law_312 : decode cL_law 312 = .ok (.iload_n 3, 1) := by decide +kernel
theorem dL_law_313 : decode cL_law 313 = .ok (.iconst 2, 1) := by decide +kernel
theorem dL_law_314 : decode cL_law 314 = .ok (.iadd, 1) := by decide +kernel
theorem dL_law_315 : decode cL_law 315 = .ok (.iaload, 1) := by decide +kernel
theorem dL_law_316 : decode cL_law 316 = .ok (.invokevirtual 37, 3) := by decide +kernel
theorem dL_law_319 : decode cL_law 319 = .ok (.aload_n 2, 1) := by decide +kernel
theorem dL_law_320 : decode cL_law 320 = .ok (.aload_n 0, 1) := by decide +kernel
theorem dL_law_321 : decode cL_law 321 = .ok (.iload_n 3, 1) := by decide +kernel
theorem dL_law_322 : decode cL_law 322 = .ok (.iconst 1, 1) := by decide +kernel
theorem dL_law_323 : decode cL_law 323 = .ok (.iadd, 1) := by decide +kernel
theorem dL_law_324 : decode cL_law 324 = .ok (.iaload, 1) := by decide +kernel
theorem dL_law_325 : decode cL_law 325 = .ok (.aload_n 0, 1) := by decide +kernel
theorem dL_law_326 : decode cL_law 326 = .ok (.iload_n 3, 1) := by decide +kernel
theorem dL_law_327 : decode cL_law 327 = .ok (.iconst 2, 1) := by decide +kernel
theorem dL_law_328 : decode cL_law 328 = .ok (.iadd, 1) := by decide +kernel
theorem dL_law_329 : decode cL_law 329 = .ok (.iaload, 1) := by decide +kernel
theorem dL_law_330 : decode cL_law 330 = .ok (.invokevirtual 40, 3) := by decide +kernel
theorem dL_law_333 : decode cL_law 333 = .ok (.if_icmp .eq 595, 3) := by decide +kernel
theorem dL_law_338 : decode cL_law 338 = .ok (.aload_n 1, 1) := by decide +kernel
theorem dL_law_339 : decode cL_law 339 = .ok (.aload_n 0, 1) := by decide +kernel
theorem dL_law_340 : decode cL_law 340 = .ok (.iload_n 3, 1) := by decide +kernel
theorem dL_law_341 : decode cL_law 341 = .ok (.iconst 1, 1) := by decide +kernel
theorem dL_law_342 : decode cL_law 342 = .ok (.iadd, 1) := by decide +kernel
theorem dL_law_343 : decode cL_law 343 = .ok (.iaload, 1) := by decide +kernel
theorem dL_law_344 : decode cL_law 344 = .ok (.invokevirtual 41, 3) := by decide +kernel
theorem dL_law_347 : decode cL_law 347 = .ok (.aload_n 2, 1) := by decide +kernel
theorem dL_law_348 : decode cL_law 348 = .ok (.aload_n 0, 1) := by decide +kernel
theorem dL_law_349 : decode cL_law 349 = .ok (.iload_n 3, 1) := by decide +kernel
theorem dL_law_350 : decode cL_law 350 = .ok (.iconst 1, 1) := by decide +kernel
theorem dL_law_351 : decode cL_law 351 = .ok (.iadd, 1) := by decide +kernel
theorem dL_law_352 : decode cL_law 352 = .ok (.iaload, 1) := by decide +kernel
theorem dL_law_353 : decode cL_law 353 = .ok (.invokevirtual 44, 3) := by decide +kernel
theorem dL_law_356 : decode cL_law 356 = .ok (.if_icmp .eq 572, 3) := by decide +kernel
theorem dL_law_928 : decode cL_law 928 = .ok (.iinc 3 6, 3) := by decide +kernel
theorem dL_law_931 : decode cL_law 931 = .ok (.goto (-913), 3) := by decide +kernel
theorem dL_law_934 : decode cL_law 934 = .ok (.iconst 1, 1) := by decide +kernel
theorem dL_law_935 : decode cL_law 935 = .ok (.ireturn, 1) := by decide +kernel
theorem dX0_init_0 : decode cX0_init 0 = .ok (.aload_n 0, 1) := by decide +kernel
theorem dX0_init_1 : decode cX0_init 1 = .ok (.invokespecial 3, 3) := by decide +kernel
theorem dX0_init_4 : decode cX0_init 4 = .ok (.aload_n 0, 1) := by decide +kernel
theorem dX0_init_5 : decode cX0_init 5 = .ok (.bipush 10, 2) := by decide +kernel
theorem dX0_init_7 : decode cX0_init 7 = .ok (.newarray .int, 2) := by decide +kernel
theorem dX0_init_9 : decode cX0_init 9 = .ok (.putfield 9, 3) := by decide +kernel
theorem dX0_init_12 : decode cX0_init 12 = .ok (.return_, 1) := by decide +kernel
theorem dX1_init_0 : decode cX1_init 0 = .ok (.aload_n 0, 1) := by decide +kernel
theorem dX1_init_1 : decode cX1_init 1 = .ok (.invokespecial 3, 3) := by decide +kernel
theorem dX1_init_4 : decode cX1_init 4 = .ok (.aload_n 0, 1) := by decide +kernel
theorem dX1_init_5 : decode cX1_init 5 = .ok (.sipush 2048, 3) := by decide +kernel
theorem dX1_init_8 : decode cX1_init 8 = .ok (.newarray .long, 2) := by decide +kernel
theorem dX1_init_10 : decode cX1_init 10 = .ok (.putfield 11, 3) := by decide +kernel
theorem dX1_init_13 : decode cX1_init 13 = .ok (.aload_n 0, 1) := by decide +kernel
theorem dX1_init_14 : decode cX1_init 14 = .ok (.sipush 2048, 3) := by decide +kernel
theorem dX1_init_17 : decode cX1_init 17 = .ok (.newarray .long, 2) := by decide +kernel
theorem dX1_init_19 : decode cX1_init 19 = .ok (.putfield 15, 3) := by decide +kernel
theorem dX1_init_22 : decode cX1_init 22 = .ok (.return_, 1) := by decide +kernel
theorem dX2_init_0 : decode cX2_init 0 = .ok (.aload_n 0, 1) := by decide +kernel
theorem dX2_init_1 : decode cX2_init 1 = .ok (.invokespecial 3, 3) := by decide +kernel
theorem dX2_init_4 : decode cX2_init 4 = .ok (.aload_n 0, 1) := by decide +kernel
theorem dX2_init_5 : decode cX2_init 5 = .ok (.bipush 32, 2) := by decide +kernel
theorem dX2_init_7 : decode cX2_init 7 = .ok (.newarray .long, 2) := by decide +kernel
theorem dX2_init_9 : decode cX2_init 9 = .ok (.putfield 9, 3) := by decide +kernel
theorem dX2_init_12 : decode cX2_init 12 = .ok (.return_, 1) := by decide +kernel
theorem dX4_init_0 : decode cX4_init 0 = .ok (.aload_n 0, 1) := by decide +kernel
theorem dX4_init_1 : decode cX4_init 1 = .ok (.invokespecial 3, 3) := by decide +kernel
theorem dX4_init_4 : decode cX4_init 4 = .ok (.aload_n 0, 1) := by decide +kernel
theorem dX4_init_5 : decode cX4_init 5 = .ok (.new 9, 3) := by decide +kernel
theorem dX4_init_8 : decode cX4_init 8 = .ok (.dup, 1) := by decide +kernel
theorem dX4_init_9 : decode cX4_init 9 = .ok (.invokespecial 11, 3) := by decide +kernel
theorem dX4_init_12 : decode cX4_init 12 = .ok (.putfield 12, 3) := by decide +kernel
theorem dX4_init_15 : decode cX4_init 15 = .ok (.aload_n 0, 1) := by decide +kernel
theorem dX4_init_16 : decode cX4_init 16 = .ok (.sipush 400, 3) := by decide +kernel
theorem dX4_init_19 : decode cX4_init 19 = .ok (.newarray .int, 2) := by decide +kernel
theorem dX4_init_21 : decode cX4_init 21 = .ok (.putfield 18, 3) := by decide +kernel
theorem dX4_init_24 : decode cX4_init 24 = .ok (.aload_n 0, 1) := by decide +kernel
theorem dX4_init_25 : decode cX4_init 25 = .ok (.bipush 12, 2) := by decide +kernel
theorem dX4_init_27 : decode cX4_init 27 = .ok (.newarray .int, 2) := by decide +kernel
theorem dX4_init_29 : decode cX4_init 29 = .ok (.putfield 22, 3) := by decide +kernel
theorem dX4_init_32 : decode cX4_init 32 = .ok (.aload_n 0, 1) := by decide +kernel
theorem dX4_init_33 : decode cX4_init 33 = .ok (.bipush 12, 2) := by decide +kernel
theorem dX4_init_35 : decode cX4_init 35 = .ok (.newarray .int, 2) := by decide +kernel
theorem dX4_init_37 : decode cX4_init 37 = .ok (.putfield 25, 3) := by decide +kernel
theorem dX4_init_40 : decode cX4_init 40 = .ok (.aload_n 0, 1) := by decide +kernel
theorem dX4_init_41 : decode cX4_init 41 = .ok (.bipush 12, 2) := by decide +kernel
theorem dX4_init_43 : decode cX4_init 43 = .ok (.newarray .int, 2) := by decide +kernel
theorem dX4_init_45 : decode cX4_init 45 = .ok (.putfield 28, 3) := by decide +kernel
theorem dX4_init_48 : decode cX4_init 48 = .ok (.return_, 1) := by decide +kernel
theorem dX5_init_0 : decode cX5_init 0 = .ok (.aload_n 0, 1) := by decide +kernel
theorem dX5_init_1 : decode cX5_init 1 = .ok (.invokespecial 3, 3) := by decide +kernel
theorem dX5_init_4 : decode cX5_init 4 = .ok (.aload_n 0, 1) := by decide +kernel
theorem dX5_init_5 : decode cX5_init 5 = .ok (.aload_n 1, 1) := by decide +kernel
theorem dX5_init_6 : decode cX5_init 6 = .ok (.putfield 9, 3) := by decide +kernel
theorem dX5_init_9 : decode cX5_init 9 = .ok (.aload_n 0, 1) := by decide +kernel
theorem dX5_init_10 : decode cX5_init 10 = .ok (.new 15, 3) := by decide +kernel
theorem dX5_init_13 : decode cX5_init 13 = .ok (.dup, 1) := by decide +kernel
theorem dX5_init_14 : decode cX5_init 14 = .ok (.invokespecial 17, 3) := by decide +kernel
theorem dX5_init_17 : decode cX5_init 17 = .ok (.putfield 18, 3) := by decide +kernel
theorem dX5_init_20 : decode cX5_init 20 = .ok (.aload_n 0, 1) := by decide +kernel
theorem dX5_init_21 : decode cX5_init 21 = .ok (.bipush 8, 2) := by decide +kernel
theorem dX5_init_23 : decode cX5_init 23 = .ok (.newarray .int, 2) := by decide +kernel
theorem dX5_init_25 : decode cX5_init 25 = .ok (.putfield 22, 3) := by decide +kernel
theorem dX5_init_28 : decode cX5_init 28 = .ok (.aload_n 0, 1) := by decide +kernel
theorem dX5_init_29 : decode cX5_init 29 = .ok (.bipush 8, 2) := by decide +kernel
theorem dX5_init_31 : decode cX5_init 31 = .ok (.newarray .int, 2) := by decide +kernel
theorem dX5_init_33 : decode cX5_init 33 = .ok (.putfield 26, 3) := by decide +kernel
theorem dX5_init_36 : decode cX5_init 36 = .ok (.return_, 1) := by decide +kernel
theorem dX6_init_0 : decode cX6_init 0 = .ok (.aload_n 0, 1) := by decide +kernel
theorem dX6_init_1 : decode cX6_init 1 = .ok (.invokespecial 3, 3) := by decide +kernel
theorem dX6_init_4 : decode cX6_init 4 = .ok (.aload_n 0, 1) := by decide +kernel
theorem dX6_init_5 : decode cX6_init 5 = .ok (.sipush 401, 3) := by decide +kernel
theorem dX6_init_8 : decode cX6_init 8 = .ok (.newarray .int, 2) := by decide +kernel
theorem dX6_init_10 : decode cX6_init 10 = .ok (.putfield 9, 3) := by decide +kernel
theorem dX6_init_13 : decode cX6_init 13 = .ok (.aload_n 0, 1) := by decide +kernel
theorem dX6_init_14 : decode cX6_init 14 = .ok (.sipush 401, 3) := by decide +kernel
theorem dX6_init_17 : decode cX6_init 17 = .ok (.newarray .int, 2) := by decide +kernel
theorem dX6_init_19 : decode cX6_init 19 = .ok (.putfield 15, 3) := by decide +kernel
theorem dX6_init_22 : decode cX6_init 22 = .ok (.aload_n 0, 1) := by decide +kernel
theorem dX6_init_23 : decode cX6_init 23 = .ok (.sipush 401, 3) := by decide +kernel
theorem dX6_init_26 : decode cX6_init 26 = .ok (.newarray .int, 2) := by decide +kernel
theorem dX6_init_28 : decode cX6_init 28 = .ok (.putfield 18, 3) := by decide +kernel
theorem dX6_init_31 : decode cX6_init 31 = .ok (.return_, 1) := by decide +kernel
theorem dX7_init_0 : decode cX7_init 0 = .ok (.aload_n 0, 1) := by decide +kernel
theorem dX7_init_1 : decode cX7_init 1 = .ok (.invokespecial 3, 3) := by decide +kernel
theorem dX7_init_4 : decode cX7_init 4 = .ok (.aload_n 0, 1) := by decide +kernel
theorem dX7_init_5 : decode cX7_init 5 = .ok (.iload_n 1, 1) := by decide +kernel
theorem dX7_init_6 : decode cX7_init 6 = .ok (.putfield 9, 3) := by decide +kernel
theorem dX7_init_9 : decode cX7_init 9 = .ok (.aload_n 0, 1) := by decide +kernel
theorem dX7_init_10 : decode cX7_init 10 = .ok (.bipush 6, 2) := by decide +kernel
theorem dX7_init_12 : decode cX7_init 12 = .ok (.newarray .int, 2) := by decide +kernel
theorem dX7_init_14 : decode cX7_init 14 = .ok (.putfield 15, 3) := by decide +kernel
theorem dX7_init_17 : decode cX7_init 17 = .ok (.aload_n 0, 1) := by decide +kernel
theorem dX7_init_18 : decode cX7_init 18 = .ok (.bipush 6, 2) := by decide +kernel
theorem dX7_init_20 : decode cX7_init 20 = .ok (.newarray .int, 2) := by decide +kernel
theorem dX7_init_22 : decode cX7_init 22 = .ok (.putfield 19, 3) := by decide +kernel
theorem dX7_init_25 : decode cX7_init 25 = .ok (.aload_n 0, 1) := by decide +kernel
theorem dX7_init_26 : decode cX7_init 26 = .ok (.bipush 6, 2) := by decide +kernel
theorem dX7_init_28 : decode cX7_init 28 = .ok (.newarray .int, 2) := by decide +kernel
theorem dX7_init_30 : decode cX7_init 30 = .ok (.putfield 22, 3) := by decide +kernel
theorem dX7_init_33 : decode cX7_init 33 = .ok (.aload_n 0, 1) := by decide +kernel
theorem dX7_init_34 : decode cX7_init 34 = .ok (.bipush 10, 2) := by decide +kernel
theorem dX7_init_36 : decode cX7_init 36 = .ok (.newarray .int, 2) := by decide +kernel
theorem dX7_init_38 : decode cX7_init 38 = .ok (.putfield 25, 3) := by decide +kernel
theorem dX7_init_41 : decode cX7_init 41 = .ok (.aload_n 0, 1) := by decide +kernel
theorem dX7_init_42 : decode cX7_init 42 = .ok (.bipush 10, 2) := by decide +kernel
theorem dX7_init_44 : decode cX7_init 44 = .ok (.newarray .int, 2) := by decide +kernel
theorem dX7_init_46 : decode cX7_init 46 = .ok (.putfield 28, 3) := by decide +kernel
theorem dX7_init_49 : decode cX7_init 49 = .ok (.aload_n 0, 1) := by decide +kernel
theorem dX7_init_50 : decode cX7_init 50 = .ok (.bipush 10, 2) := by decide +kernel
theorem dX7_init_52 : decode cX7_init 52 = .ok (.newarray .int, 2) := by decide +kernel
theorem dX7_init_54 : decode cX7_init 54 = .ok (.putfield 31, 3) := by decide +kernel
theorem dX7_init_57 : decode cX7_init 57 = .ok (.aload_n 0, 1) := by decide +kernel
theorem dX7_init_58 : decode cX7_init 58 = .ok (.bipush 10, 2) := by decide +kernel
theorem dX7_init_60 : decode cX7_init 60 = .ok (.newarray .int, 2) := by decide +kernel
theorem dX7_init_62 : decode cX7_init 62 = .ok (.putfield 34, 3) := by decide +kernel
theorem dX7_init_65 : decode cX7_init 65 = .ok (.aload_n 0, 1) := by decide +kernel
theorem dX7_init_66 : decode cX7_init 66 = .ok (.bipush 10, 2) := by decide +kernel
theorem dX7_init_68 : decode cX7_init 68 = .ok (.newarray .int, 2) := by decide +kernel
theorem dX7_init_70 : decode cX7_init 70 = .ok (.putfield 37, 3) := by decide +kernel
theorem dX7_init_73 : decode cX7_init 73 = .ok (.aload_n 0, 1) := by decide +kernel
theorem dX7_init_74 : decode cX7_init 74 = .ok (.bipush 10, 2) := by decide +kernel
theorem dX7_init_76 : decode cX7_init 76 = .ok (.newarray .int, 2) := by decide +kernel
theorem dX7_init_78 : decode cX7_init 78 = .ok (.putfield 40, 3) := by decide +kernel
theorem dX7_init_81 : decode cX7_init 81 = .ok (.aload_n 0, 1) := by decide +kernel
theorem dX7_init_82 : decode cX7_init 82 = .ok (.bipush 10, 2) := by decide +kernel
theorem dX7_init_84 : decode cX7_init 84 = .ok (.newarray .int, 2) := by decide +kernel
theorem dX7_init_86 : decode cX7_init 86 = .ok (.putfield 43, 3) := by decide +kernel
theorem dX7_init_89 : decode cX7_init 89 = .ok (.aload_n 0, 1) := by decide +kernel
theorem dX7_init_90 : decode cX7_init 90 = .ok (.bipush 10, 2) := by decide +kernel
theorem dX7_init_92 : decode cX7_init 92 = .ok (.newarray .int, 2) := by decide +kernel
theorem dX7_init_94 : decode cX7_init 94 = .ok (.putfield 46, 3) := by decide +kernel
theorem dX7_init_97 : decode cX7_init 97 = .ok (.aload_n 0, 1) := by decide +kernel
theorem dX7_init_98 : decode cX7_init 98 = .ok (.bipush 10, 2) := by decide +kernel
theorem dX7_init_100 : decode cX7_init 100 = .ok (.newarray .int, 2) := by decide +kernel
theorem dX7_init_102 : decode cX7_init 102 = .ok (.putfield 49, 3) := by decide +kernel
theorem dX7_init_105 : decode cX7_init 105 = .ok (.return_, 1) := by decide +kernel
theorem dX8_fault_0 : decode cX8_fault 0 = .ok (.aload_n 0, 1) := by decide +kernel
theorem dX8_fault_1 : decode cX8_fault 1 = .ok (.iload_n 1, 1) := by decide +kernel
theorem dX8_fault_2 : decode cX8_fault 2 = .ok (.invokevirtual 139, 3) := by decide +kernel
theorem dX8_fault_5 : decode cX8_fault 5 = .ok (.ifCond .ne 6, 3) := by decide +kernel
theorem dX8_fault_8 : decode cX8_fault 8 = .ok (.bipush (-2), 2) := by decide +kernel
theorem dX8_fault_10 : decode cX8_fault 10 = .ok (.ireturn, 1) := by decide +kernel
theorem dX8_init_0 : decode cX8_init 0 = .ok (.aload_n 0, 1) := by decide +kernel
theorem dX8_init_1 : decode cX8_init 1 = .ok (.invokespecial 1, 3) := by decide +kernel
theorem dX8_init_4 : decode cX8_init 4 = .ok (.aload_n 0, 1) := by decide +kernel
theorem dX8_init_5 : decode cX8_init 5 = .ok (.sipush 400, 3) := by decide +kernel
theorem dX8_init_8 : decode cX8_init 8 = .ok (.newarray .int, 2) := by decide +kernel
theorem dX8_init_10 : decode cX8_init 10 = .ok (.putfield 9, 3) := by decide +kernel
theorem dX8_init_13 : decode cX8_init 13 = .ok (.aload_n 0, 1) := by decide +kernel
theorem dX8_init_14 : decode cX8_init 14 = .ok (.iconst 0, 1) := by decide +kernel
theorem dX8_init_15 : decode cX8_init 15 = .ok (.putfield 13, 3) := by decide +kernel
theorem dX8_init_18 : decode cX8_init 18 = .ok (.aload_n 0, 1) := by decide +kernel
theorem dX8_init_19 : decode cX8_init 19 = .ok (.bipush 6, 2) := by decide +kernel
theorem dX8_init_21 : decode cX8_init 21 = .ok (.anewarray 17, 3) := by decide +kernel
theorem dX8_init_24 : decode cX8_init 24 = .ok (.putfield 19, 3) := by decide +kernel
theorem dX8_init_27 : decode cX8_init 27 = .ok (.aload_n 0, 1) := by decide +kernel
theorem dX8_init_28 : decode cX8_init 28 = .ok (.iconst 0, 1) := by decide +kernel
theorem dX8_init_29 : decode cX8_init 29 = .ok (.putfield 23, 3) := by decide +kernel
theorem dX8_init_32 : decode cX8_init 32 = .ok (.aload_n 0, 1) := by decide +kernel
theorem dX8_init_33 : decode cX8_init 33 = .ok (.iconst 0, 1) := by decide +kernel
theorem dX8_init_34 : decode cX8_init 34 = .ok (.putfield 26, 3) := by decide +kernel
theorem dX8_init_37 : decode cX8_init 37 = .ok (.aload_n 0, 1) := by decide +kernel
theorem dX8_init_38 : decode cX8_init 38 = .ok (.new 29, 3) := by decide +kernel
theorem dX8_init_41 : decode cX8_init 41 = .ok (.dup, 1) := by decide +kernel
theorem dX8_init_42 : decode cX8_init 42 = .ok (.new 31, 3) := by decide +kernel
theorem dX8_init_45 : decode cX8_init 45 = .ok (.dup, 1) := by decide +kernel
theorem dX8_init_46 : decode cX8_init 46 = .ok (.iconst 0, 1) := by decide +kernel
theorem dX8_init_47 : decode cX8_init 47 = .ok (.invokespecial 33, 3) := by decide +kernel
theorem dX8_init_50 : decode cX8_init 50 = .ok (.invokespecial 36, 3) := by decide +kernel
theorem dX8_init_53 : decode cX8_init 53 = .ok (.putfield 39, 3) := by decide +kernel
theorem dX8_init_56 : decode cX8_init 56 = .ok (.aload_n 0, 1) := by decide +kernel
theorem dX8_init_57 : decode cX8_init 57 = .ok (.iconst 4, 1) := by decide +kernel
theorem dX8_init_58 : decode cX8_init 58 = .ok (.anewarray 29, 3) := by decide +kernel
theorem dX8_init_61 : decode cX8_init 61 = .ok (.putfield 43, 3) := by decide +kernel
theorem dX8_init_64 : decode cX8_init 64 = .ok (.aload_n 0, 1) := by decide +kernel
theorem dX8_init_65 : decode cX8_init 65 = .ok (.new 47, 3) := by decide +kernel
theorem dX8_init_68 : decode cX8_init 68 = .ok (.dup, 1) := by decide +kernel
theorem dX8_init_69 : decode cX8_init 69 = .ok (.invokespecial 49, 3) := by decide +kernel
theorem dX8_init_72 : decode cX8_init 72 = .ok (.putfield 50, 3) := by decide +kernel
theorem dX8_init_75 : decode cX8_init 75 = .ok (.aload_n 0, 1) := by decide +kernel
theorem dX8_init_76 : decode cX8_init 76 = .ok (.new 54, 3) := by decide +kernel
theorem dX8_init_79 : decode cX8_init 79 = .ok (.dup, 1) := by decide +kernel
theorem dX8_init_80 : decode cX8_init 80 = .ok (.invokespecial 56, 3) := by decide +kernel
theorem dX8_init_83 : decode cX8_init 83 = .ok (.putfield 57, 3) := by decide +kernel
theorem dX8_init_86 : decode cX8_init 86 = .ok (.aload_n 0, 1) := by decide +kernel
theorem dX8_init_87 : decode cX8_init 87 = .ok (.new 61, 3) := by decide +kernel
theorem dX8_init_90 : decode cX8_init 90 = .ok (.dup, 1) := by decide +kernel
theorem dX8_init_91 : decode cX8_init 91 = .ok (.invokespecial 63, 3) := by decide +kernel
theorem dX8_init_94 : decode cX8_init 94 = .ok (.putfield 64, 3) := by decide +kernel
theorem dX8_init_97 : decode cX8_init 97 = .ok (.aload_n 0, 1) := by decide +kernel
theorem dX8_init_98 : decode cX8_init 98 = .ok (.new 68, 3) := by decide +kernel
theorem dX8_init_101 : decode cX8_init 101 = .ok (.dup, 1) := by decide +kernel
theorem dX8_init_102 : decode cX8_init 102 = .ok (.invokespecial 70, 3) := by decide +kernel
theorem dX8_init_105 : decode cX8_init 105 = .ok (.putfield 71, 3) := by decide +kernel
theorem dX8_init_108 : decode cX8_init 108 = .ok (.return_, 1) := by decide +kernel
theorem dX8_isFault_0 : decode cX8_isFault 0 = .ok (.iload_n 1, 1) := by decide +kernel
theorem dX8_isFault_1 : decode cX8_isFault 1 = .ok (.ifCond .lt 21, 3) := by decide +kernel
theorem dX8_isFault_4 : decode cX8_isFault 4 = .ok (.iload_n 1, 1) := by decide +kernel
theorem dX8_isFault_5 : decode cX8_isFault 5 = .ok (.aload_n 0, 1) := by decide +kernel
theorem dX8_isFault_6 : decode cX8_isFault 6 = .ok (.getfield 39, 3) := by decide +kernel
theorem dX8_isFault_9 : decode cX8_isFault 9 = .ok (.getfield 119, 3) := by decide +kernel
theorem dX8_isFault_12 : decode cX8_isFault 12 = .ok (.getfield 102, 3) := by decide +kernel
theorem dX8_isFault_15 : decode cX8_isFault 15 = .ok (.if_icmp .ge 7, 3) := by decide +kernel
theorem dX8_isFault_22 : decode cX8_isFault 22 = .ok (.iconst 0, 1) := by decide +kernel
theorem dX8_isFault_23 : decode cX8_isFault 23 = .ok (.ireturn, 1) := by decide +kernel
theorem dX8_kind_0 : decode cX8_kind 0 = .ok (.aload_n 0, 1) := by decide +kernel
theorem dX8_kind_1 : decode cX8_kind 1 = .ok (.getfield 39, 3) := by decide +kernel
theorem dX8_kind_4 : decode cX8_kind 4 = .ok (.getfield 119, 3) := by decide +kernel
theorem dX8_kind_7 : decode cX8_kind 7 = .ok (.astore_n 3, 1) := by decide +kernel
theorem dX8_kind_8 : decode cX8_kind 8 = .ok (.iload_n 1, 1) := by decide +kernel
theorem dX8_kind_9 : decode cX8_kind 9 = .ok (.ifCond .lt 11, 3) := by decide +kernel
theorem dX8_kind_12 : decode cX8_kind 12 = .ok (.iload_n 1, 1) := by decide +kernel
theorem dX8_kind_13 : decode cX8_kind 13 = .ok (.aload_n 3, 1) := by decide +kernel
theorem dX8_kind_14 : decode cX8_kind 14 = .ok (.getfield 123, 3) := by decide +kernel
theorem dX8_kind_17 : decode cX8_kind 17 = .ok (.if_icmp .lt 5, 3) := by decide +kernel
theorem dX8_kind_20 : decode cX8_kind 20 = .ok (.iconst (-1), 1) := by decide +kernel
theorem dX8_kind_21 : decode cX8_kind 21 = .ok (.ireturn, 1) := by decide +kernel
theorem dX8_look_0 : decode cX8_look 0 = .ok (.aload_n 0, 1) := by decide +kernel
theorem dX8_look_1 : decode cX8_look 1 = .ok (.iload_n 1, 1) := by decide +kernel
theorem dX8_look_2 : decode cX8_look 2 = .ok (.invokevirtual 139, 3) := by decide +kernel
theorem dX8_look_5 : decode cX8_look 5 = .ok (.ifCond .ne 5, 3) := by decide +kernel
theorem dX8_look_8 : decode cX8_look 8 = .ok (.iconst (-1), 1) := by decide +kernel
theorem dX8_look_9 : decode cX8_look 9 = .ok (.ireturn, 1) := by decide +kernel
theorem dX9_fault_0 : decode cX9_fault 0 = .ok (.aload_n 0, 1) := by decide +kernel
theorem dX9_fault_1 : decode cX9_fault 1 = .ok (.iload_n 1, 1) := by decide +kernel
theorem dX9_fault_2 : decode cX9_fault 2 = .ok (.invokevirtual 280, 3) := by decide +kernel
theorem dX9_fault_5 : decode cX9_fault 5 = .ok (.ifCond .eq 15, 3) := by decide +kernel
theorem dX9_fault_20 : decode cX9_fault 20 = .ok (.bipush (-2), 2) := by decide +kernel
theorem dX9_fault_22 : decode cX9_fault 22 = .ok (.ireturn, 1) := by decide +kernel
theorem dX9_in_0 : decode cX9_in 0 = .ok (.lload_n 0, 1) := by decide +kernel
theorem dX9_in_1 : decode cX9_in 1 = .ok (.lload_n 2, 1) := by decide +kernel
theorem dX9_in_2 : decode cX9_in 2 = .ok (.lcmp, 1) := by decide +kernel
theorem dX9_in_3 : decode cX9_in 3 = .ok (.ifCond .lt 14, 3) := by decide +kernel
theorem dX9_in_6 : decode cX9_in 6 = .ok (.lload_n 0, 1) := by decide +kernel
theorem dX9_in_7 : decode cX9_in 7 = .ok (.lload 4, 2) := by decide +kernel
theorem dX9_in_9 : decode cX9_in 9 = .ok (.lcmp, 1) := by decide +kernel
theorem dX9_in_10 : decode cX9_in 10 = .ok (.ifCond .gt 7, 3) := by decide +kernel
theorem dX9_in_17 : decode cX9_in 17 = .ok (.iconst 0, 1) := by decide +kernel
theorem dX9_in_18 : decode cX9_in 18 = .ok (.ireturn, 1) := by decide +kernel
theorem dX9_init_0 : decode cX9_init 0 = .ok (.aload_n 0, 1) := by decide +kernel
theorem dX9_init_1 : decode cX9_init 1 = .ok (.invokespecial 1, 3) := by decide +kernel
theorem dX9_init_4 : decode cX9_init 4 = .ok (.aload_n 0, 1) := by decide +kernel
theorem dX9_init_5 : decode cX9_init 5 = .ok (.sipush 400, 3) := by decide +kernel
theorem dX9_init_8 : decode cX9_init 8 = .ok (.newarray .byte, 2) := by decide +kernel
theorem dX9_init_10 : decode cX9_init 10 = .ok (.putfield 7, 3) := by decide +kernel
theorem dX9_init_13 : decode cX9_init 13 = .ok (.aload_n 0, 1) := by decide +kernel
theorem dX9_init_14 : decode cX9_init 14 = .ok (.sipush 2400, 3) := by decide +kernel
theorem dX9_init_17 : decode cX9_init 17 = .ok (.newarray .int, 2) := by decide +kernel
theorem dX9_init_19 : decode cX9_init 19 = .ok (.putfield 13, 3) := by decide +kernel
theorem dX9_init_22 : decode cX9_init 22 = .ok (.aload_n 0, 1) := by decide +kernel
theorem dX9_init_23 : decode cX9_init 23 = .ok (.bipush 7, 2) := by decide +kernel
theorem dX9_init_25 : decode cX9_init 25 = .ok (.newarray .int, 2) := by decide +kernel
theorem dX9_init_27 : decode cX9_init 27 = .ok (.putfield 17, 3) := by decide +kernel
theorem dX9_init_30 : decode cX9_init 30 = .ok (.aload_n 0, 1) := by decide +kernel
theorem dX9_init_31 : decode cX9_init 31 = .ok (.sipush 360, 3) := by decide +kernel
theorem dX9_init_34 : decode cX9_init 34 = .ok (.newarray .int, 2) := by decide +kernel
theorem dX9_init_36 : decode cX9_init 36 = .ok (.putfield 20, 3) := by decide +kernel
theorem dX9_init_39 : decode cX9_init 39 = .ok (.aload_n 0, 1) := by decide +kernel
theorem dX9_init_40 : decode cX9_init 40 = .ok (.bipush 6, 2) := by decide +kernel
theorem dX9_init_42 : decode cX9_init 42 = .ok (.newarray .int, 2) := by decide +kernel
theorem dX9_init_44 : decode cX9_init 44 = .ok (.putfield 23, 3) := by decide +kernel
theorem dX9_init_47 : decode cX9_init 47 = .ok (.aload_n 0, 1) := by decide +kernel
theorem dX9_init_48 : decode cX9_init 48 = .ok (.bipush 18, 2) := by decide +kernel
theorem dX9_init_50 : decode cX9_init 50 = .ok (.newarray .int, 2) := by decide +kernel
theorem dX9_init_52 : decode cX9_init 52 = .ok (.putfield 26, 3) := by decide +kernel
theorem dX9_init_55 : decode cX9_init 55 = .ok (.aload_n 0, 1) := by decide +kernel
theorem dX9_init_56 : decode cX9_init 56 = .ok (.bipush 40, 2) := by decide +kernel
theorem dX9_init_58 : decode cX9_init 58 = .ok (.newarray .int, 2) := by decide +kernel
theorem dX9_init_60 : decode cX9_init 60 = .ok (.putfield 29, 3) := by decide +kernel
theorem dX9_init_63 : decode cX9_init 63 = .ok (.aload_n 0, 1) := by decide +kernel
theorem dX9_init_64 : decode cX9_init 64 = .ok (.sipush 400, 3) := by decide +kernel
theorem dX9_init_67 : decode cX9_init 67 = .ok (.newarray .int, 2) := by decide +kernel
theorem dX9_init_69 : decode cX9_init 69 = .ok (.putfield 32, 3) := by decide +kernel
theorem dX9_init_72 : decode cX9_init 72 = .ok (.aload_n 0, 1) := by decide +kernel
theorem dX9_init_73 : decode cX9_init 73 = .ok (.bipush 64, 2) := by decide +kernel
theorem dX9_init_75 : decode cX9_init 75 = .ok (.newarray .long, 2) := by decide +kernel
theorem dX9_init_77 : decode cX9_init 77 = .ok (.putfield 35, 3) := by decide +kernel
theorem dX9_init_80 : decode cX9_init 80 = .ok (.aload_n 0, 1) := by decide +kernel
theorem dX9_init_81 : decode cX9_init 81 = .ok (.bipush 9, 2) := by decide +kernel
theorem dX9_init_83 : decode cX9_init 83 = .ok (.newarray .long, 2) := by decide +kernel
theorem dX9_init_85 : decode cX9_init 85 = .ok (.putfield 39, 3) := by decide +kernel
theorem dX9_init_88 : decode cX9_init 88 = .ok (.aload_n 0, 1) := by decide +kernel
theorem dX9_init_89 : decode cX9_init 89 = .ok (.bipush 104, 2) := by decide +kernel
theorem dX9_init_91 : decode cX9_init 91 = .ok (.newarray .int, 2) := by decide +kernel
theorem dX9_init_93 : decode cX9_init 93 = .ok (.putfield 42, 3) := by decide +kernel
theorem dX9_init_96 : decode cX9_init 96 = .ok (.aload_n 0, 1) := by decide +kernel
theorem dX9_init_97 : decode cX9_init 97 = .ok (.bipush 104, 2) := by decide +kernel
theorem dX9_init_99 : decode cX9_init 99 = .ok (.newarray .int, 2) := by decide +kernel
theorem dX9_init_101 : decode cX9_init 101 = .ok (.putfield 45, 3) := by decide +kernel
theorem dX9_init_104 : decode cX9_init 104 = .ok (.aload_n 0, 1) := by decide +kernel
theorem dX9_init_105 : decode cX9_init 105 = .ok (.bipush 6, 2) := by decide +kernel
theorem dX9_init_107 : decode cX9_init 107 = .ok (.newarray .int, 2) := by decide +kernel
theorem dX9_init_109 : decode cX9_init 109 = .ok (.putfield 48, 3) := by decide +kernel
theorem dX9_init_112 : decode cX9_init 112 = .ok (.aload_n 0, 1) := by decide +kernel
theorem dX9_init_113 : decode cX9_init 113 = .ok (.bipush 6, 2) := by decide +kernel
theorem dX9_init_115 : decode cX9_init 115 = .ok (.newarray .boolean, 2) := by decide +kernel
theorem dX9_init_117 : decode cX9_init 117 = .ok (.putfield 51, 3) := by decide +kernel
theorem dX9_init_120 : decode cX9_init 120 = .ok (.aload_n 0, 1) := by decide +kernel
theorem dX9_init_121 : decode cX9_init 121 = .ok (.bipush 6, 2) := by decide +kernel
theorem dX9_init_123 : decode cX9_init 123 = .ok (.newarray .long, 2) := by decide +kernel
theorem dX9_init_125 : decode cX9_init 125 = .ok (.putfield 55, 3) := by decide +kernel
theorem dX9_init_128 : decode cX9_init 128 = .ok (.aload_n 0, 1) := by decide +kernel
theorem dX9_init_129 : decode cX9_init 129 = .ok (.bipush 6, 2) := by decide +kernel
theorem dX9_init_131 : decode cX9_init 131 = .ok (.newarray .long, 2) := by decide +kernel
theorem dX9_init_133 : decode cX9_init 133 = .ok (.putfield 58, 3) := by decide +kernel
theorem dX9_init_136 : decode cX9_init 136 = .ok (.aload_n 0, 1) := by decide +kernel
theorem dX9_init_137 : decode cX9_init 137 = .ok (.bipush 6, 2) := by decide +kernel
theorem dX9_init_139 : decode cX9_init 139 = .ok (.newarray .long, 2) := by decide +kernel
theorem dX9_init_141 : decode cX9_init 141 = .ok (.putfield 61, 3) := by decide +kernel
theorem dX9_init_144 : decode cX9_init 144 = .ok (.aload_n 0, 1) := by decide +kernel
theorem dX9_init_145 : decode cX9_init 145 = .ok (.bipush 6, 2) := by decide +kernel
theorem dX9_init_147 : decode cX9_init 147 = .ok (.newarray .long, 2) := by decide +kernel
theorem dX9_init_149 : decode cX9_init 149 = .ok (.putfield 64, 3) := by decide +kernel
theorem dX9_init_152 : decode cX9_init 152 = .ok (.aload_n 0, 1) := by decide +kernel
theorem dX9_init_153 : decode cX9_init 153 = .ok (.bipush 6, 2) := by decide +kernel
theorem dX9_init_155 : decode cX9_init 155 = .ok (.newarray .int, 2) := by decide +kernel
theorem dX9_init_157 : decode cX9_init 157 = .ok (.putfield 67, 3) := by decide +kernel
theorem dX9_init_160 : decode cX9_init 160 = .ok (.aload_n 0, 1) := by decide +kernel
theorem dX9_init_161 : decode cX9_init 161 = .ok (.bipush 6, 2) := by decide +kernel
theorem dX9_init_163 : decode cX9_init 163 = .ok (.newarray .int, 2) := by decide +kernel
theorem dX9_init_165 : decode cX9_init 165 = .ok (.putfield 70, 3) := by decide +kernel
theorem dX9_init_168 : decode cX9_init 168 = .ok (.aload_n 0, 1) := by decide +kernel
theorem dX9_init_169 : decode cX9_init 169 = .ok (.sipush 416, 3) := by decide +kernel
theorem dX9_init_172 : decode cX9_init 172 = .ok (.newarray .int, 2) := by decide +kernel
theorem dX9_init_174 : decode cX9_init 174 = .ok (.putfield 73, 3) := by decide +kernel
theorem dX9_init_177 : decode cX9_init 177 = .ok (.aload_n 0, 1) := by decide +kernel
theorem dX9_init_178 : decode cX9_init 178 = .ok (.iconst 4, 1) := by decide +kernel
theorem dX9_init_179 : decode cX9_init 179 = .ok (.newarray .boolean, 2) := by decide +kernel
theorem dX9_init_181 : decode cX9_init 181 = .ok (.putfield 76, 3) := by decide +kernel
theorem dX9_init_184 : decode cX9_init 184 = .ok (.return_, 1) := by decide +kernel
theorem dX9_isFault_0 : decode cX9_isFault 0 = .ok (.iload_n 1, 1) := by decide +kernel
theorem dX9_isFault_1 : decode cX9_isFault 1 = .ok (.ifCond .lt 17, 3) := by decide +kernel
theorem dX9_isFault_4 : decode cX9_isFault 4 = .ok (.iload_n 1, 1) := by decide +kernel
theorem dX9_isFault_5 : decode cX9_isFault 5 = .ok (.aload_n 0, 1) := by decide +kernel
theorem dX9_isFault_6 : decode cX9_isFault 6 = .ok (.getfield 42, 3) := by decide +kernel
theorem dX9_isFault_9 : decode cX9_isFault 9 = .ok (.iconst 0, 1) := by decide +kernel
theorem dX9_isFault_10 : decode cX9_isFault 10 = .ok (.iaload, 1) := by decide +kernel
theorem dX9_isFault_11 : decode cX9_isFault 11 = .ok (.if_icmp .ge 7, 3) := by decide +kernel
theorem dX9_isFault_18 : decode cX9_isFault 18 = .ok (.iconst 0, 1) := by decide +kernel
theorem dX9_isFault_19 : decode cX9_isFault 19 = .ok (.ireturn, 1) := by decide +kernel
theorem dX9_kind_0 : decode cX9_kind 0 = .ok (.iload_n 1, 1) := by decide +kernel
theorem dX9_kind_1 : decode cX9_kind 1 = .ok (.i2l, 1) := by decide +kernel
theorem dX9_kind_2 : decode cX9_kind 2 = .ok (.lconst 0, 1) := by decide +kernel
theorem dX9_kind_3 : decode cX9_kind 3 = .ok (.aload_n 0, 1) := by decide +kernel
theorem dX9_kind_4 : decode cX9_kind 4 = .ok (.getfield 42, 3) := by decide +kernel
theorem dX9_kind_7 : decode cX9_kind 7 = .ok (.iconst 1, 1) := by decide +kernel
theorem dX9_kind_8 : decode cX9_kind 8 = .ok (.iaload, 1) := by decide +kernel
theorem dX9_kind_9 : decode cX9_kind 9 = .ok (.iconst 1, 1) := by decide +kernel
theorem dX9_kind_10 : decode cX9_kind 10 = .ok (.isub, 1) := by decide +kernel
theorem dX9_kind_11 : decode cX9_kind 11 = .ok (.i2l, 1) := by decide +kernel
theorem dX9_kind_12 : decode cX9_kind 12 = .ok (.invokestatic 118, 3) := by decide +kernel
theorem dX9_kind_15 : decode cX9_kind 15 = .ok (.ifCond .eq 31, 3) := by decide +kernel
theorem dX9_kind_46 : decode cX9_kind 46 = .ok (.iconst (-1), 1) := by decide +kernel
theorem dX9_kind_47 : decode cX9_kind 47 = .ok (.ireturn, 1) := by decide +kernel
theorem dX9_look_0 : decode cX9_look 0 = .ok (.aload_n 0, 1) := by decide +kernel
theorem dX9_look_1 : decode cX9_look 1 = .ok (.iload_n 1, 1) := by decide +kernel
theorem dX9_look_2 : decode cX9_look 2 = .ok (.invokevirtual 280, 3) := by decide +kernel
theorem dX9_look_5 : decode cX9_look 5 = .ok (.ifCond .ne 5, 3) := by decide +kernel
theorem dX9_look_8 : decode cX9_look 8 = .ok (.iconst (-1), 1) := by decide +kernel
theorem dX9_look_9 : decode cX9_look 9 = .ok (.ireturn, 1) := by decide +kernel
end
section
-- ===== end of PART A; then your names; then what follows =====
/-! THE CLAIM OUT OF ONE WALK OF THE LAW'S BODY. Your part is whole_start (and what it stands on); all else here is the same for every law, but numbers. -/
def R_law : String := "PaidMistakesLaw"
def lw_P (b : Addr) (xs : List Int32) (args : Array Value) (s : State) : Prop := args = #[.ref b] ∧ s.IntsAt b xs ∧ xs.length ≤ 6 ∧ (Jvm.Cond.and given_1 narrow_1).before args s = true
def lw_Q (_ : Array Value) (s : State) (o : Outcome) (t : State) : Prop := o = .returned (some (.int 1)) ∧ Framed s o t [] 600000 7302250
def lw_Z (below : List Frame) (a : Array Value) (s : State) : State → Prop := fun t => ∃ o, t.status = .running ∧ Ended t below o ∧ lw_Q a s o t
/-- the law's own end, with 1 on the stack, nothing written that was there before, its room as the claim has it -/
theorem lw_ret {p : Program} {l : Launch} {e : Env} {s : State} {m : MethodId} {below : List Frame} {meth : Method} {c : Code} {b : Nat} (hx : p.tables.exec = Jvm.exec) (hb : c.code = code) (hr : meth.sig.returnType = ret) (hlocks : meth.locks = false) {pc : Nat} {H : Heap} {ls : Array Slot} (hdg : decode code pc = .ok (.ireturn, 1)) : W p l e room_1 s m #[Value.ref b] below meth c H [] 600000 7302250 (lw_Z below #[Value.ref b] s) (F0 m pc ls [.int 1]) := by
  intro T hT X
  obtain ⟨fs, hret, hrun, hended, hW, hframe⟩ := X.leave (v := some (.int 1)) (hlocks := hlocks) (fun h => by rw [hr] at h; cases h)
  have hmeth' : T.vm.method? m = some meth := X.method'
  refine ⟨T.setFrames fs, ?_, .returned (some (.int 1)), hrun, hended, rfl, ⟨_, rfl⟩, hW, hframe⟩
  jvm_step X.here [X.here.top, hx, hb, hdg, hmeth', hr, ret, narrow_b1]
  (try refine ⟨rfl, ?_⟩); (try refine ⟨rfl, ?_⟩)
  first | (intro acts; rw [hret _ acts rfl rfl rfl]) | rw [hret _ _ rfl rfl rfl]
  exact Steps.refl _
/-- what holds at the law's entry: the machine, the code, the tables' words (any of lw_tbl by 'hts w (by decide +kernel)'), the script of L ints xs at the cell b, what the Statement gives of the start (any of its parts by flat_of_before) -/
def lw_At (p : Program) (s : State) (m : MethodId) (meth : Method) (c : Code) (b L : Nat) (xs : Nat → Int32) : Prop :=
  p.tables.exec = Jvm.exec ∧ c.code = code ∧ meth.sig.returnType = ret ∧ c.maxLocals = 4 ∧ s.vm.findClass R_law = some m.cls ∧ (∀ w ∈ lw_tbl, w.before #[Value.ref b] s = true) ∧ va_X b L xs s s.heap ∧ b < s.heap.size ∧ meth.locks = false ∧ (Jvm.Cond.and given_1 narrow_1).before #[Value.ref b] s = true
set_option maxHeartbeats 4000000 in
theorem law_tail {p : Program} {l : Launch} {e : Env} {s : State} {m : MethodId} {below : List Frame} {meth : Method} {c : Code} {b : Nat} {xs : Nat → Int32} {A : Nat → Prop} (C : Cx p s m #[Value.ref b] meth c ML_law) (hX : va_X b 6 xs s s.heap) (hbl : b < s.heap.size) (hAi : ∀ q, A q → s.heap.size ≤ q) {H : Heap} {locs : List Loc} (hS : va_S A s.heap H locs) {cells slots : Nat} (hc : cells ≤ 600000) (hs : slots ≤ 7302250) {ls : Array Slot} (hl : lv_has ls 4 [(0, .ref b), (3, .int 0)]) : W p l e room_1 s m #[Value.ref b] below meth c H locs cells slots (lw_Z below #[Value.ref b] s) (F0 m 928 ls []) := by
  obtain ⟨hx, hb, hml, hown, hts, hr, hlocks, hnm⟩ := id C
  have hb : c.code = cL_law := hb
  have hbA : ¬ A b := fun q => Nat.not_le.mpr hbl (hAi b q)
  refine lv_iinc (v := 6) (lv' := [(3, .int 6), (0, .ref b)]) hx hb dL_law_928 hl (k := 1) rfl (by decide) (by decide) rfl (fun ls hl => ?_)
  refine lv_goto (tgt := 18) hx hb dL_law_931 (by decide) ?_
  refine lv_iload_n hx hb dL_law_18 rfl (lv_at hl 0 rfl) ?_
  refine lv_aload_n hx hb dL_law_19 rfl (lv_at hl 1 rfl) ?_
  refine va_slen hx hb hX hbl hbA hS dL_law_20 ?_
  refine lv_bipush (v := 6) hx hb dL_law_21 (by decide) ?_
  refine lv_isub hx hb dL_law_23 ?_
  refine lv_icmp_gt (tgt := 934) hx hb dL_law_24 (by decide) (fun c9 => ?_) (fun c9 => absurd (by decide) c9)
  refine lv_iconst (v := 1) hx hb dL_law_934 (by decide) ?_
  refine va_forget (fun q hq => hAi _ (hS.2.2 q hq)) ?_
  refine W.widen (k := 600000) (n := 7302250) hc hs ?_
  exact lw_ret hx hb hr hlocks dL_law_935
end
section
set_option maxHeartbeats 4000000 in
set_option maxRecDepth 100000 in
theorem c_X7_init_0 (l : Launch) (D : va_G) (a : Nat → ClassId) (q105 : Nat) (sz : Nat) : CMv (S := SS) l MX7_init 1 20 12 108 D a [.ref q105, .int 0] [(q105, .inr (7, [.int 0, .int 0, .int 0, .int 0, .int 0, .null, .null, .null, .null, .null, .null, .null, .null, .null, .null, .null, .null, .int 0]))] sz (fun u => (∃ q118 : Nat, ∃ q119 : Nat, ∃ q120 : Nat, ∃ q121 : Nat, ∃ q122 : Nat, ∃ q123 : Nat, ∃ q124 : Nat, ∃ q125 : Nat, ∃ q126 : Nat, ∃ q127 : Nat, ∃ q128 : Nat, ∃ q129 : Nat, u = (0, [q118, q119, q120, q121, q122, q123, q124, q125, q126, q127, q128, q129], [], [], [], []))) (fun u => pk [[(q105, .inr (7, [.int 0, .int 0, .int 0, .int 0, .int 0, .ref (u.2.1.getD 0 0), .ref (u.2.1.getD 1 0), .ref (u.2.1.getD 2 0), .ref (u.2.1.getD 3 0), .ref (u.2.1.getD 4 0), .ref (u.2.1.getD 5 0), .ref (u.2.1.getD 6 0), .ref (u.2.1.getD 7 0), .ref (u.2.1.getD 8 0), .ref (u.2.1.getD 9 0), .ref (u.2.1.getD 10 0), .ref (u.2.1.getD 11 0), .int 0])), ((u.2.1.getD 0 0), .inl (a 0, 6, .inl (fun _ => 0))), ((u.2.1.getD 1 0), .inl (a 0, 6, .inl (fun _ => 0))), ((u.2.1.getD 2 0), .inl (a 0, 6, .inl (fun _ => 0))), ((u.2.1.getD 3 0), .inl (a 0, 10, .inl (fun _ => 0))), ((u.2.1.getD 4 0), .inl (a 0, 10, .inl (fun _ => 0))), ((u.2.1.getD 5 0), .inl (a 0, 10, .inl (fun _ => 0))), ((u.2.1.getD 6 0), .inl (a 0, 10, .inl (fun _ => 0))), ((u.2.1.getD 7 0), .inl (a 0, 10, .inl (fun _ => 0))), ((u.2.1.getD 8 0), .inl (a 0, 10, .inl (fun _ => 0))), ((u.2.1.getD 9 0), .inl (a 0, 10, .inl (fun _ => 0))), ((u.2.1.getD 10 0), .inl (a 0, 10, .inl (fun _ => 0))), ((u.2.1.getD 11 0), .inl (a 0, 10, .inl (fun _ => 0)))]] u.1) := by
  refine entMv (by decide) (Nat.le_of_ble_eq_true rfl) ?_
  intro p e s m below meth c C hK A hA hP hD ls hl
  obtain ⟨hx, hb, hml, hown, hts, hr, hlocks, hnm⟩ := id C
  have hb : c.code = cX7_init := hb
  have hown : s.vm.findClass RX7 = some m.cls := hown
  have hS : va_S A s.heap s.heap [] := va_S.rf
  have hl : lv_has ls 2 [(0, .ref q105), (1, .int 0)] := hl
  refine lv_aload_n hx hb dX7_init_0 rfl (lv_at hl 0 rfl) ?_
  refine W.objInit hx hb hown (hts _ t_36) (hts _ t_25) (hts _ t_26) rfl (by rw [hml]; exact hl.1) rfl dX7_init_1 (Nat.le_of_ble_eq_true rfl) (Nat.le_of_ble_eq_true rfl) ?_
  refine W.eq (g2 := F0 m 4 ls []) rfl ?_
  refine lv_aload_n hx hb dX7_init_4 rfl (lv_at hl 0 rfl) ?_
  refine lv_iload_n hx hb dX7_init_5 rfl (lv_at hl 1 rfl) ?_
  refine va_putF (D := D) (v := .int 0) (C := RX7) (T := TX7) (N := 18) hx hb hts iX7 tyX7 tyX7_ok nmX7 hown hK.1 hP hD hS 0 rfl rfl 0 (by decide) (hts _ t_37) (fun _ h9 => h9) rfl (hnm rfl) rfl (tyX7_ok 0 (by decide)) rfl rfl (Nat.le_of_ble_eq_true rfl) dX7_init_6 (fun H locs hP hD hS => ?_)
  have hP : va_P D classes [(q105, .inr (7, [.int 0, .int 0, .int 0, .int 0, .int 0, .null, .null, .null, .null, .null, .null, .null, .null, .null, .null, .null, .null, .int 0]))] H := hP
  have hD : va_D A [(q105, .inr (7, [.int 0, .int 0, .int 0, .int 0, .int 0, .null, .null, .null, .null, .null, .null, .null, .null, .null, .null, .null, .null, .int 0]))] := hD
  refine lv_aload_n hx hb dX7_init_9 rfl (lv_at hl 0 rfl) ?_
  refine lv_bipush (v := 6) hx hb dX7_init_10 (by decide) ?_
  refine newA (atype := .int) (a0 := (6, .inl (fun _ => 0))) hx hb hK 0 rfl ra_int (hts _ t_119) rfl hP hD hS hA (fun _ => rfl) (by decide) (by decide) (by decide) (Nat.le_of_ble_eq_true rfl) (Nat.le_of_ble_eq_true rfl) dX7_init_12 (fun q118 H hP hD hS => ?_)
  have hP : va_P D classes [(q105, .inr (7, [.int 0, .int 0, .int 0, .int 0, .int 0, .null, .null, .null, .null, .null, .null, .null, .null, .null, .null, .null, .null, .int 0])), (q118, .inl (a 0, 6, .inl (fun _ => 0)))] H := hP
  have hD : va_D A [(q105, .inr (7, [.int 0, .int 0, .int 0, .int 0, .int 0, .null, .null, .null, .null, .null, .null, .null, .null, .null, .null, .null, .null, .int 0])), (q118, .inl (a 0, 6, .inl (fun _ => 0)))] := hD
  refine W.cs (cells' := 1) (slots' := 6) rfl rfl ?_
  refine va_putF (D := D) (v := .ref q118) (C := RX7) (T := TX7) (N := 18) hx hb hts iX7 tyX7 tyX7_ok nmX7 hown hK.1 hP hD hS 0 rfl rfl 5 (by decide) (hts _ t_49) (fun _ h9 => h9) rfl (hnm rfl) rfl (tyX7_ok 5 (by decide)) rfl rfl (Nat.le_of_ble_eq_true rfl) dX7_init_14 (fun H locs hP hD hS => ?_)
  have hP : va_P D classes [(q105, .inr (7, [.int 0, .int 0, .int 0, .int 0, .int 0, .ref q118, .null, .null, .null, .null, .null, .null, .null, .null, .null, .null, .null, .int 0])), (q118, .inl (a 0, 6, .inl (fun _ => 0)))] H := hP
  have hD : va_D A [(q105, .inr (7, [.int 0, .int 0, .int 0, .int 0, .int 0, .ref q118, .null, .null, .null, .null, .null, .null, .null, .null, .null, .null, .null, .int 0])), (q118, .inl (a 0, 6, .inl (fun _ => 0)))] := hD
  refine lv_aload_n hx hb dX7_init_17 rfl (lv_at hl 0 rfl) ?_
  refine lv_bipush (v := 6) hx hb dX7_init_18 (by decide) ?_
  refine newA (atype := .int) (a0 := (6, .inl (fun _ => 0))) hx hb hK 0 rfl ra_int (hts _ t_119) rfl hP hD hS hA (fun _ => rfl) (by decide) (by decide) (by decide) (Nat.le_of_ble_eq_true rfl) (Nat.le_of_ble_eq_true rfl) dX7_init_20 (fun q119 H hP hD hS => ?_)
  have hP : va_P D classes [(q105, .inr (7, [.int 0, .int 0, .int 0, .int 0, .int 0, .ref q118, .null, .null, .null, .null, .null, .null, .null, .null, .null, .null, .null, .int 0])), (q118, .inl (a 0, 6, .inl (fun _ => 0))), (q119, .inl (a 0, 6, .inl (fun _ => 0)))] H := hP
  have hD : va_D A [(q105, .inr (7, [.int 0, .int 0, .int 0, .int 0, .int 0, .ref q118, .null, .null, .null, .null, .null, .null, .null, .null, .null, .null, .null, .int 0])), (q118, .inl (a 0, 6, .inl (fun _ => 0))), (q119, .inl (a 0, 6, .inl (fun _ => 0)))] := hD
  refine W.cs (cells' := 2) (slots' := 12) rfl rfl ?_
  refine va_putF (D := D) (v := .ref q119) (C := RX7) (T := TX7) (N := 18) hx hb hts iX7 tyX7 tyX7_ok nmX7 hown hK.1 hP hD hS 0 rfl rfl 6 (by decide) (hts _ t_51) (fun _ h9 => h9) rfl (hnm rfl) rfl (tyX7_ok 6 (by decide)) rfl rfl (Nat.le_of_ble_eq_true rfl) dX7_init_22 (fun H locs hP hD hS => ?_)
  have hP : va_P D classes [(q105, .inr (7, [.int 0, .int 0, .int 0, .int 0, .int 0, .ref q118, .ref q119, .null, .null, .null, .null, .null, .null, .null, .null, .null, .null, .int 0])), (q118, .inl (a 0, 6, .inl (fun _ => 0))), (q119, .inl (a 0, 6, .inl (fun _ => 0)))] H := hP
  have hD : va_D A [(q105, .inr (7, [.int 0, .int 0, .int 0, .int 0, .int 0, .ref q118, .ref q119, .null, .null, .null, .null, .null, .null, .null, .null, .null, .null, .int 0])), (q118, .inl (a 0, 6, .inl (fun _ => 0))), (q119, .inl (a 0, 6, .inl (fun _ => 0)))] := hD
  refine lv_aload_n hx hb dX7_init_25 rfl (lv_at hl 0 rfl) ?_
  refine lv_bipush (v := 6) hx hb dX7_init_26 (by decide) ?_
  refine newA (atype := .int) (a0 := (6, .inl (fun _ => 0))) hx hb hK 0 rfl ra_int (hts _ t_119) rfl hP hD hS hA (fun _ => rfl) (by decide) (by decide) (by decide) (Nat.le_of_ble_eq_true rfl) (Nat.le_of_ble_eq_true rfl) dX7_init_28 (fun q120 H hP hD hS => ?_)
  have hP : va_P D classes [(q105, .inr (7, [.int 0, .int 0, .int 0, .int 0, .int 0, .ref q118, .ref q119, .null, .null, .null, .null, .null, .null, .null, .null, .null, .null, .int 0])), (q118, .inl (a 0, 6, .inl (fun _ => 0))), (q119, .inl (a 0, 6, .inl (fun _ => 0))), (q120, .inl (a 0, 6, .inl (fun _ => 0)))] H := hP
  have hD : va_D A [(q105, .inr (7, [.int 0, .int 0, .int 0, .int 0, .int 0, .ref q118, .ref q119, .null, .null, .null, .null, .null, .null, .null, .null, .null, .null, .int 0])), (q118, .inl (a 0, 6, .inl (fun _ => 0))), (q119, .inl (a 0, 6, .inl (fun _ => 0))), (q120, .inl (a 0, 6, .inl (fun _ => 0)))] := hD
  refine W.cs (cells' := 3) (slots' := 18) rfl rfl ?_
  refine va_putF (D := D) (v := .ref q120) (C := RX7) (T := TX7) (N := 18) hx hb hts iX7 tyX7 tyX7_ok nmX7 hown hK.1 hP hD hS 0 rfl rfl 7 (by decide) (hts _ t_53) (fun _ h9 => h9) rfl (hnm rfl) rfl (tyX7_ok 7 (by decide)) rfl rfl (Nat.le_of_ble_eq_true rfl) dX7_init_30 (fun H locs hP hD hS => ?_)
  have hP : va_P D classes [(q105, .inr (7, [.int 0, .int 0, .int 0, .int 0, .int 0, .ref q118, .ref q119, .ref q120, .null, .null, .null, .null, .null, .null, .null, .null, .null, .int 0])), (q118, .inl (a 0, 6, .inl (fun _ => 0))), (q119, .inl (a 0, 6, .inl (fun _ => 0))), (q120, .inl (a 0, 6, .inl (fun _ => 0)))] H := hP
  have hD : va_D A [(q105, .inr (7, [.int 0, .int 0, .int 0, .int 0, .int 0, .ref q118, .ref q119, .ref q120, .null, .null, .null, .null, .null, .null, .null, .null, .null, .int 0])), (q118, .inl (a 0, 6, .inl (fun _ => 0))), (q119, .inl (a 0, 6, .inl (fun _ => 0))), (q120, .inl (a 0, 6, .inl (fun _ => 0)))] := hD
  refine lv_aload_n hx hb dX7_init_33 rfl (lv_at hl 0 rfl) ?_
  refine lv_bipush (v := 10) hx hb dX7_init_34 (by decide) ?_
  refine newA (atype := .int) (a0 := (10, .inl (fun _ => 0))) hx hb hK 0 rfl ra_int (hts _ t_119) rfl hP hD hS hA (fun _ => rfl) (by decide) (by decide) (by decide) (Nat.le_of_ble_eq_true rfl) (Nat.le_of_ble_eq_true rfl) dX7_init_36 (fun q121 H hP hD hS => ?_)
  have hP : va_P D classes [(q105, .inr (7, [.int 0, .int 0, .int 0, .int 0, .int 0, .ref q118, .ref q119, .ref q120, .null, .null, .null, .null, .null, .null, .null, .null, .null, .int 0])), (q118, .inl (a 0, 6, .inl (fun _ => 0))), (q119, .inl (a 0, 6, .inl (fun _ => 0))), (q120, .inl (a 0, 6, .inl (fun _ => 0))), (q121, .inl (a 0, 10, .inl (fun _ => 0)))] H := hP
  have hD : va_D A [(q105, .inr (7, [.int 0, .int 0, .int 0, .int 0, .int 0, .ref q118, .ref q119, .ref q120, .null, .null, .null, .null, .null, .null, .null, .null, .null, .int 0])), (q118, .inl (a 0, 6, .inl (fun _ => 0))), (q119, .inl (a 0, 6, .inl (fun _ => 0))), (q120, .inl (a 0, 6, .inl (fun _ => 0))), (q121, .inl (a 0, 10, .inl (fun _ => 0)))] := hD
  refine W.cs (cells' := 4) (slots' := 28) rfl rfl ?_
  refine va_putF (D := D) (v := .ref q121) (C := RX7) (T := TX7) (N := 18) hx hb hts iX7 tyX7 tyX7_ok nmX7 hown hK.1 hP hD hS 0 rfl rfl 8 (by decide) (hts _ t_55) (fun _ h9 => h9) rfl (hnm rfl) rfl (tyX7_ok 8 (by decide)) rfl rfl (Nat.le_of_ble_eq_true rfl) dX7_init_38 (fun H locs hP hD hS => ?_)
  have hP : va_P D classes [(q105, .inr (7, [.int 0, .int 0, .int 0, .int 0, .int 0, .ref q118, .ref q119, .ref q120, .ref q121, .null, .null, .null, .null, .null, .null, .null, .null, .int 0])), (q118, .inl (a 0, 6, .inl (fun _ => 0))), (q119, .inl (a 0, 6, .inl (fun _ => 0))), (q120, .inl (a 0, 6, .inl (fun _ => 0))), (q121, .inl (a 0, 10, .inl (fun _ => 0)))] H := hP
  have hD : va_D A [(q105, .inr (7, [.int 0, .int 0, .int 0, .int 0, .int 0, .ref q118, .ref q119, .ref q120, .ref q121, .null, .null, .null, .null, .null, .null, .null, .null, .int 0])), (q118, .inl (a 0, 6, .inl (fun _ => 0))), (q119, .inl (a 0, 6, .inl (fun _ => 0))), (q120, .inl (a 0, 6, .inl (fun _ => 0))), (q121, .inl (a 0, 10, .inl (fun _ => 0)))] := hD
  refine lv_aload_n hx hb dX7_init_41 rfl (lv_at hl 0 rfl) ?_
  refine lv_bipush (v := 10) hx hb dX7_init_42 (by decide) ?_
  refine newA (atype := .int) (a0 := (10, .inl (fun _ => 0))) hx hb hK 0 rfl ra_int (hts _ t_119) rfl hP hD hS hA (fun _ => rfl) (by decide) (by decide) (by decide) (Nat.le_of_ble_eq_true rfl) (Nat.le_of_ble_eq_true rfl) dX7_init_44 (fun q122 H hP hD hS => ?_)
  have hP : va_P D classes [(q105, .inr (7, [.int 0, .int 0, .int 0, .int 0, .int 0, .ref q118, .ref q119, .ref q120, .ref q121, .null, .null, .null, .null, .null, .null, .null, .null, .int 0])), (q118, .inl (a 0, 6, .inl (fun _ => 0))), (q119, .inl (a 0, 6, .inl (fun _ => 0))), (q120, .inl (a 0, 6, .inl (fun _ => 0))), (q121, .inl (a 0, 10, .inl (fun _ => 0))), (q122, .inl (a 0, 10, .inl (fun _ => 0)))] H := hP
  have hD : va_D A [(q105, .inr (7, [.int 0, .int 0, .int 0, .int 0, .int 0, .ref q118, .ref q119, .ref q120, .ref q121, .null, .null, .null, .null, .null, .null, .null, .null, .int 0])), (q118, .inl (a 0, 6, .inl (fun _ => 0))), (q119, .inl (a 0, 6, .inl (fun _ => 0))), (q120, .inl (a 0, 6, .inl (fun _ => 0))), (q121, .inl (a 0, 10, .inl (fun _ => 0))), (q122, .inl (a 0, 10, .inl (fun _ => 0)))] := hD
  refine W.cs (cells' := 5) (slots' := 38) rfl rfl ?_
  refine va_putF (D := D) (v := .ref q122) (C := RX7) (T := TX7) (N := 18) hx hb hts iX7 tyX7 tyX7_ok nmX7 hown hK.1 hP hD hS 0 rfl rfl 9 (by decide) (hts _ t_58) (fun _ h9 => h9) rfl (hnm rfl) rfl (tyX7_ok 9 (by decide)) rfl rfl (Nat.le_of_ble_eq_true rfl) dX7_init_46 (fun H locs hP hD hS => ?_)
  have hP : va_P D classes [(q105, .inr (7, [.int 0, .int 0, .int 0, .int 0, .int 0, .ref q118, .ref q119, .ref q120, .ref q121, .ref q122, .null, .null, .null, .null, .null, .null, .null, .int 0])), (q118, .inl (a 0, 6, .inl (fun _ => 0))), (q119, .inl (a 0, 6, .inl (fun _ => 0))), (q120, .inl (a 0, 6, .inl (fun _ => 0))), (q121, .inl (a 0, 10, .inl (fun _ => 0))), (q122, .inl (a 0, 10, .inl (fun _ => 0)))] H := hP
  have hD : va_D A [(q105, .inr (7, [.int 0, .int 0, .int 0, .int 0, .int 0, .ref q118, .ref q119, .ref q120, .ref q121, .ref q122, .null, .null, .null, .null, .null, .null, .null, .int 0])), (q118, .inl (a 0, 6, .inl (fun _ => 0))), (q119, .inl (a 0, 6, .inl (fun _ => 0))), (q120, .inl (a 0, 6, .inl (fun _ => 0))), (q121, .inl (a 0, 10, .inl (fun _ => 0))), (q122, .inl (a 0, 10, .inl (fun _ => 0)))] := hD
  refine lv_aload_n hx hb dX7_init_49 rfl (lv_at hl 0 rfl) ?_
  refine lv_bipush (v := 10) hx hb dX7_init_50 (by decide) ?_
  refine newA (atype := .int) (a0 := (10, .inl (fun _ => 0))) hx hb hK 0 rfl ra_int (hts _ t_119) rfl hP hD hS hA (fun _ => rfl) (by decide) (by decide) (by decide) (Nat.le_of_ble_eq_true rfl) (Nat.le_of_ble_eq_true rfl) dX7_init_52 (fun q123 H hP hD hS => ?_)
  have hP : va_P D classes [(q105, .inr (7, [.int 0, .int 0, .int 0, .int 0, .int 0, .ref q118, .ref q119, .ref q120, .ref q121, .ref q122, .null, .null, .null, .null, .null, .null, .null, .int 0])), (q118, .inl (a 0, 6, .inl (fun _ => 0))), (q119, .inl (a 0, 6, .inl (fun _ => 0))), (q120, .inl (a 0, 6, .inl (fun _ => 0))), (q121, .inl (a 0, 10, .inl (fun _ => 0))), (q122, .inl (a 0, 10, .inl (fun _ => 0))), (q123, .inl (a 0, 10, .inl (fun _ => 0)))] H := hP
  have hD : va_D A [(q105, .inr (7, [.int 0, .int 0, .int 0, .int 0, .int 0, .ref q118, .ref q119, .ref q120, .ref q121, .ref q122, .null, .null, .null, .null, .null, .null, .null, .int 0])), (q118, .inl (a 0, 6, .inl (fun _ => 0))), (q119, .inl (a 0, 6, .inl (fun _ => 0))), (q120, .inl (a 0, 6, .inl (fun _ => 0))), (q121, .inl (a 0, 10, .inl (fun _ => 0))), (q122, .inl (a 0, 10, .inl (fun _ => 0))), (q123, .inl (a 0, 10, .inl (fun _ => 0)))] := hD
  refine W.cs (cells' := 6) (slots' := 48) rfl rfl ?_
  refine va_putF (D := D) (v := .ref q123) (C := RX7) (T := TX7) (N := 18) hx hb hts iX7 tyX7 tyX7_ok nmX7 hown hK.1 hP hD hS 0 rfl rfl 10 (by decide) (hts _ t_63) (fun _ h9 => h9) rfl (hnm rfl) rfl (tyX7_ok 10 (by decide)) rfl rfl (Nat.le_of_ble_eq_true rfl) dX7_init_54 (fun H locs hP hD hS => ?_)
  have hP : va_P D classes [(q105, .inr (7, [.int 0, .int 0, .int 0, .int 0, .int 0, .ref q118, .ref q119, .ref q120, .ref q121, .ref q122, .ref q123, .null, .null, .null, .null, .null, .null, .int 0])), (q118, .inl (a 0, 6, .inl (fun _ => 0))), (q119, .inl (a 0, 6, .inl (fun _ => 0))), (q120, .inl (a 0, 6, .inl (fun _ => 0))), (q121, .inl (a 0, 10, .inl (fun _ => 0))), (q122, .inl (a 0, 10, .inl (fun _ => 0))), (q123, .inl (a 0, 10, .inl (fun _ => 0)))] H := hP
  have hD : va_D A [(q105, .inr (7, [.int 0, .int 0, .int 0, .int 0, .int 0, .ref q118, .ref q119, .ref q120, .ref q121, .ref q122, .ref q123, .null, .null, .null, .null, .null, .null, .int 0])), (q118, .inl (a 0, 6, .inl (fun _ => 0))), (q119, .inl (a 0, 6, .inl (fun _ => 0))), (q120, .inl (a 0, 6, .inl (fun _ => 0))), (q121, .inl (a 0, 10, .inl (fun _ => 0))), (q122, .inl (a 0, 10, .inl (fun _ => 0))), (q123, .inl (a 0, 10, .inl (fun _ => 0)))] := hD
  refine lv_aload_n hx hb dX7_init_57 rfl (lv_at hl 0 rfl) ?_
  refine lv_bipush (v := 10) hx hb dX7_init_58 (by decide) ?_
  refine newA (atype := .int) (a0 := (10, .inl (fun _ => 0))) hx hb hK 0 rfl ra_int (hts _ t_119) rfl hP hD hS hA (fun _ => rfl) (by decide) (by decide) (by decide) (Nat.le_of_ble_eq_true rfl) (Nat.le_of_ble_eq_true rfl) dX7_init_60 (fun q124 H hP hD hS => ?_)
  have hP : va_P D classes [(q105, .inr (7, [.int 0, .int 0, .int 0, .int 0, .int 0, .ref q118, .ref q119, .ref q120, .ref q121, .ref q122, .ref q123, .null, .null, .null, .null, .null, .null, .int 0])), (q118, .inl (a 0, 6, .inl (fun _ => 0))), (q119, .inl (a 0, 6, .inl (fun _ => 0))), (q120, .inl (a 0, 6, .inl (fun _ => 0))), (q121, .inl (a 0, 10, .inl (fun _ => 0))), (q122, .inl (a 0, 10, .inl (fun _ => 0))), (q123, .inl (a 0, 10, .inl (fun _ => 0))), (q124, .inl (a 0, 10, .inl (fun _ => 0)))] H := hP
  have hD : va_D A [(q105, .inr (7, [.int 0, .int 0, .int 0, .int 0, .int 0, .ref q118, .ref q119, .ref q120, .ref q121, .ref q122, .ref q123, .null, .null, .null, .null, .null, .null, .int 0])), (q118, .inl (a 0, 6, .inl (fun _ => 0))), (q119, .inl (a 0, 6, .inl (fun _ => 0))), (q120, .inl (a 0, 6, .inl (fun _ => 0))), (q121, .inl (a 0, 10, .inl (fun _ => 0))), (q122, .inl (a 0, 10, .inl (fun _ => 0))), (q123, .inl (a 0, 10, .inl (fun _ => 0))), (q124, .inl (a 0, 10, .inl (fun _ => 0)))] := hD
  refine W.cs (cells' := 7) (slots' := 58) rfl rfl ?_
  refine va_putF (D := D) (v := .ref q124) (C := RX7) (T := TX7) (N := 18) hx hb hts iX7 tyX7 tyX7_ok nmX7 hown hK.1 hP hD hS 0 rfl rfl 11 (by decide) (hts _ t_68) (fun _ h9 => h9) rfl (hnm rfl) rfl (tyX7_ok 11 (by decide)) rfl rfl (Nat.le_of_ble_eq_true rfl) dX7_init_62 (fun H locs hP hD hS => ?_)
  have hP : va_P D classes [(q105, .inr (7, [.int 0, .int 0, .int 0, .int 0, .int 0, .ref q118, .ref q119, .ref q120, .ref q121, .ref q122, .ref q123, .ref q124, .null, .null, .null, .null, .null, .int 0])), (q118, .inl (a 0, 6, .inl (fun _ => 0))), (q119, .inl (a 0, 6, .inl (fun _ => 0))), (q120, .inl (a 0, 6, .inl (fun _ => 0))), (q121, .inl (a 0, 10, .inl (fun _ => 0))), (q122, .inl (a 0, 10, .inl (fun _ => 0))), (q123, .inl (a 0, 10, .inl (fun _ => 0))), (q124, .inl (a 0, 10, .inl (fun _ => 0)))] H := hP
  have hD : va_D A [(q105, .inr (7, [.int 0, .int 0, .int 0, .int 0, .int 0, .ref q118, .ref q119, .ref q120, .ref q121, .ref q122, .ref q123, .ref q124, .null, .null, .null, .null, .null, .int 0])), (q118, .inl (a 0, 6, .inl (fun _ => 0))), (q119, .inl (a 0, 6, .inl (fun _ => 0))), (q120, .inl (a 0, 6, .inl (fun _ => 0))), (q121, .inl (a 0, 10, .inl (fun _ => 0))), (q122, .inl (a 0, 10, .inl (fun _ => 0))), (q123, .inl (a 0, 10, .inl (fun _ => 0))), (q124, .inl (a 0, 10, .inl (fun _ => 0)))] := hD
  refine lv_aload_n hx hb dX7_init_65 rfl (lv_at hl 0 rfl) ?_
  refine lv_bipush (v := 10) hx hb dX7_init_66 (by decide) ?_
  refine newA (atype := .int) (a0 := (10, .inl (fun _ => 0))) hx hb hK 0 rfl ra_int (hts _ t_119) rfl hP hD hS hA (fun _ => rfl) (by decide) (by decide) (by decide) (Nat.le_of_ble_eq_true rfl) (Nat.le_of_ble_eq_true rfl) dX7_init_68 (fun q125 H hP hD hS => ?_)
  have hP : va_P D classes [(q105, .inr (7, [.int 0, .int 0, .int 0, .int 0, .int 0, .ref q118, .ref q119, .ref q120, .ref q121, .ref q122, .ref q123, .ref q124, .null, .null, .null, .null, .null, .int 0])), (q118, .inl (a 0, 6, .inl (fun _ => 0))), (q119, .inl (a 0, 6, .inl (fun _ => 0))), (q120, .inl (a 0, 6, .inl (fun _ => 0))), (q121, .inl (a 0, 10, .inl (fun _ => 0))), (q122, .inl (a 0, 10, .inl (fun _ => 0))), (q123, .inl (a 0, 10, .inl (fun _ => 0))), (q124, .inl (a 0, 10, .inl (fun _ => 0))), (q125, .inl (a 0, 10, .inl (fun _ => 0)))] H := hP
  have hD : va_D A [(q105, .inr (7, [.int 0, .int 0, .int 0, .int 0, .int 0, .ref q118, .ref q119, .ref q120, .ref q121, .ref q122, .ref q123, .ref q124, .null, .null, .null, .null, .null, .int 0])), (q118, .inl (a 0, 6, .inl (fun _ => 0))), (q119, .inl (a 0, 6, .inl (fun _ => 0))), (q120, .inl (a 0, 6, .inl (fun _ => 0))), (q121, .inl (a 0, 10, .inl (fun _ => 0))), (q122, .inl (a 0, 10, .inl (fun _ => 0))), (q123, .inl (a 0, 10, .inl (fun _ => 0))), (q124, .inl (a 0, 10, .inl (fun _ => 0))), (q125, .inl (a 0, 10, .inl (fun _ => 0)))] := hD
  refine W.cs (cells' := 8) (slots' := 68) rfl rfl ?_
  refine va_putF (D := D) (v := .ref q125) (C := RX7) (T := TX7) (N := 18) hx hb hts iX7 tyX7 tyX7_ok nmX7 hown hK.1 hP hD hS 0 rfl rfl 12 (by decide) (hts _ t_70) (fun _ h9 => h9) rfl (hnm rfl) rfl (tyX7_ok 12 (by decide)) rfl rfl (Nat.le_of_ble_eq_true rfl) dX7_init_70 (fun H locs hP hD hS => ?_)
  have hP : va_P D classes [(q105, .inr (7, [.int 0, .int 0, .int 0, .int 0, .int 0, .ref q118, .ref q119, .ref q120, .ref q121, .ref q122, .ref q123, .ref q124, .ref q125, .null, .null, .null, .null, .int 0])), (q118, .inl (a 0, 6, .inl (fun _ => 0))), (q119, .inl (a 0, 6, .inl (fun _ => 0))), (q120, .inl (a 0, 6, .inl (fun _ => 0))), (q121, .inl (a 0, 10, .inl (fun _ => 0))), (q122, .inl (a 0, 10, .inl (fun _ => 0))), (q123, .inl (a 0, 10, .inl (fun _ => 0))), (q124, .inl (a 0, 10, .inl (fun _ => 0))), (q125, .inl (a 0, 10, .inl (fun _ => 0)))] H := hP
  have hD : va_D A [(q105, .inr (7, [.int 0, .int 0, .int 0, .int 0, .int 0, .ref q118, .ref q119, .ref q120, .ref q121, .ref q122, .ref q123, .ref q124, .ref q125, .null, .null, .null, .null, .int 0])), (q118, .inl (a 0, 6, .inl (fun _ => 0))), (q119, .inl (a 0, 6, .inl (fun _ => 0))), (q120, .inl (a 0, 6, .inl (fun _ => 0))), (q121, .inl (a 0, 10, .inl (fun _ => 0))), (q122, .inl (a 0, 10, .inl (fun _ => 0))), (q123, .inl (a 0, 10, .inl (fun _ => 0))), (q124, .inl (a 0, 10, .inl (fun _ => 0))), (q125, .inl (a 0, 10, .inl (fun _ => 0)))] := hD
  refine lv_aload_n hx hb dX7_init_73 rfl (lv_at hl 0 rfl) ?_
  refine lv_bipush (v := 10) hx hb dX7_init_74 (by decide) ?_
  refine newA (atype := .int) (a0 := (10, .inl (fun _ => 0))) hx hb hK 0 rfl ra_int (hts _ t_119) rfl hP hD hS hA (fun _ => rfl) (by decide) (by decide) (by decide) (Nat.le_of_ble_eq_true rfl) (Nat.le_of_ble_eq_true rfl) dX7_init_76 (fun q126 H hP hD hS => ?_)
  have hP : va_P D classes [(q105, .inr (7, [.int 0, .int 0, .int 0, .int 0, .int 0, .ref q118, .ref q119, .ref q120, .ref q121, .ref q122, .ref q123, .ref q124, .ref q125, .null, .null, .null, .null, .int 0])), (q118, .inl (a 0, 6, .inl (fun _ => 0))), (q119, .inl (a 0, 6, .inl (fun _ => 0))), (q120, .inl (a 0, 6, .inl (fun _ => 0))), (q121, .inl (a 0, 10, .inl (fun _ => 0))), (q122, .inl (a 0, 10, .inl (fun _ => 0))), (q123, .inl (a 0, 10, .inl (fun _ => 0))), (q124, .inl (a 0, 10, .inl (fun _ => 0))), (q125, .inl (a 0, 10, .inl (fun _ => 0))), (q126, .inl (a 0, 10, .inl (fun _ => 0)))] H := hP
  have hD : va_D A [(q105, .inr (7, [.int 0, .int 0, .int 0, .int 0, .int 0, .ref q118, .ref q119, .ref q120, .ref q121, .ref q122, .ref q123, .ref q124, .ref q125, .null, .null, .null, .null, .int 0])), (q118, .inl (a 0, 6, .inl (fun _ => 0))), (q119, .inl (a 0, 6, .inl (fun _ => 0))), (q120, .inl (a 0, 6, .inl (fun _ => 0))), (q121, .inl (a 0, 10, .inl (fun _ => 0))), (q122, .inl (a 0, 10, .inl (fun _ => 0))), (q123, .inl (a 0, 10, .inl (fun _ => 0))), (q124, .inl (a 0, 10, .inl (fun _ => 0))), (q125, .inl (a 0, 10, .inl (fun _ => 0))), (q126, .inl (a 0, 10, .inl (fun _ => 0)))] := hD
  refine W.cs (cells' := 9) (slots' := 78) rfl rfl ?_
  refine va_putF (D := D) (v := .ref q126) (C := RX7) (T := TX7) (N := 18) hx hb hts iX7 tyX7 tyX7_ok nmX7 hown hK.1 hP hD hS 0 rfl rfl 13 (by decide) (hts _ t_75) (fun _ h9 => h9) rfl (hnm rfl) rfl (tyX7_ok 13 (by decide)) rfl rfl (Nat.le_of_ble_eq_true rfl) dX7_init_78 (fun H locs hP hD hS => ?_)
  have hP : va_P D classes [(q105, .inr (7, [.int 0, .int 0, .int 0, .int 0, .int 0, .ref q118, .ref q119, .ref q120, .ref q121, .ref q122, .ref q123, .ref q124, .ref q125, .ref q126, .null, .null, .null, .int 0])), (q118, .inl (a 0, 6, .inl (fun _ => 0))), (q119, .inl (a 0, 6, .inl (fun _ => 0))), (q120, .inl (a 0, 6, .inl (fun _ => 0))), (q121, .inl (a 0, 10, .inl (fun _ => 0))), (q122, .inl (a 0, 10, .inl (fun _ => 0))), (q123, .inl (a 0, 10, .inl (fun _ => 0))), (q124, .inl (a 0, 10, .inl (fun _ => 0))), (q125, .inl (a 0, 10, .inl (fun _ => 0))), (q126, .inl (a 0, 10, .inl (fun _ => 0)))] H := hP
  have hD : va_D A [(q105, .inr (7, [.int 0, .int 0, .int 0, .int 0, .int 0, .ref q118, .ref q119, .ref q120, .ref q121, .ref q122, .ref q123, .ref q124, .ref q125, .ref q126, .null, .null, .null, .int 0])), (q118, .inl (a 0, 6, .inl (fun _ => 0))), (q119, .inl (a 0, 6, .inl (fun _ => 0))), (q120, .inl (a 0, 6, .inl (fun _ => 0))), (q121, .inl (a 0, 10, .inl (fun _ => 0))), (q122, .inl (a 0, 10, .inl (fun _ => 0))), (q123, .inl (a 0, 10, .inl (fun _ => 0))), (q124, .inl (a 0, 10, .inl (fun _ => 0))), (q125, .inl (a 0, 10, .inl (fun _ => 0))), (q126, .inl (a 0, 10, .inl (fun _ => 0)))] := hD
  refine lv_aload_n hx hb dX7_init_81 rfl (lv_at hl 0 rfl) ?_
  refine lv_bipush (v := 10) hx hb dX7_init_82 (by decide) ?_
  refine newA (atype := .int) (a0 := (10, .inl (fun _ => 0))) hx hb hK 0 rfl ra_int (hts _ t_119) rfl hP hD hS hA (fun _ => rfl) (by decide) (by decide) (by decide) (Nat.le_of_ble_eq_true rfl) (Nat.le_of_ble_eq_true rfl) dX7_init_84 (fun q127 H hP hD hS => ?_)
  have hP : va_P D classes [(q105, .inr (7, [.int 0, .int 0, .int 0, .int 0, .int 0, .ref q118, .ref q119, .ref q120, .ref q121, .ref q122, .ref q123, .ref q124, .ref q125, .ref q126, .null, .null, .null, .int 0])), (q118, .inl (a 0, 6, .inl (fun _ => 0))), (q119, .inl (a 0, 6, .inl (fun _ => 0))), (q120, .inl (a 0, 6, .inl (fun _ => 0))), (q121, .inl (a 0, 10, .inl (fun _ => 0))), (q122, .inl (a 0, 10, .inl (fun _ => 0))), (q123, .inl (a 0, 10, .inl (fun _ => 0))), (q124, .inl (a 0, 10, .inl (fun _ => 0))), (q125, .inl (a 0, 10, .inl (fun _ => 0))), (q126, .inl (a 0, 10, .inl (fun _ => 0))), (q127, .inl (a 0, 10, .inl (fun _ => 0)))] H := hP
  have hD : va_D A [(q105, .inr (7, [.int 0, .int 0, .int 0, .int 0, .int 0, .ref q118, .ref q119, .ref q120, .ref q121, .ref q122, .ref q123, .ref q124, .ref q125, .ref q126, .null, .null, .null, .int 0])), (q118, .inl (a 0, 6, .inl (fun _ => 0))), (q119, .inl (a 0, 6, .inl (fun _ => 0))), (q120, .inl (a 0, 6, .inl (fun _ => 0))), (q121, .inl (a 0, 10, .inl (fun _ => 0))), (q122, .inl (a 0, 10, .inl (fun _ => 0))), (q123, .inl (a 0, 10, .inl (fun _ => 0))), (q124, .inl (a 0, 10, .inl (fun _ => 0))), (q125, .inl (a 0, 10, .inl (fun _ => 0))), (q126, .inl (a 0, 10, .inl (fun _ => 0))), (q127, .inl (a 0, 10, .inl (fun _ => 0)))] := hD
  refine W.cs (cells' := 10) (slots' := 88) rfl rfl ?_
  refine va_putF (D := D) (v := .ref q127) (C := RX7) (T := TX7) (N := 18) hx hb hts iX7 tyX7 tyX7_ok nmX7 hown hK.1 hP hD hS 0 rfl rfl 14 (by decide) (hts _ t_76) (fun _ h9 => h9) rfl (hnm rfl) rfl (tyX7_ok 14 (by decide)) rfl rfl (Nat.le_of_ble_eq_true rfl) dX7_init_86 (fun H locs hP hD hS => ?_)
  have hP : va_P D classes [(q105, .inr (7, [.int 0, .int 0, .int 0, .int 0, .int 0, .ref q118, .ref q119, .ref q120, .ref q121, .ref q122, .ref q123, .ref q124, .ref q125, .ref q126, .ref q127, .null, .null, .int 0])), (q118, .inl (a 0, 6, .inl (fun _ => 0))), (q119, .inl (a 0, 6, .inl (fun _ => 0))), (q120, .inl (a 0, 6, .inl (fun _ => 0))), (q121, .inl (a 0, 10, .inl (fun _ => 0))), (q122, .inl (a 0, 10, .inl (fun _ => 0))), (q123, .inl (a 0, 10, .inl (fun _ => 0))), (q124, .inl (a 0, 10, .inl (fun _ => 0))), (q125, .inl (a 0, 10, .inl (fun _ => 0))), (q126, .inl (a 0, 10, .inl (fun _ => 0))), (q127, .inl (a 0, 10, .inl (fun _ => 0)))] H := hP
  have hD : va_D A [(q105, .inr (7, [.int 0, .int 0, .int 0, .int 0, .int 0, .ref q118, .ref q119, .ref q120, .ref q121, .ref q122, .ref q123, .ref q124, .ref q125, .ref q126, .ref q127, .null, .null, .int 0])), (q118, .inl (a 0, 6, .inl (fun _ => 0))), (q119, .inl (a 0, 6, .inl (fun _ => 0))), (q120, .inl (a 0, 6, .inl (fun _ => 0))), (q121, .inl (a 0, 10, .inl (fun _ => 0))), (q122, .inl (a 0, 10, .inl (fun _ => 0))), (q123, .inl (a 0, 10, .inl (fun _ => 0))), (q124, .inl (a 0, 10, .inl (fun _ => 0))), (q125, .inl (a 0, 10, .inl (fun _ => 0))), (q126, .inl (a 0, 10, .inl (fun _ => 0))), (q127, .inl (a 0, 10, .inl (fun _ => 0)))] := hD
  refine lv_aload_n hx hb dX7_init_89 rfl (lv_at hl 0 rfl) ?_
  refine lv_bipush (v := 10) hx hb dX7_init_90 (by decide) ?_
  refine newA (atype := .int) (a0 := (10, .inl (fun _ => 0))) hx hb hK 0 rfl ra_int (hts _ t_119) rfl hP hD hS hA (fun _ => rfl) (by decide) (by decide) (by decide) (Nat.le_of_ble_eq_true rfl) (Nat.le_of_ble_eq_true rfl) dX7_init_92 (fun q128 H hP hD hS => ?_)
  have hP : va_P D classes [(q105, .inr (7, [.int 0, .int 0, .int 0, .int 0, .int 0, .ref q118, .ref q119, .ref q120, .ref q121, .ref q122, .ref q123, .ref q124, .ref q125, .ref q126, .ref q127, .null, .null, .int 0])), (q118, .inl (a 0, 6, .inl (fun _ => 0))), (q119, .inl (a 0, 6, .inl (fun _ => 0))), (q120, .inl (a 0, 6, .inl (fun _ => 0))), (q121, .inl (a 0, 10, .inl (fun _ => 0))), (q122, .inl (a 0, 10, .inl (fun _ => 0))), (q123, .inl (a 0, 10, .inl (fun _ => 0))), (q124, .inl (a 0, 10, .inl (fun _ => 0))), (q125, .inl (a 0, 10, .inl (fun _ => 0))), (q126, .inl (a 0, 10, .inl (fun _ => 0))), (q127, .inl (a 0, 10, .inl (fun _ => 0))), (q128, .inl (a 0, 10, .inl (fun _ => 0)))] H := hP
  have hD : va_D A [(q105, .inr (7, [.int 0, .int 0, .int 0, .int 0, .int 0, .ref q118, .ref q119, .ref q120, .ref q121, .ref q122, .ref q123, .ref q124, .ref q125, .ref q126, .ref q127, .null, .null, .int 0])), (q118, .inl (a 0, 6, .inl (fun _ => 0))), (q119, .inl (a 0, 6, .inl (fun _ => 0))), (q120, .inl (a 0, 6, .inl (fun _ => 0))), (q121, .inl (a 0, 10, .inl (fun _ => 0))), (q122, .inl (a 0, 10, .inl (fun _ => 0))), (q123, .inl (a 0, 10, .inl (fun _ => 0))), (q124, .inl (a 0, 10, .inl (fun _ => 0))), (q125, .inl (a 0, 10, .inl (fun _ => 0))), (q126, .inl (a 0, 10, .inl (fun _ => 0))), (q127, .inl (a 0, 10, .inl (fun _ => 0))), (q128, .inl (a 0, 10, .inl (fun _ => 0)))] := hD
  refine W.cs (cells' := 11) (slots' := 98) rfl rfl ?_
  refine va_putF (D := D) (v := .ref q128) (C := RX7) (T := TX7) (N := 18) hx hb hts iX7 tyX7 tyX7_ok nmX7 hown hK.1 hP hD hS 0 rfl rfl 15 (by decide) (hts _ t_78) (fun _ h9 => h9) rfl (hnm rfl) rfl (tyX7_ok 15 (by decide)) rfl rfl (Nat.le_of_ble_eq_true rfl) dX7_init_94 (fun H locs hP hD hS => ?_)
  have hP : va_P D classes [(q105, .inr (7, [.int 0, .int 0, .int 0, .int 0, .int 0, .ref q118, .ref q119, .ref q120, .ref q121, .ref q122, .ref q123, .ref q124, .ref q125, .ref q126, .ref q127, .ref q128, .null, .int 0])), (q118, .inl (a 0, 6, .inl (fun _ => 0))), (q119, .inl (a 0, 6, .inl (fun _ => 0))), (q120, .inl (a 0, 6, .inl (fun _ => 0))), (q121, .inl (a 0, 10, .inl (fun _ => 0))), (q122, .inl (a 0, 10, .inl (fun _ => 0))), (q123, .inl (a 0, 10, .inl (fun _ => 0))), (q124, .inl (a 0, 10, .inl (fun _ => 0))), (q125, .inl (a 0, 10, .inl (fun _ => 0))), (q126, .inl (a 0, 10, .inl (fun _ => 0))), (q127, .inl (a 0, 10, .inl (fun _ => 0))), (q128, .inl (a 0, 10, .inl (fun _ => 0)))] H := hP
  have hD : va_D A [(q105, .inr (7, [.int 0, .int 0, .int 0, .int 0, .int 0, .ref q118, .ref q119, .ref q120, .ref q121, .ref q122, .ref q123, .ref q124, .ref q125, .ref q126, .ref q127, .ref q128, .null, .int 0])), (q118, .inl (a 0, 6, .inl (fun _ => 0))), (q119, .inl (a 0, 6, .inl (fun _ => 0))), (q120, .inl (a 0, 6, .inl (fun _ => 0))), (q121, .inl (a 0, 10, .inl (fun _ => 0))), (q122, .inl (a 0, 10, .inl (fun _ => 0))), (q123, .inl (a 0, 10, .inl (fun _ => 0))), (q124, .inl (a 0, 10, .inl (fun _ => 0))), (q125, .inl (a 0, 10, .inl (fun _ => 0))), (q126, .inl (a 0, 10, .inl (fun _ => 0))), (q127, .inl (a 0, 10, .inl (fun _ => 0))), (q128, .inl (a 0, 10, .inl (fun _ => 0)))] := hD
  refine lv_aload_n hx hb dX7_init_97 rfl (lv_at hl 0 rfl) ?_
  refine lv_bipush (v := 10) hx hb dX7_init_98 (by decide) ?_
  refine newA (atype := .int) (a0 := (10, .inl (fun _ => 0))) hx hb hK 0 rfl ra_int (hts _ t_119) rfl hP hD hS hA (fun _ => rfl) (by decide) (by decide) (by decide) (Nat.le_of_ble_eq_true rfl) (Nat.le_of_ble_eq_true rfl) dX7_init_100 (fun q129 H hP hD hS => ?_)
  have hP : va_P D classes [(q105, .inr (7, [.int 0, .int 0, .int 0, .int 0, .int 0, .ref q118, .ref q119, .ref q120, .ref q121, .ref q122, .ref q123, .ref q124, .ref q125, .ref q126, .ref q127, .ref q128, .null, .int 0])), (q118, .inl (a 0, 6, .inl (fun _ => 0))), (q119, .inl (a 0, 6, .inl (fun _ => 0))), (q120, .inl (a 0, 6, .inl (fun _ => 0))), (q121, .inl (a 0, 10, .inl (fun _ => 0))), (q122, .inl (a 0, 10, .inl (fun _ => 0))), (q123, .inl (a 0, 10, .inl (fun _ => 0))), (q124, .inl (a 0, 10, .inl (fun _ => 0))), (q125, .inl (a 0, 10, .inl (fun _ => 0))), (q126, .inl (a 0, 10, .inl (fun _ => 0))), (q127, .inl (a 0, 10, .inl (fun _ => 0))), (q128, .inl (a 0, 10, .inl (fun _ => 0))), (q129, .inl (a 0, 10, .inl (fun _ => 0)))] H := hP
  have hD : va_D A [(q105, .inr (7, [.int 0, .int 0, .int 0, .int 0, .int 0, .ref q118, .ref q119, .ref q120, .ref q121, .ref q122, .ref q123, .ref q124, .ref q125, .ref q126, .ref q127, .ref q128, .null, .int 0])), (q118, .inl (a 0, 6, .inl (fun _ => 0))), (q119, .inl (a 0, 6, .inl (fun _ => 0))), (q120, .inl (a 0, 6, .inl (fun _ => 0))), (q121, .inl (a 0, 10, .inl (fun _ => 0))), (q122, .inl (a 0, 10, .inl (fun _ => 0))), (q123, .inl (a 0, 10, .inl (fun _ => 0))), (q124, .inl (a 0, 10, .inl (fun _ => 0))), (q125, .inl (a 0, 10, .inl (fun _ => 0))), (q126, .inl (a 0, 10, .inl (fun _ => 0))), (q127, .inl (a 0, 10, .inl (fun _ => 0))), (q128, .inl (a 0, 10, .inl (fun _ => 0))), (q129, .inl (a 0, 10, .inl (fun _ => 0)))] := hD
  refine W.cs (cells' := 12) (slots' := 108) rfl rfl ?_
  refine va_putF (D := D) (v := .ref q129) (C := RX7) (T := TX7) (N := 18) hx hb hts iX7 tyX7 tyX7_ok nmX7 hown hK.1 hP hD hS 0 rfl rfl 16 (by decide) (hts _ t_79) (fun _ h9 => h9) rfl (hnm rfl) rfl (tyX7_ok 16 (by decide)) rfl rfl (Nat.le_of_ble_eq_true rfl) dX7_init_102 (fun H locs hP hD hS => ?_)
  have hP : va_P D classes [(q105, .inr (7, [.int 0, .int 0, .int 0, .int 0, .int 0, .ref q118, .ref q119, .ref q120, .ref q121, .ref q122, .ref q123, .ref q124, .ref q125, .ref q126, .ref q127, .ref q128, .ref q129, .int 0])), (q118, .inl (a 0, 6, .inl (fun _ => 0))), (q119, .inl (a 0, 6, .inl (fun _ => 0))), (q120, .inl (a 0, 6, .inl (fun _ => 0))), (q121, .inl (a 0, 10, .inl (fun _ => 0))), (q122, .inl (a 0, 10, .inl (fun _ => 0))), (q123, .inl (a 0, 10, .inl (fun _ => 0))), (q124, .inl (a 0, 10, .inl (fun _ => 0))), (q125, .inl (a 0, 10, .inl (fun _ => 0))), (q126, .inl (a 0, 10, .inl (fun _ => 0))), (q127, .inl (a 0, 10, .inl (fun _ => 0))), (q128, .inl (a 0, 10, .inl (fun _ => 0))), (q129, .inl (a 0, 10, .inl (fun _ => 0)))] H := hP
  have hD : va_D A [(q105, .inr (7, [.int 0, .int 0, .int 0, .int 0, .int 0, .ref q118, .ref q119, .ref q120, .ref q121, .ref q122, .ref q123, .ref q124, .ref q125, .ref q126, .ref q127, .ref q128, .ref q129, .int 0])), (q118, .inl (a 0, 6, .inl (fun _ => 0))), (q119, .inl (a 0, 6, .inl (fun _ => 0))), (q120, .inl (a 0, 6, .inl (fun _ => 0))), (q121, .inl (a 0, 10, .inl (fun _ => 0))), (q122, .inl (a 0, 10, .inl (fun _ => 0))), (q123, .inl (a 0, 10, .inl (fun _ => 0))), (q124, .inl (a 0, 10, .inl (fun _ => 0))), (q125, .inl (a 0, 10, .inl (fun _ => 0))), (q126, .inl (a 0, 10, .inl (fun _ => 0))), (q127, .inl (a 0, 10, .inl (fun _ => 0))), (q128, .inl (a 0, 10, .inl (fun _ => 0))), (q129, .inl (a 0, 10, .inl (fun _ => 0)))] := hD
  exact retMv C rfl (0, [q118, q119, q120, q121, q122, q123, q124, q125, q126, q127, q128, q129], [], [], [], []) ⟨q118, q119, q120, q121, q122, q123, q124, q125, q126, q127, q128, q129, rfl⟩ hP hD hS (Nat.le_of_ble_eq_true rfl) (Nat.le_of_ble_eq_true rfl) dX7_init_105

set_option maxHeartbeats 4000000 in
set_option maxRecDepth 100000 in
theorem c_X0_init_0 (l : Launch) (D : va_G) (a : Nat → ClassId) (q145 : Nat) (sz : Nat) : CMv (S := SS) l MX0_init 1 20 1 10 D a [.ref q145] [(q145, .inr (0, [.int 0, .int 0, .int 0, .int 0, .int 0, .null]))] sz (fun u => (∃ q147 : Nat, u = (0, [q147], [], [], [], []))) (fun u => pk [[(q145, .inr (0, [.int 0, .int 0, .int 0, .int 0, .int 0, .ref (u.2.1.getD 0 0)])), ((u.2.1.getD 0 0), .inl (a 0, 10, .inl (fun _ => 0)))]] u.1) := by
  refine entMv (by decide) (Nat.le_of_ble_eq_true rfl) ?_
  intro p e s m below meth c C hK A hA hP hD ls hl
  obtain ⟨hx, hb, hml, hown, hts, hr, hlocks, hnm⟩ := id C
  have hb : c.code = cX0_init := hb
  have hown : s.vm.findClass RX0 = some m.cls := hown
  have hS : va_S A s.heap s.heap [] := va_S.rf
  have hl : lv_has ls 1 [(0, .ref q145)] := hl
  refine lv_aload_n hx hb dX0_init_0 rfl (lv_at hl 0 rfl) ?_
  refine W.objInit hx hb hown (hts _ t_129) (hts _ t_25) (hts _ t_26) rfl (by rw [hml]; exact hl.1) rfl dX0_init_1 (Nat.le_of_ble_eq_true rfl) (Nat.le_of_ble_eq_true rfl) ?_
  refine W.eq (g2 := F0 m 4 ls []) rfl ?_
  refine lv_aload_n hx hb dX0_init_4 rfl (lv_at hl 0 rfl) ?_
  refine lv_bipush (v := 10) hx hb dX0_init_5 (by decide) ?_
  refine newA (atype := .int) (a0 := (10, .inl (fun _ => 0))) hx hb hK 0 rfl ra_int (hts _ t_119) rfl hP hD hS hA (fun _ => rfl) (by decide) (by decide) (by decide) (Nat.le_of_ble_eq_true rfl) (Nat.le_of_ble_eq_true rfl) dX0_init_7 (fun q147 H hP hD hS => ?_)
  have hP : va_P D classes [(q145, .inr (0, [.int 0, .int 0, .int 0, .int 0, .int 0, .null])), (q147, .inl (a 0, 10, .inl (fun _ => 0)))] H := hP
  have hD : va_D A [(q145, .inr (0, [.int 0, .int 0, .int 0, .int 0, .int 0, .null])), (q147, .inl (a 0, 10, .inl (fun _ => 0)))] := hD
  refine W.cs (cells' := 1) (slots' := 10) rfl rfl ?_
  refine va_putF (D := D) (v := .ref q147) (C := RX0) (T := TX0) (N := 6) hx hb hts iX0 tyX0 tyX0_ok nmX0 hown hK.1 hP hD hS 0 rfl rfl 5 (by decide) (hts _ t_144) (fun _ h9 => h9) rfl (hnm rfl) rfl (tyX0_ok 5 (by decide)) rfl rfl (Nat.le_of_ble_eq_true rfl) dX0_init_9 (fun H locs hP hD hS => ?_)
  have hP : va_P D classes [(q145, .inr (0, [.int 0, .int 0, .int 0, .int 0, .int 0, .ref q147])), (q147, .inl (a 0, 10, .inl (fun _ => 0)))] H := hP
  have hD : va_D A [(q145, .inr (0, [.int 0, .int 0, .int 0, .int 0, .int 0, .ref q147])), (q147, .inl (a 0, 10, .inl (fun _ => 0)))] := hD
  exact retMv C rfl (0, [q147], [], [], [], []) ⟨q147, rfl⟩ hP hD hS (Nat.le_of_ble_eq_true rfl) (Nat.le_of_ble_eq_true rfl) dX0_init_12

set_option maxHeartbeats 4000000 in
set_option maxRecDepth 100000 in
theorem c_X0_init_1 (l : Launch) (D : va_G) (a : Nat → ClassId) (q154 : Nat) (sz : Nat) : CMv (S := SS) l MX0_init 1 20 1 10 D a [.ref q154] [(q154, .inr (0, [.int 0, .int 0, .int 0, .int 0, .int 0, .null]))] sz (fun u => (∃ q156 : Nat, u = (0, [q156], [], [], [], []))) (fun u => pk [[(q154, .inr (0, [.int 0, .int 0, .int 0, .int 0, .int 0, .ref (u.2.1.getD 0 0)])), ((u.2.1.getD 0 0), .inl (a 0, 10, .inl (fun _ => 0)))]] u.1) := by
  refine entMv (by decide) (Nat.le_of_ble_eq_true rfl) ?_
  intro p e s m below meth c C hK A hA hP hD ls hl
  obtain ⟨hx, hb, hml, hown, hts, hr, hlocks, hnm⟩ := id C
  have hb : c.code = cX0_init := hb
  have hown : s.vm.findClass RX0 = some m.cls := hown
  have hS : va_S A s.heap s.heap [] := va_S.rf
  have hl : lv_has ls 1 [(0, .ref q154)] := hl
  refine lv_aload_n hx hb dX0_init_0 rfl (lv_at hl 0 rfl) ?_
  refine W.objInit hx hb hown (hts _ t_129) (hts _ t_25) (hts _ t_26) rfl (by rw [hml]; exact hl.1) rfl dX0_init_1 (Nat.le_of_ble_eq_true rfl) (Nat.le_of_ble_eq_true rfl) ?_
  refine W.eq (g2 := F0 m 4 ls []) rfl ?_
  refine lv_aload_n hx hb dX0_init_4 rfl (lv_at hl 0 rfl) ?_
  refine lv_bipush (v := 10) hx hb dX0_init_5 (by decide) ?_
  refine newA (atype := .int) (a0 := (10, .inl (fun _ => 0))) hx hb hK 0 rfl ra_int (hts _ t_119) rfl hP hD hS hA (fun _ => rfl) (by decide) (by decide) (by decide) (Nat.le_of_ble_eq_true rfl) (Nat.le_of_ble_eq_true rfl) dX0_init_7 (fun q156 H hP hD hS => ?_)
  have hP : va_P D classes [(q154, .inr (0, [.int 0, .int 0, .int 0, .int 0, .int 0, .null])), (q156, .inl (a 0, 10, .inl (fun _ => 0)))] H := hP
  have hD : va_D A [(q154, .inr (0, [.int 0, .int 0, .int 0, .int 0, .int 0, .null])), (q156, .inl (a 0, 10, .inl (fun _ => 0)))] := hD
  refine W.cs (cells' := 1) (slots' := 10) rfl rfl ?_
  refine va_putF (D := D) (v := .ref q156) (C := RX0) (T := TX0) (N := 6) hx hb hts iX0 tyX0 tyX0_ok nmX0 hown hK.1 hP hD hS 0 rfl rfl 5 (by decide) (hts _ t_144) (fun _ h9 => h9) rfl (hnm rfl) rfl (tyX0_ok 5 (by decide)) rfl rfl (Nat.le_of_ble_eq_true rfl) dX0_init_9 (fun H locs hP hD hS => ?_)
  have hP : va_P D classes [(q154, .inr (0, [.int 0, .int 0, .int 0, .int 0, .int 0, .ref q156])), (q156, .inl (a 0, 10, .inl (fun _ => 0)))] H := hP
  have hD : va_D A [(q154, .inr (0, [.int 0, .int 0, .int 0, .int 0, .int 0, .ref q156])), (q156, .inl (a 0, 10, .inl (fun _ => 0)))] := hD
  exact retMv C rfl (0, [q156], [], [], [], []) ⟨q156, rfl⟩ hP hD hS (Nat.le_of_ble_eq_true rfl) (Nat.le_of_ble_eq_true rfl) dX0_init_12

set_option maxHeartbeats 4000000 in
set_option maxRecDepth 100000 in
theorem c_X5_init_0 (l : Launch) (D : va_G) (a : Nat → ClassId) (q104 q105 : Nat) (sz : Nat) : CMv (S := SS) l MX5_init 2 40 4 32 D a [.ref q104, .ref q105] [(q104, .inr (5, [.null, .null, .int 0, .int 0, .int 0, .null, .int 0, .null]))] sz (fun u => (∃ q154 : Nat, ∃ q161 : Nat, ∃ q162 : Nat, ∃ q160 : Nat, u = (0, [q154, q161, q162, q160], [], [], [], []))) (fun u => pk [[(q104, .inr (5, [.ref q105, .ref (u.2.1.getD 0 0), .int 0, .int 0, .int 0, .ref (u.2.1.getD 1 0), .int 0, .ref (u.2.1.getD 2 0)])), ((u.2.1.getD 0 0), .inr (0, [.int 0, .int 0, .int 0, .int 0, .int 0, .ref (u.2.1.getD 3 0)])), ((u.2.1.getD 3 0), .inl (a 0, 10, .inl (fun _ => 0))), ((u.2.1.getD 1 0), .inl (a 0, 8, .inl (fun _ => 0))), ((u.2.1.getD 2 0), .inl (a 0, 8, .inl (fun _ => 0)))]] u.1) := by
  refine entMv (by decide) (Nat.le_of_ble_eq_true rfl) ?_
  intro p e s m below meth c C hK A hA hP hD ls hl
  obtain ⟨hx, hb, hml, hown, hts, hr, hlocks, hnm⟩ := id C
  have hb : c.code = cX5_init := hb
  have hown : s.vm.findClass RX5 = some m.cls := hown
  have hS : va_S A s.heap s.heap [] := va_S.rf
  have hl : lv_has ls 2 [(0, .ref q104), (1, .ref q105)] := hl
  refine lv_aload_n hx hb dX5_init_0 rfl (lv_at hl 0 rfl) ?_
  refine W.objInit hx hb hown (hts _ t_123) (hts _ t_25) (hts _ t_26) rfl (by rw [hml]; exact hl.1) rfl dX5_init_1 (Nat.le_of_ble_eq_true rfl) (Nat.le_of_ble_eq_true rfl) ?_
  refine W.eq (g2 := F0 m 4 ls []) rfl ?_
  refine lv_aload_n hx hb dX5_init_4 rfl (lv_at hl 0 rfl) ?_
  refine lv_aload_n hx hb dX5_init_5 rfl (lv_at hl 1 rfl) ?_
  refine va_put (D := D) (v := .ref q105) (C := RX5) (T := TX5) (N := 8) hx hb hts iX5 tyX5 tyX5_ok nmX5 hown hK.1 hP hD hS 0 rfl rfl 0 (by decide) (hts _ t_160) (fun _ h9 => h9) rfl (tyX5_ok 0 (by decide)) rfl rfl (Nat.le_of_ble_eq_true rfl) dX5_init_6 (fun H locs hP hD hS => ?_)
  have hP : va_P D classes [(q104, .inr (5, [.ref q105, .null, .int 0, .int 0, .int 0, .null, .int 0, .null]))] H := hP
  have hD : va_D A [(q104, .inr (5, [.ref q105, .null, .int 0, .int 0, .int 0, .null, .int 0, .null]))] := hD
  refine lv_aload_n hx hb dX5_init_9 rfl (lv_at hl 0 rfl) ?_
  refine va_new (ci := 0) (fs := [.int 0, .int 0, .int 0, .int 0, .int 0, .null]) (C := RX0) (T := TX0) (N := 6) hx hb hts iX0 tyX0 tyX0_ok hown (hts _ t_124) (hts _ t_125) (hts _ t_4) hK.1 hP hD hS hA rfl (dfX0) (Nat.le_of_ble_eq_true rfl) (Nat.le_of_ble_eq_true rfl) dX5_init_10 (fun q154 H hP hD hS => ?_)
  have hP : va_P D classes [(q104, .inr (5, [.ref q105, .null, .int 0, .int 0, .int 0, .null, .int 0, .null])), (q154, .inr (0, [.int 0, .int 0, .int 0, .int 0, .int 0, .null]))] H := hP
  have hD : va_D A [(q104, .inr (5, [.ref q105, .null, .int 0, .int 0, .int 0, .null, .int 0, .null])), (q154, .inr (0, [.int 0, .int 0, .int 0, .int 0, .int 0, .null]))] := hD
  refine W.cs (cells' := 1) (slots' := 6) rfl rfl ?_
  refine lv_dup hx hb dX5_init_13 rfl ?_
  refine afMv (runI (As := []) (rest := [.ref q154, .ref q104]) C (c_X0_init_1 l D a q154 H.size) lk_I_5_17 (okN_X0_init) ⟨Nat.le_of_ble_eq_true rfl, Nat.le_of_ble_eq_true rfl⟩ ⟨rfl, rfl⟩ (preM hK (P_of_map (wc := [(q154, .inr (0, [.int 0, .int 0, .int 0, .int 0, .int 0, .null]))]) hP [1] rfl) (hD.sub (ws' := [(q154, .inr (0, [.int 0, .int 0, .int 0, .int 0, .int 0, .null]))]) [1] (by decide) rfl)) hl.1 rfl (Nat.le_of_ble_eq_true rfl) dX5_init_14 ⟨Nat.le_of_ble_eq_true rfl, Nat.le_of_ble_eq_true rfl⟩) hP hD hS hA [1] [0] (wr := [(q104, .inr (5, [.ref q105, .null, .int 0, .int 0, .int 0, .null, .int 0, .null]))]) rfl rfl (by decide) (by decide) (fun u H locs hw hP hD hS => ?_)
  obtain ⟨q160, rfl⟩ := hw
  have hP : va_P D classes [(q104, .inr (5, [.ref q105, .null, .int 0, .int 0, .int 0, .null, .int 0, .null])), (q154, .inr (0, [.int 0, .int 0, .int 0, .int 0, .int 0, .ref q160])), (q160, .inl (a 0, 10, .inl (fun _ => 0)))] H := hP
  have hD : va_D A [(q104, .inr (5, [.ref q105, .null, .int 0, .int 0, .int 0, .null, .int 0, .null])), (q154, .inr (0, [.int 0, .int 0, .int 0, .int 0, .int 0, .ref q160])), (q160, .inl (a 0, 10, .inl (fun _ => 0)))] := hD
  refine W.cs (cells' := 2) (slots' := 16) rfl rfl ?_
  refine va_putF (D := D) (v := .ref q154) (C := RX5) (T := TX5) (N := 8) hx hb hts iX5 tyX5 tyX5_ok nmX5 hown hK.1 hP hD hS 0 rfl rfl 1 (by decide) (hts _ t_162) (fun _ h9 => h9) rfl (hnm rfl) rfl (tyX5_ok 1 (by decide)) rfl rfl (Nat.le_of_ble_eq_true rfl) dX5_init_17 (fun H locs hP hD hS => ?_)
  have hP : va_P D classes [(q104, .inr (5, [.ref q105, .ref q154, .int 0, .int 0, .int 0, .null, .int 0, .null])), (q154, .inr (0, [.int 0, .int 0, .int 0, .int 0, .int 0, .ref q160])), (q160, .inl (a 0, 10, .inl (fun _ => 0)))] H := hP
  have hD : va_D A [(q104, .inr (5, [.ref q105, .ref q154, .int 0, .int 0, .int 0, .null, .int 0, .null])), (q154, .inr (0, [.int 0, .int 0, .int 0, .int 0, .int 0, .ref q160])), (q160, .inl (a 0, 10, .inl (fun _ => 0)))] := hD
  refine lv_aload_n hx hb dX5_init_20 rfl (lv_at hl 0 rfl) ?_
  refine lv_bipush (v := 8) hx hb dX5_init_21 (by decide) ?_
  refine newA (atype := .int) (a0 := (8, .inl (fun _ => 0))) hx hb hK 0 rfl ra_int (hts _ t_119) rfl hP hD hS hA (fun _ => rfl) (by decide) (by decide) (by decide) (Nat.le_of_ble_eq_true rfl) (Nat.le_of_ble_eq_true rfl) dX5_init_23 (fun q161 H hP hD hS => ?_)
  have hP : va_P D classes [(q104, .inr (5, [.ref q105, .ref q154, .int 0, .int 0, .int 0, .null, .int 0, .null])), (q154, .inr (0, [.int 0, .int 0, .int 0, .int 0, .int 0, .ref q160])), (q160, .inl (a 0, 10, .inl (fun _ => 0))), (q161, .inl (a 0, 8, .inl (fun _ => 0)))] H := hP
  have hD : va_D A [(q104, .inr (5, [.ref q105, .ref q154, .int 0, .int 0, .int 0, .null, .int 0, .null])), (q154, .inr (0, [.int 0, .int 0, .int 0, .int 0, .int 0, .ref q160])), (q160, .inl (a 0, 10, .inl (fun _ => 0))), (q161, .inl (a 0, 8, .inl (fun _ => 0)))] := hD
  refine W.cs (cells' := 3) (slots' := 24) rfl rfl ?_
  refine va_putF (D := D) (v := .ref q161) (C := RX5) (T := TX5) (N := 8) hx hb hts iX5 tyX5 tyX5_ok nmX5 hown hK.1 hP hD hS 0 rfl rfl 5 (by decide) (hts _ t_170) (fun _ h9 => h9) rfl (hnm rfl) rfl (tyX5_ok 5 (by decide)) rfl rfl (Nat.le_of_ble_eq_true rfl) dX5_init_25 (fun H locs hP hD hS => ?_)
  have hP : va_P D classes [(q104, .inr (5, [.ref q105, .ref q154, .int 0, .int 0, .int 0, .ref q161, .int 0, .null])), (q154, .inr (0, [.int 0, .int 0, .int 0, .int 0, .int 0, .ref q160])), (q160, .inl (a 0, 10, .inl (fun _ => 0))), (q161, .inl (a 0, 8, .inl (fun _ => 0)))] H := hP
  have hD : va_D A [(q104, .inr (5, [.ref q105, .ref q154, .int 0, .int 0, .int 0, .ref q161, .int 0, .null])), (q154, .inr (0, [.int 0, .int 0, .int 0, .int 0, .int 0, .ref q160])), (q160, .inl (a 0, 10, .inl (fun _ => 0))), (q161, .inl (a 0, 8, .inl (fun _ => 0)))] := hD
  refine lv_aload_n hx hb dX5_init_28 rfl (lv_at hl 0 rfl) ?_
  refine lv_bipush (v := 8) hx hb dX5_init_29 (by decide) ?_
  refine newA (atype := .int) (a0 := (8, .inl (fun _ => 0))) hx hb hK 0 rfl ra_int (hts _ t_119) rfl hP hD hS hA (fun _ => rfl) (by decide) (by decide) (by decide) (Nat.le_of_ble_eq_true rfl) (Nat.le_of_ble_eq_true rfl) dX5_init_31 (fun q162 H hP hD hS => ?_)
  have hP : va_P D classes [(q104, .inr (5, [.ref q105, .ref q154, .int 0, .int 0, .int 0, .ref q161, .int 0, .null])), (q154, .inr (0, [.int 0, .int 0, .int 0, .int 0, .int 0, .ref q160])), (q160, .inl (a 0, 10, .inl (fun _ => 0))), (q161, .inl (a 0, 8, .inl (fun _ => 0))), (q162, .inl (a 0, 8, .inl (fun _ => 0)))] H := hP
  have hD : va_D A [(q104, .inr (5, [.ref q105, .ref q154, .int 0, .int 0, .int 0, .ref q161, .int 0, .null])), (q154, .inr (0, [.int 0, .int 0, .int 0, .int 0, .int 0, .ref q160])), (q160, .inl (a 0, 10, .inl (fun _ => 0))), (q161, .inl (a 0, 8, .inl (fun _ => 0))), (q162, .inl (a 0, 8, .inl (fun _ => 0)))] := hD
  refine W.cs (cells' := 4) (slots' := 32) rfl rfl ?_
  refine va_putF (D := D) (v := .ref q162) (C := RX5) (T := TX5) (N := 8) hx hb hts iX5 tyX5 tyX5_ok nmX5 hown hK.1 hP hD hS 0 rfl rfl 7 (by decide) (hts _ t_174) (fun _ h9 => h9) rfl (hnm rfl) rfl (tyX5_ok 7 (by decide)) rfl rfl (Nat.le_of_ble_eq_true rfl) dX5_init_33 (fun H locs hP hD hS => ?_)
  have hP : va_P D classes [(q104, .inr (5, [.ref q105, .ref q154, .int 0, .int 0, .int 0, .ref q161, .int 0, .ref q162])), (q154, .inr (0, [.int 0, .int 0, .int 0, .int 0, .int 0, .ref q160])), (q160, .inl (a 0, 10, .inl (fun _ => 0))), (q161, .inl (a 0, 8, .inl (fun _ => 0))), (q162, .inl (a 0, 8, .inl (fun _ => 0)))] H := hP
  have hD : va_D A [(q104, .inr (5, [.ref q105, .ref q154, .int 0, .int 0, .int 0, .ref q161, .int 0, .ref q162])), (q154, .inr (0, [.int 0, .int 0, .int 0, .int 0, .int 0, .ref q160])), (q160, .inl (a 0, 10, .inl (fun _ => 0))), (q161, .inl (a 0, 8, .inl (fun _ => 0))), (q162, .inl (a 0, 8, .inl (fun _ => 0)))] := hD
  exact retMv C rfl (0, [q154, q161, q162, q160], [], [], [], []) ⟨q154, q161, q162, q160, rfl⟩ hP hD hS (Nat.le_of_ble_eq_true rfl) (Nat.le_of_ble_eq_true rfl) dX5_init_36

set_option maxHeartbeats 4000000 in
set_option maxRecDepth 100000 in
theorem c_X0_init_2 (l : Launch) (D : va_G) (a : Nat → ClassId) (q171 : Nat) (sz : Nat) : CMv (S := SS) l MX0_init 1 20 1 10 D a [.ref q171] [(q171, .inr (0, [.int 0, .int 0, .int 0, .int 0, .int 0, .null]))] sz (fun u => (∃ q173 : Nat, u = (0, [q173], [], [], [], []))) (fun u => pk [[(q171, .inr (0, [.int 0, .int 0, .int 0, .int 0, .int 0, .ref (u.2.1.getD 0 0)])), ((u.2.1.getD 0 0), .inl (a 0, 10, .inl (fun _ => 0)))]] u.1) := by
  refine entMv (by decide) (Nat.le_of_ble_eq_true rfl) ?_
  intro p e s m below meth c C hK A hA hP hD ls hl
  obtain ⟨hx, hb, hml, hown, hts, hr, hlocks, hnm⟩ := id C
  have hb : c.code = cX0_init := hb
  have hown : s.vm.findClass RX0 = some m.cls := hown
  have hS : va_S A s.heap s.heap [] := va_S.rf
  have hl : lv_has ls 1 [(0, .ref q171)] := hl
  refine lv_aload_n hx hb dX0_init_0 rfl (lv_at hl 0 rfl) ?_
  refine W.objInit hx hb hown (hts _ t_129) (hts _ t_25) (hts _ t_26) rfl (by rw [hml]; exact hl.1) rfl dX0_init_1 (Nat.le_of_ble_eq_true rfl) (Nat.le_of_ble_eq_true rfl) ?_
  refine W.eq (g2 := F0 m 4 ls []) rfl ?_
  refine lv_aload_n hx hb dX0_init_4 rfl (lv_at hl 0 rfl) ?_
  refine lv_bipush (v := 10) hx hb dX0_init_5 (by decide) ?_
  refine newA (atype := .int) (a0 := (10, .inl (fun _ => 0))) hx hb hK 0 rfl ra_int (hts _ t_119) rfl hP hD hS hA (fun _ => rfl) (by decide) (by decide) (by decide) (Nat.le_of_ble_eq_true rfl) (Nat.le_of_ble_eq_true rfl) dX0_init_7 (fun q173 H hP hD hS => ?_)
  have hP : va_P D classes [(q171, .inr (0, [.int 0, .int 0, .int 0, .int 0, .int 0, .null])), (q173, .inl (a 0, 10, .inl (fun _ => 0)))] H := hP
  have hD : va_D A [(q171, .inr (0, [.int 0, .int 0, .int 0, .int 0, .int 0, .null])), (q173, .inl (a 0, 10, .inl (fun _ => 0)))] := hD
  refine W.cs (cells' := 1) (slots' := 10) rfl rfl ?_
  refine va_putF (D := D) (v := .ref q173) (C := RX0) (T := TX0) (N := 6) hx hb hts iX0 tyX0 tyX0_ok nmX0 hown hK.1 hP hD hS 0 rfl rfl 5 (by decide) (hts _ t_144) (fun _ h9 => h9) rfl (hnm rfl) rfl (tyX0_ok 5 (by decide)) rfl rfl (Nat.le_of_ble_eq_true rfl) dX0_init_9 (fun H locs hP hD hS => ?_)
  have hP : va_P D classes [(q171, .inr (0, [.int 0, .int 0, .int 0, .int 0, .int 0, .ref q173])), (q173, .inl (a 0, 10, .inl (fun _ => 0)))] H := hP
  have hD : va_D A [(q171, .inr (0, [.int 0, .int 0, .int 0, .int 0, .int 0, .ref q173])), (q173, .inl (a 0, 10, .inl (fun _ => 0)))] := hD
  exact retMv C rfl (0, [q173], [], [], [], []) ⟨q173, rfl⟩ hP hD hS (Nat.le_of_ble_eq_true rfl) (Nat.le_of_ble_eq_true rfl) dX0_init_12

set_option maxHeartbeats 4000000 in
set_option maxRecDepth 100000 in
theorem c_X6_init_0 (l : Launch) (D : va_G) (a : Nat → ClassId) (q179 : Nat) (sz : Nat) : CMv (S := SS) l MX6_init 1 20 3 1203 D a [.ref q179] [(q179, .inr (6, [.null, .null, .null, .int 0, .int 0, .int 0, .int 0, .int 0, .int 0]))] sz (fun u => (∃ q183 : Nat, ∃ q184 : Nat, ∃ q185 : Nat, u = (0, [q183, q184, q185], [], [], [], []))) (fun u => pk [[(q179, .inr (6, [.ref (u.2.1.getD 0 0), .ref (u.2.1.getD 1 0), .ref (u.2.1.getD 2 0), .int 0, .int 0, .int 0, .int 0, .int 0, .int 0])), ((u.2.1.getD 0 0), .inl (a 0, 401, .inl (fun _ => 0))), ((u.2.1.getD 1 0), .inl (a 0, 401, .inl (fun _ => 0))), ((u.2.1.getD 2 0), .inl (a 0, 401, .inl (fun _ => 0)))]] u.1) := by
  refine entMv (by decide) (Nat.le_of_ble_eq_true rfl) ?_
  intro p e s m below meth c C hK A hA hP hD ls hl
  obtain ⟨hx, hb, hml, hown, hts, hr, hlocks, hnm⟩ := id C
  have hb : c.code = cX6_init := hb
  have hown : s.vm.findClass RX6 = some m.cls := hown
  have hS : va_S A s.heap s.heap [] := va_S.rf
  have hl : lv_has ls 1 [(0, .ref q179)] := hl
  refine lv_aload_n hx hb dX6_init_0 rfl (lv_at hl 0 rfl) ?_
  refine W.objInit hx hb hown (hts _ t_207) (hts _ t_25) (hts _ t_26) rfl (by rw [hml]; exact hl.1) rfl dX6_init_1 (Nat.le_of_ble_eq_true rfl) (Nat.le_of_ble_eq_true rfl) ?_
  refine W.eq (g2 := F0 m 4 ls []) rfl ?_
  refine lv_aload_n hx hb dX6_init_4 rfl (lv_at hl 0 rfl) ?_
  refine lv_sipush (v := 401) hx hb dX6_init_5 (by decide) ?_
  refine newA (atype := .int) (a0 := (401, .inl (fun _ => 0))) hx hb hK 0 rfl ra_int (hts _ t_119) rfl hP hD hS hA (fun _ => rfl) (by decide) (by decide) (by decide) (Nat.le_of_ble_eq_true rfl) (Nat.le_of_ble_eq_true rfl) dX6_init_8 (fun q183 H hP hD hS => ?_)
  have hP : va_P D classes [(q179, .inr (6, [.null, .null, .null, .int 0, .int 0, .int 0, .int 0, .int 0, .int 0])), (q183, .inl (a 0, 401, .inl (fun _ => 0)))] H := hP
  have hD : va_D A [(q179, .inr (6, [.null, .null, .null, .int 0, .int 0, .int 0, .int 0, .int 0, .int 0])), (q183, .inl (a 0, 401, .inl (fun _ => 0)))] := hD
  refine W.cs (cells' := 1) (slots' := 401) rfl rfl ?_
  refine va_putF (D := D) (v := .ref q183) (C := RX6) (T := TX6) (N := 9) hx hb hts iX6 tyX6 tyX6_ok nmX6 hown hK.1 hP hD hS 0 rfl rfl 0 (by decide) (hts _ t_208) (fun _ h9 => h9) rfl (hnm rfl) rfl (tyX6_ok 0 (by decide)) rfl rfl (Nat.le_of_ble_eq_true rfl) dX6_init_10 (fun H locs hP hD hS => ?_)
  have hP : va_P D classes [(q179, .inr (6, [.ref q183, .null, .null, .int 0, .int 0, .int 0, .int 0, .int 0, .int 0])), (q183, .inl (a 0, 401, .inl (fun _ => 0)))] H := hP
  have hD : va_D A [(q179, .inr (6, [.ref q183, .null, .null, .int 0, .int 0, .int 0, .int 0, .int 0, .int 0])), (q183, .inl (a 0, 401, .inl (fun _ => 0)))] := hD
  refine lv_aload_n hx hb dX6_init_13 rfl (lv_at hl 0 rfl) ?_
  refine lv_sipush (v := 401) hx hb dX6_init_14 (by decide) ?_
  refine newA (atype := .int) (a0 := (401, .inl (fun _ => 0))) hx hb hK 0 rfl ra_int (hts _ t_119) rfl hP hD hS hA (fun _ => rfl) (by decide) (by decide) (by decide) (Nat.le_of_ble_eq_true rfl) (Nat.le_of_ble_eq_true rfl) dX6_init_17 (fun q184 H hP hD hS => ?_)
  have hP : va_P D classes [(q179, .inr (6, [.ref q183, .null, .null, .int 0, .int 0, .int 0, .int 0, .int 0, .int 0])), (q183, .inl (a 0, 401, .inl (fun _ => 0))), (q184, .inl (a 0, 401, .inl (fun _ => 0)))] H := hP
  have hD : va_D A [(q179, .inr (6, [.ref q183, .null, .null, .int 0, .int 0, .int 0, .int 0, .int 0, .int 0])), (q183, .inl (a 0, 401, .inl (fun _ => 0))), (q184, .inl (a 0, 401, .inl (fun _ => 0)))] := hD
  refine W.cs (cells' := 2) (slots' := 802) rfl rfl ?_
  refine va_putF (D := D) (v := .ref q184) (C := RX6) (T := TX6) (N := 9) hx hb hts iX6 tyX6 tyX6_ok nmX6 hown hK.1 hP hD hS 0 rfl rfl 1 (by decide) (hts _ t_209) (fun _ h9 => h9) rfl (hnm rfl) rfl (tyX6_ok 1 (by decide)) rfl rfl (Nat.le_of_ble_eq_true rfl) dX6_init_19 (fun H locs hP hD hS => ?_)
  have hP : va_P D classes [(q179, .inr (6, [.ref q183, .ref q184, .null, .int 0, .int 0, .int 0, .int 0, .int 0, .int 0])), (q183, .inl (a 0, 401, .inl (fun _ => 0))), (q184, .inl (a 0, 401, .inl (fun _ => 0)))] H := hP
  have hD : va_D A [(q179, .inr (6, [.ref q183, .ref q184, .null, .int 0, .int 0, .int 0, .int 0, .int 0, .int 0])), (q183, .inl (a 0, 401, .inl (fun _ => 0))), (q184, .inl (a 0, 401, .inl (fun _ => 0)))] := hD
  refine lv_aload_n hx hb dX6_init_22 rfl (lv_at hl 0 rfl) ?_
  refine lv_sipush (v := 401) hx hb dX6_init_23 (by decide) ?_
  refine newA (atype := .int) (a0 := (401, .inl (fun _ => 0))) hx hb hK 0 rfl ra_int (hts _ t_119) rfl hP hD hS hA (fun _ => rfl) (by decide) (by decide) (by decide) (Nat.le_of_ble_eq_true rfl) (Nat.le_of_ble_eq_true rfl) dX6_init_26 (fun q185 H hP hD hS => ?_)
  have hP : va_P D classes [(q179, .inr (6, [.ref q183, .ref q184, .null, .int 0, .int 0, .int 0, .int 0, .int 0, .int 0])), (q183, .inl (a 0, 401, .inl (fun _ => 0))), (q184, .inl (a 0, 401, .inl (fun _ => 0))), (q185, .inl (a 0, 401, .inl (fun _ => 0)))] H := hP
  have hD : va_D A [(q179, .inr (6, [.ref q183, .ref q184, .null, .int 0, .int 0, .int 0, .int 0, .int 0, .int 0])), (q183, .inl (a 0, 401, .inl (fun _ => 0))), (q184, .inl (a 0, 401, .inl (fun _ => 0))), (q185, .inl (a 0, 401, .inl (fun _ => 0)))] := hD
  refine W.cs (cells' := 3) (slots' := 1203) rfl rfl ?_
  refine va_putF (D := D) (v := .ref q185) (C := RX6) (T := TX6) (N := 9) hx hb hts iX6 tyX6 tyX6_ok nmX6 hown hK.1 hP hD hS 0 rfl rfl 2 (by decide) (hts _ t_210) (fun _ h9 => h9) rfl (hnm rfl) rfl (tyX6_ok 2 (by decide)) rfl rfl (Nat.le_of_ble_eq_true rfl) dX6_init_28 (fun H locs hP hD hS => ?_)
  have hP : va_P D classes [(q179, .inr (6, [.ref q183, .ref q184, .ref q185, .int 0, .int 0, .int 0, .int 0, .int 0, .int 0])), (q183, .inl (a 0, 401, .inl (fun _ => 0))), (q184, .inl (a 0, 401, .inl (fun _ => 0))), (q185, .inl (a 0, 401, .inl (fun _ => 0)))] H := hP
  have hD : va_D A [(q179, .inr (6, [.ref q183, .ref q184, .ref q185, .int 0, .int 0, .int 0, .int 0, .int 0, .int 0])), (q183, .inl (a 0, 401, .inl (fun _ => 0))), (q184, .inl (a 0, 401, .inl (fun _ => 0))), (q185, .inl (a 0, 401, .inl (fun _ => 0)))] := hD
  exact retMv C rfl (0, [q183, q184, q185], [], [], [], []) ⟨q183, q184, q185, rfl⟩ hP hD hS (Nat.le_of_ble_eq_true rfl) (Nat.le_of_ble_eq_true rfl) dX6_init_31

set_option maxHeartbeats 4000000 in
set_option maxRecDepth 100000 in
theorem c_X6_init_1 (l : Launch) (D : va_G) (a : Nat → ClassId) (q196 : Nat) (sz : Nat) : CMv (S := SS) l MX6_init 1 20 3 1203 D a [.ref q196] [(q196, .inr (6, [.null, .null, .null, .int 0, .int 0, .int 0, .int 0, .int 0, .int 0]))] sz (fun u => (∃ q200 : Nat, ∃ q201 : Nat, ∃ q202 : Nat, u = (0, [q200, q201, q202], [], [], [], []))) (fun u => pk [[(q196, .inr (6, [.ref (u.2.1.getD 0 0), .ref (u.2.1.getD 1 0), .ref (u.2.1.getD 2 0), .int 0, .int 0, .int 0, .int 0, .int 0, .int 0])), ((u.2.1.getD 0 0), .inl (a 0, 401, .inl (fun _ => 0))), ((u.2.1.getD 1 0), .inl (a 0, 401, .inl (fun _ => 0))), ((u.2.1.getD 2 0), .inl (a 0, 401, .inl (fun _ => 0)))]] u.1) := by
  refine entMv (by decide) (Nat.le_of_ble_eq_true rfl) ?_
  intro p e s m below meth c C hK A hA hP hD ls hl
  obtain ⟨hx, hb, hml, hown, hts, hr, hlocks, hnm⟩ := id C
  have hb : c.code = cX6_init := hb
  have hown : s.vm.findClass RX6 = some m.cls := hown
  have hS : va_S A s.heap s.heap [] := va_S.rf
  have hl : lv_has ls 1 [(0, .ref q196)] := hl
  refine lv_aload_n hx hb dX6_init_0 rfl (lv_at hl 0 rfl) ?_
  refine W.objInit hx hb hown (hts _ t_207) (hts _ t_25) (hts _ t_26) rfl (by rw [hml]; exact hl.1) rfl dX6_init_1 (Nat.le_of_ble_eq_true rfl) (Nat.le_of_ble_eq_true rfl) ?_
  refine W.eq (g2 := F0 m 4 ls []) rfl ?_
  refine lv_aload_n hx hb dX6_init_4 rfl (lv_at hl 0 rfl) ?_
  refine lv_sipush (v := 401) hx hb dX6_init_5 (by decide) ?_
  refine newA (atype := .int) (a0 := (401, .inl (fun _ => 0))) hx hb hK 0 rfl ra_int (hts _ t_119) rfl hP hD hS hA (fun _ => rfl) (by decide) (by decide) (by decide) (Nat.le_of_ble_eq_true rfl) (Nat.le_of_ble_eq_true rfl) dX6_init_8 (fun q200 H hP hD hS => ?_)
  have hP : va_P D classes [(q196, .inr (6, [.null, .null, .null, .int 0, .int 0, .int 0, .int 0, .int 0, .int 0])), (q200, .inl (a 0, 401, .inl (fun _ => 0)))] H := hP
  have hD : va_D A [(q196, .inr (6, [.null, .null, .null, .int 0, .int 0, .int 0, .int 0, .int 0, .int 0])), (q200, .inl (a 0, 401, .inl (fun _ => 0)))] := hD
  refine W.cs (cells' := 1) (slots' := 401) rfl rfl ?_
  refine va_putF (D := D) (v := .ref q200) (C := RX6) (T := TX6) (N := 9) hx hb hts iX6 tyX6 tyX6_ok nmX6 hown hK.1 hP hD hS 0 rfl rfl 0 (by decide) (hts _ t_208) (fun _ h9 => h9) rfl (hnm rfl) rfl (tyX6_ok 0 (by decide)) rfl rfl (Nat.le_of_ble_eq_true rfl) dX6_init_10 (fun H locs hP hD hS => ?_)
  have hP : va_P D classes [(q196, .inr (6, [.ref q200, .null, .null, .int 0, .int 0, .int 0, .int 0, .int 0, .int 0])), (q200, .inl (a 0, 401, .inl (fun _ => 0)))] H := hP
  have hD : va_D A [(q196, .inr (6, [.ref q200, .null, .null, .int 0, .int 0, .int 0, .int 0, .int 0, .int 0])), (q200, .inl (a 0, 401, .inl (fun _ => 0)))] := hD
  refine lv_aload_n hx hb dX6_init_13 rfl (lv_at hl 0 rfl) ?_
  refine lv_sipush (v := 401) hx hb dX6_init_14 (by decide) ?_
  refine newA (atype := .int) (a0 := (401, .inl (fun _ => 0))) hx hb hK 0 rfl ra_int (hts _ t_119) rfl hP hD hS hA (fun _ => rfl) (by decide) (by decide) (by decide) (Nat.le_of_ble_eq_true rfl) (Nat.le_of_ble_eq_true rfl) dX6_init_17 (fun q201 H hP hD hS => ?_)
  have hP : va_P D classes [(q196, .inr (6, [.ref q200, .null, .null, .int 0, .int 0, .int 0, .int 0, .int 0, .int 0])), (q200, .inl (a 0, 401, .inl (fun _ => 0))), (q201, .inl (a 0, 401, .inl (fun _ => 0)))] H := hP
  have hD : va_D A [(q196, .inr (6, [.ref q200, .null, .null, .int 0, .int 0, .int 0, .int 0, .int 0, .int 0])), (q200, .inl (a 0, 401, .inl (fun _ => 0))), (q201, .inl (a 0, 401, .inl (fun _ => 0)))] := hD
  refine W.cs (cells' := 2) (slots' := 802) rfl rfl ?_
  refine va_putF (D := D) (v := .ref q201) (C := RX6) (T := TX6) (N := 9) hx hb hts iX6 tyX6 tyX6_ok nmX6 hown hK.1 hP hD hS 0 rfl rfl 1 (by decide) (hts _ t_209) (fun _ h9 => h9) rfl (hnm rfl) rfl (tyX6_ok 1 (by decide)) rfl rfl (Nat.le_of_ble_eq_true rfl) dX6_init_19 (fun H locs hP hD hS => ?_)
  have hP : va_P D classes [(q196, .inr (6, [.ref q200, .ref q201, .null, .int 0, .int 0, .int 0, .int 0, .int 0, .int 0])), (q200, .inl (a 0, 401, .inl (fun _ => 0))), (q201, .inl (a 0, 401, .inl (fun _ => 0)))] H := hP
  have hD : va_D A [(q196, .inr (6, [.ref q200, .ref q201, .null, .int 0, .int 0, .int 0, .int 0, .int 0, .int 0])), (q200, .inl (a 0, 401, .inl (fun _ => 0))), (q201, .inl (a 0, 401, .inl (fun _ => 0)))] := hD
  refine lv_aload_n hx hb dX6_init_22 rfl (lv_at hl 0 rfl) ?_
  refine lv_sipush (v := 401) hx hb dX6_init_23 (by decide) ?_
  refine newA (atype := .int) (a0 := (401, .inl (fun _ => 0))) hx hb hK 0 rfl ra_int (hts _ t_119) rfl hP hD hS hA (fun _ => rfl) (by decide) (by decide) (by decide) (Nat.le_of_ble_eq_true rfl) (Nat.le_of_ble_eq_true rfl) dX6_init_26 (fun q202 H hP hD hS => ?_)
  have hP : va_P D classes [(q196, .inr (6, [.ref q200, .ref q201, .null, .int 0, .int 0, .int 0, .int 0, .int 0, .int 0])), (q200, .inl (a 0, 401, .inl (fun _ => 0))), (q201, .inl (a 0, 401, .inl (fun _ => 0))), (q202, .inl (a 0, 401, .inl (fun _ => 0)))] H := hP
  have hD : va_D A [(q196, .inr (6, [.ref q200, .ref q201, .null, .int 0, .int 0, .int 0, .int 0, .int 0, .int 0])), (q200, .inl (a 0, 401, .inl (fun _ => 0))), (q201, .inl (a 0, 401, .inl (fun _ => 0))), (q202, .inl (a 0, 401, .inl (fun _ => 0)))] := hD
  refine W.cs (cells' := 3) (slots' := 1203) rfl rfl ?_
  refine va_putF (D := D) (v := .ref q202) (C := RX6) (T := TX6) (N := 9) hx hb hts iX6 tyX6 tyX6_ok nmX6 hown hK.1 hP hD hS 0 rfl rfl 2 (by decide) (hts _ t_210) (fun _ h9 => h9) rfl (hnm rfl) rfl (tyX6_ok 2 (by decide)) rfl rfl (Nat.le_of_ble_eq_true rfl) dX6_init_28 (fun H locs hP hD hS => ?_)
  have hP : va_P D classes [(q196, .inr (6, [.ref q200, .ref q201, .ref q202, .int 0, .int 0, .int 0, .int 0, .int 0, .int 0])), (q200, .inl (a 0, 401, .inl (fun _ => 0))), (q201, .inl (a 0, 401, .inl (fun _ => 0))), (q202, .inl (a 0, 401, .inl (fun _ => 0)))] H := hP
  have hD : va_D A [(q196, .inr (6, [.ref q200, .ref q201, .ref q202, .int 0, .int 0, .int 0, .int 0, .int 0, .int 0])), (q200, .inl (a 0, 401, .inl (fun _ => 0))), (q201, .inl (a 0, 401, .inl (fun _ => 0))), (q202, .inl (a 0, 401, .inl (fun _ => 0)))] := hD
  exact retMv C rfl (0, [q200, q201, q202], [], [], [], []) ⟨q200, q201, q202, rfl⟩ hP hD hS (Nat.le_of_ble_eq_true rfl) (Nat.le_of_ble_eq_true rfl) dX6_init_31

set_option maxHeartbeats 4000000 in
set_option maxRecDepth 100000 in
theorem c_X4_init_0 (l : Launch) (D : va_G) (a : Nat → ClassId) (q178 : Nat) (sz : Nat) : CMv (S := SS) l MX4_init 2 40 8 1648 D a [.ref q178] [(q178, .inr (4, [.null, .null, .int 0, .int 0, .int 0, .null, .null, .null]))] sz (fun u => (∃ q196 : Nat, ∃ q209 : Nat, ∃ q210 : Nat, ∃ q211 : Nat, ∃ q212 : Nat, ∃ q206 : Nat, ∃ q207 : Nat, ∃ q208 : Nat, u = (0, [q196, q209, q210, q211, q212, q206, q207, q208], [], [], [], []))) (fun u => pk [[(q178, .inr (4, [.ref (u.2.1.getD 0 0), .ref (u.2.1.getD 1 0), .int 0, .int 0, .int 0, .ref (u.2.1.getD 2 0), .ref (u.2.1.getD 3 0), .ref (u.2.1.getD 4 0)])), ((u.2.1.getD 0 0), .inr (6, [.ref (u.2.1.getD 5 0), .ref (u.2.1.getD 6 0), .ref (u.2.1.getD 7 0), .int 0, .int 0, .int 0, .int 0, .int 0, .int 0])), ((u.2.1.getD 5 0), .inl (a 0, 401, .inl (fun _ => 0))), ((u.2.1.getD 6 0), .inl (a 0, 401, .inl (fun _ => 0))), ((u.2.1.getD 7 0), .inl (a 0, 401, .inl (fun _ => 0))), ((u.2.1.getD 1 0), .inl (a 0, 400, .inl (fun _ => 0))), ((u.2.1.getD 2 0), .inl (a 0, 12, .inl (fun _ => 0))), ((u.2.1.getD 3 0), .inl (a 0, 12, .inl (fun _ => 0))), ((u.2.1.getD 4 0), .inl (a 0, 12, .inl (fun _ => 0)))]] u.1) := by
  refine entMv (by decide) (Nat.le_of_ble_eq_true rfl) ?_
  intro p e s m below meth c C hK A hA hP hD ls hl
  obtain ⟨hx, hb, hml, hown, hts, hr, hlocks, hnm⟩ := id C
  have hb : c.code = cX4_init := hb
  have hown : s.vm.findClass RX4 = some m.cls := hown
  have hS : va_S A s.heap s.heap [] := va_S.rf
  have hl : lv_has ls 1 [(0, .ref q178)] := hl
  refine lv_aload_n hx hb dX4_init_0 rfl (lv_at hl 0 rfl) ?_
  refine W.objInit hx hb hown (hts _ t_201) (hts _ t_25) (hts _ t_26) rfl (by rw [hml]; exact hl.1) rfl dX4_init_1 (Nat.le_of_ble_eq_true rfl) (Nat.le_of_ble_eq_true rfl) ?_
  refine W.eq (g2 := F0 m 4 ls []) rfl ?_
  refine lv_aload_n hx hb dX4_init_4 rfl (lv_at hl 0 rfl) ?_
  refine va_new (ci := 6) (fs := [.null, .null, .null, .int 0, .int 0, .int 0, .int 0, .int 0, .int 0]) (C := RX6) (T := TX6) (N := 9) hx hb hts iX6 tyX6 tyX6_ok hown (hts _ t_202) (hts _ t_203) (hts _ t_6) hK.1 hP hD hS hA rfl (dfX6) (Nat.le_of_ble_eq_true rfl) (Nat.le_of_ble_eq_true rfl) dX4_init_5 (fun q196 H hP hD hS => ?_)
  have hP : va_P D classes [(q178, .inr (4, [.null, .null, .int 0, .int 0, .int 0, .null, .null, .null])), (q196, .inr (6, [.null, .null, .null, .int 0, .int 0, .int 0, .int 0, .int 0, .int 0]))] H := hP
  have hD : va_D A [(q178, .inr (4, [.null, .null, .int 0, .int 0, .int 0, .null, .null, .null])), (q196, .inr (6, [.null, .null, .null, .int 0, .int 0, .int 0, .int 0, .int 0, .int 0]))] := hD
  refine W.cs (cells' := 1) (slots' := 9) rfl rfl ?_
  refine lv_dup hx hb dX4_init_8 rfl ?_
  refine afMv (runI (As := []) (rest := [.ref q196, .ref q178]) C (c_X6_init_1 l D a q196 H.size) lk_I_4_11 (okN_X6_init) ⟨Nat.le_of_ble_eq_true rfl, Nat.le_of_ble_eq_true rfl⟩ ⟨rfl, rfl⟩ (preM hK (P_of_map (wc := [(q196, .inr (6, [.null, .null, .null, .int 0, .int 0, .int 0, .int 0, .int 0, .int 0]))]) hP [1] rfl) (hD.sub (ws' := [(q196, .inr (6, [.null, .null, .null, .int 0, .int 0, .int 0, .int 0, .int 0, .int 0]))]) [1] (by decide) rfl)) hl.1 rfl (Nat.le_of_ble_eq_true rfl) dX4_init_9 ⟨Nat.le_of_ble_eq_true rfl, Nat.le_of_ble_eq_true rfl⟩) hP hD hS hA [1] [0] (wr := [(q178, .inr (4, [.null, .null, .int 0, .int 0, .int 0, .null, .null, .null]))]) rfl rfl (by decide) (by decide) (fun u H locs hw hP hD hS => ?_)
  obtain ⟨q206, q207, q208, rfl⟩ := hw
  have hP : va_P D classes [(q178, .inr (4, [.null, .null, .int 0, .int 0, .int 0, .null, .null, .null])), (q196, .inr (6, [.ref q206, .ref q207, .ref q208, .int 0, .int 0, .int 0, .int 0, .int 0, .int 0])), (q206, .inl (a 0, 401, .inl (fun _ => 0))), (q207, .inl (a 0, 401, .inl (fun _ => 0))), (q208, .inl (a 0, 401, .inl (fun _ => 0)))] H := hP
  have hD : va_D A [(q178, .inr (4, [.null, .null, .int 0, .int 0, .int 0, .null, .null, .null])), (q196, .inr (6, [.ref q206, .ref q207, .ref q208, .int 0, .int 0, .int 0, .int 0, .int 0, .int 0])), (q206, .inl (a 0, 401, .inl (fun _ => 0))), (q207, .inl (a 0, 401, .inl (fun _ => 0))), (q208, .inl (a 0, 401, .inl (fun _ => 0)))] := hD
  refine W.cs (cells' := 4) (slots' := 1212) rfl rfl ?_
  refine va_putF (D := D) (v := .ref q196) (C := RX4) (T := TX4) (N := 8) hx hb hts iX4 tyX4 tyX4_ok nmX4 hown hK.1 hP hD hS 0 rfl rfl 0 (by decide) (hts _ t_242) (fun _ h9 => h9) rfl (hnm rfl) rfl (tyX4_ok 0 (by decide)) rfl rfl (Nat.le_of_ble_eq_true rfl) dX4_init_12 (fun H locs hP hD hS => ?_)
  have hP : va_P D classes [(q178, .inr (4, [.ref q196, .null, .int 0, .int 0, .int 0, .null, .null, .null])), (q196, .inr (6, [.ref q206, .ref q207, .ref q208, .int 0, .int 0, .int 0, .int 0, .int 0, .int 0])), (q206, .inl (a 0, 401, .inl (fun _ => 0))), (q207, .inl (a 0, 401, .inl (fun _ => 0))), (q208, .inl (a 0, 401, .inl (fun _ => 0)))] H := hP
  have hD : va_D A [(q178, .inr (4, [.ref q196, .null, .int 0, .int 0, .int 0, .null, .null, .null])), (q196, .inr (6, [.ref q206, .ref q207, .ref q208, .int 0, .int 0, .int 0, .int 0, .int 0, .int 0])), (q206, .inl (a 0, 401, .inl (fun _ => 0))), (q207, .inl (a 0, 401, .inl (fun _ => 0))), (q208, .inl (a 0, 401, .inl (fun _ => 0)))] := hD
  refine lv_aload_n hx hb dX4_init_15 rfl (lv_at hl 0 rfl) ?_
  refine lv_sipush (v := 400) hx hb dX4_init_16 (by decide) ?_
  refine newA (atype := .int) (a0 := (400, .inl (fun _ => 0))) hx hb hK 0 rfl ra_int (hts _ t_119) rfl hP hD hS hA (fun _ => rfl) (by decide) (by decide) (by decide) (Nat.le_of_ble_eq_true rfl) (Nat.le_of_ble_eq_true rfl) dX4_init_19 (fun q209 H hP hD hS => ?_)
  have hP : va_P D classes [(q178, .inr (4, [.ref q196, .null, .int 0, .int 0, .int 0, .null, .null, .null])), (q196, .inr (6, [.ref q206, .ref q207, .ref q208, .int 0, .int 0, .int 0, .int 0, .int 0, .int 0])), (q206, .inl (a 0, 401, .inl (fun _ => 0))), (q207, .inl (a 0, 401, .inl (fun _ => 0))), (q208, .inl (a 0, 401, .inl (fun _ => 0))), (q209, .inl (a 0, 400, .inl (fun _ => 0)))] H := hP
  have hD : va_D A [(q178, .inr (4, [.ref q196, .null, .int 0, .int 0, .int 0, .null, .null, .null])), (q196, .inr (6, [.ref q206, .ref q207, .ref q208, .int 0, .int 0, .int 0, .int 0, .int 0, .int 0])), (q206, .inl (a 0, 401, .inl (fun _ => 0))), (q207, .inl (a 0, 401, .inl (fun _ => 0))), (q208, .inl (a 0, 401, .inl (fun _ => 0))), (q209, .inl (a 0, 400, .inl (fun _ => 0)))] := hD
  refine W.cs (cells' := 5) (slots' := 1612) rfl rfl ?_
  refine va_putF (D := D) (v := .ref q209) (C := RX4) (T := TX4) (N := 8) hx hb hts iX4 tyX4 tyX4_ok nmX4 hown hK.1 hP hD hS 0 rfl rfl 1 (by decide) (hts _ t_244) (fun _ h9 => h9) rfl (hnm rfl) rfl (tyX4_ok 1 (by decide)) rfl rfl (Nat.le_of_ble_eq_true rfl) dX4_init_21 (fun H locs hP hD hS => ?_)
  have hP : va_P D classes [(q178, .inr (4, [.ref q196, .ref q209, .int 0, .int 0, .int 0, .null, .null, .null])), (q196, .inr (6, [.ref q206, .ref q207, .ref q208, .int 0, .int 0, .int 0, .int 0, .int 0, .int 0])), (q206, .inl (a 0, 401, .inl (fun _ => 0))), (q207, .inl (a 0, 401, .inl (fun _ => 0))), (q208, .inl (a 0, 401, .inl (fun _ => 0))), (q209, .inl (a 0, 400, .inl (fun _ => 0)))] H := hP
  have hD : va_D A [(q178, .inr (4, [.ref q196, .ref q209, .int 0, .int 0, .int 0, .null, .null, .null])), (q196, .inr (6, [.ref q206, .ref q207, .ref q208, .int 0, .int 0, .int 0, .int 0, .int 0, .int 0])), (q206, .inl (a 0, 401, .inl (fun _ => 0))), (q207, .inl (a 0, 401, .inl (fun _ => 0))), (q208, .inl (a 0, 401, .inl (fun _ => 0))), (q209, .inl (a 0, 400, .inl (fun _ => 0)))] := hD
  refine lv_aload_n hx hb dX4_init_24 rfl (lv_at hl 0 rfl) ?_
  refine lv_bipush (v := 12) hx hb dX4_init_25 (by decide) ?_
  refine newA (atype := .int) (a0 := (12, .inl (fun _ => 0))) hx hb hK 0 rfl ra_int (hts _ t_119) rfl hP hD hS hA (fun _ => rfl) (by decide) (by decide) (by decide) (Nat.le_of_ble_eq_true rfl) (Nat.le_of_ble_eq_true rfl) dX4_init_27 (fun q210 H hP hD hS => ?_)
  have hP : va_P D classes [(q178, .inr (4, [.ref q196, .ref q209, .int 0, .int 0, .int 0, .null, .null, .null])), (q196, .inr (6, [.ref q206, .ref q207, .ref q208, .int 0, .int 0, .int 0, .int 0, .int 0, .int 0])), (q206, .inl (a 0, 401, .inl (fun _ => 0))), (q207, .inl (a 0, 401, .inl (fun _ => 0))), (q208, .inl (a 0, 401, .inl (fun _ => 0))), (q209, .inl (a 0, 400, .inl (fun _ => 0))), (q210, .inl (a 0, 12, .inl (fun _ => 0)))] H := hP
  have hD : va_D A [(q178, .inr (4, [.ref q196, .ref q209, .int 0, .int 0, .int 0, .null, .null, .null])), (q196, .inr (6, [.ref q206, .ref q207, .ref q208, .int 0, .int 0, .int 0, .int 0, .int 0, .int 0])), (q206, .inl (a 0, 401, .inl (fun _ => 0))), (q207, .inl (a 0, 401, .inl (fun _ => 0))), (q208, .inl (a 0, 401, .inl (fun _ => 0))), (q209, .inl (a 0, 400, .inl (fun _ => 0))), (q210, .inl (a 0, 12, .inl (fun _ => 0)))] := hD
  refine W.cs (cells' := 6) (slots' := 1624) rfl rfl ?_
  refine va_putF (D := D) (v := .ref q210) (C := RX4) (T := TX4) (N := 8) hx hb hts iX4 tyX4 tyX4_ok nmX4 hown hK.1 hP hD hS 0 rfl rfl 5 (by decide) (hts _ t_248) (fun _ h9 => h9) rfl (hnm rfl) rfl (tyX4_ok 5 (by decide)) rfl rfl (Nat.le_of_ble_eq_true rfl) dX4_init_29 (fun H locs hP hD hS => ?_)
  have hP : va_P D classes [(q178, .inr (4, [.ref q196, .ref q209, .int 0, .int 0, .int 0, .ref q210, .null, .null])), (q196, .inr (6, [.ref q206, .ref q207, .ref q208, .int 0, .int 0, .int 0, .int 0, .int 0, .int 0])), (q206, .inl (a 0, 401, .inl (fun _ => 0))), (q207, .inl (a 0, 401, .inl (fun _ => 0))), (q208, .inl (a 0, 401, .inl (fun _ => 0))), (q209, .inl (a 0, 400, .inl (fun _ => 0))), (q210, .inl (a 0, 12, .inl (fun _ => 0)))] H := hP
  have hD : va_D A [(q178, .inr (4, [.ref q196, .ref q209, .int 0, .int 0, .int 0, .ref q210, .null, .null])), (q196, .inr (6, [.ref q206, .ref q207, .ref q208, .int 0, .int 0, .int 0, .int 0, .int 0, .int 0])), (q206, .inl (a 0, 401, .inl (fun _ => 0))), (q207, .inl (a 0, 401, .inl (fun _ => 0))), (q208, .inl (a 0, 401, .inl (fun _ => 0))), (q209, .inl (a 0, 400, .inl (fun _ => 0))), (q210, .inl (a 0, 12, .inl (fun _ => 0)))] := hD
  refine lv_aload_n hx hb dX4_init_32 rfl (lv_at hl 0 rfl) ?_
  refine lv_bipush (v := 12) hx hb dX4_init_33 (by decide) ?_
  refine newA (atype := .int) (a0 := (12, .inl (fun _ => 0))) hx hb hK 0 rfl ra_int (hts _ t_119) rfl hP hD hS hA (fun _ => rfl) (by decide) (by decide) (by decide) (Nat.le_of_ble_eq_true rfl) (Nat.le_of_ble_eq_true rfl) dX4_init_35 (fun q211 H hP hD hS => ?_)
  have hP : va_P D classes [(q178, .inr (4, [.ref q196, .ref q209, .int 0, .int 0, .int 0, .ref q210, .null, .null])), (q196, .inr (6, [.ref q206, .ref q207, .ref q208, .int 0, .int 0, .int 0, .int 0, .int 0, .int 0])), (q206, .inl (a 0, 401, .inl (fun _ => 0))), (q207, .inl (a 0, 401, .inl (fun _ => 0))), (q208, .inl (a 0, 401, .inl (fun _ => 0))), (q209, .inl (a 0, 400, .inl (fun _ => 0))), (q210, .inl (a 0, 12, .inl (fun _ => 0))), (q211, .inl (a 0, 12, .inl (fun _ => 0)))] H := hP
  have hD : va_D A [(q178, .inr (4, [.ref q196, .ref q209, .int 0, .int 0, .int 0, .ref q210, .null, .null])), (q196, .inr (6, [.ref q206, .ref q207, .ref q208, .int 0, .int 0, .int 0, .int 0, .int 0, .int 0])), (q206, .inl (a 0, 401, .inl (fun _ => 0))), (q207, .inl (a 0, 401, .inl (fun _ => 0))), (q208, .inl (a 0, 401, .inl (fun _ => 0))), (q209, .inl (a 0, 400, .inl (fun _ => 0))), (q210, .inl (a 0, 12, .inl (fun _ => 0))), (q211, .inl (a 0, 12, .inl (fun _ => 0)))] := hD
  refine W.cs (cells' := 7) (slots' := 1636) rfl rfl ?_
  refine va_putF (D := D) (v := .ref q211) (C := RX4) (T := TX4) (N := 8) hx hb hts iX4 tyX4 tyX4_ok nmX4 hown hK.1 hP hD hS 0 rfl rfl 6 (by decide) (hts _ t_249) (fun _ h9 => h9) rfl (hnm rfl) rfl (tyX4_ok 6 (by decide)) rfl rfl (Nat.le_of_ble_eq_true rfl) dX4_init_37 (fun H locs hP hD hS => ?_)
  have hP : va_P D classes [(q178, .inr (4, [.ref q196, .ref q209, .int 0, .int 0, .int 0, .ref q210, .ref q211, .null])), (q196, .inr (6, [.ref q206, .ref q207, .ref q208, .int 0, .int 0, .int 0, .int 0, .int 0, .int 0])), (q206, .inl (a 0, 401, .inl (fun _ => 0))), (q207, .inl (a 0, 401, .inl (fun _ => 0))), (q208, .inl (a 0, 401, .inl (fun _ => 0))), (q209, .inl (a 0, 400, .inl (fun _ => 0))), (q210, .inl (a 0, 12, .inl (fun _ => 0))), (q211, .inl (a 0, 12, .inl (fun _ => 0)))] H := hP
  have hD : va_D A [(q178, .inr (4, [.ref q196, .ref q209, .int 0, .int 0, .int 0, .ref q210, .ref q211, .null])), (q196, .inr (6, [.ref q206, .ref q207, .ref q208, .int 0, .int 0, .int 0, .int 0, .int 0, .int 0])), (q206, .inl (a 0, 401, .inl (fun _ => 0))), (q207, .inl (a 0, 401, .inl (fun _ => 0))), (q208, .inl (a 0, 401, .inl (fun _ => 0))), (q209, .inl (a 0, 400, .inl (fun _ => 0))), (q210, .inl (a 0, 12, .inl (fun _ => 0))), (q211, .inl (a 0, 12, .inl (fun _ => 0)))] := hD
  refine lv_aload_n hx hb dX4_init_40 rfl (lv_at hl 0 rfl) ?_
  refine lv_bipush (v := 12) hx hb dX4_init_41 (by decide) ?_
  refine newA (atype := .int) (a0 := (12, .inl (fun _ => 0))) hx hb hK 0 rfl ra_int (hts _ t_119) rfl hP hD hS hA (fun _ => rfl) (by decide) (by decide) (by decide) (Nat.le_of_ble_eq_true rfl) (Nat.le_of_ble_eq_true rfl) dX4_init_43 (fun q212 H hP hD hS => ?_)
  have hP : va_P D classes [(q178, .inr (4, [.ref q196, .ref q209, .int 0, .int 0, .int 0, .ref q210, .ref q211, .null])), (q196, .inr (6, [.ref q206, .ref q207, .ref q208, .int 0, .int 0, .int 0, .int 0, .int 0, .int 0])), (q206, .inl (a 0, 401, .inl (fun _ => 0))), (q207, .inl (a 0, 401, .inl (fun _ => 0))), (q208, .inl (a 0, 401, .inl (fun _ => 0))), (q209, .inl (a 0, 400, .inl (fun _ => 0))), (q210, .inl (a 0, 12, .inl (fun _ => 0))), (q211, .inl (a 0, 12, .inl (fun _ => 0))), (q212, .inl (a 0, 12, .inl (fun _ => 0)))] H := hP
  have hD : va_D A [(q178, .inr (4, [.ref q196, .ref q209, .int 0, .int 0, .int 0, .ref q210, .ref q211, .null])), (q196, .inr (6, [.ref q206, .ref q207, .ref q208, .int 0, .int 0, .int 0, .int 0, .int 0, .int 0])), (q206, .inl (a 0, 401, .inl (fun _ => 0))), (q207, .inl (a 0, 401, .inl (fun _ => 0))), (q208, .inl (a 0, 401, .inl (fun _ => 0))), (q209, .inl (a 0, 400, .inl (fun _ => 0))), (q210, .inl (a 0, 12, .inl (fun _ => 0))), (q211, .inl (a 0, 12, .inl (fun _ => 0))), (q212, .inl (a 0, 12, .inl (fun _ => 0)))] := hD
  refine W.cs (cells' := 8) (slots' := 1648) rfl rfl ?_
  refine va_putF (D := D) (v := .ref q212) (C := RX4) (T := TX4) (N := 8) hx hb hts iX4 tyX4 tyX4_ok nmX4 hown hK.1 hP hD hS 0 rfl rfl 7 (by decide) (hts _ t_250) (fun _ h9 => h9) rfl (hnm rfl) rfl (tyX4_ok 7 (by decide)) rfl rfl (Nat.le_of_ble_eq_true rfl) dX4_init_45 (fun H locs hP hD hS => ?_)
  have hP : va_P D classes [(q178, .inr (4, [.ref q196, .ref q209, .int 0, .int 0, .int 0, .ref q210, .ref q211, .ref q212])), (q196, .inr (6, [.ref q206, .ref q207, .ref q208, .int 0, .int 0, .int 0, .int 0, .int 0, .int 0])), (q206, .inl (a 0, 401, .inl (fun _ => 0))), (q207, .inl (a 0, 401, .inl (fun _ => 0))), (q208, .inl (a 0, 401, .inl (fun _ => 0))), (q209, .inl (a 0, 400, .inl (fun _ => 0))), (q210, .inl (a 0, 12, .inl (fun _ => 0))), (q211, .inl (a 0, 12, .inl (fun _ => 0))), (q212, .inl (a 0, 12, .inl (fun _ => 0)))] H := hP
  have hD : va_D A [(q178, .inr (4, [.ref q196, .ref q209, .int 0, .int 0, .int 0, .ref q210, .ref q211, .ref q212])), (q196, .inr (6, [.ref q206, .ref q207, .ref q208, .int 0, .int 0, .int 0, .int 0, .int 0, .int 0])), (q206, .inl (a 0, 401, .inl (fun _ => 0))), (q207, .inl (a 0, 401, .inl (fun _ => 0))), (q208, .inl (a 0, 401, .inl (fun _ => 0))), (q209, .inl (a 0, 400, .inl (fun _ => 0))), (q210, .inl (a 0, 12, .inl (fun _ => 0))), (q211, .inl (a 0, 12, .inl (fun _ => 0))), (q212, .inl (a 0, 12, .inl (fun _ => 0)))] := hD
  exact retMv C rfl (0, [q196, q209, q210, q211, q212, q206, q207, q208], [], [], [], []) ⟨q196, q209, q210, q211, q212, q206, q207, q208, rfl⟩ hP hD hS (Nat.le_of_ble_eq_true rfl) (Nat.le_of_ble_eq_true rfl) dX4_init_48

set_option maxHeartbeats 4000000 in
set_option maxRecDepth 100000 in
theorem c_X2_init_0 (l : Launch) (D : va_G) (a : Nat → ClassId) (q224 : Nat) (sz : Nat) : CMv (S := SS) l MX2_init 1 20 1 32 D a [.ref q224] [(q224, .inr (2, [.null]))] sz (fun u => (∃ q226 : Nat, u = (0, [q226], [], [], [], []))) (fun u => pk [[(q224, .inr (2, [.ref (u.2.1.getD 0 0)])), ((u.2.1.getD 0 0), .inl (a 1, 32, .inr (.inl (fun _ => 0))))]] u.1) := by
  refine entMv (by decide) (Nat.le_of_ble_eq_true rfl) ?_
  intro p e s m below meth c C hK A hA hP hD ls hl
  obtain ⟨hx, hb, hml, hown, hts, hr, hlocks, hnm⟩ := id C
  have hb : c.code = cX2_init := hb
  have hown : s.vm.findClass RX2 = some m.cls := hown
  have hS : va_S A s.heap s.heap [] := va_S.rf
  have hl : lv_has ls 1 [(0, .ref q224)] := hl
  refine lv_aload_n hx hb dX2_init_0 rfl (lv_at hl 0 rfl) ?_
  refine W.objInit hx hb hown (hts _ t_273) (hts _ t_25) (hts _ t_26) rfl (by rw [hml]; exact hl.1) rfl dX2_init_1 (Nat.le_of_ble_eq_true rfl) (Nat.le_of_ble_eq_true rfl) ?_
  refine W.eq (g2 := F0 m 4 ls []) rfl ?_
  refine lv_aload_n hx hb dX2_init_4 rfl (lv_at hl 0 rfl) ?_
  refine lv_bipush (v := 32) hx hb dX2_init_5 (by decide) ?_
  refine newA (atype := .long) (a0 := (32, .inr (.inl (fun _ => 0)))) hx hb hK 1 rfl ra_long (hts _ t_278) rfl hP hD hS hA (fun _ => rfl) (by decide) (by decide) (by decide) (Nat.le_of_ble_eq_true rfl) (Nat.le_of_ble_eq_true rfl) dX2_init_7 (fun q226 H hP hD hS => ?_)
  have hP : va_P D classes [(q224, .inr (2, [.null])), (q226, .inl (a 1, 32, .inr (.inl (fun _ => 0))))] H := hP
  have hD : va_D A [(q224, .inr (2, [.null])), (q226, .inl (a 1, 32, .inr (.inl (fun _ => 0))))] := hD
  refine W.cs (cells' := 1) (slots' := 32) rfl rfl ?_
  refine va_putF (D := D) (v := .ref q226) (C := RX2) (T := TX2) (N := 1) hx hb hts iX2 tyX2 tyX2_ok nmX2 hown hK.1 hP hD hS 0 rfl rfl 0 (by decide) (hts _ t_274) (fun _ h9 => h9) rfl (hnm rfl) rfl (tyX2_ok 0 (by decide)) rfl rfl (Nat.le_of_ble_eq_true rfl) dX2_init_9 (fun H locs hP hD hS => ?_)
  have hP : va_P D classes [(q224, .inr (2, [.ref q226])), (q226, .inl (a 1, 32, .inr (.inl (fun _ => 0))))] H := hP
  have hD : va_D A [(q224, .inr (2, [.ref q226])), (q226, .inl (a 1, 32, .inr (.inl (fun _ => 0))))] := hD
  exact retMv C rfl (0, [q226], [], [], [], []) ⟨q226, rfl⟩ hP hD hS (Nat.le_of_ble_eq_true rfl) (Nat.le_of_ble_eq_true rfl) dX2_init_12

set_option maxHeartbeats 4000000 in
set_option maxRecDepth 100000 in
theorem c_X1_init_0 (l : Launch) (D : va_G) (a : Nat → ClassId) (q231 : Nat) (sz : Nat) : CMv (S := SS) l MX1_init 1 20 2 4096 D a [.ref q231] [(q231, .inr (1, [.null, .null, .int 0, .long 0]))] sz (fun u => (∃ q234 : Nat, ∃ q235 : Nat, u = (0, [q234, q235], [], [], [], []))) (fun u => pk [[(q231, .inr (1, [.ref (u.2.1.getD 0 0), .ref (u.2.1.getD 1 0), .int 0, .long 0])), ((u.2.1.getD 0 0), .inl (a 1, 2048, .inr (.inl (fun _ => 0)))), ((u.2.1.getD 1 0), .inl (a 1, 2048, .inr (.inl (fun _ => 0))))]] u.1) := by
  refine entMv (by decide) (Nat.le_of_ble_eq_true rfl) ?_
  intro p e s m below meth c C hK A hA hP hD ls hl
  obtain ⟨hx, hb, hml, hown, hts, hr, hlocks, hnm⟩ := id C
  have hb : c.code = cX1_init := hb
  have hown : s.vm.findClass RX1 = some m.cls := hown
  have hS : va_S A s.heap s.heap [] := va_S.rf
  have hl : lv_has ls 1 [(0, .ref q231)] := hl
  refine lv_aload_n hx hb dX1_init_0 rfl (lv_at hl 0 rfl) ?_
  refine W.objInit hx hb hown (hts _ t_284) (hts _ t_25) (hts _ t_26) rfl (by rw [hml]; exact hl.1) rfl dX1_init_1 (Nat.le_of_ble_eq_true rfl) (Nat.le_of_ble_eq_true rfl) ?_
  refine W.eq (g2 := F0 m 4 ls []) rfl ?_
  refine lv_aload_n hx hb dX1_init_4 rfl (lv_at hl 0 rfl) ?_
  refine lv_sipush (v := 2048) hx hb dX1_init_5 (by decide) ?_
  refine newA (atype := .long) (a0 := (2048, .inr (.inl (fun _ => 0)))) hx hb hK 1 rfl ra_long (hts _ t_278) rfl hP hD hS hA (fun _ => rfl) (by decide) (by decide) (by decide) (Nat.le_of_ble_eq_true rfl) (Nat.le_of_ble_eq_true rfl) dX1_init_8 (fun q234 H hP hD hS => ?_)
  have hP : va_P D classes [(q231, .inr (1, [.null, .null, .int 0, .long 0])), (q234, .inl (a 1, 2048, .inr (.inl (fun _ => 0))))] H := hP
  have hD : va_D A [(q231, .inr (1, [.null, .null, .int 0, .long 0])), (q234, .inl (a 1, 2048, .inr (.inl (fun _ => 0))))] := hD
  refine W.cs (cells' := 1) (slots' := 2048) rfl rfl ?_
  refine va_putF (D := D) (v := .ref q234) (C := RX1) (T := TX1) (N := 4) hx hb hts iX1 tyX1 tyX1_ok nmX1 hown hK.1 hP hD hS 0 rfl rfl 0 (by decide) (hts _ t_285) (fun _ h9 => h9) rfl (hnm rfl) rfl (tyX1_ok 0 (by decide)) rfl rfl (Nat.le_of_ble_eq_true rfl) dX1_init_10 (fun H locs hP hD hS => ?_)
  have hP : va_P D classes [(q231, .inr (1, [.ref q234, .null, .int 0, .long 0])), (q234, .inl (a 1, 2048, .inr (.inl (fun _ => 0))))] H := hP
  have hD : va_D A [(q231, .inr (1, [.ref q234, .null, .int 0, .long 0])), (q234, .inl (a 1, 2048, .inr (.inl (fun _ => 0))))] := hD
  refine lv_aload_n hx hb dX1_init_13 rfl (lv_at hl 0 rfl) ?_
  refine lv_sipush (v := 2048) hx hb dX1_init_14 (by decide) ?_
  refine newA (atype := .long) (a0 := (2048, .inr (.inl (fun _ => 0)))) hx hb hK 1 rfl ra_long (hts _ t_278) rfl hP hD hS hA (fun _ => rfl) (by decide) (by decide) (by decide) (Nat.le_of_ble_eq_true rfl) (Nat.le_of_ble_eq_true rfl) dX1_init_17 (fun q235 H hP hD hS => ?_)
  have hP : va_P D classes [(q231, .inr (1, [.ref q234, .null, .int 0, .long 0])), (q234, .inl (a 1, 2048, .inr (.inl (fun _ => 0)))), (q235, .inl (a 1, 2048, .inr (.inl (fun _ => 0))))] H := hP
  have hD : va_D A [(q231, .inr (1, [.ref q234, .null, .int 0, .long 0])), (q234, .inl (a 1, 2048, .inr (.inl (fun _ => 0)))), (q235, .inl (a 1, 2048, .inr (.inl (fun _ => 0))))] := hD
  refine W.cs (cells' := 2) (slots' := 4096) rfl rfl ?_
  refine va_putF (D := D) (v := .ref q235) (C := RX1) (T := TX1) (N := 4) hx hb hts iX1 tyX1 tyX1_ok nmX1 hown hK.1 hP hD hS 0 rfl rfl 1 (by decide) (hts _ t_286) (fun _ h9 => h9) rfl (hnm rfl) rfl (tyX1_ok 1 (by decide)) rfl rfl (Nat.le_of_ble_eq_true rfl) dX1_init_19 (fun H locs hP hD hS => ?_)
  have hP : va_P D classes [(q231, .inr (1, [.ref q234, .ref q235, .int 0, .long 0])), (q234, .inl (a 1, 2048, .inr (.inl (fun _ => 0)))), (q235, .inl (a 1, 2048, .inr (.inl (fun _ => 0))))] H := hP
  have hD : va_D A [(q231, .inr (1, [.ref q234, .ref q235, .int 0, .long 0])), (q234, .inl (a 1, 2048, .inr (.inl (fun _ => 0)))), (q235, .inl (a 1, 2048, .inr (.inl (fun _ => 0))))] := hD
  exact retMv C rfl (0, [q234, q235], [], [], [], []) ⟨q234, q235, rfl⟩ hP hD hS (Nat.le_of_ble_eq_true rfl) (Nat.le_of_ble_eq_true rfl) dX1_init_22

set_option maxHeartbeats 4000000 in
set_option maxRecDepth 100000 in
theorem c_X7_init_1 (l : Launch) (D : va_G) (a : Nat → ClassId) (q244 : Nat) (sz : Nat) : CMv (S := SS) l MX7_init 1 20 12 108 D a [.ref q244, .int 0] [(q244, .inr (7, [.int 0, .int 0, .int 0, .int 0, .int 0, .null, .null, .null, .null, .null, .null, .null, .null, .null, .null, .null, .null, .int 0]))] sz (fun u => (∃ q257 : Nat, ∃ q258 : Nat, ∃ q259 : Nat, ∃ q260 : Nat, ∃ q261 : Nat, ∃ q262 : Nat, ∃ q263 : Nat, ∃ q264 : Nat, ∃ q265 : Nat, ∃ q266 : Nat, ∃ q267 : Nat, ∃ q268 : Nat, u = (0, [q257, q258, q259, q260, q261, q262, q263, q264, q265, q266, q267, q268], [], [], [], []))) (fun u => pk [[(q244, .inr (7, [.int 0, .int 0, .int 0, .int 0, .int 0, .ref (u.2.1.getD 0 0), .ref (u.2.1.getD 1 0), .ref (u.2.1.getD 2 0), .ref (u.2.1.getD 3 0), .ref (u.2.1.getD 4 0), .ref (u.2.1.getD 5 0), .ref (u.2.1.getD 6 0), .ref (u.2.1.getD 7 0), .ref (u.2.1.getD 8 0), .ref (u.2.1.getD 9 0), .ref (u.2.1.getD 10 0), .ref (u.2.1.getD 11 0), .int 0])), ((u.2.1.getD 0 0), .inl (a 0, 6, .inl (fun _ => 0))), ((u.2.1.getD 1 0), .inl (a 0, 6, .inl (fun _ => 0))), ((u.2.1.getD 2 0), .inl (a 0, 6, .inl (fun _ => 0))), ((u.2.1.getD 3 0), .inl (a 0, 10, .inl (fun _ => 0))), ((u.2.1.getD 4 0), .inl (a 0, 10, .inl (fun _ => 0))), ((u.2.1.getD 5 0), .inl (a 0, 10, .inl (fun _ => 0))), ((u.2.1.getD 6 0), .inl (a 0, 10, .inl (fun _ => 0))), ((u.2.1.getD 7 0), .inl (a 0, 10, .inl (fun _ => 0))), ((u.2.1.getD 8 0), .inl (a 0, 10, .inl (fun _ => 0))), ((u.2.1.getD 9 0), .inl (a 0, 10, .inl (fun _ => 0))), ((u.2.1.getD 10 0), .inl (a 0, 10, .inl (fun _ => 0))), ((u.2.1.getD 11 0), .inl (a 0, 10, .inl (fun _ => 0)))]] u.1) := by
  refine entMv (by decide) (Nat.le_of_ble_eq_true rfl) ?_
  intro p e s m below meth c C hK A hA hP hD ls hl
  obtain ⟨hx, hb, hml, hown, hts, hr, hlocks, hnm⟩ := id C
  have hb : c.code = cX7_init := hb
  have hown : s.vm.findClass RX7 = some m.cls := hown
  have hS : va_S A s.heap s.heap [] := va_S.rf
  have hl : lv_has ls 2 [(0, .ref q244), (1, .int 0)] := hl
  refine lv_aload_n hx hb dX7_init_0 rfl (lv_at hl 0 rfl) ?_
  refine W.objInit hx hb hown (hts _ t_36) (hts _ t_25) (hts _ t_26) rfl (by rw [hml]; exact hl.1) rfl dX7_init_1 (Nat.le_of_ble_eq_true rfl) (Nat.le_of_ble_eq_true rfl) ?_
  refine W.eq (g2 := F0 m 4 ls []) rfl ?_
  refine lv_aload_n hx hb dX7_init_4 rfl (lv_at hl 0 rfl) ?_
  refine lv_iload_n hx hb dX7_init_5 rfl (lv_at hl 1 rfl) ?_
  refine va_putF (D := D) (v := .int 0) (C := RX7) (T := TX7) (N := 18) hx hb hts iX7 tyX7 tyX7_ok nmX7 hown hK.1 hP hD hS 0 rfl rfl 0 (by decide) (hts _ t_37) (fun _ h9 => h9) rfl (hnm rfl) rfl (tyX7_ok 0 (by decide)) rfl rfl (Nat.le_of_ble_eq_true rfl) dX7_init_6 (fun H locs hP hD hS => ?_)
  have hP : va_P D classes [(q244, .inr (7, [.int 0, .int 0, .int 0, .int 0, .int 0, .null, .null, .null, .null, .null, .null, .null, .null, .null, .null, .null, .null, .int 0]))] H := hP
  have hD : va_D A [(q244, .inr (7, [.int 0, .int 0, .int 0, .int 0, .int 0, .null, .null, .null, .null, .null, .null, .null, .null, .null, .null, .null, .null, .int 0]))] := hD
  refine lv_aload_n hx hb dX7_init_9 rfl (lv_at hl 0 rfl) ?_
  refine lv_bipush (v := 6) hx hb dX7_init_10 (by decide) ?_
  refine newA (atype := .int) (a0 := (6, .inl (fun _ => 0))) hx hb hK 0 rfl ra_int (hts _ t_119) rfl hP hD hS hA (fun _ => rfl) (by decide) (by decide) (by decide) (Nat.le_of_ble_eq_true rfl) (Nat.le_of_ble_eq_true rfl) dX7_init_12 (fun q257 H hP hD hS => ?_)
  have hP : va_P D classes [(q244, .inr (7, [.int 0, .int 0, .int 0, .int 0, .int 0, .null, .null, .null, .null, .null, .null, .null, .null, .null, .null, .null, .null, .int 0])), (q257, .inl (a 0, 6, .inl (fun _ => 0)))] H := hP
  have hD : va_D A [(q244, .inr (7, [.int 0, .int 0, .int 0, .int 0, .int 0, .null, .null, .null, .null, .null, .null, .null, .null, .null, .null, .null, .null, .int 0])), (q257, .inl (a 0, 6, .inl (fun _ => 0)))] := hD
  refine W.cs (cells' := 1) (slots' := 6) rfl rfl ?_
  refine va_putF (D := D) (v := .ref q257) (C := RX7) (T := TX7) (N := 18) hx hb hts iX7 tyX7 tyX7_ok nmX7 hown hK.1 hP hD hS 0 rfl rfl 5 (by decide) (hts _ t_49) (fun _ h9 => h9) rfl (hnm rfl) rfl (tyX7_ok 5 (by decide)) rfl rfl (Nat.le_of_ble_eq_true rfl) dX7_init_14 (fun H locs hP hD hS => ?_)
  have hP : va_P D classes [(q244, .inr (7, [.int 0, .int 0, .int 0, .int 0, .int 0, .ref q257, .null, .null, .null, .null, .null, .null, .null, .null, .null, .null, .null, .int 0])), (q257, .inl (a 0, 6, .inl (fun _ => 0)))] H := hP
  have hD : va_D A [(q244, .inr (7, [.int 0, .int 0, .int 0, .int 0, .int 0, .ref q257, .null, .null, .null, .null, .null, .null, .null, .null, .null, .null, .null, .int 0])), (q257, .inl (a 0, 6, .inl (fun _ => 0)))] := hD
  refine lv_aload_n hx hb dX7_init_17 rfl (lv_at hl 0 rfl) ?_
  refine lv_bipush (v := 6) hx hb dX7_init_18 (by decide) ?_
  refine newA (atype := .int) (a0 := (6, .inl (fun _ => 0))) hx hb hK 0 rfl ra_int (hts _ t_119) rfl hP hD hS hA (fun _ => rfl) (by decide) (by decide) (by decide) (Nat.le_of_ble_eq_true rfl) (Nat.le_of_ble_eq_true rfl) dX7_init_20 (fun q258 H hP hD hS => ?_)
  have hP : va_P D classes [(q244, .inr (7, [.int 0, .int 0, .int 0, .int 0, .int 0, .ref q257, .null, .null, .null, .null, .null, .null, .null, .null, .null, .null, .null, .int 0])), (q257, .inl (a 0, 6, .inl (fun _ => 0))), (q258, .inl (a 0, 6, .inl (fun _ => 0)))] H := hP
  have hD : va_D A [(q244, .inr (7, [.int 0, .int 0, .int 0, .int 0, .int 0, .ref q257, .null, .null, .null, .null, .null, .null, .null, .null, .null, .null, .null, .int 0])), (q257, .inl (a 0, 6, .inl (fun _ => 0))), (q258, .inl (a 0, 6, .inl (fun _ => 0)))] := hD
  refine W.cs (cells' := 2) (slots' := 12) rfl rfl ?_
  refine va_putF (D := D) (v := .ref q258) (C := RX7) (T := TX7) (N := 18) hx hb hts iX7 tyX7 tyX7_ok nmX7 hown hK.1 hP hD hS 0 rfl rfl 6 (by decide) (hts _ t_51) (fun _ h9 => h9) rfl (hnm rfl) rfl (tyX7_ok 6 (by decide)) rfl rfl (Nat.le_of_ble_eq_true rfl) dX7_init_22 (fun H locs hP hD hS => ?_)
  have hP : va_P D classes [(q244, .inr (7, [.int 0, .int 0, .int 0, .int 0, .int 0, .ref q257, .ref q258, .null, .null, .null, .null, .null, .null, .null, .null, .null, .null, .int 0])), (q257, .inl (a 0, 6, .inl (fun _ => 0))), (q258, .inl (a 0, 6, .inl (fun _ => 0)))] H := hP
  have hD : va_D A [(q244, .inr (7, [.int 0, .int 0, .int 0, .int 0, .int 0, .ref q257, .ref q258, .null, .null, .null, .null, .null, .null, .null, .null, .null, .null, .int 0])), (q257, .inl (a 0, 6, .inl (fun _ => 0))), (q258, .inl (a 0, 6, .inl (fun _ => 0)))] := hD
  refine lv_aload_n hx hb dX7_init_25 rfl (lv_at hl 0 rfl) ?_
  refine lv_bipush (v := 6) hx hb dX7_init_26 (by decide) ?_
  refine newA (atype := .int) (a0 := (6, .inl (fun _ => 0))) hx hb hK 0 rfl ra_int (hts _ t_119) rfl hP hD hS hA (fun _ => rfl) (by decide) (by decide) (by decide) (Nat.le_of_ble_eq_true rfl) (Nat.le_of_ble_eq_true rfl) dX7_init_28 (fun q259 H hP hD hS => ?_)
  have hP : va_P D classes [(q244, .inr (7, [.int 0, .int 0, .int 0, .int 0, .int 0, .ref q257, .ref q258, .null, .null, .null, .null, .null, .null, .null, .null, .null, .null, .int 0])), (q257, .inl (a 0, 6, .inl (fun _ => 0))), (q258, .inl (a 0, 6, .inl (fun _ => 0))), (q259, .inl (a 0, 6, .inl (fun _ => 0)))] H := hP
  have hD : va_D A [(q244, .inr (7, [.int 0, .int 0, .int 0, .int 0, .int 0, .ref q257, .ref q258, .null, .null, .null, .null, .null, .null, .null, .null, .null, .null, .int 0])), (q257, .inl (a 0, 6, .inl (fun _ => 0))), (q258, .inl (a 0, 6, .inl (fun _ => 0))), (q259, .inl (a 0, 6, .inl (fun _ => 0)))] := hD
  refine W.cs (cells' := 3) (slots' := 18) rfl rfl ?_
  refine va_putF (D := D) (v := .ref q259) (C := RX7) (T := TX7) (N := 18) hx hb hts iX7 tyX7 tyX7_ok nmX7 hown hK.1 hP hD hS 0 rfl rfl 7 (by decide) (hts _ t_53) (fun _ h9 => h9) rfl (hnm rfl) rfl (tyX7_ok 7 (by decide)) rfl rfl (Nat.le_of_ble_eq_true rfl) dX7_init_30 (fun H locs hP hD hS => ?_)
  have hP : va_P D classes [(q244, .inr (7, [.int 0, .int 0, .int 0, .int 0, .int 0, .ref q257, .ref q258, .ref q259, .null, .null, .null, .null, .null, .null, .null, .null, .null, .int 0])), (q257, .inl (a 0, 6, .inl (fun _ => 0))), (q258, .inl (a 0, 6, .inl (fun _ => 0))), (q259, .inl (a 0, 6, .inl (fun _ => 0)))] H := hP
  have hD : va_D A [(q244, .inr (7, [.int 0, .int 0, .int 0, .int 0, .int 0, .ref q257, .ref q258, .ref q259, .null, .null, .null, .null, .null, .null, .null, .null, .null, .int 0])), (q257, .inl (a 0, 6, .inl (fun _ => 0))), (q258, .inl (a 0, 6, .inl (fun _ => 0))), (q259, .inl (a 0, 6, .inl (fun _ => 0)))] := hD
  refine lv_aload_n hx hb dX7_init_33 rfl (lv_at hl 0 rfl) ?_
  refine lv_bipush (v := 10) hx hb dX7_init_34 (by decide) ?_
  refine newA (atype := .int) (a0 := (10, .inl (fun _ => 0))) hx hb hK 0 rfl ra_int (hts _ t_119) rfl hP hD hS hA (fun _ => rfl) (by decide) (by decide) (by decide) (Nat.le_of_ble_eq_true rfl) (Nat.le_of_ble_eq_true rfl) dX7_init_36 (fun q260 H hP hD hS => ?_)
  have hP : va_P D classes [(q244, .inr (7, [.int 0, .int 0, .int 0, .int 0, .int 0, .ref q257, .ref q258, .ref q259, .null, .null, .null, .null, .null, .null, .null, .null, .null, .int 0])), (q257, .inl (a 0, 6, .inl (fun _ => 0))), (q258, .inl (a 0, 6, .inl (fun _ => 0))), (q259, .inl (a 0, 6, .inl (fun _ => 0))), (q260, .inl (a 0, 10, .inl (fun _ => 0)))] H := hP
  have hD : va_D A [(q244, .inr (7, [.int 0, .int 0, .int 0, .int 0, .int 0, .ref q257, .ref q258, .ref q259, .null, .null, .null, .null, .null, .null, .null, .null, .null, .int 0])), (q257, .inl (a 0, 6, .inl (fun _ => 0))), (q258, .inl (a 0, 6, .inl (fun _ => 0))), (q259, .inl (a 0, 6, .inl (fun _ => 0))), (q260, .inl (a 0, 10, .inl (fun _ => 0)))] := hD
  refine W.cs (cells' := 4) (slots' := 28) rfl rfl ?_
  refine va_putF (D := D) (v := .ref q260) (C := RX7) (T := TX7) (N := 18) hx hb hts iX7 tyX7 tyX7_ok nmX7 hown hK.1 hP hD hS 0 rfl rfl 8 (by decide) (hts _ t_55) (fun _ h9 => h9) rfl (hnm rfl) rfl (tyX7_ok 8 (by decide)) rfl rfl (Nat.le_of_ble_eq_true rfl) dX7_init_38 (fun H locs hP hD hS => ?_)
  have hP : va_P D classes [(q244, .inr (7, [.int 0, .int 0, .int 0, .int 0, .int 0, .ref q257, .ref q258, .ref q259, .ref q260, .null, .null, .null, .null, .null, .null, .null, .null, .int 0])), (q257, .inl (a 0, 6, .inl (fun _ => 0))), (q258, .inl (a 0, 6, .inl (fun _ => 0))), (q259, .inl (a 0, 6, .inl (fun _ => 0))), (q260, .inl (a 0, 10, .inl (fun _ => 0)))] H := hP
  have hD : va_D A [(q244, .inr (7, [.int 0, .int 0, .int 0, .int 0, .int 0, .ref q257, .ref q258, .ref q259, .ref q260, .null, .null, .null, .null, .null, .null, .null, .null, .int 0])), (q257, .inl (a 0, 6, .inl (fun _ => 0))), (q258, .inl (a 0, 6, .inl (fun _ => 0))), (q259, .inl (a 0, 6, .inl (fun _ => 0))), (q260, .inl (a 0, 10, .inl (fun _ => 0)))] := hD
  refine lv_aload_n hx hb dX7_init_41 rfl (lv_at hl 0 rfl) ?_
  refine lv_bipush (v := 10) hx hb dX7_init_42 (by decide) ?_
  refine newA (atype := .int) (a0 := (10, .inl (fun _ => 0))) hx hb hK 0 rfl ra_int (hts _ t_119) rfl hP hD hS hA (fun _ => rfl) (by decide) (by decide) (by decide) (Nat.le_of_ble_eq_true rfl) (Nat.le_of_ble_eq_true rfl) dX7_init_44 (fun q261 H hP hD hS => ?_)
  have hP : va_P D classes [(q244, .inr (7, [.int 0, .int 0, .int 0, .int 0, .int 0, .ref q257, .ref q258, .ref q259, .ref q260, .null, .null, .null, .null, .null, .null, .null, .null, .int 0])), (q257, .inl (a 0, 6, .inl (fun _ => 0))), (q258, .inl (a 0, 6, .inl (fun _ => 0))), (q259, .inl (a 0, 6, .inl (fun _ => 0))), (q260, .inl (a 0, 10, .inl (fun _ => 0))), (q261, .inl (a 0, 10, .inl (fun _ => 0)))] H := hP
  have hD : va_D A [(q244, .inr (7, [.int 0, .int 0, .int 0, .int 0, .int 0, .ref q257, .ref q258, .ref q259, .ref q260, .null, .null, .null, .null, .null, .null, .null, .null, .int 0])), (q257, .inl (a 0, 6, .inl (fun _ => 0))), (q258, .inl (a 0, 6, .inl (fun _ => 0))), (q259, .inl (a 0, 6, .inl (fun _ => 0))), (q260, .inl (a 0, 10, .inl (fun _ => 0))), (q261, .inl (a 0, 10, .inl (fun _ => 0)))] := hD
  refine W.cs (cells' := 5) (slots' := 38) rfl rfl ?_
  refine va_putF (D := D) (v := .ref q261) (C := RX7) (T := TX7) (N := 18) hx hb hts iX7 tyX7 tyX7_ok nmX7 hown hK.1 hP hD hS 0 rfl rfl 9 (by decide) (hts _ t_58) (fun _ h9 => h9) rfl (hnm rfl) rfl (tyX7_ok 9 (by decide)) rfl rfl (Nat.le_of_ble_eq_true rfl) dX7_init_46 (fun H locs hP hD hS => ?_)
  have hP : va_P D classes [(q244, .inr (7, [.int 0, .int 0, .int 0, .int 0, .int 0, .ref q257, .ref q258, .ref q259, .ref q260, .ref q261, .null, .null, .null, .null, .null, .null, .null, .int 0])), (q257, .inl (a 0, 6, .inl (fun _ => 0))), (q258, .inl (a 0, 6, .inl (fun _ => 0))), (q259, .inl (a 0, 6, .inl (fun _ => 0))), (q260, .inl (a 0, 10, .inl (fun _ => 0))), (q261, .inl (a 0, 10, .inl (fun _ => 0)))] H := hP
  have hD : va_D A [(q244, .inr (7, [.int 0, .int 0, .int 0, .int 0, .int 0, .ref q257, .ref q258, .ref q259, .ref q260, .ref q261, .null, .null, .null, .null, .null, .null, .null, .int 0])), (q257, .inl (a 0, 6, .inl (fun _ => 0))), (q258, .inl (a 0, 6, .inl (fun _ => 0))), (q259, .inl (a 0, 6, .inl (fun _ => 0))), (q260, .inl (a 0, 10, .inl (fun _ => 0))), (q261, .inl (a 0, 10, .inl (fun _ => 0)))] := hD
  refine lv_aload_n hx hb dX7_init_49 rfl (lv_at hl 0 rfl) ?_
  refine lv_bipush (v := 10) hx hb dX7_init_50 (by decide) ?_
  refine newA (atype := .int) (a0 := (10, .inl (fun _ => 0))) hx hb hK 0 rfl ra_int (hts _ t_119) rfl hP hD hS hA (fun _ => rfl) (by decide) (by decide) (by decide) (Nat.le_of_ble_eq_true rfl) (Nat.le_of_ble_eq_true rfl) dX7_init_52 (fun q262 H hP hD hS => ?_)
  have hP : va_P D classes [(q244, .inr (7, [.int 0, .int 0, .int 0, .int 0, .int 0, .ref q257, .ref q258, .ref q259, .ref q260, .ref q261, .null, .null, .null, .null, .null, .null, .null, .int 0])), (q257, .inl (a 0, 6, .inl (fun _ => 0))), (q258, .inl (a 0, 6, .inl (fun _ => 0))), (q259, .inl (a 0, 6, .inl (fun _ => 0))), (q260, .inl (a 0, 10, .inl (fun _ => 0))), (q261, .inl (a 0, 10, .inl (fun _ => 0))), (q262, .inl (a 0, 10, .inl (fun _ => 0)))] H := hP
  have hD : va_D A [(q244, .inr (7, [.int 0, .int 0, .int 0, .int 0, .int 0, .ref q257, .ref q258, .ref q259, .ref q260, .ref q261, .null, .null, .null, .null, .null, .null, .null, .int 0])), (q257, .inl (a 0, 6, .inl (fun _ => 0))), (q258, .inl (a 0, 6, .inl (fun _ => 0))), (q259, .inl (a 0, 6, .inl (fun _ => 0))), (q260, .inl (a 0, 10, .inl (fun _ => 0))), (q261, .inl (a 0, 10, .inl (fun _ => 0))), (q262, .inl (a 0, 10, .inl (fun _ => 0)))] := hD
  refine W.cs (cells' := 6) (slots' := 48) rfl rfl ?_
  refine va_putF (D := D) (v := .ref q262) (C := RX7) (T := TX7) (N := 18) hx hb hts iX7 tyX7 tyX7_ok nmX7 hown hK.1 hP hD hS 0 rfl rfl 10 (by decide) (hts _ t_63) (fun _ h9 => h9) rfl (hnm rfl) rfl (tyX7_ok 10 (by decide)) rfl rfl (Nat.le_of_ble_eq_true rfl) dX7_init_54 (fun H locs hP hD hS => ?_)
  have hP : va_P D classes [(q244, .inr (7, [.int 0, .int 0, .int 0, .int 0, .int 0, .ref q257, .ref q258, .ref q259, .ref q260, .ref q261, .ref q262, .null, .null, .null, .null, .null, .null, .int 0])), (q257, .inl (a 0, 6, .inl (fun _ => 0))), (q258, .inl (a 0, 6, .inl (fun _ => 0))), (q259, .inl (a 0, 6, .inl (fun _ => 0))), (q260, .inl (a 0, 10, .inl (fun _ => 0))), (q261, .inl (a 0, 10, .inl (fun _ => 0))), (q262, .inl (a 0, 10, .inl (fun _ => 0)))] H := hP
  have hD : va_D A [(q244, .inr (7, [.int 0, .int 0, .int 0, .int 0, .int 0, .ref q257, .ref q258, .ref q259, .ref q260, .ref q261, .ref q262, .null, .null, .null, .null, .null, .null, .int 0])), (q257, .inl (a 0, 6, .inl (fun _ => 0))), (q258, .inl (a 0, 6, .inl (fun _ => 0))), (q259, .inl (a 0, 6, .inl (fun _ => 0))), (q260, .inl (a 0, 10, .inl (fun _ => 0))), (q261, .inl (a 0, 10, .inl (fun _ => 0))), (q262, .inl (a 0, 10, .inl (fun _ => 0)))] := hD
  refine lv_aload_n hx hb dX7_init_57 rfl (lv_at hl 0 rfl) ?_
  refine lv_bipush (v := 10) hx hb dX7_init_58 (by decide) ?_
  refine newA (atype := .int) (a0 := (10, .inl (fun _ => 0))) hx hb hK 0 rfl ra_int (hts _ t_119) rfl hP hD hS hA (fun _ => rfl) (by decide) (by decide) (by decide) (Nat.le_of_ble_eq_true rfl) (Nat.le_of_ble_eq_true rfl) dX7_init_60 (fun q263 H hP hD hS => ?_)
  have hP : va_P D classes [(q244, .inr (7, [.int 0, .int 0, .int 0, .int 0, .int 0, .ref q257, .ref q258, .ref q259, .ref q260, .ref q261, .ref q262, .null, .null, .null, .null, .null, .null, .int 0])), (q257, .inl (a 0, 6, .inl (fun _ => 0))), (q258, .inl (a 0, 6, .inl (fun _ => 0))), (q259, .inl (a 0, 6, .inl (fun _ => 0))), (q260, .inl (a 0, 10, .inl (fun _ => 0))), (q261, .inl (a 0, 10, .inl (fun _ => 0))), (q262, .inl (a 0, 10, .inl (fun _ => 0))), (q263, .inl (a 0, 10, .inl (fun _ => 0)))] H := hP
  have hD : va_D A [(q244, .inr (7, [.int 0, .int 0, .int 0, .int 0, .int 0, .ref q257, .ref q258, .ref q259, .ref q260, .ref q261, .ref q262, .null, .null, .null, .null, .null, .null, .int 0])), (q257, .inl (a 0, 6, .inl (fun _ => 0))), (q258, .inl (a 0, 6, .inl (fun _ => 0))), (q259, .inl (a 0, 6, .inl (fun _ => 0))), (q260, .inl (a 0, 10, .inl (fun _ => 0))), (q261, .inl (a 0, 10, .inl (fun _ => 0))), (q262, .inl (a 0, 10, .inl (fun _ => 0))), (q263, .inl (a 0, 10, .inl (fun _ => 0)))] := hD
  refine W.cs (cells' := 7) (slots' := 58) rfl rfl ?_
  refine va_putF (D := D) (v := .ref q263) (C := RX7) (T := TX7) (N := 18) hx hb hts iX7 tyX7 tyX7_ok nmX7 hown hK.1 hP hD hS 0 rfl rfl 11 (by decide) (hts _ t_68) (fun _ h9 => h9) rfl (hnm rfl) rfl (tyX7_ok 11 (by decide)) rfl rfl (Nat.le_of_ble_eq_true rfl) dX7_init_62 (fun H locs hP hD hS => ?_)
  have hP : va_P D classes [(q244, .inr (7, [.int 0, .int 0, .int 0, .int 0, .int 0, .ref q257, .ref q258, .ref q259, .ref q260, .ref q261, .ref q262, .ref q263, .null, .null, .null, .null, .null, .int 0])), (q257, .inl (a 0, 6, .inl (fun _ => 0))), (q258, .inl (a 0, 6, .inl (fun _ => 0))), (q259, .inl (a 0, 6, .inl (fun _ => 0))), (q260, .inl (a 0, 10, .inl (fun _ => 0))), (q261, .inl (a 0, 10, .inl (fun _ => 0))), (q262, .inl (a 0, 10, .inl (fun _ => 0))), (q263, .inl (a 0, 10, .inl (fun _ => 0)))] H := hP
  have hD : va_D A [(q244, .inr (7, [.int 0, .int 0, .int 0, .int 0, .int 0, .ref q257, .ref q258, .ref q259, .ref q260, .ref q261, .ref q262, .ref q263, .null, .null, .null, .null, .null, .int 0])), (q257, .inl (a 0, 6, .inl (fun _ => 0))), (q258, .inl (a 0, 6, .inl (fun _ => 0))), (q259, .inl (a 0, 6, .inl (fun _ => 0))), (q260, .inl (a 0, 10, .inl (fun _ => 0))), (q261, .inl (a 0, 10, .inl (fun _ => 0))), (q262, .inl (a 0, 10, .inl (fun _ => 0))), (q263, .inl (a 0, 10, .inl (fun _ => 0)))] := hD
  refine lv_aload_n hx hb dX7_init_65 rfl (lv_at hl 0 rfl) ?_
  refine lv_bipush (v := 10) hx hb dX7_init_66 (by decide) ?_
  refine newA (atype := .int) (a0 := (10, .inl (fun _ => 0))) hx hb hK 0 rfl ra_int (hts _ t_119) rfl hP hD hS hA (fun _ => rfl) (by decide) (by decide) (by decide) (Nat.le_of_ble_eq_true rfl) (Nat.le_of_ble_eq_true rfl) dX7_init_68 (fun q264 H hP hD hS => ?_)
  have hP : va_P D classes [(q244, .inr (7, [.int 0, .int 0, .int 0, .int 0, .int 0, .ref q257, .ref q258, .ref q259, .ref q260, .ref q261, .ref q262, .ref q263, .null, .null, .null, .null, .null, .int 0])), (q257, .inl (a 0, 6, .inl (fun _ => 0))), (q258, .inl (a 0, 6, .inl (fun _ => 0))), (q259, .inl (a 0, 6, .inl (fun _ => 0))), (q260, .inl (a 0, 10, .inl (fun _ => 0))), (q261, .inl (a 0, 10, .inl (fun _ => 0))), (q262, .inl (a 0, 10, .inl (fun _ => 0))), (q263, .inl (a 0, 10, .inl (fun _ => 0))), (q264, .inl (a 0, 10, .inl (fun _ => 0)))] H := hP
  have hD : va_D A [(q244, .inr (7, [.int 0, .int 0, .int 0, .int 0, .int 0, .ref q257, .ref q258, .ref q259, .ref q260, .ref q261, .ref q262, .ref q263, .null, .null, .null, .null, .null, .int 0])), (q257, .inl (a 0, 6, .inl (fun _ => 0))), (q258, .inl (a 0, 6, .inl (fun _ => 0))), (q259, .inl (a 0, 6, .inl (fun _ => 0))), (q260, .inl (a 0, 10, .inl (fun _ => 0))), (q261, .inl (a 0, 10, .inl (fun _ => 0))), (q262, .inl (a 0, 10, .inl (fun _ => 0))), (q263, .inl (a 0, 10, .inl (fun _ => 0))), (q264, .inl (a 0, 10, .inl (fun _ => 0)))] := hD
  refine W.cs (cells' := 8) (slots' := 68) rfl rfl ?_
  refine va_putF (D := D) (v := .ref q264) (C := RX7) (T := TX7) (N := 18) hx hb hts iX7 tyX7 tyX7_ok nmX7 hown hK.1 hP hD hS 0 rfl rfl 12 (by decide) (hts _ t_70) (fun _ h9 => h9) rfl (hnm rfl) rfl (tyX7_ok 12 (by decide)) rfl rfl (Nat.le_of_ble_eq_true rfl) dX7_init_70 (fun H locs hP hD hS => ?_)
  have hP : va_P D classes [(q244, .inr (7, [.int 0, .int 0, .int 0, .int 0, .int 0, .ref q257, .ref q258, .ref q259, .ref q260, .ref q261, .ref q262, .ref q263, .ref q264, .null, .null, .null, .null, .int 0])), (q257, .inl (a 0, 6, .inl (fun _ => 0))), (q258, .inl (a 0, 6, .inl (fun _ => 0))), (q259, .inl (a 0, 6, .inl (fun _ => 0))), (q260, .inl (a 0, 10, .inl (fun _ => 0))), (q261, .inl (a 0, 10, .inl (fun _ => 0))), (q262, .inl (a 0, 10, .inl (fun _ => 0))), (q263, .inl (a 0, 10, .inl (fun _ => 0))), (q264, .inl (a 0, 10, .inl (fun _ => 0)))] H := hP
  have hD : va_D A [(q244, .inr (7, [.int 0, .int 0, .int 0, .int 0, .int 0, .ref q257, .ref q258, .ref q259, .ref q260, .ref q261, .ref q262, .ref q263, .ref q264, .null, .null, .null, .null, .int 0])), (q257, .inl (a 0, 6, .inl (fun _ => 0))), (q258, .inl (a 0, 6, .inl (fun _ => 0))), (q259, .inl (a 0, 6, .inl (fun _ => 0))), (q260, .inl (a 0, 10, .inl (fun _ => 0))), (q261, .inl (a 0, 10, .inl (fun _ => 0))), (q262, .inl (a 0, 10, .inl (fun _ => 0))), (q263, .inl (a 0, 10, .inl (fun _ => 0))), (q264, .inl (a 0, 10, .inl (fun _ => 0)))] := hD
  refine lv_aload_n hx hb dX7_init_73 rfl (lv_at hl 0 rfl) ?_
  refine lv_bipush (v := 10) hx hb dX7_init_74 (by decide) ?_
  refine newA (atype := .int) (a0 := (10, .inl (fun _ => 0))) hx hb hK 0 rfl ra_int (hts _ t_119) rfl hP hD hS hA (fun _ => rfl) (by decide) (by decide) (by decide) (Nat.le_of_ble_eq_true rfl) (Nat.le_of_ble_eq_true rfl) dX7_init_76 (fun q265 H hP hD hS => ?_)
  have hP : va_P D classes [(q244, .inr (7, [.int 0, .int 0, .int 0, .int 0, .int 0, .ref q257, .ref q258, .ref q259, .ref q260, .ref q261, .ref q262, .ref q263, .ref q264, .null, .null, .null, .null, .int 0])), (q257, .inl (a 0, 6, .inl (fun _ => 0))), (q258, .inl (a 0, 6, .inl (fun _ => 0))), (q259, .inl (a 0, 6, .inl (fun _ => 0))), (q260, .inl (a 0, 10, .inl (fun _ => 0))), (q261, .inl (a 0, 10, .inl (fun _ => 0))), (q262, .inl (a 0, 10, .inl (fun _ => 0))), (q263, .inl (a 0, 10, .inl (fun _ => 0))), (q264, .inl (a 0, 10, .inl (fun _ => 0))), (q265, .inl (a 0, 10, .inl (fun _ => 0)))] H := hP
  have hD : va_D A [(q244, .inr (7, [.int 0, .int 0, .int 0, .int 0, .int 0, .ref q257, .ref q258, .ref q259, .ref q260, .ref q261, .ref q262, .ref q263, .ref q264, .null, .null, .null, .null, .int 0])), (q257, .inl (a 0, 6, .inl (fun _ => 0))), (q258, .inl (a 0, 6, .inl (fun _ => 0))), (q259, .inl (a 0, 6, .inl (fun _ => 0))), (q260, .inl (a 0, 10, .inl (fun _ => 0))), (q261, .inl (a 0, 10, .inl (fun _ => 0))), (q262, .inl (a 0, 10, .inl (fun _ => 0))), (q263, .inl (a 0, 10, .inl (fun _ => 0))), (q264, .inl (a 0, 10, .inl (fun _ => 0))), (q265, .inl (a 0, 10, .inl (fun _ => 0)))] := hD
  refine W.cs (cells' := 9) (slots' := 78) rfl rfl ?_
  refine va_putF (D := D) (v := .ref q265) (C := RX7) (T := TX7) (N := 18) hx hb hts iX7 tyX7 tyX7_ok nmX7 hown hK.1 hP hD hS 0 rfl rfl 13 (by decide) (hts _ t_75) (fun _ h9 => h9) rfl (hnm rfl) rfl (tyX7_ok 13 (by decide)) rfl rfl (Nat.le_of_ble_eq_true rfl) dX7_init_78 (fun H locs hP hD hS => ?_)
  have hP : va_P D classes [(q244, .inr (7, [.int 0, .int 0, .int 0, .int 0, .int 0, .ref q257, .ref q258, .ref q259, .ref q260, .ref q261, .ref q262, .ref q263, .ref q264, .ref q265, .null, .null, .null, .int 0])), (q257, .inl (a 0, 6, .inl (fun _ => 0))), (q258, .inl (a 0, 6, .inl (fun _ => 0))), (q259, .inl (a 0, 6, .inl (fun _ => 0))), (q260, .inl (a 0, 10, .inl (fun _ => 0))), (q261, .inl (a 0, 10, .inl (fun _ => 0))), (q262, .inl (a 0, 10, .inl (fun _ => 0))), (q263, .inl (a 0, 10, .inl (fun _ => 0))), (q264, .inl (a 0, 10, .inl (fun _ => 0))), (q265, .inl (a 0, 10, .inl (fun _ => 0)))] H := hP
  have hD : va_D A [(q244, .inr (7, [.int 0, .int 0, .int 0, .int 0, .int 0, .ref q257, .ref q258, .ref q259, .ref q260, .ref q261, .ref q262, .ref q263, .ref q264, .ref q265, .null, .null, .null, .int 0])), (q257, .inl (a 0, 6, .inl (fun _ => 0))), (q258, .inl (a 0, 6, .inl (fun _ => 0))), (q259, .inl (a 0, 6, .inl (fun _ => 0))), (q260, .inl (a 0, 10, .inl (fun _ => 0))), (q261, .inl (a 0, 10, .inl (fun _ => 0))), (q262, .inl (a 0, 10, .inl (fun _ => 0))), (q263, .inl (a 0, 10, .inl (fun _ => 0))), (q264, .inl (a 0, 10, .inl (fun _ => 0))), (q265, .inl (a 0, 10, .inl (fun _ => 0)))] := hD
  refine lv_aload_n hx hb dX7_init_81 rfl (lv_at hl 0 rfl) ?_
  refine lv_bipush (v := 10) hx hb dX7_init_82 (by decide) ?_
  refine newA (atype := .int) (a0 := (10, .inl (fun _ => 0))) hx hb hK 0 rfl ra_int (hts _ t_119) rfl hP hD hS hA (fun _ => rfl) (by decide) (by decide) (by decide) (Nat.le_of_ble_eq_true rfl) (Nat.le_of_ble_eq_true rfl) dX7_init_84 (fun q266 H hP hD hS => ?_)
  have hP : va_P D classes [(q244, .inr (7, [.int 0, .int 0, .int 0, .int 0, .int 0, .ref q257, .ref q258, .ref q259, .ref q260, .ref q261, .ref q262, .ref q263, .ref q264, .ref q265, .null, .null, .null, .int 0])), (q257, .inl (a 0, 6, .inl (fun _ => 0))), (q258, .inl (a 0, 6, .inl (fun _ => 0))), (q259, .inl (a 0, 6, .inl (fun _ => 0))), (q260, .inl (a 0, 10, .inl (fun _ => 0))), (q261, .inl (a 0, 10, .inl (fun _ => 0))), (q262, .inl (a 0, 10, .inl (fun _ => 0))), (q263, .inl (a 0, 10, .inl (fun _ => 0))), (q264, .inl (a 0, 10, .inl (fun _ => 0))), (q265, .inl (a 0, 10, .inl (fun _ => 0))), (q266, .inl (a 0, 10, .inl (fun _ => 0)))] H := hP
  have hD : va_D A [(q244, .inr (7, [.int 0, .int 0, .int 0, .int 0, .int 0, .ref q257, .ref q258, .ref q259, .ref q260, .ref q261, .ref q262, .ref q263, .ref q264, .ref q265, .null, .null, .null, .int 0])), (q257, .inl (a 0, 6, .inl (fun _ => 0))), (q258, .inl (a 0, 6, .inl (fun _ => 0))), (q259, .inl (a 0, 6, .inl (fun _ => 0))), (q260, .inl (a 0, 10, .inl (fun _ => 0))), (q261, .inl (a 0, 10, .inl (fun _ => 0))), (q262, .inl (a 0, 10, .inl (fun _ => 0))), (q263, .inl (a 0, 10, .inl (fun _ => 0))), (q264, .inl (a 0, 10, .inl (fun _ => 0))), (q265, .inl (a 0, 10, .inl (fun _ => 0))), (q266, .inl (a 0, 10, .inl (fun _ => 0)))] := hD
  refine W.cs (cells' := 10) (slots' := 88) rfl rfl ?_
  refine va_putF (D := D) (v := .ref q266) (C := RX7) (T := TX7) (N := 18) hx hb hts iX7 tyX7 tyX7_ok nmX7 hown hK.1 hP hD hS 0 rfl rfl 14 (by decide) (hts _ t_76) (fun _ h9 => h9) rfl (hnm rfl) rfl (tyX7_ok 14 (by decide)) rfl rfl (Nat.le_of_ble_eq_true rfl) dX7_init_86 (fun H locs hP hD hS => ?_)
  have hP : va_P D classes [(q244, .inr (7, [.int 0, .int 0, .int 0, .int 0, .int 0, .ref q257, .ref q258, .ref q259, .ref q260, .ref q261, .ref q262, .ref q263, .ref q264, .ref q265, .ref q266, .null, .null, .int 0])), (q257, .inl (a 0, 6, .inl (fun _ => 0))), (q258, .inl (a 0, 6, .inl (fun _ => 0))), (q259, .inl (a 0, 6, .inl (fun _ => 0))), (q260, .inl (a 0, 10, .inl (fun _ => 0))), (q261, .inl (a 0, 10, .inl (fun _ => 0))), (q262, .inl (a 0, 10, .inl (fun _ => 0))), (q263, .inl (a 0, 10, .inl (fun _ => 0))), (q264, .inl (a 0, 10, .inl (fun _ => 0))), (q265, .inl (a 0, 10, .inl (fun _ => 0))), (q266, .inl (a 0, 10, .inl (fun _ => 0)))] H := hP
  have hD : va_D A [(q244, .inr (7, [.int 0, .int 0, .int 0, .int 0, .int 0, .ref q257, .ref q258, .ref q259, .ref q260, .ref q261, .ref q262, .ref q263, .ref q264, .ref q265, .ref q266, .null, .null, .int 0])), (q257, .inl (a 0, 6, .inl (fun _ => 0))), (q258, .inl (a 0, 6, .inl (fun _ => 0))), (q259, .inl (a 0, 6, .inl (fun _ => 0))), (q260, .inl (a 0, 10, .inl (fun _ => 0))), (q261, .inl (a 0, 10, .inl (fun _ => 0))), (q262, .inl (a 0, 10, .inl (fun _ => 0))), (q263, .inl (a 0, 10, .inl (fun _ => 0))), (q264, .inl (a 0, 10, .inl (fun _ => 0))), (q265, .inl (a 0, 10, .inl (fun _ => 0))), (q266, .inl (a 0, 10, .inl (fun _ => 0)))] := hD
  refine lv_aload_n hx hb dX7_init_89 rfl (lv_at hl 0 rfl) ?_
  refine lv_bipush (v := 10) hx hb dX7_init_90 (by decide) ?_
  refine newA (atype := .int) (a0 := (10, .inl (fun _ => 0))) hx hb hK 0 rfl ra_int (hts _ t_119) rfl hP hD hS hA (fun _ => rfl) (by decide) (by decide) (by decide) (Nat.le_of_ble_eq_true rfl) (Nat.le_of_ble_eq_true rfl) dX7_init_92 (fun q267 H hP hD hS => ?_)
  have hP : va_P D classes [(q244, .inr (7, [.int 0, .int 0, .int 0, .int 0, .int 0, .ref q257, .ref q258, .ref q259, .ref q260, .ref q261, .ref q262, .ref q263, .ref q264, .ref q265, .ref q266, .null, .null, .int 0])), (q257, .inl (a 0, 6, .inl (fun _ => 0))), (q258, .inl (a 0, 6, .inl (fun _ => 0))), (q259, .inl (a 0, 6, .inl (fun _ => 0))), (q260, .inl (a 0, 10, .inl (fun _ => 0))), (q261, .inl (a 0, 10, .inl (fun _ => 0))), (q262, .inl (a 0, 10, .inl (fun _ => 0))), (q263, .inl (a 0, 10, .inl (fun _ => 0))), (q264, .inl (a 0, 10, .inl (fun _ => 0))), (q265, .inl (a 0, 10, .inl (fun _ => 0))), (q266, .inl (a 0, 10, .inl (fun _ => 0))), (q267, .inl (a 0, 10, .inl (fun _ => 0)))] H := hP
  have hD : va_D A [(q244, .inr (7, [.int 0, .int 0, .int 0, .int 0, .int 0, .ref q257, .ref q258, .ref q259, .ref q260, .ref q261, .ref q262, .ref q263, .ref q264, .ref q265, .ref q266, .null, .null, .int 0])), (q257, .inl (a 0, 6, .inl (fun _ => 0))), (q258, .inl (a 0, 6, .inl (fun _ => 0))), (q259, .inl (a 0, 6, .inl (fun _ => 0))), (q260, .inl (a 0, 10, .inl (fun _ => 0))), (q261, .inl (a 0, 10, .inl (fun _ => 0))), (q262, .inl (a 0, 10, .inl (fun _ => 0))), (q263, .inl (a 0, 10, .inl (fun _ => 0))), (q264, .inl (a 0, 10, .inl (fun _ => 0))), (q265, .inl (a 0, 10, .inl (fun _ => 0))), (q266, .inl (a 0, 10, .inl (fun _ => 0))), (q267, .inl (a 0, 10, .inl (fun _ => 0)))] := hD
  refine W.cs (cells' := 11) (slots' := 98) rfl rfl ?_
  refine va_putF (D := D) (v := .ref q267) (C := RX7) (T := TX7) (N := 18) hx hb hts iX7 tyX7 tyX7_ok nmX7 hown hK.1 hP hD hS 0 rfl rfl 15 (by decide) (hts _ t_78) (fun _ h9 => h9) rfl (hnm rfl) rfl (tyX7_ok 15 (by decide)) rfl rfl (Nat.le_of_ble_eq_true rfl) dX7_init_94 (fun H locs hP hD hS => ?_)
  have hP : va_P D classes [(q244, .inr (7, [.int 0, .int 0, .int 0, .int 0, .int 0, .ref q257, .ref q258, .ref q259, .ref q260, .ref q261, .ref q262, .ref q263, .ref q264, .ref q265, .ref q266, .ref q267, .null, .int 0])), (q257, .inl (a 0, 6, .inl (fun _ => 0))), (q258, .inl (a 0, 6, .inl (fun _ => 0))), (q259, .inl (a 0, 6, .inl (fun _ => 0))), (q260, .inl (a 0, 10, .inl (fun _ => 0))), (q261, .inl (a 0, 10, .inl (fun _ => 0))), (q262, .inl (a 0, 10, .inl (fun _ => 0))), (q263, .inl (a 0, 10, .inl (fun _ => 0))), (q264, .inl (a 0, 10, .inl (fun _ => 0))), (q265, .inl (a 0, 10, .inl (fun _ => 0))), (q266, .inl (a 0, 10, .inl (fun _ => 0))), (q267, .inl (a 0, 10, .inl (fun _ => 0)))] H := hP
  have hD : va_D A [(q244, .inr (7, [.int 0, .int 0, .int 0, .int 0, .int 0, .ref q257, .ref q258, .ref q259, .ref q260, .ref q261, .ref q262, .ref q263, .ref q264, .ref q265, .ref q266, .ref q267, .null, .int 0])), (q257, .inl (a 0, 6, .inl (fun _ => 0))), (q258, .inl (a 0, 6, .inl (fun _ => 0))), (q259, .inl (a 0, 6, .inl (fun _ => 0))), (q260, .inl (a 0, 10, .inl (fun _ => 0))), (q261, .inl (a 0, 10, .inl (fun _ => 0))), (q262, .inl (a 0, 10, .inl (fun _ => 0))), (q263, .inl (a 0, 10, .inl (fun _ => 0))), (q264, .inl (a 0, 10, .inl (fun _ => 0))), (q265, .inl (a 0, 10, .inl (fun _ => 0))), (q266, .inl (a 0, 10, .inl (fun _ => 0))), (q267, .inl (a 0, 10, .inl (fun _ => 0)))] := hD
  refine lv_aload_n hx hb dX7_init_97 rfl (lv_at hl 0 rfl) ?_
  refine lv_bipush (v := 10) hx hb dX7_init_98 (by decide) ?_
  refine newA (atype := .int) (a0 := (10, .inl (fun _ => 0))) hx hb hK 0 rfl ra_int (hts _ t_119) rfl hP hD hS hA (fun _ => rfl) (by decide) (by decide) (by decide) (Nat.le_of_ble_eq_true rfl) (Nat.le_of_ble_eq_true rfl) dX7_init_100 (fun q268 H hP hD hS => ?_)
  have hP : va_P D classes [(q244, .inr (7, [.int 0, .int 0, .int 0, .int 0, .int 0, .ref q257, .ref q258, .ref q259, .ref q260, .ref q261, .ref q262, .ref q263, .ref q264, .ref q265, .ref q266, .ref q267, .null, .int 0])), (q257, .inl (a 0, 6, .inl (fun _ => 0))), (q258, .inl (a 0, 6, .inl (fun _ => 0))), (q259, .inl (a 0, 6, .inl (fun _ => 0))), (q260, .inl (a 0, 10, .inl (fun _ => 0))), (q261, .inl (a 0, 10, .inl (fun _ => 0))), (q262, .inl (a 0, 10, .inl (fun _ => 0))), (q263, .inl (a 0, 10, .inl (fun _ => 0))), (q264, .inl (a 0, 10, .inl (fun _ => 0))), (q265, .inl (a 0, 10, .inl (fun _ => 0))), (q266, .inl (a 0, 10, .inl (fun _ => 0))), (q267, .inl (a 0, 10, .inl (fun _ => 0))), (q268, .inl (a 0, 10, .inl (fun _ => 0)))] H := hP
  have hD : va_D A [(q244, .inr (7, [.int 0, .int 0, .int 0, .int 0, .int 0, .ref q257, .ref q258, .ref q259, .ref q260, .ref q261, .ref q262, .ref q263, .ref q264, .ref q265, .ref q266, .ref q267, .null, .int 0])), (q257, .inl (a 0, 6, .inl (fun _ => 0))), (q258, .inl (a 0, 6, .inl (fun _ => 0))), (q259, .inl (a 0, 6, .inl (fun _ => 0))), (q260, .inl (a 0, 10, .inl (fun _ => 0))), (q261, .inl (a 0, 10, .inl (fun _ => 0))), (q262, .inl (a 0, 10, .inl (fun _ => 0))), (q263, .inl (a 0, 10, .inl (fun _ => 0))), (q264, .inl (a 0, 10, .inl (fun _ => 0))), (q265, .inl (a 0, 10, .inl (fun _ => 0))), (q266, .inl (a 0, 10, .inl (fun _ => 0))), (q267, .inl (a 0, 10, .inl (fun _ => 0))), (q268, .inl (a 0, 10, .inl (fun _ => 0)))] := hD
  refine W.cs (cells' := 12) (slots' := 108) rfl rfl ?_
  refine va_putF (D := D) (v := .ref q268) (C := RX7) (T := TX7) (N := 18) hx hb hts iX7 tyX7 tyX7_ok nmX7 hown hK.1 hP hD hS 0 rfl rfl 16 (by decide) (hts _ t_79) (fun _ h9 => h9) rfl (hnm rfl) rfl (tyX7_ok 16 (by decide)) rfl rfl (Nat.le_of_ble_eq_true rfl) dX7_init_102 (fun H locs hP hD hS => ?_)
  have hP : va_P D classes [(q244, .inr (7, [.int 0, .int 0, .int 0, .int 0, .int 0, .ref q257, .ref q258, .ref q259, .ref q260, .ref q261, .ref q262, .ref q263, .ref q264, .ref q265, .ref q266, .ref q267, .ref q268, .int 0])), (q257, .inl (a 0, 6, .inl (fun _ => 0))), (q258, .inl (a 0, 6, .inl (fun _ => 0))), (q259, .inl (a 0, 6, .inl (fun _ => 0))), (q260, .inl (a 0, 10, .inl (fun _ => 0))), (q261, .inl (a 0, 10, .inl (fun _ => 0))), (q262, .inl (a 0, 10, .inl (fun _ => 0))), (q263, .inl (a 0, 10, .inl (fun _ => 0))), (q264, .inl (a 0, 10, .inl (fun _ => 0))), (q265, .inl (a 0, 10, .inl (fun _ => 0))), (q266, .inl (a 0, 10, .inl (fun _ => 0))), (q267, .inl (a 0, 10, .inl (fun _ => 0))), (q268, .inl (a 0, 10, .inl (fun _ => 0)))] H := hP
  have hD : va_D A [(q244, .inr (7, [.int 0, .int 0, .int 0, .int 0, .int 0, .ref q257, .ref q258, .ref q259, .ref q260, .ref q261, .ref q262, .ref q263, .ref q264, .ref q265, .ref q266, .ref q267, .ref q268, .int 0])), (q257, .inl (a 0, 6, .inl (fun _ => 0))), (q258, .inl (a 0, 6, .inl (fun _ => 0))), (q259, .inl (a 0, 6, .inl (fun _ => 0))), (q260, .inl (a 0, 10, .inl (fun _ => 0))), (q261, .inl (a 0, 10, .inl (fun _ => 0))), (q262, .inl (a 0, 10, .inl (fun _ => 0))), (q263, .inl (a 0, 10, .inl (fun _ => 0))), (q264, .inl (a 0, 10, .inl (fun _ => 0))), (q265, .inl (a 0, 10, .inl (fun _ => 0))), (q266, .inl (a 0, 10, .inl (fun _ => 0))), (q267, .inl (a 0, 10, .inl (fun _ => 0))), (q268, .inl (a 0, 10, .inl (fun _ => 0)))] := hD
  exact retMv C rfl (0, [q257, q258, q259, q260, q261, q262, q263, q264, q265, q266, q267, q268], [], [], [], []) ⟨q257, q258, q259, q260, q261, q262, q263, q264, q265, q266, q267, q268, rfl⟩ hP hD hS (Nat.le_of_ble_eq_true rfl) (Nat.le_of_ble_eq_true rfl) dX7_init_105

set_option maxHeartbeats 4000000 in
set_option maxRecDepth 100000 in
theorem c_X0_init_3 (l : Launch) (D : va_G) (a : Nat → ClassId) (q284 : Nat) (sz : Nat) : CMv (S := SS) l MX0_init 1 20 1 10 D a [.ref q284] [(q284, .inr (0, [.int 0, .int 0, .int 0, .int 0, .int 0, .null]))] sz (fun u => (∃ q286 : Nat, u = (0, [q286], [], [], [], []))) (fun u => pk [[(q284, .inr (0, [.int 0, .int 0, .int 0, .int 0, .int 0, .ref (u.2.1.getD 0 0)])), ((u.2.1.getD 0 0), .inl (a 0, 10, .inl (fun _ => 0)))]] u.1) := by
  refine entMv (by decide) (Nat.le_of_ble_eq_true rfl) ?_
  intro p e s m below meth c C hK A hA hP hD ls hl
  obtain ⟨hx, hb, hml, hown, hts, hr, hlocks, hnm⟩ := id C
  have hb : c.code = cX0_init := hb
  have hown : s.vm.findClass RX0 = some m.cls := hown
  have hS : va_S A s.heap s.heap [] := va_S.rf
  have hl : lv_has ls 1 [(0, .ref q284)] := hl
  refine lv_aload_n hx hb dX0_init_0 rfl (lv_at hl 0 rfl) ?_
  refine W.objInit hx hb hown (hts _ t_129) (hts _ t_25) (hts _ t_26) rfl (by rw [hml]; exact hl.1) rfl dX0_init_1 (Nat.le_of_ble_eq_true rfl) (Nat.le_of_ble_eq_true rfl) ?_
  refine W.eq (g2 := F0 m 4 ls []) rfl ?_
  refine lv_aload_n hx hb dX0_init_4 rfl (lv_at hl 0 rfl) ?_
  refine lv_bipush (v := 10) hx hb dX0_init_5 (by decide) ?_
  refine newA (atype := .int) (a0 := (10, .inl (fun _ => 0))) hx hb hK 0 rfl ra_int (hts _ t_119) rfl hP hD hS hA (fun _ => rfl) (by decide) (by decide) (by decide) (Nat.le_of_ble_eq_true rfl) (Nat.le_of_ble_eq_true rfl) dX0_init_7 (fun q286 H hP hD hS => ?_)
  have hP : va_P D classes [(q284, .inr (0, [.int 0, .int 0, .int 0, .int 0, .int 0, .null])), (q286, .inl (a 0, 10, .inl (fun _ => 0)))] H := hP
  have hD : va_D A [(q284, .inr (0, [.int 0, .int 0, .int 0, .int 0, .int 0, .null])), (q286, .inl (a 0, 10, .inl (fun _ => 0)))] := hD
  refine W.cs (cells' := 1) (slots' := 10) rfl rfl ?_
  refine va_putF (D := D) (v := .ref q286) (C := RX0) (T := TX0) (N := 6) hx hb hts iX0 tyX0 tyX0_ok nmX0 hown hK.1 hP hD hS 0 rfl rfl 5 (by decide) (hts _ t_144) (fun _ h9 => h9) rfl (hnm rfl) rfl (tyX0_ok 5 (by decide)) rfl rfl (Nat.le_of_ble_eq_true rfl) dX0_init_9 (fun H locs hP hD hS => ?_)
  have hP : va_P D classes [(q284, .inr (0, [.int 0, .int 0, .int 0, .int 0, .int 0, .ref q286])), (q286, .inl (a 0, 10, .inl (fun _ => 0)))] H := hP
  have hD : va_D A [(q284, .inr (0, [.int 0, .int 0, .int 0, .int 0, .int 0, .ref q286])), (q286, .inl (a 0, 10, .inl (fun _ => 0)))] := hD
  exact retMv C rfl (0, [q286], [], [], [], []) ⟨q286, rfl⟩ hP hD hS (Nat.le_of_ble_eq_true rfl) (Nat.le_of_ble_eq_true rfl) dX0_init_12

set_option maxHeartbeats 4000000 in
set_option maxRecDepth 100000 in
theorem c_X0_init_4 (l : Launch) (D : va_G) (a : Nat → ClassId) (q293 : Nat) (sz : Nat) : CMv (S := SS) l MX0_init 1 20 1 10 D a [.ref q293] [(q293, .inr (0, [.int 0, .int 0, .int 0, .int 0, .int 0, .null]))] sz (fun u => (∃ q295 : Nat, u = (0, [q295], [], [], [], []))) (fun u => pk [[(q293, .inr (0, [.int 0, .int 0, .int 0, .int 0, .int 0, .ref (u.2.1.getD 0 0)])), ((u.2.1.getD 0 0), .inl (a 0, 10, .inl (fun _ => 0)))]] u.1) := by
  refine entMv (by decide) (Nat.le_of_ble_eq_true rfl) ?_
  intro p e s m below meth c C hK A hA hP hD ls hl
  obtain ⟨hx, hb, hml, hown, hts, hr, hlocks, hnm⟩ := id C
  have hb : c.code = cX0_init := hb
  have hown : s.vm.findClass RX0 = some m.cls := hown
  have hS : va_S A s.heap s.heap [] := va_S.rf
  have hl : lv_has ls 1 [(0, .ref q293)] := hl
  refine lv_aload_n hx hb dX0_init_0 rfl (lv_at hl 0 rfl) ?_
  refine W.objInit hx hb hown (hts _ t_129) (hts _ t_25) (hts _ t_26) rfl (by rw [hml]; exact hl.1) rfl dX0_init_1 (Nat.le_of_ble_eq_true rfl) (Nat.le_of_ble_eq_true rfl) ?_
  refine W.eq (g2 := F0 m 4 ls []) rfl ?_
  refine lv_aload_n hx hb dX0_init_4 rfl (lv_at hl 0 rfl) ?_
  refine lv_bipush (v := 10) hx hb dX0_init_5 (by decide) ?_
  refine newA (atype := .int) (a0 := (10, .inl (fun _ => 0))) hx hb hK 0 rfl ra_int (hts _ t_119) rfl hP hD hS hA (fun _ => rfl) (by decide) (by decide) (by decide) (Nat.le_of_ble_eq_true rfl) (Nat.le_of_ble_eq_true rfl) dX0_init_7 (fun q295 H hP hD hS => ?_)
  have hP : va_P D classes [(q293, .inr (0, [.int 0, .int 0, .int 0, .int 0, .int 0, .null])), (q295, .inl (a 0, 10, .inl (fun _ => 0)))] H := hP
  have hD : va_D A [(q293, .inr (0, [.int 0, .int 0, .int 0, .int 0, .int 0, .null])), (q295, .inl (a 0, 10, .inl (fun _ => 0)))] := hD
  refine W.cs (cells' := 1) (slots' := 10) rfl rfl ?_
  refine va_putF (D := D) (v := .ref q295) (C := RX0) (T := TX0) (N := 6) hx hb hts iX0 tyX0 tyX0_ok nmX0 hown hK.1 hP hD hS 0 rfl rfl 5 (by decide) (hts _ t_144) (fun _ h9 => h9) rfl (hnm rfl) rfl (tyX0_ok 5 (by decide)) rfl rfl (Nat.le_of_ble_eq_true rfl) dX0_init_9 (fun H locs hP hD hS => ?_)
  have hP : va_P D classes [(q293, .inr (0, [.int 0, .int 0, .int 0, .int 0, .int 0, .ref q295])), (q295, .inl (a 0, 10, .inl (fun _ => 0)))] H := hP
  have hD : va_D A [(q293, .inr (0, [.int 0, .int 0, .int 0, .int 0, .int 0, .ref q295])), (q295, .inl (a 0, 10, .inl (fun _ => 0)))] := hD
  exact retMv C rfl (0, [q295], [], [], [], []) ⟨q295, rfl⟩ hP hD hS (Nat.le_of_ble_eq_true rfl) (Nat.le_of_ble_eq_true rfl) dX0_init_12

set_option maxHeartbeats 4000000 in
set_option maxRecDepth 100000 in
theorem c_X5_init_1 (l : Launch) (D : va_G) (a : Nat → ClassId) (q243 q244 : Nat) (sz : Nat) : CMv (S := SS) l MX5_init 2 40 4 32 D a [.ref q243, .ref q244] [(q243, .inr (5, [.null, .null, .int 0, .int 0, .int 0, .null, .int 0, .null]))] sz (fun u => (∃ q293 : Nat, ∃ q300 : Nat, ∃ q301 : Nat, ∃ q299 : Nat, u = (0, [q293, q300, q301, q299], [], [], [], []))) (fun u => pk [[(q243, .inr (5, [.ref q244, .ref (u.2.1.getD 0 0), .int 0, .int 0, .int 0, .ref (u.2.1.getD 1 0), .int 0, .ref (u.2.1.getD 2 0)])), ((u.2.1.getD 0 0), .inr (0, [.int 0, .int 0, .int 0, .int 0, .int 0, .ref (u.2.1.getD 3 0)])), ((u.2.1.getD 3 0), .inl (a 0, 10, .inl (fun _ => 0))), ((u.2.1.getD 1 0), .inl (a 0, 8, .inl (fun _ => 0))), ((u.2.1.getD 2 0), .inl (a 0, 8, .inl (fun _ => 0)))]] u.1) := by
  refine entMv (by decide) (Nat.le_of_ble_eq_true rfl) ?_
  intro p e s m below meth c C hK A hA hP hD ls hl
  obtain ⟨hx, hb, hml, hown, hts, hr, hlocks, hnm⟩ := id C
  have hb : c.code = cX5_init := hb
  have hown : s.vm.findClass RX5 = some m.cls := hown
  have hS : va_S A s.heap s.heap [] := va_S.rf
  have hl : lv_has ls 2 [(0, .ref q243), (1, .ref q244)] := hl
  refine lv_aload_n hx hb dX5_init_0 rfl (lv_at hl 0 rfl) ?_
  refine W.objInit hx hb hown (hts _ t_123) (hts _ t_25) (hts _ t_26) rfl (by rw [hml]; exact hl.1) rfl dX5_init_1 (Nat.le_of_ble_eq_true rfl) (Nat.le_of_ble_eq_true rfl) ?_
  refine W.eq (g2 := F0 m 4 ls []) rfl ?_
  refine lv_aload_n hx hb dX5_init_4 rfl (lv_at hl 0 rfl) ?_
  refine lv_aload_n hx hb dX5_init_5 rfl (lv_at hl 1 rfl) ?_
  refine va_put (D := D) (v := .ref q244) (C := RX5) (T := TX5) (N := 8) hx hb hts iX5 tyX5 tyX5_ok nmX5 hown hK.1 hP hD hS 0 rfl rfl 0 (by decide) (hts _ t_160) (fun _ h9 => h9) rfl (tyX5_ok 0 (by decide)) rfl rfl (Nat.le_of_ble_eq_true rfl) dX5_init_6 (fun H locs hP hD hS => ?_)
  have hP : va_P D classes [(q243, .inr (5, [.ref q244, .null, .int 0, .int 0, .int 0, .null, .int 0, .null]))] H := hP
  have hD : va_D A [(q243, .inr (5, [.ref q244, .null, .int 0, .int 0, .int 0, .null, .int 0, .null]))] := hD
  refine lv_aload_n hx hb dX5_init_9 rfl (lv_at hl 0 rfl) ?_
  refine va_new (ci := 0) (fs := [.int 0, .int 0, .int 0, .int 0, .int 0, .null]) (C := RX0) (T := TX0) (N := 6) hx hb hts iX0 tyX0 tyX0_ok hown (hts _ t_124) (hts _ t_125) (hts _ t_4) hK.1 hP hD hS hA rfl (dfX0) (Nat.le_of_ble_eq_true rfl) (Nat.le_of_ble_eq_true rfl) dX5_init_10 (fun q293 H hP hD hS => ?_)
  have hP : va_P D classes [(q243, .inr (5, [.ref q244, .null, .int 0, .int 0, .int 0, .null, .int 0, .null])), (q293, .inr (0, [.int 0, .int 0, .int 0, .int 0, .int 0, .null]))] H := hP
  have hD : va_D A [(q243, .inr (5, [.ref q244, .null, .int 0, .int 0, .int 0, .null, .int 0, .null])), (q293, .inr (0, [.int 0, .int 0, .int 0, .int 0, .int 0, .null]))] := hD
  refine W.cs (cells' := 1) (slots' := 6) rfl rfl ?_
  refine lv_dup hx hb dX5_init_13 rfl ?_
  refine afMv (runI (As := []) (rest := [.ref q293, .ref q243]) C (c_X0_init_4 l D a q293 H.size) lk_I_5_17 (okN_X0_init) ⟨Nat.le_of_ble_eq_true rfl, Nat.le_of_ble_eq_true rfl⟩ ⟨rfl, rfl⟩ (preM hK (P_of_map (wc := [(q293, .inr (0, [.int 0, .int 0, .int 0, .int 0, .int 0, .null]))]) hP [1] rfl) (hD.sub (ws' := [(q293, .inr (0, [.int 0, .int 0, .int 0, .int 0, .int 0, .null]))]) [1] (by decide) rfl)) hl.1 rfl (Nat.le_of_ble_eq_true rfl) dX5_init_14 ⟨Nat.le_of_ble_eq_true rfl, Nat.le_of_ble_eq_true rfl⟩) hP hD hS hA [1] [0] (wr := [(q243, .inr (5, [.ref q244, .null, .int 0, .int 0, .int 0, .null, .int 0, .null]))]) rfl rfl (by decide) (by decide) (fun u H locs hw hP hD hS => ?_)
  obtain ⟨q299, rfl⟩ := hw
  have hP : va_P D classes [(q243, .inr (5, [.ref q244, .null, .int 0, .int 0, .int 0, .null, .int 0, .null])), (q293, .inr (0, [.int 0, .int 0, .int 0, .int 0, .int 0, .ref q299])), (q299, .inl (a 0, 10, .inl (fun _ => 0)))] H := hP
  have hD : va_D A [(q243, .inr (5, [.ref q244, .null, .int 0, .int 0, .int 0, .null, .int 0, .null])), (q293, .inr (0, [.int 0, .int 0, .int 0, .int 0, .int 0, .ref q299])), (q299, .inl (a 0, 10, .inl (fun _ => 0)))] := hD
  refine W.cs (cells' := 2) (slots' := 16) rfl rfl ?_
  refine va_putF (D := D) (v := .ref q293) (C := RX5) (T := TX5) (N := 8) hx hb hts iX5 tyX5 tyX5_ok nmX5 hown hK.1 hP hD hS 0 rfl rfl 1 (by decide) (hts _ t_162) (fun _ h9 => h9) rfl (hnm rfl) rfl (tyX5_ok 1 (by decide)) rfl rfl (Nat.le_of_ble_eq_true rfl) dX5_init_17 (fun H locs hP hD hS => ?_)
  have hP : va_P D classes [(q243, .inr (5, [.ref q244, .ref q293, .int 0, .int 0, .int 0, .null, .int 0, .null])), (q293, .inr (0, [.int 0, .int 0, .int 0, .int 0, .int 0, .ref q299])), (q299, .inl (a 0, 10, .inl (fun _ => 0)))] H := hP
  have hD : va_D A [(q243, .inr (5, [.ref q244, .ref q293, .int 0, .int 0, .int 0, .null, .int 0, .null])), (q293, .inr (0, [.int 0, .int 0, .int 0, .int 0, .int 0, .ref q299])), (q299, .inl (a 0, 10, .inl (fun _ => 0)))] := hD
  refine lv_aload_n hx hb dX5_init_20 rfl (lv_at hl 0 rfl) ?_
  refine lv_bipush (v := 8) hx hb dX5_init_21 (by decide) ?_
  refine newA (atype := .int) (a0 := (8, .inl (fun _ => 0))) hx hb hK 0 rfl ra_int (hts _ t_119) rfl hP hD hS hA (fun _ => rfl) (by decide) (by decide) (by decide) (Nat.le_of_ble_eq_true rfl) (Nat.le_of_ble_eq_true rfl) dX5_init_23 (fun q300 H hP hD hS => ?_)
  have hP : va_P D classes [(q243, .inr (5, [.ref q244, .ref q293, .int 0, .int 0, .int 0, .null, .int 0, .null])), (q293, .inr (0, [.int 0, .int 0, .int 0, .int 0, .int 0, .ref q299])), (q299, .inl (a 0, 10, .inl (fun _ => 0))), (q300, .inl (a 0, 8, .inl (fun _ => 0)))] H := hP
  have hD : va_D A [(q243, .inr (5, [.ref q244, .ref q293, .int 0, .int 0, .int 0, .null, .int 0, .null])), (q293, .inr (0, [.int 0, .int 0, .int 0, .int 0, .int 0, .ref q299])), (q299, .inl (a 0, 10, .inl (fun _ => 0))), (q300, .inl (a 0, 8, .inl (fun _ => 0)))] := hD
  refine W.cs (cells' := 3) (slots' := 24) rfl rfl ?_
  refine va_putF (D := D) (v := .ref q300) (C := RX5) (T := TX5) (N := 8) hx hb hts iX5 tyX5 tyX5_ok nmX5 hown hK.1 hP hD hS 0 rfl rfl 5 (by decide) (hts _ t_170) (fun _ h9 => h9) rfl (hnm rfl) rfl (tyX5_ok 5 (by decide)) rfl rfl (Nat.le_of_ble_eq_true rfl) dX5_init_25 (fun H locs hP hD hS => ?_)
  have hP : va_P D classes [(q243, .inr (5, [.ref q244, .ref q293, .int 0, .int 0, .int 0, .ref q300, .int 0, .null])), (q293, .inr (0, [.int 0, .int 0, .int 0, .int 0, .int 0, .ref q299])), (q299, .inl (a 0, 10, .inl (fun _ => 0))), (q300, .inl (a 0, 8, .inl (fun _ => 0)))] H := hP
  have hD : va_D A [(q243, .inr (5, [.ref q244, .ref q293, .int 0, .int 0, .int 0, .ref q300, .int 0, .null])), (q293, .inr (0, [.int 0, .int 0, .int 0, .int 0, .int 0, .ref q299])), (q299, .inl (a 0, 10, .inl (fun _ => 0))), (q300, .inl (a 0, 8, .inl (fun _ => 0)))] := hD
  refine lv_aload_n hx hb dX5_init_28 rfl (lv_at hl 0 rfl) ?_
  refine lv_bipush (v := 8) hx hb dX5_init_29 (by decide) ?_
  refine newA (atype := .int) (a0 := (8, .inl (fun _ => 0))) hx hb hK 0 rfl ra_int (hts _ t_119) rfl hP hD hS hA (fun _ => rfl) (by decide) (by decide) (by decide) (Nat.le_of_ble_eq_true rfl) (Nat.le_of_ble_eq_true rfl) dX5_init_31 (fun q301 H hP hD hS => ?_)
  have hP : va_P D classes [(q243, .inr (5, [.ref q244, .ref q293, .int 0, .int 0, .int 0, .ref q300, .int 0, .null])), (q293, .inr (0, [.int 0, .int 0, .int 0, .int 0, .int 0, .ref q299])), (q299, .inl (a 0, 10, .inl (fun _ => 0))), (q300, .inl (a 0, 8, .inl (fun _ => 0))), (q301, .inl (a 0, 8, .inl (fun _ => 0)))] H := hP
  have hD : va_D A [(q243, .inr (5, [.ref q244, .ref q293, .int 0, .int 0, .int 0, .ref q300, .int 0, .null])), (q293, .inr (0, [.int 0, .int 0, .int 0, .int 0, .int 0, .ref q299])), (q299, .inl (a 0, 10, .inl (fun _ => 0))), (q300, .inl (a 0, 8, .inl (fun _ => 0))), (q301, .inl (a 0, 8, .inl (fun _ => 0)))] := hD
  refine W.cs (cells' := 4) (slots' := 32) rfl rfl ?_
  refine va_putF (D := D) (v := .ref q301) (C := RX5) (T := TX5) (N := 8) hx hb hts iX5 tyX5 tyX5_ok nmX5 hown hK.1 hP hD hS 0 rfl rfl 7 (by decide) (hts _ t_174) (fun _ h9 => h9) rfl (hnm rfl) rfl (tyX5_ok 7 (by decide)) rfl rfl (Nat.le_of_ble_eq_true rfl) dX5_init_33 (fun H locs hP hD hS => ?_)
  have hP : va_P D classes [(q243, .inr (5, [.ref q244, .ref q293, .int 0, .int 0, .int 0, .ref q300, .int 0, .ref q301])), (q293, .inr (0, [.int 0, .int 0, .int 0, .int 0, .int 0, .ref q299])), (q299, .inl (a 0, 10, .inl (fun _ => 0))), (q300, .inl (a 0, 8, .inl (fun _ => 0))), (q301, .inl (a 0, 8, .inl (fun _ => 0)))] H := hP
  have hD : va_D A [(q243, .inr (5, [.ref q244, .ref q293, .int 0, .int 0, .int 0, .ref q300, .int 0, .ref q301])), (q293, .inr (0, [.int 0, .int 0, .int 0, .int 0, .int 0, .ref q299])), (q299, .inl (a 0, 10, .inl (fun _ => 0))), (q300, .inl (a 0, 8, .inl (fun _ => 0))), (q301, .inl (a 0, 8, .inl (fun _ => 0)))] := hD
  exact retMv C rfl (0, [q293, q300, q301, q299], [], [], [], []) ⟨q293, q300, q301, q299, rfl⟩ hP hD hS (Nat.le_of_ble_eq_true rfl) (Nat.le_of_ble_eq_true rfl) dX5_init_36

set_option maxHeartbeats 4000000 in
set_option maxRecDepth 100000 in
theorem c_X0_init_5 (l : Launch) (D : va_G) (a : Nat → ClassId) (q310 : Nat) (sz : Nat) : CMv (S := SS) l MX0_init 1 20 1 10 D a [.ref q310] [(q310, .inr (0, [.int 0, .int 0, .int 0, .int 0, .int 0, .null]))] sz (fun u => (∃ q312 : Nat, u = (0, [q312], [], [], [], []))) (fun u => pk [[(q310, .inr (0, [.int 0, .int 0, .int 0, .int 0, .int 0, .ref (u.2.1.getD 0 0)])), ((u.2.1.getD 0 0), .inl (a 0, 10, .inl (fun _ => 0)))]] u.1) := by
  refine entMv (by decide) (Nat.le_of_ble_eq_true rfl) ?_
  intro p e s m below meth c C hK A hA hP hD ls hl
  obtain ⟨hx, hb, hml, hown, hts, hr, hlocks, hnm⟩ := id C
  have hb : c.code = cX0_init := hb
  have hown : s.vm.findClass RX0 = some m.cls := hown
  have hS : va_S A s.heap s.heap [] := va_S.rf
  have hl : lv_has ls 1 [(0, .ref q310)] := hl
  refine lv_aload_n hx hb dX0_init_0 rfl (lv_at hl 0 rfl) ?_
  refine W.objInit hx hb hown (hts _ t_129) (hts _ t_25) (hts _ t_26) rfl (by rw [hml]; exact hl.1) rfl dX0_init_1 (Nat.le_of_ble_eq_true rfl) (Nat.le_of_ble_eq_true rfl) ?_
  refine W.eq (g2 := F0 m 4 ls []) rfl ?_
  refine lv_aload_n hx hb dX0_init_4 rfl (lv_at hl 0 rfl) ?_
  refine lv_bipush (v := 10) hx hb dX0_init_5 (by decide) ?_
  refine newA (atype := .int) (a0 := (10, .inl (fun _ => 0))) hx hb hK 0 rfl ra_int (hts _ t_119) rfl hP hD hS hA (fun _ => rfl) (by decide) (by decide) (by decide) (Nat.le_of_ble_eq_true rfl) (Nat.le_of_ble_eq_true rfl) dX0_init_7 (fun q312 H hP hD hS => ?_)
  have hP : va_P D classes [(q310, .inr (0, [.int 0, .int 0, .int 0, .int 0, .int 0, .null])), (q312, .inl (a 0, 10, .inl (fun _ => 0)))] H := hP
  have hD : va_D A [(q310, .inr (0, [.int 0, .int 0, .int 0, .int 0, .int 0, .null])), (q312, .inl (a 0, 10, .inl (fun _ => 0)))] := hD
  refine W.cs (cells' := 1) (slots' := 10) rfl rfl ?_
  refine va_putF (D := D) (v := .ref q312) (C := RX0) (T := TX0) (N := 6) hx hb hts iX0 tyX0 tyX0_ok nmX0 hown hK.1 hP hD hS 0 rfl rfl 5 (by decide) (hts _ t_144) (fun _ h9 => h9) rfl (hnm rfl) rfl (tyX0_ok 5 (by decide)) rfl rfl (Nat.le_of_ble_eq_true rfl) dX0_init_9 (fun H locs hP hD hS => ?_)
  have hP : va_P D classes [(q310, .inr (0, [.int 0, .int 0, .int 0, .int 0, .int 0, .ref q312])), (q312, .inl (a 0, 10, .inl (fun _ => 0)))] H := hP
  have hD : va_D A [(q310, .inr (0, [.int 0, .int 0, .int 0, .int 0, .int 0, .ref q312])), (q312, .inl (a 0, 10, .inl (fun _ => 0)))] := hD
  exact retMv C rfl (0, [q312], [], [], [], []) ⟨q312, rfl⟩ hP hD hS (Nat.le_of_ble_eq_true rfl) (Nat.le_of_ble_eq_true rfl) dX0_init_12

set_option maxHeartbeats 4000000 in
set_option maxRecDepth 100000 in
theorem c_X6_init_2 (l : Launch) (D : va_G) (a : Nat → ClassId) (q318 : Nat) (sz : Nat) : CMv (S := SS) l MX6_init 1 20 3 1203 D a [.ref q318] [(q318, .inr (6, [.null, .null, .null, .int 0, .int 0, .int 0, .int 0, .int 0, .int 0]))] sz (fun u => (∃ q322 : Nat, ∃ q323 : Nat, ∃ q324 : Nat, u = (0, [q322, q323, q324], [], [], [], []))) (fun u => pk [[(q318, .inr (6, [.ref (u.2.1.getD 0 0), .ref (u.2.1.getD 1 0), .ref (u.2.1.getD 2 0), .int 0, .int 0, .int 0, .int 0, .int 0, .int 0])), ((u.2.1.getD 0 0), .inl (a 0, 401, .inl (fun _ => 0))), ((u.2.1.getD 1 0), .inl (a 0, 401, .inl (fun _ => 0))), ((u.2.1.getD 2 0), .inl (a 0, 401, .inl (fun _ => 0)))]] u.1) := by
  refine entMv (by decide) (Nat.le_of_ble_eq_true rfl) ?_
  intro p e s m below meth c C hK A hA hP hD ls hl
  obtain ⟨hx, hb, hml, hown, hts, hr, hlocks, hnm⟩ := id C
  have hb : c.code = cX6_init := hb
  have hown : s.vm.findClass RX6 = some m.cls := hown
  have hS : va_S A s.heap s.heap [] := va_S.rf
  have hl : lv_has ls 1 [(0, .ref q318)] := hl
  refine lv_aload_n hx hb dX6_init_0 rfl (lv_at hl 0 rfl) ?_
  refine W.objInit hx hb hown (hts _ t_207) (hts _ t_25) (hts _ t_26) rfl (by rw [hml]; exact hl.1) rfl dX6_init_1 (Nat.le_of_ble_eq_true rfl) (Nat.le_of_ble_eq_true rfl) ?_
  refine W.eq (g2 := F0 m 4 ls []) rfl ?_
  refine lv_aload_n hx hb dX6_init_4 rfl (lv_at hl 0 rfl) ?_
  refine lv_sipush (v := 401) hx hb dX6_init_5 (by decide) ?_
  refine newA (atype := .int) (a0 := (401, .inl (fun _ => 0))) hx hb hK 0 rfl ra_int (hts _ t_119) rfl hP hD hS hA (fun _ => rfl) (by decide) (by decide) (by decide) (Nat.le_of_ble_eq_true rfl) (Nat.le_of_ble_eq_true rfl) dX6_init_8 (fun q322 H hP hD hS => ?_)
  have hP : va_P D classes [(q318, .inr (6, [.null, .null, .null, .int 0, .int 0, .int 0, .int 0, .int 0, .int 0])), (q322, .inl (a 0, 401, .inl (fun _ => 0)))] H := hP
  have hD : va_D A [(q318, .inr (6, [.null, .null, .null, .int 0, .int 0, .int 0, .int 0, .int 0, .int 0])), (q322, .inl (a 0, 401, .inl (fun _ => 0)))] := hD
  refine W.cs (cells' := 1) (slots' := 401) rfl rfl ?_
  refine va_putF (D := D) (v := .ref q322) (C := RX6) (T := TX6) (N := 9) hx hb hts iX6 tyX6 tyX6_ok nmX6 hown hK.1 hP hD hS 0 rfl rfl 0 (by decide) (hts _ t_208) (fun _ h9 => h9) rfl (hnm rfl) rfl (tyX6_ok 0 (by decide)) rfl rfl (Nat.le_of_ble_eq_true rfl) dX6_init_10 (fun H locs hP hD hS => ?_)
  have hP : va_P D classes [(q318, .inr (6, [.ref q322, .null, .null, .int 0, .int 0, .int 0, .int 0, .int 0, .int 0])), (q322, .inl (a 0, 401, .inl (fun _ => 0)))] H := hP
  have hD : va_D A [(q318, .inr (6, [.ref q322, .null, .null, .int 0, .int 0, .int 0, .int 0, .int 0, .int 0])), (q322, .inl (a 0, 401, .inl (fun _ => 0)))] := hD
  refine lv_aload_n hx hb dX6_init_13 rfl (lv_at hl 0 rfl) ?_
  refine lv_sipush (v := 401) hx hb dX6_init_14 (by decide) ?_
  refine newA (atype := .int) (a0 := (401, .inl (fun _ => 0))) hx hb hK 0 rfl ra_int (hts _ t_119) rfl hP hD hS hA (fun _ => rfl) (by decide) (by decide) (by decide) (Nat.le_of_ble_eq_true rfl) (Nat.le_of_ble_eq_true rfl) dX6_init_17 (fun q323 H hP hD hS => ?_)
  have hP : va_P D classes [(q318, .inr (6, [.ref q322, .null, .null, .int 0, .int 0, .int 0, .int 0, .int 0, .int 0])), (q322, .inl (a 0, 401, .inl (fun _ => 0))), (q323, .inl (a 0, 401, .inl (fun _ => 0)))] H := hP
  have hD : va_D A [(q318, .inr (6, [.ref q322, .null, .null, .int 0, .int 0, .int 0, .int 0, .int 0, .int 0])), (q322, .inl (a 0, 401, .inl (fun _ => 0))), (q323, .inl (a 0, 401, .inl (fun _ => 0)))] := hD
  refine W.cs (cells' := 2) (slots' := 802) rfl rfl ?_
  refine va_putF (D := D) (v := .ref q323) (C := RX6) (T := TX6) (N := 9) hx hb hts iX6 tyX6 tyX6_ok nmX6 hown hK.1 hP hD hS 0 rfl rfl 1 (by decide) (hts _ t_209) (fun _ h9 => h9) rfl (hnm rfl) rfl (tyX6_ok 1 (by decide)) rfl rfl (Nat.le_of_ble_eq_true rfl) dX6_init_19 (fun H locs hP hD hS => ?_)
  have hP : va_P D classes [(q318, .inr (6, [.ref q322, .ref q323, .null, .int 0, .int 0, .int 0, .int 0, .int 0, .int 0])), (q322, .inl (a 0, 401, .inl (fun _ => 0))), (q323, .inl (a 0, 401, .inl (fun _ => 0)))] H := hP
  have hD : va_D A [(q318, .inr (6, [.ref q322, .ref q323, .null, .int 0, .int 0, .int 0, .int 0, .int 0, .int 0])), (q322, .inl (a 0, 401, .inl (fun _ => 0))), (q323, .inl (a 0, 401, .inl (fun _ => 0)))] := hD
  refine lv_aload_n hx hb dX6_init_22 rfl (lv_at hl 0 rfl) ?_
  refine lv_sipush (v := 401) hx hb dX6_init_23 (by decide) ?_
  refine newA (atype := .int) (a0 := (401, .inl (fun _ => 0))) hx hb hK 0 rfl ra_int (hts _ t_119) rfl hP hD hS hA (fun _ => rfl) (by decide) (by decide) (by decide) (Nat.le_of_ble_eq_true rfl) (Nat.le_of_ble_eq_true rfl) dX6_init_26 (fun q324 H hP hD hS => ?_)
  have hP : va_P D classes [(q318, .inr (6, [.ref q322, .ref q323, .null, .int 0, .int 0, .int 0, .int 0, .int 0, .int 0])), (q322, .inl (a 0, 401, .inl (fun _ => 0))), (q323, .inl (a 0, 401, .inl (fun _ => 0))), (q324, .inl (a 0, 401, .inl (fun _ => 0)))] H := hP
  have hD : va_D A [(q318, .inr (6, [.ref q322, .ref q323, .null, .int 0, .int 0, .int 0, .int 0, .int 0, .int 0])), (q322, .inl (a 0, 401, .inl (fun _ => 0))), (q323, .inl (a 0, 401, .inl (fun _ => 0))), (q324, .inl (a 0, 401, .inl (fun _ => 0)))] := hD
  refine W.cs (cells' := 3) (slots' := 1203) rfl rfl ?_
  refine va_putF (D := D) (v := .ref q324) (C := RX6) (T := TX6) (N := 9) hx hb hts iX6 tyX6 tyX6_ok nmX6 hown hK.1 hP hD hS 0 rfl rfl 2 (by decide) (hts _ t_210) (fun _ h9 => h9) rfl (hnm rfl) rfl (tyX6_ok 2 (by decide)) rfl rfl (Nat.le_of_ble_eq_true rfl) dX6_init_28 (fun H locs hP hD hS => ?_)
  have hP : va_P D classes [(q318, .inr (6, [.ref q322, .ref q323, .ref q324, .int 0, .int 0, .int 0, .int 0, .int 0, .int 0])), (q322, .inl (a 0, 401, .inl (fun _ => 0))), (q323, .inl (a 0, 401, .inl (fun _ => 0))), (q324, .inl (a 0, 401, .inl (fun _ => 0)))] H := hP
  have hD : va_D A [(q318, .inr (6, [.ref q322, .ref q323, .ref q324, .int 0, .int 0, .int 0, .int 0, .int 0, .int 0])), (q322, .inl (a 0, 401, .inl (fun _ => 0))), (q323, .inl (a 0, 401, .inl (fun _ => 0))), (q324, .inl (a 0, 401, .inl (fun _ => 0)))] := hD
  exact retMv C rfl (0, [q322, q323, q324], [], [], [], []) ⟨q322, q323, q324, rfl⟩ hP hD hS (Nat.le_of_ble_eq_true rfl) (Nat.le_of_ble_eq_true rfl) dX6_init_31

set_option maxHeartbeats 4000000 in
set_option maxRecDepth 100000 in
theorem c_X6_init_3 (l : Launch) (D : va_G) (a : Nat → ClassId) (q335 : Nat) (sz : Nat) : CMv (S := SS) l MX6_init 1 20 3 1203 D a [.ref q335] [(q335, .inr (6, [.null, .null, .null, .int 0, .int 0, .int 0, .int 0, .int 0, .int 0]))] sz (fun u => (∃ q339 : Nat, ∃ q340 : Nat, ∃ q341 : Nat, u = (0, [q339, q340, q341], [], [], [], []))) (fun u => pk [[(q335, .inr (6, [.ref (u.2.1.getD 0 0), .ref (u.2.1.getD 1 0), .ref (u.2.1.getD 2 0), .int 0, .int 0, .int 0, .int 0, .int 0, .int 0])), ((u.2.1.getD 0 0), .inl (a 0, 401, .inl (fun _ => 0))), ((u.2.1.getD 1 0), .inl (a 0, 401, .inl (fun _ => 0))), ((u.2.1.getD 2 0), .inl (a 0, 401, .inl (fun _ => 0)))]] u.1) := by
  refine entMv (by decide) (Nat.le_of_ble_eq_true rfl) ?_
  intro p e s m below meth c C hK A hA hP hD ls hl
  obtain ⟨hx, hb, hml, hown, hts, hr, hlocks, hnm⟩ := id C
  have hb : c.code = cX6_init := hb
  have hown : s.vm.findClass RX6 = some m.cls := hown
  have hS : va_S A s.heap s.heap [] := va_S.rf
  have hl : lv_has ls 1 [(0, .ref q335)] := hl
  refine lv_aload_n hx hb dX6_init_0 rfl (lv_at hl 0 rfl) ?_
  refine W.objInit hx hb hown (hts _ t_207) (hts _ t_25) (hts _ t_26) rfl (by rw [hml]; exact hl.1) rfl dX6_init_1 (Nat.le_of_ble_eq_true rfl) (Nat.le_of_ble_eq_true rfl) ?_
  refine W.eq (g2 := F0 m 4 ls []) rfl ?_
  refine lv_aload_n hx hb dX6_init_4 rfl (lv_at hl 0 rfl) ?_
  refine lv_sipush (v := 401) hx hb dX6_init_5 (by decide) ?_
  refine newA (atype := .int) (a0 := (401, .inl (fun _ => 0))) hx hb hK 0 rfl ra_int (hts _ t_119) rfl hP hD hS hA (fun _ => rfl) (by decide) (by decide) (by decide) (Nat.le_of_ble_eq_true rfl) (Nat.le_of_ble_eq_true rfl) dX6_init_8 (fun q339 H hP hD hS => ?_)
  have hP : va_P D classes [(q335, .inr (6, [.null, .null, .null, .int 0, .int 0, .int 0, .int 0, .int 0, .int 0])), (q339, .inl (a 0, 401, .inl (fun _ => 0)))] H := hP
  have hD : va_D A [(q335, .inr (6, [.null, .null, .null, .int 0, .int 0, .int 0, .int 0, .int 0, .int 0])), (q339, .inl (a 0, 401, .inl (fun _ => 0)))] := hD
  refine W.cs (cells' := 1) (slots' := 401) rfl rfl ?_
  refine va_putF (D := D) (v := .ref q339) (C := RX6) (T := TX6) (N := 9) hx hb hts iX6 tyX6 tyX6_ok nmX6 hown hK.1 hP hD hS 0 rfl rfl 0 (by decide) (hts _ t_208) (fun _ h9 => h9) rfl (hnm rfl) rfl (tyX6_ok 0 (by decide)) rfl rfl (Nat.le_of_ble_eq_true rfl) dX6_init_10 (fun H locs hP hD hS => ?_)
  have hP : va_P D classes [(q335, .inr (6, [.ref q339, .null, .null, .int 0, .int 0, .int 0, .int 0, .int 0, .int 0])), (q339, .inl (a 0, 401, .inl (fun _ => 0)))] H := hP
  have hD : va_D A [(q335, .inr (6, [.ref q339, .null, .null, .int 0, .int 0, .int 0, .int 0, .int 0, .int 0])), (q339, .inl (a 0, 401, .inl (fun _ => 0)))] := hD
  refine lv_aload_n hx hb dX6_init_13 rfl (lv_at hl 0 rfl) ?_
  refine lv_sipush (v := 401) hx hb dX6_init_14 (by decide) ?_
  refine newA (atype := .int) (a0 := (401, .inl (fun _ => 0))) hx hb hK 0 rfl ra_int (hts _ t_119) rfl hP hD hS hA (fun _ => rfl) (by decide) (by decide) (by decide) (Nat.le_of_ble_eq_true rfl) (Nat.le_of_ble_eq_true rfl) dX6_init_17 (fun q340 H hP hD hS => ?_)
  have hP : va_P D classes [(q335, .inr (6, [.ref q339, .null, .null, .int 0, .int 0, .int 0, .int 0, .int 0, .int 0])), (q339, .inl (a 0, 401, .inl (fun _ => 0))), (q340, .inl (a 0, 401, .inl (fun _ => 0)))] H := hP
  have hD : va_D A [(q335, .inr (6, [.ref q339, .null, .null, .int 0, .int 0, .int 0, .int 0, .int 0, .int 0])), (q339, .inl (a 0, 401, .inl (fun _ => 0))), (q340, .inl (a 0, 401, .inl (fun _ => 0)))] := hD
  refine W.cs (cells' := 2) (slots' := 802) rfl rfl ?_
  refine va_putF (D := D) (v := .ref q340) (C := RX6) (T := TX6) (N := 9) hx hb hts iX6 tyX6 tyX6_ok nmX6 hown hK.1 hP hD hS 0 rfl rfl 1 (by decide) (hts _ t_209) (fun _ h9 => h9) rfl (hnm rfl) rfl (tyX6_ok 1 (by decide)) rfl rfl (Nat.le_of_ble_eq_true rfl) dX6_init_19 (fun H locs hP hD hS => ?_)
  have hP : va_P D classes [(q335, .inr (6, [.ref q339, .ref q340, .null, .int 0, .int 0, .int 0, .int 0, .int 0, .int 0])), (q339, .inl (a 0, 401, .inl (fun _ => 0))), (q340, .inl (a 0, 401, .inl (fun _ => 0)))] H := hP
  have hD : va_D A [(q335, .inr (6, [.ref q339, .ref q340, .null, .int 0, .int 0, .int 0, .int 0, .int 0, .int 0])), (q339, .inl (a 0, 401, .inl (fun _ => 0))), (q340, .inl (a 0, 401, .inl (fun _ => 0)))] := hD
  refine lv_aload_n hx hb dX6_init_22 rfl (lv_at hl 0 rfl) ?_
  refine lv_sipush (v := 401) hx hb dX6_init_23 (by decide) ?_
  refine newA (atype := .int) (a0 := (401, .inl (fun _ => 0))) hx hb hK 0 rfl ra_int (hts _ t_119) rfl hP hD hS hA (fun _ => rfl) (by decide) (by decide) (by decide) (Nat.le_of_ble_eq_true rfl) (Nat.le_of_ble_eq_true rfl) dX6_init_26 (fun q341 H hP hD hS => ?_)
  have hP : va_P D classes [(q335, .inr (6, [.ref q339, .ref q340, .null, .int 0, .int 0, .int 0, .int 0, .int 0, .int 0])), (q339, .inl (a 0, 401, .inl (fun _ => 0))), (q340, .inl (a 0, 401, .inl (fun _ => 0))), (q341, .inl (a 0, 401, .inl (fun _ => 0)))] H := hP
  have hD : va_D A [(q335, .inr (6, [.ref q339, .ref q340, .null, .int 0, .int 0, .int 0, .int 0, .int 0, .int 0])), (q339, .inl (a 0, 401, .inl (fun _ => 0))), (q340, .inl (a 0, 401, .inl (fun _ => 0))), (q341, .inl (a 0, 401, .inl (fun _ => 0)))] := hD
  refine W.cs (cells' := 3) (slots' := 1203) rfl rfl ?_
  refine va_putF (D := D) (v := .ref q341) (C := RX6) (T := TX6) (N := 9) hx hb hts iX6 tyX6 tyX6_ok nmX6 hown hK.1 hP hD hS 0 rfl rfl 2 (by decide) (hts _ t_210) (fun _ h9 => h9) rfl (hnm rfl) rfl (tyX6_ok 2 (by decide)) rfl rfl (Nat.le_of_ble_eq_true rfl) dX6_init_28 (fun H locs hP hD hS => ?_)
  have hP : va_P D classes [(q335, .inr (6, [.ref q339, .ref q340, .ref q341, .int 0, .int 0, .int 0, .int 0, .int 0, .int 0])), (q339, .inl (a 0, 401, .inl (fun _ => 0))), (q340, .inl (a 0, 401, .inl (fun _ => 0))), (q341, .inl (a 0, 401, .inl (fun _ => 0)))] H := hP
  have hD : va_D A [(q335, .inr (6, [.ref q339, .ref q340, .ref q341, .int 0, .int 0, .int 0, .int 0, .int 0, .int 0])), (q339, .inl (a 0, 401, .inl (fun _ => 0))), (q340, .inl (a 0, 401, .inl (fun _ => 0))), (q341, .inl (a 0, 401, .inl (fun _ => 0)))] := hD
  exact retMv C rfl (0, [q339, q340, q341], [], [], [], []) ⟨q339, q340, q341, rfl⟩ hP hD hS (Nat.le_of_ble_eq_true rfl) (Nat.le_of_ble_eq_true rfl) dX6_init_31

set_option maxHeartbeats 4000000 in
set_option maxRecDepth 100000 in
theorem c_X4_init_1 (l : Launch) (D : va_G) (a : Nat → ClassId) (q317 : Nat) (sz : Nat) : CMv (S := SS) l MX4_init 2 40 8 1648 D a [.ref q317] [(q317, .inr (4, [.null, .null, .int 0, .int 0, .int 0, .null, .null, .null]))] sz (fun u => (∃ q335 : Nat, ∃ q348 : Nat, ∃ q349 : Nat, ∃ q350 : Nat, ∃ q351 : Nat, ∃ q345 : Nat, ∃ q346 : Nat, ∃ q347 : Nat, u = (0, [q335, q348, q349, q350, q351, q345, q346, q347], [], [], [], []))) (fun u => pk [[(q317, .inr (4, [.ref (u.2.1.getD 0 0), .ref (u.2.1.getD 1 0), .int 0, .int 0, .int 0, .ref (u.2.1.getD 2 0), .ref (u.2.1.getD 3 0), .ref (u.2.1.getD 4 0)])), ((u.2.1.getD 0 0), .inr (6, [.ref (u.2.1.getD 5 0), .ref (u.2.1.getD 6 0), .ref (u.2.1.getD 7 0), .int 0, .int 0, .int 0, .int 0, .int 0, .int 0])), ((u.2.1.getD 5 0), .inl (a 0, 401, .inl (fun _ => 0))), ((u.2.1.getD 6 0), .inl (a 0, 401, .inl (fun _ => 0))), ((u.2.1.getD 7 0), .inl (a 0, 401, .inl (fun _ => 0))), ((u.2.1.getD 1 0), .inl (a 0, 400, .inl (fun _ => 0))), ((u.2.1.getD 2 0), .inl (a 0, 12, .inl (fun _ => 0))), ((u.2.1.getD 3 0), .inl (a 0, 12, .inl (fun _ => 0))), ((u.2.1.getD 4 0), .inl (a 0, 12, .inl (fun _ => 0)))]] u.1) := by
  refine entMv (by decide) (Nat.le_of_ble_eq_true rfl) ?_
  intro p e s m below meth c C hK A hA hP hD ls hl
  obtain ⟨hx, hb, hml, hown, hts, hr, hlocks, hnm⟩ := id C
  have hb : c.code = cX4_init := hb
  have hown : s.vm.findClass RX4 = some m.cls := hown
  have hS : va_S A s.heap s.heap [] := va_S.rf
  have hl : lv_has ls 1 [(0, .ref q317)] := hl
  refine lv_aload_n hx hb dX4_init_0 rfl (lv_at hl 0 rfl) ?_
  refine W.objInit hx hb hown (hts _ t_201) (hts _ t_25) (hts _ t_26) rfl (by rw [hml]; exact hl.1) rfl dX4_init_1 (Nat.le_of_ble_eq_true rfl) (Nat.le_of_ble_eq_true rfl) ?_
  refine W.eq (g2 := F0 m 4 ls []) rfl ?_
  refine lv_aload_n hx hb dX4_init_4 rfl (lv_at hl 0 rfl) ?_
  refine va_new (ci := 6) (fs := [.null, .null, .null, .int 0, .int 0, .int 0, .int 0, .int 0, .int 0]) (C := RX6) (T := TX6) (N := 9) hx hb hts iX6 tyX6 tyX6_ok hown (hts _ t_202) (hts _ t_203) (hts _ t_6) hK.1 hP hD hS hA rfl (dfX6) (Nat.le_of_ble_eq_true rfl) (Nat.le_of_ble_eq_true rfl) dX4_init_5 (fun q335 H hP hD hS => ?_)
  have hP : va_P D classes [(q317, .inr (4, [.null, .null, .int 0, .int 0, .int 0, .null, .null, .null])), (q335, .inr (6, [.null, .null, .null, .int 0, .int 0, .int 0, .int 0, .int 0, .int 0]))] H := hP
  have hD : va_D A [(q317, .inr (4, [.null, .null, .int 0, .int 0, .int 0, .null, .null, .null])), (q335, .inr (6, [.null, .null, .null, .int 0, .int 0, .int 0, .int 0, .int 0, .int 0]))] := hD
  refine W.cs (cells' := 1) (slots' := 9) rfl rfl ?_
  refine lv_dup hx hb dX4_init_8 rfl ?_
  refine afMv (runI (As := []) (rest := [.ref q335, .ref q317]) C (c_X6_init_3 l D a q335 H.size) lk_I_4_11 (okN_X6_init) ⟨Nat.le_of_ble_eq_true rfl, Nat.le_of_ble_eq_true rfl⟩ ⟨rfl, rfl⟩ (preM hK (P_of_map (wc := [(q335, .inr (6, [.null, .null, .null, .int 0, .int 0, .int 0, .int 0, .int 0, .int 0]))]) hP [1] rfl) (hD.sub (ws' := [(q335, .inr (6, [.null, .null, .null, .int 0, .int 0, .int 0, .int 0, .int 0, .int 0]))]) [1] (by decide) rfl)) hl.1 rfl (Nat.le_of_ble_eq_true rfl) dX4_init_9 ⟨Nat.le_of_ble_eq_true rfl, Nat.le_of_ble_eq_true rfl⟩) hP hD hS hA [1] [0] (wr := [(q317, .inr (4, [.null, .null, .int 0, .int 0, .int 0, .null, .null, .null]))]) rfl rfl (by decide) (by decide) (fun u H locs hw hP hD hS => ?_)
  obtain ⟨q345, q346, q347, rfl⟩ := hw
  have hP : va_P D classes [(q317, .inr (4, [.null, .null, .int 0, .int 0, .int 0, .null, .null, .null])), (q335, .inr (6, [.ref q345, .ref q346, .ref q347, .int 0, .int 0, .int 0, .int 0, .int 0, .int 0])), (q345, .inl (a 0, 401, .inl (fun _ => 0))), (q346, .inl (a 0, 401, .inl (fun _ => 0))), (q347, .inl (a 0, 401, .inl (fun _ => 0)))] H := hP
  have hD : va_D A [(q317, .inr (4, [.null, .null, .int 0, .int 0, .int 0, .null, .null, .null])), (q335, .inr (6, [.ref q345, .ref q346, .ref q347, .int 0, .int 0, .int 0, .int 0, .int 0, .int 0])), (q345, .inl (a 0, 401, .inl (fun _ => 0))), (q346, .inl (a 0, 401, .inl (fun _ => 0))), (q347, .inl (a 0, 401, .inl (fun _ => 0)))] := hD
  refine W.cs (cells' := 4) (slots' := 1212) rfl rfl ?_
  refine va_putF (D := D) (v := .ref q335) (C := RX4) (T := TX4) (N := 8) hx hb hts iX4 tyX4 tyX4_ok nmX4 hown hK.1 hP hD hS 0 rfl rfl 0 (by decide) (hts _ t_242) (fun _ h9 => h9) rfl (hnm rfl) rfl (tyX4_ok 0 (by decide)) rfl rfl (Nat.le_of_ble_eq_true rfl) dX4_init_12 (fun H locs hP hD hS => ?_)
  have hP : va_P D classes [(q317, .inr (4, [.ref q335, .null, .int 0, .int 0, .int 0, .null, .null, .null])), (q335, .inr (6, [.ref q345, .ref q346, .ref q347, .int 0, .int 0, .int 0, .int 0, .int 0, .int 0])), (q345, .inl (a 0, 401, .inl (fun _ => 0))), (q346, .inl (a 0, 401, .inl (fun _ => 0))), (q347, .inl (a 0, 401, .inl (fun _ => 0)))] H := hP
  have hD : va_D A [(q317, .inr (4, [.ref q335, .null, .int 0, .int 0, .int 0, .null, .null, .null])), (q335, .inr (6, [.ref q345, .ref q346, .ref q347, .int 0, .int 0, .int 0, .int 0, .int 0, .int 0])), (q345, .inl (a 0, 401, .inl (fun _ => 0))), (q346, .inl (a 0, 401, .inl (fun _ => 0))), (q347, .inl (a 0, 401, .inl (fun _ => 0)))] := hD
  refine lv_aload_n hx hb dX4_init_15 rfl (lv_at hl 0 rfl) ?_
  refine lv_sipush (v := 400) hx hb dX4_init_16 (by decide) ?_
  refine newA (atype := .int) (a0 := (400, .inl (fun _ => 0))) hx hb hK 0 rfl ra_int (hts _ t_119) rfl hP hD hS hA (fun _ => rfl) (by decide) (by decide) (by decide) (Nat.le_of_ble_eq_true rfl) (Nat.le_of_ble_eq_true rfl) dX4_init_19 (fun q348 H hP hD hS => ?_)
  have hP : va_P D classes [(q317, .inr (4, [.ref q335, .null, .int 0, .int 0, .int 0, .null, .null, .null])), (q335, .inr (6, [.ref q345, .ref q346, .ref q347, .int 0, .int 0, .int 0, .int 0, .int 0, .int 0])), (q345, .inl (a 0, 401, .inl (fun _ => 0))), (q346, .inl (a 0, 401, .inl (fun _ => 0))), (q347, .inl (a 0, 401, .inl (fun _ => 0))), (q348, .inl (a 0, 400, .inl (fun _ => 0)))] H := hP
  have hD : va_D A [(q317, .inr (4, [.ref q335, .null, .int 0, .int 0, .int 0, .null, .null, .null])), (q335, .inr (6, [.ref q345, .ref q346, .ref q347, .int 0, .int 0, .int 0, .int 0, .int 0, .int 0])), (q345, .inl (a 0, 401, .inl (fun _ => 0))), (q346, .inl (a 0, 401, .inl (fun _ => 0))), (q347, .inl (a 0, 401, .inl (fun _ => 0))), (q348, .inl (a 0, 400, .inl (fun _ => 0)))] := hD
  refine W.cs (cells' := 5) (slots' := 1612) rfl rfl ?_
  refine va_putF (D := D) (v := .ref q348) (C := RX4) (T := TX4) (N := 8) hx hb hts iX4 tyX4 tyX4_ok nmX4 hown hK.1 hP hD hS 0 rfl rfl 1 (by decide) (hts _ t_244) (fun _ h9 => h9) rfl (hnm rfl) rfl (tyX4_ok 1 (by decide)) rfl rfl (Nat.le_of_ble_eq_true rfl) dX4_init_21 (fun H locs hP hD hS => ?_)
  have hP : va_P D classes [(q317, .inr (4, [.ref q335, .ref q348, .int 0, .int 0, .int 0, .null, .null, .null])), (q335, .inr (6, [.ref q345, .ref q346, .ref q347, .int 0, .int 0, .int 0, .int 0, .int 0, .int 0])), (q345, .inl (a 0, 401, .inl (fun _ => 0))), (q346, .inl (a 0, 401, .inl (fun _ => 0))), (q347, .inl (a 0, 401, .inl (fun _ => 0))), (q348, .inl (a 0, 400, .inl (fun _ => 0)))] H := hP
  have hD : va_D A [(q317, .inr (4, [.ref q335, .ref q348, .int 0, .int 0, .int 0, .null, .null, .null])), (q335, .inr (6, [.ref q345, .ref q346, .ref q347, .int 0, .int 0, .int 0, .int 0, .int 0, .int 0])), (q345, .inl (a 0, 401, .inl (fun _ => 0))), (q346, .inl (a 0, 401, .inl (fun _ => 0))), (q347, .inl (a 0, 401, .inl (fun _ => 0))), (q348, .inl (a 0, 400, .inl (fun _ => 0)))] := hD
  refine lv_aload_n hx hb dX4_init_24 rfl (lv_at hl 0 rfl) ?_
  refine lv_bipush (v := 12) hx hb dX4_init_25 (by decide) ?_
  refine newA (atype := .int) (a0 := (12, .inl (fun _ => 0))) hx hb hK 0 rfl ra_int (hts _ t_119) rfl hP hD hS hA (fun _ => rfl) (by decide) (by decide) (by decide) (Nat.le_of_ble_eq_true rfl) (Nat.le_of_ble_eq_true rfl) dX4_init_27 (fun q349 H hP hD hS => ?_)
  have hP : va_P D classes [(q317, .inr (4, [.ref q335, .ref q348, .int 0, .int 0, .int 0, .null, .null, .null])), (q335, .inr (6, [.ref q345, .ref q346, .ref q347, .int 0, .int 0, .int 0, .int 0, .int 0, .int 0])), (q345, .inl (a 0, 401, .inl (fun _ => 0))), (q346, .inl (a 0, 401, .inl (fun _ => 0))), (q347, .inl (a 0, 401, .inl (fun _ => 0))), (q348, .inl (a 0, 400, .inl (fun _ => 0))), (q349, .inl (a 0, 12, .inl (fun _ => 0)))] H := hP
  have hD : va_D A [(q317, .inr (4, [.ref q335, .ref q348, .int 0, .int 0, .int 0, .null, .null, .null])), (q335, .inr (6, [.ref q345, .ref q346, .ref q347, .int 0, .int 0, .int 0, .int 0, .int 0, .int 0])), (q345, .inl (a 0, 401, .inl (fun _ => 0))), (q346, .inl (a 0, 401, .inl (fun _ => 0))), (q347, .inl (a 0, 401, .inl (fun _ => 0))), (q348, .inl (a 0, 400, .inl (fun _ => 0))), (q349, .inl (a 0, 12, .inl (fun _ => 0)))] := hD
  refine W.cs (cells' := 6) (slots' := 1624) rfl rfl ?_
  refine va_putF (D := D) (v := .ref q349) (C := RX4) (T := TX4) (N := 8) hx hb hts iX4 tyX4 tyX4_ok nmX4 hown hK.1 hP hD hS 0 rfl rfl 5 (by decide) (hts _ t_248) (fun _ h9 => h9) rfl (hnm rfl) rfl (tyX4_ok 5 (by decide)) rfl rfl (Nat.le_of_ble_eq_true rfl) dX4_init_29 (fun H locs hP hD hS => ?_)
  have hP : va_P D classes [(q317, .inr (4, [.ref q335, .ref q348, .int 0, .int 0, .int 0, .ref q349, .null, .null])), (q335, .inr (6, [.ref q345, .ref q346, .ref q347, .int 0, .int 0, .int 0, .int 0, .int 0, .int 0])), (q345, .inl (a 0, 401, .inl (fun _ => 0))), (q346, .inl (a 0, 401, .inl (fun _ => 0))), (q347, .inl (a 0, 401, .inl (fun _ => 0))), (q348, .inl (a 0, 400, .inl (fun _ => 0))), (q349, .inl (a 0, 12, .inl (fun _ => 0)))] H := hP
  have hD : va_D A [(q317, .inr (4, [.ref q335, .ref q348, .int 0, .int 0, .int 0, .ref q349, .null, .null])), (q335, .inr (6, [.ref q345, .ref q346, .ref q347, .int 0, .int 0, .int 0, .int 0, .int 0, .int 0])), (q345, .inl (a 0, 401, .inl (fun _ => 0))), (q346, .inl (a 0, 401, .inl (fun _ => 0))), (q347, .inl (a 0, 401, .inl (fun _ => 0))), (q348, .inl (a 0, 400, .inl (fun _ => 0))), (q349, .inl (a 0, 12, .inl (fun _ => 0)))] := hD
  refine lv_aload_n hx hb dX4_init_32 rfl (lv_at hl 0 rfl) ?_
  refine lv_bipush (v := 12) hx hb dX4_init_33 (by decide) ?_
  refine newA (atype := .int) (a0 := (12, .inl (fun _ => 0))) hx hb hK 0 rfl ra_int (hts _ t_119) rfl hP hD hS hA (fun _ => rfl) (by decide) (by decide) (by decide) (Nat.le_of_ble_eq_true rfl) (Nat.le_of_ble_eq_true rfl) dX4_init_35 (fun q350 H hP hD hS => ?_)
  have hP : va_P D classes [(q317, .inr (4, [.ref q335, .ref q348, .int 0, .int 0, .int 0, .ref q349, .null, .null])), (q335, .inr (6, [.ref q345, .ref q346, .ref q347, .int 0, .int 0, .int 0, .int 0, .int 0, .int 0])), (q345, .inl (a 0, 401, .inl (fun _ => 0))), (q346, .inl (a 0, 401, .inl (fun _ => 0))), (q347, .inl (a 0, 401, .inl (fun _ => 0))), (q348, .inl (a 0, 400, .inl (fun _ => 0))), (q349, .inl (a 0, 12, .inl (fun _ => 0))), (q350, .inl (a 0, 12, .inl (fun _ => 0)))] H := hP
  have hD : va_D A [(q317, .inr (4, [.ref q335, .ref q348, .int 0, .int 0, .int 0, .ref q349, .null, .null])), (q335, .inr (6, [.ref q345, .ref q346, .ref q347, .int 0, .int 0, .int 0, .int 0, .int 0, .int 0])), (q345, .inl (a 0, 401, .inl (fun _ => 0))), (q346, .inl (a 0, 401, .inl (fun _ => 0))), (q347, .inl (a 0, 401, .inl (fun _ => 0))), (q348, .inl (a 0, 400, .inl (fun _ => 0))), (q349, .inl (a 0, 12, .inl (fun _ => 0))), (q350, .inl (a 0, 12, .inl (fun _ => 0)))] := hD
  refine W.cs (cells' := 7) (slots' := 1636) rfl rfl ?_
  refine va_putF (D := D) (v := .ref q350) (C := RX4) (T := TX4) (N := 8) hx hb hts iX4 tyX4 tyX4_ok nmX4 hown hK.1 hP hD hS 0 rfl rfl 6 (by decide) (hts _ t_249) (fun _ h9 => h9) rfl (hnm rfl) rfl (tyX4_ok 6 (by decide)) rfl rfl (Nat.le_of_ble_eq_true rfl) dX4_init_37 (fun H locs hP hD hS => ?_)
  have hP : va_P D classes [(q317, .inr (4, [.ref q335, .ref q348, .int 0, .int 0, .int 0, .ref q349, .ref q350, .null])), (q335, .inr (6, [.ref q345, .ref q346, .ref q347, .int 0, .int 0, .int 0, .int 0, .int 0, .int 0])), (q345, .inl (a 0, 401, .inl (fun _ => 0))), (q346, .inl (a 0, 401, .inl (fun _ => 0))), (q347, .inl (a 0, 401, .inl (fun _ => 0))), (q348, .inl (a 0, 400, .inl (fun _ => 0))), (q349, .inl (a 0, 12, .inl (fun _ => 0))), (q350, .inl (a 0, 12, .inl (fun _ => 0)))] H := hP
  have hD : va_D A [(q317, .inr (4, [.ref q335, .ref q348, .int 0, .int 0, .int 0, .ref q349, .ref q350, .null])), (q335, .inr (6, [.ref q345, .ref q346, .ref q347, .int 0, .int 0, .int 0, .int 0, .int 0, .int 0])), (q345, .inl (a 0, 401, .inl (fun _ => 0))), (q346, .inl (a 0, 401, .inl (fun _ => 0))), (q347, .inl (a 0, 401, .inl (fun _ => 0))), (q348, .inl (a 0, 400, .inl (fun _ => 0))), (q349, .inl (a 0, 12, .inl (fun _ => 0))), (q350, .inl (a 0, 12, .inl (fun _ => 0)))] := hD
  refine lv_aload_n hx hb dX4_init_40 rfl (lv_at hl 0 rfl) ?_
  refine lv_bipush (v := 12) hx hb dX4_init_41 (by decide) ?_
  refine newA (atype := .int) (a0 := (12, .inl (fun _ => 0))) hx hb hK 0 rfl ra_int (hts _ t_119) rfl hP hD hS hA (fun _ => rfl) (by decide) (by decide) (by decide) (Nat.le_of_ble_eq_true rfl) (Nat.le_of_ble_eq_true rfl) dX4_init_43 (fun q351 H hP hD hS => ?_)
  have hP : va_P D classes [(q317, .inr (4, [.ref q335, .ref q348, .int 0, .int 0, .int 0, .ref q349, .ref q350, .null])), (q335, .inr (6, [.ref q345, .ref q346, .ref q347, .int 0, .int 0, .int 0, .int 0, .int 0, .int 0])), (q345, .inl (a 0, 401, .inl (fun _ => 0))), (q346, .inl (a 0, 401, .inl (fun _ => 0))), (q347, .inl (a 0, 401, .inl (fun _ => 0))), (q348, .inl (a 0, 400, .inl (fun _ => 0))), (q349, .inl (a 0, 12, .inl (fun _ => 0))), (q350, .inl (a 0, 12, .inl (fun _ => 0))), (q351, .inl (a 0, 12, .inl (fun _ => 0)))] H := hP
  have hD : va_D A [(q317, .inr (4, [.ref q335, .ref q348, .int 0, .int 0, .int 0, .ref q349, .ref q350, .null])), (q335, .inr (6, [.ref q345, .ref q346, .ref q347, .int 0, .int 0, .int 0, .int 0, .int 0, .int 0])), (q345, .inl (a 0, 401, .inl (fun _ => 0))), (q346, .inl (a 0, 401, .inl (fun _ => 0))), (q347, .inl (a 0, 401, .inl (fun _ => 0))), (q348, .inl (a 0, 400, .inl (fun _ => 0))), (q349, .inl (a 0, 12, .inl (fun _ => 0))), (q350, .inl (a 0, 12, .inl (fun _ => 0))), (q351, .inl (a 0, 12, .inl (fun _ => 0)))] := hD
  refine W.cs (cells' := 8) (slots' := 1648) rfl rfl ?_
  refine va_putF (D := D) (v := .ref q351) (C := RX4) (T := TX4) (N := 8) hx hb hts iX4 tyX4 tyX4_ok nmX4 hown hK.1 hP hD hS 0 rfl rfl 7 (by decide) (hts _ t_250) (fun _ h9 => h9) rfl (hnm rfl) rfl (tyX4_ok 7 (by decide)) rfl rfl (Nat.le_of_ble_eq_true rfl) dX4_init_45 (fun H locs hP hD hS => ?_)
  have hP : va_P D classes [(q317, .inr (4, [.ref q335, .ref q348, .int 0, .int 0, .int 0, .ref q349, .ref q350, .ref q351])), (q335, .inr (6, [.ref q345, .ref q346, .ref q347, .int 0, .int 0, .int 0, .int 0, .int 0, .int 0])), (q345, .inl (a 0, 401, .inl (fun _ => 0))), (q346, .inl (a 0, 401, .inl (fun _ => 0))), (q347, .inl (a 0, 401, .inl (fun _ => 0))), (q348, .inl (a 0, 400, .inl (fun _ => 0))), (q349, .inl (a 0, 12, .inl (fun _ => 0))), (q350, .inl (a 0, 12, .inl (fun _ => 0))), (q351, .inl (a 0, 12, .inl (fun _ => 0)))] H := hP
  have hD : va_D A [(q317, .inr (4, [.ref q335, .ref q348, .int 0, .int 0, .int 0, .ref q349, .ref q350, .ref q351])), (q335, .inr (6, [.ref q345, .ref q346, .ref q347, .int 0, .int 0, .int 0, .int 0, .int 0, .int 0])), (q345, .inl (a 0, 401, .inl (fun _ => 0))), (q346, .inl (a 0, 401, .inl (fun _ => 0))), (q347, .inl (a 0, 401, .inl (fun _ => 0))), (q348, .inl (a 0, 400, .inl (fun _ => 0))), (q349, .inl (a 0, 12, .inl (fun _ => 0))), (q350, .inl (a 0, 12, .inl (fun _ => 0))), (q351, .inl (a 0, 12, .inl (fun _ => 0)))] := hD
  exact retMv C rfl (0, [q335, q348, q349, q350, q351, q345, q346, q347], [], [], [], []) ⟨q335, q348, q349, q350, q351, q345, q346, q347, rfl⟩ hP hD hS (Nat.le_of_ble_eq_true rfl) (Nat.le_of_ble_eq_true rfl) dX4_init_48

set_option maxHeartbeats 4000000 in
set_option maxRecDepth 100000 in
theorem c_X2_init_1 (l : Launch) (D : va_G) (a : Nat → ClassId) (q363 : Nat) (sz : Nat) : CMv (S := SS) l MX2_init 1 20 1 32 D a [.ref q363] [(q363, .inr (2, [.null]))] sz (fun u => (∃ q365 : Nat, u = (0, [q365], [], [], [], []))) (fun u => pk [[(q363, .inr (2, [.ref (u.2.1.getD 0 0)])), ((u.2.1.getD 0 0), .inl (a 1, 32, .inr (.inl (fun _ => 0))))]] u.1) := by
  refine entMv (by decide) (Nat.le_of_ble_eq_true rfl) ?_
  intro p e s m below meth c C hK A hA hP hD ls hl
  obtain ⟨hx, hb, hml, hown, hts, hr, hlocks, hnm⟩ := id C
  have hb : c.code = cX2_init := hb
  have hown : s.vm.findClass RX2 = some m.cls := hown
  have hS : va_S A s.heap s.heap [] := va_S.rf
  have hl : lv_has ls 1 [(0, .ref q363)] := hl
  refine lv_aload_n hx hb dX2_init_0 rfl (lv_at hl 0 rfl) ?_
  refine W.objInit hx hb hown (hts _ t_273) (hts _ t_25) (hts _ t_26) rfl (by rw [hml]; exact hl.1) rfl dX2_init_1 (Nat.le_of_ble_eq_true rfl) (Nat.le_of_ble_eq_true rfl) ?_
  refine W.eq (g2 := F0 m 4 ls []) rfl ?_
  refine lv_aload_n hx hb dX2_init_4 rfl (lv_at hl 0 rfl) ?_
  refine lv_bipush (v := 32) hx hb dX2_init_5 (by decide) ?_
  refine newA (atype := .long) (a0 := (32, .inr (.inl (fun _ => 0)))) hx hb hK 1 rfl ra_long (hts _ t_278) rfl hP hD hS hA (fun _ => rfl) (by decide) (by decide) (by decide) (Nat.le_of_ble_eq_true rfl) (Nat.le_of_ble_eq_true rfl) dX2_init_7 (fun q365 H hP hD hS => ?_)
  have hP : va_P D classes [(q363, .inr (2, [.null])), (q365, .inl (a 1, 32, .inr (.inl (fun _ => 0))))] H := hP
  have hD : va_D A [(q363, .inr (2, [.null])), (q365, .inl (a 1, 32, .inr (.inl (fun _ => 0))))] := hD
  refine W.cs (cells' := 1) (slots' := 32) rfl rfl ?_
  refine va_putF (D := D) (v := .ref q365) (C := RX2) (T := TX2) (N := 1) hx hb hts iX2 tyX2 tyX2_ok nmX2 hown hK.1 hP hD hS 0 rfl rfl 0 (by decide) (hts _ t_274) (fun _ h9 => h9) rfl (hnm rfl) rfl (tyX2_ok 0 (by decide)) rfl rfl (Nat.le_of_ble_eq_true rfl) dX2_init_9 (fun H locs hP hD hS => ?_)
  have hP : va_P D classes [(q363, .inr (2, [.ref q365])), (q365, .inl (a 1, 32, .inr (.inl (fun _ => 0))))] H := hP
  have hD : va_D A [(q363, .inr (2, [.ref q365])), (q365, .inl (a 1, 32, .inr (.inl (fun _ => 0))))] := hD
  exact retMv C rfl (0, [q365], [], [], [], []) ⟨q365, rfl⟩ hP hD hS (Nat.le_of_ble_eq_true rfl) (Nat.le_of_ble_eq_true rfl) dX2_init_12

set_option maxHeartbeats 4000000 in
set_option maxRecDepth 100000 in
theorem c_X1_init_1 (l : Launch) (D : va_G) (a : Nat → ClassId) (q370 : Nat) (sz : Nat) : CMv (S := SS) l MX1_init 1 20 2 4096 D a [.ref q370] [(q370, .inr (1, [.null, .null, .int 0, .long 0]))] sz (fun u => (∃ q373 : Nat, ∃ q374 : Nat, u = (0, [q373, q374], [], [], [], []))) (fun u => pk [[(q370, .inr (1, [.ref (u.2.1.getD 0 0), .ref (u.2.1.getD 1 0), .int 0, .long 0])), ((u.2.1.getD 0 0), .inl (a 1, 2048, .inr (.inl (fun _ => 0)))), ((u.2.1.getD 1 0), .inl (a 1, 2048, .inr (.inl (fun _ => 0))))]] u.1) := by
  refine entMv (by decide) (Nat.le_of_ble_eq_true rfl) ?_
  intro p e s m below meth c C hK A hA hP hD ls hl
  obtain ⟨hx, hb, hml, hown, hts, hr, hlocks, hnm⟩ := id C
  have hb : c.code = cX1_init := hb
  have hown : s.vm.findClass RX1 = some m.cls := hown
  have hS : va_S A s.heap s.heap [] := va_S.rf
  have hl : lv_has ls 1 [(0, .ref q370)] := hl
  refine lv_aload_n hx hb dX1_init_0 rfl (lv_at hl 0 rfl) ?_
  refine W.objInit hx hb hown (hts _ t_284) (hts _ t_25) (hts _ t_26) rfl (by rw [hml]; exact hl.1) rfl dX1_init_1 (Nat.le_of_ble_eq_true rfl) (Nat.le_of_ble_eq_true rfl) ?_
  refine W.eq (g2 := F0 m 4 ls []) rfl ?_
  refine lv_aload_n hx hb dX1_init_4 rfl (lv_at hl 0 rfl) ?_
  refine lv_sipush (v := 2048) hx hb dX1_init_5 (by decide) ?_
  refine newA (atype := .long) (a0 := (2048, .inr (.inl (fun _ => 0)))) hx hb hK 1 rfl ra_long (hts _ t_278) rfl hP hD hS hA (fun _ => rfl) (by decide) (by decide) (by decide) (Nat.le_of_ble_eq_true rfl) (Nat.le_of_ble_eq_true rfl) dX1_init_8 (fun q373 H hP hD hS => ?_)
  have hP : va_P D classes [(q370, .inr (1, [.null, .null, .int 0, .long 0])), (q373, .inl (a 1, 2048, .inr (.inl (fun _ => 0))))] H := hP
  have hD : va_D A [(q370, .inr (1, [.null, .null, .int 0, .long 0])), (q373, .inl (a 1, 2048, .inr (.inl (fun _ => 0))))] := hD
  refine W.cs (cells' := 1) (slots' := 2048) rfl rfl ?_
  refine va_putF (D := D) (v := .ref q373) (C := RX1) (T := TX1) (N := 4) hx hb hts iX1 tyX1 tyX1_ok nmX1 hown hK.1 hP hD hS 0 rfl rfl 0 (by decide) (hts _ t_285) (fun _ h9 => h9) rfl (hnm rfl) rfl (tyX1_ok 0 (by decide)) rfl rfl (Nat.le_of_ble_eq_true rfl) dX1_init_10 (fun H locs hP hD hS => ?_)
  have hP : va_P D classes [(q370, .inr (1, [.ref q373, .null, .int 0, .long 0])), (q373, .inl (a 1, 2048, .inr (.inl (fun _ => 0))))] H := hP
  have hD : va_D A [(q370, .inr (1, [.ref q373, .null, .int 0, .long 0])), (q373, .inl (a 1, 2048, .inr (.inl (fun _ => 0))))] := hD
  refine lv_aload_n hx hb dX1_init_13 rfl (lv_at hl 0 rfl) ?_
  refine lv_sipush (v := 2048) hx hb dX1_init_14 (by decide) ?_
  refine newA (atype := .long) (a0 := (2048, .inr (.inl (fun _ => 0)))) hx hb hK 1 rfl ra_long (hts _ t_278) rfl hP hD hS hA (fun _ => rfl) (by decide) (by decide) (by decide) (Nat.le_of_ble_eq_true rfl) (Nat.le_of_ble_eq_true rfl) dX1_init_17 (fun q374 H hP hD hS => ?_)
  have hP : va_P D classes [(q370, .inr (1, [.ref q373, .null, .int 0, .long 0])), (q373, .inl (a 1, 2048, .inr (.inl (fun _ => 0)))), (q374, .inl (a 1, 2048, .inr (.inl (fun _ => 0))))] H := hP
  have hD : va_D A [(q370, .inr (1, [.ref q373, .null, .int 0, .long 0])), (q373, .inl (a 1, 2048, .inr (.inl (fun _ => 0)))), (q374, .inl (a 1, 2048, .inr (.inl (fun _ => 0))))] := hD
  refine W.cs (cells' := 2) (slots' := 4096) rfl rfl ?_
  refine va_putF (D := D) (v := .ref q374) (C := RX1) (T := TX1) (N := 4) hx hb hts iX1 tyX1 tyX1_ok nmX1 hown hK.1 hP hD hS 0 rfl rfl 1 (by decide) (hts _ t_286) (fun _ h9 => h9) rfl (hnm rfl) rfl (tyX1_ok 1 (by decide)) rfl rfl (Nat.le_of_ble_eq_true rfl) dX1_init_19 (fun H locs hP hD hS => ?_)
  have hP : va_P D classes [(q370, .inr (1, [.ref q373, .ref q374, .int 0, .long 0])), (q373, .inl (a 1, 2048, .inr (.inl (fun _ => 0)))), (q374, .inl (a 1, 2048, .inr (.inl (fun _ => 0))))] H := hP
  have hD : va_D A [(q370, .inr (1, [.ref q373, .ref q374, .int 0, .long 0])), (q373, .inl (a 1, 2048, .inr (.inl (fun _ => 0)))), (q374, .inl (a 1, 2048, .inr (.inl (fun _ => 0))))] := hD
  exact retMv C rfl (0, [q373, q374], [], [], [], []) ⟨q373, q374, rfl⟩ hP hD hS (Nat.le_of_ble_eq_true rfl) (Nat.le_of_ble_eq_true rfl) dX1_init_22

set_option maxHeartbeats 4000000 in
set_option maxRecDepth 100000 in
theorem c_X8_init_0 (l : Launch) (D : va_G) (a : Nat → ClassId) (q101 : Nat) (sz : Nat) : CMv (S := SS) l MX8_init 3 61 37 6381 D a [.ref q101] [(q101, .inr (8, [.null, .int 0, .null, .int 0, .int 0, .null, .null, .null, .null, .null, .null]))] sz (fun u => (∃ q241 : Nat, ∃ q242 : Nat, ∃ q243 : Nat, ∃ q309 : Nat, ∃ q310 : Nat, ∃ q317 : Nat, ∃ q363 : Nat, ∃ q370 : Nat, ∃ q244 : Nat, ∃ q272 : Nat, ∃ q273 : Nat, ∃ q274 : Nat, ∃ q275 : Nat, ∃ q276 : Nat, ∃ q277 : Nat, ∃ q278 : Nat, ∃ q279 : Nat, ∃ q280 : Nat, ∃ q281 : Nat, ∃ q282 : Nat, ∃ q283 : Nat, ∃ q305 : Nat, ∃ q306 : Nat, ∃ q307 : Nat, ∃ q308 : Nat, ∃ q316 : Nat, ∃ q355 : Nat, ∃ q356 : Nat, ∃ q357 : Nat, ∃ q358 : Nat, ∃ q359 : Nat, ∃ q360 : Nat, ∃ q361 : Nat, ∃ q362 : Nat, ∃ q369 : Nat, ∃ q378 : Nat, ∃ q379 : Nat, u = (0, [q241, q242, q243, q309, q310, q317, q363, q370, q244, q272, q273, q274, q275, q276, q277, q278, q279, q280, q281, q282, q283, q305, q306, q307, q308, q316, q355, q356, q357, q358, q359, q360, q361, q362, q369, q378, q379], [], [], [], []))) (fun u => pk [[(q101, .inr (8, [.ref (u.2.1.getD 0 0), .int 0, .ref (u.2.1.getD 1 0), .int 0, .int 0, .ref (u.2.1.getD 2 0), .ref (u.2.1.getD 3 0), .ref (u.2.1.getD 4 0), .ref (u.2.1.getD 5 0), .ref (u.2.1.getD 6 0), .ref (u.2.1.getD 7 0)])), ((u.2.1.getD 0 0), .inl (a 0, 400, .inl (fun _ => 0))), ((u.2.1.getD 1 0), .inl (a 4, 6, .inr (.inr (.inr (.inr (fun _ => none)))))), ((u.2.1.getD 8 0), .inr (7, [.int 0, .int 0, .int 0, .int 0, .int 0, .ref (u.2.1.getD 9 0), .ref (u.2.1.getD 10 0), .ref (u.2.1.getD 11 0), .ref (u.2.1.getD 12 0), .ref (u.2.1.getD 13 0), .ref (u.2.1.getD 14 0), .ref (u.2.1.getD 15 0), .ref (u.2.1.getD 16 0), .ref (u.2.1.getD 17 0), .ref (u.2.1.getD 18 0), .ref (u.2.1.getD 19 0), .ref (u.2.1.getD 20 0), .int 0])), ((u.2.1.getD 9 0), .inl (a 0, 6, .inl (fun _ => 0))), ((u.2.1.getD 10 0), .inl (a 0, 6, .inl (fun _ => 0))), ((u.2.1.getD 11 0), .inl (a 0, 6, .inl (fun _ => 0))), ((u.2.1.getD 12 0), .inl (a 0, 10, .inl (fun _ => 0))), ((u.2.1.getD 13 0), .inl (a 0, 10, .inl (fun _ => 0))), ((u.2.1.getD 14 0), .inl (a 0, 10, .inl (fun _ => 0))), ((u.2.1.getD 15 0), .inl (a 0, 10, .inl (fun _ => 0))), ((u.2.1.getD 16 0), .inl (a 0, 10, .inl (fun _ => 0))), ((u.2.1.getD 17 0), .inl (a 0, 10, .inl (fun _ => 0))), ((u.2.1.getD 18 0), .inl (a 0, 10, .inl (fun _ => 0))), ((u.2.1.getD 19 0), .inl (a 0, 10, .inl (fun _ => 0))), ((u.2.1.getD 20 0), .inl (a 0, 10, .inl (fun _ => 0))), ((u.2.1.getD 2 0), .inr (5, [.ref (u.2.1.getD 8 0), .ref (u.2.1.getD 21 0), .int 0, .int 0, .int 0, .ref (u.2.1.getD 22 0), .int 0, .ref (u.2.1.getD 23 0)])), ((u.2.1.getD 21 0), .inr (0, [.int 0, .int 0, .int 0, .int 0, .int 0, .ref (u.2.1.getD 24 0)])), ((u.2.1.getD 24 0), .inl (a 0, 10, .inl (fun _ => 0))), ((u.2.1.getD 22 0), .inl (a 0, 8, .inl (fun _ => 0))), ((u.2.1.getD 23 0), .inl (a 0, 8, .inl (fun _ => 0))), ((u.2.1.getD 3 0), .inl (a 5, 4, .inr (.inr (.inr (.inr (fun _ => none)))))), ((u.2.1.getD 4 0), .inr (0, [.int 0, .int 0, .int 0, .int 0, .int 0, .ref (u.2.1.getD 25 0)])), ((u.2.1.getD 25 0), .inl (a 0, 10, .inl (fun _ => 0))), ((u.2.1.getD 5 0), .inr (4, [.ref (u.2.1.getD 26 0), .ref (u.2.1.getD 27 0), .int 0, .int 0, .int 0, .ref (u.2.1.getD 28 0), .ref (u.2.1.getD 29 0), .ref (u.2.1.getD 30 0)])), ((u.2.1.getD 26 0), .inr (6, [.ref (u.2.1.getD 31 0), .ref (u.2.1.getD 32 0), .ref (u.2.1.getD 33 0), .int 0, .int 0, .int 0, .int 0, .int 0, .int 0])), ((u.2.1.getD 31 0), .inl (a 0, 401, .inl (fun _ => 0))), ((u.2.1.getD 32 0), .inl (a 0, 401, .inl (fun _ => 0))), ((u.2.1.getD 33 0), .inl (a 0, 401, .inl (fun _ => 0))), ((u.2.1.getD 27 0), .inl (a 0, 400, .inl (fun _ => 0))), ((u.2.1.getD 28 0), .inl (a 0, 12, .inl (fun _ => 0))), ((u.2.1.getD 29 0), .inl (a 0, 12, .inl (fun _ => 0))), ((u.2.1.getD 30 0), .inl (a 0, 12, .inl (fun _ => 0))), ((u.2.1.getD 6 0), .inr (2, [.ref (u.2.1.getD 34 0)])), ((u.2.1.getD 34 0), .inl (a 1, 32, .inr (.inl (fun _ => 0)))), ((u.2.1.getD 7 0), .inr (1, [.ref (u.2.1.getD 35 0), .ref (u.2.1.getD 36 0), .int 0, .long 0])), ((u.2.1.getD 35 0), .inl (a 1, 2048, .inr (.inl (fun _ => 0)))), ((u.2.1.getD 36 0), .inl (a 1, 2048, .inr (.inl (fun _ => 0))))]] u.1) := by
  refine entMv (by decide) (Nat.le_of_ble_eq_true rfl) ?_
  intro p e s m below meth c C hK A hA hP hD ls hl
  obtain ⟨hx, hb, hml, hown, hts, hr, hlocks, hnm⟩ := id C
  have hb : c.code = cX8_init := hb
  have hown : s.vm.findClass RX8 = some m.cls := hown
  have hS : va_S A s.heap s.heap [] := va_S.rf
  have hl : lv_has ls 1 [(0, .ref q101)] := hl
  refine lv_aload_n hx hb dX8_init_0 rfl (lv_at hl 0 rfl) ?_
  refine W.objInit hx hb hown (hts _ t_24) (hts _ t_25) (hts _ t_26) rfl (by rw [hml]; exact hl.1) rfl dX8_init_1 (Nat.le_of_ble_eq_true rfl) (Nat.le_of_ble_eq_true rfl) ?_
  refine W.eq (g2 := F0 m 4 ls []) rfl ?_
  refine lv_aload_n hx hb dX8_init_4 rfl (lv_at hl 0 rfl) ?_
  refine lv_sipush (v := 400) hx hb dX8_init_5 (by decide) ?_
  refine newA (atype := .int) (a0 := (400, .inl (fun _ => 0))) hx hb hK 0 rfl ra_int (hts _ t_119) rfl hP hD hS hA (fun _ => rfl) (by decide) (by decide) (by decide) (Nat.le_of_ble_eq_true rfl) (Nat.le_of_ble_eq_true rfl) dX8_init_8 (fun q241 H hP hD hS => ?_)
  have hP : va_P D classes [(q101, .inr (8, [.null, .int 0, .null, .int 0, .int 0, .null, .null, .null, .null, .null, .null])), (q241, .inl (a 0, 400, .inl (fun _ => 0)))] H := hP
  have hD : va_D A [(q101, .inr (8, [.null, .int 0, .null, .int 0, .int 0, .null, .null, .null, .null, .null, .null])), (q241, .inl (a 0, 400, .inl (fun _ => 0)))] := hD
  refine W.cs (cells' := 1) (slots' := 400) rfl rfl ?_
  refine va_putF (D := D) (v := .ref q241) (C := RX8) (T := TX8) (N := 11) hx hb hts iX8 tyX8 tyX8_ok nmX8 hown hK.1 hP hD hS 0 rfl rfl 0 (by decide) (hts _ t_300) (fun _ h9 => h9) rfl (hnm rfl) rfl (tyX8_ok 0 (by decide)) rfl rfl (Nat.le_of_ble_eq_true rfl) dX8_init_10 (fun H locs hP hD hS => ?_)
  have hP : va_P D classes [(q101, .inr (8, [.ref q241, .int 0, .null, .int 0, .int 0, .null, .null, .null, .null, .null, .null])), (q241, .inl (a 0, 400, .inl (fun _ => 0)))] H := hP
  have hD : va_D A [(q101, .inr (8, [.ref q241, .int 0, .null, .int 0, .int 0, .null, .null, .null, .null, .null, .null])), (q241, .inl (a 0, 400, .inl (fun _ => 0)))] := hD
  refine lv_aload_n hx hb dX8_init_13 rfl (lv_at hl 0 rfl) ?_
  refine lv_iconst (v := 0) hx hb dX8_init_14 (by decide) ?_
  refine va_put (D := D) (v := .int 0) (C := RX8) (T := TX8) (N := 11) hx hb hts iX8 tyX8 tyX8_ok nmX8 hown hK.1 hP hD hS 0 rfl rfl 1 (by decide) (hts _ t_301) (fun _ h9 => h9) rfl (tyX8_ok 1 (by decide)) rfl rfl (Nat.le_of_ble_eq_true rfl) dX8_init_15 (fun H locs hP hD hS => ?_)
  have hP : va_P D classes [(q101, .inr (8, [.ref q241, .int 0, .null, .int 0, .int 0, .null, .null, .null, .null, .null, .null])), (q241, .inl (a 0, 400, .inl (fun _ => 0)))] H := hP
  have hD : va_D A [(q101, .inr (8, [.ref q241, .int 0, .null, .int 0, .int 0, .null, .null, .null, .null, .null, .null])), (q241, .inl (a 0, 400, .inl (fun _ => 0)))] := hD
  refine lv_aload_n hx hb dX8_init_18 rfl (lv_at hl 0 rfl) ?_
  refine lv_bipush (v := 6) hx hb dX8_init_19 (by decide) ?_
  refine newQ hx hb hown (hts _ t_27) hK.2.2.1 hK 4 rfl hP hD hS hA (by decide) (N' := 6) (by decide) (by decide) (Nat.le_of_ble_eq_true rfl) (Nat.le_of_ble_eq_true rfl) dX8_init_21 (fun q242 H hP hD hS => ?_)
  have hP : va_P D classes [(q101, .inr (8, [.ref q241, .int 0, .null, .int 0, .int 0, .null, .null, .null, .null, .null, .null])), (q241, .inl (a 0, 400, .inl (fun _ => 0))), (q242, .inl (a 4, 6, .inr (.inr (.inr (.inr (fun _ => none))))))] H := hP
  have hD : va_D A [(q101, .inr (8, [.ref q241, .int 0, .null, .int 0, .int 0, .null, .null, .null, .null, .null, .null])), (q241, .inl (a 0, 400, .inl (fun _ => 0))), (q242, .inl (a 4, 6, .inr (.inr (.inr (.inr (fun _ => none))))))] := hD
  refine W.cs (cells' := 2) (slots' := 406) rfl rfl ?_
  refine va_putF (D := D) (v := .ref q242) (C := RX8) (T := TX8) (N := 11) hx hb hts iX8 tyX8 tyX8_ok nmX8 hown hK.1 hP hD hS 0 rfl rfl 2 (by decide) (hts _ t_302) (fun _ h9 => h9) rfl (hnm rfl) rfl (tyX8_ok 2 (by decide)) rfl rfl (Nat.le_of_ble_eq_true rfl) dX8_init_24 (fun H locs hP hD hS => ?_)
  have hP : va_P D classes [(q101, .inr (8, [.ref q241, .int 0, .ref q242, .int 0, .int 0, .null, .null, .null, .null, .null, .null])), (q241, .inl (a 0, 400, .inl (fun _ => 0))), (q242, .inl (a 4, 6, .inr (.inr (.inr (.inr (fun _ => none))))))] H := hP
  have hD : va_D A [(q101, .inr (8, [.ref q241, .int 0, .ref q242, .int 0, .int 0, .null, .null, .null, .null, .null, .null])), (q241, .inl (a 0, 400, .inl (fun _ => 0))), (q242, .inl (a 4, 6, .inr (.inr (.inr (.inr (fun _ => none))))))] := hD
  refine lv_aload_n hx hb dX8_init_27 rfl (lv_at hl 0 rfl) ?_
  refine lv_iconst (v := 0) hx hb dX8_init_28 (by decide) ?_
  refine va_put (D := D) (v := .int 0) (C := RX8) (T := TX8) (N := 11) hx hb hts iX8 tyX8 tyX8_ok nmX8 hown hK.1 hP hD hS 0 rfl rfl 3 (by decide) (hts _ t_303) (fun _ h9 => h9) rfl (tyX8_ok 3 (by decide)) rfl rfl (Nat.le_of_ble_eq_true rfl) dX8_init_29 (fun H locs hP hD hS => ?_)
  have hP : va_P D classes [(q101, .inr (8, [.ref q241, .int 0, .ref q242, .int 0, .int 0, .null, .null, .null, .null, .null, .null])), (q241, .inl (a 0, 400, .inl (fun _ => 0))), (q242, .inl (a 4, 6, .inr (.inr (.inr (.inr (fun _ => none))))))] H := hP
  have hD : va_D A [(q101, .inr (8, [.ref q241, .int 0, .ref q242, .int 0, .int 0, .null, .null, .null, .null, .null, .null])), (q241, .inl (a 0, 400, .inl (fun _ => 0))), (q242, .inl (a 4, 6, .inr (.inr (.inr (.inr (fun _ => none))))))] := hD
  refine lv_aload_n hx hb dX8_init_32 rfl (lv_at hl 0 rfl) ?_
  refine lv_iconst (v := 0) hx hb dX8_init_33 (by decide) ?_
  refine va_put (D := D) (v := .int 0) (C := RX8) (T := TX8) (N := 11) hx hb hts iX8 tyX8 tyX8_ok nmX8 hown hK.1 hP hD hS 0 rfl rfl 4 (by decide) (hts _ t_304) (fun _ h9 => h9) rfl (tyX8_ok 4 (by decide)) rfl rfl (Nat.le_of_ble_eq_true rfl) dX8_init_34 (fun H locs hP hD hS => ?_)
  have hP : va_P D classes [(q101, .inr (8, [.ref q241, .int 0, .ref q242, .int 0, .int 0, .null, .null, .null, .null, .null, .null])), (q241, .inl (a 0, 400, .inl (fun _ => 0))), (q242, .inl (a 4, 6, .inr (.inr (.inr (.inr (fun _ => none))))))] H := hP
  have hD : va_D A [(q101, .inr (8, [.ref q241, .int 0, .ref q242, .int 0, .int 0, .null, .null, .null, .null, .null, .null])), (q241, .inl (a 0, 400, .inl (fun _ => 0))), (q242, .inl (a 4, 6, .inr (.inr (.inr (.inr (fun _ => none))))))] := hD
  refine lv_aload_n hx hb dX8_init_37 rfl (lv_at hl 0 rfl) ?_
  refine va_new (ci := 5) (fs := [.null, .null, .int 0, .int 0, .int 0, .null, .int 0, .null]) (C := RX5) (T := TX5) (N := 8) hx hb hts iX5 tyX5 tyX5_ok hown (hts _ t_29) (hts _ t_30) (hts _ t_2) hK.1 hP hD hS hA rfl (dfX5) (Nat.le_of_ble_eq_true rfl) (Nat.le_of_ble_eq_true rfl) dX8_init_38 (fun q243 H hP hD hS => ?_)
  have hP : va_P D classes [(q101, .inr (8, [.ref q241, .int 0, .ref q242, .int 0, .int 0, .null, .null, .null, .null, .null, .null])), (q241, .inl (a 0, 400, .inl (fun _ => 0))), (q242, .inl (a 4, 6, .inr (.inr (.inr (.inr (fun _ => none)))))), (q243, .inr (5, [.null, .null, .int 0, .int 0, .int 0, .null, .int 0, .null]))] H := hP
  have hD : va_D A [(q101, .inr (8, [.ref q241, .int 0, .ref q242, .int 0, .int 0, .null, .null, .null, .null, .null, .null])), (q241, .inl (a 0, 400, .inl (fun _ => 0))), (q242, .inl (a 4, 6, .inr (.inr (.inr (.inr (fun _ => none)))))), (q243, .inr (5, [.null, .null, .int 0, .int 0, .int 0, .null, .int 0, .null]))] := hD
  refine W.cs (cells' := 3) (slots' := 414) rfl rfl ?_
  refine lv_dup hx hb dX8_init_41 rfl ?_
  refine va_new (ci := 7) (fs := [.int 0, .int 0, .int 0, .int 0, .int 0, .null, .null, .null, .null, .null, .null, .null, .null, .null, .null, .null, .null, .int 0]) (C := RX7) (T := TX7) (N := 18) hx hb hts iX7 tyX7 tyX7_ok hown (hts _ t_31) (hts _ t_32) (hts _ t_3) hK.1 hP hD hS hA rfl (dfX7) (Nat.le_of_ble_eq_true rfl) (Nat.le_of_ble_eq_true rfl) dX8_init_42 (fun q244 H hP hD hS => ?_)
  have hP : va_P D classes [(q101, .inr (8, [.ref q241, .int 0, .ref q242, .int 0, .int 0, .null, .null, .null, .null, .null, .null])), (q241, .inl (a 0, 400, .inl (fun _ => 0))), (q242, .inl (a 4, 6, .inr (.inr (.inr (.inr (fun _ => none)))))), (q243, .inr (5, [.null, .null, .int 0, .int 0, .int 0, .null, .int 0, .null])), (q244, .inr (7, [.int 0, .int 0, .int 0, .int 0, .int 0, .null, .null, .null, .null, .null, .null, .null, .null, .null, .null, .null, .null, .int 0]))] H := hP
  have hD : va_D A [(q101, .inr (8, [.ref q241, .int 0, .ref q242, .int 0, .int 0, .null, .null, .null, .null, .null, .null])), (q241, .inl (a 0, 400, .inl (fun _ => 0))), (q242, .inl (a 4, 6, .inr (.inr (.inr (.inr (fun _ => none)))))), (q243, .inr (5, [.null, .null, .int 0, .int 0, .int 0, .null, .int 0, .null])), (q244, .inr (7, [.int 0, .int 0, .int 0, .int 0, .int 0, .null, .null, .null, .null, .null, .null, .null, .null, .null, .null, .null, .null, .int 0]))] := hD
  refine W.cs (cells' := 4) (slots' := 432) rfl rfl ?_
  refine lv_dup hx hb dX8_init_45 rfl ?_
  refine lv_iconst (v := 0) hx hb dX8_init_46 (by decide) ?_
  refine afMv (runI (As := [.int 0]) (rest := [.ref q244, .ref q243, .ref q243, .ref q101]) C (c_X7_init_1 l D a q244 H.size) lk_I_8_33 (okN_X7_init) ⟨Nat.le_of_ble_eq_true rfl, Nat.le_of_ble_eq_true rfl⟩ ⟨rfl, rfl⟩ (preM hK (P_of_map (wc := [(q244, .inr (7, [.int 0, .int 0, .int 0, .int 0, .int 0, .null, .null, .null, .null, .null, .null, .null, .null, .null, .null, .null, .null, .int 0]))]) hP [4] rfl) (hD.sub (ws' := [(q244, .inr (7, [.int 0, .int 0, .int 0, .int 0, .int 0, .null, .null, .null, .null, .null, .null, .null, .null, .null, .null, .null, .null, .int 0]))]) [4] (by decide) rfl)) hl.1 rfl (Nat.le_of_ble_eq_true rfl) dX8_init_47 ⟨Nat.le_of_ble_eq_true rfl, Nat.le_of_ble_eq_true rfl⟩) hP hD hS hA [4] [0, 1, 2, 3] (wr := [(q101, .inr (8, [.ref q241, .int 0, .ref q242, .int 0, .int 0, .null, .null, .null, .null, .null, .null])), (q241, .inl (a 0, 400, .inl (fun _ => 0))), (q242, .inl (a 4, 6, .inr (.inr (.inr (.inr (fun _ => none)))))), (q243, .inr (5, [.null, .null, .int 0, .int 0, .int 0, .null, .int 0, .null]))]) rfl rfl (by decide) (by decide) (fun u H locs hw hP hD hS => ?_)
  obtain ⟨q272, q273, q274, q275, q276, q277, q278, q279, q280, q281, q282, q283, rfl⟩ := hw
  have hP : va_P D classes [(q101, .inr (8, [.ref q241, .int 0, .ref q242, .int 0, .int 0, .null, .null, .null, .null, .null, .null])), (q241, .inl (a 0, 400, .inl (fun _ => 0))), (q242, .inl (a 4, 6, .inr (.inr (.inr (.inr (fun _ => none)))))), (q243, .inr (5, [.null, .null, .int 0, .int 0, .int 0, .null, .int 0, .null])), (q244, .inr (7, [.int 0, .int 0, .int 0, .int 0, .int 0, .ref q272, .ref q273, .ref q274, .ref q275, .ref q276, .ref q277, .ref q278, .ref q279, .ref q280, .ref q281, .ref q282, .ref q283, .int 0])), (q272, .inl (a 0, 6, .inl (fun _ => 0))), (q273, .inl (a 0, 6, .inl (fun _ => 0))), (q274, .inl (a 0, 6, .inl (fun _ => 0))), (q275, .inl (a 0, 10, .inl (fun _ => 0))), (q276, .inl (a 0, 10, .inl (fun _ => 0))), (q277, .inl (a 0, 10, .inl (fun _ => 0))), (q278, .inl (a 0, 10, .inl (fun _ => 0))), (q279, .inl (a 0, 10, .inl (fun _ => 0))), (q280, .inl (a 0, 10, .inl (fun _ => 0))), (q281, .inl (a 0, 10, .inl (fun _ => 0))), (q282, .inl (a 0, 10, .inl (fun _ => 0))), (q283, .inl (a 0, 10, .inl (fun _ => 0)))] H := hP
  have hD : va_D A [(q101, .inr (8, [.ref q241, .int 0, .ref q242, .int 0, .int 0, .null, .null, .null, .null, .null, .null])), (q241, .inl (a 0, 400, .inl (fun _ => 0))), (q242, .inl (a 4, 6, .inr (.inr (.inr (.inr (fun _ => none)))))), (q243, .inr (5, [.null, .null, .int 0, .int 0, .int 0, .null, .int 0, .null])), (q244, .inr (7, [.int 0, .int 0, .int 0, .int 0, .int 0, .ref q272, .ref q273, .ref q274, .ref q275, .ref q276, .ref q277, .ref q278, .ref q279, .ref q280, .ref q281, .ref q282, .ref q283, .int 0])), (q272, .inl (a 0, 6, .inl (fun _ => 0))), (q273, .inl (a 0, 6, .inl (fun _ => 0))), (q274, .inl (a 0, 6, .inl (fun _ => 0))), (q275, .inl (a 0, 10, .inl (fun _ => 0))), (q276, .inl (a 0, 10, .inl (fun _ => 0))), (q277, .inl (a 0, 10, .inl (fun _ => 0))), (q278, .inl (a 0, 10, .inl (fun _ => 0))), (q279, .inl (a 0, 10, .inl (fun _ => 0))), (q280, .inl (a 0, 10, .inl (fun _ => 0))), (q281, .inl (a 0, 10, .inl (fun _ => 0))), (q282, .inl (a 0, 10, .inl (fun _ => 0))), (q283, .inl (a 0, 10, .inl (fun _ => 0)))] := hD
  refine W.cs (cells' := 16) (slots' := 540) rfl rfl ?_
  refine afMv (runI (As := [.ref q244]) (rest := [.ref q243, .ref q101]) C (c_X5_init_1 l D a q243 q244 H.size) lk_I_8_36 (okN_X5_init) ⟨Nat.le_of_ble_eq_true rfl, Nat.le_of_ble_eq_true rfl⟩ ⟨rfl, rfl⟩ (preM hK (P_of_map (wc := [(q243, .inr (5, [.null, .null, .int 0, .int 0, .int 0, .null, .int 0, .null]))]) hP [3] rfl) (hD.sub (ws' := [(q243, .inr (5, [.null, .null, .int 0, .int 0, .int 0, .null, .int 0, .null]))]) [3] (by decide) rfl)) hl.1 rfl (Nat.le_of_ble_eq_true rfl) dX8_init_50 ⟨Nat.le_of_ble_eq_true rfl, Nat.le_of_ble_eq_true rfl⟩) hP hD hS hA [3] [0, 1, 2, 4, 5, 6, 7, 8, 9, 10, 11, 12, 13, 14, 15, 16] (wr := [(q101, .inr (8, [.ref q241, .int 0, .ref q242, .int 0, .int 0, .null, .null, .null, .null, .null, .null])), (q241, .inl (a 0, 400, .inl (fun _ => 0))), (q242, .inl (a 4, 6, .inr (.inr (.inr (.inr (fun _ => none)))))), (q244, .inr (7, [.int 0, .int 0, .int 0, .int 0, .int 0, .ref q272, .ref q273, .ref q274, .ref q275, .ref q276, .ref q277, .ref q278, .ref q279, .ref q280, .ref q281, .ref q282, .ref q283, .int 0])), (q272, .inl (a 0, 6, .inl (fun _ => 0))), (q273, .inl (a 0, 6, .inl (fun _ => 0))), (q274, .inl (a 0, 6, .inl (fun _ => 0))), (q275, .inl (a 0, 10, .inl (fun _ => 0))), (q276, .inl (a 0, 10, .inl (fun _ => 0))), (q277, .inl (a 0, 10, .inl (fun _ => 0))), (q278, .inl (a 0, 10, .inl (fun _ => 0))), (q279, .inl (a 0, 10, .inl (fun _ => 0))), (q280, .inl (a 0, 10, .inl (fun _ => 0))), (q281, .inl (a 0, 10, .inl (fun _ => 0))), (q282, .inl (a 0, 10, .inl (fun _ => 0))), (q283, .inl (a 0, 10, .inl (fun _ => 0)))]) rfl rfl (by decide) (by decide) (fun u H locs hw hP hD hS => ?_)
  obtain ⟨q305, q306, q307, q308, rfl⟩ := hw
  have hP : va_P D classes [(q101, .inr (8, [.ref q241, .int 0, .ref q242, .int 0, .int 0, .null, .null, .null, .null, .null, .null])), (q241, .inl (a 0, 400, .inl (fun _ => 0))), (q242, .inl (a 4, 6, .inr (.inr (.inr (.inr (fun _ => none)))))), (q244, .inr (7, [.int 0, .int 0, .int 0, .int 0, .int 0, .ref q272, .ref q273, .ref q274, .ref q275, .ref q276, .ref q277, .ref q278, .ref q279, .ref q280, .ref q281, .ref q282, .ref q283, .int 0])), (q272, .inl (a 0, 6, .inl (fun _ => 0))), (q273, .inl (a 0, 6, .inl (fun _ => 0))), (q274, .inl (a 0, 6, .inl (fun _ => 0))), (q275, .inl (a 0, 10, .inl (fun _ => 0))), (q276, .inl (a 0, 10, .inl (fun _ => 0))), (q277, .inl (a 0, 10, .inl (fun _ => 0))), (q278, .inl (a 0, 10, .inl (fun _ => 0))), (q279, .inl (a 0, 10, .inl (fun _ => 0))), (q280, .inl (a 0, 10, .inl (fun _ => 0))), (q281, .inl (a 0, 10, .inl (fun _ => 0))), (q282, .inl (a 0, 10, .inl (fun _ => 0))), (q283, .inl (a 0, 10, .inl (fun _ => 0))), (q243, .inr (5, [.ref q244, .ref q305, .int 0, .int 0, .int 0, .ref q306, .int 0, .ref q307])), (q305, .inr (0, [.int 0, .int 0, .int 0, .int 0, .int 0, .ref q308])), (q308, .inl (a 0, 10, .inl (fun _ => 0))), (q306, .inl (a 0, 8, .inl (fun _ => 0))), (q307, .inl (a 0, 8, .inl (fun _ => 0)))] H := hP
  have hD : va_D A [(q101, .inr (8, [.ref q241, .int 0, .ref q242, .int 0, .int 0, .null, .null, .null, .null, .null, .null])), (q241, .inl (a 0, 400, .inl (fun _ => 0))), (q242, .inl (a 4, 6, .inr (.inr (.inr (.inr (fun _ => none)))))), (q244, .inr (7, [.int 0, .int 0, .int 0, .int 0, .int 0, .ref q272, .ref q273, .ref q274, .ref q275, .ref q276, .ref q277, .ref q278, .ref q279, .ref q280, .ref q281, .ref q282, .ref q283, .int 0])), (q272, .inl (a 0, 6, .inl (fun _ => 0))), (q273, .inl (a 0, 6, .inl (fun _ => 0))), (q274, .inl (a 0, 6, .inl (fun _ => 0))), (q275, .inl (a 0, 10, .inl (fun _ => 0))), (q276, .inl (a 0, 10, .inl (fun _ => 0))), (q277, .inl (a 0, 10, .inl (fun _ => 0))), (q278, .inl (a 0, 10, .inl (fun _ => 0))), (q279, .inl (a 0, 10, .inl (fun _ => 0))), (q280, .inl (a 0, 10, .inl (fun _ => 0))), (q281, .inl (a 0, 10, .inl (fun _ => 0))), (q282, .inl (a 0, 10, .inl (fun _ => 0))), (q283, .inl (a 0, 10, .inl (fun _ => 0))), (q243, .inr (5, [.ref q244, .ref q305, .int 0, .int 0, .int 0, .ref q306, .int 0, .ref q307])), (q305, .inr (0, [.int 0, .int 0, .int 0, .int 0, .int 0, .ref q308])), (q308, .inl (a 0, 10, .inl (fun _ => 0))), (q306, .inl (a 0, 8, .inl (fun _ => 0))), (q307, .inl (a 0, 8, .inl (fun _ => 0)))] := hD
  refine W.cs (cells' := 20) (slots' := 572) rfl rfl ?_
  refine va_putF (D := D) (v := .ref q243) (C := RX8) (T := TX8) (N := 11) hx hb hts iX8 tyX8 tyX8_ok nmX8 hown hK.1 hP hD hS 0 rfl rfl 5 (by decide) (hts _ t_305) (fun _ h9 => h9) rfl (hnm rfl) rfl (tyX8_ok 5 (by decide)) rfl rfl (Nat.le_of_ble_eq_true rfl) dX8_init_53 (fun H locs hP hD hS => ?_)
  have hP : va_P D classes [(q101, .inr (8, [.ref q241, .int 0, .ref q242, .int 0, .int 0, .ref q243, .null, .null, .null, .null, .null])), (q241, .inl (a 0, 400, .inl (fun _ => 0))), (q242, .inl (a 4, 6, .inr (.inr (.inr (.inr (fun _ => none)))))), (q244, .inr (7, [.int 0, .int 0, .int 0, .int 0, .int 0, .ref q272, .ref q273, .ref q274, .ref q275, .ref q276, .ref q277, .ref q278, .ref q279, .ref q280, .ref q281, .ref q282, .ref q283, .int 0])), (q272, .inl (a 0, 6, .inl (fun _ => 0))), (q273, .inl (a 0, 6, .inl (fun _ => 0))), (q274, .inl (a 0, 6, .inl (fun _ => 0))), (q275, .inl (a 0, 10, .inl (fun _ => 0))), (q276, .inl (a 0, 10, .inl (fun _ => 0))), (q277, .inl (a 0, 10, .inl (fun _ => 0))), (q278, .inl (a 0, 10, .inl (fun _ => 0))), (q279, .inl (a 0, 10, .inl (fun _ => 0))), (q280, .inl (a 0, 10, .inl (fun _ => 0))), (q281, .inl (a 0, 10, .inl (fun _ => 0))), (q282, .inl (a 0, 10, .inl (fun _ => 0))), (q283, .inl (a 0, 10, .inl (fun _ => 0))), (q243, .inr (5, [.ref q244, .ref q305, .int 0, .int 0, .int 0, .ref q306, .int 0, .ref q307])), (q305, .inr (0, [.int 0, .int 0, .int 0, .int 0, .int 0, .ref q308])), (q308, .inl (a 0, 10, .inl (fun _ => 0))), (q306, .inl (a 0, 8, .inl (fun _ => 0))), (q307, .inl (a 0, 8, .inl (fun _ => 0)))] H := hP
  have hD : va_D A [(q101, .inr (8, [.ref q241, .int 0, .ref q242, .int 0, .int 0, .ref q243, .null, .null, .null, .null, .null])), (q241, .inl (a 0, 400, .inl (fun _ => 0))), (q242, .inl (a 4, 6, .inr (.inr (.inr (.inr (fun _ => none)))))), (q244, .inr (7, [.int 0, .int 0, .int 0, .int 0, .int 0, .ref q272, .ref q273, .ref q274, .ref q275, .ref q276, .ref q277, .ref q278, .ref q279, .ref q280, .ref q281, .ref q282, .ref q283, .int 0])), (q272, .inl (a 0, 6, .inl (fun _ => 0))), (q273, .inl (a 0, 6, .inl (fun _ => 0))), (q274, .inl (a 0, 6, .inl (fun _ => 0))), (q275, .inl (a 0, 10, .inl (fun _ => 0))), (q276, .inl (a 0, 10, .inl (fun _ => 0))), (q277, .inl (a 0, 10, .inl (fun _ => 0))), (q278, .inl (a 0, 10, .inl (fun _ => 0))), (q279, .inl (a 0, 10, .inl (fun _ => 0))), (q280, .inl (a 0, 10, .inl (fun _ => 0))), (q281, .inl (a 0, 10, .inl (fun _ => 0))), (q282, .inl (a 0, 10, .inl (fun _ => 0))), (q283, .inl (a 0, 10, .inl (fun _ => 0))), (q243, .inr (5, [.ref q244, .ref q305, .int 0, .int 0, .int 0, .ref q306, .int 0, .ref q307])), (q305, .inr (0, [.int 0, .int 0, .int 0, .int 0, .int 0, .ref q308])), (q308, .inl (a 0, 10, .inl (fun _ => 0))), (q306, .inl (a 0, 8, .inl (fun _ => 0))), (q307, .inl (a 0, 8, .inl (fun _ => 0)))] := hD
  refine lv_aload_n hx hb dX8_init_56 rfl (lv_at hl 0 rfl) ?_
  refine lv_iconst (v := 4) hx hb dX8_init_57 (by decide) ?_
  refine newQ hx hb hown (hts _ t_29) hK.2.2.2 hK 5 rfl hP hD hS hA (by decide) (N' := 4) (by decide) (by decide) (Nat.le_of_ble_eq_true rfl) (Nat.le_of_ble_eq_true rfl) dX8_init_58 (fun q309 H hP hD hS => ?_)
  have hP : va_P D classes [(q101, .inr (8, [.ref q241, .int 0, .ref q242, .int 0, .int 0, .ref q243, .null, .null, .null, .null, .null])), (q241, .inl (a 0, 400, .inl (fun _ => 0))), (q242, .inl (a 4, 6, .inr (.inr (.inr (.inr (fun _ => none)))))), (q244, .inr (7, [.int 0, .int 0, .int 0, .int 0, .int 0, .ref q272, .ref q273, .ref q274, .ref q275, .ref q276, .ref q277, .ref q278, .ref q279, .ref q280, .ref q281, .ref q282, .ref q283, .int 0])), (q272, .inl (a 0, 6, .inl (fun _ => 0))), (q273, .inl (a 0, 6, .inl (fun _ => 0))), (q274, .inl (a 0, 6, .inl (fun _ => 0))), (q275, .inl (a 0, 10, .inl (fun _ => 0))), (q276, .inl (a 0, 10, .inl (fun _ => 0))), (q277, .inl (a 0, 10, .inl (fun _ => 0))), (q278, .inl (a 0, 10, .inl (fun _ => 0))), (q279, .inl (a 0, 10, .inl (fun _ => 0))), (q280, .inl (a 0, 10, .inl (fun _ => 0))), (q281, .inl (a 0, 10, .inl (fun _ => 0))), (q282, .inl (a 0, 10, .inl (fun _ => 0))), (q283, .inl (a 0, 10, .inl (fun _ => 0))), (q243, .inr (5, [.ref q244, .ref q305, .int 0, .int 0, .int 0, .ref q306, .int 0, .ref q307])), (q305, .inr (0, [.int 0, .int 0, .int 0, .int 0, .int 0, .ref q308])), (q308, .inl (a 0, 10, .inl (fun _ => 0))), (q306, .inl (a 0, 8, .inl (fun _ => 0))), (q307, .inl (a 0, 8, .inl (fun _ => 0))), (q309, .inl (a 5, 4, .inr (.inr (.inr (.inr (fun _ => none))))))] H := hP
  have hD : va_D A [(q101, .inr (8, [.ref q241, .int 0, .ref q242, .int 0, .int 0, .ref q243, .null, .null, .null, .null, .null])), (q241, .inl (a 0, 400, .inl (fun _ => 0))), (q242, .inl (a 4, 6, .inr (.inr (.inr (.inr (fun _ => none)))))), (q244, .inr (7, [.int 0, .int 0, .int 0, .int 0, .int 0, .ref q272, .ref q273, .ref q274, .ref q275, .ref q276, .ref q277, .ref q278, .ref q279, .ref q280, .ref q281, .ref q282, .ref q283, .int 0])), (q272, .inl (a 0, 6, .inl (fun _ => 0))), (q273, .inl (a 0, 6, .inl (fun _ => 0))), (q274, .inl (a 0, 6, .inl (fun _ => 0))), (q275, .inl (a 0, 10, .inl (fun _ => 0))), (q276, .inl (a 0, 10, .inl (fun _ => 0))), (q277, .inl (a 0, 10, .inl (fun _ => 0))), (q278, .inl (a 0, 10, .inl (fun _ => 0))), (q279, .inl (a 0, 10, .inl (fun _ => 0))), (q280, .inl (a 0, 10, .inl (fun _ => 0))), (q281, .inl (a 0, 10, .inl (fun _ => 0))), (q282, .inl (a 0, 10, .inl (fun _ => 0))), (q283, .inl (a 0, 10, .inl (fun _ => 0))), (q243, .inr (5, [.ref q244, .ref q305, .int 0, .int 0, .int 0, .ref q306, .int 0, .ref q307])), (q305, .inr (0, [.int 0, .int 0, .int 0, .int 0, .int 0, .ref q308])), (q308, .inl (a 0, 10, .inl (fun _ => 0))), (q306, .inl (a 0, 8, .inl (fun _ => 0))), (q307, .inl (a 0, 8, .inl (fun _ => 0))), (q309, .inl (a 5, 4, .inr (.inr (.inr (.inr (fun _ => none))))))] := hD
  refine W.cs (cells' := 21) (slots' := 576) rfl rfl ?_
  refine va_putF (D := D) (v := .ref q309) (C := RX8) (T := TX8) (N := 11) hx hb hts iX8 tyX8 tyX8_ok nmX8 hown hK.1 hP hD hS 0 rfl rfl 6 (by decide) (hts _ t_306) (fun _ h9 => h9) rfl (hnm rfl) rfl (tyX8_ok 6 (by decide)) rfl rfl (Nat.le_of_ble_eq_true rfl) dX8_init_61 (fun H locs hP hD hS => ?_)
  have hP : va_P D classes [(q101, .inr (8, [.ref q241, .int 0, .ref q242, .int 0, .int 0, .ref q243, .ref q309, .null, .null, .null, .null])), (q241, .inl (a 0, 400, .inl (fun _ => 0))), (q242, .inl (a 4, 6, .inr (.inr (.inr (.inr (fun _ => none)))))), (q244, .inr (7, [.int 0, .int 0, .int 0, .int 0, .int 0, .ref q272, .ref q273, .ref q274, .ref q275, .ref q276, .ref q277, .ref q278, .ref q279, .ref q280, .ref q281, .ref q282, .ref q283, .int 0])), (q272, .inl (a 0, 6, .inl (fun _ => 0))), (q273, .inl (a 0, 6, .inl (fun _ => 0))), (q274, .inl (a 0, 6, .inl (fun _ => 0))), (q275, .inl (a 0, 10, .inl (fun _ => 0))), (q276, .inl (a 0, 10, .inl (fun _ => 0))), (q277, .inl (a 0, 10, .inl (fun _ => 0))), (q278, .inl (a 0, 10, .inl (fun _ => 0))), (q279, .inl (a 0, 10, .inl (fun _ => 0))), (q280, .inl (a 0, 10, .inl (fun _ => 0))), (q281, .inl (a 0, 10, .inl (fun _ => 0))), (q282, .inl (a 0, 10, .inl (fun _ => 0))), (q283, .inl (a 0, 10, .inl (fun _ => 0))), (q243, .inr (5, [.ref q244, .ref q305, .int 0, .int 0, .int 0, .ref q306, .int 0, .ref q307])), (q305, .inr (0, [.int 0, .int 0, .int 0, .int 0, .int 0, .ref q308])), (q308, .inl (a 0, 10, .inl (fun _ => 0))), (q306, .inl (a 0, 8, .inl (fun _ => 0))), (q307, .inl (a 0, 8, .inl (fun _ => 0))), (q309, .inl (a 5, 4, .inr (.inr (.inr (.inr (fun _ => none))))))] H := hP
  have hD : va_D A [(q101, .inr (8, [.ref q241, .int 0, .ref q242, .int 0, .int 0, .ref q243, .ref q309, .null, .null, .null, .null])), (q241, .inl (a 0, 400, .inl (fun _ => 0))), (q242, .inl (a 4, 6, .inr (.inr (.inr (.inr (fun _ => none)))))), (q244, .inr (7, [.int 0, .int 0, .int 0, .int 0, .int 0, .ref q272, .ref q273, .ref q274, .ref q275, .ref q276, .ref q277, .ref q278, .ref q279, .ref q280, .ref q281, .ref q282, .ref q283, .int 0])), (q272, .inl (a 0, 6, .inl (fun _ => 0))), (q273, .inl (a 0, 6, .inl (fun _ => 0))), (q274, .inl (a 0, 6, .inl (fun _ => 0))), (q275, .inl (a 0, 10, .inl (fun _ => 0))), (q276, .inl (a 0, 10, .inl (fun _ => 0))), (q277, .inl (a 0, 10, .inl (fun _ => 0))), (q278, .inl (a 0, 10, .inl (fun _ => 0))), (q279, .inl (a 0, 10, .inl (fun _ => 0))), (q280, .inl (a 0, 10, .inl (fun _ => 0))), (q281, .inl (a 0, 10, .inl (fun _ => 0))), (q282, .inl (a 0, 10, .inl (fun _ => 0))), (q283, .inl (a 0, 10, .inl (fun _ => 0))), (q243, .inr (5, [.ref q244, .ref q305, .int 0, .int 0, .int 0, .ref q306, .int 0, .ref q307])), (q305, .inr (0, [.int 0, .int 0, .int 0, .int 0, .int 0, .ref q308])), (q308, .inl (a 0, 10, .inl (fun _ => 0))), (q306, .inl (a 0, 8, .inl (fun _ => 0))), (q307, .inl (a 0, 8, .inl (fun _ => 0))), (q309, .inl (a 5, 4, .inr (.inr (.inr (.inr (fun _ => none))))))] := hD
  refine lv_aload_n hx hb dX8_init_64 rfl (lv_at hl 0 rfl) ?_
  refine va_new (ci := 0) (fs := [.int 0, .int 0, .int 0, .int 0, .int 0, .null]) (C := RX0) (T := TX0) (N := 6) hx hb hts iX0 tyX0 tyX0_ok hown (hts _ t_194) (hts _ t_125) (hts _ t_4) hK.1 hP hD hS hA rfl (dfX0) (Nat.le_of_ble_eq_true rfl) (Nat.le_of_ble_eq_true rfl) dX8_init_65 (fun q310 H hP hD hS => ?_)
  have hP : va_P D classes [(q101, .inr (8, [.ref q241, .int 0, .ref q242, .int 0, .int 0, .ref q243, .ref q309, .null, .null, .null, .null])), (q241, .inl (a 0, 400, .inl (fun _ => 0))), (q242, .inl (a 4, 6, .inr (.inr (.inr (.inr (fun _ => none)))))), (q244, .inr (7, [.int 0, .int 0, .int 0, .int 0, .int 0, .ref q272, .ref q273, .ref q274, .ref q275, .ref q276, .ref q277, .ref q278, .ref q279, .ref q280, .ref q281, .ref q282, .ref q283, .int 0])), (q272, .inl (a 0, 6, .inl (fun _ => 0))), (q273, .inl (a 0, 6, .inl (fun _ => 0))), (q274, .inl (a 0, 6, .inl (fun _ => 0))), (q275, .inl (a 0, 10, .inl (fun _ => 0))), (q276, .inl (a 0, 10, .inl (fun _ => 0))), (q277, .inl (a 0, 10, .inl (fun _ => 0))), (q278, .inl (a 0, 10, .inl (fun _ => 0))), (q279, .inl (a 0, 10, .inl (fun _ => 0))), (q280, .inl (a 0, 10, .inl (fun _ => 0))), (q281, .inl (a 0, 10, .inl (fun _ => 0))), (q282, .inl (a 0, 10, .inl (fun _ => 0))), (q283, .inl (a 0, 10, .inl (fun _ => 0))), (q243, .inr (5, [.ref q244, .ref q305, .int 0, .int 0, .int 0, .ref q306, .int 0, .ref q307])), (q305, .inr (0, [.int 0, .int 0, .int 0, .int 0, .int 0, .ref q308])), (q308, .inl (a 0, 10, .inl (fun _ => 0))), (q306, .inl (a 0, 8, .inl (fun _ => 0))), (q307, .inl (a 0, 8, .inl (fun _ => 0))), (q309, .inl (a 5, 4, .inr (.inr (.inr (.inr (fun _ => none)))))), (q310, .inr (0, [.int 0, .int 0, .int 0, .int 0, .int 0, .null]))] H := hP
  have hD : va_D A [(q101, .inr (8, [.ref q241, .int 0, .ref q242, .int 0, .int 0, .ref q243, .ref q309, .null, .null, .null, .null])), (q241, .inl (a 0, 400, .inl (fun _ => 0))), (q242, .inl (a 4, 6, .inr (.inr (.inr (.inr (fun _ => none)))))), (q244, .inr (7, [.int 0, .int 0, .int 0, .int 0, .int 0, .ref q272, .ref q273, .ref q274, .ref q275, .ref q276, .ref q277, .ref q278, .ref q279, .ref q280, .ref q281, .ref q282, .ref q283, .int 0])), (q272, .inl (a 0, 6, .inl (fun _ => 0))), (q273, .inl (a 0, 6, .inl (fun _ => 0))), (q274, .inl (a 0, 6, .inl (fun _ => 0))), (q275, .inl (a 0, 10, .inl (fun _ => 0))), (q276, .inl (a 0, 10, .inl (fun _ => 0))), (q277, .inl (a 0, 10, .inl (fun _ => 0))), (q278, .inl (a 0, 10, .inl (fun _ => 0))), (q279, .inl (a 0, 10, .inl (fun _ => 0))), (q280, .inl (a 0, 10, .inl (fun _ => 0))), (q281, .inl (a 0, 10, .inl (fun _ => 0))), (q282, .inl (a 0, 10, .inl (fun _ => 0))), (q283, .inl (a 0, 10, .inl (fun _ => 0))), (q243, .inr (5, [.ref q244, .ref q305, .int 0, .int 0, .int 0, .ref q306, .int 0, .ref q307])), (q305, .inr (0, [.int 0, .int 0, .int 0, .int 0, .int 0, .ref q308])), (q308, .inl (a 0, 10, .inl (fun _ => 0))), (q306, .inl (a 0, 8, .inl (fun _ => 0))), (q307, .inl (a 0, 8, .inl (fun _ => 0))), (q309, .inl (a 5, 4, .inr (.inr (.inr (.inr (fun _ => none)))))), (q310, .inr (0, [.int 0, .int 0, .int 0, .int 0, .int 0, .null]))] := hD
  refine W.cs (cells' := 22) (slots' := 582) rfl rfl ?_
  refine lv_dup hx hb dX8_init_68 rfl ?_
  refine afMv (runI (As := []) (rest := [.ref q310, .ref q101]) C (c_X0_init_5 l D a q310 H.size) lk_I_8_49 (okN_X0_init) ⟨Nat.le_of_ble_eq_true rfl, Nat.le_of_ble_eq_true rfl⟩ ⟨rfl, rfl⟩ (preM hK (P_of_map (wc := [(q310, .inr (0, [.int 0, .int 0, .int 0, .int 0, .int 0, .null]))]) hP [22] rfl) (hD.sub (ws' := [(q310, .inr (0, [.int 0, .int 0, .int 0, .int 0, .int 0, .null]))]) [22] (by decide) rfl)) hl.1 rfl (Nat.le_of_ble_eq_true rfl) dX8_init_69 ⟨Nat.le_of_ble_eq_true rfl, Nat.le_of_ble_eq_true rfl⟩) hP hD hS hA [22] [0, 1, 2, 3, 4, 5, 6, 7, 8, 9, 10, 11, 12, 13, 14, 15, 16, 17, 18, 19, 20, 21] (wr := [(q101, .inr (8, [.ref q241, .int 0, .ref q242, .int 0, .int 0, .ref q243, .ref q309, .null, .null, .null, .null])), (q241, .inl (a 0, 400, .inl (fun _ => 0))), (q242, .inl (a 4, 6, .inr (.inr (.inr (.inr (fun _ => none)))))), (q244, .inr (7, [.int 0, .int 0, .int 0, .int 0, .int 0, .ref q272, .ref q273, .ref q274, .ref q275, .ref q276, .ref q277, .ref q278, .ref q279, .ref q280, .ref q281, .ref q282, .ref q283, .int 0])), (q272, .inl (a 0, 6, .inl (fun _ => 0))), (q273, .inl (a 0, 6, .inl (fun _ => 0))), (q274, .inl (a 0, 6, .inl (fun _ => 0))), (q275, .inl (a 0, 10, .inl (fun _ => 0))), (q276, .inl (a 0, 10, .inl (fun _ => 0))), (q277, .inl (a 0, 10, .inl (fun _ => 0))), (q278, .inl (a 0, 10, .inl (fun _ => 0))), (q279, .inl (a 0, 10, .inl (fun _ => 0))), (q280, .inl (a 0, 10, .inl (fun _ => 0))), (q281, .inl (a 0, 10, .inl (fun _ => 0))), (q282, .inl (a 0, 10, .inl (fun _ => 0))), (q283, .inl (a 0, 10, .inl (fun _ => 0))), (q243, .inr (5, [.ref q244, .ref q305, .int 0, .int 0, .int 0, .ref q306, .int 0, .ref q307])), (q305, .inr (0, [.int 0, .int 0, .int 0, .int 0, .int 0, .ref q308])), (q308, .inl (a 0, 10, .inl (fun _ => 0))), (q306, .inl (a 0, 8, .inl (fun _ => 0))), (q307, .inl (a 0, 8, .inl (fun _ => 0))), (q309, .inl (a 5, 4, .inr (.inr (.inr (.inr (fun _ => none))))))]) rfl rfl (by decide) (by decide) (fun u H locs hw hP hD hS => ?_)
  obtain ⟨q316, rfl⟩ := hw
  have hP : va_P D classes [(q101, .inr (8, [.ref q241, .int 0, .ref q242, .int 0, .int 0, .ref q243, .ref q309, .null, .null, .null, .null])), (q241, .inl (a 0, 400, .inl (fun _ => 0))), (q242, .inl (a 4, 6, .inr (.inr (.inr (.inr (fun _ => none)))))), (q244, .inr (7, [.int 0, .int 0, .int 0, .int 0, .int 0, .ref q272, .ref q273, .ref q274, .ref q275, .ref q276, .ref q277, .ref q278, .ref q279, .ref q280, .ref q281, .ref q282, .ref q283, .int 0])), (q272, .inl (a 0, 6, .inl (fun _ => 0))), (q273, .inl (a 0, 6, .inl (fun _ => 0))), (q274, .inl (a 0, 6, .inl (fun _ => 0))), (q275, .inl (a 0, 10, .inl (fun _ => 0))), (q276, .inl (a 0, 10, .inl (fun _ => 0))), (q277, .inl (a 0, 10, .inl (fun _ => 0))), (q278, .inl (a 0, 10, .inl (fun _ => 0))), (q279, .inl (a 0, 10, .inl (fun _ => 0))), (q280, .inl (a 0, 10, .inl (fun _ => 0))), (q281, .inl (a 0, 10, .inl (fun _ => 0))), (q282, .inl (a 0, 10, .inl (fun _ => 0))), (q283, .inl (a 0, 10, .inl (fun _ => 0))), (q243, .inr (5, [.ref q244, .ref q305, .int 0, .int 0, .int 0, .ref q306, .int 0, .ref q307])), (q305, .inr (0, [.int 0, .int 0, .int 0, .int 0, .int 0, .ref q308])), (q308, .inl (a 0, 10, .inl (fun _ => 0))), (q306, .inl (a 0, 8, .inl (fun _ => 0))), (q307, .inl (a 0, 8, .inl (fun _ => 0))), (q309, .inl (a 5, 4, .inr (.inr (.inr (.inr (fun _ => none)))))), (q310, .inr (0, [.int 0, .int 0, .int 0, .int 0, .int 0, .ref q316])), (q316, .inl (a 0, 10, .inl (fun _ => 0)))] H := hP
  have hD : va_D A [(q101, .inr (8, [.ref q241, .int 0, .ref q242, .int 0, .int 0, .ref q243, .ref q309, .null, .null, .null, .null])), (q241, .inl (a 0, 400, .inl (fun _ => 0))), (q242, .inl (a 4, 6, .inr (.inr (.inr (.inr (fun _ => none)))))), (q244, .inr (7, [.int 0, .int 0, .int 0, .int 0, .int 0, .ref q272, .ref q273, .ref q274, .ref q275, .ref q276, .ref q277, .ref q278, .ref q279, .ref q280, .ref q281, .ref q282, .ref q283, .int 0])), (q272, .inl (a 0, 6, .inl (fun _ => 0))), (q273, .inl (a 0, 6, .inl (fun _ => 0))), (q274, .inl (a 0, 6, .inl (fun _ => 0))), (q275, .inl (a 0, 10, .inl (fun _ => 0))), (q276, .inl (a 0, 10, .inl (fun _ => 0))), (q277, .inl (a 0, 10, .inl (fun _ => 0))), (q278, .inl (a 0, 10, .inl (fun _ => 0))), (q279, .inl (a 0, 10, .inl (fun _ => 0))), (q280, .inl (a 0, 10, .inl (fun _ => 0))), (q281, .inl (a 0, 10, .inl (fun _ => 0))), (q282, .inl (a 0, 10, .inl (fun _ => 0))), (q283, .inl (a 0, 10, .inl (fun _ => 0))), (q243, .inr (5, [.ref q244, .ref q305, .int 0, .int 0, .int 0, .ref q306, .int 0, .ref q307])), (q305, .inr (0, [.int 0, .int 0, .int 0, .int 0, .int 0, .ref q308])), (q308, .inl (a 0, 10, .inl (fun _ => 0))), (q306, .inl (a 0, 8, .inl (fun _ => 0))), (q307, .inl (a 0, 8, .inl (fun _ => 0))), (q309, .inl (a 5, 4, .inr (.inr (.inr (.inr (fun _ => none)))))), (q310, .inr (0, [.int 0, .int 0, .int 0, .int 0, .int 0, .ref q316])), (q316, .inl (a 0, 10, .inl (fun _ => 0)))] := hD
  refine W.cs (cells' := 23) (slots' := 592) rfl rfl ?_
  refine va_putF (D := D) (v := .ref q310) (C := RX8) (T := TX8) (N := 11) hx hb hts iX8 tyX8 tyX8_ok nmX8 hown hK.1 hP hD hS 0 rfl rfl 7 (by decide) (hts _ t_307) (fun _ h9 => h9) rfl (hnm rfl) rfl (tyX8_ok 7 (by decide)) rfl rfl (Nat.le_of_ble_eq_true rfl) dX8_init_72 (fun H locs hP hD hS => ?_)
  have hP : va_P D classes [(q101, .inr (8, [.ref q241, .int 0, .ref q242, .int 0, .int 0, .ref q243, .ref q309, .ref q310, .null, .null, .null])), (q241, .inl (a 0, 400, .inl (fun _ => 0))), (q242, .inl (a 4, 6, .inr (.inr (.inr (.inr (fun _ => none)))))), (q244, .inr (7, [.int 0, .int 0, .int 0, .int 0, .int 0, .ref q272, .ref q273, .ref q274, .ref q275, .ref q276, .ref q277, .ref q278, .ref q279, .ref q280, .ref q281, .ref q282, .ref q283, .int 0])), (q272, .inl (a 0, 6, .inl (fun _ => 0))), (q273, .inl (a 0, 6, .inl (fun _ => 0))), (q274, .inl (a 0, 6, .inl (fun _ => 0))), (q275, .inl (a 0, 10, .inl (fun _ => 0))), (q276, .inl (a 0, 10, .inl (fun _ => 0))), (q277, .inl (a 0, 10, .inl (fun _ => 0))), (q278, .inl (a 0, 10, .inl (fun _ => 0))), (q279, .inl (a 0, 10, .inl (fun _ => 0))), (q280, .inl (a 0, 10, .inl (fun _ => 0))), (q281, .inl (a 0, 10, .inl (fun _ => 0))), (q282, .inl (a 0, 10, .inl (fun _ => 0))), (q283, .inl (a 0, 10, .inl (fun _ => 0))), (q243, .inr (5, [.ref q244, .ref q305, .int 0, .int 0, .int 0, .ref q306, .int 0, .ref q307])), (q305, .inr (0, [.int 0, .int 0, .int 0, .int 0, .int 0, .ref q308])), (q308, .inl (a 0, 10, .inl (fun _ => 0))), (q306, .inl (a 0, 8, .inl (fun _ => 0))), (q307, .inl (a 0, 8, .inl (fun _ => 0))), (q309, .inl (a 5, 4, .inr (.inr (.inr (.inr (fun _ => none)))))), (q310, .inr (0, [.int 0, .int 0, .int 0, .int 0, .int 0, .ref q316])), (q316, .inl (a 0, 10, .inl (fun _ => 0)))] H := hP
  have hD : va_D A [(q101, .inr (8, [.ref q241, .int 0, .ref q242, .int 0, .int 0, .ref q243, .ref q309, .ref q310, .null, .null, .null])), (q241, .inl (a 0, 400, .inl (fun _ => 0))), (q242, .inl (a 4, 6, .inr (.inr (.inr (.inr (fun _ => none)))))), (q244, .inr (7, [.int 0, .int 0, .int 0, .int 0, .int 0, .ref q272, .ref q273, .ref q274, .ref q275, .ref q276, .ref q277, .ref q278, .ref q279, .ref q280, .ref q281, .ref q282, .ref q283, .int 0])), (q272, .inl (a 0, 6, .inl (fun _ => 0))), (q273, .inl (a 0, 6, .inl (fun _ => 0))), (q274, .inl (a 0, 6, .inl (fun _ => 0))), (q275, .inl (a 0, 10, .inl (fun _ => 0))), (q276, .inl (a 0, 10, .inl (fun _ => 0))), (q277, .inl (a 0, 10, .inl (fun _ => 0))), (q278, .inl (a 0, 10, .inl (fun _ => 0))), (q279, .inl (a 0, 10, .inl (fun _ => 0))), (q280, .inl (a 0, 10, .inl (fun _ => 0))), (q281, .inl (a 0, 10, .inl (fun _ => 0))), (q282, .inl (a 0, 10, .inl (fun _ => 0))), (q283, .inl (a 0, 10, .inl (fun _ => 0))), (q243, .inr (5, [.ref q244, .ref q305, .int 0, .int 0, .int 0, .ref q306, .int 0, .ref q307])), (q305, .inr (0, [.int 0, .int 0, .int 0, .int 0, .int 0, .ref q308])), (q308, .inl (a 0, 10, .inl (fun _ => 0))), (q306, .inl (a 0, 8, .inl (fun _ => 0))), (q307, .inl (a 0, 8, .inl (fun _ => 0))), (q309, .inl (a 5, 4, .inr (.inr (.inr (.inr (fun _ => none)))))), (q310, .inr (0, [.int 0, .int 0, .int 0, .int 0, .int 0, .ref q316])), (q316, .inl (a 0, 10, .inl (fun _ => 0)))] := hD
  refine lv_aload_n hx hb dX8_init_75 rfl (lv_at hl 0 rfl) ?_
  refine va_new (ci := 4) (fs := [.null, .null, .int 0, .int 0, .int 0, .null, .null, .null]) (C := RX4) (T := TX4) (N := 8) hx hb hts iX4 tyX4 tyX4_ok hown (hts _ t_196) (hts _ t_197) (hts _ t_5) hK.1 hP hD hS hA rfl (dfX4) (Nat.le_of_ble_eq_true rfl) (Nat.le_of_ble_eq_true rfl) dX8_init_76 (fun q317 H hP hD hS => ?_)
  have hP : va_P D classes [(q101, .inr (8, [.ref q241, .int 0, .ref q242, .int 0, .int 0, .ref q243, .ref q309, .ref q310, .null, .null, .null])), (q241, .inl (a 0, 400, .inl (fun _ => 0))), (q242, .inl (a 4, 6, .inr (.inr (.inr (.inr (fun _ => none)))))), (q244, .inr (7, [.int 0, .int 0, .int 0, .int 0, .int 0, .ref q272, .ref q273, .ref q274, .ref q275, .ref q276, .ref q277, .ref q278, .ref q279, .ref q280, .ref q281, .ref q282, .ref q283, .int 0])), (q272, .inl (a 0, 6, .inl (fun _ => 0))), (q273, .inl (a 0, 6, .inl (fun _ => 0))), (q274, .inl (a 0, 6, .inl (fun _ => 0))), (q275, .inl (a 0, 10, .inl (fun _ => 0))), (q276, .inl (a 0, 10, .inl (fun _ => 0))), (q277, .inl (a 0, 10, .inl (fun _ => 0))), (q278, .inl (a 0, 10, .inl (fun _ => 0))), (q279, .inl (a 0, 10, .inl (fun _ => 0))), (q280, .inl (a 0, 10, .inl (fun _ => 0))), (q281, .inl (a 0, 10, .inl (fun _ => 0))), (q282, .inl (a 0, 10, .inl (fun _ => 0))), (q283, .inl (a 0, 10, .inl (fun _ => 0))), (q243, .inr (5, [.ref q244, .ref q305, .int 0, .int 0, .int 0, .ref q306, .int 0, .ref q307])), (q305, .inr (0, [.int 0, .int 0, .int 0, .int 0, .int 0, .ref q308])), (q308, .inl (a 0, 10, .inl (fun _ => 0))), (q306, .inl (a 0, 8, .inl (fun _ => 0))), (q307, .inl (a 0, 8, .inl (fun _ => 0))), (q309, .inl (a 5, 4, .inr (.inr (.inr (.inr (fun _ => none)))))), (q310, .inr (0, [.int 0, .int 0, .int 0, .int 0, .int 0, .ref q316])), (q316, .inl (a 0, 10, .inl (fun _ => 0))), (q317, .inr (4, [.null, .null, .int 0, .int 0, .int 0, .null, .null, .null]))] H := hP
  have hD : va_D A [(q101, .inr (8, [.ref q241, .int 0, .ref q242, .int 0, .int 0, .ref q243, .ref q309, .ref q310, .null, .null, .null])), (q241, .inl (a 0, 400, .inl (fun _ => 0))), (q242, .inl (a 4, 6, .inr (.inr (.inr (.inr (fun _ => none)))))), (q244, .inr (7, [.int 0, .int 0, .int 0, .int 0, .int 0, .ref q272, .ref q273, .ref q274, .ref q275, .ref q276, .ref q277, .ref q278, .ref q279, .ref q280, .ref q281, .ref q282, .ref q283, .int 0])), (q272, .inl (a 0, 6, .inl (fun _ => 0))), (q273, .inl (a 0, 6, .inl (fun _ => 0))), (q274, .inl (a 0, 6, .inl (fun _ => 0))), (q275, .inl (a 0, 10, .inl (fun _ => 0))), (q276, .inl (a 0, 10, .inl (fun _ => 0))), (q277, .inl (a 0, 10, .inl (fun _ => 0))), (q278, .inl (a 0, 10, .inl (fun _ => 0))), (q279, .inl (a 0, 10, .inl (fun _ => 0))), (q280, .inl (a 0, 10, .inl (fun _ => 0))), (q281, .inl (a 0, 10, .inl (fun _ => 0))), (q282, .inl (a 0, 10, .inl (fun _ => 0))), (q283, .inl (a 0, 10, .inl (fun _ => 0))), (q243, .inr (5, [.ref q244, .ref q305, .int 0, .int 0, .int 0, .ref q306, .int 0, .ref q307])), (q305, .inr (0, [.int 0, .int 0, .int 0, .int 0, .int 0, .ref q308])), (q308, .inl (a 0, 10, .inl (fun _ => 0))), (q306, .inl (a 0, 8, .inl (fun _ => 0))), (q307, .inl (a 0, 8, .inl (fun _ => 0))), (q309, .inl (a 5, 4, .inr (.inr (.inr (.inr (fun _ => none)))))), (q310, .inr (0, [.int 0, .int 0, .int 0, .int 0, .int 0, .ref q316])), (q316, .inl (a 0, 10, .inl (fun _ => 0))), (q317, .inr (4, [.null, .null, .int 0, .int 0, .int 0, .null, .null, .null]))] := hD
  refine W.cs (cells' := 24) (slots' := 600) rfl rfl ?_
  refine lv_dup hx hb dX8_init_79 rfl ?_
  refine afMv (runI (As := []) (rest := [.ref q317, .ref q101]) C (c_X4_init_1 l D a q317 H.size) lk_I_8_56 (okN_X4_init) ⟨Nat.le_of_ble_eq_true rfl, Nat.le_of_ble_eq_true rfl⟩ ⟨rfl, rfl⟩ (preM hK (P_of_map (wc := [(q317, .inr (4, [.null, .null, .int 0, .int 0, .int 0, .null, .null, .null]))]) hP [24] rfl) (hD.sub (ws' := [(q317, .inr (4, [.null, .null, .int 0, .int 0, .int 0, .null, .null, .null]))]) [24] (by decide) rfl)) hl.1 rfl (Nat.le_of_ble_eq_true rfl) dX8_init_80 ⟨Nat.le_of_ble_eq_true rfl, Nat.le_of_ble_eq_true rfl⟩) hP hD hS hA [24] [0, 1, 2, 3, 4, 5, 6, 7, 8, 9, 10, 11, 12, 13, 14, 15, 16, 17, 18, 19, 20, 21, 22, 23] (wr := [(q101, .inr (8, [.ref q241, .int 0, .ref q242, .int 0, .int 0, .ref q243, .ref q309, .ref q310, .null, .null, .null])), (q241, .inl (a 0, 400, .inl (fun _ => 0))), (q242, .inl (a 4, 6, .inr (.inr (.inr (.inr (fun _ => none)))))), (q244, .inr (7, [.int 0, .int 0, .int 0, .int 0, .int 0, .ref q272, .ref q273, .ref q274, .ref q275, .ref q276, .ref q277, .ref q278, .ref q279, .ref q280, .ref q281, .ref q282, .ref q283, .int 0])), (q272, .inl (a 0, 6, .inl (fun _ => 0))), (q273, .inl (a 0, 6, .inl (fun _ => 0))), (q274, .inl (a 0, 6, .inl (fun _ => 0))), (q275, .inl (a 0, 10, .inl (fun _ => 0))), (q276, .inl (a 0, 10, .inl (fun _ => 0))), (q277, .inl (a 0, 10, .inl (fun _ => 0))), (q278, .inl (a 0, 10, .inl (fun _ => 0))), (q279, .inl (a 0, 10, .inl (fun _ => 0))), (q280, .inl (a 0, 10, .inl (fun _ => 0))), (q281, .inl (a 0, 10, .inl (fun _ => 0))), (q282, .inl (a 0, 10, .inl (fun _ => 0))), (q283, .inl (a 0, 10, .inl (fun _ => 0))), (q243, .inr (5, [.ref q244, .ref q305, .int 0, .int 0, .int 0, .ref q306, .int 0, .ref q307])), (q305, .inr (0, [.int 0, .int 0, .int 0, .int 0, .int 0, .ref q308])), (q308, .inl (a 0, 10, .inl (fun _ => 0))), (q306, .inl (a 0, 8, .inl (fun _ => 0))), (q307, .inl (a 0, 8, .inl (fun _ => 0))), (q309, .inl (a 5, 4, .inr (.inr (.inr (.inr (fun _ => none)))))), (q310, .inr (0, [.int 0, .int 0, .int 0, .int 0, .int 0, .ref q316])), (q316, .inl (a 0, 10, .inl (fun _ => 0)))]) rfl rfl (by decide) (by decide) (fun u H locs hw hP hD hS => ?_)
  obtain ⟨q355, q356, q357, q358, q359, q360, q361, q362, rfl⟩ := hw
  have hP : va_P D classes [(q101, .inr (8, [.ref q241, .int 0, .ref q242, .int 0, .int 0, .ref q243, .ref q309, .ref q310, .null, .null, .null])), (q241, .inl (a 0, 400, .inl (fun _ => 0))), (q242, .inl (a 4, 6, .inr (.inr (.inr (.inr (fun _ => none)))))), (q244, .inr (7, [.int 0, .int 0, .int 0, .int 0, .int 0, .ref q272, .ref q273, .ref q274, .ref q275, .ref q276, .ref q277, .ref q278, .ref q279, .ref q280, .ref q281, .ref q282, .ref q283, .int 0])), (q272, .inl (a 0, 6, .inl (fun _ => 0))), (q273, .inl (a 0, 6, .inl (fun _ => 0))), (q274, .inl (a 0, 6, .inl (fun _ => 0))), (q275, .inl (a 0, 10, .inl (fun _ => 0))), (q276, .inl (a 0, 10, .inl (fun _ => 0))), (q277, .inl (a 0, 10, .inl (fun _ => 0))), (q278, .inl (a 0, 10, .inl (fun _ => 0))), (q279, .inl (a 0, 10, .inl (fun _ => 0))), (q280, .inl (a 0, 10, .inl (fun _ => 0))), (q281, .inl (a 0, 10, .inl (fun _ => 0))), (q282, .inl (a 0, 10, .inl (fun _ => 0))), (q283, .inl (a 0, 10, .inl (fun _ => 0))), (q243, .inr (5, [.ref q244, .ref q305, .int 0, .int 0, .int 0, .ref q306, .int 0, .ref q307])), (q305, .inr (0, [.int 0, .int 0, .int 0, .int 0, .int 0, .ref q308])), (q308, .inl (a 0, 10, .inl (fun _ => 0))), (q306, .inl (a 0, 8, .inl (fun _ => 0))), (q307, .inl (a 0, 8, .inl (fun _ => 0))), (q309, .inl (a 5, 4, .inr (.inr (.inr (.inr (fun _ => none)))))), (q310, .inr (0, [.int 0, .int 0, .int 0, .int 0, .int 0, .ref q316])), (q316, .inl (a 0, 10, .inl (fun _ => 0))), (q317, .inr (4, [.ref q355, .ref q356, .int 0, .int 0, .int 0, .ref q357, .ref q358, .ref q359])), (q355, .inr (6, [.ref q360, .ref q361, .ref q362, .int 0, .int 0, .int 0, .int 0, .int 0, .int 0])), (q360, .inl (a 0, 401, .inl (fun _ => 0))), (q361, .inl (a 0, 401, .inl (fun _ => 0))), (q362, .inl (a 0, 401, .inl (fun _ => 0))), (q356, .inl (a 0, 400, .inl (fun _ => 0))), (q357, .inl (a 0, 12, .inl (fun _ => 0))), (q358, .inl (a 0, 12, .inl (fun _ => 0))), (q359, .inl (a 0, 12, .inl (fun _ => 0)))] H := hP
  have hD : va_D A [(q101, .inr (8, [.ref q241, .int 0, .ref q242, .int 0, .int 0, .ref q243, .ref q309, .ref q310, .null, .null, .null])), (q241, .inl (a 0, 400, .inl (fun _ => 0))), (q242, .inl (a 4, 6, .inr (.inr (.inr (.inr (fun _ => none)))))), (q244, .inr (7, [.int 0, .int 0, .int 0, .int 0, .int 0, .ref q272, .ref q273, .ref q274, .ref q275, .ref q276, .ref q277, .ref q278, .ref q279, .ref q280, .ref q281, .ref q282, .ref q283, .int 0])), (q272, .inl (a 0, 6, .inl (fun _ => 0))), (q273, .inl (a 0, 6, .inl (fun _ => 0))), (q274, .inl (a 0, 6, .inl (fun _ => 0))), (q275, .inl (a 0, 10, .inl (fun _ => 0))), (q276, .inl (a 0, 10, .inl (fun _ => 0))), (q277, .inl (a 0, 10, .inl (fun _ => 0))), (q278, .inl (a 0, 10, .inl (fun _ => 0))), (q279, .inl (a 0, 10, .inl (fun _ => 0))), (q280, .inl (a 0, 10, .inl (fun _ => 0))), (q281, .inl (a 0, 10, .inl (fun _ => 0))), (q282, .inl (a 0, 10, .inl (fun _ => 0))), (q283, .inl (a 0, 10, .inl (fun _ => 0))), (q243, .inr (5, [.ref q244, .ref q305, .int 0, .int 0, .int 0, .ref q306, .int 0, .ref q307])), (q305, .inr (0, [.int 0, .int 0, .int 0, .int 0, .int 0, .ref q308])), (q308, .inl (a 0, 10, .inl (fun _ => 0))), (q306, .inl (a 0, 8, .inl (fun _ => 0))), (q307, .inl (a 0, 8, .inl (fun _ => 0))), (q309, .inl (a 5, 4, .inr (.inr (.inr (.inr (fun _ => none)))))), (q310, .inr (0, [.int 0, .int 0, .int 0, .int 0, .int 0, .ref q316])), (q316, .inl (a 0, 10, .inl (fun _ => 0))), (q317, .inr (4, [.ref q355, .ref q356, .int 0, .int 0, .int 0, .ref q357, .ref q358, .ref q359])), (q355, .inr (6, [.ref q360, .ref q361, .ref q362, .int 0, .int 0, .int 0, .int 0, .int 0, .int 0])), (q360, .inl (a 0, 401, .inl (fun _ => 0))), (q361, .inl (a 0, 401, .inl (fun _ => 0))), (q362, .inl (a 0, 401, .inl (fun _ => 0))), (q356, .inl (a 0, 400, .inl (fun _ => 0))), (q357, .inl (a 0, 12, .inl (fun _ => 0))), (q358, .inl (a 0, 12, .inl (fun _ => 0))), (q359, .inl (a 0, 12, .inl (fun _ => 0)))] := hD
  refine W.cs (cells' := 32) (slots' := 2248) rfl rfl ?_
  refine va_putF (D := D) (v := .ref q317) (C := RX8) (T := TX8) (N := 11) hx hb hts iX8 tyX8 tyX8_ok nmX8 hown hK.1 hP hD hS 0 rfl rfl 8 (by decide) (hts _ t_308) (fun _ h9 => h9) rfl (hnm rfl) rfl (tyX8_ok 8 (by decide)) rfl rfl (Nat.le_of_ble_eq_true rfl) dX8_init_83 (fun H locs hP hD hS => ?_)
  have hP : va_P D classes [(q101, .inr (8, [.ref q241, .int 0, .ref q242, .int 0, .int 0, .ref q243, .ref q309, .ref q310, .ref q317, .null, .null])), (q241, .inl (a 0, 400, .inl (fun _ => 0))), (q242, .inl (a 4, 6, .inr (.inr (.inr (.inr (fun _ => none)))))), (q244, .inr (7, [.int 0, .int 0, .int 0, .int 0, .int 0, .ref q272, .ref q273, .ref q274, .ref q275, .ref q276, .ref q277, .ref q278, .ref q279, .ref q280, .ref q281, .ref q282, .ref q283, .int 0])), (q272, .inl (a 0, 6, .inl (fun _ => 0))), (q273, .inl (a 0, 6, .inl (fun _ => 0))), (q274, .inl (a 0, 6, .inl (fun _ => 0))), (q275, .inl (a 0, 10, .inl (fun _ => 0))), (q276, .inl (a 0, 10, .inl (fun _ => 0))), (q277, .inl (a 0, 10, .inl (fun _ => 0))), (q278, .inl (a 0, 10, .inl (fun _ => 0))), (q279, .inl (a 0, 10, .inl (fun _ => 0))), (q280, .inl (a 0, 10, .inl (fun _ => 0))), (q281, .inl (a 0, 10, .inl (fun _ => 0))), (q282, .inl (a 0, 10, .inl (fun _ => 0))), (q283, .inl (a 0, 10, .inl (fun _ => 0))), (q243, .inr (5, [.ref q244, .ref q305, .int 0, .int 0, .int 0, .ref q306, .int 0, .ref q307])), (q305, .inr (0, [.int 0, .int 0, .int 0, .int 0, .int 0, .ref q308])), (q308, .inl (a 0, 10, .inl (fun _ => 0))), (q306, .inl (a 0, 8, .inl (fun _ => 0))), (q307, .inl (a 0, 8, .inl (fun _ => 0))), (q309, .inl (a 5, 4, .inr (.inr (.inr (.inr (fun _ => none)))))), (q310, .inr (0, [.int 0, .int 0, .int 0, .int 0, .int 0, .ref q316])), (q316, .inl (a 0, 10, .inl (fun _ => 0))), (q317, .inr (4, [.ref q355, .ref q356, .int 0, .int 0, .int 0, .ref q357, .ref q358, .ref q359])), (q355, .inr (6, [.ref q360, .ref q361, .ref q362, .int 0, .int 0, .int 0, .int 0, .int 0, .int 0])), (q360, .inl (a 0, 401, .inl (fun _ => 0))), (q361, .inl (a 0, 401, .inl (fun _ => 0))), (q362, .inl (a 0, 401, .inl (fun _ => 0))), (q356, .inl (a 0, 400, .inl (fun _ => 0))), (q357, .inl (a 0, 12, .inl (fun _ => 0))), (q358, .inl (a 0, 12, .inl (fun _ => 0))), (q359, .inl (a 0, 12, .inl (fun _ => 0)))] H := hP
  have hD : va_D A [(q101, .inr (8, [.ref q241, .int 0, .ref q242, .int 0, .int 0, .ref q243, .ref q309, .ref q310, .ref q317, .null, .null])), (q241, .inl (a 0, 400, .inl (fun _ => 0))), (q242, .inl (a 4, 6, .inr (.inr (.inr (.inr (fun _ => none)))))), (q244, .inr (7, [.int 0, .int 0, .int 0, .int 0, .int 0, .ref q272, .ref q273, .ref q274, .ref q275, .ref q276, .ref q277, .ref q278, .ref q279, .ref q280, .ref q281, .ref q282, .ref q283, .int 0])), (q272, .inl (a 0, 6, .inl (fun _ => 0))), (q273, .inl (a 0, 6, .inl (fun _ => 0))), (q274, .inl (a 0, 6, .inl (fun _ => 0))), (q275, .inl (a 0, 10, .inl (fun _ => 0))), (q276, .inl (a 0, 10, .inl (fun _ => 0))), (q277, .inl (a 0, 10, .inl (fun _ => 0))), (q278, .inl (a 0, 10, .inl (fun _ => 0))), (q279, .inl (a 0, 10, .inl (fun _ => 0))), (q280, .inl (a 0, 10, .inl (fun _ => 0))), (q281, .inl (a 0, 10, .inl (fun _ => 0))), (q282, .inl (a 0, 10, .inl (fun _ => 0))), (q283, .inl (a 0, 10, .inl (fun _ => 0))), (q243, .inr (5, [.ref q244, .ref q305, .int 0, .int 0, .int 0, .ref q306, .int 0, .ref q307])), (q305, .inr (0, [.int 0, .int 0, .int 0, .int 0, .int 0, .ref q308])), (q308, .inl (a 0, 10, .inl (fun _ => 0))), (q306, .inl (a 0, 8, .inl (fun _ => 0))), (q307, .inl (a 0, 8, .inl (fun _ => 0))), (q309, .inl (a 5, 4, .inr (.inr (.inr (.inr (fun _ => none)))))), (q310, .inr (0, [.int 0, .int 0, .int 0, .int 0, .int 0, .ref q316])), (q316, .inl (a 0, 10, .inl (fun _ => 0))), (q317, .inr (4, [.ref q355, .ref q356, .int 0, .int 0, .int 0, .ref q357, .ref q358, .ref q359])), (q355, .inr (6, [.ref q360, .ref q361, .ref q362, .int 0, .int 0, .int 0, .int 0, .int 0, .int 0])), (q360, .inl (a 0, 401, .inl (fun _ => 0))), (q361, .inl (a 0, 401, .inl (fun _ => 0))), (q362, .inl (a 0, 401, .inl (fun _ => 0))), (q356, .inl (a 0, 400, .inl (fun _ => 0))), (q357, .inl (a 0, 12, .inl (fun _ => 0))), (q358, .inl (a 0, 12, .inl (fun _ => 0))), (q359, .inl (a 0, 12, .inl (fun _ => 0)))] := hD
  refine lv_aload_n hx hb dX8_init_86 rfl (lv_at hl 0 rfl) ?_
  refine va_new (ci := 2) (fs := [.null]) (C := RX2) (T := TX2) (N := 1) hx hb hts iX2 tyX2 tyX2_ok hown (hts _ t_268) (hts _ t_269) (hts _ t_7) hK.1 hP hD hS hA rfl (dfX2) (Nat.le_of_ble_eq_true rfl) (Nat.le_of_ble_eq_true rfl) dX8_init_87 (fun q363 H hP hD hS => ?_)
  have hP : va_P D classes [(q101, .inr (8, [.ref q241, .int 0, .ref q242, .int 0, .int 0, .ref q243, .ref q309, .ref q310, .ref q317, .null, .null])), (q241, .inl (a 0, 400, .inl (fun _ => 0))), (q242, .inl (a 4, 6, .inr (.inr (.inr (.inr (fun _ => none)))))), (q244, .inr (7, [.int 0, .int 0, .int 0, .int 0, .int 0, .ref q272, .ref q273, .ref q274, .ref q275, .ref q276, .ref q277, .ref q278, .ref q279, .ref q280, .ref q281, .ref q282, .ref q283, .int 0])), (q272, .inl (a 0, 6, .inl (fun _ => 0))), (q273, .inl (a 0, 6, .inl (fun _ => 0))), (q274, .inl (a 0, 6, .inl (fun _ => 0))), (q275, .inl (a 0, 10, .inl (fun _ => 0))), (q276, .inl (a 0, 10, .inl (fun _ => 0))), (q277, .inl (a 0, 10, .inl (fun _ => 0))), (q278, .inl (a 0, 10, .inl (fun _ => 0))), (q279, .inl (a 0, 10, .inl (fun _ => 0))), (q280, .inl (a 0, 10, .inl (fun _ => 0))), (q281, .inl (a 0, 10, .inl (fun _ => 0))), (q282, .inl (a 0, 10, .inl (fun _ => 0))), (q283, .inl (a 0, 10, .inl (fun _ => 0))), (q243, .inr (5, [.ref q244, .ref q305, .int 0, .int 0, .int 0, .ref q306, .int 0, .ref q307])), (q305, .inr (0, [.int 0, .int 0, .int 0, .int 0, .int 0, .ref q308])), (q308, .inl (a 0, 10, .inl (fun _ => 0))), (q306, .inl (a 0, 8, .inl (fun _ => 0))), (q307, .inl (a 0, 8, .inl (fun _ => 0))), (q309, .inl (a 5, 4, .inr (.inr (.inr (.inr (fun _ => none)))))), (q310, .inr (0, [.int 0, .int 0, .int 0, .int 0, .int 0, .ref q316])), (q316, .inl (a 0, 10, .inl (fun _ => 0))), (q317, .inr (4, [.ref q355, .ref q356, .int 0, .int 0, .int 0, .ref q357, .ref q358, .ref q359])), (q355, .inr (6, [.ref q360, .ref q361, .ref q362, .int 0, .int 0, .int 0, .int 0, .int 0, .int 0])), (q360, .inl (a 0, 401, .inl (fun _ => 0))), (q361, .inl (a 0, 401, .inl (fun _ => 0))), (q362, .inl (a 0, 401, .inl (fun _ => 0))), (q356, .inl (a 0, 400, .inl (fun _ => 0))), (q357, .inl (a 0, 12, .inl (fun _ => 0))), (q358, .inl (a 0, 12, .inl (fun _ => 0))), (q359, .inl (a 0, 12, .inl (fun _ => 0))), (q363, .inr (2, [.null]))] H := hP
  have hD : va_D A [(q101, .inr (8, [.ref q241, .int 0, .ref q242, .int 0, .int 0, .ref q243, .ref q309, .ref q310, .ref q317, .null, .null])), (q241, .inl (a 0, 400, .inl (fun _ => 0))), (q242, .inl (a 4, 6, .inr (.inr (.inr (.inr (fun _ => none)))))), (q244, .inr (7, [.int 0, .int 0, .int 0, .int 0, .int 0, .ref q272, .ref q273, .ref q274, .ref q275, .ref q276, .ref q277, .ref q278, .ref q279, .ref q280, .ref q281, .ref q282, .ref q283, .int 0])), (q272, .inl (a 0, 6, .inl (fun _ => 0))), (q273, .inl (a 0, 6, .inl (fun _ => 0))), (q274, .inl (a 0, 6, .inl (fun _ => 0))), (q275, .inl (a 0, 10, .inl (fun _ => 0))), (q276, .inl (a 0, 10, .inl (fun _ => 0))), (q277, .inl (a 0, 10, .inl (fun _ => 0))), (q278, .inl (a 0, 10, .inl (fun _ => 0))), (q279, .inl (a 0, 10, .inl (fun _ => 0))), (q280, .inl (a 0, 10, .inl (fun _ => 0))), (q281, .inl (a 0, 10, .inl (fun _ => 0))), (q282, .inl (a 0, 10, .inl (fun _ => 0))), (q283, .inl (a 0, 10, .inl (fun _ => 0))), (q243, .inr (5, [.ref q244, .ref q305, .int 0, .int 0, .int 0, .ref q306, .int 0, .ref q307])), (q305, .inr (0, [.int 0, .int 0, .int 0, .int 0, .int 0, .ref q308])), (q308, .inl (a 0, 10, .inl (fun _ => 0))), (q306, .inl (a 0, 8, .inl (fun _ => 0))), (q307, .inl (a 0, 8, .inl (fun _ => 0))), (q309, .inl (a 5, 4, .inr (.inr (.inr (.inr (fun _ => none)))))), (q310, .inr (0, [.int 0, .int 0, .int 0, .int 0, .int 0, .ref q316])), (q316, .inl (a 0, 10, .inl (fun _ => 0))), (q317, .inr (4, [.ref q355, .ref q356, .int 0, .int 0, .int 0, .ref q357, .ref q358, .ref q359])), (q355, .inr (6, [.ref q360, .ref q361, .ref q362, .int 0, .int 0, .int 0, .int 0, .int 0, .int 0])), (q360, .inl (a 0, 401, .inl (fun _ => 0))), (q361, .inl (a 0, 401, .inl (fun _ => 0))), (q362, .inl (a 0, 401, .inl (fun _ => 0))), (q356, .inl (a 0, 400, .inl (fun _ => 0))), (q357, .inl (a 0, 12, .inl (fun _ => 0))), (q358, .inl (a 0, 12, .inl (fun _ => 0))), (q359, .inl (a 0, 12, .inl (fun _ => 0))), (q363, .inr (2, [.null]))] := hD
  refine W.cs (cells' := 33) (slots' := 2249) rfl rfl ?_
  refine lv_dup hx hb dX8_init_90 rfl ?_
  refine afMv (runI (As := []) (rest := [.ref q363, .ref q101]) C (c_X2_init_1 l D a q363 H.size) lk_I_8_63 (okN_X2_init) ⟨Nat.le_of_ble_eq_true rfl, Nat.le_of_ble_eq_true rfl⟩ ⟨rfl, rfl⟩ (preM hK (P_of_map (wc := [(q363, .inr (2, [.null]))]) hP [33] rfl) (hD.sub (ws' := [(q363, .inr (2, [.null]))]) [33] (by decide) rfl)) hl.1 rfl (Nat.le_of_ble_eq_true rfl) dX8_init_91 ⟨Nat.le_of_ble_eq_true rfl, Nat.le_of_ble_eq_true rfl⟩) hP hD hS hA [33] [0, 1, 2, 3, 4, 5, 6, 7, 8, 9, 10, 11, 12, 13, 14, 15, 16, 17, 18, 19, 20, 21, 22, 23, 24, 25, 26, 27, 28, 29, 30, 31, 32] (wr := [(q101, .inr (8, [.ref q241, .int 0, .ref q242, .int 0, .int 0, .ref q243, .ref q309, .ref q310, .ref q317, .null, .null])), (q241, .inl (a 0, 400, .inl (fun _ => 0))), (q242, .inl (a 4, 6, .inr (.inr (.inr (.inr (fun _ => none)))))), (q244, .inr (7, [.int 0, .int 0, .int 0, .int 0, .int 0, .ref q272, .ref q273, .ref q274, .ref q275, .ref q276, .ref q277, .ref q278, .ref q279, .ref q280, .ref q281, .ref q282, .ref q283, .int 0])), (q272, .inl (a 0, 6, .inl (fun _ => 0))), (q273, .inl (a 0, 6, .inl (fun _ => 0))), (q274, .inl (a 0, 6, .inl (fun _ => 0))), (q275, .inl (a 0, 10, .inl (fun _ => 0))), (q276, .inl (a 0, 10, .inl (fun _ => 0))), (q277, .inl (a 0, 10, .inl (fun _ => 0))), (q278, .inl (a 0, 10, .inl (fun _ => 0))), (q279, .inl (a 0, 10, .inl (fun _ => 0))), (q280, .inl (a 0, 10, .inl (fun _ => 0))), (q281, .inl (a 0, 10, .inl (fun _ => 0))), (q282, .inl (a 0, 10, .inl (fun _ => 0))), (q283, .inl (a 0, 10, .inl (fun _ => 0))), (q243, .inr (5, [.ref q244, .ref q305, .int 0, .int 0, .int 0, .ref q306, .int 0, .ref q307])), (q305, .inr (0, [.int 0, .int 0, .int 0, .int 0, .int 0, .ref q308])), (q308, .inl (a 0, 10, .inl (fun _ => 0))), (q306, .inl (a 0, 8, .inl (fun _ => 0))), (q307, .inl (a 0, 8, .inl (fun _ => 0))), (q309, .inl (a 5, 4, .inr (.inr (.inr (.inr (fun _ => none)))))), (q310, .inr (0, [.int 0, .int 0, .int 0, .int 0, .int 0, .ref q316])), (q316, .inl (a 0, 10, .inl (fun _ => 0))), (q317, .inr (4, [.ref q355, .ref q356, .int 0, .int 0, .int 0, .ref q357, .ref q358, .ref q359])), (q355, .inr (6, [.ref q360, .ref q361, .ref q362, .int 0, .int 0, .int 0, .int 0, .int 0, .int 0])), (q360, .inl (a 0, 401, .inl (fun _ => 0))), (q361, .inl (a 0, 401, .inl (fun _ => 0))), (q362, .inl (a 0, 401, .inl (fun _ => 0))), (q356, .inl (a 0, 400, .inl (fun _ => 0))), (q357, .inl (a 0, 12, .inl (fun _ => 0))), (q358, .inl (a 0, 12, .inl (fun _ => 0))), (q359, .inl (a 0, 12, .inl (fun _ => 0)))]) rfl rfl (by decide) (by decide) (fun u H locs hw hP hD hS => ?_)
  obtain ⟨q369, rfl⟩ := hw
  have hP : va_P D classes [(q101, .inr (8, [.ref q241, .int 0, .ref q242, .int 0, .int 0, .ref q243, .ref q309, .ref q310, .ref q317, .null, .null])), (q241, .inl (a 0, 400, .inl (fun _ => 0))), (q242, .inl (a 4, 6, .inr (.inr (.inr (.inr (fun _ => none)))))), (q244, .inr (7, [.int 0, .int 0, .int 0, .int 0, .int 0, .ref q272, .ref q273, .ref q274, .ref q275, .ref q276, .ref q277, .ref q278, .ref q279, .ref q280, .ref q281, .ref q282, .ref q283, .int 0])), (q272, .inl (a 0, 6, .inl (fun _ => 0))), (q273, .inl (a 0, 6, .inl (fun _ => 0))), (q274, .inl (a 0, 6, .inl (fun _ => 0))), (q275, .inl (a 0, 10, .inl (fun _ => 0))), (q276, .inl (a 0, 10, .inl (fun _ => 0))), (q277, .inl (a 0, 10, .inl (fun _ => 0))), (q278, .inl (a 0, 10, .inl (fun _ => 0))), (q279, .inl (a 0, 10, .inl (fun _ => 0))), (q280, .inl (a 0, 10, .inl (fun _ => 0))), (q281, .inl (a 0, 10, .inl (fun _ => 0))), (q282, .inl (a 0, 10, .inl (fun _ => 0))), (q283, .inl (a 0, 10, .inl (fun _ => 0))), (q243, .inr (5, [.ref q244, .ref q305, .int 0, .int 0, .int 0, .ref q306, .int 0, .ref q307])), (q305, .inr (0, [.int 0, .int 0, .int 0, .int 0, .int 0, .ref q308])), (q308, .inl (a 0, 10, .inl (fun _ => 0))), (q306, .inl (a 0, 8, .inl (fun _ => 0))), (q307, .inl (a 0, 8, .inl (fun _ => 0))), (q309, .inl (a 5, 4, .inr (.inr (.inr (.inr (fun _ => none)))))), (q310, .inr (0, [.int 0, .int 0, .int 0, .int 0, .int 0, .ref q316])), (q316, .inl (a 0, 10, .inl (fun _ => 0))), (q317, .inr (4, [.ref q355, .ref q356, .int 0, .int 0, .int 0, .ref q357, .ref q358, .ref q359])), (q355, .inr (6, [.ref q360, .ref q361, .ref q362, .int 0, .int 0, .int 0, .int 0, .int 0, .int 0])), (q360, .inl (a 0, 401, .inl (fun _ => 0))), (q361, .inl (a 0, 401, .inl (fun _ => 0))), (q362, .inl (a 0, 401, .inl (fun _ => 0))), (q356, .inl (a 0, 400, .inl (fun _ => 0))), (q357, .inl (a 0, 12, .inl (fun _ => 0))), (q358, .inl (a 0, 12, .inl (fun _ => 0))), (q359, .inl (a 0, 12, .inl (fun _ => 0))), (q363, .inr (2, [.ref q369])), (q369, .inl (a 1, 32, .inr (.inl (fun _ => 0))))] H := hP
  have hD : va_D A [(q101, .inr (8, [.ref q241, .int 0, .ref q242, .int 0, .int 0, .ref q243, .ref q309, .ref q310, .ref q317, .null, .null])), (q241, .inl (a 0, 400, .inl (fun _ => 0))), (q242, .inl (a 4, 6, .inr (.inr (.inr (.inr (fun _ => none)))))), (q244, .inr (7, [.int 0, .int 0, .int 0, .int 0, .int 0, .ref q272, .ref q273, .ref q274, .ref q275, .ref q276, .ref q277, .ref q278, .ref q279, .ref q280, .ref q281, .ref q282, .ref q283, .int 0])), (q272, .inl (a 0, 6, .inl (fun _ => 0))), (q273, .inl (a 0, 6, .inl (fun _ => 0))), (q274, .inl (a 0, 6, .inl (fun _ => 0))), (q275, .inl (a 0, 10, .inl (fun _ => 0))), (q276, .inl (a 0, 10, .inl (fun _ => 0))), (q277, .inl (a 0, 10, .inl (fun _ => 0))), (q278, .inl (a 0, 10, .inl (fun _ => 0))), (q279, .inl (a 0, 10, .inl (fun _ => 0))), (q280, .inl (a 0, 10, .inl (fun _ => 0))), (q281, .inl (a 0, 10, .inl (fun _ => 0))), (q282, .inl (a 0, 10, .inl (fun _ => 0))), (q283, .inl (a 0, 10, .inl (fun _ => 0))), (q243, .inr (5, [.ref q244, .ref q305, .int 0, .int 0, .int 0, .ref q306, .int 0, .ref q307])), (q305, .inr (0, [.int 0, .int 0, .int 0, .int 0, .int 0, .ref q308])), (q308, .inl (a 0, 10, .inl (fun _ => 0))), (q306, .inl (a 0, 8, .inl (fun _ => 0))), (q307, .inl (a 0, 8, .inl (fun _ => 0))), (q309, .inl (a 5, 4, .inr (.inr (.inr (.inr (fun _ => none)))))), (q310, .inr (0, [.int 0, .int 0, .int 0, .int 0, .int 0, .ref q316])), (q316, .inl (a 0, 10, .inl (fun _ => 0))), (q317, .inr (4, [.ref q355, .ref q356, .int 0, .int 0, .int 0, .ref q357, .ref q358, .ref q359])), (q355, .inr (6, [.ref q360, .ref q361, .ref q362, .int 0, .int 0, .int 0, .int 0, .int 0, .int 0])), (q360, .inl (a 0, 401, .inl (fun _ => 0))), (q361, .inl (a 0, 401, .inl (fun _ => 0))), (q362, .inl (a 0, 401, .inl (fun _ => 0))), (q356, .inl (a 0, 400, .inl (fun _ => 0))), (q357, .inl (a 0, 12, .inl (fun _ => 0))), (q358, .inl (a 0, 12, .inl (fun _ => 0))), (q359, .inl (a 0, 12, .inl (fun _ => 0))), (q363, .inr (2, [.ref q369])), (q369, .inl (a 1, 32, .inr (.inl (fun _ => 0))))] := hD
  refine W.cs (cells' := 34) (slots' := 2281) rfl rfl ?_
  refine va_putF (D := D) (v := .ref q363) (C := RX8) (T := TX8) (N := 11) hx hb hts iX8 tyX8 tyX8_ok nmX8 hown hK.1 hP hD hS 0 rfl rfl 9 (by decide) (hts _ t_309) (fun _ h9 => h9) rfl (hnm rfl) rfl (tyX8_ok 9 (by decide)) rfl rfl (Nat.le_of_ble_eq_true rfl) dX8_init_94 (fun H locs hP hD hS => ?_)
  have hP : va_P D classes [(q101, .inr (8, [.ref q241, .int 0, .ref q242, .int 0, .int 0, .ref q243, .ref q309, .ref q310, .ref q317, .ref q363, .null])), (q241, .inl (a 0, 400, .inl (fun _ => 0))), (q242, .inl (a 4, 6, .inr (.inr (.inr (.inr (fun _ => none)))))), (q244, .inr (7, [.int 0, .int 0, .int 0, .int 0, .int 0, .ref q272, .ref q273, .ref q274, .ref q275, .ref q276, .ref q277, .ref q278, .ref q279, .ref q280, .ref q281, .ref q282, .ref q283, .int 0])), (q272, .inl (a 0, 6, .inl (fun _ => 0))), (q273, .inl (a 0, 6, .inl (fun _ => 0))), (q274, .inl (a 0, 6, .inl (fun _ => 0))), (q275, .inl (a 0, 10, .inl (fun _ => 0))), (q276, .inl (a 0, 10, .inl (fun _ => 0))), (q277, .inl (a 0, 10, .inl (fun _ => 0))), (q278, .inl (a 0, 10, .inl (fun _ => 0))), (q279, .inl (a 0, 10, .inl (fun _ => 0))), (q280, .inl (a 0, 10, .inl (fun _ => 0))), (q281, .inl (a 0, 10, .inl (fun _ => 0))), (q282, .inl (a 0, 10, .inl (fun _ => 0))), (q283, .inl (a 0, 10, .inl (fun _ => 0))), (q243, .inr (5, [.ref q244, .ref q305, .int 0, .int 0, .int 0, .ref q306, .int 0, .ref q307])), (q305, .inr (0, [.int 0, .int 0, .int 0, .int 0, .int 0, .ref q308])), (q308, .inl (a 0, 10, .inl (fun _ => 0))), (q306, .inl (a 0, 8, .inl (fun _ => 0))), (q307, .inl (a 0, 8, .inl (fun _ => 0))), (q309, .inl (a 5, 4, .inr (.inr (.inr (.inr (fun _ => none)))))), (q310, .inr (0, [.int 0, .int 0, .int 0, .int 0, .int 0, .ref q316])), (q316, .inl (a 0, 10, .inl (fun _ => 0))), (q317, .inr (4, [.ref q355, .ref q356, .int 0, .int 0, .int 0, .ref q357, .ref q358, .ref q359])), (q355, .inr (6, [.ref q360, .ref q361, .ref q362, .int 0, .int 0, .int 0, .int 0, .int 0, .int 0])), (q360, .inl (a 0, 401, .inl (fun _ => 0))), (q361, .inl (a 0, 401, .inl (fun _ => 0))), (q362, .inl (a 0, 401, .inl (fun _ => 0))), (q356, .inl (a 0, 400, .inl (fun _ => 0))), (q357, .inl (a 0, 12, .inl (fun _ => 0))), (q358, .inl (a 0, 12, .inl (fun _ => 0))), (q359, .inl (a 0, 12, .inl (fun _ => 0))), (q363, .inr (2, [.ref q369])), (q369, .inl (a 1, 32, .inr (.inl (fun _ => 0))))] H := hP
  have hD : va_D A [(q101, .inr (8, [.ref q241, .int 0, .ref q242, .int 0, .int 0, .ref q243, .ref q309, .ref q310, .ref q317, .ref q363, .null])), (q241, .inl (a 0, 400, .inl (fun _ => 0))), (q242, .inl (a 4, 6, .inr (.inr (.inr (.inr (fun _ => none)))))), (q244, .inr (7, [.int 0, .int 0, .int 0, .int 0, .int 0, .ref q272, .ref q273, .ref q274, .ref q275, .ref q276, .ref q277, .ref q278, .ref q279, .ref q280, .ref q281, .ref q282, .ref q283, .int 0])), (q272, .inl (a 0, 6, .inl (fun _ => 0))), (q273, .inl (a 0, 6, .inl (fun _ => 0))), (q274, .inl (a 0, 6, .inl (fun _ => 0))), (q275, .inl (a 0, 10, .inl (fun _ => 0))), (q276, .inl (a 0, 10, .inl (fun _ => 0))), (q277, .inl (a 0, 10, .inl (fun _ => 0))), (q278, .inl (a 0, 10, .inl (fun _ => 0))), (q279, .inl (a 0, 10, .inl (fun _ => 0))), (q280, .inl (a 0, 10, .inl (fun _ => 0))), (q281, .inl (a 0, 10, .inl (fun _ => 0))), (q282, .inl (a 0, 10, .inl (fun _ => 0))), (q283, .inl (a 0, 10, .inl (fun _ => 0))), (q243, .inr (5, [.ref q244, .ref q305, .int 0, .int 0, .int 0, .ref q306, .int 0, .ref q307])), (q305, .inr (0, [.int 0, .int 0, .int 0, .int 0, .int 0, .ref q308])), (q308, .inl (a 0, 10, .inl (fun _ => 0))), (q306, .inl (a 0, 8, .inl (fun _ => 0))), (q307, .inl (a 0, 8, .inl (fun _ => 0))), (q309, .inl (a 5, 4, .inr (.inr (.inr (.inr (fun _ => none)))))), (q310, .inr (0, [.int 0, .int 0, .int 0, .int 0, .int 0, .ref q316])), (q316, .inl (a 0, 10, .inl (fun _ => 0))), (q317, .inr (4, [.ref q355, .ref q356, .int 0, .int 0, .int 0, .ref q357, .ref q358, .ref q359])), (q355, .inr (6, [.ref q360, .ref q361, .ref q362, .int 0, .int 0, .int 0, .int 0, .int 0, .int 0])), (q360, .inl (a 0, 401, .inl (fun _ => 0))), (q361, .inl (a 0, 401, .inl (fun _ => 0))), (q362, .inl (a 0, 401, .inl (fun _ => 0))), (q356, .inl (a 0, 400, .inl (fun _ => 0))), (q357, .inl (a 0, 12, .inl (fun _ => 0))), (q358, .inl (a 0, 12, .inl (fun _ => 0))), (q359, .inl (a 0, 12, .inl (fun _ => 0))), (q363, .inr (2, [.ref q369])), (q369, .inl (a 1, 32, .inr (.inl (fun _ => 0))))] := hD
  refine lv_aload_n hx hb dX8_init_97 rfl (lv_at hl 0 rfl) ?_
  refine va_new (ci := 1) (fs := [.null, .null, .int 0, .long 0]) (C := RX1) (T := TX1) (N := 4) hx hb hts iX1 tyX1 tyX1_ok hown (hts _ t_279) (hts _ t_280) (hts _ t_8) hK.1 hP hD hS hA rfl (dfX1) (Nat.le_of_ble_eq_true rfl) (Nat.le_of_ble_eq_true rfl) dX8_init_98 (fun q370 H hP hD hS => ?_)
  have hP : va_P D classes [(q101, .inr (8, [.ref q241, .int 0, .ref q242, .int 0, .int 0, .ref q243, .ref q309, .ref q310, .ref q317, .ref q363, .null])), (q241, .inl (a 0, 400, .inl (fun _ => 0))), (q242, .inl (a 4, 6, .inr (.inr (.inr (.inr (fun _ => none)))))), (q244, .inr (7, [.int 0, .int 0, .int 0, .int 0, .int 0, .ref q272, .ref q273, .ref q274, .ref q275, .ref q276, .ref q277, .ref q278, .ref q279, .ref q280, .ref q281, .ref q282, .ref q283, .int 0])), (q272, .inl (a 0, 6, .inl (fun _ => 0))), (q273, .inl (a 0, 6, .inl (fun _ => 0))), (q274, .inl (a 0, 6, .inl (fun _ => 0))), (q275, .inl (a 0, 10, .inl (fun _ => 0))), (q276, .inl (a 0, 10, .inl (fun _ => 0))), (q277, .inl (a 0, 10, .inl (fun _ => 0))), (q278, .inl (a 0, 10, .inl (fun _ => 0))), (q279, .inl (a 0, 10, .inl (fun _ => 0))), (q280, .inl (a 0, 10, .inl (fun _ => 0))), (q281, .inl (a 0, 10, .inl (fun _ => 0))), (q282, .inl (a 0, 10, .inl (fun _ => 0))), (q283, .inl (a 0, 10, .inl (fun _ => 0))), (q243, .inr (5, [.ref q244, .ref q305, .int 0, .int 0, .int 0, .ref q306, .int 0, .ref q307])), (q305, .inr (0, [.int 0, .int 0, .int 0, .int 0, .int 0, .ref q308])), (q308, .inl (a 0, 10, .inl (fun _ => 0))), (q306, .inl (a 0, 8, .inl (fun _ => 0))), (q307, .inl (a 0, 8, .inl (fun _ => 0))), (q309, .inl (a 5, 4, .inr (.inr (.inr (.inr (fun _ => none)))))), (q310, .inr (0, [.int 0, .int 0, .int 0, .int 0, .int 0, .ref q316])), (q316, .inl (a 0, 10, .inl (fun _ => 0))), (q317, .inr (4, [.ref q355, .ref q356, .int 0, .int 0, .int 0, .ref q357, .ref q358, .ref q359])), (q355, .inr (6, [.ref q360, .ref q361, .ref q362, .int 0, .int 0, .int 0, .int 0, .int 0, .int 0])), (q360, .inl (a 0, 401, .inl (fun _ => 0))), (q361, .inl (a 0, 401, .inl (fun _ => 0))), (q362, .inl (a 0, 401, .inl (fun _ => 0))), (q356, .inl (a 0, 400, .inl (fun _ => 0))), (q357, .inl (a 0, 12, .inl (fun _ => 0))), (q358, .inl (a 0, 12, .inl (fun _ => 0))), (q359, .inl (a 0, 12, .inl (fun _ => 0))), (q363, .inr (2, [.ref q369])), (q369, .inl (a 1, 32, .inr (.inl (fun _ => 0)))), (q370, .inr (1, [.null, .null, .int 0, .long 0]))] H := hP
  have hD : va_D A [(q101, .inr (8, [.ref q241, .int 0, .ref q242, .int 0, .int 0, .ref q243, .ref q309, .ref q310, .ref q317, .ref q363, .null])), (q241, .inl (a 0, 400, .inl (fun _ => 0))), (q242, .inl (a 4, 6, .inr (.inr (.inr (.inr (fun _ => none)))))), (q244, .inr (7, [.int 0, .int 0, .int 0, .int 0, .int 0, .ref q272, .ref q273, .ref q274, .ref q275, .ref q276, .ref q277, .ref q278, .ref q279, .ref q280, .ref q281, .ref q282, .ref q283, .int 0])), (q272, .inl (a 0, 6, .inl (fun _ => 0))), (q273, .inl (a 0, 6, .inl (fun _ => 0))), (q274, .inl (a 0, 6, .inl (fun _ => 0))), (q275, .inl (a 0, 10, .inl (fun _ => 0))), (q276, .inl (a 0, 10, .inl (fun _ => 0))), (q277, .inl (a 0, 10, .inl (fun _ => 0))), (q278, .inl (a 0, 10, .inl (fun _ => 0))), (q279, .inl (a 0, 10, .inl (fun _ => 0))), (q280, .inl (a 0, 10, .inl (fun _ => 0))), (q281, .inl (a 0, 10, .inl (fun _ => 0))), (q282, .inl (a 0, 10, .inl (fun _ => 0))), (q283, .inl (a 0, 10, .inl (fun _ => 0))), (q243, .inr (5, [.ref q244, .ref q305, .int 0, .int 0, .int 0, .ref q306, .int 0, .ref q307])), (q305, .inr (0, [.int 0, .int 0, .int 0, .int 0, .int 0, .ref q308])), (q308, .inl (a 0, 10, .inl (fun _ => 0))), (q306, .inl (a 0, 8, .inl (fun _ => 0))), (q307, .inl (a 0, 8, .inl (fun _ => 0))), (q309, .inl (a 5, 4, .inr (.inr (.inr (.inr (fun _ => none)))))), (q310, .inr (0, [.int 0, .int 0, .int 0, .int 0, .int 0, .ref q316])), (q316, .inl (a 0, 10, .inl (fun _ => 0))), (q317, .inr (4, [.ref q355, .ref q356, .int 0, .int 0, .int 0, .ref q357, .ref q358, .ref q359])), (q355, .inr (6, [.ref q360, .ref q361, .ref q362, .int 0, .int 0, .int 0, .int 0, .int 0, .int 0])), (q360, .inl (a 0, 401, .inl (fun _ => 0))), (q361, .inl (a 0, 401, .inl (fun _ => 0))), (q362, .inl (a 0, 401, .inl (fun _ => 0))), (q356, .inl (a 0, 400, .inl (fun _ => 0))), (q357, .inl (a 0, 12, .inl (fun _ => 0))), (q358, .inl (a 0, 12, .inl (fun _ => 0))), (q359, .inl (a 0, 12, .inl (fun _ => 0))), (q363, .inr (2, [.ref q369])), (q369, .inl (a 1, 32, .inr (.inl (fun _ => 0)))), (q370, .inr (1, [.null, .null, .int 0, .long 0]))] := hD
  refine W.cs (cells' := 35) (slots' := 2285) rfl rfl ?_
  refine lv_dup hx hb dX8_init_101 rfl ?_
  refine afMv (runI (As := []) (rest := [.ref q370, .ref q101]) C (c_X1_init_1 l D a q370 H.size) lk_I_8_70 (okN_X1_init) ⟨Nat.le_of_ble_eq_true rfl, Nat.le_of_ble_eq_true rfl⟩ ⟨rfl, rfl⟩ (preM hK (P_of_map (wc := [(q370, .inr (1, [.null, .null, .int 0, .long 0]))]) hP [35] rfl) (hD.sub (ws' := [(q370, .inr (1, [.null, .null, .int 0, .long 0]))]) [35] (by decide) rfl)) hl.1 rfl (Nat.le_of_ble_eq_true rfl) dX8_init_102 ⟨Nat.le_of_ble_eq_true rfl, Nat.le_of_ble_eq_true rfl⟩) hP hD hS hA [35] [0, 1, 2, 3, 4, 5, 6, 7, 8, 9, 10, 11, 12, 13, 14, 15, 16, 17, 18, 19, 20, 21, 22, 23, 24, 25, 26, 27, 28, 29, 30, 31, 32, 33, 34] (wr := [(q101, .inr (8, [.ref q241, .int 0, .ref q242, .int 0, .int 0, .ref q243, .ref q309, .ref q310, .ref q317, .ref q363, .null])), (q241, .inl (a 0, 400, .inl (fun _ => 0))), (q242, .inl (a 4, 6, .inr (.inr (.inr (.inr (fun _ => none)))))), (q244, .inr (7, [.int 0, .int 0, .int 0, .int 0, .int 0, .ref q272, .ref q273, .ref q274, .ref q275, .ref q276, .ref q277, .ref q278, .ref q279, .ref q280, .ref q281, .ref q282, .ref q283, .int 0])), (q272, .inl (a 0, 6, .inl (fun _ => 0))), (q273, .inl (a 0, 6, .inl (fun _ => 0))), (q274, .inl (a 0, 6, .inl (fun _ => 0))), (q275, .inl (a 0, 10, .inl (fun _ => 0))), (q276, .inl (a 0, 10, .inl (fun _ => 0))), (q277, .inl (a 0, 10, .inl (fun _ => 0))), (q278, .inl (a 0, 10, .inl (fun _ => 0))), (q279, .inl (a 0, 10, .inl (fun _ => 0))), (q280, .inl (a 0, 10, .inl (fun _ => 0))), (q281, .inl (a 0, 10, .inl (fun _ => 0))), (q282, .inl (a 0, 10, .inl (fun _ => 0))), (q283, .inl (a 0, 10, .inl (fun _ => 0))), (q243, .inr (5, [.ref q244, .ref q305, .int 0, .int 0, .int 0, .ref q306, .int 0, .ref q307])), (q305, .inr (0, [.int 0, .int 0, .int 0, .int 0, .int 0, .ref q308])), (q308, .inl (a 0, 10, .inl (fun _ => 0))), (q306, .inl (a 0, 8, .inl (fun _ => 0))), (q307, .inl (a 0, 8, .inl (fun _ => 0))), (q309, .inl (a 5, 4, .inr (.inr (.inr (.inr (fun _ => none)))))), (q310, .inr (0, [.int 0, .int 0, .int 0, .int 0, .int 0, .ref q316])), (q316, .inl (a 0, 10, .inl (fun _ => 0))), (q317, .inr (4, [.ref q355, .ref q356, .int 0, .int 0, .int 0, .ref q357, .ref q358, .ref q359])), (q355, .inr (6, [.ref q360, .ref q361, .ref q362, .int 0, .int 0, .int 0, .int 0, .int 0, .int 0])), (q360, .inl (a 0, 401, .inl (fun _ => 0))), (q361, .inl (a 0, 401, .inl (fun _ => 0))), (q362, .inl (a 0, 401, .inl (fun _ => 0))), (q356, .inl (a 0, 400, .inl (fun _ => 0))), (q357, .inl (a 0, 12, .inl (fun _ => 0))), (q358, .inl (a 0, 12, .inl (fun _ => 0))), (q359, .inl (a 0, 12, .inl (fun _ => 0))), (q363, .inr (2, [.ref q369])), (q369, .inl (a 1, 32, .inr (.inl (fun _ => 0))))]) rfl rfl (by decide) (by decide) (fun u H locs hw hP hD hS => ?_)
  obtain ⟨q378, q379, rfl⟩ := hw
  have hP : va_P D classes [(q101, .inr (8, [.ref q241, .int 0, .ref q242, .int 0, .int 0, .ref q243, .ref q309, .ref q310, .ref q317, .ref q363, .null])), (q241, .inl (a 0, 400, .inl (fun _ => 0))), (q242, .inl (a 4, 6, .inr (.inr (.inr (.inr (fun _ => none)))))), (q244, .inr (7, [.int 0, .int 0, .int 0, .int 0, .int 0, .ref q272, .ref q273, .ref q274, .ref q275, .ref q276, .ref q277, .ref q278, .ref q279, .ref q280, .ref q281, .ref q282, .ref q283, .int 0])), (q272, .inl (a 0, 6, .inl (fun _ => 0))), (q273, .inl (a 0, 6, .inl (fun _ => 0))), (q274, .inl (a 0, 6, .inl (fun _ => 0))), (q275, .inl (a 0, 10, .inl (fun _ => 0))), (q276, .inl (a 0, 10, .inl (fun _ => 0))), (q277, .inl (a 0, 10, .inl (fun _ => 0))), (q278, .inl (a 0, 10, .inl (fun _ => 0))), (q279, .inl (a 0, 10, .inl (fun _ => 0))), (q280, .inl (a 0, 10, .inl (fun _ => 0))), (q281, .inl (a 0, 10, .inl (fun _ => 0))), (q282, .inl (a 0, 10, .inl (fun _ => 0))), (q283, .inl (a 0, 10, .inl (fun _ => 0))), (q243, .inr (5, [.ref q244, .ref q305, .int 0, .int 0, .int 0, .ref q306, .int 0, .ref q307])), (q305, .inr (0, [.int 0, .int 0, .int 0, .int 0, .int 0, .ref q308])), (q308, .inl (a 0, 10, .inl (fun _ => 0))), (q306, .inl (a 0, 8, .inl (fun _ => 0))), (q307, .inl (a 0, 8, .inl (fun _ => 0))), (q309, .inl (a 5, 4, .inr (.inr (.inr (.inr (fun _ => none)))))), (q310, .inr (0, [.int 0, .int 0, .int 0, .int 0, .int 0, .ref q316])), (q316, .inl (a 0, 10, .inl (fun _ => 0))), (q317, .inr (4, [.ref q355, .ref q356, .int 0, .int 0, .int 0, .ref q357, .ref q358, .ref q359])), (q355, .inr (6, [.ref q360, .ref q361, .ref q362, .int 0, .int 0, .int 0, .int 0, .int 0, .int 0])), (q360, .inl (a 0, 401, .inl (fun _ => 0))), (q361, .inl (a 0, 401, .inl (fun _ => 0))), (q362, .inl (a 0, 401, .inl (fun _ => 0))), (q356, .inl (a 0, 400, .inl (fun _ => 0))), (q357, .inl (a 0, 12, .inl (fun _ => 0))), (q358, .inl (a 0, 12, .inl (fun _ => 0))), (q359, .inl (a 0, 12, .inl (fun _ => 0))), (q363, .inr (2, [.ref q369])), (q369, .inl (a 1, 32, .inr (.inl (fun _ => 0)))), (q370, .inr (1, [.ref q378, .ref q379, .int 0, .long 0])), (q378, .inl (a 1, 2048, .inr (.inl (fun _ => 0)))), (q379, .inl (a 1, 2048, .inr (.inl (fun _ => 0))))] H := hP
  have hD : va_D A [(q101, .inr (8, [.ref q241, .int 0, .ref q242, .int 0, .int 0, .ref q243, .ref q309, .ref q310, .ref q317, .ref q363, .null])), (q241, .inl (a 0, 400, .inl (fun _ => 0))), (q242, .inl (a 4, 6, .inr (.inr (.inr (.inr (fun _ => none)))))), (q244, .inr (7, [.int 0, .int 0, .int 0, .int 0, .int 0, .ref q272, .ref q273, .ref q274, .ref q275, .ref q276, .ref q277, .ref q278, .ref q279, .ref q280, .ref q281, .ref q282, .ref q283, .int 0])), (q272, .inl (a 0, 6, .inl (fun _ => 0))), (q273, .inl (a 0, 6, .inl (fun _ => 0))), (q274, .inl (a 0, 6, .inl (fun _ => 0))), (q275, .inl (a 0, 10, .inl (fun _ => 0))), (q276, .inl (a 0, 10, .inl (fun _ => 0))), (q277, .inl (a 0, 10, .inl (fun _ => 0))), (q278, .inl (a 0, 10, .inl (fun _ => 0))), (q279, .inl (a 0, 10, .inl (fun _ => 0))), (q280, .inl (a 0, 10, .inl (fun _ => 0))), (q281, .inl (a 0, 10, .inl (fun _ => 0))), (q282, .inl (a 0, 10, .inl (fun _ => 0))), (q283, .inl (a 0, 10, .inl (fun _ => 0))), (q243, .inr (5, [.ref q244, .ref q305, .int 0, .int 0, .int 0, .ref q306, .int 0, .ref q307])), (q305, .inr (0, [.int 0, .int 0, .int 0, .int 0, .int 0, .ref q308])), (q308, .inl (a 0, 10, .inl (fun _ => 0))), (q306, .inl (a 0, 8, .inl (fun _ => 0))), (q307, .inl (a 0, 8, .inl (fun _ => 0))), (q309, .inl (a 5, 4, .inr (.inr (.inr (.inr (fun _ => none)))))), (q310, .inr (0, [.int 0, .int 0, .int 0, .int 0, .int 0, .ref q316])), (q316, .inl (a 0, 10, .inl (fun _ => 0))), (q317, .inr (4, [.ref q355, .ref q356, .int 0, .int 0, .int 0, .ref q357, .ref q358, .ref q359])), (q355, .inr (6, [.ref q360, .ref q361, .ref q362, .int 0, .int 0, .int 0, .int 0, .int 0, .int 0])), (q360, .inl (a 0, 401, .inl (fun _ => 0))), (q361, .inl (a 0, 401, .inl (fun _ => 0))), (q362, .inl (a 0, 401, .inl (fun _ => 0))), (q356, .inl (a 0, 400, .inl (fun _ => 0))), (q357, .inl (a 0, 12, .inl (fun _ => 0))), (q358, .inl (a 0, 12, .inl (fun _ => 0))), (q359, .inl (a 0, 12, .inl (fun _ => 0))), (q363, .inr (2, [.ref q369])), (q369, .inl (a 1, 32, .inr (.inl (fun _ => 0)))), (q370, .inr (1, [.ref q378, .ref q379, .int 0, .long 0])), (q378, .inl (a 1, 2048, .inr (.inl (fun _ => 0)))), (q379, .inl (a 1, 2048, .inr (.inl (fun _ => 0))))] := hD
  refine W.cs (cells' := 37) (slots' := 6381) rfl rfl ?_
  refine va_putF (D := D) (v := .ref q370) (C := RX8) (T := TX8) (N := 11) hx hb hts iX8 tyX8 tyX8_ok nmX8 hown hK.1 hP hD hS 0 rfl rfl 10 (by decide) (hts _ t_310) (fun _ h9 => h9) rfl (hnm rfl) rfl (tyX8_ok 10 (by decide)) rfl rfl (Nat.le_of_ble_eq_true rfl) dX8_init_105 (fun H locs hP hD hS => ?_)
  have hP : va_P D classes [(q101, .inr (8, [.ref q241, .int 0, .ref q242, .int 0, .int 0, .ref q243, .ref q309, .ref q310, .ref q317, .ref q363, .ref q370])), (q241, .inl (a 0, 400, .inl (fun _ => 0))), (q242, .inl (a 4, 6, .inr (.inr (.inr (.inr (fun _ => none)))))), (q244, .inr (7, [.int 0, .int 0, .int 0, .int 0, .int 0, .ref q272, .ref q273, .ref q274, .ref q275, .ref q276, .ref q277, .ref q278, .ref q279, .ref q280, .ref q281, .ref q282, .ref q283, .int 0])), (q272, .inl (a 0, 6, .inl (fun _ => 0))), (q273, .inl (a 0, 6, .inl (fun _ => 0))), (q274, .inl (a 0, 6, .inl (fun _ => 0))), (q275, .inl (a 0, 10, .inl (fun _ => 0))), (q276, .inl (a 0, 10, .inl (fun _ => 0))), (q277, .inl (a 0, 10, .inl (fun _ => 0))), (q278, .inl (a 0, 10, .inl (fun _ => 0))), (q279, .inl (a 0, 10, .inl (fun _ => 0))), (q280, .inl (a 0, 10, .inl (fun _ => 0))), (q281, .inl (a 0, 10, .inl (fun _ => 0))), (q282, .inl (a 0, 10, .inl (fun _ => 0))), (q283, .inl (a 0, 10, .inl (fun _ => 0))), (q243, .inr (5, [.ref q244, .ref q305, .int 0, .int 0, .int 0, .ref q306, .int 0, .ref q307])), (q305, .inr (0, [.int 0, .int 0, .int 0, .int 0, .int 0, .ref q308])), (q308, .inl (a 0, 10, .inl (fun _ => 0))), (q306, .inl (a 0, 8, .inl (fun _ => 0))), (q307, .inl (a 0, 8, .inl (fun _ => 0))), (q309, .inl (a 5, 4, .inr (.inr (.inr (.inr (fun _ => none)))))), (q310, .inr (0, [.int 0, .int 0, .int 0, .int 0, .int 0, .ref q316])), (q316, .inl (a 0, 10, .inl (fun _ => 0))), (q317, .inr (4, [.ref q355, .ref q356, .int 0, .int 0, .int 0, .ref q357, .ref q358, .ref q359])), (q355, .inr (6, [.ref q360, .ref q361, .ref q362, .int 0, .int 0, .int 0, .int 0, .int 0, .int 0])), (q360, .inl (a 0, 401, .inl (fun _ => 0))), (q361, .inl (a 0, 401, .inl (fun _ => 0))), (q362, .inl (a 0, 401, .inl (fun _ => 0))), (q356, .inl (a 0, 400, .inl (fun _ => 0))), (q357, .inl (a 0, 12, .inl (fun _ => 0))), (q358, .inl (a 0, 12, .inl (fun _ => 0))), (q359, .inl (a 0, 12, .inl (fun _ => 0))), (q363, .inr (2, [.ref q369])), (q369, .inl (a 1, 32, .inr (.inl (fun _ => 0)))), (q370, .inr (1, [.ref q378, .ref q379, .int 0, .long 0])), (q378, .inl (a 1, 2048, .inr (.inl (fun _ => 0)))), (q379, .inl (a 1, 2048, .inr (.inl (fun _ => 0))))] H := hP
  have hD : va_D A [(q101, .inr (8, [.ref q241, .int 0, .ref q242, .int 0, .int 0, .ref q243, .ref q309, .ref q310, .ref q317, .ref q363, .ref q370])), (q241, .inl (a 0, 400, .inl (fun _ => 0))), (q242, .inl (a 4, 6, .inr (.inr (.inr (.inr (fun _ => none)))))), (q244, .inr (7, [.int 0, .int 0, .int 0, .int 0, .int 0, .ref q272, .ref q273, .ref q274, .ref q275, .ref q276, .ref q277, .ref q278, .ref q279, .ref q280, .ref q281, .ref q282, .ref q283, .int 0])), (q272, .inl (a 0, 6, .inl (fun _ => 0))), (q273, .inl (a 0, 6, .inl (fun _ => 0))), (q274, .inl (a 0, 6, .inl (fun _ => 0))), (q275, .inl (a 0, 10, .inl (fun _ => 0))), (q276, .inl (a 0, 10, .inl (fun _ => 0))), (q277, .inl (a 0, 10, .inl (fun _ => 0))), (q278, .inl (a 0, 10, .inl (fun _ => 0))), (q279, .inl (a 0, 10, .inl (fun _ => 0))), (q280, .inl (a 0, 10, .inl (fun _ => 0))), (q281, .inl (a 0, 10, .inl (fun _ => 0))), (q282, .inl (a 0, 10, .inl (fun _ => 0))), (q283, .inl (a 0, 10, .inl (fun _ => 0))), (q243, .inr (5, [.ref q244, .ref q305, .int 0, .int 0, .int 0, .ref q306, .int 0, .ref q307])), (q305, .inr (0, [.int 0, .int 0, .int 0, .int 0, .int 0, .ref q308])), (q308, .inl (a 0, 10, .inl (fun _ => 0))), (q306, .inl (a 0, 8, .inl (fun _ => 0))), (q307, .inl (a 0, 8, .inl (fun _ => 0))), (q309, .inl (a 5, 4, .inr (.inr (.inr (.inr (fun _ => none)))))), (q310, .inr (0, [.int 0, .int 0, .int 0, .int 0, .int 0, .ref q316])), (q316, .inl (a 0, 10, .inl (fun _ => 0))), (q317, .inr (4, [.ref q355, .ref q356, .int 0, .int 0, .int 0, .ref q357, .ref q358, .ref q359])), (q355, .inr (6, [.ref q360, .ref q361, .ref q362, .int 0, .int 0, .int 0, .int 0, .int 0, .int 0])), (q360, .inl (a 0, 401, .inl (fun _ => 0))), (q361, .inl (a 0, 401, .inl (fun _ => 0))), (q362, .inl (a 0, 401, .inl (fun _ => 0))), (q356, .inl (a 0, 400, .inl (fun _ => 0))), (q357, .inl (a 0, 12, .inl (fun _ => 0))), (q358, .inl (a 0, 12, .inl (fun _ => 0))), (q359, .inl (a 0, 12, .inl (fun _ => 0))), (q363, .inr (2, [.ref q369])), (q369, .inl (a 1, 32, .inr (.inl (fun _ => 0)))), (q370, .inr (1, [.ref q378, .ref q379, .int 0, .long 0])), (q378, .inl (a 1, 2048, .inr (.inl (fun _ => 0)))), (q379, .inl (a 1, 2048, .inr (.inl (fun _ => 0))))] := hD
  exact retMv C rfl (0, [q241, q242, q243, q309, q310, q317, q363, q370, q244, q272, q273, q274, q275, q276, q277, q278, q279, q280, q281, q282, q283, q305, q306, q307, q308, q316, q355, q356, q357, q358, q359, q360, q361, q362, q369, q378, q379], [], [], [], []) ⟨q241, q242, q243, q309, q310, q317, q363, q370, q244, q272, q273, q274, q275, q276, q277, q278, q279, q280, q281, q282, q283, q305, q306, q307, q308, q316, q355, q356, q357, q358, q359, q360, q361, q362, q369, q378, q379, rfl⟩ hP hD hS (Nat.le_of_ble_eq_true rfl) (Nat.le_of_ble_eq_true rfl) dX8_init_108

set_option maxHeartbeats 4000000 in
set_option maxRecDepth 100000 in
theorem c_X9_init_0 (l : Launch) (D : va_G) (a : Nat → ClassId) (q420 : Nat) (sz : Nat) : CMv (S := SS) l MX9_init 1 20 22 4380 D a [.ref q420] [(q420, .inr (9, [.null, .int 0, .int 0, .null, .null, .null, .null, .int 0, .int 0, .int 0, .null, .null, .int 0, .int 0, .int 0, .int 0, .int 0, .int 0, .int 0, .null, .int 0, .null, .int 0, .null, .null, .null, .null, .null, .null, .null, .null, .null, .null, .null, .null, .null]))] sz (fun u => (∃ q443 : Nat, ∃ q444 : Nat, ∃ q445 : Nat, ∃ q446 : Nat, ∃ q447 : Nat, ∃ q448 : Nat, ∃ q449 : Nat, ∃ q450 : Nat, ∃ q451 : Nat, ∃ q452 : Nat, ∃ q453 : Nat, ∃ q454 : Nat, ∃ q455 : Nat, ∃ q456 : Nat, ∃ q457 : Nat, ∃ q458 : Nat, ∃ q459 : Nat, ∃ q460 : Nat, ∃ q461 : Nat, ∃ q462 : Nat, ∃ q463 : Nat, ∃ q464 : Nat, u = (0, [q443, q444, q445, q446, q447, q448, q449, q450, q451, q452, q453, q454, q455, q456, q457, q458, q459, q460, q461, q462, q463, q464], [], [], [], []))) (fun u => pk [[(q420, .inr (9, [.ref (u.2.1.getD 0 0), .int 0, .int 0, .ref (u.2.1.getD 1 0), .ref (u.2.1.getD 2 0), .ref (u.2.1.getD 3 0), .ref (u.2.1.getD 4 0), .int 0, .int 0, .int 0, .ref (u.2.1.getD 5 0), .ref (u.2.1.getD 6 0), .int 0, .int 0, .int 0, .int 0, .int 0, .int 0, .int 0, .ref (u.2.1.getD 7 0), .int 0, .ref (u.2.1.getD 8 0), .int 0, .ref (u.2.1.getD 9 0), .ref (u.2.1.getD 10 0), .ref (u.2.1.getD 11 0), .ref (u.2.1.getD 12 0), .ref (u.2.1.getD 13 0), .ref (u.2.1.getD 14 0), .ref (u.2.1.getD 15 0), .ref (u.2.1.getD 16 0), .ref (u.2.1.getD 17 0), .ref (u.2.1.getD 18 0), .ref (u.2.1.getD 19 0), .ref (u.2.1.getD 20 0), .ref (u.2.1.getD 21 0)])), ((u.2.1.getD 0 0), .inl (a 2, 400, .inl (fun _ => 0))), ((u.2.1.getD 1 0), .inl (a 0, 2400, .inl (fun _ => 0))), ((u.2.1.getD 2 0), .inl (a 0, 7, .inl (fun _ => 0))), ((u.2.1.getD 3 0), .inl (a 0, 360, .inl (fun _ => 0))), ((u.2.1.getD 4 0), .inl (a 0, 6, .inl (fun _ => 0))), ((u.2.1.getD 5 0), .inl (a 0, 18, .inl (fun _ => 0))), ((u.2.1.getD 6 0), .inl (a 0, 40, .inl (fun _ => 0))), ((u.2.1.getD 7 0), .inl (a 0, 400, .inl (fun _ => 0))), ((u.2.1.getD 8 0), .inl (a 1, 64, .inr (.inl (fun _ => 0)))), ((u.2.1.getD 9 0), .inl (a 1, 9, .inr (.inl (fun _ => 0)))), ((u.2.1.getD 10 0), .inl (a 0, 104, .inl (fun _ => 0))), ((u.2.1.getD 11 0), .inl (a 0, 104, .inl (fun _ => 0))), ((u.2.1.getD 12 0), .inl (a 0, 6, .inl (fun _ => 0))), ((u.2.1.getD 13 0), .inl (a 3, 6, .inl (fun _ => 0))), ((u.2.1.getD 14 0), .inl (a 1, 6, .inr (.inl (fun _ => 0)))), ((u.2.1.getD 15 0), .inl (a 1, 6, .inr (.inl (fun _ => 0)))), ((u.2.1.getD 16 0), .inl (a 1, 6, .inr (.inl (fun _ => 0)))), ((u.2.1.getD 17 0), .inl (a 1, 6, .inr (.inl (fun _ => 0)))), ((u.2.1.getD 18 0), .inl (a 0, 6, .inl (fun _ => 0))), ((u.2.1.getD 19 0), .inl (a 0, 6, .inl (fun _ => 0))), ((u.2.1.getD 20 0), .inl (a 0, 416, .inl (fun _ => 0))), ((u.2.1.getD 21 0), .inl (a 3, 4, .inl (fun _ => 0)))]] u.1) := by
  refine entMv (by decide) (Nat.le_of_ble_eq_true rfl) ?_
  intro p e s m below meth c C hK A hA hP hD ls hl
  obtain ⟨hx, hb, hml, hown, hts, hr, hlocks, hnm⟩ := id C
  have hb : c.code = cX9_init := hb
  have hown : s.vm.findClass RX9 = some m.cls := hown
  have hS : va_S A s.heap s.heap [] := va_S.rf
  have hl : lv_has ls 1 [(0, .ref q420)] := hl
  refine lv_aload_n hx hb dX9_init_0 rfl (lv_at hl 0 rfl) ?_
  refine W.objInit hx hb hown (hts _ t_881) (hts _ t_25) (hts _ t_26) rfl (by rw [hml]; exact hl.1) rfl dX9_init_1 (Nat.le_of_ble_eq_true rfl) (Nat.le_of_ble_eq_true rfl) ?_
  refine W.eq (g2 := F0 m 4 ls []) rfl ?_
  refine lv_aload_n hx hb dX9_init_4 rfl (lv_at hl 0 rfl) ?_
  refine lv_sipush (v := 400) hx hb dX9_init_5 (by decide) ?_
  refine newA (atype := .byte) (a0 := (400, .inl (fun _ => 0))) hx hb hK 2 rfl ra_byte (hts _ t_510) rfl hP hD hS hA (fun _ => rfl) (by decide) (by decide) (by decide) (Nat.le_of_ble_eq_true rfl) (Nat.le_of_ble_eq_true rfl) dX9_init_8 (fun q443 H hP hD hS => ?_)
  have hP : va_P D classes [(q420, .inr (9, [.null, .int 0, .int 0, .null, .null, .null, .null, .int 0, .int 0, .int 0, .null, .null, .int 0, .int 0, .int 0, .int 0, .int 0, .int 0, .int 0, .null, .int 0, .null, .int 0, .null, .null, .null, .null, .null, .null, .null, .null, .null, .null, .null, .null, .null])), (q443, .inl (a 2, 400, .inl (fun _ => 0)))] H := hP
  have hD : va_D A [(q420, .inr (9, [.null, .int 0, .int 0, .null, .null, .null, .null, .int 0, .int 0, .int 0, .null, .null, .int 0, .int 0, .int 0, .int 0, .int 0, .int 0, .int 0, .null, .int 0, .null, .int 0, .null, .null, .null, .null, .null, .null, .null, .null, .null, .null, .null, .null, .null])), (q443, .inl (a 2, 400, .inl (fun _ => 0)))] := hD
  refine W.cs (cells' := 1) (slots' := 400) rfl rfl ?_
  refine va_putF (D := D) (v := .ref q443) (C := RX9) (T := TX9) (N := 36) hx hb hts iX9 tyX9 tyX9_ok nmX9 hown hK.1 hP hD hS 0 rfl rfl 0 (by decide) (hts _ t_882) (fun _ h9 => h9) rfl (hnm rfl) rfl (tyX9_ok 0 (by decide)) rfl rfl (Nat.le_of_ble_eq_true rfl) dX9_init_10 (fun H locs hP hD hS => ?_)
  have hP : va_P D classes [(q420, .inr (9, [.ref q443, .int 0, .int 0, .null, .null, .null, .null, .int 0, .int 0, .int 0, .null, .null, .int 0, .int 0, .int 0, .int 0, .int 0, .int 0, .int 0, .null, .int 0, .null, .int 0, .null, .null, .null, .null, .null, .null, .null, .null, .null, .null, .null, .null, .null])), (q443, .inl (a 2, 400, .inl (fun _ => 0)))] H := hP
  have hD : va_D A [(q420, .inr (9, [.ref q443, .int 0, .int 0, .null, .null, .null, .null, .int 0, .int 0, .int 0, .null, .null, .int 0, .int 0, .int 0, .int 0, .int 0, .int 0, .int 0, .null, .int 0, .null, .int 0, .null, .null, .null, .null, .null, .null, .null, .null, .null, .null, .null, .null, .null])), (q443, .inl (a 2, 400, .inl (fun _ => 0)))] := hD
  refine lv_aload_n hx hb dX9_init_13 rfl (lv_at hl 0 rfl) ?_
  refine lv_sipush (v := 2400) hx hb dX9_init_14 (by decide) ?_
  refine newA (atype := .int) (a0 := (2400, .inl (fun _ => 0))) hx hb hK 0 rfl ra_int (hts _ t_119) rfl hP hD hS hA (fun _ => rfl) (by decide) (by decide) (by decide) (Nat.le_of_ble_eq_true rfl) (Nat.le_of_ble_eq_true rfl) dX9_init_17 (fun q444 H hP hD hS => ?_)
  have hP : va_P D classes [(q420, .inr (9, [.ref q443, .int 0, .int 0, .null, .null, .null, .null, .int 0, .int 0, .int 0, .null, .null, .int 0, .int 0, .int 0, .int 0, .int 0, .int 0, .int 0, .null, .int 0, .null, .int 0, .null, .null, .null, .null, .null, .null, .null, .null, .null, .null, .null, .null, .null])), (q443, .inl (a 2, 400, .inl (fun _ => 0))), (q444, .inl (a 0, 2400, .inl (fun _ => 0)))] H := hP
  have hD : va_D A [(q420, .inr (9, [.ref q443, .int 0, .int 0, .null, .null, .null, .null, .int 0, .int 0, .int 0, .null, .null, .int 0, .int 0, .int 0, .int 0, .int 0, .int 0, .int 0, .null, .int 0, .null, .int 0, .null, .null, .null, .null, .null, .null, .null, .null, .null, .null, .null, .null, .null])), (q443, .inl (a 2, 400, .inl (fun _ => 0))), (q444, .inl (a 0, 2400, .inl (fun _ => 0)))] := hD
  refine W.cs (cells' := 2) (slots' := 2800) rfl rfl ?_
  refine va_putF (D := D) (v := .ref q444) (C := RX9) (T := TX9) (N := 36) hx hb hts iX9 tyX9 tyX9_ok nmX9 hown hK.1 hP hD hS 0 rfl rfl 3 (by decide) (hts _ t_885) (fun _ h9 => h9) rfl (hnm rfl) rfl (tyX9_ok 3 (by decide)) rfl rfl (Nat.le_of_ble_eq_true rfl) dX9_init_19 (fun H locs hP hD hS => ?_)
  have hP : va_P D classes [(q420, .inr (9, [.ref q443, .int 0, .int 0, .ref q444, .null, .null, .null, .int 0, .int 0, .int 0, .null, .null, .int 0, .int 0, .int 0, .int 0, .int 0, .int 0, .int 0, .null, .int 0, .null, .int 0, .null, .null, .null, .null, .null, .null, .null, .null, .null, .null, .null, .null, .null])), (q443, .inl (a 2, 400, .inl (fun _ => 0))), (q444, .inl (a 0, 2400, .inl (fun _ => 0)))] H := hP
  have hD : va_D A [(q420, .inr (9, [.ref q443, .int 0, .int 0, .ref q444, .null, .null, .null, .int 0, .int 0, .int 0, .null, .null, .int 0, .int 0, .int 0, .int 0, .int 0, .int 0, .int 0, .null, .int 0, .null, .int 0, .null, .null, .null, .null, .null, .null, .null, .null, .null, .null, .null, .null, .null])), (q443, .inl (a 2, 400, .inl (fun _ => 0))), (q444, .inl (a 0, 2400, .inl (fun _ => 0)))] := hD
  refine lv_aload_n hx hb dX9_init_22 rfl (lv_at hl 0 rfl) ?_
  refine lv_bipush (v := 7) hx hb dX9_init_23 (by decide) ?_
  refine newA (atype := .int) (a0 := (7, .inl (fun _ => 0))) hx hb hK 0 rfl ra_int (hts _ t_119) rfl hP hD hS hA (fun _ => rfl) (by decide) (by decide) (by decide) (Nat.le_of_ble_eq_true rfl) (Nat.le_of_ble_eq_true rfl) dX9_init_25 (fun q445 H hP hD hS => ?_)
  have hP : va_P D classes [(q420, .inr (9, [.ref q443, .int 0, .int 0, .ref q444, .null, .null, .null, .int 0, .int 0, .int 0, .null, .null, .int 0, .int 0, .int 0, .int 0, .int 0, .int 0, .int 0, .null, .int 0, .null, .int 0, .null, .null, .null, .null, .null, .null, .null, .null, .null, .null, .null, .null, .null])), (q443, .inl (a 2, 400, .inl (fun _ => 0))), (q444, .inl (a 0, 2400, .inl (fun _ => 0))), (q445, .inl (a 0, 7, .inl (fun _ => 0)))] H := hP
  have hD : va_D A [(q420, .inr (9, [.ref q443, .int 0, .int 0, .ref q444, .null, .null, .null, .int 0, .int 0, .int 0, .null, .null, .int 0, .int 0, .int 0, .int 0, .int 0, .int 0, .int 0, .null, .int 0, .null, .int 0, .null, .null, .null, .null, .null, .null, .null, .null, .null, .null, .null, .null, .null])), (q443, .inl (a 2, 400, .inl (fun _ => 0))), (q444, .inl (a 0, 2400, .inl (fun _ => 0))), (q445, .inl (a 0, 7, .inl (fun _ => 0)))] := hD
  refine W.cs (cells' := 3) (slots' := 2807) rfl rfl ?_
  refine va_putF (D := D) (v := .ref q445) (C := RX9) (T := TX9) (N := 36) hx hb hts iX9 tyX9 tyX9_ok nmX9 hown hK.1 hP hD hS 0 rfl rfl 4 (by decide) (hts _ t_886) (fun _ h9 => h9) rfl (hnm rfl) rfl (tyX9_ok 4 (by decide)) rfl rfl (Nat.le_of_ble_eq_true rfl) dX9_init_27 (fun H locs hP hD hS => ?_)
  have hP : va_P D classes [(q420, .inr (9, [.ref q443, .int 0, .int 0, .ref q444, .ref q445, .null, .null, .int 0, .int 0, .int 0, .null, .null, .int 0, .int 0, .int 0, .int 0, .int 0, .int 0, .int 0, .null, .int 0, .null, .int 0, .null, .null, .null, .null, .null, .null, .null, .null, .null, .null, .null, .null, .null])), (q443, .inl (a 2, 400, .inl (fun _ => 0))), (q444, .inl (a 0, 2400, .inl (fun _ => 0))), (q445, .inl (a 0, 7, .inl (fun _ => 0)))] H := hP
  have hD : va_D A [(q420, .inr (9, [.ref q443, .int 0, .int 0, .ref q444, .ref q445, .null, .null, .int 0, .int 0, .int 0, .null, .null, .int 0, .int 0, .int 0, .int 0, .int 0, .int 0, .int 0, .null, .int 0, .null, .int 0, .null, .null, .null, .null, .null, .null, .null, .null, .null, .null, .null, .null, .null])), (q443, .inl (a 2, 400, .inl (fun _ => 0))), (q444, .inl (a 0, 2400, .inl (fun _ => 0))), (q445, .inl (a 0, 7, .inl (fun _ => 0)))] := hD
  refine lv_aload_n hx hb dX9_init_30 rfl (lv_at hl 0 rfl) ?_
  refine lv_sipush (v := 360) hx hb dX9_init_31 (by decide) ?_
  refine newA (atype := .int) (a0 := (360, .inl (fun _ => 0))) hx hb hK 0 rfl ra_int (hts _ t_119) rfl hP hD hS hA (fun _ => rfl) (by decide) (by decide) (by decide) (Nat.le_of_ble_eq_true rfl) (Nat.le_of_ble_eq_true rfl) dX9_init_34 (fun q446 H hP hD hS => ?_)
  have hP : va_P D classes [(q420, .inr (9, [.ref q443, .int 0, .int 0, .ref q444, .ref q445, .null, .null, .int 0, .int 0, .int 0, .null, .null, .int 0, .int 0, .int 0, .int 0, .int 0, .int 0, .int 0, .null, .int 0, .null, .int 0, .null, .null, .null, .null, .null, .null, .null, .null, .null, .null, .null, .null, .null])), (q443, .inl (a 2, 400, .inl (fun _ => 0))), (q444, .inl (a 0, 2400, .inl (fun _ => 0))), (q445, .inl (a 0, 7, .inl (fun _ => 0))), (q446, .inl (a 0, 360, .inl (fun _ => 0)))] H := hP
  have hD : va_D A [(q420, .inr (9, [.ref q443, .int 0, .int 0, .ref q444, .ref q445, .null, .null, .int 0, .int 0, .int 0, .null, .null, .int 0, .int 0, .int 0, .int 0, .int 0, .int 0, .int 0, .null, .int 0, .null, .int 0, .null, .null, .null, .null, .null, .null, .null, .null, .null, .null, .null, .null, .null])), (q443, .inl (a 2, 400, .inl (fun _ => 0))), (q444, .inl (a 0, 2400, .inl (fun _ => 0))), (q445, .inl (a 0, 7, .inl (fun _ => 0))), (q446, .inl (a 0, 360, .inl (fun _ => 0)))] := hD
  refine W.cs (cells' := 4) (slots' := 3167) rfl rfl ?_
  refine va_putF (D := D) (v := .ref q446) (C := RX9) (T := TX9) (N := 36) hx hb hts iX9 tyX9 tyX9_ok nmX9 hown hK.1 hP hD hS 0 rfl rfl 5 (by decide) (hts _ t_887) (fun _ h9 => h9) rfl (hnm rfl) rfl (tyX9_ok 5 (by decide)) rfl rfl (Nat.le_of_ble_eq_true rfl) dX9_init_36 (fun H locs hP hD hS => ?_)
  have hP : va_P D classes [(q420, .inr (9, [.ref q443, .int 0, .int 0, .ref q444, .ref q445, .ref q446, .null, .int 0, .int 0, .int 0, .null, .null, .int 0, .int 0, .int 0, .int 0, .int 0, .int 0, .int 0, .null, .int 0, .null, .int 0, .null, .null, .null, .null, .null, .null, .null, .null, .null, .null, .null, .null, .null])), (q443, .inl (a 2, 400, .inl (fun _ => 0))), (q444, .inl (a 0, 2400, .inl (fun _ => 0))), (q445, .inl (a 0, 7, .inl (fun _ => 0))), (q446, .inl (a 0, 360, .inl (fun _ => 0)))] H := hP
  have hD : va_D A [(q420, .inr (9, [.ref q443, .int 0, .int 0, .ref q444, .ref q445, .ref q446, .null, .int 0, .int 0, .int 0, .null, .null, .int 0, .int 0, .int 0, .int 0, .int 0, .int 0, .int 0, .null, .int 0, .null, .int 0, .null, .null, .null, .null, .null, .null, .null, .null, .null, .null, .null, .null, .null])), (q443, .inl (a 2, 400, .inl (fun _ => 0))), (q444, .inl (a 0, 2400, .inl (fun _ => 0))), (q445, .inl (a 0, 7, .inl (fun _ => 0))), (q446, .inl (a 0, 360, .inl (fun _ => 0)))] := hD
  refine lv_aload_n hx hb dX9_init_39 rfl (lv_at hl 0 rfl) ?_
  refine lv_bipush (v := 6) hx hb dX9_init_40 (by decide) ?_
  refine newA (atype := .int) (a0 := (6, .inl (fun _ => 0))) hx hb hK 0 rfl ra_int (hts _ t_119) rfl hP hD hS hA (fun _ => rfl) (by decide) (by decide) (by decide) (Nat.le_of_ble_eq_true rfl) (Nat.le_of_ble_eq_true rfl) dX9_init_42 (fun q447 H hP hD hS => ?_)
  have hP : va_P D classes [(q420, .inr (9, [.ref q443, .int 0, .int 0, .ref q444, .ref q445, .ref q446, .null, .int 0, .int 0, .int 0, .null, .null, .int 0, .int 0, .int 0, .int 0, .int 0, .int 0, .int 0, .null, .int 0, .null, .int 0, .null, .null, .null, .null, .null, .null, .null, .null, .null, .null, .null, .null, .null])), (q443, .inl (a 2, 400, .inl (fun _ => 0))), (q444, .inl (a 0, 2400, .inl (fun _ => 0))), (q445, .inl (a 0, 7, .inl (fun _ => 0))), (q446, .inl (a 0, 360, .inl (fun _ => 0))), (q447, .inl (a 0, 6, .inl (fun _ => 0)))] H := hP
  have hD : va_D A [(q420, .inr (9, [.ref q443, .int 0, .int 0, .ref q444, .ref q445, .ref q446, .null, .int 0, .int 0, .int 0, .null, .null, .int 0, .int 0, .int 0, .int 0, .int 0, .int 0, .int 0, .null, .int 0, .null, .int 0, .null, .null, .null, .null, .null, .null, .null, .null, .null, .null, .null, .null, .null])), (q443, .inl (a 2, 400, .inl (fun _ => 0))), (q444, .inl (a 0, 2400, .inl (fun _ => 0))), (q445, .inl (a 0, 7, .inl (fun _ => 0))), (q446, .inl (a 0, 360, .inl (fun _ => 0))), (q447, .inl (a 0, 6, .inl (fun _ => 0)))] := hD
  refine W.cs (cells' := 5) (slots' := 3173) rfl rfl ?_
  refine va_putF (D := D) (v := .ref q447) (C := RX9) (T := TX9) (N := 36) hx hb hts iX9 tyX9 tyX9_ok nmX9 hown hK.1 hP hD hS 0 rfl rfl 6 (by decide) (hts _ t_888) (fun _ h9 => h9) rfl (hnm rfl) rfl (tyX9_ok 6 (by decide)) rfl rfl (Nat.le_of_ble_eq_true rfl) dX9_init_44 (fun H locs hP hD hS => ?_)
  have hP : va_P D classes [(q420, .inr (9, [.ref q443, .int 0, .int 0, .ref q444, .ref q445, .ref q446, .ref q447, .int 0, .int 0, .int 0, .null, .null, .int 0, .int 0, .int 0, .int 0, .int 0, .int 0, .int 0, .null, .int 0, .null, .int 0, .null, .null, .null, .null, .null, .null, .null, .null, .null, .null, .null, .null, .null])), (q443, .inl (a 2, 400, .inl (fun _ => 0))), (q444, .inl (a 0, 2400, .inl (fun _ => 0))), (q445, .inl (a 0, 7, .inl (fun _ => 0))), (q446, .inl (a 0, 360, .inl (fun _ => 0))), (q447, .inl (a 0, 6, .inl (fun _ => 0)))] H := hP
  have hD : va_D A [(q420, .inr (9, [.ref q443, .int 0, .int 0, .ref q444, .ref q445, .ref q446, .ref q447, .int 0, .int 0, .int 0, .null, .null, .int 0, .int 0, .int 0, .int 0, .int 0, .int 0, .int 0, .null, .int 0, .null, .int 0, .null, .null, .null, .null, .null, .null, .null, .null, .null, .null, .null, .null, .null])), (q443, .inl (a 2, 400, .inl (fun _ => 0))), (q444, .inl (a 0, 2400, .inl (fun _ => 0))), (q445, .inl (a 0, 7, .inl (fun _ => 0))), (q446, .inl (a 0, 360, .inl (fun _ => 0))), (q447, .inl (a 0, 6, .inl (fun _ => 0)))] := hD
  refine lv_aload_n hx hb dX9_init_47 rfl (lv_at hl 0 rfl) ?_
  refine lv_bipush (v := 18) hx hb dX9_init_48 (by decide) ?_
  refine newA (atype := .int) (a0 := (18, .inl (fun _ => 0))) hx hb hK 0 rfl ra_int (hts _ t_119) rfl hP hD hS hA (fun _ => rfl) (by decide) (by decide) (by decide) (Nat.le_of_ble_eq_true rfl) (Nat.le_of_ble_eq_true rfl) dX9_init_50 (fun q448 H hP hD hS => ?_)
  have hP : va_P D classes [(q420, .inr (9, [.ref q443, .int 0, .int 0, .ref q444, .ref q445, .ref q446, .ref q447, .int 0, .int 0, .int 0, .null, .null, .int 0, .int 0, .int 0, .int 0, .int 0, .int 0, .int 0, .null, .int 0, .null, .int 0, .null, .null, .null, .null, .null, .null, .null, .null, .null, .null, .null, .null, .null])), (q443, .inl (a 2, 400, .inl (fun _ => 0))), (q444, .inl (a 0, 2400, .inl (fun _ => 0))), (q445, .inl (a 0, 7, .inl (fun _ => 0))), (q446, .inl (a 0, 360, .inl (fun _ => 0))), (q447, .inl (a 0, 6, .inl (fun _ => 0))), (q448, .inl (a 0, 18, .inl (fun _ => 0)))] H := hP
  have hD : va_D A [(q420, .inr (9, [.ref q443, .int 0, .int 0, .ref q444, .ref q445, .ref q446, .ref q447, .int 0, .int 0, .int 0, .null, .null, .int 0, .int 0, .int 0, .int 0, .int 0, .int 0, .int 0, .null, .int 0, .null, .int 0, .null, .null, .null, .null, .null, .null, .null, .null, .null, .null, .null, .null, .null])), (q443, .inl (a 2, 400, .inl (fun _ => 0))), (q444, .inl (a 0, 2400, .inl (fun _ => 0))), (q445, .inl (a 0, 7, .inl (fun _ => 0))), (q446, .inl (a 0, 360, .inl (fun _ => 0))), (q447, .inl (a 0, 6, .inl (fun _ => 0))), (q448, .inl (a 0, 18, .inl (fun _ => 0)))] := hD
  refine W.cs (cells' := 6) (slots' := 3191) rfl rfl ?_
  refine va_putF (D := D) (v := .ref q448) (C := RX9) (T := TX9) (N := 36) hx hb hts iX9 tyX9 tyX9_ok nmX9 hown hK.1 hP hD hS 0 rfl rfl 10 (by decide) (hts _ t_892) (fun _ h9 => h9) rfl (hnm rfl) rfl (tyX9_ok 10 (by decide)) rfl rfl (Nat.le_of_ble_eq_true rfl) dX9_init_52 (fun H locs hP hD hS => ?_)
  have hP : va_P D classes [(q420, .inr (9, [.ref q443, .int 0, .int 0, .ref q444, .ref q445, .ref q446, .ref q447, .int 0, .int 0, .int 0, .ref q448, .null, .int 0, .int 0, .int 0, .int 0, .int 0, .int 0, .int 0, .null, .int 0, .null, .int 0, .null, .null, .null, .null, .null, .null, .null, .null, .null, .null, .null, .null, .null])), (q443, .inl (a 2, 400, .inl (fun _ => 0))), (q444, .inl (a 0, 2400, .inl (fun _ => 0))), (q445, .inl (a 0, 7, .inl (fun _ => 0))), (q446, .inl (a 0, 360, .inl (fun _ => 0))), (q447, .inl (a 0, 6, .inl (fun _ => 0))), (q448, .inl (a 0, 18, .inl (fun _ => 0)))] H := hP
  have hD : va_D A [(q420, .inr (9, [.ref q443, .int 0, .int 0, .ref q444, .ref q445, .ref q446, .ref q447, .int 0, .int 0, .int 0, .ref q448, .null, .int 0, .int 0, .int 0, .int 0, .int 0, .int 0, .int 0, .null, .int 0, .null, .int 0, .null, .null, .null, .null, .null, .null, .null, .null, .null, .null, .null, .null, .null])), (q443, .inl (a 2, 400, .inl (fun _ => 0))), (q444, .inl (a 0, 2400, .inl (fun _ => 0))), (q445, .inl (a 0, 7, .inl (fun _ => 0))), (q446, .inl (a 0, 360, .inl (fun _ => 0))), (q447, .inl (a 0, 6, .inl (fun _ => 0))), (q448, .inl (a 0, 18, .inl (fun _ => 0)))] := hD
  refine lv_aload_n hx hb dX9_init_55 rfl (lv_at hl 0 rfl) ?_
  refine lv_bipush (v := 40) hx hb dX9_init_56 (by decide) ?_
  refine newA (atype := .int) (a0 := (40, .inl (fun _ => 0))) hx hb hK 0 rfl ra_int (hts _ t_119) rfl hP hD hS hA (fun _ => rfl) (by decide) (by decide) (by decide) (Nat.le_of_ble_eq_true rfl) (Nat.le_of_ble_eq_true rfl) dX9_init_58 (fun q449 H hP hD hS => ?_)
  have hP : va_P D classes [(q420, .inr (9, [.ref q443, .int 0, .int 0, .ref q444, .ref q445, .ref q446, .ref q447, .int 0, .int 0, .int 0, .ref q448, .null, .int 0, .int 0, .int 0, .int 0, .int 0, .int 0, .int 0, .null, .int 0, .null, .int 0, .null, .null, .null, .null, .null, .null, .null, .null, .null, .null, .null, .null, .null])), (q443, .inl (a 2, 400, .inl (fun _ => 0))), (q444, .inl (a 0, 2400, .inl (fun _ => 0))), (q445, .inl (a 0, 7, .inl (fun _ => 0))), (q446, .inl (a 0, 360, .inl (fun _ => 0))), (q447, .inl (a 0, 6, .inl (fun _ => 0))), (q448, .inl (a 0, 18, .inl (fun _ => 0))), (q449, .inl (a 0, 40, .inl (fun _ => 0)))] H := hP
  have hD : va_D A [(q420, .inr (9, [.ref q443, .int 0, .int 0, .ref q444, .ref q445, .ref q446, .ref q447, .int 0, .int 0, .int 0, .ref q448, .null, .int 0, .int 0, .int 0, .int 0, .int 0, .int 0, .int 0, .null, .int 0, .null, .int 0, .null, .null, .null, .null, .null, .null, .null, .null, .null, .null, .null, .null, .null])), (q443, .inl (a 2, 400, .inl (fun _ => 0))), (q444, .inl (a 0, 2400, .inl (fun _ => 0))), (q445, .inl (a 0, 7, .inl (fun _ => 0))), (q446, .inl (a 0, 360, .inl (fun _ => 0))), (q447, .inl (a 0, 6, .inl (fun _ => 0))), (q448, .inl (a 0, 18, .inl (fun _ => 0))), (q449, .inl (a 0, 40, .inl (fun _ => 0)))] := hD
  refine W.cs (cells' := 7) (slots' := 3231) rfl rfl ?_
  refine va_putF (D := D) (v := .ref q449) (C := RX9) (T := TX9) (N := 36) hx hb hts iX9 tyX9 tyX9_ok nmX9 hown hK.1 hP hD hS 0 rfl rfl 11 (by decide) (hts _ t_893) (fun _ h9 => h9) rfl (hnm rfl) rfl (tyX9_ok 11 (by decide)) rfl rfl (Nat.le_of_ble_eq_true rfl) dX9_init_60 (fun H locs hP hD hS => ?_)
  have hP : va_P D classes [(q420, .inr (9, [.ref q443, .int 0, .int 0, .ref q444, .ref q445, .ref q446, .ref q447, .int 0, .int 0, .int 0, .ref q448, .ref q449, .int 0, .int 0, .int 0, .int 0, .int 0, .int 0, .int 0, .null, .int 0, .null, .int 0, .null, .null, .null, .null, .null, .null, .null, .null, .null, .null, .null, .null, .null])), (q443, .inl (a 2, 400, .inl (fun _ => 0))), (q444, .inl (a 0, 2400, .inl (fun _ => 0))), (q445, .inl (a 0, 7, .inl (fun _ => 0))), (q446, .inl (a 0, 360, .inl (fun _ => 0))), (q447, .inl (a 0, 6, .inl (fun _ => 0))), (q448, .inl (a 0, 18, .inl (fun _ => 0))), (q449, .inl (a 0, 40, .inl (fun _ => 0)))] H := hP
  have hD : va_D A [(q420, .inr (9, [.ref q443, .int 0, .int 0, .ref q444, .ref q445, .ref q446, .ref q447, .int 0, .int 0, .int 0, .ref q448, .ref q449, .int 0, .int 0, .int 0, .int 0, .int 0, .int 0, .int 0, .null, .int 0, .null, .int 0, .null, .null, .null, .null, .null, .null, .null, .null, .null, .null, .null, .null, .null])), (q443, .inl (a 2, 400, .inl (fun _ => 0))), (q444, .inl (a 0, 2400, .inl (fun _ => 0))), (q445, .inl (a 0, 7, .inl (fun _ => 0))), (q446, .inl (a 0, 360, .inl (fun _ => 0))), (q447, .inl (a 0, 6, .inl (fun _ => 0))), (q448, .inl (a 0, 18, .inl (fun _ => 0))), (q449, .inl (a 0, 40, .inl (fun _ => 0)))] := hD
  refine lv_aload_n hx hb dX9_init_63 rfl (lv_at hl 0 rfl) ?_
  refine lv_sipush (v := 400) hx hb dX9_init_64 (by decide) ?_
  refine newA (atype := .int) (a0 := (400, .inl (fun _ => 0))) hx hb hK 0 rfl ra_int (hts _ t_119) rfl hP hD hS hA (fun _ => rfl) (by decide) (by decide) (by decide) (Nat.le_of_ble_eq_true rfl) (Nat.le_of_ble_eq_true rfl) dX9_init_67 (fun q450 H hP hD hS => ?_)
  have hP : va_P D classes [(q420, .inr (9, [.ref q443, .int 0, .int 0, .ref q444, .ref q445, .ref q446, .ref q447, .int 0, .int 0, .int 0, .ref q448, .ref q449, .int 0, .int 0, .int 0, .int 0, .int 0, .int 0, .int 0, .null, .int 0, .null, .int 0, .null, .null, .null, .null, .null, .null, .null, .null, .null, .null, .null, .null, .null])), (q443, .inl (a 2, 400, .inl (fun _ => 0))), (q444, .inl (a 0, 2400, .inl (fun _ => 0))), (q445, .inl (a 0, 7, .inl (fun _ => 0))), (q446, .inl (a 0, 360, .inl (fun _ => 0))), (q447, .inl (a 0, 6, .inl (fun _ => 0))), (q448, .inl (a 0, 18, .inl (fun _ => 0))), (q449, .inl (a 0, 40, .inl (fun _ => 0))), (q450, .inl (a 0, 400, .inl (fun _ => 0)))] H := hP
  have hD : va_D A [(q420, .inr (9, [.ref q443, .int 0, .int 0, .ref q444, .ref q445, .ref q446, .ref q447, .int 0, .int 0, .int 0, .ref q448, .ref q449, .int 0, .int 0, .int 0, .int 0, .int 0, .int 0, .int 0, .null, .int 0, .null, .int 0, .null, .null, .null, .null, .null, .null, .null, .null, .null, .null, .null, .null, .null])), (q443, .inl (a 2, 400, .inl (fun _ => 0))), (q444, .inl (a 0, 2400, .inl (fun _ => 0))), (q445, .inl (a 0, 7, .inl (fun _ => 0))), (q446, .inl (a 0, 360, .inl (fun _ => 0))), (q447, .inl (a 0, 6, .inl (fun _ => 0))), (q448, .inl (a 0, 18, .inl (fun _ => 0))), (q449, .inl (a 0, 40, .inl (fun _ => 0))), (q450, .inl (a 0, 400, .inl (fun _ => 0)))] := hD
  refine W.cs (cells' := 8) (slots' := 3631) rfl rfl ?_
  refine va_putF (D := D) (v := .ref q450) (C := RX9) (T := TX9) (N := 36) hx hb hts iX9 tyX9 tyX9_ok nmX9 hown hK.1 hP hD hS 0 rfl rfl 19 (by decide) (hts _ t_901) (fun _ h9 => h9) rfl (hnm rfl) rfl (tyX9_ok 19 (by decide)) rfl rfl (Nat.le_of_ble_eq_true rfl) dX9_init_69 (fun H locs hP hD hS => ?_)
  have hP : va_P D classes [(q420, .inr (9, [.ref q443, .int 0, .int 0, .ref q444, .ref q445, .ref q446, .ref q447, .int 0, .int 0, .int 0, .ref q448, .ref q449, .int 0, .int 0, .int 0, .int 0, .int 0, .int 0, .int 0, .ref q450, .int 0, .null, .int 0, .null, .null, .null, .null, .null, .null, .null, .null, .null, .null, .null, .null, .null])), (q443, .inl (a 2, 400, .inl (fun _ => 0))), (q444, .inl (a 0, 2400, .inl (fun _ => 0))), (q445, .inl (a 0, 7, .inl (fun _ => 0))), (q446, .inl (a 0, 360, .inl (fun _ => 0))), (q447, .inl (a 0, 6, .inl (fun _ => 0))), (q448, .inl (a 0, 18, .inl (fun _ => 0))), (q449, .inl (a 0, 40, .inl (fun _ => 0))), (q450, .inl (a 0, 400, .inl (fun _ => 0)))] H := hP
  have hD : va_D A [(q420, .inr (9, [.ref q443, .int 0, .int 0, .ref q444, .ref q445, .ref q446, .ref q447, .int 0, .int 0, .int 0, .ref q448, .ref q449, .int 0, .int 0, .int 0, .int 0, .int 0, .int 0, .int 0, .ref q450, .int 0, .null, .int 0, .null, .null, .null, .null, .null, .null, .null, .null, .null, .null, .null, .null, .null])), (q443, .inl (a 2, 400, .inl (fun _ => 0))), (q444, .inl (a 0, 2400, .inl (fun _ => 0))), (q445, .inl (a 0, 7, .inl (fun _ => 0))), (q446, .inl (a 0, 360, .inl (fun _ => 0))), (q447, .inl (a 0, 6, .inl (fun _ => 0))), (q448, .inl (a 0, 18, .inl (fun _ => 0))), (q449, .inl (a 0, 40, .inl (fun _ => 0))), (q450, .inl (a 0, 400, .inl (fun _ => 0)))] := hD
  refine lv_aload_n hx hb dX9_init_72 rfl (lv_at hl 0 rfl) ?_
  refine lv_bipush (v := 64) hx hb dX9_init_73 (by decide) ?_
  refine newA (atype := .long) (a0 := (64, .inr (.inl (fun _ => 0)))) hx hb hK 1 rfl ra_long (hts _ t_278) rfl hP hD hS hA (fun _ => rfl) (by decide) (by decide) (by decide) (Nat.le_of_ble_eq_true rfl) (Nat.le_of_ble_eq_true rfl) dX9_init_75 (fun q451 H hP hD hS => ?_)
  have hP : va_P D classes [(q420, .inr (9, [.ref q443, .int 0, .int 0, .ref q444, .ref q445, .ref q446, .ref q447, .int 0, .int 0, .int 0, .ref q448, .ref q449, .int 0, .int 0, .int 0, .int 0, .int 0, .int 0, .int 0, .ref q450, .int 0, .null, .int 0, .null, .null, .null, .null, .null, .null, .null, .null, .null, .null, .null, .null, .null])), (q443, .inl (a 2, 400, .inl (fun _ => 0))), (q444, .inl (a 0, 2400, .inl (fun _ => 0))), (q445, .inl (a 0, 7, .inl (fun _ => 0))), (q446, .inl (a 0, 360, .inl (fun _ => 0))), (q447, .inl (a 0, 6, .inl (fun _ => 0))), (q448, .inl (a 0, 18, .inl (fun _ => 0))), (q449, .inl (a 0, 40, .inl (fun _ => 0))), (q450, .inl (a 0, 400, .inl (fun _ => 0))), (q451, .inl (a 1, 64, .inr (.inl (fun _ => 0))))] H := hP
  have hD : va_D A [(q420, .inr (9, [.ref q443, .int 0, .int 0, .ref q444, .ref q445, .ref q446, .ref q447, .int 0, .int 0, .int 0, .ref q448, .ref q449, .int 0, .int 0, .int 0, .int 0, .int 0, .int 0, .int 0, .ref q450, .int 0, .null, .int 0, .null, .null, .null, .null, .null, .null, .null, .null, .null, .null, .null, .null, .null])), (q443, .inl (a 2, 400, .inl (fun _ => 0))), (q444, .inl (a 0, 2400, .inl (fun _ => 0))), (q445, .inl (a 0, 7, .inl (fun _ => 0))), (q446, .inl (a 0, 360, .inl (fun _ => 0))), (q447, .inl (a 0, 6, .inl (fun _ => 0))), (q448, .inl (a 0, 18, .inl (fun _ => 0))), (q449, .inl (a 0, 40, .inl (fun _ => 0))), (q450, .inl (a 0, 400, .inl (fun _ => 0))), (q451, .inl (a 1, 64, .inr (.inl (fun _ => 0))))] := hD
  refine W.cs (cells' := 9) (slots' := 3695) rfl rfl ?_
  refine va_putF (D := D) (v := .ref q451) (C := RX9) (T := TX9) (N := 36) hx hb hts iX9 tyX9 tyX9_ok nmX9 hown hK.1 hP hD hS 0 rfl rfl 21 (by decide) (hts _ t_903) (fun _ h9 => h9) rfl (hnm rfl) rfl (tyX9_ok 21 (by decide)) rfl rfl (Nat.le_of_ble_eq_true rfl) dX9_init_77 (fun H locs hP hD hS => ?_)
  have hP : va_P D classes [(q420, .inr (9, [.ref q443, .int 0, .int 0, .ref q444, .ref q445, .ref q446, .ref q447, .int 0, .int 0, .int 0, .ref q448, .ref q449, .int 0, .int 0, .int 0, .int 0, .int 0, .int 0, .int 0, .ref q450, .int 0, .ref q451, .int 0, .null, .null, .null, .null, .null, .null, .null, .null, .null, .null, .null, .null, .null])), (q443, .inl (a 2, 400, .inl (fun _ => 0))), (q444, .inl (a 0, 2400, .inl (fun _ => 0))), (q445, .inl (a 0, 7, .inl (fun _ => 0))), (q446, .inl (a 0, 360, .inl (fun _ => 0))), (q447, .inl (a 0, 6, .inl (fun _ => 0))), (q448, .inl (a 0, 18, .inl (fun _ => 0))), (q449, .inl (a 0, 40, .inl (fun _ => 0))), (q450, .inl (a 0, 400, .inl (fun _ => 0))), (q451, .inl (a 1, 64, .inr (.inl (fun _ => 0))))] H := hP
  have hD : va_D A [(q420, .inr (9, [.ref q443, .int 0, .int 0, .ref q444, .ref q445, .ref q446, .ref q447, .int 0, .int 0, .int 0, .ref q448, .ref q449, .int 0, .int 0, .int 0, .int 0, .int 0, .int 0, .int 0, .ref q450, .int 0, .ref q451, .int 0, .null, .null, .null, .null, .null, .null, .null, .null, .null, .null, .null, .null, .null])), (q443, .inl (a 2, 400, .inl (fun _ => 0))), (q444, .inl (a 0, 2400, .inl (fun _ => 0))), (q445, .inl (a 0, 7, .inl (fun _ => 0))), (q446, .inl (a 0, 360, .inl (fun _ => 0))), (q447, .inl (a 0, 6, .inl (fun _ => 0))), (q448, .inl (a 0, 18, .inl (fun _ => 0))), (q449, .inl (a 0, 40, .inl (fun _ => 0))), (q450, .inl (a 0, 400, .inl (fun _ => 0))), (q451, .inl (a 1, 64, .inr (.inl (fun _ => 0))))] := hD
  refine lv_aload_n hx hb dX9_init_80 rfl (lv_at hl 0 rfl) ?_
  refine lv_bipush (v := 9) hx hb dX9_init_81 (by decide) ?_
  refine newA (atype := .long) (a0 := (9, .inr (.inl (fun _ => 0)))) hx hb hK 1 rfl ra_long (hts _ t_278) rfl hP hD hS hA (fun _ => rfl) (by decide) (by decide) (by decide) (Nat.le_of_ble_eq_true rfl) (Nat.le_of_ble_eq_true rfl) dX9_init_83 (fun q452 H hP hD hS => ?_)
  have hP : va_P D classes [(q420, .inr (9, [.ref q443, .int 0, .int 0, .ref q444, .ref q445, .ref q446, .ref q447, .int 0, .int 0, .int 0, .ref q448, .ref q449, .int 0, .int 0, .int 0, .int 0, .int 0, .int 0, .int 0, .ref q450, .int 0, .ref q451, .int 0, .null, .null, .null, .null, .null, .null, .null, .null, .null, .null, .null, .null, .null])), (q443, .inl (a 2, 400, .inl (fun _ => 0))), (q444, .inl (a 0, 2400, .inl (fun _ => 0))), (q445, .inl (a 0, 7, .inl (fun _ => 0))), (q446, .inl (a 0, 360, .inl (fun _ => 0))), (q447, .inl (a 0, 6, .inl (fun _ => 0))), (q448, .inl (a 0, 18, .inl (fun _ => 0))), (q449, .inl (a 0, 40, .inl (fun _ => 0))), (q450, .inl (a 0, 400, .inl (fun _ => 0))), (q451, .inl (a 1, 64, .inr (.inl (fun _ => 0)))), (q452, .inl (a 1, 9, .inr (.inl (fun _ => 0))))] H := hP
  have hD : va_D A [(q420, .inr (9, [.ref q443, .int 0, .int 0, .ref q444, .ref q445, .ref q446, .ref q447, .int 0, .int 0, .int 0, .ref q448, .ref q449, .int 0, .int 0, .int 0, .int 0, .int 0, .int 0, .int 0, .ref q450, .int 0, .ref q451, .int 0, .null, .null, .null, .null, .null, .null, .null, .null, .null, .null, .null, .null, .null])), (q443, .inl (a 2, 400, .inl (fun _ => 0))), (q444, .inl (a 0, 2400, .inl (fun _ => 0))), (q445, .inl (a 0, 7, .inl (fun _ => 0))), (q446, .inl (a 0, 360, .inl (fun _ => 0))), (q447, .inl (a 0, 6, .inl (fun _ => 0))), (q448, .inl (a 0, 18, .inl (fun _ => 0))), (q449, .inl (a 0, 40, .inl (fun _ => 0))), (q450, .inl (a 0, 400, .inl (fun _ => 0))), (q451, .inl (a 1, 64, .inr (.inl (fun _ => 0)))), (q452, .inl (a 1, 9, .inr (.inl (fun _ => 0))))] := hD
  refine W.cs (cells' := 10) (slots' := 3704) rfl rfl ?_
  refine va_putF (D := D) (v := .ref q452) (C := RX9) (T := TX9) (N := 36) hx hb hts iX9 tyX9 tyX9_ok nmX9 hown hK.1 hP hD hS 0 rfl rfl 23 (by decide) (hts _ t_905) (fun _ h9 => h9) rfl (hnm rfl) rfl (tyX9_ok 23 (by decide)) rfl rfl (Nat.le_of_ble_eq_true rfl) dX9_init_85 (fun H locs hP hD hS => ?_)
  have hP : va_P D classes [(q420, .inr (9, [.ref q443, .int 0, .int 0, .ref q444, .ref q445, .ref q446, .ref q447, .int 0, .int 0, .int 0, .ref q448, .ref q449, .int 0, .int 0, .int 0, .int 0, .int 0, .int 0, .int 0, .ref q450, .int 0, .ref q451, .int 0, .ref q452, .null, .null, .null, .null, .null, .null, .null, .null, .null, .null, .null, .null])), (q443, .inl (a 2, 400, .inl (fun _ => 0))), (q444, .inl (a 0, 2400, .inl (fun _ => 0))), (q445, .inl (a 0, 7, .inl (fun _ => 0))), (q446, .inl (a 0, 360, .inl (fun _ => 0))), (q447, .inl (a 0, 6, .inl (fun _ => 0))), (q448, .inl (a 0, 18, .inl (fun _ => 0))), (q449, .inl (a 0, 40, .inl (fun _ => 0))), (q450, .inl (a 0, 400, .inl (fun _ => 0))), (q451, .inl (a 1, 64, .inr (.inl (fun _ => 0)))), (q452, .inl (a 1, 9, .inr (.inl (fun _ => 0))))] H := hP
  have hD : va_D A [(q420, .inr (9, [.ref q443, .int 0, .int 0, .ref q444, .ref q445, .ref q446, .ref q447, .int 0, .int 0, .int 0, .ref q448, .ref q449, .int 0, .int 0, .int 0, .int 0, .int 0, .int 0, .int 0, .ref q450, .int 0, .ref q451, .int 0, .ref q452, .null, .null, .null, .null, .null, .null, .null, .null, .null, .null, .null, .null])), (q443, .inl (a 2, 400, .inl (fun _ => 0))), (q444, .inl (a 0, 2400, .inl (fun _ => 0))), (q445, .inl (a 0, 7, .inl (fun _ => 0))), (q446, .inl (a 0, 360, .inl (fun _ => 0))), (q447, .inl (a 0, 6, .inl (fun _ => 0))), (q448, .inl (a 0, 18, .inl (fun _ => 0))), (q449, .inl (a 0, 40, .inl (fun _ => 0))), (q450, .inl (a 0, 400, .inl (fun _ => 0))), (q451, .inl (a 1, 64, .inr (.inl (fun _ => 0)))), (q452, .inl (a 1, 9, .inr (.inl (fun _ => 0))))] := hD
  refine lv_aload_n hx hb dX9_init_88 rfl (lv_at hl 0 rfl) ?_
  refine lv_bipush (v := 104) hx hb dX9_init_89 (by decide) ?_
  refine newA (atype := .int) (a0 := (104, .inl (fun _ => 0))) hx hb hK 0 rfl ra_int (hts _ t_119) rfl hP hD hS hA (fun _ => rfl) (by decide) (by decide) (by decide) (Nat.le_of_ble_eq_true rfl) (Nat.le_of_ble_eq_true rfl) dX9_init_91 (fun q453 H hP hD hS => ?_)
  have hP : va_P D classes [(q420, .inr (9, [.ref q443, .int 0, .int 0, .ref q444, .ref q445, .ref q446, .ref q447, .int 0, .int 0, .int 0, .ref q448, .ref q449, .int 0, .int 0, .int 0, .int 0, .int 0, .int 0, .int 0, .ref q450, .int 0, .ref q451, .int 0, .ref q452, .null, .null, .null, .null, .null, .null, .null, .null, .null, .null, .null, .null])), (q443, .inl (a 2, 400, .inl (fun _ => 0))), (q444, .inl (a 0, 2400, .inl (fun _ => 0))), (q445, .inl (a 0, 7, .inl (fun _ => 0))), (q446, .inl (a 0, 360, .inl (fun _ => 0))), (q447, .inl (a 0, 6, .inl (fun _ => 0))), (q448, .inl (a 0, 18, .inl (fun _ => 0))), (q449, .inl (a 0, 40, .inl (fun _ => 0))), (q450, .inl (a 0, 400, .inl (fun _ => 0))), (q451, .inl (a 1, 64, .inr (.inl (fun _ => 0)))), (q452, .inl (a 1, 9, .inr (.inl (fun _ => 0)))), (q453, .inl (a 0, 104, .inl (fun _ => 0)))] H := hP
  have hD : va_D A [(q420, .inr (9, [.ref q443, .int 0, .int 0, .ref q444, .ref q445, .ref q446, .ref q447, .int 0, .int 0, .int 0, .ref q448, .ref q449, .int 0, .int 0, .int 0, .int 0, .int 0, .int 0, .int 0, .ref q450, .int 0, .ref q451, .int 0, .ref q452, .null, .null, .null, .null, .null, .null, .null, .null, .null, .null, .null, .null])), (q443, .inl (a 2, 400, .inl (fun _ => 0))), (q444, .inl (a 0, 2400, .inl (fun _ => 0))), (q445, .inl (a 0, 7, .inl (fun _ => 0))), (q446, .inl (a 0, 360, .inl (fun _ => 0))), (q447, .inl (a 0, 6, .inl (fun _ => 0))), (q448, .inl (a 0, 18, .inl (fun _ => 0))), (q449, .inl (a 0, 40, .inl (fun _ => 0))), (q450, .inl (a 0, 400, .inl (fun _ => 0))), (q451, .inl (a 1, 64, .inr (.inl (fun _ => 0)))), (q452, .inl (a 1, 9, .inr (.inl (fun _ => 0)))), (q453, .inl (a 0, 104, .inl (fun _ => 0)))] := hD
  refine W.cs (cells' := 11) (slots' := 3808) rfl rfl ?_
  refine va_putF (D := D) (v := .ref q453) (C := RX9) (T := TX9) (N := 36) hx hb hts iX9 tyX9 tyX9_ok nmX9 hown hK.1 hP hD hS 0 rfl rfl 24 (by decide) (hts _ t_906) (fun _ h9 => h9) rfl (hnm rfl) rfl (tyX9_ok 24 (by decide)) rfl rfl (Nat.le_of_ble_eq_true rfl) dX9_init_93 (fun H locs hP hD hS => ?_)
  have hP : va_P D classes [(q420, .inr (9, [.ref q443, .int 0, .int 0, .ref q444, .ref q445, .ref q446, .ref q447, .int 0, .int 0, .int 0, .ref q448, .ref q449, .int 0, .int 0, .int 0, .int 0, .int 0, .int 0, .int 0, .ref q450, .int 0, .ref q451, .int 0, .ref q452, .ref q453, .null, .null, .null, .null, .null, .null, .null, .null, .null, .null, .null])), (q443, .inl (a 2, 400, .inl (fun _ => 0))), (q444, .inl (a 0, 2400, .inl (fun _ => 0))), (q445, .inl (a 0, 7, .inl (fun _ => 0))), (q446, .inl (a 0, 360, .inl (fun _ => 0))), (q447, .inl (a 0, 6, .inl (fun _ => 0))), (q448, .inl (a 0, 18, .inl (fun _ => 0))), (q449, .inl (a 0, 40, .inl (fun _ => 0))), (q450, .inl (a 0, 400, .inl (fun _ => 0))), (q451, .inl (a 1, 64, .inr (.inl (fun _ => 0)))), (q452, .inl (a 1, 9, .inr (.inl (fun _ => 0)))), (q453, .inl (a 0, 104, .inl (fun _ => 0)))] H := hP
  have hD : va_D A [(q420, .inr (9, [.ref q443, .int 0, .int 0, .ref q444, .ref q445, .ref q446, .ref q447, .int 0, .int 0, .int 0, .ref q448, .ref q449, .int 0, .int 0, .int 0, .int 0, .int 0, .int 0, .int 0, .ref q450, .int 0, .ref q451, .int 0, .ref q452, .ref q453, .null, .null, .null, .null, .null, .null, .null, .null, .null, .null, .null])), (q443, .inl (a 2, 400, .inl (fun _ => 0))), (q444, .inl (a 0, 2400, .inl (fun _ => 0))), (q445, .inl (a 0, 7, .inl (fun _ => 0))), (q446, .inl (a 0, 360, .inl (fun _ => 0))), (q447, .inl (a 0, 6, .inl (fun _ => 0))), (q448, .inl (a 0, 18, .inl (fun _ => 0))), (q449, .inl (a 0, 40, .inl (fun _ => 0))), (q450, .inl (a 0, 400, .inl (fun _ => 0))), (q451, .inl (a 1, 64, .inr (.inl (fun _ => 0)))), (q452, .inl (a 1, 9, .inr (.inl (fun _ => 0)))), (q453, .inl (a 0, 104, .inl (fun _ => 0)))] := hD
  refine lv_aload_n hx hb dX9_init_96 rfl (lv_at hl 0 rfl) ?_
  refine lv_bipush (v := 104) hx hb dX9_init_97 (by decide) ?_
  refine newA (atype := .int) (a0 := (104, .inl (fun _ => 0))) hx hb hK 0 rfl ra_int (hts _ t_119) rfl hP hD hS hA (fun _ => rfl) (by decide) (by decide) (by decide) (Nat.le_of_ble_eq_true rfl) (Nat.le_of_ble_eq_true rfl) dX9_init_99 (fun q454 H hP hD hS => ?_)
  have hP : va_P D classes [(q420, .inr (9, [.ref q443, .int 0, .int 0, .ref q444, .ref q445, .ref q446, .ref q447, .int 0, .int 0, .int 0, .ref q448, .ref q449, .int 0, .int 0, .int 0, .int 0, .int 0, .int 0, .int 0, .ref q450, .int 0, .ref q451, .int 0, .ref q452, .ref q453, .null, .null, .null, .null, .null, .null, .null, .null, .null, .null, .null])), (q443, .inl (a 2, 400, .inl (fun _ => 0))), (q444, .inl (a 0, 2400, .inl (fun _ => 0))), (q445, .inl (a 0, 7, .inl (fun _ => 0))), (q446, .inl (a 0, 360, .inl (fun _ => 0))), (q447, .inl (a 0, 6, .inl (fun _ => 0))), (q448, .inl (a 0, 18, .inl (fun _ => 0))), (q449, .inl (a 0, 40, .inl (fun _ => 0))), (q450, .inl (a 0, 400, .inl (fun _ => 0))), (q451, .inl (a 1, 64, .inr (.inl (fun _ => 0)))), (q452, .inl (a 1, 9, .inr (.inl (fun _ => 0)))), (q453, .inl (a 0, 104, .inl (fun _ => 0))), (q454, .inl (a 0, 104, .inl (fun _ => 0)))] H := hP
  have hD : va_D A [(q420, .inr (9, [.ref q443, .int 0, .int 0, .ref q444, .ref q445, .ref q446, .ref q447, .int 0, .int 0, .int 0, .ref q448, .ref q449, .int 0, .int 0, .int 0, .int 0, .int 0, .int 0, .int 0, .ref q450, .int 0, .ref q451, .int 0, .ref q452, .ref q453, .null, .null, .null, .null, .null, .null, .null, .null, .null, .null, .null])), (q443, .inl (a 2, 400, .inl (fun _ => 0))), (q444, .inl (a 0, 2400, .inl (fun _ => 0))), (q445, .inl (a 0, 7, .inl (fun _ => 0))), (q446, .inl (a 0, 360, .inl (fun _ => 0))), (q447, .inl (a 0, 6, .inl (fun _ => 0))), (q448, .inl (a 0, 18, .inl (fun _ => 0))), (q449, .inl (a 0, 40, .inl (fun _ => 0))), (q450, .inl (a 0, 400, .inl (fun _ => 0))), (q451, .inl (a 1, 64, .inr (.inl (fun _ => 0)))), (q452, .inl (a 1, 9, .inr (.inl (fun _ => 0)))), (q453, .inl (a 0, 104, .inl (fun _ => 0))), (q454, .inl (a 0, 104, .inl (fun _ => 0)))] := hD
  refine W.cs (cells' := 12) (slots' := 3912) rfl rfl ?_
  refine va_putF (D := D) (v := .ref q454) (C := RX9) (T := TX9) (N := 36) hx hb hts iX9 tyX9 tyX9_ok nmX9 hown hK.1 hP hD hS 0 rfl rfl 25 (by decide) (hts _ t_907) (fun _ h9 => h9) rfl (hnm rfl) rfl (tyX9_ok 25 (by decide)) rfl rfl (Nat.le_of_ble_eq_true rfl) dX9_init_101 (fun H locs hP hD hS => ?_)
  have hP : va_P D classes [(q420, .inr (9, [.ref q443, .int 0, .int 0, .ref q444, .ref q445, .ref q446, .ref q447, .int 0, .int 0, .int 0, .ref q448, .ref q449, .int 0, .int 0, .int 0, .int 0, .int 0, .int 0, .int 0, .ref q450, .int 0, .ref q451, .int 0, .ref q452, .ref q453, .ref q454, .null, .null, .null, .null, .null, .null, .null, .null, .null, .null])), (q443, .inl (a 2, 400, .inl (fun _ => 0))), (q444, .inl (a 0, 2400, .inl (fun _ => 0))), (q445, .inl (a 0, 7, .inl (fun _ => 0))), (q446, .inl (a 0, 360, .inl (fun _ => 0))), (q447, .inl (a 0, 6, .inl (fun _ => 0))), (q448, .inl (a 0, 18, .inl (fun _ => 0))), (q449, .inl (a 0, 40, .inl (fun _ => 0))), (q450, .inl (a 0, 400, .inl (fun _ => 0))), (q451, .inl (a 1, 64, .inr (.inl (fun _ => 0)))), (q452, .inl (a 1, 9, .inr (.inl (fun _ => 0)))), (q453, .inl (a 0, 104, .inl (fun _ => 0))), (q454, .inl (a 0, 104, .inl (fun _ => 0)))] H := hP
  have hD : va_D A [(q420, .inr (9, [.ref q443, .int 0, .int 0, .ref q444, .ref q445, .ref q446, .ref q447, .int 0, .int 0, .int 0, .ref q448, .ref q449, .int 0, .int 0, .int 0, .int 0, .int 0, .int 0, .int 0, .ref q450, .int 0, .ref q451, .int 0, .ref q452, .ref q453, .ref q454, .null, .null, .null, .null, .null, .null, .null, .null, .null, .null])), (q443, .inl (a 2, 400, .inl (fun _ => 0))), (q444, .inl (a 0, 2400, .inl (fun _ => 0))), (q445, .inl (a 0, 7, .inl (fun _ => 0))), (q446, .inl (a 0, 360, .inl (fun _ => 0))), (q447, .inl (a 0, 6, .inl (fun _ => 0))), (q448, .inl (a 0, 18, .inl (fun _ => 0))), (q449, .inl (a 0, 40, .inl (fun _ => 0))), (q450, .inl (a 0, 400, .inl (fun _ => 0))), (q451, .inl (a 1, 64, .inr (.inl (fun _ => 0)))), (q452, .inl (a 1, 9, .inr (.inl (fun _ => 0)))), (q453, .inl (a 0, 104, .inl (fun _ => 0))), (q454, .inl (a 0, 104, .inl (fun _ => 0)))] := hD
  refine lv_aload_n hx hb dX9_init_104 rfl (lv_at hl 0 rfl) ?_
  refine lv_bipush (v := 6) hx hb dX9_init_105 (by decide) ?_
  refine newA (atype := .int) (a0 := (6, .inl (fun _ => 0))) hx hb hK 0 rfl ra_int (hts _ t_119) rfl hP hD hS hA (fun _ => rfl) (by decide) (by decide) (by decide) (Nat.le_of_ble_eq_true rfl) (Nat.le_of_ble_eq_true rfl) dX9_init_107 (fun q455 H hP hD hS => ?_)
  have hP : va_P D classes [(q420, .inr (9, [.ref q443, .int 0, .int 0, .ref q444, .ref q445, .ref q446, .ref q447, .int 0, .int 0, .int 0, .ref q448, .ref q449, .int 0, .int 0, .int 0, .int 0, .int 0, .int 0, .int 0, .ref q450, .int 0, .ref q451, .int 0, .ref q452, .ref q453, .ref q454, .null, .null, .null, .null, .null, .null, .null, .null, .null, .null])), (q443, .inl (a 2, 400, .inl (fun _ => 0))), (q444, .inl (a 0, 2400, .inl (fun _ => 0))), (q445, .inl (a 0, 7, .inl (fun _ => 0))), (q446, .inl (a 0, 360, .inl (fun _ => 0))), (q447, .inl (a 0, 6, .inl (fun _ => 0))), (q448, .inl (a 0, 18, .inl (fun _ => 0))), (q449, .inl (a 0, 40, .inl (fun _ => 0))), (q450, .inl (a 0, 400, .inl (fun _ => 0))), (q451, .inl (a 1, 64, .inr (.inl (fun _ => 0)))), (q452, .inl (a 1, 9, .inr (.inl (fun _ => 0)))), (q453, .inl (a 0, 104, .inl (fun _ => 0))), (q454, .inl (a 0, 104, .inl (fun _ => 0))), (q455, .inl (a 0, 6, .inl (fun _ => 0)))] H := hP
  have hD : va_D A [(q420, .inr (9, [.ref q443, .int 0, .int 0, .ref q444, .ref q445, .ref q446, .ref q447, .int 0, .int 0, .int 0, .ref q448, .ref q449, .int 0, .int 0, .int 0, .int 0, .int 0, .int 0, .int 0, .ref q450, .int 0, .ref q451, .int 0, .ref q452, .ref q453, .ref q454, .null, .null, .null, .null, .null, .null, .null, .null, .null, .null])), (q443, .inl (a 2, 400, .inl (fun _ => 0))), (q444, .inl (a 0, 2400, .inl (fun _ => 0))), (q445, .inl (a 0, 7, .inl (fun _ => 0))), (q446, .inl (a 0, 360, .inl (fun _ => 0))), (q447, .inl (a 0, 6, .inl (fun _ => 0))), (q448, .inl (a 0, 18, .inl (fun _ => 0))), (q449, .inl (a 0, 40, .inl (fun _ => 0))), (q450, .inl (a 0, 400, .inl (fun _ => 0))), (q451, .inl (a 1, 64, .inr (.inl (fun _ => 0)))), (q452, .inl (a 1, 9, .inr (.inl (fun _ => 0)))), (q453, .inl (a 0, 104, .inl (fun _ => 0))), (q454, .inl (a 0, 104, .inl (fun _ => 0))), (q455, .inl (a 0, 6, .inl (fun _ => 0)))] := hD
  refine W.cs (cells' := 13) (slots' := 3918) rfl rfl ?_
  refine va_putF (D := D) (v := .ref q455) (C := RX9) (T := TX9) (N := 36) hx hb hts iX9 tyX9 tyX9_ok nmX9 hown hK.1 hP hD hS 0 rfl rfl 26 (by decide) (hts _ t_908) (fun _ h9 => h9) rfl (hnm rfl) rfl (tyX9_ok 26 (by decide)) rfl rfl (Nat.le_of_ble_eq_true rfl) dX9_init_109 (fun H locs hP hD hS => ?_)
  have hP : va_P D classes [(q420, .inr (9, [.ref q443, .int 0, .int 0, .ref q444, .ref q445, .ref q446, .ref q447, .int 0, .int 0, .int 0, .ref q448, .ref q449, .int 0, .int 0, .int 0, .int 0, .int 0, .int 0, .int 0, .ref q450, .int 0, .ref q451, .int 0, .ref q452, .ref q453, .ref q454, .ref q455, .null, .null, .null, .null, .null, .null, .null, .null, .null])), (q443, .inl (a 2, 400, .inl (fun _ => 0))), (q444, .inl (a 0, 2400, .inl (fun _ => 0))), (q445, .inl (a 0, 7, .inl (fun _ => 0))), (q446, .inl (a 0, 360, .inl (fun _ => 0))), (q447, .inl (a 0, 6, .inl (fun _ => 0))), (q448, .inl (a 0, 18, .inl (fun _ => 0))), (q449, .inl (a 0, 40, .inl (fun _ => 0))), (q450, .inl (a 0, 400, .inl (fun _ => 0))), (q451, .inl (a 1, 64, .inr (.inl (fun _ => 0)))), (q452, .inl (a 1, 9, .inr (.inl (fun _ => 0)))), (q453, .inl (a 0, 104, .inl (fun _ => 0))), (q454, .inl (a 0, 104, .inl (fun _ => 0))), (q455, .inl (a 0, 6, .inl (fun _ => 0)))] H := hP
  have hD : va_D A [(q420, .inr (9, [.ref q443, .int 0, .int 0, .ref q444, .ref q445, .ref q446, .ref q447, .int 0, .int 0, .int 0, .ref q448, .ref q449, .int 0, .int 0, .int 0, .int 0, .int 0, .int 0, .int 0, .ref q450, .int 0, .ref q451, .int 0, .ref q452, .ref q453, .ref q454, .ref q455, .null, .null, .null, .null, .null, .null, .null, .null, .null])), (q443, .inl (a 2, 400, .inl (fun _ => 0))), (q444, .inl (a 0, 2400, .inl (fun _ => 0))), (q445, .inl (a 0, 7, .inl (fun _ => 0))), (q446, .inl (a 0, 360, .inl (fun _ => 0))), (q447, .inl (a 0, 6, .inl (fun _ => 0))), (q448, .inl (a 0, 18, .inl (fun _ => 0))), (q449, .inl (a 0, 40, .inl (fun _ => 0))), (q450, .inl (a 0, 400, .inl (fun _ => 0))), (q451, .inl (a 1, 64, .inr (.inl (fun _ => 0)))), (q452, .inl (a 1, 9, .inr (.inl (fun _ => 0)))), (q453, .inl (a 0, 104, .inl (fun _ => 0))), (q454, .inl (a 0, 104, .inl (fun _ => 0))), (q455, .inl (a 0, 6, .inl (fun _ => 0)))] := hD
  refine lv_aload_n hx hb dX9_init_112 rfl (lv_at hl 0 rfl) ?_
  refine lv_bipush (v := 6) hx hb dX9_init_113 (by decide) ?_
  refine newA (atype := .boolean) (a0 := (6, .inl (fun _ => 0))) hx hb hK 3 rfl ra_bool (hts _ t_991) rfl hP hD hS hA (fun _ => rfl) (by decide) (by decide) (by decide) (Nat.le_of_ble_eq_true rfl) (Nat.le_of_ble_eq_true rfl) dX9_init_115 (fun q456 H hP hD hS => ?_)
  have hP : va_P D classes [(q420, .inr (9, [.ref q443, .int 0, .int 0, .ref q444, .ref q445, .ref q446, .ref q447, .int 0, .int 0, .int 0, .ref q448, .ref q449, .int 0, .int 0, .int 0, .int 0, .int 0, .int 0, .int 0, .ref q450, .int 0, .ref q451, .int 0, .ref q452, .ref q453, .ref q454, .ref q455, .null, .null, .null, .null, .null, .null, .null, .null, .null])), (q443, .inl (a 2, 400, .inl (fun _ => 0))), (q444, .inl (a 0, 2400, .inl (fun _ => 0))), (q445, .inl (a 0, 7, .inl (fun _ => 0))), (q446, .inl (a 0, 360, .inl (fun _ => 0))), (q447, .inl (a 0, 6, .inl (fun _ => 0))), (q448, .inl (a 0, 18, .inl (fun _ => 0))), (q449, .inl (a 0, 40, .inl (fun _ => 0))), (q450, .inl (a 0, 400, .inl (fun _ => 0))), (q451, .inl (a 1, 64, .inr (.inl (fun _ => 0)))), (q452, .inl (a 1, 9, .inr (.inl (fun _ => 0)))), (q453, .inl (a 0, 104, .inl (fun _ => 0))), (q454, .inl (a 0, 104, .inl (fun _ => 0))), (q455, .inl (a 0, 6, .inl (fun _ => 0))), (q456, .inl (a 3, 6, .inl (fun _ => 0)))] H := hP
  have hD : va_D A [(q420, .inr (9, [.ref q443, .int 0, .int 0, .ref q444, .ref q445, .ref q446, .ref q447, .int 0, .int 0, .int 0, .ref q448, .ref q449, .int 0, .int 0, .int 0, .int 0, .int 0, .int 0, .int 0, .ref q450, .int 0, .ref q451, .int 0, .ref q452, .ref q453, .ref q454, .ref q455, .null, .null, .null, .null, .null, .null, .null, .null, .null])), (q443, .inl (a 2, 400, .inl (fun _ => 0))), (q444, .inl (a 0, 2400, .inl (fun _ => 0))), (q445, .inl (a 0, 7, .inl (fun _ => 0))), (q446, .inl (a 0, 360, .inl (fun _ => 0))), (q447, .inl (a 0, 6, .inl (fun _ => 0))), (q448, .inl (a 0, 18, .inl (fun _ => 0))), (q449, .inl (a 0, 40, .inl (fun _ => 0))), (q450, .inl (a 0, 400, .inl (fun _ => 0))), (q451, .inl (a 1, 64, .inr (.inl (fun _ => 0)))), (q452, .inl (a 1, 9, .inr (.inl (fun _ => 0)))), (q453, .inl (a 0, 104, .inl (fun _ => 0))), (q454, .inl (a 0, 104, .inl (fun _ => 0))), (q455, .inl (a 0, 6, .inl (fun _ => 0))), (q456, .inl (a 3, 6, .inl (fun _ => 0)))] := hD
  refine W.cs (cells' := 14) (slots' := 3924) rfl rfl ?_
  refine va_putF (D := D) (v := .ref q456) (C := RX9) (T := TX9) (N := 36) hx hb hts iX9 tyX9 tyX9_ok nmX9 hown hK.1 hP hD hS 0 rfl rfl 27 (by decide) (hts _ t_909) (fun _ h9 => h9) rfl (hnm rfl) rfl (tyX9_ok 27 (by decide)) rfl rfl (Nat.le_of_ble_eq_true rfl) dX9_init_117 (fun H locs hP hD hS => ?_)
  have hP : va_P D classes [(q420, .inr (9, [.ref q443, .int 0, .int 0, .ref q444, .ref q445, .ref q446, .ref q447, .int 0, .int 0, .int 0, .ref q448, .ref q449, .int 0, .int 0, .int 0, .int 0, .int 0, .int 0, .int 0, .ref q450, .int 0, .ref q451, .int 0, .ref q452, .ref q453, .ref q454, .ref q455, .ref q456, .null, .null, .null, .null, .null, .null, .null, .null])), (q443, .inl (a 2, 400, .inl (fun _ => 0))), (q444, .inl (a 0, 2400, .inl (fun _ => 0))), (q445, .inl (a 0, 7, .inl (fun _ => 0))), (q446, .inl (a 0, 360, .inl (fun _ => 0))), (q447, .inl (a 0, 6, .inl (fun _ => 0))), (q448, .inl (a 0, 18, .inl (fun _ => 0))), (q449, .inl (a 0, 40, .inl (fun _ => 0))), (q450, .inl (a 0, 400, .inl (fun _ => 0))), (q451, .inl (a 1, 64, .inr (.inl (fun _ => 0)))), (q452, .inl (a 1, 9, .inr (.inl (fun _ => 0)))), (q453, .inl (a 0, 104, .inl (fun _ => 0))), (q454, .inl (a 0, 104, .inl (fun _ => 0))), (q455, .inl (a 0, 6, .inl (fun _ => 0))), (q456, .inl (a 3, 6, .inl (fun _ => 0)))] H := hP
  have hD : va_D A [(q420, .inr (9, [.ref q443, .int 0, .int 0, .ref q444, .ref q445, .ref q446, .ref q447, .int 0, .int 0, .int 0, .ref q448, .ref q449, .int 0, .int 0, .int 0, .int 0, .int 0, .int 0, .int 0, .ref q450, .int 0, .ref q451, .int 0, .ref q452, .ref q453, .ref q454, .ref q455, .ref q456, .null, .null, .null, .null, .null, .null, .null, .null])), (q443, .inl (a 2, 400, .inl (fun _ => 0))), (q444, .inl (a 0, 2400, .inl (fun _ => 0))), (q445, .inl (a 0, 7, .inl (fun _ => 0))), (q446, .inl (a 0, 360, .inl (fun _ => 0))), (q447, .inl (a 0, 6, .inl (fun _ => 0))), (q448, .inl (a 0, 18, .inl (fun _ => 0))), (q449, .inl (a 0, 40, .inl (fun _ => 0))), (q450, .inl (a 0, 400, .inl (fun _ => 0))), (q451, .inl (a 1, 64, .inr (.inl (fun _ => 0)))), (q452, .inl (a 1, 9, .inr (.inl (fun _ => 0)))), (q453, .inl (a 0, 104, .inl (fun _ => 0))), (q454, .inl (a 0, 104, .inl (fun _ => 0))), (q455, .inl (a 0, 6, .inl (fun _ => 0))), (q456, .inl (a 3, 6, .inl (fun _ => 0)))] := hD
  refine lv_aload_n hx hb dX9_init_120 rfl (lv_at hl 0 rfl) ?_
  refine lv_bipush (v := 6) hx hb dX9_init_121 (by decide) ?_
  refine newA (atype := .long) (a0 := (6, .inr (.inl (fun _ => 0)))) hx hb hK 1 rfl ra_long (hts _ t_278) rfl hP hD hS hA (fun _ => rfl) (by decide) (by decide) (by decide) (Nat.le_of_ble_eq_true rfl) (Nat.le_of_ble_eq_true rfl) dX9_init_123 (fun q457 H hP hD hS => ?_)
  have hP : va_P D classes [(q420, .inr (9, [.ref q443, .int 0, .int 0, .ref q444, .ref q445, .ref q446, .ref q447, .int 0, .int 0, .int 0, .ref q448, .ref q449, .int 0, .int 0, .int 0, .int 0, .int 0, .int 0, .int 0, .ref q450, .int 0, .ref q451, .int 0, .ref q452, .ref q453, .ref q454, .ref q455, .ref q456, .null, .null, .null, .null, .null, .null, .null, .null])), (q443, .inl (a 2, 400, .inl (fun _ => 0))), (q444, .inl (a 0, 2400, .inl (fun _ => 0))), (q445, .inl (a 0, 7, .inl (fun _ => 0))), (q446, .inl (a 0, 360, .inl (fun _ => 0))), (q447, .inl (a 0, 6, .inl (fun _ => 0))), (q448, .inl (a 0, 18, .inl (fun _ => 0))), (q449, .inl (a 0, 40, .inl (fun _ => 0))), (q450, .inl (a 0, 400, .inl (fun _ => 0))), (q451, .inl (a 1, 64, .inr (.inl (fun _ => 0)))), (q452, .inl (a 1, 9, .inr (.inl (fun _ => 0)))), (q453, .inl (a 0, 104, .inl (fun _ => 0))), (q454, .inl (a 0, 104, .inl (fun _ => 0))), (q455, .inl (a 0, 6, .inl (fun _ => 0))), (q456, .inl (a 3, 6, .inl (fun _ => 0))), (q457, .inl (a 1, 6, .inr (.inl (fun _ => 0))))] H := hP
  have hD : va_D A [(q420, .inr (9, [.ref q443, .int 0, .int 0, .ref q444, .ref q445, .ref q446, .ref q447, .int 0, .int 0, .int 0, .ref q448, .ref q449, .int 0, .int 0, .int 0, .int 0, .int 0, .int 0, .int 0, .ref q450, .int 0, .ref q451, .int 0, .ref q452, .ref q453, .ref q454, .ref q455, .ref q456, .null, .null, .null, .null, .null, .null, .null, .null])), (q443, .inl (a 2, 400, .inl (fun _ => 0))), (q444, .inl (a 0, 2400, .inl (fun _ => 0))), (q445, .inl (a 0, 7, .inl (fun _ => 0))), (q446, .inl (a 0, 360, .inl (fun _ => 0))), (q447, .inl (a 0, 6, .inl (fun _ => 0))), (q448, .inl (a 0, 18, .inl (fun _ => 0))), (q449, .inl (a 0, 40, .inl (fun _ => 0))), (q450, .inl (a 0, 400, .inl (fun _ => 0))), (q451, .inl (a 1, 64, .inr (.inl (fun _ => 0)))), (q452, .inl (a 1, 9, .inr (.inl (fun _ => 0)))), (q453, .inl (a 0, 104, .inl (fun _ => 0))), (q454, .inl (a 0, 104, .inl (fun _ => 0))), (q455, .inl (a 0, 6, .inl (fun _ => 0))), (q456, .inl (a 3, 6, .inl (fun _ => 0))), (q457, .inl (a 1, 6, .inr (.inl (fun _ => 0))))] := hD
  refine W.cs (cells' := 15) (slots' := 3930) rfl rfl ?_
  refine va_putF (D := D) (v := .ref q457) (C := RX9) (T := TX9) (N := 36) hx hb hts iX9 tyX9 tyX9_ok nmX9 hown hK.1 hP hD hS 0 rfl rfl 28 (by decide) (hts _ t_910) (fun _ h9 => h9) rfl (hnm rfl) rfl (tyX9_ok 28 (by decide)) rfl rfl (Nat.le_of_ble_eq_true rfl) dX9_init_125 (fun H locs hP hD hS => ?_)
  have hP : va_P D classes [(q420, .inr (9, [.ref q443, .int 0, .int 0, .ref q444, .ref q445, .ref q446, .ref q447, .int 0, .int 0, .int 0, .ref q448, .ref q449, .int 0, .int 0, .int 0, .int 0, .int 0, .int 0, .int 0, .ref q450, .int 0, .ref q451, .int 0, .ref q452, .ref q453, .ref q454, .ref q455, .ref q456, .ref q457, .null, .null, .null, .null, .null, .null, .null])), (q443, .inl (a 2, 400, .inl (fun _ => 0))), (q444, .inl (a 0, 2400, .inl (fun _ => 0))), (q445, .inl (a 0, 7, .inl (fun _ => 0))), (q446, .inl (a 0, 360, .inl (fun _ => 0))), (q447, .inl (a 0, 6, .inl (fun _ => 0))), (q448, .inl (a 0, 18, .inl (fun _ => 0))), (q449, .inl (a 0, 40, .inl (fun _ => 0))), (q450, .inl (a 0, 400, .inl (fun _ => 0))), (q451, .inl (a 1, 64, .inr (.inl (fun _ => 0)))), (q452, .inl (a 1, 9, .inr (.inl (fun _ => 0)))), (q453, .inl (a 0, 104, .inl (fun _ => 0))), (q454, .inl (a 0, 104, .inl (fun _ => 0))), (q455, .inl (a 0, 6, .inl (fun _ => 0))), (q456, .inl (a 3, 6, .inl (fun _ => 0))), (q457, .inl (a 1, 6, .inr (.inl (fun _ => 0))))] H := hP
  have hD : va_D A [(q420, .inr (9, [.ref q443, .int 0, .int 0, .ref q444, .ref q445, .ref q446, .ref q447, .int 0, .int 0, .int 0, .ref q448, .ref q449, .int 0, .int 0, .int 0, .int 0, .int 0, .int 0, .int 0, .ref q450, .int 0, .ref q451, .int 0, .ref q452, .ref q453, .ref q454, .ref q455, .ref q456, .ref q457, .null, .null, .null, .null, .null, .null, .null])), (q443, .inl (a 2, 400, .inl (fun _ => 0))), (q444, .inl (a 0, 2400, .inl (fun _ => 0))), (q445, .inl (a 0, 7, .inl (fun _ => 0))), (q446, .inl (a 0, 360, .inl (fun _ => 0))), (q447, .inl (a 0, 6, .inl (fun _ => 0))), (q448, .inl (a 0, 18, .inl (fun _ => 0))), (q449, .inl (a 0, 40, .inl (fun _ => 0))), (q450, .inl (a 0, 400, .inl (fun _ => 0))), (q451, .inl (a 1, 64, .inr (.inl (fun _ => 0)))), (q452, .inl (a 1, 9, .inr (.inl (fun _ => 0)))), (q453, .inl (a 0, 104, .inl (fun _ => 0))), (q454, .inl (a 0, 104, .inl (fun _ => 0))), (q455, .inl (a 0, 6, .inl (fun _ => 0))), (q456, .inl (a 3, 6, .inl (fun _ => 0))), (q457, .inl (a 1, 6, .inr (.inl (fun _ => 0))))] := hD
  refine lv_aload_n hx hb dX9_init_128 rfl (lv_at hl 0 rfl) ?_
  refine lv_bipush (v := 6) hx hb dX9_init_129 (by decide) ?_
  refine newA (atype := .long) (a0 := (6, .inr (.inl (fun _ => 0)))) hx hb hK 1 rfl ra_long (hts _ t_278) rfl hP hD hS hA (fun _ => rfl) (by decide) (by decide) (by decide) (Nat.le_of_ble_eq_true rfl) (Nat.le_of_ble_eq_true rfl) dX9_init_131 (fun q458 H hP hD hS => ?_)
  have hP : va_P D classes [(q420, .inr (9, [.ref q443, .int 0, .int 0, .ref q444, .ref q445, .ref q446, .ref q447, .int 0, .int 0, .int 0, .ref q448, .ref q449, .int 0, .int 0, .int 0, .int 0, .int 0, .int 0, .int 0, .ref q450, .int 0, .ref q451, .int 0, .ref q452, .ref q453, .ref q454, .ref q455, .ref q456, .ref q457, .null, .null, .null, .null, .null, .null, .null])), (q443, .inl (a 2, 400, .inl (fun _ => 0))), (q444, .inl (a 0, 2400, .inl (fun _ => 0))), (q445, .inl (a 0, 7, .inl (fun _ => 0))), (q446, .inl (a 0, 360, .inl (fun _ => 0))), (q447, .inl (a 0, 6, .inl (fun _ => 0))), (q448, .inl (a 0, 18, .inl (fun _ => 0))), (q449, .inl (a 0, 40, .inl (fun _ => 0))), (q450, .inl (a 0, 400, .inl (fun _ => 0))), (q451, .inl (a 1, 64, .inr (.inl (fun _ => 0)))), (q452, .inl (a 1, 9, .inr (.inl (fun _ => 0)))), (q453, .inl (a 0, 104, .inl (fun _ => 0))), (q454, .inl (a 0, 104, .inl (fun _ => 0))), (q455, .inl (a 0, 6, .inl (fun _ => 0))), (q456, .inl (a 3, 6, .inl (fun _ => 0))), (q457, .inl (a 1, 6, .inr (.inl (fun _ => 0)))), (q458, .inl (a 1, 6, .inr (.inl (fun _ => 0))))] H := hP
  have hD : va_D A [(q420, .inr (9, [.ref q443, .int 0, .int 0, .ref q444, .ref q445, .ref q446, .ref q447, .int 0, .int 0, .int 0, .ref q448, .ref q449, .int 0, .int 0, .int 0, .int 0, .int 0, .int 0, .int 0, .ref q450, .int 0, .ref q451, .int 0, .ref q452, .ref q453, .ref q454, .ref q455, .ref q456, .ref q457, .null, .null, .null, .null, .null, .null, .null])), (q443, .inl (a 2, 400, .inl (fun _ => 0))), (q444, .inl (a 0, 2400, .inl (fun _ => 0))), (q445, .inl (a 0, 7, .inl (fun _ => 0))), (q446, .inl (a 0, 360, .inl (fun _ => 0))), (q447, .inl (a 0, 6, .inl (fun _ => 0))), (q448, .inl (a 0, 18, .inl (fun _ => 0))), (q449, .inl (a 0, 40, .inl (fun _ => 0))), (q450, .inl (a 0, 400, .inl (fun _ => 0))), (q451, .inl (a 1, 64, .inr (.inl (fun _ => 0)))), (q452, .inl (a 1, 9, .inr (.inl (fun _ => 0)))), (q453, .inl (a 0, 104, .inl (fun _ => 0))), (q454, .inl (a 0, 104, .inl (fun _ => 0))), (q455, .inl (a 0, 6, .inl (fun _ => 0))), (q456, .inl (a 3, 6, .inl (fun _ => 0))), (q457, .inl (a 1, 6, .inr (.inl (fun _ => 0)))), (q458, .inl (a 1, 6, .inr (.inl (fun _ => 0))))] := hD
  refine W.cs (cells' := 16) (slots' := 3936) rfl rfl ?_
  refine va_putF (D := D) (v := .ref q458) (C := RX9) (T := TX9) (N := 36) hx hb hts iX9 tyX9 tyX9_ok nmX9 hown hK.1 hP hD hS 0 rfl rfl 29 (by decide) (hts _ t_911) (fun _ h9 => h9) rfl (hnm rfl) rfl (tyX9_ok 29 (by decide)) rfl rfl (Nat.le_of_ble_eq_true rfl) dX9_init_133 (fun H locs hP hD hS => ?_)
  have hP : va_P D classes [(q420, .inr (9, [.ref q443, .int 0, .int 0, .ref q444, .ref q445, .ref q446, .ref q447, .int 0, .int 0, .int 0, .ref q448, .ref q449, .int 0, .int 0, .int 0, .int 0, .int 0, .int 0, .int 0, .ref q450, .int 0, .ref q451, .int 0, .ref q452, .ref q453, .ref q454, .ref q455, .ref q456, .ref q457, .ref q458, .null, .null, .null, .null, .null, .null])), (q443, .inl (a 2, 400, .inl (fun _ => 0))), (q444, .inl (a 0, 2400, .inl (fun _ => 0))), (q445, .inl (a 0, 7, .inl (fun _ => 0))), (q446, .inl (a 0, 360, .inl (fun _ => 0))), (q447, .inl (a 0, 6, .inl (fun _ => 0))), (q448, .inl (a 0, 18, .inl (fun _ => 0))), (q449, .inl (a 0, 40, .inl (fun _ => 0))), (q450, .inl (a 0, 400, .inl (fun _ => 0))), (q451, .inl (a 1, 64, .inr (.inl (fun _ => 0)))), (q452, .inl (a 1, 9, .inr (.inl (fun _ => 0)))), (q453, .inl (a 0, 104, .inl (fun _ => 0))), (q454, .inl (a 0, 104, .inl (fun _ => 0))), (q455, .inl (a 0, 6, .inl (fun _ => 0))), (q456, .inl (a 3, 6, .inl (fun _ => 0))), (q457, .inl (a 1, 6, .inr (.inl (fun _ => 0)))), (q458, .inl (a 1, 6, .inr (.inl (fun _ => 0))))] H := hP
  have hD : va_D A [(q420, .inr (9, [.ref q443, .int 0, .int 0, .ref q444, .ref q445, .ref q446, .ref q447, .int 0, .int 0, .int 0, .ref q448, .ref q449, .int 0, .int 0, .int 0, .int 0, .int 0, .int 0, .int 0, .ref q450, .int 0, .ref q451, .int 0, .ref q452, .ref q453, .ref q454, .ref q455, .ref q456, .ref q457, .ref q458, .null, .null, .null, .null, .null, .null])), (q443, .inl (a 2, 400, .inl (fun _ => 0))), (q444, .inl (a 0, 2400, .inl (fun _ => 0))), (q445, .inl (a 0, 7, .inl (fun _ => 0))), (q446, .inl (a 0, 360, .inl (fun _ => 0))), (q447, .inl (a 0, 6, .inl (fun _ => 0))), (q448, .inl (a 0, 18, .inl (fun _ => 0))), (q449, .inl (a 0, 40, .inl (fun _ => 0))), (q450, .inl (a 0, 400, .inl (fun _ => 0))), (q451, .inl (a 1, 64, .inr (.inl (fun _ => 0)))), (q452, .inl (a 1, 9, .inr (.inl (fun _ => 0)))), (q453, .inl (a 0, 104, .inl (fun _ => 0))), (q454, .inl (a 0, 104, .inl (fun _ => 0))), (q455, .inl (a 0, 6, .inl (fun _ => 0))), (q456, .inl (a 3, 6, .inl (fun _ => 0))), (q457, .inl (a 1, 6, .inr (.inl (fun _ => 0)))), (q458, .inl (a 1, 6, .inr (.inl (fun _ => 0))))] := hD
  refine lv_aload_n hx hb dX9_init_136 rfl (lv_at hl 0 rfl) ?_
  refine lv_bipush (v := 6) hx hb dX9_init_137 (by decide) ?_
  refine newA (atype := .long) (a0 := (6, .inr (.inl (fun _ => 0)))) hx hb hK 1 rfl ra_long (hts _ t_278) rfl hP hD hS hA (fun _ => rfl) (by decide) (by decide) (by decide) (Nat.le_of_ble_eq_true rfl) (Nat.le_of_ble_eq_true rfl) dX9_init_139 (fun q459 H hP hD hS => ?_)
  have hP : va_P D classes [(q420, .inr (9, [.ref q443, .int 0, .int 0, .ref q444, .ref q445, .ref q446, .ref q447, .int 0, .int 0, .int 0, .ref q448, .ref q449, .int 0, .int 0, .int 0, .int 0, .int 0, .int 0, .int 0, .ref q450, .int 0, .ref q451, .int 0, .ref q452, .ref q453, .ref q454, .ref q455, .ref q456, .ref q457, .ref q458, .null, .null, .null, .null, .null, .null])), (q443, .inl (a 2, 400, .inl (fun _ => 0))), (q444, .inl (a 0, 2400, .inl (fun _ => 0))), (q445, .inl (a 0, 7, .inl (fun _ => 0))), (q446, .inl (a 0, 360, .inl (fun _ => 0))), (q447, .inl (a 0, 6, .inl (fun _ => 0))), (q448, .inl (a 0, 18, .inl (fun _ => 0))), (q449, .inl (a 0, 40, .inl (fun _ => 0))), (q450, .inl (a 0, 400, .inl (fun _ => 0))), (q451, .inl (a 1, 64, .inr (.inl (fun _ => 0)))), (q452, .inl (a 1, 9, .inr (.inl (fun _ => 0)))), (q453, .inl (a 0, 104, .inl (fun _ => 0))), (q454, .inl (a 0, 104, .inl (fun _ => 0))), (q455, .inl (a 0, 6, .inl (fun _ => 0))), (q456, .inl (a 3, 6, .inl (fun _ => 0))), (q457, .inl (a 1, 6, .inr (.inl (fun _ => 0)))), (q458, .inl (a 1, 6, .inr (.inl (fun _ => 0)))), (q459, .inl (a 1, 6, .inr (.inl (fun _ => 0))))] H := hP
  have hD : va_D A [(q420, .inr (9, [.ref q443, .int 0, .int 0, .ref q444, .ref q445, .ref q446, .ref q447, .int 0, .int 0, .int 0, .ref q448, .ref q449, .int 0, .int 0, .int 0, .int 0, .int 0, .int 0, .int 0, .ref q450, .int 0, .ref q451, .int 0, .ref q452, .ref q453, .ref q454, .ref q455, .ref q456, .ref q457, .ref q458, .null, .null, .null, .null, .null, .null])), (q443, .inl (a 2, 400, .inl (fun _ => 0))), (q444, .inl (a 0, 2400, .inl (fun _ => 0))), (q445, .inl (a 0, 7, .inl (fun _ => 0))), (q446, .inl (a 0, 360, .inl (fun _ => 0))), (q447, .inl (a 0, 6, .inl (fun _ => 0))), (q448, .inl (a 0, 18, .inl (fun _ => 0))), (q449, .inl (a 0, 40, .inl (fun _ => 0))), (q450, .inl (a 0, 400, .inl (fun _ => 0))), (q451, .inl (a 1, 64, .inr (.inl (fun _ => 0)))), (q452, .inl (a 1, 9, .inr (.inl (fun _ => 0)))), (q453, .inl (a 0, 104, .inl (fun _ => 0))), (q454, .inl (a 0, 104, .inl (fun _ => 0))), (q455, .inl (a 0, 6, .inl (fun _ => 0))), (q456, .inl (a 3, 6, .inl (fun _ => 0))), (q457, .inl (a 1, 6, .inr (.inl (fun _ => 0)))), (q458, .inl (a 1, 6, .inr (.inl (fun _ => 0)))), (q459, .inl (a 1, 6, .inr (.inl (fun _ => 0))))] := hD
  refine W.cs (cells' := 17) (slots' := 3942) rfl rfl ?_
  refine va_putF (D := D) (v := .ref q459) (C := RX9) (T := TX9) (N := 36) hx hb hts iX9 tyX9 tyX9_ok nmX9 hown hK.1 hP hD hS 0 rfl rfl 30 (by decide) (hts _ t_912) (fun _ h9 => h9) rfl (hnm rfl) rfl (tyX9_ok 30 (by decide)) rfl rfl (Nat.le_of_ble_eq_true rfl) dX9_init_141 (fun H locs hP hD hS => ?_)
  have hP : va_P D classes [(q420, .inr (9, [.ref q443, .int 0, .int 0, .ref q444, .ref q445, .ref q446, .ref q447, .int 0, .int 0, .int 0, .ref q448, .ref q449, .int 0, .int 0, .int 0, .int 0, .int 0, .int 0, .int 0, .ref q450, .int 0, .ref q451, .int 0, .ref q452, .ref q453, .ref q454, .ref q455, .ref q456, .ref q457, .ref q458, .ref q459, .null, .null, .null, .null, .null])), (q443, .inl (a 2, 400, .inl (fun _ => 0))), (q444, .inl (a 0, 2400, .inl (fun _ => 0))), (q445, .inl (a 0, 7, .inl (fun _ => 0))), (q446, .inl (a 0, 360, .inl (fun _ => 0))), (q447, .inl (a 0, 6, .inl (fun _ => 0))), (q448, .inl (a 0, 18, .inl (fun _ => 0))), (q449, .inl (a 0, 40, .inl (fun _ => 0))), (q450, .inl (a 0, 400, .inl (fun _ => 0))), (q451, .inl (a 1, 64, .inr (.inl (fun _ => 0)))), (q452, .inl (a 1, 9, .inr (.inl (fun _ => 0)))), (q453, .inl (a 0, 104, .inl (fun _ => 0))), (q454, .inl (a 0, 104, .inl (fun _ => 0))), (q455, .inl (a 0, 6, .inl (fun _ => 0))), (q456, .inl (a 3, 6, .inl (fun _ => 0))), (q457, .inl (a 1, 6, .inr (.inl (fun _ => 0)))), (q458, .inl (a 1, 6, .inr (.inl (fun _ => 0)))), (q459, .inl (a 1, 6, .inr (.inl (fun _ => 0))))] H := hP
  have hD : va_D A [(q420, .inr (9, [.ref q443, .int 0, .int 0, .ref q444, .ref q445, .ref q446, .ref q447, .int 0, .int 0, .int 0, .ref q448, .ref q449, .int 0, .int 0, .int 0, .int 0, .int 0, .int 0, .int 0, .ref q450, .int 0, .ref q451, .int 0, .ref q452, .ref q453, .ref q454, .ref q455, .ref q456, .ref q457, .ref q458, .ref q459, .null, .null, .null, .null, .null])), (q443, .inl (a 2, 400, .inl (fun _ => 0))), (q444, .inl (a 0, 2400, .inl (fun _ => 0))), (q445, .inl (a 0, 7, .inl (fun _ => 0))), (q446, .inl (a 0, 360, .inl (fun _ => 0))), (q447, .inl (a 0, 6, .inl (fun _ => 0))), (q448, .inl (a 0, 18, .inl (fun _ => 0))), (q449, .inl (a 0, 40, .inl (fun _ => 0))), (q450, .inl (a 0, 400, .inl (fun _ => 0))), (q451, .inl (a 1, 64, .inr (.inl (fun _ => 0)))), (q452, .inl (a 1, 9, .inr (.inl (fun _ => 0)))), (q453, .inl (a 0, 104, .inl (fun _ => 0))), (q454, .inl (a 0, 104, .inl (fun _ => 0))), (q455, .inl (a 0, 6, .inl (fun _ => 0))), (q456, .inl (a 3, 6, .inl (fun _ => 0))), (q457, .inl (a 1, 6, .inr (.inl (fun _ => 0)))), (q458, .inl (a 1, 6, .inr (.inl (fun _ => 0)))), (q459, .inl (a 1, 6, .inr (.inl (fun _ => 0))))] := hD
  refine lv_aload_n hx hb dX9_init_144 rfl (lv_at hl 0 rfl) ?_
  refine lv_bipush (v := 6) hx hb dX9_init_145 (by decide) ?_
  refine newA (atype := .long) (a0 := (6, .inr (.inl (fun _ => 0)))) hx hb hK 1 rfl ra_long (hts _ t_278) rfl hP hD hS hA (fun _ => rfl) (by decide) (by decide) (by decide) (Nat.le_of_ble_eq_true rfl) (Nat.le_of_ble_eq_true rfl) dX9_init_147 (fun q460 H hP hD hS => ?_)
  have hP : va_P D classes [(q420, .inr (9, [.ref q443, .int 0, .int 0, .ref q444, .ref q445, .ref q446, .ref q447, .int 0, .int 0, .int 0, .ref q448, .ref q449, .int 0, .int 0, .int 0, .int 0, .int 0, .int 0, .int 0, .ref q450, .int 0, .ref q451, .int 0, .ref q452, .ref q453, .ref q454, .ref q455, .ref q456, .ref q457, .ref q458, .ref q459, .null, .null, .null, .null, .null])), (q443, .inl (a 2, 400, .inl (fun _ => 0))), (q444, .inl (a 0, 2400, .inl (fun _ => 0))), (q445, .inl (a 0, 7, .inl (fun _ => 0))), (q446, .inl (a 0, 360, .inl (fun _ => 0))), (q447, .inl (a 0, 6, .inl (fun _ => 0))), (q448, .inl (a 0, 18, .inl (fun _ => 0))), (q449, .inl (a 0, 40, .inl (fun _ => 0))), (q450, .inl (a 0, 400, .inl (fun _ => 0))), (q451, .inl (a 1, 64, .inr (.inl (fun _ => 0)))), (q452, .inl (a 1, 9, .inr (.inl (fun _ => 0)))), (q453, .inl (a 0, 104, .inl (fun _ => 0))), (q454, .inl (a 0, 104, .inl (fun _ => 0))), (q455, .inl (a 0, 6, .inl (fun _ => 0))), (q456, .inl (a 3, 6, .inl (fun _ => 0))), (q457, .inl (a 1, 6, .inr (.inl (fun _ => 0)))), (q458, .inl (a 1, 6, .inr (.inl (fun _ => 0)))), (q459, .inl (a 1, 6, .inr (.inl (fun _ => 0)))), (q460, .inl (a 1, 6, .inr (.inl (fun _ => 0))))] H := hP
  have hD : va_D A [(q420, .inr (9, [.ref q443, .int 0, .int 0, .ref q444, .ref q445, .ref q446, .ref q447, .int 0, .int 0, .int 0, .ref q448, .ref q449, .int 0, .int 0, .int 0, .int 0, .int 0, .int 0, .int 0, .ref q450, .int 0, .ref q451, .int 0, .ref q452, .ref q453, .ref q454, .ref q455, .ref q456, .ref q457, .ref q458, .ref q459, .null, .null, .null, .null, .null])), (q443, .inl (a 2, 400, .inl (fun _ => 0))), (q444, .inl (a 0, 2400, .inl (fun _ => 0))), (q445, .inl (a 0, 7, .inl (fun _ => 0))), (q446, .inl (a 0, 360, .inl (fun _ => 0))), (q447, .inl (a 0, 6, .inl (fun _ => 0))), (q448, .inl (a 0, 18, .inl (fun _ => 0))), (q449, .inl (a 0, 40, .inl (fun _ => 0))), (q450, .inl (a 0, 400, .inl (fun _ => 0))), (q451, .inl (a 1, 64, .inr (.inl (fun _ => 0)))), (q452, .inl (a 1, 9, .inr (.inl (fun _ => 0)))), (q453, .inl (a 0, 104, .inl (fun _ => 0))), (q454, .inl (a 0, 104, .inl (fun _ => 0))), (q455, .inl (a 0, 6, .inl (fun _ => 0))), (q456, .inl (a 3, 6, .inl (fun _ => 0))), (q457, .inl (a 1, 6, .inr (.inl (fun _ => 0)))), (q458, .inl (a 1, 6, .inr (.inl (fun _ => 0)))), (q459, .inl (a 1, 6, .inr (.inl (fun _ => 0)))), (q460, .inl (a 1, 6, .inr (.inl (fun _ => 0))))] := hD
  refine W.cs (cells' := 18) (slots' := 3948) rfl rfl ?_
  refine va_putF (D := D) (v := .ref q460) (C := RX9) (T := TX9) (N := 36) hx hb hts iX9 tyX9 tyX9_ok nmX9 hown hK.1 hP hD hS 0 rfl rfl 31 (by decide) (hts _ t_913) (fun _ h9 => h9) rfl (hnm rfl) rfl (tyX9_ok 31 (by decide)) rfl rfl (Nat.le_of_ble_eq_true rfl) dX9_init_149 (fun H locs hP hD hS => ?_)
  have hP : va_P D classes [(q420, .inr (9, [.ref q443, .int 0, .int 0, .ref q444, .ref q445, .ref q446, .ref q447, .int 0, .int 0, .int 0, .ref q448, .ref q449, .int 0, .int 0, .int 0, .int 0, .int 0, .int 0, .int 0, .ref q450, .int 0, .ref q451, .int 0, .ref q452, .ref q453, .ref q454, .ref q455, .ref q456, .ref q457, .ref q458, .ref q459, .ref q460, .null, .null, .null, .null])), (q443, .inl (a 2, 400, .inl (fun _ => 0))), (q444, .inl (a 0, 2400, .inl (fun _ => 0))), (q445, .inl (a 0, 7, .inl (fun _ => 0))), (q446, .inl (a 0, 360, .inl (fun _ => 0))), (q447, .inl (a 0, 6, .inl (fun _ => 0))), (q448, .inl (a 0, 18, .inl (fun _ => 0))), (q449, .inl (a 0, 40, .inl (fun _ => 0))), (q450, .inl (a 0, 400, .inl (fun _ => 0))), (q451, .inl (a 1, 64, .inr (.inl (fun _ => 0)))), (q452, .inl (a 1, 9, .inr (.inl (fun _ => 0)))), (q453, .inl (a 0, 104, .inl (fun _ => 0))), (q454, .inl (a 0, 104, .inl (fun _ => 0))), (q455, .inl (a 0, 6, .inl (fun _ => 0))), (q456, .inl (a 3, 6, .inl (fun _ => 0))), (q457, .inl (a 1, 6, .inr (.inl (fun _ => 0)))), (q458, .inl (a 1, 6, .inr (.inl (fun _ => 0)))), (q459, .inl (a 1, 6, .inr (.inl (fun _ => 0)))), (q460, .inl (a 1, 6, .inr (.inl (fun _ => 0))))] H := hP
  have hD : va_D A [(q420, .inr (9, [.ref q443, .int 0, .int 0, .ref q444, .ref q445, .ref q446, .ref q447, .int 0, .int 0, .int 0, .ref q448, .ref q449, .int 0, .int 0, .int 0, .int 0, .int 0, .int 0, .int 0, .ref q450, .int 0, .ref q451, .int 0, .ref q452, .ref q453, .ref q454, .ref q455, .ref q456, .ref q457, .ref q458, .ref q459, .ref q460, .null, .null, .null, .null])), (q443, .inl (a 2, 400, .inl (fun _ => 0))), (q444, .inl (a 0, 2400, .inl (fun _ => 0))), (q445, .inl (a 0, 7, .inl (fun _ => 0))), (q446, .inl (a 0, 360, .inl (fun _ => 0))), (q447, .inl (a 0, 6, .inl (fun _ => 0))), (q448, .inl (a 0, 18, .inl (fun _ => 0))), (q449, .inl (a 0, 40, .inl (fun _ => 0))), (q450, .inl (a 0, 400, .inl (fun _ => 0))), (q451, .inl (a 1, 64, .inr (.inl (fun _ => 0)))), (q452, .inl (a 1, 9, .inr (.inl (fun _ => 0)))), (q453, .inl (a 0, 104, .inl (fun _ => 0))), (q454, .inl (a 0, 104, .inl (fun _ => 0))), (q455, .inl (a 0, 6, .inl (fun _ => 0))), (q456, .inl (a 3, 6, .inl (fun _ => 0))), (q457, .inl (a 1, 6, .inr (.inl (fun _ => 0)))), (q458, .inl (a 1, 6, .inr (.inl (fun _ => 0)))), (q459, .inl (a 1, 6, .inr (.inl (fun _ => 0)))), (q460, .inl (a 1, 6, .inr (.inl (fun _ => 0))))] := hD
  refine lv_aload_n hx hb dX9_init_152 rfl (lv_at hl 0 rfl) ?_
  refine lv_bipush (v := 6) hx hb dX9_init_153 (by decide) ?_
  refine newA (atype := .int) (a0 := (6, .inl (fun _ => 0))) hx hb hK 0 rfl ra_int (hts _ t_119) rfl hP hD hS hA (fun _ => rfl) (by decide) (by decide) (by decide) (Nat.le_of_ble_eq_true rfl) (Nat.le_of_ble_eq_true rfl) dX9_init_155 (fun q461 H hP hD hS => ?_)
  have hP : va_P D classes [(q420, .inr (9, [.ref q443, .int 0, .int 0, .ref q444, .ref q445, .ref q446, .ref q447, .int 0, .int 0, .int 0, .ref q448, .ref q449, .int 0, .int 0, .int 0, .int 0, .int 0, .int 0, .int 0, .ref q450, .int 0, .ref q451, .int 0, .ref q452, .ref q453, .ref q454, .ref q455, .ref q456, .ref q457, .ref q458, .ref q459, .ref q460, .null, .null, .null, .null])), (q443, .inl (a 2, 400, .inl (fun _ => 0))), (q444, .inl (a 0, 2400, .inl (fun _ => 0))), (q445, .inl (a 0, 7, .inl (fun _ => 0))), (q446, .inl (a 0, 360, .inl (fun _ => 0))), (q447, .inl (a 0, 6, .inl (fun _ => 0))), (q448, .inl (a 0, 18, .inl (fun _ => 0))), (q449, .inl (a 0, 40, .inl (fun _ => 0))), (q450, .inl (a 0, 400, .inl (fun _ => 0))), (q451, .inl (a 1, 64, .inr (.inl (fun _ => 0)))), (q452, .inl (a 1, 9, .inr (.inl (fun _ => 0)))), (q453, .inl (a 0, 104, .inl (fun _ => 0))), (q454, .inl (a 0, 104, .inl (fun _ => 0))), (q455, .inl (a 0, 6, .inl (fun _ => 0))), (q456, .inl (a 3, 6, .inl (fun _ => 0))), (q457, .inl (a 1, 6, .inr (.inl (fun _ => 0)))), (q458, .inl (a 1, 6, .inr (.inl (fun _ => 0)))), (q459, .inl (a 1, 6, .inr (.inl (fun _ => 0)))), (q460, .inl (a 1, 6, .inr (.inl (fun _ => 0)))), (q461, .inl (a 0, 6, .inl (fun _ => 0)))] H := hP
  have hD : va_D A [(q420, .inr (9, [.ref q443, .int 0, .int 0, .ref q444, .ref q445, .ref q446, .ref q447, .int 0, .int 0, .int 0, .ref q448, .ref q449, .int 0, .int 0, .int 0, .int 0, .int 0, .int 0, .int 0, .ref q450, .int 0, .ref q451, .int 0, .ref q452, .ref q453, .ref q454, .ref q455, .ref q456, .ref q457, .ref q458, .ref q459, .ref q460, .null, .null, .null, .null])), (q443, .inl (a 2, 400, .inl (fun _ => 0))), (q444, .inl (a 0, 2400, .inl (fun _ => 0))), (q445, .inl (a 0, 7, .inl (fun _ => 0))), (q446, .inl (a 0, 360, .inl (fun _ => 0))), (q447, .inl (a 0, 6, .inl (fun _ => 0))), (q448, .inl (a 0, 18, .inl (fun _ => 0))), (q449, .inl (a 0, 40, .inl (fun _ => 0))), (q450, .inl (a 0, 400, .inl (fun _ => 0))), (q451, .inl (a 1, 64, .inr (.inl (fun _ => 0)))), (q452, .inl (a 1, 9, .inr (.inl (fun _ => 0)))), (q453, .inl (a 0, 104, .inl (fun _ => 0))), (q454, .inl (a 0, 104, .inl (fun _ => 0))), (q455, .inl (a 0, 6, .inl (fun _ => 0))), (q456, .inl (a 3, 6, .inl (fun _ => 0))), (q457, .inl (a 1, 6, .inr (.inl (fun _ => 0)))), (q458, .inl (a 1, 6, .inr (.inl (fun _ => 0)))), (q459, .inl (a 1, 6, .inr (.inl (fun _ => 0)))), (q460, .inl (a 1, 6, .inr (.inl (fun _ => 0)))), (q461, .inl (a 0, 6, .inl (fun _ => 0)))] := hD
  refine W.cs (cells' := 19) (slots' := 3954) rfl rfl ?_
  refine va_putF (D := D) (v := .ref q461) (C := RX9) (T := TX9) (N := 36) hx hb hts iX9 tyX9 tyX9_ok nmX9 hown hK.1 hP hD hS 0 rfl rfl 32 (by decide) (hts _ t_914) (fun _ h9 => h9) rfl (hnm rfl) rfl (tyX9_ok 32 (by decide)) rfl rfl (Nat.le_of_ble_eq_true rfl) dX9_init_157 (fun H locs hP hD hS => ?_)
  have hP : va_P D classes [(q420, .inr (9, [.ref q443, .int 0, .int 0, .ref q444, .ref q445, .ref q446, .ref q447, .int 0, .int 0, .int 0, .ref q448, .ref q449, .int 0, .int 0, .int 0, .int 0, .int 0, .int 0, .int 0, .ref q450, .int 0, .ref q451, .int 0, .ref q452, .ref q453, .ref q454, .ref q455, .ref q456, .ref q457, .ref q458, .ref q459, .ref q460, .ref q461, .null, .null, .null])), (q443, .inl (a 2, 400, .inl (fun _ => 0))), (q444, .inl (a 0, 2400, .inl (fun _ => 0))), (q445, .inl (a 0, 7, .inl (fun _ => 0))), (q446, .inl (a 0, 360, .inl (fun _ => 0))), (q447, .inl (a 0, 6, .inl (fun _ => 0))), (q448, .inl (a 0, 18, .inl (fun _ => 0))), (q449, .inl (a 0, 40, .inl (fun _ => 0))), (q450, .inl (a 0, 400, .inl (fun _ => 0))), (q451, .inl (a 1, 64, .inr (.inl (fun _ => 0)))), (q452, .inl (a 1, 9, .inr (.inl (fun _ => 0)))), (q453, .inl (a 0, 104, .inl (fun _ => 0))), (q454, .inl (a 0, 104, .inl (fun _ => 0))), (q455, .inl (a 0, 6, .inl (fun _ => 0))), (q456, .inl (a 3, 6, .inl (fun _ => 0))), (q457, .inl (a 1, 6, .inr (.inl (fun _ => 0)))), (q458, .inl (a 1, 6, .inr (.inl (fun _ => 0)))), (q459, .inl (a 1, 6, .inr (.inl (fun _ => 0)))), (q460, .inl (a 1, 6, .inr (.inl (fun _ => 0)))), (q461, .inl (a 0, 6, .inl (fun _ => 0)))] H := hP
  have hD : va_D A [(q420, .inr (9, [.ref q443, .int 0, .int 0, .ref q444, .ref q445, .ref q446, .ref q447, .int 0, .int 0, .int 0, .ref q448, .ref q449, .int 0, .int 0, .int 0, .int 0, .int 0, .int 0, .int 0, .ref q450, .int 0, .ref q451, .int 0, .ref q452, .ref q453, .ref q454, .ref q455, .ref q456, .ref q457, .ref q458, .ref q459, .ref q460, .ref q461, .null, .null, .null])), (q443, .inl (a 2, 400, .inl (fun _ => 0))), (q444, .inl (a 0, 2400, .inl (fun _ => 0))), (q445, .inl (a 0, 7, .inl (fun _ => 0))), (q446, .inl (a 0, 360, .inl (fun _ => 0))), (q447, .inl (a 0, 6, .inl (fun _ => 0))), (q448, .inl (a 0, 18, .inl (fun _ => 0))), (q449, .inl (a 0, 40, .inl (fun _ => 0))), (q450, .inl (a 0, 400, .inl (fun _ => 0))), (q451, .inl (a 1, 64, .inr (.inl (fun _ => 0)))), (q452, .inl (a 1, 9, .inr (.inl (fun _ => 0)))), (q453, .inl (a 0, 104, .inl (fun _ => 0))), (q454, .inl (a 0, 104, .inl (fun _ => 0))), (q455, .inl (a 0, 6, .inl (fun _ => 0))), (q456, .inl (a 3, 6, .inl (fun _ => 0))), (q457, .inl (a 1, 6, .inr (.inl (fun _ => 0)))), (q458, .inl (a 1, 6, .inr (.inl (fun _ => 0)))), (q459, .inl (a 1, 6, .inr (.inl (fun _ => 0)))), (q460, .inl (a 1, 6, .inr (.inl (fun _ => 0)))), (q461, .inl (a 0, 6, .inl (fun _ => 0)))] := hD
  refine lv_aload_n hx hb dX9_init_160 rfl (lv_at hl 0 rfl) ?_
  refine lv_bipush (v := 6) hx hb dX9_init_161 (by decide) ?_
  refine newA (atype := .int) (a0 := (6, .inl (fun _ => 0))) hx hb hK 0 rfl ra_int (hts _ t_119) rfl hP hD hS hA (fun _ => rfl) (by decide) (by decide) (by decide) (Nat.le_of_ble_eq_true rfl) (Nat.le_of_ble_eq_true rfl) dX9_init_163 (fun q462 H hP hD hS => ?_)
  have hP : va_P D classes [(q420, .inr (9, [.ref q443, .int 0, .int 0, .ref q444, .ref q445, .ref q446, .ref q447, .int 0, .int 0, .int 0, .ref q448, .ref q449, .int 0, .int 0, .int 0, .int 0, .int 0, .int 0, .int 0, .ref q450, .int 0, .ref q451, .int 0, .ref q452, .ref q453, .ref q454, .ref q455, .ref q456, .ref q457, .ref q458, .ref q459, .ref q460, .ref q461, .null, .null, .null])), (q443, .inl (a 2, 400, .inl (fun _ => 0))), (q444, .inl (a 0, 2400, .inl (fun _ => 0))), (q445, .inl (a 0, 7, .inl (fun _ => 0))), (q446, .inl (a 0, 360, .inl (fun _ => 0))), (q447, .inl (a 0, 6, .inl (fun _ => 0))), (q448, .inl (a 0, 18, .inl (fun _ => 0))), (q449, .inl (a 0, 40, .inl (fun _ => 0))), (q450, .inl (a 0, 400, .inl (fun _ => 0))), (q451, .inl (a 1, 64, .inr (.inl (fun _ => 0)))), (q452, .inl (a 1, 9, .inr (.inl (fun _ => 0)))), (q453, .inl (a 0, 104, .inl (fun _ => 0))), (q454, .inl (a 0, 104, .inl (fun _ => 0))), (q455, .inl (a 0, 6, .inl (fun _ => 0))), (q456, .inl (a 3, 6, .inl (fun _ => 0))), (q457, .inl (a 1, 6, .inr (.inl (fun _ => 0)))), (q458, .inl (a 1, 6, .inr (.inl (fun _ => 0)))), (q459, .inl (a 1, 6, .inr (.inl (fun _ => 0)))), (q460, .inl (a 1, 6, .inr (.inl (fun _ => 0)))), (q461, .inl (a 0, 6, .inl (fun _ => 0))), (q462, .inl (a 0, 6, .inl (fun _ => 0)))] H := hP
  have hD : va_D A [(q420, .inr (9, [.ref q443, .int 0, .int 0, .ref q444, .ref q445, .ref q446, .ref q447, .int 0, .int 0, .int 0, .ref q448, .ref q449, .int 0, .int 0, .int 0, .int 0, .int 0, .int 0, .int 0, .ref q450, .int 0, .ref q451, .int 0, .ref q452, .ref q453, .ref q454, .ref q455, .ref q456, .ref q457, .ref q458, .ref q459, .ref q460, .ref q461, .null, .null, .null])), (q443, .inl (a 2, 400, .inl (fun _ => 0))), (q444, .inl (a 0, 2400, .inl (fun _ => 0))), (q445, .inl (a 0, 7, .inl (fun _ => 0))), (q446, .inl (a 0, 360, .inl (fun _ => 0))), (q447, .inl (a 0, 6, .inl (fun _ => 0))), (q448, .inl (a 0, 18, .inl (fun _ => 0))), (q449, .inl (a 0, 40, .inl (fun _ => 0))), (q450, .inl (a 0, 400, .inl (fun _ => 0))), (q451, .inl (a 1, 64, .inr (.inl (fun _ => 0)))), (q452, .inl (a 1, 9, .inr (.inl (fun _ => 0)))), (q453, .inl (a 0, 104, .inl (fun _ => 0))), (q454, .inl (a 0, 104, .inl (fun _ => 0))), (q455, .inl (a 0, 6, .inl (fun _ => 0))), (q456, .inl (a 3, 6, .inl (fun _ => 0))), (q457, .inl (a 1, 6, .inr (.inl (fun _ => 0)))), (q458, .inl (a 1, 6, .inr (.inl (fun _ => 0)))), (q459, .inl (a 1, 6, .inr (.inl (fun _ => 0)))), (q460, .inl (a 1, 6, .inr (.inl (fun _ => 0)))), (q461, .inl (a 0, 6, .inl (fun _ => 0))), (q462, .inl (a 0, 6, .inl (fun _ => 0)))] := hD
  refine W.cs (cells' := 20) (slots' := 3960) rfl rfl ?_
  refine va_putF (D := D) (v := .ref q462) (C := RX9) (T := TX9) (N := 36) hx hb hts iX9 tyX9 tyX9_ok nmX9 hown hK.1 hP hD hS 0 rfl rfl 33 (by decide) (hts _ t_915) (fun _ h9 => h9) rfl (hnm rfl) rfl (tyX9_ok 33 (by decide)) rfl rfl (Nat.le_of_ble_eq_true rfl) dX9_init_165 (fun H locs hP hD hS => ?_)
  have hP : va_P D classes [(q420, .inr (9, [.ref q443, .int 0, .int 0, .ref q444, .ref q445, .ref q446, .ref q447, .int 0, .int 0, .int 0, .ref q448, .ref q449, .int 0, .int 0, .int 0, .int 0, .int 0, .int 0, .int 0, .ref q450, .int 0, .ref q451, .int 0, .ref q452, .ref q453, .ref q454, .ref q455, .ref q456, .ref q457, .ref q458, .ref q459, .ref q460, .ref q461, .ref q462, .null, .null])), (q443, .inl (a 2, 400, .inl (fun _ => 0))), (q444, .inl (a 0, 2400, .inl (fun _ => 0))), (q445, .inl (a 0, 7, .inl (fun _ => 0))), (q446, .inl (a 0, 360, .inl (fun _ => 0))), (q447, .inl (a 0, 6, .inl (fun _ => 0))), (q448, .inl (a 0, 18, .inl (fun _ => 0))), (q449, .inl (a 0, 40, .inl (fun _ => 0))), (q450, .inl (a 0, 400, .inl (fun _ => 0))), (q451, .inl (a 1, 64, .inr (.inl (fun _ => 0)))), (q452, .inl (a 1, 9, .inr (.inl (fun _ => 0)))), (q453, .inl (a 0, 104, .inl (fun _ => 0))), (q454, .inl (a 0, 104, .inl (fun _ => 0))), (q455, .inl (a 0, 6, .inl (fun _ => 0))), (q456, .inl (a 3, 6, .inl (fun _ => 0))), (q457, .inl (a 1, 6, .inr (.inl (fun _ => 0)))), (q458, .inl (a 1, 6, .inr (.inl (fun _ => 0)))), (q459, .inl (a 1, 6, .inr (.inl (fun _ => 0)))), (q460, .inl (a 1, 6, .inr (.inl (fun _ => 0)))), (q461, .inl (a 0, 6, .inl (fun _ => 0))), (q462, .inl (a 0, 6, .inl (fun _ => 0)))] H := hP
  have hD : va_D A [(q420, .inr (9, [.ref q443, .int 0, .int 0, .ref q444, .ref q445, .ref q446, .ref q447, .int 0, .int 0, .int 0, .ref q448, .ref q449, .int 0, .int 0, .int 0, .int 0, .int 0, .int 0, .int 0, .ref q450, .int 0, .ref q451, .int 0, .ref q452, .ref q453, .ref q454, .ref q455, .ref q456, .ref q457, .ref q458, .ref q459, .ref q460, .ref q461, .ref q462, .null, .null])), (q443, .inl (a 2, 400, .inl (fun _ => 0))), (q444, .inl (a 0, 2400, .inl (fun _ => 0))), (q445, .inl (a 0, 7, .inl (fun _ => 0))), (q446, .inl (a 0, 360, .inl (fun _ => 0))), (q447, .inl (a 0, 6, .inl (fun _ => 0))), (q448, .inl (a 0, 18, .inl (fun _ => 0))), (q449, .inl (a 0, 40, .inl (fun _ => 0))), (q450, .inl (a 0, 400, .inl (fun _ => 0))), (q451, .inl (a 1, 64, .inr (.inl (fun _ => 0)))), (q452, .inl (a 1, 9, .inr (.inl (fun _ => 0)))), (q453, .inl (a 0, 104, .inl (fun _ => 0))), (q454, .inl (a 0, 104, .inl (fun _ => 0))), (q455, .inl (a 0, 6, .inl (fun _ => 0))), (q456, .inl (a 3, 6, .inl (fun _ => 0))), (q457, .inl (a 1, 6, .inr (.inl (fun _ => 0)))), (q458, .inl (a 1, 6, .inr (.inl (fun _ => 0)))), (q459, .inl (a 1, 6, .inr (.inl (fun _ => 0)))), (q460, .inl (a 1, 6, .inr (.inl (fun _ => 0)))), (q461, .inl (a 0, 6, .inl (fun _ => 0))), (q462, .inl (a 0, 6, .inl (fun _ => 0)))] := hD
  refine lv_aload_n hx hb dX9_init_168 rfl (lv_at hl 0 rfl) ?_
  refine lv_sipush (v := 416) hx hb dX9_init_169 (by decide) ?_
  refine newA (atype := .int) (a0 := (416, .inl (fun _ => 0))) hx hb hK 0 rfl ra_int (hts _ t_119) rfl hP hD hS hA (fun _ => rfl) (by decide) (by decide) (by decide) (Nat.le_of_ble_eq_true rfl) (Nat.le_of_ble_eq_true rfl) dX9_init_172 (fun q463 H hP hD hS => ?_)
  have hP : va_P D classes [(q420, .inr (9, [.ref q443, .int 0, .int 0, .ref q444, .ref q445, .ref q446, .ref q447, .int 0, .int 0, .int 0, .ref q448, .ref q449, .int 0, .int 0, .int 0, .int 0, .int 0, .int 0, .int 0, .ref q450, .int 0, .ref q451, .int 0, .ref q452, .ref q453, .ref q454, .ref q455, .ref q456, .ref q457, .ref q458, .ref q459, .ref q460, .ref q461, .ref q462, .null, .null])), (q443, .inl (a 2, 400, .inl (fun _ => 0))), (q444, .inl (a 0, 2400, .inl (fun _ => 0))), (q445, .inl (a 0, 7, .inl (fun _ => 0))), (q446, .inl (a 0, 360, .inl (fun _ => 0))), (q447, .inl (a 0, 6, .inl (fun _ => 0))), (q448, .inl (a 0, 18, .inl (fun _ => 0))), (q449, .inl (a 0, 40, .inl (fun _ => 0))), (q450, .inl (a 0, 400, .inl (fun _ => 0))), (q451, .inl (a 1, 64, .inr (.inl (fun _ => 0)))), (q452, .inl (a 1, 9, .inr (.inl (fun _ => 0)))), (q453, .inl (a 0, 104, .inl (fun _ => 0))), (q454, .inl (a 0, 104, .inl (fun _ => 0))), (q455, .inl (a 0, 6, .inl (fun _ => 0))), (q456, .inl (a 3, 6, .inl (fun _ => 0))), (q457, .inl (a 1, 6, .inr (.inl (fun _ => 0)))), (q458, .inl (a 1, 6, .inr (.inl (fun _ => 0)))), (q459, .inl (a 1, 6, .inr (.inl (fun _ => 0)))), (q460, .inl (a 1, 6, .inr (.inl (fun _ => 0)))), (q461, .inl (a 0, 6, .inl (fun _ => 0))), (q462, .inl (a 0, 6, .inl (fun _ => 0))), (q463, .inl (a 0, 416, .inl (fun _ => 0)))] H := hP
  have hD : va_D A [(q420, .inr (9, [.ref q443, .int 0, .int 0, .ref q444, .ref q445, .ref q446, .ref q447, .int 0, .int 0, .int 0, .ref q448, .ref q449, .int 0, .int 0, .int 0, .int 0, .int 0, .int 0, .int 0, .ref q450, .int 0, .ref q451, .int 0, .ref q452, .ref q453, .ref q454, .ref q455, .ref q456, .ref q457, .ref q458, .ref q459, .ref q460, .ref q461, .ref q462, .null, .null])), (q443, .inl (a 2, 400, .inl (fun _ => 0))), (q444, .inl (a 0, 2400, .inl (fun _ => 0))), (q445, .inl (a 0, 7, .inl (fun _ => 0))), (q446, .inl (a 0, 360, .inl (fun _ => 0))), (q447, .inl (a 0, 6, .inl (fun _ => 0))), (q448, .inl (a 0, 18, .inl (fun _ => 0))), (q449, .inl (a 0, 40, .inl (fun _ => 0))), (q450, .inl (a 0, 400, .inl (fun _ => 0))), (q451, .inl (a 1, 64, .inr (.inl (fun _ => 0)))), (q452, .inl (a 1, 9, .inr (.inl (fun _ => 0)))), (q453, .inl (a 0, 104, .inl (fun _ => 0))), (q454, .inl (a 0, 104, .inl (fun _ => 0))), (q455, .inl (a 0, 6, .inl (fun _ => 0))), (q456, .inl (a 3, 6, .inl (fun _ => 0))), (q457, .inl (a 1, 6, .inr (.inl (fun _ => 0)))), (q458, .inl (a 1, 6, .inr (.inl (fun _ => 0)))), (q459, .inl (a 1, 6, .inr (.inl (fun _ => 0)))), (q460, .inl (a 1, 6, .inr (.inl (fun _ => 0)))), (q461, .inl (a 0, 6, .inl (fun _ => 0))), (q462, .inl (a 0, 6, .inl (fun _ => 0))), (q463, .inl (a 0, 416, .inl (fun _ => 0)))] := hD
  refine W.cs (cells' := 21) (slots' := 4376) rfl rfl ?_
  refine va_putF (D := D) (v := .ref q463) (C := RX9) (T := TX9) (N := 36) hx hb hts iX9 tyX9 tyX9_ok nmX9 hown hK.1 hP hD hS 0 rfl rfl 34 (by decide) (hts _ t_916) (fun _ h9 => h9) rfl (hnm rfl) rfl (tyX9_ok 34 (by decide)) rfl rfl (Nat.le_of_ble_eq_true rfl) dX9_init_174 (fun H locs hP hD hS => ?_)
  have hP : va_P D classes [(q420, .inr (9, [.ref q443, .int 0, .int 0, .ref q444, .ref q445, .ref q446, .ref q447, .int 0, .int 0, .int 0, .ref q448, .ref q449, .int 0, .int 0, .int 0, .int 0, .int 0, .int 0, .int 0, .ref q450, .int 0, .ref q451, .int 0, .ref q452, .ref q453, .ref q454, .ref q455, .ref q456, .ref q457, .ref q458, .ref q459, .ref q460, .ref q461, .ref q462, .ref q463, .null])), (q443, .inl (a 2, 400, .inl (fun _ => 0))), (q444, .inl (a 0, 2400, .inl (fun _ => 0))), (q445, .inl (a 0, 7, .inl (fun _ => 0))), (q446, .inl (a 0, 360, .inl (fun _ => 0))), (q447, .inl (a 0, 6, .inl (fun _ => 0))), (q448, .inl (a 0, 18, .inl (fun _ => 0))), (q449, .inl (a 0, 40, .inl (fun _ => 0))), (q450, .inl (a 0, 400, .inl (fun _ => 0))), (q451, .inl (a 1, 64, .inr (.inl (fun _ => 0)))), (q452, .inl (a 1, 9, .inr (.inl (fun _ => 0)))), (q453, .inl (a 0, 104, .inl (fun _ => 0))), (q454, .inl (a 0, 104, .inl (fun _ => 0))), (q455, .inl (a 0, 6, .inl (fun _ => 0))), (q456, .inl (a 3, 6, .inl (fun _ => 0))), (q457, .inl (a 1, 6, .inr (.inl (fun _ => 0)))), (q458, .inl (a 1, 6, .inr (.inl (fun _ => 0)))), (q459, .inl (a 1, 6, .inr (.inl (fun _ => 0)))), (q460, .inl (a 1, 6, .inr (.inl (fun _ => 0)))), (q461, .inl (a 0, 6, .inl (fun _ => 0))), (q462, .inl (a 0, 6, .inl (fun _ => 0))), (q463, .inl (a 0, 416, .inl (fun _ => 0)))] H := hP
  have hD : va_D A [(q420, .inr (9, [.ref q443, .int 0, .int 0, .ref q444, .ref q445, .ref q446, .ref q447, .int 0, .int 0, .int 0, .ref q448, .ref q449, .int 0, .int 0, .int 0, .int 0, .int 0, .int 0, .int 0, .ref q450, .int 0, .ref q451, .int 0, .ref q452, .ref q453, .ref q454, .ref q455, .ref q456, .ref q457, .ref q458, .ref q459, .ref q460, .ref q461, .ref q462, .ref q463, .null])), (q443, .inl (a 2, 400, .inl (fun _ => 0))), (q444, .inl (a 0, 2400, .inl (fun _ => 0))), (q445, .inl (a 0, 7, .inl (fun _ => 0))), (q446, .inl (a 0, 360, .inl (fun _ => 0))), (q447, .inl (a 0, 6, .inl (fun _ => 0))), (q448, .inl (a 0, 18, .inl (fun _ => 0))), (q449, .inl (a 0, 40, .inl (fun _ => 0))), (q450, .inl (a 0, 400, .inl (fun _ => 0))), (q451, .inl (a 1, 64, .inr (.inl (fun _ => 0)))), (q452, .inl (a 1, 9, .inr (.inl (fun _ => 0)))), (q453, .inl (a 0, 104, .inl (fun _ => 0))), (q454, .inl (a 0, 104, .inl (fun _ => 0))), (q455, .inl (a 0, 6, .inl (fun _ => 0))), (q456, .inl (a 3, 6, .inl (fun _ => 0))), (q457, .inl (a 1, 6, .inr (.inl (fun _ => 0)))), (q458, .inl (a 1, 6, .inr (.inl (fun _ => 0)))), (q459, .inl (a 1, 6, .inr (.inl (fun _ => 0)))), (q460, .inl (a 1, 6, .inr (.inl (fun _ => 0)))), (q461, .inl (a 0, 6, .inl (fun _ => 0))), (q462, .inl (a 0, 6, .inl (fun _ => 0))), (q463, .inl (a 0, 416, .inl (fun _ => 0)))] := hD
  refine lv_aload_n hx hb dX9_init_177 rfl (lv_at hl 0 rfl) ?_
  refine lv_iconst (v := 4) hx hb dX9_init_178 (by decide) ?_
  refine newA (atype := .boolean) (a0 := (4, .inl (fun _ => 0))) hx hb hK 3 rfl ra_bool (hts _ t_991) rfl hP hD hS hA (fun _ => rfl) (by decide) (by decide) (by decide) (Nat.le_of_ble_eq_true rfl) (Nat.le_of_ble_eq_true rfl) dX9_init_179 (fun q464 H hP hD hS => ?_)
  have hP : va_P D classes [(q420, .inr (9, [.ref q443, .int 0, .int 0, .ref q444, .ref q445, .ref q446, .ref q447, .int 0, .int 0, .int 0, .ref q448, .ref q449, .int 0, .int 0, .int 0, .int 0, .int 0, .int 0, .int 0, .ref q450, .int 0, .ref q451, .int 0, .ref q452, .ref q453, .ref q454, .ref q455, .ref q456, .ref q457, .ref q458, .ref q459, .ref q460, .ref q461, .ref q462, .ref q463, .null])), (q443, .inl (a 2, 400, .inl (fun _ => 0))), (q444, .inl (a 0, 2400, .inl (fun _ => 0))), (q445, .inl (a 0, 7, .inl (fun _ => 0))), (q446, .inl (a 0, 360, .inl (fun _ => 0))), (q447, .inl (a 0, 6, .inl (fun _ => 0))), (q448, .inl (a 0, 18, .inl (fun _ => 0))), (q449, .inl (a 0, 40, .inl (fun _ => 0))), (q450, .inl (a 0, 400, .inl (fun _ => 0))), (q451, .inl (a 1, 64, .inr (.inl (fun _ => 0)))), (q452, .inl (a 1, 9, .inr (.inl (fun _ => 0)))), (q453, .inl (a 0, 104, .inl (fun _ => 0))), (q454, .inl (a 0, 104, .inl (fun _ => 0))), (q455, .inl (a 0, 6, .inl (fun _ => 0))), (q456, .inl (a 3, 6, .inl (fun _ => 0))), (q457, .inl (a 1, 6, .inr (.inl (fun _ => 0)))), (q458, .inl (a 1, 6, .inr (.inl (fun _ => 0)))), (q459, .inl (a 1, 6, .inr (.inl (fun _ => 0)))), (q460, .inl (a 1, 6, .inr (.inl (fun _ => 0)))), (q461, .inl (a 0, 6, .inl (fun _ => 0))), (q462, .inl (a 0, 6, .inl (fun _ => 0))), (q463, .inl (a 0, 416, .inl (fun _ => 0))), (q464, .inl (a 3, 4, .inl (fun _ => 0)))] H := hP
  have hD : va_D A [(q420, .inr (9, [.ref q443, .int 0, .int 0, .ref q444, .ref q445, .ref q446, .ref q447, .int 0, .int 0, .int 0, .ref q448, .ref q449, .int 0, .int 0, .int 0, .int 0, .int 0, .int 0, .int 0, .ref q450, .int 0, .ref q451, .int 0, .ref q452, .ref q453, .ref q454, .ref q455, .ref q456, .ref q457, .ref q458, .ref q459, .ref q460, .ref q461, .ref q462, .ref q463, .null])), (q443, .inl (a 2, 400, .inl (fun _ => 0))), (q444, .inl (a 0, 2400, .inl (fun _ => 0))), (q445, .inl (a 0, 7, .inl (fun _ => 0))), (q446, .inl (a 0, 360, .inl (fun _ => 0))), (q447, .inl (a 0, 6, .inl (fun _ => 0))), (q448, .inl (a 0, 18, .inl (fun _ => 0))), (q449, .inl (a 0, 40, .inl (fun _ => 0))), (q450, .inl (a 0, 400, .inl (fun _ => 0))), (q451, .inl (a 1, 64, .inr (.inl (fun _ => 0)))), (q452, .inl (a 1, 9, .inr (.inl (fun _ => 0)))), (q453, .inl (a 0, 104, .inl (fun _ => 0))), (q454, .inl (a 0, 104, .inl (fun _ => 0))), (q455, .inl (a 0, 6, .inl (fun _ => 0))), (q456, .inl (a 3, 6, .inl (fun _ => 0))), (q457, .inl (a 1, 6, .inr (.inl (fun _ => 0)))), (q458, .inl (a 1, 6, .inr (.inl (fun _ => 0)))), (q459, .inl (a 1, 6, .inr (.inl (fun _ => 0)))), (q460, .inl (a 1, 6, .inr (.inl (fun _ => 0)))), (q461, .inl (a 0, 6, .inl (fun _ => 0))), (q462, .inl (a 0, 6, .inl (fun _ => 0))), (q463, .inl (a 0, 416, .inl (fun _ => 0))), (q464, .inl (a 3, 4, .inl (fun _ => 0)))] := hD
  refine W.cs (cells' := 22) (slots' := 4380) rfl rfl ?_
  refine va_putF (D := D) (v := .ref q464) (C := RX9) (T := TX9) (N := 36) hx hb hts iX9 tyX9 tyX9_ok nmX9 hown hK.1 hP hD hS 0 rfl rfl 35 (by decide) (hts _ t_917) (fun _ h9 => h9) rfl (hnm rfl) rfl (tyX9_ok 35 (by decide)) rfl rfl (Nat.le_of_ble_eq_true rfl) dX9_init_181 (fun H locs hP hD hS => ?_)
  have hP : va_P D classes [(q420, .inr (9, [.ref q443, .int 0, .int 0, .ref q444, .ref q445, .ref q446, .ref q447, .int 0, .int 0, .int 0, .ref q448, .ref q449, .int 0, .int 0, .int 0, .int 0, .int 0, .int 0, .int 0, .ref q450, .int 0, .ref q451, .int 0, .ref q452, .ref q453, .ref q454, .ref q455, .ref q456, .ref q457, .ref q458, .ref q459, .ref q460, .ref q461, .ref q462, .ref q463, .ref q464])), (q443, .inl (a 2, 400, .inl (fun _ => 0))), (q444, .inl (a 0, 2400, .inl (fun _ => 0))), (q445, .inl (a 0, 7, .inl (fun _ => 0))), (q446, .inl (a 0, 360, .inl (fun _ => 0))), (q447, .inl (a 0, 6, .inl (fun _ => 0))), (q448, .inl (a 0, 18, .inl (fun _ => 0))), (q449, .inl (a 0, 40, .inl (fun _ => 0))), (q450, .inl (a 0, 400, .inl (fun _ => 0))), (q451, .inl (a 1, 64, .inr (.inl (fun _ => 0)))), (q452, .inl (a 1, 9, .inr (.inl (fun _ => 0)))), (q453, .inl (a 0, 104, .inl (fun _ => 0))), (q454, .inl (a 0, 104, .inl (fun _ => 0))), (q455, .inl (a 0, 6, .inl (fun _ => 0))), (q456, .inl (a 3, 6, .inl (fun _ => 0))), (q457, .inl (a 1, 6, .inr (.inl (fun _ => 0)))), (q458, .inl (a 1, 6, .inr (.inl (fun _ => 0)))), (q459, .inl (a 1, 6, .inr (.inl (fun _ => 0)))), (q460, .inl (a 1, 6, .inr (.inl (fun _ => 0)))), (q461, .inl (a 0, 6, .inl (fun _ => 0))), (q462, .inl (a 0, 6, .inl (fun _ => 0))), (q463, .inl (a 0, 416, .inl (fun _ => 0))), (q464, .inl (a 3, 4, .inl (fun _ => 0)))] H := hP
  have hD : va_D A [(q420, .inr (9, [.ref q443, .int 0, .int 0, .ref q444, .ref q445, .ref q446, .ref q447, .int 0, .int 0, .int 0, .ref q448, .ref q449, .int 0, .int 0, .int 0, .int 0, .int 0, .int 0, .int 0, .ref q450, .int 0, .ref q451, .int 0, .ref q452, .ref q453, .ref q454, .ref q455, .ref q456, .ref q457, .ref q458, .ref q459, .ref q460, .ref q461, .ref q462, .ref q463, .ref q464])), (q443, .inl (a 2, 400, .inl (fun _ => 0))), (q444, .inl (a 0, 2400, .inl (fun _ => 0))), (q445, .inl (a 0, 7, .inl (fun _ => 0))), (q446, .inl (a 0, 360, .inl (fun _ => 0))), (q447, .inl (a 0, 6, .inl (fun _ => 0))), (q448, .inl (a 0, 18, .inl (fun _ => 0))), (q449, .inl (a 0, 40, .inl (fun _ => 0))), (q450, .inl (a 0, 400, .inl (fun _ => 0))), (q451, .inl (a 1, 64, .inr (.inl (fun _ => 0)))), (q452, .inl (a 1, 9, .inr (.inl (fun _ => 0)))), (q453, .inl (a 0, 104, .inl (fun _ => 0))), (q454, .inl (a 0, 104, .inl (fun _ => 0))), (q455, .inl (a 0, 6, .inl (fun _ => 0))), (q456, .inl (a 3, 6, .inl (fun _ => 0))), (q457, .inl (a 1, 6, .inr (.inl (fun _ => 0)))), (q458, .inl (a 1, 6, .inr (.inl (fun _ => 0)))), (q459, .inl (a 1, 6, .inr (.inl (fun _ => 0)))), (q460, .inl (a 1, 6, .inr (.inl (fun _ => 0)))), (q461, .inl (a 0, 6, .inl (fun _ => 0))), (q462, .inl (a 0, 6, .inl (fun _ => 0))), (q463, .inl (a 0, 416, .inl (fun _ => 0))), (q464, .inl (a 3, 4, .inl (fun _ => 0)))] := hD
  exact retMv C rfl (0, [q443, q444, q445, q446, q447, q448, q449, q450, q451, q452, q453, q454, q455, q456, q457, q458, q459, q460, q461, q462, q463, q464], [], [], [], []) ⟨q443, q444, q445, q446, q447, q448, q449, q450, q451, q452, q453, q454, q455, q456, q457, q458, q459, q460, q461, q462, q463, q464, rfl⟩ hP hD hS (Nat.le_of_ble_eq_true rfl) (Nat.le_of_ble_eq_true rfl) dX9_init_184
end
section
set_option maxHeartbeats 4000000 in
set_option maxRecDepth 100000 in
theorem c_X8_kind_0 (l : Launch) (D : va_G) (a : Nat → ClassId) (q101 q383 q384 q385 q386 q387 q388 q389 q390 q391 q392 q393 q394 q395 q396 q397 q398 q399 q400 q401 q402 q403 q404 q405 q406 : Nat) (x1 x2 : Int32) : CRi l MX8_kind 0 0 D a [.ref q101, .int x1, .int x2] [(q101, .inr (8, [.ref q383, .int 0, .ref q384, .int 0, .int 0, .ref q385, .ref q386, .ref q387, .ref q388, .ref q389, .ref q390])), (q391, .inr (7, [.int 0, .int 0, .int 0, .int 0, .int 0, .ref q392, .ref q393, .ref q394, .ref q395, .ref q396, .ref q397, .ref q398, .ref q399, .ref q400, .ref q401, .ref q402, .ref q403, .int 0])), (q385, .inr (5, [.ref q391, .ref q404, .int 0, .int 0, .int 0, .ref q405, .int 0, .ref q406]))] (fun r => (x1.toInt < 0 ∧ r = (-1)) ∨ (x1.toInt ≥ 0 ∧ x1.toInt ≥ 0 ∧ r = (-1))) := by
  refine entR (by decide) (Nat.le_of_ble_eq_true rfl) ?_
  intro p e s m below meth c C hK hP ls hl
  obtain ⟨hx, hb, hml, hown, hts, hr, hlocks, hnm⟩ := id C
  have hb : c.code = cX8_kind := hb
  have hown : s.vm.findClass RX8 = some m.cls := hown
  have hl : lv_has ls 4 [(0, .ref q101), (1, .int x1), (2, .int x2)] := hl
  refine lv_aload_n hx hb dX8_kind_0 rfl (lv_at hl 0 rfl) ?_
  refine va_get (D := D) (v := .ref q385) (C := RX8) (T := TX8) (N := 11) hx hb hts iX8 hown hK.1 hP 0 rfl rfl 5 (by decide) (hts _ t_305) (fun _ h9 => h9) rfl dX8_kind_1 ?_
  refine va_get (D := D) (v := .ref q391) (C := RX5) (T := TX5) (N := 8) hx hb hts iX5 hown hK.1 hP 2 rfl rfl 0 (by decide) (hts _ t_161) (fun _ h9 => h9) rfl dX8_kind_4 ?_
  refine lv_astore_n (lv' := [(3, .ref q391), (0, .ref q101), (1, .int x1), (2, .int x2)]) hx hb dX8_kind_7 rfl hl (by decide) rfl (fun ls hl => ?_)
  refine lv_iload_n hx hb dX8_kind_8 rfl (lv_at hl 2 rfl) ?_
  refine lv_if_lt (tgt := 20) hx hb dX8_kind_9 (by decide) (fun c498 => ?_) (fun c498 => ?_)
  · have h499 : x1.toInt < 0 := bI_lt rfl (by decide) c498
    refine lv_iconst (v := (-1)) hx hb dX8_kind_20 (by decide) ?_
    exact retRi C rfl (Or.inl ⟨h499, rfl⟩) dX8_kind_21
  · have h500 : x1.toInt ≥ 0 := bI_nlt rfl (by decide) c498
    refine lv_iload_n hx hb dX8_kind_12 rfl (lv_at hl 2 rfl) ?_
    refine lv_aload_n hx hb dX8_kind_13 rfl (lv_at hl 0 rfl) ?_
    refine va_get (D := D) (v := .int 0) (C := RX7) (T := TX7) (N := 18) hx hb hts iX7 hown hK.1 hP 1 rfl rfl 2 (by decide) (hts _ t_43) (fun _ h9 => h9) rfl dX8_kind_14 ?_
    refine lv_icmp_lt (tgt := 22) hx hb dX8_kind_17 (by decide) (fun c501 => ?_) (fun c501 => ?_)
    · have h502 : x1.toInt < 0 := bI_lt rfl (by decide) c501
      exfalso; omega
    · have h503 : x1.toInt ≥ 0 := bI_nlt rfl (by decide) c501
      refine lv_iconst (v := (-1)) hx hb dX8_kind_20 (by decide) ?_
      exact retRi C rfl (Or.inr (⟨h500, h503, rfl⟩)) dX8_kind_21

set_option maxHeartbeats 4000000 in
set_option maxRecDepth 100000 in
theorem c_X9_in_0 (l : Launch) (D : va_G) (a : Nat → ClassId) (x1 : Int32) : CRi l MX9_in 0 0 D a [.long x1.toInt64, .long 0, .long (-1)] [] (fun r => (x1.toInt < 0 ∧ r = 0) ∨ (x1.toInt ≥ 0 ∧ x1.toInt > (-1) ∧ r = 0)) := by
  refine entR (by decide) (Nat.le_of_ble_eq_true rfl) ?_
  intro p e s m below meth c C hK hP ls hl
  obtain ⟨hx, hb, hml, hown, hts, hr, hlocks, hnm⟩ := id C
  have hb : c.code = cX9_in := hb
  have hown : s.vm.findClass RX9 = some m.cls := hown
  have hl : lv_has ls 6 [(0, .long x1.toInt64), (2, .long 0), (4, .long (-1))] := hl
  refine lv_lload_n hx hb dX9_in_0 rfl (lv_at hl 0 rfl) ?_
  refine lv_lload_n hx hb dX9_in_1 rfl (lv_at hl 1 rfl) ?_
  refine W.lcmp hx hb dX9_in_2 ?_
  refine lv_if_lt (tgt := 17) hx hb dX9_in_3 (by decide) (fun c519 => ?_) (fun c519 => ?_)
  · have h520 : x1.toInt < 0 := cI_lt (Int32.toInt_toInt64 x1) (by decide) c519
    refine lv_iconst (v := 0) hx hb dX9_in_17 (by decide) ?_
    exact retRz C rfl (by decide) (Or.inl ⟨h520, rfl⟩) dX9_in_18
  · have h521 : x1.toInt ≥ 0 := cI_nlt (Int32.toInt_toInt64 x1) (by decide) c519
    refine lv_lload_n hx hb dX9_in_6 rfl (lv_at hl 0 rfl) ?_
    refine lv_lload hx hb dX9_in_7 (lv_at hl 2 rfl) ?_
    refine W.lcmp hx hb dX9_in_9 ?_
    refine lv_if_gt (tgt := 17) hx hb dX9_in_10 (by decide) (fun c522 => ?_) (fun c522 => ?_)
    · have h523 : x1.toInt > (-1) := cI_gt (Int32.toInt_toInt64 x1) (by decide) c522
      refine lv_iconst (v := 0) hx hb dX9_in_17 (by decide) ?_
      exact retRz C rfl (by decide) (Or.inr (⟨h521, h523, rfl⟩)) dX9_in_18
    · have h524 : x1.toInt ≤ (-1) := cI_ngt (Int32.toInt_toInt64 x1) (by decide) c522
      exfalso; omega

set_option maxHeartbeats 4000000 in
set_option maxRecDepth 100000 in
theorem c_X9_kind_0 (l : Launch) (D : va_G) (a : Nat → ClassId) (q420 q468 q469 q470 q471 q472 q473 q474 q475 q476 q477 q478 q479 q480 q481 q482 q483 q484 q485 q486 q487 q488 q489 : Nat) (x1 x2 : Int32) : CRi l MX9_kind 1 25 D a [.ref q420, .int x1, .int x2] [(q420, .inr (9, [.ref q468, .int 0, .int 0, .ref q469, .ref q470, .ref q471, .ref q472, .int 0, .int 0, .int 0, .ref q473, .ref q474, .int 0, .int 0, .int 0, .int 0, .int 0, .int 0, .int 0, .ref q475, .int 0, .ref q476, .int 0, .ref q477, .ref q478, .ref q479, .ref q480, .ref q481, .ref q482, .ref q483, .ref q484, .ref q485, .ref q486, .ref q487, .ref q488, .ref q489])), (q478, .inl (a 0, 104, .inl (fun _ => 0)))] (fun r => (x1.toInt < 0 ∧ r = (-1)) ∨ (x1.toInt ≥ 0 ∧ x1.toInt > (-1) ∧ r = (-1))) := by
  refine entR (by decide) (Nat.le_of_ble_eq_true rfl) ?_
  intro p e s m below meth c C hK hP ls hl
  obtain ⟨hx, hb, hml, hown, hts, hr, hlocks, hnm⟩ := id C
  have hb : c.code = cX9_kind := hb
  have hown : s.vm.findClass RX9 = some m.cls := hown
  have hl : lv_has ls 3 [(0, .ref q420), (1, .int x1), (2, .int x2)] := hl
  refine lv_iload_n hx hb dX9_kind_0 rfl (lv_at hl 1 rfl) ?_
  refine lv_i2l (v := x1.toInt64) hx hb dX9_kind_1 rfl ?_
  refine lv_lconst (v := 0) hx hb dX9_kind_2 (by decide) ?_
  refine lv_aload_n hx hb dX9_kind_3 rfl (lv_at hl 0 rfl) ?_
  refine va_get (D := D) (v := .ref q478) (C := RX9) (T := TX9) (N := 36) hx hb hts iX9 hown hK.1 hP 0 rfl rfl 24 (by decide) (hts _ t_906) (fun _ h9 => h9) rfl dX9_kind_4 ?_
  refine lv_iconst (v := 1) hx hb dX9_kind_7 (by decide) ?_
  refine ald_i hx hb hK.1 hP 1 0 rfl rfl 1 (ix_lit (by decide)) dX9_kind_8 ?_
  refine lv_iconst (v := 1) hx hb dX9_kind_9 (by decide) ?_
  refine lv_isub hx hb dX9_kind_10 ?_
  refine lv_topi (fun x531 ex531 => ?_)
  obtain rfl : x531 = (-1) := ex531.trans (by decide)
  refine lv_i2l (v := (-1)) hx hb dX9_kind_11 (by decide) ?_
  refine aftRi (runS (As := [.long x1.toInt64, .long 0, .long (-1)]) (rest := []) C (c_X9_in_0 l D a x1) lk_S_9_118 (okN_X9_in) ⟨Nat.le_of_ble_eq_true rfl, Nat.le_of_ble_eq_true rfl⟩ ⟨rfl, rfl⟩ (preR hK (P_of_map (wc := []) hP [] rfl)) hl.1 rfl (Nat.le_of_ble_eq_true rfl) dX9_kind_12 ⟨Nat.le_of_ble_eq_true rfl, Nat.le_of_ble_eq_true rfl⟩) (fun x538 hw => ?_)
  rcases hw with ⟨h541, rfl⟩ | ⟨h542, h543, rfl⟩
  · refine lv_if_eq (tgt := 46) hx hb dX9_kind_15 (by decide) (fun c9 => ?_) (fun c9 => absurd (by decide) c9)
    refine lv_iconst (v := (-1)) hx hb dX9_kind_46 (by decide) ?_
    exact retRi C rfl (Or.inl ⟨h541, rfl⟩) dX9_kind_47
  · refine lv_if_eq (tgt := 46) hx hb dX9_kind_15 (by decide) (fun c9 => ?_) (fun c9 => absurd (by decide) c9)
    refine lv_iconst (v := (-1)) hx hb dX9_kind_46 (by decide) ?_
    exact retRi C rfl (Or.inr (⟨h542, h543, rfl⟩)) dX9_kind_47
end
section
set_option maxHeartbeats 4000000 in
set_option maxRecDepth 100000 in
theorem c_X8_isFault_0 (l : Launch) (D : va_G) (a : Nat → ClassId) (q101 q383 q384 q385 q386 q387 q388 q389 q390 q391 q392 q393 q394 q395 q396 q397 q398 q399 q400 q401 q402 q403 q404 q405 q406 : Nat) (x1 : Int32) : CRi l MX8_isFault 0 0 D a [.ref q101, .int x1] [(q101, .inr (8, [.ref q383, .int 0, .ref q384, .int 0, .int 0, .ref q385, .ref q386, .ref q387, .ref q388, .ref q389, .ref q390])), (q391, .inr (7, [.int 0, .int 0, .int 0, .int 0, .int 0, .ref q392, .ref q393, .ref q394, .ref q395, .ref q396, .ref q397, .ref q398, .ref q399, .ref q400, .ref q401, .ref q402, .ref q403, .int 0])), (q385, .inr (5, [.ref q391, .ref q404, .int 0, .int 0, .int 0, .ref q405, .int 0, .ref q406]))] (fun r => (x1.toInt < 0 ∧ r = 0) ∨ (x1.toInt ≥ 0 ∧ x1.toInt ≥ 0 ∧ r = 0)) := by
  refine entR (by decide) (Nat.le_of_ble_eq_true rfl) ?_
  intro p e s m below meth c C hK hP ls hl
  obtain ⟨hx, hb, hml, hown, hts, hr, hlocks, hnm⟩ := id C
  have hb : c.code = cX8_isFault := hb
  have hown : s.vm.findClass RX8 = some m.cls := hown
  have hl : lv_has ls 2 [(0, .ref q101), (1, .int x1)] := hl
  refine lv_iload_n hx hb dX8_isFault_0 rfl (lv_at hl 1 rfl) ?_
  refine lv_if_lt (tgt := 22) hx hb dX8_isFault_1 (by decide) (fun c566 => ?_) (fun c566 => ?_)
  · have h567 : x1.toInt < 0 := bI_lt rfl (by decide) c566
    refine lv_iconst (v := 0) hx hb dX8_isFault_22 (by decide) ?_
    exact retRz C rfl (by decide) (Or.inl ⟨h567, rfl⟩) dX8_isFault_23
  · have h568 : x1.toInt ≥ 0 := bI_nlt rfl (by decide) c566
    refine lv_iload_n hx hb dX8_isFault_4 rfl (lv_at hl 1 rfl) ?_
    refine lv_aload_n hx hb dX8_isFault_5 rfl (lv_at hl 0 rfl) ?_
    refine va_get (D := D) (v := .ref q385) (C := RX8) (T := TX8) (N := 11) hx hb hts iX8 hown hK.1 hP 0 rfl rfl 5 (by decide) (hts _ t_305) (fun _ h9 => h9) rfl dX8_isFault_6 ?_
    refine va_get (D := D) (v := .ref q391) (C := RX5) (T := TX5) (N := 8) hx hb hts iX5 hown hK.1 hP 2 rfl rfl 0 (by decide) (hts _ t_161) (fun _ h9 => h9) rfl dX8_isFault_9 ?_
    refine va_get (D := D) (v := .int 0) (C := RX7) (T := TX7) (N := 18) hx hb hts iX7 hown hK.1 hP 1 rfl rfl 3 (by decide) (hts _ t_47) (fun _ h9 => h9) rfl dX8_isFault_12 ?_
    refine lv_icmp_ge (tgt := 22) hx hb dX8_isFault_15 (by decide) (fun c569 => ?_) (fun c569 => ?_)
    · have h570 : x1.toInt ≥ 0 := bI_ge rfl (by decide) c569
      refine lv_iconst (v := 0) hx hb dX8_isFault_22 (by decide) ?_
      exact retRz C rfl (by decide) (Or.inr (⟨h568, h570, rfl⟩)) dX8_isFault_23
    · have h571 : x1.toInt < 0 := bI_nge rfl (by decide) c569
      exfalso; omega

set_option maxHeartbeats 4000000 in
set_option maxRecDepth 100000 in
theorem c_X8_fault_0 (l : Launch) (D : va_G) (a : Nat → ClassId) (q101 q383 q384 q385 q386 q387 q388 q389 q390 q391 q392 q393 q394 q395 q396 q397 q398 q399 q400 q401 q402 q403 q404 q405 q406 : Nat) (x1 x2 : Int32) : CRi l MX8_fault 1 21 D a [.ref q101, .int x1, .int x2] [(q101, .inr (8, [.ref q383, .int 0, .ref q384, .int 0, .int 0, .ref q385, .ref q386, .ref q387, .ref q388, .ref q389, .ref q390])), (q391, .inr (7, [.int 0, .int 0, .int 0, .int 0, .int 0, .ref q392, .ref q393, .ref q394, .ref q395, .ref q396, .ref q397, .ref q398, .ref q399, .ref q400, .ref q401, .ref q402, .ref q403, .int 0])), (q385, .inr (5, [.ref q391, .ref q404, .int 0, .int 0, .int 0, .ref q405, .int 0, .ref q406]))] (fun r => (x1.toInt < 0 ∧ r = (-2)) ∨ (x1.toInt ≥ 0 ∧ x1.toInt ≥ 0 ∧ r = (-2))) := by
  refine entR (by decide) (Nat.le_of_ble_eq_true rfl) ?_
  intro p e s m below meth c C hK hP ls hl
  obtain ⟨hx, hb, hml, hown, hts, hr, hlocks, hnm⟩ := id C
  have hb : c.code = cX8_fault := hb
  have hown : s.vm.findClass RX8 = some m.cls := hown
  have hl : lv_has ls 5 [(0, .ref q101), (1, .int x1), (2, .int x2)] := hl
  refine lv_aload_n hx hb dX8_fault_0 rfl (lv_at hl 0 rfl) ?_
  refine lv_iload_n hx hb dX8_fault_1 rfl (lv_at hl 1 rfl) ?_
  refine aftRi (runV (As := [.int x1]) (rest := []) C (c_X8_isFault_0 l D a q101 q383 q384 q385 q386 q387 q388 q389 q390 q391 q392 q393 q394 q395 q396 q397 q398 q399 q400 q401 q402 q403 q404 q405 q406 x1) lk_V_8_139 (okN_X8_isFault) ⟨Nat.le_of_ble_eq_true rfl, Nat.le_of_ble_eq_true rfl⟩ ⟨rfl, rfl⟩ (preV (preR hK (P_of_map (wc := [(q101, .inr (8, [.ref q383, .int 0, .ref q384, .int 0, .int 0, .ref q385, .ref q386, .ref q387, .ref q388, .ref q389, .ref q390])), (q391, .inr (7, [.int 0, .int 0, .int 0, .int 0, .int 0, .ref q392, .ref q393, .ref q394, .ref q395, .ref q396, .ref q397, .ref q398, .ref q399, .ref q400, .ref q401, .ref q402, .ref q403, .int 0])), (q385, .inr (5, [.ref q391, .ref q404, .int 0, .int 0, .int 0, .ref q405, .int 0, .ref q406]))]) hP [0, 1, 2] rfl)) (recvOf hK hP 0 rfl (ci := 8) rfl)) hl.1 rfl (Nat.le_of_ble_eq_true rfl) dX8_fault_2 ⟨Nat.le_of_ble_eq_true rfl, Nat.le_of_ble_eq_true rfl⟩) (fun x584 hw => ?_)
  rcases hw with ⟨h587, rfl⟩ | ⟨h588, h589, rfl⟩
  · refine lv_if_ne (tgt := 11) hx hb dX8_fault_5 (by decide) (fun c9 => absurd c9 (by decide)) (fun c9 => ?_)
    refine lv_bipush (v := (-2)) hx hb dX8_fault_8 (by decide) ?_
    exact retRi C rfl (Or.inl ⟨h587, rfl⟩) dX8_fault_10
  · refine lv_if_ne (tgt := 11) hx hb dX8_fault_5 (by decide) (fun c9 => absurd c9 (by decide)) (fun c9 => ?_)
    refine lv_bipush (v := (-2)) hx hb dX8_fault_8 (by decide) ?_
    exact retRi C rfl (Or.inr (⟨h588, h589, rfl⟩)) dX8_fault_10

set_option maxHeartbeats 4000000 in
set_option maxRecDepth 100000 in
theorem c_X9_isFault_0 (l : Launch) (D : va_G) (a : Nat → ClassId) (q420 q468 q469 q470 q471 q472 q473 q474 q475 q476 q477 q478 q479 q480 q481 q482 q483 q484 q485 q486 q487 q488 q489 : Nat) (x1 : Int32) : CRi l MX9_isFault 0 0 D a [.ref q420, .int x1] [(q420, .inr (9, [.ref q468, .int 0, .int 0, .ref q469, .ref q470, .ref q471, .ref q472, .int 0, .int 0, .int 0, .ref q473, .ref q474, .int 0, .int 0, .int 0, .int 0, .int 0, .int 0, .int 0, .ref q475, .int 0, .ref q476, .int 0, .ref q477, .ref q478, .ref q479, .ref q480, .ref q481, .ref q482, .ref q483, .ref q484, .ref q485, .ref q486, .ref q487, .ref q488, .ref q489])), (q478, .inl (a 0, 104, .inl (fun _ => 0)))] (fun r => (x1.toInt < 0 ∧ r = 0) ∨ (x1.toInt ≥ 0 ∧ x1.toInt ≥ 0 ∧ r = 0)) := by
  refine entR (by decide) (Nat.le_of_ble_eq_true rfl) ?_
  intro p e s m below meth c C hK hP ls hl
  obtain ⟨hx, hb, hml, hown, hts, hr, hlocks, hnm⟩ := id C
  have hb : c.code = cX9_isFault := hb
  have hown : s.vm.findClass RX9 = some m.cls := hown
  have hl : lv_has ls 2 [(0, .ref q420), (1, .int x1)] := hl
  refine lv_iload_n hx hb dX9_isFault_0 rfl (lv_at hl 1 rfl) ?_
  refine lv_if_lt (tgt := 18) hx hb dX9_isFault_1 (by decide) (fun c604 => ?_) (fun c604 => ?_)
  · have h605 : x1.toInt < 0 := bI_lt rfl (by decide) c604
    refine lv_iconst (v := 0) hx hb dX9_isFault_18 (by decide) ?_
    exact retRz C rfl (by decide) (Or.inl ⟨h605, rfl⟩) dX9_isFault_19
  · have h606 : x1.toInt ≥ 0 := bI_nlt rfl (by decide) c604
    refine lv_iload_n hx hb dX9_isFault_4 rfl (lv_at hl 1 rfl) ?_
    refine lv_aload_n hx hb dX9_isFault_5 rfl (lv_at hl 0 rfl) ?_
    refine va_get (D := D) (v := .ref q478) (C := RX9) (T := TX9) (N := 36) hx hb hts iX9 hown hK.1 hP 0 rfl rfl 24 (by decide) (hts _ t_906) (fun _ h9 => h9) rfl dX9_isFault_6 ?_
    refine lv_iconst (v := 0) hx hb dX9_isFault_9 (by decide) ?_
    refine ald_i hx hb hK.1 hP 1 0 rfl rfl 0 (ix_lit (by decide)) dX9_isFault_10 ?_
    refine lv_icmp_ge (tgt := 18) hx hb dX9_isFault_11 (by decide) (fun c607 => ?_) (fun c607 => ?_)
    · have h608 : x1.toInt ≥ 0 := bI_ge rfl (by decide) c607
      refine lv_iconst (v := 0) hx hb dX9_isFault_18 (by decide) ?_
      exact retRz C rfl (by decide) (Or.inr (⟨h606, h608, rfl⟩)) dX9_isFault_19
    · have h609 : x1.toInt < 0 := bI_nge rfl (by decide) c607
      exfalso; omega

set_option maxHeartbeats 4000000 in
set_option maxRecDepth 100000 in
theorem c_X9_fault_0 (l : Launch) (D : va_G) (a : Nat → ClassId) (q420 q468 q469 q470 q471 q472 q473 q474 q475 q476 q477 q478 q479 q480 q481 q482 q483 q484 q485 q486 q487 q488 q489 : Nat) (x1 x2 : Int32) : CRi l MX9_fault 1 21 D a [.ref q420, .int x1, .int x2] [(q420, .inr (9, [.ref q468, .int 0, .int 0, .ref q469, .ref q470, .ref q471, .ref q472, .int 0, .int 0, .int 0, .ref q473, .ref q474, .int 0, .int 0, .int 0, .int 0, .int 0, .int 0, .int 0, .ref q475, .int 0, .ref q476, .int 0, .ref q477, .ref q478, .ref q479, .ref q480, .ref q481, .ref q482, .ref q483, .ref q484, .ref q485, .ref q486, .ref q487, .ref q488, .ref q489])), (q478, .inl (a 0, 104, .inl (fun _ => 0)))] (fun r => (x1.toInt < 0 ∧ r = (-2)) ∨ (x1.toInt ≥ 0 ∧ x1.toInt ≥ 0 ∧ r = (-2))) := by
  refine entR (by decide) (Nat.le_of_ble_eq_true rfl) ?_
  intro p e s m below meth c C hK hP ls hl
  obtain ⟨hx, hb, hml, hown, hts, hr, hlocks, hnm⟩ := id C
  have hb : c.code = cX9_fault := hb
  have hown : s.vm.findClass RX9 = some m.cls := hown
  have hl : lv_has ls 3 [(0, .ref q420), (1, .int x1), (2, .int x2)] := hl
  refine lv_aload_n hx hb dX9_fault_0 rfl (lv_at hl 0 rfl) ?_
  refine lv_iload_n hx hb dX9_fault_1 rfl (lv_at hl 1 rfl) ?_
  refine aftRi (runV (As := [.int x1]) (rest := []) C (c_X9_isFault_0 l D a q420 q468 q469 q470 q471 q472 q473 q474 q475 q476 q477 q478 q479 q480 q481 q482 q483 q484 q485 q486 q487 q488 q489 x1) lk_V_9_280 (okN_X9_isFault) ⟨Nat.le_of_ble_eq_true rfl, Nat.le_of_ble_eq_true rfl⟩ ⟨rfl, rfl⟩ (preV (preR hK (P_of_map (wc := [(q420, .inr (9, [.ref q468, .int 0, .int 0, .ref q469, .ref q470, .ref q471, .ref q472, .int 0, .int 0, .int 0, .ref q473, .ref q474, .int 0, .int 0, .int 0, .int 0, .int 0, .int 0, .int 0, .ref q475, .int 0, .ref q476, .int 0, .ref q477, .ref q478, .ref q479, .ref q480, .ref q481, .ref q482, .ref q483, .ref q484, .ref q485, .ref q486, .ref q487, .ref q488, .ref q489])), (q478, .inl (a 0, 104, .inl (fun _ => 0)))]) hP [0, 1] rfl)) (recvOf hK hP 0 rfl (ci := 9) rfl)) hl.1 rfl (Nat.le_of_ble_eq_true rfl) dX9_fault_2 ⟨Nat.le_of_ble_eq_true rfl, Nat.le_of_ble_eq_true rfl⟩) (fun x622 hw => ?_)
  rcases hw with ⟨h625, rfl⟩ | ⟨h626, h627, rfl⟩
  · refine lv_if_eq (tgt := 20) hx hb dX9_fault_5 (by decide) (fun c9 => ?_) (fun c9 => absurd (by decide) c9)
    refine lv_bipush (v := (-2)) hx hb dX9_fault_20 (by decide) ?_
    exact retRi C rfl (Or.inl ⟨h625, rfl⟩) dX9_fault_22
  · refine lv_if_eq (tgt := 20) hx hb dX9_fault_5 (by decide) (fun c9 => ?_) (fun c9 => absurd (by decide) c9)
    refine lv_bipush (v := (-2)) hx hb dX9_fault_20 (by decide) ?_
    exact retRi C rfl (Or.inr (⟨h626, h627, rfl⟩)) dX9_fault_22
end
section
set_option maxHeartbeats 4000000 in
set_option maxRecDepth 100000 in
theorem c_X8_look_0 (l : Launch) (D : va_G) (a : Nat → ClassId) (q101 q383 q384 q385 q386 q387 q388 q389 q390 q391 q392 q393 q394 q395 q396 q397 q398 q399 q400 q401 q402 q403 q404 q405 q406 : Nat) (x1 : Int32) : CRi l MX8_look 1 21 D a [.ref q101, .int x1] [(q101, .inr (8, [.ref q383, .int 0, .ref q384, .int 0, .int 0, .ref q385, .ref q386, .ref q387, .ref q388, .ref q389, .ref q390])), (q391, .inr (7, [.int 0, .int 0, .int 0, .int 0, .int 0, .ref q392, .ref q393, .ref q394, .ref q395, .ref q396, .ref q397, .ref q398, .ref q399, .ref q400, .ref q401, .ref q402, .ref q403, .int 0])), (q385, .inr (5, [.ref q391, .ref q404, .int 0, .int 0, .int 0, .ref q405, .int 0, .ref q406]))] (fun r => (x1.toInt < 0 ∧ r = (-1)) ∨ (x1.toInt ≥ 0 ∧ x1.toInt ≥ 0 ∧ r = (-1))) := by
  refine entR (by decide) (Nat.le_of_ble_eq_true rfl) ?_
  intro p e s m below meth c C hK hP ls hl
  obtain ⟨hx, hb, hml, hown, hts, hr, hlocks, hnm⟩ := id C
  have hb : c.code = cX8_look := hb
  have hown : s.vm.findClass RX8 = some m.cls := hown
  have hl : lv_has ls 2 [(0, .ref q101), (1, .int x1)] := hl
  refine lv_aload_n hx hb dX8_look_0 rfl (lv_at hl 0 rfl) ?_
  refine lv_iload_n hx hb dX8_look_1 rfl (lv_at hl 1 rfl) ?_
  refine aftRi (runV (As := [.int x1]) (rest := []) C (c_X8_isFault_0 l D a q101 q383 q384 q385 q386 q387 q388 q389 q390 q391 q392 q393 q394 q395 q396 q397 q398 q399 q400 q401 q402 q403 q404 q405 q406 x1) lk_V_8_139 (okN_X8_isFault) ⟨Nat.le_of_ble_eq_true rfl, Nat.le_of_ble_eq_true rfl⟩ ⟨rfl, rfl⟩ (preV (preR hK (P_of_map (wc := [(q101, .inr (8, [.ref q383, .int 0, .ref q384, .int 0, .int 0, .ref q385, .ref q386, .ref q387, .ref q388, .ref q389, .ref q390])), (q391, .inr (7, [.int 0, .int 0, .int 0, .int 0, .int 0, .ref q392, .ref q393, .ref q394, .ref q395, .ref q396, .ref q397, .ref q398, .ref q399, .ref q400, .ref q401, .ref q402, .ref q403, .int 0])), (q385, .inr (5, [.ref q391, .ref q404, .int 0, .int 0, .int 0, .ref q405, .int 0, .ref q406]))]) hP [0, 1, 2] rfl)) (recvOf hK hP 0 rfl (ci := 8) rfl)) hl.1 rfl (Nat.le_of_ble_eq_true rfl) dX8_look_2 ⟨Nat.le_of_ble_eq_true rfl, Nat.le_of_ble_eq_true rfl⟩) (fun x649 hw => ?_)
  rcases hw with ⟨h652, rfl⟩ | ⟨h653, h654, rfl⟩
  · refine lv_if_ne (tgt := 10) hx hb dX8_look_5 (by decide) (fun c9 => absurd c9 (by decide)) (fun c9 => ?_)
    refine lv_iconst (v := (-1)) hx hb dX8_look_8 (by decide) ?_
    exact retRi C rfl (Or.inl ⟨h652, rfl⟩) dX8_look_9
  · refine lv_if_ne (tgt := 10) hx hb dX8_look_5 (by decide) (fun c9 => absurd c9 (by decide)) (fun c9 => ?_)
    refine lv_iconst (v := (-1)) hx hb dX8_look_8 (by decide) ?_
    exact retRi C rfl (Or.inr (⟨h653, h654, rfl⟩)) dX8_look_9

set_option maxHeartbeats 4000000 in
set_option maxRecDepth 100000 in
theorem c_X9_look_0 (l : Launch) (D : va_G) (a : Nat → ClassId) (q420 q468 q469 q470 q471 q472 q473 q474 q475 q476 q477 q478 q479 q480 q481 q482 q483 q484 q485 q486 q487 q488 q489 : Nat) (x1 : Int32) : CRi l MX9_look 1 21 D a [.ref q420, .int x1] [(q420, .inr (9, [.ref q468, .int 0, .int 0, .ref q469, .ref q470, .ref q471, .ref q472, .int 0, .int 0, .int 0, .ref q473, .ref q474, .int 0, .int 0, .int 0, .int 0, .int 0, .int 0, .int 0, .ref q475, .int 0, .ref q476, .int 0, .ref q477, .ref q478, .ref q479, .ref q480, .ref q481, .ref q482, .ref q483, .ref q484, .ref q485, .ref q486, .ref q487, .ref q488, .ref q489])), (q478, .inl (a 0, 104, .inl (fun _ => 0)))] (fun r => (x1.toInt < 0 ∧ r = (-1)) ∨ (x1.toInt ≥ 0 ∧ x1.toInt ≥ 0 ∧ r = (-1))) := by
  refine entR (by decide) (Nat.le_of_ble_eq_true rfl) ?_
  intro p e s m below meth c C hK hP ls hl
  obtain ⟨hx, hb, hml, hown, hts, hr, hlocks, hnm⟩ := id C
  have hb : c.code = cX9_look := hb
  have hown : s.vm.findClass RX9 = some m.cls := hown
  have hl : lv_has ls 2 [(0, .ref q420), (1, .int x1)] := hl
  refine lv_aload_n hx hb dX9_look_0 rfl (lv_at hl 0 rfl) ?_
  refine lv_iload_n hx hb dX9_look_1 rfl (lv_at hl 1 rfl) ?_
  refine aftRi (runV (As := [.int x1]) (rest := []) C (c_X9_isFault_0 l D a q420 q468 q469 q470 q471 q472 q473 q474 q475 q476 q477 q478 q479 q480 q481 q482 q483 q484 q485 q486 q487 q488 q489 x1) lk_V_9_280 (okN_X9_isFault) ⟨Nat.le_of_ble_eq_true rfl, Nat.le_of_ble_eq_true rfl⟩ ⟨rfl, rfl⟩ (preV (preR hK (P_of_map (wc := [(q420, .inr (9, [.ref q468, .int 0, .int 0, .ref q469, .ref q470, .ref q471, .ref q472, .int 0, .int 0, .int 0, .ref q473, .ref q474, .int 0, .int 0, .int 0, .int 0, .int 0, .int 0, .int 0, .ref q475, .int 0, .ref q476, .int 0, .ref q477, .ref q478, .ref q479, .ref q480, .ref q481, .ref q482, .ref q483, .ref q484, .ref q485, .ref q486, .ref q487, .ref q488, .ref q489])), (q478, .inl (a 0, 104, .inl (fun _ => 0)))]) hP [0, 1] rfl)) (recvOf hK hP 0 rfl (ci := 9) rfl)) hl.1 rfl (Nat.le_of_ble_eq_true rfl) dX9_look_2 ⟨Nat.le_of_ble_eq_true rfl, Nat.le_of_ble_eq_true rfl⟩) (fun x668 hw => ?_)
  rcases hw with ⟨h671, rfl⟩ | ⟨h672, h673, rfl⟩
  · refine lv_if_ne (tgt := 10) hx hb dX9_look_5 (by decide) (fun c9 => absurd c9 (by decide)) (fun c9 => ?_)
    refine lv_iconst (v := (-1)) hx hb dX9_look_8 (by decide) ?_
    exact retRi C rfl (Or.inl ⟨h671, rfl⟩) dX9_look_9
  · refine lv_if_ne (tgt := 10) hx hb dX9_look_5 (by decide) (fun c9 => absurd c9 (by decide)) (fun c9 => ?_)
    refine lv_iconst (v := (-1)) hx hb dX9_look_8 (by decide) ?_
    exact retRi C rfl (Or.inr (⟨h672, h673, rfl⟩)) dX9_look_9
end
section
set_option maxHeartbeats 4000000 in
set_option maxRecDepth 100000 in
theorem law_kind {p : Program} {l : Launch} {e : Env} {s : State} {m : MethodId} {below : List Frame} {meth : Method} {c : Code} {D : va_G} {a : Nat → ClassId} {b : Nat} {xs : Nat → Int32} {A : Nat → Prop} (C : Cx p s m #[Value.ref b] meth c ML_law) (hX : va_X b 6 xs s s.heap) (hbl : b < s.heap.size) (hAi : ∀ q, A q → s.heap.size ≤ q) (hA : ∀ q, s.heap.size ≤ q → A q) (hK : KK D a s) {q101 q383 q384 q385 q386 q387 q388 q389 q390 q391 q392 q393 q394 q395 q396 q397 q398 q399 q400 q401 q402 q403 q404 q405 q406 q407 q408 q409 q410 q411 q412 q413 q414 q415 q416 q417 q418 q419 q420 q468 q469 q470 q471 q472 q473 q474 q475 q476 q477 q478 q479 q480 q481 q482 q483 q484 q485 q486 q487 q488 q489 : Nat} {H : Heap} {locs : List Loc} (hP : va_P D classes [(q101, .inr (8, [.ref q383, .int 0, .ref q384, .int 0, .int 0, .ref q385, .ref q386, .ref q387, .ref q388, .ref q389, .ref q390])), (q383, .inl (a 0, 400, .inl (fun _ => 0))), (q384, .inl (a 4, 6, .inr (.inr (.inr (.inr (fun _ => none)))))), (q391, .inr (7, [.int 0, .int 0, .int 0, .int 0, .int 0, .ref q392, .ref q393, .ref q394, .ref q395, .ref q396, .ref q397, .ref q398, .ref q399, .ref q400, .ref q401, .ref q402, .ref q403, .int 0])), (q392, .inl (a 0, 6, .inl (fun _ => 0))), (q393, .inl (a 0, 6, .inl (fun _ => 0))), (q394, .inl (a 0, 6, .inl (fun _ => 0))), (q395, .inl (a 0, 10, .inl (fun _ => 0))), (q396, .inl (a 0, 10, .inl (fun _ => 0))), (q397, .inl (a 0, 10, .inl (fun _ => 0))), (q398, .inl (a 0, 10, .inl (fun _ => 0))), (q399, .inl (a 0, 10, .inl (fun _ => 0))), (q400, .inl (a 0, 10, .inl (fun _ => 0))), (q401, .inl (a 0, 10, .inl (fun _ => 0))), (q402, .inl (a 0, 10, .inl (fun _ => 0))), (q403, .inl (a 0, 10, .inl (fun _ => 0))), (q385, .inr (5, [.ref q391, .ref q404, .int 0, .int 0, .int 0, .ref q405, .int 0, .ref q406])), (q404, .inr (0, [.int 0, .int 0, .int 0, .int 0, .int 0, .ref q407])), (q407, .inl (a 0, 10, .inl (fun _ => 0))), (q405, .inl (a 0, 8, .inl (fun _ => 0))), (q406, .inl (a 0, 8, .inl (fun _ => 0))), (q386, .inl (a 5, 4, .inr (.inr (.inr (.inr (fun _ => none)))))), (q387, .inr (0, [.int 0, .int 0, .int 0, .int 0, .int 0, .ref q408])), (q408, .inl (a 0, 10, .inl (fun _ => 0))), (q388, .inr (4, [.ref q409, .ref q410, .int 0, .int 0, .int 0, .ref q411, .ref q412, .ref q413])), (q409, .inr (6, [.ref q414, .ref q415, .ref q416, .int 0, .int 0, .int 0, .int 0, .int 0, .int 0])), (q414, .inl (a 0, 401, .inl (fun _ => 0))), (q415, .inl (a 0, 401, .inl (fun _ => 0))), (q416, .inl (a 0, 401, .inl (fun _ => 0))), (q410, .inl (a 0, 400, .inl (fun _ => 0))), (q411, .inl (a 0, 12, .inl (fun _ => 0))), (q412, .inl (a 0, 12, .inl (fun _ => 0))), (q413, .inl (a 0, 12, .inl (fun _ => 0))), (q389, .inr (2, [.ref q417])), (q417, .inl (a 1, 32, .inr (.inl (fun _ => 0)))), (q390, .inr (1, [.ref q418, .ref q419, .int 0, .long 0])), (q418, .inl (a 1, 2048, .inr (.inl (fun _ => 0)))), (q419, .inl (a 1, 2048, .inr (.inl (fun _ => 0)))), (q420, .inr (9, [.ref q468, .int 0, .int 0, .ref q469, .ref q470, .ref q471, .ref q472, .int 0, .int 0, .int 0, .ref q473, .ref q474, .int 0, .int 0, .int 0, .int 0, .int 0, .int 0, .int 0, .ref q475, .int 0, .ref q476, .int 0, .ref q477, .ref q478, .ref q479, .ref q480, .ref q481, .ref q482, .ref q483, .ref q484, .ref q485, .ref q486, .ref q487, .ref q488, .ref q489])), (q468, .inl (a 2, 400, .inl (fun _ => 0))), (q469, .inl (a 0, 2400, .inl (fun _ => 0))), (q470, .inl (a 0, 7, .inl (fun _ => 0))), (q471, .inl (a 0, 360, .inl (fun _ => 0))), (q472, .inl (a 0, 6, .inl (fun _ => 0))), (q473, .inl (a 0, 18, .inl (fun _ => 0))), (q474, .inl (a 0, 40, .inl (fun _ => 0))), (q475, .inl (a 0, 400, .inl (fun _ => 0))), (q476, .inl (a 1, 64, .inr (.inl (fun _ => 0)))), (q477, .inl (a 1, 9, .inr (.inl (fun _ => 0)))), (q478, .inl (a 0, 104, .inl (fun _ => 0))), (q479, .inl (a 0, 104, .inl (fun _ => 0))), (q480, .inl (a 0, 6, .inl (fun _ => 0))), (q481, .inl (a 3, 6, .inl (fun _ => 0))), (q482, .inl (a 1, 6, .inr (.inl (fun _ => 0)))), (q483, .inl (a 1, 6, .inr (.inl (fun _ => 0)))), (q484, .inl (a 1, 6, .inr (.inl (fun _ => 0)))), (q485, .inl (a 1, 6, .inr (.inl (fun _ => 0)))), (q486, .inl (a 0, 6, .inl (fun _ => 0))), (q487, .inl (a 0, 6, .inl (fun _ => 0))), (q488, .inl (a 0, 416, .inl (fun _ => 0))), (q489, .inl (a 3, 4, .inl (fun _ => 0)))] H) (hD : va_D A [(q101, .inr (8, [.ref q383, .int 0, .ref q384, .int 0, .int 0, .ref q385, .ref q386, .ref q387, .ref q388, .ref q389, .ref q390])), (q383, .inl (a 0, 400, .inl (fun _ => 0))), (q384, .inl (a 4, 6, .inr (.inr (.inr (.inr (fun _ => none)))))), (q391, .inr (7, [.int 0, .int 0, .int 0, .int 0, .int 0, .ref q392, .ref q393, .ref q394, .ref q395, .ref q396, .ref q397, .ref q398, .ref q399, .ref q400, .ref q401, .ref q402, .ref q403, .int 0])), (q392, .inl (a 0, 6, .inl (fun _ => 0))), (q393, .inl (a 0, 6, .inl (fun _ => 0))), (q394, .inl (a 0, 6, .inl (fun _ => 0))), (q395, .inl (a 0, 10, .inl (fun _ => 0))), (q396, .inl (a 0, 10, .inl (fun _ => 0))), (q397, .inl (a 0, 10, .inl (fun _ => 0))), (q398, .inl (a 0, 10, .inl (fun _ => 0))), (q399, .inl (a 0, 10, .inl (fun _ => 0))), (q400, .inl (a 0, 10, .inl (fun _ => 0))), (q401, .inl (a 0, 10, .inl (fun _ => 0))), (q402, .inl (a 0, 10, .inl (fun _ => 0))), (q403, .inl (a 0, 10, .inl (fun _ => 0))), (q385, .inr (5, [.ref q391, .ref q404, .int 0, .int 0, .int 0, .ref q405, .int 0, .ref q406])), (q404, .inr (0, [.int 0, .int 0, .int 0, .int 0, .int 0, .ref q407])), (q407, .inl (a 0, 10, .inl (fun _ => 0))), (q405, .inl (a 0, 8, .inl (fun _ => 0))), (q406, .inl (a 0, 8, .inl (fun _ => 0))), (q386, .inl (a 5, 4, .inr (.inr (.inr (.inr (fun _ => none)))))), (q387, .inr (0, [.int 0, .int 0, .int 0, .int 0, .int 0, .ref q408])), (q408, .inl (a 0, 10, .inl (fun _ => 0))), (q388, .inr (4, [.ref q409, .ref q410, .int 0, .int 0, .int 0, .ref q411, .ref q412, .ref q413])), (q409, .inr (6, [.ref q414, .ref q415, .ref q416, .int 0, .int 0, .int 0, .int 0, .int 0, .int 0])), (q414, .inl (a 0, 401, .inl (fun _ => 0))), (q415, .inl (a 0, 401, .inl (fun _ => 0))), (q416, .inl (a 0, 401, .inl (fun _ => 0))), (q410, .inl (a 0, 400, .inl (fun _ => 0))), (q411, .inl (a 0, 12, .inl (fun _ => 0))), (q412, .inl (a 0, 12, .inl (fun _ => 0))), (q413, .inl (a 0, 12, .inl (fun _ => 0))), (q389, .inr (2, [.ref q417])), (q417, .inl (a 1, 32, .inr (.inl (fun _ => 0)))), (q390, .inr (1, [.ref q418, .ref q419, .int 0, .long 0])), (q418, .inl (a 1, 2048, .inr (.inl (fun _ => 0)))), (q419, .inl (a 1, 2048, .inr (.inl (fun _ => 0)))), (q420, .inr (9, [.ref q468, .int 0, .int 0, .ref q469, .ref q470, .ref q471, .ref q472, .int 0, .int 0, .int 0, .ref q473, .ref q474, .int 0, .int 0, .int 0, .int 0, .int 0, .int 0, .int 0, .ref q475, .int 0, .ref q476, .int 0, .ref q477, .ref q478, .ref q479, .ref q480, .ref q481, .ref q482, .ref q483, .ref q484, .ref q485, .ref q486, .ref q487, .ref q488, .ref q489])), (q468, .inl (a 2, 400, .inl (fun _ => 0))), (q469, .inl (a 0, 2400, .inl (fun _ => 0))), (q470, .inl (a 0, 7, .inl (fun _ => 0))), (q471, .inl (a 0, 360, .inl (fun _ => 0))), (q472, .inl (a 0, 6, .inl (fun _ => 0))), (q473, .inl (a 0, 18, .inl (fun _ => 0))), (q474, .inl (a 0, 40, .inl (fun _ => 0))), (q475, .inl (a 0, 400, .inl (fun _ => 0))), (q476, .inl (a 1, 64, .inr (.inl (fun _ => 0)))), (q477, .inl (a 1, 9, .inr (.inl (fun _ => 0)))), (q478, .inl (a 0, 104, .inl (fun _ => 0))), (q479, .inl (a 0, 104, .inl (fun _ => 0))), (q480, .inl (a 0, 6, .inl (fun _ => 0))), (q481, .inl (a 3, 6, .inl (fun _ => 0))), (q482, .inl (a 1, 6, .inr (.inl (fun _ => 0)))), (q483, .inl (a 1, 6, .inr (.inl (fun _ => 0)))), (q484, .inl (a 1, 6, .inr (.inl (fun _ => 0)))), (q485, .inl (a 1, 6, .inr (.inl (fun _ => 0)))), (q486, .inl (a 0, 6, .inl (fun _ => 0))), (q487, .inl (a 0, 6, .inl (fun _ => 0))), (q488, .inl (a 0, 416, .inl (fun _ => 0))), (q489, .inl (a 3, 4, .inl (fun _ => 0)))]) (hS : va_S A s.heap H locs) {ls : Array Slot} (hl : lv_has ls 4 [(3, .int 0), (2, .ref q420), (1, .ref q101), (0, .ref b)]) : W p l e room_1 s m #[Value.ref b] below meth c H locs 61 10808 (lw_Z below #[Value.ref b] s) (F0 m 272 ls []) := by
  obtain ⟨hx, hb, hml, hown, hts, hr, hlocks, hnm⟩ := id C
  have hb : c.code = cL_law := hb
  have hown : s.vm.findClass RL = some m.cls := hown
  have hbA : ¬ A b := fun q => Nat.not_le.mpr hbl (hAi b q)
  obtain ⟨x1, ex1⟩ : ∃ z : Int32, z = xs 1 := ⟨_, rfl⟩
  obtain ⟨x2, ex2⟩ : ∃ z : Int32, z = xs 2 := ⟨_, rfl⟩
  refine lv_aload_n hx hb dL_law_272 rfl (lv_at hl 2 rfl) ?_
  refine lv_aload_n hx hb dL_law_273 rfl (lv_at hl 3 rfl) ?_
  refine lv_iload_n hx hb dL_law_274 rfl (lv_at hl 0 rfl) ?_
  refine lv_iconst (v := 1) hx hb dL_law_275 (by decide) ?_
  refine lv_iadd hx hb dL_law_276 ?_
  refine lv_topi (fun x490 ex490 => ?_)
  obtain rfl : x490 = 1 := ex490.trans (by decide)
  refine sldE hx hb hX hbl hbA hS 1 (ix_lit (by decide)) ex1 dL_law_277 ?_
  refine lv_aload_n hx hb dL_law_278 rfl (lv_at hl 3 rfl) ?_
  refine lv_iload_n hx hb dL_law_279 rfl (lv_at hl 0 rfl) ?_
  refine lv_iconst (v := 2) hx hb dL_law_280 (by decide) ?_
  refine lv_iadd hx hb dL_law_281 ?_
  refine lv_topi (fun x491 ex491 => ?_)
  obtain rfl : x491 = 2 := ex491.trans (by decide)
  refine sldE hx hb hX hbl hbA hS 2 (ix_lit (by decide)) ex2 dL_law_282 ?_
  refine aftRi (runV (As := [.int x1, .int x2]) (rest := []) C (c_X8_kind_0 l D a q101 q383 q384 q385 q386 q387 q388 q389 q390 q391 q392 q393 q394 q395 q396 q397 q398 q399 q400 q401 q402 q403 q404 q405 q406 x1 x2) lk_V_L_32 (okN_X8_kind) ⟨Nat.le_of_ble_eq_true rfl, Nat.le_of_ble_eq_true rfl⟩ ⟨rfl, rfl⟩ (preV (preR hK (P_of_map (wc := [(q101, .inr (8, [.ref q383, .int 0, .ref q384, .int 0, .int 0, .ref q385, .ref q386, .ref q387, .ref q388, .ref q389, .ref q390])), (q391, .inr (7, [.int 0, .int 0, .int 0, .int 0, .int 0, .ref q392, .ref q393, .ref q394, .ref q395, .ref q396, .ref q397, .ref q398, .ref q399, .ref q400, .ref q401, .ref q402, .ref q403, .int 0])), (q385, .inr (5, [.ref q391, .ref q404, .int 0, .int 0, .int 0, .ref q405, .int 0, .ref q406]))]) hP [0, 3, 16] rfl)) (recvOf hK hP 0 rfl (ci := 8) rfl)) hl.1 rfl (Nat.le_of_ble_eq_true rfl) dL_law_283 ⟨Nat.le_of_ble_eq_true rfl, Nat.le_of_ble_eq_true rfl⟩) (fun x504 hw => ?_)
  rcases hw with ⟨h507, rfl⟩ | ⟨h508, h509, rfl⟩
  · refine lv_aload_n hx hb dL_law_286 rfl (lv_at hl 1 rfl) ?_
    refine lv_aload_n hx hb dL_law_287 rfl (lv_at hl 3 rfl) ?_
    refine lv_iload_n hx hb dL_law_288 rfl (lv_at hl 0 rfl) ?_
    refine lv_iconst (v := 1) hx hb dL_law_289 (by decide) ?_
    refine lv_iadd hx hb dL_law_290 ?_
    refine lv_topi (fun x510 ex510 => ?_)
    obtain rfl : x510 = 1 := ex510.trans (by decide)
    refine sldE hx hb hX hbl hbA hS 1 (ix_lit (by decide)) ex1 dL_law_291 ?_
    refine lv_aload_n hx hb dL_law_292 rfl (lv_at hl 3 rfl) ?_
    refine lv_iload_n hx hb dL_law_293 rfl (lv_at hl 0 rfl) ?_
    refine lv_iconst (v := 2) hx hb dL_law_294 (by decide) ?_
    refine lv_iadd hx hb dL_law_295 ?_
    refine lv_topi (fun x511 ex511 => ?_)
    obtain rfl : x511 = 2 := ex511.trans (by decide)
    refine sldE hx hb hX hbl hbA hS 2 (ix_lit (by decide)) ex2 dL_law_296 ?_
    refine aftRi (runV (As := [.int x1, .int x2]) (rest := [.int (-1)]) C (c_X9_kind_0 l D a q420 q468 q469 q470 q471 q472 q473 q474 q475 q476 q477 q478 q479 q480 q481 q482 q483 q484 q485 q486 q487 q488 q489 x1 x2) lk_V_L_36 (okN_X9_kind) ⟨Nat.le_of_ble_eq_true rfl, Nat.le_of_ble_eq_true rfl⟩ ⟨rfl, rfl⟩ (preV (preR hK (P_of_map (wc := [(q420, .inr (9, [.ref q468, .int 0, .int 0, .ref q469, .ref q470, .ref q471, .ref q472, .int 0, .int 0, .int 0, .ref q473, .ref q474, .int 0, .int 0, .int 0, .int 0, .int 0, .int 0, .int 0, .ref q475, .int 0, .ref q476, .int 0, .ref q477, .ref q478, .ref q479, .ref q480, .ref q481, .ref q482, .ref q483, .ref q484, .ref q485, .ref q486, .ref q487, .ref q488, .ref q489])), (q478, .inl (a 0, 104, .inl (fun _ => 0)))]) hP [38, 49] rfl)) (recvOf hK hP 38 rfl (ci := 9) rfl)) hl.1 rfl (Nat.le_of_ble_eq_true rfl) dL_law_297 ⟨Nat.le_of_ble_eq_true rfl, Nat.le_of_ble_eq_true rfl⟩) (fun x544 hw => ?_)
    rcases hw with ⟨h547, rfl⟩ | ⟨h548, h549, rfl⟩
    · refine lv_icmp_eq (tgt := 928) hx hb dL_law_300 (by decide) (fun c9 => ?_) (fun c9 => absurd (by decide) c9)
      exact law_tail C hX hbl hAi hS (Nat.le_of_ble_eq_true rfl) (Nat.le_of_ble_eq_true rfl) (lv_sub hl [3, 0] rfl)
    · exfalso; omega
  · refine lv_aload_n hx hb dL_law_286 rfl (lv_at hl 1 rfl) ?_
    refine lv_aload_n hx hb dL_law_287 rfl (lv_at hl 3 rfl) ?_
    refine lv_iload_n hx hb dL_law_288 rfl (lv_at hl 0 rfl) ?_
    refine lv_iconst (v := 1) hx hb dL_law_289 (by decide) ?_
    refine lv_iadd hx hb dL_law_290 ?_
    refine lv_topi (fun x550 ex550 => ?_)
    obtain rfl : x550 = 1 := ex550.trans (by decide)
    refine sldE hx hb hX hbl hbA hS 1 (ix_lit (by decide)) ex1 dL_law_291 ?_
    refine lv_aload_n hx hb dL_law_292 rfl (lv_at hl 3 rfl) ?_
    refine lv_iload_n hx hb dL_law_293 rfl (lv_at hl 0 rfl) ?_
    refine lv_iconst (v := 2) hx hb dL_law_294 (by decide) ?_
    refine lv_iadd hx hb dL_law_295 ?_
    refine lv_topi (fun x551 ex551 => ?_)
    obtain rfl : x551 = 2 := ex551.trans (by decide)
    refine sldE hx hb hX hbl hbA hS 2 (ix_lit (by decide)) ex2 dL_law_296 ?_
    refine aftRi (runV (As := [.int x1, .int x2]) (rest := [.int (-1)]) C (c_X9_kind_0 l D a q420 q468 q469 q470 q471 q472 q473 q474 q475 q476 q477 q478 q479 q480 q481 q482 q483 q484 q485 q486 q487 q488 q489 x1 x2) lk_V_L_36 (okN_X9_kind) ⟨Nat.le_of_ble_eq_true rfl, Nat.le_of_ble_eq_true rfl⟩ ⟨rfl, rfl⟩ (preV (preR hK (P_of_map (wc := [(q420, .inr (9, [.ref q468, .int 0, .int 0, .ref q469, .ref q470, .ref q471, .ref q472, .int 0, .int 0, .int 0, .ref q473, .ref q474, .int 0, .int 0, .int 0, .int 0, .int 0, .int 0, .int 0, .ref q475, .int 0, .ref q476, .int 0, .ref q477, .ref q478, .ref q479, .ref q480, .ref q481, .ref q482, .ref q483, .ref q484, .ref q485, .ref q486, .ref q487, .ref q488, .ref q489])), (q478, .inl (a 0, 104, .inl (fun _ => 0)))]) hP [38, 49] rfl)) (recvOf hK hP 38 rfl (ci := 9) rfl)) hl.1 rfl (Nat.le_of_ble_eq_true rfl) dL_law_297 ⟨Nat.le_of_ble_eq_true rfl, Nat.le_of_ble_eq_true rfl⟩) (fun x552 hw => ?_)
    rcases hw with ⟨h555, rfl⟩ | ⟨h556, h557, rfl⟩
    · exfalso; omega
    · refine lv_icmp_eq (tgt := 928) hx hb dL_law_300 (by decide) (fun c9 => ?_) (fun c9 => absurd (by decide) c9)
      exact law_tail C hX hbl hAi hS (Nat.le_of_ble_eq_true rfl) (Nat.le_of_ble_eq_true rfl) (lv_sub hl [3, 0] rfl)
end
section
set_option maxHeartbeats 4000000 in
set_option maxRecDepth 100000 in
theorem law_fault {p : Program} {l : Launch} {e : Env} {s : State} {m : MethodId} {below : List Frame} {meth : Method} {c : Code} {D : va_G} {a : Nat → ClassId} {b : Nat} {xs : Nat → Int32} {A : Nat → Prop} (C : Cx p s m #[Value.ref b] meth c ML_law) (hX : va_X b 6 xs s s.heap) (hbl : b < s.heap.size) (hAi : ∀ q, A q → s.heap.size ≤ q) (hA : ∀ q, s.heap.size ≤ q → A q) (hK : KK D a s) {q101 q383 q384 q385 q386 q387 q388 q389 q390 q391 q392 q393 q394 q395 q396 q397 q398 q399 q400 q401 q402 q403 q404 q405 q406 q407 q408 q409 q410 q411 q412 q413 q414 q415 q416 q417 q418 q419 q420 q468 q469 q470 q471 q472 q473 q474 q475 q476 q477 q478 q479 q480 q481 q482 q483 q484 q485 q486 q487 q488 q489 : Nat} {H : Heap} {locs : List Loc} (hP : va_P D classes [(q101, .inr (8, [.ref q383, .int 0, .ref q384, .int 0, .int 0, .ref q385, .ref q386, .ref q387, .ref q388, .ref q389, .ref q390])), (q383, .inl (a 0, 400, .inl (fun _ => 0))), (q384, .inl (a 4, 6, .inr (.inr (.inr (.inr (fun _ => none)))))), (q391, .inr (7, [.int 0, .int 0, .int 0, .int 0, .int 0, .ref q392, .ref q393, .ref q394, .ref q395, .ref q396, .ref q397, .ref q398, .ref q399, .ref q400, .ref q401, .ref q402, .ref q403, .int 0])), (q392, .inl (a 0, 6, .inl (fun _ => 0))), (q393, .inl (a 0, 6, .inl (fun _ => 0))), (q394, .inl (a 0, 6, .inl (fun _ => 0))), (q395, .inl (a 0, 10, .inl (fun _ => 0))), (q396, .inl (a 0, 10, .inl (fun _ => 0))), (q397, .inl (a 0, 10, .inl (fun _ => 0))), (q398, .inl (a 0, 10, .inl (fun _ => 0))), (q399, .inl (a 0, 10, .inl (fun _ => 0))), (q400, .inl (a 0, 10, .inl (fun _ => 0))), (q401, .inl (a 0, 10, .inl (fun _ => 0))), (q402, .inl (a 0, 10, .inl (fun _ => 0))), (q403, .inl (a 0, 10, .inl (fun _ => 0))), (q385, .inr (5, [.ref q391, .ref q404, .int 0, .int 0, .int 0, .ref q405, .int 0, .ref q406])), (q404, .inr (0, [.int 0, .int 0, .int 0, .int 0, .int 0, .ref q407])), (q407, .inl (a 0, 10, .inl (fun _ => 0))), (q405, .inl (a 0, 8, .inl (fun _ => 0))), (q406, .inl (a 0, 8, .inl (fun _ => 0))), (q386, .inl (a 5, 4, .inr (.inr (.inr (.inr (fun _ => none)))))), (q387, .inr (0, [.int 0, .int 0, .int 0, .int 0, .int 0, .ref q408])), (q408, .inl (a 0, 10, .inl (fun _ => 0))), (q388, .inr (4, [.ref q409, .ref q410, .int 0, .int 0, .int 0, .ref q411, .ref q412, .ref q413])), (q409, .inr (6, [.ref q414, .ref q415, .ref q416, .int 0, .int 0, .int 0, .int 0, .int 0, .int 0])), (q414, .inl (a 0, 401, .inl (fun _ => 0))), (q415, .inl (a 0, 401, .inl (fun _ => 0))), (q416, .inl (a 0, 401, .inl (fun _ => 0))), (q410, .inl (a 0, 400, .inl (fun _ => 0))), (q411, .inl (a 0, 12, .inl (fun _ => 0))), (q412, .inl (a 0, 12, .inl (fun _ => 0))), (q413, .inl (a 0, 12, .inl (fun _ => 0))), (q389, .inr (2, [.ref q417])), (q417, .inl (a 1, 32, .inr (.inl (fun _ => 0)))), (q390, .inr (1, [.ref q418, .ref q419, .int 0, .long 0])), (q418, .inl (a 1, 2048, .inr (.inl (fun _ => 0)))), (q419, .inl (a 1, 2048, .inr (.inl (fun _ => 0)))), (q420, .inr (9, [.ref q468, .int 0, .int 0, .ref q469, .ref q470, .ref q471, .ref q472, .int 0, .int 0, .int 0, .ref q473, .ref q474, .int 0, .int 0, .int 0, .int 0, .int 0, .int 0, .int 0, .ref q475, .int 0, .ref q476, .int 0, .ref q477, .ref q478, .ref q479, .ref q480, .ref q481, .ref q482, .ref q483, .ref q484, .ref q485, .ref q486, .ref q487, .ref q488, .ref q489])), (q468, .inl (a 2, 400, .inl (fun _ => 0))), (q469, .inl (a 0, 2400, .inl (fun _ => 0))), (q470, .inl (a 0, 7, .inl (fun _ => 0))), (q471, .inl (a 0, 360, .inl (fun _ => 0))), (q472, .inl (a 0, 6, .inl (fun _ => 0))), (q473, .inl (a 0, 18, .inl (fun _ => 0))), (q474, .inl (a 0, 40, .inl (fun _ => 0))), (q475, .inl (a 0, 400, .inl (fun _ => 0))), (q476, .inl (a 1, 64, .inr (.inl (fun _ => 0)))), (q477, .inl (a 1, 9, .inr (.inl (fun _ => 0)))), (q478, .inl (a 0, 104, .inl (fun _ => 0))), (q479, .inl (a 0, 104, .inl (fun _ => 0))), (q480, .inl (a 0, 6, .inl (fun _ => 0))), (q481, .inl (a 3, 6, .inl (fun _ => 0))), (q482, .inl (a 1, 6, .inr (.inl (fun _ => 0)))), (q483, .inl (a 1, 6, .inr (.inl (fun _ => 0)))), (q484, .inl (a 1, 6, .inr (.inl (fun _ => 0)))), (q485, .inl (a 1, 6, .inr (.inl (fun _ => 0)))), (q486, .inl (a 0, 6, .inl (fun _ => 0))), (q487, .inl (a 0, 6, .inl (fun _ => 0))), (q488, .inl (a 0, 416, .inl (fun _ => 0))), (q489, .inl (a 3, 4, .inl (fun _ => 0)))] H) (hD : va_D A [(q101, .inr (8, [.ref q383, .int 0, .ref q384, .int 0, .int 0, .ref q385, .ref q386, .ref q387, .ref q388, .ref q389, .ref q390])), (q383, .inl (a 0, 400, .inl (fun _ => 0))), (q384, .inl (a 4, 6, .inr (.inr (.inr (.inr (fun _ => none)))))), (q391, .inr (7, [.int 0, .int 0, .int 0, .int 0, .int 0, .ref q392, .ref q393, .ref q394, .ref q395, .ref q396, .ref q397, .ref q398, .ref q399, .ref q400, .ref q401, .ref q402, .ref q403, .int 0])), (q392, .inl (a 0, 6, .inl (fun _ => 0))), (q393, .inl (a 0, 6, .inl (fun _ => 0))), (q394, .inl (a 0, 6, .inl (fun _ => 0))), (q395, .inl (a 0, 10, .inl (fun _ => 0))), (q396, .inl (a 0, 10, .inl (fun _ => 0))), (q397, .inl (a 0, 10, .inl (fun _ => 0))), (q398, .inl (a 0, 10, .inl (fun _ => 0))), (q399, .inl (a 0, 10, .inl (fun _ => 0))), (q400, .inl (a 0, 10, .inl (fun _ => 0))), (q401, .inl (a 0, 10, .inl (fun _ => 0))), (q402, .inl (a 0, 10, .inl (fun _ => 0))), (q403, .inl (a 0, 10, .inl (fun _ => 0))), (q385, .inr (5, [.ref q391, .ref q404, .int 0, .int 0, .int 0, .ref q405, .int 0, .ref q406])), (q404, .inr (0, [.int 0, .int 0, .int 0, .int 0, .int 0, .ref q407])), (q407, .inl (a 0, 10, .inl (fun _ => 0))), (q405, .inl (a 0, 8, .inl (fun _ => 0))), (q406, .inl (a 0, 8, .inl (fun _ => 0))), (q386, .inl (a 5, 4, .inr (.inr (.inr (.inr (fun _ => none)))))), (q387, .inr (0, [.int 0, .int 0, .int 0, .int 0, .int 0, .ref q408])), (q408, .inl (a 0, 10, .inl (fun _ => 0))), (q388, .inr (4, [.ref q409, .ref q410, .int 0, .int 0, .int 0, .ref q411, .ref q412, .ref q413])), (q409, .inr (6, [.ref q414, .ref q415, .ref q416, .int 0, .int 0, .int 0, .int 0, .int 0, .int 0])), (q414, .inl (a 0, 401, .inl (fun _ => 0))), (q415, .inl (a 0, 401, .inl (fun _ => 0))), (q416, .inl (a 0, 401, .inl (fun _ => 0))), (q410, .inl (a 0, 400, .inl (fun _ => 0))), (q411, .inl (a 0, 12, .inl (fun _ => 0))), (q412, .inl (a 0, 12, .inl (fun _ => 0))), (q413, .inl (a 0, 12, .inl (fun _ => 0))), (q389, .inr (2, [.ref q417])), (q417, .inl (a 1, 32, .inr (.inl (fun _ => 0)))), (q390, .inr (1, [.ref q418, .ref q419, .int 0, .long 0])), (q418, .inl (a 1, 2048, .inr (.inl (fun _ => 0)))), (q419, .inl (a 1, 2048, .inr (.inl (fun _ => 0)))), (q420, .inr (9, [.ref q468, .int 0, .int 0, .ref q469, .ref q470, .ref q471, .ref q472, .int 0, .int 0, .int 0, .ref q473, .ref q474, .int 0, .int 0, .int 0, .int 0, .int 0, .int 0, .int 0, .ref q475, .int 0, .ref q476, .int 0, .ref q477, .ref q478, .ref q479, .ref q480, .ref q481, .ref q482, .ref q483, .ref q484, .ref q485, .ref q486, .ref q487, .ref q488, .ref q489])), (q468, .inl (a 2, 400, .inl (fun _ => 0))), (q469, .inl (a 0, 2400, .inl (fun _ => 0))), (q470, .inl (a 0, 7, .inl (fun _ => 0))), (q471, .inl (a 0, 360, .inl (fun _ => 0))), (q472, .inl (a 0, 6, .inl (fun _ => 0))), (q473, .inl (a 0, 18, .inl (fun _ => 0))), (q474, .inl (a 0, 40, .inl (fun _ => 0))), (q475, .inl (a 0, 400, .inl (fun _ => 0))), (q476, .inl (a 1, 64, .inr (.inl (fun _ => 0)))), (q477, .inl (a 1, 9, .inr (.inl (fun _ => 0)))), (q478, .inl (a 0, 104, .inl (fun _ => 0))), (q479, .inl (a 0, 104, .inl (fun _ => 0))), (q480, .inl (a 0, 6, .inl (fun _ => 0))), (q481, .inl (a 3, 6, .inl (fun _ => 0))), (q482, .inl (a 1, 6, .inr (.inl (fun _ => 0)))), (q483, .inl (a 1, 6, .inr (.inl (fun _ => 0)))), (q484, .inl (a 1, 6, .inr (.inl (fun _ => 0)))), (q485, .inl (a 1, 6, .inr (.inl (fun _ => 0)))), (q486, .inl (a 0, 6, .inl (fun _ => 0))), (q487, .inl (a 0, 6, .inl (fun _ => 0))), (q488, .inl (a 0, 416, .inl (fun _ => 0))), (q489, .inl (a 3, 4, .inl (fun _ => 0)))]) (hS : va_S A s.heap H locs) {ls : Array Slot} (hl : lv_has ls 4 [(3, .int 0), (2, .ref q420), (1, .ref q101), (0, .ref b)]) : W p l e room_1 s m #[Value.ref b] below meth c H locs 61 10808 (lw_Z below #[Value.ref b] s) (F0 m 305 ls []) := by
  obtain ⟨hx, hb, hml, hown, hts, hr, hlocks, hnm⟩ := id C
  have hb : c.code = cL_law := hb
  have hown : s.vm.findClass RL = some m.cls := hown
  have hbA : ¬ A b := fun q => Nat.not_le.mpr hbl (hAi b q)
  obtain ⟨x1, ex1⟩ : ∃ z : Int32, z = xs 1 := ⟨_, rfl⟩
  obtain ⟨x2, ex2⟩ : ∃ z : Int32, z = xs 2 := ⟨_, rfl⟩
  refine lv_aload_n hx hb dL_law_305 rfl (lv_at hl 2 rfl) ?_
  refine lv_aload_n hx hb dL_law_306 rfl (lv_at hl 3 rfl) ?_
  refine lv_iload_n hx hb dL_law_307 rfl (lv_at hl 0 rfl) ?_
  refine lv_iconst (v := 1) hx hb dL_law_308 (by decide) ?_
  refine lv_iadd hx hb dL_law_309 ?_
  refine lv_topi (fun x558 ex558 => ?_)
  obtain rfl : x558 = 1 := ex558.trans (by decide)
  refine sldE hx hb hX hbl hbA hS 1 (ix_lit (by decide)) ex1 dL_law_310 ?_
  refine lv_aload_n hx hb dL_law_311 rfl (lv_at hl 3 rfl) ?_
  refine lv_iload_n hx hb dL_law_312 rfl (lv_at hl 0 rfl) ?_
  refine lv_iconst (v := 2) hx hb dL_law_313 (by decide) ?_
  refine lv_iadd hx hb dL_law_314 ?_
  refine lv_topi (fun x559 ex559 => ?_)
  obtain rfl : x559 = 2 := ex559.trans (by decide)
  refine sldE hx hb hX hbl hbA hS 2 (ix_lit (by decide)) ex2 dL_law_315 ?_
  refine aftRi (runV (As := [.int x1, .int x2]) (rest := []) C (c_X8_fault_0 l D a q101 q383 q384 q385 q386 q387 q388 q389 q390 q391 q392 q393 q394 q395 q396 q397 q398 q399 q400 q401 q402 q403 q404 q405 q406 x1 x2) lk_V_L_37 (okN_X8_fault) ⟨Nat.le_of_ble_eq_true rfl, Nat.le_of_ble_eq_true rfl⟩ ⟨rfl, rfl⟩ (preV (preR hK (P_of_map (wc := [(q101, .inr (8, [.ref q383, .int 0, .ref q384, .int 0, .int 0, .ref q385, .ref q386, .ref q387, .ref q388, .ref q389, .ref q390])), (q391, .inr (7, [.int 0, .int 0, .int 0, .int 0, .int 0, .ref q392, .ref q393, .ref q394, .ref q395, .ref q396, .ref q397, .ref q398, .ref q399, .ref q400, .ref q401, .ref q402, .ref q403, .int 0])), (q385, .inr (5, [.ref q391, .ref q404, .int 0, .int 0, .int 0, .ref q405, .int 0, .ref q406]))]) hP [0, 3, 16] rfl)) (recvOf hK hP 0 rfl (ci := 8) rfl)) hl.1 rfl (Nat.le_of_ble_eq_true rfl) dL_law_316 ⟨Nat.le_of_ble_eq_true rfl, Nat.le_of_ble_eq_true rfl⟩) (fun x590 hw => ?_)
  rcases hw with ⟨h593, rfl⟩ | ⟨h594, h595, rfl⟩
  · refine lv_aload_n hx hb dL_law_319 rfl (lv_at hl 1 rfl) ?_
    refine lv_aload_n hx hb dL_law_320 rfl (lv_at hl 3 rfl) ?_
    refine lv_iload_n hx hb dL_law_321 rfl (lv_at hl 0 rfl) ?_
    refine lv_iconst (v := 1) hx hb dL_law_322 (by decide) ?_
    refine lv_iadd hx hb dL_law_323 ?_
    refine lv_topi (fun x596 ex596 => ?_)
    obtain rfl : x596 = 1 := ex596.trans (by decide)
    refine sldE hx hb hX hbl hbA hS 1 (ix_lit (by decide)) ex1 dL_law_324 ?_
    refine lv_aload_n hx hb dL_law_325 rfl (lv_at hl 3 rfl) ?_
    refine lv_iload_n hx hb dL_law_326 rfl (lv_at hl 0 rfl) ?_
    refine lv_iconst (v := 2) hx hb dL_law_327 (by decide) ?_
    refine lv_iadd hx hb dL_law_328 ?_
    refine lv_topi (fun x597 ex597 => ?_)
    obtain rfl : x597 = 2 := ex597.trans (by decide)
    refine sldE hx hb hX hbl hbA hS 2 (ix_lit (by decide)) ex2 dL_law_329 ?_
    refine aftRi (runV (As := [.int x1, .int x2]) (rest := [.int (-2)]) C (c_X9_fault_0 l D a q420 q468 q469 q470 q471 q472 q473 q474 q475 q476 q477 q478 q479 q480 q481 q482 q483 q484 q485 q486 q487 q488 q489 x1 x2) lk_V_L_40 (okN_X9_fault) ⟨Nat.le_of_ble_eq_true rfl, Nat.le_of_ble_eq_true rfl⟩ ⟨rfl, rfl⟩ (preV (preR hK (P_of_map (wc := [(q420, .inr (9, [.ref q468, .int 0, .int 0, .ref q469, .ref q470, .ref q471, .ref q472, .int 0, .int 0, .int 0, .ref q473, .ref q474, .int 0, .int 0, .int 0, .int 0, .int 0, .int 0, .int 0, .ref q475, .int 0, .ref q476, .int 0, .ref q477, .ref q478, .ref q479, .ref q480, .ref q481, .ref q482, .ref q483, .ref q484, .ref q485, .ref q486, .ref q487, .ref q488, .ref q489])), (q478, .inl (a 0, 104, .inl (fun _ => 0)))]) hP [38, 49] rfl)) (recvOf hK hP 38 rfl (ci := 9) rfl)) hl.1 rfl (Nat.le_of_ble_eq_true rfl) dL_law_330 ⟨Nat.le_of_ble_eq_true rfl, Nat.le_of_ble_eq_true rfl⟩) (fun x628 hw => ?_)
    rcases hw with ⟨h631, rfl⟩ | ⟨h632, h633, rfl⟩
    · refine lv_icmp_eq (tgt := 928) hx hb dL_law_333 (by decide) (fun c9 => ?_) (fun c9 => absurd (by decide) c9)
      exact law_tail C hX hbl hAi hS (Nat.le_of_ble_eq_true rfl) (Nat.le_of_ble_eq_true rfl) (lv_sub hl [3, 0] rfl)
    · exfalso; omega
  · refine lv_aload_n hx hb dL_law_319 rfl (lv_at hl 1 rfl) ?_
    refine lv_aload_n hx hb dL_law_320 rfl (lv_at hl 3 rfl) ?_
    refine lv_iload_n hx hb dL_law_321 rfl (lv_at hl 0 rfl) ?_
    refine lv_iconst (v := 1) hx hb dL_law_322 (by decide) ?_
    refine lv_iadd hx hb dL_law_323 ?_
    refine lv_topi (fun x634 ex634 => ?_)
    obtain rfl : x634 = 1 := ex634.trans (by decide)
    refine sldE hx hb hX hbl hbA hS 1 (ix_lit (by decide)) ex1 dL_law_324 ?_
    refine lv_aload_n hx hb dL_law_325 rfl (lv_at hl 3 rfl) ?_
    refine lv_iload_n hx hb dL_law_326 rfl (lv_at hl 0 rfl) ?_
    refine lv_iconst (v := 2) hx hb dL_law_327 (by decide) ?_
    refine lv_iadd hx hb dL_law_328 ?_
    refine lv_topi (fun x635 ex635 => ?_)
    obtain rfl : x635 = 2 := ex635.trans (by decide)
    refine sldE hx hb hX hbl hbA hS 2 (ix_lit (by decide)) ex2 dL_law_329 ?_
    refine aftRi (runV (As := [.int x1, .int x2]) (rest := [.int (-2)]) C (c_X9_fault_0 l D a q420 q468 q469 q470 q471 q472 q473 q474 q475 q476 q477 q478 q479 q480 q481 q482 q483 q484 q485 q486 q487 q488 q489 x1 x2) lk_V_L_40 (okN_X9_fault) ⟨Nat.le_of_ble_eq_true rfl, Nat.le_of_ble_eq_true rfl⟩ ⟨rfl, rfl⟩ (preV (preR hK (P_of_map (wc := [(q420, .inr (9, [.ref q468, .int 0, .int 0, .ref q469, .ref q470, .ref q471, .ref q472, .int 0, .int 0, .int 0, .ref q473, .ref q474, .int 0, .int 0, .int 0, .int 0, .int 0, .int 0, .int 0, .ref q475, .int 0, .ref q476, .int 0, .ref q477, .ref q478, .ref q479, .ref q480, .ref q481, .ref q482, .ref q483, .ref q484, .ref q485, .ref q486, .ref q487, .ref q488, .ref q489])), (q478, .inl (a 0, 104, .inl (fun _ => 0)))]) hP [38, 49] rfl)) (recvOf hK hP 38 rfl (ci := 9) rfl)) hl.1 rfl (Nat.le_of_ble_eq_true rfl) dL_law_330 ⟨Nat.le_of_ble_eq_true rfl, Nat.le_of_ble_eq_true rfl⟩) (fun x636 hw => ?_)
    rcases hw with ⟨h639, rfl⟩ | ⟨h640, h641, rfl⟩
    · exfalso; omega
    · refine lv_icmp_eq (tgt := 928) hx hb dL_law_333 (by decide) (fun c9 => ?_) (fun c9 => absurd (by decide) c9)
      exact law_tail C hX hbl hAi hS (Nat.le_of_ble_eq_true rfl) (Nat.le_of_ble_eq_true rfl) (lv_sub hl [3, 0] rfl)
end
section
set_option maxHeartbeats 4000000 in
set_option maxRecDepth 100000 in
theorem law_look {p : Program} {l : Launch} {e : Env} {s : State} {m : MethodId} {below : List Frame} {meth : Method} {c : Code} {D : va_G} {a : Nat → ClassId} {b : Nat} {xs : Nat → Int32} {A : Nat → Prop} (C : Cx p s m #[Value.ref b] meth c ML_law) (hX : va_X b 6 xs s s.heap) (hbl : b < s.heap.size) (hAi : ∀ q, A q → s.heap.size ≤ q) (hA : ∀ q, s.heap.size ≤ q → A q) (hK : KK D a s) {q101 q383 q384 q385 q386 q387 q388 q389 q390 q391 q392 q393 q394 q395 q396 q397 q398 q399 q400 q401 q402 q403 q404 q405 q406 q407 q408 q409 q410 q411 q412 q413 q414 q415 q416 q417 q418 q419 q420 q468 q469 q470 q471 q472 q473 q474 q475 q476 q477 q478 q479 q480 q481 q482 q483 q484 q485 q486 q487 q488 q489 : Nat} {H : Heap} {locs : List Loc} (hP : va_P D classes [(q101, .inr (8, [.ref q383, .int 0, .ref q384, .int 0, .int 0, .ref q385, .ref q386, .ref q387, .ref q388, .ref q389, .ref q390])), (q383, .inl (a 0, 400, .inl (fun _ => 0))), (q384, .inl (a 4, 6, .inr (.inr (.inr (.inr (fun _ => none)))))), (q391, .inr (7, [.int 0, .int 0, .int 0, .int 0, .int 0, .ref q392, .ref q393, .ref q394, .ref q395, .ref q396, .ref q397, .ref q398, .ref q399, .ref q400, .ref q401, .ref q402, .ref q403, .int 0])), (q392, .inl (a 0, 6, .inl (fun _ => 0))), (q393, .inl (a 0, 6, .inl (fun _ => 0))), (q394, .inl (a 0, 6, .inl (fun _ => 0))), (q395, .inl (a 0, 10, .inl (fun _ => 0))), (q396, .inl (a 0, 10, .inl (fun _ => 0))), (q397, .inl (a 0, 10, .inl (fun _ => 0))), (q398, .inl (a 0, 10, .inl (fun _ => 0))), (q399, .inl (a 0, 10, .inl (fun _ => 0))), (q400, .inl (a 0, 10, .inl (fun _ => 0))), (q401, .inl (a 0, 10, .inl (fun _ => 0))), (q402, .inl (a 0, 10, .inl (fun _ => 0))), (q403, .inl (a 0, 10, .inl (fun _ => 0))), (q385, .inr (5, [.ref q391, .ref q404, .int 0, .int 0, .int 0, .ref q405, .int 0, .ref q406])), (q404, .inr (0, [.int 0, .int 0, .int 0, .int 0, .int 0, .ref q407])), (q407, .inl (a 0, 10, .inl (fun _ => 0))), (q405, .inl (a 0, 8, .inl (fun _ => 0))), (q406, .inl (a 0, 8, .inl (fun _ => 0))), (q386, .inl (a 5, 4, .inr (.inr (.inr (.inr (fun _ => none)))))), (q387, .inr (0, [.int 0, .int 0, .int 0, .int 0, .int 0, .ref q408])), (q408, .inl (a 0, 10, .inl (fun _ => 0))), (q388, .inr (4, [.ref q409, .ref q410, .int 0, .int 0, .int 0, .ref q411, .ref q412, .ref q413])), (q409, .inr (6, [.ref q414, .ref q415, .ref q416, .int 0, .int 0, .int 0, .int 0, .int 0, .int 0])), (q414, .inl (a 0, 401, .inl (fun _ => 0))), (q415, .inl (a 0, 401, .inl (fun _ => 0))), (q416, .inl (a 0, 401, .inl (fun _ => 0))), (q410, .inl (a 0, 400, .inl (fun _ => 0))), (q411, .inl (a 0, 12, .inl (fun _ => 0))), (q412, .inl (a 0, 12, .inl (fun _ => 0))), (q413, .inl (a 0, 12, .inl (fun _ => 0))), (q389, .inr (2, [.ref q417])), (q417, .inl (a 1, 32, .inr (.inl (fun _ => 0)))), (q390, .inr (1, [.ref q418, .ref q419, .int 0, .long 0])), (q418, .inl (a 1, 2048, .inr (.inl (fun _ => 0)))), (q419, .inl (a 1, 2048, .inr (.inl (fun _ => 0)))), (q420, .inr (9, [.ref q468, .int 0, .int 0, .ref q469, .ref q470, .ref q471, .ref q472, .int 0, .int 0, .int 0, .ref q473, .ref q474, .int 0, .int 0, .int 0, .int 0, .int 0, .int 0, .int 0, .ref q475, .int 0, .ref q476, .int 0, .ref q477, .ref q478, .ref q479, .ref q480, .ref q481, .ref q482, .ref q483, .ref q484, .ref q485, .ref q486, .ref q487, .ref q488, .ref q489])), (q468, .inl (a 2, 400, .inl (fun _ => 0))), (q469, .inl (a 0, 2400, .inl (fun _ => 0))), (q470, .inl (a 0, 7, .inl (fun _ => 0))), (q471, .inl (a 0, 360, .inl (fun _ => 0))), (q472, .inl (a 0, 6, .inl (fun _ => 0))), (q473, .inl (a 0, 18, .inl (fun _ => 0))), (q474, .inl (a 0, 40, .inl (fun _ => 0))), (q475, .inl (a 0, 400, .inl (fun _ => 0))), (q476, .inl (a 1, 64, .inr (.inl (fun _ => 0)))), (q477, .inl (a 1, 9, .inr (.inl (fun _ => 0)))), (q478, .inl (a 0, 104, .inl (fun _ => 0))), (q479, .inl (a 0, 104, .inl (fun _ => 0))), (q480, .inl (a 0, 6, .inl (fun _ => 0))), (q481, .inl (a 3, 6, .inl (fun _ => 0))), (q482, .inl (a 1, 6, .inr (.inl (fun _ => 0)))), (q483, .inl (a 1, 6, .inr (.inl (fun _ => 0)))), (q484, .inl (a 1, 6, .inr (.inl (fun _ => 0)))), (q485, .inl (a 1, 6, .inr (.inl (fun _ => 0)))), (q486, .inl (a 0, 6, .inl (fun _ => 0))), (q487, .inl (a 0, 6, .inl (fun _ => 0))), (q488, .inl (a 0, 416, .inl (fun _ => 0))), (q489, .inl (a 3, 4, .inl (fun _ => 0)))] H) (hD : va_D A [(q101, .inr (8, [.ref q383, .int 0, .ref q384, .int 0, .int 0, .ref q385, .ref q386, .ref q387, .ref q388, .ref q389, .ref q390])), (q383, .inl (a 0, 400, .inl (fun _ => 0))), (q384, .inl (a 4, 6, .inr (.inr (.inr (.inr (fun _ => none)))))), (q391, .inr (7, [.int 0, .int 0, .int 0, .int 0, .int 0, .ref q392, .ref q393, .ref q394, .ref q395, .ref q396, .ref q397, .ref q398, .ref q399, .ref q400, .ref q401, .ref q402, .ref q403, .int 0])), (q392, .inl (a 0, 6, .inl (fun _ => 0))), (q393, .inl (a 0, 6, .inl (fun _ => 0))), (q394, .inl (a 0, 6, .inl (fun _ => 0))), (q395, .inl (a 0, 10, .inl (fun _ => 0))), (q396, .inl (a 0, 10, .inl (fun _ => 0))), (q397, .inl (a 0, 10, .inl (fun _ => 0))), (q398, .inl (a 0, 10, .inl (fun _ => 0))), (q399, .inl (a 0, 10, .inl (fun _ => 0))), (q400, .inl (a 0, 10, .inl (fun _ => 0))), (q401, .inl (a 0, 10, .inl (fun _ => 0))), (q402, .inl (a 0, 10, .inl (fun _ => 0))), (q403, .inl (a 0, 10, .inl (fun _ => 0))), (q385, .inr (5, [.ref q391, .ref q404, .int 0, .int 0, .int 0, .ref q405, .int 0, .ref q406])), (q404, .inr (0, [.int 0, .int 0, .int 0, .int 0, .int 0, .ref q407])), (q407, .inl (a 0, 10, .inl (fun _ => 0))), (q405, .inl (a 0, 8, .inl (fun _ => 0))), (q406, .inl (a 0, 8, .inl (fun _ => 0))), (q386, .inl (a 5, 4, .inr (.inr (.inr (.inr (fun _ => none)))))), (q387, .inr (0, [.int 0, .int 0, .int 0, .int 0, .int 0, .ref q408])), (q408, .inl (a 0, 10, .inl (fun _ => 0))), (q388, .inr (4, [.ref q409, .ref q410, .int 0, .int 0, .int 0, .ref q411, .ref q412, .ref q413])), (q409, .inr (6, [.ref q414, .ref q415, .ref q416, .int 0, .int 0, .int 0, .int 0, .int 0, .int 0])), (q414, .inl (a 0, 401, .inl (fun _ => 0))), (q415, .inl (a 0, 401, .inl (fun _ => 0))), (q416, .inl (a 0, 401, .inl (fun _ => 0))), (q410, .inl (a 0, 400, .inl (fun _ => 0))), (q411, .inl (a 0, 12, .inl (fun _ => 0))), (q412, .inl (a 0, 12, .inl (fun _ => 0))), (q413, .inl (a 0, 12, .inl (fun _ => 0))), (q389, .inr (2, [.ref q417])), (q417, .inl (a 1, 32, .inr (.inl (fun _ => 0)))), (q390, .inr (1, [.ref q418, .ref q419, .int 0, .long 0])), (q418, .inl (a 1, 2048, .inr (.inl (fun _ => 0)))), (q419, .inl (a 1, 2048, .inr (.inl (fun _ => 0)))), (q420, .inr (9, [.ref q468, .int 0, .int 0, .ref q469, .ref q470, .ref q471, .ref q472, .int 0, .int 0, .int 0, .ref q473, .ref q474, .int 0, .int 0, .int 0, .int 0, .int 0, .int 0, .int 0, .ref q475, .int 0, .ref q476, .int 0, .ref q477, .ref q478, .ref q479, .ref q480, .ref q481, .ref q482, .ref q483, .ref q484, .ref q485, .ref q486, .ref q487, .ref q488, .ref q489])), (q468, .inl (a 2, 400, .inl (fun _ => 0))), (q469, .inl (a 0, 2400, .inl (fun _ => 0))), (q470, .inl (a 0, 7, .inl (fun _ => 0))), (q471, .inl (a 0, 360, .inl (fun _ => 0))), (q472, .inl (a 0, 6, .inl (fun _ => 0))), (q473, .inl (a 0, 18, .inl (fun _ => 0))), (q474, .inl (a 0, 40, .inl (fun _ => 0))), (q475, .inl (a 0, 400, .inl (fun _ => 0))), (q476, .inl (a 1, 64, .inr (.inl (fun _ => 0)))), (q477, .inl (a 1, 9, .inr (.inl (fun _ => 0)))), (q478, .inl (a 0, 104, .inl (fun _ => 0))), (q479, .inl (a 0, 104, .inl (fun _ => 0))), (q480, .inl (a 0, 6, .inl (fun _ => 0))), (q481, .inl (a 3, 6, .inl (fun _ => 0))), (q482, .inl (a 1, 6, .inr (.inl (fun _ => 0)))), (q483, .inl (a 1, 6, .inr (.inl (fun _ => 0)))), (q484, .inl (a 1, 6, .inr (.inl (fun _ => 0)))), (q485, .inl (a 1, 6, .inr (.inl (fun _ => 0)))), (q486, .inl (a 0, 6, .inl (fun _ => 0))), (q487, .inl (a 0, 6, .inl (fun _ => 0))), (q488, .inl (a 0, 416, .inl (fun _ => 0))), (q489, .inl (a 3, 4, .inl (fun _ => 0)))]) (hS : va_S A s.heap H locs) {ls : Array Slot} (hl : lv_has ls 4 [(3, .int 0), (2, .ref q420), (1, .ref q101), (0, .ref b)]) : W p l e room_1 s m #[Value.ref b] below meth c H locs 61 10808 (lw_Z below #[Value.ref b] s) (F0 m 338 ls []) := by
  obtain ⟨hx, hb, hml, hown, hts, hr, hlocks, hnm⟩ := id C
  have hb : c.code = cL_law := hb
  have hown : s.vm.findClass RL = some m.cls := hown
  have hbA : ¬ A b := fun q => Nat.not_le.mpr hbl (hAi b q)
  obtain ⟨x1, ex1⟩ : ∃ z : Int32, z = xs 1 := ⟨_, rfl⟩
  refine lv_aload_n hx hb dL_law_338 rfl (lv_at hl 2 rfl) ?_
  refine lv_aload_n hx hb dL_law_339 rfl (lv_at hl 3 rfl) ?_
  refine lv_iload_n hx hb dL_law_340 rfl (lv_at hl 0 rfl) ?_
  refine lv_iconst (v := 1) hx hb dL_law_341 (by decide) ?_
  refine lv_iadd hx hb dL_law_342 ?_
  refine lv_topi (fun x642 ex642 => ?_)
  obtain rfl : x642 = 1 := ex642.trans (by decide)
  refine sldE hx hb hX hbl hbA hS 1 (ix_lit (by decide)) ex1 dL_law_343 ?_
  refine aftRi (runV (As := [.int x1]) (rest := []) C (c_X8_look_0 l D a q101 q383 q384 q385 q386 q387 q388 q389 q390 q391 q392 q393 q394 q395 q396 q397 q398 q399 q400 q401 q402 q403 q404 q405 q406 x1) lk_V_L_41 (okN_X8_look) ⟨Nat.le_of_ble_eq_true rfl, Nat.le_of_ble_eq_true rfl⟩ ⟨rfl, rfl⟩ (preV (preR hK (P_of_map (wc := [(q101, .inr (8, [.ref q383, .int 0, .ref q384, .int 0, .int 0, .ref q385, .ref q386, .ref q387, .ref q388, .ref q389, .ref q390])), (q391, .inr (7, [.int 0, .int 0, .int 0, .int 0, .int 0, .ref q392, .ref q393, .ref q394, .ref q395, .ref q396, .ref q397, .ref q398, .ref q399, .ref q400, .ref q401, .ref q402, .ref q403, .int 0])), (q385, .inr (5, [.ref q391, .ref q404, .int 0, .int 0, .int 0, .ref q405, .int 0, .ref q406]))]) hP [0, 3, 16] rfl)) (recvOf hK hP 0 rfl (ci := 8) rfl)) hl.1 rfl (Nat.le_of_ble_eq_true rfl) dL_law_344 ⟨Nat.le_of_ble_eq_true rfl, Nat.le_of_ble_eq_true rfl⟩) (fun x655 hw => ?_)
  rcases hw with ⟨h658, rfl⟩ | ⟨h659, h660, rfl⟩
  · refine lv_aload_n hx hb dL_law_347 rfl (lv_at hl 1 rfl) ?_
    refine lv_aload_n hx hb dL_law_348 rfl (lv_at hl 3 rfl) ?_
    refine lv_iload_n hx hb dL_law_349 rfl (lv_at hl 0 rfl) ?_
    refine lv_iconst (v := 1) hx hb dL_law_350 (by decide) ?_
    refine lv_iadd hx hb dL_law_351 ?_
    refine lv_topi (fun x661 ex661 => ?_)
    obtain rfl : x661 = 1 := ex661.trans (by decide)
    refine sldE hx hb hX hbl hbA hS 1 (ix_lit (by decide)) ex1 dL_law_352 ?_
    refine aftRi (runV (As := [.int x1]) (rest := [.int (-1)]) C (c_X9_look_0 l D a q420 q468 q469 q470 q471 q472 q473 q474 q475 q476 q477 q478 q479 q480 q481 q482 q483 q484 q485 q486 q487 q488 q489 x1) lk_V_L_44 (okN_X9_look) ⟨Nat.le_of_ble_eq_true rfl, Nat.le_of_ble_eq_true rfl⟩ ⟨rfl, rfl⟩ (preV (preR hK (P_of_map (wc := [(q420, .inr (9, [.ref q468, .int 0, .int 0, .ref q469, .ref q470, .ref q471, .ref q472, .int 0, .int 0, .int 0, .ref q473, .ref q474, .int 0, .int 0, .int 0, .int 0, .int 0, .int 0, .int 0, .ref q475, .int 0, .ref q476, .int 0, .ref q477, .ref q478, .ref q479, .ref q480, .ref q481, .ref q482, .ref q483, .ref q484, .ref q485, .ref q486, .ref q487, .ref q488, .ref q489])), (q478, .inl (a 0, 104, .inl (fun _ => 0)))]) hP [38, 49] rfl)) (recvOf hK hP 38 rfl (ci := 9) rfl)) hl.1 rfl (Nat.le_of_ble_eq_true rfl) dL_law_353 ⟨Nat.le_of_ble_eq_true rfl, Nat.le_of_ble_eq_true rfl⟩) (fun x674 hw => ?_)
    rcases hw with ⟨h677, rfl⟩ | ⟨h678, h679, rfl⟩
    · refine lv_icmp_eq (tgt := 928) hx hb dL_law_356 (by decide) (fun c9 => ?_) (fun c9 => absurd (by decide) c9)
      exact law_tail C hX hbl hAi hS (Nat.le_of_ble_eq_true rfl) (Nat.le_of_ble_eq_true rfl) (lv_sub hl [3, 0] rfl)
    · exfalso; omega
  · refine lv_aload_n hx hb dL_law_347 rfl (lv_at hl 1 rfl) ?_
    refine lv_aload_n hx hb dL_law_348 rfl (lv_at hl 3 rfl) ?_
    refine lv_iload_n hx hb dL_law_349 rfl (lv_at hl 0 rfl) ?_
    refine lv_iconst (v := 1) hx hb dL_law_350 (by decide) ?_
    refine lv_iadd hx hb dL_law_351 ?_
    refine lv_topi (fun x680 ex680 => ?_)
    obtain rfl : x680 = 1 := ex680.trans (by decide)
    refine sldE hx hb hX hbl hbA hS 1 (ix_lit (by decide)) ex1 dL_law_352 ?_
    refine aftRi (runV (As := [.int x1]) (rest := [.int (-1)]) C (c_X9_look_0 l D a q420 q468 q469 q470 q471 q472 q473 q474 q475 q476 q477 q478 q479 q480 q481 q482 q483 q484 q485 q486 q487 q488 q489 x1) lk_V_L_44 (okN_X9_look) ⟨Nat.le_of_ble_eq_true rfl, Nat.le_of_ble_eq_true rfl⟩ ⟨rfl, rfl⟩ (preV (preR hK (P_of_map (wc := [(q420, .inr (9, [.ref q468, .int 0, .int 0, .ref q469, .ref q470, .ref q471, .ref q472, .int 0, .int 0, .int 0, .ref q473, .ref q474, .int 0, .int 0, .int 0, .int 0, .int 0, .int 0, .int 0, .ref q475, .int 0, .ref q476, .int 0, .ref q477, .ref q478, .ref q479, .ref q480, .ref q481, .ref q482, .ref q483, .ref q484, .ref q485, .ref q486, .ref q487, .ref q488, .ref q489])), (q478, .inl (a 0, 104, .inl (fun _ => 0)))]) hP [38, 49] rfl)) (recvOf hK hP 38 rfl (ci := 9) rfl)) hl.1 rfl (Nat.le_of_ble_eq_true rfl) dL_law_353 ⟨Nat.le_of_ble_eq_true rfl, Nat.le_of_ble_eq_true rfl⟩) (fun x681 hw => ?_)
    rcases hw with ⟨h684, rfl⟩ | ⟨h685, h686, rfl⟩
    · exfalso; omega
    · refine lv_icmp_eq (tgt := 928) hx hb dL_law_356 (by decide) (fun c9 => ?_) (fun c9 => absurd (by decide) c9)
      exact law_tail C hX hbl hAi hS (Nat.le_of_ble_eq_true rfl) (Nat.le_of_ble_eq_true rfl) (lv_sub hl [3, 0] rfl)
end
