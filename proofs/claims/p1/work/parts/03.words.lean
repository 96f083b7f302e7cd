abbrev ML_law : Mt := (yL_law, cL_law, 4, some .boolean)
abbrev MX8_init : Mt := (yX8_init, cX8_init, 1, none)
abbrev MX7_init : Mt := (yX7_init, cX7_init, 2, none)
abbrev MX5_init : Mt := (yX5_init, cX5_init, 2, none)
abbrev MX0_init : Mt := (yX0_init, cX0_init, 1, none)
abbrev MX4_init : Mt := (yX4_init, cX4_init, 1, none)
abbrev MX6_init : Mt := (yX6_init, cX6_init, 1, none)
abbrev MX2_init : Mt := (yX2_init, cX2_init, 1, none)
abbrev MX1_init : Mt := (yX1_init, cX1_init, 1, none)
abbrev MX9_init : Mt := (yX9_init, cX9_init, 1, none)
abbrev MX8_feed : Mt := (yX8_feed, cX8_feed, 6, some .int)
abbrev MX8_putBytes : Mt := (yX8_putBytes, cX8_putBytes, 3, none)
abbrev MX8_put : Mt := (yX8_put, cX8_put, 3, none)
abbrev MX9_feed : Mt := (yX9_feed, cX9_feed, 6, some .int)
abbrev MX9_four : Mt := (yX9_four, cX9_four, 3, none)
abbrev MX8_end : Mt := (yX8_end, cX8_end, 2, some .int)
abbrev MX9_end : Mt := (yX9_end, cX9_end, 2, some .int)
abbrev MX8_work : Mt := (yX8_work, cX8_work, 3, some .int)
abbrev MX6_open : Mt := (yX6_open, cX6_open, 5, none)
abbrev MX6_addToken : Mt := (yX6_addToken, cX6_addToken, 4, none)
abbrev MX6_step : Mt := (yX6_step, cX6_step, 1, none)
abbrev MX7_readFrom : Mt := (yX7_readFrom, cX7_readFrom, 4, none)
abbrev MX7_readClause : Mt := (yX7_readClause, cX7_readClause, 5, none)
abbrev MX6_fail : Mt := (yX6_fail, cX6_fail, 2, none)
abbrev MX6_anotherClause : Mt := (yX6_anotherClause, cX6_anotherClause, 1, some .boolean)
abbrev MX7_orderLooks : Mt := (yX7_orderLooks, cX7_orderLooks, 3, none)
abbrev MX9_work : Mt := (yX9_work, cX9_work, 3, some .int)
abbrev MX9_readsAll : Mt := (yX9_readsAll, cX9_readsAll, 2, some .boolean)
abbrev MX9_clauseHere : Mt := (yX9_clauseHere, cX9_clauseHere, 4, some .boolean)
abbrev MX9_see : Mt := (yX9_see, cX9_see, 1, some .int)
abbrev MX9_isWord : Mt := (yX9_isWord, cX9_isWord, 6, some .boolean)
abbrev MX9_isLetter : Mt := (yX9_isLetter, cX9_isLetter, 2, some .boolean)
abbrev MX9_fails : Mt := (yX9_fails, cX9_fails, 3, some .boolean)
abbrev MX8_rule : Mt := (yX8_rule, cX8_rule, 4, some .int)
abbrev MX4_start : Mt := (yX4_start, cX4_start, 1, none)
abbrev MX4_readClause : Mt := (yX4_readClause, cX4_readClause, 3, none)
abbrev MX9_rule : Mt := (yX9_rule, cX9_rule, 1, some .int)
abbrev MX8_kind : Mt := (yX8_kind, cX8_kind, 4, some .int)
abbrev MX9_kind : Mt := (yX9_kind, cX9_kind, 3, some .int)
abbrev MX9_in : Mt := (yX9_in, cX9_in, 6, some .boolean)
abbrev MX8_fault : Mt := (yX8_fault, cX8_fault, 5, some .int)
abbrev MX8_isFault : Mt := (yX8_isFault, cX8_isFault, 2, some .boolean)
abbrev MX9_fault : Mt := (yX9_fault, cX9_fault, 3, some .int)
abbrev MX9_isFault : Mt := (yX9_isFault, cX9_isFault, 2, some .boolean)
abbrev MX8_look : Mt := (yX8_look, cX8_look, 2, some .int)
abbrev MX9_look : Mt := (yX9_look, cX9_look, 2, some .int)
abbrev MX8_fine : Mt := (yX8_fine, cX8_fine, 2, some .int)
abbrev MX8_hasWork : Mt := (yX8_hasWork, cX8_hasWork, 1, some .boolean)
abbrev MX9_fine : Mt := (yX9_fine, cX9_fine, 2, some .int)
abbrev MX9_isWork : Mt := (yX9_isWork, cX9_isWork, 1, some .boolean)
abbrev MX8_mend : Mt := (yX8_mend, cX8_mend, 2, some .int)
abbrev MX9_mend : Mt := (yX9_mend, cX9_mend, 2, some .int)
abbrev MX8_dawn : Mt := (yX8_dawn, cX8_dawn, 1, some .int)
abbrev MX9_dawn : Mt := (yX9_dawn, cX9_dawn, 1, some .int)
abbrev MX8_day : Mt := (yX8_day, cX8_day, 4, some .int)
abbrev MX8_ruleForWork : Mt := (yX8_ruleForWork, cX8_ruleForWork, 3, some (.object "PaidMistakes$Rule"))
abbrev MX9_day : Mt := (yX9_day, cX9_day, 3, some .int)
abbrev MX8_would : Mt := (yX8_would, cX8_would, 5, some .int)
abbrev MX9_would : Mt := (yX9_would, cX9_would, 5, some .int)
abbrev MX8_row : Mt := (yX8_row, cX8_row, 2, some .int)
abbrev MX9_row : Mt := (yX9_row, cX9_row, 2, some .int)
abbrev MX8_worth : Mt := (yX8_worth, cX8_worth, 4, some .long)
abbrev MX9_worth : Mt := (yX9_worth, cX9_worth, 2, some .long)
abbrev MX8_seen : Mt := (yX8_seen, cX8_seen, 5, some .long)
abbrev MX9_seen : Mt := (yX9_seen, cX9_seen, 3, some .long)
abbrev MX8_best : Mt := (yX8_best, cX8_best, 4, some .long)
abbrev MX9_best : Mt := (yX9_best, cX9_best, 3, some .long)
abbrev MX8_master : Mt := (yX8_master, cX8_master, 3, some .long)
abbrev MX9_master : Mt := (yX9_master, cX9_master, 13, some .long)
abbrev MX8_game : Mt := (yX8_game, cX8_game, 4, some .int)
abbrev MX9_game : Mt := (yX9_game, cX9_game, 4, some .int)
abbrev MX8_rests : Mt := (yX8_rests, cX8_rests, 5, some .int)
abbrev MX8_at : Mt := (yX8_at, cX8_at, 2, some .int)
abbrev MX9_rests : Mt := (yX9_rests, cX9_rests, 2, some .int)
abbrev MX9_gameOf : Mt := (yX9_gameOf, cX9_gameOf, 2, some .int)
abbrev MX8_mixed : Mt := (yX8_mixed, cX8_mixed, 7, some .int)
abbrev MX9_mixed : Mt := (yX9_mixed, cX9_mixed, 6, some .int)
abbrev MX8_checks : Mt := (yX8_checks, cX8_checks, 4, some .int)
abbrev MX9_checks : Mt := (yX9_checks, cX9_checks, 4, some .int)
abbrev MX8_fits : Mt := (yX8_fits, cX8_fits, 8, some .int)
abbrev MX9_fits : Mt := (yX9_fits, cX9_fits, 8, some .int)
abbrev MX8_seed : Mt := (yX8_seed, cX8_seed, 3, some .int)
abbrev MX9_seed : Mt := (yX9_seed, cX9_seed, 3, some .int)
abbrev MX8_weeks : Mt := (yX8_weeks, cX8_weeks, 7, some .int)
abbrev MX9_weeks : Mt := (yX9_weeks, cX9_weeks, 6, some .int)
abbrev MX8_count : Mt := (yX8_count, cX8_count, 2, some .int)
abbrev MJ6_bitCount_0f7a4 : Mt := (yJ6_bitCount_0f7a4, cJ6_bitCount_0f7a4, 1, some .int)
abbrev MX9_count : Mt := (yX9_count, cX9_count, 2, some .int)
abbrev MX9_thatAre : Mt := (yX9_thatAre, cX9_thatAre, 4, some .int)
abbrev MX9_bits : Mt := (yX9_bits, cX9_bits, 3, some .int)
abbrev MX8_coins : Mt := (yX8_coins, cX8_coins, 2, some .int)
abbrev MX9_coins : Mt := (yX9_coins, cX9_coins, 2, some .int)
abbrev MX8_image : Mt := (yX8_image, cX8_image, 3, some .int)
abbrev MX5_copyFrom : Mt := (yX5_copyFrom, cX5_copyFrom, 2, none)
abbrev MX0_copyFrom : Mt := (yX0_copyFrom, cX0_copyFrom, 2, none)
abbrev MX9_image : Mt := (yX9_image, cX9_image, 3, some .int)
abbrev MX8_back : Mt := (yX8_back, cX8_back, 3, some .int)
abbrev MX9_back : Mt := (yX9_back, cX9_back, 3, some .int)
theorem t_1 : Cond.initialized RX8 ∈ TBg := tb_of (List.mem_of_getElem? (i := 1) (by decide +kernel)) (by decide +kernel)
theorem t_2 : Cond.initialized RX5 ∈ TBg := tb_of (List.mem_of_getElem? (i := 2) (by decide +kernel)) (by decide +kernel)
theorem t_3 : Cond.initialized RX7 ∈ TBg := tb_of (List.mem_of_getElem? (i := 3) (by decide +kernel)) (by decide +kernel)
theorem t_4 : Cond.initialized RX0 ∈ TBg := tb_of (List.mem_of_getElem? (i := 4) (by decide +kernel)) (by decide +kernel)
theorem t_5 : Cond.initialized RX4 ∈ TBg := tb_of (List.mem_of_getElem? (i := 5) (by decide +kernel)) (by decide +kernel)
theorem t_6 : Cond.initialized RX6 ∈ TBg := tb_of (List.mem_of_getElem? (i := 6) (by decide +kernel)) (by decide +kernel)
theorem t_7 : Cond.initialized RX2 ∈ TBg := tb_of (List.mem_of_getElem? (i := 7) (by decide +kernel)) (by decide +kernel)
theorem t_8 : Cond.initialized RX1 ∈ TBg := tb_of (List.mem_of_getElem? (i := 8) (by decide +kernel)) (by decide +kernel)
theorem t_9 : Cond.initialized RX9 ∈ TBg := tb_of (List.mem_of_getElem? (i := 9) (by decide +kernel)) (by decide +kernel)
theorem t_17 : Cond.initialized RJ10 ∈ TBg := tb_of (List.mem_of_getElem? (i := 17) (by decide +kernel)) (by decide +kernel)
theorem t_18 : Cond.initialized RJ6 ∈ TBg := tb_of (List.mem_of_getElem? (i := 18) (by decide +kernel)) (by decide +kernel)
theorem t_19 : Cond.classLink RL 7 RX8 ∈ TBg := tb_of (List.mem_of_getElem? (i := 19) (by decide +kernel)) (by decide +kernel)
theorem t_20 : Cond.instantiable RX8 11 ∈ TBg := tb_of (List.mem_of_getElem? (i := 20) (by decide +kernel)) (by decide +kernel)
theorem t_21 : Cond.methodLink RL 9 yX8_init ∈ TBg := tb_of (List.mem_of_getElem? (i := 21) (by decide +kernel)) (by decide +kernel)
theorem t_22 : Cond.instanceMethod yX8_init ∈ TBg := tb_of (List.mem_of_getElem? (i := 22) (by decide +kernel)) (by decide +kernel)
theorem t_23 : cw MX8_init ∈ TBg := tb_of (List.mem_of_getElem? (i := 23) (by decide +kernel)) (by decide +kernel)
theorem t_24 : Cond.methodLink RX8 1 objectInit ∈ TBg := tb_of (List.mem_of_getElem? (i := 24) (by decide +kernel)) (by decide +kernel)
theorem t_25 : Cond.instanceMethod objectInit ∈ TBg := tb_of (List.mem_of_getElem? (i := 25) (by decide +kernel)) (by decide +kernel)
theorem t_26 : Cond.code objectInit ⟨#[0xb1]⟩ 1 none ∈ TBg := tb_of (List.mem_of_getElem? (i := 26) (by decide +kernel)) (by decide +kernel)
theorem t_27 : Cond.classLink RX8 17 RX3 ∈ TBg := tb_of (List.mem_of_getElem? (i := 27) (by decide +kernel)) (by decide +kernel)
theorem t_29 : Cond.classLink RX8 29 RX5 ∈ TBg := tb_of (List.mem_of_getElem? (i := 29) (by decide +kernel)) (by decide +kernel)
theorem t_30 : Cond.instantiable RX5 8 ∈ TBg := tb_of (List.mem_of_getElem? (i := 30) (by decide +kernel)) (by decide +kernel)
theorem t_31 : Cond.classLink RX8 31 RX7 ∈ TBg := tb_of (List.mem_of_getElem? (i := 31) (by decide +kernel)) (by decide +kernel)
theorem t_32 : Cond.instantiable RX7 18 ∈ TBg := tb_of (List.mem_of_getElem? (i := 32) (by decide +kernel)) (by decide +kernel)
theorem t_33 : Cond.methodLink RX8 33 yX7_init ∈ TBg := tb_of (List.mem_of_getElem? (i := 33) (by decide +kernel)) (by decide +kernel)
theorem t_34 : Cond.instanceMethod yX7_init ∈ TBg := tb_of (List.mem_of_getElem? (i := 34) (by decide +kernel)) (by decide +kernel)
theorem t_35 : cw MX7_init ∈ TBg := tb_of (List.mem_of_getElem? (i := 35) (by decide +kernel)) (by decide +kernel)
theorem t_36 : Cond.methodLink RX7 3 objectInit ∈ TBg := tb_of (List.mem_of_getElem? (i := 36) (by decide +kernel)) (by decide +kernel)
theorem t_37 : Cond.fieldLink RX7 9 "PaidMistakes$Work" "serial" "I" ∈ TBg := tb_of (List.mem_of_getElem? (i := 37) (by decide +kernel)) (by decide +kernel)
theorem t_39 : Cond.fieldLink RX7 52 "PaidMistakes$Work" "time" "I" ∈ TBg := tb_of (List.mem_of_getElem? (i := 39) (by decide +kernel)) (by decide +kernel)
theorem t_41 : Cond.fieldLink RX8 196 "PaidMistakes$Work" "time" "I" ∈ TBg := tb_of (List.mem_of_getElem? (i := 41) (by decide +kernel)) (by decide +kernel)
theorem t_43 : Cond.fieldLink RX8 123 "PaidMistakes$Work" "kinds" "I" ∈ TBg := tb_of (List.mem_of_getElem? (i := 43) (by decide +kernel)) (by decide +kernel)
theorem t_44 : Cond.fieldLink RX7 65 "PaidMistakes$Work" "faults" "I" ∈ TBg := tb_of (List.mem_of_getElem? (i := 44) (by decide +kernel)) (by decide +kernel)
theorem t_47 : Cond.fieldLink RX8 102 "PaidMistakes$Work" "faults" "I" ∈ TBg := tb_of (List.mem_of_getElem? (i := 47) (by decide +kernel)) (by decide +kernel)
theorem t_49 : Cond.fieldLink RX7 15 "PaidMistakes$Work" "kindPay" "[I" ∈ TBg := tb_of (List.mem_of_getElem? (i := 49) (by decide +kernel)) (by decide +kernel)
theorem t_51 : Cond.fieldLink RX7 19 "PaidMistakes$Work" "kindHide" "[I" ∈ TBg := tb_of (List.mem_of_getElem? (i := 51) (by decide +kernel)) (by decide +kernel)
theorem t_53 : Cond.fieldLink RX7 22 "PaidMistakes$Work" "kindMend" "[I" ∈ TBg := tb_of (List.mem_of_getElem? (i := 53) (by decide +kernel)) (by decide +kernel)
theorem t_55 : Cond.fieldLink RX7 25 "PaidMistakes$Work" "kindOf" "[I" ∈ TBg := tb_of (List.mem_of_getElem? (i := 55) (by decide +kernel)) (by decide +kernel)
theorem t_58 : Cond.fieldLink RX7 28 "PaidMistakes$Work" "minutes" "[I" ∈ TBg := tb_of (List.mem_of_getElem? (i := 58) (by decide +kernel)) (by decide +kernel)
theorem t_63 : Cond.fieldLink RX7 31 "PaidMistakes$Work" "odds" "[I" ∈ TBg := tb_of (List.mem_of_getElem? (i := 63) (by decide +kernel)) (by decide +kernel)
theorem t_68 : Cond.fieldLink RX7 34 "PaidMistakes$Work" "under" "[I" ∈ TBg := tb_of (List.mem_of_getElem? (i := 68) (by decide +kernel)) (by decide +kernel)
theorem t_70 : Cond.fieldLink RX7 37 "PaidMistakes$Work" "pay" "[I" ∈ TBg := tb_of (List.mem_of_getElem? (i := 70) (by decide +kernel)) (by decide +kernel)
theorem t_75 : Cond.fieldLink RX7 40 "PaidMistakes$Work" "hide" "[I" ∈ TBg := tb_of (List.mem_of_getElem? (i := 75) (by decide +kernel)) (by decide +kernel)
theorem t_76 : Cond.fieldLink RX7 43 "PaidMistakes$Work" "mend" "[I" ∈ TBg := tb_of (List.mem_of_getElem? (i := 76) (by decide +kernel)) (by decide +kernel)
theorem t_78 : Cond.fieldLink RX7 46 "PaidMistakes$Work" "oneLook" "[I" ∈ TBg := tb_of (List.mem_of_getElem? (i := 78) (by decide +kernel)) (by decide +kernel)
theorem t_79 : Cond.fieldLink RX7 49 "PaidMistakes$Work" "byOneLook" "[I" ∈ TBg := tb_of (List.mem_of_getElem? (i := 79) (by decide +kernel)) (by decide +kernel)
theorem t_82 : Cond.laysFinal RX7 "PaidMistakes$Work" "serial" "I" ∈ TBg := tb_of (List.mem_of_getElem? (i := 82) (by decide +kernel)) (by decide +kernel)
theorem t_84 : Cond.lays RX7 "PaidMistakes$Work" "time" "I" ∈ TBg := tb_of (List.mem_of_getElem? (i := 84) (by decide +kernel)) (by decide +kernel)
theorem t_86 : Cond.lays RX7 "PaidMistakes$Work" "kinds" "I" ∈ TBg := tb_of (List.mem_of_getElem? (i := 86) (by decide +kernel)) (by decide +kernel)
theorem t_88 : Cond.lays RX7 "PaidMistakes$Work" "faults" "I" ∈ TBg := tb_of (List.mem_of_getElem? (i := 88) (by decide +kernel)) (by decide +kernel)
theorem t_90 : Cond.lays RX7 "PaidMistakes$Work" "timeTold" "Z" ∈ TBg := tb_of (List.mem_of_getElem? (i := 90) (by decide +kernel)) (by decide +kernel)
theorem t_92 : Cond.laysFinal RX7 "PaidMistakes$Work" "kindPay" "[I" ∈ TBg := tb_of (List.mem_of_getElem? (i := 92) (by decide +kernel)) (by decide +kernel)
theorem t_94 : Cond.laysFinal RX7 "PaidMistakes$Work" "kindHide" "[I" ∈ TBg := tb_of (List.mem_of_getElem? (i := 94) (by decide +kernel)) (by decide +kernel)
theorem t_96 : Cond.laysFinal RX7 "PaidMistakes$Work" "kindMend" "[I" ∈ TBg := tb_of (List.mem_of_getElem? (i := 96) (by decide +kernel)) (by decide +kernel)
theorem t_98 : Cond.laysFinal RX7 "PaidMistakes$Work" "kindOf" "[I" ∈ TBg := tb_of (List.mem_of_getElem? (i := 98) (by decide +kernel)) (by decide +kernel)
theorem t_100 : Cond.laysFinal RX7 "PaidMistakes$Work" "minutes" "[I" ∈ TBg := tb_of (List.mem_of_getElem? (i := 100) (by decide +kernel)) (by decide +kernel)
theorem t_102 : Cond.laysFinal RX7 "PaidMistakes$Work" "odds" "[I" ∈ TBg := tb_of (List.mem_of_getElem? (i := 102) (by decide +kernel)) (by decide +kernel)
theorem t_104 : Cond.laysFinal RX7 "PaidMistakes$Work" "under" "[I" ∈ TBg := tb_of (List.mem_of_getElem? (i := 104) (by decide +kernel)) (by decide +kernel)
theorem t_106 : Cond.laysFinal RX7 "PaidMistakes$Work" "pay" "[I" ∈ TBg := tb_of (List.mem_of_getElem? (i := 106) (by decide +kernel)) (by decide +kernel)
theorem t_108 : Cond.laysFinal RX7 "PaidMistakes$Work" "hide" "[I" ∈ TBg := tb_of (List.mem_of_getElem? (i := 108) (by decide +kernel)) (by decide +kernel)
theorem t_110 : Cond.laysFinal RX7 "PaidMistakes$Work" "mend" "[I" ∈ TBg := tb_of (List.mem_of_getElem? (i := 110) (by decide +kernel)) (by decide +kernel)
theorem t_112 : Cond.laysFinal RX7 "PaidMistakes$Work" "oneLook" "[I" ∈ TBg := tb_of (List.mem_of_getElem? (i := 112) (by decide +kernel)) (by decide +kernel)
theorem t_114 : Cond.laysFinal RX7 "PaidMistakes$Work" "byOneLook" "[I" ∈ TBg := tb_of (List.mem_of_getElem? (i := 114) (by decide +kernel)) (by decide +kernel)
theorem t_116 : Cond.lays RX7 "PaidMistakes$Work" "longest" "I" ∈ TBg := tb_of (List.mem_of_getElem? (i := 116) (by decide +kernel)) (by decide +kernel)
theorem t_119 : Cond.arrayClass .int ∈ TBg := tb_of (List.mem_of_getElem? (i := 119) (by decide +kernel)) (by decide +kernel)
theorem t_120 : Cond.methodLink RX8 36 yX5_init ∈ TBg := tb_of (List.mem_of_getElem? (i := 120) (by decide +kernel)) (by decide +kernel)
theorem t_121 : Cond.instanceMethod yX5_init ∈ TBg := tb_of (List.mem_of_getElem? (i := 121) (by decide +kernel)) (by decide +kernel)
theorem t_122 : cw MX5_init ∈ TBg := tb_of (List.mem_of_getElem? (i := 122) (by decide +kernel)) (by decide +kernel)
theorem t_123 : Cond.methodLink RX5 3 objectInit ∈ TBg := tb_of (List.mem_of_getElem? (i := 123) (by decide +kernel)) (by decide +kernel)
theorem t_124 : Cond.classLink RX5 15 RX0 ∈ TBg := tb_of (List.mem_of_getElem? (i := 124) (by decide +kernel)) (by decide +kernel)
theorem t_125 : Cond.instantiable RX0 6 ∈ TBg := tb_of (List.mem_of_getElem? (i := 125) (by decide +kernel)) (by decide +kernel)
theorem t_126 : Cond.methodLink RX5 17 yX0_init ∈ TBg := tb_of (List.mem_of_getElem? (i := 126) (by decide +kernel)) (by decide +kernel)
theorem t_127 : Cond.instanceMethod yX0_init ∈ TBg := tb_of (List.mem_of_getElem? (i := 127) (by decide +kernel)) (by decide +kernel)
theorem t_128 : cw MX0_init ∈ TBg := tb_of (List.mem_of_getElem? (i := 128) (by decide +kernel)) (by decide +kernel)
theorem t_129 : Cond.methodLink RX0 3 objectInit ∈ TBg := tb_of (List.mem_of_getElem? (i := 129) (by decide +kernel)) (by decide +kernel)
theorem t_130 : Cond.fieldLink RX0 15 "PaidMistakes$Day" "left" "I" ∈ TBg := tb_of (List.mem_of_getElem? (i := 130) (by decide +kernel)) (by decide +kernel)
theorem t_132 : Cond.fieldLink RX8 178 "PaidMistakes$Day" "left" "I" ∈ TBg := tb_of (List.mem_of_getElem? (i := 132) (by decide +kernel)) (by decide +kernel)
theorem t_133 : Cond.fieldLink RX0 19 "PaidMistakes$Day" "earned" "I" ∈ TBg := tb_of (List.mem_of_getElem? (i := 133) (by decide +kernel)) (by decide +kernel)
theorem t_135 : Cond.fieldLink RX8 199 "PaidMistakes$Day" "earned" "I" ∈ TBg := tb_of (List.mem_of_getElem? (i := 135) (by decide +kernel)) (by decide +kernel)
theorem t_136 : Cond.fieldLink RX0 22 "PaidMistakes$Day" "found" "I" ∈ TBg := tb_of (List.mem_of_getElem? (i := 136) (by decide +kernel)) (by decide +kernel)
theorem t_138 : Cond.fieldLink RX8 158 "PaidMistakes$Day" "found" "I" ∈ TBg := tb_of (List.mem_of_getElem? (i := 138) (by decide +kernel)) (by decide +kernel)
theorem t_139 : Cond.fieldLink RX0 25 "PaidMistakes$Day" "mended" "I" ∈ TBg := tb_of (List.mem_of_getElem? (i := 139) (by decide +kernel)) (by decide +kernel)
theorem t_141 : Cond.fieldLink RX8 165 "PaidMistakes$Day" "mended" "I" ∈ TBg := tb_of (List.mem_of_getElem? (i := 141) (by decide +kernel)) (by decide +kernel)
theorem t_142 : Cond.fieldLink RX0 28 "PaidMistakes$Day" "x" "I" ∈ TBg := tb_of (List.mem_of_getElem? (i := 142) (by decide +kernel)) (by decide +kernel)
theorem t_143 : Cond.fieldLink RX8 190 "PaidMistakes$Day" "x" "I" ∈ TBg := tb_of (List.mem_of_getElem? (i := 143) (by decide +kernel)) (by decide +kernel)
theorem t_144 : Cond.fieldLink RX0 9 "PaidMistakes$Day" "tries" "[I" ∈ TBg := tb_of (List.mem_of_getElem? (i := 144) (by decide +kernel)) (by decide +kernel)
theorem t_147 : Cond.lays RX0 "PaidMistakes$Day" "left" "I" ∈ TBg := tb_of (List.mem_of_getElem? (i := 147) (by decide +kernel)) (by decide +kernel)
theorem t_149 : Cond.lays RX0 "PaidMistakes$Day" "earned" "I" ∈ TBg := tb_of (List.mem_of_getElem? (i := 149) (by decide +kernel)) (by decide +kernel)
theorem t_151 : Cond.lays RX0 "PaidMistakes$Day" "found" "I" ∈ TBg := tb_of (List.mem_of_getElem? (i := 151) (by decide +kernel)) (by decide +kernel)
theorem t_153 : Cond.lays RX0 "PaidMistakes$Day" "mended" "I" ∈ TBg := tb_of (List.mem_of_getElem? (i := 153) (by decide +kernel)) (by decide +kernel)
theorem t_155 : Cond.lays RX0 "PaidMistakes$Day" "x" "I" ∈ TBg := tb_of (List.mem_of_getElem? (i := 155) (by decide +kernel)) (by decide +kernel)
theorem t_157 : Cond.laysFinal RX0 "PaidMistakes$Day" "tries" "[I" ∈ TBg := tb_of (List.mem_of_getElem? (i := 157) (by decide +kernel)) (by decide +kernel)
theorem t_160 : Cond.fieldLink RX5 9 "PaidMistakes$State" "work" "LPaidMistakes$Work;" ∈ TBg := tb_of (List.mem_of_getElem? (i := 160) (by decide +kernel)) (by decide +kernel)
theorem t_161 : Cond.fieldLink RX8 119 "PaidMistakes$State" "work" "LPaidMistakes$Work;" ∈ TBg := tb_of (List.mem_of_getElem? (i := 161) (by decide +kernel)) (by decide +kernel)
theorem t_162 : Cond.fieldLink RX5 18 "PaidMistakes$State" "today" "LPaidMistakes$Day;" ∈ TBg := tb_of (List.mem_of_getElem? (i := 162) (by decide +kernel)) (by decide +kernel)
theorem t_163 : Cond.fieldLink RX8 143 "PaidMistakes$State" "today" "LPaidMistakes$Day;" ∈ TBg := tb_of (List.mem_of_getElem? (i := 163) (by decide +kernel)) (by decide +kernel)
theorem t_164 : Cond.fieldLink RX5 33 "PaidMistakes$State" "masterCoins" "I" ∈ TBg := tb_of (List.mem_of_getElem? (i := 164) (by decide +kernel)) (by decide +kernel)
theorem t_165 : Cond.fieldLink RX8 202 "PaidMistakes$State" "masterCoins" "I" ∈ TBg := tb_of (List.mem_of_getElem? (i := 165) (by decide +kernel)) (by decide +kernel)
theorem t_166 : Cond.fieldLink RX5 37 "PaidMistakes$State" "earnedBefore" "I" ∈ TBg := tb_of (List.mem_of_getElem? (i := 166) (by decide +kernel)) (by decide +kernel)
theorem t_167 : Cond.fieldLink RX8 205 "PaidMistakes$State" "earnedBefore" "I" ∈ TBg := tb_of (List.mem_of_getElem? (i := 167) (by decide +kernel)) (by decide +kernel)
theorem t_168 : Cond.fieldLink RX5 40 "PaidMistakes$State" "days" "I" ∈ TBg := tb_of (List.mem_of_getElem? (i := 168) (by decide +kernel)) (by decide +kernel)
theorem t_169 : Cond.fieldLink RX8 193 "PaidMistakes$State" "days" "I" ∈ TBg := tb_of (List.mem_of_getElem? (i := 169) (by decide +kernel)) (by decide +kernel)
theorem t_170 : Cond.fieldLink RX5 22 "PaidMistakes$State" "row" "[I" ∈ TBg := tb_of (List.mem_of_getElem? (i := 170) (by decide +kernel)) (by decide +kernel)
theorem t_172 : Cond.fieldLink RX5 49 "PaidMistakes$State" "rowLength" "I" ∈ TBg := tb_of (List.mem_of_getElem? (i := 172) (by decide +kernel)) (by decide +kernel)
theorem t_173 : Cond.fieldLink RX8 187 "PaidMistakes$State" "rowLength" "I" ∈ TBg := tb_of (List.mem_of_getElem? (i := 173) (by decide +kernel)) (by decide +kernel)
theorem t_174 : Cond.fieldLink RX5 26 "PaidMistakes$State" "game" "[I" ∈ TBg := tb_of (List.mem_of_getElem? (i := 174) (by decide +kernel)) (by decide +kernel)
theorem t_175 : Cond.fieldLink RX8 283 "PaidMistakes$State" "game" "[I" ∈ TBg := tb_of (List.mem_of_getElem? (i := 175) (by decide +kernel)) (by decide +kernel)
theorem t_176 : Cond.lays RX5 "PaidMistakes$State" "work" "LPaidMistakes$Work;" ∈ TBg := tb_of (List.mem_of_getElem? (i := 176) (by decide +kernel)) (by decide +kernel)
theorem t_178 : Cond.laysFinal RX5 "PaidMistakes$State" "today" "LPaidMistakes$Day;" ∈ TBg := tb_of (List.mem_of_getElem? (i := 178) (by decide +kernel)) (by decide +kernel)
theorem t_180 : Cond.lays RX5 "PaidMistakes$State" "masterCoins" "I" ∈ TBg := tb_of (List.mem_of_getElem? (i := 180) (by decide +kernel)) (by decide +kernel)
theorem t_182 : Cond.lays RX5 "PaidMistakes$State" "earnedBefore" "I" ∈ TBg := tb_of (List.mem_of_getElem? (i := 182) (by decide +kernel)) (by decide +kernel)
theorem t_184 : Cond.lays RX5 "PaidMistakes$State" "days" "I" ∈ TBg := tb_of (List.mem_of_getElem? (i := 184) (by decide +kernel)) (by decide +kernel)
theorem t_186 : Cond.laysFinal RX5 "PaidMistakes$State" "row" "[I" ∈ TBg := tb_of (List.mem_of_getElem? (i := 186) (by decide +kernel)) (by decide +kernel)
theorem t_188 : Cond.lays RX5 "PaidMistakes$State" "rowLength" "I" ∈ TBg := tb_of (List.mem_of_getElem? (i := 188) (by decide +kernel)) (by decide +kernel)
theorem t_190 : Cond.laysFinal RX5 "PaidMistakes$State" "game" "[I" ∈ TBg := tb_of (List.mem_of_getElem? (i := 190) (by decide +kernel)) (by decide +kernel)
theorem t_194 : Cond.classLink RX8 47 RX0 ∈ TBg := tb_of (List.mem_of_getElem? (i := 194) (by decide +kernel)) (by decide +kernel)
theorem t_195 : Cond.methodLink RX8 49 yX0_init ∈ TBg := tb_of (List.mem_of_getElem? (i := 195) (by decide +kernel)) (by decide +kernel)
theorem t_196 : Cond.classLink RX8 54 RX4 ∈ TBg := tb_of (List.mem_of_getElem? (i := 196) (by decide +kernel)) (by decide +kernel)
theorem t_197 : Cond.instantiable RX4 8 ∈ TBg := tb_of (List.mem_of_getElem? (i := 197) (by decide +kernel)) (by decide +kernel)
theorem t_198 : Cond.methodLink RX8 56 yX4_init ∈ TBg := tb_of (List.mem_of_getElem? (i := 198) (by decide +kernel)) (by decide +kernel)
theorem t_199 : Cond.instanceMethod yX4_init ∈ TBg := tb_of (List.mem_of_getElem? (i := 199) (by decide +kernel)) (by decide +kernel)
theorem t_200 : cw MX4_init ∈ TBg := tb_of (List.mem_of_getElem? (i := 200) (by decide +kernel)) (by decide +kernel)
theorem t_201 : Cond.methodLink RX4 3 objectInit ∈ TBg := tb_of (List.mem_of_getElem? (i := 201) (by decide +kernel)) (by decide +kernel)
theorem t_202 : Cond.classLink RX4 9 RX6 ∈ TBg := tb_of (List.mem_of_getElem? (i := 202) (by decide +kernel)) (by decide +kernel)
theorem t_203 : Cond.instantiable RX6 9 ∈ TBg := tb_of (List.mem_of_getElem? (i := 203) (by decide +kernel)) (by decide +kernel)
theorem t_204 : Cond.methodLink RX4 11 yX6_init ∈ TBg := tb_of (List.mem_of_getElem? (i := 204) (by decide +kernel)) (by decide +kernel)
theorem t_205 : Cond.instanceMethod yX6_init ∈ TBg := tb_of (List.mem_of_getElem? (i := 205) (by decide +kernel)) (by decide +kernel)
theorem t_206 : cw MX6_init ∈ TBg := tb_of (List.mem_of_getElem? (i := 206) (by decide +kernel)) (by decide +kernel)
theorem t_207 : Cond.methodLink RX6 3 objectInit ∈ TBg := tb_of (List.mem_of_getElem? (i := 207) (by decide +kernel)) (by decide +kernel)
theorem t_208 : Cond.fieldLink RX6 9 "PaidMistakes$Text" "codes" "[I" ∈ TBg := tb_of (List.mem_of_getElem? (i := 208) (by decide +kernel)) (by decide +kernel)
theorem t_209 : Cond.fieldLink RX6 15 "PaidMistakes$Text" "places" "[I" ∈ TBg := tb_of (List.mem_of_getElem? (i := 209) (by decide +kernel)) (by decide +kernel)
theorem t_210 : Cond.fieldLink RX6 18 "PaidMistakes$Text" "numbers" "[I" ∈ TBg := tb_of (List.mem_of_getElem? (i := 210) (by decide +kernel)) (by decide +kernel)
theorem t_211 : Cond.fieldLink RX6 21 "PaidMistakes$Text" "tokens" "I" ∈ TBg := tb_of (List.mem_of_getElem? (i := 211) (by decide +kernel)) (by decide +kernel)
theorem t_212 : Cond.fieldLink RX6 36 "PaidMistakes$Text" "next" "I" ∈ TBg := tb_of (List.mem_of_getElem? (i := 212) (by decide +kernel)) (by decide +kernel)
theorem t_213 : Cond.fieldLink RX7 92 "PaidMistakes$Text" "code" "I" ∈ TBg := tb_of (List.mem_of_getElem? (i := 213) (by decide +kernel)) (by decide +kernel)
theorem t_214 : Cond.fieldLink RX4 66 "PaidMistakes$Text" "code" "I" ∈ TBg := tb_of (List.mem_of_getElem? (i := 214) (by decide +kernel)) (by decide +kernel)
theorem t_215 : Cond.fieldLink RX6 112 "PaidMistakes$Text" "code" "I" ∈ TBg := tb_of (List.mem_of_getElem? (i := 215) (by decide +kernel)) (by decide +kernel)
theorem t_216 : Cond.fieldLink RX6 115 "PaidMistakes$Text" "place" "I" ∈ TBg := tb_of (List.mem_of_getElem? (i := 216) (by decide +kernel)) (by decide +kernel)
theorem t_218 : Cond.fieldLink RX6 118 "PaidMistakes$Text" "number" "I" ∈ TBg := tb_of (List.mem_of_getElem? (i := 218) (by decide +kernel)) (by decide +kernel)
theorem t_219 : Cond.fieldLink RX6 33 "PaidMistakes$Text" "fault" "I" ∈ TBg := tb_of (List.mem_of_getElem? (i := 219) (by decide +kernel)) (by decide +kernel)
theorem t_221 : Cond.fieldLink RX8 96 "PaidMistakes$Text" "fault" "I" ∈ TBg := tb_of (List.mem_of_getElem? (i := 221) (by decide +kernel)) (by decide +kernel)
theorem t_223 : Cond.laysFinal RX6 "PaidMistakes$Text" "codes" "[I" ∈ TBg := tb_of (List.mem_of_getElem? (i := 223) (by decide +kernel)) (by decide +kernel)
theorem t_225 : Cond.laysFinal RX6 "PaidMistakes$Text" "places" "[I" ∈ TBg := tb_of (List.mem_of_getElem? (i := 225) (by decide +kernel)) (by decide +kernel)
theorem t_227 : Cond.laysFinal RX6 "PaidMistakes$Text" "numbers" "[I" ∈ TBg := tb_of (List.mem_of_getElem? (i := 227) (by decide +kernel)) (by decide +kernel)
theorem t_229 : Cond.lays RX6 "PaidMistakes$Text" "tokens" "I" ∈ TBg := tb_of (List.mem_of_getElem? (i := 229) (by decide +kernel)) (by decide +kernel)
theorem t_231 : Cond.lays RX6 "PaidMistakes$Text" "next" "I" ∈ TBg := tb_of (List.mem_of_getElem? (i := 231) (by decide +kernel)) (by decide +kernel)
theorem t_233 : Cond.lays RX6 "PaidMistakes$Text" "code" "I" ∈ TBg := tb_of (List.mem_of_getElem? (i := 233) (by decide +kernel)) (by decide +kernel)
theorem t_235 : Cond.lays RX6 "PaidMistakes$Text" "place" "I" ∈ TBg := tb_of (List.mem_of_getElem? (i := 235) (by decide +kernel)) (by decide +kernel)
theorem t_237 : Cond.lays RX6 "PaidMistakes$Text" "number" "I" ∈ TBg := tb_of (List.mem_of_getElem? (i := 237) (by decide +kernel)) (by decide +kernel)
theorem t_239 : Cond.lays RX6 "PaidMistakes$Text" "fault" "I" ∈ TBg := tb_of (List.mem_of_getElem? (i := 239) (by decide +kernel)) (by decide +kernel)
theorem t_242 : Cond.fieldLink RX4 12 "PaidMistakes$RuleReader" "text" "LPaidMistakes$Text;" ∈ TBg := tb_of (List.mem_of_getElem? (i := 242) (by decide +kernel)) (by decide +kernel)
theorem t_243 : Cond.fieldLink RX8 82 "PaidMistakes$RuleReader" "text" "LPaidMistakes$Text;" ∈ TBg := tb_of (List.mem_of_getElem? (i := 243) (by decide +kernel)) (by decide +kernel)
theorem t_244 : Cond.fieldLink RX4 18 "PaidMistakes$RuleReader" "code" "[I" ∈ TBg := tb_of (List.mem_of_getElem? (i := 244) (by decide +kernel)) (by decide +kernel)
theorem t_245 : Cond.fieldLink RX4 31 "PaidMistakes$RuleReader" "length" "I" ∈ TBg := tb_of (List.mem_of_getElem? (i := 245) (by decide +kernel)) (by decide +kernel)
theorem t_246 : Cond.fieldLink RX4 35 "PaidMistakes$RuleReader" "pieces" "I" ∈ TBg := tb_of (List.mem_of_getElem? (i := 246) (by decide +kernel)) (by decide +kernel)
theorem t_247 : Cond.fieldLink RX4 38 "PaidMistakes$RuleReader" "clauses" "I" ∈ TBg := tb_of (List.mem_of_getElem? (i := 247) (by decide +kernel)) (by decide +kernel)
theorem t_248 : Cond.fieldLink RX4 22 "PaidMistakes$RuleReader" "begin" "[I" ∈ TBg := tb_of (List.mem_of_getElem? (i := 248) (by decide +kernel)) (by decide +kernel)
theorem t_249 : Cond.fieldLink RX4 25 "PaidMistakes$RuleReader" "middle" "[I" ∈ TBg := tb_of (List.mem_of_getElem? (i := 249) (by decide +kernel)) (by decide +kernel)
theorem t_250 : Cond.fieldLink RX4 28 "PaidMistakes$RuleReader" "finish" "[I" ∈ TBg := tb_of (List.mem_of_getElem? (i := 250) (by decide +kernel)) (by decide +kernel)
theorem t_251 : Cond.laysFinal RX4 "PaidMistakes$RuleReader" "text" "LPaidMistakes$Text;" ∈ TBg := tb_of (List.mem_of_getElem? (i := 251) (by decide +kernel)) (by decide +kernel)
theorem t_253 : Cond.laysFinal RX4 "PaidMistakes$RuleReader" "code" "[I" ∈ TBg := tb_of (List.mem_of_getElem? (i := 253) (by decide +kernel)) (by decide +kernel)
theorem t_255 : Cond.lays RX4 "PaidMistakes$RuleReader" "length" "I" ∈ TBg := tb_of (List.mem_of_getElem? (i := 255) (by decide +kernel)) (by decide +kernel)
theorem t_257 : Cond.lays RX4 "PaidMistakes$RuleReader" "pieces" "I" ∈ TBg := tb_of (List.mem_of_getElem? (i := 257) (by decide +kernel)) (by decide +kernel)
theorem t_259 : Cond.lays RX4 "PaidMistakes$RuleReader" "clauses" "I" ∈ TBg := tb_of (List.mem_of_getElem? (i := 259) (by decide +kernel)) (by decide +kernel)
theorem t_261 : Cond.laysFinal RX4 "PaidMistakes$RuleReader" "begin" "[I" ∈ TBg := tb_of (List.mem_of_getElem? (i := 261) (by decide +kernel)) (by decide +kernel)
theorem t_263 : Cond.laysFinal RX4 "PaidMistakes$RuleReader" "middle" "[I" ∈ TBg := tb_of (List.mem_of_getElem? (i := 263) (by decide +kernel)) (by decide +kernel)
theorem t_265 : Cond.laysFinal RX4 "PaidMistakes$RuleReader" "finish" "[I" ∈ TBg := tb_of (List.mem_of_getElem? (i := 265) (by decide +kernel)) (by decide +kernel)
theorem t_268 : Cond.classLink RX8 61 RX2 ∈ TBg := tb_of (List.mem_of_getElem? (i := 268) (by decide +kernel)) (by decide +kernel)
theorem t_269 : Cond.instantiable RX2 1 ∈ TBg := tb_of (List.mem_of_getElem? (i := 269) (by decide +kernel)) (by decide +kernel)
theorem t_270 : Cond.methodLink RX8 63 yX2_init ∈ TBg := tb_of (List.mem_of_getElem? (i := 270) (by decide +kernel)) (by decide +kernel)
theorem t_271 : Cond.instanceMethod yX2_init ∈ TBg := tb_of (List.mem_of_getElem? (i := 271) (by decide +kernel)) (by decide +kernel)
theorem t_272 : cw MX2_init ∈ TBg := tb_of (List.mem_of_getElem? (i := 272) (by decide +kernel)) (by decide +kernel)
theorem t_273 : Cond.methodLink RX2 3 objectInit ∈ TBg := tb_of (List.mem_of_getElem? (i := 273) (by decide +kernel)) (by decide +kernel)
theorem t_274 : Cond.fieldLink RX2 9 "PaidMistakes$Player" "stack" "[J" ∈ TBg := tb_of (List.mem_of_getElem? (i := 274) (by decide +kernel)) (by decide +kernel)
theorem t_275 : Cond.laysFinal RX2 "PaidMistakes$Player" "stack" "[J" ∈ TBg := tb_of (List.mem_of_getElem? (i := 275) (by decide +kernel)) (by decide +kernel)
theorem t_278 : Cond.arrayClass .long ∈ TBg := tb_of (List.mem_of_getElem? (i := 278) (by decide +kernel)) (by decide +kernel)
theorem t_279 : Cond.classLink RX8 68 RX1 ∈ TBg := tb_of (List.mem_of_getElem? (i := 279) (by decide +kernel)) (by decide +kernel)
theorem t_280 : Cond.instantiable RX1 4 ∈ TBg := tb_of (List.mem_of_getElem? (i := 280) (by decide +kernel)) (by decide +kernel)
theorem t_281 : Cond.methodLink RX8 70 yX1_init ∈ TBg := tb_of (List.mem_of_getElem? (i := 281) (by decide +kernel)) (by decide +kernel)
theorem t_282 : Cond.instanceMethod yX1_init ∈ TBg := tb_of (List.mem_of_getElem? (i := 282) (by decide +kernel)) (by decide +kernel)
theorem t_283 : cw MX1_init ∈ TBg := tb_of (List.mem_of_getElem? (i := 283) (by decide +kernel)) (by decide +kernel)
theorem t_284 : Cond.methodLink RX1 3 objectInit ∈ TBg := tb_of (List.mem_of_getElem? (i := 284) (by decide +kernel)) (by decide +kernel)
theorem t_285 : Cond.fieldLink RX1 11 "PaidMistakes$Planner" "keys" "[J" ∈ TBg := tb_of (List.mem_of_getElem? (i := 285) (by decide +kernel)) (by decide +kernel)
theorem t_286 : Cond.fieldLink RX1 15 "PaidMistakes$Planner" "kept" "[J" ∈ TBg := tb_of (List.mem_of_getElem? (i := 286) (by decide +kernel)) (by decide +kernel)
theorem t_291 : Cond.laysFinal RX1 "PaidMistakes$Planner" "keys" "[J" ∈ TBg := tb_of (List.mem_of_getElem? (i := 291) (by decide +kernel)) (by decide +kernel)
theorem t_293 : Cond.laysFinal RX1 "PaidMistakes$Planner" "kept" "[J" ∈ TBg := tb_of (List.mem_of_getElem? (i := 293) (by decide +kernel)) (by decide +kernel)
theorem t_295 : Cond.lays RX1 "PaidMistakes$Planner" "setToMend" "I" ∈ TBg := tb_of (List.mem_of_getElem? (i := 295) (by decide +kernel)) (by decide +kernel)
theorem t_297 : Cond.lays RX1 "PaidMistakes$Planner" "meanOfSet" "J" ∈ TBg := tb_of (List.mem_of_getElem? (i := 297) (by decide +kernel)) (by decide +kernel)
theorem t_300 : Cond.fieldLink RX8 9 "PaidMistakes" "tape" "[I" ∈ TBg := tb_of (List.mem_of_getElem? (i := 300) (by decide +kernel)) (by decide +kernel)
theorem t_301 : Cond.fieldLink RX8 13 "PaidMistakes" "tapeLength" "I" ∈ TBg := tb_of (List.mem_of_getElem? (i := 301) (by decide +kernel)) (by decide +kernel)
theorem t_302 : Cond.fieldLink RX8 19 "PaidMistakes" "rules" "[LPaidMistakes$Rule;" ∈ TBg := tb_of (List.mem_of_getElem? (i := 302) (by decide +kernel)) (by decide +kernel)
theorem t_303 : Cond.fieldLink RX8 23 "PaidMistakes" "ruleCount" "I" ∈ TBg := tb_of (List.mem_of_getElem? (i := 303) (by decide +kernel)) (by decide +kernel)
theorem t_304 : Cond.fieldLink RX8 26 "PaidMistakes" "worksTold" "I" ∈ TBg := tb_of (List.mem_of_getElem? (i := 304) (by decide +kernel)) (by decide +kernel)
theorem t_305 : Cond.fieldLink RX8 39 "PaidMistakes" "now" "LPaidMistakes$State;" ∈ TBg := tb_of (List.mem_of_getElem? (i := 305) (by decide +kernel)) (by decide +kernel)
theorem t_306 : Cond.fieldLink RX8 43 "PaidMistakes" "images" "[LPaidMistakes$State;" ∈ TBg := tb_of (List.mem_of_getElem? (i := 306) (by decide +kernel)) (by decide +kernel)
theorem t_307 : Cond.fieldLink RX8 50 "PaidMistakes" "trial" "LPaidMistakes$Day;" ∈ TBg := tb_of (List.mem_of_getElem? (i := 307) (by decide +kernel)) (by decide +kernel)
theorem t_308 : Cond.fieldLink RX8 57 "PaidMistakes" "ruleReader" "LPaidMistakes$RuleReader;" ∈ TBg := tb_of (List.mem_of_getElem? (i := 308) (by decide +kernel)) (by decide +kernel)
theorem t_309 : Cond.fieldLink RX8 64 "PaidMistakes" "player" "LPaidMistakes$Player;" ∈ TBg := tb_of (List.mem_of_getElem? (i := 309) (by decide +kernel)) (by decide +kernel)
theorem t_310 : Cond.fieldLink RX8 71 "PaidMistakes" "planner" "LPaidMistakes$Planner;" ∈ TBg := tb_of (List.mem_of_getElem? (i := 310) (by decide +kernel)) (by decide +kernel)
theorem t_311 : Cond.laysFinal RX8 "PaidMistakes" "tape" "[I" ∈ TBg := tb_of (List.mem_of_getElem? (i := 311) (by decide +kernel)) (by decide +kernel)
theorem t_313 : Cond.lays RX8 "PaidMistakes" "tapeLength" "I" ∈ TBg := tb_of (List.mem_of_getElem? (i := 313) (by decide +kernel)) (by decide +kernel)
theorem t_315 : Cond.laysFinal RX8 "PaidMistakes" "rules" "[LPaidMistakes$Rule;" ∈ TBg := tb_of (List.mem_of_getElem? (i := 315) (by decide +kernel)) (by decide +kernel)
theorem t_317 : Cond.lays RX8 "PaidMistakes" "ruleCount" "I" ∈ TBg := tb_of (List.mem_of_getElem? (i := 317) (by decide +kernel)) (by decide +kernel)
theorem t_319 : Cond.lays RX8 "PaidMistakes" "worksTold" "I" ∈ TBg := tb_of (List.mem_of_getElem? (i := 319) (by decide +kernel)) (by decide +kernel)
theorem t_321 : Cond.laysFinal RX8 "PaidMistakes" "now" "LPaidMistakes$State;" ∈ TBg := tb_of (List.mem_of_getElem? (i := 321) (by decide +kernel)) (by decide +kernel)
theorem t_323 : Cond.laysFinal RX8 "PaidMistakes" "images" "[LPaidMistakes$State;" ∈ TBg := tb_of (List.mem_of_getElem? (i := 323) (by decide +kernel)) (by decide +kernel)
theorem t_325 : Cond.laysFinal RX8 "PaidMistakes" "trial" "LPaidMistakes$Day;" ∈ TBg := tb_of (List.mem_of_getElem? (i := 325) (by decide +kernel)) (by decide +kernel)
theorem t_327 : Cond.laysFinal RX8 "PaidMistakes" "ruleReader" "LPaidMistakes$RuleReader;" ∈ TBg := tb_of (List.mem_of_getElem? (i := 327) (by decide +kernel)) (by decide +kernel)
theorem t_329 : Cond.laysFinal RX8 "PaidMistakes" "player" "LPaidMistakes$Player;" ∈ TBg := tb_of (List.mem_of_getElem? (i := 329) (by decide +kernel)) (by decide +kernel)
theorem t_331 : Cond.laysFinal RX8 "PaidMistakes" "planner" "LPaidMistakes$Planner;" ∈ TBg := tb_of (List.mem_of_getElem? (i := 331) (by decide +kernel)) (by decide +kernel)
theorem t_334 : Cond.methodLink RL 13 yX8_feed ∈ TBg := tb_of (List.mem_of_getElem? (i := 334) (by decide +kernel)) (by decide +kernel)
theorem t_335 : Cond.instanceMethod yX8_feed ∈ TBg := tb_of (List.mem_of_getElem? (i := 335) (by decide +kernel)) (by decide +kernel)
theorem t_336 : Cond.selects RX8 yX8_feed yX8_feed ∈ TBg := tb_of (List.mem_of_getElem? (i := 336) (by decide +kernel)) (by decide +kernel)
theorem t_337 : cw MX8_feed ∈ TBg := tb_of (List.mem_of_getElem? (i := 337) (by decide +kernel)) (by decide +kernel)
theorem t_338 : Cond.methodLink RX8 75 yX8_putBytes ∈ TBg := tb_of (List.mem_of_getElem? (i := 338) (by decide +kernel)) (by decide +kernel)
theorem t_340 : Cond.instanceMethod yX8_putBytes ∈ TBg := tb_of (List.mem_of_getElem? (i := 340) (by decide +kernel)) (by decide +kernel)
theorem t_341 : cw MX8_putBytes ∈ TBg := tb_of (List.mem_of_getElem? (i := 341) (by decide +kernel)) (by decide +kernel)
theorem t_342 : Cond.methodLink RX8 78 yX8_put ∈ TBg := tb_of (List.mem_of_getElem? (i := 342) (by decide +kernel)) (by decide +kernel)
theorem t_343 : Cond.static yX8_put ∈ TBg := tb_of (List.mem_of_getElem? (i := 343) (by decide +kernel)) (by decide +kernel)
theorem t_344 : cw MX8_put ∈ TBg := tb_of (List.mem_of_getElem? (i := 344) (by decide +kernel)) (by decide +kernel)
theorem t_345 : Cond.methodLink RL 18 yX8_end ∈ TBg := tb_of (List.mem_of_getElem? (i := 345) (by decide +kernel)) (by decide +kernel)
theorem t_346 : Cond.instanceMethod yX8_end ∈ TBg := tb_of (List.mem_of_getElem? (i := 346) (by decide +kernel)) (by decide +kernel)
theorem t_347 : Cond.selects RX8 yX8_end yX8_end ∈ TBg := tb_of (List.mem_of_getElem? (i := 347) (by decide +kernel)) (by decide +kernel)
theorem t_348 : cw MX8_end ∈ TBg := tb_of (List.mem_of_getElem? (i := 348) (by decide +kernel)) (by decide +kernel)
theorem t_349 : Cond.methodLink RL 23 yX8_work ∈ TBg := tb_of (List.mem_of_getElem? (i := 349) (by decide +kernel)) (by decide +kernel)
theorem t_350 : Cond.instanceMethod yX8_work ∈ TBg := tb_of (List.mem_of_getElem? (i := 350) (by decide +kernel)) (by decide +kernel)
theorem t_351 : Cond.selects RX8 yX8_work yX8_work ∈ TBg := tb_of (List.mem_of_getElem? (i := 351) (by decide +kernel)) (by decide +kernel)
theorem t_352 : cw MX8_work ∈ TBg := tb_of (List.mem_of_getElem? (i := 352) (by decide +kernel)) (by decide +kernel)
theorem t_353 : Cond.methodLink RX8 86 yX6_open ∈ TBg := tb_of (List.mem_of_getElem? (i := 353) (by decide +kernel)) (by decide +kernel)
theorem t_354 : Cond.instanceMethod yX6_open ∈ TBg := tb_of (List.mem_of_getElem? (i := 354) (by decide +kernel)) (by decide +kernel)
theorem t_355 : Cond.selects RX6 yX6_open yX6_open ∈ TBg := tb_of (List.mem_of_getElem? (i := 355) (by decide +kernel)) (by decide +kernel)
theorem t_356 : cw MX6_open ∈ TBg := tb_of (List.mem_of_getElem? (i := 356) (by decide +kernel)) (by decide +kernel)
theorem t_362 : Cond.static yX8_at ∈ TBg := tb_of (List.mem_of_getElem? (i := 362) (by decide +kernel)) (by decide +kernel)
theorem t_363 : cw MX8_at ∈ TBg := tb_of (List.mem_of_getElem? (i := 363) (by decide +kernel)) (by decide +kernel)
theorem t_371 : Cond.methodLink RX6 29 yX6_addToken ∈ TBg := tb_of (List.mem_of_getElem? (i := 371) (by decide +kernel)) (by decide +kernel)
theorem t_373 : Cond.instanceMethod yX6_addToken ∈ TBg := tb_of (List.mem_of_getElem? (i := 373) (by decide +kernel)) (by decide +kernel)
theorem t_374 : cw MX6_addToken ∈ TBg := tb_of (List.mem_of_getElem? (i := 374) (by decide +kernel)) (by decide +kernel)
theorem t_456 : Cond.methodLink RX6 39 yX6_step ∈ TBg := tb_of (List.mem_of_getElem? (i := 456) (by decide +kernel)) (by decide +kernel)
theorem t_457 : Cond.instanceMethod yX6_step ∈ TBg := tb_of (List.mem_of_getElem? (i := 457) (by decide +kernel)) (by decide +kernel)
theorem t_458 : Cond.selects RX6 yX6_step yX6_step ∈ TBg := tb_of (List.mem_of_getElem? (i := 458) (by decide +kernel)) (by decide +kernel)
theorem t_459 : cw MX6_step ∈ TBg := tb_of (List.mem_of_getElem? (i := 459) (by decide +kernel)) (by decide +kernel)
theorem t_460 : Cond.methodLink RX8 92 yX7_readFrom ∈ TBg := tb_of (List.mem_of_getElem? (i := 460) (by decide +kernel)) (by decide +kernel)
theorem t_461 : Cond.instanceMethod yX7_readFrom ∈ TBg := tb_of (List.mem_of_getElem? (i := 461) (by decide +kernel)) (by decide +kernel)
theorem t_462 : Cond.selects RX7 yX7_readFrom yX7_readFrom ∈ TBg := tb_of (List.mem_of_getElem? (i := 462) (by decide +kernel)) (by decide +kernel)
theorem t_463 : cw MX7_readFrom ∈ TBg := tb_of (List.mem_of_getElem? (i := 463) (by decide +kernel)) (by decide +kernel)
theorem t_464 : Cond.methodLink RX7 55 yX7_readClause ∈ TBg := tb_of (List.mem_of_getElem? (i := 464) (by decide +kernel)) (by decide +kernel)
theorem t_466 : Cond.instanceMethod yX7_readClause ∈ TBg := tb_of (List.mem_of_getElem? (i := 466) (by decide +kernel)) (by decide +kernel)
theorem t_467 : cw MX7_readClause ∈ TBg := tb_of (List.mem_of_getElem? (i := 467) (by decide +kernel)) (by decide +kernel)
theorem t_468 : Cond.methodLink RX7 68 yX6_fail ∈ TBg := tb_of (List.mem_of_getElem? (i := 468) (by decide +kernel)) (by decide +kernel)
theorem t_469 : Cond.instanceMethod yX6_fail ∈ TBg := tb_of (List.mem_of_getElem? (i := 469) (by decide +kernel)) (by decide +kernel)
theorem t_470 : Cond.selects RX6 yX6_fail yX6_fail ∈ TBg := tb_of (List.mem_of_getElem? (i := 470) (by decide +kernel)) (by decide +kernel)
theorem t_471 : cw MX6_fail ∈ TBg := tb_of (List.mem_of_getElem? (i := 471) (by decide +kernel)) (by decide +kernel)
theorem t_488 : Cond.methodLink RX7 59 yX6_anotherClause ∈ TBg := tb_of (List.mem_of_getElem? (i := 488) (by decide +kernel)) (by decide +kernel)
theorem t_489 : Cond.instanceMethod yX6_anotherClause ∈ TBg := tb_of (List.mem_of_getElem? (i := 489) (by decide +kernel)) (by decide +kernel)
theorem t_490 : Cond.selects RX6 yX6_anotherClause yX6_anotherClause ∈ TBg := tb_of (List.mem_of_getElem? (i := 490) (by decide +kernel)) (by decide +kernel)
theorem t_491 : cw MX6_anotherClause ∈ TBg := tb_of (List.mem_of_getElem? (i := 491) (by decide +kernel)) (by decide +kernel)
theorem t_492 : Cond.methodLink RX7 72 yX7_orderLooks ∈ TBg := tb_of (List.mem_of_getElem? (i := 492) (by decide +kernel)) (by decide +kernel)
theorem t_494 : Cond.instanceMethod yX7_orderLooks ∈ TBg := tb_of (List.mem_of_getElem? (i := 494) (by decide +kernel)) (by decide +kernel)
theorem t_495 : cw MX7_orderLooks ∈ TBg := tb_of (List.mem_of_getElem? (i := 495) (by decide +kernel)) (by decide +kernel)
theorem t_510 : Cond.arrayClass .byte ∈ TBg := tb_of (List.mem_of_getElem? (i := 510) (by decide +kernel)) (by decide +kernel)
theorem t_511 : Cond.methodLink RL 28 yX8_rule ∈ TBg := tb_of (List.mem_of_getElem? (i := 511) (by decide +kernel)) (by decide +kernel)
theorem t_512 : Cond.instanceMethod yX8_rule ∈ TBg := tb_of (List.mem_of_getElem? (i := 512) (by decide +kernel)) (by decide +kernel)
theorem t_513 : Cond.selects RX8 yX8_rule yX8_rule ∈ TBg := tb_of (List.mem_of_getElem? (i := 513) (by decide +kernel)) (by decide +kernel)
theorem t_514 : cw MX8_rule ∈ TBg := tb_of (List.mem_of_getElem? (i := 514) (by decide +kernel)) (by decide +kernel)
theorem t_515 : Cond.methodLink RX8 105 yX4_start ∈ TBg := tb_of (List.mem_of_getElem? (i := 515) (by decide +kernel)) (by decide +kernel)
theorem t_516 : Cond.instanceMethod yX4_start ∈ TBg := tb_of (List.mem_of_getElem? (i := 516) (by decide +kernel)) (by decide +kernel)
theorem t_517 : Cond.selects RX4 yX4_start yX4_start ∈ TBg := tb_of (List.mem_of_getElem? (i := 517) (by decide +kernel)) (by decide +kernel)
theorem t_518 : cw MX4_start ∈ TBg := tb_of (List.mem_of_getElem? (i := 518) (by decide +kernel)) (by decide +kernel)
theorem t_519 : Cond.methodLink RX8 108 yX4_readClause ∈ TBg := tb_of (List.mem_of_getElem? (i := 519) (by decide +kernel)) (by decide +kernel)
theorem t_520 : Cond.instanceMethod yX4_readClause ∈ TBg := tb_of (List.mem_of_getElem? (i := 520) (by decide +kernel)) (by decide +kernel)
theorem t_521 : Cond.selects RX4 yX4_readClause yX4_readClause ∈ TBg := tb_of (List.mem_of_getElem? (i := 521) (by decide +kernel)) (by decide +kernel)
theorem t_522 : cw MX4_readClause ∈ TBg := tb_of (List.mem_of_getElem? (i := 522) (by decide +kernel)) (by decide +kernel)
theorem t_523 : Cond.methodLink RX4 68 yX6_fail ∈ TBg := tb_of (List.mem_of_getElem? (i := 523) (by decide +kernel)) (by decide +kernel)
theorem t_550 : Cond.methodLink RX8 111 yX6_anotherClause ∈ TBg := tb_of (List.mem_of_getElem? (i := 550) (by decide +kernel)) (by decide +kernel)
theorem t_560 : Cond.instantiable RX3 5 ∈ TBg := tb_of (List.mem_of_getElem? (i := 560) (by decide +kernel)) (by decide +kernel)
theorem t_573 : Cond.static ⟨"java/lang/System", "arraycopy", "(Ljava/lang/Object;ILjava/lang/Object;II)V"⟩ ∈ TBg := tb_of (List.mem_of_getElem? (i := 573) (by decide +kernel)) (by decide +kernel)
theorem t_574 : Cond.native ⟨"java/lang/System", "arraycopy", "(Ljava/lang/Object;ILjava/lang/Object;II)V"⟩ ∈ TBg := tb_of (List.mem_of_getElem? (i := 574) (by decide +kernel)) (by decide +kernel)
theorem t_591 : Cond.laysFinal RX3 "PaidMistakes$Rule" "code" "[I" ∈ TBg := tb_of (List.mem_of_getElem? (i := 591) (by decide +kernel)) (by decide +kernel)
theorem t_593 : Cond.laysFinal RX3 "PaidMistakes$Rule" "clauses" "I" ∈ TBg := tb_of (List.mem_of_getElem? (i := 593) (by decide +kernel)) (by decide +kernel)
theorem t_595 : Cond.laysFinal RX3 "PaidMistakes$Rule" "begin" "[I" ∈ TBg := tb_of (List.mem_of_getElem? (i := 595) (by decide +kernel)) (by decide +kernel)
theorem t_597 : Cond.laysFinal RX3 "PaidMistakes$Rule" "middle" "[I" ∈ TBg := tb_of (List.mem_of_getElem? (i := 597) (by decide +kernel)) (by decide +kernel)
theorem t_599 : Cond.laysFinal RX3 "PaidMistakes$Rule" "finish" "[I" ∈ TBg := tb_of (List.mem_of_getElem? (i := 599) (by decide +kernel)) (by decide +kernel)
theorem t_602 : Cond.methodLink RL 32 yX8_kind ∈ TBg := tb_of (List.mem_of_getElem? (i := 602) (by decide +kernel)) (by decide +kernel)
theorem t_603 : Cond.instanceMethod yX8_kind ∈ TBg := tb_of (List.mem_of_getElem? (i := 603) (by decide +kernel)) (by decide +kernel)
theorem t_604 : Cond.selects RX8 yX8_kind yX8_kind ∈ TBg := tb_of (List.mem_of_getElem? (i := 604) (by decide +kernel)) (by decide +kernel)
theorem t_605 : cw MX8_kind ∈ TBg := tb_of (List.mem_of_getElem? (i := 605) (by decide +kernel)) (by decide +kernel)
theorem t_606 : Cond.methodLink RX8 129 yX8_at ∈ TBg := tb_of (List.mem_of_getElem? (i := 606) (by decide +kernel)) (by decide +kernel)
theorem t_607 : Cond.methodLink RL 37 yX8_fault ∈ TBg := tb_of (List.mem_of_getElem? (i := 607) (by decide +kernel)) (by decide +kernel)
theorem t_608 : Cond.instanceMethod yX8_fault ∈ TBg := tb_of (List.mem_of_getElem? (i := 608) (by decide +kernel)) (by decide +kernel)
theorem t_609 : Cond.selects RX8 yX8_fault yX8_fault ∈ TBg := tb_of (List.mem_of_getElem? (i := 609) (by decide +kernel)) (by decide +kernel)
theorem t_610 : cw MX8_fault ∈ TBg := tb_of (List.mem_of_getElem? (i := 610) (by decide +kernel)) (by decide +kernel)
theorem t_611 : Cond.methodLink RX8 139 yX8_isFault ∈ TBg := tb_of (List.mem_of_getElem? (i := 611) (by decide +kernel)) (by decide +kernel)
theorem t_613 : Cond.instanceMethod yX8_isFault ∈ TBg := tb_of (List.mem_of_getElem? (i := 613) (by decide +kernel)) (by decide +kernel)
theorem t_614 : cw MX8_isFault ∈ TBg := tb_of (List.mem_of_getElem? (i := 614) (by decide +kernel)) (by decide +kernel)
theorem t_626 : Cond.methodLink RL 116 yX8_count ∈ TBg := tb_of (List.mem_of_getElem? (i := 626) (by decide +kernel)) (by decide +kernel)
theorem t_627 : Cond.instanceMethod yX8_count ∈ TBg := tb_of (List.mem_of_getElem? (i := 627) (by decide +kernel)) (by decide +kernel)
theorem t_628 : Cond.selects RX8 yX8_count yX8_count ∈ TBg := tb_of (List.mem_of_getElem? (i := 628) (by decide +kernel)) (by decide +kernel)
theorem t_629 : cw MX8_count ∈ TBg := tb_of (List.mem_of_getElem? (i := 629) (by decide +kernel)) (by decide +kernel)
theorem t_630 : Cond.methodLink RX8 181 yJ6_bitCount_0f7a4 ∈ TBg := tb_of (List.mem_of_getElem? (i := 630) (by decide +kernel)) (by decide +kernel)
theorem t_631 : Cond.static yJ6_bitCount_0f7a4 ∈ TBg := tb_of (List.mem_of_getElem? (i := 631) (by decide +kernel)) (by decide +kernel)
theorem t_632 : cw MJ6_bitCount_0f7a4 ∈ TBg := tb_of (List.mem_of_getElem? (i := 632) (by decide +kernel)) (by decide +kernel)
theorem t_633 : Cond.constant RJ6 265 (1431655765) ∈ TBg := tb_of (List.mem_of_getElem? (i := 633) (by decide +kernel)) (by decide +kernel)
theorem t_634 : Cond.constant RJ6 266 (858993459) ∈ TBg := tb_of (List.mem_of_getElem? (i := 634) (by decide +kernel)) (by decide +kernel)
theorem t_635 : Cond.constant RJ6 267 (252645135) ∈ TBg := tb_of (List.mem_of_getElem? (i := 635) (by decide +kernel)) (by decide +kernel)
theorem t_636 : Cond.methodLink RL 120 yX8_coins ∈ TBg := tb_of (List.mem_of_getElem? (i := 636) (by decide +kernel)) (by decide +kernel)
theorem t_637 : Cond.instanceMethod yX8_coins ∈ TBg := tb_of (List.mem_of_getElem? (i := 637) (by decide +kernel)) (by decide +kernel)
theorem t_638 : Cond.selects RX8 yX8_coins yX8_coins ∈ TBg := tb_of (List.mem_of_getElem? (i := 638) (by decide +kernel)) (by decide +kernel)
theorem t_639 : cw MX8_coins ∈ TBg := tb_of (List.mem_of_getElem? (i := 639) (by decide +kernel)) (by decide +kernel)
theorem t_640 : Cond.constant RX8 208 (-1000000) ∈ TBg := tb_of (List.mem_of_getElem? (i := 640) (by decide +kernel)) (by decide +kernel)
theorem t_641 : Cond.methodLink RL 41 yX8_look ∈ TBg := tb_of (List.mem_of_getElem? (i := 641) (by decide +kernel)) (by decide +kernel)
theorem t_642 : Cond.instanceMethod yX8_look ∈ TBg := tb_of (List.mem_of_getElem? (i := 642) (by decide +kernel)) (by decide +kernel)
theorem t_643 : Cond.selects RX8 yX8_look yX8_look ∈ TBg := tb_of (List.mem_of_getElem? (i := 643) (by decide +kernel)) (by decide +kernel)
theorem t_644 : cw MX8_look ∈ TBg := tb_of (List.mem_of_getElem? (i := 644) (by decide +kernel)) (by decide +kernel)
theorem t_658 : Cond.methodLink RL 45 yX8_fine ∈ TBg := tb_of (List.mem_of_getElem? (i := 658) (by decide +kernel)) (by decide +kernel)
theorem t_659 : Cond.instanceMethod yX8_fine ∈ TBg := tb_of (List.mem_of_getElem? (i := 659) (by decide +kernel)) (by decide +kernel)
theorem t_660 : Cond.selects RX8 yX8_fine yX8_fine ∈ TBg := tb_of (List.mem_of_getElem? (i := 660) (by decide +kernel)) (by decide +kernel)
theorem t_661 : cw MX8_fine ∈ TBg := tb_of (List.mem_of_getElem? (i := 661) (by decide +kernel)) (by decide +kernel)
theorem t_662 : Cond.methodLink RX8 213 yX8_hasWork ∈ TBg := tb_of (List.mem_of_getElem? (i := 662) (by decide +kernel)) (by decide +kernel)
theorem t_664 : Cond.instanceMethod yX8_hasWork ∈ TBg := tb_of (List.mem_of_getElem? (i := 664) (by decide +kernel)) (by decide +kernel)
theorem t_665 : cw MX8_hasWork ∈ TBg := tb_of (List.mem_of_getElem? (i := 665) (by decide +kernel)) (by decide +kernel)
theorem t_666 : Cond.methodLink RL 49 yX8_mend ∈ TBg := tb_of (List.mem_of_getElem? (i := 666) (by decide +kernel)) (by decide +kernel)
theorem t_667 : Cond.instanceMethod yX8_mend ∈ TBg := tb_of (List.mem_of_getElem? (i := 667) (by decide +kernel)) (by decide +kernel)
theorem t_668 : Cond.selects RX8 yX8_mend yX8_mend ∈ TBg := tb_of (List.mem_of_getElem? (i := 668) (by decide +kernel)) (by decide +kernel)
theorem t_669 : cw MX8_mend ∈ TBg := tb_of (List.mem_of_getElem? (i := 669) (by decide +kernel)) (by decide +kernel)
theorem t_671 : Cond.methodLink RL 53 yX8_dawn ∈ TBg := tb_of (List.mem_of_getElem? (i := 671) (by decide +kernel)) (by decide +kernel)
theorem t_672 : Cond.instanceMethod yX8_dawn ∈ TBg := tb_of (List.mem_of_getElem? (i := 672) (by decide +kernel)) (by decide +kernel)
theorem t_673 : Cond.selects RX8 yX8_dawn yX8_dawn ∈ TBg := tb_of (List.mem_of_getElem? (i := 673) (by decide +kernel)) (by decide +kernel)
theorem t_674 : cw MX8_dawn ∈ TBg := tb_of (List.mem_of_getElem? (i := 674) (by decide +kernel)) (by decide +kernel)
theorem t_685 : Cond.methodLink RL 107 yX8_seed ∈ TBg := tb_of (List.mem_of_getElem? (i := 685) (by decide +kernel)) (by decide +kernel)
theorem t_686 : Cond.instanceMethod yX8_seed ∈ TBg := tb_of (List.mem_of_getElem? (i := 686) (by decide +kernel)) (by decide +kernel)
theorem t_687 : Cond.selects RX8 yX8_seed yX8_seed ∈ TBg := tb_of (List.mem_of_getElem? (i := 687) (by decide +kernel)) (by decide +kernel)
theorem t_688 : cw MX8_seed ∈ TBg := tb_of (List.mem_of_getElem? (i := 688) (by decide +kernel)) (by decide +kernel)
theorem t_689 : Cond.methodLink RL 57 yX8_day ∈ TBg := tb_of (List.mem_of_getElem? (i := 689) (by decide +kernel)) (by decide +kernel)
theorem t_690 : Cond.instanceMethod yX8_day ∈ TBg := tb_of (List.mem_of_getElem? (i := 690) (by decide +kernel)) (by decide +kernel)
theorem t_691 : Cond.selects RX8 yX8_day yX8_day ∈ TBg := tb_of (List.mem_of_getElem? (i := 691) (by decide +kernel)) (by decide +kernel)
theorem t_692 : cw MX8_day ∈ TBg := tb_of (List.mem_of_getElem? (i := 692) (by decide +kernel)) (by decide +kernel)
theorem t_693 : Cond.methodLink RX8 228 yX8_ruleForWork ∈ TBg := tb_of (List.mem_of_getElem? (i := 693) (by decide +kernel)) (by decide +kernel)
theorem t_695 : Cond.instanceMethod yX8_ruleForWork ∈ TBg := tb_of (List.mem_of_getElem? (i := 695) (by decide +kernel)) (by decide +kernel)
theorem t_696 : cw MX8_ruleForWork ∈ TBg := tb_of (List.mem_of_getElem? (i := 696) (by decide +kernel)) (by decide +kernel)
theorem t_732 : Cond.methodLink RL 61 yX8_would ∈ TBg := tb_of (List.mem_of_getElem? (i := 732) (by decide +kernel)) (by decide +kernel)
theorem t_733 : Cond.instanceMethod yX8_would ∈ TBg := tb_of (List.mem_of_getElem? (i := 733) (by decide +kernel)) (by decide +kernel)
theorem t_734 : Cond.selects RX8 yX8_would yX8_would ∈ TBg := tb_of (List.mem_of_getElem? (i := 734) (by decide +kernel)) (by decide +kernel)
theorem t_735 : cw MX8_would ∈ TBg := tb_of (List.mem_of_getElem? (i := 735) (by decide +kernel)) (by decide +kernel)
theorem t_737 : Cond.instanceMethod yX0_copyFrom ∈ TBg := tb_of (List.mem_of_getElem? (i := 737) (by decide +kernel)) (by decide +kernel)
theorem t_738 : Cond.selects RX0 yX0_copyFrom yX0_copyFrom ∈ TBg := tb_of (List.mem_of_getElem? (i := 738) (by decide +kernel)) (by decide +kernel)
theorem t_739 : cw MX0_copyFrom ∈ TBg := tb_of (List.mem_of_getElem? (i := 739) (by decide +kernel)) (by decide +kernel)
theorem t_740 : Cond.methodLink RX0 31 ⟨"java/lang/System", "arraycopy", "(Ljava/lang/Object;ILjava/lang/Object;II)V"⟩ ∈ TBg := tb_of (List.mem_of_getElem? (i := 740) (by decide +kernel)) (by decide +kernel)
theorem t_741 : Cond.methodLink RL 111 yX8_weeks ∈ TBg := tb_of (List.mem_of_getElem? (i := 741) (by decide +kernel)) (by decide +kernel)
theorem t_742 : Cond.instanceMethod yX8_weeks ∈ TBg := tb_of (List.mem_of_getElem? (i := 742) (by decide +kernel)) (by decide +kernel)
theorem t_743 : Cond.selects RX8 yX8_weeks yX8_weeks ∈ TBg := tb_of (List.mem_of_getElem? (i := 743) (by decide +kernel)) (by decide +kernel)
theorem t_744 : cw MX8_weeks ∈ TBg := tb_of (List.mem_of_getElem? (i := 744) (by decide +kernel)) (by decide +kernel)
theorem t_745 : Cond.methodLink RL 65 yX8_row ∈ TBg := tb_of (List.mem_of_getElem? (i := 745) (by decide +kernel)) (by decide +kernel)
theorem t_746 : Cond.instanceMethod yX8_row ∈ TBg := tb_of (List.mem_of_getElem? (i := 746) (by decide +kernel)) (by decide +kernel)
theorem t_747 : Cond.selects RX8 yX8_row yX8_row ∈ TBg := tb_of (List.mem_of_getElem? (i := 747) (by decide +kernel)) (by decide +kernel)
theorem t_748 : cw MX8_row ∈ TBg := tb_of (List.mem_of_getElem? (i := 748) (by decide +kernel)) (by decide +kernel)
theorem t_749 : Cond.methodLink RL 69 yX8_worth ∈ TBg := tb_of (List.mem_of_getElem? (i := 749) (by decide +kernel)) (by decide +kernel)
theorem t_750 : Cond.instanceMethod yX8_worth ∈ TBg := tb_of (List.mem_of_getElem? (i := 750) (by decide +kernel)) (by decide +kernel)
theorem t_751 : Cond.selects RX8 yX8_worth yX8_worth ∈ TBg := tb_of (List.mem_of_getElem? (i := 751) (by decide +kernel)) (by decide +kernel)
theorem t_752 : cw MX8_worth ∈ TBg := tb_of (List.mem_of_getElem? (i := 752) (by decide +kernel)) (by decide +kernel)
theorem t_753 : Cond.constantLong RX8 243 (-1) ∈ TBg := tb_of (List.mem_of_getElem? (i := 753) (by decide +kernel)) (by decide +kernel)
theorem t_768 : Cond.methodLink RL 74 yX8_seen ∈ TBg := tb_of (List.mem_of_getElem? (i := 768) (by decide +kernel)) (by decide +kernel)
theorem t_769 : Cond.instanceMethod yX8_seen ∈ TBg := tb_of (List.mem_of_getElem? (i := 769) (by decide +kernel)) (by decide +kernel)
theorem t_770 : Cond.selects RX8 yX8_seen yX8_seen ∈ TBg := tb_of (List.mem_of_getElem? (i := 770) (by decide +kernel)) (by decide +kernel)
theorem t_771 : cw MX8_seen ∈ TBg := tb_of (List.mem_of_getElem? (i := 771) (by decide +kernel)) (by decide +kernel)
theorem t_772 : Cond.methodLink RL 79 yX8_best ∈ TBg := tb_of (List.mem_of_getElem? (i := 772) (by decide +kernel)) (by decide +kernel)
theorem t_773 : Cond.instanceMethod yX8_best ∈ TBg := tb_of (List.mem_of_getElem? (i := 773) (by decide +kernel)) (by decide +kernel)
theorem t_774 : Cond.selects RX8 yX8_best yX8_best ∈ TBg := tb_of (List.mem_of_getElem? (i := 774) (by decide +kernel)) (by decide +kernel)
theorem t_775 : cw MX8_best ∈ TBg := tb_of (List.mem_of_getElem? (i := 775) (by decide +kernel)) (by decide +kernel)
theorem t_805 : Cond.methodLink RL 83 yX8_master ∈ TBg := tb_of (List.mem_of_getElem? (i := 805) (by decide +kernel)) (by decide +kernel)
theorem t_806 : Cond.instanceMethod yX8_master ∈ TBg := tb_of (List.mem_of_getElem? (i := 806) (by decide +kernel)) (by decide +kernel)
theorem t_807 : Cond.selects RX8 yX8_master yX8_master ∈ TBg := tb_of (List.mem_of_getElem? (i := 807) (by decide +kernel)) (by decide +kernel)
theorem t_808 : cw MX8_master ∈ TBg := tb_of (List.mem_of_getElem? (i := 808) (by decide +kernel)) (by decide +kernel)
theorem t_809 : Cond.constantLong RX8 270 (-1000000000000) ∈ TBg := tb_of (List.mem_of_getElem? (i := 809) (by decide +kernel)) (by decide +kernel)
theorem t_830 : Cond.methodLink RL 87 yX8_game ∈ TBg := tb_of (List.mem_of_getElem? (i := 830) (by decide +kernel)) (by decide +kernel)
theorem t_831 : Cond.instanceMethod yX8_game ∈ TBg := tb_of (List.mem_of_getElem? (i := 831) (by decide +kernel)) (by decide +kernel)
theorem t_832 : Cond.selects RX8 yX8_game yX8_game ∈ TBg := tb_of (List.mem_of_getElem? (i := 832) (by decide +kernel)) (by decide +kernel)
theorem t_833 : cw MX8_game ∈ TBg := tb_of (List.mem_of_getElem? (i := 833) (by decide +kernel)) (by decide +kernel)
theorem t_834 : Cond.methodLink RL 91 yX8_rests ∈ TBg := tb_of (List.mem_of_getElem? (i := 834) (by decide +kernel)) (by decide +kernel)
theorem t_835 : Cond.instanceMethod yX8_rests ∈ TBg := tb_of (List.mem_of_getElem? (i := 835) (by decide +kernel)) (by decide +kernel)
theorem t_836 : Cond.selects RX8 yX8_rests yX8_rests ∈ TBg := tb_of (List.mem_of_getElem? (i := 836) (by decide +kernel)) (by decide +kernel)
theorem t_837 : cw MX8_rests ∈ TBg := tb_of (List.mem_of_getElem? (i := 837) (by decide +kernel)) (by decide +kernel)
theorem t_838 : Cond.methodLink RL 95 yX8_mixed ∈ TBg := tb_of (List.mem_of_getElem? (i := 838) (by decide +kernel)) (by decide +kernel)
theorem t_839 : Cond.instanceMethod yX8_mixed ∈ TBg := tb_of (List.mem_of_getElem? (i := 839) (by decide +kernel)) (by decide +kernel)
theorem t_840 : Cond.selects RX8 yX8_mixed yX8_mixed ∈ TBg := tb_of (List.mem_of_getElem? (i := 840) (by decide +kernel)) (by decide +kernel)
theorem t_841 : cw MX8_mixed ∈ TBg := tb_of (List.mem_of_getElem? (i := 841) (by decide +kernel)) (by decide +kernel)
theorem t_842 : Cond.methodLink RX8 286 yX8_rests ∈ TBg := tb_of (List.mem_of_getElem? (i := 842) (by decide +kernel)) (by decide +kernel)
theorem t_846 : Cond.methodLink RL 99 yX8_checks ∈ TBg := tb_of (List.mem_of_getElem? (i := 846) (by decide +kernel)) (by decide +kernel)
theorem t_847 : Cond.instanceMethod yX8_checks ∈ TBg := tb_of (List.mem_of_getElem? (i := 847) (by decide +kernel)) (by decide +kernel)
theorem t_848 : Cond.selects RX8 yX8_checks yX8_checks ∈ TBg := tb_of (List.mem_of_getElem? (i := 848) (by decide +kernel)) (by decide +kernel)
theorem t_849 : cw MX8_checks ∈ TBg := tb_of (List.mem_of_getElem? (i := 849) (by decide +kernel)) (by decide +kernel)
theorem t_850 : Cond.methodLink RL 103 yX8_fits ∈ TBg := tb_of (List.mem_of_getElem? (i := 850) (by decide +kernel)) (by decide +kernel)
theorem t_851 : Cond.instanceMethod yX8_fits ∈ TBg := tb_of (List.mem_of_getElem? (i := 851) (by decide +kernel)) (by decide +kernel)
theorem t_852 : Cond.selects RX8 yX8_fits yX8_fits ∈ TBg := tb_of (List.mem_of_getElem? (i := 852) (by decide +kernel)) (by decide +kernel)
theorem t_853 : cw MX8_fits ∈ TBg := tb_of (List.mem_of_getElem? (i := 853) (by decide +kernel)) (by decide +kernel)
theorem t_862 : Cond.methodLink RL 124 yX8_image ∈ TBg := tb_of (List.mem_of_getElem? (i := 862) (by decide +kernel)) (by decide +kernel)
theorem t_863 : Cond.instanceMethod yX8_image ∈ TBg := tb_of (List.mem_of_getElem? (i := 863) (by decide +kernel)) (by decide +kernel)
theorem t_864 : Cond.selects RX8 yX8_image yX8_image ∈ TBg := tb_of (List.mem_of_getElem? (i := 864) (by decide +kernel)) (by decide +kernel)
theorem t_865 : cw MX8_image ∈ TBg := tb_of (List.mem_of_getElem? (i := 865) (by decide +kernel)) (by decide +kernel)
theorem t_866 : Cond.methodLink RX8 300 yX5_copyFrom ∈ TBg := tb_of (List.mem_of_getElem? (i := 866) (by decide +kernel)) (by decide +kernel)
theorem t_867 : Cond.instanceMethod yX5_copyFrom ∈ TBg := tb_of (List.mem_of_getElem? (i := 867) (by decide +kernel)) (by decide +kernel)
theorem t_868 : Cond.selects RX5 yX5_copyFrom yX5_copyFrom ∈ TBg := tb_of (List.mem_of_getElem? (i := 868) (by decide +kernel)) (by decide +kernel)
theorem t_869 : cw MX5_copyFrom ∈ TBg := tb_of (List.mem_of_getElem? (i := 869) (by decide +kernel)) (by decide +kernel)
theorem t_870 : Cond.methodLink RX5 29 yX0_copyFrom ∈ TBg := tb_of (List.mem_of_getElem? (i := 870) (by decide +kernel)) (by decide +kernel)
theorem t_871 : Cond.methodLink RX5 43 ⟨"java/lang/System", "arraycopy", "(Ljava/lang/Object;ILjava/lang/Object;II)V"⟩ ∈ TBg := tb_of (List.mem_of_getElem? (i := 871) (by decide +kernel)) (by decide +kernel)
theorem t_872 : Cond.methodLink RL 128 yX8_back ∈ TBg := tb_of (List.mem_of_getElem? (i := 872) (by decide +kernel)) (by decide +kernel)
theorem t_873 : Cond.instanceMethod yX8_back ∈ TBg := tb_of (List.mem_of_getElem? (i := 873) (by decide +kernel)) (by decide +kernel)
theorem t_874 : Cond.selects RX8 yX8_back yX8_back ∈ TBg := tb_of (List.mem_of_getElem? (i := 874) (by decide +kernel)) (by decide +kernel)
theorem t_875 : cw MX8_back ∈ TBg := tb_of (List.mem_of_getElem? (i := 875) (by decide +kernel)) (by decide +kernel)
theorem t_876 : Cond.classLink RL 10 RX9 ∈ TBg := tb_of (List.mem_of_getElem? (i := 876) (by decide +kernel)) (by decide +kernel)
theorem t_877 : Cond.instantiable RX9 36 ∈ TBg := tb_of (List.mem_of_getElem? (i := 877) (by decide +kernel)) (by decide +kernel)
theorem t_878 : Cond.methodLink RL 12 yX9_init ∈ TBg := tb_of (List.mem_of_getElem? (i := 878) (by decide +kernel)) (by decide +kernel)
theorem t_879 : Cond.instanceMethod yX9_init ∈ TBg := tb_of (List.mem_of_getElem? (i := 879) (by decide +kernel)) (by decide +kernel)
theorem t_880 : cw MX9_init ∈ TBg := tb_of (List.mem_of_getElem? (i := 880) (by decide +kernel)) (by decide +kernel)
theorem t_881 : Cond.methodLink RX9 1 objectInit ∈ TBg := tb_of (List.mem_of_getElem? (i := 881) (by decide +kernel)) (by decide +kernel)
theorem t_882 : Cond.fieldLink RX9 7 "PaidMistakesModel" "tape" "[B" ∈ TBg := tb_of (List.mem_of_getElem? (i := 882) (by decide +kernel)) (by decide +kernel)
theorem t_883 : Cond.fieldLink RX9 79 "PaidMistakesModel" "taped" "I" ∈ TBg := tb_of (List.mem_of_getElem? (i := 883) (by decide +kernel)) (by decide +kernel)
theorem t_884 : Cond.fieldLink RX9 247 "PaidMistakesModel" "rules" "I" ∈ TBg := tb_of (List.mem_of_getElem? (i := 884) (by decide +kernel)) (by decide +kernel)
theorem t_885 : Cond.fieldLink RX9 13 "PaidMistakesModel" "sign" "[I" ∈ TBg := tb_of (List.mem_of_getElem? (i := 885) (by decide +kernel)) (by decide +kernel)
theorem t_886 : Cond.fieldLink RX9 17 "PaidMistakesModel" "length" "[I" ∈ TBg := tb_of (List.mem_of_getElem? (i := 886) (by decide +kernel)) (by decide +kernel)
theorem t_887 : Cond.fieldLink RX9 20 "PaidMistakesModel" "clause" "[I" ∈ TBg := tb_of (List.mem_of_getElem? (i := 887) (by decide +kernel)) (by decide +kernel)
theorem t_888 : Cond.fieldLink RX9 23 "PaidMistakesModel" "clauses" "[I" ∈ TBg := tb_of (List.mem_of_getElem? (i := 888) (by decide +kernel)) (by decide +kernel)
theorem t_889 : Cond.fieldLink RX9 212 "PaidMistakesModel" "timeRead" "I" ∈ TBg := tb_of (List.mem_of_getElem? (i := 889) (by decide +kernel)) (by decide +kernel)
theorem t_890 : Cond.fieldLink RX9 215 "PaidMistakesModel" "kindsRead" "I" ∈ TBg := tb_of (List.mem_of_getElem? (i := 890) (by decide +kernel)) (by decide +kernel)
theorem t_891 : Cond.fieldLink RX9 218 "PaidMistakesModel" "faultsRead" "I" ∈ TBg := tb_of (List.mem_of_getElem? (i := 891) (by decide +kernel)) (by decide +kernel)
theorem t_892 : Cond.fieldLink RX9 26 "PaidMistakesModel" "kindRead" "[I" ∈ TBg := tb_of (List.mem_of_getElem? (i := 892) (by decide +kernel)) (by decide +kernel)
theorem t_893 : Cond.fieldLink RX9 29 "PaidMistakesModel" "faultRead" "[I" ∈ TBg := tb_of (List.mem_of_getElem? (i := 893) (by decide +kernel)) (by decide +kernel)
theorem t_894 : Cond.fieldLink RX9 90 "PaidMistakesModel" "next" "I" ∈ TBg := tb_of (List.mem_of_getElem? (i := 894) (by decide +kernel)) (by decide +kernel)
theorem t_895 : Cond.fieldLink RX9 87 "PaidMistakesModel" "wrong" "I" ∈ TBg := tb_of (List.mem_of_getElem? (i := 895) (by decide +kernel)) (by decide +kernel)
theorem t_897 : Cond.fieldLink RX9 140 "PaidMistakesModel" "text" "I" ∈ TBg := tb_of (List.mem_of_getElem? (i := 897) (by decide +kernel)) (by decide +kernel)
theorem t_898 : Cond.fieldLink RX9 143 "PaidMistakesModel" "made" "I" ∈ TBg := tb_of (List.mem_of_getElem? (i := 898) (by decide +kernel)) (by decide +kernel)
theorem t_900 : Cond.fieldLink RX9 229 "PaidMistakesModel" "lines" "I" ∈ TBg := tb_of (List.mem_of_getElem? (i := 900) (by decide +kernel)) (by decide +kernel)
theorem t_901 : Cond.fieldLink RX9 32 "PaidMistakesModel" "open" "[I" ∈ TBg := tb_of (List.mem_of_getElem? (i := 901) (by decide +kernel)) (by decide +kernel)
theorem t_903 : Cond.fieldLink RX9 35 "PaidMistakesModel" "stack" "[J" ∈ TBg := tb_of (List.mem_of_getElem? (i := 903) (by decide +kernel)) (by decide +kernel)
theorem t_905 : Cond.fieldLink RX9 39 "PaidMistakesModel" "word" "[J" ∈ TBg := tb_of (List.mem_of_getElem? (i := 905) (by decide +kernel)) (by decide +kernel)
theorem t_906 : Cond.fieldLink RX9 42 "PaidMistakesModel" "said" "[I" ∈ TBg := tb_of (List.mem_of_getElem? (i := 906) (by decide +kernel)) (by decide +kernel)
theorem t_907 : Cond.fieldLink RX9 45 "PaidMistakesModel" "kept" "[I" ∈ TBg := tb_of (List.mem_of_getElem? (i := 907) (by decide +kernel)) (by decide +kernel)
theorem t_908 : Cond.fieldLink RX9 48 "PaidMistakesModel" "triedAt" "[I" ∈ TBg := tb_of (List.mem_of_getElem? (i := 908) (by decide +kernel)) (by decide +kernel)
theorem t_909 : Cond.fieldLink RX9 51 "PaidMistakesModel" "isFoundAt" "[Z" ∈ TBg := tb_of (List.mem_of_getElem? (i := 909) (by decide +kernel)) (by decide +kernel)
theorem t_910 : Cond.fieldLink RX9 55 "PaidMistakesModel" "foundBrings" "[J" ∈ TBg := tb_of (List.mem_of_getElem? (i := 910) (by decide +kernel)) (by decide +kernel)
theorem t_911 : Cond.fieldLink RX9 58 "PaidMistakesModel" "foundHides" "[J" ∈ TBg := tb_of (List.mem_of_getElem? (i := 911) (by decide +kernel)) (by decide +kernel)
theorem t_912 : Cond.fieldLink RX9 61 "PaidMistakesModel" "bestBrings" "[J" ∈ TBg := tb_of (List.mem_of_getElem? (i := 912) (by decide +kernel)) (by decide +kernel)
theorem t_913 : Cond.fieldLink RX9 64 "PaidMistakesModel" "bestHides" "[J" ∈ TBg := tb_of (List.mem_of_getElem? (i := 913) (by decide +kernel)) (by decide +kernel)
theorem t_914 : Cond.fieldLink RX9 67 "PaidMistakesModel" "bestLook" "[I" ∈ TBg := tb_of (List.mem_of_getElem? (i := 914) (by decide +kernel)) (by decide +kernel)
theorem t_915 : Cond.fieldLink RX9 70 "PaidMistakesModel" "leftAt" "[I" ∈ TBg := tb_of (List.mem_of_getElem? (i := 915) (by decide +kernel)) (by decide +kernel)
theorem t_916 : Cond.fieldLink RX9 73 "PaidMistakesModel" "images" "[I" ∈ TBg := tb_of (List.mem_of_getElem? (i := 916) (by decide +kernel)) (by decide +kernel)
theorem t_917 : Cond.fieldLink RX9 76 "PaidMistakesModel" "isMade" "[Z" ∈ TBg := tb_of (List.mem_of_getElem? (i := 917) (by decide +kernel)) (by decide +kernel)
theorem t_918 : Cond.laysFinal RX9 "PaidMistakesModel" "tape" "[B" ∈ TBg := tb_of (List.mem_of_getElem? (i := 918) (by decide +kernel)) (by decide +kernel)
theorem t_920 : Cond.lays RX9 "PaidMistakesModel" "taped" "I" ∈ TBg := tb_of (List.mem_of_getElem? (i := 920) (by decide +kernel)) (by decide +kernel)
theorem t_922 : Cond.lays RX9 "PaidMistakesModel" "rules" "I" ∈ TBg := tb_of (List.mem_of_getElem? (i := 922) (by decide +kernel)) (by decide +kernel)
theorem t_924 : Cond.laysFinal RX9 "PaidMistakesModel" "sign" "[I" ∈ TBg := tb_of (List.mem_of_getElem? (i := 924) (by decide +kernel)) (by decide +kernel)
theorem t_926 : Cond.laysFinal RX9 "PaidMistakesModel" "length" "[I" ∈ TBg := tb_of (List.mem_of_getElem? (i := 926) (by decide +kernel)) (by decide +kernel)
theorem t_928 : Cond.laysFinal RX9 "PaidMistakesModel" "clause" "[I" ∈ TBg := tb_of (List.mem_of_getElem? (i := 928) (by decide +kernel)) (by decide +kernel)
theorem t_930 : Cond.laysFinal RX9 "PaidMistakesModel" "clauses" "[I" ∈ TBg := tb_of (List.mem_of_getElem? (i := 930) (by decide +kernel)) (by decide +kernel)
theorem t_932 : Cond.lays RX9 "PaidMistakesModel" "timeRead" "I" ∈ TBg := tb_of (List.mem_of_getElem? (i := 932) (by decide +kernel)) (by decide +kernel)
theorem t_934 : Cond.lays RX9 "PaidMistakesModel" "kindsRead" "I" ∈ TBg := tb_of (List.mem_of_getElem? (i := 934) (by decide +kernel)) (by decide +kernel)
theorem t_936 : Cond.lays RX9 "PaidMistakesModel" "faultsRead" "I" ∈ TBg := tb_of (List.mem_of_getElem? (i := 936) (by decide +kernel)) (by decide +kernel)
theorem t_938 : Cond.laysFinal RX9 "PaidMistakesModel" "kindRead" "[I" ∈ TBg := tb_of (List.mem_of_getElem? (i := 938) (by decide +kernel)) (by decide +kernel)
theorem t_940 : Cond.laysFinal RX9 "PaidMistakesModel" "faultRead" "[I" ∈ TBg := tb_of (List.mem_of_getElem? (i := 940) (by decide +kernel)) (by decide +kernel)
theorem t_942 : Cond.lays RX9 "PaidMistakesModel" "next" "I" ∈ TBg := tb_of (List.mem_of_getElem? (i := 942) (by decide +kernel)) (by decide +kernel)
theorem t_944 : Cond.lays RX9 "PaidMistakesModel" "wrong" "I" ∈ TBg := tb_of (List.mem_of_getElem? (i := 944) (by decide +kernel)) (by decide +kernel)
theorem t_946 : Cond.lays RX9 "PaidMistakesModel" "number" "I" ∈ TBg := tb_of (List.mem_of_getElem? (i := 946) (by decide +kernel)) (by decide +kernel)
theorem t_948 : Cond.lays RX9 "PaidMistakesModel" "text" "I" ∈ TBg := tb_of (List.mem_of_getElem? (i := 948) (by decide +kernel)) (by decide +kernel)
theorem t_950 : Cond.lays RX9 "PaidMistakesModel" "made" "I" ∈ TBg := tb_of (List.mem_of_getElem? (i := 950) (by decide +kernel)) (by decide +kernel)
theorem t_952 : Cond.lays RX9 "PaidMistakesModel" "deep" "I" ∈ TBg := tb_of (List.mem_of_getElem? (i := 952) (by decide +kernel)) (by decide +kernel)
theorem t_954 : Cond.lays RX9 "PaidMistakesModel" "lines" "I" ∈ TBg := tb_of (List.mem_of_getElem? (i := 954) (by decide +kernel)) (by decide +kernel)
theorem t_956 : Cond.laysFinal RX9 "PaidMistakesModel" "open" "[I" ∈ TBg := tb_of (List.mem_of_getElem? (i := 956) (by decide +kernel)) (by decide +kernel)
theorem t_958 : Cond.lays RX9 "PaidMistakesModel" "opened" "I" ∈ TBg := tb_of (List.mem_of_getElem? (i := 958) (by decide +kernel)) (by decide +kernel)
theorem t_960 : Cond.laysFinal RX9 "PaidMistakesModel" "stack" "[J" ∈ TBg := tb_of (List.mem_of_getElem? (i := 960) (by decide +kernel)) (by decide +kernel)
theorem t_962 : Cond.lays RX9 "PaidMistakesModel" "top" "I" ∈ TBg := tb_of (List.mem_of_getElem? (i := 962) (by decide +kernel)) (by decide +kernel)
theorem t_964 : Cond.laysFinal RX9 "PaidMistakesModel" "word" "[J" ∈ TBg := tb_of (List.mem_of_getElem? (i := 964) (by decide +kernel)) (by decide +kernel)
theorem t_966 : Cond.laysFinal RX9 "PaidMistakesModel" "said" "[I" ∈ TBg := tb_of (List.mem_of_getElem? (i := 966) (by decide +kernel)) (by decide +kernel)
theorem t_968 : Cond.laysFinal RX9 "PaidMistakesModel" "kept" "[I" ∈ TBg := tb_of (List.mem_of_getElem? (i := 968) (by decide +kernel)) (by decide +kernel)
theorem t_970 : Cond.laysFinal RX9 "PaidMistakesModel" "triedAt" "[I" ∈ TBg := tb_of (List.mem_of_getElem? (i := 970) (by decide +kernel)) (by decide +kernel)
theorem t_972 : Cond.laysFinal RX9 "PaidMistakesModel" "isFoundAt" "[Z" ∈ TBg := tb_of (List.mem_of_getElem? (i := 972) (by decide +kernel)) (by decide +kernel)
theorem t_974 : Cond.laysFinal RX9 "PaidMistakesModel" "foundBrings" "[J" ∈ TBg := tb_of (List.mem_of_getElem? (i := 974) (by decide +kernel)) (by decide +kernel)
theorem t_976 : Cond.laysFinal RX9 "PaidMistakesModel" "foundHides" "[J" ∈ TBg := tb_of (List.mem_of_getElem? (i := 976) (by decide +kernel)) (by decide +kernel)
theorem t_978 : Cond.laysFinal RX9 "PaidMistakesModel" "bestBrings" "[J" ∈ TBg := tb_of (List.mem_of_getElem? (i := 978) (by decide +kernel)) (by decide +kernel)
theorem t_980 : Cond.laysFinal RX9 "PaidMistakesModel" "bestHides" "[J" ∈ TBg := tb_of (List.mem_of_getElem? (i := 980) (by decide +kernel)) (by decide +kernel)
theorem t_982 : Cond.laysFinal RX9 "PaidMistakesModel" "bestLook" "[I" ∈ TBg := tb_of (List.mem_of_getElem? (i := 982) (by decide +kernel)) (by decide +kernel)
theorem t_984 : Cond.laysFinal RX9 "PaidMistakesModel" "leftAt" "[I" ∈ TBg := tb_of (List.mem_of_getElem? (i := 984) (by decide +kernel)) (by decide +kernel)
theorem t_986 : Cond.laysFinal RX9 "PaidMistakesModel" "images" "[I" ∈ TBg := tb_of (List.mem_of_getElem? (i := 986) (by decide +kernel)) (by decide +kernel)
theorem t_988 : Cond.laysFinal RX9 "PaidMistakesModel" "isMade" "[Z" ∈ TBg := tb_of (List.mem_of_getElem? (i := 988) (by decide +kernel)) (by decide +kernel)
theorem t_991 : Cond.arrayClass .boolean ∈ TBg := tb_of (List.mem_of_getElem? (i := 991) (by decide +kernel)) (by decide +kernel)
theorem t_992 : Cond.methodLink RL 17 yX9_feed ∈ TBg := tb_of (List.mem_of_getElem? (i := 992) (by decide +kernel)) (by decide +kernel)
theorem t_993 : Cond.instanceMethod yX9_feed ∈ TBg := tb_of (List.mem_of_getElem? (i := 993) (by decide +kernel)) (by decide +kernel)
theorem t_994 : Cond.selects RX9 yX9_feed yX9_feed ∈ TBg := tb_of (List.mem_of_getElem? (i := 994) (by decide +kernel)) (by decide +kernel)
theorem t_995 : cw MX9_feed ∈ TBg := tb_of (List.mem_of_getElem? (i := 995) (by decide +kernel)) (by decide +kernel)
theorem t_996 : Cond.methodLink RX9 83 yX9_four ∈ TBg := tb_of (List.mem_of_getElem? (i := 996) (by decide +kernel)) (by decide +kernel)
theorem t_998 : Cond.instanceMethod yX9_four ∈ TBg := tb_of (List.mem_of_getElem? (i := 998) (by decide +kernel)) (by decide +kernel)
theorem t_999 : cw MX9_four ∈ TBg := tb_of (List.mem_of_getElem? (i := 999) (by decide +kernel)) (by decide +kernel)
theorem t_1000 : Cond.methodLink RL 22 yX9_end ∈ TBg := tb_of (List.mem_of_getElem? (i := 1000) (by decide +kernel)) (by decide +kernel)
theorem t_1001 : Cond.instanceMethod yX9_end ∈ TBg := tb_of (List.mem_of_getElem? (i := 1001) (by decide +kernel)) (by decide +kernel)
theorem t_1002 : Cond.selects RX9 yX9_end yX9_end ∈ TBg := tb_of (List.mem_of_getElem? (i := 1002) (by decide +kernel)) (by decide +kernel)
theorem t_1003 : cw MX9_end ∈ TBg := tb_of (List.mem_of_getElem? (i := 1003) (by decide +kernel)) (by decide +kernel)
theorem t_1004 : Cond.methodLink RL 31 yX9_rule ∈ TBg := tb_of (List.mem_of_getElem? (i := 1004) (by decide +kernel)) (by decide +kernel)
theorem t_1005 : Cond.instanceMethod yX9_rule ∈ TBg := tb_of (List.mem_of_getElem? (i := 1005) (by decide +kernel)) (by decide +kernel)
theorem t_1006 : Cond.selects RX9 yX9_rule yX9_rule ∈ TBg := tb_of (List.mem_of_getElem? (i := 1006) (by decide +kernel)) (by decide +kernel)
theorem t_1007 : cw MX9_rule ∈ TBg := tb_of (List.mem_of_getElem? (i := 1007) (by decide +kernel)) (by decide +kernel)
theorem t_1008 : Cond.methodLink RX9 250 yX9_readsAll ∈ TBg := tb_of (List.mem_of_getElem? (i := 1008) (by decide +kernel)) (by decide +kernel)
theorem t_1010 : Cond.instanceMethod yX9_readsAll ∈ TBg := tb_of (List.mem_of_getElem? (i := 1010) (by decide +kernel)) (by decide +kernel)
theorem t_1011 : cw MX9_readsAll ∈ TBg := tb_of (List.mem_of_getElem? (i := 1011) (by decide +kernel)) (by decide +kernel)
theorem t_1012 : Cond.methodLink RX9 244 yX9_clauseHere ∈ TBg := tb_of (List.mem_of_getElem? (i := 1012) (by decide +kernel)) (by decide +kernel)
theorem t_1014 : Cond.instanceMethod yX9_clauseHere ∈ TBg := tb_of (List.mem_of_getElem? (i := 1014) (by decide +kernel)) (by decide +kernel)
theorem t_1015 : cw MX9_clauseHere ∈ TBg := tb_of (List.mem_of_getElem? (i := 1015) (by decide +kernel)) (by decide +kernel)
theorem t_1016 : Cond.methodLink RX9 93 yX9_see ∈ TBg := tb_of (List.mem_of_getElem? (i := 1016) (by decide +kernel)) (by decide +kernel)
theorem t_1018 : Cond.instanceMethod yX9_see ∈ TBg := tb_of (List.mem_of_getElem? (i := 1018) (by decide +kernel)) (by decide +kernel)
theorem t_1019 : cw MX9_see ∈ TBg := tb_of (List.mem_of_getElem? (i := 1019) (by decide +kernel)) (by decide +kernel)
theorem t_1020 : Cond.constantLong RX9 223 (1953066341) ∈ TBg := tb_of (List.mem_of_getElem? (i := 1020) (by decide +kernel)) (by decide +kernel)
theorem t_1021 : Cond.methodLink RX9 101 yX9_isWord ∈ TBg := tb_of (List.mem_of_getElem? (i := 1021) (by decide +kernel)) (by decide +kernel)
theorem t_1023 : Cond.instanceMethod yX9_isWord ∈ TBg := tb_of (List.mem_of_getElem? (i := 1023) (by decide +kernel)) (by decide +kernel)
theorem t_1024 : cw MX9_isWord ∈ TBg := tb_of (List.mem_of_getElem? (i := 1024) (by decide +kernel)) (by decide +kernel)
theorem t_1025 : Cond.methodLink RX9 97 yX9_isLetter ∈ TBg := tb_of (List.mem_of_getElem? (i := 1025) (by decide +kernel)) (by decide +kernel)
theorem t_1027 : Cond.instanceMethod yX9_isLetter ∈ TBg := tb_of (List.mem_of_getElem? (i := 1027) (by decide +kernel)) (by decide +kernel)
theorem t_1028 : cw MX9_isLetter ∈ TBg := tb_of (List.mem_of_getElem? (i := 1028) (by decide +kernel)) (by decide +kernel)
theorem t_1029 : Cond.constantLong RX9 124 (1802071652) ∈ TBg := tb_of (List.mem_of_getElem? (i := 1029) (by decide +kernel)) (by decide +kernel)
theorem t_1030 : Cond.constantLong RX9 122 (439721749620) ∈ TBg := tb_of (List.mem_of_getElem? (i := 1030) (by decide +kernel)) (by decide +kernel)
theorem t_1031 : Cond.constantLong RX9 225 (1819242347) ∈ TBg := tb_of (List.mem_of_getElem? (i := 1031) (by decide +kernel)) (by decide +kernel)
theorem t_1032 : Cond.constantLong RX9 227 (1937010544) ∈ TBg := tb_of (List.mem_of_getElem? (i := 1032) (by decide +kernel)) (by decide +kernel)
theorem t_1033 : Cond.methodLink RX9 111 yX9_fails ∈ TBg := tb_of (List.mem_of_getElem? (i := 1033) (by decide +kernel)) (by decide +kernel)
theorem t_1035 : Cond.instanceMethod yX9_fails ∈ TBg := tb_of (List.mem_of_getElem? (i := 1035) (by decide +kernel)) (by decide +kernel)
theorem t_1036 : cw MX9_fails ∈ TBg := tb_of (List.mem_of_getElem? (i := 1036) (by decide +kernel)) (by decide +kernel)
theorem t_1066 : Cond.methodLink RX9 118 yX9_in ∈ TBg := tb_of (List.mem_of_getElem? (i := 1066) (by decide +kernel)) (by decide +kernel)
theorem t_1067 : Cond.static yX9_in ∈ TBg := tb_of (List.mem_of_getElem? (i := 1067) (by decide +kernel)) (by decide +kernel)
theorem t_1068 : cw MX9_in ∈ TBg := tb_of (List.mem_of_getElem? (i := 1068) (by decide +kernel)) (by decide +kernel)
theorem t_1140 : Cond.methodLink RL 27 yX9_work ∈ TBg := tb_of (List.mem_of_getElem? (i := 1140) (by decide +kernel)) (by decide +kernel)
theorem t_1141 : Cond.instanceMethod yX9_work ∈ TBg := tb_of (List.mem_of_getElem? (i := 1141) (by decide +kernel)) (by decide +kernel)
theorem t_1142 : Cond.selects RX9 yX9_work yX9_work ∈ TBg := tb_of (List.mem_of_getElem? (i := 1142) (by decide +kernel)) (by decide +kernel)
theorem t_1143 : cw MX9_work ∈ TBg := tb_of (List.mem_of_getElem? (i := 1143) (by decide +kernel)) (by decide +kernel)
theorem t_1144 : Cond.methodLink RL 36 yX9_kind ∈ TBg := tb_of (List.mem_of_getElem? (i := 1144) (by decide +kernel)) (by decide +kernel)
theorem t_1145 : Cond.instanceMethod yX9_kind ∈ TBg := tb_of (List.mem_of_getElem? (i := 1145) (by decide +kernel)) (by decide +kernel)
theorem t_1146 : Cond.selects RX9 yX9_kind yX9_kind ∈ TBg := tb_of (List.mem_of_getElem? (i := 1146) (by decide +kernel)) (by decide +kernel)
theorem t_1147 : cw MX9_kind ∈ TBg := tb_of (List.mem_of_getElem? (i := 1147) (by decide +kernel)) (by decide +kernel)
theorem t_1148 : Cond.constantLong RX9 278 (2) ∈ TBg := tb_of (List.mem_of_getElem? (i := 1148) (by decide +kernel)) (by decide +kernel)
theorem t_1149 : Cond.methodLink RL 40 yX9_fault ∈ TBg := tb_of (List.mem_of_getElem? (i := 1149) (by decide +kernel)) (by decide +kernel)
theorem t_1150 : Cond.instanceMethod yX9_fault ∈ TBg := tb_of (List.mem_of_getElem? (i := 1150) (by decide +kernel)) (by decide +kernel)
theorem t_1151 : Cond.selects RX9 yX9_fault yX9_fault ∈ TBg := tb_of (List.mem_of_getElem? (i := 1151) (by decide +kernel)) (by decide +kernel)
theorem t_1152 : cw MX9_fault ∈ TBg := tb_of (List.mem_of_getElem? (i := 1152) (by decide +kernel)) (by decide +kernel)
theorem t_1153 : Cond.methodLink RX9 280 yX9_isFault ∈ TBg := tb_of (List.mem_of_getElem? (i := 1153) (by decide +kernel)) (by decide +kernel)
theorem t_1155 : Cond.instanceMethod yX9_isFault ∈ TBg := tb_of (List.mem_of_getElem? (i := 1155) (by decide +kernel)) (by decide +kernel)
theorem t_1156 : cw MX9_isFault ∈ TBg := tb_of (List.mem_of_getElem? (i := 1156) (by decide +kernel)) (by decide +kernel)
theorem t_1166 : Cond.methodLink RL 44 yX9_look ∈ TBg := tb_of (List.mem_of_getElem? (i := 1166) (by decide +kernel)) (by decide +kernel)
theorem t_1167 : Cond.instanceMethod yX9_look ∈ TBg := tb_of (List.mem_of_getElem? (i := 1167) (by decide +kernel)) (by decide +kernel)
theorem t_1168 : Cond.selects RX9 yX9_look yX9_look ∈ TBg := tb_of (List.mem_of_getElem? (i := 1168) (by decide +kernel)) (by decide +kernel)
theorem t_1169 : cw MX9_look ∈ TBg := tb_of (List.mem_of_getElem? (i := 1169) (by decide +kernel)) (by decide +kernel)
theorem t_1190 : Cond.methodLink RL 48 yX9_fine ∈ TBg := tb_of (List.mem_of_getElem? (i := 1190) (by decide +kernel)) (by decide +kernel)
theorem t_1191 : Cond.instanceMethod yX9_fine ∈ TBg := tb_of (List.mem_of_getElem? (i := 1191) (by decide +kernel)) (by decide +kernel)
theorem t_1192 : Cond.selects RX9 yX9_fine yX9_fine ∈ TBg := tb_of (List.mem_of_getElem? (i := 1192) (by decide +kernel)) (by decide +kernel)
theorem t_1193 : cw MX9_fine ∈ TBg := tb_of (List.mem_of_getElem? (i := 1193) (by decide +kernel)) (by decide +kernel)
theorem t_1194 : Cond.methodLink RX9 301 yX9_isWork ∈ TBg := tb_of (List.mem_of_getElem? (i := 1194) (by decide +kernel)) (by decide +kernel)
theorem t_1196 : Cond.instanceMethod yX9_isWork ∈ TBg := tb_of (List.mem_of_getElem? (i := 1196) (by decide +kernel)) (by decide +kernel)
theorem t_1197 : cw MX9_isWork ∈ TBg := tb_of (List.mem_of_getElem? (i := 1197) (by decide +kernel)) (by decide +kernel)
theorem t_1199 : Cond.constant RX9 306 (-1000000) ∈ TBg := tb_of (List.mem_of_getElem? (i := 1199) (by decide +kernel)) (by decide +kernel)
theorem t_1200 : Cond.methodLink RL 52 yX9_mend ∈ TBg := tb_of (List.mem_of_getElem? (i := 1200) (by decide +kernel)) (by decide +kernel)
theorem t_1201 : Cond.instanceMethod yX9_mend ∈ TBg := tb_of (List.mem_of_getElem? (i := 1201) (by decide +kernel)) (by decide +kernel)
theorem t_1202 : Cond.selects RX9 yX9_mend yX9_mend ∈ TBg := tb_of (List.mem_of_getElem? (i := 1202) (by decide +kernel)) (by decide +kernel)
theorem t_1203 : cw MX9_mend ∈ TBg := tb_of (List.mem_of_getElem? (i := 1203) (by decide +kernel)) (by decide +kernel)
theorem t_1204 : Cond.methodLink RL 56 yX9_dawn ∈ TBg := tb_of (List.mem_of_getElem? (i := 1204) (by decide +kernel)) (by decide +kernel)
theorem t_1205 : Cond.instanceMethod yX9_dawn ∈ TBg := tb_of (List.mem_of_getElem? (i := 1205) (by decide +kernel)) (by decide +kernel)
theorem t_1206 : Cond.selects RX9 yX9_dawn yX9_dawn ∈ TBg := tb_of (List.mem_of_getElem? (i := 1206) (by decide +kernel)) (by decide +kernel)
theorem t_1207 : cw MX9_dawn ∈ TBg := tb_of (List.mem_of_getElem? (i := 1207) (by decide +kernel)) (by decide +kernel)
theorem t_1216 : Cond.methodLink RL 60 yX9_day ∈ TBg := tb_of (List.mem_of_getElem? (i := 1216) (by decide +kernel)) (by decide +kernel)
theorem t_1217 : Cond.instanceMethod yX9_day ∈ TBg := tb_of (List.mem_of_getElem? (i := 1217) (by decide +kernel)) (by decide +kernel)
theorem t_1218 : Cond.selects RX9 yX9_day yX9_day ∈ TBg := tb_of (List.mem_of_getElem? (i := 1218) (by decide +kernel)) (by decide +kernel)
theorem t_1219 : cw MX9_day ∈ TBg := tb_of (List.mem_of_getElem? (i := 1219) (by decide +kernel)) (by decide +kernel)
theorem t_1240 : Cond.methodLink RX9 313 yX9_thatAre ∈ TBg := tb_of (List.mem_of_getElem? (i := 1240) (by decide +kernel)) (by decide +kernel)
theorem t_1242 : Cond.instanceMethod yX9_thatAre ∈ TBg := tb_of (List.mem_of_getElem? (i := 1242) (by decide +kernel)) (by decide +kernel)
theorem t_1243 : cw MX9_thatAre ∈ TBg := tb_of (List.mem_of_getElem? (i := 1243) (by decide +kernel)) (by decide +kernel)
theorem t_1244 : Cond.methodLink RX9 316 yX9_bits ∈ TBg := tb_of (List.mem_of_getElem? (i := 1244) (by decide +kernel)) (by decide +kernel)
theorem t_1245 : Cond.static yX9_bits ∈ TBg := tb_of (List.mem_of_getElem? (i := 1245) (by decide +kernel)) (by decide +kernel)
theorem t_1246 : cw MX9_bits ∈ TBg := tb_of (List.mem_of_getElem? (i := 1246) (by decide +kernel)) (by decide +kernel)
theorem t_1266 : Cond.methodLink RL 64 yX9_would ∈ TBg := tb_of (List.mem_of_getElem? (i := 1266) (by decide +kernel)) (by decide +kernel)
theorem t_1267 : Cond.instanceMethod yX9_would ∈ TBg := tb_of (List.mem_of_getElem? (i := 1267) (by decide +kernel)) (by decide +kernel)
theorem t_1268 : Cond.selects RX9 yX9_would yX9_would ∈ TBg := tb_of (List.mem_of_getElem? (i := 1268) (by decide +kernel)) (by decide +kernel)
theorem t_1269 : cw MX9_would ∈ TBg := tb_of (List.mem_of_getElem? (i := 1269) (by decide +kernel)) (by decide +kernel)
theorem t_1279 : Cond.methodLink RL 68 yX9_row ∈ TBg := tb_of (List.mem_of_getElem? (i := 1279) (by decide +kernel)) (by decide +kernel)
theorem t_1280 : Cond.instanceMethod yX9_row ∈ TBg := tb_of (List.mem_of_getElem? (i := 1280) (by decide +kernel)) (by decide +kernel)
theorem t_1281 : Cond.selects RX9 yX9_row yX9_row ∈ TBg := tb_of (List.mem_of_getElem? (i := 1281) (by decide +kernel)) (by decide +kernel)
theorem t_1282 : cw MX9_row ∈ TBg := tb_of (List.mem_of_getElem? (i := 1282) (by decide +kernel)) (by decide +kernel)
theorem t_1283 : Cond.methodLink RL 73 yX9_worth ∈ TBg := tb_of (List.mem_of_getElem? (i := 1283) (by decide +kernel)) (by decide +kernel)
theorem t_1284 : Cond.instanceMethod yX9_worth ∈ TBg := tb_of (List.mem_of_getElem? (i := 1284) (by decide +kernel)) (by decide +kernel)
theorem t_1285 : Cond.selects RX9 yX9_worth yX9_worth ∈ TBg := tb_of (List.mem_of_getElem? (i := 1285) (by decide +kernel)) (by decide +kernel)
theorem t_1286 : cw MX9_worth ∈ TBg := tb_of (List.mem_of_getElem? (i := 1286) (by decide +kernel)) (by decide +kernel)
theorem t_1287 : Cond.constantLong RX9 362 (-1) ∈ TBg := tb_of (List.mem_of_getElem? (i := 1287) (by decide +kernel)) (by decide +kernel)
theorem t_1311 : Cond.methodLink RL 78 yX9_seen ∈ TBg := tb_of (List.mem_of_getElem? (i := 1311) (by decide +kernel)) (by decide +kernel)
theorem t_1312 : Cond.instanceMethod yX9_seen ∈ TBg := tb_of (List.mem_of_getElem? (i := 1312) (by decide +kernel)) (by decide +kernel)
theorem t_1313 : Cond.selects RX9 yX9_seen yX9_seen ∈ TBg := tb_of (List.mem_of_getElem? (i := 1313) (by decide +kernel)) (by decide +kernel)
theorem t_1314 : cw MX9_seen ∈ TBg := tb_of (List.mem_of_getElem? (i := 1314) (by decide +kernel)) (by decide +kernel)
theorem t_1315 : Cond.methodLink RL 82 yX9_best ∈ TBg := tb_of (List.mem_of_getElem? (i := 1315) (by decide +kernel)) (by decide +kernel)
theorem t_1316 : Cond.instanceMethod yX9_best ∈ TBg := tb_of (List.mem_of_getElem? (i := 1316) (by decide +kernel)) (by decide +kernel)
theorem t_1317 : Cond.selects RX9 yX9_best yX9_best ∈ TBg := tb_of (List.mem_of_getElem? (i := 1317) (by decide +kernel)) (by decide +kernel)
theorem t_1318 : cw MX9_best ∈ TBg := tb_of (List.mem_of_getElem? (i := 1318) (by decide +kernel)) (by decide +kernel)
theorem t_1340 : Cond.methodLink RL 86 yX9_master ∈ TBg := tb_of (List.mem_of_getElem? (i := 1340) (by decide +kernel)) (by decide +kernel)
theorem t_1341 : Cond.instanceMethod yX9_master ∈ TBg := tb_of (List.mem_of_getElem? (i := 1341) (by decide +kernel)) (by decide +kernel)
theorem t_1342 : Cond.selects RX9 yX9_master yX9_master ∈ TBg := tb_of (List.mem_of_getElem? (i := 1342) (by decide +kernel)) (by decide +kernel)
theorem t_1343 : cw MX9_master ∈ TBg := tb_of (List.mem_of_getElem? (i := 1343) (by decide +kernel)) (by decide +kernel)
theorem t_1344 : Cond.constantLong RX9 393 (-1000000000000) ∈ TBg := tb_of (List.mem_of_getElem? (i := 1344) (by decide +kernel)) (by decide +kernel)
theorem t_1345 : Cond.methodLink RL 90 yX9_game ∈ TBg := tb_of (List.mem_of_getElem? (i := 1345) (by decide +kernel)) (by decide +kernel)
theorem t_1346 : Cond.instanceMethod yX9_game ∈ TBg := tb_of (List.mem_of_getElem? (i := 1346) (by decide +kernel)) (by decide +kernel)
theorem t_1347 : Cond.selects RX9 yX9_game yX9_game ∈ TBg := tb_of (List.mem_of_getElem? (i := 1347) (by decide +kernel)) (by decide +kernel)
theorem t_1348 : cw MX9_game ∈ TBg := tb_of (List.mem_of_getElem? (i := 1348) (by decide +kernel)) (by decide +kernel)
theorem t_1349 : Cond.constantLong RX9 395 (7) ∈ TBg := tb_of (List.mem_of_getElem? (i := 1349) (by decide +kernel)) (by decide +kernel)
theorem t_1350 : Cond.constantLong RX9 397 (-99) ∈ TBg := tb_of (List.mem_of_getElem? (i := 1350) (by decide +kernel)) (by decide +kernel)
theorem t_1351 : Cond.constantLong RX9 399 (99) ∈ TBg := tb_of (List.mem_of_getElem? (i := 1351) (by decide +kernel)) (by decide +kernel)
theorem t_1352 : Cond.methodLink RL 94 yX9_rests ∈ TBg := tb_of (List.mem_of_getElem? (i := 1352) (by decide +kernel)) (by decide +kernel)
theorem t_1353 : Cond.instanceMethod yX9_rests ∈ TBg := tb_of (List.mem_of_getElem? (i := 1353) (by decide +kernel)) (by decide +kernel)
theorem t_1354 : Cond.selects RX9 yX9_rests yX9_rests ∈ TBg := tb_of (List.mem_of_getElem? (i := 1354) (by decide +kernel)) (by decide +kernel)
theorem t_1355 : cw MX9_rests ∈ TBg := tb_of (List.mem_of_getElem? (i := 1355) (by decide +kernel)) (by decide +kernel)
theorem t_1356 : Cond.methodLink RX9 401 yX9_gameOf ∈ TBg := tb_of (List.mem_of_getElem? (i := 1356) (by decide +kernel)) (by decide +kernel)
theorem t_1358 : Cond.instanceMethod yX9_gameOf ∈ TBg := tb_of (List.mem_of_getElem? (i := 1358) (by decide +kernel)) (by decide +kernel)
theorem t_1359 : cw MX9_gameOf ∈ TBg := tb_of (List.mem_of_getElem? (i := 1359) (by decide +kernel)) (by decide +kernel)
theorem t_1360 : Cond.methodLink RL 98 yX9_mixed ∈ TBg := tb_of (List.mem_of_getElem? (i := 1360) (by decide +kernel)) (by decide +kernel)
theorem t_1361 : Cond.instanceMethod yX9_mixed ∈ TBg := tb_of (List.mem_of_getElem? (i := 1361) (by decide +kernel)) (by decide +kernel)
theorem t_1362 : Cond.selects RX9 yX9_mixed yX9_mixed ∈ TBg := tb_of (List.mem_of_getElem? (i := 1362) (by decide +kernel)) (by decide +kernel)
theorem t_1363 : cw MX9_mixed ∈ TBg := tb_of (List.mem_of_getElem? (i := 1363) (by decide +kernel)) (by decide +kernel)
theorem t_1364 : Cond.methodLink RX9 404 yX9_rests ∈ TBg := tb_of (List.mem_of_getElem? (i := 1364) (by decide +kernel)) (by decide +kernel)
theorem t_1365 : Cond.methodLink RL 102 yX9_checks ∈ TBg := tb_of (List.mem_of_getElem? (i := 1365) (by decide +kernel)) (by decide +kernel)
theorem t_1366 : Cond.instanceMethod yX9_checks ∈ TBg := tb_of (List.mem_of_getElem? (i := 1366) (by decide +kernel)) (by decide +kernel)
theorem t_1367 : Cond.selects RX9 yX9_checks yX9_checks ∈ TBg := tb_of (List.mem_of_getElem? (i := 1367) (by decide +kernel)) (by decide +kernel)
theorem t_1368 : cw MX9_checks ∈ TBg := tb_of (List.mem_of_getElem? (i := 1368) (by decide +kernel)) (by decide +kernel)
theorem t_1369 : Cond.constantLong RX9 407 (9999) ∈ TBg := tb_of (List.mem_of_getElem? (i := 1369) (by decide +kernel)) (by decide +kernel)
theorem t_1370 : Cond.methodLink RL 106 yX9_fits ∈ TBg := tb_of (List.mem_of_getElem? (i := 1370) (by decide +kernel)) (by decide +kernel)
theorem t_1371 : Cond.instanceMethod yX9_fits ∈ TBg := tb_of (List.mem_of_getElem? (i := 1371) (by decide +kernel)) (by decide +kernel)
theorem t_1372 : Cond.selects RX9 yX9_fits yX9_fits ∈ TBg := tb_of (List.mem_of_getElem? (i := 1372) (by decide +kernel)) (by decide +kernel)
theorem t_1373 : cw MX9_fits ∈ TBg := tb_of (List.mem_of_getElem? (i := 1373) (by decide +kernel)) (by decide +kernel)
theorem t_1378 : Cond.methodLink RL 110 yX9_seed ∈ TBg := tb_of (List.mem_of_getElem? (i := 1378) (by decide +kernel)) (by decide +kernel)
theorem t_1379 : Cond.instanceMethod yX9_seed ∈ TBg := tb_of (List.mem_of_getElem? (i := 1379) (by decide +kernel)) (by decide +kernel)
theorem t_1380 : Cond.selects RX9 yX9_seed yX9_seed ∈ TBg := tb_of (List.mem_of_getElem? (i := 1380) (by decide +kernel)) (by decide +kernel)
theorem t_1381 : cw MX9_seed ∈ TBg := tb_of (List.mem_of_getElem? (i := 1381) (by decide +kernel)) (by decide +kernel)
theorem t_1382 : Cond.methodLink RL 115 yX9_weeks ∈ TBg := tb_of (List.mem_of_getElem? (i := 1382) (by decide +kernel)) (by decide +kernel)
theorem t_1383 : Cond.instanceMethod yX9_weeks ∈ TBg := tb_of (List.mem_of_getElem? (i := 1383) (by decide +kernel)) (by decide +kernel)
theorem t_1384 : Cond.selects RX9 yX9_weeks yX9_weeks ∈ TBg := tb_of (List.mem_of_getElem? (i := 1384) (by decide +kernel)) (by decide +kernel)
theorem t_1385 : cw MX9_weeks ∈ TBg := tb_of (List.mem_of_getElem? (i := 1385) (by decide +kernel)) (by decide +kernel)
theorem t_1387 : Cond.methodLink RL 123 yX9_coins ∈ TBg := tb_of (List.mem_of_getElem? (i := 1387) (by decide +kernel)) (by decide +kernel)
theorem t_1388 : Cond.instanceMethod yX9_coins ∈ TBg := tb_of (List.mem_of_getElem? (i := 1388) (by decide +kernel)) (by decide +kernel)
theorem t_1389 : Cond.selects RX9 yX9_coins yX9_coins ∈ TBg := tb_of (List.mem_of_getElem? (i := 1389) (by decide +kernel)) (by decide +kernel)
theorem t_1390 : cw MX9_coins ∈ TBg := tb_of (List.mem_of_getElem? (i := 1390) (by decide +kernel)) (by decide +kernel)
theorem t_1391 : Cond.methodLink RL 119 yX9_count ∈ TBg := tb_of (List.mem_of_getElem? (i := 1391) (by decide +kernel)) (by decide +kernel)
theorem t_1392 : Cond.instanceMethod yX9_count ∈ TBg := tb_of (List.mem_of_getElem? (i := 1392) (by decide +kernel)) (by decide +kernel)
theorem t_1393 : Cond.selects RX9 yX9_count yX9_count ∈ TBg := tb_of (List.mem_of_getElem? (i := 1393) (by decide +kernel)) (by decide +kernel)
theorem t_1394 : cw MX9_count ∈ TBg := tb_of (List.mem_of_getElem? (i := 1394) (by decide +kernel)) (by decide +kernel)
theorem t_1395 : Cond.methodLink RL 127 yX9_image ∈ TBg := tb_of (List.mem_of_getElem? (i := 1395) (by decide +kernel)) (by decide +kernel)
theorem t_1396 : Cond.instanceMethod yX9_image ∈ TBg := tb_of (List.mem_of_getElem? (i := 1396) (by decide +kernel)) (by decide +kernel)
theorem t_1397 : Cond.selects RX9 yX9_image yX9_image ∈ TBg := tb_of (List.mem_of_getElem? (i := 1397) (by decide +kernel)) (by decide +kernel)
theorem t_1398 : cw MX9_image ∈ TBg := tb_of (List.mem_of_getElem? (i := 1398) (by decide +kernel)) (by decide +kernel)
theorem t_1399 : Cond.constantLong RX9 414 (3) ∈ TBg := tb_of (List.mem_of_getElem? (i := 1399) (by decide +kernel)) (by decide +kernel)
theorem t_1400 : Cond.methodLink RL 131 yX9_back ∈ TBg := tb_of (List.mem_of_getElem? (i := 1400) (by decide +kernel)) (by decide +kernel)
theorem t_1401 : Cond.instanceMethod yX9_back ∈ TBg := tb_of (List.mem_of_getElem? (i := 1401) (by decide +kernel)) (by decide +kernel)
theorem t_1402 : Cond.selects RX9 yX9_back yX9_back ∈ TBg := tb_of (List.mem_of_getElem? (i := 1402) (by decide +kernel)) (by decide +kernel)
theorem t_1403 : cw MX9_back ∈ TBg := tb_of (List.mem_of_getElem? (i := 1403) (by decide +kernel)) (by decide +kernel)
theorem okN_X7_init : okN MX7_init 1 := ⟨by decide, by decide, by decide +kernel⟩
theorem okN_X0_init : okN MX0_init 0 := ⟨by decide, by decide, by decide +kernel⟩
theorem okN_X5_init : okN MX5_init 1 := ⟨by decide, by decide, by decide +kernel⟩
theorem okN_X6_init : okN MX6_init 0 := ⟨by decide, by decide, by decide +kernel⟩
theorem okN_X4_init : okN MX4_init 0 := ⟨by decide, by decide, by decide +kernel⟩
theorem okN_X2_init : okN MX2_init 0 := ⟨by decide, by decide, by decide +kernel⟩
theorem okN_X1_init : okN MX1_init 0 := ⟨by decide, by decide, by decide +kernel⟩
theorem okN_X8_init : okN MX8_init 0 := ⟨by decide, by decide, by decide +kernel⟩
theorem okN_X9_init : okN MX9_init 0 := ⟨by decide, by decide, by decide +kernel⟩
theorem okN_X8_put : okN MX8_put 3 := ⟨by decide, by decide, by decide +kernel⟩
theorem s_X8_putBytes : Cond.selects yX8_putBytes.cls yX8_putBytes yX8_putBytes ∈ TBg := tb_sel (q := (yX8_putBytes, 11)) (by decide +kernel)
theorem okN_X8_putBytes : okN MX8_putBytes 1 := ⟨by decide, by decide, by decide +kernel⟩
theorem okN_X8_feed : okN MX8_feed 5 := ⟨by decide, by decide, by decide +kernel⟩
theorem s_X9_four : Cond.selects yX9_four.cls yX9_four yX9_four ∈ TBg := tb_sel (q := (yX9_four, 36)) (by decide +kernel)
theorem okN_X9_four : okN MX9_four 1 := ⟨by decide, by decide, by decide +kernel⟩
theorem okN_X9_feed : okN MX9_feed 5 := ⟨by decide, by decide, by decide +kernel⟩
theorem okN_X8_end : okN MX8_end 1 := ⟨by decide, by decide, by decide +kernel⟩
theorem okN_X9_end : okN MX9_end 1 := ⟨by decide, by decide, by decide +kernel⟩
theorem s_X6_addToken : Cond.selects yX6_addToken.cls yX6_addToken yX6_addToken ∈ TBg := tb_sel (q := (yX6_addToken, 9)) (by decide +kernel)
theorem okN_X6_addToken : okN MX6_addToken 3 := ⟨by decide, by decide, by decide +kernel⟩
theorem okN_X6_step : okN MX6_step 0 := ⟨by decide, by decide, by decide +kernel⟩
theorem okN_X6_open : okN MX6_open 2 := ⟨by decide, by decide, by decide +kernel⟩
theorem okN_X6_fail : okN MX6_fail 1 := ⟨by decide, by decide, by decide +kernel⟩
theorem s_X7_readClause : Cond.selects yX7_readClause.cls yX7_readClause yX7_readClause ∈ TBg := tb_sel (q := (yX7_readClause, 18)) (by decide +kernel)
theorem okN_X7_readClause : okN MX7_readClause 2 := ⟨by decide, by decide, by decide +kernel⟩
theorem okN_X6_anotherClause : okN MX6_anotherClause 0 := ⟨by decide, by decide, by decide +kernel⟩
theorem s_X7_orderLooks : Cond.selects yX7_orderLooks.cls yX7_orderLooks yX7_orderLooks ∈ TBg := tb_sel (q := (yX7_orderLooks, 18)) (by decide +kernel)
theorem okN_X7_orderLooks : okN MX7_orderLooks 0 := ⟨by decide, by decide, by decide +kernel⟩
theorem okN_X7_readFrom : okN MX7_readFrom 1 := ⟨by decide, by decide, by decide +kernel⟩
theorem okN_X8_work : okN MX8_work 0 := ⟨by decide, by decide, by decide +kernel⟩
theorem s_X9_see : Cond.selects yX9_see.cls yX9_see yX9_see ∈ TBg := tb_sel (q := (yX9_see, 36)) (by decide +kernel)
theorem okN_X9_see : okN MX9_see 0 := ⟨by decide, by decide, by decide +kernel⟩
theorem s_X9_isLetter : Cond.selects yX9_isLetter.cls yX9_isLetter yX9_isLetter ∈ TBg := tb_sel (q := (yX9_isLetter, 36)) (by decide +kernel)
theorem okN_X9_isLetter : okN MX9_isLetter 1 := ⟨by decide, by decide, by decide +kernel⟩
theorem s_X9_isWord : Cond.selects yX9_isWord.cls yX9_isWord yX9_isWord ∈ TBg := tb_sel (q := (yX9_isWord, 36)) (by decide +kernel)
theorem okN_X9_isWord : okN MX9_isWord 1 := ⟨by decide, by decide, by decide +kernel⟩
theorem s_X9_fails : Cond.selects yX9_fails.cls yX9_fails yX9_fails ∈ TBg := tb_sel (q := (yX9_fails, 36)) (by decide +kernel)
theorem okN_X9_fails : okN MX9_fails 2 := ⟨by decide, by decide, by decide +kernel⟩
theorem s_X9_clauseHere : Cond.selects yX9_clauseHere.cls yX9_clauseHere yX9_clauseHere ∈ TBg := tb_sel (q := (yX9_clauseHere, 36)) (by decide +kernel)
theorem okN_X9_clauseHere : okN MX9_clauseHere 0 := ⟨by decide, by decide, by decide +kernel⟩
theorem s_X9_readsAll : Cond.selects yX9_readsAll.cls yX9_readsAll yX9_readsAll ∈ TBg := tb_sel (q := (yX9_readsAll, 36)) (by decide +kernel)
theorem okN_X9_readsAll : okN MX9_readsAll 0 := ⟨by decide, by decide, by decide +kernel⟩
theorem okN_X9_work : okN MX9_work 0 := ⟨by decide, by decide, by decide +kernel⟩
theorem okN_X4_start : okN MX4_start 0 := ⟨by decide, by decide, by decide +kernel⟩
theorem okN_X4_readClause : okN MX4_readClause 0 := ⟨by decide, by decide, by decide +kernel⟩
theorem okN_X8_rule : okN MX8_rule 0 := ⟨by decide, by decide, by decide +kernel⟩
theorem okN_X9_rule : okN MX9_rule 0 := ⟨by decide, by decide, by decide +kernel⟩
theorem okN_X8_kind : okN MX8_kind 2 := ⟨by decide, by decide, by decide +kernel⟩
theorem okN_X9_in : okN MX9_in 3 := ⟨by decide, by decide, by decide +kernel⟩
theorem okN_X9_kind : okN MX9_kind 2 := ⟨by decide, by decide, by decide +kernel⟩
theorem s_X8_isFault : Cond.selects yX8_isFault.cls yX8_isFault yX8_isFault ∈ TBg := tb_sel (q := (yX8_isFault, 11)) (by decide +kernel)
theorem okN_X8_isFault : okN MX8_isFault 1 := ⟨by decide, by decide, by decide +kernel⟩
theorem okN_X8_fault : okN MX8_fault 2 := ⟨by decide, by decide, by decide +kernel⟩
theorem s_X9_isFault : Cond.selects yX9_isFault.cls yX9_isFault yX9_isFault ∈ TBg := tb_sel (q := (yX9_isFault, 36)) (by decide +kernel)
theorem okN_X9_isFault : okN MX9_isFault 1 := ⟨by decide, by decide, by decide +kernel⟩
theorem okN_X9_fault : okN MX9_fault 2 := ⟨by decide, by decide, by decide +kernel⟩
theorem okN_X8_look : okN MX8_look 1 := ⟨by decide, by decide, by decide +kernel⟩
theorem okN_X9_look : okN MX9_look 1 := ⟨by decide, by decide, by decide +kernel⟩
theorem s_X8_hasWork : Cond.selects yX8_hasWork.cls yX8_hasWork yX8_hasWork ∈ TBg := tb_sel (q := (yX8_hasWork, 11)) (by decide +kernel)
theorem okN_X8_hasWork : okN MX8_hasWork 0 := ⟨by decide, by decide, by decide +kernel⟩
theorem okN_X8_fine : okN MX8_fine 1 := ⟨by decide, by decide, by decide +kernel⟩
theorem s_X9_isWork : Cond.selects yX9_isWork.cls yX9_isWork yX9_isWork ∈ TBg := tb_sel (q := (yX9_isWork, 36)) (by decide +kernel)
theorem okN_X9_isWork : okN MX9_isWork 0 := ⟨by decide, by decide, by decide +kernel⟩
theorem okN_X9_fine : okN MX9_fine 1 := ⟨by decide, by decide, by decide +kernel⟩
theorem okN_X8_mend : okN MX8_mend 1 := ⟨by decide, by decide, by decide +kernel⟩
theorem okN_X9_mend : okN MX9_mend 1 := ⟨by decide, by decide, by decide +kernel⟩
theorem okN_X8_dawn : okN MX8_dawn 0 := ⟨by decide, by decide, by decide +kernel⟩
theorem okN_X9_dawn : okN MX9_dawn 0 := ⟨by decide, by decide, by decide +kernel⟩
theorem s_X8_ruleForWork : Cond.selects yX8_ruleForWork.cls yX8_ruleForWork yX8_ruleForWork ∈ TBg := tb_sel (q := (yX8_ruleForWork, 11)) (by decide +kernel)
theorem okN_X8_ruleForWork : okN MX8_ruleForWork 1 := ⟨by decide, by decide, by decide +kernel⟩
theorem okN_X8_day : okN MX8_day 1 := ⟨by decide, by decide, by decide +kernel⟩
theorem okN_X9_day : okN MX9_day 1 := ⟨by decide, by decide, by decide +kernel⟩
theorem okN_X8_would : okN MX8_would 2 := ⟨by decide, by decide, by decide +kernel⟩
theorem okN_X9_would : okN MX9_would 2 := ⟨by decide, by decide, by decide +kernel⟩
theorem okN_X8_row : okN MX8_row 1 := ⟨by decide, by decide, by decide +kernel⟩
theorem okN_X9_row : okN MX9_row 1 := ⟨by decide, by decide, by decide +kernel⟩
theorem okN_X8_worth : okN MX8_worth 1 := ⟨by decide, by decide, by decide +kernel⟩
theorem okN_X9_worth : okN MX9_worth 1 := ⟨by decide, by decide, by decide +kernel⟩
theorem okN_X8_seen : okN MX8_seen 2 := ⟨by decide, by decide, by decide +kernel⟩
theorem okN_X9_seen : okN MX9_seen 2 := ⟨by decide, by decide, by decide +kernel⟩
theorem okN_X8_best : okN MX8_best 2 := ⟨by decide, by decide, by decide +kernel⟩
theorem okN_X9_best : okN MX9_best 2 := ⟨by decide, by decide, by decide +kernel⟩
theorem okN_X8_master : okN MX8_master 2 := ⟨by decide, by decide, by decide +kernel⟩
theorem okN_X9_master : okN MX9_master 2 := ⟨by decide, by decide, by decide +kernel⟩
theorem okN_X8_game : okN MX8_game 2 := ⟨by decide, by decide, by decide +kernel⟩
theorem okN_X9_game : okN MX9_game 2 := ⟨by decide, by decide, by decide +kernel⟩
theorem okN_X8_at : okN MX8_at 2 := ⟨by decide, by decide, by decide +kernel⟩
theorem okN_X8_rests : okN MX8_rests 0 := ⟨by decide, by decide, by decide +kernel⟩
theorem s_X9_gameOf : Cond.selects yX9_gameOf.cls yX9_gameOf yX9_gameOf ∈ TBg := tb_sel (q := (yX9_gameOf, 36)) (by decide +kernel)
theorem okN_X9_gameOf : okN MX9_gameOf 1 := ⟨by decide, by decide, by decide +kernel⟩
theorem okN_X9_rests : okN MX9_rests 0 := ⟨by decide, by decide, by decide +kernel⟩
theorem okN_X8_mixed : okN MX8_mixed 2 := ⟨by decide, by decide, by decide +kernel⟩
theorem okN_X9_mixed : okN MX9_mixed 2 := ⟨by decide, by decide, by decide +kernel⟩
theorem okN_X8_checks : okN MX8_checks 2 := ⟨by decide, by decide, by decide +kernel⟩
theorem okN_X9_checks : okN MX9_checks 2 := ⟨by decide, by decide, by decide +kernel⟩
theorem okN_X8_fits : okN MX8_fits 2 := ⟨by decide, by decide, by decide +kernel⟩
theorem okN_X9_fits : okN MX9_fits 2 := ⟨by decide, by decide, by decide +kernel⟩
theorem okN_X8_seed : okN MX8_seed 1 := ⟨by decide, by decide, by decide +kernel⟩
theorem okN_X9_seed : okN MX9_seed 1 := ⟨by decide, by decide, by decide +kernel⟩
theorem okN_X8_weeks : okN MX8_weeks 3 := ⟨by decide, by decide, by decide +kernel⟩
theorem okN_X9_weeks : okN MX9_weeks 3 := ⟨by decide, by decide, by decide +kernel⟩
theorem okN_J6_bitCount_0f7a4 : okN MJ6_bitCount_0f7a4 1 := ⟨by decide, by decide, by decide +kernel⟩
theorem okN_X8_count : okN MX8_count 1 := ⟨by decide, by decide, by decide +kernel⟩
theorem s_X9_thatAre : Cond.selects yX9_thatAre.cls yX9_thatAre yX9_thatAre ∈ TBg := tb_sel (q := (yX9_thatAre, 36)) (by decide +kernel)
theorem okN_X9_thatAre : okN MX9_thatAre 1 := ⟨by decide, by decide, by decide +kernel⟩
theorem okN_X9_bits : okN MX9_bits 1 := ⟨by decide, by decide, by decide +kernel⟩
theorem okN_X9_count : okN MX9_count 1 := ⟨by decide, by decide, by decide +kernel⟩
theorem okN_X8_coins : okN MX8_coins 1 := ⟨by decide, by decide, by decide +kernel⟩
theorem okN_X9_coins : okN MX9_coins 1 := ⟨by decide, by decide, by decide +kernel⟩
theorem okN_X0_copyFrom : okN MX0_copyFrom 1 := ⟨by decide, by decide, by decide +kernel⟩
theorem okN_X5_copyFrom : okN MX5_copyFrom 1 := ⟨by decide, by decide, by decide +kernel⟩
theorem okN_X8_image : okN MX8_image 1 := ⟨by decide, by decide, by decide +kernel⟩
theorem okN_X9_image : okN MX9_image 1 := ⟨by decide, by decide, by decide +kernel⟩
theorem okN_X8_back : okN MX8_back 1 := ⟨by decide, by decide, by decide +kernel⟩
theorem okN_X9_back : okN MX9_back 1 := ⟨by decide, by decide, by decide +kernel⟩
theorem lk_I_8_33 : LkI RX8 33 MX7_init := ⟨t_35, t_3, t_33, t_34, rfl, rfl⟩
theorem lk_I_5_17 : LkI RX5 17 MX0_init := ⟨t_128, t_4, t_126, t_127, rfl, rfl⟩
theorem lk_I_8_36 : LkI RX8 36 MX5_init := ⟨t_122, t_2, t_120, t_121, rfl, rfl⟩
theorem lk_I_8_49 : LkI RX8 49 MX0_init := ⟨t_128, t_4, t_195, t_127, rfl, rfl⟩
theorem lk_I_4_11 : LkI RX4 11 MX6_init := ⟨t_206, t_6, t_204, t_205, rfl, rfl⟩
theorem lk_I_8_56 : LkI RX8 56 MX4_init := ⟨t_200, t_5, t_198, t_199, rfl, rfl⟩
theorem lk_I_8_63 : LkI RX8 63 MX2_init := ⟨t_272, t_7, t_270, t_271, rfl, rfl⟩
theorem lk_I_8_70 : LkI RX8 70 MX1_init := ⟨t_283, t_8, t_281, t_282, rfl, rfl⟩
theorem lk_I_L_9 : LkI RL 9 MX8_init := ⟨t_23, t_1, t_21, t_22, rfl, rfl⟩
theorem lk_I_L_12 : LkI RL 12 MX9_init := ⟨t_880, t_9, t_878, t_879, rfl, rfl⟩
theorem lk_S_8_78 : LkS RX8 78 MX8_put := ⟨t_344, t_1, t_342, t_343⟩
theorem lk_V_8_75 : LkV RX8 75 MX8_putBytes := ⟨t_341, t_1, t_338, t_340, s_X8_putBytes⟩
theorem lk_V_L_13 : LkV RL 13 MX8_feed := ⟨t_337, t_1, t_334, t_335, t_336⟩
theorem lk_V_9_83 : LkV RX9 83 MX9_four := ⟨t_999, t_9, t_996, t_998, s_X9_four⟩
theorem lk_V_L_17 : LkV RL 17 MX9_feed := ⟨t_995, t_9, t_992, t_993, t_994⟩
theorem lk_V_L_18 : LkV RL 18 MX8_end := ⟨t_348, t_1, t_345, t_346, t_347⟩
theorem lk_V_L_22 : LkV RL 22 MX9_end := ⟨t_1003, t_9, t_1000, t_1001, t_1002⟩
theorem lk_V_6_29 : LkV RX6 29 MX6_addToken := ⟨t_374, t_6, t_371, t_373, s_X6_addToken⟩
theorem lk_V_6_39 : LkV RX6 39 MX6_step := ⟨t_459, t_6, t_456, t_457, t_458⟩
theorem lk_V_8_86 : LkV RX8 86 MX6_open := ⟨t_356, t_6, t_353, t_354, t_355⟩
theorem lk_V_7_68 : LkV RX7 68 MX6_fail := ⟨t_471, t_6, t_468, t_469, t_470⟩
theorem lk_V_7_55 : LkV RX7 55 MX7_readClause := ⟨t_467, t_3, t_464, t_466, s_X7_readClause⟩
theorem lk_V_7_59 : LkV RX7 59 MX6_anotherClause := ⟨t_491, t_6, t_488, t_489, t_490⟩
theorem lk_V_7_72 : LkV RX7 72 MX7_orderLooks := ⟨t_495, t_3, t_492, t_494, s_X7_orderLooks⟩
theorem lk_V_8_92 : LkV RX8 92 MX7_readFrom := ⟨t_463, t_3, t_460, t_461, t_462⟩
theorem lk_V_L_23 : LkV RL 23 MX8_work := ⟨t_352, t_1, t_349, t_350, t_351⟩
theorem lk_V_9_93 : LkV RX9 93 MX9_see := ⟨t_1019, t_9, t_1016, t_1018, s_X9_see⟩
theorem lk_V_9_97 : LkV RX9 97 MX9_isLetter := ⟨t_1028, t_9, t_1025, t_1027, s_X9_isLetter⟩
theorem lk_V_9_101 : LkV RX9 101 MX9_isWord := ⟨t_1024, t_9, t_1021, t_1023, s_X9_isWord⟩
theorem lk_V_9_111 : LkV RX9 111 MX9_fails := ⟨t_1036, t_9, t_1033, t_1035, s_X9_fails⟩
theorem lk_V_9_244 : LkV RX9 244 MX9_clauseHere := ⟨t_1015, t_9, t_1012, t_1014, s_X9_clauseHere⟩
theorem lk_V_9_250 : LkV RX9 250 MX9_readsAll := ⟨t_1011, t_9, t_1008, t_1010, s_X9_readsAll⟩
theorem lk_V_L_27 : LkV RL 27 MX9_work := ⟨t_1143, t_9, t_1140, t_1141, t_1142⟩
theorem lk_V_8_105 : LkV RX8 105 MX4_start := ⟨t_518, t_5, t_515, t_516, t_517⟩
theorem lk_V_4_68 : LkV RX4 68 MX6_fail := ⟨t_471, t_6, t_523, t_469, t_470⟩
theorem lk_V_8_108 : LkV RX8 108 MX4_readClause := ⟨t_522, t_5, t_519, t_520, t_521⟩
theorem lk_V_8_111 : LkV RX8 111 MX6_anotherClause := ⟨t_491, t_6, t_550, t_489, t_490⟩
theorem lk_V_L_28 : LkV RL 28 MX8_rule := ⟨t_514, t_1, t_511, t_512, t_513⟩
theorem lk_V_L_31 : LkV RL 31 MX9_rule := ⟨t_1007, t_9, t_1004, t_1005, t_1006⟩
theorem lk_V_L_32 : LkV RL 32 MX8_kind := ⟨t_605, t_1, t_602, t_603, t_604⟩
theorem lk_S_9_118 : LkS RX9 118 MX9_in := ⟨t_1068, t_9, t_1066, t_1067⟩
theorem lk_V_L_36 : LkV RL 36 MX9_kind := ⟨t_1147, t_9, t_1144, t_1145, t_1146⟩
theorem lk_V_8_139 : LkV RX8 139 MX8_isFault := ⟨t_614, t_1, t_611, t_613, s_X8_isFault⟩
theorem lk_V_L_37 : LkV RL 37 MX8_fault := ⟨t_610, t_1, t_607, t_608, t_609⟩
theorem lk_V_9_280 : LkV RX9 280 MX9_isFault := ⟨t_1156, t_9, t_1153, t_1155, s_X9_isFault⟩
theorem lk_V_L_40 : LkV RL 40 MX9_fault := ⟨t_1152, t_9, t_1149, t_1150, t_1151⟩
theorem lk_V_L_41 : LkV RL 41 MX8_look := ⟨t_644, t_1, t_641, t_642, t_643⟩
theorem lk_V_L_44 : LkV RL 44 MX9_look := ⟨t_1169, t_9, t_1166, t_1167, t_1168⟩
theorem lk_V_8_213 : LkV RX8 213 MX8_hasWork := ⟨t_665, t_1, t_662, t_664, s_X8_hasWork⟩
theorem lk_V_L_45 : LkV RL 45 MX8_fine := ⟨t_661, t_1, t_658, t_659, t_660⟩
theorem lk_V_9_301 : LkV RX9 301 MX9_isWork := ⟨t_1197, t_9, t_1194, t_1196, s_X9_isWork⟩
theorem lk_V_L_48 : LkV RL 48 MX9_fine := ⟨t_1193, t_9, t_1190, t_1191, t_1192⟩
theorem lk_V_L_49 : LkV RL 49 MX8_mend := ⟨t_669, t_1, t_666, t_667, t_668⟩
theorem lk_V_L_52 : LkV RL 52 MX9_mend := ⟨t_1203, t_9, t_1200, t_1201, t_1202⟩
theorem lk_V_L_53 : LkV RL 53 MX8_dawn := ⟨t_674, t_1, t_671, t_672, t_673⟩
theorem lk_V_L_56 : LkV RL 56 MX9_dawn := ⟨t_1207, t_9, t_1204, t_1205, t_1206⟩
theorem lk_V_8_228 : LkV RX8 228 MX8_ruleForWork := ⟨t_696, t_1, t_693, t_695, s_X8_ruleForWork⟩
theorem lk_V_L_57 : LkV RL 57 MX8_day := ⟨t_692, t_1, t_689, t_690, t_691⟩
theorem lk_V_L_60 : LkV RL 60 MX9_day := ⟨t_1219, t_9, t_1216, t_1217, t_1218⟩
theorem lk_V_L_61 : LkV RL 61 MX8_would := ⟨t_735, t_1, t_732, t_733, t_734⟩
theorem lk_V_L_64 : LkV RL 64 MX9_would := ⟨t_1269, t_9, t_1266, t_1267, t_1268⟩
theorem lk_V_L_65 : LkV RL 65 MX8_row := ⟨t_748, t_1, t_745, t_746, t_747⟩
theorem lk_V_L_68 : LkV RL 68 MX9_row := ⟨t_1282, t_9, t_1279, t_1280, t_1281⟩
theorem lk_V_L_69 : LkV RL 69 MX8_worth := ⟨t_752, t_1, t_749, t_750, t_751⟩
theorem lk_V_L_73 : LkV RL 73 MX9_worth := ⟨t_1286, t_9, t_1283, t_1284, t_1285⟩
theorem lk_V_L_74 : LkV RL 74 MX8_seen := ⟨t_771, t_1, t_768, t_769, t_770⟩
theorem lk_V_L_78 : LkV RL 78 MX9_seen := ⟨t_1314, t_9, t_1311, t_1312, t_1313⟩
theorem lk_V_L_79 : LkV RL 79 MX8_best := ⟨t_775, t_1, t_772, t_773, t_774⟩
theorem lk_V_L_82 : LkV RL 82 MX9_best := ⟨t_1318, t_9, t_1315, t_1316, t_1317⟩
theorem lk_V_L_83 : LkV RL 83 MX8_master := ⟨t_808, t_1, t_805, t_806, t_807⟩
theorem lk_V_L_86 : LkV RL 86 MX9_master := ⟨t_1343, t_9, t_1340, t_1341, t_1342⟩
theorem lk_V_L_87 : LkV RL 87 MX8_game := ⟨t_833, t_1, t_830, t_831, t_832⟩
theorem lk_V_L_90 : LkV RL 90 MX9_game := ⟨t_1348, t_9, t_1345, t_1346, t_1347⟩
theorem lk_S_8_129 : LkS RX8 129 MX8_at := ⟨t_363, t_1, t_606, t_362⟩
theorem lk_V_L_91 : LkV RL 91 MX8_rests := ⟨t_837, t_1, t_834, t_835, t_836⟩
theorem lk_V_9_401 : LkV RX9 401 MX9_gameOf := ⟨t_1359, t_9, t_1356, t_1358, s_X9_gameOf⟩
theorem lk_V_L_94 : LkV RL 94 MX9_rests := ⟨t_1355, t_9, t_1352, t_1353, t_1354⟩
theorem lk_V_8_286 : LkV RX8 286 MX8_rests := ⟨t_837, t_1, t_842, t_835, t_836⟩
theorem lk_V_L_95 : LkV RL 95 MX8_mixed := ⟨t_841, t_1, t_838, t_839, t_840⟩
theorem lk_V_9_404 : LkV RX9 404 MX9_rests := ⟨t_1355, t_9, t_1364, t_1353, t_1354⟩
theorem lk_V_L_98 : LkV RL 98 MX9_mixed := ⟨t_1363, t_9, t_1360, t_1361, t_1362⟩
theorem lk_V_L_99 : LkV RL 99 MX8_checks := ⟨t_849, t_1, t_846, t_847, t_848⟩
theorem lk_V_L_102 : LkV RL 102 MX9_checks := ⟨t_1368, t_9, t_1365, t_1366, t_1367⟩
theorem lk_V_L_103 : LkV RL 103 MX8_fits := ⟨t_853, t_1, t_850, t_851, t_852⟩
theorem lk_V_L_106 : LkV RL 106 MX9_fits := ⟨t_1373, t_9, t_1370, t_1371, t_1372⟩
theorem lk_V_L_107 : LkV RL 107 MX8_seed := ⟨t_688, t_1, t_685, t_686, t_687⟩
theorem lk_V_L_110 : LkV RL 110 MX9_seed := ⟨t_1381, t_9, t_1378, t_1379, t_1380⟩
theorem lk_V_L_111 : LkV RL 111 MX8_weeks := ⟨t_744, t_1, t_741, t_742, t_743⟩
theorem lk_V_L_115 : LkV RL 115 MX9_weeks := ⟨t_1385, t_9, t_1382, t_1383, t_1384⟩
theorem lk_S_8_181 : LkS RX8 181 MJ6_bitCount_0f7a4 := ⟨t_632, t_18, t_630, t_631⟩
theorem lk_V_L_116 : LkV RL 116 MX8_count := ⟨t_629, t_1, t_626, t_627, t_628⟩
theorem lk_V_9_313 : LkV RX9 313 MX9_thatAre := ⟨t_1243, t_9, t_1240, t_1242, s_X9_thatAre⟩
theorem lk_S_9_316 : LkS RX9 316 MX9_bits := ⟨t_1246, t_9, t_1244, t_1245⟩
theorem lk_V_L_119 : LkV RL 119 MX9_count := ⟨t_1394, t_9, t_1391, t_1392, t_1393⟩
theorem lk_V_L_120 : LkV RL 120 MX8_coins := ⟨t_639, t_1, t_636, t_637, t_638⟩
theorem lk_V_L_123 : LkV RL 123 MX9_coins := ⟨t_1390, t_9, t_1387, t_1388, t_1389⟩
theorem lk_V_5_29 : LkV RX5 29 MX0_copyFrom := ⟨t_739, t_4, t_870, t_737, t_738⟩
theorem lk_V_8_300 : LkV RX8 300 MX5_copyFrom := ⟨t_869, t_2, t_866, t_867, t_868⟩
theorem lk_V_L_124 : LkV RL 124 MX8_image := ⟨t_865, t_1, t_862, t_863, t_864⟩
theorem lk_V_L_127 : LkV RL 127 MX9_image := ⟨t_1398, t_9, t_1395, t_1396, t_1397⟩
theorem lk_V_L_128 : LkV RL 128 MX8_back := ⟨t_875, t_1, t_872, t_873, t_874⟩
theorem lk_V_L_131 : LkV RL 131 MX9_back := ⟨t_1403, t_9, t_1400, t_1401, t_1402⟩
theorem iX0 : ∀ w ∈ u_ws RX0 TX0 6, w ∈ TBg := by
  intro w hw
  obtain ⟨k, hk, rfl⟩ := List.mem_map.mp hw
  have hk := List.mem_range.mp hk
  match k, hk with
  | 0, _ => exact t_147
  | 1, _ => exact t_149
  | 2, _ => exact t_151
  | 3, _ => exact t_153
  | 4, _ => exact t_155
  | 5, _ => exact t_157
  | k + 6, hk => exact absurd hk (by omega)
theorem dfX0 : ∀ j, j < 6 → defaultValue (tyX0 j) = vp_V [.int 0, .int 0, .int 0, .int 0, .int 0, .null] j := by
  intro j hj
  match j, hj with
  | 0, _ => rfl
  | 1, _ => rfl
  | 2, _ => rfl
  | 3, _ => rfl
  | 4, _ => rfl
  | 5, _ => rfl
  | j + 6, hj => exact absurd hj (by omega)
theorem iX1 : ∀ w ∈ u_ws RX1 TX1 4, w ∈ TBg := by
  intro w hw
  obtain ⟨k, hk, rfl⟩ := List.mem_map.mp hw
  have hk := List.mem_range.mp hk
  match k, hk with
  | 0, _ => exact t_291
  | 1, _ => exact t_293
  | 2, _ => exact t_295
  | 3, _ => exact t_297
  | k + 4, hk => exact absurd hk (by omega)
theorem dfX1 : ∀ j, j < 4 → defaultValue (tyX1 j) = vp_V [.null, .null, .int 0, .long 0] j := by
  intro j hj
  match j, hj with
  | 0, _ => rfl
  | 1, _ => rfl
  | 2, _ => rfl
  | 3, _ => rfl
  | j + 4, hj => exact absurd hj (by omega)
theorem iX2 : ∀ w ∈ u_ws RX2 TX2 1, w ∈ TBg := by
  intro w hw
  obtain ⟨k, hk, rfl⟩ := List.mem_map.mp hw
  have hk := List.mem_range.mp hk
  match k, hk with
  | 0, _ => exact t_275
  | k + 1, hk => exact absurd hk (by omega)
theorem dfX2 : ∀ j, j < 1 → defaultValue (tyX2 j) = vp_V [.null] j := by
  intro j hj
  match j, hj with
  | 0, _ => rfl
  | j + 1, hj => exact absurd hj (by omega)
theorem iX3 : ∀ w ∈ u_ws RX3 TX3 5, w ∈ TBg := by
  intro w hw
  obtain ⟨k, hk, rfl⟩ := List.mem_map.mp hw
  have hk := List.mem_range.mp hk
  match k, hk with
  | 0, _ => exact t_591
  | 1, _ => exact t_593
  | 2, _ => exact t_595
  | 3, _ => exact t_597
  | 4, _ => exact t_599
  | k + 5, hk => exact absurd hk (by omega)
theorem dfX3 : ∀ j, j < 5 → defaultValue (tyX3 j) = vp_V [.null, .int 0, .null, .null, .null] j := by
  intro j hj
  match j, hj with
  | 0, _ => rfl
  | 1, _ => rfl
  | 2, _ => rfl
  | 3, _ => rfl
  | 4, _ => rfl
  | j + 5, hj => exact absurd hj (by omega)
theorem iX4 : ∀ w ∈ u_ws RX4 TX4 8, w ∈ TBg := by
  intro w hw
  obtain ⟨k, hk, rfl⟩ := List.mem_map.mp hw
  have hk := List.mem_range.mp hk
  match k, hk with
  | 0, _ => exact t_251
  | 1, _ => exact t_253
  | 2, _ => exact t_255
  | 3, _ => exact t_257
  | 4, _ => exact t_259
  | 5, _ => exact t_261
  | 6, _ => exact t_263
  | 7, _ => exact t_265
  | k + 8, hk => exact absurd hk (by omega)
theorem dfX4 : ∀ j, j < 8 → defaultValue (tyX4 j) = vp_V [.null, .null, .int 0, .int 0, .int 0, .null, .null, .null] j := by
  intro j hj
  match j, hj with
  | 0, _ => rfl
  | 1, _ => rfl
  | 2, _ => rfl
  | 3, _ => rfl
  | 4, _ => rfl
  | 5, _ => rfl
  | 6, _ => rfl
  | 7, _ => rfl
  | j + 8, hj => exact absurd hj (by omega)
theorem iX5 : ∀ w ∈ u_ws RX5 TX5 8, w ∈ TBg := by
  intro w hw
  obtain ⟨k, hk, rfl⟩ := List.mem_map.mp hw
  have hk := List.mem_range.mp hk
  match k, hk with
  | 0, _ => exact t_176
  | 1, _ => exact t_178
  | 2, _ => exact t_180
  | 3, _ => exact t_182
  | 4, _ => exact t_184
  | 5, _ => exact t_186
  | 6, _ => exact t_188
  | 7, _ => exact t_190
  | k + 8, hk => exact absurd hk (by omega)
theorem dfX5 : ∀ j, j < 8 → defaultValue (tyX5 j) = vp_V [.null, .null, .int 0, .int 0, .int 0, .null, .int 0, .null] j := by
  intro j hj
  match j, hj with
  | 0, _ => rfl
  | 1, _ => rfl
  | 2, _ => rfl
  | 3, _ => rfl
  | 4, _ => rfl
  | 5, _ => rfl
  | 6, _ => rfl
  | 7, _ => rfl
  | j + 8, hj => exact absurd hj (by omega)
theorem iX6 : ∀ w ∈ u_ws RX6 TX6 9, w ∈ TBg := by
  intro w hw
  obtain ⟨k, hk, rfl⟩ := List.mem_map.mp hw
  have hk := List.mem_range.mp hk
  match k, hk with
  | 0, _ => exact t_223
  | 1, _ => exact t_225
  | 2, _ => exact t_227
  | 3, _ => exact t_229
  | 4, _ => exact t_231
  | 5, _ => exact t_233
  | 6, _ => exact t_235
  | 7, _ => exact t_237
  | 8, _ => exact t_239
  | k + 9, hk => exact absurd hk (by omega)
theorem dfX6 : ∀ j, j < 9 → defaultValue (tyX6 j) = vp_V [.null, .null, .null, .int 0, .int 0, .int 0, .int 0, .int 0, .int 0] j := by
  intro j hj
  match j, hj with
  | 0, _ => rfl
  | 1, _ => rfl
  | 2, _ => rfl
  | 3, _ => rfl
  | 4, _ => rfl
  | 5, _ => rfl
  | 6, _ => rfl
  | 7, _ => rfl
  | 8, _ => rfl
  | j + 9, hj => exact absurd hj (by omega)
theorem iX7 : ∀ w ∈ u_ws RX7 TX7 18, w ∈ TBg := by
  intro w hw
  obtain ⟨k, hk, rfl⟩ := List.mem_map.mp hw
  have hk := List.mem_range.mp hk
  match k, hk with
  | 0, _ => exact t_82
  | 1, _ => exact t_84
  | 2, _ => exact t_86
  | 3, _ => exact t_88
  | 4, _ => exact t_90
  | 5, _ => exact t_92
  | 6, _ => exact t_94
  | 7, _ => exact t_96
  | 8, _ => exact t_98
  | 9, _ => exact t_100
  | 10, _ => exact t_102
  | 11, _ => exact t_104
  | 12, _ => exact t_106
  | 13, _ => exact t_108
  | 14, _ => exact t_110
  | 15, _ => exact t_112
  | 16, _ => exact t_114
  | 17, _ => exact t_116
  | k + 18, hk => exact absurd hk (by omega)
theorem dfX7 : ∀ j, j < 18 → defaultValue (tyX7 j) = vp_V [.int 0, .int 0, .int 0, .int 0, .int 0, .null, .null, .null, .null, .null, .null, .null, .null, .null, .null, .null, .null, .int 0] j := by
  intro j hj
  match j, hj with
  | 0, _ => rfl
  | 1, _ => rfl
  | 2, _ => rfl
  | 3, _ => rfl
  | 4, _ => rfl
  | 5, _ => rfl
  | 6, _ => rfl
  | 7, _ => rfl
  | 8, _ => rfl
  | 9, _ => rfl
  | 10, _ => rfl
  | 11, _ => rfl
  | 12, _ => rfl
  | 13, _ => rfl
  | 14, _ => rfl
  | 15, _ => rfl
  | 16, _ => rfl
  | 17, _ => rfl
  | j + 18, hj => exact absurd hj (by omega)
theorem iX8 : ∀ w ∈ u_ws RX8 TX8 11, w ∈ TBg := by
  intro w hw
  obtain ⟨k, hk, rfl⟩ := List.mem_map.mp hw
  have hk := List.mem_range.mp hk
  match k, hk with
  | 0, _ => exact t_311
  | 1, _ => exact t_313
  | 2, _ => exact t_315
  | 3, _ => exact t_317
  | 4, _ => exact t_319
  | 5, _ => exact t_321
  | 6, _ => exact t_323
  | 7, _ => exact t_325
  | 8, _ => exact t_327
  | 9, _ => exact t_329
  | 10, _ => exact t_331
  | k + 11, hk => exact absurd hk (by omega)
theorem dfX8 : ∀ j, j < 11 → defaultValue (tyX8 j) = vp_V [.null, .int 0, .null, .int 0, .int 0, .null, .null, .null, .null, .null, .null] j := by
  intro j hj
  match j, hj with
  | 0, _ => rfl
  | 1, _ => rfl
  | 2, _ => rfl
  | 3, _ => rfl
  | 4, _ => rfl
  | 5, _ => rfl
  | 6, _ => rfl
  | 7, _ => rfl
  | 8, _ => rfl
  | 9, _ => rfl
  | 10, _ => rfl
  | j + 11, hj => exact absurd hj (by omega)
theorem iX9 : ∀ w ∈ u_ws RX9 TX9 36, w ∈ TBg := by
  intro w hw
  obtain ⟨k, hk, rfl⟩ := List.mem_map.mp hw
  have hk := List.mem_range.mp hk
  match k, hk with
  | 0, _ => exact t_918
  | 1, _ => exact t_920
  | 2, _ => exact t_922
  | 3, _ => exact t_924
  | 4, _ => exact t_926
  | 5, _ => exact t_928
  | 6, _ => exact t_930
  | 7, _ => exact t_932
  | 8, _ => exact t_934
  | 9, _ => exact t_936
  | 10, _ => exact t_938
  | 11, _ => exact t_940
  | 12, _ => exact t_942
  | 13, _ => exact t_944
  | 14, _ => exact t_946
  | 15, _ => exact t_948
  | 16, _ => exact t_950
  | 17, _ => exact t_952
  | 18, _ => exact t_954
  | 19, _ => exact t_956
  | 20, _ => exact t_958
  | 21, _ => exact t_960
  | 22, _ => exact t_962
  | 23, _ => exact t_964
  | 24, _ => exact t_966
  | 25, _ => exact t_968
  | 26, _ => exact t_970
  | 27, _ => exact t_972
  | 28, _ => exact t_974
  | 29, _ => exact t_976
  | 30, _ => exact t_978
  | 31, _ => exact t_980
  | 32, _ => exact t_982
  | 33, _ => exact t_984
  | 34, _ => exact t_986
  | 35, _ => exact t_988
  | k + 36, hk => exact absurd hk (by omega)
theorem dfX9 : ∀ j, j < 36 → defaultValue (tyX9 j) = vp_V [.null, .int 0, .int 0, .null, .null, .null, .null, .int 0, .int 0, .int 0, .null, .null, .int 0, .int 0, .int 0, .int 0, .int 0, .int 0, .int 0, .null, .int 0, .null, .int 0, .null, .null, .null, .null, .null, .null, .null, .null, .null, .null, .null, .null, .null] j := by
  intro j hj
  match j, hj with
  | 0, _ => rfl
  | 1, _ => rfl
  | 2, _ => rfl
  | 3, _ => rfl
  | 4, _ => rfl
  | 5, _ => rfl
  | 6, _ => rfl
  | 7, _ => rfl
  | 8, _ => rfl
  | 9, _ => rfl
  | 10, _ => rfl
  | 11, _ => rfl
  | 12, _ => rfl
  | 13, _ => rfl
  | 14, _ => rfl
  | 15, _ => rfl
  | 16, _ => rfl
  | 17, _ => rfl
  | 18, _ => rfl
  | 19, _ => rfl
  | 20, _ => rfl
  | 21, _ => rfl
  | 22, _ => rfl
  | 23, _ => rfl
  | 24, _ => rfl
  | 25, _ => rfl
  | 26, _ => rfl
  | 27, _ => rfl
  | 28, _ => rfl
  | 29, _ => rfl
  | 30, _ => rfl
  | 31, _ => rfl
  | 32, _ => rfl
  | 33, _ => rfl
  | 34, _ => rfl
  | 35, _ => rfl
  | j + 36, hj => exact absurd hj (by omega)
