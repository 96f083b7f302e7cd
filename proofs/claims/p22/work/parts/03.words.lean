abbrev ML_law : Mt := (yL_law, cL_law, 4, some .boolean)
abbrev MX1_mostEarned : Mt := (yX1_mostEarned, cX1_mostEarned, 12, some .long)
abbrev MJ9_min_7cf53 : Mt := (yJ9_min_7cf53, cJ9_min_7cf53, 2, some .int)
abbrev MX1_earnedBy : Mt := (yX1_earnedBy, cX1_earnedBy, 12, some .long)
abbrev MX8_at : Mt := (yX8_at, cX8_at, 2, some .int)
abbrev MX7_isOpen : Mt := (yX7_isOpen, cX7_isOpen, 4, some .boolean)
abbrev MX8_hundreds : Mt := (yX8_hundreds, cX8_hundreds, 4, some .long)
abbrev MX8_bit : Mt := (yX8_bit, cX8_bit, 1, some .int)
abbrev MJ9_max_f86c9 : Mt := (yJ9_max_f86c9, cJ9_max_f86c9, 4, some .long)
abbrev MX7_mostByOneLook : Mt := (yX7_mostByOneLook, cX7_mostByOneLook, 5, some .int)
abbrev MX4_readFact : Mt := (yX4_readFact, cX4_readFact, 3, none)
abbrev MX6_step : Mt := (yX6_step, cX6_step, 1, none)
abbrev MX4_readTest : Mt := (yX4_readTest, cX4_readTest, 5, none)
abbrev MX4_emit : Mt := (yX4_emit, cX4_emit, 2, none)
abbrev MX6_fail : Mt := (yX6_fail, cX6_fail, 2, none)
abbrev MX4_readComparison : Mt := (yX4_readComparison, cX4_readComparison, 2, none)
abbrev MX4_readSum : Mt := (yX4_readSum, cX4_readSum, 5, none)
abbrev MX4_readValue : Mt := (yX4_readValue, cX4_readValue, 3, none)
abbrev MX7_orderLooks : Mt := (yX7_orderLooks, cX7_orderLooks, 3, none)
abbrev MJ9_max_7cf53 : Mt := (yJ9_max_7cf53, cJ9_max_7cf53, 2, some .int)
abbrev MX8_put : Mt := (yX8_put, cX8_put, 3, none)
abbrev MX8_back : Mt := (yX8_back, cX8_back, 3, some .int)
abbrev MX5_copyFrom : Mt := (yX5_copyFrom, cX5_copyFrom, 2, none)
abbrev MX0_copyFrom : Mt := (yX0_copyFrom, cX0_copyFrom, 2, none)
abbrev MX8_day : Mt := (yX8_day, cX8_day, 4, some .int)
abbrev MX8_ruleForWork : Mt := (yX8_ruleForWork, cX8_ruleForWork, 3, some (.object "PaidMistakes$Rule"))
abbrev MX8_hasWork : Mt := (yX8_hasWork, cX8_hasWork, 1, some .boolean)
abbrev MX2_play : Mt := (yX2_play, cX2_play, 6, some .int)
abbrev MX2_nextFault : Mt := (yX2_nextFault, cX2_nextFault, 13, some .int)
abbrev MX0_gone : Mt := (yX0_gone, cX0_gone, 1, some .int)
abbrev MX2_reckon : Mt := (yX2_reckon, cX2_reckon, 10, some .long)
abbrev MX2_wordOf : Mt := (yX2_wordOf, cX2_wordOf, 4, some .long)
abbrev MJ6_bitCount_0f7a4 : Mt := (yJ6_bitCount_0f7a4, cJ6_bitCount_0f7a4, 1, some .int)
abbrev MX2_join : Mt := (yX2_join, cX2_join, 5, some .long)
abbrev MX2_compares : Mt := (yX2_compares, cX2_compares, 5, some .boolean)
abbrev MX2_lookClause : Mt := (yX2_lookClause, cX2_lookClause, 9, some .int)
abbrev MX2_stopsAt : Mt := (yX2_stopsAt, cX2_stopsAt, 8, some .boolean)
abbrev MX0_lookFor : Mt := (yX0_lookFor, cX0_lookFor, 3, some .boolean)
abbrev MX8_image : Mt := (yX8_image, cX8_image, 3, some .int)
abbrev MX8_mixed : Mt := (yX8_mixed, cX8_mixed, 7, some .int)
abbrev MX8_rests : Mt := (yX8_rests, cX8_rests, 5, some .int)
abbrev MJ9_abs_0f7a4 : Mt := (yJ9_abs_0f7a4, cJ9_abs_0f7a4, 1, some .int)
abbrev MX8_partOf : Mt := (yX8_partOf, cX8_partOf, 12, some .long)
abbrev MJ9_abs_067f4 : Mt := (yJ9_abs_067f4, cJ9_abs_067f4, 2, some .long)
abbrev MX8_rowMean : Mt := (yX8_rowMean, cX8_rowMean, 13, some .long)
abbrev MX8_would : Mt := (yX8_would, cX8_would, 5, some .int)
abbrev MJ0_coder_7d493 : Mt := (yJ0_coder_7d493, cJ0_coder_7d493, 1, some .byte)
abbrev MJ0_isLatin1_aae02 : Mt := (yJ0_isLatin1_aae02, cJ0_isLatin1_aae02, 1, some .boolean)
abbrev MJ3_checkIndex_8e157 : Mt := (yJ3_checkIndex_8e157, cJ3_checkIndex_8e157, 3, some .int)
abbrev MJ0_checkIndex_df160 : Mt := (yJ0_checkIndex_df160, cJ0_checkIndex_df160, 2, none)
abbrev MJ1_charAt_3b067 : Mt := (yJ1_charAt_3b067, cJ1_charAt_3b067, 2, some .char)
abbrev MJ0_length_8abf5 : Mt := (yJ0_length_8abf5, cJ0_length_8abf5, 1, some .int)
abbrev MJ0_charAt_5068e : Mt := (yJ0_charAt_5068e, cJ0_charAt_5068e, 2, some .char)
theorem t_1 : Cond.initialized RX8 ∈ TBg := tb_of (List.mem_of_getElem? (i := 1) (by decide +kernel)) (by decide +kernel)
theorem t_2 : Cond.initialized RX5 ∈ TBg := tb_of (List.mem_of_getElem? (i := 2) (by decide +kernel)) (by decide +kernel)
theorem t_3 : Cond.initialized RX7 ∈ TBg := tb_of (List.mem_of_getElem? (i := 3) (by decide +kernel)) (by decide +kernel)
theorem t_4 : Cond.initialized RX0 ∈ TBg := tb_of (List.mem_of_getElem? (i := 4) (by decide +kernel)) (by decide +kernel)
theorem t_5 : Cond.initialized RX4 ∈ TBg := tb_of (List.mem_of_getElem? (i := 5) (by decide +kernel)) (by decide +kernel)
theorem t_6 : Cond.initialized RX6 ∈ TBg := tb_of (List.mem_of_getElem? (i := 6) (by decide +kernel)) (by decide +kernel)
theorem t_7 : Cond.initialized RX2 ∈ TBg := tb_of (List.mem_of_getElem? (i := 7) (by decide +kernel)) (by decide +kernel)
theorem t_8 : Cond.initialized RX1 ∈ TBg := tb_of (List.mem_of_getElem? (i := 8) (by decide +kernel)) (by decide +kernel)
theorem t_10 : Cond.initialized RJ0 ∈ TBg := tb_of (List.mem_of_getElem? (i := 10) (by decide +kernel)) (by decide +kernel)
theorem t_11 : Cond.initialized RJ1 ∈ TBg := tb_of (List.mem_of_getElem? (i := 11) (by decide +kernel)) (by decide +kernel)
theorem t_12 : Cond.initialized RJ3 ∈ TBg := tb_of (List.mem_of_getElem? (i := 12) (by decide +kernel)) (by decide +kernel)
theorem t_14 : Cond.initialized RJ9 ∈ TBg := tb_of (List.mem_of_getElem? (i := 14) (by decide +kernel)) (by decide +kernel)
theorem t_17 : Cond.initialized RJ10 ∈ TBg := tb_of (List.mem_of_getElem? (i := 17) (by decide +kernel)) (by decide +kernel)
theorem t_18 : Cond.initialized RJ6 ∈ TBg := tb_of (List.mem_of_getElem? (i := 18) (by decide +kernel)) (by decide +kernel)
theorem t_38 : Cond.fieldLink RX1 33 "PaidMistakes$Work" "serial" "I" ∈ TBg := tb_of (List.mem_of_getElem? (i := 38) (by decide +kernel)) (by decide +kernel)
theorem t_44 : Cond.fieldLink RX7 65 "PaidMistakes$Work" "faults" "I" ∈ TBg := tb_of (List.mem_of_getElem? (i := 44) (by decide +kernel)) (by decide +kernel)
theorem t_45 : Cond.fieldLink RX1 40 "PaidMistakes$Work" "faults" "I" ∈ TBg := tb_of (List.mem_of_getElem? (i := 45) (by decide +kernel)) (by decide +kernel)
theorem t_46 : Cond.fieldLink RX2 29 "PaidMistakes$Work" "faults" "I" ∈ TBg := tb_of (List.mem_of_getElem? (i := 46) (by decide +kernel)) (by decide +kernel)
theorem t_47 : Cond.fieldLink RX8 102 "PaidMistakes$Work" "faults" "I" ∈ TBg := tb_of (List.mem_of_getElem? (i := 47) (by decide +kernel)) (by decide +kernel)
theorem t_56 : Cond.fieldLink RX2 93 "PaidMistakes$Work" "kindOf" "[I" ∈ TBg := tb_of (List.mem_of_getElem? (i := 56) (by decide +kernel)) (by decide +kernel)
theorem t_58 : Cond.fieldLink RX7 28 "PaidMistakes$Work" "minutes" "[I" ∈ TBg := tb_of (List.mem_of_getElem? (i := 58) (by decide +kernel)) (by decide +kernel)
theorem t_59 : Cond.fieldLink RX1 51 "PaidMistakes$Work" "minutes" "[I" ∈ TBg := tb_of (List.mem_of_getElem? (i := 59) (by decide +kernel)) (by decide +kernel)
theorem t_60 : Cond.fieldLink RX2 43 "PaidMistakes$Work" "minutes" "[I" ∈ TBg := tb_of (List.mem_of_getElem? (i := 60) (by decide +kernel)) (by decide +kernel)
theorem t_61 : Cond.fieldLink RX0 43 "PaidMistakes$Work" "minutes" "[I" ∈ TBg := tb_of (List.mem_of_getElem? (i := 61) (by decide +kernel)) (by decide +kernel)
theorem t_62 : Cond.fieldLink RX8 149 "PaidMistakes$Work" "minutes" "[I" ∈ TBg := tb_of (List.mem_of_getElem? (i := 62) (by decide +kernel)) (by decide +kernel)
theorem t_63 : Cond.fieldLink RX7 31 "PaidMistakes$Work" "odds" "[I" ∈ TBg := tb_of (List.mem_of_getElem? (i := 63) (by decide +kernel)) (by decide +kernel)
theorem t_64 : Cond.fieldLink RX1 65 "PaidMistakes$Work" "odds" "[I" ∈ TBg := tb_of (List.mem_of_getElem? (i := 64) (by decide +kernel)) (by decide +kernel)
theorem t_65 : Cond.fieldLink RX0 63 "PaidMistakes$Work" "odds" "[I" ∈ TBg := tb_of (List.mem_of_getElem? (i := 65) (by decide +kernel)) (by decide +kernel)
theorem t_66 : Cond.fieldLink RX2 99 "PaidMistakes$Work" "odds" "[I" ∈ TBg := tb_of (List.mem_of_getElem? (i := 66) (by decide +kernel)) (by decide +kernel)
theorem t_67 : Cond.fieldLink RX8 152 "PaidMistakes$Work" "odds" "[I" ∈ TBg := tb_of (List.mem_of_getElem? (i := 67) (by decide +kernel)) (by decide +kernel)
theorem t_68 : Cond.fieldLink RX7 34 "PaidMistakes$Work" "under" "[I" ∈ TBg := tb_of (List.mem_of_getElem? (i := 68) (by decide +kernel)) (by decide +kernel)
theorem t_70 : Cond.fieldLink RX7 37 "PaidMistakes$Work" "pay" "[I" ∈ TBg := tb_of (List.mem_of_getElem? (i := 70) (by decide +kernel)) (by decide +kernel)
theorem t_71 : Cond.fieldLink RX1 68 "PaidMistakes$Work" "pay" "[I" ∈ TBg := tb_of (List.mem_of_getElem? (i := 71) (by decide +kernel)) (by decide +kernel)
theorem t_72 : Cond.fieldLink RX0 70 "PaidMistakes$Work" "pay" "[I" ∈ TBg := tb_of (List.mem_of_getElem? (i := 72) (by decide +kernel)) (by decide +kernel)
theorem t_73 : Cond.fieldLink RX2 96 "PaidMistakes$Work" "pay" "[I" ∈ TBg := tb_of (List.mem_of_getElem? (i := 73) (by decide +kernel)) (by decide +kernel)
theorem t_74 : Cond.fieldLink RX8 259 "PaidMistakes$Work" "pay" "[I" ∈ TBg := tb_of (List.mem_of_getElem? (i := 74) (by decide +kernel)) (by decide +kernel)
theorem t_78 : Cond.fieldLink RX7 46 "PaidMistakes$Work" "oneLook" "[I" ∈ TBg := tb_of (List.mem_of_getElem? (i := 78) (by decide +kernel)) (by decide +kernel)
theorem t_79 : Cond.fieldLink RX7 49 "PaidMistakes$Work" "byOneLook" "[I" ∈ TBg := tb_of (List.mem_of_getElem? (i := 79) (by decide +kernel)) (by decide +kernel)
theorem t_80 : Cond.fieldLink RX1 24 "PaidMistakes$Work" "longest" "I" ∈ TBg := tb_of (List.mem_of_getElem? (i := 80) (by decide +kernel)) (by decide +kernel)
theorem t_81 : Cond.fieldLink RX7 75 "PaidMistakes$Work" "longest" "I" ∈ TBg := tb_of (List.mem_of_getElem? (i := 81) (by decide +kernel)) (by decide +kernel)
theorem t_82 : Cond.laysFinal RX7 "PaidMistakes$Work" "serial" "I" ∈ TBg := tb_of (List.mem_of_getElem? (i := 82) (by decide +kernel)) (by decide +kernel)
theorem t_84 : Cond.lays RX7 "PaidMistakes$Work" "time" "I" ∈ TBg := tb_of (List.mem_of_getElem? (i := 84) (by decide +kernel)) (by decide +kernel)
theorem t_86 : Cond.lays RX7 "PaidMistakes$Work" "kinds" "I" ∈ TBg := tb_of (List.mem_of_getElem? (i := 86) (by decide +kernel)) (by decide +kernel)
theorem t_88 : Cond.lays RX7 "PaidMistakes$Work" "faults" "I" ∈ TBg := tb_of (List.mem_of_getElem? (i := 88) (by decide +kernel)) (by decide +kernel)
theorem t_90 : Cond.lays RX7 "PaidMistakes$Work" "timeTold" "Z" ∈ TBg := tb_of (List.mem_of_getElem? (i := 90) (by decide +kernel)) (by decide +kernel)
theorem t_92 : Cond.laysFinal RX7 "PaidMistakes$Work" "kindPay" "[I" ∈ TBg := tb_of (List.mem_of_getElem? (i := 92) (by decide +kernel)) (by decide +kernel)
theorem t_94 : Cond.laysFinal RX7 "PaidMistakes$Work" "kindHide" "[I" ∈ TBg := tb_of (List.mem_of_getElem? (i := 94) (by decide +kernel)) (by decide +kernel)
theorem t_96 : Cond.laysFinal RX7 "PaidMistakes$Work" "kindMend" "[I" ∈ TBg := tb_of (List.mem_of_getElem? (i := 96) (by decide +kernel)) (by decide +kernel)
theorem t_98 : Cond.laysFinal RX7 "PaidMistakes$Work" "kindOf" "[I" ∈ TBg := tb_of (List.mem_of_getElem? (i := 98) (by decide +kernel)) (by decide +kernel)
theorem t_100 : Cond.laysFinal RX7 "PaidMistakes$Work" "minutes" "[I" ∈ TBg := tb_of (List.mem_of_getElem? (i := 100) (by decide +kernel)) (by decide +kernel)
theorem t_102 : Cond.laysFinal RX7 "PaidMistakes$Work" "odds" "[I" ∈ TBg := tb_of (List.mem_of_getElem? (i := 102) (by decide +kernel)) (by decide +kernel)
theorem t_104 : Cond.laysFinal RX7 "PaidMistakes$Work" "under" "[I" ∈ TBg := tb_of (List.mem_of_getElem? (i := 104) (by decide +kernel)) (by decide +kernel)
theorem t_106 : Cond.laysFinal RX7 "PaidMistakes$Work" "pay" "[I" ∈ TBg := tb_of (List.mem_of_getElem? (i := 106) (by decide +kernel)) (by decide +kernel)
theorem t_108 : Cond.laysFinal RX7 "PaidMistakes$Work" "hide" "[I" ∈ TBg := tb_of (List.mem_of_getElem? (i := 108) (by decide +kernel)) (by decide +kernel)
theorem t_110 : Cond.laysFinal RX7 "PaidMistakes$Work" "mend" "[I" ∈ TBg := tb_of (List.mem_of_getElem? (i := 110) (by decide +kernel)) (by decide +kernel)
theorem t_112 : Cond.laysFinal RX7 "PaidMistakes$Work" "oneLook" "[I" ∈ TBg := tb_of (List.mem_of_getElem? (i := 112) (by decide +kernel)) (by decide +kernel)
theorem t_114 : Cond.laysFinal RX7 "PaidMistakes$Work" "byOneLook" "[I" ∈ TBg := tb_of (List.mem_of_getElem? (i := 114) (by decide +kernel)) (by decide +kernel)
theorem t_116 : Cond.lays RX7 "PaidMistakes$Work" "longest" "I" ∈ TBg := tb_of (List.mem_of_getElem? (i := 116) (by decide +kernel)) (by decide +kernel)
theorem t_130 : Cond.fieldLink RX0 15 "PaidMistakes$Day" "left" "I" ∈ TBg := tb_of (List.mem_of_getElem? (i := 130) (by decide +kernel)) (by decide +kernel)
theorem t_131 : Cond.fieldLink RX2 51 "PaidMistakes$Day" "left" "I" ∈ TBg := tb_of (List.mem_of_getElem? (i := 131) (by decide +kernel)) (by decide +kernel)
theorem t_133 : Cond.fieldLink RX0 19 "PaidMistakes$Day" "earned" "I" ∈ TBg := tb_of (List.mem_of_getElem? (i := 133) (by decide +kernel)) (by decide +kernel)
theorem t_134 : Cond.fieldLink RX2 114 "PaidMistakes$Day" "earned" "I" ∈ TBg := tb_of (List.mem_of_getElem? (i := 134) (by decide +kernel)) (by decide +kernel)
theorem t_135 : Cond.fieldLink RX8 199 "PaidMistakes$Day" "earned" "I" ∈ TBg := tb_of (List.mem_of_getElem? (i := 135) (by decide +kernel)) (by decide +kernel)
theorem t_136 : Cond.fieldLink RX0 22 "PaidMistakes$Day" "found" "I" ∈ TBg := tb_of (List.mem_of_getElem? (i := 136) (by decide +kernel)) (by decide +kernel)
theorem t_137 : Cond.fieldLink RX2 102 "PaidMistakes$Day" "found" "I" ∈ TBg := tb_of (List.mem_of_getElem? (i := 137) (by decide +kernel)) (by decide +kernel)
theorem t_139 : Cond.fieldLink RX0 25 "PaidMistakes$Day" "mended" "I" ∈ TBg := tb_of (List.mem_of_getElem? (i := 139) (by decide +kernel)) (by decide +kernel)
theorem t_142 : Cond.fieldLink RX0 28 "PaidMistakes$Day" "x" "I" ∈ TBg := tb_of (List.mem_of_getElem? (i := 142) (by decide +kernel)) (by decide +kernel)
theorem t_144 : Cond.fieldLink RX0 9 "PaidMistakes$Day" "tries" "[I" ∈ TBg := tb_of (List.mem_of_getElem? (i := 144) (by decide +kernel)) (by decide +kernel)
theorem t_145 : Cond.fieldLink RX2 111 "PaidMistakes$Day" "tries" "[I" ∈ TBg := tb_of (List.mem_of_getElem? (i := 145) (by decide +kernel)) (by decide +kernel)
theorem t_147 : Cond.lays RX0 "PaidMistakes$Day" "left" "I" ∈ TBg := tb_of (List.mem_of_getElem? (i := 147) (by decide +kernel)) (by decide +kernel)
theorem t_149 : Cond.lays RX0 "PaidMistakes$Day" "earned" "I" ∈ TBg := tb_of (List.mem_of_getElem? (i := 149) (by decide +kernel)) (by decide +kernel)
theorem t_151 : Cond.lays RX0 "PaidMistakes$Day" "found" "I" ∈ TBg := tb_of (List.mem_of_getElem? (i := 151) (by decide +kernel)) (by decide +kernel)
theorem t_153 : Cond.lays RX0 "PaidMistakes$Day" "mended" "I" ∈ TBg := tb_of (List.mem_of_getElem? (i := 153) (by decide +kernel)) (by decide +kernel)
theorem t_155 : Cond.lays RX0 "PaidMistakes$Day" "x" "I" ∈ TBg := tb_of (List.mem_of_getElem? (i := 155) (by decide +kernel)) (by decide +kernel)
theorem t_157 : Cond.laysFinal RX0 "PaidMistakes$Day" "tries" "[I" ∈ TBg := tb_of (List.mem_of_getElem? (i := 157) (by decide +kernel)) (by decide +kernel)
theorem t_160 : Cond.fieldLink RX5 9 "PaidMistakes$State" "work" "LPaidMistakes$Work;" ∈ TBg := tb_of (List.mem_of_getElem? (i := 160) (by decide +kernel)) (by decide +kernel)
theorem t_161 : Cond.fieldLink RX8 119 "PaidMistakes$State" "work" "LPaidMistakes$Work;" ∈ TBg := tb_of (List.mem_of_getElem? (i := 161) (by decide +kernel)) (by decide +kernel)
theorem t_162 : Cond.fieldLink RX5 18 "PaidMistakes$State" "today" "LPaidMistakes$Day;" ∈ TBg := tb_of (List.mem_of_getElem? (i := 162) (by decide +kernel)) (by decide +kernel)
theorem t_163 : Cond.fieldLink RX8 143 "PaidMistakes$State" "today" "LPaidMistakes$Day;" ∈ TBg := tb_of (List.mem_of_getElem? (i := 163) (by decide +kernel)) (by decide +kernel)
theorem t_164 : Cond.fieldLink RX5 33 "PaidMistakes$State" "masterCoins" "I" ∈ TBg := tb_of (List.mem_of_getElem? (i := 164) (by decide +kernel)) (by decide +kernel)
theorem t_166 : Cond.fieldLink RX5 37 "PaidMistakes$State" "earnedBefore" "I" ∈ TBg := tb_of (List.mem_of_getElem? (i := 166) (by decide +kernel)) (by decide +kernel)
theorem t_168 : Cond.fieldLink RX5 40 "PaidMistakes$State" "days" "I" ∈ TBg := tb_of (List.mem_of_getElem? (i := 168) (by decide +kernel)) (by decide +kernel)
theorem t_169 : Cond.fieldLink RX8 193 "PaidMistakes$State" "days" "I" ∈ TBg := tb_of (List.mem_of_getElem? (i := 169) (by decide +kernel)) (by decide +kernel)
theorem t_170 : Cond.fieldLink RX5 22 "PaidMistakes$State" "row" "[I" ∈ TBg := tb_of (List.mem_of_getElem? (i := 170) (by decide +kernel)) (by decide +kernel)
theorem t_171 : Cond.fieldLink RX8 240 "PaidMistakes$State" "row" "[I" ∈ TBg := tb_of (List.mem_of_getElem? (i := 171) (by decide +kernel)) (by decide +kernel)
theorem t_172 : Cond.fieldLink RX5 49 "PaidMistakes$State" "rowLength" "I" ∈ TBg := tb_of (List.mem_of_getElem? (i := 172) (by decide +kernel)) (by decide +kernel)
theorem t_173 : Cond.fieldLink RX8 187 "PaidMistakes$State" "rowLength" "I" ∈ TBg := tb_of (List.mem_of_getElem? (i := 173) (by decide +kernel)) (by decide +kernel)
theorem t_174 : Cond.fieldLink RX5 26 "PaidMistakes$State" "game" "[I" ∈ TBg := tb_of (List.mem_of_getElem? (i := 174) (by decide +kernel)) (by decide +kernel)
theorem t_175 : Cond.fieldLink RX8 283 "PaidMistakes$State" "game" "[I" ∈ TBg := tb_of (List.mem_of_getElem? (i := 175) (by decide +kernel)) (by decide +kernel)
theorem t_176 : Cond.lays RX5 "PaidMistakes$State" "work" "LPaidMistakes$Work;" ∈ TBg := tb_of (List.mem_of_getElem? (i := 176) (by decide +kernel)) (by decide +kernel)
theorem t_178 : Cond.laysFinal RX5 "PaidMistakes$State" "today" "LPaidMistakes$Day;" ∈ TBg := tb_of (List.mem_of_getElem? (i := 178) (by decide +kernel)) (by decide +kernel)
theorem t_180 : Cond.lays RX5 "PaidMistakes$State" "masterCoins" "I" ∈ TBg := tb_of (List.mem_of_getElem? (i := 180) (by decide +kernel)) (by decide +kernel)
theorem t_182 : Cond.lays RX5 "PaidMistakes$State" "earnedBefore" "I" ∈ TBg := tb_of (List.mem_of_getElem? (i := 182) (by decide +kernel)) (by decide +kernel)
theorem t_184 : Cond.lays RX5 "PaidMistakes$State" "days" "I" ∈ TBg := tb_of (List.mem_of_getElem? (i := 184) (by decide +kernel)) (by decide +kernel)
theorem t_186 : Cond.laysFinal RX5 "PaidMistakes$State" "row" "[I" ∈ TBg := tb_of (List.mem_of_getElem? (i := 186) (by decide +kernel)) (by decide +kernel)
theorem t_188 : Cond.lays RX5 "PaidMistakes$State" "rowLength" "I" ∈ TBg := tb_of (List.mem_of_getElem? (i := 188) (by decide +kernel)) (by decide +kernel)
theorem t_190 : Cond.laysFinal RX5 "PaidMistakes$State" "game" "[I" ∈ TBg := tb_of (List.mem_of_getElem? (i := 190) (by decide +kernel)) (by decide +kernel)
theorem t_208 : Cond.fieldLink RX6 9 "PaidMistakes$Text" "codes" "[I" ∈ TBg := tb_of (List.mem_of_getElem? (i := 208) (by decide +kernel)) (by decide +kernel)
theorem t_209 : Cond.fieldLink RX6 15 "PaidMistakes$Text" "places" "[I" ∈ TBg := tb_of (List.mem_of_getElem? (i := 209) (by decide +kernel)) (by decide +kernel)
theorem t_210 : Cond.fieldLink RX6 18 "PaidMistakes$Text" "numbers" "[I" ∈ TBg := tb_of (List.mem_of_getElem? (i := 210) (by decide +kernel)) (by decide +kernel)
theorem t_211 : Cond.fieldLink RX6 21 "PaidMistakes$Text" "tokens" "I" ∈ TBg := tb_of (List.mem_of_getElem? (i := 211) (by decide +kernel)) (by decide +kernel)
theorem t_212 : Cond.fieldLink RX6 36 "PaidMistakes$Text" "next" "I" ∈ TBg := tb_of (List.mem_of_getElem? (i := 212) (by decide +kernel)) (by decide +kernel)
theorem t_214 : Cond.fieldLink RX4 66 "PaidMistakes$Text" "code" "I" ∈ TBg := tb_of (List.mem_of_getElem? (i := 214) (by decide +kernel)) (by decide +kernel)
theorem t_215 : Cond.fieldLink RX6 112 "PaidMistakes$Text" "code" "I" ∈ TBg := tb_of (List.mem_of_getElem? (i := 215) (by decide +kernel)) (by decide +kernel)
theorem t_216 : Cond.fieldLink RX6 115 "PaidMistakes$Text" "place" "I" ∈ TBg := tb_of (List.mem_of_getElem? (i := 216) (by decide +kernel)) (by decide +kernel)
theorem t_217 : Cond.fieldLink RX4 100 "PaidMistakes$Text" "number" "I" ∈ TBg := tb_of (List.mem_of_getElem? (i := 217) (by decide +kernel)) (by decide +kernel)
theorem t_218 : Cond.fieldLink RX6 118 "PaidMistakes$Text" "number" "I" ∈ TBg := tb_of (List.mem_of_getElem? (i := 218) (by decide +kernel)) (by decide +kernel)
theorem t_219 : Cond.fieldLink RX6 33 "PaidMistakes$Text" "fault" "I" ∈ TBg := tb_of (List.mem_of_getElem? (i := 219) (by decide +kernel)) (by decide +kernel)
theorem t_220 : Cond.fieldLink RX4 82 "PaidMistakes$Text" "fault" "I" ∈ TBg := tb_of (List.mem_of_getElem? (i := 220) (by decide +kernel)) (by decide +kernel)
theorem t_223 : Cond.laysFinal RX6 "PaidMistakes$Text" "codes" "[I" ∈ TBg := tb_of (List.mem_of_getElem? (i := 223) (by decide +kernel)) (by decide +kernel)
theorem t_225 : Cond.laysFinal RX6 "PaidMistakes$Text" "places" "[I" ∈ TBg := tb_of (List.mem_of_getElem? (i := 225) (by decide +kernel)) (by decide +kernel)
theorem t_227 : Cond.laysFinal RX6 "PaidMistakes$Text" "numbers" "[I" ∈ TBg := tb_of (List.mem_of_getElem? (i := 227) (by decide +kernel)) (by decide +kernel)
theorem t_229 : Cond.lays RX6 "PaidMistakes$Text" "tokens" "I" ∈ TBg := tb_of (List.mem_of_getElem? (i := 229) (by decide +kernel)) (by decide +kernel)
theorem t_231 : Cond.lays RX6 "PaidMistakes$Text" "next" "I" ∈ TBg := tb_of (List.mem_of_getElem? (i := 231) (by decide +kernel)) (by decide +kernel)
theorem t_233 : Cond.lays RX6 "PaidMistakes$Text" "code" "I" ∈ TBg := tb_of (List.mem_of_getElem? (i := 233) (by decide +kernel)) (by decide +kernel)
theorem t_235 : Cond.lays RX6 "PaidMistakes$Text" "place" "I" ∈ TBg := tb_of (List.mem_of_getElem? (i := 235) (by decide +kernel)) (by decide +kernel)
theorem t_237 : Cond.lays RX6 "PaidMistakes$Text" "number" "I" ∈ TBg := tb_of (List.mem_of_getElem? (i := 237) (by decide +kernel)) (by decide +kernel)
theorem t_239 : Cond.lays RX6 "PaidMistakes$Text" "fault" "I" ∈ TBg := tb_of (List.mem_of_getElem? (i := 239) (by decide +kernel)) (by decide +kernel)
theorem t_242 : Cond.fieldLink RX4 12 "PaidMistakes$RuleReader" "text" "LPaidMistakes$Text;" ∈ TBg := tb_of (List.mem_of_getElem? (i := 242) (by decide +kernel)) (by decide +kernel)
theorem t_244 : Cond.fieldLink RX4 18 "PaidMistakes$RuleReader" "code" "[I" ∈ TBg := tb_of (List.mem_of_getElem? (i := 244) (by decide +kernel)) (by decide +kernel)
theorem t_245 : Cond.fieldLink RX4 31 "PaidMistakes$RuleReader" "length" "I" ∈ TBg := tb_of (List.mem_of_getElem? (i := 245) (by decide +kernel)) (by decide +kernel)
theorem t_246 : Cond.fieldLink RX4 35 "PaidMistakes$RuleReader" "pieces" "I" ∈ TBg := tb_of (List.mem_of_getElem? (i := 246) (by decide +kernel)) (by decide +kernel)
theorem t_251 : Cond.laysFinal RX4 "PaidMistakes$RuleReader" "text" "LPaidMistakes$Text;" ∈ TBg := tb_of (List.mem_of_getElem? (i := 251) (by decide +kernel)) (by decide +kernel)
theorem t_253 : Cond.laysFinal RX4 "PaidMistakes$RuleReader" "code" "[I" ∈ TBg := tb_of (List.mem_of_getElem? (i := 253) (by decide +kernel)) (by decide +kernel)
theorem t_255 : Cond.lays RX4 "PaidMistakes$RuleReader" "length" "I" ∈ TBg := tb_of (List.mem_of_getElem? (i := 255) (by decide +kernel)) (by decide +kernel)
theorem t_257 : Cond.lays RX4 "PaidMistakes$RuleReader" "pieces" "I" ∈ TBg := tb_of (List.mem_of_getElem? (i := 257) (by decide +kernel)) (by decide +kernel)
theorem t_259 : Cond.lays RX4 "PaidMistakes$RuleReader" "clauses" "I" ∈ TBg := tb_of (List.mem_of_getElem? (i := 259) (by decide +kernel)) (by decide +kernel)
theorem t_261 : Cond.laysFinal RX4 "PaidMistakes$RuleReader" "begin" "[I" ∈ TBg := tb_of (List.mem_of_getElem? (i := 261) (by decide +kernel)) (by decide +kernel)
theorem t_263 : Cond.laysFinal RX4 "PaidMistakes$RuleReader" "middle" "[I" ∈ TBg := tb_of (List.mem_of_getElem? (i := 263) (by decide +kernel)) (by decide +kernel)
theorem t_265 : Cond.laysFinal RX4 "PaidMistakes$RuleReader" "finish" "[I" ∈ TBg := tb_of (List.mem_of_getElem? (i := 265) (by decide +kernel)) (by decide +kernel)
theorem t_274 : Cond.fieldLink RX2 9 "PaidMistakes$Player" "stack" "[J" ∈ TBg := tb_of (List.mem_of_getElem? (i := 274) (by decide +kernel)) (by decide +kernel)
theorem t_275 : Cond.laysFinal RX2 "PaidMistakes$Player" "stack" "[J" ∈ TBg := tb_of (List.mem_of_getElem? (i := 275) (by decide +kernel)) (by decide +kernel)
theorem t_285 : Cond.fieldLink RX1 11 "PaidMistakes$Planner" "keys" "[J" ∈ TBg := tb_of (List.mem_of_getElem? (i := 285) (by decide +kernel)) (by decide +kernel)
theorem t_286 : Cond.fieldLink RX1 15 "PaidMistakes$Planner" "kept" "[J" ∈ TBg := tb_of (List.mem_of_getElem? (i := 286) (by decide +kernel)) (by decide +kernel)
theorem t_291 : Cond.laysFinal RX1 "PaidMistakes$Planner" "keys" "[J" ∈ TBg := tb_of (List.mem_of_getElem? (i := 291) (by decide +kernel)) (by decide +kernel)
theorem t_293 : Cond.laysFinal RX1 "PaidMistakes$Planner" "kept" "[J" ∈ TBg := tb_of (List.mem_of_getElem? (i := 293) (by decide +kernel)) (by decide +kernel)
theorem t_295 : Cond.lays RX1 "PaidMistakes$Planner" "setToMend" "I" ∈ TBg := tb_of (List.mem_of_getElem? (i := 295) (by decide +kernel)) (by decide +kernel)
theorem t_297 : Cond.lays RX1 "PaidMistakes$Planner" "meanOfSet" "J" ∈ TBg := tb_of (List.mem_of_getElem? (i := 297) (by decide +kernel)) (by decide +kernel)
theorem t_302 : Cond.fieldLink RX8 19 "PaidMistakes" "rules" "[LPaidMistakes$Rule;" ∈ TBg := tb_of (List.mem_of_getElem? (i := 302) (by decide +kernel)) (by decide +kernel)
theorem t_303 : Cond.fieldLink RX8 23 "PaidMistakes" "ruleCount" "I" ∈ TBg := tb_of (List.mem_of_getElem? (i := 303) (by decide +kernel)) (by decide +kernel)
theorem t_305 : Cond.fieldLink RX8 39 "PaidMistakes" "now" "LPaidMistakes$State;" ∈ TBg := tb_of (List.mem_of_getElem? (i := 305) (by decide +kernel)) (by decide +kernel)
theorem t_306 : Cond.fieldLink RX8 43 "PaidMistakes" "images" "[LPaidMistakes$State;" ∈ TBg := tb_of (List.mem_of_getElem? (i := 306) (by decide +kernel)) (by decide +kernel)
theorem t_309 : Cond.fieldLink RX8 64 "PaidMistakes" "player" "LPaidMistakes$Player;" ∈ TBg := tb_of (List.mem_of_getElem? (i := 309) (by decide +kernel)) (by decide +kernel)
theorem t_311 : Cond.laysFinal RX8 "PaidMistakes" "tape" "[I" ∈ TBg := tb_of (List.mem_of_getElem? (i := 311) (by decide +kernel)) (by decide +kernel)
theorem t_313 : Cond.lays RX8 "PaidMistakes" "tapeLength" "I" ∈ TBg := tb_of (List.mem_of_getElem? (i := 313) (by decide +kernel)) (by decide +kernel)
theorem t_315 : Cond.laysFinal RX8 "PaidMistakes" "rules" "[LPaidMistakes$Rule;" ∈ TBg := tb_of (List.mem_of_getElem? (i := 315) (by decide +kernel)) (by decide +kernel)
theorem t_317 : Cond.lays RX8 "PaidMistakes" "ruleCount" "I" ∈ TBg := tb_of (List.mem_of_getElem? (i := 317) (by decide +kernel)) (by decide +kernel)
theorem t_319 : Cond.lays RX8 "PaidMistakes" "worksTold" "I" ∈ TBg := tb_of (List.mem_of_getElem? (i := 319) (by decide +kernel)) (by decide +kernel)
theorem t_321 : Cond.laysFinal RX8 "PaidMistakes" "now" "LPaidMistakes$State;" ∈ TBg := tb_of (List.mem_of_getElem? (i := 321) (by decide +kernel)) (by decide +kernel)
theorem t_323 : Cond.laysFinal RX8 "PaidMistakes" "images" "[LPaidMistakes$State;" ∈ TBg := tb_of (List.mem_of_getElem? (i := 323) (by decide +kernel)) (by decide +kernel)
theorem t_325 : Cond.laysFinal RX8 "PaidMistakes" "trial" "LPaidMistakes$Day;" ∈ TBg := tb_of (List.mem_of_getElem? (i := 325) (by decide +kernel)) (by decide +kernel)
theorem t_327 : Cond.laysFinal RX8 "PaidMistakes" "ruleReader" "LPaidMistakes$RuleReader;" ∈ TBg := tb_of (List.mem_of_getElem? (i := 327) (by decide +kernel)) (by decide +kernel)
theorem t_329 : Cond.laysFinal RX8 "PaidMistakes" "player" "LPaidMistakes$Player;" ∈ TBg := tb_of (List.mem_of_getElem? (i := 329) (by decide +kernel)) (by decide +kernel)
theorem t_331 : Cond.laysFinal RX8 "PaidMistakes" "planner" "LPaidMistakes$Planner;" ∈ TBg := tb_of (List.mem_of_getElem? (i := 331) (by decide +kernel)) (by decide +kernel)
theorem t_343 : Cond.static yX8_put ∈ TBg := tb_of (List.mem_of_getElem? (i := 343) (by decide +kernel)) (by decide +kernel)
theorem t_344 : cw MX8_put ∈ TBg := tb_of (List.mem_of_getElem? (i := 344) (by decide +kernel)) (by decide +kernel)
theorem t_362 : Cond.static yX8_at ∈ TBg := tb_of (List.mem_of_getElem? (i := 362) (by decide +kernel)) (by decide +kernel)
theorem t_363 : cw MX8_at ∈ TBg := tb_of (List.mem_of_getElem? (i := 363) (by decide +kernel)) (by decide +kernel)
theorem t_393 : Cond.methodLink RJ0 335 yJ0_coder_7d493 ∈ TBg := tb_of (List.mem_of_getElem? (i := 393) (by decide +kernel)) (by decide +kernel)
theorem t_394 : Cond.instanceMethod yJ0_coder_7d493 ∈ TBg := tb_of (List.mem_of_getElem? (i := 394) (by decide +kernel)) (by decide +kernel)
theorem t_395 : Cond.selects RJ0 yJ0_coder_7d493 yJ0_coder_7d493 ∈ TBg := tb_of (List.mem_of_getElem? (i := 395) (by decide +kernel)) (by decide +kernel)
theorem t_396 : cw MJ0_coder_7d493 ∈ TBg := tb_of (List.mem_of_getElem? (i := 396) (by decide +kernel)) (by decide +kernel)
theorem t_397 : Cond.fieldLink RJ0 38 "java/lang/String" "COMPACT_STRINGS" "Z" ∈ TBg := tb_of (List.mem_of_getElem? (i := 397) (by decide +kernel)) (by decide +kernel)
theorem t_403 : Cond.methodLink RJ0 492 yJ0_isLatin1_aae02 ∈ TBg := tb_of (List.mem_of_getElem? (i := 403) (by decide +kernel)) (by decide +kernel)
theorem t_404 : Cond.instanceMethod yJ0_isLatin1_aae02 ∈ TBg := tb_of (List.mem_of_getElem? (i := 404) (by decide +kernel)) (by decide +kernel)
theorem t_405 : Cond.selects RJ0 yJ0_isLatin1_aae02 yJ0_isLatin1_aae02 ∈ TBg := tb_of (List.mem_of_getElem? (i := 405) (by decide +kernel)) (by decide +kernel)
theorem t_406 : cw MJ0_isLatin1_aae02 ∈ TBg := tb_of (List.mem_of_getElem? (i := 406) (by decide +kernel)) (by decide +kernel)
theorem t_407 : Cond.methodLink RJ0 495 yJ1_charAt_3b067 ∈ TBg := tb_of (List.mem_of_getElem? (i := 407) (by decide +kernel)) (by decide +kernel)
theorem t_408 : Cond.static yJ1_charAt_3b067 ∈ TBg := tb_of (List.mem_of_getElem? (i := 408) (by decide +kernel)) (by decide +kernel)
theorem t_409 : cw MJ1_charAt_3b067 ∈ TBg := tb_of (List.mem_of_getElem? (i := 409) (by decide +kernel)) (by decide +kernel)
theorem t_410 : Cond.methodLink RJ1 9 yJ0_checkIndex_df160 ∈ TBg := tb_of (List.mem_of_getElem? (i := 410) (by decide +kernel)) (by decide +kernel)
theorem t_411 : Cond.static yJ0_checkIndex_df160 ∈ TBg := tb_of (List.mem_of_getElem? (i := 411) (by decide +kernel)) (by decide +kernel)
theorem t_412 : cw MJ0_checkIndex_df160 ∈ TBg := tb_of (List.mem_of_getElem? (i := 412) (by decide +kernel)) (by decide +kernel)
theorem t_413 : Cond.fieldLink RJ0 1053 "jdk/internal/util/Preconditions" "SIOOBE_FORMATTER" "Ljava/util/function/BiFunction;" ∈ TBg := tb_of (List.mem_of_getElem? (i := 413) (by decide +kernel)) (by decide +kernel)
theorem t_415 : Cond.methodLink RJ0 1059 yJ3_checkIndex_8e157 ∈ TBg := tb_of (List.mem_of_getElem? (i := 415) (by decide +kernel)) (by decide +kernel)
theorem t_416 : Cond.static yJ3_checkIndex_8e157 ∈ TBg := tb_of (List.mem_of_getElem? (i := 416) (by decide +kernel)) (by decide +kernel)
theorem t_417 : cw MJ3_checkIndex_8e157 ∈ TBg := tb_of (List.mem_of_getElem? (i := 417) (by decide +kernel)) (by decide +kernel)
theorem t_457 : Cond.instanceMethod yX6_step ∈ TBg := tb_of (List.mem_of_getElem? (i := 457) (by decide +kernel)) (by decide +kernel)
theorem t_458 : Cond.selects RX6 yX6_step yX6_step ∈ TBg := tb_of (List.mem_of_getElem? (i := 458) (by decide +kernel)) (by decide +kernel)
theorem t_459 : cw MX6_step ∈ TBg := tb_of (List.mem_of_getElem? (i := 459) (by decide +kernel)) (by decide +kernel)
theorem t_469 : Cond.instanceMethod yX6_fail ∈ TBg := tb_of (List.mem_of_getElem? (i := 469) (by decide +kernel)) (by decide +kernel)
theorem t_470 : Cond.selects RX6 yX6_fail yX6_fail ∈ TBg := tb_of (List.mem_of_getElem? (i := 470) (by decide +kernel)) (by decide +kernel)
theorem t_471 : cw MX6_fail ∈ TBg := tb_of (List.mem_of_getElem? (i := 471) (by decide +kernel)) (by decide +kernel)
theorem t_496 : Cond.methodLink RX7 82 yJ9_max_7cf53 ∈ TBg := tb_of (List.mem_of_getElem? (i := 496) (by decide +kernel)) (by decide +kernel)
theorem t_497 : Cond.static yJ9_max_7cf53 ∈ TBg := tb_of (List.mem_of_getElem? (i := 497) (by decide +kernel)) (by decide +kernel)
theorem t_498 : cw MJ9_max_7cf53 ∈ TBg := tb_of (List.mem_of_getElem? (i := 498) (by decide +kernel)) (by decide +kernel)
theorem t_523 : Cond.methodLink RX4 68 yX6_fail ∈ TBg := tb_of (List.mem_of_getElem? (i := 523) (by decide +kernel)) (by decide +kernel)
theorem t_524 : Cond.methodLink RX4 72 yX6_step ∈ TBg := tb_of (List.mem_of_getElem? (i := 524) (by decide +kernel)) (by decide +kernel)
theorem t_526 : Cond.methodLink RX4 79 yX4_readSum ∈ TBg := tb_of (List.mem_of_getElem? (i := 526) (by decide +kernel)) (by decide +kernel)
theorem t_528 : Cond.instanceMethod yX4_readSum ∈ TBg := tb_of (List.mem_of_getElem? (i := 528) (by decide +kernel)) (by decide +kernel)
theorem t_529 : cw MX4_readSum ∈ TBg := tb_of (List.mem_of_getElem? (i := 529) (by decide +kernel)) (by decide +kernel)
theorem t_530 : Cond.methodLink RX4 97 yX4_readValue ∈ TBg := tb_of (List.mem_of_getElem? (i := 530) (by decide +kernel)) (by decide +kernel)
theorem t_532 : Cond.instanceMethod yX4_readValue ∈ TBg := tb_of (List.mem_of_getElem? (i := 532) (by decide +kernel)) (by decide +kernel)
theorem t_533 : cw MX4_readValue ∈ TBg := tb_of (List.mem_of_getElem? (i := 533) (by decide +kernel)) (by decide +kernel)
theorem t_534 : Cond.methodLink RX4 91 yX4_emit ∈ TBg := tb_of (List.mem_of_getElem? (i := 534) (by decide +kernel)) (by decide +kernel)
theorem t_536 : Cond.instanceMethod yX4_emit ∈ TBg := tb_of (List.mem_of_getElem? (i := 536) (by decide +kernel)) (by decide +kernel)
theorem t_537 : cw MX4_emit ∈ TBg := tb_of (List.mem_of_getElem? (i := 537) (by decide +kernel)) (by decide +kernel)
theorem t_538 : Cond.methodLink RX4 85 yX4_readTest ∈ TBg := tb_of (List.mem_of_getElem? (i := 538) (by decide +kernel)) (by decide +kernel)
theorem t_540 : Cond.instanceMethod yX4_readTest ∈ TBg := tb_of (List.mem_of_getElem? (i := 540) (by decide +kernel)) (by decide +kernel)
theorem t_541 : cw MX4_readTest ∈ TBg := tb_of (List.mem_of_getElem? (i := 541) (by decide +kernel)) (by decide +kernel)
theorem t_542 : Cond.methodLink RX4 88 yX4_readFact ∈ TBg := tb_of (List.mem_of_getElem? (i := 542) (by decide +kernel)) (by decide +kernel)
theorem t_544 : Cond.instanceMethod yX4_readFact ∈ TBg := tb_of (List.mem_of_getElem? (i := 544) (by decide +kernel)) (by decide +kernel)
theorem t_545 : cw MX4_readFact ∈ TBg := tb_of (List.mem_of_getElem? (i := 545) (by decide +kernel)) (by decide +kernel)
theorem t_546 : Cond.methodLink RX4 94 yX4_readComparison ∈ TBg := tb_of (List.mem_of_getElem? (i := 546) (by decide +kernel)) (by decide +kernel)
theorem t_548 : Cond.instanceMethod yX4_readComparison ∈ TBg := tb_of (List.mem_of_getElem? (i := 548) (by decide +kernel)) (by decide +kernel)
theorem t_549 : cw MX4_readComparison ∈ TBg := tb_of (List.mem_of_getElem? (i := 549) (by decide +kernel)) (by decide +kernel)
theorem t_556 : Cond.static yJ9_min_7cf53 ∈ TBg := tb_of (List.mem_of_getElem? (i := 556) (by decide +kernel)) (by decide +kernel)
theorem t_557 : cw MJ9_min_7cf53 ∈ TBg := tb_of (List.mem_of_getElem? (i := 557) (by decide +kernel)) (by decide +kernel)
theorem t_573 : Cond.static ⟨"java/lang/System", "arraycopy", "(Ljava/lang/Object;ILjava/lang/Object;II)V"⟩ ∈ TBg := tb_of (List.mem_of_getElem? (i := 573) (by decide +kernel)) (by decide +kernel)
theorem t_574 : Cond.native ⟨"java/lang/System", "arraycopy", "(Ljava/lang/Object;ILjava/lang/Object;II)V"⟩ ∈ TBg := tb_of (List.mem_of_getElem? (i := 574) (by decide +kernel)) (by decide +kernel)
theorem t_582 : Cond.fieldLink RX2 63 "PaidMistakes$Rule" "code" "[I" ∈ TBg := tb_of (List.mem_of_getElem? (i := 582) (by decide +kernel)) (by decide +kernel)
theorem t_584 : Cond.fieldLink RX2 73 "PaidMistakes$Rule" "clauses" "I" ∈ TBg := tb_of (List.mem_of_getElem? (i := 584) (by decide +kernel)) (by decide +kernel)
theorem t_586 : Cond.fieldLink RX2 58 "PaidMistakes$Rule" "begin" "[I" ∈ TBg := tb_of (List.mem_of_getElem? (i := 586) (by decide +kernel)) (by decide +kernel)
theorem t_588 : Cond.fieldLink RX2 66 "PaidMistakes$Rule" "middle" "[I" ∈ TBg := tb_of (List.mem_of_getElem? (i := 588) (by decide +kernel)) (by decide +kernel)
theorem t_590 : Cond.fieldLink RX2 76 "PaidMistakes$Rule" "finish" "[I" ∈ TBg := tb_of (List.mem_of_getElem? (i := 590) (by decide +kernel)) (by decide +kernel)
theorem t_591 : Cond.laysFinal RX3 "PaidMistakes$Rule" "code" "[I" ∈ TBg := tb_of (List.mem_of_getElem? (i := 591) (by decide +kernel)) (by decide +kernel)
theorem t_593 : Cond.laysFinal RX3 "PaidMistakes$Rule" "clauses" "I" ∈ TBg := tb_of (List.mem_of_getElem? (i := 593) (by decide +kernel)) (by decide +kernel)
theorem t_595 : Cond.laysFinal RX3 "PaidMistakes$Rule" "begin" "[I" ∈ TBg := tb_of (List.mem_of_getElem? (i := 595) (by decide +kernel)) (by decide +kernel)
theorem t_597 : Cond.laysFinal RX3 "PaidMistakes$Rule" "middle" "[I" ∈ TBg := tb_of (List.mem_of_getElem? (i := 597) (by decide +kernel)) (by decide +kernel)
theorem t_599 : Cond.laysFinal RX3 "PaidMistakes$Rule" "finish" "[I" ∈ TBg := tb_of (List.mem_of_getElem? (i := 599) (by decide +kernel)) (by decide +kernel)
theorem t_606 : Cond.methodLink RX8 129 yX8_at ∈ TBg := tb_of (List.mem_of_getElem? (i := 606) (by decide +kernel)) (by decide +kernel)
theorem t_619 : Cond.instanceMethod yX0_gone ∈ TBg := tb_of (List.mem_of_getElem? (i := 619) (by decide +kernel)) (by decide +kernel)
theorem t_620 : Cond.selects RX0 yX0_gone yX0_gone ∈ TBg := tb_of (List.mem_of_getElem? (i := 620) (by decide +kernel)) (by decide +kernel)
theorem t_621 : cw MX0_gone ∈ TBg := tb_of (List.mem_of_getElem? (i := 621) (by decide +kernel)) (by decide +kernel)
theorem t_622 : Cond.methodLink RX8 175 yX7_isOpen ∈ TBg := tb_of (List.mem_of_getElem? (i := 622) (by decide +kernel)) (by decide +kernel)
theorem t_623 : Cond.instanceMethod yX7_isOpen ∈ TBg := tb_of (List.mem_of_getElem? (i := 623) (by decide +kernel)) (by decide +kernel)
theorem t_624 : Cond.selects RX7 yX7_isOpen yX7_isOpen ∈ TBg := tb_of (List.mem_of_getElem? (i := 624) (by decide +kernel)) (by decide +kernel)
theorem t_625 : cw MX7_isOpen ∈ TBg := tb_of (List.mem_of_getElem? (i := 625) (by decide +kernel)) (by decide +kernel)
theorem t_631 : Cond.static yJ6_bitCount_0f7a4 ∈ TBg := tb_of (List.mem_of_getElem? (i := 631) (by decide +kernel)) (by decide +kernel)
theorem t_632 : cw MJ6_bitCount_0f7a4 ∈ TBg := tb_of (List.mem_of_getElem? (i := 632) (by decide +kernel)) (by decide +kernel)
theorem t_633 : Cond.constant RJ6 265 (1431655765) ∈ TBg := tb_of (List.mem_of_getElem? (i := 633) (by decide +kernel)) (by decide +kernel)
theorem t_634 : Cond.constant RJ6 266 (858993459) ∈ TBg := tb_of (List.mem_of_getElem? (i := 634) (by decide +kernel)) (by decide +kernel)
theorem t_635 : Cond.constant RJ6 267 (252645135) ∈ TBg := tb_of (List.mem_of_getElem? (i := 635) (by decide +kernel)) (by decide +kernel)
theorem t_640 : Cond.constant RX8 208 (-1000000) ∈ TBg := tb_of (List.mem_of_getElem? (i := 640) (by decide +kernel)) (by decide +kernel)
theorem t_646 : Cond.instanceMethod yX0_lookFor ∈ TBg := tb_of (List.mem_of_getElem? (i := 646) (by decide +kernel)) (by decide +kernel)
theorem t_647 : Cond.selects RX0 yX0_lookFor yX0_lookFor ∈ TBg := tb_of (List.mem_of_getElem? (i := 647) (by decide +kernel)) (by decide +kernel)
theorem t_648 : cw MX0_lookFor ∈ TBg := tb_of (List.mem_of_getElem? (i := 648) (by decide +kernel)) (by decide +kernel)
theorem t_651 : Cond.constantLong RX0 56 (1103515245) ∈ TBg := tb_of (List.mem_of_getElem? (i := 651) (by decide +kernel)) (by decide +kernel)
theorem t_652 : Cond.constantLong RX0 58 (12345) ∈ TBg := tb_of (List.mem_of_getElem? (i := 652) (by decide +kernel)) (by decide +kernel)
theorem t_653 : Cond.constantLong RX0 60 (2147483647) ∈ TBg := tb_of (List.mem_of_getElem? (i := 653) (by decide +kernel)) (by decide +kernel)
theorem t_654 : Cond.constant RX0 62 (65536) ∈ TBg := tb_of (List.mem_of_getElem? (i := 654) (by decide +kernel)) (by decide +kernel)
theorem t_656 : Cond.static yX8_bit ∈ TBg := tb_of (List.mem_of_getElem? (i := 656) (by decide +kernel)) (by decide +kernel)
theorem t_657 : cw MX8_bit ∈ TBg := tb_of (List.mem_of_getElem? (i := 657) (by decide +kernel)) (by decide +kernel)
theorem t_662 : Cond.methodLink RX8 213 yX8_hasWork ∈ TBg := tb_of (List.mem_of_getElem? (i := 662) (by decide +kernel)) (by decide +kernel)
theorem t_664 : Cond.instanceMethod yX8_hasWork ∈ TBg := tb_of (List.mem_of_getElem? (i := 664) (by decide +kernel)) (by decide +kernel)
theorem t_665 : cw MX8_hasWork ∈ TBg := tb_of (List.mem_of_getElem? (i := 665) (by decide +kernel)) (by decide +kernel)
theorem t_670 : Cond.methodLink RX8 216 yX8_bit ∈ TBg := tb_of (List.mem_of_getElem? (i := 670) (by decide +kernel)) (by decide +kernel)
theorem t_693 : Cond.methodLink RX8 228 yX8_ruleForWork ∈ TBg := tb_of (List.mem_of_getElem? (i := 693) (by decide +kernel)) (by decide +kernel)
theorem t_695 : Cond.instanceMethod yX8_ruleForWork ∈ TBg := tb_of (List.mem_of_getElem? (i := 695) (by decide +kernel)) (by decide +kernel)
theorem t_696 : cw MX8_ruleForWork ∈ TBg := tb_of (List.mem_of_getElem? (i := 696) (by decide +kernel)) (by decide +kernel)
theorem t_697 : Cond.methodLink RX8 232 yX2_play ∈ TBg := tb_of (List.mem_of_getElem? (i := 697) (by decide +kernel)) (by decide +kernel)
theorem t_698 : Cond.instanceMethod yX2_play ∈ TBg := tb_of (List.mem_of_getElem? (i := 698) (by decide +kernel)) (by decide +kernel)
theorem t_699 : Cond.selects RX2 yX2_play yX2_play ∈ TBg := tb_of (List.mem_of_getElem? (i := 699) (by decide +kernel)) (by decide +kernel)
theorem t_700 : cw MX2_play ∈ TBg := tb_of (List.mem_of_getElem? (i := 700) (by decide +kernel)) (by decide +kernel)
theorem t_701 : Cond.methodLink RX2 15 yX2_nextFault ∈ TBg := tb_of (List.mem_of_getElem? (i := 701) (by decide +kernel)) (by decide +kernel)
theorem t_703 : Cond.instanceMethod yX2_nextFault ∈ TBg := tb_of (List.mem_of_getElem? (i := 703) (by decide +kernel)) (by decide +kernel)
theorem t_704 : cw MX2_nextFault ∈ TBg := tb_of (List.mem_of_getElem? (i := 704) (by decide +kernel)) (by decide +kernel)
theorem t_705 : Cond.methodLink RX2 35 yX0_gone ∈ TBg := tb_of (List.mem_of_getElem? (i := 705) (by decide +kernel)) (by decide +kernel)
theorem t_706 : Cond.methodLink RX2 39 yX7_isOpen ∈ TBg := tb_of (List.mem_of_getElem? (i := 706) (by decide +kernel)) (by decide +kernel)
theorem t_708 : Cond.methodLink RX2 54 yX2_lookClause ∈ TBg := tb_of (List.mem_of_getElem? (i := 708) (by decide +kernel)) (by decide +kernel)
theorem t_710 : Cond.instanceMethod yX2_lookClause ∈ TBg := tb_of (List.mem_of_getElem? (i := 710) (by decide +kernel)) (by decide +kernel)
theorem t_711 : cw MX2_lookClause ∈ TBg := tb_of (List.mem_of_getElem? (i := 711) (by decide +kernel)) (by decide +kernel)
theorem t_712 : Cond.methodLink RX2 69 yX2_reckon ∈ TBg := tb_of (List.mem_of_getElem? (i := 712) (by decide +kernel)) (by decide +kernel)
theorem t_714 : Cond.instanceMethod yX2_reckon ∈ TBg := tb_of (List.mem_of_getElem? (i := 714) (by decide +kernel)) (by decide +kernel)
theorem t_715 : cw MX2_reckon ∈ TBg := tb_of (List.mem_of_getElem? (i := 715) (by decide +kernel)) (by decide +kernel)
theorem t_716 : Cond.methodLink RX2 79 yJ9_max_7cf53 ∈ TBg := tb_of (List.mem_of_getElem? (i := 716) (by decide +kernel)) (by decide +kernel)
theorem t_717 : Cond.methodLink RX2 85 yX2_wordOf ∈ TBg := tb_of (List.mem_of_getElem? (i := 717) (by decide +kernel)) (by decide +kernel)
theorem t_718 : Cond.static yX2_wordOf ∈ TBg := tb_of (List.mem_of_getElem? (i := 718) (by decide +kernel)) (by decide +kernel)
theorem t_719 : cw MX2_wordOf ∈ TBg := tb_of (List.mem_of_getElem? (i := 719) (by decide +kernel)) (by decide +kernel)
theorem t_720 : Cond.methodLink RX2 105 yJ6_bitCount_0f7a4 ∈ TBg := tb_of (List.mem_of_getElem? (i := 720) (by decide +kernel)) (by decide +kernel)
theorem t_721 : Cond.methodLink RX2 89 yX2_join ∈ TBg := tb_of (List.mem_of_getElem? (i := 721) (by decide +kernel)) (by decide +kernel)
theorem t_722 : Cond.static yX2_join ∈ TBg := tb_of (List.mem_of_getElem? (i := 722) (by decide +kernel)) (by decide +kernel)
theorem t_723 : cw MX2_join ∈ TBg := tb_of (List.mem_of_getElem? (i := 723) (by decide +kernel)) (by decide +kernel)
theorem t_724 : Cond.methodLink RX2 117 yX2_compares ∈ TBg := tb_of (List.mem_of_getElem? (i := 724) (by decide +kernel)) (by decide +kernel)
theorem t_725 : Cond.static yX2_compares ∈ TBg := tb_of (List.mem_of_getElem? (i := 725) (by decide +kernel)) (by decide +kernel)
theorem t_726 : cw MX2_compares ∈ TBg := tb_of (List.mem_of_getElem? (i := 726) (by decide +kernel)) (by decide +kernel)
theorem t_727 : Cond.methodLink RX2 19 yX2_stopsAt ∈ TBg := tb_of (List.mem_of_getElem? (i := 727) (by decide +kernel)) (by decide +kernel)
theorem t_729 : Cond.instanceMethod yX2_stopsAt ∈ TBg := tb_of (List.mem_of_getElem? (i := 729) (by decide +kernel)) (by decide +kernel)
theorem t_730 : cw MX2_stopsAt ∈ TBg := tb_of (List.mem_of_getElem? (i := 730) (by decide +kernel)) (by decide +kernel)
theorem t_731 : Cond.methodLink RX2 23 yX0_lookFor ∈ TBg := tb_of (List.mem_of_getElem? (i := 731) (by decide +kernel)) (by decide +kernel)
theorem t_737 : Cond.instanceMethod yX0_copyFrom ∈ TBg := tb_of (List.mem_of_getElem? (i := 737) (by decide +kernel)) (by decide +kernel)
theorem t_738 : Cond.selects RX0 yX0_copyFrom yX0_copyFrom ∈ TBg := tb_of (List.mem_of_getElem? (i := 738) (by decide +kernel)) (by decide +kernel)
theorem t_739 : cw MX0_copyFrom ∈ TBg := tb_of (List.mem_of_getElem? (i := 739) (by decide +kernel)) (by decide +kernel)
theorem t_740 : Cond.methodLink RX0 31 ⟨"java/lang/System", "arraycopy", "(Ljava/lang/Object;ILjava/lang/Object;II)V"⟩ ∈ TBg := tb_of (List.mem_of_getElem? (i := 740) (by decide +kernel)) (by decide +kernel)
theorem t_754 : Cond.methodLink RX8 245 yX8_rowMean ∈ TBg := tb_of (List.mem_of_getElem? (i := 754) (by decide +kernel)) (by decide +kernel)
theorem t_756 : Cond.instanceMethod yX8_rowMean ∈ TBg := tb_of (List.mem_of_getElem? (i := 756) (by decide +kernel)) (by decide +kernel)
theorem t_757 : cw MX8_rowMean ∈ TBg := tb_of (List.mem_of_getElem? (i := 757) (by decide +kernel)) (by decide +kernel)
theorem t_758 : Cond.constantLong RX8 257 (100) ∈ TBg := tb_of (List.mem_of_getElem? (i := 758) (by decide +kernel)) (by decide +kernel)
theorem t_759 : Cond.methodLink RX8 249 yX8_hundreds ∈ TBg := tb_of (List.mem_of_getElem? (i := 759) (by decide +kernel)) (by decide +kernel)
theorem t_760 : Cond.static yX8_hundreds ∈ TBg := tb_of (List.mem_of_getElem? (i := 760) (by decide +kernel)) (by decide +kernel)
theorem t_761 : cw MX8_hundreds ∈ TBg := tb_of (List.mem_of_getElem? (i := 761) (by decide +kernel)) (by decide +kernel)
theorem t_762 : Cond.methodLink RX8 253 yX8_partOf ∈ TBg := tb_of (List.mem_of_getElem? (i := 762) (by decide +kernel)) (by decide +kernel)
theorem t_763 : Cond.static yX8_partOf ∈ TBg := tb_of (List.mem_of_getElem? (i := 763) (by decide +kernel)) (by decide +kernel)
theorem t_764 : cw MX8_partOf ∈ TBg := tb_of (List.mem_of_getElem? (i := 764) (by decide +kernel)) (by decide +kernel)
theorem t_765 : Cond.methodLink RX8 303 yJ9_abs_067f4 ∈ TBg := tb_of (List.mem_of_getElem? (i := 765) (by decide +kernel)) (by decide +kernel)
theorem t_766 : Cond.static yJ9_abs_067f4 ∈ TBg := tb_of (List.mem_of_getElem? (i := 766) (by decide +kernel)) (by decide +kernel)
theorem t_767 : cw MJ9_abs_067f4 ∈ TBg := tb_of (List.mem_of_getElem? (i := 767) (by decide +kernel)) (by decide +kernel)
theorem t_780 : Cond.methodLink RX1 79 yX1_mostEarned ∈ TBg := tb_of (List.mem_of_getElem? (i := 780) (by decide +kernel)) (by decide +kernel)
theorem t_781 : Cond.instanceMethod yX1_mostEarned ∈ TBg := tb_of (List.mem_of_getElem? (i := 781) (by decide +kernel)) (by decide +kernel)
theorem t_782 : Cond.selects RX1 yX1_mostEarned yX1_mostEarned ∈ TBg := tb_of (List.mem_of_getElem? (i := 782) (by decide +kernel)) (by decide +kernel)
theorem t_783 : cw MX1_mostEarned ∈ TBg := tb_of (List.mem_of_getElem? (i := 783) (by decide +kernel)) (by decide +kernel)
theorem t_784 : Cond.methodLink RX1 18 yX7_mostByOneLook ∈ TBg := tb_of (List.mem_of_getElem? (i := 784) (by decide +kernel)) (by decide +kernel)
theorem t_785 : Cond.instanceMethod yX7_mostByOneLook ∈ TBg := tb_of (List.mem_of_getElem? (i := 785) (by decide +kernel)) (by decide +kernel)
theorem t_786 : Cond.selects RX7 yX7_mostByOneLook yX7_mostByOneLook ∈ TBg := tb_of (List.mem_of_getElem? (i := 786) (by decide +kernel)) (by decide +kernel)
theorem t_787 : cw MX7_mostByOneLook ∈ TBg := tb_of (List.mem_of_getElem? (i := 787) (by decide +kernel)) (by decide +kernel)
theorem t_788 : Cond.methodLink RX7 118 yX7_isOpen ∈ TBg := tb_of (List.mem_of_getElem? (i := 788) (by decide +kernel)) (by decide +kernel)
theorem t_789 : Cond.methodLink RX1 28 yJ9_min_7cf53 ∈ TBg := tb_of (List.mem_of_getElem? (i := 789) (by decide +kernel)) (by decide +kernel)
theorem t_790 : Cond.constantLong RX1 36 (8) ∈ TBg := tb_of (List.mem_of_getElem? (i := 790) (by decide +kernel)) (by decide +kernel)
theorem t_791 : Cond.constantLong RX1 38 (-7046029254386353131) ∈ TBg := tb_of (List.mem_of_getElem? (i := 791) (by decide +kernel)) (by decide +kernel)
theorem t_792 : Cond.methodLink RX1 43 yX1_earnedBy ∈ TBg := tb_of (List.mem_of_getElem? (i := 792) (by decide +kernel)) (by decide +kernel)
theorem t_794 : Cond.instanceMethod yX1_earnedBy ∈ TBg := tb_of (List.mem_of_getElem? (i := 794) (by decide +kernel)) (by decide +kernel)
theorem t_795 : cw MX1_earnedBy ∈ TBg := tb_of (List.mem_of_getElem? (i := 795) (by decide +kernel)) (by decide +kernel)
theorem t_797 : Cond.methodLink RX1 59 yX7_isOpen ∈ TBg := tb_of (List.mem_of_getElem? (i := 797) (by decide +kernel)) (by decide +kernel)
theorem t_798 : Cond.constantLong RX1 63 (-1) ∈ TBg := tb_of (List.mem_of_getElem? (i := 798) (by decide +kernel)) (by decide +kernel)
theorem t_801 : Cond.methodLink RX1 47 yJ9_max_f86c9 ∈ TBg := tb_of (List.mem_of_getElem? (i := 801) (by decide +kernel)) (by decide +kernel)
theorem t_802 : Cond.static yJ9_max_f86c9 ∈ TBg := tb_of (List.mem_of_getElem? (i := 802) (by decide +kernel)) (by decide +kernel)
theorem t_803 : cw MJ9_max_f86c9 ∈ TBg := tb_of (List.mem_of_getElem? (i := 803) (by decide +kernel)) (by decide +kernel)
theorem t_835 : Cond.instanceMethod yX8_rests ∈ TBg := tb_of (List.mem_of_getElem? (i := 835) (by decide +kernel)) (by decide +kernel)
theorem t_836 : Cond.selects RX8 yX8_rests yX8_rests ∈ TBg := tb_of (List.mem_of_getElem? (i := 836) (by decide +kernel)) (by decide +kernel)
theorem t_837 : cw MX8_rests ∈ TBg := tb_of (List.mem_of_getElem? (i := 837) (by decide +kernel)) (by decide +kernel)
theorem t_842 : Cond.methodLink RX8 286 yX8_rests ∈ TBg := tb_of (List.mem_of_getElem? (i := 842) (by decide +kernel)) (by decide +kernel)
theorem t_843 : Cond.methodLink RX8 289 yJ9_abs_0f7a4 ∈ TBg := tb_of (List.mem_of_getElem? (i := 843) (by decide +kernel)) (by decide +kernel)
theorem t_844 : Cond.static yJ9_abs_0f7a4 ∈ TBg := tb_of (List.mem_of_getElem? (i := 844) (by decide +kernel)) (by decide +kernel)
theorem t_845 : cw MJ9_abs_0f7a4 ∈ TBg := tb_of (List.mem_of_getElem? (i := 845) (by decide +kernel)) (by decide +kernel)
theorem t_866 : Cond.methodLink RX8 300 yX5_copyFrom ∈ TBg := tb_of (List.mem_of_getElem? (i := 866) (by decide +kernel)) (by decide +kernel)
theorem t_867 : Cond.instanceMethod yX5_copyFrom ∈ TBg := tb_of (List.mem_of_getElem? (i := 867) (by decide +kernel)) (by decide +kernel)
theorem t_868 : Cond.selects RX5 yX5_copyFrom yX5_copyFrom ∈ TBg := tb_of (List.mem_of_getElem? (i := 868) (by decide +kernel)) (by decide +kernel)
theorem t_869 : cw MX5_copyFrom ∈ TBg := tb_of (List.mem_of_getElem? (i := 869) (by decide +kernel)) (by decide +kernel)
theorem t_870 : Cond.methodLink RX5 29 yX0_copyFrom ∈ TBg := tb_of (List.mem_of_getElem? (i := 870) (by decide +kernel)) (by decide +kernel)
theorem t_871 : Cond.methodLink RX5 43 ⟨"java/lang/System", "arraycopy", "(Ljava/lang/Object;ILjava/lang/Object;II)V"⟩ ∈ TBg := tb_of (List.mem_of_getElem? (i := 871) (by decide +kernel)) (by decide +kernel)
theorem t_918 : Cond.laysFinal RX9 "PaidMistakesModel" "tape" "[B" ∈ TBg := tb_of (List.mem_of_getElem? (i := 918) (by decide +kernel)) (by decide +kernel)
theorem t_920 : Cond.lays RX9 "PaidMistakesModel" "taped" "I" ∈ TBg := tb_of (List.mem_of_getElem? (i := 920) (by decide +kernel)) (by decide +kernel)
theorem t_922 : Cond.lays RX9 "PaidMistakesModel" "rules" "I" ∈ TBg := tb_of (List.mem_of_getElem? (i := 922) (by decide +kernel)) (by decide +kernel)
theorem t_924 : Cond.laysFinal RX9 "PaidMistakesModel" "sign" "[I" ∈ TBg := tb_of (List.mem_of_getElem? (i := 924) (by decide +kernel)) (by decide +kernel)
theorem t_926 : Cond.laysFinal RX9 "PaidMistakesModel" "length" "[I" ∈ TBg := tb_of (List.mem_of_getElem? (i := 926) (by decide +kernel)) (by decide +kernel)
theorem t_928 : Cond.laysFinal RX9 "PaidMistakesModel" "clause" "[I" ∈ TBg := tb_of (List.mem_of_getElem? (i := 928) (by decide +kernel)) (by decide +kernel)
theorem t_930 : Cond.laysFinal RX9 "PaidMistakesModel" "clauses" "[I" ∈ TBg := tb_of (List.mem_of_getElem? (i := 930) (by decide +kernel)) (by decide +kernel)
theorem t_932 : Cond.lays RX9 "PaidMistakesModel" "timeRead" "I" ∈ TBg := tb_of (List.mem_of_getElem? (i := 932) (by decide +kernel)) (by decide +kernel)
theorem t_934 : Cond.lays RX9 "PaidMistakesModel" "kindsRead" "I" ∈ TBg := tb_of (List.mem_of_getElem? (i := 934) (by decide +kernel)) (by decide +kernel)
theorem t_936 : Cond.lays RX9 "PaidMistakesModel" "faultsRead" "I" ∈ TBg := tb_of (List.mem_of_getElem? (i := 936) (by decide +kernel)) (by decide +kernel)
theorem t_938 : Cond.laysFinal RX9 "PaidMistakesModel" "kindRead" "[I" ∈ TBg := tb_of (List.mem_of_getElem? (i := 938) (by decide +kernel)) (by decide +kernel)
theorem t_940 : Cond.laysFinal RX9 "PaidMistakesModel" "faultRead" "[I" ∈ TBg := tb_of (List.mem_of_getElem? (i := 940) (by decide +kernel)) (by decide +kernel)
theorem t_942 : Cond.lays RX9 "PaidMistakesModel" "next" "I" ∈ TBg := tb_of (List.mem_of_getElem? (i := 942) (by decide +kernel)) (by decide +kernel)
theorem t_944 : Cond.lays RX9 "PaidMistakesModel" "wrong" "I" ∈ TBg := tb_of (List.mem_of_getElem? (i := 944) (by decide +kernel)) (by decide +kernel)
theorem t_946 : Cond.lays RX9 "PaidMistakesModel" "number" "I" ∈ TBg := tb_of (List.mem_of_getElem? (i := 946) (by decide +kernel)) (by decide +kernel)
theorem t_948 : Cond.lays RX9 "PaidMistakesModel" "text" "I" ∈ TBg := tb_of (List.mem_of_getElem? (i := 948) (by decide +kernel)) (by decide +kernel)
theorem t_950 : Cond.lays RX9 "PaidMistakesModel" "made" "I" ∈ TBg := tb_of (List.mem_of_getElem? (i := 950) (by decide +kernel)) (by decide +kernel)
theorem t_952 : Cond.lays RX9 "PaidMistakesModel" "deep" "I" ∈ TBg := tb_of (List.mem_of_getElem? (i := 952) (by decide +kernel)) (by decide +kernel)
theorem t_954 : Cond.lays RX9 "PaidMistakesModel" "lines" "I" ∈ TBg := tb_of (List.mem_of_getElem? (i := 954) (by decide +kernel)) (by decide +kernel)
theorem t_956 : Cond.laysFinal RX9 "PaidMistakesModel" "open" "[I" ∈ TBg := tb_of (List.mem_of_getElem? (i := 956) (by decide +kernel)) (by decide +kernel)
theorem t_958 : Cond.lays RX9 "PaidMistakesModel" "opened" "I" ∈ TBg := tb_of (List.mem_of_getElem? (i := 958) (by decide +kernel)) (by decide +kernel)
theorem t_960 : Cond.laysFinal RX9 "PaidMistakesModel" "stack" "[J" ∈ TBg := tb_of (List.mem_of_getElem? (i := 960) (by decide +kernel)) (by decide +kernel)
theorem t_962 : Cond.lays RX9 "PaidMistakesModel" "top" "I" ∈ TBg := tb_of (List.mem_of_getElem? (i := 962) (by decide +kernel)) (by decide +kernel)
theorem t_964 : Cond.laysFinal RX9 "PaidMistakesModel" "word" "[J" ∈ TBg := tb_of (List.mem_of_getElem? (i := 964) (by decide +kernel)) (by decide +kernel)
theorem t_966 : Cond.laysFinal RX9 "PaidMistakesModel" "said" "[I" ∈ TBg := tb_of (List.mem_of_getElem? (i := 966) (by decide +kernel)) (by decide +kernel)
theorem t_968 : Cond.laysFinal RX9 "PaidMistakesModel" "kept" "[I" ∈ TBg := tb_of (List.mem_of_getElem? (i := 968) (by decide +kernel)) (by decide +kernel)
theorem t_970 : Cond.laysFinal RX9 "PaidMistakesModel" "triedAt" "[I" ∈ TBg := tb_of (List.mem_of_getElem? (i := 970) (by decide +kernel)) (by decide +kernel)
theorem t_972 : Cond.laysFinal RX9 "PaidMistakesModel" "isFoundAt" "[Z" ∈ TBg := tb_of (List.mem_of_getElem? (i := 972) (by decide +kernel)) (by decide +kernel)
theorem t_974 : Cond.laysFinal RX9 "PaidMistakesModel" "foundBrings" "[J" ∈ TBg := tb_of (List.mem_of_getElem? (i := 974) (by decide +kernel)) (by decide +kernel)
theorem t_976 : Cond.laysFinal RX9 "PaidMistakesModel" "foundHides" "[J" ∈ TBg := tb_of (List.mem_of_getElem? (i := 976) (by decide +kernel)) (by decide +kernel)
theorem t_978 : Cond.laysFinal RX9 "PaidMistakesModel" "bestBrings" "[J" ∈ TBg := tb_of (List.mem_of_getElem? (i := 978) (by decide +kernel)) (by decide +kernel)
theorem t_980 : Cond.laysFinal RX9 "PaidMistakesModel" "bestHides" "[J" ∈ TBg := tb_of (List.mem_of_getElem? (i := 980) (by decide +kernel)) (by decide +kernel)
theorem t_982 : Cond.laysFinal RX9 "PaidMistakesModel" "bestLook" "[I" ∈ TBg := tb_of (List.mem_of_getElem? (i := 982) (by decide +kernel)) (by decide +kernel)
theorem t_984 : Cond.laysFinal RX9 "PaidMistakesModel" "leftAt" "[I" ∈ TBg := tb_of (List.mem_of_getElem? (i := 984) (by decide +kernel)) (by decide +kernel)
theorem t_986 : Cond.laysFinal RX9 "PaidMistakesModel" "images" "[I" ∈ TBg := tb_of (List.mem_of_getElem? (i := 986) (by decide +kernel)) (by decide +kernel)
theorem t_988 : Cond.laysFinal RX9 "PaidMistakesModel" "isMade" "[Z" ∈ TBg := tb_of (List.mem_of_getElem? (i := 988) (by decide +kernel)) (by decide +kernel)
theorem t_1404 : Cond.fieldLink RJ0 9 "java/lang/String" "value" "[B" ∈ TBg := tb_of (List.mem_of_getElem? (i := 1404) (by decide +kernel)) (by decide +kernel)
theorem t_1405 : Cond.fieldLink RJ0 15 "java/lang/String" "coder" "B" ∈ TBg := tb_of (List.mem_of_getElem? (i := 1405) (by decide +kernel)) (by decide +kernel)
theorem okN_X8_at : okN MX8_at 2 := ⟨by decide, by decide, by decide +kernel⟩
theorem okN_X7_isOpen : okN MX7_isOpen 2 := ⟨by decide, by decide, by decide +kernel⟩
theorem okN_X8_hundreds : okN MX8_hundreds 1 := ⟨by decide, by decide, by decide +kernel⟩
theorem okN_X8_bit : okN MX8_bit 1 := ⟨by decide, by decide, by decide +kernel⟩
theorem okN_X1_mostEarned : okN MX1_mostEarned 4 := ⟨by decide, by decide, by decide +kernel⟩
theorem s_X1_earnedBy : Cond.selects yX1_earnedBy.cls yX1_earnedBy yX1_earnedBy ∈ TBg := tb_sel (q := (yX1_earnedBy, 4)) (by decide +kernel)
theorem okN_X1_earnedBy : okN MX1_earnedBy 5 := ⟨by decide, by decide, by decide +kernel⟩
theorem okN_X7_mostByOneLook : okN MX7_mostByOneLook 2 := ⟨by decide, by decide, by decide +kernel⟩
theorem okN_X6_step : okN MX6_step 0 := ⟨by decide, by decide, by decide +kernel⟩
theorem s_X4_readFact : Cond.selects yX4_readFact.cls yX4_readFact yX4_readFact ∈ TBg := tb_sel (q := (yX4_readFact, 8)) (by decide +kernel)
theorem okN_X4_readFact : okN MX4_readFact 1 := ⟨by decide, by decide, by decide +kernel⟩
theorem s_X4_emit : Cond.selects yX4_emit.cls yX4_emit yX4_emit ∈ TBg := tb_sel (q := (yX4_emit, 8)) (by decide +kernel)
theorem okN_X4_emit : okN MX4_emit 1 := ⟨by decide, by decide, by decide +kernel⟩
theorem s_X4_readTest : Cond.selects yX4_readTest.cls yX4_readTest yX4_readTest ∈ TBg := tb_sel (q := (yX4_readTest, 8)) (by decide +kernel)
theorem okN_X4_readTest : okN MX4_readTest 1 := ⟨by decide, by decide, by decide +kernel⟩
theorem okN_X6_fail : okN MX6_fail 1 := ⟨by decide, by decide, by decide +kernel⟩
theorem s_X4_readValue : Cond.selects yX4_readValue.cls yX4_readValue yX4_readValue ∈ TBg := tb_sel (q := (yX4_readValue, 8)) (by decide +kernel)
theorem okN_X4_readValue : okN MX4_readValue 0 := ⟨by decide, by decide, by decide +kernel⟩
theorem s_X4_readSum : Cond.selects yX4_readSum.cls yX4_readSum yX4_readSum ∈ TBg := tb_sel (q := (yX4_readSum, 8)) (by decide +kernel)
theorem okN_X4_readSum : okN MX4_readSum 0 := ⟨by decide, by decide, by decide +kernel⟩
theorem s_X4_readComparison : Cond.selects yX4_readComparison.cls yX4_readComparison yX4_readComparison ∈ TBg := tb_sel (q := (yX4_readComparison, 8)) (by decide +kernel)
theorem okN_X4_readComparison : okN MX4_readComparison 0 := ⟨by decide, by decide, by decide +kernel⟩
theorem okN_X8_put : okN MX8_put 3 := ⟨by decide, by decide, by decide +kernel⟩
theorem okN_X0_copyFrom : okN MX0_copyFrom 1 := ⟨by decide, by decide, by decide +kernel⟩
theorem okN_X5_copyFrom : okN MX5_copyFrom 1 := ⟨by decide, by decide, by decide +kernel⟩
theorem s_X8_hasWork : Cond.selects yX8_hasWork.cls yX8_hasWork yX8_hasWork ∈ TBg := tb_sel (q := (yX8_hasWork, 11)) (by decide +kernel)
theorem okN_X8_hasWork : okN MX8_hasWork 0 := ⟨by decide, by decide, by decide +kernel⟩
theorem s_X8_ruleForWork : Cond.selects yX8_ruleForWork.cls yX8_ruleForWork yX8_ruleForWork ∈ TBg := tb_sel (q := (yX8_ruleForWork, 11)) (by decide +kernel)
theorem okN_X8_ruleForWork : okN MX8_ruleForWork 1 := ⟨by decide, by decide, by decide +kernel⟩
theorem okN_X0_gone : okN MX0_gone 0 := ⟨by decide, by decide, by decide +kernel⟩
theorem okN_J6_bitCount_0f7a4 : okN MJ6_bitCount_0f7a4 1 := ⟨by decide, by decide, by decide +kernel⟩
theorem okN_X2_wordOf : okN MX2_wordOf 4 := ⟨by decide, by decide, by decide +kernel⟩
theorem okN_X2_compares : okN MX2_compares 3 := ⟨by decide, by decide, by decide +kernel⟩
theorem okN_X2_join : okN MX2_join 3 := ⟨by decide, by decide, by decide +kernel⟩
theorem s_X2_reckon : Cond.selects yX2_reckon.cls yX2_reckon yX2_reckon ∈ TBg := tb_sel (q := (yX2_reckon, 1)) (by decide +kernel)
theorem okN_X2_reckon : okN MX2_reckon 6 := ⟨by decide, by decide, by decide +kernel⟩
theorem s_X2_lookClause : Cond.selects yX2_lookClause.cls yX2_lookClause yX2_lookClause ∈ TBg := tb_sel (q := (yX2_lookClause, 1)) (by decide +kernel)
theorem okN_X2_lookClause : okN MX2_lookClause 4 := ⟨by decide, by decide, by decide +kernel⟩
theorem s_X2_nextFault : Cond.selects yX2_nextFault.cls yX2_nextFault yX2_nextFault ∈ TBg := tb_sel (q := (yX2_nextFault, 1)) (by decide +kernel)
theorem okN_X2_nextFault : okN MX2_nextFault 3 := ⟨by decide, by decide, by decide +kernel⟩
theorem s_X2_stopsAt : Cond.selects yX2_stopsAt.cls yX2_stopsAt yX2_stopsAt ∈ TBg := tb_sel (q := (yX2_stopsAt, 1)) (by decide +kernel)
theorem okN_X2_stopsAt : okN MX2_stopsAt 4 := ⟨by decide, by decide, by decide +kernel⟩
theorem okN_X0_lookFor : okN MX0_lookFor 2 := ⟨by decide, by decide, by decide +kernel⟩
theorem okN_X2_play : okN MX2_play 3 := ⟨by decide, by decide, by decide +kernel⟩
theorem okN_X8_rests : okN MX8_rests 0 := ⟨by decide, by decide, by decide +kernel⟩
theorem okN_X8_partOf : okN MX8_partOf 3 := ⟨by decide, by decide, by decide +kernel⟩
theorem s_X8_rowMean : Cond.selects yX8_rowMean.cls yX8_rowMean yX8_rowMean ∈ TBg := tb_sel (q := (yX8_rowMean, 11)) (by decide +kernel)
theorem okN_X8_rowMean : okN MX8_rowMean 4 := ⟨by decide, by decide, by decide +kernel⟩
theorem okN_J3_checkIndex_8e157 : okN MJ3_checkIndex_8e157 3 := ⟨by decide, by decide, by decide +kernel⟩
theorem okN_J0_checkIndex_df160 : okN MJ0_checkIndex_df160 2 := ⟨by decide, by decide, by decide +kernel⟩
theorem okN_J0_coder_7d493 : okN MJ0_coder_7d493 0 := ⟨by decide, by decide, by decide +kernel⟩
theorem okN_J0_isLatin1_aae02 : okN MJ0_isLatin1_aae02 0 := ⟨by decide, by decide, by decide +kernel⟩
theorem okN_J1_charAt_3b067 : okN MJ1_charAt_3b067 2 := ⟨by decide, by decide, by decide +kernel⟩
theorem lk_N_1_55 : LkN RX1 55 MX8_at := ⟨t_363, t_1, t_362, by decide +kernel⟩
theorem lk_V_1_59 : LkV RX1 59 MX7_isOpen := ⟨t_625, t_3, t_797, t_623, t_624⟩
theorem lk_N_1_71 : LkN RX1 71 MX8_hundreds := ⟨t_761, t_1, t_760, by decide +kernel⟩
theorem lk_N_1_75 : LkN RX1 75 MX8_bit := ⟨t_657, t_1, t_656, by decide +kernel⟩
theorem lk_V_1_79 : LkV RX1 79 MX1_mostEarned := ⟨t_783, t_8, t_780, t_781, t_782⟩
theorem lk_V_1_43 : LkV RX1 43 MX1_earnedBy := ⟨t_795, t_8, t_792, t_794, s_X1_earnedBy⟩
theorem lk_N_7_78 : LkN RX7 78 MX8_at := ⟨t_363, t_1, t_362, by decide +kernel⟩
theorem lk_V_7_118 : LkV RX7 118 MX7_isOpen := ⟨t_625, t_3, t_788, t_623, t_624⟩
theorem lk_V_1_18 : LkV RX1 18 MX7_mostByOneLook := ⟨t_787, t_3, t_784, t_785, t_786⟩
theorem lk_V_4_72 : LkV RX4 72 MX6_step := ⟨t_459, t_6, t_524, t_457, t_458⟩
theorem lk_V_4_88 : LkV RX4 88 MX4_readFact := ⟨t_545, t_5, t_542, t_544, s_X4_readFact⟩
theorem lk_V_4_91 : LkV RX4 91 MX4_emit := ⟨t_537, t_5, t_534, t_536, s_X4_emit⟩
theorem lk_V_4_85 : LkV RX4 85 MX4_readTest := ⟨t_541, t_5, t_538, t_540, s_X4_readTest⟩
theorem lk_V_4_68 : LkV RX4 68 MX6_fail := ⟨t_471, t_6, t_523, t_469, t_470⟩
theorem lk_V_4_97 : LkV RX4 97 MX4_readValue := ⟨t_533, t_5, t_530, t_532, s_X4_readValue⟩
theorem lk_V_4_79 : LkV RX4 79 MX4_readSum := ⟨t_529, t_5, t_526, t_528, s_X4_readSum⟩
theorem lk_V_4_94 : LkV RX4 94 MX4_readComparison := ⟨t_549, t_5, t_546, t_548, s_X4_readComparison⟩
theorem lk_N_7_88 : LkN RX7 88 MX8_put := ⟨t_344, t_1, t_343, by decide +kernel⟩
theorem lk_V_5_29 : LkV RX5 29 MX0_copyFrom := ⟨t_739, t_4, t_870, t_737, t_738⟩
theorem lk_V_8_300 : LkV RX8 300 MX5_copyFrom := ⟨t_869, t_2, t_866, t_867, t_868⟩
theorem lk_V_8_213 : LkV RX8 213 MX8_hasWork := ⟨t_665, t_1, t_662, t_664, s_X8_hasWork⟩
theorem lk_V_8_228 : LkV RX8 228 MX8_ruleForWork := ⟨t_696, t_1, t_693, t_695, s_X8_ruleForWork⟩
theorem lk_V_2_35 : LkV RX2 35 MX0_gone := ⟨t_621, t_4, t_705, t_619, t_620⟩
theorem lk_V_2_39 : LkV RX2 39 MX7_isOpen := ⟨t_625, t_3, t_706, t_623, t_624⟩
theorem lk_N_2_47 : LkN RX2 47 MX8_at := ⟨t_363, t_1, t_362, by decide +kernel⟩
theorem lk_S_2_105 : LkS RX2 105 MJ6_bitCount_0f7a4 := ⟨t_632, t_18, t_720, t_631⟩
theorem lk_S_2_85 : LkS RX2 85 MX2_wordOf := ⟨t_719, t_7, t_717, t_718⟩
theorem lk_S_2_117 : LkS RX2 117 MX2_compares := ⟨t_726, t_7, t_724, t_725⟩
theorem lk_S_2_89 : LkS RX2 89 MX2_join := ⟨t_723, t_7, t_721, t_722⟩
theorem lk_V_2_69 : LkV RX2 69 MX2_reckon := ⟨t_715, t_7, t_712, t_714, s_X2_reckon⟩
theorem lk_V_2_54 : LkV RX2 54 MX2_lookClause := ⟨t_711, t_7, t_708, t_710, s_X2_lookClause⟩
theorem lk_V_2_15 : LkV RX2 15 MX2_nextFault := ⟨t_704, t_7, t_701, t_703, s_X2_nextFault⟩
theorem lk_V_2_19 : LkV RX2 19 MX2_stopsAt := ⟨t_730, t_7, t_727, t_729, s_X2_stopsAt⟩
theorem lk_N_0_48 : LkN RX0 48 MX8_at := ⟨t_363, t_1, t_362, by decide +kernel⟩
theorem lk_N_0_52 : LkN RX0 52 MX8_put := ⟨t_344, t_1, t_343, by decide +kernel⟩
theorem lk_N_0_66 : LkN RX0 66 MX8_bit := ⟨t_657, t_1, t_656, by decide +kernel⟩
theorem lk_V_2_23 : LkV RX2 23 MX0_lookFor := ⟨t_648, t_4, t_731, t_646, t_647⟩
theorem lk_V_8_232 : LkV RX8 232 MX2_play := ⟨t_700, t_7, t_697, t_698, t_699⟩
theorem lk_S_8_129 : LkS RX8 129 MX8_at := ⟨t_363, t_1, t_606, t_362⟩
theorem lk_V_8_286 : LkV RX8 286 MX8_rests := ⟨t_837, t_1, t_842, t_835, t_836⟩
theorem lk_S_8_253 : LkS RX8 253 MX8_partOf := ⟨t_764, t_1, t_762, t_763⟩
theorem lk_V_8_175 : LkV RX8 175 MX7_isOpen := ⟨t_625, t_3, t_622, t_623, t_624⟩
theorem lk_V_8_245 : LkV RX8 245 MX8_rowMean := ⟨t_757, t_1, t_754, t_756, s_X8_rowMean⟩
theorem lk_S_8_249 : LkS RX8 249 MX8_hundreds := ⟨t_761, t_1, t_759, t_760⟩
theorem lk_S_8_216 : LkS RX8 216 MX8_bit := ⟨t_657, t_1, t_670, t_656⟩
theorem lk_S_J0_1059 : LkS RJ0 1059 MJ3_checkIndex_8e157 := ⟨t_417, t_12, t_415, t_416⟩
theorem lk_S_J1_9 : LkS RJ1 9 MJ0_checkIndex_df160 := ⟨t_412, t_10, t_410, t_411⟩
theorem lk_V_J0_335 : LkV RJ0 335 MJ0_coder_7d493 := ⟨t_396, t_10, t_393, t_394, t_395⟩
theorem lk_V_J0_492 : LkV RJ0 492 MJ0_isLatin1_aae02 := ⟨t_406, t_10, t_403, t_404, t_405⟩
theorem lk_S_J0_495 : LkS RJ0 495 MJ1_charAt_3b067 := ⟨t_409, t_11, t_407, t_408⟩
theorem iX0 : ∀ w ∈ u_ws RX0 TX0 6, w ∈ TBg := by
  intro w hw
  obtain ⟨k, hk, rfl⟩ := List.mem_map.mp hw
  have hk := List.mem_range.mp hk
  match k, hk with
  | 0, _ => exact t_147
  | 1, _ => exact t_149
  | 2, _ => exact t_151
  | 3, _ => exact t_153
  | 4, _ => exact t_155
  | 5, _ => exact t_157
  | k + 6, hk => exact absurd hk (by omega)
theorem dfX0 : ∀ j, j < 6 → defaultValue (tyX0 j) = vp_V [.int 0, .int 0, .int 0, .int 0, .int 0, .null] j := by
  intro j hj
  match j, hj with
  | 0, _ => rfl
  | 1, _ => rfl
  | 2, _ => rfl
  | 3, _ => rfl
  | 4, _ => rfl
  | 5, _ => rfl
  | j + 6, hj => exact absurd hj (by omega)
theorem iX1 : ∀ w ∈ u_ws RX1 TX1 4, w ∈ TBg := by
  intro w hw
  obtain ⟨k, hk, rfl⟩ := List.mem_map.mp hw
  have hk := List.mem_range.mp hk
  match k, hk with
  | 0, _ => exact t_291
  | 1, _ => exact t_293
  | 2, _ => exact t_295
  | 3, _ => exact t_297
  | k + 4, hk => exact absurd hk (by omega)
theorem dfX1 : ∀ j, j < 4 → defaultValue (tyX1 j) = vp_V [.null, .null, .int 0, .long 0] j := by
  intro j hj
  match j, hj with
  | 0, _ => rfl
  | 1, _ => rfl
  | 2, _ => rfl
  | 3, _ => rfl
  | j + 4, hj => exact absurd hj (by omega)
theorem iX2 : ∀ w ∈ u_ws RX2 TX2 1, w ∈ TBg := by
  intro w hw
  obtain ⟨k, hk, rfl⟩ := List.mem_map.mp hw
  have hk := List.mem_range.mp hk
  match k, hk with
  | 0, _ => exact t_275
  | k + 1, hk => exact absurd hk (by omega)
theorem dfX2 : ∀ j, j < 1 → defaultValue (tyX2 j) = vp_V [.null] j := by
  intro j hj
  match j, hj with
  | 0, _ => rfl
  | j + 1, hj => exact absurd hj (by omega)
theorem iX3 : ∀ w ∈ u_ws RX3 TX3 5, w ∈ TBg := by
  intro w hw
  obtain ⟨k, hk, rfl⟩ := List.mem_map.mp hw
  have hk := List.mem_range.mp hk
  match k, hk with
  | 0, _ => exact t_591
  | 1, _ => exact t_593
  | 2, _ => exact t_595
  | 3, _ => exact t_597
  | 4, _ => exact t_599
  | k + 5, hk => exact absurd hk (by omega)
theorem dfX3 : ∀ j, j < 5 → defaultValue (tyX3 j) = vp_V [.null, .int 0, .null, .null, .null] j := by
  intro j hj
  match j, hj with
  | 0, _ => rfl
  | 1, _ => rfl
  | 2, _ => rfl
  | 3, _ => rfl
  | 4, _ => rfl
  | j + 5, hj => exact absurd hj (by omega)
theorem iX4 : ∀ w ∈ u_ws RX4 TX4 8, w ∈ TBg := by
  intro w hw
  obtain ⟨k, hk, rfl⟩ := List.mem_map.mp hw
  have hk := List.mem_range.mp hk
  match k, hk with
  | 0, _ => exact t_251
  | 1, _ => exact t_253
  | 2, _ => exact t_255
  | 3, _ => exact t_257
  | 4, _ => exact t_259
  | 5, _ => exact t_261
  | 6, _ => exact t_263
  | 7, _ => exact t_265
  | k + 8, hk => exact absurd hk (by omega)
theorem dfX4 : ∀ j, j < 8 → defaultValue (tyX4 j) = vp_V [.null, .null, .int 0, .int 0, .int 0, .null, .null, .null] j := by
  intro j hj
  match j, hj with
  | 0, _ => rfl
  | 1, _ => rfl
  | 2, _ => rfl
  | 3, _ => rfl
  | 4, _ => rfl
  | 5, _ => rfl
  | 6, _ => rfl
  | 7, _ => rfl
  | j + 8, hj => exact absurd hj (by omega)
theorem iX5 : ∀ w ∈ u_ws RX5 TX5 8, w ∈ TBg := by
  intro w hw
  obtain ⟨k, hk, rfl⟩ := List.mem_map.mp hw
  have hk := List.mem_range.mp hk
  match k, hk with
  | 0, _ => exact t_176
  | 1, _ => exact t_178
  | 2, _ => exact t_180
  | 3, _ => exact t_182
  | 4, _ => exact t_184
  | 5, _ => exact t_186
  | 6, _ => exact t_188
  | 7, _ => exact t_190
  | k + 8, hk => exact absurd hk (by omega)
theorem dfX5 : ∀ j, j < 8 → defaultValue (tyX5 j) = vp_V [.null, .null, .int 0, .int 0, .int 0, .null, .int 0, .null] j := by
  intro j hj
  match j, hj with
  | 0, _ => rfl
  | 1, _ => rfl
  | 2, _ => rfl
  | 3, _ => rfl
  | 4, _ => rfl
  | 5, _ => rfl
  | 6, _ => rfl
  | 7, _ => rfl
  | j + 8, hj => exact absurd hj (by omega)
theorem iX6 : ∀ w ∈ u_ws RX6 TX6 9, w ∈ TBg := by
  intro w hw
  obtain ⟨k, hk, rfl⟩ := List.mem_map.mp hw
  have hk := List.mem_range.mp hk
  match k, hk with
  | 0, _ => exact t_223
  | 1, _ => exact t_225
  | 2, _ => exact t_227
  | 3, _ => exact t_229
  | 4, _ => exact t_231
  | 5, _ => exact t_233
  | 6, _ => exact t_235
  | 7, _ => exact t_237
  | 8, _ => exact t_239
  | k + 9, hk => exact absurd hk (by omega)
theorem dfX6 : ∀ j, j < 9 → defaultValue (tyX6 j) = vp_V [.null, .null, .null, .int 0, .int 0, .int 0, .int 0, .int 0, .int 0] j := by
  intro j hj
  match j, hj with
  | 0, _ => rfl
  | 1, _ => rfl
  | 2, _ => rfl
  | 3, _ => rfl
  | 4, _ => rfl
  | 5, _ => rfl
  | 6, _ => rfl
  | 7, _ => rfl
  | 8, _ => rfl
  | j + 9, hj => exact absurd hj (by omega)
theorem iX7 : ∀ w ∈ u_ws RX7 TX7 18, w ∈ TBg := by
  intro w hw
  obtain ⟨k, hk, rfl⟩ := List.mem_map.mp hw
  have hk := List.mem_range.mp hk
  match k, hk with
  | 0, _ => exact t_82
  | 1, _ => exact t_84
  | 2, _ => exact t_86
  | 3, _ => exact t_88
  | 4, _ => exact t_90
  | 5, _ => exact t_92
  | 6, _ => exact t_94
  | 7, _ => exact t_96
  | 8, _ => exact t_98
  | 9, _ => exact t_100
  | 10, _ => exact t_102
  | 11, _ => exact t_104
  | 12, _ => exact t_106
  | 13, _ => exact t_108
  | 14, _ => exact t_110
  | 15, _ => exact t_112
  | 16, _ => exact t_114
  | 17, _ => exact t_116
  | k + 18, hk => exact absurd hk (by omega)
theorem dfX7 : ∀ j, j < 18 → defaultValue (tyX7 j) = vp_V [.int 0, .int 0, .int 0, .int 0, .int 0, .null, .null, .null, .null, .null, .null, .null, .null, .null, .null, .null, .null, .int 0] j := by
  intro j hj
  match j, hj with
  | 0, _ => rfl
  | 1, _ => rfl
  | 2, _ => rfl
  | 3, _ => rfl
  | 4, _ => rfl
  | 5, _ => rfl
  | 6, _ => rfl
  | 7, _ => rfl
  | 8, _ => rfl
  | 9, _ => rfl
  | 10, _ => rfl
  | 11, _ => rfl
  | 12, _ => rfl
  | 13, _ => rfl
  | 14, _ => rfl
  | 15, _ => rfl
  | 16, _ => rfl
  | 17, _ => rfl
  | j + 18, hj => exact absurd hj (by omega)
theorem iX8 : ∀ w ∈ u_ws RX8 TX8 11, w ∈ TBg := by
  intro w hw
  obtain ⟨k, hk, rfl⟩ := List.mem_map.mp hw
  have hk := List.mem_range.mp hk
  match k, hk with
  | 0, _ => exact t_311
  | 1, _ => exact t_313
  | 2, _ => exact t_315
  | 3, _ => exact t_317
  | 4, _ => exact t_319
  | 5, _ => exact t_321
  | 6, _ => exact t_323
  | 7, _ => exact t_325
  | 8, _ => exact t_327
  | 9, _ => exact t_329
  | 10, _ => exact t_331
  | k + 11, hk => exact absurd hk (by omega)
theorem dfX8 : ∀ j, j < 11 → defaultValue (tyX8 j) = vp_V [.null, .int 0, .null, .int 0, .int 0, .null, .null, .null, .null, .null, .null] j := by
  intro j hj
  match j, hj with
  | 0, _ => rfl
  | 1, _ => rfl
  | 2, _ => rfl
  | 3, _ => rfl
  | 4, _ => rfl
  | 5, _ => rfl
  | 6, _ => rfl
  | 7, _ => rfl
  | 8, _ => rfl
  | 9, _ => rfl
  | 10, _ => rfl
  | j + 11, hj => exact absurd hj (by omega)
theorem iX9 : ∀ w ∈ u_ws RX9 TX9 36, w ∈ TBg := by
  intro w hw
  obtain ⟨k, hk, rfl⟩ := List.mem_map.mp hw
  have hk := List.mem_range.mp hk
  match k, hk with
  | 0, _ => exact t_918
  | 1, _ => exact t_920
  | 2, _ => exact t_922
  | 3, _ => exact t_924
  | 4, _ => exact t_926
  | 5, _ => exact t_928
  | 6, _ => exact t_930
  | 7, _ => exact t_932
  | 8, _ => exact t_934
  | 9, _ => exact t_936
  | 10, _ => exact t_938
  | 11, _ => exact t_940
  | 12, _ => exact t_942
  | 13, _ => exact t_944
  | 14, _ => exact t_946
  | 15, _ => exact t_948
  | 16, _ => exact t_950
  | 17, _ => exact t_952
  | 18, _ => exact t_954
  | 19, _ => exact t_956
  | 20, _ => exact t_958
  | 21, _ => exact t_960
  | 22, _ => exact t_962
  | 23, _ => exact t_964
  | 24, _ => exact t_966
  | 25, _ => exact t_968
  | 26, _ => exact t_970
  | 27, _ => exact t_972
  | 28, _ => exact t_974
  | 29, _ => exact t_976
  | 30, _ => exact t_978
  | 31, _ => exact t_980
  | 32, _ => exact t_982
  | 33, _ => exact t_984
  | 34, _ => exact t_986
  | 35, _ => exact t_988
  | k + 36, hk => exact absurd hk (by omega)
theorem dfX9 : ∀ j, j < 36 → defaultValue (tyX9 j) = vp_V [.null, .int 0, .int 0, .null, .null, .null, .null, .int 0, .int 0, .int 0, .null, .null, .int 0, .int 0, .int 0, .int 0, .int 0, .int 0, .int 0, .null, .int 0, .null, .int 0, .null, .null, .null, .null, .null, .null, .null, .null, .null, .null, .null, .null, .null] j := by
  intro j hj
  match j, hj with
  | 0, _ => rfl
  | 1, _ => rfl
  | 2, _ => rfl
  | 3, _ => rfl
  | 4, _ => rfl
  | 5, _ => rfl
  | 6, _ => rfl
  | 7, _ => rfl
  | 8, _ => rfl
  | 9, _ => rfl
  | 10, _ => rfl
  | 11, _ => rfl
  | 12, _ => rfl
  | 13, _ => rfl
  | 14, _ => rfl
  | 15, _ => rfl
  | 16, _ => rfl
  | 17, _ => rfl
  | 18, _ => rfl
  | 19, _ => rfl
  | 20, _ => rfl
  | 21, _ => rfl
  | 22, _ => rfl
  | 23, _ => rfl
  | 24, _ => rfl
  | 25, _ => rfl
  | 26, _ => rfl
  | 27, _ => rfl
  | 28, _ => rfl
  | 29, _ => rfl
  | 30, _ => rfl
  | 31, _ => rfl
  | 32, _ => rfl
  | 33, _ => rfl
  | 34, _ => rfl
  | 35, _ => rfl
  | j + 36, hj => exact absurd hj (by omega)
