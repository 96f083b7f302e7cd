abbrev ML_law : Mt := (yL_law, cL_law, 4, some .boolean)
abbrev MX9_begins : Mt := (yX9_begins, cX9_begins, 3, none)
abbrev MX9_feed : Mt := (yX9_feed, cX9_feed, 6, some .int)
abbrev MX9_four : Mt := (yX9_four, cX9_four, 3, none)
abbrev MX9_game : Mt := (yX9_game, cX9_game, 4, some .int)
abbrev MX9_in : Mt := (yX9_in, cX9_in, 6, some .boolean)
abbrev MX9_takes : Mt := (yX9_takes, cX9_takes, 11, none)
abbrev MX9_faultOf : Mt := (yX9_faultOf, cX9_faultOf, 3, some .int)
abbrev MX9_kindOf : Mt := (yX9_kindOf, cX9_kindOf, 3, some .int)
abbrev MX9_hundreds : Mt := (yX9_hundreds, cX9_hundreds, 5, some .long)
abbrev MX9_triesAs : Mt := (yX9_triesAs, cX9_triesAs, 4, none)
theorem t_9 : Cond.initialized RX9 ∈ TBg := tb_of (List.mem_of_getElem? (i := 9) (by decide +kernel)) (by decide +kernel)
theorem t_82 : Cond.laysFinal RX7 "PaidMistakes$Work" "serial" "I" ∈ TBg := tb_of (List.mem_of_getElem? (i := 82) (by decide +kernel)) (by decide +kernel)
theorem t_84 : Cond.lays RX7 "PaidMistakes$Work" "time" "I" ∈ TBg := tb_of (List.mem_of_getElem? (i := 84) (by decide +kernel)) (by decide +kernel)
theorem t_86 : Cond.lays RX7 "PaidMistakes$Work" "kinds" "I" ∈ TBg := tb_of (List.mem_of_getElem? (i := 86) (by decide +kernel)) (by decide +kernel)
theorem t_88 : Cond.lays RX7 "PaidMistakes$Work" "faults" "I" ∈ TBg := tb_of (List.mem_of_getElem? (i := 88) (by decide +kernel)) (by decide +kernel)
theorem t_90 : Cond.lays RX7 "PaidMistakes$Work" "timeTold" "Z" ∈ TBg := tb_of (List.mem_of_getElem? (i := 90) (by decide +kernel)) (by decide +kernel)
theorem t_92 : Cond.laysFinal RX7 "PaidMistakes$Work" "kindPay" "[I" ∈ TBg := tb_of (List.mem_of_getElem? (i := 92) (by decide +kernel)) (by decide +kernel)
theorem t_94 : Cond.laysFinal RX7 "PaidMistakes$Work" "kindHide" "[I" ∈ TBg := tb_of (List.mem_of_getElem? (i := 94) (by decide +kernel)) (by decide +kernel)
theorem t_96 : Cond.laysFinal RX7 "PaidMistakes$Work" "kindMend" "[I" ∈ TBg := tb_of (List.mem_of_getElem? (i := 96) (by decide +kernel)) (by decide +kernel)
theorem t_98 : Cond.laysFinal RX7 "PaidMistakes$Work" "kindOf" "[I" ∈ TBg := tb_of (List.mem_of_getElem? (i := 98) (by decide +kernel)) (by decide +kernel)
theorem t_100 : Cond.laysFinal RX7 "PaidMistakes$Work" "minutes" "[I" ∈ TBg := tb_of (List.mem_of_getElem? (i := 100) (by decide +kernel)) (by decide +kernel)
theorem t_102 : Cond.laysFinal RX7 "PaidMistakes$Work" "odds" "[I" ∈ TBg := tb_of (List.mem_of_getElem? (i := 102) (by decide +kernel)) (by decide +kernel)
theorem t_104 : Cond.laysFinal RX7 "PaidMistakes$Work" "under" "[I" ∈ TBg := tb_of (List.mem_of_getElem? (i := 104) (by decide +kernel)) (by decide +kernel)
theorem t_106 : Cond.laysFinal RX7 "PaidMistakes$Work" "pay" "[I" ∈ TBg := tb_of (List.mem_of_getElem? (i := 106) (by decide +kernel)) (by decide +kernel)
theorem t_108 : Cond.laysFinal RX7 "PaidMistakes$Work" "hide" "[I" ∈ TBg := tb_of (List.mem_of_getElem? (i := 108) (by decide +kernel)) (by decide +kernel)
theorem t_110 : Cond.laysFinal RX7 "PaidMistakes$Work" "mend" "[I" ∈ TBg := tb_of (List.mem_of_getElem? (i := 110) (by decide +kernel)) (by decide +kernel)
theorem t_112 : Cond.laysFinal RX7 "PaidMistakes$Work" "oneLook" "[I" ∈ TBg := tb_of (List.mem_of_getElem? (i := 112) (by decide +kernel)) (by decide +kernel)
theorem t_114 : Cond.laysFinal RX7 "PaidMistakes$Work" "byOneLook" "[I" ∈ TBg := tb_of (List.mem_of_getElem? (i := 114) (by decide +kernel)) (by decide +kernel)
theorem t_116 : Cond.lays RX7 "PaidMistakes$Work" "longest" "I" ∈ TBg := tb_of (List.mem_of_getElem? (i := 116) (by decide +kernel)) (by decide +kernel)
theorem t_147 : Cond.lays RX0 "PaidMistakes$Day" "left" "I" ∈ TBg := tb_of (List.mem_of_getElem? (i := 147) (by decide +kernel)) (by decide +kernel)
theorem t_149 : Cond.lays RX0 "PaidMistakes$Day" "earned" "I" ∈ TBg := tb_of (List.mem_of_getElem? (i := 149) (by decide +kernel)) (by decide +kernel)
theorem t_151 : Cond.lays RX0 "PaidMistakes$Day" "found" "I" ∈ TBg := tb_of (List.mem_of_getElem? (i := 151) (by decide +kernel)) (by decide +kernel)
theorem t_153 : Cond.lays RX0 "PaidMistakes$Day" "mended" "I" ∈ TBg := tb_of (List.mem_of_getElem? (i := 153) (by decide +kernel)) (by decide +kernel)
theorem t_155 : Cond.lays RX0 "PaidMistakes$Day" "x" "I" ∈ TBg := tb_of (List.mem_of_getElem? (i := 155) (by decide +kernel)) (by decide +kernel)
theorem t_157 : Cond.laysFinal RX0 "PaidMistakes$Day" "tries" "[I" ∈ TBg := tb_of (List.mem_of_getElem? (i := 157) (by decide +kernel)) (by decide +kernel)
theorem t_176 : Cond.lays RX5 "PaidMistakes$State" "work" "LPaidMistakes$Work;" ∈ TBg := tb_of (List.mem_of_getElem? (i := 176) (by decide +kernel)) (by decide +kernel)
theorem t_178 : Cond.laysFinal RX5 "PaidMistakes$State" "today" "LPaidMistakes$Day;" ∈ TBg := tb_of (List.mem_of_getElem? (i := 178) (by decide +kernel)) (by decide +kernel)
theorem t_180 : Cond.lays RX5 "PaidMistakes$State" "masterCoins" "I" ∈ TBg := tb_of (List.mem_of_getElem? (i := 180) (by decide +kernel)) (by decide +kernel)
theorem t_182 : Cond.lays RX5 "PaidMistakes$State" "earnedBefore" "I" ∈ TBg := tb_of (List.mem_of_getElem? (i := 182) (by decide +kernel)) (by decide +kernel)
theorem t_184 : Cond.lays RX5 "PaidMistakes$State" "days" "I" ∈ TBg := tb_of (List.mem_of_getElem? (i := 184) (by decide +kernel)) (by decide +kernel)
theorem t_186 : Cond.laysFinal RX5 "PaidMistakes$State" "row" "[I" ∈ TBg := tb_of (List.mem_of_getElem? (i := 186) (by decide +kernel)) (by decide +kernel)
theorem t_188 : Cond.lays RX5 "PaidMistakes$State" "rowLength" "I" ∈ TBg := tb_of (List.mem_of_getElem? (i := 188) (by decide +kernel)) (by decide +kernel)
theorem t_190 : Cond.laysFinal RX5 "PaidMistakes$State" "game" "[I" ∈ TBg := tb_of (List.mem_of_getElem? (i := 190) (by decide +kernel)) (by decide +kernel)
theorem t_223 : Cond.laysFinal RX6 "PaidMistakes$Text" "codes" "[I" ∈ TBg := tb_of (List.mem_of_getElem? (i := 223) (by decide +kernel)) (by decide +kernel)
theorem t_225 : Cond.laysFinal RX6 "PaidMistakes$Text" "places" "[I" ∈ TBg := tb_of (List.mem_of_getElem? (i := 225) (by decide +kernel)) (by decide +kernel)
theorem t_227 : Cond.laysFinal RX6 "PaidMistakes$Text" "numbers" "[I" ∈ TBg := tb_of (List.mem_of_getElem? (i := 227) (by decide +kernel)) (by decide +kernel)
theorem t_229 : Cond.lays RX6 "PaidMistakes$Text" "tokens" "I" ∈ TBg := tb_of (List.mem_of_getElem? (i := 229) (by decide +kernel)) (by decide +kernel)
theorem t_231 : Cond.lays RX6 "PaidMistakes$Text" "next" "I" ∈ TBg := tb_of (List.mem_of_getElem? (i := 231) (by decide +kernel)) (by decide +kernel)
theorem t_233 : Cond.lays RX6 "PaidMistakes$Text" "code" "I" ∈ TBg := tb_of (List.mem_of_getElem? (i := 233) (by decide +kernel)) (by decide +kernel)
theorem t_235 : Cond.lays RX6 "PaidMistakes$Text" "place" "I" ∈ TBg := tb_of (List.mem_of_getElem? (i := 235) (by decide +kernel)) (by decide +kernel)
theorem t_237 : Cond.lays RX6 "PaidMistakes$Text" "number" "I" ∈ TBg := tb_of (List.mem_of_getElem? (i := 237) (by decide +kernel)) (by decide +kernel)
theorem t_239 : Cond.lays RX6 "PaidMistakes$Text" "fault" "I" ∈ TBg := tb_of (List.mem_of_getElem? (i := 239) (by decide +kernel)) (by decide +kernel)
theorem t_251 : Cond.laysFinal RX4 "PaidMistakes$RuleReader" "text" "LPaidMistakes$Text;" ∈ TBg := tb_of (List.mem_of_getElem? (i := 251) (by decide +kernel)) (by decide +kernel)
theorem t_253 : Cond.laysFinal RX4 "PaidMistakes$RuleReader" "code" "[I" ∈ TBg := tb_of (List.mem_of_getElem? (i := 253) (by decide +kernel)) (by decide +kernel)
theorem t_255 : Cond.lays RX4 "PaidMistakes$RuleReader" "length" "I" ∈ TBg := tb_of (List.mem_of_getElem? (i := 255) (by decide +kernel)) (by decide +kernel)
theorem t_257 : Cond.lays RX4 "PaidMistakes$RuleReader" "pieces" "I" ∈ TBg := tb_of (List.mem_of_getElem? (i := 257) (by decide +kernel)) (by decide +kernel)
theorem t_259 : Cond.lays RX4 "PaidMistakes$RuleReader" "clauses" "I" ∈ TBg := tb_of (List.mem_of_getElem? (i := 259) (by decide +kernel)) (by decide +kernel)
theorem t_261 : Cond.laysFinal RX4 "PaidMistakes$RuleReader" "begin" "[I" ∈ TBg := tb_of (List.mem_of_getElem? (i := 261) (by decide +kernel)) (by decide +kernel)
theorem t_263 : Cond.laysFinal RX4 "PaidMistakes$RuleReader" "middle" "[I" ∈ TBg := tb_of (List.mem_of_getElem? (i := 263) (by decide +kernel)) (by decide +kernel)
theorem t_265 : Cond.laysFinal RX4 "PaidMistakes$RuleReader" "finish" "[I" ∈ TBg := tb_of (List.mem_of_getElem? (i := 265) (by decide +kernel)) (by decide +kernel)
theorem t_275 : Cond.laysFinal RX2 "PaidMistakes$Player" "stack" "[J" ∈ TBg := tb_of (List.mem_of_getElem? (i := 275) (by decide +kernel)) (by decide +kernel)
theorem t_291 : Cond.laysFinal RX1 "PaidMistakes$Planner" "keys" "[J" ∈ TBg := tb_of (List.mem_of_getElem? (i := 291) (by decide +kernel)) (by decide +kernel)
theorem t_293 : Cond.laysFinal RX1 "PaidMistakes$Planner" "kept" "[J" ∈ TBg := tb_of (List.mem_of_getElem? (i := 293) (by decide +kernel)) (by decide +kernel)
theorem t_295 : Cond.lays RX1 "PaidMistakes$Planner" "setToMend" "I" ∈ TBg := tb_of (List.mem_of_getElem? (i := 295) (by decide +kernel)) (by decide +kernel)
theorem t_297 : Cond.lays RX1 "PaidMistakes$Planner" "meanOfSet" "J" ∈ TBg := tb_of (List.mem_of_getElem? (i := 297) (by decide +kernel)) (by decide +kernel)
theorem t_311 : Cond.laysFinal RX8 "PaidMistakes" "tape" "[I" ∈ TBg := tb_of (List.mem_of_getElem? (i := 311) (by decide +kernel)) (by decide +kernel)
theorem t_313 : Cond.lays RX8 "PaidMistakes" "tapeLength" "I" ∈ TBg := tb_of (List.mem_of_getElem? (i := 313) (by decide +kernel)) (by decide +kernel)
theorem t_315 : Cond.laysFinal RX8 "PaidMistakes" "rules" "[LPaidMistakes$Rule;" ∈ TBg := tb_of (List.mem_of_getElem? (i := 315) (by decide +kernel)) (by decide +kernel)
theorem t_317 : Cond.lays RX8 "PaidMistakes" "ruleCount" "I" ∈ TBg := tb_of (List.mem_of_getElem? (i := 317) (by decide +kernel)) (by decide +kernel)
theorem t_319 : Cond.lays RX8 "PaidMistakes" "worksTold" "I" ∈ TBg := tb_of (List.mem_of_getElem? (i := 319) (by decide +kernel)) (by decide +kernel)
theorem t_321 : Cond.laysFinal RX8 "PaidMistakes" "now" "LPaidMistakes$State;" ∈ TBg := tb_of (List.mem_of_getElem? (i := 321) (by decide +kernel)) (by decide +kernel)
theorem t_323 : Cond.laysFinal RX8 "PaidMistakes" "images" "[LPaidMistakes$State;" ∈ TBg := tb_of (List.mem_of_getElem? (i := 323) (by decide +kernel)) (by decide +kernel)
theorem t_325 : Cond.laysFinal RX8 "PaidMistakes" "trial" "LPaidMistakes$Day;" ∈ TBg := tb_of (List.mem_of_getElem? (i := 325) (by decide +kernel)) (by decide +kernel)
theorem t_327 : Cond.laysFinal RX8 "PaidMistakes" "ruleReader" "LPaidMistakes$RuleReader;" ∈ TBg := tb_of (List.mem_of_getElem? (i := 327) (by decide +kernel)) (by decide +kernel)
theorem t_329 : Cond.laysFinal RX8 "PaidMistakes" "player" "LPaidMistakes$Player;" ∈ TBg := tb_of (List.mem_of_getElem? (i := 329) (by decide +kernel)) (by decide +kernel)
theorem t_331 : Cond.laysFinal RX8 "PaidMistakes" "planner" "LPaidMistakes$Planner;" ∈ TBg := tb_of (List.mem_of_getElem? (i := 331) (by decide +kernel)) (by decide +kernel)
theorem t_591 : Cond.laysFinal RX3 "PaidMistakes$Rule" "code" "[I" ∈ TBg := tb_of (List.mem_of_getElem? (i := 591) (by decide +kernel)) (by decide +kernel)
theorem t_593 : Cond.laysFinal RX3 "PaidMistakes$Rule" "clauses" "I" ∈ TBg := tb_of (List.mem_of_getElem? (i := 593) (by decide +kernel)) (by decide +kernel)
theorem t_595 : Cond.laysFinal RX3 "PaidMistakes$Rule" "begin" "[I" ∈ TBg := tb_of (List.mem_of_getElem? (i := 595) (by decide +kernel)) (by decide +kernel)
theorem t_597 : Cond.laysFinal RX3 "PaidMistakes$Rule" "middle" "[I" ∈ TBg := tb_of (List.mem_of_getElem? (i := 597) (by decide +kernel)) (by decide +kernel)
theorem t_599 : Cond.laysFinal RX3 "PaidMistakes$Rule" "finish" "[I" ∈ TBg := tb_of (List.mem_of_getElem? (i := 599) (by decide +kernel)) (by decide +kernel)
theorem t_882 : Cond.fieldLink RX9 7 "PaidMistakesModel" "tape" "[B" ∈ TBg := tb_of (List.mem_of_getElem? (i := 882) (by decide +kernel)) (by decide +kernel)
theorem t_883 : Cond.fieldLink RX9 79 "PaidMistakesModel" "taped" "I" ∈ TBg := tb_of (List.mem_of_getElem? (i := 883) (by decide +kernel)) (by decide +kernel)
theorem t_906 : Cond.fieldLink RX9 42 "PaidMistakesModel" "said" "[I" ∈ TBg := tb_of (List.mem_of_getElem? (i := 906) (by decide +kernel)) (by decide +kernel)
theorem t_908 : Cond.fieldLink RX9 48 "PaidMistakesModel" "triedAt" "[I" ∈ TBg := tb_of (List.mem_of_getElem? (i := 908) (by decide +kernel)) (by decide +kernel)
theorem t_909 : Cond.fieldLink RX9 51 "PaidMistakesModel" "isFoundAt" "[Z" ∈ TBg := tb_of (List.mem_of_getElem? (i := 909) (by decide +kernel)) (by decide +kernel)
theorem t_910 : Cond.fieldLink RX9 55 "PaidMistakesModel" "foundBrings" "[J" ∈ TBg := tb_of (List.mem_of_getElem? (i := 910) (by decide +kernel)) (by decide +kernel)
theorem t_911 : Cond.fieldLink RX9 58 "PaidMistakesModel" "foundHides" "[J" ∈ TBg := tb_of (List.mem_of_getElem? (i := 911) (by decide +kernel)) (by decide +kernel)
theorem t_912 : Cond.fieldLink RX9 61 "PaidMistakesModel" "bestBrings" "[J" ∈ TBg := tb_of (List.mem_of_getElem? (i := 912) (by decide +kernel)) (by decide +kernel)
theorem t_913 : Cond.fieldLink RX9 64 "PaidMistakesModel" "bestHides" "[J" ∈ TBg := tb_of (List.mem_of_getElem? (i := 913) (by decide +kernel)) (by decide +kernel)
theorem t_914 : Cond.fieldLink RX9 67 "PaidMistakesModel" "bestLook" "[I" ∈ TBg := tb_of (List.mem_of_getElem? (i := 914) (by decide +kernel)) (by decide +kernel)
theorem t_915 : Cond.fieldLink RX9 70 "PaidMistakesModel" "leftAt" "[I" ∈ TBg := tb_of (List.mem_of_getElem? (i := 915) (by decide +kernel)) (by decide +kernel)
theorem t_918 : Cond.laysFinal RX9 "PaidMistakesModel" "tape" "[B" ∈ TBg := tb_of (List.mem_of_getElem? (i := 918) (by decide +kernel)) (by decide +kernel)
theorem t_920 : Cond.lays RX9 "PaidMistakesModel" "taped" "I" ∈ TBg := tb_of (List.mem_of_getElem? (i := 920) (by decide +kernel)) (by decide +kernel)
theorem t_922 : Cond.lays RX9 "PaidMistakesModel" "rules" "I" ∈ TBg := tb_of (List.mem_of_getElem? (i := 922) (by decide +kernel)) (by decide +kernel)
theorem t_924 : Cond.laysFinal RX9 "PaidMistakesModel" "sign" "[I" ∈ TBg := tb_of (List.mem_of_getElem? (i := 924) (by decide +kernel)) (by decide +kernel)
theorem t_926 : Cond.laysFinal RX9 "PaidMistakesModel" "length" "[I" ∈ TBg := tb_of (List.mem_of_getElem? (i := 926) (by decide +kernel)) (by decide +kernel)
theorem t_928 : Cond.laysFinal RX9 "PaidMistakesModel" "clause" "[I" ∈ TBg := tb_of (List.mem_of_getElem? (i := 928) (by decide +kernel)) (by decide +kernel)
theorem t_930 : Cond.laysFinal RX9 "PaidMistakesModel" "clauses" "[I" ∈ TBg := tb_of (List.mem_of_getElem? (i := 930) (by decide +kernel)) (by decide +kernel)
theorem t_932 : Cond.lays RX9 "PaidMistakesModel" "timeRead" "I" ∈ TBg := tb_of (List.mem_of_getElem? (i := 932) (by decide +kernel)) (by decide +kernel)
theorem t_934 : Cond.lays RX9 "PaidMistakesModel" "kindsRead" "I" ∈ TBg := tb_of (List.mem_of_getElem? (i := 934) (by decide +kernel)) (by decide +kernel)
theorem t_936 : Cond.lays RX9 "PaidMistakesModel" "faultsRead" "I" ∈ TBg := tb_of (List.mem_of_getElem? (i := 936) (by decide +kernel)) (by decide +kernel)
theorem t_938 : Cond.laysFinal RX9 "PaidMistakesModel" "kindRead" "[I" ∈ TBg := tb_of (List.mem_of_getElem? (i := 938) (by decide +kernel)) (by decide +kernel)
theorem t_940 : Cond.laysFinal RX9 "PaidMistakesModel" "faultRead" "[I" ∈ TBg := tb_of (List.mem_of_getElem? (i := 940) (by decide +kernel)) (by decide +kernel)
theorem t_942 : Cond.lays RX9 "PaidMistakesModel" "next" "I" ∈ TBg := tb_of (List.mem_of_getElem? (i := 942) (by decide +kernel)) (by decide +kernel)
theorem t_944 : Cond.lays RX9 "PaidMistakesModel" "wrong" "I" ∈ TBg := tb_of (List.mem_of_getElem? (i := 944) (by decide +kernel)) (by decide +kernel)
theorem t_946 : Cond.lays RX9 "PaidMistakesModel" "number" "I" ∈ TBg := tb_of (List.mem_of_getElem? (i := 946) (by decide +kernel)) (by decide +kernel)
theorem t_948 : Cond.lays RX9 "PaidMistakesModel" "text" "I" ∈ TBg := tb_of (List.mem_of_getElem? (i := 948) (by decide +kernel)) (by decide +kernel)
theorem t_950 : Cond.lays RX9 "PaidMistakesModel" "made" "I" ∈ TBg := tb_of (List.mem_of_getElem? (i := 950) (by decide +kernel)) (by decide +kernel)
theorem t_952 : Cond.lays RX9 "PaidMistakesModel" "deep" "I" ∈ TBg := tb_of (List.mem_of_getElem? (i := 952) (by decide +kernel)) (by decide +kernel)
theorem t_954 : Cond.lays RX9 "PaidMistakesModel" "lines" "I" ∈ TBg := tb_of (List.mem_of_getElem? (i := 954) (by decide +kernel)) (by decide +kernel)
theorem t_956 : Cond.laysFinal RX9 "PaidMistakesModel" "open" "[I" ∈ TBg := tb_of (List.mem_of_getElem? (i := 956) (by decide +kernel)) (by decide +kernel)
theorem t_958 : Cond.lays RX9 "PaidMistakesModel" "opened" "I" ∈ TBg := tb_of (List.mem_of_getElem? (i := 958) (by decide +kernel)) (by decide +kernel)
theorem t_960 : Cond.laysFinal RX9 "PaidMistakesModel" "stack" "[J" ∈ TBg := tb_of (List.mem_of_getElem? (i := 960) (by decide +kernel)) (by decide +kernel)
theorem t_962 : Cond.lays RX9 "PaidMistakesModel" "top" "I" ∈ TBg := tb_of (List.mem_of_getElem? (i := 962) (by decide +kernel)) (by decide +kernel)
theorem t_964 : Cond.laysFinal RX9 "PaidMistakesModel" "word" "[J" ∈ TBg := tb_of (List.mem_of_getElem? (i := 964) (by decide +kernel)) (by decide +kernel)
theorem t_966 : Cond.laysFinal RX9 "PaidMistakesModel" "said" "[I" ∈ TBg := tb_of (List.mem_of_getElem? (i := 966) (by decide +kernel)) (by decide +kernel)
theorem t_968 : Cond.laysFinal RX9 "PaidMistakesModel" "kept" "[I" ∈ TBg := tb_of (List.mem_of_getElem? (i := 968) (by decide +kernel)) (by decide +kernel)
theorem t_970 : Cond.laysFinal RX9 "PaidMistakesModel" "triedAt" "[I" ∈ TBg := tb_of (List.mem_of_getElem? (i := 970) (by decide +kernel)) (by decide +kernel)
theorem t_972 : Cond.laysFinal RX9 "PaidMistakesModel" "isFoundAt" "[Z" ∈ TBg := tb_of (List.mem_of_getElem? (i := 972) (by decide +kernel)) (by decide +kernel)
theorem t_974 : Cond.laysFinal RX9 "PaidMistakesModel" "foundBrings" "[J" ∈ TBg := tb_of (List.mem_of_getElem? (i := 974) (by decide +kernel)) (by decide +kernel)
theorem t_976 : Cond.laysFinal RX9 "PaidMistakesModel" "foundHides" "[J" ∈ TBg := tb_of (List.mem_of_getElem? (i := 976) (by decide +kernel)) (by decide +kernel)
theorem t_978 : Cond.laysFinal RX9 "PaidMistakesModel" "bestBrings" "[J" ∈ TBg := tb_of (List.mem_of_getElem? (i := 978) (by decide +kernel)) (by decide +kernel)
theorem t_980 : Cond.laysFinal RX9 "PaidMistakesModel" "bestHides" "[J" ∈ TBg := tb_of (List.mem_of_getElem? (i := 980) (by decide +kernel)) (by decide +kernel)
theorem t_982 : Cond.laysFinal RX9 "PaidMistakesModel" "bestLook" "[I" ∈ TBg := tb_of (List.mem_of_getElem? (i := 982) (by decide +kernel)) (by decide +kernel)
theorem t_984 : Cond.laysFinal RX9 "PaidMistakesModel" "leftAt" "[I" ∈ TBg := tb_of (List.mem_of_getElem? (i := 984) (by decide +kernel)) (by decide +kernel)
theorem t_986 : Cond.laysFinal RX9 "PaidMistakesModel" "images" "[I" ∈ TBg := tb_of (List.mem_of_getElem? (i := 986) (by decide +kernel)) (by decide +kernel)
theorem t_988 : Cond.laysFinal RX9 "PaidMistakesModel" "isMade" "[Z" ∈ TBg := tb_of (List.mem_of_getElem? (i := 988) (by decide +kernel)) (by decide +kernel)
theorem t_996 : Cond.methodLink RX9 83 yX9_four ∈ TBg := tb_of (List.mem_of_getElem? (i := 996) (by decide +kernel)) (by decide +kernel)
theorem t_998 : Cond.instanceMethod yX9_four ∈ TBg := tb_of (List.mem_of_getElem? (i := 998) (by decide +kernel)) (by decide +kernel)
theorem t_999 : cw MX9_four ∈ TBg := tb_of (List.mem_of_getElem? (i := 999) (by decide +kernel)) (by decide +kernel)
theorem t_1066 : Cond.methodLink RX9 118 yX9_in ∈ TBg := tb_of (List.mem_of_getElem? (i := 1066) (by decide +kernel)) (by decide +kernel)
theorem t_1067 : Cond.static yX9_in ∈ TBg := tb_of (List.mem_of_getElem? (i := 1067) (by decide +kernel)) (by decide +kernel)
theorem t_1068 : cw MX9_in ∈ TBg := tb_of (List.mem_of_getElem? (i := 1068) (by decide +kernel)) (by decide +kernel)
theorem t_1158 : Cond.methodLink RX9 268 yX9_faultOf ∈ TBg := tb_of (List.mem_of_getElem? (i := 1158) (by decide +kernel)) (by decide +kernel)
theorem t_1160 : Cond.instanceMethod yX9_faultOf ∈ TBg := tb_of (List.mem_of_getElem? (i := 1160) (by decide +kernel)) (by decide +kernel)
theorem t_1161 : cw MX9_faultOf ∈ TBg := tb_of (List.mem_of_getElem? (i := 1161) (by decide +kernel)) (by decide +kernel)
theorem t_1186 : Cond.methodLink RX9 275 yX9_kindOf ∈ TBg := tb_of (List.mem_of_getElem? (i := 1186) (by decide +kernel)) (by decide +kernel)
theorem t_1188 : Cond.instanceMethod yX9_kindOf ∈ TBg := tb_of (List.mem_of_getElem? (i := 1188) (by decide +kernel)) (by decide +kernel)
theorem t_1189 : cw MX9_kindOf ∈ TBg := tb_of (List.mem_of_getElem? (i := 1189) (by decide +kernel)) (by decide +kernel)
theorem t_1299 : Cond.constantLong RX9 352 (100) ∈ TBg := tb_of (List.mem_of_getElem? (i := 1299) (by decide +kernel)) (by decide +kernel)
theorem t_1300 : Cond.methodLink RX9 367 yX9_hundreds ∈ TBg := tb_of (List.mem_of_getElem? (i := 1300) (by decide +kernel)) (by decide +kernel)
theorem t_1302 : Cond.instanceMethod yX9_hundreds ∈ TBg := tb_of (List.mem_of_getElem? (i := 1302) (by decide +kernel)) (by decide +kernel)
theorem t_1303 : cw MX9_hundreds ∈ TBg := tb_of (List.mem_of_getElem? (i := 1303) (by decide +kernel)) (by decide +kernel)
theorem t_1336 : Cond.methodLink RX9 374 yX9_triesAs ∈ TBg := tb_of (List.mem_of_getElem? (i := 1336) (by decide +kernel)) (by decide +kernel)
theorem t_1338 : Cond.instanceMethod yX9_triesAs ∈ TBg := tb_of (List.mem_of_getElem? (i := 1338) (by decide +kernel)) (by decide +kernel)
theorem t_1339 : cw MX9_triesAs ∈ TBg := tb_of (List.mem_of_getElem? (i := 1339) (by decide +kernel)) (by decide +kernel)
theorem t_1349 : Cond.constantLong RX9 395 (7) ∈ TBg := tb_of (List.mem_of_getElem? (i := 1349) (by decide +kernel)) (by decide +kernel)
theorem t_1350 : Cond.constantLong RX9 397 (-99) ∈ TBg := tb_of (List.mem_of_getElem? (i := 1350) (by decide +kernel)) (by decide +kernel)
theorem t_1351 : Cond.constantLong RX9 399 (99) ∈ TBg := tb_of (List.mem_of_getElem? (i := 1351) (by decide +kernel)) (by decide +kernel)
theorem s_X9_four : Cond.selects yX9_four.cls yX9_four yX9_four ∈ TBg := tb_sel (q := (yX9_four, 36)) (by decide +kernel)
theorem okN_X9_four : okN MX9_four 1 := ⟨by decide, by decide, by decide +kernel⟩
theorem okN_X9_in : okN MX9_in 3 := ⟨by decide, by decide, by decide +kernel⟩
theorem s_X9_faultOf : Cond.selects yX9_faultOf.cls yX9_faultOf yX9_faultOf ∈ TBg := tb_sel (q := (yX9_faultOf, 36)) (by decide +kernel)
theorem okN_X9_faultOf : okN MX9_faultOf 2 := ⟨by decide, by decide, by decide +kernel⟩
theorem s_X9_kindOf : Cond.selects yX9_kindOf.cls yX9_kindOf yX9_kindOf ∈ TBg := tb_sel (q := (yX9_kindOf, 36)) (by decide +kernel)
theorem okN_X9_kindOf : okN MX9_kindOf 2 := ⟨by decide, by decide, by decide +kernel⟩
theorem s_X9_hundreds : Cond.selects yX9_hundreds.cls yX9_hundreds yX9_hundreds ∈ TBg := tb_sel (q := (yX9_hundreds, 36)) (by decide +kernel)
theorem okN_X9_hundreds : okN MX9_hundreds 1 := ⟨by decide, by decide, by decide +kernel⟩
theorem s_X9_triesAs : Cond.selects yX9_triesAs.cls yX9_triesAs yX9_triesAs ∈ TBg := tb_sel (q := (yX9_triesAs, 36)) (by decide +kernel)
theorem okN_X9_triesAs : okN MX9_triesAs 2 := ⟨by decide, by decide, by decide +kernel⟩
theorem lk_V_9_83 : LkV RX9 83 MX9_four := ⟨t_999, t_9, t_996, t_998, s_X9_four⟩
theorem lk_S_9_118 : LkS RX9 118 MX9_in := ⟨t_1068, t_9, t_1066, t_1067⟩
theorem lk_V_9_268 : LkV RX9 268 MX9_faultOf := ⟨t_1161, t_9, t_1158, t_1160, s_X9_faultOf⟩
theorem lk_V_9_275 : LkV RX9 275 MX9_kindOf := ⟨t_1189, t_9, t_1186, t_1188, s_X9_kindOf⟩
theorem lk_V_9_367 : LkV RX9 367 MX9_hundreds := ⟨t_1303, t_9, t_1300, t_1302, s_X9_hundreds⟩
theorem lk_V_9_374 : LkV RX9 374 MX9_triesAs := ⟨t_1339, t_9, t_1336, t_1338, s_X9_triesAs⟩
theorem iX0 : ∀ w ∈ u_ws RX0 TX0 6, w ∈ TBg := by
  intro w hw
  obtain ⟨k, hk, rfl⟩ := List.mem_map.mp hw
  have hk := List.mem_range.mp hk
  match k, hk with
  | 0, _ => exact t_147
  | 1, _ => exact t_149
  | 2, _ => exact t_151
  | 3, _ => exact t_153
  | 4, _ => exact t_155
  | 5, _ => exact t_157
  | k + 6, hk => exact absurd hk (by omega)
theorem dfX0 : ∀ j, j < 6 → defaultValue (tyX0 j) = vp_V [.int 0, .int 0, .int 0, .int 0, .int 0, .null] j := by
  intro j hj
  match j, hj with
  | 0, _ => rfl
  | 1, _ => rfl
  | 2, _ => rfl
  | 3, _ => rfl
  | 4, _ => rfl
  | 5, _ => rfl
  | j + 6, hj => exact absurd hj (by omega)
theorem iX1 : ∀ w ∈ u_ws RX1 TX1 4, w ∈ TBg := by
  intro w hw
  obtain ⟨k, hk, rfl⟩ := List.mem_map.mp hw
  have hk := List.mem_range.mp hk
  match k, hk with
  | 0, _ => exact t_291
  | 1, _ => exact t_293
  | 2, _ => exact t_295
  | 3, _ => exact t_297
  | k + 4, hk => exact absurd hk (by omega)
theorem dfX1 : ∀ j, j < 4 → defaultValue (tyX1 j) = vp_V [.null, .null, .int 0, .long 0] j := by
  intro j hj
  match j, hj with
  | 0, _ => rfl
  | 1, _ => rfl
  | 2, _ => rfl
  | 3, _ => rfl
  | j + 4, hj => exact absurd hj (by omega)
theorem iX2 : ∀ w ∈ u_ws RX2 TX2 1, w ∈ TBg := by
  intro w hw
  obtain ⟨k, hk, rfl⟩ := List.mem_map.mp hw
  have hk := List.mem_range.mp hk
  match k, hk with
  | 0, _ => exact t_275
  | k + 1, hk => exact absurd hk (by omega)
theorem dfX2 : ∀ j, j < 1 → defaultValue (tyX2 j) = vp_V [.null] j := by
  intro j hj
  match j, hj with
  | 0, _ => rfl
  | j + 1, hj => exact absurd hj (by omega)
theorem iX3 : ∀ w ∈ u_ws RX3 TX3 5, w ∈ TBg := by
  intro w hw
  obtain ⟨k, hk, rfl⟩ := List.mem_map.mp hw
  have hk := List.mem_range.mp hk
  match k, hk with
  | 0, _ => exact t_591
  | 1, _ => exact t_593
  | 2, _ => exact t_595
  | 3, _ => exact t_597
  | 4, _ => exact t_599
  | k + 5, hk => exact absurd hk (by omega)
theorem dfX3 : ∀ j, j < 5 → defaultValue (tyX3 j) = vp_V [.null, .int 0, .null, .null, .null] j := by
  intro j hj
  match j, hj with
  | 0, _ => rfl
  | 1, _ => rfl
  | 2, _ => rfl
  | 3, _ => rfl
  | 4, _ => rfl
  | j + 5, hj => exact absurd hj (by omega)
theorem iX4 : ∀ w ∈ u_ws RX4 TX4 8, w ∈ TBg := by
  intro w hw
  obtain ⟨k, hk, rfl⟩ := List.mem_map.mp hw
  have hk := List.mem_range.mp hk
  match k, hk with
  | 0, _ => exact t_251
  | 1, _ => exact t_253
  | 2, _ => exact t_255
  | 3, _ => exact t_257
  | 4, _ => exact t_259
  | 5, _ => exact t_261
  | 6, _ => exact t_263
  | 7, _ => exact t_265
  | k + 8, hk => exact absurd hk (by omega)
theorem dfX4 : ∀ j, j < 8 → defaultValue (tyX4 j) = vp_V [.null, .null, .int 0, .int 0, .int 0, .null, .null, .null] j := by
  intro j hj
  match j, hj with
  | 0, _ => rfl
  | 1, _ => rfl
  | 2, _ => rfl
  | 3, _ => rfl
  | 4, _ => rfl
  | 5, _ => rfl
  | 6, _ => rfl
  | 7, _ => rfl
  | j + 8, hj => exact absurd hj (by omega)
theorem iX5 : ∀ w ∈ u_ws RX5 TX5 8, w ∈ TBg := by
  intro w hw
  obtain ⟨k, hk, rfl⟩ := List.mem_map.mp hw
  have hk := List.mem_range.mp hk
  match k, hk with
  | 0, _ => exact t_176
  | 1, _ => exact t_178
  | 2, _ => exact t_180
  | 3, _ => exact t_182
  | 4, _ => exact t_184
  | 5, _ => exact t_186
  | 6, _ => exact t_188
  | 7, _ => exact t_190
  | k + 8, hk => exact absurd hk (by omega)
theorem dfX5 : ∀ j, j < 8 → defaultValue (tyX5 j) = vp_V [.null, .null, .int 0, .int 0, .int 0, .null, .int 0, .null] j := by
  intro j hj
  match j, hj with
  | 0, _ => rfl
  | 1, _ => rfl
  | 2, _ => rfl
  | 3, _ => rfl
  | 4, _ => rfl
  | 5, _ => rfl
  | 6, _ => rfl
  | 7, _ => rfl
  | j + 8, hj => exact absurd hj (by omega)
theorem iX6 : ∀ w ∈ u_ws RX6 TX6 9, w ∈ TBg := by
  intro w hw
  obtain ⟨k, hk, rfl⟩ := List.mem_map.mp hw
  have hk := List.mem_range.mp hk
  match k, hk with
  | 0, _ => exact t_223
  | 1, _ => exact t_225
  | 2, _ => exact t_227
  | 3, _ => exact t_229
  | 4, _ => exact t_231
  | 5, _ => exact t_233
  | 6, _ => exact t_235
  | 7, _ => exact t_237
  | 8, _ => exact t_239
  | k + 9, hk => exact absurd hk (by omega)
theorem dfX6 : ∀ j, j < 9 → defaultValue (tyX6 j) = vp_V [.null, .null, .null, .int 0, .int 0, .int 0, .int 0, .int 0, .int 0] j := by
  intro j hj
  match j, hj with
  | 0, _ => rfl
  | 1, _ => rfl
  | 2, _ => rfl
  | 3, _ => rfl
  | 4, _ => rfl
  | 5, _ => rfl
  | 6, _ => rfl
  | 7, _ => rfl
  | 8, _ => rfl
  | j + 9, hj => exact absurd hj (by omega)
theorem iX7 : ∀ w ∈ u_ws RX7 TX7 18, w ∈ TBg := by
  intro w hw
  obtain ⟨k, hk, rfl⟩ := List.mem_map.mp hw
  have hk := List.mem_range.mp hk
  match k, hk with
  | 0, _ => exact t_82
  | 1, _ => exact t_84
  | 2, _ => exact t_86
  | 3, _ => exact t_88
  | 4, _ => exact t_90
  | 5, _ => exact t_92
  | 6, _ => exact t_94
  | 7, _ => exact t_96
  | 8, _ => exact t_98
  | 9, _ => exact t_100
  | 10, _ => exact t_102
  | 11, _ => exact t_104
  | 12, _ => exact t_106
  | 13, _ => exact t_108
  | 14, _ => exact t_110
  | 15, _ => exact t_112
  | 16, _ => exact t_114
  | 17, _ => exact t_116
  | k + 18, hk => exact absurd hk (by omega)
theorem dfX7 : ∀ j, j < 18 → defaultValue (tyX7 j) = vp_V [.int 0, .int 0, .int 0, .int 0, .int 0, .null, .null, .null, .null, .null, .null, .null, .null, .null, .null, .null, .null, .int 0] j := by
  intro j hj
  match j, hj with
  | 0, _ => rfl
  | 1, _ => rfl
  | 2, _ => rfl
  | 3, _ => rfl
  | 4, _ => rfl
  | 5, _ => rfl
  | 6, _ => rfl
  | 7, _ => rfl
  | 8, _ => rfl
  | 9, _ => rfl
  | 10, _ => rfl
  | 11, _ => rfl
  | 12, _ => rfl
  | 13, _ => rfl
  | 14, _ => rfl
  | 15, _ => rfl
  | 16, _ => rfl
  | 17, _ => rfl
  | j + 18, hj => exact absurd hj (by omega)
theorem iX8 : ∀ w ∈ u_ws RX8 TX8 11, w ∈ TBg := by
  intro w hw
  obtain ⟨k, hk, rfl⟩ := List.mem_map.mp hw
  have hk := List.mem_range.mp hk
  match k, hk with
  | 0, _ => exact t_311
  | 1, _ => exact t_313
  | 2, _ => exact t_315
  | 3, _ => exact t_317
  | 4, _ => exact t_319
  | 5, _ => exact t_321
  | 6, _ => exact t_323
  | 7, _ => exact t_325
  | 8, _ => exact t_327
  | 9, _ => exact t_329
  | 10, _ => exact t_331
  | k + 11, hk => exact absurd hk (by omega)
theorem dfX8 : ∀ j, j < 11 → defaultValue (tyX8 j) = vp_V [.null, .int 0, .null, .int 0, .int 0, .null, .null, .null, .null, .null, .null] j := by
  intro j hj
  match j, hj with
  | 0, _ => rfl
  | 1, _ => rfl
  | 2, _ => rfl
  | 3, _ => rfl
  | 4, _ => rfl
  | 5, _ => rfl
  | 6, _ => rfl
  | 7, _ => rfl
  | 8, _ => rfl
  | 9, _ => rfl
  | 10, _ => rfl
  | j + 11, hj => exact absurd hj (by omega)
theorem iX9 : ∀ w ∈ u_ws RX9 TX9 36, w ∈ TBg := by
  intro w hw
  obtain ⟨k, hk, rfl⟩ := List.mem_map.mp hw
  have hk := List.mem_range.mp hk
  match k, hk with
  | 0, _ => exact t_918
  | 1, _ => exact t_920
  | 2, _ => exact t_922
  | 3, _ => exact t_924
  | 4, _ => exact t_926
  | 5, _ => exact t_928
  | 6, _ => exact t_930
  | 7, _ => exact t_932
  | 8, _ => exact t_934
  | 9, _ => exact t_936
  | 10, _ => exact t_938
  | 11, _ => exact t_940
  | 12, _ => exact t_942
  | 13, _ => exact t_944
  | 14, _ => exact t_946
  | 15, _ => exact t_948
  | 16, _ => exact t_950
  | 17, _ => exact t_952
  | 18, _ => exact t_954
  | 19, _ => exact t_956
  | 20, _ => exact t_958
  | 21, _ => exact t_960
  | 22, _ => exact t_962
  | 23, _ => exact t_964
  | 24, _ => exact t_966
  | 25, _ => exact t_968
  | 26, _ => exact t_970
  | 27, _ => exact t_972
  | 28, _ => exact t_974
  | 29, _ => exact t_976
  | 30, _ => exact t_978
  | 31, _ => exact t_980
  | 32, _ => exact t_982
  | 33, _ => exact t_984
  | 34, _ => exact t_986
  | 35, _ => exact t_988
  | k + 36, hk => exact absurd hk (by omega)
theorem dfX9 : ∀ j, j < 36 → defaultValue (tyX9 j) = vp_V [.null, .int 0, .int 0, .null, .null, .null, .null, .int 0, .int 0, .int 0, .null, .null, .int 0, .int 0, .int 0, .int 0, .int 0, .int 0, .int 0, .null, .int 0, .null, .int 0, .null, .null, .null, .null, .null, .null, .null, .null, .null, .null, .null, .null, .null] j := by
  intro j hj
  match j, hj with
  | 0, _ => rfl
  | 1, _ => rfl
  | 2, _ => rfl
  | 3, _ => rfl
  | 4, _ => rfl
  | 5, _ => rfl
  | 6, _ => rfl
  | 7, _ => rfl
  | 8, _ => rfl
  | 9, _ => rfl
  | 10, _ => rfl
  | 11, _ => rfl
  | 12, _ => rfl
  | 13, _ => rfl
  | 14, _ => rfl
  | 15, _ => rfl
  | 16, _ => rfl
  | 17, _ => rfl
  | 18, _ => rfl
  | 19, _ => rfl
  | 20, _ => rfl
  | 21, _ => rfl
  | 22, _ => rfl
  | 23, _ => rfl
  | 24, _ => rfl
  | 25, _ => rfl
  | 26, _ => rfl
  | 27, _ => rfl
  | 28, _ => rfl
  | 29, _ => rfl
  | 30, _ => rfl
  | 31, _ => rfl
  | 32, _ => rfl
  | 33, _ => rfl
  | 34, _ => rfl
  | 35, _ => rfl
  | j + 36, hj => exact absurd hj (by omega)
