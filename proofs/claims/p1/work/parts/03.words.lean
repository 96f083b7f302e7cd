abbrev ML_law : Mt := (yL_law, cL_law, 4, some .boolean)
abbrev MX8_init : Mt := (yX8_init, cX8_init, 1, none)
abbrev MX7_init : Mt := (yX7_init, cX7_init, 2, none)
abbrev MX5_init : Mt := (yX5_init, cX5_init, 2, none)
abbrev MX0_init : Mt := (yX0_init, cX0_init, 1, none)
abbrev MX4_init : Mt := (yX4_init, cX4_init, 1, none)
abbrev MX6_init : Mt := (yX6_init, cX6_init, 1, none)
abbrev MX2_init : Mt := (yX2_init, cX2_init, 1, none)
abbrev MX1_init : Mt := (yX1_init, cX1_init, 1, none)
abbrev MX9_init : Mt := (yX9_init, cX9_init, 1, none)
abbrev MX8_kind : Mt := (yX8_kind, cX8_kind, 4, some .int)
abbrev MX9_kind : Mt := (yX9_kind, cX9_kind, 3, some .int)
abbrev MX9_in : Mt := (yX9_in, cX9_in, 6, some .boolean)
abbrev MX8_fault : Mt := (yX8_fault, cX8_fault, 5, some .int)
abbrev MX8_isFault : Mt := (yX8_isFault, cX8_isFault, 2, some .boolean)
abbrev MX9_fault : Mt := (yX9_fault, cX9_fault, 3, some .int)
abbrev MX9_isFault : Mt := (yX9_isFault, cX9_isFault, 2, some .boolean)
abbrev MX8_look : Mt := (yX8_look, cX8_look, 2, some .int)
abbrev MX9_look : Mt := (yX9_look, cX9_look, 2, some .int)
theorem t_1 : Cond.initialized RX8 ∈ TBg := tb_of (List.mem_of_getElem? (i := 1) (by decide +kernel)) (by decide +kernel)
theorem t_2 : Cond.initialized RX5 ∈ TBg := tb_of (List.mem_of_getElem? (i := 2) (by decide +kernel)) (by decide +kernel)
theorem t_3 : Cond.initialized RX7 ∈ TBg := tb_of (List.mem_of_getElem? (i := 3) (by decide +kernel)) (by decide +kernel)
theorem t_4 : Cond.initialized RX0 ∈ TBg := tb_of (List.mem_of_getElem? (i := 4) (by decide +kernel)) (by decide +kernel)
theorem t_5 : Cond.initialized RX4 ∈ TBg := tb_of (List.mem_of_getElem? (i := 5) (by decide +kernel)) (by decide +kernel)
theorem t_6 : Cond.initialized RX6 ∈ TBg := tb_of (List.mem_of_getElem? (i := 6) (by decide +kernel)) (by decide +kernel)
theorem t_7 : Cond.initialized RX2 ∈ TBg := tb_of (List.mem_of_getElem? (i := 7) (by decide +kernel)) (by decide +kernel)
theorem t_8 : Cond.initialized RX1 ∈ TBg := tb_of (List.mem_of_getElem? (i := 8) (by decide +kernel)) (by decide +kernel)
theorem t_9 : Cond.initialized RX9 ∈ TBg := tb_of (List.mem_of_getElem? (i := 9) (by decide +kernel)) (by decide +kernel)
theorem t_19 : Cond.classLink RL 7 RX8 ∈ TBg := tb_of (List.mem_of_getElem? (i := 19) (by decide +kernel)) (by decide +kernel)
theorem t_20 : Cond.instantiable RX8 11 ∈ TBg := tb_of (List.mem_of_getElem? (i := 20) (by decide +kernel)) (by decide +kernel)
theorem t_21 : Cond.methodLink RL 9 yX8_init ∈ TBg := tb_of (List.mem_of_getElem? (i := 21) (by decide +kernel)) (by decide +kernel)
theorem t_22 : Cond.instanceMethod yX8_init ∈ TBg := tb_of (List.mem_of_getElem? (i := 22) (by decide +kernel)) (by decide +kernel)
theorem t_23 : cw MX8_init ∈ TBg := tb_of (List.mem_of_getElem? (i := 23) (by decide +kernel)) (by decide +kernel)
theorem t_24 : Cond.methodLink RX8 1 objectInit ∈ TBg := tb_of (List.mem_of_getElem? (i := 24) (by decide +kernel)) (by decide +kernel)
theorem t_25 : Cond.instanceMethod objectInit ∈ TBg := tb_of (List.mem_of_getElem? (i := 25) (by decide +kernel)) (by decide +kernel)
theorem t_26 : Cond.code objectInit ⟨#[0xb1]⟩ 1 none ∈ TBg := tb_of (List.mem_of_getElem? (i := 26) (by decide +kernel)) (by decide +kernel)
theorem t_27 : Cond.classLink RX8 17 RX3 ∈ TBg := tb_of (List.mem_of_getElem? (i := 27) (by decide +kernel)) (by decide +kernel)
theorem t_29 : Cond.classLink RX8 29 RX5 ∈ TBg := tb_of (List.mem_of_getElem? (i := 29) (by decide +kernel)) (by decide +kernel)
theorem t_30 : Cond.instantiable RX5 8 ∈ TBg := tb_of (List.mem_of_getElem? (i := 30) (by decide +kernel)) (by decide +kernel)
theorem t_31 : Cond.classLink RX8 31 RX7 ∈ TBg := tb_of (List.mem_of_getElem? (i := 31) (by decide +kernel)) (by decide +kernel)
theorem t_32 : Cond.instantiable RX7 18 ∈ TBg := tb_of (List.mem_of_getElem? (i := 32) (by decide +kernel)) (by decide +kernel)
theorem t_33 : Cond.methodLink RX8 33 yX7_init ∈ TBg := tb_of (List.mem_of_getElem? (i := 33) (by decide +kernel)) (by decide +kernel)
theorem t_34 : Cond.instanceMethod yX7_init ∈ TBg := tb_of (List.mem_of_getElem? (i := 34) (by decide +kernel)) (by decide +kernel)
theorem t_35 : cw MX7_init ∈ TBg := tb_of (List.mem_of_getElem? (i := 35) (by decide +kernel)) (by decide +kernel)
theorem t_36 : Cond.methodLink RX7 3 objectInit ∈ TBg := tb_of (List.mem_of_getElem? (i := 36) (by decide +kernel)) (by decide +kernel)
theorem t_37 : Cond.fieldLink RX7 9 "PaidMistakes$Work" "serial" "I" ∈ TBg := tb_of (List.mem_of_getElem? (i := 37) (by decide +kernel)) (by decide +kernel)
theorem t_43 : Cond.fieldLink RX8 123 "PaidMistakes$Work" "kinds" "I" ∈ TBg := tb_of (List.mem_of_getElem? (i := 43) (by decide +kernel)) (by decide +kernel)
theorem t_47 : Cond.fieldLink RX8 102 "PaidMistakes$Work" "faults" "I" ∈ TBg := tb_of (List.mem_of_getElem? (i := 47) (by decide +kernel)) (by decide +kernel)
theorem t_49 : Cond.fieldLink RX7 15 "PaidMistakes$Work" "kindPay" "[I" ∈ TBg := tb_of (List.mem_of_getElem? (i := 49) (by decide +kernel)) (by decide +kernel)
theorem t_51 : Cond.fieldLink RX7 19 "PaidMistakes$Work" "kindHide" "[I" ∈ TBg := tb_of (List.mem_of_getElem? (i := 51) (by decide +kernel)) (by decide +kernel)
theorem t_53 : Cond.fieldLink RX7 22 "PaidMistakes$Work" "kindMend" "[I" ∈ TBg := tb_of (List.mem_of_getElem? (i := 53) (by decide +kernel)) (by decide +kernel)
theorem t_55 : Cond.fieldLink RX7 25 "PaidMistakes$Work" "kindOf" "[I" ∈ TBg := tb_of (List.mem_of_getElem? (i := 55) (by decide +kernel)) (by decide +kernel)
theorem t_58 : Cond.fieldLink RX7 28 "PaidMistakes$Work" "minutes" "[I" ∈ TBg := tb_of (List.mem_of_getElem? (i := 58) (by decide +kernel)) (by decide +kernel)
theorem t_63 : Cond.fieldLink RX7 31 "PaidMistakes$Work" "odds" "[I" ∈ TBg := tb_of (List.mem_of_getElem? (i := 63) (by decide +kernel)) (by decide +kernel)
theorem t_68 : Cond.fieldLink RX7 34 "PaidMistakes$Work" "under" "[I" ∈ TBg := tb_of (List.mem_of_getElem? (i := 68) (by decide +kernel)) (by decide +kernel)
theorem t_70 : Cond.fieldLink RX7 37 "PaidMistakes$Work" "pay" "[I" ∈ TBg := tb_of (List.mem_of_getElem? (i := 70) (by decide +kernel)) (by decide +kernel)
theorem t_75 : Cond.fieldLink RX7 40 "PaidMistakes$Work" "hide" "[I" ∈ TBg := tb_of (List.mem_of_getElem? (i := 75) (by decide +kernel)) (by decide +kernel)
theorem t_76 : Cond.fieldLink RX7 43 "PaidMistakes$Work" "mend" "[I" ∈ TBg := tb_of (List.mem_of_getElem? (i := 76) (by decide +kernel)) (by decide +kernel)
theorem t_78 : Cond.fieldLink RX7 46 "PaidMistakes$Work" "oneLook" "[I" ∈ TBg := tb_of (List.mem_of_getElem? (i := 78) (by decide +kernel)) (by decide +kernel)
theorem t_79 : Cond.fieldLink RX7 49 "PaidMistakes$Work" "byOneLook" "[I" ∈ TBg := tb_of (List.mem_of_getElem? (i := 79) (by decide +kernel)) (by decide +kernel)
theorem t_82 : Cond.laysFinal RX7 "PaidMistakes$Work" "serial" "I" ∈ TBg := tb_of (List.mem_of_getElem? (i := 82) (by decide +kernel)) (by decide +kernel)
theorem t_84 : Cond.lays RX7 "PaidMistakes$Work" "time" "I" ∈ TBg := tb_of (List.mem_of_getElem? (i := 84) (by decide +kernel)) (by decide +kernel)
theorem t_86 : Cond.lays RX7 "PaidMistakes$Work" "kinds" "I" ∈ TBg := tb_of (List.mem_of_getElem? (i := 86) (by decide +kernel)) (by decide +kernel)
theorem t_88 : Cond.lays RX7 "PaidMistakes$Work" "faults" "I" ∈ TBg := tb_of (List.mem_of_getElem? (i := 88) (by decide +kernel)) (by decide +kernel)
theorem t_90 : Cond.lays RX7 "PaidMistakes$Work" "timeTold" "Z" ∈ TBg := tb_of (List.mem_of_getElem? (i := 90) (by decide +kernel)) (by decide +kernel)
theorem t_92 : Cond.laysFinal RX7 "PaidMistakes$Work" "kindPay" "[I" ∈ TBg := tb_of (List.mem_of_getElem? (i := 92) (by decide +kernel)) (by decide +kernel)
theorem t_94 : Cond.laysFinal RX7 "PaidMistakes$Work" "kindHide" "[I" ∈ TBg := tb_of (List.mem_of_getElem? (i := 94) (by decide +kernel)) (by decide +kernel)
theorem t_96 : Cond.laysFinal RX7 "PaidMistakes$Work" "kindMend" "[I" ∈ TBg := tb_of (List.mem_of_getElem? (i := 96) (by decide +kernel)) (by decide +kernel)
theorem t_98 : Cond.laysFinal RX7 "PaidMistakes$Work" "kindOf" "[I" ∈ TBg := tb_of (List.mem_of_getElem? (i := 98) (by decide +kernel)) (by decide +kernel)
theorem t_100 : Cond.laysFinal RX7 "PaidMistakes$Work" "minutes" "[I" ∈ TBg := tb_of (List.mem_of_getElem? (i := 100) (by decide +kernel)) (by decide +kernel)
theorem t_102 : Cond.laysFinal RX7 "PaidMistakes$Work" "odds" "[I" ∈ TBg := tb_of (List.mem_of_getElem? (i := 102) (by decide +kernel)) (by decide +kernel)
theorem t_104 : Cond.laysFinal RX7 "PaidMistakes$Work" "under" "[I" ∈ TBg := tb_of (List.mem_of_getElem? (i := 104) (by decide +kernel)) (by decide +kernel)
theorem t_106 : Cond.laysFinal RX7 "PaidMistakes$Work" "pay" "[I" ∈ TBg := tb_of (List.mem_of_getElem? (i := 106) (by decide +kernel)) (by decide +kernel)
theorem t_108 : Cond.laysFinal RX7 "PaidMistakes$Work" "hide" "[I" ∈ TBg := tb_of (List.mem_of_getElem? (i := 108) (by decide +kernel)) (by decide +kernel)
theorem t_110 : Cond.laysFinal RX7 "PaidMistakes$Work" "mend" "[I" ∈ TBg := tb_of (List.mem_of_getElem? (i := 110) (by decide +kernel)) (by decide +kernel)
theorem t_112 : Cond.laysFinal RX7 "PaidMistakes$Work" "oneLook" "[I" ∈ TBg := tb_of (List.mem_of_getElem? (i := 112) (by decide +kernel)) (by decide +kernel)
theorem t_114 : Cond.laysFinal RX7 "PaidMistakes$Work" "byOneLook" "[I" ∈ TBg := tb_of (List.mem_of_getElem? (i := 114) (by decide +kernel)) (by decide +kernel)
theorem t_116 : Cond.lays RX7 "PaidMistakes$Work" "longest" "I" ∈ TBg := tb_of (List.mem_of_getElem? (i := 116) (by decide +kernel)) (by decide +kernel)
theorem t_119 : Cond.arrayClass .int ∈ TBg := tb_of (List.mem_of_getElem? (i := 119) (by decide +kernel)) (by decide +kernel)
theorem t_120 : Cond.methodLink RX8 36 yX5_init ∈ TBg := tb_of (List.mem_of_getElem? (i := 120) (by decide +kernel)) (by decide +kernel)
theorem t_121 : Cond.instanceMethod yX5_init ∈ TBg := tb_of (List.mem_of_getElem? (i := 121) (by decide +kernel)) (by decide +kernel)
theorem t_122 : cw MX5_init ∈ TBg := tb_of (List.mem_of_getElem? (i := 122) (by decide +kernel)) (by decide +kernel)
theorem t_123 : Cond.methodLink RX5 3 objectInit ∈ TBg := tb_of (List.mem_of_getElem? (i := 123) (by decide +kernel)) (by decide +kernel)
theorem t_124 : Cond.classLink RX5 15 RX0 ∈ TBg := tb_of (List.mem_of_getElem? (i := 124) (by decide +kernel)) (by decide +kernel)
theorem t_125 : Cond.instantiable RX0 6 ∈ TBg := tb_of (List.mem_of_getElem? (i := 125) (by decide +kernel)) (by decide +kernel)
theorem t_126 : Cond.methodLink RX5 17 yX0_init ∈ TBg := tb_of (List.mem_of_getElem? (i := 126) (by decide +kernel)) (by decide +kernel)
theorem t_127 : Cond.instanceMethod yX0_init ∈ TBg := tb_of (List.mem_of_getElem? (i := 127) (by decide +kernel)) (by decide +kernel)
theorem t_128 : cw MX0_init ∈ TBg := tb_of (List.mem_of_getElem? (i := 128) (by decide +kernel)) (by decide +kernel)
theorem t_129 : Cond.methodLink RX0 3 objectInit ∈ TBg := tb_of (List.mem_of_getElem? (i := 129) (by decide +kernel)) (by decide +kernel)
theorem t_144 : Cond.fieldLink RX0 9 "PaidMistakes$Day" "tries" "[I" ∈ TBg := tb_of (List.mem_of_getElem? (i := 144) (by decide +kernel)) (by decide +kernel)
theorem t_147 : Cond.lays RX0 "PaidMistakes$Day" "left" "I" ∈ TBg := tb_of (List.mem_of_getElem? (i := 147) (by decide +kernel)) (by decide +kernel)
theorem t_149 : Cond.lays RX0 "PaidMistakes$Day" "earned" "I" ∈ TBg := tb_of (List.mem_of_getElem? (i := 149) (by decide +kernel)) (by decide +kernel)
theorem t_151 : Cond.lays RX0 "PaidMistakes$Day" "found" "I" ∈ TBg := tb_of (List.mem_of_getElem? (i := 151) (by decide +kernel)) (by decide +kernel)
theorem t_153 : Cond.lays RX0 "PaidMistakes$Day" "mended" "I" ∈ TBg := tb_of (List.mem_of_getElem? (i := 153) (by decide +kernel)) (by decide +kernel)
theorem t_155 : Cond.lays RX0 "PaidMistakes$Day" "x" "I" ∈ TBg := tb_of (List.mem_of_getElem? (i := 155) (by decide +kernel)) (by decide +kernel)
theorem t_157 : Cond.laysFinal RX0 "PaidMistakes$Day" "tries" "[I" ∈ TBg := tb_of (List.mem_of_getElem? (i := 157) (by decide +kernel)) (by decide +kernel)
theorem t_160 : Cond.fieldLink RX5 9 "PaidMistakes$State" "work" "LPaidMistakes$Work;" ∈ TBg := tb_of (List.mem_of_getElem? (i := 160) (by decide +kernel)) (by decide +kernel)
theorem t_161 : Cond.fieldLink RX8 119 "PaidMistakes$State" "work" "LPaidMistakes$Work;" ∈ TBg := tb_of (List.mem_of_getElem? (i := 161) (by decide +kernel)) (by decide +kernel)
theorem t_162 : Cond.fieldLink RX5 18 "PaidMistakes$State" "today" "LPaidMistakes$Day;" ∈ TBg := tb_of (List.mem_of_getElem? (i := 162) (by decide +kernel)) (by decide +kernel)
theorem t_170 : Cond.fieldLink RX5 22 "PaidMistakes$State" "row" "[I" ∈ TBg := tb_of (List.mem_of_getElem? (i := 170) (by decide +kernel)) (by decide +kernel)
theorem t_174 : Cond.fieldLink RX5 26 "PaidMistakes$State" "game" "[I" ∈ TBg := tb_of (List.mem_of_getElem? (i := 174) (by decide +kernel)) (by decide +kernel)
theorem t_176 : Cond.lays RX5 "PaidMistakes$State" "work" "LPaidMistakes$Work;" ∈ TBg := tb_of (List.mem_of_getElem? (i := 176) (by decide +kernel)) (by decide +kernel)
theorem t_178 : Cond.laysFinal RX5 "PaidMistakes$State" "today" "LPaidMistakes$Day;" ∈ TBg := tb_of (List.mem_of_getElem? (i := 178) (by decide +kernel)) (by decide +kernel)
theorem t_180 : Cond.lays RX5 "PaidMistakes$State" "masterCoins" "I" ∈ TBg := tb_of (List.mem_of_getElem? (i := 180) (by decide +kernel)) (by decide +kernel)
theorem t_182 : Cond.lays RX5 "PaidMistakes$State" "earnedBefore" "I" ∈ TBg := tb_of (List.mem_of_getElem? (i := 182) (by decide +kernel)) (by decide +kernel)
theorem t_184 : Cond.lays RX5 "PaidMistakes$State" "days" "I" ∈ TBg := tb_of (List.mem_of_getElem? (i := 184) (by decide +kernel)) (by decide +kernel)
theorem t_186 : Cond.laysFinal RX5 "PaidMistakes$State" "row" "[I" ∈ TBg := tb_of (List.mem_of_getElem? (i := 186) (by decide +kernel)) (by decide +kernel)
theorem t_188 : Cond.lays RX5 "PaidMistakes$State" "rowLength" "I" ∈ TBg := tb_of (List.mem_of_getElem? (i := 188) (by decide +kernel)) (by decide +kernel)
theorem t_190 : Cond.laysFinal RX5 "PaidMistakes$State" "game" "[I" ∈ TBg := tb_of (List.mem_of_getElem? (i := 190) (by decide +kernel)) (by decide +kernel)
theorem t_194 : Cond.classLink RX8 47 RX0 ∈ TBg := tb_of (List.mem_of_getElem? (i := 194) (by decide +kernel)) (by decide +kernel)
theorem t_195 : Cond.methodLink RX8 49 yX0_init ∈ TBg := tb_of (List.mem_of_getElem? (i := 195) (by decide +kernel)) (by decide +kernel)
theorem t_196 : Cond.classLink RX8 54 RX4 ∈ TBg := tb_of (List.mem_of_getElem? (i := 196) (by decide +kernel)) (by decide +kernel)
theorem t_197 : Cond.instantiable RX4 8 ∈ TBg := tb_of (List.mem_of_getElem? (i := 197) (by decide +kernel)) (by decide +kernel)
theorem t_198 : Cond.methodLink RX8 56 yX4_init ∈ TBg := tb_of (List.mem_of_getElem? (i := 198) (by decide +kernel)) (by decide +kernel)
theorem t_199 : Cond.instanceMethod yX4_init ∈ TBg := tb_of (List.mem_of_getElem? (i := 199) (by decide +kernel)) (by decide +kernel)
theorem t_200 : cw MX4_init ∈ TBg := tb_of (List.mem_of_getElem? (i := 200) (by decide +kernel)) (by decide +kernel)
theorem t_201 : Cond.methodLink RX4 3 objectInit ∈ TBg := tb_of (List.mem_of_getElem? (i := 201) (by decide +kernel)) (by decide +kernel)
theorem t_202 : Cond.classLink RX4 9 RX6 ∈ TBg := tb_of (List.mem_of_getElem? (i := 202) (by decide +kernel)) (by decide +kernel)
theorem t_203 : Cond.instantiable RX6 9 ∈ TBg := tb_of (List.mem_of_getElem? (i := 203) (by decide +kernel)) (by decide +kernel)
theorem t_204 : Cond.methodLink RX4 11 yX6_init ∈ TBg := tb_of (List.mem_of_getElem? (i := 204) (by decide +kernel)) (by decide +kernel)
theorem t_205 : Cond.instanceMethod yX6_init ∈ TBg := tb_of (List.mem_of_getElem? (i := 205) (by decide +kernel)) (by decide +kernel)
theorem t_206 : cw MX6_init ∈ TBg := tb_of (List.mem_of_getElem? (i := 206) (by decide +kernel)) (by decide +kernel)
theorem t_207 : Cond.methodLink RX6 3 objectInit ∈ TBg := tb_of (List.mem_of_getElem? (i := 207) (by decide +kernel)) (by decide +kernel)
theorem t_208 : Cond.fieldLink RX6 9 "PaidMistakes$Text" "codes" "[I" ∈ TBg := tb_of (List.mem_of_getElem? (i := 208) (by decide +kernel)) (by decide +kernel)
theorem t_209 : Cond.fieldLink RX6 15 "PaidMistakes$Text" "places" "[I" ∈ TBg := tb_of (List.mem_of_getElem? (i := 209) (by decide +kernel)) (by decide +kernel)
theorem t_210 : Cond.fieldLink RX6 18 "PaidMistakes$Text" "numbers" "[I" ∈ TBg := tb_of (List.mem_of_getElem? (i := 210) (by decide +kernel)) (by decide +kernel)
theorem t_223 : Cond.laysFinal RX6 "PaidMistakes$Text" "codes" "[I" ∈ TBg := tb_of (List.mem_of_getElem? (i := 223) (by decide +kernel)) (by decide +kernel)
theorem t_225 : Cond.laysFinal RX6 "PaidMistakes$Text" "places" "[I" ∈ TBg := tb_of (List.mem_of_getElem? (i := 225) (by decide +kernel)) (by decide +kernel)
theorem t_227 : Cond.laysFinal RX6 "PaidMistakes$Text" "numbers" "[I" ∈ TBg := tb_of (List.mem_of_getElem? (i := 227) (by decide +kernel)) (by decide +kernel)
theorem t_229 : Cond.lays RX6 "PaidMistakes$Text" "tokens" "I" ∈ TBg := tb_of (List.mem_of_getElem? (i := 229) (by decide +kernel)) (by decide +kernel)
theorem t_231 : Cond.lays RX6 "PaidMistakes$Text" "next" "I" ∈ TBg := tb_of (List.mem_of_getElem? (i := 231) (by decide +kernel)) (by decide +kernel)
theorem t_233 : Cond.lays RX6 "PaidMistakes$Text" "code" "I" ∈ TBg := tb_of (List.mem_of_getElem? (i := 233) (by decide +kernel)) (by decide +kernel)
theorem t_235 : Cond.lays RX6 "PaidMistakes$Text" "place" "I" ∈ TBg := tb_of (List.mem_of_getElem? (i := 235) (by decide +kernel)) (by decide +kernel)
theorem t_237 : Cond.lays RX6 "PaidMistakes$Text" "number" "I" ∈ TBg := tb_of (List.mem_of_getElem? (i := 237) (by decide +kernel)) (by decide +kernel)
theorem t_239 : Cond.lays RX6 "PaidMistakes$Text" "fault" "I" ∈ TBg := tb_of (List.mem_of_getElem? (i := 239) (by decide +kernel)) (by decide +kernel)
theorem t_242 : Cond.fieldLink RX4 12 "PaidMistakes$RuleReader" "text" "LPaidMistakes$Text;" ∈ TBg := tb_of (List.mem_of_getElem? (i := 242) (by decide +kernel)) (by decide +kernel)
theorem t_244 : Cond.fieldLink RX4 18 "PaidMistakes$RuleReader" "code" "[I" ∈ TBg := tb_of (List.mem_of_getElem? (i := 244) (by decide +kernel)) (by decide +kernel)
theorem t_248 : Cond.fieldLink RX4 22 "PaidMistakes$RuleReader" "begin" "[I" ∈ TBg := tb_of (List.mem_of_getElem? (i := 248) (by decide +kernel)) (by decide +kernel)
theorem t_249 : Cond.fieldLink RX4 25 "PaidMistakes$RuleReader" "middle" "[I" ∈ TBg := tb_of (List.mem_of_getElem? (i := 249) (by decide +kernel)) (by decide +kernel)
theorem t_250 : Cond.fieldLink RX4 28 "PaidMistakes$RuleReader" "finish" "[I" ∈ TBg := tb_of (List.mem_of_getElem? (i := 250) (by decide +kernel)) (by decide +kernel)
theorem t_251 : Cond.laysFinal RX4 "PaidMistakes$RuleReader" "text" "LPaidMistakes$Text;" ∈ TBg := tb_of (List.mem_of_getElem? (i := 251) (by decide +kernel)) (by decide +kernel)
theorem t_253 : Cond.laysFinal RX4 "PaidMistakes$RuleReader" "code" "[I" ∈ TBg := tb_of (List.mem_of_getElem? (i := 253) (by decide +kernel)) (by decide +kernel)
theorem t_255 : Cond.lays RX4 "PaidMistakes$RuleReader" "length" "I" ∈ TBg := tb_of (List.mem_of_getElem? (i := 255) (by decide +kernel)) (by decide +kernel)
theorem t_257 : Cond.lays RX4 "PaidMistakes$RuleReader" "pieces" "I" ∈ TBg := tb_of (List.mem_of_getElem? (i := 257) (by decide +kernel)) (by decide +kernel)
theorem t_259 : Cond.lays RX4 "PaidMistakes$RuleReader" "clauses" "I" ∈ TBg := tb_of (List.mem_of_getElem? (i := 259) (by decide +kernel)) (by decide +kernel)
theorem t_261 : Cond.laysFinal RX4 "PaidMistakes$RuleReader" "begin" "[I" ∈ TBg := tb_of (List.mem_of_getElem? (i := 261) (by decide +kernel)) (by decide +kernel)
theorem t_263 : Cond.laysFinal RX4 "PaidMistakes$RuleReader" "middle" "[I" ∈ TBg := tb_of (List.mem_of_getElem? (i := 263) (by decide +kernel)) (by decide +kernel)
theorem t_265 : Cond.laysFinal RX4 "PaidMistakes$RuleReader" "finish" "[I" ∈ TBg := tb_of (List.mem_of_getElem? (i := 265) (by decide +kernel)) (by decide +kernel)
theorem t_268 : Cond.classLink RX8 61 RX2 ∈ TBg := tb_of (List.mem_of_getElem? (i := 268) (by decide +kernel)) (by decide +kernel)
theorem t_269 : Cond.instantiable RX2 1 ∈ TBg := tb_of (List.mem_of_getElem? (i := 269) (by decide +kernel)) (by decide +kernel)
theorem t_270 : Cond.methodLink RX8 63 yX2_init ∈ TBg := tb_of (List.mem_of_getElem? (i := 270) (by decide +kernel)) (by decide +kernel)
theorem t_271 : Cond.instanceMethod yX2_init ∈ TBg := tb_of (List.mem_of_getElem? (i := 271) (by decide +kernel)) (by decide +kernel)
theorem t_272 : cw MX2_init ∈ TBg := tb_of (List.mem_of_getElem? (i := 272) (by decide +kernel)) (by decide +kernel)
theorem t_273 : Cond.methodLink RX2 3 objectInit ∈ TBg := tb_of (List.mem_of_getElem? (i := 273) (by decide +kernel)) (by decide +kernel)
theorem t_274 : Cond.fieldLink RX2 9 "PaidMistakes$Player" "stack" "[J" ∈ TBg := tb_of (List.mem_of_getElem? (i := 274) (by decide +kernel)) (by decide +kernel)
theorem t_275 : Cond.laysFinal RX2 "PaidMistakes$Player" "stack" "[J" ∈ TBg := tb_of (List.mem_of_getElem? (i := 275) (by decide +kernel)) (by decide +kernel)
theorem t_278 : Cond.arrayClass .long ∈ TBg := tb_of (List.mem_of_getElem? (i := 278) (by decide +kernel)) (by decide +kernel)
theorem t_279 : Cond.classLink RX8 68 RX1 ∈ TBg := tb_of (List.mem_of_getElem? (i := 279) (by decide +kernel)) (by decide +kernel)
theorem t_280 : Cond.instantiable RX1 4 ∈ TBg := tb_of (List.mem_of_getElem? (i := 280) (by decide +kernel)) (by decide +kernel)
theorem t_281 : Cond.methodLink RX8 70 yX1_init ∈ TBg := tb_of (List.mem_of_getElem? (i := 281) (by decide +kernel)) (by decide +kernel)
theorem t_282 : Cond.instanceMethod yX1_init ∈ TBg := tb_of (List.mem_of_getElem? (i := 282) (by decide +kernel)) (by decide +kernel)
theorem t_283 : cw MX1_init ∈ TBg := tb_of (List.mem_of_getElem? (i := 283) (by decide +kernel)) (by decide +kernel)
theorem t_284 : Cond.methodLink RX1 3 objectInit ∈ TBg := tb_of (List.mem_of_getElem? (i := 284) (by decide +kernel)) (by decide +kernel)
theorem t_285 : Cond.fieldLink RX1 11 "PaidMistakes$Planner" "keys" "[J" ∈ TBg := tb_of (List.mem_of_getElem? (i := 285) (by decide +kernel)) (by decide +kernel)
theorem t_286 : Cond.fieldLink RX1 15 "PaidMistakes$Planner" "kept" "[J" ∈ TBg := tb_of (List.mem_of_getElem? (i := 286) (by decide +kernel)) (by decide +kernel)
theorem t_291 : Cond.laysFinal RX1 "PaidMistakes$Planner" "keys" "[J" ∈ TBg := tb_of (List.mem_of_getElem? (i := 291) (by decide +kernel)) (by decide +kernel)
theorem t_293 : Cond.laysFinal RX1 "PaidMistakes$Planner" "kept" "[J" ∈ TBg := tb_of (List.mem_of_getElem? (i := 293) (by decide +kernel)) (by decide +kernel)
theorem t_295 : Cond.lays RX1 "PaidMistakes$Planner" "setToMend" "I" ∈ TBg := tb_of (List.mem_of_getElem? (i := 295) (by decide +kernel)) (by decide +kernel)
theorem t_297 : Cond.lays RX1 "PaidMistakes$Planner" "meanOfSet" "J" ∈ TBg := tb_of (List.mem_of_getElem? (i := 297) (by decide +kernel)) (by decide +kernel)
theorem t_300 : Cond.fieldLink RX8 9 "PaidMistakes" "tape" "[I" ∈ TBg := tb_of (List.mem_of_getElem? (i := 300) (by decide +kernel)) (by decide +kernel)
theorem t_301 : Cond.fieldLink RX8 13 "PaidMistakes" "tapeLength" "I" ∈ TBg := tb_of (List.mem_of_getElem? (i := 301) (by decide +kernel)) (by decide +kernel)
theorem t_302 : Cond.fieldLink RX8 19 "PaidMistakes" "rules" "[LPaidMistakes$Rule;" ∈ TBg := tb_of (List.mem_of_getElem? (i := 302) (by decide +kernel)) (by decide +kernel)
theorem t_303 : Cond.fieldLink RX8 23 "PaidMistakes" "ruleCount" "I" ∈ TBg := tb_of (List.mem_of_getElem? (i := 303) (by decide +kernel)) (by decide +kernel)
theorem t_304 : Cond.fieldLink RX8 26 "PaidMistakes" "worksTold" "I" ∈ TBg := tb_of (List.mem_of_getElem? (i := 304) (by decide +kernel)) (by decide +kernel)
theorem t_305 : Cond.fieldLink RX8 39 "PaidMistakes" "now" "LPaidMistakes$State;" ∈ TBg := tb_of (List.mem_of_getElem? (i := 305) (by decide +kernel)) (by decide +kernel)
theorem t_306 : Cond.fieldLink RX8 43 "PaidMistakes" "images" "[LPaidMistakes$State;" ∈ TBg := tb_of (List.mem_of_getElem? (i := 306) (by decide +kernel)) (by decide +kernel)
theorem t_307 : Cond.fieldLink RX8 50 "PaidMistakes" "trial" "LPaidMistakes$Day;" ∈ TBg := tb_of (List.mem_of_getElem? (i := 307) (by decide +kernel)) (by decide +kernel)
theorem t_308 : Cond.fieldLink RX8 57 "PaidMistakes" "ruleReader" "LPaidMistakes$RuleReader;" ∈ TBg := tb_of (List.mem_of_getElem? (i := 308) (by decide +kernel)) (by decide +kernel)
theorem t_309 : Cond.fieldLink RX8 64 "PaidMistakes" "player" "LPaidMistakes$Player;" ∈ TBg := tb_of (List.mem_of_getElem? (i := 309) (by decide +kernel)) (by decide +kernel)
theorem t_310 : Cond.fieldLink RX8 71 "PaidMistakes" "planner" "LPaidMistakes$Planner;" ∈ TBg := tb_of (List.mem_of_getElem? (i := 310) (by decide +kernel)) (by decide +kernel)
theorem t_311 : Cond.laysFinal RX8 "PaidMistakes" "tape" "[I" ∈ TBg := tb_of (List.mem_of_getElem? (i := 311) (by decide +kernel)) (by decide +kernel)
theorem t_313 : Cond.lays RX8 "PaidMistakes" "tapeLength" "I" ∈ TBg := tb_of (List.mem_of_getElem? (i := 313) (by decide +kernel)) (by decide +kernel)
theorem t_315 : Cond.laysFinal RX8 "PaidMistakes" "rules" "[LPaidMistakes$Rule;" ∈ TBg := tb_of (List.mem_of_getElem? (i := 315) (by decide +kernel)) (by decide +kernel)
theorem t_317 : Cond.lays RX8 "PaidMistakes" "ruleCount" "I" ∈ TBg := tb_of (List.mem_of_getElem? (i := 317) (by decide +kernel)) (by decide +kernel)
theorem t_319 : Cond.lays RX8 "PaidMistakes" "worksTold" "I" ∈ TBg := tb_of (List.mem_of_getElem? (i := 319) (by decide +kernel)) (by decide +kernel)
theorem t_321 : Cond.laysFinal RX8 "PaidMistakes" "now" "LPaidMistakes$State;" ∈ TBg := tb_of (List.mem_of_getElem? (i := 321) (by decide +kernel)) (by decide +kernel)
theorem t_323 : Cond.laysFinal RX8 "PaidMistakes" "images" "[LPaidMistakes$State;" ∈ TBg := tb_of (List.mem_of_getElem? (i := 323) (by decide +kernel)) (by decide +kernel)
theorem t_325 : Cond.laysFinal RX8 "PaidMistakes" "trial" "LPaidMistakes$Day;" ∈ TBg := tb_of (List.mem_of_getElem? (i := 325) (by decide +kernel)) (by decide +kernel)
theorem t_327 : Cond.laysFinal RX8 "PaidMistakes" "ruleReader" "LPaidMistakes$RuleReader;" ∈ TBg := tb_of (List.mem_of_getElem? (i := 327) (by decide +kernel)) (by decide +kernel)
theorem t_329 : Cond.laysFinal RX8 "PaidMistakes" "player" "LPaidMistakes$Player;" ∈ TBg := tb_of (List.mem_of_getElem? (i := 329) (by decide +kernel)) (by decide +kernel)
theorem t_331 : Cond.laysFinal RX8 "PaidMistakes" "planner" "LPaidMistakes$Planner;" ∈ TBg := tb_of (List.mem_of_getElem? (i := 331) (by decide +kernel)) (by decide +kernel)
theorem t_510 : Cond.arrayClass .byte ∈ TBg := tb_of (List.mem_of_getElem? (i := 510) (by decide +kernel)) (by decide +kernel)
theorem t_591 : Cond.laysFinal RX3 "PaidMistakes$Rule" "code" "[I" ∈ TBg := tb_of (List.mem_of_getElem? (i := 591) (by decide +kernel)) (by decide +kernel)
theorem t_593 : Cond.laysFinal RX3 "PaidMistakes$Rule" "clauses" "I" ∈ TBg := tb_of (List.mem_of_getElem? (i := 593) (by decide +kernel)) (by decide +kernel)
theorem t_595 : Cond.laysFinal RX3 "PaidMistakes$Rule" "begin" "[I" ∈ TBg := tb_of (List.mem_of_getElem? (i := 595) (by decide +kernel)) (by decide +kernel)
theorem t_597 : Cond.laysFinal RX3 "PaidMistakes$Rule" "middle" "[I" ∈ TBg := tb_of (List.mem_of_getElem? (i := 597) (by decide +kernel)) (by decide +kernel)
theorem t_599 : Cond.laysFinal RX3 "PaidMistakes$Rule" "finish" "[I" ∈ TBg := tb_of (List.mem_of_getElem? (i := 599) (by decide +kernel)) (by decide +kernel)
theorem t_602 : Cond.methodLink RL 32 yX8_kind ∈ TBg := tb_of (List.mem_of_getElem? (i := 602) (by decide +kernel)) (by decide +kernel)
theorem t_603 : Cond.instanceMethod yX8_kind ∈ TBg := tb_of (List.mem_of_getElem? (i := 603) (by decide +kernel)) (by decide +kernel)
theorem t_604 : Cond.selects RX8 yX8_kind yX8_kind ∈ TBg := tb_of (List.mem_of_getElem? (i := 604) (by decide +kernel)) (by decide +kernel)
theorem t_605 : cw MX8_kind ∈ TBg := tb_of (List.mem_of_getElem? (i := 605) (by decide +kernel)) (by decide +kernel)
theorem t_607 : Cond.methodLink RL 37 yX8_fault ∈ TBg := tb_of (List.mem_of_getElem? (i := 607) (by decide +kernel)) (by decide +kernel)
theorem t_608 : Cond.instanceMethod yX8_fault ∈ TBg := tb_of (List.mem_of_getElem? (i := 608) (by decide +kernel)) (by decide +kernel)
theorem t_609 : Cond.selects RX8 yX8_fault yX8_fault ∈ TBg := tb_of (List.mem_of_getElem? (i := 609) (by decide +kernel)) (by decide +kernel)
theorem t_610 : cw MX8_fault ∈ TBg := tb_of (List.mem_of_getElem? (i := 610) (by decide +kernel)) (by decide +kernel)
theorem t_611 : Cond.methodLink RX8 139 yX8_isFault ∈ TBg := tb_of (List.mem_of_getElem? (i := 611) (by decide +kernel)) (by decide +kernel)
theorem t_613 : Cond.instanceMethod yX8_isFault ∈ TBg := tb_of (List.mem_of_getElem? (i := 613) (by decide +kernel)) (by decide +kernel)
theorem t_614 : cw MX8_isFault ∈ TBg := tb_of (List.mem_of_getElem? (i := 614) (by decide +kernel)) (by decide +kernel)
theorem t_641 : Cond.methodLink RL 41 yX8_look ∈ TBg := tb_of (List.mem_of_getElem? (i := 641) (by decide +kernel)) (by decide +kernel)
theorem t_642 : Cond.instanceMethod yX8_look ∈ TBg := tb_of (List.mem_of_getElem? (i := 642) (by decide +kernel)) (by decide +kernel)
theorem t_643 : Cond.selects RX8 yX8_look yX8_look ∈ TBg := tb_of (List.mem_of_getElem? (i := 643) (by decide +kernel)) (by decide +kernel)
theorem t_644 : cw MX8_look ∈ TBg := tb_of (List.mem_of_getElem? (i := 644) (by decide +kernel)) (by decide +kernel)
theorem t_876 : Cond.classLink RL 10 RX9 ∈ TBg := tb_of (List.mem_of_getElem? (i := 876) (by decide +kernel)) (by decide +kernel)
theorem t_877 : Cond.instantiable RX9 36 ∈ TBg := tb_of (List.mem_of_getElem? (i := 877) (by decide +kernel)) (by decide +kernel)
theorem t_878 : Cond.methodLink RL 12 yX9_init ∈ TBg := tb_of (List.mem_of_getElem? (i := 878) (by decide +kernel)) (by decide +kernel)
theorem t_879 : Cond.instanceMethod yX9_init ∈ TBg := tb_of (List.mem_of_getElem? (i := 879) (by decide +kernel)) (by decide +kernel)
theorem t_880 : cw MX9_init ∈ TBg := tb_of (List.mem_of_getElem? (i := 880) (by decide +kernel)) (by decide +kernel)
theorem t_881 : Cond.methodLink RX9 1 objectInit ∈ TBg := tb_of (List.mem_of_getElem? (i := 881) (by decide +kernel)) (by decide +kernel)
theorem t_882 : Cond.fieldLink RX9 7 "PaidMistakesModel" "tape" "[B" ∈ TBg := tb_of (List.mem_of_getElem? (i := 882) (by decide +kernel)) (by decide +kernel)
theorem t_885 : Cond.fieldLink RX9 13 "PaidMistakesModel" "sign" "[I" ∈ TBg := tb_of (List.mem_of_getElem? (i := 885) (by decide +kernel)) (by decide +kernel)
theorem t_886 : Cond.fieldLink RX9 17 "PaidMistakesModel" "length" "[I" ∈ TBg := tb_of (List.mem_of_getElem? (i := 886) (by decide +kernel)) (by decide +kernel)
theorem t_887 : Cond.fieldLink RX9 20 "PaidMistakesModel" "clause" "[I" ∈ TBg := tb_of (List.mem_of_getElem? (i := 887) (by decide +kernel)) (by decide +kernel)
theorem t_888 : Cond.fieldLink RX9 23 "PaidMistakesModel" "clauses" "[I" ∈ TBg := tb_of (List.mem_of_getElem? (i := 888) (by decide +kernel)) (by decide +kernel)
theorem t_892 : Cond.fieldLink RX9 26 "PaidMistakesModel" "kindRead" "[I" ∈ TBg := tb_of (List.mem_of_getElem? (i := 892) (by decide +kernel)) (by decide +kernel)
theorem t_893 : Cond.fieldLink RX9 29 "PaidMistakesModel" "faultRead" "[I" ∈ TBg := tb_of (List.mem_of_getElem? (i := 893) (by decide +kernel)) (by decide +kernel)
theorem t_901 : Cond.fieldLink RX9 32 "PaidMistakesModel" "open" "[I" ∈ TBg := tb_of (List.mem_of_getElem? (i := 901) (by decide +kernel)) (by decide +kernel)
theorem t_903 : Cond.fieldLink RX9 35 "PaidMistakesModel" "stack" "[J" ∈ TBg := tb_of (List.mem_of_getElem? (i := 903) (by decide +kernel)) (by decide +kernel)
theorem t_905 : Cond.fieldLink RX9 39 "PaidMistakesModel" "word" "[J" ∈ TBg := tb_of (List.mem_of_getElem? (i := 905) (by decide +kernel)) (by decide +kernel)
theorem t_906 : Cond.fieldLink RX9 42 "PaidMistakesModel" "said" "[I" ∈ TBg := tb_of (List.mem_of_getElem? (i := 906) (by decide +kernel)) (by decide +kernel)
theorem t_907 : Cond.fieldLink RX9 45 "PaidMistakesModel" "kept" "[I" ∈ TBg := tb_of (List.mem_of_getElem? (i := 907) (by decide +kernel)) (by decide +kernel)
theorem t_908 : Cond.fieldLink RX9 48 "PaidMistakesModel" "triedAt" "[I" ∈ TBg := tb_of (List.mem_of_getElem? (i := 908) (by decide +kernel)) (by decide +kernel)
theorem t_909 : Cond.fieldLink RX9 51 "PaidMistakesModel" "isFoundAt" "[Z" ∈ TBg := tb_of (List.mem_of_getElem? (i := 909) (by decide +kernel)) (by decide +kernel)
theorem t_910 : Cond.fieldLink RX9 55 "PaidMistakesModel" "foundBrings" "[J" ∈ TBg := tb_of (List.mem_of_getElem? (i := 910) (by decide +kernel)) (by decide +kernel)
theorem t_911 : Cond.fieldLink RX9 58 "PaidMistakesModel" "foundHides" "[J" ∈ TBg := tb_of (List.mem_of_getElem? (i := 911) (by decide +kernel)) (by decide +kernel)
theorem t_912 : Cond.fieldLink RX9 61 "PaidMistakesModel" "bestBrings" "[J" ∈ TBg := tb_of (List.mem_of_getElem? (i := 912) (by decide +kernel)) (by decide +kernel)
theorem t_913 : Cond.fieldLink RX9 64 "PaidMistakesModel" "bestHides" "[J" ∈ TBg := tb_of (List.mem_of_getElem? (i := 913) (by decide +kernel)) (by decide +kernel)
theorem t_914 : Cond.fieldLink RX9 67 "PaidMistakesModel" "bestLook" "[I" ∈ TBg := tb_of (List.mem_of_getElem? (i := 914) (by decide +kernel)) (by decide +kernel)
theorem t_915 : Cond.fieldLink RX9 70 "PaidMistakesModel" "leftAt" "[I" ∈ TBg := tb_of (List.mem_of_getElem? (i := 915) (by decide +kernel)) (by decide +kernel)
theorem t_916 : Cond.fieldLink RX9 73 "PaidMistakesModel" "images" "[I" ∈ TBg := tb_of (List.mem_of_getElem? (i := 916) (by decide +kernel)) (by decide +kernel)
theorem t_917 : Cond.fieldLink RX9 76 "PaidMistakesModel" "isMade" "[Z" ∈ TBg := tb_of (List.mem_of_getElem? (i := 917) (by decide +kernel)) (by decide +kernel)
theorem t_918 : Cond.laysFinal RX9 "PaidMistakesModel" "tape" "[B" ∈ TBg := tb_of (List.mem_of_getElem? (i := 918) (by decide +kernel)) (by decide +kernel)
theorem t_920 : Cond.lays RX9 "PaidMistakesModel" "taped" "I" ∈ TBg := tb_of (List.mem_of_getElem? (i := 920) (by decide +kernel)) (by decide +kernel)
theorem t_922 : Cond.lays RX9 "PaidMistakesModel" "rules" "I" ∈ TBg := tb_of (List.mem_of_getElem? (i := 922) (by decide +kernel)) (by decide +kernel)
theorem t_924 : Cond.laysFinal RX9 "PaidMistakesModel" "sign" "[I" ∈ TBg := tb_of (List.mem_of_getElem? (i := 924) (by decide +kernel)) (by decide +kernel)
theorem t_926 : Cond.laysFinal RX9 "PaidMistakesModel" "length" "[I" ∈ TBg := tb_of (List.mem_of_getElem? (i := 926) (by decide +kernel)) (by decide +kernel)
theorem t_928 : Cond.laysFinal RX9 "PaidMistakesModel" "clause" "[I" ∈ TBg := tb_of (List.mem_of_getElem? (i := 928) (by decide +kernel)) (by decide +kernel)
theorem t_930 : Cond.laysFinal RX9 "PaidMistakesModel" "clauses" "[I" ∈ TBg := tb_of (List.mem_of_getElem? (i := 930) (by decide +kernel)) (by decide +kernel)
theorem t_932 : Cond.lays RX9 "PaidMistakesModel" "timeRead" "I" ∈ TBg := tb_of (List.mem_of_getElem? (i := 932) (by decide +kernel)) (by decide +kernel)
theorem t_934 : Cond.lays RX9 "PaidMistakesModel" "kindsRead" "I" ∈ TBg := tb_of (List.mem_of_getElem? (i := 934) (by decide +kernel)) (by decide +kernel)
theorem t_936 : Cond.lays RX9 "PaidMistakesModel" "faultsRead" "I" ∈ TBg := tb_of (List.mem_of_getElem? (i := 936) (by decide +kernel)) (by decide +kernel)
theorem t_938 : Cond.laysFinal RX9 "PaidMistakesModel" "kindRead" "[I" ∈ TBg := tb_of (List.mem_of_getElem? (i := 938) (by decide +kernel)) (by decide +kernel)
theorem t_940 : Cond.laysFinal RX9 "PaidMistakesModel" "faultRead" "[I" ∈ TBg := tb_of (List.mem_of_getElem? (i := 940) (by decide +kernel)) (by decide +kernel)
theorem t_942 : Cond.lays RX9 "PaidMistakesModel" "next" "I" ∈ TBg := tb_of (List.mem_of_getElem? (i := 942) (by decide +kernel)) (by decide +kernel)
theorem t_944 : Cond.lays RX9 "PaidMistakesModel" "wrong" "I" ∈ TBg := tb_of (List.mem_of_getElem? (i := 944) (by decide +kernel)) (by decide +kernel)
theorem t_946 : Cond.lays RX9 "PaidMistakesModel" "number" "I" ∈ TBg := tb_of (List.mem_of_getElem? (i := 946) (by decide +kernel)) (by decide +kernel)
theorem t_948 : Cond.lays RX9 "PaidMistakesModel" "text" "I" ∈ TBg := tb_of (List.mem_of_getElem? (i := 948) (by decide +kernel)) (by decide +kernel)
theorem t_950 : Cond.lays RX9 "PaidMistakesModel" "made" "I" ∈ TBg := tb_of (List.mem_of_getElem? (i := 950) (by decide +kernel)) (by decide +kernel)
theorem t_952 : Cond.lays RX9 "PaidMistakesModel" "deep" "I" ∈ TBg := tb_of (List.mem_of_getElem? (i := 952) (by decide +kernel)) (by decide +kernel)
theorem t_954 : Cond.lays RX9 "PaidMistakesModel" "lines" "I" ∈ TBg := tb_of (List.mem_of_getElem? (i := 954) (by decide +kernel)) (by decide +kernel)
theorem t_956 : Cond.laysFinal RX9 "PaidMistakesModel" "open" "[I" ∈ TBg := tb_of (List.mem_of_getElem? (i := 956) (by decide +kernel)) (by decide +kernel)
theorem t_958 : Cond.lays RX9 "PaidMistakesModel" "opened" "I" ∈ TBg := tb_of (List.mem_of_getElem? (i := 958) (by decide +kernel)) (by decide +kernel)
theorem t_960 : Cond.laysFinal RX9 "PaidMistakesModel" "stack" "[J" ∈ TBg := tb_of (List.mem_of_getElem? (i := 960) (by decide +kernel)) (by decide +kernel)
theorem t_962 : Cond.lays RX9 "PaidMistakesModel" "top" "I" ∈ TBg := tb_of (List.mem_of_getElem? (i := 962) (by decide +kernel)) (by decide +kernel)
theorem t_964 : Cond.laysFinal RX9 "PaidMistakesModel" "word" "[J" ∈ TBg := tb_of (List.mem_of_getElem? (i := 964) (by decide +kernel)) (by decide +kernel)
theorem t_966 : Cond.laysFinal RX9 "PaidMistakesModel" "said" "[I" ∈ TBg := tb_of (List.mem_of_getElem? (i := 966) (by decide +kernel)) (by decide +kernel)
theorem t_968 : Cond.laysFinal RX9 "PaidMistakesModel" "kept" "[I" ∈ TBg := tb_of (List.mem_of_getElem? (i := 968) (by decide +kernel)) (by decide +kernel)
theorem t_970 : Cond.laysFinal RX9 "PaidMistakesModel" "triedAt" "[I" ∈ TBg := tb_of (List.mem_of_getElem? (i := 970) (by decide +kernel)) (by decide +kernel)
theorem t_972 : Cond.laysFinal RX9 "PaidMistakesModel" "isFoundAt" "[Z" ∈ TBg := tb_of (List.mem_of_getElem? (i := 972) (by decide +kernel)) (by decide +kernel)
theorem t_974 : Cond.laysFinal RX9 "PaidMistakesModel" "foundBrings" "[J" ∈ TBg := tb_of (List.mem_of_getElem? (i := 974) (by decide +kernel)) (by decide +kernel)
theorem t_976 : Cond.laysFinal RX9 "PaidMistakesModel" "foundHides" "[J" ∈ TBg := tb_of (List.mem_of_getElem? (i := 976) (by decide +kernel)) (by decide +kernel)
theorem t_978 : Cond.laysFinal RX9 "PaidMistakesModel" "bestBrings" "[J" ∈ TBg := tb_of (List.mem_of_getElem? (i := 978) (by decide +kernel)) (by decide +kernel)
theorem t_980 : Cond.laysFinal RX9 "PaidMistakesModel" "bestHides" "[J" ∈ TBg := tb_of (List.mem_of_getElem? (i := 980) (by decide +kernel)) (by decide +kernel)
theorem t_982 : Cond.laysFinal RX9 "PaidMistakesModel" "bestLook" "[I" ∈ TBg := tb_of (List.mem_of_getElem? (i := 982) (by decide +kernel)) (by decide +kernel)
theorem t_984 : Cond.laysFinal RX9 "PaidMistakesModel" "leftAt" "[I" ∈ TBg := tb_of (List.mem_of_getElem? (i := 984) (by decide +kernel)) (by decide +kernel)
theorem t_986 : Cond.laysFinal RX9 "PaidMistakesModel" "images" "[I" ∈ TBg := tb_of (List.mem_of_getElem? (i := 986) (by decide +kernel)) (by decide +kernel)
theorem t_988 : Cond.laysFinal RX9 "PaidMistakesModel" "isMade" "[Z" ∈ TBg := tb_of (List.mem_of_getElem? (i := 988) (by decide +kernel)) (by decide +kernel)
theorem t_991 : Cond.arrayClass .boolean ∈ TBg := tb_of (List.mem_of_getElem? (i := 991) (by decide +kernel)) (by decide +kernel)
theorem t_1066 : Cond.methodLink RX9 118 yX9_in ∈ TBg := tb_of (List.mem_of_getElem? (i := 1066) (by decide +kernel)) (by decide +kernel)
theorem t_1067 : Cond.static yX9_in ∈ TBg := tb_of (List.mem_of_getElem? (i := 1067) (by decide +kernel)) (by decide +kernel)
theorem t_1068 : cw MX9_in ∈ TBg := tb_of (List.mem_of_getElem? (i := 1068) (by decide +kernel)) (by decide +kernel)
theorem t_1144 : Cond.methodLink RL 36 yX9_kind ∈ TBg := tb_of (List.mem_of_getElem? (i := 1144) (by decide +kernel)) (by decide +kernel)
theorem t_1145 : Cond.instanceMethod yX9_kind ∈ TBg := tb_of (List.mem_of_getElem? (i := 1145) (by decide +kernel)) (by decide +kernel)
theorem t_1146 : Cond.selects RX9 yX9_kind yX9_kind ∈ TBg := tb_of (List.mem_of_getElem? (i := 1146) (by decide +kernel)) (by decide +kernel)
theorem t_1147 : cw MX9_kind ∈ TBg := tb_of (List.mem_of_getElem? (i := 1147) (by decide +kernel)) (by decide +kernel)
theorem t_1149 : Cond.methodLink RL 40 yX9_fault ∈ TBg := tb_of (List.mem_of_getElem? (i := 1149) (by decide +kernel)) (by decide +kernel)
theorem t_1150 : Cond.instanceMethod yX9_fault ∈ TBg := tb_of (List.mem_of_getElem? (i := 1150) (by decide +kernel)) (by decide +kernel)
theorem t_1151 : Cond.selects RX9 yX9_fault yX9_fault ∈ TBg := tb_of (List.mem_of_getElem? (i := 1151) (by decide +kernel)) (by decide +kernel)
theorem t_1152 : cw MX9_fault ∈ TBg := tb_of (List.mem_of_getElem? (i := 1152) (by decide +kernel)) (by decide +kernel)
theorem t_1153 : Cond.methodLink RX9 280 yX9_isFault ∈ TBg := tb_of (List.mem_of_getElem? (i := 1153) (by decide +kernel)) (by decide +kernel)
theorem t_1155 : Cond.instanceMethod yX9_isFault ∈ TBg := tb_of (List.mem_of_getElem? (i := 1155) (by decide +kernel)) (by decide +kernel)
theorem t_1156 : cw MX9_isFault ∈ TBg := tb_of (List.mem_of_getElem? (i := 1156) (by decide +kernel)) (by decide +kernel)
theorem t_1166 : Cond.methodLink RL 44 yX9_look ∈ TBg := tb_of (List.mem_of_getElem? (i := 1166) (by decide +kernel)) (by decide +kernel)
theorem t_1167 : Cond.instanceMethod yX9_look ∈ TBg := tb_of (List.mem_of_getElem? (i := 1167) (by decide +kernel)) (by decide +kernel)
theorem t_1168 : Cond.selects RX9 yX9_look yX9_look ∈ TBg := tb_of (List.mem_of_getElem? (i := 1168) (by decide +kernel)) (by decide +kernel)
theorem t_1169 : cw MX9_look ∈ TBg := tb_of (List.mem_of_getElem? (i := 1169) (by decide +kernel)) (by decide +kernel)
theorem okN_X7_init : okN MX7_init 1 := ⟨by decide, by decide, by decide +kernel⟩
theorem okN_X0_init : okN MX0_init 0 := ⟨by decide, by decide, by decide +kernel⟩
theorem okN_X5_init : okN MX5_init 1 := ⟨by decide, by decide, by decide +kernel⟩
theorem okN_X6_init : okN MX6_init 0 := ⟨by decide, by decide, by decide +kernel⟩
theorem okN_X4_init : okN MX4_init 0 := ⟨by decide, by decide, by decide +kernel⟩
theorem okN_X2_init : okN MX2_init 0 := ⟨by decide, by decide, by decide +kernel⟩
theorem okN_X1_init : okN MX1_init 0 := ⟨by decide, by decide, by decide +kernel⟩
theorem okN_X8_init : okN MX8_init 0 := ⟨by decide, by decide, by decide +kernel⟩
theorem okN_X9_init : okN MX9_init 0 := ⟨by decide, by decide, by decide +kernel⟩
theorem okN_X8_kind : okN MX8_kind 2 := ⟨by decide, by decide, by decide +kernel⟩
theorem okN_X9_in : okN MX9_in 3 := ⟨by decide, by decide, by decide +kernel⟩
theorem okN_X9_kind : okN MX9_kind 2 := ⟨by decide, by decide, by decide +kernel⟩
theorem s_X8_isFault : Cond.selects yX8_isFault.cls yX8_isFault yX8_isFault ∈ TBg := tb_sel (q := (yX8_isFault, 11)) (by decide +kernel)
theorem okN_X8_isFault : okN MX8_isFault 1 := ⟨by decide, by decide, by decide +kernel⟩
theorem okN_X8_fault : okN MX8_fault 2 := ⟨by decide, by decide, by decide +kernel⟩
theorem s_X9_isFault : Cond.selects yX9_isFault.cls yX9_isFault yX9_isFault ∈ TBg := tb_sel (q := (yX9_isFault, 36)) (by decide +kernel)
theorem okN_X9_isFault : okN MX9_isFault 1 := ⟨by decide, by decide, by decide +kernel⟩
theorem okN_X9_fault : okN MX9_fault 2 := ⟨by decide, by decide, by decide +kernel⟩
theorem okN_X8_look : okN MX8_look 1 := ⟨by decide, by decide, by decide +kernel⟩
theorem okN_X9_look : okN MX9_look 1 := ⟨by decide, by decide, by decide +kernel⟩
theorem lk_I_8_33 : LkI RX8 33 MX7_init := ⟨t_35, t_3, t_33, t_34, rfl, rfl⟩
theorem lk_I_5_17 : LkI RX5 17 MX0_init := ⟨t_128, t_4, t_126, t_127, rfl, rfl⟩
theorem lk_I_8_36 : LkI RX8 36 MX5_init := ⟨t_122, t_2, t_120, t_121, rfl, rfl⟩
theorem lk_I_8_49 : LkI RX8 49 MX0_init := ⟨t_128, t_4, t_195, t_127, rfl, rfl⟩
theorem lk_I_4_11 : LkI RX4 11 MX6_init := ⟨t_206, t_6, t_204, t_205, rfl, rfl⟩
theorem lk_I_8_56 : LkI RX8 56 MX4_init := ⟨t_200, t_5, t_198, t_199, rfl, rfl⟩
theorem lk_I_8_63 : LkI RX8 63 MX2_init := ⟨t_272, t_7, t_270, t_271, rfl, rfl⟩
theorem lk_I_8_70 : LkI RX8 70 MX1_init := ⟨t_283, t_8, t_281, t_282, rfl, rfl⟩
theorem lk_I_L_9 : LkI RL 9 MX8_init := ⟨t_23, t_1, t_21, t_22, rfl, rfl⟩
theorem lk_I_L_12 : LkI RL 12 MX9_init := ⟨t_880, t_9, t_878, t_879, rfl, rfl⟩
theorem lk_V_L_32 : LkV RL 32 MX8_kind := ⟨t_605, t_1, t_602, t_603, t_604⟩
theorem lk_S_9_118 : LkS RX9 118 MX9_in := ⟨t_1068, t_9, t_1066, t_1067⟩
theorem lk_V_L_36 : LkV RL 36 MX9_kind := ⟨t_1147, t_9, t_1144, t_1145, t_1146⟩
theorem lk_V_8_139 : LkV RX8 139 MX8_isFault := ⟨t_614, t_1, t_611, t_613, s_X8_isFault⟩
theorem lk_V_L_37 : LkV RL 37 MX8_fault := ⟨t_610, t_1, t_607, t_608, t_609⟩
theorem lk_V_9_280 : LkV RX9 280 MX9_isFault := ⟨t_1156, t_9, t_1153, t_1155, s_X9_isFault⟩
theorem lk_V_L_40 : LkV RL 40 MX9_fault := ⟨t_1152, t_9, t_1149, t_1150, t_1151⟩
theorem lk_V_L_41 : LkV RL 41 MX8_look := ⟨t_644, t_1, t_641, t_642, t_643⟩
theorem lk_V_L_44 : LkV RL 44 MX9_look := ⟨t_1169, t_9, t_1166, t_1167, t_1168⟩
theorem iX0 : ∀ w ∈ u_ws RX0 TX0 6, w ∈ TBg := by
  intro w hw
  obtain ⟨k, hk, rfl⟩ := List.mem_map.mp hw
  have hk := List.mem_range.mp hk
  match k, hk with
  | 0, _ => exact t_147
  | 1, _ => exact t_149
  | 2, _ => exact t_151
  | 3, _ => exact t_153
  | 4, _ => exact t_155
  | 5, _ => exact t_157
  | k + 6, hk => exact absurd hk (by omega)
theorem dfX0 : ∀ j, j < 6 → defaultValue (tyX0 j) = vp_V [.int 0, .int 0, .int 0, .int 0, .int 0, .null] j := by
  intro j hj
  match j, hj with
  | 0, _ => rfl
  | 1, _ => rfl
  | 2, _ => rfl
  | 3, _ => rfl
  | 4, _ => rfl
  | 5, _ => rfl
  | j + 6, hj => exact absurd hj (by omega)
theorem iX1 : ∀ w ∈ u_ws RX1 TX1 4, w ∈ TBg := by
  intro w hw
  obtain ⟨k, hk, rfl⟩ := List.mem_map.mp hw
  have hk := List.mem_range.mp hk
  match k, hk with
  | 0, _ => exact t_291
  | 1, _ => exact t_293
  | 2, _ => exact t_295
  | 3, _ => exact t_297
  | k + 4, hk => exact absurd hk (by omega)
theorem dfX1 : ∀ j, j < 4 → defaultValue (tyX1 j) = vp_V [.null, .null, .int 0, .long 0] j := by
  intro j hj
  match j, hj with
  | 0, _ => rfl
  | 1, _ => rfl
  | 2, _ => rfl
  | 3, _ => rfl
  | j + 4, hj => exact absurd hj (by omega)
theorem iX2 : ∀ w ∈ u_ws RX2 TX2 1, w ∈ TBg := by
  intro w hw
  obtain ⟨k, hk, rfl⟩ := List.mem_map.mp hw
  have hk := List.mem_range.mp hk
  match k, hk with
  | 0, _ => exact t_275
  | k + 1, hk => exact absurd hk (by omega)
theorem dfX2 : ∀ j, j < 1 → defaultValue (tyX2 j) = vp_V [.null] j := by
  intro j hj
  match j, hj with
  | 0, _ => rfl
  | j + 1, hj => exact absurd hj (by omega)
theorem iX3 : ∀ w ∈ u_ws RX3 TX3 5, w ∈ TBg := by
  intro w hw
  obtain ⟨k, hk, rfl⟩ := List.mem_map.mp hw
  have hk := List.mem_range.mp hk
  match k, hk with
  | 0, _ => exact t_591
  | 1, _ => exact t_593
  | 2, _ => exact t_595
  | 3, _ => exact t_597
  | 4, _ => exact t_599
  | k + 5, hk => exact absurd hk (by omega)
theorem dfX3 : ∀ j, j < 5 → defaultValue (tyX3 j) = vp_V [.null, .int 0, .null, .null, .null] j := by
  intro j hj
  match j, hj with
  | 0, _ => rfl
  | 1, _ => rfl
  | 2, _ => rfl
  | 3, _ => rfl
  | 4, _ => rfl
  | j + 5, hj => exact absurd hj (by omega)
theorem iX4 : ∀ w ∈ u_ws RX4 TX4 8, w ∈ TBg := by
  intro w hw
  obtain ⟨k, hk, rfl⟩ := List.mem_map.mp hw
  have hk := List.mem_range.mp hk
  match k, hk with
  | 0, _ => exact t_251
  | 1, _ => exact t_253
  | 2, _ => exact t_255
  | 3, _ => exact t_257
  | 4, _ => exact t_259
  | 5, _ => exact t_261
  | 6, _ => exact t_263
  | 7, _ => exact t_265
  | k + 8, hk => exact absurd hk (by omega)
theorem dfX4 : ∀ j, j < 8 → defaultValue (tyX4 j) = vp_V [.null, .null, .int 0, .int 0, .int 0, .null, .null, .null] j := by
  intro j hj
  match j, hj with
  | 0, _ => rfl
  | 1, _ => rfl
  | 2, _ => rfl
  | 3, _ => rfl
  | 4, _ => rfl
  | 5, _ => rfl
  | 6, _ => rfl
  | 7, _ => rfl
  | j + 8, hj => exact absurd hj (by omega)
theorem iX5 : ∀ w ∈ u_ws RX5 TX5 8, w ∈ TBg := by
  intro w hw
  obtain ⟨k, hk, rfl⟩ := List.mem_map.mp hw
  have hk := List.mem_range.mp hk
  match k, hk with
  | 0, _ => exact t_176
  | 1, _ => exact t_178
  | 2, _ => exact t_180
  | 3, _ => exact t_182
  | 4, _ => exact t_184
  | 5, _ => exact t_186
  | 6, _ => exact t_188
  | 7, _ => exact t_190
  | k + 8, hk => exact absurd hk (by omega)
theorem dfX5 : ∀ j, j < 8 → defaultValue (tyX5 j) = vp_V [.null, .null, .int 0, .int 0, .int 0, .null, .int 0, .null] j := by
  intro j hj
  match j, hj with
  | 0, _ => rfl
  | 1, _ => rfl
  | 2, _ => rfl
  | 3, _ => rfl
  | 4, _ => rfl
  | 5, _ => rfl
  | 6, _ => rfl
  | 7, _ => rfl
  | j + 8, hj => exact absurd hj (by omega)
theorem iX6 : ∀ w ∈ u_ws RX6 TX6 9, w ∈ TBg := by
  intro w hw
  obtain ⟨k, hk, rfl⟩ := List.mem_map.mp hw
  have hk := List.mem_range.mp hk
  match k, hk with
  | 0, _ => exact t_223
  | 1, _ => exact t_225
  | 2, _ => exact t_227
  | 3, _ => exact t_229
  | 4, _ => exact t_231
  | 5, _ => exact t_233
  | 6, _ => exact t_235
  | 7, _ => exact t_237
  | 8, _ => exact t_239
  | k + 9, hk => exact absurd hk (by omega)
theorem dfX6 : ∀ j, j < 9 → defaultValue (tyX6 j) = vp_V [.null, .null, .null, .int 0, .int 0, .int 0, .int 0, .int 0, .int 0] j := by
  intro j hj
  match j, hj with
  | 0, _ => rfl
  | 1, _ => rfl
  | 2, _ => rfl
  | 3, _ => rfl
  | 4, _ => rfl
  | 5, _ => rfl
  | 6, _ => rfl
  | 7, _ => rfl
  | 8, _ => rfl
  | j + 9, hj => exact absurd hj (by omega)
theorem iX7 : ∀ w ∈ u_ws RX7 TX7 18, w ∈ TBg := by
  intro w hw
  obtain ⟨k, hk, rfl⟩ := List.mem_map.mp hw
  have hk := List.mem_range.mp hk
  match k, hk with
  | 0, _ => exact t_82
  | 1, _ => exact t_84
  | 2, _ => exact t_86
  | 3, _ => exact t_88
  | 4, _ => exact t_90
  | 5, _ => exact t_92
  | 6, _ => exact t_94
  | 7, _ => exact t_96
  | 8, _ => exact t_98
  | 9, _ => exact t_100
  | 10, _ => exact t_102
  | 11, _ => exact t_104
  | 12, _ => exact t_106
  | 13, _ => exact t_108
  | 14, _ => exact t_110
  | 15, _ => exact t_112
  | 16, _ => exact t_114
  | 17, _ => exact t_116
  | k + 18, hk => exact absurd hk (by omega)
theorem dfX7 : ∀ j, j < 18 → defaultValue (tyX7 j) = vp_V [.int 0, .int 0, .int 0, .int 0, .int 0, .null, .null, .null, .null, .null, .null, .null, .null, .null, .null, .null, .null, .int 0] j := by
  intro j hj
  match j, hj with
  | 0, _ => rfl
  | 1, _ => rfl
  | 2, _ => rfl
  | 3, _ => rfl
  | 4, _ => rfl
  | 5, _ => rfl
  | 6, _ => rfl
  | 7, _ => rfl
  | 8, _ => rfl
  | 9, _ => rfl
  | 10, _ => rfl
  | 11, _ => rfl
  | 12, _ => rfl
  | 13, _ => rfl
  | 14, _ => rfl
  | 15, _ => rfl
  | 16, _ => rfl
  | 17, _ => rfl
  | j + 18, hj => exact absurd hj (by omega)
theorem iX8 : ∀ w ∈ u_ws RX8 TX8 11, w ∈ TBg := by
  intro w hw
  obtain ⟨k, hk, rfl⟩ := List.mem_map.mp hw
  have hk := List.mem_range.mp hk
  match k, hk with
  | 0, _ => exact t_311
  | 1, _ => exact t_313
  | 2, _ => exact t_315
  | 3, _ => exact t_317
  | 4, _ => exact t_319
  | 5, _ => exact t_321
  | 6, _ => exact t_323
  | 7, _ => exact t_325
  | 8, _ => exact t_327
  | 9, _ => exact t_329
  | 10, _ => exact t_331
  | k + 11, hk => exact absurd hk (by omega)
theorem dfX8 : ∀ j, j < 11 → defaultValue (tyX8 j) = vp_V [.null, .int 0, .null, .int 0, .int 0, .null, .null, .null, .null, .null, .null] j := by
  intro j hj
  match j, hj with
  | 0, _ => rfl
  | 1, _ => rfl
  | 2, _ => rfl
  | 3, _ => rfl
  | 4, _ => rfl
  | 5, _ => rfl
  | 6, _ => rfl
  | 7, _ => rfl
  | 8, _ => rfl
  | 9, _ => rfl
  | 10, _ => rfl
  | j + 11, hj => exact absurd hj (by omega)
theorem iX9 : ∀ w ∈ u_ws RX9 TX9 36, w ∈ TBg := by
  intro w hw
  obtain ⟨k, hk, rfl⟩ := List.mem_map.mp hw
  have hk := List.mem_range.mp hk
  match k, hk with
  | 0, _ => exact t_918
  | 1, _ => exact t_920
  | 2, _ => exact t_922
  | 3, _ => exact t_924
  | 4, _ => exact t_926
  | 5, _ => exact t_928
  | 6, _ => exact t_930
  | 7, _ => exact t_932
  | 8, _ => exact t_934
  | 9, _ => exact t_936
  | 10, _ => exact t_938
  | 11, _ => exact t_940
  | 12, _ => exact t_942
  | 13, _ => exact t_944
  | 14, _ => exact t_946
  | 15, _ => exact t_948
  | 16, _ => exact t_950
  | 17, _ => exact t_952
  | 18, _ => exact t_954
  | 19, _ => exact t_956
  | 20, _ => exact t_958
  | 21, _ => exact t_960
  | 22, _ => exact t_962
  | 23, _ => exact t_964
  | 24, _ => exact t_966
  | 25, _ => exact t_968
  | 26, _ => exact t_970
  | 27, _ => exact t_972
  | 28, _ => exact t_974
  | 29, _ => exact t_976
  | 30, _ => exact t_978
  | 31, _ => exact t_980
  | 32, _ => exact t_982
  | 33, _ => exact t_984
  | 34, _ => exact t_986
  | 35, _ => exact t_988
  | k + 36, hk => exact absurd hk (by omega)
theorem dfX9 : ∀ j, j < 36 → defaultValue (tyX9 j) = vp_V [.null, .int 0, .int 0, .null, .null, .null, .null, .int 0, .int 0, .int 0, .null, .null, .int 0, .int 0, .int 0, .int 0, .int 0, .int 0, .int 0, .null, .int 0, .null, .int 0, .null, .null, .null, .null, .null, .null, .null, .null, .null, .null, .null, .null, .null] j := by
  intro j hj
  match j, hj with
  | 0, _ => rfl
  | 1, _ => rfl
  | 2, _ => rfl
  | 3, _ => rfl
  | 4, _ => rfl
  | 5, _ => rfl
  | 6, _ => rfl
  | 7, _ => rfl
  | 8, _ => rfl
  | 9, _ => rfl
  | 10, _ => rfl
  | 11, _ => rfl
  | 12, _ => rfl
  | 13, _ => rfl
  | 14, _ => rfl
  | 15, _ => rfl
  | 16, _ => rfl
  | 17, _ => rfl
  | 18, _ => rfl
  | 19, _ => rfl
  | 20, _ => rfl
  | 21, _ => rfl
  | 22, _ => rfl
  | 23, _ => rfl
  | 24, _ => rfl
  | 25, _ => rfl
  | 26, _ => rfl
  | 27, _ => rfl
  | 28, _ => rfl
  | 29, _ => rfl
  | 30, _ => rfl
  | 31, _ => rfl
  | 32, _ => rfl
  | 33, _ => rfl
  | 34, _ => rfl
  | 35, _ => rfl
  | j + 36, hj => exact absurd hj (by omega)
