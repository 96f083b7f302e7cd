theorem tb_o1 {w : Cond} (h : w ∈ tables_1_1) (g : goodWord w = true) : w ∈ TBg := tb_of (show w ∈ tables_1 from List.mem_append_left _ h) g
theorem tb_o2 {w : Cond} (h : w ∈ tables_1_2) (g : goodWord w = true) : w ∈ TBg := tb_of (show w ∈ tables_1 from List.mem_append_right _ (List.mem_append_left _ h)) g
theorem tb_o3 {w : Cond} (h : w ∈ tables_1_3) (g : goodWord w = true) : w ∈ TBg := tb_of (show w ∈ tables_1 from List.mem_append_right _ (List.mem_append_right _ (List.mem_append_left _ h))) g
theorem tb_o4 {w : Cond} (h : w ∈ tables_1_4) (g : goodWord w = true) : w ∈ TBg := tb_of (show w ∈ tables_1 from List.mem_append_right _ (List.mem_append_right _ (List.mem_append_right _ (List.mem_append_left _ h)))) g
theorem tb_o5 {w : Cond} (h : w ∈ tables_1_5) (g : goodWord w = true) : w ∈ TBg := tb_of (show w ∈ tables_1 from List.mem_append_right _ (List.mem_append_right _ (List.mem_append_right _ (List.mem_append_right _ (List.mem_append_left _ h))))) g
theorem tb_o6 {w : Cond} (h : w ∈ tables_1_6) (g : goodWord w = true) : w ∈ TBg := tb_of (show w ∈ tables_1 from List.mem_append_right _ (List.mem_append_right _ (List.mem_append_right _ (List.mem_append_right _ (List.mem_append_right _ (h)))))) g
abbrev ML_law : Mt := (yL_law, cL_law, 4, some .boolean)
abbrev MX7_init : Mt := (yX7_init, cX7_init, 2, none)
abbrev MX5_init : Mt := (yX5_init, cX5_init, 2, none)
abbrev MX0_init : Mt := (yX0_init, cX0_init, 1, none)
abbrev MX3_init : Mt := (yX3_init, cX3_init, 6, none)
abbrev MX9_back : Mt := (yX9_back, cX9_back, 3, some .int)
abbrev MX9_in : Mt := (yX9_in, cX9_in, 6, some .boolean)
abbrev MX9_begins : Mt := (yX9_begins, cX9_begins, 3, none)
abbrev MX9_best : Mt := (yX9_best, cX9_best, 3, some .long)
abbrev MX9_isWork : Mt := (yX9_isWork, cX9_isWork, 1, some .boolean)
abbrev MX9_keeps : Mt := (yX9_keeps, cX9_keeps, 2, none)
abbrev MX9_goesThrough : Mt := (yX9_goesThrough, cX9_goesThrough, 9, none)
abbrev MX9_comesTo : Mt := (yX9_comesTo, cX9_comesTo, 3, none)
abbrev MX9_hidden : Mt := (yX9_hidden, cX9_hidden, 3, some .int)
abbrev MX9_faultOf : Mt := (yX9_faultOf, cX9_faultOf, 3, some .int)
abbrev MX9_kindOf : Mt := (yX9_kindOf, cX9_kindOf, 3, some .int)
abbrev MX9_hundreds : Mt := (yX9_hundreds, cX9_hundreds, 5, some .long)
abbrev MX9_takes : Mt := (yX9_takes, cX9_takes, 11, none)
abbrev MX9_triesAs : Mt := (yX9_triesAs, cX9_triesAs, 4, none)
abbrev MX9_triesNext : Mt := (yX9_triesNext, cX9_triesNext, 2, some .boolean)
abbrev MX9_canLook : Mt := (yX9_canLook, cX9_canLook, 2, some .boolean)
abbrev MX9_isOpen : Mt := (yX9_isOpen, cX9_isOpen, 2, some .boolean)
abbrev MX9_putsBack : Mt := (yX9_putsBack, cX9_putsBack, 2, none)
abbrev MX9_partOf : Mt := (yX9_partOf, cX9_partOf, 6, some .long)
abbrev MX9_divisor : Mt := (yX9_divisor, cX9_divisor, 10, some .long)
abbrev MX9_bits : Mt := (yX9_bits, cX9_bits, 3, some .int)
abbrev MX9_checks : Mt := (yX9_checks, cX9_checks, 4, some .int)
abbrev MX9_clauseFor : Mt := (yX9_clauseFor, cX9_clauseFor, 5, some .int)
abbrev MX9_words : Mt := (yX9_words, cX9_words, 2, none)
abbrev MX9_thatAre : Mt := (yX9_thatAre, cX9_thatAre, 4, some .int)
abbrev MX9_reckons : Mt := (yX9_reckons, cX9_reckons, 11, some .long)
abbrev MX9_pop : Mt := (yX9_pop, cX9_pop, 1, some .long)
abbrev MX9_one : Mt := (yX9_one, cX9_one, 5, some .long)
abbrev MX9_push : Mt := (yX9_push, cX9_push, 3, none)
abbrev MX9_clauseHere : Mt := (yX9_clauseHere, cX9_clauseHere, 4, some .boolean)
abbrev MX9_see : Mt := (yX9_see, cX9_see, 1, some .int)
abbrev MX9_isWord : Mt := (yX9_isWord, cX9_isWord, 6, some .boolean)
abbrev MX9_isLetter : Mt := (yX9_isLetter, cX9_isLetter, 2, some .boolean)
abbrev MX9_isFaultHere : Mt := (yX9_isFaultHere, cX9_isFaultHere, 3, some .boolean)
abbrev MX9_passWord : Mt := (yX9_passWord, cX9_passWord, 1, none)
abbrev MX9_numberHere : Mt := (yX9_numberHere, cX9_numberHere, 5, some .boolean)
abbrev MX9_isDigit : Mt := (yX9_isDigit, cX9_isDigit, 2, some .boolean)
abbrev MX9_fails : Mt := (yX9_fails, cX9_fails, 3, some .boolean)
abbrev MX9_takesWord : Mt := (yX9_takesWord, cX9_takesWord, 3, some .boolean)
abbrev MX9_isKindHere : Mt := (yX9_isKindHere, cX9_isKindHere, 3, some .boolean)
abbrev MX9_isTimeHere : Mt := (yX9_isTimeHere, cX9_isTimeHere, 2, some .boolean)
abbrev MX9_isDoingHere : Mt := (yX9_isDoingHere, cX9_isDoingHere, 3, some .boolean)
abbrev MX9_tested : Mt := (yX9_tested, cX9_tested, 3, some .boolean)
abbrev MX9_fact : Mt := (yX9_fact, cX9_fact, 3, some .boolean)
abbrev MX9_opens : Mt := (yX9_opens, cX9_opens, 2, some .boolean)
abbrev MX9_compare : Mt := (yX9_compare, cX9_compare, 5, some .boolean)
abbrev MX9_sum : Mt := (yX9_sum, cX9_sum, 2, some .boolean)
abbrev MX9_term : Mt := (yX9_term, cX9_term, 2, some .boolean)
abbrev MX9_value : Mt := (yX9_value, cX9_value, 3, some .boolean)
abbrev MX9_wordHere : Mt := (yX9_wordHere, cX9_wordHere, 1, some .int)
abbrev MX9_makes : Mt := (yX9_makes, cX9_makes, 2, some .boolean)
abbrev MX9_puts : Mt := (yX9_puts, cX9_puts, 3, none)
abbrev MX9_closes : Mt := (yX9_closes, cX9_closes, 1, none)
abbrev MX9_settles : Mt := (yX9_settles, cX9_settles, 2, none)
abbrev MX9_strength : Mt := (yX9_strength, cX9_strength, 1, some .int)
abbrev MX9_isInside : Mt := (yX9_isInside, cX9_isInside, 2, some .boolean)
abbrev MX9_coins : Mt := (yX9_coins, cX9_coins, 2, some .int)
abbrev MX9_comesOut : Mt := (yX9_comesOut, cX9_comesOut, 7, some .long)
abbrev MX9_isOf : Mt := (yX9_isOf, cX9_isOf, 2, some .boolean)
abbrev MX9_couldBe : Mt := (yX9_couldBe, cX9_couldBe, 7, some .boolean)
abbrev MX9_count : Mt := (yX9_count, cX9_count, 2, some .int)
abbrev MX9_dawn : Mt := (yX9_dawn, cX9_dawn, 1, some .int)
abbrev MX9_day : Mt := (yX9_day, cX9_day, 3, some .int)
abbrev MX9_isRule : Mt := (yX9_isRule, cX9_isRule, 2, some .boolean)
abbrev MX9_passes : Mt := (yX9_passes, cX9_passes, 4, some .int)
abbrev MX9_nextFor : Mt := (yX9_nextFor, cX9_nextFor, 9, some .int)
abbrev MX9_stops : Mt := (yX9_stops, cX9_stops, 5, some .boolean)
abbrev MX9_looks : Mt := (yX9_looks, cX9_looks, 3, some .boolean)
abbrev MX9_draw : Mt := (yX9_draw, cX9_draw, 2, some .int)
abbrev MX9_end : Mt := (yX9_end, cX9_end, 2, some .int)
abbrev MX9_fault : Mt := (yX9_fault, cX9_fault, 3, some .int)
abbrev MX9_isFault : Mt := (yX9_isFault, cX9_isFault, 2, some .boolean)
abbrev MX9_feed : Mt := (yX9_feed, cX9_feed, 6, some .int)
abbrev MX9_four : Mt := (yX9_four, cX9_four, 3, none)
abbrev MX9_fine : Mt := (yX9_fine, cX9_fine, 2, some .int)
abbrev MX9_fits : Mt := (yX9_fits, cX9_fits, 8, some .int)
abbrev MX9_game : Mt := (yX9_game, cX9_game, 4, some .int)
abbrev MX9_gameOf : Mt := (yX9_gameOf, cX9_gameOf, 2, some .int)
abbrev MX9_image : Mt := (yX9_image, cX9_image, 3, some .int)
abbrev MX9_kind : Mt := (yX9_kind, cX9_kind, 3, some .int)
abbrev MX9_look : Mt := (yX9_look, cX9_look, 2, some .int)
abbrev MX9_master : Mt := (yX9_master, cX9_master, 13, some .long)
abbrev MX9_meanOf : Mt := (yX9_meanOf, cX9_meanOf, 8, some .long)
abbrev MX9_mend : Mt := (yX9_mend, cX9_mend, 2, some .int)
abbrev MX9_mixed : Mt := (yX9_mixed, cX9_mixed, 6, some .int)
abbrev MX9_rests : Mt := (yX9_rests, cX9_rests, 2, some .int)
abbrev MX9_readsAll : Mt := (yX9_readsAll, cX9_readsAll, 2, some .boolean)
abbrev MX9_row : Mt := (yX9_row, cX9_row, 2, some .int)
abbrev MX9_rule : Mt := (yX9_rule, cX9_rule, 1, some .int)
abbrev MX9_seed : Mt := (yX9_seed, cX9_seed, 3, some .int)
abbrev MX9_seen : Mt := (yX9_seen, cX9_seen, 3, some .long)
abbrev MX9_weeks : Mt := (yX9_weeks, cX9_weeks, 6, some .int)
abbrev MX9_work : Mt := (yX9_work, cX9_work, 3, some .int)
abbrev MX9_worth : Mt := (yX9_worth, cX9_worth, 2, some .long)
abbrev MX9_would : Mt := (yX9_would, cX9_would, 5, some .int)
abbrev MJ6_bitCount_0f7a4 : Mt := (yJ6_bitCount_0f7a4, cJ6_bitCount_0f7a4, 1, some .int)
abbrev MJ7_fill_53178 : Mt := (yJ7_fill_53178, cJ7_fill_53178, 4, none)
abbrev MX0_begin : Mt := (yX0_begin, cX0_begin, 2, none)
abbrev MX0_copyFrom : Mt := (yX0_copyFrom, cX0_copyFrom, 2, none)
abbrev MX0_gone : Mt := (yX0_gone, cX0_gone, 1, some .int)
abbrev MX0_lookFor : Mt := (yX0_lookFor, cX0_lookFor, 3, some .boolean)
abbrev MX8_at : Mt := (yX8_at, cX8_at, 2, some .int)
abbrev MX8_put : Mt := (yX8_put, cX8_put, 3, none)
abbrev MX8_bit : Mt := (yX8_bit, cX8_bit, 1, some .int)
abbrev MX1_choice : Mt := (yX1_choice, cX1_choice, 8, some .int)
abbrev MX1_mostEarned : Mt := (yX1_mostEarned, cX1_mostEarned, 12, some .long)
abbrev MJ9_min_7cf53 : Mt := (yJ9_min_7cf53, cJ9_min_7cf53, 2, some .int)
abbrev MX1_earnedBy : Mt := (yX1_earnedBy, cX1_earnedBy, 12, some .long)
abbrev MX7_isOpen : Mt := (yX7_isOpen, cX7_isOpen, 4, some .boolean)
abbrev MX8_hundreds : Mt := (yX8_hundreds, cX8_hundreds, 4, some .long)
abbrev MJ9_max_f86c9 : Mt := (yJ9_max_f86c9, cJ9_max_f86c9, 4, some .long)
abbrev MX7_mostByOneLook : Mt := (yX7_mostByOneLook, cX7_mostByOneLook, 5, some .int)
abbrev MX1_hiddenMean : Mt := (yX1_hiddenMean, cX1_hiddenMean, 8, some .long)
abbrev MX7_hiddenCoins : Mt := (yX7_hiddenCoins, cX7_hiddenCoins, 2, some .int)
abbrev MX7_together : Mt := (yX7_together, cX7_together, 5, some .int)
abbrev MX8_has : Mt := (yX8_has, cX8_has, 2, some .boolean)
abbrev MX1_leastFree : Mt := (yX1_leastFree, cX1_leastFree, 5, some .int)
abbrev MX1_weighSets : Mt := (yX1_weighSets, cX1_weighSets, 10, none)
abbrev MX7_mendingOf : Mt := (yX7_mendingOf, cX7_mendingOf, 2, some .int)
abbrev MX2_compares : Mt := (yX2_compares, cX2_compares, 5, some .boolean)
abbrev MX2_join : Mt := (yX2_join, cX2_join, 5, some .long)
abbrev MX2_lookClause : Mt := (yX2_lookClause, cX2_lookClause, 9, some .int)
abbrev MX2_reckon : Mt := (yX2_reckon, cX2_reckon, 10, some .long)
abbrev MJ9_max_7cf53 : Mt := (yJ9_max_7cf53, cJ9_max_7cf53, 2, some .int)
abbrev MX2_wordOf : Mt := (yX2_wordOf, cX2_wordOf, 4, some .long)
abbrev MX2_nextFault : Mt := (yX2_nextFault, cX2_nextFault, 13, some .int)
abbrev MX2_play : Mt := (yX2_play, cX2_play, 6, some .int)
abbrev MX2_stopsAt : Mt := (yX2_stopsAt, cX2_stopsAt, 8, some .boolean)
abbrev MX4_emit : Mt := (yX4_emit, cX4_emit, 2, none)
abbrev MX4_readClause : Mt := (yX4_readClause, cX4_readClause, 3, none)
abbrev MX6_step : Mt := (yX6_step, cX6_step, 1, none)
abbrev MX4_readFact : Mt := (yX4_readFact, cX4_readFact, 3, none)
abbrev MX4_readTest : Mt := (yX4_readTest, cX4_readTest, 5, none)
abbrev MX6_fail : Mt := (yX6_fail, cX6_fail, 2, none)
abbrev MX4_readComparison : Mt := (yX4_readComparison, cX4_readComparison, 2, none)
abbrev MX4_readSum : Mt := (yX4_readSum, cX4_readSum, 5, none)
abbrev MX4_readValue : Mt := (yX4_readValue, cX4_readValue, 3, none)
abbrev MX4_start : Mt := (yX4_start, cX4_start, 1, none)
abbrev MX5_beginWork : Mt := (yX5_beginWork, cX5_beginWork, 2, none)
abbrev MX5_copyFrom : Mt := (yX5_copyFrom, cX5_copyFrom, 2, none)
abbrev MX6_addToken : Mt := (yX6_addToken, cX6_addToken, 4, none)
abbrev MX6_anotherClause : Mt := (yX6_anotherClause, cX6_anotherClause, 1, some .boolean)
abbrev MX6_clauseWord : Mt := (yX6_clauseWord, cX6_clauseWord, 3, some .int)
abbrev MX6_spells : Mt := (yX6_spells, cX6_spells, 5, some .boolean)
abbrev MJ0_length_8abf5 : Mt := (yJ0_length_8abf5, cJ0_length_8abf5, 1, some .int)
abbrev MJ0_charAt_5068e : Mt := (yJ0_charAt_5068e, cJ0_charAt_5068e, 2, some .char)
abbrev MX6_cutNumber : Mt := (yX6_cutNumber, cX6_cutNumber, 6, some .int)
abbrev MX6_isDigit : Mt := (yX6_isDigit, cX6_isDigit, 1, some .boolean)
abbrev MX6_cutToken : Mt := (yX6_cutToken, cX6_cutToken, 6, some .int)
abbrev MX6_isLetter : Mt := (yX6_isLetter, cX6_isLetter, 1, some .boolean)
abbrev MX6_cutWord : Mt := (yX6_cutWord, cX6_cutWord, 6, some .int)
abbrev MX6_valueWord : Mt := (yX6_valueWord, cX6_valueWord, 3, some .int)
abbrev MX6_open : Mt := (yX6_open, cX6_open, 5, none)
abbrev MX6_takeNumber : Mt := (yX6_takeNumber, cX6_takeNumber, 4, some .int)
abbrev MX7_couldBeFound : Mt := (yX7_couldBeFound, cX7_couldBeFound, 7, some .boolean)
abbrev MX7_orderLooks : Mt := (yX7_orderLooks, cX7_orderLooks, 3, none)
abbrev MX7_payOf : Mt := (yX7_payOf, cX7_payOf, 2, some .int)
abbrev MX7_readClause : Mt := (yX7_readClause, cX7_readClause, 5, none)
abbrev MX7_readFault : Mt := (yX7_readFault, cX7_readFault, 3, none)
abbrev MX7_readKind : Mt := (yX7_readKind, cX7_readKind, 2, none)
abbrev MX7_readFrom : Mt := (yX7_readFrom, cX7_readFrom, 4, none)
abbrev MX8_back : Mt := (yX8_back, cX8_back, 3, some .int)
abbrev MX8_best : Mt := (yX8_best, cX8_best, 4, some .long)
abbrev MX8_hasWork : Mt := (yX8_hasWork, cX8_hasWork, 1, some .boolean)
abbrev MX8_partOf : Mt := (yX8_partOf, cX8_partOf, 12, some .long)
abbrev MJ9_abs_067f4 : Mt := (yJ9_abs_067f4, cJ9_abs_067f4, 2, some .long)
abbrev MX8_checks : Mt := (yX8_checks, cX8_checks, 4, some .int)
abbrev MX8_coins : Mt := (yX8_coins, cX8_coins, 2, some .int)
abbrev MX8_count : Mt := (yX8_count, cX8_count, 2, some .int)
abbrev MX8_dawn : Mt := (yX8_dawn, cX8_dawn, 1, some .int)
abbrev MX8_day : Mt := (yX8_day, cX8_day, 4, some .int)
abbrev MX8_ruleForWork : Mt := (yX8_ruleForWork, cX8_ruleForWork, 3, some (.object "PaidMistakes$Rule"))
abbrev MX8_end : Mt := (yX8_end, cX8_end, 2, some .int)
abbrev MX8_fault : Mt := (yX8_fault, cX8_fault, 5, some .int)
abbrev MX8_isFault : Mt := (yX8_isFault, cX8_isFault, 2, some .boolean)
abbrev MX8_feed : Mt := (yX8_feed, cX8_feed, 6, some .int)
abbrev MX8_putBytes : Mt := (yX8_putBytes, cX8_putBytes, 3, none)
abbrev MX8_fine : Mt := (yX8_fine, cX8_fine, 2, some .int)
abbrev MX8_fits : Mt := (yX8_fits, cX8_fits, 8, some .int)
abbrev MX8_game : Mt := (yX8_game, cX8_game, 4, some .int)
abbrev MX8_image : Mt := (yX8_image, cX8_image, 3, some .int)
abbrev MX8_kind : Mt := (yX8_kind, cX8_kind, 4, some .int)
abbrev MX8_look : Mt := (yX8_look, cX8_look, 2, some .int)
abbrev MX8_master : Mt := (yX8_master, cX8_master, 3, some .long)
abbrev MX8_mend : Mt := (yX8_mend, cX8_mend, 2, some .int)
abbrev MX8_mixed : Mt := (yX8_mixed, cX8_mixed, 7, some .int)
abbrev MX8_rests : Mt := (yX8_rests, cX8_rests, 5, some .int)
abbrev MJ9_abs_0f7a4 : Mt := (yJ9_abs_0f7a4, cJ9_abs_0f7a4, 1, some .int)
abbrev MX8_row : Mt := (yX8_row, cX8_row, 2, some .int)
abbrev MX8_rowMean : Mt := (yX8_rowMean, cX8_rowMean, 13, some .long)
abbrev MX8_rule : Mt := (yX8_rule, cX8_rule, 4, some .int)
abbrev MX4_makeRule : Mt := (yX4_makeRule, cX4_makeRule, 2, some (.object "PaidMistakes$Rule"))
abbrev MX8_seed : Mt := (yX8_seed, cX8_seed, 3, some .int)
abbrev MX8_seen : Mt := (yX8_seen, cX8_seen, 5, some .long)
abbrev MX8_weeks : Mt := (yX8_weeks, cX8_weeks, 7, some .int)
abbrev MX8_work : Mt := (yX8_work, cX8_work, 3, some .int)
abbrev MX8_worth : Mt := (yX8_worth, cX8_worth, 4, some .long)
abbrev MX8_would : Mt := (yX8_would, cX8_would, 5, some .int)
abbrev MJ7_copyOf_59c91 : Mt := (yJ7_copyOf_59c91, cJ7_copyOf_59c91, 3, some (.array .int))
abbrev MJ0_coder_7d493 : Mt := (yJ0_coder_7d493, cJ0_coder_7d493, 1, some .byte)
abbrev MJ0_isLatin1_aae02 : Mt := (yJ0_isLatin1_aae02, cJ0_isLatin1_aae02, 1, some .boolean)
abbrev MJ3_checkIndex_8e157 : Mt := (yJ3_checkIndex_8e157, cJ3_checkIndex_8e157, 3, some .int)
abbrev MJ0_checkIndex_df160 : Mt := (yJ0_checkIndex_df160, cJ0_checkIndex_df160, 2, none)
abbrev MJ1_charAt_3b067 : Mt := (yJ1_charAt_3b067, cJ1_charAt_3b067, 2, some .char)
theorem t_1 : Cond.initialized RX8 ∈ TBg := tb_o1 (List.mem_of_getElem? (i := 1) rfl) rfl
theorem t_2 : Cond.initialized RX5 ∈ TBg := tb_o1 (List.mem_of_getElem? (i := 2) rfl) rfl
theorem t_3 : Cond.initialized RX7 ∈ TBg := tb_o1 (List.mem_of_getElem? (i := 3) rfl) rfl
theorem t_4 : Cond.initialized RX0 ∈ TBg := tb_o1 (List.mem_of_getElem? (i := 4) rfl) rfl
theorem t_5 : Cond.initialized RX4 ∈ TBg := tb_o1 (List.mem_of_getElem? (i := 5) rfl) rfl
theorem t_6 : Cond.initialized RX6 ∈ TBg := tb_o1 (List.mem_of_getElem? (i := 6) rfl) rfl
theorem t_7 : Cond.initialized RX2 ∈ TBg := tb_o1 (List.mem_of_getElem? (i := 7) rfl) rfl
theorem t_8 : Cond.initialized RX1 ∈ TBg := tb_o1 (List.mem_of_getElem? (i := 8) rfl) rfl
theorem t_9 : Cond.initialized RX9 ∈ TBg := tb_o1 (List.mem_of_getElem? (i := 9) rfl) rfl
theorem t_10 : Cond.initialized RJ0 ∈ TBg := tb_o1 (List.mem_of_getElem? (i := 10) rfl) rfl
theorem t_11 : Cond.initialized RJ1 ∈ TBg := tb_o1 (List.mem_of_getElem? (i := 11) rfl) rfl
theorem t_12 : Cond.initialized RJ3 ∈ TBg := tb_o1 (List.mem_of_getElem? (i := 12) rfl) rfl
theorem t_14 : Cond.initialized RJ9 ∈ TBg := tb_o1 (List.mem_of_getElem? (i := 14) rfl) rfl
theorem t_15 : Cond.initialized RJ7 ∈ TBg := tb_o1 (List.mem_of_getElem? (i := 15) rfl) rfl
theorem t_16 : Cond.initialized RX3 ∈ TBg := tb_o1 (List.mem_of_getElem? (i := 16) rfl) rfl
theorem t_17 : Cond.initialized RJ10 ∈ TBg := tb_o1 (List.mem_of_getElem? (i := 17) rfl) rfl
theorem t_18 : Cond.initialized RJ6 ∈ TBg := tb_o1 (List.mem_of_getElem? (i := 18) rfl) rfl
theorem t_25 : Cond.instanceMethod objectInit ∈ TBg := tb_o1 (List.mem_of_getElem? (i := 25) rfl) rfl
theorem t_26 : Cond.code objectInit ⟨#[0xb1]⟩ 1 none ∈ TBg := tb_o1 (List.mem_of_getElem? (i := 26) rfl) rfl
theorem t_29 : Cond.classLink RX8 29 RX5 ∈ TBg := tb_o1 (List.mem_of_getElem? (i := 29) rfl) rfl
theorem t_30 : Cond.instantiable RX5 8 ∈ TBg := tb_o1 (List.mem_of_getElem? (i := 30) rfl) rfl
theorem t_31 : Cond.classLink RX8 31 RX7 ∈ TBg := tb_o1 (List.mem_of_getElem? (i := 31) rfl) rfl
theorem t_32 : Cond.instantiable RX7 18 ∈ TBg := tb_o1 (List.mem_of_getElem? (i := 32) rfl) rfl
theorem t_33 : Cond.methodLink RX8 33 yX7_init ∈ TBg := tb_o1 (List.mem_of_getElem? (i := 33) rfl) rfl
theorem t_34 : Cond.instanceMethod yX7_init ∈ TBg := tb_o1 (List.mem_of_getElem? (i := 34) rfl) rfl
theorem t_35 : cw MX7_init ∈ TBg := tb_o1 (List.mem_of_getElem? (i := 35) rfl) rfl
theorem t_36 : Cond.methodLink RX7 3 objectInit ∈ TBg := tb_o1 (List.mem_of_getElem? (i := 36) rfl) rfl
theorem t_37 : Cond.fieldLink RX7 9 "PaidMistakes$Work" "serial" "I" ∈ TBg := tb_o1 (List.mem_of_getElem? (i := 37) rfl) rfl
theorem t_38 : Cond.fieldLink RX1 33 "PaidMistakes$Work" "serial" "I" ∈ TBg := tb_o1 (List.mem_of_getElem? (i := 38) rfl) rfl
theorem t_39 : Cond.fieldLink RX7 52 "PaidMistakes$Work" "time" "I" ∈ TBg := tb_o1 (List.mem_of_getElem? (i := 39) rfl) rfl
theorem t_40 : Cond.fieldLink RX5 52 "PaidMistakes$Work" "time" "I" ∈ TBg := tb_o1 (List.mem_of_getElem? (i := 40) rfl) rfl
theorem t_41 : Cond.fieldLink RX8 196 "PaidMistakes$Work" "time" "I" ∈ TBg := tb_o1 (List.mem_of_getElem? (i := 41) rfl) rfl
theorem t_42 : Cond.fieldLink RX7 99 "PaidMistakes$Work" "kinds" "I" ∈ TBg := tb_o1 (List.mem_of_getElem? (i := 42) rfl) rfl
theorem t_43 : Cond.fieldLink RX8 123 "PaidMistakes$Work" "kinds" "I" ∈ TBg := tb_o1 (List.mem_of_getElem? (i := 43) rfl) rfl
theorem t_44 : Cond.fieldLink RX7 65 "PaidMistakes$Work" "faults" "I" ∈ TBg := tb_o1 (List.mem_of_getElem? (i := 44) rfl) rfl
theorem t_45 : Cond.fieldLink RX1 40 "PaidMistakes$Work" "faults" "I" ∈ TBg := tb_o1 (List.mem_of_getElem? (i := 45) rfl) rfl
theorem t_46 : Cond.fieldLink RX2 29 "PaidMistakes$Work" "faults" "I" ∈ TBg := tb_o1 (List.mem_of_getElem? (i := 46) rfl) rfl
theorem t_47 : Cond.fieldLink RX8 102 "PaidMistakes$Work" "faults" "I" ∈ TBg := tb_o1 (List.mem_of_getElem? (i := 47) rfl) rfl
theorem t_48 : Cond.fieldLink RX7 95 "PaidMistakes$Work" "timeTold" "Z" ∈ TBg := tb_o1 (List.mem_of_getElem? (i := 48) rfl) rfl
theorem t_49 : Cond.fieldLink RX7 15 "PaidMistakes$Work" "kindPay" "[I" ∈ TBg := tb_o1 (List.mem_of_getElem? (i := 49) rfl) rfl
theorem t_50 : Cond.fieldLink RX8 126 "PaidMistakes$Work" "kindPay" "[I" ∈ TBg := tb_o1 (List.mem_of_getElem? (i := 50) rfl) rfl
theorem t_51 : Cond.fieldLink RX7 19 "PaidMistakes$Work" "kindHide" "[I" ∈ TBg := tb_o1 (List.mem_of_getElem? (i := 51) rfl) rfl
theorem t_52 : Cond.fieldLink RX8 133 "PaidMistakes$Work" "kindHide" "[I" ∈ TBg := tb_o1 (List.mem_of_getElem? (i := 52) rfl) rfl
theorem t_53 : Cond.fieldLink RX7 22 "PaidMistakes$Work" "kindMend" "[I" ∈ TBg := tb_o1 (List.mem_of_getElem? (i := 53) rfl) rfl
theorem t_54 : Cond.fieldLink RX8 136 "PaidMistakes$Work" "kindMend" "[I" ∈ TBg := tb_o1 (List.mem_of_getElem? (i := 54) rfl) rfl
theorem t_55 : Cond.fieldLink RX7 25 "PaidMistakes$Work" "kindOf" "[I" ∈ TBg := tb_o1 (List.mem_of_getElem? (i := 55) rfl) rfl
theorem t_56 : Cond.fieldLink RX2 93 "PaidMistakes$Work" "kindOf" "[I" ∈ TBg := tb_o1 (List.mem_of_getElem? (i := 56) rfl) rfl
theorem t_57 : Cond.fieldLink RX8 146 "PaidMistakes$Work" "kindOf" "[I" ∈ TBg := tb_o1 (List.mem_of_getElem? (i := 57) rfl) rfl
theorem t_58 : Cond.fieldLink RX7 28 "PaidMistakes$Work" "minutes" "[I" ∈ TBg := tb_o1 (List.mem_of_getElem? (i := 58) rfl) rfl
theorem t_59 : Cond.fieldLink RX1 51 "PaidMistakes$Work" "minutes" "[I" ∈ TBg := tb_o1 (List.mem_of_getElem? (i := 59) rfl) rfl
theorem t_60 : Cond.fieldLink RX2 43 "PaidMistakes$Work" "minutes" "[I" ∈ TBg := tb_o1 (List.mem_of_getElem? (i := 60) rfl) rfl
theorem t_61 : Cond.fieldLink RX0 43 "PaidMistakes$Work" "minutes" "[I" ∈ TBg := tb_o1 (List.mem_of_getElem? (i := 61) rfl) rfl
theorem t_62 : Cond.fieldLink RX8 149 "PaidMistakes$Work" "minutes" "[I" ∈ TBg := tb_o1 (List.mem_of_getElem? (i := 62) rfl) rfl
theorem t_63 : Cond.fieldLink RX7 31 "PaidMistakes$Work" "odds" "[I" ∈ TBg := tb_o1 (List.mem_of_getElem? (i := 63) rfl) rfl
theorem t_64 : Cond.fieldLink RX1 65 "PaidMistakes$Work" "odds" "[I" ∈ TBg := tb_o1 (List.mem_of_getElem? (i := 64) rfl) rfl
theorem t_65 : Cond.fieldLink RX0 63 "PaidMistakes$Work" "odds" "[I" ∈ TBg := tb_o1 (List.mem_of_getElem? (i := 65) rfl) rfl
theorem t_66 : Cond.fieldLink RX2 99 "PaidMistakes$Work" "odds" "[I" ∈ TBg := tb_o1 (List.mem_of_getElem? (i := 66) rfl) rfl
theorem t_67 : Cond.fieldLink RX8 152 "PaidMistakes$Work" "odds" "[I" ∈ TBg := tb_o1 (List.mem_of_getElem? (i := 67) rfl) rfl
theorem t_68 : Cond.fieldLink RX7 34 "PaidMistakes$Work" "under" "[I" ∈ TBg := tb_o1 (List.mem_of_getElem? (i := 68) rfl) rfl
theorem t_69 : Cond.fieldLink RX8 155 "PaidMistakes$Work" "under" "[I" ∈ TBg := tb_o1 (List.mem_of_getElem? (i := 69) rfl) rfl
theorem t_70 : Cond.fieldLink RX7 37 "PaidMistakes$Work" "pay" "[I" ∈ TBg := tb_o1 (List.mem_of_getElem? (i := 70) rfl) rfl
theorem t_71 : Cond.fieldLink RX1 68 "PaidMistakes$Work" "pay" "[I" ∈ TBg := tb_o1 (List.mem_of_getElem? (i := 71) rfl) rfl
theorem t_72 : Cond.fieldLink RX0 70 "PaidMistakes$Work" "pay" "[I" ∈ TBg := tb_o1 (List.mem_of_getElem? (i := 72) rfl) rfl
theorem t_73 : Cond.fieldLink RX2 96 "PaidMistakes$Work" "pay" "[I" ∈ TBg := tb_o1 (List.mem_of_getElem? (i := 73) rfl) rfl
theorem t_74 : Cond.fieldLink RX8 259 "PaidMistakes$Work" "pay" "[I" ∈ TBg := tb_o1 (List.mem_of_getElem? (i := 74) rfl) rfl
theorem t_75 : Cond.fieldLink RX7 40 "PaidMistakes$Work" "hide" "[I" ∈ TBg := tb_o1 (List.mem_of_getElem? (i := 75) rfl) rfl
theorem t_76 : Cond.fieldLink RX7 43 "PaidMistakes$Work" "mend" "[I" ∈ TBg := tb_o1 (List.mem_of_getElem? (i := 76) rfl) rfl
theorem t_77 : Cond.fieldLink RX8 219 "PaidMistakes$Work" "mend" "[I" ∈ TBg := tb_o1 (List.mem_of_getElem? (i := 77) rfl) rfl
theorem t_78 : Cond.fieldLink RX7 46 "PaidMistakes$Work" "oneLook" "[I" ∈ TBg := tb_o1 (List.mem_of_getElem? (i := 78) rfl) rfl
theorem t_79 : Cond.fieldLink RX7 49 "PaidMistakes$Work" "byOneLook" "[I" ∈ TBg := tb_o1 (List.mem_of_getElem? (i := 79) rfl) rfl
theorem t_80 : Cond.fieldLink RX1 24 "PaidMistakes$Work" "longest" "I" ∈ TBg := tb_o1 (List.mem_of_getElem? (i := 80) rfl) rfl
theorem t_81 : Cond.fieldLink RX7 75 "PaidMistakes$Work" "longest" "I" ∈ TBg := tb_o1 (List.mem_of_getElem? (i := 81) rfl) rfl
theorem t_82 : Cond.laysFinal RX7 "PaidMistakes$Work" "serial" "I" ∈ TBg := tb_o1 (List.mem_of_getElem? (i := 82) rfl) rfl
theorem t_84 : Cond.lays RX7 "PaidMistakes$Work" "time" "I" ∈ TBg := tb_o1 (List.mem_of_getElem? (i := 84) rfl) rfl
theorem t_86 : Cond.lays RX7 "PaidMistakes$Work" "kinds" "I" ∈ TBg := tb_o1 (List.mem_of_getElem? (i := 86) rfl) rfl
theorem t_88 : Cond.lays RX7 "PaidMistakes$Work" "faults" "I" ∈ TBg := tb_o1 (List.mem_of_getElem? (i := 88) rfl) rfl
theorem t_90 : Cond.lays RX7 "PaidMistakes$Work" "timeTold" "Z" ∈ TBg := tb_o1 (List.mem_of_getElem? (i := 90) rfl) rfl
theorem t_92 : Cond.laysFinal RX7 "PaidMistakes$Work" "kindPay" "[I" ∈ TBg := tb_o1 (List.mem_of_getElem? (i := 92) rfl) rfl
theorem t_94 : Cond.laysFinal RX7 "PaidMistakes$Work" "kindHide" "[I" ∈ TBg := tb_o1 (List.mem_of_getElem? (i := 94) rfl) rfl
theorem t_96 : Cond.laysFinal RX7 "PaidMistakes$Work" "kindMend" "[I" ∈ TBg := tb_o1 (List.mem_of_getElem? (i := 96) rfl) rfl
theorem t_98 : Cond.laysFinal RX7 "PaidMistakes$Work" "kindOf" "[I" ∈ TBg := tb_o1 (List.mem_of_getElem? (i := 98) rfl) rfl
theorem t_100 : Cond.laysFinal RX7 "PaidMistakes$Work" "minutes" "[I" ∈ TBg := tb_o1 (List.mem_of_getElem? (i := 100) rfl) rfl
theorem t_102 : Cond.laysFinal RX7 "PaidMistakes$Work" "odds" "[I" ∈ TBg := tb_o1 (List.mem_of_getElem? (i := 102) rfl) rfl
theorem t_104 : Cond.laysFinal RX7 "PaidMistakes$Work" "under" "[I" ∈ TBg := tb_o1 (List.mem_of_getElem? (i := 104) rfl) rfl
theorem t_106 : Cond.laysFinal RX7 "PaidMistakes$Work" "pay" "[I" ∈ TBg := tb_o1 (List.mem_of_getElem? (i := 106) rfl) rfl
theorem t_108 : Cond.laysFinal RX7 "PaidMistakes$Work" "hide" "[I" ∈ TBg := tb_o1 (List.mem_of_getElem? (i := 108) rfl) rfl
theorem t_110 : Cond.laysFinal RX7 "PaidMistakes$Work" "mend" "[I" ∈ TBg := tb_o1 (List.mem_of_getElem? (i := 110) rfl) rfl
theorem t_112 : Cond.laysFinal RX7 "PaidMistakes$Work" "oneLook" "[I" ∈ TBg := tb_o1 (List.mem_of_getElem? (i := 112) rfl) rfl
theorem t_114 : Cond.laysFinal RX7 "PaidMistakes$Work" "byOneLook" "[I" ∈ TBg := tb_o1 (List.mem_of_getElem? (i := 114) rfl) rfl
theorem t_116 : Cond.lays RX7 "PaidMistakes$Work" "longest" "I" ∈ TBg := tb_o1 (List.mem_of_getElem? (i := 116) rfl) rfl
theorem t_119 : Cond.arrayClass .int ∈ TBg := tb_o1 (List.mem_of_getElem? (i := 119) rfl) rfl
theorem t_120 : Cond.methodLink RX8 36 yX5_init ∈ TBg := tb_o1 (List.mem_of_getElem? (i := 120) rfl) rfl
theorem t_121 : Cond.instanceMethod yX5_init ∈ TBg := tb_o1 (List.mem_of_getElem? (i := 121) rfl) rfl
theorem t_122 : cw MX5_init ∈ TBg := tb_o1 (List.mem_of_getElem? (i := 122) rfl) rfl
theorem t_123 : Cond.methodLink RX5 3 objectInit ∈ TBg := tb_o1 (List.mem_of_getElem? (i := 123) rfl) rfl
theorem t_124 : Cond.classLink RX5 15 RX0 ∈ TBg := tb_o1 (List.mem_of_getElem? (i := 124) rfl) rfl
theorem t_125 : Cond.instantiable RX0 6 ∈ TBg := tb_o1 (List.mem_of_getElem? (i := 125) rfl) rfl
theorem t_126 : Cond.methodLink RX5 17 yX0_init ∈ TBg := tb_o1 (List.mem_of_getElem? (i := 126) rfl) rfl
theorem t_127 : Cond.instanceMethod yX0_init ∈ TBg := tb_o1 (List.mem_of_getElem? (i := 127) rfl) rfl
theorem t_128 : cw MX0_init ∈ TBg := tb_o1 (List.mem_of_getElem? (i := 128) rfl) rfl
theorem t_129 : Cond.methodLink RX0 3 objectInit ∈ TBg := tb_o1 (List.mem_of_getElem? (i := 129) rfl) rfl
theorem t_130 : Cond.fieldLink RX0 15 "PaidMistakes$Day" "left" "I" ∈ TBg := tb_o1 (List.mem_of_getElem? (i := 130) rfl) rfl
theorem t_131 : Cond.fieldLink RX2 51 "PaidMistakes$Day" "left" "I" ∈ TBg := tb_o1 (List.mem_of_getElem? (i := 131) rfl) rfl
theorem t_132 : Cond.fieldLink RX8 178 "PaidMistakes$Day" "left" "I" ∈ TBg := tb_o1 (List.mem_of_getElem? (i := 132) rfl) rfl
theorem t_133 : Cond.fieldLink RX0 19 "PaidMistakes$Day" "earned" "I" ∈ TBg := tb_o1 (List.mem_of_getElem? (i := 133) rfl) rfl
theorem t_134 : Cond.fieldLink RX2 114 "PaidMistakes$Day" "earned" "I" ∈ TBg := tb_o1 (List.mem_of_getElem? (i := 134) rfl) rfl
theorem t_135 : Cond.fieldLink RX8 199 "PaidMistakes$Day" "earned" "I" ∈ TBg := tb_o1 (List.mem_of_getElem? (i := 135) rfl) rfl
theorem t_136 : Cond.fieldLink RX0 22 "PaidMistakes$Day" "found" "I" ∈ TBg := tb_o1 (List.mem_of_getElem? (i := 136) rfl) rfl
theorem t_137 : Cond.fieldLink RX2 102 "PaidMistakes$Day" "found" "I" ∈ TBg := tb_o1 (List.mem_of_getElem? (i := 137) rfl) rfl
theorem t_138 : Cond.fieldLink RX8 158 "PaidMistakes$Day" "found" "I" ∈ TBg := tb_o1 (List.mem_of_getElem? (i := 138) rfl) rfl
theorem t_139 : Cond.fieldLink RX0 25 "PaidMistakes$Day" "mended" "I" ∈ TBg := tb_o1 (List.mem_of_getElem? (i := 139) rfl) rfl
theorem t_140 : Cond.fieldLink RX5 61 "PaidMistakes$Day" "mended" "I" ∈ TBg := tb_o1 (List.mem_of_getElem? (i := 140) rfl) rfl
theorem t_141 : Cond.fieldLink RX8 165 "PaidMistakes$Day" "mended" "I" ∈ TBg := tb_o1 (List.mem_of_getElem? (i := 141) rfl) rfl
theorem t_142 : Cond.fieldLink RX0 28 "PaidMistakes$Day" "x" "I" ∈ TBg := tb_o1 (List.mem_of_getElem? (i := 142) rfl) rfl
theorem t_143 : Cond.fieldLink RX8 190 "PaidMistakes$Day" "x" "I" ∈ TBg := tb_o1 (List.mem_of_getElem? (i := 143) rfl) rfl
theorem t_144 : Cond.fieldLink RX0 9 "PaidMistakes$Day" "tries" "[I" ∈ TBg := tb_o1 (List.mem_of_getElem? (i := 144) rfl) rfl
theorem t_145 : Cond.fieldLink RX2 111 "PaidMistakes$Day" "tries" "[I" ∈ TBg := tb_o1 (List.mem_of_getElem? (i := 145) rfl) rfl
theorem t_146 : Cond.fieldLink RX8 168 "PaidMistakes$Day" "tries" "[I" ∈ TBg := tb_o1 (List.mem_of_getElem? (i := 146) rfl) rfl
theorem t_147 : Cond.lays RX0 "PaidMistakes$Day" "left" "I" ∈ TBg := tb_o1 (List.mem_of_getElem? (i := 147) rfl) rfl
theorem t_149 : Cond.lays RX0 "PaidMistakes$Day" "earned" "I" ∈ TBg := tb_o1 (List.mem_of_getElem? (i := 149) rfl) rfl
theorem t_151 : Cond.lays RX0 "PaidMistakes$Day" "found" "I" ∈ TBg := tb_o1 (List.mem_of_getElem? (i := 151) rfl) rfl
theorem t_153 : Cond.lays RX0 "PaidMistakes$Day" "mended" "I" ∈ TBg := tb_o1 (List.mem_of_getElem? (i := 153) rfl) rfl
theorem t_155 : Cond.lays RX0 "PaidMistakes$Day" "x" "I" ∈ TBg := tb_o1 (List.mem_of_getElem? (i := 155) rfl) rfl
theorem t_157 : Cond.laysFinal RX0 "PaidMistakes$Day" "tries" "[I" ∈ TBg := tb_o1 (List.mem_of_getElem? (i := 157) rfl) rfl
theorem t_160 : Cond.fieldLink RX5 9 "PaidMistakes$State" "work" "LPaidMistakes$Work;" ∈ TBg := tb_o1 (List.mem_of_getElem? (i := 160) rfl) rfl
theorem t_161 : Cond.fieldLink RX8 119 "PaidMistakes$State" "work" "LPaidMistakes$Work;" ∈ TBg := tb_o1 (List.mem_of_getElem? (i := 161) rfl) rfl
theorem t_162 : Cond.fieldLink RX5 18 "PaidMistakes$State" "today" "LPaidMistakes$Day;" ∈ TBg := tb_o1 (List.mem_of_getElem? (i := 162) rfl) rfl
theorem t_163 : Cond.fieldLink RX8 143 "PaidMistakes$State" "today" "LPaidMistakes$Day;" ∈ TBg := tb_o1 (List.mem_of_getElem? (i := 163) rfl) rfl
theorem t_164 : Cond.fieldLink RX5 33 "PaidMistakes$State" "masterCoins" "I" ∈ TBg := tb_o1 (List.mem_of_getElem? (i := 164) rfl) rfl
theorem t_165 : Cond.fieldLink RX8 202 "PaidMistakes$State" "masterCoins" "I" ∈ TBg := tb_o1 (List.mem_of_getElem? (i := 165) rfl) rfl
theorem t_166 : Cond.fieldLink RX5 37 "PaidMistakes$State" "earnedBefore" "I" ∈ TBg := tb_o1 (List.mem_of_getElem? (i := 166) rfl) rfl
theorem t_167 : Cond.fieldLink RX8 205 "PaidMistakes$State" "earnedBefore" "I" ∈ TBg := tb_o1 (List.mem_of_getElem? (i := 167) rfl) rfl
theorem t_168 : Cond.fieldLink RX5 40 "PaidMistakes$State" "days" "I" ∈ TBg := tb_o1 (List.mem_of_getElem? (i := 168) rfl) rfl
theorem t_169 : Cond.fieldLink RX8 193 "PaidMistakes$State" "days" "I" ∈ TBg := tb_o1 (List.mem_of_getElem? (i := 169) rfl) rfl
theorem t_170 : Cond.fieldLink RX5 22 "PaidMistakes$State" "row" "[I" ∈ TBg := tb_o1 (List.mem_of_getElem? (i := 170) rfl) rfl
theorem t_171 : Cond.fieldLink RX8 240 "PaidMistakes$State" "row" "[I" ∈ TBg := tb_o1 (List.mem_of_getElem? (i := 171) rfl) rfl
theorem t_172 : Cond.fieldLink RX5 49 "PaidMistakes$State" "rowLength" "I" ∈ TBg := tb_o1 (List.mem_of_getElem? (i := 172) rfl) rfl
theorem t_173 : Cond.fieldLink RX8 187 "PaidMistakes$State" "rowLength" "I" ∈ TBg := tb_o1 (List.mem_of_getElem? (i := 173) rfl) rfl
theorem t_174 : Cond.fieldLink RX5 26 "PaidMistakes$State" "game" "[I" ∈ TBg := tb_o1 (List.mem_of_getElem? (i := 174) rfl) rfl
theorem t_175 : Cond.fieldLink RX8 283 "PaidMistakes$State" "game" "[I" ∈ TBg := tb_o1 (List.mem_of_getElem? (i := 175) rfl) rfl
theorem t_176 : Cond.lays RX5 "PaidMistakes$State" "work" "LPaidMistakes$Work;" ∈ TBg := tb_o1 (List.mem_of_getElem? (i := 176) rfl) rfl
theorem t_178 : Cond.laysFinal RX5 "PaidMistakes$State" "today" "LPaidMistakes$Day;" ∈ TBg := tb_o1 (List.mem_of_getElem? (i := 178) rfl) rfl
theorem t_180 : Cond.lays RX5 "PaidMistakes$State" "masterCoins" "I" ∈ TBg := tb_o1 (List.mem_of_getElem? (i := 180) rfl) rfl
theorem t_182 : Cond.lays RX5 "PaidMistakes$State" "earnedBefore" "I" ∈ TBg := tb_o1 (List.mem_of_getElem? (i := 182) rfl) rfl
theorem t_184 : Cond.lays RX5 "PaidMistakes$State" "days" "I" ∈ TBg := tb_o1 (List.mem_of_getElem? (i := 184) rfl) rfl
theorem t_186 : Cond.laysFinal RX5 "PaidMistakes$State" "row" "[I" ∈ TBg := tb_o1 (List.mem_of_getElem? (i := 186) rfl) rfl
theorem t_188 : Cond.lays RX5 "PaidMistakes$State" "rowLength" "I" ∈ TBg := tb_o1 (List.mem_of_getElem? (i := 188) rfl) rfl
theorem t_190 : Cond.laysFinal RX5 "PaidMistakes$State" "game" "[I" ∈ TBg := tb_o1 (List.mem_of_getElem? (i := 190) rfl) rfl
theorem t_208 : Cond.fieldLink RX6 9 "PaidMistakes$Text" "codes" "[I" ∈ TBg := tb_o1 (List.mem_of_getElem? (i := 208) rfl) rfl
theorem t_209 : Cond.fieldLink RX6 15 "PaidMistakes$Text" "places" "[I" ∈ TBg := tb_o1 (List.mem_of_getElem? (i := 209) rfl) rfl
theorem t_210 : Cond.fieldLink RX6 18 "PaidMistakes$Text" "numbers" "[I" ∈ TBg := tb_o1 (List.mem_of_getElem? (i := 210) rfl) rfl
theorem t_211 : Cond.fieldLink RX6 21 "PaidMistakes$Text" "tokens" "I" ∈ TBg := tb_o1 (List.mem_of_getElem? (i := 211) rfl) rfl
theorem t_212 : Cond.fieldLink RX6 36 "PaidMistakes$Text" "next" "I" ∈ TBg := tb_o1 (List.mem_of_getElem? (i := 212) rfl) rfl
theorem t_213 : Cond.fieldLink RX7 92 "PaidMistakes$Text" "code" "I" ∈ TBg := tb_o1 (List.mem_of_getElem? (i := 213) rfl) rfl
theorem t_214 : Cond.fieldLink RX4 66 "PaidMistakes$Text" "code" "I" ∈ TBg := tb_o1 (List.mem_of_getElem? (i := 214) rfl) rfl
theorem t_215 : Cond.fieldLink RX6 112 "PaidMistakes$Text" "code" "I" ∈ TBg := tb_o1 (List.mem_of_getElem? (i := 215) rfl) rfl
theorem t_216 : Cond.fieldLink RX6 115 "PaidMistakes$Text" "place" "I" ∈ TBg := tb_o1 (List.mem_of_getElem? (i := 216) rfl) rfl
theorem t_217 : Cond.fieldLink RX4 100 "PaidMistakes$Text" "number" "I" ∈ TBg := tb_o1 (List.mem_of_getElem? (i := 217) rfl) rfl
theorem t_218 : Cond.fieldLink RX6 118 "PaidMistakes$Text" "number" "I" ∈ TBg := tb_o1 (List.mem_of_getElem? (i := 218) rfl) rfl
theorem t_219 : Cond.fieldLink RX6 33 "PaidMistakes$Text" "fault" "I" ∈ TBg := tb_o1 (List.mem_of_getElem? (i := 219) rfl) rfl
theorem t_220 : Cond.fieldLink RX4 82 "PaidMistakes$Text" "fault" "I" ∈ TBg := tb_o1 (List.mem_of_getElem? (i := 220) rfl) rfl
theorem t_221 : Cond.fieldLink RX8 96 "PaidMistakes$Text" "fault" "I" ∈ TBg := tb_o1 (List.mem_of_getElem? (i := 221) rfl) rfl
theorem t_222 : Cond.fieldLink RX7 115 "PaidMistakes$Text" "fault" "I" ∈ TBg := tb_o1 (List.mem_of_getElem? (i := 222) rfl) rfl
theorem t_223 : Cond.laysFinal RX6 "PaidMistakes$Text" "codes" "[I" ∈ TBg := tb_o1 (List.mem_of_getElem? (i := 223) rfl) rfl
theorem t_225 : Cond.laysFinal RX6 "PaidMistakes$Text" "places" "[I" ∈ TBg := tb_o1 (List.mem_of_getElem? (i := 225) rfl) rfl
theorem t_227 : Cond.laysFinal RX6 "PaidMistakes$Text" "numbers" "[I" ∈ TBg := tb_o1 (List.mem_of_getElem? (i := 227) rfl) rfl
theorem t_229 : Cond.lays RX6 "PaidMistakes$Text" "tokens" "I" ∈ TBg := tb_o1 (List.mem_of_getElem? (i := 229) rfl) rfl
theorem t_231 : Cond.lays RX6 "PaidMistakes$Text" "next" "I" ∈ TBg := tb_o1 (List.mem_of_getElem? (i := 231) rfl) rfl
theorem t_233 : Cond.lays RX6 "PaidMistakes$Text" "code" "I" ∈ TBg := tb_o1 (List.mem_of_getElem? (i := 233) rfl) rfl
theorem t_235 : Cond.lays RX6 "PaidMistakes$Text" "place" "I" ∈ TBg := tb_o1 (List.mem_of_getElem? (i := 235) rfl) rfl
theorem t_237 : Cond.lays RX6 "PaidMistakes$Text" "number" "I" ∈ TBg := tb_o1 (List.mem_of_getElem? (i := 237) rfl) rfl
theorem t_239 : Cond.lays RX6 "PaidMistakes$Text" "fault" "I" ∈ TBg := tb_o1 (List.mem_of_getElem? (i := 239) rfl) rfl
theorem t_242 : Cond.fieldLink RX4 12 "PaidMistakes$RuleReader" "text" "LPaidMistakes$Text;" ∈ TBg := tb_o2 (List.mem_of_getElem? (i := 2) rfl) rfl
theorem t_243 : Cond.fieldLink RX8 82 "PaidMistakes$RuleReader" "text" "LPaidMistakes$Text;" ∈ TBg := tb_o2 (List.mem_of_getElem? (i := 3) rfl) rfl
theorem t_244 : Cond.fieldLink RX4 18 "PaidMistakes$RuleReader" "code" "[I" ∈ TBg := tb_o2 (List.mem_of_getElem? (i := 4) rfl) rfl
theorem t_245 : Cond.fieldLink RX4 31 "PaidMistakes$RuleReader" "length" "I" ∈ TBg := tb_o2 (List.mem_of_getElem? (i := 5) rfl) rfl
theorem t_246 : Cond.fieldLink RX4 35 "PaidMistakes$RuleReader" "pieces" "I" ∈ TBg := tb_o2 (List.mem_of_getElem? (i := 6) rfl) rfl
theorem t_247 : Cond.fieldLink RX4 38 "PaidMistakes$RuleReader" "clauses" "I" ∈ TBg := tb_o2 (List.mem_of_getElem? (i := 7) rfl) rfl
theorem t_248 : Cond.fieldLink RX4 22 "PaidMistakes$RuleReader" "begin" "[I" ∈ TBg := tb_o2 (List.mem_of_getElem? (i := 8) rfl) rfl
theorem t_249 : Cond.fieldLink RX4 25 "PaidMistakes$RuleReader" "middle" "[I" ∈ TBg := tb_o2 (List.mem_of_getElem? (i := 9) rfl) rfl
theorem t_250 : Cond.fieldLink RX4 28 "PaidMistakes$RuleReader" "finish" "[I" ∈ TBg := tb_o2 (List.mem_of_getElem? (i := 10) rfl) rfl
theorem t_251 : Cond.laysFinal RX4 "PaidMistakes$RuleReader" "text" "LPaidMistakes$Text;" ∈ TBg := tb_o2 (List.mem_of_getElem? (i := 11) rfl) rfl
theorem t_253 : Cond.laysFinal RX4 "PaidMistakes$RuleReader" "code" "[I" ∈ TBg := tb_o2 (List.mem_of_getElem? (i := 13) rfl) rfl
theorem t_255 : Cond.lays RX4 "PaidMistakes$RuleReader" "length" "I" ∈ TBg := tb_o2 (List.mem_of_getElem? (i := 15) rfl) rfl
theorem t_257 : Cond.lays RX4 "PaidMistakes$RuleReader" "pieces" "I" ∈ TBg := tb_o2 (List.mem_of_getElem? (i := 17) rfl) rfl
theorem t_259 : Cond.lays RX4 "PaidMistakes$RuleReader" "clauses" "I" ∈ TBg := tb_o2 (List.mem_of_getElem? (i := 19) rfl) rfl
theorem t_261 : Cond.laysFinal RX4 "PaidMistakes$RuleReader" "begin" "[I" ∈ TBg := tb_o2 (List.mem_of_getElem? (i := 21) rfl) rfl
theorem t_263 : Cond.laysFinal RX4 "PaidMistakes$RuleReader" "middle" "[I" ∈ TBg := tb_o2 (List.mem_of_getElem? (i := 23) rfl) rfl
theorem t_265 : Cond.laysFinal RX4 "PaidMistakes$RuleReader" "finish" "[I" ∈ TBg := tb_o2 (List.mem_of_getElem? (i := 25) rfl) rfl
theorem t_274 : Cond.fieldLink RX2 9 "PaidMistakes$Player" "stack" "[J" ∈ TBg := tb_o2 (List.mem_of_getElem? (i := 34) rfl) rfl
theorem t_275 : Cond.laysFinal RX2 "PaidMistakes$Player" "stack" "[J" ∈ TBg := tb_o2 (List.mem_of_getElem? (i := 35) rfl) rfl
theorem t_285 : Cond.fieldLink RX1 11 "PaidMistakes$Planner" "keys" "[J" ∈ TBg := tb_o2 (List.mem_of_getElem? (i := 45) rfl) rfl
theorem t_286 : Cond.fieldLink RX1 15 "PaidMistakes$Planner" "kept" "[J" ∈ TBg := tb_o2 (List.mem_of_getElem? (i := 46) rfl) rfl
theorem t_287 : Cond.fieldLink RX1 97 "PaidMistakes$Planner" "setToMend" "I" ∈ TBg := tb_o2 (List.mem_of_getElem? (i := 47) rfl) rfl
theorem t_288 : Cond.fieldLink RX8 276 "PaidMistakes$Planner" "setToMend" "I" ∈ TBg := tb_o2 (List.mem_of_getElem? (i := 48) rfl) rfl
theorem t_289 : Cond.fieldLink RX1 100 "PaidMistakes$Planner" "meanOfSet" "J" ∈ TBg := tb_o2 (List.mem_of_getElem? (i := 49) rfl) rfl
theorem t_290 : Cond.fieldLink RX8 279 "PaidMistakes$Planner" "meanOfSet" "J" ∈ TBg := tb_o2 (List.mem_of_getElem? (i := 50) rfl) rfl
theorem t_291 : Cond.laysFinal RX1 "PaidMistakes$Planner" "keys" "[J" ∈ TBg := tb_o2 (List.mem_of_getElem? (i := 51) rfl) rfl
theorem t_293 : Cond.laysFinal RX1 "PaidMistakes$Planner" "kept" "[J" ∈ TBg := tb_o2 (List.mem_of_getElem? (i := 53) rfl) rfl
theorem t_295 : Cond.lays RX1 "PaidMistakes$Planner" "setToMend" "I" ∈ TBg := tb_o2 (List.mem_of_getElem? (i := 55) rfl) rfl
theorem t_297 : Cond.lays RX1 "PaidMistakes$Planner" "meanOfSet" "J" ∈ TBg := tb_o2 (List.mem_of_getElem? (i := 57) rfl) rfl
theorem t_300 : Cond.fieldLink RX8 9 "PaidMistakes" "tape" "[I" ∈ TBg := tb_o2 (List.mem_of_getElem? (i := 60) rfl) rfl
theorem t_301 : Cond.fieldLink RX8 13 "PaidMistakes" "tapeLength" "I" ∈ TBg := tb_o2 (List.mem_of_getElem? (i := 61) rfl) rfl
theorem t_302 : Cond.fieldLink RX8 19 "PaidMistakes" "rules" "[LPaidMistakes$Rule;" ∈ TBg := tb_o2 (List.mem_of_getElem? (i := 62) rfl) rfl
theorem t_303 : Cond.fieldLink RX8 23 "PaidMistakes" "ruleCount" "I" ∈ TBg := tb_o2 (List.mem_of_getElem? (i := 63) rfl) rfl
theorem t_304 : Cond.fieldLink RX8 26 "PaidMistakes" "worksTold" "I" ∈ TBg := tb_o2 (List.mem_of_getElem? (i := 64) rfl) rfl
theorem t_305 : Cond.fieldLink RX8 39 "PaidMistakes" "now" "LPaidMistakes$State;" ∈ TBg := tb_o2 (List.mem_of_getElem? (i := 65) rfl) rfl
theorem t_306 : Cond.fieldLink RX8 43 "PaidMistakes" "images" "[LPaidMistakes$State;" ∈ TBg := tb_o2 (List.mem_of_getElem? (i := 66) rfl) rfl
theorem t_307 : Cond.fieldLink RX8 50 "PaidMistakes" "trial" "LPaidMistakes$Day;" ∈ TBg := tb_o2 (List.mem_of_getElem? (i := 67) rfl) rfl
theorem t_308 : Cond.fieldLink RX8 57 "PaidMistakes" "ruleReader" "LPaidMistakes$RuleReader;" ∈ TBg := tb_o2 (List.mem_of_getElem? (i := 68) rfl) rfl
theorem t_309 : Cond.fieldLink RX8 64 "PaidMistakes" "player" "LPaidMistakes$Player;" ∈ TBg := tb_o2 (List.mem_of_getElem? (i := 69) rfl) rfl
theorem t_310 : Cond.fieldLink RX8 71 "PaidMistakes" "planner" "LPaidMistakes$Planner;" ∈ TBg := tb_o2 (List.mem_of_getElem? (i := 70) rfl) rfl
theorem t_311 : Cond.laysFinal RX8 "PaidMistakes" "tape" "[I" ∈ TBg := tb_o2 (List.mem_of_getElem? (i := 71) rfl) rfl
theorem t_313 : Cond.lays RX8 "PaidMistakes" "tapeLength" "I" ∈ TBg := tb_o2 (List.mem_of_getElem? (i := 73) rfl) rfl
theorem t_315 : Cond.laysFinal RX8 "PaidMistakes" "rules" "[LPaidMistakes$Rule;" ∈ TBg := tb_o2 (List.mem_of_getElem? (i := 75) rfl) rfl
theorem t_317 : Cond.lays RX8 "PaidMistakes" "ruleCount" "I" ∈ TBg := tb_o2 (List.mem_of_getElem? (i := 77) rfl) rfl
theorem t_319 : Cond.lays RX8 "PaidMistakes" "worksTold" "I" ∈ TBg := tb_o2 (List.mem_of_getElem? (i := 79) rfl) rfl
theorem t_321 : Cond.laysFinal RX8 "PaidMistakes" "now" "LPaidMistakes$State;" ∈ TBg := tb_o2 (List.mem_of_getElem? (i := 81) rfl) rfl
theorem t_323 : Cond.laysFinal RX8 "PaidMistakes" "images" "[LPaidMistakes$State;" ∈ TBg := tb_o2 (List.mem_of_getElem? (i := 83) rfl) rfl
theorem t_325 : Cond.laysFinal RX8 "PaidMistakes" "trial" "LPaidMistakes$Day;" ∈ TBg := tb_o2 (List.mem_of_getElem? (i := 85) rfl) rfl
theorem t_327 : Cond.laysFinal RX8 "PaidMistakes" "ruleReader" "LPaidMistakes$RuleReader;" ∈ TBg := tb_o2 (List.mem_of_getElem? (i := 87) rfl) rfl
theorem t_329 : Cond.laysFinal RX8 "PaidMistakes" "player" "LPaidMistakes$Player;" ∈ TBg := tb_o2 (List.mem_of_getElem? (i := 89) rfl) rfl
theorem t_331 : Cond.laysFinal RX8 "PaidMistakes" "planner" "LPaidMistakes$Planner;" ∈ TBg := tb_o2 (List.mem_of_getElem? (i := 91) rfl) rfl
theorem t_338 : Cond.methodLink RX8 75 yX8_putBytes ∈ TBg := tb_o2 (List.mem_of_getElem? (i := 98) rfl) rfl
theorem t_340 : Cond.instanceMethod yX8_putBytes ∈ TBg := tb_o2 (List.mem_of_getElem? (i := 100) rfl) rfl
theorem t_341 : cw MX8_putBytes ∈ TBg := tb_o2 (List.mem_of_getElem? (i := 101) rfl) rfl
theorem t_342 : Cond.methodLink RX8 78 yX8_put ∈ TBg := tb_o2 (List.mem_of_getElem? (i := 102) rfl) rfl
theorem t_343 : Cond.static yX8_put ∈ TBg := tb_o2 (List.mem_of_getElem? (i := 103) rfl) rfl
theorem t_344 : cw MX8_put ∈ TBg := tb_o2 (List.mem_of_getElem? (i := 104) rfl) rfl
theorem t_353 : Cond.methodLink RX8 86 yX6_open ∈ TBg := tb_o2 (List.mem_of_getElem? (i := 113) rfl) rfl
theorem t_354 : Cond.instanceMethod yX6_open ∈ TBg := tb_o2 (List.mem_of_getElem? (i := 114) rfl) rfl
theorem t_355 : Cond.selects RX6 yX6_open yX6_open ∈ TBg := tb_o2 (List.mem_of_getElem? (i := 115) rfl) rfl
theorem t_356 : cw MX6_open ∈ TBg := tb_o2 (List.mem_of_getElem? (i := 116) rfl) rfl
theorem t_357 : Cond.methodLink RX6 25 yX6_cutToken ∈ TBg := tb_o2 (List.mem_of_getElem? (i := 117) rfl) rfl
theorem t_359 : Cond.instanceMethod yX6_cutToken ∈ TBg := tb_o2 (List.mem_of_getElem? (i := 119) rfl) rfl
theorem t_360 : cw MX6_cutToken ∈ TBg := tb_o2 (List.mem_of_getElem? (i := 120) rfl) rfl
theorem t_362 : Cond.static yX8_at ∈ TBg := tb_o2 (List.mem_of_getElem? (i := 122) rfl) rfl
theorem t_363 : cw MX8_at ∈ TBg := tb_o2 (List.mem_of_getElem? (i := 123) rfl) rfl
theorem t_364 : Cond.methodLink RX6 46 yX6_isDigit ∈ TBg := tb_o2 (List.mem_of_getElem? (i := 124) rfl) rfl
theorem t_365 : Cond.static yX6_isDigit ∈ TBg := tb_o2 (List.mem_of_getElem? (i := 125) rfl) rfl
theorem t_366 : cw MX6_isDigit ∈ TBg := tb_o2 (List.mem_of_getElem? (i := 126) rfl) rfl
theorem t_367 : Cond.methodLink RX6 50 yX6_cutNumber ∈ TBg := tb_o2 (List.mem_of_getElem? (i := 127) rfl) rfl
theorem t_369 : Cond.instanceMethod yX6_cutNumber ∈ TBg := tb_o2 (List.mem_of_getElem? (i := 129) rfl) rfl
theorem t_370 : cw MX6_cutNumber ∈ TBg := tb_o2 (List.mem_of_getElem? (i := 130) rfl) rfl
theorem t_371 : Cond.methodLink RX6 29 yX6_addToken ∈ TBg := tb_o2 (List.mem_of_getElem? (i := 131) rfl) rfl
theorem t_373 : Cond.instanceMethod yX6_addToken ∈ TBg := tb_o2 (List.mem_of_getElem? (i := 133) rfl) rfl
theorem t_374 : cw MX6_addToken ∈ TBg := tb_o2 (List.mem_of_getElem? (i := 134) rfl) rfl
theorem t_375 : Cond.methodLink RX6 53 yX6_isLetter ∈ TBg := tb_o2 (List.mem_of_getElem? (i := 135) rfl) rfl
theorem t_376 : Cond.static yX6_isLetter ∈ TBg := tb_o2 (List.mem_of_getElem? (i := 136) rfl) rfl
theorem t_377 : cw MX6_isLetter ∈ TBg := tb_o2 (List.mem_of_getElem? (i := 137) rfl) rfl
theorem t_378 : Cond.methodLink RX6 56 yX6_cutWord ∈ TBg := tb_o2 (List.mem_of_getElem? (i := 138) rfl) rfl
theorem t_380 : Cond.instanceMethod yX6_cutWord ∈ TBg := tb_o2 (List.mem_of_getElem? (i := 140) rfl) rfl
theorem t_381 : cw MX6_cutWord ∈ TBg := tb_o2 (List.mem_of_getElem? (i := 141) rfl) rfl
theorem t_382 : Cond.methodLink RX6 59 yX6_clauseWord ∈ TBg := tb_o2 (List.mem_of_getElem? (i := 142) rfl) rfl
theorem t_383 : Cond.static yX6_clauseWord ∈ TBg := tb_o2 (List.mem_of_getElem? (i := 143) rfl) rfl
theorem t_384 : cw MX6_clauseWord ∈ TBg := tb_o2 (List.mem_of_getElem? (i := 144) rfl) rfl
theorem t_386 : Cond.methodLink RX6 67 yX6_spells ∈ TBg := tb_o2 (List.mem_of_getElem? (i := 146) rfl) rfl
theorem t_387 : Cond.static yX6_spells ∈ TBg := tb_o2 (List.mem_of_getElem? (i := 147) rfl) rfl
theorem t_388 : cw MX6_spells ∈ TBg := tb_o2 (List.mem_of_getElem? (i := 148) rfl) rfl
theorem t_389 : Cond.methodLink RX6 102 yJ0_length_8abf5 ∈ TBg := tb_o2 (List.mem_of_getElem? (i := 149) rfl) rfl
theorem t_390 : Cond.instanceMethod yJ0_length_8abf5 ∈ TBg := tb_o2 (List.mem_of_getElem? (i := 150) rfl) rfl
theorem t_391 : Cond.selects RJ0 yJ0_length_8abf5 yJ0_length_8abf5 ∈ TBg := tb_o2 (List.mem_of_getElem? (i := 151) rfl) rfl
theorem t_392 : cw MJ0_length_8abf5 ∈ TBg := tb_o2 (List.mem_of_getElem? (i := 152) rfl) rfl
theorem t_393 : Cond.methodLink RJ0 335 yJ0_coder_7d493 ∈ TBg := tb_o2 (List.mem_of_getElem? (i := 153) rfl) rfl
theorem t_394 : Cond.instanceMethod yJ0_coder_7d493 ∈ TBg := tb_o2 (List.mem_of_getElem? (i := 154) rfl) rfl
theorem t_395 : Cond.selects RJ0 yJ0_coder_7d493 yJ0_coder_7d493 ∈ TBg := tb_o2 (List.mem_of_getElem? (i := 155) rfl) rfl
theorem t_396 : cw MJ0_coder_7d493 ∈ TBg := tb_o2 (List.mem_of_getElem? (i := 156) rfl) rfl
theorem t_397 : Cond.fieldLink RJ0 38 "java/lang/String" "COMPACT_STRINGS" "Z" ∈ TBg := tb_o2 (List.mem_of_getElem? (i := 157) rfl) rfl
theorem t_399 : Cond.methodLink RX6 108 yJ0_charAt_5068e ∈ TBg := tb_o2 (List.mem_of_getElem? (i := 159) rfl) rfl
theorem t_400 : Cond.instanceMethod yJ0_charAt_5068e ∈ TBg := tb_o2 (List.mem_of_getElem? (i := 160) rfl) rfl
theorem t_401 : Cond.selects RJ0 yJ0_charAt_5068e yJ0_charAt_5068e ∈ TBg := tb_o2 (List.mem_of_getElem? (i := 161) rfl) rfl
theorem t_402 : cw MJ0_charAt_5068e ∈ TBg := tb_o2 (List.mem_of_getElem? (i := 162) rfl) rfl
theorem t_403 : Cond.methodLink RJ0 492 yJ0_isLatin1_aae02 ∈ TBg := tb_o2 (List.mem_of_getElem? (i := 163) rfl) rfl
theorem t_404 : Cond.instanceMethod yJ0_isLatin1_aae02 ∈ TBg := tb_o2 (List.mem_of_getElem? (i := 164) rfl) rfl
theorem t_405 : Cond.selects RJ0 yJ0_isLatin1_aae02 yJ0_isLatin1_aae02 ∈ TBg := tb_o2 (List.mem_of_getElem? (i := 165) rfl) rfl
theorem t_406 : cw MJ0_isLatin1_aae02 ∈ TBg := tb_o2 (List.mem_of_getElem? (i := 166) rfl) rfl
theorem t_407 : Cond.methodLink RJ0 495 yJ1_charAt_3b067 ∈ TBg := tb_o2 (List.mem_of_getElem? (i := 167) rfl) rfl
theorem t_408 : Cond.static yJ1_charAt_3b067 ∈ TBg := tb_o2 (List.mem_of_getElem? (i := 168) rfl) rfl
theorem t_409 : cw MJ1_charAt_3b067 ∈ TBg := tb_o2 (List.mem_of_getElem? (i := 169) rfl) rfl
theorem t_410 : Cond.methodLink RJ1 9 yJ0_checkIndex_df160 ∈ TBg := tb_o2 (List.mem_of_getElem? (i := 170) rfl) rfl
theorem t_411 : Cond.static yJ0_checkIndex_df160 ∈ TBg := tb_o2 (List.mem_of_getElem? (i := 171) rfl) rfl
theorem t_412 : cw MJ0_checkIndex_df160 ∈ TBg := tb_o2 (List.mem_of_getElem? (i := 172) rfl) rfl
theorem t_413 : Cond.fieldLink RJ0 1053 "jdk/internal/util/Preconditions" "SIOOBE_FORMATTER" "Ljava/util/function/BiFunction;" ∈ TBg := tb_o2 (List.mem_of_getElem? (i := 173) rfl) rfl
theorem t_415 : Cond.methodLink RJ0 1059 yJ3_checkIndex_8e157 ∈ TBg := tb_o2 (List.mem_of_getElem? (i := 175) rfl) rfl
theorem t_416 : Cond.static yJ3_checkIndex_8e157 ∈ TBg := tb_o2 (List.mem_of_getElem? (i := 176) rfl) rfl
theorem t_417 : cw MJ3_checkIndex_8e157 ∈ TBg := tb_o2 (List.mem_of_getElem? (i := 177) rfl) rfl
theorem t_444 : Cond.methodLink RX6 62 yX6_valueWord ∈ TBg := tb_o2 (List.mem_of_getElem? (i := 204) rfl) rfl
theorem t_445 : Cond.static yX6_valueWord ∈ TBg := tb_o2 (List.mem_of_getElem? (i := 205) rfl) rfl
theorem t_446 : cw MX6_valueWord ∈ TBg := tb_o2 (List.mem_of_getElem? (i := 206) rfl) rfl
theorem t_456 : Cond.methodLink RX6 39 yX6_step ∈ TBg := tb_o2 (List.mem_of_getElem? (i := 216) rfl) rfl
theorem t_457 : Cond.instanceMethod yX6_step ∈ TBg := tb_o2 (List.mem_of_getElem? (i := 217) rfl) rfl
theorem t_458 : Cond.selects RX6 yX6_step yX6_step ∈ TBg := tb_o2 (List.mem_of_getElem? (i := 218) rfl) rfl
theorem t_459 : cw MX6_step ∈ TBg := tb_o2 (List.mem_of_getElem? (i := 219) rfl) rfl
theorem t_460 : Cond.methodLink RX8 92 yX7_readFrom ∈ TBg := tb_o2 (List.mem_of_getElem? (i := 220) rfl) rfl
theorem t_461 : Cond.instanceMethod yX7_readFrom ∈ TBg := tb_o2 (List.mem_of_getElem? (i := 221) rfl) rfl
theorem t_462 : Cond.selects RX7 yX7_readFrom yX7_readFrom ∈ TBg := tb_o2 (List.mem_of_getElem? (i := 222) rfl) rfl
theorem t_463 : cw MX7_readFrom ∈ TBg := tb_o2 (List.mem_of_getElem? (i := 223) rfl) rfl
theorem t_464 : Cond.methodLink RX7 55 yX7_readClause ∈ TBg := tb_o2 (List.mem_of_getElem? (i := 224) rfl) rfl
theorem t_466 : Cond.instanceMethod yX7_readClause ∈ TBg := tb_o2 (List.mem_of_getElem? (i := 226) rfl) rfl
theorem t_467 : cw MX7_readClause ∈ TBg := tb_o2 (List.mem_of_getElem? (i := 227) rfl) rfl
theorem t_468 : Cond.methodLink RX7 68 yX6_fail ∈ TBg := tb_o2 (List.mem_of_getElem? (i := 228) rfl) rfl
theorem t_469 : Cond.instanceMethod yX6_fail ∈ TBg := tb_o2 (List.mem_of_getElem? (i := 229) rfl) rfl
theorem t_470 : Cond.selects RX6 yX6_fail yX6_fail ∈ TBg := tb_o2 (List.mem_of_getElem? (i := 230) rfl) rfl
theorem t_471 : cw MX6_fail ∈ TBg := tb_o2 (List.mem_of_getElem? (i := 231) rfl) rfl
theorem t_472 : Cond.methodLink RX7 102 yX6_step ∈ TBg := tb_o2 (List.mem_of_getElem? (i := 232) rfl) rfl
theorem t_473 : Cond.methodLink RX7 105 yX6_takeNumber ∈ TBg := tb_o2 (List.mem_of_getElem? (i := 233) rfl) rfl
theorem t_474 : Cond.instanceMethod yX6_takeNumber ∈ TBg := tb_o2 (List.mem_of_getElem? (i := 234) rfl) rfl
theorem t_475 : Cond.selects RX6 yX6_takeNumber yX6_takeNumber ∈ TBg := tb_o2 (List.mem_of_getElem? (i := 235) rfl) rfl
theorem t_476 : cw MX6_takeNumber ∈ TBg := tb_o2 (List.mem_of_getElem? (i := 236) rfl) rfl
theorem t_477 : Cond.methodLink RX6 121 yX6_fail ∈ TBg := tb_o2 (List.mem_of_getElem? (i := 237) rfl) rfl
theorem t_478 : Cond.methodLink RX7 108 yX7_readKind ∈ TBg := tb_o2 (List.mem_of_getElem? (i := 238) rfl) rfl
theorem t_480 : Cond.instanceMethod yX7_readKind ∈ TBg := tb_o3 (List.mem_of_getElem? (i := 0) rfl) rfl
theorem t_481 : cw MX7_readKind ∈ TBg := tb_o3 (List.mem_of_getElem? (i := 1) rfl) rfl
theorem t_483 : Cond.methodLink RX7 112 yX7_readFault ∈ TBg := tb_o3 (List.mem_of_getElem? (i := 3) rfl) rfl
theorem t_485 : Cond.instanceMethod yX7_readFault ∈ TBg := tb_o3 (List.mem_of_getElem? (i := 5) rfl) rfl
theorem t_486 : cw MX7_readFault ∈ TBg := tb_o3 (List.mem_of_getElem? (i := 6) rfl) rfl
theorem t_488 : Cond.methodLink RX7 59 yX6_anotherClause ∈ TBg := tb_o3 (List.mem_of_getElem? (i := 8) rfl) rfl
theorem t_489 : Cond.instanceMethod yX6_anotherClause ∈ TBg := tb_o3 (List.mem_of_getElem? (i := 9) rfl) rfl
theorem t_490 : Cond.selects RX6 yX6_anotherClause yX6_anotherClause ∈ TBg := tb_o3 (List.mem_of_getElem? (i := 10) rfl) rfl
theorem t_491 : cw MX6_anotherClause ∈ TBg := tb_o3 (List.mem_of_getElem? (i := 11) rfl) rfl
theorem t_492 : Cond.methodLink RX7 72 yX7_orderLooks ∈ TBg := tb_o3 (List.mem_of_getElem? (i := 12) rfl) rfl
theorem t_494 : Cond.instanceMethod yX7_orderLooks ∈ TBg := tb_o3 (List.mem_of_getElem? (i := 14) rfl) rfl
theorem t_495 : cw MX7_orderLooks ∈ TBg := tb_o3 (List.mem_of_getElem? (i := 15) rfl) rfl
theorem t_496 : Cond.methodLink RX7 82 yJ9_max_7cf53 ∈ TBg := tb_o3 (List.mem_of_getElem? (i := 16) rfl) rfl
theorem t_497 : Cond.static yJ9_max_7cf53 ∈ TBg := tb_o3 (List.mem_of_getElem? (i := 17) rfl) rfl
theorem t_498 : cw MJ9_max_7cf53 ∈ TBg := tb_o3 (List.mem_of_getElem? (i := 18) rfl) rfl
theorem t_499 : Cond.methodLink RX8 99 yX5_beginWork ∈ TBg := tb_o3 (List.mem_of_getElem? (i := 19) rfl) rfl
theorem t_500 : Cond.instanceMethod yX5_beginWork ∈ TBg := tb_o3 (List.mem_of_getElem? (i := 20) rfl) rfl
theorem t_501 : Cond.selects RX5 yX5_beginWork yX5_beginWork ∈ TBg := tb_o3 (List.mem_of_getElem? (i := 21) rfl) rfl
theorem t_502 : cw MX5_beginWork ∈ TBg := tb_o3 (List.mem_of_getElem? (i := 22) rfl) rfl
theorem t_503 : Cond.methodLink RX5 57 yX0_begin ∈ TBg := tb_o3 (List.mem_of_getElem? (i := 23) rfl) rfl
theorem t_504 : Cond.instanceMethod yX0_begin ∈ TBg := tb_o3 (List.mem_of_getElem? (i := 24) rfl) rfl
theorem t_505 : Cond.selects RX0 yX0_begin yX0_begin ∈ TBg := tb_o3 (List.mem_of_getElem? (i := 25) rfl) rfl
theorem t_506 : cw MX0_begin ∈ TBg := tb_o3 (List.mem_of_getElem? (i := 26) rfl) rfl
theorem t_507 : Cond.methodLink RX0 37 yJ7_fill_53178 ∈ TBg := tb_o3 (List.mem_of_getElem? (i := 27) rfl) rfl
theorem t_508 : Cond.static yJ7_fill_53178 ∈ TBg := tb_o3 (List.mem_of_getElem? (i := 28) rfl) rfl
theorem t_509 : cw MJ7_fill_53178 ∈ TBg := tb_o3 (List.mem_of_getElem? (i := 29) rfl) rfl
theorem t_515 : Cond.methodLink RX8 105 yX4_start ∈ TBg := tb_o3 (List.mem_of_getElem? (i := 35) rfl) rfl
theorem t_516 : Cond.instanceMethod yX4_start ∈ TBg := tb_o3 (List.mem_of_getElem? (i := 36) rfl) rfl
theorem t_517 : Cond.selects RX4 yX4_start yX4_start ∈ TBg := tb_o3 (List.mem_of_getElem? (i := 37) rfl) rfl
theorem t_518 : cw MX4_start ∈ TBg := tb_o3 (List.mem_of_getElem? (i := 38) rfl) rfl
theorem t_519 : Cond.methodLink RX8 108 yX4_readClause ∈ TBg := tb_o3 (List.mem_of_getElem? (i := 39) rfl) rfl
theorem t_520 : Cond.instanceMethod yX4_readClause ∈ TBg := tb_o3 (List.mem_of_getElem? (i := 40) rfl) rfl
theorem t_521 : Cond.selects RX4 yX4_readClause yX4_readClause ∈ TBg := tb_o3 (List.mem_of_getElem? (i := 41) rfl) rfl
theorem t_522 : cw MX4_readClause ∈ TBg := tb_o3 (List.mem_of_getElem? (i := 42) rfl) rfl
theorem t_523 : Cond.methodLink RX4 68 yX6_fail ∈ TBg := tb_o3 (List.mem_of_getElem? (i := 43) rfl) rfl
theorem t_524 : Cond.methodLink RX4 72 yX6_step ∈ TBg := tb_o3 (List.mem_of_getElem? (i := 44) rfl) rfl
theorem t_526 : Cond.methodLink RX4 79 yX4_readSum ∈ TBg := tb_o3 (List.mem_of_getElem? (i := 46) rfl) rfl
theorem t_528 : Cond.instanceMethod yX4_readSum ∈ TBg := tb_o3 (List.mem_of_getElem? (i := 48) rfl) rfl
theorem t_529 : cw MX4_readSum ∈ TBg := tb_o3 (List.mem_of_getElem? (i := 49) rfl) rfl
theorem t_530 : Cond.methodLink RX4 97 yX4_readValue ∈ TBg := tb_o3 (List.mem_of_getElem? (i := 50) rfl) rfl
theorem t_532 : Cond.instanceMethod yX4_readValue ∈ TBg := tb_o3 (List.mem_of_getElem? (i := 52) rfl) rfl
theorem t_533 : cw MX4_readValue ∈ TBg := tb_o3 (List.mem_of_getElem? (i := 53) rfl) rfl
theorem t_534 : Cond.methodLink RX4 91 yX4_emit ∈ TBg := tb_o3 (List.mem_of_getElem? (i := 54) rfl) rfl
theorem t_536 : Cond.instanceMethod yX4_emit ∈ TBg := tb_o3 (List.mem_of_getElem? (i := 56) rfl) rfl
theorem t_537 : cw MX4_emit ∈ TBg := tb_o3 (List.mem_of_getElem? (i := 57) rfl) rfl
theorem t_538 : Cond.methodLink RX4 85 yX4_readTest ∈ TBg := tb_o3 (List.mem_of_getElem? (i := 58) rfl) rfl
theorem t_540 : Cond.instanceMethod yX4_readTest ∈ TBg := tb_o3 (List.mem_of_getElem? (i := 60) rfl) rfl
theorem t_541 : cw MX4_readTest ∈ TBg := tb_o3 (List.mem_of_getElem? (i := 61) rfl) rfl
theorem t_542 : Cond.methodLink RX4 88 yX4_readFact ∈ TBg := tb_o3 (List.mem_of_getElem? (i := 62) rfl) rfl
theorem t_544 : Cond.instanceMethod yX4_readFact ∈ TBg := tb_o3 (List.mem_of_getElem? (i := 64) rfl) rfl
theorem t_545 : cw MX4_readFact ∈ TBg := tb_o3 (List.mem_of_getElem? (i := 65) rfl) rfl
theorem t_546 : Cond.methodLink RX4 94 yX4_readComparison ∈ TBg := tb_o3 (List.mem_of_getElem? (i := 66) rfl) rfl
theorem t_548 : Cond.instanceMethod yX4_readComparison ∈ TBg := tb_o3 (List.mem_of_getElem? (i := 68) rfl) rfl
theorem t_549 : cw MX4_readComparison ∈ TBg := tb_o3 (List.mem_of_getElem? (i := 69) rfl) rfl
theorem t_550 : Cond.methodLink RX8 111 yX6_anotherClause ∈ TBg := tb_o3 (List.mem_of_getElem? (i := 70) rfl) rfl
theorem t_551 : Cond.methodLink RX8 115 yX4_makeRule ∈ TBg := tb_o3 (List.mem_of_getElem? (i := 71) rfl) rfl
theorem t_552 : Cond.instanceMethod yX4_makeRule ∈ TBg := tb_o3 (List.mem_of_getElem? (i := 72) rfl) rfl
theorem t_553 : Cond.selects RX4 yX4_makeRule yX4_makeRule ∈ TBg := tb_o3 (List.mem_of_getElem? (i := 73) rfl) rfl
theorem t_554 : cw MX4_makeRule ∈ TBg := tb_o3 (List.mem_of_getElem? (i := 74) rfl) rfl
theorem t_555 : Cond.methodLink RX4 41 yJ9_min_7cf53 ∈ TBg := tb_o3 (List.mem_of_getElem? (i := 75) rfl) rfl
theorem t_556 : Cond.static yJ9_min_7cf53 ∈ TBg := tb_o3 (List.mem_of_getElem? (i := 76) rfl) rfl
theorem t_557 : cw MJ9_min_7cf53 ∈ TBg := tb_o3 (List.mem_of_getElem? (i := 77) rfl) rfl
theorem t_558 : Cond.methodLink RX4 47 yJ9_max_7cf53 ∈ TBg := tb_o3 (List.mem_of_getElem? (i := 78) rfl) rfl
theorem t_559 : Cond.classLink RX4 50 RX3 ∈ TBg := tb_o3 (List.mem_of_getElem? (i := 79) rfl) rfl
theorem t_560 : Cond.instantiable RX3 5 ∈ TBg := tb_o3 (List.mem_of_getElem? (i := 80) rfl) rfl
theorem t_561 : Cond.methodLink RX4 52 yJ7_copyOf_59c91 ∈ TBg := tb_o3 (List.mem_of_getElem? (i := 81) rfl) rfl
theorem t_562 : Cond.static yJ7_copyOf_59c91 ∈ TBg := tb_o3 (List.mem_of_getElem? (i := 82) rfl) rfl
theorem t_563 : cw MJ7_copyOf_59c91 ∈ TBg := tb_o3 (List.mem_of_getElem? (i := 83) rfl) rfl
theorem t_564 : Cond.methodLink RJ7 316 ⟨"[I", "clone", "()Ljava/lang/Object;"⟩ ∈ TBg := tb_o3 (List.mem_of_getElem? (i := 84) rfl) rfl
theorem t_566 : Cond.native ⟨"java/lang/Object", "clone", "()Ljava/lang/Object;"⟩ ∈ TBg := tb_o3 (List.mem_of_getElem? (i := 86) rfl) rfl
theorem t_567 : Cond.instanceMethod ⟨"java/lang/Object", "clone", "()Ljava/lang/Object;"⟩ ∈ TBg := tb_o3 (List.mem_of_getElem? (i := 87) rfl) rfl
theorem t_570 : Cond.classLink RJ7 317 "[I" ∈ TBg := tb_o3 (List.mem_of_getElem? (i := 90) rfl) rfl
theorem t_571 : Cond.methodLink RJ7 304 yJ9_min_7cf53 ∈ TBg := tb_o3 (List.mem_of_getElem? (i := 91) rfl) rfl
theorem t_572 : Cond.methodLink RJ7 150 ⟨"java/lang/System", "arraycopy", "(Ljava/lang/Object;ILjava/lang/Object;II)V"⟩ ∈ TBg := tb_o3 (List.mem_of_getElem? (i := 92) rfl) rfl
theorem t_573 : Cond.static ⟨"java/lang/System", "arraycopy", "(Ljava/lang/Object;ILjava/lang/Object;II)V"⟩ ∈ TBg := tb_o3 (List.mem_of_getElem? (i := 93) rfl) rfl
theorem t_574 : Cond.native ⟨"java/lang/System", "arraycopy", "(Ljava/lang/Object;ILjava/lang/Object;II)V"⟩ ∈ TBg := tb_o3 (List.mem_of_getElem? (i := 94) rfl) rfl
theorem t_575 : Cond.methodLink RX4 58 ⟨"[I", "clone", "()Ljava/lang/Object;"⟩ ∈ TBg := tb_o3 (List.mem_of_getElem? (i := 95) rfl) rfl
theorem t_576 : Cond.classLink RX4 59 "[I" ∈ TBg := tb_o3 (List.mem_of_getElem? (i := 96) rfl) rfl
theorem t_577 : Cond.methodLink RX4 63 yX3_init ∈ TBg := tb_o3 (List.mem_of_getElem? (i := 97) rfl) rfl
theorem t_578 : Cond.instanceMethod yX3_init ∈ TBg := tb_o3 (List.mem_of_getElem? (i := 98) rfl) rfl
theorem t_579 : cw MX3_init ∈ TBg := tb_o3 (List.mem_of_getElem? (i := 99) rfl) rfl
theorem t_580 : Cond.methodLink RX3 1 objectInit ∈ TBg := tb_o3 (List.mem_of_getElem? (i := 100) rfl) rfl
theorem t_581 : Cond.fieldLink RX3 7 "PaidMistakes$Rule" "code" "[I" ∈ TBg := tb_o3 (List.mem_of_getElem? (i := 101) rfl) rfl
theorem t_582 : Cond.fieldLink RX2 63 "PaidMistakes$Rule" "code" "[I" ∈ TBg := tb_o3 (List.mem_of_getElem? (i := 102) rfl) rfl
theorem t_583 : Cond.fieldLink RX3 13 "PaidMistakes$Rule" "clauses" "I" ∈ TBg := tb_o3 (List.mem_of_getElem? (i := 103) rfl) rfl
theorem t_584 : Cond.fieldLink RX2 73 "PaidMistakes$Rule" "clauses" "I" ∈ TBg := tb_o3 (List.mem_of_getElem? (i := 104) rfl) rfl
theorem t_585 : Cond.fieldLink RX3 17 "PaidMistakes$Rule" "begin" "[I" ∈ TBg := tb_o3 (List.mem_of_getElem? (i := 105) rfl) rfl
theorem t_586 : Cond.fieldLink RX2 58 "PaidMistakes$Rule" "begin" "[I" ∈ TBg := tb_o3 (List.mem_of_getElem? (i := 106) rfl) rfl
theorem t_587 : Cond.fieldLink RX3 20 "PaidMistakes$Rule" "middle" "[I" ∈ TBg := tb_o3 (List.mem_of_getElem? (i := 107) rfl) rfl
theorem t_588 : Cond.fieldLink RX2 66 "PaidMistakes$Rule" "middle" "[I" ∈ TBg := tb_o3 (List.mem_of_getElem? (i := 108) rfl) rfl
theorem t_589 : Cond.fieldLink RX3 23 "PaidMistakes$Rule" "finish" "[I" ∈ TBg := tb_o3 (List.mem_of_getElem? (i := 109) rfl) rfl
theorem t_590 : Cond.fieldLink RX2 76 "PaidMistakes$Rule" "finish" "[I" ∈ TBg := tb_o3 (List.mem_of_getElem? (i := 110) rfl) rfl
theorem t_591 : Cond.laysFinal RX3 "PaidMistakes$Rule" "code" "[I" ∈ TBg := tb_o3 (List.mem_of_getElem? (i := 111) rfl) rfl
theorem t_593 : Cond.laysFinal RX3 "PaidMistakes$Rule" "clauses" "I" ∈ TBg := tb_o3 (List.mem_of_getElem? (i := 113) rfl) rfl
theorem t_595 : Cond.laysFinal RX3 "PaidMistakes$Rule" "begin" "[I" ∈ TBg := tb_o3 (List.mem_of_getElem? (i := 115) rfl) rfl
theorem t_597 : Cond.laysFinal RX3 "PaidMistakes$Rule" "middle" "[I" ∈ TBg := tb_o3 (List.mem_of_getElem? (i := 117) rfl) rfl
theorem t_599 : Cond.laysFinal RX3 "PaidMistakes$Rule" "finish" "[I" ∈ TBg := tb_o3 (List.mem_of_getElem? (i := 119) rfl) rfl
theorem t_606 : Cond.methodLink RX8 129 yX8_at ∈ TBg := tb_o3 (List.mem_of_getElem? (i := 126) rfl) rfl
theorem t_611 : Cond.methodLink RX8 139 yX8_isFault ∈ TBg := tb_o3 (List.mem_of_getElem? (i := 131) rfl) rfl
theorem t_613 : Cond.instanceMethod yX8_isFault ∈ TBg := tb_o3 (List.mem_of_getElem? (i := 133) rfl) rfl
theorem t_614 : cw MX8_isFault ∈ TBg := tb_o3 (List.mem_of_getElem? (i := 134) rfl) rfl
theorem t_615 : Cond.methodLink RX8 161 yX8_has ∈ TBg := tb_o3 (List.mem_of_getElem? (i := 135) rfl) rfl
theorem t_616 : Cond.static yX8_has ∈ TBg := tb_o3 (List.mem_of_getElem? (i := 136) rfl) rfl
theorem t_617 : cw MX8_has ∈ TBg := tb_o3 (List.mem_of_getElem? (i := 137) rfl) rfl
theorem t_618 : Cond.methodLink RX8 171 yX0_gone ∈ TBg := tb_o3 (List.mem_of_getElem? (i := 138) rfl) rfl
theorem t_619 : Cond.instanceMethod yX0_gone ∈ TBg := tb_o3 (List.mem_of_getElem? (i := 139) rfl) rfl
theorem t_620 : Cond.selects RX0 yX0_gone yX0_gone ∈ TBg := tb_o3 (List.mem_of_getElem? (i := 140) rfl) rfl
theorem t_621 : cw MX0_gone ∈ TBg := tb_o3 (List.mem_of_getElem? (i := 141) rfl) rfl
theorem t_622 : Cond.methodLink RX8 175 yX7_isOpen ∈ TBg := tb_o3 (List.mem_of_getElem? (i := 142) rfl) rfl
theorem t_623 : Cond.instanceMethod yX7_isOpen ∈ TBg := tb_o3 (List.mem_of_getElem? (i := 143) rfl) rfl
theorem t_624 : Cond.selects RX7 yX7_isOpen yX7_isOpen ∈ TBg := tb_o3 (List.mem_of_getElem? (i := 144) rfl) rfl
theorem t_625 : cw MX7_isOpen ∈ TBg := tb_o3 (List.mem_of_getElem? (i := 145) rfl) rfl
theorem t_630 : Cond.methodLink RX8 181 yJ6_bitCount_0f7a4 ∈ TBg := tb_o3 (List.mem_of_getElem? (i := 150) rfl) rfl
theorem t_631 : Cond.static yJ6_bitCount_0f7a4 ∈ TBg := tb_o3 (List.mem_of_getElem? (i := 151) rfl) rfl
theorem t_632 : cw MJ6_bitCount_0f7a4 ∈ TBg := tb_o3 (List.mem_of_getElem? (i := 152) rfl) rfl
theorem t_633 : Cond.constant RJ6 265 (1431655765) ∈ TBg := tb_o3 (List.mem_of_getElem? (i := 153) rfl) rfl
theorem t_634 : Cond.constant RJ6 266 (858993459) ∈ TBg := tb_o3 (List.mem_of_getElem? (i := 154) rfl) rfl
theorem t_635 : Cond.constant RJ6 267 (252645135) ∈ TBg := tb_o3 (List.mem_of_getElem? (i := 155) rfl) rfl
theorem t_640 : Cond.constant RX8 208 (-1000000) ∈ TBg := tb_o3 (List.mem_of_getElem? (i := 160) rfl) rfl
theorem t_645 : Cond.methodLink RX8 209 yX0_lookFor ∈ TBg := tb_o3 (List.mem_of_getElem? (i := 165) rfl) rfl
theorem t_646 : Cond.instanceMethod yX0_lookFor ∈ TBg := tb_o3 (List.mem_of_getElem? (i := 166) rfl) rfl
theorem t_647 : Cond.selects RX0 yX0_lookFor yX0_lookFor ∈ TBg := tb_o3 (List.mem_of_getElem? (i := 167) rfl) rfl
theorem t_648 : cw MX0_lookFor ∈ TBg := tb_o3 (List.mem_of_getElem? (i := 168) rfl) rfl
theorem t_651 : Cond.constantLong RX0 56 (1103515245) ∈ TBg := tb_o3 (List.mem_of_getElem? (i := 171) rfl) rfl
theorem t_652 : Cond.constantLong RX0 58 (12345) ∈ TBg := tb_o3 (List.mem_of_getElem? (i := 172) rfl) rfl
theorem t_653 : Cond.constantLong RX0 60 (2147483647) ∈ TBg := tb_o3 (List.mem_of_getElem? (i := 173) rfl) rfl
theorem t_654 : Cond.constant RX0 62 (65536) ∈ TBg := tb_o3 (List.mem_of_getElem? (i := 174) rfl) rfl
theorem t_656 : Cond.static yX8_bit ∈ TBg := tb_o3 (List.mem_of_getElem? (i := 176) rfl) rfl
theorem t_657 : cw MX8_bit ∈ TBg := tb_o3 (List.mem_of_getElem? (i := 177) rfl) rfl
theorem t_662 : Cond.methodLink RX8 213 yX8_hasWork ∈ TBg := tb_o3 (List.mem_of_getElem? (i := 182) rfl) rfl
theorem t_664 : Cond.instanceMethod yX8_hasWork ∈ TBg := tb_o3 (List.mem_of_getElem? (i := 184) rfl) rfl
theorem t_665 : cw MX8_hasWork ∈ TBg := tb_o3 (List.mem_of_getElem? (i := 185) rfl) rfl
theorem t_670 : Cond.methodLink RX8 216 yX8_bit ∈ TBg := tb_o3 (List.mem_of_getElem? (i := 190) rfl) rfl
theorem t_675 : Cond.methodLink RX8 222 yX7_hiddenCoins ∈ TBg := tb_o3 (List.mem_of_getElem? (i := 195) rfl) rfl
theorem t_676 : Cond.instanceMethod yX7_hiddenCoins ∈ TBg := tb_o3 (List.mem_of_getElem? (i := 196) rfl) rfl
theorem t_677 : Cond.selects RX7 yX7_hiddenCoins yX7_hiddenCoins ∈ TBg := tb_o3 (List.mem_of_getElem? (i := 197) rfl) rfl
theorem t_678 : cw MX7_hiddenCoins ∈ TBg := tb_o3 (List.mem_of_getElem? (i := 198) rfl) rfl
theorem t_679 : Cond.methodLink RX7 122 yX7_together ∈ TBg := tb_o3 (List.mem_of_getElem? (i := 199) rfl) rfl
theorem t_681 : Cond.instanceMethod yX7_together ∈ TBg := tb_o3 (List.mem_of_getElem? (i := 201) rfl) rfl
theorem t_682 : cw MX7_together ∈ TBg := tb_o3 (List.mem_of_getElem? (i := 202) rfl) rfl
theorem t_684 : Cond.methodLink RX8 225 yX0_begin ∈ TBg := tb_o3 (List.mem_of_getElem? (i := 204) rfl) rfl
theorem t_693 : Cond.methodLink RX8 228 yX8_ruleForWork ∈ TBg := tb_o3 (List.mem_of_getElem? (i := 213) rfl) rfl
theorem t_695 : Cond.instanceMethod yX8_ruleForWork ∈ TBg := tb_o3 (List.mem_of_getElem? (i := 215) rfl) rfl
theorem t_696 : cw MX8_ruleForWork ∈ TBg := tb_o3 (List.mem_of_getElem? (i := 216) rfl) rfl
theorem t_697 : Cond.methodLink RX8 232 yX2_play ∈ TBg := tb_o3 (List.mem_of_getElem? (i := 217) rfl) rfl
theorem t_698 : Cond.instanceMethod yX2_play ∈ TBg := tb_o3 (List.mem_of_getElem? (i := 218) rfl) rfl
theorem t_699 : Cond.selects RX2 yX2_play yX2_play ∈ TBg := tb_o3 (List.mem_of_getElem? (i := 219) rfl) rfl
theorem t_700 : cw MX2_play ∈ TBg := tb_o3 (List.mem_of_getElem? (i := 220) rfl) rfl
theorem t_701 : Cond.methodLink RX2 15 yX2_nextFault ∈ TBg := tb_o3 (List.mem_of_getElem? (i := 221) rfl) rfl
theorem t_703 : Cond.instanceMethod yX2_nextFault ∈ TBg := tb_o3 (List.mem_of_getElem? (i := 223) rfl) rfl
theorem t_704 : cw MX2_nextFault ∈ TBg := tb_o3 (List.mem_of_getElem? (i := 224) rfl) rfl
theorem t_705 : Cond.methodLink RX2 35 yX0_gone ∈ TBg := tb_o3 (List.mem_of_getElem? (i := 225) rfl) rfl
theorem t_706 : Cond.methodLink RX2 39 yX7_isOpen ∈ TBg := tb_o3 (List.mem_of_getElem? (i := 226) rfl) rfl
theorem t_708 : Cond.methodLink RX2 54 yX2_lookClause ∈ TBg := tb_o3 (List.mem_of_getElem? (i := 228) rfl) rfl
theorem t_710 : Cond.instanceMethod yX2_lookClause ∈ TBg := tb_o3 (List.mem_of_getElem? (i := 230) rfl) rfl
theorem t_711 : cw MX2_lookClause ∈ TBg := tb_o3 (List.mem_of_getElem? (i := 231) rfl) rfl
theorem t_712 : Cond.methodLink RX2 69 yX2_reckon ∈ TBg := tb_o3 (List.mem_of_getElem? (i := 232) rfl) rfl
theorem t_714 : Cond.instanceMethod yX2_reckon ∈ TBg := tb_o3 (List.mem_of_getElem? (i := 234) rfl) rfl
theorem t_715 : cw MX2_reckon ∈ TBg := tb_o3 (List.mem_of_getElem? (i := 235) rfl) rfl
theorem t_716 : Cond.methodLink RX2 79 yJ9_max_7cf53 ∈ TBg := tb_o3 (List.mem_of_getElem? (i := 236) rfl) rfl
theorem t_717 : Cond.methodLink RX2 85 yX2_wordOf ∈ TBg := tb_o3 (List.mem_of_getElem? (i := 237) rfl) rfl
theorem t_718 : Cond.static yX2_wordOf ∈ TBg := tb_o3 (List.mem_of_getElem? (i := 238) rfl) rfl
theorem t_719 : cw MX2_wordOf ∈ TBg := tb_o3 (List.mem_of_getElem? (i := 239) rfl) rfl
theorem t_720 : Cond.methodLink RX2 105 yJ6_bitCount_0f7a4 ∈ TBg := tb_o4 (List.mem_of_getElem? (i := 0) rfl) rfl
theorem t_721 : Cond.methodLink RX2 89 yX2_join ∈ TBg := tb_o4 (List.mem_of_getElem? (i := 1) rfl) rfl
theorem t_722 : Cond.static yX2_join ∈ TBg := tb_o4 (List.mem_of_getElem? (i := 2) rfl) rfl
theorem t_723 : cw MX2_join ∈ TBg := tb_o4 (List.mem_of_getElem? (i := 3) rfl) rfl
theorem t_724 : Cond.methodLink RX2 117 yX2_compares ∈ TBg := tb_o4 (List.mem_of_getElem? (i := 4) rfl) rfl
theorem t_725 : Cond.static yX2_compares ∈ TBg := tb_o4 (List.mem_of_getElem? (i := 5) rfl) rfl
theorem t_726 : cw MX2_compares ∈ TBg := tb_o4 (List.mem_of_getElem? (i := 6) rfl) rfl
theorem t_727 : Cond.methodLink RX2 19 yX2_stopsAt ∈ TBg := tb_o4 (List.mem_of_getElem? (i := 7) rfl) rfl
theorem t_729 : Cond.instanceMethod yX2_stopsAt ∈ TBg := tb_o4 (List.mem_of_getElem? (i := 9) rfl) rfl
theorem t_730 : cw MX2_stopsAt ∈ TBg := tb_o4 (List.mem_of_getElem? (i := 10) rfl) rfl
theorem t_731 : Cond.methodLink RX2 23 yX0_lookFor ∈ TBg := tb_o4 (List.mem_of_getElem? (i := 11) rfl) rfl
theorem t_736 : Cond.methodLink RX8 236 yX0_copyFrom ∈ TBg := tb_o4 (List.mem_of_getElem? (i := 16) rfl) rfl
theorem t_737 : Cond.instanceMethod yX0_copyFrom ∈ TBg := tb_o4 (List.mem_of_getElem? (i := 17) rfl) rfl
theorem t_738 : Cond.selects RX0 yX0_copyFrom yX0_copyFrom ∈ TBg := tb_o4 (List.mem_of_getElem? (i := 18) rfl) rfl
theorem t_739 : cw MX0_copyFrom ∈ TBg := tb_o4 (List.mem_of_getElem? (i := 19) rfl) rfl
theorem t_740 : Cond.methodLink RX0 31 ⟨"java/lang/System", "arraycopy", "(Ljava/lang/Object;ILjava/lang/Object;II)V"⟩ ∈ TBg := tb_o4 (List.mem_of_getElem? (i := 20) rfl) rfl
theorem t_753 : Cond.constantLong RX8 243 (-1) ∈ TBg := tb_o4 (List.mem_of_getElem? (i := 33) rfl) rfl
theorem t_754 : Cond.methodLink RX8 245 yX8_rowMean ∈ TBg := tb_o4 (List.mem_of_getElem? (i := 34) rfl) rfl
theorem t_756 : Cond.instanceMethod yX8_rowMean ∈ TBg := tb_o4 (List.mem_of_getElem? (i := 36) rfl) rfl
theorem t_757 : cw MX8_rowMean ∈ TBg := tb_o4 (List.mem_of_getElem? (i := 37) rfl) rfl
theorem t_758 : Cond.constantLong RX8 257 (100) ∈ TBg := tb_o4 (List.mem_of_getElem? (i := 38) rfl) rfl
theorem t_759 : Cond.methodLink RX8 249 yX8_hundreds ∈ TBg := tb_o4 (List.mem_of_getElem? (i := 39) rfl) rfl
theorem t_760 : Cond.static yX8_hundreds ∈ TBg := tb_o4 (List.mem_of_getElem? (i := 40) rfl) rfl
theorem t_761 : cw MX8_hundreds ∈ TBg := tb_o4 (List.mem_of_getElem? (i := 41) rfl) rfl
theorem t_762 : Cond.methodLink RX8 253 yX8_partOf ∈ TBg := tb_o4 (List.mem_of_getElem? (i := 42) rfl) rfl
theorem t_763 : Cond.static yX8_partOf ∈ TBg := tb_o4 (List.mem_of_getElem? (i := 43) rfl) rfl
theorem t_764 : cw MX8_partOf ∈ TBg := tb_o4 (List.mem_of_getElem? (i := 44) rfl) rfl
theorem t_765 : Cond.methodLink RX8 303 yJ9_abs_067f4 ∈ TBg := tb_o4 (List.mem_of_getElem? (i := 45) rfl) rfl
theorem t_766 : Cond.static yJ9_abs_067f4 ∈ TBg := tb_o4 (List.mem_of_getElem? (i := 46) rfl) rfl
theorem t_767 : cw MJ9_abs_067f4 ∈ TBg := tb_o4 (List.mem_of_getElem? (i := 47) rfl) rfl
theorem t_776 : Cond.methodLink RX8 262 yX1_choice ∈ TBg := tb_o4 (List.mem_of_getElem? (i := 56) rfl) rfl
theorem t_777 : Cond.instanceMethod yX1_choice ∈ TBg := tb_o4 (List.mem_of_getElem? (i := 57) rfl) rfl
theorem t_778 : Cond.selects RX1 yX1_choice yX1_choice ∈ TBg := tb_o4 (List.mem_of_getElem? (i := 58) rfl) rfl
theorem t_779 : cw MX1_choice ∈ TBg := tb_o4 (List.mem_of_getElem? (i := 59) rfl) rfl
theorem t_780 : Cond.methodLink RX1 79 yX1_mostEarned ∈ TBg := tb_o4 (List.mem_of_getElem? (i := 60) rfl) rfl
theorem t_781 : Cond.instanceMethod yX1_mostEarned ∈ TBg := tb_o4 (List.mem_of_getElem? (i := 61) rfl) rfl
theorem t_782 : Cond.selects RX1 yX1_mostEarned yX1_mostEarned ∈ TBg := tb_o4 (List.mem_of_getElem? (i := 62) rfl) rfl
theorem t_783 : cw MX1_mostEarned ∈ TBg := tb_o4 (List.mem_of_getElem? (i := 63) rfl) rfl
theorem t_784 : Cond.methodLink RX1 18 yX7_mostByOneLook ∈ TBg := tb_o4 (List.mem_of_getElem? (i := 64) rfl) rfl
theorem t_785 : Cond.instanceMethod yX7_mostByOneLook ∈ TBg := tb_o4 (List.mem_of_getElem? (i := 65) rfl) rfl
theorem t_786 : Cond.selects RX7 yX7_mostByOneLook yX7_mostByOneLook ∈ TBg := tb_o4 (List.mem_of_getElem? (i := 66) rfl) rfl
theorem t_787 : cw MX7_mostByOneLook ∈ TBg := tb_o4 (List.mem_of_getElem? (i := 67) rfl) rfl
theorem t_788 : Cond.methodLink RX7 118 yX7_isOpen ∈ TBg := tb_o4 (List.mem_of_getElem? (i := 68) rfl) rfl
theorem t_789 : Cond.methodLink RX1 28 yJ9_min_7cf53 ∈ TBg := tb_o4 (List.mem_of_getElem? (i := 69) rfl) rfl
theorem t_790 : Cond.constantLong RX1 36 (8) ∈ TBg := tb_o4 (List.mem_of_getElem? (i := 70) rfl) rfl
theorem t_791 : Cond.constantLong RX1 38 (-7046029254386353131) ∈ TBg := tb_o4 (List.mem_of_getElem? (i := 71) rfl) rfl
theorem t_792 : Cond.methodLink RX1 43 yX1_earnedBy ∈ TBg := tb_o4 (List.mem_of_getElem? (i := 72) rfl) rfl
theorem t_794 : Cond.instanceMethod yX1_earnedBy ∈ TBg := tb_o4 (List.mem_of_getElem? (i := 74) rfl) rfl
theorem t_795 : cw MX1_earnedBy ∈ TBg := tb_o4 (List.mem_of_getElem? (i := 75) rfl) rfl
theorem t_797 : Cond.methodLink RX1 59 yX7_isOpen ∈ TBg := tb_o4 (List.mem_of_getElem? (i := 77) rfl) rfl
theorem t_798 : Cond.constantLong RX1 63 (-1) ∈ TBg := tb_o4 (List.mem_of_getElem? (i := 78) rfl) rfl
theorem t_801 : Cond.methodLink RX1 47 yJ9_max_f86c9 ∈ TBg := tb_o4 (List.mem_of_getElem? (i := 81) rfl) rfl
theorem t_802 : Cond.static yJ9_max_f86c9 ∈ TBg := tb_o4 (List.mem_of_getElem? (i := 82) rfl) rfl
theorem t_803 : cw MJ9_max_f86c9 ∈ TBg := tb_o4 (List.mem_of_getElem? (i := 83) rfl) rfl
theorem t_804 : Cond.methodLink RX8 266 yX1_mostEarned ∈ TBg := tb_o4 (List.mem_of_getElem? (i := 84) rfl) rfl
theorem t_809 : Cond.constantLong RX8 270 (-1000000000000) ∈ TBg := tb_o4 (List.mem_of_getElem? (i := 89) rfl) rfl
theorem t_810 : Cond.methodLink RX8 272 yX1_weighSets ∈ TBg := tb_o4 (List.mem_of_getElem? (i := 90) rfl) rfl
theorem t_811 : Cond.instanceMethod yX1_weighSets ∈ TBg := tb_o4 (List.mem_of_getElem? (i := 91) rfl) rfl
theorem t_812 : Cond.selects RX1 yX1_weighSets yX1_weighSets ∈ TBg := tb_o4 (List.mem_of_getElem? (i := 92) rfl) rfl
theorem t_813 : cw MX1_weighSets ∈ TBg := tb_o4 (List.mem_of_getElem? (i := 93) rfl) rfl
theorem t_814 : Cond.methodLink RX1 93 yX1_leastFree ∈ TBg := tb_o4 (List.mem_of_getElem? (i := 94) rfl) rfl
theorem t_816 : Cond.instanceMethod yX1_leastFree ∈ TBg := tb_o4 (List.mem_of_getElem? (i := 96) rfl) rfl
theorem t_817 : cw MX1_leastFree ∈ TBg := tb_o4 (List.mem_of_getElem? (i := 97) rfl) rfl
theorem t_818 : Cond.methodLink RX1 107 yJ6_bitCount_0f7a4 ∈ TBg := tb_o4 (List.mem_of_getElem? (i := 98) rfl) rfl
theorem t_820 : Cond.methodLink RX1 90 yX1_hiddenMean ∈ TBg := tb_o4 (List.mem_of_getElem? (i := 100) rfl) rfl
theorem t_822 : Cond.instanceMethod yX1_hiddenMean ∈ TBg := tb_o4 (List.mem_of_getElem? (i := 102) rfl) rfl
theorem t_823 : cw MX1_hiddenMean ∈ TBg := tb_o4 (List.mem_of_getElem? (i := 103) rfl) rfl
theorem t_824 : Cond.methodLink RX1 83 yX1_choice ∈ TBg := tb_o4 (List.mem_of_getElem? (i := 104) rfl) rfl
theorem t_825 : Cond.methodLink RX1 87 yX7_hiddenCoins ∈ TBg := tb_o4 (List.mem_of_getElem? (i := 105) rfl) rfl
theorem t_826 : Cond.methodLink RX1 104 yX7_mendingOf ∈ TBg := tb_o4 (List.mem_of_getElem? (i := 106) rfl) rfl
theorem t_827 : Cond.instanceMethod yX7_mendingOf ∈ TBg := tb_o4 (List.mem_of_getElem? (i := 107) rfl) rfl
theorem t_828 : Cond.selects RX7 yX7_mendingOf yX7_mendingOf ∈ TBg := tb_o4 (List.mem_of_getElem? (i := 108) rfl) rfl
theorem t_829 : cw MX7_mendingOf ∈ TBg := tb_o4 (List.mem_of_getElem? (i := 109) rfl) rfl
theorem t_835 : Cond.instanceMethod yX8_rests ∈ TBg := tb_o4 (List.mem_of_getElem? (i := 115) rfl) rfl
theorem t_836 : Cond.selects RX8 yX8_rests yX8_rests ∈ TBg := tb_o4 (List.mem_of_getElem? (i := 116) rfl) rfl
theorem t_837 : cw MX8_rests ∈ TBg := tb_o4 (List.mem_of_getElem? (i := 117) rfl) rfl
theorem t_842 : Cond.methodLink RX8 286 yX8_rests ∈ TBg := tb_o4 (List.mem_of_getElem? (i := 122) rfl) rfl
theorem t_843 : Cond.methodLink RX8 289 yJ9_abs_0f7a4 ∈ TBg := tb_o4 (List.mem_of_getElem? (i := 123) rfl) rfl
theorem t_844 : Cond.static yJ9_abs_0f7a4 ∈ TBg := tb_o4 (List.mem_of_getElem? (i := 124) rfl) rfl
theorem t_845 : cw MJ9_abs_0f7a4 ∈ TBg := tb_o4 (List.mem_of_getElem? (i := 125) rfl) rfl
theorem t_854 : Cond.methodLink RX8 294 yX7_payOf ∈ TBg := tb_o4 (List.mem_of_getElem? (i := 134) rfl) rfl
theorem t_855 : Cond.instanceMethod yX7_payOf ∈ TBg := tb_o4 (List.mem_of_getElem? (i := 135) rfl) rfl
theorem t_856 : Cond.selects RX7 yX7_payOf yX7_payOf ∈ TBg := tb_o4 (List.mem_of_getElem? (i := 136) rfl) rfl
theorem t_857 : cw MX7_payOf ∈ TBg := tb_o4 (List.mem_of_getElem? (i := 137) rfl) rfl
theorem t_858 : Cond.methodLink RX8 297 yX7_couldBeFound ∈ TBg := tb_o4 (List.mem_of_getElem? (i := 138) rfl) rfl
theorem t_859 : Cond.instanceMethod yX7_couldBeFound ∈ TBg := tb_o4 (List.mem_of_getElem? (i := 139) rfl) rfl
theorem t_860 : Cond.selects RX7 yX7_couldBeFound yX7_couldBeFound ∈ TBg := tb_o4 (List.mem_of_getElem? (i := 140) rfl) rfl
theorem t_861 : cw MX7_couldBeFound ∈ TBg := tb_o4 (List.mem_of_getElem? (i := 141) rfl) rfl
theorem t_866 : Cond.methodLink RX8 300 yX5_copyFrom ∈ TBg := tb_o4 (List.mem_of_getElem? (i := 146) rfl) rfl
theorem t_867 : Cond.instanceMethod yX5_copyFrom ∈ TBg := tb_o4 (List.mem_of_getElem? (i := 147) rfl) rfl
theorem t_868 : Cond.selects RX5 yX5_copyFrom yX5_copyFrom ∈ TBg := tb_o4 (List.mem_of_getElem? (i := 148) rfl) rfl
theorem t_869 : cw MX5_copyFrom ∈ TBg := tb_o4 (List.mem_of_getElem? (i := 149) rfl) rfl
theorem t_870 : Cond.methodLink RX5 29 yX0_copyFrom ∈ TBg := tb_o4 (List.mem_of_getElem? (i := 150) rfl) rfl
theorem t_871 : Cond.methodLink RX5 43 ⟨"java/lang/System", "arraycopy", "(Ljava/lang/Object;ILjava/lang/Object;II)V"⟩ ∈ TBg := tb_o4 (List.mem_of_getElem? (i := 151) rfl) rfl
theorem t_882 : Cond.fieldLink RX9 7 "PaidMistakesModel" "tape" "[B" ∈ TBg := tb_o4 (List.mem_of_getElem? (i := 162) rfl) rfl
theorem t_883 : Cond.fieldLink RX9 79 "PaidMistakesModel" "taped" "I" ∈ TBg := tb_o4 (List.mem_of_getElem? (i := 163) rfl) rfl
theorem t_884 : Cond.fieldLink RX9 247 "PaidMistakesModel" "rules" "I" ∈ TBg := tb_o4 (List.mem_of_getElem? (i := 164) rfl) rfl
theorem t_885 : Cond.fieldLink RX9 13 "PaidMistakesModel" "sign" "[I" ∈ TBg := tb_o4 (List.mem_of_getElem? (i := 165) rfl) rfl
theorem t_886 : Cond.fieldLink RX9 17 "PaidMistakesModel" "length" "[I" ∈ TBg := tb_o4 (List.mem_of_getElem? (i := 166) rfl) rfl
theorem t_887 : Cond.fieldLink RX9 20 "PaidMistakesModel" "clause" "[I" ∈ TBg := tb_o4 (List.mem_of_getElem? (i := 167) rfl) rfl
theorem t_888 : Cond.fieldLink RX9 23 "PaidMistakesModel" "clauses" "[I" ∈ TBg := tb_o4 (List.mem_of_getElem? (i := 168) rfl) rfl
theorem t_889 : Cond.fieldLink RX9 212 "PaidMistakesModel" "timeRead" "I" ∈ TBg := tb_o4 (List.mem_of_getElem? (i := 169) rfl) rfl
theorem t_890 : Cond.fieldLink RX9 215 "PaidMistakesModel" "kindsRead" "I" ∈ TBg := tb_o4 (List.mem_of_getElem? (i := 170) rfl) rfl
theorem t_891 : Cond.fieldLink RX9 218 "PaidMistakesModel" "faultsRead" "I" ∈ TBg := tb_o4 (List.mem_of_getElem? (i := 171) rfl) rfl
theorem t_892 : Cond.fieldLink RX9 26 "PaidMistakesModel" "kindRead" "[I" ∈ TBg := tb_o4 (List.mem_of_getElem? (i := 172) rfl) rfl
theorem t_893 : Cond.fieldLink RX9 29 "PaidMistakesModel" "faultRead" "[I" ∈ TBg := tb_o4 (List.mem_of_getElem? (i := 173) rfl) rfl
theorem t_894 : Cond.fieldLink RX9 90 "PaidMistakesModel" "next" "I" ∈ TBg := tb_o4 (List.mem_of_getElem? (i := 174) rfl) rfl
theorem t_895 : Cond.fieldLink RX9 87 "PaidMistakesModel" "wrong" "I" ∈ TBg := tb_o4 (List.mem_of_getElem? (i := 175) rfl) rfl
theorem t_896 : Cond.fieldLink RX9 115 "PaidMistakesModel" "number" "I" ∈ TBg := tb_o4 (List.mem_of_getElem? (i := 176) rfl) rfl
theorem t_897 : Cond.fieldLink RX9 140 "PaidMistakesModel" "text" "I" ∈ TBg := tb_o4 (List.mem_of_getElem? (i := 177) rfl) rfl
theorem t_898 : Cond.fieldLink RX9 143 "PaidMistakesModel" "made" "I" ∈ TBg := tb_o4 (List.mem_of_getElem? (i := 178) rfl) rfl
theorem t_899 : Cond.fieldLink RX9 146 "PaidMistakesModel" "deep" "I" ∈ TBg := tb_o4 (List.mem_of_getElem? (i := 179) rfl) rfl
theorem t_900 : Cond.fieldLink RX9 229 "PaidMistakesModel" "lines" "I" ∈ TBg := tb_o4 (List.mem_of_getElem? (i := 180) rfl) rfl
theorem t_901 : Cond.fieldLink RX9 32 "PaidMistakesModel" "open" "[I" ∈ TBg := tb_o4 (List.mem_of_getElem? (i := 181) rfl) rfl
theorem t_902 : Cond.fieldLink RX9 149 "PaidMistakesModel" "opened" "I" ∈ TBg := tb_o4 (List.mem_of_getElem? (i := 182) rfl) rfl
theorem t_903 : Cond.fieldLink RX9 35 "PaidMistakesModel" "stack" "[J" ∈ TBg := tb_o4 (List.mem_of_getElem? (i := 183) rfl) rfl
theorem t_904 : Cond.fieldLink RX9 253 "PaidMistakesModel" "top" "I" ∈ TBg := tb_o4 (List.mem_of_getElem? (i := 184) rfl) rfl
theorem t_905 : Cond.fieldLink RX9 39 "PaidMistakesModel" "word" "[J" ∈ TBg := tb_o4 (List.mem_of_getElem? (i := 185) rfl) rfl
theorem t_906 : Cond.fieldLink RX9 42 "PaidMistakesModel" "said" "[I" ∈ TBg := tb_o4 (List.mem_of_getElem? (i := 186) rfl) rfl
theorem t_907 : Cond.fieldLink RX9 45 "PaidMistakesModel" "kept" "[I" ∈ TBg := tb_o4 (List.mem_of_getElem? (i := 187) rfl) rfl
theorem t_908 : Cond.fieldLink RX9 48 "PaidMistakesModel" "triedAt" "[I" ∈ TBg := tb_o4 (List.mem_of_getElem? (i := 188) rfl) rfl
theorem t_909 : Cond.fieldLink RX9 51 "PaidMistakesModel" "isFoundAt" "[Z" ∈ TBg := tb_o4 (List.mem_of_getElem? (i := 189) rfl) rfl
theorem t_910 : Cond.fieldLink RX9 55 "PaidMistakesModel" "foundBrings" "[J" ∈ TBg := tb_o4 (List.mem_of_getElem? (i := 190) rfl) rfl
theorem t_911 : Cond.fieldLink RX9 58 "PaidMistakesModel" "foundHides" "[J" ∈ TBg := tb_o4 (List.mem_of_getElem? (i := 191) rfl) rfl
theorem t_912 : Cond.fieldLink RX9 61 "PaidMistakesModel" "bestBrings" "[J" ∈ TBg := tb_o4 (List.mem_of_getElem? (i := 192) rfl) rfl
theorem t_913 : Cond.fieldLink RX9 64 "PaidMistakesModel" "bestHides" "[J" ∈ TBg := tb_o4 (List.mem_of_getElem? (i := 193) rfl) rfl
theorem t_914 : Cond.fieldLink RX9 67 "PaidMistakesModel" "bestLook" "[I" ∈ TBg := tb_o4 (List.mem_of_getElem? (i := 194) rfl) rfl
theorem t_915 : Cond.fieldLink RX9 70 "PaidMistakesModel" "leftAt" "[I" ∈ TBg := tb_o4 (List.mem_of_getElem? (i := 195) rfl) rfl
theorem t_916 : Cond.fieldLink RX9 73 "PaidMistakesModel" "images" "[I" ∈ TBg := tb_o4 (List.mem_of_getElem? (i := 196) rfl) rfl
theorem t_917 : Cond.fieldLink RX9 76 "PaidMistakesModel" "isMade" "[Z" ∈ TBg := tb_o4 (List.mem_of_getElem? (i := 197) rfl) rfl
theorem t_918 : Cond.laysFinal RX9 "PaidMistakesModel" "tape" "[B" ∈ TBg := tb_o4 (List.mem_of_getElem? (i := 198) rfl) rfl
theorem t_920 : Cond.lays RX9 "PaidMistakesModel" "taped" "I" ∈ TBg := tb_o4 (List.mem_of_getElem? (i := 200) rfl) rfl
theorem t_922 : Cond.lays RX9 "PaidMistakesModel" "rules" "I" ∈ TBg := tb_o4 (List.mem_of_getElem? (i := 202) rfl) rfl
theorem t_924 : Cond.laysFinal RX9 "PaidMistakesModel" "sign" "[I" ∈ TBg := tb_o4 (List.mem_of_getElem? (i := 204) rfl) rfl
theorem t_926 : Cond.laysFinal RX9 "PaidMistakesModel" "length" "[I" ∈ TBg := tb_o4 (List.mem_of_getElem? (i := 206) rfl) rfl
theorem t_928 : Cond.laysFinal RX9 "PaidMistakesModel" "clause" "[I" ∈ TBg := tb_o4 (List.mem_of_getElem? (i := 208) rfl) rfl
theorem t_930 : Cond.laysFinal RX9 "PaidMistakesModel" "clauses" "[I" ∈ TBg := tb_o4 (List.mem_of_getElem? (i := 210) rfl) rfl
theorem t_932 : Cond.lays RX9 "PaidMistakesModel" "timeRead" "I" ∈ TBg := tb_o4 (List.mem_of_getElem? (i := 212) rfl) rfl
theorem t_934 : Cond.lays RX9 "PaidMistakesModel" "kindsRead" "I" ∈ TBg := tb_o4 (List.mem_of_getElem? (i := 214) rfl) rfl
theorem t_936 : Cond.lays RX9 "PaidMistakesModel" "faultsRead" "I" ∈ TBg := tb_o4 (List.mem_of_getElem? (i := 216) rfl) rfl
theorem t_938 : Cond.laysFinal RX9 "PaidMistakesModel" "kindRead" "[I" ∈ TBg := tb_o4 (List.mem_of_getElem? (i := 218) rfl) rfl
theorem t_940 : Cond.laysFinal RX9 "PaidMistakesModel" "faultRead" "[I" ∈ TBg := tb_o4 (List.mem_of_getElem? (i := 220) rfl) rfl
theorem t_942 : Cond.lays RX9 "PaidMistakesModel" "next" "I" ∈ TBg := tb_o4 (List.mem_of_getElem? (i := 222) rfl) rfl
theorem t_944 : Cond.lays RX9 "PaidMistakesModel" "wrong" "I" ∈ TBg := tb_o4 (List.mem_of_getElem? (i := 224) rfl) rfl
theorem t_946 : Cond.lays RX9 "PaidMistakesModel" "number" "I" ∈ TBg := tb_o4 (List.mem_of_getElem? (i := 226) rfl) rfl
theorem t_948 : Cond.lays RX9 "PaidMistakesModel" "text" "I" ∈ TBg := tb_o4 (List.mem_of_getElem? (i := 228) rfl) rfl
theorem t_950 : Cond.lays RX9 "PaidMistakesModel" "made" "I" ∈ TBg := tb_o4 (List.mem_of_getElem? (i := 230) rfl) rfl
theorem t_952 : Cond.lays RX9 "PaidMistakesModel" "deep" "I" ∈ TBg := tb_o4 (List.mem_of_getElem? (i := 232) rfl) rfl
theorem t_954 : Cond.lays RX9 "PaidMistakesModel" "lines" "I" ∈ TBg := tb_o4 (List.mem_of_getElem? (i := 234) rfl) rfl
theorem t_956 : Cond.laysFinal RX9 "PaidMistakesModel" "open" "[I" ∈ TBg := tb_o4 (List.mem_of_getElem? (i := 236) rfl) rfl
theorem t_958 : Cond.lays RX9 "PaidMistakesModel" "opened" "I" ∈ TBg := tb_o4 (List.mem_of_getElem? (i := 238) rfl) rfl
theorem t_960 : Cond.laysFinal RX9 "PaidMistakesModel" "stack" "[J" ∈ TBg := tb_o5 (List.mem_of_getElem? (i := 0) rfl) rfl
theorem t_962 : Cond.lays RX9 "PaidMistakesModel" "top" "I" ∈ TBg := tb_o5 (List.mem_of_getElem? (i := 2) rfl) rfl
theorem t_964 : Cond.laysFinal RX9 "PaidMistakesModel" "word" "[J" ∈ TBg := tb_o5 (List.mem_of_getElem? (i := 4) rfl) rfl
theorem t_966 : Cond.laysFinal RX9 "PaidMistakesModel" "said" "[I" ∈ TBg := tb_o5 (List.mem_of_getElem? (i := 6) rfl) rfl
theorem t_968 : Cond.laysFinal RX9 "PaidMistakesModel" "kept" "[I" ∈ TBg := tb_o5 (List.mem_of_getElem? (i := 8) rfl) rfl
theorem t_970 : Cond.laysFinal RX9 "PaidMistakesModel" "triedAt" "[I" ∈ TBg := tb_o5 (List.mem_of_getElem? (i := 10) rfl) rfl
theorem t_972 : Cond.laysFinal RX9 "PaidMistakesModel" "isFoundAt" "[Z" ∈ TBg := tb_o5 (List.mem_of_getElem? (i := 12) rfl) rfl
theorem t_974 : Cond.laysFinal RX9 "PaidMistakesModel" "foundBrings" "[J" ∈ TBg := tb_o5 (List.mem_of_getElem? (i := 14) rfl) rfl
theorem t_976 : Cond.laysFinal RX9 "PaidMistakesModel" "foundHides" "[J" ∈ TBg := tb_o5 (List.mem_of_getElem? (i := 16) rfl) rfl
theorem t_978 : Cond.laysFinal RX9 "PaidMistakesModel" "bestBrings" "[J" ∈ TBg := tb_o5 (List.mem_of_getElem? (i := 18) rfl) rfl
theorem t_980 : Cond.laysFinal RX9 "PaidMistakesModel" "bestHides" "[J" ∈ TBg := tb_o5 (List.mem_of_getElem? (i := 20) rfl) rfl
theorem t_982 : Cond.laysFinal RX9 "PaidMistakesModel" "bestLook" "[I" ∈ TBg := tb_o5 (List.mem_of_getElem? (i := 22) rfl) rfl
theorem t_984 : Cond.laysFinal RX9 "PaidMistakesModel" "leftAt" "[I" ∈ TBg := tb_o5 (List.mem_of_getElem? (i := 24) rfl) rfl
theorem t_986 : Cond.laysFinal RX9 "PaidMistakesModel" "images" "[I" ∈ TBg := tb_o5 (List.mem_of_getElem? (i := 26) rfl) rfl
theorem t_988 : Cond.laysFinal RX9 "PaidMistakesModel" "isMade" "[Z" ∈ TBg := tb_o5 (List.mem_of_getElem? (i := 28) rfl) rfl
theorem t_996 : Cond.methodLink RX9 83 yX9_four ∈ TBg := tb_o5 (List.mem_of_getElem? (i := 36) rfl) rfl
theorem t_998 : Cond.instanceMethod yX9_four ∈ TBg := tb_o5 (List.mem_of_getElem? (i := 38) rfl) rfl
theorem t_999 : cw MX9_four ∈ TBg := tb_o5 (List.mem_of_getElem? (i := 39) rfl) rfl
theorem t_1008 : Cond.methodLink RX9 250 yX9_readsAll ∈ TBg := tb_o5 (List.mem_of_getElem? (i := 48) rfl) rfl
theorem t_1010 : Cond.instanceMethod yX9_readsAll ∈ TBg := tb_o5 (List.mem_of_getElem? (i := 50) rfl) rfl
theorem t_1011 : cw MX9_readsAll ∈ TBg := tb_o5 (List.mem_of_getElem? (i := 51) rfl) rfl
theorem t_1012 : Cond.methodLink RX9 244 yX9_clauseHere ∈ TBg := tb_o5 (List.mem_of_getElem? (i := 52) rfl) rfl
theorem t_1014 : Cond.instanceMethod yX9_clauseHere ∈ TBg := tb_o5 (List.mem_of_getElem? (i := 54) rfl) rfl
theorem t_1015 : cw MX9_clauseHere ∈ TBg := tb_o5 (List.mem_of_getElem? (i := 55) rfl) rfl
theorem t_1016 : Cond.methodLink RX9 93 yX9_see ∈ TBg := tb_o5 (List.mem_of_getElem? (i := 56) rfl) rfl
theorem t_1018 : Cond.instanceMethod yX9_see ∈ TBg := tb_o5 (List.mem_of_getElem? (i := 58) rfl) rfl
theorem t_1019 : cw MX9_see ∈ TBg := tb_o5 (List.mem_of_getElem? (i := 59) rfl) rfl
theorem t_1020 : Cond.constantLong RX9 223 (1953066341) ∈ TBg := tb_o5 (List.mem_of_getElem? (i := 60) rfl) rfl
theorem t_1021 : Cond.methodLink RX9 101 yX9_isWord ∈ TBg := tb_o5 (List.mem_of_getElem? (i := 61) rfl) rfl
theorem t_1023 : Cond.instanceMethod yX9_isWord ∈ TBg := tb_o5 (List.mem_of_getElem? (i := 63) rfl) rfl
theorem t_1024 : cw MX9_isWord ∈ TBg := tb_o5 (List.mem_of_getElem? (i := 64) rfl) rfl
theorem t_1025 : Cond.methodLink RX9 97 yX9_isLetter ∈ TBg := tb_o5 (List.mem_of_getElem? (i := 65) rfl) rfl
theorem t_1027 : Cond.instanceMethod yX9_isLetter ∈ TBg := tb_o5 (List.mem_of_getElem? (i := 67) rfl) rfl
theorem t_1028 : cw MX9_isLetter ∈ TBg := tb_o5 (List.mem_of_getElem? (i := 68) rfl) rfl
theorem t_1029 : Cond.constantLong RX9 124 (1802071652) ∈ TBg := tb_o5 (List.mem_of_getElem? (i := 69) rfl) rfl
theorem t_1030 : Cond.constantLong RX9 122 (439721749620) ∈ TBg := tb_o5 (List.mem_of_getElem? (i := 70) rfl) rfl
theorem t_1031 : Cond.constantLong RX9 225 (1819242347) ∈ TBg := tb_o5 (List.mem_of_getElem? (i := 71) rfl) rfl
theorem t_1032 : Cond.constantLong RX9 227 (1937010544) ∈ TBg := tb_o5 (List.mem_of_getElem? (i := 72) rfl) rfl
theorem t_1033 : Cond.methodLink RX9 111 yX9_fails ∈ TBg := tb_o5 (List.mem_of_getElem? (i := 73) rfl) rfl
theorem t_1035 : Cond.instanceMethod yX9_fails ∈ TBg := tb_o5 (List.mem_of_getElem? (i := 75) rfl) rfl
theorem t_1036 : cw MX9_fails ∈ TBg := tb_o5 (List.mem_of_getElem? (i := 76) rfl) rfl
theorem t_1037 : Cond.methodLink RX9 232 yX9_isDoingHere ∈ TBg := tb_o5 (List.mem_of_getElem? (i := 77) rfl) rfl
theorem t_1039 : Cond.instanceMethod yX9_isDoingHere ∈ TBg := tb_o5 (List.mem_of_getElem? (i := 79) rfl) rfl
theorem t_1040 : cw MX9_isDoingHere ∈ TBg := tb_o5 (List.mem_of_getElem? (i := 80) rfl) rfl
theorem t_1041 : Cond.methodLink RX9 105 yX9_passWord ∈ TBg := tb_o5 (List.mem_of_getElem? (i := 81) rfl) rfl
theorem t_1043 : Cond.instanceMethod yX9_passWord ∈ TBg := tb_o5 (List.mem_of_getElem? (i := 83) rfl) rfl
theorem t_1044 : cw MX9_passWord ∈ TBg := tb_o5 (List.mem_of_getElem? (i := 84) rfl) rfl
theorem t_1045 : Cond.methodLink RX9 177 yX9_sum ∈ TBg := tb_o5 (List.mem_of_getElem? (i := 85) rfl) rfl
theorem t_1047 : Cond.instanceMethod yX9_sum ∈ TBg := tb_o5 (List.mem_of_getElem? (i := 87) rfl) rfl
theorem t_1048 : cw MX9_sum ∈ TBg := tb_o5 (List.mem_of_getElem? (i := 88) rfl) rfl
theorem t_1049 : Cond.methodLink RX9 174 yX9_term ∈ TBg := tb_o5 (List.mem_of_getElem? (i := 89) rfl) rfl
theorem t_1051 : Cond.instanceMethod yX9_term ∈ TBg := tb_o5 (List.mem_of_getElem? (i := 91) rfl) rfl
theorem t_1052 : cw MX9_term ∈ TBg := tb_o5 (List.mem_of_getElem? (i := 92) rfl) rfl
theorem t_1053 : Cond.methodLink RX9 170 yX9_value ∈ TBg := tb_o5 (List.mem_of_getElem? (i := 93) rfl) rfl
theorem t_1055 : Cond.instanceMethod yX9_value ∈ TBg := tb_o5 (List.mem_of_getElem? (i := 95) rfl) rfl
theorem t_1056 : cw MX9_value ∈ TBg := tb_o5 (List.mem_of_getElem? (i := 96) rfl) rfl
theorem t_1057 : Cond.methodLink RX9 108 yX9_isDigit ∈ TBg := tb_o5 (List.mem_of_getElem? (i := 97) rfl) rfl
theorem t_1059 : Cond.instanceMethod yX9_isDigit ∈ TBg := tb_o5 (List.mem_of_getElem? (i := 99) rfl) rfl
theorem t_1060 : cw MX9_isDigit ∈ TBg := tb_o5 (List.mem_of_getElem? (i := 100) rfl) rfl
theorem t_1061 : Cond.constant RX9 160 (99999) ∈ TBg := tb_o5 (List.mem_of_getElem? (i := 101) rfl) rfl
theorem t_1062 : Cond.methodLink RX9 161 yX9_numberHere ∈ TBg := tb_o5 (List.mem_of_getElem? (i := 102) rfl) rfl
theorem t_1064 : Cond.instanceMethod yX9_numberHere ∈ TBg := tb_o5 (List.mem_of_getElem? (i := 104) rfl) rfl
theorem t_1065 : cw MX9_numberHere ∈ TBg := tb_o5 (List.mem_of_getElem? (i := 105) rfl) rfl
theorem t_1066 : Cond.methodLink RX9 118 yX9_in ∈ TBg := tb_o5 (List.mem_of_getElem? (i := 106) rfl) rfl
theorem t_1067 : Cond.static yX9_in ∈ TBg := tb_o5 (List.mem_of_getElem? (i := 107) rfl) rfl
theorem t_1068 : cw MX9_in ∈ TBg := tb_o5 (List.mem_of_getElem? (i := 108) rfl) rfl
theorem t_1069 : Cond.methodLink RX9 164 yX9_makes ∈ TBg := tb_o5 (List.mem_of_getElem? (i := 109) rfl) rfl
theorem t_1071 : Cond.instanceMethod yX9_makes ∈ TBg := tb_o5 (List.mem_of_getElem? (i := 111) rfl) rfl
theorem t_1072 : cw MX9_makes ∈ TBg := tb_o5 (List.mem_of_getElem? (i := 112) rfl) rfl
theorem t_1073 : Cond.methodLink RX9 156 yX9_puts ∈ TBg := tb_o5 (List.mem_of_getElem? (i := 113) rfl) rfl
theorem t_1075 : Cond.instanceMethod yX9_puts ∈ TBg := tb_o5 (List.mem_of_getElem? (i := 115) rfl) rfl
theorem t_1076 : cw MX9_puts ∈ TBg := tb_o5 (List.mem_of_getElem? (i := 116) rfl) rfl
theorem t_1077 : Cond.methodLink RX9 167 yX9_wordHere ∈ TBg := tb_o5 (List.mem_of_getElem? (i := 117) rfl) rfl
theorem t_1079 : Cond.instanceMethod yX9_wordHere ∈ TBg := tb_o5 (List.mem_of_getElem? (i := 119) rfl) rfl
theorem t_1080 : cw MX9_wordHere ∈ TBg := tb_o5 (List.mem_of_getElem? (i := 120) rfl) rfl
theorem t_1081 : Cond.constantLong RX9 126 (7364985) ∈ TBg := tb_o5 (List.mem_of_getElem? (i := 121) rfl) rfl
theorem t_1082 : Cond.constantLong RX9 128 (1868850291) ∈ TBg := tb_o5 (List.mem_of_getElem? (i := 122) rfl) rfl
theorem t_1083 : Cond.constantLong RX9 130 (30796695599342963) ∈ TBg := tb_o5 (List.mem_of_getElem? (i := 123) rfl) rfl
theorem t_1084 : Cond.constantLong RX9 132 (1818584692) ∈ TBg := tb_o5 (List.mem_of_getElem? (i := 124) rfl) rfl
theorem t_1085 : Cond.constantLong RX9 134 (439956631140) ∈ TBg := tb_o5 (List.mem_of_getElem? (i := 125) rfl) rfl
theorem t_1086 : Cond.constantLong RX9 136 (500135716211) ∈ TBg := tb_o5 (List.mem_of_getElem? (i := 126) rfl) rfl
theorem t_1087 : Cond.constantLong RX9 138 (111469206070628) ∈ TBg := tb_o5 (List.mem_of_getElem? (i := 127) rfl) rfl
theorem t_1088 : Cond.constantLong RX9 204 (26982) ∈ TBg := tb_o5 (List.mem_of_getElem? (i := 128) rfl) rfl
theorem t_1089 : Cond.methodLink RX9 206 yX9_takesWord ∈ TBg := tb_o5 (List.mem_of_getElem? (i := 129) rfl) rfl
theorem t_1091 : Cond.instanceMethod yX9_takesWord ∈ TBg := tb_o5 (List.mem_of_getElem? (i := 131) rfl) rfl
theorem t_1092 : cw MX9_takesWord ∈ TBg := tb_o5 (List.mem_of_getElem? (i := 132) rfl) rfl
theorem t_1093 : Cond.methodLink RX9 209 yX9_tested ∈ TBg := tb_o5 (List.mem_of_getElem? (i := 133) rfl) rfl
theorem t_1095 : Cond.instanceMethod yX9_tested ∈ TBg := tb_o5 (List.mem_of_getElem? (i := 135) rfl) rfl
theorem t_1096 : cw MX9_tested ∈ TBg := tb_o5 (List.mem_of_getElem? (i := 136) rfl) rfl
theorem t_1097 : Cond.methodLink RX9 194 yX9_fact ∈ TBg := tb_o5 (List.mem_of_getElem? (i := 137) rfl) rfl
theorem t_1099 : Cond.instanceMethod yX9_fact ∈ TBg := tb_o5 (List.mem_of_getElem? (i := 139) rfl) rfl
theorem t_1100 : cw MX9_fact ∈ TBg := tb_o5 (List.mem_of_getElem? (i := 140) rfl) rfl
theorem t_1101 : Cond.constantLong RX9 180 (7237492) ∈ TBg := tb_o5 (List.mem_of_getElem? (i := 141) rfl) rfl
theorem t_1102 : Cond.methodLink RX9 182 yX9_opens ∈ TBg := tb_o5 (List.mem_of_getElem? (i := 142) rfl) rfl
theorem t_1104 : Cond.instanceMethod yX9_opens ∈ TBg := tb_o5 (List.mem_of_getElem? (i := 144) rfl) rfl
theorem t_1105 : cw MX9_opens ∈ TBg := tb_o5 (List.mem_of_getElem? (i := 145) rfl) rfl
theorem t_1106 : Cond.methodLink RX9 185 yX9_compare ∈ TBg := tb_o5 (List.mem_of_getElem? (i := 146) rfl) rfl
theorem t_1108 : Cond.instanceMethod yX9_compare ∈ TBg := tb_o5 (List.mem_of_getElem? (i := 148) rfl) rfl
theorem t_1109 : cw MX9_compare ∈ TBg := tb_o5 (List.mem_of_getElem? (i := 149) rfl) rfl
theorem t_1110 : Cond.methodLink RX9 197 yX9_closes ∈ TBg := tb_o5 (List.mem_of_getElem? (i := 150) rfl) rfl
theorem t_1112 : Cond.instanceMethod yX9_closes ∈ TBg := tb_o5 (List.mem_of_getElem? (i := 152) rfl) rfl
theorem t_1113 : cw MX9_closes ∈ TBg := tb_o5 (List.mem_of_getElem? (i := 153) rfl) rfl
theorem t_1114 : Cond.methodLink RX9 188 yX9_settles ∈ TBg := tb_o5 (List.mem_of_getElem? (i := 154) rfl) rfl
theorem t_1116 : Cond.instanceMethod yX9_settles ∈ TBg := tb_o5 (List.mem_of_getElem? (i := 156) rfl) rfl
theorem t_1117 : cw MX9_settles ∈ TBg := tb_o5 (List.mem_of_getElem? (i := 157) rfl) rfl
theorem t_1118 : Cond.methodLink RX9 152 yX9_strength ∈ TBg := tb_o5 (List.mem_of_getElem? (i := 158) rfl) rfl
theorem t_1119 : Cond.static yX9_strength ∈ TBg := tb_o5 (List.mem_of_getElem? (i := 159) rfl) rfl
theorem t_1120 : cw MX9_strength ∈ TBg := tb_o5 (List.mem_of_getElem? (i := 160) rfl) rfl
theorem t_1121 : Cond.methodLink RX9 191 yX9_isInside ∈ TBg := tb_o5 (List.mem_of_getElem? (i := 161) rfl) rfl
theorem t_1123 : Cond.instanceMethod yX9_isInside ∈ TBg := tb_o5 (List.mem_of_getElem? (i := 163) rfl) rfl
theorem t_1124 : cw MX9_isInside ∈ TBg := tb_o5 (List.mem_of_getElem? (i := 164) rfl) rfl
theorem t_1125 : Cond.constantLong RX9 200 (6385252) ∈ TBg := tb_o5 (List.mem_of_getElem? (i := 165) rfl) rfl
theorem t_1126 : Cond.constantLong RX9 202 (28530) ∈ TBg := tb_o5 (List.mem_of_getElem? (i := 166) rfl) rfl
theorem t_1127 : Cond.methodLink RX9 235 yX9_isTimeHere ∈ TBg := tb_o5 (List.mem_of_getElem? (i := 167) rfl) rfl
theorem t_1129 : Cond.instanceMethod yX9_isTimeHere ∈ TBg := tb_o5 (List.mem_of_getElem? (i := 169) rfl) rfl
theorem t_1130 : cw MX9_isTimeHere ∈ TBg := tb_o5 (List.mem_of_getElem? (i := 170) rfl) rfl
theorem t_1131 : Cond.methodLink RX9 238 yX9_isKindHere ∈ TBg := tb_o5 (List.mem_of_getElem? (i := 171) rfl) rfl
theorem t_1133 : Cond.instanceMethod yX9_isKindHere ∈ TBg := tb_o5 (List.mem_of_getElem? (i := 173) rfl) rfl
theorem t_1134 : cw MX9_isKindHere ∈ TBg := tb_o5 (List.mem_of_getElem? (i := 174) rfl) rfl
theorem t_1135 : Cond.methodLink RX9 241 yX9_isFaultHere ∈ TBg := tb_o5 (List.mem_of_getElem? (i := 175) rfl) rfl
theorem t_1137 : Cond.instanceMethod yX9_isFaultHere ∈ TBg := tb_o5 (List.mem_of_getElem? (i := 177) rfl) rfl
theorem t_1138 : cw MX9_isFaultHere ∈ TBg := tb_o5 (List.mem_of_getElem? (i := 178) rfl) rfl
theorem t_1139 : Cond.constantLong RX9 221 (504363246962) ∈ TBg := tb_o5 (List.mem_of_getElem? (i := 179) rfl) rfl
theorem t_1148 : Cond.constantLong RX9 278 (2) ∈ TBg := tb_o5 (List.mem_of_getElem? (i := 188) rfl) rfl
theorem t_1153 : Cond.methodLink RX9 280 yX9_isFault ∈ TBg := tb_o5 (List.mem_of_getElem? (i := 193) rfl) rfl
theorem t_1155 : Cond.instanceMethod yX9_isFault ∈ TBg := tb_o5 (List.mem_of_getElem? (i := 195) rfl) rfl
theorem t_1156 : cw MX9_isFault ∈ TBg := tb_o5 (List.mem_of_getElem? (i := 196) rfl) rfl
theorem t_1157 : Cond.constantLong RX9 283 (6) ∈ TBg := tb_o5 (List.mem_of_getElem? (i := 197) rfl) rfl
theorem t_1158 : Cond.methodLink RX9 268 yX9_faultOf ∈ TBg := tb_o5 (List.mem_of_getElem? (i := 198) rfl) rfl
theorem t_1160 : Cond.instanceMethod yX9_faultOf ∈ TBg := tb_o5 (List.mem_of_getElem? (i := 200) rfl) rfl
theorem t_1161 : cw MX9_faultOf ∈ TBg := tb_o5 (List.mem_of_getElem? (i := 201) rfl) rfl
theorem t_1162 : Cond.methodLink RX9 272 yX9_isOpen ∈ TBg := tb_o5 (List.mem_of_getElem? (i := 202) rfl) rfl
theorem t_1164 : Cond.instanceMethod yX9_isOpen ∈ TBg := tb_o5 (List.mem_of_getElem? (i := 204) rfl) rfl
theorem t_1165 : cw MX9_isOpen ∈ TBg := tb_o5 (List.mem_of_getElem? (i := 205) rfl) rfl
theorem t_1170 : Cond.methodLink RX9 295 yX9_canLook ∈ TBg := tb_o5 (List.mem_of_getElem? (i := 210) rfl) rfl
theorem t_1172 : Cond.instanceMethod yX9_canLook ∈ TBg := tb_o5 (List.mem_of_getElem? (i := 212) rfl) rfl
theorem t_1173 : cw MX9_canLook ∈ TBg := tb_o5 (List.mem_of_getElem? (i := 213) rfl) rfl
theorem t_1174 : Cond.methodLink RX9 298 yX9_looks ∈ TBg := tb_o5 (List.mem_of_getElem? (i := 214) rfl) rfl
theorem t_1176 : Cond.instanceMethod yX9_looks ∈ TBg := tb_o5 (List.mem_of_getElem? (i := 216) rfl) rfl
theorem t_1177 : cw MX9_looks ∈ TBg := tb_o5 (List.mem_of_getElem? (i := 217) rfl) rfl
theorem t_1178 : Cond.methodLink RX9 292 yX9_draw ∈ TBg := tb_o5 (List.mem_of_getElem? (i := 218) rfl) rfl
theorem t_1180 : Cond.instanceMethod yX9_draw ∈ TBg := tb_o5 (List.mem_of_getElem? (i := 220) rfl) rfl
theorem t_1181 : cw MX9_draw ∈ TBg := tb_o5 (List.mem_of_getElem? (i := 221) rfl) rfl
theorem t_1182 : Cond.constantLong RX9 285 (1103515245) ∈ TBg := tb_o5 (List.mem_of_getElem? (i := 222) rfl) rfl
theorem t_1183 : Cond.constantLong RX9 287 (12345) ∈ TBg := tb_o5 (List.mem_of_getElem? (i := 223) rfl) rfl
theorem t_1184 : Cond.constantLong RX9 289 (2147483648) ∈ TBg := tb_o5 (List.mem_of_getElem? (i := 224) rfl) rfl
theorem t_1185 : Cond.constant RX9 291 (65536) ∈ TBg := tb_o5 (List.mem_of_getElem? (i := 225) rfl) rfl
theorem t_1186 : Cond.methodLink RX9 275 yX9_kindOf ∈ TBg := tb_o5 (List.mem_of_getElem? (i := 226) rfl) rfl
theorem t_1188 : Cond.instanceMethod yX9_kindOf ∈ TBg := tb_o5 (List.mem_of_getElem? (i := 228) rfl) rfl
theorem t_1189 : cw MX9_kindOf ∈ TBg := tb_o5 (List.mem_of_getElem? (i := 229) rfl) rfl
theorem t_1194 : Cond.methodLink RX9 301 yX9_isWork ∈ TBg := tb_o5 (List.mem_of_getElem? (i := 234) rfl) rfl
theorem t_1196 : Cond.instanceMethod yX9_isWork ∈ TBg := tb_o5 (List.mem_of_getElem? (i := 236) rfl) rfl
theorem t_1197 : cw MX9_isWork ∈ TBg := tb_o5 (List.mem_of_getElem? (i := 237) rfl) rfl
theorem t_1198 : Cond.constantLong RX9 304 (999) ∈ TBg := tb_o5 (List.mem_of_getElem? (i := 238) rfl) rfl
theorem t_1199 : Cond.constant RX9 306 (-1000000) ∈ TBg := tb_o5 (List.mem_of_getElem? (i := 239) rfl) rfl
theorem t_1208 : Cond.methodLink RX9 307 yX9_hidden ∈ TBg := tb_o6 (List.mem_of_getElem? (i := 8) rfl) rfl
theorem t_1210 : Cond.instanceMethod yX9_hidden ∈ TBg := tb_o6 (List.mem_of_getElem? (i := 10) rfl) rfl
theorem t_1211 : cw MX9_hidden ∈ TBg := tb_o6 (List.mem_of_getElem? (i := 11) rfl) rfl
theorem t_1212 : Cond.methodLink RX9 310 yX9_begins ∈ TBg := tb_o6 (List.mem_of_getElem? (i := 12) rfl) rfl
theorem t_1214 : Cond.instanceMethod yX9_begins ∈ TBg := tb_o6 (List.mem_of_getElem? (i := 14) rfl) rfl
theorem t_1215 : cw MX9_begins ∈ TBg := tb_o6 (List.mem_of_getElem? (i := 15) rfl) rfl
theorem t_1220 : Cond.methodLink RX9 335 yX9_isRule ∈ TBg := tb_o6 (List.mem_of_getElem? (i := 20) rfl) rfl
theorem t_1222 : Cond.instanceMethod yX9_isRule ∈ TBg := tb_o6 (List.mem_of_getElem? (i := 22) rfl) rfl
theorem t_1223 : cw MX9_isRule ∈ TBg := tb_o6 (List.mem_of_getElem? (i := 23) rfl) rfl
theorem t_1224 : Cond.methodLink RX9 338 yX9_passes ∈ TBg := tb_o6 (List.mem_of_getElem? (i := 24) rfl) rfl
theorem t_1226 : Cond.instanceMethod yX9_passes ∈ TBg := tb_o6 (List.mem_of_getElem? (i := 26) rfl) rfl
theorem t_1227 : cw MX9_passes ∈ TBg := tb_o6 (List.mem_of_getElem? (i := 27) rfl) rfl
theorem t_1228 : Cond.methodLink RX9 332 yX9_nextFor ∈ TBg := tb_o6 (List.mem_of_getElem? (i := 28) rfl) rfl
theorem t_1230 : Cond.instanceMethod yX9_nextFor ∈ TBg := tb_o6 (List.mem_of_getElem? (i := 30) rfl) rfl
theorem t_1231 : cw MX9_nextFor ∈ TBg := tb_o6 (List.mem_of_getElem? (i := 31) rfl) rfl
theorem t_1232 : Cond.methodLink RX9 326 yX9_clauseFor ∈ TBg := tb_o6 (List.mem_of_getElem? (i := 32) rfl) rfl
theorem t_1234 : Cond.instanceMethod yX9_clauseFor ∈ TBg := tb_o6 (List.mem_of_getElem? (i := 34) rfl) rfl
theorem t_1235 : cw MX9_clauseFor ∈ TBg := tb_o6 (List.mem_of_getElem? (i := 35) rfl) rfl
theorem t_1236 : Cond.methodLink RX9 319 yX9_words ∈ TBg := tb_o6 (List.mem_of_getElem? (i := 36) rfl) rfl
theorem t_1238 : Cond.instanceMethod yX9_words ∈ TBg := tb_o6 (List.mem_of_getElem? (i := 38) rfl) rfl
theorem t_1239 : cw MX9_words ∈ TBg := tb_o6 (List.mem_of_getElem? (i := 39) rfl) rfl
theorem t_1240 : Cond.methodLink RX9 313 yX9_thatAre ∈ TBg := tb_o6 (List.mem_of_getElem? (i := 40) rfl) rfl
theorem t_1242 : Cond.instanceMethod yX9_thatAre ∈ TBg := tb_o6 (List.mem_of_getElem? (i := 42) rfl) rfl
theorem t_1243 : cw MX9_thatAre ∈ TBg := tb_o6 (List.mem_of_getElem? (i := 43) rfl) rfl
theorem t_1244 : Cond.methodLink RX9 316 yX9_bits ∈ TBg := tb_o6 (List.mem_of_getElem? (i := 44) rfl) rfl
theorem t_1245 : Cond.static yX9_bits ∈ TBg := tb_o6 (List.mem_of_getElem? (i := 45) rfl) rfl
theorem t_1246 : cw MX9_bits ∈ TBg := tb_o6 (List.mem_of_getElem? (i := 46) rfl) rfl
theorem t_1247 : Cond.methodLink RX9 322 yX9_reckons ∈ TBg := tb_o6 (List.mem_of_getElem? (i := 47) rfl) rfl
theorem t_1249 : Cond.instanceMethod yX9_reckons ∈ TBg := tb_o6 (List.mem_of_getElem? (i := 49) rfl) rfl
theorem t_1250 : cw MX9_reckons ∈ TBg := tb_o6 (List.mem_of_getElem? (i := 50) rfl) rfl
theorem t_1251 : Cond.methodLink RX9 256 yX9_push ∈ TBg := tb_o6 (List.mem_of_getElem? (i := 51) rfl) rfl
theorem t_1253 : Cond.instanceMethod yX9_push ∈ TBg := tb_o6 (List.mem_of_getElem? (i := 53) rfl) rfl
theorem t_1254 : cw MX9_push ∈ TBg := tb_o6 (List.mem_of_getElem? (i := 54) rfl) rfl
theorem t_1255 : Cond.methodLink RX9 260 yX9_pop ∈ TBg := tb_o6 (List.mem_of_getElem? (i := 55) rfl) rfl
theorem t_1257 : Cond.instanceMethod yX9_pop ∈ TBg := tb_o6 (List.mem_of_getElem? (i := 57) rfl) rfl
theorem t_1258 : cw MX9_pop ∈ TBg := tb_o6 (List.mem_of_getElem? (i := 58) rfl) rfl
theorem t_1259 : Cond.methodLink RX9 264 yX9_one ∈ TBg := tb_o6 (List.mem_of_getElem? (i := 59) rfl) rfl
theorem t_1260 : Cond.static yX9_one ∈ TBg := tb_o6 (List.mem_of_getElem? (i := 60) rfl) rfl
theorem t_1261 : cw MX9_one ∈ TBg := tb_o6 (List.mem_of_getElem? (i := 61) rfl) rfl
theorem t_1262 : Cond.methodLink RX9 329 yX9_stops ∈ TBg := tb_o6 (List.mem_of_getElem? (i := 62) rfl) rfl
theorem t_1264 : Cond.instanceMethod yX9_stops ∈ TBg := tb_o6 (List.mem_of_getElem? (i := 64) rfl) rfl
theorem t_1265 : cw MX9_stops ∈ TBg := tb_o6 (List.mem_of_getElem? (i := 65) rfl) rfl
theorem t_1270 : Cond.constantLong RX9 341 (4) ∈ TBg := tb_o6 (List.mem_of_getElem? (i := 70) rfl) rfl
theorem t_1271 : Cond.methodLink RX9 343 yX9_keeps ∈ TBg := tb_o6 (List.mem_of_getElem? (i := 71) rfl) rfl
theorem t_1273 : Cond.instanceMethod yX9_keeps ∈ TBg := tb_o6 (List.mem_of_getElem? (i := 73) rfl) rfl
theorem t_1274 : cw MX9_keeps ∈ TBg := tb_o6 (List.mem_of_getElem? (i := 74) rfl) rfl
theorem t_1275 : Cond.methodLink RX9 346 yX9_putsBack ∈ TBg := tb_o6 (List.mem_of_getElem? (i := 75) rfl) rfl
theorem t_1277 : Cond.instanceMethod yX9_putsBack ∈ TBg := tb_o6 (List.mem_of_getElem? (i := 77) rfl) rfl
theorem t_1278 : cw MX9_putsBack ∈ TBg := tb_o6 (List.mem_of_getElem? (i := 78) rfl) rfl
theorem t_1287 : Cond.constantLong RX9 362 (-1) ∈ TBg := tb_o6 (List.mem_of_getElem? (i := 87) rfl) rfl
theorem t_1288 : Cond.methodLink RX9 364 yX9_meanOf ∈ TBg := tb_o6 (List.mem_of_getElem? (i := 88) rfl) rfl
theorem t_1290 : Cond.instanceMethod yX9_meanOf ∈ TBg := tb_o6 (List.mem_of_getElem? (i := 90) rfl) rfl
theorem t_1291 : cw MX9_meanOf ∈ TBg := tb_o6 (List.mem_of_getElem? (i := 91) rfl) rfl
theorem t_1292 : Cond.methodLink RX9 354 yX9_comesOut ∈ TBg := tb_o6 (List.mem_of_getElem? (i := 92) rfl) rfl
theorem t_1294 : Cond.instanceMethod yX9_comesOut ∈ TBg := tb_o6 (List.mem_of_getElem? (i := 94) rfl) rfl
theorem t_1295 : cw MX9_comesOut ∈ TBg := tb_o6 (List.mem_of_getElem? (i := 95) rfl) rfl
theorem t_1296 : Cond.methodLink RX9 349 yX9_isOf ∈ TBg := tb_o6 (List.mem_of_getElem? (i := 96) rfl) rfl
theorem t_1297 : Cond.static yX9_isOf ∈ TBg := tb_o6 (List.mem_of_getElem? (i := 97) rfl) rfl
theorem t_1298 : cw MX9_isOf ∈ TBg := tb_o6 (List.mem_of_getElem? (i := 98) rfl) rfl
theorem t_1299 : Cond.constantLong RX9 352 (100) ∈ TBg := tb_o6 (List.mem_of_getElem? (i := 99) rfl) rfl
theorem t_1300 : Cond.methodLink RX9 367 yX9_hundreds ∈ TBg := tb_o6 (List.mem_of_getElem? (i := 100) rfl) rfl
theorem t_1302 : Cond.instanceMethod yX9_hundreds ∈ TBg := tb_o6 (List.mem_of_getElem? (i := 102) rfl) rfl
theorem t_1303 : cw MX9_hundreds ∈ TBg := tb_o6 (List.mem_of_getElem? (i := 103) rfl) rfl
theorem t_1304 : Cond.methodLink RX9 370 yX9_partOf ∈ TBg := tb_o6 (List.mem_of_getElem? (i := 104) rfl) rfl
theorem t_1306 : Cond.instanceMethod yX9_partOf ∈ TBg := tb_o6 (List.mem_of_getElem? (i := 106) rfl) rfl
theorem t_1307 : cw MX9_partOf ∈ TBg := tb_o6 (List.mem_of_getElem? (i := 107) rfl) rfl
theorem t_1308 : Cond.methodLink RX9 358 yX9_divisor ∈ TBg := tb_o6 (List.mem_of_getElem? (i := 108) rfl) rfl
theorem t_1309 : Cond.static yX9_divisor ∈ TBg := tb_o6 (List.mem_of_getElem? (i := 109) rfl) rfl
theorem t_1310 : cw MX9_divisor ∈ TBg := tb_o6 (List.mem_of_getElem? (i := 110) rfl) rfl
theorem t_1319 : Cond.constantLong RX9 388 (5) ∈ TBg := tb_o6 (List.mem_of_getElem? (i := 119) rfl) rfl
theorem t_1320 : Cond.methodLink RX9 390 yX9_goesThrough ∈ TBg := tb_o6 (List.mem_of_getElem? (i := 120) rfl) rfl
theorem t_1322 : Cond.instanceMethod yX9_goesThrough ∈ TBg := tb_o6 (List.mem_of_getElem? (i := 122) rfl) rfl
theorem t_1323 : cw MX9_goesThrough ∈ TBg := tb_o6 (List.mem_of_getElem? (i := 123) rfl) rfl
theorem t_1324 : Cond.methodLink RX9 378 yX9_comesTo ∈ TBg := tb_o6 (List.mem_of_getElem? (i := 124) rfl) rfl
theorem t_1326 : Cond.instanceMethod yX9_comesTo ∈ TBg := tb_o6 (List.mem_of_getElem? (i := 126) rfl) rfl
theorem t_1327 : cw MX9_comesTo ∈ TBg := tb_o6 (List.mem_of_getElem? (i := 127) rfl) rfl
theorem t_1328 : Cond.methodLink RX9 381 yX9_triesNext ∈ TBg := tb_o6 (List.mem_of_getElem? (i := 128) rfl) rfl
theorem t_1330 : Cond.instanceMethod yX9_triesNext ∈ TBg := tb_o6 (List.mem_of_getElem? (i := 130) rfl) rfl
theorem t_1331 : cw MX9_triesNext ∈ TBg := tb_o6 (List.mem_of_getElem? (i := 131) rfl) rfl
theorem t_1332 : Cond.methodLink RX9 384 yX9_takes ∈ TBg := tb_o6 (List.mem_of_getElem? (i := 132) rfl) rfl
theorem t_1334 : Cond.instanceMethod yX9_takes ∈ TBg := tb_o6 (List.mem_of_getElem? (i := 134) rfl) rfl
theorem t_1335 : cw MX9_takes ∈ TBg := tb_o6 (List.mem_of_getElem? (i := 135) rfl) rfl
theorem t_1336 : Cond.methodLink RX9 374 yX9_triesAs ∈ TBg := tb_o6 (List.mem_of_getElem? (i := 136) rfl) rfl
theorem t_1338 : Cond.instanceMethod yX9_triesAs ∈ TBg := tb_o6 (List.mem_of_getElem? (i := 138) rfl) rfl
theorem t_1339 : cw MX9_triesAs ∈ TBg := tb_o6 (List.mem_of_getElem? (i := 139) rfl) rfl
theorem t_1344 : Cond.constantLong RX9 393 (-1000000000000) ∈ TBg := tb_o6 (List.mem_of_getElem? (i := 144) rfl) rfl
theorem t_1349 : Cond.constantLong RX9 395 (7) ∈ TBg := tb_o6 (List.mem_of_getElem? (i := 149) rfl) rfl
theorem t_1350 : Cond.constantLong RX9 397 (-99) ∈ TBg := tb_o6 (List.mem_of_getElem? (i := 150) rfl) rfl
theorem t_1351 : Cond.constantLong RX9 399 (99) ∈ TBg := tb_o6 (List.mem_of_getElem? (i := 151) rfl) rfl
theorem t_1353 : Cond.instanceMethod yX9_rests ∈ TBg := tb_o6 (List.mem_of_getElem? (i := 153) rfl) rfl
theorem t_1354 : Cond.selects RX9 yX9_rests yX9_rests ∈ TBg := tb_o6 (List.mem_of_getElem? (i := 154) rfl) rfl
theorem t_1355 : cw MX9_rests ∈ TBg := tb_o6 (List.mem_of_getElem? (i := 155) rfl) rfl
theorem t_1356 : Cond.methodLink RX9 401 yX9_gameOf ∈ TBg := tb_o6 (List.mem_of_getElem? (i := 156) rfl) rfl
theorem t_1358 : Cond.instanceMethod yX9_gameOf ∈ TBg := tb_o6 (List.mem_of_getElem? (i := 158) rfl) rfl
theorem t_1359 : cw MX9_gameOf ∈ TBg := tb_o6 (List.mem_of_getElem? (i := 159) rfl) rfl
theorem t_1364 : Cond.methodLink RX9 404 yX9_rests ∈ TBg := tb_o6 (List.mem_of_getElem? (i := 164) rfl) rfl
theorem t_1369 : Cond.constantLong RX9 407 (9999) ∈ TBg := tb_o6 (List.mem_of_getElem? (i := 169) rfl) rfl
theorem t_1374 : Cond.methodLink RX9 409 yX9_couldBe ∈ TBg := tb_o6 (List.mem_of_getElem? (i := 174) rfl) rfl
theorem t_1376 : Cond.instanceMethod yX9_couldBe ∈ TBg := tb_o6 (List.mem_of_getElem? (i := 176) rfl) rfl
theorem t_1377 : cw MX9_couldBe ∈ TBg := tb_o6 (List.mem_of_getElem? (i := 177) rfl) rfl
theorem t_1386 : Cond.constantLong RX9 412 (20) ∈ TBg := tb_o6 (List.mem_of_getElem? (i := 186) rfl) rfl
theorem t_1399 : Cond.constantLong RX9 414 (3) ∈ TBg := tb_o6 (List.mem_of_getElem? (i := 199) rfl) rfl
theorem t_1404 : Cond.fieldLink RJ0 9 "java/lang/String" "value" "[B" ∈ TBg := tb_o6 (List.mem_of_getElem? (i := 204) rfl) rfl
theorem t_1405 : Cond.fieldLink RJ0 15 "java/lang/String" "coder" "B" ∈ TBg := tb_o6 (List.mem_of_getElem? (i := 205) rfl) rfl
theorem okN_X0_init : okN MX0_init 0 := ⟨by decide, by decide, by decide +kernel⟩
theorem okN_X9_in : okN MX9_in 3 := ⟨by decide, by decide, by decide +kernel⟩
theorem s_X9_isWork : Cond.selects yX9_isWork.cls yX9_isWork yX9_isWork ∈ TBg := tb_sel (q := (yX9_isWork, 36)) (by decide +kernel)
theorem okN_X9_isWork : okN MX9_isWork 0 := ⟨by decide, by decide, by decide +kernel⟩
theorem s_X9_keeps : Cond.selects yX9_keeps.cls yX9_keeps yX9_keeps ∈ TBg := tb_sel (q := (yX9_keeps, 36)) (by decide +kernel)
theorem okN_X9_keeps : okN MX9_keeps 0 := ⟨by decide, by decide, by decide +kernel⟩
theorem s_X9_faultOf : Cond.selects yX9_faultOf.cls yX9_faultOf yX9_faultOf ∈ TBg := tb_sel (q := (yX9_faultOf, 36)) (by decide +kernel)
theorem okN_X9_faultOf : okN MX9_faultOf 2 := ⟨by decide, by decide, by decide +kernel⟩
theorem s_X9_kindOf : Cond.selects yX9_kindOf.cls yX9_kindOf yX9_kindOf ∈ TBg := tb_sel (q := (yX9_kindOf, 36)) (by decide +kernel)
theorem okN_X9_kindOf : okN MX9_kindOf 2 := ⟨by decide, by decide, by decide +kernel⟩
theorem s_X9_hidden : Cond.selects yX9_hidden.cls yX9_hidden yX9_hidden ∈ TBg := tb_sel (q := (yX9_hidden, 36)) (by decide +kernel)
theorem okN_X9_hidden : okN MX9_hidden 0 := ⟨by decide, by decide, by decide +kernel⟩
theorem s_X9_hundreds : Cond.selects yX9_hundreds.cls yX9_hundreds yX9_hundreds ∈ TBg := tb_sel (q := (yX9_hundreds, 36)) (by decide +kernel)
theorem okN_X9_hundreds : okN MX9_hundreds 1 := ⟨by decide, by decide, by decide +kernel⟩
theorem s_X9_comesTo : Cond.selects yX9_comesTo.cls yX9_comesTo yX9_comesTo ∈ TBg := tb_sel (q := (yX9_comesTo, 36)) (by decide +kernel)
theorem okN_X9_comesTo : okN MX9_comesTo 2 := ⟨by decide, by decide, by decide +kernel⟩
theorem s_X9_triesAs : Cond.selects yX9_triesAs.cls yX9_triesAs yX9_triesAs ∈ TBg := tb_sel (q := (yX9_triesAs, 36)) (by decide +kernel)
theorem okN_X9_triesAs : okN MX9_triesAs 2 := ⟨by decide, by decide, by decide +kernel⟩
theorem s_X9_takes : Cond.selects yX9_takes.cls yX9_takes yX9_takes ∈ TBg := tb_sel (q := (yX9_takes, 36)) (by decide +kernel)
theorem okN_X9_takes : okN MX9_takes 4 := ⟨by decide, by decide, by decide +kernel⟩
theorem s_X9_isOpen : Cond.selects yX9_isOpen.cls yX9_isOpen yX9_isOpen ∈ TBg := tb_sel (q := (yX9_isOpen, 36)) (by decide +kernel)
theorem okN_X9_isOpen : okN MX9_isOpen 1 := ⟨by decide, by decide, by decide +kernel⟩
theorem s_X9_canLook : Cond.selects yX9_canLook.cls yX9_canLook yX9_canLook ∈ TBg := tb_sel (q := (yX9_canLook, 36)) (by decide +kernel)
theorem okN_X9_canLook : okN MX9_canLook 1 := ⟨by decide, by decide, by decide +kernel⟩
theorem s_X9_triesNext : Cond.selects yX9_triesNext.cls yX9_triesNext yX9_triesNext ∈ TBg := tb_sel (q := (yX9_triesNext, 36)) (by decide +kernel)
theorem okN_X9_triesNext : okN MX9_triesNext 1 := ⟨by decide, by decide, by decide +kernel⟩
theorem s_X9_goesThrough : Cond.selects yX9_goesThrough.cls yX9_goesThrough yX9_goesThrough ∈ TBg := tb_sel (q := (yX9_goesThrough, 36)) (by decide +kernel)
theorem okN_X9_goesThrough : okN MX9_goesThrough 1 := ⟨by decide, by decide, by decide +kernel⟩
theorem s_X9_putsBack : Cond.selects yX9_putsBack.cls yX9_putsBack yX9_putsBack ∈ TBg := tb_sel (q := (yX9_putsBack, 36)) (by decide +kernel)
theorem okN_X9_putsBack : okN MX9_putsBack 0 := ⟨by decide, by decide, by decide +kernel⟩
theorem okN_X9_divisor : okN MX9_divisor 2 := ⟨by decide, by decide, by decide +kernel⟩
theorem s_X9_partOf : Cond.selects yX9_partOf.cls yX9_partOf yX9_partOf ∈ TBg := tb_sel (q := (yX9_partOf, 36)) (by decide +kernel)
theorem okN_X9_partOf : okN MX9_partOf 3 := ⟨by decide, by decide, by decide +kernel⟩
theorem s_X9_thatAre : Cond.selects yX9_thatAre.cls yX9_thatAre yX9_thatAre ∈ TBg := tb_sel (q := (yX9_thatAre, 36)) (by decide +kernel)
theorem okN_X9_thatAre : okN MX9_thatAre 1 := ⟨by decide, by decide, by decide +kernel⟩
theorem okN_X9_bits : okN MX9_bits 1 := ⟨by decide, by decide, by decide +kernel⟩
theorem s_X9_words : Cond.selects yX9_words.cls yX9_words yX9_words ∈ TBg := tb_sel (q := (yX9_words, 36)) (by decide +kernel)
theorem okN_X9_words : okN MX9_words 1 := ⟨by decide, by decide, by decide +kernel⟩
theorem s_X9_pop : Cond.selects yX9_pop.cls yX9_pop yX9_pop ∈ TBg := tb_sel (q := (yX9_pop, 36)) (by decide +kernel)
theorem okN_X9_pop : okN MX9_pop 0 := ⟨by decide, by decide, by decide +kernel⟩
theorem okN_X9_one : okN MX9_one 3 := ⟨by decide, by decide, by decide +kernel⟩
theorem s_X9_push : Cond.selects yX9_push.cls yX9_push yX9_push ∈ TBg := tb_sel (q := (yX9_push, 36)) (by decide +kernel)
theorem okN_X9_push : okN MX9_push 1 := ⟨by decide, by decide, by decide +kernel⟩
theorem s_X9_reckons : Cond.selects yX9_reckons.cls yX9_reckons yX9_reckons ∈ TBg := tb_sel (q := (yX9_reckons, 36)) (by decide +kernel)
theorem okN_X9_reckons : okN MX9_reckons 3 := ⟨by decide, by decide, by decide +kernel⟩
theorem s_X9_see : Cond.selects yX9_see.cls yX9_see yX9_see ∈ TBg := tb_sel (q := (yX9_see, 36)) (by decide +kernel)
theorem okN_X9_see : okN MX9_see 0 := ⟨by decide, by decide, by decide +kernel⟩
theorem s_X9_isLetter : Cond.selects yX9_isLetter.cls yX9_isLetter yX9_isLetter ∈ TBg := tb_sel (q := (yX9_isLetter, 36)) (by decide +kernel)
theorem okN_X9_isLetter : okN MX9_isLetter 1 := ⟨by decide, by decide, by decide +kernel⟩
theorem s_X9_isWord : Cond.selects yX9_isWord.cls yX9_isWord yX9_isWord ∈ TBg := tb_sel (q := (yX9_isWord, 36)) (by decide +kernel)
theorem okN_X9_isWord : okN MX9_isWord 1 := ⟨by decide, by decide, by decide +kernel⟩
theorem s_X9_passWord : Cond.selects yX9_passWord.cls yX9_passWord yX9_passWord ∈ TBg := tb_sel (q := (yX9_passWord, 36)) (by decide +kernel)
theorem okN_X9_passWord : okN MX9_passWord 0 := ⟨by decide, by decide, by decide +kernel⟩
theorem s_X9_isDigit : Cond.selects yX9_isDigit.cls yX9_isDigit yX9_isDigit ∈ TBg := tb_sel (q := (yX9_isDigit, 36)) (by decide +kernel)
theorem okN_X9_isDigit : okN MX9_isDigit 1 := ⟨by decide, by decide, by decide +kernel⟩
theorem s_X9_fails : Cond.selects yX9_fails.cls yX9_fails yX9_fails ∈ TBg := tb_sel (q := (yX9_fails, 36)) (by decide +kernel)
theorem okN_X9_fails : okN MX9_fails 2 := ⟨by decide, by decide, by decide +kernel⟩
theorem s_X9_numberHere : Cond.selects yX9_numberHere.cls yX9_numberHere yX9_numberHere ∈ TBg := tb_sel (q := (yX9_numberHere, 36)) (by decide +kernel)
theorem okN_X9_numberHere : okN MX9_numberHere 2 := ⟨by decide, by decide, by decide +kernel⟩
theorem s_X9_takesWord : Cond.selects yX9_takesWord.cls yX9_takesWord yX9_takesWord ∈ TBg := tb_sel (q := (yX9_takesWord, 36)) (by decide +kernel)
theorem okN_X9_takesWord : okN MX9_takesWord 1 := ⟨by decide, by decide, by decide +kernel⟩
theorem s_X9_isFaultHere : Cond.selects yX9_isFaultHere.cls yX9_isFaultHere yX9_isFaultHere ∈ TBg := tb_sel (q := (yX9_isFaultHere, 36)) (by decide +kernel)
theorem okN_X9_isFaultHere : okN MX9_isFaultHere 1 := ⟨by decide, by decide, by decide +kernel⟩
theorem s_X9_isKindHere : Cond.selects yX9_isKindHere.cls yX9_isKindHere yX9_isKindHere ∈ TBg := tb_sel (q := (yX9_isKindHere, 36)) (by decide +kernel)
theorem okN_X9_isKindHere : okN MX9_isKindHere 1 := ⟨by decide, by decide, by decide +kernel⟩
theorem s_X9_isTimeHere : Cond.selects yX9_isTimeHere.cls yX9_isTimeHere yX9_isTimeHere ∈ TBg := tb_sel (q := (yX9_isTimeHere, 36)) (by decide +kernel)
theorem okN_X9_isTimeHere : okN MX9_isTimeHere 1 := ⟨by decide, by decide, by decide +kernel⟩
theorem s_X9_opens : Cond.selects yX9_opens.cls yX9_opens yX9_opens ∈ TBg := tb_sel (q := (yX9_opens, 36)) (by decide +kernel)
theorem okN_X9_opens : okN MX9_opens 1 := ⟨by decide, by decide, by decide +kernel⟩
theorem s_X9_wordHere : Cond.selects yX9_wordHere.cls yX9_wordHere yX9_wordHere ∈ TBg := tb_sel (q := (yX9_wordHere, 36)) (by decide +kernel)
theorem okN_X9_wordHere : okN MX9_wordHere 0 := ⟨by decide, by decide, by decide +kernel⟩
theorem s_X9_makes : Cond.selects yX9_makes.cls yX9_makes yX9_makes ∈ TBg := tb_sel (q := (yX9_makes, 36)) (by decide +kernel)
theorem okN_X9_makes : okN MX9_makes 1 := ⟨by decide, by decide, by decide +kernel⟩
theorem s_X9_puts : Cond.selects yX9_puts.cls yX9_puts yX9_puts ∈ TBg := tb_sel (q := (yX9_puts, 36)) (by decide +kernel)
theorem okN_X9_puts : okN MX9_puts 2 := ⟨by decide, by decide, by decide +kernel⟩
theorem s_X9_value : Cond.selects yX9_value.cls yX9_value yX9_value ∈ TBg := tb_sel (q := (yX9_value, 36)) (by decide +kernel)
theorem okN_X9_value : okN MX9_value 0 := ⟨by decide, by decide, by decide +kernel⟩
theorem s_X9_term : Cond.selects yX9_term.cls yX9_term yX9_term ∈ TBg := tb_sel (q := (yX9_term, 36)) (by decide +kernel)
theorem okN_X9_term : okN MX9_term 0 := ⟨by decide, by decide, by decide +kernel⟩
theorem s_X9_sum : Cond.selects yX9_sum.cls yX9_sum yX9_sum ∈ TBg := tb_sel (q := (yX9_sum, 36)) (by decide +kernel)
theorem okN_X9_sum : okN MX9_sum 0 := ⟨by decide, by decide, by decide +kernel⟩
theorem s_X9_compare : Cond.selects yX9_compare.cls yX9_compare yX9_compare ∈ TBg := tb_sel (q := (yX9_compare, 36)) (by decide +kernel)
theorem okN_X9_compare : okN MX9_compare 0 := ⟨by decide, by decide, by decide +kernel⟩
theorem s_X9_fact : Cond.selects yX9_fact.cls yX9_fact yX9_fact ∈ TBg := tb_sel (q := (yX9_fact, 36)) (by decide +kernel)
theorem okN_X9_fact : okN MX9_fact 0 := ⟨by decide, by decide, by decide +kernel⟩
theorem okN_X9_strength : okN MX9_strength 1 := ⟨by decide, by decide, by decide +kernel⟩
theorem s_X9_settles : Cond.selects yX9_settles.cls yX9_settles yX9_settles ∈ TBg := tb_sel (q := (yX9_settles, 36)) (by decide +kernel)
theorem okN_X9_settles : okN MX9_settles 1 := ⟨by decide, by decide, by decide +kernel⟩
theorem s_X9_isInside : Cond.selects yX9_isInside.cls yX9_isInside yX9_isInside ∈ TBg := tb_sel (q := (yX9_isInside, 36)) (by decide +kernel)
theorem okN_X9_isInside : okN MX9_isInside 0 := ⟨by decide, by decide, by decide +kernel⟩
theorem s_X9_closes : Cond.selects yX9_closes.cls yX9_closes yX9_closes ∈ TBg := tb_sel (q := (yX9_closes, 36)) (by decide +kernel)
theorem okN_X9_closes : okN MX9_closes 0 := ⟨by decide, by decide, by decide +kernel⟩
theorem s_X9_tested : Cond.selects yX9_tested.cls yX9_tested yX9_tested ∈ TBg := tb_sel (q := (yX9_tested, 36)) (by decide +kernel)
theorem okN_X9_tested : okN MX9_tested 0 := ⟨by decide, by decide, by decide +kernel⟩
theorem s_X9_isDoingHere : Cond.selects yX9_isDoingHere.cls yX9_isDoingHere yX9_isDoingHere ∈ TBg := tb_sel (q := (yX9_isDoingHere, 36)) (by decide +kernel)
theorem okN_X9_isDoingHere : okN MX9_isDoingHere 1 := ⟨by decide, by decide, by decide +kernel⟩
theorem okN_X9_isOf : okN MX9_isOf 2 := ⟨by decide, by decide, by decide +kernel⟩
theorem s_X9_begins : Cond.selects yX9_begins.cls yX9_begins yX9_begins ∈ TBg := tb_sel (q := (yX9_begins, 36)) (by decide +kernel)
theorem okN_X9_begins : okN MX9_begins 0 := ⟨by decide, by decide, by decide +kernel⟩
theorem s_X9_isRule : Cond.selects yX9_isRule.cls yX9_isRule yX9_isRule ∈ TBg := tb_sel (q := (yX9_isRule, 36)) (by decide +kernel)
theorem okN_X9_isRule : okN MX9_isRule 1 := ⟨by decide, by decide, by decide +kernel⟩
theorem s_X9_clauseFor : Cond.selects yX9_clauseFor.cls yX9_clauseFor yX9_clauseFor ∈ TBg := tb_sel (q := (yX9_clauseFor, 36)) (by decide +kernel)
theorem okN_X9_clauseFor : okN MX9_clauseFor 2 := ⟨by decide, by decide, by decide +kernel⟩
theorem s_X9_stops : Cond.selects yX9_stops.cls yX9_stops yX9_stops ∈ TBg := tb_sel (q := (yX9_stops, 36)) (by decide +kernel)
theorem okN_X9_stops : okN MX9_stops 2 := ⟨by decide, by decide, by decide +kernel⟩
theorem s_X9_nextFor : Cond.selects yX9_nextFor.cls yX9_nextFor yX9_nextFor ∈ TBg := tb_sel (q := (yX9_nextFor, 36)) (by decide +kernel)
theorem okN_X9_nextFor : okN MX9_nextFor 1 := ⟨by decide, by decide, by decide +kernel⟩
theorem s_X9_draw : Cond.selects yX9_draw.cls yX9_draw yX9_draw ∈ TBg := tb_sel (q := (yX9_draw, 36)) (by decide +kernel)
theorem okN_X9_draw : okN MX9_draw 1 := ⟨by decide, by decide, by decide +kernel⟩
theorem s_X9_looks : Cond.selects yX9_looks.cls yX9_looks yX9_looks ∈ TBg := tb_sel (q := (yX9_looks, 36)) (by decide +kernel)
theorem okN_X9_looks : okN MX9_looks 1 := ⟨by decide, by decide, by decide +kernel⟩
theorem s_X9_passes : Cond.selects yX9_passes.cls yX9_passes yX9_passes ∈ TBg := tb_sel (q := (yX9_passes, 36)) (by decide +kernel)
theorem okN_X9_passes : okN MX9_passes 1 := ⟨by decide, by decide, by decide +kernel⟩
theorem s_X9_isFault : Cond.selects yX9_isFault.cls yX9_isFault yX9_isFault ∈ TBg := tb_sel (q := (yX9_isFault, 36)) (by decide +kernel)
theorem okN_X9_isFault : okN MX9_isFault 1 := ⟨by decide, by decide, by decide +kernel⟩
theorem s_X9_four : Cond.selects yX9_four.cls yX9_four yX9_four ∈ TBg := tb_sel (q := (yX9_four, 36)) (by decide +kernel)
theorem okN_X9_four : okN MX9_four 1 := ⟨by decide, by decide, by decide +kernel⟩
theorem s_X9_couldBe : Cond.selects yX9_couldBe.cls yX9_couldBe yX9_couldBe ∈ TBg := tb_sel (q := (yX9_couldBe, 36)) (by decide +kernel)
theorem okN_X9_couldBe : okN MX9_couldBe 2 := ⟨by decide, by decide, by decide +kernel⟩
theorem s_X9_comesOut : Cond.selects yX9_comesOut.cls yX9_comesOut yX9_comesOut ∈ TBg := tb_sel (q := (yX9_comesOut, 36)) (by decide +kernel)
theorem okN_X9_comesOut : okN MX9_comesOut 1 := ⟨by decide, by decide, by decide +kernel⟩
theorem s_X9_gameOf : Cond.selects yX9_gameOf.cls yX9_gameOf yX9_gameOf ∈ TBg := tb_sel (q := (yX9_gameOf, 36)) (by decide +kernel)
theorem okN_X9_gameOf : okN MX9_gameOf 1 := ⟨by decide, by decide, by decide +kernel⟩
theorem okN_X9_rests : okN MX9_rests 0 := ⟨by decide, by decide, by decide +kernel⟩
theorem s_X9_clauseHere : Cond.selects yX9_clauseHere.cls yX9_clauseHere yX9_clauseHere ∈ TBg := tb_sel (q := (yX9_clauseHere, 36)) (by decide +kernel)
theorem okN_X9_clauseHere : okN MX9_clauseHere 0 := ⟨by decide, by decide, by decide +kernel⟩
theorem s_X9_readsAll : Cond.selects yX9_readsAll.cls yX9_readsAll yX9_readsAll ∈ TBg := tb_sel (q := (yX9_readsAll, 36)) (by decide +kernel)
theorem okN_X9_readsAll : okN MX9_readsAll 0 := ⟨by decide, by decide, by decide +kernel⟩
theorem s_X9_meanOf : Cond.selects yX9_meanOf.cls yX9_meanOf yX9_meanOf ∈ TBg := tb_sel (q := (yX9_meanOf, 36)) (by decide +kernel)
theorem okN_X9_meanOf : okN MX9_meanOf 1 := ⟨by decide, by decide, by decide +kernel⟩
theorem okN_J7_fill_53178 : okN MJ7_fill_53178 2 := ⟨by decide, by decide, by decide +kernel⟩
theorem okN_X8_at : okN MX8_at 2 := ⟨by decide, by decide, by decide +kernel⟩
theorem okN_X8_put : okN MX8_put 3 := ⟨by decide, by decide, by decide +kernel⟩
theorem okN_X8_bit : okN MX8_bit 1 := ⟨by decide, by decide, by decide +kernel⟩
theorem okN_X7_isOpen : okN MX7_isOpen 2 := ⟨by decide, by decide, by decide +kernel⟩
theorem okN_X8_hundreds : okN MX8_hundreds 1 := ⟨by decide, by decide, by decide +kernel⟩
theorem okN_X1_mostEarned : okN MX1_mostEarned 4 := ⟨by decide, by decide, by decide +kernel⟩
theorem s_X1_earnedBy : Cond.selects yX1_earnedBy.cls yX1_earnedBy yX1_earnedBy ∈ TBg := tb_sel (q := (yX1_earnedBy, 4)) (by decide +kernel)
theorem okN_X1_earnedBy : okN MX1_earnedBy 5 := ⟨by decide, by decide, by decide +kernel⟩
theorem okN_X7_mostByOneLook : okN MX7_mostByOneLook 2 := ⟨by decide, by decide, by decide +kernel⟩
theorem okN_X1_choice : okN MX1_choice 4 := ⟨by decide, by decide, by decide +kernel⟩
theorem s_X1_hiddenMean : Cond.selects yX1_hiddenMean.cls yX1_hiddenMean yX1_hiddenMean ∈ TBg := tb_sel (q := (yX1_hiddenMean, 4)) (by decide +kernel)
theorem okN_X1_hiddenMean : okN MX1_hiddenMean 4 := ⟨by decide, by decide, by decide +kernel⟩
theorem okN_X8_has : okN MX8_has 2 := ⟨by decide, by decide, by decide +kernel⟩
theorem s_X7_together : Cond.selects yX7_together.cls yX7_together yX7_together ∈ TBg := tb_sel (q := (yX7_together, 18)) (by decide +kernel)
theorem okN_X7_together : okN MX7_together 2 := ⟨by decide, by decide, by decide +kernel⟩
theorem okN_X7_hiddenCoins : okN MX7_hiddenCoins 1 := ⟨by decide, by decide, by decide +kernel⟩
theorem okN_J6_bitCount_0f7a4 : okN MJ6_bitCount_0f7a4 1 := ⟨by decide, by decide, by decide +kernel⟩
theorem s_X1_leastFree : Cond.selects yX1_leastFree.cls yX1_leastFree yX1_leastFree ∈ TBg := tb_sel (q := (yX1_leastFree, 4)) (by decide +kernel)
theorem okN_X1_leastFree : okN MX1_leastFree 2 := ⟨by decide, by decide, by decide +kernel⟩
theorem okN_X7_mendingOf : okN MX7_mendingOf 1 := ⟨by decide, by decide, by decide +kernel⟩
theorem okN_X2_compares : okN MX2_compares 3 := ⟨by decide, by decide, by decide +kernel⟩
theorem okN_X2_wordOf : okN MX2_wordOf 4 := ⟨by decide, by decide, by decide +kernel⟩
theorem okN_X2_join : okN MX2_join 3 := ⟨by decide, by decide, by decide +kernel⟩
theorem s_X2_reckon : Cond.selects yX2_reckon.cls yX2_reckon yX2_reckon ∈ TBg := tb_sel (q := (yX2_reckon, 1)) (by decide +kernel)
theorem okN_X2_reckon : okN MX2_reckon 6 := ⟨by decide, by decide, by decide +kernel⟩
theorem okN_X0_gone : okN MX0_gone 0 := ⟨by decide, by decide, by decide +kernel⟩
theorem s_X2_lookClause : Cond.selects yX2_lookClause.cls yX2_lookClause yX2_lookClause ∈ TBg := tb_sel (q := (yX2_lookClause, 1)) (by decide +kernel)
theorem okN_X2_lookClause : okN MX2_lookClause 4 := ⟨by decide, by decide, by decide +kernel⟩
theorem s_X2_nextFault : Cond.selects yX2_nextFault.cls yX2_nextFault yX2_nextFault ∈ TBg := tb_sel (q := (yX2_nextFault, 1)) (by decide +kernel)
theorem okN_X2_nextFault : okN MX2_nextFault 3 := ⟨by decide, by decide, by decide +kernel⟩
theorem s_X2_stopsAt : Cond.selects yX2_stopsAt.cls yX2_stopsAt yX2_stopsAt ∈ TBg := tb_sel (q := (yX2_stopsAt, 1)) (by decide +kernel)
theorem okN_X2_stopsAt : okN MX2_stopsAt 4 := ⟨by decide, by decide, by decide +kernel⟩
theorem okN_X0_lookFor : okN MX0_lookFor 2 := ⟨by decide, by decide, by decide +kernel⟩
theorem okN_X6_step : okN MX6_step 0 := ⟨by decide, by decide, by decide +kernel⟩
theorem s_X4_readFact : Cond.selects yX4_readFact.cls yX4_readFact yX4_readFact ∈ TBg := tb_sel (q := (yX4_readFact, 8)) (by decide +kernel)
theorem okN_X4_readFact : okN MX4_readFact 1 := ⟨by decide, by decide, by decide +kernel⟩
theorem s_X4_emit : Cond.selects yX4_emit.cls yX4_emit yX4_emit ∈ TBg := tb_sel (q := (yX4_emit, 8)) (by decide +kernel)
theorem okN_X4_emit : okN MX4_emit 1 := ⟨by decide, by decide, by decide +kernel⟩
theorem s_X4_readTest : Cond.selects yX4_readTest.cls yX4_readTest yX4_readTest ∈ TBg := tb_sel (q := (yX4_readTest, 8)) (by decide +kernel)
theorem okN_X4_readTest : okN MX4_readTest 1 := ⟨by decide, by decide, by decide +kernel⟩
theorem okN_X6_fail : okN MX6_fail 1 := ⟨by decide, by decide, by decide +kernel⟩
theorem s_X4_readValue : Cond.selects yX4_readValue.cls yX4_readValue yX4_readValue ∈ TBg := tb_sel (q := (yX4_readValue, 8)) (by decide +kernel)
theorem okN_X4_readValue : okN MX4_readValue 0 := ⟨by decide, by decide, by decide +kernel⟩
theorem s_X4_readSum : Cond.selects yX4_readSum.cls yX4_readSum yX4_readSum ∈ TBg := tb_sel (q := (yX4_readSum, 8)) (by decide +kernel)
theorem okN_X4_readSum : okN MX4_readSum 0 := ⟨by decide, by decide, by decide +kernel⟩
theorem s_X4_readComparison : Cond.selects yX4_readComparison.cls yX4_readComparison yX4_readComparison ∈ TBg := tb_sel (q := (yX4_readComparison, 8)) (by decide +kernel)
theorem okN_X4_readComparison : okN MX4_readComparison 0 := ⟨by decide, by decide, by decide +kernel⟩
theorem okN_X0_begin : okN MX0_begin 1 := ⟨by decide, by decide, by decide +kernel⟩
theorem okN_X0_copyFrom : okN MX0_copyFrom 1 := ⟨by decide, by decide, by decide +kernel⟩
theorem okN_J0_length_8abf5 : okN MJ0_length_8abf5 0 := ⟨by decide, by decide, by decide +kernel⟩
theorem okN_J0_charAt_5068e : okN MJ0_charAt_5068e 1 := ⟨by decide, by decide, by decide +kernel⟩
theorem okN_X6_spells : okN MX6_spells 4 := ⟨by decide, by decide, by decide +kernel⟩
theorem okN_X6_isDigit : okN MX6_isDigit 1 := ⟨by decide, by decide, by decide +kernel⟩
theorem s_X6_addToken : Cond.selects yX6_addToken.cls yX6_addToken yX6_addToken ∈ TBg := tb_sel (q := (yX6_addToken, 9)) (by decide +kernel)
theorem okN_X6_addToken : okN MX6_addToken 3 := ⟨by decide, by decide, by decide +kernel⟩
theorem okN_X6_isLetter : okN MX6_isLetter 1 := ⟨by decide, by decide, by decide +kernel⟩
theorem okN_X6_clauseWord : okN MX6_clauseWord 3 := ⟨by decide, by decide, by decide +kernel⟩
theorem okN_X6_valueWord : okN MX6_valueWord 3 := ⟨by decide, by decide, by decide +kernel⟩
theorem s_X6_cutWord : Cond.selects yX6_cutWord.cls yX6_cutWord yX6_cutWord ∈ TBg := tb_sel (q := (yX6_cutWord, 9)) (by decide +kernel)
theorem okN_X6_cutWord : okN MX6_cutWord 3 := ⟨by decide, by decide, by decide +kernel⟩
theorem s_X6_cutNumber : Cond.selects yX6_cutNumber.cls yX6_cutNumber yX6_cutNumber ∈ TBg := tb_sel (q := (yX6_cutNumber, 9)) (by decide +kernel)
theorem okN_X6_cutNumber : okN MX6_cutNumber 3 := ⟨by decide, by decide, by decide +kernel⟩
theorem s_X6_cutToken : Cond.selects yX6_cutToken.cls yX6_cutToken yX6_cutToken ∈ TBg := tb_sel (q := (yX6_cutToken, 9)) (by decide +kernel)
theorem okN_X6_cutToken : okN MX6_cutToken 3 := ⟨by decide, by decide, by decide +kernel⟩
theorem okN_X6_takeNumber : okN MX6_takeNumber 2 := ⟨by decide, by decide, by decide +kernel⟩
theorem s_X7_readFault : Cond.selects yX7_readFault.cls yX7_readFault yX7_readFault ∈ TBg := tb_sel (q := (yX7_readFault, 18)) (by decide +kernel)
theorem okN_X7_readFault : okN MX7_readFault 1 := ⟨by decide, by decide, by decide +kernel⟩
theorem s_X7_readKind : Cond.selects yX7_readKind.cls yX7_readKind yX7_readKind ∈ TBg := tb_sel (q := (yX7_readKind, 18)) (by decide +kernel)
theorem okN_X7_readKind : okN MX7_readKind 1 := ⟨by decide, by decide, by decide +kernel⟩
theorem s_X7_readClause : Cond.selects yX7_readClause.cls yX7_readClause yX7_readClause ∈ TBg := tb_sel (q := (yX7_readClause, 18)) (by decide +kernel)
theorem okN_X7_readClause : okN MX7_readClause 2 := ⟨by decide, by decide, by decide +kernel⟩
theorem okN_X6_anotherClause : okN MX6_anotherClause 0 := ⟨by decide, by decide, by decide +kernel⟩
theorem s_X7_orderLooks : Cond.selects yX7_orderLooks.cls yX7_orderLooks yX7_orderLooks ∈ TBg := tb_sel (q := (yX7_orderLooks, 18)) (by decide +kernel)
theorem okN_X7_orderLooks : okN MX7_orderLooks 0 := ⟨by decide, by decide, by decide +kernel⟩
theorem okN_X5_copyFrom : okN MX5_copyFrom 1 := ⟨by decide, by decide, by decide +kernel⟩
theorem s_X8_hasWork : Cond.selects yX8_hasWork.cls yX8_hasWork yX8_hasWork ∈ TBg := tb_sel (q := (yX8_hasWork, 11)) (by decide +kernel)
theorem okN_X8_hasWork : okN MX8_hasWork 0 := ⟨by decide, by decide, by decide +kernel⟩
theorem okN_X8_partOf : okN MX8_partOf 3 := ⟨by decide, by decide, by decide +kernel⟩
theorem s_X8_ruleForWork : Cond.selects yX8_ruleForWork.cls yX8_ruleForWork yX8_ruleForWork ∈ TBg := tb_sel (q := (yX8_ruleForWork, 11)) (by decide +kernel)
theorem okN_X8_ruleForWork : okN MX8_ruleForWork 1 := ⟨by decide, by decide, by decide +kernel⟩
theorem okN_X2_play : okN MX2_play 3 := ⟨by decide, by decide, by decide +kernel⟩
theorem s_X8_isFault : Cond.selects yX8_isFault.cls yX8_isFault yX8_isFault ∈ TBg := tb_sel (q := (yX8_isFault, 11)) (by decide +kernel)
theorem okN_X8_isFault : okN MX8_isFault 1 := ⟨by decide, by decide, by decide +kernel⟩
theorem s_X8_putBytes : Cond.selects yX8_putBytes.cls yX8_putBytes yX8_putBytes ∈ TBg := tb_sel (q := (yX8_putBytes, 11)) (by decide +kernel)
theorem okN_X8_putBytes : okN MX8_putBytes 1 := ⟨by decide, by decide, by decide +kernel⟩
theorem okN_X7_payOf : okN MX7_payOf 1 := ⟨by decide, by decide, by decide +kernel⟩
theorem okN_X7_couldBeFound : okN MX7_couldBeFound 2 := ⟨by decide, by decide, by decide +kernel⟩
theorem okN_X5_init : okN MX5_init 1 := ⟨by decide, by decide, by decide +kernel⟩
theorem okN_X1_weighSets : okN MX1_weighSets 4 := ⟨by decide, by decide, by decide +kernel⟩
theorem okN_X8_rests : okN MX8_rests 0 := ⟨by decide, by decide, by decide +kernel⟩
theorem s_X8_rowMean : Cond.selects yX8_rowMean.cls yX8_rowMean yX8_rowMean ∈ TBg := tb_sel (q := (yX8_rowMean, 11)) (by decide +kernel)
theorem okN_X8_rowMean : okN MX8_rowMean 4 := ⟨by decide, by decide, by decide +kernel⟩
theorem okN_X6_open : okN MX6_open 2 := ⟨by decide, by decide, by decide +kernel⟩
theorem okN_X4_start : okN MX4_start 0 := ⟨by decide, by decide, by decide +kernel⟩
theorem okN_X4_readClause : okN MX4_readClause 0 := ⟨by decide, by decide, by decide +kernel⟩
theorem okN_X4_makeRule : okN MX4_makeRule 0 := ⟨by decide, by decide, by decide +kernel⟩
theorem okN_X7_init : okN MX7_init 1 := ⟨by decide, by decide, by decide +kernel⟩
theorem okN_X7_readFrom : okN MX7_readFrom 1 := ⟨by decide, by decide, by decide +kernel⟩
theorem okN_X5_beginWork : okN MX5_beginWork 1 := ⟨by decide, by decide, by decide +kernel⟩
theorem okN_J7_copyOf_59c91 : okN MJ7_copyOf_59c91 2 := ⟨by decide, by decide, by decide +kernel⟩
theorem okN_X3_init : okN MX3_init 5 := ⟨by decide, by decide, by decide +kernel⟩
theorem okN_J3_checkIndex_8e157 : okN MJ3_checkIndex_8e157 3 := ⟨by decide, by decide, by decide +kernel⟩
theorem okN_J0_checkIndex_df160 : okN MJ0_checkIndex_df160 2 := ⟨by decide, by decide, by decide +kernel⟩
theorem okN_J0_coder_7d493 : okN MJ0_coder_7d493 0 := ⟨by decide, by decide, by decide +kernel⟩
theorem okN_J0_isLatin1_aae02 : okN MJ0_isLatin1_aae02 0 := ⟨by decide, by decide, by decide +kernel⟩
theorem okN_J1_charAt_3b067 : okN MJ1_charAt_3b067 2 := ⟨by decide, by decide, by decide +kernel⟩
theorem lk_I_5_17 : LkI RX5 17 MX0_init := ⟨t_128, t_4, t_126, t_127, rfl, rfl⟩
theorem lk_S_9_118 : LkS RX9 118 MX9_in := ⟨t_1068, t_9, t_1066, t_1067⟩
theorem lk_V_9_301 : LkV RX9 301 MX9_isWork := ⟨t_1197, t_9, t_1194, t_1196, s_X9_isWork⟩
theorem lk_V_9_343 : LkV RX9 343 MX9_keeps := ⟨t_1274, t_9, t_1271, t_1273, s_X9_keeps⟩
theorem lk_V_9_268 : LkV RX9 268 MX9_faultOf := ⟨t_1161, t_9, t_1158, t_1160, s_X9_faultOf⟩
theorem lk_V_9_275 : LkV RX9 275 MX9_kindOf := ⟨t_1189, t_9, t_1186, t_1188, s_X9_kindOf⟩
theorem lk_V_9_307 : LkV RX9 307 MX9_hidden := ⟨t_1211, t_9, t_1208, t_1210, s_X9_hidden⟩
theorem lk_V_9_367 : LkV RX9 367 MX9_hundreds := ⟨t_1303, t_9, t_1300, t_1302, s_X9_hundreds⟩
theorem lk_V_9_378 : LkV RX9 378 MX9_comesTo := ⟨t_1327, t_9, t_1324, t_1326, s_X9_comesTo⟩
theorem lk_V_9_374 : LkV RX9 374 MX9_triesAs := ⟨t_1339, t_9, t_1336, t_1338, s_X9_triesAs⟩
theorem lk_V_9_384 : LkV RX9 384 MX9_takes := ⟨t_1335, t_9, t_1332, t_1334, s_X9_takes⟩
theorem lk_V_9_272 : LkV RX9 272 MX9_isOpen := ⟨t_1165, t_9, t_1162, t_1164, s_X9_isOpen⟩
theorem lk_V_9_295 : LkV RX9 295 MX9_canLook := ⟨t_1173, t_9, t_1170, t_1172, s_X9_canLook⟩
theorem lk_V_9_381 : LkV RX9 381 MX9_triesNext := ⟨t_1331, t_9, t_1328, t_1330, s_X9_triesNext⟩
theorem lk_V_9_390 : LkV RX9 390 MX9_goesThrough := ⟨t_1323, t_9, t_1320, t_1322, s_X9_goesThrough⟩
theorem lk_V_9_346 : LkV RX9 346 MX9_putsBack := ⟨t_1278, t_9, t_1275, t_1277, s_X9_putsBack⟩
theorem lk_S_9_358 : LkS RX9 358 MX9_divisor := ⟨t_1310, t_9, t_1308, t_1309⟩
theorem lk_V_9_370 : LkV RX9 370 MX9_partOf := ⟨t_1307, t_9, t_1304, t_1306, s_X9_partOf⟩
theorem lk_V_9_313 : LkV RX9 313 MX9_thatAre := ⟨t_1243, t_9, t_1240, t_1242, s_X9_thatAre⟩
theorem lk_S_9_316 : LkS RX9 316 MX9_bits := ⟨t_1246, t_9, t_1244, t_1245⟩
theorem lk_V_9_319 : LkV RX9 319 MX9_words := ⟨t_1239, t_9, t_1236, t_1238, s_X9_words⟩
theorem lk_V_9_260 : LkV RX9 260 MX9_pop := ⟨t_1258, t_9, t_1255, t_1257, s_X9_pop⟩
theorem lk_S_9_264 : LkS RX9 264 MX9_one := ⟨t_1261, t_9, t_1259, t_1260⟩
theorem lk_V_9_256 : LkV RX9 256 MX9_push := ⟨t_1254, t_9, t_1251, t_1253, s_X9_push⟩
theorem lk_V_9_322 : LkV RX9 322 MX9_reckons := ⟨t_1250, t_9, t_1247, t_1249, s_X9_reckons⟩
theorem lk_V_9_93 : LkV RX9 93 MX9_see := ⟨t_1019, t_9, t_1016, t_1018, s_X9_see⟩
theorem lk_V_9_97 : LkV RX9 97 MX9_isLetter := ⟨t_1028, t_9, t_1025, t_1027, s_X9_isLetter⟩
theorem lk_V_9_101 : LkV RX9 101 MX9_isWord := ⟨t_1024, t_9, t_1021, t_1023, s_X9_isWord⟩
theorem lk_V_9_105 : LkV RX9 105 MX9_passWord := ⟨t_1044, t_9, t_1041, t_1043, s_X9_passWord⟩
theorem lk_V_9_108 : LkV RX9 108 MX9_isDigit := ⟨t_1060, t_9, t_1057, t_1059, s_X9_isDigit⟩
theorem lk_V_9_111 : LkV RX9 111 MX9_fails := ⟨t_1036, t_9, t_1033, t_1035, s_X9_fails⟩
theorem lk_V_9_161 : LkV RX9 161 MX9_numberHere := ⟨t_1065, t_9, t_1062, t_1064, s_X9_numberHere⟩
theorem lk_V_9_206 : LkV RX9 206 MX9_takesWord := ⟨t_1092, t_9, t_1089, t_1091, s_X9_takesWord⟩
theorem lk_V_9_241 : LkV RX9 241 MX9_isFaultHere := ⟨t_1138, t_9, t_1135, t_1137, s_X9_isFaultHere⟩
theorem lk_V_9_238 : LkV RX9 238 MX9_isKindHere := ⟨t_1134, t_9, t_1131, t_1133, s_X9_isKindHere⟩
theorem lk_V_9_235 : LkV RX9 235 MX9_isTimeHere := ⟨t_1130, t_9, t_1127, t_1129, s_X9_isTimeHere⟩
theorem lk_V_9_182 : LkV RX9 182 MX9_opens := ⟨t_1105, t_9, t_1102, t_1104, s_X9_opens⟩
theorem lk_V_9_167 : LkV RX9 167 MX9_wordHere := ⟨t_1080, t_9, t_1077, t_1079, s_X9_wordHere⟩
theorem lk_V_9_164 : LkV RX9 164 MX9_makes := ⟨t_1072, t_9, t_1069, t_1071, s_X9_makes⟩
theorem lk_V_9_156 : LkV RX9 156 MX9_puts := ⟨t_1076, t_9, t_1073, t_1075, s_X9_puts⟩
theorem lk_V_9_170 : LkV RX9 170 MX9_value := ⟨t_1056, t_9, t_1053, t_1055, s_X9_value⟩
theorem lk_V_9_174 : LkV RX9 174 MX9_term := ⟨t_1052, t_9, t_1049, t_1051, s_X9_term⟩
theorem lk_V_9_177 : LkV RX9 177 MX9_sum := ⟨t_1048, t_9, t_1045, t_1047, s_X9_sum⟩
theorem lk_V_9_185 : LkV RX9 185 MX9_compare := ⟨t_1109, t_9, t_1106, t_1108, s_X9_compare⟩
theorem lk_V_9_194 : LkV RX9 194 MX9_fact := ⟨t_1100, t_9, t_1097, t_1099, s_X9_fact⟩
theorem lk_S_9_152 : LkS RX9 152 MX9_strength := ⟨t_1120, t_9, t_1118, t_1119⟩
theorem lk_V_9_188 : LkV RX9 188 MX9_settles := ⟨t_1117, t_9, t_1114, t_1116, s_X9_settles⟩
theorem lk_V_9_191 : LkV RX9 191 MX9_isInside := ⟨t_1124, t_9, t_1121, t_1123, s_X9_isInside⟩
theorem lk_V_9_197 : LkV RX9 197 MX9_closes := ⟨t_1113, t_9, t_1110, t_1112, s_X9_closes⟩
theorem lk_V_9_209 : LkV RX9 209 MX9_tested := ⟨t_1096, t_9, t_1093, t_1095, s_X9_tested⟩
theorem lk_V_9_232 : LkV RX9 232 MX9_isDoingHere := ⟨t_1040, t_9, t_1037, t_1039, s_X9_isDoingHere⟩
theorem lk_S_9_349 : LkS RX9 349 MX9_isOf := ⟨t_1298, t_9, t_1296, t_1297⟩
theorem lk_V_9_310 : LkV RX9 310 MX9_begins := ⟨t_1215, t_9, t_1212, t_1214, s_X9_begins⟩
theorem lk_V_9_335 : LkV RX9 335 MX9_isRule := ⟨t_1223, t_9, t_1220, t_1222, s_X9_isRule⟩
theorem lk_V_9_326 : LkV RX9 326 MX9_clauseFor := ⟨t_1235, t_9, t_1232, t_1234, s_X9_clauseFor⟩
theorem lk_V_9_329 : LkV RX9 329 MX9_stops := ⟨t_1265, t_9, t_1262, t_1264, s_X9_stops⟩
theorem lk_V_9_332 : LkV RX9 332 MX9_nextFor := ⟨t_1231, t_9, t_1228, t_1230, s_X9_nextFor⟩
theorem lk_V_9_292 : LkV RX9 292 MX9_draw := ⟨t_1181, t_9, t_1178, t_1180, s_X9_draw⟩
theorem lk_V_9_298 : LkV RX9 298 MX9_looks := ⟨t_1177, t_9, t_1174, t_1176, s_X9_looks⟩
theorem lk_V_9_338 : LkV RX9 338 MX9_passes := ⟨t_1227, t_9, t_1224, t_1226, s_X9_passes⟩
theorem lk_V_9_280 : LkV RX9 280 MX9_isFault := ⟨t_1156, t_9, t_1153, t_1155, s_X9_isFault⟩
theorem lk_V_9_83 : LkV RX9 83 MX9_four := ⟨t_999, t_9, t_996, t_998, s_X9_four⟩
theorem lk_V_9_409 : LkV RX9 409 MX9_couldBe := ⟨t_1377, t_9, t_1374, t_1376, s_X9_couldBe⟩
theorem lk_V_9_354 : LkV RX9 354 MX9_comesOut := ⟨t_1295, t_9, t_1292, t_1294, s_X9_comesOut⟩
theorem lk_V_9_401 : LkV RX9 401 MX9_gameOf := ⟨t_1359, t_9, t_1356, t_1358, s_X9_gameOf⟩
theorem lk_V_9_404 : LkV RX9 404 MX9_rests := ⟨t_1355, t_9, t_1364, t_1353, t_1354⟩
theorem lk_V_9_244 : LkV RX9 244 MX9_clauseHere := ⟨t_1015, t_9, t_1012, t_1014, s_X9_clauseHere⟩
theorem lk_V_9_250 : LkV RX9 250 MX9_readsAll := ⟨t_1011, t_9, t_1008, t_1010, s_X9_readsAll⟩
theorem lk_V_9_364 : LkV RX9 364 MX9_meanOf := ⟨t_1291, t_9, t_1288, t_1290, s_X9_meanOf⟩
theorem lk_S_0_37 : LkS RX0 37 MJ7_fill_53178 := ⟨t_509, t_15, t_507, t_508⟩
theorem lk_N_0_48 : LkN RX0 48 MX8_at := ⟨t_363, t_1, t_362, by decide +kernel⟩
theorem lk_N_0_52 : LkN RX0 52 MX8_put := ⟨t_344, t_1, t_343, by decide +kernel⟩
theorem lk_N_0_66 : LkN RX0 66 MX8_bit := ⟨t_657, t_1, t_656, by decide +kernel⟩
theorem lk_N_1_55 : LkN RX1 55 MX8_at := ⟨t_363, t_1, t_362, by decide +kernel⟩
theorem lk_V_1_59 : LkV RX1 59 MX7_isOpen := ⟨t_625, t_3, t_797, t_623, t_624⟩
theorem lk_N_1_71 : LkN RX1 71 MX8_hundreds := ⟨t_761, t_1, t_760, by decide +kernel⟩
theorem lk_N_1_75 : LkN RX1 75 MX8_bit := ⟨t_657, t_1, t_656, by decide +kernel⟩
theorem lk_V_1_79 : LkV RX1 79 MX1_mostEarned := ⟨t_783, t_8, t_780, t_781, t_782⟩
theorem lk_V_1_43 : LkV RX1 43 MX1_earnedBy := ⟨t_795, t_8, t_792, t_794, s_X1_earnedBy⟩
theorem lk_N_7_78 : LkN RX7 78 MX8_at := ⟨t_363, t_1, t_362, by decide +kernel⟩
theorem lk_V_7_118 : LkV RX7 118 MX7_isOpen := ⟨t_625, t_3, t_788, t_623, t_624⟩
theorem lk_V_1_18 : LkV RX1 18 MX7_mostByOneLook := ⟨t_787, t_3, t_784, t_785, t_786⟩
theorem lk_V_1_83 : LkV RX1 83 MX1_choice := ⟨t_779, t_8, t_824, t_777, t_778⟩
theorem lk_V_1_90 : LkV RX1 90 MX1_hiddenMean := ⟨t_823, t_8, t_820, t_822, s_X1_hiddenMean⟩
theorem lk_N_7_125 : LkN RX7 125 MX8_has := ⟨t_617, t_1, t_616, by decide +kernel⟩
theorem lk_V_7_122 : LkV RX7 122 MX7_together := ⟨t_682, t_3, t_679, t_681, s_X7_together⟩
theorem lk_V_1_87 : LkV RX1 87 MX7_hiddenCoins := ⟨t_678, t_3, t_825, t_676, t_677⟩
theorem lk_S_1_107 : LkS RX1 107 MJ6_bitCount_0f7a4 := ⟨t_632, t_18, t_818, t_631⟩
theorem lk_N_1_112 : LkN RX1 112 MX8_has := ⟨t_617, t_1, t_616, by decide +kernel⟩
theorem lk_V_1_93 : LkV RX1 93 MX1_leastFree := ⟨t_817, t_8, t_814, t_816, s_X1_leastFree⟩
theorem lk_V_1_104 : LkV RX1 104 MX7_mendingOf := ⟨t_829, t_3, t_826, t_827, t_828⟩
theorem lk_S_2_117 : LkS RX2 117 MX2_compares := ⟨t_726, t_7, t_724, t_725⟩
theorem lk_N_2_47 : LkN RX2 47 MX8_at := ⟨t_363, t_1, t_362, by decide +kernel⟩
theorem lk_S_2_105 : LkS RX2 105 MJ6_bitCount_0f7a4 := ⟨t_632, t_18, t_720, t_631⟩
theorem lk_S_2_85 : LkS RX2 85 MX2_wordOf := ⟨t_719, t_7, t_717, t_718⟩
theorem lk_S_2_89 : LkS RX2 89 MX2_join := ⟨t_723, t_7, t_721, t_722⟩
theorem lk_V_2_69 : LkV RX2 69 MX2_reckon := ⟨t_715, t_7, t_712, t_714, s_X2_reckon⟩
theorem lk_V_2_35 : LkV RX2 35 MX0_gone := ⟨t_621, t_4, t_705, t_619, t_620⟩
theorem lk_V_2_39 : LkV RX2 39 MX7_isOpen := ⟨t_625, t_3, t_706, t_623, t_624⟩
theorem lk_V_2_54 : LkV RX2 54 MX2_lookClause := ⟨t_711, t_7, t_708, t_710, s_X2_lookClause⟩
theorem lk_V_2_15 : LkV RX2 15 MX2_nextFault := ⟨t_704, t_7, t_701, t_703, s_X2_nextFault⟩
theorem lk_V_2_19 : LkV RX2 19 MX2_stopsAt := ⟨t_730, t_7, t_727, t_729, s_X2_stopsAt⟩
theorem lk_V_2_23 : LkV RX2 23 MX0_lookFor := ⟨t_648, t_4, t_731, t_646, t_647⟩
theorem lk_V_4_72 : LkV RX4 72 MX6_step := ⟨t_459, t_6, t_524, t_457, t_458⟩
theorem lk_N_4_75 : LkN RX4 75 MX8_put := ⟨t_344, t_1, t_343, by decide +kernel⟩
theorem lk_V_4_88 : LkV RX4 88 MX4_readFact := ⟨t_545, t_5, t_542, t_544, s_X4_readFact⟩
theorem lk_V_4_91 : LkV RX4 91 MX4_emit := ⟨t_537, t_5, t_534, t_536, s_X4_emit⟩
theorem lk_V_4_85 : LkV RX4 85 MX4_readTest := ⟨t_541, t_5, t_538, t_540, s_X4_readTest⟩
theorem lk_V_4_68 : LkV RX4 68 MX6_fail := ⟨t_471, t_6, t_523, t_469, t_470⟩
theorem lk_V_4_97 : LkV RX4 97 MX4_readValue := ⟨t_533, t_5, t_530, t_532, s_X4_readValue⟩
theorem lk_V_4_79 : LkV RX4 79 MX4_readSum := ⟨t_529, t_5, t_526, t_528, s_X4_readSum⟩
theorem lk_V_4_94 : LkV RX4 94 MX4_readComparison := ⟨t_549, t_5, t_546, t_548, s_X4_readComparison⟩
theorem lk_V_5_57 : LkV RX5 57 MX0_begin := ⟨t_506, t_4, t_503, t_504, t_505⟩
theorem lk_V_5_29 : LkV RX5 29 MX0_copyFrom := ⟨t_739, t_4, t_870, t_737, t_738⟩
theorem lk_V_6_39 : LkV RX6 39 MX6_step := ⟨t_459, t_6, t_456, t_457, t_458⟩
theorem lk_V_6_121 : LkV RX6 121 MX6_fail := ⟨t_471, t_6, t_477, t_469, t_470⟩
theorem lk_V_6_102 : LkV RX6 102 MJ0_length_8abf5 := ⟨t_392, t_10, t_389, t_390, t_391⟩
theorem lk_N_6_42 : LkN RX6 42 MX8_at := ⟨t_363, t_1, t_362, by decide +kernel⟩
theorem lk_V_6_108 : LkV RX6 108 MJ0_charAt_5068e := ⟨t_402, t_10, t_399, t_400, t_401⟩
theorem lk_S_6_67 : LkS RX6 67 MX6_spells := ⟨t_388, t_6, t_386, t_387⟩
theorem lk_S_6_46 : LkS RX6 46 MX6_isDigit := ⟨t_366, t_6, t_364, t_365⟩
theorem lk_V_6_29 : LkV RX6 29 MX6_addToken := ⟨t_374, t_6, t_371, t_373, s_X6_addToken⟩
theorem lk_S_6_53 : LkS RX6 53 MX6_isLetter := ⟨t_377, t_6, t_375, t_376⟩
theorem lk_S_6_59 : LkS RX6 59 MX6_clauseWord := ⟨t_384, t_6, t_382, t_383⟩
theorem lk_S_6_62 : LkS RX6 62 MX6_valueWord := ⟨t_446, t_6, t_444, t_445⟩
theorem lk_V_6_56 : LkV RX6 56 MX6_cutWord := ⟨t_381, t_6, t_378, t_380, s_X6_cutWord⟩
theorem lk_V_6_50 : LkV RX6 50 MX6_cutNumber := ⟨t_370, t_6, t_367, t_369, s_X6_cutNumber⟩
theorem lk_V_6_25 : LkV RX6 25 MX6_cutToken := ⟨t_360, t_6, t_357, t_359, s_X6_cutToken⟩
theorem lk_N_7_88 : LkN RX7 88 MX8_put := ⟨t_344, t_1, t_343, by decide +kernel⟩
theorem lk_V_7_68 : LkV RX7 68 MX6_fail := ⟨t_471, t_6, t_468, t_469, t_470⟩
theorem lk_V_7_102 : LkV RX7 102 MX6_step := ⟨t_459, t_6, t_472, t_457, t_458⟩
theorem lk_V_7_105 : LkV RX7 105 MX6_takeNumber := ⟨t_476, t_6, t_473, t_474, t_475⟩
theorem lk_V_7_112 : LkV RX7 112 MX7_readFault := ⟨t_486, t_3, t_483, t_485, s_X7_readFault⟩
theorem lk_V_7_108 : LkV RX7 108 MX7_readKind := ⟨t_481, t_3, t_478, t_480, s_X7_readKind⟩
theorem lk_V_7_55 : LkV RX7 55 MX7_readClause := ⟨t_467, t_3, t_464, t_466, s_X7_readClause⟩
theorem lk_V_7_59 : LkV RX7 59 MX6_anotherClause := ⟨t_491, t_6, t_488, t_489, t_490⟩
theorem lk_V_7_72 : LkV RX7 72 MX7_orderLooks := ⟨t_495, t_3, t_492, t_494, s_X7_orderLooks⟩
theorem lk_V_8_300 : LkV RX8 300 MX5_copyFrom := ⟨t_869, t_2, t_866, t_867, t_868⟩
theorem lk_V_8_213 : LkV RX8 213 MX8_hasWork := ⟨t_665, t_1, t_662, t_664, s_X8_hasWork⟩
theorem lk_V_8_171 : LkV RX8 171 MX0_gone := ⟨t_621, t_4, t_618, t_619, t_620⟩
theorem lk_V_8_266 : LkV RX8 266 MX1_mostEarned := ⟨t_783, t_8, t_804, t_781, t_782⟩
theorem lk_S_8_249 : LkS RX8 249 MX8_hundreds := ⟨t_761, t_1, t_759, t_760⟩
theorem lk_S_8_253 : LkS RX8 253 MX8_partOf := ⟨t_764, t_1, t_762, t_763⟩
theorem lk_V_8_262 : LkV RX8 262 MX1_choice := ⟨t_779, t_8, t_776, t_777, t_778⟩
theorem lk_S_8_181 : LkS RX8 181 MJ6_bitCount_0f7a4 := ⟨t_632, t_18, t_630, t_631⟩
theorem lk_V_8_222 : LkV RX8 222 MX7_hiddenCoins := ⟨t_678, t_3, t_675, t_676, t_677⟩
theorem lk_V_8_225 : LkV RX8 225 MX0_begin := ⟨t_506, t_4, t_684, t_504, t_505⟩
theorem lk_V_8_228 : LkV RX8 228 MX8_ruleForWork := ⟨t_696, t_1, t_693, t_695, s_X8_ruleForWork⟩
theorem lk_V_8_232 : LkV RX8 232 MX2_play := ⟨t_700, t_7, t_697, t_698, t_699⟩
theorem lk_V_8_139 : LkV RX8 139 MX8_isFault := ⟨t_614, t_1, t_611, t_613, s_X8_isFault⟩
theorem lk_S_8_129 : LkS RX8 129 MX8_at := ⟨t_363, t_1, t_606, t_362⟩
theorem lk_S_8_161 : LkS RX8 161 MX8_has := ⟨t_617, t_1, t_615, t_616⟩
theorem lk_V_8_175 : LkV RX8 175 MX7_isOpen := ⟨t_625, t_3, t_622, t_623, t_624⟩
theorem lk_S_8_78 : LkS RX8 78 MX8_put := ⟨t_344, t_1, t_342, t_343⟩
theorem lk_V_8_75 : LkV RX8 75 MX8_putBytes := ⟨t_341, t_1, t_338, t_340, s_X8_putBytes⟩
theorem lk_S_8_216 : LkS RX8 216 MX8_bit := ⟨t_657, t_1, t_670, t_656⟩
theorem lk_V_8_294 : LkV RX8 294 MX7_payOf := ⟨t_857, t_3, t_854, t_855, t_856⟩
theorem lk_V_8_297 : LkV RX8 297 MX7_couldBeFound := ⟨t_861, t_3, t_858, t_859, t_860⟩
theorem lk_I_8_36 : LkI RX8 36 MX5_init := ⟨t_122, t_2, t_120, t_121, rfl, rfl⟩
theorem lk_V_8_209 : LkV RX8 209 MX0_lookFor := ⟨t_648, t_4, t_645, t_646, t_647⟩
theorem lk_V_8_272 : LkV RX8 272 MX1_weighSets := ⟨t_813, t_8, t_810, t_811, t_812⟩
theorem lk_V_8_286 : LkV RX8 286 MX8_rests := ⟨t_837, t_1, t_842, t_835, t_836⟩
theorem lk_V_8_245 : LkV RX8 245 MX8_rowMean := ⟨t_757, t_1, t_754, t_756, s_X8_rowMean⟩
theorem lk_V_8_86 : LkV RX8 86 MX6_open := ⟨t_356, t_6, t_353, t_354, t_355⟩
theorem lk_V_8_105 : LkV RX8 105 MX4_start := ⟨t_518, t_5, t_515, t_516, t_517⟩
theorem lk_V_8_108 : LkV RX8 108 MX4_readClause := ⟨t_522, t_5, t_519, t_520, t_521⟩
theorem lk_V_8_111 : LkV RX8 111 MX6_anotherClause := ⟨t_491, t_6, t_550, t_489, t_490⟩
theorem lk_V_8_115 : LkV RX8 115 MX4_makeRule := ⟨t_554, t_5, t_551, t_552, t_553⟩
theorem lk_V_8_236 : LkV RX8 236 MX0_copyFrom := ⟨t_739, t_4, t_736, t_737, t_738⟩
theorem lk_I_8_33 : LkI RX8 33 MX7_init := ⟨t_35, t_3, t_33, t_34, rfl, rfl⟩
theorem lk_V_8_92 : LkV RX8 92 MX7_readFrom := ⟨t_463, t_3, t_460, t_461, t_462⟩
theorem lk_V_8_99 : LkV RX8 99 MX5_beginWork := ⟨t_502, t_2, t_499, t_500, t_501⟩
theorem lk_S_4_52 : LkS RX4 52 MJ7_copyOf_59c91 := ⟨t_563, t_15, t_561, t_562⟩
theorem lk_I_4_63 : LkI RX4 63 MX3_init := ⟨t_579, t_16, t_577, t_578, rfl, rfl⟩
theorem lk_S_J0_1059 : LkS RJ0 1059 MJ3_checkIndex_8e157 := ⟨t_417, t_12, t_415, t_416⟩
theorem lk_S_J1_9 : LkS RJ1 9 MJ0_checkIndex_df160 := ⟨t_412, t_10, t_410, t_411⟩
theorem lk_V_J0_335 : LkV RJ0 335 MJ0_coder_7d493 := ⟨t_396, t_10, t_393, t_394, t_395⟩
theorem lk_V_J0_492 : LkV RJ0 492 MJ0_isLatin1_aae02 := ⟨t_406, t_10, t_403, t_404, t_405⟩
theorem lk_S_J0_495 : LkS RJ0 495 MJ1_charAt_3b067 := ⟨t_409, t_11, t_407, t_408⟩
theorem iX0 : ∀ w ∈ u_ws RX0 TX0 6, w ∈ TBg := by
  intro w hw
  obtain ⟨k, hk, rfl⟩ := List.mem_map.mp hw
  have hk := List.mem_range.mp hk
  match k, hk with
  | 0, _ => exact t_147
  | 1, _ => exact t_149
  | 2, _ => exact t_151
  | 3, _ => exact t_153
  | 4, _ => exact t_155
  | 5, _ => exact t_157
  | k + 6, hk => exact absurd hk (by omega)
theorem dfX0 : ∀ j, j < 6 → defaultValue (tyX0 j) = vp_V [.int 0, .int 0, .int 0, .int 0, .int 0, .null] j := by
  intro j hj
  match j, hj with
  | 0, _ => rfl
  | 1, _ => rfl
  | 2, _ => rfl
  | 3, _ => rfl
  | 4, _ => rfl
  | 5, _ => rfl
  | j + 6, hj => exact absurd hj (by omega)
theorem iX1 : ∀ w ∈ u_ws RX1 TX1 4, w ∈ TBg := by
  intro w hw
  obtain ⟨k, hk, rfl⟩ := List.mem_map.mp hw
  have hk := List.mem_range.mp hk
  match k, hk with
  | 0, _ => exact t_291
  | 1, _ => exact t_293
  | 2, _ => exact t_295
  | 3, _ => exact t_297
  | k + 4, hk => exact absurd hk (by omega)
theorem dfX1 : ∀ j, j < 4 → defaultValue (tyX1 j) = vp_V [.null, .null, .int 0, .long 0] j := by
  intro j hj
  match j, hj with
  | 0, _ => rfl
  | 1, _ => rfl
  | 2, _ => rfl
  | 3, _ => rfl
  | j + 4, hj => exact absurd hj (by omega)
theorem iX2 : ∀ w ∈ u_ws RX2 TX2 1, w ∈ TBg := by
  intro w hw
  obtain ⟨k, hk, rfl⟩ := List.mem_map.mp hw
  have hk := List.mem_range.mp hk
  match k, hk with
  | 0, _ => exact t_275
  | k + 1, hk => exact absurd hk (by omega)
theorem dfX2 : ∀ j, j < 1 → defaultValue (tyX2 j) = vp_V [.null] j := by
  intro j hj
  match j, hj with
  | 0, _ => rfl
  | j + 1, hj => exact absurd hj (by omega)
theorem iX3 : ∀ w ∈ u_ws RX3 TX3 5, w ∈ TBg := by
  intro w hw
  obtain ⟨k, hk, rfl⟩ := List.mem_map.mp hw
  have hk := List.mem_range.mp hk
  match k, hk with
  | 0, _ => exact t_591
  | 1, _ => exact t_593
  | 2, _ => exact t_595
  | 3, _ => exact t_597
  | 4, _ => exact t_599
  | k + 5, hk => exact absurd hk (by omega)
theorem dfX3 : ∀ j, j < 5 → defaultValue (tyX3 j) = vp_V [.null, .int 0, .null, .null, .null] j := by
  intro j hj
  match j, hj with
  | 0, _ => rfl
  | 1, _ => rfl
  | 2, _ => rfl
  | 3, _ => rfl
  | 4, _ => rfl
  | j + 5, hj => exact absurd hj (by omega)
theorem iX4 : ∀ w ∈ u_ws RX4 TX4 8, w ∈ TBg := by
  intro w hw
  obtain ⟨k, hk, rfl⟩ := List.mem_map.mp hw
  have hk := List.mem_range.mp hk
  match k, hk with
  | 0, _ => exact t_251
  | 1, _ => exact t_253
  | 2, _ => exact t_255
  | 3, _ => exact t_257
  | 4, _ => exact t_259
  | 5, _ => exact t_261
  | 6, _ => exact t_263
  | 7, _ => exact t_265
  | k + 8, hk => exact absurd hk (by omega)
theorem dfX4 : ∀ j, j < 8 → defaultValue (tyX4 j) = vp_V [.null, .null, .int 0, .int 0, .int 0, .null, .null, .null] j := by
  intro j hj
  match j, hj with
  | 0, _ => rfl
  | 1, _ => rfl
  | 2, _ => rfl
  | 3, _ => rfl
  | 4, _ => rfl
  | 5, _ => rfl
  | 6, _ => rfl
  | 7, _ => rfl
  | j + 8, hj => exact absurd hj (by omega)
theorem iX5 : ∀ w ∈ u_ws RX5 TX5 8, w ∈ TBg := by
  intro w hw
  obtain ⟨k, hk, rfl⟩ := List.mem_map.mp hw
  have hk := List.mem_range.mp hk
  match k, hk with
  | 0, _ => exact t_176
  | 1, _ => exact t_178
  | 2, _ => exact t_180
  | 3, _ => exact t_182
  | 4, _ => exact t_184
  | 5, _ => exact t_186
  | 6, _ => exact t_188
  | 7, _ => exact t_190
  | k + 8, hk => exact absurd hk (by omega)
theorem dfX5 : ∀ j, j < 8 → defaultValue (tyX5 j) = vp_V [.null, .null, .int 0, .int 0, .int 0, .null, .int 0, .null] j := by
  intro j hj
  match j, hj with
  | 0, _ => rfl
  | 1, _ => rfl
  | 2, _ => rfl
  | 3, _ => rfl
  | 4, _ => rfl
  | 5, _ => rfl
  | 6, _ => rfl
  | 7, _ => rfl
  | j + 8, hj => exact absurd hj (by omega)
theorem iX6 : ∀ w ∈ u_ws RX6 TX6 9, w ∈ TBg := by
  intro w hw
  obtain ⟨k, hk, rfl⟩ := List.mem_map.mp hw
  have hk := List.mem_range.mp hk
  match k, hk with
  | 0, _ => exact t_223
  | 1, _ => exact t_225
  | 2, _ => exact t_227
  | 3, _ => exact t_229
  | 4, _ => exact t_231
  | 5, _ => exact t_233
  | 6, _ => exact t_235
  | 7, _ => exact t_237
  | 8, _ => exact t_239
  | k + 9, hk => exact absurd hk (by omega)
theorem dfX6 : ∀ j, j < 9 → defaultValue (tyX6 j) = vp_V [.null, .null, .null, .int 0, .int 0, .int 0, .int 0, .int 0, .int 0] j := by
  intro j hj
  match j, hj with
  | 0, _ => rfl
  | 1, _ => rfl
  | 2, _ => rfl
  | 3, _ => rfl
  | 4, _ => rfl
  | 5, _ => rfl
  | 6, _ => rfl
  | 7, _ => rfl
  | 8, _ => rfl
  | j + 9, hj => exact absurd hj (by omega)
theorem iX7 : ∀ w ∈ u_ws RX7 TX7 18, w ∈ TBg := by
  intro w hw
  obtain ⟨k, hk, rfl⟩ := List.mem_map.mp hw
  have hk := List.mem_range.mp hk
  match k, hk with
  | 0, _ => exact t_82
  | 1, _ => exact t_84
  | 2, _ => exact t_86
  | 3, _ => exact t_88
  | 4, _ => exact t_90
  | 5, _ => exact t_92
  | 6, _ => exact t_94
  | 7, _ => exact t_96
  | 8, _ => exact t_98
  | 9, _ => exact t_100
  | 10, _ => exact t_102
  | 11, _ => exact t_104
  | 12, _ => exact t_106
  | 13, _ => exact t_108
  | 14, _ => exact t_110
  | 15, _ => exact t_112
  | 16, _ => exact t_114
  | 17, _ => exact t_116
  | k + 18, hk => exact absurd hk (by omega)
theorem dfX7 : ∀ j, j < 18 → defaultValue (tyX7 j) = vp_V [.int 0, .int 0, .int 0, .int 0, .int 0, .null, .null, .null, .null, .null, .null, .null, .null, .null, .null, .null, .null, .int 0] j := by
  intro j hj
  match j, hj with
  | 0, _ => rfl
  | 1, _ => rfl
  | 2, _ => rfl
  | 3, _ => rfl
  | 4, _ => rfl
  | 5, _ => rfl
  | 6, _ => rfl
  | 7, _ => rfl
  | 8, _ => rfl
  | 9, _ => rfl
  | 10, _ => rfl
  | 11, _ => rfl
  | 12, _ => rfl
  | 13, _ => rfl
  | 14, _ => rfl
  | 15, _ => rfl
  | 16, _ => rfl
  | 17, _ => rfl
  | j + 18, hj => exact absurd hj (by omega)
theorem iX8 : ∀ w ∈ u_ws RX8 TX8 11, w ∈ TBg := by
  intro w hw
  obtain ⟨k, hk, rfl⟩ := List.mem_map.mp hw
  have hk := List.mem_range.mp hk
  match k, hk with
  | 0, _ => exact t_311
  | 1, _ => exact t_313
  | 2, _ => exact t_315
  | 3, _ => exact t_317
  | 4, _ => exact t_319
  | 5, _ => exact t_321
  | 6, _ => exact t_323
  | 7, _ => exact t_325
  | 8, _ => exact t_327
  | 9, _ => exact t_329
  | 10, _ => exact t_331
  | k + 11, hk => exact absurd hk (by omega)
theorem dfX8 : ∀ j, j < 11 → defaultValue (tyX8 j) = vp_V [.null, .int 0, .null, .int 0, .int 0, .null, .null, .null, .null, .null, .null] j := by
  intro j hj
  match j, hj with
  | 0, _ => rfl
  | 1, _ => rfl
  | 2, _ => rfl
  | 3, _ => rfl
  | 4, _ => rfl
  | 5, _ => rfl
  | 6, _ => rfl
  | 7, _ => rfl
  | 8, _ => rfl
  | 9, _ => rfl
  | 10, _ => rfl
  | j + 11, hj => exact absurd hj (by omega)
theorem iX9 : ∀ w ∈ u_ws RX9 TX9 36, w ∈ TBg := by
  intro w hw
  obtain ⟨k, hk, rfl⟩ := List.mem_map.mp hw
  have hk := List.mem_range.mp hk
  match k, hk with
  | 0, _ => exact t_918
  | 1, _ => exact t_920
  | 2, _ => exact t_922
  | 3, _ => exact t_924
  | 4, _ => exact t_926
  | 5, _ => exact t_928
  | 6, _ => exact t_930
  | 7, _ => exact t_932
  | 8, _ => exact t_934
  | 9, _ => exact t_936
  | 10, _ => exact t_938
  | 11, _ => exact t_940
  | 12, _ => exact t_942
  | 13, _ => exact t_944
  | 14, _ => exact t_946
  | 15, _ => exact t_948
  | 16, _ => exact t_950
  | 17, _ => exact t_952
  | 18, _ => exact t_954
  | 19, _ => exact t_956
  | 20, _ => exact t_958
  | 21, _ => exact t_960
  | 22, _ => exact t_962
  | 23, _ => exact t_964
  | 24, _ => exact t_966
  | 25, _ => exact t_968
  | 26, _ => exact t_970
  | 27, _ => exact t_972
  | 28, _ => exact t_974
  | 29, _ => exact t_976
  | 30, _ => exact t_978
  | 31, _ => exact t_980
  | 32, _ => exact t_982
  | 33, _ => exact t_984
  | 34, _ => exact t_986
  | 35, _ => exact t_988
  | k + 36, hk => exact absurd hk (by omega)
theorem dfX9 : ∀ j, j < 36 → defaultValue (tyX9 j) = vp_V [.null, .int 0, .int 0, .null, .null, .null, .null, .int 0, .int 0, .int 0, .null, .null, .int 0, .int 0, .int 0, .int 0, .int 0, .int 0, .int 0, .null, .int 0, .null, .int 0, .null, .null, .null, .null, .null, .null, .null, .null, .null, .null, .null, .null, .null] j := by
  intro j hj
  match j, hj with
  | 0, _ => rfl
  | 1, _ => rfl
  | 2, _ => rfl
  | 3, _ => rfl
  | 4, _ => rfl
  | 5, _ => rfl
  | 6, _ => rfl
  | 7, _ => rfl
  | 8, _ => rfl
  | 9, _ => rfl
  | 10, _ => rfl
  | 11, _ => rfl
  | 12, _ => rfl
  | 13, _ => rfl
  | 14, _ => rfl
  | 15, _ => rfl
  | 16, _ => rfl
  | 17, _ => rfl
  | 18, _ => rfl
  | 19, _ => rfl
  | 20, _ => rfl
  | 21, _ => rfl
  | 22, _ => rfl
  | 23, _ => rfl
  | 24, _ => rfl
  | 25, _ => rfl
  | 26, _ => rfl
  | 27, _ => rfl
  | 28, _ => rfl
  | 29, _ => rfl
  | 30, _ => rfl
  | 31, _ => rfl
  | 32, _ => rfl
  | 33, _ => rfl
  | 34, _ => rfl
  | 35, _ => rfl
  | j + 36, hj => exact absurd hj (by omega)
