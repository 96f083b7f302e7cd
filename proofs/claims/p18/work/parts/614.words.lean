abbrev MX8_init : Mt := (yX8_init, cX8_init, 1, none)
abbrev MX4_init : Mt := (yX4_init, cX4_init, 1, none)
abbrev MX6_init : Mt := (yX6_init, cX6_init, 1, none)
abbrev MX2_init : Mt := (yX2_init, cX2_init, 1, none)
abbrev MX1_init : Mt := (yX1_init, cX1_init, 1, none)
abbrev MX9_init : Mt := (yX9_init, cX9_init, 1, none)
theorem t_19 : Cond.classLink RL 7 RX8 ∈ TBg := tb_o1 (List.mem_of_getElem? (i := 19) rfl) rfl
theorem t_20 : Cond.instantiable RX8 11 ∈ TBg := tb_o1 (List.mem_of_getElem? (i := 20) rfl) rfl
theorem t_21 : Cond.methodLink RL 9 yX8_init ∈ TBg := tb_o1 (List.mem_of_getElem? (i := 21) rfl) rfl
theorem t_22 : Cond.instanceMethod yX8_init ∈ TBg := tb_o1 (List.mem_of_getElem? (i := 22) rfl) rfl
theorem t_23 : cw MX8_init ∈ TBg := tb_o1 (List.mem_of_getElem? (i := 23) rfl) rfl
theorem t_24 : Cond.methodLink RX8 1 objectInit ∈ TBg := tb_o1 (List.mem_of_getElem? (i := 24) rfl) rfl
theorem t_27 : Cond.classLink RX8 17 RX3 ∈ TBg := tb_o1 (List.mem_of_getElem? (i := 27) rfl) rfl
theorem t_194 : Cond.classLink RX8 47 RX0 ∈ TBg := tb_o1 (List.mem_of_getElem? (i := 194) rfl) rfl
theorem t_195 : Cond.methodLink RX8 49 yX0_init ∈ TBg := tb_o1 (List.mem_of_getElem? (i := 195) rfl) rfl
theorem t_196 : Cond.classLink RX8 54 RX4 ∈ TBg := tb_o1 (List.mem_of_getElem? (i := 196) rfl) rfl
theorem t_197 : Cond.instantiable RX4 8 ∈ TBg := tb_o1 (List.mem_of_getElem? (i := 197) rfl) rfl
theorem t_198 : Cond.methodLink RX8 56 yX4_init ∈ TBg := tb_o1 (List.mem_of_getElem? (i := 198) rfl) rfl
theorem t_199 : Cond.instanceMethod yX4_init ∈ TBg := tb_o1 (List.mem_of_getElem? (i := 199) rfl) rfl
theorem t_200 : cw MX4_init ∈ TBg := tb_o1 (List.mem_of_getElem? (i := 200) rfl) rfl
theorem t_201 : Cond.methodLink RX4 3 objectInit ∈ TBg := tb_o1 (List.mem_of_getElem? (i := 201) rfl) rfl
theorem t_202 : Cond.classLink RX4 9 RX6 ∈ TBg := tb_o1 (List.mem_of_getElem? (i := 202) rfl) rfl
theorem t_203 : Cond.instantiable RX6 9 ∈ TBg := tb_o1 (List.mem_of_getElem? (i := 203) rfl) rfl
theorem t_204 : Cond.methodLink RX4 11 yX6_init ∈ TBg := tb_o1 (List.mem_of_getElem? (i := 204) rfl) rfl
theorem t_205 : Cond.instanceMethod yX6_init ∈ TBg := tb_o1 (List.mem_of_getElem? (i := 205) rfl) rfl
theorem t_206 : cw MX6_init ∈ TBg := tb_o1 (List.mem_of_getElem? (i := 206) rfl) rfl
theorem t_207 : Cond.methodLink RX6 3 objectInit ∈ TBg := tb_o1 (List.mem_of_getElem? (i := 207) rfl) rfl
theorem t_268 : Cond.classLink RX8 61 RX2 ∈ TBg := tb_o2 (List.mem_of_getElem? (i := 28) rfl) rfl
theorem t_269 : Cond.instantiable RX2 1 ∈ TBg := tb_o2 (List.mem_of_getElem? (i := 29) rfl) rfl
theorem t_270 : Cond.methodLink RX8 63 yX2_init ∈ TBg := tb_o2 (List.mem_of_getElem? (i := 30) rfl) rfl
theorem t_271 : Cond.instanceMethod yX2_init ∈ TBg := tb_o2 (List.mem_of_getElem? (i := 31) rfl) rfl
theorem t_272 : cw MX2_init ∈ TBg := tb_o2 (List.mem_of_getElem? (i := 32) rfl) rfl
theorem t_273 : Cond.methodLink RX2 3 objectInit ∈ TBg := tb_o2 (List.mem_of_getElem? (i := 33) rfl) rfl
theorem t_278 : Cond.arrayClass .long ∈ TBg := tb_o2 (List.mem_of_getElem? (i := 38) rfl) rfl
theorem t_279 : Cond.classLink RX8 68 RX1 ∈ TBg := tb_o2 (List.mem_of_getElem? (i := 39) rfl) rfl
theorem t_280 : Cond.instantiable RX1 4 ∈ TBg := tb_o2 (List.mem_of_getElem? (i := 40) rfl) rfl
theorem t_281 : Cond.methodLink RX8 70 yX1_init ∈ TBg := tb_o2 (List.mem_of_getElem? (i := 41) rfl) rfl
theorem t_282 : Cond.instanceMethod yX1_init ∈ TBg := tb_o2 (List.mem_of_getElem? (i := 42) rfl) rfl
theorem t_283 : cw MX1_init ∈ TBg := tb_o2 (List.mem_of_getElem? (i := 43) rfl) rfl
theorem t_284 : Cond.methodLink RX1 3 objectInit ∈ TBg := tb_o2 (List.mem_of_getElem? (i := 44) rfl) rfl
theorem t_334 : Cond.methodLink RL 13 yX8_feed ∈ TBg := tb_o2 (List.mem_of_getElem? (i := 94) rfl) rfl
theorem t_335 : Cond.instanceMethod yX8_feed ∈ TBg := tb_o2 (List.mem_of_getElem? (i := 95) rfl) rfl
theorem t_336 : Cond.selects RX8 yX8_feed yX8_feed ∈ TBg := tb_o2 (List.mem_of_getElem? (i := 96) rfl) rfl
theorem t_337 : cw MX8_feed ∈ TBg := tb_o2 (List.mem_of_getElem? (i := 97) rfl) rfl
theorem t_345 : Cond.methodLink RL 18 yX8_end ∈ TBg := tb_o2 (List.mem_of_getElem? (i := 105) rfl) rfl
theorem t_346 : Cond.instanceMethod yX8_end ∈ TBg := tb_o2 (List.mem_of_getElem? (i := 106) rfl) rfl
theorem t_347 : Cond.selects RX8 yX8_end yX8_end ∈ TBg := tb_o2 (List.mem_of_getElem? (i := 107) rfl) rfl
theorem t_348 : cw MX8_end ∈ TBg := tb_o2 (List.mem_of_getElem? (i := 108) rfl) rfl
theorem t_349 : Cond.methodLink RL 23 yX8_work ∈ TBg := tb_o2 (List.mem_of_getElem? (i := 109) rfl) rfl
theorem t_350 : Cond.instanceMethod yX8_work ∈ TBg := tb_o2 (List.mem_of_getElem? (i := 110) rfl) rfl
theorem t_351 : Cond.selects RX8 yX8_work yX8_work ∈ TBg := tb_o2 (List.mem_of_getElem? (i := 111) rfl) rfl
theorem t_352 : cw MX8_work ∈ TBg := tb_o2 (List.mem_of_getElem? (i := 112) rfl) rfl
theorem t_510 : Cond.arrayClass .byte ∈ TBg := tb_o3 (List.mem_of_getElem? (i := 30) rfl) rfl
theorem t_511 : Cond.methodLink RL 28 yX8_rule ∈ TBg := tb_o3 (List.mem_of_getElem? (i := 31) rfl) rfl
theorem t_512 : Cond.instanceMethod yX8_rule ∈ TBg := tb_o3 (List.mem_of_getElem? (i := 32) rfl) rfl
theorem t_513 : Cond.selects RX8 yX8_rule yX8_rule ∈ TBg := tb_o3 (List.mem_of_getElem? (i := 33) rfl) rfl
theorem t_514 : cw MX8_rule ∈ TBg := tb_o3 (List.mem_of_getElem? (i := 34) rfl) rfl
theorem t_602 : Cond.methodLink RL 32 yX8_kind ∈ TBg := tb_o3 (List.mem_of_getElem? (i := 122) rfl) rfl
theorem t_603 : Cond.instanceMethod yX8_kind ∈ TBg := tb_o3 (List.mem_of_getElem? (i := 123) rfl) rfl
theorem t_604 : Cond.selects RX8 yX8_kind yX8_kind ∈ TBg := tb_o3 (List.mem_of_getElem? (i := 124) rfl) rfl
theorem t_605 : cw MX8_kind ∈ TBg := tb_o3 (List.mem_of_getElem? (i := 125) rfl) rfl
theorem t_607 : Cond.methodLink RL 37 yX8_fault ∈ TBg := tb_o3 (List.mem_of_getElem? (i := 127) rfl) rfl
theorem t_608 : Cond.instanceMethod yX8_fault ∈ TBg := tb_o3 (List.mem_of_getElem? (i := 128) rfl) rfl
theorem t_609 : Cond.selects RX8 yX8_fault yX8_fault ∈ TBg := tb_o3 (List.mem_of_getElem? (i := 129) rfl) rfl
theorem t_610 : cw MX8_fault ∈ TBg := tb_o3 (List.mem_of_getElem? (i := 130) rfl) rfl
theorem t_626 : Cond.methodLink RL 116 yX8_count ∈ TBg := tb_o3 (List.mem_of_getElem? (i := 146) rfl) rfl
theorem t_627 : Cond.instanceMethod yX8_count ∈ TBg := tb_o3 (List.mem_of_getElem? (i := 147) rfl) rfl
theorem t_628 : Cond.selects RX8 yX8_count yX8_count ∈ TBg := tb_o3 (List.mem_of_getElem? (i := 148) rfl) rfl
theorem t_629 : cw MX8_count ∈ TBg := tb_o3 (List.mem_of_getElem? (i := 149) rfl) rfl
theorem t_636 : Cond.methodLink RL 120 yX8_coins ∈ TBg := tb_o3 (List.mem_of_getElem? (i := 156) rfl) rfl
theorem t_637 : Cond.instanceMethod yX8_coins ∈ TBg := tb_o3 (List.mem_of_getElem? (i := 157) rfl) rfl
theorem t_638 : Cond.selects RX8 yX8_coins yX8_coins ∈ TBg := tb_o3 (List.mem_of_getElem? (i := 158) rfl) rfl
theorem t_639 : cw MX8_coins ∈ TBg := tb_o3 (List.mem_of_getElem? (i := 159) rfl) rfl
theorem t_641 : Cond.methodLink RL 41 yX8_look ∈ TBg := tb_o3 (List.mem_of_getElem? (i := 161) rfl) rfl
theorem t_642 : Cond.instanceMethod yX8_look ∈ TBg := tb_o3 (List.mem_of_getElem? (i := 162) rfl) rfl
theorem t_643 : Cond.selects RX8 yX8_look yX8_look ∈ TBg := tb_o3 (List.mem_of_getElem? (i := 163) rfl) rfl
theorem t_644 : cw MX8_look ∈ TBg := tb_o3 (List.mem_of_getElem? (i := 164) rfl) rfl
theorem t_658 : Cond.methodLink RL 45 yX8_fine ∈ TBg := tb_o3 (List.mem_of_getElem? (i := 178) rfl) rfl
theorem t_659 : Cond.instanceMethod yX8_fine ∈ TBg := tb_o3 (List.mem_of_getElem? (i := 179) rfl) rfl
theorem t_660 : Cond.selects RX8 yX8_fine yX8_fine ∈ TBg := tb_o3 (List.mem_of_getElem? (i := 180) rfl) rfl
theorem t_661 : cw MX8_fine ∈ TBg := tb_o3 (List.mem_of_getElem? (i := 181) rfl) rfl
theorem t_666 : Cond.methodLink RL 49 yX8_mend ∈ TBg := tb_o3 (List.mem_of_getElem? (i := 186) rfl) rfl
theorem t_667 : Cond.instanceMethod yX8_mend ∈ TBg := tb_o3 (List.mem_of_getElem? (i := 187) rfl) rfl
theorem t_668 : Cond.selects RX8 yX8_mend yX8_mend ∈ TBg := tb_o3 (List.mem_of_getElem? (i := 188) rfl) rfl
theorem t_669 : cw MX8_mend ∈ TBg := tb_o3 (List.mem_of_getElem? (i := 189) rfl) rfl
theorem t_671 : Cond.methodLink RL 53 yX8_dawn ∈ TBg := tb_o3 (List.mem_of_getElem? (i := 191) rfl) rfl
theorem t_672 : Cond.instanceMethod yX8_dawn ∈ TBg := tb_o3 (List.mem_of_getElem? (i := 192) rfl) rfl
theorem t_673 : Cond.selects RX8 yX8_dawn yX8_dawn ∈ TBg := tb_o3 (List.mem_of_getElem? (i := 193) rfl) rfl
theorem t_674 : cw MX8_dawn ∈ TBg := tb_o3 (List.mem_of_getElem? (i := 194) rfl) rfl
theorem t_685 : Cond.methodLink RL 107 yX8_seed ∈ TBg := tb_o3 (List.mem_of_getElem? (i := 205) rfl) rfl
theorem t_686 : Cond.instanceMethod yX8_seed ∈ TBg := tb_o3 (List.mem_of_getElem? (i := 206) rfl) rfl
theorem t_687 : Cond.selects RX8 yX8_seed yX8_seed ∈ TBg := tb_o3 (List.mem_of_getElem? (i := 207) rfl) rfl
theorem t_688 : cw MX8_seed ∈ TBg := tb_o3 (List.mem_of_getElem? (i := 208) rfl) rfl
theorem t_689 : Cond.methodLink RL 57 yX8_day ∈ TBg := tb_o3 (List.mem_of_getElem? (i := 209) rfl) rfl
theorem t_690 : Cond.instanceMethod yX8_day ∈ TBg := tb_o3 (List.mem_of_getElem? (i := 210) rfl) rfl
theorem t_691 : Cond.selects RX8 yX8_day yX8_day ∈ TBg := tb_o3 (List.mem_of_getElem? (i := 211) rfl) rfl
theorem t_692 : cw MX8_day ∈ TBg := tb_o3 (List.mem_of_getElem? (i := 212) rfl) rfl
theorem t_732 : Cond.methodLink RL 61 yX8_would ∈ TBg := tb_o4 (List.mem_of_getElem? (i := 12) rfl) rfl
theorem t_733 : Cond.instanceMethod yX8_would ∈ TBg := tb_o4 (List.mem_of_getElem? (i := 13) rfl) rfl
theorem t_734 : Cond.selects RX8 yX8_would yX8_would ∈ TBg := tb_o4 (List.mem_of_getElem? (i := 14) rfl) rfl
theorem t_735 : cw MX8_would ∈ TBg := tb_o4 (List.mem_of_getElem? (i := 15) rfl) rfl
theorem t_741 : Cond.methodLink RL 111 yX8_weeks ∈ TBg := tb_o4 (List.mem_of_getElem? (i := 21) rfl) rfl
theorem t_742 : Cond.instanceMethod yX8_weeks ∈ TBg := tb_o4 (List.mem_of_getElem? (i := 22) rfl) rfl
theorem t_743 : Cond.selects RX8 yX8_weeks yX8_weeks ∈ TBg := tb_o4 (List.mem_of_getElem? (i := 23) rfl) rfl
theorem t_744 : cw MX8_weeks ∈ TBg := tb_o4 (List.mem_of_getElem? (i := 24) rfl) rfl
theorem t_745 : Cond.methodLink RL 65 yX8_row ∈ TBg := tb_o4 (List.mem_of_getElem? (i := 25) rfl) rfl
theorem t_746 : Cond.instanceMethod yX8_row ∈ TBg := tb_o4 (List.mem_of_getElem? (i := 26) rfl) rfl
theorem t_747 : Cond.selects RX8 yX8_row yX8_row ∈ TBg := tb_o4 (List.mem_of_getElem? (i := 27) rfl) rfl
theorem t_748 : cw MX8_row ∈ TBg := tb_o4 (List.mem_of_getElem? (i := 28) rfl) rfl
theorem t_749 : Cond.methodLink RL 69 yX8_worth ∈ TBg := tb_o4 (List.mem_of_getElem? (i := 29) rfl) rfl
theorem t_750 : Cond.instanceMethod yX8_worth ∈ TBg := tb_o4 (List.mem_of_getElem? (i := 30) rfl) rfl
theorem t_751 : Cond.selects RX8 yX8_worth yX8_worth ∈ TBg := tb_o4 (List.mem_of_getElem? (i := 31) rfl) rfl
theorem t_752 : cw MX8_worth ∈ TBg := tb_o4 (List.mem_of_getElem? (i := 32) rfl) rfl
theorem t_768 : Cond.methodLink RL 74 yX8_seen ∈ TBg := tb_o4 (List.mem_of_getElem? (i := 48) rfl) rfl
theorem t_769 : Cond.instanceMethod yX8_seen ∈ TBg := tb_o4 (List.mem_of_getElem? (i := 49) rfl) rfl
theorem t_770 : Cond.selects RX8 yX8_seen yX8_seen ∈ TBg := tb_o4 (List.mem_of_getElem? (i := 50) rfl) rfl
theorem t_771 : cw MX8_seen ∈ TBg := tb_o4 (List.mem_of_getElem? (i := 51) rfl) rfl
theorem t_772 : Cond.methodLink RL 79 yX8_best ∈ TBg := tb_o4 (List.mem_of_getElem? (i := 52) rfl) rfl
theorem t_773 : Cond.instanceMethod yX8_best ∈ TBg := tb_o4 (List.mem_of_getElem? (i := 53) rfl) rfl
theorem t_774 : Cond.selects RX8 yX8_best yX8_best ∈ TBg := tb_o4 (List.mem_of_getElem? (i := 54) rfl) rfl
theorem t_775 : cw MX8_best ∈ TBg := tb_o4 (List.mem_of_getElem? (i := 55) rfl) rfl
theorem t_805 : Cond.methodLink RL 83 yX8_master ∈ TBg := tb_o4 (List.mem_of_getElem? (i := 85) rfl) rfl
theorem t_806 : Cond.instanceMethod yX8_master ∈ TBg := tb_o4 (List.mem_of_getElem? (i := 86) rfl) rfl
theorem t_807 : Cond.selects RX8 yX8_master yX8_master ∈ TBg := tb_o4 (List.mem_of_getElem? (i := 87) rfl) rfl
theorem t_808 : cw MX8_master ∈ TBg := tb_o4 (List.mem_of_getElem? (i := 88) rfl) rfl
theorem t_830 : Cond.methodLink RL 87 yX8_game ∈ TBg := tb_o4 (List.mem_of_getElem? (i := 110) rfl) rfl
theorem t_831 : Cond.instanceMethod yX8_game ∈ TBg := tb_o4 (List.mem_of_getElem? (i := 111) rfl) rfl
theorem t_832 : Cond.selects RX8 yX8_game yX8_game ∈ TBg := tb_o4 (List.mem_of_getElem? (i := 112) rfl) rfl
theorem t_833 : cw MX8_game ∈ TBg := tb_o4 (List.mem_of_getElem? (i := 113) rfl) rfl
theorem t_834 : Cond.methodLink RL 91 yX8_rests ∈ TBg := tb_o4 (List.mem_of_getElem? (i := 114) rfl) rfl
theorem t_838 : Cond.methodLink RL 95 yX8_mixed ∈ TBg := tb_o4 (List.mem_of_getElem? (i := 118) rfl) rfl
theorem t_839 : Cond.instanceMethod yX8_mixed ∈ TBg := tb_o4 (List.mem_of_getElem? (i := 119) rfl) rfl
theorem t_840 : Cond.selects RX8 yX8_mixed yX8_mixed ∈ TBg := tb_o4 (List.mem_of_getElem? (i := 120) rfl) rfl
theorem t_841 : cw MX8_mixed ∈ TBg := tb_o4 (List.mem_of_getElem? (i := 121) rfl) rfl
theorem t_846 : Cond.methodLink RL 99 yX8_checks ∈ TBg := tb_o4 (List.mem_of_getElem? (i := 126) rfl) rfl
theorem t_847 : Cond.instanceMethod yX8_checks ∈ TBg := tb_o4 (List.mem_of_getElem? (i := 127) rfl) rfl
theorem t_848 : Cond.selects RX8 yX8_checks yX8_checks ∈ TBg := tb_o4 (List.mem_of_getElem? (i := 128) rfl) rfl
theorem t_849 : cw MX8_checks ∈ TBg := tb_o4 (List.mem_of_getElem? (i := 129) rfl) rfl
theorem t_850 : Cond.methodLink RL 103 yX8_fits ∈ TBg := tb_o4 (List.mem_of_getElem? (i := 130) rfl) rfl
theorem t_851 : Cond.instanceMethod yX8_fits ∈ TBg := tb_o4 (List.mem_of_getElem? (i := 131) rfl) rfl
theorem t_852 : Cond.selects RX8 yX8_fits yX8_fits ∈ TBg := tb_o4 (List.mem_of_getElem? (i := 132) rfl) rfl
theorem t_853 : cw MX8_fits ∈ TBg := tb_o4 (List.mem_of_getElem? (i := 133) rfl) rfl
theorem t_862 : Cond.methodLink RL 124 yX8_image ∈ TBg := tb_o4 (List.mem_of_getElem? (i := 142) rfl) rfl
theorem t_863 : Cond.instanceMethod yX8_image ∈ TBg := tb_o4 (List.mem_of_getElem? (i := 143) rfl) rfl
theorem t_864 : Cond.selects RX8 yX8_image yX8_image ∈ TBg := tb_o4 (List.mem_of_getElem? (i := 144) rfl) rfl
theorem t_865 : cw MX8_image ∈ TBg := tb_o4 (List.mem_of_getElem? (i := 145) rfl) rfl
theorem t_872 : Cond.methodLink RL 128 yX8_back ∈ TBg := tb_o4 (List.mem_of_getElem? (i := 152) rfl) rfl
theorem t_873 : Cond.instanceMethod yX8_back ∈ TBg := tb_o4 (List.mem_of_getElem? (i := 153) rfl) rfl
theorem t_874 : Cond.selects RX8 yX8_back yX8_back ∈ TBg := tb_o4 (List.mem_of_getElem? (i := 154) rfl) rfl
theorem t_875 : cw MX8_back ∈ TBg := tb_o4 (List.mem_of_getElem? (i := 155) rfl) rfl
theorem t_876 : Cond.classLink RL 10 RX9 ∈ TBg := tb_o4 (List.mem_of_getElem? (i := 156) rfl) rfl
theorem t_877 : Cond.instantiable RX9 36 ∈ TBg := tb_o4 (List.mem_of_getElem? (i := 157) rfl) rfl
theorem t_878 : Cond.methodLink RL 12 yX9_init ∈ TBg := tb_o4 (List.mem_of_getElem? (i := 158) rfl) rfl
theorem t_879 : Cond.instanceMethod yX9_init ∈ TBg := tb_o4 (List.mem_of_getElem? (i := 159) rfl) rfl
theorem t_880 : cw MX9_init ∈ TBg := tb_o4 (List.mem_of_getElem? (i := 160) rfl) rfl
theorem t_881 : Cond.methodLink RX9 1 objectInit ∈ TBg := tb_o4 (List.mem_of_getElem? (i := 161) rfl) rfl
theorem t_991 : Cond.arrayClass .boolean ∈ TBg := tb_o5 (List.mem_of_getElem? (i := 31) rfl) rfl
theorem t_992 : Cond.methodLink RL 17 yX9_feed ∈ TBg := tb_o5 (List.mem_of_getElem? (i := 32) rfl) rfl
theorem t_993 : Cond.instanceMethod yX9_feed ∈ TBg := tb_o5 (List.mem_of_getElem? (i := 33) rfl) rfl
theorem t_994 : Cond.selects RX9 yX9_feed yX9_feed ∈ TBg := tb_o5 (List.mem_of_getElem? (i := 34) rfl) rfl
theorem t_995 : cw MX9_feed ∈ TBg := tb_o5 (List.mem_of_getElem? (i := 35) rfl) rfl
theorem t_1000 : Cond.methodLink RL 22 yX9_end ∈ TBg := tb_o5 (List.mem_of_getElem? (i := 40) rfl) rfl
theorem t_1001 : Cond.instanceMethod yX9_end ∈ TBg := tb_o5 (List.mem_of_getElem? (i := 41) rfl) rfl
theorem t_1002 : Cond.selects RX9 yX9_end yX9_end ∈ TBg := tb_o5 (List.mem_of_getElem? (i := 42) rfl) rfl
theorem t_1003 : cw MX9_end ∈ TBg := tb_o5 (List.mem_of_getElem? (i := 43) rfl) rfl
theorem t_1004 : Cond.methodLink RL 31 yX9_rule ∈ TBg := tb_o5 (List.mem_of_getElem? (i := 44) rfl) rfl
theorem t_1005 : Cond.instanceMethod yX9_rule ∈ TBg := tb_o5 (List.mem_of_getElem? (i := 45) rfl) rfl
theorem t_1006 : Cond.selects RX9 yX9_rule yX9_rule ∈ TBg := tb_o5 (List.mem_of_getElem? (i := 46) rfl) rfl
theorem t_1007 : cw MX9_rule ∈ TBg := tb_o5 (List.mem_of_getElem? (i := 47) rfl) rfl
theorem t_1140 : Cond.methodLink RL 27 yX9_work ∈ TBg := tb_o5 (List.mem_of_getElem? (i := 180) rfl) rfl
theorem t_1141 : Cond.instanceMethod yX9_work ∈ TBg := tb_o5 (List.mem_of_getElem? (i := 181) rfl) rfl
theorem t_1142 : Cond.selects RX9 yX9_work yX9_work ∈ TBg := tb_o5 (List.mem_of_getElem? (i := 182) rfl) rfl
theorem t_1143 : cw MX9_work ∈ TBg := tb_o5 (List.mem_of_getElem? (i := 183) rfl) rfl
theorem t_1144 : Cond.methodLink RL 36 yX9_kind ∈ TBg := tb_o5 (List.mem_of_getElem? (i := 184) rfl) rfl
theorem t_1145 : Cond.instanceMethod yX9_kind ∈ TBg := tb_o5 (List.mem_of_getElem? (i := 185) rfl) rfl
theorem t_1146 : Cond.selects RX9 yX9_kind yX9_kind ∈ TBg := tb_o5 (List.mem_of_getElem? (i := 186) rfl) rfl
theorem t_1147 : cw MX9_kind ∈ TBg := tb_o5 (List.mem_of_getElem? (i := 187) rfl) rfl
theorem t_1149 : Cond.methodLink RL 40 yX9_fault ∈ TBg := tb_o5 (List.mem_of_getElem? (i := 189) rfl) rfl
theorem t_1150 : Cond.instanceMethod yX9_fault ∈ TBg := tb_o5 (List.mem_of_getElem? (i := 190) rfl) rfl
theorem t_1151 : Cond.selects RX9 yX9_fault yX9_fault ∈ TBg := tb_o5 (List.mem_of_getElem? (i := 191) rfl) rfl
theorem t_1152 : cw MX9_fault ∈ TBg := tb_o5 (List.mem_of_getElem? (i := 192) rfl) rfl
theorem t_1166 : Cond.methodLink RL 44 yX9_look ∈ TBg := tb_o5 (List.mem_of_getElem? (i := 206) rfl) rfl
theorem t_1167 : Cond.instanceMethod yX9_look ∈ TBg := tb_o5 (List.mem_of_getElem? (i := 207) rfl) rfl
theorem t_1168 : Cond.selects RX9 yX9_look yX9_look ∈ TBg := tb_o5 (List.mem_of_getElem? (i := 208) rfl) rfl
theorem t_1169 : cw MX9_look ∈ TBg := tb_o5 (List.mem_of_getElem? (i := 209) rfl) rfl
theorem t_1190 : Cond.methodLink RL 48 yX9_fine ∈ TBg := tb_o5 (List.mem_of_getElem? (i := 230) rfl) rfl
theorem t_1191 : Cond.instanceMethod yX9_fine ∈ TBg := tb_o5 (List.mem_of_getElem? (i := 231) rfl) rfl
theorem t_1192 : Cond.selects RX9 yX9_fine yX9_fine ∈ TBg := tb_o5 (List.mem_of_getElem? (i := 232) rfl) rfl
theorem t_1193 : cw MX9_fine ∈ TBg := tb_o5 (List.mem_of_getElem? (i := 233) rfl) rfl
theorem t_1200 : Cond.methodLink RL 52 yX9_mend ∈ TBg := tb_o6 (List.mem_of_getElem? (i := 0) rfl) rfl
theorem t_1201 : Cond.instanceMethod yX9_mend ∈ TBg := tb_o6 (List.mem_of_getElem? (i := 1) rfl) rfl
theorem t_1202 : Cond.selects RX9 yX9_mend yX9_mend ∈ TBg := tb_o6 (List.mem_of_getElem? (i := 2) rfl) rfl
theorem t_1203 : cw MX9_mend ∈ TBg := tb_o6 (List.mem_of_getElem? (i := 3) rfl) rfl
theorem t_1204 : Cond.methodLink RL 56 yX9_dawn ∈ TBg := tb_o6 (List.mem_of_getElem? (i := 4) rfl) rfl
theorem t_1205 : Cond.instanceMethod yX9_dawn ∈ TBg := tb_o6 (List.mem_of_getElem? (i := 5) rfl) rfl
theorem t_1206 : Cond.selects RX9 yX9_dawn yX9_dawn ∈ TBg := tb_o6 (List.mem_of_getElem? (i := 6) rfl) rfl
theorem t_1207 : cw MX9_dawn ∈ TBg := tb_o6 (List.mem_of_getElem? (i := 7) rfl) rfl
theorem t_1216 : Cond.methodLink RL 60 yX9_day ∈ TBg := tb_o6 (List.mem_of_getElem? (i := 16) rfl) rfl
theorem t_1217 : Cond.instanceMethod yX9_day ∈ TBg := tb_o6 (List.mem_of_getElem? (i := 17) rfl) rfl
theorem t_1218 : Cond.selects RX9 yX9_day yX9_day ∈ TBg := tb_o6 (List.mem_of_getElem? (i := 18) rfl) rfl
theorem t_1219 : cw MX9_day ∈ TBg := tb_o6 (List.mem_of_getElem? (i := 19) rfl) rfl
theorem t_1266 : Cond.methodLink RL 64 yX9_would ∈ TBg := tb_o6 (List.mem_of_getElem? (i := 66) rfl) rfl
theorem t_1267 : Cond.instanceMethod yX9_would ∈ TBg := tb_o6 (List.mem_of_getElem? (i := 67) rfl) rfl
theorem t_1268 : Cond.selects RX9 yX9_would yX9_would ∈ TBg := tb_o6 (List.mem_of_getElem? (i := 68) rfl) rfl
theorem t_1269 : cw MX9_would ∈ TBg := tb_o6 (List.mem_of_getElem? (i := 69) rfl) rfl
theorem t_1279 : Cond.methodLink RL 68 yX9_row ∈ TBg := tb_o6 (List.mem_of_getElem? (i := 79) rfl) rfl
theorem t_1280 : Cond.instanceMethod yX9_row ∈ TBg := tb_o6 (List.mem_of_getElem? (i := 80) rfl) rfl
theorem t_1281 : Cond.selects RX9 yX9_row yX9_row ∈ TBg := tb_o6 (List.mem_of_getElem? (i := 81) rfl) rfl
theorem t_1282 : cw MX9_row ∈ TBg := tb_o6 (List.mem_of_getElem? (i := 82) rfl) rfl
theorem t_1283 : Cond.methodLink RL 73 yX9_worth ∈ TBg := tb_o6 (List.mem_of_getElem? (i := 83) rfl) rfl
theorem t_1284 : Cond.instanceMethod yX9_worth ∈ TBg := tb_o6 (List.mem_of_getElem? (i := 84) rfl) rfl
theorem t_1285 : Cond.selects RX9 yX9_worth yX9_worth ∈ TBg := tb_o6 (List.mem_of_getElem? (i := 85) rfl) rfl
theorem t_1286 : cw MX9_worth ∈ TBg := tb_o6 (List.mem_of_getElem? (i := 86) rfl) rfl
theorem t_1311 : Cond.methodLink RL 78 yX9_seen ∈ TBg := tb_o6 (List.mem_of_getElem? (i := 111) rfl) rfl
theorem t_1312 : Cond.instanceMethod yX9_seen ∈ TBg := tb_o6 (List.mem_of_getElem? (i := 112) rfl) rfl
theorem t_1313 : Cond.selects RX9 yX9_seen yX9_seen ∈ TBg := tb_o6 (List.mem_of_getElem? (i := 113) rfl) rfl
theorem t_1314 : cw MX9_seen ∈ TBg := tb_o6 (List.mem_of_getElem? (i := 114) rfl) rfl
theorem t_1315 : Cond.methodLink RL 82 yX9_best ∈ TBg := tb_o6 (List.mem_of_getElem? (i := 115) rfl) rfl
theorem t_1316 : Cond.instanceMethod yX9_best ∈ TBg := tb_o6 (List.mem_of_getElem? (i := 116) rfl) rfl
theorem t_1317 : Cond.selects RX9 yX9_best yX9_best ∈ TBg := tb_o6 (List.mem_of_getElem? (i := 117) rfl) rfl
theorem t_1318 : cw MX9_best ∈ TBg := tb_o6 (List.mem_of_getElem? (i := 118) rfl) rfl
theorem t_1340 : Cond.methodLink RL 86 yX9_master ∈ TBg := tb_o6 (List.mem_of_getElem? (i := 140) rfl) rfl
theorem t_1341 : Cond.instanceMethod yX9_master ∈ TBg := tb_o6 (List.mem_of_getElem? (i := 141) rfl) rfl
theorem t_1342 : Cond.selects RX9 yX9_master yX9_master ∈ TBg := tb_o6 (List.mem_of_getElem? (i := 142) rfl) rfl
theorem t_1343 : cw MX9_master ∈ TBg := tb_o6 (List.mem_of_getElem? (i := 143) rfl) rfl
theorem t_1345 : Cond.methodLink RL 90 yX9_game ∈ TBg := tb_o6 (List.mem_of_getElem? (i := 145) rfl) rfl
theorem t_1346 : Cond.instanceMethod yX9_game ∈ TBg := tb_o6 (List.mem_of_getElem? (i := 146) rfl) rfl
theorem t_1347 : Cond.selects RX9 yX9_game yX9_game ∈ TBg := tb_o6 (List.mem_of_getElem? (i := 147) rfl) rfl
theorem t_1348 : cw MX9_game ∈ TBg := tb_o6 (List.mem_of_getElem? (i := 148) rfl) rfl
theorem t_1352 : Cond.methodLink RL 94 yX9_rests ∈ TBg := tb_o6 (List.mem_of_getElem? (i := 152) rfl) rfl
theorem t_1360 : Cond.methodLink RL 98 yX9_mixed ∈ TBg := tb_o6 (List.mem_of_getElem? (i := 160) rfl) rfl
theorem t_1361 : Cond.instanceMethod yX9_mixed ∈ TBg := tb_o6 (List.mem_of_getElem? (i := 161) rfl) rfl
theorem t_1362 : Cond.selects RX9 yX9_mixed yX9_mixed ∈ TBg := tb_o6 (List.mem_of_getElem? (i := 162) rfl) rfl
theorem t_1363 : cw MX9_mixed ∈ TBg := tb_o6 (List.mem_of_getElem? (i := 163) rfl) rfl
theorem t_1365 : Cond.methodLink RL 102 yX9_checks ∈ TBg := tb_o6 (List.mem_of_getElem? (i := 165) rfl) rfl
theorem t_1366 : Cond.instanceMethod yX9_checks ∈ TBg := tb_o6 (List.mem_of_getElem? (i := 166) rfl) rfl
theorem t_1367 : Cond.selects RX9 yX9_checks yX9_checks ∈ TBg := tb_o6 (List.mem_of_getElem? (i := 167) rfl) rfl
theorem t_1368 : cw MX9_checks ∈ TBg := tb_o6 (List.mem_of_getElem? (i := 168) rfl) rfl
theorem t_1370 : Cond.methodLink RL 106 yX9_fits ∈ TBg := tb_o6 (List.mem_of_getElem? (i := 170) rfl) rfl
theorem t_1371 : Cond.instanceMethod yX9_fits ∈ TBg := tb_o6 (List.mem_of_getElem? (i := 171) rfl) rfl
theorem t_1372 : Cond.selects RX9 yX9_fits yX9_fits ∈ TBg := tb_o6 (List.mem_of_getElem? (i := 172) rfl) rfl
theorem t_1373 : cw MX9_fits ∈ TBg := tb_o6 (List.mem_of_getElem? (i := 173) rfl) rfl
theorem t_1378 : Cond.methodLink RL 110 yX9_seed ∈ TBg := tb_o6 (List.mem_of_getElem? (i := 178) rfl) rfl
theorem t_1379 : Cond.instanceMethod yX9_seed ∈ TBg := tb_o6 (List.mem_of_getElem? (i := 179) rfl) rfl
theorem t_1380 : Cond.selects RX9 yX9_seed yX9_seed ∈ TBg := tb_o6 (List.mem_of_getElem? (i := 180) rfl) rfl
theorem t_1381 : cw MX9_seed ∈ TBg := tb_o6 (List.mem_of_getElem? (i := 181) rfl) rfl
theorem t_1382 : Cond.methodLink RL 115 yX9_weeks ∈ TBg := tb_o6 (List.mem_of_getElem? (i := 182) rfl) rfl
theorem t_1383 : Cond.instanceMethod yX9_weeks ∈ TBg := tb_o6 (List.mem_of_getElem? (i := 183) rfl) rfl
theorem t_1384 : Cond.selects RX9 yX9_weeks yX9_weeks ∈ TBg := tb_o6 (List.mem_of_getElem? (i := 184) rfl) rfl
theorem t_1385 : cw MX9_weeks ∈ TBg := tb_o6 (List.mem_of_getElem? (i := 185) rfl) rfl
theorem t_1387 : Cond.methodLink RL 123 yX9_coins ∈ TBg := tb_o6 (List.mem_of_getElem? (i := 187) rfl) rfl
theorem t_1388 : Cond.instanceMethod yX9_coins ∈ TBg := tb_o6 (List.mem_of_getElem? (i := 188) rfl) rfl
theorem t_1389 : Cond.selects RX9 yX9_coins yX9_coins ∈ TBg := tb_o6 (List.mem_of_getElem? (i := 189) rfl) rfl
theorem t_1390 : cw MX9_coins ∈ TBg := tb_o6 (List.mem_of_getElem? (i := 190) rfl) rfl
theorem t_1391 : Cond.methodLink RL 119 yX9_count ∈ TBg := tb_o6 (List.mem_of_getElem? (i := 191) rfl) rfl
theorem t_1392 : Cond.instanceMethod yX9_count ∈ TBg := tb_o6 (List.mem_of_getElem? (i := 192) rfl) rfl
theorem t_1393 : Cond.selects RX9 yX9_count yX9_count ∈ TBg := tb_o6 (List.mem_of_getElem? (i := 193) rfl) rfl
theorem t_1394 : cw MX9_count ∈ TBg := tb_o6 (List.mem_of_getElem? (i := 194) rfl) rfl
theorem t_1395 : Cond.methodLink RL 127 yX9_image ∈ TBg := tb_o6 (List.mem_of_getElem? (i := 195) rfl) rfl
theorem t_1396 : Cond.instanceMethod yX9_image ∈ TBg := tb_o6 (List.mem_of_getElem? (i := 196) rfl) rfl
theorem t_1397 : Cond.selects RX9 yX9_image yX9_image ∈ TBg := tb_o6 (List.mem_of_getElem? (i := 197) rfl) rfl
theorem t_1398 : cw MX9_image ∈ TBg := tb_o6 (List.mem_of_getElem? (i := 198) rfl) rfl
theorem t_1400 : Cond.methodLink RL 131 yX9_back ∈ TBg := tb_o6 (List.mem_of_getElem? (i := 200) rfl) rfl
theorem t_1401 : Cond.instanceMethod yX9_back ∈ TBg := tb_o6 (List.mem_of_getElem? (i := 201) rfl) rfl
theorem t_1402 : Cond.selects RX9 yX9_back yX9_back ∈ TBg := tb_o6 (List.mem_of_getElem? (i := 202) rfl) rfl
theorem t_1403 : cw MX9_back ∈ TBg := tb_o6 (List.mem_of_getElem? (i := 203) rfl) rfl
theorem okN_X8_feed : okN MX8_feed 5 := ⟨by decide, by decide, by decide +kernel⟩
theorem okN_X8_end : okN MX8_end 1 := ⟨by decide, by decide, by decide +kernel⟩
theorem okN_X8_work : okN MX8_work 0 := ⟨by decide, by decide, by decide +kernel⟩
theorem okN_X8_rule : okN MX8_rule 0 := ⟨by decide, by decide, by decide +kernel⟩
theorem okN_X8_kind : okN MX8_kind 2 := ⟨by decide, by decide, by decide +kernel⟩
theorem okN_X8_fault : okN MX8_fault 2 := ⟨by decide, by decide, by decide +kernel⟩
theorem okN_X8_look : okN MX8_look 1 := ⟨by decide, by decide, by decide +kernel⟩
theorem okN_X8_fine : okN MX8_fine 1 := ⟨by decide, by decide, by decide +kernel⟩
theorem okN_X8_mend : okN MX8_mend 1 := ⟨by decide, by decide, by decide +kernel⟩
theorem okN_X8_dawn : okN MX8_dawn 0 := ⟨by decide, by decide, by decide +kernel⟩
theorem okN_X8_day : okN MX8_day 1 := ⟨by decide, by decide, by decide +kernel⟩
theorem okN_X8_would : okN MX8_would 2 := ⟨by decide, by decide, by decide +kernel⟩
theorem okN_X8_row : okN MX8_row 1 := ⟨by decide, by decide, by decide +kernel⟩
theorem okN_X8_worth : okN MX8_worth 1 := ⟨by decide, by decide, by decide +kernel⟩
theorem okN_X8_seen : okN MX8_seen 2 := ⟨by decide, by decide, by decide +kernel⟩
theorem okN_X8_best : okN MX8_best 2 := ⟨by decide, by decide, by decide +kernel⟩
theorem okN_X8_master : okN MX8_master 2 := ⟨by decide, by decide, by decide +kernel⟩
theorem okN_X8_game : okN MX8_game 2 := ⟨by decide, by decide, by decide +kernel⟩
theorem okN_X8_mixed : okN MX8_mixed 2 := ⟨by decide, by decide, by decide +kernel⟩
theorem okN_X8_checks : okN MX8_checks 2 := ⟨by decide, by decide, by decide +kernel⟩
theorem okN_X8_fits : okN MX8_fits 2 := ⟨by decide, by decide, by decide +kernel⟩
theorem okN_X8_seed : okN MX8_seed 1 := ⟨by decide, by decide, by decide +kernel⟩
theorem okN_X8_weeks : okN MX8_weeks 3 := ⟨by decide, by decide, by decide +kernel⟩
theorem okN_X8_count : okN MX8_count 1 := ⟨by decide, by decide, by decide +kernel⟩
theorem okN_X8_coins : okN MX8_coins 1 := ⟨by decide, by decide, by decide +kernel⟩
theorem okN_X8_image : okN MX8_image 1 := ⟨by decide, by decide, by decide +kernel⟩
theorem okN_X8_back : okN MX8_back 1 := ⟨by decide, by decide, by decide +kernel⟩
theorem okN_X9_feed : okN MX9_feed 5 := ⟨by decide, by decide, by decide +kernel⟩
theorem okN_X9_end : okN MX9_end 1 := ⟨by decide, by decide, by decide +kernel⟩
theorem okN_X9_work : okN MX9_work 0 := ⟨by decide, by decide, by decide +kernel⟩
theorem okN_X9_rule : okN MX9_rule 0 := ⟨by decide, by decide, by decide +kernel⟩
theorem okN_X9_kind : okN MX9_kind 2 := ⟨by decide, by decide, by decide +kernel⟩
theorem okN_X9_fault : okN MX9_fault 2 := ⟨by decide, by decide, by decide +kernel⟩
theorem okN_X9_look : okN MX9_look 1 := ⟨by decide, by decide, by decide +kernel⟩
theorem okN_X9_fine : okN MX9_fine 1 := ⟨by decide, by decide, by decide +kernel⟩
theorem okN_X9_mend : okN MX9_mend 1 := ⟨by decide, by decide, by decide +kernel⟩
theorem okN_X9_dawn : okN MX9_dawn 0 := ⟨by decide, by decide, by decide +kernel⟩
theorem okN_X9_day : okN MX9_day 1 := ⟨by decide, by decide, by decide +kernel⟩
theorem okN_X9_would : okN MX9_would 2 := ⟨by decide, by decide, by decide +kernel⟩
theorem okN_X9_row : okN MX9_row 1 := ⟨by decide, by decide, by decide +kernel⟩
theorem okN_X9_worth : okN MX9_worth 1 := ⟨by decide, by decide, by decide +kernel⟩
theorem okN_X9_seen : okN MX9_seen 2 := ⟨by decide, by decide, by decide +kernel⟩
theorem okN_X9_best : okN MX9_best 2 := ⟨by decide, by decide, by decide +kernel⟩
theorem okN_X9_master : okN MX9_master 2 := ⟨by decide, by decide, by decide +kernel⟩
theorem okN_X9_game : okN MX9_game 2 := ⟨by decide, by decide, by decide +kernel⟩
theorem okN_X9_mixed : okN MX9_mixed 2 := ⟨by decide, by decide, by decide +kernel⟩
theorem okN_X9_checks : okN MX9_checks 2 := ⟨by decide, by decide, by decide +kernel⟩
theorem okN_X9_fits : okN MX9_fits 2 := ⟨by decide, by decide, by decide +kernel⟩
theorem okN_X9_seed : okN MX9_seed 1 := ⟨by decide, by decide, by decide +kernel⟩
theorem okN_X9_weeks : okN MX9_weeks 3 := ⟨by decide, by decide, by decide +kernel⟩
theorem okN_X9_count : okN MX9_count 1 := ⟨by decide, by decide, by decide +kernel⟩
theorem okN_X9_coins : okN MX9_coins 1 := ⟨by decide, by decide, by decide +kernel⟩
theorem okN_X9_image : okN MX9_image 1 := ⟨by decide, by decide, by decide +kernel⟩
theorem okN_X9_back : okN MX9_back 1 := ⟨by decide, by decide, by decide +kernel⟩
theorem okN_X6_init : okN MX6_init 0 := ⟨by decide, by decide, by decide +kernel⟩
theorem okN_X4_init : okN MX4_init 0 := ⟨by decide, by decide, by decide +kernel⟩
theorem okN_X2_init : okN MX2_init 0 := ⟨by decide, by decide, by decide +kernel⟩
theorem okN_X1_init : okN MX1_init 0 := ⟨by decide, by decide, by decide +kernel⟩
theorem okN_X8_init : okN MX8_init 0 := ⟨by decide, by decide, by decide +kernel⟩
theorem okN_X9_init : okN MX9_init 0 := ⟨by decide, by decide, by decide +kernel⟩
theorem lk_V_L_13 : LkV RL 13 MX8_feed := ⟨t_337, t_1, t_334, t_335, t_336⟩
theorem lk_V_L_18 : LkV RL 18 MX8_end := ⟨t_348, t_1, t_345, t_346, t_347⟩
theorem lk_V_L_23 : LkV RL 23 MX8_work := ⟨t_352, t_1, t_349, t_350, t_351⟩
theorem lk_V_L_28 : LkV RL 28 MX8_rule := ⟨t_514, t_1, t_511, t_512, t_513⟩
theorem lk_V_L_32 : LkV RL 32 MX8_kind := ⟨t_605, t_1, t_602, t_603, t_604⟩
theorem lk_V_L_37 : LkV RL 37 MX8_fault := ⟨t_610, t_1, t_607, t_608, t_609⟩
theorem lk_V_L_41 : LkV RL 41 MX8_look := ⟨t_644, t_1, t_641, t_642, t_643⟩
theorem lk_V_L_45 : LkV RL 45 MX8_fine := ⟨t_661, t_1, t_658, t_659, t_660⟩
theorem lk_V_L_49 : LkV RL 49 MX8_mend := ⟨t_669, t_1, t_666, t_667, t_668⟩
theorem lk_V_L_53 : LkV RL 53 MX8_dawn := ⟨t_674, t_1, t_671, t_672, t_673⟩
theorem lk_V_L_57 : LkV RL 57 MX8_day := ⟨t_692, t_1, t_689, t_690, t_691⟩
theorem lk_V_L_61 : LkV RL 61 MX8_would := ⟨t_735, t_1, t_732, t_733, t_734⟩
theorem lk_V_L_65 : LkV RL 65 MX8_row := ⟨t_748, t_1, t_745, t_746, t_747⟩
theorem lk_V_L_69 : LkV RL 69 MX8_worth := ⟨t_752, t_1, t_749, t_750, t_751⟩
theorem lk_V_L_74 : LkV RL 74 MX8_seen := ⟨t_771, t_1, t_768, t_769, t_770⟩
theorem lk_V_L_79 : LkV RL 79 MX8_best := ⟨t_775, t_1, t_772, t_773, t_774⟩
theorem lk_V_L_83 : LkV RL 83 MX8_master := ⟨t_808, t_1, t_805, t_806, t_807⟩
theorem lk_V_L_87 : LkV RL 87 MX8_game := ⟨t_833, t_1, t_830, t_831, t_832⟩
theorem lk_V_L_91 : LkV RL 91 MX8_rests := ⟨t_837, t_1, t_834, t_835, t_836⟩
theorem lk_V_L_95 : LkV RL 95 MX8_mixed := ⟨t_841, t_1, t_838, t_839, t_840⟩
theorem lk_V_L_99 : LkV RL 99 MX8_checks := ⟨t_849, t_1, t_846, t_847, t_848⟩
theorem lk_V_L_103 : LkV RL 103 MX8_fits := ⟨t_853, t_1, t_850, t_851, t_852⟩
theorem lk_V_L_107 : LkV RL 107 MX8_seed := ⟨t_688, t_1, t_685, t_686, t_687⟩
theorem lk_V_L_111 : LkV RL 111 MX8_weeks := ⟨t_744, t_1, t_741, t_742, t_743⟩
theorem lk_V_L_116 : LkV RL 116 MX8_count := ⟨t_629, t_1, t_626, t_627, t_628⟩
theorem lk_V_L_120 : LkV RL 120 MX8_coins := ⟨t_639, t_1, t_636, t_637, t_638⟩
theorem lk_V_L_124 : LkV RL 124 MX8_image := ⟨t_865, t_1, t_862, t_863, t_864⟩
theorem lk_V_L_128 : LkV RL 128 MX8_back := ⟨t_875, t_1, t_872, t_873, t_874⟩
theorem lk_V_L_17 : LkV RL 17 MX9_feed := ⟨t_995, t_9, t_992, t_993, t_994⟩
theorem lk_V_L_22 : LkV RL 22 MX9_end := ⟨t_1003, t_9, t_1000, t_1001, t_1002⟩
theorem lk_V_L_27 : LkV RL 27 MX9_work := ⟨t_1143, t_9, t_1140, t_1141, t_1142⟩
theorem lk_V_L_31 : LkV RL 31 MX9_rule := ⟨t_1007, t_9, t_1004, t_1005, t_1006⟩
theorem lk_V_L_36 : LkV RL 36 MX9_kind := ⟨t_1147, t_9, t_1144, t_1145, t_1146⟩
theorem lk_V_L_40 : LkV RL 40 MX9_fault := ⟨t_1152, t_9, t_1149, t_1150, t_1151⟩
theorem lk_V_L_44 : LkV RL 44 MX9_look := ⟨t_1169, t_9, t_1166, t_1167, t_1168⟩
theorem lk_V_L_48 : LkV RL 48 MX9_fine := ⟨t_1193, t_9, t_1190, t_1191, t_1192⟩
theorem lk_V_L_52 : LkV RL 52 MX9_mend := ⟨t_1203, t_9, t_1200, t_1201, t_1202⟩
theorem lk_V_L_56 : LkV RL 56 MX9_dawn := ⟨t_1207, t_9, t_1204, t_1205, t_1206⟩
theorem lk_V_L_60 : LkV RL 60 MX9_day := ⟨t_1219, t_9, t_1216, t_1217, t_1218⟩
theorem lk_V_L_64 : LkV RL 64 MX9_would := ⟨t_1269, t_9, t_1266, t_1267, t_1268⟩
theorem lk_V_L_68 : LkV RL 68 MX9_row := ⟨t_1282, t_9, t_1279, t_1280, t_1281⟩
theorem lk_V_L_73 : LkV RL 73 MX9_worth := ⟨t_1286, t_9, t_1283, t_1284, t_1285⟩
theorem lk_V_L_78 : LkV RL 78 MX9_seen := ⟨t_1314, t_9, t_1311, t_1312, t_1313⟩
theorem lk_V_L_82 : LkV RL 82 MX9_best := ⟨t_1318, t_9, t_1315, t_1316, t_1317⟩
theorem lk_V_L_86 : LkV RL 86 MX9_master := ⟨t_1343, t_9, t_1340, t_1341, t_1342⟩
theorem lk_V_L_90 : LkV RL 90 MX9_game := ⟨t_1348, t_9, t_1345, t_1346, t_1347⟩
theorem lk_V_L_94 : LkV RL 94 MX9_rests := ⟨t_1355, t_9, t_1352, t_1353, t_1354⟩
theorem lk_V_L_98 : LkV RL 98 MX9_mixed := ⟨t_1363, t_9, t_1360, t_1361, t_1362⟩
theorem lk_V_L_102 : LkV RL 102 MX9_checks := ⟨t_1368, t_9, t_1365, t_1366, t_1367⟩
theorem lk_V_L_106 : LkV RL 106 MX9_fits := ⟨t_1373, t_9, t_1370, t_1371, t_1372⟩
theorem lk_V_L_110 : LkV RL 110 MX9_seed := ⟨t_1381, t_9, t_1378, t_1379, t_1380⟩
theorem lk_V_L_115 : LkV RL 115 MX9_weeks := ⟨t_1385, t_9, t_1382, t_1383, t_1384⟩
theorem lk_V_L_119 : LkV RL 119 MX9_count := ⟨t_1394, t_9, t_1391, t_1392, t_1393⟩
theorem lk_V_L_123 : LkV RL 123 MX9_coins := ⟨t_1390, t_9, t_1387, t_1388, t_1389⟩
theorem lk_V_L_127 : LkV RL 127 MX9_image := ⟨t_1398, t_9, t_1395, t_1396, t_1397⟩
theorem lk_V_L_131 : LkV RL 131 MX9_back := ⟨t_1403, t_9, t_1400, t_1401, t_1402⟩
theorem lk_I_8_49 : LkI RX8 49 MX0_init := ⟨t_128, t_4, t_195, t_127, rfl, rfl⟩
theorem lk_I_4_11 : LkI RX4 11 MX6_init := ⟨t_206, t_6, t_204, t_205, rfl, rfl⟩
theorem lk_I_8_56 : LkI RX8 56 MX4_init := ⟨t_200, t_5, t_198, t_199, rfl, rfl⟩
theorem lk_I_8_63 : LkI RX8 63 MX2_init := ⟨t_272, t_7, t_270, t_271, rfl, rfl⟩
theorem lk_I_8_70 : LkI RX8 70 MX1_init := ⟨t_283, t_8, t_281, t_282, rfl, rfl⟩
theorem lk_I_L_9 : LkI RL 9 MX8_init := ⟨t_23, t_1, t_21, t_22, rfl, rfl⟩
theorem lk_I_L_12 : LkI RL 12 MX9_init := ⟨t_880, t_9, t_878, t_879, rfl, rfl⟩
