theorem dX6_cutToken_33 : decode cX6_cutToken 33 = .ok (.ireturn, 1) := by decide +kernel
theorem dX6_cutToken_34 : decode cX6_cutToken 34 = .ok (.iload 4, 2) := by decide +kernel
theorem dX6_cutToken_36 : decode cX6_cutToken 36 = .ok (.invokestatic 53, 3) := by decide +kernel
theorem dX6_cutToken_39 : decode cX6_cutToken 39 = .ok (.ifCond .eq 11, 3) := by decide +kernel
theorem dX6_cutToken_42 : decode cX6_cutToken 42 = .ok (.aload_n 0, 1) := by decide +kernel
theorem dX6_cutToken_43 : decode cX6_cutToken 43 = .ok (.aload_n 1, 1) := by decide +kernel
theorem dX6_cutToken_44 : decode cX6_cutToken 44 = .ok (.iload_n 2, 1) := by decide +kernel
theorem dX6_cutToken_45 : decode cX6_cutToken 45 = .ok (.iload_n 3, 1) := by decide +kernel
theorem dX6_cutToken_46 : decode cX6_cutToken 46 = .ok (.invokevirtual 56, 3) := by decide +kernel
theorem dX6_cutToken_49 : decode cX6_cutToken 49 = .ok (.ireturn, 1) := by decide +kernel
theorem dX6_cutToken_50 : decode cX6_cutToken 50 = .ok (.iload 4, 2) := by decide +kernel
theorem dX6_cutToken_52 : decode cX6_cutToken 52 = .ok (.bipush 60, 2) := by decide +kernel
theorem dX6_cutToken_54 : decode cX6_cutToken 54 = .ok (.if_icmp .eq 10, 3) := by decide +kernel
theorem dX6_cutToken_57 : decode cX6_cutToken 57 = .ok (.iload 4, 2) := by decide +kernel
theorem dX6_cutToken_59 : decode cX6_cutToken 59 = .ok (.bipush 62, 2) := by decide +kernel
theorem dX6_cutToken_61 : decode cX6_cutToken 61 = .ok (.if_icmp .ne 26, 3) := by decide +kernel
theorem dX6_cutToken_64 : decode cX6_cutToken 64 = .ok (.iload_n 2, 1) := by decide +kernel
theorem dX6_cutToken_65 : decode cX6_cutToken 65 = .ok (.iconst 1, 1) := by decide +kernel
theorem dX6_cutToken_66 : decode cX6_cutToken 66 = .ok (.iadd, 1) := by decide +kernel
theorem dX6_cutToken_67 : decode cX6_cutToken 67 = .ok (.iload_n 3, 1) := by decide +kernel
theorem dX6_cutToken_68 : decode cX6_cutToken 68 = .ok (.if_icmp .ge 19, 3) := by decide +kernel
theorem dX6_cutToken_71 : decode cX6_cutToken 71 = .ok (.aload_n 1, 1) := by decide +kernel
theorem dX6_cutToken_72 : decode cX6_cutToken 72 = .ok (.iload_n 2, 1) := by decide +kernel
theorem dX6_cutToken_73 : decode cX6_cutToken 73 = .ok (.iconst 1, 1) := by decide +kernel
theorem dX6_cutToken_74 : decode cX6_cutToken 74 = .ok (.iadd, 1) := by decide +kernel
theorem dX6_cutToken_75 : decode cX6_cutToken 75 = .ok (.invokestatic 42, 3) := by decide +kernel
theorem dX6_cutToken_78 : decode cX6_cutToken 78 = .ok (.bipush 61, 2) := by decide +kernel
theorem dX6_cutToken_80 : decode cX6_cutToken 80 = .ok (.if_icmp .ne 7, 3) := by decide +kernel
theorem dX6_cutToken_83 : decode cX6_cutToken 83 = .ok (.iconst 1, 1) := by decide +kernel
theorem dX6_cutToken_84 : decode cX6_cutToken 84 = .ok (.goto 4, 3) := by decide +kernel
theorem dX6_cutToken_87 : decode cX6_cutToken 87 = .ok (.iconst 0, 1) := by decide +kernel
theorem dX6_cutToken_88 : decode cX6_cutToken 88 = .ok (.istore 5, 2) := by decide +kernel
theorem dX6_cutToken_90 : decode cX6_cutToken 90 = .ok (.iload 5, 2) := by decide +kernel
theorem dX6_cutToken_92 : decode cX6_cutToken 92 = .ok (.ifCond .eq 29, 3) := by decide +kernel
theorem dX6_cutToken_95 : decode cX6_cutToken 95 = .ok (.aload_n 0, 1) := by decide +kernel
theorem dX6_cutToken_96 : decode cX6_cutToken 96 = .ok (.iload 4, 2) := by decide +kernel
theorem dX6_cutToken_98 : decode cX6_cutToken 98 = .ok (.bipush 60, 2) := by decide +kernel
theorem dX6_cutToken_100 : decode cX6_cutToken 100 = .ok (.if_icmp .ne 9, 3) := by decide +kernel
theorem dX6_cutToken_103 : decode cX6_cutToken 103 = .ok (.sipush 256, 3) := by decide +kernel
theorem dX6_cutToken_106 : decode cX6_cutToken 106 = .ok (.goto 6, 3) := by decide +kernel
theorem dX6_cutToken_109 : decode cX6_cutToken 109 = .ok (.sipush 257, 3) := by decide +kernel
theorem dX6_cutToken_112 : decode cX6_cutToken 112 = .ok (.iload_n 2, 1) := by decide +kernel
theorem dX6_cutToken_113 : decode cX6_cutToken 113 = .ok (.iconst 0, 1) := by decide +kernel
theorem dX6_cutToken_114 : decode cX6_cutToken 114 = .ok (.invokevirtual 29, 3) := by decide +kernel
theorem dX6_cutToken_117 : decode cX6_cutToken 117 = .ok (.iload_n 2, 1) := by decide +kernel
theorem dX6_cutToken_118 : decode cX6_cutToken 118 = .ok (.iconst 2, 1) := by decide +kernel
theorem dX6_cutToken_119 : decode cX6_cutToken 119 = .ok (.iadd, 1) := by decide +kernel
theorem dX6_cutToken_120 : decode cX6_cutToken 120 = .ok (.ireturn, 1) := by decide +kernel
theorem dX6_cutToken_121 : decode cX6_cutToken 121 = .ok (.aload_n 0, 1) := by decide +kernel
theorem dX6_cutToken_122 : decode cX6_cutToken 122 = .ok (.iload 4, 2) := by decide +kernel
theorem dX6_cutToken_124 : decode cX6_cutToken 124 = .ok (.iload_n 2, 1) := by decide +kernel
theorem dX6_cutToken_125 : decode cX6_cutToken 125 = .ok (.iconst 0, 1) := by decide +kernel
theorem dX6_cutToken_126 : decode cX6_cutToken 126 = .ok (.invokevirtual 29, 3) := by decide +kernel
theorem dX6_cutToken_129 : decode cX6_cutToken 129 = .ok (.iload_n 2, 1) := by decide +kernel
theorem dX6_cutToken_130 : decode cX6_cutToken 130 = .ok (.iconst 1, 1) := by decide +kernel
theorem dX6_cutToken_131 : decode cX6_cutToken 131 = .ok (.iadd, 1) := by decide +kernel
theorem dX6_cutToken_132 : decode cX6_cutToken 132 = .ok (.ireturn, 1) := by decide +kernel
theorem dX6_cutWord_0 : decode cX6_cutWord 0 = .ok (.iload_n 2, 1) := by decide +kernel
theorem dX6_cutWord_1 : decode cX6_cutWord 1 = .ok (.istore 4, 2) := by decide +kernel
theorem dX6_cutWord_3 : decode cX6_cutWord 3 = .ok (.iload 4, 2) := by decide +kernel
theorem dX6_cutWord_5 : decode cX6_cutWord 5 = .ok (.iload_n 3, 1) := by decide +kernel
theorem dX6_cutWord_6 : decode cX6_cutWord 6 = .ok (.if_icmp .ge 21, 3) := by decide +kernel
theorem dX6_cutWord_9 : decode cX6_cutWord 9 = .ok (.aload_n 1, 1) := by decide +kernel
theorem dX6_cutWord_10 : decode cX6_cutWord 10 = .ok (.iload 4, 2) := by decide +kernel
theorem dX6_cutWord_12 : decode cX6_cutWord 12 = .ok (.invokestatic 42, 3) := by decide +kernel
theorem dX6_cutWord_15 : decode cX6_cutWord 15 = .ok (.invokestatic 53, 3) := by decide +kernel
theorem dX6_cutWord_18 : decode cX6_cutWord 18 = .ok (.ifCond .eq 9, 3) := by decide +kernel
theorem dX6_cutWord_21 : decode cX6_cutWord 21 = .ok (.iinc 4 1, 3) := by decide +kernel
theorem dX6_cutWord_24 : decode cX6_cutWord 24 = .ok (.goto (-21), 3) := by decide +kernel
theorem dX6_cutWord_27 : decode cX6_cutWord 27 = .ok (.aload_n 1, 1) := by decide +kernel
theorem dX6_cutWord_28 : decode cX6_cutWord 28 = .ok (.iload_n 2, 1) := by decide +kernel
theorem dX6_cutWord_29 : decode cX6_cutWord 29 = .ok (.iload 4, 2) := by decide +kernel
theorem dX6_cutWord_31 : decode cX6_cutWord 31 = .ok (.invokestatic 59, 3) := by decide +kernel
theorem dX6_cutWord_34 : decode cX6_cutWord 34 = .ok (.istore 5, 2) := by decide +kernel
theorem dX6_cutWord_36 : decode cX6_cutWord 36 = .ok (.aload_n 0, 1) := by decide +kernel
theorem dX6_cutWord_37 : decode cX6_cutWord 37 = .ok (.iload 5, 2) := by decide +kernel
theorem dX6_cutWord_39 : decode cX6_cutWord 39 = .ok (.sipush 303, 3) := by decide +kernel
theorem dX6_cutWord_42 : decode cX6_cutWord 42 = .ok (.if_icmp .ne 13, 3) := by decide +kernel
theorem dX6_cutWord_45 : decode cX6_cutWord 45 = .ok (.aload_n 1, 1) := by decide +kernel
theorem dX6_cutWord_46 : decode cX6_cutWord 46 = .ok (.iload_n 2, 1) := by decide +kernel
theorem dX6_cutWord_47 : decode cX6_cutWord 47 = .ok (.iload 4, 2) := by decide +kernel
theorem dX6_cutWord_49 : decode cX6_cutWord 49 = .ok (.invokestatic 62, 3) := by decide +kernel
theorem dX6_cutWord_52 : decode cX6_cutWord 52 = .ok (.goto 5, 3) := by decide +kernel
theorem dX6_cutWord_55 : decode cX6_cutWord 55 = .ok (.iload 5, 2) := by decide +kernel
theorem dX6_cutWord_57 : decode cX6_cutWord 57 = .ok (.iload_n 2, 1) := by decide +kernel
theorem dX6_cutWord_58 : decode cX6_cutWord 58 = .ok (.iconst 0, 1) := by decide +kernel
theorem dX6_cutWord_59 : decode cX6_cutWord 59 = .ok (.invokevirtual 29, 3) := by decide +kernel
theorem dX6_cutWord_62 : decode cX6_cutWord 62 = .ok (.iload 4, 2) := by decide +kernel
theorem dX6_cutWord_64 : decode cX6_cutWord 64 = .ok (.ireturn, 1) := by decide +kernel
theorem dX6_fail_0 : decode cX6_fail 0 = .ok (.aload_n 0, 1) := by decide +kernel
theorem dX6_fail_1 : decode cX6_fail 1 = .ok (.getfield 33, 3) := by decide +kernel
theorem dX6_fail_4 : decode cX6_fail 4 = .ok (.ifCond .ne 18, 3) := by decide +kernel
theorem dX6_fail_7 : decode cX6_fail 7 = .ok (.aload_n 0, 1) := by decide +kernel
theorem dX6_fail_8 : decode cX6_fail 8 = .ok (.iconst 1, 1) := by decide +kernel
theorem dX6_fail_9 : decode cX6_fail 9 = .ok (.bipush 8, 2) := by decide +kernel
theorem dX6_fail_11 : decode cX6_fail 11 = .ok (.aload_n 0, 1) := by decide +kernel
theorem dX6_fail_12 : decode cX6_fail 12 = .ok (.getfield 115, 3) := by decide +kernel
theorem dX6_fail_15 : decode cX6_fail 15 = .ok (.imul, 1) := by decide +kernel
theorem dX6_fail_16 : decode cX6_fail 16 = .ok (.iadd, 1) := by decide +kernel
theorem dX6_fail_17 : decode cX6_fail 17 = .ok (.iload_n 1, 1) := by decide +kernel
theorem dX6_fail_18 : decode cX6_fail 18 = .ok (.iadd, 1) := by decide +kernel
theorem dX6_fail_19 : decode cX6_fail 19 = .ok (.putfield 33, 3) := by decide +kernel
theorem dX6_fail_22 : decode cX6_fail 22 = .ok (.return_, 1) := by decide +kernel
theorem dX6_isDigit_0 : decode cX6_isDigit 0 = .ok (.iload_n 0, 1) := by decide +kernel
theorem dX6_isDigit_1 : decode cX6_isDigit 1 = .ok (.bipush 48, 2) := by decide +kernel
theorem dX6_isDigit_3 : decode cX6_isDigit 3 = .ok (.if_icmp .lt 13, 3) := by decide +kernel
theorem dX6_isDigit_6 : decode cX6_isDigit 6 = .ok (.iload_n 0, 1) := by decide +kernel
theorem dX6_isDigit_7 : decode cX6_isDigit 7 = .ok (.bipush 57, 2) := by decide +kernel
theorem dX6_isDigit_9 : decode cX6_isDigit 9 = .ok (.if_icmp .gt 7, 3) := by decide +kernel
theorem dX6_isDigit_12 : decode cX6_isDigit 12 = .ok (.iconst 1, 1) := by decide +kernel
theorem dX6_isDigit_13 : decode cX6_isDigit 13 = .ok (.goto 4, 3) := by decide +kernel
theorem dX6_isDigit_16 : decode cX6_isDigit 16 = .ok (.iconst 0, 1) := by decide +kernel
theorem dX6_isDigit_17 : decode cX6_isDigit 17 = .ok (.ireturn, 1) := by decide +kernel
theorem dX6_isLetter_0 : decode cX6_isLetter 0 = .ok (.iload_n 0, 1) := by decide +kernel
theorem dX6_isLetter_1 : decode cX6_isLetter 1 = .ok (.bipush 97, 2) := by decide +kernel
theorem dX6_isLetter_3 : decode cX6_isLetter 3 = .ok (.if_icmp .lt 13, 3) := by decide +kernel
theorem dX6_isLetter_6 : decode cX6_isLetter 6 = .ok (.iload_n 0, 1) := by decide +kernel
theorem dX6_isLetter_7 : decode cX6_isLetter 7 = .ok (.bipush 122, 2) := by decide +kernel
theorem dX6_isLetter_9 : decode cX6_isLetter 9 = .ok (.if_icmp .gt 7, 3) := by decide +kernel
theorem dX6_isLetter_12 : decode cX6_isLetter 12 = .ok (.iconst 1, 1) := by decide +kernel
theorem dX6_isLetter_13 : decode cX6_isLetter 13 = .ok (.goto 4, 3) := by decide +kernel
theorem dX6_isLetter_16 : decode cX6_isLetter 16 = .ok (.iconst 0, 1) := by decide +kernel
theorem dX6_isLetter_17 : decode cX6_isLetter 17 = .ok (.ireturn, 1) := by decide +kernel
theorem dX6_open_0 : decode cX6_open 0 = .ok (.aload_n 0, 1) := by decide +kernel
theorem dX6_open_1 : decode cX6_open 1 = .ok (.iconst 0, 1) := by decide +kernel
theorem dX6_open_2 : decode cX6_open 2 = .ok (.putfield 21, 3) := by decide +kernel
theorem dX6_open_5 : decode cX6_open 5 = .ok (.iconst 0, 1) := by decide +kernel
theorem dX6_open_6 : decode cX6_open 6 = .ok (.istore_n 3, 1) := by decide +kernel
theorem dX6_open_7 : decode cX6_open 7 = .ok (.iconst 0, 1) := by decide +kernel
theorem dX6_open_8 : decode cX6_open 8 = .ok (.istore 4, 2) := by decide +kernel
theorem dX6_open_10 : decode cX6_open 10 = .ok (.iload 4, 2) := by decide +kernel
theorem dX6_open_12 : decode cX6_open 12 = .ok (.sipush 400, 3) := by decide +kernel
theorem dX6_open_15 : decode cX6_open 15 = .ok (.if_icmp .ge 22, 3) := by decide +kernel
theorem dX6_open_18 : decode cX6_open 18 = .ok (.iload_n 3, 1) := by decide +kernel
theorem dX6_open_19 : decode cX6_open 19 = .ok (.iload_n 2, 1) := by decide +kernel
theorem dX6_open_20 : decode cX6_open 20 = .ok (.if_icmp .ge 17, 3) := by decide +kernel
theorem dX6_open_23 : decode cX6_open 23 = .ok (.aload_n 0, 1) := by decide +kernel
theorem dX6_open_24 : decode cX6_open 24 = .ok (.aload_n 1, 1) := by decide +kernel
theorem dX6_open_25 : decode cX6_open 25 = .ok (.iload_n 3, 1) := by decide +kernel
theorem dX6_open_26 : decode cX6_open 26 = .ok (.iload_n 2, 1) := by decide +kernel
theorem dX6_open_27 : decode cX6_open 27 = .ok (.invokevirtual 25, 3) := by decide +kernel
theorem dX6_open_30 : decode cX6_open 30 = .ok (.istore_n 3, 1) := by decide +kernel
theorem dX6_open_31 : decode cX6_open 31 = .ok (.iinc 4 1, 3) := by decide +kernel
theorem dX6_open_34 : decode cX6_open 34 = .ok (.goto (-24), 3) := by decide +kernel
theorem dX6_open_37 : decode cX6_open 37 = .ok (.aload_n 0, 1) := by decide +kernel
theorem dX6_open_38 : decode cX6_open 38 = .ok (.sipush 300, 3) := by decide +kernel
theorem dX6_open_41 : decode cX6_open 41 = .ok (.iload_n 2, 1) := by decide +kernel
theorem dX6_open_42 : decode cX6_open 42 = .ok (.iconst 0, 1) := by decide +kernel
theorem dX6_open_43 : decode cX6_open 43 = .ok (.invokevirtual 29, 3) := by decide +kernel
theorem dX6_open_46 : decode cX6_open 46 = .ok (.aload_n 0, 1) := by decide +kernel
theorem dX6_open_47 : decode cX6_open 47 = .ok (.iconst 0, 1) := by decide +kernel
theorem dX6_open_48 : decode cX6_open 48 = .ok (.putfield 33, 3) := by decide +kernel
theorem dX6_open_51 : decode cX6_open 51 = .ok (.aload_n 0, 1) := by decide +kernel
theorem dX6_open_52 : decode cX6_open 52 = .ok (.iconst 0, 1) := by decide +kernel
theorem dX6_open_53 : decode cX6_open 53 = .ok (.putfield 36, 3) := by decide +kernel
theorem dX6_open_56 : decode cX6_open 56 = .ok (.aload_n 0, 1) := by decide +kernel
theorem dX6_open_57 : decode cX6_open 57 = .ok (.invokevirtual 39, 3) := by decide +kernel
theorem dX6_open_60 : decode cX6_open 60 = .ok (.return_, 1) := by decide +kernel
theorem dX6_spells_0 : decode cX6_spells 0 = .ok (.iload_n 2, 1) := by decide +kernel
theorem dX6_spells_1 : decode cX6_spells 1 = .ok (.iload_n 1, 1) := by decide +kernel
theorem dX6_spells_2 : decode cX6_spells 2 = .ok (.isub, 1) := by decide +kernel
theorem dX6_spells_3 : decode cX6_spells 3 = .ok (.aload_n 3, 1) := by decide +kernel
theorem dX6_spells_4 : decode cX6_spells 4 = .ok (.invokevirtual 102, 3) := by decide +kernel
theorem dX6_spells_7 : decode cX6_spells 7 = .ok (.if_icmp .eq 5, 3) := by decide +kernel
theorem dX6_spells_10 : decode cX6_spells 10 = .ok (.iconst 0, 1) := by decide +kernel
theorem dX6_spells_11 : decode cX6_spells 11 = .ok (.ireturn, 1) := by decide +kernel
theorem dX6_spells_12 : decode cX6_spells 12 = .ok (.iconst 0, 1) := by decide +kernel
theorem dX6_spells_13 : decode cX6_spells 13 = .ok (.istore 4, 2) := by decide +kernel
theorem dX6_spells_15 : decode cX6_spells 15 = .ok (.iload 4, 2) := by decide +kernel
theorem dX6_spells_17 : decode cX6_spells 17 = .ok (.aload_n 3, 1) := by decide +kernel
theorem dX6_spells_18 : decode cX6_spells 18 = .ok (.invokevirtual 102, 3) := by decide +kernel
theorem dX6_spells_21 : decode cX6_spells 21 = .ok (.if_icmp .ge 28, 3) := by decide +kernel
theorem dX6_spells_24 : decode cX6_spells 24 = .ok (.aload_n 0, 1) := by decide +kernel
theorem dX6_spells_25 : decode cX6_spells 25 = .ok (.iload_n 1, 1) := by decide +kernel
theorem dX6_spells_26 : decode cX6_spells 26 = .ok (.iload 4, 2) := by decide +kernel
theorem dX6_spells_28 : decode cX6_spells 28 = .ok (.iadd, 1) := by decide +kernel
theorem dX6_spells_29 : decode cX6_spells 29 = .ok (.invokestatic 42, 3) := by decide +kernel
theorem dX6_spells_32 : decode cX6_spells 32 = .ok (.aload_n 3, 1) := by decide +kernel
theorem dX6_spells_33 : decode cX6_spells 33 = .ok (.iload 4, 2) := by decide +kernel
theorem dX6_spells_35 : decode cX6_spells 35 = .ok (.invokevirtual 108, 3) := by decide +kernel
theorem dX6_spells_38 : decode cX6_spells 38 = .ok (.if_icmp .eq 5, 3) := by decide +kernel
theorem dX6_spells_41 : decode cX6_spells 41 = .ok (.iconst 0, 1) := by decide +kernel
theorem dX6_spells_42 : decode cX6_spells 42 = .ok (.ireturn, 1) := by decide +kernel
theorem dX6_spells_43 : decode cX6_spells 43 = .ok (.iinc 4 1, 3) := by decide +kernel
theorem dX6_spells_46 : decode cX6_spells 46 = .ok (.goto (-31), 3) := by decide +kernel
theorem dX6_spells_49 : decode cX6_spells 49 = .ok (.iconst 1, 1) := by decide +kernel
theorem dX6_spells_50 : decode cX6_spells 50 = .ok (.ireturn, 1) := by decide +kernel
theorem dX6_step_0 : decode cX6_step 0 = .ok (.aload_n 0, 1) := by decide +kernel
theorem dX6_step_1 : decode cX6_step 1 = .ok (.getfield 36, 3) := by decide +kernel
theorem dX6_step_4 : decode cX6_step 4 = .ok (.ifCond .lt 75, 3) := by decide +kernel
theorem dX6_step_7 : decode cX6_step 7 = .ok (.aload_n 0, 1) := by decide +kernel
theorem dX6_step_8 : decode cX6_step 8 = .ok (.getfield 36, 3) := by decide +kernel
theorem dX6_step_11 : decode cX6_step 11 = .ok (.aload_n 0, 1) := by decide +kernel
theorem dX6_step_12 : decode cX6_step 12 = .ok (.getfield 21, 3) := by decide +kernel
theorem dX6_step_15 : decode cX6_step 15 = .ok (.if_icmp .ge 64, 3) := by decide +kernel
theorem dX6_step_18 : decode cX6_step 18 = .ok (.aload_n 0, 1) := by decide +kernel
theorem dX6_step_19 : decode cX6_step 19 = .ok (.getfield 36, 3) := by decide +kernel
theorem dX6_step_22 : decode cX6_step 22 = .ok (.aload_n 0, 1) := by decide +kernel
theorem dX6_step_23 : decode cX6_step 23 = .ok (.getfield 9, 3) := by decide +kernel
theorem dX6_step_26 : decode cX6_step 26 = .ok (.arraylength, 1) := by decide +kernel
theorem dX6_step_27 : decode cX6_step 27 = .ok (.if_icmp .ge 52, 3) := by decide +kernel
theorem dX6_step_30 : decode cX6_step 30 = .ok (.aload_n 0, 1) := by decide +kernel
theorem dX6_step_31 : decode cX6_step 31 = .ok (.aload_n 0, 1) := by decide +kernel
theorem dX6_step_32 : decode cX6_step 32 = .ok (.getfield 9, 3) := by decide +kernel
theorem dX6_step_35 : decode cX6_step 35 = .ok (.aload_n 0, 1) := by decide +kernel
theorem dX6_step_36 : decode cX6_step 36 = .ok (.getfield 36, 3) := by decide +kernel
theorem dX6_step_39 : decode cX6_step 39 = .ok (.iaload, 1) := by decide +kernel
theorem dX6_step_40 : decode cX6_step 40 = .ok (.putfield 112, 3) := by decide +kernel
theorem dX6_step_43 : decode cX6_step 43 = .ok (.aload_n 0, 1) := by decide +kernel
theorem dX6_step_44 : decode cX6_step 44 = .ok (.aload_n 0, 1) := by decide +kernel
theorem dX6_step_45 : decode cX6_step 45 = .ok (.getfield 15, 3) := by decide +kernel
theorem dX6_step_48 : decode cX6_step 48 = .ok (.aload_n 0, 1) := by decide +kernel
theorem dX6_step_49 : decode cX6_step 49 = .ok (.getfield 36, 3) := by decide +kernel
theorem dX6_step_52 : decode cX6_step 52 = .ok (.iaload, 1) := by decide +kernel
theorem dX6_step_53 : decode cX6_step 53 = .ok (.putfield 115, 3) := by decide +kernel
theorem dX6_step_56 : decode cX6_step 56 = .ok (.aload_n 0, 1) := by decide +kernel
theorem dX6_step_57 : decode cX6_step 57 = .ok (.aload_n 0, 1) := by decide +kernel
theorem dX6_step_58 : decode cX6_step 58 = .ok (.getfield 18, 3) := by decide +kernel
theorem dX6_step_61 : decode cX6_step 61 = .ok (.aload_n 0, 1) := by decide +kernel
theorem dX6_step_62 : decode cX6_step 62 = .ok (.getfield 36, 3) := by decide +kernel
theorem dX6_step_65 : decode cX6_step 65 = .ok (.iaload, 1) := by decide +kernel
theorem dX6_step_66 : decode cX6_step 66 = .ok (.putfield 118, 3) := by decide +kernel
theorem dX6_step_69 : decode cX6_step 69 = .ok (.aload_n 0, 1) := by decide +kernel
theorem dX6_step_70 : decode cX6_step 70 = .ok (.dup, 1) := by decide +kernel
theorem dX6_step_71 : decode cX6_step 71 = .ok (.getfield 36, 3) := by decide +kernel
theorem dX6_step_74 : decode cX6_step 74 = .ok (.iconst 1, 1) := by decide +kernel
theorem dX6_step_75 : decode cX6_step 75 = .ok (.iadd, 1) := by decide +kernel
theorem dX6_step_76 : decode cX6_step 76 = .ok (.putfield 36, 3) := by decide +kernel
theorem dX6_step_79 : decode cX6_step 79 = .ok (.return_, 1) := by decide +kernel
theorem dX6_takeNumber_0 : decode cX6_takeNumber 0 = .ok (.aload_n 0, 1) := by decide +kernel
theorem dX6_takeNumber_1 : decode cX6_takeNumber 1 = .ok (.getfield 118, 3) := by decide +kernel
theorem dX6_takeNumber_4 : decode cX6_takeNumber 4 = .ok (.istore_n 3, 1) := by decide +kernel
theorem dX6_takeNumber_5 : decode cX6_takeNumber 5 = .ok (.aload_n 0, 1) := by decide +kernel
theorem dX6_takeNumber_6 : decode cX6_takeNumber 6 = .ok (.getfield 33, 3) := by decide +kernel
theorem dX6_takeNumber_9 : decode cX6_takeNumber 9 = .ok (.ifCond .eq 5, 3) := by decide +kernel
theorem dX6_takeNumber_12 : decode cX6_takeNumber 12 = .ok (.iconst 0, 1) := by decide +kernel
theorem dX6_takeNumber_13 : decode cX6_takeNumber 13 = .ok (.ireturn, 1) := by decide +kernel
theorem dX6_takeNumber_14 : decode cX6_takeNumber 14 = .ok (.aload_n 0, 1) := by decide +kernel
theorem dX6_takeNumber_15 : decode cX6_takeNumber 15 = .ok (.getfield 112, 3) := by decide +kernel
theorem dX6_takeNumber_18 : decode cX6_takeNumber 18 = .ok (.sipush 301, 3) := by decide +kernel
theorem dX6_takeNumber_21 : decode cX6_takeNumber 21 = .ok (.if_icmp .ne 20, 3) := by decide +kernel
theorem dX6_takeNumber_24 : decode cX6_takeNumber 24 = .ok (.iload_n 3, 1) := by decide +kernel
theorem dX6_takeNumber_25 : decode cX6_takeNumber 25 = .ok (.iload_n 1, 1) := by decide +kernel
theorem dX6_takeNumber_26 : decode cX6_takeNumber 26 = .ok (.if_icmp .lt 15, 3) := by decide +kernel
theorem dX6_takeNumber_29 : decode cX6_takeNumber 29 = .ok (.iload_n 3, 1) := by decide +kernel
theorem dX6_takeNumber_30 : decode cX6_takeNumber 30 = .ok (.iload_n 2, 1) := by decide +kernel
theorem dX6_takeNumber_31 : decode cX6_takeNumber 31 = .ok (.if_icmp .gt 10, 3) := by decide +kernel
theorem dX6_takeNumber_34 : decode cX6_takeNumber 34 = .ok (.aload_n 0, 1) := by decide +kernel
theorem dX6_takeNumber_35 : decode cX6_takeNumber 35 = .ok (.invokevirtual 39, 3) := by decide +kernel
theorem dX6_takeNumber_38 : decode cX6_takeNumber 38 = .ok (.goto 32, 3) := by decide +kernel
theorem dX6_takeNumber_41 : decode cX6_takeNumber 41 = .ok (.aload_n 0, 1) := by decide +kernel
theorem dX6_takeNumber_42 : decode cX6_takeNumber 42 = .ok (.aload_n 0, 1) := by decide +kernel
theorem dX6_takeNumber_43 : decode cX6_takeNumber 43 = .ok (.getfield 112, 3) := by decide +kernel
theorem dX6_takeNumber_46 : decode cX6_takeNumber 46 = .ok (.sipush 301, 3) := by decide +kernel
theorem dX6_takeNumber_49 : decode cX6_takeNumber 49 = .ok (.if_icmp .eq 13, 3) := by decide +kernel
theorem dX6_takeNumber_52 : decode cX6_takeNumber 52 = .ok (.aload_n 0, 1) := by decide +kernel
theorem dX6_takeNumber_53 : decode cX6_takeNumber 53 = .ok (.getfield 112, 3) := by decide +kernel
theorem dX6_takeNumber_56 : decode cX6_takeNumber 56 = .ok (.sipush 302, 3) := by decide +kernel
theorem dX6_takeNumber_59 : decode cX6_takeNumber 59 = .ok (.if_icmp .ne 7, 3) := by decide +kernel
theorem dX6_takeNumber_62 : decode cX6_takeNumber 62 = .ok (.iconst 1, 1) := by decide +kernel
theorem dX6_takeNumber_63 : decode cX6_takeNumber 63 = .ok (.goto 4, 3) := by decide +kernel
theorem dX6_takeNumber_66 : decode cX6_takeNumber 66 = .ok (.iconst 0, 1) := by decide +kernel
theorem dX6_takeNumber_67 : decode cX6_takeNumber 67 = .ok (.invokevirtual 121, 3) := by decide +kernel
theorem dX6_takeNumber_70 : decode cX6_takeNumber 70 = .ok (.iload_n 3, 1) := by decide +kernel
theorem dX6_takeNumber_71 : decode cX6_takeNumber 71 = .ok (.ireturn, 1) := by decide +kernel
theorem dX6_valueWord_0 : decode cX6_valueWord 0 = .ok (.aload_n 0, 1) := by decide +kernel
theorem dX6_valueWord_1 : decode cX6_valueWord 1 = .ok (.iload_n 1, 1) := by decide +kernel
theorem dX6_valueWord_2 : decode cX6_valueWord 2 = .ok (.iload_n 2, 1) := by decide +kernel
theorem dX6_valueWord_3 : decode cX6_valueWord 3 = .ok (.ldc 85, 2) := by decide +kernel
theorem dX6_valueWord_5 : decode cX6_valueWord 5 = .ok (.invokestatic 67, 3) := by decide +kernel
theorem dX6_valueWord_8 : decode cX6_valueWord 8 = .ok (.ifCond .eq 9, 3) := by decide +kernel
theorem dX6_valueWord_11 : decode cX6_valueWord 11 = .ok (.sipush 312, 3) := by decide +kernel
theorem dX6_valueWord_14 : decode cX6_valueWord 14 = .ok (.goto 142, 3) := by decide +kernel
theorem dX6_valueWord_17 : decode cX6_valueWord 17 = .ok (.aload_n 0, 1) := by decide +kernel
theorem dX6_valueWord_18 : decode cX6_valueWord 18 = .ok (.iload_n 1, 1) := by decide +kernel
theorem dX6_valueWord_19 : decode cX6_valueWord 19 = .ok (.iload_n 2, 1) := by decide +kernel
theorem dX6_valueWord_20 : decode cX6_valueWord 20 = .ok (.ldc 86, 2) := by decide +kernel
theorem dX6_valueWord_22 : decode cX6_valueWord 22 = .ok (.invokestatic 67, 3) := by decide +kernel
theorem dX6_valueWord_25 : decode cX6_valueWord 25 = .ok (.ifCond .eq 9, 3) := by decide +kernel
theorem dX6_valueWord_28 : decode cX6_valueWord 28 = .ok (.sipush 313, 3) := by decide +kernel
theorem dX6_valueWord_31 : decode cX6_valueWord 31 = .ok (.goto 125, 3) := by decide +kernel
theorem dX6_valueWord_34 : decode cX6_valueWord 34 = .ok (.aload_n 0, 1) := by decide +kernel
theorem dX6_valueWord_35 : decode cX6_valueWord 35 = .ok (.iload_n 1, 1) := by decide +kernel
theorem dX6_valueWord_36 : decode cX6_valueWord 36 = .ok (.iload_n 2, 1) := by decide +kernel
theorem dX6_valueWord_37 : decode cX6_valueWord 37 = .ok (.ldc 88, 2) := by decide +kernel
theorem dX6_valueWord_39 : decode cX6_valueWord 39 = .ok (.invokestatic 67, 3) := by decide +kernel
theorem dX6_valueWord_42 : decode cX6_valueWord 42 = .ok (.ifCond .eq 9, 3) := by decide +kernel
theorem dX6_valueWord_45 : decode cX6_valueWord 45 = .ok (.sipush 314, 3) := by decide +kernel
theorem dX6_valueWord_48 : decode cX6_valueWord 48 = .ok (.goto 108, 3) := by decide +kernel
theorem dX6_valueWord_51 : decode cX6_valueWord 51 = .ok (.aload_n 0, 1) := by decide +kernel
theorem dX6_valueWord_52 : decode cX6_valueWord 52 = .ok (.iload_n 1, 1) := by decide +kernel
theorem dX6_valueWord_53 : decode cX6_valueWord 53 = .ok (.iload_n 2, 1) := by decide +kernel
theorem dX6_valueWord_54 : decode cX6_valueWord 54 = .ok (.ldc 90, 2) := by decide +kernel
theorem dX6_valueWord_56 : decode cX6_valueWord 56 = .ok (.invokestatic 67, 3) := by decide +kernel
theorem dX6_valueWord_59 : decode cX6_valueWord 59 = .ok (.ifCond .eq 9, 3) := by decide +kernel
theorem dX6_valueWord_62 : decode cX6_valueWord 62 = .ok (.sipush 315, 3) := by decide +kernel
theorem dX6_valueWord_65 : decode cX6_valueWord 65 = .ok (.goto 91, 3) := by decide +kernel
theorem dX6_valueWord_68 : decode cX6_valueWord 68 = .ok (.aload_n 0, 1) := by decide +kernel
theorem dX6_valueWord_69 : decode cX6_valueWord 69 = .ok (.iload_n 1, 1) := by decide +kernel
theorem dX6_valueWord_70 : decode cX6_valueWord 70 = .ok (.iload_n 2, 1) := by decide +kernel
theorem dX6_valueWord_71 : decode cX6_valueWord 71 = .ok (.ldc 92, 2) := by decide +kernel
theorem dX6_valueWord_73 : decode cX6_valueWord 73 = .ok (.invokestatic 67, 3) := by decide +kernel
theorem dX6_valueWord_76 : decode cX6_valueWord 76 = .ok (.ifCond .eq 9, 3) := by decide +kernel
theorem dX6_valueWord_79 : decode cX6_valueWord 79 = .ok (.sipush 316, 3) := by decide +kernel
theorem dX6_valueWord_82 : decode cX6_valueWord 82 = .ok (.goto 74, 3) := by decide +kernel
theorem dX6_valueWord_85 : decode cX6_valueWord 85 = .ok (.aload_n 0, 1) := by decide +kernel
theorem dX6_valueWord_86 : decode cX6_valueWord 86 = .ok (.iload_n 1, 1) := by decide +kernel
theorem dX6_valueWord_87 : decode cX6_valueWord 87 = .ok (.iload_n 2, 1) := by decide +kernel
theorem dX6_valueWord_88 : decode cX6_valueWord 88 = .ok (.ldc 94, 2) := by decide +kernel
theorem dX6_valueWord_90 : decode cX6_valueWord 90 = .ok (.invokestatic 67, 3) := by decide +kernel
theorem dX6_valueWord_93 : decode cX6_valueWord 93 = .ok (.ifCond .eq 9, 3) := by decide +kernel
theorem dX6_valueWord_96 : decode cX6_valueWord 96 = .ok (.sipush 317, 3) := by decide +kernel
theorem dX6_valueWord_99 : decode cX6_valueWord 99 = .ok (.goto 57, 3) := by decide +kernel
theorem dX6_valueWord_102 : decode cX6_valueWord 102 = .ok (.aload_n 0, 1) := by decide +kernel
theorem dX6_valueWord_103 : decode cX6_valueWord 103 = .ok (.iload_n 1, 1) := by decide +kernel
theorem dX6_valueWord_104 : decode cX6_valueWord 104 = .ok (.iload_n 2, 1) := by decide +kernel
theorem dX6_valueWord_105 : decode cX6_valueWord 105 = .ok (.ldc 96, 2) := by decide +kernel
theorem dX6_valueWord_107 : decode cX6_valueWord 107 = .ok (.invokestatic 67, 3) := by decide +kernel
theorem dX6_valueWord_110 : decode cX6_valueWord 110 = .ok (.ifCond .eq 9, 3) := by decide +kernel
theorem dX6_valueWord_113 : decode cX6_valueWord 113 = .ok (.sipush 318, 3) := by decide +kernel
theorem dX6_valueWord_116 : decode cX6_valueWord 116 = .ok (.goto 40, 3) := by decide +kernel
theorem dX6_valueWord_119 : decode cX6_valueWord 119 = .ok (.aload_n 0, 1) := by decide +kernel
theorem dX6_valueWord_120 : decode cX6_valueWord 120 = .ok (.iload_n 1, 1) := by decide +kernel
theorem dX6_valueWord_121 : decode cX6_valueWord 121 = .ok (.iload_n 2, 1) := by decide +kernel
theorem dX6_valueWord_122 : decode cX6_valueWord 122 = .ok (.ldc 98, 2) := by decide +kernel
theorem dX6_valueWord_124 : decode cX6_valueWord 124 = .ok (.invokestatic 67, 3) := by decide +kernel
theorem dX6_valueWord_127 : decode cX6_valueWord 127 = .ok (.ifCond .eq 9, 3) := by decide +kernel
theorem dX6_valueWord_130 : decode cX6_valueWord 130 = .ok (.sipush 319, 3) := by decide +kernel
theorem dX6_valueWord_133 : decode cX6_valueWord 133 = .ok (.goto 23, 3) := by decide +kernel
theorem dX6_valueWord_136 : decode cX6_valueWord 136 = .ok (.aload_n 0, 1) := by decide +kernel
theorem dX6_valueWord_137 : decode cX6_valueWord 137 = .ok (.iload_n 1, 1) := by decide +kernel
theorem dX6_valueWord_138 : decode cX6_valueWord 138 = .ok (.iload_n 2, 1) := by decide +kernel
theorem dX6_valueWord_139 : decode cX6_valueWord 139 = .ok (.ldc 100, 2) := by decide +kernel
theorem dX6_valueWord_141 : decode cX6_valueWord 141 = .ok (.invokestatic 67, 3) := by decide +kernel
theorem dX6_valueWord_144 : decode cX6_valueWord 144 = .ok (.ifCond .eq 9, 3) := by decide +kernel
theorem dX6_valueWord_147 : decode cX6_valueWord 147 = .ok (.sipush 320, 3) := by decide +kernel
theorem dX6_valueWord_150 : decode cX6_valueWord 150 = .ok (.goto 6, 3) := by decide +kernel
theorem dX6_valueWord_153 : decode cX6_valueWord 153 = .ok (.sipush 303, 3) := by decide +kernel
theorem dX6_valueWord_156 : decode cX6_valueWord 156 = .ok (.ireturn, 1) := by decide +kernel
theorem dX7_couldBeFound_0 : decode cX7_couldBeFound 0 = .ok (.iconst 0, 1) := by decide +kernel
theorem dX7_couldBeFound_1 : decode cX7_couldBeFound 1 = .ok (.istore_n 3, 1) := by decide +kernel
theorem dX7_couldBeFound_2 : decode cX7_couldBeFound 2 = .ok (.iconst 0, 1) := by decide +kernel
theorem dX7_couldBeFound_3 : decode cX7_couldBeFound 3 = .ok (.istore 4, 2) := by decide +kernel
theorem dX7_couldBeFound_5 : decode cX7_couldBeFound 5 = .ok (.iload 4, 2) := by decide +kernel
theorem dX7_couldBeFound_7 : decode cX7_couldBeFound 7 = .ok (.aload_n 0, 1) := by decide +kernel
theorem dX7_couldBeFound_8 : decode cX7_couldBeFound 8 = .ok (.getfield 65, 3) := by decide +kernel
theorem dX7_couldBeFound_11 : decode cX7_couldBeFound 11 = .ok (.if_icmp .ge 92, 3) := by decide +kernel
theorem dX7_couldBeFound_14 : decode cX7_couldBeFound 14 = .ok (.iload_n 1, 1) := by decide +kernel
theorem dX7_couldBeFound_15 : decode cX7_couldBeFound 15 = .ok (.iload 4, 2) := by decide +kernel
theorem dX7_couldBeFound_17 : decode cX7_couldBeFound 17 = .ok (.invokestatic 125, 3) := by decide +kernel
theorem dX7_couldBeFound_20 : decode cX7_couldBeFound 20 = .ok (.ifCond .eq 77, 3) := by decide +kernel
theorem dX7_couldBeFound_23 : decode cX7_couldBeFound 23 = .ok (.aload_n 0, 1) := by decide +kernel
theorem dX7_couldBeFound_24 : decode cX7_couldBeFound 24 = .ok (.getfield 34, 3) := by decide +kernel
theorem dX7_couldBeFound_27 : decode cX7_couldBeFound 27 = .ok (.iload 4, 2) := by decide +kernel
theorem dX7_couldBeFound_29 : decode cX7_couldBeFound 29 = .ok (.invokestatic 78, 3) := by decide +kernel
theorem dX7_couldBeFound_32 : decode cX7_couldBeFound 32 = .ok (.istore 5, 2) := by decide +kernel
theorem dX7_couldBeFound_34 : decode cX7_couldBeFound 34 = .ok (.iload 5, 2) := by decide +kernel
theorem dX7_couldBeFound_36 : decode cX7_couldBeFound 36 = .ok (.ifCond .lt 18, 3) := by decide +kernel
theorem dX7_couldBeFound_39 : decode cX7_couldBeFound 39 = .ok (.iload_n 1, 1) := by decide +kernel
theorem dX7_couldBeFound_40 : decode cX7_couldBeFound 40 = .ok (.iload_n 2, 1) := by decide +kernel
theorem dX7_couldBeFound_41 : decode cX7_couldBeFound 41 = .ok (.ior, 1) := by decide +kernel
theorem dX7_couldBeFound_42 : decode cX7_couldBeFound 42 = .ok (.iload 5, 2) := by decide +kernel
theorem dX7_couldBeFound_44 : decode cX7_couldBeFound 44 = .ok (.invokestatic 125, 3) := by decide +kernel
theorem dX7_couldBeFound_47 : decode cX7_couldBeFound 47 = .ok (.ifCond .ne 7, 3) := by decide +kernel
theorem dX7_couldBeFound_50 : decode cX7_couldBeFound 50 = .ok (.iconst 1, 1) := by decide +kernel
theorem dX7_couldBeFound_51 : decode cX7_couldBeFound 51 = .ok (.goto 4, 3) := by decide +kernel
theorem dX7_couldBeFound_54 : decode cX7_couldBeFound 54 = .ok (.iconst 0, 1) := by decide +kernel
theorem dX7_couldBeFound_55 : decode cX7_couldBeFound 55 = .ok (.istore 6, 2) := by decide +kernel
theorem dX7_couldBeFound_57 : decode cX7_couldBeFound 57 = .ok (.iload_n 2, 1) := by decide +kernel
theorem dX7_couldBeFound_58 : decode cX7_couldBeFound 58 = .ok (.iload 4, 2) := by decide +kernel
theorem dX7_couldBeFound_60 : decode cX7_couldBeFound 60 = .ok (.invokestatic 125, 3) := by decide +kernel
theorem dX7_couldBeFound_63 : decode cX7_couldBeFound 63 = .ok (.ifCond .ne 20, 3) := by decide +kernel
theorem dX7_couldBeFound_66 : decode cX7_couldBeFound 66 = .ok (.aload_n 0, 1) := by decide +kernel
theorem dX7_couldBeFound_67 : decode cX7_couldBeFound 67 = .ok (.getfield 31, 3) := by decide +kernel
theorem dX7_couldBeFound_70 : decode cX7_couldBeFound 70 = .ok (.iload 4, 2) := by decide +kernel
theorem dX7_couldBeFound_72 : decode cX7_couldBeFound 72 = .ok (.invokestatic 78, 3) := by decide +kernel
theorem dX7_couldBeFound_75 : decode cX7_couldBeFound 75 = .ok (.ifCond .eq 8, 3) := by decide +kernel
theorem dX7_couldBeFound_78 : decode cX7_couldBeFound 78 = .ok (.iload 6, 2) := by decide +kernel
theorem dX7_couldBeFound_80 : decode cX7_couldBeFound 80 = .ok (.ifCond .eq 5, 3) := by decide +kernel
theorem dX7_couldBeFound_83 : decode cX7_couldBeFound 83 = .ok (.iconst 0, 1) := by decide +kernel
theorem dX7_couldBeFound_84 : decode cX7_couldBeFound 84 = .ok (.ireturn, 1) := by decide +kernel
theorem dX7_couldBeFound_85 : decode cX7_couldBeFound 85 = .ok (.iload_n 3, 1) := by decide +kernel
theorem dX7_couldBeFound_86 : decode cX7_couldBeFound 86 = .ok (.aload_n 0, 1) := by decide +kernel
theorem dX7_couldBeFound_87 : decode cX7_couldBeFound 87 = .ok (.getfield 28, 3) := by decide +kernel
theorem dX7_couldBeFound_90 : decode cX7_couldBeFound 90 = .ok (.iload 4, 2) := by decide +kernel
theorem dX7_couldBeFound_92 : decode cX7_couldBeFound 92 = .ok (.invokestatic 78, 3) := by decide +kernel
theorem dX7_couldBeFound_95 : decode cX7_couldBeFound 95 = .ok (.iadd, 1) := by decide +kernel
theorem dX7_couldBeFound_96 : decode cX7_couldBeFound 96 = .ok (.istore_n 3, 1) := by decide +kernel
theorem dX7_couldBeFound_97 : decode cX7_couldBeFound 97 = .ok (.iinc 4 1, 3) := by decide +kernel
theorem dX7_couldBeFound_100 : decode cX7_couldBeFound 100 = .ok (.goto (-95), 3) := by decide +kernel
theorem dX7_couldBeFound_103 : decode cX7_couldBeFound 103 = .ok (.iload_n 3, 1) := by decide +kernel
theorem dX7_couldBeFound_104 : decode cX7_couldBeFound 104 = .ok (.aload_n 0, 1) := by decide +kernel
theorem dX7_couldBeFound_105 : decode cX7_couldBeFound 105 = .ok (.getfield 52, 3) := by decide +kernel
theorem dX7_couldBeFound_108 : decode cX7_couldBeFound 108 = .ok (.if_icmp .gt 7, 3) := by decide +kernel
theorem dX7_couldBeFound_111 : decode cX7_couldBeFound 111 = .ok (.iconst 1, 1) := by decide +kernel
theorem dX7_couldBeFound_112 : decode cX7_couldBeFound 112 = .ok (.goto 4, 3) := by decide +kernel
theorem dX7_couldBeFound_115 : decode cX7_couldBeFound 115 = .ok (.iconst 0, 1) := by decide +kernel
theorem dX7_couldBeFound_116 : decode cX7_couldBeFound 116 = .ok (.ireturn, 1) := by decide +kernel
theorem dX7_hiddenCoins_0 : decode cX7_hiddenCoins 0 = .ok (.aload_n 0, 1) := by decide +kernel
theorem dX7_hiddenCoins_1 : decode cX7_hiddenCoins 1 = .ok (.aload_n 0, 1) := by decide +kernel
theorem dX7_hiddenCoins_2 : decode cX7_hiddenCoins 2 = .ok (.getfield 40, 3) := by decide +kernel
theorem dX7_hiddenCoins_5 : decode cX7_hiddenCoins 5 = .ok (.iload_n 1, 1) := by decide +kernel
theorem dX7_hiddenCoins_6 : decode cX7_hiddenCoins 6 = .ok (.iconst (-1), 1) := by decide +kernel
theorem dX7_hiddenCoins_7 : decode cX7_hiddenCoins 7 = .ok (.ixor, 1) := by decide +kernel
theorem dX7_hiddenCoins_8 : decode cX7_hiddenCoins 8 = .ok (.invokevirtual 122, 3) := by decide +kernel
theorem dX7_hiddenCoins_11 : decode cX7_hiddenCoins 11 = .ok (.ireturn, 1) := by decide +kernel
theorem dX7_init_0 : decode cX7_init 0 = .ok (.aload_n 0, 1) := by decide +kernel
theorem dX7_init_1 : decode cX7_init 1 = .ok (.invokespecial 3, 3) := by decide +kernel
theorem dX7_init_4 : decode cX7_init 4 = .ok (.aload_n 0, 1) := by decide +kernel
theorem dX7_init_5 : decode cX7_init 5 = .ok (.iload_n 1, 1) := by decide +kernel
theorem dX7_init_6 : decode cX7_init 6 = .ok (.putfield 9, 3) := by decide +kernel
theorem dX7_init_9 : decode cX7_init 9 = .ok (.aload_n 0, 1) := by decide +kernel
theorem dX7_init_10 : decode cX7_init 10 = .ok (.bipush 6, 2) := by decide +kernel
theorem dX7_init_12 : decode cX7_init 12 = .ok (.newarray .int, 2) := by decide +kernel
theorem dX7_init_14 : decode cX7_init 14 = .ok (.putfield 15, 3) := by decide +kernel
theorem dX7_init_17 : decode cX7_init 17 = .ok (.aload_n 0, 1) := by decide +kernel
theorem dX7_init_18 : decode cX7_init 18 = .ok (.bipush 6, 2) := by decide +kernel
theorem dX7_init_20 : decode cX7_init 20 = .ok (.newarray .int, 2) := by decide +kernel
theorem dX7_init_22 : decode cX7_init 22 = .ok (.putfield 19, 3) := by decide +kernel
theorem dX7_init_25 : decode cX7_init 25 = .ok (.aload_n 0, 1) := by decide +kernel
theorem dX7_init_26 : decode cX7_init 26 = .ok (.bipush 6, 2) := by decide +kernel
theorem dX7_init_28 : decode cX7_init 28 = .ok (.newarray .int, 2) := by decide +kernel
theorem dX7_init_30 : decode cX7_init 30 = .ok (.putfield 22, 3) := by decide +kernel
theorem dX7_init_33 : decode cX7_init 33 = .ok (.aload_n 0, 1) := by decide +kernel
theorem dX7_init_34 : decode cX7_init 34 = .ok (.bipush 10, 2) := by decide +kernel
theorem dX7_init_36 : decode cX7_init 36 = .ok (.newarray .int, 2) := by decide +kernel
theorem dX7_init_38 : decode cX7_init 38 = .ok (.putfield 25, 3) := by decide +kernel
theorem dX7_init_41 : decode cX7_init 41 = .ok (.aload_n 0, 1) := by decide +kernel
theorem dX7_init_42 : decode cX7_init 42 = .ok (.bipush 10, 2) := by decide +kernel
theorem dX7_init_44 : decode cX7_init 44 = .ok (.newarray .int, 2) := by decide +kernel
theorem dX7_init_46 : decode cX7_init 46 = .ok (.putfield 28, 3) := by decide +kernel
theorem dX7_init_49 : decode cX7_init 49 = .ok (.aload_n 0, 1) := by decide +kernel
theorem dX7_init_50 : decode cX7_init 50 = .ok (.bipush 10, 2) := by decide +kernel
theorem dX7_init_52 : decode cX7_init 52 = .ok (.newarray .int, 2) := by decide +kernel
theorem dX7_init_54 : decode cX7_init 54 = .ok (.putfield 31, 3) := by decide +kernel
theorem dX7_init_57 : decode cX7_init 57 = .ok (.aload_n 0, 1) := by decide +kernel
theorem dX7_init_58 : decode cX7_init 58 = .ok (.bipush 10, 2) := by decide +kernel
theorem dX7_init_60 : decode cX7_init 60 = .ok (.newarray .int, 2) := by decide +kernel
theorem dX7_init_62 : decode cX7_init 62 = .ok (.putfield 34, 3) := by decide +kernel
theorem dX7_init_65 : decode cX7_init 65 = .ok (.aload_n 0, 1) := by decide +kernel
theorem dX7_init_66 : decode cX7_init 66 = .ok (.bipush 10, 2) := by decide +kernel
theorem dX7_init_68 : decode cX7_init 68 = .ok (.newarray .int, 2) := by decide +kernel
theorem dX7_init_70 : decode cX7_init 70 = .ok (.putfield 37, 3) := by decide +kernel
theorem dX7_init_73 : decode cX7_init 73 = .ok (.aload_n 0, 1) := by decide +kernel
theorem dX7_init_74 : decode cX7_init 74 = .ok (.bipush 10, 2) := by decide +kernel
theorem dX7_init_76 : decode cX7_init 76 = .ok (.newarray .int, 2) := by decide +kernel
theorem dX7_init_78 : decode cX7_init 78 = .ok (.putfield 40, 3) := by decide +kernel
theorem dX7_init_81 : decode cX7_init 81 = .ok (.aload_n 0, 1) := by decide +kernel
theorem dX7_init_82 : decode cX7_init 82 = .ok (.bipush 10, 2) := by decide +kernel
theorem dX7_init_84 : decode cX7_init 84 = .ok (.newarray .int, 2) := by decide +kernel
theorem dX7_init_86 : decode cX7_init 86 = .ok (.putfield 43, 3) := by decide +kernel
theorem dX7_init_89 : decode cX7_init 89 = .ok (.aload_n 0, 1) := by decide +kernel
theorem dX7_init_90 : decode cX7_init 90 = .ok (.bipush 10, 2) := by decide +kernel
theorem dX7_init_92 : decode cX7_init 92 = .ok (.newarray .int, 2) := by decide +kernel
theorem dX7_init_94 : decode cX7_init 94 = .ok (.putfield 46, 3) := by decide +kernel
theorem dX7_init_97 : decode cX7_init 97 = .ok (.aload_n 0, 1) := by decide +kernel
theorem dX7_init_98 : decode cX7_init 98 = .ok (.bipush 10, 2) := by decide +kernel
theorem dX7_init_100 : decode cX7_init 100 = .ok (.newarray .int, 2) := by decide +kernel
theorem dX7_init_102 : decode cX7_init 102 = .ok (.putfield 49, 3) := by decide +kernel
theorem dX7_init_105 : decode cX7_init 105 = .ok (.return_, 1) := by decide +kernel
theorem dX7_isOpen_0 : decode cX7_isOpen 0 = .ok (.iload_n 1, 1) := by decide +kernel
theorem dX7_isOpen_1 : decode cX7_isOpen 1 = .ok (.ifCond .lt 20, 3) := by decide +kernel
theorem dX7_isOpen_4 : decode cX7_isOpen 4 = .ok (.iload_n 1, 1) := by decide +kernel
theorem dX7_isOpen_5 : decode cX7_isOpen 5 = .ok (.aload_n 0, 1) := by decide +kernel
theorem dX7_isOpen_6 : decode cX7_isOpen 6 = .ok (.getfield 34, 3) := by decide +kernel
theorem dX7_isOpen_9 : decode cX7_isOpen 9 = .ok (.arraylength, 1) := by decide +kernel
theorem dX7_isOpen_10 : decode cX7_isOpen 10 = .ok (.if_icmp .ge 11, 3) := by decide +kernel
theorem dX7_isOpen_13 : decode cX7_isOpen 13 = .ok (.iload_n 2, 1) := by decide +kernel
theorem dX7_isOpen_14 : decode cX7_isOpen 14 = .ok (.iload_n 1, 1) := by decide +kernel
theorem dX7_isOpen_15 : decode cX7_isOpen 15 = .ok (.ishr, 1) := by decide +kernel
theorem dX7_isOpen_16 : decode cX7_isOpen 16 = .ok (.iconst 1, 1) := by decide +kernel
theorem dX7_isOpen_17 : decode cX7_isOpen 17 = .ok (.iand, 1) := by decide +kernel
theorem dX7_isOpen_18 : decode cX7_isOpen 18 = .ok (.ifCond .eq 5, 3) := by decide +kernel
theorem dX7_isOpen_21 : decode cX7_isOpen 21 = .ok (.iconst 0, 1) := by decide +kernel
theorem dX7_isOpen_22 : decode cX7_isOpen 22 = .ok (.ireturn, 1) := by decide +kernel
theorem dX7_isOpen_23 : decode cX7_isOpen 23 = .ok (.aload_n 0, 1) := by decide +kernel
theorem dX7_isOpen_24 : decode cX7_isOpen 24 = .ok (.getfield 34, 3) := by decide +kernel
theorem dX7_isOpen_27 : decode cX7_isOpen 27 = .ok (.iload_n 1, 1) := by decide +kernel
theorem dX7_isOpen_28 : decode cX7_isOpen 28 = .ok (.iaload, 1) := by decide +kernel
theorem dX7_isOpen_29 : decode cX7_isOpen 29 = .ok (.istore_n 3, 1) := by decide +kernel
theorem dX7_isOpen_30 : decode cX7_isOpen 30 = .ok (.iload_n 3, 1) := by decide +kernel
theorem dX7_isOpen_31 : decode cX7_isOpen 31 = .ok (.ifCond .lt 11, 3) := by decide +kernel
theorem dX7_isOpen_34 : decode cX7_isOpen 34 = .ok (.iload_n 2, 1) := by decide +kernel
theorem dX7_isOpen_35 : decode cX7_isOpen 35 = .ok (.iload_n 3, 1) := by decide +kernel
theorem dX7_isOpen_36 : decode cX7_isOpen 36 = .ok (.ishr, 1) := by decide +kernel
theorem dX7_isOpen_37 : decode cX7_isOpen 37 = .ok (.iconst 1, 1) := by decide +kernel
theorem dX7_isOpen_38 : decode cX7_isOpen 38 = .ok (.iand, 1) := by decide +kernel
theorem dX7_isOpen_39 : decode cX7_isOpen 39 = .ok (.ifCond .eq 7, 3) := by decide +kernel
theorem dX7_isOpen_42 : decode cX7_isOpen 42 = .ok (.iconst 1, 1) := by decide +kernel
theorem dX7_isOpen_43 : decode cX7_isOpen 43 = .ok (.goto 4, 3) := by decide +kernel
theorem dX7_isOpen_46 : decode cX7_isOpen 46 = .ok (.iconst 0, 1) := by decide +kernel
theorem dX7_isOpen_47 : decode cX7_isOpen 47 = .ok (.ireturn, 1) := by decide +kernel
theorem dX7_mendingOf_0 : decode cX7_mendingOf 0 = .ok (.aload_n 0, 1) := by decide +kernel
theorem dX7_mendingOf_1 : decode cX7_mendingOf 1 = .ok (.aload_n 0, 1) := by decide +kernel
theorem dX7_mendingOf_2 : decode cX7_mendingOf 2 = .ok (.getfield 43, 3) := by decide +kernel
theorem dX7_mendingOf_5 : decode cX7_mendingOf 5 = .ok (.iload_n 1, 1) := by decide +kernel
theorem dX7_mendingOf_6 : decode cX7_mendingOf 6 = .ok (.invokevirtual 122, 3) := by decide +kernel
theorem dX7_mendingOf_9 : decode cX7_mendingOf 9 = .ok (.ireturn, 1) := by decide +kernel
theorem dX7_mostByOneLook_0 : decode cX7_mostByOneLook 0 = .ok (.iconst 0, 1) := by decide +kernel
theorem dX7_mostByOneLook_1 : decode cX7_mostByOneLook 1 = .ok (.istore_n 3, 1) := by decide +kernel
theorem dX7_mostByOneLook_2 : decode cX7_mostByOneLook 2 = .ok (.iload_n 3, 1) := by decide +kernel
theorem dX7_mostByOneLook_3 : decode cX7_mostByOneLook 3 = .ok (.aload_n 0, 1) := by decide +kernel
theorem dX7_mostByOneLook_4 : decode cX7_mostByOneLook 4 = .ok (.getfield 65, 3) := by decide +kernel
theorem dX7_mostByOneLook_7 : decode cX7_mostByOneLook 7 = .ok (.if_icmp .ge 52, 3) := by decide +kernel
theorem dX7_mostByOneLook_10 : decode cX7_mostByOneLook 10 = .ok (.aload_n 0, 1) := by decide +kernel
theorem dX7_mostByOneLook_11 : decode cX7_mostByOneLook 11 = .ok (.getfield 49, 3) := by decide +kernel
theorem dX7_mostByOneLook_14 : decode cX7_mostByOneLook 14 = .ok (.iload_n 3, 1) := by decide +kernel
theorem dX7_mostByOneLook_15 : decode cX7_mostByOneLook 15 = .ok (.invokestatic 78, 3) := by decide +kernel
theorem dX7_mostByOneLook_18 : decode cX7_mostByOneLook 18 = .ok (.istore 4, 2) := by decide +kernel
theorem dX7_mostByOneLook_20 : decode cX7_mostByOneLook 20 = .ok (.aload_n 0, 1) := by decide +kernel
theorem dX7_mostByOneLook_21 : decode cX7_mostByOneLook 21 = .ok (.getfield 28, 3) := by decide +kernel
theorem dX7_mostByOneLook_24 : decode cX7_mostByOneLook 24 = .ok (.iload 4, 2) := by decide +kernel
theorem dX7_mostByOneLook_26 : decode cX7_mostByOneLook 26 = .ok (.invokestatic 78, 3) := by decide +kernel
theorem dX7_mostByOneLook_29 : decode cX7_mostByOneLook 29 = .ok (.iload_n 2, 1) := by decide +kernel
theorem dX7_mostByOneLook_30 : decode cX7_mostByOneLook 30 = .ok (.if_icmp .gt 23, 3) := by decide +kernel
theorem dX7_mostByOneLook_33 : decode cX7_mostByOneLook 33 = .ok (.aload_n 0, 1) := by decide +kernel
theorem dX7_mostByOneLook_34 : decode cX7_mostByOneLook 34 = .ok (.iload 4, 2) := by decide +kernel
theorem dX7_mostByOneLook_36 : decode cX7_mostByOneLook 36 = .ok (.iload_n 1, 1) := by decide +kernel
theorem dX7_mostByOneLook_37 : decode cX7_mostByOneLook 37 = .ok (.invokevirtual 118, 3) := by decide +kernel
theorem dX7_mostByOneLook_40 : decode cX7_mostByOneLook 40 = .ok (.ifCond .eq 13, 3) := by decide +kernel
theorem dX7_mostByOneLook_43 : decode cX7_mostByOneLook 43 = .ok (.aload_n 0, 1) := by decide +kernel
theorem dX7_mostByOneLook_44 : decode cX7_mostByOneLook 44 = .ok (.getfield 46, 3) := by decide +kernel
theorem dX7_mostByOneLook_47 : decode cX7_mostByOneLook 47 = .ok (.iload 4, 2) := by decide +kernel
theorem dX7_mostByOneLook_49 : decode cX7_mostByOneLook 49 = .ok (.invokestatic 78, 3) := by decide +kernel
theorem dX7_mostByOneLook_52 : decode cX7_mostByOneLook 52 = .ok (.ireturn, 1) := by decide +kernel
theorem dX7_mostByOneLook_53 : decode cX7_mostByOneLook 53 = .ok (.iinc 3 1, 3) := by decide +kernel
theorem dX7_mostByOneLook_56 : decode cX7_mostByOneLook 56 = .ok (.goto (-54), 3) := by decide +kernel
theorem dX7_mostByOneLook_59 : decode cX7_mostByOneLook 59 = .ok (.iconst 0, 1) := by decide +kernel
theorem dX7_mostByOneLook_60 : decode cX7_mostByOneLook 60 = .ok (.ireturn, 1) := by decide +kernel
theorem dX7_orderLooks_0 : decode cX7_orderLooks 0 = .ok (.iconst 0, 1) := by decide +kernel
theorem dX7_orderLooks_1 : decode cX7_orderLooks 1 = .ok (.istore_n 1, 1) := by decide +kernel
theorem dX7_orderLooks_2 : decode cX7_orderLooks 2 = .ok (.iload_n 1, 1) := by decide +kernel
theorem dX7_orderLooks_3 : decode cX7_orderLooks 3 = .ok (.aload_n 0, 1) := by decide +kernel
theorem dX7_orderLooks_4 : decode cX7_orderLooks 4 = .ok (.getfield 65, 3) := by decide +kernel
theorem dX7_orderLooks_7 : decode cX7_orderLooks 7 = .ok (.if_icmp .ge 120, 3) := by decide +kernel
theorem dX7_orderLooks_10 : decode cX7_orderLooks 10 = .ok (.aload_n 0, 1) := by decide +kernel
theorem dX7_orderLooks_11 : decode cX7_orderLooks 11 = .ok (.aload_n 0, 1) := by decide +kernel
theorem dX7_orderLooks_12 : decode cX7_orderLooks 12 = .ok (.getfield 75, 3) := by decide +kernel
theorem dX7_orderLooks_15 : decode cX7_orderLooks 15 = .ok (.aload_n 0, 1) := by decide +kernel
theorem dX7_orderLooks_16 : decode cX7_orderLooks 16 = .ok (.getfield 28, 3) := by decide +kernel
theorem dX7_orderLooks_19 : decode cX7_orderLooks 19 = .ok (.iload_n 1, 1) := by decide +kernel
theorem dX7_orderLooks_20 : decode cX7_orderLooks 20 = .ok (.invokestatic 78, 3) := by decide +kernel
theorem dX7_orderLooks_23 : decode cX7_orderLooks 23 = .ok (.invokestatic 82, 3) := by decide +kernel
theorem dX7_orderLooks_26 : decode cX7_orderLooks 26 = .ok (.putfield 75, 3) := by decide +kernel
theorem dX7_orderLooks_29 : decode cX7_orderLooks 29 = .ok (.aload_n 0, 1) := by decide +kernel
theorem dX7_orderLooks_30 : decode cX7_orderLooks 30 = .ok (.getfield 46, 3) := by decide +kernel
theorem dX7_orderLooks_33 : decode cX7_orderLooks 33 = .ok (.iload_n 1, 1) := by decide +kernel
theorem dX7_orderLooks_34 : decode cX7_orderLooks 34 = .ok (.aload_n 0, 1) := by decide +kernel
theorem dX7_orderLooks_35 : decode cX7_orderLooks 35 = .ok (.getfield 31, 3) := by decide +kernel
theorem dX7_orderLooks_38 : decode cX7_orderLooks 38 = .ok (.iload_n 1, 1) := by decide +kernel
theorem dX7_orderLooks_39 : decode cX7_orderLooks 39 = .ok (.invokestatic 78, 3) := by decide +kernel
theorem dX7_orderLooks_42 : decode cX7_orderLooks 42 = .ok (.aload_n 0, 1) := by decide +kernel
theorem dX7_orderLooks_43 : decode cX7_orderLooks 43 = .ok (.getfield 37, 3) := by decide +kernel
theorem dX7_orderLooks_46 : decode cX7_orderLooks 46 = .ok (.iload_n 1, 1) := by decide +kernel
theorem dX7_orderLooks_47 : decode cX7_orderLooks 47 = .ok (.invokestatic 78, 3) := by decide +kernel
theorem dX7_orderLooks_50 : decode cX7_orderLooks 50 = .ok (.imul, 1) := by decide +kernel
theorem dX7_orderLooks_51 : decode cX7_orderLooks 51 = .ok (.invokestatic 88, 3) := by decide +kernel
theorem dX7_orderLooks_54 : decode cX7_orderLooks 54 = .ok (.iload_n 1, 1) := by decide +kernel
theorem dX7_orderLooks_55 : decode cX7_orderLooks 55 = .ok (.istore_n 2, 1) := by decide +kernel
theorem dX7_orderLooks_56 : decode cX7_orderLooks 56 = .ok (.iload_n 2, 1) := by decide +kernel
theorem dX7_orderLooks_57 : decode cX7_orderLooks 57 = .ok (.ifCond .le 55, 3) := by decide +kernel
theorem dX7_orderLooks_60 : decode cX7_orderLooks 60 = .ok (.aload_n 0, 1) := by decide +kernel
theorem dX7_orderLooks_61 : decode cX7_orderLooks 61 = .ok (.getfield 46, 3) := by decide +kernel
theorem dX7_orderLooks_64 : decode cX7_orderLooks 64 = .ok (.aload_n 0, 1) := by decide +kernel
theorem dX7_orderLooks_65 : decode cX7_orderLooks 65 = .ok (.getfield 49, 3) := by decide +kernel
theorem dX7_orderLooks_68 : decode cX7_orderLooks 68 = .ok (.iload_n 2, 1) := by decide +kernel
theorem dX7_orderLooks_69 : decode cX7_orderLooks 69 = .ok (.iconst 1, 1) := by decide +kernel
theorem dX7_orderLooks_70 : decode cX7_orderLooks 70 = .ok (.isub, 1) := by decide +kernel
theorem dX7_orderLooks_71 : decode cX7_orderLooks 71 = .ok (.invokestatic 78, 3) := by decide +kernel
theorem dX7_orderLooks_74 : decode cX7_orderLooks 74 = .ok (.invokestatic 78, 3) := by decide +kernel
theorem dX7_orderLooks_77 : decode cX7_orderLooks 77 = .ok (.aload_n 0, 1) := by decide +kernel
theorem dX7_orderLooks_78 : decode cX7_orderLooks 78 = .ok (.getfield 46, 3) := by decide +kernel
theorem dX7_orderLooks_81 : decode cX7_orderLooks 81 = .ok (.iload_n 1, 1) := by decide +kernel
theorem dX7_orderLooks_82 : decode cX7_orderLooks 82 = .ok (.invokestatic 78, 3) := by decide +kernel
theorem dX7_orderLooks_85 : decode cX7_orderLooks 85 = .ok (.if_icmp .ge 27, 3) := by decide +kernel
theorem dX7_orderLooks_88 : decode cX7_orderLooks 88 = .ok (.aload_n 0, 1) := by decide +kernel
theorem dX7_orderLooks_89 : decode cX7_orderLooks 89 = .ok (.getfield 49, 3) := by decide +kernel
theorem dX7_orderLooks_92 : decode cX7_orderLooks 92 = .ok (.iload_n 2, 1) := by decide +kernel
theorem dX7_orderLooks_93 : decode cX7_orderLooks 93 = .ok (.aload_n 0, 1) := by decide +kernel
theorem dX7_orderLooks_94 : decode cX7_orderLooks 94 = .ok (.getfield 49, 3) := by decide +kernel
theorem dX7_orderLooks_97 : decode cX7_orderLooks 97 = .ok (.iload_n 2, 1) := by decide +kernel
theorem dX7_orderLooks_98 : decode cX7_orderLooks 98 = .ok (.iconst 1, 1) := by decide +kernel
theorem dX7_orderLooks_99 : decode cX7_orderLooks 99 = .ok (.isub, 1) := by decide +kernel
theorem dX7_orderLooks_100 : decode cX7_orderLooks 100 = .ok (.invokestatic 78, 3) := by decide +kernel
theorem dX7_orderLooks_103 : decode cX7_orderLooks 103 = .ok (.invokestatic 88, 3) := by decide +kernel
theorem dX7_orderLooks_106 : decode cX7_orderLooks 106 = .ok (.iinc 2 (-1), 3) := by decide +kernel
theorem dX7_orderLooks_109 : decode cX7_orderLooks 109 = .ok (.goto (-53), 3) := by decide +kernel
theorem dX7_orderLooks_112 : decode cX7_orderLooks 112 = .ok (.aload_n 0, 1) := by decide +kernel
theorem dX7_orderLooks_113 : decode cX7_orderLooks 113 = .ok (.getfield 49, 3) := by decide +kernel
theorem dX7_orderLooks_116 : decode cX7_orderLooks 116 = .ok (.iload_n 2, 1) := by decide +kernel
theorem dX7_orderLooks_117 : decode cX7_orderLooks 117 = .ok (.iload_n 1, 1) := by decide +kernel
theorem dX7_orderLooks_118 : decode cX7_orderLooks 118 = .ok (.invokestatic 88, 3) := by decide +kernel
theorem dX7_orderLooks_121 : decode cX7_orderLooks 121 = .ok (.iinc 1 1, 3) := by decide +kernel
theorem dX7_orderLooks_124 : decode cX7_orderLooks 124 = .ok (.goto (-122), 3) := by decide +kernel
theorem dX7_orderLooks_127 : decode cX7_orderLooks 127 = .ok (.return_, 1) := by decide +kernel
theorem dX7_payOf_0 : decode cX7_payOf 0 = .ok (.aload_n 0, 1) := by decide +kernel
theorem dX7_payOf_1 : decode cX7_payOf 1 = .ok (.aload_n 0, 1) := by decide +kernel
theorem dX7_payOf_2 : decode cX7_payOf 2 = .ok (.getfield 37, 3) := by decide +kernel
theorem dX7_payOf_5 : decode cX7_payOf 5 = .ok (.iload_n 1, 1) := by decide +kernel
theorem dX7_payOf_6 : decode cX7_payOf 6 = .ok (.invokevirtual 122, 3) := by decide +kernel
