theorem dX9_isFaultHere_73 : decode cX9_isFaultHere 73 = .ok (.getfield 115, 3) := by decide +kernel
theorem dX9_isFaultHere_76 : decode cX9_isFaultHere 76 = .ok (.iastore, 1) := by decide +kernel
theorem dX9_isFaultHere_77 : decode cX9_isFaultHere 77 = .ok (.aload_n 0, 1) := by decide +kernel
theorem dX9_isFaultHere_78 : decode cX9_isFaultHere 78 = .ok (.iconst 0, 1) := by decide +kernel
theorem dX9_isFaultHere_79 : decode cX9_isFaultHere 79 = .ok (.bipush 100, 2) := by decide +kernel
theorem dX9_isFaultHere_81 : decode cX9_isFaultHere 81 = .ok (.invokevirtual 161, 3) := by decide +kernel
theorem dX9_isFaultHere_84 : decode cX9_isFaultHere 84 = .ok (.ifCond .ne 5, 3) := by decide +kernel
theorem dX9_isFaultHere_87 : decode cX9_isFaultHere 87 = .ok (.iconst 0, 1) := by decide +kernel
theorem dX9_isFaultHere_88 : decode cX9_isFaultHere 88 = .ok (.ireturn, 1) := by decide +kernel
theorem dX9_isFaultHere_89 : decode cX9_isFaultHere 89 = .ok (.aload_n 0, 1) := by decide +kernel
theorem dX9_isFaultHere_90 : decode cX9_isFaultHere 90 = .ok (.getfield 29, 3) := by decide +kernel
theorem dX9_isFaultHere_93 : decode cX9_isFaultHere 93 = .ok (.iload_n 2, 1) := by decide +kernel
theorem dX9_isFaultHere_94 : decode cX9_isFaultHere 94 = .ok (.iconst 2, 1) := by decide +kernel
theorem dX9_isFaultHere_95 : decode cX9_isFaultHere 95 = .ok (.iadd, 1) := by decide +kernel
theorem dX9_isFaultHere_96 : decode cX9_isFaultHere 96 = .ok (.aload_n 0, 1) := by decide +kernel
theorem dX9_isFaultHere_97 : decode cX9_isFaultHere 97 = .ok (.getfield 115, 3) := by decide +kernel
theorem dX9_isFaultHere_100 : decode cX9_isFaultHere 100 = .ok (.iastore, 1) := by decide +kernel
theorem dX9_isFaultHere_101 : decode cX9_isFaultHere 101 = .ok (.aload_n 0, 1) := by decide +kernel
theorem dX9_isFaultHere_102 : decode cX9_isFaultHere 102 = .ok (.getfield 29, 3) := by decide +kernel
theorem dX9_isFaultHere_105 : decode cX9_isFaultHere 105 = .ok (.iload_n 2, 1) := by decide +kernel
theorem dX9_isFaultHere_106 : decode cX9_isFaultHere 106 = .ok (.iconst 3, 1) := by decide +kernel
theorem dX9_isFaultHere_107 : decode cX9_isFaultHere 107 = .ok (.iadd, 1) := by decide +kernel
theorem dX9_isFaultHere_108 : decode cX9_isFaultHere 108 = .ok (.iconst (-1), 1) := by decide +kernel
theorem dX9_isFaultHere_109 : decode cX9_isFaultHere 109 = .ok (.iastore, 1) := by decide +kernel
theorem dX9_isFaultHere_110 : decode cX9_isFaultHere 110 = .ok (.aload_n 0, 1) := by decide +kernel
theorem dX9_isFaultHere_111 : decode cX9_isFaultHere 111 = .ok (.ldc2_w 221, 3) := by decide +kernel
theorem dX9_isFaultHere_114 : decode cX9_isFaultHere 114 = .ok (.invokevirtual 206, 3) := by decide +kernel
theorem dX9_isFaultHere_117 : decode cX9_isFaultHere 117 = .ok (.ifCond .eq 31, 3) := by decide +kernel
theorem dX9_isFaultHere_120 : decode cX9_isFaultHere 120 = .ok (.aload_n 0, 1) := by decide +kernel
theorem dX9_isFaultHere_121 : decode cX9_isFaultHere 121 = .ok (.iconst 0, 1) := by decide +kernel
theorem dX9_isFaultHere_122 : decode cX9_isFaultHere 122 = .ok (.aload_n 0, 1) := by decide +kernel
theorem dX9_isFaultHere_123 : decode cX9_isFaultHere 123 = .ok (.getfield 218, 3) := by decide +kernel
theorem dX9_isFaultHere_126 : decode cX9_isFaultHere 126 = .ok (.iconst 1, 1) := by decide +kernel
theorem dX9_isFaultHere_127 : decode cX9_isFaultHere 127 = .ok (.isub, 1) := by decide +kernel
theorem dX9_isFaultHere_128 : decode cX9_isFaultHere 128 = .ok (.invokevirtual 161, 3) := by decide +kernel
theorem dX9_isFaultHere_131 : decode cX9_isFaultHere 131 = .ok (.ifCond .ne 5, 3) := by decide +kernel
theorem dX9_isFaultHere_134 : decode cX9_isFaultHere 134 = .ok (.iconst 0, 1) := by decide +kernel
theorem dX9_isFaultHere_135 : decode cX9_isFaultHere 135 = .ok (.ireturn, 1) := by decide +kernel
theorem dX9_isFaultHere_136 : decode cX9_isFaultHere 136 = .ok (.aload_n 0, 1) := by decide +kernel
theorem dX9_isFaultHere_137 : decode cX9_isFaultHere 137 = .ok (.getfield 29, 3) := by decide +kernel
theorem dX9_isFaultHere_140 : decode cX9_isFaultHere 140 = .ok (.iload_n 2, 1) := by decide +kernel
theorem dX9_isFaultHere_141 : decode cX9_isFaultHere 141 = .ok (.iconst 3, 1) := by decide +kernel
theorem dX9_isFaultHere_142 : decode cX9_isFaultHere 142 = .ok (.iadd, 1) := by decide +kernel
theorem dX9_isFaultHere_143 : decode cX9_isFaultHere 143 = .ok (.aload_n 0, 1) := by decide +kernel
theorem dX9_isFaultHere_144 : decode cX9_isFaultHere 144 = .ok (.getfield 115, 3) := by decide +kernel
theorem dX9_isFaultHere_147 : decode cX9_isFaultHere 147 = .ok (.iastore, 1) := by decide +kernel
theorem dX9_isFaultHere_148 : decode cX9_isFaultHere 148 = .ok (.aload_n 0, 1) := by decide +kernel
theorem dX9_isFaultHere_149 : decode cX9_isFaultHere 149 = .ok (.dup, 1) := by decide +kernel
theorem dX9_isFaultHere_150 : decode cX9_isFaultHere 150 = .ok (.getfield 218, 3) := by decide +kernel
theorem dX9_isFaultHere_153 : decode cX9_isFaultHere 153 = .ok (.iconst 1, 1) := by decide +kernel
theorem dX9_isFaultHere_154 : decode cX9_isFaultHere 154 = .ok (.iadd, 1) := by decide +kernel
theorem dX9_isFaultHere_155 : decode cX9_isFaultHere 155 = .ok (.putfield 218, 3) := by decide +kernel
theorem dX9_isFaultHere_158 : decode cX9_isFaultHere 158 = .ok (.iconst 1, 1) := by decide +kernel
theorem dX9_isFaultHere_159 : decode cX9_isFaultHere 159 = .ok (.ireturn, 1) := by decide +kernel
theorem dX9_isInside_0 : decode cX9_isInside 0 = .ok (.iconst 0, 1) := by decide +kernel
theorem dX9_isInside_1 : decode cX9_isInside 1 = .ok (.istore_n 1, 1) := by decide +kernel
theorem dX9_isInside_2 : decode cX9_isInside 2 = .ok (.iload_n 1, 1) := by decide +kernel
theorem dX9_isInside_3 : decode cX9_isInside 3 = .ok (.aload_n 0, 1) := by decide +kernel
theorem dX9_isInside_4 : decode cX9_isInside 4 = .ok (.getfield 149, 3) := by decide +kernel
theorem dX9_isInside_7 : decode cX9_isInside 7 = .ok (.if_icmp .ge 22, 3) := by decide +kernel
theorem dX9_isInside_10 : decode cX9_isInside 10 = .ok (.aload_n 0, 1) := by decide +kernel
theorem dX9_isInside_11 : decode cX9_isInside 11 = .ok (.getfield 32, 3) := by decide +kernel
theorem dX9_isInside_14 : decode cX9_isInside 14 = .ok (.iload_n 1, 1) := by decide +kernel
theorem dX9_isInside_15 : decode cX9_isInside 15 = .ok (.iaload, 1) := by decide +kernel
theorem dX9_isInside_16 : decode cX9_isInside 16 = .ok (.bipush 91, 2) := by decide +kernel
theorem dX9_isInside_18 : decode cX9_isInside 18 = .ok (.if_icmp .ne 5, 3) := by decide +kernel
theorem dX9_isInside_21 : decode cX9_isInside 21 = .ok (.iconst 1, 1) := by decide +kernel
theorem dX9_isInside_22 : decode cX9_isInside 22 = .ok (.ireturn, 1) := by decide +kernel
theorem dX9_isInside_23 : decode cX9_isInside 23 = .ok (.iinc 1 1, 3) := by decide +kernel
theorem dX9_isInside_26 : decode cX9_isInside 26 = .ok (.goto (-24), 3) := by decide +kernel
theorem dX9_isInside_29 : decode cX9_isInside 29 = .ok (.iconst 0, 1) := by decide +kernel
theorem dX9_isInside_30 : decode cX9_isInside 30 = .ok (.ireturn, 1) := by decide +kernel
theorem dX9_isKindHere_0 : decode cX9_isKindHere 0 = .ok (.aload_n 0, 1) := by decide +kernel
theorem dX9_isKindHere_1 : decode cX9_isKindHere 1 = .ok (.getfield 215, 3) := by decide +kernel
theorem dX9_isKindHere_4 : decode cX9_isKindHere 4 = .ok (.bipush 6, 2) := by decide +kernel
theorem dX9_isKindHere_6 : decode cX9_isKindHere 6 = .ok (.if_icmp .ne 10, 3) := by decide +kernel
theorem dX9_isKindHere_9 : decode cX9_isKindHere 9 = .ok (.aload_n 0, 1) := by decide +kernel
theorem dX9_isKindHere_10 : decode cX9_isKindHere 10 = .ok (.iconst 4, 1) := by decide +kernel
theorem dX9_isKindHere_11 : decode cX9_isKindHere 11 = .ok (.iload_n 1, 1) := by decide +kernel
theorem dX9_isKindHere_12 : decode cX9_isKindHere 12 = .ok (.invokevirtual 111, 3) := by decide +kernel
theorem dX9_isKindHere_15 : decode cX9_isKindHere 15 = .ok (.ireturn, 1) := by decide +kernel
theorem dX9_isKindHere_16 : decode cX9_isKindHere 16 = .ok (.aload_n 0, 1) := by decide +kernel
theorem dX9_isKindHere_17 : decode cX9_isKindHere 17 = .ok (.invokevirtual 105, 3) := by decide +kernel
theorem dX9_isKindHere_20 : decode cX9_isKindHere 20 = .ok (.iconst 0, 1) := by decide +kernel
theorem dX9_isKindHere_21 : decode cX9_isKindHere 21 = .ok (.istore_n 2, 1) := by decide +kernel
theorem dX9_isKindHere_22 : decode cX9_isKindHere 22 = .ok (.iload_n 2, 1) := by decide +kernel
theorem dX9_isKindHere_23 : decode cX9_isKindHere 23 = .ok (.iconst 3, 1) := by decide +kernel
theorem dX9_isKindHere_24 : decode cX9_isKindHere 24 = .ok (.if_icmp .ge 38, 3) := by decide +kernel
theorem dX9_isKindHere_27 : decode cX9_isKindHere 27 = .ok (.aload_n 0, 1) := by decide +kernel
theorem dX9_isKindHere_28 : decode cX9_isKindHere 28 = .ok (.iconst 0, 1) := by decide +kernel
theorem dX9_isKindHere_29 : decode cX9_isKindHere 29 = .ok (.bipush 99, 2) := by decide +kernel
theorem dX9_isKindHere_31 : decode cX9_isKindHere 31 = .ok (.invokevirtual 161, 3) := by decide +kernel
theorem dX9_isKindHere_34 : decode cX9_isKindHere 34 = .ok (.ifCond .ne 5, 3) := by decide +kernel
theorem dX9_isKindHere_37 : decode cX9_isKindHere 37 = .ok (.iconst 0, 1) := by decide +kernel
theorem dX9_isKindHere_38 : decode cX9_isKindHere 38 = .ok (.ireturn, 1) := by decide +kernel
theorem dX9_isKindHere_39 : decode cX9_isKindHere 39 = .ok (.aload_n 0, 1) := by decide +kernel
theorem dX9_isKindHere_40 : decode cX9_isKindHere 40 = .ok (.getfield 26, 3) := by decide +kernel
theorem dX9_isKindHere_43 : decode cX9_isKindHere 43 = .ok (.iconst 3, 1) := by decide +kernel
theorem dX9_isKindHere_44 : decode cX9_isKindHere 44 = .ok (.aload_n 0, 1) := by decide +kernel
theorem dX9_isKindHere_45 : decode cX9_isKindHere 45 = .ok (.getfield 215, 3) := by decide +kernel
theorem dX9_isKindHere_48 : decode cX9_isKindHere 48 = .ok (.imul, 1) := by decide +kernel
theorem dX9_isKindHere_49 : decode cX9_isKindHere 49 = .ok (.iload_n 2, 1) := by decide +kernel
theorem dX9_isKindHere_50 : decode cX9_isKindHere 50 = .ok (.iadd, 1) := by decide +kernel
theorem dX9_isKindHere_51 : decode cX9_isKindHere 51 = .ok (.aload_n 0, 1) := by decide +kernel
theorem dX9_isKindHere_52 : decode cX9_isKindHere 52 = .ok (.getfield 115, 3) := by decide +kernel
theorem dX9_isKindHere_55 : decode cX9_isKindHere 55 = .ok (.iastore, 1) := by decide +kernel
theorem dX9_isKindHere_56 : decode cX9_isKindHere 56 = .ok (.iinc 2 1, 3) := by decide +kernel
theorem dX9_isKindHere_59 : decode cX9_isKindHere 59 = .ok (.goto (-37), 3) := by decide +kernel
theorem dX9_isKindHere_62 : decode cX9_isKindHere 62 = .ok (.aload_n 0, 1) := by decide +kernel
theorem dX9_isKindHere_63 : decode cX9_isKindHere 63 = .ok (.dup, 1) := by decide +kernel
theorem dX9_isKindHere_64 : decode cX9_isKindHere 64 = .ok (.getfield 215, 3) := by decide +kernel
theorem dX9_isKindHere_67 : decode cX9_isKindHere 67 = .ok (.iconst 1, 1) := by decide +kernel
theorem dX9_isKindHere_68 : decode cX9_isKindHere 68 = .ok (.iadd, 1) := by decide +kernel
theorem dX9_isKindHere_69 : decode cX9_isKindHere 69 = .ok (.putfield 215, 3) := by decide +kernel
theorem dX9_isKindHere_72 : decode cX9_isKindHere 72 = .ok (.iconst 1, 1) := by decide +kernel
theorem dX9_isKindHere_73 : decode cX9_isKindHere 73 = .ok (.ireturn, 1) := by decide +kernel
theorem dX9_isLetter_0 : decode cX9_isLetter 0 = .ok (.iload_n 1, 1) := by decide +kernel
theorem dX9_isLetter_1 : decode cX9_isLetter 1 = .ok (.aload_n 0, 1) := by decide +kernel
theorem dX9_isLetter_2 : decode cX9_isLetter 2 = .ok (.getfield 79, 3) := by decide +kernel
theorem dX9_isLetter_5 : decode cX9_isLetter 5 = .ok (.if_icmp .ge 29, 3) := by decide +kernel
theorem dX9_isLetter_8 : decode cX9_isLetter 8 = .ok (.aload_n 0, 1) := by decide +kernel
theorem dX9_isLetter_9 : decode cX9_isLetter 9 = .ok (.getfield 7, 3) := by decide +kernel
theorem dX9_isLetter_12 : decode cX9_isLetter 12 = .ok (.iload_n 1, 1) := by decide +kernel
theorem dX9_isLetter_13 : decode cX9_isLetter 13 = .ok (.baload, 1) := by decide +kernel
theorem dX9_isLetter_14 : decode cX9_isLetter 14 = .ok (.bipush 97, 2) := by decide +kernel
theorem dX9_isLetter_16 : decode cX9_isLetter 16 = .ok (.if_icmp .lt 18, 3) := by decide +kernel
theorem dX9_isLetter_19 : decode cX9_isLetter 19 = .ok (.aload_n 0, 1) := by decide +kernel
theorem dX9_isLetter_20 : decode cX9_isLetter 20 = .ok (.getfield 7, 3) := by decide +kernel
theorem dX9_isLetter_23 : decode cX9_isLetter 23 = .ok (.iload_n 1, 1) := by decide +kernel
theorem dX9_isLetter_24 : decode cX9_isLetter 24 = .ok (.baload, 1) := by decide +kernel
theorem dX9_isLetter_25 : decode cX9_isLetter 25 = .ok (.bipush 122, 2) := by decide +kernel
theorem dX9_isLetter_27 : decode cX9_isLetter 27 = .ok (.if_icmp .gt 7, 3) := by decide +kernel
theorem dX9_isLetter_30 : decode cX9_isLetter 30 = .ok (.iconst 1, 1) := by decide +kernel
theorem dX9_isLetter_31 : decode cX9_isLetter 31 = .ok (.goto 4, 3) := by decide +kernel
theorem dX9_isLetter_34 : decode cX9_isLetter 34 = .ok (.iconst 0, 1) := by decide +kernel
theorem dX9_isLetter_35 : decode cX9_isLetter 35 = .ok (.ireturn, 1) := by decide +kernel
theorem dX9_isOf_0 : decode cX9_isOf 0 = .ok (.iload_n 0, 1) := by decide +kernel
theorem dX9_isOf_1 : decode cX9_isOf 1 = .ok (.iload_n 1, 1) := by decide +kernel
theorem dX9_isOf_2 : decode cX9_isOf 2 = .ok (.ishr, 1) := by decide +kernel
theorem dX9_isOf_3 : decode cX9_isOf 3 = .ok (.iconst 1, 1) := by decide +kernel
theorem dX9_isOf_4 : decode cX9_isOf 4 = .ok (.iand, 1) := by decide +kernel
theorem dX9_isOf_5 : decode cX9_isOf 5 = .ok (.iconst 1, 1) := by decide +kernel
theorem dX9_isOf_6 : decode cX9_isOf 6 = .ok (.if_icmp .ne 7, 3) := by decide +kernel
theorem dX9_isOf_9 : decode cX9_isOf 9 = .ok (.iconst 1, 1) := by decide +kernel
theorem dX9_isOf_10 : decode cX9_isOf 10 = .ok (.goto 4, 3) := by decide +kernel
theorem dX9_isOf_13 : decode cX9_isOf 13 = .ok (.iconst 0, 1) := by decide +kernel
theorem dX9_isOf_14 : decode cX9_isOf 14 = .ok (.ireturn, 1) := by decide +kernel
theorem dX9_isOpen_0 : decode cX9_isOpen 0 = .ok (.aload_n 0, 1) := by decide +kernel
theorem dX9_isOpen_1 : decode cX9_isOpen 1 = .ok (.iload_n 1, 1) := by decide +kernel
theorem dX9_isOpen_2 : decode cX9_isOpen 2 = .ok (.iconst 4, 1) := by decide +kernel
theorem dX9_isOpen_3 : decode cX9_isOpen 3 = .ok (.invokevirtual 268, 3) := by decide +kernel
theorem dX9_isOpen_6 : decode cX9_isOpen 6 = .ok (.ifCond .ne 30, 3) := by decide +kernel
theorem dX9_isOpen_9 : decode cX9_isOpen 9 = .ok (.aload_n 0, 1) := by decide +kernel
theorem dX9_isOpen_10 : decode cX9_isOpen 10 = .ok (.iload_n 1, 1) := by decide +kernel
theorem dX9_isOpen_11 : decode cX9_isOpen 11 = .ok (.iconst 3, 1) := by decide +kernel
theorem dX9_isOpen_12 : decode cX9_isOpen 12 = .ok (.invokevirtual 268, 3) := by decide +kernel
theorem dX9_isOpen_15 : decode cX9_isOpen 15 = .ok (.ifCond .lt 17, 3) := by decide +kernel
theorem dX9_isOpen_18 : decode cX9_isOpen 18 = .ok (.aload_n 0, 1) := by decide +kernel
theorem dX9_isOpen_19 : decode cX9_isOpen 19 = .ok (.aload_n 0, 1) := by decide +kernel
theorem dX9_isOpen_20 : decode cX9_isOpen 20 = .ok (.iload_n 1, 1) := by decide +kernel
theorem dX9_isOpen_21 : decode cX9_isOpen 21 = .ok (.iconst 3, 1) := by decide +kernel
theorem dX9_isOpen_22 : decode cX9_isOpen 22 = .ok (.invokevirtual 268, 3) := by decide +kernel
theorem dX9_isOpen_25 : decode cX9_isOpen 25 = .ok (.iconst 4, 1) := by decide +kernel
theorem dX9_isOpen_26 : decode cX9_isOpen 26 = .ok (.invokevirtual 268, 3) := by decide +kernel
theorem dX9_isOpen_29 : decode cX9_isOpen 29 = .ok (.ifCond .le 7, 3) := by decide +kernel
theorem dX9_isOpen_32 : decode cX9_isOpen 32 = .ok (.iconst 1, 1) := by decide +kernel
theorem dX9_isOpen_33 : decode cX9_isOpen 33 = .ok (.goto 4, 3) := by decide +kernel
theorem dX9_isOpen_36 : decode cX9_isOpen 36 = .ok (.iconst 0, 1) := by decide +kernel
theorem dX9_isOpen_37 : decode cX9_isOpen 37 = .ok (.ireturn, 1) := by decide +kernel
theorem dX9_isRule_0 : decode cX9_isRule 0 = .ok (.iload_n 1, 1) := by decide +kernel
theorem dX9_isRule_1 : decode cX9_isRule 1 = .ok (.ifCond .lt 15, 3) := by decide +kernel
theorem dX9_isRule_4 : decode cX9_isRule 4 = .ok (.iload_n 1, 1) := by decide +kernel
theorem dX9_isRule_5 : decode cX9_isRule 5 = .ok (.aload_n 0, 1) := by decide +kernel
theorem dX9_isRule_6 : decode cX9_isRule 6 = .ok (.getfield 247, 3) := by decide +kernel
theorem dX9_isRule_9 : decode cX9_isRule 9 = .ok (.if_icmp .ge 7, 3) := by decide +kernel
theorem dX9_isRule_12 : decode cX9_isRule 12 = .ok (.iconst 1, 1) := by decide +kernel
theorem dX9_isRule_13 : decode cX9_isRule 13 = .ok (.goto 4, 3) := by decide +kernel
theorem dX9_isRule_16 : decode cX9_isRule 16 = .ok (.iconst 0, 1) := by decide +kernel
theorem dX9_isRule_17 : decode cX9_isRule 17 = .ok (.ireturn, 1) := by decide +kernel
theorem dX9_isTimeHere_0 : decode cX9_isTimeHere 0 = .ok (.aload_n 0, 1) := by decide +kernel
theorem dX9_isTimeHere_1 : decode cX9_isTimeHere 1 = .ok (.getfield 212, 3) := by decide +kernel
theorem dX9_isTimeHere_4 : decode cX9_isTimeHere 4 = .ok (.ifCond .lt 10, 3) := by decide +kernel
theorem dX9_isTimeHere_7 : decode cX9_isTimeHere 7 = .ok (.aload_n 0, 1) := by decide +kernel
theorem dX9_isTimeHere_8 : decode cX9_isTimeHere 8 = .ok (.iconst 4, 1) := by decide +kernel
theorem dX9_isTimeHere_9 : decode cX9_isTimeHere 9 = .ok (.iload_n 1, 1) := by decide +kernel
theorem dX9_isTimeHere_10 : decode cX9_isTimeHere 10 = .ok (.invokevirtual 111, 3) := by decide +kernel
theorem dX9_isTimeHere_13 : decode cX9_isTimeHere 13 = .ok (.ireturn, 1) := by decide +kernel
theorem dX9_isTimeHere_14 : decode cX9_isTimeHere 14 = .ok (.aload_n 0, 1) := by decide +kernel
theorem dX9_isTimeHere_15 : decode cX9_isTimeHere 15 = .ok (.invokevirtual 105, 3) := by decide +kernel
theorem dX9_isTimeHere_18 : decode cX9_isTimeHere 18 = .ok (.aload_n 0, 1) := by decide +kernel
theorem dX9_isTimeHere_19 : decode cX9_isTimeHere 19 = .ok (.iconst 1, 1) := by decide +kernel
theorem dX9_isTimeHere_20 : decode cX9_isTimeHere 20 = .ok (.sipush 480, 3) := by decide +kernel
theorem dX9_isTimeHere_23 : decode cX9_isTimeHere 23 = .ok (.invokevirtual 161, 3) := by decide +kernel
theorem dX9_isTimeHere_26 : decode cX9_isTimeHere 26 = .ok (.ifCond .ne 5, 3) := by decide +kernel
theorem dX9_isTimeHere_29 : decode cX9_isTimeHere 29 = .ok (.iconst 0, 1) := by decide +kernel
theorem dX9_isTimeHere_30 : decode cX9_isTimeHere 30 = .ok (.ireturn, 1) := by decide +kernel
theorem dX9_isTimeHere_31 : decode cX9_isTimeHere 31 = .ok (.aload_n 0, 1) := by decide +kernel
theorem dX9_isTimeHere_32 : decode cX9_isTimeHere 32 = .ok (.aload_n 0, 1) := by decide +kernel
theorem dX9_isTimeHere_33 : decode cX9_isTimeHere 33 = .ok (.getfield 115, 3) := by decide +kernel
theorem dX9_isTimeHere_36 : decode cX9_isTimeHere 36 = .ok (.putfield 212, 3) := by decide +kernel
theorem dX9_isTimeHere_39 : decode cX9_isTimeHere 39 = .ok (.iconst 1, 1) := by decide +kernel
theorem dX9_isTimeHere_40 : decode cX9_isTimeHere 40 = .ok (.ireturn, 1) := by decide +kernel
theorem dX9_isWord_0 : decode cX9_isWord 0 = .ok (.aload_n 0, 1) := by decide +kernel
theorem dX9_isWord_1 : decode cX9_isWord 1 = .ok (.invokevirtual 93, 3) := by decide +kernel
theorem dX9_isWord_4 : decode cX9_isWord 4 = .ok (.pop, 1) := by decide +kernel
theorem dX9_isWord_5 : decode cX9_isWord 5 = .ok (.lconst 0, 1) := by decide +kernel
theorem dX9_isWord_6 : decode cX9_isWord 6 = .ok (.lstore_n 3, 1) := by decide +kernel
theorem dX9_isWord_7 : decode cX9_isWord 7 = .ok (.iconst 0, 1) := by decide +kernel
theorem dX9_isWord_8 : decode cX9_isWord 8 = .ok (.istore 5, 2) := by decide +kernel
theorem dX9_isWord_10 : decode cX9_isWord 10 = .ok (.aload_n 0, 1) := by decide +kernel
theorem dX9_isWord_11 : decode cX9_isWord 11 = .ok (.aload_n 0, 1) := by decide +kernel
theorem dX9_isWord_12 : decode cX9_isWord 12 = .ok (.getfield 90, 3) := by decide +kernel
theorem dX9_isWord_15 : decode cX9_isWord 15 = .ok (.iload 5, 2) := by decide +kernel
theorem dX9_isWord_17 : decode cX9_isWord 17 = .ok (.iadd, 1) := by decide +kernel
theorem dX9_isWord_18 : decode cX9_isWord 18 = .ok (.invokevirtual 97, 3) := by decide +kernel
theorem dX9_isWord_21 : decode cX9_isWord 21 = .ok (.ifCond .eq 35, 3) := by decide +kernel
theorem dX9_isWord_24 : decode cX9_isWord 24 = .ok (.iload 5, 2) := by decide +kernel
theorem dX9_isWord_26 : decode cX9_isWord 26 = .ok (.bipush 8, 2) := by decide +kernel
theorem dX9_isWord_28 : decode cX9_isWord 28 = .ok (.if_icmp .ge 22, 3) := by decide +kernel
theorem dX9_isWord_31 : decode cX9_isWord 31 = .ok (.lload_n 3, 1) := by decide +kernel
theorem dX9_isWord_32 : decode cX9_isWord 32 = .ok (.bipush 8, 2) := by decide +kernel
theorem dX9_isWord_34 : decode cX9_isWord 34 = .ok (.lshl, 1) := by decide +kernel
theorem dX9_isWord_35 : decode cX9_isWord 35 = .ok (.aload_n 0, 1) := by decide +kernel
theorem dX9_isWord_36 : decode cX9_isWord 36 = .ok (.getfield 7, 3) := by decide +kernel
theorem dX9_isWord_39 : decode cX9_isWord 39 = .ok (.aload_n 0, 1) := by decide +kernel
theorem dX9_isWord_40 : decode cX9_isWord 40 = .ok (.getfield 90, 3) := by decide +kernel
theorem dX9_isWord_43 : decode cX9_isWord 43 = .ok (.iload 5, 2) := by decide +kernel
theorem dX9_isWord_45 : decode cX9_isWord 45 = .ok (.iadd, 1) := by decide +kernel
theorem dX9_isWord_46 : decode cX9_isWord 46 = .ok (.baload, 1) := by decide +kernel
theorem dX9_isWord_47 : decode cX9_isWord 47 = .ok (.i2l, 1) := by decide +kernel
theorem dX9_isWord_48 : decode cX9_isWord 48 = .ok (.lor, 1) := by decide +kernel
theorem dX9_isWord_49 : decode cX9_isWord 49 = .ok (.lstore_n 3, 1) := by decide +kernel
theorem dX9_isWord_50 : decode cX9_isWord 50 = .ok (.iinc 5 1, 3) := by decide +kernel
theorem dX9_isWord_53 : decode cX9_isWord 53 = .ok (.goto (-43), 3) := by decide +kernel
theorem dX9_isWord_56 : decode cX9_isWord 56 = .ok (.iload 5, 2) := by decide +kernel
theorem dX9_isWord_58 : decode cX9_isWord 58 = .ok (.ifCond .le 20, 3) := by decide +kernel
theorem dX9_isWord_61 : decode cX9_isWord 61 = .ok (.iload 5, 2) := by decide +kernel
theorem dX9_isWord_63 : decode cX9_isWord 63 = .ok (.bipush 8, 2) := by decide +kernel
theorem dX9_isWord_65 : decode cX9_isWord 65 = .ok (.if_icmp .ge 13, 3) := by decide +kernel
theorem dX9_isWord_68 : decode cX9_isWord 68 = .ok (.lload_n 3, 1) := by decide +kernel
theorem dX9_isWord_69 : decode cX9_isWord 69 = .ok (.lload_n 1, 1) := by decide +kernel
theorem dX9_isWord_70 : decode cX9_isWord 70 = .ok (.lcmp, 1) := by decide +kernel
theorem dX9_isWord_71 : decode cX9_isWord 71 = .ok (.ifCond .ne 7, 3) := by decide +kernel
theorem dX9_isWord_74 : decode cX9_isWord 74 = .ok (.iconst 1, 1) := by decide +kernel
theorem dX9_isWord_75 : decode cX9_isWord 75 = .ok (.goto 4, 3) := by decide +kernel
theorem dX9_isWord_78 : decode cX9_isWord 78 = .ok (.iconst 0, 1) := by decide +kernel
theorem dX9_isWord_79 : decode cX9_isWord 79 = .ok (.ireturn, 1) := by decide +kernel
theorem dX9_isWork_0 : decode cX9_isWork 0 = .ok (.aload_n 0, 1) := by decide +kernel
theorem dX9_isWork_1 : decode cX9_isWork 1 = .ok (.getfield 42, 3) := by decide +kernel
theorem dX9_isWork_4 : decode cX9_isWork 4 = .ok (.iconst 0, 1) := by decide +kernel
theorem dX9_isWork_5 : decode cX9_isWork 5 = .ok (.iaload, 1) := by decide +kernel
theorem dX9_isWork_6 : decode cX9_isWork 6 = .ok (.ifCond .le 7, 3) := by decide +kernel
theorem dX9_isWork_9 : decode cX9_isWork 9 = .ok (.iconst 1, 1) := by decide +kernel
theorem dX9_isWork_10 : decode cX9_isWork 10 = .ok (.goto 4, 3) := by decide +kernel
theorem dX9_isWork_13 : decode cX9_isWork 13 = .ok (.iconst 0, 1) := by decide +kernel
theorem dX9_isWork_14 : decode cX9_isWork 14 = .ok (.ireturn, 1) := by decide +kernel
theorem dX9_keeps_0 : decode cX9_keeps 0 = .ok (.iconst 0, 1) := by decide +kernel
theorem dX9_keeps_1 : decode cX9_keeps 1 = .ok (.istore_n 1, 1) := by decide +kernel
theorem dX9_keeps_2 : decode cX9_keeps 2 = .ok (.iload_n 1, 1) := by decide +kernel
theorem dX9_keeps_3 : decode cX9_keeps 3 = .ok (.bipush 104, 2) := by decide +kernel
theorem dX9_keeps_5 : decode cX9_keeps 5 = .ok (.if_icmp .ge 21, 3) := by decide +kernel
theorem dX9_keeps_8 : decode cX9_keeps 8 = .ok (.aload_n 0, 1) := by decide +kernel
theorem dX9_keeps_9 : decode cX9_keeps 9 = .ok (.getfield 45, 3) := by decide +kernel
theorem dX9_keeps_12 : decode cX9_keeps 12 = .ok (.iload_n 1, 1) := by decide +kernel
theorem dX9_keeps_13 : decode cX9_keeps 13 = .ok (.aload_n 0, 1) := by decide +kernel
theorem dX9_keeps_14 : decode cX9_keeps 14 = .ok (.getfield 42, 3) := by decide +kernel
theorem dX9_keeps_17 : decode cX9_keeps 17 = .ok (.iload_n 1, 1) := by decide +kernel
theorem dX9_keeps_18 : decode cX9_keeps 18 = .ok (.iaload, 1) := by decide +kernel
theorem dX9_keeps_19 : decode cX9_keeps 19 = .ok (.iastore, 1) := by decide +kernel
theorem dX9_keeps_20 : decode cX9_keeps 20 = .ok (.iinc 1 1, 3) := by decide +kernel
theorem dX9_keeps_23 : decode cX9_keeps 23 = .ok (.goto (-21), 3) := by decide +kernel
theorem dX9_keeps_26 : decode cX9_keeps 26 = .ok (.return_, 1) := by decide +kernel
theorem dX9_kind_0 : decode cX9_kind 0 = .ok (.iload_n 1, 1) := by decide +kernel
theorem dX9_kind_1 : decode cX9_kind 1 = .ok (.i2l, 1) := by decide +kernel
theorem dX9_kind_2 : decode cX9_kind 2 = .ok (.lconst 0, 1) := by decide +kernel
theorem dX9_kind_3 : decode cX9_kind 3 = .ok (.aload_n 0, 1) := by decide +kernel
theorem dX9_kind_4 : decode cX9_kind 4 = .ok (.getfield 42, 3) := by decide +kernel
theorem dX9_kind_7 : decode cX9_kind 7 = .ok (.iconst 1, 1) := by decide +kernel
theorem dX9_kind_8 : decode cX9_kind 8 = .ok (.iaload, 1) := by decide +kernel
theorem dX9_kind_9 : decode cX9_kind 9 = .ok (.iconst 1, 1) := by decide +kernel
theorem dX9_kind_10 : decode cX9_kind 10 = .ok (.isub, 1) := by decide +kernel
theorem dX9_kind_11 : decode cX9_kind 11 = .ok (.i2l, 1) := by decide +kernel
theorem dX9_kind_12 : decode cX9_kind 12 = .ok (.invokestatic 118, 3) := by decide +kernel
theorem dX9_kind_15 : decode cX9_kind 15 = .ok (.ifCond .eq 31, 3) := by decide +kernel
theorem dX9_kind_18 : decode cX9_kind 18 = .ok (.iload_n 2, 1) := by decide +kernel
theorem dX9_kind_19 : decode cX9_kind 19 = .ok (.i2l, 1) := by decide +kernel
theorem dX9_kind_20 : decode cX9_kind 20 = .ok (.lconst 0, 1) := by decide +kernel
theorem dX9_kind_21 : decode cX9_kind 21 = .ok (.ldc2_w 278, 3) := by decide +kernel
theorem dX9_kind_24 : decode cX9_kind 24 = .ok (.invokestatic 118, 3) := by decide +kernel
theorem dX9_kind_27 : decode cX9_kind 27 = .ok (.ifCond .eq 19, 3) := by decide +kernel
theorem dX9_kind_30 : decode cX9_kind 30 = .ok (.aload_n 0, 1) := by decide +kernel
theorem dX9_kind_31 : decode cX9_kind 31 = .ok (.getfield 42, 3) := by decide +kernel
theorem dX9_kind_34 : decode cX9_kind 34 = .ok (.bipush 26, 2) := by decide +kernel
theorem dX9_kind_36 : decode cX9_kind 36 = .ok (.iconst 3, 1) := by decide +kernel
theorem dX9_kind_37 : decode cX9_kind 37 = .ok (.iload_n 1, 1) := by decide +kernel
theorem dX9_kind_38 : decode cX9_kind 38 = .ok (.imul, 1) := by decide +kernel
theorem dX9_kind_39 : decode cX9_kind 39 = .ok (.iadd, 1) := by decide +kernel
theorem dX9_kind_40 : decode cX9_kind 40 = .ok (.iload_n 2, 1) := by decide +kernel
theorem dX9_kind_41 : decode cX9_kind 41 = .ok (.iadd, 1) := by decide +kernel
theorem dX9_kind_42 : decode cX9_kind 42 = .ok (.iaload, 1) := by decide +kernel
theorem dX9_kind_43 : decode cX9_kind 43 = .ok (.goto 4, 3) := by decide +kernel
theorem dX9_kind_46 : decode cX9_kind 46 = .ok (.iconst (-1), 1) := by decide +kernel
theorem dX9_kind_47 : decode cX9_kind 47 = .ok (.ireturn, 1) := by decide +kernel
theorem dX9_kindOf_0 : decode cX9_kindOf 0 = .ok (.aload_n 0, 1) := by decide +kernel
theorem dX9_kindOf_1 : decode cX9_kindOf 1 = .ok (.getfield 42, 3) := by decide +kernel
theorem dX9_kindOf_4 : decode cX9_kindOf 4 = .ok (.bipush 26, 2) := by decide +kernel
theorem dX9_kindOf_6 : decode cX9_kindOf 6 = .ok (.iconst 3, 1) := by decide +kernel
theorem dX9_kindOf_7 : decode cX9_kindOf 7 = .ok (.aload_n 0, 1) := by decide +kernel
theorem dX9_kindOf_8 : decode cX9_kindOf 8 = .ok (.iload_n 1, 1) := by decide +kernel
theorem dX9_kindOf_9 : decode cX9_kindOf 9 = .ok (.iconst 0, 1) := by decide +kernel
theorem dX9_kindOf_10 : decode cX9_kindOf 10 = .ok (.invokevirtual 268, 3) := by decide +kernel
theorem dX9_kindOf_13 : decode cX9_kindOf 13 = .ok (.imul, 1) := by decide +kernel
theorem dX9_kindOf_14 : decode cX9_kindOf 14 = .ok (.iadd, 1) := by decide +kernel
theorem dX9_kindOf_15 : decode cX9_kindOf 15 = .ok (.iload_n 2, 1) := by decide +kernel
theorem dX9_kindOf_16 : decode cX9_kindOf 16 = .ok (.iadd, 1) := by decide +kernel
theorem dX9_kindOf_17 : decode cX9_kindOf 17 = .ok (.iaload, 1) := by decide +kernel
theorem dX9_kindOf_18 : decode cX9_kindOf 18 = .ok (.ireturn, 1) := by decide +kernel
theorem dX9_look_0 : decode cX9_look 0 = .ok (.aload_n 0, 1) := by decide +kernel
theorem dX9_look_1 : decode cX9_look 1 = .ok (.iload_n 1, 1) := by decide +kernel
theorem dX9_look_2 : decode cX9_look 2 = .ok (.invokevirtual 280, 3) := by decide +kernel
theorem dX9_look_5 : decode cX9_look 5 = .ok (.ifCond .ne 5, 3) := by decide +kernel
theorem dX9_look_8 : decode cX9_look 8 = .ok (.iconst (-1), 1) := by decide +kernel
theorem dX9_look_9 : decode cX9_look 9 = .ok (.ireturn, 1) := by decide +kernel
theorem dX9_look_10 : decode cX9_look 10 = .ok (.aload_n 0, 1) := by decide +kernel
theorem dX9_look_11 : decode cX9_look 11 = .ok (.iload_n 1, 1) := by decide +kernel
theorem dX9_look_12 : decode cX9_look 12 = .ok (.invokevirtual 272, 3) := by decide +kernel
theorem dX9_look_15 : decode cX9_look 15 = .ok (.ifCond .ne 6, 3) := by decide +kernel
theorem dX9_look_18 : decode cX9_look 18 = .ok (.bipush (-2), 2) := by decide +kernel
theorem dX9_look_20 : decode cX9_look 20 = .ok (.ireturn, 1) := by decide +kernel
theorem dX9_look_21 : decode cX9_look 21 = .ok (.aload_n 0, 1) := by decide +kernel
theorem dX9_look_22 : decode cX9_look 22 = .ok (.iload_n 1, 1) := by decide +kernel
theorem dX9_look_23 : decode cX9_look 23 = .ok (.invokevirtual 295, 3) := by decide +kernel
theorem dX9_look_26 : decode cX9_look 26 = .ok (.ifCond .ne 6, 3) := by decide +kernel
theorem dX9_look_29 : decode cX9_look 29 = .ok (.bipush (-3), 2) := by decide +kernel
theorem dX9_look_31 : decode cX9_look 31 = .ok (.ireturn, 1) := by decide +kernel
theorem dX9_look_32 : decode cX9_look 32 = .ok (.aload_n 0, 1) := by decide +kernel
theorem dX9_look_33 : decode cX9_look 33 = .ok (.iload_n 1, 1) := by decide +kernel
theorem dX9_look_34 : decode cX9_look 34 = .ok (.invokevirtual 298, 3) := by decide +kernel
theorem dX9_look_37 : decode cX9_look 37 = .ok (.ifCond .eq 7, 3) := by decide +kernel
theorem dX9_look_40 : decode cX9_look 40 = .ok (.iconst 1, 1) := by decide +kernel
theorem dX9_look_41 : decode cX9_look 41 = .ok (.goto 4, 3) := by decide +kernel
theorem dX9_look_44 : decode cX9_look 44 = .ok (.iconst 0, 1) := by decide +kernel
theorem dX9_look_45 : decode cX9_look 45 = .ok (.ireturn, 1) := by decide +kernel
theorem dX9_looks_0 : decode cX9_looks 0 = .ok (.bipush 44, 2) := by decide +kernel
theorem dX9_looks_2 : decode cX9_looks 2 = .ok (.bipush 6, 2) := by decide +kernel
theorem dX9_looks_4 : decode cX9_looks 4 = .ok (.iload_n 1, 1) := by decide +kernel
theorem dX9_looks_5 : decode cX9_looks 5 = .ok (.imul, 1) := by decide +kernel
theorem dX9_looks_6 : decode cX9_looks 6 = .ok (.iadd, 1) := by decide +kernel
theorem dX9_looks_7 : decode cX9_looks 7 = .ok (.istore_n 2, 1) := by decide +kernel
theorem dX9_looks_8 : decode cX9_looks 8 = .ok (.aload_n 0, 1) := by decide +kernel
theorem dX9_looks_9 : decode cX9_looks 9 = .ok (.getfield 42, 3) := by decide +kernel
theorem dX9_looks_12 : decode cX9_looks 12 = .ok (.iload_n 2, 1) := by decide +kernel
theorem dX9_looks_13 : decode cX9_looks 13 = .ok (.iconst 5, 1) := by decide +kernel
theorem dX9_looks_14 : decode cX9_looks 14 = .ok (.iadd, 1) := by decide +kernel
theorem dX9_looks_15 : decode cX9_looks 15 = .ok (.dup2, 1) := by decide +kernel
theorem dX9_looks_16 : decode cX9_looks 16 = .ok (.iaload, 1) := by decide +kernel
theorem dX9_looks_17 : decode cX9_looks 17 = .ok (.iconst 1, 1) := by decide +kernel
theorem dX9_looks_18 : decode cX9_looks 18 = .ok (.iadd, 1) := by decide +kernel
theorem dX9_looks_19 : decode cX9_looks 19 = .ok (.iastore, 1) := by decide +kernel
theorem dX9_looks_20 : decode cX9_looks 20 = .ok (.aload_n 0, 1) := by decide +kernel
theorem dX9_looks_21 : decode cX9_looks 21 = .ok (.getfield 42, 3) := by decide +kernel
theorem dX9_looks_24 : decode cX9_looks 24 = .ok (.iconst 3, 1) := by decide +kernel
theorem dX9_looks_25 : decode cX9_looks 25 = .ok (.dup2, 1) := by decide +kernel
theorem dX9_looks_26 : decode cX9_looks 26 = .ok (.iaload, 1) := by decide +kernel
theorem dX9_looks_27 : decode cX9_looks 27 = .ok (.aload_n 0, 1) := by decide +kernel
theorem dX9_looks_28 : decode cX9_looks 28 = .ok (.getfield 42, 3) := by decide +kernel
theorem dX9_looks_31 : decode cX9_looks 31 = .ok (.iload_n 2, 1) := by decide +kernel
theorem dX9_looks_32 : decode cX9_looks 32 = .ok (.iconst 1, 1) := by decide +kernel
theorem dX9_looks_33 : decode cX9_looks 33 = .ok (.iadd, 1) := by decide +kernel
theorem dX9_looks_34 : decode cX9_looks 34 = .ok (.iaload, 1) := by decide +kernel
theorem dX9_looks_35 : decode cX9_looks 35 = .ok (.isub, 1) := by decide +kernel
theorem dX9_looks_36 : decode cX9_looks 36 = .ok (.iastore, 1) := by decide +kernel
theorem dX9_looks_37 : decode cX9_looks 37 = .ok (.aload_n 0, 1) := by decide +kernel
theorem dX9_looks_38 : decode cX9_looks 38 = .ok (.bipush 100, 2) := by decide +kernel
theorem dX9_looks_40 : decode cX9_looks 40 = .ok (.invokevirtual 292, 3) := by decide +kernel
theorem dX9_looks_43 : decode cX9_looks 43 = .ok (.aload_n 0, 1) := by decide +kernel
theorem dX9_looks_44 : decode cX9_looks 44 = .ok (.getfield 42, 3) := by decide +kernel
theorem dX9_looks_47 : decode cX9_looks 47 = .ok (.iload_n 2, 1) := by decide +kernel
theorem dX9_looks_48 : decode cX9_looks 48 = .ok (.iconst 2, 1) := by decide +kernel
theorem dX9_looks_49 : decode cX9_looks 49 = .ok (.iadd, 1) := by decide +kernel
theorem dX9_looks_50 : decode cX9_looks 50 = .ok (.iaload, 1) := by decide +kernel
theorem dX9_looks_51 : decode cX9_looks 51 = .ok (.if_icmp .lt 5, 3) := by decide +kernel
theorem dX9_looks_54 : decode cX9_looks 54 = .ok (.iconst 0, 1) := by decide +kernel
theorem dX9_looks_55 : decode cX9_looks 55 = .ok (.ireturn, 1) := by decide +kernel
theorem dX9_looks_56 : decode cX9_looks 56 = .ok (.aload_n 0, 1) := by decide +kernel
theorem dX9_looks_57 : decode cX9_looks 57 = .ok (.getfield 42, 3) := by decide +kernel
theorem dX9_looks_60 : decode cX9_looks 60 = .ok (.iload_n 2, 1) := by decide +kernel
theorem dX9_looks_61 : decode cX9_looks 61 = .ok (.iconst 4, 1) := by decide +kernel
theorem dX9_looks_62 : decode cX9_looks 62 = .ok (.iadd, 1) := by decide +kernel
theorem dX9_looks_63 : decode cX9_looks 63 = .ok (.iconst 1, 1) := by decide +kernel
theorem dX9_looks_64 : decode cX9_looks 64 = .ok (.iastore, 1) := by decide +kernel
theorem dX9_looks_65 : decode cX9_looks 65 = .ok (.aload_n 0, 1) := by decide +kernel
theorem dX9_looks_66 : decode cX9_looks 66 = .ok (.getfield 42, 3) := by decide +kernel
theorem dX9_looks_69 : decode cX9_looks 69 = .ok (.iconst 4, 1) := by decide +kernel
theorem dX9_looks_70 : decode cX9_looks 70 = .ok (.dup2, 1) := by decide +kernel
theorem dX9_looks_71 : decode cX9_looks 71 = .ok (.iaload, 1) := by decide +kernel
theorem dX9_looks_72 : decode cX9_looks 72 = .ok (.aload_n 0, 1) := by decide +kernel
theorem dX9_looks_73 : decode cX9_looks 73 = .ok (.iload_n 1, 1) := by decide +kernel
theorem dX9_looks_74 : decode cX9_looks 74 = .ok (.iconst 0, 1) := by decide +kernel
theorem dX9_looks_75 : decode cX9_looks 75 = .ok (.invokevirtual 275, 3) := by decide +kernel
theorem dX9_looks_78 : decode cX9_looks 78 = .ok (.iadd, 1) := by decide +kernel
theorem dX9_looks_79 : decode cX9_looks 79 = .ok (.iastore, 1) := by decide +kernel
theorem dX9_looks_80 : decode cX9_looks 80 = .ok (.iconst 1, 1) := by decide +kernel
theorem dX9_looks_81 : decode cX9_looks 81 = .ok (.ireturn, 1) := by decide +kernel
theorem dX9_makes_0 : decode cX9_makes 0 = .ok (.aload_n 0, 1) := by decide +kernel
theorem dX9_makes_1 : decode cX9_makes 1 = .ok (.getfield 143, 3) := by decide +kernel
theorem dX9_makes_4 : decode cX9_makes 4 = .ok (.bipush 60, 2) := by decide +kernel
theorem dX9_makes_6 : decode cX9_makes 6 = .ok (.if_icmp .ne 10, 3) := by decide +kernel
theorem dX9_makes_9 : decode cX9_makes 9 = .ok (.aload_n 0, 1) := by decide +kernel
theorem dX9_makes_10 : decode cX9_makes 10 = .ok (.iconst 3, 1) := by decide +kernel
theorem dX9_makes_11 : decode cX9_makes 11 = .ok (.iload_n 1, 1) := by decide +kernel
theorem dX9_makes_12 : decode cX9_makes 12 = .ok (.invokevirtual 111, 3) := by decide +kernel
theorem dX9_makes_15 : decode cX9_makes 15 = .ok (.ireturn, 1) := by decide +kernel
theorem dX9_makes_16 : decode cX9_makes 16 = .ok (.aload_n 0, 1) := by decide +kernel
theorem dX9_makes_17 : decode cX9_makes 17 = .ok (.dup, 1) := by decide +kernel
theorem dX9_makes_18 : decode cX9_makes 18 = .ok (.getfield 143, 3) := by decide +kernel
theorem dX9_makes_21 : decode cX9_makes 21 = .ok (.iconst 1, 1) := by decide +kernel
theorem dX9_makes_22 : decode cX9_makes 22 = .ok (.iadd, 1) := by decide +kernel
theorem dX9_makes_23 : decode cX9_makes 23 = .ok (.putfield 143, 3) := by decide +kernel
theorem dX9_makes_26 : decode cX9_makes 26 = .ok (.iconst 1, 1) := by decide +kernel
theorem dX9_makes_27 : decode cX9_makes 27 = .ok (.ireturn, 1) := by decide +kernel
theorem dX9_master_0 : decode cX9_master 0 = .ok (.aload_n 0, 1) := by decide +kernel
theorem dX9_master_1 : decode cX9_master 1 = .ok (.invokevirtual 301, 3) := by decide +kernel
theorem dX9_master_4 : decode cX9_master 4 = .ok (.ifCond .eq 27, 3) := by decide +kernel
theorem dX9_master_7 : decode cX9_master 7 = .ok (.iload_n 1, 1) := by decide +kernel
theorem dX9_master_8 : decode cX9_master 8 = .ok (.i2l, 1) := by decide +kernel
theorem dX9_master_9 : decode cX9_master 9 = .ok (.lconst 0, 1) := by decide +kernel
theorem dX9_master_10 : decode cX9_master 10 = .ok (.ldc2_w 341, 3) := by decide +kernel
theorem dX9_master_13 : decode cX9_master 13 = .ok (.invokestatic 118, 3) := by decide +kernel
theorem dX9_master_16 : decode cX9_master 16 = .ok (.ifCond .eq 15, 3) := by decide +kernel
theorem dX9_master_19 : decode cX9_master 19 = .ok (.iload_n 2, 1) := by decide +kernel
theorem dX9_master_20 : decode cX9_master 20 = .ok (.i2l, 1) := by decide +kernel
theorem dX9_master_21 : decode cX9_master 21 = .ok (.lconst 0, 1) := by decide +kernel
theorem dX9_master_22 : decode cX9_master 22 = .ok (.ldc2_w 278, 3) := by decide +kernel
theorem dX9_master_25 : decode cX9_master 25 = .ok (.invokestatic 118, 3) := by decide +kernel
theorem dX9_master_28 : decode cX9_master 28 = .ok (.ifCond .ne 7, 3) := by decide +kernel
theorem dX9_master_31 : decode cX9_master 31 = .ok (.ldc2_w 393, 3) := by decide +kernel
theorem dX9_master_34 : decode cX9_master 34 = .ok (.lreturn, 1) := by decide +kernel
theorem dX9_master_35 : decode cX9_master 35 = .ok (.aload_n 0, 1) := by decide +kernel
theorem dX9_master_36 : decode cX9_master 36 = .ok (.iconst 0, 1) := by decide +kernel
theorem dX9_master_37 : decode cX9_master 37 = .ok (.invokevirtual 313, 3) := by decide +kernel
theorem dX9_master_40 : decode cX9_master 40 = .ok (.istore_n 3, 1) := by decide +kernel
theorem dX9_master_41 : decode cX9_master 41 = .ok (.iconst 0, 1) := by decide +kernel
theorem dX9_master_42 : decode cX9_master 42 = .ok (.istore 4, 2) := by decide +kernel
theorem dX9_master_44 : decode cX9_master 44 = .ok (.iconst 0, 1) := by decide +kernel
theorem dX9_master_45 : decode cX9_master 45 = .ok (.istore 5, 2) := by decide +kernel
theorem dX9_master_47 : decode cX9_master 47 = .ok (.iload 5, 2) := by decide +kernel
theorem dX9_master_49 : decode cX9_master 49 = .ok (.aload_n 0, 1) := by decide +kernel
theorem dX9_master_50 : decode cX9_master 50 = .ok (.getfield 42, 3) := by decide +kernel
theorem dX9_master_53 : decode cX9_master 53 = .ok (.iconst 0, 1) := by decide +kernel
theorem dX9_master_54 : decode cX9_master 54 = .ok (.iaload, 1) := by decide +kernel
theorem dX9_master_55 : decode cX9_master 55 = .ok (.if_icmp .ge 41, 3) := by decide +kernel
theorem dX9_master_58 : decode cX9_master 58 = .ok (.iload 4, 2) := by decide +kernel
theorem dX9_master_60 : decode cX9_master 60 = .ok (.iload_n 3, 1) := by decide +kernel
theorem dX9_master_61 : decode cX9_master 61 = .ok (.iload 5, 2) := by decide +kernel
theorem dX9_master_63 : decode cX9_master 63 = .ok (.invokestatic 349, 3) := by decide +kernel
theorem dX9_master_66 : decode cX9_master 66 = .ok (.ifCond .eq 20, 3) := by decide +kernel
theorem dX9_master_69 : decode cX9_master 69 = .ok (.iload 4, 2) := by decide +kernel
theorem dX9_master_71 : decode cX9_master 71 = .ok (.invokestatic 316, 3) := by decide +kernel
theorem dX9_master_74 : decode cX9_master 74 = .ok (.bipush 6, 2) := by decide +kernel
theorem dX9_master_76 : decode cX9_master 76 = .ok (.if_icmp .ge 10, 3) := by decide +kernel
theorem dX9_master_79 : decode cX9_master 79 = .ok (.iconst 1, 1) := by decide +kernel
theorem dX9_master_80 : decode cX9_master 80 = .ok (.iload 5, 2) := by decide +kernel
theorem dX9_master_82 : decode cX9_master 82 = .ok (.ishl, 1) := by decide +kernel
theorem dX9_master_83 : decode cX9_master 83 = .ok (.goto 4, 3) := by decide +kernel
theorem dX9_master_86 : decode cX9_master 86 = .ok (.iconst 0, 1) := by decide +kernel
theorem dX9_master_87 : decode cX9_master 87 = .ok (.ior, 1) := by decide +kernel
theorem dX9_master_88 : decode cX9_master 88 = .ok (.istore 4, 2) := by decide +kernel
theorem dX9_master_90 : decode cX9_master 90 = .ok (.iinc 5 1, 3) := by decide +kernel
theorem dX9_master_93 : decode cX9_master 93 = .ok (.goto (-46), 3) := by decide +kernel
theorem dX9_master_96 : decode cX9_master 96 = .ok (.iconst (-1), 1) := by decide +kernel
theorem dX9_master_97 : decode cX9_master 97 = .ok (.istore 5, 2) := by decide +kernel
theorem dX9_master_99 : decode cX9_master 99 = .ok (.lconst 0, 1) := by decide +kernel
theorem dX9_master_100 : decode cX9_master 100 = .ok (.lstore 6, 2) := by decide +kernel
theorem dX9_master_102 : decode cX9_master 102 = .ok (.aload_n 0, 1) := by decide +kernel
theorem dX9_master_103 : decode cX9_master 103 = .ok (.invokevirtual 343, 3) := by decide +kernel
theorem dX9_master_106 : decode cX9_master 106 = .ok (.iconst 0, 1) := by decide +kernel
theorem dX9_master_107 : decode cX9_master 107 = .ok (.istore 8, 2) := by decide +kernel
theorem dX9_master_109 : decode cX9_master 109 = .ok (.iload 8, 2) := by decide +kernel
theorem dX9_master_111 : decode cX9_master 111 = .ok (.iconst 1, 1) := by decide +kernel
theorem dX9_master_112 : decode cX9_master 112 = .ok (.aload_n 0, 1) := by decide +kernel
theorem dX9_master_113 : decode cX9_master 113 = .ok (.getfield 42, 3) := by decide +kernel
theorem dX9_master_116 : decode cX9_master 116 = .ok (.iconst 0, 1) := by decide +kernel
theorem dX9_master_117 : decode cX9_master 117 = .ok (.iaload, 1) := by decide +kernel
theorem dX9_master_118 : decode cX9_master 118 = .ok (.ishl, 1) := by decide +kernel
theorem dX9_master_119 : decode cX9_master 119 = .ok (.if_icmp .ge 158, 3) := by decide +kernel
theorem dX9_master_122 : decode cX9_master 122 = .ok (.iload 8, 2) := by decide +kernel
theorem dX9_master_124 : decode cX9_master 124 = .ok (.iload 4, 2) := by decide +kernel
theorem dX9_master_126 : decode cX9_master 126 = .ok (.iconst (-1), 1) := by decide +kernel
theorem dX9_master_127 : decode cX9_master 127 = .ok (.ixor, 1) := by decide +kernel
theorem dX9_master_128 : decode cX9_master 128 = .ok (.iand, 1) := by decide +kernel
theorem dX9_master_129 : decode cX9_master 129 = .ok (.ifCond .eq 6, 3) := by decide +kernel
theorem dX9_master_132 : decode cX9_master 132 = .ok (.goto 139, 3) := by decide +kernel
theorem dX9_master_135 : decode cX9_master 135 = .ok (.lconst 0, 1) := by decide +kernel
theorem dX9_master_136 : decode cX9_master 136 = .ok (.lstore 9, 2) := by decide +kernel
theorem dX9_master_138 : decode cX9_master 138 = .ok (.iconst 0, 1) := by decide +kernel
theorem dX9_master_139 : decode cX9_master 139 = .ok (.istore 11, 2) := by decide +kernel
theorem dX9_master_141 : decode cX9_master 141 = .ok (.iload 11, 2) := by decide +kernel
theorem dX9_master_143 : decode cX9_master 143 = .ok (.aload_n 0, 1) := by decide +kernel
theorem dX9_master_144 : decode cX9_master 144 = .ok (.getfield 42, 3) := by decide +kernel
theorem dX9_master_147 : decode cX9_master 147 = .ok (.iconst 0, 1) := by decide +kernel
theorem dX9_master_148 : decode cX9_master 148 = .ok (.iaload, 1) := by decide +kernel
theorem dX9_master_149 : decode cX9_master 149 = .ok (.if_icmp .ge 51, 3) := by decide +kernel
theorem dX9_master_152 : decode cX9_master 152 = .ok (.iload 8, 2) := by decide +kernel
theorem dX9_master_154 : decode cX9_master 154 = .ok (.iload 11, 2) := by decide +kernel
theorem dX9_master_156 : decode cX9_master 156 = .ok (.invokestatic 349, 3) := by decide +kernel
theorem dX9_master_159 : decode cX9_master 159 = .ok (.ifCond .ne 6, 3) := by decide +kernel
theorem dX9_master_162 : decode cX9_master 162 = .ok (.goto 32, 3) := by decide +kernel
theorem dX9_master_165 : decode cX9_master 165 = .ok (.aload_n 0, 1) := by decide +kernel
theorem dX9_master_166 : decode cX9_master 166 = .ok (.getfield 42, 3) := by decide +kernel
theorem dX9_master_169 : decode cX9_master 169 = .ok (.bipush 44, 2) := by decide +kernel
theorem dX9_master_171 : decode cX9_master 171 = .ok (.bipush 6, 2) := by decide +kernel
theorem dX9_master_173 : decode cX9_master 173 = .ok (.iload 11, 2) := by decide +kernel
theorem dX9_master_175 : decode cX9_master 175 = .ok (.imul, 1) := by decide +kernel
theorem dX9_master_176 : decode cX9_master 176 = .ok (.iadd, 1) := by decide +kernel
theorem dX9_master_177 : decode cX9_master 177 = .ok (.iconst 4, 1) := by decide +kernel
theorem dX9_master_178 : decode cX9_master 178 = .ok (.iadd, 1) := by decide +kernel
theorem dX9_master_179 : decode cX9_master 179 = .ok (.iconst 2, 1) := by decide +kernel
theorem dX9_master_180 : decode cX9_master 180 = .ok (.iastore, 1) := by decide +kernel
theorem dX9_master_181 : decode cX9_master 181 = .ok (.lload 9, 2) := by decide +kernel
theorem dX9_master_183 : decode cX9_master 183 = .ok (.aload_n 0, 1) := by decide +kernel
theorem dX9_master_184 : decode cX9_master 184 = .ok (.iload 11, 2) := by decide +kernel
theorem dX9_master_186 : decode cX9_master 186 = .ok (.iconst 2, 1) := by decide +kernel
theorem dX9_master_187 : decode cX9_master 187 = .ok (.invokevirtual 275, 3) := by decide +kernel
theorem dX9_master_190 : decode cX9_master 190 = .ok (.i2l, 1) := by decide +kernel
theorem dX9_master_191 : decode cX9_master 191 = .ok (.ladd, 1) := by decide +kernel
theorem dX9_master_192 : decode cX9_master 192 = .ok (.lstore 9, 2) := by decide +kernel
theorem dX9_master_194 : decode cX9_master 194 = .ok (.iinc 11 1, 3) := by decide +kernel
theorem dX9_master_197 : decode cX9_master 197 = .ok (.goto (-56), 3) := by decide +kernel
theorem dX9_master_200 : decode cX9_master 200 = .ok (.aload_n 0, 1) := by decide +kernel
theorem dX9_master_201 : decode cX9_master 201 = .ok (.iload_n 1, 1) := by decide +kernel
theorem dX9_master_202 : decode cX9_master 202 = .ok (.invokevirtual 390, 3) := by decide +kernel
theorem dX9_master_205 : decode cX9_master 205 = .ok (.aload_n 0, 1) := by decide +kernel
theorem dX9_master_206 : decode cX9_master 206 = .ok (.invokevirtual 346, 3) := by decide +kernel
theorem dX9_master_209 : decode cX9_master 209 = .ok (.aload_n 0, 1) := by decide +kernel
theorem dX9_master_210 : decode cX9_master 210 = .ok (.getfield 64, 3) := by decide +kernel
theorem dX9_master_213 : decode cX9_master 213 = .ok (.iconst 0, 1) := by decide +kernel
theorem dX9_master_214 : decode cX9_master 214 = .ok (.laload, 1) := by decide +kernel
theorem dX9_master_215 : decode cX9_master 215 = .ok (.lload 9, 2) := by decide +kernel
theorem dX9_master_217 : decode cX9_master 217 = .ok (.aload_n 0, 1) := by decide +kernel
theorem dX9_master_218 : decode cX9_master 218 = .ok (.iload_n 1, 1) := by decide +kernel
theorem dX9_master_219 : decode cX9_master 219 = .ok (.invokevirtual 367, 3) := by decide +kernel
theorem dX9_master_222 : decode cX9_master 222 = .ok (.lmul, 1) := by decide +kernel
theorem dX9_master_223 : decode cX9_master 223 = .ok (.lsub, 1) := by decide +kernel
theorem dX9_master_224 : decode cX9_master 224 = .ok (.lstore 11, 2) := by decide +kernel
theorem dX9_master_226 : decode cX9_master 226 = .ok (.iload 5, 2) := by decide +kernel
theorem dX9_master_228 : decode cX9_master 228 = .ok (.ifCond .lt 35, 3) := by decide +kernel
theorem dX9_master_231 : decode cX9_master 231 = .ok (.lload 11, 2) := by decide +kernel
theorem dX9_master_233 : decode cX9_master 233 = .ok (.lload 6, 2) := by decide +kernel
theorem dX9_master_235 : decode cX9_master 235 = .ok (.lcmp, 1) := by decide +kernel
theorem dX9_master_236 : decode cX9_master 236 = .ok (.ifCond .lt 35, 3) := by decide +kernel
theorem dX9_master_239 : decode cX9_master 239 = .ok (.lload 11, 2) := by decide +kernel
theorem dX9_master_241 : decode cX9_master 241 = .ok (.lload 6, 2) := by decide +kernel
theorem dX9_master_243 : decode cX9_master 243 = .ok (.lcmp, 1) := by decide +kernel
theorem dX9_master_244 : decode cX9_master 244 = .ok (.ifCond .ne 19, 3) := by decide +kernel
theorem dX9_master_247 : decode cX9_master 247 = .ok (.iload 8, 2) := by decide +kernel
theorem dX9_master_249 : decode cX9_master 249 = .ok (.invokestatic 316, 3) := by decide +kernel
theorem dX9_master_252 : decode cX9_master 252 = .ok (.iload 5, 2) := by decide +kernel
theorem dX9_master_254 : decode cX9_master 254 = .ok (.invokestatic 316, 3) := by decide +kernel
theorem dX9_master_257 : decode cX9_master 257 = .ok (.if_icmp .lt 6, 3) := by decide +kernel
theorem dX9_master_260 : decode cX9_master 260 = .ok (.goto 11, 3) := by decide +kernel
theorem dX9_master_263 : decode cX9_master 263 = .ok (.iload 8, 2) := by decide +kernel
theorem dX9_master_265 : decode cX9_master 265 = .ok (.istore 5, 2) := by decide +kernel
theorem dX9_master_267 : decode cX9_master 267 = .ok (.lload 11, 2) := by decide +kernel
theorem dX9_master_269 : decode cX9_master 269 = .ok (.lstore 6, 2) := by decide +kernel
theorem dX9_master_271 : decode cX9_master 271 = .ok (.iinc 8 1, 3) := by decide +kernel
theorem dX9_master_274 : decode cX9_master 274 = .ok (.goto (-165), 3) := by decide +kernel
theorem dX9_master_277 : decode cX9_master 277 = .ok (.iload_n 2, 1) := by decide +kernel
theorem dX9_master_278 : decode cX9_master 278 = .ok (.iconst 2, 1) := by decide +kernel
theorem dX9_master_279 : decode cX9_master 279 = .ok (.if_icmp .ne 9, 3) := by decide +kernel
theorem dX9_master_282 : decode cX9_master 282 = .ok (.iload 5, 2) := by decide +kernel
theorem dX9_master_284 : decode cX9_master 284 = .ok (.i2l, 1) := by decide +kernel
theorem dX9_master_285 : decode cX9_master 285 = .ok (.goto 15, 3) := by decide +kernel
theorem dX9_master_288 : decode cX9_master 288 = .ok (.aload_n 0, 1) := by decide +kernel
theorem dX9_master_289 : decode cX9_master 289 = .ok (.lload 6, 2) := by decide +kernel
theorem dX9_master_291 : decode cX9_master 291 = .ok (.aload_n 0, 1) := by decide +kernel
theorem dX9_master_292 : decode cX9_master 292 = .ok (.iload_n 1, 1) := by decide +kernel
theorem dX9_master_293 : decode cX9_master 293 = .ok (.invokevirtual 367, 3) := by decide +kernel
theorem dX9_master_296 : decode cX9_master 296 = .ok (.iload_n 2, 1) := by decide +kernel
theorem dX9_master_297 : decode cX9_master 297 = .ok (.invokevirtual 370, 3) := by decide +kernel
theorem dX9_master_300 : decode cX9_master 300 = .ok (.lreturn, 1) := by decide +kernel
theorem dX9_meanOf_0 : decode cX9_meanOf 0 = .ok (.lconst 0, 1) := by decide +kernel
theorem dX9_meanOf_1 : decode cX9_meanOf 1 = .ok (.lstore_n 2, 1) := by decide +kernel
theorem dX9_meanOf_2 : decode cX9_meanOf 2 = .ok (.aload_n 0, 1) := by decide +kernel
theorem dX9_meanOf_3 : decode cX9_meanOf 3 = .ok (.invokevirtual 343, 3) := by decide +kernel
theorem dX9_meanOf_6 : decode cX9_meanOf 6 = .ok (.iconst 0, 1) := by decide +kernel
theorem dX9_meanOf_7 : decode cX9_meanOf 7 = .ok (.istore 4, 2) := by decide +kernel
theorem dX9_meanOf_9 : decode cX9_meanOf 9 = .ok (.iload 4, 2) := by decide +kernel
theorem dX9_meanOf_11 : decode cX9_meanOf 11 = .ok (.iconst 1, 1) := by decide +kernel
theorem dX9_meanOf_12 : decode cX9_meanOf 12 = .ok (.aload_n 0, 1) := by decide +kernel
theorem dX9_meanOf_13 : decode cX9_meanOf 13 = .ok (.getfield 42, 3) := by decide +kernel
theorem dX9_meanOf_16 : decode cX9_meanOf 16 = .ok (.bipush 8, 2) := by decide +kernel
theorem dX9_meanOf_18 : decode cX9_meanOf 18 = .ok (.iaload, 1) := by decide +kernel
theorem dX9_meanOf_19 : decode cX9_meanOf 19 = .ok (.ishl, 1) := by decide +kernel
theorem dX9_meanOf_20 : decode cX9_meanOf 20 = .ok (.if_icmp .ge 67, 3) := by decide +kernel
theorem dX9_meanOf_23 : decode cX9_meanOf 23 = .ok (.aload_n 0, 1) := by decide +kernel
theorem dX9_meanOf_24 : decode cX9_meanOf 24 = .ok (.iload 4, 2) := by decide +kernel
theorem dX9_meanOf_26 : decode cX9_meanOf 26 = .ok (.invokevirtual 354, 3) := by decide +kernel
theorem dX9_meanOf_29 : decode cX9_meanOf 29 = .ok (.lstore 5, 2) := by decide +kernel
theorem dX9_meanOf_31 : decode cX9_meanOf 31 = .ok (.aload_n 0, 1) := by decide +kernel
