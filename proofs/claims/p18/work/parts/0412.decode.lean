theorem dX9_settles_68 : decode cX9_settles 68 = .ok (.iconst 1, 1) := by decide +kernel
theorem dX9_settles_69 : decode cX9_settles 69 = .ok (.isub, 1) := by decide +kernel
theorem dX9_settles_70 : decode cX9_settles 70 = .ok (.putfield 146, 3) := by decide +kernel
theorem dX9_settles_73 : decode cX9_settles 73 = .ok (.goto (-73), 3) := by decide +kernel
theorem dX9_settles_76 : decode cX9_settles 76 = .ok (.return_, 1) := by decide +kernel
theorem dX9_stops_0 : decode cX9_stops 0 = .ok (.aload_n 0, 1) := by decide +kernel
theorem dX9_stops_1 : decode cX9_stops 1 = .ok (.iload_n 2, 1) := by decide +kernel
theorem dX9_stops_2 : decode cX9_stops 2 = .ok (.invokevirtual 319, 3) := by decide +kernel
theorem dX9_stops_5 : decode cX9_stops 5 = .ok (.iconst 0, 1) := by decide +kernel
theorem dX9_stops_6 : decode cX9_stops 6 = .ok (.istore_n 3, 1) := by decide +kernel
theorem dX9_stops_7 : decode cX9_stops 7 = .ok (.iload_n 3, 1) := by decide +kernel
theorem dX9_stops_8 : decode cX9_stops 8 = .ok (.aload_n 0, 1) := by decide +kernel
theorem dX9_stops_9 : decode cX9_stops 9 = .ok (.getfield 23, 3) := by decide +kernel
theorem dX9_stops_12 : decode cX9_stops 12 = .ok (.iload_n 1, 1) := by decide +kernel
theorem dX9_stops_13 : decode cX9_stops 13 = .ok (.iaload, 1) := by decide +kernel
theorem dX9_stops_14 : decode cX9_stops 14 = .ok (.if_icmp .ge 60, 3) := by decide +kernel
theorem dX9_stops_17 : decode cX9_stops 17 = .ok (.bipush 60, 2) := by decide +kernel
theorem dX9_stops_19 : decode cX9_stops 19 = .ok (.iload_n 1, 1) := by decide +kernel
theorem dX9_stops_20 : decode cX9_stops 20 = .ok (.imul, 1) := by decide +kernel
theorem dX9_stops_21 : decode cX9_stops 21 = .ok (.iconst 5, 1) := by decide +kernel
theorem dX9_stops_22 : decode cX9_stops 22 = .ok (.iload_n 3, 1) := by decide +kernel
theorem dX9_stops_23 : decode cX9_stops 23 = .ok (.imul, 1) := by decide +kernel
theorem dX9_stops_24 : decode cX9_stops 24 = .ok (.iadd, 1) := by decide +kernel
theorem dX9_stops_25 : decode cX9_stops 25 = .ok (.istore 4, 2) := by decide +kernel
theorem dX9_stops_27 : decode cX9_stops 27 = .ok (.aload_n 0, 1) := by decide +kernel
theorem dX9_stops_28 : decode cX9_stops 28 = .ok (.getfield 20, 3) := by decide +kernel
theorem dX9_stops_31 : decode cX9_stops 31 = .ok (.iload 4, 2) := by decide +kernel
theorem dX9_stops_33 : decode cX9_stops 33 = .ok (.iaload, 1) := by decide +kernel
theorem dX9_stops_34 : decode cX9_stops 34 = .ok (.iconst 1, 1) := by decide +kernel
theorem dX9_stops_35 : decode cX9_stops 35 = .ok (.if_icmp .ne 33, 3) := by decide +kernel
theorem dX9_stops_38 : decode cX9_stops 38 = .ok (.aload_n 0, 1) := by decide +kernel
theorem dX9_stops_39 : decode cX9_stops 39 = .ok (.iload_n 1, 1) := by decide +kernel
theorem dX9_stops_40 : decode cX9_stops 40 = .ok (.aload_n 0, 1) := by decide +kernel
theorem dX9_stops_41 : decode cX9_stops 41 = .ok (.getfield 20, 3) := by decide +kernel
theorem dX9_stops_44 : decode cX9_stops 44 = .ok (.iload 4, 2) := by decide +kernel
theorem dX9_stops_46 : decode cX9_stops 46 = .ok (.iconst 3, 1) := by decide +kernel
theorem dX9_stops_47 : decode cX9_stops 47 = .ok (.iadd, 1) := by decide +kernel
theorem dX9_stops_48 : decode cX9_stops 48 = .ok (.iaload, 1) := by decide +kernel
theorem dX9_stops_49 : decode cX9_stops 49 = .ok (.aload_n 0, 1) := by decide +kernel
theorem dX9_stops_50 : decode cX9_stops 50 = .ok (.getfield 20, 3) := by decide +kernel
theorem dX9_stops_53 : decode cX9_stops 53 = .ok (.iload 4, 2) := by decide +kernel
theorem dX9_stops_55 : decode cX9_stops 55 = .ok (.iconst 4, 1) := by decide +kernel
theorem dX9_stops_56 : decode cX9_stops 56 = .ok (.iadd, 1) := by decide +kernel
theorem dX9_stops_57 : decode cX9_stops 57 = .ok (.iaload, 1) := by decide +kernel
theorem dX9_stops_58 : decode cX9_stops 58 = .ok (.invokevirtual 322, 3) := by decide +kernel
theorem dX9_stops_61 : decode cX9_stops 61 = .ok (.lconst 1, 1) := by decide +kernel
theorem dX9_stops_62 : decode cX9_stops 62 = .ok (.lcmp, 1) := by decide +kernel
theorem dX9_stops_63 : decode cX9_stops 63 = .ok (.ifCond .ne 5, 3) := by decide +kernel
theorem dX9_stops_66 : decode cX9_stops 66 = .ok (.iconst 1, 1) := by decide +kernel
theorem dX9_stops_67 : decode cX9_stops 67 = .ok (.ireturn, 1) := by decide +kernel
theorem dX9_stops_68 : decode cX9_stops 68 = .ok (.iinc 3 1, 3) := by decide +kernel
theorem dX9_stops_71 : decode cX9_stops 71 = .ok (.goto (-64), 3) := by decide +kernel
theorem dX9_stops_74 : decode cX9_stops 74 = .ok (.iconst 0, 1) := by decide +kernel
theorem dX9_stops_75 : decode cX9_stops 75 = .ok (.ireturn, 1) := by decide +kernel
theorem dX9_strength_0 : decode cX9_strength 0 = .ok (.iload_n 0, 1) := by decide +kernel
theorem dX9_strength_1 : decode cX9_strength 1 = .ok (.bipush 13, 2) := by decide +kernel
theorem dX9_strength_3 : decode cX9_strength 3 = .ok (.if_icmp .ne 7, 3) := by decide +kernel
theorem dX9_strength_6 : decode cX9_strength 6 = .ok (.iconst 1, 1) := by decide +kernel
theorem dX9_strength_7 : decode cX9_strength 7 = .ok (.goto 24, 3) := by decide +kernel
theorem dX9_strength_10 : decode cX9_strength 10 = .ok (.iload_n 0, 1) := by decide +kernel
theorem dX9_strength_11 : decode cX9_strength 11 = .ok (.bipush 12, 2) := by decide +kernel
theorem dX9_strength_13 : decode cX9_strength 13 = .ok (.if_icmp .ne 7, 3) := by decide +kernel
theorem dX9_strength_16 : decode cX9_strength 16 = .ok (.iconst 2, 1) := by decide +kernel
theorem dX9_strength_17 : decode cX9_strength 17 = .ok (.goto 14, 3) := by decide +kernel
theorem dX9_strength_20 : decode cX9_strength 20 = .ok (.iload_n 0, 1) := by decide +kernel
theorem dX9_strength_21 : decode cX9_strength 21 = .ok (.bipush 11, 2) := by decide +kernel
theorem dX9_strength_23 : decode cX9_strength 23 = .ok (.if_icmp .ne 7, 3) := by decide +kernel
theorem dX9_strength_26 : decode cX9_strength 26 = .ok (.iconst 3, 1) := by decide +kernel
theorem dX9_strength_27 : decode cX9_strength 27 = .ok (.goto 4, 3) := by decide +kernel
theorem dX9_strength_30 : decode cX9_strength 30 = .ok (.iconst 0, 1) := by decide +kernel
theorem dX9_strength_31 : decode cX9_strength 31 = .ok (.ireturn, 1) := by decide +kernel
theorem dX9_sum_0 : decode cX9_sum 0 = .ok (.aload_n 0, 1) := by decide +kernel
theorem dX9_sum_1 : decode cX9_sum 1 = .ok (.invokevirtual 174, 3) := by decide +kernel
theorem dX9_sum_4 : decode cX9_sum 4 = .ok (.ifCond .ne 5, 3) := by decide +kernel
theorem dX9_sum_7 : decode cX9_sum 7 = .ok (.iconst 0, 1) := by decide +kernel
theorem dX9_sum_8 : decode cX9_sum 8 = .ok (.ireturn, 1) := by decide +kernel
theorem dX9_sum_9 : decode cX9_sum 9 = .ok (.aload_n 0, 1) := by decide +kernel
theorem dX9_sum_10 : decode cX9_sum 10 = .ok (.invokevirtual 93, 3) := by decide +kernel
theorem dX9_sum_13 : decode cX9_sum 13 = .ok (.bipush 43, 2) := by decide +kernel
theorem dX9_sum_15 : decode cX9_sum 15 = .ok (.if_icmp .eq 12, 3) := by decide +kernel
theorem dX9_sum_18 : decode cX9_sum 18 = .ok (.aload_n 0, 1) := by decide +kernel
theorem dX9_sum_19 : decode cX9_sum 19 = .ok (.invokevirtual 93, 3) := by decide +kernel
theorem dX9_sum_22 : decode cX9_sum 22 = .ok (.bipush 45, 2) := by decide +kernel
theorem dX9_sum_24 : decode cX9_sum 24 = .ok (.if_icmp .ne 51, 3) := by decide +kernel
theorem dX9_sum_27 : decode cX9_sum 27 = .ok (.aload_n 0, 1) := by decide +kernel
theorem dX9_sum_28 : decode cX9_sum 28 = .ok (.getfield 7, 3) := by decide +kernel
theorem dX9_sum_31 : decode cX9_sum 31 = .ok (.aload_n 0, 1) := by decide +kernel
theorem dX9_sum_32 : decode cX9_sum 32 = .ok (.getfield 90, 3) := by decide +kernel
theorem dX9_sum_35 : decode cX9_sum 35 = .ok (.baload, 1) := by decide +kernel
theorem dX9_sum_36 : decode cX9_sum 36 = .ok (.bipush 43, 2) := by decide +kernel
theorem dX9_sum_38 : decode cX9_sum 38 = .ok (.if_icmp .ne 7, 3) := by decide +kernel
theorem dX9_sum_41 : decode cX9_sum 41 = .ok (.iconst 2, 1) := by decide +kernel
theorem dX9_sum_42 : decode cX9_sum 42 = .ok (.goto 4, 3) := by decide +kernel
theorem dX9_sum_45 : decode cX9_sum 45 = .ok (.iconst 3, 1) := by decide +kernel
theorem dX9_sum_46 : decode cX9_sum 46 = .ok (.istore_n 1, 1) := by decide +kernel
theorem dX9_sum_47 : decode cX9_sum 47 = .ok (.aload_n 0, 1) := by decide +kernel
theorem dX9_sum_48 : decode cX9_sum 48 = .ok (.dup, 1) := by decide +kernel
theorem dX9_sum_49 : decode cX9_sum 49 = .ok (.getfield 90, 3) := by decide +kernel
theorem dX9_sum_52 : decode cX9_sum 52 = .ok (.iconst 1, 1) := by decide +kernel
theorem dX9_sum_53 : decode cX9_sum 53 = .ok (.iadd, 1) := by decide +kernel
theorem dX9_sum_54 : decode cX9_sum 54 = .ok (.putfield 90, 3) := by decide +kernel
theorem dX9_sum_57 : decode cX9_sum 57 = .ok (.aload_n 0, 1) := by decide +kernel
theorem dX9_sum_58 : decode cX9_sum 58 = .ok (.invokevirtual 174, 3) := by decide +kernel
theorem dX9_sum_61 : decode cX9_sum 61 = .ok (.ifCond .ne 5, 3) := by decide +kernel
theorem dX9_sum_64 : decode cX9_sum 64 = .ok (.iconst 0, 1) := by decide +kernel
theorem dX9_sum_65 : decode cX9_sum 65 = .ok (.ireturn, 1) := by decide +kernel
theorem dX9_sum_66 : decode cX9_sum 66 = .ok (.aload_n 0, 1) := by decide +kernel
theorem dX9_sum_67 : decode cX9_sum 67 = .ok (.iload_n 1, 1) := by decide +kernel
theorem dX9_sum_68 : decode cX9_sum 68 = .ok (.iconst 0, 1) := by decide +kernel
theorem dX9_sum_69 : decode cX9_sum 69 = .ok (.invokevirtual 156, 3) := by decide +kernel
theorem dX9_sum_72 : decode cX9_sum 72 = .ok (.goto (-63), 3) := by decide +kernel
theorem dX9_sum_75 : decode cX9_sum 75 = .ok (.iconst 1, 1) := by decide +kernel
theorem dX9_sum_76 : decode cX9_sum 76 = .ok (.ireturn, 1) := by decide +kernel
theorem dX9_takes_0 : decode cX9_takes 0 = .ok (.aload_n 0, 1) := by decide +kernel
theorem dX9_takes_1 : decode cX9_takes 1 = .ok (.getfield 48, 3) := by decide +kernel
theorem dX9_takes_4 : decode cX9_takes 4 = .ok (.iload_n 1, 1) := by decide +kernel
theorem dX9_takes_5 : decode cX9_takes 5 = .ok (.iaload, 1) := by decide +kernel
theorem dX9_takes_6 : decode cX9_takes 6 = .ok (.istore 7, 2) := by decide +kernel
theorem dX9_takes_8 : decode cX9_takes 8 = .ok (.aload_n 0, 1) := by decide +kernel
theorem dX9_takes_9 : decode cX9_takes 9 = .ok (.getfield 51, 3) := by decide +kernel
theorem dX9_takes_12 : decode cX9_takes 12 = .ok (.iload_n 1, 1) := by decide +kernel
theorem dX9_takes_13 : decode cX9_takes 13 = .ok (.baload, 1) := by decide +kernel
theorem dX9_takes_14 : decode cX9_takes 14 = .ok (.ifCond .eq 44, 3) := by decide +kernel
theorem dX9_takes_17 : decode cX9_takes 17 = .ok (.aload_n 0, 1) := by decide +kernel
theorem dX9_takes_18 : decode cX9_takes 18 = .ok (.getfield 55, 3) := by decide +kernel
theorem dX9_takes_21 : decode cX9_takes 21 = .ok (.iload_n 1, 1) := by decide +kernel
theorem dX9_takes_22 : decode cX9_takes 22 = .ok (.aload_n 0, 1) := by decide +kernel
theorem dX9_takes_23 : decode cX9_takes 23 = .ok (.iload 7, 2) := by decide +kernel
theorem dX9_takes_25 : decode cX9_takes 25 = .ok (.iconst 0, 1) := by decide +kernel
theorem dX9_takes_26 : decode cX9_takes 26 = .ok (.invokevirtual 275, 3) := by decide +kernel
theorem dX9_takes_29 : decode cX9_takes 29 = .ok (.i2l, 1) := by decide +kernel
theorem dX9_takes_30 : decode cX9_takes 30 = .ok (.aload_n 0, 1) := by decide +kernel
theorem dX9_takes_31 : decode cX9_takes 31 = .ok (.iload_n 2, 1) := by decide +kernel
theorem dX9_takes_32 : decode cX9_takes 32 = .ok (.iload_n 1, 1) := by decide +kernel
theorem dX9_takes_33 : decode cX9_takes 33 = .ok (.isub, 1) := by decide +kernel
theorem dX9_takes_34 : decode cX9_takes 34 = .ok (.iconst 1, 1) := by decide +kernel
theorem dX9_takes_35 : decode cX9_takes 35 = .ok (.isub, 1) := by decide +kernel
theorem dX9_takes_36 : decode cX9_takes 36 = .ok (.invokevirtual 367, 3) := by decide +kernel
theorem dX9_takes_39 : decode cX9_takes 39 = .ok (.lmul, 1) := by decide +kernel
theorem dX9_takes_40 : decode cX9_takes 40 = .ok (.lload_n 3, 1) := by decide +kernel
theorem dX9_takes_41 : decode cX9_takes 41 = .ok (.ladd, 1) := by decide +kernel
theorem dX9_takes_42 : decode cX9_takes 42 = .ok (.lastore, 1) := by decide +kernel
theorem dX9_takes_43 : decode cX9_takes 43 = .ok (.aload_n 0, 1) := by decide +kernel
theorem dX9_takes_44 : decode cX9_takes 44 = .ok (.getfield 58, 3) := by decide +kernel
theorem dX9_takes_47 : decode cX9_takes 47 = .ok (.iload_n 1, 1) := by decide +kernel
theorem dX9_takes_48 : decode cX9_takes 48 = .ok (.lload 5, 2) := by decide +kernel
theorem dX9_takes_50 : decode cX9_takes 50 = .ok (.lastore, 1) := by decide +kernel
theorem dX9_takes_51 : decode cX9_takes 51 = .ok (.aload_n 0, 1) := by decide +kernel
theorem dX9_takes_52 : decode cX9_takes 52 = .ok (.iload_n 1, 1) := by decide +kernel
theorem dX9_takes_53 : decode cX9_takes 53 = .ok (.iconst 0, 1) := by decide +kernel
theorem dX9_takes_54 : decode cX9_takes 54 = .ok (.invokevirtual 374, 3) := by decide +kernel
theorem dX9_takes_57 : decode cX9_takes 57 = .ok (.return_, 1) := by decide +kernel
theorem dX9_takes_58 : decode cX9_takes 58 = .ok (.aload_n 0, 1) := by decide +kernel
theorem dX9_takes_59 : decode cX9_takes 59 = .ok (.iload 7, 2) := by decide +kernel
theorem dX9_takes_61 : decode cX9_takes 61 = .ok (.iconst 2, 1) := by decide +kernel
theorem dX9_takes_62 : decode cX9_takes 62 = .ok (.invokevirtual 268, 3) := by decide +kernel
theorem dX9_takes_65 : decode cX9_takes 65 = .ok (.istore 8, 2) := by decide +kernel
theorem dX9_takes_67 : decode cX9_takes 67 = .ok (.iload 8, 2) := by decide +kernel
theorem dX9_takes_69 : decode cX9_takes 69 = .ok (.i2l, 1) := by decide +kernel
theorem dX9_takes_70 : decode cX9_takes 70 = .ok (.aload_n 0, 1) := by decide +kernel
theorem dX9_takes_71 : decode cX9_takes 71 = .ok (.getfield 55, 3) := by decide +kernel
theorem dX9_takes_74 : decode cX9_takes 74 = .ok (.iload_n 1, 1) := by decide +kernel
theorem dX9_takes_75 : decode cX9_takes 75 = .ok (.laload, 1) := by decide +kernel
theorem dX9_takes_76 : decode cX9_takes 76 = .ok (.lmul, 1) := by decide +kernel
theorem dX9_takes_77 : decode cX9_takes 77 = .ok (.bipush 100, 2) := by decide +kernel
theorem dX9_takes_79 : decode cX9_takes 79 = .ok (.iload 8, 2) := by decide +kernel
theorem dX9_takes_81 : decode cX9_takes 81 = .ok (.isub, 1) := by decide +kernel
theorem dX9_takes_82 : decode cX9_takes 82 = .ok (.i2l, 1) := by decide +kernel
theorem dX9_takes_83 : decode cX9_takes 83 = .ok (.lload_n 3, 1) := by decide +kernel
theorem dX9_takes_84 : decode cX9_takes 84 = .ok (.lmul, 1) := by decide +kernel
theorem dX9_takes_85 : decode cX9_takes 85 = .ok (.ladd, 1) := by decide +kernel
theorem dX9_takes_86 : decode cX9_takes 86 = .ok (.lstore 9, 2) := by decide +kernel
theorem dX9_takes_88 : decode cX9_takes 88 = .ok (.aload_n 0, 1) := by decide +kernel
theorem dX9_takes_89 : decode cX9_takes 89 = .ok (.getfield 42, 3) := by decide +kernel
theorem dX9_takes_92 : decode cX9_takes 92 = .ok (.iconst 3, 1) := by decide +kernel
theorem dX9_takes_93 : decode cX9_takes 93 = .ok (.aload_n 0, 1) := by decide +kernel
theorem dX9_takes_94 : decode cX9_takes 94 = .ok (.getfield 70, 3) := by decide +kernel
theorem dX9_takes_97 : decode cX9_takes 97 = .ok (.iload_n 1, 1) := by decide +kernel
theorem dX9_takes_98 : decode cX9_takes 98 = .ok (.iaload, 1) := by decide +kernel
theorem dX9_takes_99 : decode cX9_takes 99 = .ok (.iastore, 1) := by decide +kernel
theorem dX9_takes_100 : decode cX9_takes 100 = .ok (.lload 9, 2) := by decide +kernel
theorem dX9_takes_102 : decode cX9_takes 102 = .ok (.aload_n 0, 1) := by decide +kernel
theorem dX9_takes_103 : decode cX9_takes 103 = .ok (.getfield 61, 3) := by decide +kernel
theorem dX9_takes_106 : decode cX9_takes 106 = .ok (.iload_n 1, 1) := by decide +kernel
theorem dX9_takes_107 : decode cX9_takes 107 = .ok (.laload, 1) := by decide +kernel
theorem dX9_takes_108 : decode cX9_takes 108 = .ok (.lcmp, 1) := by decide +kernel
theorem dX9_takes_109 : decode cX9_takes 109 = .ok (.ifCond .gt 4, 3) := by decide +kernel
theorem dX9_takes_112 : decode cX9_takes 112 = .ok (.return_, 1) := by decide +kernel
theorem dX9_takes_113 : decode cX9_takes 113 = .ok (.aload_n 0, 1) := by decide +kernel
theorem dX9_takes_114 : decode cX9_takes 114 = .ok (.getfield 61, 3) := by decide +kernel
theorem dX9_takes_117 : decode cX9_takes 117 = .ok (.iload_n 1, 1) := by decide +kernel
theorem dX9_takes_118 : decode cX9_takes 118 = .ok (.lload 9, 2) := by decide +kernel
theorem dX9_takes_120 : decode cX9_takes 120 = .ok (.lastore, 1) := by decide +kernel
theorem dX9_takes_121 : decode cX9_takes 121 = .ok (.aload_n 0, 1) := by decide +kernel
theorem dX9_takes_122 : decode cX9_takes 122 = .ok (.getfield 64, 3) := by decide +kernel
theorem dX9_takes_125 : decode cX9_takes 125 = .ok (.iload_n 1, 1) := by decide +kernel
theorem dX9_takes_126 : decode cX9_takes 126 = .ok (.iload 8, 2) := by decide +kernel
theorem dX9_takes_128 : decode cX9_takes 128 = .ok (.i2l, 1) := by decide +kernel
theorem dX9_takes_129 : decode cX9_takes 129 = .ok (.aload_n 0, 1) := by decide +kernel
theorem dX9_takes_130 : decode cX9_takes 130 = .ok (.getfield 58, 3) := by decide +kernel
theorem dX9_takes_133 : decode cX9_takes 133 = .ok (.iload_n 1, 1) := by decide +kernel
theorem dX9_takes_134 : decode cX9_takes 134 = .ok (.laload, 1) := by decide +kernel
theorem dX9_takes_135 : decode cX9_takes 135 = .ok (.lmul, 1) := by decide +kernel
theorem dX9_takes_136 : decode cX9_takes 136 = .ok (.bipush 100, 2) := by decide +kernel
theorem dX9_takes_138 : decode cX9_takes 138 = .ok (.iload 8, 2) := by decide +kernel
theorem dX9_takes_140 : decode cX9_takes 140 = .ok (.isub, 1) := by decide +kernel
theorem dX9_takes_141 : decode cX9_takes 141 = .ok (.i2l, 1) := by decide +kernel
theorem dX9_takes_142 : decode cX9_takes 142 = .ok (.lload 5, 2) := by decide +kernel
theorem dX9_takes_144 : decode cX9_takes 144 = .ok (.lmul, 1) := by decide +kernel
theorem dX9_takes_145 : decode cX9_takes 145 = .ok (.ladd, 1) := by decide +kernel
theorem dX9_takes_146 : decode cX9_takes 146 = .ok (.lastore, 1) := by decide +kernel
theorem dX9_takes_147 : decode cX9_takes 147 = .ok (.aload_n 0, 1) := by decide +kernel
theorem dX9_takes_148 : decode cX9_takes 148 = .ok (.getfield 67, 3) := by decide +kernel
theorem dX9_takes_151 : decode cX9_takes 151 = .ok (.iload_n 1, 1) := by decide +kernel
theorem dX9_takes_152 : decode cX9_takes 152 = .ok (.iload 7, 2) := by decide +kernel
theorem dX9_takes_154 : decode cX9_takes 154 = .ok (.iastore, 1) := by decide +kernel
theorem dX9_takes_155 : decode cX9_takes 155 = .ok (.return_, 1) := by decide +kernel
theorem dX9_takesWord_0 : decode cX9_takesWord 0 = .ok (.aload_n 0, 1) := by decide +kernel
theorem dX9_takesWord_1 : decode cX9_takesWord 1 = .ok (.lload_n 1, 1) := by decide +kernel
theorem dX9_takesWord_2 : decode cX9_takesWord 2 = .ok (.invokevirtual 101, 3) := by decide +kernel
theorem dX9_takesWord_5 : decode cX9_takesWord 5 = .ok (.ifCond .ne 5, 3) := by decide +kernel
theorem dX9_takesWord_8 : decode cX9_takesWord 8 = .ok (.iconst 0, 1) := by decide +kernel
theorem dX9_takesWord_9 : decode cX9_takesWord 9 = .ok (.ireturn, 1) := by decide +kernel
theorem dX9_takesWord_10 : decode cX9_takesWord 10 = .ok (.aload_n 0, 1) := by decide +kernel
theorem dX9_takesWord_11 : decode cX9_takesWord 11 = .ok (.invokevirtual 105, 3) := by decide +kernel
theorem dX9_takesWord_14 : decode cX9_takesWord 14 = .ok (.iconst 1, 1) := by decide +kernel
theorem dX9_takesWord_15 : decode cX9_takesWord 15 = .ok (.ireturn, 1) := by decide +kernel
theorem dX9_term_0 : decode cX9_term 0 = .ok (.aload_n 0, 1) := by decide +kernel
theorem dX9_term_1 : decode cX9_term 1 = .ok (.invokevirtual 170, 3) := by decide +kernel
theorem dX9_term_4 : decode cX9_term 4 = .ok (.ifCond .ne 5, 3) := by decide +kernel
theorem dX9_term_7 : decode cX9_term 7 = .ok (.iconst 0, 1) := by decide +kernel
theorem dX9_term_8 : decode cX9_term 8 = .ok (.ireturn, 1) := by decide +kernel
theorem dX9_term_9 : decode cX9_term 9 = .ok (.aload_n 0, 1) := by decide +kernel
theorem dX9_term_10 : decode cX9_term 10 = .ok (.invokevirtual 93, 3) := by decide +kernel
theorem dX9_term_13 : decode cX9_term 13 = .ok (.bipush 42, 2) := by decide +kernel
theorem dX9_term_15 : decode cX9_term 15 = .ok (.if_icmp .eq 12, 3) := by decide +kernel
theorem dX9_term_18 : decode cX9_term 18 = .ok (.aload_n 0, 1) := by decide +kernel
theorem dX9_term_19 : decode cX9_term 19 = .ok (.invokevirtual 93, 3) := by decide +kernel
theorem dX9_term_22 : decode cX9_term 22 = .ok (.bipush 47, 2) := by decide +kernel
theorem dX9_term_24 : decode cX9_term 24 = .ok (.if_icmp .ne 51, 3) := by decide +kernel
theorem dX9_term_27 : decode cX9_term 27 = .ok (.aload_n 0, 1) := by decide +kernel
theorem dX9_term_28 : decode cX9_term 28 = .ok (.getfield 7, 3) := by decide +kernel
theorem dX9_term_31 : decode cX9_term 31 = .ok (.aload_n 0, 1) := by decide +kernel
theorem dX9_term_32 : decode cX9_term 32 = .ok (.getfield 90, 3) := by decide +kernel
theorem dX9_term_35 : decode cX9_term 35 = .ok (.baload, 1) := by decide +kernel
theorem dX9_term_36 : decode cX9_term 36 = .ok (.bipush 42, 2) := by decide +kernel
theorem dX9_term_38 : decode cX9_term 38 = .ok (.if_icmp .ne 7, 3) := by decide +kernel
theorem dX9_term_41 : decode cX9_term 41 = .ok (.iconst 4, 1) := by decide +kernel
theorem dX9_term_42 : decode cX9_term 42 = .ok (.goto 4, 3) := by decide +kernel
theorem dX9_term_45 : decode cX9_term 45 = .ok (.iconst 5, 1) := by decide +kernel
theorem dX9_term_46 : decode cX9_term 46 = .ok (.istore_n 1, 1) := by decide +kernel
theorem dX9_term_47 : decode cX9_term 47 = .ok (.aload_n 0, 1) := by decide +kernel
theorem dX9_term_48 : decode cX9_term 48 = .ok (.dup, 1) := by decide +kernel
theorem dX9_term_49 : decode cX9_term 49 = .ok (.getfield 90, 3) := by decide +kernel
theorem dX9_term_52 : decode cX9_term 52 = .ok (.iconst 1, 1) := by decide +kernel
theorem dX9_term_53 : decode cX9_term 53 = .ok (.iadd, 1) := by decide +kernel
theorem dX9_term_54 : decode cX9_term 54 = .ok (.putfield 90, 3) := by decide +kernel
theorem dX9_term_57 : decode cX9_term 57 = .ok (.aload_n 0, 1) := by decide +kernel
theorem dX9_term_58 : decode cX9_term 58 = .ok (.invokevirtual 170, 3) := by decide +kernel
theorem dX9_term_61 : decode cX9_term 61 = .ok (.ifCond .ne 5, 3) := by decide +kernel
theorem dX9_term_64 : decode cX9_term 64 = .ok (.iconst 0, 1) := by decide +kernel
theorem dX9_term_65 : decode cX9_term 65 = .ok (.ireturn, 1) := by decide +kernel
theorem dX9_term_66 : decode cX9_term 66 = .ok (.aload_n 0, 1) := by decide +kernel
theorem dX9_term_67 : decode cX9_term 67 = .ok (.iload_n 1, 1) := by decide +kernel
theorem dX9_term_68 : decode cX9_term 68 = .ok (.iconst 0, 1) := by decide +kernel
theorem dX9_term_69 : decode cX9_term 69 = .ok (.invokevirtual 156, 3) := by decide +kernel
theorem dX9_term_72 : decode cX9_term 72 = .ok (.goto (-63), 3) := by decide +kernel
theorem dX9_term_75 : decode cX9_term 75 = .ok (.iconst 1, 1) := by decide +kernel
theorem dX9_term_76 : decode cX9_term 76 = .ok (.ireturn, 1) := by decide +kernel
theorem dX9_tested_0 : decode cX9_tested 0 = .ok (.aload_n 0, 1) := by decide +kernel
theorem dX9_tested_1 : decode cX9_tested 1 = .ok (.iconst 0, 1) := by decide +kernel
theorem dX9_tested_2 : decode cX9_tested 2 = .ok (.putfield 149, 3) := by decide +kernel
theorem dX9_tested_5 : decode cX9_tested 5 = .ok (.aload_n 0, 1) := by decide +kernel
theorem dX9_tested_6 : decode cX9_tested 6 = .ok (.iconst 0, 1) := by decide +kernel
theorem dX9_tested_7 : decode cX9_tested 7 = .ok (.putfield 146, 3) := by decide +kernel
theorem dX9_tested_10 : decode cX9_tested 10 = .ok (.iconst 1, 1) := by decide +kernel
theorem dX9_tested_11 : decode cX9_tested 11 = .ok (.istore_n 1, 1) := by decide +kernel
theorem dX9_tested_12 : decode cX9_tested 12 = .ok (.iload_n 1, 1) := by decide +kernel
theorem dX9_tested_13 : decode cX9_tested 13 = .ok (.ifCond .eq 99, 3) := by decide +kernel
theorem dX9_tested_16 : decode cX9_tested 16 = .ok (.aload_n 0, 1) := by decide +kernel
theorem dX9_tested_17 : decode cX9_tested 17 = .ok (.invokevirtual 194, 3) := by decide +kernel
theorem dX9_tested_20 : decode cX9_tested 20 = .ok (.ifCond .ne 5, 3) := by decide +kernel
theorem dX9_tested_23 : decode cX9_tested 23 = .ok (.iconst 0, 1) := by decide +kernel
theorem dX9_tested_24 : decode cX9_tested 24 = .ok (.ireturn, 1) := by decide +kernel
theorem dX9_tested_25 : decode cX9_tested 25 = .ok (.aload_n 0, 1) := by decide +kernel
theorem dX9_tested_26 : decode cX9_tested 26 = .ok (.invokevirtual 197, 3) := by decide +kernel
theorem dX9_tested_29 : decode cX9_tested 29 = .ok (.aload_n 0, 1) := by decide +kernel
theorem dX9_tested_30 : decode cX9_tested 30 = .ok (.ldc2_w 200, 3) := by decide +kernel
theorem dX9_tested_33 : decode cX9_tested 33 = .ok (.invokevirtual 101, 3) := by decide +kernel
theorem dX9_tested_36 : decode cX9_tested 36 = .ok (.ifCond .ne 13, 3) := by decide +kernel
theorem dX9_tested_39 : decode cX9_tested 39 = .ok (.aload_n 0, 1) := by decide +kernel
theorem dX9_tested_40 : decode cX9_tested 40 = .ok (.ldc2_w 202, 3) := by decide +kernel
theorem dX9_tested_43 : decode cX9_tested 43 = .ok (.invokevirtual 101, 3) := by decide +kernel
theorem dX9_tested_46 : decode cX9_tested 46 = .ok (.ifCond .eq 7, 3) := by decide +kernel
theorem dX9_tested_49 : decode cX9_tested 49 = .ok (.iconst 1, 1) := by decide +kernel
theorem dX9_tested_50 : decode cX9_tested 50 = .ok (.goto 4, 3) := by decide +kernel
theorem dX9_tested_53 : decode cX9_tested 53 = .ok (.iconst 0, 1) := by decide +kernel
theorem dX9_tested_54 : decode cX9_tested 54 = .ok (.istore_n 1, 1) := by decide +kernel
theorem dX9_tested_55 : decode cX9_tested 55 = .ok (.iload_n 1, 1) := by decide +kernel
theorem dX9_tested_56 : decode cX9_tested 56 = .ok (.ifCond .eq (-44), 3) := by decide +kernel
theorem dX9_tested_59 : decode cX9_tested 59 = .ok (.aload_n 0, 1) := by decide +kernel
theorem dX9_tested_60 : decode cX9_tested 60 = .ok (.ldc2_w 200, 3) := by decide +kernel
theorem dX9_tested_63 : decode cX9_tested 63 = .ok (.invokevirtual 101, 3) := by decide +kernel
theorem dX9_tested_66 : decode cX9_tested 66 = .ok (.ifCond .eq 8, 3) := by decide +kernel
theorem dX9_tested_69 : decode cX9_tested 69 = .ok (.bipush 12, 2) := by decide +kernel
theorem dX9_tested_71 : decode cX9_tested 71 = .ok (.goto 5, 3) := by decide +kernel
theorem dX9_tested_74 : decode cX9_tested 74 = .ok (.bipush 13, 2) := by decide +kernel
theorem dX9_tested_76 : decode cX9_tested 76 = .ok (.istore_n 2, 1) := by decide +kernel
theorem dX9_tested_77 : decode cX9_tested 77 = .ok (.aload_n 0, 1) := by decide +kernel
theorem dX9_tested_78 : decode cX9_tested 78 = .ok (.invokevirtual 105, 3) := by decide +kernel
theorem dX9_tested_81 : decode cX9_tested 81 = .ok (.aload_n 0, 1) := by decide +kernel
theorem dX9_tested_82 : decode cX9_tested 82 = .ok (.iload_n 2, 1) := by decide +kernel
theorem dX9_tested_83 : decode cX9_tested 83 = .ok (.invokestatic 152, 3) := by decide +kernel
theorem dX9_tested_86 : decode cX9_tested 86 = .ok (.invokevirtual 188, 3) := by decide +kernel
theorem dX9_tested_89 : decode cX9_tested 89 = .ok (.aload_n 0, 1) := by decide +kernel
theorem dX9_tested_90 : decode cX9_tested 90 = .ok (.getfield 32, 3) := by decide +kernel
theorem dX9_tested_93 : decode cX9_tested 93 = .ok (.aload_n 0, 1) := by decide +kernel
theorem dX9_tested_94 : decode cX9_tested 94 = .ok (.getfield 149, 3) := by decide +kernel
theorem dX9_tested_97 : decode cX9_tested 97 = .ok (.iload_n 2, 1) := by decide +kernel
theorem dX9_tested_98 : decode cX9_tested 98 = .ok (.iastore, 1) := by decide +kernel
theorem dX9_tested_99 : decode cX9_tested 99 = .ok (.aload_n 0, 1) := by decide +kernel
theorem dX9_tested_100 : decode cX9_tested 100 = .ok (.dup, 1) := by decide +kernel
theorem dX9_tested_101 : decode cX9_tested 101 = .ok (.getfield 149, 3) := by decide +kernel
theorem dX9_tested_104 : decode cX9_tested 104 = .ok (.iconst 1, 1) := by decide +kernel
theorem dX9_tested_105 : decode cX9_tested 105 = .ok (.iadd, 1) := by decide +kernel
theorem dX9_tested_106 : decode cX9_tested 106 = .ok (.putfield 149, 3) := by decide +kernel
theorem dX9_tested_109 : decode cX9_tested 109 = .ok (.goto (-97), 3) := by decide +kernel
theorem dX9_tested_112 : decode cX9_tested 112 = .ok (.aload_n 0, 1) := by decide +kernel
theorem dX9_tested_113 : decode cX9_tested 113 = .ok (.invokevirtual 191, 3) := by decide +kernel
theorem dX9_tested_116 : decode cX9_tested 116 = .ok (.ifCond .eq 18, 3) := by decide +kernel
theorem dX9_tested_119 : decode cX9_tested 119 = .ok (.aload_n 0, 1) := by decide +kernel
theorem dX9_tested_120 : decode cX9_tested 120 = .ok (.invokevirtual 93, 3) := by decide +kernel
theorem dX9_tested_123 : decode cX9_tested 123 = .ok (.pop, 1) := by decide +kernel
theorem dX9_tested_124 : decode cX9_tested 124 = .ok (.aload_n 0, 1) := by decide +kernel
theorem dX9_tested_125 : decode cX9_tested 125 = .ok (.iconst 0, 1) := by decide +kernel
theorem dX9_tested_126 : decode cX9_tested 126 = .ok (.aload_n 0, 1) := by decide +kernel
theorem dX9_tested_127 : decode cX9_tested 127 = .ok (.getfield 90, 3) := by decide +kernel
theorem dX9_tested_130 : decode cX9_tested 130 = .ok (.invokevirtual 111, 3) := by decide +kernel
theorem dX9_tested_133 : decode cX9_tested 133 = .ok (.ireturn, 1) := by decide +kernel
theorem dX9_tested_134 : decode cX9_tested 134 = .ok (.aload_n 0, 1) := by decide +kernel
theorem dX9_tested_135 : decode cX9_tested 135 = .ok (.iconst 1, 1) := by decide +kernel
theorem dX9_tested_136 : decode cX9_tested 136 = .ok (.invokevirtual 188, 3) := by decide +kernel
theorem dX9_tested_139 : decode cX9_tested 139 = .ok (.iconst 1, 1) := by decide +kernel
theorem dX9_tested_140 : decode cX9_tested 140 = .ok (.ireturn, 1) := by decide +kernel
theorem dX9_thatAre_0 : decode cX9_thatAre 0 = .ok (.iconst 0, 1) := by decide +kernel
theorem dX9_thatAre_1 : decode cX9_thatAre 1 = .ok (.istore_n 2, 1) := by decide +kernel
theorem dX9_thatAre_2 : decode cX9_thatAre 2 = .ok (.iconst 0, 1) := by decide +kernel
theorem dX9_thatAre_3 : decode cX9_thatAre 3 = .ok (.istore_n 3, 1) := by decide +kernel
theorem dX9_thatAre_4 : decode cX9_thatAre 4 = .ok (.iload_n 3, 1) := by decide +kernel
theorem dX9_thatAre_5 : decode cX9_thatAre 5 = .ok (.aload_n 0, 1) := by decide +kernel
theorem dX9_thatAre_6 : decode cX9_thatAre 6 = .ok (.getfield 42, 3) := by decide +kernel
theorem dX9_thatAre_9 : decode cX9_thatAre 9 = .ok (.iconst 0, 1) := by decide +kernel
theorem dX9_thatAre_10 : decode cX9_thatAre 10 = .ok (.iaload, 1) := by decide +kernel
theorem dX9_thatAre_11 : decode cX9_thatAre 11 = .ok (.if_icmp .ge 29, 3) := by decide +kernel
theorem dX9_thatAre_14 : decode cX9_thatAre 14 = .ok (.iload_n 2, 1) := by decide +kernel
theorem dX9_thatAre_15 : decode cX9_thatAre 15 = .ok (.aload_n 0, 1) := by decide +kernel
theorem dX9_thatAre_16 : decode cX9_thatAre 16 = .ok (.iload_n 3, 1) := by decide +kernel
theorem dX9_thatAre_17 : decode cX9_thatAre 17 = .ok (.iconst 4, 1) := by decide +kernel
theorem dX9_thatAre_18 : decode cX9_thatAre 18 = .ok (.invokevirtual 268, 3) := by decide +kernel
theorem dX9_thatAre_21 : decode cX9_thatAre 21 = .ok (.iload_n 1, 1) := by decide +kernel
theorem dX9_thatAre_22 : decode cX9_thatAre 22 = .ok (.if_icmp .ne 9, 3) := by decide +kernel
theorem dX9_thatAre_25 : decode cX9_thatAre 25 = .ok (.iconst 1, 1) := by decide +kernel
theorem dX9_thatAre_26 : decode cX9_thatAre 26 = .ok (.iload_n 3, 1) := by decide +kernel
theorem dX9_thatAre_27 : decode cX9_thatAre 27 = .ok (.ishl, 1) := by decide +kernel
theorem dX9_thatAre_28 : decode cX9_thatAre 28 = .ok (.goto 4, 3) := by decide +kernel
theorem dX9_thatAre_31 : decode cX9_thatAre 31 = .ok (.iconst 0, 1) := by decide +kernel
theorem dX9_thatAre_32 : decode cX9_thatAre 32 = .ok (.ior, 1) := by decide +kernel
theorem dX9_thatAre_33 : decode cX9_thatAre 33 = .ok (.istore_n 2, 1) := by decide +kernel
theorem dX9_thatAre_34 : decode cX9_thatAre 34 = .ok (.iinc 3 1, 3) := by decide +kernel
theorem dX9_thatAre_37 : decode cX9_thatAre 37 = .ok (.goto (-33), 3) := by decide +kernel
theorem dX9_thatAre_40 : decode cX9_thatAre 40 = .ok (.iload_n 2, 1) := by decide +kernel
theorem dX9_thatAre_41 : decode cX9_thatAre 41 = .ok (.ireturn, 1) := by decide +kernel
theorem dX9_triesAs_0 : decode cX9_triesAs 0 = .ok (.aload_n 0, 1) := by decide +kernel
theorem dX9_triesAs_1 : decode cX9_triesAs 1 = .ok (.getfield 48, 3) := by decide +kernel
theorem dX9_triesAs_4 : decode cX9_triesAs 4 = .ok (.iload_n 1, 1) := by decide +kernel
theorem dX9_triesAs_5 : decode cX9_triesAs 5 = .ok (.iaload, 1) := by decide +kernel
theorem dX9_triesAs_6 : decode cX9_triesAs 6 = .ok (.istore_n 3, 1) := by decide +kernel
theorem dX9_triesAs_7 : decode cX9_triesAs 7 = .ok (.aload_n 0, 1) := by decide +kernel
theorem dX9_triesAs_8 : decode cX9_triesAs 8 = .ok (.getfield 51, 3) := by decide +kernel
theorem dX9_triesAs_11 : decode cX9_triesAs 11 = .ok (.iload_n 1, 1) := by decide +kernel
theorem dX9_triesAs_12 : decode cX9_triesAs 12 = .ok (.iload_n 2, 1) := by decide +kernel
theorem dX9_triesAs_13 : decode cX9_triesAs 13 = .ok (.bastore, 1) := by decide +kernel
theorem dX9_triesAs_14 : decode cX9_triesAs 14 = .ok (.aload_n 0, 1) := by decide +kernel
theorem dX9_triesAs_15 : decode cX9_triesAs 15 = .ok (.getfield 42, 3) := by decide +kernel
theorem dX9_triesAs_18 : decode cX9_triesAs 18 = .ok (.iconst 3, 1) := by decide +kernel
theorem dX9_triesAs_19 : decode cX9_triesAs 19 = .ok (.aload_n 0, 1) := by decide +kernel
theorem dX9_triesAs_20 : decode cX9_triesAs 20 = .ok (.getfield 70, 3) := by decide +kernel
theorem dX9_triesAs_23 : decode cX9_triesAs 23 = .ok (.iload_n 1, 1) := by decide +kernel
theorem dX9_triesAs_24 : decode cX9_triesAs 24 = .ok (.iaload, 1) := by decide +kernel
theorem dX9_triesAs_25 : decode cX9_triesAs 25 = .ok (.aload_n 0, 1) := by decide +kernel
theorem dX9_triesAs_26 : decode cX9_triesAs 26 = .ok (.iload_n 3, 1) := by decide +kernel
theorem dX9_triesAs_27 : decode cX9_triesAs 27 = .ok (.iconst 1, 1) := by decide +kernel
theorem dX9_triesAs_28 : decode cX9_triesAs 28 = .ok (.invokevirtual 268, 3) := by decide +kernel
theorem dX9_triesAs_31 : decode cX9_triesAs 31 = .ok (.isub, 1) := by decide +kernel
theorem dX9_triesAs_32 : decode cX9_triesAs 32 = .ok (.iastore, 1) := by decide +kernel
theorem dX9_triesAs_33 : decode cX9_triesAs 33 = .ok (.aload_n 0, 1) := by decide +kernel
theorem dX9_triesAs_34 : decode cX9_triesAs 34 = .ok (.getfield 42, 3) := by decide +kernel
theorem dX9_triesAs_37 : decode cX9_triesAs 37 = .ok (.bipush 44, 2) := by decide +kernel
theorem dX9_triesAs_39 : decode cX9_triesAs 39 = .ok (.bipush 6, 2) := by decide +kernel
theorem dX9_triesAs_41 : decode cX9_triesAs 41 = .ok (.iload_n 3, 1) := by decide +kernel
theorem dX9_triesAs_42 : decode cX9_triesAs 42 = .ok (.imul, 1) := by decide +kernel
theorem dX9_triesAs_43 : decode cX9_triesAs 43 = .ok (.iadd, 1) := by decide +kernel
theorem dX9_triesAs_44 : decode cX9_triesAs 44 = .ok (.iconst 4, 1) := by decide +kernel
theorem dX9_triesAs_45 : decode cX9_triesAs 45 = .ok (.iadd, 1) := by decide +kernel
theorem dX9_triesAs_46 : decode cX9_triesAs 46 = .ok (.iload_n 2, 1) := by decide +kernel
theorem dX9_triesAs_47 : decode cX9_triesAs 47 = .ok (.ifCond .eq 7, 3) := by decide +kernel
theorem dX9_triesAs_50 : decode cX9_triesAs 50 = .ok (.iconst 1, 1) := by decide +kernel
theorem dX9_triesAs_51 : decode cX9_triesAs 51 = .ok (.goto 4, 3) := by decide +kernel
theorem dX9_triesAs_54 : decode cX9_triesAs 54 = .ok (.iconst 0, 1) := by decide +kernel
theorem dX9_triesAs_55 : decode cX9_triesAs 55 = .ok (.iastore, 1) := by decide +kernel
theorem dX9_triesAs_56 : decode cX9_triesAs 56 = .ok (.return_, 1) := by decide +kernel
theorem dX9_triesNext_0 : decode cX9_triesNext 0 = .ok (.aload_n 0, 1) := by decide +kernel
theorem dX9_triesNext_1 : decode cX9_triesNext 1 = .ok (.getfield 48, 3) := by decide +kernel
theorem dX9_triesNext_4 : decode cX9_triesNext 4 = .ok (.iload_n 1, 1) := by decide +kernel
theorem dX9_triesNext_5 : decode cX9_triesNext 5 = .ok (.dup2, 1) := by decide +kernel
theorem dX9_triesNext_6 : decode cX9_triesNext 6 = .ok (.iaload, 1) := by decide +kernel
theorem dX9_triesNext_7 : decode cX9_triesNext 7 = .ok (.iconst 1, 1) := by decide +kernel
theorem dX9_triesNext_8 : decode cX9_triesNext 8 = .ok (.iadd, 1) := by decide +kernel
theorem dX9_triesNext_9 : decode cX9_triesNext 9 = .ok (.iastore, 1) := by decide +kernel
theorem dX9_triesNext_10 : decode cX9_triesNext 10 = .ok (.aload_n 0, 1) := by decide +kernel
theorem dX9_triesNext_11 : decode cX9_triesNext 11 = .ok (.getfield 48, 3) := by decide +kernel
theorem dX9_triesNext_14 : decode cX9_triesNext 14 = .ok (.iload_n 1, 1) := by decide +kernel
theorem dX9_triesNext_15 : decode cX9_triesNext 15 = .ok (.iaload, 1) := by decide +kernel
theorem dX9_triesNext_16 : decode cX9_triesNext 16 = .ok (.aload_n 0, 1) := by decide +kernel
theorem dX9_triesNext_17 : decode cX9_triesNext 17 = .ok (.getfield 42, 3) := by decide +kernel
theorem dX9_triesNext_20 : decode cX9_triesNext 20 = .ok (.iconst 0, 1) := by decide +kernel
theorem dX9_triesNext_21 : decode cX9_triesNext 21 = .ok (.iaload, 1) := by decide +kernel
theorem dX9_triesNext_22 : decode cX9_triesNext 22 = .ok (.if_icmp .ge 29, 3) := by decide +kernel
theorem dX9_triesNext_25 : decode cX9_triesNext 25 = .ok (.aload_n 0, 1) := by decide +kernel
theorem dX9_triesNext_26 : decode cX9_triesNext 26 = .ok (.aload_n 0, 1) := by decide +kernel
theorem dX9_triesNext_27 : decode cX9_triesNext 27 = .ok (.getfield 48, 3) := by decide +kernel
theorem dX9_triesNext_30 : decode cX9_triesNext 30 = .ok (.iload_n 1, 1) := by decide +kernel
theorem dX9_triesNext_31 : decode cX9_triesNext 31 = .ok (.iaload, 1) := by decide +kernel
theorem dX9_triesNext_32 : decode cX9_triesNext 32 = .ok (.invokevirtual 295, 3) := by decide +kernel
theorem dX9_triesNext_35 : decode cX9_triesNext 35 = .ok (.ifCond .ne 16, 3) := by decide +kernel
theorem dX9_triesNext_38 : decode cX9_triesNext 38 = .ok (.aload_n 0, 1) := by decide +kernel
theorem dX9_triesNext_39 : decode cX9_triesNext 39 = .ok (.getfield 48, 3) := by decide +kernel
theorem dX9_triesNext_42 : decode cX9_triesNext 42 = .ok (.iload_n 1, 1) := by decide +kernel
theorem dX9_triesNext_43 : decode cX9_triesNext 43 = .ok (.dup2, 1) := by decide +kernel
theorem dX9_triesNext_44 : decode cX9_triesNext 44 = .ok (.iaload, 1) := by decide +kernel
theorem dX9_triesNext_45 : decode cX9_triesNext 45 = .ok (.iconst 1, 1) := by decide +kernel
theorem dX9_triesNext_46 : decode cX9_triesNext 46 = .ok (.iadd, 1) := by decide +kernel
theorem dX9_triesNext_47 : decode cX9_triesNext 47 = .ok (.iastore, 1) := by decide +kernel
theorem dX9_triesNext_48 : decode cX9_triesNext 48 = .ok (.goto (-38), 3) := by decide +kernel
theorem dX9_triesNext_51 : decode cX9_triesNext 51 = .ok (.aload_n 0, 1) := by decide +kernel
theorem dX9_triesNext_52 : decode cX9_triesNext 52 = .ok (.getfield 48, 3) := by decide +kernel
theorem dX9_triesNext_55 : decode cX9_triesNext 55 = .ok (.iload_n 1, 1) := by decide +kernel
theorem dX9_triesNext_56 : decode cX9_triesNext 56 = .ok (.iaload, 1) := by decide +kernel
theorem dX9_triesNext_57 : decode cX9_triesNext 57 = .ok (.aload_n 0, 1) := by decide +kernel
theorem dX9_triesNext_58 : decode cX9_triesNext 58 = .ok (.getfield 42, 3) := by decide +kernel
theorem dX9_triesNext_61 : decode cX9_triesNext 61 = .ok (.iconst 0, 1) := by decide +kernel
theorem dX9_triesNext_62 : decode cX9_triesNext 62 = .ok (.iaload, 1) := by decide +kernel
theorem dX9_triesNext_63 : decode cX9_triesNext 63 = .ok (.if_icmp .ge 7, 3) := by decide +kernel
theorem dX9_triesNext_66 : decode cX9_triesNext 66 = .ok (.iconst 1, 1) := by decide +kernel
theorem dX9_triesNext_67 : decode cX9_triesNext 67 = .ok (.goto 4, 3) := by decide +kernel
theorem dX9_triesNext_70 : decode cX9_triesNext 70 = .ok (.iconst 0, 1) := by decide +kernel
theorem dX9_triesNext_71 : decode cX9_triesNext 71 = .ok (.ireturn, 1) := by decide +kernel
theorem dX9_value_0 : decode cX9_value 0 = .ok (.aload_n 0, 1) := by decide +kernel
theorem dX9_value_1 : decode cX9_value 1 = .ok (.invokevirtual 93, 3) := by decide +kernel
theorem dX9_value_4 : decode cX9_value 4 = .ok (.pop, 1) := by decide +kernel
theorem dX9_value_5 : decode cX9_value 5 = .ok (.aload_n 0, 1) := by decide +kernel
theorem dX9_value_6 : decode cX9_value 6 = .ok (.getfield 90, 3) := by decide +kernel
theorem dX9_value_9 : decode cX9_value 9 = .ok (.istore_n 1, 1) := by decide +kernel
theorem dX9_value_10 : decode cX9_value 10 = .ok (.aload_n 0, 1) := by decide +kernel
theorem dX9_value_11 : decode cX9_value 11 = .ok (.aload_n 0, 1) := by decide +kernel
theorem dX9_value_12 : decode cX9_value 12 = .ok (.getfield 90, 3) := by decide +kernel
theorem dX9_value_15 : decode cX9_value 15 = .ok (.invokevirtual 108, 3) := by decide +kernel
theorem dX9_value_18 : decode cX9_value 18 = .ok (.ifCond .eq 34, 3) := by decide +kernel
theorem dX9_value_21 : decode cX9_value 21 = .ok (.aload_n 0, 1) := by decide +kernel
theorem dX9_value_22 : decode cX9_value 22 = .ok (.iconst 0, 1) := by decide +kernel
theorem dX9_value_23 : decode cX9_value 23 = .ok (.ldc 160, 2) := by decide +kernel
theorem dX9_value_25 : decode cX9_value 25 = .ok (.invokevirtual 161, 3) := by decide +kernel
theorem dX9_value_28 : decode cX9_value 28 = .ok (.ifCond .eq 11, 3) := by decide +kernel
theorem dX9_value_31 : decode cX9_value 31 = .ok (.aload_n 0, 1) := by decide +kernel
theorem dX9_value_32 : decode cX9_value 32 = .ok (.iload_n 1, 1) := by decide +kernel
theorem dX9_value_33 : decode cX9_value 33 = .ok (.invokevirtual 164, 3) := by decide +kernel
theorem dX9_value_36 : decode cX9_value 36 = .ok (.ifCond .ne 5, 3) := by decide +kernel
theorem dX9_value_39 : decode cX9_value 39 = .ok (.iconst 0, 1) := by decide +kernel
theorem dX9_value_40 : decode cX9_value 40 = .ok (.ireturn, 1) := by decide +kernel
theorem dX9_value_41 : decode cX9_value 41 = .ok (.aload_n 0, 1) := by decide +kernel
theorem dX9_value_42 : decode cX9_value 42 = .ok (.iconst 0, 1) := by decide +kernel
theorem dX9_value_43 : decode cX9_value 43 = .ok (.aload_n 0, 1) := by decide +kernel
theorem dX9_value_44 : decode cX9_value 44 = .ok (.getfield 115, 3) := by decide +kernel
theorem dX9_value_47 : decode cX9_value 47 = .ok (.invokevirtual 156, 3) := by decide +kernel
theorem dX9_value_50 : decode cX9_value 50 = .ok (.iconst 1, 1) := by decide +kernel
theorem dX9_value_51 : decode cX9_value 51 = .ok (.ireturn, 1) := by decide +kernel
theorem dX9_value_52 : decode cX9_value 52 = .ok (.aload_n 0, 1) := by decide +kernel
theorem dX9_value_53 : decode cX9_value 53 = .ok (.invokevirtual 167, 3) := by decide +kernel
theorem dX9_value_56 : decode cX9_value 56 = .ok (.istore_n 2, 1) := by decide +kernel
theorem dX9_value_57 : decode cX9_value 57 = .ok (.iload_n 2, 1) := by decide +kernel
theorem dX9_value_58 : decode cX9_value 58 = .ok (.ifCond .ge 10, 3) := by decide +kernel
theorem dX9_value_61 : decode cX9_value 61 = .ok (.aload_n 0, 1) := by decide +kernel
theorem dX9_value_62 : decode cX9_value 62 = .ok (.iconst 0, 1) := by decide +kernel
theorem dX9_value_63 : decode cX9_value 63 = .ok (.iload_n 1, 1) := by decide +kernel
theorem dX9_value_64 : decode cX9_value 64 = .ok (.invokevirtual 111, 3) := by decide +kernel
theorem dX9_value_67 : decode cX9_value 67 = .ok (.ireturn, 1) := by decide +kernel
theorem dX9_value_68 : decode cX9_value 68 = .ok (.aload_n 0, 1) := by decide +kernel
theorem dX9_value_69 : decode cX9_value 69 = .ok (.iload_n 1, 1) := by decide +kernel
theorem dX9_value_70 : decode cX9_value 70 = .ok (.invokevirtual 164, 3) := by decide +kernel
theorem dX9_value_73 : decode cX9_value 73 = .ok (.ifCond .ne 5, 3) := by decide +kernel
theorem dX9_value_76 : decode cX9_value 76 = .ok (.iconst 0, 1) := by decide +kernel
theorem dX9_value_77 : decode cX9_value 77 = .ok (.ireturn, 1) := by decide +kernel
theorem dX9_value_78 : decode cX9_value 78 = .ok (.aload_n 0, 1) := by decide +kernel
theorem dX9_value_79 : decode cX9_value 79 = .ok (.invokevirtual 105, 3) := by decide +kernel
theorem dX9_value_82 : decode cX9_value 82 = .ok (.aload_n 0, 1) := by decide +kernel
theorem dX9_value_83 : decode cX9_value 83 = .ok (.iconst 1, 1) := by decide +kernel
theorem dX9_value_84 : decode cX9_value 84 = .ok (.iload_n 2, 1) := by decide +kernel
theorem dX9_value_85 : decode cX9_value 85 = .ok (.invokevirtual 156, 3) := by decide +kernel
theorem dX9_value_88 : decode cX9_value 88 = .ok (.iconst 1, 1) := by decide +kernel
theorem dX9_value_89 : decode cX9_value 89 = .ok (.ireturn, 1) := by decide +kernel
theorem dX9_weeks_0 : decode cX9_weeks 0 = .ok (.aload_n 0, 1) := by decide +kernel
theorem dX9_weeks_1 : decode cX9_weeks 1 = .ok (.invokevirtual 301, 3) := by decide +kernel
theorem dX9_weeks_4 : decode cX9_weeks 4 = .ok (.ifCond .eq 35, 3) := by decide +kernel
theorem dX9_weeks_7 : decode cX9_weeks 7 = .ok (.aload_n 0, 1) := by decide +kernel
theorem dX9_weeks_8 : decode cX9_weeks 8 = .ok (.iload_n 1, 1) := by decide +kernel
theorem dX9_weeks_9 : decode cX9_weeks 9 = .ok (.invokevirtual 335, 3) := by decide +kernel
theorem dX9_weeks_12 : decode cX9_weeks 12 = .ok (.ifCond .eq 27, 3) := by decide +kernel
theorem dX9_weeks_15 : decode cX9_weeks 15 = .ok (.iload_n 2, 1) := by decide +kernel
theorem dX9_weeks_16 : decode cX9_weeks 16 = .ok (.i2l, 1) := by decide +kernel
theorem dX9_weeks_17 : decode cX9_weeks 17 = .ok (.lconst 1, 1) := by decide +kernel
theorem dX9_weeks_18 : decode cX9_weeks 18 = .ok (.ldc2_w 412, 3) := by decide +kernel
theorem dX9_weeks_21 : decode cX9_weeks 21 = .ok (.invokestatic 118, 3) := by decide +kernel
theorem dX9_weeks_24 : decode cX9_weeks 24 = .ok (.ifCond .eq 15, 3) := by decide +kernel
theorem dX9_weeks_27 : decode cX9_weeks 27 = .ok (.iload_n 3, 1) := by decide +kernel
theorem dX9_weeks_28 : decode cX9_weeks 28 = .ok (.i2l, 1) := by decide +kernel
theorem dX9_weeks_29 : decode cX9_weeks 29 = .ok (.lconst 0, 1) := by decide +kernel
theorem dX9_weeks_30 : decode cX9_weeks 30 = .ok (.ldc2_w 278, 3) := by decide +kernel
theorem dX9_weeks_33 : decode cX9_weeks 33 = .ok (.invokestatic 118, 3) := by decide +kernel
theorem dX9_weeks_36 : decode cX9_weeks 36 = .ok (.ifCond .ne 5, 3) := by decide +kernel
theorem dX9_weeks_39 : decode cX9_weeks 39 = .ok (.iconst (-1), 1) := by decide +kernel
theorem dX9_weeks_40 : decode cX9_weeks 40 = .ok (.ireturn, 1) := by decide +kernel
theorem dX9_weeks_41 : decode cX9_weeks 41 = .ok (.aload_n 0, 1) := by decide +kernel
theorem dX9_weeks_42 : decode cX9_weeks 42 = .ok (.invokevirtual 343, 3) := by decide +kernel
theorem dX9_weeks_45 : decode cX9_weeks 45 = .ok (.iconst 0, 1) := by decide +kernel
theorem dX9_weeks_46 : decode cX9_weeks 46 = .ok (.istore 4, 2) := by decide +kernel
theorem dX9_weeks_48 : decode cX9_weeks 48 = .ok (.iconst 0, 1) := by decide +kernel
theorem dX9_weeks_49 : decode cX9_weeks 49 = .ok (.istore 5, 2) := by decide +kernel
theorem dX9_weeks_51 : decode cX9_weeks 51 = .ok (.iload 5, 2) := by decide +kernel
theorem dX9_weeks_53 : decode cX9_weeks 53 = .ok (.bipush 6, 2) := by decide +kernel
theorem dX9_weeks_55 : decode cX9_weeks 55 = .ok (.iload_n 2, 1) := by decide +kernel
theorem dX9_weeks_56 : decode cX9_weeks 56 = .ok (.imul, 1) := by decide +kernel
theorem dX9_weeks_57 : decode cX9_weeks 57 = .ok (.if_icmp .ge 57, 3) := by decide +kernel
theorem dX9_weeks_60 : decode cX9_weeks 60 = .ok (.aload_n 0, 1) := by decide +kernel
theorem dX9_weeks_61 : decode cX9_weeks 61 = .ok (.invokevirtual 310, 3) := by decide +kernel
theorem dX9_weeks_64 : decode cX9_weeks 64 = .ok (.aload_n 0, 1) := by decide +kernel
theorem dX9_weeks_65 : decode cX9_weeks 65 = .ok (.iload_n 1, 1) := by decide +kernel
theorem dX9_weeks_66 : decode cX9_weeks 66 = .ok (.invokevirtual 338, 3) := by decide +kernel
theorem dX9_weeks_69 : decode cX9_weeks 69 = .ok (.pop, 1) := by decide +kernel
theorem dX9_weeks_70 : decode cX9_weeks 70 = .ok (.iload 4, 2) := by decide +kernel
theorem dX9_weeks_72 : decode cX9_weeks 72 = .ok (.iload_n 3, 1) := by decide +kernel
theorem dX9_weeks_73 : decode cX9_weeks 73 = .ok (.ifCond .ne 12, 3) := by decide +kernel
theorem dX9_weeks_76 : decode cX9_weeks 76 = .ok (.aload_n 0, 1) := by decide +kernel
theorem dX9_weeks_77 : decode cX9_weeks 77 = .ok (.getfield 42, 3) := by decide +kernel
theorem dX9_weeks_80 : decode cX9_weeks 80 = .ok (.iconst 4, 1) := by decide +kernel
theorem dX9_weeks_81 : decode cX9_weeks 81 = .ok (.iaload, 1) := by decide +kernel
theorem dX9_weeks_82 : decode cX9_weeks 82 = .ok (.goto 23, 3) := by decide +kernel
theorem dX9_weeks_85 : decode cX9_weeks 85 = .ok (.iload_n 3, 1) := by decide +kernel
theorem dX9_weeks_86 : decode cX9_weeks 86 = .ok (.iconst 1, 1) := by decide +kernel
theorem dX9_weeks_87 : decode cX9_weeks 87 = .ok (.if_icmp .ne 14, 3) := by decide +kernel
theorem dX9_weeks_90 : decode cX9_weeks 90 = .ok (.aload_n 0, 1) := by decide +kernel
theorem dX9_weeks_91 : decode cX9_weeks 91 = .ok (.iconst 1, 1) := by decide +kernel
theorem dX9_weeks_92 : decode cX9_weeks 92 = .ok (.invokevirtual 313, 3) := by decide +kernel
theorem dX9_weeks_95 : decode cX9_weeks 95 = .ok (.invokestatic 316, 3) := by decide +kernel
theorem dX9_weeks_98 : decode cX9_weeks 98 = .ok (.goto 7, 3) := by decide +kernel
theorem dX9_weeks_101 : decode cX9_weeks 101 = .ok (.aload_n 0, 1) := by decide +kernel
theorem dX9_weeks_102 : decode cX9_weeks 102 = .ok (.invokevirtual 307, 3) := by decide +kernel
theorem dX9_weeks_105 : decode cX9_weeks 105 = .ok (.iadd, 1) := by decide +kernel
theorem dX9_weeks_106 : decode cX9_weeks 106 = .ok (.istore 4, 2) := by decide +kernel
theorem dX9_weeks_108 : decode cX9_weeks 108 = .ok (.iinc 5 1, 3) := by decide +kernel
theorem dX9_weeks_111 : decode cX9_weeks 111 = .ok (.goto (-60), 3) := by decide +kernel
theorem dX9_weeks_114 : decode cX9_weeks 114 = .ok (.aload_n 0, 1) := by decide +kernel
theorem dX9_weeks_115 : decode cX9_weeks 115 = .ok (.invokevirtual 346, 3) := by decide +kernel
theorem dX9_weeks_118 : decode cX9_weeks 118 = .ok (.iload 4, 2) := by decide +kernel
theorem dX9_weeks_120 : decode cX9_weeks 120 = .ok (.ireturn, 1) := by decide +kernel
theorem dX9_wordHere_0 : decode cX9_wordHere 0 = .ok (.aload_n 0, 1) := by decide +kernel
theorem dX9_wordHere_1 : decode cX9_wordHere 1 = .ok (.ldc2_w 122, 3) := by decide +kernel
theorem dX9_wordHere_4 : decode cX9_wordHere 4 = .ok (.invokevirtual 101, 3) := by decide +kernel
theorem dX9_wordHere_7 : decode cX9_wordHere 7 = .ok (.ifCond .eq 5, 3) := by decide +kernel
theorem dX9_wordHere_10 : decode cX9_wordHere 10 = .ok (.iconst 0, 1) := by decide +kernel
theorem dX9_wordHere_11 : decode cX9_wordHere 11 = .ok (.ireturn, 1) := by decide +kernel
theorem dX9_wordHere_12 : decode cX9_wordHere 12 = .ok (.aload_n 0, 1) := by decide +kernel
theorem dX9_wordHere_13 : decode cX9_wordHere 13 = .ok (.ldc2_w 124, 3) := by decide +kernel
theorem dX9_wordHere_16 : decode cX9_wordHere 16 = .ok (.invokevirtual 101, 3) := by decide +kernel
theorem dX9_wordHere_19 : decode cX9_wordHere 19 = .ok (.ifCond .eq 5, 3) := by decide +kernel
theorem dX9_wordHere_22 : decode cX9_wordHere 22 = .ok (.iconst 1, 1) := by decide +kernel
theorem dX9_wordHere_23 : decode cX9_wordHere 23 = .ok (.ireturn, 1) := by decide +kernel
theorem dX9_wordHere_24 : decode cX9_wordHere 24 = .ok (.aload_n 0, 1) := by decide +kernel
theorem dX9_wordHere_25 : decode cX9_wordHere 25 = .ok (.ldc2_w 126, 3) := by decide +kernel
theorem dX9_wordHere_28 : decode cX9_wordHere 28 = .ok (.invokevirtual 101, 3) := by decide +kernel
theorem dX9_wordHere_31 : decode cX9_wordHere 31 = .ok (.ifCond .eq 5, 3) := by decide +kernel
theorem dX9_wordHere_34 : decode cX9_wordHere 34 = .ok (.iconst 2, 1) := by decide +kernel
theorem dX9_wordHere_35 : decode cX9_wordHere 35 = .ok (.ireturn, 1) := by decide +kernel
theorem dX9_wordHere_36 : decode cX9_wordHere 36 = .ok (.aload_n 0, 1) := by decide +kernel
theorem dX9_wordHere_37 : decode cX9_wordHere 37 = .ok (.ldc2_w 128, 3) := by decide +kernel
theorem dX9_wordHere_40 : decode cX9_wordHere 40 = .ok (.invokevirtual 101, 3) := by decide +kernel
theorem dX9_wordHere_43 : decode cX9_wordHere 43 = .ok (.ifCond .eq 5, 3) := by decide +kernel
theorem dX9_wordHere_46 : decode cX9_wordHere 46 = .ok (.iconst 3, 1) := by decide +kernel
theorem dX9_wordHere_47 : decode cX9_wordHere 47 = .ok (.ireturn, 1) := by decide +kernel
theorem dX9_wordHere_48 : decode cX9_wordHere 48 = .ok (.aload_n 0, 1) := by decide +kernel
theorem dX9_wordHere_49 : decode cX9_wordHere 49 = .ok (.ldc2_w 130, 3) := by decide +kernel
