theorem dX9_wordHere_52 : decode cX9_wordHere 52 = .ok (.invokevirtual 101, 3) := by decide +kernel
theorem dX9_wordHere_55 : decode cX9_wordHere 55 = .ok (.ifCond .eq 5, 3) := by decide +kernel
theorem dX9_wordHere_58 : decode cX9_wordHere 58 = .ok (.iconst 4, 1) := by decide +kernel
theorem dX9_wordHere_59 : decode cX9_wordHere 59 = .ok (.ireturn, 1) := by decide +kernel
theorem dX9_wordHere_60 : decode cX9_wordHere 60 = .ok (.aload_n 0, 1) := by decide +kernel
theorem dX9_wordHere_61 : decode cX9_wordHere 61 = .ok (.ldc2_w 132, 3) := by decide +kernel
theorem dX9_wordHere_64 : decode cX9_wordHere 64 = .ok (.invokevirtual 101, 3) := by decide +kernel
theorem dX9_wordHere_67 : decode cX9_wordHere 67 = .ok (.ifCond .eq 5, 3) := by decide +kernel
theorem dX9_wordHere_70 : decode cX9_wordHere 70 = .ok (.iconst 5, 1) := by decide +kernel
theorem dX9_wordHere_71 : decode cX9_wordHere 71 = .ok (.ireturn, 1) := by decide +kernel
theorem dX9_wordHere_72 : decode cX9_wordHere 72 = .ok (.aload_n 0, 1) := by decide +kernel
theorem dX9_wordHere_73 : decode cX9_wordHere 73 = .ok (.ldc2_w 134, 3) := by decide +kernel
theorem dX9_wordHere_76 : decode cX9_wordHere 76 = .ok (.invokevirtual 101, 3) := by decide +kernel
theorem dX9_wordHere_79 : decode cX9_wordHere 79 = .ok (.ifCond .eq 6, 3) := by decide +kernel
theorem dX9_wordHere_82 : decode cX9_wordHere 82 = .ok (.bipush 6, 2) := by decide +kernel
theorem dX9_wordHere_84 : decode cX9_wordHere 84 = .ok (.ireturn, 1) := by decide +kernel
theorem dX9_wordHere_85 : decode cX9_wordHere 85 = .ok (.aload_n 0, 1) := by decide +kernel
theorem dX9_wordHere_86 : decode cX9_wordHere 86 = .ok (.ldc2_w 136, 3) := by decide +kernel
theorem dX9_wordHere_89 : decode cX9_wordHere 89 = .ok (.invokevirtual 101, 3) := by decide +kernel
theorem dX9_wordHere_92 : decode cX9_wordHere 92 = .ok (.ifCond .eq 8, 3) := by decide +kernel
theorem dX9_wordHere_95 : decode cX9_wordHere 95 = .ok (.bipush 7, 2) := by decide +kernel
theorem dX9_wordHere_97 : decode cX9_wordHere 97 = .ok (.goto 19, 3) := by decide +kernel
theorem dX9_wordHere_100 : decode cX9_wordHere 100 = .ok (.aload_n 0, 1) := by decide +kernel
theorem dX9_wordHere_101 : decode cX9_wordHere 101 = .ok (.ldc2_w 138, 3) := by decide +kernel
theorem dX9_wordHere_104 : decode cX9_wordHere 104 = .ok (.invokevirtual 101, 3) := by decide +kernel
theorem dX9_wordHere_107 : decode cX9_wordHere 107 = .ok (.ifCond .eq 8, 3) := by decide +kernel
theorem dX9_wordHere_110 : decode cX9_wordHere 110 = .ok (.bipush 8, 2) := by decide +kernel
theorem dX9_wordHere_112 : decode cX9_wordHere 112 = .ok (.goto 4, 3) := by decide +kernel
theorem dX9_wordHere_115 : decode cX9_wordHere 115 = .ok (.iconst (-1), 1) := by decide +kernel
theorem dX9_wordHere_116 : decode cX9_wordHere 116 = .ok (.ireturn, 1) := by decide +kernel
theorem dX9_words_0 : decode cX9_words 0 = .ok (.aload_n 0, 1) := by decide +kernel
theorem dX9_words_1 : decode cX9_words 1 = .ok (.getfield 39, 3) := by decide +kernel
theorem dX9_words_4 : decode cX9_words 4 = .ok (.iconst 0, 1) := by decide +kernel
theorem dX9_words_5 : decode cX9_words 5 = .ok (.iload_n 1, 1) := by decide +kernel
theorem dX9_words_6 : decode cX9_words 6 = .ok (.i2l, 1) := by decide +kernel
theorem dX9_words_7 : decode cX9_words 7 = .ok (.lastore, 1) := by decide +kernel
theorem dX9_words_8 : decode cX9_words 8 = .ok (.aload_n 0, 1) := by decide +kernel
theorem dX9_words_9 : decode cX9_words 9 = .ok (.getfield 39, 3) := by decide +kernel
theorem dX9_words_12 : decode cX9_words 12 = .ok (.iconst 1, 1) := by decide +kernel
theorem dX9_words_13 : decode cX9_words 13 = .ok (.aload_n 0, 1) := by decide +kernel
theorem dX9_words_14 : decode cX9_words 14 = .ok (.iload_n 1, 1) := by decide +kernel
theorem dX9_words_15 : decode cX9_words 15 = .ok (.iconst 0, 1) := by decide +kernel
theorem dX9_words_16 : decode cX9_words 16 = .ok (.invokevirtual 268, 3) := by decide +kernel
theorem dX9_words_19 : decode cX9_words 19 = .ok (.i2l, 1) := by decide +kernel
theorem dX9_words_20 : decode cX9_words 20 = .ok (.lastore, 1) := by decide +kernel
theorem dX9_words_21 : decode cX9_words 21 = .ok (.aload_n 0, 1) := by decide +kernel
theorem dX9_words_22 : decode cX9_words 22 = .ok (.getfield 39, 3) := by decide +kernel
theorem dX9_words_25 : decode cX9_words 25 = .ok (.iconst 2, 1) := by decide +kernel
theorem dX9_words_26 : decode cX9_words 26 = .ok (.aload_n 0, 1) := by decide +kernel
theorem dX9_words_27 : decode cX9_words 27 = .ok (.iload_n 1, 1) := by decide +kernel
theorem dX9_words_28 : decode cX9_words 28 = .ok (.iconst 0, 1) := by decide +kernel
theorem dX9_words_29 : decode cX9_words 29 = .ok (.invokevirtual 275, 3) := by decide +kernel
theorem dX9_words_32 : decode cX9_words 32 = .ok (.i2l, 1) := by decide +kernel
theorem dX9_words_33 : decode cX9_words 33 = .ok (.lastore, 1) := by decide +kernel
theorem dX9_words_34 : decode cX9_words 34 = .ok (.aload_n 0, 1) := by decide +kernel
theorem dX9_words_35 : decode cX9_words 35 = .ok (.getfield 39, 3) := by decide +kernel
theorem dX9_words_38 : decode cX9_words 38 = .ok (.iconst 3, 1) := by decide +kernel
theorem dX9_words_39 : decode cX9_words 39 = .ok (.aload_n 0, 1) := by decide +kernel
theorem dX9_words_40 : decode cX9_words 40 = .ok (.iload_n 1, 1) := by decide +kernel
theorem dX9_words_41 : decode cX9_words 41 = .ok (.iconst 2, 1) := by decide +kernel
theorem dX9_words_42 : decode cX9_words 42 = .ok (.invokevirtual 268, 3) := by decide +kernel
theorem dX9_words_45 : decode cX9_words 45 = .ok (.i2l, 1) := by decide +kernel
theorem dX9_words_46 : decode cX9_words 46 = .ok (.lastore, 1) := by decide +kernel
theorem dX9_words_47 : decode cX9_words 47 = .ok (.aload_n 0, 1) := by decide +kernel
theorem dX9_words_48 : decode cX9_words 48 = .ok (.getfield 39, 3) := by decide +kernel
theorem dX9_words_51 : decode cX9_words 51 = .ok (.iconst 4, 1) := by decide +kernel
theorem dX9_words_52 : decode cX9_words 52 = .ok (.aload_n 0, 1) := by decide +kernel
theorem dX9_words_53 : decode cX9_words 53 = .ok (.iload_n 1, 1) := by decide +kernel
theorem dX9_words_54 : decode cX9_words 54 = .ok (.iconst 1, 1) := by decide +kernel
theorem dX9_words_55 : decode cX9_words 55 = .ok (.invokevirtual 268, 3) := by decide +kernel
theorem dX9_words_58 : decode cX9_words 58 = .ok (.i2l, 1) := by decide +kernel
theorem dX9_words_59 : decode cX9_words 59 = .ok (.lastore, 1) := by decide +kernel
theorem dX9_words_60 : decode cX9_words 60 = .ok (.aload_n 0, 1) := by decide +kernel
theorem dX9_words_61 : decode cX9_words 61 = .ok (.getfield 39, 3) := by decide +kernel
theorem dX9_words_64 : decode cX9_words 64 = .ok (.iconst 5, 1) := by decide +kernel
theorem dX9_words_65 : decode cX9_words 65 = .ok (.aload_n 0, 1) := by decide +kernel
theorem dX9_words_66 : decode cX9_words 66 = .ok (.getfield 42, 3) := by decide +kernel
theorem dX9_words_69 : decode cX9_words 69 = .ok (.iconst 3, 1) := by decide +kernel
theorem dX9_words_70 : decode cX9_words 70 = .ok (.iaload, 1) := by decide +kernel
theorem dX9_words_71 : decode cX9_words 71 = .ok (.i2l, 1) := by decide +kernel
theorem dX9_words_72 : decode cX9_words 72 = .ok (.lastore, 1) := by decide +kernel
theorem dX9_words_73 : decode cX9_words 73 = .ok (.aload_n 0, 1) := by decide +kernel
theorem dX9_words_74 : decode cX9_words 74 = .ok (.getfield 39, 3) := by decide +kernel
theorem dX9_words_77 : decode cX9_words 77 = .ok (.bipush 6, 2) := by decide +kernel
theorem dX9_words_79 : decode cX9_words 79 = .ok (.aload_n 0, 1) := by decide +kernel
theorem dX9_words_80 : decode cX9_words 80 = .ok (.iconst 1, 1) := by decide +kernel
theorem dX9_words_81 : decode cX9_words 81 = .ok (.invokevirtual 313, 3) := by decide +kernel
theorem dX9_words_84 : decode cX9_words 84 = .ok (.invokestatic 316, 3) := by decide +kernel
theorem dX9_words_87 : decode cX9_words 87 = .ok (.i2l, 1) := by decide +kernel
theorem dX9_words_88 : decode cX9_words 88 = .ok (.lastore, 1) := by decide +kernel
theorem dX9_words_89 : decode cX9_words 89 = .ok (.aload_n 0, 1) := by decide +kernel
theorem dX9_words_90 : decode cX9_words 90 = .ok (.getfield 39, 3) := by decide +kernel
theorem dX9_words_93 : decode cX9_words 93 = .ok (.bipush 7, 2) := by decide +kernel
theorem dX9_words_95 : decode cX9_words 95 = .ok (.aload_n 0, 1) := by decide +kernel
theorem dX9_words_96 : decode cX9_words 96 = .ok (.iload_n 1, 1) := by decide +kernel
theorem dX9_words_97 : decode cX9_words 97 = .ok (.iconst 5, 1) := by decide +kernel
theorem dX9_words_98 : decode cX9_words 98 = .ok (.invokevirtual 268, 3) := by decide +kernel
theorem dX9_words_101 : decode cX9_words 101 = .ok (.i2l, 1) := by decide +kernel
theorem dX9_words_102 : decode cX9_words 102 = .ok (.lastore, 1) := by decide +kernel
theorem dX9_words_103 : decode cX9_words 103 = .ok (.aload_n 0, 1) := by decide +kernel
theorem dX9_words_104 : decode cX9_words 104 = .ok (.getfield 39, 3) := by decide +kernel
theorem dX9_words_107 : decode cX9_words 107 = .ok (.bipush 8, 2) := by decide +kernel
theorem dX9_words_109 : decode cX9_words 109 = .ok (.aload_n 0, 1) := by decide +kernel
theorem dX9_words_110 : decode cX9_words 110 = .ok (.getfield 42, 3) := by decide +kernel
theorem dX9_words_113 : decode cX9_words 113 = .ok (.iconst 4, 1) := by decide +kernel
theorem dX9_words_114 : decode cX9_words 114 = .ok (.iaload, 1) := by decide +kernel
theorem dX9_words_115 : decode cX9_words 115 = .ok (.i2l, 1) := by decide +kernel
theorem dX9_words_116 : decode cX9_words 116 = .ok (.lastore, 1) := by decide +kernel
theorem dX9_words_117 : decode cX9_words 117 = .ok (.return_, 1) := by decide +kernel
theorem dX9_work_0 : decode cX9_work 0 = .ok (.aload_n 0, 1) := by decide +kernel
theorem dX9_work_1 : decode cX9_work 1 = .ok (.bipush 6, 2) := by decide +kernel
theorem dX9_work_3 : decode cX9_work 3 = .ok (.putfield 140, 3) := by decide +kernel
theorem dX9_work_6 : decode cX9_work 6 = .ok (.aload_n 0, 1) := by decide +kernel
theorem dX9_work_7 : decode cX9_work 7 = .ok (.iconst (-1), 1) := by decide +kernel
theorem dX9_work_8 : decode cX9_work 8 = .ok (.putfield 212, 3) := by decide +kernel
theorem dX9_work_11 : decode cX9_work 11 = .ok (.aload_n 0, 1) := by decide +kernel
theorem dX9_work_12 : decode cX9_work 12 = .ok (.iconst 0, 1) := by decide +kernel
theorem dX9_work_13 : decode cX9_work 13 = .ok (.putfield 215, 3) := by decide +kernel
theorem dX9_work_16 : decode cX9_work 16 = .ok (.aload_n 0, 1) := by decide +kernel
theorem dX9_work_17 : decode cX9_work 17 = .ok (.iconst 0, 1) := by decide +kernel
theorem dX9_work_18 : decode cX9_work 18 = .ok (.putfield 218, 3) := by decide +kernel
theorem dX9_work_21 : decode cX9_work 21 = .ok (.aload_n 0, 1) := by decide +kernel
theorem dX9_work_22 : decode cX9_work 22 = .ok (.invokevirtual 250, 3) := by decide +kernel
theorem dX9_work_25 : decode cX9_work 25 = .ok (.ifCond .ne 11, 3) := by decide +kernel
theorem dX9_work_28 : decode cX9_work 28 = .ok (.bipush (-2), 2) := by decide +kernel
theorem dX9_work_30 : decode cX9_work 30 = .ok (.aload_n 0, 1) := by decide +kernel
theorem dX9_work_31 : decode cX9_work 31 = .ok (.getfield 87, 3) := by decide +kernel
theorem dX9_work_34 : decode cX9_work 34 = .ok (.isub, 1) := by decide +kernel
theorem dX9_work_35 : decode cX9_work 35 = .ok (.ireturn, 1) := by decide +kernel
theorem dX9_work_36 : decode cX9_work 36 = .ok (.aload_n 0, 1) := by decide +kernel
theorem dX9_work_37 : decode cX9_work 37 = .ok (.getfield 42, 3) := by decide +kernel
theorem dX9_work_40 : decode cX9_work 40 = .ok (.iconst 0, 1) := by decide +kernel
theorem dX9_work_41 : decode cX9_work 41 = .ok (.aload_n 0, 1) := by decide +kernel
theorem dX9_work_42 : decode cX9_work 42 = .ok (.getfield 218, 3) := by decide +kernel
theorem dX9_work_45 : decode cX9_work 45 = .ok (.iastore, 1) := by decide +kernel
theorem dX9_work_46 : decode cX9_work 46 = .ok (.aload_n 0, 1) := by decide +kernel
theorem dX9_work_47 : decode cX9_work 47 = .ok (.getfield 42, 3) := by decide +kernel
theorem dX9_work_50 : decode cX9_work 50 = .ok (.iconst 1, 1) := by decide +kernel
theorem dX9_work_51 : decode cX9_work 51 = .ok (.aload_n 0, 1) := by decide +kernel
theorem dX9_work_52 : decode cX9_work 52 = .ok (.getfield 215, 3) := by decide +kernel
theorem dX9_work_55 : decode cX9_work 55 = .ok (.iastore, 1) := by decide +kernel
theorem dX9_work_56 : decode cX9_work 56 = .ok (.aload_n 0, 1) := by decide +kernel
theorem dX9_work_57 : decode cX9_work 57 = .ok (.getfield 42, 3) := by decide +kernel
theorem dX9_work_60 : decode cX9_work 60 = .ok (.iconst 2, 1) := by decide +kernel
theorem dX9_work_61 : decode cX9_work 61 = .ok (.aload_n 0, 1) := by decide +kernel
theorem dX9_work_62 : decode cX9_work 62 = .ok (.getfield 212, 3) := by decide +kernel
theorem dX9_work_65 : decode cX9_work 65 = .ok (.ifCond .ge 8, 3) := by decide +kernel
theorem dX9_work_68 : decode cX9_work 68 = .ok (.bipush 60, 2) := by decide +kernel
theorem dX9_work_70 : decode cX9_work 70 = .ok (.goto 7, 3) := by decide +kernel
theorem dX9_work_73 : decode cX9_work 73 = .ok (.aload_n 0, 1) := by decide +kernel
theorem dX9_work_74 : decode cX9_work 74 = .ok (.getfield 212, 3) := by decide +kernel
theorem dX9_work_77 : decode cX9_work 77 = .ok (.iastore, 1) := by decide +kernel
theorem dX9_work_78 : decode cX9_work 78 = .ok (.aload_n 0, 1) := by decide +kernel
theorem dX9_work_79 : decode cX9_work 79 = .ok (.getfield 42, 3) := by decide +kernel
theorem dX9_work_82 : decode cX9_work 82 = .ok (.iconst 3, 1) := by decide +kernel
theorem dX9_work_83 : decode cX9_work 83 = .ok (.aload_n 0, 1) := by decide +kernel
theorem dX9_work_84 : decode cX9_work 84 = .ok (.getfield 42, 3) := by decide +kernel
theorem dX9_work_87 : decode cX9_work 87 = .ok (.iconst 2, 1) := by decide +kernel
theorem dX9_work_88 : decode cX9_work 88 = .ok (.iaload, 1) := by decide +kernel
theorem dX9_work_89 : decode cX9_work 89 = .ok (.iastore, 1) := by decide +kernel
theorem dX9_work_90 : decode cX9_work 90 = .ok (.iconst 4, 1) := by decide +kernel
theorem dX9_work_91 : decode cX9_work 91 = .ok (.istore_n 1, 1) := by decide +kernel
theorem dX9_work_92 : decode cX9_work 92 = .ok (.iload_n 1, 1) := by decide +kernel
theorem dX9_work_93 : decode cX9_work 93 = .ok (.bipush 9, 2) := by decide +kernel
theorem dX9_work_95 : decode cX9_work 95 = .ok (.if_icmp .ge 16, 3) := by decide +kernel
theorem dX9_work_98 : decode cX9_work 98 = .ok (.aload_n 0, 1) := by decide +kernel
theorem dX9_work_99 : decode cX9_work 99 = .ok (.getfield 42, 3) := by decide +kernel
theorem dX9_work_102 : decode cX9_work 102 = .ok (.iload_n 1, 1) := by decide +kernel
theorem dX9_work_103 : decode cX9_work 103 = .ok (.iconst 0, 1) := by decide +kernel
theorem dX9_work_104 : decode cX9_work 104 = .ok (.iastore, 1) := by decide +kernel
theorem dX9_work_105 : decode cX9_work 105 = .ok (.iinc 1 1, 3) := by decide +kernel
theorem dX9_work_108 : decode cX9_work 108 = .ok (.goto (-16), 3) := by decide +kernel
theorem dX9_work_111 : decode cX9_work 111 = .ok (.iconst 0, 1) := by decide +kernel
theorem dX9_work_112 : decode cX9_work 112 = .ok (.istore_n 1, 1) := by decide +kernel
theorem dX9_work_113 : decode cX9_work 113 = .ok (.iload_n 1, 1) := by decide +kernel
theorem dX9_work_114 : decode cX9_work 114 = .ok (.iconst 3, 1) := by decide +kernel
theorem dX9_work_115 : decode cX9_work 115 = .ok (.aload_n 0, 1) := by decide +kernel
theorem dX9_work_116 : decode cX9_work 116 = .ok (.getfield 215, 3) := by decide +kernel
theorem dX9_work_119 : decode cX9_work 119 = .ok (.imul, 1) := by decide +kernel
theorem dX9_work_120 : decode cX9_work 120 = .ok (.if_icmp .ge 24, 3) := by decide +kernel
theorem dX9_work_123 : decode cX9_work 123 = .ok (.aload_n 0, 1) := by decide +kernel
theorem dX9_work_124 : decode cX9_work 124 = .ok (.getfield 42, 3) := by decide +kernel
theorem dX9_work_127 : decode cX9_work 127 = .ok (.bipush 26, 2) := by decide +kernel
theorem dX9_work_129 : decode cX9_work 129 = .ok (.iload_n 1, 1) := by decide +kernel
theorem dX9_work_130 : decode cX9_work 130 = .ok (.iadd, 1) := by decide +kernel
theorem dX9_work_131 : decode cX9_work 131 = .ok (.aload_n 0, 1) := by decide +kernel
theorem dX9_work_132 : decode cX9_work 132 = .ok (.getfield 26, 3) := by decide +kernel
theorem dX9_work_135 : decode cX9_work 135 = .ok (.iload_n 1, 1) := by decide +kernel
theorem dX9_work_136 : decode cX9_work 136 = .ok (.iaload, 1) := by decide +kernel
theorem dX9_work_137 : decode cX9_work 137 = .ok (.iastore, 1) := by decide +kernel
theorem dX9_work_138 : decode cX9_work 138 = .ok (.iinc 1 1, 3) := by decide +kernel
theorem dX9_work_141 : decode cX9_work 141 = .ok (.goto (-28), 3) := by decide +kernel
theorem dX9_work_144 : decode cX9_work 144 = .ok (.iconst 0, 1) := by decide +kernel
theorem dX9_work_145 : decode cX9_work 145 = .ok (.istore_n 1, 1) := by decide +kernel
theorem dX9_work_146 : decode cX9_work 146 = .ok (.iload_n 1, 1) := by decide +kernel
theorem dX9_work_147 : decode cX9_work 147 = .ok (.aload_n 0, 1) := by decide +kernel
theorem dX9_work_148 : decode cX9_work 148 = .ok (.getfield 218, 3) := by decide +kernel
theorem dX9_work_151 : decode cX9_work 151 = .ok (.if_icmp .ge 76, 3) := by decide +kernel
theorem dX9_work_154 : decode cX9_work 154 = .ok (.iconst 0, 1) := by decide +kernel
theorem dX9_work_155 : decode cX9_work 155 = .ok (.istore_n 2, 1) := by decide +kernel
theorem dX9_work_156 : decode cX9_work 156 = .ok (.iload_n 2, 1) := by decide +kernel
theorem dX9_work_157 : decode cX9_work 157 = .ok (.iconst 4, 1) := by decide +kernel
theorem dX9_work_158 : decode cX9_work 158 = .ok (.if_icmp .ge 33, 3) := by decide +kernel
theorem dX9_work_161 : decode cX9_work 161 = .ok (.aload_n 0, 1) := by decide +kernel
theorem dX9_work_162 : decode cX9_work 162 = .ok (.getfield 42, 3) := by decide +kernel
theorem dX9_work_165 : decode cX9_work 165 = .ok (.bipush 44, 2) := by decide +kernel
theorem dX9_work_167 : decode cX9_work 167 = .ok (.bipush 6, 2) := by decide +kernel
theorem dX9_work_169 : decode cX9_work 169 = .ok (.iload_n 1, 1) := by decide +kernel
theorem dX9_work_170 : decode cX9_work 170 = .ok (.imul, 1) := by decide +kernel
theorem dX9_work_171 : decode cX9_work 171 = .ok (.iadd, 1) := by decide +kernel
theorem dX9_work_172 : decode cX9_work 172 = .ok (.iload_n 2, 1) := by decide +kernel
theorem dX9_work_173 : decode cX9_work 173 = .ok (.iadd, 1) := by decide +kernel
theorem dX9_work_174 : decode cX9_work 174 = .ok (.aload_n 0, 1) := by decide +kernel
theorem dX9_work_175 : decode cX9_work 175 = .ok (.getfield 29, 3) := by decide +kernel
theorem dX9_work_178 : decode cX9_work 178 = .ok (.iconst 4, 1) := by decide +kernel
theorem dX9_work_179 : decode cX9_work 179 = .ok (.iload_n 1, 1) := by decide +kernel
theorem dX9_work_180 : decode cX9_work 180 = .ok (.imul, 1) := by decide +kernel
theorem dX9_work_181 : decode cX9_work 181 = .ok (.iload_n 2, 1) := by decide +kernel
theorem dX9_work_182 : decode cX9_work 182 = .ok (.iadd, 1) := by decide +kernel
theorem dX9_work_183 : decode cX9_work 183 = .ok (.iaload, 1) := by decide +kernel
theorem dX9_work_184 : decode cX9_work 184 = .ok (.iastore, 1) := by decide +kernel
theorem dX9_work_185 : decode cX9_work 185 = .ok (.iinc 2 1, 3) := by decide +kernel
theorem dX9_work_188 : decode cX9_work 188 = .ok (.goto (-32), 3) := by decide +kernel
theorem dX9_work_191 : decode cX9_work 191 = .ok (.aload_n 0, 1) := by decide +kernel
theorem dX9_work_192 : decode cX9_work 192 = .ok (.getfield 42, 3) := by decide +kernel
theorem dX9_work_195 : decode cX9_work 195 = .ok (.bipush 44, 2) := by decide +kernel
theorem dX9_work_197 : decode cX9_work 197 = .ok (.bipush 6, 2) := by decide +kernel
theorem dX9_work_199 : decode cX9_work 199 = .ok (.iload_n 1, 1) := by decide +kernel
theorem dX9_work_200 : decode cX9_work 200 = .ok (.imul, 1) := by decide +kernel
theorem dX9_work_201 : decode cX9_work 201 = .ok (.iadd, 1) := by decide +kernel
theorem dX9_work_202 : decode cX9_work 202 = .ok (.iconst 4, 1) := by decide +kernel
theorem dX9_work_203 : decode cX9_work 203 = .ok (.iadd, 1) := by decide +kernel
theorem dX9_work_204 : decode cX9_work 204 = .ok (.iconst 0, 1) := by decide +kernel
theorem dX9_work_205 : decode cX9_work 205 = .ok (.iastore, 1) := by decide +kernel
theorem dX9_work_206 : decode cX9_work 206 = .ok (.aload_n 0, 1) := by decide +kernel
theorem dX9_work_207 : decode cX9_work 207 = .ok (.getfield 42, 3) := by decide +kernel
theorem dX9_work_210 : decode cX9_work 210 = .ok (.bipush 44, 2) := by decide +kernel
theorem dX9_work_212 : decode cX9_work 212 = .ok (.bipush 6, 2) := by decide +kernel
theorem dX9_work_214 : decode cX9_work 214 = .ok (.iload_n 1, 1) := by decide +kernel
theorem dX9_work_215 : decode cX9_work 215 = .ok (.imul, 1) := by decide +kernel
theorem dX9_work_216 : decode cX9_work 216 = .ok (.iadd, 1) := by decide +kernel
theorem dX9_work_217 : decode cX9_work 217 = .ok (.iconst 5, 1) := by decide +kernel
theorem dX9_work_218 : decode cX9_work 218 = .ok (.iadd, 1) := by decide +kernel
theorem dX9_work_219 : decode cX9_work 219 = .ok (.iconst 0, 1) := by decide +kernel
theorem dX9_work_220 : decode cX9_work 220 = .ok (.iastore, 1) := by decide +kernel
theorem dX9_work_221 : decode cX9_work 221 = .ok (.iinc 1 1, 3) := by decide +kernel
theorem dX9_work_224 : decode cX9_work 224 = .ok (.goto (-78), 3) := by decide +kernel
theorem dX9_work_227 : decode cX9_work 227 = .ok (.aload_n 0, 1) := by decide +kernel
theorem dX9_work_228 : decode cX9_work 228 = .ok (.getfield 218, 3) := by decide +kernel
theorem dX9_work_231 : decode cX9_work 231 = .ok (.ireturn, 1) := by decide +kernel
theorem dX9_worth_0 : decode cX9_worth 0 = .ok (.aload_n 0, 1) := by decide +kernel
theorem dX9_worth_1 : decode cX9_worth 1 = .ok (.invokevirtual 301, 3) := by decide +kernel
theorem dX9_worth_4 : decode cX9_worth 4 = .ok (.ifCond .eq 13, 3) := by decide +kernel
theorem dX9_worth_7 : decode cX9_worth 7 = .ok (.iload_n 1, 1) := by decide +kernel
theorem dX9_worth_8 : decode cX9_worth 8 = .ok (.i2l, 1) := by decide +kernel
theorem dX9_worth_9 : decode cX9_worth 9 = .ok (.lconst 0, 1) := by decide +kernel
theorem dX9_worth_10 : decode cX9_worth 10 = .ok (.lconst 1, 1) := by decide +kernel
theorem dX9_worth_11 : decode cX9_worth 11 = .ok (.invokestatic 118, 3) := by decide +kernel
theorem dX9_worth_14 : decode cX9_worth 14 = .ok (.ifCond .ne 7, 3) := by decide +kernel
theorem dX9_worth_17 : decode cX9_worth 17 = .ok (.ldc2_w 362, 3) := by decide +kernel
theorem dX9_worth_20 : decode cX9_worth 20 = .ok (.lreturn, 1) := by decide +kernel
theorem dX9_worth_21 : decode cX9_worth 21 = .ok (.aload_n 0, 1) := by decide +kernel
theorem dX9_worth_22 : decode cX9_worth 22 = .ok (.aload_n 0, 1) := by decide +kernel
theorem dX9_worth_23 : decode cX9_worth 23 = .ok (.iconst (-1), 1) := by decide +kernel
theorem dX9_worth_24 : decode cX9_worth 24 = .ok (.invokevirtual 364, 3) := by decide +kernel
theorem dX9_worth_27 : decode cX9_worth 27 = .ok (.aload_n 0, 1) := by decide +kernel
theorem dX9_worth_28 : decode cX9_worth 28 = .ok (.aload_n 0, 1) := by decide +kernel
theorem dX9_worth_29 : decode cX9_worth 29 = .ok (.getfield 42, 3) := by decide +kernel
theorem dX9_worth_32 : decode cX9_worth 32 = .ok (.bipush 8, 2) := by decide +kernel
theorem dX9_worth_34 : decode cX9_worth 34 = .ok (.iaload, 1) := by decide +kernel
theorem dX9_worth_35 : decode cX9_worth 35 = .ok (.invokevirtual 367, 3) := by decide +kernel
theorem dX9_worth_38 : decode cX9_worth 38 = .ok (.iload_n 1, 1) := by decide +kernel
theorem dX9_worth_39 : decode cX9_worth 39 = .ok (.invokevirtual 370, 3) := by decide +kernel
theorem dX9_worth_42 : decode cX9_worth 42 = .ok (.lreturn, 1) := by decide +kernel
theorem dX9_would_0 : decode cX9_would 0 = .ok (.aload_n 0, 1) := by decide +kernel
theorem dX9_would_1 : decode cX9_would 1 = .ok (.invokevirtual 301, 3) := by decide +kernel
theorem dX9_would_4 : decode cX9_would 4 = .ok (.ifCond .eq 23, 3) := by decide +kernel
theorem dX9_would_7 : decode cX9_would 7 = .ok (.aload_n 0, 1) := by decide +kernel
theorem dX9_would_8 : decode cX9_would 8 = .ok (.iload_n 1, 1) := by decide +kernel
theorem dX9_would_9 : decode cX9_would 9 = .ok (.invokevirtual 335, 3) := by decide +kernel
theorem dX9_would_12 : decode cX9_would 12 = .ok (.ifCond .eq 15, 3) := by decide +kernel
theorem dX9_would_15 : decode cX9_would 15 = .ok (.iload_n 2, 1) := by decide +kernel
theorem dX9_would_16 : decode cX9_would 16 = .ok (.i2l, 1) := by decide +kernel
theorem dX9_would_17 : decode cX9_would 17 = .ok (.lconst 0, 1) := by decide +kernel
theorem dX9_would_18 : decode cX9_would 18 = .ok (.ldc2_w 341, 3) := by decide +kernel
theorem dX9_would_21 : decode cX9_would 21 = .ok (.invokestatic 118, 3) := by decide +kernel
theorem dX9_would_24 : decode cX9_would 24 = .ok (.ifCond .ne 7, 3) := by decide +kernel
theorem dX9_would_27 : decode cX9_would 27 = .ok (.ldc_w 306, 3) := by decide +kernel
theorem dX9_would_30 : decode cX9_would 30 = .ok (.ireturn, 1) := by decide +kernel
theorem dX9_would_31 : decode cX9_would 31 = .ok (.aload_n 0, 1) := by decide +kernel
theorem dX9_would_32 : decode cX9_would 32 = .ok (.invokevirtual 343, 3) := by decide +kernel
theorem dX9_would_35 : decode cX9_would 35 = .ok (.aload_n 0, 1) := by decide +kernel
theorem dX9_would_36 : decode cX9_would 36 = .ok (.iload_n 1, 1) := by decide +kernel
theorem dX9_would_37 : decode cX9_would 37 = .ok (.invokevirtual 338, 3) := by decide +kernel
theorem dX9_would_40 : decode cX9_would 40 = .ok (.istore_n 3, 1) := by decide +kernel
theorem dX9_would_41 : decode cX9_would 41 = .ok (.iload_n 2, 1) := by decide +kernel
theorem dX9_would_42 : decode cX9_would 42 = .ok (.ifCond .ne 19, 3) := by decide +kernel
theorem dX9_would_45 : decode cX9_would 45 = .ok (.aload_n 0, 1) := by decide +kernel
theorem dX9_would_46 : decode cX9_would 46 = .ok (.getfield 42, 3) := by decide +kernel
theorem dX9_would_49 : decode cX9_would 49 = .ok (.iconst 4, 1) := by decide +kernel
theorem dX9_would_50 : decode cX9_would 50 = .ok (.iaload, 1) := by decide +kernel
theorem dX9_would_51 : decode cX9_would 51 = .ok (.aload_n 0, 1) := by decide +kernel
theorem dX9_would_52 : decode cX9_would 52 = .ok (.getfield 45, 3) := by decide +kernel
theorem dX9_would_55 : decode cX9_would 55 = .ok (.iconst 4, 1) := by decide +kernel
theorem dX9_would_56 : decode cX9_would 56 = .ok (.iaload, 1) := by decide +kernel
theorem dX9_would_57 : decode cX9_would 57 = .ok (.isub, 1) := by decide +kernel
theorem dX9_would_58 : decode cX9_would 58 = .ok (.goto 43, 3) := by decide +kernel
theorem dX9_would_61 : decode cX9_would 61 = .ok (.iload_n 2, 1) := by decide +kernel
theorem dX9_would_62 : decode cX9_would 62 = .ok (.iconst 1, 1) := by decide +kernel
theorem dX9_would_63 : decode cX9_would 63 = .ok (.if_icmp .ne 11, 3) := by decide +kernel
theorem dX9_would_66 : decode cX9_would 66 = .ok (.aload_n 0, 1) := by decide +kernel
theorem dX9_would_67 : decode cX9_would 67 = .ok (.iconst 1, 1) := by decide +kernel
theorem dX9_would_68 : decode cX9_would 68 = .ok (.invokevirtual 313, 3) := by decide +kernel
theorem dX9_would_71 : decode cX9_would 71 = .ok (.goto 30, 3) := by decide +kernel
theorem dX9_would_74 : decode cX9_would 74 = .ok (.iload_n 2, 1) := by decide +kernel
theorem dX9_would_75 : decode cX9_would 75 = .ok (.iconst 2, 1) := by decide +kernel
theorem dX9_would_76 : decode cX9_would 76 = .ok (.if_icmp .ne 12, 3) := by decide +kernel
theorem dX9_would_79 : decode cX9_would 79 = .ok (.aload_n 0, 1) := by decide +kernel
theorem dX9_would_80 : decode cX9_would 80 = .ok (.getfield 42, 3) := by decide +kernel
theorem dX9_would_83 : decode cX9_would 83 = .ok (.iconst 3, 1) := by decide +kernel
theorem dX9_would_84 : decode cX9_would 84 = .ok (.iaload, 1) := by decide +kernel
theorem dX9_would_85 : decode cX9_would 85 = .ok (.goto 16, 3) := by decide +kernel
theorem dX9_would_88 : decode cX9_would 88 = .ok (.iload_n 2, 1) := by decide +kernel
theorem dX9_would_89 : decode cX9_would 89 = .ok (.iconst 3, 1) := by decide +kernel
theorem dX9_would_90 : decode cX9_would 90 = .ok (.if_icmp .ne 10, 3) := by decide +kernel
theorem dX9_would_93 : decode cX9_would 93 = .ok (.aload_n 0, 1) := by decide +kernel
theorem dX9_would_94 : decode cX9_would 94 = .ok (.invokevirtual 307, 3) := by decide +kernel
theorem dX9_would_97 : decode cX9_would 97 = .ok (.goto 4, 3) := by decide +kernel
theorem dX9_would_100 : decode cX9_would 100 = .ok (.iload_n 3, 1) := by decide +kernel
theorem dX9_would_101 : decode cX9_would 101 = .ok (.istore 4, 2) := by decide +kernel
theorem dX9_would_103 : decode cX9_would 103 = .ok (.aload_n 0, 1) := by decide +kernel
theorem dX9_would_104 : decode cX9_would 104 = .ok (.invokevirtual 346, 3) := by decide +kernel
theorem dX9_would_107 : decode cX9_would 107 = .ok (.iload 4, 2) := by decide +kernel
theorem dX9_would_109 : decode cX9_would 109 = .ok (.ireturn, 1) := by decide +kernel

