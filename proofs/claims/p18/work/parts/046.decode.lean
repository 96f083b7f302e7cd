theorem dX8_rests_52 : decode cX8_rests 52 = .ok (.invokestatic 129, 3) := by decide +kernel
theorem dX8_rests_55 : decode cX8_rests 55 = .ok (.aload_n 0, 1) := by decide +kernel
theorem dX8_rests_56 : decode cX8_rests 56 = .ok (.getfield 39, 3) := by decide +kernel
theorem dX8_rests_59 : decode cX8_rests 59 = .ok (.getfield 283, 3) := by decide +kernel
theorem dX8_rests_62 : decode cX8_rests 62 = .ok (.iconst 4, 1) := by decide +kernel
theorem dX8_rests_63 : decode cX8_rests 63 = .ok (.iload_n 2, 1) := by decide +kernel
theorem dX8_rests_64 : decode cX8_rests 64 = .ok (.iconst 1, 1) := by decide +kernel
theorem dX8_rests_65 : decode cX8_rests 65 = .ok (.ixor, 1) := by decide +kernel
theorem dX8_rests_66 : decode cX8_rests 66 = .ok (.iadd, 1) := by decide +kernel
theorem dX8_rests_67 : decode cX8_rests 67 = .ok (.invokestatic 129, 3) := by decide +kernel
theorem dX8_rests_70 : decode cX8_rests 70 = .ok (.if_icmp .lt 7, 3) := by decide +kernel
theorem dX8_rests_73 : decode cX8_rests 73 = .ok (.iconst 1, 1) := by decide +kernel
theorem dX8_rests_74 : decode cX8_rests 74 = .ok (.goto 4, 3) := by decide +kernel
theorem dX8_rests_77 : decode cX8_rests 77 = .ok (.iconst 0, 1) := by decide +kernel
theorem dX8_rests_78 : decode cX8_rests 78 = .ok (.istore 4, 2) := by decide +kernel
theorem dX8_rests_80 : decode cX8_rests 80 = .ok (.iload_n 3, 1) := by decide +kernel
theorem dX8_rests_81 : decode cX8_rests 81 = .ok (.ifCond .eq 14, 3) := by decide +kernel
theorem dX8_rests_84 : decode cX8_rests 84 = .ok (.iload 4, 2) := by decide +kernel
theorem dX8_rests_86 : decode cX8_rests 86 = .ok (.ifCond .eq 9, 3) := by decide +kernel
theorem dX8_rests_89 : decode cX8_rests 89 = .ok (.iload_n 1, 1) := by decide +kernel
theorem dX8_rests_90 : decode cX8_rests 90 = .ok (.iconst 1, 1) := by decide +kernel
theorem dX8_rests_91 : decode cX8_rests 91 = .ok (.iload_n 2, 1) := by decide +kernel
theorem dX8_rests_92 : decode cX8_rests 92 = .ok (.ishl, 1) := by decide +kernel
theorem dX8_rests_93 : decode cX8_rests 93 = .ok (.ior, 1) := by decide +kernel
theorem dX8_rests_94 : decode cX8_rests 94 = .ok (.istore_n 1, 1) := by decide +kernel
theorem dX8_rests_95 : decode cX8_rests 95 = .ok (.iinc 2 1, 3) := by decide +kernel
theorem dX8_rests_98 : decode cX8_rests 98 = .ok (.goto (-94), 3) := by decide +kernel
theorem dX8_rests_101 : decode cX8_rests 101 = .ok (.iload_n 1, 1) := by decide +kernel
theorem dX8_rests_102 : decode cX8_rests 102 = .ok (.ireturn, 1) := by decide +kernel
theorem dX8_row_0 : decode cX8_row 0 = .ok (.iload_n 1, 1) := by decide +kernel
theorem dX8_row_1 : decode cX8_row 1 = .ok (.iconst (-1), 1) := by decide +kernel
theorem dX8_row_2 : decode cX8_row 2 = .ok (.if_icmp .ne 13, 3) := by decide +kernel
theorem dX8_row_5 : decode cX8_row 5 = .ok (.aload_n 0, 1) := by decide +kernel
theorem dX8_row_6 : decode cX8_row 6 = .ok (.getfield 39, 3) := by decide +kernel
theorem dX8_row_9 : decode cX8_row 9 = .ok (.iconst 0, 1) := by decide +kernel
theorem dX8_row_10 : decode cX8_row 10 = .ok (.putfield 187, 3) := by decide +kernel
theorem dX8_row_13 : decode cX8_row 13 = .ok (.iconst 0, 1) := by decide +kernel
theorem dX8_row_14 : decode cX8_row 14 = .ok (.ireturn, 1) := by decide +kernel
theorem dX8_row_15 : decode cX8_row 15 = .ok (.aload_n 0, 1) := by decide +kernel
theorem dX8_row_16 : decode cX8_row 16 = .ok (.iload_n 1, 1) := by decide +kernel
theorem dX8_row_17 : decode cX8_row 17 = .ok (.invokevirtual 139, 3) := by decide +kernel
theorem dX8_row_20 : decode cX8_row 20 = .ok (.ifCond .eq 15, 3) := by decide +kernel
theorem dX8_row_23 : decode cX8_row 23 = .ok (.aload_n 0, 1) := by decide +kernel
theorem dX8_row_24 : decode cX8_row 24 = .ok (.getfield 39, 3) := by decide +kernel
theorem dX8_row_27 : decode cX8_row 27 = .ok (.getfield 187, 3) := by decide +kernel
theorem dX8_row_30 : decode cX8_row 30 = .ok (.bipush 8, 2) := by decide +kernel
theorem dX8_row_32 : decode cX8_row 32 = .ok (.if_icmp .lt 6, 3) := by decide +kernel
theorem dX8_row_35 : decode cX8_row 35 = .ok (.bipush (-2), 2) := by decide +kernel
theorem dX8_row_37 : decode cX8_row 37 = .ok (.ireturn, 1) := by decide +kernel
theorem dX8_row_38 : decode cX8_row 38 = .ok (.aload_n 0, 1) := by decide +kernel
theorem dX8_row_39 : decode cX8_row 39 = .ok (.getfield 39, 3) := by decide +kernel
theorem dX8_row_42 : decode cX8_row 42 = .ok (.getfield 240, 3) := by decide +kernel
theorem dX8_row_45 : decode cX8_row 45 = .ok (.aload_n 0, 1) := by decide +kernel
theorem dX8_row_46 : decode cX8_row 46 = .ok (.getfield 39, 3) := by decide +kernel
theorem dX8_row_49 : decode cX8_row 49 = .ok (.getfield 187, 3) := by decide +kernel
theorem dX8_row_52 : decode cX8_row 52 = .ok (.iload_n 1, 1) := by decide +kernel
theorem dX8_row_53 : decode cX8_row 53 = .ok (.invokestatic 78, 3) := by decide +kernel
theorem dX8_row_56 : decode cX8_row 56 = .ok (.aload_n 0, 1) := by decide +kernel
theorem dX8_row_57 : decode cX8_row 57 = .ok (.getfield 39, 3) := by decide +kernel
theorem dX8_row_60 : decode cX8_row 60 = .ok (.dup, 1) := by decide +kernel
theorem dX8_row_61 : decode cX8_row 61 = .ok (.getfield 187, 3) := by decide +kernel
theorem dX8_row_64 : decode cX8_row 64 = .ok (.iconst 1, 1) := by decide +kernel
theorem dX8_row_65 : decode cX8_row 65 = .ok (.iadd, 1) := by decide +kernel
theorem dX8_row_66 : decode cX8_row 66 = .ok (.putfield 187, 3) := by decide +kernel
theorem dX8_row_69 : decode cX8_row 69 = .ok (.aload_n 0, 1) := by decide +kernel
theorem dX8_row_70 : decode cX8_row 70 = .ok (.getfield 39, 3) := by decide +kernel
theorem dX8_row_73 : decode cX8_row 73 = .ok (.getfield 187, 3) := by decide +kernel
theorem dX8_row_76 : decode cX8_row 76 = .ok (.ireturn, 1) := by decide +kernel
theorem dX8_rowMean_0 : decode cX8_rowMean 0 = .ok (.iload_n 1, 1) := by decide +kernel
theorem dX8_rowMean_1 : decode cX8_rowMean 1 = .ok (.aload_n 0, 1) := by decide +kernel
theorem dX8_rowMean_2 : decode cX8_rowMean 2 = .ok (.getfield 39, 3) := by decide +kernel
theorem dX8_rowMean_5 : decode cX8_rowMean 5 = .ok (.getfield 187, 3) := by decide +kernel
theorem dX8_rowMean_8 : decode cX8_rowMean 8 = .ok (.if_icmp .ge 9, 3) := by decide +kernel
theorem dX8_rowMean_11 : decode cX8_rowMean 11 = .ok (.iload_n 1, 1) := by decide +kernel
theorem dX8_rowMean_12 : decode cX8_rowMean 12 = .ok (.bipush 8, 2) := by decide +kernel
theorem dX8_rowMean_14 : decode cX8_rowMean 14 = .ok (.if_icmp .lt 5, 3) := by decide +kernel
theorem dX8_rowMean_17 : decode cX8_rowMean 17 = .ok (.lconst 0, 1) := by decide +kernel
theorem dX8_rowMean_18 : decode cX8_rowMean 18 = .ok (.lreturn, 1) := by decide +kernel
theorem dX8_rowMean_19 : decode cX8_rowMean 19 = .ok (.aload_n 0, 1) := by decide +kernel
theorem dX8_rowMean_20 : decode cX8_rowMean 20 = .ok (.getfield 39, 3) := by decide +kernel
theorem dX8_rowMean_23 : decode cX8_rowMean 23 = .ok (.getfield 240, 3) := by decide +kernel
theorem dX8_rowMean_26 : decode cX8_rowMean 26 = .ok (.iload_n 1, 1) := by decide +kernel
theorem dX8_rowMean_27 : decode cX8_rowMean 27 = .ok (.invokestatic 129, 3) := by decide +kernel
theorem dX8_rowMean_30 : decode cX8_rowMean 30 = .ok (.istore 5, 2) := by decide +kernel
theorem dX8_rowMean_32 : decode cX8_rowMean 32 = .ok (.aload_n 0, 1) := by decide +kernel
theorem dX8_rowMean_33 : decode cX8_rowMean 33 = .ok (.getfield 39, 3) := by decide +kernel
theorem dX8_rowMean_36 : decode cX8_rowMean 36 = .ok (.getfield 119, 3) := by decide +kernel
theorem dX8_rowMean_39 : decode cX8_rowMean 39 = .ok (.getfield 149, 3) := by decide +kernel
theorem dX8_rowMean_42 : decode cX8_rowMean 42 = .ok (.iload 5, 2) := by decide +kernel
theorem dX8_rowMean_44 : decode cX8_rowMean 44 = .ok (.invokestatic 129, 3) := by decide +kernel
theorem dX8_rowMean_47 : decode cX8_rowMean 47 = .ok (.istore 6, 2) := by decide +kernel
theorem dX8_rowMean_49 : decode cX8_rowMean 49 = .ok (.aload_n 0, 1) := by decide +kernel
theorem dX8_rowMean_50 : decode cX8_rowMean 50 = .ok (.getfield 39, 3) := by decide +kernel
theorem dX8_rowMean_53 : decode cX8_rowMean 53 = .ok (.getfield 119, 3) := by decide +kernel
theorem dX8_rowMean_56 : decode cX8_rowMean 56 = .ok (.iload 5, 2) := by decide +kernel
theorem dX8_rowMean_58 : decode cX8_rowMean 58 = .ok (.iload_n 2, 1) := by decide +kernel
theorem dX8_rowMean_59 : decode cX8_rowMean 59 = .ok (.invokevirtual 175, 3) := by decide +kernel
theorem dX8_rowMean_62 : decode cX8_rowMean 62 = .ok (.ifCond .eq 9, 3) := by decide +kernel
theorem dX8_rowMean_65 : decode cX8_rowMean 65 = .ok (.iload 6, 2) := by decide +kernel
theorem dX8_rowMean_67 : decode cX8_rowMean 67 = .ok (.iload_n 3, 1) := by decide +kernel
theorem dX8_rowMean_68 : decode cX8_rowMean 68 = .ok (.if_icmp .le 19, 3) := by decide +kernel
theorem dX8_rowMean_71 : decode cX8_rowMean 71 = .ok (.ldc2_w 257, 3) := by decide +kernel
theorem dX8_rowMean_74 : decode cX8_rowMean 74 = .ok (.aload_n 0, 1) := by decide +kernel
theorem dX8_rowMean_75 : decode cX8_rowMean 75 = .ok (.iload_n 1, 1) := by decide +kernel
theorem dX8_rowMean_76 : decode cX8_rowMean 76 = .ok (.iconst 1, 1) := by decide +kernel
theorem dX8_rowMean_77 : decode cX8_rowMean 77 = .ok (.iadd, 1) := by decide +kernel
theorem dX8_rowMean_78 : decode cX8_rowMean 78 = .ok (.iload_n 2, 1) := by decide +kernel
theorem dX8_rowMean_79 : decode cX8_rowMean 79 = .ok (.iload_n 3, 1) := by decide +kernel
theorem dX8_rowMean_80 : decode cX8_rowMean 80 = .ok (.iload 4, 2) := by decide +kernel
theorem dX8_rowMean_82 : decode cX8_rowMean 82 = .ok (.invokevirtual 245, 3) := by decide +kernel
theorem dX8_rowMean_85 : decode cX8_rowMean 85 = .ok (.lmul, 1) := by decide +kernel
theorem dX8_rowMean_86 : decode cX8_rowMean 86 = .ok (.lreturn, 1) := by decide +kernel
theorem dX8_rowMean_87 : decode cX8_rowMean 87 = .ok (.aload_n 0, 1) := by decide +kernel
theorem dX8_rowMean_88 : decode cX8_rowMean 88 = .ok (.getfield 39, 3) := by decide +kernel
theorem dX8_rowMean_91 : decode cX8_rowMean 91 = .ok (.getfield 119, 3) := by decide +kernel
theorem dX8_rowMean_94 : decode cX8_rowMean 94 = .ok (.getfield 152, 3) := by decide +kernel
theorem dX8_rowMean_97 : decode cX8_rowMean 97 = .ok (.iload 5, 2) := by decide +kernel
theorem dX8_rowMean_99 : decode cX8_rowMean 99 = .ok (.invokestatic 129, 3) := by decide +kernel
theorem dX8_rowMean_102 : decode cX8_rowMean 102 = .ok (.istore 7, 2) := by decide +kernel
theorem dX8_rowMean_104 : decode cX8_rowMean 104 = .ok (.iload 4, 2) := by decide +kernel
theorem dX8_rowMean_106 : decode cX8_rowMean 106 = .ok (.iconst (-1), 1) := by decide +kernel
theorem dX8_rowMean_107 : decode cX8_rowMean 107 = .ok (.if_icmp .ne 21, 3) := by decide +kernel
theorem dX8_rowMean_110 : decode cX8_rowMean 110 = .ok (.aload_n 0, 1) := by decide +kernel
theorem dX8_rowMean_111 : decode cX8_rowMean 111 = .ok (.getfield 39, 3) := by decide +kernel
theorem dX8_rowMean_114 : decode cX8_rowMean 114 = .ok (.getfield 119, 3) := by decide +kernel
theorem dX8_rowMean_117 : decode cX8_rowMean 117 = .ok (.getfield 259, 3) := by decide +kernel
theorem dX8_rowMean_120 : decode cX8_rowMean 120 = .ok (.iload 5, 2) := by decide +kernel
theorem dX8_rowMean_122 : decode cX8_rowMean 122 = .ok (.invokestatic 129, 3) := by decide +kernel
theorem dX8_rowMean_125 : decode cX8_rowMean 125 = .ok (.goto 15, 3) := by decide +kernel
theorem dX8_rowMean_128 : decode cX8_rowMean 128 = .ok (.iload 5, 2) := by decide +kernel
theorem dX8_rowMean_130 : decode cX8_rowMean 130 = .ok (.iload 4, 2) := by decide +kernel
theorem dX8_rowMean_132 : decode cX8_rowMean 132 = .ok (.if_icmp .ne 7, 3) := by decide +kernel
theorem dX8_rowMean_135 : decode cX8_rowMean 135 = .ok (.iconst 1, 1) := by decide +kernel
theorem dX8_rowMean_136 : decode cX8_rowMean 136 = .ok (.goto 4, 3) := by decide +kernel
theorem dX8_rowMean_139 : decode cX8_rowMean 139 = .ok (.iconst 0, 1) := by decide +kernel
theorem dX8_rowMean_140 : decode cX8_rowMean 140 = .ok (.istore 8, 2) := by decide +kernel
theorem dX8_rowMean_142 : decode cX8_rowMean 142 = .ok (.iload 8, 2) := by decide +kernel
theorem dX8_rowMean_144 : decode cX8_rowMean 144 = .ok (.i2l, 1) := by decide +kernel
theorem dX8_rowMean_145 : decode cX8_rowMean 145 = .ok (.aload_n 0, 1) := by decide +kernel
theorem dX8_rowMean_146 : decode cX8_rowMean 146 = .ok (.getfield 39, 3) := by decide +kernel
theorem dX8_rowMean_149 : decode cX8_rowMean 149 = .ok (.getfield 187, 3) := by decide +kernel
theorem dX8_rowMean_152 : decode cX8_rowMean 152 = .ok (.iload_n 1, 1) := by decide +kernel
theorem dX8_rowMean_153 : decode cX8_rowMean 153 = .ok (.isub, 1) := by decide +kernel
theorem dX8_rowMean_154 : decode cX8_rowMean 154 = .ok (.iconst 1, 1) := by decide +kernel
theorem dX8_rowMean_155 : decode cX8_rowMean 155 = .ok (.isub, 1) := by decide +kernel
theorem dX8_rowMean_156 : decode cX8_rowMean 156 = .ok (.invokestatic 249, 3) := by decide +kernel
theorem dX8_rowMean_159 : decode cX8_rowMean 159 = .ok (.lmul, 1) := by decide +kernel
theorem dX8_rowMean_160 : decode cX8_rowMean 160 = .ok (.aload_n 0, 1) := by decide +kernel
theorem dX8_rowMean_161 : decode cX8_rowMean 161 = .ok (.iload_n 1, 1) := by decide +kernel
theorem dX8_rowMean_162 : decode cX8_rowMean 162 = .ok (.iconst 1, 1) := by decide +kernel
theorem dX8_rowMean_163 : decode cX8_rowMean 163 = .ok (.iadd, 1) := by decide +kernel
theorem dX8_rowMean_164 : decode cX8_rowMean 164 = .ok (.iload_n 2, 1) := by decide +kernel
theorem dX8_rowMean_165 : decode cX8_rowMean 165 = .ok (.iload 5, 2) := by decide +kernel
theorem dX8_rowMean_167 : decode cX8_rowMean 167 = .ok (.invokestatic 216, 3) := by decide +kernel
theorem dX8_rowMean_170 : decode cX8_rowMean 170 = .ok (.ior, 1) := by decide +kernel
theorem dX8_rowMean_171 : decode cX8_rowMean 171 = .ok (.iload_n 3, 1) := by decide +kernel
theorem dX8_rowMean_172 : decode cX8_rowMean 172 = .ok (.iload 6, 2) := by decide +kernel
theorem dX8_rowMean_174 : decode cX8_rowMean 174 = .ok (.isub, 1) := by decide +kernel
theorem dX8_rowMean_175 : decode cX8_rowMean 175 = .ok (.iload 4, 2) := by decide +kernel
theorem dX8_rowMean_177 : decode cX8_rowMean 177 = .ok (.invokevirtual 245, 3) := by decide +kernel
theorem dX8_rowMean_180 : decode cX8_rowMean 180 = .ok (.ladd, 1) := by decide +kernel
theorem dX8_rowMean_181 : decode cX8_rowMean 181 = .ok (.lstore 9, 2) := by decide +kernel
theorem dX8_rowMean_183 : decode cX8_rowMean 183 = .ok (.aload_n 0, 1) := by decide +kernel
theorem dX8_rowMean_184 : decode cX8_rowMean 184 = .ok (.iload_n 1, 1) := by decide +kernel
theorem dX8_rowMean_185 : decode cX8_rowMean 185 = .ok (.iconst 1, 1) := by decide +kernel
theorem dX8_rowMean_186 : decode cX8_rowMean 186 = .ok (.iadd, 1) := by decide +kernel
theorem dX8_rowMean_187 : decode cX8_rowMean 187 = .ok (.iload_n 2, 1) := by decide +kernel
theorem dX8_rowMean_188 : decode cX8_rowMean 188 = .ok (.iload_n 3, 1) := by decide +kernel
theorem dX8_rowMean_189 : decode cX8_rowMean 189 = .ok (.iload 6, 2) := by decide +kernel
theorem dX8_rowMean_191 : decode cX8_rowMean 191 = .ok (.isub, 1) := by decide +kernel
theorem dX8_rowMean_192 : decode cX8_rowMean 192 = .ok (.iload 4, 2) := by decide +kernel
theorem dX8_rowMean_194 : decode cX8_rowMean 194 = .ok (.invokevirtual 245, 3) := by decide +kernel
theorem dX8_rowMean_197 : decode cX8_rowMean 197 = .ok (.lstore 11, 2) := by decide +kernel
theorem dX8_rowMean_199 : decode cX8_rowMean 199 = .ok (.iload 7, 2) := by decide +kernel
theorem dX8_rowMean_201 : decode cX8_rowMean 201 = .ok (.i2l, 1) := by decide +kernel
theorem dX8_rowMean_202 : decode cX8_rowMean 202 = .ok (.lload 9, 2) := by decide +kernel
theorem dX8_rowMean_204 : decode cX8_rowMean 204 = .ok (.lmul, 1) := by decide +kernel
theorem dX8_rowMean_205 : decode cX8_rowMean 205 = .ok (.bipush 100, 2) := by decide +kernel
theorem dX8_rowMean_207 : decode cX8_rowMean 207 = .ok (.iload 7, 2) := by decide +kernel
theorem dX8_rowMean_209 : decode cX8_rowMean 209 = .ok (.isub, 1) := by decide +kernel
theorem dX8_rowMean_210 : decode cX8_rowMean 210 = .ok (.i2l, 1) := by decide +kernel
theorem dX8_rowMean_211 : decode cX8_rowMean 211 = .ok (.lload 11, 2) := by decide +kernel
theorem dX8_rowMean_213 : decode cX8_rowMean 213 = .ok (.lmul, 1) := by decide +kernel
theorem dX8_rowMean_214 : decode cX8_rowMean 214 = .ok (.ladd, 1) := by decide +kernel
theorem dX8_rowMean_215 : decode cX8_rowMean 215 = .ok (.lreturn, 1) := by decide +kernel
theorem dX8_rule_0 : decode cX8_rule 0 = .ok (.aload_n 0, 1) := by decide +kernel
theorem dX8_rule_1 : decode cX8_rule 1 = .ok (.getfield 23, 3) := by decide +kernel
theorem dX8_rule_4 : decode cX8_rule 4 = .ok (.ifCond .lt 15, 3) := by decide +kernel
theorem dX8_rule_7 : decode cX8_rule 7 = .ok (.aload_n 0, 1) := by decide +kernel
theorem dX8_rule_8 : decode cX8_rule 8 = .ok (.getfield 23, 3) := by decide +kernel
theorem dX8_rule_11 : decode cX8_rule 11 = .ok (.aload_n 0, 1) := by decide +kernel
theorem dX8_rule_12 : decode cX8_rule 12 = .ok (.getfield 19, 3) := by decide +kernel
theorem dX8_rule_15 : decode cX8_rule 15 = .ok (.arraylength, 1) := by decide +kernel
theorem dX8_rule_16 : decode cX8_rule 16 = .ok (.if_icmp .lt 5, 3) := by decide +kernel
theorem dX8_rule_19 : decode cX8_rule 19 = .ok (.iconst (-1), 1) := by decide +kernel
theorem dX8_rule_20 : decode cX8_rule 20 = .ok (.ireturn, 1) := by decide +kernel
theorem dX8_rule_21 : decode cX8_rule 21 = .ok (.aload_n 0, 1) := by decide +kernel
theorem dX8_rule_22 : decode cX8_rule 22 = .ok (.getfield 57, 3) := by decide +kernel
theorem dX8_rule_25 : decode cX8_rule 25 = .ok (.getfield 82, 3) := by decide +kernel
theorem dX8_rule_28 : decode cX8_rule 28 = .ok (.astore_n 1, 1) := by decide +kernel
theorem dX8_rule_29 : decode cX8_rule 29 = .ok (.aload_n 1, 1) := by decide +kernel
theorem dX8_rule_30 : decode cX8_rule 30 = .ok (.aload_n 0, 1) := by decide +kernel
theorem dX8_rule_31 : decode cX8_rule 31 = .ok (.getfield 9, 3) := by decide +kernel
theorem dX8_rule_34 : decode cX8_rule 34 = .ok (.aload_n 0, 1) := by decide +kernel
theorem dX8_rule_35 : decode cX8_rule 35 = .ok (.getfield 13, 3) := by decide +kernel
theorem dX8_rule_38 : decode cX8_rule 38 = .ok (.invokevirtual 86, 3) := by decide +kernel
theorem dX8_rule_41 : decode cX8_rule 41 = .ok (.aload_n 0, 1) := by decide +kernel
theorem dX8_rule_42 : decode cX8_rule 42 = .ok (.iconst 0, 1) := by decide +kernel
theorem dX8_rule_43 : decode cX8_rule 43 = .ok (.putfield 13, 3) := by decide +kernel
theorem dX8_rule_46 : decode cX8_rule 46 = .ok (.aload_n 0, 1) := by decide +kernel
theorem dX8_rule_47 : decode cX8_rule 47 = .ok (.getfield 57, 3) := by decide +kernel
theorem dX8_rule_50 : decode cX8_rule 50 = .ok (.invokevirtual 105, 3) := by decide +kernel
theorem dX8_rule_53 : decode cX8_rule 53 = .ok (.iconst 1, 1) := by decide +kernel
theorem dX8_rule_54 : decode cX8_rule 54 = .ok (.istore_n 2, 1) := by decide +kernel
theorem dX8_rule_55 : decode cX8_rule 55 = .ok (.iconst 0, 1) := by decide +kernel
theorem dX8_rule_56 : decode cX8_rule 56 = .ok (.istore_n 3, 1) := by decide +kernel
theorem dX8_rule_57 : decode cX8_rule 57 = .ok (.iload_n 2, 1) := by decide +kernel
theorem dX8_rule_58 : decode cX8_rule 58 = .ok (.ifCond .eq 27, 3) := by decide +kernel
theorem dX8_rule_61 : decode cX8_rule 61 = .ok (.iload_n 3, 1) := by decide +kernel
theorem dX8_rule_62 : decode cX8_rule 62 = .ok (.bipush 12, 2) := by decide +kernel
theorem dX8_rule_64 : decode cX8_rule 64 = .ok (.if_icmp .gt 21, 3) := by decide +kernel
theorem dX8_rule_67 : decode cX8_rule 67 = .ok (.aload_n 0, 1) := by decide +kernel
theorem dX8_rule_68 : decode cX8_rule 68 = .ok (.getfield 57, 3) := by decide +kernel
theorem dX8_rule_71 : decode cX8_rule 71 = .ok (.invokevirtual 108, 3) := by decide +kernel
theorem dX8_rule_74 : decode cX8_rule 74 = .ok (.aload_n 1, 1) := by decide +kernel
theorem dX8_rule_75 : decode cX8_rule 75 = .ok (.invokevirtual 111, 3) := by decide +kernel
theorem dX8_rule_78 : decode cX8_rule 78 = .ok (.istore_n 2, 1) := by decide +kernel
theorem dX8_rule_79 : decode cX8_rule 79 = .ok (.iinc 3 1, 3) := by decide +kernel
theorem dX8_rule_82 : decode cX8_rule 82 = .ok (.goto (-25), 3) := by decide +kernel
theorem dX8_rule_85 : decode cX8_rule 85 = .ok (.aload_n 1, 1) := by decide +kernel
theorem dX8_rule_86 : decode cX8_rule 86 = .ok (.getfield 96, 3) := by decide +kernel
theorem dX8_rule_89 : decode cX8_rule 89 = .ok (.ifCond .eq 11, 3) := by decide +kernel
theorem dX8_rule_92 : decode cX8_rule 92 = .ok (.bipush (-2), 2) := by decide +kernel
theorem dX8_rule_94 : decode cX8_rule 94 = .ok (.aload_n 1, 1) := by decide +kernel
theorem dX8_rule_95 : decode cX8_rule 95 = .ok (.getfield 96, 3) := by decide +kernel
theorem dX8_rule_98 : decode cX8_rule 98 = .ok (.isub, 1) := by decide +kernel
theorem dX8_rule_99 : decode cX8_rule 99 = .ok (.ireturn, 1) := by decide +kernel
theorem dX8_rule_100 : decode cX8_rule 100 = .ok (.aload_n 0, 1) := by decide +kernel
theorem dX8_rule_101 : decode cX8_rule 101 = .ok (.getfield 19, 3) := by decide +kernel
theorem dX8_rule_104 : decode cX8_rule 104 = .ok (.aload_n 0, 1) := by decide +kernel
theorem dX8_rule_105 : decode cX8_rule 105 = .ok (.getfield 23, 3) := by decide +kernel
theorem dX8_rule_108 : decode cX8_rule 108 = .ok (.aload_n 0, 1) := by decide +kernel
theorem dX8_rule_109 : decode cX8_rule 109 = .ok (.getfield 57, 3) := by decide +kernel
theorem dX8_rule_112 : decode cX8_rule 112 = .ok (.invokevirtual 115, 3) := by decide +kernel
theorem dX8_rule_115 : decode cX8_rule 115 = .ok (.aastore, 1) := by decide +kernel
theorem dX8_rule_116 : decode cX8_rule 116 = .ok (.aload_n 0, 1) := by decide +kernel
theorem dX8_rule_117 : decode cX8_rule 117 = .ok (.dup, 1) := by decide +kernel
theorem dX8_rule_118 : decode cX8_rule 118 = .ok (.getfield 23, 3) := by decide +kernel
theorem dX8_rule_121 : decode cX8_rule 121 = .ok (.iconst 1, 1) := by decide +kernel
theorem dX8_rule_122 : decode cX8_rule 122 = .ok (.iadd, 1) := by decide +kernel
theorem dX8_rule_123 : decode cX8_rule 123 = .ok (.putfield 23, 3) := by decide +kernel
theorem dX8_rule_126 : decode cX8_rule 126 = .ok (.aload_n 0, 1) := by decide +kernel
theorem dX8_rule_127 : decode cX8_rule 127 = .ok (.getfield 23, 3) := by decide +kernel
theorem dX8_rule_130 : decode cX8_rule 130 = .ok (.iconst 1, 1) := by decide +kernel
theorem dX8_rule_131 : decode cX8_rule 131 = .ok (.isub, 1) := by decide +kernel
theorem dX8_rule_132 : decode cX8_rule 132 = .ok (.ireturn, 1) := by decide +kernel
theorem dX8_ruleForWork_0 : decode cX8_ruleForWork 0 = .ok (.iload_n 1, 1) := by decide +kernel
theorem dX8_ruleForWork_1 : decode cX8_ruleForWork 1 = .ok (.ifCond .lt 31, 3) := by decide +kernel
theorem dX8_ruleForWork_4 : decode cX8_ruleForWork 4 = .ok (.iload_n 1, 1) := by decide +kernel
theorem dX8_ruleForWork_5 : decode cX8_ruleForWork 5 = .ok (.aload_n 0, 1) := by decide +kernel
theorem dX8_ruleForWork_6 : decode cX8_ruleForWork 6 = .ok (.getfield 23, 3) := by decide +kernel
theorem dX8_ruleForWork_9 : decode cX8_ruleForWork 9 = .ok (.if_icmp .ge 23, 3) := by decide +kernel
theorem dX8_ruleForWork_12 : decode cX8_ruleForWork 12 = .ok (.iload_n 1, 1) := by decide +kernel
theorem dX8_ruleForWork_13 : decode cX8_ruleForWork 13 = .ok (.aload_n 0, 1) := by decide +kernel
theorem dX8_ruleForWork_14 : decode cX8_ruleForWork 14 = .ok (.getfield 19, 3) := by decide +kernel
theorem dX8_ruleForWork_17 : decode cX8_ruleForWork 17 = .ok (.arraylength, 1) := by decide +kernel
theorem dX8_ruleForWork_18 : decode cX8_ruleForWork 18 = .ok (.if_icmp .ge 14, 3) := by decide +kernel
theorem dX8_ruleForWork_21 : decode cX8_ruleForWork 21 = .ok (.aload_n 0, 1) := by decide +kernel
theorem dX8_ruleForWork_22 : decode cX8_ruleForWork 22 = .ok (.invokevirtual 213, 3) := by decide +kernel
theorem dX8_ruleForWork_25 : decode cX8_ruleForWork 25 = .ok (.ifCond .eq 7, 3) := by decide +kernel
theorem dX8_ruleForWork_28 : decode cX8_ruleForWork 28 = .ok (.iconst 1, 1) := by decide +kernel
theorem dX8_ruleForWork_29 : decode cX8_ruleForWork 29 = .ok (.goto 4, 3) := by decide +kernel
theorem dX8_ruleForWork_32 : decode cX8_ruleForWork 32 = .ok (.iconst 0, 1) := by decide +kernel
theorem dX8_ruleForWork_33 : decode cX8_ruleForWork 33 = .ok (.istore_n 2, 1) := by decide +kernel
theorem dX8_ruleForWork_34 : decode cX8_ruleForWork 34 = .ok (.iload_n 2, 1) := by decide +kernel
theorem dX8_ruleForWork_35 : decode cX8_ruleForWork 35 = .ok (.ifCond .eq 12, 3) := by decide +kernel
theorem dX8_ruleForWork_38 : decode cX8_ruleForWork 38 = .ok (.aload_n 0, 1) := by decide +kernel
theorem dX8_ruleForWork_39 : decode cX8_ruleForWork 39 = .ok (.getfield 19, 3) := by decide +kernel
theorem dX8_ruleForWork_42 : decode cX8_ruleForWork 42 = .ok (.iload_n 1, 1) := by decide +kernel
theorem dX8_ruleForWork_43 : decode cX8_ruleForWork 43 = .ok (.aaload, 1) := by decide +kernel
theorem dX8_ruleForWork_44 : decode cX8_ruleForWork 44 = .ok (.goto 4, 3) := by decide +kernel
theorem dX8_ruleForWork_47 : decode cX8_ruleForWork 47 = .ok (.aconst_null, 1) := by decide +kernel
theorem dX8_ruleForWork_48 : decode cX8_ruleForWork 48 = .ok (.areturn, 1) := by decide +kernel
theorem dX8_seed_0 : decode cX8_seed 0 = .ok (.iload_n 1, 1) := by decide +kernel
theorem dX8_seed_1 : decode cX8_seed 1 = .ok (.ifCond .ge 5, 3) := by decide +kernel
theorem dX8_seed_4 : decode cX8_seed 4 = .ok (.iconst (-1), 1) := by decide +kernel
theorem dX8_seed_5 : decode cX8_seed 5 = .ok (.ireturn, 1) := by decide +kernel
theorem dX8_seed_6 : decode cX8_seed 6 = .ok (.aload_n 0, 1) := by decide +kernel
theorem dX8_seed_7 : decode cX8_seed 7 = .ok (.getfield 39, 3) := by decide +kernel
theorem dX8_seed_10 : decode cX8_seed 10 = .ok (.getfield 143, 3) := by decide +kernel
theorem dX8_seed_13 : decode cX8_seed 13 = .ok (.getfield 190, 3) := by decide +kernel
theorem dX8_seed_16 : decode cX8_seed 16 = .ok (.istore_n 2, 1) := by decide +kernel
theorem dX8_seed_17 : decode cX8_seed 17 = .ok (.aload_n 0, 1) := by decide +kernel
theorem dX8_seed_18 : decode cX8_seed 18 = .ok (.getfield 39, 3) := by decide +kernel
theorem dX8_seed_21 : decode cX8_seed 21 = .ok (.getfield 143, 3) := by decide +kernel
theorem dX8_seed_24 : decode cX8_seed 24 = .ok (.iload_n 1, 1) := by decide +kernel
theorem dX8_seed_25 : decode cX8_seed 25 = .ok (.putfield 190, 3) := by decide +kernel
theorem dX8_seed_28 : decode cX8_seed 28 = .ok (.iload_n 2, 1) := by decide +kernel
theorem dX8_seed_29 : decode cX8_seed 29 = .ok (.ireturn, 1) := by decide +kernel
theorem dX8_seen_0 : decode cX8_seen 0 = .ok (.aload_n 0, 1) := by decide +kernel
theorem dX8_seen_1 : decode cX8_seen 1 = .ok (.iload_n 1, 1) := by decide +kernel
theorem dX8_seen_2 : decode cX8_seen 2 = .ok (.invokevirtual 139, 3) := by decide +kernel
theorem dX8_seen_5 : decode cX8_seen 5 = .ok (.ifCond .eq 12, 3) := by decide +kernel
theorem dX8_seen_8 : decode cX8_seen 8 = .ok (.iload_n 2, 1) := by decide +kernel
theorem dX8_seen_9 : decode cX8_seen 9 = .ok (.ifCond .lt 8, 3) := by decide +kernel
theorem dX8_seen_12 : decode cX8_seen 12 = .ok (.iload_n 2, 1) := by decide +kernel
theorem dX8_seen_13 : decode cX8_seen 13 = .ok (.iconst 1, 1) := by decide +kernel
theorem dX8_seen_14 : decode cX8_seen 14 = .ok (.if_icmp .le 7, 3) := by decide +kernel
theorem dX8_seen_17 : decode cX8_seen 17 = .ok (.ldc2_w 243, 3) := by decide +kernel
theorem dX8_seen_20 : decode cX8_seen 20 = .ok (.lreturn, 1) := by decide +kernel
theorem dX8_seen_21 : decode cX8_seen 21 = .ok (.aload_n 0, 1) := by decide +kernel
theorem dX8_seen_22 : decode cX8_seen 22 = .ok (.getfield 39, 3) := by decide +kernel
theorem dX8_seen_25 : decode cX8_seen 25 = .ok (.getfield 143, 3) := by decide +kernel
theorem dX8_seen_28 : decode cX8_seen 28 = .ok (.getfield 158, 3) := by decide +kernel
theorem dX8_seen_31 : decode cX8_seen 31 = .ok (.iload_n 1, 1) := by decide +kernel
theorem dX8_seen_32 : decode cX8_seen 32 = .ok (.invokestatic 161, 3) := by decide +kernel
theorem dX8_seen_35 : decode cX8_seen 35 = .ok (.ifCond .eq 5, 3) := by decide +kernel
theorem dX8_seen_38 : decode cX8_seen 38 = .ok (.lconst 1, 1) := by decide +kernel
theorem dX8_seen_39 : decode cX8_seen 39 = .ok (.lreturn, 1) := by decide +kernel
theorem dX8_seen_40 : decode cX8_seen 40 = .ok (.aload_n 0, 1) := by decide +kernel
theorem dX8_seen_41 : decode cX8_seen 41 = .ok (.iconst 0, 1) := by decide +kernel
theorem dX8_seen_42 : decode cX8_seen 42 = .ok (.aload_n 0, 1) := by decide +kernel
theorem dX8_seen_43 : decode cX8_seen 43 = .ok (.getfield 39, 3) := by decide +kernel
theorem dX8_seen_46 : decode cX8_seen 46 = .ok (.getfield 143, 3) := by decide +kernel
theorem dX8_seen_49 : decode cX8_seen 49 = .ok (.invokevirtual 171, 3) := by decide +kernel
theorem dX8_seen_52 : decode cX8_seen 52 = .ok (.aload_n 0, 1) := by decide +kernel
theorem dX8_seen_53 : decode cX8_seen 53 = .ok (.getfield 39, 3) := by decide +kernel
theorem dX8_seen_56 : decode cX8_seen 56 = .ok (.getfield 143, 3) := by decide +kernel
theorem dX8_seen_59 : decode cX8_seen 59 = .ok (.getfield 178, 3) := by decide +kernel
theorem dX8_seen_62 : decode cX8_seen 62 = .ok (.iload_n 1, 1) := by decide +kernel
theorem dX8_seen_63 : decode cX8_seen 63 = .ok (.invokevirtual 245, 3) := by decide +kernel
theorem dX8_seen_66 : decode cX8_seen 66 = .ok (.lstore_n 3, 1) := by decide +kernel
theorem dX8_seen_67 : decode cX8_seen 67 = .ok (.lload_n 3, 1) := by decide +kernel
theorem dX8_seen_68 : decode cX8_seen 68 = .ok (.aload_n 0, 1) := by decide +kernel
theorem dX8_seen_69 : decode cX8_seen 69 = .ok (.getfield 39, 3) := by decide +kernel
theorem dX8_seen_72 : decode cX8_seen 72 = .ok (.getfield 187, 3) := by decide +kernel
theorem dX8_seen_75 : decode cX8_seen 75 = .ok (.invokestatic 249, 3) := by decide +kernel
theorem dX8_seen_78 : decode cX8_seen 78 = .ok (.iload_n 2, 1) := by decide +kernel
theorem dX8_seen_79 : decode cX8_seen 79 = .ok (.invokestatic 253, 3) := by decide +kernel
theorem dX8_seen_82 : decode cX8_seen 82 = .ok (.lreturn, 1) := by decide +kernel
theorem dX8_weeks_0 : decode cX8_weeks 0 = .ok (.aload_n 0, 1) := by decide +kernel
theorem dX8_weeks_1 : decode cX8_weeks 1 = .ok (.iload_n 1, 1) := by decide +kernel
theorem dX8_weeks_2 : decode cX8_weeks 2 = .ok (.invokevirtual 228, 3) := by decide +kernel
theorem dX8_weeks_5 : decode cX8_weeks 5 = .ok (.astore 4, 2) := by decide +kernel
theorem dX8_weeks_7 : decode cX8_weeks 7 = .ok (.aload 4, 2) := by decide +kernel
theorem dX8_weeks_9 : decode cX8_weeks 9 = .ok (.ifnull 23, 3) := by decide +kernel
theorem dX8_weeks_12 : decode cX8_weeks 12 = .ok (.iload_n 2, 1) := by decide +kernel
theorem dX8_weeks_13 : decode cX8_weeks 13 = .ok (.iconst 1, 1) := by decide +kernel
theorem dX8_weeks_14 : decode cX8_weeks 14 = .ok (.if_icmp .lt 18, 3) := by decide +kernel
theorem dX8_weeks_17 : decode cX8_weeks 17 = .ok (.iload_n 2, 1) := by decide +kernel
theorem dX8_weeks_18 : decode cX8_weeks 18 = .ok (.bipush 20, 2) := by decide +kernel
theorem dX8_weeks_20 : decode cX8_weeks 20 = .ok (.if_icmp .gt 12, 3) := by decide +kernel
theorem dX8_weeks_23 : decode cX8_weeks 23 = .ok (.iload_n 3, 1) := by decide +kernel
theorem dX8_weeks_24 : decode cX8_weeks 24 = .ok (.ifCond .lt 8, 3) := by decide +kernel
theorem dX8_weeks_27 : decode cX8_weeks 27 = .ok (.iload_n 3, 1) := by decide +kernel
theorem dX8_weeks_28 : decode cX8_weeks 28 = .ok (.iconst 2, 1) := by decide +kernel
theorem dX8_weeks_29 : decode cX8_weeks 29 = .ok (.if_icmp .le 5, 3) := by decide +kernel
theorem dX8_weeks_32 : decode cX8_weeks 32 = .ok (.iconst (-1), 1) := by decide +kernel
theorem dX8_weeks_33 : decode cX8_weeks 33 = .ok (.ireturn, 1) := by decide +kernel
theorem dX8_weeks_34 : decode cX8_weeks 34 = .ok (.aload_n 0, 1) := by decide +kernel
theorem dX8_weeks_35 : decode cX8_weeks 35 = .ok (.getfield 50, 3) := by decide +kernel
theorem dX8_weeks_38 : decode cX8_weeks 38 = .ok (.aload_n 0, 1) := by decide +kernel
theorem dX8_weeks_39 : decode cX8_weeks 39 = .ok (.getfield 39, 3) := by decide +kernel
theorem dX8_weeks_42 : decode cX8_weeks 42 = .ok (.getfield 143, 3) := by decide +kernel
theorem dX8_weeks_45 : decode cX8_weeks 45 = .ok (.invokevirtual 236, 3) := by decide +kernel
theorem dX8_weeks_48 : decode cX8_weeks 48 = .ok (.iconst 0, 1) := by decide +kernel
theorem dX8_weeks_49 : decode cX8_weeks 49 = .ok (.istore 5, 2) := by decide +kernel
theorem dX8_weeks_51 : decode cX8_weeks 51 = .ok (.iconst 0, 1) := by decide +kernel
theorem dX8_weeks_52 : decode cX8_weeks 52 = .ok (.istore 6, 2) := by decide +kernel
theorem dX8_weeks_54 : decode cX8_weeks 54 = .ok (.iload 6, 2) := by decide +kernel
theorem dX8_weeks_56 : decode cX8_weeks 56 = .ok (.iload_n 2, 1) := by decide +kernel
theorem dX8_weeks_57 : decode cX8_weeks 57 = .ok (.bipush 6, 2) := by decide +kernel
theorem dX8_weeks_59 : decode cX8_weeks 59 = .ok (.imul, 1) := by decide +kernel
theorem dX8_weeks_60 : decode cX8_weeks 60 = .ok (.if_icmp .ge 101, 3) := by decide +kernel
theorem dX8_weeks_63 : decode cX8_weeks 63 = .ok (.aload_n 0, 1) := by decide +kernel
theorem dX8_weeks_64 : decode cX8_weeks 64 = .ok (.getfield 50, 3) := by decide +kernel
theorem dX8_weeks_67 : decode cX8_weeks 67 = .ok (.aload_n 0, 1) := by decide +kernel
theorem dX8_weeks_68 : decode cX8_weeks 68 = .ok (.getfield 39, 3) := by decide +kernel
theorem dX8_weeks_71 : decode cX8_weeks 71 = .ok (.getfield 119, 3) := by decide +kernel
theorem dX8_weeks_74 : decode cX8_weeks 74 = .ok (.getfield 196, 3) := by decide +kernel
theorem dX8_weeks_77 : decode cX8_weeks 77 = .ok (.invokevirtual 225, 3) := by decide +kernel
theorem dX8_weeks_80 : decode cX8_weeks 80 = .ok (.aload_n 0, 1) := by decide +kernel
theorem dX8_weeks_81 : decode cX8_weeks 81 = .ok (.getfield 64, 3) := by decide +kernel
theorem dX8_weeks_84 : decode cX8_weeks 84 = .ok (.aload_n 0, 1) := by decide +kernel
theorem dX8_weeks_85 : decode cX8_weeks 85 = .ok (.getfield 39, 3) := by decide +kernel
theorem dX8_weeks_88 : decode cX8_weeks 88 = .ok (.getfield 119, 3) := by decide +kernel
theorem dX8_weeks_91 : decode cX8_weeks 91 = .ok (.aload 4, 2) := by decide +kernel
theorem dX8_weeks_93 : decode cX8_weeks 93 = .ok (.aload_n 0, 1) := by decide +kernel
theorem dX8_weeks_94 : decode cX8_weeks 94 = .ok (.getfield 50, 3) := by decide +kernel
theorem dX8_weeks_97 : decode cX8_weeks 97 = .ok (.invokevirtual 232, 3) := by decide +kernel
theorem dX8_weeks_100 : decode cX8_weeks 100 = .ok (.pop, 1) := by decide +kernel
theorem dX8_weeks_101 : decode cX8_weeks 101 = .ok (.iload 5, 2) := by decide +kernel
theorem dX8_weeks_103 : decode cX8_weeks 103 = .ok (.iload_n 3, 1) := by decide +kernel
theorem dX8_weeks_104 : decode cX8_weeks 104 = .ok (.ifCond .ne 13, 3) := by decide +kernel
theorem dX8_weeks_107 : decode cX8_weeks 107 = .ok (.aload_n 0, 1) := by decide +kernel
theorem dX8_weeks_108 : decode cX8_weeks 108 = .ok (.getfield 50, 3) := by decide +kernel
theorem dX8_weeks_111 : decode cX8_weeks 111 = .ok (.getfield 199, 3) := by decide +kernel
theorem dX8_weeks_114 : decode cX8_weeks 114 = .ok (.goto 38, 3) := by decide +kernel
theorem dX8_weeks_117 : decode cX8_weeks 117 = .ok (.iload_n 3, 1) := by decide +kernel
theorem dX8_weeks_118 : decode cX8_weeks 118 = .ok (.iconst 1, 1) := by decide +kernel
theorem dX8_weeks_119 : decode cX8_weeks 119 = .ok (.if_icmp .ne 16, 3) := by decide +kernel
theorem dX8_weeks_122 : decode cX8_weeks 122 = .ok (.aload_n 0, 1) := by decide +kernel
theorem dX8_weeks_123 : decode cX8_weeks 123 = .ok (.getfield 50, 3) := by decide +kernel
theorem dX8_weeks_126 : decode cX8_weeks 126 = .ok (.getfield 158, 3) := by decide +kernel
theorem dX8_weeks_129 : decode cX8_weeks 129 = .ok (.invokestatic 181, 3) := by decide +kernel
theorem dX8_weeks_132 : decode cX8_weeks 132 = .ok (.goto 20, 3) := by decide +kernel
theorem dX8_weeks_135 : decode cX8_weeks 135 = .ok (.aload_n 0, 1) := by decide +kernel
theorem dX8_weeks_136 : decode cX8_weeks 136 = .ok (.getfield 39, 3) := by decide +kernel
theorem dX8_weeks_139 : decode cX8_weeks 139 = .ok (.getfield 119, 3) := by decide +kernel
theorem dX8_weeks_142 : decode cX8_weeks 142 = .ok (.aload_n 0, 1) := by decide +kernel
theorem dX8_weeks_143 : decode cX8_weeks 143 = .ok (.getfield 50, 3) := by decide +kernel
theorem dX8_weeks_146 : decode cX8_weeks 146 = .ok (.invokevirtual 171, 3) := by decide +kernel
theorem dX8_weeks_149 : decode cX8_weeks 149 = .ok (.invokevirtual 222, 3) := by decide +kernel
theorem dX8_weeks_152 : decode cX8_weeks 152 = .ok (.iadd, 1) := by decide +kernel
theorem dX8_weeks_153 : decode cX8_weeks 153 = .ok (.istore 5, 2) := by decide +kernel
theorem dX8_weeks_155 : decode cX8_weeks 155 = .ok (.iinc 6 1, 3) := by decide +kernel
theorem dX8_weeks_158 : decode cX8_weeks 158 = .ok (.goto (-104), 3) := by decide +kernel
theorem dX8_weeks_161 : decode cX8_weeks 161 = .ok (.iload 5, 2) := by decide +kernel
theorem dX8_weeks_163 : decode cX8_weeks 163 = .ok (.ireturn, 1) := by decide +kernel
theorem dX8_work_0 : decode cX8_work 0 = .ok (.aload_n 0, 1) := by decide +kernel
theorem dX8_work_1 : decode cX8_work 1 = .ok (.getfield 57, 3) := by decide +kernel
theorem dX8_work_4 : decode cX8_work 4 = .ok (.getfield 82, 3) := by decide +kernel
theorem dX8_work_7 : decode cX8_work 7 = .ok (.astore_n 1, 1) := by decide +kernel
theorem dX8_work_8 : decode cX8_work 8 = .ok (.aload_n 1, 1) := by decide +kernel
theorem dX8_work_9 : decode cX8_work 9 = .ok (.aload_n 0, 1) := by decide +kernel
theorem dX8_work_10 : decode cX8_work 10 = .ok (.getfield 9, 3) := by decide +kernel
theorem dX8_work_13 : decode cX8_work 13 = .ok (.aload_n 0, 1) := by decide +kernel
theorem dX8_work_14 : decode cX8_work 14 = .ok (.getfield 13, 3) := by decide +kernel
theorem dX8_work_17 : decode cX8_work 17 = .ok (.invokevirtual 86, 3) := by decide +kernel
theorem dX8_work_20 : decode cX8_work 20 = .ok (.aload_n 0, 1) := by decide +kernel
theorem dX8_work_21 : decode cX8_work 21 = .ok (.iconst 0, 1) := by decide +kernel
theorem dX8_work_22 : decode cX8_work 22 = .ok (.putfield 13, 3) := by decide +kernel
theorem dX8_work_25 : decode cX8_work 25 = .ok (.new 31, 3) := by decide +kernel
theorem dX8_work_28 : decode cX8_work 28 = .ok (.dup, 1) := by decide +kernel
theorem dX8_work_29 : decode cX8_work 29 = .ok (.aload_n 0, 1) := by decide +kernel
theorem dX8_work_30 : decode cX8_work 30 = .ok (.getfield 26, 3) := by decide +kernel
theorem dX8_work_33 : decode cX8_work 33 = .ok (.iconst 1, 1) := by decide +kernel
theorem dX8_work_34 : decode cX8_work 34 = .ok (.iadd, 1) := by decide +kernel
theorem dX8_work_35 : decode cX8_work 35 = .ok (.invokespecial 33, 3) := by decide +kernel
theorem dX8_work_38 : decode cX8_work 38 = .ok (.astore_n 2, 1) := by decide +kernel
theorem dX8_work_39 : decode cX8_work 39 = .ok (.aload_n 2, 1) := by decide +kernel
theorem dX8_work_40 : decode cX8_work 40 = .ok (.aload_n 1, 1) := by decide +kernel
theorem dX8_work_41 : decode cX8_work 41 = .ok (.invokevirtual 92, 3) := by decide +kernel
theorem dX8_work_44 : decode cX8_work 44 = .ok (.aload_n 1, 1) := by decide +kernel
theorem dX8_work_45 : decode cX8_work 45 = .ok (.getfield 96, 3) := by decide +kernel
theorem dX8_work_48 : decode cX8_work 48 = .ok (.ifCond .eq 11, 3) := by decide +kernel
theorem dX8_work_51 : decode cX8_work 51 = .ok (.bipush (-2), 2) := by decide +kernel
theorem dX8_work_53 : decode cX8_work 53 = .ok (.aload_n 1, 1) := by decide +kernel
theorem dX8_work_54 : decode cX8_work 54 = .ok (.getfield 96, 3) := by decide +kernel
theorem dX8_work_57 : decode cX8_work 57 = .ok (.isub, 1) := by decide +kernel
theorem dX8_work_58 : decode cX8_work 58 = .ok (.ireturn, 1) := by decide +kernel
theorem dX8_work_59 : decode cX8_work 59 = .ok (.aload_n 0, 1) := by decide +kernel
theorem dX8_work_60 : decode cX8_work 60 = .ok (.dup, 1) := by decide +kernel
theorem dX8_work_61 : decode cX8_work 61 = .ok (.getfield 26, 3) := by decide +kernel
theorem dX8_work_64 : decode cX8_work 64 = .ok (.iconst 1, 1) := by decide +kernel
theorem dX8_work_65 : decode cX8_work 65 = .ok (.iadd, 1) := by decide +kernel
theorem dX8_work_66 : decode cX8_work 66 = .ok (.putfield 26, 3) := by decide +kernel
theorem dX8_work_69 : decode cX8_work 69 = .ok (.aload_n 0, 1) := by decide +kernel
theorem dX8_work_70 : decode cX8_work 70 = .ok (.getfield 39, 3) := by decide +kernel
theorem dX8_work_73 : decode cX8_work 73 = .ok (.aload_n 2, 1) := by decide +kernel
theorem dX8_work_74 : decode cX8_work 74 = .ok (.invokevirtual 99, 3) := by decide +kernel
theorem dX8_work_77 : decode cX8_work 77 = .ok (.aload_n 2, 1) := by decide +kernel
theorem dX8_work_78 : decode cX8_work 78 = .ok (.getfield 102, 3) := by decide +kernel
theorem dX8_work_81 : decode cX8_work 81 = .ok (.ireturn, 1) := by decide +kernel
theorem dX8_worth_0 : decode cX8_worth 0 = .ok (.aload_n 0, 1) := by decide +kernel
theorem dX8_worth_1 : decode cX8_worth 1 = .ok (.invokevirtual 213, 3) := by decide +kernel
theorem dX8_worth_4 : decode cX8_worth 4 = .ok (.ifCond .eq 12, 3) := by decide +kernel
theorem dX8_worth_7 : decode cX8_worth 7 = .ok (.iload_n 1, 1) := by decide +kernel
theorem dX8_worth_8 : decode cX8_worth 8 = .ok (.ifCond .lt 8, 3) := by decide +kernel
theorem dX8_worth_11 : decode cX8_worth 11 = .ok (.iload_n 1, 1) := by decide +kernel
theorem dX8_worth_12 : decode cX8_worth 12 = .ok (.iconst 1, 1) := by decide +kernel
theorem dX8_worth_13 : decode cX8_worth 13 = .ok (.if_icmp .le 7, 3) := by decide +kernel
theorem dX8_worth_16 : decode cX8_worth 16 = .ok (.ldc2_w 243, 3) := by decide +kernel
theorem dX8_worth_19 : decode cX8_worth 19 = .ok (.lreturn, 1) := by decide +kernel
theorem dX8_worth_20 : decode cX8_worth 20 = .ok (.aload_n 0, 1) := by decide +kernel
theorem dX8_worth_21 : decode cX8_worth 21 = .ok (.iconst 0, 1) := by decide +kernel
theorem dX8_worth_22 : decode cX8_worth 22 = .ok (.aload_n 0, 1) := by decide +kernel
theorem dX8_worth_23 : decode cX8_worth 23 = .ok (.getfield 39, 3) := by decide +kernel
theorem dX8_worth_26 : decode cX8_worth 26 = .ok (.getfield 143, 3) := by decide +kernel
theorem dX8_worth_29 : decode cX8_worth 29 = .ok (.invokevirtual 171, 3) := by decide +kernel
theorem dX8_worth_32 : decode cX8_worth 32 = .ok (.aload_n 0, 1) := by decide +kernel
theorem dX8_worth_33 : decode cX8_worth 33 = .ok (.getfield 39, 3) := by decide +kernel
theorem dX8_worth_36 : decode cX8_worth 36 = .ok (.getfield 143, 3) := by decide +kernel
theorem dX8_worth_39 : decode cX8_worth 39 = .ok (.getfield 178, 3) := by decide +kernel
theorem dX8_worth_42 : decode cX8_worth 42 = .ok (.iconst (-1), 1) := by decide +kernel
theorem dX8_worth_43 : decode cX8_worth 43 = .ok (.invokevirtual 245, 3) := by decide +kernel
theorem dX8_worth_46 : decode cX8_worth 46 = .ok (.lstore_n 2, 1) := by decide +kernel
theorem dX8_worth_47 : decode cX8_worth 47 = .ok (.lload_n 2, 1) := by decide +kernel
theorem dX8_worth_48 : decode cX8_worth 48 = .ok (.aload_n 0, 1) := by decide +kernel
theorem dX8_worth_49 : decode cX8_worth 49 = .ok (.getfield 39, 3) := by decide +kernel
theorem dX8_worth_52 : decode cX8_worth 52 = .ok (.getfield 187, 3) := by decide +kernel
theorem dX8_worth_55 : decode cX8_worth 55 = .ok (.invokestatic 249, 3) := by decide +kernel
theorem dX8_worth_58 : decode cX8_worth 58 = .ok (.iload_n 1, 1) := by decide +kernel
theorem dX8_worth_59 : decode cX8_worth 59 = .ok (.invokestatic 253, 3) := by decide +kernel
theorem dX8_worth_62 : decode cX8_worth 62 = .ok (.lreturn, 1) := by decide +kernel
theorem dX8_would_0 : decode cX8_would 0 = .ok (.aload_n 0, 1) := by decide +kernel
theorem dX8_would_1 : decode cX8_would 1 = .ok (.iload_n 1, 1) := by decide +kernel
theorem dX8_would_2 : decode cX8_would 2 = .ok (.invokevirtual 228, 3) := by decide +kernel
theorem dX8_would_5 : decode cX8_would 5 = .ok (.astore_n 3, 1) := by decide +kernel
theorem dX8_would_6 : decode cX8_would 6 = .ok (.aload_n 3, 1) := by decide +kernel
theorem dX8_would_7 : decode cX8_would 7 = .ok (.ifnull 12, 3) := by decide +kernel
theorem dX8_would_10 : decode cX8_would 10 = .ok (.iload_n 2, 1) := by decide +kernel
theorem dX8_would_11 : decode cX8_would 11 = .ok (.ifCond .lt 8, 3) := by decide +kernel
theorem dX8_would_14 : decode cX8_would 14 = .ok (.iload_n 2, 1) := by decide +kernel
theorem dX8_would_15 : decode cX8_would 15 = .ok (.iconst 4, 1) := by decide +kernel
theorem dX8_would_16 : decode cX8_would 16 = .ok (.if_icmp .le 6, 3) := by decide +kernel
theorem dX8_would_19 : decode cX8_would 19 = .ok (.ldc 208, 2) := by decide +kernel
theorem dX8_would_21 : decode cX8_would 21 = .ok (.ireturn, 1) := by decide +kernel
theorem dX8_would_22 : decode cX8_would 22 = .ok (.aload_n 0, 1) := by decide +kernel
theorem dX8_would_23 : decode cX8_would 23 = .ok (.getfield 50, 3) := by decide +kernel
theorem dX8_would_26 : decode cX8_would 26 = .ok (.aload_n 0, 1) := by decide +kernel
theorem dX8_would_27 : decode cX8_would 27 = .ok (.getfield 39, 3) := by decide +kernel
theorem dX8_would_30 : decode cX8_would 30 = .ok (.getfield 143, 3) := by decide +kernel
theorem dX8_would_33 : decode cX8_would 33 = .ok (.invokevirtual 236, 3) := by decide +kernel
theorem dX8_would_36 : decode cX8_would 36 = .ok (.aload_n 0, 1) := by decide +kernel
theorem dX8_would_37 : decode cX8_would 37 = .ok (.getfield 64, 3) := by decide +kernel
theorem dX8_would_40 : decode cX8_would 40 = .ok (.aload_n 0, 1) := by decide +kernel
theorem dX8_would_41 : decode cX8_would 41 = .ok (.getfield 39, 3) := by decide +kernel
theorem dX8_would_44 : decode cX8_would 44 = .ok (.getfield 119, 3) := by decide +kernel
theorem dX8_would_47 : decode cX8_would 47 = .ok (.aload_n 3, 1) := by decide +kernel
theorem dX8_would_48 : decode cX8_would 48 = .ok (.aload_n 0, 1) := by decide +kernel
theorem dX8_would_49 : decode cX8_would 49 = .ok (.getfield 50, 3) := by decide +kernel
theorem dX8_would_52 : decode cX8_would 52 = .ok (.invokevirtual 232, 3) := by decide +kernel
theorem dX8_would_55 : decode cX8_would 55 = .ok (.istore 4, 2) := by decide +kernel
theorem dX8_would_57 : decode cX8_would 57 = .ok (.iload_n 2, 1) := by decide +kernel
theorem dX8_would_58 : decode cX8_would 58 = .ok (.tableswitch 96 0 3 #[30, 49, 70, 78], 30) := by decide +kernel
theorem dX8_would_88 : decode cX8_would 88 = .ok (.aload_n 0, 1) := by decide +kernel
theorem dX8_would_89 : decode cX8_would 89 = .ok (.getfield 50, 3) := by decide +kernel
theorem dX8_would_92 : decode cX8_would 92 = .ok (.getfield 199, 3) := by decide +kernel
theorem dX8_would_95 : decode cX8_would 95 = .ok (.aload_n 0, 1) := by decide +kernel
theorem dX8_would_96 : decode cX8_would 96 = .ok (.getfield 39, 3) := by decide +kernel
theorem dX8_would_99 : decode cX8_would 99 = .ok (.getfield 143, 3) := by decide +kernel
theorem dX8_would_102 : decode cX8_would 102 = .ok (.getfield 199, 3) := by decide +kernel
theorem dX8_would_105 : decode cX8_would 105 = .ok (.isub, 1) := by decide +kernel
theorem dX8_would_106 : decode cX8_would 106 = .ok (.ireturn, 1) := by decide +kernel
theorem dX8_would_107 : decode cX8_would 107 = .ok (.aload_n 0, 1) := by decide +kernel
theorem dX8_would_108 : decode cX8_would 108 = .ok (.getfield 50, 3) := by decide +kernel
theorem dX8_would_111 : decode cX8_would 111 = .ok (.getfield 158, 3) := by decide +kernel
theorem dX8_would_114 : decode cX8_would 114 = .ok (.aload_n 0, 1) := by decide +kernel
theorem dX8_would_115 : decode cX8_would 115 = .ok (.getfield 39, 3) := by decide +kernel
theorem dX8_would_118 : decode cX8_would 118 = .ok (.getfield 143, 3) := by decide +kernel
theorem dX8_would_121 : decode cX8_would 121 = .ok (.getfield 158, 3) := by decide +kernel
theorem dX8_would_124 : decode cX8_would 124 = .ok (.iconst (-1), 1) := by decide +kernel
theorem dX8_would_125 : decode cX8_would 125 = .ok (.ixor, 1) := by decide +kernel
theorem dX8_would_126 : decode cX8_would 126 = .ok (.iand, 1) := by decide +kernel
theorem dX8_would_127 : decode cX8_would 127 = .ok (.ireturn, 1) := by decide +kernel
theorem dX8_would_128 : decode cX8_would 128 = .ok (.aload_n 0, 1) := by decide +kernel
theorem dX8_would_129 : decode cX8_would 129 = .ok (.getfield 50, 3) := by decide +kernel
theorem dX8_would_132 : decode cX8_would 132 = .ok (.getfield 178, 3) := by decide +kernel
theorem dX8_would_135 : decode cX8_would 135 = .ok (.ireturn, 1) := by decide +kernel
theorem dX8_would_136 : decode cX8_would 136 = .ok (.aload_n 0, 1) := by decide +kernel
theorem dX8_would_137 : decode cX8_would 137 = .ok (.getfield 39, 3) := by decide +kernel
theorem dX8_would_140 : decode cX8_would 140 = .ok (.getfield 119, 3) := by decide +kernel
theorem dX8_would_143 : decode cX8_would 143 = .ok (.aload_n 0, 1) := by decide +kernel
theorem dX8_would_144 : decode cX8_would 144 = .ok (.getfield 50, 3) := by decide +kernel
theorem dX8_would_147 : decode cX8_would 147 = .ok (.invokevirtual 171, 3) := by decide +kernel
theorem dX8_would_150 : decode cX8_would 150 = .ok (.invokevirtual 222, 3) := by decide +kernel
theorem dX8_would_153 : decode cX8_would 153 = .ok (.ireturn, 1) := by decide +kernel
theorem dX8_would_154 : decode cX8_would 154 = .ok (.iload 4, 2) := by decide +kernel
theorem dX8_would_156 : decode cX8_would 156 = .ok (.ireturn, 1) := by decide +kernel
theorem dX9_back_0 : decode cX9_back 0 = .ok (.iload_n 1, 1) := by decide +kernel
theorem dX9_back_1 : decode cX9_back 1 = .ok (.i2l, 1) := by decide +kernel
theorem dX9_back_2 : decode cX9_back 2 = .ok (.lconst 0, 1) := by decide +kernel
theorem dX9_back_3 : decode cX9_back 3 = .ok (.ldc2_w 414, 3) := by decide +kernel
theorem dX9_back_6 : decode cX9_back 6 = .ok (.invokestatic 118, 3) := by decide +kernel
theorem dX9_back_9 : decode cX9_back 9 = .ok (.ifCond .eq 12, 3) := by decide +kernel
theorem dX9_back_12 : decode cX9_back 12 = .ok (.aload_n 0, 1) := by decide +kernel
theorem dX9_back_13 : decode cX9_back 13 = .ok (.getfield 76, 3) := by decide +kernel
theorem dX9_back_16 : decode cX9_back 16 = .ok (.iload_n 1, 1) := by decide +kernel
theorem dX9_back_17 : decode cX9_back 17 = .ok (.baload, 1) := by decide +kernel
theorem dX9_back_18 : decode cX9_back 18 = .ok (.ifCond .ne 5, 3) := by decide +kernel
theorem dX9_back_21 : decode cX9_back 21 = .ok (.iconst (-1), 1) := by decide +kernel
theorem dX9_back_22 : decode cX9_back 22 = .ok (.ireturn, 1) := by decide +kernel
theorem dX9_back_23 : decode cX9_back 23 = .ok (.iconst 0, 1) := by decide +kernel
theorem dX9_back_24 : decode cX9_back 24 = .ok (.istore_n 2, 1) := by decide +kernel
theorem dX9_back_25 : decode cX9_back 25 = .ok (.iload_n 2, 1) := by decide +kernel
theorem dX9_back_26 : decode cX9_back 26 = .ok (.bipush 104, 2) := by decide +kernel
theorem dX9_back_28 : decode cX9_back 28 = .ok (.if_icmp .ge 26, 3) := by decide +kernel
theorem dX9_back_31 : decode cX9_back 31 = .ok (.aload_n 0, 1) := by decide +kernel
theorem dX9_back_32 : decode cX9_back 32 = .ok (.getfield 42, 3) := by decide +kernel
theorem dX9_back_35 : decode cX9_back 35 = .ok (.iload_n 2, 1) := by decide +kernel
theorem dX9_back_36 : decode cX9_back 36 = .ok (.aload_n 0, 1) := by decide +kernel
theorem dX9_back_37 : decode cX9_back 37 = .ok (.getfield 73, 3) := by decide +kernel
theorem dX9_back_40 : decode cX9_back 40 = .ok (.bipush 104, 2) := by decide +kernel
theorem dX9_back_42 : decode cX9_back 42 = .ok (.iload_n 1, 1) := by decide +kernel
theorem dX9_back_43 : decode cX9_back 43 = .ok (.imul, 1) := by decide +kernel
theorem dX9_back_44 : decode cX9_back 44 = .ok (.iload_n 2, 1) := by decide +kernel
theorem dX9_back_45 : decode cX9_back 45 = .ok (.iadd, 1) := by decide +kernel
theorem dX9_back_46 : decode cX9_back 46 = .ok (.iaload, 1) := by decide +kernel
theorem dX9_back_47 : decode cX9_back 47 = .ok (.iastore, 1) := by decide +kernel
theorem dX9_back_48 : decode cX9_back 48 = .ok (.iinc 2 1, 3) := by decide +kernel
theorem dX9_back_51 : decode cX9_back 51 = .ok (.goto (-26), 3) := by decide +kernel
theorem dX9_back_54 : decode cX9_back 54 = .ok (.aload_n 0, 1) := by decide +kernel
theorem dX9_back_55 : decode cX9_back 55 = .ok (.getfield 42, 3) := by decide +kernel
theorem dX9_back_58 : decode cX9_back 58 = .ok (.bipush 7, 2) := by decide +kernel
theorem dX9_back_60 : decode cX9_back 60 = .ok (.iaload, 1) := by decide +kernel
theorem dX9_back_61 : decode cX9_back 61 = .ok (.ireturn, 1) := by decide +kernel
theorem dX9_begins_0 : decode cX9_begins 0 = .ok (.aload_n 0, 1) := by decide +kernel
theorem dX9_begins_1 : decode cX9_begins 1 = .ok (.getfield 42, 3) := by decide +kernel
theorem dX9_begins_4 : decode cX9_begins 4 = .ok (.iconst 3, 1) := by decide +kernel
