theorem dX9_clauseHere_125 : decode cX9_clauseHere 125 = .ok (.invokevirtual 111, 3) := by decide +kernel
theorem dX9_clauseHere_128 : decode cX9_clauseHere 128 = .ok (.ireturn, 1) := by decide +kernel
theorem dX9_clauseHere_129 : decode cX9_clauseHere 129 = .ok (.aload_n 0, 1) := by decide +kernel
theorem dX9_clauseHere_130 : decode cX9_clauseHere 130 = .ok (.dup, 1) := by decide +kernel
theorem dX9_clauseHere_131 : decode cX9_clauseHere 131 = .ok (.getfield 229, 3) := by decide +kernel
theorem dX9_clauseHere_134 : decode cX9_clauseHere 134 = .ok (.iconst 1, 1) := by decide +kernel
theorem dX9_clauseHere_135 : decode cX9_clauseHere 135 = .ok (.iadd, 1) := by decide +kernel
theorem dX9_clauseHere_136 : decode cX9_clauseHere 136 = .ok (.putfield 229, 3) := by decide +kernel
theorem dX9_clauseHere_139 : decode cX9_clauseHere 139 = .ok (.iload_n 2, 1) := by decide +kernel
theorem dX9_clauseHere_140 : decode cX9_clauseHere 140 = .ok (.ifCond .ne 23, 3) := by decide +kernel
theorem dX9_clauseHere_143 : decode cX9_clauseHere 143 = .ok (.aload_n 0, 1) := by decide +kernel
theorem dX9_clauseHere_144 : decode cX9_clauseHere 144 = .ok (.aload_n 0, 1) := by decide +kernel
theorem dX9_clauseHere_145 : decode cX9_clauseHere 145 = .ok (.ldc2_w 225, 3) := by decide +kernel
theorem dX9_clauseHere_148 : decode cX9_clauseHere 148 = .ok (.invokevirtual 101, 3) := by decide +kernel
theorem dX9_clauseHere_151 : decode cX9_clauseHere 151 = .ok (.ifCond .eq 7, 3) := by decide +kernel
theorem dX9_clauseHere_154 : decode cX9_clauseHere 154 = .ok (.iconst 0, 1) := by decide +kernel
theorem dX9_clauseHere_155 : decode cX9_clauseHere 155 = .ok (.goto 4, 3) := by decide +kernel
theorem dX9_clauseHere_158 : decode cX9_clauseHere 158 = .ok (.iconst 1, 1) := by decide +kernel
theorem dX9_clauseHere_159 : decode cX9_clauseHere 159 = .ok (.invokevirtual 232, 3) := by decide +kernel
theorem dX9_clauseHere_162 : decode cX9_clauseHere 162 = .ok (.ireturn, 1) := by decide +kernel
theorem dX9_clauseHere_163 : decode cX9_clauseHere 163 = .ok (.aload_n 0, 1) := by decide +kernel
theorem dX9_clauseHere_164 : decode cX9_clauseHere 164 = .ok (.ldc2_w 223, 3) := by decide +kernel
theorem dX9_clauseHere_167 : decode cX9_clauseHere 167 = .ok (.invokevirtual 101, 3) := by decide +kernel
theorem dX9_clauseHere_170 : decode cX9_clauseHere 170 = .ok (.ifCond .eq 11, 3) := by decide +kernel
theorem dX9_clauseHere_173 : decode cX9_clauseHere 173 = .ok (.aload_n 0, 1) := by decide +kernel
theorem dX9_clauseHere_174 : decode cX9_clauseHere 174 = .ok (.iload_n 1, 1) := by decide +kernel
theorem dX9_clauseHere_175 : decode cX9_clauseHere 175 = .ok (.invokevirtual 235, 3) := by decide +kernel
theorem dX9_clauseHere_178 : decode cX9_clauseHere 178 = .ok (.goto 26, 3) := by decide +kernel
theorem dX9_clauseHere_181 : decode cX9_clauseHere 181 = .ok (.aload_n 0, 1) := by decide +kernel
theorem dX9_clauseHere_182 : decode cX9_clauseHere 182 = .ok (.ldc2_w 124, 3) := by decide +kernel
theorem dX9_clauseHere_185 : decode cX9_clauseHere 185 = .ok (.invokevirtual 101, 3) := by decide +kernel
theorem dX9_clauseHere_188 : decode cX9_clauseHere 188 = .ok (.ifCond .eq 11, 3) := by decide +kernel
theorem dX9_clauseHere_191 : decode cX9_clauseHere 191 = .ok (.aload_n 0, 1) := by decide +kernel
theorem dX9_clauseHere_192 : decode cX9_clauseHere 192 = .ok (.iload_n 1, 1) := by decide +kernel
theorem dX9_clauseHere_193 : decode cX9_clauseHere 193 = .ok (.invokevirtual 238, 3) := by decide +kernel
theorem dX9_clauseHere_196 : decode cX9_clauseHere 196 = .ok (.goto 8, 3) := by decide +kernel
theorem dX9_clauseHere_199 : decode cX9_clauseHere 199 = .ok (.aload_n 0, 1) := by decide +kernel
theorem dX9_clauseHere_200 : decode cX9_clauseHere 200 = .ok (.iload_n 1, 1) := by decide +kernel
theorem dX9_clauseHere_201 : decode cX9_clauseHere 201 = .ok (.invokevirtual 241, 3) := by decide +kernel
theorem dX9_clauseHere_204 : decode cX9_clauseHere 204 = .ok (.ireturn, 1) := by decide +kernel
theorem dX9_closes_0 : decode cX9_closes 0 = .ok (.aload_n 0, 1) := by decide +kernel
theorem dX9_closes_1 : decode cX9_closes 1 = .ok (.iconst 3, 1) := by decide +kernel
theorem dX9_closes_2 : decode cX9_closes 2 = .ok (.invokevirtual 188, 3) := by decide +kernel
theorem dX9_closes_5 : decode cX9_closes 5 = .ok (.aload_n 0, 1) := by decide +kernel
theorem dX9_closes_6 : decode cX9_closes 6 = .ok (.invokevirtual 93, 3) := by decide +kernel
theorem dX9_closes_9 : decode cX9_closes 9 = .ok (.bipush 93, 2) := by decide +kernel
theorem dX9_closes_11 : decode cX9_closes 11 = .ok (.if_icmp .ne 53, 3) := by decide +kernel
theorem dX9_closes_14 : decode cX9_closes 14 = .ok (.aload_n 0, 1) := by decide +kernel
theorem dX9_closes_15 : decode cX9_closes 15 = .ok (.invokevirtual 191, 3) := by decide +kernel
theorem dX9_closes_18 : decode cX9_closes 18 = .ok (.ifCond .eq 46, 3) := by decide +kernel
theorem dX9_closes_21 : decode cX9_closes 21 = .ok (.aload_n 0, 1) := by decide +kernel
theorem dX9_closes_22 : decode cX9_closes 22 = .ok (.iconst 1, 1) := by decide +kernel
theorem dX9_closes_23 : decode cX9_closes 23 = .ok (.invokevirtual 188, 3) := by decide +kernel
theorem dX9_closes_26 : decode cX9_closes 26 = .ok (.aload_n 0, 1) := by decide +kernel
theorem dX9_closes_27 : decode cX9_closes 27 = .ok (.dup, 1) := by decide +kernel
theorem dX9_closes_28 : decode cX9_closes 28 = .ok (.getfield 149, 3) := by decide +kernel
theorem dX9_closes_31 : decode cX9_closes 31 = .ok (.iconst 1, 1) := by decide +kernel
theorem dX9_closes_32 : decode cX9_closes 32 = .ok (.isub, 1) := by decide +kernel
theorem dX9_closes_33 : decode cX9_closes 33 = .ok (.putfield 149, 3) := by decide +kernel
theorem dX9_closes_36 : decode cX9_closes 36 = .ok (.aload_n 0, 1) := by decide +kernel
theorem dX9_closes_37 : decode cX9_closes 37 = .ok (.dup, 1) := by decide +kernel
theorem dX9_closes_38 : decode cX9_closes 38 = .ok (.getfield 146, 3) := by decide +kernel
theorem dX9_closes_41 : decode cX9_closes 41 = .ok (.iconst 1, 1) := by decide +kernel
theorem dX9_closes_42 : decode cX9_closes 42 = .ok (.isub, 1) := by decide +kernel
theorem dX9_closes_43 : decode cX9_closes 43 = .ok (.putfield 146, 3) := by decide +kernel
theorem dX9_closes_46 : decode cX9_closes 46 = .ok (.aload_n 0, 1) := by decide +kernel
theorem dX9_closes_47 : decode cX9_closes 47 = .ok (.dup, 1) := by decide +kernel
theorem dX9_closes_48 : decode cX9_closes 48 = .ok (.getfield 90, 3) := by decide +kernel
theorem dX9_closes_51 : decode cX9_closes 51 = .ok (.iconst 1, 1) := by decide +kernel
theorem dX9_closes_52 : decode cX9_closes 52 = .ok (.iadd, 1) := by decide +kernel
theorem dX9_closes_53 : decode cX9_closes 53 = .ok (.putfield 90, 3) := by decide +kernel
theorem dX9_closes_56 : decode cX9_closes 56 = .ok (.aload_n 0, 1) := by decide +kernel
theorem dX9_closes_57 : decode cX9_closes 57 = .ok (.iconst 3, 1) := by decide +kernel
theorem dX9_closes_58 : decode cX9_closes 58 = .ok (.invokevirtual 188, 3) := by decide +kernel
theorem dX9_closes_61 : decode cX9_closes 61 = .ok (.goto (-56), 3) := by decide +kernel
theorem dX9_closes_64 : decode cX9_closes 64 = .ok (.return_, 1) := by decide +kernel
theorem dX9_coins_0 : decode cX9_coins 0 = .ok (.iload_n 1, 1) := by decide +kernel
theorem dX9_coins_1 : decode cX9_coins 1 = .ok (.i2l, 1) := by decide +kernel
theorem dX9_coins_2 : decode cX9_coins 2 = .ok (.lconst 0, 1) := by decide +kernel
theorem dX9_coins_3 : decode cX9_coins 3 = .ok (.ldc2_w 278, 3) := by decide +kernel
theorem dX9_coins_6 : decode cX9_coins 6 = .ok (.invokestatic 118, 3) := by decide +kernel
theorem dX9_coins_9 : decode cX9_coins 9 = .ok (.ifCond .eq 14, 3) := by decide +kernel
theorem dX9_coins_12 : decode cX9_coins 12 = .ok (.aload_n 0, 1) := by decide +kernel
theorem dX9_coins_13 : decode cX9_coins 13 = .ok (.getfield 42, 3) := by decide +kernel
theorem dX9_coins_16 : decode cX9_coins 16 = .ok (.iconst 4, 1) := by decide +kernel
theorem dX9_coins_17 : decode cX9_coins 17 = .ok (.iload_n 1, 1) := by decide +kernel
theorem dX9_coins_18 : decode cX9_coins 18 = .ok (.iadd, 1) := by decide +kernel
theorem dX9_coins_19 : decode cX9_coins 19 = .ok (.iaload, 1) := by decide +kernel
theorem dX9_coins_20 : decode cX9_coins 20 = .ok (.goto 6, 3) := by decide +kernel
theorem dX9_coins_23 : decode cX9_coins 23 = .ok (.ldc_w 306, 3) := by decide +kernel
theorem dX9_coins_26 : decode cX9_coins 26 = .ok (.ireturn, 1) := by decide +kernel
theorem dX9_comesOut_0 : decode cX9_comesOut 0 = .ok (.lconst 1, 1) := by decide +kernel
theorem dX9_comesOut_1 : decode cX9_comesOut 1 = .ok (.lstore_n 2, 1) := by decide +kernel
theorem dX9_comesOut_2 : decode cX9_comesOut 2 = .ok (.iconst 0, 1) := by decide +kernel
theorem dX9_comesOut_3 : decode cX9_comesOut 3 = .ok (.istore 4, 2) := by decide +kernel
theorem dX9_comesOut_5 : decode cX9_comesOut 5 = .ok (.iload 4, 2) := by decide +kernel
theorem dX9_comesOut_7 : decode cX9_comesOut 7 = .ok (.aload_n 0, 1) := by decide +kernel
theorem dX9_comesOut_8 : decode cX9_comesOut 8 = .ok (.getfield 42, 3) := by decide +kernel
theorem dX9_comesOut_11 : decode cX9_comesOut 11 = .ok (.bipush 8, 2) := by decide +kernel
theorem dX9_comesOut_13 : decode cX9_comesOut 13 = .ok (.iaload, 1) := by decide +kernel
theorem dX9_comesOut_14 : decode cX9_comesOut 14 = .ok (.if_icmp .ge 140, 3) := by decide +kernel
theorem dX9_comesOut_17 : decode cX9_comesOut 17 = .ok (.aload_n 0, 1) := by decide +kernel
theorem dX9_comesOut_18 : decode cX9_comesOut 18 = .ok (.getfield 42, 3) := by decide +kernel
theorem dX9_comesOut_21 : decode cX9_comesOut 21 = .ok (.bipush 10, 2) := by decide +kernel
theorem dX9_comesOut_23 : decode cX9_comesOut 23 = .ok (.iload 4, 2) := by decide +kernel
theorem dX9_comesOut_25 : decode cX9_comesOut 25 = .ok (.iadd, 1) := by decide +kernel
theorem dX9_comesOut_26 : decode cX9_comesOut 26 = .ok (.iaload, 1) := by decide +kernel
theorem dX9_comesOut_27 : decode cX9_comesOut 27 = .ok (.istore 5, 2) := by decide +kernel
theorem dX9_comesOut_29 : decode cX9_comesOut 29 = .ok (.iload_n 1, 1) := by decide +kernel
theorem dX9_comesOut_30 : decode cX9_comesOut 30 = .ok (.iload 4, 2) := by decide +kernel
theorem dX9_comesOut_32 : decode cX9_comesOut 32 = .ok (.invokestatic 349, 3) := by decide +kernel
theorem dX9_comesOut_35 : decode cX9_comesOut 35 = .ok (.istore 6, 2) := by decide +kernel
theorem dX9_comesOut_37 : decode cX9_comesOut 37 = .ok (.aload_n 0, 1) := by decide +kernel
theorem dX9_comesOut_38 : decode cX9_comesOut 38 = .ok (.iload 5, 2) := by decide +kernel
theorem dX9_comesOut_40 : decode cX9_comesOut 40 = .ok (.invokevirtual 295, 3) := by decide +kernel
theorem dX9_comesOut_43 : decode cX9_comesOut 43 = .ok (.ifCond .ne 19, 3) := by decide +kernel
theorem dX9_comesOut_46 : decode cX9_comesOut 46 = .ok (.iload 6, 2) := by decide +kernel
theorem dX9_comesOut_48 : decode cX9_comesOut 48 = .ok (.ifCond .eq 5, 3) := by decide +kernel
theorem dX9_comesOut_51 : decode cX9_comesOut 51 = .ok (.lconst 0, 1) := by decide +kernel
theorem dX9_comesOut_52 : decode cX9_comesOut 52 = .ok (.lreturn, 1) := by decide +kernel
theorem dX9_comesOut_53 : decode cX9_comesOut 53 = .ok (.lload_n 2, 1) := by decide +kernel
theorem dX9_comesOut_54 : decode cX9_comesOut 54 = .ok (.ldc2_w 352, 3) := by decide +kernel
theorem dX9_comesOut_57 : decode cX9_comesOut 57 = .ok (.lmul, 1) := by decide +kernel
theorem dX9_comesOut_58 : decode cX9_comesOut 58 = .ok (.lstore_n 2, 1) := by decide +kernel
theorem dX9_comesOut_59 : decode cX9_comesOut 59 = .ok (.goto 89, 3) := by decide +kernel
theorem dX9_comesOut_62 : decode cX9_comesOut 62 = .ok (.aload_n 0, 1) := by decide +kernel
theorem dX9_comesOut_63 : decode cX9_comesOut 63 = .ok (.getfield 42, 3) := by decide +kernel
theorem dX9_comesOut_66 : decode cX9_comesOut 66 = .ok (.iconst 3, 1) := by decide +kernel
theorem dX9_comesOut_67 : decode cX9_comesOut 67 = .ok (.dup2, 1) := by decide +kernel
theorem dX9_comesOut_68 : decode cX9_comesOut 68 = .ok (.iaload, 1) := by decide +kernel
theorem dX9_comesOut_69 : decode cX9_comesOut 69 = .ok (.aload_n 0, 1) := by decide +kernel
theorem dX9_comesOut_70 : decode cX9_comesOut 70 = .ok (.iload 5, 2) := by decide +kernel
theorem dX9_comesOut_72 : decode cX9_comesOut 72 = .ok (.iconst 1, 1) := by decide +kernel
theorem dX9_comesOut_73 : decode cX9_comesOut 73 = .ok (.invokevirtual 268, 3) := by decide +kernel
theorem dX9_comesOut_76 : decode cX9_comesOut 76 = .ok (.isub, 1) := by decide +kernel
theorem dX9_comesOut_77 : decode cX9_comesOut 77 = .ok (.iastore, 1) := by decide +kernel
theorem dX9_comesOut_78 : decode cX9_comesOut 78 = .ok (.lload_n 2, 1) := by decide +kernel
theorem dX9_comesOut_79 : decode cX9_comesOut 79 = .ok (.iload 6, 2) := by decide +kernel
theorem dX9_comesOut_81 : decode cX9_comesOut 81 = .ok (.ifCond .eq 14, 3) := by decide +kernel
theorem dX9_comesOut_84 : decode cX9_comesOut 84 = .ok (.aload_n 0, 1) := by decide +kernel
theorem dX9_comesOut_85 : decode cX9_comesOut 85 = .ok (.iload 5, 2) := by decide +kernel
theorem dX9_comesOut_87 : decode cX9_comesOut 87 = .ok (.iconst 2, 1) := by decide +kernel
theorem dX9_comesOut_88 : decode cX9_comesOut 88 = .ok (.invokevirtual 268, 3) := by decide +kernel
theorem dX9_comesOut_91 : decode cX9_comesOut 91 = .ok (.i2l, 1) := by decide +kernel
theorem dX9_comesOut_92 : decode cX9_comesOut 92 = .ok (.goto 14, 3) := by decide +kernel
theorem dX9_comesOut_95 : decode cX9_comesOut 95 = .ok (.bipush 100, 2) := by decide +kernel
theorem dX9_comesOut_97 : decode cX9_comesOut 97 = .ok (.aload_n 0, 1) := by decide +kernel
theorem dX9_comesOut_98 : decode cX9_comesOut 98 = .ok (.iload 5, 2) := by decide +kernel
theorem dX9_comesOut_100 : decode cX9_comesOut 100 = .ok (.iconst 2, 1) := by decide +kernel
theorem dX9_comesOut_101 : decode cX9_comesOut 101 = .ok (.invokevirtual 268, 3) := by decide +kernel
theorem dX9_comesOut_104 : decode cX9_comesOut 104 = .ok (.isub, 1) := by decide +kernel
theorem dX9_comesOut_105 : decode cX9_comesOut 105 = .ok (.i2l, 1) := by decide +kernel
theorem dX9_comesOut_106 : decode cX9_comesOut 106 = .ok (.lmul, 1) := by decide +kernel
theorem dX9_comesOut_107 : decode cX9_comesOut 107 = .ok (.lstore_n 2, 1) := by decide +kernel
theorem dX9_comesOut_108 : decode cX9_comesOut 108 = .ok (.iload 6, 2) := by decide +kernel
theorem dX9_comesOut_110 : decode cX9_comesOut 110 = .ok (.ifCond .ne 6, 3) := by decide +kernel
theorem dX9_comesOut_113 : decode cX9_comesOut 113 = .ok (.goto 35, 3) := by decide +kernel
theorem dX9_comesOut_116 : decode cX9_comesOut 116 = .ok (.aload_n 0, 1) := by decide +kernel
theorem dX9_comesOut_117 : decode cX9_comesOut 117 = .ok (.getfield 42, 3) := by decide +kernel
theorem dX9_comesOut_120 : decode cX9_comesOut 120 = .ok (.bipush 44, 2) := by decide +kernel
theorem dX9_comesOut_122 : decode cX9_comesOut 122 = .ok (.bipush 6, 2) := by decide +kernel
theorem dX9_comesOut_124 : decode cX9_comesOut 124 = .ok (.iload 5, 2) := by decide +kernel
theorem dX9_comesOut_126 : decode cX9_comesOut 126 = .ok (.imul, 1) := by decide +kernel
theorem dX9_comesOut_127 : decode cX9_comesOut 127 = .ok (.iadd, 1) := by decide +kernel
theorem dX9_comesOut_128 : decode cX9_comesOut 128 = .ok (.iconst 4, 1) := by decide +kernel
theorem dX9_comesOut_129 : decode cX9_comesOut 129 = .ok (.iadd, 1) := by decide +kernel
theorem dX9_comesOut_130 : decode cX9_comesOut 130 = .ok (.iconst 1, 1) := by decide +kernel
theorem dX9_comesOut_131 : decode cX9_comesOut 131 = .ok (.iastore, 1) := by decide +kernel
theorem dX9_comesOut_132 : decode cX9_comesOut 132 = .ok (.aload_n 0, 1) := by decide +kernel
theorem dX9_comesOut_133 : decode cX9_comesOut 133 = .ok (.getfield 42, 3) := by decide +kernel
theorem dX9_comesOut_136 : decode cX9_comesOut 136 = .ok (.iconst 4, 1) := by decide +kernel
theorem dX9_comesOut_137 : decode cX9_comesOut 137 = .ok (.dup2, 1) := by decide +kernel
theorem dX9_comesOut_138 : decode cX9_comesOut 138 = .ok (.iaload, 1) := by decide +kernel
theorem dX9_comesOut_139 : decode cX9_comesOut 139 = .ok (.aload_n 0, 1) := by decide +kernel
theorem dX9_comesOut_140 : decode cX9_comesOut 140 = .ok (.iload 5, 2) := by decide +kernel
theorem dX9_comesOut_142 : decode cX9_comesOut 142 = .ok (.iconst 0, 1) := by decide +kernel
theorem dX9_comesOut_143 : decode cX9_comesOut 143 = .ok (.invokevirtual 275, 3) := by decide +kernel
theorem dX9_comesOut_146 : decode cX9_comesOut 146 = .ok (.iadd, 1) := by decide +kernel
theorem dX9_comesOut_147 : decode cX9_comesOut 147 = .ok (.iastore, 1) := by decide +kernel
theorem dX9_comesOut_148 : decode cX9_comesOut 148 = .ok (.iinc 4 1, 3) := by decide +kernel
theorem dX9_comesOut_151 : decode cX9_comesOut 151 = .ok (.goto (-146), 3) := by decide +kernel
theorem dX9_comesOut_154 : decode cX9_comesOut 154 = .ok (.lload_n 2, 1) := by decide +kernel
theorem dX9_comesOut_155 : decode cX9_comesOut 155 = .ok (.lreturn, 1) := by decide +kernel
theorem dX9_comesTo_0 : decode cX9_comesTo 0 = .ok (.aload_n 0, 1) := by decide +kernel
theorem dX9_comesTo_1 : decode cX9_comesTo 1 = .ok (.getfield 48, 3) := by decide +kernel
theorem dX9_comesTo_4 : decode cX9_comesTo 4 = .ok (.iload_n 1, 1) := by decide +kernel
theorem dX9_comesTo_5 : decode cX9_comesTo 5 = .ok (.iconst (-1), 1) := by decide +kernel
theorem dX9_comesTo_6 : decode cX9_comesTo 6 = .ok (.iastore, 1) := by decide +kernel
theorem dX9_comesTo_7 : decode cX9_comesTo 7 = .ok (.aload_n 0, 1) := by decide +kernel
theorem dX9_comesTo_8 : decode cX9_comesTo 8 = .ok (.getfield 70, 3) := by decide +kernel
theorem dX9_comesTo_11 : decode cX9_comesTo 11 = .ok (.iload_n 1, 1) := by decide +kernel
theorem dX9_comesTo_12 : decode cX9_comesTo 12 = .ok (.aload_n 0, 1) := by decide +kernel
theorem dX9_comesTo_13 : decode cX9_comesTo 13 = .ok (.getfield 42, 3) := by decide +kernel
theorem dX9_comesTo_16 : decode cX9_comesTo 16 = .ok (.iconst 3, 1) := by decide +kernel
theorem dX9_comesTo_17 : decode cX9_comesTo 17 = .ok (.iaload, 1) := by decide +kernel
theorem dX9_comesTo_18 : decode cX9_comesTo 18 = .ok (.iastore, 1) := by decide +kernel
theorem dX9_comesTo_19 : decode cX9_comesTo 19 = .ok (.aload_n 0, 1) := by decide +kernel
theorem dX9_comesTo_20 : decode cX9_comesTo 20 = .ok (.getfield 61, 3) := by decide +kernel
theorem dX9_comesTo_23 : decode cX9_comesTo 23 = .ok (.iload_n 1, 1) := by decide +kernel
theorem dX9_comesTo_24 : decode cX9_comesTo 24 = .ok (.lconst 0, 1) := by decide +kernel
theorem dX9_comesTo_25 : decode cX9_comesTo 25 = .ok (.lastore, 1) := by decide +kernel
theorem dX9_comesTo_26 : decode cX9_comesTo 26 = .ok (.aload_n 0, 1) := by decide +kernel
theorem dX9_comesTo_27 : decode cX9_comesTo 27 = .ok (.getfield 64, 3) := by decide +kernel
theorem dX9_comesTo_30 : decode cX9_comesTo 30 = .ok (.iload_n 1, 1) := by decide +kernel
theorem dX9_comesTo_31 : decode cX9_comesTo 31 = .ok (.aload_n 0, 1) := by decide +kernel
theorem dX9_comesTo_32 : decode cX9_comesTo 32 = .ok (.invokevirtual 307, 3) := by decide +kernel
theorem dX9_comesTo_35 : decode cX9_comesTo 35 = .ok (.i2l, 1) := by decide +kernel
theorem dX9_comesTo_36 : decode cX9_comesTo 36 = .ok (.aload_n 0, 1) := by decide +kernel
theorem dX9_comesTo_37 : decode cX9_comesTo 37 = .ok (.iload_n 2, 1) := by decide +kernel
theorem dX9_comesTo_38 : decode cX9_comesTo 38 = .ok (.iload_n 1, 1) := by decide +kernel
theorem dX9_comesTo_39 : decode cX9_comesTo 39 = .ok (.isub, 1) := by decide +kernel
theorem dX9_comesTo_40 : decode cX9_comesTo 40 = .ok (.invokevirtual 367, 3) := by decide +kernel
theorem dX9_comesTo_43 : decode cX9_comesTo 43 = .ok (.lmul, 1) := by decide +kernel
theorem dX9_comesTo_44 : decode cX9_comesTo 44 = .ok (.lastore, 1) := by decide +kernel
theorem dX9_comesTo_45 : decode cX9_comesTo 45 = .ok (.aload_n 0, 1) := by decide +kernel
theorem dX9_comesTo_46 : decode cX9_comesTo 46 = .ok (.getfield 67, 3) := by decide +kernel
theorem dX9_comesTo_49 : decode cX9_comesTo 49 = .ok (.iload_n 1, 1) := by decide +kernel
theorem dX9_comesTo_50 : decode cX9_comesTo 50 = .ok (.bipush (-2), 2) := by decide +kernel
theorem dX9_comesTo_52 : decode cX9_comesTo 52 = .ok (.iastore, 1) := by decide +kernel
theorem dX9_comesTo_53 : decode cX9_comesTo 53 = .ok (.return_, 1) := by decide +kernel
theorem dX9_compare_0 : decode cX9_compare 0 = .ok (.aload_n 0, 1) := by decide +kernel
theorem dX9_compare_1 : decode cX9_compare 1 = .ok (.invokevirtual 177, 3) := by decide +kernel
theorem dX9_compare_4 : decode cX9_compare 4 = .ok (.ifCond .ne 5, 3) := by decide +kernel
theorem dX9_compare_7 : decode cX9_compare 7 = .ok (.iconst 0, 1) := by decide +kernel
theorem dX9_compare_8 : decode cX9_compare 8 = .ok (.ireturn, 1) := by decide +kernel
theorem dX9_compare_9 : decode cX9_compare 9 = .ok (.aload_n 0, 1) := by decide +kernel
theorem dX9_compare_10 : decode cX9_compare 10 = .ok (.invokevirtual 93, 3) := by decide +kernel
theorem dX9_compare_13 : decode cX9_compare 13 = .ok (.istore_n 1, 1) := by decide +kernel
theorem dX9_compare_14 : decode cX9_compare 14 = .ok (.aload_n 0, 1) := by decide +kernel
theorem dX9_compare_15 : decode cX9_compare 15 = .ok (.getfield 90, 3) := by decide +kernel
theorem dX9_compare_18 : decode cX9_compare 18 = .ok (.istore_n 2, 1) := by decide +kernel
theorem dX9_compare_19 : decode cX9_compare 19 = .ok (.iload_n 1, 1) := by decide +kernel
theorem dX9_compare_20 : decode cX9_compare 20 = .ok (.bipush 60, 2) := by decide +kernel
theorem dX9_compare_22 : decode cX9_compare 22 = .ok (.if_icmp .eq 22, 3) := by decide +kernel
theorem dX9_compare_25 : decode cX9_compare 25 = .ok (.iload_n 1, 1) := by decide +kernel
theorem dX9_compare_26 : decode cX9_compare 26 = .ok (.bipush 61, 2) := by decide +kernel
theorem dX9_compare_28 : decode cX9_compare 28 = .ok (.if_icmp .eq 16, 3) := by decide +kernel
theorem dX9_compare_31 : decode cX9_compare 31 = .ok (.iload_n 1, 1) := by decide +kernel
theorem dX9_compare_32 : decode cX9_compare 32 = .ok (.bipush 62, 2) := by decide +kernel
theorem dX9_compare_34 : decode cX9_compare 34 = .ok (.if_icmp .eq 10, 3) := by decide +kernel
theorem dX9_compare_37 : decode cX9_compare 37 = .ok (.aload_n 0, 1) := by decide +kernel
theorem dX9_compare_38 : decode cX9_compare 38 = .ok (.iconst 0, 1) := by decide +kernel
theorem dX9_compare_39 : decode cX9_compare 39 = .ok (.iload_n 2, 1) := by decide +kernel
theorem dX9_compare_40 : decode cX9_compare 40 = .ok (.invokevirtual 111, 3) := by decide +kernel
theorem dX9_compare_43 : decode cX9_compare 43 = .ok (.ireturn, 1) := by decide +kernel
theorem dX9_compare_44 : decode cX9_compare 44 = .ok (.aload_n 0, 1) := by decide +kernel
theorem dX9_compare_45 : decode cX9_compare 45 = .ok (.dup, 1) := by decide +kernel
theorem dX9_compare_46 : decode cX9_compare 46 = .ok (.getfield 90, 3) := by decide +kernel
theorem dX9_compare_49 : decode cX9_compare 49 = .ok (.iconst 1, 1) := by decide +kernel
theorem dX9_compare_50 : decode cX9_compare 50 = .ok (.iadd, 1) := by decide +kernel
theorem dX9_compare_51 : decode cX9_compare 51 = .ok (.putfield 90, 3) := by decide +kernel
theorem dX9_compare_54 : decode cX9_compare 54 = .ok (.iload_n 1, 1) := by decide +kernel
theorem dX9_compare_55 : decode cX9_compare 55 = .ok (.bipush 61, 2) := by decide +kernel
theorem dX9_compare_57 : decode cX9_compare 57 = .ok (.if_icmp .eq 32, 3) := by decide +kernel
theorem dX9_compare_60 : decode cX9_compare 60 = .ok (.aload_n 0, 1) := by decide +kernel
theorem dX9_compare_61 : decode cX9_compare 61 = .ok (.getfield 90, 3) := by decide +kernel
theorem dX9_compare_64 : decode cX9_compare 64 = .ok (.aload_n 0, 1) := by decide +kernel
theorem dX9_compare_65 : decode cX9_compare 65 = .ok (.getfield 79, 3) := by decide +kernel
theorem dX9_compare_68 : decode cX9_compare 68 = .ok (.if_icmp .ge 21, 3) := by decide +kernel
theorem dX9_compare_71 : decode cX9_compare 71 = .ok (.aload_n 0, 1) := by decide +kernel
theorem dX9_compare_72 : decode cX9_compare 72 = .ok (.getfield 7, 3) := by decide +kernel
theorem dX9_compare_75 : decode cX9_compare 75 = .ok (.aload_n 0, 1) := by decide +kernel
theorem dX9_compare_76 : decode cX9_compare 76 = .ok (.getfield 90, 3) := by decide +kernel
theorem dX9_compare_79 : decode cX9_compare 79 = .ok (.baload, 1) := by decide +kernel
theorem dX9_compare_80 : decode cX9_compare 80 = .ok (.bipush 61, 2) := by decide +kernel
theorem dX9_compare_82 : decode cX9_compare 82 = .ok (.if_icmp .ne 7, 3) := by decide +kernel
theorem dX9_compare_85 : decode cX9_compare 85 = .ok (.iconst 1, 1) := by decide +kernel
theorem dX9_compare_86 : decode cX9_compare 86 = .ok (.goto 4, 3) := by decide +kernel
theorem dX9_compare_89 : decode cX9_compare 89 = .ok (.iconst 0, 1) := by decide +kernel
theorem dX9_compare_90 : decode cX9_compare 90 = .ok (.istore_n 3, 1) := by decide +kernel
theorem dX9_compare_91 : decode cX9_compare 91 = .ok (.iload_n 3, 1) := by decide +kernel
theorem dX9_compare_92 : decode cX9_compare 92 = .ok (.ifCond .eq 13, 3) := by decide +kernel
theorem dX9_compare_95 : decode cX9_compare 95 = .ok (.aload_n 0, 1) := by decide +kernel
theorem dX9_compare_96 : decode cX9_compare 96 = .ok (.dup, 1) := by decide +kernel
theorem dX9_compare_97 : decode cX9_compare 97 = .ok (.getfield 90, 3) := by decide +kernel
theorem dX9_compare_100 : decode cX9_compare 100 = .ok (.iconst 1, 1) := by decide +kernel
theorem dX9_compare_101 : decode cX9_compare 101 = .ok (.iadd, 1) := by decide +kernel
theorem dX9_compare_102 : decode cX9_compare 102 = .ok (.putfield 90, 3) := by decide +kernel
theorem dX9_compare_105 : decode cX9_compare 105 = .ok (.aload_n 0, 1) := by decide +kernel
theorem dX9_compare_106 : decode cX9_compare 106 = .ok (.iload_n 2, 1) := by decide +kernel
theorem dX9_compare_107 : decode cX9_compare 107 = .ok (.invokevirtual 164, 3) := by decide +kernel
theorem dX9_compare_110 : decode cX9_compare 110 = .ok (.ifCond .ne 5, 3) := by decide +kernel
theorem dX9_compare_113 : decode cX9_compare 113 = .ok (.iconst 0, 1) := by decide +kernel
theorem dX9_compare_114 : decode cX9_compare 114 = .ok (.ireturn, 1) := by decide +kernel
theorem dX9_compare_115 : decode cX9_compare 115 = .ok (.iload_n 1, 1) := by decide +kernel
theorem dX9_compare_116 : decode cX9_compare 116 = .ok (.bipush 60, 2) := by decide +kernel
theorem dX9_compare_118 : decode cX9_compare 118 = .ok (.if_icmp .ne 15, 3) := by decide +kernel
theorem dX9_compare_121 : decode cX9_compare 121 = .ok (.iload_n 3, 1) := by decide +kernel
theorem dX9_compare_122 : decode cX9_compare 122 = .ok (.ifCond .eq 7, 3) := by decide +kernel
theorem dX9_compare_125 : decode cX9_compare 125 = .ok (.iconst 1, 1) := by decide +kernel
theorem dX9_compare_126 : decode cX9_compare 126 = .ok (.goto 26, 3) := by decide +kernel
theorem dX9_compare_129 : decode cX9_compare 129 = .ok (.iconst 0, 1) := by decide +kernel
theorem dX9_compare_130 : decode cX9_compare 130 = .ok (.goto 22, 3) := by decide +kernel
theorem dX9_compare_133 : decode cX9_compare 133 = .ok (.iload_n 1, 1) := by decide +kernel
theorem dX9_compare_134 : decode cX9_compare 134 = .ok (.bipush 61, 2) := by decide +kernel
theorem dX9_compare_136 : decode cX9_compare 136 = .ok (.if_icmp .ne 7, 3) := by decide +kernel
theorem dX9_compare_139 : decode cX9_compare 139 = .ok (.iconst 2, 1) := by decide +kernel
theorem dX9_compare_140 : decode cX9_compare 140 = .ok (.goto 12, 3) := by decide +kernel
theorem dX9_compare_143 : decode cX9_compare 143 = .ok (.iload_n 3, 1) := by decide +kernel
theorem dX9_compare_144 : decode cX9_compare 144 = .ok (.ifCond .eq 7, 3) := by decide +kernel
theorem dX9_compare_147 : decode cX9_compare 147 = .ok (.iconst 3, 1) := by decide +kernel
theorem dX9_compare_148 : decode cX9_compare 148 = .ok (.goto 4, 3) := by decide +kernel
theorem dX9_compare_151 : decode cX9_compare 151 = .ok (.iconst 4, 1) := by decide +kernel
theorem dX9_compare_152 : decode cX9_compare 152 = .ok (.istore 4, 2) := by decide +kernel
theorem dX9_compare_154 : decode cX9_compare 154 = .ok (.aload_n 0, 1) := by decide +kernel
theorem dX9_compare_155 : decode cX9_compare 155 = .ok (.invokevirtual 177, 3) := by decide +kernel
theorem dX9_compare_158 : decode cX9_compare 158 = .ok (.ifCond .ne 5, 3) := by decide +kernel
theorem dX9_compare_161 : decode cX9_compare 161 = .ok (.iconst 0, 1) := by decide +kernel
theorem dX9_compare_162 : decode cX9_compare 162 = .ok (.ireturn, 1) := by decide +kernel
theorem dX9_compare_163 : decode cX9_compare 163 = .ok (.aload_n 0, 1) := by decide +kernel
theorem dX9_compare_164 : decode cX9_compare 164 = .ok (.bipush 6, 2) := by decide +kernel
theorem dX9_compare_166 : decode cX9_compare 166 = .ok (.iload 4, 2) := by decide +kernel
theorem dX9_compare_168 : decode cX9_compare 168 = .ok (.iadd, 1) := by decide +kernel
theorem dX9_compare_169 : decode cX9_compare 169 = .ok (.iconst 0, 1) := by decide +kernel
theorem dX9_compare_170 : decode cX9_compare 170 = .ok (.invokevirtual 156, 3) := by decide +kernel
theorem dX9_compare_173 : decode cX9_compare 173 = .ok (.iconst 1, 1) := by decide +kernel
theorem dX9_compare_174 : decode cX9_compare 174 = .ok (.ireturn, 1) := by decide +kernel
theorem dX9_couldBe_0 : decode cX9_couldBe 0 = .ok (.iconst 0, 1) := by decide +kernel
theorem dX9_couldBe_1 : decode cX9_couldBe 1 = .ok (.istore_n 3, 1) := by decide +kernel
theorem dX9_couldBe_2 : decode cX9_couldBe 2 = .ok (.iconst 0, 1) := by decide +kernel
theorem dX9_couldBe_3 : decode cX9_couldBe 3 = .ok (.istore 4, 2) := by decide +kernel
theorem dX9_couldBe_5 : decode cX9_couldBe 5 = .ok (.iconst 0, 1) := by decide +kernel
theorem dX9_couldBe_6 : decode cX9_couldBe 6 = .ok (.istore 5, 2) := by decide +kernel
theorem dX9_couldBe_8 : decode cX9_couldBe 8 = .ok (.iload 5, 2) := by decide +kernel
theorem dX9_couldBe_10 : decode cX9_couldBe 10 = .ok (.aload_n 0, 1) := by decide +kernel
theorem dX9_couldBe_11 : decode cX9_couldBe 11 = .ok (.getfield 42, 3) := by decide +kernel
theorem dX9_couldBe_14 : decode cX9_couldBe 14 = .ok (.iconst 0, 1) := by decide +kernel
theorem dX9_couldBe_15 : decode cX9_couldBe 15 = .ok (.iaload, 1) := by decide +kernel
theorem dX9_couldBe_16 : decode cX9_couldBe 16 = .ok (.if_icmp .ge 100, 3) := by decide +kernel
theorem dX9_couldBe_19 : decode cX9_couldBe 19 = .ok (.iload_n 1, 1) := by decide +kernel
theorem dX9_couldBe_20 : decode cX9_couldBe 20 = .ok (.iload 5, 2) := by decide +kernel
theorem dX9_couldBe_22 : decode cX9_couldBe 22 = .ok (.invokestatic 349, 3) := by decide +kernel
theorem dX9_couldBe_25 : decode cX9_couldBe 25 = .ok (.ifCond .ne 6, 3) := by decide +kernel
theorem dX9_couldBe_28 : decode cX9_couldBe 28 = .ok (.goto 82, 3) := by decide +kernel
theorem dX9_couldBe_31 : decode cX9_couldBe 31 = .ok (.aload_n 0, 1) := by decide +kernel
theorem dX9_couldBe_32 : decode cX9_couldBe 32 = .ok (.iload 5, 2) := by decide +kernel
theorem dX9_couldBe_34 : decode cX9_couldBe 34 = .ok (.iconst 3, 1) := by decide +kernel
theorem dX9_couldBe_35 : decode cX9_couldBe 35 = .ok (.invokevirtual 268, 3) := by decide +kernel
theorem dX9_couldBe_38 : decode cX9_couldBe 38 = .ok (.istore 6, 2) := by decide +kernel
theorem dX9_couldBe_40 : decode cX9_couldBe 40 = .ok (.aload_n 0, 1) := by decide +kernel
theorem dX9_couldBe_41 : decode cX9_couldBe 41 = .ok (.iload 5, 2) := by decide +kernel
theorem dX9_couldBe_43 : decode cX9_couldBe 43 = .ok (.iconst 2, 1) := by decide +kernel
theorem dX9_couldBe_44 : decode cX9_couldBe 44 = .ok (.invokevirtual 268, 3) := by decide +kernel
theorem dX9_couldBe_47 : decode cX9_couldBe 47 = .ok (.ifCond .eq 39, 3) := by decide +kernel
theorem dX9_couldBe_50 : decode cX9_couldBe 50 = .ok (.aload_n 0, 1) := by decide +kernel
theorem dX9_couldBe_51 : decode cX9_couldBe 51 = .ok (.iload 5, 2) := by decide +kernel
theorem dX9_couldBe_53 : decode cX9_couldBe 53 = .ok (.iconst 4, 1) := by decide +kernel
theorem dX9_couldBe_54 : decode cX9_couldBe 54 = .ok (.invokevirtual 268, 3) := by decide +kernel
theorem dX9_couldBe_57 : decode cX9_couldBe 57 = .ok (.iconst 2, 1) := by decide +kernel
theorem dX9_couldBe_58 : decode cX9_couldBe 58 = .ok (.if_icmp .eq 28, 3) := by decide +kernel
theorem dX9_couldBe_61 : decode cX9_couldBe 61 = .ok (.iload 6, 2) := by decide +kernel
theorem dX9_couldBe_63 : decode cX9_couldBe 63 = .ok (.ifCond .lt 25, 3) := by decide +kernel
theorem dX9_couldBe_66 : decode cX9_couldBe 66 = .ok (.iload_n 1, 1) := by decide +kernel
theorem dX9_couldBe_67 : decode cX9_couldBe 67 = .ok (.iload 6, 2) := by decide +kernel
theorem dX9_couldBe_69 : decode cX9_couldBe 69 = .ok (.invokestatic 349, 3) := by decide +kernel
theorem dX9_couldBe_72 : decode cX9_couldBe 72 = .ok (.ifCond .ne 16, 3) := by decide +kernel
theorem dX9_couldBe_75 : decode cX9_couldBe 75 = .ok (.aload_n 0, 1) := by decide +kernel
theorem dX9_couldBe_76 : decode cX9_couldBe 76 = .ok (.iload 6, 2) := by decide +kernel
theorem dX9_couldBe_78 : decode cX9_couldBe 78 = .ok (.iconst 4, 1) := by decide +kernel
theorem dX9_couldBe_79 : decode cX9_couldBe 79 = .ok (.invokevirtual 268, 3) := by decide +kernel
theorem dX9_couldBe_82 : decode cX9_couldBe 82 = .ok (.iconst 2, 1) := by decide +kernel
theorem dX9_couldBe_83 : decode cX9_couldBe 83 = .ok (.if_icmp .eq 5, 3) := by decide +kernel
theorem dX9_couldBe_86 : decode cX9_couldBe 86 = .ok (.iconst 0, 1) := by decide +kernel
theorem dX9_couldBe_87 : decode cX9_couldBe 87 = .ok (.ireturn, 1) := by decide +kernel
theorem dX9_couldBe_88 : decode cX9_couldBe 88 = .ok (.iload_n 3, 1) := by decide +kernel
theorem dX9_couldBe_89 : decode cX9_couldBe 89 = .ok (.aload_n 0, 1) := by decide +kernel
theorem dX9_couldBe_90 : decode cX9_couldBe 90 = .ok (.iload 5, 2) := by decide +kernel
theorem dX9_couldBe_92 : decode cX9_couldBe 92 = .ok (.iconst 1, 1) := by decide +kernel
theorem dX9_couldBe_93 : decode cX9_couldBe 93 = .ok (.invokevirtual 268, 3) := by decide +kernel
theorem dX9_couldBe_96 : decode cX9_couldBe 96 = .ok (.iadd, 1) := by decide +kernel
theorem dX9_couldBe_97 : decode cX9_couldBe 97 = .ok (.istore_n 3, 1) := by decide +kernel
theorem dX9_couldBe_98 : decode cX9_couldBe 98 = .ok (.iload 4, 2) := by decide +kernel
theorem dX9_couldBe_100 : decode cX9_couldBe 100 = .ok (.aload_n 0, 1) := by decide +kernel
theorem dX9_couldBe_101 : decode cX9_couldBe 101 = .ok (.iload 5, 2) := by decide +kernel
theorem dX9_couldBe_103 : decode cX9_couldBe 103 = .ok (.iconst 0, 1) := by decide +kernel
theorem dX9_couldBe_104 : decode cX9_couldBe 104 = .ok (.invokevirtual 275, 3) := by decide +kernel
theorem dX9_couldBe_107 : decode cX9_couldBe 107 = .ok (.iadd, 1) := by decide +kernel
theorem dX9_couldBe_108 : decode cX9_couldBe 108 = .ok (.istore 4, 2) := by decide +kernel
theorem dX9_couldBe_110 : decode cX9_couldBe 110 = .ok (.iinc 5 1, 3) := by decide +kernel
theorem dX9_couldBe_113 : decode cX9_couldBe 113 = .ok (.goto (-105), 3) := by decide +kernel
theorem dX9_couldBe_116 : decode cX9_couldBe 116 = .ok (.iload_n 3, 1) := by decide +kernel
theorem dX9_couldBe_117 : decode cX9_couldBe 117 = .ok (.aload_n 0, 1) := by decide +kernel
theorem dX9_couldBe_118 : decode cX9_couldBe 118 = .ok (.getfield 42, 3) := by decide +kernel
theorem dX9_couldBe_121 : decode cX9_couldBe 121 = .ok (.iconst 2, 1) := by decide +kernel
theorem dX9_couldBe_122 : decode cX9_couldBe 122 = .ok (.iaload, 1) := by decide +kernel
theorem dX9_couldBe_123 : decode cX9_couldBe 123 = .ok (.if_icmp .gt 13, 3) := by decide +kernel
theorem dX9_couldBe_126 : decode cX9_couldBe 126 = .ok (.iload 4, 2) := by decide +kernel
theorem dX9_couldBe_128 : decode cX9_couldBe 128 = .ok (.iload_n 2, 1) := by decide +kernel
theorem dX9_couldBe_129 : decode cX9_couldBe 129 = .ok (.if_icmp .ne 7, 3) := by decide +kernel
theorem dX9_couldBe_132 : decode cX9_couldBe 132 = .ok (.iconst 1, 1) := by decide +kernel
theorem dX9_couldBe_133 : decode cX9_couldBe 133 = .ok (.goto 4, 3) := by decide +kernel
theorem dX9_couldBe_136 : decode cX9_couldBe 136 = .ok (.iconst 0, 1) := by decide +kernel
theorem dX9_couldBe_137 : decode cX9_couldBe 137 = .ok (.ireturn, 1) := by decide +kernel
theorem dX9_count_0 : decode cX9_count 0 = .ok (.iload_n 1, 1) := by decide +kernel
theorem dX9_count_1 : decode cX9_count 1 = .ok (.tableswitch 132 0 10 #[59, 59, 66, 71, 78, 87, 96, 104, 112, 117, 125], 59) := by decide +kernel
theorem dX9_count_60 : decode cX9_count 60 = .ok (.aload_n 0, 1) := by decide +kernel
theorem dX9_count_61 : decode cX9_count 61 = .ok (.getfield 42, 3) := by decide +kernel
theorem dX9_count_64 : decode cX9_count 64 = .ok (.iload_n 1, 1) := by decide +kernel
theorem dX9_count_65 : decode cX9_count 65 = .ok (.iaload, 1) := by decide +kernel
theorem dX9_count_66 : decode cX9_count 66 = .ok (.ireturn, 1) := by decide +kernel
theorem dX9_count_67 : decode cX9_count 67 = .ok (.aload_n 0, 1) := by decide +kernel
theorem dX9_count_68 : decode cX9_count 68 = .ok (.getfield 247, 3) := by decide +kernel
theorem dX9_count_71 : decode cX9_count 71 = .ok (.ireturn, 1) := by decide +kernel
theorem dX9_count_72 : decode cX9_count 72 = .ok (.aload_n 0, 1) := by decide +kernel
theorem dX9_count_73 : decode cX9_count 73 = .ok (.getfield 42, 3) := by decide +kernel
theorem dX9_count_76 : decode cX9_count 76 = .ok (.iconst 3, 1) := by decide +kernel
theorem dX9_count_77 : decode cX9_count 77 = .ok (.iaload, 1) := by decide +kernel
theorem dX9_count_78 : decode cX9_count 78 = .ok (.ireturn, 1) := by decide +kernel
theorem dX9_count_79 : decode cX9_count 79 = .ok (.aload_n 0, 1) := by decide +kernel
theorem dX9_count_80 : decode cX9_count 80 = .ok (.iconst 1, 1) := by decide +kernel
theorem dX9_count_81 : decode cX9_count 81 = .ok (.invokevirtual 313, 3) := by decide +kernel
theorem dX9_count_84 : decode cX9_count 84 = .ok (.invokestatic 316, 3) := by decide +kernel
theorem dX9_count_87 : decode cX9_count 87 = .ok (.ireturn, 1) := by decide +kernel
theorem dX9_count_88 : decode cX9_count 88 = .ok (.aload_n 0, 1) := by decide +kernel
theorem dX9_count_89 : decode cX9_count 89 = .ok (.iconst 2, 1) := by decide +kernel
theorem dX9_count_90 : decode cX9_count 90 = .ok (.invokevirtual 313, 3) := by decide +kernel
theorem dX9_count_93 : decode cX9_count 93 = .ok (.invokestatic 316, 3) := by decide +kernel
theorem dX9_count_96 : decode cX9_count 96 = .ok (.ireturn, 1) := by decide +kernel
theorem dX9_count_97 : decode cX9_count 97 = .ok (.aload_n 0, 1) := by decide +kernel
theorem dX9_count_98 : decode cX9_count 98 = .ok (.getfield 42, 3) := by decide +kernel
theorem dX9_count_101 : decode cX9_count 101 = .ok (.bipush 8, 2) := by decide +kernel
theorem dX9_count_103 : decode cX9_count 103 = .ok (.iaload, 1) := by decide +kernel
theorem dX9_count_104 : decode cX9_count 104 = .ok (.ireturn, 1) := by decide +kernel
theorem dX9_count_105 : decode cX9_count 105 = .ok (.aload_n 0, 1) := by decide +kernel
theorem dX9_count_106 : decode cX9_count 106 = .ok (.getfield 42, 3) := by decide +kernel
theorem dX9_count_109 : decode cX9_count 109 = .ok (.bipush 9, 2) := by decide +kernel
theorem dX9_count_111 : decode cX9_count 111 = .ok (.iaload, 1) := by decide +kernel
theorem dX9_count_112 : decode cX9_count 112 = .ok (.ireturn, 1) := by decide +kernel
theorem dX9_count_113 : decode cX9_count 113 = .ok (.aload_n 0, 1) := by decide +kernel
theorem dX9_count_114 : decode cX9_count 114 = .ok (.getfield 79, 3) := by decide +kernel
theorem dX9_count_117 : decode cX9_count 117 = .ok (.ireturn, 1) := by decide +kernel
theorem dX9_count_118 : decode cX9_count 118 = .ok (.aload_n 0, 1) := by decide +kernel
theorem dX9_count_119 : decode cX9_count 119 = .ok (.getfield 42, 3) := by decide +kernel
theorem dX9_count_122 : decode cX9_count 122 = .ok (.bipush 7, 2) := by decide +kernel
theorem dX9_count_124 : decode cX9_count 124 = .ok (.iaload, 1) := by decide +kernel
theorem dX9_count_125 : decode cX9_count 125 = .ok (.ireturn, 1) := by decide +kernel
theorem dX9_count_126 : decode cX9_count 126 = .ok (.aload_n 0, 1) := by decide +kernel
theorem dX9_count_127 : decode cX9_count 127 = .ok (.getfield 42, 3) := by decide +kernel
theorem dX9_count_130 : decode cX9_count 130 = .ok (.iconst 2, 1) := by decide +kernel
theorem dX9_count_131 : decode cX9_count 131 = .ok (.iaload, 1) := by decide +kernel
theorem dX9_count_132 : decode cX9_count 132 = .ok (.ireturn, 1) := by decide +kernel
theorem dX9_count_133 : decode cX9_count 133 = .ok (.iconst (-1), 1) := by decide +kernel
theorem dX9_count_134 : decode cX9_count 134 = .ok (.ireturn, 1) := by decide +kernel
theorem dX9_dawn_0 : decode cX9_dawn 0 = .ok (.aload_n 0, 1) := by decide +kernel
theorem dX9_dawn_1 : decode cX9_dawn 1 = .ok (.invokevirtual 301, 3) := by decide +kernel
theorem dX9_dawn_4 : decode cX9_dawn 4 = .ok (.ifCond .ne 7, 3) := by decide +kernel
theorem dX9_dawn_7 : decode cX9_dawn 7 = .ok (.ldc_w 306, 3) := by decide +kernel
theorem dX9_dawn_10 : decode cX9_dawn 10 = .ok (.ireturn, 1) := by decide +kernel
theorem dX9_dawn_11 : decode cX9_dawn 11 = .ok (.aload_n 0, 1) := by decide +kernel
theorem dX9_dawn_12 : decode cX9_dawn 12 = .ok (.getfield 42, 3) := by decide +kernel
theorem dX9_dawn_15 : decode cX9_dawn 15 = .ok (.iconst 5, 1) := by decide +kernel
theorem dX9_dawn_16 : decode cX9_dawn 16 = .ok (.dup2, 1) := by decide +kernel
theorem dX9_dawn_17 : decode cX9_dawn 17 = .ok (.iaload, 1) := by decide +kernel
theorem dX9_dawn_18 : decode cX9_dawn 18 = .ok (.aload_n 0, 1) := by decide +kernel
theorem dX9_dawn_19 : decode cX9_dawn 19 = .ok (.invokevirtual 307, 3) := by decide +kernel
theorem dX9_dawn_22 : decode cX9_dawn 22 = .ok (.iadd, 1) := by decide +kernel
theorem dX9_dawn_23 : decode cX9_dawn 23 = .ok (.iastore, 1) := by decide +kernel
theorem dX9_dawn_24 : decode cX9_dawn 24 = .ok (.aload_n 0, 1) := by decide +kernel
theorem dX9_dawn_25 : decode cX9_dawn 25 = .ok (.getfield 42, 3) := by decide +kernel
theorem dX9_dawn_28 : decode cX9_dawn 28 = .ok (.bipush 6, 2) := by decide +kernel
theorem dX9_dawn_30 : decode cX9_dawn 30 = .ok (.dup2, 1) := by decide +kernel
theorem dX9_dawn_31 : decode cX9_dawn 31 = .ok (.iaload, 1) := by decide +kernel
theorem dX9_dawn_32 : decode cX9_dawn 32 = .ok (.aload_n 0, 1) := by decide +kernel
theorem dX9_dawn_33 : decode cX9_dawn 33 = .ok (.getfield 42, 3) := by decide +kernel
theorem dX9_dawn_36 : decode cX9_dawn 36 = .ok (.iconst 4, 1) := by decide +kernel
theorem dX9_dawn_37 : decode cX9_dawn 37 = .ok (.iaload, 1) := by decide +kernel
theorem dX9_dawn_38 : decode cX9_dawn 38 = .ok (.iadd, 1) := by decide +kernel
theorem dX9_dawn_39 : decode cX9_dawn 39 = .ok (.iastore, 1) := by decide +kernel
theorem dX9_dawn_40 : decode cX9_dawn 40 = .ok (.aload_n 0, 1) := by decide +kernel
theorem dX9_dawn_41 : decode cX9_dawn 41 = .ok (.getfield 42, 3) := by decide +kernel
theorem dX9_dawn_44 : decode cX9_dawn 44 = .ok (.bipush 7, 2) := by decide +kernel
theorem dX9_dawn_46 : decode cX9_dawn 46 = .ok (.dup2, 1) := by decide +kernel
theorem dX9_dawn_47 : decode cX9_dawn 47 = .ok (.iaload, 1) := by decide +kernel
theorem dX9_dawn_48 : decode cX9_dawn 48 = .ok (.iconst 1, 1) := by decide +kernel
theorem dX9_dawn_49 : decode cX9_dawn 49 = .ok (.iadd, 1) := by decide +kernel
theorem dX9_dawn_50 : decode cX9_dawn 50 = .ok (.iastore, 1) := by decide +kernel
theorem dX9_dawn_51 : decode cX9_dawn 51 = .ok (.aload_n 0, 1) := by decide +kernel
theorem dX9_dawn_52 : decode cX9_dawn 52 = .ok (.invokevirtual 310, 3) := by decide +kernel
theorem dX9_dawn_55 : decode cX9_dawn 55 = .ok (.aload_n 0, 1) := by decide +kernel
theorem dX9_dawn_56 : decode cX9_dawn 56 = .ok (.getfield 42, 3) := by decide +kernel
theorem dX9_dawn_59 : decode cX9_dawn 59 = .ok (.iconst 5, 1) := by decide +kernel
theorem dX9_dawn_60 : decode cX9_dawn 60 = .ok (.iaload, 1) := by decide +kernel
theorem dX9_dawn_61 : decode cX9_dawn 61 = .ok (.ireturn, 1) := by decide +kernel
theorem dX9_day_0 : decode cX9_day 0 = .ok (.aload_n 0, 1) := by decide +kernel
theorem dX9_day_1 : decode cX9_day 1 = .ok (.invokevirtual 301, 3) := by decide +kernel
theorem dX9_day_4 : decode cX9_day 4 = .ok (.ifCond .eq 11, 3) := by decide +kernel
theorem dX9_day_7 : decode cX9_day 7 = .ok (.aload_n 0, 1) := by decide +kernel
theorem dX9_day_8 : decode cX9_day 8 = .ok (.iload_n 1, 1) := by decide +kernel
theorem dX9_day_9 : decode cX9_day 9 = .ok (.invokevirtual 335, 3) := by decide +kernel
theorem dX9_day_12 : decode cX9_day 12 = .ok (.ifCond .ne 7, 3) := by decide +kernel
theorem dX9_day_15 : decode cX9_day 15 = .ok (.ldc_w 306, 3) := by decide +kernel
theorem dX9_day_18 : decode cX9_day 18 = .ok (.ireturn, 1) := by decide +kernel
theorem dX9_day_19 : decode cX9_day 19 = .ok (.aload_n 0, 1) := by decide +kernel
theorem dX9_day_20 : decode cX9_day 20 = .ok (.getfield 42, 3) := by decide +kernel
theorem dX9_day_23 : decode cX9_day 23 = .ok (.iconst 4, 1) := by decide +kernel
theorem dX9_day_24 : decode cX9_day 24 = .ok (.iaload, 1) := by decide +kernel
theorem dX9_day_25 : decode cX9_day 25 = .ok (.istore_n 2, 1) := by decide +kernel
theorem dX9_day_26 : decode cX9_day 26 = .ok (.aload_n 0, 1) := by decide +kernel
theorem dX9_day_27 : decode cX9_day 27 = .ok (.iload_n 1, 1) := by decide +kernel
theorem dX9_day_28 : decode cX9_day 28 = .ok (.invokevirtual 338, 3) := by decide +kernel
theorem dX9_day_31 : decode cX9_day 31 = .ok (.pop, 1) := by decide +kernel
theorem dX9_day_32 : decode cX9_day 32 = .ok (.aload_n 0, 1) := by decide +kernel
theorem dX9_day_33 : decode cX9_day 33 = .ok (.getfield 42, 3) := by decide +kernel
theorem dX9_day_36 : decode cX9_day 36 = .ok (.iconst 4, 1) := by decide +kernel
theorem dX9_day_37 : decode cX9_day 37 = .ok (.iaload, 1) := by decide +kernel
theorem dX9_day_38 : decode cX9_day 38 = .ok (.iload_n 2, 1) := by decide +kernel
theorem dX9_day_39 : decode cX9_day 39 = .ok (.isub, 1) := by decide +kernel
theorem dX9_day_40 : decode cX9_day 40 = .ok (.ireturn, 1) := by decide +kernel
theorem dX9_divisor_0 : decode cX9_divisor 0 = .ok (.lload_n 0, 1) := by decide +kernel
theorem dX9_divisor_1 : decode cX9_divisor 1 = .ok (.lconst 0, 1) := by decide +kernel
theorem dX9_divisor_2 : decode cX9_divisor 2 = .ok (.lcmp, 1) := by decide +kernel
theorem dX9_divisor_3 : decode cX9_divisor 3 = .ok (.ifCond .ge 8, 3) := by decide +kernel
theorem dX9_divisor_6 : decode cX9_divisor 6 = .ok (.lload_n 0, 1) := by decide +kernel
theorem dX9_divisor_7 : decode cX9_divisor 7 = .ok (.lneg, 1) := by decide +kernel
theorem dX9_divisor_8 : decode cX9_divisor 8 = .ok (.goto 4, 3) := by decide +kernel
theorem dX9_divisor_11 : decode cX9_divisor 11 = .ok (.lload_n 0, 1) := by decide +kernel
theorem dX9_divisor_12 : decode cX9_divisor 12 = .ok (.lstore 4, 2) := by decide +kernel
theorem dX9_divisor_14 : decode cX9_divisor 14 = .ok (.lload_n 2, 1) := by decide +kernel
theorem dX9_divisor_15 : decode cX9_divisor 15 = .ok (.lconst 0, 1) := by decide +kernel
theorem dX9_divisor_16 : decode cX9_divisor 16 = .ok (.lcmp, 1) := by decide +kernel
theorem dX9_divisor_17 : decode cX9_divisor 17 = .ok (.ifCond .ge 8, 3) := by decide +kernel
theorem dX9_divisor_20 : decode cX9_divisor 20 = .ok (.lload_n 2, 1) := by decide +kernel
theorem dX9_divisor_21 : decode cX9_divisor 21 = .ok (.lneg, 1) := by decide +kernel
theorem dX9_divisor_22 : decode cX9_divisor 22 = .ok (.goto 4, 3) := by decide +kernel
theorem dX9_divisor_25 : decode cX9_divisor 25 = .ok (.lload_n 2, 1) := by decide +kernel
theorem dX9_divisor_26 : decode cX9_divisor 26 = .ok (.lstore 6, 2) := by decide +kernel
theorem dX9_divisor_28 : decode cX9_divisor 28 = .ok (.lload 6, 2) := by decide +kernel
theorem dX9_divisor_30 : decode cX9_divisor 30 = .ok (.lconst 0, 1) := by decide +kernel
theorem dX9_divisor_31 : decode cX9_divisor 31 = .ok (.lcmp, 1) := by decide +kernel
theorem dX9_divisor_32 : decode cX9_divisor 32 = .ok (.ifCond .eq 21, 3) := by decide +kernel
theorem dX9_divisor_35 : decode cX9_divisor 35 = .ok (.lload 4, 2) := by decide +kernel
theorem dX9_divisor_37 : decode cX9_divisor 37 = .ok (.lload 6, 2) := by decide +kernel
theorem dX9_divisor_39 : decode cX9_divisor 39 = .ok (.lrem, 1) := by decide +kernel
theorem dX9_divisor_40 : decode cX9_divisor 40 = .ok (.lstore 8, 2) := by decide +kernel
theorem dX9_divisor_42 : decode cX9_divisor 42 = .ok (.lload 6, 2) := by decide +kernel
theorem dX9_divisor_44 : decode cX9_divisor 44 = .ok (.lstore 4, 2) := by decide +kernel
theorem dX9_divisor_46 : decode cX9_divisor 46 = .ok (.lload 8, 2) := by decide +kernel
theorem dX9_divisor_48 : decode cX9_divisor 48 = .ok (.lstore 6, 2) := by decide +kernel
theorem dX9_divisor_50 : decode cX9_divisor 50 = .ok (.goto (-22), 3) := by decide +kernel
theorem dX9_divisor_53 : decode cX9_divisor 53 = .ok (.lload 4, 2) := by decide +kernel
theorem dX9_divisor_55 : decode cX9_divisor 55 = .ok (.lreturn, 1) := by decide +kernel
theorem dX9_draw_0 : decode cX9_draw 0 = .ok (.aload_n 0, 1) := by decide +kernel
theorem dX9_draw_1 : decode cX9_draw 1 = .ok (.getfield 42, 3) := by decide +kernel
theorem dX9_draw_4 : decode cX9_draw 4 = .ok (.bipush 9, 2) := by decide +kernel
theorem dX9_draw_6 : decode cX9_draw 6 = .ok (.aload_n 0, 1) := by decide +kernel
theorem dX9_draw_7 : decode cX9_draw 7 = .ok (.getfield 42, 3) := by decide +kernel
theorem dX9_draw_10 : decode cX9_draw 10 = .ok (.bipush 9, 2) := by decide +kernel
theorem dX9_draw_12 : decode cX9_draw 12 = .ok (.iaload, 1) := by decide +kernel
theorem dX9_draw_13 : decode cX9_draw 13 = .ok (.i2l, 1) := by decide +kernel
theorem dX9_draw_14 : decode cX9_draw 14 = .ok (.ldc2_w 285, 3) := by decide +kernel
theorem dX9_draw_17 : decode cX9_draw 17 = .ok (.lmul, 1) := by decide +kernel
theorem dX9_draw_18 : decode cX9_draw 18 = .ok (.ldc2_w 287, 3) := by decide +kernel
theorem dX9_draw_21 : decode cX9_draw 21 = .ok (.ladd, 1) := by decide +kernel
theorem dX9_draw_22 : decode cX9_draw 22 = .ok (.ldc2_w 289, 3) := by decide +kernel
theorem dX9_draw_25 : decode cX9_draw 25 = .ok (.lrem, 1) := by decide +kernel
theorem dX9_draw_26 : decode cX9_draw 26 = .ok (.l2i, 1) := by decide +kernel
theorem dX9_draw_27 : decode cX9_draw 27 = .ok (.iastore, 1) := by decide +kernel
theorem dX9_draw_28 : decode cX9_draw 28 = .ok (.aload_n 0, 1) := by decide +kernel
theorem dX9_draw_29 : decode cX9_draw 29 = .ok (.getfield 42, 3) := by decide +kernel
theorem dX9_draw_32 : decode cX9_draw 32 = .ok (.bipush 9, 2) := by decide +kernel
theorem dX9_draw_34 : decode cX9_draw 34 = .ok (.iaload, 1) := by decide +kernel
theorem dX9_draw_35 : decode cX9_draw 35 = .ok (.ldc_w 291, 3) := by decide +kernel
theorem dX9_draw_38 : decode cX9_draw 38 = .ok (.idiv, 1) := by decide +kernel
theorem dX9_draw_39 : decode cX9_draw 39 = .ok (.iload_n 1, 1) := by decide +kernel
theorem dX9_draw_40 : decode cX9_draw 40 = .ok (.irem, 1) := by decide +kernel
theorem dX9_draw_41 : decode cX9_draw 41 = .ok (.ireturn, 1) := by decide +kernel
theorem dX9_end_0 : decode cX9_end 0 = .ok (.iload_n 1, 1) := by decide +kernel
theorem dX9_end_1 : decode cX9_end 1 = .ok (.ifCond .lt 11, 3) := by decide +kernel
theorem dX9_end_4 : decode cX9_end 4 = .ok (.iload_n 1, 1) := by decide +kernel
theorem dX9_end_5 : decode cX9_end 5 = .ok (.aload_n 0, 1) := by decide +kernel
theorem dX9_end_6 : decode cX9_end 6 = .ok (.getfield 79, 3) := by decide +kernel
theorem dX9_end_9 : decode cX9_end 9 = .ok (.if_icmp .le 5, 3) := by decide +kernel
theorem dX9_end_12 : decode cX9_end 12 = .ok (.iconst (-1), 1) := by decide +kernel
theorem dX9_end_13 : decode cX9_end 13 = .ok (.ireturn, 1) := by decide +kernel
theorem dX9_end_14 : decode cX9_end 14 = .ok (.aload_n 0, 1) := by decide +kernel
theorem dX9_end_15 : decode cX9_end 15 = .ok (.iload_n 1, 1) := by decide +kernel
theorem dX9_end_16 : decode cX9_end 16 = .ok (.putfield 79, 3) := by decide +kernel
theorem dX9_end_19 : decode cX9_end 19 = .ok (.iload_n 1, 1) := by decide +kernel
theorem dX9_end_20 : decode cX9_end 20 = .ok (.ireturn, 1) := by decide +kernel
theorem dX9_fact_0 : decode cX9_fact 0 = .ok (.iconst 1, 1) := by decide +kernel
theorem dX9_fact_1 : decode cX9_fact 1 = .ok (.istore_n 1, 1) := by decide +kernel
theorem dX9_fact_2 : decode cX9_fact 2 = .ok (.iload_n 1, 1) := by decide +kernel
theorem dX9_fact_3 : decode cX9_fact 3 = .ok (.ifCond .eq 72, 3) := by decide +kernel
theorem dX9_fact_6 : decode cX9_fact 6 = .ok (.iconst 0, 1) := by decide +kernel
theorem dX9_fact_7 : decode cX9_fact 7 = .ok (.istore_n 1, 1) := by decide +kernel
theorem dX9_fact_8 : decode cX9_fact 8 = .ok (.aload_n 0, 1) := by decide +kernel
theorem dX9_fact_9 : decode cX9_fact 9 = .ok (.invokevirtual 93, 3) := by decide +kernel
theorem dX9_fact_12 : decode cX9_fact 12 = .ok (.istore_n 2, 1) := by decide +kernel
theorem dX9_fact_13 : decode cX9_fact 13 = .ok (.aload_n 0, 1) := by decide +kernel
theorem dX9_fact_14 : decode cX9_fact 14 = .ok (.ldc2_w 180, 3) := by decide +kernel
theorem dX9_fact_17 : decode cX9_fact 17 = .ok (.invokevirtual 101, 3) := by decide +kernel
theorem dX9_fact_20 : decode cX9_fact 20 = .ok (.ifCond .eq 23, 3) := by decide +kernel
theorem dX9_fact_23 : decode cX9_fact 23 = .ok (.aload_n 0, 1) := by decide +kernel
theorem dX9_fact_24 : decode cX9_fact 24 = .ok (.bipush 11, 2) := by decide +kernel
theorem dX9_fact_26 : decode cX9_fact 26 = .ok (.invokevirtual 182, 3) := by decide +kernel
theorem dX9_fact_29 : decode cX9_fact 29 = .ok (.ifCond .ne 5, 3) := by decide +kernel
theorem dX9_fact_32 : decode cX9_fact 32 = .ok (.iconst 0, 1) := by decide +kernel
theorem dX9_fact_33 : decode cX9_fact 33 = .ok (.ireturn, 1) := by decide +kernel
theorem dX9_fact_34 : decode cX9_fact 34 = .ok (.aload_n 0, 1) := by decide +kernel
theorem dX9_fact_35 : decode cX9_fact 35 = .ok (.invokevirtual 105, 3) := by decide +kernel
