theorem dX9_look_8 : decode cX9_look 8 = .ok (.iconst (-1), 1) := by decide +kernel
theorem dX9_look_9 : decode cX9_look 9 = .ok (.ireturn, 1) := by decide +kernel
theorem dX9_look_10 : decode cX9_look 10 = .ok (.aload_n 0, 1) := by decide +kernel
theorem dX9_look_11 : decode cX9_look 11 = .ok (.iload_n 1, 1) := by decide +kernel
theorem dX9_look_12 : decode cX9_look 12 = .ok (.invokevirtual 272, 3) := by decide +kernel
theorem dX9_look_15 : decode cX9_look 15 = .ok (.ifCond .ne 6, 3) := by decide +kernel
theorem dX9_look_18 : decode cX9_look 18 = .ok (.bipush (-2), 2) := by decide +kernel
theorem dX9_look_20 : decode cX9_look 20 = .ok (.ireturn, 1) := by decide +kernel
theorem dX9_look_21 : decode cX9_look 21 = .ok (.aload_n 0, 1) := by decide +kernel
theorem dX9_look_22 : decode cX9_look 22 = .ok (.iload_n 1, 1) := by decide +kernel
theorem dX9_look_23 : decode cX9_look 23 = .ok (.invokevirtual 295, 3) := by decide +kernel
theorem dX9_look_26 : decode cX9_look 26 = .ok (.ifCond .ne 6, 3) := by decide +kernel
theorem dX9_look_29 : decode cX9_look 29 = .ok (.bipush (-3), 2) := by decide +kernel
theorem dX9_look_31 : decode cX9_look 31 = .ok (.ireturn, 1) := by decide +kernel
theorem dX9_look_32 : decode cX9_look 32 = .ok (.aload_n 0, 1) := by decide +kernel
theorem dX9_look_33 : decode cX9_look 33 = .ok (.iload_n 1, 1) := by decide +kernel
theorem dX9_look_34 : decode cX9_look 34 = .ok (.invokevirtual 298, 3) := by decide +kernel
theorem dX9_look_37 : decode cX9_look 37 = .ok (.ifCond .eq 7, 3) := by decide +kernel
theorem dX9_look_40 : decode cX9_look 40 = .ok (.iconst 1, 1) := by decide +kernel
theorem dX9_look_41 : decode cX9_look 41 = .ok (.goto 4, 3) := by decide +kernel
theorem dX9_look_44 : decode cX9_look 44 = .ok (.iconst 0, 1) := by decide +kernel
theorem dX9_look_45 : decode cX9_look 45 = .ok (.ireturn, 1) := by decide +kernel
theorem dX9_looks_0 : decode cX9_looks 0 = .ok (.bipush 44, 2) := by decide +kernel
theorem dX9_looks_2 : decode cX9_looks 2 = .ok (.bipush 6, 2) := by decide +kernel
theorem dX9_looks_4 : decode cX9_looks 4 = .ok (.iload_n 1, 1) := by decide +kernel
theorem dX9_looks_5 : decode cX9_looks 5 = .ok (.imul, 1) := by decide +kernel
theorem dX9_looks_6 : decode cX9_looks 6 = .ok (.iadd, 1) := by decide +kernel
theorem dX9_looks_7 : decode cX9_looks 7 = .ok (.istore_n 2, 1) := by decide +kernel
theorem dX9_looks_8 : decode cX9_looks 8 = .ok (.aload_n 0, 1) := by decide +kernel
theorem dX9_looks_9 : decode cX9_looks 9 = .ok (.getfield 42, 3) := by decide +kernel
theorem dX9_looks_12 : decode cX9_looks 12 = .ok (.iload_n 2, 1) := by decide +kernel
theorem dX9_looks_13 : decode cX9_looks 13 = .ok (.iconst 5, 1) := by decide +kernel
theorem dX9_looks_14 : decode cX9_looks 14 = .ok (.iadd, 1) := by decide +kernel
theorem dX9_looks_15 : decode cX9_looks 15 = .ok (.dup2, 1) := by decide +kernel
theorem dX9_looks_16 : decode cX9_looks 16 = .ok (.iaload, 1) := by decide +kernel
theorem dX9_looks_17 : decode cX9_looks 17 = .ok (.iconst 1, 1) := by decide +kernel
theorem dX9_looks_18 : decode cX9_looks 18 = .ok (.iadd, 1) := by decide +kernel
theorem dX9_looks_19 : decode cX9_looks 19 = .ok (.iastore, 1) := by decide +kernel
theorem dX9_looks_20 : decode cX9_looks 20 = .ok (.aload_n 0, 1) := by decide +kernel
theorem dX9_looks_21 : decode cX9_looks 21 = .ok (.getfield 42, 3) := by decide +kernel
theorem dX9_looks_24 : decode cX9_looks 24 = .ok (.iconst 3, 1) := by decide +kernel
theorem dX9_looks_25 : decode cX9_looks 25 = .ok (.dup2, 1) := by decide +kernel
theorem dX9_looks_26 : decode cX9_looks 26 = .ok (.iaload, 1) := by decide +kernel
theorem dX9_looks_27 : decode cX9_looks 27 = .ok (.aload_n 0, 1) := by decide +kernel
theorem dX9_looks_28 : decode cX9_looks 28 = .ok (.getfield 42, 3) := by decide +kernel
theorem dX9_looks_31 : decode cX9_looks 31 = .ok (.iload_n 2, 1) := by decide +kernel
theorem dX9_looks_32 : decode cX9_looks 32 = .ok (.iconst 1, 1) := by decide +kernel
theorem dX9_looks_33 : decode cX9_looks 33 = .ok (.iadd, 1) := by decide +kernel
theorem dX9_looks_34 : decode cX9_looks 34 = .ok (.iaload, 1) := by decide +kernel
theorem dX9_looks_35 : decode cX9_looks 35 = .ok (.isub, 1) := by decide +kernel
theorem dX9_looks_36 : decode cX9_looks 36 = .ok (.iastore, 1) := by decide +kernel
theorem dX9_looks_37 : decode cX9_looks 37 = .ok (.aload_n 0, 1) := by decide +kernel
theorem dX9_looks_38 : decode cX9_looks 38 = .ok (.bipush 100, 2) := by decide +kernel
theorem dX9_looks_40 : decode cX9_looks 40 = .ok (.invokevirtual 292, 3) := by decide +kernel
theorem dX9_looks_43 : decode cX9_looks 43 = .ok (.aload_n 0, 1) := by decide +kernel
theorem dX9_looks_44 : decode cX9_looks 44 = .ok (.getfield 42, 3) := by decide +kernel
theorem dX9_looks_47 : decode cX9_looks 47 = .ok (.iload_n 2, 1) := by decide +kernel
theorem dX9_looks_48 : decode cX9_looks 48 = .ok (.iconst 2, 1) := by decide +kernel
theorem dX9_looks_49 : decode cX9_looks 49 = .ok (.iadd, 1) := by decide +kernel
theorem dX9_looks_50 : decode cX9_looks 50 = .ok (.iaload, 1) := by decide +kernel
theorem dX9_looks_51 : decode cX9_looks 51 = .ok (.if_icmp .lt 5, 3) := by decide +kernel
theorem dX9_looks_54 : decode cX9_looks 54 = .ok (.iconst 0, 1) := by decide +kernel
theorem dX9_looks_55 : decode cX9_looks 55 = .ok (.ireturn, 1) := by decide +kernel
theorem dX9_looks_56 : decode cX9_looks 56 = .ok (.aload_n 0, 1) := by decide +kernel
theorem dX9_looks_57 : decode cX9_looks 57 = .ok (.getfield 42, 3) := by decide +kernel
theorem dX9_looks_60 : decode cX9_looks 60 = .ok (.iload_n 2, 1) := by decide +kernel
theorem dX9_looks_61 : decode cX9_looks 61 = .ok (.iconst 4, 1) := by decide +kernel
theorem dX9_looks_62 : decode cX9_looks 62 = .ok (.iadd, 1) := by decide +kernel
theorem dX9_looks_63 : decode cX9_looks 63 = .ok (.iconst 1, 1) := by decide +kernel
theorem dX9_looks_64 : decode cX9_looks 64 = .ok (.iastore, 1) := by decide +kernel
theorem dX9_looks_65 : decode cX9_looks 65 = .ok (.aload_n 0, 1) := by decide +kernel
theorem dX9_looks_66 : decode cX9_looks 66 = .ok (.getfield 42, 3) := by decide +kernel
theorem dX9_looks_69 : decode cX9_looks 69 = .ok (.iconst 4, 1) := by decide +kernel
theorem dX9_looks_70 : decode cX9_looks 70 = .ok (.dup2, 1) := by decide +kernel
theorem dX9_looks_71 : decode cX9_looks 71 = .ok (.iaload, 1) := by decide +kernel
theorem dX9_looks_72 : decode cX9_looks 72 = .ok (.aload_n 0, 1) := by decide +kernel
theorem dX9_looks_73 : decode cX9_looks 73 = .ok (.iload_n 1, 1) := by decide +kernel
theorem dX9_looks_74 : decode cX9_looks 74 = .ok (.iconst 0, 1) := by decide +kernel
theorem dX9_looks_75 : decode cX9_looks 75 = .ok (.invokevirtual 275, 3) := by decide +kernel
theorem dX9_looks_78 : decode cX9_looks 78 = .ok (.iadd, 1) := by decide +kernel
theorem dX9_looks_79 : decode cX9_looks 79 = .ok (.iastore, 1) := by decide +kernel
theorem dX9_looks_80 : decode cX9_looks 80 = .ok (.iconst 1, 1) := by decide +kernel
theorem dX9_looks_81 : decode cX9_looks 81 = .ok (.ireturn, 1) := by decide +kernel
theorem dX9_makes_0 : decode cX9_makes 0 = .ok (.aload_n 0, 1) := by decide +kernel
theorem dX9_makes_1 : decode cX9_makes 1 = .ok (.getfield 143, 3) := by decide +kernel
theorem dX9_makes_4 : decode cX9_makes 4 = .ok (.bipush 60, 2) := by decide +kernel
theorem dX9_makes_6 : decode cX9_makes 6 = .ok (.if_icmp .ne 10, 3) := by decide +kernel
theorem dX9_makes_9 : decode cX9_makes 9 = .ok (.aload_n 0, 1) := by decide +kernel
theorem dX9_makes_10 : decode cX9_makes 10 = .ok (.iconst 3, 1) := by decide +kernel
theorem dX9_makes_11 : decode cX9_makes 11 = .ok (.iload_n 1, 1) := by decide +kernel
theorem dX9_makes_12 : decode cX9_makes 12 = .ok (.invokevirtual 111, 3) := by decide +kernel
theorem dX9_makes_15 : decode cX9_makes 15 = .ok (.ireturn, 1) := by decide +kernel
theorem dX9_makes_16 : decode cX9_makes 16 = .ok (.aload_n 0, 1) := by decide +kernel
theorem dX9_makes_17 : decode cX9_makes 17 = .ok (.dup, 1) := by decide +kernel
theorem dX9_makes_18 : decode cX9_makes 18 = .ok (.getfield 143, 3) := by decide +kernel
theorem dX9_makes_21 : decode cX9_makes 21 = .ok (.iconst 1, 1) := by decide +kernel
theorem dX9_makes_22 : decode cX9_makes 22 = .ok (.iadd, 1) := by decide +kernel
theorem dX9_makes_23 : decode cX9_makes 23 = .ok (.putfield 143, 3) := by decide +kernel
theorem dX9_makes_26 : decode cX9_makes 26 = .ok (.iconst 1, 1) := by decide +kernel
theorem dX9_makes_27 : decode cX9_makes 27 = .ok (.ireturn, 1) := by decide +kernel
theorem dX9_master_0 : decode cX9_master 0 = .ok (.aload_n 0, 1) := by decide +kernel
theorem dX9_master_1 : decode cX9_master 1 = .ok (.invokevirtual 301, 3) := by decide +kernel
theorem dX9_master_4 : decode cX9_master 4 = .ok (.ifCond .eq 27, 3) := by decide +kernel
theorem dX9_master_7 : decode cX9_master 7 = .ok (.iload_n 1, 1) := by decide +kernel
theorem dX9_master_8 : decode cX9_master 8 = .ok (.i2l, 1) := by decide +kernel
theorem dX9_master_9 : decode cX9_master 9 = .ok (.lconst 0, 1) := by decide +kernel
theorem dX9_master_10 : decode cX9_master 10 = .ok (.ldc2_w 341, 3) := by decide +kernel
theorem dX9_master_13 : decode cX9_master 13 = .ok (.invokestatic 118, 3) := by decide +kernel
theorem dX9_master_16 : decode cX9_master 16 = .ok (.ifCond .eq 15, 3) := by decide +kernel
theorem dX9_master_19 : decode cX9_master 19 = .ok (.iload_n 2, 1) := by decide +kernel
theorem dX9_master_20 : decode cX9_master 20 = .ok (.i2l, 1) := by decide +kernel
theorem dX9_master_21 : decode cX9_master 21 = .ok (.lconst 0, 1) := by decide +kernel
theorem dX9_master_22 : decode cX9_master 22 = .ok (.ldc2_w 278, 3) := by decide +kernel
theorem dX9_master_25 : decode cX9_master 25 = .ok (.invokestatic 118, 3) := by decide +kernel
theorem dX9_master_28 : decode cX9_master 28 = .ok (.ifCond .ne 7, 3) := by decide +kernel
theorem dX9_master_31 : decode cX9_master 31 = .ok (.ldc2_w 393, 3) := by decide +kernel
theorem dX9_master_34 : decode cX9_master 34 = .ok (.lreturn, 1) := by decide +kernel
theorem dX9_master_35 : decode cX9_master 35 = .ok (.aload_n 0, 1) := by decide +kernel
theorem dX9_master_36 : decode cX9_master 36 = .ok (.iconst 0, 1) := by decide +kernel
theorem dX9_master_37 : decode cX9_master 37 = .ok (.invokevirtual 313, 3) := by decide +kernel
theorem dX9_master_40 : decode cX9_master 40 = .ok (.istore_n 3, 1) := by decide +kernel
theorem dX9_master_41 : decode cX9_master 41 = .ok (.iconst 0, 1) := by decide +kernel
theorem dX9_master_42 : decode cX9_master 42 = .ok (.istore 4, 2) := by decide +kernel
theorem dX9_master_44 : decode cX9_master 44 = .ok (.iconst 0, 1) := by decide +kernel
theorem dX9_master_45 : decode cX9_master 45 = .ok (.istore 5, 2) := by decide +kernel
theorem dX9_master_47 : decode cX9_master 47 = .ok (.iload 5, 2) := by decide +kernel
theorem dX9_master_49 : decode cX9_master 49 = .ok (.aload_n 0, 1) := by decide +kernel
theorem dX9_master_50 : decode cX9_master 50 = .ok (.getfield 42, 3) := by decide +kernel
theorem dX9_master_53 : decode cX9_master 53 = .ok (.iconst 0, 1) := by decide +kernel
theorem dX9_master_54 : decode cX9_master 54 = .ok (.iaload, 1) := by decide +kernel
theorem dX9_master_55 : decode cX9_master 55 = .ok (.if_icmp .ge 41, 3) := by decide +kernel
theorem dX9_master_58 : decode cX9_master 58 = .ok (.iload 4, 2) := by decide +kernel
theorem dX9_master_60 : decode cX9_master 60 = .ok (.iload_n 3, 1) := by decide +kernel
theorem dX9_master_61 : decode cX9_master 61 = .ok (.iload 5, 2) := by decide +kernel
theorem dX9_master_63 : decode cX9_master 63 = .ok (.invokestatic 349, 3) := by decide +kernel
theorem dX9_master_66 : decode cX9_master 66 = .ok (.ifCond .eq 20, 3) := by decide +kernel
theorem dX9_master_69 : decode cX9_master 69 = .ok (.iload 4, 2) := by decide +kernel
theorem dX9_master_71 : decode cX9_master 71 = .ok (.invokestatic 316, 3) := by decide +kernel
theorem dX9_master_74 : decode cX9_master 74 = .ok (.bipush 6, 2) := by decide +kernel
theorem dX9_master_76 : decode cX9_master 76 = .ok (.if_icmp .ge 10, 3) := by decide +kernel
theorem dX9_master_79 : decode cX9_master 79 = .ok (.iconst 1, 1) := by decide +kernel
theorem dX9_master_80 : decode cX9_master 80 = .ok (.iload 5, 2) := by decide +kernel
theorem dX9_master_82 : decode cX9_master 82 = .ok (.ishl, 1) := by decide +kernel
theorem dX9_master_83 : decode cX9_master 83 = .ok (.goto 4, 3) := by decide +kernel
theorem dX9_master_86 : decode cX9_master 86 = .ok (.iconst 0, 1) := by decide +kernel
theorem dX9_master_87 : decode cX9_master 87 = .ok (.ior, 1) := by decide +kernel
theorem dX9_master_88 : decode cX9_master 88 = .ok (.istore 4, 2) := by decide +kernel
theorem dX9_master_90 : decode cX9_master 90 = .ok (.iinc 5 1, 3) := by decide +kernel
theorem dX9_master_93 : decode cX9_master 93 = .ok (.goto (-46), 3) := by decide +kernel
theorem dX9_master_96 : decode cX9_master 96 = .ok (.iconst (-1), 1) := by decide +kernel
theorem dX9_master_97 : decode cX9_master 97 = .ok (.istore 5, 2) := by decide +kernel
theorem dX9_master_99 : decode cX9_master 99 = .ok (.lconst 0, 1) := by decide +kernel
theorem dX9_master_100 : decode cX9_master 100 = .ok (.lstore 6, 2) := by decide +kernel
theorem dX9_master_102 : decode cX9_master 102 = .ok (.aload_n 0, 1) := by decide +kernel
theorem dX9_master_103 : decode cX9_master 103 = .ok (.invokevirtual 343, 3) := by decide +kernel
theorem dX9_master_106 : decode cX9_master 106 = .ok (.iconst 0, 1) := by decide +kernel
theorem dX9_master_107 : decode cX9_master 107 = .ok (.istore 8, 2) := by decide +kernel
theorem dX9_master_109 : decode cX9_master 109 = .ok (.iload 8, 2) := by decide +kernel
theorem dX9_master_111 : decode cX9_master 111 = .ok (.iconst 1, 1) := by decide +kernel
theorem dX9_master_112 : decode cX9_master 112 = .ok (.aload_n 0, 1) := by decide +kernel
theorem dX9_master_113 : decode cX9_master 113 = .ok (.getfield 42, 3) := by decide +kernel
theorem dX9_master_116 : decode cX9_master 116 = .ok (.iconst 0, 1) := by decide +kernel
theorem dX9_master_117 : decode cX9_master 117 = .ok (.iaload, 1) := by decide +kernel
theorem dX9_master_118 : decode cX9_master 118 = .ok (.ishl, 1) := by decide +kernel
theorem dX9_master_119 : decode cX9_master 119 = .ok (.if_icmp .ge 158, 3) := by decide +kernel
theorem dX9_master_122 : decode cX9_master 122 = .ok (.iload 8, 2) := by decide +kernel
theorem dX9_master_124 : decode cX9_master 124 = .ok (.iload 4, 2) := by decide +kernel
theorem dX9_master_126 : decode cX9_master 126 = .ok (.iconst (-1), 1) := by decide +kernel
theorem dX9_master_127 : decode cX9_master 127 = .ok (.ixor, 1) := by decide +kernel
theorem dX9_master_128 : decode cX9_master 128 = .ok (.iand, 1) := by decide +kernel
theorem dX9_master_129 : decode cX9_master 129 = .ok (.ifCond .eq 6, 3) := by decide +kernel
theorem dX9_master_132 : decode cX9_master 132 = .ok (.goto 139, 3) := by decide +kernel
theorem dX9_master_135 : decode cX9_master 135 = .ok (.lconst 0, 1) := by decide +kernel
theorem dX9_master_136 : decode cX9_master 136 = .ok (.lstore 9, 2) := by decide +kernel
theorem dX9_master_138 : decode cX9_master 138 = .ok (.iconst 0, 1) := by decide +kernel
theorem dX9_master_139 : decode cX9_master 139 = .ok (.istore 11, 2) := by decide +kernel
theorem dX9_master_141 : decode cX9_master 141 = .ok (.iload 11, 2) := by decide +kernel
theorem dX9_master_143 : decode cX9_master 143 = .ok (.aload_n 0, 1) := by decide +kernel
theorem dX9_master_144 : decode cX9_master 144 = .ok (.getfield 42, 3) := by decide +kernel
theorem dX9_master_147 : decode cX9_master 147 = .ok (.iconst 0, 1) := by decide +kernel
theorem dX9_master_148 : decode cX9_master 148 = .ok (.iaload, 1) := by decide +kernel
theorem dX9_master_149 : decode cX9_master 149 = .ok (.if_icmp .ge 51, 3) := by decide +kernel
theorem dX9_master_152 : decode cX9_master 152 = .ok (.iload 8, 2) := by decide +kernel
theorem dX9_master_154 : decode cX9_master 154 = .ok (.iload 11, 2) := by decide +kernel
theorem dX9_master_156 : decode cX9_master 156 = .ok (.invokestatic 349, 3) := by decide +kernel
theorem dX9_master_159 : decode cX9_master 159 = .ok (.ifCond .ne 6, 3) := by decide +kernel
theorem dX9_master_162 : decode cX9_master 162 = .ok (.goto 32, 3) := by decide +kernel
theorem dX9_master_165 : decode cX9_master 165 = .ok (.aload_n 0, 1) := by decide +kernel
theorem dX9_master_166 : decode cX9_master 166 = .ok (.getfield 42, 3) := by decide +kernel
theorem dX9_master_169 : decode cX9_master 169 = .ok (.bipush 44, 2) := by decide +kernel
theorem dX9_master_171 : decode cX9_master 171 = .ok (.bipush 6, 2) := by decide +kernel
theorem dX9_master_173 : decode cX9_master 173 = .ok (.iload 11, 2) := by decide +kernel
theorem dX9_master_175 : decode cX9_master 175 = .ok (.imul, 1) := by decide +kernel
theorem dX9_master_176 : decode cX9_master 176 = .ok (.iadd, 1) := by decide +kernel
theorem dX9_master_177 : decode cX9_master 177 = .ok (.iconst 4, 1) := by decide +kernel
theorem dX9_master_178 : decode cX9_master 178 = .ok (.iadd, 1) := by decide +kernel
theorem dX9_master_179 : decode cX9_master 179 = .ok (.iconst 2, 1) := by decide +kernel
theorem dX9_master_180 : decode cX9_master 180 = .ok (.iastore, 1) := by decide +kernel
theorem dX9_master_181 : decode cX9_master 181 = .ok (.lload 9, 2) := by decide +kernel
theorem dX9_master_183 : decode cX9_master 183 = .ok (.aload_n 0, 1) := by decide +kernel
theorem dX9_master_184 : decode cX9_master 184 = .ok (.iload 11, 2) := by decide +kernel
theorem dX9_master_186 : decode cX9_master 186 = .ok (.iconst 2, 1) := by decide +kernel
theorem dX9_master_187 : decode cX9_master 187 = .ok (.invokevirtual 275, 3) := by decide +kernel
theorem dX9_master_190 : decode cX9_master 190 = .ok (.i2l, 1) := by decide +kernel
theorem dX9_master_191 : decode cX9_master 191 = .ok (.ladd, 1) := by decide +kernel
theorem dX9_master_192 : decode cX9_master 192 = .ok (.lstore 9, 2) := by decide +kernel
theorem dX9_master_194 : decode cX9_master 194 = .ok (.iinc 11 1, 3) := by decide +kernel
theorem dX9_master_197 : decode cX9_master 197 = .ok (.goto (-56), 3) := by decide +kernel
theorem dX9_master_200 : decode cX9_master 200 = .ok (.aload_n 0, 1) := by decide +kernel
theorem dX9_master_201 : decode cX9_master 201 = .ok (.iload_n 1, 1) := by decide +kernel
theorem dX9_master_202 : decode cX9_master 202 = .ok (.invokevirtual 390, 3) := by decide +kernel
theorem dX9_master_205 : decode cX9_master 205 = .ok (.aload_n 0, 1) := by decide +kernel
theorem dX9_master_206 : decode cX9_master 206 = .ok (.invokevirtual 346, 3) := by decide +kernel
theorem dX9_master_209 : decode cX9_master 209 = .ok (.aload_n 0, 1) := by decide +kernel
theorem dX9_master_210 : decode cX9_master 210 = .ok (.getfield 64, 3) := by decide +kernel
theorem dX9_master_213 : decode cX9_master 213 = .ok (.iconst 0, 1) := by decide +kernel
theorem dX9_master_214 : decode cX9_master 214 = .ok (.laload, 1) := by decide +kernel
theorem dX9_master_215 : decode cX9_master 215 = .ok (.lload 9, 2) := by decide +kernel
theorem dX9_master_217 : decode cX9_master 217 = .ok (.aload_n 0, 1) := by decide +kernel
theorem dX9_master_218 : decode cX9_master 218 = .ok (.iload_n 1, 1) := by decide +kernel
theorem dX9_master_219 : decode cX9_master 219 = .ok (.invokevirtual 367, 3) := by decide +kernel
theorem dX9_master_222 : decode cX9_master 222 = .ok (.lmul, 1) := by decide +kernel
theorem dX9_master_223 : decode cX9_master 223 = .ok (.lsub, 1) := by decide +kernel
theorem dX9_master_224 : decode cX9_master 224 = .ok (.lstore 11, 2) := by decide +kernel
theorem dX9_master_226 : decode cX9_master 226 = .ok (.iload 5, 2) := by decide +kernel
theorem dX9_master_228 : decode cX9_master 228 = .ok (.ifCond .lt 35, 3) := by decide +kernel
theorem dX9_master_231 : decode cX9_master 231 = .ok (.lload 11, 2) := by decide +kernel
theorem dX9_master_233 : decode cX9_master 233 = .ok (.lload 6, 2) := by decide +kernel
theorem dX9_master_235 : decode cX9_master 235 = .ok (.lcmp, 1) := by decide +kernel
theorem dX9_master_236 : decode cX9_master 236 = .ok (.ifCond .lt 35, 3) := by decide +kernel
theorem dX9_master_239 : decode cX9_master 239 = .ok (.lload 11, 2) := by decide +kernel
theorem dX9_master_241 : decode cX9_master 241 = .ok (.lload 6, 2) := by decide +kernel
theorem dX9_master_243 : decode cX9_master 243 = .ok (.lcmp, 1) := by decide +kernel
theorem dX9_master_244 : decode cX9_master 244 = .ok (.ifCond .ne 19, 3) := by decide +kernel
theorem dX9_master_247 : decode cX9_master 247 = .ok (.iload 8, 2) := by decide +kernel
theorem dX9_master_249 : decode cX9_master 249 = .ok (.invokestatic 316, 3) := by decide +kernel
theorem dX9_master_252 : decode cX9_master 252 = .ok (.iload 5, 2) := by decide +kernel
theorem dX9_master_254 : decode cX9_master 254 = .ok (.invokestatic 316, 3) := by decide +kernel
theorem dX9_master_257 : decode cX9_master 257 = .ok (.if_icmp .lt 6, 3) := by decide +kernel
theorem dX9_master_260 : decode cX9_master 260 = .ok (.goto 11, 3) := by decide +kernel
theorem dX9_master_263 : decode cX9_master 263 = .ok (.iload 8, 2) := by decide +kernel
theorem dX9_master_265 : decode cX9_master 265 = .ok (.istore 5, 2) := by decide +kernel
theorem dX9_master_267 : decode cX9_master 267 = .ok (.lload 11, 2) := by decide +kernel
theorem dX9_master_269 : decode cX9_master 269 = .ok (.lstore 6, 2) := by decide +kernel
theorem dX9_master_271 : decode cX9_master 271 = .ok (.iinc 8 1, 3) := by decide +kernel
theorem dX9_master_274 : decode cX9_master 274 = .ok (.goto (-165), 3) := by decide +kernel
theorem dX9_master_277 : decode cX9_master 277 = .ok (.iload_n 2, 1) := by decide +kernel
theorem dX9_master_278 : decode cX9_master 278 = .ok (.iconst 2, 1) := by decide +kernel
theorem dX9_master_279 : decode cX9_master 279 = .ok (.if_icmp .ne 9, 3) := by decide +kernel
theorem dX9_master_282 : decode cX9_master 282 = .ok (.iload 5, 2) := by decide +kernel
theorem dX9_master_284 : decode cX9_master 284 = .ok (.i2l, 1) := by decide +kernel
theorem dX9_master_285 : decode cX9_master 285 = .ok (.goto 15, 3) := by decide +kernel
theorem dX9_master_288 : decode cX9_master 288 = .ok (.aload_n 0, 1) := by decide +kernel
theorem dX9_master_289 : decode cX9_master 289 = .ok (.lload 6, 2) := by decide +kernel
theorem dX9_master_291 : decode cX9_master 291 = .ok (.aload_n 0, 1) := by decide +kernel
theorem dX9_master_292 : decode cX9_master 292 = .ok (.iload_n 1, 1) := by decide +kernel
theorem dX9_master_293 : decode cX9_master 293 = .ok (.invokevirtual 367, 3) := by decide +kernel
theorem dX9_master_296 : decode cX9_master 296 = .ok (.iload_n 2, 1) := by decide +kernel
theorem dX9_master_297 : decode cX9_master 297 = .ok (.invokevirtual 370, 3) := by decide +kernel
theorem dX9_master_300 : decode cX9_master 300 = .ok (.lreturn, 1) := by decide +kernel
theorem dX9_meanOf_0 : decode cX9_meanOf 0 = .ok (.lconst 0, 1) := by decide +kernel
theorem dX9_meanOf_1 : decode cX9_meanOf 1 = .ok (.lstore_n 2, 1) := by decide +kernel
theorem dX9_meanOf_2 : decode cX9_meanOf 2 = .ok (.aload_n 0, 1) := by decide +kernel
theorem dX9_meanOf_3 : decode cX9_meanOf 3 = .ok (.invokevirtual 343, 3) := by decide +kernel
theorem dX9_meanOf_6 : decode cX9_meanOf 6 = .ok (.iconst 0, 1) := by decide +kernel
theorem dX9_meanOf_7 : decode cX9_meanOf 7 = .ok (.istore 4, 2) := by decide +kernel
theorem dX9_meanOf_9 : decode cX9_meanOf 9 = .ok (.iload 4, 2) := by decide +kernel
theorem dX9_meanOf_11 : decode cX9_meanOf 11 = .ok (.iconst 1, 1) := by decide +kernel
theorem dX9_meanOf_12 : decode cX9_meanOf 12 = .ok (.aload_n 0, 1) := by decide +kernel
theorem dX9_meanOf_13 : decode cX9_meanOf 13 = .ok (.getfield 42, 3) := by decide +kernel
theorem dX9_meanOf_16 : decode cX9_meanOf 16 = .ok (.bipush 8, 2) := by decide +kernel
theorem dX9_meanOf_18 : decode cX9_meanOf 18 = .ok (.iaload, 1) := by decide +kernel
theorem dX9_meanOf_19 : decode cX9_meanOf 19 = .ok (.ishl, 1) := by decide +kernel
theorem dX9_meanOf_20 : decode cX9_meanOf 20 = .ok (.if_icmp .ge 67, 3) := by decide +kernel
theorem dX9_meanOf_23 : decode cX9_meanOf 23 = .ok (.aload_n 0, 1) := by decide +kernel
theorem dX9_meanOf_24 : decode cX9_meanOf 24 = .ok (.iload 4, 2) := by decide +kernel
theorem dX9_meanOf_26 : decode cX9_meanOf 26 = .ok (.invokevirtual 354, 3) := by decide +kernel
theorem dX9_meanOf_29 : decode cX9_meanOf 29 = .ok (.lstore 5, 2) := by decide +kernel
theorem dX9_meanOf_31 : decode cX9_meanOf 31 = .ok (.aload_n 0, 1) := by decide +kernel
theorem dX9_meanOf_32 : decode cX9_meanOf 32 = .ok (.getfield 42, 3) := by decide +kernel
theorem dX9_meanOf_35 : decode cX9_meanOf 35 = .ok (.iconst 4, 1) := by decide +kernel
theorem dX9_meanOf_36 : decode cX9_meanOf 36 = .ok (.iaload, 1) := by decide +kernel
theorem dX9_meanOf_37 : decode cX9_meanOf 37 = .ok (.aload_n 0, 1) := by decide +kernel
theorem dX9_meanOf_38 : decode cX9_meanOf 38 = .ok (.getfield 45, 3) := by decide +kernel
theorem dX9_meanOf_41 : decode cX9_meanOf 41 = .ok (.iconst 4, 1) := by decide +kernel
theorem dX9_meanOf_42 : decode cX9_meanOf 42 = .ok (.iaload, 1) := by decide +kernel
theorem dX9_meanOf_43 : decode cX9_meanOf 43 = .ok (.isub, 1) := by decide +kernel
theorem dX9_meanOf_44 : decode cX9_meanOf 44 = .ok (.istore 7, 2) := by decide +kernel
theorem dX9_meanOf_46 : decode cX9_meanOf 46 = .ok (.lload_n 2, 1) := by decide +kernel
theorem dX9_meanOf_47 : decode cX9_meanOf 47 = .ok (.lload 5, 2) := by decide +kernel
theorem dX9_meanOf_49 : decode cX9_meanOf 49 = .ok (.iload_n 1, 1) := by decide +kernel
theorem dX9_meanOf_50 : decode cX9_meanOf 50 = .ok (.ifCond .ge 8, 3) := by decide +kernel
theorem dX9_meanOf_53 : decode cX9_meanOf 53 = .ok (.iload 7, 2) := by decide +kernel
theorem dX9_meanOf_55 : decode cX9_meanOf 55 = .ok (.goto 18, 3) := by decide +kernel
theorem dX9_meanOf_58 : decode cX9_meanOf 58 = .ok (.aload_n 0, 1) := by decide +kernel
theorem dX9_meanOf_59 : decode cX9_meanOf 59 = .ok (.iload_n 1, 1) := by decide +kernel
theorem dX9_meanOf_60 : decode cX9_meanOf 60 = .ok (.iconst 4, 1) := by decide +kernel
theorem dX9_meanOf_61 : decode cX9_meanOf 61 = .ok (.invokevirtual 268, 3) := by decide +kernel
theorem dX9_meanOf_64 : decode cX9_meanOf 64 = .ok (.iconst 1, 1) := by decide +kernel
theorem dX9_meanOf_65 : decode cX9_meanOf 65 = .ok (.if_icmp .ne 7, 3) := by decide +kernel
theorem dX9_meanOf_68 : decode cX9_meanOf 68 = .ok (.iconst 1, 1) := by decide +kernel
theorem dX9_meanOf_69 : decode cX9_meanOf 69 = .ok (.goto 4, 3) := by decide +kernel
theorem dX9_meanOf_72 : decode cX9_meanOf 72 = .ok (.iconst 0, 1) := by decide +kernel
theorem dX9_meanOf_73 : decode cX9_meanOf 73 = .ok (.i2l, 1) := by decide +kernel
theorem dX9_meanOf_74 : decode cX9_meanOf 74 = .ok (.lmul, 1) := by decide +kernel
theorem dX9_meanOf_75 : decode cX9_meanOf 75 = .ok (.ladd, 1) := by decide +kernel
theorem dX9_meanOf_76 : decode cX9_meanOf 76 = .ok (.lstore_n 2, 1) := by decide +kernel
theorem dX9_meanOf_77 : decode cX9_meanOf 77 = .ok (.aload_n 0, 1) := by decide +kernel
theorem dX9_meanOf_78 : decode cX9_meanOf 78 = .ok (.invokevirtual 346, 3) := by decide +kernel
theorem dX9_meanOf_81 : decode cX9_meanOf 81 = .ok (.iinc 4 1, 3) := by decide +kernel
theorem dX9_meanOf_84 : decode cX9_meanOf 84 = .ok (.goto (-75), 3) := by decide +kernel
theorem dX9_meanOf_87 : decode cX9_meanOf 87 = .ok (.lload_n 2, 1) := by decide +kernel
theorem dX9_meanOf_88 : decode cX9_meanOf 88 = .ok (.lreturn, 1) := by decide +kernel
theorem dX9_mend_0 : decode cX9_mend 0 = .ok (.aload_n 0, 1) := by decide +kernel
theorem dX9_mend_1 : decode cX9_mend 1 = .ok (.iload_n 1, 1) := by decide +kernel
theorem dX9_mend_2 : decode cX9_mend 2 = .ok (.invokevirtual 280, 3) := by decide +kernel
theorem dX9_mend_5 : decode cX9_mend 5 = .ok (.ifCond .eq 12, 3) := by decide +kernel
theorem dX9_mend_8 : decode cX9_mend 8 = .ok (.aload_n 0, 1) := by decide +kernel
theorem dX9_mend_9 : decode cX9_mend 9 = .ok (.iload_n 1, 1) := by decide +kernel
theorem dX9_mend_10 : decode cX9_mend 10 = .ok (.iconst 4, 1) := by decide +kernel
theorem dX9_mend_11 : decode cX9_mend 11 = .ok (.invokevirtual 268, 3) := by decide +kernel
theorem dX9_mend_14 : decode cX9_mend 14 = .ok (.ifCond .le 7, 3) := by decide +kernel
theorem dX9_mend_17 : decode cX9_mend 17 = .ok (.ldc_w 306, 3) := by decide +kernel
theorem dX9_mend_20 : decode cX9_mend 20 = .ok (.ireturn, 1) := by decide +kernel
theorem dX9_mend_21 : decode cX9_mend 21 = .ok (.aload_n 0, 1) := by decide +kernel
theorem dX9_mend_22 : decode cX9_mend 22 = .ok (.getfield 42, 3) := by decide +kernel
theorem dX9_mend_25 : decode cX9_mend 25 = .ok (.bipush 44, 2) := by decide +kernel
theorem dX9_mend_27 : decode cX9_mend 27 = .ok (.bipush 6, 2) := by decide +kernel
theorem dX9_mend_29 : decode cX9_mend 29 = .ok (.iload_n 1, 1) := by decide +kernel
theorem dX9_mend_30 : decode cX9_mend 30 = .ok (.imul, 1) := by decide +kernel
theorem dX9_mend_31 : decode cX9_mend 31 = .ok (.iadd, 1) := by decide +kernel
theorem dX9_mend_32 : decode cX9_mend 32 = .ok (.iconst 4, 1) := by decide +kernel
theorem dX9_mend_33 : decode cX9_mend 33 = .ok (.iadd, 1) := by decide +kernel
theorem dX9_mend_34 : decode cX9_mend 34 = .ok (.iconst 2, 1) := by decide +kernel
theorem dX9_mend_35 : decode cX9_mend 35 = .ok (.iastore, 1) := by decide +kernel
theorem dX9_mend_36 : decode cX9_mend 36 = .ok (.aload_n 0, 1) := by decide +kernel
theorem dX9_mend_37 : decode cX9_mend 37 = .ok (.getfield 42, 3) := by decide +kernel
theorem dX9_mend_40 : decode cX9_mend 40 = .ok (.iconst 5, 1) := by decide +kernel
theorem dX9_mend_41 : decode cX9_mend 41 = .ok (.dup2, 1) := by decide +kernel
theorem dX9_mend_42 : decode cX9_mend 42 = .ok (.iaload, 1) := by decide +kernel
theorem dX9_mend_43 : decode cX9_mend 43 = .ok (.aload_n 0, 1) := by decide +kernel
theorem dX9_mend_44 : decode cX9_mend 44 = .ok (.iload_n 1, 1) := by decide +kernel
theorem dX9_mend_45 : decode cX9_mend 45 = .ok (.iconst 2, 1) := by decide +kernel
theorem dX9_mend_46 : decode cX9_mend 46 = .ok (.invokevirtual 275, 3) := by decide +kernel
theorem dX9_mend_49 : decode cX9_mend 49 = .ok (.isub, 1) := by decide +kernel
theorem dX9_mend_50 : decode cX9_mend 50 = .ok (.iastore, 1) := by decide +kernel
theorem dX9_mend_51 : decode cX9_mend 51 = .ok (.aload_n 0, 1) := by decide +kernel
theorem dX9_mend_52 : decode cX9_mend 52 = .ok (.getfield 42, 3) := by decide +kernel
theorem dX9_mend_55 : decode cX9_mend 55 = .ok (.iconst 5, 1) := by decide +kernel
theorem dX9_mend_56 : decode cX9_mend 56 = .ok (.iaload, 1) := by decide +kernel
theorem dX9_mend_57 : decode cX9_mend 57 = .ok (.ireturn, 1) := by decide +kernel
theorem dX9_mixed_0 : decode cX9_mixed 0 = .ok (.iload_n 1, 1) := by decide +kernel
theorem dX9_mixed_1 : decode cX9_mixed 1 = .ok (.i2l, 1) := by decide +kernel
theorem dX9_mixed_2 : decode cX9_mixed 2 = .ok (.lconst 0, 1) := by decide +kernel
theorem dX9_mixed_3 : decode cX9_mixed 3 = .ok (.lconst 1, 1) := by decide +kernel
theorem dX9_mixed_4 : decode cX9_mixed 4 = .ok (.invokestatic 118, 3) := by decide +kernel
theorem dX9_mixed_7 : decode cX9_mixed 7 = .ok (.ifCond .eq 13, 3) := by decide +kernel
theorem dX9_mixed_10 : decode cX9_mixed 10 = .ok (.iload_n 2, 1) := by decide +kernel
theorem dX9_mixed_11 : decode cX9_mixed 11 = .ok (.i2l, 1) := by decide +kernel
theorem dX9_mixed_12 : decode cX9_mixed 12 = .ok (.lconst 0, 1) := by decide +kernel
theorem dX9_mixed_13 : decode cX9_mixed 13 = .ok (.lconst 1, 1) := by decide +kernel
theorem dX9_mixed_14 : decode cX9_mixed 14 = .ok (.invokestatic 118, 3) := by decide +kernel
theorem dX9_mixed_17 : decode cX9_mixed 17 = .ok (.ifCond .ne 5, 3) := by decide +kernel
theorem dX9_mixed_20 : decode cX9_mixed 20 = .ok (.iconst (-1), 1) := by decide +kernel
theorem dX9_mixed_21 : decode cX9_mixed 21 = .ok (.ireturn, 1) := by decide +kernel
theorem dX9_mixed_22 : decode cX9_mixed 22 = .ok (.aload_n 0, 1) := by decide +kernel
theorem dX9_mixed_23 : decode cX9_mixed 23 = .ok (.invokevirtual 404, 3) := by decide +kernel
theorem dX9_mixed_26 : decode cX9_mixed 26 = .ok (.ifCond .le 6, 3) := by decide +kernel
theorem dX9_mixed_29 : decode cX9_mixed 29 = .ok (.bipush (-2), 2) := by decide +kernel
theorem dX9_mixed_31 : decode cX9_mixed 31 = .ok (.ireturn, 1) := by decide +kernel
theorem dX9_mixed_32 : decode cX9_mixed 32 = .ok (.iload_n 1, 1) := by decide +kernel
theorem dX9_mixed_33 : decode cX9_mixed 33 = .ok (.ifCond .ne 19, 3) := by decide +kernel
theorem dX9_mixed_36 : decode cX9_mixed 36 = .ok (.aload_n 0, 1) := by decide +kernel
theorem dX9_mixed_37 : decode cX9_mixed 37 = .ok (.bipush 7, 2) := by decide +kernel
theorem dX9_mixed_39 : decode cX9_mixed 39 = .ok (.invokevirtual 401, 3) := by decide +kernel
theorem dX9_mixed_42 : decode cX9_mixed 42 = .ok (.aload_n 0, 1) := by decide +kernel
theorem dX9_mixed_43 : decode cX9_mixed 43 = .ok (.bipush 6, 2) := by decide +kernel
theorem dX9_mixed_45 : decode cX9_mixed 45 = .ok (.invokevirtual 401, 3) := by decide +kernel
theorem dX9_mixed_48 : decode cX9_mixed 48 = .ok (.isub, 1) := by decide +kernel
theorem dX9_mixed_49 : decode cX9_mixed 49 = .ok (.goto 14, 3) := by decide +kernel
theorem dX9_mixed_52 : decode cX9_mixed 52 = .ok (.aload_n 0, 1) := by decide +kernel
theorem dX9_mixed_53 : decode cX9_mixed 53 = .ok (.iconst 3, 1) := by decide +kernel
theorem dX9_mixed_54 : decode cX9_mixed 54 = .ok (.invokevirtual 401, 3) := by decide +kernel
theorem dX9_mixed_57 : decode cX9_mixed 57 = .ok (.aload_n 0, 1) := by decide +kernel
theorem dX9_mixed_58 : decode cX9_mixed 58 = .ok (.iconst 1, 1) := by decide +kernel
theorem dX9_mixed_59 : decode cX9_mixed 59 = .ok (.invokevirtual 401, 3) := by decide +kernel
theorem dX9_mixed_62 : decode cX9_mixed 62 = .ok (.isub, 1) := by decide +kernel
theorem dX9_mixed_63 : decode cX9_mixed 63 = .ok (.istore_n 3, 1) := by decide +kernel
theorem dX9_mixed_64 : decode cX9_mixed 64 = .ok (.iload_n 3, 1) := by decide +kernel
theorem dX9_mixed_65 : decode cX9_mixed 65 = .ok (.iload_n 1, 1) := by decide +kernel
theorem dX9_mixed_66 : decode cX9_mixed 66 = .ok (.ifCond .ne 17, 3) := by decide +kernel
theorem dX9_mixed_69 : decode cX9_mixed 69 = .ok (.aload_n 0, 1) := by decide +kernel
theorem dX9_mixed_70 : decode cX9_mixed 70 = .ok (.iconst 4, 1) := by decide +kernel
theorem dX9_mixed_71 : decode cX9_mixed 71 = .ok (.invokevirtual 401, 3) := by decide +kernel
theorem dX9_mixed_74 : decode cX9_mixed 74 = .ok (.aload_n 0, 1) := by decide +kernel
theorem dX9_mixed_75 : decode cX9_mixed 75 = .ok (.iconst 5, 1) := by decide +kernel
theorem dX9_mixed_76 : decode cX9_mixed 76 = .ok (.invokevirtual 401, 3) := by decide +kernel
theorem dX9_mixed_79 : decode cX9_mixed 79 = .ok (.isub, 1) := by decide +kernel
theorem dX9_mixed_80 : decode cX9_mixed 80 = .ok (.goto 14, 3) := by decide +kernel
theorem dX9_mixed_83 : decode cX9_mixed 83 = .ok (.aload_n 0, 1) := by decide +kernel
theorem dX9_mixed_84 : decode cX9_mixed 84 = .ok (.iconst 0, 1) := by decide +kernel
theorem dX9_mixed_85 : decode cX9_mixed 85 = .ok (.invokevirtual 401, 3) := by decide +kernel
theorem dX9_mixed_88 : decode cX9_mixed 88 = .ok (.aload_n 0, 1) := by decide +kernel
theorem dX9_mixed_89 : decode cX9_mixed 89 = .ok (.iconst 2, 1) := by decide +kernel
theorem dX9_mixed_90 : decode cX9_mixed 90 = .ok (.invokevirtual 401, 3) := by decide +kernel
theorem dX9_mixed_93 : decode cX9_mixed 93 = .ok (.isub, 1) := by decide +kernel
theorem dX9_mixed_94 : decode cX9_mixed 94 = .ok (.iadd, 1) := by decide +kernel
theorem dX9_mixed_95 : decode cX9_mixed 95 = .ok (.istore 4, 2) := by decide +kernel
theorem dX9_mixed_97 : decode cX9_mixed 97 = .ok (.iload 4, 2) := by decide +kernel
theorem dX9_mixed_99 : decode cX9_mixed 99 = .ok (.ifCond .ge 7, 3) := by decide +kernel
theorem dX9_mixed_102 : decode cX9_mixed 102 = .ok (.iconst (-1), 1) := by decide +kernel
theorem dX9_mixed_103 : decode cX9_mixed 103 = .ok (.goto 4, 3) := by decide +kernel
theorem dX9_mixed_106 : decode cX9_mixed 106 = .ok (.iconst 1, 1) := by decide +kernel
theorem dX9_mixed_107 : decode cX9_mixed 107 = .ok (.istore 5, 2) := by decide +kernel
theorem dX9_mixed_109 : decode cX9_mixed 109 = .ok (.aload_n 0, 1) := by decide +kernel
theorem dX9_mixed_110 : decode cX9_mixed 110 = .ok (.iload 5, 2) := by decide +kernel
theorem dX9_mixed_112 : decode cX9_mixed 112 = .ok (.iload_n 3, 1) := by decide +kernel
theorem dX9_mixed_113 : decode cX9_mixed 113 = .ok (.imul, 1) := by decide +kernel
theorem dX9_mixed_114 : decode cX9_mixed 114 = .ok (.i2l, 1) := by decide +kernel
theorem dX9_mixed_115 : decode cX9_mixed 115 = .ok (.iload 5, 2) := by decide +kernel
theorem dX9_mixed_117 : decode cX9_mixed 117 = .ok (.iload 4, 2) := by decide +kernel
theorem dX9_mixed_119 : decode cX9_mixed 119 = .ok (.imul, 1) := by decide +kernel
theorem dX9_mixed_120 : decode cX9_mixed 120 = .ok (.i2l, 1) := by decide +kernel
theorem dX9_mixed_121 : decode cX9_mixed 121 = .ok (.iload_n 2, 1) := by decide +kernel
theorem dX9_mixed_122 : decode cX9_mixed 122 = .ok (.invokevirtual 370, 3) := by decide +kernel
theorem dX9_mixed_125 : decode cX9_mixed 125 = .ok (.l2i, 1) := by decide +kernel
theorem dX9_mixed_126 : decode cX9_mixed 126 = .ok (.ireturn, 1) := by decide +kernel
theorem dX9_nextFor_0 : decode cX9_nextFor 0 = .ok (.iconst (-1), 1) := by decide +kernel
theorem dX9_nextFor_1 : decode cX9_nextFor 1 = .ok (.istore_n 2, 1) := by decide +kernel
theorem dX9_nextFor_2 : decode cX9_nextFor 2 = .ok (.lconst 0, 1) := by decide +kernel
theorem dX9_nextFor_3 : decode cX9_nextFor 3 = .ok (.lstore_n 3, 1) := by decide +kernel
theorem dX9_nextFor_4 : decode cX9_nextFor 4 = .ok (.iconst 0, 1) := by decide +kernel
theorem dX9_nextFor_5 : decode cX9_nextFor 5 = .ok (.istore 5, 2) := by decide +kernel
theorem dX9_nextFor_7 : decode cX9_nextFor 7 = .ok (.iload 5, 2) := by decide +kernel
theorem dX9_nextFor_9 : decode cX9_nextFor 9 = .ok (.aload_n 0, 1) := by decide +kernel
theorem dX9_nextFor_10 : decode cX9_nextFor 10 = .ok (.getfield 42, 3) := by decide +kernel
theorem dX9_nextFor_13 : decode cX9_nextFor 13 = .ok (.iconst 0, 1) := by decide +kernel
theorem dX9_nextFor_14 : decode cX9_nextFor 14 = .ok (.iaload, 1) := by decide +kernel
theorem dX9_nextFor_15 : decode cX9_nextFor 15 = .ok (.if_icmp .ge 83, 3) := by decide +kernel
theorem dX9_nextFor_18 : decode cX9_nextFor 18 = .ok (.aload_n 0, 1) := by decide +kernel
theorem dX9_nextFor_19 : decode cX9_nextFor 19 = .ok (.iload 5, 2) := by decide +kernel
theorem dX9_nextFor_21 : decode cX9_nextFor 21 = .ok (.invokevirtual 295, 3) := by decide +kernel
theorem dX9_nextFor_24 : decode cX9_nextFor 24 = .ok (.ifCond .ne 6, 3) := by decide +kernel
theorem dX9_nextFor_27 : decode cX9_nextFor 27 = .ok (.goto 65, 3) := by decide +kernel
theorem dX9_nextFor_30 : decode cX9_nextFor 30 = .ok (.aload_n 0, 1) := by decide +kernel
theorem dX9_nextFor_31 : decode cX9_nextFor 31 = .ok (.iload_n 1, 1) := by decide +kernel
theorem dX9_nextFor_32 : decode cX9_nextFor 32 = .ok (.iload 5, 2) := by decide +kernel
theorem dX9_nextFor_34 : decode cX9_nextFor 34 = .ok (.invokevirtual 326, 3) := by decide +kernel
theorem dX9_nextFor_37 : decode cX9_nextFor 37 = .ok (.istore 6, 2) := by decide +kernel
theorem dX9_nextFor_39 : decode cX9_nextFor 39 = .ok (.iload 6, 2) := by decide +kernel
theorem dX9_nextFor_41 : decode cX9_nextFor 41 = .ok (.ifCond .ge 6, 3) := by decide +kernel
theorem dX9_nextFor_44 : decode cX9_nextFor 44 = .ok (.goto 48, 3) := by decide +kernel
theorem dX9_nextFor_47 : decode cX9_nextFor 47 = .ok (.aload_n 0, 1) := by decide +kernel
theorem dX9_nextFor_48 : decode cX9_nextFor 48 = .ok (.iload_n 1, 1) := by decide +kernel
theorem dX9_nextFor_49 : decode cX9_nextFor 49 = .ok (.aload_n 0, 1) := by decide +kernel
theorem dX9_nextFor_50 : decode cX9_nextFor 50 = .ok (.getfield 20, 3) := by decide +kernel
theorem dX9_nextFor_53 : decode cX9_nextFor 53 = .ok (.iload 6, 2) := by decide +kernel
theorem dX9_nextFor_55 : decode cX9_nextFor 55 = .ok (.iconst 1, 1) := by decide +kernel
theorem dX9_nextFor_56 : decode cX9_nextFor 56 = .ok (.iadd, 1) := by decide +kernel
theorem dX9_nextFor_57 : decode cX9_nextFor 57 = .ok (.iaload, 1) := by decide +kernel
theorem dX9_nextFor_58 : decode cX9_nextFor 58 = .ok (.aload_n 0, 1) := by decide +kernel
theorem dX9_nextFor_59 : decode cX9_nextFor 59 = .ok (.getfield 20, 3) := by decide +kernel
theorem dX9_nextFor_62 : decode cX9_nextFor 62 = .ok (.iload 6, 2) := by decide +kernel
theorem dX9_nextFor_64 : decode cX9_nextFor 64 = .ok (.iconst 2, 1) := by decide +kernel
theorem dX9_nextFor_65 : decode cX9_nextFor 65 = .ok (.iadd, 1) := by decide +kernel
theorem dX9_nextFor_66 : decode cX9_nextFor 66 = .ok (.iaload, 1) := by decide +kernel
theorem dX9_nextFor_67 : decode cX9_nextFor 67 = .ok (.invokevirtual 322, 3) := by decide +kernel
theorem dX9_nextFor_70 : decode cX9_nextFor 70 = .ok (.lstore 7, 2) := by decide +kernel
theorem dX9_nextFor_72 : decode cX9_nextFor 72 = .ok (.iload_n 2, 1) := by decide +kernel
theorem dX9_nextFor_73 : decode cX9_nextFor 73 = .ok (.ifCond .lt 13, 3) := by decide +kernel
theorem dX9_nextFor_76 : decode cX9_nextFor 76 = .ok (.lload 7, 2) := by decide +kernel
theorem dX9_nextFor_78 : decode cX9_nextFor 78 = .ok (.lload_n 3, 1) := by decide +kernel
theorem dX9_nextFor_79 : decode cX9_nextFor 79 = .ok (.lcmp, 1) := by decide +kernel
theorem dX9_nextFor_80 : decode cX9_nextFor 80 = .ok (.ifCond .lt 6, 3) := by decide +kernel
theorem dX9_nextFor_83 : decode cX9_nextFor 83 = .ok (.goto 9, 3) := by decide +kernel
theorem dX9_nextFor_86 : decode cX9_nextFor 86 = .ok (.iload 5, 2) := by decide +kernel
theorem dX9_nextFor_88 : decode cX9_nextFor 88 = .ok (.istore_n 2, 1) := by decide +kernel
theorem dX9_nextFor_89 : decode cX9_nextFor 89 = .ok (.lload 7, 2) := by decide +kernel
theorem dX9_nextFor_91 : decode cX9_nextFor 91 = .ok (.lstore_n 3, 1) := by decide +kernel
theorem dX9_nextFor_92 : decode cX9_nextFor 92 = .ok (.iinc 5 1, 3) := by decide +kernel
theorem dX9_nextFor_95 : decode cX9_nextFor 95 = .ok (.goto (-88), 3) := by decide +kernel
theorem dX9_nextFor_98 : decode cX9_nextFor 98 = .ok (.iload_n 2, 1) := by decide +kernel
theorem dX9_nextFor_99 : decode cX9_nextFor 99 = .ok (.ifCond .lt 12, 3) := by decide +kernel
theorem dX9_nextFor_102 : decode cX9_nextFor 102 = .ok (.aload_n 0, 1) := by decide +kernel
theorem dX9_nextFor_103 : decode cX9_nextFor 103 = .ok (.iload_n 1, 1) := by decide +kernel
theorem dX9_nextFor_104 : decode cX9_nextFor 104 = .ok (.iload_n 2, 1) := by decide +kernel
theorem dX9_nextFor_105 : decode cX9_nextFor 105 = .ok (.invokevirtual 329, 3) := by decide +kernel
theorem dX9_nextFor_108 : decode cX9_nextFor 108 = .ok (.ifCond .eq 7, 3) := by decide +kernel
theorem dX9_nextFor_111 : decode cX9_nextFor 111 = .ok (.iconst (-1), 1) := by decide +kernel
theorem dX9_nextFor_112 : decode cX9_nextFor 112 = .ok (.goto 4, 3) := by decide +kernel
theorem dX9_nextFor_115 : decode cX9_nextFor 115 = .ok (.iload_n 2, 1) := by decide +kernel
theorem dX9_nextFor_116 : decode cX9_nextFor 116 = .ok (.ireturn, 1) := by decide +kernel
theorem dX9_numberHere_0 : decode cX9_numberHere 0 = .ok (.aload_n 0, 1) := by decide +kernel
theorem dX9_numberHere_1 : decode cX9_numberHere 1 = .ok (.invokevirtual 93, 3) := by decide +kernel
theorem dX9_numberHere_4 : decode cX9_numberHere 4 = .ok (.pop, 1) := by decide +kernel
theorem dX9_numberHere_5 : decode cX9_numberHere 5 = .ok (.aload_n 0, 1) := by decide +kernel
theorem dX9_numberHere_6 : decode cX9_numberHere 6 = .ok (.aload_n 0, 1) := by decide +kernel
theorem dX9_numberHere_7 : decode cX9_numberHere 7 = .ok (.getfield 90, 3) := by decide +kernel
theorem dX9_numberHere_10 : decode cX9_numberHere 10 = .ok (.invokevirtual 108, 3) := by decide +kernel
theorem dX9_numberHere_13 : decode cX9_numberHere 13 = .ok (.ifCond .ne 13, 3) := by decide +kernel
theorem dX9_numberHere_16 : decode cX9_numberHere 16 = .ok (.aload_n 0, 1) := by decide +kernel
theorem dX9_numberHere_17 : decode cX9_numberHere 17 = .ok (.iconst 0, 1) := by decide +kernel
theorem dX9_numberHere_18 : decode cX9_numberHere 18 = .ok (.aload_n 0, 1) := by decide +kernel
theorem dX9_numberHere_19 : decode cX9_numberHere 19 = .ok (.getfield 90, 3) := by decide +kernel
theorem dX9_numberHere_22 : decode cX9_numberHere 22 = .ok (.invokevirtual 111, 3) := by decide +kernel
theorem dX9_numberHere_25 : decode cX9_numberHere 25 = .ok (.ireturn, 1) := by decide +kernel
theorem dX9_numberHere_26 : decode cX9_numberHere 26 = .ok (.aload_n 0, 1) := by decide +kernel
theorem dX9_numberHere_27 : decode cX9_numberHere 27 = .ok (.getfield 90, 3) := by decide +kernel
theorem dX9_numberHere_30 : decode cX9_numberHere 30 = .ok (.istore_n 3, 1) := by decide +kernel
theorem dX9_numberHere_31 : decode cX9_numberHere 31 = .ok (.iconst 0, 1) := by decide +kernel
theorem dX9_numberHere_32 : decode cX9_numberHere 32 = .ok (.istore 4, 2) := by decide +kernel
theorem dX9_numberHere_34 : decode cX9_numberHere 34 = .ok (.aload_n 0, 1) := by decide +kernel
theorem dX9_numberHere_35 : decode cX9_numberHere 35 = .ok (.aload_n 0, 1) := by decide +kernel
theorem dX9_numberHere_36 : decode cX9_numberHere 36 = .ok (.getfield 90, 3) := by decide +kernel
theorem dX9_numberHere_39 : decode cX9_numberHere 39 = .ok (.invokevirtual 108, 3) := by decide +kernel
theorem dX9_numberHere_42 : decode cX9_numberHere 42 = .ok (.ifCond .eq 46, 3) := by decide +kernel
theorem dX9_numberHere_45 : decode cX9_numberHere 45 = .ok (.aload_n 0, 1) := by decide +kernel
theorem dX9_numberHere_46 : decode cX9_numberHere 46 = .ok (.getfield 90, 3) := by decide +kernel
theorem dX9_numberHere_49 : decode cX9_numberHere 49 = .ok (.iload_n 3, 1) := by decide +kernel
theorem dX9_numberHere_50 : decode cX9_numberHere 50 = .ok (.isub, 1) := by decide +kernel
theorem dX9_numberHere_51 : decode cX9_numberHere 51 = .ok (.iconst 5, 1) := by decide +kernel
theorem dX9_numberHere_52 : decode cX9_numberHere 52 = .ok (.if_icmp .ge 23, 3) := by decide +kernel
theorem dX9_numberHere_55 : decode cX9_numberHere 55 = .ok (.bipush 10, 2) := by decide +kernel
theorem dX9_numberHere_57 : decode cX9_numberHere 57 = .ok (.iload 4, 2) := by decide +kernel
theorem dX9_numberHere_59 : decode cX9_numberHere 59 = .ok (.imul, 1) := by decide +kernel
theorem dX9_numberHere_60 : decode cX9_numberHere 60 = .ok (.aload_n 0, 1) := by decide +kernel
theorem dX9_numberHere_61 : decode cX9_numberHere 61 = .ok (.getfield 7, 3) := by decide +kernel
theorem dX9_numberHere_64 : decode cX9_numberHere 64 = .ok (.aload_n 0, 1) := by decide +kernel
theorem dX9_numberHere_65 : decode cX9_numberHere 65 = .ok (.getfield 90, 3) := by decide +kernel
theorem dX9_numberHere_68 : decode cX9_numberHere 68 = .ok (.baload, 1) := by decide +kernel
theorem dX9_numberHere_69 : decode cX9_numberHere 69 = .ok (.iadd, 1) := by decide +kernel
theorem dX9_numberHere_70 : decode cX9_numberHere 70 = .ok (.bipush 48, 2) := by decide +kernel
theorem dX9_numberHere_72 : decode cX9_numberHere 72 = .ok (.isub, 1) := by decide +kernel
theorem dX9_numberHere_73 : decode cX9_numberHere 73 = .ok (.istore 4, 2) := by decide +kernel
theorem dX9_numberHere_75 : decode cX9_numberHere 75 = .ok (.aload_n 0, 1) := by decide +kernel
theorem dX9_numberHere_76 : decode cX9_numberHere 76 = .ok (.dup, 1) := by decide +kernel
theorem dX9_numberHere_77 : decode cX9_numberHere 77 = .ok (.getfield 90, 3) := by decide +kernel
theorem dX9_numberHere_80 : decode cX9_numberHere 80 = .ok (.iconst 1, 1) := by decide +kernel
theorem dX9_numberHere_81 : decode cX9_numberHere 81 = .ok (.iadd, 1) := by decide +kernel
theorem dX9_numberHere_82 : decode cX9_numberHere 82 = .ok (.putfield 90, 3) := by decide +kernel
theorem dX9_numberHere_85 : decode cX9_numberHere 85 = .ok (.goto (-51), 3) := by decide +kernel
theorem dX9_numberHere_88 : decode cX9_numberHere 88 = .ok (.aload_n 0, 1) := by decide +kernel
theorem dX9_numberHere_89 : decode cX9_numberHere 89 = .ok (.iload 4, 2) := by decide +kernel
theorem dX9_numberHere_91 : decode cX9_numberHere 91 = .ok (.putfield 115, 3) := by decide +kernel
theorem dX9_numberHere_94 : decode cX9_numberHere 94 = .ok (.aload_n 0, 1) := by decide +kernel
theorem dX9_numberHere_95 : decode cX9_numberHere 95 = .ok (.getfield 90, 3) := by decide +kernel
theorem dX9_numberHere_98 : decode cX9_numberHere 98 = .ok (.iload_n 3, 1) := by decide +kernel
theorem dX9_numberHere_99 : decode cX9_numberHere 99 = .ok (.isub, 1) := by decide +kernel
theorem dX9_numberHere_100 : decode cX9_numberHere 100 = .ok (.iconst 5, 1) := by decide +kernel
theorem dX9_numberHere_101 : decode cX9_numberHere 101 = .ok (.if_icmp .gt 16, 3) := by decide +kernel
theorem dX9_numberHere_104 : decode cX9_numberHere 104 = .ok (.iload 4, 2) := by decide +kernel
theorem dX9_numberHere_106 : decode cX9_numberHere 106 = .ok (.i2l, 1) := by decide +kernel
theorem dX9_numberHere_107 : decode cX9_numberHere 107 = .ok (.iload_n 1, 1) := by decide +kernel
theorem dX9_numberHere_108 : decode cX9_numberHere 108 = .ok (.i2l, 1) := by decide +kernel
theorem dX9_numberHere_109 : decode cX9_numberHere 109 = .ok (.iload_n 2, 1) := by decide +kernel
theorem dX9_numberHere_110 : decode cX9_numberHere 110 = .ok (.i2l, 1) := by decide +kernel
theorem dX9_numberHere_111 : decode cX9_numberHere 111 = .ok (.invokestatic 118, 3) := by decide +kernel
theorem dX9_numberHere_114 : decode cX9_numberHere 114 = .ok (.ifCond .ne 12, 3) := by decide +kernel
theorem dX9_numberHere_117 : decode cX9_numberHere 117 = .ok (.aload_n 0, 1) := by decide +kernel
theorem dX9_numberHere_118 : decode cX9_numberHere 118 = .ok (.iconst 1, 1) := by decide +kernel
theorem dX9_numberHere_119 : decode cX9_numberHere 119 = .ok (.iload_n 3, 1) := by decide +kernel
theorem dX9_numberHere_120 : decode cX9_numberHere 120 = .ok (.invokevirtual 111, 3) := by decide +kernel
theorem dX9_numberHere_123 : decode cX9_numberHere 123 = .ok (.ifCond .eq 7, 3) := by decide +kernel
theorem dX9_numberHere_126 : decode cX9_numberHere 126 = .ok (.iconst 1, 1) := by decide +kernel
theorem dX9_numberHere_127 : decode cX9_numberHere 127 = .ok (.goto 4, 3) := by decide +kernel
theorem dX9_numberHere_130 : decode cX9_numberHere 130 = .ok (.iconst 0, 1) := by decide +kernel
theorem dX9_numberHere_131 : decode cX9_numberHere 131 = .ok (.ireturn, 1) := by decide +kernel
theorem dX9_one_0 : decode cX9_one 0 = .ok (.iload_n 0, 1) := by decide +kernel
theorem dX9_one_1 : decode cX9_one 1 = .ok (.tableswitch 149 2 12 #[59, 63, 67, 71, 85, 97, 109, 121, 133, 149, 145], 59) := by decide +kernel
theorem dX9_one_60 : decode cX9_one 60 = .ok (.lload_n 1, 1) := by decide +kernel
theorem dX9_one_61 : decode cX9_one 61 = .ok (.lload_n 3, 1) := by decide +kernel
theorem dX9_one_62 : decode cX9_one 62 = .ok (.ladd, 1) := by decide +kernel
theorem dX9_one_63 : decode cX9_one 63 = .ok (.lreturn, 1) := by decide +kernel
theorem dX9_one_64 : decode cX9_one 64 = .ok (.lload_n 1, 1) := by decide +kernel
theorem dX9_one_65 : decode cX9_one 65 = .ok (.lload_n 3, 1) := by decide +kernel
theorem dX9_one_66 : decode cX9_one 66 = .ok (.lsub, 1) := by decide +kernel
theorem dX9_one_67 : decode cX9_one 67 = .ok (.lreturn, 1) := by decide +kernel
theorem dX9_one_68 : decode cX9_one 68 = .ok (.lload_n 1, 1) := by decide +kernel
theorem dX9_one_69 : decode cX9_one 69 = .ok (.lload_n 3, 1) := by decide +kernel
theorem dX9_one_70 : decode cX9_one 70 = .ok (.lmul, 1) := by decide +kernel
theorem dX9_one_71 : decode cX9_one 71 = .ok (.lreturn, 1) := by decide +kernel
theorem dX9_one_72 : decode cX9_one 72 = .ok (.lload_n 3, 1) := by decide +kernel
theorem dX9_one_73 : decode cX9_one 73 = .ok (.lconst 0, 1) := by decide +kernel
theorem dX9_one_74 : decode cX9_one 74 = .ok (.lcmp, 1) := by decide +kernel
theorem dX9_one_75 : decode cX9_one 75 = .ok (.ifCond .ne 7, 3) := by decide +kernel
theorem dX9_one_78 : decode cX9_one 78 = .ok (.lconst 0, 1) := by decide +kernel
theorem dX9_one_79 : decode cX9_one 79 = .ok (.goto 6, 3) := by decide +kernel
theorem dX9_one_82 : decode cX9_one 82 = .ok (.lload_n 1, 1) := by decide +kernel
theorem dX9_one_83 : decode cX9_one 83 = .ok (.lload_n 3, 1) := by decide +kernel
theorem dX9_one_84 : decode cX9_one 84 = .ok (.ldiv, 1) := by decide +kernel
theorem dX9_one_85 : decode cX9_one 85 = .ok (.lreturn, 1) := by decide +kernel
theorem dX9_one_86 : decode cX9_one 86 = .ok (.lload_n 1, 1) := by decide +kernel
theorem dX9_one_87 : decode cX9_one 87 = .ok (.lload_n 3, 1) := by decide +kernel
theorem dX9_one_88 : decode cX9_one 88 = .ok (.lcmp, 1) := by decide +kernel
theorem dX9_one_89 : decode cX9_one 89 = .ok (.ifCond .ge 7, 3) := by decide +kernel
theorem dX9_one_92 : decode cX9_one 92 = .ok (.lconst 1, 1) := by decide +kernel
theorem dX9_one_93 : decode cX9_one 93 = .ok (.goto 4, 3) := by decide +kernel
theorem dX9_one_96 : decode cX9_one 96 = .ok (.lconst 0, 1) := by decide +kernel
theorem dX9_one_97 : decode cX9_one 97 = .ok (.lreturn, 1) := by decide +kernel
theorem dX9_one_98 : decode cX9_one 98 = .ok (.lload_n 1, 1) := by decide +kernel
