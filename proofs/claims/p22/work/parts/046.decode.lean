theorem dX8_rowMean_184 : decode cX8_rowMean 184 = .ok (.iload_n 1, 1) := by decide +kernel
theorem dX8_rowMean_185 : decode cX8_rowMean 185 = .ok (.iconst 1, 1) := by decide +kernel
theorem dX8_rowMean_186 : decode cX8_rowMean 186 = .ok (.iadd, 1) := by decide +kernel
theorem dX8_rowMean_187 : decode cX8_rowMean 187 = .ok (.iload_n 2, 1) := by decide +kernel
theorem dX8_rowMean_188 : decode cX8_rowMean 188 = .ok (.iload_n 3, 1) := by decide +kernel
theorem dX8_rowMean_189 : decode cX8_rowMean 189 = .ok (.iload 6, 2) := by decide +kernel
theorem dX8_rowMean_191 : decode cX8_rowMean 191 = .ok (.isub, 1) := by decide +kernel
theorem dX8_rowMean_192 : decode cX8_rowMean 192 = .ok (.iload 4, 2) := by decide +kernel
theorem dX8_rowMean_194 : decode cX8_rowMean 194 = .ok (.invokevirtual 245, 3) := by decide +kernel
theorem dX8_rowMean_197 : decode cX8_rowMean 197 = .ok (.lstore 11, 2) := by decide +kernel
theorem dX8_rowMean_199 : decode cX8_rowMean 199 = .ok (.iload 7, 2) := by decide +kernel
theorem dX8_rowMean_201 : decode cX8_rowMean 201 = .ok (.i2l, 1) := by decide +kernel
theorem dX8_rowMean_202 : decode cX8_rowMean 202 = .ok (.lload 9, 2) := by decide +kernel
theorem dX8_rowMean_204 : decode cX8_rowMean 204 = .ok (.lmul, 1) := by decide +kernel
theorem dX8_rowMean_205 : decode cX8_rowMean 205 = .ok (.bipush 100, 2) := by decide +kernel
theorem dX8_rowMean_207 : decode cX8_rowMean 207 = .ok (.iload 7, 2) := by decide +kernel
theorem dX8_rowMean_209 : decode cX8_rowMean 209 = .ok (.isub, 1) := by decide +kernel
theorem dX8_rowMean_210 : decode cX8_rowMean 210 = .ok (.i2l, 1) := by decide +kernel
theorem dX8_rowMean_211 : decode cX8_rowMean 211 = .ok (.lload 11, 2) := by decide +kernel
theorem dX8_rowMean_213 : decode cX8_rowMean 213 = .ok (.lmul, 1) := by decide +kernel
theorem dX8_rowMean_214 : decode cX8_rowMean 214 = .ok (.ladd, 1) := by decide +kernel
theorem dX8_rowMean_215 : decode cX8_rowMean 215 = .ok (.lreturn, 1) := by decide +kernel
theorem dX8_ruleForWork_0 : decode cX8_ruleForWork 0 = .ok (.iload_n 1, 1) := by decide +kernel
theorem dX8_ruleForWork_1 : decode cX8_ruleForWork 1 = .ok (.ifCond .lt 31, 3) := by decide +kernel
theorem dX8_ruleForWork_4 : decode cX8_ruleForWork 4 = .ok (.iload_n 1, 1) := by decide +kernel
theorem dX8_ruleForWork_5 : decode cX8_ruleForWork 5 = .ok (.aload_n 0, 1) := by decide +kernel
theorem dX8_ruleForWork_6 : decode cX8_ruleForWork 6 = .ok (.getfield 23, 3) := by decide +kernel
theorem dX8_ruleForWork_9 : decode cX8_ruleForWork 9 = .ok (.if_icmp .ge 23, 3) := by decide +kernel
theorem dX8_ruleForWork_12 : decode cX8_ruleForWork 12 = .ok (.iload_n 1, 1) := by decide +kernel
theorem dX8_ruleForWork_13 : decode cX8_ruleForWork 13 = .ok (.aload_n 0, 1) := by decide +kernel
theorem dX8_ruleForWork_14 : decode cX8_ruleForWork 14 = .ok (.getfield 19, 3) := by decide +kernel
theorem dX8_ruleForWork_17 : decode cX8_ruleForWork 17 = .ok (.arraylength, 1) := by decide +kernel
theorem dX8_ruleForWork_18 : decode cX8_ruleForWork 18 = .ok (.if_icmp .ge 14, 3) := by decide +kernel
theorem dX8_ruleForWork_21 : decode cX8_ruleForWork 21 = .ok (.aload_n 0, 1) := by decide +kernel
theorem dX8_ruleForWork_22 : decode cX8_ruleForWork 22 = .ok (.invokevirtual 213, 3) := by decide +kernel
theorem dX8_ruleForWork_25 : decode cX8_ruleForWork 25 = .ok (.ifCond .eq 7, 3) := by decide +kernel
theorem dX8_ruleForWork_28 : decode cX8_ruleForWork 28 = .ok (.iconst 1, 1) := by decide +kernel
theorem dX8_ruleForWork_29 : decode cX8_ruleForWork 29 = .ok (.goto 4, 3) := by decide +kernel
theorem dX8_ruleForWork_32 : decode cX8_ruleForWork 32 = .ok (.iconst 0, 1) := by decide +kernel
theorem dX8_ruleForWork_33 : decode cX8_ruleForWork 33 = .ok (.istore_n 2, 1) := by decide +kernel
theorem dX8_ruleForWork_34 : decode cX8_ruleForWork 34 = .ok (.iload_n 2, 1) := by decide +kernel
theorem dX8_ruleForWork_35 : decode cX8_ruleForWork 35 = .ok (.ifCond .eq 12, 3) := by decide +kernel
theorem dX8_ruleForWork_38 : decode cX8_ruleForWork 38 = .ok (.aload_n 0, 1) := by decide +kernel
theorem dX8_ruleForWork_39 : decode cX8_ruleForWork 39 = .ok (.getfield 19, 3) := by decide +kernel
theorem dX8_ruleForWork_42 : decode cX8_ruleForWork 42 = .ok (.iload_n 1, 1) := by decide +kernel
theorem dX8_ruleForWork_43 : decode cX8_ruleForWork 43 = .ok (.aaload, 1) := by decide +kernel
theorem dX8_ruleForWork_44 : decode cX8_ruleForWork 44 = .ok (.goto 4, 3) := by decide +kernel
theorem dX8_ruleForWork_47 : decode cX8_ruleForWork 47 = .ok (.aconst_null, 1) := by decide +kernel
theorem dX8_ruleForWork_48 : decode cX8_ruleForWork 48 = .ok (.areturn, 1) := by decide +kernel
theorem dX8_seed_0 : decode cX8_seed 0 = .ok (.iload_n 1, 1) := by decide +kernel
theorem dX8_seed_1 : decode cX8_seed 1 = .ok (.ifCond .ge 5, 3) := by decide +kernel
theorem dX8_seed_4 : decode cX8_seed 4 = .ok (.iconst (-1), 1) := by decide +kernel
theorem dX8_seed_5 : decode cX8_seed 5 = .ok (.ireturn, 1) := by decide +kernel
theorem dX8_seed_6 : decode cX8_seed 6 = .ok (.aload_n 0, 1) := by decide +kernel
theorem dX8_seed_7 : decode cX8_seed 7 = .ok (.getfield 39, 3) := by decide +kernel
theorem dX8_seed_10 : decode cX8_seed 10 = .ok (.getfield 143, 3) := by decide +kernel
theorem dX8_seed_13 : decode cX8_seed 13 = .ok (.getfield 190, 3) := by decide +kernel
theorem dX8_seed_16 : decode cX8_seed 16 = .ok (.istore_n 2, 1) := by decide +kernel
theorem dX8_seed_17 : decode cX8_seed 17 = .ok (.aload_n 0, 1) := by decide +kernel
theorem dX8_seed_18 : decode cX8_seed 18 = .ok (.getfield 39, 3) := by decide +kernel
theorem dX8_seed_21 : decode cX8_seed 21 = .ok (.getfield 143, 3) := by decide +kernel
theorem dX8_seed_24 : decode cX8_seed 24 = .ok (.iload_n 1, 1) := by decide +kernel
theorem dX8_seed_25 : decode cX8_seed 25 = .ok (.putfield 190, 3) := by decide +kernel
theorem dX8_seed_28 : decode cX8_seed 28 = .ok (.iload_n 2, 1) := by decide +kernel
theorem dX8_seed_29 : decode cX8_seed 29 = .ok (.ireturn, 1) := by decide +kernel
theorem dX8_seen_0 : decode cX8_seen 0 = .ok (.aload_n 0, 1) := by decide +kernel
theorem dX8_seen_1 : decode cX8_seen 1 = .ok (.iload_n 1, 1) := by decide +kernel
theorem dX8_seen_2 : decode cX8_seen 2 = .ok (.invokevirtual 139, 3) := by decide +kernel
theorem dX8_seen_5 : decode cX8_seen 5 = .ok (.ifCond .eq 12, 3) := by decide +kernel
theorem dX8_seen_8 : decode cX8_seen 8 = .ok (.iload_n 2, 1) := by decide +kernel
theorem dX8_seen_9 : decode cX8_seen 9 = .ok (.ifCond .lt 8, 3) := by decide +kernel
theorem dX8_seen_12 : decode cX8_seen 12 = .ok (.iload_n 2, 1) := by decide +kernel
theorem dX8_seen_13 : decode cX8_seen 13 = .ok (.iconst 1, 1) := by decide +kernel
theorem dX8_seen_14 : decode cX8_seen 14 = .ok (.if_icmp .le 7, 3) := by decide +kernel
theorem dX8_seen_17 : decode cX8_seen 17 = .ok (.ldc2_w 243, 3) := by decide +kernel
theorem dX8_seen_20 : decode cX8_seen 20 = .ok (.lreturn, 1) := by decide +kernel
theorem dX8_seen_21 : decode cX8_seen 21 = .ok (.aload_n 0, 1) := by decide +kernel
theorem dX8_seen_22 : decode cX8_seen 22 = .ok (.getfield 39, 3) := by decide +kernel
theorem dX8_seen_25 : decode cX8_seen 25 = .ok (.getfield 143, 3) := by decide +kernel
theorem dX8_seen_28 : decode cX8_seen 28 = .ok (.getfield 158, 3) := by decide +kernel
theorem dX8_seen_31 : decode cX8_seen 31 = .ok (.iload_n 1, 1) := by decide +kernel
theorem dX8_seen_32 : decode cX8_seen 32 = .ok (.invokestatic 161, 3) := by decide +kernel
theorem dX8_seen_35 : decode cX8_seen 35 = .ok (.ifCond .eq 5, 3) := by decide +kernel
theorem dX8_seen_38 : decode cX8_seen 38 = .ok (.lconst 1, 1) := by decide +kernel
theorem dX8_seen_39 : decode cX8_seen 39 = .ok (.lreturn, 1) := by decide +kernel
theorem dX8_seen_40 : decode cX8_seen 40 = .ok (.aload_n 0, 1) := by decide +kernel
theorem dX8_seen_41 : decode cX8_seen 41 = .ok (.iconst 0, 1) := by decide +kernel
theorem dX8_seen_42 : decode cX8_seen 42 = .ok (.aload_n 0, 1) := by decide +kernel
theorem dX8_seen_43 : decode cX8_seen 43 = .ok (.getfield 39, 3) := by decide +kernel
theorem dX8_seen_46 : decode cX8_seen 46 = .ok (.getfield 143, 3) := by decide +kernel
theorem dX8_seen_49 : decode cX8_seen 49 = .ok (.invokevirtual 171, 3) := by decide +kernel
theorem dX8_seen_52 : decode cX8_seen 52 = .ok (.aload_n 0, 1) := by decide +kernel
theorem dX8_seen_53 : decode cX8_seen 53 = .ok (.getfield 39, 3) := by decide +kernel
theorem dX8_seen_56 : decode cX8_seen 56 = .ok (.getfield 143, 3) := by decide +kernel
theorem dX8_seen_59 : decode cX8_seen 59 = .ok (.getfield 178, 3) := by decide +kernel
theorem dX8_seen_62 : decode cX8_seen 62 = .ok (.iload_n 1, 1) := by decide +kernel
theorem dX8_seen_63 : decode cX8_seen 63 = .ok (.invokevirtual 245, 3) := by decide +kernel
theorem dX8_seen_66 : decode cX8_seen 66 = .ok (.lstore_n 3, 1) := by decide +kernel
theorem dX8_seen_67 : decode cX8_seen 67 = .ok (.lload_n 3, 1) := by decide +kernel
theorem dX8_seen_68 : decode cX8_seen 68 = .ok (.aload_n 0, 1) := by decide +kernel
theorem dX8_seen_69 : decode cX8_seen 69 = .ok (.getfield 39, 3) := by decide +kernel
theorem dX8_seen_72 : decode cX8_seen 72 = .ok (.getfield 187, 3) := by decide +kernel
theorem dX8_seen_75 : decode cX8_seen 75 = .ok (.invokestatic 249, 3) := by decide +kernel
theorem dX8_seen_78 : decode cX8_seen 78 = .ok (.iload_n 2, 1) := by decide +kernel
theorem dX8_seen_79 : decode cX8_seen 79 = .ok (.invokestatic 253, 3) := by decide +kernel
theorem dX8_seen_82 : decode cX8_seen 82 = .ok (.lreturn, 1) := by decide +kernel
theorem dX8_weeks_0 : decode cX8_weeks 0 = .ok (.aload_n 0, 1) := by decide +kernel
theorem dX8_weeks_1 : decode cX8_weeks 1 = .ok (.iload_n 1, 1) := by decide +kernel
theorem dX8_weeks_2 : decode cX8_weeks 2 = .ok (.invokevirtual 228, 3) := by decide +kernel
theorem dX8_weeks_5 : decode cX8_weeks 5 = .ok (.astore 4, 2) := by decide +kernel
theorem dX8_weeks_7 : decode cX8_weeks 7 = .ok (.aload 4, 2) := by decide +kernel
theorem dX8_weeks_9 : decode cX8_weeks 9 = .ok (.ifnull 23, 3) := by decide +kernel
theorem dX8_weeks_12 : decode cX8_weeks 12 = .ok (.iload_n 2, 1) := by decide +kernel
theorem dX8_weeks_13 : decode cX8_weeks 13 = .ok (.iconst 1, 1) := by decide +kernel
theorem dX8_weeks_14 : decode cX8_weeks 14 = .ok (.if_icmp .lt 18, 3) := by decide +kernel
theorem dX8_weeks_17 : decode cX8_weeks 17 = .ok (.iload_n 2, 1) := by decide +kernel
theorem dX8_weeks_18 : decode cX8_weeks 18 = .ok (.bipush 20, 2) := by decide +kernel
theorem dX8_weeks_20 : decode cX8_weeks 20 = .ok (.if_icmp .gt 12, 3) := by decide +kernel
theorem dX8_weeks_23 : decode cX8_weeks 23 = .ok (.iload_n 3, 1) := by decide +kernel
theorem dX8_weeks_24 : decode cX8_weeks 24 = .ok (.ifCond .lt 8, 3) := by decide +kernel
theorem dX8_weeks_27 : decode cX8_weeks 27 = .ok (.iload_n 3, 1) := by decide +kernel
theorem dX8_weeks_28 : decode cX8_weeks 28 = .ok (.iconst 2, 1) := by decide +kernel
theorem dX8_weeks_29 : decode cX8_weeks 29 = .ok (.if_icmp .le 5, 3) := by decide +kernel
theorem dX8_weeks_32 : decode cX8_weeks 32 = .ok (.iconst (-1), 1) := by decide +kernel
theorem dX8_weeks_33 : decode cX8_weeks 33 = .ok (.ireturn, 1) := by decide +kernel
theorem dX8_weeks_34 : decode cX8_weeks 34 = .ok (.aload_n 0, 1) := by decide +kernel
theorem dX8_weeks_35 : decode cX8_weeks 35 = .ok (.getfield 50, 3) := by decide +kernel
theorem dX8_weeks_38 : decode cX8_weeks 38 = .ok (.aload_n 0, 1) := by decide +kernel
theorem dX8_weeks_39 : decode cX8_weeks 39 = .ok (.getfield 39, 3) := by decide +kernel
theorem dX8_weeks_42 : decode cX8_weeks 42 = .ok (.getfield 143, 3) := by decide +kernel
theorem dX8_weeks_45 : decode cX8_weeks 45 = .ok (.invokevirtual 236, 3) := by decide +kernel
theorem dX8_weeks_48 : decode cX8_weeks 48 = .ok (.iconst 0, 1) := by decide +kernel
theorem dX8_weeks_49 : decode cX8_weeks 49 = .ok (.istore 5, 2) := by decide +kernel
theorem dX8_weeks_51 : decode cX8_weeks 51 = .ok (.iconst 0, 1) := by decide +kernel
theorem dX8_weeks_52 : decode cX8_weeks 52 = .ok (.istore 6, 2) := by decide +kernel
theorem dX8_weeks_54 : decode cX8_weeks 54 = .ok (.iload 6, 2) := by decide +kernel
theorem dX8_weeks_56 : decode cX8_weeks 56 = .ok (.iload_n 2, 1) := by decide +kernel
theorem dX8_weeks_57 : decode cX8_weeks 57 = .ok (.bipush 6, 2) := by decide +kernel
theorem dX8_weeks_59 : decode cX8_weeks 59 = .ok (.imul, 1) := by decide +kernel
theorem dX8_weeks_60 : decode cX8_weeks 60 = .ok (.if_icmp .ge 101, 3) := by decide +kernel
theorem dX8_weeks_63 : decode cX8_weeks 63 = .ok (.aload_n 0, 1) := by decide +kernel
theorem dX8_weeks_64 : decode cX8_weeks 64 = .ok (.getfield 50, 3) := by decide +kernel
theorem dX8_weeks_67 : decode cX8_weeks 67 = .ok (.aload_n 0, 1) := by decide +kernel
theorem dX8_weeks_68 : decode cX8_weeks 68 = .ok (.getfield 39, 3) := by decide +kernel
theorem dX8_weeks_71 : decode cX8_weeks 71 = .ok (.getfield 119, 3) := by decide +kernel
theorem dX8_weeks_74 : decode cX8_weeks 74 = .ok (.getfield 196, 3) := by decide +kernel
theorem dX8_weeks_77 : decode cX8_weeks 77 = .ok (.invokevirtual 225, 3) := by decide +kernel
theorem dX8_weeks_80 : decode cX8_weeks 80 = .ok (.aload_n 0, 1) := by decide +kernel
theorem dX8_weeks_81 : decode cX8_weeks 81 = .ok (.getfield 64, 3) := by decide +kernel
theorem dX8_weeks_84 : decode cX8_weeks 84 = .ok (.aload_n 0, 1) := by decide +kernel
theorem dX8_weeks_85 : decode cX8_weeks 85 = .ok (.getfield 39, 3) := by decide +kernel
theorem dX8_weeks_88 : decode cX8_weeks 88 = .ok (.getfield 119, 3) := by decide +kernel
theorem dX8_weeks_91 : decode cX8_weeks 91 = .ok (.aload 4, 2) := by decide +kernel
theorem dX8_weeks_93 : decode cX8_weeks 93 = .ok (.aload_n 0, 1) := by decide +kernel
theorem dX8_weeks_94 : decode cX8_weeks 94 = .ok (.getfield 50, 3) := by decide +kernel
theorem dX8_weeks_97 : decode cX8_weeks 97 = .ok (.invokevirtual 232, 3) := by decide +kernel
theorem dX8_weeks_100 : decode cX8_weeks 100 = .ok (.pop, 1) := by decide +kernel
theorem dX8_weeks_101 : decode cX8_weeks 101 = .ok (.iload 5, 2) := by decide +kernel
theorem dX8_weeks_103 : decode cX8_weeks 103 = .ok (.iload_n 3, 1) := by decide +kernel
theorem dX8_weeks_104 : decode cX8_weeks 104 = .ok (.ifCond .ne 13, 3) := by decide +kernel
theorem dX8_weeks_107 : decode cX8_weeks 107 = .ok (.aload_n 0, 1) := by decide +kernel
theorem dX8_weeks_108 : decode cX8_weeks 108 = .ok (.getfield 50, 3) := by decide +kernel
theorem dX8_weeks_111 : decode cX8_weeks 111 = .ok (.getfield 199, 3) := by decide +kernel
theorem dX8_weeks_114 : decode cX8_weeks 114 = .ok (.goto 38, 3) := by decide +kernel
theorem dX8_weeks_117 : decode cX8_weeks 117 = .ok (.iload_n 3, 1) := by decide +kernel
theorem dX8_weeks_118 : decode cX8_weeks 118 = .ok (.iconst 1, 1) := by decide +kernel
theorem dX8_weeks_119 : decode cX8_weeks 119 = .ok (.if_icmp .ne 16, 3) := by decide +kernel
theorem dX8_weeks_122 : decode cX8_weeks 122 = .ok (.aload_n 0, 1) := by decide +kernel
theorem dX8_weeks_123 : decode cX8_weeks 123 = .ok (.getfield 50, 3) := by decide +kernel
theorem dX8_weeks_126 : decode cX8_weeks 126 = .ok (.getfield 158, 3) := by decide +kernel
theorem dX8_weeks_129 : decode cX8_weeks 129 = .ok (.invokestatic 181, 3) := by decide +kernel
theorem dX8_weeks_132 : decode cX8_weeks 132 = .ok (.goto 20, 3) := by decide +kernel
theorem dX8_weeks_135 : decode cX8_weeks 135 = .ok (.aload_n 0, 1) := by decide +kernel
theorem dX8_weeks_136 : decode cX8_weeks 136 = .ok (.getfield 39, 3) := by decide +kernel
theorem dX8_weeks_139 : decode cX8_weeks 139 = .ok (.getfield 119, 3) := by decide +kernel
theorem dX8_weeks_142 : decode cX8_weeks 142 = .ok (.aload_n 0, 1) := by decide +kernel
theorem dX8_weeks_143 : decode cX8_weeks 143 = .ok (.getfield 50, 3) := by decide +kernel
theorem dX8_weeks_146 : decode cX8_weeks 146 = .ok (.invokevirtual 171, 3) := by decide +kernel
theorem dX8_weeks_149 : decode cX8_weeks 149 = .ok (.invokevirtual 222, 3) := by decide +kernel
theorem dX8_weeks_152 : decode cX8_weeks 152 = .ok (.iadd, 1) := by decide +kernel
theorem dX8_weeks_153 : decode cX8_weeks 153 = .ok (.istore 5, 2) := by decide +kernel
theorem dX8_weeks_155 : decode cX8_weeks 155 = .ok (.iinc 6 1, 3) := by decide +kernel
theorem dX8_weeks_158 : decode cX8_weeks 158 = .ok (.goto (-104), 3) := by decide +kernel
theorem dX8_weeks_161 : decode cX8_weeks 161 = .ok (.iload 5, 2) := by decide +kernel
theorem dX8_weeks_163 : decode cX8_weeks 163 = .ok (.ireturn, 1) := by decide +kernel
theorem dX8_worth_0 : decode cX8_worth 0 = .ok (.aload_n 0, 1) := by decide +kernel
theorem dX8_worth_1 : decode cX8_worth 1 = .ok (.invokevirtual 213, 3) := by decide +kernel
theorem dX8_worth_4 : decode cX8_worth 4 = .ok (.ifCond .eq 12, 3) := by decide +kernel
theorem dX8_worth_7 : decode cX8_worth 7 = .ok (.iload_n 1, 1) := by decide +kernel
theorem dX8_worth_8 : decode cX8_worth 8 = .ok (.ifCond .lt 8, 3) := by decide +kernel
theorem dX8_worth_11 : decode cX8_worth 11 = .ok (.iload_n 1, 1) := by decide +kernel
theorem dX8_worth_12 : decode cX8_worth 12 = .ok (.iconst 1, 1) := by decide +kernel
theorem dX8_worth_13 : decode cX8_worth 13 = .ok (.if_icmp .le 7, 3) := by decide +kernel
theorem dX8_worth_16 : decode cX8_worth 16 = .ok (.ldc2_w 243, 3) := by decide +kernel
theorem dX8_worth_19 : decode cX8_worth 19 = .ok (.lreturn, 1) := by decide +kernel
theorem dX8_worth_20 : decode cX8_worth 20 = .ok (.aload_n 0, 1) := by decide +kernel
theorem dX8_worth_21 : decode cX8_worth 21 = .ok (.iconst 0, 1) := by decide +kernel
theorem dX8_worth_22 : decode cX8_worth 22 = .ok (.aload_n 0, 1) := by decide +kernel
theorem dX8_worth_23 : decode cX8_worth 23 = .ok (.getfield 39, 3) := by decide +kernel
theorem dX8_worth_26 : decode cX8_worth 26 = .ok (.getfield 143, 3) := by decide +kernel
theorem dX8_worth_29 : decode cX8_worth 29 = .ok (.invokevirtual 171, 3) := by decide +kernel
theorem dX8_worth_32 : decode cX8_worth 32 = .ok (.aload_n 0, 1) := by decide +kernel
theorem dX8_worth_33 : decode cX8_worth 33 = .ok (.getfield 39, 3) := by decide +kernel
theorem dX8_worth_36 : decode cX8_worth 36 = .ok (.getfield 143, 3) := by decide +kernel
theorem dX8_worth_39 : decode cX8_worth 39 = .ok (.getfield 178, 3) := by decide +kernel
theorem dX8_worth_42 : decode cX8_worth 42 = .ok (.iconst (-1), 1) := by decide +kernel
theorem dX8_worth_43 : decode cX8_worth 43 = .ok (.invokevirtual 245, 3) := by decide +kernel
theorem dX8_worth_46 : decode cX8_worth 46 = .ok (.lstore_n 2, 1) := by decide +kernel
theorem dX8_worth_47 : decode cX8_worth 47 = .ok (.lload_n 2, 1) := by decide +kernel
theorem dX8_worth_48 : decode cX8_worth 48 = .ok (.aload_n 0, 1) := by decide +kernel
theorem dX8_worth_49 : decode cX8_worth 49 = .ok (.getfield 39, 3) := by decide +kernel
theorem dX8_worth_52 : decode cX8_worth 52 = .ok (.getfield 187, 3) := by decide +kernel
theorem dX8_worth_55 : decode cX8_worth 55 = .ok (.invokestatic 249, 3) := by decide +kernel
theorem dX8_worth_58 : decode cX8_worth 58 = .ok (.iload_n 1, 1) := by decide +kernel
theorem dX8_worth_59 : decode cX8_worth 59 = .ok (.invokestatic 253, 3) := by decide +kernel
theorem dX8_worth_62 : decode cX8_worth 62 = .ok (.lreturn, 1) := by decide +kernel
theorem dX8_would_0 : decode cX8_would 0 = .ok (.aload_n 0, 1) := by decide +kernel
theorem dX8_would_1 : decode cX8_would 1 = .ok (.iload_n 1, 1) := by decide +kernel
theorem dX8_would_2 : decode cX8_would 2 = .ok (.invokevirtual 228, 3) := by decide +kernel
theorem dX8_would_5 : decode cX8_would 5 = .ok (.astore_n 3, 1) := by decide +kernel
theorem dX8_would_6 : decode cX8_would 6 = .ok (.aload_n 3, 1) := by decide +kernel
theorem dX8_would_7 : decode cX8_would 7 = .ok (.ifnull 12, 3) := by decide +kernel
theorem dX8_would_10 : decode cX8_would 10 = .ok (.iload_n 2, 1) := by decide +kernel
theorem dX8_would_11 : decode cX8_would 11 = .ok (.ifCond .lt 8, 3) := by decide +kernel
theorem dX8_would_14 : decode cX8_would 14 = .ok (.iload_n 2, 1) := by decide +kernel
theorem dX8_would_15 : decode cX8_would 15 = .ok (.iconst 4, 1) := by decide +kernel
theorem dX8_would_16 : decode cX8_would 16 = .ok (.if_icmp .le 6, 3) := by decide +kernel
theorem dX8_would_19 : decode cX8_would 19 = .ok (.ldc 208, 2) := by decide +kernel
theorem dX8_would_21 : decode cX8_would 21 = .ok (.ireturn, 1) := by decide +kernel
theorem dX8_would_22 : decode cX8_would 22 = .ok (.aload_n 0, 1) := by decide +kernel
theorem dX8_would_23 : decode cX8_would 23 = .ok (.getfield 50, 3) := by decide +kernel
theorem dX8_would_26 : decode cX8_would 26 = .ok (.aload_n 0, 1) := by decide +kernel
theorem dX8_would_27 : decode cX8_would 27 = .ok (.getfield 39, 3) := by decide +kernel
theorem dX8_would_30 : decode cX8_would 30 = .ok (.getfield 143, 3) := by decide +kernel
theorem dX8_would_33 : decode cX8_would 33 = .ok (.invokevirtual 236, 3) := by decide +kernel
theorem dX8_would_36 : decode cX8_would 36 = .ok (.aload_n 0, 1) := by decide +kernel
theorem dX8_would_37 : decode cX8_would 37 = .ok (.getfield 64, 3) := by decide +kernel
theorem dX8_would_40 : decode cX8_would 40 = .ok (.aload_n 0, 1) := by decide +kernel
theorem dX8_would_41 : decode cX8_would 41 = .ok (.getfield 39, 3) := by decide +kernel
theorem dX8_would_44 : decode cX8_would 44 = .ok (.getfield 119, 3) := by decide +kernel
theorem dX8_would_47 : decode cX8_would 47 = .ok (.aload_n 3, 1) := by decide +kernel
theorem dX8_would_48 : decode cX8_would 48 = .ok (.aload_n 0, 1) := by decide +kernel
theorem dX8_would_49 : decode cX8_would 49 = .ok (.getfield 50, 3) := by decide +kernel
theorem dX8_would_52 : decode cX8_would 52 = .ok (.invokevirtual 232, 3) := by decide +kernel
theorem dX8_would_55 : decode cX8_would 55 = .ok (.istore 4, 2) := by decide +kernel
theorem dX8_would_57 : decode cX8_would 57 = .ok (.iload_n 2, 1) := by decide +kernel
theorem dX8_would_58 : decode cX8_would 58 = .ok (.tableswitch 96 0 3 #[30, 49, 70, 78], 30) := by decide +kernel
theorem dX8_would_88 : decode cX8_would 88 = .ok (.aload_n 0, 1) := by decide +kernel
theorem dX8_would_89 : decode cX8_would 89 = .ok (.getfield 50, 3) := by decide +kernel
theorem dX8_would_92 : decode cX8_would 92 = .ok (.getfield 199, 3) := by decide +kernel
theorem dX8_would_95 : decode cX8_would 95 = .ok (.aload_n 0, 1) := by decide +kernel
theorem dX8_would_96 : decode cX8_would 96 = .ok (.getfield 39, 3) := by decide +kernel
theorem dX8_would_99 : decode cX8_would 99 = .ok (.getfield 143, 3) := by decide +kernel
theorem dX8_would_102 : decode cX8_would 102 = .ok (.getfield 199, 3) := by decide +kernel
theorem dX8_would_105 : decode cX8_would 105 = .ok (.isub, 1) := by decide +kernel
theorem dX8_would_106 : decode cX8_would 106 = .ok (.ireturn, 1) := by decide +kernel
theorem dX8_would_107 : decode cX8_would 107 = .ok (.aload_n 0, 1) := by decide +kernel
theorem dX8_would_108 : decode cX8_would 108 = .ok (.getfield 50, 3) := by decide +kernel
theorem dX8_would_111 : decode cX8_would 111 = .ok (.getfield 158, 3) := by decide +kernel
theorem dX8_would_114 : decode cX8_would 114 = .ok (.aload_n 0, 1) := by decide +kernel
theorem dX8_would_115 : decode cX8_would 115 = .ok (.getfield 39, 3) := by decide +kernel
theorem dX8_would_118 : decode cX8_would 118 = .ok (.getfield 143, 3) := by decide +kernel
theorem dX8_would_121 : decode cX8_would 121 = .ok (.getfield 158, 3) := by decide +kernel
theorem dX8_would_124 : decode cX8_would 124 = .ok (.iconst (-1), 1) := by decide +kernel
theorem dX8_would_125 : decode cX8_would 125 = .ok (.ixor, 1) := by decide +kernel
theorem dX8_would_126 : decode cX8_would 126 = .ok (.iand, 1) := by decide +kernel
theorem dX8_would_127 : decode cX8_would 127 = .ok (.ireturn, 1) := by decide +kernel
theorem dX8_would_128 : decode cX8_would 128 = .ok (.aload_n 0, 1) := by decide +kernel
theorem dX8_would_129 : decode cX8_would 129 = .ok (.getfield 50, 3) := by decide +kernel
theorem dX8_would_132 : decode cX8_would 132 = .ok (.getfield 178, 3) := by decide +kernel
theorem dX8_would_135 : decode cX8_would 135 = .ok (.ireturn, 1) := by decide +kernel
theorem dX8_would_136 : decode cX8_would 136 = .ok (.aload_n 0, 1) := by decide +kernel
theorem dX8_would_137 : decode cX8_would 137 = .ok (.getfield 39, 3) := by decide +kernel
theorem dX8_would_140 : decode cX8_would 140 = .ok (.getfield 119, 3) := by decide +kernel
theorem dX8_would_143 : decode cX8_would 143 = .ok (.aload_n 0, 1) := by decide +kernel
theorem dX8_would_144 : decode cX8_would 144 = .ok (.getfield 50, 3) := by decide +kernel
theorem dX8_would_147 : decode cX8_would 147 = .ok (.invokevirtual 171, 3) := by decide +kernel
theorem dX8_would_150 : decode cX8_would 150 = .ok (.invokevirtual 222, 3) := by decide +kernel
theorem dX8_would_153 : decode cX8_would 153 = .ok (.ireturn, 1) := by decide +kernel
theorem dX8_would_154 : decode cX8_would 154 = .ok (.iload 4, 2) := by decide +kernel
theorem dX8_would_156 : decode cX8_would 156 = .ok (.ireturn, 1) := by decide +kernel
theorem dX9_back_0 : decode cX9_back 0 = .ok (.iload_n 1, 1) := by decide +kernel
theorem dX9_back_1 : decode cX9_back 1 = .ok (.i2l, 1) := by decide +kernel
theorem dX9_back_2 : decode cX9_back 2 = .ok (.lconst 0, 1) := by decide +kernel
theorem dX9_back_3 : decode cX9_back 3 = .ok (.ldc2_w 414, 3) := by decide +kernel
theorem dX9_back_6 : decode cX9_back 6 = .ok (.invokestatic 118, 3) := by decide +kernel
theorem dX9_back_9 : decode cX9_back 9 = .ok (.ifCond .eq 12, 3) := by decide +kernel
theorem dX9_back_12 : decode cX9_back 12 = .ok (.aload_n 0, 1) := by decide +kernel
theorem dX9_back_13 : decode cX9_back 13 = .ok (.getfield 76, 3) := by decide +kernel
theorem dX9_back_16 : decode cX9_back 16 = .ok (.iload_n 1, 1) := by decide +kernel
theorem dX9_back_17 : decode cX9_back 17 = .ok (.baload, 1) := by decide +kernel
theorem dX9_back_18 : decode cX9_back 18 = .ok (.ifCond .ne 5, 3) := by decide +kernel
theorem dX9_back_21 : decode cX9_back 21 = .ok (.iconst (-1), 1) := by decide +kernel
theorem dX9_back_22 : decode cX9_back 22 = .ok (.ireturn, 1) := by decide +kernel
theorem dX9_back_23 : decode cX9_back 23 = .ok (.iconst 0, 1) := by decide +kernel
theorem dX9_back_24 : decode cX9_back 24 = .ok (.istore_n 2, 1) := by decide +kernel
theorem dX9_back_25 : decode cX9_back 25 = .ok (.iload_n 2, 1) := by decide +kernel
theorem dX9_back_26 : decode cX9_back 26 = .ok (.bipush 104, 2) := by decide +kernel
theorem dX9_back_28 : decode cX9_back 28 = .ok (.if_icmp .ge 26, 3) := by decide +kernel
theorem dX9_back_31 : decode cX9_back 31 = .ok (.aload_n 0, 1) := by decide +kernel
theorem dX9_back_32 : decode cX9_back 32 = .ok (.getfield 42, 3) := by decide +kernel
theorem dX9_back_35 : decode cX9_back 35 = .ok (.iload_n 2, 1) := by decide +kernel
theorem dX9_back_36 : decode cX9_back 36 = .ok (.aload_n 0, 1) := by decide +kernel
theorem dX9_back_37 : decode cX9_back 37 = .ok (.getfield 73, 3) := by decide +kernel
theorem dX9_back_40 : decode cX9_back 40 = .ok (.bipush 104, 2) := by decide +kernel
theorem dX9_back_42 : decode cX9_back 42 = .ok (.iload_n 1, 1) := by decide +kernel
theorem dX9_back_43 : decode cX9_back 43 = .ok (.imul, 1) := by decide +kernel
theorem dX9_back_44 : decode cX9_back 44 = .ok (.iload_n 2, 1) := by decide +kernel
theorem dX9_back_45 : decode cX9_back 45 = .ok (.iadd, 1) := by decide +kernel
theorem dX9_back_46 : decode cX9_back 46 = .ok (.iaload, 1) := by decide +kernel
theorem dX9_back_47 : decode cX9_back 47 = .ok (.iastore, 1) := by decide +kernel
theorem dX9_back_48 : decode cX9_back 48 = .ok (.iinc 2 1, 3) := by decide +kernel
theorem dX9_back_51 : decode cX9_back 51 = .ok (.goto (-26), 3) := by decide +kernel
theorem dX9_back_54 : decode cX9_back 54 = .ok (.aload_n 0, 1) := by decide +kernel
theorem dX9_back_55 : decode cX9_back 55 = .ok (.getfield 42, 3) := by decide +kernel
theorem dX9_back_58 : decode cX9_back 58 = .ok (.bipush 7, 2) := by decide +kernel
theorem dX9_back_60 : decode cX9_back 60 = .ok (.iaload, 1) := by decide +kernel
theorem dX9_back_61 : decode cX9_back 61 = .ok (.ireturn, 1) := by decide +kernel
theorem dX9_begins_0 : decode cX9_begins 0 = .ok (.aload_n 0, 1) := by decide +kernel
theorem dX9_begins_1 : decode cX9_begins 1 = .ok (.getfield 42, 3) := by decide +kernel
theorem dX9_begins_4 : decode cX9_begins 4 = .ok (.iconst 3, 1) := by decide +kernel
theorem dX9_begins_5 : decode cX9_begins 5 = .ok (.aload_n 0, 1) := by decide +kernel
theorem dX9_begins_6 : decode cX9_begins 6 = .ok (.getfield 42, 3) := by decide +kernel
theorem dX9_begins_9 : decode cX9_begins 9 = .ok (.iconst 2, 1) := by decide +kernel
theorem dX9_begins_10 : decode cX9_begins 10 = .ok (.iaload, 1) := by decide +kernel
theorem dX9_begins_11 : decode cX9_begins 11 = .ok (.iastore, 1) := by decide +kernel
theorem dX9_begins_12 : decode cX9_begins 12 = .ok (.aload_n 0, 1) := by decide +kernel
theorem dX9_begins_13 : decode cX9_begins 13 = .ok (.getfield 42, 3) := by decide +kernel
theorem dX9_begins_16 : decode cX9_begins 16 = .ok (.iconst 4, 1) := by decide +kernel
theorem dX9_begins_17 : decode cX9_begins 17 = .ok (.iconst 0, 1) := by decide +kernel
theorem dX9_begins_18 : decode cX9_begins 18 = .ok (.iastore, 1) := by decide +kernel
theorem dX9_begins_19 : decode cX9_begins 19 = .ok (.iconst 0, 1) := by decide +kernel
theorem dX9_begins_20 : decode cX9_begins 20 = .ok (.istore_n 1, 1) := by decide +kernel
theorem dX9_begins_21 : decode cX9_begins 21 = .ok (.iload_n 1, 1) := by decide +kernel
theorem dX9_begins_22 : decode cX9_begins 22 = .ok (.aload_n 0, 1) := by decide +kernel
theorem dX9_begins_23 : decode cX9_begins 23 = .ok (.getfield 42, 3) := by decide +kernel
theorem dX9_begins_26 : decode cX9_begins 26 = .ok (.iconst 0, 1) := by decide +kernel
theorem dX9_begins_27 : decode cX9_begins 27 = .ok (.iaload, 1) := by decide +kernel
theorem dX9_begins_28 : decode cX9_begins 28 = .ok (.if_icmp .ge 58, 3) := by decide +kernel
theorem dX9_begins_31 : decode cX9_begins 31 = .ok (.bipush 44, 2) := by decide +kernel
theorem dX9_begins_33 : decode cX9_begins 33 = .ok (.bipush 6, 2) := by decide +kernel
theorem dX9_begins_35 : decode cX9_begins 35 = .ok (.iload_n 1, 1) := by decide +kernel
theorem dX9_begins_36 : decode cX9_begins 36 = .ok (.imul, 1) := by decide +kernel
theorem dX9_begins_37 : decode cX9_begins 37 = .ok (.iadd, 1) := by decide +kernel
theorem dX9_begins_38 : decode cX9_begins 38 = .ok (.istore_n 2, 1) := by decide +kernel
theorem dX9_begins_39 : decode cX9_begins 39 = .ok (.aload_n 0, 1) := by decide +kernel
theorem dX9_begins_40 : decode cX9_begins 40 = .ok (.getfield 42, 3) := by decide +kernel
theorem dX9_begins_43 : decode cX9_begins 43 = .ok (.iload_n 2, 1) := by decide +kernel
theorem dX9_begins_44 : decode cX9_begins 44 = .ok (.iconst 4, 1) := by decide +kernel
theorem dX9_begins_45 : decode cX9_begins 45 = .ok (.iadd, 1) := by decide +kernel
theorem dX9_begins_46 : decode cX9_begins 46 = .ok (.aload_n 0, 1) := by decide +kernel
theorem dX9_begins_47 : decode cX9_begins 47 = .ok (.getfield 42, 3) := by decide +kernel
theorem dX9_begins_50 : decode cX9_begins 50 = .ok (.iload_n 2, 1) := by decide +kernel
theorem dX9_begins_51 : decode cX9_begins 51 = .ok (.iconst 4, 1) := by decide +kernel
theorem dX9_begins_52 : decode cX9_begins 52 = .ok (.iadd, 1) := by decide +kernel
theorem dX9_begins_53 : decode cX9_begins 53 = .ok (.iaload, 1) := by decide +kernel
theorem dX9_begins_54 : decode cX9_begins 54 = .ok (.iconst 1, 1) := by decide +kernel
theorem dX9_begins_55 : decode cX9_begins 55 = .ok (.if_icmp .ne 7, 3) := by decide +kernel
theorem dX9_begins_58 : decode cX9_begins 58 = .ok (.iconst 0, 1) := by decide +kernel
theorem dX9_begins_59 : decode cX9_begins 59 = .ok (.goto 11, 3) := by decide +kernel
theorem dX9_begins_62 : decode cX9_begins 62 = .ok (.aload_n 0, 1) := by decide +kernel
theorem dX9_begins_63 : decode cX9_begins 63 = .ok (.getfield 42, 3) := by decide +kernel
theorem dX9_begins_66 : decode cX9_begins 66 = .ok (.iload_n 2, 1) := by decide +kernel
theorem dX9_begins_67 : decode cX9_begins 67 = .ok (.iconst 4, 1) := by decide +kernel
theorem dX9_begins_68 : decode cX9_begins 68 = .ok (.iadd, 1) := by decide +kernel
theorem dX9_begins_69 : decode cX9_begins 69 = .ok (.iaload, 1) := by decide +kernel
theorem dX9_begins_70 : decode cX9_begins 70 = .ok (.iastore, 1) := by decide +kernel
theorem dX9_begins_71 : decode cX9_begins 71 = .ok (.aload_n 0, 1) := by decide +kernel
theorem dX9_begins_72 : decode cX9_begins 72 = .ok (.getfield 42, 3) := by decide +kernel
theorem dX9_begins_75 : decode cX9_begins 75 = .ok (.iload_n 2, 1) := by decide +kernel
theorem dX9_begins_76 : decode cX9_begins 76 = .ok (.iconst 5, 1) := by decide +kernel
theorem dX9_begins_77 : decode cX9_begins 77 = .ok (.iadd, 1) := by decide +kernel
theorem dX9_begins_78 : decode cX9_begins 78 = .ok (.iconst 0, 1) := by decide +kernel
theorem dX9_begins_79 : decode cX9_begins 79 = .ok (.iastore, 1) := by decide +kernel
theorem dX9_begins_80 : decode cX9_begins 80 = .ok (.iinc 1 1, 3) := by decide +kernel
theorem dX9_begins_83 : decode cX9_begins 83 = .ok (.goto (-62), 3) := by decide +kernel
theorem dX9_begins_86 : decode cX9_begins 86 = .ok (.return_, 1) := by decide +kernel
theorem dX9_best_0 : decode cX9_best 0 = .ok (.aload_n 0, 1) := by decide +kernel
theorem dX9_best_1 : decode cX9_best 1 = .ok (.invokevirtual 301, 3) := by decide +kernel
theorem dX9_best_4 : decode cX9_best 4 = .ok (.ifCond .eq 27, 3) := by decide +kernel
theorem dX9_best_7 : decode cX9_best 7 = .ok (.iload_n 1, 1) := by decide +kernel
theorem dX9_best_8 : decode cX9_best 8 = .ok (.i2l, 1) := by decide +kernel
theorem dX9_best_9 : decode cX9_best 9 = .ok (.lconst 0, 1) := by decide +kernel
theorem dX9_best_10 : decode cX9_best 10 = .ok (.ldc2_w 388, 3) := by decide +kernel
theorem dX9_best_13 : decode cX9_best 13 = .ok (.invokestatic 118, 3) := by decide +kernel
theorem dX9_best_16 : decode cX9_best 16 = .ok (.ifCond .eq 15, 3) := by decide +kernel
theorem dX9_best_19 : decode cX9_best 19 = .ok (.iload_n 2, 1) := by decide +kernel
theorem dX9_best_20 : decode cX9_best 20 = .ok (.i2l, 1) := by decide +kernel
theorem dX9_best_21 : decode cX9_best 21 = .ok (.lconst 0, 1) := by decide +kernel
theorem dX9_best_22 : decode cX9_best 22 = .ok (.ldc2_w 278, 3) := by decide +kernel
theorem dX9_best_25 : decode cX9_best 25 = .ok (.invokestatic 118, 3) := by decide +kernel
theorem dX9_best_28 : decode cX9_best 28 = .ok (.ifCond .ne 7, 3) := by decide +kernel
theorem dX9_best_31 : decode cX9_best 31 = .ok (.ldc2_w 362, 3) := by decide +kernel
theorem dX9_best_34 : decode cX9_best 34 = .ok (.lreturn, 1) := by decide +kernel
theorem dX9_best_35 : decode cX9_best 35 = .ok (.aload_n 0, 1) := by decide +kernel
theorem dX9_best_36 : decode cX9_best 36 = .ok (.invokevirtual 343, 3) := by decide +kernel
theorem dX9_best_39 : decode cX9_best 39 = .ok (.aload_n 0, 1) := by decide +kernel
theorem dX9_best_40 : decode cX9_best 40 = .ok (.iload_n 1, 1) := by decide +kernel
theorem dX9_best_41 : decode cX9_best 41 = .ok (.invokevirtual 390, 3) := by decide +kernel
theorem dX9_best_44 : decode cX9_best 44 = .ok (.aload_n 0, 1) := by decide +kernel
theorem dX9_best_45 : decode cX9_best 45 = .ok (.invokevirtual 346, 3) := by decide +kernel
theorem dX9_best_48 : decode cX9_best 48 = .ok (.iload_n 2, 1) := by decide +kernel
theorem dX9_best_49 : decode cX9_best 49 = .ok (.iconst 2, 1) := by decide +kernel
theorem dX9_best_50 : decode cX9_best 50 = .ok (.if_icmp .ne 13, 3) := by decide +kernel
theorem dX9_best_53 : decode cX9_best 53 = .ok (.aload_n 0, 1) := by decide +kernel
theorem dX9_best_54 : decode cX9_best 54 = .ok (.getfield 67, 3) := by decide +kernel
theorem dX9_best_57 : decode cX9_best 57 = .ok (.iconst 0, 1) := by decide +kernel
theorem dX9_best_58 : decode cX9_best 58 = .ok (.iaload, 1) := by decide +kernel
theorem dX9_best_59 : decode cX9_best 59 = .ok (.i2l, 1) := by decide +kernel
theorem dX9_best_60 : decode cX9_best 60 = .ok (.goto 19, 3) := by decide +kernel
theorem dX9_best_63 : decode cX9_best 63 = .ok (.aload_n 0, 1) := by decide +kernel
theorem dX9_best_64 : decode cX9_best 64 = .ok (.aload_n 0, 1) := by decide +kernel
theorem dX9_best_65 : decode cX9_best 65 = .ok (.getfield 61, 3) := by decide +kernel
theorem dX9_best_68 : decode cX9_best 68 = .ok (.iconst 0, 1) := by decide +kernel
theorem dX9_best_69 : decode cX9_best 69 = .ok (.laload, 1) := by decide +kernel
theorem dX9_best_70 : decode cX9_best 70 = .ok (.aload_n 0, 1) := by decide +kernel
theorem dX9_best_71 : decode cX9_best 71 = .ok (.iload_n 1, 1) := by decide +kernel
theorem dX9_best_72 : decode cX9_best 72 = .ok (.invokevirtual 367, 3) := by decide +kernel
theorem dX9_best_75 : decode cX9_best 75 = .ok (.iload_n 2, 1) := by decide +kernel
theorem dX9_best_76 : decode cX9_best 76 = .ok (.invokevirtual 370, 3) := by decide +kernel
theorem dX9_best_79 : decode cX9_best 79 = .ok (.lreturn, 1) := by decide +kernel
theorem dX9_bits_0 : decode cX9_bits 0 = .ok (.iconst 0, 1) := by decide +kernel
theorem dX9_bits_1 : decode cX9_bits 1 = .ok (.istore_n 1, 1) := by decide +kernel
theorem dX9_bits_2 : decode cX9_bits 2 = .ok (.iload_n 0, 1) := by decide +kernel
theorem dX9_bits_3 : decode cX9_bits 3 = .ok (.istore_n 2, 1) := by decide +kernel
theorem dX9_bits_4 : decode cX9_bits 4 = .ok (.iload_n 2, 1) := by decide +kernel
theorem dX9_bits_5 : decode cX9_bits 5 = .ok (.ifCond .eq 15, 3) := by decide +kernel
theorem dX9_bits_8 : decode cX9_bits 8 = .ok (.iinc 1 1, 3) := by decide +kernel
theorem dX9_bits_11 : decode cX9_bits 11 = .ok (.iload_n 2, 1) := by decide +kernel
theorem dX9_bits_12 : decode cX9_bits 12 = .ok (.iload_n 2, 1) := by decide +kernel
theorem dX9_bits_13 : decode cX9_bits 13 = .ok (.iconst 1, 1) := by decide +kernel
theorem dX9_bits_14 : decode cX9_bits 14 = .ok (.isub, 1) := by decide +kernel
theorem dX9_bits_15 : decode cX9_bits 15 = .ok (.iand, 1) := by decide +kernel
theorem dX9_bits_16 : decode cX9_bits 16 = .ok (.istore_n 2, 1) := by decide +kernel
theorem dX9_bits_17 : decode cX9_bits 17 = .ok (.goto (-13), 3) := by decide +kernel
theorem dX9_bits_20 : decode cX9_bits 20 = .ok (.iload_n 1, 1) := by decide +kernel
theorem dX9_bits_21 : decode cX9_bits 21 = .ok (.ireturn, 1) := by decide +kernel
theorem dX9_canLook_0 : decode cX9_canLook 0 = .ok (.aload_n 0, 1) := by decide +kernel
theorem dX9_canLook_1 : decode cX9_canLook 1 = .ok (.iload_n 1, 1) := by decide +kernel
theorem dX9_canLook_2 : decode cX9_canLook 2 = .ok (.invokevirtual 272, 3) := by decide +kernel
theorem dX9_canLook_5 : decode cX9_canLook 5 = .ok (.ifCond .eq 22, 3) := by decide +kernel
theorem dX9_canLook_8 : decode cX9_canLook 8 = .ok (.aload_n 0, 1) := by decide +kernel
theorem dX9_canLook_9 : decode cX9_canLook 9 = .ok (.iload_n 1, 1) := by decide +kernel
theorem dX9_canLook_10 : decode cX9_canLook 10 = .ok (.iconst 1, 1) := by decide +kernel
theorem dX9_canLook_11 : decode cX9_canLook 11 = .ok (.invokevirtual 268, 3) := by decide +kernel
theorem dX9_canLook_14 : decode cX9_canLook 14 = .ok (.aload_n 0, 1) := by decide +kernel
theorem dX9_canLook_15 : decode cX9_canLook 15 = .ok (.getfield 42, 3) := by decide +kernel
theorem dX9_canLook_18 : decode cX9_canLook 18 = .ok (.iconst 3, 1) := by decide +kernel
theorem dX9_canLook_19 : decode cX9_canLook 19 = .ok (.iaload, 1) := by decide +kernel
theorem dX9_canLook_20 : decode cX9_canLook 20 = .ok (.if_icmp .gt 7, 3) := by decide +kernel
theorem dX9_canLook_23 : decode cX9_canLook 23 = .ok (.iconst 1, 1) := by decide +kernel
theorem dX9_canLook_24 : decode cX9_canLook 24 = .ok (.goto 4, 3) := by decide +kernel
theorem dX9_canLook_27 : decode cX9_canLook 27 = .ok (.iconst 0, 1) := by decide +kernel
theorem dX9_canLook_28 : decode cX9_canLook 28 = .ok (.ireturn, 1) := by decide +kernel
theorem dX9_checks_0 : decode cX9_checks 0 = .ok (.iload_n 1, 1) := by decide +kernel
theorem dX9_checks_1 : decode cX9_checks 1 = .ok (.i2l, 1) := by decide +kernel
theorem dX9_checks_2 : decode cX9_checks 2 = .ok (.lconst 0, 1) := by decide +kernel
theorem dX9_checks_3 : decode cX9_checks 3 = .ok (.ldc2_w 407, 3) := by decide +kernel
theorem dX9_checks_6 : decode cX9_checks 6 = .ok (.invokestatic 118, 3) := by decide +kernel
theorem dX9_checks_9 : decode cX9_checks 9 = .ok (.ifCond .eq 15, 3) := by decide +kernel
theorem dX9_checks_12 : decode cX9_checks 12 = .ok (.iload_n 2, 1) := by decide +kernel
theorem dX9_checks_13 : decode cX9_checks 13 = .ok (.i2l, 1) := by decide +kernel
theorem dX9_checks_14 : decode cX9_checks 14 = .ok (.lconst 0, 1) := by decide +kernel
theorem dX9_checks_15 : decode cX9_checks 15 = .ok (.ldc2_w 407, 3) := by decide +kernel
theorem dX9_checks_18 : decode cX9_checks 18 = .ok (.invokestatic 118, 3) := by decide +kernel
theorem dX9_checks_21 : decode cX9_checks 21 = .ok (.ifCond .ne 5, 3) := by decide +kernel
theorem dX9_checks_24 : decode cX9_checks 24 = .ok (.iconst (-1), 1) := by decide +kernel
theorem dX9_checks_25 : decode cX9_checks 25 = .ok (.ireturn, 1) := by decide +kernel
theorem dX9_checks_26 : decode cX9_checks 26 = .ok (.iconst 0, 1) := by decide +kernel
theorem dX9_checks_27 : decode cX9_checks 27 = .ok (.istore_n 3, 1) := by decide +kernel
theorem dX9_checks_28 : decode cX9_checks 28 = .ok (.iload_n 1, 1) := by decide +kernel
theorem dX9_checks_29 : decode cX9_checks 29 = .ok (.bipush 100, 2) := by decide +kernel
theorem dX9_checks_31 : decode cX9_checks 31 = .ok (.iload_n 3, 1) := by decide +kernel
theorem dX9_checks_32 : decode cX9_checks 32 = .ok (.isub, 1) := by decide +kernel
theorem dX9_checks_33 : decode cX9_checks 33 = .ok (.imul, 1) := by decide +kernel
theorem dX9_checks_34 : decode cX9_checks 34 = .ok (.iload_n 2, 1) := by decide +kernel
theorem dX9_checks_35 : decode cX9_checks 35 = .ok (.iload_n 3, 1) := by decide +kernel
theorem dX9_checks_36 : decode cX9_checks 36 = .ok (.imul, 1) := by decide +kernel
theorem dX9_checks_37 : decode cX9_checks 37 = .ok (.if_icmp .le 9, 3) := by decide +kernel
theorem dX9_checks_40 : decode cX9_checks 40 = .ok (.iinc 3 1, 3) := by decide +kernel
theorem dX9_checks_43 : decode cX9_checks 43 = .ok (.goto (-15), 3) := by decide +kernel
theorem dX9_checks_46 : decode cX9_checks 46 = .ok (.iload_n 3, 1) := by decide +kernel
theorem dX9_checks_47 : decode cX9_checks 47 = .ok (.ireturn, 1) := by decide +kernel
theorem dX9_clauseFor_0 : decode cX9_clauseFor 0 = .ok (.aload_n 0, 1) := by decide +kernel
theorem dX9_clauseFor_1 : decode cX9_clauseFor 1 = .ok (.iload_n 2, 1) := by decide +kernel
theorem dX9_clauseFor_2 : decode cX9_clauseFor 2 = .ok (.invokevirtual 319, 3) := by decide +kernel
theorem dX9_clauseFor_5 : decode cX9_clauseFor 5 = .ok (.iconst 0, 1) := by decide +kernel
theorem dX9_clauseFor_6 : decode cX9_clauseFor 6 = .ok (.istore_n 3, 1) := by decide +kernel
theorem dX9_clauseFor_7 : decode cX9_clauseFor 7 = .ok (.iload_n 3, 1) := by decide +kernel
theorem dX9_clauseFor_8 : decode cX9_clauseFor 8 = .ok (.aload_n 0, 1) := by decide +kernel
theorem dX9_clauseFor_9 : decode cX9_clauseFor 9 = .ok (.getfield 23, 3) := by decide +kernel
theorem dX9_clauseFor_12 : decode cX9_clauseFor 12 = .ok (.iload_n 1, 1) := by decide +kernel
theorem dX9_clauseFor_13 : decode cX9_clauseFor 13 = .ok (.iaload, 1) := by decide +kernel
theorem dX9_clauseFor_14 : decode cX9_clauseFor 14 = .ok (.if_icmp .ge 72, 3) := by decide +kernel
theorem dX9_clauseFor_17 : decode cX9_clauseFor 17 = .ok (.bipush 60, 2) := by decide +kernel
theorem dX9_clauseFor_19 : decode cX9_clauseFor 19 = .ok (.iload_n 1, 1) := by decide +kernel
theorem dX9_clauseFor_20 : decode cX9_clauseFor 20 = .ok (.imul, 1) := by decide +kernel
theorem dX9_clauseFor_21 : decode cX9_clauseFor 21 = .ok (.iconst 5, 1) := by decide +kernel
theorem dX9_clauseFor_22 : decode cX9_clauseFor 22 = .ok (.iload_n 3, 1) := by decide +kernel
theorem dX9_clauseFor_23 : decode cX9_clauseFor 23 = .ok (.imul, 1) := by decide +kernel
theorem dX9_clauseFor_24 : decode cX9_clauseFor 24 = .ok (.iadd, 1) := by decide +kernel
theorem dX9_clauseFor_25 : decode cX9_clauseFor 25 = .ok (.istore 4, 2) := by decide +kernel
theorem dX9_clauseFor_27 : decode cX9_clauseFor 27 = .ok (.aload_n 0, 1) := by decide +kernel
theorem dX9_clauseFor_28 : decode cX9_clauseFor 28 = .ok (.getfield 20, 3) := by decide +kernel
theorem dX9_clauseFor_31 : decode cX9_clauseFor 31 = .ok (.iload 4, 2) := by decide +kernel
theorem dX9_clauseFor_33 : decode cX9_clauseFor 33 = .ok (.iaload, 1) := by decide +kernel
theorem dX9_clauseFor_34 : decode cX9_clauseFor 34 = .ok (.ifCond .ne 46, 3) := by decide +kernel
theorem dX9_clauseFor_37 : decode cX9_clauseFor 37 = .ok (.aload_n 0, 1) := by decide +kernel
theorem dX9_clauseFor_38 : decode cX9_clauseFor 38 = .ok (.getfield 20, 3) := by decide +kernel
theorem dX9_clauseFor_41 : decode cX9_clauseFor 41 = .ok (.iload 4, 2) := by decide +kernel
theorem dX9_clauseFor_43 : decode cX9_clauseFor 43 = .ok (.iconst 3, 1) := by decide +kernel
theorem dX9_clauseFor_44 : decode cX9_clauseFor 44 = .ok (.iadd, 1) := by decide +kernel
theorem dX9_clauseFor_45 : decode cX9_clauseFor 45 = .ok (.iaload, 1) := by decide +kernel
theorem dX9_clauseFor_46 : decode cX9_clauseFor 46 = .ok (.ifCond .lt 31, 3) := by decide +kernel
theorem dX9_clauseFor_49 : decode cX9_clauseFor 49 = .ok (.aload_n 0, 1) := by decide +kernel
theorem dX9_clauseFor_50 : decode cX9_clauseFor 50 = .ok (.iload_n 1, 1) := by decide +kernel
theorem dX9_clauseFor_51 : decode cX9_clauseFor 51 = .ok (.aload_n 0, 1) := by decide +kernel
theorem dX9_clauseFor_52 : decode cX9_clauseFor 52 = .ok (.getfield 20, 3) := by decide +kernel
theorem dX9_clauseFor_55 : decode cX9_clauseFor 55 = .ok (.iload 4, 2) := by decide +kernel
theorem dX9_clauseFor_57 : decode cX9_clauseFor 57 = .ok (.iconst 3, 1) := by decide +kernel
theorem dX9_clauseFor_58 : decode cX9_clauseFor 58 = .ok (.iadd, 1) := by decide +kernel
theorem dX9_clauseFor_59 : decode cX9_clauseFor 59 = .ok (.iaload, 1) := by decide +kernel
theorem dX9_clauseFor_60 : decode cX9_clauseFor 60 = .ok (.aload_n 0, 1) := by decide +kernel
theorem dX9_clauseFor_61 : decode cX9_clauseFor 61 = .ok (.getfield 20, 3) := by decide +kernel
theorem dX9_clauseFor_64 : decode cX9_clauseFor 64 = .ok (.iload 4, 2) := by decide +kernel
theorem dX9_clauseFor_66 : decode cX9_clauseFor 66 = .ok (.iconst 4, 1) := by decide +kernel
theorem dX9_clauseFor_67 : decode cX9_clauseFor 67 = .ok (.iadd, 1) := by decide +kernel
theorem dX9_clauseFor_68 : decode cX9_clauseFor 68 = .ok (.iaload, 1) := by decide +kernel
theorem dX9_clauseFor_69 : decode cX9_clauseFor 69 = .ok (.invokevirtual 322, 3) := by decide +kernel
theorem dX9_clauseFor_72 : decode cX9_clauseFor 72 = .ok (.lconst 1, 1) := by decide +kernel
theorem dX9_clauseFor_73 : decode cX9_clauseFor 73 = .ok (.lcmp, 1) := by decide +kernel
theorem dX9_clauseFor_74 : decode cX9_clauseFor 74 = .ok (.ifCond .ne 6, 3) := by decide +kernel
theorem dX9_clauseFor_77 : decode cX9_clauseFor 77 = .ok (.iload 4, 2) := by decide +kernel
theorem dX9_clauseFor_79 : decode cX9_clauseFor 79 = .ok (.ireturn, 1) := by decide +kernel
theorem dX9_clauseFor_80 : decode cX9_clauseFor 80 = .ok (.iinc 3 1, 3) := by decide +kernel
theorem dX9_clauseFor_83 : decode cX9_clauseFor 83 = .ok (.goto (-76), 3) := by decide +kernel
theorem dX9_clauseFor_86 : decode cX9_clauseFor 86 = .ok (.iconst (-1), 1) := by decide +kernel
theorem dX9_clauseFor_87 : decode cX9_clauseFor 87 = .ok (.ireturn, 1) := by decide +kernel
theorem dX9_clauseHere_0 : decode cX9_clauseHere 0 = .ok (.aload_n 0, 1) := by decide +kernel
theorem dX9_clauseHere_1 : decode cX9_clauseHere 1 = .ok (.invokevirtual 93, 3) := by decide +kernel
theorem dX9_clauseHere_4 : decode cX9_clauseHere 4 = .ok (.pop, 1) := by decide +kernel
theorem dX9_clauseHere_5 : decode cX9_clauseHere 5 = .ok (.aload_n 0, 1) := by decide +kernel
theorem dX9_clauseHere_6 : decode cX9_clauseHere 6 = .ok (.getfield 90, 3) := by decide +kernel
theorem dX9_clauseHere_9 : decode cX9_clauseHere 9 = .ok (.istore_n 1, 1) := by decide +kernel
theorem dX9_clauseHere_10 : decode cX9_clauseHere 10 = .ok (.aload_n 0, 1) := by decide +kernel
theorem dX9_clauseHere_11 : decode cX9_clauseHere 11 = .ok (.getfield 140, 3) := by decide +kernel
theorem dX9_clauseHere_14 : decode cX9_clauseHere 14 = .ok (.bipush 6, 2) := by decide +kernel
theorem dX9_clauseHere_16 : decode cX9_clauseHere 16 = .ok (.if_icmp .ne 7, 3) := by decide +kernel
theorem dX9_clauseHere_19 : decode cX9_clauseHere 19 = .ok (.iconst 1, 1) := by decide +kernel
theorem dX9_clauseHere_20 : decode cX9_clauseHere 20 = .ok (.goto 4, 3) := by decide +kernel
theorem dX9_clauseHere_23 : decode cX9_clauseHere 23 = .ok (.iconst 0, 1) := by decide +kernel
theorem dX9_clauseHere_24 : decode cX9_clauseHere 24 = .ok (.istore_n 2, 1) := by decide +kernel
theorem dX9_clauseHere_25 : decode cX9_clauseHere 25 = .ok (.iload_n 2, 1) := by decide +kernel
theorem dX9_clauseHere_26 : decode cX9_clauseHere 26 = .ok (.ifCond .eq 41, 3) := by decide +kernel
theorem dX9_clauseHere_29 : decode cX9_clauseHere 29 = .ok (.aload_n 0, 1) := by decide +kernel
theorem dX9_clauseHere_30 : decode cX9_clauseHere 30 = .ok (.ldc2_w 223, 3) := by decide +kernel
theorem dX9_clauseHere_33 : decode cX9_clauseHere 33 = .ok (.invokevirtual 101, 3) := by decide +kernel
theorem dX9_clauseHere_36 : decode cX9_clauseHere 36 = .ok (.ifCond .ne 23, 3) := by decide +kernel
theorem dX9_clauseHere_39 : decode cX9_clauseHere 39 = .ok (.aload_n 0, 1) := by decide +kernel
theorem dX9_clauseHere_40 : decode cX9_clauseHere 40 = .ok (.ldc2_w 124, 3) := by decide +kernel
theorem dX9_clauseHere_43 : decode cX9_clauseHere 43 = .ok (.invokevirtual 101, 3) := by decide +kernel
theorem dX9_clauseHere_46 : decode cX9_clauseHere 46 = .ok (.ifCond .ne 13, 3) := by decide +kernel
theorem dX9_clauseHere_49 : decode cX9_clauseHere 49 = .ok (.aload_n 0, 1) := by decide +kernel
theorem dX9_clauseHere_50 : decode cX9_clauseHere 50 = .ok (.ldc2_w 122, 3) := by decide +kernel
theorem dX9_clauseHere_53 : decode cX9_clauseHere 53 = .ok (.invokevirtual 101, 3) := by decide +kernel
theorem dX9_clauseHere_56 : decode cX9_clauseHere 56 = .ok (.ifCond .eq 7, 3) := by decide +kernel
theorem dX9_clauseHere_59 : decode cX9_clauseHere 59 = .ok (.iconst 1, 1) := by decide +kernel
theorem dX9_clauseHere_60 : decode cX9_clauseHere 60 = .ok (.goto 32, 3) := by decide +kernel
theorem dX9_clauseHere_63 : decode cX9_clauseHere 63 = .ok (.iconst 0, 1) := by decide +kernel
theorem dX9_clauseHere_64 : decode cX9_clauseHere 64 = .ok (.goto 28, 3) := by decide +kernel
theorem dX9_clauseHere_67 : decode cX9_clauseHere 67 = .ok (.aload_n 0, 1) := by decide +kernel
theorem dX9_clauseHere_68 : decode cX9_clauseHere 68 = .ok (.ldc2_w 225, 3) := by decide +kernel
theorem dX9_clauseHere_71 : decode cX9_clauseHere 71 = .ok (.invokevirtual 101, 3) := by decide +kernel
theorem dX9_clauseHere_74 : decode cX9_clauseHere 74 = .ok (.ifCond .ne 13, 3) := by decide +kernel
theorem dX9_clauseHere_77 : decode cX9_clauseHere 77 = .ok (.aload_n 0, 1) := by decide +kernel
theorem dX9_clauseHere_78 : decode cX9_clauseHere 78 = .ok (.ldc2_w 227, 3) := by decide +kernel
theorem dX9_clauseHere_81 : decode cX9_clauseHere 81 = .ok (.invokevirtual 101, 3) := by decide +kernel
theorem dX9_clauseHere_84 : decode cX9_clauseHere 84 = .ok (.ifCond .eq 7, 3) := by decide +kernel
theorem dX9_clauseHere_87 : decode cX9_clauseHere 87 = .ok (.iconst 1, 1) := by decide +kernel
theorem dX9_clauseHere_88 : decode cX9_clauseHere 88 = .ok (.goto 4, 3) := by decide +kernel
theorem dX9_clauseHere_91 : decode cX9_clauseHere 91 = .ok (.iconst 0, 1) := by decide +kernel
theorem dX9_clauseHere_92 : decode cX9_clauseHere 92 = .ok (.istore_n 3, 1) := by decide +kernel
theorem dX9_clauseHere_93 : decode cX9_clauseHere 93 = .ok (.iload_n 3, 1) := by decide +kernel
theorem dX9_clauseHere_94 : decode cX9_clauseHere 94 = .ok (.ifCond .ne 10, 3) := by decide +kernel
theorem dX9_clauseHere_97 : decode cX9_clauseHere 97 = .ok (.aload_n 0, 1) := by decide +kernel
theorem dX9_clauseHere_98 : decode cX9_clauseHere 98 = .ok (.iconst 0, 1) := by decide +kernel
theorem dX9_clauseHere_99 : decode cX9_clauseHere 99 = .ok (.iload_n 1, 1) := by decide +kernel
theorem dX9_clauseHere_100 : decode cX9_clauseHere 100 = .ok (.invokevirtual 111, 3) := by decide +kernel
theorem dX9_clauseHere_103 : decode cX9_clauseHere 103 = .ok (.ireturn, 1) := by decide +kernel
theorem dX9_clauseHere_104 : decode cX9_clauseHere 104 = .ok (.aload_n 0, 1) := by decide +kernel
theorem dX9_clauseHere_105 : decode cX9_clauseHere 105 = .ok (.getfield 229, 3) := by decide +kernel
theorem dX9_clauseHere_108 : decode cX9_clauseHere 108 = .ok (.iload_n 2, 1) := by decide +kernel
theorem dX9_clauseHere_109 : decode cX9_clauseHere 109 = .ok (.ifCond .eq 8, 3) := by decide +kernel
theorem dX9_clauseHere_112 : decode cX9_clauseHere 112 = .ok (.bipush 24, 2) := by decide +kernel
theorem dX9_clauseHere_114 : decode cX9_clauseHere 114 = .ok (.goto 5, 3) := by decide +kernel
theorem dX9_clauseHere_117 : decode cX9_clauseHere 117 = .ok (.bipush 12, 2) := by decide +kernel
theorem dX9_clauseHere_119 : decode cX9_clauseHere 119 = .ok (.if_icmp .ne 10, 3) := by decide +kernel
theorem dX9_clauseHere_122 : decode cX9_clauseHere 122 = .ok (.aload_n 0, 1) := by decide +kernel
theorem dX9_clauseHere_123 : decode cX9_clauseHere 123 = .ok (.iconst 4, 1) := by decide +kernel
theorem dX9_clauseHere_124 : decode cX9_clauseHere 124 = .ok (.iload_n 1, 1) := by decide +kernel
