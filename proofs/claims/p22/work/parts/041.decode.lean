theorem dX2_reckon_4 : decode cX2_reckon 4 = .ok (.iconst 0, 1) := by decide +kernel
theorem dX2_reckon_5 : decode cX2_reckon 5 = .ok (.invokestatic 79, 3) := by decide +kernel
theorem dX2_reckon_8 : decode cX2_reckon 8 = .ok (.istore 8, 2) := by decide +kernel
theorem dX2_reckon_10 : decode cX2_reckon 10 = .ok (.iload 8, 2) := by decide +kernel
theorem dX2_reckon_12 : decode cX2_reckon 12 = .ok (.iload_n 3, 1) := by decide +kernel
theorem dX2_reckon_13 : decode cX2_reckon 13 = .ok (.if_icmp .ge 157, 3) := by decide +kernel
theorem dX2_reckon_16 : decode cX2_reckon 16 = .ok (.iload 8, 2) := by decide +kernel
theorem dX2_reckon_18 : decode cX2_reckon 18 = .ok (.aload_n 1, 1) := by decide +kernel
theorem dX2_reckon_19 : decode cX2_reckon 19 = .ok (.arraylength, 1) := by decide +kernel
theorem dX2_reckon_20 : decode cX2_reckon 20 = .ok (.if_icmp .ge 150, 3) := by decide +kernel
theorem dX2_reckon_23 : decode cX2_reckon 23 = .ok (.aload_n 1, 1) := by decide +kernel
theorem dX2_reckon_24 : decode cX2_reckon 24 = .ok (.iload 8, 2) := by decide +kernel
theorem dX2_reckon_26 : decode cX2_reckon 26 = .ok (.iaload, 1) := by decide +kernel
theorem dX2_reckon_27 : decode cX2_reckon 27 = .ok (.istore 9, 2) := by decide +kernel
theorem dX2_reckon_29 : decode cX2_reckon 29 = .ok (.iload 9, 2) := by decide +kernel
theorem dX2_reckon_31 : decode cX2_reckon 31 = .ok (.ifCond .ge 11, 3) := by decide +kernel
theorem dX2_reckon_34 : decode cX2_reckon 34 = .ok (.iload 9, 2) := by decide +kernel
theorem dX2_reckon_36 : decode cX2_reckon 36 = .ok (.sipush (-312), 3) := by decide +kernel
theorem dX2_reckon_39 : decode cX2_reckon 39 = .ok (.if_icmp .gt 51, 3) := by decide +kernel
theorem dX2_reckon_42 : decode cX2_reckon 42 = .ok (.iinc 7 1, 3) := by decide +kernel
theorem dX2_reckon_45 : decode cX2_reckon 45 = .ok (.iload 7, 2) := by decide +kernel
theorem dX2_reckon_47 : decode cX2_reckon 47 = .ok (.aload_n 0, 1) := by decide +kernel
theorem dX2_reckon_48 : decode cX2_reckon 48 = .ok (.getfield 9, 3) := by decide +kernel
theorem dX2_reckon_51 : decode cX2_reckon 51 = .ok (.arraylength, 1) := by decide +kernel
theorem dX2_reckon_52 : decode cX2_reckon 52 = .ok (.if_icmp .lt 5, 3) := by decide +kernel
theorem dX2_reckon_55 : decode cX2_reckon 55 = .ok (.lconst 0, 1) := by decide +kernel
theorem dX2_reckon_56 : decode cX2_reckon 56 = .ok (.lreturn, 1) := by decide +kernel
theorem dX2_reckon_57 : decode cX2_reckon 57 = .ok (.aload_n 0, 1) := by decide +kernel
theorem dX2_reckon_58 : decode cX2_reckon 58 = .ok (.getfield 9, 3) := by decide +kernel
theorem dX2_reckon_61 : decode cX2_reckon 61 = .ok (.iload 7, 2) := by decide +kernel
theorem dX2_reckon_63 : decode cX2_reckon 63 = .ok (.iload 9, 2) := by decide +kernel
theorem dX2_reckon_65 : decode cX2_reckon 65 = .ok (.ifCond .lt 9, 3) := by decide +kernel
theorem dX2_reckon_68 : decode cX2_reckon 68 = .ok (.iload 9, 2) := by decide +kernel
theorem dX2_reckon_70 : decode cX2_reckon 70 = .ok (.i2l, 1) := by decide +kernel
theorem dX2_reckon_71 : decode cX2_reckon 71 = .ok (.goto 15, 3) := by decide +kernel
theorem dX2_reckon_74 : decode cX2_reckon 74 = .ok (.iload 9, 2) := by decide +kernel
theorem dX2_reckon_76 : decode cX2_reckon 76 = .ok (.ineg, 1) := by decide +kernel
theorem dX2_reckon_77 : decode cX2_reckon 77 = .ok (.aload 4, 2) := by decide +kernel
theorem dX2_reckon_79 : decode cX2_reckon 79 = .ok (.aload 5, 2) := by decide +kernel
theorem dX2_reckon_81 : decode cX2_reckon 81 = .ok (.iload 6, 2) := by decide +kernel
theorem dX2_reckon_83 : decode cX2_reckon 83 = .ok (.invokestatic 85, 3) := by decide +kernel
theorem dX2_reckon_86 : decode cX2_reckon 86 = .ok (.lastore, 1) := by decide +kernel
theorem dX2_reckon_87 : decode cX2_reckon 87 = .ok (.goto 77, 3) := by decide +kernel
theorem dX2_reckon_90 : decode cX2_reckon 90 = .ok (.iload 9, 2) := by decide +kernel
theorem dX2_reckon_92 : decode cX2_reckon 92 = .ok (.sipush (-311), 3) := by decide +kernel
theorem dX2_reckon_95 : decode cX2_reckon 95 = .ok (.if_icmp .ne 29, 3) := by decide +kernel
theorem dX2_reckon_98 : decode cX2_reckon 98 = .ok (.iload 7, 2) := by decide +kernel
theorem dX2_reckon_100 : decode cX2_reckon 100 = .ok (.ifCond .ge 5, 3) := by decide +kernel
theorem dX2_reckon_103 : decode cX2_reckon 103 = .ok (.lconst 0, 1) := by decide +kernel
theorem dX2_reckon_104 : decode cX2_reckon 104 = .ok (.lreturn, 1) := by decide +kernel
theorem dX2_reckon_105 : decode cX2_reckon 105 = .ok (.aload_n 0, 1) := by decide +kernel
theorem dX2_reckon_106 : decode cX2_reckon 106 = .ok (.getfield 9, 3) := by decide +kernel
theorem dX2_reckon_109 : decode cX2_reckon 109 = .ok (.iload 7, 2) := by decide +kernel
theorem dX2_reckon_111 : decode cX2_reckon 111 = .ok (.lconst 1, 1) := by decide +kernel
theorem dX2_reckon_112 : decode cX2_reckon 112 = .ok (.aload_n 0, 1) := by decide +kernel
theorem dX2_reckon_113 : decode cX2_reckon 113 = .ok (.getfield 9, 3) := by decide +kernel
theorem dX2_reckon_116 : decode cX2_reckon 116 = .ok (.iload 7, 2) := by decide +kernel
theorem dX2_reckon_118 : decode cX2_reckon 118 = .ok (.laload, 1) := by decide +kernel
theorem dX2_reckon_119 : decode cX2_reckon 119 = .ok (.lsub, 1) := by decide +kernel
theorem dX2_reckon_120 : decode cX2_reckon 120 = .ok (.lastore, 1) := by decide +kernel
theorem dX2_reckon_121 : decode cX2_reckon 121 = .ok (.goto 43, 3) := by decide +kernel
theorem dX2_reckon_124 : decode cX2_reckon 124 = .ok (.iload 7, 2) := by decide +kernel
theorem dX2_reckon_126 : decode cX2_reckon 126 = .ok (.iconst 1, 1) := by decide +kernel
theorem dX2_reckon_127 : decode cX2_reckon 127 = .ok (.if_icmp .ge 5, 3) := by decide +kernel
theorem dX2_reckon_130 : decode cX2_reckon 130 = .ok (.lconst 0, 1) := by decide +kernel
theorem dX2_reckon_131 : decode cX2_reckon 131 = .ok (.lreturn, 1) := by decide +kernel
theorem dX2_reckon_132 : decode cX2_reckon 132 = .ok (.iinc 7 (-1), 3) := by decide +kernel
theorem dX2_reckon_135 : decode cX2_reckon 135 = .ok (.aload_n 0, 1) := by decide +kernel
theorem dX2_reckon_136 : decode cX2_reckon 136 = .ok (.getfield 9, 3) := by decide +kernel
theorem dX2_reckon_139 : decode cX2_reckon 139 = .ok (.iload 7, 2) := by decide +kernel
theorem dX2_reckon_141 : decode cX2_reckon 141 = .ok (.iload 9, 2) := by decide +kernel
theorem dX2_reckon_143 : decode cX2_reckon 143 = .ok (.ineg, 1) := by decide +kernel
theorem dX2_reckon_144 : decode cX2_reckon 144 = .ok (.aload_n 0, 1) := by decide +kernel
theorem dX2_reckon_145 : decode cX2_reckon 145 = .ok (.getfield 9, 3) := by decide +kernel
theorem dX2_reckon_148 : decode cX2_reckon 148 = .ok (.iload 7, 2) := by decide +kernel
theorem dX2_reckon_150 : decode cX2_reckon 150 = .ok (.laload, 1) := by decide +kernel
theorem dX2_reckon_151 : decode cX2_reckon 151 = .ok (.aload_n 0, 1) := by decide +kernel
theorem dX2_reckon_152 : decode cX2_reckon 152 = .ok (.getfield 9, 3) := by decide +kernel
theorem dX2_reckon_155 : decode cX2_reckon 155 = .ok (.iload 7, 2) := by decide +kernel
theorem dX2_reckon_157 : decode cX2_reckon 157 = .ok (.iconst 1, 1) := by decide +kernel
theorem dX2_reckon_158 : decode cX2_reckon 158 = .ok (.iadd, 1) := by decide +kernel
theorem dX2_reckon_159 : decode cX2_reckon 159 = .ok (.laload, 1) := by decide +kernel
theorem dX2_reckon_160 : decode cX2_reckon 160 = .ok (.invokestatic 89, 3) := by decide +kernel
theorem dX2_reckon_163 : decode cX2_reckon 163 = .ok (.lastore, 1) := by decide +kernel
theorem dX2_reckon_164 : decode cX2_reckon 164 = .ok (.iinc 8 1, 3) := by decide +kernel
theorem dX2_reckon_167 : decode cX2_reckon 167 = .ok (.goto (-157), 3) := by decide +kernel
theorem dX2_reckon_170 : decode cX2_reckon 170 = .ok (.iload 7, 2) := by decide +kernel
theorem dX2_reckon_172 : decode cX2_reckon 172 = .ok (.ifCond .ge 7, 3) := by decide +kernel
theorem dX2_reckon_175 : decode cX2_reckon 175 = .ok (.lconst 0, 1) := by decide +kernel
theorem dX2_reckon_176 : decode cX2_reckon 176 = .ok (.goto 10, 3) := by decide +kernel
theorem dX2_reckon_179 : decode cX2_reckon 179 = .ok (.aload_n 0, 1) := by decide +kernel
theorem dX2_reckon_180 : decode cX2_reckon 180 = .ok (.getfield 9, 3) := by decide +kernel
theorem dX2_reckon_183 : decode cX2_reckon 183 = .ok (.iload 7, 2) := by decide +kernel
theorem dX2_reckon_185 : decode cX2_reckon 185 = .ok (.laload, 1) := by decide +kernel
theorem dX2_reckon_186 : decode cX2_reckon 186 = .ok (.lreturn, 1) := by decide +kernel
theorem dX2_stopsAt_0 : decode cX2_stopsAt 0 = .ok (.iconst 0, 1) := by decide +kernel
theorem dX2_stopsAt_1 : decode cX2_stopsAt 1 = .ok (.istore 5, 2) := by decide +kernel
theorem dX2_stopsAt_3 : decode cX2_stopsAt 3 = .ok (.iload 5, 2) := by decide +kernel
theorem dX2_stopsAt_5 : decode cX2_stopsAt 5 = .ok (.aload_n 2, 1) := by decide +kernel
theorem dX2_stopsAt_6 : decode cX2_stopsAt 6 = .ok (.getfield 73, 3) := by decide +kernel
theorem dX2_stopsAt_9 : decode cX2_stopsAt 9 = .ok (.if_icmp .ge 76, 3) := by decide +kernel
theorem dX2_stopsAt_12 : decode cX2_stopsAt 12 = .ok (.aload_n 2, 1) := by decide +kernel
theorem dX2_stopsAt_13 : decode cX2_stopsAt 13 = .ok (.getfield 66, 3) := by decide +kernel
theorem dX2_stopsAt_16 : decode cX2_stopsAt 16 = .ok (.iload 5, 2) := by decide +kernel
theorem dX2_stopsAt_18 : decode cX2_stopsAt 18 = .ok (.invokestatic 47, 3) := by decide +kernel
theorem dX2_stopsAt_21 : decode cX2_stopsAt 21 = .ok (.istore 6, 2) := by decide +kernel
theorem dX2_stopsAt_23 : decode cX2_stopsAt 23 = .ok (.aload_n 2, 1) := by decide +kernel
theorem dX2_stopsAt_24 : decode cX2_stopsAt 24 = .ok (.getfield 58, 3) := by decide +kernel
theorem dX2_stopsAt_27 : decode cX2_stopsAt 27 = .ok (.iload 5, 2) := by decide +kernel
theorem dX2_stopsAt_29 : decode cX2_stopsAt 29 = .ok (.invokestatic 47, 3) := by decide +kernel
theorem dX2_stopsAt_32 : decode cX2_stopsAt 32 = .ok (.iload 6, 2) := by decide +kernel
theorem dX2_stopsAt_34 : decode cX2_stopsAt 34 = .ok (.if_icmp .ne 7, 3) := by decide +kernel
theorem dX2_stopsAt_37 : decode cX2_stopsAt 37 = .ok (.iconst 1, 1) := by decide +kernel
theorem dX2_stopsAt_38 : decode cX2_stopsAt 38 = .ok (.goto 4, 3) := by decide +kernel
theorem dX2_stopsAt_41 : decode cX2_stopsAt 41 = .ok (.iconst 0, 1) := by decide +kernel
theorem dX2_stopsAt_42 : decode cX2_stopsAt 42 = .ok (.istore 7, 2) := by decide +kernel
theorem dX2_stopsAt_44 : decode cX2_stopsAt 44 = .ok (.iload 7, 2) := by decide +kernel
theorem dX2_stopsAt_46 : decode cX2_stopsAt 46 = .ok (.ifCond .eq 33, 3) := by decide +kernel
theorem dX2_stopsAt_49 : decode cX2_stopsAt 49 = .ok (.aload_n 0, 1) := by decide +kernel
theorem dX2_stopsAt_50 : decode cX2_stopsAt 50 = .ok (.aload_n 2, 1) := by decide +kernel
theorem dX2_stopsAt_51 : decode cX2_stopsAt 51 = .ok (.getfield 63, 3) := by decide +kernel
theorem dX2_stopsAt_54 : decode cX2_stopsAt 54 = .ok (.iload 6, 2) := by decide +kernel
theorem dX2_stopsAt_56 : decode cX2_stopsAt 56 = .ok (.aload_n 2, 1) := by decide +kernel
theorem dX2_stopsAt_57 : decode cX2_stopsAt 57 = .ok (.getfield 76, 3) := by decide +kernel
theorem dX2_stopsAt_60 : decode cX2_stopsAt 60 = .ok (.iload 5, 2) := by decide +kernel
theorem dX2_stopsAt_62 : decode cX2_stopsAt 62 = .ok (.invokestatic 47, 3) := by decide +kernel
theorem dX2_stopsAt_65 : decode cX2_stopsAt 65 = .ok (.aload_n 1, 1) := by decide +kernel
theorem dX2_stopsAt_66 : decode cX2_stopsAt 66 = .ok (.aload_n 3, 1) := by decide +kernel
theorem dX2_stopsAt_67 : decode cX2_stopsAt 67 = .ok (.iload 4, 2) := by decide +kernel
theorem dX2_stopsAt_69 : decode cX2_stopsAt 69 = .ok (.invokevirtual 69, 3) := by decide +kernel
theorem dX2_stopsAt_72 : decode cX2_stopsAt 72 = .ok (.lconst 0, 1) := by decide +kernel
theorem dX2_stopsAt_73 : decode cX2_stopsAt 73 = .ok (.lcmp, 1) := by decide +kernel
theorem dX2_stopsAt_74 : decode cX2_stopsAt 74 = .ok (.ifCond .eq 5, 3) := by decide +kernel
theorem dX2_stopsAt_77 : decode cX2_stopsAt 77 = .ok (.iconst 1, 1) := by decide +kernel
theorem dX2_stopsAt_78 : decode cX2_stopsAt 78 = .ok (.ireturn, 1) := by decide +kernel
theorem dX2_stopsAt_79 : decode cX2_stopsAt 79 = .ok (.iinc 5 1, 3) := by decide +kernel
theorem dX2_stopsAt_82 : decode cX2_stopsAt 82 = .ok (.goto (-79), 3) := by decide +kernel
theorem dX2_stopsAt_85 : decode cX2_stopsAt 85 = .ok (.iconst 0, 1) := by decide +kernel
theorem dX2_stopsAt_86 : decode cX2_stopsAt 86 = .ok (.ireturn, 1) := by decide +kernel
theorem dX2_wordOf_0 : decode cX2_wordOf 0 = .ok (.iload_n 0, 1) := by decide +kernel
theorem dX2_wordOf_1 : decode cX2_wordOf 1 = .ok (.tableswitch 115 312 319 #[47, 50, 60, 70, 80, 90, 96, 105], 47) := by decide +kernel
theorem dX2_wordOf_48 : decode cX2_wordOf 48 = .ok (.iload_n 3, 1) := by decide +kernel
theorem dX2_wordOf_49 : decode cX2_wordOf 49 = .ok (.i2l, 1) := by decide +kernel
theorem dX2_wordOf_50 : decode cX2_wordOf 50 = .ok (.lreturn, 1) := by decide +kernel
theorem dX2_wordOf_51 : decode cX2_wordOf 51 = .ok (.aload_n 1, 1) := by decide +kernel
theorem dX2_wordOf_52 : decode cX2_wordOf 52 = .ok (.getfield 93, 3) := by decide +kernel
theorem dX2_wordOf_55 : decode cX2_wordOf 55 = .ok (.iload_n 3, 1) := by decide +kernel
theorem dX2_wordOf_56 : decode cX2_wordOf 56 = .ok (.invokestatic 47, 3) := by decide +kernel
theorem dX2_wordOf_59 : decode cX2_wordOf 59 = .ok (.i2l, 1) := by decide +kernel
theorem dX2_wordOf_60 : decode cX2_wordOf 60 = .ok (.lreturn, 1) := by decide +kernel
theorem dX2_wordOf_61 : decode cX2_wordOf 61 = .ok (.aload_n 1, 1) := by decide +kernel
theorem dX2_wordOf_62 : decode cX2_wordOf 62 = .ok (.getfield 96, 3) := by decide +kernel
theorem dX2_wordOf_65 : decode cX2_wordOf 65 = .ok (.iload_n 3, 1) := by decide +kernel
theorem dX2_wordOf_66 : decode cX2_wordOf 66 = .ok (.invokestatic 47, 3) := by decide +kernel
theorem dX2_wordOf_69 : decode cX2_wordOf 69 = .ok (.i2l, 1) := by decide +kernel
theorem dX2_wordOf_70 : decode cX2_wordOf 70 = .ok (.lreturn, 1) := by decide +kernel
theorem dX2_wordOf_71 : decode cX2_wordOf 71 = .ok (.aload_n 1, 1) := by decide +kernel
theorem dX2_wordOf_72 : decode cX2_wordOf 72 = .ok (.getfield 99, 3) := by decide +kernel
theorem dX2_wordOf_75 : decode cX2_wordOf 75 = .ok (.iload_n 3, 1) := by decide +kernel
theorem dX2_wordOf_76 : decode cX2_wordOf 76 = .ok (.invokestatic 47, 3) := by decide +kernel
theorem dX2_wordOf_79 : decode cX2_wordOf 79 = .ok (.i2l, 1) := by decide +kernel
theorem dX2_wordOf_80 : decode cX2_wordOf 80 = .ok (.lreturn, 1) := by decide +kernel
theorem dX2_wordOf_81 : decode cX2_wordOf 81 = .ok (.aload_n 1, 1) := by decide +kernel
theorem dX2_wordOf_82 : decode cX2_wordOf 82 = .ok (.getfield 43, 3) := by decide +kernel
theorem dX2_wordOf_85 : decode cX2_wordOf 85 = .ok (.iload_n 3, 1) := by decide +kernel
theorem dX2_wordOf_86 : decode cX2_wordOf 86 = .ok (.invokestatic 47, 3) := by decide +kernel
theorem dX2_wordOf_89 : decode cX2_wordOf 89 = .ok (.i2l, 1) := by decide +kernel
theorem dX2_wordOf_90 : decode cX2_wordOf 90 = .ok (.lreturn, 1) := by decide +kernel
theorem dX2_wordOf_91 : decode cX2_wordOf 91 = .ok (.aload_n 2, 1) := by decide +kernel
theorem dX2_wordOf_92 : decode cX2_wordOf 92 = .ok (.getfield 51, 3) := by decide +kernel
theorem dX2_wordOf_95 : decode cX2_wordOf 95 = .ok (.i2l, 1) := by decide +kernel
theorem dX2_wordOf_96 : decode cX2_wordOf 96 = .ok (.lreturn, 1) := by decide +kernel
theorem dX2_wordOf_97 : decode cX2_wordOf 97 = .ok (.aload_n 2, 1) := by decide +kernel
theorem dX2_wordOf_98 : decode cX2_wordOf 98 = .ok (.getfield 102, 3) := by decide +kernel
theorem dX2_wordOf_101 : decode cX2_wordOf 101 = .ok (.invokestatic 105, 3) := by decide +kernel
theorem dX2_wordOf_104 : decode cX2_wordOf 104 = .ok (.i2l, 1) := by decide +kernel
theorem dX2_wordOf_105 : decode cX2_wordOf 105 = .ok (.lreturn, 1) := by decide +kernel
theorem dX2_wordOf_106 : decode cX2_wordOf 106 = .ok (.aload_n 2, 1) := by decide +kernel
theorem dX2_wordOf_107 : decode cX2_wordOf 107 = .ok (.getfield 111, 3) := by decide +kernel
theorem dX2_wordOf_110 : decode cX2_wordOf 110 = .ok (.iload_n 3, 1) := by decide +kernel
theorem dX2_wordOf_111 : decode cX2_wordOf 111 = .ok (.invokestatic 47, 3) := by decide +kernel
theorem dX2_wordOf_114 : decode cX2_wordOf 114 = .ok (.i2l, 1) := by decide +kernel
theorem dX2_wordOf_115 : decode cX2_wordOf 115 = .ok (.lreturn, 1) := by decide +kernel
theorem dX2_wordOf_116 : decode cX2_wordOf 116 = .ok (.aload_n 2, 1) := by decide +kernel
theorem dX2_wordOf_117 : decode cX2_wordOf 117 = .ok (.getfield 114, 3) := by decide +kernel
theorem dX2_wordOf_120 : decode cX2_wordOf 120 = .ok (.i2l, 1) := by decide +kernel
theorem dX2_wordOf_121 : decode cX2_wordOf 121 = .ok (.lreturn, 1) := by decide +kernel
theorem dX4_emit_0 : decode cX4_emit 0 = .ok (.aload_n 0, 1) := by decide +kernel
theorem dX4_emit_1 : decode cX4_emit 1 = .ok (.getfield 31, 3) := by decide +kernel
theorem dX4_emit_4 : decode cX4_emit 4 = .ok (.ifCond .lt 35, 3) := by decide +kernel
theorem dX4_emit_7 : decode cX4_emit 7 = .ok (.aload_n 0, 1) := by decide +kernel
theorem dX4_emit_8 : decode cX4_emit 8 = .ok (.getfield 31, 3) := by decide +kernel
theorem dX4_emit_11 : decode cX4_emit 11 = .ok (.aload_n 0, 1) := by decide +kernel
theorem dX4_emit_12 : decode cX4_emit 12 = .ok (.getfield 18, 3) := by decide +kernel
theorem dX4_emit_15 : decode cX4_emit 15 = .ok (.arraylength, 1) := by decide +kernel
theorem dX4_emit_16 : decode cX4_emit 16 = .ok (.if_icmp .ge 23, 3) := by decide +kernel
theorem dX4_emit_19 : decode cX4_emit 19 = .ok (.aload_n 0, 1) := by decide +kernel
theorem dX4_emit_20 : decode cX4_emit 20 = .ok (.getfield 18, 3) := by decide +kernel
theorem dX4_emit_23 : decode cX4_emit 23 = .ok (.aload_n 0, 1) := by decide +kernel
theorem dX4_emit_24 : decode cX4_emit 24 = .ok (.getfield 31, 3) := by decide +kernel
theorem dX4_emit_27 : decode cX4_emit 27 = .ok (.iload_n 1, 1) := by decide +kernel
theorem dX4_emit_28 : decode cX4_emit 28 = .ok (.iastore, 1) := by decide +kernel
theorem dX4_emit_29 : decode cX4_emit 29 = .ok (.aload_n 0, 1) := by decide +kernel
theorem dX4_emit_30 : decode cX4_emit 30 = .ok (.dup, 1) := by decide +kernel
theorem dX4_emit_31 : decode cX4_emit 31 = .ok (.getfield 31, 3) := by decide +kernel
theorem dX4_emit_34 : decode cX4_emit 34 = .ok (.iconst 1, 1) := by decide +kernel
theorem dX4_emit_35 : decode cX4_emit 35 = .ok (.iadd, 1) := by decide +kernel
theorem dX4_emit_36 : decode cX4_emit 36 = .ok (.putfield 31, 3) := by decide +kernel
theorem dX4_emit_39 : decode cX4_emit 39 = .ok (.return_, 1) := by decide +kernel
theorem dX4_readComparison_0 : decode cX4_readComparison 0 = .ok (.aload_n 0, 1) := by decide +kernel
theorem dX4_readComparison_1 : decode cX4_readComparison 1 = .ok (.invokevirtual 79, 3) := by decide +kernel
theorem dX4_readComparison_4 : decode cX4_readComparison 4 = .ok (.aload_n 0, 1) := by decide +kernel
theorem dX4_readComparison_5 : decode cX4_readComparison 5 = .ok (.getfield 12, 3) := by decide +kernel
theorem dX4_readComparison_8 : decode cX4_readComparison 8 = .ok (.getfield 82, 3) := by decide +kernel
theorem dX4_readComparison_11 : decode cX4_readComparison 11 = .ok (.ifCond .eq 4, 3) := by decide +kernel
theorem dX4_readComparison_14 : decode cX4_readComparison 14 = .ok (.return_, 1) := by decide +kernel
theorem dX4_readComparison_15 : decode cX4_readComparison 15 = .ok (.aload_n 0, 1) := by decide +kernel
theorem dX4_readComparison_16 : decode cX4_readComparison 16 = .ok (.getfield 12, 3) := by decide +kernel
theorem dX4_readComparison_19 : decode cX4_readComparison 19 = .ok (.getfield 66, 3) := by decide +kernel
theorem dX4_readComparison_22 : decode cX4_readComparison 22 = .ok (.istore_n 1, 1) := by decide +kernel
theorem dX4_readComparison_23 : decode cX4_readComparison 23 = .ok (.iload_n 1, 1) := by decide +kernel
theorem dX4_readComparison_24 : decode cX4_readComparison 24 = .ok (.bipush 60, 2) := by decide +kernel
theorem dX4_readComparison_26 : decode cX4_readComparison 26 = .ok (.if_icmp .eq 38, 3) := by decide +kernel
theorem dX4_readComparison_29 : decode cX4_readComparison 29 = .ok (.iload_n 1, 1) := by decide +kernel
theorem dX4_readComparison_30 : decode cX4_readComparison 30 = .ok (.sipush 256, 3) := by decide +kernel
theorem dX4_readComparison_33 : decode cX4_readComparison 33 = .ok (.if_icmp .eq 31, 3) := by decide +kernel
theorem dX4_readComparison_36 : decode cX4_readComparison 36 = .ok (.iload_n 1, 1) := by decide +kernel
theorem dX4_readComparison_37 : decode cX4_readComparison 37 = .ok (.bipush 61, 2) := by decide +kernel
theorem dX4_readComparison_39 : decode cX4_readComparison 39 = .ok (.if_icmp .eq 25, 3) := by decide +kernel
theorem dX4_readComparison_42 : decode cX4_readComparison 42 = .ok (.iload_n 1, 1) := by decide +kernel
theorem dX4_readComparison_43 : decode cX4_readComparison 43 = .ok (.sipush 257, 3) := by decide +kernel
theorem dX4_readComparison_46 : decode cX4_readComparison 46 = .ok (.if_icmp .eq 18, 3) := by decide +kernel
theorem dX4_readComparison_49 : decode cX4_readComparison 49 = .ok (.iload_n 1, 1) := by decide +kernel
theorem dX4_readComparison_50 : decode cX4_readComparison 50 = .ok (.bipush 62, 2) := by decide +kernel
theorem dX4_readComparison_52 : decode cX4_readComparison 52 = .ok (.if_icmp .eq 12, 3) := by decide +kernel
theorem dX4_readComparison_55 : decode cX4_readComparison 55 = .ok (.aload_n 0, 1) := by decide +kernel
theorem dX4_readComparison_56 : decode cX4_readComparison 56 = .ok (.getfield 12, 3) := by decide +kernel
theorem dX4_readComparison_59 : decode cX4_readComparison 59 = .ok (.iconst 0, 1) := by decide +kernel
theorem dX4_readComparison_60 : decode cX4_readComparison 60 = .ok (.invokevirtual 68, 3) := by decide +kernel
theorem dX4_readComparison_63 : decode cX4_readComparison 63 = .ok (.return_, 1) := by decide +kernel
theorem dX4_readComparison_64 : decode cX4_readComparison 64 = .ok (.aload_n 0, 1) := by decide +kernel
theorem dX4_readComparison_65 : decode cX4_readComparison 65 = .ok (.getfield 35, 3) := by decide +kernel
theorem dX4_readComparison_68 : decode cX4_readComparison 68 = .ok (.bipush 60, 2) := by decide +kernel
theorem dX4_readComparison_70 : decode cX4_readComparison 70 = .ok (.if_icmp .lt 12, 3) := by decide +kernel
theorem dX4_readComparison_73 : decode cX4_readComparison 73 = .ok (.aload_n 0, 1) := by decide +kernel
theorem dX4_readComparison_74 : decode cX4_readComparison 74 = .ok (.getfield 12, 3) := by decide +kernel
theorem dX4_readComparison_77 : decode cX4_readComparison 77 = .ok (.iconst 3, 1) := by decide +kernel
theorem dX4_readComparison_78 : decode cX4_readComparison 78 = .ok (.invokevirtual 68, 3) := by decide +kernel
theorem dX4_readComparison_81 : decode cX4_readComparison 81 = .ok (.return_, 1) := by decide +kernel
theorem dX4_readComparison_82 : decode cX4_readComparison 82 = .ok (.aload_n 0, 1) := by decide +kernel
theorem dX4_readComparison_83 : decode cX4_readComparison 83 = .ok (.dup, 1) := by decide +kernel
theorem dX4_readComparison_84 : decode cX4_readComparison 84 = .ok (.getfield 35, 3) := by decide +kernel
theorem dX4_readComparison_87 : decode cX4_readComparison 87 = .ok (.iconst 1, 1) := by decide +kernel
theorem dX4_readComparison_88 : decode cX4_readComparison 88 = .ok (.iadd, 1) := by decide +kernel
theorem dX4_readComparison_89 : decode cX4_readComparison 89 = .ok (.putfield 35, 3) := by decide +kernel
theorem dX4_readComparison_92 : decode cX4_readComparison 92 = .ok (.aload_n 0, 1) := by decide +kernel
theorem dX4_readComparison_93 : decode cX4_readComparison 93 = .ok (.getfield 12, 3) := by decide +kernel
theorem dX4_readComparison_96 : decode cX4_readComparison 96 = .ok (.invokevirtual 72, 3) := by decide +kernel
theorem dX4_readComparison_99 : decode cX4_readComparison 99 = .ok (.aload_n 0, 1) := by decide +kernel
theorem dX4_readComparison_100 : decode cX4_readComparison 100 = .ok (.invokevirtual 79, 3) := by decide +kernel
theorem dX4_readComparison_103 : decode cX4_readComparison 103 = .ok (.aload_n 0, 1) := by decide +kernel
theorem dX4_readComparison_104 : decode cX4_readComparison 104 = .ok (.iload_n 1, 1) := by decide +kernel
theorem dX4_readComparison_105 : decode cX4_readComparison 105 = .ok (.ineg, 1) := by decide +kernel
theorem dX4_readComparison_106 : decode cX4_readComparison 106 = .ok (.invokevirtual 91, 3) := by decide +kernel
theorem dX4_readComparison_109 : decode cX4_readComparison 109 = .ok (.return_, 1) := by decide +kernel
theorem dX4_readFact_0 : decode cX4_readFact 0 = .ok (.aload_n 0, 1) := by decide +kernel
theorem dX4_readFact_1 : decode cX4_readFact 1 = .ok (.getfield 12, 3) := by decide +kernel
theorem dX4_readFact_4 : decode cX4_readFact 4 = .ok (.getfield 66, 3) := by decide +kernel
theorem dX4_readFact_7 : decode cX4_readFact 7 = .ok (.sipush 311, 3) := by decide +kernel
theorem dX4_readFact_10 : decode cX4_readFact 10 = .ok (.if_icmp .ne 7, 3) := by decide +kernel
theorem dX4_readFact_13 : decode cX4_readFact 13 = .ok (.iconst 1, 1) := by decide +kernel
theorem dX4_readFact_14 : decode cX4_readFact 14 = .ok (.goto 4, 3) := by decide +kernel
theorem dX4_readFact_17 : decode cX4_readFact 17 = .ok (.iconst 0, 1) := by decide +kernel
theorem dX4_readFact_18 : decode cX4_readFact 18 = .ok (.istore_n 2, 1) := by decide +kernel
theorem dX4_readFact_19 : decode cX4_readFact 19 = .ok (.iload_n 2, 1) := by decide +kernel
theorem dX4_readFact_20 : decode cX4_readFact 20 = .ok (.ifCond .ne 20, 3) := by decide +kernel
theorem dX4_readFact_23 : decode cX4_readFact 23 = .ok (.aload_n 0, 1) := by decide +kernel
theorem dX4_readFact_24 : decode cX4_readFact 24 = .ok (.getfield 12, 3) := by decide +kernel
theorem dX4_readFact_27 : decode cX4_readFact 27 = .ok (.getfield 66, 3) := by decide +kernel
theorem dX4_readFact_30 : decode cX4_readFact 30 = .ok (.bipush 91, 2) := by decide +kernel
theorem dX4_readFact_32 : decode cX4_readFact 32 = .ok (.if_icmp .eq 8, 3) := by decide +kernel
theorem dX4_readFact_35 : decode cX4_readFact 35 = .ok (.aload_n 0, 1) := by decide +kernel
theorem dX4_readFact_36 : decode cX4_readFact 36 = .ok (.invokevirtual 94, 3) := by decide +kernel
theorem dX4_readFact_39 : decode cX4_readFact 39 = .ok (.return_, 1) := by decide +kernel
theorem dX4_readFact_40 : decode cX4_readFact 40 = .ok (.iload_n 1, 1) := by decide +kernel
theorem dX4_readFact_41 : decode cX4_readFact 41 = .ok (.bipush 10, 2) := by decide +kernel
theorem dX4_readFact_43 : decode cX4_readFact 43 = .ok (.if_icmp .lt 12, 3) := by decide +kernel
theorem dX4_readFact_46 : decode cX4_readFact 46 = .ok (.aload_n 0, 1) := by decide +kernel
theorem dX4_readFact_47 : decode cX4_readFact 47 = .ok (.getfield 12, 3) := by decide +kernel
theorem dX4_readFact_50 : decode cX4_readFact 50 = .ok (.iconst 2, 1) := by decide +kernel
theorem dX4_readFact_51 : decode cX4_readFact 51 = .ok (.invokevirtual 68, 3) := by decide +kernel
theorem dX4_readFact_54 : decode cX4_readFact 54 = .ok (.return_, 1) := by decide +kernel
theorem dX4_readFact_55 : decode cX4_readFact 55 = .ok (.aload_n 0, 1) := by decide +kernel
theorem dX4_readFact_56 : decode cX4_readFact 56 = .ok (.getfield 12, 3) := by decide +kernel
theorem dX4_readFact_59 : decode cX4_readFact 59 = .ok (.invokevirtual 72, 3) := by decide +kernel
theorem dX4_readFact_62 : decode cX4_readFact 62 = .ok (.iload_n 2, 1) := by decide +kernel
theorem dX4_readFact_63 : decode cX4_readFact 63 = .ok (.ifCond .eq 18, 3) := by decide +kernel
theorem dX4_readFact_66 : decode cX4_readFact 66 = .ok (.aload_n 0, 1) := by decide +kernel
theorem dX4_readFact_67 : decode cX4_readFact 67 = .ok (.iload_n 1, 1) := by decide +kernel
theorem dX4_readFact_68 : decode cX4_readFact 68 = .ok (.iconst 1, 1) := by decide +kernel
theorem dX4_readFact_69 : decode cX4_readFact 69 = .ok (.iadd, 1) := by decide +kernel
theorem dX4_readFact_70 : decode cX4_readFact 70 = .ok (.invokevirtual 88, 3) := by decide +kernel
theorem dX4_readFact_73 : decode cX4_readFact 73 = .ok (.aload_n 0, 1) := by decide +kernel
theorem dX4_readFact_74 : decode cX4_readFact 74 = .ok (.sipush (-311), 3) := by decide +kernel
theorem dX4_readFact_77 : decode cX4_readFact 77 = .ok (.invokevirtual 91, 3) := by decide +kernel
theorem dX4_readFact_80 : decode cX4_readFact 80 = .ok (.return_, 1) := by decide +kernel
theorem dX4_readFact_81 : decode cX4_readFact 81 = .ok (.aload_n 0, 1) := by decide +kernel
theorem dX4_readFact_82 : decode cX4_readFact 82 = .ok (.iload_n 1, 1) := by decide +kernel
theorem dX4_readFact_83 : decode cX4_readFact 83 = .ok (.iconst 1, 1) := by decide +kernel
theorem dX4_readFact_84 : decode cX4_readFact 84 = .ok (.iadd, 1) := by decide +kernel
theorem dX4_readFact_85 : decode cX4_readFact 85 = .ok (.invokevirtual 85, 3) := by decide +kernel
theorem dX4_readFact_88 : decode cX4_readFact 88 = .ok (.aload_n 0, 1) := by decide +kernel
theorem dX4_readFact_89 : decode cX4_readFact 89 = .ok (.getfield 12, 3) := by decide +kernel
theorem dX4_readFact_92 : decode cX4_readFact 92 = .ok (.getfield 82, 3) := by decide +kernel
theorem dX4_readFact_95 : decode cX4_readFact 95 = .ok (.ifCond .ne 24, 3) := by decide +kernel
theorem dX4_readFact_98 : decode cX4_readFact 98 = .ok (.aload_n 0, 1) := by decide +kernel
theorem dX4_readFact_99 : decode cX4_readFact 99 = .ok (.getfield 12, 3) := by decide +kernel
theorem dX4_readFact_102 : decode cX4_readFact 102 = .ok (.getfield 66, 3) := by decide +kernel
theorem dX4_readFact_105 : decode cX4_readFact 105 = .ok (.bipush 93, 2) := by decide +kernel
theorem dX4_readFact_107 : decode cX4_readFact 107 = .ok (.if_icmp .eq 12, 3) := by decide +kernel
theorem dX4_readFact_110 : decode cX4_readFact 110 = .ok (.aload_n 0, 1) := by decide +kernel
theorem dX4_readFact_111 : decode cX4_readFact 111 = .ok (.getfield 12, 3) := by decide +kernel
theorem dX4_readFact_114 : decode cX4_readFact 114 = .ok (.iconst 0, 1) := by decide +kernel
theorem dX4_readFact_115 : decode cX4_readFact 115 = .ok (.invokevirtual 68, 3) := by decide +kernel
theorem dX4_readFact_118 : decode cX4_readFact 118 = .ok (.return_, 1) := by decide +kernel
theorem dX4_readFact_119 : decode cX4_readFact 119 = .ok (.aload_n 0, 1) := by decide +kernel
theorem dX4_readFact_120 : decode cX4_readFact 120 = .ok (.getfield 12, 3) := by decide +kernel
theorem dX4_readFact_123 : decode cX4_readFact 123 = .ok (.invokevirtual 72, 3) := by decide +kernel
theorem dX4_readFact_126 : decode cX4_readFact 126 = .ok (.return_, 1) := by decide +kernel
theorem dX4_readSum_0 : decode cX4_readSum 0 = .ok (.iconst 0, 1) := by decide +kernel
theorem dX4_readSum_1 : decode cX4_readSum 1 = .ok (.istore_n 1, 1) := by decide +kernel
theorem dX4_readSum_2 : decode cX4_readSum 2 = .ok (.aload_n 0, 1) := by decide +kernel
theorem dX4_readSum_3 : decode cX4_readSum 3 = .ok (.invokevirtual 97, 3) := by decide +kernel
theorem dX4_readSum_6 : decode cX4_readSum 6 = .ok (.iconst 0, 1) := by decide +kernel
theorem dX4_readSum_7 : decode cX4_readSum 7 = .ok (.istore_n 2, 1) := by decide +kernel
theorem dX4_readSum_8 : decode cX4_readSum 8 = .ok (.iload_n 2, 1) := by decide +kernel
theorem dX4_readSum_9 : decode cX4_readSum 9 = .ok (.sipush 400, 3) := by decide +kernel
theorem dX4_readSum_12 : decode cX4_readSum 12 = .ok (.if_icmp .ge 114, 3) := by decide +kernel
theorem dX4_readSum_15 : decode cX4_readSum 15 = .ok (.aload_n 0, 1) := by decide +kernel
theorem dX4_readSum_16 : decode cX4_readSum 16 = .ok (.getfield 12, 3) := by decide +kernel
theorem dX4_readSum_19 : decode cX4_readSum 19 = .ok (.getfield 82, 3) := by decide +kernel
theorem dX4_readSum_22 : decode cX4_readSum 22 = .ok (.ifCond .ne 104, 3) := by decide +kernel
theorem dX4_readSum_25 : decode cX4_readSum 25 = .ok (.aload_n 0, 1) := by decide +kernel
theorem dX4_readSum_26 : decode cX4_readSum 26 = .ok (.getfield 12, 3) := by decide +kernel
theorem dX4_readSum_29 : decode cX4_readSum 29 = .ok (.getfield 66, 3) := by decide +kernel
theorem dX4_readSum_32 : decode cX4_readSum 32 = .ok (.istore_n 3, 1) := by decide +kernel
theorem dX4_readSum_33 : decode cX4_readSum 33 = .ok (.iload_n 3, 1) := by decide +kernel
theorem dX4_readSum_34 : decode cX4_readSum 34 = .ok (.bipush 42, 2) := by decide +kernel
theorem dX4_readSum_36 : decode cX4_readSum 36 = .ok (.if_icmp .eq 9, 3) := by decide +kernel
theorem dX4_readSum_39 : decode cX4_readSum 39 = .ok (.iload_n 3, 1) := by decide +kernel
theorem dX4_readSum_40 : decode cX4_readSum 40 = .ok (.bipush 47, 2) := by decide +kernel
theorem dX4_readSum_42 : decode cX4_readSum 42 = .ok (.if_icmp .ne 7, 3) := by decide +kernel
theorem dX4_readSum_45 : decode cX4_readSum 45 = .ok (.iconst 1, 1) := by decide +kernel
theorem dX4_readSum_46 : decode cX4_readSum 46 = .ok (.goto 4, 3) := by decide +kernel
theorem dX4_readSum_49 : decode cX4_readSum 49 = .ok (.iconst 0, 1) := by decide +kernel
theorem dX4_readSum_50 : decode cX4_readSum 50 = .ok (.istore 4, 2) := by decide +kernel
theorem dX4_readSum_52 : decode cX4_readSum 52 = .ok (.iload 4, 2) := by decide +kernel
theorem dX4_readSum_54 : decode cX4_readSum 54 = .ok (.ifCond .ne 18, 3) := by decide +kernel
theorem dX4_readSum_57 : decode cX4_readSum 57 = .ok (.iload_n 3, 1) := by decide +kernel
theorem dX4_readSum_58 : decode cX4_readSum 58 = .ok (.bipush 43, 2) := by decide +kernel
theorem dX4_readSum_60 : decode cX4_readSum 60 = .ok (.if_icmp .eq 12, 3) := by decide +kernel
theorem dX4_readSum_63 : decode cX4_readSum 63 = .ok (.iload_n 3, 1) := by decide +kernel
theorem dX4_readSum_64 : decode cX4_readSum 64 = .ok (.bipush 45, 2) := by decide +kernel
theorem dX4_readSum_66 : decode cX4_readSum 66 = .ok (.if_icmp .eq 6, 3) := by decide +kernel
theorem dX4_readSum_69 : decode cX4_readSum 69 = .ok (.goto 57, 3) := by decide +kernel
theorem dX4_readSum_72 : decode cX4_readSum 72 = .ok (.iload 4, 2) := by decide +kernel
theorem dX4_readSum_74 : decode cX4_readSum 74 = .ok (.ifCond .ne 13, 3) := by decide +kernel
theorem dX4_readSum_77 : decode cX4_readSum 77 = .ok (.iload_n 1, 1) := by decide +kernel
theorem dX4_readSum_78 : decode cX4_readSum 78 = .ok (.ifCond .eq 9, 3) := by decide +kernel
theorem dX4_readSum_81 : decode cX4_readSum 81 = .ok (.aload_n 0, 1) := by decide +kernel
theorem dX4_readSum_82 : decode cX4_readSum 82 = .ok (.iload_n 1, 1) := by decide +kernel
theorem dX4_readSum_83 : decode cX4_readSum 83 = .ok (.ineg, 1) := by decide +kernel
theorem dX4_readSum_84 : decode cX4_readSum 84 = .ok (.invokevirtual 91, 3) := by decide +kernel
theorem dX4_readSum_87 : decode cX4_readSum 87 = .ok (.iload 4, 2) := by decide +kernel
theorem dX4_readSum_89 : decode cX4_readSum 89 = .ok (.ifCond .eq 7, 3) := by decide +kernel
theorem dX4_readSum_92 : decode cX4_readSum 92 = .ok (.iload_n 1, 1) := by decide +kernel
theorem dX4_readSum_93 : decode cX4_readSum 93 = .ok (.goto 4, 3) := by decide +kernel
theorem dX4_readSum_96 : decode cX4_readSum 96 = .ok (.iload_n 3, 1) := by decide +kernel
theorem dX4_readSum_97 : decode cX4_readSum 97 = .ok (.istore_n 1, 1) := by decide +kernel
theorem dX4_readSum_98 : decode cX4_readSum 98 = .ok (.aload_n 0, 1) := by decide +kernel
theorem dX4_readSum_99 : decode cX4_readSum 99 = .ok (.getfield 12, 3) := by decide +kernel
theorem dX4_readSum_102 : decode cX4_readSum 102 = .ok (.invokevirtual 72, 3) := by decide +kernel
theorem dX4_readSum_105 : decode cX4_readSum 105 = .ok (.aload_n 0, 1) := by decide +kernel
theorem dX4_readSum_106 : decode cX4_readSum 106 = .ok (.invokevirtual 97, 3) := by decide +kernel
theorem dX4_readSum_109 : decode cX4_readSum 109 = .ok (.iload 4, 2) := by decide +kernel
theorem dX4_readSum_111 : decode cX4_readSum 111 = .ok (.ifCond .eq 9, 3) := by decide +kernel
theorem dX4_readSum_114 : decode cX4_readSum 114 = .ok (.aload_n 0, 1) := by decide +kernel
theorem dX4_readSum_115 : decode cX4_readSum 115 = .ok (.iload_n 3, 1) := by decide +kernel
theorem dX4_readSum_116 : decode cX4_readSum 116 = .ok (.ineg, 1) := by decide +kernel
theorem dX4_readSum_117 : decode cX4_readSum 117 = .ok (.invokevirtual 91, 3) := by decide +kernel
theorem dX4_readSum_120 : decode cX4_readSum 120 = .ok (.iinc 2 1, 3) := by decide +kernel
theorem dX4_readSum_123 : decode cX4_readSum 123 = .ok (.goto (-115), 3) := by decide +kernel
theorem dX4_readSum_126 : decode cX4_readSum 126 = .ok (.iload_n 1, 1) := by decide +kernel
theorem dX4_readSum_127 : decode cX4_readSum 127 = .ok (.ifCond .eq 9, 3) := by decide +kernel
theorem dX4_readSum_130 : decode cX4_readSum 130 = .ok (.aload_n 0, 1) := by decide +kernel
theorem dX4_readSum_131 : decode cX4_readSum 131 = .ok (.iload_n 1, 1) := by decide +kernel
theorem dX4_readSum_132 : decode cX4_readSum 132 = .ok (.ineg, 1) := by decide +kernel
theorem dX4_readSum_133 : decode cX4_readSum 133 = .ok (.invokevirtual 91, 3) := by decide +kernel
theorem dX4_readSum_136 : decode cX4_readSum 136 = .ok (.return_, 1) := by decide +kernel
theorem dX4_readTest_0 : decode cX4_readTest 0 = .ok (.iconst 0, 1) := by decide +kernel
theorem dX4_readTest_1 : decode cX4_readTest 1 = .ok (.istore_n 2, 1) := by decide +kernel
theorem dX4_readTest_2 : decode cX4_readTest 2 = .ok (.aload_n 0, 1) := by decide +kernel
theorem dX4_readTest_3 : decode cX4_readTest 3 = .ok (.iload_n 1, 1) := by decide +kernel
theorem dX4_readTest_4 : decode cX4_readTest 4 = .ok (.invokevirtual 88, 3) := by decide +kernel
theorem dX4_readTest_7 : decode cX4_readTest 7 = .ok (.iconst 0, 1) := by decide +kernel
theorem dX4_readTest_8 : decode cX4_readTest 8 = .ok (.istore_n 3, 1) := by decide +kernel
theorem dX4_readTest_9 : decode cX4_readTest 9 = .ok (.iload_n 3, 1) := by decide +kernel
theorem dX4_readTest_10 : decode cX4_readTest 10 = .ok (.sipush 400, 3) := by decide +kernel
theorem dX4_readTest_13 : decode cX4_readTest 13 = .ok (.if_icmp .ge 120, 3) := by decide +kernel
theorem dX4_readTest_16 : decode cX4_readTest 16 = .ok (.aload_n 0, 1) := by decide +kernel
theorem dX4_readTest_17 : decode cX4_readTest 17 = .ok (.getfield 12, 3) := by decide +kernel
theorem dX4_readTest_20 : decode cX4_readTest 20 = .ok (.getfield 82, 3) := by decide +kernel
theorem dX4_readTest_23 : decode cX4_readTest 23 = .ok (.ifCond .ne 110, 3) := by decide +kernel
theorem dX4_readTest_26 : decode cX4_readTest 26 = .ok (.aload_n 0, 1) := by decide +kernel
theorem dX4_readTest_27 : decode cX4_readTest 27 = .ok (.getfield 12, 3) := by decide +kernel
theorem dX4_readTest_30 : decode cX4_readTest 30 = .ok (.getfield 66, 3) := by decide +kernel
theorem dX4_readTest_33 : decode cX4_readTest 33 = .ok (.sipush 309, 3) := by decide +kernel
theorem dX4_readTest_36 : decode cX4_readTest 36 = .ok (.if_icmp .eq 16, 3) := by decide +kernel
theorem dX4_readTest_39 : decode cX4_readTest 39 = .ok (.aload_n 0, 1) := by decide +kernel
theorem dX4_readTest_40 : decode cX4_readTest 40 = .ok (.getfield 12, 3) := by decide +kernel
theorem dX4_readTest_43 : decode cX4_readTest 43 = .ok (.getfield 66, 3) := by decide +kernel
theorem dX4_readTest_46 : decode cX4_readTest 46 = .ok (.sipush 310, 3) := by decide +kernel
theorem dX4_readTest_49 : decode cX4_readTest 49 = .ok (.if_icmp .ne 84, 3) := by decide +kernel
theorem dX4_readTest_52 : decode cX4_readTest 52 = .ok (.aload_n 0, 1) := by decide +kernel
theorem dX4_readTest_53 : decode cX4_readTest 53 = .ok (.getfield 12, 3) := by decide +kernel
theorem dX4_readTest_56 : decode cX4_readTest 56 = .ok (.getfield 66, 3) := by decide +kernel
theorem dX4_readTest_59 : decode cX4_readTest 59 = .ok (.sipush 309, 3) := by decide +kernel
theorem dX4_readTest_62 : decode cX4_readTest 62 = .ok (.if_icmp .ne 7, 3) := by decide +kernel
theorem dX4_readTest_65 : decode cX4_readTest 65 = .ok (.iconst 1, 1) := by decide +kernel
theorem dX4_readTest_66 : decode cX4_readTest 66 = .ok (.goto 4, 3) := by decide +kernel
theorem dX4_readTest_69 : decode cX4_readTest 69 = .ok (.iconst 0, 1) := by decide +kernel
theorem dX4_readTest_70 : decode cX4_readTest 70 = .ok (.istore 4, 2) := by decide +kernel
theorem dX4_readTest_72 : decode cX4_readTest 72 = .ok (.iload 4, 2) := by decide +kernel
theorem dX4_readTest_74 : decode cX4_readTest 74 = .ok (.ifCond .eq 14, 3) := by decide +kernel
theorem dX4_readTest_77 : decode cX4_readTest 77 = .ok (.iload_n 2, 1) := by decide +kernel
theorem dX4_readTest_78 : decode cX4_readTest 78 = .ok (.ifCond .eq 10, 3) := by decide +kernel
theorem dX4_readTest_81 : decode cX4_readTest 81 = .ok (.aload_n 0, 1) := by decide +kernel
theorem dX4_readTest_82 : decode cX4_readTest 82 = .ok (.sipush (-309), 3) := by decide +kernel
theorem dX4_readTest_85 : decode cX4_readTest 85 = .ok (.invokevirtual 91, 3) := by decide +kernel
theorem dX4_readTest_88 : decode cX4_readTest 88 = .ok (.iload_n 2, 1) := by decide +kernel
theorem dX4_readTest_89 : decode cX4_readTest 89 = .ok (.ifCond .ne 8, 3) := by decide +kernel
theorem dX4_readTest_92 : decode cX4_readTest 92 = .ok (.iload 4, 2) := by decide +kernel
theorem dX4_readTest_94 : decode cX4_readTest 94 = .ok (.ifCond .eq 7, 3) := by decide +kernel
theorem dX4_readTest_97 : decode cX4_readTest 97 = .ok (.iconst 1, 1) := by decide +kernel
theorem dX4_readTest_98 : decode cX4_readTest 98 = .ok (.goto 4, 3) := by decide +kernel
theorem dX4_readTest_101 : decode cX4_readTest 101 = .ok (.iconst 0, 1) := by decide +kernel
theorem dX4_readTest_102 : decode cX4_readTest 102 = .ok (.istore_n 2, 1) := by decide +kernel
theorem dX4_readTest_103 : decode cX4_readTest 103 = .ok (.aload_n 0, 1) := by decide +kernel
theorem dX4_readTest_104 : decode cX4_readTest 104 = .ok (.getfield 12, 3) := by decide +kernel
theorem dX4_readTest_107 : decode cX4_readTest 107 = .ok (.invokevirtual 72, 3) := by decide +kernel
theorem dX4_readTest_110 : decode cX4_readTest 110 = .ok (.aload_n 0, 1) := by decide +kernel
theorem dX4_readTest_111 : decode cX4_readTest 111 = .ok (.iload_n 1, 1) := by decide +kernel
theorem dX4_readTest_112 : decode cX4_readTest 112 = .ok (.invokevirtual 88, 3) := by decide +kernel
theorem dX4_readTest_115 : decode cX4_readTest 115 = .ok (.iload 4, 2) := by decide +kernel
theorem dX4_readTest_117 : decode cX4_readTest 117 = .ok (.ifCond .ne 10, 3) := by decide +kernel
theorem dX4_readTest_120 : decode cX4_readTest 120 = .ok (.aload_n 0, 1) := by decide +kernel
theorem dX4_readTest_121 : decode cX4_readTest 121 = .ok (.sipush (-310), 3) := by decide +kernel
theorem dX4_readTest_124 : decode cX4_readTest 124 = .ok (.invokevirtual 91, 3) := by decide +kernel
theorem dX4_readTest_127 : decode cX4_readTest 127 = .ok (.iinc 3 1, 3) := by decide +kernel
theorem dX4_readTest_130 : decode cX4_readTest 130 = .ok (.goto (-121), 3) := by decide +kernel
theorem dX4_readTest_133 : decode cX4_readTest 133 = .ok (.iload_n 2, 1) := by decide +kernel
theorem dX4_readTest_134 : decode cX4_readTest 134 = .ok (.ifCond .eq 10, 3) := by decide +kernel
theorem dX4_readTest_137 : decode cX4_readTest 137 = .ok (.aload_n 0, 1) := by decide +kernel
theorem dX4_readTest_138 : decode cX4_readTest 138 = .ok (.sipush (-309), 3) := by decide +kernel
theorem dX4_readTest_141 : decode cX4_readTest 141 = .ok (.invokevirtual 91, 3) := by decide +kernel
theorem dX4_readTest_144 : decode cX4_readTest 144 = .ok (.return_, 1) := by decide +kernel
theorem dX4_readValue_0 : decode cX4_readValue 0 = .ok (.aload_n 0, 1) := by decide +kernel
theorem dX4_readValue_1 : decode cX4_readValue 1 = .ok (.getfield 12, 3) := by decide +kernel
theorem dX4_readValue_4 : decode cX4_readValue 4 = .ok (.getfield 66, 3) := by decide +kernel
theorem dX4_readValue_7 : decode cX4_readValue 7 = .ok (.sipush 301, 3) := by decide +kernel
theorem dX4_readValue_10 : decode cX4_readValue 10 = .ok (.if_icmp .ne 7, 3) := by decide +kernel
theorem dX4_readValue_13 : decode cX4_readValue 13 = .ok (.iconst 1, 1) := by decide +kernel
theorem dX4_readValue_14 : decode cX4_readValue 14 = .ok (.goto 4, 3) := by decide +kernel
theorem dX4_readValue_17 : decode cX4_readValue 17 = .ok (.iconst 0, 1) := by decide +kernel
theorem dX4_readValue_18 : decode cX4_readValue 18 = .ok (.istore_n 1, 1) := by decide +kernel
theorem dX4_readValue_19 : decode cX4_readValue 19 = .ok (.aload_n 0, 1) := by decide +kernel
theorem dX4_readValue_20 : decode cX4_readValue 20 = .ok (.getfield 12, 3) := by decide +kernel
theorem dX4_readValue_23 : decode cX4_readValue 23 = .ok (.getfield 66, 3) := by decide +kernel
theorem dX4_readValue_26 : decode cX4_readValue 26 = .ok (.sipush 312, 3) := by decide +kernel
theorem dX4_readValue_29 : decode cX4_readValue 29 = .ok (.if_icmp .lt 20, 3) := by decide +kernel
theorem dX4_readValue_32 : decode cX4_readValue 32 = .ok (.aload_n 0, 1) := by decide +kernel
theorem dX4_readValue_33 : decode cX4_readValue 33 = .ok (.getfield 12, 3) := by decide +kernel
theorem dX4_readValue_36 : decode cX4_readValue 36 = .ok (.getfield 66, 3) := by decide +kernel
theorem dX4_readValue_39 : decode cX4_readValue 39 = .ok (.sipush 320, 3) := by decide +kernel
theorem dX4_readValue_42 : decode cX4_readValue 42 = .ok (.if_icmp .gt 7, 3) := by decide +kernel
theorem dX4_readValue_45 : decode cX4_readValue 45 = .ok (.iconst 1, 1) := by decide +kernel
theorem dX4_readValue_46 : decode cX4_readValue 46 = .ok (.goto 4, 3) := by decide +kernel
theorem dX4_readValue_49 : decode cX4_readValue 49 = .ok (.iconst 0, 1) := by decide +kernel
theorem dX4_readValue_50 : decode cX4_readValue 50 = .ok (.istore_n 2, 1) := by decide +kernel
theorem dX4_readValue_51 : decode cX4_readValue 51 = .ok (.iload_n 1, 1) := by decide +kernel
theorem dX4_readValue_52 : decode cX4_readValue 52 = .ok (.ifCond .ne 33, 3) := by decide +kernel
theorem dX4_readValue_55 : decode cX4_readValue 55 = .ok (.iload_n 2, 1) := by decide +kernel
theorem dX4_readValue_56 : decode cX4_readValue 56 = .ok (.ifCond .ne 29, 3) := by decide +kernel
theorem dX4_readValue_59 : decode cX4_readValue 59 = .ok (.aload_n 0, 1) := by decide +kernel
theorem dX4_readValue_60 : decode cX4_readValue 60 = .ok (.getfield 12, 3) := by decide +kernel
theorem dX4_readValue_63 : decode cX4_readValue 63 = .ok (.aload_n 0, 1) := by decide +kernel
theorem dX4_readValue_64 : decode cX4_readValue 64 = .ok (.getfield 12, 3) := by decide +kernel
theorem dX4_readValue_67 : decode cX4_readValue 67 = .ok (.getfield 66, 3) := by decide +kernel
theorem dX4_readValue_70 : decode cX4_readValue 70 = .ok (.sipush 302, 3) := by decide +kernel
theorem dX4_readValue_73 : decode cX4_readValue 73 = .ok (.if_icmp .ne 7, 3) := by decide +kernel
theorem dX4_readValue_76 : decode cX4_readValue 76 = .ok (.iconst 1, 1) := by decide +kernel
theorem dX4_readValue_77 : decode cX4_readValue 77 = .ok (.goto 4, 3) := by decide +kernel
theorem dX4_readValue_80 : decode cX4_readValue 80 = .ok (.iconst 0, 1) := by decide +kernel
theorem dX4_readValue_81 : decode cX4_readValue 81 = .ok (.invokevirtual 68, 3) := by decide +kernel
theorem dX4_readValue_84 : decode cX4_readValue 84 = .ok (.return_, 1) := by decide +kernel
theorem dX4_readValue_85 : decode cX4_readValue 85 = .ok (.aload_n 0, 1) := by decide +kernel
theorem dX4_readValue_86 : decode cX4_readValue 86 = .ok (.getfield 35, 3) := by decide +kernel
theorem dX4_readValue_89 : decode cX4_readValue 89 = .ok (.bipush 60, 2) := by decide +kernel
theorem dX4_readValue_91 : decode cX4_readValue 91 = .ok (.if_icmp .lt 12, 3) := by decide +kernel
theorem dX4_readValue_94 : decode cX4_readValue 94 = .ok (.aload_n 0, 1) := by decide +kernel
theorem dX4_readValue_95 : decode cX4_readValue 95 = .ok (.getfield 12, 3) := by decide +kernel
theorem dX4_readValue_98 : decode cX4_readValue 98 = .ok (.iconst 3, 1) := by decide +kernel
theorem dX4_readValue_99 : decode cX4_readValue 99 = .ok (.invokevirtual 68, 3) := by decide +kernel
theorem dX4_readValue_102 : decode cX4_readValue 102 = .ok (.return_, 1) := by decide +kernel
theorem dX4_readValue_103 : decode cX4_readValue 103 = .ok (.aload_n 0, 1) := by decide +kernel
theorem dX4_readValue_104 : decode cX4_readValue 104 = .ok (.dup, 1) := by decide +kernel
theorem dX4_readValue_105 : decode cX4_readValue 105 = .ok (.getfield 35, 3) := by decide +kernel
theorem dX4_readValue_108 : decode cX4_readValue 108 = .ok (.iconst 1, 1) := by decide +kernel
theorem dX4_readValue_109 : decode cX4_readValue 109 = .ok (.iadd, 1) := by decide +kernel
theorem dX4_readValue_110 : decode cX4_readValue 110 = .ok (.putfield 35, 3) := by decide +kernel
theorem dX4_readValue_113 : decode cX4_readValue 113 = .ok (.aload_n 0, 1) := by decide +kernel
theorem dX4_readValue_114 : decode cX4_readValue 114 = .ok (.iload_n 1, 1) := by decide +kernel
theorem dX4_readValue_115 : decode cX4_readValue 115 = .ok (.ifCond .eq 13, 3) := by decide +kernel
theorem dX4_readValue_118 : decode cX4_readValue 118 = .ok (.aload_n 0, 1) := by decide +kernel
theorem dX4_readValue_119 : decode cX4_readValue 119 = .ok (.getfield 12, 3) := by decide +kernel
theorem dX4_readValue_122 : decode cX4_readValue 122 = .ok (.getfield 100, 3) := by decide +kernel
theorem dX4_readValue_125 : decode cX4_readValue 125 = .ok (.goto 11, 3) := by decide +kernel
theorem dX4_readValue_128 : decode cX4_readValue 128 = .ok (.aload_n 0, 1) := by decide +kernel
theorem dX4_readValue_129 : decode cX4_readValue 129 = .ok (.getfield 12, 3) := by decide +kernel
theorem dX4_readValue_132 : decode cX4_readValue 132 = .ok (.getfield 66, 3) := by decide +kernel
theorem dX4_readValue_135 : decode cX4_readValue 135 = .ok (.ineg, 1) := by decide +kernel
theorem dX4_readValue_136 : decode cX4_readValue 136 = .ok (.invokevirtual 91, 3) := by decide +kernel
theorem dX4_readValue_139 : decode cX4_readValue 139 = .ok (.aload_n 0, 1) := by decide +kernel
theorem dX4_readValue_140 : decode cX4_readValue 140 = .ok (.getfield 12, 3) := by decide +kernel
theorem dX4_readValue_143 : decode cX4_readValue 143 = .ok (.invokevirtual 72, 3) := by decide +kernel
theorem dX4_readValue_146 : decode cX4_readValue 146 = .ok (.return_, 1) := by decide +kernel
theorem dX5_copyFrom_0 : decode cX5_copyFrom 0 = .ok (.aload_n 0, 1) := by decide +kernel
theorem dX5_copyFrom_1 : decode cX5_copyFrom 1 = .ok (.aload_n 1, 1) := by decide +kernel
theorem dX5_copyFrom_2 : decode cX5_copyFrom 2 = .ok (.getfield 9, 3) := by decide +kernel
theorem dX5_copyFrom_5 : decode cX5_copyFrom 5 = .ok (.putfield 9, 3) := by decide +kernel
theorem dX5_copyFrom_8 : decode cX5_copyFrom 8 = .ok (.aload_n 0, 1) := by decide +kernel
theorem dX5_copyFrom_9 : decode cX5_copyFrom 9 = .ok (.getfield 18, 3) := by decide +kernel
theorem dX5_copyFrom_12 : decode cX5_copyFrom 12 = .ok (.aload_n 1, 1) := by decide +kernel
theorem dX5_copyFrom_13 : decode cX5_copyFrom 13 = .ok (.getfield 18, 3) := by decide +kernel
theorem dX5_copyFrom_16 : decode cX5_copyFrom 16 = .ok (.invokevirtual 29, 3) := by decide +kernel
theorem dX5_copyFrom_19 : decode cX5_copyFrom 19 = .ok (.aload_n 0, 1) := by decide +kernel
theorem dX5_copyFrom_20 : decode cX5_copyFrom 20 = .ok (.aload_n 1, 1) := by decide +kernel
theorem dX5_copyFrom_21 : decode cX5_copyFrom 21 = .ok (.getfield 33, 3) := by decide +kernel
theorem dX5_copyFrom_24 : decode cX5_copyFrom 24 = .ok (.putfield 33, 3) := by decide +kernel
theorem dX5_copyFrom_27 : decode cX5_copyFrom 27 = .ok (.aload_n 0, 1) := by decide +kernel
theorem dX5_copyFrom_28 : decode cX5_copyFrom 28 = .ok (.aload_n 1, 1) := by decide +kernel
theorem dX5_copyFrom_29 : decode cX5_copyFrom 29 = .ok (.getfield 37, 3) := by decide +kernel
theorem dX5_copyFrom_32 : decode cX5_copyFrom 32 = .ok (.putfield 37, 3) := by decide +kernel
theorem dX5_copyFrom_35 : decode cX5_copyFrom 35 = .ok (.aload_n 0, 1) := by decide +kernel
theorem dX5_copyFrom_36 : decode cX5_copyFrom 36 = .ok (.aload_n 1, 1) := by decide +kernel
theorem dX5_copyFrom_37 : decode cX5_copyFrom 37 = .ok (.getfield 40, 3) := by decide +kernel
theorem dX5_copyFrom_40 : decode cX5_copyFrom 40 = .ok (.putfield 40, 3) := by decide +kernel
theorem dX5_copyFrom_43 : decode cX5_copyFrom 43 = .ok (.aload_n 1, 1) := by decide +kernel
theorem dX5_copyFrom_44 : decode cX5_copyFrom 44 = .ok (.getfield 22, 3) := by decide +kernel
theorem dX5_copyFrom_47 : decode cX5_copyFrom 47 = .ok (.iconst 0, 1) := by decide +kernel
theorem dX5_copyFrom_48 : decode cX5_copyFrom 48 = .ok (.aload_n 0, 1) := by decide +kernel
theorem dX5_copyFrom_49 : decode cX5_copyFrom 49 = .ok (.getfield 22, 3) := by decide +kernel
theorem dX5_copyFrom_52 : decode cX5_copyFrom 52 = .ok (.iconst 0, 1) := by decide +kernel
theorem dX5_copyFrom_53 : decode cX5_copyFrom 53 = .ok (.bipush 8, 2) := by decide +kernel
theorem dX5_copyFrom_55 : decode cX5_copyFrom 55 = .ok (.invokestatic 43, 3) := by decide +kernel
theorem dX5_copyFrom_58 : decode cX5_copyFrom 58 = .ok (.aload_n 0, 1) := by decide +kernel
theorem dX5_copyFrom_59 : decode cX5_copyFrom 59 = .ok (.aload_n 1, 1) := by decide +kernel
theorem dX5_copyFrom_60 : decode cX5_copyFrom 60 = .ok (.getfield 49, 3) := by decide +kernel
theorem dX5_copyFrom_63 : decode cX5_copyFrom 63 = .ok (.putfield 49, 3) := by decide +kernel
theorem dX5_copyFrom_66 : decode cX5_copyFrom 66 = .ok (.aload_n 1, 1) := by decide +kernel
theorem dX5_copyFrom_67 : decode cX5_copyFrom 67 = .ok (.getfield 26, 3) := by decide +kernel
theorem dX5_copyFrom_70 : decode cX5_copyFrom 70 = .ok (.iconst 0, 1) := by decide +kernel
theorem dX5_copyFrom_71 : decode cX5_copyFrom 71 = .ok (.aload_n 0, 1) := by decide +kernel
theorem dX5_copyFrom_72 : decode cX5_copyFrom 72 = .ok (.getfield 26, 3) := by decide +kernel
theorem dX5_copyFrom_75 : decode cX5_copyFrom 75 = .ok (.iconst 0, 1) := by decide +kernel
theorem dX5_copyFrom_76 : decode cX5_copyFrom 76 = .ok (.bipush 8, 2) := by decide +kernel
theorem dX5_copyFrom_78 : decode cX5_copyFrom 78 = .ok (.invokestatic 43, 3) := by decide +kernel
theorem dX5_copyFrom_81 : decode cX5_copyFrom 81 = .ok (.return_, 1) := by decide +kernel
theorem dX6_fail_0 : decode cX6_fail 0 = .ok (.aload_n 0, 1) := by decide +kernel
theorem dX6_fail_1 : decode cX6_fail 1 = .ok (.getfield 33, 3) := by decide +kernel
theorem dX6_fail_4 : decode cX6_fail 4 = .ok (.ifCond .ne 18, 3) := by decide +kernel
theorem dX6_fail_7 : decode cX6_fail 7 = .ok (.aload_n 0, 1) := by decide +kernel
theorem dX6_fail_8 : decode cX6_fail 8 = .ok (.iconst 1, 1) := by decide +kernel
theorem dX6_fail_9 : decode cX6_fail 9 = .ok (.bipush 8, 2) := by decide +kernel
theorem dX6_fail_11 : decode cX6_fail 11 = .ok (.aload_n 0, 1) := by decide +kernel
theorem dX6_fail_12 : decode cX6_fail 12 = .ok (.getfield 115, 3) := by decide +kernel
theorem dX6_fail_15 : decode cX6_fail 15 = .ok (.imul, 1) := by decide +kernel
theorem dX6_fail_16 : decode cX6_fail 16 = .ok (.iadd, 1) := by decide +kernel
theorem dX6_fail_17 : decode cX6_fail 17 = .ok (.iload_n 1, 1) := by decide +kernel
theorem dX6_fail_18 : decode cX6_fail 18 = .ok (.iadd, 1) := by decide +kernel
theorem dX6_fail_19 : decode cX6_fail 19 = .ok (.putfield 33, 3) := by decide +kernel
theorem dX6_fail_22 : decode cX6_fail 22 = .ok (.return_, 1) := by decide +kernel
theorem dX6_step_0 : decode cX6_step 0 = .ok (.aload_n 0, 1) := by decide +kernel
theorem dX6_step_1 : decode cX6_step 1 = .ok (.getfield 36, 3) := by decide +kernel
theorem dX6_step_4 : decode cX6_step 4 = .ok (.ifCond .lt 75, 3) := by decide +kernel
theorem dX6_step_7 : decode cX6_step 7 = .ok (.aload_n 0, 1) := by decide +kernel
theorem dX6_step_8 : decode cX6_step 8 = .ok (.getfield 36, 3) := by decide +kernel
theorem dX6_step_11 : decode cX6_step 11 = .ok (.aload_n 0, 1) := by decide +kernel
theorem dX6_step_12 : decode cX6_step 12 = .ok (.getfield 21, 3) := by decide +kernel
theorem dX6_step_15 : decode cX6_step 15 = .ok (.if_icmp .ge 64, 3) := by decide +kernel
