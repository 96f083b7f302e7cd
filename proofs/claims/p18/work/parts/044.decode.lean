theorem dX7_payOf_9 : decode cX7_payOf 9 = .ok (.ireturn, 1) := by decide +kernel
theorem dX7_readClause_0 : decode cX7_readClause 0 = .ok (.aload_n 1, 1) := by decide +kernel
theorem dX7_readClause_1 : decode cX7_readClause 1 = .ok (.getfield 92, 3) := by decide +kernel
theorem dX7_readClause_4 : decode cX7_readClause 4 = .ok (.istore_n 3, 1) := by decide +kernel
theorem dX7_readClause_5 : decode cX7_readClause 5 = .ok (.iload_n 3, 1) := by decide +kernel
theorem dX7_readClause_6 : decode cX7_readClause 6 = .ok (.sipush 304, 3) := by decide +kernel
theorem dX7_readClause_9 : decode cX7_readClause 9 = .ok (.if_icmp .eq 23, 3) := by decide +kernel
theorem dX7_readClause_12 : decode cX7_readClause 12 = .ok (.iload_n 3, 1) := by decide +kernel
theorem dX7_readClause_13 : decode cX7_readClause 13 = .ok (.sipush 313, 3) := by decide +kernel
theorem dX7_readClause_16 : decode cX7_readClause 16 = .ok (.if_icmp .eq 16, 3) := by decide +kernel
theorem dX7_readClause_19 : decode cX7_readClause 19 = .ok (.iload_n 3, 1) := by decide +kernel
theorem dX7_readClause_20 : decode cX7_readClause 20 = .ok (.sipush 312, 3) := by decide +kernel
theorem dX7_readClause_23 : decode cX7_readClause 23 = .ok (.if_icmp .eq 9, 3) := by decide +kernel
theorem dX7_readClause_26 : decode cX7_readClause 26 = .ok (.aload_n 1, 1) := by decide +kernel
theorem dX7_readClause_27 : decode cX7_readClause 27 = .ok (.iconst 0, 1) := by decide +kernel
theorem dX7_readClause_28 : decode cX7_readClause 28 = .ok (.invokevirtual 68, 3) := by decide +kernel
theorem dX7_readClause_31 : decode cX7_readClause 31 = .ok (.return_, 1) := by decide +kernel
theorem dX7_readClause_32 : decode cX7_readClause 32 = .ok (.iload_n 3, 1) := by decide +kernel
theorem dX7_readClause_33 : decode cX7_readClause 33 = .ok (.sipush 304, 3) := by decide +kernel
theorem dX7_readClause_36 : decode cX7_readClause 36 = .ok (.if_icmp .ne 10, 3) := by decide +kernel
theorem dX7_readClause_39 : decode cX7_readClause 39 = .ok (.aload_n 0, 1) := by decide +kernel
theorem dX7_readClause_40 : decode cX7_readClause 40 = .ok (.getfield 95, 3) := by decide +kernel
theorem dX7_readClause_43 : decode cX7_readClause 43 = .ok (.goto 41, 3) := by decide +kernel
theorem dX7_readClause_46 : decode cX7_readClause 46 = .ok (.iload_n 3, 1) := by decide +kernel
theorem dX7_readClause_47 : decode cX7_readClause 47 = .ok (.sipush 313, 3) := by decide +kernel
theorem dX7_readClause_50 : decode cX7_readClause 50 = .ok (.if_icmp .ne 20, 3) := by decide +kernel
theorem dX7_readClause_53 : decode cX7_readClause 53 = .ok (.aload_n 0, 1) := by decide +kernel
theorem dX7_readClause_54 : decode cX7_readClause 54 = .ok (.getfield 99, 3) := by decide +kernel
theorem dX7_readClause_57 : decode cX7_readClause 57 = .ok (.bipush 6, 2) := by decide +kernel
theorem dX7_readClause_59 : decode cX7_readClause 59 = .ok (.if_icmp .lt 7, 3) := by decide +kernel
theorem dX7_readClause_62 : decode cX7_readClause 62 = .ok (.iconst 1, 1) := by decide +kernel
theorem dX7_readClause_63 : decode cX7_readClause 63 = .ok (.goto 21, 3) := by decide +kernel
theorem dX7_readClause_66 : decode cX7_readClause 66 = .ok (.iconst 0, 1) := by decide +kernel
theorem dX7_readClause_67 : decode cX7_readClause 67 = .ok (.goto 17, 3) := by decide +kernel
theorem dX7_readClause_70 : decode cX7_readClause 70 = .ok (.aload_n 0, 1) := by decide +kernel
theorem dX7_readClause_71 : decode cX7_readClause 71 = .ok (.getfield 65, 3) := by decide +kernel
theorem dX7_readClause_74 : decode cX7_readClause 74 = .ok (.bipush 10, 2) := by decide +kernel
theorem dX7_readClause_76 : decode cX7_readClause 76 = .ok (.if_icmp .lt 7, 3) := by decide +kernel
theorem dX7_readClause_79 : decode cX7_readClause 79 = .ok (.iconst 1, 1) := by decide +kernel
theorem dX7_readClause_80 : decode cX7_readClause 80 = .ok (.goto 4, 3) := by decide +kernel
theorem dX7_readClause_83 : decode cX7_readClause 83 = .ok (.iconst 0, 1) := by decide +kernel
theorem dX7_readClause_84 : decode cX7_readClause 84 = .ok (.istore 4, 2) := by decide +kernel
theorem dX7_readClause_86 : decode cX7_readClause 86 = .ok (.iload 4, 2) := by decide +kernel
theorem dX7_readClause_88 : decode cX7_readClause 88 = .ok (.ifCond .ne 9, 3) := by decide +kernel
theorem dX7_readClause_91 : decode cX7_readClause 91 = .ok (.iload_n 2, 1) := by decide +kernel
theorem dX7_readClause_92 : decode cX7_readClause 92 = .ok (.bipush 24, 2) := by decide +kernel
theorem dX7_readClause_94 : decode cX7_readClause 94 = .ok (.if_icmp .lt 9, 3) := by decide +kernel
theorem dX7_readClause_97 : decode cX7_readClause 97 = .ok (.aload_n 1, 1) := by decide +kernel
theorem dX7_readClause_98 : decode cX7_readClause 98 = .ok (.iconst 4, 1) := by decide +kernel
theorem dX7_readClause_99 : decode cX7_readClause 99 = .ok (.invokevirtual 68, 3) := by decide +kernel
theorem dX7_readClause_102 : decode cX7_readClause 102 = .ok (.return_, 1) := by decide +kernel
theorem dX7_readClause_103 : decode cX7_readClause 103 = .ok (.aload_n 1, 1) := by decide +kernel
theorem dX7_readClause_104 : decode cX7_readClause 104 = .ok (.invokevirtual 102, 3) := by decide +kernel
theorem dX7_readClause_107 : decode cX7_readClause 107 = .ok (.iload_n 3, 1) := by decide +kernel
theorem dX7_readClause_108 : decode cX7_readClause 108 = .ok (.sipush 304, 3) := by decide +kernel
theorem dX7_readClause_111 : decode cX7_readClause 111 = .ok (.if_icmp .ne 23, 3) := by decide +kernel
theorem dX7_readClause_114 : decode cX7_readClause 114 = .ok (.aload_n 0, 1) := by decide +kernel
theorem dX7_readClause_115 : decode cX7_readClause 115 = .ok (.iconst 1, 1) := by decide +kernel
theorem dX7_readClause_116 : decode cX7_readClause 116 = .ok (.putfield 95, 3) := by decide +kernel
theorem dX7_readClause_119 : decode cX7_readClause 119 = .ok (.aload_n 0, 1) := by decide +kernel
theorem dX7_readClause_120 : decode cX7_readClause 120 = .ok (.aload_n 1, 1) := by decide +kernel
theorem dX7_readClause_121 : decode cX7_readClause 121 = .ok (.iconst 1, 1) := by decide +kernel
theorem dX7_readClause_122 : decode cX7_readClause 122 = .ok (.sipush 480, 3) := by decide +kernel
theorem dX7_readClause_125 : decode cX7_readClause 125 = .ok (.invokevirtual 105, 3) := by decide +kernel
theorem dX7_readClause_128 : decode cX7_readClause 128 = .ok (.putfield 52, 3) := by decide +kernel
theorem dX7_readClause_131 : decode cX7_readClause 131 = .ok (.goto 23, 3) := by decide +kernel
theorem dX7_readClause_134 : decode cX7_readClause 134 = .ok (.iload_n 3, 1) := by decide +kernel
theorem dX7_readClause_135 : decode cX7_readClause 135 = .ok (.sipush 313, 3) := by decide +kernel
theorem dX7_readClause_138 : decode cX7_readClause 138 = .ok (.if_icmp .ne 11, 3) := by decide +kernel
theorem dX7_readClause_141 : decode cX7_readClause 141 = .ok (.aload_n 0, 1) := by decide +kernel
theorem dX7_readClause_142 : decode cX7_readClause 142 = .ok (.aload_n 1, 1) := by decide +kernel
theorem dX7_readClause_143 : decode cX7_readClause 143 = .ok (.invokevirtual 108, 3) := by decide +kernel
theorem dX7_readClause_146 : decode cX7_readClause 146 = .ok (.goto 8, 3) := by decide +kernel
theorem dX7_readClause_149 : decode cX7_readClause 149 = .ok (.aload_n 0, 1) := by decide +kernel
theorem dX7_readClause_150 : decode cX7_readClause 150 = .ok (.aload_n 1, 1) := by decide +kernel
theorem dX7_readClause_151 : decode cX7_readClause 151 = .ok (.invokevirtual 112, 3) := by decide +kernel
theorem dX7_readClause_154 : decode cX7_readClause 154 = .ok (.return_, 1) := by decide +kernel
theorem dX7_readFault_0 : decode cX7_readFault 0 = .ok (.aload_n 1, 1) := by decide +kernel
theorem dX7_readFault_1 : decode cX7_readFault 1 = .ok (.iconst 0, 1) := by decide +kernel
theorem dX7_readFault_2 : decode cX7_readFault 2 = .ok (.aload_n 0, 1) := by decide +kernel
theorem dX7_readFault_3 : decode cX7_readFault 3 = .ok (.getfield 99, 3) := by decide +kernel
theorem dX7_readFault_6 : decode cX7_readFault 6 = .ok (.iconst 1, 1) := by decide +kernel
theorem dX7_readFault_7 : decode cX7_readFault 7 = .ok (.isub, 1) := by decide +kernel
theorem dX7_readFault_8 : decode cX7_readFault 8 = .ok (.invokevirtual 105, 3) := by decide +kernel
theorem dX7_readFault_11 : decode cX7_readFault 11 = .ok (.istore_n 2, 1) := by decide +kernel
theorem dX7_readFault_12 : decode cX7_readFault 12 = .ok (.aload_n 0, 1) := by decide +kernel
theorem dX7_readFault_13 : decode cX7_readFault 13 = .ok (.getfield 25, 3) := by decide +kernel
theorem dX7_readFault_16 : decode cX7_readFault 16 = .ok (.aload_n 0, 1) := by decide +kernel
theorem dX7_readFault_17 : decode cX7_readFault 17 = .ok (.getfield 65, 3) := by decide +kernel
theorem dX7_readFault_20 : decode cX7_readFault 20 = .ok (.iload_n 2, 1) := by decide +kernel
theorem dX7_readFault_21 : decode cX7_readFault 21 = .ok (.invokestatic 88, 3) := by decide +kernel
theorem dX7_readFault_24 : decode cX7_readFault 24 = .ok (.aload_n 0, 1) := by decide +kernel
theorem dX7_readFault_25 : decode cX7_readFault 25 = .ok (.getfield 28, 3) := by decide +kernel
theorem dX7_readFault_28 : decode cX7_readFault 28 = .ok (.aload_n 0, 1) := by decide +kernel
theorem dX7_readFault_29 : decode cX7_readFault 29 = .ok (.getfield 65, 3) := by decide +kernel
theorem dX7_readFault_32 : decode cX7_readFault 32 = .ok (.aload_n 1, 1) := by decide +kernel
theorem dX7_readFault_33 : decode cX7_readFault 33 = .ok (.iconst 1, 1) := by decide +kernel
theorem dX7_readFault_34 : decode cX7_readFault 34 = .ok (.bipush 99, 2) := by decide +kernel
theorem dX7_readFault_36 : decode cX7_readFault 36 = .ok (.invokevirtual 105, 3) := by decide +kernel
theorem dX7_readFault_39 : decode cX7_readFault 39 = .ok (.invokestatic 88, 3) := by decide +kernel
theorem dX7_readFault_42 : decode cX7_readFault 42 = .ok (.aload_n 0, 1) := by decide +kernel
theorem dX7_readFault_43 : decode cX7_readFault 43 = .ok (.getfield 31, 3) := by decide +kernel
theorem dX7_readFault_46 : decode cX7_readFault 46 = .ok (.aload_n 0, 1) := by decide +kernel
theorem dX7_readFault_47 : decode cX7_readFault 47 = .ok (.getfield 65, 3) := by decide +kernel
theorem dX7_readFault_50 : decode cX7_readFault 50 = .ok (.aload_n 1, 1) := by decide +kernel
theorem dX7_readFault_51 : decode cX7_readFault 51 = .ok (.iconst 0, 1) := by decide +kernel
theorem dX7_readFault_52 : decode cX7_readFault 52 = .ok (.bipush 100, 2) := by decide +kernel
theorem dX7_readFault_54 : decode cX7_readFault 54 = .ok (.invokevirtual 105, 3) := by decide +kernel
theorem dX7_readFault_57 : decode cX7_readFault 57 = .ok (.invokestatic 88, 3) := by decide +kernel
theorem dX7_readFault_60 : decode cX7_readFault 60 = .ok (.aload_n 0, 1) := by decide +kernel
theorem dX7_readFault_61 : decode cX7_readFault 61 = .ok (.getfield 34, 3) := by decide +kernel
theorem dX7_readFault_64 : decode cX7_readFault 64 = .ok (.aload_n 0, 1) := by decide +kernel
theorem dX7_readFault_65 : decode cX7_readFault 65 = .ok (.getfield 65, 3) := by decide +kernel
theorem dX7_readFault_68 : decode cX7_readFault 68 = .ok (.iconst (-1), 1) := by decide +kernel
theorem dX7_readFault_69 : decode cX7_readFault 69 = .ok (.invokestatic 88, 3) := by decide +kernel
theorem dX7_readFault_72 : decode cX7_readFault 72 = .ok (.aload_n 1, 1) := by decide +kernel
theorem dX7_readFault_73 : decode cX7_readFault 73 = .ok (.getfield 115, 3) := by decide +kernel
theorem dX7_readFault_76 : decode cX7_readFault 76 = .ok (.ifCond .ne 39, 3) := by decide +kernel
theorem dX7_readFault_79 : decode cX7_readFault 79 = .ok (.aload_n 1, 1) := by decide +kernel
theorem dX7_readFault_80 : decode cX7_readFault 80 = .ok (.getfield 92, 3) := by decide +kernel
theorem dX7_readFault_83 : decode cX7_readFault 83 = .ok (.sipush 305, 3) := by decide +kernel
theorem dX7_readFault_86 : decode cX7_readFault 86 = .ok (.if_icmp .ne 29, 3) := by decide +kernel
theorem dX7_readFault_89 : decode cX7_readFault 89 = .ok (.aload_n 1, 1) := by decide +kernel
theorem dX7_readFault_90 : decode cX7_readFault 90 = .ok (.invokevirtual 102, 3) := by decide +kernel
theorem dX7_readFault_93 : decode cX7_readFault 93 = .ok (.aload_n 0, 1) := by decide +kernel
theorem dX7_readFault_94 : decode cX7_readFault 94 = .ok (.getfield 34, 3) := by decide +kernel
theorem dX7_readFault_97 : decode cX7_readFault 97 = .ok (.aload_n 0, 1) := by decide +kernel
theorem dX7_readFault_98 : decode cX7_readFault 98 = .ok (.getfield 65, 3) := by decide +kernel
theorem dX7_readFault_101 : decode cX7_readFault 101 = .ok (.aload_n 1, 1) := by decide +kernel
theorem dX7_readFault_102 : decode cX7_readFault 102 = .ok (.iconst 0, 1) := by decide +kernel
theorem dX7_readFault_103 : decode cX7_readFault 103 = .ok (.aload_n 0, 1) := by decide +kernel
theorem dX7_readFault_104 : decode cX7_readFault 104 = .ok (.getfield 65, 3) := by decide +kernel
theorem dX7_readFault_107 : decode cX7_readFault 107 = .ok (.iconst 1, 1) := by decide +kernel
theorem dX7_readFault_108 : decode cX7_readFault 108 = .ok (.isub, 1) := by decide +kernel
theorem dX7_readFault_109 : decode cX7_readFault 109 = .ok (.invokevirtual 105, 3) := by decide +kernel
theorem dX7_readFault_112 : decode cX7_readFault 112 = .ok (.invokestatic 88, 3) := by decide +kernel
theorem dX7_readFault_115 : decode cX7_readFault 115 = .ok (.aload_n 0, 1) := by decide +kernel
theorem dX7_readFault_116 : decode cX7_readFault 116 = .ok (.getfield 37, 3) := by decide +kernel
theorem dX7_readFault_119 : decode cX7_readFault 119 = .ok (.aload_n 0, 1) := by decide +kernel
theorem dX7_readFault_120 : decode cX7_readFault 120 = .ok (.getfield 65, 3) := by decide +kernel
theorem dX7_readFault_123 : decode cX7_readFault 123 = .ok (.aload_n 0, 1) := by decide +kernel
theorem dX7_readFault_124 : decode cX7_readFault 124 = .ok (.getfield 15, 3) := by decide +kernel
theorem dX7_readFault_127 : decode cX7_readFault 127 = .ok (.iload_n 2, 1) := by decide +kernel
theorem dX7_readFault_128 : decode cX7_readFault 128 = .ok (.invokestatic 78, 3) := by decide +kernel
theorem dX7_readFault_131 : decode cX7_readFault 131 = .ok (.invokestatic 88, 3) := by decide +kernel
theorem dX7_readFault_134 : decode cX7_readFault 134 = .ok (.aload_n 0, 1) := by decide +kernel
theorem dX7_readFault_135 : decode cX7_readFault 135 = .ok (.getfield 40, 3) := by decide +kernel
theorem dX7_readFault_138 : decode cX7_readFault 138 = .ok (.aload_n 0, 1) := by decide +kernel
theorem dX7_readFault_139 : decode cX7_readFault 139 = .ok (.getfield 65, 3) := by decide +kernel
theorem dX7_readFault_142 : decode cX7_readFault 142 = .ok (.aload_n 0, 1) := by decide +kernel
theorem dX7_readFault_143 : decode cX7_readFault 143 = .ok (.getfield 19, 3) := by decide +kernel
theorem dX7_readFault_146 : decode cX7_readFault 146 = .ok (.iload_n 2, 1) := by decide +kernel
theorem dX7_readFault_147 : decode cX7_readFault 147 = .ok (.invokestatic 78, 3) := by decide +kernel
theorem dX7_readFault_150 : decode cX7_readFault 150 = .ok (.invokestatic 88, 3) := by decide +kernel
theorem dX7_readFault_153 : decode cX7_readFault 153 = .ok (.aload_n 0, 1) := by decide +kernel
theorem dX7_readFault_154 : decode cX7_readFault 154 = .ok (.getfield 43, 3) := by decide +kernel
theorem dX7_readFault_157 : decode cX7_readFault 157 = .ok (.aload_n 0, 1) := by decide +kernel
theorem dX7_readFault_158 : decode cX7_readFault 158 = .ok (.getfield 65, 3) := by decide +kernel
theorem dX7_readFault_161 : decode cX7_readFault 161 = .ok (.aload_n 0, 1) := by decide +kernel
theorem dX7_readFault_162 : decode cX7_readFault 162 = .ok (.getfield 22, 3) := by decide +kernel
theorem dX7_readFault_165 : decode cX7_readFault 165 = .ok (.iload_n 2, 1) := by decide +kernel
theorem dX7_readFault_166 : decode cX7_readFault 166 = .ok (.invokestatic 78, 3) := by decide +kernel
theorem dX7_readFault_169 : decode cX7_readFault 169 = .ok (.invokestatic 88, 3) := by decide +kernel
theorem dX7_readFault_172 : decode cX7_readFault 172 = .ok (.aload_n 0, 1) := by decide +kernel
theorem dX7_readFault_173 : decode cX7_readFault 173 = .ok (.dup, 1) := by decide +kernel
theorem dX7_readFault_174 : decode cX7_readFault 174 = .ok (.getfield 65, 3) := by decide +kernel
theorem dX7_readFault_177 : decode cX7_readFault 177 = .ok (.iconst 1, 1) := by decide +kernel
theorem dX7_readFault_178 : decode cX7_readFault 178 = .ok (.iadd, 1) := by decide +kernel
theorem dX7_readFault_179 : decode cX7_readFault 179 = .ok (.putfield 65, 3) := by decide +kernel
theorem dX7_readFault_182 : decode cX7_readFault 182 = .ok (.return_, 1) := by decide +kernel
theorem dX7_readFrom_0 : decode cX7_readFrom 0 = .ok (.aload_n 0, 1) := by decide +kernel
theorem dX7_readFrom_1 : decode cX7_readFrom 1 = .ok (.bipush 60, 2) := by decide +kernel
theorem dX7_readFrom_3 : decode cX7_readFrom 3 = .ok (.putfield 52, 3) := by decide +kernel
theorem dX7_readFrom_6 : decode cX7_readFrom 6 = .ok (.iconst 1, 1) := by decide +kernel
theorem dX7_readFrom_7 : decode cX7_readFrom 7 = .ok (.istore_n 2, 1) := by decide +kernel
theorem dX7_readFrom_8 : decode cX7_readFrom 8 = .ok (.iconst 0, 1) := by decide +kernel
theorem dX7_readFrom_9 : decode cX7_readFrom 9 = .ok (.istore_n 3, 1) := by decide +kernel
theorem dX7_readFrom_10 : decode cX7_readFrom 10 = .ok (.iload_n 2, 1) := by decide +kernel
theorem dX7_readFrom_11 : decode cX7_readFrom 11 = .ok (.ifCond .eq 26, 3) := by decide +kernel
theorem dX7_readFrom_14 : decode cX7_readFrom 14 = .ok (.iload_n 3, 1) := by decide +kernel
theorem dX7_readFrom_15 : decode cX7_readFrom 15 = .ok (.bipush 24, 2) := by decide +kernel
theorem dX7_readFrom_17 : decode cX7_readFrom 17 = .ok (.if_icmp .gt 20, 3) := by decide +kernel
theorem dX7_readFrom_20 : decode cX7_readFrom 20 = .ok (.aload_n 0, 1) := by decide +kernel
theorem dX7_readFrom_21 : decode cX7_readFrom 21 = .ok (.aload_n 1, 1) := by decide +kernel
theorem dX7_readFrom_22 : decode cX7_readFrom 22 = .ok (.iload_n 3, 1) := by decide +kernel
theorem dX7_readFrom_23 : decode cX7_readFrom 23 = .ok (.invokevirtual 55, 3) := by decide +kernel
theorem dX7_readFrom_26 : decode cX7_readFrom 26 = .ok (.aload_n 1, 1) := by decide +kernel
theorem dX7_readFrom_27 : decode cX7_readFrom 27 = .ok (.invokevirtual 59, 3) := by decide +kernel
theorem dX7_readFrom_30 : decode cX7_readFrom 30 = .ok (.istore_n 2, 1) := by decide +kernel
theorem dX7_readFrom_31 : decode cX7_readFrom 31 = .ok (.iinc 3 1, 3) := by decide +kernel
theorem dX7_readFrom_34 : decode cX7_readFrom 34 = .ok (.goto (-24), 3) := by decide +kernel
theorem dX7_readFrom_37 : decode cX7_readFrom 37 = .ok (.aload_n 0, 1) := by decide +kernel
theorem dX7_readFrom_38 : decode cX7_readFrom 38 = .ok (.getfield 65, 3) := by decide +kernel
theorem dX7_readFrom_41 : decode cX7_readFrom 41 = .ok (.ifCond .ne 8, 3) := by decide +kernel
theorem dX7_readFrom_44 : decode cX7_readFrom 44 = .ok (.aload_n 1, 1) := by decide +kernel
theorem dX7_readFrom_45 : decode cX7_readFrom 45 = .ok (.iconst 0, 1) := by decide +kernel
theorem dX7_readFrom_46 : decode cX7_readFrom 46 = .ok (.invokevirtual 68, 3) := by decide +kernel
theorem dX7_readFrom_49 : decode cX7_readFrom 49 = .ok (.aload_n 0, 1) := by decide +kernel
theorem dX7_readFrom_50 : decode cX7_readFrom 50 = .ok (.invokevirtual 72, 3) := by decide +kernel
theorem dX7_readFrom_53 : decode cX7_readFrom 53 = .ok (.return_, 1) := by decide +kernel
theorem dX7_readKind_0 : decode cX7_readKind 0 = .ok (.aload_n 0, 1) := by decide +kernel
theorem dX7_readKind_1 : decode cX7_readKind 1 = .ok (.getfield 15, 3) := by decide +kernel
theorem dX7_readKind_4 : decode cX7_readKind 4 = .ok (.aload_n 0, 1) := by decide +kernel
theorem dX7_readKind_5 : decode cX7_readKind 5 = .ok (.getfield 99, 3) := by decide +kernel
theorem dX7_readKind_8 : decode cX7_readKind 8 = .ok (.aload_n 1, 1) := by decide +kernel
theorem dX7_readKind_9 : decode cX7_readKind 9 = .ok (.iconst 0, 1) := by decide +kernel
theorem dX7_readKind_10 : decode cX7_readKind 10 = .ok (.bipush 99, 2) := by decide +kernel
theorem dX7_readKind_12 : decode cX7_readKind 12 = .ok (.invokevirtual 105, 3) := by decide +kernel
theorem dX7_readKind_15 : decode cX7_readKind 15 = .ok (.invokestatic 88, 3) := by decide +kernel
theorem dX7_readKind_18 : decode cX7_readKind 18 = .ok (.aload_n 0, 1) := by decide +kernel
theorem dX7_readKind_19 : decode cX7_readKind 19 = .ok (.getfield 19, 3) := by decide +kernel
theorem dX7_readKind_22 : decode cX7_readKind 22 = .ok (.aload_n 0, 1) := by decide +kernel
theorem dX7_readKind_23 : decode cX7_readKind 23 = .ok (.getfield 99, 3) := by decide +kernel
theorem dX7_readKind_26 : decode cX7_readKind 26 = .ok (.aload_n 1, 1) := by decide +kernel
theorem dX7_readKind_27 : decode cX7_readKind 27 = .ok (.iconst 0, 1) := by decide +kernel
theorem dX7_readKind_28 : decode cX7_readKind 28 = .ok (.bipush 99, 2) := by decide +kernel
theorem dX7_readKind_30 : decode cX7_readKind 30 = .ok (.invokevirtual 105, 3) := by decide +kernel
theorem dX7_readKind_33 : decode cX7_readKind 33 = .ok (.invokestatic 88, 3) := by decide +kernel
theorem dX7_readKind_36 : decode cX7_readKind 36 = .ok (.aload_n 0, 1) := by decide +kernel
theorem dX7_readKind_37 : decode cX7_readKind 37 = .ok (.getfield 22, 3) := by decide +kernel
theorem dX7_readKind_40 : decode cX7_readKind 40 = .ok (.aload_n 0, 1) := by decide +kernel
theorem dX7_readKind_41 : decode cX7_readKind 41 = .ok (.getfield 99, 3) := by decide +kernel
theorem dX7_readKind_44 : decode cX7_readKind 44 = .ok (.aload_n 1, 1) := by decide +kernel
theorem dX7_readKind_45 : decode cX7_readKind 45 = .ok (.iconst 0, 1) := by decide +kernel
theorem dX7_readKind_46 : decode cX7_readKind 46 = .ok (.bipush 99, 2) := by decide +kernel
theorem dX7_readKind_48 : decode cX7_readKind 48 = .ok (.invokevirtual 105, 3) := by decide +kernel
theorem dX7_readKind_51 : decode cX7_readKind 51 = .ok (.invokestatic 88, 3) := by decide +kernel
theorem dX7_readKind_54 : decode cX7_readKind 54 = .ok (.aload_n 0, 1) := by decide +kernel
theorem dX7_readKind_55 : decode cX7_readKind 55 = .ok (.dup, 1) := by decide +kernel
theorem dX7_readKind_56 : decode cX7_readKind 56 = .ok (.getfield 99, 3) := by decide +kernel
theorem dX7_readKind_59 : decode cX7_readKind 59 = .ok (.iconst 1, 1) := by decide +kernel
theorem dX7_readKind_60 : decode cX7_readKind 60 = .ok (.iadd, 1) := by decide +kernel
theorem dX7_readKind_61 : decode cX7_readKind 61 = .ok (.putfield 99, 3) := by decide +kernel
theorem dX7_readKind_64 : decode cX7_readKind 64 = .ok (.return_, 1) := by decide +kernel
theorem dX7_together_0 : decode cX7_together 0 = .ok (.iconst 0, 1) := by decide +kernel
theorem dX7_together_1 : decode cX7_together 1 = .ok (.istore_n 3, 1) := by decide +kernel
theorem dX7_together_2 : decode cX7_together 2 = .ok (.iconst 0, 1) := by decide +kernel
theorem dX7_together_3 : decode cX7_together 3 = .ok (.istore 4, 2) := by decide +kernel
theorem dX7_together_5 : decode cX7_together 5 = .ok (.iload 4, 2) := by decide +kernel
theorem dX7_together_7 : decode cX7_together 7 = .ok (.aload_n 0, 1) := by decide +kernel
theorem dX7_together_8 : decode cX7_together 8 = .ok (.getfield 65, 3) := by decide +kernel
theorem dX7_together_11 : decode cX7_together 11 = .ok (.if_icmp .ge 27, 3) := by decide +kernel
theorem dX7_together_14 : decode cX7_together 14 = .ok (.iload_n 2, 1) := by decide +kernel
theorem dX7_together_15 : decode cX7_together 15 = .ok (.iload 4, 2) := by decide +kernel
theorem dX7_together_17 : decode cX7_together 17 = .ok (.invokestatic 125, 3) := by decide +kernel
theorem dX7_together_20 : decode cX7_together 20 = .ok (.ifCond .eq 12, 3) := by decide +kernel
theorem dX7_together_23 : decode cX7_together 23 = .ok (.iload_n 3, 1) := by decide +kernel
theorem dX7_together_24 : decode cX7_together 24 = .ok (.aload_n 1, 1) := by decide +kernel
theorem dX7_together_25 : decode cX7_together 25 = .ok (.iload 4, 2) := by decide +kernel
theorem dX7_together_27 : decode cX7_together 27 = .ok (.invokestatic 78, 3) := by decide +kernel
theorem dX7_together_30 : decode cX7_together 30 = .ok (.iadd, 1) := by decide +kernel
theorem dX7_together_31 : decode cX7_together 31 = .ok (.istore_n 3, 1) := by decide +kernel
theorem dX7_together_32 : decode cX7_together 32 = .ok (.iinc 4 1, 3) := by decide +kernel
theorem dX7_together_35 : decode cX7_together 35 = .ok (.goto (-30), 3) := by decide +kernel
theorem dX7_together_38 : decode cX7_together 38 = .ok (.iload_n 3, 1) := by decide +kernel
theorem dX7_together_39 : decode cX7_together 39 = .ok (.ireturn, 1) := by decide +kernel
theorem dX8_at_0 : decode cX8_at 0 = .ok (.iload_n 1, 1) := by decide +kernel
theorem dX8_at_1 : decode cX8_at 1 = .ok (.ifCond .lt 15, 3) := by decide +kernel
theorem dX8_at_4 : decode cX8_at 4 = .ok (.iload_n 1, 1) := by decide +kernel
theorem dX8_at_5 : decode cX8_at 5 = .ok (.aload_n 0, 1) := by decide +kernel
theorem dX8_at_6 : decode cX8_at 6 = .ok (.arraylength, 1) := by decide +kernel
theorem dX8_at_7 : decode cX8_at 7 = .ok (.if_icmp .ge 9, 3) := by decide +kernel
theorem dX8_at_10 : decode cX8_at 10 = .ok (.aload_n 0, 1) := by decide +kernel
theorem dX8_at_11 : decode cX8_at 11 = .ok (.iload_n 1, 1) := by decide +kernel
theorem dX8_at_12 : decode cX8_at 12 = .ok (.iaload, 1) := by decide +kernel
theorem dX8_at_13 : decode cX8_at 13 = .ok (.goto 4, 3) := by decide +kernel
theorem dX8_at_16 : decode cX8_at 16 = .ok (.iconst 0, 1) := by decide +kernel
theorem dX8_at_17 : decode cX8_at 17 = .ok (.ireturn, 1) := by decide +kernel
theorem dX8_back_0 : decode cX8_back 0 = .ok (.iload_n 1, 1) := by decide +kernel
theorem dX8_back_1 : decode cX8_back 1 = .ok (.ifCond .lt 12, 3) := by decide +kernel
theorem dX8_back_4 : decode cX8_back 4 = .ok (.iload_n 1, 1) := by decide +kernel
theorem dX8_back_5 : decode cX8_back 5 = .ok (.aload_n 0, 1) := by decide +kernel
theorem dX8_back_6 : decode cX8_back 6 = .ok (.getfield 43, 3) := by decide +kernel
theorem dX8_back_9 : decode cX8_back 9 = .ok (.arraylength, 1) := by decide +kernel
theorem dX8_back_10 : decode cX8_back 10 = .ok (.if_icmp .lt 5, 3) := by decide +kernel
theorem dX8_back_13 : decode cX8_back 13 = .ok (.iconst (-1), 1) := by decide +kernel
theorem dX8_back_14 : decode cX8_back 14 = .ok (.ireturn, 1) := by decide +kernel
theorem dX8_back_15 : decode cX8_back 15 = .ok (.aload_n 0, 1) := by decide +kernel
theorem dX8_back_16 : decode cX8_back 16 = .ok (.getfield 43, 3) := by decide +kernel
theorem dX8_back_19 : decode cX8_back 19 = .ok (.iload_n 1, 1) := by decide +kernel
theorem dX8_back_20 : decode cX8_back 20 = .ok (.aaload, 1) := by decide +kernel
theorem dX8_back_21 : decode cX8_back 21 = .ok (.astore_n 2, 1) := by decide +kernel
theorem dX8_back_22 : decode cX8_back 22 = .ok (.aload_n 2, 1) := by decide +kernel
theorem dX8_back_23 : decode cX8_back 23 = .ok (.ifnonnull 5, 3) := by decide +kernel
theorem dX8_back_26 : decode cX8_back 26 = .ok (.iconst (-1), 1) := by decide +kernel
theorem dX8_back_27 : decode cX8_back 27 = .ok (.ireturn, 1) := by decide +kernel
theorem dX8_back_28 : decode cX8_back 28 = .ok (.aload_n 0, 1) := by decide +kernel
theorem dX8_back_29 : decode cX8_back 29 = .ok (.getfield 39, 3) := by decide +kernel
theorem dX8_back_32 : decode cX8_back 32 = .ok (.aload_n 2, 1) := by decide +kernel
theorem dX8_back_33 : decode cX8_back 33 = .ok (.invokevirtual 300, 3) := by decide +kernel
theorem dX8_back_36 : decode cX8_back 36 = .ok (.aload_n 0, 1) := by decide +kernel
theorem dX8_back_37 : decode cX8_back 37 = .ok (.getfield 39, 3) := by decide +kernel
theorem dX8_back_40 : decode cX8_back 40 = .ok (.getfield 193, 3) := by decide +kernel
theorem dX8_back_43 : decode cX8_back 43 = .ok (.ireturn, 1) := by decide +kernel
theorem dX8_best_0 : decode cX8_best 0 = .ok (.aload_n 0, 1) := by decide +kernel
theorem dX8_best_1 : decode cX8_best 1 = .ok (.invokevirtual 213, 3) := by decide +kernel
theorem dX8_best_4 : decode cX8_best 4 = .ok (.ifCond .eq 21, 3) := by decide +kernel
theorem dX8_best_7 : decode cX8_best 7 = .ok (.iload_n 1, 1) := by decide +kernel
theorem dX8_best_8 : decode cX8_best 8 = .ok (.ifCond .lt 17, 3) := by decide +kernel
theorem dX8_best_11 : decode cX8_best 11 = .ok (.iload_n 1, 1) := by decide +kernel
theorem dX8_best_12 : decode cX8_best 12 = .ok (.iconst 5, 1) := by decide +kernel
theorem dX8_best_13 : decode cX8_best 13 = .ok (.if_icmp .gt 12, 3) := by decide +kernel
theorem dX8_best_16 : decode cX8_best 16 = .ok (.iload_n 2, 1) := by decide +kernel
theorem dX8_best_17 : decode cX8_best 17 = .ok (.ifCond .lt 8, 3) := by decide +kernel
theorem dX8_best_20 : decode cX8_best 20 = .ok (.iload_n 2, 1) := by decide +kernel
theorem dX8_best_21 : decode cX8_best 21 = .ok (.iconst 2, 1) := by decide +kernel
theorem dX8_best_22 : decode cX8_best 22 = .ok (.if_icmp .le 7, 3) := by decide +kernel
theorem dX8_best_25 : decode cX8_best 25 = .ok (.ldc2_w 243, 3) := by decide +kernel
theorem dX8_best_28 : decode cX8_best 28 = .ok (.lreturn, 1) := by decide +kernel
theorem dX8_best_29 : decode cX8_best 29 = .ok (.aload_n 0, 1) := by decide +kernel
theorem dX8_best_30 : decode cX8_best 30 = .ok (.getfield 39, 3) := by decide +kernel
theorem dX8_best_33 : decode cX8_best 33 = .ok (.getfield 143, 3) := by decide +kernel
theorem dX8_best_36 : decode cX8_best 36 = .ok (.invokevirtual 171, 3) := by decide +kernel
theorem dX8_best_39 : decode cX8_best 39 = .ok (.istore_n 3, 1) := by decide +kernel
theorem dX8_best_40 : decode cX8_best 40 = .ok (.iload_n 2, 1) := by decide +kernel
theorem dX8_best_41 : decode cX8_best 41 = .ok (.iconst 2, 1) := by decide +kernel
theorem dX8_best_42 : decode cX8_best 42 = .ok (.if_icmp .ne 31, 3) := by decide +kernel
theorem dX8_best_45 : decode cX8_best 45 = .ok (.aload_n 0, 1) := by decide +kernel
theorem dX8_best_46 : decode cX8_best 46 = .ok (.getfield 71, 3) := by decide +kernel
theorem dX8_best_49 : decode cX8_best 49 = .ok (.aload_n 0, 1) := by decide +kernel
theorem dX8_best_50 : decode cX8_best 50 = .ok (.getfield 39, 3) := by decide +kernel
theorem dX8_best_53 : decode cX8_best 53 = .ok (.getfield 119, 3) := by decide +kernel
theorem dX8_best_56 : decode cX8_best 56 = .ok (.iload_n 1, 1) := by decide +kernel
theorem dX8_best_57 : decode cX8_best 57 = .ok (.iload_n 3, 1) := by decide +kernel
theorem dX8_best_58 : decode cX8_best 58 = .ok (.aload_n 0, 1) := by decide +kernel
theorem dX8_best_59 : decode cX8_best 59 = .ok (.getfield 39, 3) := by decide +kernel
theorem dX8_best_62 : decode cX8_best 62 = .ok (.getfield 143, 3) := by decide +kernel
theorem dX8_best_65 : decode cX8_best 65 = .ok (.getfield 178, 3) := by decide +kernel
theorem dX8_best_68 : decode cX8_best 68 = .ok (.invokevirtual 262, 3) := by decide +kernel
theorem dX8_best_71 : decode cX8_best 71 = .ok (.i2l, 1) := by decide +kernel
theorem dX8_best_72 : decode cX8_best 72 = .ok (.lreturn, 1) := by decide +kernel
theorem dX8_best_73 : decode cX8_best 73 = .ok (.aload_n 0, 1) := by decide +kernel
theorem dX8_best_74 : decode cX8_best 74 = .ok (.getfield 71, 3) := by decide +kernel
theorem dX8_best_77 : decode cX8_best 77 = .ok (.aload_n 0, 1) := by decide +kernel
theorem dX8_best_78 : decode cX8_best 78 = .ok (.getfield 39, 3) := by decide +kernel
theorem dX8_best_81 : decode cX8_best 81 = .ok (.getfield 119, 3) := by decide +kernel
theorem dX8_best_84 : decode cX8_best 84 = .ok (.iload_n 1, 1) := by decide +kernel
theorem dX8_best_85 : decode cX8_best 85 = .ok (.iload_n 3, 1) := by decide +kernel
theorem dX8_best_86 : decode cX8_best 86 = .ok (.aload_n 0, 1) := by decide +kernel
theorem dX8_best_87 : decode cX8_best 87 = .ok (.getfield 39, 3) := by decide +kernel
theorem dX8_best_90 : decode cX8_best 90 = .ok (.getfield 143, 3) := by decide +kernel
theorem dX8_best_93 : decode cX8_best 93 = .ok (.getfield 178, 3) := by decide +kernel
theorem dX8_best_96 : decode cX8_best 96 = .ok (.invokevirtual 266, 3) := by decide +kernel
theorem dX8_best_99 : decode cX8_best 99 = .ok (.iload_n 1, 1) := by decide +kernel
theorem dX8_best_100 : decode cX8_best 100 = .ok (.invokestatic 249, 3) := by decide +kernel
theorem dX8_best_103 : decode cX8_best 103 = .ok (.iload_n 2, 1) := by decide +kernel
theorem dX8_best_104 : decode cX8_best 104 = .ok (.invokestatic 253, 3) := by decide +kernel
theorem dX8_best_107 : decode cX8_best 107 = .ok (.lreturn, 1) := by decide +kernel
theorem dX8_bit_0 : decode cX8_bit 0 = .ok (.iconst 1, 1) := by decide +kernel
theorem dX8_bit_1 : decode cX8_bit 1 = .ok (.iload_n 0, 1) := by decide +kernel
theorem dX8_bit_2 : decode cX8_bit 2 = .ok (.ishl, 1) := by decide +kernel
theorem dX8_bit_3 : decode cX8_bit 3 = .ok (.ireturn, 1) := by decide +kernel
theorem dX8_checks_0 : decode cX8_checks 0 = .ok (.iload_n 1, 1) := by decide +kernel
theorem dX8_checks_1 : decode cX8_checks 1 = .ok (.ifCond .lt 21, 3) := by decide +kernel
theorem dX8_checks_4 : decode cX8_checks 4 = .ok (.iload_n 1, 1) := by decide +kernel
theorem dX8_checks_5 : decode cX8_checks 5 = .ok (.sipush 9999, 3) := by decide +kernel
theorem dX8_checks_8 : decode cX8_checks 8 = .ok (.if_icmp .gt 14, 3) := by decide +kernel
theorem dX8_checks_11 : decode cX8_checks 11 = .ok (.iload_n 2, 1) := by decide +kernel
theorem dX8_checks_12 : decode cX8_checks 12 = .ok (.ifCond .lt 10, 3) := by decide +kernel
theorem dX8_checks_15 : decode cX8_checks 15 = .ok (.iload_n 2, 1) := by decide +kernel
theorem dX8_checks_16 : decode cX8_checks 16 = .ok (.sipush 9999, 3) := by decide +kernel
theorem dX8_checks_19 : decode cX8_checks 19 = .ok (.if_icmp .le 5, 3) := by decide +kernel
theorem dX8_checks_22 : decode cX8_checks 22 = .ok (.iconst (-1), 1) := by decide +kernel
theorem dX8_checks_23 : decode cX8_checks 23 = .ok (.ireturn, 1) := by decide +kernel
theorem dX8_checks_24 : decode cX8_checks 24 = .ok (.iconst 0, 1) := by decide +kernel
theorem dX8_checks_25 : decode cX8_checks 25 = .ok (.istore_n 3, 1) := by decide +kernel
theorem dX8_checks_26 : decode cX8_checks 26 = .ok (.iload_n 3, 1) := by decide +kernel
theorem dX8_checks_27 : decode cX8_checks 27 = .ok (.bipush 100, 2) := by decide +kernel
theorem dX8_checks_29 : decode cX8_checks 29 = .ok (.if_icmp .ge 21, 3) := by decide +kernel
theorem dX8_checks_32 : decode cX8_checks 32 = .ok (.iload_n 1, 1) := by decide +kernel
theorem dX8_checks_33 : decode cX8_checks 33 = .ok (.bipush 100, 2) := by decide +kernel
theorem dX8_checks_35 : decode cX8_checks 35 = .ok (.iload_n 3, 1) := by decide +kernel
theorem dX8_checks_36 : decode cX8_checks 36 = .ok (.isub, 1) := by decide +kernel
theorem dX8_checks_37 : decode cX8_checks 37 = .ok (.imul, 1) := by decide +kernel
theorem dX8_checks_38 : decode cX8_checks 38 = .ok (.iload_n 2, 1) := by decide +kernel
theorem dX8_checks_39 : decode cX8_checks 39 = .ok (.iload_n 3, 1) := by decide +kernel
theorem dX8_checks_40 : decode cX8_checks 40 = .ok (.imul, 1) := by decide +kernel
theorem dX8_checks_41 : decode cX8_checks 41 = .ok (.if_icmp .le 9, 3) := by decide +kernel
theorem dX8_checks_44 : decode cX8_checks 44 = .ok (.iinc 3 1, 3) := by decide +kernel
theorem dX8_checks_47 : decode cX8_checks 47 = .ok (.goto (-21), 3) := by decide +kernel
theorem dX8_checks_50 : decode cX8_checks 50 = .ok (.iload_n 3, 1) := by decide +kernel
theorem dX8_checks_51 : decode cX8_checks 51 = .ok (.ireturn, 1) := by decide +kernel
theorem dX8_coins_0 : decode cX8_coins 0 = .ok (.iload_n 1, 1) := by decide +kernel
theorem dX8_coins_1 : decode cX8_coins 1 = .ok (.tableswitch 54 0 2 #[27, 38, 46], 27) := by decide +kernel
theorem dX8_coins_28 : decode cX8_coins 28 = .ok (.aload_n 0, 1) := by decide +kernel
theorem dX8_coins_29 : decode cX8_coins 29 = .ok (.getfield 39, 3) := by decide +kernel
theorem dX8_coins_32 : decode cX8_coins 32 = .ok (.getfield 143, 3) := by decide +kernel
theorem dX8_coins_35 : decode cX8_coins 35 = .ok (.getfield 199, 3) := by decide +kernel
theorem dX8_coins_38 : decode cX8_coins 38 = .ok (.ireturn, 1) := by decide +kernel
theorem dX8_coins_39 : decode cX8_coins 39 = .ok (.aload_n 0, 1) := by decide +kernel
theorem dX8_coins_40 : decode cX8_coins 40 = .ok (.getfield 39, 3) := by decide +kernel
theorem dX8_coins_43 : decode cX8_coins 43 = .ok (.getfield 202, 3) := by decide +kernel
theorem dX8_coins_46 : decode cX8_coins 46 = .ok (.ireturn, 1) := by decide +kernel
theorem dX8_coins_47 : decode cX8_coins 47 = .ok (.aload_n 0, 1) := by decide +kernel
theorem dX8_coins_48 : decode cX8_coins 48 = .ok (.getfield 39, 3) := by decide +kernel
theorem dX8_coins_51 : decode cX8_coins 51 = .ok (.getfield 205, 3) := by decide +kernel
theorem dX8_coins_54 : decode cX8_coins 54 = .ok (.ireturn, 1) := by decide +kernel
theorem dX8_coins_55 : decode cX8_coins 55 = .ok (.ldc 208, 2) := by decide +kernel
theorem dX8_coins_57 : decode cX8_coins 57 = .ok (.ireturn, 1) := by decide +kernel
theorem dX8_count_0 : decode cX8_count 0 = .ok (.iload_n 1, 1) := by decide +kernel
theorem dX8_count_1 : decode cX8_count 1 = .ok (.tableswitch 168 0 10 #[59, 70, 81, 86, 97, 111, 125, 133, 144, 149, 157], 59) := by decide +kernel
theorem dX8_count_60 : decode cX8_count 60 = .ok (.aload_n 0, 1) := by decide +kernel
theorem dX8_count_61 : decode cX8_count 61 = .ok (.getfield 39, 3) := by decide +kernel
theorem dX8_count_64 : decode cX8_count 64 = .ok (.getfield 119, 3) := by decide +kernel
theorem dX8_count_67 : decode cX8_count 67 = .ok (.getfield 102, 3) := by decide +kernel
theorem dX8_count_70 : decode cX8_count 70 = .ok (.ireturn, 1) := by decide +kernel
theorem dX8_count_71 : decode cX8_count 71 = .ok (.aload_n 0, 1) := by decide +kernel
theorem dX8_count_72 : decode cX8_count 72 = .ok (.getfield 39, 3) := by decide +kernel
theorem dX8_count_75 : decode cX8_count 75 = .ok (.getfield 119, 3) := by decide +kernel
theorem dX8_count_78 : decode cX8_count 78 = .ok (.getfield 123, 3) := by decide +kernel
theorem dX8_count_81 : decode cX8_count 81 = .ok (.ireturn, 1) := by decide +kernel
theorem dX8_count_82 : decode cX8_count 82 = .ok (.aload_n 0, 1) := by decide +kernel
theorem dX8_count_83 : decode cX8_count 83 = .ok (.getfield 23, 3) := by decide +kernel
theorem dX8_count_86 : decode cX8_count 86 = .ok (.ireturn, 1) := by decide +kernel
theorem dX8_count_87 : decode cX8_count 87 = .ok (.aload_n 0, 1) := by decide +kernel
theorem dX8_count_88 : decode cX8_count 88 = .ok (.getfield 39, 3) := by decide +kernel
theorem dX8_count_91 : decode cX8_count 91 = .ok (.getfield 143, 3) := by decide +kernel
theorem dX8_count_94 : decode cX8_count 94 = .ok (.getfield 178, 3) := by decide +kernel
theorem dX8_count_97 : decode cX8_count 97 = .ok (.ireturn, 1) := by decide +kernel
theorem dX8_count_98 : decode cX8_count 98 = .ok (.aload_n 0, 1) := by decide +kernel
theorem dX8_count_99 : decode cX8_count 99 = .ok (.getfield 39, 3) := by decide +kernel
theorem dX8_count_102 : decode cX8_count 102 = .ok (.getfield 143, 3) := by decide +kernel
theorem dX8_count_105 : decode cX8_count 105 = .ok (.getfield 158, 3) := by decide +kernel
theorem dX8_count_108 : decode cX8_count 108 = .ok (.invokestatic 181, 3) := by decide +kernel
theorem dX8_count_111 : decode cX8_count 111 = .ok (.ireturn, 1) := by decide +kernel
theorem dX8_count_112 : decode cX8_count 112 = .ok (.aload_n 0, 1) := by decide +kernel
theorem dX8_count_113 : decode cX8_count 113 = .ok (.getfield 39, 3) := by decide +kernel
theorem dX8_count_116 : decode cX8_count 116 = .ok (.getfield 143, 3) := by decide +kernel
theorem dX8_count_119 : decode cX8_count 119 = .ok (.getfield 165, 3) := by decide +kernel
theorem dX8_count_122 : decode cX8_count 122 = .ok (.invokestatic 181, 3) := by decide +kernel
theorem dX8_count_125 : decode cX8_count 125 = .ok (.ireturn, 1) := by decide +kernel
theorem dX8_count_126 : decode cX8_count 126 = .ok (.aload_n 0, 1) := by decide +kernel
theorem dX8_count_127 : decode cX8_count 127 = .ok (.getfield 39, 3) := by decide +kernel
theorem dX8_count_130 : decode cX8_count 130 = .ok (.getfield 187, 3) := by decide +kernel
theorem dX8_count_133 : decode cX8_count 133 = .ok (.ireturn, 1) := by decide +kernel
theorem dX8_count_134 : decode cX8_count 134 = .ok (.aload_n 0, 1) := by decide +kernel
theorem dX8_count_135 : decode cX8_count 135 = .ok (.getfield 39, 3) := by decide +kernel
theorem dX8_count_138 : decode cX8_count 138 = .ok (.getfield 143, 3) := by decide +kernel
theorem dX8_count_141 : decode cX8_count 141 = .ok (.getfield 190, 3) := by decide +kernel
theorem dX8_count_144 : decode cX8_count 144 = .ok (.ireturn, 1) := by decide +kernel
theorem dX8_count_145 : decode cX8_count 145 = .ok (.aload_n 0, 1) := by decide +kernel
theorem dX8_count_146 : decode cX8_count 146 = .ok (.getfield 13, 3) := by decide +kernel
theorem dX8_count_149 : decode cX8_count 149 = .ok (.ireturn, 1) := by decide +kernel
theorem dX8_count_150 : decode cX8_count 150 = .ok (.aload_n 0, 1) := by decide +kernel
theorem dX8_count_151 : decode cX8_count 151 = .ok (.getfield 39, 3) := by decide +kernel
theorem dX8_count_154 : decode cX8_count 154 = .ok (.getfield 193, 3) := by decide +kernel
theorem dX8_count_157 : decode cX8_count 157 = .ok (.ireturn, 1) := by decide +kernel
theorem dX8_count_158 : decode cX8_count 158 = .ok (.aload_n 0, 1) := by decide +kernel
theorem dX8_count_159 : decode cX8_count 159 = .ok (.getfield 39, 3) := by decide +kernel
theorem dX8_count_162 : decode cX8_count 162 = .ok (.getfield 119, 3) := by decide +kernel
theorem dX8_count_165 : decode cX8_count 165 = .ok (.getfield 196, 3) := by decide +kernel
theorem dX8_count_168 : decode cX8_count 168 = .ok (.ireturn, 1) := by decide +kernel
theorem dX8_count_169 : decode cX8_count 169 = .ok (.iconst (-1), 1) := by decide +kernel
theorem dX8_count_170 : decode cX8_count 170 = .ok (.ireturn, 1) := by decide +kernel
theorem dX8_dawn_0 : decode cX8_dawn 0 = .ok (.aload_n 0, 1) := by decide +kernel
theorem dX8_dawn_1 : decode cX8_dawn 1 = .ok (.invokevirtual 213, 3) := by decide +kernel
theorem dX8_dawn_4 : decode cX8_dawn 4 = .ok (.ifCond .ne 6, 3) := by decide +kernel
theorem dX8_dawn_7 : decode cX8_dawn 7 = .ok (.ldc 208, 2) := by decide +kernel
theorem dX8_dawn_9 : decode cX8_dawn 9 = .ok (.ireturn, 1) := by decide +kernel
theorem dX8_dawn_10 : decode cX8_dawn 10 = .ok (.aload_n 0, 1) := by decide +kernel
theorem dX8_dawn_11 : decode cX8_dawn 11 = .ok (.getfield 39, 3) := by decide +kernel
theorem dX8_dawn_14 : decode cX8_dawn 14 = .ok (.dup, 1) := by decide +kernel
theorem dX8_dawn_15 : decode cX8_dawn 15 = .ok (.getfield 202, 3) := by decide +kernel
theorem dX8_dawn_18 : decode cX8_dawn 18 = .ok (.aload_n 0, 1) := by decide +kernel
theorem dX8_dawn_19 : decode cX8_dawn 19 = .ok (.getfield 39, 3) := by decide +kernel
theorem dX8_dawn_22 : decode cX8_dawn 22 = .ok (.getfield 119, 3) := by decide +kernel
theorem dX8_dawn_25 : decode cX8_dawn 25 = .ok (.aload_n 0, 1) := by decide +kernel
theorem dX8_dawn_26 : decode cX8_dawn 26 = .ok (.getfield 39, 3) := by decide +kernel
theorem dX8_dawn_29 : decode cX8_dawn 29 = .ok (.getfield 143, 3) := by decide +kernel
theorem dX8_dawn_32 : decode cX8_dawn 32 = .ok (.invokevirtual 171, 3) := by decide +kernel
theorem dX8_dawn_35 : decode cX8_dawn 35 = .ok (.invokevirtual 222, 3) := by decide +kernel
theorem dX8_dawn_38 : decode cX8_dawn 38 = .ok (.iadd, 1) := by decide +kernel
theorem dX8_dawn_39 : decode cX8_dawn 39 = .ok (.putfield 202, 3) := by decide +kernel
theorem dX8_dawn_42 : decode cX8_dawn 42 = .ok (.aload_n 0, 1) := by decide +kernel
theorem dX8_dawn_43 : decode cX8_dawn 43 = .ok (.getfield 39, 3) := by decide +kernel
theorem dX8_dawn_46 : decode cX8_dawn 46 = .ok (.dup, 1) := by decide +kernel
theorem dX8_dawn_47 : decode cX8_dawn 47 = .ok (.getfield 205, 3) := by decide +kernel
theorem dX8_dawn_50 : decode cX8_dawn 50 = .ok (.aload_n 0, 1) := by decide +kernel
theorem dX8_dawn_51 : decode cX8_dawn 51 = .ok (.getfield 39, 3) := by decide +kernel
theorem dX8_dawn_54 : decode cX8_dawn 54 = .ok (.getfield 143, 3) := by decide +kernel
theorem dX8_dawn_57 : decode cX8_dawn 57 = .ok (.getfield 199, 3) := by decide +kernel
theorem dX8_dawn_60 : decode cX8_dawn 60 = .ok (.iadd, 1) := by decide +kernel
theorem dX8_dawn_61 : decode cX8_dawn 61 = .ok (.putfield 205, 3) := by decide +kernel
theorem dX8_dawn_64 : decode cX8_dawn 64 = .ok (.aload_n 0, 1) := by decide +kernel
theorem dX8_dawn_65 : decode cX8_dawn 65 = .ok (.getfield 39, 3) := by decide +kernel
theorem dX8_dawn_68 : decode cX8_dawn 68 = .ok (.dup, 1) := by decide +kernel
theorem dX8_dawn_69 : decode cX8_dawn 69 = .ok (.getfield 193, 3) := by decide +kernel
theorem dX8_dawn_72 : decode cX8_dawn 72 = .ok (.iconst 1, 1) := by decide +kernel
theorem dX8_dawn_73 : decode cX8_dawn 73 = .ok (.iadd, 1) := by decide +kernel
theorem dX8_dawn_74 : decode cX8_dawn 74 = .ok (.putfield 193, 3) := by decide +kernel
theorem dX8_dawn_77 : decode cX8_dawn 77 = .ok (.aload_n 0, 1) := by decide +kernel
theorem dX8_dawn_78 : decode cX8_dawn 78 = .ok (.getfield 39, 3) := by decide +kernel
theorem dX8_dawn_81 : decode cX8_dawn 81 = .ok (.getfield 143, 3) := by decide +kernel
theorem dX8_dawn_84 : decode cX8_dawn 84 = .ok (.aload_n 0, 1) := by decide +kernel
theorem dX8_dawn_85 : decode cX8_dawn 85 = .ok (.getfield 39, 3) := by decide +kernel
theorem dX8_dawn_88 : decode cX8_dawn 88 = .ok (.getfield 119, 3) := by decide +kernel
theorem dX8_dawn_91 : decode cX8_dawn 91 = .ok (.getfield 196, 3) := by decide +kernel
theorem dX8_dawn_94 : decode cX8_dawn 94 = .ok (.invokevirtual 225, 3) := by decide +kernel
theorem dX8_dawn_97 : decode cX8_dawn 97 = .ok (.aload_n 0, 1) := by decide +kernel
theorem dX8_dawn_98 : decode cX8_dawn 98 = .ok (.getfield 39, 3) := by decide +kernel
theorem dX8_dawn_101 : decode cX8_dawn 101 = .ok (.getfield 202, 3) := by decide +kernel
theorem dX8_dawn_104 : decode cX8_dawn 104 = .ok (.ireturn, 1) := by decide +kernel
theorem dX8_day_0 : decode cX8_day 0 = .ok (.aload_n 0, 1) := by decide +kernel
theorem dX8_day_1 : decode cX8_day 1 = .ok (.iload_n 1, 1) := by decide +kernel
theorem dX8_day_2 : decode cX8_day 2 = .ok (.invokevirtual 228, 3) := by decide +kernel
theorem dX8_day_5 : decode cX8_day 5 = .ok (.astore_n 2, 1) := by decide +kernel
theorem dX8_day_6 : decode cX8_day 6 = .ok (.aload_n 2, 1) := by decide +kernel
theorem dX8_day_7 : decode cX8_day 7 = .ok (.ifnonnull 6, 3) := by decide +kernel
theorem dX8_day_10 : decode cX8_day 10 = .ok (.ldc 208, 2) := by decide +kernel
theorem dX8_day_12 : decode cX8_day 12 = .ok (.ireturn, 1) := by decide +kernel
theorem dX8_day_13 : decode cX8_day 13 = .ok (.aload_n 0, 1) := by decide +kernel
theorem dX8_day_14 : decode cX8_day 14 = .ok (.getfield 39, 3) := by decide +kernel
theorem dX8_day_17 : decode cX8_day 17 = .ok (.getfield 143, 3) := by decide +kernel
theorem dX8_day_20 : decode cX8_day 20 = .ok (.getfield 199, 3) := by decide +kernel
theorem dX8_day_23 : decode cX8_day 23 = .ok (.istore_n 3, 1) := by decide +kernel
theorem dX8_day_24 : decode cX8_day 24 = .ok (.aload_n 0, 1) := by decide +kernel
theorem dX8_day_25 : decode cX8_day 25 = .ok (.getfield 64, 3) := by decide +kernel
theorem dX8_day_28 : decode cX8_day 28 = .ok (.aload_n 0, 1) := by decide +kernel
theorem dX8_day_29 : decode cX8_day 29 = .ok (.getfield 39, 3) := by decide +kernel
theorem dX8_day_32 : decode cX8_day 32 = .ok (.getfield 119, 3) := by decide +kernel
theorem dX8_day_35 : decode cX8_day 35 = .ok (.aload_n 2, 1) := by decide +kernel
theorem dX8_day_36 : decode cX8_day 36 = .ok (.aload_n 0, 1) := by decide +kernel
theorem dX8_day_37 : decode cX8_day 37 = .ok (.getfield 39, 3) := by decide +kernel
theorem dX8_day_40 : decode cX8_day 40 = .ok (.getfield 143, 3) := by decide +kernel
theorem dX8_day_43 : decode cX8_day 43 = .ok (.invokevirtual 232, 3) := by decide +kernel
theorem dX8_day_46 : decode cX8_day 46 = .ok (.pop, 1) := by decide +kernel
theorem dX8_day_47 : decode cX8_day 47 = .ok (.aload_n 0, 1) := by decide +kernel
theorem dX8_day_48 : decode cX8_day 48 = .ok (.getfield 39, 3) := by decide +kernel
theorem dX8_day_51 : decode cX8_day 51 = .ok (.getfield 143, 3) := by decide +kernel
theorem dX8_day_54 : decode cX8_day 54 = .ok (.getfield 199, 3) := by decide +kernel
theorem dX8_day_57 : decode cX8_day 57 = .ok (.iload_n 3, 1) := by decide +kernel
theorem dX8_day_58 : decode cX8_day 58 = .ok (.isub, 1) := by decide +kernel
theorem dX8_day_59 : decode cX8_day 59 = .ok (.ireturn, 1) := by decide +kernel
theorem dX8_end_0 : decode cX8_end 0 = .ok (.iload_n 1, 1) := by decide +kernel
theorem dX8_end_1 : decode cX8_end 1 = .ok (.ifCond .lt 11, 3) := by decide +kernel
theorem dX8_end_4 : decode cX8_end 4 = .ok (.iload_n 1, 1) := by decide +kernel
theorem dX8_end_5 : decode cX8_end 5 = .ok (.aload_n 0, 1) := by decide +kernel
theorem dX8_end_6 : decode cX8_end 6 = .ok (.getfield 13, 3) := by decide +kernel
theorem dX8_end_9 : decode cX8_end 9 = .ok (.if_icmp .le 5, 3) := by decide +kernel
theorem dX8_end_12 : decode cX8_end 12 = .ok (.iconst (-1), 1) := by decide +kernel
theorem dX8_end_13 : decode cX8_end 13 = .ok (.ireturn, 1) := by decide +kernel
theorem dX8_end_14 : decode cX8_end 14 = .ok (.aload_n 0, 1) := by decide +kernel
theorem dX8_end_15 : decode cX8_end 15 = .ok (.iload_n 1, 1) := by decide +kernel
theorem dX8_end_16 : decode cX8_end 16 = .ok (.putfield 13, 3) := by decide +kernel
theorem dX8_end_19 : decode cX8_end 19 = .ok (.iload_n 1, 1) := by decide +kernel
theorem dX8_end_20 : decode cX8_end 20 = .ok (.ireturn, 1) := by decide +kernel
theorem dX8_fault_0 : decode cX8_fault 0 = .ok (.aload_n 0, 1) := by decide +kernel
theorem dX8_fault_1 : decode cX8_fault 1 = .ok (.iload_n 1, 1) := by decide +kernel
theorem dX8_fault_2 : decode cX8_fault 2 = .ok (.invokevirtual 139, 3) := by decide +kernel
theorem dX8_fault_5 : decode cX8_fault 5 = .ok (.ifCond .ne 6, 3) := by decide +kernel
theorem dX8_fault_8 : decode cX8_fault 8 = .ok (.bipush (-2), 2) := by decide +kernel
theorem dX8_fault_10 : decode cX8_fault 10 = .ok (.ireturn, 1) := by decide +kernel
theorem dX8_fault_11 : decode cX8_fault 11 = .ok (.aload_n 0, 1) := by decide +kernel
theorem dX8_fault_12 : decode cX8_fault 12 = .ok (.getfield 39, 3) := by decide +kernel
theorem dX8_fault_15 : decode cX8_fault 15 = .ok (.getfield 119, 3) := by decide +kernel
theorem dX8_fault_18 : decode cX8_fault 18 = .ok (.astore_n 3, 1) := by decide +kernel
theorem dX8_fault_19 : decode cX8_fault 19 = .ok (.aload_n 0, 1) := by decide +kernel
theorem dX8_fault_20 : decode cX8_fault 20 = .ok (.getfield 39, 3) := by decide +kernel
theorem dX8_fault_23 : decode cX8_fault 23 = .ok (.getfield 143, 3) := by decide +kernel
theorem dX8_fault_26 : decode cX8_fault 26 = .ok (.astore 4, 2) := by decide +kernel
theorem dX8_fault_28 : decode cX8_fault 28 = .ok (.iload_n 2, 1) := by decide +kernel
theorem dX8_fault_29 : decode cX8_fault 29 = .ok (.tableswitch 142 0 6 #[43, 52, 61, 70, 79, 113, 123], 43) := by decide +kernel
theorem dX8_fault_72 : decode cX8_fault 72 = .ok (.aload_n 3, 1) := by decide +kernel
theorem dX8_fault_73 : decode cX8_fault 73 = .ok (.getfield 146, 3) := by decide +kernel
theorem dX8_fault_76 : decode cX8_fault 76 = .ok (.iload_n 1, 1) := by decide +kernel
theorem dX8_fault_77 : decode cX8_fault 77 = .ok (.invokestatic 129, 3) := by decide +kernel
theorem dX8_fault_80 : decode cX8_fault 80 = .ok (.ireturn, 1) := by decide +kernel
theorem dX8_fault_81 : decode cX8_fault 81 = .ok (.aload_n 3, 1) := by decide +kernel
theorem dX8_fault_82 : decode cX8_fault 82 = .ok (.getfield 149, 3) := by decide +kernel
theorem dX8_fault_85 : decode cX8_fault 85 = .ok (.iload_n 1, 1) := by decide +kernel
theorem dX8_fault_86 : decode cX8_fault 86 = .ok (.invokestatic 129, 3) := by decide +kernel
theorem dX8_fault_89 : decode cX8_fault 89 = .ok (.ireturn, 1) := by decide +kernel
theorem dX8_fault_90 : decode cX8_fault 90 = .ok (.aload_n 3, 1) := by decide +kernel
theorem dX8_fault_91 : decode cX8_fault 91 = .ok (.getfield 152, 3) := by decide +kernel
theorem dX8_fault_94 : decode cX8_fault 94 = .ok (.iload_n 1, 1) := by decide +kernel
theorem dX8_fault_95 : decode cX8_fault 95 = .ok (.invokestatic 129, 3) := by decide +kernel
theorem dX8_fault_98 : decode cX8_fault 98 = .ok (.ireturn, 1) := by decide +kernel
theorem dX8_fault_99 : decode cX8_fault 99 = .ok (.aload_n 3, 1) := by decide +kernel
theorem dX8_fault_100 : decode cX8_fault 100 = .ok (.getfield 155, 3) := by decide +kernel
theorem dX8_fault_103 : decode cX8_fault 103 = .ok (.iload_n 1, 1) := by decide +kernel
theorem dX8_fault_104 : decode cX8_fault 104 = .ok (.invokestatic 129, 3) := by decide +kernel
theorem dX8_fault_107 : decode cX8_fault 107 = .ok (.ireturn, 1) := by decide +kernel
theorem dX8_fault_108 : decode cX8_fault 108 = .ok (.aload 4, 2) := by decide +kernel
theorem dX8_fault_110 : decode cX8_fault 110 = .ok (.getfield 158, 3) := by decide +kernel
theorem dX8_fault_113 : decode cX8_fault 113 = .ok (.iload_n 1, 1) := by decide +kernel
theorem dX8_fault_114 : decode cX8_fault 114 = .ok (.invokestatic 161, 3) := by decide +kernel
theorem dX8_fault_117 : decode cX8_fault 117 = .ok (.ifCond .eq 7, 3) := by decide +kernel
theorem dX8_fault_120 : decode cX8_fault 120 = .ok (.iconst 1, 1) := by decide +kernel
theorem dX8_fault_121 : decode cX8_fault 121 = .ok (.goto 20, 3) := by decide +kernel
theorem dX8_fault_124 : decode cX8_fault 124 = .ok (.aload 4, 2) := by decide +kernel
theorem dX8_fault_126 : decode cX8_fault 126 = .ok (.getfield 165, 3) := by decide +kernel
theorem dX8_fault_129 : decode cX8_fault 129 = .ok (.iload_n 1, 1) := by decide +kernel
theorem dX8_fault_130 : decode cX8_fault 130 = .ok (.invokestatic 161, 3) := by decide +kernel
theorem dX8_fault_133 : decode cX8_fault 133 = .ok (.ifCond .eq 7, 3) := by decide +kernel
theorem dX8_fault_136 : decode cX8_fault 136 = .ok (.iconst 2, 1) := by decide +kernel
theorem dX8_fault_137 : decode cX8_fault 137 = .ok (.goto 4, 3) := by decide +kernel
theorem dX8_fault_140 : decode cX8_fault 140 = .ok (.iconst 0, 1) := by decide +kernel
theorem dX8_fault_141 : decode cX8_fault 141 = .ok (.ireturn, 1) := by decide +kernel
theorem dX8_fault_142 : decode cX8_fault 142 = .ok (.aload 4, 2) := by decide +kernel
theorem dX8_fault_144 : decode cX8_fault 144 = .ok (.getfield 168, 3) := by decide +kernel
