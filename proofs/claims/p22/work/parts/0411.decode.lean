theorem dX9_reckons_40 : decode cX9_reckons 40 = .ok (.imul, 1) := by decide +kernel
theorem dX9_reckons_41 : decode cX9_reckons 41 = .ok (.iload 4, 2) := by decide +kernel
theorem dX9_reckons_43 : decode cX9_reckons 43 = .ok (.iadd, 1) := by decide +kernel
theorem dX9_reckons_44 : decode cX9_reckons 44 = .ok (.iaload, 1) := by decide +kernel
theorem dX9_reckons_45 : decode cX9_reckons 45 = .ok (.iconst 4, 1) := by decide +kernel
theorem dX9_reckons_46 : decode cX9_reckons 46 = .ok (.ishr, 1) := by decide +kernel
theorem dX9_reckons_47 : decode cX9_reckons 47 = .ok (.istore 6, 2) := by decide +kernel
theorem dX9_reckons_49 : decode cX9_reckons 49 = .ok (.iload 5, 2) := by decide +kernel
theorem dX9_reckons_51 : decode cX9_reckons 51 = .ok (.ifCond .ne 13, 3) := by decide +kernel
theorem dX9_reckons_54 : decode cX9_reckons 54 = .ok (.aload_n 0, 1) := by decide +kernel
theorem dX9_reckons_55 : decode cX9_reckons 55 = .ok (.iload 6, 2) := by decide +kernel
theorem dX9_reckons_57 : decode cX9_reckons 57 = .ok (.i2l, 1) := by decide +kernel
theorem dX9_reckons_58 : decode cX9_reckons 58 = .ok (.invokevirtual 256, 3) := by decide +kernel
theorem dX9_reckons_61 : decode cX9_reckons 61 = .ok (.goto 68, 3) := by decide +kernel
theorem dX9_reckons_64 : decode cX9_reckons 64 = .ok (.iload 5, 2) := by decide +kernel
theorem dX9_reckons_66 : decode cX9_reckons 66 = .ok (.iconst 1, 1) := by decide +kernel
theorem dX9_reckons_67 : decode cX9_reckons 67 = .ok (.if_icmp .ne 17, 3) := by decide +kernel
theorem dX9_reckons_70 : decode cX9_reckons 70 = .ok (.aload_n 0, 1) := by decide +kernel
theorem dX9_reckons_71 : decode cX9_reckons 71 = .ok (.aload_n 0, 1) := by decide +kernel
theorem dX9_reckons_72 : decode cX9_reckons 72 = .ok (.getfield 39, 3) := by decide +kernel
theorem dX9_reckons_75 : decode cX9_reckons 75 = .ok (.iload 6, 2) := by decide +kernel
theorem dX9_reckons_77 : decode cX9_reckons 77 = .ok (.laload, 1) := by decide +kernel
theorem dX9_reckons_78 : decode cX9_reckons 78 = .ok (.invokevirtual 256, 3) := by decide +kernel
theorem dX9_reckons_81 : decode cX9_reckons 81 = .ok (.goto 48, 3) := by decide +kernel
theorem dX9_reckons_84 : decode cX9_reckons 84 = .ok (.iload 5, 2) := by decide +kernel
theorem dX9_reckons_86 : decode cX9_reckons 86 = .ok (.bipush 11, 2) := by decide +kernel
theorem dX9_reckons_88 : decode cX9_reckons 88 = .ok (.if_icmp .ne 16, 3) := by decide +kernel
theorem dX9_reckons_91 : decode cX9_reckons 91 = .ok (.aload_n 0, 1) := by decide +kernel
theorem dX9_reckons_92 : decode cX9_reckons 92 = .ok (.lconst 1, 1) := by decide +kernel
theorem dX9_reckons_93 : decode cX9_reckons 93 = .ok (.aload_n 0, 1) := by decide +kernel
theorem dX9_reckons_94 : decode cX9_reckons 94 = .ok (.invokevirtual 260, 3) := by decide +kernel
theorem dX9_reckons_97 : decode cX9_reckons 97 = .ok (.lsub, 1) := by decide +kernel
theorem dX9_reckons_98 : decode cX9_reckons 98 = .ok (.invokevirtual 256, 3) := by decide +kernel
theorem dX9_reckons_101 : decode cX9_reckons 101 = .ok (.goto 28, 3) := by decide +kernel
theorem dX9_reckons_104 : decode cX9_reckons 104 = .ok (.aload_n 0, 1) := by decide +kernel
theorem dX9_reckons_105 : decode cX9_reckons 105 = .ok (.invokevirtual 260, 3) := by decide +kernel
theorem dX9_reckons_108 : decode cX9_reckons 108 = .ok (.lstore 7, 2) := by decide +kernel
theorem dX9_reckons_110 : decode cX9_reckons 110 = .ok (.aload_n 0, 1) := by decide +kernel
theorem dX9_reckons_111 : decode cX9_reckons 111 = .ok (.invokevirtual 260, 3) := by decide +kernel
theorem dX9_reckons_114 : decode cX9_reckons 114 = .ok (.lstore 9, 2) := by decide +kernel
theorem dX9_reckons_116 : decode cX9_reckons 116 = .ok (.aload_n 0, 1) := by decide +kernel
theorem dX9_reckons_117 : decode cX9_reckons 117 = .ok (.iload 5, 2) := by decide +kernel
theorem dX9_reckons_119 : decode cX9_reckons 119 = .ok (.lload 9, 2) := by decide +kernel
theorem dX9_reckons_121 : decode cX9_reckons 121 = .ok (.lload 7, 2) := by decide +kernel
theorem dX9_reckons_123 : decode cX9_reckons 123 = .ok (.invokestatic 264, 3) := by decide +kernel
theorem dX9_reckons_126 : decode cX9_reckons 126 = .ok (.invokevirtual 256, 3) := by decide +kernel
theorem dX9_reckons_129 : decode cX9_reckons 129 = .ok (.iinc 4 1, 3) := by decide +kernel
theorem dX9_reckons_132 : decode cX9_reckons 132 = .ok (.goto (-124), 3) := by decide +kernel
theorem dX9_reckons_135 : decode cX9_reckons 135 = .ok (.aload_n 0, 1) := by decide +kernel
theorem dX9_reckons_136 : decode cX9_reckons 136 = .ok (.invokevirtual 260, 3) := by decide +kernel
theorem dX9_reckons_139 : decode cX9_reckons 139 = .ok (.lreturn, 1) := by decide +kernel
theorem dX9_rests_0 : decode cX9_rests 0 = .ok (.aload_n 0, 1) := by decide +kernel
theorem dX9_rests_1 : decode cX9_rests 1 = .ok (.iconst 0, 1) := by decide +kernel
theorem dX9_rests_2 : decode cX9_rests 2 = .ok (.invokevirtual 401, 3) := by decide +kernel
theorem dX9_rests_5 : decode cX9_rests 5 = .ok (.aload_n 0, 1) := by decide +kernel
theorem dX9_rests_6 : decode cX9_rests 6 = .ok (.iconst 2, 1) := by decide +kernel
theorem dX9_rests_7 : decode cX9_rests 7 = .ok (.invokevirtual 401, 3) := by decide +kernel
theorem dX9_rests_10 : decode cX9_rests 10 = .ok (.if_icmp .lt 20, 3) := by decide +kernel
theorem dX9_rests_13 : decode cX9_rests 13 = .ok (.aload_n 0, 1) := by decide +kernel
theorem dX9_rests_14 : decode cX9_rests 14 = .ok (.iconst 4, 1) := by decide +kernel
theorem dX9_rests_15 : decode cX9_rests 15 = .ok (.invokevirtual 401, 3) := by decide +kernel
theorem dX9_rests_18 : decode cX9_rests 18 = .ok (.aload_n 0, 1) := by decide +kernel
theorem dX9_rests_19 : decode cX9_rests 19 = .ok (.iconst 5, 1) := by decide +kernel
theorem dX9_rests_20 : decode cX9_rests 20 = .ok (.invokevirtual 401, 3) := by decide +kernel
theorem dX9_rests_23 : decode cX9_rests 23 = .ok (.if_icmp .lt 7, 3) := by decide +kernel
theorem dX9_rests_26 : decode cX9_rests 26 = .ok (.iconst 1, 1) := by decide +kernel
theorem dX9_rests_27 : decode cX9_rests 27 = .ok (.goto 4, 3) := by decide +kernel
theorem dX9_rests_30 : decode cX9_rests 30 = .ok (.iconst 0, 1) := by decide +kernel
theorem dX9_rests_31 : decode cX9_rests 31 = .ok (.istore_n 1, 1) := by decide +kernel
theorem dX9_rests_32 : decode cX9_rests 32 = .ok (.iload_n 1, 1) := by decide +kernel
theorem dX9_rests_33 : decode cX9_rests 33 = .ok (.aload_n 0, 1) := by decide +kernel
theorem dX9_rests_34 : decode cX9_rests 34 = .ok (.iconst 1, 1) := by decide +kernel
theorem dX9_rests_35 : decode cX9_rests 35 = .ok (.invokevirtual 401, 3) := by decide +kernel
theorem dX9_rests_38 : decode cX9_rests 38 = .ok (.aload_n 0, 1) := by decide +kernel
theorem dX9_rests_39 : decode cX9_rests 39 = .ok (.iconst 3, 1) := by decide +kernel
theorem dX9_rests_40 : decode cX9_rests 40 = .ok (.invokevirtual 401, 3) := by decide +kernel
theorem dX9_rests_43 : decode cX9_rests 43 = .ok (.if_icmp .lt 20, 3) := by decide +kernel
theorem dX9_rests_46 : decode cX9_rests 46 = .ok (.aload_n 0, 1) := by decide +kernel
theorem dX9_rests_47 : decode cX9_rests 47 = .ok (.iconst 5, 1) := by decide +kernel
theorem dX9_rests_48 : decode cX9_rests 48 = .ok (.invokevirtual 401, 3) := by decide +kernel
theorem dX9_rests_51 : decode cX9_rests 51 = .ok (.aload_n 0, 1) := by decide +kernel
theorem dX9_rests_52 : decode cX9_rests 52 = .ok (.iconst 4, 1) := by decide +kernel
theorem dX9_rests_53 : decode cX9_rests 53 = .ok (.invokevirtual 401, 3) := by decide +kernel
theorem dX9_rests_56 : decode cX9_rests 56 = .ok (.if_icmp .lt 7, 3) := by decide +kernel
theorem dX9_rests_59 : decode cX9_rests 59 = .ok (.iconst 2, 1) := by decide +kernel
theorem dX9_rests_60 : decode cX9_rests 60 = .ok (.goto 4, 3) := by decide +kernel
theorem dX9_rests_63 : decode cX9_rests 63 = .ok (.iconst 0, 1) := by decide +kernel
theorem dX9_rests_64 : decode cX9_rests 64 = .ok (.ior, 1) := by decide +kernel
theorem dX9_rests_65 : decode cX9_rests 65 = .ok (.istore_n 1, 1) := by decide +kernel
theorem dX9_rests_66 : decode cX9_rests 66 = .ok (.iload_n 1, 1) := by decide +kernel
theorem dX9_rests_67 : decode cX9_rests 67 = .ok (.aload_n 0, 1) := by decide +kernel
theorem dX9_rests_68 : decode cX9_rests 68 = .ok (.iconst 2, 1) := by decide +kernel
theorem dX9_rests_69 : decode cX9_rests 69 = .ok (.invokevirtual 401, 3) := by decide +kernel
theorem dX9_rests_72 : decode cX9_rests 72 = .ok (.aload_n 0, 1) := by decide +kernel
theorem dX9_rests_73 : decode cX9_rests 73 = .ok (.iconst 0, 1) := by decide +kernel
theorem dX9_rests_74 : decode cX9_rests 74 = .ok (.invokevirtual 401, 3) := by decide +kernel
theorem dX9_rests_77 : decode cX9_rests 77 = .ok (.if_icmp .lt 22, 3) := by decide +kernel
theorem dX9_rests_80 : decode cX9_rests 80 = .ok (.aload_n 0, 1) := by decide +kernel
theorem dX9_rests_81 : decode cX9_rests 81 = .ok (.bipush 6, 2) := by decide +kernel
theorem dX9_rests_83 : decode cX9_rests 83 = .ok (.invokevirtual 401, 3) := by decide +kernel
theorem dX9_rests_86 : decode cX9_rests 86 = .ok (.aload_n 0, 1) := by decide +kernel
theorem dX9_rests_87 : decode cX9_rests 87 = .ok (.bipush 7, 2) := by decide +kernel
theorem dX9_rests_89 : decode cX9_rests 89 = .ok (.invokevirtual 401, 3) := by decide +kernel
theorem dX9_rests_92 : decode cX9_rests 92 = .ok (.if_icmp .lt 7, 3) := by decide +kernel
theorem dX9_rests_95 : decode cX9_rests 95 = .ok (.iconst 4, 1) := by decide +kernel
theorem dX9_rests_96 : decode cX9_rests 96 = .ok (.goto 4, 3) := by decide +kernel
theorem dX9_rests_99 : decode cX9_rests 99 = .ok (.iconst 0, 1) := by decide +kernel
theorem dX9_rests_100 : decode cX9_rests 100 = .ok (.ior, 1) := by decide +kernel
theorem dX9_rests_101 : decode cX9_rests 101 = .ok (.istore_n 1, 1) := by decide +kernel
theorem dX9_rests_102 : decode cX9_rests 102 = .ok (.iload_n 1, 1) := by decide +kernel
theorem dX9_rests_103 : decode cX9_rests 103 = .ok (.aload_n 0, 1) := by decide +kernel
theorem dX9_rests_104 : decode cX9_rests 104 = .ok (.iconst 3, 1) := by decide +kernel
theorem dX9_rests_105 : decode cX9_rests 105 = .ok (.invokevirtual 401, 3) := by decide +kernel
theorem dX9_rests_108 : decode cX9_rests 108 = .ok (.aload_n 0, 1) := by decide +kernel
theorem dX9_rests_109 : decode cX9_rests 109 = .ok (.iconst 1, 1) := by decide +kernel
theorem dX9_rests_110 : decode cX9_rests 110 = .ok (.invokevirtual 401, 3) := by decide +kernel
theorem dX9_rests_113 : decode cX9_rests 113 = .ok (.if_icmp .lt 23, 3) := by decide +kernel
theorem dX9_rests_116 : decode cX9_rests 116 = .ok (.aload_n 0, 1) := by decide +kernel
theorem dX9_rests_117 : decode cX9_rests 117 = .ok (.bipush 7, 2) := by decide +kernel
theorem dX9_rests_119 : decode cX9_rests 119 = .ok (.invokevirtual 401, 3) := by decide +kernel
theorem dX9_rests_122 : decode cX9_rests 122 = .ok (.aload_n 0, 1) := by decide +kernel
theorem dX9_rests_123 : decode cX9_rests 123 = .ok (.bipush 6, 2) := by decide +kernel
theorem dX9_rests_125 : decode cX9_rests 125 = .ok (.invokevirtual 401, 3) := by decide +kernel
theorem dX9_rests_128 : decode cX9_rests 128 = .ok (.if_icmp .lt 8, 3) := by decide +kernel
theorem dX9_rests_131 : decode cX9_rests 131 = .ok (.bipush 8, 2) := by decide +kernel
theorem dX9_rests_133 : decode cX9_rests 133 = .ok (.goto 4, 3) := by decide +kernel
theorem dX9_rests_136 : decode cX9_rests 136 = .ok (.iconst 0, 1) := by decide +kernel
theorem dX9_rests_137 : decode cX9_rests 137 = .ok (.ior, 1) := by decide +kernel
theorem dX9_rests_138 : decode cX9_rests 138 = .ok (.ireturn, 1) := by decide +kernel
theorem dX9_row_0 : decode cX9_row 0 = .ok (.iload_n 1, 1) := by decide +kernel
theorem dX9_row_1 : decode cX9_row 1 = .ok (.iconst (-1), 1) := by decide +kernel
theorem dX9_row_2 : decode cX9_row 2 = .ok (.if_icmp .ne 13, 3) := by decide +kernel
theorem dX9_row_5 : decode cX9_row 5 = .ok (.aload_n 0, 1) := by decide +kernel
theorem dX9_row_6 : decode cX9_row 6 = .ok (.getfield 42, 3) := by decide +kernel
theorem dX9_row_9 : decode cX9_row 9 = .ok (.bipush 8, 2) := by decide +kernel
theorem dX9_row_11 : decode cX9_row 11 = .ok (.iconst 0, 1) := by decide +kernel
theorem dX9_row_12 : decode cX9_row 12 = .ok (.iastore, 1) := by decide +kernel
theorem dX9_row_13 : decode cX9_row 13 = .ok (.iconst 0, 1) := by decide +kernel
theorem dX9_row_14 : decode cX9_row 14 = .ok (.ireturn, 1) := by decide +kernel
theorem dX9_row_15 : decode cX9_row 15 = .ok (.aload_n 0, 1) := by decide +kernel
theorem dX9_row_16 : decode cX9_row 16 = .ok (.iload_n 1, 1) := by decide +kernel
theorem dX9_row_17 : decode cX9_row 17 = .ok (.invokevirtual 280, 3) := by decide +kernel
theorem dX9_row_20 : decode cX9_row 20 = .ok (.ifCond .eq 15, 3) := by decide +kernel
theorem dX9_row_23 : decode cX9_row 23 = .ok (.aload_n 0, 1) := by decide +kernel
theorem dX9_row_24 : decode cX9_row 24 = .ok (.getfield 42, 3) := by decide +kernel
theorem dX9_row_27 : decode cX9_row 27 = .ok (.bipush 8, 2) := by decide +kernel
theorem dX9_row_29 : decode cX9_row 29 = .ok (.iaload, 1) := by decide +kernel
theorem dX9_row_30 : decode cX9_row 30 = .ok (.bipush 8, 2) := by decide +kernel
theorem dX9_row_32 : decode cX9_row 32 = .ok (.if_icmp .ne 6, 3) := by decide +kernel
theorem dX9_row_35 : decode cX9_row 35 = .ok (.bipush (-2), 2) := by decide +kernel
theorem dX9_row_37 : decode cX9_row 37 = .ok (.ireturn, 1) := by decide +kernel
theorem dX9_row_38 : decode cX9_row 38 = .ok (.aload_n 0, 1) := by decide +kernel
theorem dX9_row_39 : decode cX9_row 39 = .ok (.getfield 42, 3) := by decide +kernel
theorem dX9_row_42 : decode cX9_row 42 = .ok (.bipush 10, 2) := by decide +kernel
theorem dX9_row_44 : decode cX9_row 44 = .ok (.aload_n 0, 1) := by decide +kernel
theorem dX9_row_45 : decode cX9_row 45 = .ok (.getfield 42, 3) := by decide +kernel
theorem dX9_row_48 : decode cX9_row 48 = .ok (.bipush 8, 2) := by decide +kernel
theorem dX9_row_50 : decode cX9_row 50 = .ok (.iaload, 1) := by decide +kernel
theorem dX9_row_51 : decode cX9_row 51 = .ok (.iadd, 1) := by decide +kernel
theorem dX9_row_52 : decode cX9_row 52 = .ok (.iload_n 1, 1) := by decide +kernel
theorem dX9_row_53 : decode cX9_row 53 = .ok (.iastore, 1) := by decide +kernel
theorem dX9_row_54 : decode cX9_row 54 = .ok (.aload_n 0, 1) := by decide +kernel
theorem dX9_row_55 : decode cX9_row 55 = .ok (.getfield 42, 3) := by decide +kernel
theorem dX9_row_58 : decode cX9_row 58 = .ok (.bipush 8, 2) := by decide +kernel
theorem dX9_row_60 : decode cX9_row 60 = .ok (.dup2, 1) := by decide +kernel
theorem dX9_row_61 : decode cX9_row 61 = .ok (.iaload, 1) := by decide +kernel
theorem dX9_row_62 : decode cX9_row 62 = .ok (.iconst 1, 1) := by decide +kernel
theorem dX9_row_63 : decode cX9_row 63 = .ok (.iadd, 1) := by decide +kernel
theorem dX9_row_64 : decode cX9_row 64 = .ok (.iastore, 1) := by decide +kernel
theorem dX9_row_65 : decode cX9_row 65 = .ok (.aload_n 0, 1) := by decide +kernel
theorem dX9_row_66 : decode cX9_row 66 = .ok (.getfield 42, 3) := by decide +kernel
theorem dX9_row_69 : decode cX9_row 69 = .ok (.bipush 8, 2) := by decide +kernel
theorem dX9_row_71 : decode cX9_row 71 = .ok (.iaload, 1) := by decide +kernel
theorem dX9_row_72 : decode cX9_row 72 = .ok (.ireturn, 1) := by decide +kernel
theorem dX9_rule_0 : decode cX9_rule 0 = .ok (.aload_n 0, 1) := by decide +kernel
theorem dX9_rule_1 : decode cX9_rule 1 = .ok (.getfield 247, 3) := by decide +kernel
theorem dX9_rule_4 : decode cX9_rule 4 = .ok (.bipush 6, 2) := by decide +kernel
theorem dX9_rule_6 : decode cX9_rule 6 = .ok (.if_icmp .ne 5, 3) := by decide +kernel
theorem dX9_rule_9 : decode cX9_rule 9 = .ok (.iconst (-1), 1) := by decide +kernel
theorem dX9_rule_10 : decode cX9_rule 10 = .ok (.ireturn, 1) := by decide +kernel
theorem dX9_rule_11 : decode cX9_rule 11 = .ok (.aload_n 0, 1) := by decide +kernel
theorem dX9_rule_12 : decode cX9_rule 12 = .ok (.aload_n 0, 1) := by decide +kernel
theorem dX9_rule_13 : decode cX9_rule 13 = .ok (.getfield 247, 3) := by decide +kernel
theorem dX9_rule_16 : decode cX9_rule 16 = .ok (.putfield 140, 3) := by decide +kernel
theorem dX9_rule_19 : decode cX9_rule 19 = .ok (.aload_n 0, 1) := by decide +kernel
theorem dX9_rule_20 : decode cX9_rule 20 = .ok (.getfield 23, 3) := by decide +kernel
theorem dX9_rule_23 : decode cX9_rule 23 = .ok (.aload_n 0, 1) := by decide +kernel
theorem dX9_rule_24 : decode cX9_rule 24 = .ok (.getfield 140, 3) := by decide +kernel
theorem dX9_rule_27 : decode cX9_rule 27 = .ok (.iconst 0, 1) := by decide +kernel
theorem dX9_rule_28 : decode cX9_rule 28 = .ok (.iastore, 1) := by decide +kernel
theorem dX9_rule_29 : decode cX9_rule 29 = .ok (.aload_n 0, 1) := by decide +kernel
theorem dX9_rule_30 : decode cX9_rule 30 = .ok (.invokevirtual 250, 3) := by decide +kernel
theorem dX9_rule_33 : decode cX9_rule 33 = .ok (.ifCond .ne 11, 3) := by decide +kernel
theorem dX9_rule_36 : decode cX9_rule 36 = .ok (.bipush (-2), 2) := by decide +kernel
theorem dX9_rule_38 : decode cX9_rule 38 = .ok (.aload_n 0, 1) := by decide +kernel
theorem dX9_rule_39 : decode cX9_rule 39 = .ok (.getfield 87, 3) := by decide +kernel
theorem dX9_rule_42 : decode cX9_rule 42 = .ok (.isub, 1) := by decide +kernel
theorem dX9_rule_43 : decode cX9_rule 43 = .ok (.ireturn, 1) := by decide +kernel
theorem dX9_rule_44 : decode cX9_rule 44 = .ok (.aload_n 0, 1) := by decide +kernel
theorem dX9_rule_45 : decode cX9_rule 45 = .ok (.dup, 1) := by decide +kernel
theorem dX9_rule_46 : decode cX9_rule 46 = .ok (.getfield 247, 3) := by decide +kernel
theorem dX9_rule_49 : decode cX9_rule 49 = .ok (.iconst 1, 1) := by decide +kernel
theorem dX9_rule_50 : decode cX9_rule 50 = .ok (.iadd, 1) := by decide +kernel
theorem dX9_rule_51 : decode cX9_rule 51 = .ok (.putfield 247, 3) := by decide +kernel
theorem dX9_rule_54 : decode cX9_rule 54 = .ok (.aload_n 0, 1) := by decide +kernel
theorem dX9_rule_55 : decode cX9_rule 55 = .ok (.getfield 247, 3) := by decide +kernel
theorem dX9_rule_58 : decode cX9_rule 58 = .ok (.iconst 1, 1) := by decide +kernel
theorem dX9_rule_59 : decode cX9_rule 59 = .ok (.isub, 1) := by decide +kernel
theorem dX9_rule_60 : decode cX9_rule 60 = .ok (.ireturn, 1) := by decide +kernel
theorem dX9_see_0 : decode cX9_see 0 = .ok (.aload_n 0, 1) := by decide +kernel
theorem dX9_see_1 : decode cX9_see 1 = .ok (.getfield 90, 3) := by decide +kernel
theorem dX9_see_4 : decode cX9_see 4 = .ok (.aload_n 0, 1) := by decide +kernel
theorem dX9_see_5 : decode cX9_see 5 = .ok (.getfield 79, 3) := by decide +kernel
theorem dX9_see_8 : decode cX9_see 8 = .ok (.if_icmp .ge 30, 3) := by decide +kernel
theorem dX9_see_11 : decode cX9_see 11 = .ok (.aload_n 0, 1) := by decide +kernel
theorem dX9_see_12 : decode cX9_see 12 = .ok (.getfield 7, 3) := by decide +kernel
theorem dX9_see_15 : decode cX9_see 15 = .ok (.aload_n 0, 1) := by decide +kernel
theorem dX9_see_16 : decode cX9_see 16 = .ok (.getfield 90, 3) := by decide +kernel
theorem dX9_see_19 : decode cX9_see 19 = .ok (.baload, 1) := by decide +kernel
theorem dX9_see_20 : decode cX9_see 20 = .ok (.bipush 32, 2) := by decide +kernel
theorem dX9_see_22 : decode cX9_see 22 = .ok (.if_icmp .ne 16, 3) := by decide +kernel
theorem dX9_see_25 : decode cX9_see 25 = .ok (.aload_n 0, 1) := by decide +kernel
theorem dX9_see_26 : decode cX9_see 26 = .ok (.dup, 1) := by decide +kernel
theorem dX9_see_27 : decode cX9_see 27 = .ok (.getfield 90, 3) := by decide +kernel
theorem dX9_see_30 : decode cX9_see 30 = .ok (.iconst 1, 1) := by decide +kernel
theorem dX9_see_31 : decode cX9_see 31 = .ok (.iadd, 1) := by decide +kernel
theorem dX9_see_32 : decode cX9_see 32 = .ok (.putfield 90, 3) := by decide +kernel
theorem dX9_see_35 : decode cX9_see 35 = .ok (.goto (-35), 3) := by decide +kernel
theorem dX9_see_38 : decode cX9_see 38 = .ok (.aload_n 0, 1) := by decide +kernel
theorem dX9_see_39 : decode cX9_see 39 = .ok (.getfield 90, 3) := by decide +kernel
theorem dX9_see_42 : decode cX9_see 42 = .ok (.aload_n 0, 1) := by decide +kernel
theorem dX9_see_43 : decode cX9_see 43 = .ok (.getfield 79, 3) := by decide +kernel
theorem dX9_see_46 : decode cX9_see 46 = .ok (.if_icmp .ge 19, 3) := by decide +kernel
theorem dX9_see_49 : decode cX9_see 49 = .ok (.aload_n 0, 1) := by decide +kernel
theorem dX9_see_50 : decode cX9_see 50 = .ok (.getfield 7, 3) := by decide +kernel
theorem dX9_see_53 : decode cX9_see 53 = .ok (.aload_n 0, 1) := by decide +kernel
theorem dX9_see_54 : decode cX9_see 54 = .ok (.getfield 90, 3) := by decide +kernel
theorem dX9_see_57 : decode cX9_see 57 = .ok (.baload, 1) := by decide +kernel
theorem dX9_see_58 : decode cX9_see 58 = .ok (.sipush 255, 3) := by decide +kernel
theorem dX9_see_61 : decode cX9_see 61 = .ok (.iand, 1) := by decide +kernel
theorem dX9_see_62 : decode cX9_see 62 = .ok (.goto 4, 3) := by decide +kernel
theorem dX9_see_65 : decode cX9_see 65 = .ok (.iconst (-1), 1) := by decide +kernel
theorem dX9_see_66 : decode cX9_see 66 = .ok (.ireturn, 1) := by decide +kernel
theorem dX9_seed_0 : decode cX9_seed 0 = .ok (.iload_n 1, 1) := by decide +kernel
theorem dX9_seed_1 : decode cX9_seed 1 = .ok (.ifCond .ge 5, 3) := by decide +kernel
theorem dX9_seed_4 : decode cX9_seed 4 = .ok (.iconst (-1), 1) := by decide +kernel
theorem dX9_seed_5 : decode cX9_seed 5 = .ok (.ireturn, 1) := by decide +kernel
theorem dX9_seed_6 : decode cX9_seed 6 = .ok (.aload_n 0, 1) := by decide +kernel
theorem dX9_seed_7 : decode cX9_seed 7 = .ok (.getfield 42, 3) := by decide +kernel
theorem dX9_seed_10 : decode cX9_seed 10 = .ok (.bipush 9, 2) := by decide +kernel
theorem dX9_seed_12 : decode cX9_seed 12 = .ok (.iaload, 1) := by decide +kernel
theorem dX9_seed_13 : decode cX9_seed 13 = .ok (.istore_n 2, 1) := by decide +kernel
theorem dX9_seed_14 : decode cX9_seed 14 = .ok (.aload_n 0, 1) := by decide +kernel
theorem dX9_seed_15 : decode cX9_seed 15 = .ok (.getfield 42, 3) := by decide +kernel
theorem dX9_seed_18 : decode cX9_seed 18 = .ok (.bipush 9, 2) := by decide +kernel
theorem dX9_seed_20 : decode cX9_seed 20 = .ok (.iload_n 1, 1) := by decide +kernel
theorem dX9_seed_21 : decode cX9_seed 21 = .ok (.iastore, 1) := by decide +kernel
theorem dX9_seed_22 : decode cX9_seed 22 = .ok (.iload_n 2, 1) := by decide +kernel
theorem dX9_seed_23 : decode cX9_seed 23 = .ok (.ireturn, 1) := by decide +kernel
theorem dX9_seen_0 : decode cX9_seen 0 = .ok (.aload_n 0, 1) := by decide +kernel
theorem dX9_seen_1 : decode cX9_seen 1 = .ok (.iload_n 1, 1) := by decide +kernel
theorem dX9_seen_2 : decode cX9_seen 2 = .ok (.invokevirtual 280, 3) := by decide +kernel
theorem dX9_seen_5 : decode cX9_seen 5 = .ok (.ifCond .eq 13, 3) := by decide +kernel
theorem dX9_seen_8 : decode cX9_seen 8 = .ok (.iload_n 2, 1) := by decide +kernel
theorem dX9_seen_9 : decode cX9_seen 9 = .ok (.i2l, 1) := by decide +kernel
theorem dX9_seen_10 : decode cX9_seen 10 = .ok (.lconst 0, 1) := by decide +kernel
theorem dX9_seen_11 : decode cX9_seen 11 = .ok (.lconst 1, 1) := by decide +kernel
theorem dX9_seen_12 : decode cX9_seen 12 = .ok (.invokestatic 118, 3) := by decide +kernel
theorem dX9_seen_15 : decode cX9_seen 15 = .ok (.ifCond .ne 7, 3) := by decide +kernel
theorem dX9_seen_18 : decode cX9_seen 18 = .ok (.ldc2_w 362, 3) := by decide +kernel
theorem dX9_seen_21 : decode cX9_seen 21 = .ok (.lreturn, 1) := by decide +kernel
theorem dX9_seen_22 : decode cX9_seen 22 = .ok (.aload_n 0, 1) := by decide +kernel
theorem dX9_seen_23 : decode cX9_seen 23 = .ok (.aload_n 0, 1) := by decide +kernel
theorem dX9_seen_24 : decode cX9_seen 24 = .ok (.iload_n 1, 1) := by decide +kernel
theorem dX9_seen_25 : decode cX9_seen 25 = .ok (.invokevirtual 364, 3) := by decide +kernel
theorem dX9_seen_28 : decode cX9_seen 28 = .ok (.aload_n 0, 1) := by decide +kernel
theorem dX9_seen_29 : decode cX9_seen 29 = .ok (.aload_n 0, 1) := by decide +kernel
theorem dX9_seen_30 : decode cX9_seen 30 = .ok (.getfield 42, 3) := by decide +kernel
theorem dX9_seen_33 : decode cX9_seen 33 = .ok (.bipush 8, 2) := by decide +kernel
theorem dX9_seen_35 : decode cX9_seen 35 = .ok (.iaload, 1) := by decide +kernel
theorem dX9_seen_36 : decode cX9_seen 36 = .ok (.invokevirtual 367, 3) := by decide +kernel
theorem dX9_seen_39 : decode cX9_seen 39 = .ok (.iload_n 2, 1) := by decide +kernel
theorem dX9_seen_40 : decode cX9_seen 40 = .ok (.invokevirtual 370, 3) := by decide +kernel
theorem dX9_seen_43 : decode cX9_seen 43 = .ok (.lreturn, 1) := by decide +kernel
theorem dX9_settles_0 : decode cX9_settles 0 = .ok (.aload_n 0, 1) := by decide +kernel
theorem dX9_settles_1 : decode cX9_settles 1 = .ok (.getfield 149, 3) := by decide +kernel
theorem dX9_settles_4 : decode cX9_settles 4 = .ok (.ifCond .le 72, 3) := by decide +kernel
theorem dX9_settles_7 : decode cX9_settles 7 = .ok (.aload_n 0, 1) := by decide +kernel
theorem dX9_settles_8 : decode cX9_settles 8 = .ok (.getfield 32, 3) := by decide +kernel
theorem dX9_settles_11 : decode cX9_settles 11 = .ok (.aload_n 0, 1) := by decide +kernel
theorem dX9_settles_12 : decode cX9_settles 12 = .ok (.getfield 149, 3) := by decide +kernel
theorem dX9_settles_15 : decode cX9_settles 15 = .ok (.iconst 1, 1) := by decide +kernel
theorem dX9_settles_16 : decode cX9_settles 16 = .ok (.isub, 1) := by decide +kernel
theorem dX9_settles_17 : decode cX9_settles 17 = .ok (.iaload, 1) := by decide +kernel
theorem dX9_settles_18 : decode cX9_settles 18 = .ok (.invokestatic 152, 3) := by decide +kernel
theorem dX9_settles_21 : decode cX9_settles 21 = .ok (.iload_n 1, 1) := by decide +kernel
theorem dX9_settles_22 : decode cX9_settles 22 = .ok (.if_icmp .lt 54, 3) := by decide +kernel
theorem dX9_settles_25 : decode cX9_settles 25 = .ok (.aload_n 0, 1) := by decide +kernel
theorem dX9_settles_26 : decode cX9_settles 26 = .ok (.dup, 1) := by decide +kernel
theorem dX9_settles_27 : decode cX9_settles 27 = .ok (.getfield 149, 3) := by decide +kernel
theorem dX9_settles_30 : decode cX9_settles 30 = .ok (.iconst 1, 1) := by decide +kernel
theorem dX9_settles_31 : decode cX9_settles 31 = .ok (.isub, 1) := by decide +kernel
theorem dX9_settles_32 : decode cX9_settles 32 = .ok (.putfield 149, 3) := by decide +kernel
theorem dX9_settles_35 : decode cX9_settles 35 = .ok (.aload_n 0, 1) := by decide +kernel
theorem dX9_settles_36 : decode cX9_settles 36 = .ok (.aload_n 0, 1) := by decide +kernel
theorem dX9_settles_37 : decode cX9_settles 37 = .ok (.getfield 32, 3) := by decide +kernel
theorem dX9_settles_40 : decode cX9_settles 40 = .ok (.aload_n 0, 1) := by decide +kernel
theorem dX9_settles_41 : decode cX9_settles 41 = .ok (.getfield 149, 3) := by decide +kernel
theorem dX9_settles_44 : decode cX9_settles 44 = .ok (.iaload, 1) := by decide +kernel
theorem dX9_settles_45 : decode cX9_settles 45 = .ok (.iconst 0, 1) := by decide +kernel
theorem dX9_settles_46 : decode cX9_settles 46 = .ok (.invokevirtual 156, 3) := by decide +kernel
theorem dX9_settles_49 : decode cX9_settles 49 = .ok (.aload_n 0, 1) := by decide +kernel
theorem dX9_settles_50 : decode cX9_settles 50 = .ok (.getfield 32, 3) := by decide +kernel
theorem dX9_settles_53 : decode cX9_settles 53 = .ok (.aload_n 0, 1) := by decide +kernel
theorem dX9_settles_54 : decode cX9_settles 54 = .ok (.getfield 149, 3) := by decide +kernel
theorem dX9_settles_57 : decode cX9_settles 57 = .ok (.iaload, 1) := by decide +kernel
theorem dX9_settles_58 : decode cX9_settles 58 = .ok (.bipush 11, 2) := by decide +kernel
theorem dX9_settles_60 : decode cX9_settles 60 = .ok (.if_icmp .ne (-60), 3) := by decide +kernel
theorem dX9_settles_63 : decode cX9_settles 63 = .ok (.aload_n 0, 1) := by decide +kernel
theorem dX9_settles_64 : decode cX9_settles 64 = .ok (.dup, 1) := by decide +kernel
theorem dX9_settles_65 : decode cX9_settles 65 = .ok (.getfield 146, 3) := by decide +kernel
theorem dX9_settles_68 : decode cX9_settles 68 = .ok (.iconst 1, 1) := by decide +kernel
theorem dX9_settles_69 : decode cX9_settles 69 = .ok (.isub, 1) := by decide +kernel
theorem dX9_settles_70 : decode cX9_settles 70 = .ok (.putfield 146, 3) := by decide +kernel
theorem dX9_settles_73 : decode cX9_settles 73 = .ok (.goto (-73), 3) := by decide +kernel
theorem dX9_settles_76 : decode cX9_settles 76 = .ok (.return_, 1) := by decide +kernel
theorem dX9_stops_0 : decode cX9_stops 0 = .ok (.aload_n 0, 1) := by decide +kernel
theorem dX9_stops_1 : decode cX9_stops 1 = .ok (.iload_n 2, 1) := by decide +kernel
theorem dX9_stops_2 : decode cX9_stops 2 = .ok (.invokevirtual 319, 3) := by decide +kernel
theorem dX9_stops_5 : decode cX9_stops 5 = .ok (.iconst 0, 1) := by decide +kernel
theorem dX9_stops_6 : decode cX9_stops 6 = .ok (.istore_n 3, 1) := by decide +kernel
theorem dX9_stops_7 : decode cX9_stops 7 = .ok (.iload_n 3, 1) := by decide +kernel
theorem dX9_stops_8 : decode cX9_stops 8 = .ok (.aload_n 0, 1) := by decide +kernel
theorem dX9_stops_9 : decode cX9_stops 9 = .ok (.getfield 23, 3) := by decide +kernel
theorem dX9_stops_12 : decode cX9_stops 12 = .ok (.iload_n 1, 1) := by decide +kernel
theorem dX9_stops_13 : decode cX9_stops 13 = .ok (.iaload, 1) := by decide +kernel
theorem dX9_stops_14 : decode cX9_stops 14 = .ok (.if_icmp .ge 60, 3) := by decide +kernel
theorem dX9_stops_17 : decode cX9_stops 17 = .ok (.bipush 60, 2) := by decide +kernel
theorem dX9_stops_19 : decode cX9_stops 19 = .ok (.iload_n 1, 1) := by decide +kernel
theorem dX9_stops_20 : decode cX9_stops 20 = .ok (.imul, 1) := by decide +kernel
theorem dX9_stops_21 : decode cX9_stops 21 = .ok (.iconst 5, 1) := by decide +kernel
theorem dX9_stops_22 : decode cX9_stops 22 = .ok (.iload_n 3, 1) := by decide +kernel
theorem dX9_stops_23 : decode cX9_stops 23 = .ok (.imul, 1) := by decide +kernel
theorem dX9_stops_24 : decode cX9_stops 24 = .ok (.iadd, 1) := by decide +kernel
theorem dX9_stops_25 : decode cX9_stops 25 = .ok (.istore 4, 2) := by decide +kernel
theorem dX9_stops_27 : decode cX9_stops 27 = .ok (.aload_n 0, 1) := by decide +kernel
theorem dX9_stops_28 : decode cX9_stops 28 = .ok (.getfield 20, 3) := by decide +kernel
theorem dX9_stops_31 : decode cX9_stops 31 = .ok (.iload 4, 2) := by decide +kernel
theorem dX9_stops_33 : decode cX9_stops 33 = .ok (.iaload, 1) := by decide +kernel
theorem dX9_stops_34 : decode cX9_stops 34 = .ok (.iconst 1, 1) := by decide +kernel
theorem dX9_stops_35 : decode cX9_stops 35 = .ok (.if_icmp .ne 33, 3) := by decide +kernel
theorem dX9_stops_38 : decode cX9_stops 38 = .ok (.aload_n 0, 1) := by decide +kernel
theorem dX9_stops_39 : decode cX9_stops 39 = .ok (.iload_n 1, 1) := by decide +kernel
theorem dX9_stops_40 : decode cX9_stops 40 = .ok (.aload_n 0, 1) := by decide +kernel
theorem dX9_stops_41 : decode cX9_stops 41 = .ok (.getfield 20, 3) := by decide +kernel
theorem dX9_stops_44 : decode cX9_stops 44 = .ok (.iload 4, 2) := by decide +kernel
theorem dX9_stops_46 : decode cX9_stops 46 = .ok (.iconst 3, 1) := by decide +kernel
theorem dX9_stops_47 : decode cX9_stops 47 = .ok (.iadd, 1) := by decide +kernel
theorem dX9_stops_48 : decode cX9_stops 48 = .ok (.iaload, 1) := by decide +kernel
theorem dX9_stops_49 : decode cX9_stops 49 = .ok (.aload_n 0, 1) := by decide +kernel
theorem dX9_stops_50 : decode cX9_stops 50 = .ok (.getfield 20, 3) := by decide +kernel
theorem dX9_stops_53 : decode cX9_stops 53 = .ok (.iload 4, 2) := by decide +kernel
theorem dX9_stops_55 : decode cX9_stops 55 = .ok (.iconst 4, 1) := by decide +kernel
theorem dX9_stops_56 : decode cX9_stops 56 = .ok (.iadd, 1) := by decide +kernel
theorem dX9_stops_57 : decode cX9_stops 57 = .ok (.iaload, 1) := by decide +kernel
theorem dX9_stops_58 : decode cX9_stops 58 = .ok (.invokevirtual 322, 3) := by decide +kernel
theorem dX9_stops_61 : decode cX9_stops 61 = .ok (.lconst 1, 1) := by decide +kernel
theorem dX9_stops_62 : decode cX9_stops 62 = .ok (.lcmp, 1) := by decide +kernel
theorem dX9_stops_63 : decode cX9_stops 63 = .ok (.ifCond .ne 5, 3) := by decide +kernel
theorem dX9_stops_66 : decode cX9_stops 66 = .ok (.iconst 1, 1) := by decide +kernel
theorem dX9_stops_67 : decode cX9_stops 67 = .ok (.ireturn, 1) := by decide +kernel
theorem dX9_stops_68 : decode cX9_stops 68 = .ok (.iinc 3 1, 3) := by decide +kernel
theorem dX9_stops_71 : decode cX9_stops 71 = .ok (.goto (-64), 3) := by decide +kernel
theorem dX9_stops_74 : decode cX9_stops 74 = .ok (.iconst 0, 1) := by decide +kernel
theorem dX9_stops_75 : decode cX9_stops 75 = .ok (.ireturn, 1) := by decide +kernel
theorem dX9_strength_0 : decode cX9_strength 0 = .ok (.iload_n 0, 1) := by decide +kernel
theorem dX9_strength_1 : decode cX9_strength 1 = .ok (.bipush 13, 2) := by decide +kernel
theorem dX9_strength_3 : decode cX9_strength 3 = .ok (.if_icmp .ne 7, 3) := by decide +kernel
theorem dX9_strength_6 : decode cX9_strength 6 = .ok (.iconst 1, 1) := by decide +kernel
theorem dX9_strength_7 : decode cX9_strength 7 = .ok (.goto 24, 3) := by decide +kernel
theorem dX9_strength_10 : decode cX9_strength 10 = .ok (.iload_n 0, 1) := by decide +kernel
theorem dX9_strength_11 : decode cX9_strength 11 = .ok (.bipush 12, 2) := by decide +kernel
theorem dX9_strength_13 : decode cX9_strength 13 = .ok (.if_icmp .ne 7, 3) := by decide +kernel
theorem dX9_strength_16 : decode cX9_strength 16 = .ok (.iconst 2, 1) := by decide +kernel
theorem dX9_strength_17 : decode cX9_strength 17 = .ok (.goto 14, 3) := by decide +kernel
theorem dX9_strength_20 : decode cX9_strength 20 = .ok (.iload_n 0, 1) := by decide +kernel
theorem dX9_strength_21 : decode cX9_strength 21 = .ok (.bipush 11, 2) := by decide +kernel
theorem dX9_strength_23 : decode cX9_strength 23 = .ok (.if_icmp .ne 7, 3) := by decide +kernel
theorem dX9_strength_26 : decode cX9_strength 26 = .ok (.iconst 3, 1) := by decide +kernel
theorem dX9_strength_27 : decode cX9_strength 27 = .ok (.goto 4, 3) := by decide +kernel
theorem dX9_strength_30 : decode cX9_strength 30 = .ok (.iconst 0, 1) := by decide +kernel
theorem dX9_strength_31 : decode cX9_strength 31 = .ok (.ireturn, 1) := by decide +kernel
theorem dX9_sum_0 : decode cX9_sum 0 = .ok (.aload_n 0, 1) := by decide +kernel
theorem dX9_sum_1 : decode cX9_sum 1 = .ok (.invokevirtual 174, 3) := by decide +kernel
theorem dX9_sum_4 : decode cX9_sum 4 = .ok (.ifCond .ne 5, 3) := by decide +kernel
theorem dX9_sum_7 : decode cX9_sum 7 = .ok (.iconst 0, 1) := by decide +kernel
theorem dX9_sum_8 : decode cX9_sum 8 = .ok (.ireturn, 1) := by decide +kernel
theorem dX9_sum_9 : decode cX9_sum 9 = .ok (.aload_n 0, 1) := by decide +kernel
theorem dX9_sum_10 : decode cX9_sum 10 = .ok (.invokevirtual 93, 3) := by decide +kernel
theorem dX9_sum_13 : decode cX9_sum 13 = .ok (.bipush 43, 2) := by decide +kernel
theorem dX9_sum_15 : decode cX9_sum 15 = .ok (.if_icmp .eq 12, 3) := by decide +kernel
theorem dX9_sum_18 : decode cX9_sum 18 = .ok (.aload_n 0, 1) := by decide +kernel
theorem dX9_sum_19 : decode cX9_sum 19 = .ok (.invokevirtual 93, 3) := by decide +kernel
theorem dX9_sum_22 : decode cX9_sum 22 = .ok (.bipush 45, 2) := by decide +kernel
theorem dX9_sum_24 : decode cX9_sum 24 = .ok (.if_icmp .ne 51, 3) := by decide +kernel
theorem dX9_sum_27 : decode cX9_sum 27 = .ok (.aload_n 0, 1) := by decide +kernel
theorem dX9_sum_28 : decode cX9_sum 28 = .ok (.getfield 7, 3) := by decide +kernel
theorem dX9_sum_31 : decode cX9_sum 31 = .ok (.aload_n 0, 1) := by decide +kernel
theorem dX9_sum_32 : decode cX9_sum 32 = .ok (.getfield 90, 3) := by decide +kernel
theorem dX9_sum_35 : decode cX9_sum 35 = .ok (.baload, 1) := by decide +kernel
theorem dX9_sum_36 : decode cX9_sum 36 = .ok (.bipush 43, 2) := by decide +kernel
theorem dX9_sum_38 : decode cX9_sum 38 = .ok (.if_icmp .ne 7, 3) := by decide +kernel
theorem dX9_sum_41 : decode cX9_sum 41 = .ok (.iconst 2, 1) := by decide +kernel
theorem dX9_sum_42 : decode cX9_sum 42 = .ok (.goto 4, 3) := by decide +kernel
theorem dX9_sum_45 : decode cX9_sum 45 = .ok (.iconst 3, 1) := by decide +kernel
theorem dX9_sum_46 : decode cX9_sum 46 = .ok (.istore_n 1, 1) := by decide +kernel
theorem dX9_sum_47 : decode cX9_sum 47 = .ok (.aload_n 0, 1) := by decide +kernel
theorem dX9_sum_48 : decode cX9_sum 48 = .ok (.dup, 1) := by decide +kernel
theorem dX9_sum_49 : decode cX9_sum 49 = .ok (.getfield 90, 3) := by decide +kernel
theorem dX9_sum_52 : decode cX9_sum 52 = .ok (.iconst 1, 1) := by decide +kernel
theorem dX9_sum_53 : decode cX9_sum 53 = .ok (.iadd, 1) := by decide +kernel
theorem dX9_sum_54 : decode cX9_sum 54 = .ok (.putfield 90, 3) := by decide +kernel
theorem dX9_sum_57 : decode cX9_sum 57 = .ok (.aload_n 0, 1) := by decide +kernel
theorem dX9_sum_58 : decode cX9_sum 58 = .ok (.invokevirtual 174, 3) := by decide +kernel
theorem dX9_sum_61 : decode cX9_sum 61 = .ok (.ifCond .ne 5, 3) := by decide +kernel
theorem dX9_sum_64 : decode cX9_sum 64 = .ok (.iconst 0, 1) := by decide +kernel
theorem dX9_sum_65 : decode cX9_sum 65 = .ok (.ireturn, 1) := by decide +kernel
theorem dX9_sum_66 : decode cX9_sum 66 = .ok (.aload_n 0, 1) := by decide +kernel
theorem dX9_sum_67 : decode cX9_sum 67 = .ok (.iload_n 1, 1) := by decide +kernel
theorem dX9_sum_68 : decode cX9_sum 68 = .ok (.iconst 0, 1) := by decide +kernel
theorem dX9_sum_69 : decode cX9_sum 69 = .ok (.invokevirtual 156, 3) := by decide +kernel
theorem dX9_sum_72 : decode cX9_sum 72 = .ok (.goto (-63), 3) := by decide +kernel
theorem dX9_sum_75 : decode cX9_sum 75 = .ok (.iconst 1, 1) := by decide +kernel
theorem dX9_sum_76 : decode cX9_sum 76 = .ok (.ireturn, 1) := by decide +kernel
theorem dX9_takes_0 : decode cX9_takes 0 = .ok (.aload_n 0, 1) := by decide +kernel
theorem dX9_takes_1 : decode cX9_takes 1 = .ok (.getfield 48, 3) := by decide +kernel
theorem dX9_takes_4 : decode cX9_takes 4 = .ok (.iload_n 1, 1) := by decide +kernel
theorem dX9_takes_5 : decode cX9_takes 5 = .ok (.iaload, 1) := by decide +kernel
theorem dX9_takes_6 : decode cX9_takes 6 = .ok (.istore 7, 2) := by decide +kernel
theorem dX9_takes_8 : decode cX9_takes 8 = .ok (.aload_n 0, 1) := by decide +kernel
theorem dX9_takes_9 : decode cX9_takes 9 = .ok (.getfield 51, 3) := by decide +kernel
theorem dX9_takes_12 : decode cX9_takes 12 = .ok (.iload_n 1, 1) := by decide +kernel
theorem dX9_takes_13 : decode cX9_takes 13 = .ok (.baload, 1) := by decide +kernel
theorem dX9_takes_14 : decode cX9_takes 14 = .ok (.ifCond .eq 44, 3) := by decide +kernel
theorem dX9_takes_17 : decode cX9_takes 17 = .ok (.aload_n 0, 1) := by decide +kernel
theorem dX9_takes_18 : decode cX9_takes 18 = .ok (.getfield 55, 3) := by decide +kernel
theorem dX9_takes_21 : decode cX9_takes 21 = .ok (.iload_n 1, 1) := by decide +kernel
theorem dX9_takes_22 : decode cX9_takes 22 = .ok (.aload_n 0, 1) := by decide +kernel
theorem dX9_takes_23 : decode cX9_takes 23 = .ok (.iload 7, 2) := by decide +kernel
theorem dX9_takes_25 : decode cX9_takes 25 = .ok (.iconst 0, 1) := by decide +kernel
theorem dX9_takes_26 : decode cX9_takes 26 = .ok (.invokevirtual 275, 3) := by decide +kernel
theorem dX9_takes_29 : decode cX9_takes 29 = .ok (.i2l, 1) := by decide +kernel
theorem dX9_takes_30 : decode cX9_takes 30 = .ok (.aload_n 0, 1) := by decide +kernel
theorem dX9_takes_31 : decode cX9_takes 31 = .ok (.iload_n 2, 1) := by decide +kernel
theorem dX9_takes_32 : decode cX9_takes 32 = .ok (.iload_n 1, 1) := by decide +kernel
theorem dX9_takes_33 : decode cX9_takes 33 = .ok (.isub, 1) := by decide +kernel
theorem dX9_takes_34 : decode cX9_takes 34 = .ok (.iconst 1, 1) := by decide +kernel
theorem dX9_takes_35 : decode cX9_takes 35 = .ok (.isub, 1) := by decide +kernel
theorem dX9_takes_36 : decode cX9_takes 36 = .ok (.invokevirtual 367, 3) := by decide +kernel
theorem dX9_takes_39 : decode cX9_takes 39 = .ok (.lmul, 1) := by decide +kernel
theorem dX9_takes_40 : decode cX9_takes 40 = .ok (.lload_n 3, 1) := by decide +kernel
theorem dX9_takes_41 : decode cX9_takes 41 = .ok (.ladd, 1) := by decide +kernel
theorem dX9_takes_42 : decode cX9_takes 42 = .ok (.lastore, 1) := by decide +kernel
theorem dX9_takes_43 : decode cX9_takes 43 = .ok (.aload_n 0, 1) := by decide +kernel
theorem dX9_takes_44 : decode cX9_takes 44 = .ok (.getfield 58, 3) := by decide +kernel
theorem dX9_takes_47 : decode cX9_takes 47 = .ok (.iload_n 1, 1) := by decide +kernel
theorem dX9_takes_48 : decode cX9_takes 48 = .ok (.lload 5, 2) := by decide +kernel
theorem dX9_takes_50 : decode cX9_takes 50 = .ok (.lastore, 1) := by decide +kernel
theorem dX9_takes_51 : decode cX9_takes 51 = .ok (.aload_n 0, 1) := by decide +kernel
theorem dX9_takes_52 : decode cX9_takes 52 = .ok (.iload_n 1, 1) := by decide +kernel
theorem dX9_takes_53 : decode cX9_takes 53 = .ok (.iconst 0, 1) := by decide +kernel
theorem dX9_takes_54 : decode cX9_takes 54 = .ok (.invokevirtual 374, 3) := by decide +kernel
theorem dX9_takes_57 : decode cX9_takes 57 = .ok (.return_, 1) := by decide +kernel
theorem dX9_takes_58 : decode cX9_takes 58 = .ok (.aload_n 0, 1) := by decide +kernel
theorem dX9_takes_59 : decode cX9_takes 59 = .ok (.iload 7, 2) := by decide +kernel
theorem dX9_takes_61 : decode cX9_takes 61 = .ok (.iconst 2, 1) := by decide +kernel
theorem dX9_takes_62 : decode cX9_takes 62 = .ok (.invokevirtual 268, 3) := by decide +kernel
theorem dX9_takes_65 : decode cX9_takes 65 = .ok (.istore 8, 2) := by decide +kernel
theorem dX9_takes_67 : decode cX9_takes 67 = .ok (.iload 8, 2) := by decide +kernel
theorem dX9_takes_69 : decode cX9_takes 69 = .ok (.i2l, 1) := by decide +kernel
theorem dX9_takes_70 : decode cX9_takes 70 = .ok (.aload_n 0, 1) := by decide +kernel
theorem dX9_takes_71 : decode cX9_takes 71 = .ok (.getfield 55, 3) := by decide +kernel
theorem dX9_takes_74 : decode cX9_takes 74 = .ok (.iload_n 1, 1) := by decide +kernel
theorem dX9_takes_75 : decode cX9_takes 75 = .ok (.laload, 1) := by decide +kernel
theorem dX9_takes_76 : decode cX9_takes 76 = .ok (.lmul, 1) := by decide +kernel
theorem dX9_takes_77 : decode cX9_takes 77 = .ok (.bipush 100, 2) := by decide +kernel
theorem dX9_takes_79 : decode cX9_takes 79 = .ok (.iload 8, 2) := by decide +kernel
theorem dX9_takes_81 : decode cX9_takes 81 = .ok (.isub, 1) := by decide +kernel
theorem dX9_takes_82 : decode cX9_takes 82 = .ok (.i2l, 1) := by decide +kernel
theorem dX9_takes_83 : decode cX9_takes 83 = .ok (.lload_n 3, 1) := by decide +kernel
theorem dX9_takes_84 : decode cX9_takes 84 = .ok (.lmul, 1) := by decide +kernel
theorem dX9_takes_85 : decode cX9_takes 85 = .ok (.ladd, 1) := by decide +kernel
theorem dX9_takes_86 : decode cX9_takes 86 = .ok (.lstore 9, 2) := by decide +kernel
theorem dX9_takes_88 : decode cX9_takes 88 = .ok (.aload_n 0, 1) := by decide +kernel
theorem dX9_takes_89 : decode cX9_takes 89 = .ok (.getfield 42, 3) := by decide +kernel
theorem dX9_takes_92 : decode cX9_takes 92 = .ok (.iconst 3, 1) := by decide +kernel
theorem dX9_takes_93 : decode cX9_takes 93 = .ok (.aload_n 0, 1) := by decide +kernel
theorem dX9_takes_94 : decode cX9_takes 94 = .ok (.getfield 70, 3) := by decide +kernel
theorem dX9_takes_97 : decode cX9_takes 97 = .ok (.iload_n 1, 1) := by decide +kernel
theorem dX9_takes_98 : decode cX9_takes 98 = .ok (.iaload, 1) := by decide +kernel
theorem dX9_takes_99 : decode cX9_takes 99 = .ok (.iastore, 1) := by decide +kernel
theorem dX9_takes_100 : decode cX9_takes 100 = .ok (.lload 9, 2) := by decide +kernel
theorem dX9_takes_102 : decode cX9_takes 102 = .ok (.aload_n 0, 1) := by decide +kernel
theorem dX9_takes_103 : decode cX9_takes 103 = .ok (.getfield 61, 3) := by decide +kernel
theorem dX9_takes_106 : decode cX9_takes 106 = .ok (.iload_n 1, 1) := by decide +kernel
theorem dX9_takes_107 : decode cX9_takes 107 = .ok (.laload, 1) := by decide +kernel
theorem dX9_takes_108 : decode cX9_takes 108 = .ok (.lcmp, 1) := by decide +kernel
theorem dX9_takes_109 : decode cX9_takes 109 = .ok (.ifCond .gt 4, 3) := by decide +kernel
theorem dX9_takes_112 : decode cX9_takes 112 = .ok (.return_, 1) := by decide +kernel
theorem dX9_takes_113 : decode cX9_takes 113 = .ok (.aload_n 0, 1) := by decide +kernel
theorem dX9_takes_114 : decode cX9_takes 114 = .ok (.getfield 61, 3) := by decide +kernel
theorem dX9_takes_117 : decode cX9_takes 117 = .ok (.iload_n 1, 1) := by decide +kernel
theorem dX9_takes_118 : decode cX9_takes 118 = .ok (.lload 9, 2) := by decide +kernel
theorem dX9_takes_120 : decode cX9_takes 120 = .ok (.lastore, 1) := by decide +kernel
theorem dX9_takes_121 : decode cX9_takes 121 = .ok (.aload_n 0, 1) := by decide +kernel
theorem dX9_takes_122 : decode cX9_takes 122 = .ok (.getfield 64, 3) := by decide +kernel
theorem dX9_takes_125 : decode cX9_takes 125 = .ok (.iload_n 1, 1) := by decide +kernel
theorem dX9_takes_126 : decode cX9_takes 126 = .ok (.iload 8, 2) := by decide +kernel
theorem dX9_takes_128 : decode cX9_takes 128 = .ok (.i2l, 1) := by decide +kernel
theorem dX9_takes_129 : decode cX9_takes 129 = .ok (.aload_n 0, 1) := by decide +kernel
theorem dX9_takes_130 : decode cX9_takes 130 = .ok (.getfield 58, 3) := by decide +kernel
theorem dX9_takes_133 : decode cX9_takes 133 = .ok (.iload_n 1, 1) := by decide +kernel
theorem dX9_takes_134 : decode cX9_takes 134 = .ok (.laload, 1) := by decide +kernel
theorem dX9_takes_135 : decode cX9_takes 135 = .ok (.lmul, 1) := by decide +kernel
theorem dX9_takes_136 : decode cX9_takes 136 = .ok (.bipush 100, 2) := by decide +kernel
theorem dX9_takes_138 : decode cX9_takes 138 = .ok (.iload 8, 2) := by decide +kernel
theorem dX9_takes_140 : decode cX9_takes 140 = .ok (.isub, 1) := by decide +kernel
theorem dX9_takes_141 : decode cX9_takes 141 = .ok (.i2l, 1) := by decide +kernel
theorem dX9_takes_142 : decode cX9_takes 142 = .ok (.lload 5, 2) := by decide +kernel
theorem dX9_takes_144 : decode cX9_takes 144 = .ok (.lmul, 1) := by decide +kernel
theorem dX9_takes_145 : decode cX9_takes 145 = .ok (.ladd, 1) := by decide +kernel
theorem dX9_takes_146 : decode cX9_takes 146 = .ok (.lastore, 1) := by decide +kernel
theorem dX9_takes_147 : decode cX9_takes 147 = .ok (.aload_n 0, 1) := by decide +kernel
theorem dX9_takes_148 : decode cX9_takes 148 = .ok (.getfield 67, 3) := by decide +kernel
theorem dX9_takes_151 : decode cX9_takes 151 = .ok (.iload_n 1, 1) := by decide +kernel
theorem dX9_takes_152 : decode cX9_takes 152 = .ok (.iload 7, 2) := by decide +kernel
theorem dX9_takes_154 : decode cX9_takes 154 = .ok (.iastore, 1) := by decide +kernel
theorem dX9_takes_155 : decode cX9_takes 155 = .ok (.return_, 1) := by decide +kernel
theorem dX9_takesWord_0 : decode cX9_takesWord 0 = .ok (.aload_n 0, 1) := by decide +kernel
theorem dX9_takesWord_1 : decode cX9_takesWord 1 = .ok (.lload_n 1, 1) := by decide +kernel
theorem dX9_takesWord_2 : decode cX9_takesWord 2 = .ok (.invokevirtual 101, 3) := by decide +kernel
theorem dX9_takesWord_5 : decode cX9_takesWord 5 = .ok (.ifCond .ne 5, 3) := by decide +kernel
theorem dX9_takesWord_8 : decode cX9_takesWord 8 = .ok (.iconst 0, 1) := by decide +kernel
theorem dX9_takesWord_9 : decode cX9_takesWord 9 = .ok (.ireturn, 1) := by decide +kernel
theorem dX9_takesWord_10 : decode cX9_takesWord 10 = .ok (.aload_n 0, 1) := by decide +kernel
theorem dX9_takesWord_11 : decode cX9_takesWord 11 = .ok (.invokevirtual 105, 3) := by decide +kernel
theorem dX9_takesWord_14 : decode cX9_takesWord 14 = .ok (.iconst 1, 1) := by decide +kernel
theorem dX9_takesWord_15 : decode cX9_takesWord 15 = .ok (.ireturn, 1) := by decide +kernel
theorem dX9_term_0 : decode cX9_term 0 = .ok (.aload_n 0, 1) := by decide +kernel
theorem dX9_term_1 : decode cX9_term 1 = .ok (.invokevirtual 170, 3) := by decide +kernel
theorem dX9_term_4 : decode cX9_term 4 = .ok (.ifCond .ne 5, 3) := by decide +kernel
theorem dX9_term_7 : decode cX9_term 7 = .ok (.iconst 0, 1) := by decide +kernel
theorem dX9_term_8 : decode cX9_term 8 = .ok (.ireturn, 1) := by decide +kernel
theorem dX9_term_9 : decode cX9_term 9 = .ok (.aload_n 0, 1) := by decide +kernel
theorem dX9_term_10 : decode cX9_term 10 = .ok (.invokevirtual 93, 3) := by decide +kernel
theorem dX9_term_13 : decode cX9_term 13 = .ok (.bipush 42, 2) := by decide +kernel
theorem dX9_term_15 : decode cX9_term 15 = .ok (.if_icmp .eq 12, 3) := by decide +kernel
theorem dX9_term_18 : decode cX9_term 18 = .ok (.aload_n 0, 1) := by decide +kernel
theorem dX9_term_19 : decode cX9_term 19 = .ok (.invokevirtual 93, 3) := by decide +kernel
theorem dX9_term_22 : decode cX9_term 22 = .ok (.bipush 47, 2) := by decide +kernel
theorem dX9_term_24 : decode cX9_term 24 = .ok (.if_icmp .ne 51, 3) := by decide +kernel
theorem dX9_term_27 : decode cX9_term 27 = .ok (.aload_n 0, 1) := by decide +kernel
theorem dX9_term_28 : decode cX9_term 28 = .ok (.getfield 7, 3) := by decide +kernel
theorem dX9_term_31 : decode cX9_term 31 = .ok (.aload_n 0, 1) := by decide +kernel
theorem dX9_term_32 : decode cX9_term 32 = .ok (.getfield 90, 3) := by decide +kernel
theorem dX9_term_35 : decode cX9_term 35 = .ok (.baload, 1) := by decide +kernel
theorem dX9_term_36 : decode cX9_term 36 = .ok (.bipush 42, 2) := by decide +kernel
theorem dX9_term_38 : decode cX9_term 38 = .ok (.if_icmp .ne 7, 3) := by decide +kernel
theorem dX9_term_41 : decode cX9_term 41 = .ok (.iconst 4, 1) := by decide +kernel
theorem dX9_term_42 : decode cX9_term 42 = .ok (.goto 4, 3) := by decide +kernel
theorem dX9_term_45 : decode cX9_term 45 = .ok (.iconst 5, 1) := by decide +kernel
theorem dX9_term_46 : decode cX9_term 46 = .ok (.istore_n 1, 1) := by decide +kernel
theorem dX9_term_47 : decode cX9_term 47 = .ok (.aload_n 0, 1) := by decide +kernel
theorem dX9_term_48 : decode cX9_term 48 = .ok (.dup, 1) := by decide +kernel
theorem dX9_term_49 : decode cX9_term 49 = .ok (.getfield 90, 3) := by decide +kernel
theorem dX9_term_52 : decode cX9_term 52 = .ok (.iconst 1, 1) := by decide +kernel
theorem dX9_term_53 : decode cX9_term 53 = .ok (.iadd, 1) := by decide +kernel
theorem dX9_term_54 : decode cX9_term 54 = .ok (.putfield 90, 3) := by decide +kernel
theorem dX9_term_57 : decode cX9_term 57 = .ok (.aload_n 0, 1) := by decide +kernel
theorem dX9_term_58 : decode cX9_term 58 = .ok (.invokevirtual 170, 3) := by decide +kernel
theorem dX9_term_61 : decode cX9_term 61 = .ok (.ifCond .ne 5, 3) := by decide +kernel
theorem dX9_term_64 : decode cX9_term 64 = .ok (.iconst 0, 1) := by decide +kernel
theorem dX9_term_65 : decode cX9_term 65 = .ok (.ireturn, 1) := by decide +kernel
theorem dX9_term_66 : decode cX9_term 66 = .ok (.aload_n 0, 1) := by decide +kernel
theorem dX9_term_67 : decode cX9_term 67 = .ok (.iload_n 1, 1) := by decide +kernel
theorem dX9_term_68 : decode cX9_term 68 = .ok (.iconst 0, 1) := by decide +kernel
theorem dX9_term_69 : decode cX9_term 69 = .ok (.invokevirtual 156, 3) := by decide +kernel
theorem dX9_term_72 : decode cX9_term 72 = .ok (.goto (-63), 3) := by decide +kernel
theorem dX9_term_75 : decode cX9_term 75 = .ok (.iconst 1, 1) := by decide +kernel
theorem dX9_term_76 : decode cX9_term 76 = .ok (.ireturn, 1) := by decide +kernel
theorem dX9_tested_0 : decode cX9_tested 0 = .ok (.aload_n 0, 1) := by decide +kernel
theorem dX9_tested_1 : decode cX9_tested 1 = .ok (.iconst 0, 1) := by decide +kernel
theorem dX9_tested_2 : decode cX9_tested 2 = .ok (.putfield 149, 3) := by decide +kernel
theorem dX9_tested_5 : decode cX9_tested 5 = .ok (.aload_n 0, 1) := by decide +kernel
theorem dX9_tested_6 : decode cX9_tested 6 = .ok (.iconst 0, 1) := by decide +kernel
theorem dX9_tested_7 : decode cX9_tested 7 = .ok (.putfield 146, 3) := by decide +kernel
theorem dX9_tested_10 : decode cX9_tested 10 = .ok (.iconst 1, 1) := by decide +kernel
theorem dX9_tested_11 : decode cX9_tested 11 = .ok (.istore_n 1, 1) := by decide +kernel
theorem dX9_tested_12 : decode cX9_tested 12 = .ok (.iload_n 1, 1) := by decide +kernel
theorem dX9_tested_13 : decode cX9_tested 13 = .ok (.ifCond .eq 99, 3) := by decide +kernel
