theorem dX9_couldBe_5 : decode cX9_couldBe 5 = .ok (.iconst 0, 1) := by decide +kernel
theorem dX9_couldBe_6 : decode cX9_couldBe 6 = .ok (.istore 5, 2) := by decide +kernel
theorem dX9_couldBe_8 : decode cX9_couldBe 8 = .ok (.iload 5, 2) := by decide +kernel
theorem dX9_couldBe_10 : decode cX9_couldBe 10 = .ok (.aload_n 0, 1) := by decide +kernel
theorem dX9_couldBe_11 : decode cX9_couldBe 11 = .ok (.getfield 42, 3) := by decide +kernel
theorem dX9_couldBe_14 : decode cX9_couldBe 14 = .ok (.iconst 0, 1) := by decide +kernel
theorem dX9_couldBe_15 : decode cX9_couldBe 15 = .ok (.iaload, 1) := by decide +kernel
theorem dX9_couldBe_16 : decode cX9_couldBe 16 = .ok (.if_icmp .ge 100, 3) := by decide +kernel
theorem dX9_couldBe_19 : decode cX9_couldBe 19 = .ok (.iload_n 1, 1) := by decide +kernel
theorem dX9_couldBe_20 : decode cX9_couldBe 20 = .ok (.iload 5, 2) := by decide +kernel
theorem dX9_couldBe_22 : decode cX9_couldBe 22 = .ok (.invokestatic 349, 3) := by decide +kernel
theorem dX9_couldBe_25 : decode cX9_couldBe 25 = .ok (.ifCond .ne 6, 3) := by decide +kernel
theorem dX9_couldBe_28 : decode cX9_couldBe 28 = .ok (.goto 82, 3) := by decide +kernel
theorem dX9_couldBe_31 : decode cX9_couldBe 31 = .ok (.aload_n 0, 1) := by decide +kernel
theorem dX9_couldBe_32 : decode cX9_couldBe 32 = .ok (.iload 5, 2) := by decide +kernel
theorem dX9_couldBe_34 : decode cX9_couldBe 34 = .ok (.iconst 3, 1) := by decide +kernel
theorem dX9_couldBe_35 : decode cX9_couldBe 35 = .ok (.invokevirtual 268, 3) := by decide +kernel
theorem dX9_couldBe_38 : decode cX9_couldBe 38 = .ok (.istore 6, 2) := by decide +kernel
theorem dX9_couldBe_40 : decode cX9_couldBe 40 = .ok (.aload_n 0, 1) := by decide +kernel
theorem dX9_couldBe_41 : decode cX9_couldBe 41 = .ok (.iload 5, 2) := by decide +kernel
theorem dX9_couldBe_43 : decode cX9_couldBe 43 = .ok (.iconst 2, 1) := by decide +kernel
theorem dX9_couldBe_44 : decode cX9_couldBe 44 = .ok (.invokevirtual 268, 3) := by decide +kernel
theorem dX9_couldBe_47 : decode cX9_couldBe 47 = .ok (.ifCond .eq 39, 3) := by decide +kernel
theorem dX9_couldBe_50 : decode cX9_couldBe 50 = .ok (.aload_n 0, 1) := by decide +kernel
theorem dX9_couldBe_51 : decode cX9_couldBe 51 = .ok (.iload 5, 2) := by decide +kernel
theorem dX9_couldBe_53 : decode cX9_couldBe 53 = .ok (.iconst 4, 1) := by decide +kernel
theorem dX9_couldBe_54 : decode cX9_couldBe 54 = .ok (.invokevirtual 268, 3) := by decide +kernel
theorem dX9_couldBe_57 : decode cX9_couldBe 57 = .ok (.iconst 2, 1) := by decide +kernel
theorem dX9_couldBe_58 : decode cX9_couldBe 58 = .ok (.if_icmp .eq 28, 3) := by decide +kernel
theorem dX9_couldBe_61 : decode cX9_couldBe 61 = .ok (.iload 6, 2) := by decide +kernel
theorem dX9_couldBe_63 : decode cX9_couldBe 63 = .ok (.ifCond .lt 25, 3) := by decide +kernel
theorem dX9_couldBe_66 : decode cX9_couldBe 66 = .ok (.iload_n 1, 1) := by decide +kernel
theorem dX9_couldBe_67 : decode cX9_couldBe 67 = .ok (.iload 6, 2) := by decide +kernel
theorem dX9_couldBe_69 : decode cX9_couldBe 69 = .ok (.invokestatic 349, 3) := by decide +kernel
theorem dX9_couldBe_72 : decode cX9_couldBe 72 = .ok (.ifCond .ne 16, 3) := by decide +kernel
theorem dX9_couldBe_75 : decode cX9_couldBe 75 = .ok (.aload_n 0, 1) := by decide +kernel
theorem dX9_couldBe_76 : decode cX9_couldBe 76 = .ok (.iload 6, 2) := by decide +kernel
theorem dX9_couldBe_78 : decode cX9_couldBe 78 = .ok (.iconst 4, 1) := by decide +kernel
theorem dX9_couldBe_79 : decode cX9_couldBe 79 = .ok (.invokevirtual 268, 3) := by decide +kernel
theorem dX9_couldBe_82 : decode cX9_couldBe 82 = .ok (.iconst 2, 1) := by decide +kernel
theorem dX9_couldBe_83 : decode cX9_couldBe 83 = .ok (.if_icmp .eq 5, 3) := by decide +kernel
theorem dX9_couldBe_86 : decode cX9_couldBe 86 = .ok (.iconst 0, 1) := by decide +kernel
theorem dX9_couldBe_87 : decode cX9_couldBe 87 = .ok (.ireturn, 1) := by decide +kernel
theorem dX9_couldBe_88 : decode cX9_couldBe 88 = .ok (.iload_n 3, 1) := by decide +kernel
theorem dX9_couldBe_89 : decode cX9_couldBe 89 = .ok (.aload_n 0, 1) := by decide +kernel
theorem dX9_couldBe_90 : decode cX9_couldBe 90 = .ok (.iload 5, 2) := by decide +kernel
theorem dX9_couldBe_92 : decode cX9_couldBe 92 = .ok (.iconst 1, 1) := by decide +kernel
theorem dX9_couldBe_93 : decode cX9_couldBe 93 = .ok (.invokevirtual 268, 3) := by decide +kernel
theorem dX9_couldBe_96 : decode cX9_couldBe 96 = .ok (.iadd, 1) := by decide +kernel
theorem dX9_couldBe_97 : decode cX9_couldBe 97 = .ok (.istore_n 3, 1) := by decide +kernel
theorem dX9_couldBe_98 : decode cX9_couldBe 98 = .ok (.iload 4, 2) := by decide +kernel
theorem dX9_couldBe_100 : decode cX9_couldBe 100 = .ok (.aload_n 0, 1) := by decide +kernel
theorem dX9_couldBe_101 : decode cX9_couldBe 101 = .ok (.iload 5, 2) := by decide +kernel
theorem dX9_couldBe_103 : decode cX9_couldBe 103 = .ok (.iconst 0, 1) := by decide +kernel
theorem dX9_couldBe_104 : decode cX9_couldBe 104 = .ok (.invokevirtual 275, 3) := by decide +kernel
theorem dX9_couldBe_107 : decode cX9_couldBe 107 = .ok (.iadd, 1) := by decide +kernel
theorem dX9_couldBe_108 : decode cX9_couldBe 108 = .ok (.istore 4, 2) := by decide +kernel
theorem dX9_couldBe_110 : decode cX9_couldBe 110 = .ok (.iinc 5 1, 3) := by decide +kernel
theorem dX9_couldBe_113 : decode cX9_couldBe 113 = .ok (.goto (-105), 3) := by decide +kernel
theorem dX9_couldBe_116 : decode cX9_couldBe 116 = .ok (.iload_n 3, 1) := by decide +kernel
theorem dX9_couldBe_117 : decode cX9_couldBe 117 = .ok (.aload_n 0, 1) := by decide +kernel
theorem dX9_couldBe_118 : decode cX9_couldBe 118 = .ok (.getfield 42, 3) := by decide +kernel
theorem dX9_couldBe_121 : decode cX9_couldBe 121 = .ok (.iconst 2, 1) := by decide +kernel
theorem dX9_couldBe_122 : decode cX9_couldBe 122 = .ok (.iaload, 1) := by decide +kernel
theorem dX9_couldBe_123 : decode cX9_couldBe 123 = .ok (.if_icmp .gt 13, 3) := by decide +kernel
theorem dX9_couldBe_126 : decode cX9_couldBe 126 = .ok (.iload 4, 2) := by decide +kernel
theorem dX9_couldBe_128 : decode cX9_couldBe 128 = .ok (.iload_n 2, 1) := by decide +kernel
theorem dX9_couldBe_129 : decode cX9_couldBe 129 = .ok (.if_icmp .ne 7, 3) := by decide +kernel
theorem dX9_couldBe_132 : decode cX9_couldBe 132 = .ok (.iconst 1, 1) := by decide +kernel
theorem dX9_couldBe_133 : decode cX9_couldBe 133 = .ok (.goto 4, 3) := by decide +kernel
theorem dX9_couldBe_136 : decode cX9_couldBe 136 = .ok (.iconst 0, 1) := by decide +kernel
theorem dX9_couldBe_137 : decode cX9_couldBe 137 = .ok (.ireturn, 1) := by decide +kernel
theorem dX9_count_0 : decode cX9_count 0 = .ok (.iload_n 1, 1) := by decide +kernel
theorem dX9_count_1 : decode cX9_count 1 = .ok (.tableswitch 132 0 10 #[59, 59, 66, 71, 78, 87, 96, 104, 112, 117, 125], 59) := by decide +kernel
theorem dX9_count_60 : decode cX9_count 60 = .ok (.aload_n 0, 1) := by decide +kernel
theorem dX9_count_61 : decode cX9_count 61 = .ok (.getfield 42, 3) := by decide +kernel
theorem dX9_count_64 : decode cX9_count 64 = .ok (.iload_n 1, 1) := by decide +kernel
theorem dX9_count_65 : decode cX9_count 65 = .ok (.iaload, 1) := by decide +kernel
theorem dX9_count_66 : decode cX9_count 66 = .ok (.ireturn, 1) := by decide +kernel
theorem dX9_count_67 : decode cX9_count 67 = .ok (.aload_n 0, 1) := by decide +kernel
theorem dX9_count_68 : decode cX9_count 68 = .ok (.getfield 247, 3) := by decide +kernel
theorem dX9_count_71 : decode cX9_count 71 = .ok (.ireturn, 1) := by decide +kernel
theorem dX9_count_72 : decode cX9_count 72 = .ok (.aload_n 0, 1) := by decide +kernel
theorem dX9_count_73 : decode cX9_count 73 = .ok (.getfield 42, 3) := by decide +kernel
theorem dX9_count_76 : decode cX9_count 76 = .ok (.iconst 3, 1) := by decide +kernel
theorem dX9_count_77 : decode cX9_count 77 = .ok (.iaload, 1) := by decide +kernel
theorem dX9_count_78 : decode cX9_count 78 = .ok (.ireturn, 1) := by decide +kernel
theorem dX9_count_79 : decode cX9_count 79 = .ok (.aload_n 0, 1) := by decide +kernel
theorem dX9_count_80 : decode cX9_count 80 = .ok (.iconst 1, 1) := by decide +kernel
theorem dX9_count_81 : decode cX9_count 81 = .ok (.invokevirtual 313, 3) := by decide +kernel
theorem dX9_count_84 : decode cX9_count 84 = .ok (.invokestatic 316, 3) := by decide +kernel
theorem dX9_count_87 : decode cX9_count 87 = .ok (.ireturn, 1) := by decide +kernel
theorem dX9_count_88 : decode cX9_count 88 = .ok (.aload_n 0, 1) := by decide +kernel
theorem dX9_count_89 : decode cX9_count 89 = .ok (.iconst 2, 1) := by decide +kernel
theorem dX9_count_90 : decode cX9_count 90 = .ok (.invokevirtual 313, 3) := by decide +kernel
theorem dX9_count_93 : decode cX9_count 93 = .ok (.invokestatic 316, 3) := by decide +kernel
theorem dX9_count_96 : decode cX9_count 96 = .ok (.ireturn, 1) := by decide +kernel
theorem dX9_count_97 : decode cX9_count 97 = .ok (.aload_n 0, 1) := by decide +kernel
theorem dX9_count_98 : decode cX9_count 98 = .ok (.getfield 42, 3) := by decide +kernel
theorem dX9_count_101 : decode cX9_count 101 = .ok (.bipush 8, 2) := by decide +kernel
theorem dX9_count_103 : decode cX9_count 103 = .ok (.iaload, 1) := by decide +kernel
theorem dX9_count_104 : decode cX9_count 104 = .ok (.ireturn, 1) := by decide +kernel
theorem dX9_count_105 : decode cX9_count 105 = .ok (.aload_n 0, 1) := by decide +kernel
theorem dX9_count_106 : decode cX9_count 106 = .ok (.getfield 42, 3) := by decide +kernel
theorem dX9_count_109 : decode cX9_count 109 = .ok (.bipush 9, 2) := by decide +kernel
theorem dX9_count_111 : decode cX9_count 111 = .ok (.iaload, 1) := by decide +kernel
theorem dX9_count_112 : decode cX9_count 112 = .ok (.ireturn, 1) := by decide +kernel
theorem dX9_count_113 : decode cX9_count 113 = .ok (.aload_n 0, 1) := by decide +kernel
theorem dX9_count_114 : decode cX9_count 114 = .ok (.getfield 79, 3) := by decide +kernel
theorem dX9_count_117 : decode cX9_count 117 = .ok (.ireturn, 1) := by decide +kernel
theorem dX9_count_118 : decode cX9_count 118 = .ok (.aload_n 0, 1) := by decide +kernel
theorem dX9_count_119 : decode cX9_count 119 = .ok (.getfield 42, 3) := by decide +kernel
theorem dX9_count_122 : decode cX9_count 122 = .ok (.bipush 7, 2) := by decide +kernel
theorem dX9_count_124 : decode cX9_count 124 = .ok (.iaload, 1) := by decide +kernel
theorem dX9_count_125 : decode cX9_count 125 = .ok (.ireturn, 1) := by decide +kernel
theorem dX9_count_126 : decode cX9_count 126 = .ok (.aload_n 0, 1) := by decide +kernel
theorem dX9_count_127 : decode cX9_count 127 = .ok (.getfield 42, 3) := by decide +kernel
theorem dX9_count_130 : decode cX9_count 130 = .ok (.iconst 2, 1) := by decide +kernel
theorem dX9_count_131 : decode cX9_count 131 = .ok (.iaload, 1) := by decide +kernel
theorem dX9_count_132 : decode cX9_count 132 = .ok (.ireturn, 1) := by decide +kernel
theorem dX9_count_133 : decode cX9_count 133 = .ok (.iconst (-1), 1) := by decide +kernel
theorem dX9_count_134 : decode cX9_count 134 = .ok (.ireturn, 1) := by decide +kernel
theorem dX9_dawn_0 : decode cX9_dawn 0 = .ok (.aload_n 0, 1) := by decide +kernel
theorem dX9_dawn_1 : decode cX9_dawn 1 = .ok (.invokevirtual 301, 3) := by decide +kernel
theorem dX9_dawn_4 : decode cX9_dawn 4 = .ok (.ifCond .ne 7, 3) := by decide +kernel
theorem dX9_dawn_7 : decode cX9_dawn 7 = .ok (.ldc_w 306, 3) := by decide +kernel
theorem dX9_dawn_10 : decode cX9_dawn 10 = .ok (.ireturn, 1) := by decide +kernel
theorem dX9_dawn_11 : decode cX9_dawn 11 = .ok (.aload_n 0, 1) := by decide +kernel
theorem dX9_dawn_12 : decode cX9_dawn 12 = .ok (.getfield 42, 3) := by decide +kernel
theorem dX9_dawn_15 : decode cX9_dawn 15 = .ok (.iconst 5, 1) := by decide +kernel
theorem dX9_dawn_16 : decode cX9_dawn 16 = .ok (.dup2, 1) := by decide +kernel
theorem dX9_dawn_17 : decode cX9_dawn 17 = .ok (.iaload, 1) := by decide +kernel
theorem dX9_dawn_18 : decode cX9_dawn 18 = .ok (.aload_n 0, 1) := by decide +kernel
theorem dX9_dawn_19 : decode cX9_dawn 19 = .ok (.invokevirtual 307, 3) := by decide +kernel
theorem dX9_dawn_22 : decode cX9_dawn 22 = .ok (.iadd, 1) := by decide +kernel
theorem dX9_dawn_23 : decode cX9_dawn 23 = .ok (.iastore, 1) := by decide +kernel
theorem dX9_dawn_24 : decode cX9_dawn 24 = .ok (.aload_n 0, 1) := by decide +kernel
theorem dX9_dawn_25 : decode cX9_dawn 25 = .ok (.getfield 42, 3) := by decide +kernel
theorem dX9_dawn_28 : decode cX9_dawn 28 = .ok (.bipush 6, 2) := by decide +kernel
theorem dX9_dawn_30 : decode cX9_dawn 30 = .ok (.dup2, 1) := by decide +kernel
theorem dX9_dawn_31 : decode cX9_dawn 31 = .ok (.iaload, 1) := by decide +kernel
theorem dX9_dawn_32 : decode cX9_dawn 32 = .ok (.aload_n 0, 1) := by decide +kernel
theorem dX9_dawn_33 : decode cX9_dawn 33 = .ok (.getfield 42, 3) := by decide +kernel
theorem dX9_dawn_36 : decode cX9_dawn 36 = .ok (.iconst 4, 1) := by decide +kernel
theorem dX9_dawn_37 : decode cX9_dawn 37 = .ok (.iaload, 1) := by decide +kernel
theorem dX9_dawn_38 : decode cX9_dawn 38 = .ok (.iadd, 1) := by decide +kernel
theorem dX9_dawn_39 : decode cX9_dawn 39 = .ok (.iastore, 1) := by decide +kernel
theorem dX9_dawn_40 : decode cX9_dawn 40 = .ok (.aload_n 0, 1) := by decide +kernel
theorem dX9_dawn_41 : decode cX9_dawn 41 = .ok (.getfield 42, 3) := by decide +kernel
theorem dX9_dawn_44 : decode cX9_dawn 44 = .ok (.bipush 7, 2) := by decide +kernel
theorem dX9_dawn_46 : decode cX9_dawn 46 = .ok (.dup2, 1) := by decide +kernel
theorem dX9_dawn_47 : decode cX9_dawn 47 = .ok (.iaload, 1) := by decide +kernel
theorem dX9_dawn_48 : decode cX9_dawn 48 = .ok (.iconst 1, 1) := by decide +kernel
theorem dX9_dawn_49 : decode cX9_dawn 49 = .ok (.iadd, 1) := by decide +kernel
theorem dX9_dawn_50 : decode cX9_dawn 50 = .ok (.iastore, 1) := by decide +kernel
theorem dX9_dawn_51 : decode cX9_dawn 51 = .ok (.aload_n 0, 1) := by decide +kernel
theorem dX9_dawn_52 : decode cX9_dawn 52 = .ok (.invokevirtual 310, 3) := by decide +kernel
theorem dX9_dawn_55 : decode cX9_dawn 55 = .ok (.aload_n 0, 1) := by decide +kernel
theorem dX9_dawn_56 : decode cX9_dawn 56 = .ok (.getfield 42, 3) := by decide +kernel
theorem dX9_dawn_59 : decode cX9_dawn 59 = .ok (.iconst 5, 1) := by decide +kernel
theorem dX9_dawn_60 : decode cX9_dawn 60 = .ok (.iaload, 1) := by decide +kernel
theorem dX9_dawn_61 : decode cX9_dawn 61 = .ok (.ireturn, 1) := by decide +kernel
theorem dX9_day_0 : decode cX9_day 0 = .ok (.aload_n 0, 1) := by decide +kernel
theorem dX9_day_1 : decode cX9_day 1 = .ok (.invokevirtual 301, 3) := by decide +kernel
theorem dX9_day_4 : decode cX9_day 4 = .ok (.ifCond .eq 11, 3) := by decide +kernel
theorem dX9_day_7 : decode cX9_day 7 = .ok (.aload_n 0, 1) := by decide +kernel
theorem dX9_day_8 : decode cX9_day 8 = .ok (.iload_n 1, 1) := by decide +kernel
theorem dX9_day_9 : decode cX9_day 9 = .ok (.invokevirtual 335, 3) := by decide +kernel
theorem dX9_day_12 : decode cX9_day 12 = .ok (.ifCond .ne 7, 3) := by decide +kernel
theorem dX9_day_15 : decode cX9_day 15 = .ok (.ldc_w 306, 3) := by decide +kernel
theorem dX9_day_18 : decode cX9_day 18 = .ok (.ireturn, 1) := by decide +kernel
theorem dX9_day_19 : decode cX9_day 19 = .ok (.aload_n 0, 1) := by decide +kernel
theorem dX9_day_20 : decode cX9_day 20 = .ok (.getfield 42, 3) := by decide +kernel
theorem dX9_day_23 : decode cX9_day 23 = .ok (.iconst 4, 1) := by decide +kernel
theorem dX9_day_24 : decode cX9_day 24 = .ok (.iaload, 1) := by decide +kernel
theorem dX9_day_25 : decode cX9_day 25 = .ok (.istore_n 2, 1) := by decide +kernel
theorem dX9_day_26 : decode cX9_day 26 = .ok (.aload_n 0, 1) := by decide +kernel
theorem dX9_day_27 : decode cX9_day 27 = .ok (.iload_n 1, 1) := by decide +kernel
theorem dX9_day_28 : decode cX9_day 28 = .ok (.invokevirtual 338, 3) := by decide +kernel
theorem dX9_day_31 : decode cX9_day 31 = .ok (.pop, 1) := by decide +kernel
theorem dX9_day_32 : decode cX9_day 32 = .ok (.aload_n 0, 1) := by decide +kernel
theorem dX9_day_33 : decode cX9_day 33 = .ok (.getfield 42, 3) := by decide +kernel
theorem dX9_day_36 : decode cX9_day 36 = .ok (.iconst 4, 1) := by decide +kernel
theorem dX9_day_37 : decode cX9_day 37 = .ok (.iaload, 1) := by decide +kernel
theorem dX9_day_38 : decode cX9_day 38 = .ok (.iload_n 2, 1) := by decide +kernel
theorem dX9_day_39 : decode cX9_day 39 = .ok (.isub, 1) := by decide +kernel
theorem dX9_day_40 : decode cX9_day 40 = .ok (.ireturn, 1) := by decide +kernel
theorem dX9_divisor_0 : decode cX9_divisor 0 = .ok (.lload_n 0, 1) := by decide +kernel
theorem dX9_divisor_1 : decode cX9_divisor 1 = .ok (.lconst 0, 1) := by decide +kernel
theorem dX9_divisor_2 : decode cX9_divisor 2 = .ok (.lcmp, 1) := by decide +kernel
theorem dX9_divisor_3 : decode cX9_divisor 3 = .ok (.ifCond .ge 8, 3) := by decide +kernel
theorem dX9_divisor_6 : decode cX9_divisor 6 = .ok (.lload_n 0, 1) := by decide +kernel
theorem dX9_divisor_7 : decode cX9_divisor 7 = .ok (.lneg, 1) := by decide +kernel
theorem dX9_divisor_8 : decode cX9_divisor 8 = .ok (.goto 4, 3) := by decide +kernel
theorem dX9_divisor_11 : decode cX9_divisor 11 = .ok (.lload_n 0, 1) := by decide +kernel
theorem dX9_divisor_12 : decode cX9_divisor 12 = .ok (.lstore 4, 2) := by decide +kernel
theorem dX9_divisor_14 : decode cX9_divisor 14 = .ok (.lload_n 2, 1) := by decide +kernel
theorem dX9_divisor_15 : decode cX9_divisor 15 = .ok (.lconst 0, 1) := by decide +kernel
theorem dX9_divisor_16 : decode cX9_divisor 16 = .ok (.lcmp, 1) := by decide +kernel
theorem dX9_divisor_17 : decode cX9_divisor 17 = .ok (.ifCond .ge 8, 3) := by decide +kernel
theorem dX9_divisor_20 : decode cX9_divisor 20 = .ok (.lload_n 2, 1) := by decide +kernel
theorem dX9_divisor_21 : decode cX9_divisor 21 = .ok (.lneg, 1) := by decide +kernel
theorem dX9_divisor_22 : decode cX9_divisor 22 = .ok (.goto 4, 3) := by decide +kernel
theorem dX9_divisor_25 : decode cX9_divisor 25 = .ok (.lload_n 2, 1) := by decide +kernel
theorem dX9_divisor_26 : decode cX9_divisor 26 = .ok (.lstore 6, 2) := by decide +kernel
theorem dX9_divisor_28 : decode cX9_divisor 28 = .ok (.lload 6, 2) := by decide +kernel
theorem dX9_divisor_30 : decode cX9_divisor 30 = .ok (.lconst 0, 1) := by decide +kernel
theorem dX9_divisor_31 : decode cX9_divisor 31 = .ok (.lcmp, 1) := by decide +kernel
theorem dX9_divisor_32 : decode cX9_divisor 32 = .ok (.ifCond .eq 21, 3) := by decide +kernel
theorem dX9_divisor_35 : decode cX9_divisor 35 = .ok (.lload 4, 2) := by decide +kernel
theorem dX9_divisor_37 : decode cX9_divisor 37 = .ok (.lload 6, 2) := by decide +kernel
theorem dX9_divisor_39 : decode cX9_divisor 39 = .ok (.lrem, 1) := by decide +kernel
theorem dX9_divisor_40 : decode cX9_divisor 40 = .ok (.lstore 8, 2) := by decide +kernel
theorem dX9_divisor_42 : decode cX9_divisor 42 = .ok (.lload 6, 2) := by decide +kernel
theorem dX9_divisor_44 : decode cX9_divisor 44 = .ok (.lstore 4, 2) := by decide +kernel
theorem dX9_divisor_46 : decode cX9_divisor 46 = .ok (.lload 8, 2) := by decide +kernel
theorem dX9_divisor_48 : decode cX9_divisor 48 = .ok (.lstore 6, 2) := by decide +kernel
theorem dX9_divisor_50 : decode cX9_divisor 50 = .ok (.goto (-22), 3) := by decide +kernel
theorem dX9_divisor_53 : decode cX9_divisor 53 = .ok (.lload 4, 2) := by decide +kernel
theorem dX9_divisor_55 : decode cX9_divisor 55 = .ok (.lreturn, 1) := by decide +kernel
theorem dX9_draw_0 : decode cX9_draw 0 = .ok (.aload_n 0, 1) := by decide +kernel
theorem dX9_draw_1 : decode cX9_draw 1 = .ok (.getfield 42, 3) := by decide +kernel
theorem dX9_draw_4 : decode cX9_draw 4 = .ok (.bipush 9, 2) := by decide +kernel
theorem dX9_draw_6 : decode cX9_draw 6 = .ok (.aload_n 0, 1) := by decide +kernel
theorem dX9_draw_7 : decode cX9_draw 7 = .ok (.getfield 42, 3) := by decide +kernel
theorem dX9_draw_10 : decode cX9_draw 10 = .ok (.bipush 9, 2) := by decide +kernel
theorem dX9_draw_12 : decode cX9_draw 12 = .ok (.iaload, 1) := by decide +kernel
theorem dX9_draw_13 : decode cX9_draw 13 = .ok (.i2l, 1) := by decide +kernel
theorem dX9_draw_14 : decode cX9_draw 14 = .ok (.ldc2_w 285, 3) := by decide +kernel
theorem dX9_draw_17 : decode cX9_draw 17 = .ok (.lmul, 1) := by decide +kernel
theorem dX9_draw_18 : decode cX9_draw 18 = .ok (.ldc2_w 287, 3) := by decide +kernel
theorem dX9_draw_21 : decode cX9_draw 21 = .ok (.ladd, 1) := by decide +kernel
theorem dX9_draw_22 : decode cX9_draw 22 = .ok (.ldc2_w 289, 3) := by decide +kernel
theorem dX9_draw_25 : decode cX9_draw 25 = .ok (.lrem, 1) := by decide +kernel
theorem dX9_draw_26 : decode cX9_draw 26 = .ok (.l2i, 1) := by decide +kernel
theorem dX9_draw_27 : decode cX9_draw 27 = .ok (.iastore, 1) := by decide +kernel
theorem dX9_draw_28 : decode cX9_draw 28 = .ok (.aload_n 0, 1) := by decide +kernel
theorem dX9_draw_29 : decode cX9_draw 29 = .ok (.getfield 42, 3) := by decide +kernel
theorem dX9_draw_32 : decode cX9_draw 32 = .ok (.bipush 9, 2) := by decide +kernel
theorem dX9_draw_34 : decode cX9_draw 34 = .ok (.iaload, 1) := by decide +kernel
theorem dX9_draw_35 : decode cX9_draw 35 = .ok (.ldc_w 291, 3) := by decide +kernel
theorem dX9_draw_38 : decode cX9_draw 38 = .ok (.idiv, 1) := by decide +kernel
theorem dX9_draw_39 : decode cX9_draw 39 = .ok (.iload_n 1, 1) := by decide +kernel
theorem dX9_draw_40 : decode cX9_draw 40 = .ok (.irem, 1) := by decide +kernel
theorem dX9_draw_41 : decode cX9_draw 41 = .ok (.ireturn, 1) := by decide +kernel
theorem dX9_end_0 : decode cX9_end 0 = .ok (.iload_n 1, 1) := by decide +kernel
theorem dX9_end_1 : decode cX9_end 1 = .ok (.ifCond .lt 11, 3) := by decide +kernel
theorem dX9_end_4 : decode cX9_end 4 = .ok (.iload_n 1, 1) := by decide +kernel
theorem dX9_end_5 : decode cX9_end 5 = .ok (.aload_n 0, 1) := by decide +kernel
theorem dX9_end_6 : decode cX9_end 6 = .ok (.getfield 79, 3) := by decide +kernel
theorem dX9_end_9 : decode cX9_end 9 = .ok (.if_icmp .le 5, 3) := by decide +kernel
theorem dX9_end_12 : decode cX9_end 12 = .ok (.iconst (-1), 1) := by decide +kernel
theorem dX9_end_13 : decode cX9_end 13 = .ok (.ireturn, 1) := by decide +kernel
theorem dX9_end_14 : decode cX9_end 14 = .ok (.aload_n 0, 1) := by decide +kernel
theorem dX9_end_15 : decode cX9_end 15 = .ok (.iload_n 1, 1) := by decide +kernel
theorem dX9_end_16 : decode cX9_end 16 = .ok (.putfield 79, 3) := by decide +kernel
theorem dX9_end_19 : decode cX9_end 19 = .ok (.iload_n 1, 1) := by decide +kernel
theorem dX9_end_20 : decode cX9_end 20 = .ok (.ireturn, 1) := by decide +kernel
theorem dX9_fact_0 : decode cX9_fact 0 = .ok (.iconst 1, 1) := by decide +kernel
theorem dX9_fact_1 : decode cX9_fact 1 = .ok (.istore_n 1, 1) := by decide +kernel
theorem dX9_fact_2 : decode cX9_fact 2 = .ok (.iload_n 1, 1) := by decide +kernel
theorem dX9_fact_3 : decode cX9_fact 3 = .ok (.ifCond .eq 72, 3) := by decide +kernel
theorem dX9_fact_6 : decode cX9_fact 6 = .ok (.iconst 0, 1) := by decide +kernel
theorem dX9_fact_7 : decode cX9_fact 7 = .ok (.istore_n 1, 1) := by decide +kernel
theorem dX9_fact_8 : decode cX9_fact 8 = .ok (.aload_n 0, 1) := by decide +kernel
theorem dX9_fact_9 : decode cX9_fact 9 = .ok (.invokevirtual 93, 3) := by decide +kernel
theorem dX9_fact_12 : decode cX9_fact 12 = .ok (.istore_n 2, 1) := by decide +kernel
theorem dX9_fact_13 : decode cX9_fact 13 = .ok (.aload_n 0, 1) := by decide +kernel
theorem dX9_fact_14 : decode cX9_fact 14 = .ok (.ldc2_w 180, 3) := by decide +kernel
theorem dX9_fact_17 : decode cX9_fact 17 = .ok (.invokevirtual 101, 3) := by decide +kernel
theorem dX9_fact_20 : decode cX9_fact 20 = .ok (.ifCond .eq 23, 3) := by decide +kernel
theorem dX9_fact_23 : decode cX9_fact 23 = .ok (.aload_n 0, 1) := by decide +kernel
theorem dX9_fact_24 : decode cX9_fact 24 = .ok (.bipush 11, 2) := by decide +kernel
theorem dX9_fact_26 : decode cX9_fact 26 = .ok (.invokevirtual 182, 3) := by decide +kernel
theorem dX9_fact_29 : decode cX9_fact 29 = .ok (.ifCond .ne 5, 3) := by decide +kernel
theorem dX9_fact_32 : decode cX9_fact 32 = .ok (.iconst 0, 1) := by decide +kernel
theorem dX9_fact_33 : decode cX9_fact 33 = .ok (.ireturn, 1) := by decide +kernel
theorem dX9_fact_34 : decode cX9_fact 34 = .ok (.aload_n 0, 1) := by decide +kernel
theorem dX9_fact_35 : decode cX9_fact 35 = .ok (.invokevirtual 105, 3) := by decide +kernel
theorem dX9_fact_38 : decode cX9_fact 38 = .ok (.iconst 1, 1) := by decide +kernel
theorem dX9_fact_39 : decode cX9_fact 39 = .ok (.istore_n 1, 1) := by decide +kernel
theorem dX9_fact_40 : decode cX9_fact 40 = .ok (.goto 32, 3) := by decide +kernel
theorem dX9_fact_43 : decode cX9_fact 43 = .ok (.iload_n 2, 1) := by decide +kernel
theorem dX9_fact_44 : decode cX9_fact 44 = .ok (.bipush 91, 2) := by decide +kernel
theorem dX9_fact_46 : decode cX9_fact 46 = .ok (.if_icmp .ne 26, 3) := by decide +kernel
theorem dX9_fact_49 : decode cX9_fact 49 = .ok (.aload_n 0, 1) := by decide +kernel
theorem dX9_fact_50 : decode cX9_fact 50 = .ok (.bipush 91, 2) := by decide +kernel
theorem dX9_fact_52 : decode cX9_fact 52 = .ok (.invokevirtual 182, 3) := by decide +kernel
theorem dX9_fact_55 : decode cX9_fact 55 = .ok (.ifCond .ne 5, 3) := by decide +kernel
theorem dX9_fact_58 : decode cX9_fact 58 = .ok (.iconst 0, 1) := by decide +kernel
theorem dX9_fact_59 : decode cX9_fact 59 = .ok (.ireturn, 1) := by decide +kernel
theorem dX9_fact_60 : decode cX9_fact 60 = .ok (.aload_n 0, 1) := by decide +kernel
theorem dX9_fact_61 : decode cX9_fact 61 = .ok (.dup, 1) := by decide +kernel
theorem dX9_fact_62 : decode cX9_fact 62 = .ok (.getfield 90, 3) := by decide +kernel
theorem dX9_fact_65 : decode cX9_fact 65 = .ok (.iconst 1, 1) := by decide +kernel
theorem dX9_fact_66 : decode cX9_fact 66 = .ok (.iadd, 1) := by decide +kernel
theorem dX9_fact_67 : decode cX9_fact 67 = .ok (.putfield 90, 3) := by decide +kernel
theorem dX9_fact_70 : decode cX9_fact 70 = .ok (.iconst 1, 1) := by decide +kernel
theorem dX9_fact_71 : decode cX9_fact 71 = .ok (.istore_n 1, 1) := by decide +kernel
theorem dX9_fact_72 : decode cX9_fact 72 = .ok (.goto (-70), 3) := by decide +kernel
theorem dX9_fact_75 : decode cX9_fact 75 = .ok (.aload_n 0, 1) := by decide +kernel
theorem dX9_fact_76 : decode cX9_fact 76 = .ok (.invokevirtual 185, 3) := by decide +kernel
theorem dX9_fact_79 : decode cX9_fact 79 = .ok (.ireturn, 1) := by decide +kernel
theorem dX9_fails_0 : decode cX9_fails 0 = .ok (.aload_n 0, 1) := by decide +kernel
theorem dX9_fails_1 : decode cX9_fails 1 = .ok (.getfield 87, 3) := by decide +kernel
theorem dX9_fails_4 : decode cX9_fails 4 = .ok (.ifCond .ne 15, 3) := by decide +kernel
theorem dX9_fails_7 : decode cX9_fails 7 = .ok (.aload_n 0, 1) := by decide +kernel
theorem dX9_fails_8 : decode cX9_fails 8 = .ok (.iconst 1, 1) := by decide +kernel
theorem dX9_fails_9 : decode cX9_fails 9 = .ok (.bipush 8, 2) := by decide +kernel
theorem dX9_fails_11 : decode cX9_fails 11 = .ok (.iload_n 2, 1) := by decide +kernel
theorem dX9_fails_12 : decode cX9_fails 12 = .ok (.imul, 1) := by decide +kernel
theorem dX9_fails_13 : decode cX9_fails 13 = .ok (.iadd, 1) := by decide +kernel
theorem dX9_fails_14 : decode cX9_fails 14 = .ok (.iload_n 1, 1) := by decide +kernel
theorem dX9_fails_15 : decode cX9_fails 15 = .ok (.iadd, 1) := by decide +kernel
theorem dX9_fails_16 : decode cX9_fails 16 = .ok (.putfield 87, 3) := by decide +kernel
theorem dX9_fails_19 : decode cX9_fails 19 = .ok (.iconst 0, 1) := by decide +kernel
theorem dX9_fails_20 : decode cX9_fails 20 = .ok (.ireturn, 1) := by decide +kernel
theorem dX9_fault_0 : decode cX9_fault 0 = .ok (.aload_n 0, 1) := by decide +kernel
theorem dX9_fault_1 : decode cX9_fault 1 = .ok (.iload_n 1, 1) := by decide +kernel
theorem dX9_fault_2 : decode cX9_fault 2 = .ok (.invokevirtual 280, 3) := by decide +kernel
theorem dX9_fault_5 : decode cX9_fault 5 = .ok (.ifCond .eq 15, 3) := by decide +kernel
theorem dX9_fault_8 : decode cX9_fault 8 = .ok (.iload_n 2, 1) := by decide +kernel
theorem dX9_fault_9 : decode cX9_fault 9 = .ok (.i2l, 1) := by decide +kernel
theorem dX9_fault_10 : decode cX9_fault 10 = .ok (.lconst 0, 1) := by decide +kernel
theorem dX9_fault_11 : decode cX9_fault 11 = .ok (.ldc2_w 283, 3) := by decide +kernel
theorem dX9_fault_14 : decode cX9_fault 14 = .ok (.invokestatic 118, 3) := by decide +kernel
theorem dX9_fault_17 : decode cX9_fault 17 = .ok (.ifCond .ne 6, 3) := by decide +kernel
theorem dX9_fault_20 : decode cX9_fault 20 = .ok (.bipush (-2), 2) := by decide +kernel
theorem dX9_fault_22 : decode cX9_fault 22 = .ok (.ireturn, 1) := by decide +kernel
theorem dX9_fault_23 : decode cX9_fault 23 = .ok (.iload_n 2, 1) := by decide +kernel
theorem dX9_fault_24 : decode cX9_fault 24 = .ok (.bipush 6, 2) := by decide +kernel
theorem dX9_fault_26 : decode cX9_fault 26 = .ok (.if_icmp .ge 12, 3) := by decide +kernel
theorem dX9_fault_29 : decode cX9_fault 29 = .ok (.aload_n 0, 1) := by decide +kernel
theorem dX9_fault_30 : decode cX9_fault 30 = .ok (.iload_n 1, 1) := by decide +kernel
theorem dX9_fault_31 : decode cX9_fault 31 = .ok (.iload_n 2, 1) := by decide +kernel
theorem dX9_fault_32 : decode cX9_fault 32 = .ok (.invokevirtual 268, 3) := by decide +kernel
theorem dX9_fault_35 : decode cX9_fault 35 = .ok (.goto 16, 3) := by decide +kernel
theorem dX9_fault_38 : decode cX9_fault 38 = .ok (.aload_n 0, 1) := by decide +kernel
theorem dX9_fault_39 : decode cX9_fault 39 = .ok (.iload_n 1, 1) := by decide +kernel
theorem dX9_fault_40 : decode cX9_fault 40 = .ok (.invokevirtual 272, 3) := by decide +kernel
theorem dX9_fault_43 : decode cX9_fault 43 = .ok (.ifCond .eq 7, 3) := by decide +kernel
theorem dX9_fault_46 : decode cX9_fault 46 = .ok (.iconst 1, 1) := by decide +kernel
theorem dX9_fault_47 : decode cX9_fault 47 = .ok (.goto 4, 3) := by decide +kernel
theorem dX9_fault_50 : decode cX9_fault 50 = .ok (.iconst 0, 1) := by decide +kernel
theorem dX9_fault_51 : decode cX9_fault 51 = .ok (.ireturn, 1) := by decide +kernel
theorem dX9_faultOf_0 : decode cX9_faultOf 0 = .ok (.aload_n 0, 1) := by decide +kernel
theorem dX9_faultOf_1 : decode cX9_faultOf 1 = .ok (.getfield 42, 3) := by decide +kernel
theorem dX9_faultOf_4 : decode cX9_faultOf 4 = .ok (.bipush 44, 2) := by decide +kernel
theorem dX9_faultOf_6 : decode cX9_faultOf 6 = .ok (.bipush 6, 2) := by decide +kernel
theorem dX9_faultOf_8 : decode cX9_faultOf 8 = .ok (.iload_n 1, 1) := by decide +kernel
theorem dX9_faultOf_9 : decode cX9_faultOf 9 = .ok (.imul, 1) := by decide +kernel
theorem dX9_faultOf_10 : decode cX9_faultOf 10 = .ok (.iadd, 1) := by decide +kernel
theorem dX9_faultOf_11 : decode cX9_faultOf 11 = .ok (.iload_n 2, 1) := by decide +kernel
theorem dX9_faultOf_12 : decode cX9_faultOf 12 = .ok (.iadd, 1) := by decide +kernel
theorem dX9_faultOf_13 : decode cX9_faultOf 13 = .ok (.iaload, 1) := by decide +kernel
theorem dX9_faultOf_14 : decode cX9_faultOf 14 = .ok (.ireturn, 1) := by decide +kernel
theorem dX9_feed_0 : decode cX9_feed 0 = .ok (.aload_n 0, 1) := by decide +kernel
theorem dX9_feed_1 : decode cX9_feed 1 = .ok (.getfield 79, 3) := by decide +kernel
theorem dX9_feed_4 : decode cX9_feed 4 = .ok (.bipush 20, 2) := by decide +kernel
theorem dX9_feed_6 : decode cX9_feed 6 = .ok (.iadd, 1) := by decide +kernel
theorem dX9_feed_7 : decode cX9_feed 7 = .ok (.sipush 400, 3) := by decide +kernel
theorem dX9_feed_10 : decode cX9_feed 10 = .ok (.if_icmp .le 5, 3) := by decide +kernel
theorem dX9_feed_13 : decode cX9_feed 13 = .ok (.iconst (-1), 1) := by decide +kernel
theorem dX9_feed_14 : decode cX9_feed 14 = .ok (.ireturn, 1) := by decide +kernel
theorem dX9_feed_15 : decode cX9_feed 15 = .ok (.aload_n 0, 1) := by decide +kernel
theorem dX9_feed_16 : decode cX9_feed 16 = .ok (.iload_n 1, 1) := by decide +kernel
theorem dX9_feed_17 : decode cX9_feed 17 = .ok (.invokevirtual 83, 3) := by decide +kernel
theorem dX9_feed_20 : decode cX9_feed 20 = .ok (.aload_n 0, 1) := by decide +kernel
theorem dX9_feed_21 : decode cX9_feed 21 = .ok (.iload_n 2, 1) := by decide +kernel
theorem dX9_feed_22 : decode cX9_feed 22 = .ok (.invokevirtual 83, 3) := by decide +kernel
theorem dX9_feed_25 : decode cX9_feed 25 = .ok (.aload_n 0, 1) := by decide +kernel
theorem dX9_feed_26 : decode cX9_feed 26 = .ok (.iload_n 3, 1) := by decide +kernel
theorem dX9_feed_27 : decode cX9_feed 27 = .ok (.invokevirtual 83, 3) := by decide +kernel
theorem dX9_feed_30 : decode cX9_feed 30 = .ok (.aload_n 0, 1) := by decide +kernel
theorem dX9_feed_31 : decode cX9_feed 31 = .ok (.iload 4, 2) := by decide +kernel
theorem dX9_feed_33 : decode cX9_feed 33 = .ok (.invokevirtual 83, 3) := by decide +kernel
theorem dX9_feed_36 : decode cX9_feed 36 = .ok (.aload_n 0, 1) := by decide +kernel
theorem dX9_feed_37 : decode cX9_feed 37 = .ok (.iload 5, 2) := by decide +kernel
theorem dX9_feed_39 : decode cX9_feed 39 = .ok (.invokevirtual 83, 3) := by decide +kernel
theorem dX9_feed_42 : decode cX9_feed 42 = .ok (.aload_n 0, 1) := by decide +kernel
theorem dX9_feed_43 : decode cX9_feed 43 = .ok (.getfield 79, 3) := by decide +kernel
theorem dX9_feed_46 : decode cX9_feed 46 = .ok (.ireturn, 1) := by decide +kernel
theorem dX9_fine_0 : decode cX9_fine 0 = .ok (.aload_n 0, 1) := by decide +kernel
theorem dX9_fine_1 : decode cX9_fine 1 = .ok (.invokevirtual 301, 3) := by decide +kernel
theorem dX9_fine_4 : decode cX9_fine 4 = .ok (.ifCond .eq 15, 3) := by decide +kernel
theorem dX9_fine_7 : decode cX9_fine 7 = .ok (.iload_n 1, 1) := by decide +kernel
theorem dX9_fine_8 : decode cX9_fine 8 = .ok (.i2l, 1) := by decide +kernel
theorem dX9_fine_9 : decode cX9_fine 9 = .ok (.lconst 0, 1) := by decide +kernel
theorem dX9_fine_10 : decode cX9_fine 10 = .ok (.ldc2_w 304, 3) := by decide +kernel
theorem dX9_fine_13 : decode cX9_fine 13 = .ok (.invokestatic 118, 3) := by decide +kernel
theorem dX9_fine_16 : decode cX9_fine 16 = .ok (.ifCond .ne 7, 3) := by decide +kernel
theorem dX9_fine_19 : decode cX9_fine 19 = .ok (.ldc_w 306, 3) := by decide +kernel
theorem dX9_fine_22 : decode cX9_fine 22 = .ok (.ireturn, 1) := by decide +kernel
theorem dX9_fine_23 : decode cX9_fine 23 = .ok (.aload_n 0, 1) := by decide +kernel
theorem dX9_fine_24 : decode cX9_fine 24 = .ok (.getfield 42, 3) := by decide +kernel
theorem dX9_fine_27 : decode cX9_fine 27 = .ok (.iconst 4, 1) := by decide +kernel
theorem dX9_fine_28 : decode cX9_fine 28 = .ok (.dup2, 1) := by decide +kernel
theorem dX9_fine_29 : decode cX9_fine 29 = .ok (.iaload, 1) := by decide +kernel
theorem dX9_fine_30 : decode cX9_fine 30 = .ok (.iload_n 1, 1) := by decide +kernel
theorem dX9_fine_31 : decode cX9_fine 31 = .ok (.isub, 1) := by decide +kernel
theorem dX9_fine_32 : decode cX9_fine 32 = .ok (.iastore, 1) := by decide +kernel
theorem dX9_fine_33 : decode cX9_fine 33 = .ok (.aload_n 0, 1) := by decide +kernel
theorem dX9_fine_34 : decode cX9_fine 34 = .ok (.getfield 42, 3) := by decide +kernel
theorem dX9_fine_37 : decode cX9_fine 37 = .ok (.iconst 4, 1) := by decide +kernel
theorem dX9_fine_38 : decode cX9_fine 38 = .ok (.iaload, 1) := by decide +kernel
theorem dX9_fine_39 : decode cX9_fine 39 = .ok (.ireturn, 1) := by decide +kernel
theorem dX9_fits_0 : decode cX9_fits 0 = .ok (.aload_n 0, 1) := by decide +kernel
theorem dX9_fits_1 : decode cX9_fits 1 = .ok (.invokevirtual 301, 3) := by decide +kernel
theorem dX9_fits_4 : decode cX9_fits 4 = .ok (.ifCond .eq 27, 3) := by decide +kernel
theorem dX9_fits_7 : decode cX9_fits 7 = .ok (.iload_n 1, 1) := by decide +kernel
theorem dX9_fits_8 : decode cX9_fits 8 = .ok (.i2l, 1) := by decide +kernel
theorem dX9_fits_9 : decode cX9_fits 9 = .ok (.lconst 0, 1) := by decide +kernel
theorem dX9_fits_10 : decode cX9_fits 10 = .ok (.ldc2_w 407, 3) := by decide +kernel
theorem dX9_fits_13 : decode cX9_fits 13 = .ok (.invokestatic 118, 3) := by decide +kernel
theorem dX9_fits_16 : decode cX9_fits 16 = .ok (.ifCond .eq 15, 3) := by decide +kernel
theorem dX9_fits_19 : decode cX9_fits 19 = .ok (.iload_n 2, 1) := by decide +kernel
theorem dX9_fits_20 : decode cX9_fits 20 = .ok (.i2l, 1) := by decide +kernel
theorem dX9_fits_21 : decode cX9_fits 21 = .ok (.lconst 0, 1) := by decide +kernel
theorem dX9_fits_22 : decode cX9_fits 22 = .ok (.ldc2_w 278, 3) := by decide +kernel
theorem dX9_fits_25 : decode cX9_fits 25 = .ok (.invokestatic 118, 3) := by decide +kernel
theorem dX9_fits_28 : decode cX9_fits 28 = .ok (.ifCond .ne 5, 3) := by decide +kernel
theorem dX9_fits_31 : decode cX9_fits 31 = .ok (.iconst (-1), 1) := by decide +kernel
theorem dX9_fits_32 : decode cX9_fits 32 = .ok (.ireturn, 1) := by decide +kernel
theorem dX9_fits_33 : decode cX9_fits 33 = .ok (.iconst 1, 1) := by decide +kernel
theorem dX9_fits_34 : decode cX9_fits 34 = .ok (.aload_n 0, 1) := by decide +kernel
theorem dX9_fits_35 : decode cX9_fits 35 = .ok (.getfield 42, 3) := by decide +kernel
theorem dX9_fits_38 : decode cX9_fits 38 = .ok (.iconst 0, 1) := by decide +kernel
theorem dX9_fits_39 : decode cX9_fits 39 = .ok (.iaload, 1) := by decide +kernel
theorem dX9_fits_40 : decode cX9_fits 40 = .ok (.ishl, 1) := by decide +kernel
theorem dX9_fits_41 : decode cX9_fits 41 = .ok (.iconst 1, 1) := by decide +kernel
theorem dX9_fits_42 : decode cX9_fits 42 = .ok (.isub, 1) := by decide +kernel
theorem dX9_fits_43 : decode cX9_fits 43 = .ok (.istore_n 3, 1) := by decide +kernel
theorem dX9_fits_44 : decode cX9_fits 44 = .ok (.iconst 0, 1) := by decide +kernel
theorem dX9_fits_45 : decode cX9_fits 45 = .ok (.istore 4, 2) := by decide +kernel
theorem dX9_fits_47 : decode cX9_fits 47 = .ok (.iload_n 3, 1) := by decide +kernel
theorem dX9_fits_48 : decode cX9_fits 48 = .ok (.istore 5, 2) := by decide +kernel
theorem dX9_fits_50 : decode cX9_fits 50 = .ok (.iload_n 3, 1) := by decide +kernel
theorem dX9_fits_51 : decode cX9_fits 51 = .ok (.istore 6, 2) := by decide +kernel
theorem dX9_fits_53 : decode cX9_fits 53 = .ok (.iconst 0, 1) := by decide +kernel
theorem dX9_fits_54 : decode cX9_fits 54 = .ok (.istore 7, 2) := by decide +kernel
theorem dX9_fits_56 : decode cX9_fits 56 = .ok (.iload 7, 2) := by decide +kernel
theorem dX9_fits_58 : decode cX9_fits 58 = .ok (.iload_n 3, 1) := by decide +kernel
theorem dX9_fits_59 : decode cX9_fits 59 = .ok (.if_icmp .gt 41, 3) := by decide +kernel
theorem dX9_fits_62 : decode cX9_fits 62 = .ok (.aload_n 0, 1) := by decide +kernel
theorem dX9_fits_63 : decode cX9_fits 63 = .ok (.iload 7, 2) := by decide +kernel
theorem dX9_fits_65 : decode cX9_fits 65 = .ok (.iload_n 1, 1) := by decide +kernel
theorem dX9_fits_66 : decode cX9_fits 66 = .ok (.invokevirtual 409, 3) := by decide +kernel
theorem dX9_fits_69 : decode cX9_fits 69 = .ok (.ifCond .ne 6, 3) := by decide +kernel
theorem dX9_fits_72 : decode cX9_fits 72 = .ok (.goto 22, 3) := by decide +kernel
theorem dX9_fits_75 : decode cX9_fits 75 = .ok (.iload 5, 2) := by decide +kernel
theorem dX9_fits_77 : decode cX9_fits 77 = .ok (.iload 7, 2) := by decide +kernel
theorem dX9_fits_79 : decode cX9_fits 79 = .ok (.iand, 1) := by decide +kernel
theorem dX9_fits_80 : decode cX9_fits 80 = .ok (.istore 5, 2) := by decide +kernel
theorem dX9_fits_82 : decode cX9_fits 82 = .ok (.iload 6, 2) := by decide +kernel
theorem dX9_fits_84 : decode cX9_fits 84 = .ok (.iload 7, 2) := by decide +kernel
theorem dX9_fits_86 : decode cX9_fits 86 = .ok (.iconst (-1), 1) := by decide +kernel
theorem dX9_fits_87 : decode cX9_fits 87 = .ok (.ixor, 1) := by decide +kernel
theorem dX9_fits_88 : decode cX9_fits 88 = .ok (.iand, 1) := by decide +kernel
theorem dX9_fits_89 : decode cX9_fits 89 = .ok (.istore 6, 2) := by decide +kernel
theorem dX9_fits_91 : decode cX9_fits 91 = .ok (.iinc 4 1, 3) := by decide +kernel
theorem dX9_fits_94 : decode cX9_fits 94 = .ok (.iinc 7 1, 3) := by decide +kernel
theorem dX9_fits_97 : decode cX9_fits 97 = .ok (.goto (-41), 3) := by decide +kernel
theorem dX9_fits_100 : decode cX9_fits 100 = .ok (.iload_n 2, 1) := by decide +kernel
theorem dX9_fits_101 : decode cX9_fits 101 = .ok (.ifCond .ne 8, 3) := by decide +kernel
theorem dX9_fits_104 : decode cX9_fits 104 = .ok (.iload 4, 2) := by decide +kernel
theorem dX9_fits_106 : decode cX9_fits 106 = .ok (.goto 24, 3) := by decide +kernel
theorem dX9_fits_109 : decode cX9_fits 109 = .ok (.iload 4, 2) := by decide +kernel
theorem dX9_fits_111 : decode cX9_fits 111 = .ok (.ifCond .ne 7, 3) := by decide +kernel
theorem dX9_fits_114 : decode cX9_fits 114 = .ok (.iconst 0, 1) := by decide +kernel
theorem dX9_fits_115 : decode cX9_fits 115 = .ok (.goto 15, 3) := by decide +kernel
theorem dX9_fits_118 : decode cX9_fits 118 = .ok (.iload_n 2, 1) := by decide +kernel
theorem dX9_fits_119 : decode cX9_fits 119 = .ok (.iconst 1, 1) := by decide +kernel
theorem dX9_fits_120 : decode cX9_fits 120 = .ok (.if_icmp .ne 8, 3) := by decide +kernel
theorem dX9_fits_123 : decode cX9_fits 123 = .ok (.iload 5, 2) := by decide +kernel
theorem dX9_fits_125 : decode cX9_fits 125 = .ok (.goto 5, 3) := by decide +kernel
theorem dX9_fits_128 : decode cX9_fits 128 = .ok (.iload 6, 2) := by decide +kernel
theorem dX9_fits_130 : decode cX9_fits 130 = .ok (.ireturn, 1) := by decide +kernel
theorem dX9_four_0 : decode cX9_four 0 = .ok (.bipush 24, 2) := by decide +kernel
theorem dX9_four_2 : decode cX9_four 2 = .ok (.istore_n 2, 1) := by decide +kernel
theorem dX9_four_3 : decode cX9_four 3 = .ok (.iload_n 2, 1) := by decide +kernel
theorem dX9_four_4 : decode cX9_four 4 = .ok (.ifCond .lt 32, 3) := by decide +kernel
theorem dX9_four_7 : decode cX9_four 7 = .ok (.aload_n 0, 1) := by decide +kernel
theorem dX9_four_8 : decode cX9_four 8 = .ok (.getfield 7, 3) := by decide +kernel
theorem dX9_four_11 : decode cX9_four 11 = .ok (.aload_n 0, 1) := by decide +kernel
theorem dX9_four_12 : decode cX9_four 12 = .ok (.getfield 79, 3) := by decide +kernel
theorem dX9_four_15 : decode cX9_four 15 = .ok (.iload_n 1, 1) := by decide +kernel
theorem dX9_four_16 : decode cX9_four 16 = .ok (.iload_n 2, 1) := by decide +kernel
theorem dX9_four_17 : decode cX9_four 17 = .ok (.ishr, 1) := by decide +kernel
theorem dX9_four_18 : decode cX9_four 18 = .ok (.i2b, 1) := by decide +kernel
theorem dX9_four_19 : decode cX9_four 19 = .ok (.bastore, 1) := by decide +kernel
theorem dX9_four_20 : decode cX9_four 20 = .ok (.aload_n 0, 1) := by decide +kernel
theorem dX9_four_21 : decode cX9_four 21 = .ok (.dup, 1) := by decide +kernel
theorem dX9_four_22 : decode cX9_four 22 = .ok (.getfield 79, 3) := by decide +kernel
theorem dX9_four_25 : decode cX9_four 25 = .ok (.iconst 1, 1) := by decide +kernel
theorem dX9_four_26 : decode cX9_four 26 = .ok (.iadd, 1) := by decide +kernel
theorem dX9_four_27 : decode cX9_four 27 = .ok (.putfield 79, 3) := by decide +kernel
theorem dX9_four_30 : decode cX9_four 30 = .ok (.iinc 2 (-8), 3) := by decide +kernel
theorem dX9_four_33 : decode cX9_four 33 = .ok (.goto (-30), 3) := by decide +kernel
theorem dX9_four_36 : decode cX9_four 36 = .ok (.return_, 1) := by decide +kernel
theorem dX9_game_0 : decode cX9_game 0 = .ok (.iload_n 1, 1) := by decide +kernel
theorem dX9_game_1 : decode cX9_game 1 = .ok (.i2l, 1) := by decide +kernel
theorem dX9_game_2 : decode cX9_game 2 = .ok (.lconst 0, 1) := by decide +kernel
theorem dX9_game_3 : decode cX9_game 3 = .ok (.ldc2_w 395, 3) := by decide +kernel
theorem dX9_game_6 : decode cX9_game 6 = .ok (.invokestatic 118, 3) := by decide +kernel
theorem dX9_game_9 : decode cX9_game 9 = .ok (.ifCond .eq 17, 3) := by decide +kernel
theorem dX9_game_12 : decode cX9_game 12 = .ok (.iload_n 2, 1) := by decide +kernel
theorem dX9_game_13 : decode cX9_game 13 = .ok (.i2l, 1) := by decide +kernel
theorem dX9_game_14 : decode cX9_game 14 = .ok (.ldc2_w 397, 3) := by decide +kernel
theorem dX9_game_17 : decode cX9_game 17 = .ok (.ldc2_w 399, 3) := by decide +kernel
theorem dX9_game_20 : decode cX9_game 20 = .ok (.invokestatic 118, 3) := by decide +kernel
theorem dX9_game_23 : decode cX9_game 23 = .ok (.ifCond .ne 7, 3) := by decide +kernel
theorem dX9_game_26 : decode cX9_game 26 = .ok (.sipush (-1000), 3) := by decide +kernel
theorem dX9_game_29 : decode cX9_game 29 = .ok (.ireturn, 1) := by decide +kernel
theorem dX9_game_30 : decode cX9_game 30 = .ok (.aload_n 0, 1) := by decide +kernel
theorem dX9_game_31 : decode cX9_game 31 = .ok (.getfield 42, 3) := by decide +kernel
theorem dX9_game_34 : decode cX9_game 34 = .ok (.bipush 18, 2) := by decide +kernel
theorem dX9_game_36 : decode cX9_game 36 = .ok (.iload_n 1, 1) := by decide +kernel
theorem dX9_game_37 : decode cX9_game 37 = .ok (.iadd, 1) := by decide +kernel
theorem dX9_game_38 : decode cX9_game 38 = .ok (.iaload, 1) := by decide +kernel
theorem dX9_game_39 : decode cX9_game 39 = .ok (.istore_n 3, 1) := by decide +kernel
theorem dX9_game_40 : decode cX9_game 40 = .ok (.aload_n 0, 1) := by decide +kernel
theorem dX9_game_41 : decode cX9_game 41 = .ok (.getfield 42, 3) := by decide +kernel
theorem dX9_game_44 : decode cX9_game 44 = .ok (.bipush 18, 2) := by decide +kernel
theorem dX9_game_46 : decode cX9_game 46 = .ok (.iload_n 1, 1) := by decide +kernel
theorem dX9_game_47 : decode cX9_game 47 = .ok (.iadd, 1) := by decide +kernel
theorem dX9_game_48 : decode cX9_game 48 = .ok (.iload_n 2, 1) := by decide +kernel
theorem dX9_game_49 : decode cX9_game 49 = .ok (.iastore, 1) := by decide +kernel
theorem dX9_game_50 : decode cX9_game 50 = .ok (.iload_n 3, 1) := by decide +kernel
theorem dX9_game_51 : decode cX9_game 51 = .ok (.ireturn, 1) := by decide +kernel
theorem dX9_gameOf_0 : decode cX9_gameOf 0 = .ok (.aload_n 0, 1) := by decide +kernel
theorem dX9_gameOf_1 : decode cX9_gameOf 1 = .ok (.getfield 42, 3) := by decide +kernel
theorem dX9_gameOf_4 : decode cX9_gameOf 4 = .ok (.bipush 18, 2) := by decide +kernel
theorem dX9_gameOf_6 : decode cX9_gameOf 6 = .ok (.iload_n 1, 1) := by decide +kernel
theorem dX9_gameOf_7 : decode cX9_gameOf 7 = .ok (.iadd, 1) := by decide +kernel
theorem dX9_gameOf_8 : decode cX9_gameOf 8 = .ok (.iaload, 1) := by decide +kernel
theorem dX9_gameOf_9 : decode cX9_gameOf 9 = .ok (.ireturn, 1) := by decide +kernel
theorem dX9_goesThrough_0 : decode cX9_goesThrough 0 = .ok (.iconst 0, 1) := by decide +kernel
theorem dX9_goesThrough_1 : decode cX9_goesThrough 1 = .ok (.istore_n 2, 1) := by decide +kernel
theorem dX9_goesThrough_2 : decode cX9_goesThrough 2 = .ok (.aload_n 0, 1) := by decide +kernel
theorem dX9_goesThrough_3 : decode cX9_goesThrough 3 = .ok (.iconst 0, 1) := by decide +kernel
theorem dX9_goesThrough_4 : decode cX9_goesThrough 4 = .ok (.iload_n 1, 1) := by decide +kernel
theorem dX9_goesThrough_5 : decode cX9_goesThrough 5 = .ok (.invokevirtual 378, 3) := by decide +kernel
theorem dX9_goesThrough_8 : decode cX9_goesThrough 8 = .ok (.iconst 1, 1) := by decide +kernel
theorem dX9_goesThrough_9 : decode cX9_goesThrough 9 = .ok (.istore_n 3, 1) := by decide +kernel
theorem dX9_goesThrough_10 : decode cX9_goesThrough 10 = .ok (.iload_n 2, 1) := by decide +kernel
theorem dX9_goesThrough_11 : decode cX9_goesThrough 11 = .ok (.ifCond .lt 111, 3) := by decide +kernel
theorem dX9_goesThrough_14 : decode cX9_goesThrough 14 = .ok (.iload_n 2, 1) := by decide +kernel
theorem dX9_goesThrough_15 : decode cX9_goesThrough 15 = .ok (.iload_n 1, 1) := by decide +kernel
theorem dX9_goesThrough_16 : decode cX9_goesThrough 16 = .ok (.if_icmp .eq 15, 3) := by decide +kernel
theorem dX9_goesThrough_19 : decode cX9_goesThrough 19 = .ok (.iload_n 3, 1) := by decide +kernel
theorem dX9_goesThrough_20 : decode cX9_goesThrough 20 = .ok (.ifCond .eq 82, 3) := by decide +kernel
theorem dX9_goesThrough_23 : decode cX9_goesThrough 23 = .ok (.aload_n 0, 1) := by decide +kernel
theorem dX9_goesThrough_24 : decode cX9_goesThrough 24 = .ok (.iload_n 2, 1) := by decide +kernel
theorem dX9_goesThrough_25 : decode cX9_goesThrough 25 = .ok (.invokevirtual 381, 3) := by decide +kernel
theorem dX9_goesThrough_28 : decode cX9_goesThrough 28 = .ok (.ifCond .ne 74, 3) := by decide +kernel
theorem dX9_goesThrough_31 : decode cX9_goesThrough 31 = .ok (.aload_n 0, 1) := by decide +kernel
theorem dX9_goesThrough_32 : decode cX9_goesThrough 32 = .ok (.getfield 61, 3) := by decide +kernel
theorem dX9_goesThrough_35 : decode cX9_goesThrough 35 = .ok (.iload_n 2, 1) := by decide +kernel
theorem dX9_goesThrough_36 : decode cX9_goesThrough 36 = .ok (.laload, 1) := by decide +kernel
theorem dX9_goesThrough_37 : decode cX9_goesThrough 37 = .ok (.lstore 4, 2) := by decide +kernel
theorem dX9_goesThrough_39 : decode cX9_goesThrough 39 = .ok (.aload_n 0, 1) := by decide +kernel
theorem dX9_goesThrough_40 : decode cX9_goesThrough 40 = .ok (.getfield 64, 3) := by decide +kernel
theorem dX9_goesThrough_43 : decode cX9_goesThrough 43 = .ok (.iload_n 2, 1) := by decide +kernel
theorem dX9_goesThrough_44 : decode cX9_goesThrough 44 = .ok (.laload, 1) := by decide +kernel
theorem dX9_goesThrough_45 : decode cX9_goesThrough 45 = .ok (.lstore 6, 2) := by decide +kernel
theorem dX9_goesThrough_47 : decode cX9_goesThrough 47 = .ok (.iinc 2 (-1), 3) := by decide +kernel
theorem dX9_goesThrough_50 : decode cX9_goesThrough 50 = .ok (.iload_n 2, 1) := by decide +kernel
theorem dX9_goesThrough_51 : decode cX9_goesThrough 51 = .ok (.ifCond .ge 4, 3) := by decide +kernel
theorem dX9_goesThrough_54 : decode cX9_goesThrough 54 = .ok (.return_, 1) := by decide +kernel
theorem dX9_goesThrough_55 : decode cX9_goesThrough 55 = .ok (.aload_n 0, 1) := by decide +kernel
theorem dX9_goesThrough_56 : decode cX9_goesThrough 56 = .ok (.getfield 51, 3) := by decide +kernel
theorem dX9_goesThrough_59 : decode cX9_goesThrough 59 = .ok (.iload_n 2, 1) := by decide +kernel
theorem dX9_goesThrough_60 : decode cX9_goesThrough 60 = .ok (.baload, 1) := by decide +kernel
theorem dX9_goesThrough_61 : decode cX9_goesThrough 61 = .ok (.istore 8, 2) := by decide +kernel
theorem dX9_goesThrough_63 : decode cX9_goesThrough 63 = .ok (.aload_n 0, 1) := by decide +kernel
theorem dX9_goesThrough_64 : decode cX9_goesThrough 64 = .ok (.iload_n 2, 1) := by decide +kernel
theorem dX9_goesThrough_65 : decode cX9_goesThrough 65 = .ok (.iload_n 1, 1) := by decide +kernel
theorem dX9_goesThrough_66 : decode cX9_goesThrough 66 = .ok (.lload 4, 2) := by decide +kernel
theorem dX9_goesThrough_68 : decode cX9_goesThrough 68 = .ok (.lload 6, 2) := by decide +kernel
theorem dX9_goesThrough_70 : decode cX9_goesThrough 70 = .ok (.invokevirtual 384, 3) := by decide +kernel
theorem dX9_goesThrough_73 : decode cX9_goesThrough 73 = .ok (.iload 8, 2) := by decide +kernel
theorem dX9_goesThrough_75 : decode cX9_goesThrough 75 = .ok (.ifCond .ne 7, 3) := by decide +kernel
theorem dX9_goesThrough_78 : decode cX9_goesThrough 78 = .ok (.iconst 1, 1) := by decide +kernel
theorem dX9_goesThrough_79 : decode cX9_goesThrough 79 = .ok (.goto 4, 3) := by decide +kernel
theorem dX9_goesThrough_82 : decode cX9_goesThrough 82 = .ok (.iconst 0, 1) := by decide +kernel
theorem dX9_goesThrough_83 : decode cX9_goesThrough 83 = .ok (.istore_n 3, 1) := by decide +kernel
theorem dX9_goesThrough_84 : decode cX9_goesThrough 84 = .ok (.iload_n 3, 1) := by decide +kernel
theorem dX9_goesThrough_85 : decode cX9_goesThrough 85 = .ok (.ifCond .ne (-75), 3) := by decide +kernel
theorem dX9_goesThrough_88 : decode cX9_goesThrough 88 = .ok (.iinc 2 1, 3) := by decide +kernel
theorem dX9_goesThrough_91 : decode cX9_goesThrough 91 = .ok (.aload_n 0, 1) := by decide +kernel
theorem dX9_goesThrough_92 : decode cX9_goesThrough 92 = .ok (.iload_n 2, 1) := by decide +kernel
theorem dX9_goesThrough_93 : decode cX9_goesThrough 93 = .ok (.iload_n 1, 1) := by decide +kernel
theorem dX9_goesThrough_94 : decode cX9_goesThrough 94 = .ok (.invokevirtual 378, 3) := by decide +kernel
theorem dX9_goesThrough_97 : decode cX9_goesThrough 97 = .ok (.iconst 1, 1) := by decide +kernel
theorem dX9_goesThrough_98 : decode cX9_goesThrough 98 = .ok (.istore_n 3, 1) := by decide +kernel
theorem dX9_goesThrough_99 : decode cX9_goesThrough 99 = .ok (.goto (-89), 3) := by decide +kernel
theorem dX9_goesThrough_102 : decode cX9_goesThrough 102 = .ok (.aload_n 0, 1) := by decide +kernel
theorem dX9_goesThrough_103 : decode cX9_goesThrough 103 = .ok (.iload_n 2, 1) := by decide +kernel
theorem dX9_goesThrough_104 : decode cX9_goesThrough 104 = .ok (.iconst 1, 1) := by decide +kernel
theorem dX9_goesThrough_105 : decode cX9_goesThrough 105 = .ok (.invokevirtual 374, 3) := by decide +kernel
