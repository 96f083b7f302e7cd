theorem dX4_readComparison_15 : decode cX4_readComparison 15 = .ok (.aload_n 0, 1) := by decide +kernel
theorem dX4_readComparison_16 : decode cX4_readComparison 16 = .ok (.getfield 12, 3) := by decide +kernel
theorem dX4_readComparison_19 : decode cX4_readComparison 19 = .ok (.getfield 66, 3) := by decide +kernel
theorem dX4_readComparison_22 : decode cX4_readComparison 22 = .ok (.istore_n 1, 1) := by decide +kernel
theorem dX4_readComparison_23 : decode cX4_readComparison 23 = .ok (.iload_n 1, 1) := by decide +kernel
theorem dX4_readComparison_24 : decode cX4_readComparison 24 = .ok (.bipush 60, 2) := by decide +kernel
theorem dX4_readComparison_26 : decode cX4_readComparison 26 = .ok (.if_icmp .eq 38, 3) := by decide +kernel
theorem dX4_readComparison_29 : decode cX4_readComparison 29 = .ok (.iload_n 1, 1) := by decide +kernel
theorem dX4_readComparison_30 : decode cX4_readComparison 30 = .ok (.sipush 256, 3) := by decide +kernel
theorem dX4_readComparison_33 : decode cX4_readComparison 33 = .ok (.if_icmp .eq 31, 3) := by decide +kernel
theorem dX4_readComparison_36 : decode cX4_readComparison 36 = .ok (.iload_n 1, 1) := by decide +kernel
theorem dX4_readComparison_37 : decode cX4_readComparison 37 = .ok (.bipush 61, 2) := by decide +kernel
theorem dX4_readComparison_39 : decode cX4_readComparison 39 = .ok (.if_icmp .eq 25, 3) := by decide +kernel
theorem dX4_readComparison_42 : decode cX4_readComparison 42 = .ok (.iload_n 1, 1) := by decide +kernel
theorem dX4_readComparison_43 : decode cX4_readComparison 43 = .ok (.sipush 257, 3) := by decide +kernel
theorem dX4_readComparison_46 : decode cX4_readComparison 46 = .ok (.if_icmp .eq 18, 3) := by decide +kernel
theorem dX4_readComparison_49 : decode cX4_readComparison 49 = .ok (.iload_n 1, 1) := by decide +kernel
theorem dX4_readComparison_50 : decode cX4_readComparison 50 = .ok (.bipush 62, 2) := by decide +kernel
theorem dX4_readComparison_52 : decode cX4_readComparison 52 = .ok (.if_icmp .eq 12, 3) := by decide +kernel
theorem dX4_readComparison_55 : decode cX4_readComparison 55 = .ok (.aload_n 0, 1) := by decide +kernel
theorem dX4_readComparison_56 : decode cX4_readComparison 56 = .ok (.getfield 12, 3) := by decide +kernel
theorem dX4_readComparison_59 : decode cX4_readComparison 59 = .ok (.iconst 0, 1) := by decide +kernel
theorem dX4_readComparison_60 : decode cX4_readComparison 60 = .ok (.invokevirtual 68, 3) := by decide +kernel
theorem dX4_readComparison_63 : decode cX4_readComparison 63 = .ok (.return_, 1) := by decide +kernel
theorem dX4_readComparison_64 : decode cX4_readComparison 64 = .ok (.aload_n 0, 1) := by decide +kernel
theorem dX4_readComparison_65 : decode cX4_readComparison 65 = .ok (.getfield 35, 3) := by decide +kernel
theorem dX4_readComparison_68 : decode cX4_readComparison 68 = .ok (.bipush 60, 2) := by decide +kernel
theorem dX4_readComparison_70 : decode cX4_readComparison 70 = .ok (.if_icmp .lt 12, 3) := by decide +kernel
theorem dX4_readComparison_73 : decode cX4_readComparison 73 = .ok (.aload_n 0, 1) := by decide +kernel
theorem dX4_readComparison_74 : decode cX4_readComparison 74 = .ok (.getfield 12, 3) := by decide +kernel
theorem dX4_readComparison_77 : decode cX4_readComparison 77 = .ok (.iconst 3, 1) := by decide +kernel
theorem dX4_readComparison_78 : decode cX4_readComparison 78 = .ok (.invokevirtual 68, 3) := by decide +kernel
theorem dX4_readComparison_81 : decode cX4_readComparison 81 = .ok (.return_, 1) := by decide +kernel
theorem dX4_readComparison_82 : decode cX4_readComparison 82 = .ok (.aload_n 0, 1) := by decide +kernel
theorem dX4_readComparison_83 : decode cX4_readComparison 83 = .ok (.dup, 1) := by decide +kernel
theorem dX4_readComparison_84 : decode cX4_readComparison 84 = .ok (.getfield 35, 3) := by decide +kernel
theorem dX4_readComparison_87 : decode cX4_readComparison 87 = .ok (.iconst 1, 1) := by decide +kernel
theorem dX4_readComparison_88 : decode cX4_readComparison 88 = .ok (.iadd, 1) := by decide +kernel
theorem dX4_readComparison_89 : decode cX4_readComparison 89 = .ok (.putfield 35, 3) := by decide +kernel
theorem dX4_readComparison_92 : decode cX4_readComparison 92 = .ok (.aload_n 0, 1) := by decide +kernel
theorem dX4_readComparison_93 : decode cX4_readComparison 93 = .ok (.getfield 12, 3) := by decide +kernel
theorem dX4_readComparison_96 : decode cX4_readComparison 96 = .ok (.invokevirtual 72, 3) := by decide +kernel
theorem dX4_readComparison_99 : decode cX4_readComparison 99 = .ok (.aload_n 0, 1) := by decide +kernel
theorem dX4_readComparison_100 : decode cX4_readComparison 100 = .ok (.invokevirtual 79, 3) := by decide +kernel
theorem dX4_readComparison_103 : decode cX4_readComparison 103 = .ok (.aload_n 0, 1) := by decide +kernel
theorem dX4_readComparison_104 : decode cX4_readComparison 104 = .ok (.iload_n 1, 1) := by decide +kernel
theorem dX4_readComparison_105 : decode cX4_readComparison 105 = .ok (.ineg, 1) := by decide +kernel
theorem dX4_readComparison_106 : decode cX4_readComparison 106 = .ok (.invokevirtual 91, 3) := by decide +kernel
theorem dX4_readComparison_109 : decode cX4_readComparison 109 = .ok (.return_, 1) := by decide +kernel
theorem dX4_readFact_0 : decode cX4_readFact 0 = .ok (.aload_n 0, 1) := by decide +kernel
theorem dX4_readFact_1 : decode cX4_readFact 1 = .ok (.getfield 12, 3) := by decide +kernel
theorem dX4_readFact_4 : decode cX4_readFact 4 = .ok (.getfield 66, 3) := by decide +kernel
theorem dX4_readFact_7 : decode cX4_readFact 7 = .ok (.sipush 311, 3) := by decide +kernel
theorem dX4_readFact_10 : decode cX4_readFact 10 = .ok (.if_icmp .ne 7, 3) := by decide +kernel
theorem dX4_readFact_13 : decode cX4_readFact 13 = .ok (.iconst 1, 1) := by decide +kernel
theorem dX4_readFact_14 : decode cX4_readFact 14 = .ok (.goto 4, 3) := by decide +kernel
theorem dX4_readFact_17 : decode cX4_readFact 17 = .ok (.iconst 0, 1) := by decide +kernel
theorem dX4_readFact_18 : decode cX4_readFact 18 = .ok (.istore_n 2, 1) := by decide +kernel
theorem dX4_readFact_19 : decode cX4_readFact 19 = .ok (.iload_n 2, 1) := by decide +kernel
theorem dX4_readFact_20 : decode cX4_readFact 20 = .ok (.ifCond .ne 20, 3) := by decide +kernel
theorem dX4_readFact_23 : decode cX4_readFact 23 = .ok (.aload_n 0, 1) := by decide +kernel
theorem dX4_readFact_24 : decode cX4_readFact 24 = .ok (.getfield 12, 3) := by decide +kernel
theorem dX4_readFact_27 : decode cX4_readFact 27 = .ok (.getfield 66, 3) := by decide +kernel
theorem dX4_readFact_30 : decode cX4_readFact 30 = .ok (.bipush 91, 2) := by decide +kernel
theorem dX4_readFact_32 : decode cX4_readFact 32 = .ok (.if_icmp .eq 8, 3) := by decide +kernel
theorem dX4_readFact_35 : decode cX4_readFact 35 = .ok (.aload_n 0, 1) := by decide +kernel
theorem dX4_readFact_36 : decode cX4_readFact 36 = .ok (.invokevirtual 94, 3) := by decide +kernel
theorem dX4_readFact_39 : decode cX4_readFact 39 = .ok (.return_, 1) := by decide +kernel
theorem dX4_readFact_40 : decode cX4_readFact 40 = .ok (.iload_n 1, 1) := by decide +kernel
theorem dX4_readFact_41 : decode cX4_readFact 41 = .ok (.bipush 10, 2) := by decide +kernel
theorem dX4_readFact_43 : decode cX4_readFact 43 = .ok (.if_icmp .lt 12, 3) := by decide +kernel
theorem dX4_readFact_46 : decode cX4_readFact 46 = .ok (.aload_n 0, 1) := by decide +kernel
theorem dX4_readFact_47 : decode cX4_readFact 47 = .ok (.getfield 12, 3) := by decide +kernel
theorem dX4_readFact_50 : decode cX4_readFact 50 = .ok (.iconst 2, 1) := by decide +kernel
theorem dX4_readFact_51 : decode cX4_readFact 51 = .ok (.invokevirtual 68, 3) := by decide +kernel
theorem dX4_readFact_54 : decode cX4_readFact 54 = .ok (.return_, 1) := by decide +kernel
theorem dX4_readFact_55 : decode cX4_readFact 55 = .ok (.aload_n 0, 1) := by decide +kernel
theorem dX4_readFact_56 : decode cX4_readFact 56 = .ok (.getfield 12, 3) := by decide +kernel
theorem dX4_readFact_59 : decode cX4_readFact 59 = .ok (.invokevirtual 72, 3) := by decide +kernel
theorem dX4_readFact_62 : decode cX4_readFact 62 = .ok (.iload_n 2, 1) := by decide +kernel
theorem dX4_readFact_63 : decode cX4_readFact 63 = .ok (.ifCond .eq 18, 3) := by decide +kernel
theorem dX4_readFact_66 : decode cX4_readFact 66 = .ok (.aload_n 0, 1) := by decide +kernel
theorem dX4_readFact_67 : decode cX4_readFact 67 = .ok (.iload_n 1, 1) := by decide +kernel
theorem dX4_readFact_68 : decode cX4_readFact 68 = .ok (.iconst 1, 1) := by decide +kernel
theorem dX4_readFact_69 : decode cX4_readFact 69 = .ok (.iadd, 1) := by decide +kernel
theorem dX4_readFact_70 : decode cX4_readFact 70 = .ok (.invokevirtual 88, 3) := by decide +kernel
theorem dX4_readFact_73 : decode cX4_readFact 73 = .ok (.aload_n 0, 1) := by decide +kernel
theorem dX4_readFact_74 : decode cX4_readFact 74 = .ok (.sipush (-311), 3) := by decide +kernel
theorem dX4_readFact_77 : decode cX4_readFact 77 = .ok (.invokevirtual 91, 3) := by decide +kernel
theorem dX4_readFact_80 : decode cX4_readFact 80 = .ok (.return_, 1) := by decide +kernel
theorem dX4_readFact_81 : decode cX4_readFact 81 = .ok (.aload_n 0, 1) := by decide +kernel
theorem dX4_readFact_82 : decode cX4_readFact 82 = .ok (.iload_n 1, 1) := by decide +kernel
theorem dX4_readFact_83 : decode cX4_readFact 83 = .ok (.iconst 1, 1) := by decide +kernel
theorem dX4_readFact_84 : decode cX4_readFact 84 = .ok (.iadd, 1) := by decide +kernel
theorem dX4_readFact_85 : decode cX4_readFact 85 = .ok (.invokevirtual 85, 3) := by decide +kernel
theorem dX4_readFact_88 : decode cX4_readFact 88 = .ok (.aload_n 0, 1) := by decide +kernel
theorem dX4_readFact_89 : decode cX4_readFact 89 = .ok (.getfield 12, 3) := by decide +kernel
theorem dX4_readFact_92 : decode cX4_readFact 92 = .ok (.getfield 82, 3) := by decide +kernel
theorem dX4_readFact_95 : decode cX4_readFact 95 = .ok (.ifCond .ne 24, 3) := by decide +kernel
theorem dX4_readFact_98 : decode cX4_readFact 98 = .ok (.aload_n 0, 1) := by decide +kernel
theorem dX4_readFact_99 : decode cX4_readFact 99 = .ok (.getfield 12, 3) := by decide +kernel
theorem dX4_readFact_102 : decode cX4_readFact 102 = .ok (.getfield 66, 3) := by decide +kernel
theorem dX4_readFact_105 : decode cX4_readFact 105 = .ok (.bipush 93, 2) := by decide +kernel
theorem dX4_readFact_107 : decode cX4_readFact 107 = .ok (.if_icmp .eq 12, 3) := by decide +kernel
theorem dX4_readFact_110 : decode cX4_readFact 110 = .ok (.aload_n 0, 1) := by decide +kernel
theorem dX4_readFact_111 : decode cX4_readFact 111 = .ok (.getfield 12, 3) := by decide +kernel
theorem dX4_readFact_114 : decode cX4_readFact 114 = .ok (.iconst 0, 1) := by decide +kernel
theorem dX4_readFact_115 : decode cX4_readFact 115 = .ok (.invokevirtual 68, 3) := by decide +kernel
theorem dX4_readFact_118 : decode cX4_readFact 118 = .ok (.return_, 1) := by decide +kernel
theorem dX4_readFact_119 : decode cX4_readFact 119 = .ok (.aload_n 0, 1) := by decide +kernel
theorem dX4_readFact_120 : decode cX4_readFact 120 = .ok (.getfield 12, 3) := by decide +kernel
theorem dX4_readFact_123 : decode cX4_readFact 123 = .ok (.invokevirtual 72, 3) := by decide +kernel
theorem dX4_readFact_126 : decode cX4_readFact 126 = .ok (.return_, 1) := by decide +kernel
theorem dX4_readSum_0 : decode cX4_readSum 0 = .ok (.iconst 0, 1) := by decide +kernel
theorem dX4_readSum_1 : decode cX4_readSum 1 = .ok (.istore_n 1, 1) := by decide +kernel
theorem dX4_readSum_2 : decode cX4_readSum 2 = .ok (.aload_n 0, 1) := by decide +kernel
theorem dX4_readSum_3 : decode cX4_readSum 3 = .ok (.invokevirtual 97, 3) := by decide +kernel
theorem dX4_readSum_6 : decode cX4_readSum 6 = .ok (.iconst 0, 1) := by decide +kernel
theorem dX4_readSum_7 : decode cX4_readSum 7 = .ok (.istore_n 2, 1) := by decide +kernel
theorem dX4_readSum_8 : decode cX4_readSum 8 = .ok (.iload_n 2, 1) := by decide +kernel
theorem dX4_readSum_9 : decode cX4_readSum 9 = .ok (.sipush 400, 3) := by decide +kernel
theorem dX4_readSum_12 : decode cX4_readSum 12 = .ok (.if_icmp .ge 114, 3) := by decide +kernel
theorem dX4_readSum_15 : decode cX4_readSum 15 = .ok (.aload_n 0, 1) := by decide +kernel
theorem dX4_readSum_16 : decode cX4_readSum 16 = .ok (.getfield 12, 3) := by decide +kernel
theorem dX4_readSum_19 : decode cX4_readSum 19 = .ok (.getfield 82, 3) := by decide +kernel
theorem dX4_readSum_22 : decode cX4_readSum 22 = .ok (.ifCond .ne 104, 3) := by decide +kernel
theorem dX4_readSum_25 : decode cX4_readSum 25 = .ok (.aload_n 0, 1) := by decide +kernel
theorem dX4_readSum_26 : decode cX4_readSum 26 = .ok (.getfield 12, 3) := by decide +kernel
theorem dX4_readSum_29 : decode cX4_readSum 29 = .ok (.getfield 66, 3) := by decide +kernel
theorem dX4_readSum_32 : decode cX4_readSum 32 = .ok (.istore_n 3, 1) := by decide +kernel
theorem dX4_readSum_33 : decode cX4_readSum 33 = .ok (.iload_n 3, 1) := by decide +kernel
theorem dX4_readSum_34 : decode cX4_readSum 34 = .ok (.bipush 42, 2) := by decide +kernel
theorem dX4_readSum_36 : decode cX4_readSum 36 = .ok (.if_icmp .eq 9, 3) := by decide +kernel
theorem dX4_readSum_39 : decode cX4_readSum 39 = .ok (.iload_n 3, 1) := by decide +kernel
theorem dX4_readSum_40 : decode cX4_readSum 40 = .ok (.bipush 47, 2) := by decide +kernel
theorem dX4_readSum_42 : decode cX4_readSum 42 = .ok (.if_icmp .ne 7, 3) := by decide +kernel
theorem dX4_readSum_45 : decode cX4_readSum 45 = .ok (.iconst 1, 1) := by decide +kernel
theorem dX4_readSum_46 : decode cX4_readSum 46 = .ok (.goto 4, 3) := by decide +kernel
theorem dX4_readSum_49 : decode cX4_readSum 49 = .ok (.iconst 0, 1) := by decide +kernel
theorem dX4_readSum_50 : decode cX4_readSum 50 = .ok (.istore 4, 2) := by decide +kernel
theorem dX4_readSum_52 : decode cX4_readSum 52 = .ok (.iload 4, 2) := by decide +kernel
theorem dX4_readSum_54 : decode cX4_readSum 54 = .ok (.ifCond .ne 18, 3) := by decide +kernel
theorem dX4_readSum_57 : decode cX4_readSum 57 = .ok (.iload_n 3, 1) := by decide +kernel
theorem dX4_readSum_58 : decode cX4_readSum 58 = .ok (.bipush 43, 2) := by decide +kernel
theorem dX4_readSum_60 : decode cX4_readSum 60 = .ok (.if_icmp .eq 12, 3) := by decide +kernel
theorem dX4_readSum_63 : decode cX4_readSum 63 = .ok (.iload_n 3, 1) := by decide +kernel
theorem dX4_readSum_64 : decode cX4_readSum 64 = .ok (.bipush 45, 2) := by decide +kernel
theorem dX4_readSum_66 : decode cX4_readSum 66 = .ok (.if_icmp .eq 6, 3) := by decide +kernel
theorem dX4_readSum_69 : decode cX4_readSum 69 = .ok (.goto 57, 3) := by decide +kernel
theorem dX4_readSum_72 : decode cX4_readSum 72 = .ok (.iload 4, 2) := by decide +kernel
theorem dX4_readSum_74 : decode cX4_readSum 74 = .ok (.ifCond .ne 13, 3) := by decide +kernel
theorem dX4_readSum_77 : decode cX4_readSum 77 = .ok (.iload_n 1, 1) := by decide +kernel
theorem dX4_readSum_78 : decode cX4_readSum 78 = .ok (.ifCond .eq 9, 3) := by decide +kernel
theorem dX4_readSum_81 : decode cX4_readSum 81 = .ok (.aload_n 0, 1) := by decide +kernel
theorem dX4_readSum_82 : decode cX4_readSum 82 = .ok (.iload_n 1, 1) := by decide +kernel
theorem dX4_readSum_83 : decode cX4_readSum 83 = .ok (.ineg, 1) := by decide +kernel
theorem dX4_readSum_84 : decode cX4_readSum 84 = .ok (.invokevirtual 91, 3) := by decide +kernel
theorem dX4_readSum_87 : decode cX4_readSum 87 = .ok (.iload 4, 2) := by decide +kernel
theorem dX4_readSum_89 : decode cX4_readSum 89 = .ok (.ifCond .eq 7, 3) := by decide +kernel
theorem dX4_readSum_92 : decode cX4_readSum 92 = .ok (.iload_n 1, 1) := by decide +kernel
theorem dX4_readSum_93 : decode cX4_readSum 93 = .ok (.goto 4, 3) := by decide +kernel
theorem dX4_readSum_96 : decode cX4_readSum 96 = .ok (.iload_n 3, 1) := by decide +kernel
theorem dX4_readSum_97 : decode cX4_readSum 97 = .ok (.istore_n 1, 1) := by decide +kernel
theorem dX4_readSum_98 : decode cX4_readSum 98 = .ok (.aload_n 0, 1) := by decide +kernel
theorem dX4_readSum_99 : decode cX4_readSum 99 = .ok (.getfield 12, 3) := by decide +kernel
theorem dX4_readSum_102 : decode cX4_readSum 102 = .ok (.invokevirtual 72, 3) := by decide +kernel
theorem dX4_readSum_105 : decode cX4_readSum 105 = .ok (.aload_n 0, 1) := by decide +kernel
theorem dX4_readSum_106 : decode cX4_readSum 106 = .ok (.invokevirtual 97, 3) := by decide +kernel
theorem dX4_readSum_109 : decode cX4_readSum 109 = .ok (.iload 4, 2) := by decide +kernel
theorem dX4_readSum_111 : decode cX4_readSum 111 = .ok (.ifCond .eq 9, 3) := by decide +kernel
theorem dX4_readSum_114 : decode cX4_readSum 114 = .ok (.aload_n 0, 1) := by decide +kernel
theorem dX4_readSum_115 : decode cX4_readSum 115 = .ok (.iload_n 3, 1) := by decide +kernel
theorem dX4_readSum_116 : decode cX4_readSum 116 = .ok (.ineg, 1) := by decide +kernel
theorem dX4_readSum_117 : decode cX4_readSum 117 = .ok (.invokevirtual 91, 3) := by decide +kernel
theorem dX4_readSum_120 : decode cX4_readSum 120 = .ok (.iinc 2 1, 3) := by decide +kernel
theorem dX4_readSum_123 : decode cX4_readSum 123 = .ok (.goto (-115), 3) := by decide +kernel
theorem dX4_readSum_126 : decode cX4_readSum 126 = .ok (.iload_n 1, 1) := by decide +kernel
theorem dX4_readSum_127 : decode cX4_readSum 127 = .ok (.ifCond .eq 9, 3) := by decide +kernel
theorem dX4_readSum_130 : decode cX4_readSum 130 = .ok (.aload_n 0, 1) := by decide +kernel
theorem dX4_readSum_131 : decode cX4_readSum 131 = .ok (.iload_n 1, 1) := by decide +kernel
theorem dX4_readSum_132 : decode cX4_readSum 132 = .ok (.ineg, 1) := by decide +kernel
theorem dX4_readSum_133 : decode cX4_readSum 133 = .ok (.invokevirtual 91, 3) := by decide +kernel
theorem dX4_readSum_136 : decode cX4_readSum 136 = .ok (.return_, 1) := by decide +kernel
theorem dX4_readTest_0 : decode cX4_readTest 0 = .ok (.iconst 0, 1) := by decide +kernel
theorem dX4_readTest_1 : decode cX4_readTest 1 = .ok (.istore_n 2, 1) := by decide +kernel
theorem dX4_readTest_2 : decode cX4_readTest 2 = .ok (.aload_n 0, 1) := by decide +kernel
theorem dX4_readTest_3 : decode cX4_readTest 3 = .ok (.iload_n 1, 1) := by decide +kernel
theorem dX4_readTest_4 : decode cX4_readTest 4 = .ok (.invokevirtual 88, 3) := by decide +kernel
theorem dX4_readTest_7 : decode cX4_readTest 7 = .ok (.iconst 0, 1) := by decide +kernel
theorem dX4_readTest_8 : decode cX4_readTest 8 = .ok (.istore_n 3, 1) := by decide +kernel
theorem dX4_readTest_9 : decode cX4_readTest 9 = .ok (.iload_n 3, 1) := by decide +kernel
theorem dX4_readTest_10 : decode cX4_readTest 10 = .ok (.sipush 400, 3) := by decide +kernel
theorem dX4_readTest_13 : decode cX4_readTest 13 = .ok (.if_icmp .ge 120, 3) := by decide +kernel
theorem dX4_readTest_16 : decode cX4_readTest 16 = .ok (.aload_n 0, 1) := by decide +kernel
theorem dX4_readTest_17 : decode cX4_readTest 17 = .ok (.getfield 12, 3) := by decide +kernel
theorem dX4_readTest_20 : decode cX4_readTest 20 = .ok (.getfield 82, 3) := by decide +kernel
theorem dX4_readTest_23 : decode cX4_readTest 23 = .ok (.ifCond .ne 110, 3) := by decide +kernel
theorem dX4_readTest_26 : decode cX4_readTest 26 = .ok (.aload_n 0, 1) := by decide +kernel
theorem dX4_readTest_27 : decode cX4_readTest 27 = .ok (.getfield 12, 3) := by decide +kernel
theorem dX4_readTest_30 : decode cX4_readTest 30 = .ok (.getfield 66, 3) := by decide +kernel
theorem dX4_readTest_33 : decode cX4_readTest 33 = .ok (.sipush 309, 3) := by decide +kernel
theorem dX4_readTest_36 : decode cX4_readTest 36 = .ok (.if_icmp .eq 16, 3) := by decide +kernel
theorem dX4_readTest_39 : decode cX4_readTest 39 = .ok (.aload_n 0, 1) := by decide +kernel
theorem dX4_readTest_40 : decode cX4_readTest 40 = .ok (.getfield 12, 3) := by decide +kernel
theorem dX4_readTest_43 : decode cX4_readTest 43 = .ok (.getfield 66, 3) := by decide +kernel
theorem dX4_readTest_46 : decode cX4_readTest 46 = .ok (.sipush 310, 3) := by decide +kernel
theorem dX4_readTest_49 : decode cX4_readTest 49 = .ok (.if_icmp .ne 84, 3) := by decide +kernel
theorem dX4_readTest_52 : decode cX4_readTest 52 = .ok (.aload_n 0, 1) := by decide +kernel
theorem dX4_readTest_53 : decode cX4_readTest 53 = .ok (.getfield 12, 3) := by decide +kernel
theorem dX4_readTest_56 : decode cX4_readTest 56 = .ok (.getfield 66, 3) := by decide +kernel
theorem dX4_readTest_59 : decode cX4_readTest 59 = .ok (.sipush 309, 3) := by decide +kernel
theorem dX4_readTest_62 : decode cX4_readTest 62 = .ok (.if_icmp .ne 7, 3) := by decide +kernel
theorem dX4_readTest_65 : decode cX4_readTest 65 = .ok (.iconst 1, 1) := by decide +kernel
theorem dX4_readTest_66 : decode cX4_readTest 66 = .ok (.goto 4, 3) := by decide +kernel
theorem dX4_readTest_69 : decode cX4_readTest 69 = .ok (.iconst 0, 1) := by decide +kernel
theorem dX4_readTest_70 : decode cX4_readTest 70 = .ok (.istore 4, 2) := by decide +kernel
theorem dX4_readTest_72 : decode cX4_readTest 72 = .ok (.iload 4, 2) := by decide +kernel
theorem dX4_readTest_74 : decode cX4_readTest 74 = .ok (.ifCond .eq 14, 3) := by decide +kernel
theorem dX4_readTest_77 : decode cX4_readTest 77 = .ok (.iload_n 2, 1) := by decide +kernel
theorem dX4_readTest_78 : decode cX4_readTest 78 = .ok (.ifCond .eq 10, 3) := by decide +kernel
theorem dX4_readTest_81 : decode cX4_readTest 81 = .ok (.aload_n 0, 1) := by decide +kernel
theorem dX4_readTest_82 : decode cX4_readTest 82 = .ok (.sipush (-309), 3) := by decide +kernel
theorem dX4_readTest_85 : decode cX4_readTest 85 = .ok (.invokevirtual 91, 3) := by decide +kernel
theorem dX4_readTest_88 : decode cX4_readTest 88 = .ok (.iload_n 2, 1) := by decide +kernel
theorem dX4_readTest_89 : decode cX4_readTest 89 = .ok (.ifCond .ne 8, 3) := by decide +kernel
theorem dX4_readTest_92 : decode cX4_readTest 92 = .ok (.iload 4, 2) := by decide +kernel
theorem dX4_readTest_94 : decode cX4_readTest 94 = .ok (.ifCond .eq 7, 3) := by decide +kernel
theorem dX4_readTest_97 : decode cX4_readTest 97 = .ok (.iconst 1, 1) := by decide +kernel
theorem dX4_readTest_98 : decode cX4_readTest 98 = .ok (.goto 4, 3) := by decide +kernel
theorem dX4_readTest_101 : decode cX4_readTest 101 = .ok (.iconst 0, 1) := by decide +kernel
theorem dX4_readTest_102 : decode cX4_readTest 102 = .ok (.istore_n 2, 1) := by decide +kernel
theorem dX4_readTest_103 : decode cX4_readTest 103 = .ok (.aload_n 0, 1) := by decide +kernel
theorem dX4_readTest_104 : decode cX4_readTest 104 = .ok (.getfield 12, 3) := by decide +kernel
theorem dX4_readTest_107 : decode cX4_readTest 107 = .ok (.invokevirtual 72, 3) := by decide +kernel
theorem dX4_readTest_110 : decode cX4_readTest 110 = .ok (.aload_n 0, 1) := by decide +kernel
theorem dX4_readTest_111 : decode cX4_readTest 111 = .ok (.iload_n 1, 1) := by decide +kernel
theorem dX4_readTest_112 : decode cX4_readTest 112 = .ok (.invokevirtual 88, 3) := by decide +kernel
theorem dX4_readTest_115 : decode cX4_readTest 115 = .ok (.iload 4, 2) := by decide +kernel
theorem dX4_readTest_117 : decode cX4_readTest 117 = .ok (.ifCond .ne 10, 3) := by decide +kernel
theorem dX4_readTest_120 : decode cX4_readTest 120 = .ok (.aload_n 0, 1) := by decide +kernel
theorem dX4_readTest_121 : decode cX4_readTest 121 = .ok (.sipush (-310), 3) := by decide +kernel
theorem dX4_readTest_124 : decode cX4_readTest 124 = .ok (.invokevirtual 91, 3) := by decide +kernel
theorem dX4_readTest_127 : decode cX4_readTest 127 = .ok (.iinc 3 1, 3) := by decide +kernel
theorem dX4_readTest_130 : decode cX4_readTest 130 = .ok (.goto (-121), 3) := by decide +kernel
theorem dX4_readTest_133 : decode cX4_readTest 133 = .ok (.iload_n 2, 1) := by decide +kernel
theorem dX4_readTest_134 : decode cX4_readTest 134 = .ok (.ifCond .eq 10, 3) := by decide +kernel
theorem dX4_readTest_137 : decode cX4_readTest 137 = .ok (.aload_n 0, 1) := by decide +kernel
theorem dX4_readTest_138 : decode cX4_readTest 138 = .ok (.sipush (-309), 3) := by decide +kernel
theorem dX4_readTest_141 : decode cX4_readTest 141 = .ok (.invokevirtual 91, 3) := by decide +kernel
theorem dX4_readTest_144 : decode cX4_readTest 144 = .ok (.return_, 1) := by decide +kernel
theorem dX4_readValue_0 : decode cX4_readValue 0 = .ok (.aload_n 0, 1) := by decide +kernel
theorem dX4_readValue_1 : decode cX4_readValue 1 = .ok (.getfield 12, 3) := by decide +kernel
theorem dX4_readValue_4 : decode cX4_readValue 4 = .ok (.getfield 66, 3) := by decide +kernel
theorem dX4_readValue_7 : decode cX4_readValue 7 = .ok (.sipush 301, 3) := by decide +kernel
theorem dX4_readValue_10 : decode cX4_readValue 10 = .ok (.if_icmp .ne 7, 3) := by decide +kernel
theorem dX4_readValue_13 : decode cX4_readValue 13 = .ok (.iconst 1, 1) := by decide +kernel
theorem dX4_readValue_14 : decode cX4_readValue 14 = .ok (.goto 4, 3) := by decide +kernel
theorem dX4_readValue_17 : decode cX4_readValue 17 = .ok (.iconst 0, 1) := by decide +kernel
theorem dX4_readValue_18 : decode cX4_readValue 18 = .ok (.istore_n 1, 1) := by decide +kernel
theorem dX4_readValue_19 : decode cX4_readValue 19 = .ok (.aload_n 0, 1) := by decide +kernel
theorem dX4_readValue_20 : decode cX4_readValue 20 = .ok (.getfield 12, 3) := by decide +kernel
theorem dX4_readValue_23 : decode cX4_readValue 23 = .ok (.getfield 66, 3) := by decide +kernel
theorem dX4_readValue_26 : decode cX4_readValue 26 = .ok (.sipush 312, 3) := by decide +kernel
theorem dX4_readValue_29 : decode cX4_readValue 29 = .ok (.if_icmp .lt 20, 3) := by decide +kernel
theorem dX4_readValue_32 : decode cX4_readValue 32 = .ok (.aload_n 0, 1) := by decide +kernel
theorem dX4_readValue_33 : decode cX4_readValue 33 = .ok (.getfield 12, 3) := by decide +kernel
theorem dX4_readValue_36 : decode cX4_readValue 36 = .ok (.getfield 66, 3) := by decide +kernel
theorem dX4_readValue_39 : decode cX4_readValue 39 = .ok (.sipush 320, 3) := by decide +kernel
theorem dX4_readValue_42 : decode cX4_readValue 42 = .ok (.if_icmp .gt 7, 3) := by decide +kernel
theorem dX4_readValue_45 : decode cX4_readValue 45 = .ok (.iconst 1, 1) := by decide +kernel
theorem dX4_readValue_46 : decode cX4_readValue 46 = .ok (.goto 4, 3) := by decide +kernel
theorem dX4_readValue_49 : decode cX4_readValue 49 = .ok (.iconst 0, 1) := by decide +kernel
theorem dX4_readValue_50 : decode cX4_readValue 50 = .ok (.istore_n 2, 1) := by decide +kernel
theorem dX4_readValue_51 : decode cX4_readValue 51 = .ok (.iload_n 1, 1) := by decide +kernel
theorem dX4_readValue_52 : decode cX4_readValue 52 = .ok (.ifCond .ne 33, 3) := by decide +kernel
theorem dX4_readValue_55 : decode cX4_readValue 55 = .ok (.iload_n 2, 1) := by decide +kernel
theorem dX4_readValue_56 : decode cX4_readValue 56 = .ok (.ifCond .ne 29, 3) := by decide +kernel
theorem dX4_readValue_59 : decode cX4_readValue 59 = .ok (.aload_n 0, 1) := by decide +kernel
theorem dX4_readValue_60 : decode cX4_readValue 60 = .ok (.getfield 12, 3) := by decide +kernel
theorem dX4_readValue_63 : decode cX4_readValue 63 = .ok (.aload_n 0, 1) := by decide +kernel
theorem dX4_readValue_64 : decode cX4_readValue 64 = .ok (.getfield 12, 3) := by decide +kernel
theorem dX4_readValue_67 : decode cX4_readValue 67 = .ok (.getfield 66, 3) := by decide +kernel
theorem dX4_readValue_70 : decode cX4_readValue 70 = .ok (.sipush 302, 3) := by decide +kernel
theorem dX4_readValue_73 : decode cX4_readValue 73 = .ok (.if_icmp .ne 7, 3) := by decide +kernel
theorem dX4_readValue_76 : decode cX4_readValue 76 = .ok (.iconst 1, 1) := by decide +kernel
theorem dX4_readValue_77 : decode cX4_readValue 77 = .ok (.goto 4, 3) := by decide +kernel
theorem dX4_readValue_80 : decode cX4_readValue 80 = .ok (.iconst 0, 1) := by decide +kernel
theorem dX4_readValue_81 : decode cX4_readValue 81 = .ok (.invokevirtual 68, 3) := by decide +kernel
theorem dX4_readValue_84 : decode cX4_readValue 84 = .ok (.return_, 1) := by decide +kernel
theorem dX4_readValue_85 : decode cX4_readValue 85 = .ok (.aload_n 0, 1) := by decide +kernel
theorem dX4_readValue_86 : decode cX4_readValue 86 = .ok (.getfield 35, 3) := by decide +kernel
theorem dX4_readValue_89 : decode cX4_readValue 89 = .ok (.bipush 60, 2) := by decide +kernel
theorem dX4_readValue_91 : decode cX4_readValue 91 = .ok (.if_icmp .lt 12, 3) := by decide +kernel
theorem dX4_readValue_94 : decode cX4_readValue 94 = .ok (.aload_n 0, 1) := by decide +kernel
theorem dX4_readValue_95 : decode cX4_readValue 95 = .ok (.getfield 12, 3) := by decide +kernel
theorem dX4_readValue_98 : decode cX4_readValue 98 = .ok (.iconst 3, 1) := by decide +kernel
theorem dX4_readValue_99 : decode cX4_readValue 99 = .ok (.invokevirtual 68, 3) := by decide +kernel
theorem dX4_readValue_102 : decode cX4_readValue 102 = .ok (.return_, 1) := by decide +kernel
theorem dX4_readValue_103 : decode cX4_readValue 103 = .ok (.aload_n 0, 1) := by decide +kernel
theorem dX4_readValue_104 : decode cX4_readValue 104 = .ok (.dup, 1) := by decide +kernel
theorem dX4_readValue_105 : decode cX4_readValue 105 = .ok (.getfield 35, 3) := by decide +kernel
theorem dX4_readValue_108 : decode cX4_readValue 108 = .ok (.iconst 1, 1) := by decide +kernel
theorem dX4_readValue_109 : decode cX4_readValue 109 = .ok (.iadd, 1) := by decide +kernel
theorem dX4_readValue_110 : decode cX4_readValue 110 = .ok (.putfield 35, 3) := by decide +kernel
theorem dX4_readValue_113 : decode cX4_readValue 113 = .ok (.aload_n 0, 1) := by decide +kernel
theorem dX4_readValue_114 : decode cX4_readValue 114 = .ok (.iload_n 1, 1) := by decide +kernel
theorem dX4_readValue_115 : decode cX4_readValue 115 = .ok (.ifCond .eq 13, 3) := by decide +kernel
theorem dX4_readValue_118 : decode cX4_readValue 118 = .ok (.aload_n 0, 1) := by decide +kernel
theorem dX4_readValue_119 : decode cX4_readValue 119 = .ok (.getfield 12, 3) := by decide +kernel
theorem dX4_readValue_122 : decode cX4_readValue 122 = .ok (.getfield 100, 3) := by decide +kernel
theorem dX4_readValue_125 : decode cX4_readValue 125 = .ok (.goto 11, 3) := by decide +kernel
theorem dX4_readValue_128 : decode cX4_readValue 128 = .ok (.aload_n 0, 1) := by decide +kernel
theorem dX4_readValue_129 : decode cX4_readValue 129 = .ok (.getfield 12, 3) := by decide +kernel
theorem dX4_readValue_132 : decode cX4_readValue 132 = .ok (.getfield 66, 3) := by decide +kernel
theorem dX4_readValue_135 : decode cX4_readValue 135 = .ok (.ineg, 1) := by decide +kernel
theorem dX4_readValue_136 : decode cX4_readValue 136 = .ok (.invokevirtual 91, 3) := by decide +kernel
theorem dX4_readValue_139 : decode cX4_readValue 139 = .ok (.aload_n 0, 1) := by decide +kernel
theorem dX4_readValue_140 : decode cX4_readValue 140 = .ok (.getfield 12, 3) := by decide +kernel
theorem dX4_readValue_143 : decode cX4_readValue 143 = .ok (.invokevirtual 72, 3) := by decide +kernel
theorem dX4_readValue_146 : decode cX4_readValue 146 = .ok (.return_, 1) := by decide +kernel
theorem dX4_start_0 : decode cX4_start 0 = .ok (.aload_n 0, 1) := by decide +kernel
theorem dX4_start_1 : decode cX4_start 1 = .ok (.iconst 0, 1) := by decide +kernel
theorem dX4_start_2 : decode cX4_start 2 = .ok (.putfield 31, 3) := by decide +kernel
theorem dX4_start_5 : decode cX4_start 5 = .ok (.aload_n 0, 1) := by decide +kernel
theorem dX4_start_6 : decode cX4_start 6 = .ok (.iconst 0, 1) := by decide +kernel
theorem dX4_start_7 : decode cX4_start 7 = .ok (.putfield 35, 3) := by decide +kernel
theorem dX4_start_10 : decode cX4_start 10 = .ok (.aload_n 0, 1) := by decide +kernel
theorem dX4_start_11 : decode cX4_start 11 = .ok (.iconst 0, 1) := by decide +kernel
theorem dX4_start_12 : decode cX4_start 12 = .ok (.putfield 38, 3) := by decide +kernel
theorem dX4_start_15 : decode cX4_start 15 = .ok (.return_, 1) := by decide +kernel
theorem dX5_beginWork_0 : decode cX5_beginWork 0 = .ok (.aload_n 0, 1) := by decide +kernel
theorem dX5_beginWork_1 : decode cX5_beginWork 1 = .ok (.aload_n 1, 1) := by decide +kernel
theorem dX5_beginWork_2 : decode cX5_beginWork 2 = .ok (.putfield 9, 3) := by decide +kernel
theorem dX5_beginWork_5 : decode cX5_beginWork 5 = .ok (.aload_n 0, 1) := by decide +kernel
theorem dX5_beginWork_6 : decode cX5_beginWork 6 = .ok (.getfield 18, 3) := by decide +kernel
theorem dX5_beginWork_9 : decode cX5_beginWork 9 = .ok (.aload_n 1, 1) := by decide +kernel
theorem dX5_beginWork_10 : decode cX5_beginWork 10 = .ok (.getfield 52, 3) := by decide +kernel
theorem dX5_beginWork_13 : decode cX5_beginWork 13 = .ok (.invokevirtual 57, 3) := by decide +kernel
theorem dX5_beginWork_16 : decode cX5_beginWork 16 = .ok (.aload_n 0, 1) := by decide +kernel
theorem dX5_beginWork_17 : decode cX5_beginWork 17 = .ok (.getfield 18, 3) := by decide +kernel
theorem dX5_beginWork_20 : decode cX5_beginWork 20 = .ok (.iconst 0, 1) := by decide +kernel
theorem dX5_beginWork_21 : decode cX5_beginWork 21 = .ok (.putfield 61, 3) := by decide +kernel
theorem dX5_beginWork_24 : decode cX5_beginWork 24 = .ok (.aload_n 0, 1) := by decide +kernel
theorem dX5_beginWork_25 : decode cX5_beginWork 25 = .ok (.iconst 0, 1) := by decide +kernel
theorem dX5_beginWork_26 : decode cX5_beginWork 26 = .ok (.putfield 33, 3) := by decide +kernel
theorem dX5_beginWork_29 : decode cX5_beginWork 29 = .ok (.aload_n 0, 1) := by decide +kernel
theorem dX5_beginWork_30 : decode cX5_beginWork 30 = .ok (.iconst 0, 1) := by decide +kernel
theorem dX5_beginWork_31 : decode cX5_beginWork 31 = .ok (.putfield 37, 3) := by decide +kernel
theorem dX5_beginWork_34 : decode cX5_beginWork 34 = .ok (.aload_n 0, 1) := by decide +kernel
theorem dX5_beginWork_35 : decode cX5_beginWork 35 = .ok (.iconst 0, 1) := by decide +kernel
theorem dX5_beginWork_36 : decode cX5_beginWork 36 = .ok (.putfield 40, 3) := by decide +kernel
theorem dX5_beginWork_39 : decode cX5_beginWork 39 = .ok (.aload_n 0, 1) := by decide +kernel
theorem dX5_beginWork_40 : decode cX5_beginWork 40 = .ok (.iconst 0, 1) := by decide +kernel
theorem dX5_beginWork_41 : decode cX5_beginWork 41 = .ok (.putfield 49, 3) := by decide +kernel
theorem dX5_beginWork_44 : decode cX5_beginWork 44 = .ok (.return_, 1) := by decide +kernel
theorem dX5_copyFrom_0 : decode cX5_copyFrom 0 = .ok (.aload_n 0, 1) := by decide +kernel
theorem dX5_copyFrom_1 : decode cX5_copyFrom 1 = .ok (.aload_n 1, 1) := by decide +kernel
theorem dX5_copyFrom_2 : decode cX5_copyFrom 2 = .ok (.getfield 9, 3) := by decide +kernel
theorem dX5_copyFrom_5 : decode cX5_copyFrom 5 = .ok (.putfield 9, 3) := by decide +kernel
theorem dX5_copyFrom_8 : decode cX5_copyFrom 8 = .ok (.aload_n 0, 1) := by decide +kernel
theorem dX5_copyFrom_9 : decode cX5_copyFrom 9 = .ok (.getfield 18, 3) := by decide +kernel
theorem dX5_copyFrom_12 : decode cX5_copyFrom 12 = .ok (.aload_n 1, 1) := by decide +kernel
theorem dX5_copyFrom_13 : decode cX5_copyFrom 13 = .ok (.getfield 18, 3) := by decide +kernel
theorem dX5_copyFrom_16 : decode cX5_copyFrom 16 = .ok (.invokevirtual 29, 3) := by decide +kernel
theorem dX5_copyFrom_19 : decode cX5_copyFrom 19 = .ok (.aload_n 0, 1) := by decide +kernel
theorem dX5_copyFrom_20 : decode cX5_copyFrom 20 = .ok (.aload_n 1, 1) := by decide +kernel
theorem dX5_copyFrom_21 : decode cX5_copyFrom 21 = .ok (.getfield 33, 3) := by decide +kernel
theorem dX5_copyFrom_24 : decode cX5_copyFrom 24 = .ok (.putfield 33, 3) := by decide +kernel
theorem dX5_copyFrom_27 : decode cX5_copyFrom 27 = .ok (.aload_n 0, 1) := by decide +kernel
theorem dX5_copyFrom_28 : decode cX5_copyFrom 28 = .ok (.aload_n 1, 1) := by decide +kernel
theorem dX5_copyFrom_29 : decode cX5_copyFrom 29 = .ok (.getfield 37, 3) := by decide +kernel
theorem dX5_copyFrom_32 : decode cX5_copyFrom 32 = .ok (.putfield 37, 3) := by decide +kernel
theorem dX5_copyFrom_35 : decode cX5_copyFrom 35 = .ok (.aload_n 0, 1) := by decide +kernel
theorem dX5_copyFrom_36 : decode cX5_copyFrom 36 = .ok (.aload_n 1, 1) := by decide +kernel
theorem dX5_copyFrom_37 : decode cX5_copyFrom 37 = .ok (.getfield 40, 3) := by decide +kernel
theorem dX5_copyFrom_40 : decode cX5_copyFrom 40 = .ok (.putfield 40, 3) := by decide +kernel
theorem dX5_copyFrom_43 : decode cX5_copyFrom 43 = .ok (.aload_n 1, 1) := by decide +kernel
theorem dX5_copyFrom_44 : decode cX5_copyFrom 44 = .ok (.getfield 22, 3) := by decide +kernel
theorem dX5_copyFrom_47 : decode cX5_copyFrom 47 = .ok (.iconst 0, 1) := by decide +kernel
theorem dX5_copyFrom_48 : decode cX5_copyFrom 48 = .ok (.aload_n 0, 1) := by decide +kernel
theorem dX5_copyFrom_49 : decode cX5_copyFrom 49 = .ok (.getfield 22, 3) := by decide +kernel
theorem dX5_copyFrom_52 : decode cX5_copyFrom 52 = .ok (.iconst 0, 1) := by decide +kernel
theorem dX5_copyFrom_53 : decode cX5_copyFrom 53 = .ok (.bipush 8, 2) := by decide +kernel
theorem dX5_copyFrom_55 : decode cX5_copyFrom 55 = .ok (.invokestatic 43, 3) := by decide +kernel
theorem dX5_copyFrom_58 : decode cX5_copyFrom 58 = .ok (.aload_n 0, 1) := by decide +kernel
theorem dX5_copyFrom_59 : decode cX5_copyFrom 59 = .ok (.aload_n 1, 1) := by decide +kernel
theorem dX5_copyFrom_60 : decode cX5_copyFrom 60 = .ok (.getfield 49, 3) := by decide +kernel
theorem dX5_copyFrom_63 : decode cX5_copyFrom 63 = .ok (.putfield 49, 3) := by decide +kernel
theorem dX5_copyFrom_66 : decode cX5_copyFrom 66 = .ok (.aload_n 1, 1) := by decide +kernel
theorem dX5_copyFrom_67 : decode cX5_copyFrom 67 = .ok (.getfield 26, 3) := by decide +kernel
theorem dX5_copyFrom_70 : decode cX5_copyFrom 70 = .ok (.iconst 0, 1) := by decide +kernel
theorem dX5_copyFrom_71 : decode cX5_copyFrom 71 = .ok (.aload_n 0, 1) := by decide +kernel
theorem dX5_copyFrom_72 : decode cX5_copyFrom 72 = .ok (.getfield 26, 3) := by decide +kernel
theorem dX5_copyFrom_75 : decode cX5_copyFrom 75 = .ok (.iconst 0, 1) := by decide +kernel
theorem dX5_copyFrom_76 : decode cX5_copyFrom 76 = .ok (.bipush 8, 2) := by decide +kernel
theorem dX5_copyFrom_78 : decode cX5_copyFrom 78 = .ok (.invokestatic 43, 3) := by decide +kernel
theorem dX5_copyFrom_81 : decode cX5_copyFrom 81 = .ok (.return_, 1) := by decide +kernel
theorem dX5_init_0 : decode cX5_init 0 = .ok (.aload_n 0, 1) := by decide +kernel
theorem dX5_init_1 : decode cX5_init 1 = .ok (.invokespecial 3, 3) := by decide +kernel
theorem dX5_init_4 : decode cX5_init 4 = .ok (.aload_n 0, 1) := by decide +kernel
theorem dX5_init_5 : decode cX5_init 5 = .ok (.aload_n 1, 1) := by decide +kernel
theorem dX5_init_6 : decode cX5_init 6 = .ok (.putfield 9, 3) := by decide +kernel
theorem dX5_init_9 : decode cX5_init 9 = .ok (.aload_n 0, 1) := by decide +kernel
theorem dX5_init_10 : decode cX5_init 10 = .ok (.new 15, 3) := by decide +kernel
theorem dX5_init_13 : decode cX5_init 13 = .ok (.dup, 1) := by decide +kernel
theorem dX5_init_14 : decode cX5_init 14 = .ok (.invokespecial 17, 3) := by decide +kernel
theorem dX5_init_17 : decode cX5_init 17 = .ok (.putfield 18, 3) := by decide +kernel
theorem dX5_init_20 : decode cX5_init 20 = .ok (.aload_n 0, 1) := by decide +kernel
theorem dX5_init_21 : decode cX5_init 21 = .ok (.bipush 8, 2) := by decide +kernel
theorem dX5_init_23 : decode cX5_init 23 = .ok (.newarray .int, 2) := by decide +kernel
theorem dX5_init_25 : decode cX5_init 25 = .ok (.putfield 22, 3) := by decide +kernel
theorem dX5_init_28 : decode cX5_init 28 = .ok (.aload_n 0, 1) := by decide +kernel
theorem dX5_init_29 : decode cX5_init 29 = .ok (.bipush 8, 2) := by decide +kernel
theorem dX5_init_31 : decode cX5_init 31 = .ok (.newarray .int, 2) := by decide +kernel
theorem dX5_init_33 : decode cX5_init 33 = .ok (.putfield 26, 3) := by decide +kernel
theorem dX5_init_36 : decode cX5_init 36 = .ok (.return_, 1) := by decide +kernel
theorem dX6_addToken_0 : decode cX6_addToken 0 = .ok (.aload_n 0, 1) := by decide +kernel
theorem dX6_addToken_1 : decode cX6_addToken 1 = .ok (.getfield 21, 3) := by decide +kernel
theorem dX6_addToken_4 : decode cX6_addToken 4 = .ok (.ifCond .lt 55, 3) := by decide +kernel
theorem dX6_addToken_7 : decode cX6_addToken 7 = .ok (.aload_n 0, 1) := by decide +kernel
theorem dX6_addToken_8 : decode cX6_addToken 8 = .ok (.getfield 21, 3) := by decide +kernel
theorem dX6_addToken_11 : decode cX6_addToken 11 = .ok (.aload_n 0, 1) := by decide +kernel
theorem dX6_addToken_12 : decode cX6_addToken 12 = .ok (.getfield 9, 3) := by decide +kernel
theorem dX6_addToken_15 : decode cX6_addToken 15 = .ok (.arraylength, 1) := by decide +kernel
theorem dX6_addToken_16 : decode cX6_addToken 16 = .ok (.if_icmp .ge 43, 3) := by decide +kernel
theorem dX6_addToken_19 : decode cX6_addToken 19 = .ok (.aload_n 0, 1) := by decide +kernel
theorem dX6_addToken_20 : decode cX6_addToken 20 = .ok (.getfield 9, 3) := by decide +kernel
theorem dX6_addToken_23 : decode cX6_addToken 23 = .ok (.aload_n 0, 1) := by decide +kernel
theorem dX6_addToken_24 : decode cX6_addToken 24 = .ok (.getfield 21, 3) := by decide +kernel
theorem dX6_addToken_27 : decode cX6_addToken 27 = .ok (.iload_n 1, 1) := by decide +kernel
theorem dX6_addToken_28 : decode cX6_addToken 28 = .ok (.iastore, 1) := by decide +kernel
theorem dX6_addToken_29 : decode cX6_addToken 29 = .ok (.aload_n 0, 1) := by decide +kernel
theorem dX6_addToken_30 : decode cX6_addToken 30 = .ok (.getfield 15, 3) := by decide +kernel
theorem dX6_addToken_33 : decode cX6_addToken 33 = .ok (.aload_n 0, 1) := by decide +kernel
theorem dX6_addToken_34 : decode cX6_addToken 34 = .ok (.getfield 21, 3) := by decide +kernel
theorem dX6_addToken_37 : decode cX6_addToken 37 = .ok (.iload_n 2, 1) := by decide +kernel
theorem dX6_addToken_38 : decode cX6_addToken 38 = .ok (.iastore, 1) := by decide +kernel
theorem dX6_addToken_39 : decode cX6_addToken 39 = .ok (.aload_n 0, 1) := by decide +kernel
theorem dX6_addToken_40 : decode cX6_addToken 40 = .ok (.getfield 18, 3) := by decide +kernel
theorem dX6_addToken_43 : decode cX6_addToken 43 = .ok (.aload_n 0, 1) := by decide +kernel
theorem dX6_addToken_44 : decode cX6_addToken 44 = .ok (.getfield 21, 3) := by decide +kernel
theorem dX6_addToken_47 : decode cX6_addToken 47 = .ok (.iload_n 3, 1) := by decide +kernel
theorem dX6_addToken_48 : decode cX6_addToken 48 = .ok (.iastore, 1) := by decide +kernel
theorem dX6_addToken_49 : decode cX6_addToken 49 = .ok (.aload_n 0, 1) := by decide +kernel
theorem dX6_addToken_50 : decode cX6_addToken 50 = .ok (.dup, 1) := by decide +kernel
theorem dX6_addToken_51 : decode cX6_addToken 51 = .ok (.getfield 21, 3) := by decide +kernel
theorem dX6_addToken_54 : decode cX6_addToken 54 = .ok (.iconst 1, 1) := by decide +kernel
theorem dX6_addToken_55 : decode cX6_addToken 55 = .ok (.iadd, 1) := by decide +kernel
theorem dX6_addToken_56 : decode cX6_addToken 56 = .ok (.putfield 21, 3) := by decide +kernel
theorem dX6_addToken_59 : decode cX6_addToken 59 = .ok (.return_, 1) := by decide +kernel
theorem dX6_anotherClause_0 : decode cX6_anotherClause 0 = .ok (.aload_n 0, 1) := by decide +kernel
theorem dX6_anotherClause_1 : decode cX6_anotherClause 1 = .ok (.getfield 33, 3) := by decide +kernel
theorem dX6_anotherClause_4 : decode cX6_anotherClause 4 = .ok (.ifCond .ne 13, 3) := by decide +kernel
theorem dX6_anotherClause_7 : decode cX6_anotherClause 7 = .ok (.aload_n 0, 1) := by decide +kernel
theorem dX6_anotherClause_8 : decode cX6_anotherClause 8 = .ok (.getfield 112, 3) := by decide +kernel
theorem dX6_anotherClause_11 : decode cX6_anotherClause 11 = .ok (.sipush 300, 3) := by decide +kernel
theorem dX6_anotherClause_14 : decode cX6_anotherClause 14 = .ok (.if_icmp .ne 5, 3) := by decide +kernel
theorem dX6_anotherClause_17 : decode cX6_anotherClause 17 = .ok (.iconst 0, 1) := by decide +kernel
theorem dX6_anotherClause_18 : decode cX6_anotherClause 18 = .ok (.ireturn, 1) := by decide +kernel
theorem dX6_anotherClause_19 : decode cX6_anotherClause 19 = .ok (.aload_n 0, 1) := by decide +kernel
theorem dX6_anotherClause_20 : decode cX6_anotherClause 20 = .ok (.getfield 112, 3) := by decide +kernel
theorem dX6_anotherClause_23 : decode cX6_anotherClause 23 = .ok (.bipush 59, 2) := by decide +kernel
theorem dX6_anotherClause_25 : decode cX6_anotherClause 25 = .ok (.if_icmp .eq 10, 3) := by decide +kernel
theorem dX6_anotherClause_28 : decode cX6_anotherClause 28 = .ok (.aload_n 0, 1) := by decide +kernel
theorem dX6_anotherClause_29 : decode cX6_anotherClause 29 = .ok (.iconst 0, 1) := by decide +kernel
theorem dX6_anotherClause_30 : decode cX6_anotherClause 30 = .ok (.invokevirtual 121, 3) := by decide +kernel
theorem dX6_anotherClause_33 : decode cX6_anotherClause 33 = .ok (.iconst 0, 1) := by decide +kernel
theorem dX6_anotherClause_34 : decode cX6_anotherClause 34 = .ok (.ireturn, 1) := by decide +kernel
theorem dX6_anotherClause_35 : decode cX6_anotherClause 35 = .ok (.aload_n 0, 1) := by decide +kernel
theorem dX6_anotherClause_36 : decode cX6_anotherClause 36 = .ok (.invokevirtual 39, 3) := by decide +kernel
theorem dX6_anotherClause_39 : decode cX6_anotherClause 39 = .ok (.iconst 1, 1) := by decide +kernel
theorem dX6_anotherClause_40 : decode cX6_anotherClause 40 = .ok (.ireturn, 1) := by decide +kernel
theorem dX6_clauseWord_0 : decode cX6_clauseWord 0 = .ok (.aload_n 0, 1) := by decide +kernel
theorem dX6_clauseWord_1 : decode cX6_clauseWord 1 = .ok (.iload_n 1, 1) := by decide +kernel
theorem dX6_clauseWord_2 : decode cX6_clauseWord 2 = .ok (.iload_n 2, 1) := by decide +kernel
theorem dX6_clauseWord_3 : decode cX6_clauseWord 3 = .ok (.ldc 65, 2) := by decide +kernel
theorem dX6_clauseWord_5 : decode cX6_clauseWord 5 = .ok (.invokestatic 67, 3) := by decide +kernel
theorem dX6_clauseWord_8 : decode cX6_clauseWord 8 = .ok (.ifCond .eq 9, 3) := by decide +kernel
theorem dX6_clauseWord_11 : decode cX6_clauseWord 11 = .ok (.sipush 304, 3) := by decide +kernel
theorem dX6_clauseWord_14 : decode cX6_clauseWord 14 = .ok (.goto 125, 3) := by decide +kernel
theorem dX6_clauseWord_17 : decode cX6_clauseWord 17 = .ok (.aload_n 0, 1) := by decide +kernel
theorem dX6_clauseWord_18 : decode cX6_clauseWord 18 = .ok (.iload_n 1, 1) := by decide +kernel
theorem dX6_clauseWord_19 : decode cX6_clauseWord 19 = .ok (.iload_n 2, 1) := by decide +kernel
theorem dX6_clauseWord_20 : decode cX6_clauseWord 20 = .ok (.ldc 71, 2) := by decide +kernel
theorem dX6_clauseWord_22 : decode cX6_clauseWord 22 = .ok (.invokestatic 67, 3) := by decide +kernel
theorem dX6_clauseWord_25 : decode cX6_clauseWord 25 = .ok (.ifCond .eq 9, 3) := by decide +kernel
theorem dX6_clauseWord_28 : decode cX6_clauseWord 28 = .ok (.sipush 305, 3) := by decide +kernel
theorem dX6_clauseWord_31 : decode cX6_clauseWord 31 = .ok (.goto 108, 3) := by decide +kernel
theorem dX6_clauseWord_34 : decode cX6_clauseWord 34 = .ok (.aload_n 0, 1) := by decide +kernel
theorem dX6_clauseWord_35 : decode cX6_clauseWord 35 = .ok (.iload_n 1, 1) := by decide +kernel
theorem dX6_clauseWord_36 : decode cX6_clauseWord 36 = .ok (.iload_n 2, 1) := by decide +kernel
theorem dX6_clauseWord_37 : decode cX6_clauseWord 37 = .ok (.ldc 73, 2) := by decide +kernel
theorem dX6_clauseWord_39 : decode cX6_clauseWord 39 = .ok (.invokestatic 67, 3) := by decide +kernel
theorem dX6_clauseWord_42 : decode cX6_clauseWord 42 = .ok (.ifCond .eq 9, 3) := by decide +kernel
theorem dX6_clauseWord_45 : decode cX6_clauseWord 45 = .ok (.sipush 306, 3) := by decide +kernel
theorem dX6_clauseWord_48 : decode cX6_clauseWord 48 = .ok (.goto 91, 3) := by decide +kernel
theorem dX6_clauseWord_51 : decode cX6_clauseWord 51 = .ok (.aload_n 0, 1) := by decide +kernel
theorem dX6_clauseWord_52 : decode cX6_clauseWord 52 = .ok (.iload_n 1, 1) := by decide +kernel
theorem dX6_clauseWord_53 : decode cX6_clauseWord 53 = .ok (.iload_n 2, 1) := by decide +kernel
theorem dX6_clauseWord_54 : decode cX6_clauseWord 54 = .ok (.ldc 75, 2) := by decide +kernel
theorem dX6_clauseWord_56 : decode cX6_clauseWord 56 = .ok (.invokestatic 67, 3) := by decide +kernel
theorem dX6_clauseWord_59 : decode cX6_clauseWord 59 = .ok (.ifCond .eq 9, 3) := by decide +kernel
theorem dX6_clauseWord_62 : decode cX6_clauseWord 62 = .ok (.sipush 307, 3) := by decide +kernel
theorem dX6_clauseWord_65 : decode cX6_clauseWord 65 = .ok (.goto 74, 3) := by decide +kernel
theorem dX6_clauseWord_68 : decode cX6_clauseWord 68 = .ok (.aload_n 0, 1) := by decide +kernel
theorem dX6_clauseWord_69 : decode cX6_clauseWord 69 = .ok (.iload_n 1, 1) := by decide +kernel
theorem dX6_clauseWord_70 : decode cX6_clauseWord 70 = .ok (.iload_n 2, 1) := by decide +kernel
theorem dX6_clauseWord_71 : decode cX6_clauseWord 71 = .ok (.ldc 77, 2) := by decide +kernel
theorem dX6_clauseWord_73 : decode cX6_clauseWord 73 = .ok (.invokestatic 67, 3) := by decide +kernel
theorem dX6_clauseWord_76 : decode cX6_clauseWord 76 = .ok (.ifCond .eq 9, 3) := by decide +kernel
theorem dX6_clauseWord_79 : decode cX6_clauseWord 79 = .ok (.sipush 308, 3) := by decide +kernel
theorem dX6_clauseWord_82 : decode cX6_clauseWord 82 = .ok (.goto 57, 3) := by decide +kernel
theorem dX6_clauseWord_85 : decode cX6_clauseWord 85 = .ok (.aload_n 0, 1) := by decide +kernel
theorem dX6_clauseWord_86 : decode cX6_clauseWord 86 = .ok (.iload_n 1, 1) := by decide +kernel
theorem dX6_clauseWord_87 : decode cX6_clauseWord 87 = .ok (.iload_n 2, 1) := by decide +kernel
theorem dX6_clauseWord_88 : decode cX6_clauseWord 88 = .ok (.ldc 79, 2) := by decide +kernel
theorem dX6_clauseWord_90 : decode cX6_clauseWord 90 = .ok (.invokestatic 67, 3) := by decide +kernel
theorem dX6_clauseWord_93 : decode cX6_clauseWord 93 = .ok (.ifCond .eq 9, 3) := by decide +kernel
theorem dX6_clauseWord_96 : decode cX6_clauseWord 96 = .ok (.sipush 309, 3) := by decide +kernel
theorem dX6_clauseWord_99 : decode cX6_clauseWord 99 = .ok (.goto 40, 3) := by decide +kernel
theorem dX6_clauseWord_102 : decode cX6_clauseWord 102 = .ok (.aload_n 0, 1) := by decide +kernel
theorem dX6_clauseWord_103 : decode cX6_clauseWord 103 = .ok (.iload_n 1, 1) := by decide +kernel
theorem dX6_clauseWord_104 : decode cX6_clauseWord 104 = .ok (.iload_n 2, 1) := by decide +kernel
theorem dX6_clauseWord_105 : decode cX6_clauseWord 105 = .ok (.ldc 81, 2) := by decide +kernel
theorem dX6_clauseWord_107 : decode cX6_clauseWord 107 = .ok (.invokestatic 67, 3) := by decide +kernel
theorem dX6_clauseWord_110 : decode cX6_clauseWord 110 = .ok (.ifCond .eq 9, 3) := by decide +kernel
theorem dX6_clauseWord_113 : decode cX6_clauseWord 113 = .ok (.sipush 310, 3) := by decide +kernel
theorem dX6_clauseWord_116 : decode cX6_clauseWord 116 = .ok (.goto 23, 3) := by decide +kernel
theorem dX6_clauseWord_119 : decode cX6_clauseWord 119 = .ok (.aload_n 0, 1) := by decide +kernel
theorem dX6_clauseWord_120 : decode cX6_clauseWord 120 = .ok (.iload_n 1, 1) := by decide +kernel
theorem dX6_clauseWord_121 : decode cX6_clauseWord 121 = .ok (.iload_n 2, 1) := by decide +kernel
theorem dX6_clauseWord_122 : decode cX6_clauseWord 122 = .ok (.ldc 83, 2) := by decide +kernel
theorem dX6_clauseWord_124 : decode cX6_clauseWord 124 = .ok (.invokestatic 67, 3) := by decide +kernel
theorem dX6_clauseWord_127 : decode cX6_clauseWord 127 = .ok (.ifCond .eq 9, 3) := by decide +kernel
theorem dX6_clauseWord_130 : decode cX6_clauseWord 130 = .ok (.sipush 311, 3) := by decide +kernel
theorem dX6_clauseWord_133 : decode cX6_clauseWord 133 = .ok (.goto 6, 3) := by decide +kernel
theorem dX6_clauseWord_136 : decode cX6_clauseWord 136 = .ok (.sipush 303, 3) := by decide +kernel
theorem dX6_clauseWord_139 : decode cX6_clauseWord 139 = .ok (.ireturn, 1) := by decide +kernel
theorem dX6_cutNumber_0 : decode cX6_cutNumber 0 = .ok (.iload_n 2, 1) := by decide +kernel
theorem dX6_cutNumber_1 : decode cX6_cutNumber 1 = .ok (.istore 4, 2) := by decide +kernel
theorem dX6_cutNumber_3 : decode cX6_cutNumber 3 = .ok (.iconst 0, 1) := by decide +kernel
theorem dX6_cutNumber_4 : decode cX6_cutNumber 4 = .ok (.istore 5, 2) := by decide +kernel
theorem dX6_cutNumber_6 : decode cX6_cutNumber 6 = .ok (.iload 4, 2) := by decide +kernel
theorem dX6_cutNumber_8 : decode cX6_cutNumber 8 = .ok (.iload_n 3, 1) := by decide +kernel
theorem dX6_cutNumber_9 : decode cX6_cutNumber 9 = .ok (.if_icmp .ge 46, 3) := by decide +kernel
theorem dX6_cutNumber_12 : decode cX6_cutNumber 12 = .ok (.aload_n 1, 1) := by decide +kernel
theorem dX6_cutNumber_13 : decode cX6_cutNumber 13 = .ok (.iload 4, 2) := by decide +kernel
theorem dX6_cutNumber_15 : decode cX6_cutNumber 15 = .ok (.invokestatic 42, 3) := by decide +kernel
theorem dX6_cutNumber_18 : decode cX6_cutNumber 18 = .ok (.invokestatic 46, 3) := by decide +kernel
theorem dX6_cutNumber_21 : decode cX6_cutNumber 21 = .ok (.ifCond .eq 34, 3) := by decide +kernel
theorem dX6_cutNumber_24 : decode cX6_cutNumber 24 = .ok (.iload 4, 2) := by decide +kernel
theorem dX6_cutNumber_26 : decode cX6_cutNumber 26 = .ok (.iload_n 2, 1) := by decide +kernel
theorem dX6_cutNumber_27 : decode cX6_cutNumber 27 = .ok (.iconst 5, 1) := by decide +kernel
theorem dX6_cutNumber_28 : decode cX6_cutNumber 28 = .ok (.iadd, 1) := by decide +kernel
theorem dX6_cutNumber_29 : decode cX6_cutNumber 29 = .ok (.if_icmp .ge 20, 3) := by decide +kernel
theorem dX6_cutNumber_32 : decode cX6_cutNumber 32 = .ok (.iload 5, 2) := by decide +kernel
theorem dX6_cutNumber_34 : decode cX6_cutNumber 34 = .ok (.bipush 10, 2) := by decide +kernel
theorem dX6_cutNumber_36 : decode cX6_cutNumber 36 = .ok (.imul, 1) := by decide +kernel
theorem dX6_cutNumber_37 : decode cX6_cutNumber 37 = .ok (.aload_n 1, 1) := by decide +kernel
theorem dX6_cutNumber_38 : decode cX6_cutNumber 38 = .ok (.iload 4, 2) := by decide +kernel
theorem dX6_cutNumber_40 : decode cX6_cutNumber 40 = .ok (.invokestatic 42, 3) := by decide +kernel
theorem dX6_cutNumber_43 : decode cX6_cutNumber 43 = .ok (.iadd, 1) := by decide +kernel
theorem dX6_cutNumber_44 : decode cX6_cutNumber 44 = .ok (.bipush 48, 2) := by decide +kernel
theorem dX6_cutNumber_46 : decode cX6_cutNumber 46 = .ok (.isub, 1) := by decide +kernel
theorem dX6_cutNumber_47 : decode cX6_cutNumber 47 = .ok (.istore 5, 2) := by decide +kernel
theorem dX6_cutNumber_49 : decode cX6_cutNumber 49 = .ok (.iinc 4 1, 3) := by decide +kernel
theorem dX6_cutNumber_52 : decode cX6_cutNumber 52 = .ok (.goto (-46), 3) := by decide +kernel
theorem dX6_cutNumber_55 : decode cX6_cutNumber 55 = .ok (.aload_n 0, 1) := by decide +kernel
theorem dX6_cutNumber_56 : decode cX6_cutNumber 56 = .ok (.iload 4, 2) := by decide +kernel
theorem dX6_cutNumber_58 : decode cX6_cutNumber 58 = .ok (.iload_n 2, 1) := by decide +kernel
theorem dX6_cutNumber_59 : decode cX6_cutNumber 59 = .ok (.isub, 1) := by decide +kernel
theorem dX6_cutNumber_60 : decode cX6_cutNumber 60 = .ok (.iconst 5, 1) := by decide +kernel
theorem dX6_cutNumber_61 : decode cX6_cutNumber 61 = .ok (.if_icmp .le 9, 3) := by decide +kernel
theorem dX6_cutNumber_64 : decode cX6_cutNumber 64 = .ok (.sipush 302, 3) := by decide +kernel
theorem dX6_cutNumber_67 : decode cX6_cutNumber 67 = .ok (.goto 6, 3) := by decide +kernel
theorem dX6_cutNumber_70 : decode cX6_cutNumber 70 = .ok (.sipush 301, 3) := by decide +kernel
theorem dX6_cutNumber_73 : decode cX6_cutNumber 73 = .ok (.iload_n 2, 1) := by decide +kernel
theorem dX6_cutNumber_74 : decode cX6_cutNumber 74 = .ok (.iload 5, 2) := by decide +kernel
theorem dX6_cutNumber_76 : decode cX6_cutNumber 76 = .ok (.invokevirtual 29, 3) := by decide +kernel
theorem dX6_cutNumber_79 : decode cX6_cutNumber 79 = .ok (.iload 4, 2) := by decide +kernel
theorem dX6_cutNumber_81 : decode cX6_cutNumber 81 = .ok (.ireturn, 1) := by decide +kernel
theorem dX6_cutToken_0 : decode cX6_cutToken 0 = .ok (.aload_n 1, 1) := by decide +kernel
theorem dX6_cutToken_1 : decode cX6_cutToken 1 = .ok (.iload_n 2, 1) := by decide +kernel
theorem dX6_cutToken_2 : decode cX6_cutToken 2 = .ok (.invokestatic 42, 3) := by decide +kernel
theorem dX6_cutToken_5 : decode cX6_cutToken 5 = .ok (.istore 4, 2) := by decide +kernel
theorem dX6_cutToken_7 : decode cX6_cutToken 7 = .ok (.iload 4, 2) := by decide +kernel
theorem dX6_cutToken_9 : decode cX6_cutToken 9 = .ok (.bipush 32, 2) := by decide +kernel
theorem dX6_cutToken_11 : decode cX6_cutToken 11 = .ok (.if_icmp .ne 7, 3) := by decide +kernel
theorem dX6_cutToken_14 : decode cX6_cutToken 14 = .ok (.iload_n 2, 1) := by decide +kernel
theorem dX6_cutToken_15 : decode cX6_cutToken 15 = .ok (.iconst 1, 1) := by decide +kernel
theorem dX6_cutToken_16 : decode cX6_cutToken 16 = .ok (.iadd, 1) := by decide +kernel
theorem dX6_cutToken_17 : decode cX6_cutToken 17 = .ok (.ireturn, 1) := by decide +kernel
theorem dX6_cutToken_18 : decode cX6_cutToken 18 = .ok (.iload 4, 2) := by decide +kernel
theorem dX6_cutToken_20 : decode cX6_cutToken 20 = .ok (.invokestatic 46, 3) := by decide +kernel
theorem dX6_cutToken_23 : decode cX6_cutToken 23 = .ok (.ifCond .eq 11, 3) := by decide +kernel
theorem dX6_cutToken_26 : decode cX6_cutToken 26 = .ok (.aload_n 0, 1) := by decide +kernel
theorem dX6_cutToken_27 : decode cX6_cutToken 27 = .ok (.aload_n 1, 1) := by decide +kernel
theorem dX6_cutToken_28 : decode cX6_cutToken 28 = .ok (.iload_n 2, 1) := by decide +kernel
theorem dX6_cutToken_29 : decode cX6_cutToken 29 = .ok (.iload_n 3, 1) := by decide +kernel
theorem dX6_cutToken_30 : decode cX6_cutToken 30 = .ok (.invokevirtual 50, 3) := by decide +kernel
