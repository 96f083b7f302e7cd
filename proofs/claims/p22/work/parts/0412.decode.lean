theorem dX9_tested_16 : decode cX9_tested 16 = .ok (.aload_n 0, 1) := by decide +kernel
theorem dX9_tested_17 : decode cX9_tested 17 = .ok (.invokevirtual 194, 3) := by decide +kernel
theorem dX9_tested_20 : decode cX9_tested 20 = .ok (.ifCond .ne 5, 3) := by decide +kernel
theorem dX9_tested_23 : decode cX9_tested 23 = .ok (.iconst 0, 1) := by decide +kernel
theorem dX9_tested_24 : decode cX9_tested 24 = .ok (.ireturn, 1) := by decide +kernel
theorem dX9_tested_25 : decode cX9_tested 25 = .ok (.aload_n 0, 1) := by decide +kernel
theorem dX9_tested_26 : decode cX9_tested 26 = .ok (.invokevirtual 197, 3) := by decide +kernel
theorem dX9_tested_29 : decode cX9_tested 29 = .ok (.aload_n 0, 1) := by decide +kernel
theorem dX9_tested_30 : decode cX9_tested 30 = .ok (.ldc2_w 200, 3) := by decide +kernel
theorem dX9_tested_33 : decode cX9_tested 33 = .ok (.invokevirtual 101, 3) := by decide +kernel
theorem dX9_tested_36 : decode cX9_tested 36 = .ok (.ifCond .ne 13, 3) := by decide +kernel
theorem dX9_tested_39 : decode cX9_tested 39 = .ok (.aload_n 0, 1) := by decide +kernel
theorem dX9_tested_40 : decode cX9_tested 40 = .ok (.ldc2_w 202, 3) := by decide +kernel
theorem dX9_tested_43 : decode cX9_tested 43 = .ok (.invokevirtual 101, 3) := by decide +kernel
theorem dX9_tested_46 : decode cX9_tested 46 = .ok (.ifCond .eq 7, 3) := by decide +kernel
theorem dX9_tested_49 : decode cX9_tested 49 = .ok (.iconst 1, 1) := by decide +kernel
theorem dX9_tested_50 : decode cX9_tested 50 = .ok (.goto 4, 3) := by decide +kernel
theorem dX9_tested_53 : decode cX9_tested 53 = .ok (.iconst 0, 1) := by decide +kernel
theorem dX9_tested_54 : decode cX9_tested 54 = .ok (.istore_n 1, 1) := by decide +kernel
theorem dX9_tested_55 : decode cX9_tested 55 = .ok (.iload_n 1, 1) := by decide +kernel
theorem dX9_tested_56 : decode cX9_tested 56 = .ok (.ifCond .eq (-44), 3) := by decide +kernel
theorem dX9_tested_59 : decode cX9_tested 59 = .ok (.aload_n 0, 1) := by decide +kernel
theorem dX9_tested_60 : decode cX9_tested 60 = .ok (.ldc2_w 200, 3) := by decide +kernel
theorem dX9_tested_63 : decode cX9_tested 63 = .ok (.invokevirtual 101, 3) := by decide +kernel
theorem dX9_tested_66 : decode cX9_tested 66 = .ok (.ifCond .eq 8, 3) := by decide +kernel
theorem dX9_tested_69 : decode cX9_tested 69 = .ok (.bipush 12, 2) := by decide +kernel
theorem dX9_tested_71 : decode cX9_tested 71 = .ok (.goto 5, 3) := by decide +kernel
theorem dX9_tested_74 : decode cX9_tested 74 = .ok (.bipush 13, 2) := by decide +kernel
theorem dX9_tested_76 : decode cX9_tested 76 = .ok (.istore_n 2, 1) := by decide +kernel
theorem dX9_tested_77 : decode cX9_tested 77 = .ok (.aload_n 0, 1) := by decide +kernel
theorem dX9_tested_78 : decode cX9_tested 78 = .ok (.invokevirtual 105, 3) := by decide +kernel
theorem dX9_tested_81 : decode cX9_tested 81 = .ok (.aload_n 0, 1) := by decide +kernel
theorem dX9_tested_82 : decode cX9_tested 82 = .ok (.iload_n 2, 1) := by decide +kernel
theorem dX9_tested_83 : decode cX9_tested 83 = .ok (.invokestatic 152, 3) := by decide +kernel
theorem dX9_tested_86 : decode cX9_tested 86 = .ok (.invokevirtual 188, 3) := by decide +kernel
theorem dX9_tested_89 : decode cX9_tested 89 = .ok (.aload_n 0, 1) := by decide +kernel
theorem dX9_tested_90 : decode cX9_tested 90 = .ok (.getfield 32, 3) := by decide +kernel
theorem dX9_tested_93 : decode cX9_tested 93 = .ok (.aload_n 0, 1) := by decide +kernel
theorem dX9_tested_94 : decode cX9_tested 94 = .ok (.getfield 149, 3) := by decide +kernel
theorem dX9_tested_97 : decode cX9_tested 97 = .ok (.iload_n 2, 1) := by decide +kernel
theorem dX9_tested_98 : decode cX9_tested 98 = .ok (.iastore, 1) := by decide +kernel
theorem dX9_tested_99 : decode cX9_tested 99 = .ok (.aload_n 0, 1) := by decide +kernel
theorem dX9_tested_100 : decode cX9_tested 100 = .ok (.dup, 1) := by decide +kernel
theorem dX9_tested_101 : decode cX9_tested 101 = .ok (.getfield 149, 3) := by decide +kernel
theorem dX9_tested_104 : decode cX9_tested 104 = .ok (.iconst 1, 1) := by decide +kernel
theorem dX9_tested_105 : decode cX9_tested 105 = .ok (.iadd, 1) := by decide +kernel
theorem dX9_tested_106 : decode cX9_tested 106 = .ok (.putfield 149, 3) := by decide +kernel
theorem dX9_tested_109 : decode cX9_tested 109 = .ok (.goto (-97), 3) := by decide +kernel
theorem dX9_tested_112 : decode cX9_tested 112 = .ok (.aload_n 0, 1) := by decide +kernel
theorem dX9_tested_113 : decode cX9_tested 113 = .ok (.invokevirtual 191, 3) := by decide +kernel
theorem dX9_tested_116 : decode cX9_tested 116 = .ok (.ifCond .eq 18, 3) := by decide +kernel
theorem dX9_tested_119 : decode cX9_tested 119 = .ok (.aload_n 0, 1) := by decide +kernel
theorem dX9_tested_120 : decode cX9_tested 120 = .ok (.invokevirtual 93, 3) := by decide +kernel
theorem dX9_tested_123 : decode cX9_tested 123 = .ok (.pop, 1) := by decide +kernel
theorem dX9_tested_124 : decode cX9_tested 124 = .ok (.aload_n 0, 1) := by decide +kernel
theorem dX9_tested_125 : decode cX9_tested 125 = .ok (.iconst 0, 1) := by decide +kernel
theorem dX9_tested_126 : decode cX9_tested 126 = .ok (.aload_n 0, 1) := by decide +kernel
theorem dX9_tested_127 : decode cX9_tested 127 = .ok (.getfield 90, 3) := by decide +kernel
theorem dX9_tested_130 : decode cX9_tested 130 = .ok (.invokevirtual 111, 3) := by decide +kernel
theorem dX9_tested_133 : decode cX9_tested 133 = .ok (.ireturn, 1) := by decide +kernel
theorem dX9_tested_134 : decode cX9_tested 134 = .ok (.aload_n 0, 1) := by decide +kernel
theorem dX9_tested_135 : decode cX9_tested 135 = .ok (.iconst 1, 1) := by decide +kernel
theorem dX9_tested_136 : decode cX9_tested 136 = .ok (.invokevirtual 188, 3) := by decide +kernel
theorem dX9_tested_139 : decode cX9_tested 139 = .ok (.iconst 1, 1) := by decide +kernel
theorem dX9_tested_140 : decode cX9_tested 140 = .ok (.ireturn, 1) := by decide +kernel
theorem dX9_thatAre_0 : decode cX9_thatAre 0 = .ok (.iconst 0, 1) := by decide +kernel
theorem dX9_thatAre_1 : decode cX9_thatAre 1 = .ok (.istore_n 2, 1) := by decide +kernel
theorem dX9_thatAre_2 : decode cX9_thatAre 2 = .ok (.iconst 0, 1) := by decide +kernel
theorem dX9_thatAre_3 : decode cX9_thatAre 3 = .ok (.istore_n 3, 1) := by decide +kernel
theorem dX9_thatAre_4 : decode cX9_thatAre 4 = .ok (.iload_n 3, 1) := by decide +kernel
theorem dX9_thatAre_5 : decode cX9_thatAre 5 = .ok (.aload_n 0, 1) := by decide +kernel
theorem dX9_thatAre_6 : decode cX9_thatAre 6 = .ok (.getfield 42, 3) := by decide +kernel
theorem dX9_thatAre_9 : decode cX9_thatAre 9 = .ok (.iconst 0, 1) := by decide +kernel
theorem dX9_thatAre_10 : decode cX9_thatAre 10 = .ok (.iaload, 1) := by decide +kernel
theorem dX9_thatAre_11 : decode cX9_thatAre 11 = .ok (.if_icmp .ge 29, 3) := by decide +kernel
theorem dX9_thatAre_14 : decode cX9_thatAre 14 = .ok (.iload_n 2, 1) := by decide +kernel
theorem dX9_thatAre_15 : decode cX9_thatAre 15 = .ok (.aload_n 0, 1) := by decide +kernel
theorem dX9_thatAre_16 : decode cX9_thatAre 16 = .ok (.iload_n 3, 1) := by decide +kernel
theorem dX9_thatAre_17 : decode cX9_thatAre 17 = .ok (.iconst 4, 1) := by decide +kernel
theorem dX9_thatAre_18 : decode cX9_thatAre 18 = .ok (.invokevirtual 268, 3) := by decide +kernel
theorem dX9_thatAre_21 : decode cX9_thatAre 21 = .ok (.iload_n 1, 1) := by decide +kernel
theorem dX9_thatAre_22 : decode cX9_thatAre 22 = .ok (.if_icmp .ne 9, 3) := by decide +kernel
theorem dX9_thatAre_25 : decode cX9_thatAre 25 = .ok (.iconst 1, 1) := by decide +kernel
theorem dX9_thatAre_26 : decode cX9_thatAre 26 = .ok (.iload_n 3, 1) := by decide +kernel
theorem dX9_thatAre_27 : decode cX9_thatAre 27 = .ok (.ishl, 1) := by decide +kernel
theorem dX9_thatAre_28 : decode cX9_thatAre 28 = .ok (.goto 4, 3) := by decide +kernel
theorem dX9_thatAre_31 : decode cX9_thatAre 31 = .ok (.iconst 0, 1) := by decide +kernel
theorem dX9_thatAre_32 : decode cX9_thatAre 32 = .ok (.ior, 1) := by decide +kernel
theorem dX9_thatAre_33 : decode cX9_thatAre 33 = .ok (.istore_n 2, 1) := by decide +kernel
theorem dX9_thatAre_34 : decode cX9_thatAre 34 = .ok (.iinc 3 1, 3) := by decide +kernel
theorem dX9_thatAre_37 : decode cX9_thatAre 37 = .ok (.goto (-33), 3) := by decide +kernel
theorem dX9_thatAre_40 : decode cX9_thatAre 40 = .ok (.iload_n 2, 1) := by decide +kernel
theorem dX9_thatAre_41 : decode cX9_thatAre 41 = .ok (.ireturn, 1) := by decide +kernel
theorem dX9_triesAs_0 : decode cX9_triesAs 0 = .ok (.aload_n 0, 1) := by decide +kernel
theorem dX9_triesAs_1 : decode cX9_triesAs 1 = .ok (.getfield 48, 3) := by decide +kernel
theorem dX9_triesAs_4 : decode cX9_triesAs 4 = .ok (.iload_n 1, 1) := by decide +kernel
theorem dX9_triesAs_5 : decode cX9_triesAs 5 = .ok (.iaload, 1) := by decide +kernel
theorem dX9_triesAs_6 : decode cX9_triesAs 6 = .ok (.istore_n 3, 1) := by decide +kernel
theorem dX9_triesAs_7 : decode cX9_triesAs 7 = .ok (.aload_n 0, 1) := by decide +kernel
theorem dX9_triesAs_8 : decode cX9_triesAs 8 = .ok (.getfield 51, 3) := by decide +kernel
theorem dX9_triesAs_11 : decode cX9_triesAs 11 = .ok (.iload_n 1, 1) := by decide +kernel
theorem dX9_triesAs_12 : decode cX9_triesAs 12 = .ok (.iload_n 2, 1) := by decide +kernel
theorem dX9_triesAs_13 : decode cX9_triesAs 13 = .ok (.bastore, 1) := by decide +kernel
theorem dX9_triesAs_14 : decode cX9_triesAs 14 = .ok (.aload_n 0, 1) := by decide +kernel
theorem dX9_triesAs_15 : decode cX9_triesAs 15 = .ok (.getfield 42, 3) := by decide +kernel
theorem dX9_triesAs_18 : decode cX9_triesAs 18 = .ok (.iconst 3, 1) := by decide +kernel
theorem dX9_triesAs_19 : decode cX9_triesAs 19 = .ok (.aload_n 0, 1) := by decide +kernel
theorem dX9_triesAs_20 : decode cX9_triesAs 20 = .ok (.getfield 70, 3) := by decide +kernel
theorem dX9_triesAs_23 : decode cX9_triesAs 23 = .ok (.iload_n 1, 1) := by decide +kernel
theorem dX9_triesAs_24 : decode cX9_triesAs 24 = .ok (.iaload, 1) := by decide +kernel
theorem dX9_triesAs_25 : decode cX9_triesAs 25 = .ok (.aload_n 0, 1) := by decide +kernel
theorem dX9_triesAs_26 : decode cX9_triesAs 26 = .ok (.iload_n 3, 1) := by decide +kernel
theorem dX9_triesAs_27 : decode cX9_triesAs 27 = .ok (.iconst 1, 1) := by decide +kernel
theorem dX9_triesAs_28 : decode cX9_triesAs 28 = .ok (.invokevirtual 268, 3) := by decide +kernel
theorem dX9_triesAs_31 : decode cX9_triesAs 31 = .ok (.isub, 1) := by decide +kernel
theorem dX9_triesAs_32 : decode cX9_triesAs 32 = .ok (.iastore, 1) := by decide +kernel
theorem dX9_triesAs_33 : decode cX9_triesAs 33 = .ok (.aload_n 0, 1) := by decide +kernel
theorem dX9_triesAs_34 : decode cX9_triesAs 34 = .ok (.getfield 42, 3) := by decide +kernel
theorem dX9_triesAs_37 : decode cX9_triesAs 37 = .ok (.bipush 44, 2) := by decide +kernel
theorem dX9_triesAs_39 : decode cX9_triesAs 39 = .ok (.bipush 6, 2) := by decide +kernel
theorem dX9_triesAs_41 : decode cX9_triesAs 41 = .ok (.iload_n 3, 1) := by decide +kernel
theorem dX9_triesAs_42 : decode cX9_triesAs 42 = .ok (.imul, 1) := by decide +kernel
theorem dX9_triesAs_43 : decode cX9_triesAs 43 = .ok (.iadd, 1) := by decide +kernel
theorem dX9_triesAs_44 : decode cX9_triesAs 44 = .ok (.iconst 4, 1) := by decide +kernel
theorem dX9_triesAs_45 : decode cX9_triesAs 45 = .ok (.iadd, 1) := by decide +kernel
theorem dX9_triesAs_46 : decode cX9_triesAs 46 = .ok (.iload_n 2, 1) := by decide +kernel
theorem dX9_triesAs_47 : decode cX9_triesAs 47 = .ok (.ifCond .eq 7, 3) := by decide +kernel
theorem dX9_triesAs_50 : decode cX9_triesAs 50 = .ok (.iconst 1, 1) := by decide +kernel
theorem dX9_triesAs_51 : decode cX9_triesAs 51 = .ok (.goto 4, 3) := by decide +kernel
theorem dX9_triesAs_54 : decode cX9_triesAs 54 = .ok (.iconst 0, 1) := by decide +kernel
theorem dX9_triesAs_55 : decode cX9_triesAs 55 = .ok (.iastore, 1) := by decide +kernel
theorem dX9_triesAs_56 : decode cX9_triesAs 56 = .ok (.return_, 1) := by decide +kernel
theorem dX9_triesNext_0 : decode cX9_triesNext 0 = .ok (.aload_n 0, 1) := by decide +kernel
theorem dX9_triesNext_1 : decode cX9_triesNext 1 = .ok (.getfield 48, 3) := by decide +kernel
theorem dX9_triesNext_4 : decode cX9_triesNext 4 = .ok (.iload_n 1, 1) := by decide +kernel
theorem dX9_triesNext_5 : decode cX9_triesNext 5 = .ok (.dup2, 1) := by decide +kernel
theorem dX9_triesNext_6 : decode cX9_triesNext 6 = .ok (.iaload, 1) := by decide +kernel
theorem dX9_triesNext_7 : decode cX9_triesNext 7 = .ok (.iconst 1, 1) := by decide +kernel
theorem dX9_triesNext_8 : decode cX9_triesNext 8 = .ok (.iadd, 1) := by decide +kernel
theorem dX9_triesNext_9 : decode cX9_triesNext 9 = .ok (.iastore, 1) := by decide +kernel
theorem dX9_triesNext_10 : decode cX9_triesNext 10 = .ok (.aload_n 0, 1) := by decide +kernel
theorem dX9_triesNext_11 : decode cX9_triesNext 11 = .ok (.getfield 48, 3) := by decide +kernel
theorem dX9_triesNext_14 : decode cX9_triesNext 14 = .ok (.iload_n 1, 1) := by decide +kernel
theorem dX9_triesNext_15 : decode cX9_triesNext 15 = .ok (.iaload, 1) := by decide +kernel
theorem dX9_triesNext_16 : decode cX9_triesNext 16 = .ok (.aload_n 0, 1) := by decide +kernel
theorem dX9_triesNext_17 : decode cX9_triesNext 17 = .ok (.getfield 42, 3) := by decide +kernel
theorem dX9_triesNext_20 : decode cX9_triesNext 20 = .ok (.iconst 0, 1) := by decide +kernel
theorem dX9_triesNext_21 : decode cX9_triesNext 21 = .ok (.iaload, 1) := by decide +kernel
theorem dX9_triesNext_22 : decode cX9_triesNext 22 = .ok (.if_icmp .ge 29, 3) := by decide +kernel
theorem dX9_triesNext_25 : decode cX9_triesNext 25 = .ok (.aload_n 0, 1) := by decide +kernel
theorem dX9_triesNext_26 : decode cX9_triesNext 26 = .ok (.aload_n 0, 1) := by decide +kernel
theorem dX9_triesNext_27 : decode cX9_triesNext 27 = .ok (.getfield 48, 3) := by decide +kernel
theorem dX9_triesNext_30 : decode cX9_triesNext 30 = .ok (.iload_n 1, 1) := by decide +kernel
theorem dX9_triesNext_31 : decode cX9_triesNext 31 = .ok (.iaload, 1) := by decide +kernel
theorem dX9_triesNext_32 : decode cX9_triesNext 32 = .ok (.invokevirtual 295, 3) := by decide +kernel
theorem dX9_triesNext_35 : decode cX9_triesNext 35 = .ok (.ifCond .ne 16, 3) := by decide +kernel
theorem dX9_triesNext_38 : decode cX9_triesNext 38 = .ok (.aload_n 0, 1) := by decide +kernel
theorem dX9_triesNext_39 : decode cX9_triesNext 39 = .ok (.getfield 48, 3) := by decide +kernel
theorem dX9_triesNext_42 : decode cX9_triesNext 42 = .ok (.iload_n 1, 1) := by decide +kernel
theorem dX9_triesNext_43 : decode cX9_triesNext 43 = .ok (.dup2, 1) := by decide +kernel
theorem dX9_triesNext_44 : decode cX9_triesNext 44 = .ok (.iaload, 1) := by decide +kernel
theorem dX9_triesNext_45 : decode cX9_triesNext 45 = .ok (.iconst 1, 1) := by decide +kernel
theorem dX9_triesNext_46 : decode cX9_triesNext 46 = .ok (.iadd, 1) := by decide +kernel
theorem dX9_triesNext_47 : decode cX9_triesNext 47 = .ok (.iastore, 1) := by decide +kernel
theorem dX9_triesNext_48 : decode cX9_triesNext 48 = .ok (.goto (-38), 3) := by decide +kernel
theorem dX9_triesNext_51 : decode cX9_triesNext 51 = .ok (.aload_n 0, 1) := by decide +kernel
theorem dX9_triesNext_52 : decode cX9_triesNext 52 = .ok (.getfield 48, 3) := by decide +kernel
theorem dX9_triesNext_55 : decode cX9_triesNext 55 = .ok (.iload_n 1, 1) := by decide +kernel
theorem dX9_triesNext_56 : decode cX9_triesNext 56 = .ok (.iaload, 1) := by decide +kernel
theorem dX9_triesNext_57 : decode cX9_triesNext 57 = .ok (.aload_n 0, 1) := by decide +kernel
theorem dX9_triesNext_58 : decode cX9_triesNext 58 = .ok (.getfield 42, 3) := by decide +kernel
theorem dX9_triesNext_61 : decode cX9_triesNext 61 = .ok (.iconst 0, 1) := by decide +kernel
theorem dX9_triesNext_62 : decode cX9_triesNext 62 = .ok (.iaload, 1) := by decide +kernel
theorem dX9_triesNext_63 : decode cX9_triesNext 63 = .ok (.if_icmp .ge 7, 3) := by decide +kernel
theorem dX9_triesNext_66 : decode cX9_triesNext 66 = .ok (.iconst 1, 1) := by decide +kernel
theorem dX9_triesNext_67 : decode cX9_triesNext 67 = .ok (.goto 4, 3) := by decide +kernel
theorem dX9_triesNext_70 : decode cX9_triesNext 70 = .ok (.iconst 0, 1) := by decide +kernel
theorem dX9_triesNext_71 : decode cX9_triesNext 71 = .ok (.ireturn, 1) := by decide +kernel
theorem dX9_value_0 : decode cX9_value 0 = .ok (.aload_n 0, 1) := by decide +kernel
theorem dX9_value_1 : decode cX9_value 1 = .ok (.invokevirtual 93, 3) := by decide +kernel
theorem dX9_value_4 : decode cX9_value 4 = .ok (.pop, 1) := by decide +kernel
theorem dX9_value_5 : decode cX9_value 5 = .ok (.aload_n 0, 1) := by decide +kernel
theorem dX9_value_6 : decode cX9_value 6 = .ok (.getfield 90, 3) := by decide +kernel
theorem dX9_value_9 : decode cX9_value 9 = .ok (.istore_n 1, 1) := by decide +kernel
theorem dX9_value_10 : decode cX9_value 10 = .ok (.aload_n 0, 1) := by decide +kernel
theorem dX9_value_11 : decode cX9_value 11 = .ok (.aload_n 0, 1) := by decide +kernel
theorem dX9_value_12 : decode cX9_value 12 = .ok (.getfield 90, 3) := by decide +kernel
theorem dX9_value_15 : decode cX9_value 15 = .ok (.invokevirtual 108, 3) := by decide +kernel
theorem dX9_value_18 : decode cX9_value 18 = .ok (.ifCond .eq 34, 3) := by decide +kernel
theorem dX9_value_21 : decode cX9_value 21 = .ok (.aload_n 0, 1) := by decide +kernel
theorem dX9_value_22 : decode cX9_value 22 = .ok (.iconst 0, 1) := by decide +kernel
theorem dX9_value_23 : decode cX9_value 23 = .ok (.ldc 160, 2) := by decide +kernel
theorem dX9_value_25 : decode cX9_value 25 = .ok (.invokevirtual 161, 3) := by decide +kernel
theorem dX9_value_28 : decode cX9_value 28 = .ok (.ifCond .eq 11, 3) := by decide +kernel
theorem dX9_value_31 : decode cX9_value 31 = .ok (.aload_n 0, 1) := by decide +kernel
theorem dX9_value_32 : decode cX9_value 32 = .ok (.iload_n 1, 1) := by decide +kernel
theorem dX9_value_33 : decode cX9_value 33 = .ok (.invokevirtual 164, 3) := by decide +kernel
theorem dX9_value_36 : decode cX9_value 36 = .ok (.ifCond .ne 5, 3) := by decide +kernel
theorem dX9_value_39 : decode cX9_value 39 = .ok (.iconst 0, 1) := by decide +kernel
theorem dX9_value_40 : decode cX9_value 40 = .ok (.ireturn, 1) := by decide +kernel
theorem dX9_value_41 : decode cX9_value 41 = .ok (.aload_n 0, 1) := by decide +kernel
theorem dX9_value_42 : decode cX9_value 42 = .ok (.iconst 0, 1) := by decide +kernel
theorem dX9_value_43 : decode cX9_value 43 = .ok (.aload_n 0, 1) := by decide +kernel
theorem dX9_value_44 : decode cX9_value 44 = .ok (.getfield 115, 3) := by decide +kernel
theorem dX9_value_47 : decode cX9_value 47 = .ok (.invokevirtual 156, 3) := by decide +kernel
theorem dX9_value_50 : decode cX9_value 50 = .ok (.iconst 1, 1) := by decide +kernel
theorem dX9_value_51 : decode cX9_value 51 = .ok (.ireturn, 1) := by decide +kernel
theorem dX9_value_52 : decode cX9_value 52 = .ok (.aload_n 0, 1) := by decide +kernel
theorem dX9_value_53 : decode cX9_value 53 = .ok (.invokevirtual 167, 3) := by decide +kernel
theorem dX9_value_56 : decode cX9_value 56 = .ok (.istore_n 2, 1) := by decide +kernel
theorem dX9_value_57 : decode cX9_value 57 = .ok (.iload_n 2, 1) := by decide +kernel
theorem dX9_value_58 : decode cX9_value 58 = .ok (.ifCond .ge 10, 3) := by decide +kernel
theorem dX9_value_61 : decode cX9_value 61 = .ok (.aload_n 0, 1) := by decide +kernel
theorem dX9_value_62 : decode cX9_value 62 = .ok (.iconst 0, 1) := by decide +kernel
theorem dX9_value_63 : decode cX9_value 63 = .ok (.iload_n 1, 1) := by decide +kernel
theorem dX9_value_64 : decode cX9_value 64 = .ok (.invokevirtual 111, 3) := by decide +kernel
theorem dX9_value_67 : decode cX9_value 67 = .ok (.ireturn, 1) := by decide +kernel
theorem dX9_value_68 : decode cX9_value 68 = .ok (.aload_n 0, 1) := by decide +kernel
theorem dX9_value_69 : decode cX9_value 69 = .ok (.iload_n 1, 1) := by decide +kernel
theorem dX9_value_70 : decode cX9_value 70 = .ok (.invokevirtual 164, 3) := by decide +kernel
theorem dX9_value_73 : decode cX9_value 73 = .ok (.ifCond .ne 5, 3) := by decide +kernel
theorem dX9_value_76 : decode cX9_value 76 = .ok (.iconst 0, 1) := by decide +kernel
theorem dX9_value_77 : decode cX9_value 77 = .ok (.ireturn, 1) := by decide +kernel
theorem dX9_value_78 : decode cX9_value 78 = .ok (.aload_n 0, 1) := by decide +kernel
theorem dX9_value_79 : decode cX9_value 79 = .ok (.invokevirtual 105, 3) := by decide +kernel
theorem dX9_value_82 : decode cX9_value 82 = .ok (.aload_n 0, 1) := by decide +kernel
theorem dX9_value_83 : decode cX9_value 83 = .ok (.iconst 1, 1) := by decide +kernel
theorem dX9_value_84 : decode cX9_value 84 = .ok (.iload_n 2, 1) := by decide +kernel
theorem dX9_value_85 : decode cX9_value 85 = .ok (.invokevirtual 156, 3) := by decide +kernel
theorem dX9_value_88 : decode cX9_value 88 = .ok (.iconst 1, 1) := by decide +kernel
theorem dX9_value_89 : decode cX9_value 89 = .ok (.ireturn, 1) := by decide +kernel
theorem dX9_weeks_0 : decode cX9_weeks 0 = .ok (.aload_n 0, 1) := by decide +kernel
theorem dX9_weeks_1 : decode cX9_weeks 1 = .ok (.invokevirtual 301, 3) := by decide +kernel
theorem dX9_weeks_4 : decode cX9_weeks 4 = .ok (.ifCond .eq 35, 3) := by decide +kernel
theorem dX9_weeks_7 : decode cX9_weeks 7 = .ok (.aload_n 0, 1) := by decide +kernel
theorem dX9_weeks_8 : decode cX9_weeks 8 = .ok (.iload_n 1, 1) := by decide +kernel
theorem dX9_weeks_9 : decode cX9_weeks 9 = .ok (.invokevirtual 335, 3) := by decide +kernel
theorem dX9_weeks_12 : decode cX9_weeks 12 = .ok (.ifCond .eq 27, 3) := by decide +kernel
theorem dX9_weeks_15 : decode cX9_weeks 15 = .ok (.iload_n 2, 1) := by decide +kernel
theorem dX9_weeks_16 : decode cX9_weeks 16 = .ok (.i2l, 1) := by decide +kernel
theorem dX9_weeks_17 : decode cX9_weeks 17 = .ok (.lconst 1, 1) := by decide +kernel
theorem dX9_weeks_18 : decode cX9_weeks 18 = .ok (.ldc2_w 412, 3) := by decide +kernel
theorem dX9_weeks_21 : decode cX9_weeks 21 = .ok (.invokestatic 118, 3) := by decide +kernel
theorem dX9_weeks_24 : decode cX9_weeks 24 = .ok (.ifCond .eq 15, 3) := by decide +kernel
theorem dX9_weeks_27 : decode cX9_weeks 27 = .ok (.iload_n 3, 1) := by decide +kernel
theorem dX9_weeks_28 : decode cX9_weeks 28 = .ok (.i2l, 1) := by decide +kernel
theorem dX9_weeks_29 : decode cX9_weeks 29 = .ok (.lconst 0, 1) := by decide +kernel
theorem dX9_weeks_30 : decode cX9_weeks 30 = .ok (.ldc2_w 278, 3) := by decide +kernel
theorem dX9_weeks_33 : decode cX9_weeks 33 = .ok (.invokestatic 118, 3) := by decide +kernel
theorem dX9_weeks_36 : decode cX9_weeks 36 = .ok (.ifCond .ne 5, 3) := by decide +kernel
theorem dX9_weeks_39 : decode cX9_weeks 39 = .ok (.iconst (-1), 1) := by decide +kernel
theorem dX9_weeks_40 : decode cX9_weeks 40 = .ok (.ireturn, 1) := by decide +kernel
theorem dX9_weeks_41 : decode cX9_weeks 41 = .ok (.aload_n 0, 1) := by decide +kernel
theorem dX9_weeks_42 : decode cX9_weeks 42 = .ok (.invokevirtual 343, 3) := by decide +kernel
theorem dX9_weeks_45 : decode cX9_weeks 45 = .ok (.iconst 0, 1) := by decide +kernel
theorem dX9_weeks_46 : decode cX9_weeks 46 = .ok (.istore 4, 2) := by decide +kernel
theorem dX9_weeks_48 : decode cX9_weeks 48 = .ok (.iconst 0, 1) := by decide +kernel
theorem dX9_weeks_49 : decode cX9_weeks 49 = .ok (.istore 5, 2) := by decide +kernel
theorem dX9_weeks_51 : decode cX9_weeks 51 = .ok (.iload 5, 2) := by decide +kernel
theorem dX9_weeks_53 : decode cX9_weeks 53 = .ok (.bipush 6, 2) := by decide +kernel
theorem dX9_weeks_55 : decode cX9_weeks 55 = .ok (.iload_n 2, 1) := by decide +kernel
theorem dX9_weeks_56 : decode cX9_weeks 56 = .ok (.imul, 1) := by decide +kernel
theorem dX9_weeks_57 : decode cX9_weeks 57 = .ok (.if_icmp .ge 57, 3) := by decide +kernel
theorem dX9_weeks_60 : decode cX9_weeks 60 = .ok (.aload_n 0, 1) := by decide +kernel
theorem dX9_weeks_61 : decode cX9_weeks 61 = .ok (.invokevirtual 310, 3) := by decide +kernel
theorem dX9_weeks_64 : decode cX9_weeks 64 = .ok (.aload_n 0, 1) := by decide +kernel
theorem dX9_weeks_65 : decode cX9_weeks 65 = .ok (.iload_n 1, 1) := by decide +kernel
theorem dX9_weeks_66 : decode cX9_weeks 66 = .ok (.invokevirtual 338, 3) := by decide +kernel
theorem dX9_weeks_69 : decode cX9_weeks 69 = .ok (.pop, 1) := by decide +kernel
theorem dX9_weeks_70 : decode cX9_weeks 70 = .ok (.iload 4, 2) := by decide +kernel
theorem dX9_weeks_72 : decode cX9_weeks 72 = .ok (.iload_n 3, 1) := by decide +kernel
theorem dX9_weeks_73 : decode cX9_weeks 73 = .ok (.ifCond .ne 12, 3) := by decide +kernel
theorem dX9_weeks_76 : decode cX9_weeks 76 = .ok (.aload_n 0, 1) := by decide +kernel
theorem dX9_weeks_77 : decode cX9_weeks 77 = .ok (.getfield 42, 3) := by decide +kernel
theorem dX9_weeks_80 : decode cX9_weeks 80 = .ok (.iconst 4, 1) := by decide +kernel
theorem dX9_weeks_81 : decode cX9_weeks 81 = .ok (.iaload, 1) := by decide +kernel
theorem dX9_weeks_82 : decode cX9_weeks 82 = .ok (.goto 23, 3) := by decide +kernel
theorem dX9_weeks_85 : decode cX9_weeks 85 = .ok (.iload_n 3, 1) := by decide +kernel
theorem dX9_weeks_86 : decode cX9_weeks 86 = .ok (.iconst 1, 1) := by decide +kernel
theorem dX9_weeks_87 : decode cX9_weeks 87 = .ok (.if_icmp .ne 14, 3) := by decide +kernel
theorem dX9_weeks_90 : decode cX9_weeks 90 = .ok (.aload_n 0, 1) := by decide +kernel
theorem dX9_weeks_91 : decode cX9_weeks 91 = .ok (.iconst 1, 1) := by decide +kernel
theorem dX9_weeks_92 : decode cX9_weeks 92 = .ok (.invokevirtual 313, 3) := by decide +kernel
theorem dX9_weeks_95 : decode cX9_weeks 95 = .ok (.invokestatic 316, 3) := by decide +kernel
theorem dX9_weeks_98 : decode cX9_weeks 98 = .ok (.goto 7, 3) := by decide +kernel
theorem dX9_weeks_101 : decode cX9_weeks 101 = .ok (.aload_n 0, 1) := by decide +kernel
theorem dX9_weeks_102 : decode cX9_weeks 102 = .ok (.invokevirtual 307, 3) := by decide +kernel
theorem dX9_weeks_105 : decode cX9_weeks 105 = .ok (.iadd, 1) := by decide +kernel
theorem dX9_weeks_106 : decode cX9_weeks 106 = .ok (.istore 4, 2) := by decide +kernel
theorem dX9_weeks_108 : decode cX9_weeks 108 = .ok (.iinc 5 1, 3) := by decide +kernel
theorem dX9_weeks_111 : decode cX9_weeks 111 = .ok (.goto (-60), 3) := by decide +kernel
theorem dX9_weeks_114 : decode cX9_weeks 114 = .ok (.aload_n 0, 1) := by decide +kernel
theorem dX9_weeks_115 : decode cX9_weeks 115 = .ok (.invokevirtual 346, 3) := by decide +kernel
theorem dX9_weeks_118 : decode cX9_weeks 118 = .ok (.iload 4, 2) := by decide +kernel
theorem dX9_weeks_120 : decode cX9_weeks 120 = .ok (.ireturn, 1) := by decide +kernel
theorem dX9_wordHere_0 : decode cX9_wordHere 0 = .ok (.aload_n 0, 1) := by decide +kernel
theorem dX9_wordHere_1 : decode cX9_wordHere 1 = .ok (.ldc2_w 122, 3) := by decide +kernel
theorem dX9_wordHere_4 : decode cX9_wordHere 4 = .ok (.invokevirtual 101, 3) := by decide +kernel
theorem dX9_wordHere_7 : decode cX9_wordHere 7 = .ok (.ifCond .eq 5, 3) := by decide +kernel
theorem dX9_wordHere_10 : decode cX9_wordHere 10 = .ok (.iconst 0, 1) := by decide +kernel
theorem dX9_wordHere_11 : decode cX9_wordHere 11 = .ok (.ireturn, 1) := by decide +kernel
theorem dX9_wordHere_12 : decode cX9_wordHere 12 = .ok (.aload_n 0, 1) := by decide +kernel
theorem dX9_wordHere_13 : decode cX9_wordHere 13 = .ok (.ldc2_w 124, 3) := by decide +kernel
theorem dX9_wordHere_16 : decode cX9_wordHere 16 = .ok (.invokevirtual 101, 3) := by decide +kernel
theorem dX9_wordHere_19 : decode cX9_wordHere 19 = .ok (.ifCond .eq 5, 3) := by decide +kernel
theorem dX9_wordHere_22 : decode cX9_wordHere 22 = .ok (.iconst 1, 1) := by decide +kernel
theorem dX9_wordHere_23 : decode cX9_wordHere 23 = .ok (.ireturn, 1) := by decide +kernel
theorem dX9_wordHere_24 : decode cX9_wordHere 24 = .ok (.aload_n 0, 1) := by decide +kernel
theorem dX9_wordHere_25 : decode cX9_wordHere 25 = .ok (.ldc2_w 126, 3) := by decide +kernel
theorem dX9_wordHere_28 : decode cX9_wordHere 28 = .ok (.invokevirtual 101, 3) := by decide +kernel
theorem dX9_wordHere_31 : decode cX9_wordHere 31 = .ok (.ifCond .eq 5, 3) := by decide +kernel
theorem dX9_wordHere_34 : decode cX9_wordHere 34 = .ok (.iconst 2, 1) := by decide +kernel
theorem dX9_wordHere_35 : decode cX9_wordHere 35 = .ok (.ireturn, 1) := by decide +kernel
theorem dX9_wordHere_36 : decode cX9_wordHere 36 = .ok (.aload_n 0, 1) := by decide +kernel
theorem dX9_wordHere_37 : decode cX9_wordHere 37 = .ok (.ldc2_w 128, 3) := by decide +kernel
theorem dX9_wordHere_40 : decode cX9_wordHere 40 = .ok (.invokevirtual 101, 3) := by decide +kernel
theorem dX9_wordHere_43 : decode cX9_wordHere 43 = .ok (.ifCond .eq 5, 3) := by decide +kernel
theorem dX9_wordHere_46 : decode cX9_wordHere 46 = .ok (.iconst 3, 1) := by decide +kernel
theorem dX9_wordHere_47 : decode cX9_wordHere 47 = .ok (.ireturn, 1) := by decide +kernel
theorem dX9_wordHere_48 : decode cX9_wordHere 48 = .ok (.aload_n 0, 1) := by decide +kernel
theorem dX9_wordHere_49 : decode cX9_wordHere 49 = .ok (.ldc2_w 130, 3) := by decide +kernel
theorem dX9_wordHere_52 : decode cX9_wordHere 52 = .ok (.invokevirtual 101, 3) := by decide +kernel
theorem dX9_wordHere_55 : decode cX9_wordHere 55 = .ok (.ifCond .eq 5, 3) := by decide +kernel
theorem dX9_wordHere_58 : decode cX9_wordHere 58 = .ok (.iconst 4, 1) := by decide +kernel
theorem dX9_wordHere_59 : decode cX9_wordHere 59 = .ok (.ireturn, 1) := by decide +kernel
theorem dX9_wordHere_60 : decode cX9_wordHere 60 = .ok (.aload_n 0, 1) := by decide +kernel
theorem dX9_wordHere_61 : decode cX9_wordHere 61 = .ok (.ldc2_w 132, 3) := by decide +kernel
theorem dX9_wordHere_64 : decode cX9_wordHere 64 = .ok (.invokevirtual 101, 3) := by decide +kernel
theorem dX9_wordHere_67 : decode cX9_wordHere 67 = .ok (.ifCond .eq 5, 3) := by decide +kernel
theorem dX9_wordHere_70 : decode cX9_wordHere 70 = .ok (.iconst 5, 1) := by decide +kernel
theorem dX9_wordHere_71 : decode cX9_wordHere 71 = .ok (.ireturn, 1) := by decide +kernel
theorem dX9_wordHere_72 : decode cX9_wordHere 72 = .ok (.aload_n 0, 1) := by decide +kernel
theorem dX9_wordHere_73 : decode cX9_wordHere 73 = .ok (.ldc2_w 134, 3) := by decide +kernel
theorem dX9_wordHere_76 : decode cX9_wordHere 76 = .ok (.invokevirtual 101, 3) := by decide +kernel
theorem dX9_wordHere_79 : decode cX9_wordHere 79 = .ok (.ifCond .eq 6, 3) := by decide +kernel
theorem dX9_wordHere_82 : decode cX9_wordHere 82 = .ok (.bipush 6, 2) := by decide +kernel
theorem dX9_wordHere_84 : decode cX9_wordHere 84 = .ok (.ireturn, 1) := by decide +kernel
theorem dX9_wordHere_85 : decode cX9_wordHere 85 = .ok (.aload_n 0, 1) := by decide +kernel
theorem dX9_wordHere_86 : decode cX9_wordHere 86 = .ok (.ldc2_w 136, 3) := by decide +kernel
theorem dX9_wordHere_89 : decode cX9_wordHere 89 = .ok (.invokevirtual 101, 3) := by decide +kernel
theorem dX9_wordHere_92 : decode cX9_wordHere 92 = .ok (.ifCond .eq 8, 3) := by decide +kernel
theorem dX9_wordHere_95 : decode cX9_wordHere 95 = .ok (.bipush 7, 2) := by decide +kernel
theorem dX9_wordHere_97 : decode cX9_wordHere 97 = .ok (.goto 19, 3) := by decide +kernel
theorem dX9_wordHere_100 : decode cX9_wordHere 100 = .ok (.aload_n 0, 1) := by decide +kernel
theorem dX9_wordHere_101 : decode cX9_wordHere 101 = .ok (.ldc2_w 138, 3) := by decide +kernel
theorem dX9_wordHere_104 : decode cX9_wordHere 104 = .ok (.invokevirtual 101, 3) := by decide +kernel
theorem dX9_wordHere_107 : decode cX9_wordHere 107 = .ok (.ifCond .eq 8, 3) := by decide +kernel
theorem dX9_wordHere_110 : decode cX9_wordHere 110 = .ok (.bipush 8, 2) := by decide +kernel
theorem dX9_wordHere_112 : decode cX9_wordHere 112 = .ok (.goto 4, 3) := by decide +kernel
theorem dX9_wordHere_115 : decode cX9_wordHere 115 = .ok (.iconst (-1), 1) := by decide +kernel
theorem dX9_wordHere_116 : decode cX9_wordHere 116 = .ok (.ireturn, 1) := by decide +kernel
theorem dX9_words_0 : decode cX9_words 0 = .ok (.aload_n 0, 1) := by decide +kernel
theorem dX9_words_1 : decode cX9_words 1 = .ok (.getfield 39, 3) := by decide +kernel
theorem dX9_words_4 : decode cX9_words 4 = .ok (.iconst 0, 1) := by decide +kernel
theorem dX9_words_5 : decode cX9_words 5 = .ok (.iload_n 1, 1) := by decide +kernel
theorem dX9_words_6 : decode cX9_words 6 = .ok (.i2l, 1) := by decide +kernel
theorem dX9_words_7 : decode cX9_words 7 = .ok (.lastore, 1) := by decide +kernel
theorem dX9_words_8 : decode cX9_words 8 = .ok (.aload_n 0, 1) := by decide +kernel
theorem dX9_words_9 : decode cX9_words 9 = .ok (.getfield 39, 3) := by decide +kernel
theorem dX9_words_12 : decode cX9_words 12 = .ok (.iconst 1, 1) := by decide +kernel
theorem dX9_words_13 : decode cX9_words 13 = .ok (.aload_n 0, 1) := by decide +kernel
theorem dX9_words_14 : decode cX9_words 14 = .ok (.iload_n 1, 1) := by decide +kernel
theorem dX9_words_15 : decode cX9_words 15 = .ok (.iconst 0, 1) := by decide +kernel
theorem dX9_words_16 : decode cX9_words 16 = .ok (.invokevirtual 268, 3) := by decide +kernel
theorem dX9_words_19 : decode cX9_words 19 = .ok (.i2l, 1) := by decide +kernel
theorem dX9_words_20 : decode cX9_words 20 = .ok (.lastore, 1) := by decide +kernel
theorem dX9_words_21 : decode cX9_words 21 = .ok (.aload_n 0, 1) := by decide +kernel
theorem dX9_words_22 : decode cX9_words 22 = .ok (.getfield 39, 3) := by decide +kernel
theorem dX9_words_25 : decode cX9_words 25 = .ok (.iconst 2, 1) := by decide +kernel
theorem dX9_words_26 : decode cX9_words 26 = .ok (.aload_n 0, 1) := by decide +kernel
theorem dX9_words_27 : decode cX9_words 27 = .ok (.iload_n 1, 1) := by decide +kernel
theorem dX9_words_28 : decode cX9_words 28 = .ok (.iconst 0, 1) := by decide +kernel
theorem dX9_words_29 : decode cX9_words 29 = .ok (.invokevirtual 275, 3) := by decide +kernel
theorem dX9_words_32 : decode cX9_words 32 = .ok (.i2l, 1) := by decide +kernel
theorem dX9_words_33 : decode cX9_words 33 = .ok (.lastore, 1) := by decide +kernel
theorem dX9_words_34 : decode cX9_words 34 = .ok (.aload_n 0, 1) := by decide +kernel
theorem dX9_words_35 : decode cX9_words 35 = .ok (.getfield 39, 3) := by decide +kernel
theorem dX9_words_38 : decode cX9_words 38 = .ok (.iconst 3, 1) := by decide +kernel
theorem dX9_words_39 : decode cX9_words 39 = .ok (.aload_n 0, 1) := by decide +kernel
theorem dX9_words_40 : decode cX9_words 40 = .ok (.iload_n 1, 1) := by decide +kernel
theorem dX9_words_41 : decode cX9_words 41 = .ok (.iconst 2, 1) := by decide +kernel
theorem dX9_words_42 : decode cX9_words 42 = .ok (.invokevirtual 268, 3) := by decide +kernel
theorem dX9_words_45 : decode cX9_words 45 = .ok (.i2l, 1) := by decide +kernel
theorem dX9_words_46 : decode cX9_words 46 = .ok (.lastore, 1) := by decide +kernel
theorem dX9_words_47 : decode cX9_words 47 = .ok (.aload_n 0, 1) := by decide +kernel
theorem dX9_words_48 : decode cX9_words 48 = .ok (.getfield 39, 3) := by decide +kernel
theorem dX9_words_51 : decode cX9_words 51 = .ok (.iconst 4, 1) := by decide +kernel
theorem dX9_words_52 : decode cX9_words 52 = .ok (.aload_n 0, 1) := by decide +kernel
theorem dX9_words_53 : decode cX9_words 53 = .ok (.iload_n 1, 1) := by decide +kernel
theorem dX9_words_54 : decode cX9_words 54 = .ok (.iconst 1, 1) := by decide +kernel
theorem dX9_words_55 : decode cX9_words 55 = .ok (.invokevirtual 268, 3) := by decide +kernel
theorem dX9_words_58 : decode cX9_words 58 = .ok (.i2l, 1) := by decide +kernel
theorem dX9_words_59 : decode cX9_words 59 = .ok (.lastore, 1) := by decide +kernel
theorem dX9_words_60 : decode cX9_words 60 = .ok (.aload_n 0, 1) := by decide +kernel
theorem dX9_words_61 : decode cX9_words 61 = .ok (.getfield 39, 3) := by decide +kernel
theorem dX9_words_64 : decode cX9_words 64 = .ok (.iconst 5, 1) := by decide +kernel
theorem dX9_words_65 : decode cX9_words 65 = .ok (.aload_n 0, 1) := by decide +kernel
theorem dX9_words_66 : decode cX9_words 66 = .ok (.getfield 42, 3) := by decide +kernel
theorem dX9_words_69 : decode cX9_words 69 = .ok (.iconst 3, 1) := by decide +kernel
theorem dX9_words_70 : decode cX9_words 70 = .ok (.iaload, 1) := by decide +kernel
theorem dX9_words_71 : decode cX9_words 71 = .ok (.i2l, 1) := by decide +kernel
theorem dX9_words_72 : decode cX9_words 72 = .ok (.lastore, 1) := by decide +kernel
theorem dX9_words_73 : decode cX9_words 73 = .ok (.aload_n 0, 1) := by decide +kernel
theorem dX9_words_74 : decode cX9_words 74 = .ok (.getfield 39, 3) := by decide +kernel
theorem dX9_words_77 : decode cX9_words 77 = .ok (.bipush 6, 2) := by decide +kernel
theorem dX9_words_79 : decode cX9_words 79 = .ok (.aload_n 0, 1) := by decide +kernel
theorem dX9_words_80 : decode cX9_words 80 = .ok (.iconst 1, 1) := by decide +kernel
theorem dX9_words_81 : decode cX9_words 81 = .ok (.invokevirtual 313, 3) := by decide +kernel
theorem dX9_words_84 : decode cX9_words 84 = .ok (.invokestatic 316, 3) := by decide +kernel
theorem dX9_words_87 : decode cX9_words 87 = .ok (.i2l, 1) := by decide +kernel
theorem dX9_words_88 : decode cX9_words 88 = .ok (.lastore, 1) := by decide +kernel
theorem dX9_words_89 : decode cX9_words 89 = .ok (.aload_n 0, 1) := by decide +kernel
theorem dX9_words_90 : decode cX9_words 90 = .ok (.getfield 39, 3) := by decide +kernel
theorem dX9_words_93 : decode cX9_words 93 = .ok (.bipush 7, 2) := by decide +kernel
theorem dX9_words_95 : decode cX9_words 95 = .ok (.aload_n 0, 1) := by decide +kernel
theorem dX9_words_96 : decode cX9_words 96 = .ok (.iload_n 1, 1) := by decide +kernel
theorem dX9_words_97 : decode cX9_words 97 = .ok (.iconst 5, 1) := by decide +kernel
theorem dX9_words_98 : decode cX9_words 98 = .ok (.invokevirtual 268, 3) := by decide +kernel
theorem dX9_words_101 : decode cX9_words 101 = .ok (.i2l, 1) := by decide +kernel
theorem dX9_words_102 : decode cX9_words 102 = .ok (.lastore, 1) := by decide +kernel
theorem dX9_words_103 : decode cX9_words 103 = .ok (.aload_n 0, 1) := by decide +kernel
theorem dX9_words_104 : decode cX9_words 104 = .ok (.getfield 39, 3) := by decide +kernel
theorem dX9_words_107 : decode cX9_words 107 = .ok (.bipush 8, 2) := by decide +kernel
theorem dX9_words_109 : decode cX9_words 109 = .ok (.aload_n 0, 1) := by decide +kernel
theorem dX9_words_110 : decode cX9_words 110 = .ok (.getfield 42, 3) := by decide +kernel
theorem dX9_words_113 : decode cX9_words 113 = .ok (.iconst 4, 1) := by decide +kernel
theorem dX9_words_114 : decode cX9_words 114 = .ok (.iaload, 1) := by decide +kernel
theorem dX9_words_115 : decode cX9_words 115 = .ok (.i2l, 1) := by decide +kernel
theorem dX9_words_116 : decode cX9_words 116 = .ok (.lastore, 1) := by decide +kernel
theorem dX9_words_117 : decode cX9_words 117 = .ok (.return_, 1) := by decide +kernel
theorem dX9_work_0 : decode cX9_work 0 = .ok (.aload_n 0, 1) := by decide +kernel
theorem dX9_work_1 : decode cX9_work 1 = .ok (.bipush 6, 2) := by decide +kernel
theorem dX9_work_3 : decode cX9_work 3 = .ok (.putfield 140, 3) := by decide +kernel
theorem dX9_work_6 : decode cX9_work 6 = .ok (.aload_n 0, 1) := by decide +kernel
theorem dX9_work_7 : decode cX9_work 7 = .ok (.iconst (-1), 1) := by decide +kernel
theorem dX9_work_8 : decode cX9_work 8 = .ok (.putfield 212, 3) := by decide +kernel
theorem dX9_work_11 : decode cX9_work 11 = .ok (.aload_n 0, 1) := by decide +kernel
theorem dX9_work_12 : decode cX9_work 12 = .ok (.iconst 0, 1) := by decide +kernel
theorem dX9_work_13 : decode cX9_work 13 = .ok (.putfield 215, 3) := by decide +kernel
theorem dX9_work_16 : decode cX9_work 16 = .ok (.aload_n 0, 1) := by decide +kernel
theorem dX9_work_17 : decode cX9_work 17 = .ok (.iconst 0, 1) := by decide +kernel
theorem dX9_work_18 : decode cX9_work 18 = .ok (.putfield 218, 3) := by decide +kernel
theorem dX9_work_21 : decode cX9_work 21 = .ok (.aload_n 0, 1) := by decide +kernel
theorem dX9_work_22 : decode cX9_work 22 = .ok (.invokevirtual 250, 3) := by decide +kernel
theorem dX9_work_25 : decode cX9_work 25 = .ok (.ifCond .ne 11, 3) := by decide +kernel
theorem dX9_work_28 : decode cX9_work 28 = .ok (.bipush (-2), 2) := by decide +kernel
theorem dX9_work_30 : decode cX9_work 30 = .ok (.aload_n 0, 1) := by decide +kernel
theorem dX9_work_31 : decode cX9_work 31 = .ok (.getfield 87, 3) := by decide +kernel
theorem dX9_work_34 : decode cX9_work 34 = .ok (.isub, 1) := by decide +kernel
theorem dX9_work_35 : decode cX9_work 35 = .ok (.ireturn, 1) := by decide +kernel
theorem dX9_work_36 : decode cX9_work 36 = .ok (.aload_n 0, 1) := by decide +kernel
theorem dX9_work_37 : decode cX9_work 37 = .ok (.getfield 42, 3) := by decide +kernel
theorem dX9_work_40 : decode cX9_work 40 = .ok (.iconst 0, 1) := by decide +kernel
theorem dX9_work_41 : decode cX9_work 41 = .ok (.aload_n 0, 1) := by decide +kernel
theorem dX9_work_42 : decode cX9_work 42 = .ok (.getfield 218, 3) := by decide +kernel
theorem dX9_work_45 : decode cX9_work 45 = .ok (.iastore, 1) := by decide +kernel
theorem dX9_work_46 : decode cX9_work 46 = .ok (.aload_n 0, 1) := by decide +kernel
theorem dX9_work_47 : decode cX9_work 47 = .ok (.getfield 42, 3) := by decide +kernel
theorem dX9_work_50 : decode cX9_work 50 = .ok (.iconst 1, 1) := by decide +kernel
theorem dX9_work_51 : decode cX9_work 51 = .ok (.aload_n 0, 1) := by decide +kernel
theorem dX9_work_52 : decode cX9_work 52 = .ok (.getfield 215, 3) := by decide +kernel
theorem dX9_work_55 : decode cX9_work 55 = .ok (.iastore, 1) := by decide +kernel
theorem dX9_work_56 : decode cX9_work 56 = .ok (.aload_n 0, 1) := by decide +kernel
theorem dX9_work_57 : decode cX9_work 57 = .ok (.getfield 42, 3) := by decide +kernel
theorem dX9_work_60 : decode cX9_work 60 = .ok (.iconst 2, 1) := by decide +kernel
theorem dX9_work_61 : decode cX9_work 61 = .ok (.aload_n 0, 1) := by decide +kernel
theorem dX9_work_62 : decode cX9_work 62 = .ok (.getfield 212, 3) := by decide +kernel
theorem dX9_work_65 : decode cX9_work 65 = .ok (.ifCond .ge 8, 3) := by decide +kernel
theorem dX9_work_68 : decode cX9_work 68 = .ok (.bipush 60, 2) := by decide +kernel
theorem dX9_work_70 : decode cX9_work 70 = .ok (.goto 7, 3) := by decide +kernel
theorem dX9_work_73 : decode cX9_work 73 = .ok (.aload_n 0, 1) := by decide +kernel
theorem dX9_work_74 : decode cX9_work 74 = .ok (.getfield 212, 3) := by decide +kernel
theorem dX9_work_77 : decode cX9_work 77 = .ok (.iastore, 1) := by decide +kernel
theorem dX9_work_78 : decode cX9_work 78 = .ok (.aload_n 0, 1) := by decide +kernel
theorem dX9_work_79 : decode cX9_work 79 = .ok (.getfield 42, 3) := by decide +kernel
theorem dX9_work_82 : decode cX9_work 82 = .ok (.iconst 3, 1) := by decide +kernel
theorem dX9_work_83 : decode cX9_work 83 = .ok (.aload_n 0, 1) := by decide +kernel
theorem dX9_work_84 : decode cX9_work 84 = .ok (.getfield 42, 3) := by decide +kernel
theorem dX9_work_87 : decode cX9_work 87 = .ok (.iconst 2, 1) := by decide +kernel
theorem dX9_work_88 : decode cX9_work 88 = .ok (.iaload, 1) := by decide +kernel
theorem dX9_work_89 : decode cX9_work 89 = .ok (.iastore, 1) := by decide +kernel
theorem dX9_work_90 : decode cX9_work 90 = .ok (.iconst 4, 1) := by decide +kernel
theorem dX9_work_91 : decode cX9_work 91 = .ok (.istore_n 1, 1) := by decide +kernel
theorem dX9_work_92 : decode cX9_work 92 = .ok (.iload_n 1, 1) := by decide +kernel
theorem dX9_work_93 : decode cX9_work 93 = .ok (.bipush 9, 2) := by decide +kernel
theorem dX9_work_95 : decode cX9_work 95 = .ok (.if_icmp .ge 16, 3) := by decide +kernel
theorem dX9_work_98 : decode cX9_work 98 = .ok (.aload_n 0, 1) := by decide +kernel
theorem dX9_work_99 : decode cX9_work 99 = .ok (.getfield 42, 3) := by decide +kernel
theorem dX9_work_102 : decode cX9_work 102 = .ok (.iload_n 1, 1) := by decide +kernel
theorem dX9_work_103 : decode cX9_work 103 = .ok (.iconst 0, 1) := by decide +kernel
theorem dX9_work_104 : decode cX9_work 104 = .ok (.iastore, 1) := by decide +kernel
theorem dX9_work_105 : decode cX9_work 105 = .ok (.iinc 1 1, 3) := by decide +kernel
theorem dX9_work_108 : decode cX9_work 108 = .ok (.goto (-16), 3) := by decide +kernel
theorem dX9_work_111 : decode cX9_work 111 = .ok (.iconst 0, 1) := by decide +kernel
theorem dX9_work_112 : decode cX9_work 112 = .ok (.istore_n 1, 1) := by decide +kernel
theorem dX9_work_113 : decode cX9_work 113 = .ok (.iload_n 1, 1) := by decide +kernel
theorem dX9_work_114 : decode cX9_work 114 = .ok (.iconst 3, 1) := by decide +kernel
theorem dX9_work_115 : decode cX9_work 115 = .ok (.aload_n 0, 1) := by decide +kernel
theorem dX9_work_116 : decode cX9_work 116 = .ok (.getfield 215, 3) := by decide +kernel
theorem dX9_work_119 : decode cX9_work 119 = .ok (.imul, 1) := by decide +kernel
theorem dX9_work_120 : decode cX9_work 120 = .ok (.if_icmp .ge 24, 3) := by decide +kernel
theorem dX9_work_123 : decode cX9_work 123 = .ok (.aload_n 0, 1) := by decide +kernel
theorem dX9_work_124 : decode cX9_work 124 = .ok (.getfield 42, 3) := by decide +kernel
theorem dX9_work_127 : decode cX9_work 127 = .ok (.bipush 26, 2) := by decide +kernel
theorem dX9_work_129 : decode cX9_work 129 = .ok (.iload_n 1, 1) := by decide +kernel
theorem dX9_work_130 : decode cX9_work 130 = .ok (.iadd, 1) := by decide +kernel
theorem dX9_work_131 : decode cX9_work 131 = .ok (.aload_n 0, 1) := by decide +kernel
theorem dX9_work_132 : decode cX9_work 132 = .ok (.getfield 26, 3) := by decide +kernel
theorem dX9_work_135 : decode cX9_work 135 = .ok (.iload_n 1, 1) := by decide +kernel
theorem dX9_work_136 : decode cX9_work 136 = .ok (.iaload, 1) := by decide +kernel
theorem dX9_work_137 : decode cX9_work 137 = .ok (.iastore, 1) := by decide +kernel
theorem dX9_work_138 : decode cX9_work 138 = .ok (.iinc 1 1, 3) := by decide +kernel
theorem dX9_work_141 : decode cX9_work 141 = .ok (.goto (-28), 3) := by decide +kernel
theorem dX9_work_144 : decode cX9_work 144 = .ok (.iconst 0, 1) := by decide +kernel
theorem dX9_work_145 : decode cX9_work 145 = .ok (.istore_n 1, 1) := by decide +kernel
theorem dX9_work_146 : decode cX9_work 146 = .ok (.iload_n 1, 1) := by decide +kernel
theorem dX9_work_147 : decode cX9_work 147 = .ok (.aload_n 0, 1) := by decide +kernel
theorem dX9_work_148 : decode cX9_work 148 = .ok (.getfield 218, 3) := by decide +kernel
theorem dX9_work_151 : decode cX9_work 151 = .ok (.if_icmp .ge 76, 3) := by decide +kernel
theorem dX9_work_154 : decode cX9_work 154 = .ok (.iconst 0, 1) := by decide +kernel
theorem dX9_work_155 : decode cX9_work 155 = .ok (.istore_n 2, 1) := by decide +kernel
theorem dX9_work_156 : decode cX9_work 156 = .ok (.iload_n 2, 1) := by decide +kernel
theorem dX9_work_157 : decode cX9_work 157 = .ok (.iconst 4, 1) := by decide +kernel
theorem dX9_work_158 : decode cX9_work 158 = .ok (.if_icmp .ge 33, 3) := by decide +kernel
theorem dX9_work_161 : decode cX9_work 161 = .ok (.aload_n 0, 1) := by decide +kernel
theorem dX9_work_162 : decode cX9_work 162 = .ok (.getfield 42, 3) := by decide +kernel
theorem dX9_work_165 : decode cX9_work 165 = .ok (.bipush 44, 2) := by decide +kernel
theorem dX9_work_167 : decode cX9_work 167 = .ok (.bipush 6, 2) := by decide +kernel
theorem dX9_work_169 : decode cX9_work 169 = .ok (.iload_n 1, 1) := by decide +kernel
theorem dX9_work_170 : decode cX9_work 170 = .ok (.imul, 1) := by decide +kernel
theorem dX9_work_171 : decode cX9_work 171 = .ok (.iadd, 1) := by decide +kernel
theorem dX9_work_172 : decode cX9_work 172 = .ok (.iload_n 2, 1) := by decide +kernel
theorem dX9_work_173 : decode cX9_work 173 = .ok (.iadd, 1) := by decide +kernel
theorem dX9_work_174 : decode cX9_work 174 = .ok (.aload_n 0, 1) := by decide +kernel
theorem dX9_work_175 : decode cX9_work 175 = .ok (.getfield 29, 3) := by decide +kernel
theorem dX9_work_178 : decode cX9_work 178 = .ok (.iconst 4, 1) := by decide +kernel
theorem dX9_work_179 : decode cX9_work 179 = .ok (.iload_n 1, 1) := by decide +kernel
theorem dX9_work_180 : decode cX9_work 180 = .ok (.imul, 1) := by decide +kernel
theorem dX9_work_181 : decode cX9_work 181 = .ok (.iload_n 2, 1) := by decide +kernel
theorem dX9_work_182 : decode cX9_work 182 = .ok (.iadd, 1) := by decide +kernel
theorem dX9_work_183 : decode cX9_work 183 = .ok (.iaload, 1) := by decide +kernel
theorem dX9_work_184 : decode cX9_work 184 = .ok (.iastore, 1) := by decide +kernel
theorem dX9_work_185 : decode cX9_work 185 = .ok (.iinc 2 1, 3) := by decide +kernel
theorem dX9_work_188 : decode cX9_work 188 = .ok (.goto (-32), 3) := by decide +kernel
theorem dX9_work_191 : decode cX9_work 191 = .ok (.aload_n 0, 1) := by decide +kernel
theorem dX9_work_192 : decode cX9_work 192 = .ok (.getfield 42, 3) := by decide +kernel
theorem dX9_work_195 : decode cX9_work 195 = .ok (.bipush 44, 2) := by decide +kernel
theorem dX9_work_197 : decode cX9_work 197 = .ok (.bipush 6, 2) := by decide +kernel
theorem dX9_work_199 : decode cX9_work 199 = .ok (.iload_n 1, 1) := by decide +kernel
theorem dX9_work_200 : decode cX9_work 200 = .ok (.imul, 1) := by decide +kernel
theorem dX9_work_201 : decode cX9_work 201 = .ok (.iadd, 1) := by decide +kernel
theorem dX9_work_202 : decode cX9_work 202 = .ok (.iconst 4, 1) := by decide +kernel
theorem dX9_work_203 : decode cX9_work 203 = .ok (.iadd, 1) := by decide +kernel
theorem dX9_work_204 : decode cX9_work 204 = .ok (.iconst 0, 1) := by decide +kernel
theorem dX9_work_205 : decode cX9_work 205 = .ok (.iastore, 1) := by decide +kernel
theorem dX9_work_206 : decode cX9_work 206 = .ok (.aload_n 0, 1) := by decide +kernel
theorem dX9_work_207 : decode cX9_work 207 = .ok (.getfield 42, 3) := by decide +kernel
theorem dX9_work_210 : decode cX9_work 210 = .ok (.bipush 44, 2) := by decide +kernel
theorem dX9_work_212 : decode cX9_work 212 = .ok (.bipush 6, 2) := by decide +kernel
theorem dX9_work_214 : decode cX9_work 214 = .ok (.iload_n 1, 1) := by decide +kernel
theorem dX9_work_215 : decode cX9_work 215 = .ok (.imul, 1) := by decide +kernel
theorem dX9_work_216 : decode cX9_work 216 = .ok (.iadd, 1) := by decide +kernel
theorem dX9_work_217 : decode cX9_work 217 = .ok (.iconst 5, 1) := by decide +kernel
theorem dX9_work_218 : decode cX9_work 218 = .ok (.iadd, 1) := by decide +kernel
theorem dX9_work_219 : decode cX9_work 219 = .ok (.iconst 0, 1) := by decide +kernel
theorem dX9_work_220 : decode cX9_work 220 = .ok (.iastore, 1) := by decide +kernel
theorem dX9_work_221 : decode cX9_work 221 = .ok (.iinc 1 1, 3) := by decide +kernel
theorem dX9_work_224 : decode cX9_work 224 = .ok (.goto (-78), 3) := by decide +kernel
theorem dX9_work_227 : decode cX9_work 227 = .ok (.aload_n 0, 1) := by decide +kernel
theorem dX9_work_228 : decode cX9_work 228 = .ok (.getfield 218, 3) := by decide +kernel
theorem dX9_work_231 : decode cX9_work 231 = .ok (.ireturn, 1) := by decide +kernel
theorem dX9_worth_0 : decode cX9_worth 0 = .ok (.aload_n 0, 1) := by decide +kernel
theorem dX9_worth_1 : decode cX9_worth 1 = .ok (.invokevirtual 301, 3) := by decide +kernel
theorem dX9_worth_4 : decode cX9_worth 4 = .ok (.ifCond .eq 13, 3) := by decide +kernel
theorem dX9_worth_7 : decode cX9_worth 7 = .ok (.iload_n 1, 1) := by decide +kernel
theorem dX9_worth_8 : decode cX9_worth 8 = .ok (.i2l, 1) := by decide +kernel
theorem dX9_worth_9 : decode cX9_worth 9 = .ok (.lconst 0, 1) := by decide +kernel
theorem dX9_worth_10 : decode cX9_worth 10 = .ok (.lconst 1, 1) := by decide +kernel
theorem dX9_worth_11 : decode cX9_worth 11 = .ok (.invokestatic 118, 3) := by decide +kernel
theorem dX9_worth_14 : decode cX9_worth 14 = .ok (.ifCond .ne 7, 3) := by decide +kernel
theorem dX9_worth_17 : decode cX9_worth 17 = .ok (.ldc2_w 362, 3) := by decide +kernel
theorem dX9_worth_20 : decode cX9_worth 20 = .ok (.lreturn, 1) := by decide +kernel
theorem dX9_worth_21 : decode cX9_worth 21 = .ok (.aload_n 0, 1) := by decide +kernel
theorem dX9_worth_22 : decode cX9_worth 22 = .ok (.aload_n 0, 1) := by decide +kernel
theorem dX9_worth_23 : decode cX9_worth 23 = .ok (.iconst (-1), 1) := by decide +kernel
theorem dX9_worth_24 : decode cX9_worth 24 = .ok (.invokevirtual 364, 3) := by decide +kernel
theorem dX9_worth_27 : decode cX9_worth 27 = .ok (.aload_n 0, 1) := by decide +kernel
theorem dX9_worth_28 : decode cX9_worth 28 = .ok (.aload_n 0, 1) := by decide +kernel
theorem dX9_worth_29 : decode cX9_worth 29 = .ok (.getfield 42, 3) := by decide +kernel
theorem dX9_worth_32 : decode cX9_worth 32 = .ok (.bipush 8, 2) := by decide +kernel
theorem dX9_worth_34 : decode cX9_worth 34 = .ok (.iaload, 1) := by decide +kernel
theorem dX9_worth_35 : decode cX9_worth 35 = .ok (.invokevirtual 367, 3) := by decide +kernel
theorem dX9_worth_38 : decode cX9_worth 38 = .ok (.iload_n 1, 1) := by decide +kernel
theorem dX9_worth_39 : decode cX9_worth 39 = .ok (.invokevirtual 370, 3) := by decide +kernel
theorem dX9_worth_42 : decode cX9_worth 42 = .ok (.lreturn, 1) := by decide +kernel
theorem dX9_would_0 : decode cX9_would 0 = .ok (.aload_n 0, 1) := by decide +kernel
theorem dX9_would_1 : decode cX9_would 1 = .ok (.invokevirtual 301, 3) := by decide +kernel
theorem dX9_would_4 : decode cX9_would 4 = .ok (.ifCond .eq 23, 3) := by decide +kernel
theorem dX9_would_7 : decode cX9_would 7 = .ok (.aload_n 0, 1) := by decide +kernel
theorem dX9_would_8 : decode cX9_would 8 = .ok (.iload_n 1, 1) := by decide +kernel
