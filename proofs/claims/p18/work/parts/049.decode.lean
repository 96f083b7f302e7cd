theorem dX9_goesThrough_108 : decode cX9_goesThrough 108 = .ok (.iinc 2 1, 3) := by decide +kernel
theorem dX9_goesThrough_111 : decode cX9_goesThrough 111 = .ok (.aload_n 0, 1) := by decide +kernel
theorem dX9_goesThrough_112 : decode cX9_goesThrough 112 = .ok (.iload_n 2, 1) := by decide +kernel
theorem dX9_goesThrough_113 : decode cX9_goesThrough 113 = .ok (.iload_n 1, 1) := by decide +kernel
theorem dX9_goesThrough_114 : decode cX9_goesThrough 114 = .ok (.invokevirtual 378, 3) := by decide +kernel
theorem dX9_goesThrough_117 : decode cX9_goesThrough 117 = .ok (.iconst 1, 1) := by decide +kernel
theorem dX9_goesThrough_118 : decode cX9_goesThrough 118 = .ok (.istore_n 3, 1) := by decide +kernel
theorem dX9_goesThrough_119 : decode cX9_goesThrough 119 = .ok (.goto (-109), 3) := by decide +kernel
theorem dX9_goesThrough_122 : decode cX9_goesThrough 122 = .ok (.return_, 1) := by decide +kernel
theorem dX9_hidden_0 : decode cX9_hidden 0 = .ok (.iconst 0, 1) := by decide +kernel
theorem dX9_hidden_1 : decode cX9_hidden 1 = .ok (.istore_n 1, 1) := by decide +kernel
theorem dX9_hidden_2 : decode cX9_hidden 2 = .ok (.iconst 0, 1) := by decide +kernel
theorem dX9_hidden_3 : decode cX9_hidden 3 = .ok (.istore_n 2, 1) := by decide +kernel
theorem dX9_hidden_4 : decode cX9_hidden 4 = .ok (.iload_n 2, 1) := by decide +kernel
theorem dX9_hidden_5 : decode cX9_hidden 5 = .ok (.aload_n 0, 1) := by decide +kernel
theorem dX9_hidden_6 : decode cX9_hidden 6 = .ok (.getfield 42, 3) := by decide +kernel
theorem dX9_hidden_9 : decode cX9_hidden 9 = .ok (.iconst 0, 1) := by decide +kernel
theorem dX9_hidden_10 : decode cX9_hidden 10 = .ok (.iaload, 1) := by decide +kernel
theorem dX9_hidden_11 : decode cX9_hidden 11 = .ok (.if_icmp .ge 31, 3) := by decide +kernel
theorem dX9_hidden_14 : decode cX9_hidden 14 = .ok (.iload_n 1, 1) := by decide +kernel
theorem dX9_hidden_15 : decode cX9_hidden 15 = .ok (.aload_n 0, 1) := by decide +kernel
theorem dX9_hidden_16 : decode cX9_hidden 16 = .ok (.iload_n 2, 1) := by decide +kernel
theorem dX9_hidden_17 : decode cX9_hidden 17 = .ok (.iconst 4, 1) := by decide +kernel
theorem dX9_hidden_18 : decode cX9_hidden 18 = .ok (.invokevirtual 268, 3) := by decide +kernel
theorem dX9_hidden_21 : decode cX9_hidden 21 = .ok (.ifCond .ne 12, 3) := by decide +kernel
theorem dX9_hidden_24 : decode cX9_hidden 24 = .ok (.aload_n 0, 1) := by decide +kernel
theorem dX9_hidden_25 : decode cX9_hidden 25 = .ok (.iload_n 2, 1) := by decide +kernel
theorem dX9_hidden_26 : decode cX9_hidden 26 = .ok (.iconst 1, 1) := by decide +kernel
theorem dX9_hidden_27 : decode cX9_hidden 27 = .ok (.invokevirtual 275, 3) := by decide +kernel
theorem dX9_hidden_30 : decode cX9_hidden 30 = .ok (.goto 4, 3) := by decide +kernel
theorem dX9_hidden_33 : decode cX9_hidden 33 = .ok (.iconst 0, 1) := by decide +kernel
theorem dX9_hidden_34 : decode cX9_hidden 34 = .ok (.iadd, 1) := by decide +kernel
theorem dX9_hidden_35 : decode cX9_hidden 35 = .ok (.istore_n 1, 1) := by decide +kernel
theorem dX9_hidden_36 : decode cX9_hidden 36 = .ok (.iinc 2 1, 3) := by decide +kernel
theorem dX9_hidden_39 : decode cX9_hidden 39 = .ok (.goto (-35), 3) := by decide +kernel
theorem dX9_hidden_42 : decode cX9_hidden 42 = .ok (.iload_n 1, 1) := by decide +kernel
theorem dX9_hidden_43 : decode cX9_hidden 43 = .ok (.ireturn, 1) := by decide +kernel
theorem dX9_hundreds_0 : decode cX9_hundreds 0 = .ok (.lconst 1, 1) := by decide +kernel
theorem dX9_hundreds_1 : decode cX9_hundreds 1 = .ok (.lstore_n 2, 1) := by decide +kernel
theorem dX9_hundreds_2 : decode cX9_hundreds 2 = .ok (.iconst 0, 1) := by decide +kernel
theorem dX9_hundreds_3 : decode cX9_hundreds 3 = .ok (.istore 4, 2) := by decide +kernel
theorem dX9_hundreds_5 : decode cX9_hundreds 5 = .ok (.iload 4, 2) := by decide +kernel
theorem dX9_hundreds_7 : decode cX9_hundreds 7 = .ok (.iload_n 1, 1) := by decide +kernel
theorem dX9_hundreds_8 : decode cX9_hundreds 8 = .ok (.if_icmp .ge 15, 3) := by decide +kernel
theorem dX9_hundreds_11 : decode cX9_hundreds 11 = .ok (.lload_n 2, 1) := by decide +kernel
theorem dX9_hundreds_12 : decode cX9_hundreds 12 = .ok (.ldc2_w 352, 3) := by decide +kernel
theorem dX9_hundreds_15 : decode cX9_hundreds 15 = .ok (.lmul, 1) := by decide +kernel
theorem dX9_hundreds_16 : decode cX9_hundreds 16 = .ok (.lstore_n 2, 1) := by decide +kernel
theorem dX9_hundreds_17 : decode cX9_hundreds 17 = .ok (.iinc 4 1, 3) := by decide +kernel
theorem dX9_hundreds_20 : decode cX9_hundreds 20 = .ok (.goto (-15), 3) := by decide +kernel
theorem dX9_hundreds_23 : decode cX9_hundreds 23 = .ok (.lload_n 2, 1) := by decide +kernel
theorem dX9_hundreds_24 : decode cX9_hundreds 24 = .ok (.lreturn, 1) := by decide +kernel
theorem dX9_image_0 : decode cX9_image 0 = .ok (.iload_n 1, 1) := by decide +kernel
theorem dX9_image_1 : decode cX9_image 1 = .ok (.i2l, 1) := by decide +kernel
theorem dX9_image_2 : decode cX9_image 2 = .ok (.lconst 0, 1) := by decide +kernel
theorem dX9_image_3 : decode cX9_image 3 = .ok (.ldc2_w 414, 3) := by decide +kernel
theorem dX9_image_6 : decode cX9_image 6 = .ok (.invokestatic 118, 3) := by decide +kernel
theorem dX9_image_9 : decode cX9_image 9 = .ok (.ifCond .ne 5, 3) := by decide +kernel
theorem dX9_image_12 : decode cX9_image 12 = .ok (.iconst (-1), 1) := by decide +kernel
theorem dX9_image_13 : decode cX9_image 13 = .ok (.ireturn, 1) := by decide +kernel
theorem dX9_image_14 : decode cX9_image 14 = .ok (.aload_n 0, 1) := by decide +kernel
theorem dX9_image_15 : decode cX9_image 15 = .ok (.getfield 76, 3) := by decide +kernel
theorem dX9_image_18 : decode cX9_image 18 = .ok (.iload_n 1, 1) := by decide +kernel
theorem dX9_image_19 : decode cX9_image 19 = .ok (.iconst 1, 1) := by decide +kernel
theorem dX9_image_20 : decode cX9_image 20 = .ok (.bastore, 1) := by decide +kernel
theorem dX9_image_21 : decode cX9_image 21 = .ok (.iconst 0, 1) := by decide +kernel
theorem dX9_image_22 : decode cX9_image 22 = .ok (.istore_n 2, 1) := by decide +kernel
theorem dX9_image_23 : decode cX9_image 23 = .ok (.iload_n 2, 1) := by decide +kernel
theorem dX9_image_24 : decode cX9_image 24 = .ok (.bipush 104, 2) := by decide +kernel
theorem dX9_image_26 : decode cX9_image 26 = .ok (.if_icmp .ge 26, 3) := by decide +kernel
theorem dX9_image_29 : decode cX9_image 29 = .ok (.aload_n 0, 1) := by decide +kernel
theorem dX9_image_30 : decode cX9_image 30 = .ok (.getfield 73, 3) := by decide +kernel
theorem dX9_image_33 : decode cX9_image 33 = .ok (.bipush 104, 2) := by decide +kernel
theorem dX9_image_35 : decode cX9_image 35 = .ok (.iload_n 1, 1) := by decide +kernel
theorem dX9_image_36 : decode cX9_image 36 = .ok (.imul, 1) := by decide +kernel
theorem dX9_image_37 : decode cX9_image 37 = .ok (.iload_n 2, 1) := by decide +kernel
theorem dX9_image_38 : decode cX9_image 38 = .ok (.iadd, 1) := by decide +kernel
theorem dX9_image_39 : decode cX9_image 39 = .ok (.aload_n 0, 1) := by decide +kernel
theorem dX9_image_40 : decode cX9_image 40 = .ok (.getfield 42, 3) := by decide +kernel
theorem dX9_image_43 : decode cX9_image 43 = .ok (.iload_n 2, 1) := by decide +kernel
theorem dX9_image_44 : decode cX9_image 44 = .ok (.iaload, 1) := by decide +kernel
theorem dX9_image_45 : decode cX9_image 45 = .ok (.iastore, 1) := by decide +kernel
theorem dX9_image_46 : decode cX9_image 46 = .ok (.iinc 2 1, 3) := by decide +kernel
theorem dX9_image_49 : decode cX9_image 49 = .ok (.goto (-26), 3) := by decide +kernel
theorem dX9_image_52 : decode cX9_image 52 = .ok (.aload_n 0, 1) := by decide +kernel
theorem dX9_image_53 : decode cX9_image 53 = .ok (.getfield 42, 3) := by decide +kernel
theorem dX9_image_56 : decode cX9_image 56 = .ok (.bipush 7, 2) := by decide +kernel
theorem dX9_image_58 : decode cX9_image 58 = .ok (.iaload, 1) := by decide +kernel
theorem dX9_image_59 : decode cX9_image 59 = .ok (.ireturn, 1) := by decide +kernel
theorem dX9_in_0 : decode cX9_in 0 = .ok (.lload_n 0, 1) := by decide +kernel
theorem dX9_in_1 : decode cX9_in 1 = .ok (.lload_n 2, 1) := by decide +kernel
theorem dX9_in_2 : decode cX9_in 2 = .ok (.lcmp, 1) := by decide +kernel
theorem dX9_in_3 : decode cX9_in 3 = .ok (.ifCond .lt 14, 3) := by decide +kernel
theorem dX9_in_6 : decode cX9_in 6 = .ok (.lload_n 0, 1) := by decide +kernel
theorem dX9_in_7 : decode cX9_in 7 = .ok (.lload 4, 2) := by decide +kernel
theorem dX9_in_9 : decode cX9_in 9 = .ok (.lcmp, 1) := by decide +kernel
theorem dX9_in_10 : decode cX9_in 10 = .ok (.ifCond .gt 7, 3) := by decide +kernel
theorem dX9_in_13 : decode cX9_in 13 = .ok (.iconst 1, 1) := by decide +kernel
theorem dX9_in_14 : decode cX9_in 14 = .ok (.goto 4, 3) := by decide +kernel
theorem dX9_in_17 : decode cX9_in 17 = .ok (.iconst 0, 1) := by decide +kernel
theorem dX9_in_18 : decode cX9_in 18 = .ok (.ireturn, 1) := by decide +kernel
theorem dX9_isDigit_0 : decode cX9_isDigit 0 = .ok (.iload_n 1, 1) := by decide +kernel
theorem dX9_isDigit_1 : decode cX9_isDigit 1 = .ok (.aload_n 0, 1) := by decide +kernel
theorem dX9_isDigit_2 : decode cX9_isDigit 2 = .ok (.getfield 79, 3) := by decide +kernel
theorem dX9_isDigit_5 : decode cX9_isDigit 5 = .ok (.if_icmp .ge 29, 3) := by decide +kernel
theorem dX9_isDigit_8 : decode cX9_isDigit 8 = .ok (.aload_n 0, 1) := by decide +kernel
theorem dX9_isDigit_9 : decode cX9_isDigit 9 = .ok (.getfield 7, 3) := by decide +kernel
theorem dX9_isDigit_12 : decode cX9_isDigit 12 = .ok (.iload_n 1, 1) := by decide +kernel
theorem dX9_isDigit_13 : decode cX9_isDigit 13 = .ok (.baload, 1) := by decide +kernel
theorem dX9_isDigit_14 : decode cX9_isDigit 14 = .ok (.bipush 48, 2) := by decide +kernel
theorem dX9_isDigit_16 : decode cX9_isDigit 16 = .ok (.if_icmp .lt 18, 3) := by decide +kernel
theorem dX9_isDigit_19 : decode cX9_isDigit 19 = .ok (.aload_n 0, 1) := by decide +kernel
theorem dX9_isDigit_20 : decode cX9_isDigit 20 = .ok (.getfield 7, 3) := by decide +kernel
theorem dX9_isDigit_23 : decode cX9_isDigit 23 = .ok (.iload_n 1, 1) := by decide +kernel
theorem dX9_isDigit_24 : decode cX9_isDigit 24 = .ok (.baload, 1) := by decide +kernel
theorem dX9_isDigit_25 : decode cX9_isDigit 25 = .ok (.bipush 57, 2) := by decide +kernel
theorem dX9_isDigit_27 : decode cX9_isDigit 27 = .ok (.if_icmp .gt 7, 3) := by decide +kernel
theorem dX9_isDigit_30 : decode cX9_isDigit 30 = .ok (.iconst 1, 1) := by decide +kernel
theorem dX9_isDigit_31 : decode cX9_isDigit 31 = .ok (.goto 4, 3) := by decide +kernel
theorem dX9_isDigit_34 : decode cX9_isDigit 34 = .ok (.iconst 0, 1) := by decide +kernel
theorem dX9_isDigit_35 : decode cX9_isDigit 35 = .ok (.ireturn, 1) := by decide +kernel
theorem dX9_isDoingHere_0 : decode cX9_isDoingHere 0 = .ok (.aload_n 0, 1) := by decide +kernel
theorem dX9_isDoingHere_1 : decode cX9_isDoingHere 1 = .ok (.invokevirtual 105, 3) := by decide +kernel
theorem dX9_isDoingHere_4 : decode cX9_isDoingHere 4 = .ok (.bipush 60, 2) := by decide +kernel
theorem dX9_isDoingHere_6 : decode cX9_isDoingHere 6 = .ok (.aload_n 0, 1) := by decide +kernel
theorem dX9_isDoingHere_7 : decode cX9_isDoingHere 7 = .ok (.getfield 140, 3) := by decide +kernel
theorem dX9_isDoingHere_10 : decode cX9_isDoingHere 10 = .ok (.imul, 1) := by decide +kernel
theorem dX9_isDoingHere_11 : decode cX9_isDoingHere 11 = .ok (.iconst 5, 1) := by decide +kernel
theorem dX9_isDoingHere_12 : decode cX9_isDoingHere 12 = .ok (.aload_n 0, 1) := by decide +kernel
theorem dX9_isDoingHere_13 : decode cX9_isDoingHere 13 = .ok (.getfield 23, 3) := by decide +kernel
theorem dX9_isDoingHere_16 : decode cX9_isDoingHere 16 = .ok (.aload_n 0, 1) := by decide +kernel
theorem dX9_isDoingHere_17 : decode cX9_isDoingHere 17 = .ok (.getfield 140, 3) := by decide +kernel
theorem dX9_isDoingHere_20 : decode cX9_isDoingHere 20 = .ok (.iaload, 1) := by decide +kernel
theorem dX9_isDoingHere_21 : decode cX9_isDoingHere 21 = .ok (.imul, 1) := by decide +kernel
theorem dX9_isDoingHere_22 : decode cX9_isDoingHere 22 = .ok (.iadd, 1) := by decide +kernel
theorem dX9_isDoingHere_23 : decode cX9_isDoingHere 23 = .ok (.istore_n 2, 1) := by decide +kernel
theorem dX9_isDoingHere_24 : decode cX9_isDoingHere 24 = .ok (.aload_n 0, 1) := by decide +kernel
theorem dX9_isDoingHere_25 : decode cX9_isDoingHere 25 = .ok (.getfield 20, 3) := by decide +kernel
theorem dX9_isDoingHere_28 : decode cX9_isDoingHere 28 = .ok (.iload_n 2, 1) := by decide +kernel
theorem dX9_isDoingHere_29 : decode cX9_isDoingHere 29 = .ok (.iload_n 1, 1) := by decide +kernel
theorem dX9_isDoingHere_30 : decode cX9_isDoingHere 30 = .ok (.iastore, 1) := by decide +kernel
theorem dX9_isDoingHere_31 : decode cX9_isDoingHere 31 = .ok (.aload_n 0, 1) := by decide +kernel
theorem dX9_isDoingHere_32 : decode cX9_isDoingHere 32 = .ok (.getfield 20, 3) := by decide +kernel
theorem dX9_isDoingHere_35 : decode cX9_isDoingHere 35 = .ok (.iload_n 2, 1) := by decide +kernel
theorem dX9_isDoingHere_36 : decode cX9_isDoingHere 36 = .ok (.iconst 3, 1) := by decide +kernel
theorem dX9_isDoingHere_37 : decode cX9_isDoingHere 37 = .ok (.iadd, 1) := by decide +kernel
theorem dX9_isDoingHere_38 : decode cX9_isDoingHere 38 = .ok (.iconst (-1), 1) := by decide +kernel
theorem dX9_isDoingHere_39 : decode cX9_isDoingHere 39 = .ok (.iastore, 1) := by decide +kernel
theorem dX9_isDoingHere_40 : decode cX9_isDoingHere 40 = .ok (.iload_n 1, 1) := by decide +kernel
theorem dX9_isDoingHere_41 : decode cX9_isDoingHere 41 = .ok (.ifCond .ne 46, 3) := by decide +kernel
theorem dX9_isDoingHere_44 : decode cX9_isDoingHere 44 = .ok (.aload_n 0, 1) := by decide +kernel
theorem dX9_isDoingHere_45 : decode cX9_isDoingHere 45 = .ok (.getfield 20, 3) := by decide +kernel
theorem dX9_isDoingHere_48 : decode cX9_isDoingHere 48 = .ok (.iload_n 2, 1) := by decide +kernel
theorem dX9_isDoingHere_49 : decode cX9_isDoingHere 49 = .ok (.iconst 1, 1) := by decide +kernel
theorem dX9_isDoingHere_50 : decode cX9_isDoingHere 50 = .ok (.iadd, 1) := by decide +kernel
theorem dX9_isDoingHere_51 : decode cX9_isDoingHere 51 = .ok (.aload_n 0, 1) := by decide +kernel
theorem dX9_isDoingHere_52 : decode cX9_isDoingHere 52 = .ok (.getfield 17, 3) := by decide +kernel
theorem dX9_isDoingHere_55 : decode cX9_isDoingHere 55 = .ok (.aload_n 0, 1) := by decide +kernel
theorem dX9_isDoingHere_56 : decode cX9_isDoingHere 56 = .ok (.getfield 140, 3) := by decide +kernel
theorem dX9_isDoingHere_59 : decode cX9_isDoingHere 59 = .ok (.iaload, 1) := by decide +kernel
theorem dX9_isDoingHere_60 : decode cX9_isDoingHere 60 = .ok (.iastore, 1) := by decide +kernel
theorem dX9_isDoingHere_61 : decode cX9_isDoingHere 61 = .ok (.aload_n 0, 1) := by decide +kernel
theorem dX9_isDoingHere_62 : decode cX9_isDoingHere 62 = .ok (.invokevirtual 177, 3) := by decide +kernel
theorem dX9_isDoingHere_65 : decode cX9_isDoingHere 65 = .ok (.ifCond .ne 5, 3) := by decide +kernel
theorem dX9_isDoingHere_68 : decode cX9_isDoingHere 68 = .ok (.iconst 0, 1) := by decide +kernel
theorem dX9_isDoingHere_69 : decode cX9_isDoingHere 69 = .ok (.ireturn, 1) := by decide +kernel
theorem dX9_isDoingHere_70 : decode cX9_isDoingHere 70 = .ok (.aload_n 0, 1) := by decide +kernel
theorem dX9_isDoingHere_71 : decode cX9_isDoingHere 71 = .ok (.getfield 20, 3) := by decide +kernel
theorem dX9_isDoingHere_74 : decode cX9_isDoingHere 74 = .ok (.iload_n 2, 1) := by decide +kernel
theorem dX9_isDoingHere_75 : decode cX9_isDoingHere 75 = .ok (.iconst 2, 1) := by decide +kernel
theorem dX9_isDoingHere_76 : decode cX9_isDoingHere 76 = .ok (.iadd, 1) := by decide +kernel
theorem dX9_isDoingHere_77 : decode cX9_isDoingHere 77 = .ok (.aload_n 0, 1) := by decide +kernel
theorem dX9_isDoingHere_78 : decode cX9_isDoingHere 78 = .ok (.getfield 17, 3) := by decide +kernel
theorem dX9_isDoingHere_81 : decode cX9_isDoingHere 81 = .ok (.aload_n 0, 1) := by decide +kernel
theorem dX9_isDoingHere_82 : decode cX9_isDoingHere 82 = .ok (.getfield 140, 3) := by decide +kernel
theorem dX9_isDoingHere_85 : decode cX9_isDoingHere 85 = .ok (.iaload, 1) := by decide +kernel
theorem dX9_isDoingHere_86 : decode cX9_isDoingHere 86 = .ok (.iastore, 1) := by decide +kernel
theorem dX9_isDoingHere_87 : decode cX9_isDoingHere 87 = .ok (.iload_n 1, 1) := by decide +kernel
theorem dX9_isDoingHere_88 : decode cX9_isDoingHere 88 = .ok (.iconst 1, 1) := by decide +kernel
theorem dX9_isDoingHere_89 : decode cX9_isDoingHere 89 = .ok (.if_icmp .eq 13, 3) := by decide +kernel
theorem dX9_isDoingHere_92 : decode cX9_isDoingHere 92 = .ok (.aload_n 0, 1) := by decide +kernel
theorem dX9_isDoingHere_93 : decode cX9_isDoingHere 93 = .ok (.ldc2_w 204, 3) := by decide +kernel
theorem dX9_isDoingHere_96 : decode cX9_isDoingHere 96 = .ok (.invokevirtual 206, 3) := by decide +kernel
theorem dX9_isDoingHere_99 : decode cX9_isDoingHere 99 = .ok (.ifCond .eq 29, 3) := by decide +kernel
theorem dX9_isDoingHere_102 : decode cX9_isDoingHere 102 = .ok (.aload_n 0, 1) := by decide +kernel
theorem dX9_isDoingHere_103 : decode cX9_isDoingHere 103 = .ok (.getfield 20, 3) := by decide +kernel
theorem dX9_isDoingHere_106 : decode cX9_isDoingHere 106 = .ok (.iload_n 2, 1) := by decide +kernel
theorem dX9_isDoingHere_107 : decode cX9_isDoingHere 107 = .ok (.iconst 3, 1) := by decide +kernel
theorem dX9_isDoingHere_108 : decode cX9_isDoingHere 108 = .ok (.iadd, 1) := by decide +kernel
theorem dX9_isDoingHere_109 : decode cX9_isDoingHere 109 = .ok (.aload_n 0, 1) := by decide +kernel
theorem dX9_isDoingHere_110 : decode cX9_isDoingHere 110 = .ok (.getfield 17, 3) := by decide +kernel
theorem dX9_isDoingHere_113 : decode cX9_isDoingHere 113 = .ok (.aload_n 0, 1) := by decide +kernel
theorem dX9_isDoingHere_114 : decode cX9_isDoingHere 114 = .ok (.getfield 140, 3) := by decide +kernel
theorem dX9_isDoingHere_117 : decode cX9_isDoingHere 117 = .ok (.iaload, 1) := by decide +kernel
theorem dX9_isDoingHere_118 : decode cX9_isDoingHere 118 = .ok (.iastore, 1) := by decide +kernel
theorem dX9_isDoingHere_119 : decode cX9_isDoingHere 119 = .ok (.aload_n 0, 1) := by decide +kernel
theorem dX9_isDoingHere_120 : decode cX9_isDoingHere 120 = .ok (.invokevirtual 209, 3) := by decide +kernel
theorem dX9_isDoingHere_123 : decode cX9_isDoingHere 123 = .ok (.ifCond .ne 5, 3) := by decide +kernel
theorem dX9_isDoingHere_126 : decode cX9_isDoingHere 126 = .ok (.iconst 0, 1) := by decide +kernel
theorem dX9_isDoingHere_127 : decode cX9_isDoingHere 127 = .ok (.ireturn, 1) := by decide +kernel
theorem dX9_isDoingHere_128 : decode cX9_isDoingHere 128 = .ok (.aload_n 0, 1) := by decide +kernel
theorem dX9_isDoingHere_129 : decode cX9_isDoingHere 129 = .ok (.getfield 20, 3) := by decide +kernel
theorem dX9_isDoingHere_132 : decode cX9_isDoingHere 132 = .ok (.iload_n 2, 1) := by decide +kernel
theorem dX9_isDoingHere_133 : decode cX9_isDoingHere 133 = .ok (.iconst 4, 1) := by decide +kernel
theorem dX9_isDoingHere_134 : decode cX9_isDoingHere 134 = .ok (.iadd, 1) := by decide +kernel
theorem dX9_isDoingHere_135 : decode cX9_isDoingHere 135 = .ok (.aload_n 0, 1) := by decide +kernel
theorem dX9_isDoingHere_136 : decode cX9_isDoingHere 136 = .ok (.getfield 17, 3) := by decide +kernel
theorem dX9_isDoingHere_139 : decode cX9_isDoingHere 139 = .ok (.aload_n 0, 1) := by decide +kernel
theorem dX9_isDoingHere_140 : decode cX9_isDoingHere 140 = .ok (.getfield 140, 3) := by decide +kernel
theorem dX9_isDoingHere_143 : decode cX9_isDoingHere 143 = .ok (.iaload, 1) := by decide +kernel
theorem dX9_isDoingHere_144 : decode cX9_isDoingHere 144 = .ok (.iastore, 1) := by decide +kernel
theorem dX9_isDoingHere_145 : decode cX9_isDoingHere 145 = .ok (.aload_n 0, 1) := by decide +kernel
theorem dX9_isDoingHere_146 : decode cX9_isDoingHere 146 = .ok (.getfield 23, 3) := by decide +kernel
theorem dX9_isDoingHere_149 : decode cX9_isDoingHere 149 = .ok (.aload_n 0, 1) := by decide +kernel
theorem dX9_isDoingHere_150 : decode cX9_isDoingHere 150 = .ok (.getfield 140, 3) := by decide +kernel
theorem dX9_isDoingHere_153 : decode cX9_isDoingHere 153 = .ok (.dup2, 1) := by decide +kernel
theorem dX9_isDoingHere_154 : decode cX9_isDoingHere 154 = .ok (.iaload, 1) := by decide +kernel
theorem dX9_isDoingHere_155 : decode cX9_isDoingHere 155 = .ok (.iconst 1, 1) := by decide +kernel
theorem dX9_isDoingHere_156 : decode cX9_isDoingHere 156 = .ok (.iadd, 1) := by decide +kernel
theorem dX9_isDoingHere_157 : decode cX9_isDoingHere 157 = .ok (.iastore, 1) := by decide +kernel
theorem dX9_isDoingHere_158 : decode cX9_isDoingHere 158 = .ok (.iconst 1, 1) := by decide +kernel
theorem dX9_isDoingHere_159 : decode cX9_isDoingHere 159 = .ok (.ireturn, 1) := by decide +kernel
theorem dX9_isFault_0 : decode cX9_isFault 0 = .ok (.iload_n 1, 1) := by decide +kernel
theorem dX9_isFault_1 : decode cX9_isFault 1 = .ok (.ifCond .lt 17, 3) := by decide +kernel
theorem dX9_isFault_4 : decode cX9_isFault 4 = .ok (.iload_n 1, 1) := by decide +kernel
theorem dX9_isFault_5 : decode cX9_isFault 5 = .ok (.aload_n 0, 1) := by decide +kernel
theorem dX9_isFault_6 : decode cX9_isFault 6 = .ok (.getfield 42, 3) := by decide +kernel
theorem dX9_isFault_9 : decode cX9_isFault 9 = .ok (.iconst 0, 1) := by decide +kernel
theorem dX9_isFault_10 : decode cX9_isFault 10 = .ok (.iaload, 1) := by decide +kernel
theorem dX9_isFault_11 : decode cX9_isFault 11 = .ok (.if_icmp .ge 7, 3) := by decide +kernel
theorem dX9_isFault_14 : decode cX9_isFault 14 = .ok (.iconst 1, 1) := by decide +kernel
theorem dX9_isFault_15 : decode cX9_isFault 15 = .ok (.goto 4, 3) := by decide +kernel
theorem dX9_isFault_18 : decode cX9_isFault 18 = .ok (.iconst 0, 1) := by decide +kernel
theorem dX9_isFault_19 : decode cX9_isFault 19 = .ok (.ireturn, 1) := by decide +kernel
theorem dX9_isFaultHere_0 : decode cX9_isFaultHere 0 = .ok (.aload_n 0, 1) := by decide +kernel
theorem dX9_isFaultHere_1 : decode cX9_isFaultHere 1 = .ok (.getfield 218, 3) := by decide +kernel
theorem dX9_isFaultHere_4 : decode cX9_isFaultHere 4 = .ok (.bipush 10, 2) := by decide +kernel
theorem dX9_isFaultHere_6 : decode cX9_isFaultHere 6 = .ok (.if_icmp .ne 10, 3) := by decide +kernel
theorem dX9_isFaultHere_9 : decode cX9_isFaultHere 9 = .ok (.aload_n 0, 1) := by decide +kernel
theorem dX9_isFaultHere_10 : decode cX9_isFaultHere 10 = .ok (.iconst 4, 1) := by decide +kernel
theorem dX9_isFaultHere_11 : decode cX9_isFaultHere 11 = .ok (.iload_n 1, 1) := by decide +kernel
theorem dX9_isFaultHere_12 : decode cX9_isFaultHere 12 = .ok (.invokevirtual 111, 3) := by decide +kernel
theorem dX9_isFaultHere_15 : decode cX9_isFaultHere 15 = .ok (.ireturn, 1) := by decide +kernel
theorem dX9_isFaultHere_16 : decode cX9_isFaultHere 16 = .ok (.aload_n 0, 1) := by decide +kernel
theorem dX9_isFaultHere_17 : decode cX9_isFaultHere 17 = .ok (.invokevirtual 105, 3) := by decide +kernel
theorem dX9_isFaultHere_20 : decode cX9_isFaultHere 20 = .ok (.iconst 4, 1) := by decide +kernel
theorem dX9_isFaultHere_21 : decode cX9_isFaultHere 21 = .ok (.aload_n 0, 1) := by decide +kernel
theorem dX9_isFaultHere_22 : decode cX9_isFaultHere 22 = .ok (.getfield 218, 3) := by decide +kernel
theorem dX9_isFaultHere_25 : decode cX9_isFaultHere 25 = .ok (.imul, 1) := by decide +kernel
theorem dX9_isFaultHere_26 : decode cX9_isFaultHere 26 = .ok (.istore_n 2, 1) := by decide +kernel
theorem dX9_isFaultHere_27 : decode cX9_isFaultHere 27 = .ok (.aload_n 0, 1) := by decide +kernel
theorem dX9_isFaultHere_28 : decode cX9_isFaultHere 28 = .ok (.iconst 0, 1) := by decide +kernel
theorem dX9_isFaultHere_29 : decode cX9_isFaultHere 29 = .ok (.aload_n 0, 1) := by decide +kernel
theorem dX9_isFaultHere_30 : decode cX9_isFaultHere 30 = .ok (.getfield 215, 3) := by decide +kernel
theorem dX9_isFaultHere_33 : decode cX9_isFaultHere 33 = .ok (.iconst 1, 1) := by decide +kernel
theorem dX9_isFaultHere_34 : decode cX9_isFaultHere 34 = .ok (.isub, 1) := by decide +kernel
theorem dX9_isFaultHere_35 : decode cX9_isFaultHere 35 = .ok (.invokevirtual 161, 3) := by decide +kernel
theorem dX9_isFaultHere_38 : decode cX9_isFaultHere 38 = .ok (.ifCond .ne 5, 3) := by decide +kernel
theorem dX9_isFaultHere_41 : decode cX9_isFaultHere 41 = .ok (.iconst 0, 1) := by decide +kernel
theorem dX9_isFaultHere_42 : decode cX9_isFaultHere 42 = .ok (.ireturn, 1) := by decide +kernel
theorem dX9_isFaultHere_43 : decode cX9_isFaultHere 43 = .ok (.aload_n 0, 1) := by decide +kernel
theorem dX9_isFaultHere_44 : decode cX9_isFaultHere 44 = .ok (.getfield 29, 3) := by decide +kernel
theorem dX9_isFaultHere_47 : decode cX9_isFaultHere 47 = .ok (.iload_n 2, 1) := by decide +kernel
theorem dX9_isFaultHere_48 : decode cX9_isFaultHere 48 = .ok (.aload_n 0, 1) := by decide +kernel
theorem dX9_isFaultHere_49 : decode cX9_isFaultHere 49 = .ok (.getfield 115, 3) := by decide +kernel
theorem dX9_isFaultHere_52 : decode cX9_isFaultHere 52 = .ok (.iastore, 1) := by decide +kernel
theorem dX9_isFaultHere_53 : decode cX9_isFaultHere 53 = .ok (.aload_n 0, 1) := by decide +kernel
theorem dX9_isFaultHere_54 : decode cX9_isFaultHere 54 = .ok (.iconst 1, 1) := by decide +kernel
theorem dX9_isFaultHere_55 : decode cX9_isFaultHere 55 = .ok (.bipush 99, 2) := by decide +kernel
theorem dX9_isFaultHere_57 : decode cX9_isFaultHere 57 = .ok (.invokevirtual 161, 3) := by decide +kernel
theorem dX9_isFaultHere_60 : decode cX9_isFaultHere 60 = .ok (.ifCond .ne 5, 3) := by decide +kernel
theorem dX9_isFaultHere_63 : decode cX9_isFaultHere 63 = .ok (.iconst 0, 1) := by decide +kernel
theorem dX9_isFaultHere_64 : decode cX9_isFaultHere 64 = .ok (.ireturn, 1) := by decide +kernel
theorem dX9_isFaultHere_65 : decode cX9_isFaultHere 65 = .ok (.aload_n 0, 1) := by decide +kernel
theorem dX9_isFaultHere_66 : decode cX9_isFaultHere 66 = .ok (.getfield 29, 3) := by decide +kernel
theorem dX9_isFaultHere_69 : decode cX9_isFaultHere 69 = .ok (.iload_n 2, 1) := by decide +kernel
theorem dX9_isFaultHere_70 : decode cX9_isFaultHere 70 = .ok (.iconst 1, 1) := by decide +kernel
theorem dX9_isFaultHere_71 : decode cX9_isFaultHere 71 = .ok (.iadd, 1) := by decide +kernel
theorem dX9_isFaultHere_72 : decode cX9_isFaultHere 72 = .ok (.aload_n 0, 1) := by decide +kernel
theorem dX9_isFaultHere_73 : decode cX9_isFaultHere 73 = .ok (.getfield 115, 3) := by decide +kernel
theorem dX9_isFaultHere_76 : decode cX9_isFaultHere 76 = .ok (.iastore, 1) := by decide +kernel
theorem dX9_isFaultHere_77 : decode cX9_isFaultHere 77 = .ok (.aload_n 0, 1) := by decide +kernel
theorem dX9_isFaultHere_78 : decode cX9_isFaultHere 78 = .ok (.iconst 0, 1) := by decide +kernel
theorem dX9_isFaultHere_79 : decode cX9_isFaultHere 79 = .ok (.bipush 100, 2) := by decide +kernel
theorem dX9_isFaultHere_81 : decode cX9_isFaultHere 81 = .ok (.invokevirtual 161, 3) := by decide +kernel
theorem dX9_isFaultHere_84 : decode cX9_isFaultHere 84 = .ok (.ifCond .ne 5, 3) := by decide +kernel
theorem dX9_isFaultHere_87 : decode cX9_isFaultHere 87 = .ok (.iconst 0, 1) := by decide +kernel
theorem dX9_isFaultHere_88 : decode cX9_isFaultHere 88 = .ok (.ireturn, 1) := by decide +kernel
theorem dX9_isFaultHere_89 : decode cX9_isFaultHere 89 = .ok (.aload_n 0, 1) := by decide +kernel
theorem dX9_isFaultHere_90 : decode cX9_isFaultHere 90 = .ok (.getfield 29, 3) := by decide +kernel
theorem dX9_isFaultHere_93 : decode cX9_isFaultHere 93 = .ok (.iload_n 2, 1) := by decide +kernel
theorem dX9_isFaultHere_94 : decode cX9_isFaultHere 94 = .ok (.iconst 2, 1) := by decide +kernel
theorem dX9_isFaultHere_95 : decode cX9_isFaultHere 95 = .ok (.iadd, 1) := by decide +kernel
theorem dX9_isFaultHere_96 : decode cX9_isFaultHere 96 = .ok (.aload_n 0, 1) := by decide +kernel
theorem dX9_isFaultHere_97 : decode cX9_isFaultHere 97 = .ok (.getfield 115, 3) := by decide +kernel
theorem dX9_isFaultHere_100 : decode cX9_isFaultHere 100 = .ok (.iastore, 1) := by decide +kernel
theorem dX9_isFaultHere_101 : decode cX9_isFaultHere 101 = .ok (.aload_n 0, 1) := by decide +kernel
theorem dX9_isFaultHere_102 : decode cX9_isFaultHere 102 = .ok (.getfield 29, 3) := by decide +kernel
theorem dX9_isFaultHere_105 : decode cX9_isFaultHere 105 = .ok (.iload_n 2, 1) := by decide +kernel
theorem dX9_isFaultHere_106 : decode cX9_isFaultHere 106 = .ok (.iconst 3, 1) := by decide +kernel
theorem dX9_isFaultHere_107 : decode cX9_isFaultHere 107 = .ok (.iadd, 1) := by decide +kernel
theorem dX9_isFaultHere_108 : decode cX9_isFaultHere 108 = .ok (.iconst (-1), 1) := by decide +kernel
theorem dX9_isFaultHere_109 : decode cX9_isFaultHere 109 = .ok (.iastore, 1) := by decide +kernel
theorem dX9_isFaultHere_110 : decode cX9_isFaultHere 110 = .ok (.aload_n 0, 1) := by decide +kernel
theorem dX9_isFaultHere_111 : decode cX9_isFaultHere 111 = .ok (.ldc2_w 221, 3) := by decide +kernel
theorem dX9_isFaultHere_114 : decode cX9_isFaultHere 114 = .ok (.invokevirtual 206, 3) := by decide +kernel
theorem dX9_isFaultHere_117 : decode cX9_isFaultHere 117 = .ok (.ifCond .eq 31, 3) := by decide +kernel
theorem dX9_isFaultHere_120 : decode cX9_isFaultHere 120 = .ok (.aload_n 0, 1) := by decide +kernel
theorem dX9_isFaultHere_121 : decode cX9_isFaultHere 121 = .ok (.iconst 0, 1) := by decide +kernel
theorem dX9_isFaultHere_122 : decode cX9_isFaultHere 122 = .ok (.aload_n 0, 1) := by decide +kernel
theorem dX9_isFaultHere_123 : decode cX9_isFaultHere 123 = .ok (.getfield 218, 3) := by decide +kernel
theorem dX9_isFaultHere_126 : decode cX9_isFaultHere 126 = .ok (.iconst 1, 1) := by decide +kernel
theorem dX9_isFaultHere_127 : decode cX9_isFaultHere 127 = .ok (.isub, 1) := by decide +kernel
theorem dX9_isFaultHere_128 : decode cX9_isFaultHere 128 = .ok (.invokevirtual 161, 3) := by decide +kernel
theorem dX9_isFaultHere_131 : decode cX9_isFaultHere 131 = .ok (.ifCond .ne 5, 3) := by decide +kernel
theorem dX9_isFaultHere_134 : decode cX9_isFaultHere 134 = .ok (.iconst 0, 1) := by decide +kernel
theorem dX9_isFaultHere_135 : decode cX9_isFaultHere 135 = .ok (.ireturn, 1) := by decide +kernel
theorem dX9_isFaultHere_136 : decode cX9_isFaultHere 136 = .ok (.aload_n 0, 1) := by decide +kernel
theorem dX9_isFaultHere_137 : decode cX9_isFaultHere 137 = .ok (.getfield 29, 3) := by decide +kernel
theorem dX9_isFaultHere_140 : decode cX9_isFaultHere 140 = .ok (.iload_n 2, 1) := by decide +kernel
theorem dX9_isFaultHere_141 : decode cX9_isFaultHere 141 = .ok (.iconst 3, 1) := by decide +kernel
theorem dX9_isFaultHere_142 : decode cX9_isFaultHere 142 = .ok (.iadd, 1) := by decide +kernel
theorem dX9_isFaultHere_143 : decode cX9_isFaultHere 143 = .ok (.aload_n 0, 1) := by decide +kernel
theorem dX9_isFaultHere_144 : decode cX9_isFaultHere 144 = .ok (.getfield 115, 3) := by decide +kernel
theorem dX9_isFaultHere_147 : decode cX9_isFaultHere 147 = .ok (.iastore, 1) := by decide +kernel
theorem dX9_isFaultHere_148 : decode cX9_isFaultHere 148 = .ok (.aload_n 0, 1) := by decide +kernel
theorem dX9_isFaultHere_149 : decode cX9_isFaultHere 149 = .ok (.dup, 1) := by decide +kernel
theorem dX9_isFaultHere_150 : decode cX9_isFaultHere 150 = .ok (.getfield 218, 3) := by decide +kernel
theorem dX9_isFaultHere_153 : decode cX9_isFaultHere 153 = .ok (.iconst 1, 1) := by decide +kernel
theorem dX9_isFaultHere_154 : decode cX9_isFaultHere 154 = .ok (.iadd, 1) := by decide +kernel
theorem dX9_isFaultHere_155 : decode cX9_isFaultHere 155 = .ok (.putfield 218, 3) := by decide +kernel
theorem dX9_isFaultHere_158 : decode cX9_isFaultHere 158 = .ok (.iconst 1, 1) := by decide +kernel
theorem dX9_isFaultHere_159 : decode cX9_isFaultHere 159 = .ok (.ireturn, 1) := by decide +kernel
theorem dX9_isInside_0 : decode cX9_isInside 0 = .ok (.iconst 0, 1) := by decide +kernel
theorem dX9_isInside_1 : decode cX9_isInside 1 = .ok (.istore_n 1, 1) := by decide +kernel
theorem dX9_isInside_2 : decode cX9_isInside 2 = .ok (.iload_n 1, 1) := by decide +kernel
theorem dX9_isInside_3 : decode cX9_isInside 3 = .ok (.aload_n 0, 1) := by decide +kernel
theorem dX9_isInside_4 : decode cX9_isInside 4 = .ok (.getfield 149, 3) := by decide +kernel
theorem dX9_isInside_7 : decode cX9_isInside 7 = .ok (.if_icmp .ge 22, 3) := by decide +kernel
theorem dX9_isInside_10 : decode cX9_isInside 10 = .ok (.aload_n 0, 1) := by decide +kernel
theorem dX9_isInside_11 : decode cX9_isInside 11 = .ok (.getfield 32, 3) := by decide +kernel
theorem dX9_isInside_14 : decode cX9_isInside 14 = .ok (.iload_n 1, 1) := by decide +kernel
theorem dX9_isInside_15 : decode cX9_isInside 15 = .ok (.iaload, 1) := by decide +kernel
theorem dX9_isInside_16 : decode cX9_isInside 16 = .ok (.bipush 91, 2) := by decide +kernel
theorem dX9_isInside_18 : decode cX9_isInside 18 = .ok (.if_icmp .ne 5, 3) := by decide +kernel
theorem dX9_isInside_21 : decode cX9_isInside 21 = .ok (.iconst 1, 1) := by decide +kernel
theorem dX9_isInside_22 : decode cX9_isInside 22 = .ok (.ireturn, 1) := by decide +kernel
theorem dX9_isInside_23 : decode cX9_isInside 23 = .ok (.iinc 1 1, 3) := by decide +kernel
theorem dX9_isInside_26 : decode cX9_isInside 26 = .ok (.goto (-24), 3) := by decide +kernel
theorem dX9_isInside_29 : decode cX9_isInside 29 = .ok (.iconst 0, 1) := by decide +kernel
theorem dX9_isInside_30 : decode cX9_isInside 30 = .ok (.ireturn, 1) := by decide +kernel
theorem dX9_isKindHere_0 : decode cX9_isKindHere 0 = .ok (.aload_n 0, 1) := by decide +kernel
theorem dX9_isKindHere_1 : decode cX9_isKindHere 1 = .ok (.getfield 215, 3) := by decide +kernel
theorem dX9_isKindHere_4 : decode cX9_isKindHere 4 = .ok (.bipush 6, 2) := by decide +kernel
theorem dX9_isKindHere_6 : decode cX9_isKindHere 6 = .ok (.if_icmp .ne 10, 3) := by decide +kernel
theorem dX9_isKindHere_9 : decode cX9_isKindHere 9 = .ok (.aload_n 0, 1) := by decide +kernel
theorem dX9_isKindHere_10 : decode cX9_isKindHere 10 = .ok (.iconst 4, 1) := by decide +kernel
theorem dX9_isKindHere_11 : decode cX9_isKindHere 11 = .ok (.iload_n 1, 1) := by decide +kernel
theorem dX9_isKindHere_12 : decode cX9_isKindHere 12 = .ok (.invokevirtual 111, 3) := by decide +kernel
theorem dX9_isKindHere_15 : decode cX9_isKindHere 15 = .ok (.ireturn, 1) := by decide +kernel
theorem dX9_isKindHere_16 : decode cX9_isKindHere 16 = .ok (.aload_n 0, 1) := by decide +kernel
theorem dX9_isKindHere_17 : decode cX9_isKindHere 17 = .ok (.invokevirtual 105, 3) := by decide +kernel
theorem dX9_isKindHere_20 : decode cX9_isKindHere 20 = .ok (.iconst 0, 1) := by decide +kernel
theorem dX9_isKindHere_21 : decode cX9_isKindHere 21 = .ok (.istore_n 2, 1) := by decide +kernel
theorem dX9_isKindHere_22 : decode cX9_isKindHere 22 = .ok (.iload_n 2, 1) := by decide +kernel
theorem dX9_isKindHere_23 : decode cX9_isKindHere 23 = .ok (.iconst 3, 1) := by decide +kernel
theorem dX9_isKindHere_24 : decode cX9_isKindHere 24 = .ok (.if_icmp .ge 38, 3) := by decide +kernel
theorem dX9_isKindHere_27 : decode cX9_isKindHere 27 = .ok (.aload_n 0, 1) := by decide +kernel
theorem dX9_isKindHere_28 : decode cX9_isKindHere 28 = .ok (.iconst 0, 1) := by decide +kernel
theorem dX9_isKindHere_29 : decode cX9_isKindHere 29 = .ok (.bipush 99, 2) := by decide +kernel
theorem dX9_isKindHere_31 : decode cX9_isKindHere 31 = .ok (.invokevirtual 161, 3) := by decide +kernel
theorem dX9_isKindHere_34 : decode cX9_isKindHere 34 = .ok (.ifCond .ne 5, 3) := by decide +kernel
theorem dX9_isKindHere_37 : decode cX9_isKindHere 37 = .ok (.iconst 0, 1) := by decide +kernel
theorem dX9_isKindHere_38 : decode cX9_isKindHere 38 = .ok (.ireturn, 1) := by decide +kernel
theorem dX9_isKindHere_39 : decode cX9_isKindHere 39 = .ok (.aload_n 0, 1) := by decide +kernel
theorem dX9_isKindHere_40 : decode cX9_isKindHere 40 = .ok (.getfield 26, 3) := by decide +kernel
theorem dX9_isKindHere_43 : decode cX9_isKindHere 43 = .ok (.iconst 3, 1) := by decide +kernel
theorem dX9_isKindHere_44 : decode cX9_isKindHere 44 = .ok (.aload_n 0, 1) := by decide +kernel
theorem dX9_isKindHere_45 : decode cX9_isKindHere 45 = .ok (.getfield 215, 3) := by decide +kernel
theorem dX9_isKindHere_48 : decode cX9_isKindHere 48 = .ok (.imul, 1) := by decide +kernel
theorem dX9_isKindHere_49 : decode cX9_isKindHere 49 = .ok (.iload_n 2, 1) := by decide +kernel
theorem dX9_isKindHere_50 : decode cX9_isKindHere 50 = .ok (.iadd, 1) := by decide +kernel
theorem dX9_isKindHere_51 : decode cX9_isKindHere 51 = .ok (.aload_n 0, 1) := by decide +kernel
theorem dX9_isKindHere_52 : decode cX9_isKindHere 52 = .ok (.getfield 115, 3) := by decide +kernel
theorem dX9_isKindHere_55 : decode cX9_isKindHere 55 = .ok (.iastore, 1) := by decide +kernel
theorem dX9_isKindHere_56 : decode cX9_isKindHere 56 = .ok (.iinc 2 1, 3) := by decide +kernel
theorem dX9_isKindHere_59 : decode cX9_isKindHere 59 = .ok (.goto (-37), 3) := by decide +kernel
theorem dX9_isKindHere_62 : decode cX9_isKindHere 62 = .ok (.aload_n 0, 1) := by decide +kernel
theorem dX9_isKindHere_63 : decode cX9_isKindHere 63 = .ok (.dup, 1) := by decide +kernel
theorem dX9_isKindHere_64 : decode cX9_isKindHere 64 = .ok (.getfield 215, 3) := by decide +kernel
theorem dX9_isKindHere_67 : decode cX9_isKindHere 67 = .ok (.iconst 1, 1) := by decide +kernel
theorem dX9_isKindHere_68 : decode cX9_isKindHere 68 = .ok (.iadd, 1) := by decide +kernel
theorem dX9_isKindHere_69 : decode cX9_isKindHere 69 = .ok (.putfield 215, 3) := by decide +kernel
theorem dX9_isKindHere_72 : decode cX9_isKindHere 72 = .ok (.iconst 1, 1) := by decide +kernel
theorem dX9_isKindHere_73 : decode cX9_isKindHere 73 = .ok (.ireturn, 1) := by decide +kernel
theorem dX9_isLetter_0 : decode cX9_isLetter 0 = .ok (.iload_n 1, 1) := by decide +kernel
theorem dX9_isLetter_1 : decode cX9_isLetter 1 = .ok (.aload_n 0, 1) := by decide +kernel
theorem dX9_isLetter_2 : decode cX9_isLetter 2 = .ok (.getfield 79, 3) := by decide +kernel
theorem dX9_isLetter_5 : decode cX9_isLetter 5 = .ok (.if_icmp .ge 29, 3) := by decide +kernel
theorem dX9_isLetter_8 : decode cX9_isLetter 8 = .ok (.aload_n 0, 1) := by decide +kernel
theorem dX9_isLetter_9 : decode cX9_isLetter 9 = .ok (.getfield 7, 3) := by decide +kernel
theorem dX9_isLetter_12 : decode cX9_isLetter 12 = .ok (.iload_n 1, 1) := by decide +kernel
theorem dX9_isLetter_13 : decode cX9_isLetter 13 = .ok (.baload, 1) := by decide +kernel
theorem dX9_isLetter_14 : decode cX9_isLetter 14 = .ok (.bipush 97, 2) := by decide +kernel
theorem dX9_isLetter_16 : decode cX9_isLetter 16 = .ok (.if_icmp .lt 18, 3) := by decide +kernel
theorem dX9_isLetter_19 : decode cX9_isLetter 19 = .ok (.aload_n 0, 1) := by decide +kernel
theorem dX9_isLetter_20 : decode cX9_isLetter 20 = .ok (.getfield 7, 3) := by decide +kernel
theorem dX9_isLetter_23 : decode cX9_isLetter 23 = .ok (.iload_n 1, 1) := by decide +kernel
theorem dX9_isLetter_24 : decode cX9_isLetter 24 = .ok (.baload, 1) := by decide +kernel
theorem dX9_isLetter_25 : decode cX9_isLetter 25 = .ok (.bipush 122, 2) := by decide +kernel
theorem dX9_isLetter_27 : decode cX9_isLetter 27 = .ok (.if_icmp .gt 7, 3) := by decide +kernel
theorem dX9_isLetter_30 : decode cX9_isLetter 30 = .ok (.iconst 1, 1) := by decide +kernel
theorem dX9_isLetter_31 : decode cX9_isLetter 31 = .ok (.goto 4, 3) := by decide +kernel
theorem dX9_isLetter_34 : decode cX9_isLetter 34 = .ok (.iconst 0, 1) := by decide +kernel
theorem dX9_isLetter_35 : decode cX9_isLetter 35 = .ok (.ireturn, 1) := by decide +kernel
theorem dX9_isOf_0 : decode cX9_isOf 0 = .ok (.iload_n 0, 1) := by decide +kernel
theorem dX9_isOf_1 : decode cX9_isOf 1 = .ok (.iload_n 1, 1) := by decide +kernel
theorem dX9_isOf_2 : decode cX9_isOf 2 = .ok (.ishr, 1) := by decide +kernel
theorem dX9_isOf_3 : decode cX9_isOf 3 = .ok (.iconst 1, 1) := by decide +kernel
theorem dX9_isOf_4 : decode cX9_isOf 4 = .ok (.iand, 1) := by decide +kernel
theorem dX9_isOf_5 : decode cX9_isOf 5 = .ok (.iconst 1, 1) := by decide +kernel
theorem dX9_isOf_6 : decode cX9_isOf 6 = .ok (.if_icmp .ne 7, 3) := by decide +kernel
theorem dX9_isOf_9 : decode cX9_isOf 9 = .ok (.iconst 1, 1) := by decide +kernel
theorem dX9_isOf_10 : decode cX9_isOf 10 = .ok (.goto 4, 3) := by decide +kernel
theorem dX9_isOf_13 : decode cX9_isOf 13 = .ok (.iconst 0, 1) := by decide +kernel
theorem dX9_isOf_14 : decode cX9_isOf 14 = .ok (.ireturn, 1) := by decide +kernel
theorem dX9_isOpen_0 : decode cX9_isOpen 0 = .ok (.aload_n 0, 1) := by decide +kernel
theorem dX9_isOpen_1 : decode cX9_isOpen 1 = .ok (.iload_n 1, 1) := by decide +kernel
theorem dX9_isOpen_2 : decode cX9_isOpen 2 = .ok (.iconst 4, 1) := by decide +kernel
theorem dX9_isOpen_3 : decode cX9_isOpen 3 = .ok (.invokevirtual 268, 3) := by decide +kernel
theorem dX9_isOpen_6 : decode cX9_isOpen 6 = .ok (.ifCond .ne 30, 3) := by decide +kernel
theorem dX9_isOpen_9 : decode cX9_isOpen 9 = .ok (.aload_n 0, 1) := by decide +kernel
theorem dX9_isOpen_10 : decode cX9_isOpen 10 = .ok (.iload_n 1, 1) := by decide +kernel
theorem dX9_isOpen_11 : decode cX9_isOpen 11 = .ok (.iconst 3, 1) := by decide +kernel
theorem dX9_isOpen_12 : decode cX9_isOpen 12 = .ok (.invokevirtual 268, 3) := by decide +kernel
theorem dX9_isOpen_15 : decode cX9_isOpen 15 = .ok (.ifCond .lt 17, 3) := by decide +kernel
theorem dX9_isOpen_18 : decode cX9_isOpen 18 = .ok (.aload_n 0, 1) := by decide +kernel
theorem dX9_isOpen_19 : decode cX9_isOpen 19 = .ok (.aload_n 0, 1) := by decide +kernel
theorem dX9_isOpen_20 : decode cX9_isOpen 20 = .ok (.iload_n 1, 1) := by decide +kernel
theorem dX9_isOpen_21 : decode cX9_isOpen 21 = .ok (.iconst 3, 1) := by decide +kernel
theorem dX9_isOpen_22 : decode cX9_isOpen 22 = .ok (.invokevirtual 268, 3) := by decide +kernel
theorem dX9_isOpen_25 : decode cX9_isOpen 25 = .ok (.iconst 4, 1) := by decide +kernel
theorem dX9_isOpen_26 : decode cX9_isOpen 26 = .ok (.invokevirtual 268, 3) := by decide +kernel
theorem dX9_isOpen_29 : decode cX9_isOpen 29 = .ok (.ifCond .le 7, 3) := by decide +kernel
theorem dX9_isOpen_32 : decode cX9_isOpen 32 = .ok (.iconst 1, 1) := by decide +kernel
theorem dX9_isOpen_33 : decode cX9_isOpen 33 = .ok (.goto 4, 3) := by decide +kernel
theorem dX9_isOpen_36 : decode cX9_isOpen 36 = .ok (.iconst 0, 1) := by decide +kernel
theorem dX9_isOpen_37 : decode cX9_isOpen 37 = .ok (.ireturn, 1) := by decide +kernel
theorem dX9_isRule_0 : decode cX9_isRule 0 = .ok (.iload_n 1, 1) := by decide +kernel
theorem dX9_isRule_1 : decode cX9_isRule 1 = .ok (.ifCond .lt 15, 3) := by decide +kernel
theorem dX9_isRule_4 : decode cX9_isRule 4 = .ok (.iload_n 1, 1) := by decide +kernel
theorem dX9_isRule_5 : decode cX9_isRule 5 = .ok (.aload_n 0, 1) := by decide +kernel
theorem dX9_isRule_6 : decode cX9_isRule 6 = .ok (.getfield 247, 3) := by decide +kernel
theorem dX9_isRule_9 : decode cX9_isRule 9 = .ok (.if_icmp .ge 7, 3) := by decide +kernel
theorem dX9_isRule_12 : decode cX9_isRule 12 = .ok (.iconst 1, 1) := by decide +kernel
theorem dX9_isRule_13 : decode cX9_isRule 13 = .ok (.goto 4, 3) := by decide +kernel
theorem dX9_isRule_16 : decode cX9_isRule 16 = .ok (.iconst 0, 1) := by decide +kernel
theorem dX9_isRule_17 : decode cX9_isRule 17 = .ok (.ireturn, 1) := by decide +kernel
theorem dX9_isTimeHere_0 : decode cX9_isTimeHere 0 = .ok (.aload_n 0, 1) := by decide +kernel
theorem dX9_isTimeHere_1 : decode cX9_isTimeHere 1 = .ok (.getfield 212, 3) := by decide +kernel
theorem dX9_isTimeHere_4 : decode cX9_isTimeHere 4 = .ok (.ifCond .lt 10, 3) := by decide +kernel
theorem dX9_isTimeHere_7 : decode cX9_isTimeHere 7 = .ok (.aload_n 0, 1) := by decide +kernel
theorem dX9_isTimeHere_8 : decode cX9_isTimeHere 8 = .ok (.iconst 4, 1) := by decide +kernel
theorem dX9_isTimeHere_9 : decode cX9_isTimeHere 9 = .ok (.iload_n 1, 1) := by decide +kernel
theorem dX9_isTimeHere_10 : decode cX9_isTimeHere 10 = .ok (.invokevirtual 111, 3) := by decide +kernel
theorem dX9_isTimeHere_13 : decode cX9_isTimeHere 13 = .ok (.ireturn, 1) := by decide +kernel
theorem dX9_isTimeHere_14 : decode cX9_isTimeHere 14 = .ok (.aload_n 0, 1) := by decide +kernel
theorem dX9_isTimeHere_15 : decode cX9_isTimeHere 15 = .ok (.invokevirtual 105, 3) := by decide +kernel
theorem dX9_isTimeHere_18 : decode cX9_isTimeHere 18 = .ok (.aload_n 0, 1) := by decide +kernel
theorem dX9_isTimeHere_19 : decode cX9_isTimeHere 19 = .ok (.iconst 1, 1) := by decide +kernel
theorem dX9_isTimeHere_20 : decode cX9_isTimeHere 20 = .ok (.sipush 480, 3) := by decide +kernel
theorem dX9_isTimeHere_23 : decode cX9_isTimeHere 23 = .ok (.invokevirtual 161, 3) := by decide +kernel
theorem dX9_isTimeHere_26 : decode cX9_isTimeHere 26 = .ok (.ifCond .ne 5, 3) := by decide +kernel
theorem dX9_isTimeHere_29 : decode cX9_isTimeHere 29 = .ok (.iconst 0, 1) := by decide +kernel
theorem dX9_isTimeHere_30 : decode cX9_isTimeHere 30 = .ok (.ireturn, 1) := by decide +kernel
theorem dX9_isTimeHere_31 : decode cX9_isTimeHere 31 = .ok (.aload_n 0, 1) := by decide +kernel
theorem dX9_isTimeHere_32 : decode cX9_isTimeHere 32 = .ok (.aload_n 0, 1) := by decide +kernel
theorem dX9_isTimeHere_33 : decode cX9_isTimeHere 33 = .ok (.getfield 115, 3) := by decide +kernel
theorem dX9_isTimeHere_36 : decode cX9_isTimeHere 36 = .ok (.putfield 212, 3) := by decide +kernel
theorem dX9_isTimeHere_39 : decode cX9_isTimeHere 39 = .ok (.iconst 1, 1) := by decide +kernel
theorem dX9_isTimeHere_40 : decode cX9_isTimeHere 40 = .ok (.ireturn, 1) := by decide +kernel
theorem dX9_isWord_0 : decode cX9_isWord 0 = .ok (.aload_n 0, 1) := by decide +kernel
theorem dX9_isWord_1 : decode cX9_isWord 1 = .ok (.invokevirtual 93, 3) := by decide +kernel
theorem dX9_isWord_4 : decode cX9_isWord 4 = .ok (.pop, 1) := by decide +kernel
theorem dX9_isWord_5 : decode cX9_isWord 5 = .ok (.lconst 0, 1) := by decide +kernel
theorem dX9_isWord_6 : decode cX9_isWord 6 = .ok (.lstore_n 3, 1) := by decide +kernel
theorem dX9_isWord_7 : decode cX9_isWord 7 = .ok (.iconst 0, 1) := by decide +kernel
theorem dX9_isWord_8 : decode cX9_isWord 8 = .ok (.istore 5, 2) := by decide +kernel
theorem dX9_isWord_10 : decode cX9_isWord 10 = .ok (.aload_n 0, 1) := by decide +kernel
theorem dX9_isWord_11 : decode cX9_isWord 11 = .ok (.aload_n 0, 1) := by decide +kernel
theorem dX9_isWord_12 : decode cX9_isWord 12 = .ok (.getfield 90, 3) := by decide +kernel
theorem dX9_isWord_15 : decode cX9_isWord 15 = .ok (.iload 5, 2) := by decide +kernel
theorem dX9_isWord_17 : decode cX9_isWord 17 = .ok (.iadd, 1) := by decide +kernel
theorem dX9_isWord_18 : decode cX9_isWord 18 = .ok (.invokevirtual 97, 3) := by decide +kernel
theorem dX9_isWord_21 : decode cX9_isWord 21 = .ok (.ifCond .eq 35, 3) := by decide +kernel
theorem dX9_isWord_24 : decode cX9_isWord 24 = .ok (.iload 5, 2) := by decide +kernel
theorem dX9_isWord_26 : decode cX9_isWord 26 = .ok (.bipush 8, 2) := by decide +kernel
theorem dX9_isWord_28 : decode cX9_isWord 28 = .ok (.if_icmp .ge 22, 3) := by decide +kernel
theorem dX9_isWord_31 : decode cX9_isWord 31 = .ok (.lload_n 3, 1) := by decide +kernel
theorem dX9_isWord_32 : decode cX9_isWord 32 = .ok (.bipush 8, 2) := by decide +kernel
theorem dX9_isWord_34 : decode cX9_isWord 34 = .ok (.lshl, 1) := by decide +kernel
theorem dX9_isWord_35 : decode cX9_isWord 35 = .ok (.aload_n 0, 1) := by decide +kernel
theorem dX9_isWord_36 : decode cX9_isWord 36 = .ok (.getfield 7, 3) := by decide +kernel
theorem dX9_isWord_39 : decode cX9_isWord 39 = .ok (.aload_n 0, 1) := by decide +kernel
theorem dX9_isWord_40 : decode cX9_isWord 40 = .ok (.getfield 90, 3) := by decide +kernel
theorem dX9_isWord_43 : decode cX9_isWord 43 = .ok (.iload 5, 2) := by decide +kernel
theorem dX9_isWord_45 : decode cX9_isWord 45 = .ok (.iadd, 1) := by decide +kernel
theorem dX9_isWord_46 : decode cX9_isWord 46 = .ok (.baload, 1) := by decide +kernel
theorem dX9_isWord_47 : decode cX9_isWord 47 = .ok (.i2l, 1) := by decide +kernel
theorem dX9_isWord_48 : decode cX9_isWord 48 = .ok (.lor, 1) := by decide +kernel
theorem dX9_isWord_49 : decode cX9_isWord 49 = .ok (.lstore_n 3, 1) := by decide +kernel
theorem dX9_isWord_50 : decode cX9_isWord 50 = .ok (.iinc 5 1, 3) := by decide +kernel
theorem dX9_isWord_53 : decode cX9_isWord 53 = .ok (.goto (-43), 3) := by decide +kernel
theorem dX9_isWord_56 : decode cX9_isWord 56 = .ok (.iload 5, 2) := by decide +kernel
theorem dX9_isWord_58 : decode cX9_isWord 58 = .ok (.ifCond .le 20, 3) := by decide +kernel
theorem dX9_isWord_61 : decode cX9_isWord 61 = .ok (.iload 5, 2) := by decide +kernel
theorem dX9_isWord_63 : decode cX9_isWord 63 = .ok (.bipush 8, 2) := by decide +kernel
theorem dX9_isWord_65 : decode cX9_isWord 65 = .ok (.if_icmp .ge 13, 3) := by decide +kernel
theorem dX9_isWord_68 : decode cX9_isWord 68 = .ok (.lload_n 3, 1) := by decide +kernel
theorem dX9_isWord_69 : decode cX9_isWord 69 = .ok (.lload_n 1, 1) := by decide +kernel
theorem dX9_isWord_70 : decode cX9_isWord 70 = .ok (.lcmp, 1) := by decide +kernel
theorem dX9_isWord_71 : decode cX9_isWord 71 = .ok (.ifCond .ne 7, 3) := by decide +kernel
theorem dX9_isWord_74 : decode cX9_isWord 74 = .ok (.iconst 1, 1) := by decide +kernel
theorem dX9_isWord_75 : decode cX9_isWord 75 = .ok (.goto 4, 3) := by decide +kernel
theorem dX9_isWord_78 : decode cX9_isWord 78 = .ok (.iconst 0, 1) := by decide +kernel
theorem dX9_isWord_79 : decode cX9_isWord 79 = .ok (.ireturn, 1) := by decide +kernel
theorem dX9_isWork_0 : decode cX9_isWork 0 = .ok (.aload_n 0, 1) := by decide +kernel
theorem dX9_isWork_1 : decode cX9_isWork 1 = .ok (.getfield 42, 3) := by decide +kernel
theorem dX9_isWork_4 : decode cX9_isWork 4 = .ok (.iconst 0, 1) := by decide +kernel
theorem dX9_isWork_5 : decode cX9_isWork 5 = .ok (.iaload, 1) := by decide +kernel
theorem dX9_isWork_6 : decode cX9_isWork 6 = .ok (.ifCond .le 7, 3) := by decide +kernel
theorem dX9_isWork_9 : decode cX9_isWork 9 = .ok (.iconst 1, 1) := by decide +kernel
theorem dX9_isWork_10 : decode cX9_isWork 10 = .ok (.goto 4, 3) := by decide +kernel
theorem dX9_isWork_13 : decode cX9_isWork 13 = .ok (.iconst 0, 1) := by decide +kernel
theorem dX9_isWork_14 : decode cX9_isWork 14 = .ok (.ireturn, 1) := by decide +kernel
theorem dX9_keeps_0 : decode cX9_keeps 0 = .ok (.iconst 0, 1) := by decide +kernel
theorem dX9_keeps_1 : decode cX9_keeps 1 = .ok (.istore_n 1, 1) := by decide +kernel
theorem dX9_keeps_2 : decode cX9_keeps 2 = .ok (.iload_n 1, 1) := by decide +kernel
theorem dX9_keeps_3 : decode cX9_keeps 3 = .ok (.bipush 104, 2) := by decide +kernel
theorem dX9_keeps_5 : decode cX9_keeps 5 = .ok (.if_icmp .ge 21, 3) := by decide +kernel
theorem dX9_keeps_8 : decode cX9_keeps 8 = .ok (.aload_n 0, 1) := by decide +kernel
theorem dX9_keeps_9 : decode cX9_keeps 9 = .ok (.getfield 45, 3) := by decide +kernel
theorem dX9_keeps_12 : decode cX9_keeps 12 = .ok (.iload_n 1, 1) := by decide +kernel
theorem dX9_keeps_13 : decode cX9_keeps 13 = .ok (.aload_n 0, 1) := by decide +kernel
theorem dX9_keeps_14 : decode cX9_keeps 14 = .ok (.getfield 42, 3) := by decide +kernel
theorem dX9_keeps_17 : decode cX9_keeps 17 = .ok (.iload_n 1, 1) := by decide +kernel
theorem dX9_keeps_18 : decode cX9_keeps 18 = .ok (.iaload, 1) := by decide +kernel
theorem dX9_keeps_19 : decode cX9_keeps 19 = .ok (.iastore, 1) := by decide +kernel
theorem dX9_keeps_20 : decode cX9_keeps 20 = .ok (.iinc 1 1, 3) := by decide +kernel
theorem dX9_keeps_23 : decode cX9_keeps 23 = .ok (.goto (-21), 3) := by decide +kernel
theorem dX9_keeps_26 : decode cX9_keeps 26 = .ok (.return_, 1) := by decide +kernel
theorem dX9_kind_0 : decode cX9_kind 0 = .ok (.iload_n 1, 1) := by decide +kernel
theorem dX9_kind_1 : decode cX9_kind 1 = .ok (.i2l, 1) := by decide +kernel
theorem dX9_kind_2 : decode cX9_kind 2 = .ok (.lconst 0, 1) := by decide +kernel
theorem dX9_kind_3 : decode cX9_kind 3 = .ok (.aload_n 0, 1) := by decide +kernel
theorem dX9_kind_4 : decode cX9_kind 4 = .ok (.getfield 42, 3) := by decide +kernel
theorem dX9_kind_7 : decode cX9_kind 7 = .ok (.iconst 1, 1) := by decide +kernel
theorem dX9_kind_8 : decode cX9_kind 8 = .ok (.iaload, 1) := by decide +kernel
theorem dX9_kind_9 : decode cX9_kind 9 = .ok (.iconst 1, 1) := by decide +kernel
theorem dX9_kind_10 : decode cX9_kind 10 = .ok (.isub, 1) := by decide +kernel
theorem dX9_kind_11 : decode cX9_kind 11 = .ok (.i2l, 1) := by decide +kernel
theorem dX9_kind_12 : decode cX9_kind 12 = .ok (.invokestatic 118, 3) := by decide +kernel
theorem dX9_kind_15 : decode cX9_kind 15 = .ok (.ifCond .eq 31, 3) := by decide +kernel
theorem dX9_kind_18 : decode cX9_kind 18 = .ok (.iload_n 2, 1) := by decide +kernel
theorem dX9_kind_19 : decode cX9_kind 19 = .ok (.i2l, 1) := by decide +kernel
theorem dX9_kind_20 : decode cX9_kind 20 = .ok (.lconst 0, 1) := by decide +kernel
theorem dX9_kind_21 : decode cX9_kind 21 = .ok (.ldc2_w 278, 3) := by decide +kernel
theorem dX9_kind_24 : decode cX9_kind 24 = .ok (.invokestatic 118, 3) := by decide +kernel
theorem dX9_kind_27 : decode cX9_kind 27 = .ok (.ifCond .eq 19, 3) := by decide +kernel
theorem dX9_kind_30 : decode cX9_kind 30 = .ok (.aload_n 0, 1) := by decide +kernel
theorem dX9_kind_31 : decode cX9_kind 31 = .ok (.getfield 42, 3) := by decide +kernel
theorem dX9_kind_34 : decode cX9_kind 34 = .ok (.bipush 26, 2) := by decide +kernel
theorem dX9_kind_36 : decode cX9_kind 36 = .ok (.iconst 3, 1) := by decide +kernel
theorem dX9_kind_37 : decode cX9_kind 37 = .ok (.iload_n 1, 1) := by decide +kernel
theorem dX9_kind_38 : decode cX9_kind 38 = .ok (.imul, 1) := by decide +kernel
theorem dX9_kind_39 : decode cX9_kind 39 = .ok (.iadd, 1) := by decide +kernel
theorem dX9_kind_40 : decode cX9_kind 40 = .ok (.iload_n 2, 1) := by decide +kernel
theorem dX9_kind_41 : decode cX9_kind 41 = .ok (.iadd, 1) := by decide +kernel
theorem dX9_kind_42 : decode cX9_kind 42 = .ok (.iaload, 1) := by decide +kernel
theorem dX9_kind_43 : decode cX9_kind 43 = .ok (.goto 4, 3) := by decide +kernel
theorem dX9_kind_46 : decode cX9_kind 46 = .ok (.iconst (-1), 1) := by decide +kernel
theorem dX9_kind_47 : decode cX9_kind 47 = .ok (.ireturn, 1) := by decide +kernel
theorem dX9_kindOf_0 : decode cX9_kindOf 0 = .ok (.aload_n 0, 1) := by decide +kernel
theorem dX9_kindOf_1 : decode cX9_kindOf 1 = .ok (.getfield 42, 3) := by decide +kernel
theorem dX9_kindOf_4 : decode cX9_kindOf 4 = .ok (.bipush 26, 2) := by decide +kernel
theorem dX9_kindOf_6 : decode cX9_kindOf 6 = .ok (.iconst 3, 1) := by decide +kernel
theorem dX9_kindOf_7 : decode cX9_kindOf 7 = .ok (.aload_n 0, 1) := by decide +kernel
theorem dX9_kindOf_8 : decode cX9_kindOf 8 = .ok (.iload_n 1, 1) := by decide +kernel
theorem dX9_kindOf_9 : decode cX9_kindOf 9 = .ok (.iconst 0, 1) := by decide +kernel
theorem dX9_kindOf_10 : decode cX9_kindOf 10 = .ok (.invokevirtual 268, 3) := by decide +kernel
theorem dX9_kindOf_13 : decode cX9_kindOf 13 = .ok (.imul, 1) := by decide +kernel
theorem dX9_kindOf_14 : decode cX9_kindOf 14 = .ok (.iadd, 1) := by decide +kernel
theorem dX9_kindOf_15 : decode cX9_kindOf 15 = .ok (.iload_n 2, 1) := by decide +kernel
theorem dX9_kindOf_16 : decode cX9_kindOf 16 = .ok (.iadd, 1) := by decide +kernel
theorem dX9_kindOf_17 : decode cX9_kindOf 17 = .ok (.iaload, 1) := by decide +kernel
theorem dX9_kindOf_18 : decode cX9_kindOf 18 = .ok (.ireturn, 1) := by decide +kernel
theorem dX9_look_0 : decode cX9_look 0 = .ok (.aload_n 0, 1) := by decide +kernel
theorem dX9_look_1 : decode cX9_look 1 = .ok (.iload_n 1, 1) := by decide +kernel
theorem dX9_look_2 : decode cX9_look 2 = .ok (.invokevirtual 280, 3) := by decide +kernel
theorem dX9_look_5 : decode cX9_look 5 = .ok (.ifCond .ne 5, 3) := by decide +kernel
