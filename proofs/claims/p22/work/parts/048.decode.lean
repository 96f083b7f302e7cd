theorem dX9_fact_38 : decode cX9_fact 38 = .ok (.iconst 1, 1) := by decide +kernel
theorem dX9_fact_39 : decode cX9_fact 39 = .ok (.istore_n 1, 1) := by decide +kernel
theorem dX9_fact_40 : decode cX9_fact 40 = .ok (.goto 32, 3) := by decide +kernel
theorem dX9_fact_43 : decode cX9_fact 43 = .ok (.iload_n 2, 1) := by decide +kernel
theorem dX9_fact_44 : decode cX9_fact 44 = .ok (.bipush 91, 2) := by decide +kernel
theorem dX9_fact_46 : decode cX9_fact 46 = .ok (.if_icmp .ne 26, 3) := by decide +kernel
theorem dX9_fact_49 : decode cX9_fact 49 = .ok (.aload_n 0, 1) := by decide +kernel
theorem dX9_fact_50 : decode cX9_fact 50 = .ok (.bipush 91, 2) := by decide +kernel
theorem dX9_fact_52 : decode cX9_fact 52 = .ok (.invokevirtual 182, 3) := by decide +kernel
theorem dX9_fact_55 : decode cX9_fact 55 = .ok (.ifCond .ne 5, 3) := by decide +kernel
theorem dX9_fact_58 : decode cX9_fact 58 = .ok (.iconst 0, 1) := by decide +kernel
theorem dX9_fact_59 : decode cX9_fact 59 = .ok (.ireturn, 1) := by decide +kernel
theorem dX9_fact_60 : decode cX9_fact 60 = .ok (.aload_n 0, 1) := by decide +kernel
theorem dX9_fact_61 : decode cX9_fact 61 = .ok (.dup, 1) := by decide +kernel
theorem dX9_fact_62 : decode cX9_fact 62 = .ok (.getfield 90, 3) := by decide +kernel
theorem dX9_fact_65 : decode cX9_fact 65 = .ok (.iconst 1, 1) := by decide +kernel
theorem dX9_fact_66 : decode cX9_fact 66 = .ok (.iadd, 1) := by decide +kernel
theorem dX9_fact_67 : decode cX9_fact 67 = .ok (.putfield 90, 3) := by decide +kernel
theorem dX9_fact_70 : decode cX9_fact 70 = .ok (.iconst 1, 1) := by decide +kernel
theorem dX9_fact_71 : decode cX9_fact 71 = .ok (.istore_n 1, 1) := by decide +kernel
theorem dX9_fact_72 : decode cX9_fact 72 = .ok (.goto (-70), 3) := by decide +kernel
theorem dX9_fact_75 : decode cX9_fact 75 = .ok (.aload_n 0, 1) := by decide +kernel
theorem dX9_fact_76 : decode cX9_fact 76 = .ok (.invokevirtual 185, 3) := by decide +kernel
theorem dX9_fact_79 : decode cX9_fact 79 = .ok (.ireturn, 1) := by decide +kernel
theorem dX9_fails_0 : decode cX9_fails 0 = .ok (.aload_n 0, 1) := by decide +kernel
theorem dX9_fails_1 : decode cX9_fails 1 = .ok (.getfield 87, 3) := by decide +kernel
theorem dX9_fails_4 : decode cX9_fails 4 = .ok (.ifCond .ne 15, 3) := by decide +kernel
theorem dX9_fails_7 : decode cX9_fails 7 = .ok (.aload_n 0, 1) := by decide +kernel
theorem dX9_fails_8 : decode cX9_fails 8 = .ok (.iconst 1, 1) := by decide +kernel
theorem dX9_fails_9 : decode cX9_fails 9 = .ok (.bipush 8, 2) := by decide +kernel
theorem dX9_fails_11 : decode cX9_fails 11 = .ok (.iload_n 2, 1) := by decide +kernel
theorem dX9_fails_12 : decode cX9_fails 12 = .ok (.imul, 1) := by decide +kernel
theorem dX9_fails_13 : decode cX9_fails 13 = .ok (.iadd, 1) := by decide +kernel
theorem dX9_fails_14 : decode cX9_fails 14 = .ok (.iload_n 1, 1) := by decide +kernel
theorem dX9_fails_15 : decode cX9_fails 15 = .ok (.iadd, 1) := by decide +kernel
theorem dX9_fails_16 : decode cX9_fails 16 = .ok (.putfield 87, 3) := by decide +kernel
theorem dX9_fails_19 : decode cX9_fails 19 = .ok (.iconst 0, 1) := by decide +kernel
theorem dX9_fails_20 : decode cX9_fails 20 = .ok (.ireturn, 1) := by decide +kernel
theorem dX9_fault_0 : decode cX9_fault 0 = .ok (.aload_n 0, 1) := by decide +kernel
theorem dX9_fault_1 : decode cX9_fault 1 = .ok (.iload_n 1, 1) := by decide +kernel
theorem dX9_fault_2 : decode cX9_fault 2 = .ok (.invokevirtual 280, 3) := by decide +kernel
theorem dX9_fault_5 : decode cX9_fault 5 = .ok (.ifCond .eq 15, 3) := by decide +kernel
theorem dX9_fault_8 : decode cX9_fault 8 = .ok (.iload_n 2, 1) := by decide +kernel
theorem dX9_fault_9 : decode cX9_fault 9 = .ok (.i2l, 1) := by decide +kernel
theorem dX9_fault_10 : decode cX9_fault 10 = .ok (.lconst 0, 1) := by decide +kernel
theorem dX9_fault_11 : decode cX9_fault 11 = .ok (.ldc2_w 283, 3) := by decide +kernel
theorem dX9_fault_14 : decode cX9_fault 14 = .ok (.invokestatic 118, 3) := by decide +kernel
theorem dX9_fault_17 : decode cX9_fault 17 = .ok (.ifCond .ne 6, 3) := by decide +kernel
theorem dX9_fault_20 : decode cX9_fault 20 = .ok (.bipush (-2), 2) := by decide +kernel
theorem dX9_fault_22 : decode cX9_fault 22 = .ok (.ireturn, 1) := by decide +kernel
theorem dX9_fault_23 : decode cX9_fault 23 = .ok (.iload_n 2, 1) := by decide +kernel
theorem dX9_fault_24 : decode cX9_fault 24 = .ok (.bipush 6, 2) := by decide +kernel
theorem dX9_fault_26 : decode cX9_fault 26 = .ok (.if_icmp .ge 12, 3) := by decide +kernel
theorem dX9_fault_29 : decode cX9_fault 29 = .ok (.aload_n 0, 1) := by decide +kernel
theorem dX9_fault_30 : decode cX9_fault 30 = .ok (.iload_n 1, 1) := by decide +kernel
theorem dX9_fault_31 : decode cX9_fault 31 = .ok (.iload_n 2, 1) := by decide +kernel
theorem dX9_fault_32 : decode cX9_fault 32 = .ok (.invokevirtual 268, 3) := by decide +kernel
theorem dX9_fault_35 : decode cX9_fault 35 = .ok (.goto 16, 3) := by decide +kernel
theorem dX9_fault_38 : decode cX9_fault 38 = .ok (.aload_n 0, 1) := by decide +kernel
theorem dX9_fault_39 : decode cX9_fault 39 = .ok (.iload_n 1, 1) := by decide +kernel
theorem dX9_fault_40 : decode cX9_fault 40 = .ok (.invokevirtual 272, 3) := by decide +kernel
theorem dX9_fault_43 : decode cX9_fault 43 = .ok (.ifCond .eq 7, 3) := by decide +kernel
theorem dX9_fault_46 : decode cX9_fault 46 = .ok (.iconst 1, 1) := by decide +kernel
theorem dX9_fault_47 : decode cX9_fault 47 = .ok (.goto 4, 3) := by decide +kernel
theorem dX9_fault_50 : decode cX9_fault 50 = .ok (.iconst 0, 1) := by decide +kernel
theorem dX9_fault_51 : decode cX9_fault 51 = .ok (.ireturn, 1) := by decide +kernel
theorem dX9_faultOf_0 : decode cX9_faultOf 0 = .ok (.aload_n 0, 1) := by decide +kernel
theorem dX9_faultOf_1 : decode cX9_faultOf 1 = .ok (.getfield 42, 3) := by decide +kernel
theorem dX9_faultOf_4 : decode cX9_faultOf 4 = .ok (.bipush 44, 2) := by decide +kernel
theorem dX9_faultOf_6 : decode cX9_faultOf 6 = .ok (.bipush 6, 2) := by decide +kernel
theorem dX9_faultOf_8 : decode cX9_faultOf 8 = .ok (.iload_n 1, 1) := by decide +kernel
theorem dX9_faultOf_9 : decode cX9_faultOf 9 = .ok (.imul, 1) := by decide +kernel
theorem dX9_faultOf_10 : decode cX9_faultOf 10 = .ok (.iadd, 1) := by decide +kernel
theorem dX9_faultOf_11 : decode cX9_faultOf 11 = .ok (.iload_n 2, 1) := by decide +kernel
theorem dX9_faultOf_12 : decode cX9_faultOf 12 = .ok (.iadd, 1) := by decide +kernel
theorem dX9_faultOf_13 : decode cX9_faultOf 13 = .ok (.iaload, 1) := by decide +kernel
theorem dX9_faultOf_14 : decode cX9_faultOf 14 = .ok (.ireturn, 1) := by decide +kernel
theorem dX9_feed_0 : decode cX9_feed 0 = .ok (.aload_n 0, 1) := by decide +kernel
theorem dX9_feed_1 : decode cX9_feed 1 = .ok (.getfield 79, 3) := by decide +kernel
theorem dX9_feed_4 : decode cX9_feed 4 = .ok (.bipush 20, 2) := by decide +kernel
theorem dX9_feed_6 : decode cX9_feed 6 = .ok (.iadd, 1) := by decide +kernel
theorem dX9_feed_7 : decode cX9_feed 7 = .ok (.sipush 400, 3) := by decide +kernel
theorem dX9_feed_10 : decode cX9_feed 10 = .ok (.if_icmp .le 5, 3) := by decide +kernel
theorem dX9_feed_13 : decode cX9_feed 13 = .ok (.iconst (-1), 1) := by decide +kernel
theorem dX9_feed_14 : decode cX9_feed 14 = .ok (.ireturn, 1) := by decide +kernel
theorem dX9_feed_15 : decode cX9_feed 15 = .ok (.aload_n 0, 1) := by decide +kernel
theorem dX9_feed_16 : decode cX9_feed 16 = .ok (.iload_n 1, 1) := by decide +kernel
theorem dX9_feed_17 : decode cX9_feed 17 = .ok (.invokevirtual 83, 3) := by decide +kernel
theorem dX9_feed_20 : decode cX9_feed 20 = .ok (.aload_n 0, 1) := by decide +kernel
theorem dX9_feed_21 : decode cX9_feed 21 = .ok (.iload_n 2, 1) := by decide +kernel
theorem dX9_feed_22 : decode cX9_feed 22 = .ok (.invokevirtual 83, 3) := by decide +kernel
theorem dX9_feed_25 : decode cX9_feed 25 = .ok (.aload_n 0, 1) := by decide +kernel
theorem dX9_feed_26 : decode cX9_feed 26 = .ok (.iload_n 3, 1) := by decide +kernel
theorem dX9_feed_27 : decode cX9_feed 27 = .ok (.invokevirtual 83, 3) := by decide +kernel
theorem dX9_feed_30 : decode cX9_feed 30 = .ok (.aload_n 0, 1) := by decide +kernel
theorem dX9_feed_31 : decode cX9_feed 31 = .ok (.iload 4, 2) := by decide +kernel
theorem dX9_feed_33 : decode cX9_feed 33 = .ok (.invokevirtual 83, 3) := by decide +kernel
theorem dX9_feed_36 : decode cX9_feed 36 = .ok (.aload_n 0, 1) := by decide +kernel
theorem dX9_feed_37 : decode cX9_feed 37 = .ok (.iload 5, 2) := by decide +kernel
theorem dX9_feed_39 : decode cX9_feed 39 = .ok (.invokevirtual 83, 3) := by decide +kernel
theorem dX9_feed_42 : decode cX9_feed 42 = .ok (.aload_n 0, 1) := by decide +kernel
theorem dX9_feed_43 : decode cX9_feed 43 = .ok (.getfield 79, 3) := by decide +kernel
theorem dX9_feed_46 : decode cX9_feed 46 = .ok (.ireturn, 1) := by decide +kernel
theorem dX9_fine_0 : decode cX9_fine 0 = .ok (.aload_n 0, 1) := by decide +kernel
theorem dX9_fine_1 : decode cX9_fine 1 = .ok (.invokevirtual 301, 3) := by decide +kernel
theorem dX9_fine_4 : decode cX9_fine 4 = .ok (.ifCond .eq 15, 3) := by decide +kernel
theorem dX9_fine_7 : decode cX9_fine 7 = .ok (.iload_n 1, 1) := by decide +kernel
theorem dX9_fine_8 : decode cX9_fine 8 = .ok (.i2l, 1) := by decide +kernel
theorem dX9_fine_9 : decode cX9_fine 9 = .ok (.lconst 0, 1) := by decide +kernel
theorem dX9_fine_10 : decode cX9_fine 10 = .ok (.ldc2_w 304, 3) := by decide +kernel
theorem dX9_fine_13 : decode cX9_fine 13 = .ok (.invokestatic 118, 3) := by decide +kernel
theorem dX9_fine_16 : decode cX9_fine 16 = .ok (.ifCond .ne 7, 3) := by decide +kernel
theorem dX9_fine_19 : decode cX9_fine 19 = .ok (.ldc_w 306, 3) := by decide +kernel
theorem dX9_fine_22 : decode cX9_fine 22 = .ok (.ireturn, 1) := by decide +kernel
theorem dX9_fine_23 : decode cX9_fine 23 = .ok (.aload_n 0, 1) := by decide +kernel
theorem dX9_fine_24 : decode cX9_fine 24 = .ok (.getfield 42, 3) := by decide +kernel
theorem dX9_fine_27 : decode cX9_fine 27 = .ok (.iconst 4, 1) := by decide +kernel
theorem dX9_fine_28 : decode cX9_fine 28 = .ok (.dup2, 1) := by decide +kernel
theorem dX9_fine_29 : decode cX9_fine 29 = .ok (.iaload, 1) := by decide +kernel
theorem dX9_fine_30 : decode cX9_fine 30 = .ok (.iload_n 1, 1) := by decide +kernel
theorem dX9_fine_31 : decode cX9_fine 31 = .ok (.isub, 1) := by decide +kernel
theorem dX9_fine_32 : decode cX9_fine 32 = .ok (.iastore, 1) := by decide +kernel
theorem dX9_fine_33 : decode cX9_fine 33 = .ok (.aload_n 0, 1) := by decide +kernel
theorem dX9_fine_34 : decode cX9_fine 34 = .ok (.getfield 42, 3) := by decide +kernel
theorem dX9_fine_37 : decode cX9_fine 37 = .ok (.iconst 4, 1) := by decide +kernel
theorem dX9_fine_38 : decode cX9_fine 38 = .ok (.iaload, 1) := by decide +kernel
theorem dX9_fine_39 : decode cX9_fine 39 = .ok (.ireturn, 1) := by decide +kernel
theorem dX9_fits_0 : decode cX9_fits 0 = .ok (.aload_n 0, 1) := by decide +kernel
theorem dX9_fits_1 : decode cX9_fits 1 = .ok (.invokevirtual 301, 3) := by decide +kernel
theorem dX9_fits_4 : decode cX9_fits 4 = .ok (.ifCond .eq 27, 3) := by decide +kernel
theorem dX9_fits_7 : decode cX9_fits 7 = .ok (.iload_n 1, 1) := by decide +kernel
theorem dX9_fits_8 : decode cX9_fits 8 = .ok (.i2l, 1) := by decide +kernel
theorem dX9_fits_9 : decode cX9_fits 9 = .ok (.lconst 0, 1) := by decide +kernel
theorem dX9_fits_10 : decode cX9_fits 10 = .ok (.ldc2_w 407, 3) := by decide +kernel
theorem dX9_fits_13 : decode cX9_fits 13 = .ok (.invokestatic 118, 3) := by decide +kernel
theorem dX9_fits_16 : decode cX9_fits 16 = .ok (.ifCond .eq 15, 3) := by decide +kernel
theorem dX9_fits_19 : decode cX9_fits 19 = .ok (.iload_n 2, 1) := by decide +kernel
theorem dX9_fits_20 : decode cX9_fits 20 = .ok (.i2l, 1) := by decide +kernel
theorem dX9_fits_21 : decode cX9_fits 21 = .ok (.lconst 0, 1) := by decide +kernel
theorem dX9_fits_22 : decode cX9_fits 22 = .ok (.ldc2_w 278, 3) := by decide +kernel
theorem dX9_fits_25 : decode cX9_fits 25 = .ok (.invokestatic 118, 3) := by decide +kernel
theorem dX9_fits_28 : decode cX9_fits 28 = .ok (.ifCond .ne 5, 3) := by decide +kernel
theorem dX9_fits_31 : decode cX9_fits 31 = .ok (.iconst (-1), 1) := by decide +kernel
theorem dX9_fits_32 : decode cX9_fits 32 = .ok (.ireturn, 1) := by decide +kernel
theorem dX9_fits_33 : decode cX9_fits 33 = .ok (.iconst 1, 1) := by decide +kernel
theorem dX9_fits_34 : decode cX9_fits 34 = .ok (.aload_n 0, 1) := by decide +kernel
theorem dX9_fits_35 : decode cX9_fits 35 = .ok (.getfield 42, 3) := by decide +kernel
theorem dX9_fits_38 : decode cX9_fits 38 = .ok (.iconst 0, 1) := by decide +kernel
theorem dX9_fits_39 : decode cX9_fits 39 = .ok (.iaload, 1) := by decide +kernel
theorem dX9_fits_40 : decode cX9_fits 40 = .ok (.ishl, 1) := by decide +kernel
theorem dX9_fits_41 : decode cX9_fits 41 = .ok (.iconst 1, 1) := by decide +kernel
theorem dX9_fits_42 : decode cX9_fits 42 = .ok (.isub, 1) := by decide +kernel
theorem dX9_fits_43 : decode cX9_fits 43 = .ok (.istore_n 3, 1) := by decide +kernel
theorem dX9_fits_44 : decode cX9_fits 44 = .ok (.iconst 0, 1) := by decide +kernel
theorem dX9_fits_45 : decode cX9_fits 45 = .ok (.istore 4, 2) := by decide +kernel
theorem dX9_fits_47 : decode cX9_fits 47 = .ok (.iload_n 3, 1) := by decide +kernel
theorem dX9_fits_48 : decode cX9_fits 48 = .ok (.istore 5, 2) := by decide +kernel
theorem dX9_fits_50 : decode cX9_fits 50 = .ok (.iload_n 3, 1) := by decide +kernel
theorem dX9_fits_51 : decode cX9_fits 51 = .ok (.istore 6, 2) := by decide +kernel
theorem dX9_fits_53 : decode cX9_fits 53 = .ok (.iconst 0, 1) := by decide +kernel
theorem dX9_fits_54 : decode cX9_fits 54 = .ok (.istore 7, 2) := by decide +kernel
theorem dX9_fits_56 : decode cX9_fits 56 = .ok (.iload 7, 2) := by decide +kernel
theorem dX9_fits_58 : decode cX9_fits 58 = .ok (.iload_n 3, 1) := by decide +kernel
theorem dX9_fits_59 : decode cX9_fits 59 = .ok (.if_icmp .gt 41, 3) := by decide +kernel
theorem dX9_fits_62 : decode cX9_fits 62 = .ok (.aload_n 0, 1) := by decide +kernel
theorem dX9_fits_63 : decode cX9_fits 63 = .ok (.iload 7, 2) := by decide +kernel
theorem dX9_fits_65 : decode cX9_fits 65 = .ok (.iload_n 1, 1) := by decide +kernel
theorem dX9_fits_66 : decode cX9_fits 66 = .ok (.invokevirtual 409, 3) := by decide +kernel
theorem dX9_fits_69 : decode cX9_fits 69 = .ok (.ifCond .ne 6, 3) := by decide +kernel
theorem dX9_fits_72 : decode cX9_fits 72 = .ok (.goto 22, 3) := by decide +kernel
theorem dX9_fits_75 : decode cX9_fits 75 = .ok (.iload 5, 2) := by decide +kernel
theorem dX9_fits_77 : decode cX9_fits 77 = .ok (.iload 7, 2) := by decide +kernel
theorem dX9_fits_79 : decode cX9_fits 79 = .ok (.iand, 1) := by decide +kernel
theorem dX9_fits_80 : decode cX9_fits 80 = .ok (.istore 5, 2) := by decide +kernel
theorem dX9_fits_82 : decode cX9_fits 82 = .ok (.iload 6, 2) := by decide +kernel
theorem dX9_fits_84 : decode cX9_fits 84 = .ok (.iload 7, 2) := by decide +kernel
theorem dX9_fits_86 : decode cX9_fits 86 = .ok (.iconst (-1), 1) := by decide +kernel
theorem dX9_fits_87 : decode cX9_fits 87 = .ok (.ixor, 1) := by decide +kernel
theorem dX9_fits_88 : decode cX9_fits 88 = .ok (.iand, 1) := by decide +kernel
theorem dX9_fits_89 : decode cX9_fits 89 = .ok (.istore 6, 2) := by decide +kernel
theorem dX9_fits_91 : decode cX9_fits 91 = .ok (.iinc 4 1, 3) := by decide +kernel
theorem dX9_fits_94 : decode cX9_fits 94 = .ok (.iinc 7 1, 3) := by decide +kernel
theorem dX9_fits_97 : decode cX9_fits 97 = .ok (.goto (-41), 3) := by decide +kernel
theorem dX9_fits_100 : decode cX9_fits 100 = .ok (.iload_n 2, 1) := by decide +kernel
theorem dX9_fits_101 : decode cX9_fits 101 = .ok (.ifCond .ne 8, 3) := by decide +kernel
theorem dX9_fits_104 : decode cX9_fits 104 = .ok (.iload 4, 2) := by decide +kernel
theorem dX9_fits_106 : decode cX9_fits 106 = .ok (.goto 24, 3) := by decide +kernel
theorem dX9_fits_109 : decode cX9_fits 109 = .ok (.iload 4, 2) := by decide +kernel
theorem dX9_fits_111 : decode cX9_fits 111 = .ok (.ifCond .ne 7, 3) := by decide +kernel
theorem dX9_fits_114 : decode cX9_fits 114 = .ok (.iconst 0, 1) := by decide +kernel
theorem dX9_fits_115 : decode cX9_fits 115 = .ok (.goto 15, 3) := by decide +kernel
theorem dX9_fits_118 : decode cX9_fits 118 = .ok (.iload_n 2, 1) := by decide +kernel
theorem dX9_fits_119 : decode cX9_fits 119 = .ok (.iconst 1, 1) := by decide +kernel
theorem dX9_fits_120 : decode cX9_fits 120 = .ok (.if_icmp .ne 8, 3) := by decide +kernel
theorem dX9_fits_123 : decode cX9_fits 123 = .ok (.iload 5, 2) := by decide +kernel
theorem dX9_fits_125 : decode cX9_fits 125 = .ok (.goto 5, 3) := by decide +kernel
theorem dX9_fits_128 : decode cX9_fits 128 = .ok (.iload 6, 2) := by decide +kernel
theorem dX9_fits_130 : decode cX9_fits 130 = .ok (.ireturn, 1) := by decide +kernel
theorem dX9_four_0 : decode cX9_four 0 = .ok (.bipush 24, 2) := by decide +kernel
theorem dX9_four_2 : decode cX9_four 2 = .ok (.istore_n 2, 1) := by decide +kernel
theorem dX9_four_3 : decode cX9_four 3 = .ok (.iload_n 2, 1) := by decide +kernel
theorem dX9_four_4 : decode cX9_four 4 = .ok (.ifCond .lt 32, 3) := by decide +kernel
theorem dX9_four_7 : decode cX9_four 7 = .ok (.aload_n 0, 1) := by decide +kernel
theorem dX9_four_8 : decode cX9_four 8 = .ok (.getfield 7, 3) := by decide +kernel
theorem dX9_four_11 : decode cX9_four 11 = .ok (.aload_n 0, 1) := by decide +kernel
theorem dX9_four_12 : decode cX9_four 12 = .ok (.getfield 79, 3) := by decide +kernel
theorem dX9_four_15 : decode cX9_four 15 = .ok (.iload_n 1, 1) := by decide +kernel
theorem dX9_four_16 : decode cX9_four 16 = .ok (.iload_n 2, 1) := by decide +kernel
theorem dX9_four_17 : decode cX9_four 17 = .ok (.ishr, 1) := by decide +kernel
theorem dX9_four_18 : decode cX9_four 18 = .ok (.i2b, 1) := by decide +kernel
theorem dX9_four_19 : decode cX9_four 19 = .ok (.bastore, 1) := by decide +kernel
theorem dX9_four_20 : decode cX9_four 20 = .ok (.aload_n 0, 1) := by decide +kernel
theorem dX9_four_21 : decode cX9_four 21 = .ok (.dup, 1) := by decide +kernel
theorem dX9_four_22 : decode cX9_four 22 = .ok (.getfield 79, 3) := by decide +kernel
theorem dX9_four_25 : decode cX9_four 25 = .ok (.iconst 1, 1) := by decide +kernel
theorem dX9_four_26 : decode cX9_four 26 = .ok (.iadd, 1) := by decide +kernel
theorem dX9_four_27 : decode cX9_four 27 = .ok (.putfield 79, 3) := by decide +kernel
theorem dX9_four_30 : decode cX9_four 30 = .ok (.iinc 2 (-8), 3) := by decide +kernel
theorem dX9_four_33 : decode cX9_four 33 = .ok (.goto (-30), 3) := by decide +kernel
theorem dX9_four_36 : decode cX9_four 36 = .ok (.return_, 1) := by decide +kernel
theorem dX9_game_0 : decode cX9_game 0 = .ok (.iload_n 1, 1) := by decide +kernel
theorem dX9_game_1 : decode cX9_game 1 = .ok (.i2l, 1) := by decide +kernel
theorem dX9_game_2 : decode cX9_game 2 = .ok (.lconst 0, 1) := by decide +kernel
theorem dX9_game_3 : decode cX9_game 3 = .ok (.ldc2_w 395, 3) := by decide +kernel
theorem dX9_game_6 : decode cX9_game 6 = .ok (.invokestatic 118, 3) := by decide +kernel
theorem dX9_game_9 : decode cX9_game 9 = .ok (.ifCond .eq 17, 3) := by decide +kernel
theorem dX9_game_12 : decode cX9_game 12 = .ok (.iload_n 2, 1) := by decide +kernel
theorem dX9_game_13 : decode cX9_game 13 = .ok (.i2l, 1) := by decide +kernel
theorem dX9_game_14 : decode cX9_game 14 = .ok (.ldc2_w 397, 3) := by decide +kernel
theorem dX9_game_17 : decode cX9_game 17 = .ok (.ldc2_w 399, 3) := by decide +kernel
theorem dX9_game_20 : decode cX9_game 20 = .ok (.invokestatic 118, 3) := by decide +kernel
theorem dX9_game_23 : decode cX9_game 23 = .ok (.ifCond .ne 7, 3) := by decide +kernel
theorem dX9_game_26 : decode cX9_game 26 = .ok (.sipush (-1000), 3) := by decide +kernel
theorem dX9_game_29 : decode cX9_game 29 = .ok (.ireturn, 1) := by decide +kernel
theorem dX9_game_30 : decode cX9_game 30 = .ok (.aload_n 0, 1) := by decide +kernel
theorem dX9_game_31 : decode cX9_game 31 = .ok (.getfield 42, 3) := by decide +kernel
theorem dX9_game_34 : decode cX9_game 34 = .ok (.bipush 18, 2) := by decide +kernel
theorem dX9_game_36 : decode cX9_game 36 = .ok (.iload_n 1, 1) := by decide +kernel
theorem dX9_game_37 : decode cX9_game 37 = .ok (.iadd, 1) := by decide +kernel
theorem dX9_game_38 : decode cX9_game 38 = .ok (.iaload, 1) := by decide +kernel
theorem dX9_game_39 : decode cX9_game 39 = .ok (.istore_n 3, 1) := by decide +kernel
theorem dX9_game_40 : decode cX9_game 40 = .ok (.aload_n 0, 1) := by decide +kernel
theorem dX9_game_41 : decode cX9_game 41 = .ok (.getfield 42, 3) := by decide +kernel
theorem dX9_game_44 : decode cX9_game 44 = .ok (.bipush 18, 2) := by decide +kernel
theorem dX9_game_46 : decode cX9_game 46 = .ok (.iload_n 1, 1) := by decide +kernel
theorem dX9_game_47 : decode cX9_game 47 = .ok (.iadd, 1) := by decide +kernel
theorem dX9_game_48 : decode cX9_game 48 = .ok (.iload_n 2, 1) := by decide +kernel
theorem dX9_game_49 : decode cX9_game 49 = .ok (.iastore, 1) := by decide +kernel
theorem dX9_game_50 : decode cX9_game 50 = .ok (.iload_n 3, 1) := by decide +kernel
theorem dX9_game_51 : decode cX9_game 51 = .ok (.ireturn, 1) := by decide +kernel
theorem dX9_gameOf_0 : decode cX9_gameOf 0 = .ok (.aload_n 0, 1) := by decide +kernel
theorem dX9_gameOf_1 : decode cX9_gameOf 1 = .ok (.getfield 42, 3) := by decide +kernel
theorem dX9_gameOf_4 : decode cX9_gameOf 4 = .ok (.bipush 18, 2) := by decide +kernel
theorem dX9_gameOf_6 : decode cX9_gameOf 6 = .ok (.iload_n 1, 1) := by decide +kernel
theorem dX9_gameOf_7 : decode cX9_gameOf 7 = .ok (.iadd, 1) := by decide +kernel
theorem dX9_gameOf_8 : decode cX9_gameOf 8 = .ok (.iaload, 1) := by decide +kernel
theorem dX9_gameOf_9 : decode cX9_gameOf 9 = .ok (.ireturn, 1) := by decide +kernel
theorem dX9_goesThrough_0 : decode cX9_goesThrough 0 = .ok (.iconst 0, 1) := by decide +kernel
theorem dX9_goesThrough_1 : decode cX9_goesThrough 1 = .ok (.istore_n 2, 1) := by decide +kernel
theorem dX9_goesThrough_2 : decode cX9_goesThrough 2 = .ok (.aload_n 0, 1) := by decide +kernel
theorem dX9_goesThrough_3 : decode cX9_goesThrough 3 = .ok (.iconst 0, 1) := by decide +kernel
theorem dX9_goesThrough_4 : decode cX9_goesThrough 4 = .ok (.iload_n 1, 1) := by decide +kernel
theorem dX9_goesThrough_5 : decode cX9_goesThrough 5 = .ok (.invokevirtual 378, 3) := by decide +kernel
theorem dX9_goesThrough_8 : decode cX9_goesThrough 8 = .ok (.iconst 1, 1) := by decide +kernel
theorem dX9_goesThrough_9 : decode cX9_goesThrough 9 = .ok (.istore_n 3, 1) := by decide +kernel
theorem dX9_goesThrough_10 : decode cX9_goesThrough 10 = .ok (.iload_n 2, 1) := by decide +kernel
theorem dX9_goesThrough_11 : decode cX9_goesThrough 11 = .ok (.ifCond .lt 111, 3) := by decide +kernel
theorem dX9_goesThrough_14 : decode cX9_goesThrough 14 = .ok (.iload_n 2, 1) := by decide +kernel
theorem dX9_goesThrough_15 : decode cX9_goesThrough 15 = .ok (.iload_n 1, 1) := by decide +kernel
theorem dX9_goesThrough_16 : decode cX9_goesThrough 16 = .ok (.if_icmp .eq 15, 3) := by decide +kernel
theorem dX9_goesThrough_19 : decode cX9_goesThrough 19 = .ok (.iload_n 3, 1) := by decide +kernel
theorem dX9_goesThrough_20 : decode cX9_goesThrough 20 = .ok (.ifCond .eq 82, 3) := by decide +kernel
theorem dX9_goesThrough_23 : decode cX9_goesThrough 23 = .ok (.aload_n 0, 1) := by decide +kernel
theorem dX9_goesThrough_24 : decode cX9_goesThrough 24 = .ok (.iload_n 2, 1) := by decide +kernel
theorem dX9_goesThrough_25 : decode cX9_goesThrough 25 = .ok (.invokevirtual 381, 3) := by decide +kernel
theorem dX9_goesThrough_28 : decode cX9_goesThrough 28 = .ok (.ifCond .ne 74, 3) := by decide +kernel
theorem dX9_goesThrough_31 : decode cX9_goesThrough 31 = .ok (.aload_n 0, 1) := by decide +kernel
theorem dX9_goesThrough_32 : decode cX9_goesThrough 32 = .ok (.getfield 61, 3) := by decide +kernel
theorem dX9_goesThrough_35 : decode cX9_goesThrough 35 = .ok (.iload_n 2, 1) := by decide +kernel
theorem dX9_goesThrough_36 : decode cX9_goesThrough 36 = .ok (.laload, 1) := by decide +kernel
theorem dX9_goesThrough_37 : decode cX9_goesThrough 37 = .ok (.lstore 4, 2) := by decide +kernel
theorem dX9_goesThrough_39 : decode cX9_goesThrough 39 = .ok (.aload_n 0, 1) := by decide +kernel
theorem dX9_goesThrough_40 : decode cX9_goesThrough 40 = .ok (.getfield 64, 3) := by decide +kernel
theorem dX9_goesThrough_43 : decode cX9_goesThrough 43 = .ok (.iload_n 2, 1) := by decide +kernel
theorem dX9_goesThrough_44 : decode cX9_goesThrough 44 = .ok (.laload, 1) := by decide +kernel
theorem dX9_goesThrough_45 : decode cX9_goesThrough 45 = .ok (.lstore 6, 2) := by decide +kernel
theorem dX9_goesThrough_47 : decode cX9_goesThrough 47 = .ok (.iinc 2 (-1), 3) := by decide +kernel
theorem dX9_goesThrough_50 : decode cX9_goesThrough 50 = .ok (.iload_n 2, 1) := by decide +kernel
theorem dX9_goesThrough_51 : decode cX9_goesThrough 51 = .ok (.ifCond .ge 4, 3) := by decide +kernel
theorem dX9_goesThrough_54 : decode cX9_goesThrough 54 = .ok (.return_, 1) := by decide +kernel
theorem dX9_goesThrough_55 : decode cX9_goesThrough 55 = .ok (.aload_n 0, 1) := by decide +kernel
theorem dX9_goesThrough_56 : decode cX9_goesThrough 56 = .ok (.getfield 51, 3) := by decide +kernel
theorem dX9_goesThrough_59 : decode cX9_goesThrough 59 = .ok (.iload_n 2, 1) := by decide +kernel
theorem dX9_goesThrough_60 : decode cX9_goesThrough 60 = .ok (.baload, 1) := by decide +kernel
theorem dX9_goesThrough_61 : decode cX9_goesThrough 61 = .ok (.istore 8, 2) := by decide +kernel
theorem dX9_goesThrough_63 : decode cX9_goesThrough 63 = .ok (.aload_n 0, 1) := by decide +kernel
theorem dX9_goesThrough_64 : decode cX9_goesThrough 64 = .ok (.iload_n 2, 1) := by decide +kernel
theorem dX9_goesThrough_65 : decode cX9_goesThrough 65 = .ok (.iload_n 1, 1) := by decide +kernel
theorem dX9_goesThrough_66 : decode cX9_goesThrough 66 = .ok (.lload 4, 2) := by decide +kernel
theorem dX9_goesThrough_68 : decode cX9_goesThrough 68 = .ok (.lload 6, 2) := by decide +kernel
theorem dX9_goesThrough_70 : decode cX9_goesThrough 70 = .ok (.invokevirtual 384, 3) := by decide +kernel
theorem dX9_goesThrough_73 : decode cX9_goesThrough 73 = .ok (.iload 8, 2) := by decide +kernel
theorem dX9_goesThrough_75 : decode cX9_goesThrough 75 = .ok (.ifCond .ne 7, 3) := by decide +kernel
theorem dX9_goesThrough_78 : decode cX9_goesThrough 78 = .ok (.iconst 1, 1) := by decide +kernel
theorem dX9_goesThrough_79 : decode cX9_goesThrough 79 = .ok (.goto 4, 3) := by decide +kernel
theorem dX9_goesThrough_82 : decode cX9_goesThrough 82 = .ok (.iconst 0, 1) := by decide +kernel
theorem dX9_goesThrough_83 : decode cX9_goesThrough 83 = .ok (.istore_n 3, 1) := by decide +kernel
theorem dX9_goesThrough_84 : decode cX9_goesThrough 84 = .ok (.iload_n 3, 1) := by decide +kernel
theorem dX9_goesThrough_85 : decode cX9_goesThrough 85 = .ok (.ifCond .ne (-75), 3) := by decide +kernel
theorem dX9_goesThrough_88 : decode cX9_goesThrough 88 = .ok (.iinc 2 1, 3) := by decide +kernel
theorem dX9_goesThrough_91 : decode cX9_goesThrough 91 = .ok (.aload_n 0, 1) := by decide +kernel
theorem dX9_goesThrough_92 : decode cX9_goesThrough 92 = .ok (.iload_n 2, 1) := by decide +kernel
theorem dX9_goesThrough_93 : decode cX9_goesThrough 93 = .ok (.iload_n 1, 1) := by decide +kernel
theorem dX9_goesThrough_94 : decode cX9_goesThrough 94 = .ok (.invokevirtual 378, 3) := by decide +kernel
theorem dX9_goesThrough_97 : decode cX9_goesThrough 97 = .ok (.iconst 1, 1) := by decide +kernel
theorem dX9_goesThrough_98 : decode cX9_goesThrough 98 = .ok (.istore_n 3, 1) := by decide +kernel
theorem dX9_goesThrough_99 : decode cX9_goesThrough 99 = .ok (.goto (-89), 3) := by decide +kernel
theorem dX9_goesThrough_102 : decode cX9_goesThrough 102 = .ok (.aload_n 0, 1) := by decide +kernel
theorem dX9_goesThrough_103 : decode cX9_goesThrough 103 = .ok (.iload_n 2, 1) := by decide +kernel
theorem dX9_goesThrough_104 : decode cX9_goesThrough 104 = .ok (.iconst 1, 1) := by decide +kernel
theorem dX9_goesThrough_105 : decode cX9_goesThrough 105 = .ok (.invokevirtual 374, 3) := by decide +kernel
theorem dX9_goesThrough_108 : decode cX9_goesThrough 108 = .ok (.iinc 2 1, 3) := by decide +kernel
theorem dX9_goesThrough_111 : decode cX9_goesThrough 111 = .ok (.aload_n 0, 1) := by decide +kernel
theorem dX9_goesThrough_112 : decode cX9_goesThrough 112 = .ok (.iload_n 2, 1) := by decide +kernel
theorem dX9_goesThrough_113 : decode cX9_goesThrough 113 = .ok (.iload_n 1, 1) := by decide +kernel
theorem dX9_goesThrough_114 : decode cX9_goesThrough 114 = .ok (.invokevirtual 378, 3) := by decide +kernel
theorem dX9_goesThrough_117 : decode cX9_goesThrough 117 = .ok (.iconst 1, 1) := by decide +kernel
theorem dX9_goesThrough_118 : decode cX9_goesThrough 118 = .ok (.istore_n 3, 1) := by decide +kernel
theorem dX9_goesThrough_119 : decode cX9_goesThrough 119 = .ok (.goto (-109), 3) := by decide +kernel
theorem dX9_goesThrough_122 : decode cX9_goesThrough 122 = .ok (.return_, 1) := by decide +kernel
theorem dX9_hidden_0 : decode cX9_hidden 0 = .ok (.iconst 0, 1) := by decide +kernel
theorem dX9_hidden_1 : decode cX9_hidden 1 = .ok (.istore_n 1, 1) := by decide +kernel
theorem dX9_hidden_2 : decode cX9_hidden 2 = .ok (.iconst 0, 1) := by decide +kernel
theorem dX9_hidden_3 : decode cX9_hidden 3 = .ok (.istore_n 2, 1) := by decide +kernel
theorem dX9_hidden_4 : decode cX9_hidden 4 = .ok (.iload_n 2, 1) := by decide +kernel
theorem dX9_hidden_5 : decode cX9_hidden 5 = .ok (.aload_n 0, 1) := by decide +kernel
theorem dX9_hidden_6 : decode cX9_hidden 6 = .ok (.getfield 42, 3) := by decide +kernel
theorem dX9_hidden_9 : decode cX9_hidden 9 = .ok (.iconst 0, 1) := by decide +kernel
theorem dX9_hidden_10 : decode cX9_hidden 10 = .ok (.iaload, 1) := by decide +kernel
theorem dX9_hidden_11 : decode cX9_hidden 11 = .ok (.if_icmp .ge 31, 3) := by decide +kernel
theorem dX9_hidden_14 : decode cX9_hidden 14 = .ok (.iload_n 1, 1) := by decide +kernel
theorem dX9_hidden_15 : decode cX9_hidden 15 = .ok (.aload_n 0, 1) := by decide +kernel
theorem dX9_hidden_16 : decode cX9_hidden 16 = .ok (.iload_n 2, 1) := by decide +kernel
theorem dX9_hidden_17 : decode cX9_hidden 17 = .ok (.iconst 4, 1) := by decide +kernel
theorem dX9_hidden_18 : decode cX9_hidden 18 = .ok (.invokevirtual 268, 3) := by decide +kernel
theorem dX9_hidden_21 : decode cX9_hidden 21 = .ok (.ifCond .ne 12, 3) := by decide +kernel
theorem dX9_hidden_24 : decode cX9_hidden 24 = .ok (.aload_n 0, 1) := by decide +kernel
theorem dX9_hidden_25 : decode cX9_hidden 25 = .ok (.iload_n 2, 1) := by decide +kernel
theorem dX9_hidden_26 : decode cX9_hidden 26 = .ok (.iconst 1, 1) := by decide +kernel
theorem dX9_hidden_27 : decode cX9_hidden 27 = .ok (.invokevirtual 275, 3) := by decide +kernel
theorem dX9_hidden_30 : decode cX9_hidden 30 = .ok (.goto 4, 3) := by decide +kernel
theorem dX9_hidden_33 : decode cX9_hidden 33 = .ok (.iconst 0, 1) := by decide +kernel
theorem dX9_hidden_34 : decode cX9_hidden 34 = .ok (.iadd, 1) := by decide +kernel
theorem dX9_hidden_35 : decode cX9_hidden 35 = .ok (.istore_n 1, 1) := by decide +kernel
theorem dX9_hidden_36 : decode cX9_hidden 36 = .ok (.iinc 2 1, 3) := by decide +kernel
theorem dX9_hidden_39 : decode cX9_hidden 39 = .ok (.goto (-35), 3) := by decide +kernel
theorem dX9_hidden_42 : decode cX9_hidden 42 = .ok (.iload_n 1, 1) := by decide +kernel
theorem dX9_hidden_43 : decode cX9_hidden 43 = .ok (.ireturn, 1) := by decide +kernel
theorem dX9_hundreds_0 : decode cX9_hundreds 0 = .ok (.lconst 1, 1) := by decide +kernel
theorem dX9_hundreds_1 : decode cX9_hundreds 1 = .ok (.lstore_n 2, 1) := by decide +kernel
theorem dX9_hundreds_2 : decode cX9_hundreds 2 = .ok (.iconst 0, 1) := by decide +kernel
theorem dX9_hundreds_3 : decode cX9_hundreds 3 = .ok (.istore 4, 2) := by decide +kernel
theorem dX9_hundreds_5 : decode cX9_hundreds 5 = .ok (.iload 4, 2) := by decide +kernel
theorem dX9_hundreds_7 : decode cX9_hundreds 7 = .ok (.iload_n 1, 1) := by decide +kernel
theorem dX9_hundreds_8 : decode cX9_hundreds 8 = .ok (.if_icmp .ge 15, 3) := by decide +kernel
theorem dX9_hundreds_11 : decode cX9_hundreds 11 = .ok (.lload_n 2, 1) := by decide +kernel
theorem dX9_hundreds_12 : decode cX9_hundreds 12 = .ok (.ldc2_w 352, 3) := by decide +kernel
theorem dX9_hundreds_15 : decode cX9_hundreds 15 = .ok (.lmul, 1) := by decide +kernel
theorem dX9_hundreds_16 : decode cX9_hundreds 16 = .ok (.lstore_n 2, 1) := by decide +kernel
theorem dX9_hundreds_17 : decode cX9_hundreds 17 = .ok (.iinc 4 1, 3) := by decide +kernel
theorem dX9_hundreds_20 : decode cX9_hundreds 20 = .ok (.goto (-15), 3) := by decide +kernel
theorem dX9_hundreds_23 : decode cX9_hundreds 23 = .ok (.lload_n 2, 1) := by decide +kernel
theorem dX9_hundreds_24 : decode cX9_hundreds 24 = .ok (.lreturn, 1) := by decide +kernel
theorem dX9_image_0 : decode cX9_image 0 = .ok (.iload_n 1, 1) := by decide +kernel
theorem dX9_image_1 : decode cX9_image 1 = .ok (.i2l, 1) := by decide +kernel
theorem dX9_image_2 : decode cX9_image 2 = .ok (.lconst 0, 1) := by decide +kernel
theorem dX9_image_3 : decode cX9_image 3 = .ok (.ldc2_w 414, 3) := by decide +kernel
theorem dX9_image_6 : decode cX9_image 6 = .ok (.invokestatic 118, 3) := by decide +kernel
theorem dX9_image_9 : decode cX9_image 9 = .ok (.ifCond .ne 5, 3) := by decide +kernel
theorem dX9_image_12 : decode cX9_image 12 = .ok (.iconst (-1), 1) := by decide +kernel
theorem dX9_image_13 : decode cX9_image 13 = .ok (.ireturn, 1) := by decide +kernel
theorem dX9_image_14 : decode cX9_image 14 = .ok (.aload_n 0, 1) := by decide +kernel
theorem dX9_image_15 : decode cX9_image 15 = .ok (.getfield 76, 3) := by decide +kernel
theorem dX9_image_18 : decode cX9_image 18 = .ok (.iload_n 1, 1) := by decide +kernel
theorem dX9_image_19 : decode cX9_image 19 = .ok (.iconst 1, 1) := by decide +kernel
theorem dX9_image_20 : decode cX9_image 20 = .ok (.bastore, 1) := by decide +kernel
theorem dX9_image_21 : decode cX9_image 21 = .ok (.iconst 0, 1) := by decide +kernel
theorem dX9_image_22 : decode cX9_image 22 = .ok (.istore_n 2, 1) := by decide +kernel
theorem dX9_image_23 : decode cX9_image 23 = .ok (.iload_n 2, 1) := by decide +kernel
theorem dX9_image_24 : decode cX9_image 24 = .ok (.bipush 104, 2) := by decide +kernel
theorem dX9_image_26 : decode cX9_image 26 = .ok (.if_icmp .ge 26, 3) := by decide +kernel
theorem dX9_image_29 : decode cX9_image 29 = .ok (.aload_n 0, 1) := by decide +kernel
theorem dX9_image_30 : decode cX9_image 30 = .ok (.getfield 73, 3) := by decide +kernel
theorem dX9_image_33 : decode cX9_image 33 = .ok (.bipush 104, 2) := by decide +kernel
theorem dX9_image_35 : decode cX9_image 35 = .ok (.iload_n 1, 1) := by decide +kernel
theorem dX9_image_36 : decode cX9_image 36 = .ok (.imul, 1) := by decide +kernel
theorem dX9_image_37 : decode cX9_image 37 = .ok (.iload_n 2, 1) := by decide +kernel
theorem dX9_image_38 : decode cX9_image 38 = .ok (.iadd, 1) := by decide +kernel
theorem dX9_image_39 : decode cX9_image 39 = .ok (.aload_n 0, 1) := by decide +kernel
theorem dX9_image_40 : decode cX9_image 40 = .ok (.getfield 42, 3) := by decide +kernel
theorem dX9_image_43 : decode cX9_image 43 = .ok (.iload_n 2, 1) := by decide +kernel
theorem dX9_image_44 : decode cX9_image 44 = .ok (.iaload, 1) := by decide +kernel
theorem dX9_image_45 : decode cX9_image 45 = .ok (.iastore, 1) := by decide +kernel
theorem dX9_image_46 : decode cX9_image 46 = .ok (.iinc 2 1, 3) := by decide +kernel
theorem dX9_image_49 : decode cX9_image 49 = .ok (.goto (-26), 3) := by decide +kernel
theorem dX9_image_52 : decode cX9_image 52 = .ok (.aload_n 0, 1) := by decide +kernel
theorem dX9_image_53 : decode cX9_image 53 = .ok (.getfield 42, 3) := by decide +kernel
theorem dX9_image_56 : decode cX9_image 56 = .ok (.bipush 7, 2) := by decide +kernel
theorem dX9_image_58 : decode cX9_image 58 = .ok (.iaload, 1) := by decide +kernel
theorem dX9_image_59 : decode cX9_image 59 = .ok (.ireturn, 1) := by decide +kernel
theorem dX9_in_0 : decode cX9_in 0 = .ok (.lload_n 0, 1) := by decide +kernel
theorem dX9_in_1 : decode cX9_in 1 = .ok (.lload_n 2, 1) := by decide +kernel
theorem dX9_in_2 : decode cX9_in 2 = .ok (.lcmp, 1) := by decide +kernel
theorem dX9_in_3 : decode cX9_in 3 = .ok (.ifCond .lt 14, 3) := by decide +kernel
theorem dX9_in_6 : decode cX9_in 6 = .ok (.lload_n 0, 1) := by decide +kernel
theorem dX9_in_7 : decode cX9_in 7 = .ok (.lload 4, 2) := by decide +kernel
theorem dX9_in_9 : decode cX9_in 9 = .ok (.lcmp, 1) := by decide +kernel
theorem dX9_in_10 : decode cX9_in 10 = .ok (.ifCond .gt 7, 3) := by decide +kernel
theorem dX9_in_13 : decode cX9_in 13 = .ok (.iconst 1, 1) := by decide +kernel
theorem dX9_in_14 : decode cX9_in 14 = .ok (.goto 4, 3) := by decide +kernel
theorem dX9_in_17 : decode cX9_in 17 = .ok (.iconst 0, 1) := by decide +kernel
theorem dX9_in_18 : decode cX9_in 18 = .ok (.ireturn, 1) := by decide +kernel
theorem dX9_isDigit_0 : decode cX9_isDigit 0 = .ok (.iload_n 1, 1) := by decide +kernel
theorem dX9_isDigit_1 : decode cX9_isDigit 1 = .ok (.aload_n 0, 1) := by decide +kernel
theorem dX9_isDigit_2 : decode cX9_isDigit 2 = .ok (.getfield 79, 3) := by decide +kernel
theorem dX9_isDigit_5 : decode cX9_isDigit 5 = .ok (.if_icmp .ge 29, 3) := by decide +kernel
theorem dX9_isDigit_8 : decode cX9_isDigit 8 = .ok (.aload_n 0, 1) := by decide +kernel
theorem dX9_isDigit_9 : decode cX9_isDigit 9 = .ok (.getfield 7, 3) := by decide +kernel
theorem dX9_isDigit_12 : decode cX9_isDigit 12 = .ok (.iload_n 1, 1) := by decide +kernel
theorem dX9_isDigit_13 : decode cX9_isDigit 13 = .ok (.baload, 1) := by decide +kernel
theorem dX9_isDigit_14 : decode cX9_isDigit 14 = .ok (.bipush 48, 2) := by decide +kernel
theorem dX9_isDigit_16 : decode cX9_isDigit 16 = .ok (.if_icmp .lt 18, 3) := by decide +kernel
theorem dX9_isDigit_19 : decode cX9_isDigit 19 = .ok (.aload_n 0, 1) := by decide +kernel
theorem dX9_isDigit_20 : decode cX9_isDigit 20 = .ok (.getfield 7, 3) := by decide +kernel
theorem dX9_isDigit_23 : decode cX9_isDigit 23 = .ok (.iload_n 1, 1) := by decide +kernel
theorem dX9_isDigit_24 : decode cX9_isDigit 24 = .ok (.baload, 1) := by decide +kernel
theorem dX9_isDigit_25 : decode cX9_isDigit 25 = .ok (.bipush 57, 2) := by decide +kernel
theorem dX9_isDigit_27 : decode cX9_isDigit 27 = .ok (.if_icmp .gt 7, 3) := by decide +kernel
theorem dX9_isDigit_30 : decode cX9_isDigit 30 = .ok (.iconst 1, 1) := by decide +kernel
theorem dX9_isDigit_31 : decode cX9_isDigit 31 = .ok (.goto 4, 3) := by decide +kernel
theorem dX9_isDigit_34 : decode cX9_isDigit 34 = .ok (.iconst 0, 1) := by decide +kernel
theorem dX9_isDigit_35 : decode cX9_isDigit 35 = .ok (.ireturn, 1) := by decide +kernel
theorem dX9_isDoingHere_0 : decode cX9_isDoingHere 0 = .ok (.aload_n 0, 1) := by decide +kernel
theorem dX9_isDoingHere_1 : decode cX9_isDoingHere 1 = .ok (.invokevirtual 105, 3) := by decide +kernel
theorem dX9_isDoingHere_4 : decode cX9_isDoingHere 4 = .ok (.bipush 60, 2) := by decide +kernel
theorem dX9_isDoingHere_6 : decode cX9_isDoingHere 6 = .ok (.aload_n 0, 1) := by decide +kernel
theorem dX9_isDoingHere_7 : decode cX9_isDoingHere 7 = .ok (.getfield 140, 3) := by decide +kernel
theorem dX9_isDoingHere_10 : decode cX9_isDoingHere 10 = .ok (.imul, 1) := by decide +kernel
theorem dX9_isDoingHere_11 : decode cX9_isDoingHere 11 = .ok (.iconst 5, 1) := by decide +kernel
theorem dX9_isDoingHere_12 : decode cX9_isDoingHere 12 = .ok (.aload_n 0, 1) := by decide +kernel
theorem dX9_isDoingHere_13 : decode cX9_isDoingHere 13 = .ok (.getfield 23, 3) := by decide +kernel
theorem dX9_isDoingHere_16 : decode cX9_isDoingHere 16 = .ok (.aload_n 0, 1) := by decide +kernel
theorem dX9_isDoingHere_17 : decode cX9_isDoingHere 17 = .ok (.getfield 140, 3) := by decide +kernel
theorem dX9_isDoingHere_20 : decode cX9_isDoingHere 20 = .ok (.iaload, 1) := by decide +kernel
theorem dX9_isDoingHere_21 : decode cX9_isDoingHere 21 = .ok (.imul, 1) := by decide +kernel
theorem dX9_isDoingHere_22 : decode cX9_isDoingHere 22 = .ok (.iadd, 1) := by decide +kernel
theorem dX9_isDoingHere_23 : decode cX9_isDoingHere 23 = .ok (.istore_n 2, 1) := by decide +kernel
theorem dX9_isDoingHere_24 : decode cX9_isDoingHere 24 = .ok (.aload_n 0, 1) := by decide +kernel
theorem dX9_isDoingHere_25 : decode cX9_isDoingHere 25 = .ok (.getfield 20, 3) := by decide +kernel
theorem dX9_isDoingHere_28 : decode cX9_isDoingHere 28 = .ok (.iload_n 2, 1) := by decide +kernel
theorem dX9_isDoingHere_29 : decode cX9_isDoingHere 29 = .ok (.iload_n 1, 1) := by decide +kernel
theorem dX9_isDoingHere_30 : decode cX9_isDoingHere 30 = .ok (.iastore, 1) := by decide +kernel
theorem dX9_isDoingHere_31 : decode cX9_isDoingHere 31 = .ok (.aload_n 0, 1) := by decide +kernel
theorem dX9_isDoingHere_32 : decode cX9_isDoingHere 32 = .ok (.getfield 20, 3) := by decide +kernel
theorem dX9_isDoingHere_35 : decode cX9_isDoingHere 35 = .ok (.iload_n 2, 1) := by decide +kernel
theorem dX9_isDoingHere_36 : decode cX9_isDoingHere 36 = .ok (.iconst 3, 1) := by decide +kernel
theorem dX9_isDoingHere_37 : decode cX9_isDoingHere 37 = .ok (.iadd, 1) := by decide +kernel
theorem dX9_isDoingHere_38 : decode cX9_isDoingHere 38 = .ok (.iconst (-1), 1) := by decide +kernel
theorem dX9_isDoingHere_39 : decode cX9_isDoingHere 39 = .ok (.iastore, 1) := by decide +kernel
theorem dX9_isDoingHere_40 : decode cX9_isDoingHere 40 = .ok (.iload_n 1, 1) := by decide +kernel
theorem dX9_isDoingHere_41 : decode cX9_isDoingHere 41 = .ok (.ifCond .ne 46, 3) := by decide +kernel
theorem dX9_isDoingHere_44 : decode cX9_isDoingHere 44 = .ok (.aload_n 0, 1) := by decide +kernel
theorem dX9_isDoingHere_45 : decode cX9_isDoingHere 45 = .ok (.getfield 20, 3) := by decide +kernel
theorem dX9_isDoingHere_48 : decode cX9_isDoingHere 48 = .ok (.iload_n 2, 1) := by decide +kernel
theorem dX9_isDoingHere_49 : decode cX9_isDoingHere 49 = .ok (.iconst 1, 1) := by decide +kernel
theorem dX9_isDoingHere_50 : decode cX9_isDoingHere 50 = .ok (.iadd, 1) := by decide +kernel
theorem dX9_isDoingHere_51 : decode cX9_isDoingHere 51 = .ok (.aload_n 0, 1) := by decide +kernel
theorem dX9_isDoingHere_52 : decode cX9_isDoingHere 52 = .ok (.getfield 17, 3) := by decide +kernel
theorem dX9_isDoingHere_55 : decode cX9_isDoingHere 55 = .ok (.aload_n 0, 1) := by decide +kernel
theorem dX9_isDoingHere_56 : decode cX9_isDoingHere 56 = .ok (.getfield 140, 3) := by decide +kernel
theorem dX9_isDoingHere_59 : decode cX9_isDoingHere 59 = .ok (.iaload, 1) := by decide +kernel
theorem dX9_isDoingHere_60 : decode cX9_isDoingHere 60 = .ok (.iastore, 1) := by decide +kernel
theorem dX9_isDoingHere_61 : decode cX9_isDoingHere 61 = .ok (.aload_n 0, 1) := by decide +kernel
theorem dX9_isDoingHere_62 : decode cX9_isDoingHere 62 = .ok (.invokevirtual 177, 3) := by decide +kernel
theorem dX9_isDoingHere_65 : decode cX9_isDoingHere 65 = .ok (.ifCond .ne 5, 3) := by decide +kernel
theorem dX9_isDoingHere_68 : decode cX9_isDoingHere 68 = .ok (.iconst 0, 1) := by decide +kernel
theorem dX9_isDoingHere_69 : decode cX9_isDoingHere 69 = .ok (.ireturn, 1) := by decide +kernel
theorem dX9_isDoingHere_70 : decode cX9_isDoingHere 70 = .ok (.aload_n 0, 1) := by decide +kernel
theorem dX9_isDoingHere_71 : decode cX9_isDoingHere 71 = .ok (.getfield 20, 3) := by decide +kernel
theorem dX9_isDoingHere_74 : decode cX9_isDoingHere 74 = .ok (.iload_n 2, 1) := by decide +kernel
theorem dX9_isDoingHere_75 : decode cX9_isDoingHere 75 = .ok (.iconst 2, 1) := by decide +kernel
theorem dX9_isDoingHere_76 : decode cX9_isDoingHere 76 = .ok (.iadd, 1) := by decide +kernel
theorem dX9_isDoingHere_77 : decode cX9_isDoingHere 77 = .ok (.aload_n 0, 1) := by decide +kernel
theorem dX9_isDoingHere_78 : decode cX9_isDoingHere 78 = .ok (.getfield 17, 3) := by decide +kernel
theorem dX9_isDoingHere_81 : decode cX9_isDoingHere 81 = .ok (.aload_n 0, 1) := by decide +kernel
theorem dX9_isDoingHere_82 : decode cX9_isDoingHere 82 = .ok (.getfield 140, 3) := by decide +kernel
theorem dX9_isDoingHere_85 : decode cX9_isDoingHere 85 = .ok (.iaload, 1) := by decide +kernel
theorem dX9_isDoingHere_86 : decode cX9_isDoingHere 86 = .ok (.iastore, 1) := by decide +kernel
theorem dX9_isDoingHere_87 : decode cX9_isDoingHere 87 = .ok (.iload_n 1, 1) := by decide +kernel
theorem dX9_isDoingHere_88 : decode cX9_isDoingHere 88 = .ok (.iconst 1, 1) := by decide +kernel
theorem dX9_isDoingHere_89 : decode cX9_isDoingHere 89 = .ok (.if_icmp .eq 13, 3) := by decide +kernel
theorem dX9_isDoingHere_92 : decode cX9_isDoingHere 92 = .ok (.aload_n 0, 1) := by decide +kernel
theorem dX9_isDoingHere_93 : decode cX9_isDoingHere 93 = .ok (.ldc2_w 204, 3) := by decide +kernel
theorem dX9_isDoingHere_96 : decode cX9_isDoingHere 96 = .ok (.invokevirtual 206, 3) := by decide +kernel
theorem dX9_isDoingHere_99 : decode cX9_isDoingHere 99 = .ok (.ifCond .eq 29, 3) := by decide +kernel
theorem dX9_isDoingHere_102 : decode cX9_isDoingHere 102 = .ok (.aload_n 0, 1) := by decide +kernel
theorem dX9_isDoingHere_103 : decode cX9_isDoingHere 103 = .ok (.getfield 20, 3) := by decide +kernel
theorem dX9_isDoingHere_106 : decode cX9_isDoingHere 106 = .ok (.iload_n 2, 1) := by decide +kernel
theorem dX9_isDoingHere_107 : decode cX9_isDoingHere 107 = .ok (.iconst 3, 1) := by decide +kernel
theorem dX9_isDoingHere_108 : decode cX9_isDoingHere 108 = .ok (.iadd, 1) := by decide +kernel
theorem dX9_isDoingHere_109 : decode cX9_isDoingHere 109 = .ok (.aload_n 0, 1) := by decide +kernel
theorem dX9_isDoingHere_110 : decode cX9_isDoingHere 110 = .ok (.getfield 17, 3) := by decide +kernel
theorem dX9_isDoingHere_113 : decode cX9_isDoingHere 113 = .ok (.aload_n 0, 1) := by decide +kernel
theorem dX9_isDoingHere_114 : decode cX9_isDoingHere 114 = .ok (.getfield 140, 3) := by decide +kernel
theorem dX9_isDoingHere_117 : decode cX9_isDoingHere 117 = .ok (.iaload, 1) := by decide +kernel
theorem dX9_isDoingHere_118 : decode cX9_isDoingHere 118 = .ok (.iastore, 1) := by decide +kernel
theorem dX9_isDoingHere_119 : decode cX9_isDoingHere 119 = .ok (.aload_n 0, 1) := by decide +kernel
theorem dX9_isDoingHere_120 : decode cX9_isDoingHere 120 = .ok (.invokevirtual 209, 3) := by decide +kernel
theorem dX9_isDoingHere_123 : decode cX9_isDoingHere 123 = .ok (.ifCond .ne 5, 3) := by decide +kernel
theorem dX9_isDoingHere_126 : decode cX9_isDoingHere 126 = .ok (.iconst 0, 1) := by decide +kernel
theorem dX9_isDoingHere_127 : decode cX9_isDoingHere 127 = .ok (.ireturn, 1) := by decide +kernel
theorem dX9_isDoingHere_128 : decode cX9_isDoingHere 128 = .ok (.aload_n 0, 1) := by decide +kernel
theorem dX9_isDoingHere_129 : decode cX9_isDoingHere 129 = .ok (.getfield 20, 3) := by decide +kernel
theorem dX9_isDoingHere_132 : decode cX9_isDoingHere 132 = .ok (.iload_n 2, 1) := by decide +kernel
theorem dX9_isDoingHere_133 : decode cX9_isDoingHere 133 = .ok (.iconst 4, 1) := by decide +kernel
theorem dX9_isDoingHere_134 : decode cX9_isDoingHere 134 = .ok (.iadd, 1) := by decide +kernel
theorem dX9_isDoingHere_135 : decode cX9_isDoingHere 135 = .ok (.aload_n 0, 1) := by decide +kernel
theorem dX9_isDoingHere_136 : decode cX9_isDoingHere 136 = .ok (.getfield 17, 3) := by decide +kernel
theorem dX9_isDoingHere_139 : decode cX9_isDoingHere 139 = .ok (.aload_n 0, 1) := by decide +kernel
theorem dX9_isDoingHere_140 : decode cX9_isDoingHere 140 = .ok (.getfield 140, 3) := by decide +kernel
theorem dX9_isDoingHere_143 : decode cX9_isDoingHere 143 = .ok (.iaload, 1) := by decide +kernel
theorem dX9_isDoingHere_144 : decode cX9_isDoingHere 144 = .ok (.iastore, 1) := by decide +kernel
theorem dX9_isDoingHere_145 : decode cX9_isDoingHere 145 = .ok (.aload_n 0, 1) := by decide +kernel
theorem dX9_isDoingHere_146 : decode cX9_isDoingHere 146 = .ok (.getfield 23, 3) := by decide +kernel
theorem dX9_isDoingHere_149 : decode cX9_isDoingHere 149 = .ok (.aload_n 0, 1) := by decide +kernel
theorem dX9_isDoingHere_150 : decode cX9_isDoingHere 150 = .ok (.getfield 140, 3) := by decide +kernel
theorem dX9_isDoingHere_153 : decode cX9_isDoingHere 153 = .ok (.dup2, 1) := by decide +kernel
theorem dX9_isDoingHere_154 : decode cX9_isDoingHere 154 = .ok (.iaload, 1) := by decide +kernel
theorem dX9_isDoingHere_155 : decode cX9_isDoingHere 155 = .ok (.iconst 1, 1) := by decide +kernel
theorem dX9_isDoingHere_156 : decode cX9_isDoingHere 156 = .ok (.iadd, 1) := by decide +kernel
theorem dX9_isDoingHere_157 : decode cX9_isDoingHere 157 = .ok (.iastore, 1) := by decide +kernel
theorem dX9_isDoingHere_158 : decode cX9_isDoingHere 158 = .ok (.iconst 1, 1) := by decide +kernel
theorem dX9_isDoingHere_159 : decode cX9_isDoingHere 159 = .ok (.ireturn, 1) := by decide +kernel
theorem dX9_isFault_0 : decode cX9_isFault 0 = .ok (.iload_n 1, 1) := by decide +kernel
theorem dX9_isFault_1 : decode cX9_isFault 1 = .ok (.ifCond .lt 17, 3) := by decide +kernel
theorem dX9_isFault_4 : decode cX9_isFault 4 = .ok (.iload_n 1, 1) := by decide +kernel
theorem dX9_isFault_5 : decode cX9_isFault 5 = .ok (.aload_n 0, 1) := by decide +kernel
theorem dX9_isFault_6 : decode cX9_isFault 6 = .ok (.getfield 42, 3) := by decide +kernel
theorem dX9_isFault_9 : decode cX9_isFault 9 = .ok (.iconst 0, 1) := by decide +kernel
theorem dX9_isFault_10 : decode cX9_isFault 10 = .ok (.iaload, 1) := by decide +kernel
theorem dX9_isFault_11 : decode cX9_isFault 11 = .ok (.if_icmp .ge 7, 3) := by decide +kernel
theorem dX9_isFault_14 : decode cX9_isFault 14 = .ok (.iconst 1, 1) := by decide +kernel
theorem dX9_isFault_15 : decode cX9_isFault 15 = .ok (.goto 4, 3) := by decide +kernel
theorem dX9_isFault_18 : decode cX9_isFault 18 = .ok (.iconst 0, 1) := by decide +kernel
theorem dX9_isFault_19 : decode cX9_isFault 19 = .ok (.ireturn, 1) := by decide +kernel
theorem dX9_isFaultHere_0 : decode cX9_isFaultHere 0 = .ok (.aload_n 0, 1) := by decide +kernel
theorem dX9_isFaultHere_1 : decode cX9_isFaultHere 1 = .ok (.getfield 218, 3) := by decide +kernel
theorem dX9_isFaultHere_4 : decode cX9_isFaultHere 4 = .ok (.bipush 10, 2) := by decide +kernel
theorem dX9_isFaultHere_6 : decode cX9_isFaultHere 6 = .ok (.if_icmp .ne 10, 3) := by decide +kernel
theorem dX9_isFaultHere_9 : decode cX9_isFaultHere 9 = .ok (.aload_n 0, 1) := by decide +kernel
theorem dX9_isFaultHere_10 : decode cX9_isFaultHere 10 = .ok (.iconst 4, 1) := by decide +kernel
theorem dX9_isFaultHere_11 : decode cX9_isFaultHere 11 = .ok (.iload_n 1, 1) := by decide +kernel
theorem dX9_isFaultHere_12 : decode cX9_isFaultHere 12 = .ok (.invokevirtual 111, 3) := by decide +kernel
theorem dX9_isFaultHere_15 : decode cX9_isFaultHere 15 = .ok (.ireturn, 1) := by decide +kernel
theorem dX9_isFaultHere_16 : decode cX9_isFaultHere 16 = .ok (.aload_n 0, 1) := by decide +kernel
theorem dX9_isFaultHere_17 : decode cX9_isFaultHere 17 = .ok (.invokevirtual 105, 3) := by decide +kernel
theorem dX9_isFaultHere_20 : decode cX9_isFaultHere 20 = .ok (.iconst 4, 1) := by decide +kernel
theorem dX9_isFaultHere_21 : decode cX9_isFaultHere 21 = .ok (.aload_n 0, 1) := by decide +kernel
theorem dX9_isFaultHere_22 : decode cX9_isFaultHere 22 = .ok (.getfield 218, 3) := by decide +kernel
theorem dX9_isFaultHere_25 : decode cX9_isFaultHere 25 = .ok (.imul, 1) := by decide +kernel
theorem dX9_isFaultHere_26 : decode cX9_isFaultHere 26 = .ok (.istore_n 2, 1) := by decide +kernel
theorem dX9_isFaultHere_27 : decode cX9_isFaultHere 27 = .ok (.aload_n 0, 1) := by decide +kernel
theorem dX9_isFaultHere_28 : decode cX9_isFaultHere 28 = .ok (.iconst 0, 1) := by decide +kernel
theorem dX9_isFaultHere_29 : decode cX9_isFaultHere 29 = .ok (.aload_n 0, 1) := by decide +kernel
theorem dX9_isFaultHere_30 : decode cX9_isFaultHere 30 = .ok (.getfield 215, 3) := by decide +kernel
theorem dX9_isFaultHere_33 : decode cX9_isFaultHere 33 = .ok (.iconst 1, 1) := by decide +kernel
theorem dX9_isFaultHere_34 : decode cX9_isFaultHere 34 = .ok (.isub, 1) := by decide +kernel
theorem dX9_isFaultHere_35 : decode cX9_isFaultHere 35 = .ok (.invokevirtual 161, 3) := by decide +kernel
theorem dX9_isFaultHere_38 : decode cX9_isFaultHere 38 = .ok (.ifCond .ne 5, 3) := by decide +kernel
theorem dX9_isFaultHere_41 : decode cX9_isFaultHere 41 = .ok (.iconst 0, 1) := by decide +kernel
theorem dX9_isFaultHere_42 : decode cX9_isFaultHere 42 = .ok (.ireturn, 1) := by decide +kernel
theorem dX9_isFaultHere_43 : decode cX9_isFaultHere 43 = .ok (.aload_n 0, 1) := by decide +kernel
theorem dX9_isFaultHere_44 : decode cX9_isFaultHere 44 = .ok (.getfield 29, 3) := by decide +kernel
theorem dX9_isFaultHere_47 : decode cX9_isFaultHere 47 = .ok (.iload_n 2, 1) := by decide +kernel
theorem dX9_isFaultHere_48 : decode cX9_isFaultHere 48 = .ok (.aload_n 0, 1) := by decide +kernel
theorem dX9_isFaultHere_49 : decode cX9_isFaultHere 49 = .ok (.getfield 115, 3) := by decide +kernel
theorem dX9_isFaultHere_52 : decode cX9_isFaultHere 52 = .ok (.iastore, 1) := by decide +kernel
theorem dX9_isFaultHere_53 : decode cX9_isFaultHere 53 = .ok (.aload_n 0, 1) := by decide +kernel
theorem dX9_isFaultHere_54 : decode cX9_isFaultHere 54 = .ok (.iconst 1, 1) := by decide +kernel
theorem dX9_isFaultHere_55 : decode cX9_isFaultHere 55 = .ok (.bipush 99, 2) := by decide +kernel
theorem dX9_isFaultHere_57 : decode cX9_isFaultHere 57 = .ok (.invokevirtual 161, 3) := by decide +kernel
theorem dX9_isFaultHere_60 : decode cX9_isFaultHere 60 = .ok (.ifCond .ne 5, 3) := by decide +kernel
theorem dX9_isFaultHere_63 : decode cX9_isFaultHere 63 = .ok (.iconst 0, 1) := by decide +kernel
theorem dX9_isFaultHere_64 : decode cX9_isFaultHere 64 = .ok (.ireturn, 1) := by decide +kernel
theorem dX9_isFaultHere_65 : decode cX9_isFaultHere 65 = .ok (.aload_n 0, 1) := by decide +kernel
theorem dX9_isFaultHere_66 : decode cX9_isFaultHere 66 = .ok (.getfield 29, 3) := by decide +kernel
theorem dX9_isFaultHere_69 : decode cX9_isFaultHere 69 = .ok (.iload_n 2, 1) := by decide +kernel
theorem dX9_isFaultHere_70 : decode cX9_isFaultHere 70 = .ok (.iconst 1, 1) := by decide +kernel
theorem dX9_isFaultHere_71 : decode cX9_isFaultHere 71 = .ok (.iadd, 1) := by decide +kernel
theorem dX9_isFaultHere_72 : decode cX9_isFaultHere 72 = .ok (.aload_n 0, 1) := by decide +kernel
