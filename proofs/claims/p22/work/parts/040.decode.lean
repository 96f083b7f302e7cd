theorem dX9_begins_0 : decode cX9_begins 0 = .ok (.aload_n 0, 1) := by decide +kernel
theorem dX9_begins_1 : decode cX9_begins 1 = .ok (.getfield 42, 3) := by decide +kernel
theorem dX9_begins_4 : decode cX9_begins 4 = .ok (.iconst 3, 1) := by decide +kernel
theorem dX9_begins_5 : decode cX9_begins 5 = .ok (.aload_n 0, 1) := by decide +kernel
theorem dX9_begins_6 : decode cX9_begins 6 = .ok (.getfield 42, 3) := by decide +kernel
theorem dX9_begins_9 : decode cX9_begins 9 = .ok (.iconst 2, 1) := by decide +kernel
theorem dX9_begins_10 : decode cX9_begins 10 = .ok (.iaload, 1) := by decide +kernel
theorem dX9_begins_11 : decode cX9_begins 11 = .ok (.iastore, 1) := by decide +kernel
theorem dX9_begins_12 : decode cX9_begins 12 = .ok (.aload_n 0, 1) := by decide +kernel
theorem dX9_begins_13 : decode cX9_begins 13 = .ok (.getfield 42, 3) := by decide +kernel
theorem dX9_begins_16 : decode cX9_begins 16 = .ok (.iconst 4, 1) := by decide +kernel
theorem dX9_begins_17 : decode cX9_begins 17 = .ok (.iconst 0, 1) := by decide +kernel
theorem dX9_begins_18 : decode cX9_begins 18 = .ok (.iastore, 1) := by decide +kernel
theorem dX9_begins_19 : decode cX9_begins 19 = .ok (.iconst 0, 1) := by decide +kernel
theorem dX9_begins_20 : decode cX9_begins 20 = .ok (.istore_n 1, 1) := by decide +kernel
theorem dX9_begins_21 : decode cX9_begins 21 = .ok (.iload_n 1, 1) := by decide +kernel
theorem dX9_begins_22 : decode cX9_begins 22 = .ok (.aload_n 0, 1) := by decide +kernel
theorem dX9_begins_23 : decode cX9_begins 23 = .ok (.getfield 42, 3) := by decide +kernel
theorem dX9_begins_26 : decode cX9_begins 26 = .ok (.iconst 0, 1) := by decide +kernel
theorem dX9_begins_27 : decode cX9_begins 27 = .ok (.iaload, 1) := by decide +kernel
theorem dX9_begins_28 : decode cX9_begins 28 = .ok (.if_icmp .ge 58, 3) := by decide +kernel
theorem dX9_begins_31 : decode cX9_begins 31 = .ok (.bipush 44, 2) := by decide +kernel
theorem dX9_begins_33 : decode cX9_begins 33 = .ok (.bipush 6, 2) := by decide +kernel
theorem dX9_begins_35 : decode cX9_begins 35 = .ok (.iload_n 1, 1) := by decide +kernel
theorem dX9_begins_36 : decode cX9_begins 36 = .ok (.imul, 1) := by decide +kernel
theorem dX9_begins_37 : decode cX9_begins 37 = .ok (.iadd, 1) := by decide +kernel
theorem dX9_begins_38 : decode cX9_begins 38 = .ok (.istore_n 2, 1) := by decide +kernel
theorem dX9_begins_39 : decode cX9_begins 39 = .ok (.aload_n 0, 1) := by decide +kernel
theorem dX9_begins_40 : decode cX9_begins 40 = .ok (.getfield 42, 3) := by decide +kernel
theorem dX9_begins_43 : decode cX9_begins 43 = .ok (.iload_n 2, 1) := by decide +kernel
theorem dX9_begins_44 : decode cX9_begins 44 = .ok (.iconst 4, 1) := by decide +kernel
theorem dX9_begins_45 : decode cX9_begins 45 = .ok (.iadd, 1) := by decide +kernel
theorem dX9_begins_46 : decode cX9_begins 46 = .ok (.aload_n 0, 1) := by decide +kernel
theorem dX9_begins_47 : decode cX9_begins 47 = .ok (.getfield 42, 3) := by decide +kernel
theorem dX9_begins_50 : decode cX9_begins 50 = .ok (.iload_n 2, 1) := by decide +kernel
theorem dX9_begins_51 : decode cX9_begins 51 = .ok (.iconst 4, 1) := by decide +kernel
theorem dX9_begins_52 : decode cX9_begins 52 = .ok (.iadd, 1) := by decide +kernel
theorem dX9_begins_53 : decode cX9_begins 53 = .ok (.iaload, 1) := by decide +kernel
theorem dX9_begins_54 : decode cX9_begins 54 = .ok (.iconst 1, 1) := by decide +kernel
theorem dX9_begins_55 : decode cX9_begins 55 = .ok (.if_icmp .ne 7, 3) := by decide +kernel
theorem dX9_begins_58 : decode cX9_begins 58 = .ok (.iconst 0, 1) := by decide +kernel
theorem dX9_begins_59 : decode cX9_begins 59 = .ok (.goto 11, 3) := by decide +kernel
theorem dX9_begins_62 : decode cX9_begins 62 = .ok (.aload_n 0, 1) := by decide +kernel
theorem dX9_begins_63 : decode cX9_begins 63 = .ok (.getfield 42, 3) := by decide +kernel
theorem dX9_begins_66 : decode cX9_begins 66 = .ok (.iload_n 2, 1) := by decide +kernel
theorem dX9_begins_67 : decode cX9_begins 67 = .ok (.iconst 4, 1) := by decide +kernel
theorem dX9_begins_68 : decode cX9_begins 68 = .ok (.iadd, 1) := by decide +kernel
theorem dX9_begins_69 : decode cX9_begins 69 = .ok (.iaload, 1) := by decide +kernel
theorem dX9_begins_70 : decode cX9_begins 70 = .ok (.iastore, 1) := by decide +kernel
theorem dX9_begins_71 : decode cX9_begins 71 = .ok (.aload_n 0, 1) := by decide +kernel
theorem dX9_begins_72 : decode cX9_begins 72 = .ok (.getfield 42, 3) := by decide +kernel
theorem dX9_begins_75 : decode cX9_begins 75 = .ok (.iload_n 2, 1) := by decide +kernel
theorem dX9_begins_76 : decode cX9_begins 76 = .ok (.iconst 5, 1) := by decide +kernel
theorem dX9_begins_77 : decode cX9_begins 77 = .ok (.iadd, 1) := by decide +kernel
theorem dX9_begins_78 : decode cX9_begins 78 = .ok (.iconst 0, 1) := by decide +kernel
theorem dX9_begins_79 : decode cX9_begins 79 = .ok (.iastore, 1) := by decide +kernel
theorem dX9_begins_80 : decode cX9_begins 80 = .ok (.iinc 1 1, 3) := by decide +kernel
theorem dX9_begins_83 : decode cX9_begins 83 = .ok (.goto (-62), 3) := by decide +kernel
theorem dX9_begins_86 : decode cX9_begins 86 = .ok (.return_, 1) := by decide +kernel
theorem dX9_faultOf_0 : decode cX9_faultOf 0 = .ok (.aload_n 0, 1) := by decide +kernel
theorem dX9_faultOf_1 : decode cX9_faultOf 1 = .ok (.getfield 42, 3) := by decide +kernel
theorem dX9_faultOf_4 : decode cX9_faultOf 4 = .ok (.bipush 44, 2) := by decide +kernel
theorem dX9_faultOf_6 : decode cX9_faultOf 6 = .ok (.bipush 6, 2) := by decide +kernel
theorem dX9_faultOf_8 : decode cX9_faultOf 8 = .ok (.iload_n 1, 1) := by decide +kernel
theorem dX9_faultOf_9 : decode cX9_faultOf 9 = .ok (.imul, 1) := by decide +kernel
theorem dX9_faultOf_10 : decode cX9_faultOf 10 = .ok (.iadd, 1) := by decide +kernel
theorem dX9_faultOf_11 : decode cX9_faultOf 11 = .ok (.iload_n 2, 1) := by decide +kernel
theorem dX9_faultOf_12 : decode cX9_faultOf 12 = .ok (.iadd, 1) := by decide +kernel
theorem dX9_faultOf_13 : decode cX9_faultOf 13 = .ok (.iaload, 1) := by decide +kernel
theorem dX9_faultOf_14 : decode cX9_faultOf 14 = .ok (.ireturn, 1) := by decide +kernel
theorem dX9_feed_0 : decode cX9_feed 0 = .ok (.aload_n 0, 1) := by decide +kernel
theorem dX9_feed_1 : decode cX9_feed 1 = .ok (.getfield 79, 3) := by decide +kernel
theorem dX9_feed_4 : decode cX9_feed 4 = .ok (.bipush 20, 2) := by decide +kernel
theorem dX9_feed_6 : decode cX9_feed 6 = .ok (.iadd, 1) := by decide +kernel
theorem dX9_feed_7 : decode cX9_feed 7 = .ok (.sipush 400, 3) := by decide +kernel
theorem dX9_feed_10 : decode cX9_feed 10 = .ok (.if_icmp .le 5, 3) := by decide +kernel
theorem dX9_feed_13 : decode cX9_feed 13 = .ok (.iconst (-1), 1) := by decide +kernel
theorem dX9_feed_14 : decode cX9_feed 14 = .ok (.ireturn, 1) := by decide +kernel
theorem dX9_feed_15 : decode cX9_feed 15 = .ok (.aload_n 0, 1) := by decide +kernel
theorem dX9_feed_16 : decode cX9_feed 16 = .ok (.iload_n 1, 1) := by decide +kernel
theorem dX9_feed_17 : decode cX9_feed 17 = .ok (.invokevirtual 83, 3) := by decide +kernel
theorem dX9_feed_20 : decode cX9_feed 20 = .ok (.aload_n 0, 1) := by decide +kernel
theorem dX9_feed_21 : decode cX9_feed 21 = .ok (.iload_n 2, 1) := by decide +kernel
theorem dX9_feed_22 : decode cX9_feed 22 = .ok (.invokevirtual 83, 3) := by decide +kernel
theorem dX9_feed_25 : decode cX9_feed 25 = .ok (.aload_n 0, 1) := by decide +kernel
theorem dX9_feed_26 : decode cX9_feed 26 = .ok (.iload_n 3, 1) := by decide +kernel
theorem dX9_feed_27 : decode cX9_feed 27 = .ok (.invokevirtual 83, 3) := by decide +kernel
theorem dX9_feed_30 : decode cX9_feed 30 = .ok (.aload_n 0, 1) := by decide +kernel
theorem dX9_feed_31 : decode cX9_feed 31 = .ok (.iload 4, 2) := by decide +kernel
theorem dX9_feed_33 : decode cX9_feed 33 = .ok (.invokevirtual 83, 3) := by decide +kernel
theorem dX9_feed_36 : decode cX9_feed 36 = .ok (.aload_n 0, 1) := by decide +kernel
theorem dX9_feed_37 : decode cX9_feed 37 = .ok (.iload 5, 2) := by decide +kernel
theorem dX9_feed_39 : decode cX9_feed 39 = .ok (.invokevirtual 83, 3) := by decide +kernel
theorem dX9_feed_42 : decode cX9_feed 42 = .ok (.aload_n 0, 1) := by decide +kernel
theorem dX9_feed_43 : decode cX9_feed 43 = .ok (.getfield 79, 3) := by decide +kernel
theorem dX9_feed_46 : decode cX9_feed 46 = .ok (.ireturn, 1) := by decide +kernel
theorem dX9_four_0 : decode cX9_four 0 = .ok (.bipush 24, 2) := by decide +kernel
theorem dX9_four_2 : decode cX9_four 2 = .ok (.istore_n 2, 1) := by decide +kernel
theorem dX9_four_3 : decode cX9_four 3 = .ok (.iload_n 2, 1) := by decide +kernel
theorem dX9_four_4 : decode cX9_four 4 = .ok (.ifCond .lt 32, 3) := by decide +kernel
theorem dX9_four_7 : decode cX9_four 7 = .ok (.aload_n 0, 1) := by decide +kernel
theorem dX9_four_8 : decode cX9_four 8 = .ok (.getfield 7, 3) := by decide +kernel
theorem dX9_four_11 : decode cX9_four 11 = .ok (.aload_n 0, 1) := by decide +kernel
theorem dX9_four_12 : decode cX9_four 12 = .ok (.getfield 79, 3) := by decide +kernel
theorem dX9_four_15 : decode cX9_four 15 = .ok (.iload_n 1, 1) := by decide +kernel
theorem dX9_four_16 : decode cX9_four 16 = .ok (.iload_n 2, 1) := by decide +kernel
theorem dX9_four_17 : decode cX9_four 17 = .ok (.ishr, 1) := by decide +kernel
theorem dX9_four_18 : decode cX9_four 18 = .ok (.i2b, 1) := by decide +kernel
theorem dX9_four_19 : decode cX9_four 19 = .ok (.bastore, 1) := by decide +kernel
theorem dX9_four_20 : decode cX9_four 20 = .ok (.aload_n 0, 1) := by decide +kernel
theorem dX9_four_21 : decode cX9_four 21 = .ok (.dup, 1) := by decide +kernel
theorem dX9_four_22 : decode cX9_four 22 = .ok (.getfield 79, 3) := by decide +kernel
theorem dX9_four_25 : decode cX9_four 25 = .ok (.iconst 1, 1) := by decide +kernel
theorem dX9_four_26 : decode cX9_four 26 = .ok (.iadd, 1) := by decide +kernel
theorem dX9_four_27 : decode cX9_four 27 = .ok (.putfield 79, 3) := by decide +kernel
theorem dX9_four_30 : decode cX9_four 30 = .ok (.iinc 2 (-8), 3) := by decide +kernel
theorem dX9_four_33 : decode cX9_four 33 = .ok (.goto (-30), 3) := by decide +kernel
theorem dX9_four_36 : decode cX9_four 36 = .ok (.return_, 1) := by decide +kernel
theorem dX9_game_0 : decode cX9_game 0 = .ok (.iload_n 1, 1) := by decide +kernel
theorem dX9_game_1 : decode cX9_game 1 = .ok (.i2l, 1) := by decide +kernel
theorem dX9_game_2 : decode cX9_game 2 = .ok (.lconst 0, 1) := by decide +kernel
theorem dX9_game_3 : decode cX9_game 3 = .ok (.ldc2_w 395, 3) := by decide +kernel
theorem dX9_game_6 : decode cX9_game 6 = .ok (.invokestatic 118, 3) := by decide +kernel
theorem dX9_game_9 : decode cX9_game 9 = .ok (.ifCond .eq 17, 3) := by decide +kernel
theorem dX9_game_12 : decode cX9_game 12 = .ok (.iload_n 2, 1) := by decide +kernel
theorem dX9_game_13 : decode cX9_game 13 = .ok (.i2l, 1) := by decide +kernel
theorem dX9_game_14 : decode cX9_game 14 = .ok (.ldc2_w 397, 3) := by decide +kernel
theorem dX9_game_17 : decode cX9_game 17 = .ok (.ldc2_w 399, 3) := by decide +kernel
theorem dX9_game_20 : decode cX9_game 20 = .ok (.invokestatic 118, 3) := by decide +kernel
theorem dX9_game_23 : decode cX9_game 23 = .ok (.ifCond .ne 7, 3) := by decide +kernel
theorem dX9_game_26 : decode cX9_game 26 = .ok (.sipush (-1000), 3) := by decide +kernel
theorem dX9_game_29 : decode cX9_game 29 = .ok (.ireturn, 1) := by decide +kernel
theorem dX9_game_30 : decode cX9_game 30 = .ok (.aload_n 0, 1) := by decide +kernel
theorem dX9_game_31 : decode cX9_game 31 = .ok (.getfield 42, 3) := by decide +kernel
theorem dX9_game_34 : decode cX9_game 34 = .ok (.bipush 18, 2) := by decide +kernel
theorem dX9_game_36 : decode cX9_game 36 = .ok (.iload_n 1, 1) := by decide +kernel
theorem dX9_game_37 : decode cX9_game 37 = .ok (.iadd, 1) := by decide +kernel
theorem dX9_game_38 : decode cX9_game 38 = .ok (.iaload, 1) := by decide +kernel
theorem dX9_game_39 : decode cX9_game 39 = .ok (.istore_n 3, 1) := by decide +kernel
theorem dX9_game_40 : decode cX9_game 40 = .ok (.aload_n 0, 1) := by decide +kernel
theorem dX9_game_41 : decode cX9_game 41 = .ok (.getfield 42, 3) := by decide +kernel
theorem dX9_game_44 : decode cX9_game 44 = .ok (.bipush 18, 2) := by decide +kernel
theorem dX9_game_46 : decode cX9_game 46 = .ok (.iload_n 1, 1) := by decide +kernel
theorem dX9_game_47 : decode cX9_game 47 = .ok (.iadd, 1) := by decide +kernel
theorem dX9_game_48 : decode cX9_game 48 = .ok (.iload_n 2, 1) := by decide +kernel
theorem dX9_game_49 : decode cX9_game 49 = .ok (.iastore, 1) := by decide +kernel
theorem dX9_game_50 : decode cX9_game 50 = .ok (.iload_n 3, 1) := by decide +kernel
theorem dX9_game_51 : decode cX9_game 51 = .ok (.ireturn, 1) := by decide +kernel
theorem dX9_hundreds_0 : decode cX9_hundreds 0 = .ok (.lconst 1, 1) := by decide +kernel
theorem dX9_hundreds_1 : decode cX9_hundreds 1 = .ok (.lstore_n 2, 1) := by decide +kernel
theorem dX9_hundreds_2 : decode cX9_hundreds 2 = .ok (.iconst 0, 1) := by decide +kernel
theorem dX9_hundreds_3 : decode cX9_hundreds 3 = .ok (.istore 4, 2) := by decide +kernel
theorem dX9_hundreds_5 : decode cX9_hundreds 5 = .ok (.iload 4, 2) := by decide +kernel
theorem dX9_hundreds_7 : decode cX9_hundreds 7 = .ok (.iload_n 1, 1) := by decide +kernel
theorem dX9_hundreds_8 : decode cX9_hundreds 8 = .ok (.if_icmp .ge 15, 3) := by decide +kernel
theorem dX9_hundreds_11 : decode cX9_hundreds 11 = .ok (.lload_n 2, 1) := by decide +kernel
theorem dX9_hundreds_12 : decode cX9_hundreds 12 = .ok (.ldc2_w 352, 3) := by decide +kernel
theorem dX9_hundreds_15 : decode cX9_hundreds 15 = .ok (.lmul, 1) := by decide +kernel
theorem dX9_hundreds_16 : decode cX9_hundreds 16 = .ok (.lstore_n 2, 1) := by decide +kernel
theorem dX9_hundreds_17 : decode cX9_hundreds 17 = .ok (.iinc 4 1, 3) := by decide +kernel
theorem dX9_hundreds_20 : decode cX9_hundreds 20 = .ok (.goto (-15), 3) := by decide +kernel
theorem dX9_hundreds_23 : decode cX9_hundreds 23 = .ok (.lload_n 2, 1) := by decide +kernel
theorem dX9_hundreds_24 : decode cX9_hundreds 24 = .ok (.lreturn, 1) := by decide +kernel
theorem dX9_in_0 : decode cX9_in 0 = .ok (.lload_n 0, 1) := by decide +kernel
theorem dX9_in_1 : decode cX9_in 1 = .ok (.lload_n 2, 1) := by decide +kernel
theorem dX9_in_2 : decode cX9_in 2 = .ok (.lcmp, 1) := by decide +kernel
theorem dX9_in_3 : decode cX9_in 3 = .ok (.ifCond .lt 14, 3) := by decide +kernel
theorem dX9_in_6 : decode cX9_in 6 = .ok (.lload_n 0, 1) := by decide +kernel
theorem dX9_in_7 : decode cX9_in 7 = .ok (.lload 4, 2) := by decide +kernel
theorem dX9_in_9 : decode cX9_in 9 = .ok (.lcmp, 1) := by decide +kernel
theorem dX9_in_10 : decode cX9_in 10 = .ok (.ifCond .gt 7, 3) := by decide +kernel
theorem dX9_in_13 : decode cX9_in 13 = .ok (.iconst 1, 1) := by decide +kernel
theorem dX9_in_14 : decode cX9_in 14 = .ok (.goto 4, 3) := by decide +kernel
theorem dX9_in_17 : decode cX9_in 17 = .ok (.iconst 0, 1) := by decide +kernel
theorem dX9_in_18 : decode cX9_in 18 = .ok (.ireturn, 1) := by decide +kernel
theorem dX9_kindOf_0 : decode cX9_kindOf 0 = .ok (.aload_n 0, 1) := by decide +kernel
theorem dX9_kindOf_1 : decode cX9_kindOf 1 = .ok (.getfield 42, 3) := by decide +kernel
theorem dX9_kindOf_4 : decode cX9_kindOf 4 = .ok (.bipush 26, 2) := by decide +kernel
theorem dX9_kindOf_6 : decode cX9_kindOf 6 = .ok (.iconst 3, 1) := by decide +kernel
theorem dX9_kindOf_7 : decode cX9_kindOf 7 = .ok (.aload_n 0, 1) := by decide +kernel
theorem dX9_kindOf_8 : decode cX9_kindOf 8 = .ok (.iload_n 1, 1) := by decide +kernel
theorem dX9_kindOf_9 : decode cX9_kindOf 9 = .ok (.iconst 0, 1) := by decide +kernel
theorem dX9_kindOf_10 : decode cX9_kindOf 10 = .ok (.invokevirtual 268, 3) := by decide +kernel
theorem dX9_kindOf_13 : decode cX9_kindOf 13 = .ok (.imul, 1) := by decide +kernel
theorem dX9_kindOf_14 : decode cX9_kindOf 14 = .ok (.iadd, 1) := by decide +kernel
theorem dX9_kindOf_15 : decode cX9_kindOf 15 = .ok (.iload_n 2, 1) := by decide +kernel
theorem dX9_kindOf_16 : decode cX9_kindOf 16 = .ok (.iadd, 1) := by decide +kernel
theorem dX9_kindOf_17 : decode cX9_kindOf 17 = .ok (.iaload, 1) := by decide +kernel
theorem dX9_kindOf_18 : decode cX9_kindOf 18 = .ok (.ireturn, 1) := by decide +kernel
theorem dX9_takes_0 : decode cX9_takes 0 = .ok (.aload_n 0, 1) := by decide +kernel
theorem dX9_takes_1 : decode cX9_takes 1 = .ok (.getfield 48, 3) := by decide +kernel
theorem dX9_takes_4 : decode cX9_takes 4 = .ok (.iload_n 1, 1) := by decide +kernel
theorem dX9_takes_5 : decode cX9_takes 5 = .ok (.iaload, 1) := by decide +kernel
theorem dX9_takes_6 : decode cX9_takes 6 = .ok (.istore 7, 2) := by decide +kernel
theorem dX9_takes_8 : decode cX9_takes 8 = .ok (.aload_n 0, 1) := by decide +kernel
theorem dX9_takes_9 : decode cX9_takes 9 = .ok (.getfield 51, 3) := by decide +kernel
theorem dX9_takes_12 : decode cX9_takes 12 = .ok (.iload_n 1, 1) := by decide +kernel
theorem dX9_takes_13 : decode cX9_takes 13 = .ok (.baload, 1) := by decide +kernel
theorem dX9_takes_14 : decode cX9_takes 14 = .ok (.ifCond .eq 44, 3) := by decide +kernel
theorem dX9_takes_17 : decode cX9_takes 17 = .ok (.aload_n 0, 1) := by decide +kernel
theorem dX9_takes_18 : decode cX9_takes 18 = .ok (.getfield 55, 3) := by decide +kernel
theorem dX9_takes_21 : decode cX9_takes 21 = .ok (.iload_n 1, 1) := by decide +kernel
theorem dX9_takes_22 : decode cX9_takes 22 = .ok (.aload_n 0, 1) := by decide +kernel
theorem dX9_takes_23 : decode cX9_takes 23 = .ok (.iload 7, 2) := by decide +kernel
theorem dX9_takes_25 : decode cX9_takes 25 = .ok (.iconst 0, 1) := by decide +kernel
theorem dX9_takes_26 : decode cX9_takes 26 = .ok (.invokevirtual 275, 3) := by decide +kernel
theorem dX9_takes_29 : decode cX9_takes 29 = .ok (.i2l, 1) := by decide +kernel
theorem dX9_takes_30 : decode cX9_takes 30 = .ok (.aload_n 0, 1) := by decide +kernel
theorem dX9_takes_31 : decode cX9_takes 31 = .ok (.iload_n 2, 1) := by decide +kernel
theorem dX9_takes_32 : decode cX9_takes 32 = .ok (.iload_n 1, 1) := by decide +kernel
theorem dX9_takes_33 : decode cX9_takes 33 = .ok (.isub, 1) := by decide +kernel
theorem dX9_takes_34 : decode cX9_takes 34 = .ok (.iconst 1, 1) := by decide +kernel
theorem dX9_takes_35 : decode cX9_takes 35 = .ok (.isub, 1) := by decide +kernel
theorem dX9_takes_36 : decode cX9_takes 36 = .ok (.invokevirtual 367, 3) := by decide +kernel
theorem dX9_takes_39 : decode cX9_takes 39 = .ok (.lmul, 1) := by decide +kernel
theorem dX9_takes_40 : decode cX9_takes 40 = .ok (.lload_n 3, 1) := by decide +kernel
theorem dX9_takes_41 : decode cX9_takes 41 = .ok (.ladd, 1) := by decide +kernel
theorem dX9_takes_42 : decode cX9_takes 42 = .ok (.lastore, 1) := by decide +kernel
theorem dX9_takes_43 : decode cX9_takes 43 = .ok (.aload_n 0, 1) := by decide +kernel
theorem dX9_takes_44 : decode cX9_takes 44 = .ok (.getfield 58, 3) := by decide +kernel
theorem dX9_takes_47 : decode cX9_takes 47 = .ok (.iload_n 1, 1) := by decide +kernel
theorem dX9_takes_48 : decode cX9_takes 48 = .ok (.lload 5, 2) := by decide +kernel
theorem dX9_takes_50 : decode cX9_takes 50 = .ok (.lastore, 1) := by decide +kernel
theorem dX9_takes_51 : decode cX9_takes 51 = .ok (.aload_n 0, 1) := by decide +kernel
theorem dX9_takes_52 : decode cX9_takes 52 = .ok (.iload_n 1, 1) := by decide +kernel
theorem dX9_takes_53 : decode cX9_takes 53 = .ok (.iconst 0, 1) := by decide +kernel
theorem dX9_takes_54 : decode cX9_takes 54 = .ok (.invokevirtual 374, 3) := by decide +kernel
theorem dX9_takes_57 : decode cX9_takes 57 = .ok (.return_, 1) := by decide +kernel
theorem dX9_takes_58 : decode cX9_takes 58 = .ok (.aload_n 0, 1) := by decide +kernel
theorem dX9_takes_59 : decode cX9_takes 59 = .ok (.iload 7, 2) := by decide +kernel
theorem dX9_takes_61 : decode cX9_takes 61 = .ok (.iconst 2, 1) := by decide +kernel
theorem dX9_takes_62 : decode cX9_takes 62 = .ok (.invokevirtual 268, 3) := by decide +kernel
theorem dX9_takes_65 : decode cX9_takes 65 = .ok (.istore 8, 2) := by decide +kernel
theorem dX9_takes_67 : decode cX9_takes 67 = .ok (.iload 8, 2) := by decide +kernel
theorem dX9_takes_69 : decode cX9_takes 69 = .ok (.i2l, 1) := by decide +kernel
theorem dX9_takes_70 : decode cX9_takes 70 = .ok (.aload_n 0, 1) := by decide +kernel
theorem dX9_takes_71 : decode cX9_takes 71 = .ok (.getfield 55, 3) := by decide +kernel
theorem dX9_takes_74 : decode cX9_takes 74 = .ok (.iload_n 1, 1) := by decide +kernel
theorem dX9_takes_75 : decode cX9_takes 75 = .ok (.laload, 1) := by decide +kernel
theorem dX9_takes_76 : decode cX9_takes 76 = .ok (.lmul, 1) := by decide +kernel
theorem dX9_takes_77 : decode cX9_takes 77 = .ok (.bipush 100, 2) := by decide +kernel
theorem dX9_takes_79 : decode cX9_takes 79 = .ok (.iload 8, 2) := by decide +kernel
theorem dX9_takes_81 : decode cX9_takes 81 = .ok (.isub, 1) := by decide +kernel
theorem dX9_takes_82 : decode cX9_takes 82 = .ok (.i2l, 1) := by decide +kernel
theorem dX9_takes_83 : decode cX9_takes 83 = .ok (.lload_n 3, 1) := by decide +kernel
theorem dX9_takes_84 : decode cX9_takes 84 = .ok (.lmul, 1) := by decide +kernel
theorem dX9_takes_85 : decode cX9_takes 85 = .ok (.ladd, 1) := by decide +kernel
theorem dX9_takes_86 : decode cX9_takes 86 = .ok (.lstore 9, 2) := by decide +kernel
theorem dX9_takes_88 : decode cX9_takes 88 = .ok (.aload_n 0, 1) := by decide +kernel
theorem dX9_takes_89 : decode cX9_takes 89 = .ok (.getfield 42, 3) := by decide +kernel
theorem dX9_takes_92 : decode cX9_takes 92 = .ok (.iconst 3, 1) := by decide +kernel
theorem dX9_takes_93 : decode cX9_takes 93 = .ok (.aload_n 0, 1) := by decide +kernel
theorem dX9_takes_94 : decode cX9_takes 94 = .ok (.getfield 70, 3) := by decide +kernel
theorem dX9_takes_97 : decode cX9_takes 97 = .ok (.iload_n 1, 1) := by decide +kernel
theorem dX9_takes_98 : decode cX9_takes 98 = .ok (.iaload, 1) := by decide +kernel
theorem dX9_takes_99 : decode cX9_takes 99 = .ok (.iastore, 1) := by decide +kernel
theorem dX9_takes_100 : decode cX9_takes 100 = .ok (.lload 9, 2) := by decide +kernel
theorem dX9_takes_102 : decode cX9_takes 102 = .ok (.aload_n 0, 1) := by decide +kernel
theorem dX9_takes_103 : decode cX9_takes 103 = .ok (.getfield 61, 3) := by decide +kernel
theorem dX9_takes_106 : decode cX9_takes 106 = .ok (.iload_n 1, 1) := by decide +kernel
theorem dX9_takes_107 : decode cX9_takes 107 = .ok (.laload, 1) := by decide +kernel
theorem dX9_takes_108 : decode cX9_takes 108 = .ok (.lcmp, 1) := by decide +kernel
theorem dX9_takes_109 : decode cX9_takes 109 = .ok (.ifCond .gt 4, 3) := by decide +kernel
theorem dX9_takes_112 : decode cX9_takes 112 = .ok (.return_, 1) := by decide +kernel
theorem dX9_takes_113 : decode cX9_takes 113 = .ok (.aload_n 0, 1) := by decide +kernel
theorem dX9_takes_114 : decode cX9_takes 114 = .ok (.getfield 61, 3) := by decide +kernel
theorem dX9_takes_117 : decode cX9_takes 117 = .ok (.iload_n 1, 1) := by decide +kernel
theorem dX9_takes_118 : decode cX9_takes 118 = .ok (.lload 9, 2) := by decide +kernel
theorem dX9_takes_120 : decode cX9_takes 120 = .ok (.lastore, 1) := by decide +kernel
theorem dX9_takes_121 : decode cX9_takes 121 = .ok (.aload_n 0, 1) := by decide +kernel
theorem dX9_takes_122 : decode cX9_takes 122 = .ok (.getfield 64, 3) := by decide +kernel
theorem dX9_takes_125 : decode cX9_takes 125 = .ok (.iload_n 1, 1) := by decide +kernel
theorem dX9_takes_126 : decode cX9_takes 126 = .ok (.iload 8, 2) := by decide +kernel
theorem dX9_takes_128 : decode cX9_takes 128 = .ok (.i2l, 1) := by decide +kernel
theorem dX9_takes_129 : decode cX9_takes 129 = .ok (.aload_n 0, 1) := by decide +kernel
theorem dX9_takes_130 : decode cX9_takes 130 = .ok (.getfield 58, 3) := by decide +kernel
theorem dX9_takes_133 : decode cX9_takes 133 = .ok (.iload_n 1, 1) := by decide +kernel
theorem dX9_takes_134 : decode cX9_takes 134 = .ok (.laload, 1) := by decide +kernel
theorem dX9_takes_135 : decode cX9_takes 135 = .ok (.lmul, 1) := by decide +kernel
theorem dX9_takes_136 : decode cX9_takes 136 = .ok (.bipush 100, 2) := by decide +kernel
theorem dX9_takes_138 : decode cX9_takes 138 = .ok (.iload 8, 2) := by decide +kernel
theorem dX9_takes_140 : decode cX9_takes 140 = .ok (.isub, 1) := by decide +kernel
theorem dX9_takes_141 : decode cX9_takes 141 = .ok (.i2l, 1) := by decide +kernel
theorem dX9_takes_142 : decode cX9_takes 142 = .ok (.lload 5, 2) := by decide +kernel
theorem dX9_takes_144 : decode cX9_takes 144 = .ok (.lmul, 1) := by decide +kernel
theorem dX9_takes_145 : decode cX9_takes 145 = .ok (.ladd, 1) := by decide +kernel
theorem dX9_takes_146 : decode cX9_takes 146 = .ok (.lastore, 1) := by decide +kernel
theorem dX9_takes_147 : decode cX9_takes 147 = .ok (.aload_n 0, 1) := by decide +kernel
theorem dX9_takes_148 : decode cX9_takes 148 = .ok (.getfield 67, 3) := by decide +kernel
theorem dX9_takes_151 : decode cX9_takes 151 = .ok (.iload_n 1, 1) := by decide +kernel
theorem dX9_takes_152 : decode cX9_takes 152 = .ok (.iload 7, 2) := by decide +kernel
theorem dX9_takes_154 : decode cX9_takes 154 = .ok (.iastore, 1) := by decide +kernel
theorem dX9_takes_155 : decode cX9_takes 155 = .ok (.return_, 1) := by decide +kernel
theorem dX9_triesAs_0 : decode cX9_triesAs 0 = .ok (.aload_n 0, 1) := by decide +kernel
theorem dX9_triesAs_1 : decode cX9_triesAs 1 = .ok (.getfield 48, 3) := by decide +kernel
theorem dX9_triesAs_4 : decode cX9_triesAs 4 = .ok (.iload_n 1, 1) := by decide +kernel
theorem dX9_triesAs_5 : decode cX9_triesAs 5 = .ok (.iaload, 1) := by decide +kernel
theorem dX9_triesAs_6 : decode cX9_triesAs 6 = .ok (.istore_n 3, 1) := by decide +kernel
theorem dX9_triesAs_7 : decode cX9_triesAs 7 = .ok (.aload_n 0, 1) := by decide +kernel
theorem dX9_triesAs_8 : decode cX9_triesAs 8 = .ok (.getfield 51, 3) := by decide +kernel
theorem dX9_triesAs_11 : decode cX9_triesAs 11 = .ok (.iload_n 1, 1) := by decide +kernel
theorem dX9_triesAs_12 : decode cX9_triesAs 12 = .ok (.iload_n 2, 1) := by decide +kernel
theorem dX9_triesAs_13 : decode cX9_triesAs 13 = .ok (.bastore, 1) := by decide +kernel
theorem dX9_triesAs_14 : decode cX9_triesAs 14 = .ok (.aload_n 0, 1) := by decide +kernel
theorem dX9_triesAs_15 : decode cX9_triesAs 15 = .ok (.getfield 42, 3) := by decide +kernel
theorem dX9_triesAs_18 : decode cX9_triesAs 18 = .ok (.iconst 3, 1) := by decide +kernel
theorem dX9_triesAs_19 : decode cX9_triesAs 19 = .ok (.aload_n 0, 1) := by decide +kernel
theorem dX9_triesAs_20 : decode cX9_triesAs 20 = .ok (.getfield 70, 3) := by decide +kernel
theorem dX9_triesAs_23 : decode cX9_triesAs 23 = .ok (.iload_n 1, 1) := by decide +kernel
theorem dX9_triesAs_24 : decode cX9_triesAs 24 = .ok (.iaload, 1) := by decide +kernel
theorem dX9_triesAs_25 : decode cX9_triesAs 25 = .ok (.aload_n 0, 1) := by decide +kernel
theorem dX9_triesAs_26 : decode cX9_triesAs 26 = .ok (.iload_n 3, 1) := by decide +kernel
theorem dX9_triesAs_27 : decode cX9_triesAs 27 = .ok (.iconst 1, 1) := by decide +kernel
theorem dX9_triesAs_28 : decode cX9_triesAs 28 = .ok (.invokevirtual 268, 3) := by decide +kernel
theorem dX9_triesAs_31 : decode cX9_triesAs 31 = .ok (.isub, 1) := by decide +kernel
theorem dX9_triesAs_32 : decode cX9_triesAs 32 = .ok (.iastore, 1) := by decide +kernel
theorem dX9_triesAs_33 : decode cX9_triesAs 33 = .ok (.aload_n 0, 1) := by decide +kernel
theorem dX9_triesAs_34 : decode cX9_triesAs 34 = .ok (.getfield 42, 3) := by decide +kernel
theorem dX9_triesAs_37 : decode cX9_triesAs 37 = .ok (.bipush 44, 2) := by decide +kernel
theorem dX9_triesAs_39 : decode cX9_triesAs 39 = .ok (.bipush 6, 2) := by decide +kernel
theorem dX9_triesAs_41 : decode cX9_triesAs 41 = .ok (.iload_n 3, 1) := by decide +kernel
theorem dX9_triesAs_42 : decode cX9_triesAs 42 = .ok (.imul, 1) := by decide +kernel
theorem dX9_triesAs_43 : decode cX9_triesAs 43 = .ok (.iadd, 1) := by decide +kernel
theorem dX9_triesAs_44 : decode cX9_triesAs 44 = .ok (.iconst 4, 1) := by decide +kernel
theorem dX9_triesAs_45 : decode cX9_triesAs 45 = .ok (.iadd, 1) := by decide +kernel
theorem dX9_triesAs_46 : decode cX9_triesAs 46 = .ok (.iload_n 2, 1) := by decide +kernel
theorem dX9_triesAs_47 : decode cX9_triesAs 47 = .ok (.ifCond .eq 7, 3) := by decide +kernel
theorem dX9_triesAs_50 : decode cX9_triesAs 50 = .ok (.iconst 1, 1) := by decide +kernel
theorem dX9_triesAs_51 : decode cX9_triesAs 51 = .ok (.goto 4, 3) := by decide +kernel
theorem dX9_triesAs_54 : decode cX9_triesAs 54 = .ok (.iconst 0, 1) := by decide +kernel
theorem dX9_triesAs_55 : decode cX9_triesAs 55 = .ok (.iastore, 1) := by decide +kernel
theorem dX9_triesAs_56 : decode cX9_triesAs 56 = .ok (.return_, 1) := by decide +kernel

