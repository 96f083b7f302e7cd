theorem dX8_fault_147 : decode cX8_fault 147 = .ok (.iload_n 1, 1) := by decide +kernel
theorem dX8_fault_148 : decode cX8_fault 148 = .ok (.invokestatic 129, 3) := by decide +kernel
theorem dX8_fault_151 : decode cX8_fault 151 = .ok (.ireturn, 1) := by decide +kernel
theorem dX8_fault_152 : decode cX8_fault 152 = .ok (.aload_n 3, 1) := by decide +kernel
theorem dX8_fault_153 : decode cX8_fault 153 = .ok (.iload_n 1, 1) := by decide +kernel
theorem dX8_fault_154 : decode cX8_fault 154 = .ok (.aload 4, 2) := by decide +kernel
theorem dX8_fault_156 : decode cX8_fault 156 = .ok (.invokevirtual 171, 3) := by decide +kernel
theorem dX8_fault_159 : decode cX8_fault 159 = .ok (.invokevirtual 175, 3) := by decide +kernel
theorem dX8_fault_162 : decode cX8_fault 162 = .ok (.ifCond .eq 7, 3) := by decide +kernel
theorem dX8_fault_165 : decode cX8_fault 165 = .ok (.iconst 1, 1) := by decide +kernel
theorem dX8_fault_166 : decode cX8_fault 166 = .ok (.goto 4, 3) := by decide +kernel
theorem dX8_fault_169 : decode cX8_fault 169 = .ok (.iconst 0, 1) := by decide +kernel
theorem dX8_fault_170 : decode cX8_fault 170 = .ok (.ireturn, 1) := by decide +kernel
theorem dX8_fault_171 : decode cX8_fault 171 = .ok (.bipush (-2), 2) := by decide +kernel
theorem dX8_fault_173 : decode cX8_fault 173 = .ok (.ireturn, 1) := by decide +kernel
theorem dX8_feed_0 : decode cX8_feed 0 = .ok (.aload_n 0, 1) := by decide +kernel
theorem dX8_feed_1 : decode cX8_feed 1 = .ok (.getfield 13, 3) := by decide +kernel
theorem dX8_feed_4 : decode cX8_feed 4 = .ok (.bipush 20, 2) := by decide +kernel
theorem dX8_feed_6 : decode cX8_feed 6 = .ok (.iadd, 1) := by decide +kernel
theorem dX8_feed_7 : decode cX8_feed 7 = .ok (.sipush 400, 3) := by decide +kernel
theorem dX8_feed_10 : decode cX8_feed 10 = .ok (.if_icmp .le 5, 3) := by decide +kernel
theorem dX8_feed_13 : decode cX8_feed 13 = .ok (.iconst (-1), 1) := by decide +kernel
theorem dX8_feed_14 : decode cX8_feed 14 = .ok (.ireturn, 1) := by decide +kernel
theorem dX8_feed_15 : decode cX8_feed 15 = .ok (.aload_n 0, 1) := by decide +kernel
theorem dX8_feed_16 : decode cX8_feed 16 = .ok (.iload_n 1, 1) := by decide +kernel
theorem dX8_feed_17 : decode cX8_feed 17 = .ok (.invokevirtual 75, 3) := by decide +kernel
theorem dX8_feed_20 : decode cX8_feed 20 = .ok (.aload_n 0, 1) := by decide +kernel
theorem dX8_feed_21 : decode cX8_feed 21 = .ok (.iload_n 2, 1) := by decide +kernel
theorem dX8_feed_22 : decode cX8_feed 22 = .ok (.invokevirtual 75, 3) := by decide +kernel
theorem dX8_feed_25 : decode cX8_feed 25 = .ok (.aload_n 0, 1) := by decide +kernel
theorem dX8_feed_26 : decode cX8_feed 26 = .ok (.iload_n 3, 1) := by decide +kernel
theorem dX8_feed_27 : decode cX8_feed 27 = .ok (.invokevirtual 75, 3) := by decide +kernel
theorem dX8_feed_30 : decode cX8_feed 30 = .ok (.aload_n 0, 1) := by decide +kernel
theorem dX8_feed_31 : decode cX8_feed 31 = .ok (.iload 4, 2) := by decide +kernel
theorem dX8_feed_33 : decode cX8_feed 33 = .ok (.invokevirtual 75, 3) := by decide +kernel
theorem dX8_feed_36 : decode cX8_feed 36 = .ok (.aload_n 0, 1) := by decide +kernel
theorem dX8_feed_37 : decode cX8_feed 37 = .ok (.iload 5, 2) := by decide +kernel
theorem dX8_feed_39 : decode cX8_feed 39 = .ok (.invokevirtual 75, 3) := by decide +kernel
theorem dX8_feed_42 : decode cX8_feed 42 = .ok (.aload_n 0, 1) := by decide +kernel
theorem dX8_feed_43 : decode cX8_feed 43 = .ok (.getfield 13, 3) := by decide +kernel
theorem dX8_feed_46 : decode cX8_feed 46 = .ok (.ireturn, 1) := by decide +kernel
theorem dX8_fine_0 : decode cX8_fine 0 = .ok (.aload_n 0, 1) := by decide +kernel
theorem dX8_fine_1 : decode cX8_fine 1 = .ok (.invokevirtual 213, 3) := by decide +kernel
theorem dX8_fine_4 : decode cX8_fine 4 = .ok (.ifCond .eq 14, 3) := by decide +kernel
theorem dX8_fine_7 : decode cX8_fine 7 = .ok (.iload_n 1, 1) := by decide +kernel
theorem dX8_fine_8 : decode cX8_fine 8 = .ok (.ifCond .lt 10, 3) := by decide +kernel
theorem dX8_fine_11 : decode cX8_fine 11 = .ok (.iload_n 1, 1) := by decide +kernel
theorem dX8_fine_12 : decode cX8_fine 12 = .ok (.sipush 999, 3) := by decide +kernel
theorem dX8_fine_15 : decode cX8_fine 15 = .ok (.if_icmp .le 6, 3) := by decide +kernel
theorem dX8_fine_18 : decode cX8_fine 18 = .ok (.ldc 208, 2) := by decide +kernel
theorem dX8_fine_20 : decode cX8_fine 20 = .ok (.ireturn, 1) := by decide +kernel
theorem dX8_fine_21 : decode cX8_fine 21 = .ok (.aload_n 0, 1) := by decide +kernel
theorem dX8_fine_22 : decode cX8_fine 22 = .ok (.getfield 39, 3) := by decide +kernel
theorem dX8_fine_25 : decode cX8_fine 25 = .ok (.getfield 143, 3) := by decide +kernel
theorem dX8_fine_28 : decode cX8_fine 28 = .ok (.dup, 1) := by decide +kernel
theorem dX8_fine_29 : decode cX8_fine 29 = .ok (.getfield 199, 3) := by decide +kernel
theorem dX8_fine_32 : decode cX8_fine 32 = .ok (.iload_n 1, 1) := by decide +kernel
theorem dX8_fine_33 : decode cX8_fine 33 = .ok (.isub, 1) := by decide +kernel
theorem dX8_fine_34 : decode cX8_fine 34 = .ok (.putfield 199, 3) := by decide +kernel
theorem dX8_fine_37 : decode cX8_fine 37 = .ok (.aload_n 0, 1) := by decide +kernel
theorem dX8_fine_38 : decode cX8_fine 38 = .ok (.getfield 39, 3) := by decide +kernel
theorem dX8_fine_41 : decode cX8_fine 41 = .ok (.getfield 143, 3) := by decide +kernel
theorem dX8_fine_44 : decode cX8_fine 44 = .ok (.getfield 199, 3) := by decide +kernel
theorem dX8_fine_47 : decode cX8_fine 47 = .ok (.ireturn, 1) := by decide +kernel
theorem dX8_fits_0 : decode cX8_fits 0 = .ok (.aload_n 0, 1) := by decide +kernel
theorem dX8_fits_1 : decode cX8_fits 1 = .ok (.invokevirtual 213, 3) := by decide +kernel
theorem dX8_fits_4 : decode cX8_fits 4 = .ok (.ifCond .eq 23, 3) := by decide +kernel
theorem dX8_fits_7 : decode cX8_fits 7 = .ok (.iload_n 1, 1) := by decide +kernel
theorem dX8_fits_8 : decode cX8_fits 8 = .ok (.ifCond .lt 19, 3) := by decide +kernel
theorem dX8_fits_11 : decode cX8_fits 11 = .ok (.iload_n 1, 1) := by decide +kernel
theorem dX8_fits_12 : decode cX8_fits 12 = .ok (.sipush 9999, 3) := by decide +kernel
theorem dX8_fits_15 : decode cX8_fits 15 = .ok (.if_icmp .gt 12, 3) := by decide +kernel
theorem dX8_fits_18 : decode cX8_fits 18 = .ok (.iload_n 2, 1) := by decide +kernel
theorem dX8_fits_19 : decode cX8_fits 19 = .ok (.ifCond .lt 8, 3) := by decide +kernel
theorem dX8_fits_22 : decode cX8_fits 22 = .ok (.iload_n 2, 1) := by decide +kernel
theorem dX8_fits_23 : decode cX8_fits 23 = .ok (.iconst 2, 1) := by decide +kernel
theorem dX8_fits_24 : decode cX8_fits 24 = .ok (.if_icmp .le 5, 3) := by decide +kernel
theorem dX8_fits_27 : decode cX8_fits 27 = .ok (.iconst (-1), 1) := by decide +kernel
theorem dX8_fits_28 : decode cX8_fits 28 = .ok (.ireturn, 1) := by decide +kernel
theorem dX8_fits_29 : decode cX8_fits 29 = .ok (.aload_n 0, 1) := by decide +kernel
theorem dX8_fits_30 : decode cX8_fits 30 = .ok (.getfield 39, 3) := by decide +kernel
theorem dX8_fits_33 : decode cX8_fits 33 = .ok (.getfield 119, 3) := by decide +kernel
theorem dX8_fits_36 : decode cX8_fits 36 = .ok (.getfield 102, 3) := by decide +kernel
theorem dX8_fits_39 : decode cX8_fits 39 = .ok (.invokestatic 216, 3) := by decide +kernel
theorem dX8_fits_42 : decode cX8_fits 42 = .ok (.iconst 1, 1) := by decide +kernel
theorem dX8_fits_43 : decode cX8_fits 43 = .ok (.isub, 1) := by decide +kernel
theorem dX8_fits_44 : decode cX8_fits 44 = .ok (.istore_n 3, 1) := by decide +kernel
theorem dX8_fits_45 : decode cX8_fits 45 = .ok (.iconst 0, 1) := by decide +kernel
theorem dX8_fits_46 : decode cX8_fits 46 = .ok (.istore 4, 2) := by decide +kernel
theorem dX8_fits_48 : decode cX8_fits 48 = .ok (.iload_n 3, 1) := by decide +kernel
theorem dX8_fits_49 : decode cX8_fits 49 = .ok (.istore 5, 2) := by decide +kernel
theorem dX8_fits_51 : decode cX8_fits 51 = .ok (.iconst 0, 1) := by decide +kernel
theorem dX8_fits_52 : decode cX8_fits 52 = .ok (.istore 6, 2) := by decide +kernel
theorem dX8_fits_54 : decode cX8_fits 54 = .ok (.iconst 0, 1) := by decide +kernel
theorem dX8_fits_55 : decode cX8_fits 55 = .ok (.istore 7, 2) := by decide +kernel
theorem dX8_fits_57 : decode cX8_fits 57 = .ok (.iload 7, 2) := by decide +kernel
theorem dX8_fits_59 : decode cX8_fits 59 = .ok (.iload_n 3, 1) := by decide +kernel
theorem dX8_fits_60 : decode cX8_fits 60 = .ok (.if_icmp .gt 67, 3) := by decide +kernel
theorem dX8_fits_63 : decode cX8_fits 63 = .ok (.aload_n 0, 1) := by decide +kernel
theorem dX8_fits_64 : decode cX8_fits 64 = .ok (.getfield 39, 3) := by decide +kernel
theorem dX8_fits_67 : decode cX8_fits 67 = .ok (.getfield 119, 3) := by decide +kernel
theorem dX8_fits_70 : decode cX8_fits 70 = .ok (.iload 7, 2) := by decide +kernel
theorem dX8_fits_72 : decode cX8_fits 72 = .ok (.invokevirtual 294, 3) := by decide +kernel
theorem dX8_fits_75 : decode cX8_fits 75 = .ok (.iload_n 1, 1) := by decide +kernel
theorem dX8_fits_76 : decode cX8_fits 76 = .ok (.if_icmp .ne 45, 3) := by decide +kernel
theorem dX8_fits_79 : decode cX8_fits 79 = .ok (.aload_n 0, 1) := by decide +kernel
theorem dX8_fits_80 : decode cX8_fits 80 = .ok (.getfield 39, 3) := by decide +kernel
theorem dX8_fits_83 : decode cX8_fits 83 = .ok (.getfield 119, 3) := by decide +kernel
theorem dX8_fits_86 : decode cX8_fits 86 = .ok (.iload 7, 2) := by decide +kernel
theorem dX8_fits_88 : decode cX8_fits 88 = .ok (.aload_n 0, 1) := by decide +kernel
theorem dX8_fits_89 : decode cX8_fits 89 = .ok (.getfield 39, 3) := by decide +kernel
theorem dX8_fits_92 : decode cX8_fits 92 = .ok (.getfield 143, 3) := by decide +kernel
theorem dX8_fits_95 : decode cX8_fits 95 = .ok (.getfield 165, 3) := by decide +kernel
theorem dX8_fits_98 : decode cX8_fits 98 = .ok (.invokevirtual 297, 3) := by decide +kernel
theorem dX8_fits_101 : decode cX8_fits 101 = .ok (.ifCond .eq 20, 3) := by decide +kernel
theorem dX8_fits_104 : decode cX8_fits 104 = .ok (.iinc 4 1, 3) := by decide +kernel
theorem dX8_fits_107 : decode cX8_fits 107 = .ok (.iload 5, 2) := by decide +kernel
theorem dX8_fits_109 : decode cX8_fits 109 = .ok (.iload 7, 2) := by decide +kernel
theorem dX8_fits_111 : decode cX8_fits 111 = .ok (.iand, 1) := by decide +kernel
theorem dX8_fits_112 : decode cX8_fits 112 = .ok (.istore 5, 2) := by decide +kernel
theorem dX8_fits_114 : decode cX8_fits 114 = .ok (.iload 6, 2) := by decide +kernel
theorem dX8_fits_116 : decode cX8_fits 116 = .ok (.iload 7, 2) := by decide +kernel
theorem dX8_fits_118 : decode cX8_fits 118 = .ok (.ior, 1) := by decide +kernel
theorem dX8_fits_119 : decode cX8_fits 119 = .ok (.istore 6, 2) := by decide +kernel
theorem dX8_fits_121 : decode cX8_fits 121 = .ok (.iinc 7 1, 3) := by decide +kernel
theorem dX8_fits_124 : decode cX8_fits 124 = .ok (.goto (-67), 3) := by decide +kernel
theorem dX8_fits_127 : decode cX8_fits 127 = .ok (.iload_n 2, 1) := by decide +kernel
theorem dX8_fits_128 : decode cX8_fits 128 = .ok (.ifCond .eq 8, 3) := by decide +kernel
theorem dX8_fits_131 : decode cX8_fits 131 = .ok (.iload 4, 2) := by decide +kernel
theorem dX8_fits_133 : decode cX8_fits 133 = .ok (.ifCond .ne 6, 3) := by decide +kernel
theorem dX8_fits_136 : decode cX8_fits 136 = .ok (.iload 4, 2) := by decide +kernel
theorem dX8_fits_138 : decode cX8_fits 138 = .ok (.ireturn, 1) := by decide +kernel
theorem dX8_fits_139 : decode cX8_fits 139 = .ok (.iload_n 2, 1) := by decide +kernel
theorem dX8_fits_140 : decode cX8_fits 140 = .ok (.iconst 1, 1) := by decide +kernel
theorem dX8_fits_141 : decode cX8_fits 141 = .ok (.if_icmp .ne 8, 3) := by decide +kernel
theorem dX8_fits_144 : decode cX8_fits 144 = .ok (.iload 5, 2) := by decide +kernel
theorem dX8_fits_146 : decode cX8_fits 146 = .ok (.goto 9, 3) := by decide +kernel
theorem dX8_fits_149 : decode cX8_fits 149 = .ok (.iload_n 3, 1) := by decide +kernel
theorem dX8_fits_150 : decode cX8_fits 150 = .ok (.iload 6, 2) := by decide +kernel
theorem dX8_fits_152 : decode cX8_fits 152 = .ok (.iconst (-1), 1) := by decide +kernel
theorem dX8_fits_153 : decode cX8_fits 153 = .ok (.ixor, 1) := by decide +kernel
theorem dX8_fits_154 : decode cX8_fits 154 = .ok (.iand, 1) := by decide +kernel
theorem dX8_fits_155 : decode cX8_fits 155 = .ok (.ireturn, 1) := by decide +kernel
theorem dX8_game_0 : decode cX8_game 0 = .ok (.iload_n 1, 1) := by decide +kernel
theorem dX8_game_1 : decode cX8_game 1 = .ok (.ifCond .lt 27, 3) := by decide +kernel
theorem dX8_game_4 : decode cX8_game 4 = .ok (.iload_n 1, 1) := by decide +kernel
theorem dX8_game_5 : decode cX8_game 5 = .ok (.aload_n 0, 1) := by decide +kernel
theorem dX8_game_6 : decode cX8_game 6 = .ok (.getfield 39, 3) := by decide +kernel
theorem dX8_game_9 : decode cX8_game 9 = .ok (.getfield 283, 3) := by decide +kernel
theorem dX8_game_12 : decode cX8_game 12 = .ok (.arraylength, 1) := by decide +kernel
theorem dX8_game_13 : decode cX8_game 13 = .ok (.if_icmp .ge 15, 3) := by decide +kernel
theorem dX8_game_16 : decode cX8_game 16 = .ok (.iload_n 2, 1) := by decide +kernel
theorem dX8_game_17 : decode cX8_game 17 = .ok (.bipush (-99), 2) := by decide +kernel
theorem dX8_game_19 : decode cX8_game 19 = .ok (.if_icmp .lt 9, 3) := by decide +kernel
theorem dX8_game_22 : decode cX8_game 22 = .ok (.iload_n 2, 1) := by decide +kernel
theorem dX8_game_23 : decode cX8_game 23 = .ok (.bipush 99, 2) := by decide +kernel
theorem dX8_game_25 : decode cX8_game 25 = .ok (.if_icmp .le 7, 3) := by decide +kernel
theorem dX8_game_28 : decode cX8_game 28 = .ok (.sipush (-1000), 3) := by decide +kernel
theorem dX8_game_31 : decode cX8_game 31 = .ok (.ireturn, 1) := by decide +kernel
theorem dX8_game_32 : decode cX8_game 32 = .ok (.aload_n 0, 1) := by decide +kernel
theorem dX8_game_33 : decode cX8_game 33 = .ok (.getfield 39, 3) := by decide +kernel
theorem dX8_game_36 : decode cX8_game 36 = .ok (.getfield 283, 3) := by decide +kernel
theorem dX8_game_39 : decode cX8_game 39 = .ok (.iload_n 1, 1) := by decide +kernel
theorem dX8_game_40 : decode cX8_game 40 = .ok (.iaload, 1) := by decide +kernel
theorem dX8_game_41 : decode cX8_game 41 = .ok (.istore_n 3, 1) := by decide +kernel
theorem dX8_game_42 : decode cX8_game 42 = .ok (.aload_n 0, 1) := by decide +kernel
theorem dX8_game_43 : decode cX8_game 43 = .ok (.getfield 39, 3) := by decide +kernel
theorem dX8_game_46 : decode cX8_game 46 = .ok (.getfield 283, 3) := by decide +kernel
theorem dX8_game_49 : decode cX8_game 49 = .ok (.iload_n 1, 1) := by decide +kernel
theorem dX8_game_50 : decode cX8_game 50 = .ok (.iload_n 2, 1) := by decide +kernel
theorem dX8_game_51 : decode cX8_game 51 = .ok (.iastore, 1) := by decide +kernel
theorem dX8_game_52 : decode cX8_game 52 = .ok (.iload_n 3, 1) := by decide +kernel
theorem dX8_game_53 : decode cX8_game 53 = .ok (.ireturn, 1) := by decide +kernel
theorem dX8_has_0 : decode cX8_has 0 = .ok (.iload_n 0, 1) := by decide +kernel
theorem dX8_has_1 : decode cX8_has 1 = .ok (.iconst 1, 1) := by decide +kernel
theorem dX8_has_2 : decode cX8_has 2 = .ok (.iload_n 1, 1) := by decide +kernel
theorem dX8_has_3 : decode cX8_has 3 = .ok (.ishl, 1) := by decide +kernel
theorem dX8_has_4 : decode cX8_has 4 = .ok (.iand, 1) := by decide +kernel
theorem dX8_has_5 : decode cX8_has 5 = .ok (.ifCond .eq 7, 3) := by decide +kernel
theorem dX8_has_8 : decode cX8_has 8 = .ok (.iconst 1, 1) := by decide +kernel
theorem dX8_has_9 : decode cX8_has 9 = .ok (.goto 4, 3) := by decide +kernel
theorem dX8_has_12 : decode cX8_has 12 = .ok (.iconst 0, 1) := by decide +kernel
theorem dX8_has_13 : decode cX8_has 13 = .ok (.ireturn, 1) := by decide +kernel
theorem dX8_hasWork_0 : decode cX8_hasWork 0 = .ok (.aload_n 0, 1) := by decide +kernel
theorem dX8_hasWork_1 : decode cX8_hasWork 1 = .ok (.getfield 39, 3) := by decide +kernel
theorem dX8_hasWork_4 : decode cX8_hasWork 4 = .ok (.getfield 119, 3) := by decide +kernel
theorem dX8_hasWork_7 : decode cX8_hasWork 7 = .ok (.getfield 102, 3) := by decide +kernel
theorem dX8_hasWork_10 : decode cX8_hasWork 10 = .ok (.ifCond .le 7, 3) := by decide +kernel
theorem dX8_hasWork_13 : decode cX8_hasWork 13 = .ok (.iconst 1, 1) := by decide +kernel
theorem dX8_hasWork_14 : decode cX8_hasWork 14 = .ok (.goto 4, 3) := by decide +kernel
theorem dX8_hasWork_17 : decode cX8_hasWork 17 = .ok (.iconst 0, 1) := by decide +kernel
theorem dX8_hasWork_18 : decode cX8_hasWork 18 = .ok (.ireturn, 1) := by decide +kernel
theorem dX8_hundreds_0 : decode cX8_hundreds 0 = .ok (.lconst 1, 1) := by decide +kernel
theorem dX8_hundreds_1 : decode cX8_hundreds 1 = .ok (.lstore_n 1, 1) := by decide +kernel
theorem dX8_hundreds_2 : decode cX8_hundreds 2 = .ok (.iconst 0, 1) := by decide +kernel
theorem dX8_hundreds_3 : decode cX8_hundreds 3 = .ok (.istore_n 3, 1) := by decide +kernel
theorem dX8_hundreds_4 : decode cX8_hundreds 4 = .ok (.iload_n 3, 1) := by decide +kernel
theorem dX8_hundreds_5 : decode cX8_hundreds 5 = .ok (.iload_n 0, 1) := by decide +kernel
theorem dX8_hundreds_6 : decode cX8_hundreds 6 = .ok (.if_icmp .ge 21, 3) := by decide +kernel
theorem dX8_hundreds_9 : decode cX8_hundreds 9 = .ok (.iload_n 3, 1) := by decide +kernel
theorem dX8_hundreds_10 : decode cX8_hundreds 10 = .ok (.bipush 8, 2) := by decide +kernel
theorem dX8_hundreds_12 : decode cX8_hundreds 12 = .ok (.if_icmp .ge 15, 3) := by decide +kernel
theorem dX8_hundreds_15 : decode cX8_hundreds 15 = .ok (.lload_n 1, 1) := by decide +kernel
theorem dX8_hundreds_16 : decode cX8_hundreds 16 = .ok (.ldc2_w 257, 3) := by decide +kernel
theorem dX8_hundreds_19 : decode cX8_hundreds 19 = .ok (.lmul, 1) := by decide +kernel
theorem dX8_hundreds_20 : decode cX8_hundreds 20 = .ok (.lstore_n 1, 1) := by decide +kernel
theorem dX8_hundreds_21 : decode cX8_hundreds 21 = .ok (.iinc 3 1, 3) := by decide +kernel
theorem dX8_hundreds_24 : decode cX8_hundreds 24 = .ok (.goto (-20), 3) := by decide +kernel
theorem dX8_hundreds_27 : decode cX8_hundreds 27 = .ok (.lload_n 1, 1) := by decide +kernel
theorem dX8_hundreds_28 : decode cX8_hundreds 28 = .ok (.lreturn, 1) := by decide +kernel
theorem dX8_image_0 : decode cX8_image 0 = .ok (.iload_n 1, 1) := by decide +kernel
theorem dX8_image_1 : decode cX8_image 1 = .ok (.ifCond .lt 12, 3) := by decide +kernel
theorem dX8_image_4 : decode cX8_image 4 = .ok (.iload_n 1, 1) := by decide +kernel
theorem dX8_image_5 : decode cX8_image 5 = .ok (.aload_n 0, 1) := by decide +kernel
theorem dX8_image_6 : decode cX8_image 6 = .ok (.getfield 43, 3) := by decide +kernel
theorem dX8_image_9 : decode cX8_image 9 = .ok (.arraylength, 1) := by decide +kernel
theorem dX8_image_10 : decode cX8_image 10 = .ok (.if_icmp .lt 5, 3) := by decide +kernel
theorem dX8_image_13 : decode cX8_image 13 = .ok (.iconst (-1), 1) := by decide +kernel
theorem dX8_image_14 : decode cX8_image 14 = .ok (.ireturn, 1) := by decide +kernel
theorem dX8_image_15 : decode cX8_image 15 = .ok (.aload_n 0, 1) := by decide +kernel
theorem dX8_image_16 : decode cX8_image 16 = .ok (.getfield 43, 3) := by decide +kernel
theorem dX8_image_19 : decode cX8_image 19 = .ok (.iload_n 1, 1) := by decide +kernel
theorem dX8_image_20 : decode cX8_image 20 = .ok (.aaload, 1) := by decide +kernel
theorem dX8_image_21 : decode cX8_image 21 = .ok (.astore_n 2, 1) := by decide +kernel
theorem dX8_image_22 : decode cX8_image 22 = .ok (.aload_n 2, 1) := by decide +kernel
theorem dX8_image_23 : decode cX8_image 23 = .ok (.ifnonnull 25, 3) := by decide +kernel
theorem dX8_image_26 : decode cX8_image 26 = .ok (.new 29, 3) := by decide +kernel
theorem dX8_image_29 : decode cX8_image 29 = .ok (.dup, 1) := by decide +kernel
theorem dX8_image_30 : decode cX8_image 30 = .ok (.aload_n 0, 1) := by decide +kernel
theorem dX8_image_31 : decode cX8_image 31 = .ok (.getfield 39, 3) := by decide +kernel
theorem dX8_image_34 : decode cX8_image 34 = .ok (.getfield 119, 3) := by decide +kernel
theorem dX8_image_37 : decode cX8_image 37 = .ok (.invokespecial 36, 3) := by decide +kernel
theorem dX8_image_40 : decode cX8_image 40 = .ok (.astore_n 2, 1) := by decide +kernel
theorem dX8_image_41 : decode cX8_image 41 = .ok (.aload_n 0, 1) := by decide +kernel
theorem dX8_image_42 : decode cX8_image 42 = .ok (.getfield 43, 3) := by decide +kernel
theorem dX8_image_45 : decode cX8_image 45 = .ok (.iload_n 1, 1) := by decide +kernel
theorem dX8_image_46 : decode cX8_image 46 = .ok (.aload_n 2, 1) := by decide +kernel
theorem dX8_image_47 : decode cX8_image 47 = .ok (.aastore, 1) := by decide +kernel
theorem dX8_image_48 : decode cX8_image 48 = .ok (.aload_n 2, 1) := by decide +kernel
theorem dX8_image_49 : decode cX8_image 49 = .ok (.aload_n 0, 1) := by decide +kernel
theorem dX8_image_50 : decode cX8_image 50 = .ok (.getfield 39, 3) := by decide +kernel
theorem dX8_image_53 : decode cX8_image 53 = .ok (.invokevirtual 300, 3) := by decide +kernel
theorem dX8_image_56 : decode cX8_image 56 = .ok (.aload_n 0, 1) := by decide +kernel
theorem dX8_image_57 : decode cX8_image 57 = .ok (.getfield 39, 3) := by decide +kernel
theorem dX8_image_60 : decode cX8_image 60 = .ok (.getfield 193, 3) := by decide +kernel
theorem dX8_image_63 : decode cX8_image 63 = .ok (.ireturn, 1) := by decide +kernel
theorem dX8_isFault_0 : decode cX8_isFault 0 = .ok (.iload_n 1, 1) := by decide +kernel
theorem dX8_isFault_1 : decode cX8_isFault 1 = .ok (.ifCond .lt 21, 3) := by decide +kernel
theorem dX8_isFault_4 : decode cX8_isFault 4 = .ok (.iload_n 1, 1) := by decide +kernel
theorem dX8_isFault_5 : decode cX8_isFault 5 = .ok (.aload_n 0, 1) := by decide +kernel
theorem dX8_isFault_6 : decode cX8_isFault 6 = .ok (.getfield 39, 3) := by decide +kernel
theorem dX8_isFault_9 : decode cX8_isFault 9 = .ok (.getfield 119, 3) := by decide +kernel
theorem dX8_isFault_12 : decode cX8_isFault 12 = .ok (.getfield 102, 3) := by decide +kernel
theorem dX8_isFault_15 : decode cX8_isFault 15 = .ok (.if_icmp .ge 7, 3) := by decide +kernel
theorem dX8_isFault_18 : decode cX8_isFault 18 = .ok (.iconst 1, 1) := by decide +kernel
theorem dX8_isFault_19 : decode cX8_isFault 19 = .ok (.goto 4, 3) := by decide +kernel
theorem dX8_isFault_22 : decode cX8_isFault 22 = .ok (.iconst 0, 1) := by decide +kernel
theorem dX8_isFault_23 : decode cX8_isFault 23 = .ok (.ireturn, 1) := by decide +kernel
theorem dX8_kind_0 : decode cX8_kind 0 = .ok (.aload_n 0, 1) := by decide +kernel
theorem dX8_kind_1 : decode cX8_kind 1 = .ok (.getfield 39, 3) := by decide +kernel
theorem dX8_kind_4 : decode cX8_kind 4 = .ok (.getfield 119, 3) := by decide +kernel
theorem dX8_kind_7 : decode cX8_kind 7 = .ok (.astore_n 3, 1) := by decide +kernel
theorem dX8_kind_8 : decode cX8_kind 8 = .ok (.iload_n 1, 1) := by decide +kernel
theorem dX8_kind_9 : decode cX8_kind 9 = .ok (.ifCond .lt 11, 3) := by decide +kernel
theorem dX8_kind_12 : decode cX8_kind 12 = .ok (.iload_n 1, 1) := by decide +kernel
theorem dX8_kind_13 : decode cX8_kind 13 = .ok (.aload_n 3, 1) := by decide +kernel
theorem dX8_kind_14 : decode cX8_kind 14 = .ok (.getfield 123, 3) := by decide +kernel
theorem dX8_kind_17 : decode cX8_kind 17 = .ok (.if_icmp .lt 5, 3) := by decide +kernel
theorem dX8_kind_20 : decode cX8_kind 20 = .ok (.iconst (-1), 1) := by decide +kernel
theorem dX8_kind_21 : decode cX8_kind 21 = .ok (.ireturn, 1) := by decide +kernel
theorem dX8_kind_22 : decode cX8_kind 22 = .ok (.iload_n 2, 1) := by decide +kernel
theorem dX8_kind_23 : decode cX8_kind 23 = .ok (.tableswitch 52 0 2 #[25, 34, 43], 25) := by decide +kernel
theorem dX8_kind_48 : decode cX8_kind 48 = .ok (.aload_n 3, 1) := by decide +kernel
theorem dX8_kind_49 : decode cX8_kind 49 = .ok (.getfield 126, 3) := by decide +kernel
theorem dX8_kind_52 : decode cX8_kind 52 = .ok (.iload_n 1, 1) := by decide +kernel
theorem dX8_kind_53 : decode cX8_kind 53 = .ok (.invokestatic 129, 3) := by decide +kernel
theorem dX8_kind_56 : decode cX8_kind 56 = .ok (.ireturn, 1) := by decide +kernel
theorem dX8_kind_57 : decode cX8_kind 57 = .ok (.aload_n 3, 1) := by decide +kernel
theorem dX8_kind_58 : decode cX8_kind 58 = .ok (.getfield 133, 3) := by decide +kernel
theorem dX8_kind_61 : decode cX8_kind 61 = .ok (.iload_n 1, 1) := by decide +kernel
theorem dX8_kind_62 : decode cX8_kind 62 = .ok (.invokestatic 129, 3) := by decide +kernel
theorem dX8_kind_65 : decode cX8_kind 65 = .ok (.ireturn, 1) := by decide +kernel
theorem dX8_kind_66 : decode cX8_kind 66 = .ok (.aload_n 3, 1) := by decide +kernel
theorem dX8_kind_67 : decode cX8_kind 67 = .ok (.getfield 136, 3) := by decide +kernel
theorem dX8_kind_70 : decode cX8_kind 70 = .ok (.iload_n 1, 1) := by decide +kernel
theorem dX8_kind_71 : decode cX8_kind 71 = .ok (.invokestatic 129, 3) := by decide +kernel
theorem dX8_kind_74 : decode cX8_kind 74 = .ok (.ireturn, 1) := by decide +kernel
theorem dX8_kind_75 : decode cX8_kind 75 = .ok (.iconst (-1), 1) := by decide +kernel
theorem dX8_kind_76 : decode cX8_kind 76 = .ok (.ireturn, 1) := by decide +kernel
theorem dX8_look_0 : decode cX8_look 0 = .ok (.aload_n 0, 1) := by decide +kernel
theorem dX8_look_1 : decode cX8_look 1 = .ok (.iload_n 1, 1) := by decide +kernel
theorem dX8_look_2 : decode cX8_look 2 = .ok (.invokevirtual 139, 3) := by decide +kernel
theorem dX8_look_5 : decode cX8_look 5 = .ok (.ifCond .ne 5, 3) := by decide +kernel
theorem dX8_look_8 : decode cX8_look 8 = .ok (.iconst (-1), 1) := by decide +kernel
theorem dX8_look_9 : decode cX8_look 9 = .ok (.ireturn, 1) := by decide +kernel
theorem dX8_look_10 : decode cX8_look 10 = .ok (.aload_n 0, 1) := by decide +kernel
theorem dX8_look_11 : decode cX8_look 11 = .ok (.getfield 39, 3) := by decide +kernel
theorem dX8_look_14 : decode cX8_look 14 = .ok (.getfield 119, 3) := by decide +kernel
theorem dX8_look_17 : decode cX8_look 17 = .ok (.iload_n 1, 1) := by decide +kernel
theorem dX8_look_18 : decode cX8_look 18 = .ok (.aload_n 0, 1) := by decide +kernel
theorem dX8_look_19 : decode cX8_look 19 = .ok (.getfield 39, 3) := by decide +kernel
theorem dX8_look_22 : decode cX8_look 22 = .ok (.getfield 143, 3) := by decide +kernel
theorem dX8_look_25 : decode cX8_look 25 = .ok (.invokevirtual 171, 3) := by decide +kernel
theorem dX8_look_28 : decode cX8_look 28 = .ok (.invokevirtual 175, 3) := by decide +kernel
theorem dX8_look_31 : decode cX8_look 31 = .ok (.ifCond .ne 6, 3) := by decide +kernel
theorem dX8_look_34 : decode cX8_look 34 = .ok (.bipush (-2), 2) := by decide +kernel
theorem dX8_look_36 : decode cX8_look 36 = .ok (.ireturn, 1) := by decide +kernel
theorem dX8_look_37 : decode cX8_look 37 = .ok (.aload_n 0, 1) := by decide +kernel
theorem dX8_look_38 : decode cX8_look 38 = .ok (.getfield 39, 3) := by decide +kernel
theorem dX8_look_41 : decode cX8_look 41 = .ok (.getfield 119, 3) := by decide +kernel
theorem dX8_look_44 : decode cX8_look 44 = .ok (.getfield 149, 3) := by decide +kernel
theorem dX8_look_47 : decode cX8_look 47 = .ok (.iload_n 1, 1) := by decide +kernel
theorem dX8_look_48 : decode cX8_look 48 = .ok (.invokestatic 129, 3) := by decide +kernel
theorem dX8_look_51 : decode cX8_look 51 = .ok (.aload_n 0, 1) := by decide +kernel
theorem dX8_look_52 : decode cX8_look 52 = .ok (.getfield 39, 3) := by decide +kernel
theorem dX8_look_55 : decode cX8_look 55 = .ok (.getfield 143, 3) := by decide +kernel
theorem dX8_look_58 : decode cX8_look 58 = .ok (.getfield 178, 3) := by decide +kernel
theorem dX8_look_61 : decode cX8_look 61 = .ok (.if_icmp .le 6, 3) := by decide +kernel
theorem dX8_look_64 : decode cX8_look 64 = .ok (.bipush (-3), 2) := by decide +kernel
theorem dX8_look_66 : decode cX8_look 66 = .ok (.ireturn, 1) := by decide +kernel
theorem dX8_look_67 : decode cX8_look 67 = .ok (.aload_n 0, 1) := by decide +kernel
theorem dX8_look_68 : decode cX8_look 68 = .ok (.getfield 39, 3) := by decide +kernel
theorem dX8_look_71 : decode cX8_look 71 = .ok (.getfield 143, 3) := by decide +kernel
theorem dX8_look_74 : decode cX8_look 74 = .ok (.aload_n 0, 1) := by decide +kernel
theorem dX8_look_75 : decode cX8_look 75 = .ok (.getfield 39, 3) := by decide +kernel
theorem dX8_look_78 : decode cX8_look 78 = .ok (.getfield 119, 3) := by decide +kernel
theorem dX8_look_81 : decode cX8_look 81 = .ok (.iload_n 1, 1) := by decide +kernel
theorem dX8_look_82 : decode cX8_look 82 = .ok (.invokevirtual 209, 3) := by decide +kernel
theorem dX8_look_85 : decode cX8_look 85 = .ok (.ifCond .eq 7, 3) := by decide +kernel
theorem dX8_look_88 : decode cX8_look 88 = .ok (.iconst 1, 1) := by decide +kernel
theorem dX8_look_89 : decode cX8_look 89 = .ok (.goto 4, 3) := by decide +kernel
theorem dX8_look_92 : decode cX8_look 92 = .ok (.iconst 0, 1) := by decide +kernel
theorem dX8_look_93 : decode cX8_look 93 = .ok (.ireturn, 1) := by decide +kernel
theorem dX8_master_0 : decode cX8_master 0 = .ok (.aload_n 0, 1) := by decide +kernel
theorem dX8_master_1 : decode cX8_master 1 = .ok (.invokevirtual 213, 3) := by decide +kernel
theorem dX8_master_4 : decode cX8_master 4 = .ok (.ifCond .eq 21, 3) := by decide +kernel
theorem dX8_master_7 : decode cX8_master 7 = .ok (.iload_n 1, 1) := by decide +kernel
theorem dX8_master_8 : decode cX8_master 8 = .ok (.ifCond .lt 17, 3) := by decide +kernel
theorem dX8_master_11 : decode cX8_master 11 = .ok (.iload_n 1, 1) := by decide +kernel
theorem dX8_master_12 : decode cX8_master 12 = .ok (.iconst 4, 1) := by decide +kernel
theorem dX8_master_13 : decode cX8_master 13 = .ok (.if_icmp .gt 12, 3) := by decide +kernel
theorem dX8_master_16 : decode cX8_master 16 = .ok (.iload_n 2, 1) := by decide +kernel
theorem dX8_master_17 : decode cX8_master 17 = .ok (.ifCond .lt 8, 3) := by decide +kernel
theorem dX8_master_20 : decode cX8_master 20 = .ok (.iload_n 2, 1) := by decide +kernel
theorem dX8_master_21 : decode cX8_master 21 = .ok (.iconst 2, 1) := by decide +kernel
theorem dX8_master_22 : decode cX8_master 22 = .ok (.if_icmp .le 7, 3) := by decide +kernel
theorem dX8_master_25 : decode cX8_master 25 = .ok (.ldc2_w 270, 3) := by decide +kernel
theorem dX8_master_28 : decode cX8_master 28 = .ok (.lreturn, 1) := by decide +kernel
theorem dX8_master_29 : decode cX8_master 29 = .ok (.aload_n 0, 1) := by decide +kernel
theorem dX8_master_30 : decode cX8_master 30 = .ok (.getfield 71, 3) := by decide +kernel
theorem dX8_master_33 : decode cX8_master 33 = .ok (.aload_n 0, 1) := by decide +kernel
theorem dX8_master_34 : decode cX8_master 34 = .ok (.getfield 39, 3) := by decide +kernel
theorem dX8_master_37 : decode cX8_master 37 = .ok (.getfield 119, 3) := by decide +kernel
theorem dX8_master_40 : decode cX8_master 40 = .ok (.iload_n 1, 1) := by decide +kernel
theorem dX8_master_41 : decode cX8_master 41 = .ok (.aload_n 0, 1) := by decide +kernel
theorem dX8_master_42 : decode cX8_master 42 = .ok (.getfield 39, 3) := by decide +kernel
theorem dX8_master_45 : decode cX8_master 45 = .ok (.getfield 143, 3) := by decide +kernel
theorem dX8_master_48 : decode cX8_master 48 = .ok (.invokevirtual 171, 3) := by decide +kernel
theorem dX8_master_51 : decode cX8_master 51 = .ok (.aload_n 0, 1) := by decide +kernel
theorem dX8_master_52 : decode cX8_master 52 = .ok (.getfield 39, 3) := by decide +kernel
theorem dX8_master_55 : decode cX8_master 55 = .ok (.getfield 143, 3) := by decide +kernel
theorem dX8_master_58 : decode cX8_master 58 = .ok (.getfield 178, 3) := by decide +kernel
theorem dX8_master_61 : decode cX8_master 61 = .ok (.invokevirtual 272, 3) := by decide +kernel
theorem dX8_master_64 : decode cX8_master 64 = .ok (.iload_n 2, 1) := by decide +kernel
theorem dX8_master_65 : decode cX8_master 65 = .ok (.iconst 2, 1) := by decide +kernel
theorem dX8_master_66 : decode cX8_master 66 = .ok (.if_icmp .ne 14, 3) := by decide +kernel
theorem dX8_master_69 : decode cX8_master 69 = .ok (.aload_n 0, 1) := by decide +kernel
theorem dX8_master_70 : decode cX8_master 70 = .ok (.getfield 71, 3) := by decide +kernel
theorem dX8_master_73 : decode cX8_master 73 = .ok (.getfield 276, 3) := by decide +kernel
theorem dX8_master_76 : decode cX8_master 76 = .ok (.i2l, 1) := by decide +kernel
theorem dX8_master_77 : decode cX8_master 77 = .ok (.goto 18, 3) := by decide +kernel
theorem dX8_master_80 : decode cX8_master 80 = .ok (.aload_n 0, 1) := by decide +kernel
theorem dX8_master_81 : decode cX8_master 81 = .ok (.getfield 71, 3) := by decide +kernel
theorem dX8_master_84 : decode cX8_master 84 = .ok (.getfield 279, 3) := by decide +kernel
theorem dX8_master_87 : decode cX8_master 87 = .ok (.iload_n 1, 1) := by decide +kernel
theorem dX8_master_88 : decode cX8_master 88 = .ok (.invokestatic 249, 3) := by decide +kernel
theorem dX8_master_91 : decode cX8_master 91 = .ok (.iload_n 2, 1) := by decide +kernel
theorem dX8_master_92 : decode cX8_master 92 = .ok (.invokestatic 253, 3) := by decide +kernel
theorem dX8_master_95 : decode cX8_master 95 = .ok (.lreturn, 1) := by decide +kernel
theorem dX8_mend_0 : decode cX8_mend 0 = .ok (.aload_n 0, 1) := by decide +kernel
theorem dX8_mend_1 : decode cX8_mend 1 = .ok (.iload_n 1, 1) := by decide +kernel
theorem dX8_mend_2 : decode cX8_mend 2 = .ok (.invokevirtual 139, 3) := by decide +kernel
theorem dX8_mend_5 : decode cX8_mend 5 = .ok (.ifCond .eq 20, 3) := by decide +kernel
theorem dX8_mend_8 : decode cX8_mend 8 = .ok (.aload_n 0, 1) := by decide +kernel
theorem dX8_mend_9 : decode cX8_mend 9 = .ok (.getfield 39, 3) := by decide +kernel
theorem dX8_mend_12 : decode cX8_mend 12 = .ok (.getfield 143, 3) := by decide +kernel
theorem dX8_mend_15 : decode cX8_mend 15 = .ok (.invokevirtual 171, 3) := by decide +kernel
theorem dX8_mend_18 : decode cX8_mend 18 = .ok (.iload_n 1, 1) := by decide +kernel
theorem dX8_mend_19 : decode cX8_mend 19 = .ok (.invokestatic 161, 3) := by decide +kernel
theorem dX8_mend_22 : decode cX8_mend 22 = .ok (.ifCond .eq 6, 3) := by decide +kernel
theorem dX8_mend_25 : decode cX8_mend 25 = .ok (.ldc 208, 2) := by decide +kernel
theorem dX8_mend_27 : decode cX8_mend 27 = .ok (.ireturn, 1) := by decide +kernel
theorem dX8_mend_28 : decode cX8_mend 28 = .ok (.aload_n 0, 1) := by decide +kernel
theorem dX8_mend_29 : decode cX8_mend 29 = .ok (.getfield 39, 3) := by decide +kernel
theorem dX8_mend_32 : decode cX8_mend 32 = .ok (.getfield 143, 3) := by decide +kernel
theorem dX8_mend_35 : decode cX8_mend 35 = .ok (.dup, 1) := by decide +kernel
theorem dX8_mend_36 : decode cX8_mend 36 = .ok (.getfield 165, 3) := by decide +kernel
theorem dX8_mend_39 : decode cX8_mend 39 = .ok (.iload_n 1, 1) := by decide +kernel
theorem dX8_mend_40 : decode cX8_mend 40 = .ok (.invokestatic 216, 3) := by decide +kernel
theorem dX8_mend_43 : decode cX8_mend 43 = .ok (.ior, 1) := by decide +kernel
theorem dX8_mend_44 : decode cX8_mend 44 = .ok (.putfield 165, 3) := by decide +kernel
theorem dX8_mend_47 : decode cX8_mend 47 = .ok (.aload_n 0, 1) := by decide +kernel
theorem dX8_mend_48 : decode cX8_mend 48 = .ok (.getfield 39, 3) := by decide +kernel
theorem dX8_mend_51 : decode cX8_mend 51 = .ok (.dup, 1) := by decide +kernel
theorem dX8_mend_52 : decode cX8_mend 52 = .ok (.getfield 202, 3) := by decide +kernel
theorem dX8_mend_55 : decode cX8_mend 55 = .ok (.aload_n 0, 1) := by decide +kernel
theorem dX8_mend_56 : decode cX8_mend 56 = .ok (.getfield 39, 3) := by decide +kernel
theorem dX8_mend_59 : decode cX8_mend 59 = .ok (.getfield 119, 3) := by decide +kernel
theorem dX8_mend_62 : decode cX8_mend 62 = .ok (.getfield 219, 3) := by decide +kernel
theorem dX8_mend_65 : decode cX8_mend 65 = .ok (.iload_n 1, 1) := by decide +kernel
theorem dX8_mend_66 : decode cX8_mend 66 = .ok (.invokestatic 129, 3) := by decide +kernel
theorem dX8_mend_69 : decode cX8_mend 69 = .ok (.isub, 1) := by decide +kernel
theorem dX8_mend_70 : decode cX8_mend 70 = .ok (.putfield 202, 3) := by decide +kernel
theorem dX8_mend_73 : decode cX8_mend 73 = .ok (.aload_n 0, 1) := by decide +kernel
theorem dX8_mend_74 : decode cX8_mend 74 = .ok (.getfield 39, 3) := by decide +kernel
theorem dX8_mend_77 : decode cX8_mend 77 = .ok (.getfield 202, 3) := by decide +kernel
theorem dX8_mend_80 : decode cX8_mend 80 = .ok (.ireturn, 1) := by decide +kernel
theorem dX8_mixed_0 : decode cX8_mixed 0 = .ok (.iload_n 1, 1) := by decide +kernel
theorem dX8_mixed_1 : decode cX8_mixed 1 = .ok (.ifCond .lt 17, 3) := by decide +kernel
theorem dX8_mixed_4 : decode cX8_mixed 4 = .ok (.iload_n 1, 1) := by decide +kernel
theorem dX8_mixed_5 : decode cX8_mixed 5 = .ok (.iconst 1, 1) := by decide +kernel
theorem dX8_mixed_6 : decode cX8_mixed 6 = .ok (.if_icmp .gt 12, 3) := by decide +kernel
theorem dX8_mixed_9 : decode cX8_mixed 9 = .ok (.iload_n 2, 1) := by decide +kernel
theorem dX8_mixed_10 : decode cX8_mixed 10 = .ok (.ifCond .lt 8, 3) := by decide +kernel
theorem dX8_mixed_13 : decode cX8_mixed 13 = .ok (.iload_n 2, 1) := by decide +kernel
theorem dX8_mixed_14 : decode cX8_mixed 14 = .ok (.iconst 1, 1) := by decide +kernel
theorem dX8_mixed_15 : decode cX8_mixed 15 = .ok (.if_icmp .le 5, 3) := by decide +kernel
theorem dX8_mixed_18 : decode cX8_mixed 18 = .ok (.iconst (-1), 1) := by decide +kernel
theorem dX8_mixed_19 : decode cX8_mixed 19 = .ok (.ireturn, 1) := by decide +kernel
theorem dX8_mixed_20 : decode cX8_mixed 20 = .ok (.aload_n 0, 1) := by decide +kernel
theorem dX8_mixed_21 : decode cX8_mixed 21 = .ok (.invokevirtual 286, 3) := by decide +kernel
theorem dX8_mixed_24 : decode cX8_mixed 24 = .ok (.ifCond .eq 6, 3) := by decide +kernel
theorem dX8_mixed_27 : decode cX8_mixed 27 = .ok (.bipush (-2), 2) := by decide +kernel
theorem dX8_mixed_29 : decode cX8_mixed 29 = .ok (.ireturn, 1) := by decide +kernel
theorem dX8_mixed_30 : decode cX8_mixed 30 = .ok (.aload_n 0, 1) := by decide +kernel
theorem dX8_mixed_31 : decode cX8_mixed 31 = .ok (.getfield 39, 3) := by decide +kernel
theorem dX8_mixed_34 : decode cX8_mixed 34 = .ok (.getfield 283, 3) := by decide +kernel
theorem dX8_mixed_37 : decode cX8_mixed 37 = .ok (.astore_n 3, 1) := by decide +kernel
theorem dX8_mixed_38 : decode cX8_mixed 38 = .ok (.iload_n 1, 1) := by decide +kernel
theorem dX8_mixed_39 : decode cX8_mixed 39 = .ok (.ifCond .ne 17, 3) := by decide +kernel
theorem dX8_mixed_42 : decode cX8_mixed 42 = .ok (.aload_n 3, 1) := by decide +kernel
theorem dX8_mixed_43 : decode cX8_mixed 43 = .ok (.iconst 4, 1) := by decide +kernel
theorem dX8_mixed_44 : decode cX8_mixed 44 = .ok (.invokestatic 129, 3) := by decide +kernel
theorem dX8_mixed_47 : decode cX8_mixed 47 = .ok (.aload_n 3, 1) := by decide +kernel
theorem dX8_mixed_48 : decode cX8_mixed 48 = .ok (.iconst 5, 1) := by decide +kernel
theorem dX8_mixed_49 : decode cX8_mixed 49 = .ok (.invokestatic 129, 3) := by decide +kernel
theorem dX8_mixed_52 : decode cX8_mixed 52 = .ok (.isub, 1) := by decide +kernel
theorem dX8_mixed_53 : decode cX8_mixed 53 = .ok (.goto 14, 3) := by decide +kernel
theorem dX8_mixed_56 : decode cX8_mixed 56 = .ok (.aload_n 3, 1) := by decide +kernel
theorem dX8_mixed_57 : decode cX8_mixed 57 = .ok (.iconst 0, 1) := by decide +kernel
theorem dX8_mixed_58 : decode cX8_mixed 58 = .ok (.invokestatic 129, 3) := by decide +kernel
theorem dX8_mixed_61 : decode cX8_mixed 61 = .ok (.aload_n 3, 1) := by decide +kernel
theorem dX8_mixed_62 : decode cX8_mixed 62 = .ok (.iconst 2, 1) := by decide +kernel
theorem dX8_mixed_63 : decode cX8_mixed 63 = .ok (.invokestatic 129, 3) := by decide +kernel
theorem dX8_mixed_66 : decode cX8_mixed 66 = .ok (.isub, 1) := by decide +kernel
theorem dX8_mixed_67 : decode cX8_mixed 67 = .ok (.istore 4, 2) := by decide +kernel
theorem dX8_mixed_69 : decode cX8_mixed 69 = .ok (.iload_n 1, 1) := by decide +kernel
theorem dX8_mixed_70 : decode cX8_mixed 70 = .ok (.ifCond .ne 19, 3) := by decide +kernel
theorem dX8_mixed_73 : decode cX8_mixed 73 = .ok (.aload_n 3, 1) := by decide +kernel
theorem dX8_mixed_74 : decode cX8_mixed 74 = .ok (.bipush 7, 2) := by decide +kernel
theorem dX8_mixed_76 : decode cX8_mixed 76 = .ok (.invokestatic 129, 3) := by decide +kernel
theorem dX8_mixed_79 : decode cX8_mixed 79 = .ok (.aload_n 3, 1) := by decide +kernel
theorem dX8_mixed_80 : decode cX8_mixed 80 = .ok (.bipush 6, 2) := by decide +kernel
theorem dX8_mixed_82 : decode cX8_mixed 82 = .ok (.invokestatic 129, 3) := by decide +kernel
theorem dX8_mixed_85 : decode cX8_mixed 85 = .ok (.isub, 1) := by decide +kernel
theorem dX8_mixed_86 : decode cX8_mixed 86 = .ok (.goto 14, 3) := by decide +kernel
theorem dX8_mixed_89 : decode cX8_mixed 89 = .ok (.aload_n 3, 1) := by decide +kernel
theorem dX8_mixed_90 : decode cX8_mixed 90 = .ok (.iconst 3, 1) := by decide +kernel
theorem dX8_mixed_91 : decode cX8_mixed 91 = .ok (.invokestatic 129, 3) := by decide +kernel
theorem dX8_mixed_94 : decode cX8_mixed 94 = .ok (.aload_n 3, 1) := by decide +kernel
theorem dX8_mixed_95 : decode cX8_mixed 95 = .ok (.iconst 1, 1) := by decide +kernel
theorem dX8_mixed_96 : decode cX8_mixed 96 = .ok (.invokestatic 129, 3) := by decide +kernel
theorem dX8_mixed_99 : decode cX8_mixed 99 = .ok (.isub, 1) := by decide +kernel
theorem dX8_mixed_100 : decode cX8_mixed 100 = .ok (.istore 5, 2) := by decide +kernel
theorem dX8_mixed_102 : decode cX8_mixed 102 = .ok (.iload 4, 2) := by decide +kernel
theorem dX8_mixed_104 : decode cX8_mixed 104 = .ok (.iload 5, 2) := by decide +kernel
theorem dX8_mixed_106 : decode cX8_mixed 106 = .ok (.iadd, 1) := by decide +kernel
theorem dX8_mixed_107 : decode cX8_mixed 107 = .ok (.ifCond .ge 9, 3) := by decide +kernel
theorem dX8_mixed_110 : decode cX8_mixed 110 = .ok (.iload 5, 2) := by decide +kernel
theorem dX8_mixed_112 : decode cX8_mixed 112 = .ok (.ineg, 1) := by decide +kernel
theorem dX8_mixed_113 : decode cX8_mixed 113 = .ok (.goto 5, 3) := by decide +kernel
theorem dX8_mixed_116 : decode cX8_mixed 116 = .ok (.iload 5, 2) := by decide +kernel
theorem dX8_mixed_118 : decode cX8_mixed 118 = .ok (.istore 6, 2) := by decide +kernel
theorem dX8_mixed_120 : decode cX8_mixed 120 = .ok (.iload 6, 2) := by decide +kernel
theorem dX8_mixed_122 : decode cX8_mixed 122 = .ok (.i2l, 1) := by decide +kernel
theorem dX8_mixed_123 : decode cX8_mixed 123 = .ok (.iload 4, 2) := by decide +kernel
theorem dX8_mixed_125 : decode cX8_mixed 125 = .ok (.iload 5, 2) := by decide +kernel
theorem dX8_mixed_127 : decode cX8_mixed 127 = .ok (.iadd, 1) := by decide +kernel
theorem dX8_mixed_128 : decode cX8_mixed 128 = .ok (.invokestatic 289, 3) := by decide +kernel
theorem dX8_mixed_131 : decode cX8_mixed 131 = .ok (.i2l, 1) := by decide +kernel
theorem dX8_mixed_132 : decode cX8_mixed 132 = .ok (.iload_n 2, 1) := by decide +kernel
theorem dX8_mixed_133 : decode cX8_mixed 133 = .ok (.invokestatic 253, 3) := by decide +kernel
theorem dX8_mixed_136 : decode cX8_mixed 136 = .ok (.l2i, 1) := by decide +kernel
theorem dX8_mixed_137 : decode cX8_mixed 137 = .ok (.ireturn, 1) := by decide +kernel
theorem dX8_partOf_0 : decode cX8_partOf 0 = .ok (.lload_n 0, 1) := by decide +kernel
theorem dX8_partOf_1 : decode cX8_partOf 1 = .ok (.invokestatic 303, 3) := by decide +kernel
theorem dX8_partOf_4 : decode cX8_partOf 4 = .ok (.lstore 5, 2) := by decide +kernel
theorem dX8_partOf_6 : decode cX8_partOf 6 = .ok (.lload_n 2, 1) := by decide +kernel
theorem dX8_partOf_7 : decode cX8_partOf 7 = .ok (.lstore 7, 2) := by decide +kernel
theorem dX8_partOf_9 : decode cX8_partOf 9 = .ok (.iconst 0, 1) := by decide +kernel
theorem dX8_partOf_10 : decode cX8_partOf 10 = .ok (.istore 9, 2) := by decide +kernel
theorem dX8_partOf_12 : decode cX8_partOf 12 = .ok (.iload 9, 2) := by decide +kernel
theorem dX8_partOf_14 : decode cX8_partOf 14 = .ok (.bipush 100, 2) := by decide +kernel
theorem dX8_partOf_16 : decode cX8_partOf 16 = .ok (.if_icmp .ge 31, 3) := by decide +kernel
theorem dX8_partOf_19 : decode cX8_partOf 19 = .ok (.lload 7, 2) := by decide +kernel
theorem dX8_partOf_21 : decode cX8_partOf 21 = .ok (.lconst 0, 1) := by decide +kernel
theorem dX8_partOf_22 : decode cX8_partOf 22 = .ok (.lcmp, 1) := by decide +kernel
theorem dX8_partOf_23 : decode cX8_partOf 23 = .ok (.ifCond .eq 24, 3) := by decide +kernel
theorem dX8_partOf_26 : decode cX8_partOf 26 = .ok (.lload 5, 2) := by decide +kernel
theorem dX8_partOf_28 : decode cX8_partOf 28 = .ok (.lload 7, 2) := by decide +kernel
theorem dX8_partOf_30 : decode cX8_partOf 30 = .ok (.lrem, 1) := by decide +kernel
theorem dX8_partOf_31 : decode cX8_partOf 31 = .ok (.lstore 10, 2) := by decide +kernel
theorem dX8_partOf_33 : decode cX8_partOf 33 = .ok (.lload 7, 2) := by decide +kernel
theorem dX8_partOf_35 : decode cX8_partOf 35 = .ok (.lstore 5, 2) := by decide +kernel
theorem dX8_partOf_37 : decode cX8_partOf 37 = .ok (.lload 10, 2) := by decide +kernel
theorem dX8_partOf_39 : decode cX8_partOf 39 = .ok (.lstore 7, 2) := by decide +kernel
theorem dX8_partOf_41 : decode cX8_partOf 41 = .ok (.iinc 9 1, 3) := by decide +kernel
theorem dX8_partOf_44 : decode cX8_partOf 44 = .ok (.goto (-32), 3) := by decide +kernel
theorem dX8_partOf_47 : decode cX8_partOf 47 = .ok (.lload 5, 2) := by decide +kernel
theorem dX8_partOf_49 : decode cX8_partOf 49 = .ok (.lconst 0, 1) := by decide +kernel
theorem dX8_partOf_50 : decode cX8_partOf 50 = .ok (.lcmp, 1) := by decide +kernel
theorem dX8_partOf_51 : decode cX8_partOf 51 = .ok (.ifCond .ne 14, 3) := by decide +kernel
theorem dX8_partOf_54 : decode cX8_partOf 54 = .ok (.iload 4, 2) := by decide +kernel
theorem dX8_partOf_56 : decode cX8_partOf 56 = .ok (.ifCond .ne 7, 3) := by decide +kernel
theorem dX8_partOf_59 : decode cX8_partOf 59 = .ok (.lload_n 0, 1) := by decide +kernel
theorem dX8_partOf_60 : decode cX8_partOf 60 = .ok (.goto 4, 3) := by decide +kernel
theorem dX8_partOf_63 : decode cX8_partOf 63 = .ok (.lload_n 2, 1) := by decide +kernel
theorem dX8_partOf_64 : decode cX8_partOf 64 = .ok (.lreturn, 1) := by decide +kernel
theorem dX8_partOf_65 : decode cX8_partOf 65 = .ok (.iload 4, 2) := by decide +kernel
theorem dX8_partOf_67 : decode cX8_partOf 67 = .ok (.ifCond .ne 7, 3) := by decide +kernel
theorem dX8_partOf_70 : decode cX8_partOf 70 = .ok (.lload_n 0, 1) := by decide +kernel
theorem dX8_partOf_71 : decode cX8_partOf 71 = .ok (.goto 4, 3) := by decide +kernel
theorem dX8_partOf_74 : decode cX8_partOf 74 = .ok (.lload_n 2, 1) := by decide +kernel
theorem dX8_partOf_75 : decode cX8_partOf 75 = .ok (.lload 5, 2) := by decide +kernel
theorem dX8_partOf_77 : decode cX8_partOf 77 = .ok (.ldiv, 1) := by decide +kernel
theorem dX8_partOf_78 : decode cX8_partOf 78 = .ok (.lreturn, 1) := by decide +kernel
theorem dX8_put_0 : decode cX8_put 0 = .ok (.iload_n 1, 1) := by decide +kernel
theorem dX8_put_1 : decode cX8_put 1 = .ok (.ifCond .lt 13, 3) := by decide +kernel
theorem dX8_put_4 : decode cX8_put 4 = .ok (.iload_n 1, 1) := by decide +kernel
theorem dX8_put_5 : decode cX8_put 5 = .ok (.aload_n 0, 1) := by decide +kernel
theorem dX8_put_6 : decode cX8_put 6 = .ok (.arraylength, 1) := by decide +kernel
theorem dX8_put_7 : decode cX8_put 7 = .ok (.if_icmp .ge 7, 3) := by decide +kernel
theorem dX8_put_10 : decode cX8_put 10 = .ok (.aload_n 0, 1) := by decide +kernel
theorem dX8_put_11 : decode cX8_put 11 = .ok (.iload_n 1, 1) := by decide +kernel
theorem dX8_put_12 : decode cX8_put 12 = .ok (.iload_n 2, 1) := by decide +kernel
theorem dX8_put_13 : decode cX8_put 13 = .ok (.iastore, 1) := by decide +kernel
theorem dX8_put_14 : decode cX8_put 14 = .ok (.return_, 1) := by decide +kernel
theorem dX8_putBytes_0 : decode cX8_putBytes 0 = .ok (.bipush 24, 2) := by decide +kernel
theorem dX8_putBytes_2 : decode cX8_putBytes 2 = .ok (.istore_n 2, 1) := by decide +kernel
theorem dX8_putBytes_3 : decode cX8_putBytes 3 = .ok (.iload_n 2, 1) := by decide +kernel
theorem dX8_putBytes_4 : decode cX8_putBytes 4 = .ok (.ifCond .lt 37, 3) := by decide +kernel
theorem dX8_putBytes_7 : decode cX8_putBytes 7 = .ok (.aload_n 0, 1) := by decide +kernel
theorem dX8_putBytes_8 : decode cX8_putBytes 8 = .ok (.getfield 9, 3) := by decide +kernel
theorem dX8_putBytes_11 : decode cX8_putBytes 11 = .ok (.aload_n 0, 1) := by decide +kernel
theorem dX8_putBytes_12 : decode cX8_putBytes 12 = .ok (.getfield 13, 3) := by decide +kernel
theorem dX8_putBytes_15 : decode cX8_putBytes 15 = .ok (.iload_n 1, 1) := by decide +kernel
theorem dX8_putBytes_16 : decode cX8_putBytes 16 = .ok (.iload_n 2, 1) := by decide +kernel
theorem dX8_putBytes_17 : decode cX8_putBytes 17 = .ok (.iushr, 1) := by decide +kernel
theorem dX8_putBytes_18 : decode cX8_putBytes 18 = .ok (.sipush 255, 3) := by decide +kernel
theorem dX8_putBytes_21 : decode cX8_putBytes 21 = .ok (.iand, 1) := by decide +kernel
theorem dX8_putBytes_22 : decode cX8_putBytes 22 = .ok (.invokestatic 78, 3) := by decide +kernel
theorem dX8_putBytes_25 : decode cX8_putBytes 25 = .ok (.aload_n 0, 1) := by decide +kernel
theorem dX8_putBytes_26 : decode cX8_putBytes 26 = .ok (.dup, 1) := by decide +kernel
theorem dX8_putBytes_27 : decode cX8_putBytes 27 = .ok (.getfield 13, 3) := by decide +kernel
theorem dX8_putBytes_30 : decode cX8_putBytes 30 = .ok (.iconst 1, 1) := by decide +kernel
theorem dX8_putBytes_31 : decode cX8_putBytes 31 = .ok (.iadd, 1) := by decide +kernel
theorem dX8_putBytes_32 : decode cX8_putBytes 32 = .ok (.putfield 13, 3) := by decide +kernel
theorem dX8_putBytes_35 : decode cX8_putBytes 35 = .ok (.iinc 2 (-8), 3) := by decide +kernel
theorem dX8_putBytes_38 : decode cX8_putBytes 38 = .ok (.goto (-35), 3) := by decide +kernel
theorem dX8_putBytes_41 : decode cX8_putBytes 41 = .ok (.return_, 1) := by decide +kernel
theorem dX8_rests_0 : decode cX8_rests 0 = .ok (.iconst 0, 1) := by decide +kernel
theorem dX8_rests_1 : decode cX8_rests 1 = .ok (.istore_n 1, 1) := by decide +kernel
theorem dX8_rests_2 : decode cX8_rests 2 = .ok (.iconst 0, 1) := by decide +kernel
theorem dX8_rests_3 : decode cX8_rests 3 = .ok (.istore_n 2, 1) := by decide +kernel
theorem dX8_rests_4 : decode cX8_rests 4 = .ok (.iload_n 2, 1) := by decide +kernel
theorem dX8_rests_5 : decode cX8_rests 5 = .ok (.iconst 4, 1) := by decide +kernel
theorem dX8_rests_6 : decode cX8_rests 6 = .ok (.if_icmp .ge 95, 3) := by decide +kernel
theorem dX8_rests_9 : decode cX8_rests 9 = .ok (.aload_n 0, 1) := by decide +kernel
theorem dX8_rests_10 : decode cX8_rests 10 = .ok (.getfield 39, 3) := by decide +kernel
theorem dX8_rests_13 : decode cX8_rests 13 = .ok (.getfield 283, 3) := by decide +kernel
theorem dX8_rests_16 : decode cX8_rests 16 = .ok (.iload_n 2, 1) := by decide +kernel
theorem dX8_rests_17 : decode cX8_rests 17 = .ok (.invokestatic 129, 3) := by decide +kernel
theorem dX8_rests_20 : decode cX8_rests 20 = .ok (.aload_n 0, 1) := by decide +kernel
theorem dX8_rests_21 : decode cX8_rests 21 = .ok (.getfield 39, 3) := by decide +kernel
theorem dX8_rests_24 : decode cX8_rests 24 = .ok (.getfield 283, 3) := by decide +kernel
theorem dX8_rests_27 : decode cX8_rests 27 = .ok (.iload_n 2, 1) := by decide +kernel
theorem dX8_rests_28 : decode cX8_rests 28 = .ok (.iconst 2, 1) := by decide +kernel
theorem dX8_rests_29 : decode cX8_rests 29 = .ok (.ixor, 1) := by decide +kernel
theorem dX8_rests_30 : decode cX8_rests 30 = .ok (.invokestatic 129, 3) := by decide +kernel
theorem dX8_rests_33 : decode cX8_rests 33 = .ok (.if_icmp .lt 7, 3) := by decide +kernel
theorem dX8_rests_36 : decode cX8_rests 36 = .ok (.iconst 1, 1) := by decide +kernel
theorem dX8_rests_37 : decode cX8_rests 37 = .ok (.goto 4, 3) := by decide +kernel
theorem dX8_rests_40 : decode cX8_rests 40 = .ok (.iconst 0, 1) := by decide +kernel
theorem dX8_rests_41 : decode cX8_rests 41 = .ok (.istore_n 3, 1) := by decide +kernel
theorem dX8_rests_42 : decode cX8_rests 42 = .ok (.aload_n 0, 1) := by decide +kernel
theorem dX8_rests_43 : decode cX8_rests 43 = .ok (.getfield 39, 3) := by decide +kernel
theorem dX8_rests_46 : decode cX8_rests 46 = .ok (.getfield 283, 3) := by decide +kernel
theorem dX8_rests_49 : decode cX8_rests 49 = .ok (.iconst 4, 1) := by decide +kernel
theorem dX8_rests_50 : decode cX8_rests 50 = .ok (.iload_n 2, 1) := by decide +kernel
theorem dX8_rests_51 : decode cX8_rests 51 = .ok (.iadd, 1) := by decide +kernel
