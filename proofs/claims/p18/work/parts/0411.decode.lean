theorem dX9_one_99 : decode cX9_one 99 = .ok (.lload_n 3, 1) := by decide +kernel
theorem dX9_one_100 : decode cX9_one 100 = .ok (.lcmp, 1) := by decide +kernel
theorem dX9_one_101 : decode cX9_one 101 = .ok (.ifCond .gt 7, 3) := by decide +kernel
theorem dX9_one_104 : decode cX9_one 104 = .ok (.lconst 1, 1) := by decide +kernel
theorem dX9_one_105 : decode cX9_one 105 = .ok (.goto 4, 3) := by decide +kernel
theorem dX9_one_108 : decode cX9_one 108 = .ok (.lconst 0, 1) := by decide +kernel
theorem dX9_one_109 : decode cX9_one 109 = .ok (.lreturn, 1) := by decide +kernel
theorem dX9_one_110 : decode cX9_one 110 = .ok (.lload_n 1, 1) := by decide +kernel
theorem dX9_one_111 : decode cX9_one 111 = .ok (.lload_n 3, 1) := by decide +kernel
theorem dX9_one_112 : decode cX9_one 112 = .ok (.lcmp, 1) := by decide +kernel
theorem dX9_one_113 : decode cX9_one 113 = .ok (.ifCond .ne 7, 3) := by decide +kernel
theorem dX9_one_116 : decode cX9_one 116 = .ok (.lconst 1, 1) := by decide +kernel
theorem dX9_one_117 : decode cX9_one 117 = .ok (.goto 4, 3) := by decide +kernel
theorem dX9_one_120 : decode cX9_one 120 = .ok (.lconst 0, 1) := by decide +kernel
theorem dX9_one_121 : decode cX9_one 121 = .ok (.lreturn, 1) := by decide +kernel
theorem dX9_one_122 : decode cX9_one 122 = .ok (.lload_n 1, 1) := by decide +kernel
theorem dX9_one_123 : decode cX9_one 123 = .ok (.lload_n 3, 1) := by decide +kernel
theorem dX9_one_124 : decode cX9_one 124 = .ok (.lcmp, 1) := by decide +kernel
theorem dX9_one_125 : decode cX9_one 125 = .ok (.ifCond .lt 7, 3) := by decide +kernel
theorem dX9_one_128 : decode cX9_one 128 = .ok (.lconst 1, 1) := by decide +kernel
theorem dX9_one_129 : decode cX9_one 129 = .ok (.goto 4, 3) := by decide +kernel
theorem dX9_one_132 : decode cX9_one 132 = .ok (.lconst 0, 1) := by decide +kernel
theorem dX9_one_133 : decode cX9_one 133 = .ok (.lreturn, 1) := by decide +kernel
theorem dX9_one_134 : decode cX9_one 134 = .ok (.lload_n 1, 1) := by decide +kernel
theorem dX9_one_135 : decode cX9_one 135 = .ok (.lload_n 3, 1) := by decide +kernel
theorem dX9_one_136 : decode cX9_one 136 = .ok (.lcmp, 1) := by decide +kernel
theorem dX9_one_137 : decode cX9_one 137 = .ok (.ifCond .le 7, 3) := by decide +kernel
theorem dX9_one_140 : decode cX9_one 140 = .ok (.lconst 1, 1) := by decide +kernel
theorem dX9_one_141 : decode cX9_one 141 = .ok (.goto 4, 3) := by decide +kernel
theorem dX9_one_144 : decode cX9_one 144 = .ok (.lconst 0, 1) := by decide +kernel
theorem dX9_one_145 : decode cX9_one 145 = .ok (.lreturn, 1) := by decide +kernel
theorem dX9_one_146 : decode cX9_one 146 = .ok (.lload_n 1, 1) := by decide +kernel
theorem dX9_one_147 : decode cX9_one 147 = .ok (.lload_n 3, 1) := by decide +kernel
theorem dX9_one_148 : decode cX9_one 148 = .ok (.land, 1) := by decide +kernel
theorem dX9_one_149 : decode cX9_one 149 = .ok (.lreturn, 1) := by decide +kernel
theorem dX9_one_150 : decode cX9_one 150 = .ok (.lload_n 1, 1) := by decide +kernel
theorem dX9_one_151 : decode cX9_one 151 = .ok (.lload_n 3, 1) := by decide +kernel
theorem dX9_one_152 : decode cX9_one 152 = .ok (.lor, 1) := by decide +kernel
theorem dX9_one_153 : decode cX9_one 153 = .ok (.lreturn, 1) := by decide +kernel
theorem dX9_opens_0 : decode cX9_opens 0 = .ok (.aload_n 0, 1) := by decide +kernel
theorem dX9_opens_1 : decode cX9_opens 1 = .ok (.getfield 146, 3) := by decide +kernel
theorem dX9_opens_4 : decode cX9_opens 4 = .ok (.bipush 10, 2) := by decide +kernel
theorem dX9_opens_6 : decode cX9_opens 6 = .ok (.if_icmp .ne 13, 3) := by decide +kernel
theorem dX9_opens_9 : decode cX9_opens 9 = .ok (.aload_n 0, 1) := by decide +kernel
theorem dX9_opens_10 : decode cX9_opens 10 = .ok (.iconst 2, 1) := by decide +kernel
theorem dX9_opens_11 : decode cX9_opens 11 = .ok (.aload_n 0, 1) := by decide +kernel
theorem dX9_opens_12 : decode cX9_opens 12 = .ok (.getfield 90, 3) := by decide +kernel
theorem dX9_opens_15 : decode cX9_opens 15 = .ok (.invokevirtual 111, 3) := by decide +kernel
theorem dX9_opens_18 : decode cX9_opens 18 = .ok (.ireturn, 1) := by decide +kernel
theorem dX9_opens_19 : decode cX9_opens 19 = .ok (.aload_n 0, 1) := by decide +kernel
theorem dX9_opens_20 : decode cX9_opens 20 = .ok (.dup, 1) := by decide +kernel
theorem dX9_opens_21 : decode cX9_opens 21 = .ok (.getfield 146, 3) := by decide +kernel
theorem dX9_opens_24 : decode cX9_opens 24 = .ok (.iconst 1, 1) := by decide +kernel
theorem dX9_opens_25 : decode cX9_opens 25 = .ok (.iadd, 1) := by decide +kernel
theorem dX9_opens_26 : decode cX9_opens 26 = .ok (.putfield 146, 3) := by decide +kernel
theorem dX9_opens_29 : decode cX9_opens 29 = .ok (.aload_n 0, 1) := by decide +kernel
theorem dX9_opens_30 : decode cX9_opens 30 = .ok (.getfield 32, 3) := by decide +kernel
theorem dX9_opens_33 : decode cX9_opens 33 = .ok (.aload_n 0, 1) := by decide +kernel
theorem dX9_opens_34 : decode cX9_opens 34 = .ok (.getfield 149, 3) := by decide +kernel
theorem dX9_opens_37 : decode cX9_opens 37 = .ok (.iload_n 1, 1) := by decide +kernel
theorem dX9_opens_38 : decode cX9_opens 38 = .ok (.iastore, 1) := by decide +kernel
theorem dX9_opens_39 : decode cX9_opens 39 = .ok (.aload_n 0, 1) := by decide +kernel
theorem dX9_opens_40 : decode cX9_opens 40 = .ok (.dup, 1) := by decide +kernel
theorem dX9_opens_41 : decode cX9_opens 41 = .ok (.getfield 149, 3) := by decide +kernel
theorem dX9_opens_44 : decode cX9_opens 44 = .ok (.iconst 1, 1) := by decide +kernel
theorem dX9_opens_45 : decode cX9_opens 45 = .ok (.iadd, 1) := by decide +kernel
theorem dX9_opens_46 : decode cX9_opens 46 = .ok (.putfield 149, 3) := by decide +kernel
theorem dX9_opens_49 : decode cX9_opens 49 = .ok (.iconst 1, 1) := by decide +kernel
theorem dX9_opens_50 : decode cX9_opens 50 = .ok (.ireturn, 1) := by decide +kernel
theorem dX9_partOf_0 : decode cX9_partOf 0 = .ok (.iload 5, 2) := by decide +kernel
theorem dX9_partOf_2 : decode cX9_partOf 2 = .ok (.ifCond .ne 7, 3) := by decide +kernel
theorem dX9_partOf_5 : decode cX9_partOf 5 = .ok (.lload_n 1, 1) := by decide +kernel
theorem dX9_partOf_6 : decode cX9_partOf 6 = .ok (.goto 4, 3) := by decide +kernel
theorem dX9_partOf_9 : decode cX9_partOf 9 = .ok (.lload_n 3, 1) := by decide +kernel
theorem dX9_partOf_10 : decode cX9_partOf 10 = .ok (.lload_n 1, 1) := by decide +kernel
theorem dX9_partOf_11 : decode cX9_partOf 11 = .ok (.lload_n 3, 1) := by decide +kernel
theorem dX9_partOf_12 : decode cX9_partOf 12 = .ok (.invokestatic 358, 3) := by decide +kernel
theorem dX9_partOf_15 : decode cX9_partOf 15 = .ok (.ldiv, 1) := by decide +kernel
theorem dX9_partOf_16 : decode cX9_partOf 16 = .ok (.lreturn, 1) := by decide +kernel
theorem dX9_passWord_0 : decode cX9_passWord 0 = .ok (.aload_n 0, 1) := by decide +kernel
theorem dX9_passWord_1 : decode cX9_passWord 1 = .ok (.aload_n 0, 1) := by decide +kernel
theorem dX9_passWord_2 : decode cX9_passWord 2 = .ok (.getfield 90, 3) := by decide +kernel
theorem dX9_passWord_5 : decode cX9_passWord 5 = .ok (.invokevirtual 97, 3) := by decide +kernel
theorem dX9_passWord_8 : decode cX9_passWord 8 = .ok (.ifCond .eq 16, 3) := by decide +kernel
theorem dX9_passWord_11 : decode cX9_passWord 11 = .ok (.aload_n 0, 1) := by decide +kernel
theorem dX9_passWord_12 : decode cX9_passWord 12 = .ok (.dup, 1) := by decide +kernel
theorem dX9_passWord_13 : decode cX9_passWord 13 = .ok (.getfield 90, 3) := by decide +kernel
theorem dX9_passWord_16 : decode cX9_passWord 16 = .ok (.iconst 1, 1) := by decide +kernel
theorem dX9_passWord_17 : decode cX9_passWord 17 = .ok (.iadd, 1) := by decide +kernel
theorem dX9_passWord_18 : decode cX9_passWord 18 = .ok (.putfield 90, 3) := by decide +kernel
theorem dX9_passWord_21 : decode cX9_passWord 21 = .ok (.goto (-21), 3) := by decide +kernel
theorem dX9_passWord_24 : decode cX9_passWord 24 = .ok (.return_, 1) := by decide +kernel
theorem dX9_passes_0 : decode cX9_passes 0 = .ok (.iconst 0, 1) := by decide +kernel
theorem dX9_passes_1 : decode cX9_passes 1 = .ok (.istore_n 2, 1) := by decide +kernel
theorem dX9_passes_2 : decode cX9_passes 2 = .ok (.iload_n 2, 1) := by decide +kernel
theorem dX9_passes_3 : decode cX9_passes 3 = .ok (.sipush 200, 3) := by decide +kernel
theorem dX9_passes_6 : decode cX9_passes 6 = .ok (.if_icmp .ge 27, 3) := by decide +kernel
theorem dX9_passes_9 : decode cX9_passes 9 = .ok (.aload_n 0, 1) := by decide +kernel
theorem dX9_passes_10 : decode cX9_passes 10 = .ok (.iload_n 1, 1) := by decide +kernel
theorem dX9_passes_11 : decode cX9_passes 11 = .ok (.invokevirtual 332, 3) := by decide +kernel
theorem dX9_passes_14 : decode cX9_passes 14 = .ok (.istore_n 3, 1) := by decide +kernel
theorem dX9_passes_15 : decode cX9_passes 15 = .ok (.iload_n 3, 1) := by decide +kernel
theorem dX9_passes_16 : decode cX9_passes 16 = .ok (.ifCond .ge 5, 3) := by decide +kernel
theorem dX9_passes_19 : decode cX9_passes 19 = .ok (.iload_n 2, 1) := by decide +kernel
theorem dX9_passes_20 : decode cX9_passes 20 = .ok (.ireturn, 1) := by decide +kernel
theorem dX9_passes_21 : decode cX9_passes 21 = .ok (.aload_n 0, 1) := by decide +kernel
theorem dX9_passes_22 : decode cX9_passes 22 = .ok (.iload_n 3, 1) := by decide +kernel
theorem dX9_passes_23 : decode cX9_passes 23 = .ok (.invokevirtual 298, 3) := by decide +kernel
theorem dX9_passes_26 : decode cX9_passes 26 = .ok (.pop, 1) := by decide +kernel
theorem dX9_passes_27 : decode cX9_passes 27 = .ok (.iinc 2 1, 3) := by decide +kernel
theorem dX9_passes_30 : decode cX9_passes 30 = .ok (.goto (-28), 3) := by decide +kernel
theorem dX9_passes_33 : decode cX9_passes 33 = .ok (.iload_n 2, 1) := by decide +kernel
theorem dX9_passes_34 : decode cX9_passes 34 = .ok (.ireturn, 1) := by decide +kernel
theorem dX9_pop_0 : decode cX9_pop 0 = .ok (.aload_n 0, 1) := by decide +kernel
theorem dX9_pop_1 : decode cX9_pop 1 = .ok (.dup, 1) := by decide +kernel
theorem dX9_pop_2 : decode cX9_pop 2 = .ok (.getfield 253, 3) := by decide +kernel
theorem dX9_pop_5 : decode cX9_pop 5 = .ok (.iconst 1, 1) := by decide +kernel
theorem dX9_pop_6 : decode cX9_pop 6 = .ok (.isub, 1) := by decide +kernel
theorem dX9_pop_7 : decode cX9_pop 7 = .ok (.putfield 253, 3) := by decide +kernel
theorem dX9_pop_10 : decode cX9_pop 10 = .ok (.aload_n 0, 1) := by decide +kernel
theorem dX9_pop_11 : decode cX9_pop 11 = .ok (.getfield 35, 3) := by decide +kernel
theorem dX9_pop_14 : decode cX9_pop 14 = .ok (.aload_n 0, 1) := by decide +kernel
theorem dX9_pop_15 : decode cX9_pop 15 = .ok (.getfield 253, 3) := by decide +kernel
theorem dX9_pop_18 : decode cX9_pop 18 = .ok (.laload, 1) := by decide +kernel
theorem dX9_pop_19 : decode cX9_pop 19 = .ok (.lreturn, 1) := by decide +kernel
theorem dX9_push_0 : decode cX9_push 0 = .ok (.aload_n 0, 1) := by decide +kernel
theorem dX9_push_1 : decode cX9_push 1 = .ok (.getfield 35, 3) := by decide +kernel
theorem dX9_push_4 : decode cX9_push 4 = .ok (.aload_n 0, 1) := by decide +kernel
theorem dX9_push_5 : decode cX9_push 5 = .ok (.getfield 253, 3) := by decide +kernel
theorem dX9_push_8 : decode cX9_push 8 = .ok (.lload_n 1, 1) := by decide +kernel
theorem dX9_push_9 : decode cX9_push 9 = .ok (.lastore, 1) := by decide +kernel
theorem dX9_push_10 : decode cX9_push 10 = .ok (.aload_n 0, 1) := by decide +kernel
theorem dX9_push_11 : decode cX9_push 11 = .ok (.dup, 1) := by decide +kernel
theorem dX9_push_12 : decode cX9_push 12 = .ok (.getfield 253, 3) := by decide +kernel
theorem dX9_push_15 : decode cX9_push 15 = .ok (.iconst 1, 1) := by decide +kernel
theorem dX9_push_16 : decode cX9_push 16 = .ok (.iadd, 1) := by decide +kernel
theorem dX9_push_17 : decode cX9_push 17 = .ok (.putfield 253, 3) := by decide +kernel
theorem dX9_push_20 : decode cX9_push 20 = .ok (.return_, 1) := by decide +kernel
theorem dX9_puts_0 : decode cX9_puts 0 = .ok (.aload_n 0, 1) := by decide +kernel
theorem dX9_puts_1 : decode cX9_puts 1 = .ok (.getfield 13, 3) := by decide +kernel
theorem dX9_puts_4 : decode cX9_puts 4 = .ok (.sipush 400, 3) := by decide +kernel
theorem dX9_puts_7 : decode cX9_puts 7 = .ok (.aload_n 0, 1) := by decide +kernel
theorem dX9_puts_8 : decode cX9_puts 8 = .ok (.getfield 140, 3) := by decide +kernel
theorem dX9_puts_11 : decode cX9_puts 11 = .ok (.imul, 1) := by decide +kernel
theorem dX9_puts_12 : decode cX9_puts 12 = .ok (.aload_n 0, 1) := by decide +kernel
theorem dX9_puts_13 : decode cX9_puts 13 = .ok (.getfield 17, 3) := by decide +kernel
theorem dX9_puts_16 : decode cX9_puts 16 = .ok (.aload_n 0, 1) := by decide +kernel
theorem dX9_puts_17 : decode cX9_puts 17 = .ok (.getfield 140, 3) := by decide +kernel
theorem dX9_puts_20 : decode cX9_puts 20 = .ok (.iaload, 1) := by decide +kernel
theorem dX9_puts_21 : decode cX9_puts 21 = .ok (.iadd, 1) := by decide +kernel
theorem dX9_puts_22 : decode cX9_puts 22 = .ok (.iload_n 1, 1) := by decide +kernel
theorem dX9_puts_23 : decode cX9_puts 23 = .ok (.bipush 16, 2) := by decide +kernel
theorem dX9_puts_25 : decode cX9_puts 25 = .ok (.iload_n 2, 1) := by decide +kernel
theorem dX9_puts_26 : decode cX9_puts 26 = .ok (.imul, 1) := by decide +kernel
theorem dX9_puts_27 : decode cX9_puts 27 = .ok (.iadd, 1) := by decide +kernel
theorem dX9_puts_28 : decode cX9_puts 28 = .ok (.iastore, 1) := by decide +kernel
theorem dX9_puts_29 : decode cX9_puts 29 = .ok (.aload_n 0, 1) := by decide +kernel
theorem dX9_puts_30 : decode cX9_puts 30 = .ok (.getfield 17, 3) := by decide +kernel
theorem dX9_puts_33 : decode cX9_puts 33 = .ok (.aload_n 0, 1) := by decide +kernel
theorem dX9_puts_34 : decode cX9_puts 34 = .ok (.getfield 140, 3) := by decide +kernel
theorem dX9_puts_37 : decode cX9_puts 37 = .ok (.dup2, 1) := by decide +kernel
theorem dX9_puts_38 : decode cX9_puts 38 = .ok (.iaload, 1) := by decide +kernel
theorem dX9_puts_39 : decode cX9_puts 39 = .ok (.iconst 1, 1) := by decide +kernel
theorem dX9_puts_40 : decode cX9_puts 40 = .ok (.iadd, 1) := by decide +kernel
theorem dX9_puts_41 : decode cX9_puts 41 = .ok (.iastore, 1) := by decide +kernel
theorem dX9_puts_42 : decode cX9_puts 42 = .ok (.return_, 1) := by decide +kernel
theorem dX9_putsBack_0 : decode cX9_putsBack 0 = .ok (.iconst 0, 1) := by decide +kernel
theorem dX9_putsBack_1 : decode cX9_putsBack 1 = .ok (.istore_n 1, 1) := by decide +kernel
theorem dX9_putsBack_2 : decode cX9_putsBack 2 = .ok (.iload_n 1, 1) := by decide +kernel
theorem dX9_putsBack_3 : decode cX9_putsBack 3 = .ok (.bipush 104, 2) := by decide +kernel
theorem dX9_putsBack_5 : decode cX9_putsBack 5 = .ok (.if_icmp .ge 21, 3) := by decide +kernel
theorem dX9_putsBack_8 : decode cX9_putsBack 8 = .ok (.aload_n 0, 1) := by decide +kernel
theorem dX9_putsBack_9 : decode cX9_putsBack 9 = .ok (.getfield 42, 3) := by decide +kernel
theorem dX9_putsBack_12 : decode cX9_putsBack 12 = .ok (.iload_n 1, 1) := by decide +kernel
theorem dX9_putsBack_13 : decode cX9_putsBack 13 = .ok (.aload_n 0, 1) := by decide +kernel
theorem dX9_putsBack_14 : decode cX9_putsBack 14 = .ok (.getfield 45, 3) := by decide +kernel
theorem dX9_putsBack_17 : decode cX9_putsBack 17 = .ok (.iload_n 1, 1) := by decide +kernel
theorem dX9_putsBack_18 : decode cX9_putsBack 18 = .ok (.iaload, 1) := by decide +kernel
theorem dX9_putsBack_19 : decode cX9_putsBack 19 = .ok (.iastore, 1) := by decide +kernel
theorem dX9_putsBack_20 : decode cX9_putsBack 20 = .ok (.iinc 1 1, 3) := by decide +kernel
theorem dX9_putsBack_23 : decode cX9_putsBack 23 = .ok (.goto (-21), 3) := by decide +kernel
theorem dX9_putsBack_26 : decode cX9_putsBack 26 = .ok (.return_, 1) := by decide +kernel
theorem dX9_readsAll_0 : decode cX9_readsAll 0 = .ok (.aload_n 0, 1) := by decide +kernel
theorem dX9_readsAll_1 : decode cX9_readsAll 1 = .ok (.getfield 17, 3) := by decide +kernel
theorem dX9_readsAll_4 : decode cX9_readsAll 4 = .ok (.aload_n 0, 1) := by decide +kernel
theorem dX9_readsAll_5 : decode cX9_readsAll 5 = .ok (.getfield 140, 3) := by decide +kernel
theorem dX9_readsAll_8 : decode cX9_readsAll 8 = .ok (.iconst 0, 1) := by decide +kernel
theorem dX9_readsAll_9 : decode cX9_readsAll 9 = .ok (.iastore, 1) := by decide +kernel
theorem dX9_readsAll_10 : decode cX9_readsAll 10 = .ok (.aload_n 0, 1) := by decide +kernel
theorem dX9_readsAll_11 : decode cX9_readsAll 11 = .ok (.iconst 0, 1) := by decide +kernel
theorem dX9_readsAll_12 : decode cX9_readsAll 12 = .ok (.putfield 229, 3) := by decide +kernel
theorem dX9_readsAll_15 : decode cX9_readsAll 15 = .ok (.aload_n 0, 1) := by decide +kernel
theorem dX9_readsAll_16 : decode cX9_readsAll 16 = .ok (.iconst 0, 1) := by decide +kernel
theorem dX9_readsAll_17 : decode cX9_readsAll 17 = .ok (.putfield 90, 3) := by decide +kernel
theorem dX9_readsAll_20 : decode cX9_readsAll 20 = .ok (.aload_n 0, 1) := by decide +kernel
theorem dX9_readsAll_21 : decode cX9_readsAll 21 = .ok (.iconst 0, 1) := by decide +kernel
theorem dX9_readsAll_22 : decode cX9_readsAll 22 = .ok (.putfield 87, 3) := by decide +kernel
theorem dX9_readsAll_25 : decode cX9_readsAll 25 = .ok (.aload_n 0, 1) := by decide +kernel
theorem dX9_readsAll_26 : decode cX9_readsAll 26 = .ok (.iconst 0, 1) := by decide +kernel
theorem dX9_readsAll_27 : decode cX9_readsAll 27 = .ok (.putfield 143, 3) := by decide +kernel
theorem dX9_readsAll_30 : decode cX9_readsAll 30 = .ok (.aload_n 0, 1) := by decide +kernel
theorem dX9_readsAll_31 : decode cX9_readsAll 31 = .ok (.invokevirtual 244, 3) := by decide +kernel
theorem dX9_readsAll_34 : decode cX9_readsAll 34 = .ok (.istore_n 1, 1) := by decide +kernel
theorem dX9_readsAll_35 : decode cX9_readsAll 35 = .ok (.iload_n 1, 1) := by decide +kernel
theorem dX9_readsAll_36 : decode cX9_readsAll 36 = .ok (.ifCond .eq 30, 3) := by decide +kernel
theorem dX9_readsAll_39 : decode cX9_readsAll 39 = .ok (.aload_n 0, 1) := by decide +kernel
theorem dX9_readsAll_40 : decode cX9_readsAll 40 = .ok (.invokevirtual 93, 3) := by decide +kernel
theorem dX9_readsAll_43 : decode cX9_readsAll 43 = .ok (.bipush 59, 2) := by decide +kernel
theorem dX9_readsAll_45 : decode cX9_readsAll 45 = .ok (.if_icmp .ne 21, 3) := by decide +kernel
theorem dX9_readsAll_48 : decode cX9_readsAll 48 = .ok (.aload_n 0, 1) := by decide +kernel
theorem dX9_readsAll_49 : decode cX9_readsAll 49 = .ok (.dup, 1) := by decide +kernel
theorem dX9_readsAll_50 : decode cX9_readsAll 50 = .ok (.getfield 90, 3) := by decide +kernel
theorem dX9_readsAll_53 : decode cX9_readsAll 53 = .ok (.iconst 1, 1) := by decide +kernel
theorem dX9_readsAll_54 : decode cX9_readsAll 54 = .ok (.iadd, 1) := by decide +kernel
theorem dX9_readsAll_55 : decode cX9_readsAll 55 = .ok (.putfield 90, 3) := by decide +kernel
theorem dX9_readsAll_58 : decode cX9_readsAll 58 = .ok (.aload_n 0, 1) := by decide +kernel
theorem dX9_readsAll_59 : decode cX9_readsAll 59 = .ok (.invokevirtual 244, 3) := by decide +kernel
theorem dX9_readsAll_62 : decode cX9_readsAll 62 = .ok (.istore_n 1, 1) := by decide +kernel
theorem dX9_readsAll_63 : decode cX9_readsAll 63 = .ok (.goto (-28), 3) := by decide +kernel
theorem dX9_readsAll_66 : decode cX9_readsAll 66 = .ok (.iload_n 1, 1) := by decide +kernel
theorem dX9_readsAll_67 : decode cX9_readsAll 67 = .ok (.ifCond .eq 21, 3) := by decide +kernel
theorem dX9_readsAll_70 : decode cX9_readsAll 70 = .ok (.aload_n 0, 1) := by decide +kernel
theorem dX9_readsAll_71 : decode cX9_readsAll 71 = .ok (.invokevirtual 93, 3) := by decide +kernel
theorem dX9_readsAll_74 : decode cX9_readsAll 74 = .ok (.iconst (-1), 1) := by decide +kernel
theorem dX9_readsAll_75 : decode cX9_readsAll 75 = .ok (.if_icmp .eq 13, 3) := by decide +kernel
theorem dX9_readsAll_78 : decode cX9_readsAll 78 = .ok (.aload_n 0, 1) := by decide +kernel
theorem dX9_readsAll_79 : decode cX9_readsAll 79 = .ok (.iconst 0, 1) := by decide +kernel
theorem dX9_readsAll_80 : decode cX9_readsAll 80 = .ok (.aload_n 0, 1) := by decide +kernel
theorem dX9_readsAll_81 : decode cX9_readsAll 81 = .ok (.getfield 90, 3) := by decide +kernel
theorem dX9_readsAll_84 : decode cX9_readsAll 84 = .ok (.invokevirtual 111, 3) := by decide +kernel
theorem dX9_readsAll_87 : decode cX9_readsAll 87 = .ok (.istore_n 1, 1) := by decide +kernel
theorem dX9_readsAll_88 : decode cX9_readsAll 88 = .ok (.iload_n 1, 1) := by decide +kernel
theorem dX9_readsAll_89 : decode cX9_readsAll 89 = .ok (.ifCond .eq 29, 3) := by decide +kernel
theorem dX9_readsAll_92 : decode cX9_readsAll 92 = .ok (.aload_n 0, 1) := by decide +kernel
theorem dX9_readsAll_93 : decode cX9_readsAll 93 = .ok (.getfield 140, 3) := by decide +kernel
theorem dX9_readsAll_96 : decode cX9_readsAll 96 = .ok (.bipush 6, 2) := by decide +kernel
theorem dX9_readsAll_98 : decode cX9_readsAll 98 = .ok (.if_icmp .ne 20, 3) := by decide +kernel
theorem dX9_readsAll_101 : decode cX9_readsAll 101 = .ok (.aload_n 0, 1) := by decide +kernel
theorem dX9_readsAll_102 : decode cX9_readsAll 102 = .ok (.getfield 218, 3) := by decide +kernel
theorem dX9_readsAll_105 : decode cX9_readsAll 105 = .ok (.ifCond .ne 13, 3) := by decide +kernel
theorem dX9_readsAll_108 : decode cX9_readsAll 108 = .ok (.aload_n 0, 1) := by decide +kernel
theorem dX9_readsAll_109 : decode cX9_readsAll 109 = .ok (.iconst 0, 1) := by decide +kernel
theorem dX9_readsAll_110 : decode cX9_readsAll 110 = .ok (.aload_n 0, 1) := by decide +kernel
theorem dX9_readsAll_111 : decode cX9_readsAll 111 = .ok (.getfield 90, 3) := by decide +kernel
theorem dX9_readsAll_114 : decode cX9_readsAll 114 = .ok (.invokevirtual 111, 3) := by decide +kernel
theorem dX9_readsAll_117 : decode cX9_readsAll 117 = .ok (.pop, 1) := by decide +kernel
theorem dX9_readsAll_118 : decode cX9_readsAll 118 = .ok (.aload_n 0, 1) := by decide +kernel
theorem dX9_readsAll_119 : decode cX9_readsAll 119 = .ok (.iconst 0, 1) := by decide +kernel
theorem dX9_readsAll_120 : decode cX9_readsAll 120 = .ok (.putfield 79, 3) := by decide +kernel
theorem dX9_readsAll_123 : decode cX9_readsAll 123 = .ok (.aload_n 0, 1) := by decide +kernel
theorem dX9_readsAll_124 : decode cX9_readsAll 124 = .ok (.getfield 87, 3) := by decide +kernel
theorem dX9_readsAll_127 : decode cX9_readsAll 127 = .ok (.ifCond .ne 7, 3) := by decide +kernel
theorem dX9_readsAll_130 : decode cX9_readsAll 130 = .ok (.iconst 1, 1) := by decide +kernel
theorem dX9_readsAll_131 : decode cX9_readsAll 131 = .ok (.goto 4, 3) := by decide +kernel
theorem dX9_readsAll_134 : decode cX9_readsAll 134 = .ok (.iconst 0, 1) := by decide +kernel
theorem dX9_readsAll_135 : decode cX9_readsAll 135 = .ok (.ireturn, 1) := by decide +kernel
theorem dX9_reckons_0 : decode cX9_reckons 0 = .ok (.aload_n 0, 1) := by decide +kernel
theorem dX9_reckons_1 : decode cX9_reckons 1 = .ok (.iconst 0, 1) := by decide +kernel
theorem dX9_reckons_2 : decode cX9_reckons 2 = .ok (.putfield 253, 3) := by decide +kernel
theorem dX9_reckons_5 : decode cX9_reckons 5 = .ok (.iload_n 2, 1) := by decide +kernel
theorem dX9_reckons_6 : decode cX9_reckons 6 = .ok (.istore 4, 2) := by decide +kernel
theorem dX9_reckons_8 : decode cX9_reckons 8 = .ok (.iload 4, 2) := by decide +kernel
theorem dX9_reckons_10 : decode cX9_reckons 10 = .ok (.iload_n 3, 1) := by decide +kernel
theorem dX9_reckons_11 : decode cX9_reckons 11 = .ok (.if_icmp .ge 124, 3) := by decide +kernel
theorem dX9_reckons_14 : decode cX9_reckons 14 = .ok (.aload_n 0, 1) := by decide +kernel
theorem dX9_reckons_15 : decode cX9_reckons 15 = .ok (.getfield 13, 3) := by decide +kernel
theorem dX9_reckons_18 : decode cX9_reckons 18 = .ok (.sipush 400, 3) := by decide +kernel
theorem dX9_reckons_21 : decode cX9_reckons 21 = .ok (.iload_n 1, 1) := by decide +kernel
theorem dX9_reckons_22 : decode cX9_reckons 22 = .ok (.imul, 1) := by decide +kernel
theorem dX9_reckons_23 : decode cX9_reckons 23 = .ok (.iload 4, 2) := by decide +kernel
theorem dX9_reckons_25 : decode cX9_reckons 25 = .ok (.iadd, 1) := by decide +kernel
theorem dX9_reckons_26 : decode cX9_reckons 26 = .ok (.iaload, 1) := by decide +kernel
theorem dX9_reckons_27 : decode cX9_reckons 27 = .ok (.bipush 15, 2) := by decide +kernel
theorem dX9_reckons_29 : decode cX9_reckons 29 = .ok (.iand, 1) := by decide +kernel
theorem dX9_reckons_30 : decode cX9_reckons 30 = .ok (.istore 5, 2) := by decide +kernel
theorem dX9_reckons_32 : decode cX9_reckons 32 = .ok (.aload_n 0, 1) := by decide +kernel
theorem dX9_reckons_33 : decode cX9_reckons 33 = .ok (.getfield 13, 3) := by decide +kernel
theorem dX9_reckons_36 : decode cX9_reckons 36 = .ok (.sipush 400, 3) := by decide +kernel
theorem dX9_reckons_39 : decode cX9_reckons 39 = .ok (.iload_n 1, 1) := by decide +kernel
theorem dX9_reckons_40 : decode cX9_reckons 40 = .ok (.imul, 1) := by decide +kernel
theorem dX9_reckons_41 : decode cX9_reckons 41 = .ok (.iload 4, 2) := by decide +kernel
theorem dX9_reckons_43 : decode cX9_reckons 43 = .ok (.iadd, 1) := by decide +kernel
theorem dX9_reckons_44 : decode cX9_reckons 44 = .ok (.iaload, 1) := by decide +kernel
theorem dX9_reckons_45 : decode cX9_reckons 45 = .ok (.iconst 4, 1) := by decide +kernel
theorem dX9_reckons_46 : decode cX9_reckons 46 = .ok (.ishr, 1) := by decide +kernel
theorem dX9_reckons_47 : decode cX9_reckons 47 = .ok (.istore 6, 2) := by decide +kernel
theorem dX9_reckons_49 : decode cX9_reckons 49 = .ok (.iload 5, 2) := by decide +kernel
theorem dX9_reckons_51 : decode cX9_reckons 51 = .ok (.ifCond .ne 13, 3) := by decide +kernel
theorem dX9_reckons_54 : decode cX9_reckons 54 = .ok (.aload_n 0, 1) := by decide +kernel
theorem dX9_reckons_55 : decode cX9_reckons 55 = .ok (.iload 6, 2) := by decide +kernel
theorem dX9_reckons_57 : decode cX9_reckons 57 = .ok (.i2l, 1) := by decide +kernel
theorem dX9_reckons_58 : decode cX9_reckons 58 = .ok (.invokevirtual 256, 3) := by decide +kernel
theorem dX9_reckons_61 : decode cX9_reckons 61 = .ok (.goto 68, 3) := by decide +kernel
theorem dX9_reckons_64 : decode cX9_reckons 64 = .ok (.iload 5, 2) := by decide +kernel
theorem dX9_reckons_66 : decode cX9_reckons 66 = .ok (.iconst 1, 1) := by decide +kernel
theorem dX9_reckons_67 : decode cX9_reckons 67 = .ok (.if_icmp .ne 17, 3) := by decide +kernel
theorem dX9_reckons_70 : decode cX9_reckons 70 = .ok (.aload_n 0, 1) := by decide +kernel
theorem dX9_reckons_71 : decode cX9_reckons 71 = .ok (.aload_n 0, 1) := by decide +kernel
theorem dX9_reckons_72 : decode cX9_reckons 72 = .ok (.getfield 39, 3) := by decide +kernel
theorem dX9_reckons_75 : decode cX9_reckons 75 = .ok (.iload 6, 2) := by decide +kernel
theorem dX9_reckons_77 : decode cX9_reckons 77 = .ok (.laload, 1) := by decide +kernel
theorem dX9_reckons_78 : decode cX9_reckons 78 = .ok (.invokevirtual 256, 3) := by decide +kernel
theorem dX9_reckons_81 : decode cX9_reckons 81 = .ok (.goto 48, 3) := by decide +kernel
theorem dX9_reckons_84 : decode cX9_reckons 84 = .ok (.iload 5, 2) := by decide +kernel
theorem dX9_reckons_86 : decode cX9_reckons 86 = .ok (.bipush 11, 2) := by decide +kernel
theorem dX9_reckons_88 : decode cX9_reckons 88 = .ok (.if_icmp .ne 16, 3) := by decide +kernel
theorem dX9_reckons_91 : decode cX9_reckons 91 = .ok (.aload_n 0, 1) := by decide +kernel
theorem dX9_reckons_92 : decode cX9_reckons 92 = .ok (.lconst 1, 1) := by decide +kernel
theorem dX9_reckons_93 : decode cX9_reckons 93 = .ok (.aload_n 0, 1) := by decide +kernel
theorem dX9_reckons_94 : decode cX9_reckons 94 = .ok (.invokevirtual 260, 3) := by decide +kernel
theorem dX9_reckons_97 : decode cX9_reckons 97 = .ok (.lsub, 1) := by decide +kernel
theorem dX9_reckons_98 : decode cX9_reckons 98 = .ok (.invokevirtual 256, 3) := by decide +kernel
theorem dX9_reckons_101 : decode cX9_reckons 101 = .ok (.goto 28, 3) := by decide +kernel
theorem dX9_reckons_104 : decode cX9_reckons 104 = .ok (.aload_n 0, 1) := by decide +kernel
theorem dX9_reckons_105 : decode cX9_reckons 105 = .ok (.invokevirtual 260, 3) := by decide +kernel
theorem dX9_reckons_108 : decode cX9_reckons 108 = .ok (.lstore 7, 2) := by decide +kernel
theorem dX9_reckons_110 : decode cX9_reckons 110 = .ok (.aload_n 0, 1) := by decide +kernel
theorem dX9_reckons_111 : decode cX9_reckons 111 = .ok (.invokevirtual 260, 3) := by decide +kernel
theorem dX9_reckons_114 : decode cX9_reckons 114 = .ok (.lstore 9, 2) := by decide +kernel
theorem dX9_reckons_116 : decode cX9_reckons 116 = .ok (.aload_n 0, 1) := by decide +kernel
theorem dX9_reckons_117 : decode cX9_reckons 117 = .ok (.iload 5, 2) := by decide +kernel
theorem dX9_reckons_119 : decode cX9_reckons 119 = .ok (.lload 9, 2) := by decide +kernel
theorem dX9_reckons_121 : decode cX9_reckons 121 = .ok (.lload 7, 2) := by decide +kernel
theorem dX9_reckons_123 : decode cX9_reckons 123 = .ok (.invokestatic 264, 3) := by decide +kernel
theorem dX9_reckons_126 : decode cX9_reckons 126 = .ok (.invokevirtual 256, 3) := by decide +kernel
theorem dX9_reckons_129 : decode cX9_reckons 129 = .ok (.iinc 4 1, 3) := by decide +kernel
theorem dX9_reckons_132 : decode cX9_reckons 132 = .ok (.goto (-124), 3) := by decide +kernel
theorem dX9_reckons_135 : decode cX9_reckons 135 = .ok (.aload_n 0, 1) := by decide +kernel
theorem dX9_reckons_136 : decode cX9_reckons 136 = .ok (.invokevirtual 260, 3) := by decide +kernel
theorem dX9_reckons_139 : decode cX9_reckons 139 = .ok (.lreturn, 1) := by decide +kernel
theorem dX9_rests_0 : decode cX9_rests 0 = .ok (.aload_n 0, 1) := by decide +kernel
theorem dX9_rests_1 : decode cX9_rests 1 = .ok (.iconst 0, 1) := by decide +kernel
theorem dX9_rests_2 : decode cX9_rests 2 = .ok (.invokevirtual 401, 3) := by decide +kernel
theorem dX9_rests_5 : decode cX9_rests 5 = .ok (.aload_n 0, 1) := by decide +kernel
theorem dX9_rests_6 : decode cX9_rests 6 = .ok (.iconst 2, 1) := by decide +kernel
theorem dX9_rests_7 : decode cX9_rests 7 = .ok (.invokevirtual 401, 3) := by decide +kernel
theorem dX9_rests_10 : decode cX9_rests 10 = .ok (.if_icmp .lt 20, 3) := by decide +kernel
theorem dX9_rests_13 : decode cX9_rests 13 = .ok (.aload_n 0, 1) := by decide +kernel
theorem dX9_rests_14 : decode cX9_rests 14 = .ok (.iconst 4, 1) := by decide +kernel
theorem dX9_rests_15 : decode cX9_rests 15 = .ok (.invokevirtual 401, 3) := by decide +kernel
theorem dX9_rests_18 : decode cX9_rests 18 = .ok (.aload_n 0, 1) := by decide +kernel
theorem dX9_rests_19 : decode cX9_rests 19 = .ok (.iconst 5, 1) := by decide +kernel
theorem dX9_rests_20 : decode cX9_rests 20 = .ok (.invokevirtual 401, 3) := by decide +kernel
theorem dX9_rests_23 : decode cX9_rests 23 = .ok (.if_icmp .lt 7, 3) := by decide +kernel
theorem dX9_rests_26 : decode cX9_rests 26 = .ok (.iconst 1, 1) := by decide +kernel
theorem dX9_rests_27 : decode cX9_rests 27 = .ok (.goto 4, 3) := by decide +kernel
theorem dX9_rests_30 : decode cX9_rests 30 = .ok (.iconst 0, 1) := by decide +kernel
theorem dX9_rests_31 : decode cX9_rests 31 = .ok (.istore_n 1, 1) := by decide +kernel
theorem dX9_rests_32 : decode cX9_rests 32 = .ok (.iload_n 1, 1) := by decide +kernel
theorem dX9_rests_33 : decode cX9_rests 33 = .ok (.aload_n 0, 1) := by decide +kernel
theorem dX9_rests_34 : decode cX9_rests 34 = .ok (.iconst 1, 1) := by decide +kernel
theorem dX9_rests_35 : decode cX9_rests 35 = .ok (.invokevirtual 401, 3) := by decide +kernel
theorem dX9_rests_38 : decode cX9_rests 38 = .ok (.aload_n 0, 1) := by decide +kernel
theorem dX9_rests_39 : decode cX9_rests 39 = .ok (.iconst 3, 1) := by decide +kernel
theorem dX9_rests_40 : decode cX9_rests 40 = .ok (.invokevirtual 401, 3) := by decide +kernel
theorem dX9_rests_43 : decode cX9_rests 43 = .ok (.if_icmp .lt 20, 3) := by decide +kernel
theorem dX9_rests_46 : decode cX9_rests 46 = .ok (.aload_n 0, 1) := by decide +kernel
theorem dX9_rests_47 : decode cX9_rests 47 = .ok (.iconst 5, 1) := by decide +kernel
theorem dX9_rests_48 : decode cX9_rests 48 = .ok (.invokevirtual 401, 3) := by decide +kernel
theorem dX9_rests_51 : decode cX9_rests 51 = .ok (.aload_n 0, 1) := by decide +kernel
theorem dX9_rests_52 : decode cX9_rests 52 = .ok (.iconst 4, 1) := by decide +kernel
theorem dX9_rests_53 : decode cX9_rests 53 = .ok (.invokevirtual 401, 3) := by decide +kernel
theorem dX9_rests_56 : decode cX9_rests 56 = .ok (.if_icmp .lt 7, 3) := by decide +kernel
theorem dX9_rests_59 : decode cX9_rests 59 = .ok (.iconst 2, 1) := by decide +kernel
theorem dX9_rests_60 : decode cX9_rests 60 = .ok (.goto 4, 3) := by decide +kernel
theorem dX9_rests_63 : decode cX9_rests 63 = .ok (.iconst 0, 1) := by decide +kernel
theorem dX9_rests_64 : decode cX9_rests 64 = .ok (.ior, 1) := by decide +kernel
theorem dX9_rests_65 : decode cX9_rests 65 = .ok (.istore_n 1, 1) := by decide +kernel
theorem dX9_rests_66 : decode cX9_rests 66 = .ok (.iload_n 1, 1) := by decide +kernel
theorem dX9_rests_67 : decode cX9_rests 67 = .ok (.aload_n 0, 1) := by decide +kernel
theorem dX9_rests_68 : decode cX9_rests 68 = .ok (.iconst 2, 1) := by decide +kernel
theorem dX9_rests_69 : decode cX9_rests 69 = .ok (.invokevirtual 401, 3) := by decide +kernel
theorem dX9_rests_72 : decode cX9_rests 72 = .ok (.aload_n 0, 1) := by decide +kernel
theorem dX9_rests_73 : decode cX9_rests 73 = .ok (.iconst 0, 1) := by decide +kernel
theorem dX9_rests_74 : decode cX9_rests 74 = .ok (.invokevirtual 401, 3) := by decide +kernel
theorem dX9_rests_77 : decode cX9_rests 77 = .ok (.if_icmp .lt 22, 3) := by decide +kernel
theorem dX9_rests_80 : decode cX9_rests 80 = .ok (.aload_n 0, 1) := by decide +kernel
theorem dX9_rests_81 : decode cX9_rests 81 = .ok (.bipush 6, 2) := by decide +kernel
theorem dX9_rests_83 : decode cX9_rests 83 = .ok (.invokevirtual 401, 3) := by decide +kernel
theorem dX9_rests_86 : decode cX9_rests 86 = .ok (.aload_n 0, 1) := by decide +kernel
theorem dX9_rests_87 : decode cX9_rests 87 = .ok (.bipush 7, 2) := by decide +kernel
theorem dX9_rests_89 : decode cX9_rests 89 = .ok (.invokevirtual 401, 3) := by decide +kernel
theorem dX9_rests_92 : decode cX9_rests 92 = .ok (.if_icmp .lt 7, 3) := by decide +kernel
theorem dX9_rests_95 : decode cX9_rests 95 = .ok (.iconst 4, 1) := by decide +kernel
theorem dX9_rests_96 : decode cX9_rests 96 = .ok (.goto 4, 3) := by decide +kernel
theorem dX9_rests_99 : decode cX9_rests 99 = .ok (.iconst 0, 1) := by decide +kernel
theorem dX9_rests_100 : decode cX9_rests 100 = .ok (.ior, 1) := by decide +kernel
theorem dX9_rests_101 : decode cX9_rests 101 = .ok (.istore_n 1, 1) := by decide +kernel
theorem dX9_rests_102 : decode cX9_rests 102 = .ok (.iload_n 1, 1) := by decide +kernel
theorem dX9_rests_103 : decode cX9_rests 103 = .ok (.aload_n 0, 1) := by decide +kernel
theorem dX9_rests_104 : decode cX9_rests 104 = .ok (.iconst 3, 1) := by decide +kernel
theorem dX9_rests_105 : decode cX9_rests 105 = .ok (.invokevirtual 401, 3) := by decide +kernel
theorem dX9_rests_108 : decode cX9_rests 108 = .ok (.aload_n 0, 1) := by decide +kernel
theorem dX9_rests_109 : decode cX9_rests 109 = .ok (.iconst 1, 1) := by decide +kernel
theorem dX9_rests_110 : decode cX9_rests 110 = .ok (.invokevirtual 401, 3) := by decide +kernel
theorem dX9_rests_113 : decode cX9_rests 113 = .ok (.if_icmp .lt 23, 3) := by decide +kernel
theorem dX9_rests_116 : decode cX9_rests 116 = .ok (.aload_n 0, 1) := by decide +kernel
theorem dX9_rests_117 : decode cX9_rests 117 = .ok (.bipush 7, 2) := by decide +kernel
theorem dX9_rests_119 : decode cX9_rests 119 = .ok (.invokevirtual 401, 3) := by decide +kernel
theorem dX9_rests_122 : decode cX9_rests 122 = .ok (.aload_n 0, 1) := by decide +kernel
theorem dX9_rests_123 : decode cX9_rests 123 = .ok (.bipush 6, 2) := by decide +kernel
theorem dX9_rests_125 : decode cX9_rests 125 = .ok (.invokevirtual 401, 3) := by decide +kernel
theorem dX9_rests_128 : decode cX9_rests 128 = .ok (.if_icmp .lt 8, 3) := by decide +kernel
theorem dX9_rests_131 : decode cX9_rests 131 = .ok (.bipush 8, 2) := by decide +kernel
theorem dX9_rests_133 : decode cX9_rests 133 = .ok (.goto 4, 3) := by decide +kernel
theorem dX9_rests_136 : decode cX9_rests 136 = .ok (.iconst 0, 1) := by decide +kernel
theorem dX9_rests_137 : decode cX9_rests 137 = .ok (.ior, 1) := by decide +kernel
theorem dX9_rests_138 : decode cX9_rests 138 = .ok (.ireturn, 1) := by decide +kernel
theorem dX9_row_0 : decode cX9_row 0 = .ok (.iload_n 1, 1) := by decide +kernel
theorem dX9_row_1 : decode cX9_row 1 = .ok (.iconst (-1), 1) := by decide +kernel
theorem dX9_row_2 : decode cX9_row 2 = .ok (.if_icmp .ne 13, 3) := by decide +kernel
theorem dX9_row_5 : decode cX9_row 5 = .ok (.aload_n 0, 1) := by decide +kernel
theorem dX9_row_6 : decode cX9_row 6 = .ok (.getfield 42, 3) := by decide +kernel
theorem dX9_row_9 : decode cX9_row 9 = .ok (.bipush 8, 2) := by decide +kernel
theorem dX9_row_11 : decode cX9_row 11 = .ok (.iconst 0, 1) := by decide +kernel
theorem dX9_row_12 : decode cX9_row 12 = .ok (.iastore, 1) := by decide +kernel
theorem dX9_row_13 : decode cX9_row 13 = .ok (.iconst 0, 1) := by decide +kernel
theorem dX9_row_14 : decode cX9_row 14 = .ok (.ireturn, 1) := by decide +kernel
theorem dX9_row_15 : decode cX9_row 15 = .ok (.aload_n 0, 1) := by decide +kernel
theorem dX9_row_16 : decode cX9_row 16 = .ok (.iload_n 1, 1) := by decide +kernel
theorem dX9_row_17 : decode cX9_row 17 = .ok (.invokevirtual 280, 3) := by decide +kernel
theorem dX9_row_20 : decode cX9_row 20 = .ok (.ifCond .eq 15, 3) := by decide +kernel
theorem dX9_row_23 : decode cX9_row 23 = .ok (.aload_n 0, 1) := by decide +kernel
theorem dX9_row_24 : decode cX9_row 24 = .ok (.getfield 42, 3) := by decide +kernel
theorem dX9_row_27 : decode cX9_row 27 = .ok (.bipush 8, 2) := by decide +kernel
theorem dX9_row_29 : decode cX9_row 29 = .ok (.iaload, 1) := by decide +kernel
theorem dX9_row_30 : decode cX9_row 30 = .ok (.bipush 8, 2) := by decide +kernel
theorem dX9_row_32 : decode cX9_row 32 = .ok (.if_icmp .ne 6, 3) := by decide +kernel
theorem dX9_row_35 : decode cX9_row 35 = .ok (.bipush (-2), 2) := by decide +kernel
theorem dX9_row_37 : decode cX9_row 37 = .ok (.ireturn, 1) := by decide +kernel
theorem dX9_row_38 : decode cX9_row 38 = .ok (.aload_n 0, 1) := by decide +kernel
theorem dX9_row_39 : decode cX9_row 39 = .ok (.getfield 42, 3) := by decide +kernel
theorem dX9_row_42 : decode cX9_row 42 = .ok (.bipush 10, 2) := by decide +kernel
theorem dX9_row_44 : decode cX9_row 44 = .ok (.aload_n 0, 1) := by decide +kernel
theorem dX9_row_45 : decode cX9_row 45 = .ok (.getfield 42, 3) := by decide +kernel
theorem dX9_row_48 : decode cX9_row 48 = .ok (.bipush 8, 2) := by decide +kernel
theorem dX9_row_50 : decode cX9_row 50 = .ok (.iaload, 1) := by decide +kernel
theorem dX9_row_51 : decode cX9_row 51 = .ok (.iadd, 1) := by decide +kernel
theorem dX9_row_52 : decode cX9_row 52 = .ok (.iload_n 1, 1) := by decide +kernel
theorem dX9_row_53 : decode cX9_row 53 = .ok (.iastore, 1) := by decide +kernel
theorem dX9_row_54 : decode cX9_row 54 = .ok (.aload_n 0, 1) := by decide +kernel
theorem dX9_row_55 : decode cX9_row 55 = .ok (.getfield 42, 3) := by decide +kernel
theorem dX9_row_58 : decode cX9_row 58 = .ok (.bipush 8, 2) := by decide +kernel
theorem dX9_row_60 : decode cX9_row 60 = .ok (.dup2, 1) := by decide +kernel
theorem dX9_row_61 : decode cX9_row 61 = .ok (.iaload, 1) := by decide +kernel
theorem dX9_row_62 : decode cX9_row 62 = .ok (.iconst 1, 1) := by decide +kernel
theorem dX9_row_63 : decode cX9_row 63 = .ok (.iadd, 1) := by decide +kernel
theorem dX9_row_64 : decode cX9_row 64 = .ok (.iastore, 1) := by decide +kernel
theorem dX9_row_65 : decode cX9_row 65 = .ok (.aload_n 0, 1) := by decide +kernel
theorem dX9_row_66 : decode cX9_row 66 = .ok (.getfield 42, 3) := by decide +kernel
theorem dX9_row_69 : decode cX9_row 69 = .ok (.bipush 8, 2) := by decide +kernel
theorem dX9_row_71 : decode cX9_row 71 = .ok (.iaload, 1) := by decide +kernel
theorem dX9_row_72 : decode cX9_row 72 = .ok (.ireturn, 1) := by decide +kernel
theorem dX9_rule_0 : decode cX9_rule 0 = .ok (.aload_n 0, 1) := by decide +kernel
theorem dX9_rule_1 : decode cX9_rule 1 = .ok (.getfield 247, 3) := by decide +kernel
theorem dX9_rule_4 : decode cX9_rule 4 = .ok (.bipush 6, 2) := by decide +kernel
theorem dX9_rule_6 : decode cX9_rule 6 = .ok (.if_icmp .ne 5, 3) := by decide +kernel
theorem dX9_rule_9 : decode cX9_rule 9 = .ok (.iconst (-1), 1) := by decide +kernel
theorem dX9_rule_10 : decode cX9_rule 10 = .ok (.ireturn, 1) := by decide +kernel
theorem dX9_rule_11 : decode cX9_rule 11 = .ok (.aload_n 0, 1) := by decide +kernel
theorem dX9_rule_12 : decode cX9_rule 12 = .ok (.aload_n 0, 1) := by decide +kernel
theorem dX9_rule_13 : decode cX9_rule 13 = .ok (.getfield 247, 3) := by decide +kernel
theorem dX9_rule_16 : decode cX9_rule 16 = .ok (.putfield 140, 3) := by decide +kernel
theorem dX9_rule_19 : decode cX9_rule 19 = .ok (.aload_n 0, 1) := by decide +kernel
theorem dX9_rule_20 : decode cX9_rule 20 = .ok (.getfield 23, 3) := by decide +kernel
theorem dX9_rule_23 : decode cX9_rule 23 = .ok (.aload_n 0, 1) := by decide +kernel
theorem dX9_rule_24 : decode cX9_rule 24 = .ok (.getfield 140, 3) := by decide +kernel
theorem dX9_rule_27 : decode cX9_rule 27 = .ok (.iconst 0, 1) := by decide +kernel
theorem dX9_rule_28 : decode cX9_rule 28 = .ok (.iastore, 1) := by decide +kernel
theorem dX9_rule_29 : decode cX9_rule 29 = .ok (.aload_n 0, 1) := by decide +kernel
theorem dX9_rule_30 : decode cX9_rule 30 = .ok (.invokevirtual 250, 3) := by decide +kernel
theorem dX9_rule_33 : decode cX9_rule 33 = .ok (.ifCond .ne 11, 3) := by decide +kernel
theorem dX9_rule_36 : decode cX9_rule 36 = .ok (.bipush (-2), 2) := by decide +kernel
theorem dX9_rule_38 : decode cX9_rule 38 = .ok (.aload_n 0, 1) := by decide +kernel
theorem dX9_rule_39 : decode cX9_rule 39 = .ok (.getfield 87, 3) := by decide +kernel
theorem dX9_rule_42 : decode cX9_rule 42 = .ok (.isub, 1) := by decide +kernel
theorem dX9_rule_43 : decode cX9_rule 43 = .ok (.ireturn, 1) := by decide +kernel
theorem dX9_rule_44 : decode cX9_rule 44 = .ok (.aload_n 0, 1) := by decide +kernel
theorem dX9_rule_45 : decode cX9_rule 45 = .ok (.dup, 1) := by decide +kernel
theorem dX9_rule_46 : decode cX9_rule 46 = .ok (.getfield 247, 3) := by decide +kernel
theorem dX9_rule_49 : decode cX9_rule 49 = .ok (.iconst 1, 1) := by decide +kernel
theorem dX9_rule_50 : decode cX9_rule 50 = .ok (.iadd, 1) := by decide +kernel
theorem dX9_rule_51 : decode cX9_rule 51 = .ok (.putfield 247, 3) := by decide +kernel
theorem dX9_rule_54 : decode cX9_rule 54 = .ok (.aload_n 0, 1) := by decide +kernel
theorem dX9_rule_55 : decode cX9_rule 55 = .ok (.getfield 247, 3) := by decide +kernel
theorem dX9_rule_58 : decode cX9_rule 58 = .ok (.iconst 1, 1) := by decide +kernel
theorem dX9_rule_59 : decode cX9_rule 59 = .ok (.isub, 1) := by decide +kernel
theorem dX9_rule_60 : decode cX9_rule 60 = .ok (.ireturn, 1) := by decide +kernel
theorem dX9_see_0 : decode cX9_see 0 = .ok (.aload_n 0, 1) := by decide +kernel
theorem dX9_see_1 : decode cX9_see 1 = .ok (.getfield 90, 3) := by decide +kernel
theorem dX9_see_4 : decode cX9_see 4 = .ok (.aload_n 0, 1) := by decide +kernel
theorem dX9_see_5 : decode cX9_see 5 = .ok (.getfield 79, 3) := by decide +kernel
theorem dX9_see_8 : decode cX9_see 8 = .ok (.if_icmp .ge 30, 3) := by decide +kernel
theorem dX9_see_11 : decode cX9_see 11 = .ok (.aload_n 0, 1) := by decide +kernel
theorem dX9_see_12 : decode cX9_see 12 = .ok (.getfield 7, 3) := by decide +kernel
theorem dX9_see_15 : decode cX9_see 15 = .ok (.aload_n 0, 1) := by decide +kernel
theorem dX9_see_16 : decode cX9_see 16 = .ok (.getfield 90, 3) := by decide +kernel
theorem dX9_see_19 : decode cX9_see 19 = .ok (.baload, 1) := by decide +kernel
theorem dX9_see_20 : decode cX9_see 20 = .ok (.bipush 32, 2) := by decide +kernel
theorem dX9_see_22 : decode cX9_see 22 = .ok (.if_icmp .ne 16, 3) := by decide +kernel
theorem dX9_see_25 : decode cX9_see 25 = .ok (.aload_n 0, 1) := by decide +kernel
theorem dX9_see_26 : decode cX9_see 26 = .ok (.dup, 1) := by decide +kernel
theorem dX9_see_27 : decode cX9_see 27 = .ok (.getfield 90, 3) := by decide +kernel
theorem dX9_see_30 : decode cX9_see 30 = .ok (.iconst 1, 1) := by decide +kernel
theorem dX9_see_31 : decode cX9_see 31 = .ok (.iadd, 1) := by decide +kernel
theorem dX9_see_32 : decode cX9_see 32 = .ok (.putfield 90, 3) := by decide +kernel
theorem dX9_see_35 : decode cX9_see 35 = .ok (.goto (-35), 3) := by decide +kernel
theorem dX9_see_38 : decode cX9_see 38 = .ok (.aload_n 0, 1) := by decide +kernel
theorem dX9_see_39 : decode cX9_see 39 = .ok (.getfield 90, 3) := by decide +kernel
theorem dX9_see_42 : decode cX9_see 42 = .ok (.aload_n 0, 1) := by decide +kernel
theorem dX9_see_43 : decode cX9_see 43 = .ok (.getfield 79, 3) := by decide +kernel
theorem dX9_see_46 : decode cX9_see 46 = .ok (.if_icmp .ge 19, 3) := by decide +kernel
theorem dX9_see_49 : decode cX9_see 49 = .ok (.aload_n 0, 1) := by decide +kernel
theorem dX9_see_50 : decode cX9_see 50 = .ok (.getfield 7, 3) := by decide +kernel
theorem dX9_see_53 : decode cX9_see 53 = .ok (.aload_n 0, 1) := by decide +kernel
theorem dX9_see_54 : decode cX9_see 54 = .ok (.getfield 90, 3) := by decide +kernel
theorem dX9_see_57 : decode cX9_see 57 = .ok (.baload, 1) := by decide +kernel
theorem dX9_see_58 : decode cX9_see 58 = .ok (.sipush 255, 3) := by decide +kernel
theorem dX9_see_61 : decode cX9_see 61 = .ok (.iand, 1) := by decide +kernel
theorem dX9_see_62 : decode cX9_see 62 = .ok (.goto 4, 3) := by decide +kernel
theorem dX9_see_65 : decode cX9_see 65 = .ok (.iconst (-1), 1) := by decide +kernel
theorem dX9_see_66 : decode cX9_see 66 = .ok (.ireturn, 1) := by decide +kernel
theorem dX9_seed_0 : decode cX9_seed 0 = .ok (.iload_n 1, 1) := by decide +kernel
theorem dX9_seed_1 : decode cX9_seed 1 = .ok (.ifCond .ge 5, 3) := by decide +kernel
theorem dX9_seed_4 : decode cX9_seed 4 = .ok (.iconst (-1), 1) := by decide +kernel
theorem dX9_seed_5 : decode cX9_seed 5 = .ok (.ireturn, 1) := by decide +kernel
theorem dX9_seed_6 : decode cX9_seed 6 = .ok (.aload_n 0, 1) := by decide +kernel
theorem dX9_seed_7 : decode cX9_seed 7 = .ok (.getfield 42, 3) := by decide +kernel
theorem dX9_seed_10 : decode cX9_seed 10 = .ok (.bipush 9, 2) := by decide +kernel
theorem dX9_seed_12 : decode cX9_seed 12 = .ok (.iaload, 1) := by decide +kernel
theorem dX9_seed_13 : decode cX9_seed 13 = .ok (.istore_n 2, 1) := by decide +kernel
theorem dX9_seed_14 : decode cX9_seed 14 = .ok (.aload_n 0, 1) := by decide +kernel
theorem dX9_seed_15 : decode cX9_seed 15 = .ok (.getfield 42, 3) := by decide +kernel
theorem dX9_seed_18 : decode cX9_seed 18 = .ok (.bipush 9, 2) := by decide +kernel
theorem dX9_seed_20 : decode cX9_seed 20 = .ok (.iload_n 1, 1) := by decide +kernel
theorem dX9_seed_21 : decode cX9_seed 21 = .ok (.iastore, 1) := by decide +kernel
theorem dX9_seed_22 : decode cX9_seed 22 = .ok (.iload_n 2, 1) := by decide +kernel
theorem dX9_seed_23 : decode cX9_seed 23 = .ok (.ireturn, 1) := by decide +kernel
theorem dX9_seen_0 : decode cX9_seen 0 = .ok (.aload_n 0, 1) := by decide +kernel
theorem dX9_seen_1 : decode cX9_seen 1 = .ok (.iload_n 1, 1) := by decide +kernel
theorem dX9_seen_2 : decode cX9_seen 2 = .ok (.invokevirtual 280, 3) := by decide +kernel
theorem dX9_seen_5 : decode cX9_seen 5 = .ok (.ifCond .eq 13, 3) := by decide +kernel
theorem dX9_seen_8 : decode cX9_seen 8 = .ok (.iload_n 2, 1) := by decide +kernel
theorem dX9_seen_9 : decode cX9_seen 9 = .ok (.i2l, 1) := by decide +kernel
theorem dX9_seen_10 : decode cX9_seen 10 = .ok (.lconst 0, 1) := by decide +kernel
theorem dX9_seen_11 : decode cX9_seen 11 = .ok (.lconst 1, 1) := by decide +kernel
theorem dX9_seen_12 : decode cX9_seen 12 = .ok (.invokestatic 118, 3) := by decide +kernel
theorem dX9_seen_15 : decode cX9_seen 15 = .ok (.ifCond .ne 7, 3) := by decide +kernel
theorem dX9_seen_18 : decode cX9_seen 18 = .ok (.ldc2_w 362, 3) := by decide +kernel
theorem dX9_seen_21 : decode cX9_seen 21 = .ok (.lreturn, 1) := by decide +kernel
theorem dX9_seen_22 : decode cX9_seen 22 = .ok (.aload_n 0, 1) := by decide +kernel
theorem dX9_seen_23 : decode cX9_seen 23 = .ok (.aload_n 0, 1) := by decide +kernel
theorem dX9_seen_24 : decode cX9_seen 24 = .ok (.iload_n 1, 1) := by decide +kernel
theorem dX9_seen_25 : decode cX9_seen 25 = .ok (.invokevirtual 364, 3) := by decide +kernel
theorem dX9_seen_28 : decode cX9_seen 28 = .ok (.aload_n 0, 1) := by decide +kernel
theorem dX9_seen_29 : decode cX9_seen 29 = .ok (.aload_n 0, 1) := by decide +kernel
theorem dX9_seen_30 : decode cX9_seen 30 = .ok (.getfield 42, 3) := by decide +kernel
theorem dX9_seen_33 : decode cX9_seen 33 = .ok (.bipush 8, 2) := by decide +kernel
theorem dX9_seen_35 : decode cX9_seen 35 = .ok (.iaload, 1) := by decide +kernel
theorem dX9_seen_36 : decode cX9_seen 36 = .ok (.invokevirtual 367, 3) := by decide +kernel
theorem dX9_seen_39 : decode cX9_seen 39 = .ok (.iload_n 2, 1) := by decide +kernel
theorem dX9_seen_40 : decode cX9_seen 40 = .ok (.invokevirtual 370, 3) := by decide +kernel
theorem dX9_seen_43 : decode cX9_seen 43 = .ok (.lreturn, 1) := by decide +kernel
theorem dX9_settles_0 : decode cX9_settles 0 = .ok (.aload_n 0, 1) := by decide +kernel
theorem dX9_settles_1 : decode cX9_settles 1 = .ok (.getfield 149, 3) := by decide +kernel
theorem dX9_settles_4 : decode cX9_settles 4 = .ok (.ifCond .le 72, 3) := by decide +kernel
theorem dX9_settles_7 : decode cX9_settles 7 = .ok (.aload_n 0, 1) := by decide +kernel
theorem dX9_settles_8 : decode cX9_settles 8 = .ok (.getfield 32, 3) := by decide +kernel
theorem dX9_settles_11 : decode cX9_settles 11 = .ok (.aload_n 0, 1) := by decide +kernel
theorem dX9_settles_12 : decode cX9_settles 12 = .ok (.getfield 149, 3) := by decide +kernel
theorem dX9_settles_15 : decode cX9_settles 15 = .ok (.iconst 1, 1) := by decide +kernel
theorem dX9_settles_16 : decode cX9_settles 16 = .ok (.isub, 1) := by decide +kernel
theorem dX9_settles_17 : decode cX9_settles 17 = .ok (.iaload, 1) := by decide +kernel
theorem dX9_settles_18 : decode cX9_settles 18 = .ok (.invokestatic 152, 3) := by decide +kernel
theorem dX9_settles_21 : decode cX9_settles 21 = .ok (.iload_n 1, 1) := by decide +kernel
theorem dX9_settles_22 : decode cX9_settles 22 = .ok (.if_icmp .lt 54, 3) := by decide +kernel
theorem dX9_settles_25 : decode cX9_settles 25 = .ok (.aload_n 0, 1) := by decide +kernel
theorem dX9_settles_26 : decode cX9_settles 26 = .ok (.dup, 1) := by decide +kernel
theorem dX9_settles_27 : decode cX9_settles 27 = .ok (.getfield 149, 3) := by decide +kernel
theorem dX9_settles_30 : decode cX9_settles 30 = .ok (.iconst 1, 1) := by decide +kernel
theorem dX9_settles_31 : decode cX9_settles 31 = .ok (.isub, 1) := by decide +kernel
theorem dX9_settles_32 : decode cX9_settles 32 = .ok (.putfield 149, 3) := by decide +kernel
theorem dX9_settles_35 : decode cX9_settles 35 = .ok (.aload_n 0, 1) := by decide +kernel
theorem dX9_settles_36 : decode cX9_settles 36 = .ok (.aload_n 0, 1) := by decide +kernel
theorem dX9_settles_37 : decode cX9_settles 37 = .ok (.getfield 32, 3) := by decide +kernel
theorem dX9_settles_40 : decode cX9_settles 40 = .ok (.aload_n 0, 1) := by decide +kernel
theorem dX9_settles_41 : decode cX9_settles 41 = .ok (.getfield 149, 3) := by decide +kernel
theorem dX9_settles_44 : decode cX9_settles 44 = .ok (.iaload, 1) := by decide +kernel
theorem dX9_settles_45 : decode cX9_settles 45 = .ok (.iconst 0, 1) := by decide +kernel
theorem dX9_settles_46 : decode cX9_settles 46 = .ok (.invokevirtual 156, 3) := by decide +kernel
theorem dX9_settles_49 : decode cX9_settles 49 = .ok (.aload_n 0, 1) := by decide +kernel
theorem dX9_settles_50 : decode cX9_settles 50 = .ok (.getfield 32, 3) := by decide +kernel
theorem dX9_settles_53 : decode cX9_settles 53 = .ok (.aload_n 0, 1) := by decide +kernel
theorem dX9_settles_54 : decode cX9_settles 54 = .ok (.getfield 149, 3) := by decide +kernel
theorem dX9_settles_57 : decode cX9_settles 57 = .ok (.iaload, 1) := by decide +kernel
theorem dX9_settles_58 : decode cX9_settles 58 = .ok (.bipush 11, 2) := by decide +kernel
theorem dX9_settles_60 : decode cX9_settles 60 = .ok (.if_icmp .ne (-60), 3) := by decide +kernel
theorem dX9_settles_63 : decode cX9_settles 63 = .ok (.aload_n 0, 1) := by decide +kernel
theorem dX9_settles_64 : decode cX9_settles 64 = .ok (.dup, 1) := by decide +kernel
theorem dX9_settles_65 : decode cX9_settles 65 = .ok (.getfield 146, 3) := by decide +kernel
