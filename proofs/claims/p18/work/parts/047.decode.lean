theorem dX9_begins_5 : decode cX9_begins 5 = .ok (.aload_n 0, 1) := by decide +kernel
theorem dX9_begins_6 : decode cX9_begins 6 = .ok (.getfield 42, 3) := by decide +kernel
theorem dX9_begins_9 : decode cX9_begins 9 = .ok (.iconst 2, 1) := by decide +kernel
theorem dX9_begins_10 : decode cX9_begins 10 = .ok (.iaload, 1) := by decide +kernel
theorem dX9_begins_11 : decode cX9_begins 11 = .ok (.iastore, 1) := by decide +kernel
theorem dX9_begins_12 : decode cX9_begins 12 = .ok (.aload_n 0, 1) := by decide +kernel
theorem dX9_begins_13 : decode cX9_begins 13 = .ok (.getfield 42, 3) := by decide +kernel
theorem dX9_begins_16 : decode cX9_begins 16 = .ok (.iconst 4, 1) := by decide +kernel
theorem dX9_begins_17 : decode cX9_begins 17 = .ok (.iconst 0, 1) := by decide +kernel
theorem dX9_begins_18 : decode cX9_begins 18 = .ok (.iastore, 1) := by decide +kernel
theorem dX9_begins_19 : decode cX9_begins 19 = .ok (.iconst 0, 1) := by decide +kernel
theorem dX9_begins_20 : decode cX9_begins 20 = .ok (.istore_n 1, 1) := by decide +kernel
theorem dX9_begins_21 : decode cX9_begins 21 = .ok (.iload_n 1, 1) := by decide +kernel
theorem dX9_begins_22 : decode cX9_begins 22 = .ok (.aload_n 0, 1) := by decide +kernel
theorem dX9_begins_23 : decode cX9_begins 23 = .ok (.getfield 42, 3) := by decide +kernel
theorem dX9_begins_26 : decode cX9_begins 26 = .ok (.iconst 0, 1) := by decide +kernel
theorem dX9_begins_27 : decode cX9_begins 27 = .ok (.iaload, 1) := by decide +kernel
theorem dX9_begins_28 : decode cX9_begins 28 = .ok (.if_icmp .ge 58, 3) := by decide +kernel
theorem dX9_begins_31 : decode cX9_begins 31 = .ok (.bipush 44, 2) := by decide +kernel
theorem dX9_begins_33 : decode cX9_begins 33 = .ok (.bipush 6, 2) := by decide +kernel
theorem dX9_begins_35 : decode cX9_begins 35 = .ok (.iload_n 1, 1) := by decide +kernel
theorem dX9_begins_36 : decode cX9_begins 36 = .ok (.imul, 1) := by decide +kernel
theorem dX9_begins_37 : decode cX9_begins 37 = .ok (.iadd, 1) := by decide +kernel
theorem dX9_begins_38 : decode cX9_begins 38 = .ok (.istore_n 2, 1) := by decide +kernel
theorem dX9_begins_39 : decode cX9_begins 39 = .ok (.aload_n 0, 1) := by decide +kernel
theorem dX9_begins_40 : decode cX9_begins 40 = .ok (.getfield 42, 3) := by decide +kernel
theorem dX9_begins_43 : decode cX9_begins 43 = .ok (.iload_n 2, 1) := by decide +kernel
theorem dX9_begins_44 : decode cX9_begins 44 = .ok (.iconst 4, 1) := by decide +kernel
theorem dX9_begins_45 : decode cX9_begins 45 = .ok (.iadd, 1) := by decide +kernel
theorem dX9_begins_46 : decode cX9_begins 46 = .ok (.aload_n 0, 1) := by decide +kernel
theorem dX9_begins_47 : decode cX9_begins 47 = .ok (.getfield 42, 3) := by decide +kernel
theorem dX9_begins_50 : decode cX9_begins 50 = .ok (.iload_n 2, 1) := by decide +kernel
theorem dX9_begins_51 : decode cX9_begins 51 = .ok (.iconst 4, 1) := by decide +kernel
theorem dX9_begins_52 : decode cX9_begins 52 = .ok (.iadd, 1) := by decide +kernel
theorem dX9_begins_53 : decode cX9_begins 53 = .ok (.iaload, 1) := by decide +kernel
theorem dX9_begins_54 : decode cX9_begins 54 = .ok (.iconst 1, 1) := by decide +kernel
theorem dX9_begins_55 : decode cX9_begins 55 = .ok (.if_icmp .ne 7, 3) := by decide +kernel
theorem dX9_begins_58 : decode cX9_begins 58 = .ok (.iconst 0, 1) := by decide +kernel
theorem dX9_begins_59 : decode cX9_begins 59 = .ok (.goto 11, 3) := by decide +kernel
theorem dX9_begins_62 : decode cX9_begins 62 = .ok (.aload_n 0, 1) := by decide +kernel
theorem dX9_begins_63 : decode cX9_begins 63 = .ok (.getfield 42, 3) := by decide +kernel
theorem dX9_begins_66 : decode cX9_begins 66 = .ok (.iload_n 2, 1) := by decide +kernel
theorem dX9_begins_67 : decode cX9_begins 67 = .ok (.iconst 4, 1) := by decide +kernel
theorem dX9_begins_68 : decode cX9_begins 68 = .ok (.iadd, 1) := by decide +kernel
theorem dX9_begins_69 : decode cX9_begins 69 = .ok (.iaload, 1) := by decide +kernel
theorem dX9_begins_70 : decode cX9_begins 70 = .ok (.iastore, 1) := by decide +kernel
theorem dX9_begins_71 : decode cX9_begins 71 = .ok (.aload_n 0, 1) := by decide +kernel
theorem dX9_begins_72 : decode cX9_begins 72 = .ok (.getfield 42, 3) := by decide +kernel
theorem dX9_begins_75 : decode cX9_begins 75 = .ok (.iload_n 2, 1) := by decide +kernel
theorem dX9_begins_76 : decode cX9_begins 76 = .ok (.iconst 5, 1) := by decide +kernel
theorem dX9_begins_77 : decode cX9_begins 77 = .ok (.iadd, 1) := by decide +kernel
theorem dX9_begins_78 : decode cX9_begins 78 = .ok (.iconst 0, 1) := by decide +kernel
theorem dX9_begins_79 : decode cX9_begins 79 = .ok (.iastore, 1) := by decide +kernel
theorem dX9_begins_80 : decode cX9_begins 80 = .ok (.iinc 1 1, 3) := by decide +kernel
theorem dX9_begins_83 : decode cX9_begins 83 = .ok (.goto (-62), 3) := by decide +kernel
theorem dX9_begins_86 : decode cX9_begins 86 = .ok (.return_, 1) := by decide +kernel
theorem dX9_best_0 : decode cX9_best 0 = .ok (.aload_n 0, 1) := by decide +kernel
theorem dX9_best_1 : decode cX9_best 1 = .ok (.invokevirtual 301, 3) := by decide +kernel
theorem dX9_best_4 : decode cX9_best 4 = .ok (.ifCond .eq 27, 3) := by decide +kernel
theorem dX9_best_7 : decode cX9_best 7 = .ok (.iload_n 1, 1) := by decide +kernel
theorem dX9_best_8 : decode cX9_best 8 = .ok (.i2l, 1) := by decide +kernel
theorem dX9_best_9 : decode cX9_best 9 = .ok (.lconst 0, 1) := by decide +kernel
theorem dX9_best_10 : decode cX9_best 10 = .ok (.ldc2_w 388, 3) := by decide +kernel
theorem dX9_best_13 : decode cX9_best 13 = .ok (.invokestatic 118, 3) := by decide +kernel
theorem dX9_best_16 : decode cX9_best 16 = .ok (.ifCond .eq 15, 3) := by decide +kernel
theorem dX9_best_19 : decode cX9_best 19 = .ok (.iload_n 2, 1) := by decide +kernel
theorem dX9_best_20 : decode cX9_best 20 = .ok (.i2l, 1) := by decide +kernel
theorem dX9_best_21 : decode cX9_best 21 = .ok (.lconst 0, 1) := by decide +kernel
theorem dX9_best_22 : decode cX9_best 22 = .ok (.ldc2_w 278, 3) := by decide +kernel
theorem dX9_best_25 : decode cX9_best 25 = .ok (.invokestatic 118, 3) := by decide +kernel
theorem dX9_best_28 : decode cX9_best 28 = .ok (.ifCond .ne 7, 3) := by decide +kernel
theorem dX9_best_31 : decode cX9_best 31 = .ok (.ldc2_w 362, 3) := by decide +kernel
theorem dX9_best_34 : decode cX9_best 34 = .ok (.lreturn, 1) := by decide +kernel
theorem dX9_best_35 : decode cX9_best 35 = .ok (.aload_n 0, 1) := by decide +kernel
theorem dX9_best_36 : decode cX9_best 36 = .ok (.invokevirtual 343, 3) := by decide +kernel
theorem dX9_best_39 : decode cX9_best 39 = .ok (.aload_n 0, 1) := by decide +kernel
theorem dX9_best_40 : decode cX9_best 40 = .ok (.iload_n 1, 1) := by decide +kernel
theorem dX9_best_41 : decode cX9_best 41 = .ok (.invokevirtual 390, 3) := by decide +kernel
theorem dX9_best_44 : decode cX9_best 44 = .ok (.aload_n 0, 1) := by decide +kernel
theorem dX9_best_45 : decode cX9_best 45 = .ok (.invokevirtual 346, 3) := by decide +kernel
theorem dX9_best_48 : decode cX9_best 48 = .ok (.iload_n 2, 1) := by decide +kernel
theorem dX9_best_49 : decode cX9_best 49 = .ok (.iconst 2, 1) := by decide +kernel
theorem dX9_best_50 : decode cX9_best 50 = .ok (.if_icmp .ne 13, 3) := by decide +kernel
theorem dX9_best_53 : decode cX9_best 53 = .ok (.aload_n 0, 1) := by decide +kernel
theorem dX9_best_54 : decode cX9_best 54 = .ok (.getfield 67, 3) := by decide +kernel
theorem dX9_best_57 : decode cX9_best 57 = .ok (.iconst 0, 1) := by decide +kernel
theorem dX9_best_58 : decode cX9_best 58 = .ok (.iaload, 1) := by decide +kernel
theorem dX9_best_59 : decode cX9_best 59 = .ok (.i2l, 1) := by decide +kernel
theorem dX9_best_60 : decode cX9_best 60 = .ok (.goto 19, 3) := by decide +kernel
theorem dX9_best_63 : decode cX9_best 63 = .ok (.aload_n 0, 1) := by decide +kernel
theorem dX9_best_64 : decode cX9_best 64 = .ok (.aload_n 0, 1) := by decide +kernel
theorem dX9_best_65 : decode cX9_best 65 = .ok (.getfield 61, 3) := by decide +kernel
theorem dX9_best_68 : decode cX9_best 68 = .ok (.iconst 0, 1) := by decide +kernel
theorem dX9_best_69 : decode cX9_best 69 = .ok (.laload, 1) := by decide +kernel
theorem dX9_best_70 : decode cX9_best 70 = .ok (.aload_n 0, 1) := by decide +kernel
theorem dX9_best_71 : decode cX9_best 71 = .ok (.iload_n 1, 1) := by decide +kernel
theorem dX9_best_72 : decode cX9_best 72 = .ok (.invokevirtual 367, 3) := by decide +kernel
theorem dX9_best_75 : decode cX9_best 75 = .ok (.iload_n 2, 1) := by decide +kernel
theorem dX9_best_76 : decode cX9_best 76 = .ok (.invokevirtual 370, 3) := by decide +kernel
theorem dX9_best_79 : decode cX9_best 79 = .ok (.lreturn, 1) := by decide +kernel
theorem dX9_bits_0 : decode cX9_bits 0 = .ok (.iconst 0, 1) := by decide +kernel
theorem dX9_bits_1 : decode cX9_bits 1 = .ok (.istore_n 1, 1) := by decide +kernel
theorem dX9_bits_2 : decode cX9_bits 2 = .ok (.iload_n 0, 1) := by decide +kernel
theorem dX9_bits_3 : decode cX9_bits 3 = .ok (.istore_n 2, 1) := by decide +kernel
theorem dX9_bits_4 : decode cX9_bits 4 = .ok (.iload_n 2, 1) := by decide +kernel
theorem dX9_bits_5 : decode cX9_bits 5 = .ok (.ifCond .eq 15, 3) := by decide +kernel
theorem dX9_bits_8 : decode cX9_bits 8 = .ok (.iinc 1 1, 3) := by decide +kernel
theorem dX9_bits_11 : decode cX9_bits 11 = .ok (.iload_n 2, 1) := by decide +kernel
theorem dX9_bits_12 : decode cX9_bits 12 = .ok (.iload_n 2, 1) := by decide +kernel
theorem dX9_bits_13 : decode cX9_bits 13 = .ok (.iconst 1, 1) := by decide +kernel
theorem dX9_bits_14 : decode cX9_bits 14 = .ok (.isub, 1) := by decide +kernel
theorem dX9_bits_15 : decode cX9_bits 15 = .ok (.iand, 1) := by decide +kernel
theorem dX9_bits_16 : decode cX9_bits 16 = .ok (.istore_n 2, 1) := by decide +kernel
theorem dX9_bits_17 : decode cX9_bits 17 = .ok (.goto (-13), 3) := by decide +kernel
theorem dX9_bits_20 : decode cX9_bits 20 = .ok (.iload_n 1, 1) := by decide +kernel
theorem dX9_bits_21 : decode cX9_bits 21 = .ok (.ireturn, 1) := by decide +kernel
theorem dX9_canLook_0 : decode cX9_canLook 0 = .ok (.aload_n 0, 1) := by decide +kernel
theorem dX9_canLook_1 : decode cX9_canLook 1 = .ok (.iload_n 1, 1) := by decide +kernel
theorem dX9_canLook_2 : decode cX9_canLook 2 = .ok (.invokevirtual 272, 3) := by decide +kernel
theorem dX9_canLook_5 : decode cX9_canLook 5 = .ok (.ifCond .eq 22, 3) := by decide +kernel
theorem dX9_canLook_8 : decode cX9_canLook 8 = .ok (.aload_n 0, 1) := by decide +kernel
theorem dX9_canLook_9 : decode cX9_canLook 9 = .ok (.iload_n 1, 1) := by decide +kernel
theorem dX9_canLook_10 : decode cX9_canLook 10 = .ok (.iconst 1, 1) := by decide +kernel
theorem dX9_canLook_11 : decode cX9_canLook 11 = .ok (.invokevirtual 268, 3) := by decide +kernel
theorem dX9_canLook_14 : decode cX9_canLook 14 = .ok (.aload_n 0, 1) := by decide +kernel
theorem dX9_canLook_15 : decode cX9_canLook 15 = .ok (.getfield 42, 3) := by decide +kernel
theorem dX9_canLook_18 : decode cX9_canLook 18 = .ok (.iconst 3, 1) := by decide +kernel
theorem dX9_canLook_19 : decode cX9_canLook 19 = .ok (.iaload, 1) := by decide +kernel
theorem dX9_canLook_20 : decode cX9_canLook 20 = .ok (.if_icmp .gt 7, 3) := by decide +kernel
theorem dX9_canLook_23 : decode cX9_canLook 23 = .ok (.iconst 1, 1) := by decide +kernel
theorem dX9_canLook_24 : decode cX9_canLook 24 = .ok (.goto 4, 3) := by decide +kernel
theorem dX9_canLook_27 : decode cX9_canLook 27 = .ok (.iconst 0, 1) := by decide +kernel
theorem dX9_canLook_28 : decode cX9_canLook 28 = .ok (.ireturn, 1) := by decide +kernel
theorem dX9_checks_0 : decode cX9_checks 0 = .ok (.iload_n 1, 1) := by decide +kernel
theorem dX9_checks_1 : decode cX9_checks 1 = .ok (.i2l, 1) := by decide +kernel
theorem dX9_checks_2 : decode cX9_checks 2 = .ok (.lconst 0, 1) := by decide +kernel
theorem dX9_checks_3 : decode cX9_checks 3 = .ok (.ldc2_w 407, 3) := by decide +kernel
theorem dX9_checks_6 : decode cX9_checks 6 = .ok (.invokestatic 118, 3) := by decide +kernel
theorem dX9_checks_9 : decode cX9_checks 9 = .ok (.ifCond .eq 15, 3) := by decide +kernel
theorem dX9_checks_12 : decode cX9_checks 12 = .ok (.iload_n 2, 1) := by decide +kernel
theorem dX9_checks_13 : decode cX9_checks 13 = .ok (.i2l, 1) := by decide +kernel
theorem dX9_checks_14 : decode cX9_checks 14 = .ok (.lconst 0, 1) := by decide +kernel
theorem dX9_checks_15 : decode cX9_checks 15 = .ok (.ldc2_w 407, 3) := by decide +kernel
theorem dX9_checks_18 : decode cX9_checks 18 = .ok (.invokestatic 118, 3) := by decide +kernel
theorem dX9_checks_21 : decode cX9_checks 21 = .ok (.ifCond .ne 5, 3) := by decide +kernel
theorem dX9_checks_24 : decode cX9_checks 24 = .ok (.iconst (-1), 1) := by decide +kernel
theorem dX9_checks_25 : decode cX9_checks 25 = .ok (.ireturn, 1) := by decide +kernel
theorem dX9_checks_26 : decode cX9_checks 26 = .ok (.iconst 0, 1) := by decide +kernel
theorem dX9_checks_27 : decode cX9_checks 27 = .ok (.istore_n 3, 1) := by decide +kernel
theorem dX9_checks_28 : decode cX9_checks 28 = .ok (.iload_n 1, 1) := by decide +kernel
theorem dX9_checks_29 : decode cX9_checks 29 = .ok (.bipush 100, 2) := by decide +kernel
theorem dX9_checks_31 : decode cX9_checks 31 = .ok (.iload_n 3, 1) := by decide +kernel
theorem dX9_checks_32 : decode cX9_checks 32 = .ok (.isub, 1) := by decide +kernel
theorem dX9_checks_33 : decode cX9_checks 33 = .ok (.imul, 1) := by decide +kernel
theorem dX9_checks_34 : decode cX9_checks 34 = .ok (.iload_n 2, 1) := by decide +kernel
theorem dX9_checks_35 : decode cX9_checks 35 = .ok (.iload_n 3, 1) := by decide +kernel
theorem dX9_checks_36 : decode cX9_checks 36 = .ok (.imul, 1) := by decide +kernel
theorem dX9_checks_37 : decode cX9_checks 37 = .ok (.if_icmp .le 9, 3) := by decide +kernel
theorem dX9_checks_40 : decode cX9_checks 40 = .ok (.iinc 3 1, 3) := by decide +kernel
theorem dX9_checks_43 : decode cX9_checks 43 = .ok (.goto (-15), 3) := by decide +kernel
theorem dX9_checks_46 : decode cX9_checks 46 = .ok (.iload_n 3, 1) := by decide +kernel
theorem dX9_checks_47 : decode cX9_checks 47 = .ok (.ireturn, 1) := by decide +kernel
theorem dX9_clauseFor_0 : decode cX9_clauseFor 0 = .ok (.aload_n 0, 1) := by decide +kernel
theorem dX9_clauseFor_1 : decode cX9_clauseFor 1 = .ok (.iload_n 2, 1) := by decide +kernel
theorem dX9_clauseFor_2 : decode cX9_clauseFor 2 = .ok (.invokevirtual 319, 3) := by decide +kernel
theorem dX9_clauseFor_5 : decode cX9_clauseFor 5 = .ok (.iconst 0, 1) := by decide +kernel
theorem dX9_clauseFor_6 : decode cX9_clauseFor 6 = .ok (.istore_n 3, 1) := by decide +kernel
theorem dX9_clauseFor_7 : decode cX9_clauseFor 7 = .ok (.iload_n 3, 1) := by decide +kernel
theorem dX9_clauseFor_8 : decode cX9_clauseFor 8 = .ok (.aload_n 0, 1) := by decide +kernel
theorem dX9_clauseFor_9 : decode cX9_clauseFor 9 = .ok (.getfield 23, 3) := by decide +kernel
theorem dX9_clauseFor_12 : decode cX9_clauseFor 12 = .ok (.iload_n 1, 1) := by decide +kernel
theorem dX9_clauseFor_13 : decode cX9_clauseFor 13 = .ok (.iaload, 1) := by decide +kernel
theorem dX9_clauseFor_14 : decode cX9_clauseFor 14 = .ok (.if_icmp .ge 72, 3) := by decide +kernel
theorem dX9_clauseFor_17 : decode cX9_clauseFor 17 = .ok (.bipush 60, 2) := by decide +kernel
theorem dX9_clauseFor_19 : decode cX9_clauseFor 19 = .ok (.iload_n 1, 1) := by decide +kernel
theorem dX9_clauseFor_20 : decode cX9_clauseFor 20 = .ok (.imul, 1) := by decide +kernel
theorem dX9_clauseFor_21 : decode cX9_clauseFor 21 = .ok (.iconst 5, 1) := by decide +kernel
theorem dX9_clauseFor_22 : decode cX9_clauseFor 22 = .ok (.iload_n 3, 1) := by decide +kernel
theorem dX9_clauseFor_23 : decode cX9_clauseFor 23 = .ok (.imul, 1) := by decide +kernel
theorem dX9_clauseFor_24 : decode cX9_clauseFor 24 = .ok (.iadd, 1) := by decide +kernel
theorem dX9_clauseFor_25 : decode cX9_clauseFor 25 = .ok (.istore 4, 2) := by decide +kernel
theorem dX9_clauseFor_27 : decode cX9_clauseFor 27 = .ok (.aload_n 0, 1) := by decide +kernel
theorem dX9_clauseFor_28 : decode cX9_clauseFor 28 = .ok (.getfield 20, 3) := by decide +kernel
theorem dX9_clauseFor_31 : decode cX9_clauseFor 31 = .ok (.iload 4, 2) := by decide +kernel
theorem dX9_clauseFor_33 : decode cX9_clauseFor 33 = .ok (.iaload, 1) := by decide +kernel
theorem dX9_clauseFor_34 : decode cX9_clauseFor 34 = .ok (.ifCond .ne 46, 3) := by decide +kernel
theorem dX9_clauseFor_37 : decode cX9_clauseFor 37 = .ok (.aload_n 0, 1) := by decide +kernel
theorem dX9_clauseFor_38 : decode cX9_clauseFor 38 = .ok (.getfield 20, 3) := by decide +kernel
theorem dX9_clauseFor_41 : decode cX9_clauseFor 41 = .ok (.iload 4, 2) := by decide +kernel
theorem dX9_clauseFor_43 : decode cX9_clauseFor 43 = .ok (.iconst 3, 1) := by decide +kernel
theorem dX9_clauseFor_44 : decode cX9_clauseFor 44 = .ok (.iadd, 1) := by decide +kernel
theorem dX9_clauseFor_45 : decode cX9_clauseFor 45 = .ok (.iaload, 1) := by decide +kernel
theorem dX9_clauseFor_46 : decode cX9_clauseFor 46 = .ok (.ifCond .lt 31, 3) := by decide +kernel
theorem dX9_clauseFor_49 : decode cX9_clauseFor 49 = .ok (.aload_n 0, 1) := by decide +kernel
theorem dX9_clauseFor_50 : decode cX9_clauseFor 50 = .ok (.iload_n 1, 1) := by decide +kernel
theorem dX9_clauseFor_51 : decode cX9_clauseFor 51 = .ok (.aload_n 0, 1) := by decide +kernel
theorem dX9_clauseFor_52 : decode cX9_clauseFor 52 = .ok (.getfield 20, 3) := by decide +kernel
theorem dX9_clauseFor_55 : decode cX9_clauseFor 55 = .ok (.iload 4, 2) := by decide +kernel
theorem dX9_clauseFor_57 : decode cX9_clauseFor 57 = .ok (.iconst 3, 1) := by decide +kernel
theorem dX9_clauseFor_58 : decode cX9_clauseFor 58 = .ok (.iadd, 1) := by decide +kernel
theorem dX9_clauseFor_59 : decode cX9_clauseFor 59 = .ok (.iaload, 1) := by decide +kernel
theorem dX9_clauseFor_60 : decode cX9_clauseFor 60 = .ok (.aload_n 0, 1) := by decide +kernel
theorem dX9_clauseFor_61 : decode cX9_clauseFor 61 = .ok (.getfield 20, 3) := by decide +kernel
theorem dX9_clauseFor_64 : decode cX9_clauseFor 64 = .ok (.iload 4, 2) := by decide +kernel
theorem dX9_clauseFor_66 : decode cX9_clauseFor 66 = .ok (.iconst 4, 1) := by decide +kernel
theorem dX9_clauseFor_67 : decode cX9_clauseFor 67 = .ok (.iadd, 1) := by decide +kernel
theorem dX9_clauseFor_68 : decode cX9_clauseFor 68 = .ok (.iaload, 1) := by decide +kernel
theorem dX9_clauseFor_69 : decode cX9_clauseFor 69 = .ok (.invokevirtual 322, 3) := by decide +kernel
theorem dX9_clauseFor_72 : decode cX9_clauseFor 72 = .ok (.lconst 1, 1) := by decide +kernel
theorem dX9_clauseFor_73 : decode cX9_clauseFor 73 = .ok (.lcmp, 1) := by decide +kernel
theorem dX9_clauseFor_74 : decode cX9_clauseFor 74 = .ok (.ifCond .ne 6, 3) := by decide +kernel
theorem dX9_clauseFor_77 : decode cX9_clauseFor 77 = .ok (.iload 4, 2) := by decide +kernel
theorem dX9_clauseFor_79 : decode cX9_clauseFor 79 = .ok (.ireturn, 1) := by decide +kernel
theorem dX9_clauseFor_80 : decode cX9_clauseFor 80 = .ok (.iinc 3 1, 3) := by decide +kernel
theorem dX9_clauseFor_83 : decode cX9_clauseFor 83 = .ok (.goto (-76), 3) := by decide +kernel
theorem dX9_clauseFor_86 : decode cX9_clauseFor 86 = .ok (.iconst (-1), 1) := by decide +kernel
theorem dX9_clauseFor_87 : decode cX9_clauseFor 87 = .ok (.ireturn, 1) := by decide +kernel
theorem dX9_clauseHere_0 : decode cX9_clauseHere 0 = .ok (.aload_n 0, 1) := by decide +kernel
theorem dX9_clauseHere_1 : decode cX9_clauseHere 1 = .ok (.invokevirtual 93, 3) := by decide +kernel
theorem dX9_clauseHere_4 : decode cX9_clauseHere 4 = .ok (.pop, 1) := by decide +kernel
theorem dX9_clauseHere_5 : decode cX9_clauseHere 5 = .ok (.aload_n 0, 1) := by decide +kernel
theorem dX9_clauseHere_6 : decode cX9_clauseHere 6 = .ok (.getfield 90, 3) := by decide +kernel
theorem dX9_clauseHere_9 : decode cX9_clauseHere 9 = .ok (.istore_n 1, 1) := by decide +kernel
theorem dX9_clauseHere_10 : decode cX9_clauseHere 10 = .ok (.aload_n 0, 1) := by decide +kernel
theorem dX9_clauseHere_11 : decode cX9_clauseHere 11 = .ok (.getfield 140, 3) := by decide +kernel
theorem dX9_clauseHere_14 : decode cX9_clauseHere 14 = .ok (.bipush 6, 2) := by decide +kernel
theorem dX9_clauseHere_16 : decode cX9_clauseHere 16 = .ok (.if_icmp .ne 7, 3) := by decide +kernel
theorem dX9_clauseHere_19 : decode cX9_clauseHere 19 = .ok (.iconst 1, 1) := by decide +kernel
theorem dX9_clauseHere_20 : decode cX9_clauseHere 20 = .ok (.goto 4, 3) := by decide +kernel
theorem dX9_clauseHere_23 : decode cX9_clauseHere 23 = .ok (.iconst 0, 1) := by decide +kernel
theorem dX9_clauseHere_24 : decode cX9_clauseHere 24 = .ok (.istore_n 2, 1) := by decide +kernel
theorem dX9_clauseHere_25 : decode cX9_clauseHere 25 = .ok (.iload_n 2, 1) := by decide +kernel
theorem dX9_clauseHere_26 : decode cX9_clauseHere 26 = .ok (.ifCond .eq 41, 3) := by decide +kernel
theorem dX9_clauseHere_29 : decode cX9_clauseHere 29 = .ok (.aload_n 0, 1) := by decide +kernel
theorem dX9_clauseHere_30 : decode cX9_clauseHere 30 = .ok (.ldc2_w 223, 3) := by decide +kernel
theorem dX9_clauseHere_33 : decode cX9_clauseHere 33 = .ok (.invokevirtual 101, 3) := by decide +kernel
theorem dX9_clauseHere_36 : decode cX9_clauseHere 36 = .ok (.ifCond .ne 23, 3) := by decide +kernel
theorem dX9_clauseHere_39 : decode cX9_clauseHere 39 = .ok (.aload_n 0, 1) := by decide +kernel
theorem dX9_clauseHere_40 : decode cX9_clauseHere 40 = .ok (.ldc2_w 124, 3) := by decide +kernel
theorem dX9_clauseHere_43 : decode cX9_clauseHere 43 = .ok (.invokevirtual 101, 3) := by decide +kernel
theorem dX9_clauseHere_46 : decode cX9_clauseHere 46 = .ok (.ifCond .ne 13, 3) := by decide +kernel
theorem dX9_clauseHere_49 : decode cX9_clauseHere 49 = .ok (.aload_n 0, 1) := by decide +kernel
theorem dX9_clauseHere_50 : decode cX9_clauseHere 50 = .ok (.ldc2_w 122, 3) := by decide +kernel
theorem dX9_clauseHere_53 : decode cX9_clauseHere 53 = .ok (.invokevirtual 101, 3) := by decide +kernel
theorem dX9_clauseHere_56 : decode cX9_clauseHere 56 = .ok (.ifCond .eq 7, 3) := by decide +kernel
theorem dX9_clauseHere_59 : decode cX9_clauseHere 59 = .ok (.iconst 1, 1) := by decide +kernel
theorem dX9_clauseHere_60 : decode cX9_clauseHere 60 = .ok (.goto 32, 3) := by decide +kernel
theorem dX9_clauseHere_63 : decode cX9_clauseHere 63 = .ok (.iconst 0, 1) := by decide +kernel
theorem dX9_clauseHere_64 : decode cX9_clauseHere 64 = .ok (.goto 28, 3) := by decide +kernel
theorem dX9_clauseHere_67 : decode cX9_clauseHere 67 = .ok (.aload_n 0, 1) := by decide +kernel
theorem dX9_clauseHere_68 : decode cX9_clauseHere 68 = .ok (.ldc2_w 225, 3) := by decide +kernel
theorem dX9_clauseHere_71 : decode cX9_clauseHere 71 = .ok (.invokevirtual 101, 3) := by decide +kernel
theorem dX9_clauseHere_74 : decode cX9_clauseHere 74 = .ok (.ifCond .ne 13, 3) := by decide +kernel
theorem dX9_clauseHere_77 : decode cX9_clauseHere 77 = .ok (.aload_n 0, 1) := by decide +kernel
theorem dX9_clauseHere_78 : decode cX9_clauseHere 78 = .ok (.ldc2_w 227, 3) := by decide +kernel
theorem dX9_clauseHere_81 : decode cX9_clauseHere 81 = .ok (.invokevirtual 101, 3) := by decide +kernel
theorem dX9_clauseHere_84 : decode cX9_clauseHere 84 = .ok (.ifCond .eq 7, 3) := by decide +kernel
theorem dX9_clauseHere_87 : decode cX9_clauseHere 87 = .ok (.iconst 1, 1) := by decide +kernel
theorem dX9_clauseHere_88 : decode cX9_clauseHere 88 = .ok (.goto 4, 3) := by decide +kernel
theorem dX9_clauseHere_91 : decode cX9_clauseHere 91 = .ok (.iconst 0, 1) := by decide +kernel
theorem dX9_clauseHere_92 : decode cX9_clauseHere 92 = .ok (.istore_n 3, 1) := by decide +kernel
theorem dX9_clauseHere_93 : decode cX9_clauseHere 93 = .ok (.iload_n 3, 1) := by decide +kernel
theorem dX9_clauseHere_94 : decode cX9_clauseHere 94 = .ok (.ifCond .ne 10, 3) := by decide +kernel
theorem dX9_clauseHere_97 : decode cX9_clauseHere 97 = .ok (.aload_n 0, 1) := by decide +kernel
theorem dX9_clauseHere_98 : decode cX9_clauseHere 98 = .ok (.iconst 0, 1) := by decide +kernel
theorem dX9_clauseHere_99 : decode cX9_clauseHere 99 = .ok (.iload_n 1, 1) := by decide +kernel
theorem dX9_clauseHere_100 : decode cX9_clauseHere 100 = .ok (.invokevirtual 111, 3) := by decide +kernel
theorem dX9_clauseHere_103 : decode cX9_clauseHere 103 = .ok (.ireturn, 1) := by decide +kernel
theorem dX9_clauseHere_104 : decode cX9_clauseHere 104 = .ok (.aload_n 0, 1) := by decide +kernel
theorem dX9_clauseHere_105 : decode cX9_clauseHere 105 = .ok (.getfield 229, 3) := by decide +kernel
theorem dX9_clauseHere_108 : decode cX9_clauseHere 108 = .ok (.iload_n 2, 1) := by decide +kernel
theorem dX9_clauseHere_109 : decode cX9_clauseHere 109 = .ok (.ifCond .eq 8, 3) := by decide +kernel
theorem dX9_clauseHere_112 : decode cX9_clauseHere 112 = .ok (.bipush 24, 2) := by decide +kernel
theorem dX9_clauseHere_114 : decode cX9_clauseHere 114 = .ok (.goto 5, 3) := by decide +kernel
theorem dX9_clauseHere_117 : decode cX9_clauseHere 117 = .ok (.bipush 12, 2) := by decide +kernel
theorem dX9_clauseHere_119 : decode cX9_clauseHere 119 = .ok (.if_icmp .ne 10, 3) := by decide +kernel
theorem dX9_clauseHere_122 : decode cX9_clauseHere 122 = .ok (.aload_n 0, 1) := by decide +kernel
theorem dX9_clauseHere_123 : decode cX9_clauseHere 123 = .ok (.iconst 4, 1) := by decide +kernel
theorem dX9_clauseHere_124 : decode cX9_clauseHere 124 = .ok (.iload_n 1, 1) := by decide +kernel
theorem dX9_clauseHere_125 : decode cX9_clauseHere 125 = .ok (.invokevirtual 111, 3) := by decide +kernel
theorem dX9_clauseHere_128 : decode cX9_clauseHere 128 = .ok (.ireturn, 1) := by decide +kernel
theorem dX9_clauseHere_129 : decode cX9_clauseHere 129 = .ok (.aload_n 0, 1) := by decide +kernel
theorem dX9_clauseHere_130 : decode cX9_clauseHere 130 = .ok (.dup, 1) := by decide +kernel
theorem dX9_clauseHere_131 : decode cX9_clauseHere 131 = .ok (.getfield 229, 3) := by decide +kernel
theorem dX9_clauseHere_134 : decode cX9_clauseHere 134 = .ok (.iconst 1, 1) := by decide +kernel
theorem dX9_clauseHere_135 : decode cX9_clauseHere 135 = .ok (.iadd, 1) := by decide +kernel
theorem dX9_clauseHere_136 : decode cX9_clauseHere 136 = .ok (.putfield 229, 3) := by decide +kernel
theorem dX9_clauseHere_139 : decode cX9_clauseHere 139 = .ok (.iload_n 2, 1) := by decide +kernel
theorem dX9_clauseHere_140 : decode cX9_clauseHere 140 = .ok (.ifCond .ne 23, 3) := by decide +kernel
theorem dX9_clauseHere_143 : decode cX9_clauseHere 143 = .ok (.aload_n 0, 1) := by decide +kernel
theorem dX9_clauseHere_144 : decode cX9_clauseHere 144 = .ok (.aload_n 0, 1) := by decide +kernel
theorem dX9_clauseHere_145 : decode cX9_clauseHere 145 = .ok (.ldc2_w 225, 3) := by decide +kernel
theorem dX9_clauseHere_148 : decode cX9_clauseHere 148 = .ok (.invokevirtual 101, 3) := by decide +kernel
theorem dX9_clauseHere_151 : decode cX9_clauseHere 151 = .ok (.ifCond .eq 7, 3) := by decide +kernel
theorem dX9_clauseHere_154 : decode cX9_clauseHere 154 = .ok (.iconst 0, 1) := by decide +kernel
theorem dX9_clauseHere_155 : decode cX9_clauseHere 155 = .ok (.goto 4, 3) := by decide +kernel
theorem dX9_clauseHere_158 : decode cX9_clauseHere 158 = .ok (.iconst 1, 1) := by decide +kernel
theorem dX9_clauseHere_159 : decode cX9_clauseHere 159 = .ok (.invokevirtual 232, 3) := by decide +kernel
theorem dX9_clauseHere_162 : decode cX9_clauseHere 162 = .ok (.ireturn, 1) := by decide +kernel
theorem dX9_clauseHere_163 : decode cX9_clauseHere 163 = .ok (.aload_n 0, 1) := by decide +kernel
theorem dX9_clauseHere_164 : decode cX9_clauseHere 164 = .ok (.ldc2_w 223, 3) := by decide +kernel
theorem dX9_clauseHere_167 : decode cX9_clauseHere 167 = .ok (.invokevirtual 101, 3) := by decide +kernel
theorem dX9_clauseHere_170 : decode cX9_clauseHere 170 = .ok (.ifCond .eq 11, 3) := by decide +kernel
theorem dX9_clauseHere_173 : decode cX9_clauseHere 173 = .ok (.aload_n 0, 1) := by decide +kernel
theorem dX9_clauseHere_174 : decode cX9_clauseHere 174 = .ok (.iload_n 1, 1) := by decide +kernel
theorem dX9_clauseHere_175 : decode cX9_clauseHere 175 = .ok (.invokevirtual 235, 3) := by decide +kernel
theorem dX9_clauseHere_178 : decode cX9_clauseHere 178 = .ok (.goto 26, 3) := by decide +kernel
theorem dX9_clauseHere_181 : decode cX9_clauseHere 181 = .ok (.aload_n 0, 1) := by decide +kernel
theorem dX9_clauseHere_182 : decode cX9_clauseHere 182 = .ok (.ldc2_w 124, 3) := by decide +kernel
theorem dX9_clauseHere_185 : decode cX9_clauseHere 185 = .ok (.invokevirtual 101, 3) := by decide +kernel
theorem dX9_clauseHere_188 : decode cX9_clauseHere 188 = .ok (.ifCond .eq 11, 3) := by decide +kernel
theorem dX9_clauseHere_191 : decode cX9_clauseHere 191 = .ok (.aload_n 0, 1) := by decide +kernel
theorem dX9_clauseHere_192 : decode cX9_clauseHere 192 = .ok (.iload_n 1, 1) := by decide +kernel
theorem dX9_clauseHere_193 : decode cX9_clauseHere 193 = .ok (.invokevirtual 238, 3) := by decide +kernel
theorem dX9_clauseHere_196 : decode cX9_clauseHere 196 = .ok (.goto 8, 3) := by decide +kernel
theorem dX9_clauseHere_199 : decode cX9_clauseHere 199 = .ok (.aload_n 0, 1) := by decide +kernel
theorem dX9_clauseHere_200 : decode cX9_clauseHere 200 = .ok (.iload_n 1, 1) := by decide +kernel
theorem dX9_clauseHere_201 : decode cX9_clauseHere 201 = .ok (.invokevirtual 241, 3) := by decide +kernel
theorem dX9_clauseHere_204 : decode cX9_clauseHere 204 = .ok (.ireturn, 1) := by decide +kernel
theorem dX9_closes_0 : decode cX9_closes 0 = .ok (.aload_n 0, 1) := by decide +kernel
theorem dX9_closes_1 : decode cX9_closes 1 = .ok (.iconst 3, 1) := by decide +kernel
theorem dX9_closes_2 : decode cX9_closes 2 = .ok (.invokevirtual 188, 3) := by decide +kernel
theorem dX9_closes_5 : decode cX9_closes 5 = .ok (.aload_n 0, 1) := by decide +kernel
theorem dX9_closes_6 : decode cX9_closes 6 = .ok (.invokevirtual 93, 3) := by decide +kernel
theorem dX9_closes_9 : decode cX9_closes 9 = .ok (.bipush 93, 2) := by decide +kernel
theorem dX9_closes_11 : decode cX9_closes 11 = .ok (.if_icmp .ne 53, 3) := by decide +kernel
theorem dX9_closes_14 : decode cX9_closes 14 = .ok (.aload_n 0, 1) := by decide +kernel
theorem dX9_closes_15 : decode cX9_closes 15 = .ok (.invokevirtual 191, 3) := by decide +kernel
theorem dX9_closes_18 : decode cX9_closes 18 = .ok (.ifCond .eq 46, 3) := by decide +kernel
theorem dX9_closes_21 : decode cX9_closes 21 = .ok (.aload_n 0, 1) := by decide +kernel
theorem dX9_closes_22 : decode cX9_closes 22 = .ok (.iconst 1, 1) := by decide +kernel
theorem dX9_closes_23 : decode cX9_closes 23 = .ok (.invokevirtual 188, 3) := by decide +kernel
theorem dX9_closes_26 : decode cX9_closes 26 = .ok (.aload_n 0, 1) := by decide +kernel
theorem dX9_closes_27 : decode cX9_closes 27 = .ok (.dup, 1) := by decide +kernel
theorem dX9_closes_28 : decode cX9_closes 28 = .ok (.getfield 149, 3) := by decide +kernel
theorem dX9_closes_31 : decode cX9_closes 31 = .ok (.iconst 1, 1) := by decide +kernel
theorem dX9_closes_32 : decode cX9_closes 32 = .ok (.isub, 1) := by decide +kernel
theorem dX9_closes_33 : decode cX9_closes 33 = .ok (.putfield 149, 3) := by decide +kernel
theorem dX9_closes_36 : decode cX9_closes 36 = .ok (.aload_n 0, 1) := by decide +kernel
theorem dX9_closes_37 : decode cX9_closes 37 = .ok (.dup, 1) := by decide +kernel
theorem dX9_closes_38 : decode cX9_closes 38 = .ok (.getfield 146, 3) := by decide +kernel
theorem dX9_closes_41 : decode cX9_closes 41 = .ok (.iconst 1, 1) := by decide +kernel
theorem dX9_closes_42 : decode cX9_closes 42 = .ok (.isub, 1) := by decide +kernel
theorem dX9_closes_43 : decode cX9_closes 43 = .ok (.putfield 146, 3) := by decide +kernel
theorem dX9_closes_46 : decode cX9_closes 46 = .ok (.aload_n 0, 1) := by decide +kernel
theorem dX9_closes_47 : decode cX9_closes 47 = .ok (.dup, 1) := by decide +kernel
theorem dX9_closes_48 : decode cX9_closes 48 = .ok (.getfield 90, 3) := by decide +kernel
theorem dX9_closes_51 : decode cX9_closes 51 = .ok (.iconst 1, 1) := by decide +kernel
theorem dX9_closes_52 : decode cX9_closes 52 = .ok (.iadd, 1) := by decide +kernel
theorem dX9_closes_53 : decode cX9_closes 53 = .ok (.putfield 90, 3) := by decide +kernel
theorem dX9_closes_56 : decode cX9_closes 56 = .ok (.aload_n 0, 1) := by decide +kernel
theorem dX9_closes_57 : decode cX9_closes 57 = .ok (.iconst 3, 1) := by decide +kernel
theorem dX9_closes_58 : decode cX9_closes 58 = .ok (.invokevirtual 188, 3) := by decide +kernel
theorem dX9_closes_61 : decode cX9_closes 61 = .ok (.goto (-56), 3) := by decide +kernel
theorem dX9_closes_64 : decode cX9_closes 64 = .ok (.return_, 1) := by decide +kernel
theorem dX9_coins_0 : decode cX9_coins 0 = .ok (.iload_n 1, 1) := by decide +kernel
theorem dX9_coins_1 : decode cX9_coins 1 = .ok (.i2l, 1) := by decide +kernel
theorem dX9_coins_2 : decode cX9_coins 2 = .ok (.lconst 0, 1) := by decide +kernel
theorem dX9_coins_3 : decode cX9_coins 3 = .ok (.ldc2_w 278, 3) := by decide +kernel
theorem dX9_coins_6 : decode cX9_coins 6 = .ok (.invokestatic 118, 3) := by decide +kernel
theorem dX9_coins_9 : decode cX9_coins 9 = .ok (.ifCond .eq 14, 3) := by decide +kernel
theorem dX9_coins_12 : decode cX9_coins 12 = .ok (.aload_n 0, 1) := by decide +kernel
theorem dX9_coins_13 : decode cX9_coins 13 = .ok (.getfield 42, 3) := by decide +kernel
theorem dX9_coins_16 : decode cX9_coins 16 = .ok (.iconst 4, 1) := by decide +kernel
theorem dX9_coins_17 : decode cX9_coins 17 = .ok (.iload_n 1, 1) := by decide +kernel
theorem dX9_coins_18 : decode cX9_coins 18 = .ok (.iadd, 1) := by decide +kernel
theorem dX9_coins_19 : decode cX9_coins 19 = .ok (.iaload, 1) := by decide +kernel
theorem dX9_coins_20 : decode cX9_coins 20 = .ok (.goto 6, 3) := by decide +kernel
theorem dX9_coins_23 : decode cX9_coins 23 = .ok (.ldc_w 306, 3) := by decide +kernel
theorem dX9_coins_26 : decode cX9_coins 26 = .ok (.ireturn, 1) := by decide +kernel
theorem dX9_comesOut_0 : decode cX9_comesOut 0 = .ok (.lconst 1, 1) := by decide +kernel
theorem dX9_comesOut_1 : decode cX9_comesOut 1 = .ok (.lstore_n 2, 1) := by decide +kernel
theorem dX9_comesOut_2 : decode cX9_comesOut 2 = .ok (.iconst 0, 1) := by decide +kernel
theorem dX9_comesOut_3 : decode cX9_comesOut 3 = .ok (.istore 4, 2) := by decide +kernel
theorem dX9_comesOut_5 : decode cX9_comesOut 5 = .ok (.iload 4, 2) := by decide +kernel
theorem dX9_comesOut_7 : decode cX9_comesOut 7 = .ok (.aload_n 0, 1) := by decide +kernel
theorem dX9_comesOut_8 : decode cX9_comesOut 8 = .ok (.getfield 42, 3) := by decide +kernel
theorem dX9_comesOut_11 : decode cX9_comesOut 11 = .ok (.bipush 8, 2) := by decide +kernel
theorem dX9_comesOut_13 : decode cX9_comesOut 13 = .ok (.iaload, 1) := by decide +kernel
theorem dX9_comesOut_14 : decode cX9_comesOut 14 = .ok (.if_icmp .ge 140, 3) := by decide +kernel
theorem dX9_comesOut_17 : decode cX9_comesOut 17 = .ok (.aload_n 0, 1) := by decide +kernel
theorem dX9_comesOut_18 : decode cX9_comesOut 18 = .ok (.getfield 42, 3) := by decide +kernel
theorem dX9_comesOut_21 : decode cX9_comesOut 21 = .ok (.bipush 10, 2) := by decide +kernel
theorem dX9_comesOut_23 : decode cX9_comesOut 23 = .ok (.iload 4, 2) := by decide +kernel
theorem dX9_comesOut_25 : decode cX9_comesOut 25 = .ok (.iadd, 1) := by decide +kernel
theorem dX9_comesOut_26 : decode cX9_comesOut 26 = .ok (.iaload, 1) := by decide +kernel
theorem dX9_comesOut_27 : decode cX9_comesOut 27 = .ok (.istore 5, 2) := by decide +kernel
theorem dX9_comesOut_29 : decode cX9_comesOut 29 = .ok (.iload_n 1, 1) := by decide +kernel
theorem dX9_comesOut_30 : decode cX9_comesOut 30 = .ok (.iload 4, 2) := by decide +kernel
theorem dX9_comesOut_32 : decode cX9_comesOut 32 = .ok (.invokestatic 349, 3) := by decide +kernel
theorem dX9_comesOut_35 : decode cX9_comesOut 35 = .ok (.istore 6, 2) := by decide +kernel
theorem dX9_comesOut_37 : decode cX9_comesOut 37 = .ok (.aload_n 0, 1) := by decide +kernel
theorem dX9_comesOut_38 : decode cX9_comesOut 38 = .ok (.iload 5, 2) := by decide +kernel
theorem dX9_comesOut_40 : decode cX9_comesOut 40 = .ok (.invokevirtual 295, 3) := by decide +kernel
theorem dX9_comesOut_43 : decode cX9_comesOut 43 = .ok (.ifCond .ne 19, 3) := by decide +kernel
theorem dX9_comesOut_46 : decode cX9_comesOut 46 = .ok (.iload 6, 2) := by decide +kernel
theorem dX9_comesOut_48 : decode cX9_comesOut 48 = .ok (.ifCond .eq 5, 3) := by decide +kernel
theorem dX9_comesOut_51 : decode cX9_comesOut 51 = .ok (.lconst 0, 1) := by decide +kernel
theorem dX9_comesOut_52 : decode cX9_comesOut 52 = .ok (.lreturn, 1) := by decide +kernel
theorem dX9_comesOut_53 : decode cX9_comesOut 53 = .ok (.lload_n 2, 1) := by decide +kernel
theorem dX9_comesOut_54 : decode cX9_comesOut 54 = .ok (.ldc2_w 352, 3) := by decide +kernel
theorem dX9_comesOut_57 : decode cX9_comesOut 57 = .ok (.lmul, 1) := by decide +kernel
theorem dX9_comesOut_58 : decode cX9_comesOut 58 = .ok (.lstore_n 2, 1) := by decide +kernel
theorem dX9_comesOut_59 : decode cX9_comesOut 59 = .ok (.goto 89, 3) := by decide +kernel
theorem dX9_comesOut_62 : decode cX9_comesOut 62 = .ok (.aload_n 0, 1) := by decide +kernel
theorem dX9_comesOut_63 : decode cX9_comesOut 63 = .ok (.getfield 42, 3) := by decide +kernel
theorem dX9_comesOut_66 : decode cX9_comesOut 66 = .ok (.iconst 3, 1) := by decide +kernel
theorem dX9_comesOut_67 : decode cX9_comesOut 67 = .ok (.dup2, 1) := by decide +kernel
theorem dX9_comesOut_68 : decode cX9_comesOut 68 = .ok (.iaload, 1) := by decide +kernel
theorem dX9_comesOut_69 : decode cX9_comesOut 69 = .ok (.aload_n 0, 1) := by decide +kernel
theorem dX9_comesOut_70 : decode cX9_comesOut 70 = .ok (.iload 5, 2) := by decide +kernel
theorem dX9_comesOut_72 : decode cX9_comesOut 72 = .ok (.iconst 1, 1) := by decide +kernel
theorem dX9_comesOut_73 : decode cX9_comesOut 73 = .ok (.invokevirtual 268, 3) := by decide +kernel
theorem dX9_comesOut_76 : decode cX9_comesOut 76 = .ok (.isub, 1) := by decide +kernel
theorem dX9_comesOut_77 : decode cX9_comesOut 77 = .ok (.iastore, 1) := by decide +kernel
theorem dX9_comesOut_78 : decode cX9_comesOut 78 = .ok (.lload_n 2, 1) := by decide +kernel
theorem dX9_comesOut_79 : decode cX9_comesOut 79 = .ok (.iload 6, 2) := by decide +kernel
theorem dX9_comesOut_81 : decode cX9_comesOut 81 = .ok (.ifCond .eq 14, 3) := by decide +kernel
theorem dX9_comesOut_84 : decode cX9_comesOut 84 = .ok (.aload_n 0, 1) := by decide +kernel
theorem dX9_comesOut_85 : decode cX9_comesOut 85 = .ok (.iload 5, 2) := by decide +kernel
theorem dX9_comesOut_87 : decode cX9_comesOut 87 = .ok (.iconst 2, 1) := by decide +kernel
theorem dX9_comesOut_88 : decode cX9_comesOut 88 = .ok (.invokevirtual 268, 3) := by decide +kernel
theorem dX9_comesOut_91 : decode cX9_comesOut 91 = .ok (.i2l, 1) := by decide +kernel
theorem dX9_comesOut_92 : decode cX9_comesOut 92 = .ok (.goto 14, 3) := by decide +kernel
theorem dX9_comesOut_95 : decode cX9_comesOut 95 = .ok (.bipush 100, 2) := by decide +kernel
theorem dX9_comesOut_97 : decode cX9_comesOut 97 = .ok (.aload_n 0, 1) := by decide +kernel
theorem dX9_comesOut_98 : decode cX9_comesOut 98 = .ok (.iload 5, 2) := by decide +kernel
theorem dX9_comesOut_100 : decode cX9_comesOut 100 = .ok (.iconst 2, 1) := by decide +kernel
theorem dX9_comesOut_101 : decode cX9_comesOut 101 = .ok (.invokevirtual 268, 3) := by decide +kernel
theorem dX9_comesOut_104 : decode cX9_comesOut 104 = .ok (.isub, 1) := by decide +kernel
theorem dX9_comesOut_105 : decode cX9_comesOut 105 = .ok (.i2l, 1) := by decide +kernel
theorem dX9_comesOut_106 : decode cX9_comesOut 106 = .ok (.lmul, 1) := by decide +kernel
theorem dX9_comesOut_107 : decode cX9_comesOut 107 = .ok (.lstore_n 2, 1) := by decide +kernel
theorem dX9_comesOut_108 : decode cX9_comesOut 108 = .ok (.iload 6, 2) := by decide +kernel
theorem dX9_comesOut_110 : decode cX9_comesOut 110 = .ok (.ifCond .ne 6, 3) := by decide +kernel
theorem dX9_comesOut_113 : decode cX9_comesOut 113 = .ok (.goto 35, 3) := by decide +kernel
theorem dX9_comesOut_116 : decode cX9_comesOut 116 = .ok (.aload_n 0, 1) := by decide +kernel
theorem dX9_comesOut_117 : decode cX9_comesOut 117 = .ok (.getfield 42, 3) := by decide +kernel
theorem dX9_comesOut_120 : decode cX9_comesOut 120 = .ok (.bipush 44, 2) := by decide +kernel
theorem dX9_comesOut_122 : decode cX9_comesOut 122 = .ok (.bipush 6, 2) := by decide +kernel
theorem dX9_comesOut_124 : decode cX9_comesOut 124 = .ok (.iload 5, 2) := by decide +kernel
theorem dX9_comesOut_126 : decode cX9_comesOut 126 = .ok (.imul, 1) := by decide +kernel
theorem dX9_comesOut_127 : decode cX9_comesOut 127 = .ok (.iadd, 1) := by decide +kernel
theorem dX9_comesOut_128 : decode cX9_comesOut 128 = .ok (.iconst 4, 1) := by decide +kernel
theorem dX9_comesOut_129 : decode cX9_comesOut 129 = .ok (.iadd, 1) := by decide +kernel
theorem dX9_comesOut_130 : decode cX9_comesOut 130 = .ok (.iconst 1, 1) := by decide +kernel
theorem dX9_comesOut_131 : decode cX9_comesOut 131 = .ok (.iastore, 1) := by decide +kernel
theorem dX9_comesOut_132 : decode cX9_comesOut 132 = .ok (.aload_n 0, 1) := by decide +kernel
theorem dX9_comesOut_133 : decode cX9_comesOut 133 = .ok (.getfield 42, 3) := by decide +kernel
theorem dX9_comesOut_136 : decode cX9_comesOut 136 = .ok (.iconst 4, 1) := by decide +kernel
theorem dX9_comesOut_137 : decode cX9_comesOut 137 = .ok (.dup2, 1) := by decide +kernel
theorem dX9_comesOut_138 : decode cX9_comesOut 138 = .ok (.iaload, 1) := by decide +kernel
theorem dX9_comesOut_139 : decode cX9_comesOut 139 = .ok (.aload_n 0, 1) := by decide +kernel
theorem dX9_comesOut_140 : decode cX9_comesOut 140 = .ok (.iload 5, 2) := by decide +kernel
theorem dX9_comesOut_142 : decode cX9_comesOut 142 = .ok (.iconst 0, 1) := by decide +kernel
theorem dX9_comesOut_143 : decode cX9_comesOut 143 = .ok (.invokevirtual 275, 3) := by decide +kernel
theorem dX9_comesOut_146 : decode cX9_comesOut 146 = .ok (.iadd, 1) := by decide +kernel
theorem dX9_comesOut_147 : decode cX9_comesOut 147 = .ok (.iastore, 1) := by decide +kernel
theorem dX9_comesOut_148 : decode cX9_comesOut 148 = .ok (.iinc 4 1, 3) := by decide +kernel
theorem dX9_comesOut_151 : decode cX9_comesOut 151 = .ok (.goto (-146), 3) := by decide +kernel
theorem dX9_comesOut_154 : decode cX9_comesOut 154 = .ok (.lload_n 2, 1) := by decide +kernel
theorem dX9_comesOut_155 : decode cX9_comesOut 155 = .ok (.lreturn, 1) := by decide +kernel
theorem dX9_comesTo_0 : decode cX9_comesTo 0 = .ok (.aload_n 0, 1) := by decide +kernel
theorem dX9_comesTo_1 : decode cX9_comesTo 1 = .ok (.getfield 48, 3) := by decide +kernel
theorem dX9_comesTo_4 : decode cX9_comesTo 4 = .ok (.iload_n 1, 1) := by decide +kernel
theorem dX9_comesTo_5 : decode cX9_comesTo 5 = .ok (.iconst (-1), 1) := by decide +kernel
theorem dX9_comesTo_6 : decode cX9_comesTo 6 = .ok (.iastore, 1) := by decide +kernel
theorem dX9_comesTo_7 : decode cX9_comesTo 7 = .ok (.aload_n 0, 1) := by decide +kernel
theorem dX9_comesTo_8 : decode cX9_comesTo 8 = .ok (.getfield 70, 3) := by decide +kernel
theorem dX9_comesTo_11 : decode cX9_comesTo 11 = .ok (.iload_n 1, 1) := by decide +kernel
theorem dX9_comesTo_12 : decode cX9_comesTo 12 = .ok (.aload_n 0, 1) := by decide +kernel
theorem dX9_comesTo_13 : decode cX9_comesTo 13 = .ok (.getfield 42, 3) := by decide +kernel
theorem dX9_comesTo_16 : decode cX9_comesTo 16 = .ok (.iconst 3, 1) := by decide +kernel
theorem dX9_comesTo_17 : decode cX9_comesTo 17 = .ok (.iaload, 1) := by decide +kernel
theorem dX9_comesTo_18 : decode cX9_comesTo 18 = .ok (.iastore, 1) := by decide +kernel
theorem dX9_comesTo_19 : decode cX9_comesTo 19 = .ok (.aload_n 0, 1) := by decide +kernel
theorem dX9_comesTo_20 : decode cX9_comesTo 20 = .ok (.getfield 61, 3) := by decide +kernel
theorem dX9_comesTo_23 : decode cX9_comesTo 23 = .ok (.iload_n 1, 1) := by decide +kernel
theorem dX9_comesTo_24 : decode cX9_comesTo 24 = .ok (.lconst 0, 1) := by decide +kernel
theorem dX9_comesTo_25 : decode cX9_comesTo 25 = .ok (.lastore, 1) := by decide +kernel
theorem dX9_comesTo_26 : decode cX9_comesTo 26 = .ok (.aload_n 0, 1) := by decide +kernel
theorem dX9_comesTo_27 : decode cX9_comesTo 27 = .ok (.getfield 64, 3) := by decide +kernel
theorem dX9_comesTo_30 : decode cX9_comesTo 30 = .ok (.iload_n 1, 1) := by decide +kernel
theorem dX9_comesTo_31 : decode cX9_comesTo 31 = .ok (.aload_n 0, 1) := by decide +kernel
theorem dX9_comesTo_32 : decode cX9_comesTo 32 = .ok (.invokevirtual 307, 3) := by decide +kernel
theorem dX9_comesTo_35 : decode cX9_comesTo 35 = .ok (.i2l, 1) := by decide +kernel
theorem dX9_comesTo_36 : decode cX9_comesTo 36 = .ok (.aload_n 0, 1) := by decide +kernel
theorem dX9_comesTo_37 : decode cX9_comesTo 37 = .ok (.iload_n 2, 1) := by decide +kernel
theorem dX9_comesTo_38 : decode cX9_comesTo 38 = .ok (.iload_n 1, 1) := by decide +kernel
theorem dX9_comesTo_39 : decode cX9_comesTo 39 = .ok (.isub, 1) := by decide +kernel
theorem dX9_comesTo_40 : decode cX9_comesTo 40 = .ok (.invokevirtual 367, 3) := by decide +kernel
theorem dX9_comesTo_43 : decode cX9_comesTo 43 = .ok (.lmul, 1) := by decide +kernel
theorem dX9_comesTo_44 : decode cX9_comesTo 44 = .ok (.lastore, 1) := by decide +kernel
theorem dX9_comesTo_45 : decode cX9_comesTo 45 = .ok (.aload_n 0, 1) := by decide +kernel
theorem dX9_comesTo_46 : decode cX9_comesTo 46 = .ok (.getfield 67, 3) := by decide +kernel
theorem dX9_comesTo_49 : decode cX9_comesTo 49 = .ok (.iload_n 1, 1) := by decide +kernel
theorem dX9_comesTo_50 : decode cX9_comesTo 50 = .ok (.bipush (-2), 2) := by decide +kernel
theorem dX9_comesTo_52 : decode cX9_comesTo 52 = .ok (.iastore, 1) := by decide +kernel
theorem dX9_comesTo_53 : decode cX9_comesTo 53 = .ok (.return_, 1) := by decide +kernel
theorem dX9_compare_0 : decode cX9_compare 0 = .ok (.aload_n 0, 1) := by decide +kernel
theorem dX9_compare_1 : decode cX9_compare 1 = .ok (.invokevirtual 177, 3) := by decide +kernel
theorem dX9_compare_4 : decode cX9_compare 4 = .ok (.ifCond .ne 5, 3) := by decide +kernel
theorem dX9_compare_7 : decode cX9_compare 7 = .ok (.iconst 0, 1) := by decide +kernel
theorem dX9_compare_8 : decode cX9_compare 8 = .ok (.ireturn, 1) := by decide +kernel
theorem dX9_compare_9 : decode cX9_compare 9 = .ok (.aload_n 0, 1) := by decide +kernel
theorem dX9_compare_10 : decode cX9_compare 10 = .ok (.invokevirtual 93, 3) := by decide +kernel
theorem dX9_compare_13 : decode cX9_compare 13 = .ok (.istore_n 1, 1) := by decide +kernel
theorem dX9_compare_14 : decode cX9_compare 14 = .ok (.aload_n 0, 1) := by decide +kernel
theorem dX9_compare_15 : decode cX9_compare 15 = .ok (.getfield 90, 3) := by decide +kernel
theorem dX9_compare_18 : decode cX9_compare 18 = .ok (.istore_n 2, 1) := by decide +kernel
theorem dX9_compare_19 : decode cX9_compare 19 = .ok (.iload_n 1, 1) := by decide +kernel
theorem dX9_compare_20 : decode cX9_compare 20 = .ok (.bipush 60, 2) := by decide +kernel
theorem dX9_compare_22 : decode cX9_compare 22 = .ok (.if_icmp .eq 22, 3) := by decide +kernel
theorem dX9_compare_25 : decode cX9_compare 25 = .ok (.iload_n 1, 1) := by decide +kernel
theorem dX9_compare_26 : decode cX9_compare 26 = .ok (.bipush 61, 2) := by decide +kernel
theorem dX9_compare_28 : decode cX9_compare 28 = .ok (.if_icmp .eq 16, 3) := by decide +kernel
theorem dX9_compare_31 : decode cX9_compare 31 = .ok (.iload_n 1, 1) := by decide +kernel
theorem dX9_compare_32 : decode cX9_compare 32 = .ok (.bipush 62, 2) := by decide +kernel
theorem dX9_compare_34 : decode cX9_compare 34 = .ok (.if_icmp .eq 10, 3) := by decide +kernel
theorem dX9_compare_37 : decode cX9_compare 37 = .ok (.aload_n 0, 1) := by decide +kernel
theorem dX9_compare_38 : decode cX9_compare 38 = .ok (.iconst 0, 1) := by decide +kernel
theorem dX9_compare_39 : decode cX9_compare 39 = .ok (.iload_n 2, 1) := by decide +kernel
theorem dX9_compare_40 : decode cX9_compare 40 = .ok (.invokevirtual 111, 3) := by decide +kernel
theorem dX9_compare_43 : decode cX9_compare 43 = .ok (.ireturn, 1) := by decide +kernel
theorem dX9_compare_44 : decode cX9_compare 44 = .ok (.aload_n 0, 1) := by decide +kernel
theorem dX9_compare_45 : decode cX9_compare 45 = .ok (.dup, 1) := by decide +kernel
theorem dX9_compare_46 : decode cX9_compare 46 = .ok (.getfield 90, 3) := by decide +kernel
theorem dX9_compare_49 : decode cX9_compare 49 = .ok (.iconst 1, 1) := by decide +kernel
theorem dX9_compare_50 : decode cX9_compare 50 = .ok (.iadd, 1) := by decide +kernel
theorem dX9_compare_51 : decode cX9_compare 51 = .ok (.putfield 90, 3) := by decide +kernel
theorem dX9_compare_54 : decode cX9_compare 54 = .ok (.iload_n 1, 1) := by decide +kernel
theorem dX9_compare_55 : decode cX9_compare 55 = .ok (.bipush 61, 2) := by decide +kernel
theorem dX9_compare_57 : decode cX9_compare 57 = .ok (.if_icmp .eq 32, 3) := by decide +kernel
theorem dX9_compare_60 : decode cX9_compare 60 = .ok (.aload_n 0, 1) := by decide +kernel
theorem dX9_compare_61 : decode cX9_compare 61 = .ok (.getfield 90, 3) := by decide +kernel
theorem dX9_compare_64 : decode cX9_compare 64 = .ok (.aload_n 0, 1) := by decide +kernel
theorem dX9_compare_65 : decode cX9_compare 65 = .ok (.getfield 79, 3) := by decide +kernel
theorem dX9_compare_68 : decode cX9_compare 68 = .ok (.if_icmp .ge 21, 3) := by decide +kernel
theorem dX9_compare_71 : decode cX9_compare 71 = .ok (.aload_n 0, 1) := by decide +kernel
theorem dX9_compare_72 : decode cX9_compare 72 = .ok (.getfield 7, 3) := by decide +kernel
theorem dX9_compare_75 : decode cX9_compare 75 = .ok (.aload_n 0, 1) := by decide +kernel
theorem dX9_compare_76 : decode cX9_compare 76 = .ok (.getfield 90, 3) := by decide +kernel
theorem dX9_compare_79 : decode cX9_compare 79 = .ok (.baload, 1) := by decide +kernel
theorem dX9_compare_80 : decode cX9_compare 80 = .ok (.bipush 61, 2) := by decide +kernel
theorem dX9_compare_82 : decode cX9_compare 82 = .ok (.if_icmp .ne 7, 3) := by decide +kernel
theorem dX9_compare_85 : decode cX9_compare 85 = .ok (.iconst 1, 1) := by decide +kernel
theorem dX9_compare_86 : decode cX9_compare 86 = .ok (.goto 4, 3) := by decide +kernel
theorem dX9_compare_89 : decode cX9_compare 89 = .ok (.iconst 0, 1) := by decide +kernel
theorem dX9_compare_90 : decode cX9_compare 90 = .ok (.istore_n 3, 1) := by decide +kernel
theorem dX9_compare_91 : decode cX9_compare 91 = .ok (.iload_n 3, 1) := by decide +kernel
theorem dX9_compare_92 : decode cX9_compare 92 = .ok (.ifCond .eq 13, 3) := by decide +kernel
theorem dX9_compare_95 : decode cX9_compare 95 = .ok (.aload_n 0, 1) := by decide +kernel
theorem dX9_compare_96 : decode cX9_compare 96 = .ok (.dup, 1) := by decide +kernel
theorem dX9_compare_97 : decode cX9_compare 97 = .ok (.getfield 90, 3) := by decide +kernel
theorem dX9_compare_100 : decode cX9_compare 100 = .ok (.iconst 1, 1) := by decide +kernel
theorem dX9_compare_101 : decode cX9_compare 101 = .ok (.iadd, 1) := by decide +kernel
theorem dX9_compare_102 : decode cX9_compare 102 = .ok (.putfield 90, 3) := by decide +kernel
theorem dX9_compare_105 : decode cX9_compare 105 = .ok (.aload_n 0, 1) := by decide +kernel
theorem dX9_compare_106 : decode cX9_compare 106 = .ok (.iload_n 2, 1) := by decide +kernel
theorem dX9_compare_107 : decode cX9_compare 107 = .ok (.invokevirtual 164, 3) := by decide +kernel
theorem dX9_compare_110 : decode cX9_compare 110 = .ok (.ifCond .ne 5, 3) := by decide +kernel
theorem dX9_compare_113 : decode cX9_compare 113 = .ok (.iconst 0, 1) := by decide +kernel
theorem dX9_compare_114 : decode cX9_compare 114 = .ok (.ireturn, 1) := by decide +kernel
theorem dX9_compare_115 : decode cX9_compare 115 = .ok (.iload_n 1, 1) := by decide +kernel
theorem dX9_compare_116 : decode cX9_compare 116 = .ok (.bipush 60, 2) := by decide +kernel
theorem dX9_compare_118 : decode cX9_compare 118 = .ok (.if_icmp .ne 15, 3) := by decide +kernel
theorem dX9_compare_121 : decode cX9_compare 121 = .ok (.iload_n 3, 1) := by decide +kernel
theorem dX9_compare_122 : decode cX9_compare 122 = .ok (.ifCond .eq 7, 3) := by decide +kernel
theorem dX9_compare_125 : decode cX9_compare 125 = .ok (.iconst 1, 1) := by decide +kernel
theorem dX9_compare_126 : decode cX9_compare 126 = .ok (.goto 26, 3) := by decide +kernel
theorem dX9_compare_129 : decode cX9_compare 129 = .ok (.iconst 0, 1) := by decide +kernel
theorem dX9_compare_130 : decode cX9_compare 130 = .ok (.goto 22, 3) := by decide +kernel
theorem dX9_compare_133 : decode cX9_compare 133 = .ok (.iload_n 1, 1) := by decide +kernel
theorem dX9_compare_134 : decode cX9_compare 134 = .ok (.bipush 61, 2) := by decide +kernel
theorem dX9_compare_136 : decode cX9_compare 136 = .ok (.if_icmp .ne 7, 3) := by decide +kernel
theorem dX9_compare_139 : decode cX9_compare 139 = .ok (.iconst 2, 1) := by decide +kernel
theorem dX9_compare_140 : decode cX9_compare 140 = .ok (.goto 12, 3) := by decide +kernel
theorem dX9_compare_143 : decode cX9_compare 143 = .ok (.iload_n 3, 1) := by decide +kernel
theorem dX9_compare_144 : decode cX9_compare 144 = .ok (.ifCond .eq 7, 3) := by decide +kernel
theorem dX9_compare_147 : decode cX9_compare 147 = .ok (.iconst 3, 1) := by decide +kernel
theorem dX9_compare_148 : decode cX9_compare 148 = .ok (.goto 4, 3) := by decide +kernel
theorem dX9_compare_151 : decode cX9_compare 151 = .ok (.iconst 4, 1) := by decide +kernel
theorem dX9_compare_152 : decode cX9_compare 152 = .ok (.istore 4, 2) := by decide +kernel
theorem dX9_compare_154 : decode cX9_compare 154 = .ok (.aload_n 0, 1) := by decide +kernel
theorem dX9_compare_155 : decode cX9_compare 155 = .ok (.invokevirtual 177, 3) := by decide +kernel
theorem dX9_compare_158 : decode cX9_compare 158 = .ok (.ifCond .ne 5, 3) := by decide +kernel
theorem dX9_compare_161 : decode cX9_compare 161 = .ok (.iconst 0, 1) := by decide +kernel
theorem dX9_compare_162 : decode cX9_compare 162 = .ok (.ireturn, 1) := by decide +kernel
theorem dX9_compare_163 : decode cX9_compare 163 = .ok (.aload_n 0, 1) := by decide +kernel
theorem dX9_compare_164 : decode cX9_compare 164 = .ok (.bipush 6, 2) := by decide +kernel
theorem dX9_compare_166 : decode cX9_compare 166 = .ok (.iload 4, 2) := by decide +kernel
theorem dX9_compare_168 : decode cX9_compare 168 = .ok (.iadd, 1) := by decide +kernel
theorem dX9_compare_169 : decode cX9_compare 169 = .ok (.iconst 0, 1) := by decide +kernel
theorem dX9_compare_170 : decode cX9_compare 170 = .ok (.invokevirtual 156, 3) := by decide +kernel
theorem dX9_compare_173 : decode cX9_compare 173 = .ok (.iconst 1, 1) := by decide +kernel
theorem dX9_compare_174 : decode cX9_compare 174 = .ok (.ireturn, 1) := by decide +kernel
theorem dX9_couldBe_0 : decode cX9_couldBe 0 = .ok (.iconst 0, 1) := by decide +kernel
theorem dX9_couldBe_1 : decode cX9_couldBe 1 = .ok (.istore_n 3, 1) := by decide +kernel
theorem dX9_couldBe_2 : decode cX9_couldBe 2 = .ok (.iconst 0, 1) := by decide +kernel
theorem dX9_couldBe_3 : decode cX9_couldBe 3 = .ok (.istore 4, 2) := by decide +kernel
