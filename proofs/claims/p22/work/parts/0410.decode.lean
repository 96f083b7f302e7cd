theorem dX9_meanOf_32 : decode cX9_meanOf 32 = .ok (.getfield 42, 3) := by decide +kernel
theorem dX9_meanOf_35 : decode cX9_meanOf 35 = .ok (.iconst 4, 1) := by decide +kernel
theorem dX9_meanOf_36 : decode cX9_meanOf 36 = .ok (.iaload, 1) := by decide +kernel
theorem dX9_meanOf_37 : decode cX9_meanOf 37 = .ok (.aload_n 0, 1) := by decide +kernel
theorem dX9_meanOf_38 : decode cX9_meanOf 38 = .ok (.getfield 45, 3) := by decide +kernel
theorem dX9_meanOf_41 : decode cX9_meanOf 41 = .ok (.iconst 4, 1) := by decide +kernel
theorem dX9_meanOf_42 : decode cX9_meanOf 42 = .ok (.iaload, 1) := by decide +kernel
theorem dX9_meanOf_43 : decode cX9_meanOf 43 = .ok (.isub, 1) := by decide +kernel
theorem dX9_meanOf_44 : decode cX9_meanOf 44 = .ok (.istore 7, 2) := by decide +kernel
theorem dX9_meanOf_46 : decode cX9_meanOf 46 = .ok (.lload_n 2, 1) := by decide +kernel
theorem dX9_meanOf_47 : decode cX9_meanOf 47 = .ok (.lload 5, 2) := by decide +kernel
theorem dX9_meanOf_49 : decode cX9_meanOf 49 = .ok (.iload_n 1, 1) := by decide +kernel
theorem dX9_meanOf_50 : decode cX9_meanOf 50 = .ok (.ifCond .ge 8, 3) := by decide +kernel
theorem dX9_meanOf_53 : decode cX9_meanOf 53 = .ok (.iload 7, 2) := by decide +kernel
theorem dX9_meanOf_55 : decode cX9_meanOf 55 = .ok (.goto 18, 3) := by decide +kernel
theorem dX9_meanOf_58 : decode cX9_meanOf 58 = .ok (.aload_n 0, 1) := by decide +kernel
theorem dX9_meanOf_59 : decode cX9_meanOf 59 = .ok (.iload_n 1, 1) := by decide +kernel
theorem dX9_meanOf_60 : decode cX9_meanOf 60 = .ok (.iconst 4, 1) := by decide +kernel
theorem dX9_meanOf_61 : decode cX9_meanOf 61 = .ok (.invokevirtual 268, 3) := by decide +kernel
theorem dX9_meanOf_64 : decode cX9_meanOf 64 = .ok (.iconst 1, 1) := by decide +kernel
theorem dX9_meanOf_65 : decode cX9_meanOf 65 = .ok (.if_icmp .ne 7, 3) := by decide +kernel
theorem dX9_meanOf_68 : decode cX9_meanOf 68 = .ok (.iconst 1, 1) := by decide +kernel
theorem dX9_meanOf_69 : decode cX9_meanOf 69 = .ok (.goto 4, 3) := by decide +kernel
theorem dX9_meanOf_72 : decode cX9_meanOf 72 = .ok (.iconst 0, 1) := by decide +kernel
theorem dX9_meanOf_73 : decode cX9_meanOf 73 = .ok (.i2l, 1) := by decide +kernel
theorem dX9_meanOf_74 : decode cX9_meanOf 74 = .ok (.lmul, 1) := by decide +kernel
theorem dX9_meanOf_75 : decode cX9_meanOf 75 = .ok (.ladd, 1) := by decide +kernel
theorem dX9_meanOf_76 : decode cX9_meanOf 76 = .ok (.lstore_n 2, 1) := by decide +kernel
theorem dX9_meanOf_77 : decode cX9_meanOf 77 = .ok (.aload_n 0, 1) := by decide +kernel
theorem dX9_meanOf_78 : decode cX9_meanOf 78 = .ok (.invokevirtual 346, 3) := by decide +kernel
theorem dX9_meanOf_81 : decode cX9_meanOf 81 = .ok (.iinc 4 1, 3) := by decide +kernel
theorem dX9_meanOf_84 : decode cX9_meanOf 84 = .ok (.goto (-75), 3) := by decide +kernel
theorem dX9_meanOf_87 : decode cX9_meanOf 87 = .ok (.lload_n 2, 1) := by decide +kernel
theorem dX9_meanOf_88 : decode cX9_meanOf 88 = .ok (.lreturn, 1) := by decide +kernel
theorem dX9_mend_0 : decode cX9_mend 0 = .ok (.aload_n 0, 1) := by decide +kernel
theorem dX9_mend_1 : decode cX9_mend 1 = .ok (.iload_n 1, 1) := by decide +kernel
theorem dX9_mend_2 : decode cX9_mend 2 = .ok (.invokevirtual 280, 3) := by decide +kernel
theorem dX9_mend_5 : decode cX9_mend 5 = .ok (.ifCond .eq 12, 3) := by decide +kernel
theorem dX9_mend_8 : decode cX9_mend 8 = .ok (.aload_n 0, 1) := by decide +kernel
theorem dX9_mend_9 : decode cX9_mend 9 = .ok (.iload_n 1, 1) := by decide +kernel
theorem dX9_mend_10 : decode cX9_mend 10 = .ok (.iconst 4, 1) := by decide +kernel
theorem dX9_mend_11 : decode cX9_mend 11 = .ok (.invokevirtual 268, 3) := by decide +kernel
theorem dX9_mend_14 : decode cX9_mend 14 = .ok (.ifCond .le 7, 3) := by decide +kernel
theorem dX9_mend_17 : decode cX9_mend 17 = .ok (.ldc_w 306, 3) := by decide +kernel
theorem dX9_mend_20 : decode cX9_mend 20 = .ok (.ireturn, 1) := by decide +kernel
theorem dX9_mend_21 : decode cX9_mend 21 = .ok (.aload_n 0, 1) := by decide +kernel
theorem dX9_mend_22 : decode cX9_mend 22 = .ok (.getfield 42, 3) := by decide +kernel
theorem dX9_mend_25 : decode cX9_mend 25 = .ok (.bipush 44, 2) := by decide +kernel
theorem dX9_mend_27 : decode cX9_mend 27 = .ok (.bipush 6, 2) := by decide +kernel
theorem dX9_mend_29 : decode cX9_mend 29 = .ok (.iload_n 1, 1) := by decide +kernel
theorem dX9_mend_30 : decode cX9_mend 30 = .ok (.imul, 1) := by decide +kernel
theorem dX9_mend_31 : decode cX9_mend 31 = .ok (.iadd, 1) := by decide +kernel
theorem dX9_mend_32 : decode cX9_mend 32 = .ok (.iconst 4, 1) := by decide +kernel
theorem dX9_mend_33 : decode cX9_mend 33 = .ok (.iadd, 1) := by decide +kernel
theorem dX9_mend_34 : decode cX9_mend 34 = .ok (.iconst 2, 1) := by decide +kernel
theorem dX9_mend_35 : decode cX9_mend 35 = .ok (.iastore, 1) := by decide +kernel
theorem dX9_mend_36 : decode cX9_mend 36 = .ok (.aload_n 0, 1) := by decide +kernel
theorem dX9_mend_37 : decode cX9_mend 37 = .ok (.getfield 42, 3) := by decide +kernel
theorem dX9_mend_40 : decode cX9_mend 40 = .ok (.iconst 5, 1) := by decide +kernel
theorem dX9_mend_41 : decode cX9_mend 41 = .ok (.dup2, 1) := by decide +kernel
theorem dX9_mend_42 : decode cX9_mend 42 = .ok (.iaload, 1) := by decide +kernel
theorem dX9_mend_43 : decode cX9_mend 43 = .ok (.aload_n 0, 1) := by decide +kernel
theorem dX9_mend_44 : decode cX9_mend 44 = .ok (.iload_n 1, 1) := by decide +kernel
theorem dX9_mend_45 : decode cX9_mend 45 = .ok (.iconst 2, 1) := by decide +kernel
theorem dX9_mend_46 : decode cX9_mend 46 = .ok (.invokevirtual 275, 3) := by decide +kernel
theorem dX9_mend_49 : decode cX9_mend 49 = .ok (.isub, 1) := by decide +kernel
theorem dX9_mend_50 : decode cX9_mend 50 = .ok (.iastore, 1) := by decide +kernel
theorem dX9_mend_51 : decode cX9_mend 51 = .ok (.aload_n 0, 1) := by decide +kernel
theorem dX9_mend_52 : decode cX9_mend 52 = .ok (.getfield 42, 3) := by decide +kernel
theorem dX9_mend_55 : decode cX9_mend 55 = .ok (.iconst 5, 1) := by decide +kernel
theorem dX9_mend_56 : decode cX9_mend 56 = .ok (.iaload, 1) := by decide +kernel
theorem dX9_mend_57 : decode cX9_mend 57 = .ok (.ireturn, 1) := by decide +kernel
theorem dX9_mixed_0 : decode cX9_mixed 0 = .ok (.iload_n 1, 1) := by decide +kernel
theorem dX9_mixed_1 : decode cX9_mixed 1 = .ok (.i2l, 1) := by decide +kernel
theorem dX9_mixed_2 : decode cX9_mixed 2 = .ok (.lconst 0, 1) := by decide +kernel
theorem dX9_mixed_3 : decode cX9_mixed 3 = .ok (.lconst 1, 1) := by decide +kernel
theorem dX9_mixed_4 : decode cX9_mixed 4 = .ok (.invokestatic 118, 3) := by decide +kernel
theorem dX9_mixed_7 : decode cX9_mixed 7 = .ok (.ifCond .eq 13, 3) := by decide +kernel
theorem dX9_mixed_10 : decode cX9_mixed 10 = .ok (.iload_n 2, 1) := by decide +kernel
theorem dX9_mixed_11 : decode cX9_mixed 11 = .ok (.i2l, 1) := by decide +kernel
theorem dX9_mixed_12 : decode cX9_mixed 12 = .ok (.lconst 0, 1) := by decide +kernel
theorem dX9_mixed_13 : decode cX9_mixed 13 = .ok (.lconst 1, 1) := by decide +kernel
theorem dX9_mixed_14 : decode cX9_mixed 14 = .ok (.invokestatic 118, 3) := by decide +kernel
theorem dX9_mixed_17 : decode cX9_mixed 17 = .ok (.ifCond .ne 5, 3) := by decide +kernel
theorem dX9_mixed_20 : decode cX9_mixed 20 = .ok (.iconst (-1), 1) := by decide +kernel
theorem dX9_mixed_21 : decode cX9_mixed 21 = .ok (.ireturn, 1) := by decide +kernel
theorem dX9_mixed_22 : decode cX9_mixed 22 = .ok (.aload_n 0, 1) := by decide +kernel
theorem dX9_mixed_23 : decode cX9_mixed 23 = .ok (.invokevirtual 404, 3) := by decide +kernel
theorem dX9_mixed_26 : decode cX9_mixed 26 = .ok (.ifCond .le 6, 3) := by decide +kernel
theorem dX9_mixed_29 : decode cX9_mixed 29 = .ok (.bipush (-2), 2) := by decide +kernel
theorem dX9_mixed_31 : decode cX9_mixed 31 = .ok (.ireturn, 1) := by decide +kernel
theorem dX9_mixed_32 : decode cX9_mixed 32 = .ok (.iload_n 1, 1) := by decide +kernel
theorem dX9_mixed_33 : decode cX9_mixed 33 = .ok (.ifCond .ne 19, 3) := by decide +kernel
theorem dX9_mixed_36 : decode cX9_mixed 36 = .ok (.aload_n 0, 1) := by decide +kernel
theorem dX9_mixed_37 : decode cX9_mixed 37 = .ok (.bipush 7, 2) := by decide +kernel
theorem dX9_mixed_39 : decode cX9_mixed 39 = .ok (.invokevirtual 401, 3) := by decide +kernel
theorem dX9_mixed_42 : decode cX9_mixed 42 = .ok (.aload_n 0, 1) := by decide +kernel
theorem dX9_mixed_43 : decode cX9_mixed 43 = .ok (.bipush 6, 2) := by decide +kernel
theorem dX9_mixed_45 : decode cX9_mixed 45 = .ok (.invokevirtual 401, 3) := by decide +kernel
theorem dX9_mixed_48 : decode cX9_mixed 48 = .ok (.isub, 1) := by decide +kernel
theorem dX9_mixed_49 : decode cX9_mixed 49 = .ok (.goto 14, 3) := by decide +kernel
theorem dX9_mixed_52 : decode cX9_mixed 52 = .ok (.aload_n 0, 1) := by decide +kernel
theorem dX9_mixed_53 : decode cX9_mixed 53 = .ok (.iconst 3, 1) := by decide +kernel
theorem dX9_mixed_54 : decode cX9_mixed 54 = .ok (.invokevirtual 401, 3) := by decide +kernel
theorem dX9_mixed_57 : decode cX9_mixed 57 = .ok (.aload_n 0, 1) := by decide +kernel
theorem dX9_mixed_58 : decode cX9_mixed 58 = .ok (.iconst 1, 1) := by decide +kernel
theorem dX9_mixed_59 : decode cX9_mixed 59 = .ok (.invokevirtual 401, 3) := by decide +kernel
theorem dX9_mixed_62 : decode cX9_mixed 62 = .ok (.isub, 1) := by decide +kernel
theorem dX9_mixed_63 : decode cX9_mixed 63 = .ok (.istore_n 3, 1) := by decide +kernel
theorem dX9_mixed_64 : decode cX9_mixed 64 = .ok (.iload_n 3, 1) := by decide +kernel
theorem dX9_mixed_65 : decode cX9_mixed 65 = .ok (.iload_n 1, 1) := by decide +kernel
theorem dX9_mixed_66 : decode cX9_mixed 66 = .ok (.ifCond .ne 17, 3) := by decide +kernel
theorem dX9_mixed_69 : decode cX9_mixed 69 = .ok (.aload_n 0, 1) := by decide +kernel
theorem dX9_mixed_70 : decode cX9_mixed 70 = .ok (.iconst 4, 1) := by decide +kernel
theorem dX9_mixed_71 : decode cX9_mixed 71 = .ok (.invokevirtual 401, 3) := by decide +kernel
theorem dX9_mixed_74 : decode cX9_mixed 74 = .ok (.aload_n 0, 1) := by decide +kernel
theorem dX9_mixed_75 : decode cX9_mixed 75 = .ok (.iconst 5, 1) := by decide +kernel
theorem dX9_mixed_76 : decode cX9_mixed 76 = .ok (.invokevirtual 401, 3) := by decide +kernel
theorem dX9_mixed_79 : decode cX9_mixed 79 = .ok (.isub, 1) := by decide +kernel
theorem dX9_mixed_80 : decode cX9_mixed 80 = .ok (.goto 14, 3) := by decide +kernel
theorem dX9_mixed_83 : decode cX9_mixed 83 = .ok (.aload_n 0, 1) := by decide +kernel
theorem dX9_mixed_84 : decode cX9_mixed 84 = .ok (.iconst 0, 1) := by decide +kernel
theorem dX9_mixed_85 : decode cX9_mixed 85 = .ok (.invokevirtual 401, 3) := by decide +kernel
theorem dX9_mixed_88 : decode cX9_mixed 88 = .ok (.aload_n 0, 1) := by decide +kernel
theorem dX9_mixed_89 : decode cX9_mixed 89 = .ok (.iconst 2, 1) := by decide +kernel
theorem dX9_mixed_90 : decode cX9_mixed 90 = .ok (.invokevirtual 401, 3) := by decide +kernel
theorem dX9_mixed_93 : decode cX9_mixed 93 = .ok (.isub, 1) := by decide +kernel
theorem dX9_mixed_94 : decode cX9_mixed 94 = .ok (.iadd, 1) := by decide +kernel
theorem dX9_mixed_95 : decode cX9_mixed 95 = .ok (.istore 4, 2) := by decide +kernel
theorem dX9_mixed_97 : decode cX9_mixed 97 = .ok (.iload 4, 2) := by decide +kernel
theorem dX9_mixed_99 : decode cX9_mixed 99 = .ok (.ifCond .ge 7, 3) := by decide +kernel
theorem dX9_mixed_102 : decode cX9_mixed 102 = .ok (.iconst (-1), 1) := by decide +kernel
theorem dX9_mixed_103 : decode cX9_mixed 103 = .ok (.goto 4, 3) := by decide +kernel
theorem dX9_mixed_106 : decode cX9_mixed 106 = .ok (.iconst 1, 1) := by decide +kernel
theorem dX9_mixed_107 : decode cX9_mixed 107 = .ok (.istore 5, 2) := by decide +kernel
theorem dX9_mixed_109 : decode cX9_mixed 109 = .ok (.aload_n 0, 1) := by decide +kernel
theorem dX9_mixed_110 : decode cX9_mixed 110 = .ok (.iload 5, 2) := by decide +kernel
theorem dX9_mixed_112 : decode cX9_mixed 112 = .ok (.iload_n 3, 1) := by decide +kernel
theorem dX9_mixed_113 : decode cX9_mixed 113 = .ok (.imul, 1) := by decide +kernel
theorem dX9_mixed_114 : decode cX9_mixed 114 = .ok (.i2l, 1) := by decide +kernel
theorem dX9_mixed_115 : decode cX9_mixed 115 = .ok (.iload 5, 2) := by decide +kernel
theorem dX9_mixed_117 : decode cX9_mixed 117 = .ok (.iload 4, 2) := by decide +kernel
theorem dX9_mixed_119 : decode cX9_mixed 119 = .ok (.imul, 1) := by decide +kernel
theorem dX9_mixed_120 : decode cX9_mixed 120 = .ok (.i2l, 1) := by decide +kernel
theorem dX9_mixed_121 : decode cX9_mixed 121 = .ok (.iload_n 2, 1) := by decide +kernel
theorem dX9_mixed_122 : decode cX9_mixed 122 = .ok (.invokevirtual 370, 3) := by decide +kernel
theorem dX9_mixed_125 : decode cX9_mixed 125 = .ok (.l2i, 1) := by decide +kernel
theorem dX9_mixed_126 : decode cX9_mixed 126 = .ok (.ireturn, 1) := by decide +kernel
theorem dX9_nextFor_0 : decode cX9_nextFor 0 = .ok (.iconst (-1), 1) := by decide +kernel
theorem dX9_nextFor_1 : decode cX9_nextFor 1 = .ok (.istore_n 2, 1) := by decide +kernel
theorem dX9_nextFor_2 : decode cX9_nextFor 2 = .ok (.lconst 0, 1) := by decide +kernel
theorem dX9_nextFor_3 : decode cX9_nextFor 3 = .ok (.lstore_n 3, 1) := by decide +kernel
theorem dX9_nextFor_4 : decode cX9_nextFor 4 = .ok (.iconst 0, 1) := by decide +kernel
theorem dX9_nextFor_5 : decode cX9_nextFor 5 = .ok (.istore 5, 2) := by decide +kernel
theorem dX9_nextFor_7 : decode cX9_nextFor 7 = .ok (.iload 5, 2) := by decide +kernel
theorem dX9_nextFor_9 : decode cX9_nextFor 9 = .ok (.aload_n 0, 1) := by decide +kernel
theorem dX9_nextFor_10 : decode cX9_nextFor 10 = .ok (.getfield 42, 3) := by decide +kernel
theorem dX9_nextFor_13 : decode cX9_nextFor 13 = .ok (.iconst 0, 1) := by decide +kernel
theorem dX9_nextFor_14 : decode cX9_nextFor 14 = .ok (.iaload, 1) := by decide +kernel
theorem dX9_nextFor_15 : decode cX9_nextFor 15 = .ok (.if_icmp .ge 83, 3) := by decide +kernel
theorem dX9_nextFor_18 : decode cX9_nextFor 18 = .ok (.aload_n 0, 1) := by decide +kernel
theorem dX9_nextFor_19 : decode cX9_nextFor 19 = .ok (.iload 5, 2) := by decide +kernel
theorem dX9_nextFor_21 : decode cX9_nextFor 21 = .ok (.invokevirtual 295, 3) := by decide +kernel
theorem dX9_nextFor_24 : decode cX9_nextFor 24 = .ok (.ifCond .ne 6, 3) := by decide +kernel
theorem dX9_nextFor_27 : decode cX9_nextFor 27 = .ok (.goto 65, 3) := by decide +kernel
theorem dX9_nextFor_30 : decode cX9_nextFor 30 = .ok (.aload_n 0, 1) := by decide +kernel
theorem dX9_nextFor_31 : decode cX9_nextFor 31 = .ok (.iload_n 1, 1) := by decide +kernel
theorem dX9_nextFor_32 : decode cX9_nextFor 32 = .ok (.iload 5, 2) := by decide +kernel
theorem dX9_nextFor_34 : decode cX9_nextFor 34 = .ok (.invokevirtual 326, 3) := by decide +kernel
theorem dX9_nextFor_37 : decode cX9_nextFor 37 = .ok (.istore 6, 2) := by decide +kernel
theorem dX9_nextFor_39 : decode cX9_nextFor 39 = .ok (.iload 6, 2) := by decide +kernel
theorem dX9_nextFor_41 : decode cX9_nextFor 41 = .ok (.ifCond .ge 6, 3) := by decide +kernel
theorem dX9_nextFor_44 : decode cX9_nextFor 44 = .ok (.goto 48, 3) := by decide +kernel
theorem dX9_nextFor_47 : decode cX9_nextFor 47 = .ok (.aload_n 0, 1) := by decide +kernel
theorem dX9_nextFor_48 : decode cX9_nextFor 48 = .ok (.iload_n 1, 1) := by decide +kernel
theorem dX9_nextFor_49 : decode cX9_nextFor 49 = .ok (.aload_n 0, 1) := by decide +kernel
theorem dX9_nextFor_50 : decode cX9_nextFor 50 = .ok (.getfield 20, 3) := by decide +kernel
theorem dX9_nextFor_53 : decode cX9_nextFor 53 = .ok (.iload 6, 2) := by decide +kernel
theorem dX9_nextFor_55 : decode cX9_nextFor 55 = .ok (.iconst 1, 1) := by decide +kernel
theorem dX9_nextFor_56 : decode cX9_nextFor 56 = .ok (.iadd, 1) := by decide +kernel
theorem dX9_nextFor_57 : decode cX9_nextFor 57 = .ok (.iaload, 1) := by decide +kernel
theorem dX9_nextFor_58 : decode cX9_nextFor 58 = .ok (.aload_n 0, 1) := by decide +kernel
theorem dX9_nextFor_59 : decode cX9_nextFor 59 = .ok (.getfield 20, 3) := by decide +kernel
theorem dX9_nextFor_62 : decode cX9_nextFor 62 = .ok (.iload 6, 2) := by decide +kernel
theorem dX9_nextFor_64 : decode cX9_nextFor 64 = .ok (.iconst 2, 1) := by decide +kernel
theorem dX9_nextFor_65 : decode cX9_nextFor 65 = .ok (.iadd, 1) := by decide +kernel
theorem dX9_nextFor_66 : decode cX9_nextFor 66 = .ok (.iaload, 1) := by decide +kernel
theorem dX9_nextFor_67 : decode cX9_nextFor 67 = .ok (.invokevirtual 322, 3) := by decide +kernel
theorem dX9_nextFor_70 : decode cX9_nextFor 70 = .ok (.lstore 7, 2) := by decide +kernel
theorem dX9_nextFor_72 : decode cX9_nextFor 72 = .ok (.iload_n 2, 1) := by decide +kernel
theorem dX9_nextFor_73 : decode cX9_nextFor 73 = .ok (.ifCond .lt 13, 3) := by decide +kernel
theorem dX9_nextFor_76 : decode cX9_nextFor 76 = .ok (.lload 7, 2) := by decide +kernel
theorem dX9_nextFor_78 : decode cX9_nextFor 78 = .ok (.lload_n 3, 1) := by decide +kernel
theorem dX9_nextFor_79 : decode cX9_nextFor 79 = .ok (.lcmp, 1) := by decide +kernel
theorem dX9_nextFor_80 : decode cX9_nextFor 80 = .ok (.ifCond .lt 6, 3) := by decide +kernel
theorem dX9_nextFor_83 : decode cX9_nextFor 83 = .ok (.goto 9, 3) := by decide +kernel
theorem dX9_nextFor_86 : decode cX9_nextFor 86 = .ok (.iload 5, 2) := by decide +kernel
theorem dX9_nextFor_88 : decode cX9_nextFor 88 = .ok (.istore_n 2, 1) := by decide +kernel
theorem dX9_nextFor_89 : decode cX9_nextFor 89 = .ok (.lload 7, 2) := by decide +kernel
theorem dX9_nextFor_91 : decode cX9_nextFor 91 = .ok (.lstore_n 3, 1) := by decide +kernel
theorem dX9_nextFor_92 : decode cX9_nextFor 92 = .ok (.iinc 5 1, 3) := by decide +kernel
theorem dX9_nextFor_95 : decode cX9_nextFor 95 = .ok (.goto (-88), 3) := by decide +kernel
theorem dX9_nextFor_98 : decode cX9_nextFor 98 = .ok (.iload_n 2, 1) := by decide +kernel
theorem dX9_nextFor_99 : decode cX9_nextFor 99 = .ok (.ifCond .lt 12, 3) := by decide +kernel
theorem dX9_nextFor_102 : decode cX9_nextFor 102 = .ok (.aload_n 0, 1) := by decide +kernel
theorem dX9_nextFor_103 : decode cX9_nextFor 103 = .ok (.iload_n 1, 1) := by decide +kernel
theorem dX9_nextFor_104 : decode cX9_nextFor 104 = .ok (.iload_n 2, 1) := by decide +kernel
theorem dX9_nextFor_105 : decode cX9_nextFor 105 = .ok (.invokevirtual 329, 3) := by decide +kernel
theorem dX9_nextFor_108 : decode cX9_nextFor 108 = .ok (.ifCond .eq 7, 3) := by decide +kernel
theorem dX9_nextFor_111 : decode cX9_nextFor 111 = .ok (.iconst (-1), 1) := by decide +kernel
theorem dX9_nextFor_112 : decode cX9_nextFor 112 = .ok (.goto 4, 3) := by decide +kernel
theorem dX9_nextFor_115 : decode cX9_nextFor 115 = .ok (.iload_n 2, 1) := by decide +kernel
theorem dX9_nextFor_116 : decode cX9_nextFor 116 = .ok (.ireturn, 1) := by decide +kernel
theorem dX9_numberHere_0 : decode cX9_numberHere 0 = .ok (.aload_n 0, 1) := by decide +kernel
theorem dX9_numberHere_1 : decode cX9_numberHere 1 = .ok (.invokevirtual 93, 3) := by decide +kernel
theorem dX9_numberHere_4 : decode cX9_numberHere 4 = .ok (.pop, 1) := by decide +kernel
theorem dX9_numberHere_5 : decode cX9_numberHere 5 = .ok (.aload_n 0, 1) := by decide +kernel
theorem dX9_numberHere_6 : decode cX9_numberHere 6 = .ok (.aload_n 0, 1) := by decide +kernel
theorem dX9_numberHere_7 : decode cX9_numberHere 7 = .ok (.getfield 90, 3) := by decide +kernel
theorem dX9_numberHere_10 : decode cX9_numberHere 10 = .ok (.invokevirtual 108, 3) := by decide +kernel
theorem dX9_numberHere_13 : decode cX9_numberHere 13 = .ok (.ifCond .ne 13, 3) := by decide +kernel
theorem dX9_numberHere_16 : decode cX9_numberHere 16 = .ok (.aload_n 0, 1) := by decide +kernel
theorem dX9_numberHere_17 : decode cX9_numberHere 17 = .ok (.iconst 0, 1) := by decide +kernel
theorem dX9_numberHere_18 : decode cX9_numberHere 18 = .ok (.aload_n 0, 1) := by decide +kernel
theorem dX9_numberHere_19 : decode cX9_numberHere 19 = .ok (.getfield 90, 3) := by decide +kernel
theorem dX9_numberHere_22 : decode cX9_numberHere 22 = .ok (.invokevirtual 111, 3) := by decide +kernel
theorem dX9_numberHere_25 : decode cX9_numberHere 25 = .ok (.ireturn, 1) := by decide +kernel
theorem dX9_numberHere_26 : decode cX9_numberHere 26 = .ok (.aload_n 0, 1) := by decide +kernel
theorem dX9_numberHere_27 : decode cX9_numberHere 27 = .ok (.getfield 90, 3) := by decide +kernel
theorem dX9_numberHere_30 : decode cX9_numberHere 30 = .ok (.istore_n 3, 1) := by decide +kernel
theorem dX9_numberHere_31 : decode cX9_numberHere 31 = .ok (.iconst 0, 1) := by decide +kernel
theorem dX9_numberHere_32 : decode cX9_numberHere 32 = .ok (.istore 4, 2) := by decide +kernel
theorem dX9_numberHere_34 : decode cX9_numberHere 34 = .ok (.aload_n 0, 1) := by decide +kernel
theorem dX9_numberHere_35 : decode cX9_numberHere 35 = .ok (.aload_n 0, 1) := by decide +kernel
theorem dX9_numberHere_36 : decode cX9_numberHere 36 = .ok (.getfield 90, 3) := by decide +kernel
theorem dX9_numberHere_39 : decode cX9_numberHere 39 = .ok (.invokevirtual 108, 3) := by decide +kernel
theorem dX9_numberHere_42 : decode cX9_numberHere 42 = .ok (.ifCond .eq 46, 3) := by decide +kernel
theorem dX9_numberHere_45 : decode cX9_numberHere 45 = .ok (.aload_n 0, 1) := by decide +kernel
theorem dX9_numberHere_46 : decode cX9_numberHere 46 = .ok (.getfield 90, 3) := by decide +kernel
theorem dX9_numberHere_49 : decode cX9_numberHere 49 = .ok (.iload_n 3, 1) := by decide +kernel
theorem dX9_numberHere_50 : decode cX9_numberHere 50 = .ok (.isub, 1) := by decide +kernel
theorem dX9_numberHere_51 : decode cX9_numberHere 51 = .ok (.iconst 5, 1) := by decide +kernel
theorem dX9_numberHere_52 : decode cX9_numberHere 52 = .ok (.if_icmp .ge 23, 3) := by decide +kernel
theorem dX9_numberHere_55 : decode cX9_numberHere 55 = .ok (.bipush 10, 2) := by decide +kernel
theorem dX9_numberHere_57 : decode cX9_numberHere 57 = .ok (.iload 4, 2) := by decide +kernel
theorem dX9_numberHere_59 : decode cX9_numberHere 59 = .ok (.imul, 1) := by decide +kernel
theorem dX9_numberHere_60 : decode cX9_numberHere 60 = .ok (.aload_n 0, 1) := by decide +kernel
theorem dX9_numberHere_61 : decode cX9_numberHere 61 = .ok (.getfield 7, 3) := by decide +kernel
theorem dX9_numberHere_64 : decode cX9_numberHere 64 = .ok (.aload_n 0, 1) := by decide +kernel
theorem dX9_numberHere_65 : decode cX9_numberHere 65 = .ok (.getfield 90, 3) := by decide +kernel
theorem dX9_numberHere_68 : decode cX9_numberHere 68 = .ok (.baload, 1) := by decide +kernel
theorem dX9_numberHere_69 : decode cX9_numberHere 69 = .ok (.iadd, 1) := by decide +kernel
theorem dX9_numberHere_70 : decode cX9_numberHere 70 = .ok (.bipush 48, 2) := by decide +kernel
theorem dX9_numberHere_72 : decode cX9_numberHere 72 = .ok (.isub, 1) := by decide +kernel
theorem dX9_numberHere_73 : decode cX9_numberHere 73 = .ok (.istore 4, 2) := by decide +kernel
theorem dX9_numberHere_75 : decode cX9_numberHere 75 = .ok (.aload_n 0, 1) := by decide +kernel
theorem dX9_numberHere_76 : decode cX9_numberHere 76 = .ok (.dup, 1) := by decide +kernel
theorem dX9_numberHere_77 : decode cX9_numberHere 77 = .ok (.getfield 90, 3) := by decide +kernel
theorem dX9_numberHere_80 : decode cX9_numberHere 80 = .ok (.iconst 1, 1) := by decide +kernel
theorem dX9_numberHere_81 : decode cX9_numberHere 81 = .ok (.iadd, 1) := by decide +kernel
theorem dX9_numberHere_82 : decode cX9_numberHere 82 = .ok (.putfield 90, 3) := by decide +kernel
theorem dX9_numberHere_85 : decode cX9_numberHere 85 = .ok (.goto (-51), 3) := by decide +kernel
theorem dX9_numberHere_88 : decode cX9_numberHere 88 = .ok (.aload_n 0, 1) := by decide +kernel
theorem dX9_numberHere_89 : decode cX9_numberHere 89 = .ok (.iload 4, 2) := by decide +kernel
theorem dX9_numberHere_91 : decode cX9_numberHere 91 = .ok (.putfield 115, 3) := by decide +kernel
theorem dX9_numberHere_94 : decode cX9_numberHere 94 = .ok (.aload_n 0, 1) := by decide +kernel
theorem dX9_numberHere_95 : decode cX9_numberHere 95 = .ok (.getfield 90, 3) := by decide +kernel
theorem dX9_numberHere_98 : decode cX9_numberHere 98 = .ok (.iload_n 3, 1) := by decide +kernel
theorem dX9_numberHere_99 : decode cX9_numberHere 99 = .ok (.isub, 1) := by decide +kernel
theorem dX9_numberHere_100 : decode cX9_numberHere 100 = .ok (.iconst 5, 1) := by decide +kernel
theorem dX9_numberHere_101 : decode cX9_numberHere 101 = .ok (.if_icmp .gt 16, 3) := by decide +kernel
theorem dX9_numberHere_104 : decode cX9_numberHere 104 = .ok (.iload 4, 2) := by decide +kernel
theorem dX9_numberHere_106 : decode cX9_numberHere 106 = .ok (.i2l, 1) := by decide +kernel
theorem dX9_numberHere_107 : decode cX9_numberHere 107 = .ok (.iload_n 1, 1) := by decide +kernel
theorem dX9_numberHere_108 : decode cX9_numberHere 108 = .ok (.i2l, 1) := by decide +kernel
theorem dX9_numberHere_109 : decode cX9_numberHere 109 = .ok (.iload_n 2, 1) := by decide +kernel
theorem dX9_numberHere_110 : decode cX9_numberHere 110 = .ok (.i2l, 1) := by decide +kernel
theorem dX9_numberHere_111 : decode cX9_numberHere 111 = .ok (.invokestatic 118, 3) := by decide +kernel
theorem dX9_numberHere_114 : decode cX9_numberHere 114 = .ok (.ifCond .ne 12, 3) := by decide +kernel
theorem dX9_numberHere_117 : decode cX9_numberHere 117 = .ok (.aload_n 0, 1) := by decide +kernel
theorem dX9_numberHere_118 : decode cX9_numberHere 118 = .ok (.iconst 1, 1) := by decide +kernel
theorem dX9_numberHere_119 : decode cX9_numberHere 119 = .ok (.iload_n 3, 1) := by decide +kernel
theorem dX9_numberHere_120 : decode cX9_numberHere 120 = .ok (.invokevirtual 111, 3) := by decide +kernel
theorem dX9_numberHere_123 : decode cX9_numberHere 123 = .ok (.ifCond .eq 7, 3) := by decide +kernel
theorem dX9_numberHere_126 : decode cX9_numberHere 126 = .ok (.iconst 1, 1) := by decide +kernel
theorem dX9_numberHere_127 : decode cX9_numberHere 127 = .ok (.goto 4, 3) := by decide +kernel
theorem dX9_numberHere_130 : decode cX9_numberHere 130 = .ok (.iconst 0, 1) := by decide +kernel
theorem dX9_numberHere_131 : decode cX9_numberHere 131 = .ok (.ireturn, 1) := by decide +kernel
theorem dX9_one_0 : decode cX9_one 0 = .ok (.iload_n 0, 1) := by decide +kernel
theorem dX9_one_1 : decode cX9_one 1 = .ok (.tableswitch 149 2 12 #[59, 63, 67, 71, 85, 97, 109, 121, 133, 149, 145], 59) := by decide +kernel
theorem dX9_one_60 : decode cX9_one 60 = .ok (.lload_n 1, 1) := by decide +kernel
theorem dX9_one_61 : decode cX9_one 61 = .ok (.lload_n 3, 1) := by decide +kernel
theorem dX9_one_62 : decode cX9_one 62 = .ok (.ladd, 1) := by decide +kernel
theorem dX9_one_63 : decode cX9_one 63 = .ok (.lreturn, 1) := by decide +kernel
theorem dX9_one_64 : decode cX9_one 64 = .ok (.lload_n 1, 1) := by decide +kernel
theorem dX9_one_65 : decode cX9_one 65 = .ok (.lload_n 3, 1) := by decide +kernel
theorem dX9_one_66 : decode cX9_one 66 = .ok (.lsub, 1) := by decide +kernel
theorem dX9_one_67 : decode cX9_one 67 = .ok (.lreturn, 1) := by decide +kernel
theorem dX9_one_68 : decode cX9_one 68 = .ok (.lload_n 1, 1) := by decide +kernel
theorem dX9_one_69 : decode cX9_one 69 = .ok (.lload_n 3, 1) := by decide +kernel
theorem dX9_one_70 : decode cX9_one 70 = .ok (.lmul, 1) := by decide +kernel
theorem dX9_one_71 : decode cX9_one 71 = .ok (.lreturn, 1) := by decide +kernel
theorem dX9_one_72 : decode cX9_one 72 = .ok (.lload_n 3, 1) := by decide +kernel
theorem dX9_one_73 : decode cX9_one 73 = .ok (.lconst 0, 1) := by decide +kernel
theorem dX9_one_74 : decode cX9_one 74 = .ok (.lcmp, 1) := by decide +kernel
theorem dX9_one_75 : decode cX9_one 75 = .ok (.ifCond .ne 7, 3) := by decide +kernel
theorem dX9_one_78 : decode cX9_one 78 = .ok (.lconst 0, 1) := by decide +kernel
theorem dX9_one_79 : decode cX9_one 79 = .ok (.goto 6, 3) := by decide +kernel
theorem dX9_one_82 : decode cX9_one 82 = .ok (.lload_n 1, 1) := by decide +kernel
theorem dX9_one_83 : decode cX9_one 83 = .ok (.lload_n 3, 1) := by decide +kernel
theorem dX9_one_84 : decode cX9_one 84 = .ok (.ldiv, 1) := by decide +kernel
theorem dX9_one_85 : decode cX9_one 85 = .ok (.lreturn, 1) := by decide +kernel
theorem dX9_one_86 : decode cX9_one 86 = .ok (.lload_n 1, 1) := by decide +kernel
theorem dX9_one_87 : decode cX9_one 87 = .ok (.lload_n 3, 1) := by decide +kernel
theorem dX9_one_88 : decode cX9_one 88 = .ok (.lcmp, 1) := by decide +kernel
theorem dX9_one_89 : decode cX9_one 89 = .ok (.ifCond .ge 7, 3) := by decide +kernel
theorem dX9_one_92 : decode cX9_one 92 = .ok (.lconst 1, 1) := by decide +kernel
theorem dX9_one_93 : decode cX9_one 93 = .ok (.goto 4, 3) := by decide +kernel
theorem dX9_one_96 : decode cX9_one 96 = .ok (.lconst 0, 1) := by decide +kernel
theorem dX9_one_97 : decode cX9_one 97 = .ok (.lreturn, 1) := by decide +kernel
theorem dX9_one_98 : decode cX9_one 98 = .ok (.lload_n 1, 1) := by decide +kernel
theorem dX9_one_99 : decode cX9_one 99 = .ok (.lload_n 3, 1) := by decide +kernel
theorem dX9_one_100 : decode cX9_one 100 = .ok (.lcmp, 1) := by decide +kernel
theorem dX9_one_101 : decode cX9_one 101 = .ok (.ifCond .gt 7, 3) := by decide +kernel
theorem dX9_one_104 : decode cX9_one 104 = .ok (.lconst 1, 1) := by decide +kernel
theorem dX9_one_105 : decode cX9_one 105 = .ok (.goto 4, 3) := by decide +kernel
theorem dX9_one_108 : decode cX9_one 108 = .ok (.lconst 0, 1) := by decide +kernel
theorem dX9_one_109 : decode cX9_one 109 = .ok (.lreturn, 1) := by decide +kernel
theorem dX9_one_110 : decode cX9_one 110 = .ok (.lload_n 1, 1) := by decide +kernel
theorem dX9_one_111 : decode cX9_one 111 = .ok (.lload_n 3, 1) := by decide +kernel
theorem dX9_one_112 : decode cX9_one 112 = .ok (.lcmp, 1) := by decide +kernel
theorem dX9_one_113 : decode cX9_one 113 = .ok (.ifCond .ne 7, 3) := by decide +kernel
theorem dX9_one_116 : decode cX9_one 116 = .ok (.lconst 1, 1) := by decide +kernel
theorem dX9_one_117 : decode cX9_one 117 = .ok (.goto 4, 3) := by decide +kernel
theorem dX9_one_120 : decode cX9_one 120 = .ok (.lconst 0, 1) := by decide +kernel
theorem dX9_one_121 : decode cX9_one 121 = .ok (.lreturn, 1) := by decide +kernel
theorem dX9_one_122 : decode cX9_one 122 = .ok (.lload_n 1, 1) := by decide +kernel
theorem dX9_one_123 : decode cX9_one 123 = .ok (.lload_n 3, 1) := by decide +kernel
theorem dX9_one_124 : decode cX9_one 124 = .ok (.lcmp, 1) := by decide +kernel
theorem dX9_one_125 : decode cX9_one 125 = .ok (.ifCond .lt 7, 3) := by decide +kernel
theorem dX9_one_128 : decode cX9_one 128 = .ok (.lconst 1, 1) := by decide +kernel
theorem dX9_one_129 : decode cX9_one 129 = .ok (.goto 4, 3) := by decide +kernel
theorem dX9_one_132 : decode cX9_one 132 = .ok (.lconst 0, 1) := by decide +kernel
theorem dX9_one_133 : decode cX9_one 133 = .ok (.lreturn, 1) := by decide +kernel
theorem dX9_one_134 : decode cX9_one 134 = .ok (.lload_n 1, 1) := by decide +kernel
theorem dX9_one_135 : decode cX9_one 135 = .ok (.lload_n 3, 1) := by decide +kernel
theorem dX9_one_136 : decode cX9_one 136 = .ok (.lcmp, 1) := by decide +kernel
theorem dX9_one_137 : decode cX9_one 137 = .ok (.ifCond .le 7, 3) := by decide +kernel
theorem dX9_one_140 : decode cX9_one 140 = .ok (.lconst 1, 1) := by decide +kernel
theorem dX9_one_141 : decode cX9_one 141 = .ok (.goto 4, 3) := by decide +kernel
theorem dX9_one_144 : decode cX9_one 144 = .ok (.lconst 0, 1) := by decide +kernel
theorem dX9_one_145 : decode cX9_one 145 = .ok (.lreturn, 1) := by decide +kernel
theorem dX9_one_146 : decode cX9_one 146 = .ok (.lload_n 1, 1) := by decide +kernel
theorem dX9_one_147 : decode cX9_one 147 = .ok (.lload_n 3, 1) := by decide +kernel
theorem dX9_one_148 : decode cX9_one 148 = .ok (.land, 1) := by decide +kernel
theorem dX9_one_149 : decode cX9_one 149 = .ok (.lreturn, 1) := by decide +kernel
theorem dX9_one_150 : decode cX9_one 150 = .ok (.lload_n 1, 1) := by decide +kernel
theorem dX9_one_151 : decode cX9_one 151 = .ok (.lload_n 3, 1) := by decide +kernel
theorem dX9_one_152 : decode cX9_one 152 = .ok (.lor, 1) := by decide +kernel
theorem dX9_one_153 : decode cX9_one 153 = .ok (.lreturn, 1) := by decide +kernel
theorem dX9_opens_0 : decode cX9_opens 0 = .ok (.aload_n 0, 1) := by decide +kernel
theorem dX9_opens_1 : decode cX9_opens 1 = .ok (.getfield 146, 3) := by decide +kernel
theorem dX9_opens_4 : decode cX9_opens 4 = .ok (.bipush 10, 2) := by decide +kernel
theorem dX9_opens_6 : decode cX9_opens 6 = .ok (.if_icmp .ne 13, 3) := by decide +kernel
theorem dX9_opens_9 : decode cX9_opens 9 = .ok (.aload_n 0, 1) := by decide +kernel
theorem dX9_opens_10 : decode cX9_opens 10 = .ok (.iconst 2, 1) := by decide +kernel
theorem dX9_opens_11 : decode cX9_opens 11 = .ok (.aload_n 0, 1) := by decide +kernel
theorem dX9_opens_12 : decode cX9_opens 12 = .ok (.getfield 90, 3) := by decide +kernel
theorem dX9_opens_15 : decode cX9_opens 15 = .ok (.invokevirtual 111, 3) := by decide +kernel
theorem dX9_opens_18 : decode cX9_opens 18 = .ok (.ireturn, 1) := by decide +kernel
theorem dX9_opens_19 : decode cX9_opens 19 = .ok (.aload_n 0, 1) := by decide +kernel
theorem dX9_opens_20 : decode cX9_opens 20 = .ok (.dup, 1) := by decide +kernel
theorem dX9_opens_21 : decode cX9_opens 21 = .ok (.getfield 146, 3) := by decide +kernel
theorem dX9_opens_24 : decode cX9_opens 24 = .ok (.iconst 1, 1) := by decide +kernel
theorem dX9_opens_25 : decode cX9_opens 25 = .ok (.iadd, 1) := by decide +kernel
theorem dX9_opens_26 : decode cX9_opens 26 = .ok (.putfield 146, 3) := by decide +kernel
theorem dX9_opens_29 : decode cX9_opens 29 = .ok (.aload_n 0, 1) := by decide +kernel
theorem dX9_opens_30 : decode cX9_opens 30 = .ok (.getfield 32, 3) := by decide +kernel
theorem dX9_opens_33 : decode cX9_opens 33 = .ok (.aload_n 0, 1) := by decide +kernel
theorem dX9_opens_34 : decode cX9_opens 34 = .ok (.getfield 149, 3) := by decide +kernel
theorem dX9_opens_37 : decode cX9_opens 37 = .ok (.iload_n 1, 1) := by decide +kernel
theorem dX9_opens_38 : decode cX9_opens 38 = .ok (.iastore, 1) := by decide +kernel
theorem dX9_opens_39 : decode cX9_opens 39 = .ok (.aload_n 0, 1) := by decide +kernel
theorem dX9_opens_40 : decode cX9_opens 40 = .ok (.dup, 1) := by decide +kernel
theorem dX9_opens_41 : decode cX9_opens 41 = .ok (.getfield 149, 3) := by decide +kernel
theorem dX9_opens_44 : decode cX9_opens 44 = .ok (.iconst 1, 1) := by decide +kernel
theorem dX9_opens_45 : decode cX9_opens 45 = .ok (.iadd, 1) := by decide +kernel
theorem dX9_opens_46 : decode cX9_opens 46 = .ok (.putfield 149, 3) := by decide +kernel
theorem dX9_opens_49 : decode cX9_opens 49 = .ok (.iconst 1, 1) := by decide +kernel
theorem dX9_opens_50 : decode cX9_opens 50 = .ok (.ireturn, 1) := by decide +kernel
theorem dX9_partOf_0 : decode cX9_partOf 0 = .ok (.iload 5, 2) := by decide +kernel
theorem dX9_partOf_2 : decode cX9_partOf 2 = .ok (.ifCond .ne 7, 3) := by decide +kernel
theorem dX9_partOf_5 : decode cX9_partOf 5 = .ok (.lload_n 1, 1) := by decide +kernel
theorem dX9_partOf_6 : decode cX9_partOf 6 = .ok (.goto 4, 3) := by decide +kernel
theorem dX9_partOf_9 : decode cX9_partOf 9 = .ok (.lload_n 3, 1) := by decide +kernel
theorem dX9_partOf_10 : decode cX9_partOf 10 = .ok (.lload_n 1, 1) := by decide +kernel
theorem dX9_partOf_11 : decode cX9_partOf 11 = .ok (.lload_n 3, 1) := by decide +kernel
theorem dX9_partOf_12 : decode cX9_partOf 12 = .ok (.invokestatic 358, 3) := by decide +kernel
theorem dX9_partOf_15 : decode cX9_partOf 15 = .ok (.ldiv, 1) := by decide +kernel
theorem dX9_partOf_16 : decode cX9_partOf 16 = .ok (.lreturn, 1) := by decide +kernel
theorem dX9_passWord_0 : decode cX9_passWord 0 = .ok (.aload_n 0, 1) := by decide +kernel
theorem dX9_passWord_1 : decode cX9_passWord 1 = .ok (.aload_n 0, 1) := by decide +kernel
theorem dX9_passWord_2 : decode cX9_passWord 2 = .ok (.getfield 90, 3) := by decide +kernel
theorem dX9_passWord_5 : decode cX9_passWord 5 = .ok (.invokevirtual 97, 3) := by decide +kernel
theorem dX9_passWord_8 : decode cX9_passWord 8 = .ok (.ifCond .eq 16, 3) := by decide +kernel
theorem dX9_passWord_11 : decode cX9_passWord 11 = .ok (.aload_n 0, 1) := by decide +kernel
theorem dX9_passWord_12 : decode cX9_passWord 12 = .ok (.dup, 1) := by decide +kernel
theorem dX9_passWord_13 : decode cX9_passWord 13 = .ok (.getfield 90, 3) := by decide +kernel
theorem dX9_passWord_16 : decode cX9_passWord 16 = .ok (.iconst 1, 1) := by decide +kernel
theorem dX9_passWord_17 : decode cX9_passWord 17 = .ok (.iadd, 1) := by decide +kernel
theorem dX9_passWord_18 : decode cX9_passWord 18 = .ok (.putfield 90, 3) := by decide +kernel
theorem dX9_passWord_21 : decode cX9_passWord 21 = .ok (.goto (-21), 3) := by decide +kernel
theorem dX9_passWord_24 : decode cX9_passWord 24 = .ok (.return_, 1) := by decide +kernel
theorem dX9_passes_0 : decode cX9_passes 0 = .ok (.iconst 0, 1) := by decide +kernel
theorem dX9_passes_1 : decode cX9_passes 1 = .ok (.istore_n 2, 1) := by decide +kernel
theorem dX9_passes_2 : decode cX9_passes 2 = .ok (.iload_n 2, 1) := by decide +kernel
theorem dX9_passes_3 : decode cX9_passes 3 = .ok (.sipush 200, 3) := by decide +kernel
theorem dX9_passes_6 : decode cX9_passes 6 = .ok (.if_icmp .ge 27, 3) := by decide +kernel
theorem dX9_passes_9 : decode cX9_passes 9 = .ok (.aload_n 0, 1) := by decide +kernel
theorem dX9_passes_10 : decode cX9_passes 10 = .ok (.iload_n 1, 1) := by decide +kernel
theorem dX9_passes_11 : decode cX9_passes 11 = .ok (.invokevirtual 332, 3) := by decide +kernel
theorem dX9_passes_14 : decode cX9_passes 14 = .ok (.istore_n 3, 1) := by decide +kernel
theorem dX9_passes_15 : decode cX9_passes 15 = .ok (.iload_n 3, 1) := by decide +kernel
theorem dX9_passes_16 : decode cX9_passes 16 = .ok (.ifCond .ge 5, 3) := by decide +kernel
theorem dX9_passes_19 : decode cX9_passes 19 = .ok (.iload_n 2, 1) := by decide +kernel
theorem dX9_passes_20 : decode cX9_passes 20 = .ok (.ireturn, 1) := by decide +kernel
theorem dX9_passes_21 : decode cX9_passes 21 = .ok (.aload_n 0, 1) := by decide +kernel
theorem dX9_passes_22 : decode cX9_passes 22 = .ok (.iload_n 3, 1) := by decide +kernel
theorem dX9_passes_23 : decode cX9_passes 23 = .ok (.invokevirtual 298, 3) := by decide +kernel
theorem dX9_passes_26 : decode cX9_passes 26 = .ok (.pop, 1) := by decide +kernel
theorem dX9_passes_27 : decode cX9_passes 27 = .ok (.iinc 2 1, 3) := by decide +kernel
theorem dX9_passes_30 : decode cX9_passes 30 = .ok (.goto (-28), 3) := by decide +kernel
theorem dX9_passes_33 : decode cX9_passes 33 = .ok (.iload_n 2, 1) := by decide +kernel
theorem dX9_passes_34 : decode cX9_passes 34 = .ok (.ireturn, 1) := by decide +kernel
theorem dX9_pop_0 : decode cX9_pop 0 = .ok (.aload_n 0, 1) := by decide +kernel
theorem dX9_pop_1 : decode cX9_pop 1 = .ok (.dup, 1) := by decide +kernel
theorem dX9_pop_2 : decode cX9_pop 2 = .ok (.getfield 253, 3) := by decide +kernel
theorem dX9_pop_5 : decode cX9_pop 5 = .ok (.iconst 1, 1) := by decide +kernel
theorem dX9_pop_6 : decode cX9_pop 6 = .ok (.isub, 1) := by decide +kernel
theorem dX9_pop_7 : decode cX9_pop 7 = .ok (.putfield 253, 3) := by decide +kernel
theorem dX9_pop_10 : decode cX9_pop 10 = .ok (.aload_n 0, 1) := by decide +kernel
theorem dX9_pop_11 : decode cX9_pop 11 = .ok (.getfield 35, 3) := by decide +kernel
theorem dX9_pop_14 : decode cX9_pop 14 = .ok (.aload_n 0, 1) := by decide +kernel
theorem dX9_pop_15 : decode cX9_pop 15 = .ok (.getfield 253, 3) := by decide +kernel
theorem dX9_pop_18 : decode cX9_pop 18 = .ok (.laload, 1) := by decide +kernel
theorem dX9_pop_19 : decode cX9_pop 19 = .ok (.lreturn, 1) := by decide +kernel
theorem dX9_push_0 : decode cX9_push 0 = .ok (.aload_n 0, 1) := by decide +kernel
theorem dX9_push_1 : decode cX9_push 1 = .ok (.getfield 35, 3) := by decide +kernel
theorem dX9_push_4 : decode cX9_push 4 = .ok (.aload_n 0, 1) := by decide +kernel
theorem dX9_push_5 : decode cX9_push 5 = .ok (.getfield 253, 3) := by decide +kernel
theorem dX9_push_8 : decode cX9_push 8 = .ok (.lload_n 1, 1) := by decide +kernel
theorem dX9_push_9 : decode cX9_push 9 = .ok (.lastore, 1) := by decide +kernel
theorem dX9_push_10 : decode cX9_push 10 = .ok (.aload_n 0, 1) := by decide +kernel
theorem dX9_push_11 : decode cX9_push 11 = .ok (.dup, 1) := by decide +kernel
theorem dX9_push_12 : decode cX9_push 12 = .ok (.getfield 253, 3) := by decide +kernel
theorem dX9_push_15 : decode cX9_push 15 = .ok (.iconst 1, 1) := by decide +kernel
theorem dX9_push_16 : decode cX9_push 16 = .ok (.iadd, 1) := by decide +kernel
theorem dX9_push_17 : decode cX9_push 17 = .ok (.putfield 253, 3) := by decide +kernel
theorem dX9_push_20 : decode cX9_push 20 = .ok (.return_, 1) := by decide +kernel
theorem dX9_puts_0 : decode cX9_puts 0 = .ok (.aload_n 0, 1) := by decide +kernel
theorem dX9_puts_1 : decode cX9_puts 1 = .ok (.getfield 13, 3) := by decide +kernel
theorem dX9_puts_4 : decode cX9_puts 4 = .ok (.sipush 400, 3) := by decide +kernel
theorem dX9_puts_7 : decode cX9_puts 7 = .ok (.aload_n 0, 1) := by decide +kernel
theorem dX9_puts_8 : decode cX9_puts 8 = .ok (.getfield 140, 3) := by decide +kernel
theorem dX9_puts_11 : decode cX9_puts 11 = .ok (.imul, 1) := by decide +kernel
theorem dX9_puts_12 : decode cX9_puts 12 = .ok (.aload_n 0, 1) := by decide +kernel
theorem dX9_puts_13 : decode cX9_puts 13 = .ok (.getfield 17, 3) := by decide +kernel
theorem dX9_puts_16 : decode cX9_puts 16 = .ok (.aload_n 0, 1) := by decide +kernel
theorem dX9_puts_17 : decode cX9_puts 17 = .ok (.getfield 140, 3) := by decide +kernel
theorem dX9_puts_20 : decode cX9_puts 20 = .ok (.iaload, 1) := by decide +kernel
theorem dX9_puts_21 : decode cX9_puts 21 = .ok (.iadd, 1) := by decide +kernel
theorem dX9_puts_22 : decode cX9_puts 22 = .ok (.iload_n 1, 1) := by decide +kernel
theorem dX9_puts_23 : decode cX9_puts 23 = .ok (.bipush 16, 2) := by decide +kernel
theorem dX9_puts_25 : decode cX9_puts 25 = .ok (.iload_n 2, 1) := by decide +kernel
theorem dX9_puts_26 : decode cX9_puts 26 = .ok (.imul, 1) := by decide +kernel
theorem dX9_puts_27 : decode cX9_puts 27 = .ok (.iadd, 1) := by decide +kernel
theorem dX9_puts_28 : decode cX9_puts 28 = .ok (.iastore, 1) := by decide +kernel
theorem dX9_puts_29 : decode cX9_puts 29 = .ok (.aload_n 0, 1) := by decide +kernel
theorem dX9_puts_30 : decode cX9_puts 30 = .ok (.getfield 17, 3) := by decide +kernel
theorem dX9_puts_33 : decode cX9_puts 33 = .ok (.aload_n 0, 1) := by decide +kernel
theorem dX9_puts_34 : decode cX9_puts 34 = .ok (.getfield 140, 3) := by decide +kernel
theorem dX9_puts_37 : decode cX9_puts 37 = .ok (.dup2, 1) := by decide +kernel
theorem dX9_puts_38 : decode cX9_puts 38 = .ok (.iaload, 1) := by decide +kernel
theorem dX9_puts_39 : decode cX9_puts 39 = .ok (.iconst 1, 1) := by decide +kernel
theorem dX9_puts_40 : decode cX9_puts 40 = .ok (.iadd, 1) := by decide +kernel
theorem dX9_puts_41 : decode cX9_puts 41 = .ok (.iastore, 1) := by decide +kernel
theorem dX9_puts_42 : decode cX9_puts 42 = .ok (.return_, 1) := by decide +kernel
theorem dX9_putsBack_0 : decode cX9_putsBack 0 = .ok (.iconst 0, 1) := by decide +kernel
theorem dX9_putsBack_1 : decode cX9_putsBack 1 = .ok (.istore_n 1, 1) := by decide +kernel
theorem dX9_putsBack_2 : decode cX9_putsBack 2 = .ok (.iload_n 1, 1) := by decide +kernel
theorem dX9_putsBack_3 : decode cX9_putsBack 3 = .ok (.bipush 104, 2) := by decide +kernel
theorem dX9_putsBack_5 : decode cX9_putsBack 5 = .ok (.if_icmp .ge 21, 3) := by decide +kernel
theorem dX9_putsBack_8 : decode cX9_putsBack 8 = .ok (.aload_n 0, 1) := by decide +kernel
theorem dX9_putsBack_9 : decode cX9_putsBack 9 = .ok (.getfield 42, 3) := by decide +kernel
theorem dX9_putsBack_12 : decode cX9_putsBack 12 = .ok (.iload_n 1, 1) := by decide +kernel
theorem dX9_putsBack_13 : decode cX9_putsBack 13 = .ok (.aload_n 0, 1) := by decide +kernel
theorem dX9_putsBack_14 : decode cX9_putsBack 14 = .ok (.getfield 45, 3) := by decide +kernel
theorem dX9_putsBack_17 : decode cX9_putsBack 17 = .ok (.iload_n 1, 1) := by decide +kernel
theorem dX9_putsBack_18 : decode cX9_putsBack 18 = .ok (.iaload, 1) := by decide +kernel
theorem dX9_putsBack_19 : decode cX9_putsBack 19 = .ok (.iastore, 1) := by decide +kernel
theorem dX9_putsBack_20 : decode cX9_putsBack 20 = .ok (.iinc 1 1, 3) := by decide +kernel
theorem dX9_putsBack_23 : decode cX9_putsBack 23 = .ok (.goto (-21), 3) := by decide +kernel
theorem dX9_putsBack_26 : decode cX9_putsBack 26 = .ok (.return_, 1) := by decide +kernel
theorem dX9_readsAll_0 : decode cX9_readsAll 0 = .ok (.aload_n 0, 1) := by decide +kernel
theorem dX9_readsAll_1 : decode cX9_readsAll 1 = .ok (.getfield 17, 3) := by decide +kernel
theorem dX9_readsAll_4 : decode cX9_readsAll 4 = .ok (.aload_n 0, 1) := by decide +kernel
theorem dX9_readsAll_5 : decode cX9_readsAll 5 = .ok (.getfield 140, 3) := by decide +kernel
theorem dX9_readsAll_8 : decode cX9_readsAll 8 = .ok (.iconst 0, 1) := by decide +kernel
theorem dX9_readsAll_9 : decode cX9_readsAll 9 = .ok (.iastore, 1) := by decide +kernel
theorem dX9_readsAll_10 : decode cX9_readsAll 10 = .ok (.aload_n 0, 1) := by decide +kernel
theorem dX9_readsAll_11 : decode cX9_readsAll 11 = .ok (.iconst 0, 1) := by decide +kernel
theorem dX9_readsAll_12 : decode cX9_readsAll 12 = .ok (.putfield 229, 3) := by decide +kernel
theorem dX9_readsAll_15 : decode cX9_readsAll 15 = .ok (.aload_n 0, 1) := by decide +kernel
theorem dX9_readsAll_16 : decode cX9_readsAll 16 = .ok (.iconst 0, 1) := by decide +kernel
theorem dX9_readsAll_17 : decode cX9_readsAll 17 = .ok (.putfield 90, 3) := by decide +kernel
theorem dX9_readsAll_20 : decode cX9_readsAll 20 = .ok (.aload_n 0, 1) := by decide +kernel
theorem dX9_readsAll_21 : decode cX9_readsAll 21 = .ok (.iconst 0, 1) := by decide +kernel
theorem dX9_readsAll_22 : decode cX9_readsAll 22 = .ok (.putfield 87, 3) := by decide +kernel
theorem dX9_readsAll_25 : decode cX9_readsAll 25 = .ok (.aload_n 0, 1) := by decide +kernel
theorem dX9_readsAll_26 : decode cX9_readsAll 26 = .ok (.iconst 0, 1) := by decide +kernel
theorem dX9_readsAll_27 : decode cX9_readsAll 27 = .ok (.putfield 143, 3) := by decide +kernel
theorem dX9_readsAll_30 : decode cX9_readsAll 30 = .ok (.aload_n 0, 1) := by decide +kernel
theorem dX9_readsAll_31 : decode cX9_readsAll 31 = .ok (.invokevirtual 244, 3) := by decide +kernel
theorem dX9_readsAll_34 : decode cX9_readsAll 34 = .ok (.istore_n 1, 1) := by decide +kernel
theorem dX9_readsAll_35 : decode cX9_readsAll 35 = .ok (.iload_n 1, 1) := by decide +kernel
theorem dX9_readsAll_36 : decode cX9_readsAll 36 = .ok (.ifCond .eq 30, 3) := by decide +kernel
theorem dX9_readsAll_39 : decode cX9_readsAll 39 = .ok (.aload_n 0, 1) := by decide +kernel
theorem dX9_readsAll_40 : decode cX9_readsAll 40 = .ok (.invokevirtual 93, 3) := by decide +kernel
theorem dX9_readsAll_43 : decode cX9_readsAll 43 = .ok (.bipush 59, 2) := by decide +kernel
theorem dX9_readsAll_45 : decode cX9_readsAll 45 = .ok (.if_icmp .ne 21, 3) := by decide +kernel
theorem dX9_readsAll_48 : decode cX9_readsAll 48 = .ok (.aload_n 0, 1) := by decide +kernel
theorem dX9_readsAll_49 : decode cX9_readsAll 49 = .ok (.dup, 1) := by decide +kernel
theorem dX9_readsAll_50 : decode cX9_readsAll 50 = .ok (.getfield 90, 3) := by decide +kernel
theorem dX9_readsAll_53 : decode cX9_readsAll 53 = .ok (.iconst 1, 1) := by decide +kernel
theorem dX9_readsAll_54 : decode cX9_readsAll 54 = .ok (.iadd, 1) := by decide +kernel
theorem dX9_readsAll_55 : decode cX9_readsAll 55 = .ok (.putfield 90, 3) := by decide +kernel
theorem dX9_readsAll_58 : decode cX9_readsAll 58 = .ok (.aload_n 0, 1) := by decide +kernel
theorem dX9_readsAll_59 : decode cX9_readsAll 59 = .ok (.invokevirtual 244, 3) := by decide +kernel
theorem dX9_readsAll_62 : decode cX9_readsAll 62 = .ok (.istore_n 1, 1) := by decide +kernel
theorem dX9_readsAll_63 : decode cX9_readsAll 63 = .ok (.goto (-28), 3) := by decide +kernel
theorem dX9_readsAll_66 : decode cX9_readsAll 66 = .ok (.iload_n 1, 1) := by decide +kernel
theorem dX9_readsAll_67 : decode cX9_readsAll 67 = .ok (.ifCond .eq 21, 3) := by decide +kernel
theorem dX9_readsAll_70 : decode cX9_readsAll 70 = .ok (.aload_n 0, 1) := by decide +kernel
theorem dX9_readsAll_71 : decode cX9_readsAll 71 = .ok (.invokevirtual 93, 3) := by decide +kernel
theorem dX9_readsAll_74 : decode cX9_readsAll 74 = .ok (.iconst (-1), 1) := by decide +kernel
theorem dX9_readsAll_75 : decode cX9_readsAll 75 = .ok (.if_icmp .eq 13, 3) := by decide +kernel
theorem dX9_readsAll_78 : decode cX9_readsAll 78 = .ok (.aload_n 0, 1) := by decide +kernel
theorem dX9_readsAll_79 : decode cX9_readsAll 79 = .ok (.iconst 0, 1) := by decide +kernel
theorem dX9_readsAll_80 : decode cX9_readsAll 80 = .ok (.aload_n 0, 1) := by decide +kernel
theorem dX9_readsAll_81 : decode cX9_readsAll 81 = .ok (.getfield 90, 3) := by decide +kernel
theorem dX9_readsAll_84 : decode cX9_readsAll 84 = .ok (.invokevirtual 111, 3) := by decide +kernel
theorem dX9_readsAll_87 : decode cX9_readsAll 87 = .ok (.istore_n 1, 1) := by decide +kernel
theorem dX9_readsAll_88 : decode cX9_readsAll 88 = .ok (.iload_n 1, 1) := by decide +kernel
theorem dX9_readsAll_89 : decode cX9_readsAll 89 = .ok (.ifCond .eq 29, 3) := by decide +kernel
theorem dX9_readsAll_92 : decode cX9_readsAll 92 = .ok (.aload_n 0, 1) := by decide +kernel
theorem dX9_readsAll_93 : decode cX9_readsAll 93 = .ok (.getfield 140, 3) := by decide +kernel
theorem dX9_readsAll_96 : decode cX9_readsAll 96 = .ok (.bipush 6, 2) := by decide +kernel
theorem dX9_readsAll_98 : decode cX9_readsAll 98 = .ok (.if_icmp .ne 20, 3) := by decide +kernel
theorem dX9_readsAll_101 : decode cX9_readsAll 101 = .ok (.aload_n 0, 1) := by decide +kernel
theorem dX9_readsAll_102 : decode cX9_readsAll 102 = .ok (.getfield 218, 3) := by decide +kernel
theorem dX9_readsAll_105 : decode cX9_readsAll 105 = .ok (.ifCond .ne 13, 3) := by decide +kernel
theorem dX9_readsAll_108 : decode cX9_readsAll 108 = .ok (.aload_n 0, 1) := by decide +kernel
theorem dX9_readsAll_109 : decode cX9_readsAll 109 = .ok (.iconst 0, 1) := by decide +kernel
theorem dX9_readsAll_110 : decode cX9_readsAll 110 = .ok (.aload_n 0, 1) := by decide +kernel
theorem dX9_readsAll_111 : decode cX9_readsAll 111 = .ok (.getfield 90, 3) := by decide +kernel
theorem dX9_readsAll_114 : decode cX9_readsAll 114 = .ok (.invokevirtual 111, 3) := by decide +kernel
theorem dX9_readsAll_117 : decode cX9_readsAll 117 = .ok (.pop, 1) := by decide +kernel
theorem dX9_readsAll_118 : decode cX9_readsAll 118 = .ok (.aload_n 0, 1) := by decide +kernel
theorem dX9_readsAll_119 : decode cX9_readsAll 119 = .ok (.iconst 0, 1) := by decide +kernel
theorem dX9_readsAll_120 : decode cX9_readsAll 120 = .ok (.putfield 79, 3) := by decide +kernel
theorem dX9_readsAll_123 : decode cX9_readsAll 123 = .ok (.aload_n 0, 1) := by decide +kernel
theorem dX9_readsAll_124 : decode cX9_readsAll 124 = .ok (.getfield 87, 3) := by decide +kernel
theorem dX9_readsAll_127 : decode cX9_readsAll 127 = .ok (.ifCond .ne 7, 3) := by decide +kernel
theorem dX9_readsAll_130 : decode cX9_readsAll 130 = .ok (.iconst 1, 1) := by decide +kernel
theorem dX9_readsAll_131 : decode cX9_readsAll 131 = .ok (.goto 4, 3) := by decide +kernel
theorem dX9_readsAll_134 : decode cX9_readsAll 134 = .ok (.iconst 0, 1) := by decide +kernel
theorem dX9_readsAll_135 : decode cX9_readsAll 135 = .ok (.ireturn, 1) := by decide +kernel
theorem dX9_reckons_0 : decode cX9_reckons 0 = .ok (.aload_n 0, 1) := by decide +kernel
theorem dX9_reckons_1 : decode cX9_reckons 1 = .ok (.iconst 0, 1) := by decide +kernel
theorem dX9_reckons_2 : decode cX9_reckons 2 = .ok (.putfield 253, 3) := by decide +kernel
theorem dX9_reckons_5 : decode cX9_reckons 5 = .ok (.iload_n 2, 1) := by decide +kernel
theorem dX9_reckons_6 : decode cX9_reckons 6 = .ok (.istore 4, 2) := by decide +kernel
theorem dX9_reckons_8 : decode cX9_reckons 8 = .ok (.iload 4, 2) := by decide +kernel
theorem dX9_reckons_10 : decode cX9_reckons 10 = .ok (.iload_n 3, 1) := by decide +kernel
theorem dX9_reckons_11 : decode cX9_reckons 11 = .ok (.if_icmp .ge 124, 3) := by decide +kernel
theorem dX9_reckons_14 : decode cX9_reckons 14 = .ok (.aload_n 0, 1) := by decide +kernel
theorem dX9_reckons_15 : decode cX9_reckons 15 = .ok (.getfield 13, 3) := by decide +kernel
theorem dX9_reckons_18 : decode cX9_reckons 18 = .ok (.sipush 400, 3) := by decide +kernel
theorem dX9_reckons_21 : decode cX9_reckons 21 = .ok (.iload_n 1, 1) := by decide +kernel
theorem dX9_reckons_22 : decode cX9_reckons 22 = .ok (.imul, 1) := by decide +kernel
theorem dX9_reckons_23 : decode cX9_reckons 23 = .ok (.iload 4, 2) := by decide +kernel
theorem dX9_reckons_25 : decode cX9_reckons 25 = .ok (.iadd, 1) := by decide +kernel
theorem dX9_reckons_26 : decode cX9_reckons 26 = .ok (.iaload, 1) := by decide +kernel
theorem dX9_reckons_27 : decode cX9_reckons 27 = .ok (.bipush 15, 2) := by decide +kernel
theorem dX9_reckons_29 : decode cX9_reckons 29 = .ok (.iand, 1) := by decide +kernel
theorem dX9_reckons_30 : decode cX9_reckons 30 = .ok (.istore 5, 2) := by decide +kernel
theorem dX9_reckons_32 : decode cX9_reckons 32 = .ok (.aload_n 0, 1) := by decide +kernel
theorem dX9_reckons_33 : decode cX9_reckons 33 = .ok (.getfield 13, 3) := by decide +kernel
theorem dX9_reckons_36 : decode cX9_reckons 36 = .ok (.sipush 400, 3) := by decide +kernel
theorem dX9_reckons_39 : decode cX9_reckons 39 = .ok (.iload_n 1, 1) := by decide +kernel
