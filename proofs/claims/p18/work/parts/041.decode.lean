theorem dX1_weighSets_111 : decode cX1_weighSets 111 = .ok (.lcmp, 1) := by decide +kernel
theorem dX1_weighSets_112 : decode cX1_weighSets 112 = .ok (.ifCond .ne 20, 3) := by decide +kernel
theorem dX1_weighSets_115 : decode cX1_weighSets 115 = .ok (.iload 9, 2) := by decide +kernel
theorem dX1_weighSets_117 : decode cX1_weighSets 117 = .ok (.ifCond .eq 15, 3) := by decide +kernel
theorem dX1_weighSets_120 : decode cX1_weighSets 120 = .ok (.aload_n 0, 1) := by decide +kernel
theorem dX1_weighSets_121 : decode cX1_weighSets 121 = .ok (.iload 6, 2) := by decide +kernel
theorem dX1_weighSets_123 : decode cX1_weighSets 123 = .ok (.putfield 97, 3) := by decide +kernel
theorem dX1_weighSets_126 : decode cX1_weighSets 126 = .ok (.aload_n 0, 1) := by decide +kernel
theorem dX1_weighSets_127 : decode cX1_weighSets 127 = .ok (.lload 7, 2) := by decide +kernel
theorem dX1_weighSets_129 : decode cX1_weighSets 129 = .ok (.putfield 100, 3) := by decide +kernel
theorem dX1_weighSets_132 : decode cX1_weighSets 132 = .ok (.iinc 6 1, 3) := by decide +kernel
theorem dX1_weighSets_135 : decode cX1_weighSets 135 = .ok (.goto (-106), 3) := by decide +kernel
theorem dX1_weighSets_138 : decode cX1_weighSets 138 = .ok (.return_, 1) := by decide +kernel
theorem dX2_compares_0 : decode cX2_compares 0 = .ok (.iload_n 0, 1) := by decide +kernel
theorem dX2_compares_1 : decode cX2_compares 1 = .ok (.lookupswitch 91 #[(60, 43), (61, 67), (256, 55), (257, 79)], 43) := by decide +kernel
theorem dX2_compares_44 : decode cX2_compares 44 = .ok (.lload_n 1, 1) := by decide +kernel
theorem dX2_compares_45 : decode cX2_compares 45 = .ok (.lload_n 3, 1) := by decide +kernel
theorem dX2_compares_46 : decode cX2_compares 46 = .ok (.lcmp, 1) := by decide +kernel
theorem dX2_compares_47 : decode cX2_compares 47 = .ok (.ifCond .ge 7, 3) := by decide +kernel
theorem dX2_compares_50 : decode cX2_compares 50 = .ok (.iconst 1, 1) := by decide +kernel
theorem dX2_compares_51 : decode cX2_compares 51 = .ok (.goto 4, 3) := by decide +kernel
theorem dX2_compares_54 : decode cX2_compares 54 = .ok (.iconst 0, 1) := by decide +kernel
theorem dX2_compares_55 : decode cX2_compares 55 = .ok (.ireturn, 1) := by decide +kernel
theorem dX2_compares_56 : decode cX2_compares 56 = .ok (.lload_n 1, 1) := by decide +kernel
theorem dX2_compares_57 : decode cX2_compares 57 = .ok (.lload_n 3, 1) := by decide +kernel
theorem dX2_compares_58 : decode cX2_compares 58 = .ok (.lcmp, 1) := by decide +kernel
theorem dX2_compares_59 : decode cX2_compares 59 = .ok (.ifCond .gt 7, 3) := by decide +kernel
theorem dX2_compares_62 : decode cX2_compares 62 = .ok (.iconst 1, 1) := by decide +kernel
theorem dX2_compares_63 : decode cX2_compares 63 = .ok (.goto 4, 3) := by decide +kernel
theorem dX2_compares_66 : decode cX2_compares 66 = .ok (.iconst 0, 1) := by decide +kernel
theorem dX2_compares_67 : decode cX2_compares 67 = .ok (.ireturn, 1) := by decide +kernel
theorem dX2_compares_68 : decode cX2_compares 68 = .ok (.lload_n 1, 1) := by decide +kernel
theorem dX2_compares_69 : decode cX2_compares 69 = .ok (.lload_n 3, 1) := by decide +kernel
theorem dX2_compares_70 : decode cX2_compares 70 = .ok (.lcmp, 1) := by decide +kernel
theorem dX2_compares_71 : decode cX2_compares 71 = .ok (.ifCond .ne 7, 3) := by decide +kernel
theorem dX2_compares_74 : decode cX2_compares 74 = .ok (.iconst 1, 1) := by decide +kernel
theorem dX2_compares_75 : decode cX2_compares 75 = .ok (.goto 4, 3) := by decide +kernel
theorem dX2_compares_78 : decode cX2_compares 78 = .ok (.iconst 0, 1) := by decide +kernel
theorem dX2_compares_79 : decode cX2_compares 79 = .ok (.ireturn, 1) := by decide +kernel
theorem dX2_compares_80 : decode cX2_compares 80 = .ok (.lload_n 1, 1) := by decide +kernel
theorem dX2_compares_81 : decode cX2_compares 81 = .ok (.lload_n 3, 1) := by decide +kernel
theorem dX2_compares_82 : decode cX2_compares 82 = .ok (.lcmp, 1) := by decide +kernel
theorem dX2_compares_83 : decode cX2_compares 83 = .ok (.ifCond .lt 7, 3) := by decide +kernel
theorem dX2_compares_86 : decode cX2_compares 86 = .ok (.iconst 1, 1) := by decide +kernel
theorem dX2_compares_87 : decode cX2_compares 87 = .ok (.goto 4, 3) := by decide +kernel
theorem dX2_compares_90 : decode cX2_compares 90 = .ok (.iconst 0, 1) := by decide +kernel
theorem dX2_compares_91 : decode cX2_compares 91 = .ok (.ireturn, 1) := by decide +kernel
theorem dX2_compares_92 : decode cX2_compares 92 = .ok (.lload_n 1, 1) := by decide +kernel
theorem dX2_compares_93 : decode cX2_compares 93 = .ok (.lload_n 3, 1) := by decide +kernel
theorem dX2_compares_94 : decode cX2_compares 94 = .ok (.lcmp, 1) := by decide +kernel
theorem dX2_compares_95 : decode cX2_compares 95 = .ok (.ifCond .le 7, 3) := by decide +kernel
theorem dX2_compares_98 : decode cX2_compares 98 = .ok (.iconst 1, 1) := by decide +kernel
theorem dX2_compares_99 : decode cX2_compares 99 = .ok (.goto 4, 3) := by decide +kernel
theorem dX2_compares_102 : decode cX2_compares 102 = .ok (.iconst 0, 1) := by decide +kernel
theorem dX2_compares_103 : decode cX2_compares 103 = .ok (.ireturn, 1) := by decide +kernel
theorem dX2_join_0 : decode cX2_join 0 = .ok (.iload_n 0, 1) := by decide +kernel
theorem dX2_join_1 : decode cX2_join 1 = .ok (.lookupswitch 93 #[(42, 67), (43, 59), (45, 63), (47, 71), (309, 89), (310, 85)], 59) := by decide +kernel
theorem dX2_join_60 : decode cX2_join 60 = .ok (.lload_n 1, 1) := by decide +kernel
theorem dX2_join_61 : decode cX2_join 61 = .ok (.lload_n 3, 1) := by decide +kernel
theorem dX2_join_62 : decode cX2_join 62 = .ok (.ladd, 1) := by decide +kernel
theorem dX2_join_63 : decode cX2_join 63 = .ok (.lreturn, 1) := by decide +kernel
theorem dX2_join_64 : decode cX2_join 64 = .ok (.lload_n 1, 1) := by decide +kernel
theorem dX2_join_65 : decode cX2_join 65 = .ok (.lload_n 3, 1) := by decide +kernel
theorem dX2_join_66 : decode cX2_join 66 = .ok (.lsub, 1) := by decide +kernel
theorem dX2_join_67 : decode cX2_join 67 = .ok (.lreturn, 1) := by decide +kernel
theorem dX2_join_68 : decode cX2_join 68 = .ok (.lload_n 1, 1) := by decide +kernel
theorem dX2_join_69 : decode cX2_join 69 = .ok (.lload_n 3, 1) := by decide +kernel
theorem dX2_join_70 : decode cX2_join 70 = .ok (.lmul, 1) := by decide +kernel
theorem dX2_join_71 : decode cX2_join 71 = .ok (.lreturn, 1) := by decide +kernel
theorem dX2_join_72 : decode cX2_join 72 = .ok (.lload_n 3, 1) := by decide +kernel
theorem dX2_join_73 : decode cX2_join 73 = .ok (.lconst 0, 1) := by decide +kernel
theorem dX2_join_74 : decode cX2_join 74 = .ok (.lcmp, 1) := by decide +kernel
theorem dX2_join_75 : decode cX2_join 75 = .ok (.ifCond .ne 7, 3) := by decide +kernel
theorem dX2_join_78 : decode cX2_join 78 = .ok (.lconst 0, 1) := by decide +kernel
theorem dX2_join_79 : decode cX2_join 79 = .ok (.goto 6, 3) := by decide +kernel
theorem dX2_join_82 : decode cX2_join 82 = .ok (.lload_n 1, 1) := by decide +kernel
theorem dX2_join_83 : decode cX2_join 83 = .ok (.lload_n 3, 1) := by decide +kernel
theorem dX2_join_84 : decode cX2_join 84 = .ok (.ldiv, 1) := by decide +kernel
theorem dX2_join_85 : decode cX2_join 85 = .ok (.lreturn, 1) := by decide +kernel
theorem dX2_join_86 : decode cX2_join 86 = .ok (.lload_n 1, 1) := by decide +kernel
theorem dX2_join_87 : decode cX2_join 87 = .ok (.lload_n 3, 1) := by decide +kernel
theorem dX2_join_88 : decode cX2_join 88 = .ok (.land, 1) := by decide +kernel
theorem dX2_join_89 : decode cX2_join 89 = .ok (.lreturn, 1) := by decide +kernel
theorem dX2_join_90 : decode cX2_join 90 = .ok (.lload_n 1, 1) := by decide +kernel
theorem dX2_join_91 : decode cX2_join 91 = .ok (.lload_n 3, 1) := by decide +kernel
theorem dX2_join_92 : decode cX2_join 92 = .ok (.lor, 1) := by decide +kernel
theorem dX2_join_93 : decode cX2_join 93 = .ok (.lreturn, 1) := by decide +kernel
theorem dX2_join_94 : decode cX2_join 94 = .ok (.iload_n 0, 1) := by decide +kernel
theorem dX2_join_95 : decode cX2_join 95 = .ok (.lload_n 1, 1) := by decide +kernel
theorem dX2_join_96 : decode cX2_join 96 = .ok (.lload_n 3, 1) := by decide +kernel
theorem dX2_join_97 : decode cX2_join 97 = .ok (.invokestatic 117, 3) := by decide +kernel
theorem dX2_join_100 : decode cX2_join 100 = .ok (.ifCond .eq 7, 3) := by decide +kernel
theorem dX2_join_103 : decode cX2_join 103 = .ok (.lconst 1, 1) := by decide +kernel
theorem dX2_join_104 : decode cX2_join 104 = .ok (.goto 4, 3) := by decide +kernel
theorem dX2_join_107 : decode cX2_join 107 = .ok (.lconst 0, 1) := by decide +kernel
theorem dX2_join_108 : decode cX2_join 108 = .ok (.lreturn, 1) := by decide +kernel
theorem dX2_lookClause_0 : decode cX2_lookClause 0 = .ok (.iconst 0, 1) := by decide +kernel
theorem dX2_lookClause_1 : decode cX2_lookClause 1 = .ok (.istore 5, 2) := by decide +kernel
theorem dX2_lookClause_3 : decode cX2_lookClause 3 = .ok (.iload 5, 2) := by decide +kernel
theorem dX2_lookClause_5 : decode cX2_lookClause 5 = .ok (.aload_n 2, 1) := by decide +kernel
theorem dX2_lookClause_6 : decode cX2_lookClause 6 = .ok (.getfield 73, 3) := by decide +kernel
theorem dX2_lookClause_9 : decode cX2_lookClause 9 = .ok (.if_icmp .ge 88, 3) := by decide +kernel
theorem dX2_lookClause_12 : decode cX2_lookClause 12 = .ok (.aload_n 2, 1) := by decide +kernel
theorem dX2_lookClause_13 : decode cX2_lookClause 13 = .ok (.getfield 66, 3) := by decide +kernel
theorem dX2_lookClause_16 : decode cX2_lookClause 16 = .ok (.iload 5, 2) := by decide +kernel
theorem dX2_lookClause_18 : decode cX2_lookClause 18 = .ok (.invokestatic 47, 3) := by decide +kernel
theorem dX2_lookClause_21 : decode cX2_lookClause 21 = .ok (.istore 6, 2) := by decide +kernel
theorem dX2_lookClause_23 : decode cX2_lookClause 23 = .ok (.aload_n 2, 1) := by decide +kernel
theorem dX2_lookClause_24 : decode cX2_lookClause 24 = .ok (.getfield 76, 3) := by decide +kernel
theorem dX2_lookClause_27 : decode cX2_lookClause 27 = .ok (.iload 5, 2) := by decide +kernel
theorem dX2_lookClause_29 : decode cX2_lookClause 29 = .ok (.invokestatic 47, 3) := by decide +kernel
theorem dX2_lookClause_32 : decode cX2_lookClause 32 = .ok (.istore 7, 2) := by decide +kernel
theorem dX2_lookClause_34 : decode cX2_lookClause 34 = .ok (.aload_n 2, 1) := by decide +kernel
theorem dX2_lookClause_35 : decode cX2_lookClause 35 = .ok (.getfield 58, 3) := by decide +kernel
theorem dX2_lookClause_38 : decode cX2_lookClause 38 = .ok (.iload 5, 2) := by decide +kernel
theorem dX2_lookClause_40 : decode cX2_lookClause 40 = .ok (.invokestatic 47, 3) := by decide +kernel
theorem dX2_lookClause_43 : decode cX2_lookClause 43 = .ok (.iload 6, 2) := by decide +kernel
theorem dX2_lookClause_45 : decode cX2_lookClause 45 = .ok (.if_icmp .ge 7, 3) := by decide +kernel
theorem dX2_lookClause_48 : decode cX2_lookClause 48 = .ok (.iconst 1, 1) := by decide +kernel
theorem dX2_lookClause_49 : decode cX2_lookClause 49 = .ok (.goto 4, 3) := by decide +kernel
theorem dX2_lookClause_52 : decode cX2_lookClause 52 = .ok (.iconst 0, 1) := by decide +kernel
theorem dX2_lookClause_53 : decode cX2_lookClause 53 = .ok (.istore 8, 2) := by decide +kernel
theorem dX2_lookClause_55 : decode cX2_lookClause 55 = .ok (.iload 8, 2) := by decide +kernel
theorem dX2_lookClause_57 : decode cX2_lookClause 57 = .ok (.ifCond .eq 34, 3) := by decide +kernel
theorem dX2_lookClause_60 : decode cX2_lookClause 60 = .ok (.iload 6, 2) := by decide +kernel
theorem dX2_lookClause_62 : decode cX2_lookClause 62 = .ok (.iload 7, 2) := by decide +kernel
theorem dX2_lookClause_64 : decode cX2_lookClause 64 = .ok (.if_icmp .eq 24, 3) := by decide +kernel
theorem dX2_lookClause_67 : decode cX2_lookClause 67 = .ok (.aload_n 0, 1) := by decide +kernel
theorem dX2_lookClause_68 : decode cX2_lookClause 68 = .ok (.aload_n 2, 1) := by decide +kernel
theorem dX2_lookClause_69 : decode cX2_lookClause 69 = .ok (.getfield 63, 3) := by decide +kernel
theorem dX2_lookClause_72 : decode cX2_lookClause 72 = .ok (.iload 6, 2) := by decide +kernel
theorem dX2_lookClause_74 : decode cX2_lookClause 74 = .ok (.iload 7, 2) := by decide +kernel
theorem dX2_lookClause_76 : decode cX2_lookClause 76 = .ok (.aload_n 1, 1) := by decide +kernel
theorem dX2_lookClause_77 : decode cX2_lookClause 77 = .ok (.aload_n 3, 1) := by decide +kernel
theorem dX2_lookClause_78 : decode cX2_lookClause 78 = .ok (.iload 4, 2) := by decide +kernel
theorem dX2_lookClause_80 : decode cX2_lookClause 80 = .ok (.invokevirtual 69, 3) := by decide +kernel
theorem dX2_lookClause_83 : decode cX2_lookClause 83 = .ok (.lconst 0, 1) := by decide +kernel
theorem dX2_lookClause_84 : decode cX2_lookClause 84 = .ok (.lcmp, 1) := by decide +kernel
theorem dX2_lookClause_85 : decode cX2_lookClause 85 = .ok (.ifCond .eq 6, 3) := by decide +kernel
theorem dX2_lookClause_88 : decode cX2_lookClause 88 = .ok (.iload 5, 2) := by decide +kernel
theorem dX2_lookClause_90 : decode cX2_lookClause 90 = .ok (.ireturn, 1) := by decide +kernel
theorem dX2_lookClause_91 : decode cX2_lookClause 91 = .ok (.iinc 5 1, 3) := by decide +kernel
theorem dX2_lookClause_94 : decode cX2_lookClause 94 = .ok (.goto (-91), 3) := by decide +kernel
theorem dX2_lookClause_97 : decode cX2_lookClause 97 = .ok (.iconst (-1), 1) := by decide +kernel
theorem dX2_lookClause_98 : decode cX2_lookClause 98 = .ok (.ireturn, 1) := by decide +kernel
theorem dX2_nextFault_0 : decode cX2_nextFault 0 = .ok (.iconst (-1), 1) := by decide +kernel
theorem dX2_nextFault_1 : decode cX2_nextFault 1 = .ok (.istore 4, 2) := by decide +kernel
theorem dX2_nextFault_3 : decode cX2_nextFault 3 = .ok (.lconst 0, 1) := by decide +kernel
theorem dX2_nextFault_4 : decode cX2_nextFault 4 = .ok (.lstore 5, 2) := by decide +kernel
theorem dX2_nextFault_6 : decode cX2_nextFault 6 = .ok (.iconst 0, 1) := by decide +kernel
theorem dX2_nextFault_7 : decode cX2_nextFault 7 = .ok (.istore 7, 2) := by decide +kernel
theorem dX2_nextFault_9 : decode cX2_nextFault 9 = .ok (.iload 7, 2) := by decide +kernel
theorem dX2_nextFault_11 : decode cX2_nextFault 11 = .ok (.aload_n 1, 1) := by decide +kernel
theorem dX2_nextFault_12 : decode cX2_nextFault 12 = .ok (.getfield 29, 3) := by decide +kernel
theorem dX2_nextFault_15 : decode cX2_nextFault 15 = .ok (.if_icmp .ge 127, 3) := by decide +kernel
theorem dX2_nextFault_18 : decode cX2_nextFault 18 = .ok (.aload_n 1, 1) := by decide +kernel
theorem dX2_nextFault_19 : decode cX2_nextFault 19 = .ok (.iload 7, 2) := by decide +kernel
theorem dX2_nextFault_21 : decode cX2_nextFault 21 = .ok (.aload_n 3, 1) := by decide +kernel
theorem dX2_nextFault_22 : decode cX2_nextFault 22 = .ok (.invokevirtual 35, 3) := by decide +kernel
theorem dX2_nextFault_25 : decode cX2_nextFault 25 = .ok (.invokevirtual 39, 3) := by decide +kernel
theorem dX2_nextFault_28 : decode cX2_nextFault 28 = .ok (.ifCond .eq 23, 3) := by decide +kernel
theorem dX2_nextFault_31 : decode cX2_nextFault 31 = .ok (.aload_n 1, 1) := by decide +kernel
theorem dX2_nextFault_32 : decode cX2_nextFault 32 = .ok (.getfield 43, 3) := by decide +kernel
theorem dX2_nextFault_35 : decode cX2_nextFault 35 = .ok (.iload 7, 2) := by decide +kernel
theorem dX2_nextFault_37 : decode cX2_nextFault 37 = .ok (.invokestatic 47, 3) := by decide +kernel
theorem dX2_nextFault_40 : decode cX2_nextFault 40 = .ok (.aload_n 3, 1) := by decide +kernel
theorem dX2_nextFault_41 : decode cX2_nextFault 41 = .ok (.getfield 51, 3) := by decide +kernel
theorem dX2_nextFault_44 : decode cX2_nextFault 44 = .ok (.if_icmp .gt 7, 3) := by decide +kernel
theorem dX2_nextFault_47 : decode cX2_nextFault 47 = .ok (.iconst 1, 1) := by decide +kernel
theorem dX2_nextFault_48 : decode cX2_nextFault 48 = .ok (.goto 4, 3) := by decide +kernel
theorem dX2_nextFault_51 : decode cX2_nextFault 51 = .ok (.iconst 0, 1) := by decide +kernel
theorem dX2_nextFault_52 : decode cX2_nextFault 52 = .ok (.istore 8, 2) := by decide +kernel
theorem dX2_nextFault_54 : decode cX2_nextFault 54 = .ok (.iload 8, 2) := by decide +kernel
theorem dX2_nextFault_56 : decode cX2_nextFault 56 = .ok (.ifCond .eq 15, 3) := by decide +kernel
theorem dX2_nextFault_59 : decode cX2_nextFault 59 = .ok (.aload_n 0, 1) := by decide +kernel
theorem dX2_nextFault_60 : decode cX2_nextFault 60 = .ok (.aload_n 1, 1) := by decide +kernel
theorem dX2_nextFault_61 : decode cX2_nextFault 61 = .ok (.aload_n 2, 1) := by decide +kernel
theorem dX2_nextFault_62 : decode cX2_nextFault 62 = .ok (.aload_n 3, 1) := by decide +kernel
theorem dX2_nextFault_63 : decode cX2_nextFault 63 = .ok (.iload 7, 2) := by decide +kernel
theorem dX2_nextFault_65 : decode cX2_nextFault 65 = .ok (.invokevirtual 54, 3) := by decide +kernel
theorem dX2_nextFault_68 : decode cX2_nextFault 68 = .ok (.goto 4, 3) := by decide +kernel
theorem dX2_nextFault_71 : decode cX2_nextFault 71 = .ok (.iconst (-1), 1) := by decide +kernel
theorem dX2_nextFault_72 : decode cX2_nextFault 72 = .ok (.istore 9, 2) := by decide +kernel
theorem dX2_nextFault_74 : decode cX2_nextFault 74 = .ok (.iload 9, 2) := by decide +kernel
theorem dX2_nextFault_76 : decode cX2_nextFault 76 = .ok (.ifCond .lt 60, 3) := by decide +kernel
theorem dX2_nextFault_79 : decode cX2_nextFault 79 = .ok (.aload_n 2, 1) := by decide +kernel
theorem dX2_nextFault_80 : decode cX2_nextFault 80 = .ok (.getfield 58, 3) := by decide +kernel
theorem dX2_nextFault_83 : decode cX2_nextFault 83 = .ok (.iload 9, 2) := by decide +kernel
theorem dX2_nextFault_85 : decode cX2_nextFault 85 = .ok (.invokestatic 47, 3) := by decide +kernel
theorem dX2_nextFault_88 : decode cX2_nextFault 88 = .ok (.istore 10, 2) := by decide +kernel
theorem dX2_nextFault_90 : decode cX2_nextFault 90 = .ok (.aload_n 0, 1) := by decide +kernel
theorem dX2_nextFault_91 : decode cX2_nextFault 91 = .ok (.aload_n 2, 1) := by decide +kernel
theorem dX2_nextFault_92 : decode cX2_nextFault 92 = .ok (.getfield 63, 3) := by decide +kernel
theorem dX2_nextFault_95 : decode cX2_nextFault 95 = .ok (.iload 10, 2) := by decide +kernel
theorem dX2_nextFault_97 : decode cX2_nextFault 97 = .ok (.aload_n 2, 1) := by decide +kernel
theorem dX2_nextFault_98 : decode cX2_nextFault 98 = .ok (.getfield 66, 3) := by decide +kernel
theorem dX2_nextFault_101 : decode cX2_nextFault 101 = .ok (.iload 9, 2) := by decide +kernel
theorem dX2_nextFault_103 : decode cX2_nextFault 103 = .ok (.invokestatic 47, 3) := by decide +kernel
theorem dX2_nextFault_106 : decode cX2_nextFault 106 = .ok (.aload_n 1, 1) := by decide +kernel
theorem dX2_nextFault_107 : decode cX2_nextFault 107 = .ok (.aload_n 3, 1) := by decide +kernel
theorem dX2_nextFault_108 : decode cX2_nextFault 108 = .ok (.iload 7, 2) := by decide +kernel
theorem dX2_nextFault_110 : decode cX2_nextFault 110 = .ok (.invokevirtual 69, 3) := by decide +kernel
theorem dX2_nextFault_113 : decode cX2_nextFault 113 = .ok (.lstore 11, 2) := by decide +kernel
theorem dX2_nextFault_115 : decode cX2_nextFault 115 = .ok (.iload 4, 2) := by decide +kernel
theorem dX2_nextFault_117 : decode cX2_nextFault 117 = .ok (.ifCond .lt 11, 3) := by decide +kernel
theorem dX2_nextFault_120 : decode cX2_nextFault 120 = .ok (.lload 11, 2) := by decide +kernel
theorem dX2_nextFault_122 : decode cX2_nextFault 122 = .ok (.lload 5, 2) := by decide +kernel
theorem dX2_nextFault_124 : decode cX2_nextFault 124 = .ok (.lcmp, 1) := by decide +kernel
theorem dX2_nextFault_125 : decode cX2_nextFault 125 = .ok (.ifCond .ge 11, 3) := by decide +kernel
theorem dX2_nextFault_128 : decode cX2_nextFault 128 = .ok (.iload 7, 2) := by decide +kernel
theorem dX2_nextFault_130 : decode cX2_nextFault 130 = .ok (.istore 4, 2) := by decide +kernel
theorem dX2_nextFault_132 : decode cX2_nextFault 132 = .ok (.lload 11, 2) := by decide +kernel
theorem dX2_nextFault_134 : decode cX2_nextFault 134 = .ok (.lstore 5, 2) := by decide +kernel
theorem dX2_nextFault_136 : decode cX2_nextFault 136 = .ok (.iinc 7 1, 3) := by decide +kernel
theorem dX2_nextFault_139 : decode cX2_nextFault 139 = .ok (.goto (-130), 3) := by decide +kernel
theorem dX2_nextFault_142 : decode cX2_nextFault 142 = .ok (.iload 4, 2) := by decide +kernel
theorem dX2_nextFault_144 : decode cX2_nextFault 144 = .ok (.ireturn, 1) := by decide +kernel
theorem dX2_play_0 : decode cX2_play 0 = .ok (.iconst 0, 1) := by decide +kernel
theorem dX2_play_1 : decode cX2_play 1 = .ok (.istore 4, 2) := by decide +kernel
theorem dX2_play_3 : decode cX2_play 3 = .ok (.iload 4, 2) := by decide +kernel
theorem dX2_play_5 : decode cX2_play 5 = .ok (.sipush 200, 3) := by decide +kernel
theorem dX2_play_8 : decode cX2_play 8 = .ok (.if_icmp .ge 46, 3) := by decide +kernel
theorem dX2_play_11 : decode cX2_play 11 = .ok (.aload_n 0, 1) := by decide +kernel
theorem dX2_play_12 : decode cX2_play 12 = .ok (.aload_n 1, 1) := by decide +kernel
theorem dX2_play_13 : decode cX2_play 13 = .ok (.aload_n 2, 1) := by decide +kernel
theorem dX2_play_14 : decode cX2_play 14 = .ok (.aload_n 3, 1) := by decide +kernel
theorem dX2_play_15 : decode cX2_play 15 = .ok (.invokevirtual 15, 3) := by decide +kernel
theorem dX2_play_18 : decode cX2_play 18 = .ok (.istore 5, 2) := by decide +kernel
theorem dX2_play_20 : decode cX2_play 20 = .ok (.iload 5, 2) := by decide +kernel
theorem dX2_play_22 : decode cX2_play 22 = .ok (.ifCond .lt 15, 3) := by decide +kernel
theorem dX2_play_25 : decode cX2_play 25 = .ok (.aload_n 0, 1) := by decide +kernel
theorem dX2_play_26 : decode cX2_play 26 = .ok (.aload_n 1, 1) := by decide +kernel
theorem dX2_play_27 : decode cX2_play 27 = .ok (.aload_n 2, 1) := by decide +kernel
theorem dX2_play_28 : decode cX2_play 28 = .ok (.aload_n 3, 1) := by decide +kernel
theorem dX2_play_29 : decode cX2_play 29 = .ok (.iload 5, 2) := by decide +kernel
theorem dX2_play_31 : decode cX2_play 31 = .ok (.invokevirtual 19, 3) := by decide +kernel
theorem dX2_play_34 : decode cX2_play 34 = .ok (.ifCond .eq 6, 3) := by decide +kernel
theorem dX2_play_37 : decode cX2_play 37 = .ok (.iload 4, 2) := by decide +kernel
theorem dX2_play_39 : decode cX2_play 39 = .ok (.ireturn, 1) := by decide +kernel
theorem dX2_play_40 : decode cX2_play 40 = .ok (.aload_n 3, 1) := by decide +kernel
theorem dX2_play_41 : decode cX2_play 41 = .ok (.aload_n 1, 1) := by decide +kernel
theorem dX2_play_42 : decode cX2_play 42 = .ok (.iload 5, 2) := by decide +kernel
theorem dX2_play_44 : decode cX2_play 44 = .ok (.invokevirtual 23, 3) := by decide +kernel
theorem dX2_play_47 : decode cX2_play 47 = .ok (.pop, 1) := by decide +kernel
theorem dX2_play_48 : decode cX2_play 48 = .ok (.iinc 4 1, 3) := by decide +kernel
theorem dX2_play_51 : decode cX2_play 51 = .ok (.goto (-48), 3) := by decide +kernel
theorem dX2_play_54 : decode cX2_play 54 = .ok (.sipush 200, 3) := by decide +kernel
theorem dX2_play_57 : decode cX2_play 57 = .ok (.ireturn, 1) := by decide +kernel
theorem dX2_reckon_0 : decode cX2_reckon 0 = .ok (.iconst (-1), 1) := by decide +kernel
theorem dX2_reckon_1 : decode cX2_reckon 1 = .ok (.istore 7, 2) := by decide +kernel
theorem dX2_reckon_3 : decode cX2_reckon 3 = .ok (.iload_n 2, 1) := by decide +kernel
theorem dX2_reckon_4 : decode cX2_reckon 4 = .ok (.iconst 0, 1) := by decide +kernel
theorem dX2_reckon_5 : decode cX2_reckon 5 = .ok (.invokestatic 79, 3) := by decide +kernel
theorem dX2_reckon_8 : decode cX2_reckon 8 = .ok (.istore 8, 2) := by decide +kernel
theorem dX2_reckon_10 : decode cX2_reckon 10 = .ok (.iload 8, 2) := by decide +kernel
theorem dX2_reckon_12 : decode cX2_reckon 12 = .ok (.iload_n 3, 1) := by decide +kernel
theorem dX2_reckon_13 : decode cX2_reckon 13 = .ok (.if_icmp .ge 157, 3) := by decide +kernel
theorem dX2_reckon_16 : decode cX2_reckon 16 = .ok (.iload 8, 2) := by decide +kernel
theorem dX2_reckon_18 : decode cX2_reckon 18 = .ok (.aload_n 1, 1) := by decide +kernel
theorem dX2_reckon_19 : decode cX2_reckon 19 = .ok (.arraylength, 1) := by decide +kernel
theorem dX2_reckon_20 : decode cX2_reckon 20 = .ok (.if_icmp .ge 150, 3) := by decide +kernel
theorem dX2_reckon_23 : decode cX2_reckon 23 = .ok (.aload_n 1, 1) := by decide +kernel
theorem dX2_reckon_24 : decode cX2_reckon 24 = .ok (.iload 8, 2) := by decide +kernel
theorem dX2_reckon_26 : decode cX2_reckon 26 = .ok (.iaload, 1) := by decide +kernel
theorem dX2_reckon_27 : decode cX2_reckon 27 = .ok (.istore 9, 2) := by decide +kernel
theorem dX2_reckon_29 : decode cX2_reckon 29 = .ok (.iload 9, 2) := by decide +kernel
theorem dX2_reckon_31 : decode cX2_reckon 31 = .ok (.ifCond .ge 11, 3) := by decide +kernel
theorem dX2_reckon_34 : decode cX2_reckon 34 = .ok (.iload 9, 2) := by decide +kernel
theorem dX2_reckon_36 : decode cX2_reckon 36 = .ok (.sipush (-312), 3) := by decide +kernel
theorem dX2_reckon_39 : decode cX2_reckon 39 = .ok (.if_icmp .gt 51, 3) := by decide +kernel
theorem dX2_reckon_42 : decode cX2_reckon 42 = .ok (.iinc 7 1, 3) := by decide +kernel
theorem dX2_reckon_45 : decode cX2_reckon 45 = .ok (.iload 7, 2) := by decide +kernel
theorem dX2_reckon_47 : decode cX2_reckon 47 = .ok (.aload_n 0, 1) := by decide +kernel
theorem dX2_reckon_48 : decode cX2_reckon 48 = .ok (.getfield 9, 3) := by decide +kernel
theorem dX2_reckon_51 : decode cX2_reckon 51 = .ok (.arraylength, 1) := by decide +kernel
theorem dX2_reckon_52 : decode cX2_reckon 52 = .ok (.if_icmp .lt 5, 3) := by decide +kernel
theorem dX2_reckon_55 : decode cX2_reckon 55 = .ok (.lconst 0, 1) := by decide +kernel
theorem dX2_reckon_56 : decode cX2_reckon 56 = .ok (.lreturn, 1) := by decide +kernel
theorem dX2_reckon_57 : decode cX2_reckon 57 = .ok (.aload_n 0, 1) := by decide +kernel
theorem dX2_reckon_58 : decode cX2_reckon 58 = .ok (.getfield 9, 3) := by decide +kernel
theorem dX2_reckon_61 : decode cX2_reckon 61 = .ok (.iload 7, 2) := by decide +kernel
theorem dX2_reckon_63 : decode cX2_reckon 63 = .ok (.iload 9, 2) := by decide +kernel
theorem dX2_reckon_65 : decode cX2_reckon 65 = .ok (.ifCond .lt 9, 3) := by decide +kernel
theorem dX2_reckon_68 : decode cX2_reckon 68 = .ok (.iload 9, 2) := by decide +kernel
theorem dX2_reckon_70 : decode cX2_reckon 70 = .ok (.i2l, 1) := by decide +kernel
theorem dX2_reckon_71 : decode cX2_reckon 71 = .ok (.goto 15, 3) := by decide +kernel
theorem dX2_reckon_74 : decode cX2_reckon 74 = .ok (.iload 9, 2) := by decide +kernel
theorem dX2_reckon_76 : decode cX2_reckon 76 = .ok (.ineg, 1) := by decide +kernel
theorem dX2_reckon_77 : decode cX2_reckon 77 = .ok (.aload 4, 2) := by decide +kernel
theorem dX2_reckon_79 : decode cX2_reckon 79 = .ok (.aload 5, 2) := by decide +kernel
theorem dX2_reckon_81 : decode cX2_reckon 81 = .ok (.iload 6, 2) := by decide +kernel
theorem dX2_reckon_83 : decode cX2_reckon 83 = .ok (.invokestatic 85, 3) := by decide +kernel
theorem dX2_reckon_86 : decode cX2_reckon 86 = .ok (.lastore, 1) := by decide +kernel
theorem dX2_reckon_87 : decode cX2_reckon 87 = .ok (.goto 77, 3) := by decide +kernel
theorem dX2_reckon_90 : decode cX2_reckon 90 = .ok (.iload 9, 2) := by decide +kernel
theorem dX2_reckon_92 : decode cX2_reckon 92 = .ok (.sipush (-311), 3) := by decide +kernel
theorem dX2_reckon_95 : decode cX2_reckon 95 = .ok (.if_icmp .ne 29, 3) := by decide +kernel
theorem dX2_reckon_98 : decode cX2_reckon 98 = .ok (.iload 7, 2) := by decide +kernel
theorem dX2_reckon_100 : decode cX2_reckon 100 = .ok (.ifCond .ge 5, 3) := by decide +kernel
theorem dX2_reckon_103 : decode cX2_reckon 103 = .ok (.lconst 0, 1) := by decide +kernel
theorem dX2_reckon_104 : decode cX2_reckon 104 = .ok (.lreturn, 1) := by decide +kernel
theorem dX2_reckon_105 : decode cX2_reckon 105 = .ok (.aload_n 0, 1) := by decide +kernel
theorem dX2_reckon_106 : decode cX2_reckon 106 = .ok (.getfield 9, 3) := by decide +kernel
theorem dX2_reckon_109 : decode cX2_reckon 109 = .ok (.iload 7, 2) := by decide +kernel
theorem dX2_reckon_111 : decode cX2_reckon 111 = .ok (.lconst 1, 1) := by decide +kernel
theorem dX2_reckon_112 : decode cX2_reckon 112 = .ok (.aload_n 0, 1) := by decide +kernel
theorem dX2_reckon_113 : decode cX2_reckon 113 = .ok (.getfield 9, 3) := by decide +kernel
theorem dX2_reckon_116 : decode cX2_reckon 116 = .ok (.iload 7, 2) := by decide +kernel
theorem dX2_reckon_118 : decode cX2_reckon 118 = .ok (.laload, 1) := by decide +kernel
theorem dX2_reckon_119 : decode cX2_reckon 119 = .ok (.lsub, 1) := by decide +kernel
theorem dX2_reckon_120 : decode cX2_reckon 120 = .ok (.lastore, 1) := by decide +kernel
theorem dX2_reckon_121 : decode cX2_reckon 121 = .ok (.goto 43, 3) := by decide +kernel
theorem dX2_reckon_124 : decode cX2_reckon 124 = .ok (.iload 7, 2) := by decide +kernel
theorem dX2_reckon_126 : decode cX2_reckon 126 = .ok (.iconst 1, 1) := by decide +kernel
theorem dX2_reckon_127 : decode cX2_reckon 127 = .ok (.if_icmp .ge 5, 3) := by decide +kernel
theorem dX2_reckon_130 : decode cX2_reckon 130 = .ok (.lconst 0, 1) := by decide +kernel
theorem dX2_reckon_131 : decode cX2_reckon 131 = .ok (.lreturn, 1) := by decide +kernel
theorem dX2_reckon_132 : decode cX2_reckon 132 = .ok (.iinc 7 (-1), 3) := by decide +kernel
theorem dX2_reckon_135 : decode cX2_reckon 135 = .ok (.aload_n 0, 1) := by decide +kernel
theorem dX2_reckon_136 : decode cX2_reckon 136 = .ok (.getfield 9, 3) := by decide +kernel
theorem dX2_reckon_139 : decode cX2_reckon 139 = .ok (.iload 7, 2) := by decide +kernel
theorem dX2_reckon_141 : decode cX2_reckon 141 = .ok (.iload 9, 2) := by decide +kernel
theorem dX2_reckon_143 : decode cX2_reckon 143 = .ok (.ineg, 1) := by decide +kernel
theorem dX2_reckon_144 : decode cX2_reckon 144 = .ok (.aload_n 0, 1) := by decide +kernel
theorem dX2_reckon_145 : decode cX2_reckon 145 = .ok (.getfield 9, 3) := by decide +kernel
theorem dX2_reckon_148 : decode cX2_reckon 148 = .ok (.iload 7, 2) := by decide +kernel
theorem dX2_reckon_150 : decode cX2_reckon 150 = .ok (.laload, 1) := by decide +kernel
theorem dX2_reckon_151 : decode cX2_reckon 151 = .ok (.aload_n 0, 1) := by decide +kernel
theorem dX2_reckon_152 : decode cX2_reckon 152 = .ok (.getfield 9, 3) := by decide +kernel
theorem dX2_reckon_155 : decode cX2_reckon 155 = .ok (.iload 7, 2) := by decide +kernel
theorem dX2_reckon_157 : decode cX2_reckon 157 = .ok (.iconst 1, 1) := by decide +kernel
theorem dX2_reckon_158 : decode cX2_reckon 158 = .ok (.iadd, 1) := by decide +kernel
theorem dX2_reckon_159 : decode cX2_reckon 159 = .ok (.laload, 1) := by decide +kernel
theorem dX2_reckon_160 : decode cX2_reckon 160 = .ok (.invokestatic 89, 3) := by decide +kernel
theorem dX2_reckon_163 : decode cX2_reckon 163 = .ok (.lastore, 1) := by decide +kernel
theorem dX2_reckon_164 : decode cX2_reckon 164 = .ok (.iinc 8 1, 3) := by decide +kernel
theorem dX2_reckon_167 : decode cX2_reckon 167 = .ok (.goto (-157), 3) := by decide +kernel
theorem dX2_reckon_170 : decode cX2_reckon 170 = .ok (.iload 7, 2) := by decide +kernel
theorem dX2_reckon_172 : decode cX2_reckon 172 = .ok (.ifCond .ge 7, 3) := by decide +kernel
theorem dX2_reckon_175 : decode cX2_reckon 175 = .ok (.lconst 0, 1) := by decide +kernel
theorem dX2_reckon_176 : decode cX2_reckon 176 = .ok (.goto 10, 3) := by decide +kernel
theorem dX2_reckon_179 : decode cX2_reckon 179 = .ok (.aload_n 0, 1) := by decide +kernel
theorem dX2_reckon_180 : decode cX2_reckon 180 = .ok (.getfield 9, 3) := by decide +kernel
theorem dX2_reckon_183 : decode cX2_reckon 183 = .ok (.iload 7, 2) := by decide +kernel
theorem dX2_reckon_185 : decode cX2_reckon 185 = .ok (.laload, 1) := by decide +kernel
theorem dX2_reckon_186 : decode cX2_reckon 186 = .ok (.lreturn, 1) := by decide +kernel
theorem dX2_stopsAt_0 : decode cX2_stopsAt 0 = .ok (.iconst 0, 1) := by decide +kernel
theorem dX2_stopsAt_1 : decode cX2_stopsAt 1 = .ok (.istore 5, 2) := by decide +kernel
theorem dX2_stopsAt_3 : decode cX2_stopsAt 3 = .ok (.iload 5, 2) := by decide +kernel
theorem dX2_stopsAt_5 : decode cX2_stopsAt 5 = .ok (.aload_n 2, 1) := by decide +kernel
theorem dX2_stopsAt_6 : decode cX2_stopsAt 6 = .ok (.getfield 73, 3) := by decide +kernel
theorem dX2_stopsAt_9 : decode cX2_stopsAt 9 = .ok (.if_icmp .ge 76, 3) := by decide +kernel
theorem dX2_stopsAt_12 : decode cX2_stopsAt 12 = .ok (.aload_n 2, 1) := by decide +kernel
theorem dX2_stopsAt_13 : decode cX2_stopsAt 13 = .ok (.getfield 66, 3) := by decide +kernel
theorem dX2_stopsAt_16 : decode cX2_stopsAt 16 = .ok (.iload 5, 2) := by decide +kernel
theorem dX2_stopsAt_18 : decode cX2_stopsAt 18 = .ok (.invokestatic 47, 3) := by decide +kernel
theorem dX2_stopsAt_21 : decode cX2_stopsAt 21 = .ok (.istore 6, 2) := by decide +kernel
theorem dX2_stopsAt_23 : decode cX2_stopsAt 23 = .ok (.aload_n 2, 1) := by decide +kernel
theorem dX2_stopsAt_24 : decode cX2_stopsAt 24 = .ok (.getfield 58, 3) := by decide +kernel
theorem dX2_stopsAt_27 : decode cX2_stopsAt 27 = .ok (.iload 5, 2) := by decide +kernel
theorem dX2_stopsAt_29 : decode cX2_stopsAt 29 = .ok (.invokestatic 47, 3) := by decide +kernel
theorem dX2_stopsAt_32 : decode cX2_stopsAt 32 = .ok (.iload 6, 2) := by decide +kernel
theorem dX2_stopsAt_34 : decode cX2_stopsAt 34 = .ok (.if_icmp .ne 7, 3) := by decide +kernel
theorem dX2_stopsAt_37 : decode cX2_stopsAt 37 = .ok (.iconst 1, 1) := by decide +kernel
theorem dX2_stopsAt_38 : decode cX2_stopsAt 38 = .ok (.goto 4, 3) := by decide +kernel
theorem dX2_stopsAt_41 : decode cX2_stopsAt 41 = .ok (.iconst 0, 1) := by decide +kernel
theorem dX2_stopsAt_42 : decode cX2_stopsAt 42 = .ok (.istore 7, 2) := by decide +kernel
theorem dX2_stopsAt_44 : decode cX2_stopsAt 44 = .ok (.iload 7, 2) := by decide +kernel
theorem dX2_stopsAt_46 : decode cX2_stopsAt 46 = .ok (.ifCond .eq 33, 3) := by decide +kernel
theorem dX2_stopsAt_49 : decode cX2_stopsAt 49 = .ok (.aload_n 0, 1) := by decide +kernel
theorem dX2_stopsAt_50 : decode cX2_stopsAt 50 = .ok (.aload_n 2, 1) := by decide +kernel
theorem dX2_stopsAt_51 : decode cX2_stopsAt 51 = .ok (.getfield 63, 3) := by decide +kernel
theorem dX2_stopsAt_54 : decode cX2_stopsAt 54 = .ok (.iload 6, 2) := by decide +kernel
theorem dX2_stopsAt_56 : decode cX2_stopsAt 56 = .ok (.aload_n 2, 1) := by decide +kernel
theorem dX2_stopsAt_57 : decode cX2_stopsAt 57 = .ok (.getfield 76, 3) := by decide +kernel
theorem dX2_stopsAt_60 : decode cX2_stopsAt 60 = .ok (.iload 5, 2) := by decide +kernel
theorem dX2_stopsAt_62 : decode cX2_stopsAt 62 = .ok (.invokestatic 47, 3) := by decide +kernel
theorem dX2_stopsAt_65 : decode cX2_stopsAt 65 = .ok (.aload_n 1, 1) := by decide +kernel
theorem dX2_stopsAt_66 : decode cX2_stopsAt 66 = .ok (.aload_n 3, 1) := by decide +kernel
theorem dX2_stopsAt_67 : decode cX2_stopsAt 67 = .ok (.iload 4, 2) := by decide +kernel
theorem dX2_stopsAt_69 : decode cX2_stopsAt 69 = .ok (.invokevirtual 69, 3) := by decide +kernel
theorem dX2_stopsAt_72 : decode cX2_stopsAt 72 = .ok (.lconst 0, 1) := by decide +kernel
theorem dX2_stopsAt_73 : decode cX2_stopsAt 73 = .ok (.lcmp, 1) := by decide +kernel
theorem dX2_stopsAt_74 : decode cX2_stopsAt 74 = .ok (.ifCond .eq 5, 3) := by decide +kernel
theorem dX2_stopsAt_77 : decode cX2_stopsAt 77 = .ok (.iconst 1, 1) := by decide +kernel
theorem dX2_stopsAt_78 : decode cX2_stopsAt 78 = .ok (.ireturn, 1) := by decide +kernel
theorem dX2_stopsAt_79 : decode cX2_stopsAt 79 = .ok (.iinc 5 1, 3) := by decide +kernel
theorem dX2_stopsAt_82 : decode cX2_stopsAt 82 = .ok (.goto (-79), 3) := by decide +kernel
theorem dX2_stopsAt_85 : decode cX2_stopsAt 85 = .ok (.iconst 0, 1) := by decide +kernel
theorem dX2_stopsAt_86 : decode cX2_stopsAt 86 = .ok (.ireturn, 1) := by decide +kernel
theorem dX2_wordOf_0 : decode cX2_wordOf 0 = .ok (.iload_n 0, 1) := by decide +kernel
theorem dX2_wordOf_1 : decode cX2_wordOf 1 = .ok (.tableswitch 115 312 319 #[47, 50, 60, 70, 80, 90, 96, 105], 47) := by decide +kernel
theorem dX2_wordOf_48 : decode cX2_wordOf 48 = .ok (.iload_n 3, 1) := by decide +kernel
theorem dX2_wordOf_49 : decode cX2_wordOf 49 = .ok (.i2l, 1) := by decide +kernel
theorem dX2_wordOf_50 : decode cX2_wordOf 50 = .ok (.lreturn, 1) := by decide +kernel
theorem dX2_wordOf_51 : decode cX2_wordOf 51 = .ok (.aload_n 1, 1) := by decide +kernel
theorem dX2_wordOf_52 : decode cX2_wordOf 52 = .ok (.getfield 93, 3) := by decide +kernel
theorem dX2_wordOf_55 : decode cX2_wordOf 55 = .ok (.iload_n 3, 1) := by decide +kernel
theorem dX2_wordOf_56 : decode cX2_wordOf 56 = .ok (.invokestatic 47, 3) := by decide +kernel
theorem dX2_wordOf_59 : decode cX2_wordOf 59 = .ok (.i2l, 1) := by decide +kernel
theorem dX2_wordOf_60 : decode cX2_wordOf 60 = .ok (.lreturn, 1) := by decide +kernel
theorem dX2_wordOf_61 : decode cX2_wordOf 61 = .ok (.aload_n 1, 1) := by decide +kernel
theorem dX2_wordOf_62 : decode cX2_wordOf 62 = .ok (.getfield 96, 3) := by decide +kernel
theorem dX2_wordOf_65 : decode cX2_wordOf 65 = .ok (.iload_n 3, 1) := by decide +kernel
theorem dX2_wordOf_66 : decode cX2_wordOf 66 = .ok (.invokestatic 47, 3) := by decide +kernel
theorem dX2_wordOf_69 : decode cX2_wordOf 69 = .ok (.i2l, 1) := by decide +kernel
theorem dX2_wordOf_70 : decode cX2_wordOf 70 = .ok (.lreturn, 1) := by decide +kernel
theorem dX2_wordOf_71 : decode cX2_wordOf 71 = .ok (.aload_n 1, 1) := by decide +kernel
theorem dX2_wordOf_72 : decode cX2_wordOf 72 = .ok (.getfield 99, 3) := by decide +kernel
theorem dX2_wordOf_75 : decode cX2_wordOf 75 = .ok (.iload_n 3, 1) := by decide +kernel
theorem dX2_wordOf_76 : decode cX2_wordOf 76 = .ok (.invokestatic 47, 3) := by decide +kernel
theorem dX2_wordOf_79 : decode cX2_wordOf 79 = .ok (.i2l, 1) := by decide +kernel
theorem dX2_wordOf_80 : decode cX2_wordOf 80 = .ok (.lreturn, 1) := by decide +kernel
theorem dX2_wordOf_81 : decode cX2_wordOf 81 = .ok (.aload_n 1, 1) := by decide +kernel
theorem dX2_wordOf_82 : decode cX2_wordOf 82 = .ok (.getfield 43, 3) := by decide +kernel
theorem dX2_wordOf_85 : decode cX2_wordOf 85 = .ok (.iload_n 3, 1) := by decide +kernel
theorem dX2_wordOf_86 : decode cX2_wordOf 86 = .ok (.invokestatic 47, 3) := by decide +kernel
theorem dX2_wordOf_89 : decode cX2_wordOf 89 = .ok (.i2l, 1) := by decide +kernel
theorem dX2_wordOf_90 : decode cX2_wordOf 90 = .ok (.lreturn, 1) := by decide +kernel
theorem dX2_wordOf_91 : decode cX2_wordOf 91 = .ok (.aload_n 2, 1) := by decide +kernel
theorem dX2_wordOf_92 : decode cX2_wordOf 92 = .ok (.getfield 51, 3) := by decide +kernel
theorem dX2_wordOf_95 : decode cX2_wordOf 95 = .ok (.i2l, 1) := by decide +kernel
theorem dX2_wordOf_96 : decode cX2_wordOf 96 = .ok (.lreturn, 1) := by decide +kernel
theorem dX2_wordOf_97 : decode cX2_wordOf 97 = .ok (.aload_n 2, 1) := by decide +kernel
theorem dX2_wordOf_98 : decode cX2_wordOf 98 = .ok (.getfield 102, 3) := by decide +kernel
theorem dX2_wordOf_101 : decode cX2_wordOf 101 = .ok (.invokestatic 105, 3) := by decide +kernel
theorem dX2_wordOf_104 : decode cX2_wordOf 104 = .ok (.i2l, 1) := by decide +kernel
theorem dX2_wordOf_105 : decode cX2_wordOf 105 = .ok (.lreturn, 1) := by decide +kernel
theorem dX2_wordOf_106 : decode cX2_wordOf 106 = .ok (.aload_n 2, 1) := by decide +kernel
theorem dX2_wordOf_107 : decode cX2_wordOf 107 = .ok (.getfield 111, 3) := by decide +kernel
theorem dX2_wordOf_110 : decode cX2_wordOf 110 = .ok (.iload_n 3, 1) := by decide +kernel
theorem dX2_wordOf_111 : decode cX2_wordOf 111 = .ok (.invokestatic 47, 3) := by decide +kernel
theorem dX2_wordOf_114 : decode cX2_wordOf 114 = .ok (.i2l, 1) := by decide +kernel
theorem dX2_wordOf_115 : decode cX2_wordOf 115 = .ok (.lreturn, 1) := by decide +kernel
theorem dX2_wordOf_116 : decode cX2_wordOf 116 = .ok (.aload_n 2, 1) := by decide +kernel
theorem dX2_wordOf_117 : decode cX2_wordOf 117 = .ok (.getfield 114, 3) := by decide +kernel
theorem dX2_wordOf_120 : decode cX2_wordOf 120 = .ok (.i2l, 1) := by decide +kernel
theorem dX2_wordOf_121 : decode cX2_wordOf 121 = .ok (.lreturn, 1) := by decide +kernel
theorem dX3_init_0 : decode cX3_init 0 = .ok (.aload_n 0, 1) := by decide +kernel
theorem dX3_init_1 : decode cX3_init 1 = .ok (.invokespecial 1, 3) := by decide +kernel
theorem dX3_init_4 : decode cX3_init 4 = .ok (.aload_n 0, 1) := by decide +kernel
theorem dX3_init_5 : decode cX3_init 5 = .ok (.aload_n 1, 1) := by decide +kernel
theorem dX3_init_6 : decode cX3_init 6 = .ok (.putfield 7, 3) := by decide +kernel
theorem dX3_init_9 : decode cX3_init 9 = .ok (.aload_n 0, 1) := by decide +kernel
theorem dX3_init_10 : decode cX3_init 10 = .ok (.iload_n 2, 1) := by decide +kernel
theorem dX3_init_11 : decode cX3_init 11 = .ok (.putfield 13, 3) := by decide +kernel
theorem dX3_init_14 : decode cX3_init 14 = .ok (.aload_n 0, 1) := by decide +kernel
theorem dX3_init_15 : decode cX3_init 15 = .ok (.aload_n 3, 1) := by decide +kernel
theorem dX3_init_16 : decode cX3_init 16 = .ok (.putfield 17, 3) := by decide +kernel
theorem dX3_init_19 : decode cX3_init 19 = .ok (.aload_n 0, 1) := by decide +kernel
theorem dX3_init_20 : decode cX3_init 20 = .ok (.aload 4, 2) := by decide +kernel
theorem dX3_init_22 : decode cX3_init 22 = .ok (.putfield 20, 3) := by decide +kernel
theorem dX3_init_25 : decode cX3_init 25 = .ok (.aload_n 0, 1) := by decide +kernel
theorem dX3_init_26 : decode cX3_init 26 = .ok (.aload 5, 2) := by decide +kernel
theorem dX3_init_28 : decode cX3_init 28 = .ok (.putfield 23, 3) := by decide +kernel
theorem dX3_init_31 : decode cX3_init 31 = .ok (.return_, 1) := by decide +kernel
theorem dX4_emit_0 : decode cX4_emit 0 = .ok (.aload_n 0, 1) := by decide +kernel
theorem dX4_emit_1 : decode cX4_emit 1 = .ok (.getfield 31, 3) := by decide +kernel
theorem dX4_emit_4 : decode cX4_emit 4 = .ok (.ifCond .lt 35, 3) := by decide +kernel
theorem dX4_emit_7 : decode cX4_emit 7 = .ok (.aload_n 0, 1) := by decide +kernel
theorem dX4_emit_8 : decode cX4_emit 8 = .ok (.getfield 31, 3) := by decide +kernel
theorem dX4_emit_11 : decode cX4_emit 11 = .ok (.aload_n 0, 1) := by decide +kernel
theorem dX4_emit_12 : decode cX4_emit 12 = .ok (.getfield 18, 3) := by decide +kernel
theorem dX4_emit_15 : decode cX4_emit 15 = .ok (.arraylength, 1) := by decide +kernel
theorem dX4_emit_16 : decode cX4_emit 16 = .ok (.if_icmp .ge 23, 3) := by decide +kernel
theorem dX4_emit_19 : decode cX4_emit 19 = .ok (.aload_n 0, 1) := by decide +kernel
theorem dX4_emit_20 : decode cX4_emit 20 = .ok (.getfield 18, 3) := by decide +kernel
theorem dX4_emit_23 : decode cX4_emit 23 = .ok (.aload_n 0, 1) := by decide +kernel
theorem dX4_emit_24 : decode cX4_emit 24 = .ok (.getfield 31, 3) := by decide +kernel
theorem dX4_emit_27 : decode cX4_emit 27 = .ok (.iload_n 1, 1) := by decide +kernel
theorem dX4_emit_28 : decode cX4_emit 28 = .ok (.iastore, 1) := by decide +kernel
theorem dX4_emit_29 : decode cX4_emit 29 = .ok (.aload_n 0, 1) := by decide +kernel
theorem dX4_emit_30 : decode cX4_emit 30 = .ok (.dup, 1) := by decide +kernel
theorem dX4_emit_31 : decode cX4_emit 31 = .ok (.getfield 31, 3) := by decide +kernel
theorem dX4_emit_34 : decode cX4_emit 34 = .ok (.iconst 1, 1) := by decide +kernel
theorem dX4_emit_35 : decode cX4_emit 35 = .ok (.iadd, 1) := by decide +kernel
theorem dX4_emit_36 : decode cX4_emit 36 = .ok (.putfield 31, 3) := by decide +kernel
theorem dX4_emit_39 : decode cX4_emit 39 = .ok (.return_, 1) := by decide +kernel
theorem dX4_makeRule_0 : decode cX4_makeRule 0 = .ok (.iconst 0, 1) := by decide +kernel
theorem dX4_makeRule_1 : decode cX4_makeRule 1 = .ok (.aload_n 0, 1) := by decide +kernel
theorem dX4_makeRule_2 : decode cX4_makeRule 2 = .ok (.getfield 31, 3) := by decide +kernel
theorem dX4_makeRule_5 : decode cX4_makeRule 5 = .ok (.sipush 400, 3) := by decide +kernel
theorem dX4_makeRule_8 : decode cX4_makeRule 8 = .ok (.invokestatic 41, 3) := by decide +kernel
theorem dX4_makeRule_11 : decode cX4_makeRule 11 = .ok (.invokestatic 47, 3) := by decide +kernel
theorem dX4_makeRule_14 : decode cX4_makeRule 14 = .ok (.istore_n 1, 1) := by decide +kernel
theorem dX4_makeRule_15 : decode cX4_makeRule 15 = .ok (.new 50, 3) := by decide +kernel
theorem dX4_makeRule_18 : decode cX4_makeRule 18 = .ok (.dup, 1) := by decide +kernel
theorem dX4_makeRule_19 : decode cX4_makeRule 19 = .ok (.aload_n 0, 1) := by decide +kernel
theorem dX4_makeRule_20 : decode cX4_makeRule 20 = .ok (.getfield 18, 3) := by decide +kernel
theorem dX4_makeRule_23 : decode cX4_makeRule 23 = .ok (.iload_n 1, 1) := by decide +kernel
theorem dX4_makeRule_24 : decode cX4_makeRule 24 = .ok (.invokestatic 52, 3) := by decide +kernel
theorem dX4_makeRule_27 : decode cX4_makeRule 27 = .ok (.aload_n 0, 1) := by decide +kernel
theorem dX4_makeRule_28 : decode cX4_makeRule 28 = .ok (.getfield 38, 3) := by decide +kernel
theorem dX4_makeRule_31 : decode cX4_makeRule 31 = .ok (.aload_n 0, 1) := by decide +kernel
theorem dX4_makeRule_32 : decode cX4_makeRule 32 = .ok (.getfield 22, 3) := by decide +kernel
theorem dX4_makeRule_35 : decode cX4_makeRule 35 = .ok (.invokevirtual 58, 3) := by decide +kernel
theorem dX4_makeRule_38 : decode cX4_makeRule 38 = .ok (.checkcast 59, 3) := by decide +kernel
theorem dX4_makeRule_41 : decode cX4_makeRule 41 = .ok (.aload_n 0, 1) := by decide +kernel
theorem dX4_makeRule_42 : decode cX4_makeRule 42 = .ok (.getfield 25, 3) := by decide +kernel
theorem dX4_makeRule_45 : decode cX4_makeRule 45 = .ok (.invokevirtual 58, 3) := by decide +kernel
theorem dX4_makeRule_48 : decode cX4_makeRule 48 = .ok (.checkcast 59, 3) := by decide +kernel
theorem dX4_makeRule_51 : decode cX4_makeRule 51 = .ok (.aload_n 0, 1) := by decide +kernel
theorem dX4_makeRule_52 : decode cX4_makeRule 52 = .ok (.getfield 28, 3) := by decide +kernel
theorem dX4_makeRule_55 : decode cX4_makeRule 55 = .ok (.invokevirtual 58, 3) := by decide +kernel
theorem dX4_makeRule_58 : decode cX4_makeRule 58 = .ok (.checkcast 59, 3) := by decide +kernel
theorem dX4_makeRule_61 : decode cX4_makeRule 61 = .ok (.invokespecial 63, 3) := by decide +kernel
theorem dX4_makeRule_64 : decode cX4_makeRule 64 = .ok (.areturn, 1) := by decide +kernel
theorem dX4_readClause_0 : decode cX4_readClause 0 = .ok (.aload_n 0, 1) := by decide +kernel
theorem dX4_readClause_1 : decode cX4_readClause 1 = .ok (.getfield 12, 3) := by decide +kernel
theorem dX4_readClause_4 : decode cX4_readClause 4 = .ok (.getfield 66, 3) := by decide +kernel
theorem dX4_readClause_7 : decode cX4_readClause 7 = .ok (.istore_n 1, 1) := by decide +kernel
theorem dX4_readClause_8 : decode cX4_readClause 8 = .ok (.iload_n 1, 1) := by decide +kernel
theorem dX4_readClause_9 : decode cX4_readClause 9 = .ok (.sipush 306, 3) := by decide +kernel
theorem dX4_readClause_12 : decode cX4_readClause 12 = .ok (.if_icmp .eq 19, 3) := by decide +kernel
theorem dX4_readClause_15 : decode cX4_readClause 15 = .ok (.iload_n 1, 1) := by decide +kernel
theorem dX4_readClause_16 : decode cX4_readClause 16 = .ok (.sipush 308, 3) := by decide +kernel
theorem dX4_readClause_19 : decode cX4_readClause 19 = .ok (.if_icmp .eq 12, 3) := by decide +kernel
theorem dX4_readClause_22 : decode cX4_readClause 22 = .ok (.aload_n 0, 1) := by decide +kernel
theorem dX4_readClause_23 : decode cX4_readClause 23 = .ok (.getfield 12, 3) := by decide +kernel
theorem dX4_readClause_26 : decode cX4_readClause 26 = .ok (.iconst 0, 1) := by decide +kernel
theorem dX4_readClause_27 : decode cX4_readClause 27 = .ok (.invokevirtual 68, 3) := by decide +kernel
theorem dX4_readClause_30 : decode cX4_readClause 30 = .ok (.return_, 1) := by decide +kernel
theorem dX4_readClause_31 : decode cX4_readClause 31 = .ok (.aload_n 0, 1) := by decide +kernel
theorem dX4_readClause_32 : decode cX4_readClause 32 = .ok (.getfield 38, 3) := by decide +kernel
theorem dX4_readClause_35 : decode cX4_readClause 35 = .ok (.bipush 12, 2) := by decide +kernel
theorem dX4_readClause_37 : decode cX4_readClause 37 = .ok (.if_icmp .lt 12, 3) := by decide +kernel
theorem dX4_readClause_40 : decode cX4_readClause 40 = .ok (.aload_n 0, 1) := by decide +kernel
theorem dX4_readClause_41 : decode cX4_readClause 41 = .ok (.getfield 12, 3) := by decide +kernel
theorem dX4_readClause_44 : decode cX4_readClause 44 = .ok (.iconst 4, 1) := by decide +kernel
theorem dX4_readClause_45 : decode cX4_readClause 45 = .ok (.invokevirtual 68, 3) := by decide +kernel
theorem dX4_readClause_48 : decode cX4_readClause 48 = .ok (.return_, 1) := by decide +kernel
theorem dX4_readClause_49 : decode cX4_readClause 49 = .ok (.aload_n 0, 1) := by decide +kernel
theorem dX4_readClause_50 : decode cX4_readClause 50 = .ok (.getfield 12, 3) := by decide +kernel
theorem dX4_readClause_53 : decode cX4_readClause 53 = .ok (.invokevirtual 72, 3) := by decide +kernel
theorem dX4_readClause_56 : decode cX4_readClause 56 = .ok (.aload_n 0, 1) := by decide +kernel
theorem dX4_readClause_57 : decode cX4_readClause 57 = .ok (.getfield 22, 3) := by decide +kernel
theorem dX4_readClause_60 : decode cX4_readClause 60 = .ok (.aload_n 0, 1) := by decide +kernel
theorem dX4_readClause_61 : decode cX4_readClause 61 = .ok (.getfield 38, 3) := by decide +kernel
theorem dX4_readClause_64 : decode cX4_readClause 64 = .ok (.aload_n 0, 1) := by decide +kernel
theorem dX4_readClause_65 : decode cX4_readClause 65 = .ok (.getfield 31, 3) := by decide +kernel
theorem dX4_readClause_68 : decode cX4_readClause 68 = .ok (.invokestatic 75, 3) := by decide +kernel
theorem dX4_readClause_71 : decode cX4_readClause 71 = .ok (.iload_n 1, 1) := by decide +kernel
theorem dX4_readClause_72 : decode cX4_readClause 72 = .ok (.sipush 308, 3) := by decide +kernel
theorem dX4_readClause_75 : decode cX4_readClause 75 = .ok (.if_icmp .ne 7, 3) := by decide +kernel
theorem dX4_readClause_78 : decode cX4_readClause 78 = .ok (.iconst 1, 1) := by decide +kernel
theorem dX4_readClause_79 : decode cX4_readClause 79 = .ok (.goto 4, 3) := by decide +kernel
theorem dX4_readClause_82 : decode cX4_readClause 82 = .ok (.iconst 0, 1) := by decide +kernel
theorem dX4_readClause_83 : decode cX4_readClause 83 = .ok (.istore_n 2, 1) := by decide +kernel
theorem dX4_readClause_84 : decode cX4_readClause 84 = .ok (.iload_n 1, 1) := by decide +kernel
theorem dX4_readClause_85 : decode cX4_readClause 85 = .ok (.sipush 306, 3) := by decide +kernel
theorem dX4_readClause_88 : decode cX4_readClause 88 = .ok (.if_icmp .ne 39, 3) := by decide +kernel
theorem dX4_readClause_91 : decode cX4_readClause 91 = .ok (.aload_n 0, 1) := by decide +kernel
theorem dX4_readClause_92 : decode cX4_readClause 92 = .ok (.invokevirtual 79, 3) := by decide +kernel
theorem dX4_readClause_95 : decode cX4_readClause 95 = .ok (.aload_n 0, 1) := by decide +kernel
theorem dX4_readClause_96 : decode cX4_readClause 96 = .ok (.getfield 12, 3) := by decide +kernel
theorem dX4_readClause_99 : decode cX4_readClause 99 = .ok (.getfield 82, 3) := by decide +kernel
theorem dX4_readClause_102 : decode cX4_readClause 102 = .ok (.ifCond .ne 25, 3) := by decide +kernel
theorem dX4_readClause_105 : decode cX4_readClause 105 = .ok (.aload_n 0, 1) := by decide +kernel
theorem dX4_readClause_106 : decode cX4_readClause 106 = .ok (.getfield 12, 3) := by decide +kernel
theorem dX4_readClause_109 : decode cX4_readClause 109 = .ok (.getfield 66, 3) := by decide +kernel
theorem dX4_readClause_112 : decode cX4_readClause 112 = .ok (.sipush 307, 3) := by decide +kernel
theorem dX4_readClause_115 : decode cX4_readClause 115 = .ok (.if_icmp .ne 12, 3) := by decide +kernel
theorem dX4_readClause_118 : decode cX4_readClause 118 = .ok (.iconst 1, 1) := by decide +kernel
theorem dX4_readClause_119 : decode cX4_readClause 119 = .ok (.istore_n 2, 1) := by decide +kernel
theorem dX4_readClause_120 : decode cX4_readClause 120 = .ok (.aload_n 0, 1) := by decide +kernel
theorem dX4_readClause_121 : decode cX4_readClause 121 = .ok (.getfield 12, 3) := by decide +kernel
theorem dX4_readClause_124 : decode cX4_readClause 124 = .ok (.invokevirtual 72, 3) := by decide +kernel
theorem dX4_readClause_127 : decode cX4_readClause 127 = .ok (.aload_n 0, 1) := by decide +kernel
theorem dX4_readClause_128 : decode cX4_readClause 128 = .ok (.getfield 25, 3) := by decide +kernel
theorem dX4_readClause_131 : decode cX4_readClause 131 = .ok (.aload_n 0, 1) := by decide +kernel
theorem dX4_readClause_132 : decode cX4_readClause 132 = .ok (.getfield 38, 3) := by decide +kernel
theorem dX4_readClause_135 : decode cX4_readClause 135 = .ok (.aload_n 0, 1) := by decide +kernel
theorem dX4_readClause_136 : decode cX4_readClause 136 = .ok (.getfield 31, 3) := by decide +kernel
theorem dX4_readClause_139 : decode cX4_readClause 139 = .ok (.invokestatic 75, 3) := by decide +kernel
theorem dX4_readClause_142 : decode cX4_readClause 142 = .ok (.iload_n 2, 1) := by decide +kernel
theorem dX4_readClause_143 : decode cX4_readClause 143 = .ok (.ifCond .eq 8, 3) := by decide +kernel
theorem dX4_readClause_146 : decode cX4_readClause 146 = .ok (.aload_n 0, 1) := by decide +kernel
theorem dX4_readClause_147 : decode cX4_readClause 147 = .ok (.iconst 0, 1) := by decide +kernel
theorem dX4_readClause_148 : decode cX4_readClause 148 = .ok (.invokevirtual 85, 3) := by decide +kernel
theorem dX4_readClause_151 : decode cX4_readClause 151 = .ok (.aload_n 0, 1) := by decide +kernel
theorem dX4_readClause_152 : decode cX4_readClause 152 = .ok (.getfield 28, 3) := by decide +kernel
theorem dX4_readClause_155 : decode cX4_readClause 155 = .ok (.aload_n 0, 1) := by decide +kernel
theorem dX4_readClause_156 : decode cX4_readClause 156 = .ok (.getfield 38, 3) := by decide +kernel
theorem dX4_readClause_159 : decode cX4_readClause 159 = .ok (.aload_n 0, 1) := by decide +kernel
theorem dX4_readClause_160 : decode cX4_readClause 160 = .ok (.getfield 31, 3) := by decide +kernel
theorem dX4_readClause_163 : decode cX4_readClause 163 = .ok (.invokestatic 75, 3) := by decide +kernel
theorem dX4_readClause_166 : decode cX4_readClause 166 = .ok (.aload_n 0, 1) := by decide +kernel
theorem dX4_readClause_167 : decode cX4_readClause 167 = .ok (.dup, 1) := by decide +kernel
theorem dX4_readClause_168 : decode cX4_readClause 168 = .ok (.getfield 38, 3) := by decide +kernel
theorem dX4_readClause_171 : decode cX4_readClause 171 = .ok (.iconst 1, 1) := by decide +kernel
theorem dX4_readClause_172 : decode cX4_readClause 172 = .ok (.iadd, 1) := by decide +kernel
theorem dX4_readClause_173 : decode cX4_readClause 173 = .ok (.putfield 38, 3) := by decide +kernel
theorem dX4_readClause_176 : decode cX4_readClause 176 = .ok (.return_, 1) := by decide +kernel
theorem dX4_readComparison_0 : decode cX4_readComparison 0 = .ok (.aload_n 0, 1) := by decide +kernel
theorem dX4_readComparison_1 : decode cX4_readComparison 1 = .ok (.invokevirtual 79, 3) := by decide +kernel
theorem dX4_readComparison_4 : decode cX4_readComparison 4 = .ok (.aload_n 0, 1) := by decide +kernel
theorem dX4_readComparison_5 : decode cX4_readComparison 5 = .ok (.getfield 12, 3) := by decide +kernel
theorem dX4_readComparison_8 : decode cX4_readComparison 8 = .ok (.getfield 82, 3) := by decide +kernel
theorem dX4_readComparison_11 : decode cX4_readComparison 11 = .ok (.ifCond .eq 4, 3) := by decide +kernel
theorem dX4_readComparison_14 : decode cX4_readComparison 14 = .ok (.return_, 1) := by decide +kernel
