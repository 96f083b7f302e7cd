theorem dX6_step_18 : decode cX6_step 18 = .ok (.aload_n 0, 1) := by decide +kernel
theorem dX6_step_19 : decode cX6_step 19 = .ok (.getfield 36, 3) := by decide +kernel
theorem dX6_step_22 : decode cX6_step 22 = .ok (.aload_n 0, 1) := by decide +kernel
theorem dX6_step_23 : decode cX6_step 23 = .ok (.getfield 9, 3) := by decide +kernel
theorem dX6_step_26 : decode cX6_step 26 = .ok (.arraylength, 1) := by decide +kernel
theorem dX6_step_27 : decode cX6_step 27 = .ok (.if_icmp .ge 52, 3) := by decide +kernel
theorem dX6_step_30 : decode cX6_step 30 = .ok (.aload_n 0, 1) := by decide +kernel
theorem dX6_step_31 : decode cX6_step 31 = .ok (.aload_n 0, 1) := by decide +kernel
theorem dX6_step_32 : decode cX6_step 32 = .ok (.getfield 9, 3) := by decide +kernel
theorem dX6_step_35 : decode cX6_step 35 = .ok (.aload_n 0, 1) := by decide +kernel
theorem dX6_step_36 : decode cX6_step 36 = .ok (.getfield 36, 3) := by decide +kernel
theorem dX6_step_39 : decode cX6_step 39 = .ok (.iaload, 1) := by decide +kernel
theorem dX6_step_40 : decode cX6_step 40 = .ok (.putfield 112, 3) := by decide +kernel
theorem dX6_step_43 : decode cX6_step 43 = .ok (.aload_n 0, 1) := by decide +kernel
theorem dX6_step_44 : decode cX6_step 44 = .ok (.aload_n 0, 1) := by decide +kernel
theorem dX6_step_45 : decode cX6_step 45 = .ok (.getfield 15, 3) := by decide +kernel
theorem dX6_step_48 : decode cX6_step 48 = .ok (.aload_n 0, 1) := by decide +kernel
theorem dX6_step_49 : decode cX6_step 49 = .ok (.getfield 36, 3) := by decide +kernel
theorem dX6_step_52 : decode cX6_step 52 = .ok (.iaload, 1) := by decide +kernel
theorem dX6_step_53 : decode cX6_step 53 = .ok (.putfield 115, 3) := by decide +kernel
theorem dX6_step_56 : decode cX6_step 56 = .ok (.aload_n 0, 1) := by decide +kernel
theorem dX6_step_57 : decode cX6_step 57 = .ok (.aload_n 0, 1) := by decide +kernel
theorem dX6_step_58 : decode cX6_step 58 = .ok (.getfield 18, 3) := by decide +kernel
theorem dX6_step_61 : decode cX6_step 61 = .ok (.aload_n 0, 1) := by decide +kernel
theorem dX6_step_62 : decode cX6_step 62 = .ok (.getfield 36, 3) := by decide +kernel
theorem dX6_step_65 : decode cX6_step 65 = .ok (.iaload, 1) := by decide +kernel
theorem dX6_step_66 : decode cX6_step 66 = .ok (.putfield 118, 3) := by decide +kernel
theorem dX6_step_69 : decode cX6_step 69 = .ok (.aload_n 0, 1) := by decide +kernel
theorem dX6_step_70 : decode cX6_step 70 = .ok (.dup, 1) := by decide +kernel
theorem dX6_step_71 : decode cX6_step 71 = .ok (.getfield 36, 3) := by decide +kernel
theorem dX6_step_74 : decode cX6_step 74 = .ok (.iconst 1, 1) := by decide +kernel
theorem dX6_step_75 : decode cX6_step 75 = .ok (.iadd, 1) := by decide +kernel
theorem dX6_step_76 : decode cX6_step 76 = .ok (.putfield 36, 3) := by decide +kernel
theorem dX6_step_79 : decode cX6_step 79 = .ok (.return_, 1) := by decide +kernel
theorem dX7_isOpen_0 : decode cX7_isOpen 0 = .ok (.iload_n 1, 1) := by decide +kernel
theorem dX7_isOpen_1 : decode cX7_isOpen 1 = .ok (.ifCond .lt 20, 3) := by decide +kernel
theorem dX7_isOpen_4 : decode cX7_isOpen 4 = .ok (.iload_n 1, 1) := by decide +kernel
theorem dX7_isOpen_5 : decode cX7_isOpen 5 = .ok (.aload_n 0, 1) := by decide +kernel
theorem dX7_isOpen_6 : decode cX7_isOpen 6 = .ok (.getfield 34, 3) := by decide +kernel
theorem dX7_isOpen_9 : decode cX7_isOpen 9 = .ok (.arraylength, 1) := by decide +kernel
theorem dX7_isOpen_10 : decode cX7_isOpen 10 = .ok (.if_icmp .ge 11, 3) := by decide +kernel
theorem dX7_isOpen_13 : decode cX7_isOpen 13 = .ok (.iload_n 2, 1) := by decide +kernel
theorem dX7_isOpen_14 : decode cX7_isOpen 14 = .ok (.iload_n 1, 1) := by decide +kernel
theorem dX7_isOpen_15 : decode cX7_isOpen 15 = .ok (.ishr, 1) := by decide +kernel
theorem dX7_isOpen_16 : decode cX7_isOpen 16 = .ok (.iconst 1, 1) := by decide +kernel
theorem dX7_isOpen_17 : decode cX7_isOpen 17 = .ok (.iand, 1) := by decide +kernel
theorem dX7_isOpen_18 : decode cX7_isOpen 18 = .ok (.ifCond .eq 5, 3) := by decide +kernel
theorem dX7_isOpen_21 : decode cX7_isOpen 21 = .ok (.iconst 0, 1) := by decide +kernel
theorem dX7_isOpen_22 : decode cX7_isOpen 22 = .ok (.ireturn, 1) := by decide +kernel
theorem dX7_isOpen_23 : decode cX7_isOpen 23 = .ok (.aload_n 0, 1) := by decide +kernel
theorem dX7_isOpen_24 : decode cX7_isOpen 24 = .ok (.getfield 34, 3) := by decide +kernel
theorem dX7_isOpen_27 : decode cX7_isOpen 27 = .ok (.iload_n 1, 1) := by decide +kernel
theorem dX7_isOpen_28 : decode cX7_isOpen 28 = .ok (.iaload, 1) := by decide +kernel
theorem dX7_isOpen_29 : decode cX7_isOpen 29 = .ok (.istore_n 3, 1) := by decide +kernel
theorem dX7_isOpen_30 : decode cX7_isOpen 30 = .ok (.iload_n 3, 1) := by decide +kernel
theorem dX7_isOpen_31 : decode cX7_isOpen 31 = .ok (.ifCond .lt 11, 3) := by decide +kernel
theorem dX7_isOpen_34 : decode cX7_isOpen 34 = .ok (.iload_n 2, 1) := by decide +kernel
theorem dX7_isOpen_35 : decode cX7_isOpen 35 = .ok (.iload_n 3, 1) := by decide +kernel
theorem dX7_isOpen_36 : decode cX7_isOpen 36 = .ok (.ishr, 1) := by decide +kernel
theorem dX7_isOpen_37 : decode cX7_isOpen 37 = .ok (.iconst 1, 1) := by decide +kernel
theorem dX7_isOpen_38 : decode cX7_isOpen 38 = .ok (.iand, 1) := by decide +kernel
theorem dX7_isOpen_39 : decode cX7_isOpen 39 = .ok (.ifCond .eq 7, 3) := by decide +kernel
theorem dX7_isOpen_42 : decode cX7_isOpen 42 = .ok (.iconst 1, 1) := by decide +kernel
theorem dX7_isOpen_43 : decode cX7_isOpen 43 = .ok (.goto 4, 3) := by decide +kernel
theorem dX7_isOpen_46 : decode cX7_isOpen 46 = .ok (.iconst 0, 1) := by decide +kernel
theorem dX7_isOpen_47 : decode cX7_isOpen 47 = .ok (.ireturn, 1) := by decide +kernel
theorem dX7_mostByOneLook_0 : decode cX7_mostByOneLook 0 = .ok (.iconst 0, 1) := by decide +kernel
theorem dX7_mostByOneLook_1 : decode cX7_mostByOneLook 1 = .ok (.istore_n 3, 1) := by decide +kernel
theorem dX7_mostByOneLook_2 : decode cX7_mostByOneLook 2 = .ok (.iload_n 3, 1) := by decide +kernel
theorem dX7_mostByOneLook_3 : decode cX7_mostByOneLook 3 = .ok (.aload_n 0, 1) := by decide +kernel
theorem dX7_mostByOneLook_4 : decode cX7_mostByOneLook 4 = .ok (.getfield 65, 3) := by decide +kernel
theorem dX7_mostByOneLook_7 : decode cX7_mostByOneLook 7 = .ok (.if_icmp .ge 52, 3) := by decide +kernel
theorem dX7_mostByOneLook_10 : decode cX7_mostByOneLook 10 = .ok (.aload_n 0, 1) := by decide +kernel
theorem dX7_mostByOneLook_11 : decode cX7_mostByOneLook 11 = .ok (.getfield 49, 3) := by decide +kernel
theorem dX7_mostByOneLook_14 : decode cX7_mostByOneLook 14 = .ok (.iload_n 3, 1) := by decide +kernel
theorem dX7_mostByOneLook_15 : decode cX7_mostByOneLook 15 = .ok (.invokestatic 78, 3) := by decide +kernel
theorem dX7_mostByOneLook_18 : decode cX7_mostByOneLook 18 = .ok (.istore 4, 2) := by decide +kernel
theorem dX7_mostByOneLook_20 : decode cX7_mostByOneLook 20 = .ok (.aload_n 0, 1) := by decide +kernel
theorem dX7_mostByOneLook_21 : decode cX7_mostByOneLook 21 = .ok (.getfield 28, 3) := by decide +kernel
theorem dX7_mostByOneLook_24 : decode cX7_mostByOneLook 24 = .ok (.iload 4, 2) := by decide +kernel
theorem dX7_mostByOneLook_26 : decode cX7_mostByOneLook 26 = .ok (.invokestatic 78, 3) := by decide +kernel
theorem dX7_mostByOneLook_29 : decode cX7_mostByOneLook 29 = .ok (.iload_n 2, 1) := by decide +kernel
theorem dX7_mostByOneLook_30 : decode cX7_mostByOneLook 30 = .ok (.if_icmp .gt 23, 3) := by decide +kernel
theorem dX7_mostByOneLook_33 : decode cX7_mostByOneLook 33 = .ok (.aload_n 0, 1) := by decide +kernel
theorem dX7_mostByOneLook_34 : decode cX7_mostByOneLook 34 = .ok (.iload 4, 2) := by decide +kernel
theorem dX7_mostByOneLook_36 : decode cX7_mostByOneLook 36 = .ok (.iload_n 1, 1) := by decide +kernel
theorem dX7_mostByOneLook_37 : decode cX7_mostByOneLook 37 = .ok (.invokevirtual 118, 3) := by decide +kernel
theorem dX7_mostByOneLook_40 : decode cX7_mostByOneLook 40 = .ok (.ifCond .eq 13, 3) := by decide +kernel
theorem dX7_mostByOneLook_43 : decode cX7_mostByOneLook 43 = .ok (.aload_n 0, 1) := by decide +kernel
theorem dX7_mostByOneLook_44 : decode cX7_mostByOneLook 44 = .ok (.getfield 46, 3) := by decide +kernel
theorem dX7_mostByOneLook_47 : decode cX7_mostByOneLook 47 = .ok (.iload 4, 2) := by decide +kernel
theorem dX7_mostByOneLook_49 : decode cX7_mostByOneLook 49 = .ok (.invokestatic 78, 3) := by decide +kernel
theorem dX7_mostByOneLook_52 : decode cX7_mostByOneLook 52 = .ok (.ireturn, 1) := by decide +kernel
theorem dX7_mostByOneLook_53 : decode cX7_mostByOneLook 53 = .ok (.iinc 3 1, 3) := by decide +kernel
theorem dX7_mostByOneLook_56 : decode cX7_mostByOneLook 56 = .ok (.goto (-54), 3) := by decide +kernel
theorem dX7_mostByOneLook_59 : decode cX7_mostByOneLook 59 = .ok (.iconst 0, 1) := by decide +kernel
theorem dX7_mostByOneLook_60 : decode cX7_mostByOneLook 60 = .ok (.ireturn, 1) := by decide +kernel
theorem dX7_orderLooks_0 : decode cX7_orderLooks 0 = .ok (.iconst 0, 1) := by decide +kernel
theorem dX7_orderLooks_1 : decode cX7_orderLooks 1 = .ok (.istore_n 1, 1) := by decide +kernel
theorem dX7_orderLooks_2 : decode cX7_orderLooks 2 = .ok (.iload_n 1, 1) := by decide +kernel
theorem dX7_orderLooks_3 : decode cX7_orderLooks 3 = .ok (.aload_n 0, 1) := by decide +kernel
theorem dX7_orderLooks_4 : decode cX7_orderLooks 4 = .ok (.getfield 65, 3) := by decide +kernel
theorem dX7_orderLooks_7 : decode cX7_orderLooks 7 = .ok (.if_icmp .ge 120, 3) := by decide +kernel
theorem dX7_orderLooks_10 : decode cX7_orderLooks 10 = .ok (.aload_n 0, 1) := by decide +kernel
theorem dX7_orderLooks_11 : decode cX7_orderLooks 11 = .ok (.aload_n 0, 1) := by decide +kernel
theorem dX7_orderLooks_12 : decode cX7_orderLooks 12 = .ok (.getfield 75, 3) := by decide +kernel
theorem dX7_orderLooks_15 : decode cX7_orderLooks 15 = .ok (.aload_n 0, 1) := by decide +kernel
theorem dX7_orderLooks_16 : decode cX7_orderLooks 16 = .ok (.getfield 28, 3) := by decide +kernel
theorem dX7_orderLooks_19 : decode cX7_orderLooks 19 = .ok (.iload_n 1, 1) := by decide +kernel
theorem dX7_orderLooks_20 : decode cX7_orderLooks 20 = .ok (.invokestatic 78, 3) := by decide +kernel
theorem dX7_orderLooks_23 : decode cX7_orderLooks 23 = .ok (.invokestatic 82, 3) := by decide +kernel
theorem dX7_orderLooks_26 : decode cX7_orderLooks 26 = .ok (.putfield 75, 3) := by decide +kernel
theorem dX7_orderLooks_29 : decode cX7_orderLooks 29 = .ok (.aload_n 0, 1) := by decide +kernel
theorem dX7_orderLooks_30 : decode cX7_orderLooks 30 = .ok (.getfield 46, 3) := by decide +kernel
theorem dX7_orderLooks_33 : decode cX7_orderLooks 33 = .ok (.iload_n 1, 1) := by decide +kernel
theorem dX7_orderLooks_34 : decode cX7_orderLooks 34 = .ok (.aload_n 0, 1) := by decide +kernel
theorem dX7_orderLooks_35 : decode cX7_orderLooks 35 = .ok (.getfield 31, 3) := by decide +kernel
theorem dX7_orderLooks_38 : decode cX7_orderLooks 38 = .ok (.iload_n 1, 1) := by decide +kernel
theorem dX7_orderLooks_39 : decode cX7_orderLooks 39 = .ok (.invokestatic 78, 3) := by decide +kernel
theorem dX7_orderLooks_42 : decode cX7_orderLooks 42 = .ok (.aload_n 0, 1) := by decide +kernel
theorem dX7_orderLooks_43 : decode cX7_orderLooks 43 = .ok (.getfield 37, 3) := by decide +kernel
theorem dX7_orderLooks_46 : decode cX7_orderLooks 46 = .ok (.iload_n 1, 1) := by decide +kernel
theorem dX7_orderLooks_47 : decode cX7_orderLooks 47 = .ok (.invokestatic 78, 3) := by decide +kernel
theorem dX7_orderLooks_50 : decode cX7_orderLooks 50 = .ok (.imul, 1) := by decide +kernel
theorem dX7_orderLooks_51 : decode cX7_orderLooks 51 = .ok (.invokestatic 88, 3) := by decide +kernel
theorem dX7_orderLooks_54 : decode cX7_orderLooks 54 = .ok (.iload_n 1, 1) := by decide +kernel
theorem dX7_orderLooks_55 : decode cX7_orderLooks 55 = .ok (.istore_n 2, 1) := by decide +kernel
theorem dX7_orderLooks_56 : decode cX7_orderLooks 56 = .ok (.iload_n 2, 1) := by decide +kernel
theorem dX7_orderLooks_57 : decode cX7_orderLooks 57 = .ok (.ifCond .le 55, 3) := by decide +kernel
theorem dX7_orderLooks_60 : decode cX7_orderLooks 60 = .ok (.aload_n 0, 1) := by decide +kernel
theorem dX7_orderLooks_61 : decode cX7_orderLooks 61 = .ok (.getfield 46, 3) := by decide +kernel
theorem dX7_orderLooks_64 : decode cX7_orderLooks 64 = .ok (.aload_n 0, 1) := by decide +kernel
theorem dX7_orderLooks_65 : decode cX7_orderLooks 65 = .ok (.getfield 49, 3) := by decide +kernel
theorem dX7_orderLooks_68 : decode cX7_orderLooks 68 = .ok (.iload_n 2, 1) := by decide +kernel
theorem dX7_orderLooks_69 : decode cX7_orderLooks 69 = .ok (.iconst 1, 1) := by decide +kernel
theorem dX7_orderLooks_70 : decode cX7_orderLooks 70 = .ok (.isub, 1) := by decide +kernel
theorem dX7_orderLooks_71 : decode cX7_orderLooks 71 = .ok (.invokestatic 78, 3) := by decide +kernel
theorem dX7_orderLooks_74 : decode cX7_orderLooks 74 = .ok (.invokestatic 78, 3) := by decide +kernel
theorem dX7_orderLooks_77 : decode cX7_orderLooks 77 = .ok (.aload_n 0, 1) := by decide +kernel
theorem dX7_orderLooks_78 : decode cX7_orderLooks 78 = .ok (.getfield 46, 3) := by decide +kernel
theorem dX7_orderLooks_81 : decode cX7_orderLooks 81 = .ok (.iload_n 1, 1) := by decide +kernel
theorem dX7_orderLooks_82 : decode cX7_orderLooks 82 = .ok (.invokestatic 78, 3) := by decide +kernel
theorem dX7_orderLooks_85 : decode cX7_orderLooks 85 = .ok (.if_icmp .ge 27, 3) := by decide +kernel
theorem dX7_orderLooks_88 : decode cX7_orderLooks 88 = .ok (.aload_n 0, 1) := by decide +kernel
theorem dX7_orderLooks_89 : decode cX7_orderLooks 89 = .ok (.getfield 49, 3) := by decide +kernel
theorem dX7_orderLooks_92 : decode cX7_orderLooks 92 = .ok (.iload_n 2, 1) := by decide +kernel
theorem dX7_orderLooks_93 : decode cX7_orderLooks 93 = .ok (.aload_n 0, 1) := by decide +kernel
theorem dX7_orderLooks_94 : decode cX7_orderLooks 94 = .ok (.getfield 49, 3) := by decide +kernel
theorem dX7_orderLooks_97 : decode cX7_orderLooks 97 = .ok (.iload_n 2, 1) := by decide +kernel
theorem dX7_orderLooks_98 : decode cX7_orderLooks 98 = .ok (.iconst 1, 1) := by decide +kernel
theorem dX7_orderLooks_99 : decode cX7_orderLooks 99 = .ok (.isub, 1) := by decide +kernel
theorem dX7_orderLooks_100 : decode cX7_orderLooks 100 = .ok (.invokestatic 78, 3) := by decide +kernel
theorem dX7_orderLooks_103 : decode cX7_orderLooks 103 = .ok (.invokestatic 88, 3) := by decide +kernel
theorem dX7_orderLooks_106 : decode cX7_orderLooks 106 = .ok (.iinc 2 (-1), 3) := by decide +kernel
theorem dX7_orderLooks_109 : decode cX7_orderLooks 109 = .ok (.goto (-53), 3) := by decide +kernel
theorem dX7_orderLooks_112 : decode cX7_orderLooks 112 = .ok (.aload_n 0, 1) := by decide +kernel
theorem dX7_orderLooks_113 : decode cX7_orderLooks 113 = .ok (.getfield 49, 3) := by decide +kernel
theorem dX7_orderLooks_116 : decode cX7_orderLooks 116 = .ok (.iload_n 2, 1) := by decide +kernel
theorem dX7_orderLooks_117 : decode cX7_orderLooks 117 = .ok (.iload_n 1, 1) := by decide +kernel
theorem dX7_orderLooks_118 : decode cX7_orderLooks 118 = .ok (.invokestatic 88, 3) := by decide +kernel
theorem dX7_orderLooks_121 : decode cX7_orderLooks 121 = .ok (.iinc 1 1, 3) := by decide +kernel
theorem dX7_orderLooks_124 : decode cX7_orderLooks 124 = .ok (.goto (-122), 3) := by decide +kernel
theorem dX7_orderLooks_127 : decode cX7_orderLooks 127 = .ok (.return_, 1) := by decide +kernel
theorem dX8_at_0 : decode cX8_at 0 = .ok (.iload_n 1, 1) := by decide +kernel
theorem dX8_at_1 : decode cX8_at 1 = .ok (.ifCond .lt 15, 3) := by decide +kernel
theorem dX8_at_4 : decode cX8_at 4 = .ok (.iload_n 1, 1) := by decide +kernel
theorem dX8_at_5 : decode cX8_at 5 = .ok (.aload_n 0, 1) := by decide +kernel
theorem dX8_at_6 : decode cX8_at 6 = .ok (.arraylength, 1) := by decide +kernel
theorem dX8_at_7 : decode cX8_at 7 = .ok (.if_icmp .ge 9, 3) := by decide +kernel
theorem dX8_at_10 : decode cX8_at 10 = .ok (.aload_n 0, 1) := by decide +kernel
theorem dX8_at_11 : decode cX8_at 11 = .ok (.iload_n 1, 1) := by decide +kernel
theorem dX8_at_12 : decode cX8_at 12 = .ok (.iaload, 1) := by decide +kernel
theorem dX8_at_13 : decode cX8_at 13 = .ok (.goto 4, 3) := by decide +kernel
theorem dX8_at_16 : decode cX8_at 16 = .ok (.iconst 0, 1) := by decide +kernel
theorem dX8_at_17 : decode cX8_at 17 = .ok (.ireturn, 1) := by decide +kernel
theorem dX8_back_0 : decode cX8_back 0 = .ok (.iload_n 1, 1) := by decide +kernel
theorem dX8_back_1 : decode cX8_back 1 = .ok (.ifCond .lt 12, 3) := by decide +kernel
theorem dX8_back_4 : decode cX8_back 4 = .ok (.iload_n 1, 1) := by decide +kernel
theorem dX8_back_5 : decode cX8_back 5 = .ok (.aload_n 0, 1) := by decide +kernel
theorem dX8_back_6 : decode cX8_back 6 = .ok (.getfield 43, 3) := by decide +kernel
theorem dX8_back_9 : decode cX8_back 9 = .ok (.arraylength, 1) := by decide +kernel
theorem dX8_back_10 : decode cX8_back 10 = .ok (.if_icmp .lt 5, 3) := by decide +kernel
theorem dX8_back_15 : decode cX8_back 15 = .ok (.aload_n 0, 1) := by decide +kernel
theorem dX8_back_16 : decode cX8_back 16 = .ok (.getfield 43, 3) := by decide +kernel
theorem dX8_back_19 : decode cX8_back 19 = .ok (.iload_n 1, 1) := by decide +kernel
theorem dX8_back_20 : decode cX8_back 20 = .ok (.aaload, 1) := by decide +kernel
theorem dX8_back_21 : decode cX8_back 21 = .ok (.astore_n 2, 1) := by decide +kernel
theorem dX8_back_22 : decode cX8_back 22 = .ok (.aload_n 2, 1) := by decide +kernel
theorem dX8_back_23 : decode cX8_back 23 = .ok (.ifnonnull 5, 3) := by decide +kernel
theorem dX8_back_28 : decode cX8_back 28 = .ok (.aload_n 0, 1) := by decide +kernel
theorem dX8_back_29 : decode cX8_back 29 = .ok (.getfield 39, 3) := by decide +kernel
theorem dX8_back_32 : decode cX8_back 32 = .ok (.aload_n 2, 1) := by decide +kernel
theorem dX8_back_33 : decode cX8_back 33 = .ok (.invokevirtual 300, 3) := by decide +kernel
theorem dX8_back_36 : decode cX8_back 36 = .ok (.aload_n 0, 1) := by decide +kernel
theorem dX8_back_37 : decode cX8_back 37 = .ok (.getfield 39, 3) := by decide +kernel
theorem dX8_back_40 : decode cX8_back 40 = .ok (.getfield 193, 3) := by decide +kernel
theorem dX8_back_43 : decode cX8_back 43 = .ok (.ireturn, 1) := by decide +kernel
theorem dX8_bit_0 : decode cX8_bit 0 = .ok (.iconst 1, 1) := by decide +kernel
theorem dX8_bit_1 : decode cX8_bit 1 = .ok (.iload_n 0, 1) := by decide +kernel
theorem dX8_bit_2 : decode cX8_bit 2 = .ok (.ishl, 1) := by decide +kernel
theorem dX8_bit_3 : decode cX8_bit 3 = .ok (.ireturn, 1) := by decide +kernel
theorem dX8_day_0 : decode cX8_day 0 = .ok (.aload_n 0, 1) := by decide +kernel
theorem dX8_day_1 : decode cX8_day 1 = .ok (.iload_n 1, 1) := by decide +kernel
theorem dX8_day_2 : decode cX8_day 2 = .ok (.invokevirtual 228, 3) := by decide +kernel
theorem dX8_day_5 : decode cX8_day 5 = .ok (.astore_n 2, 1) := by decide +kernel
theorem dX8_day_6 : decode cX8_day 6 = .ok (.aload_n 2, 1) := by decide +kernel
theorem dX8_day_7 : decode cX8_day 7 = .ok (.ifnonnull 6, 3) := by decide +kernel
theorem dX8_day_13 : decode cX8_day 13 = .ok (.aload_n 0, 1) := by decide +kernel
theorem dX8_day_14 : decode cX8_day 14 = .ok (.getfield 39, 3) := by decide +kernel
theorem dX8_day_17 : decode cX8_day 17 = .ok (.getfield 143, 3) := by decide +kernel
theorem dX8_day_20 : decode cX8_day 20 = .ok (.getfield 199, 3) := by decide +kernel
theorem dX8_day_23 : decode cX8_day 23 = .ok (.istore_n 3, 1) := by decide +kernel
theorem dX8_day_24 : decode cX8_day 24 = .ok (.aload_n 0, 1) := by decide +kernel
theorem dX8_day_25 : decode cX8_day 25 = .ok (.getfield 64, 3) := by decide +kernel
theorem dX8_day_28 : decode cX8_day 28 = .ok (.aload_n 0, 1) := by decide +kernel
theorem dX8_day_29 : decode cX8_day 29 = .ok (.getfield 39, 3) := by decide +kernel
theorem dX8_day_32 : decode cX8_day 32 = .ok (.getfield 119, 3) := by decide +kernel
theorem dX8_day_35 : decode cX8_day 35 = .ok (.aload_n 2, 1) := by decide +kernel
theorem dX8_day_36 : decode cX8_day 36 = .ok (.aload_n 0, 1) := by decide +kernel
theorem dX8_day_37 : decode cX8_day 37 = .ok (.getfield 39, 3) := by decide +kernel
theorem dX8_day_40 : decode cX8_day 40 = .ok (.getfield 143, 3) := by decide +kernel
theorem dX8_day_43 : decode cX8_day 43 = .ok (.invokevirtual 232, 3) := by decide +kernel
theorem dX8_day_46 : decode cX8_day 46 = .ok (.pop, 1) := by decide +kernel
theorem dX8_day_47 : decode cX8_day 47 = .ok (.aload_n 0, 1) := by decide +kernel
theorem dX8_day_48 : decode cX8_day 48 = .ok (.getfield 39, 3) := by decide +kernel
theorem dX8_day_51 : decode cX8_day 51 = .ok (.getfield 143, 3) := by decide +kernel
theorem dX8_day_54 : decode cX8_day 54 = .ok (.getfield 199, 3) := by decide +kernel
theorem dX8_day_57 : decode cX8_day 57 = .ok (.iload_n 3, 1) := by decide +kernel
theorem dX8_day_58 : decode cX8_day 58 = .ok (.isub, 1) := by decide +kernel
theorem dX8_day_59 : decode cX8_day 59 = .ok (.ireturn, 1) := by decide +kernel
theorem dX8_hasWork_0 : decode cX8_hasWork 0 = .ok (.aload_n 0, 1) := by decide +kernel
theorem dX8_hasWork_1 : decode cX8_hasWork 1 = .ok (.getfield 39, 3) := by decide +kernel
theorem dX8_hasWork_4 : decode cX8_hasWork 4 = .ok (.getfield 119, 3) := by decide +kernel
theorem dX8_hasWork_7 : decode cX8_hasWork 7 = .ok (.getfield 102, 3) := by decide +kernel
theorem dX8_hasWork_10 : decode cX8_hasWork 10 = .ok (.ifCond .le 7, 3) := by decide +kernel
theorem dX8_hasWork_13 : decode cX8_hasWork 13 = .ok (.iconst 1, 1) := by decide +kernel
theorem dX8_hasWork_14 : decode cX8_hasWork 14 = .ok (.goto 4, 3) := by decide +kernel
theorem dX8_hasWork_17 : decode cX8_hasWork 17 = .ok (.iconst 0, 1) := by decide +kernel
theorem dX8_hasWork_18 : decode cX8_hasWork 18 = .ok (.ireturn, 1) := by decide +kernel
theorem dX8_hundreds_0 : decode cX8_hundreds 0 = .ok (.lconst 1, 1) := by decide +kernel
theorem dX8_hundreds_1 : decode cX8_hundreds 1 = .ok (.lstore_n 1, 1) := by decide +kernel
theorem dX8_hundreds_2 : decode cX8_hundreds 2 = .ok (.iconst 0, 1) := by decide +kernel
theorem dX8_hundreds_3 : decode cX8_hundreds 3 = .ok (.istore_n 3, 1) := by decide +kernel
theorem dX8_hundreds_4 : decode cX8_hundreds 4 = .ok (.iload_n 3, 1) := by decide +kernel
theorem dX8_hundreds_5 : decode cX8_hundreds 5 = .ok (.iload_n 0, 1) := by decide +kernel
theorem dX8_hundreds_6 : decode cX8_hundreds 6 = .ok (.if_icmp .ge 21, 3) := by decide +kernel
theorem dX8_hundreds_9 : decode cX8_hundreds 9 = .ok (.iload_n 3, 1) := by decide +kernel
theorem dX8_hundreds_10 : decode cX8_hundreds 10 = .ok (.bipush 8, 2) := by decide +kernel
theorem dX8_hundreds_12 : decode cX8_hundreds 12 = .ok (.if_icmp .ge 15, 3) := by decide +kernel
theorem dX8_hundreds_15 : decode cX8_hundreds 15 = .ok (.lload_n 1, 1) := by decide +kernel
theorem dX8_hundreds_16 : decode cX8_hundreds 16 = .ok (.ldc2_w 257, 3) := by decide +kernel
theorem dX8_hundreds_19 : decode cX8_hundreds 19 = .ok (.lmul, 1) := by decide +kernel
theorem dX8_hundreds_20 : decode cX8_hundreds 20 = .ok (.lstore_n 1, 1) := by decide +kernel
theorem dX8_hundreds_21 : decode cX8_hundreds 21 = .ok (.iinc 3 1, 3) := by decide +kernel
theorem dX8_hundreds_24 : decode cX8_hundreds 24 = .ok (.goto (-20), 3) := by decide +kernel
theorem dX8_hundreds_27 : decode cX8_hundreds 27 = .ok (.lload_n 1, 1) := by decide +kernel
theorem dX8_hundreds_28 : decode cX8_hundreds 28 = .ok (.lreturn, 1) := by decide +kernel
theorem dX8_image_0 : decode cX8_image 0 = .ok (.iload_n 1, 1) := by decide +kernel
theorem dX8_image_1 : decode cX8_image 1 = .ok (.ifCond .lt 12, 3) := by decide +kernel
theorem dX8_image_4 : decode cX8_image 4 = .ok (.iload_n 1, 1) := by decide +kernel
theorem dX8_image_5 : decode cX8_image 5 = .ok (.aload_n 0, 1) := by decide +kernel
theorem dX8_image_6 : decode cX8_image 6 = .ok (.getfield 43, 3) := by decide +kernel
theorem dX8_image_9 : decode cX8_image 9 = .ok (.arraylength, 1) := by decide +kernel
theorem dX8_image_10 : decode cX8_image 10 = .ok (.if_icmp .lt 5, 3) := by decide +kernel
theorem dX8_image_15 : decode cX8_image 15 = .ok (.aload_n 0, 1) := by decide +kernel
theorem dX8_image_16 : decode cX8_image 16 = .ok (.getfield 43, 3) := by decide +kernel
theorem dX8_image_19 : decode cX8_image 19 = .ok (.iload_n 1, 1) := by decide +kernel
theorem dX8_image_20 : decode cX8_image 20 = .ok (.aaload, 1) := by decide +kernel
theorem dX8_image_21 : decode cX8_image 21 = .ok (.astore_n 2, 1) := by decide +kernel
theorem dX8_image_22 : decode cX8_image 22 = .ok (.aload_n 2, 1) := by decide +kernel
theorem dX8_image_23 : decode cX8_image 23 = .ok (.ifnonnull 25, 3) := by decide +kernel
theorem dX8_image_48 : decode cX8_image 48 = .ok (.aload_n 2, 1) := by decide +kernel
theorem dX8_image_49 : decode cX8_image 49 = .ok (.aload_n 0, 1) := by decide +kernel
theorem dX8_image_50 : decode cX8_image 50 = .ok (.getfield 39, 3) := by decide +kernel
theorem dX8_image_53 : decode cX8_image 53 = .ok (.invokevirtual 300, 3) := by decide +kernel
theorem dX8_image_56 : decode cX8_image 56 = .ok (.aload_n 0, 1) := by decide +kernel
theorem dX8_image_57 : decode cX8_image 57 = .ok (.getfield 39, 3) := by decide +kernel
theorem dX8_image_60 : decode cX8_image 60 = .ok (.getfield 193, 3) := by decide +kernel
theorem dX8_image_63 : decode cX8_image 63 = .ok (.ireturn, 1) := by decide +kernel
theorem dX8_mixed_0 : decode cX8_mixed 0 = .ok (.iload_n 1, 1) := by decide +kernel
theorem dX8_mixed_1 : decode cX8_mixed 1 = .ok (.ifCond .lt 17, 3) := by decide +kernel
theorem dX8_mixed_4 : decode cX8_mixed 4 = .ok (.iload_n 1, 1) := by decide +kernel
theorem dX8_mixed_5 : decode cX8_mixed 5 = .ok (.iconst 1, 1) := by decide +kernel
theorem dX8_mixed_6 : decode cX8_mixed 6 = .ok (.if_icmp .gt 12, 3) := by decide +kernel
theorem dX8_mixed_9 : decode cX8_mixed 9 = .ok (.iload_n 2, 1) := by decide +kernel
theorem dX8_mixed_10 : decode cX8_mixed 10 = .ok (.ifCond .lt 8, 3) := by decide +kernel
theorem dX8_mixed_13 : decode cX8_mixed 13 = .ok (.iload_n 2, 1) := by decide +kernel
theorem dX8_mixed_14 : decode cX8_mixed 14 = .ok (.iconst 1, 1) := by decide +kernel
theorem dX8_mixed_15 : decode cX8_mixed 15 = .ok (.if_icmp .le 5, 3) := by decide +kernel
theorem dX8_mixed_18 : decode cX8_mixed 18 = .ok (.iconst (-1), 1) := by decide +kernel
theorem dX8_mixed_19 : decode cX8_mixed 19 = .ok (.ireturn, 1) := by decide +kernel
theorem dX8_mixed_20 : decode cX8_mixed 20 = .ok (.aload_n 0, 1) := by decide +kernel
theorem dX8_mixed_21 : decode cX8_mixed 21 = .ok (.invokevirtual 286, 3) := by decide +kernel
theorem dX8_mixed_24 : decode cX8_mixed 24 = .ok (.ifCond .eq 6, 3) := by decide +kernel
theorem dX8_mixed_27 : decode cX8_mixed 27 = .ok (.bipush (-2), 2) := by decide +kernel
theorem dX8_mixed_29 : decode cX8_mixed 29 = .ok (.ireturn, 1) := by decide +kernel
theorem dX8_mixed_30 : decode cX8_mixed 30 = .ok (.aload_n 0, 1) := by decide +kernel
theorem dX8_mixed_31 : decode cX8_mixed 31 = .ok (.getfield 39, 3) := by decide +kernel
theorem dX8_mixed_34 : decode cX8_mixed 34 = .ok (.getfield 283, 3) := by decide +kernel
theorem dX8_mixed_37 : decode cX8_mixed 37 = .ok (.astore_n 3, 1) := by decide +kernel
theorem dX8_mixed_38 : decode cX8_mixed 38 = .ok (.iload_n 1, 1) := by decide +kernel
theorem dX8_mixed_39 : decode cX8_mixed 39 = .ok (.ifCond .ne 17, 3) := by decide +kernel
theorem dX8_mixed_42 : decode cX8_mixed 42 = .ok (.aload_n 3, 1) := by decide +kernel
theorem dX8_mixed_43 : decode cX8_mixed 43 = .ok (.iconst 4, 1) := by decide +kernel
theorem dX8_mixed_44 : decode cX8_mixed 44 = .ok (.invokestatic 129, 3) := by decide +kernel
theorem dX8_mixed_47 : decode cX8_mixed 47 = .ok (.aload_n 3, 1) := by decide +kernel
theorem dX8_mixed_48 : decode cX8_mixed 48 = .ok (.iconst 5, 1) := by decide +kernel
theorem dX8_mixed_49 : decode cX8_mixed 49 = .ok (.invokestatic 129, 3) := by decide +kernel
theorem dX8_mixed_52 : decode cX8_mixed 52 = .ok (.isub, 1) := by decide +kernel
theorem dX8_mixed_53 : decode cX8_mixed 53 = .ok (.goto 14, 3) := by decide +kernel
theorem dX8_mixed_56 : decode cX8_mixed 56 = .ok (.aload_n 3, 1) := by decide +kernel
theorem dX8_mixed_57 : decode cX8_mixed 57 = .ok (.iconst 0, 1) := by decide +kernel
theorem dX8_mixed_58 : decode cX8_mixed 58 = .ok (.invokestatic 129, 3) := by decide +kernel
theorem dX8_mixed_61 : decode cX8_mixed 61 = .ok (.aload_n 3, 1) := by decide +kernel
theorem dX8_mixed_62 : decode cX8_mixed 62 = .ok (.iconst 2, 1) := by decide +kernel
theorem dX8_mixed_63 : decode cX8_mixed 63 = .ok (.invokestatic 129, 3) := by decide +kernel
theorem dX8_mixed_66 : decode cX8_mixed 66 = .ok (.isub, 1) := by decide +kernel
theorem dX8_mixed_67 : decode cX8_mixed 67 = .ok (.istore 4, 2) := by decide +kernel
theorem dX8_mixed_69 : decode cX8_mixed 69 = .ok (.iload_n 1, 1) := by decide +kernel
theorem dX8_mixed_70 : decode cX8_mixed 70 = .ok (.ifCond .ne 19, 3) := by decide +kernel
theorem dX8_mixed_73 : decode cX8_mixed 73 = .ok (.aload_n 3, 1) := by decide +kernel
theorem dX8_mixed_74 : decode cX8_mixed 74 = .ok (.bipush 7, 2) := by decide +kernel
theorem dX8_mixed_76 : decode cX8_mixed 76 = .ok (.invokestatic 129, 3) := by decide +kernel
theorem dX8_mixed_79 : decode cX8_mixed 79 = .ok (.aload_n 3, 1) := by decide +kernel
theorem dX8_mixed_80 : decode cX8_mixed 80 = .ok (.bipush 6, 2) := by decide +kernel
theorem dX8_mixed_82 : decode cX8_mixed 82 = .ok (.invokestatic 129, 3) := by decide +kernel
theorem dX8_mixed_85 : decode cX8_mixed 85 = .ok (.isub, 1) := by decide +kernel
theorem dX8_mixed_86 : decode cX8_mixed 86 = .ok (.goto 14, 3) := by decide +kernel
theorem dX8_mixed_89 : decode cX8_mixed 89 = .ok (.aload_n 3, 1) := by decide +kernel
theorem dX8_mixed_90 : decode cX8_mixed 90 = .ok (.iconst 3, 1) := by decide +kernel
theorem dX8_mixed_91 : decode cX8_mixed 91 = .ok (.invokestatic 129, 3) := by decide +kernel
theorem dX8_mixed_94 : decode cX8_mixed 94 = .ok (.aload_n 3, 1) := by decide +kernel
theorem dX8_mixed_95 : decode cX8_mixed 95 = .ok (.iconst 1, 1) := by decide +kernel
theorem dX8_mixed_96 : decode cX8_mixed 96 = .ok (.invokestatic 129, 3) := by decide +kernel
theorem dX8_mixed_99 : decode cX8_mixed 99 = .ok (.isub, 1) := by decide +kernel
theorem dX8_mixed_100 : decode cX8_mixed 100 = .ok (.istore 5, 2) := by decide +kernel
theorem dX8_mixed_102 : decode cX8_mixed 102 = .ok (.iload 4, 2) := by decide +kernel
theorem dX8_mixed_104 : decode cX8_mixed 104 = .ok (.iload 5, 2) := by decide +kernel
theorem dX8_mixed_106 : decode cX8_mixed 106 = .ok (.iadd, 1) := by decide +kernel
theorem dX8_mixed_107 : decode cX8_mixed 107 = .ok (.ifCond .ge 9, 3) := by decide +kernel
theorem dX8_mixed_110 : decode cX8_mixed 110 = .ok (.iload 5, 2) := by decide +kernel
theorem dX8_mixed_112 : decode cX8_mixed 112 = .ok (.ineg, 1) := by decide +kernel
theorem dX8_mixed_113 : decode cX8_mixed 113 = .ok (.goto 5, 3) := by decide +kernel
theorem dX8_mixed_116 : decode cX8_mixed 116 = .ok (.iload 5, 2) := by decide +kernel
theorem dX8_mixed_118 : decode cX8_mixed 118 = .ok (.istore 6, 2) := by decide +kernel
theorem dX8_mixed_120 : decode cX8_mixed 120 = .ok (.iload 6, 2) := by decide +kernel
theorem dX8_mixed_122 : decode cX8_mixed 122 = .ok (.i2l, 1) := by decide +kernel
theorem dX8_mixed_123 : decode cX8_mixed 123 = .ok (.iload 4, 2) := by decide +kernel
theorem dX8_mixed_125 : decode cX8_mixed 125 = .ok (.iload 5, 2) := by decide +kernel
theorem dX8_mixed_127 : decode cX8_mixed 127 = .ok (.iadd, 1) := by decide +kernel
theorem dX8_mixed_128 : decode cX8_mixed 128 = .ok (.invokestatic 289, 3) := by decide +kernel
theorem dX8_mixed_131 : decode cX8_mixed 131 = .ok (.i2l, 1) := by decide +kernel
theorem dX8_mixed_132 : decode cX8_mixed 132 = .ok (.iload_n 2, 1) := by decide +kernel
theorem dX8_mixed_133 : decode cX8_mixed 133 = .ok (.invokestatic 253, 3) := by decide +kernel
theorem dX8_mixed_136 : decode cX8_mixed 136 = .ok (.l2i, 1) := by decide +kernel
theorem dX8_mixed_137 : decode cX8_mixed 137 = .ok (.ireturn, 1) := by decide +kernel
theorem dX8_partOf_0 : decode cX8_partOf 0 = .ok (.lload_n 0, 1) := by decide +kernel
theorem dX8_partOf_1 : decode cX8_partOf 1 = .ok (.invokestatic 303, 3) := by decide +kernel
theorem dX8_partOf_4 : decode cX8_partOf 4 = .ok (.lstore 5, 2) := by decide +kernel
theorem dX8_partOf_6 : decode cX8_partOf 6 = .ok (.lload_n 2, 1) := by decide +kernel
theorem dX8_partOf_7 : decode cX8_partOf 7 = .ok (.lstore 7, 2) := by decide +kernel
theorem dX8_partOf_9 : decode cX8_partOf 9 = .ok (.iconst 0, 1) := by decide +kernel
theorem dX8_partOf_10 : decode cX8_partOf 10 = .ok (.istore 9, 2) := by decide +kernel
theorem dX8_partOf_12 : decode cX8_partOf 12 = .ok (.iload 9, 2) := by decide +kernel
theorem dX8_partOf_14 : decode cX8_partOf 14 = .ok (.bipush 100, 2) := by decide +kernel
theorem dX8_partOf_16 : decode cX8_partOf 16 = .ok (.if_icmp .ge 31, 3) := by decide +kernel
theorem dX8_partOf_19 : decode cX8_partOf 19 = .ok (.lload 7, 2) := by decide +kernel
theorem dX8_partOf_21 : decode cX8_partOf 21 = .ok (.lconst 0, 1) := by decide +kernel
theorem dX8_partOf_22 : decode cX8_partOf 22 = .ok (.lcmp, 1) := by decide +kernel
theorem dX8_partOf_23 : decode cX8_partOf 23 = .ok (.ifCond .eq 24, 3) := by decide +kernel
theorem dX8_partOf_26 : decode cX8_partOf 26 = .ok (.lload 5, 2) := by decide +kernel
theorem dX8_partOf_28 : decode cX8_partOf 28 = .ok (.lload 7, 2) := by decide +kernel
theorem dX8_partOf_30 : decode cX8_partOf 30 = .ok (.lrem, 1) := by decide +kernel
theorem dX8_partOf_31 : decode cX8_partOf 31 = .ok (.lstore 10, 2) := by decide +kernel
theorem dX8_partOf_33 : decode cX8_partOf 33 = .ok (.lload 7, 2) := by decide +kernel
theorem dX8_partOf_35 : decode cX8_partOf 35 = .ok (.lstore 5, 2) := by decide +kernel
theorem dX8_partOf_37 : decode cX8_partOf 37 = .ok (.lload 10, 2) := by decide +kernel
theorem dX8_partOf_39 : decode cX8_partOf 39 = .ok (.lstore 7, 2) := by decide +kernel
theorem dX8_partOf_41 : decode cX8_partOf 41 = .ok (.iinc 9 1, 3) := by decide +kernel
theorem dX8_partOf_44 : decode cX8_partOf 44 = .ok (.goto (-32), 3) := by decide +kernel
theorem dX8_partOf_47 : decode cX8_partOf 47 = .ok (.lload 5, 2) := by decide +kernel
theorem dX8_partOf_49 : decode cX8_partOf 49 = .ok (.lconst 0, 1) := by decide +kernel
theorem dX8_partOf_50 : decode cX8_partOf 50 = .ok (.lcmp, 1) := by decide +kernel
theorem dX8_partOf_51 : decode cX8_partOf 51 = .ok (.ifCond .ne 14, 3) := by decide +kernel
theorem dX8_partOf_54 : decode cX8_partOf 54 = .ok (.iload 4, 2) := by decide +kernel
theorem dX8_partOf_56 : decode cX8_partOf 56 = .ok (.ifCond .ne 7, 3) := by decide +kernel
theorem dX8_partOf_59 : decode cX8_partOf 59 = .ok (.lload_n 0, 1) := by decide +kernel
theorem dX8_partOf_60 : decode cX8_partOf 60 = .ok (.goto 4, 3) := by decide +kernel
theorem dX8_partOf_63 : decode cX8_partOf 63 = .ok (.lload_n 2, 1) := by decide +kernel
theorem dX8_partOf_64 : decode cX8_partOf 64 = .ok (.lreturn, 1) := by decide +kernel
theorem dX8_partOf_65 : decode cX8_partOf 65 = .ok (.iload 4, 2) := by decide +kernel
theorem dX8_partOf_67 : decode cX8_partOf 67 = .ok (.ifCond .ne 7, 3) := by decide +kernel
theorem dX8_partOf_70 : decode cX8_partOf 70 = .ok (.lload_n 0, 1) := by decide +kernel
theorem dX8_partOf_71 : decode cX8_partOf 71 = .ok (.goto 4, 3) := by decide +kernel
theorem dX8_partOf_74 : decode cX8_partOf 74 = .ok (.lload_n 2, 1) := by decide +kernel
theorem dX8_partOf_75 : decode cX8_partOf 75 = .ok (.lload 5, 2) := by decide +kernel
theorem dX8_partOf_77 : decode cX8_partOf 77 = .ok (.ldiv, 1) := by decide +kernel
theorem dX8_partOf_78 : decode cX8_partOf 78 = .ok (.lreturn, 1) := by decide +kernel
theorem dX8_put_0 : decode cX8_put 0 = .ok (.iload_n 1, 1) := by decide +kernel
theorem dX8_put_1 : decode cX8_put 1 = .ok (.ifCond .lt 13, 3) := by decide +kernel
theorem dX8_put_4 : decode cX8_put 4 = .ok (.iload_n 1, 1) := by decide +kernel
theorem dX8_put_5 : decode cX8_put 5 = .ok (.aload_n 0, 1) := by decide +kernel
theorem dX8_put_6 : decode cX8_put 6 = .ok (.arraylength, 1) := by decide +kernel
theorem dX8_put_7 : decode cX8_put 7 = .ok (.if_icmp .ge 7, 3) := by decide +kernel
theorem dX8_put_10 : decode cX8_put 10 = .ok (.aload_n 0, 1) := by decide +kernel
theorem dX8_put_11 : decode cX8_put 11 = .ok (.iload_n 1, 1) := by decide +kernel
theorem dX8_put_12 : decode cX8_put 12 = .ok (.iload_n 2, 1) := by decide +kernel
theorem dX8_put_13 : decode cX8_put 13 = .ok (.iastore, 1) := by decide +kernel
theorem dX8_put_14 : decode cX8_put 14 = .ok (.return_, 1) := by decide +kernel
theorem dX8_rests_0 : decode cX8_rests 0 = .ok (.iconst 0, 1) := by decide +kernel
theorem dX8_rests_1 : decode cX8_rests 1 = .ok (.istore_n 1, 1) := by decide +kernel
theorem dX8_rests_2 : decode cX8_rests 2 = .ok (.iconst 0, 1) := by decide +kernel
theorem dX8_rests_3 : decode cX8_rests 3 = .ok (.istore_n 2, 1) := by decide +kernel
theorem dX8_rests_4 : decode cX8_rests 4 = .ok (.iload_n 2, 1) := by decide +kernel
theorem dX8_rests_5 : decode cX8_rests 5 = .ok (.iconst 4, 1) := by decide +kernel
theorem dX8_rests_6 : decode cX8_rests 6 = .ok (.if_icmp .ge 95, 3) := by decide +kernel
theorem dX8_rests_9 : decode cX8_rests 9 = .ok (.aload_n 0, 1) := by decide +kernel
theorem dX8_rests_10 : decode cX8_rests 10 = .ok (.getfield 39, 3) := by decide +kernel
theorem dX8_rests_13 : decode cX8_rests 13 = .ok (.getfield 283, 3) := by decide +kernel
theorem dX8_rests_16 : decode cX8_rests 16 = .ok (.iload_n 2, 1) := by decide +kernel
theorem dX8_rests_17 : decode cX8_rests 17 = .ok (.invokestatic 129, 3) := by decide +kernel
theorem dX8_rests_20 : decode cX8_rests 20 = .ok (.aload_n 0, 1) := by decide +kernel
theorem dX8_rests_21 : decode cX8_rests 21 = .ok (.getfield 39, 3) := by decide +kernel
theorem dX8_rests_24 : decode cX8_rests 24 = .ok (.getfield 283, 3) := by decide +kernel
theorem dX8_rests_27 : decode cX8_rests 27 = .ok (.iload_n 2, 1) := by decide +kernel
theorem dX8_rests_28 : decode cX8_rests 28 = .ok (.iconst 2, 1) := by decide +kernel
theorem dX8_rests_29 : decode cX8_rests 29 = .ok (.ixor, 1) := by decide +kernel
theorem dX8_rests_30 : decode cX8_rests 30 = .ok (.invokestatic 129, 3) := by decide +kernel
theorem dX8_rests_33 : decode cX8_rests 33 = .ok (.if_icmp .lt 7, 3) := by decide +kernel
theorem dX8_rests_36 : decode cX8_rests 36 = .ok (.iconst 1, 1) := by decide +kernel
theorem dX8_rests_37 : decode cX8_rests 37 = .ok (.goto 4, 3) := by decide +kernel
theorem dX8_rests_40 : decode cX8_rests 40 = .ok (.iconst 0, 1) := by decide +kernel
theorem dX8_rests_41 : decode cX8_rests 41 = .ok (.istore_n 3, 1) := by decide +kernel
theorem dX8_rests_42 : decode cX8_rests 42 = .ok (.aload_n 0, 1) := by decide +kernel
theorem dX8_rests_43 : decode cX8_rests 43 = .ok (.getfield 39, 3) := by decide +kernel
theorem dX8_rests_46 : decode cX8_rests 46 = .ok (.getfield 283, 3) := by decide +kernel
theorem dX8_rests_49 : decode cX8_rests 49 = .ok (.iconst 4, 1) := by decide +kernel
theorem dX8_rests_50 : decode cX8_rests 50 = .ok (.iload_n 2, 1) := by decide +kernel
theorem dX8_rests_51 : decode cX8_rests 51 = .ok (.iadd, 1) := by decide +kernel
theorem dX8_rests_52 : decode cX8_rests 52 = .ok (.invokestatic 129, 3) := by decide +kernel
theorem dX8_rests_55 : decode cX8_rests 55 = .ok (.aload_n 0, 1) := by decide +kernel
theorem dX8_rests_56 : decode cX8_rests 56 = .ok (.getfield 39, 3) := by decide +kernel
theorem dX8_rests_59 : decode cX8_rests 59 = .ok (.getfield 283, 3) := by decide +kernel
theorem dX8_rests_62 : decode cX8_rests 62 = .ok (.iconst 4, 1) := by decide +kernel
theorem dX8_rests_63 : decode cX8_rests 63 = .ok (.iload_n 2, 1) := by decide +kernel
theorem dX8_rests_64 : decode cX8_rests 64 = .ok (.iconst 1, 1) := by decide +kernel
theorem dX8_rests_65 : decode cX8_rests 65 = .ok (.ixor, 1) := by decide +kernel
theorem dX8_rests_66 : decode cX8_rests 66 = .ok (.iadd, 1) := by decide +kernel
theorem dX8_rests_67 : decode cX8_rests 67 = .ok (.invokestatic 129, 3) := by decide +kernel
theorem dX8_rests_70 : decode cX8_rests 70 = .ok (.if_icmp .lt 7, 3) := by decide +kernel
theorem dX8_rests_73 : decode cX8_rests 73 = .ok (.iconst 1, 1) := by decide +kernel
theorem dX8_rests_74 : decode cX8_rests 74 = .ok (.goto 4, 3) := by decide +kernel
theorem dX8_rests_77 : decode cX8_rests 77 = .ok (.iconst 0, 1) := by decide +kernel
theorem dX8_rests_78 : decode cX8_rests 78 = .ok (.istore 4, 2) := by decide +kernel
theorem dX8_rests_80 : decode cX8_rests 80 = .ok (.iload_n 3, 1) := by decide +kernel
theorem dX8_rests_81 : decode cX8_rests 81 = .ok (.ifCond .eq 14, 3) := by decide +kernel
theorem dX8_rests_84 : decode cX8_rests 84 = .ok (.iload 4, 2) := by decide +kernel
theorem dX8_rests_86 : decode cX8_rests 86 = .ok (.ifCond .eq 9, 3) := by decide +kernel
theorem dX8_rests_89 : decode cX8_rests 89 = .ok (.iload_n 1, 1) := by decide +kernel
theorem dX8_rests_90 : decode cX8_rests 90 = .ok (.iconst 1, 1) := by decide +kernel
theorem dX8_rests_91 : decode cX8_rests 91 = .ok (.iload_n 2, 1) := by decide +kernel
theorem dX8_rests_92 : decode cX8_rests 92 = .ok (.ishl, 1) := by decide +kernel
theorem dX8_rests_93 : decode cX8_rests 93 = .ok (.ior, 1) := by decide +kernel
theorem dX8_rests_94 : decode cX8_rests 94 = .ok (.istore_n 1, 1) := by decide +kernel
theorem dX8_rests_95 : decode cX8_rests 95 = .ok (.iinc 2 1, 3) := by decide +kernel
theorem dX8_rests_98 : decode cX8_rests 98 = .ok (.goto (-94), 3) := by decide +kernel
theorem dX8_rests_101 : decode cX8_rests 101 = .ok (.iload_n 1, 1) := by decide +kernel
theorem dX8_rests_102 : decode cX8_rests 102 = .ok (.ireturn, 1) := by decide +kernel
theorem dX8_rowMean_0 : decode cX8_rowMean 0 = .ok (.iload_n 1, 1) := by decide +kernel
theorem dX8_rowMean_1 : decode cX8_rowMean 1 = .ok (.aload_n 0, 1) := by decide +kernel
theorem dX8_rowMean_2 : decode cX8_rowMean 2 = .ok (.getfield 39, 3) := by decide +kernel
theorem dX8_rowMean_5 : decode cX8_rowMean 5 = .ok (.getfield 187, 3) := by decide +kernel
theorem dX8_rowMean_8 : decode cX8_rowMean 8 = .ok (.if_icmp .ge 9, 3) := by decide +kernel
theorem dX8_rowMean_11 : decode cX8_rowMean 11 = .ok (.iload_n 1, 1) := by decide +kernel
theorem dX8_rowMean_12 : decode cX8_rowMean 12 = .ok (.bipush 8, 2) := by decide +kernel
theorem dX8_rowMean_14 : decode cX8_rowMean 14 = .ok (.if_icmp .lt 5, 3) := by decide +kernel
theorem dX8_rowMean_17 : decode cX8_rowMean 17 = .ok (.lconst 0, 1) := by decide +kernel
theorem dX8_rowMean_18 : decode cX8_rowMean 18 = .ok (.lreturn, 1) := by decide +kernel
theorem dX8_rowMean_19 : decode cX8_rowMean 19 = .ok (.aload_n 0, 1) := by decide +kernel
theorem dX8_rowMean_20 : decode cX8_rowMean 20 = .ok (.getfield 39, 3) := by decide +kernel
theorem dX8_rowMean_23 : decode cX8_rowMean 23 = .ok (.getfield 240, 3) := by decide +kernel
theorem dX8_rowMean_26 : decode cX8_rowMean 26 = .ok (.iload_n 1, 1) := by decide +kernel
theorem dX8_rowMean_27 : decode cX8_rowMean 27 = .ok (.invokestatic 129, 3) := by decide +kernel
theorem dX8_rowMean_30 : decode cX8_rowMean 30 = .ok (.istore 5, 2) := by decide +kernel
theorem dX8_rowMean_32 : decode cX8_rowMean 32 = .ok (.aload_n 0, 1) := by decide +kernel
theorem dX8_rowMean_33 : decode cX8_rowMean 33 = .ok (.getfield 39, 3) := by decide +kernel
theorem dX8_rowMean_36 : decode cX8_rowMean 36 = .ok (.getfield 119, 3) := by decide +kernel
theorem dX8_rowMean_39 : decode cX8_rowMean 39 = .ok (.getfield 149, 3) := by decide +kernel
theorem dX8_rowMean_42 : decode cX8_rowMean 42 = .ok (.iload 5, 2) := by decide +kernel
theorem dX8_rowMean_44 : decode cX8_rowMean 44 = .ok (.invokestatic 129, 3) := by decide +kernel
theorem dX8_rowMean_47 : decode cX8_rowMean 47 = .ok (.istore 6, 2) := by decide +kernel
theorem dX8_rowMean_49 : decode cX8_rowMean 49 = .ok (.aload_n 0, 1) := by decide +kernel
theorem dX8_rowMean_50 : decode cX8_rowMean 50 = .ok (.getfield 39, 3) := by decide +kernel
theorem dX8_rowMean_53 : decode cX8_rowMean 53 = .ok (.getfield 119, 3) := by decide +kernel
theorem dX8_rowMean_56 : decode cX8_rowMean 56 = .ok (.iload 5, 2) := by decide +kernel
theorem dX8_rowMean_58 : decode cX8_rowMean 58 = .ok (.iload_n 2, 1) := by decide +kernel
theorem dX8_rowMean_59 : decode cX8_rowMean 59 = .ok (.invokevirtual 175, 3) := by decide +kernel
theorem dX8_rowMean_62 : decode cX8_rowMean 62 = .ok (.ifCond .eq 9, 3) := by decide +kernel
theorem dX8_rowMean_65 : decode cX8_rowMean 65 = .ok (.iload 6, 2) := by decide +kernel
theorem dX8_rowMean_67 : decode cX8_rowMean 67 = .ok (.iload_n 3, 1) := by decide +kernel
theorem dX8_rowMean_68 : decode cX8_rowMean 68 = .ok (.if_icmp .le 19, 3) := by decide +kernel
theorem dX8_rowMean_71 : decode cX8_rowMean 71 = .ok (.ldc2_w 257, 3) := by decide +kernel
theorem dX8_rowMean_74 : decode cX8_rowMean 74 = .ok (.aload_n 0, 1) := by decide +kernel
theorem dX8_rowMean_75 : decode cX8_rowMean 75 = .ok (.iload_n 1, 1) := by decide +kernel
theorem dX8_rowMean_76 : decode cX8_rowMean 76 = .ok (.iconst 1, 1) := by decide +kernel
theorem dX8_rowMean_77 : decode cX8_rowMean 77 = .ok (.iadd, 1) := by decide +kernel
theorem dX8_rowMean_78 : decode cX8_rowMean 78 = .ok (.iload_n 2, 1) := by decide +kernel
theorem dX8_rowMean_79 : decode cX8_rowMean 79 = .ok (.iload_n 3, 1) := by decide +kernel
theorem dX8_rowMean_80 : decode cX8_rowMean 80 = .ok (.iload 4, 2) := by decide +kernel
theorem dX8_rowMean_82 : decode cX8_rowMean 82 = .ok (.invokevirtual 245, 3) := by decide +kernel
theorem dX8_rowMean_85 : decode cX8_rowMean 85 = .ok (.lmul, 1) := by decide +kernel
theorem dX8_rowMean_86 : decode cX8_rowMean 86 = .ok (.lreturn, 1) := by decide +kernel
theorem dX8_rowMean_87 : decode cX8_rowMean 87 = .ok (.aload_n 0, 1) := by decide +kernel
theorem dX8_rowMean_88 : decode cX8_rowMean 88 = .ok (.getfield 39, 3) := by decide +kernel
theorem dX8_rowMean_91 : decode cX8_rowMean 91 = .ok (.getfield 119, 3) := by decide +kernel
theorem dX8_rowMean_94 : decode cX8_rowMean 94 = .ok (.getfield 152, 3) := by decide +kernel
theorem dX8_rowMean_97 : decode cX8_rowMean 97 = .ok (.iload 5, 2) := by decide +kernel
theorem dX8_rowMean_99 : decode cX8_rowMean 99 = .ok (.invokestatic 129, 3) := by decide +kernel
theorem dX8_rowMean_102 : decode cX8_rowMean 102 = .ok (.istore 7, 2) := by decide +kernel
theorem dX8_rowMean_104 : decode cX8_rowMean 104 = .ok (.iload 4, 2) := by decide +kernel
theorem dX8_rowMean_106 : decode cX8_rowMean 106 = .ok (.iconst (-1), 1) := by decide +kernel
theorem dX8_rowMean_107 : decode cX8_rowMean 107 = .ok (.if_icmp .ne 21, 3) := by decide +kernel
theorem dX8_rowMean_110 : decode cX8_rowMean 110 = .ok (.aload_n 0, 1) := by decide +kernel
theorem dX8_rowMean_111 : decode cX8_rowMean 111 = .ok (.getfield 39, 3) := by decide +kernel
theorem dX8_rowMean_114 : decode cX8_rowMean 114 = .ok (.getfield 119, 3) := by decide +kernel
theorem dX8_rowMean_117 : decode cX8_rowMean 117 = .ok (.getfield 259, 3) := by decide +kernel
theorem dX8_rowMean_120 : decode cX8_rowMean 120 = .ok (.iload 5, 2) := by decide +kernel
theorem dX8_rowMean_122 : decode cX8_rowMean 122 = .ok (.invokestatic 129, 3) := by decide +kernel
theorem dX8_rowMean_125 : decode cX8_rowMean 125 = .ok (.goto 15, 3) := by decide +kernel
theorem dX8_rowMean_128 : decode cX8_rowMean 128 = .ok (.iload 5, 2) := by decide +kernel
theorem dX8_rowMean_130 : decode cX8_rowMean 130 = .ok (.iload 4, 2) := by decide +kernel
theorem dX8_rowMean_132 : decode cX8_rowMean 132 = .ok (.if_icmp .ne 7, 3) := by decide +kernel
theorem dX8_rowMean_135 : decode cX8_rowMean 135 = .ok (.iconst 1, 1) := by decide +kernel
theorem dX8_rowMean_136 : decode cX8_rowMean 136 = .ok (.goto 4, 3) := by decide +kernel
theorem dX8_rowMean_139 : decode cX8_rowMean 139 = .ok (.iconst 0, 1) := by decide +kernel
theorem dX8_rowMean_140 : decode cX8_rowMean 140 = .ok (.istore 8, 2) := by decide +kernel
theorem dX8_rowMean_142 : decode cX8_rowMean 142 = .ok (.iload 8, 2) := by decide +kernel
theorem dX8_rowMean_144 : decode cX8_rowMean 144 = .ok (.i2l, 1) := by decide +kernel
theorem dX8_rowMean_145 : decode cX8_rowMean 145 = .ok (.aload_n 0, 1) := by decide +kernel
theorem dX8_rowMean_146 : decode cX8_rowMean 146 = .ok (.getfield 39, 3) := by decide +kernel
theorem dX8_rowMean_149 : decode cX8_rowMean 149 = .ok (.getfield 187, 3) := by decide +kernel
theorem dX8_rowMean_152 : decode cX8_rowMean 152 = .ok (.iload_n 1, 1) := by decide +kernel
theorem dX8_rowMean_153 : decode cX8_rowMean 153 = .ok (.isub, 1) := by decide +kernel
theorem dX8_rowMean_154 : decode cX8_rowMean 154 = .ok (.iconst 1, 1) := by decide +kernel
theorem dX8_rowMean_155 : decode cX8_rowMean 155 = .ok (.isub, 1) := by decide +kernel
theorem dX8_rowMean_156 : decode cX8_rowMean 156 = .ok (.invokestatic 249, 3) := by decide +kernel
theorem dX8_rowMean_159 : decode cX8_rowMean 159 = .ok (.lmul, 1) := by decide +kernel
theorem dX8_rowMean_160 : decode cX8_rowMean 160 = .ok (.aload_n 0, 1) := by decide +kernel
theorem dX8_rowMean_161 : decode cX8_rowMean 161 = .ok (.iload_n 1, 1) := by decide +kernel
theorem dX8_rowMean_162 : decode cX8_rowMean 162 = .ok (.iconst 1, 1) := by decide +kernel
theorem dX8_rowMean_163 : decode cX8_rowMean 163 = .ok (.iadd, 1) := by decide +kernel
theorem dX8_rowMean_164 : decode cX8_rowMean 164 = .ok (.iload_n 2, 1) := by decide +kernel
theorem dX8_rowMean_165 : decode cX8_rowMean 165 = .ok (.iload 5, 2) := by decide +kernel
theorem dX8_rowMean_167 : decode cX8_rowMean 167 = .ok (.invokestatic 216, 3) := by decide +kernel
theorem dX8_rowMean_170 : decode cX8_rowMean 170 = .ok (.ior, 1) := by decide +kernel
theorem dX8_rowMean_171 : decode cX8_rowMean 171 = .ok (.iload_n 3, 1) := by decide +kernel
theorem dX8_rowMean_172 : decode cX8_rowMean 172 = .ok (.iload 6, 2) := by decide +kernel
theorem dX8_rowMean_174 : decode cX8_rowMean 174 = .ok (.isub, 1) := by decide +kernel
theorem dX8_rowMean_175 : decode cX8_rowMean 175 = .ok (.iload 4, 2) := by decide +kernel
theorem dX8_rowMean_177 : decode cX8_rowMean 177 = .ok (.invokevirtual 245, 3) := by decide +kernel
theorem dX8_rowMean_180 : decode cX8_rowMean 180 = .ok (.ladd, 1) := by decide +kernel
theorem dX8_rowMean_181 : decode cX8_rowMean 181 = .ok (.lstore 9, 2) := by decide +kernel
theorem dX8_rowMean_183 : decode cX8_rowMean 183 = .ok (.aload_n 0, 1) := by decide +kernel
theorem dX8_rowMean_184 : decode cX8_rowMean 184 = .ok (.iload_n 1, 1) := by decide +kernel
theorem dX8_rowMean_185 : decode cX8_rowMean 185 = .ok (.iconst 1, 1) := by decide +kernel
theorem dX8_rowMean_186 : decode cX8_rowMean 186 = .ok (.iadd, 1) := by decide +kernel
theorem dX8_rowMean_187 : decode cX8_rowMean 187 = .ok (.iload_n 2, 1) := by decide +kernel
theorem dX8_rowMean_188 : decode cX8_rowMean 188 = .ok (.iload_n 3, 1) := by decide +kernel
theorem dX8_rowMean_189 : decode cX8_rowMean 189 = .ok (.iload 6, 2) := by decide +kernel
theorem dX8_rowMean_191 : decode cX8_rowMean 191 = .ok (.isub, 1) := by decide +kernel
theorem dX8_rowMean_192 : decode cX8_rowMean 192 = .ok (.iload 4, 2) := by decide +kernel
theorem dX8_rowMean_194 : decode cX8_rowMean 194 = .ok (.invokevirtual 245, 3) := by decide +kernel
theorem dX8_rowMean_197 : decode cX8_rowMean 197 = .ok (.lstore 11, 2) := by decide +kernel
theorem dX8_rowMean_199 : decode cX8_rowMean 199 = .ok (.iload 7, 2) := by decide +kernel
theorem dX8_rowMean_201 : decode cX8_rowMean 201 = .ok (.i2l, 1) := by decide +kernel
theorem dX8_rowMean_202 : decode cX8_rowMean 202 = .ok (.lload 9, 2) := by decide +kernel
theorem dX8_rowMean_204 : decode cX8_rowMean 204 = .ok (.lmul, 1) := by decide +kernel
theorem dX8_rowMean_205 : decode cX8_rowMean 205 = .ok (.bipush 100, 2) := by decide +kernel
theorem dX8_rowMean_207 : decode cX8_rowMean 207 = .ok (.iload 7, 2) := by decide +kernel
theorem dX8_rowMean_209 : decode cX8_rowMean 209 = .ok (.isub, 1) := by decide +kernel
theorem dX8_rowMean_210 : decode cX8_rowMean 210 = .ok (.i2l, 1) := by decide +kernel
theorem dX8_rowMean_211 : decode cX8_rowMean 211 = .ok (.lload 11, 2) := by decide +kernel
theorem dX8_rowMean_213 : decode cX8_rowMean 213 = .ok (.lmul, 1) := by decide +kernel
theorem dX8_rowMean_214 : decode cX8_rowMean 214 = .ok (.ladd, 1) := by decide +kernel
theorem dX8_rowMean_215 : decode cX8_rowMean 215 = .ok (.lreturn, 1) := by decide +kernel
theorem dX8_ruleForWork_0 : decode cX8_ruleForWork 0 = .ok (.iload_n 1, 1) := by decide +kernel
theorem dX8_ruleForWork_1 : decode cX8_ruleForWork 1 = .ok (.ifCond .lt 31, 3) := by decide +kernel
theorem dX8_ruleForWork_4 : decode cX8_ruleForWork 4 = .ok (.iload_n 1, 1) := by decide +kernel
theorem dX8_ruleForWork_5 : decode cX8_ruleForWork 5 = .ok (.aload_n 0, 1) := by decide +kernel
theorem dX8_ruleForWork_6 : decode cX8_ruleForWork 6 = .ok (.getfield 23, 3) := by decide +kernel
theorem dX8_ruleForWork_9 : decode cX8_ruleForWork 9 = .ok (.if_icmp .ge 23, 3) := by decide +kernel
theorem dX8_ruleForWork_12 : decode cX8_ruleForWork 12 = .ok (.iload_n 1, 1) := by decide +kernel
theorem dX8_ruleForWork_13 : decode cX8_ruleForWork 13 = .ok (.aload_n 0, 1) := by decide +kernel
theorem dX8_ruleForWork_14 : decode cX8_ruleForWork 14 = .ok (.getfield 19, 3) := by decide +kernel
theorem dX8_ruleForWork_17 : decode cX8_ruleForWork 17 = .ok (.arraylength, 1) := by decide +kernel
theorem dX8_ruleForWork_18 : decode cX8_ruleForWork 18 = .ok (.if_icmp .ge 14, 3) := by decide +kernel
theorem dX8_ruleForWork_21 : decode cX8_ruleForWork 21 = .ok (.aload_n 0, 1) := by decide +kernel
theorem dX8_ruleForWork_22 : decode cX8_ruleForWork 22 = .ok (.invokevirtual 213, 3) := by decide +kernel
theorem dX8_ruleForWork_25 : decode cX8_ruleForWork 25 = .ok (.ifCond .eq 7, 3) := by decide +kernel
theorem dX8_ruleForWork_28 : decode cX8_ruleForWork 28 = .ok (.iconst 1, 1) := by decide +kernel
