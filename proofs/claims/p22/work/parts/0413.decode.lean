theorem dX9_would_9 : decode cX9_would 9 = .ok (.invokevirtual 335, 3) := by decide +kernel
theorem dX9_would_12 : decode cX9_would 12 = .ok (.ifCond .eq 15, 3) := by decide +kernel
theorem dX9_would_15 : decode cX9_would 15 = .ok (.iload_n 2, 1) := by decide +kernel
theorem dX9_would_16 : decode cX9_would 16 = .ok (.i2l, 1) := by decide +kernel
theorem dX9_would_17 : decode cX9_would 17 = .ok (.lconst 0, 1) := by decide +kernel
theorem dX9_would_18 : decode cX9_would 18 = .ok (.ldc2_w 341, 3) := by decide +kernel
theorem dX9_would_21 : decode cX9_would 21 = .ok (.invokestatic 118, 3) := by decide +kernel
theorem dX9_would_24 : decode cX9_would 24 = .ok (.ifCond .ne 7, 3) := by decide +kernel
theorem dX9_would_27 : decode cX9_would 27 = .ok (.ldc_w 306, 3) := by decide +kernel
theorem dX9_would_30 : decode cX9_would 30 = .ok (.ireturn, 1) := by decide +kernel
theorem dX9_would_31 : decode cX9_would 31 = .ok (.aload_n 0, 1) := by decide +kernel
theorem dX9_would_32 : decode cX9_would 32 = .ok (.invokevirtual 343, 3) := by decide +kernel
theorem dX9_would_35 : decode cX9_would 35 = .ok (.aload_n 0, 1) := by decide +kernel
theorem dX9_would_36 : decode cX9_would 36 = .ok (.iload_n 1, 1) := by decide +kernel
theorem dX9_would_37 : decode cX9_would 37 = .ok (.invokevirtual 338, 3) := by decide +kernel
theorem dX9_would_40 : decode cX9_would 40 = .ok (.istore_n 3, 1) := by decide +kernel
theorem dX9_would_41 : decode cX9_would 41 = .ok (.iload_n 2, 1) := by decide +kernel
theorem dX9_would_42 : decode cX9_would 42 = .ok (.ifCond .ne 19, 3) := by decide +kernel
theorem dX9_would_45 : decode cX9_would 45 = .ok (.aload_n 0, 1) := by decide +kernel
theorem dX9_would_46 : decode cX9_would 46 = .ok (.getfield 42, 3) := by decide +kernel
theorem dX9_would_49 : decode cX9_would 49 = .ok (.iconst 4, 1) := by decide +kernel
theorem dX9_would_50 : decode cX9_would 50 = .ok (.iaload, 1) := by decide +kernel
theorem dX9_would_51 : decode cX9_would 51 = .ok (.aload_n 0, 1) := by decide +kernel
theorem dX9_would_52 : decode cX9_would 52 = .ok (.getfield 45, 3) := by decide +kernel
theorem dX9_would_55 : decode cX9_would 55 = .ok (.iconst 4, 1) := by decide +kernel
theorem dX9_would_56 : decode cX9_would 56 = .ok (.iaload, 1) := by decide +kernel
theorem dX9_would_57 : decode cX9_would 57 = .ok (.isub, 1) := by decide +kernel
theorem dX9_would_58 : decode cX9_would 58 = .ok (.goto 43, 3) := by decide +kernel
theorem dX9_would_61 : decode cX9_would 61 = .ok (.iload_n 2, 1) := by decide +kernel
theorem dX9_would_62 : decode cX9_would 62 = .ok (.iconst 1, 1) := by decide +kernel
theorem dX9_would_63 : decode cX9_would 63 = .ok (.if_icmp .ne 11, 3) := by decide +kernel
theorem dX9_would_66 : decode cX9_would 66 = .ok (.aload_n 0, 1) := by decide +kernel
theorem dX9_would_67 : decode cX9_would 67 = .ok (.iconst 1, 1) := by decide +kernel
theorem dX9_would_68 : decode cX9_would 68 = .ok (.invokevirtual 313, 3) := by decide +kernel
theorem dX9_would_71 : decode cX9_would 71 = .ok (.goto 30, 3) := by decide +kernel
theorem dX9_would_74 : decode cX9_would 74 = .ok (.iload_n 2, 1) := by decide +kernel
theorem dX9_would_75 : decode cX9_would 75 = .ok (.iconst 2, 1) := by decide +kernel
theorem dX9_would_76 : decode cX9_would 76 = .ok (.if_icmp .ne 12, 3) := by decide +kernel
theorem dX9_would_79 : decode cX9_would 79 = .ok (.aload_n 0, 1) := by decide +kernel
theorem dX9_would_80 : decode cX9_would 80 = .ok (.getfield 42, 3) := by decide +kernel
theorem dX9_would_83 : decode cX9_would 83 = .ok (.iconst 3, 1) := by decide +kernel
theorem dX9_would_84 : decode cX9_would 84 = .ok (.iaload, 1) := by decide +kernel
theorem dX9_would_85 : decode cX9_would 85 = .ok (.goto 16, 3) := by decide +kernel
theorem dX9_would_88 : decode cX9_would 88 = .ok (.iload_n 2, 1) := by decide +kernel
theorem dX9_would_89 : decode cX9_would 89 = .ok (.iconst 3, 1) := by decide +kernel
theorem dX9_would_90 : decode cX9_would 90 = .ok (.if_icmp .ne 10, 3) := by decide +kernel
theorem dX9_would_93 : decode cX9_would 93 = .ok (.aload_n 0, 1) := by decide +kernel
theorem dX9_would_94 : decode cX9_would 94 = .ok (.invokevirtual 307, 3) := by decide +kernel
theorem dX9_would_97 : decode cX9_would 97 = .ok (.goto 4, 3) := by decide +kernel
theorem dX9_would_100 : decode cX9_would 100 = .ok (.iload_n 3, 1) := by decide +kernel
theorem dX9_would_101 : decode cX9_would 101 = .ok (.istore 4, 2) := by decide +kernel
theorem dX9_would_103 : decode cX9_would 103 = .ok (.aload_n 0, 1) := by decide +kernel
theorem dX9_would_104 : decode cX9_would 104 = .ok (.invokevirtual 346, 3) := by decide +kernel
theorem dX9_would_107 : decode cX9_would 107 = .ok (.iload 4, 2) := by decide +kernel
theorem dX9_would_109 : decode cX9_would 109 = .ok (.ireturn, 1) := by decide +kernel

