theorem dL_law_914 : decode cL_law 914 = .ok (.aload_n 2, 1) := by decide +kernel
theorem dL_law_915 : decode cL_law 915 = .ok (.aload_n 0, 1) := by decide +kernel
theorem dL_law_916 : decode cL_law 916 = .ok (.iload_n 3, 1) := by decide +kernel
theorem dL_law_917 : decode cL_law 917 = .ok (.iconst 1, 1) := by decide +kernel
theorem dL_law_918 : decode cL_law 918 = .ok (.iadd, 1) := by decide +kernel
theorem dL_law_919 : decode cL_law 919 = .ok (.iaload, 1) := by decide +kernel
theorem dL_law_920 : decode cL_law 920 = .ok (.invokevirtual 131, 3) := by decide +kernel
theorem dL_law_923 : decode cL_law 923 = .ok (.if_icmp .eq 5, 3) := by decide +kernel
theorem dL_law_928 : decode cL_law 928 = .ok (.iinc 3 6, 3) := by decide +kernel
theorem dL_law_931 : decode cL_law 931 = .ok (.goto (-913), 3) := by decide +kernel
theorem dL_law_934 : decode cL_law 934 = .ok (.iconst 1, 1) := by decide +kernel
theorem dL_law_935 : decode cL_law 935 = .ok (.ireturn, 1) := by decide +kernel
theorem dX0_copyFrom_0 : decode cX0_copyFrom 0 = .ok (.aload_n 0, 1) := by decide +kernel
theorem dX0_copyFrom_1 : decode cX0_copyFrom 1 = .ok (.aload_n 1, 1) := by decide +kernel
theorem dX0_copyFrom_2 : decode cX0_copyFrom 2 = .ok (.getfield 15, 3) := by decide +kernel
theorem dX0_copyFrom_5 : decode cX0_copyFrom 5 = .ok (.putfield 15, 3) := by decide +kernel
theorem dX0_copyFrom_8 : decode cX0_copyFrom 8 = .ok (.aload_n 0, 1) := by decide +kernel
theorem dX0_copyFrom_9 : decode cX0_copyFrom 9 = .ok (.aload_n 1, 1) := by decide +kernel
theorem dX0_copyFrom_10 : decode cX0_copyFrom 10 = .ok (.getfield 19, 3) := by decide +kernel
theorem dX0_copyFrom_13 : decode cX0_copyFrom 13 = .ok (.putfield 19, 3) := by decide +kernel
theorem dX0_copyFrom_16 : decode cX0_copyFrom 16 = .ok (.aload_n 0, 1) := by decide +kernel
theorem dX0_copyFrom_17 : decode cX0_copyFrom 17 = .ok (.aload_n 1, 1) := by decide +kernel
theorem dX0_copyFrom_18 : decode cX0_copyFrom 18 = .ok (.getfield 22, 3) := by decide +kernel
theorem dX0_copyFrom_21 : decode cX0_copyFrom 21 = .ok (.putfield 22, 3) := by decide +kernel
theorem dX0_copyFrom_24 : decode cX0_copyFrom 24 = .ok (.aload_n 0, 1) := by decide +kernel
theorem dX0_copyFrom_25 : decode cX0_copyFrom 25 = .ok (.aload_n 1, 1) := by decide +kernel
theorem dX0_copyFrom_26 : decode cX0_copyFrom 26 = .ok (.getfield 25, 3) := by decide +kernel
theorem dX0_copyFrom_29 : decode cX0_copyFrom 29 = .ok (.putfield 25, 3) := by decide +kernel
theorem dX0_copyFrom_32 : decode cX0_copyFrom 32 = .ok (.aload_n 0, 1) := by decide +kernel
theorem dX0_copyFrom_33 : decode cX0_copyFrom 33 = .ok (.aload_n 1, 1) := by decide +kernel
theorem dX0_copyFrom_34 : decode cX0_copyFrom 34 = .ok (.getfield 28, 3) := by decide +kernel
theorem dX0_copyFrom_37 : decode cX0_copyFrom 37 = .ok (.putfield 28, 3) := by decide +kernel
theorem dX0_copyFrom_40 : decode cX0_copyFrom 40 = .ok (.aload_n 1, 1) := by decide +kernel
theorem dX0_copyFrom_41 : decode cX0_copyFrom 41 = .ok (.getfield 9, 3) := by decide +kernel
theorem dX0_copyFrom_44 : decode cX0_copyFrom 44 = .ok (.iconst 0, 1) := by decide +kernel
theorem dX0_copyFrom_45 : decode cX0_copyFrom 45 = .ok (.aload_n 0, 1) := by decide +kernel
theorem dX0_copyFrom_46 : decode cX0_copyFrom 46 = .ok (.getfield 9, 3) := by decide +kernel
theorem dX0_copyFrom_49 : decode cX0_copyFrom 49 = .ok (.iconst 0, 1) := by decide +kernel
theorem dX0_copyFrom_50 : decode cX0_copyFrom 50 = .ok (.bipush 10, 2) := by decide +kernel
theorem dX0_copyFrom_52 : decode cX0_copyFrom 52 = .ok (.invokestatic 31, 3) := by decide +kernel
theorem dX0_copyFrom_55 : decode cX0_copyFrom 55 = .ok (.return_, 1) := by decide +kernel
theorem dX0_init_0 : decode cX0_init 0 = .ok (.aload_n 0, 1) := by decide +kernel
theorem dX0_init_1 : decode cX0_init 1 = .ok (.invokespecial 3, 3) := by decide +kernel
theorem dX0_init_4 : decode cX0_init 4 = .ok (.aload_n 0, 1) := by decide +kernel
theorem dX0_init_5 : decode cX0_init 5 = .ok (.bipush 10, 2) := by decide +kernel
theorem dX0_init_7 : decode cX0_init 7 = .ok (.newarray .int, 2) := by decide +kernel
theorem dX0_init_9 : decode cX0_init 9 = .ok (.putfield 9, 3) := by decide +kernel
theorem dX0_init_12 : decode cX0_init 12 = .ok (.return_, 1) := by decide +kernel
theorem dX1_init_0 : decode cX1_init 0 = .ok (.aload_n 0, 1) := by decide +kernel
theorem dX1_init_1 : decode cX1_init 1 = .ok (.invokespecial 3, 3) := by decide +kernel
theorem dX1_init_4 : decode cX1_init 4 = .ok (.aload_n 0, 1) := by decide +kernel
theorem dX1_init_5 : decode cX1_init 5 = .ok (.sipush 2048, 3) := by decide +kernel
theorem dX1_init_8 : decode cX1_init 8 = .ok (.newarray .long, 2) := by decide +kernel
theorem dX1_init_10 : decode cX1_init 10 = .ok (.putfield 11, 3) := by decide +kernel
theorem dX1_init_13 : decode cX1_init 13 = .ok (.aload_n 0, 1) := by decide +kernel
theorem dX1_init_14 : decode cX1_init 14 = .ok (.sipush 2048, 3) := by decide +kernel
theorem dX1_init_17 : decode cX1_init 17 = .ok (.newarray .long, 2) := by decide +kernel
theorem dX1_init_19 : decode cX1_init 19 = .ok (.putfield 15, 3) := by decide +kernel
theorem dX1_init_22 : decode cX1_init 22 = .ok (.return_, 1) := by decide +kernel
theorem dX2_init_0 : decode cX2_init 0 = .ok (.aload_n 0, 1) := by decide +kernel
theorem dX2_init_1 : decode cX2_init 1 = .ok (.invokespecial 3, 3) := by decide +kernel
theorem dX2_init_4 : decode cX2_init 4 = .ok (.aload_n 0, 1) := by decide +kernel
theorem dX2_init_5 : decode cX2_init 5 = .ok (.bipush 32, 2) := by decide +kernel
theorem dX2_init_7 : decode cX2_init 7 = .ok (.newarray .long, 2) := by decide +kernel
theorem dX2_init_9 : decode cX2_init 9 = .ok (.putfield 9, 3) := by decide +kernel
theorem dX2_init_12 : decode cX2_init 12 = .ok (.return_, 1) := by decide +kernel
theorem dX4_init_0 : decode cX4_init 0 = .ok (.aload_n 0, 1) := by decide +kernel
theorem dX4_init_1 : decode cX4_init 1 = .ok (.invokespecial 3, 3) := by decide +kernel
theorem dX4_init_4 : decode cX4_init 4 = .ok (.aload_n 0, 1) := by decide +kernel
theorem dX4_init_5 : decode cX4_init 5 = .ok (.new 9, 3) := by decide +kernel
theorem dX4_init_8 : decode cX4_init 8 = .ok (.dup, 1) := by decide +kernel
theorem dX4_init_9 : decode cX4_init 9 = .ok (.invokespecial 11, 3) := by decide +kernel
theorem dX4_init_12 : decode cX4_init 12 = .ok (.putfield 12, 3) := by decide +kernel
theorem dX4_init_15 : decode cX4_init 15 = .ok (.aload_n 0, 1) := by decide +kernel
theorem dX4_init_16 : decode cX4_init 16 = .ok (.sipush 400, 3) := by decide +kernel
theorem dX4_init_19 : decode cX4_init 19 = .ok (.newarray .int, 2) := by decide +kernel
theorem dX4_init_21 : decode cX4_init 21 = .ok (.putfield 18, 3) := by decide +kernel
theorem dX4_init_24 : decode cX4_init 24 = .ok (.aload_n 0, 1) := by decide +kernel
theorem dX4_init_25 : decode cX4_init 25 = .ok (.bipush 12, 2) := by decide +kernel
theorem dX4_init_27 : decode cX4_init 27 = .ok (.newarray .int, 2) := by decide +kernel
theorem dX4_init_29 : decode cX4_init 29 = .ok (.putfield 22, 3) := by decide +kernel
theorem dX4_init_32 : decode cX4_init 32 = .ok (.aload_n 0, 1) := by decide +kernel
theorem dX4_init_33 : decode cX4_init 33 = .ok (.bipush 12, 2) := by decide +kernel
theorem dX4_init_35 : decode cX4_init 35 = .ok (.newarray .int, 2) := by decide +kernel
theorem dX4_init_37 : decode cX4_init 37 = .ok (.putfield 25, 3) := by decide +kernel
theorem dX4_init_40 : decode cX4_init 40 = .ok (.aload_n 0, 1) := by decide +kernel
theorem dX4_init_41 : decode cX4_init 41 = .ok (.bipush 12, 2) := by decide +kernel
theorem dX4_init_43 : decode cX4_init 43 = .ok (.newarray .int, 2) := by decide +kernel
theorem dX4_init_45 : decode cX4_init 45 = .ok (.putfield 28, 3) := by decide +kernel
theorem dX4_init_48 : decode cX4_init 48 = .ok (.return_, 1) := by decide +kernel
theorem dX4_readClause_0 : decode cX4_readClause 0 = .ok (.aload_n 0, 1) := by decide +kernel
theorem dX4_readClause_1 : decode cX4_readClause 1 = .ok (.getfield 12, 3) := by decide +kernel
theorem dX4_readClause_4 : decode cX4_readClause 4 = .ok (.getfield 66, 3) := by decide +kernel
theorem dX4_readClause_7 : decode cX4_readClause 7 = .ok (.istore_n 1, 1) := by decide +kernel
theorem dX4_readClause_8 : decode cX4_readClause 8 = .ok (.iload_n 1, 1) := by decide +kernel
theorem dX4_readClause_9 : decode cX4_readClause 9 = .ok (.sipush 306, 3) := by decide +kernel
theorem dX4_readClause_12 : decode cX4_readClause 12 = .ok (.if_icmp .eq 19, 3) := by decide +kernel
theorem dX4_readClause_15 : decode cX4_readClause 15 = .ok (.iload_n 1, 1) := by decide +kernel
theorem dX4_readClause_16 : decode cX4_readClause 16 = .ok (.sipush 308, 3) := by decide +kernel
theorem dX4_readClause_19 : decode cX4_readClause 19 = .ok (.if_icmp .eq 12, 3) := by decide +kernel
theorem dX4_readClause_22 : decode cX4_readClause 22 = .ok (.aload_n 0, 1) := by decide +kernel
theorem dX4_readClause_23 : decode cX4_readClause 23 = .ok (.getfield 12, 3) := by decide +kernel
theorem dX4_readClause_26 : decode cX4_readClause 26 = .ok (.iconst 0, 1) := by decide +kernel
theorem dX4_readClause_27 : decode cX4_readClause 27 = .ok (.invokevirtual 68, 3) := by decide +kernel
theorem dX4_readClause_30 : decode cX4_readClause 30 = .ok (.return_, 1) := by decide +kernel
theorem dX4_start_0 : decode cX4_start 0 = .ok (.aload_n 0, 1) := by decide +kernel
theorem dX4_start_1 : decode cX4_start 1 = .ok (.iconst 0, 1) := by decide +kernel
theorem dX4_start_2 : decode cX4_start 2 = .ok (.putfield 31, 3) := by decide +kernel
theorem dX4_start_5 : decode cX4_start 5 = .ok (.aload_n 0, 1) := by decide +kernel
theorem dX4_start_6 : decode cX4_start 6 = .ok (.iconst 0, 1) := by decide +kernel
theorem dX4_start_7 : decode cX4_start 7 = .ok (.putfield 35, 3) := by decide +kernel
theorem dX4_start_10 : decode cX4_start 10 = .ok (.aload_n 0, 1) := by decide +kernel
theorem dX4_start_11 : decode cX4_start 11 = .ok (.iconst 0, 1) := by decide +kernel
theorem dX4_start_12 : decode cX4_start 12 = .ok (.putfield 38, 3) := by decide +kernel
theorem dX4_start_15 : decode cX4_start 15 = .ok (.return_, 1) := by decide +kernel
theorem dX5_copyFrom_0 : decode cX5_copyFrom 0 = .ok (.aload_n 0, 1) := by decide +kernel
theorem dX5_copyFrom_1 : decode cX5_copyFrom 1 = .ok (.aload_n 1, 1) := by decide +kernel
theorem dX5_copyFrom_2 : decode cX5_copyFrom 2 = .ok (.getfield 9, 3) := by decide +kernel
theorem dX5_copyFrom_5 : decode cX5_copyFrom 5 = .ok (.putfield 9, 3) := by decide +kernel
theorem dX5_copyFrom_8 : decode cX5_copyFrom 8 = .ok (.aload_n 0, 1) := by decide +kernel
theorem dX5_copyFrom_9 : decode cX5_copyFrom 9 = .ok (.getfield 18, 3) := by decide +kernel
theorem dX5_copyFrom_12 : decode cX5_copyFrom 12 = .ok (.aload_n 1, 1) := by decide +kernel
theorem dX5_copyFrom_13 : decode cX5_copyFrom 13 = .ok (.getfield 18, 3) := by decide +kernel
theorem dX5_copyFrom_16 : decode cX5_copyFrom 16 = .ok (.invokevirtual 29, 3) := by decide +kernel
theorem dX5_copyFrom_19 : decode cX5_copyFrom 19 = .ok (.aload_n 0, 1) := by decide +kernel
theorem dX5_copyFrom_20 : decode cX5_copyFrom 20 = .ok (.aload_n 1, 1) := by decide +kernel
theorem dX5_copyFrom_21 : decode cX5_copyFrom 21 = .ok (.getfield 33, 3) := by decide +kernel
theorem dX5_copyFrom_24 : decode cX5_copyFrom 24 = .ok (.putfield 33, 3) := by decide +kernel
theorem dX5_copyFrom_27 : decode cX5_copyFrom 27 = .ok (.aload_n 0, 1) := by decide +kernel
theorem dX5_copyFrom_28 : decode cX5_copyFrom 28 = .ok (.aload_n 1, 1) := by decide +kernel
theorem dX5_copyFrom_29 : decode cX5_copyFrom 29 = .ok (.getfield 37, 3) := by decide +kernel
theorem dX5_copyFrom_32 : decode cX5_copyFrom 32 = .ok (.putfield 37, 3) := by decide +kernel
theorem dX5_copyFrom_35 : decode cX5_copyFrom 35 = .ok (.aload_n 0, 1) := by decide +kernel
theorem dX5_copyFrom_36 : decode cX5_copyFrom 36 = .ok (.aload_n 1, 1) := by decide +kernel
theorem dX5_copyFrom_37 : decode cX5_copyFrom 37 = .ok (.getfield 40, 3) := by decide +kernel
theorem dX5_copyFrom_40 : decode cX5_copyFrom 40 = .ok (.putfield 40, 3) := by decide +kernel
theorem dX5_copyFrom_43 : decode cX5_copyFrom 43 = .ok (.aload_n 1, 1) := by decide +kernel
theorem dX5_copyFrom_44 : decode cX5_copyFrom 44 = .ok (.getfield 22, 3) := by decide +kernel
theorem dX5_copyFrom_47 : decode cX5_copyFrom 47 = .ok (.iconst 0, 1) := by decide +kernel
theorem dX5_copyFrom_48 : decode cX5_copyFrom 48 = .ok (.aload_n 0, 1) := by decide +kernel
theorem dX5_copyFrom_49 : decode cX5_copyFrom 49 = .ok (.getfield 22, 3) := by decide +kernel
theorem dX5_copyFrom_52 : decode cX5_copyFrom 52 = .ok (.iconst 0, 1) := by decide +kernel
theorem dX5_copyFrom_53 : decode cX5_copyFrom 53 = .ok (.bipush 8, 2) := by decide +kernel
theorem dX5_copyFrom_55 : decode cX5_copyFrom 55 = .ok (.invokestatic 43, 3) := by decide +kernel
theorem dX5_copyFrom_58 : decode cX5_copyFrom 58 = .ok (.aload_n 0, 1) := by decide +kernel
theorem dX5_copyFrom_59 : decode cX5_copyFrom 59 = .ok (.aload_n 1, 1) := by decide +kernel
theorem dX5_copyFrom_60 : decode cX5_copyFrom 60 = .ok (.getfield 49, 3) := by decide +kernel
theorem dX5_copyFrom_63 : decode cX5_copyFrom 63 = .ok (.putfield 49, 3) := by decide +kernel
theorem dX5_copyFrom_66 : decode cX5_copyFrom 66 = .ok (.aload_n 1, 1) := by decide +kernel
theorem dX5_copyFrom_67 : decode cX5_copyFrom 67 = .ok (.getfield 26, 3) := by decide +kernel
theorem dX5_copyFrom_70 : decode cX5_copyFrom 70 = .ok (.iconst 0, 1) := by decide +kernel
theorem dX5_copyFrom_71 : decode cX5_copyFrom 71 = .ok (.aload_n 0, 1) := by decide +kernel
theorem dX5_copyFrom_72 : decode cX5_copyFrom 72 = .ok (.getfield 26, 3) := by decide +kernel
theorem dX5_copyFrom_75 : decode cX5_copyFrom 75 = .ok (.iconst 0, 1) := by decide +kernel
theorem dX5_copyFrom_76 : decode cX5_copyFrom 76 = .ok (.bipush 8, 2) := by decide +kernel
theorem dX5_copyFrom_78 : decode cX5_copyFrom 78 = .ok (.invokestatic 43, 3) := by decide +kernel
theorem dX5_copyFrom_81 : decode cX5_copyFrom 81 = .ok (.return_, 1) := by decide +kernel
theorem dX5_init_0 : decode cX5_init 0 = .ok (.aload_n 0, 1) := by decide +kernel
theorem dX5_init_1 : decode cX5_init 1 = .ok (.invokespecial 3, 3) := by decide +kernel
theorem dX5_init_4 : decode cX5_init 4 = .ok (.aload_n 0, 1) := by decide +kernel
theorem dX5_init_5 : decode cX5_init 5 = .ok (.aload_n 1, 1) := by decide +kernel
theorem dX5_init_6 : decode cX5_init 6 = .ok (.putfield 9, 3) := by decide +kernel
theorem dX5_init_9 : decode cX5_init 9 = .ok (.aload_n 0, 1) := by decide +kernel
theorem dX5_init_10 : decode cX5_init 10 = .ok (.new 15, 3) := by decide +kernel
theorem dX5_init_13 : decode cX5_init 13 = .ok (.dup, 1) := by decide +kernel
theorem dX5_init_14 : decode cX5_init 14 = .ok (.invokespecial 17, 3) := by decide +kernel
theorem dX5_init_17 : decode cX5_init 17 = .ok (.putfield 18, 3) := by decide +kernel
theorem dX5_init_20 : decode cX5_init 20 = .ok (.aload_n 0, 1) := by decide +kernel
theorem dX5_init_21 : decode cX5_init 21 = .ok (.bipush 8, 2) := by decide +kernel
theorem dX5_init_23 : decode cX5_init 23 = .ok (.newarray .int, 2) := by decide +kernel
theorem dX5_init_25 : decode cX5_init 25 = .ok (.putfield 22, 3) := by decide +kernel
theorem dX5_init_28 : decode cX5_init 28 = .ok (.aload_n 0, 1) := by decide +kernel
theorem dX5_init_29 : decode cX5_init 29 = .ok (.bipush 8, 2) := by decide +kernel
theorem dX5_init_31 : decode cX5_init 31 = .ok (.newarray .int, 2) := by decide +kernel
theorem dX5_init_33 : decode cX5_init 33 = .ok (.putfield 26, 3) := by decide +kernel
theorem dX5_init_36 : decode cX5_init 36 = .ok (.return_, 1) := by decide +kernel
theorem dX6_addToken_0 : decode cX6_addToken 0 = .ok (.aload_n 0, 1) := by decide +kernel
theorem dX6_addToken_1 : decode cX6_addToken 1 = .ok (.getfield 21, 3) := by decide +kernel
theorem dX6_addToken_4 : decode cX6_addToken 4 = .ok (.ifCond .lt 55, 3) := by decide +kernel
theorem dX6_addToken_7 : decode cX6_addToken 7 = .ok (.aload_n 0, 1) := by decide +kernel
theorem dX6_addToken_8 : decode cX6_addToken 8 = .ok (.getfield 21, 3) := by decide +kernel
theorem dX6_addToken_11 : decode cX6_addToken 11 = .ok (.aload_n 0, 1) := by decide +kernel
theorem dX6_addToken_12 : decode cX6_addToken 12 = .ok (.getfield 9, 3) := by decide +kernel
theorem dX6_addToken_15 : decode cX6_addToken 15 = .ok (.arraylength, 1) := by decide +kernel
theorem dX6_addToken_16 : decode cX6_addToken 16 = .ok (.if_icmp .ge 43, 3) := by decide +kernel
theorem dX6_addToken_19 : decode cX6_addToken 19 = .ok (.aload_n 0, 1) := by decide +kernel
theorem dX6_addToken_20 : decode cX6_addToken 20 = .ok (.getfield 9, 3) := by decide +kernel
theorem dX6_addToken_23 : decode cX6_addToken 23 = .ok (.aload_n 0, 1) := by decide +kernel
theorem dX6_addToken_24 : decode cX6_addToken 24 = .ok (.getfield 21, 3) := by decide +kernel
theorem dX6_addToken_27 : decode cX6_addToken 27 = .ok (.iload_n 1, 1) := by decide +kernel
theorem dX6_addToken_28 : decode cX6_addToken 28 = .ok (.iastore, 1) := by decide +kernel
theorem dX6_addToken_29 : decode cX6_addToken 29 = .ok (.aload_n 0, 1) := by decide +kernel
theorem dX6_addToken_30 : decode cX6_addToken 30 = .ok (.getfield 15, 3) := by decide +kernel
theorem dX6_addToken_33 : decode cX6_addToken 33 = .ok (.aload_n 0, 1) := by decide +kernel
theorem dX6_addToken_34 : decode cX6_addToken 34 = .ok (.getfield 21, 3) := by decide +kernel
theorem dX6_addToken_37 : decode cX6_addToken 37 = .ok (.iload_n 2, 1) := by decide +kernel
theorem dX6_addToken_38 : decode cX6_addToken 38 = .ok (.iastore, 1) := by decide +kernel
theorem dX6_addToken_39 : decode cX6_addToken 39 = .ok (.aload_n 0, 1) := by decide +kernel
theorem dX6_addToken_40 : decode cX6_addToken 40 = .ok (.getfield 18, 3) := by decide +kernel
theorem dX6_addToken_43 : decode cX6_addToken 43 = .ok (.aload_n 0, 1) := by decide +kernel
theorem dX6_addToken_44 : decode cX6_addToken 44 = .ok (.getfield 21, 3) := by decide +kernel
theorem dX6_addToken_47 : decode cX6_addToken 47 = .ok (.iload_n 3, 1) := by decide +kernel
theorem dX6_addToken_48 : decode cX6_addToken 48 = .ok (.iastore, 1) := by decide +kernel
theorem dX6_addToken_49 : decode cX6_addToken 49 = .ok (.aload_n 0, 1) := by decide +kernel
theorem dX6_addToken_50 : decode cX6_addToken 50 = .ok (.dup, 1) := by decide +kernel
theorem dX6_addToken_51 : decode cX6_addToken 51 = .ok (.getfield 21, 3) := by decide +kernel
theorem dX6_addToken_54 : decode cX6_addToken 54 = .ok (.iconst 1, 1) := by decide +kernel
theorem dX6_addToken_55 : decode cX6_addToken 55 = .ok (.iadd, 1) := by decide +kernel
theorem dX6_addToken_56 : decode cX6_addToken 56 = .ok (.putfield 21, 3) := by decide +kernel
theorem dX6_addToken_59 : decode cX6_addToken 59 = .ok (.return_, 1) := by decide +kernel
theorem dX6_anotherClause_0 : decode cX6_anotherClause 0 = .ok (.aload_n 0, 1) := by decide +kernel
theorem dX6_anotherClause_1 : decode cX6_anotherClause 1 = .ok (.getfield 33, 3) := by decide +kernel
theorem dX6_anotherClause_4 : decode cX6_anotherClause 4 = .ok (.ifCond .ne 13, 3) := by decide +kernel
theorem dX6_anotherClause_17 : decode cX6_anotherClause 17 = .ok (.iconst 0, 1) := by decide +kernel
theorem dX6_anotherClause_18 : decode cX6_anotherClause 18 = .ok (.ireturn, 1) := by decide +kernel
theorem dX6_fail_0 : decode cX6_fail 0 = .ok (.aload_n 0, 1) := by decide +kernel
theorem dX6_fail_1 : decode cX6_fail 1 = .ok (.getfield 33, 3) := by decide +kernel
theorem dX6_fail_4 : decode cX6_fail 4 = .ok (.ifCond .ne 18, 3) := by decide +kernel
theorem dX6_fail_7 : decode cX6_fail 7 = .ok (.aload_n 0, 1) := by decide +kernel
theorem dX6_fail_8 : decode cX6_fail 8 = .ok (.iconst 1, 1) := by decide +kernel
theorem dX6_fail_9 : decode cX6_fail 9 = .ok (.bipush 8, 2) := by decide +kernel
theorem dX6_fail_11 : decode cX6_fail 11 = .ok (.aload_n 0, 1) := by decide +kernel
theorem dX6_fail_12 : decode cX6_fail 12 = .ok (.getfield 115, 3) := by decide +kernel
theorem dX6_fail_15 : decode cX6_fail 15 = .ok (.imul, 1) := by decide +kernel
theorem dX6_fail_16 : decode cX6_fail 16 = .ok (.iadd, 1) := by decide +kernel
theorem dX6_fail_17 : decode cX6_fail 17 = .ok (.iload_n 1, 1) := by decide +kernel
theorem dX6_fail_18 : decode cX6_fail 18 = .ok (.iadd, 1) := by decide +kernel
theorem dX6_fail_19 : decode cX6_fail 19 = .ok (.putfield 33, 3) := by decide +kernel
theorem dX6_fail_22 : decode cX6_fail 22 = .ok (.return_, 1) := by decide +kernel
theorem dX6_init_0 : decode cX6_init 0 = .ok (.aload_n 0, 1) := by decide +kernel
theorem dX6_init_1 : decode cX6_init 1 = .ok (.invokespecial 3, 3) := by decide +kernel
theorem dX6_init_4 : decode cX6_init 4 = .ok (.aload_n 0, 1) := by decide +kernel
theorem dX6_init_5 : decode cX6_init 5 = .ok (.sipush 401, 3) := by decide +kernel
theorem dX6_init_8 : decode cX6_init 8 = .ok (.newarray .int, 2) := by decide +kernel
theorem dX6_init_10 : decode cX6_init 10 = .ok (.putfield 9, 3) := by decide +kernel
theorem dX6_init_13 : decode cX6_init 13 = .ok (.aload_n 0, 1) := by decide +kernel
theorem dX6_init_14 : decode cX6_init 14 = .ok (.sipush 401, 3) := by decide +kernel
theorem dX6_init_17 : decode cX6_init 17 = .ok (.newarray .int, 2) := by decide +kernel
theorem dX6_init_19 : decode cX6_init 19 = .ok (.putfield 15, 3) := by decide +kernel
theorem dX6_init_22 : decode cX6_init 22 = .ok (.aload_n 0, 1) := by decide +kernel
theorem dX6_init_23 : decode cX6_init 23 = .ok (.sipush 401, 3) := by decide +kernel
theorem dX6_init_26 : decode cX6_init 26 = .ok (.newarray .int, 2) := by decide +kernel
theorem dX6_init_28 : decode cX6_init 28 = .ok (.putfield 18, 3) := by decide +kernel
theorem dX6_init_31 : decode cX6_init 31 = .ok (.return_, 1) := by decide +kernel
theorem dX6_open_0 : decode cX6_open 0 = .ok (.aload_n 0, 1) := by decide +kernel
theorem dX6_open_1 : decode cX6_open 1 = .ok (.iconst 0, 1) := by decide +kernel
theorem dX6_open_2 : decode cX6_open 2 = .ok (.putfield 21, 3) := by decide +kernel
theorem dX6_open_5 : decode cX6_open 5 = .ok (.iconst 0, 1) := by decide +kernel
theorem dX6_open_6 : decode cX6_open 6 = .ok (.istore_n 3, 1) := by decide +kernel
theorem dX6_open_7 : decode cX6_open 7 = .ok (.iconst 0, 1) := by decide +kernel
theorem dX6_open_8 : decode cX6_open 8 = .ok (.istore 4, 2) := by decide +kernel
theorem dX6_open_10 : decode cX6_open 10 = .ok (.iload 4, 2) := by decide +kernel
theorem dX6_open_12 : decode cX6_open 12 = .ok (.sipush 400, 3) := by decide +kernel
theorem dX6_open_15 : decode cX6_open 15 = .ok (.if_icmp .ge 22, 3) := by decide +kernel
theorem dX6_open_18 : decode cX6_open 18 = .ok (.iload_n 3, 1) := by decide +kernel
theorem dX6_open_19 : decode cX6_open 19 = .ok (.iload_n 2, 1) := by decide +kernel
theorem dX6_open_20 : decode cX6_open 20 = .ok (.if_icmp .ge 17, 3) := by decide +kernel
theorem dX6_open_37 : decode cX6_open 37 = .ok (.aload_n 0, 1) := by decide +kernel
theorem dX6_open_38 : decode cX6_open 38 = .ok (.sipush 300, 3) := by decide +kernel
theorem dX6_open_41 : decode cX6_open 41 = .ok (.iload_n 2, 1) := by decide +kernel
theorem dX6_open_42 : decode cX6_open 42 = .ok (.iconst 0, 1) := by decide +kernel
theorem dX6_open_43 : decode cX6_open 43 = .ok (.invokevirtual 29, 3) := by decide +kernel
theorem dX6_open_46 : decode cX6_open 46 = .ok (.aload_n 0, 1) := by decide +kernel
theorem dX6_open_47 : decode cX6_open 47 = .ok (.iconst 0, 1) := by decide +kernel
theorem dX6_open_48 : decode cX6_open 48 = .ok (.putfield 33, 3) := by decide +kernel
theorem dX6_open_51 : decode cX6_open 51 = .ok (.aload_n 0, 1) := by decide +kernel
theorem dX6_open_52 : decode cX6_open 52 = .ok (.iconst 0, 1) := by decide +kernel
theorem dX6_open_53 : decode cX6_open 53 = .ok (.putfield 36, 3) := by decide +kernel
theorem dX6_open_56 : decode cX6_open 56 = .ok (.aload_n 0, 1) := by decide +kernel
theorem dX6_open_57 : decode cX6_open 57 = .ok (.invokevirtual 39, 3) := by decide +kernel
theorem dX6_open_60 : decode cX6_open 60 = .ok (.return_, 1) := by decide +kernel
theorem dX6_step_0 : decode cX6_step 0 = .ok (.aload_n 0, 1) := by decide +kernel
theorem dX6_step_1 : decode cX6_step 1 = .ok (.getfield 36, 3) := by decide +kernel
theorem dX6_step_4 : decode cX6_step 4 = .ok (.ifCond .lt 75, 3) := by decide +kernel
theorem dX6_step_7 : decode cX6_step 7 = .ok (.aload_n 0, 1) := by decide +kernel
theorem dX6_step_8 : decode cX6_step 8 = .ok (.getfield 36, 3) := by decide +kernel
theorem dX6_step_11 : decode cX6_step 11 = .ok (.aload_n 0, 1) := by decide +kernel
theorem dX6_step_12 : decode cX6_step 12 = .ok (.getfield 21, 3) := by decide +kernel
theorem dX6_step_15 : decode cX6_step 15 = .ok (.if_icmp .ge 64, 3) := by decide +kernel
theorem dX6_step_18 : decode cX6_step 18 = .ok (.aload_n 0, 1) := by decide +kernel
theorem dX6_step_19 : decode cX6_step 19 = .ok (.getfield 36, 3) := by decide +kernel
theorem dX6_step_22 : decode cX6_step 22 = .ok (.aload_n 0, 1) := by decide +kernel
theorem dX6_step_23 : decode cX6_step 23 = .ok (.getfield 9, 3) := by decide +kernel
theorem dX6_step_26 : decode cX6_step 26 = .ok (.arraylength, 1) := by decide +kernel
theorem dX6_step_27 : decode cX6_step 27 = .ok (.if_icmp .ge 52, 3) := by decide +kernel
theorem dX6_step_30 : decode cX6_step 30 = .ok (.aload_n 0, 1) := by decide +kernel
theorem dX6_step_31 : decode cX6_step 31 = .ok (.aload_n 0, 1) := by decide +kernel
theorem dX6_step_32 : decode cX6_step 32 = .ok (.getfield 9, 3) := by decide +kernel
theorem dX6_step_35 : decode cX6_step 35 = .ok (.aload_n 0, 1) := by decide +kernel
theorem dX6_step_36 : decode cX6_step 36 = .ok (.getfield 36, 3) := by decide +kernel
theorem dX6_step_39 : decode cX6_step 39 = .ok (.iaload, 1) := by decide +kernel
theorem dX6_step_40 : decode cX6_step 40 = .ok (.putfield 112, 3) := by decide +kernel
theorem dX6_step_43 : decode cX6_step 43 = .ok (.aload_n 0, 1) := by decide +kernel
theorem dX6_step_44 : decode cX6_step 44 = .ok (.aload_n 0, 1) := by decide +kernel
theorem dX6_step_45 : decode cX6_step 45 = .ok (.getfield 15, 3) := by decide +kernel
theorem dX6_step_48 : decode cX6_step 48 = .ok (.aload_n 0, 1) := by decide +kernel
theorem dX6_step_49 : decode cX6_step 49 = .ok (.getfield 36, 3) := by decide +kernel
theorem dX6_step_52 : decode cX6_step 52 = .ok (.iaload, 1) := by decide +kernel
theorem dX6_step_53 : decode cX6_step 53 = .ok (.putfield 115, 3) := by decide +kernel
theorem dX6_step_56 : decode cX6_step 56 = .ok (.aload_n 0, 1) := by decide +kernel
theorem dX6_step_57 : decode cX6_step 57 = .ok (.aload_n 0, 1) := by decide +kernel
theorem dX6_step_58 : decode cX6_step 58 = .ok (.getfield 18, 3) := by decide +kernel
theorem dX6_step_61 : decode cX6_step 61 = .ok (.aload_n 0, 1) := by decide +kernel
theorem dX6_step_62 : decode cX6_step 62 = .ok (.getfield 36, 3) := by decide +kernel
theorem dX6_step_65 : decode cX6_step 65 = .ok (.iaload, 1) := by decide +kernel
theorem dX6_step_66 : decode cX6_step 66 = .ok (.putfield 118, 3) := by decide +kernel
theorem dX6_step_69 : decode cX6_step 69 = .ok (.aload_n 0, 1) := by decide +kernel
theorem dX6_step_70 : decode cX6_step 70 = .ok (.dup, 1) := by decide +kernel
theorem dX6_step_71 : decode cX6_step 71 = .ok (.getfield 36, 3) := by decide +kernel
theorem dX6_step_74 : decode cX6_step 74 = .ok (.iconst 1, 1) := by decide +kernel
theorem dX6_step_75 : decode cX6_step 75 = .ok (.iadd, 1) := by decide +kernel
theorem dX6_step_76 : decode cX6_step 76 = .ok (.putfield 36, 3) := by decide +kernel
theorem dX6_step_79 : decode cX6_step 79 = .ok (.return_, 1) := by decide +kernel
theorem dX7_init_0 : decode cX7_init 0 = .ok (.aload_n 0, 1) := by decide +kernel
theorem dX7_init_1 : decode cX7_init 1 = .ok (.invokespecial 3, 3) := by decide +kernel
theorem dX7_init_4 : decode cX7_init 4 = .ok (.aload_n 0, 1) := by decide +kernel
theorem dX7_init_5 : decode cX7_init 5 = .ok (.iload_n 1, 1) := by decide +kernel
theorem dX7_init_6 : decode cX7_init 6 = .ok (.putfield 9, 3) := by decide +kernel
theorem dX7_init_9 : decode cX7_init 9 = .ok (.aload_n 0, 1) := by decide +kernel
theorem dX7_init_10 : decode cX7_init 10 = .ok (.bipush 6, 2) := by decide +kernel
theorem dX7_init_12 : decode cX7_init 12 = .ok (.newarray .int, 2) := by decide +kernel
theorem dX7_init_14 : decode cX7_init 14 = .ok (.putfield 15, 3) := by decide +kernel
theorem dX7_init_17 : decode cX7_init 17 = .ok (.aload_n 0, 1) := by decide +kernel
theorem dX7_init_18 : decode cX7_init 18 = .ok (.bipush 6, 2) := by decide +kernel
theorem dX7_init_20 : decode cX7_init 20 = .ok (.newarray .int, 2) := by decide +kernel
theorem dX7_init_22 : decode cX7_init 22 = .ok (.putfield 19, 3) := by decide +kernel
theorem dX7_init_25 : decode cX7_init 25 = .ok (.aload_n 0, 1) := by decide +kernel
theorem dX7_init_26 : decode cX7_init 26 = .ok (.bipush 6, 2) := by decide +kernel
theorem dX7_init_28 : decode cX7_init 28 = .ok (.newarray .int, 2) := by decide +kernel
theorem dX7_init_30 : decode cX7_init 30 = .ok (.putfield 22, 3) := by decide +kernel
theorem dX7_init_33 : decode cX7_init 33 = .ok (.aload_n 0, 1) := by decide +kernel
theorem dX7_init_34 : decode cX7_init 34 = .ok (.bipush 10, 2) := by decide +kernel
theorem dX7_init_36 : decode cX7_init 36 = .ok (.newarray .int, 2) := by decide +kernel
theorem dX7_init_38 : decode cX7_init 38 = .ok (.putfield 25, 3) := by decide +kernel
theorem dX7_init_41 : decode cX7_init 41 = .ok (.aload_n 0, 1) := by decide +kernel
theorem dX7_init_42 : decode cX7_init 42 = .ok (.bipush 10, 2) := by decide +kernel
theorem dX7_init_44 : decode cX7_init 44 = .ok (.newarray .int, 2) := by decide +kernel
theorem dX7_init_46 : decode cX7_init 46 = .ok (.putfield 28, 3) := by decide +kernel
theorem dX7_init_49 : decode cX7_init 49 = .ok (.aload_n 0, 1) := by decide +kernel
theorem dX7_init_50 : decode cX7_init 50 = .ok (.bipush 10, 2) := by decide +kernel
theorem dX7_init_52 : decode cX7_init 52 = .ok (.newarray .int, 2) := by decide +kernel
theorem dX7_init_54 : decode cX7_init 54 = .ok (.putfield 31, 3) := by decide +kernel
theorem dX7_init_57 : decode cX7_init 57 = .ok (.aload_n 0, 1) := by decide +kernel
theorem dX7_init_58 : decode cX7_init 58 = .ok (.bipush 10, 2) := by decide +kernel
theorem dX7_init_60 : decode cX7_init 60 = .ok (.newarray .int, 2) := by decide +kernel
theorem dX7_init_62 : decode cX7_init 62 = .ok (.putfield 34, 3) := by decide +kernel
theorem dX7_init_65 : decode cX7_init 65 = .ok (.aload_n 0, 1) := by decide +kernel
theorem dX7_init_66 : decode cX7_init 66 = .ok (.bipush 10, 2) := by decide +kernel
theorem dX7_init_68 : decode cX7_init 68 = .ok (.newarray .int, 2) := by decide +kernel
theorem dX7_init_70 : decode cX7_init 70 = .ok (.putfield 37, 3) := by decide +kernel
theorem dX7_init_73 : decode cX7_init 73 = .ok (.aload_n 0, 1) := by decide +kernel
theorem dX7_init_74 : decode cX7_init 74 = .ok (.bipush 10, 2) := by decide +kernel
theorem dX7_init_76 : decode cX7_init 76 = .ok (.newarray .int, 2) := by decide +kernel
theorem dX7_init_78 : decode cX7_init 78 = .ok (.putfield 40, 3) := by decide +kernel
theorem dX7_init_81 : decode cX7_init 81 = .ok (.aload_n 0, 1) := by decide +kernel
theorem dX7_init_82 : decode cX7_init 82 = .ok (.bipush 10, 2) := by decide +kernel
theorem dX7_init_84 : decode cX7_init 84 = .ok (.newarray .int, 2) := by decide +kernel
theorem dX7_init_86 : decode cX7_init 86 = .ok (.putfield 43, 3) := by decide +kernel
theorem dX7_init_89 : decode cX7_init 89 = .ok (.aload_n 0, 1) := by decide +kernel
theorem dX7_init_90 : decode cX7_init 90 = .ok (.bipush 10, 2) := by decide +kernel
theorem dX7_init_92 : decode cX7_init 92 = .ok (.newarray .int, 2) := by decide +kernel
theorem dX7_init_94 : decode cX7_init 94 = .ok (.putfield 46, 3) := by decide +kernel
theorem dX7_init_97 : decode cX7_init 97 = .ok (.aload_n 0, 1) := by decide +kernel
theorem dX7_init_98 : decode cX7_init 98 = .ok (.bipush 10, 2) := by decide +kernel
theorem dX7_init_100 : decode cX7_init 100 = .ok (.newarray .int, 2) := by decide +kernel
theorem dX7_init_102 : decode cX7_init 102 = .ok (.putfield 49, 3) := by decide +kernel
theorem dX7_init_105 : decode cX7_init 105 = .ok (.return_, 1) := by decide +kernel
theorem dX7_orderLooks_0 : decode cX7_orderLooks 0 = .ok (.iconst 0, 1) := by decide +kernel
theorem dX7_orderLooks_1 : decode cX7_orderLooks 1 = .ok (.istore_n 1, 1) := by decide +kernel
theorem dX7_orderLooks_2 : decode cX7_orderLooks 2 = .ok (.iload_n 1, 1) := by decide +kernel
theorem dX7_orderLooks_3 : decode cX7_orderLooks 3 = .ok (.aload_n 0, 1) := by decide +kernel
theorem dX7_orderLooks_4 : decode cX7_orderLooks 4 = .ok (.getfield 65, 3) := by decide +kernel
theorem dX7_orderLooks_7 : decode cX7_orderLooks 7 = .ok (.if_icmp .ge 120, 3) := by decide +kernel
theorem dX7_orderLooks_127 : decode cX7_orderLooks 127 = .ok (.return_, 1) := by decide +kernel
theorem dX7_readClause_0 : decode cX7_readClause 0 = .ok (.aload_n 1, 1) := by decide +kernel
theorem dX7_readClause_1 : decode cX7_readClause 1 = .ok (.getfield 92, 3) := by decide +kernel
theorem dX7_readClause_4 : decode cX7_readClause 4 = .ok (.istore_n 3, 1) := by decide +kernel
theorem dX7_readClause_5 : decode cX7_readClause 5 = .ok (.iload_n 3, 1) := by decide +kernel
theorem dX7_readClause_6 : decode cX7_readClause 6 = .ok (.sipush 304, 3) := by decide +kernel
theorem dX7_readClause_9 : decode cX7_readClause 9 = .ok (.if_icmp .eq 23, 3) := by decide +kernel
theorem dX7_readClause_12 : decode cX7_readClause 12 = .ok (.iload_n 3, 1) := by decide +kernel
theorem dX7_readClause_13 : decode cX7_readClause 13 = .ok (.sipush 313, 3) := by decide +kernel
theorem dX7_readClause_16 : decode cX7_readClause 16 = .ok (.if_icmp .eq 16, 3) := by decide +kernel
theorem dX7_readClause_19 : decode cX7_readClause 19 = .ok (.iload_n 3, 1) := by decide +kernel
theorem dX7_readClause_20 : decode cX7_readClause 20 = .ok (.sipush 312, 3) := by decide +kernel
theorem dX7_readClause_23 : decode cX7_readClause 23 = .ok (.if_icmp .eq 9, 3) := by decide +kernel
theorem dX7_readClause_26 : decode cX7_readClause 26 = .ok (.aload_n 1, 1) := by decide +kernel
theorem dX7_readClause_27 : decode cX7_readClause 27 = .ok (.iconst 0, 1) := by decide +kernel
theorem dX7_readClause_28 : decode cX7_readClause 28 = .ok (.invokevirtual 68, 3) := by decide +kernel
theorem dX7_readClause_31 : decode cX7_readClause 31 = .ok (.return_, 1) := by decide +kernel
theorem dX7_readFrom_0 : decode cX7_readFrom 0 = .ok (.aload_n 0, 1) := by decide +kernel
theorem dX7_readFrom_1 : decode cX7_readFrom 1 = .ok (.bipush 60, 2) := by decide +kernel
theorem dX7_readFrom_3 : decode cX7_readFrom 3 = .ok (.putfield 52, 3) := by decide +kernel
theorem dX7_readFrom_6 : decode cX7_readFrom 6 = .ok (.iconst 1, 1) := by decide +kernel
theorem dX7_readFrom_7 : decode cX7_readFrom 7 = .ok (.istore_n 2, 1) := by decide +kernel
theorem dX7_readFrom_8 : decode cX7_readFrom 8 = .ok (.iconst 0, 1) := by decide +kernel
theorem dX7_readFrom_9 : decode cX7_readFrom 9 = .ok (.istore_n 3, 1) := by decide +kernel
theorem dX7_readFrom_10 : decode cX7_readFrom 10 = .ok (.iload_n 2, 1) := by decide +kernel
theorem dX7_readFrom_11 : decode cX7_readFrom 11 = .ok (.ifCond .eq 26, 3) := by decide +kernel
theorem dX7_readFrom_14 : decode cX7_readFrom 14 = .ok (.iload_n 3, 1) := by decide +kernel
theorem dX7_readFrom_15 : decode cX7_readFrom 15 = .ok (.bipush 24, 2) := by decide +kernel
theorem dX7_readFrom_17 : decode cX7_readFrom 17 = .ok (.if_icmp .gt 20, 3) := by decide +kernel
theorem dX7_readFrom_20 : decode cX7_readFrom 20 = .ok (.aload_n 0, 1) := by decide +kernel
theorem dX7_readFrom_21 : decode cX7_readFrom 21 = .ok (.aload_n 1, 1) := by decide +kernel
theorem dX7_readFrom_22 : decode cX7_readFrom 22 = .ok (.iload_n 3, 1) := by decide +kernel
theorem dX7_readFrom_23 : decode cX7_readFrom 23 = .ok (.invokevirtual 55, 3) := by decide +kernel
theorem dX7_readFrom_26 : decode cX7_readFrom 26 = .ok (.aload_n 1, 1) := by decide +kernel
theorem dX7_readFrom_27 : decode cX7_readFrom 27 = .ok (.invokevirtual 59, 3) := by decide +kernel
theorem dX7_readFrom_30 : decode cX7_readFrom 30 = .ok (.istore_n 2, 1) := by decide +kernel
theorem dX7_readFrom_31 : decode cX7_readFrom 31 = .ok (.iinc 3 1, 3) := by decide +kernel
theorem dX7_readFrom_34 : decode cX7_readFrom 34 = .ok (.goto (-24), 3) := by decide +kernel
theorem dX7_readFrom_37 : decode cX7_readFrom 37 = .ok (.aload_n 0, 1) := by decide +kernel
theorem dX7_readFrom_38 : decode cX7_readFrom 38 = .ok (.getfield 65, 3) := by decide +kernel
theorem dX7_readFrom_41 : decode cX7_readFrom 41 = .ok (.ifCond .ne 8, 3) := by decide +kernel
theorem dX7_readFrom_44 : decode cX7_readFrom 44 = .ok (.aload_n 1, 1) := by decide +kernel
theorem dX7_readFrom_45 : decode cX7_readFrom 45 = .ok (.iconst 0, 1) := by decide +kernel
theorem dX7_readFrom_46 : decode cX7_readFrom 46 = .ok (.invokevirtual 68, 3) := by decide +kernel
theorem dX7_readFrom_49 : decode cX7_readFrom 49 = .ok (.aload_n 0, 1) := by decide +kernel
theorem dX7_readFrom_50 : decode cX7_readFrom 50 = .ok (.invokevirtual 72, 3) := by decide +kernel
theorem dX7_readFrom_53 : decode cX7_readFrom 53 = .ok (.return_, 1) := by decide +kernel
theorem dX8_at_0 : decode cX8_at 0 = .ok (.iload_n 1, 1) := by decide +kernel
theorem dX8_at_1 : decode cX8_at 1 = .ok (.ifCond .lt 15, 3) := by decide +kernel
theorem dX8_at_4 : decode cX8_at 4 = .ok (.iload_n 1, 1) := by decide +kernel
theorem dX8_at_5 : decode cX8_at 5 = .ok (.aload_n 0, 1) := by decide +kernel
theorem dX8_at_6 : decode cX8_at 6 = .ok (.arraylength, 1) := by decide +kernel
theorem dX8_at_7 : decode cX8_at 7 = .ok (.if_icmp .ge 9, 3) := by decide +kernel
theorem dX8_at_10 : decode cX8_at 10 = .ok (.aload_n 0, 1) := by decide +kernel
theorem dX8_at_11 : decode cX8_at 11 = .ok (.iload_n 1, 1) := by decide +kernel
theorem dX8_at_12 : decode cX8_at 12 = .ok (.iaload, 1) := by decide +kernel
theorem dX8_at_13 : decode cX8_at 13 = .ok (.goto 4, 3) := by decide +kernel
theorem dX8_at_17 : decode cX8_at 17 = .ok (.ireturn, 1) := by decide +kernel
theorem dX8_back_0 : decode cX8_back 0 = .ok (.iload_n 1, 1) := by decide +kernel
theorem dX8_back_1 : decode cX8_back 1 = .ok (.ifCond .lt 12, 3) := by decide +kernel
theorem dX8_back_4 : decode cX8_back 4 = .ok (.iload_n 1, 1) := by decide +kernel
theorem dX8_back_5 : decode cX8_back 5 = .ok (.aload_n 0, 1) := by decide +kernel
theorem dX8_back_6 : decode cX8_back 6 = .ok (.getfield 43, 3) := by decide +kernel
theorem dX8_back_9 : decode cX8_back 9 = .ok (.arraylength, 1) := by decide +kernel
theorem dX8_back_10 : decode cX8_back 10 = .ok (.if_icmp .lt 5, 3) := by decide +kernel
theorem dX8_back_13 : decode cX8_back 13 = .ok (.iconst (-1), 1) := by decide +kernel
theorem dX8_back_14 : decode cX8_back 14 = .ok (.ireturn, 1) := by decide +kernel
theorem dX8_back_15 : decode cX8_back 15 = .ok (.aload_n 0, 1) := by decide +kernel
theorem dX8_back_16 : decode cX8_back 16 = .ok (.getfield 43, 3) := by decide +kernel
theorem dX8_back_19 : decode cX8_back 19 = .ok (.iload_n 1, 1) := by decide +kernel
theorem dX8_back_20 : decode cX8_back 20 = .ok (.aaload, 1) := by decide +kernel
theorem dX8_back_21 : decode cX8_back 21 = .ok (.astore_n 2, 1) := by decide +kernel
theorem dX8_back_22 : decode cX8_back 22 = .ok (.aload_n 2, 1) := by decide +kernel
theorem dX8_back_23 : decode cX8_back 23 = .ok (.ifnonnull 5, 3) := by decide +kernel
theorem dX8_back_26 : decode cX8_back 26 = .ok (.iconst (-1), 1) := by decide +kernel
theorem dX8_back_27 : decode cX8_back 27 = .ok (.ireturn, 1) := by decide +kernel
theorem dX8_best_0 : decode cX8_best 0 = .ok (.aload_n 0, 1) := by decide +kernel
theorem dX8_best_1 : decode cX8_best 1 = .ok (.invokevirtual 213, 3) := by decide +kernel
theorem dX8_best_4 : decode cX8_best 4 = .ok (.ifCond .eq 21, 3) := by decide +kernel
theorem dX8_best_25 : decode cX8_best 25 = .ok (.ldc2_w 243, 3) := by decide +kernel
theorem dX8_best_28 : decode cX8_best 28 = .ok (.lreturn, 1) := by decide +kernel
theorem dX8_checks_0 : decode cX8_checks 0 = .ok (.iload_n 1, 1) := by decide +kernel
theorem dX8_checks_1 : decode cX8_checks 1 = .ok (.ifCond .lt 21, 3) := by decide +kernel
theorem dX8_checks_4 : decode cX8_checks 4 = .ok (.iload_n 1, 1) := by decide +kernel
theorem dX8_checks_5 : decode cX8_checks 5 = .ok (.sipush 9999, 3) := by decide +kernel
theorem dX8_checks_8 : decode cX8_checks 8 = .ok (.if_icmp .gt 14, 3) := by decide +kernel
theorem dX8_checks_11 : decode cX8_checks 11 = .ok (.iload_n 2, 1) := by decide +kernel
theorem dX8_checks_12 : decode cX8_checks 12 = .ok (.ifCond .lt 10, 3) := by decide +kernel
theorem dX8_checks_15 : decode cX8_checks 15 = .ok (.iload_n 2, 1) := by decide +kernel
theorem dX8_checks_16 : decode cX8_checks 16 = .ok (.sipush 9999, 3) := by decide +kernel
theorem dX8_checks_19 : decode cX8_checks 19 = .ok (.if_icmp .le 5, 3) := by decide +kernel
theorem dX8_checks_22 : decode cX8_checks 22 = .ok (.iconst (-1), 1) := by decide +kernel
theorem dX8_checks_23 : decode cX8_checks 23 = .ok (.ireturn, 1) := by decide +kernel
theorem dX8_checks_24 : decode cX8_checks 24 = .ok (.iconst 0, 1) := by decide +kernel
theorem dX8_checks_25 : decode cX8_checks 25 = .ok (.istore_n 3, 1) := by decide +kernel
theorem dX8_checks_26 : decode cX8_checks 26 = .ok (.iload_n 3, 1) := by decide +kernel
theorem dX8_checks_27 : decode cX8_checks 27 = .ok (.bipush 100, 2) := by decide +kernel
theorem dX8_checks_29 : decode cX8_checks 29 = .ok (.if_icmp .ge 21, 3) := by decide +kernel
theorem dX8_checks_32 : decode cX8_checks 32 = .ok (.iload_n 1, 1) := by decide +kernel
theorem dX8_checks_33 : decode cX8_checks 33 = .ok (.bipush 100, 2) := by decide +kernel
theorem dX8_checks_35 : decode cX8_checks 35 = .ok (.iload_n 3, 1) := by decide +kernel
theorem dX8_checks_36 : decode cX8_checks 36 = .ok (.isub, 1) := by decide +kernel
theorem dX8_checks_37 : decode cX8_checks 37 = .ok (.imul, 1) := by decide +kernel
theorem dX8_checks_38 : decode cX8_checks 38 = .ok (.iload_n 2, 1) := by decide +kernel
theorem dX8_checks_39 : decode cX8_checks 39 = .ok (.iload_n 3, 1) := by decide +kernel
theorem dX8_checks_40 : decode cX8_checks 40 = .ok (.imul, 1) := by decide +kernel
theorem dX8_checks_41 : decode cX8_checks 41 = .ok (.if_icmp .le 9, 3) := by decide +kernel
theorem dX8_checks_44 : decode cX8_checks 44 = .ok (.iinc 3 1, 3) := by decide +kernel
theorem dX8_checks_47 : decode cX8_checks 47 = .ok (.goto (-21), 3) := by decide +kernel
theorem dX8_checks_50 : decode cX8_checks 50 = .ok (.iload_n 3, 1) := by decide +kernel
theorem dX8_checks_51 : decode cX8_checks 51 = .ok (.ireturn, 1) := by decide +kernel
theorem dX8_coins_0 : decode cX8_coins 0 = .ok (.iload_n 1, 1) := by decide +kernel
theorem dX8_coins_1 : decode cX8_coins 1 = .ok (.tableswitch 54 0 2 #[27, 38, 46], 27) := by decide +kernel
theorem dX8_coins_28 : decode cX8_coins 28 = .ok (.aload_n 0, 1) := by decide +kernel
theorem dX8_coins_29 : decode cX8_coins 29 = .ok (.getfield 39, 3) := by decide +kernel
theorem dX8_coins_32 : decode cX8_coins 32 = .ok (.getfield 143, 3) := by decide +kernel
theorem dX8_coins_35 : decode cX8_coins 35 = .ok (.getfield 199, 3) := by decide +kernel
theorem dX8_coins_38 : decode cX8_coins 38 = .ok (.ireturn, 1) := by decide +kernel
theorem dX8_coins_39 : decode cX8_coins 39 = .ok (.aload_n 0, 1) := by decide +kernel
theorem dX8_coins_40 : decode cX8_coins 40 = .ok (.getfield 39, 3) := by decide +kernel
theorem dX8_coins_43 : decode cX8_coins 43 = .ok (.getfield 202, 3) := by decide +kernel
theorem dX8_coins_46 : decode cX8_coins 46 = .ok (.ireturn, 1) := by decide +kernel
theorem dX8_coins_47 : decode cX8_coins 47 = .ok (.aload_n 0, 1) := by decide +kernel
theorem dX8_coins_48 : decode cX8_coins 48 = .ok (.getfield 39, 3) := by decide +kernel
theorem dX8_coins_51 : decode cX8_coins 51 = .ok (.getfield 205, 3) := by decide +kernel
theorem dX8_coins_54 : decode cX8_coins 54 = .ok (.ireturn, 1) := by decide +kernel
theorem dX8_coins_55 : decode cX8_coins 55 = .ok (.ldc 208, 2) := by decide +kernel
theorem dX8_coins_57 : decode cX8_coins 57 = .ok (.ireturn, 1) := by decide +kernel
theorem dX8_count_0 : decode cX8_count 0 = .ok (.iload_n 1, 1) := by decide +kernel
theorem dX8_count_1 : decode cX8_count 1 = .ok (.tableswitch 168 0 10 #[59, 70, 81, 86, 97, 111, 125, 133, 144, 149, 157], 59) := by decide +kernel
theorem dX8_count_60 : decode cX8_count 60 = .ok (.aload_n 0, 1) := by decide +kernel
theorem dX8_count_61 : decode cX8_count 61 = .ok (.getfield 39, 3) := by decide +kernel
theorem dX8_count_64 : decode cX8_count 64 = .ok (.getfield 119, 3) := by decide +kernel
theorem dX8_count_67 : decode cX8_count 67 = .ok (.getfield 102, 3) := by decide +kernel
theorem dX8_count_70 : decode cX8_count 70 = .ok (.ireturn, 1) := by decide +kernel
theorem dX8_count_71 : decode cX8_count 71 = .ok (.aload_n 0, 1) := by decide +kernel
theorem dX8_count_72 : decode cX8_count 72 = .ok (.getfield 39, 3) := by decide +kernel
theorem dX8_count_75 : decode cX8_count 75 = .ok (.getfield 119, 3) := by decide +kernel
theorem dX8_count_78 : decode cX8_count 78 = .ok (.getfield 123, 3) := by decide +kernel
theorem dX8_count_81 : decode cX8_count 81 = .ok (.ireturn, 1) := by decide +kernel
theorem dX8_count_82 : decode cX8_count 82 = .ok (.aload_n 0, 1) := by decide +kernel
theorem dX8_count_83 : decode cX8_count 83 = .ok (.getfield 23, 3) := by decide +kernel
theorem dX8_count_86 : decode cX8_count 86 = .ok (.ireturn, 1) := by decide +kernel
theorem dX8_count_87 : decode cX8_count 87 = .ok (.aload_n 0, 1) := by decide +kernel
theorem dX8_count_88 : decode cX8_count 88 = .ok (.getfield 39, 3) := by decide +kernel
theorem dX8_count_91 : decode cX8_count 91 = .ok (.getfield 143, 3) := by decide +kernel
theorem dX8_count_94 : decode cX8_count 94 = .ok (.getfield 178, 3) := by decide +kernel
theorem dX8_count_97 : decode cX8_count 97 = .ok (.ireturn, 1) := by decide +kernel
theorem dX8_count_98 : decode cX8_count 98 = .ok (.aload_n 0, 1) := by decide +kernel
theorem dX8_count_99 : decode cX8_count 99 = .ok (.getfield 39, 3) := by decide +kernel
theorem dX8_count_102 : decode cX8_count 102 = .ok (.getfield 143, 3) := by decide +kernel
theorem dX8_count_105 : decode cX8_count 105 = .ok (.getfield 158, 3) := by decide +kernel
theorem dX8_count_108 : decode cX8_count 108 = .ok (.invokestatic 181, 3) := by decide +kernel
theorem dX8_count_111 : decode cX8_count 111 = .ok (.ireturn, 1) := by decide +kernel
theorem dX8_count_112 : decode cX8_count 112 = .ok (.aload_n 0, 1) := by decide +kernel
theorem dX8_count_113 : decode cX8_count 113 = .ok (.getfield 39, 3) := by decide +kernel
theorem dX8_count_116 : decode cX8_count 116 = .ok (.getfield 143, 3) := by decide +kernel
theorem dX8_count_119 : decode cX8_count 119 = .ok (.getfield 165, 3) := by decide +kernel
theorem dX8_count_122 : decode cX8_count 122 = .ok (.invokestatic 181, 3) := by decide +kernel
theorem dX8_count_125 : decode cX8_count 125 = .ok (.ireturn, 1) := by decide +kernel
theorem dX8_count_126 : decode cX8_count 126 = .ok (.aload_n 0, 1) := by decide +kernel
theorem dX8_count_127 : decode cX8_count 127 = .ok (.getfield 39, 3) := by decide +kernel
theorem dX8_count_130 : decode cX8_count 130 = .ok (.getfield 187, 3) := by decide +kernel
theorem dX8_count_133 : decode cX8_count 133 = .ok (.ireturn, 1) := by decide +kernel
theorem dX8_count_134 : decode cX8_count 134 = .ok (.aload_n 0, 1) := by decide +kernel
theorem dX8_count_135 : decode cX8_count 135 = .ok (.getfield 39, 3) := by decide +kernel
theorem dX8_count_138 : decode cX8_count 138 = .ok (.getfield 143, 3) := by decide +kernel
theorem dX8_count_141 : decode cX8_count 141 = .ok (.getfield 190, 3) := by decide +kernel
theorem dX8_count_144 : decode cX8_count 144 = .ok (.ireturn, 1) := by decide +kernel
theorem dX8_count_145 : decode cX8_count 145 = .ok (.aload_n 0, 1) := by decide +kernel
theorem dX8_count_146 : decode cX8_count 146 = .ok (.getfield 13, 3) := by decide +kernel
theorem dX8_count_149 : decode cX8_count 149 = .ok (.ireturn, 1) := by decide +kernel
theorem dX8_count_150 : decode cX8_count 150 = .ok (.aload_n 0, 1) := by decide +kernel
theorem dX8_count_151 : decode cX8_count 151 = .ok (.getfield 39, 3) := by decide +kernel
theorem dX8_count_154 : decode cX8_count 154 = .ok (.getfield 193, 3) := by decide +kernel
theorem dX8_count_157 : decode cX8_count 157 = .ok (.ireturn, 1) := by decide +kernel
theorem dX8_count_158 : decode cX8_count 158 = .ok (.aload_n 0, 1) := by decide +kernel
theorem dX8_count_159 : decode cX8_count 159 = .ok (.getfield 39, 3) := by decide +kernel
theorem dX8_count_162 : decode cX8_count 162 = .ok (.getfield 119, 3) := by decide +kernel
theorem dX8_count_165 : decode cX8_count 165 = .ok (.getfield 196, 3) := by decide +kernel
theorem dX8_count_168 : decode cX8_count 168 = .ok (.ireturn, 1) := by decide +kernel
theorem dX8_count_169 : decode cX8_count 169 = .ok (.iconst (-1), 1) := by decide +kernel
theorem dX8_count_170 : decode cX8_count 170 = .ok (.ireturn, 1) := by decide +kernel
theorem dX8_dawn_0 : decode cX8_dawn 0 = .ok (.aload_n 0, 1) := by decide +kernel
theorem dX8_dawn_1 : decode cX8_dawn 1 = .ok (.invokevirtual 213, 3) := by decide +kernel
theorem dX8_dawn_4 : decode cX8_dawn 4 = .ok (.ifCond .ne 6, 3) := by decide +kernel
theorem dX8_dawn_7 : decode cX8_dawn 7 = .ok (.ldc 208, 2) := by decide +kernel
theorem dX8_dawn_9 : decode cX8_dawn 9 = .ok (.ireturn, 1) := by decide +kernel
theorem dX8_day_0 : decode cX8_day 0 = .ok (.aload_n 0, 1) := by decide +kernel
theorem dX8_day_1 : decode cX8_day 1 = .ok (.iload_n 1, 1) := by decide +kernel
theorem dX8_day_2 : decode cX8_day 2 = .ok (.invokevirtual 228, 3) := by decide +kernel
theorem dX8_day_5 : decode cX8_day 5 = .ok (.astore_n 2, 1) := by decide +kernel
theorem dX8_day_6 : decode cX8_day 6 = .ok (.aload_n 2, 1) := by decide +kernel
theorem dX8_day_7 : decode cX8_day 7 = .ok (.ifnonnull 6, 3) := by decide +kernel
theorem dX8_day_10 : decode cX8_day 10 = .ok (.ldc 208, 2) := by decide +kernel
theorem dX8_day_12 : decode cX8_day 12 = .ok (.ireturn, 1) := by decide +kernel
theorem dX8_end_0 : decode cX8_end 0 = .ok (.iload_n 1, 1) := by decide +kernel
theorem dX8_end_1 : decode cX8_end 1 = .ok (.ifCond .lt 11, 3) := by decide +kernel
theorem dX8_end_4 : decode cX8_end 4 = .ok (.iload_n 1, 1) := by decide +kernel
theorem dX8_end_5 : decode cX8_end 5 = .ok (.aload_n 0, 1) := by decide +kernel
theorem dX8_end_6 : decode cX8_end 6 = .ok (.getfield 13, 3) := by decide +kernel
theorem dX8_end_9 : decode cX8_end 9 = .ok (.if_icmp .le 5, 3) := by decide +kernel
theorem dX8_end_12 : decode cX8_end 12 = .ok (.iconst (-1), 1) := by decide +kernel
theorem dX8_end_13 : decode cX8_end 13 = .ok (.ireturn, 1) := by decide +kernel
theorem dX8_end_14 : decode cX8_end 14 = .ok (.aload_n 0, 1) := by decide +kernel
theorem dX8_end_15 : decode cX8_end 15 = .ok (.iload_n 1, 1) := by decide +kernel
theorem dX8_end_16 : decode cX8_end 16 = .ok (.putfield 13, 3) := by decide +kernel
theorem dX8_end_19 : decode cX8_end 19 = .ok (.iload_n 1, 1) := by decide +kernel
theorem dX8_end_20 : decode cX8_end 20 = .ok (.ireturn, 1) := by decide +kernel
theorem dX8_fault_0 : decode cX8_fault 0 = .ok (.aload_n 0, 1) := by decide +kernel
theorem dX8_fault_1 : decode cX8_fault 1 = .ok (.iload_n 1, 1) := by decide +kernel
theorem dX8_fault_2 : decode cX8_fault 2 = .ok (.invokevirtual 139, 3) := by decide +kernel
theorem dX8_fault_5 : decode cX8_fault 5 = .ok (.ifCond .ne 6, 3) := by decide +kernel
theorem dX8_fault_8 : decode cX8_fault 8 = .ok (.bipush (-2), 2) := by decide +kernel
theorem dX8_fault_10 : decode cX8_fault 10 = .ok (.ireturn, 1) := by decide +kernel
theorem dX8_feed_0 : decode cX8_feed 0 = .ok (.aload_n 0, 1) := by decide +kernel
theorem dX8_feed_1 : decode cX8_feed 1 = .ok (.getfield 13, 3) := by decide +kernel
theorem dX8_feed_4 : decode cX8_feed 4 = .ok (.bipush 20, 2) := by decide +kernel
theorem dX8_feed_6 : decode cX8_feed 6 = .ok (.iadd, 1) := by decide +kernel
theorem dX8_feed_7 : decode cX8_feed 7 = .ok (.sipush 400, 3) := by decide +kernel
theorem dX8_feed_10 : decode cX8_feed 10 = .ok (.if_icmp .le 5, 3) := by decide +kernel
theorem dX8_feed_15 : decode cX8_feed 15 = .ok (.aload_n 0, 1) := by decide +kernel
theorem dX8_feed_16 : decode cX8_feed 16 = .ok (.iload_n 1, 1) := by decide +kernel
theorem dX8_feed_17 : decode cX8_feed 17 = .ok (.invokevirtual 75, 3) := by decide +kernel
theorem dX8_feed_20 : decode cX8_feed 20 = .ok (.aload_n 0, 1) := by decide +kernel
theorem dX8_feed_21 : decode cX8_feed 21 = .ok (.iload_n 2, 1) := by decide +kernel
theorem dX8_feed_22 : decode cX8_feed 22 = .ok (.invokevirtual 75, 3) := by decide +kernel
