theorem dJ0_charAt_5068e_0 : decode cJ0_charAt_5068e 0 = .ok (.aload_n 0, 1) := by decide +kernel
theorem dJ0_charAt_5068e_1 : decode cJ0_charAt_5068e 1 = .ok (.invokevirtual 492, 3) := by decide +kernel
theorem dJ0_charAt_5068e_4 : decode cJ0_charAt_5068e 4 = .ok (.ifCond .eq 12, 3) := by decide +kernel
theorem dJ0_charAt_5068e_7 : decode cJ0_charAt_5068e 7 = .ok (.aload_n 0, 1) := by decide +kernel
theorem dJ0_charAt_5068e_8 : decode cJ0_charAt_5068e 8 = .ok (.getfield 9, 3) := by decide +kernel
theorem dJ0_charAt_5068e_11 : decode cJ0_charAt_5068e 11 = .ok (.iload_n 1, 1) := by decide +kernel
theorem dJ0_charAt_5068e_12 : decode cJ0_charAt_5068e 12 = .ok (.invokestatic 495, 3) := by decide +kernel
theorem dJ0_charAt_5068e_15 : decode cJ0_charAt_5068e 15 = .ok (.ireturn, 1) := by decide +kernel
theorem dJ0_charAt_5068e_16 : decode cJ0_charAt_5068e 16 = .ok (.aload_n 0, 1) := by decide +kernel
theorem dJ0_charAt_5068e_17 : decode cJ0_charAt_5068e 17 = .ok (.getfield 9, 3) := by decide +kernel
theorem dJ0_charAt_5068e_20 : decode cJ0_charAt_5068e 20 = .ok (.iload_n 1, 1) := by decide +kernel
theorem dJ0_charAt_5068e_21 : decode cJ0_charAt_5068e 21 = .ok (.invokestatic 498, 3) := by decide +kernel
theorem dJ0_charAt_5068e_24 : decode cJ0_charAt_5068e 24 = .ok (.ireturn, 1) := by decide +kernel
theorem dJ0_checkIndex_df160_0 : decode cJ0_checkIndex_df160 0 = .ok (.iload_n 0, 1) := by decide +kernel
theorem dJ0_checkIndex_df160_1 : decode cJ0_checkIndex_df160 1 = .ok (.iload_n 1, 1) := by decide +kernel
theorem dJ0_checkIndex_df160_2 : decode cJ0_checkIndex_df160 2 = .ok (.getstatic 1053, 3) := by decide +kernel
theorem dJ0_checkIndex_df160_5 : decode cJ0_checkIndex_df160 5 = .ok (.invokestatic 1059, 3) := by decide +kernel
theorem dJ0_checkIndex_df160_8 : decode cJ0_checkIndex_df160 8 = .ok (.pop, 1) := by decide +kernel
theorem dJ0_checkIndex_df160_9 : decode cJ0_checkIndex_df160 9 = .ok (.return_, 1) := by decide +kernel
theorem dJ0_coder_7d493_0 : decode cJ0_coder_7d493 0 = .ok (.getstatic 38, 3) := by decide +kernel
theorem dJ0_coder_7d493_3 : decode cJ0_coder_7d493 3 = .ok (.ifCond .eq 10, 3) := by decide +kernel
theorem dJ0_coder_7d493_6 : decode cJ0_coder_7d493 6 = .ok (.aload_n 0, 1) := by decide +kernel
theorem dJ0_coder_7d493_7 : decode cJ0_coder_7d493 7 = .ok (.getfield 15, 3) := by decide +kernel
theorem dJ0_coder_7d493_10 : decode cJ0_coder_7d493 10 = .ok (.goto 4, 3) := by decide +kernel
theorem dJ0_coder_7d493_13 : decode cJ0_coder_7d493 13 = .ok (.iconst 1, 1) := by decide +kernel
theorem dJ0_coder_7d493_14 : decode cJ0_coder_7d493 14 = .ok (.ireturn, 1) := by decide +kernel
theorem dJ0_isLatin1_aae02_0 : decode cJ0_isLatin1_aae02 0 = .ok (.getstatic 38, 3) := by decide +kernel
theorem dJ0_isLatin1_aae02_3 : decode cJ0_isLatin1_aae02 3 = .ok (.ifCond .eq 14, 3) := by decide +kernel
theorem dJ0_isLatin1_aae02_6 : decode cJ0_isLatin1_aae02 6 = .ok (.aload_n 0, 1) := by decide +kernel
theorem dJ0_isLatin1_aae02_7 : decode cJ0_isLatin1_aae02 7 = .ok (.getfield 15, 3) := by decide +kernel
theorem dJ0_isLatin1_aae02_10 : decode cJ0_isLatin1_aae02 10 = .ok (.ifCond .ne 7, 3) := by decide +kernel
theorem dJ0_isLatin1_aae02_13 : decode cJ0_isLatin1_aae02 13 = .ok (.iconst 1, 1) := by decide +kernel
theorem dJ0_isLatin1_aae02_14 : decode cJ0_isLatin1_aae02 14 = .ok (.goto 4, 3) := by decide +kernel
theorem dJ0_isLatin1_aae02_17 : decode cJ0_isLatin1_aae02 17 = .ok (.iconst 0, 1) := by decide +kernel
theorem dJ0_isLatin1_aae02_18 : decode cJ0_isLatin1_aae02 18 = .ok (.ireturn, 1) := by decide +kernel
theorem dJ0_length_8abf5_0 : decode cJ0_length_8abf5 0 = .ok (.aload_n 0, 1) := by decide +kernel
theorem dJ0_length_8abf5_1 : decode cJ0_length_8abf5 1 = .ok (.getfield 9, 3) := by decide +kernel
theorem dJ0_length_8abf5_4 : decode cJ0_length_8abf5 4 = .ok (.arraylength, 1) := by decide +kernel
theorem dJ0_length_8abf5_5 : decode cJ0_length_8abf5 5 = .ok (.aload_n 0, 1) := by decide +kernel
theorem dJ0_length_8abf5_6 : decode cJ0_length_8abf5 6 = .ok (.invokevirtual 335, 3) := by decide +kernel
theorem dJ0_length_8abf5_9 : decode cJ0_length_8abf5 9 = .ok (.ishr, 1) := by decide +kernel
theorem dJ0_length_8abf5_10 : decode cJ0_length_8abf5 10 = .ok (.ireturn, 1) := by decide +kernel
theorem dJ1_charAt_3b067_0 : decode cJ1_charAt_3b067 0 = .ok (.iload_n 1, 1) := by decide +kernel
theorem dJ1_charAt_3b067_1 : decode cJ1_charAt_3b067 1 = .ok (.aload_n 0, 1) := by decide +kernel
theorem dJ1_charAt_3b067_2 : decode cJ1_charAt_3b067 2 = .ok (.arraylength, 1) := by decide +kernel
theorem dJ1_charAt_3b067_3 : decode cJ1_charAt_3b067 3 = .ok (.invokestatic 9, 3) := by decide +kernel
theorem dJ1_charAt_3b067_6 : decode cJ1_charAt_3b067 6 = .ok (.aload_n 0, 1) := by decide +kernel
theorem dJ1_charAt_3b067_7 : decode cJ1_charAt_3b067 7 = .ok (.iload_n 1, 1) := by decide +kernel
theorem dJ1_charAt_3b067_8 : decode cJ1_charAt_3b067 8 = .ok (.baload, 1) := by decide +kernel
theorem dJ1_charAt_3b067_9 : decode cJ1_charAt_3b067 9 = .ok (.sipush 255, 3) := by decide +kernel
theorem dJ1_charAt_3b067_12 : decode cJ1_charAt_3b067 12 = .ok (.iand, 1) := by decide +kernel
theorem dJ1_charAt_3b067_13 : decode cJ1_charAt_3b067 13 = .ok (.i2c, 1) := by decide +kernel
theorem dJ1_charAt_3b067_14 : decode cJ1_charAt_3b067 14 = .ok (.ireturn, 1) := by decide +kernel
theorem dJ3_checkIndex_8e157_0 : decode cJ3_checkIndex_8e157 0 = .ok (.iload_n 0, 1) := by decide +kernel
theorem dJ3_checkIndex_8e157_1 : decode cJ3_checkIndex_8e157 1 = .ok (.ifCond .lt 8, 3) := by decide +kernel
theorem dJ3_checkIndex_8e157_4 : decode cJ3_checkIndex_8e157 4 = .ok (.iload_n 0, 1) := by decide +kernel
theorem dJ3_checkIndex_8e157_5 : decode cJ3_checkIndex_8e157 5 = .ok (.iload_n 1, 1) := by decide +kernel
theorem dJ3_checkIndex_8e157_6 : decode cJ3_checkIndex_8e157 6 = .ok (.if_icmp .lt 10, 3) := by decide +kernel
theorem dJ3_checkIndex_8e157_9 : decode cJ3_checkIndex_8e157 9 = .ok (.aload_n 2, 1) := by decide +kernel
theorem dJ3_checkIndex_8e157_10 : decode cJ3_checkIndex_8e157 10 = .ok (.iload_n 0, 1) := by decide +kernel
theorem dJ3_checkIndex_8e157_11 : decode cJ3_checkIndex_8e157 11 = .ok (.iload_n 1, 1) := by decide +kernel
theorem dJ3_checkIndex_8e157_12 : decode cJ3_checkIndex_8e157 12 = .ok (.invokestatic 95, 3) := by decide +kernel
theorem dJ3_checkIndex_8e157_15 : decode cJ3_checkIndex_8e157 15 = .ok (.athrow, 1) := by decide +kernel
theorem dJ3_checkIndex_8e157_16 : decode cJ3_checkIndex_8e157 16 = .ok (.iload_n 0, 1) := by decide +kernel
theorem dJ3_checkIndex_8e157_17 : decode cJ3_checkIndex_8e157 17 = .ok (.ireturn, 1) := by decide +kernel
theorem dJ7_fill_53178_0 : decode cJ7_fill_53178 0 = .ok (.iconst 0, 1) := by decide +kernel
theorem dJ7_fill_53178_1 : decode cJ7_fill_53178 1 = .ok (.istore_n 2, 1) := by decide +kernel
theorem dJ7_fill_53178_2 : decode cJ7_fill_53178 2 = .ok (.aload_n 0, 1) := by decide +kernel
theorem dJ7_fill_53178_3 : decode cJ7_fill_53178 3 = .ok (.arraylength, 1) := by decide +kernel
theorem dJ7_fill_53178_4 : decode cJ7_fill_53178 4 = .ok (.istore_n 3, 1) := by decide +kernel
theorem dJ7_fill_53178_5 : decode cJ7_fill_53178 5 = .ok (.iload_n 2, 1) := by decide +kernel
theorem dJ7_fill_53178_6 : decode cJ7_fill_53178 6 = .ok (.iload_n 3, 1) := by decide +kernel
theorem dJ7_fill_53178_7 : decode cJ7_fill_53178 7 = .ok (.if_icmp .ge 13, 3) := by decide +kernel
theorem dJ7_fill_53178_10 : decode cJ7_fill_53178 10 = .ok (.aload_n 0, 1) := by decide +kernel
theorem dJ7_fill_53178_11 : decode cJ7_fill_53178 11 = .ok (.iload_n 2, 1) := by decide +kernel
theorem dJ7_fill_53178_12 : decode cJ7_fill_53178 12 = .ok (.iload_n 1, 1) := by decide +kernel
theorem dJ7_fill_53178_13 : decode cJ7_fill_53178 13 = .ok (.iastore, 1) := by decide +kernel
theorem dJ7_fill_53178_14 : decode cJ7_fill_53178 14 = .ok (.iinc 2 1, 3) := by decide +kernel
theorem dJ7_fill_53178_17 : decode cJ7_fill_53178 17 = .ok (.goto (-12), 3) := by decide +kernel
theorem dJ7_fill_53178_20 : decode cJ7_fill_53178 20 = .ok (.return_, 1) := by decide +kernel
theorem dX0_begin_0 : decode cX0_begin 0 = .ok (.aload_n 0, 1) := by decide +kernel
theorem dX0_begin_1 : decode cX0_begin 1 = .ok (.iload_n 1, 1) := by decide +kernel
theorem dX0_begin_2 : decode cX0_begin 2 = .ok (.putfield 15, 3) := by decide +kernel
theorem dX0_begin_5 : decode cX0_begin 5 = .ok (.aload_n 0, 1) := by decide +kernel
theorem dX0_begin_6 : decode cX0_begin 6 = .ok (.iconst 0, 1) := by decide +kernel
theorem dX0_begin_7 : decode cX0_begin 7 = .ok (.putfield 19, 3) := by decide +kernel
theorem dX0_begin_10 : decode cX0_begin 10 = .ok (.aload_n 0, 1) := by decide +kernel
theorem dX0_begin_11 : decode cX0_begin 11 = .ok (.iconst 0, 1) := by decide +kernel
theorem dX0_begin_12 : decode cX0_begin 12 = .ok (.putfield 22, 3) := by decide +kernel
theorem dX0_begin_15 : decode cX0_begin 15 = .ok (.aload_n 0, 1) := by decide +kernel
theorem dX0_begin_16 : decode cX0_begin 16 = .ok (.getfield 9, 3) := by decide +kernel
theorem dX0_begin_19 : decode cX0_begin 19 = .ok (.iconst 0, 1) := by decide +kernel
theorem dX0_begin_20 : decode cX0_begin 20 = .ok (.invokestatic 37, 3) := by decide +kernel
theorem dX0_begin_23 : decode cX0_begin 23 = .ok (.return_, 1) := by decide +kernel
theorem dX0_copyFrom_0 : decode cX0_copyFrom 0 = .ok (.aload_n 0, 1) := by decide +kernel
theorem dX0_copyFrom_1 : decode cX0_copyFrom 1 = .ok (.aload_n 1, 1) := by decide +kernel
theorem dX0_copyFrom_2 : decode cX0_copyFrom 2 = .ok (.getfield 15, 3) := by decide +kernel
theorem dX0_copyFrom_5 : decode cX0_copyFrom 5 = .ok (.putfield 15, 3) := by decide +kernel
theorem dX0_copyFrom_8 : decode cX0_copyFrom 8 = .ok (.aload_n 0, 1) := by decide +kernel
theorem dX0_copyFrom_9 : decode cX0_copyFrom 9 = .ok (.aload_n 1, 1) := by decide +kernel
theorem dX0_copyFrom_10 : decode cX0_copyFrom 10 = .ok (.getfield 19, 3) := by decide +kernel
theorem dX0_copyFrom_13 : decode cX0_copyFrom 13 = .ok (.putfield 19, 3) := by decide +kernel
theorem dX0_copyFrom_16 : decode cX0_copyFrom 16 = .ok (.aload_n 0, 1) := by decide +kernel
theorem dX0_copyFrom_17 : decode cX0_copyFrom 17 = .ok (.aload_n 1, 1) := by decide +kernel
theorem dX0_copyFrom_18 : decode cX0_copyFrom 18 = .ok (.getfield 22, 3) := by decide +kernel
theorem dX0_copyFrom_21 : decode cX0_copyFrom 21 = .ok (.putfield 22, 3) := by decide +kernel
theorem dX0_copyFrom_24 : decode cX0_copyFrom 24 = .ok (.aload_n 0, 1) := by decide +kernel
theorem dX0_copyFrom_25 : decode cX0_copyFrom 25 = .ok (.aload_n 1, 1) := by decide +kernel
theorem dX0_copyFrom_26 : decode cX0_copyFrom 26 = .ok (.getfield 25, 3) := by decide +kernel
theorem dX0_copyFrom_29 : decode cX0_copyFrom 29 = .ok (.putfield 25, 3) := by decide +kernel
theorem dX0_copyFrom_32 : decode cX0_copyFrom 32 = .ok (.aload_n 0, 1) := by decide +kernel
theorem dX0_copyFrom_33 : decode cX0_copyFrom 33 = .ok (.aload_n 1, 1) := by decide +kernel
theorem dX0_copyFrom_34 : decode cX0_copyFrom 34 = .ok (.getfield 28, 3) := by decide +kernel
theorem dX0_copyFrom_37 : decode cX0_copyFrom 37 = .ok (.putfield 28, 3) := by decide +kernel
theorem dX0_copyFrom_40 : decode cX0_copyFrom 40 = .ok (.aload_n 1, 1) := by decide +kernel
theorem dX0_copyFrom_41 : decode cX0_copyFrom 41 = .ok (.getfield 9, 3) := by decide +kernel
theorem dX0_copyFrom_44 : decode cX0_copyFrom 44 = .ok (.iconst 0, 1) := by decide +kernel
theorem dX0_copyFrom_45 : decode cX0_copyFrom 45 = .ok (.aload_n 0, 1) := by decide +kernel
theorem dX0_copyFrom_46 : decode cX0_copyFrom 46 = .ok (.getfield 9, 3) := by decide +kernel
theorem dX0_copyFrom_49 : decode cX0_copyFrom 49 = .ok (.iconst 0, 1) := by decide +kernel
theorem dX0_copyFrom_50 : decode cX0_copyFrom 50 = .ok (.bipush 10, 2) := by decide +kernel
theorem dX0_copyFrom_52 : decode cX0_copyFrom 52 = .ok (.invokestatic 31, 3) := by decide +kernel
theorem dX0_copyFrom_55 : decode cX0_copyFrom 55 = .ok (.return_, 1) := by decide +kernel
theorem dX5_beginWork_0 : decode cX5_beginWork 0 = .ok (.aload_n 0, 1) := by decide +kernel
theorem dX5_beginWork_1 : decode cX5_beginWork 1 = .ok (.aload_n 1, 1) := by decide +kernel
theorem dX5_beginWork_2 : decode cX5_beginWork 2 = .ok (.putfield 9, 3) := by decide +kernel
theorem dX5_beginWork_5 : decode cX5_beginWork 5 = .ok (.aload_n 0, 1) := by decide +kernel
theorem dX5_beginWork_6 : decode cX5_beginWork 6 = .ok (.getfield 18, 3) := by decide +kernel
theorem dX5_beginWork_9 : decode cX5_beginWork 9 = .ok (.aload_n 1, 1) := by decide +kernel
theorem dX5_beginWork_10 : decode cX5_beginWork 10 = .ok (.getfield 52, 3) := by decide +kernel
theorem dX5_beginWork_13 : decode cX5_beginWork 13 = .ok (.invokevirtual 57, 3) := by decide +kernel
theorem dX5_beginWork_16 : decode cX5_beginWork 16 = .ok (.aload_n 0, 1) := by decide +kernel
theorem dX5_beginWork_17 : decode cX5_beginWork 17 = .ok (.getfield 18, 3) := by decide +kernel
theorem dX5_beginWork_20 : decode cX5_beginWork 20 = .ok (.iconst 0, 1) := by decide +kernel
theorem dX5_beginWork_21 : decode cX5_beginWork 21 = .ok (.putfield 61, 3) := by decide +kernel
theorem dX5_beginWork_24 : decode cX5_beginWork 24 = .ok (.aload_n 0, 1) := by decide +kernel
theorem dX5_beginWork_25 : decode cX5_beginWork 25 = .ok (.iconst 0, 1) := by decide +kernel
theorem dX5_beginWork_26 : decode cX5_beginWork 26 = .ok (.putfield 33, 3) := by decide +kernel
theorem dX5_beginWork_29 : decode cX5_beginWork 29 = .ok (.aload_n 0, 1) := by decide +kernel
theorem dX5_beginWork_30 : decode cX5_beginWork 30 = .ok (.iconst 0, 1) := by decide +kernel
theorem dX5_beginWork_31 : decode cX5_beginWork 31 = .ok (.putfield 37, 3) := by decide +kernel
theorem dX5_beginWork_34 : decode cX5_beginWork 34 = .ok (.aload_n 0, 1) := by decide +kernel
theorem dX5_beginWork_35 : decode cX5_beginWork 35 = .ok (.iconst 0, 1) := by decide +kernel
theorem dX5_beginWork_36 : decode cX5_beginWork 36 = .ok (.putfield 40, 3) := by decide +kernel
theorem dX5_beginWork_39 : decode cX5_beginWork 39 = .ok (.aload_n 0, 1) := by decide +kernel
theorem dX5_beginWork_40 : decode cX5_beginWork 40 = .ok (.iconst 0, 1) := by decide +kernel
theorem dX5_beginWork_41 : decode cX5_beginWork 41 = .ok (.putfield 49, 3) := by decide +kernel
theorem dX5_beginWork_44 : decode cX5_beginWork 44 = .ok (.return_, 1) := by decide +kernel
theorem dX5_copyFrom_0 : decode cX5_copyFrom 0 = .ok (.aload_n 0, 1) := by decide +kernel
theorem dX5_copyFrom_1 : decode cX5_copyFrom 1 = .ok (.aload_n 1, 1) := by decide +kernel
theorem dX5_copyFrom_2 : decode cX5_copyFrom 2 = .ok (.getfield 9, 3) := by decide +kernel
theorem dX5_copyFrom_5 : decode cX5_copyFrom 5 = .ok (.putfield 9, 3) := by decide +kernel
theorem dX5_copyFrom_8 : decode cX5_copyFrom 8 = .ok (.aload_n 0, 1) := by decide +kernel
theorem dX5_copyFrom_9 : decode cX5_copyFrom 9 = .ok (.getfield 18, 3) := by decide +kernel
theorem dX5_copyFrom_12 : decode cX5_copyFrom 12 = .ok (.aload_n 1, 1) := by decide +kernel
theorem dX5_copyFrom_13 : decode cX5_copyFrom 13 = .ok (.getfield 18, 3) := by decide +kernel
theorem dX5_copyFrom_16 : decode cX5_copyFrom 16 = .ok (.invokevirtual 29, 3) := by decide +kernel
theorem dX5_copyFrom_19 : decode cX5_copyFrom 19 = .ok (.aload_n 0, 1) := by decide +kernel
theorem dX5_copyFrom_20 : decode cX5_copyFrom 20 = .ok (.aload_n 1, 1) := by decide +kernel
theorem dX5_copyFrom_21 : decode cX5_copyFrom 21 = .ok (.getfield 33, 3) := by decide +kernel
theorem dX5_copyFrom_24 : decode cX5_copyFrom 24 = .ok (.putfield 33, 3) := by decide +kernel
theorem dX5_copyFrom_27 : decode cX5_copyFrom 27 = .ok (.aload_n 0, 1) := by decide +kernel
theorem dX5_copyFrom_28 : decode cX5_copyFrom 28 = .ok (.aload_n 1, 1) := by decide +kernel
theorem dX5_copyFrom_29 : decode cX5_copyFrom 29 = .ok (.getfield 37, 3) := by decide +kernel
theorem dX5_copyFrom_32 : decode cX5_copyFrom 32 = .ok (.putfield 37, 3) := by decide +kernel
theorem dX5_copyFrom_35 : decode cX5_copyFrom 35 = .ok (.aload_n 0, 1) := by decide +kernel
theorem dX5_copyFrom_36 : decode cX5_copyFrom 36 = .ok (.aload_n 1, 1) := by decide +kernel
theorem dX5_copyFrom_37 : decode cX5_copyFrom 37 = .ok (.getfield 40, 3) := by decide +kernel
theorem dX5_copyFrom_40 : decode cX5_copyFrom 40 = .ok (.putfield 40, 3) := by decide +kernel
theorem dX5_copyFrom_43 : decode cX5_copyFrom 43 = .ok (.aload_n 1, 1) := by decide +kernel
theorem dX5_copyFrom_44 : decode cX5_copyFrom 44 = .ok (.getfield 22, 3) := by decide +kernel
theorem dX5_copyFrom_47 : decode cX5_copyFrom 47 = .ok (.iconst 0, 1) := by decide +kernel
theorem dX5_copyFrom_48 : decode cX5_copyFrom 48 = .ok (.aload_n 0, 1) := by decide +kernel
theorem dX5_copyFrom_49 : decode cX5_copyFrom 49 = .ok (.getfield 22, 3) := by decide +kernel
theorem dX5_copyFrom_52 : decode cX5_copyFrom 52 = .ok (.iconst 0, 1) := by decide +kernel
theorem dX5_copyFrom_53 : decode cX5_copyFrom 53 = .ok (.bipush 8, 2) := by decide +kernel
theorem dX5_copyFrom_55 : decode cX5_copyFrom 55 = .ok (.invokestatic 43, 3) := by decide +kernel
theorem dX5_copyFrom_58 : decode cX5_copyFrom 58 = .ok (.aload_n 0, 1) := by decide +kernel
theorem dX5_copyFrom_59 : decode cX5_copyFrom 59 = .ok (.aload_n 1, 1) := by decide +kernel
theorem dX5_copyFrom_60 : decode cX5_copyFrom 60 = .ok (.getfield 49, 3) := by decide +kernel
theorem dX5_copyFrom_63 : decode cX5_copyFrom 63 = .ok (.putfield 49, 3) := by decide +kernel
theorem dX5_copyFrom_66 : decode cX5_copyFrom 66 = .ok (.aload_n 1, 1) := by decide +kernel
theorem dX5_copyFrom_67 : decode cX5_copyFrom 67 = .ok (.getfield 26, 3) := by decide +kernel
theorem dX5_copyFrom_70 : decode cX5_copyFrom 70 = .ok (.iconst 0, 1) := by decide +kernel
theorem dX5_copyFrom_71 : decode cX5_copyFrom 71 = .ok (.aload_n 0, 1) := by decide +kernel
theorem dX5_copyFrom_72 : decode cX5_copyFrom 72 = .ok (.getfield 26, 3) := by decide +kernel
theorem dX5_copyFrom_75 : decode cX5_copyFrom 75 = .ok (.iconst 0, 1) := by decide +kernel
theorem dX5_copyFrom_76 : decode cX5_copyFrom 76 = .ok (.bipush 8, 2) := by decide +kernel
theorem dX5_copyFrom_78 : decode cX5_copyFrom 78 = .ok (.invokestatic 43, 3) := by decide +kernel
theorem dX5_copyFrom_81 : decode cX5_copyFrom 81 = .ok (.return_, 1) := by decide +kernel
theorem dX6_addToken_0 : decode cX6_addToken 0 = .ok (.aload_n 0, 1) := by decide +kernel
theorem dX6_addToken_1 : decode cX6_addToken 1 = .ok (.getfield 21, 3) := by decide +kernel
theorem dX6_addToken_4 : decode cX6_addToken 4 = .ok (.ifCond .lt 55, 3) := by decide +kernel
theorem dX6_addToken_7 : decode cX6_addToken 7 = .ok (.aload_n 0, 1) := by decide +kernel
theorem dX6_addToken_8 : decode cX6_addToken 8 = .ok (.getfield 21, 3) := by decide +kernel
theorem dX6_addToken_11 : decode cX6_addToken 11 = .ok (.aload_n 0, 1) := by decide +kernel
theorem dX6_addToken_12 : decode cX6_addToken 12 = .ok (.getfield 9, 3) := by decide +kernel
theorem dX6_addToken_15 : decode cX6_addToken 15 = .ok (.arraylength, 1) := by decide +kernel
theorem dX6_addToken_16 : decode cX6_addToken 16 = .ok (.if_icmp .ge 43, 3) := by decide +kernel
theorem dX6_addToken_19 : decode cX6_addToken 19 = .ok (.aload_n 0, 1) := by decide +kernel
theorem dX6_addToken_20 : decode cX6_addToken 20 = .ok (.getfield 9, 3) := by decide +kernel
theorem dX6_addToken_23 : decode cX6_addToken 23 = .ok (.aload_n 0, 1) := by decide +kernel
theorem dX6_addToken_24 : decode cX6_addToken 24 = .ok (.getfield 21, 3) := by decide +kernel
theorem dX6_addToken_27 : decode cX6_addToken 27 = .ok (.iload_n 1, 1) := by decide +kernel
theorem dX6_addToken_28 : decode cX6_addToken 28 = .ok (.iastore, 1) := by decide +kernel
theorem dX6_addToken_29 : decode cX6_addToken 29 = .ok (.aload_n 0, 1) := by decide +kernel
theorem dX6_addToken_30 : decode cX6_addToken 30 = .ok (.getfield 15, 3) := by decide +kernel
theorem dX6_addToken_33 : decode cX6_addToken 33 = .ok (.aload_n 0, 1) := by decide +kernel
theorem dX6_addToken_34 : decode cX6_addToken 34 = .ok (.getfield 21, 3) := by decide +kernel
theorem dX6_addToken_37 : decode cX6_addToken 37 = .ok (.iload_n 2, 1) := by decide +kernel
theorem dX6_addToken_38 : decode cX6_addToken 38 = .ok (.iastore, 1) := by decide +kernel
theorem dX6_addToken_39 : decode cX6_addToken 39 = .ok (.aload_n 0, 1) := by decide +kernel
theorem dX6_addToken_40 : decode cX6_addToken 40 = .ok (.getfield 18, 3) := by decide +kernel
theorem dX6_addToken_43 : decode cX6_addToken 43 = .ok (.aload_n 0, 1) := by decide +kernel
theorem dX6_addToken_44 : decode cX6_addToken 44 = .ok (.getfield 21, 3) := by decide +kernel
theorem dX6_addToken_47 : decode cX6_addToken 47 = .ok (.iload_n 3, 1) := by decide +kernel
theorem dX6_addToken_48 : decode cX6_addToken 48 = .ok (.iastore, 1) := by decide +kernel
theorem dX6_addToken_49 : decode cX6_addToken 49 = .ok (.aload_n 0, 1) := by decide +kernel
theorem dX6_addToken_50 : decode cX6_addToken 50 = .ok (.dup, 1) := by decide +kernel
theorem dX6_addToken_51 : decode cX6_addToken 51 = .ok (.getfield 21, 3) := by decide +kernel
theorem dX6_addToken_54 : decode cX6_addToken 54 = .ok (.iconst 1, 1) := by decide +kernel
theorem dX6_addToken_55 : decode cX6_addToken 55 = .ok (.iadd, 1) := by decide +kernel
theorem dX6_addToken_56 : decode cX6_addToken 56 = .ok (.putfield 21, 3) := by decide +kernel
theorem dX6_addToken_59 : decode cX6_addToken 59 = .ok (.return_, 1) := by decide +kernel
theorem dX6_clauseWord_0 : decode cX6_clauseWord 0 = .ok (.aload_n 0, 1) := by decide +kernel
theorem dX6_clauseWord_1 : decode cX6_clauseWord 1 = .ok (.iload_n 1, 1) := by decide +kernel
theorem dX6_clauseWord_2 : decode cX6_clauseWord 2 = .ok (.iload_n 2, 1) := by decide +kernel
theorem dX6_clauseWord_3 : decode cX6_clauseWord 3 = .ok (.ldc 65, 2) := by decide +kernel
theorem dX6_clauseWord_5 : decode cX6_clauseWord 5 = .ok (.invokestatic 67, 3) := by decide +kernel
theorem dX6_clauseWord_8 : decode cX6_clauseWord 8 = .ok (.ifCond .eq 9, 3) := by decide +kernel
theorem dX6_clauseWord_11 : decode cX6_clauseWord 11 = .ok (.sipush 304, 3) := by decide +kernel
theorem dX6_clauseWord_14 : decode cX6_clauseWord 14 = .ok (.goto 125, 3) := by decide +kernel
theorem dX6_clauseWord_17 : decode cX6_clauseWord 17 = .ok (.aload_n 0, 1) := by decide +kernel
theorem dX6_clauseWord_18 : decode cX6_clauseWord 18 = .ok (.iload_n 1, 1) := by decide +kernel
theorem dX6_clauseWord_19 : decode cX6_clauseWord 19 = .ok (.iload_n 2, 1) := by decide +kernel
theorem dX6_clauseWord_20 : decode cX6_clauseWord 20 = .ok (.ldc 71, 2) := by decide +kernel
theorem dX6_clauseWord_22 : decode cX6_clauseWord 22 = .ok (.invokestatic 67, 3) := by decide +kernel
theorem dX6_clauseWord_25 : decode cX6_clauseWord 25 = .ok (.ifCond .eq 9, 3) := by decide +kernel
theorem dX6_clauseWord_28 : decode cX6_clauseWord 28 = .ok (.sipush 305, 3) := by decide +kernel
theorem dX6_clauseWord_31 : decode cX6_clauseWord 31 = .ok (.goto 108, 3) := by decide +kernel
theorem dX6_clauseWord_34 : decode cX6_clauseWord 34 = .ok (.aload_n 0, 1) := by decide +kernel
theorem dX6_clauseWord_35 : decode cX6_clauseWord 35 = .ok (.iload_n 1, 1) := by decide +kernel
theorem dX6_clauseWord_36 : decode cX6_clauseWord 36 = .ok (.iload_n 2, 1) := by decide +kernel
theorem dX6_clauseWord_37 : decode cX6_clauseWord 37 = .ok (.ldc 73, 2) := by decide +kernel
theorem dX6_clauseWord_39 : decode cX6_clauseWord 39 = .ok (.invokestatic 67, 3) := by decide +kernel
theorem dX6_clauseWord_42 : decode cX6_clauseWord 42 = .ok (.ifCond .eq 9, 3) := by decide +kernel
theorem dX6_clauseWord_45 : decode cX6_clauseWord 45 = .ok (.sipush 306, 3) := by decide +kernel
theorem dX6_clauseWord_48 : decode cX6_clauseWord 48 = .ok (.goto 91, 3) := by decide +kernel
theorem dX6_clauseWord_51 : decode cX6_clauseWord 51 = .ok (.aload_n 0, 1) := by decide +kernel
theorem dX6_clauseWord_52 : decode cX6_clauseWord 52 = .ok (.iload_n 1, 1) := by decide +kernel
theorem dX6_clauseWord_53 : decode cX6_clauseWord 53 = .ok (.iload_n 2, 1) := by decide +kernel
theorem dX6_clauseWord_54 : decode cX6_clauseWord 54 = .ok (.ldc 75, 2) := by decide +kernel
theorem dX6_clauseWord_56 : decode cX6_clauseWord 56 = .ok (.invokestatic 67, 3) := by decide +kernel
theorem dX6_clauseWord_59 : decode cX6_clauseWord 59 = .ok (.ifCond .eq 9, 3) := by decide +kernel
theorem dX6_clauseWord_62 : decode cX6_clauseWord 62 = .ok (.sipush 307, 3) := by decide +kernel
theorem dX6_clauseWord_65 : decode cX6_clauseWord 65 = .ok (.goto 74, 3) := by decide +kernel
theorem dX6_clauseWord_68 : decode cX6_clauseWord 68 = .ok (.aload_n 0, 1) := by decide +kernel
theorem dX6_clauseWord_69 : decode cX6_clauseWord 69 = .ok (.iload_n 1, 1) := by decide +kernel
theorem dX6_clauseWord_70 : decode cX6_clauseWord 70 = .ok (.iload_n 2, 1) := by decide +kernel
theorem dX6_clauseWord_71 : decode cX6_clauseWord 71 = .ok (.ldc 77, 2) := by decide +kernel
theorem dX6_clauseWord_73 : decode cX6_clauseWord 73 = .ok (.invokestatic 67, 3) := by decide +kernel
theorem dX6_clauseWord_76 : decode cX6_clauseWord 76 = .ok (.ifCond .eq 9, 3) := by decide +kernel
theorem dX6_clauseWord_79 : decode cX6_clauseWord 79 = .ok (.sipush 308, 3) := by decide +kernel
theorem dX6_clauseWord_82 : decode cX6_clauseWord 82 = .ok (.goto 57, 3) := by decide +kernel
theorem dX6_clauseWord_85 : decode cX6_clauseWord 85 = .ok (.aload_n 0, 1) := by decide +kernel
theorem dX6_clauseWord_86 : decode cX6_clauseWord 86 = .ok (.iload_n 1, 1) := by decide +kernel
theorem dX6_clauseWord_87 : decode cX6_clauseWord 87 = .ok (.iload_n 2, 1) := by decide +kernel
theorem dX6_clauseWord_88 : decode cX6_clauseWord 88 = .ok (.ldc 79, 2) := by decide +kernel
theorem dX6_clauseWord_90 : decode cX6_clauseWord 90 = .ok (.invokestatic 67, 3) := by decide +kernel
theorem dX6_clauseWord_93 : decode cX6_clauseWord 93 = .ok (.ifCond .eq 9, 3) := by decide +kernel
theorem dX6_clauseWord_96 : decode cX6_clauseWord 96 = .ok (.sipush 309, 3) := by decide +kernel
theorem dX6_clauseWord_99 : decode cX6_clauseWord 99 = .ok (.goto 40, 3) := by decide +kernel
theorem dX6_clauseWord_102 : decode cX6_clauseWord 102 = .ok (.aload_n 0, 1) := by decide +kernel
theorem dX6_clauseWord_103 : decode cX6_clauseWord 103 = .ok (.iload_n 1, 1) := by decide +kernel
theorem dX6_clauseWord_104 : decode cX6_clauseWord 104 = .ok (.iload_n 2, 1) := by decide +kernel
theorem dX6_clauseWord_105 : decode cX6_clauseWord 105 = .ok (.ldc 81, 2) := by decide +kernel
theorem dX6_clauseWord_107 : decode cX6_clauseWord 107 = .ok (.invokestatic 67, 3) := by decide +kernel
theorem dX6_clauseWord_110 : decode cX6_clauseWord 110 = .ok (.ifCond .eq 9, 3) := by decide +kernel
theorem dX6_clauseWord_113 : decode cX6_clauseWord 113 = .ok (.sipush 310, 3) := by decide +kernel
theorem dX6_clauseWord_116 : decode cX6_clauseWord 116 = .ok (.goto 23, 3) := by decide +kernel
theorem dX6_clauseWord_119 : decode cX6_clauseWord 119 = .ok (.aload_n 0, 1) := by decide +kernel
theorem dX6_clauseWord_120 : decode cX6_clauseWord 120 = .ok (.iload_n 1, 1) := by decide +kernel
theorem dX6_clauseWord_121 : decode cX6_clauseWord 121 = .ok (.iload_n 2, 1) := by decide +kernel
theorem dX6_clauseWord_122 : decode cX6_clauseWord 122 = .ok (.ldc 83, 2) := by decide +kernel
theorem dX6_clauseWord_124 : decode cX6_clauseWord 124 = .ok (.invokestatic 67, 3) := by decide +kernel
theorem dX6_clauseWord_127 : decode cX6_clauseWord 127 = .ok (.ifCond .eq 9, 3) := by decide +kernel
theorem dX6_clauseWord_130 : decode cX6_clauseWord 130 = .ok (.sipush 311, 3) := by decide +kernel
theorem dX6_clauseWord_133 : decode cX6_clauseWord 133 = .ok (.goto 6, 3) := by decide +kernel
theorem dX6_clauseWord_136 : decode cX6_clauseWord 136 = .ok (.sipush 303, 3) := by decide +kernel
theorem dX6_clauseWord_139 : decode cX6_clauseWord 139 = .ok (.ireturn, 1) := by decide +kernel
theorem dX6_cutNumber_0 : decode cX6_cutNumber 0 = .ok (.iload_n 2, 1) := by decide +kernel
theorem dX6_cutNumber_1 : decode cX6_cutNumber 1 = .ok (.istore 4, 2) := by decide +kernel
theorem dX6_cutNumber_3 : decode cX6_cutNumber 3 = .ok (.iconst 0, 1) := by decide +kernel
theorem dX6_cutNumber_4 : decode cX6_cutNumber 4 = .ok (.istore 5, 2) := by decide +kernel
theorem dX6_cutNumber_6 : decode cX6_cutNumber 6 = .ok (.iload 4, 2) := by decide +kernel
theorem dX6_cutNumber_8 : decode cX6_cutNumber 8 = .ok (.iload_n 3, 1) := by decide +kernel
theorem dX6_cutNumber_9 : decode cX6_cutNumber 9 = .ok (.if_icmp .ge 46, 3) := by decide +kernel
theorem dX6_cutNumber_12 : decode cX6_cutNumber 12 = .ok (.aload_n 1, 1) := by decide +kernel
theorem dX6_cutNumber_13 : decode cX6_cutNumber 13 = .ok (.iload 4, 2) := by decide +kernel
theorem dX6_cutNumber_15 : decode cX6_cutNumber 15 = .ok (.invokestatic 42, 3) := by decide +kernel
theorem dX6_cutNumber_18 : decode cX6_cutNumber 18 = .ok (.invokestatic 46, 3) := by decide +kernel
theorem dX6_cutNumber_21 : decode cX6_cutNumber 21 = .ok (.ifCond .eq 34, 3) := by decide +kernel
theorem dX6_cutNumber_24 : decode cX6_cutNumber 24 = .ok (.iload 4, 2) := by decide +kernel
theorem dX6_cutNumber_26 : decode cX6_cutNumber 26 = .ok (.iload_n 2, 1) := by decide +kernel
theorem dX6_cutNumber_27 : decode cX6_cutNumber 27 = .ok (.iconst 5, 1) := by decide +kernel
theorem dX6_cutNumber_28 : decode cX6_cutNumber 28 = .ok (.iadd, 1) := by decide +kernel
theorem dX6_cutNumber_29 : decode cX6_cutNumber 29 = .ok (.if_icmp .ge 20, 3) := by decide +kernel
theorem dX6_cutNumber_32 : decode cX6_cutNumber 32 = .ok (.iload 5, 2) := by decide +kernel
theorem dX6_cutNumber_34 : decode cX6_cutNumber 34 = .ok (.bipush 10, 2) := by decide +kernel
theorem dX6_cutNumber_36 : decode cX6_cutNumber 36 = .ok (.imul, 1) := by decide +kernel
theorem dX6_cutNumber_37 : decode cX6_cutNumber 37 = .ok (.aload_n 1, 1) := by decide +kernel
theorem dX6_cutNumber_38 : decode cX6_cutNumber 38 = .ok (.iload 4, 2) := by decide +kernel
theorem dX6_cutNumber_40 : decode cX6_cutNumber 40 = .ok (.invokestatic 42, 3) := by decide +kernel
theorem dX6_cutNumber_43 : decode cX6_cutNumber 43 = .ok (.iadd, 1) := by decide +kernel
theorem dX6_cutNumber_44 : decode cX6_cutNumber 44 = .ok (.bipush 48, 2) := by decide +kernel
theorem dX6_cutNumber_46 : decode cX6_cutNumber 46 = .ok (.isub, 1) := by decide +kernel
theorem dX6_cutNumber_47 : decode cX6_cutNumber 47 = .ok (.istore 5, 2) := by decide +kernel
theorem dX6_cutNumber_49 : decode cX6_cutNumber 49 = .ok (.iinc 4 1, 3) := by decide +kernel
theorem dX6_cutNumber_52 : decode cX6_cutNumber 52 = .ok (.goto (-46), 3) := by decide +kernel
theorem dX6_cutNumber_55 : decode cX6_cutNumber 55 = .ok (.aload_n 0, 1) := by decide +kernel
theorem dX6_cutNumber_56 : decode cX6_cutNumber 56 = .ok (.iload 4, 2) := by decide +kernel
theorem dX6_cutNumber_58 : decode cX6_cutNumber 58 = .ok (.iload_n 2, 1) := by decide +kernel
theorem dX6_cutNumber_59 : decode cX6_cutNumber 59 = .ok (.isub, 1) := by decide +kernel
theorem dX6_cutNumber_60 : decode cX6_cutNumber 60 = .ok (.iconst 5, 1) := by decide +kernel
theorem dX6_cutNumber_61 : decode cX6_cutNumber 61 = .ok (.if_icmp .le 9, 3) := by decide +kernel
theorem dX6_cutNumber_64 : decode cX6_cutNumber 64 = .ok (.sipush 302, 3) := by decide +kernel
theorem dX6_cutNumber_67 : decode cX6_cutNumber 67 = .ok (.goto 6, 3) := by decide +kernel
theorem dX6_cutNumber_70 : decode cX6_cutNumber 70 = .ok (.sipush 301, 3) := by decide +kernel
theorem dX6_cutNumber_73 : decode cX6_cutNumber 73 = .ok (.iload_n 2, 1) := by decide +kernel
theorem dX6_cutNumber_74 : decode cX6_cutNumber 74 = .ok (.iload 5, 2) := by decide +kernel
theorem dX6_cutNumber_76 : decode cX6_cutNumber 76 = .ok (.invokevirtual 29, 3) := by decide +kernel
theorem dX6_cutNumber_79 : decode cX6_cutNumber 79 = .ok (.iload 4, 2) := by decide +kernel
theorem dX6_cutNumber_81 : decode cX6_cutNumber 81 = .ok (.ireturn, 1) := by decide +kernel
theorem dX6_cutToken_0 : decode cX6_cutToken 0 = .ok (.aload_n 1, 1) := by decide +kernel
theorem dX6_cutToken_1 : decode cX6_cutToken 1 = .ok (.iload_n 2, 1) := by decide +kernel
theorem dX6_cutToken_2 : decode cX6_cutToken 2 = .ok (.invokestatic 42, 3) := by decide +kernel
theorem dX6_cutToken_5 : decode cX6_cutToken 5 = .ok (.istore 4, 2) := by decide +kernel
theorem dX6_cutToken_7 : decode cX6_cutToken 7 = .ok (.iload 4, 2) := by decide +kernel
theorem dX6_cutToken_9 : decode cX6_cutToken 9 = .ok (.bipush 32, 2) := by decide +kernel
theorem dX6_cutToken_11 : decode cX6_cutToken 11 = .ok (.if_icmp .ne 7, 3) := by decide +kernel
theorem dX6_cutToken_14 : decode cX6_cutToken 14 = .ok (.iload_n 2, 1) := by decide +kernel
theorem dX6_cutToken_15 : decode cX6_cutToken 15 = .ok (.iconst 1, 1) := by decide +kernel
theorem dX6_cutToken_16 : decode cX6_cutToken 16 = .ok (.iadd, 1) := by decide +kernel
theorem dX6_cutToken_17 : decode cX6_cutToken 17 = .ok (.ireturn, 1) := by decide +kernel
theorem dX6_cutToken_18 : decode cX6_cutToken 18 = .ok (.iload 4, 2) := by decide +kernel
theorem dX6_cutToken_20 : decode cX6_cutToken 20 = .ok (.invokestatic 46, 3) := by decide +kernel
theorem dX6_cutToken_23 : decode cX6_cutToken 23 = .ok (.ifCond .eq 11, 3) := by decide +kernel
theorem dX6_cutToken_26 : decode cX6_cutToken 26 = .ok (.aload_n 0, 1) := by decide +kernel
theorem dX6_cutToken_27 : decode cX6_cutToken 27 = .ok (.aload_n 1, 1) := by decide +kernel
theorem dX6_cutToken_28 : decode cX6_cutToken 28 = .ok (.iload_n 2, 1) := by decide +kernel
theorem dX6_cutToken_29 : decode cX6_cutToken 29 = .ok (.iload_n 3, 1) := by decide +kernel
theorem dX6_cutToken_30 : decode cX6_cutToken 30 = .ok (.invokevirtual 50, 3) := by decide +kernel
theorem dX6_cutToken_33 : decode cX6_cutToken 33 = .ok (.ireturn, 1) := by decide +kernel
theorem dX6_cutToken_34 : decode cX6_cutToken 34 = .ok (.iload 4, 2) := by decide +kernel
theorem dX6_cutToken_36 : decode cX6_cutToken 36 = .ok (.invokestatic 53, 3) := by decide +kernel
theorem dX6_cutToken_39 : decode cX6_cutToken 39 = .ok (.ifCond .eq 11, 3) := by decide +kernel
theorem dX6_cutToken_42 : decode cX6_cutToken 42 = .ok (.aload_n 0, 1) := by decide +kernel
theorem dX6_cutToken_43 : decode cX6_cutToken 43 = .ok (.aload_n 1, 1) := by decide +kernel
theorem dX6_cutToken_44 : decode cX6_cutToken 44 = .ok (.iload_n 2, 1) := by decide +kernel
theorem dX6_cutToken_45 : decode cX6_cutToken 45 = .ok (.iload_n 3, 1) := by decide +kernel
theorem dX6_cutToken_46 : decode cX6_cutToken 46 = .ok (.invokevirtual 56, 3) := by decide +kernel
theorem dX6_cutToken_49 : decode cX6_cutToken 49 = .ok (.ireturn, 1) := by decide +kernel
theorem dX6_cutToken_50 : decode cX6_cutToken 50 = .ok (.iload 4, 2) := by decide +kernel
theorem dX6_cutToken_52 : decode cX6_cutToken 52 = .ok (.bipush 60, 2) := by decide +kernel
theorem dX6_cutToken_54 : decode cX6_cutToken 54 = .ok (.if_icmp .eq 10, 3) := by decide +kernel
theorem dX6_cutToken_57 : decode cX6_cutToken 57 = .ok (.iload 4, 2) := by decide +kernel
theorem dX6_cutToken_59 : decode cX6_cutToken 59 = .ok (.bipush 62, 2) := by decide +kernel
theorem dX6_cutToken_61 : decode cX6_cutToken 61 = .ok (.if_icmp .ne 26, 3) := by decide +kernel
theorem dX6_cutToken_64 : decode cX6_cutToken 64 = .ok (.iload_n 2, 1) := by decide +kernel
theorem dX6_cutToken_65 : decode cX6_cutToken 65 = .ok (.iconst 1, 1) := by decide +kernel
theorem dX6_cutToken_66 : decode cX6_cutToken 66 = .ok (.iadd, 1) := by decide +kernel
theorem dX6_cutToken_67 : decode cX6_cutToken 67 = .ok (.iload_n 3, 1) := by decide +kernel
theorem dX6_cutToken_68 : decode cX6_cutToken 68 = .ok (.if_icmp .ge 19, 3) := by decide +kernel
theorem dX6_cutToken_71 : decode cX6_cutToken 71 = .ok (.aload_n 1, 1) := by decide +kernel
theorem dX6_cutToken_72 : decode cX6_cutToken 72 = .ok (.iload_n 2, 1) := by decide +kernel
theorem dX6_cutToken_73 : decode cX6_cutToken 73 = .ok (.iconst 1, 1) := by decide +kernel
theorem dX6_cutToken_74 : decode cX6_cutToken 74 = .ok (.iadd, 1) := by decide +kernel
theorem dX6_cutToken_75 : decode cX6_cutToken 75 = .ok (.invokestatic 42, 3) := by decide +kernel
theorem dX6_cutToken_78 : decode cX6_cutToken 78 = .ok (.bipush 61, 2) := by decide +kernel
theorem dX6_cutToken_80 : decode cX6_cutToken 80 = .ok (.if_icmp .ne 7, 3) := by decide +kernel
theorem dX6_cutToken_83 : decode cX6_cutToken 83 = .ok (.iconst 1, 1) := by decide +kernel
theorem dX6_cutToken_84 : decode cX6_cutToken 84 = .ok (.goto 4, 3) := by decide +kernel
theorem dX6_cutToken_87 : decode cX6_cutToken 87 = .ok (.iconst 0, 1) := by decide +kernel
theorem dX6_cutToken_88 : decode cX6_cutToken 88 = .ok (.istore 5, 2) := by decide +kernel
theorem dX6_cutToken_90 : decode cX6_cutToken 90 = .ok (.iload 5, 2) := by decide +kernel
theorem dX6_cutToken_92 : decode cX6_cutToken 92 = .ok (.ifCond .eq 29, 3) := by decide +kernel
theorem dX6_cutToken_95 : decode cX6_cutToken 95 = .ok (.aload_n 0, 1) := by decide +kernel
theorem dX6_cutToken_96 : decode cX6_cutToken 96 = .ok (.iload 4, 2) := by decide +kernel
theorem dX6_cutToken_98 : decode cX6_cutToken 98 = .ok (.bipush 60, 2) := by decide +kernel
theorem dX6_cutToken_100 : decode cX6_cutToken 100 = .ok (.if_icmp .ne 9, 3) := by decide +kernel
theorem dX6_cutToken_103 : decode cX6_cutToken 103 = .ok (.sipush 256, 3) := by decide +kernel
theorem dX6_cutToken_106 : decode cX6_cutToken 106 = .ok (.goto 6, 3) := by decide +kernel
theorem dX6_cutToken_109 : decode cX6_cutToken 109 = .ok (.sipush 257, 3) := by decide +kernel
theorem dX6_cutToken_112 : decode cX6_cutToken 112 = .ok (.iload_n 2, 1) := by decide +kernel
theorem dX6_cutToken_113 : decode cX6_cutToken 113 = .ok (.iconst 0, 1) := by decide +kernel
theorem dX6_cutToken_114 : decode cX6_cutToken 114 = .ok (.invokevirtual 29, 3) := by decide +kernel
theorem dX6_cutToken_117 : decode cX6_cutToken 117 = .ok (.iload_n 2, 1) := by decide +kernel
theorem dX6_cutToken_118 : decode cX6_cutToken 118 = .ok (.iconst 2, 1) := by decide +kernel
theorem dX6_cutToken_119 : decode cX6_cutToken 119 = .ok (.iadd, 1) := by decide +kernel
theorem dX6_cutToken_120 : decode cX6_cutToken 120 = .ok (.ireturn, 1) := by decide +kernel
theorem dX6_cutToken_121 : decode cX6_cutToken 121 = .ok (.aload_n 0, 1) := by decide +kernel
theorem dX6_cutToken_122 : decode cX6_cutToken 122 = .ok (.iload 4, 2) := by decide +kernel
theorem dX6_cutToken_124 : decode cX6_cutToken 124 = .ok (.iload_n 2, 1) := by decide +kernel
theorem dX6_cutToken_125 : decode cX6_cutToken 125 = .ok (.iconst 0, 1) := by decide +kernel
theorem dX6_cutToken_126 : decode cX6_cutToken 126 = .ok (.invokevirtual 29, 3) := by decide +kernel
theorem dX6_cutToken_129 : decode cX6_cutToken 129 = .ok (.iload_n 2, 1) := by decide +kernel
theorem dX6_cutToken_130 : decode cX6_cutToken 130 = .ok (.iconst 1, 1) := by decide +kernel
theorem dX6_cutToken_131 : decode cX6_cutToken 131 = .ok (.iadd, 1) := by decide +kernel
theorem dX6_cutToken_132 : decode cX6_cutToken 132 = .ok (.ireturn, 1) := by decide +kernel
theorem dX6_cutWord_0 : decode cX6_cutWord 0 = .ok (.iload_n 2, 1) := by decide +kernel
theorem dX6_cutWord_1 : decode cX6_cutWord 1 = .ok (.istore 4, 2) := by decide +kernel
theorem dX6_cutWord_3 : decode cX6_cutWord 3 = .ok (.iload 4, 2) := by decide +kernel
theorem dX6_cutWord_5 : decode cX6_cutWord 5 = .ok (.iload_n 3, 1) := by decide +kernel
theorem dX6_cutWord_6 : decode cX6_cutWord 6 = .ok (.if_icmp .ge 21, 3) := by decide +kernel
theorem dX6_cutWord_9 : decode cX6_cutWord 9 = .ok (.aload_n 1, 1) := by decide +kernel
theorem dX6_cutWord_10 : decode cX6_cutWord 10 = .ok (.iload 4, 2) := by decide +kernel
theorem dX6_cutWord_12 : decode cX6_cutWord 12 = .ok (.invokestatic 42, 3) := by decide +kernel
theorem dX6_cutWord_15 : decode cX6_cutWord 15 = .ok (.invokestatic 53, 3) := by decide +kernel
theorem dX6_cutWord_18 : decode cX6_cutWord 18 = .ok (.ifCond .eq 9, 3) := by decide +kernel
theorem dX6_cutWord_21 : decode cX6_cutWord 21 = .ok (.iinc 4 1, 3) := by decide +kernel
theorem dX6_cutWord_24 : decode cX6_cutWord 24 = .ok (.goto (-21), 3) := by decide +kernel
theorem dX6_cutWord_27 : decode cX6_cutWord 27 = .ok (.aload_n 1, 1) := by decide +kernel
theorem dX6_cutWord_28 : decode cX6_cutWord 28 = .ok (.iload_n 2, 1) := by decide +kernel
theorem dX6_cutWord_29 : decode cX6_cutWord 29 = .ok (.iload 4, 2) := by decide +kernel
theorem dX6_cutWord_31 : decode cX6_cutWord 31 = .ok (.invokestatic 59, 3) := by decide +kernel
theorem dX6_cutWord_34 : decode cX6_cutWord 34 = .ok (.istore 5, 2) := by decide +kernel
theorem dX6_cutWord_36 : decode cX6_cutWord 36 = .ok (.aload_n 0, 1) := by decide +kernel
theorem dX6_cutWord_37 : decode cX6_cutWord 37 = .ok (.iload 5, 2) := by decide +kernel
theorem dX6_cutWord_39 : decode cX6_cutWord 39 = .ok (.sipush 303, 3) := by decide +kernel
theorem dX6_cutWord_42 : decode cX6_cutWord 42 = .ok (.if_icmp .ne 13, 3) := by decide +kernel
theorem dX6_cutWord_45 : decode cX6_cutWord 45 = .ok (.aload_n 1, 1) := by decide +kernel
theorem dX6_cutWord_46 : decode cX6_cutWord 46 = .ok (.iload_n 2, 1) := by decide +kernel
theorem dX6_cutWord_47 : decode cX6_cutWord 47 = .ok (.iload 4, 2) := by decide +kernel
theorem dX6_cutWord_49 : decode cX6_cutWord 49 = .ok (.invokestatic 62, 3) := by decide +kernel
theorem dX6_cutWord_52 : decode cX6_cutWord 52 = .ok (.goto 5, 3) := by decide +kernel
theorem dX6_cutWord_55 : decode cX6_cutWord 55 = .ok (.iload 5, 2) := by decide +kernel
theorem dX6_cutWord_57 : decode cX6_cutWord 57 = .ok (.iload_n 2, 1) := by decide +kernel
theorem dX6_cutWord_58 : decode cX6_cutWord 58 = .ok (.iconst 0, 1) := by decide +kernel
theorem dX6_cutWord_59 : decode cX6_cutWord 59 = .ok (.invokevirtual 29, 3) := by decide +kernel
theorem dX6_cutWord_62 : decode cX6_cutWord 62 = .ok (.iload 4, 2) := by decide +kernel
theorem dX6_cutWord_64 : decode cX6_cutWord 64 = .ok (.ireturn, 1) := by decide +kernel
theorem dX6_isDigit_0 : decode cX6_isDigit 0 = .ok (.iload_n 0, 1) := by decide +kernel
theorem dX6_isDigit_1 : decode cX6_isDigit 1 = .ok (.bipush 48, 2) := by decide +kernel
theorem dX6_isDigit_3 : decode cX6_isDigit 3 = .ok (.if_icmp .lt 13, 3) := by decide +kernel
theorem dX6_isDigit_6 : decode cX6_isDigit 6 = .ok (.iload_n 0, 1) := by decide +kernel
theorem dX6_isDigit_7 : decode cX6_isDigit 7 = .ok (.bipush 57, 2) := by decide +kernel
theorem dX6_isDigit_9 : decode cX6_isDigit 9 = .ok (.if_icmp .gt 7, 3) := by decide +kernel
theorem dX6_isDigit_12 : decode cX6_isDigit 12 = .ok (.iconst 1, 1) := by decide +kernel
theorem dX6_isDigit_13 : decode cX6_isDigit 13 = .ok (.goto 4, 3) := by decide +kernel
theorem dX6_isDigit_16 : decode cX6_isDigit 16 = .ok (.iconst 0, 1) := by decide +kernel
theorem dX6_isDigit_17 : decode cX6_isDigit 17 = .ok (.ireturn, 1) := by decide +kernel
theorem dX6_isLetter_0 : decode cX6_isLetter 0 = .ok (.iload_n 0, 1) := by decide +kernel
theorem dX6_isLetter_1 : decode cX6_isLetter 1 = .ok (.bipush 97, 2) := by decide +kernel
theorem dX6_isLetter_3 : decode cX6_isLetter 3 = .ok (.if_icmp .lt 13, 3) := by decide +kernel
theorem dX6_isLetter_6 : decode cX6_isLetter 6 = .ok (.iload_n 0, 1) := by decide +kernel
theorem dX6_isLetter_7 : decode cX6_isLetter 7 = .ok (.bipush 122, 2) := by decide +kernel
theorem dX6_isLetter_9 : decode cX6_isLetter 9 = .ok (.if_icmp .gt 7, 3) := by decide +kernel
theorem dX6_isLetter_12 : decode cX6_isLetter 12 = .ok (.iconst 1, 1) := by decide +kernel
theorem dX6_isLetter_13 : decode cX6_isLetter 13 = .ok (.goto 4, 3) := by decide +kernel
theorem dX6_isLetter_16 : decode cX6_isLetter 16 = .ok (.iconst 0, 1) := by decide +kernel
theorem dX6_isLetter_17 : decode cX6_isLetter 17 = .ok (.ireturn, 1) := by decide +kernel
theorem dX6_open_0 : decode cX6_open 0 = .ok (.aload_n 0, 1) := by decide +kernel
theorem dX6_open_1 : decode cX6_open 1 = .ok (.iconst 0, 1) := by decide +kernel
theorem dX6_open_2 : decode cX6_open 2 = .ok (.putfield 21, 3) := by decide +kernel
theorem dX6_open_5 : decode cX6_open 5 = .ok (.iconst 0, 1) := by decide +kernel
theorem dX6_open_6 : decode cX6_open 6 = .ok (.istore_n 3, 1) := by decide +kernel
theorem dX6_open_7 : decode cX6_open 7 = .ok (.iconst 0, 1) := by decide +kernel
theorem dX6_open_8 : decode cX6_open 8 = .ok (.istore 4, 2) := by decide +kernel
theorem dX6_open_10 : decode cX6_open 10 = .ok (.iload 4, 2) := by decide +kernel
theorem dX6_open_12 : decode cX6_open 12 = .ok (.sipush 400, 3) := by decide +kernel
theorem dX6_open_15 : decode cX6_open 15 = .ok (.if_icmp .ge 22, 3) := by decide +kernel
theorem dX6_open_18 : decode cX6_open 18 = .ok (.iload_n 3, 1) := by decide +kernel
theorem dX6_open_19 : decode cX6_open 19 = .ok (.iload_n 2, 1) := by decide +kernel
theorem dX6_open_20 : decode cX6_open 20 = .ok (.if_icmp .ge 17, 3) := by decide +kernel
theorem dX6_open_23 : decode cX6_open 23 = .ok (.aload_n 0, 1) := by decide +kernel
theorem dX6_open_24 : decode cX6_open 24 = .ok (.aload_n 1, 1) := by decide +kernel
theorem dX6_open_25 : decode cX6_open 25 = .ok (.iload_n 3, 1) := by decide +kernel
theorem dX6_open_26 : decode cX6_open 26 = .ok (.iload_n 2, 1) := by decide +kernel
theorem dX6_open_27 : decode cX6_open 27 = .ok (.invokevirtual 25, 3) := by decide +kernel
theorem dX6_open_30 : decode cX6_open 30 = .ok (.istore_n 3, 1) := by decide +kernel
theorem dX6_open_31 : decode cX6_open 31 = .ok (.iinc 4 1, 3) := by decide +kernel
theorem dX6_open_34 : decode cX6_open 34 = .ok (.goto (-24), 3) := by decide +kernel
theorem dX6_open_37 : decode cX6_open 37 = .ok (.aload_n 0, 1) := by decide +kernel
theorem dX6_open_38 : decode cX6_open 38 = .ok (.sipush 300, 3) := by decide +kernel
theorem dX6_open_41 : decode cX6_open 41 = .ok (.iload_n 2, 1) := by decide +kernel
theorem dX6_open_42 : decode cX6_open 42 = .ok (.iconst 0, 1) := by decide +kernel
theorem dX6_open_43 : decode cX6_open 43 = .ok (.invokevirtual 29, 3) := by decide +kernel
theorem dX6_open_46 : decode cX6_open 46 = .ok (.aload_n 0, 1) := by decide +kernel
theorem dX6_open_47 : decode cX6_open 47 = .ok (.iconst 0, 1) := by decide +kernel
theorem dX6_open_48 : decode cX6_open 48 = .ok (.putfield 33, 3) := by decide +kernel
theorem dX6_open_51 : decode cX6_open 51 = .ok (.aload_n 0, 1) := by decide +kernel
theorem dX6_open_52 : decode cX6_open 52 = .ok (.iconst 0, 1) := by decide +kernel
theorem dX6_open_53 : decode cX6_open 53 = .ok (.putfield 36, 3) := by decide +kernel
theorem dX6_open_56 : decode cX6_open 56 = .ok (.aload_n 0, 1) := by decide +kernel
theorem dX6_open_57 : decode cX6_open 57 = .ok (.invokevirtual 39, 3) := by decide +kernel
theorem dX6_open_60 : decode cX6_open 60 = .ok (.return_, 1) := by decide +kernel
theorem dX6_spells_0 : decode cX6_spells 0 = .ok (.iload_n 2, 1) := by decide +kernel
theorem dX6_spells_1 : decode cX6_spells 1 = .ok (.iload_n 1, 1) := by decide +kernel
theorem dX6_spells_2 : decode cX6_spells 2 = .ok (.isub, 1) := by decide +kernel
theorem dX6_spells_3 : decode cX6_spells 3 = .ok (.aload_n 3, 1) := by decide +kernel
theorem dX6_spells_4 : decode cX6_spells 4 = .ok (.invokevirtual 102, 3) := by decide +kernel
theorem dX6_spells_7 : decode cX6_spells 7 = .ok (.if_icmp .eq 5, 3) := by decide +kernel
theorem dX6_spells_10 : decode cX6_spells 10 = .ok (.iconst 0, 1) := by decide +kernel
theorem dX6_spells_11 : decode cX6_spells 11 = .ok (.ireturn, 1) := by decide +kernel
theorem dX6_spells_12 : decode cX6_spells 12 = .ok (.iconst 0, 1) := by decide +kernel
theorem dX6_spells_13 : decode cX6_spells 13 = .ok (.istore 4, 2) := by decide +kernel
theorem dX6_spells_15 : decode cX6_spells 15 = .ok (.iload 4, 2) := by decide +kernel
theorem dX6_spells_17 : decode cX6_spells 17 = .ok (.aload_n 3, 1) := by decide +kernel
theorem dX6_spells_18 : decode cX6_spells 18 = .ok (.invokevirtual 102, 3) := by decide +kernel
theorem dX6_spells_21 : decode cX6_spells 21 = .ok (.if_icmp .ge 28, 3) := by decide +kernel
theorem dX6_spells_24 : decode cX6_spells 24 = .ok (.aload_n 0, 1) := by decide +kernel
theorem dX6_spells_25 : decode cX6_spells 25 = .ok (.iload_n 1, 1) := by decide +kernel
theorem dX6_spells_26 : decode cX6_spells 26 = .ok (.iload 4, 2) := by decide +kernel
theorem dX6_spells_28 : decode cX6_spells 28 = .ok (.iadd, 1) := by decide +kernel
theorem dX6_spells_29 : decode cX6_spells 29 = .ok (.invokestatic 42, 3) := by decide +kernel
theorem dX6_spells_32 : decode cX6_spells 32 = .ok (.aload_n 3, 1) := by decide +kernel
theorem dX6_spells_33 : decode cX6_spells 33 = .ok (.iload 4, 2) := by decide +kernel
theorem dX6_spells_35 : decode cX6_spells 35 = .ok (.invokevirtual 108, 3) := by decide +kernel
theorem dX6_spells_38 : decode cX6_spells 38 = .ok (.if_icmp .eq 5, 3) := by decide +kernel
theorem dX6_spells_41 : decode cX6_spells 41 = .ok (.iconst 0, 1) := by decide +kernel
theorem dX6_spells_42 : decode cX6_spells 42 = .ok (.ireturn, 1) := by decide +kernel
theorem dX6_spells_43 : decode cX6_spells 43 = .ok (.iinc 4 1, 3) := by decide +kernel
theorem dX6_spells_46 : decode cX6_spells 46 = .ok (.goto (-31), 3) := by decide +kernel
theorem dX6_spells_49 : decode cX6_spells 49 = .ok (.iconst 1, 1) := by decide +kernel
theorem dX6_spells_50 : decode cX6_spells 50 = .ok (.ireturn, 1) := by decide +kernel
theorem dX6_step_0 : decode cX6_step 0 = .ok (.aload_n 0, 1) := by decide +kernel
theorem dX6_step_1 : decode cX6_step 1 = .ok (.getfield 36, 3) := by decide +kernel
theorem dX6_step_4 : decode cX6_step 4 = .ok (.ifCond .lt 75, 3) := by decide +kernel
theorem dX6_step_7 : decode cX6_step 7 = .ok (.aload_n 0, 1) := by decide +kernel
theorem dX6_step_8 : decode cX6_step 8 = .ok (.getfield 36, 3) := by decide +kernel
theorem dX6_step_11 : decode cX6_step 11 = .ok (.aload_n 0, 1) := by decide +kernel
theorem dX6_step_12 : decode cX6_step 12 = .ok (.getfield 21, 3) := by decide +kernel
theorem dX6_step_15 : decode cX6_step 15 = .ok (.if_icmp .ge 64, 3) := by decide +kernel
theorem dX6_step_18 : decode cX6_step 18 = .ok (.aload_n 0, 1) := by decide +kernel
theorem dX6_step_19 : decode cX6_step 19 = .ok (.getfield 36, 3) := by decide +kernel
theorem dX6_step_22 : decode cX6_step 22 = .ok (.aload_n 0, 1) := by decide +kernel
theorem dX6_step_23 : decode cX6_step 23 = .ok (.getfield 9, 3) := by decide +kernel
theorem dX6_step_26 : decode cX6_step 26 = .ok (.arraylength, 1) := by decide +kernel
theorem dX6_step_27 : decode cX6_step 27 = .ok (.if_icmp .ge 52, 3) := by decide +kernel
theorem dX6_step_30 : decode cX6_step 30 = .ok (.aload_n 0, 1) := by decide +kernel
theorem dX6_step_31 : decode cX6_step 31 = .ok (.aload_n 0, 1) := by decide +kernel
theorem dX6_step_32 : decode cX6_step 32 = .ok (.getfield 9, 3) := by decide +kernel
theorem dX6_step_35 : decode cX6_step 35 = .ok (.aload_n 0, 1) := by decide +kernel
theorem dX6_step_36 : decode cX6_step 36 = .ok (.getfield 36, 3) := by decide +kernel
theorem dX6_step_39 : decode cX6_step 39 = .ok (.iaload, 1) := by decide +kernel
theorem dX6_step_40 : decode cX6_step 40 = .ok (.putfield 112, 3) := by decide +kernel
theorem dX6_step_43 : decode cX6_step 43 = .ok (.aload_n 0, 1) := by decide +kernel
theorem dX6_step_44 : decode cX6_step 44 = .ok (.aload_n 0, 1) := by decide +kernel
theorem dX6_step_45 : decode cX6_step 45 = .ok (.getfield 15, 3) := by decide +kernel
theorem dX6_step_48 : decode cX6_step 48 = .ok (.aload_n 0, 1) := by decide +kernel
theorem dX6_step_49 : decode cX6_step 49 = .ok (.getfield 36, 3) := by decide +kernel
theorem dX6_step_52 : decode cX6_step 52 = .ok (.iaload, 1) := by decide +kernel
theorem dX6_step_53 : decode cX6_step 53 = .ok (.putfield 115, 3) := by decide +kernel
theorem dX6_step_56 : decode cX6_step 56 = .ok (.aload_n 0, 1) := by decide +kernel
theorem dX6_step_57 : decode cX6_step 57 = .ok (.aload_n 0, 1) := by decide +kernel
theorem dX6_step_58 : decode cX6_step 58 = .ok (.getfield 18, 3) := by decide +kernel
theorem dX6_step_61 : decode cX6_step 61 = .ok (.aload_n 0, 1) := by decide +kernel
theorem dX6_step_62 : decode cX6_step 62 = .ok (.getfield 36, 3) := by decide +kernel
theorem dX6_step_65 : decode cX6_step 65 = .ok (.iaload, 1) := by decide +kernel
theorem dX6_step_66 : decode cX6_step 66 = .ok (.putfield 118, 3) := by decide +kernel
theorem dX6_step_69 : decode cX6_step 69 = .ok (.aload_n 0, 1) := by decide +kernel
theorem dX6_step_70 : decode cX6_step 70 = .ok (.dup, 1) := by decide +kernel
theorem dX6_step_71 : decode cX6_step 71 = .ok (.getfield 36, 3) := by decide +kernel
theorem dX6_step_74 : decode cX6_step 74 = .ok (.iconst 1, 1) := by decide +kernel
theorem dX6_step_75 : decode cX6_step 75 = .ok (.iadd, 1) := by decide +kernel
theorem dX6_step_76 : decode cX6_step 76 = .ok (.putfield 36, 3) := by decide +kernel
theorem dX6_step_79 : decode cX6_step 79 = .ok (.return_, 1) := by decide +kernel
theorem dX6_valueWord_0 : decode cX6_valueWord 0 = .ok (.aload_n 0, 1) := by decide +kernel
theorem dX6_valueWord_1 : decode cX6_valueWord 1 = .ok (.iload_n 1, 1) := by decide +kernel
theorem dX6_valueWord_2 : decode cX6_valueWord 2 = .ok (.iload_n 2, 1) := by decide +kernel
theorem dX6_valueWord_3 : decode cX6_valueWord 3 = .ok (.ldc 85, 2) := by decide +kernel
theorem dX6_valueWord_5 : decode cX6_valueWord 5 = .ok (.invokestatic 67, 3) := by decide +kernel
theorem dX6_valueWord_8 : decode cX6_valueWord 8 = .ok (.ifCond .eq 9, 3) := by decide +kernel
theorem dX6_valueWord_11 : decode cX6_valueWord 11 = .ok (.sipush 312, 3) := by decide +kernel
theorem dX6_valueWord_14 : decode cX6_valueWord 14 = .ok (.goto 142, 3) := by decide +kernel
theorem dX6_valueWord_17 : decode cX6_valueWord 17 = .ok (.aload_n 0, 1) := by decide +kernel
theorem dX6_valueWord_18 : decode cX6_valueWord 18 = .ok (.iload_n 1, 1) := by decide +kernel
theorem dX6_valueWord_19 : decode cX6_valueWord 19 = .ok (.iload_n 2, 1) := by decide +kernel
theorem dX6_valueWord_20 : decode cX6_valueWord 20 = .ok (.ldc 86, 2) := by decide +kernel
theorem dX6_valueWord_22 : decode cX6_valueWord 22 = .ok (.invokestatic 67, 3) := by decide +kernel
theorem dX6_valueWord_25 : decode cX6_valueWord 25 = .ok (.ifCond .eq 9, 3) := by decide +kernel
theorem dX6_valueWord_28 : decode cX6_valueWord 28 = .ok (.sipush 313, 3) := by decide +kernel
theorem dX6_valueWord_31 : decode cX6_valueWord 31 = .ok (.goto 125, 3) := by decide +kernel
theorem dX6_valueWord_34 : decode cX6_valueWord 34 = .ok (.aload_n 0, 1) := by decide +kernel
theorem dX6_valueWord_35 : decode cX6_valueWord 35 = .ok (.iload_n 1, 1) := by decide +kernel
theorem dX6_valueWord_36 : decode cX6_valueWord 36 = .ok (.iload_n 2, 1) := by decide +kernel
theorem dX6_valueWord_37 : decode cX6_valueWord 37 = .ok (.ldc 88, 2) := by decide +kernel
theorem dX6_valueWord_39 : decode cX6_valueWord 39 = .ok (.invokestatic 67, 3) := by decide +kernel
theorem dX6_valueWord_42 : decode cX6_valueWord 42 = .ok (.ifCond .eq 9, 3) := by decide +kernel
theorem dX6_valueWord_45 : decode cX6_valueWord 45 = .ok (.sipush 314, 3) := by decide +kernel
theorem dX6_valueWord_48 : decode cX6_valueWord 48 = .ok (.goto 108, 3) := by decide +kernel
theorem dX6_valueWord_51 : decode cX6_valueWord 51 = .ok (.aload_n 0, 1) := by decide +kernel
theorem dX6_valueWord_52 : decode cX6_valueWord 52 = .ok (.iload_n 1, 1) := by decide +kernel
theorem dX6_valueWord_53 : decode cX6_valueWord 53 = .ok (.iload_n 2, 1) := by decide +kernel
theorem dX6_valueWord_54 : decode cX6_valueWord 54 = .ok (.ldc 90, 2) := by decide +kernel
theorem dX6_valueWord_56 : decode cX6_valueWord 56 = .ok (.invokestatic 67, 3) := by decide +kernel
theorem dX6_valueWord_59 : decode cX6_valueWord 59 = .ok (.ifCond .eq 9, 3) := by decide +kernel
theorem dX6_valueWord_62 : decode cX6_valueWord 62 = .ok (.sipush 315, 3) := by decide +kernel
theorem dX6_valueWord_65 : decode cX6_valueWord 65 = .ok (.goto 91, 3) := by decide +kernel
theorem dX6_valueWord_68 : decode cX6_valueWord 68 = .ok (.aload_n 0, 1) := by decide +kernel
