theorem dJ0_charAt_5068e_0 : decode cJ0_charAt_5068e 0 = .ok (.aload_n 0, 1) := by decide +kernel
theorem dJ0_charAt_5068e_1 : decode cJ0_charAt_5068e 1 = .ok (.invokevirtual 492, 3) := by decide +kernel
theorem dJ0_charAt_5068e_4 : decode cJ0_charAt_5068e 4 = .ok (.ifCond .eq 12, 3) := by decide +kernel
theorem dJ0_charAt_5068e_7 : decode cJ0_charAt_5068e 7 = .ok (.aload_n 0, 1) := by decide +kernel
theorem dJ0_charAt_5068e_8 : decode cJ0_charAt_5068e 8 = .ok (.getfield 9, 3) := by decide +kernel
theorem dJ0_charAt_5068e_11 : decode cJ0_charAt_5068e 11 = .ok (.iload_n 1, 1) := by decide +kernel
theorem dJ0_charAt_5068e_12 : decode cJ0_charAt_5068e 12 = .ok (.invokestatic 495, 3) := by decide +kernel
theorem dJ0_charAt_5068e_15 : decode cJ0_charAt_5068e 15 = .ok (.ireturn, 1) := by decide +kernel
theorem dJ0_charAt_5068e_16 : decode cJ0_charAt_5068e 16 = .ok (.aload_n 0, 1) := by decide +kernel
theorem dJ0_charAt_5068e_17 : decode cJ0_charAt_5068e 17 = .ok (.getfield 9, 3) := by decide +kernel
theorem dJ0_charAt_5068e_20 : decode cJ0_charAt_5068e 20 = .ok (.iload_n 1, 1) := by decide +kernel
theorem dJ0_charAt_5068e_21 : decode cJ0_charAt_5068e 21 = .ok (.invokestatic 498, 3) := by decide +kernel
theorem dJ0_charAt_5068e_24 : decode cJ0_charAt_5068e 24 = .ok (.ireturn, 1) := by decide +kernel
theorem dJ0_checkIndex_df160_0 : decode cJ0_checkIndex_df160 0 = .ok (.iload_n 0, 1) := by decide +kernel
theorem dJ0_checkIndex_df160_1 : decode cJ0_checkIndex_df160 1 = .ok (.iload_n 1, 1) := by decide +kernel
theorem dJ0_checkIndex_df160_2 : decode cJ0_checkIndex_df160 2 = .ok (.getstatic 1053, 3) := by decide +kernel
theorem dJ0_checkIndex_df160_5 : decode cJ0_checkIndex_df160 5 = .ok (.invokestatic 1059, 3) := by decide +kernel
theorem dJ0_checkIndex_df160_8 : decode cJ0_checkIndex_df160 8 = .ok (.pop, 1) := by decide +kernel
theorem dJ0_checkIndex_df160_9 : decode cJ0_checkIndex_df160 9 = .ok (.return_, 1) := by decide +kernel
theorem dJ0_coder_7d493_0 : decode cJ0_coder_7d493 0 = .ok (.getstatic 38, 3) := by decide +kernel
theorem dJ0_coder_7d493_3 : decode cJ0_coder_7d493 3 = .ok (.ifCond .eq 10, 3) := by decide +kernel
theorem dJ0_coder_7d493_6 : decode cJ0_coder_7d493 6 = .ok (.aload_n 0, 1) := by decide +kernel
theorem dJ0_coder_7d493_7 : decode cJ0_coder_7d493 7 = .ok (.getfield 15, 3) := by decide +kernel
theorem dJ0_coder_7d493_10 : decode cJ0_coder_7d493 10 = .ok (.goto 4, 3) := by decide +kernel
theorem dJ0_coder_7d493_13 : decode cJ0_coder_7d493 13 = .ok (.iconst 1, 1) := by decide +kernel
theorem dJ0_coder_7d493_14 : decode cJ0_coder_7d493 14 = .ok (.ireturn, 1) := by decide +kernel
theorem dJ0_isLatin1_aae02_0 : decode cJ0_isLatin1_aae02 0 = .ok (.getstatic 38, 3) := by decide +kernel
theorem dJ0_isLatin1_aae02_3 : decode cJ0_isLatin1_aae02 3 = .ok (.ifCond .eq 14, 3) := by decide +kernel
theorem dJ0_isLatin1_aae02_6 : decode cJ0_isLatin1_aae02 6 = .ok (.aload_n 0, 1) := by decide +kernel
theorem dJ0_isLatin1_aae02_7 : decode cJ0_isLatin1_aae02 7 = .ok (.getfield 15, 3) := by decide +kernel
theorem dJ0_isLatin1_aae02_10 : decode cJ0_isLatin1_aae02 10 = .ok (.ifCond .ne 7, 3) := by decide +kernel
theorem dJ0_isLatin1_aae02_13 : decode cJ0_isLatin1_aae02 13 = .ok (.iconst 1, 1) := by decide +kernel
theorem dJ0_isLatin1_aae02_14 : decode cJ0_isLatin1_aae02 14 = .ok (.goto 4, 3) := by decide +kernel
theorem dJ0_isLatin1_aae02_17 : decode cJ0_isLatin1_aae02 17 = .ok (.iconst 0, 1) := by decide +kernel
theorem dJ0_isLatin1_aae02_18 : decode cJ0_isLatin1_aae02 18 = .ok (.ireturn, 1) := by decide +kernel
theorem dJ0_length_8abf5_0 : decode cJ0_length_8abf5 0 = .ok (.aload_n 0, 1) := by decide +kernel
theorem dJ0_length_8abf5_1 : decode cJ0_length_8abf5 1 = .ok (.getfield 9, 3) := by decide +kernel
theorem dJ0_length_8abf5_4 : decode cJ0_length_8abf5 4 = .ok (.arraylength, 1) := by decide +kernel
theorem dJ0_length_8abf5_5 : decode cJ0_length_8abf5 5 = .ok (.aload_n 0, 1) := by decide +kernel
theorem dJ0_length_8abf5_6 : decode cJ0_length_8abf5 6 = .ok (.invokevirtual 335, 3) := by decide +kernel
theorem dJ0_length_8abf5_9 : decode cJ0_length_8abf5 9 = .ok (.ishr, 1) := by decide +kernel
theorem dJ0_length_8abf5_10 : decode cJ0_length_8abf5 10 = .ok (.ireturn, 1) := by decide +kernel
theorem dJ1_charAt_3b067_0 : decode cJ1_charAt_3b067 0 = .ok (.iload_n 1, 1) := by decide +kernel
theorem dJ1_charAt_3b067_1 : decode cJ1_charAt_3b067 1 = .ok (.aload_n 0, 1) := by decide +kernel
theorem dJ1_charAt_3b067_2 : decode cJ1_charAt_3b067 2 = .ok (.arraylength, 1) := by decide +kernel
theorem dJ1_charAt_3b067_3 : decode cJ1_charAt_3b067 3 = .ok (.invokestatic 9, 3) := by decide +kernel
theorem dJ1_charAt_3b067_6 : decode cJ1_charAt_3b067 6 = .ok (.aload_n 0, 1) := by decide +kernel
theorem dJ1_charAt_3b067_7 : decode cJ1_charAt_3b067 7 = .ok (.iload_n 1, 1) := by decide +kernel
theorem dJ1_charAt_3b067_8 : decode cJ1_charAt_3b067 8 = .ok (.baload, 1) := by decide +kernel
theorem dJ1_charAt_3b067_9 : decode cJ1_charAt_3b067 9 = .ok (.sipush 255, 3) := by decide +kernel
theorem dJ1_charAt_3b067_12 : decode cJ1_charAt_3b067 12 = .ok (.iand, 1) := by decide +kernel
theorem dJ1_charAt_3b067_13 : decode cJ1_charAt_3b067 13 = .ok (.i2c, 1) := by decide +kernel
theorem dJ1_charAt_3b067_14 : decode cJ1_charAt_3b067 14 = .ok (.ireturn, 1) := by decide +kernel
theorem dJ3_checkIndex_8e157_0 : decode cJ3_checkIndex_8e157 0 = .ok (.iload_n 0, 1) := by decide +kernel
theorem dJ3_checkIndex_8e157_1 : decode cJ3_checkIndex_8e157 1 = .ok (.ifCond .lt 8, 3) := by decide +kernel
theorem dJ3_checkIndex_8e157_4 : decode cJ3_checkIndex_8e157 4 = .ok (.iload_n 0, 1) := by decide +kernel
theorem dJ3_checkIndex_8e157_5 : decode cJ3_checkIndex_8e157 5 = .ok (.iload_n 1, 1) := by decide +kernel
theorem dJ3_checkIndex_8e157_6 : decode cJ3_checkIndex_8e157 6 = .ok (.if_icmp .lt 10, 3) := by decide +kernel
theorem dJ3_checkIndex_8e157_9 : decode cJ3_checkIndex_8e157 9 = .ok (.aload_n 2, 1) := by decide +kernel
theorem dJ3_checkIndex_8e157_10 : decode cJ3_checkIndex_8e157 10 = .ok (.iload_n 0, 1) := by decide +kernel
theorem dJ3_checkIndex_8e157_11 : decode cJ3_checkIndex_8e157 11 = .ok (.iload_n 1, 1) := by decide +kernel
theorem dJ3_checkIndex_8e157_12 : decode cJ3_checkIndex_8e157 12 = .ok (.invokestatic 95, 3) := by decide +kernel
theorem dJ3_checkIndex_8e157_15 : decode cJ3_checkIndex_8e157 15 = .ok (.athrow, 1) := by decide +kernel
theorem dJ3_checkIndex_8e157_16 : decode cJ3_checkIndex_8e157 16 = .ok (.iload_n 0, 1) := by decide +kernel
theorem dJ3_checkIndex_8e157_17 : decode cJ3_checkIndex_8e157 17 = .ok (.ireturn, 1) := by decide +kernel
theorem dJ6_bitCount_0f7a4_0 : decode cJ6_bitCount_0f7a4 0 = .ok (.iload_n 0, 1) := by decide +kernel
theorem dJ6_bitCount_0f7a4_1 : decode cJ6_bitCount_0f7a4 1 = .ok (.iload_n 0, 1) := by decide +kernel
theorem dJ6_bitCount_0f7a4_2 : decode cJ6_bitCount_0f7a4 2 = .ok (.iconst 1, 1) := by decide +kernel
theorem dJ6_bitCount_0f7a4_3 : decode cJ6_bitCount_0f7a4 3 = .ok (.iushr, 1) := by decide +kernel
theorem dJ6_bitCount_0f7a4_4 : decode cJ6_bitCount_0f7a4 4 = .ok (.ldc_w 265, 3) := by decide +kernel
theorem dJ6_bitCount_0f7a4_7 : decode cJ6_bitCount_0f7a4 7 = .ok (.iand, 1) := by decide +kernel
theorem dJ6_bitCount_0f7a4_8 : decode cJ6_bitCount_0f7a4 8 = .ok (.isub, 1) := by decide +kernel
theorem dJ6_bitCount_0f7a4_9 : decode cJ6_bitCount_0f7a4 9 = .ok (.istore_n 0, 1) := by decide +kernel
theorem dJ6_bitCount_0f7a4_10 : decode cJ6_bitCount_0f7a4 10 = .ok (.iload_n 0, 1) := by decide +kernel
theorem dJ6_bitCount_0f7a4_11 : decode cJ6_bitCount_0f7a4 11 = .ok (.ldc_w 266, 3) := by decide +kernel
theorem dJ6_bitCount_0f7a4_14 : decode cJ6_bitCount_0f7a4 14 = .ok (.iand, 1) := by decide +kernel
theorem dJ6_bitCount_0f7a4_15 : decode cJ6_bitCount_0f7a4 15 = .ok (.iload_n 0, 1) := by decide +kernel
theorem dJ6_bitCount_0f7a4_16 : decode cJ6_bitCount_0f7a4 16 = .ok (.iconst 2, 1) := by decide +kernel
theorem dJ6_bitCount_0f7a4_17 : decode cJ6_bitCount_0f7a4 17 = .ok (.iushr, 1) := by decide +kernel
theorem dJ6_bitCount_0f7a4_18 : decode cJ6_bitCount_0f7a4 18 = .ok (.ldc_w 266, 3) := by decide +kernel
theorem dJ6_bitCount_0f7a4_21 : decode cJ6_bitCount_0f7a4 21 = .ok (.iand, 1) := by decide +kernel
theorem dJ6_bitCount_0f7a4_22 : decode cJ6_bitCount_0f7a4 22 = .ok (.iadd, 1) := by decide +kernel
theorem dJ6_bitCount_0f7a4_23 : decode cJ6_bitCount_0f7a4 23 = .ok (.istore_n 0, 1) := by decide +kernel
theorem dJ6_bitCount_0f7a4_24 : decode cJ6_bitCount_0f7a4 24 = .ok (.iload_n 0, 1) := by decide +kernel
theorem dJ6_bitCount_0f7a4_25 : decode cJ6_bitCount_0f7a4 25 = .ok (.iload_n 0, 1) := by decide +kernel
theorem dJ6_bitCount_0f7a4_26 : decode cJ6_bitCount_0f7a4 26 = .ok (.iconst 4, 1) := by decide +kernel
theorem dJ6_bitCount_0f7a4_27 : decode cJ6_bitCount_0f7a4 27 = .ok (.iushr, 1) := by decide +kernel
theorem dJ6_bitCount_0f7a4_28 : decode cJ6_bitCount_0f7a4 28 = .ok (.iadd, 1) := by decide +kernel
theorem dJ6_bitCount_0f7a4_29 : decode cJ6_bitCount_0f7a4 29 = .ok (.ldc_w 267, 3) := by decide +kernel
theorem dJ6_bitCount_0f7a4_32 : decode cJ6_bitCount_0f7a4 32 = .ok (.iand, 1) := by decide +kernel
theorem dJ6_bitCount_0f7a4_33 : decode cJ6_bitCount_0f7a4 33 = .ok (.istore_n 0, 1) := by decide +kernel
theorem dJ6_bitCount_0f7a4_34 : decode cJ6_bitCount_0f7a4 34 = .ok (.iload_n 0, 1) := by decide +kernel
theorem dJ6_bitCount_0f7a4_35 : decode cJ6_bitCount_0f7a4 35 = .ok (.iload_n 0, 1) := by decide +kernel
theorem dJ6_bitCount_0f7a4_36 : decode cJ6_bitCount_0f7a4 36 = .ok (.bipush 8, 2) := by decide +kernel
theorem dJ6_bitCount_0f7a4_38 : decode cJ6_bitCount_0f7a4 38 = .ok (.iushr, 1) := by decide +kernel
theorem dJ6_bitCount_0f7a4_39 : decode cJ6_bitCount_0f7a4 39 = .ok (.iadd, 1) := by decide +kernel
theorem dJ6_bitCount_0f7a4_40 : decode cJ6_bitCount_0f7a4 40 = .ok (.istore_n 0, 1) := by decide +kernel
theorem dJ6_bitCount_0f7a4_41 : decode cJ6_bitCount_0f7a4 41 = .ok (.iload_n 0, 1) := by decide +kernel
theorem dJ6_bitCount_0f7a4_42 : decode cJ6_bitCount_0f7a4 42 = .ok (.iload_n 0, 1) := by decide +kernel
theorem dJ6_bitCount_0f7a4_43 : decode cJ6_bitCount_0f7a4 43 = .ok (.bipush 16, 2) := by decide +kernel
theorem dJ6_bitCount_0f7a4_45 : decode cJ6_bitCount_0f7a4 45 = .ok (.iushr, 1) := by decide +kernel
theorem dJ6_bitCount_0f7a4_46 : decode cJ6_bitCount_0f7a4 46 = .ok (.iadd, 1) := by decide +kernel
theorem dJ6_bitCount_0f7a4_47 : decode cJ6_bitCount_0f7a4 47 = .ok (.istore_n 0, 1) := by decide +kernel
theorem dJ6_bitCount_0f7a4_48 : decode cJ6_bitCount_0f7a4 48 = .ok (.iload_n 0, 1) := by decide +kernel
theorem dJ6_bitCount_0f7a4_49 : decode cJ6_bitCount_0f7a4 49 = .ok (.bipush 63, 2) := by decide +kernel
theorem dJ6_bitCount_0f7a4_51 : decode cJ6_bitCount_0f7a4 51 = .ok (.iand, 1) := by decide +kernel
theorem dJ6_bitCount_0f7a4_52 : decode cJ6_bitCount_0f7a4 52 = .ok (.ireturn, 1) := by decide +kernel
theorem dX0_copyFrom_0 : decode cX0_copyFrom 0 = .ok (.aload_n 0, 1) := by decide +kernel
theorem dX0_copyFrom_1 : decode cX0_copyFrom 1 = .ok (.aload_n 1, 1) := by decide +kernel
theorem dX0_copyFrom_2 : decode cX0_copyFrom 2 = .ok (.getfield 15, 3) := by decide +kernel
theorem dX0_copyFrom_5 : decode cX0_copyFrom 5 = .ok (.putfield 15, 3) := by decide +kernel
theorem dX0_copyFrom_8 : decode cX0_copyFrom 8 = .ok (.aload_n 0, 1) := by decide +kernel
theorem dX0_copyFrom_9 : decode cX0_copyFrom 9 = .ok (.aload_n 1, 1) := by decide +kernel
theorem dX0_copyFrom_10 : decode cX0_copyFrom 10 = .ok (.getfield 19, 3) := by decide +kernel
theorem dX0_copyFrom_13 : decode cX0_copyFrom 13 = .ok (.putfield 19, 3) := by decide +kernel
theorem dX0_copyFrom_16 : decode cX0_copyFrom 16 = .ok (.aload_n 0, 1) := by decide +kernel
theorem dX0_copyFrom_17 : decode cX0_copyFrom 17 = .ok (.aload_n 1, 1) := by decide +kernel
theorem dX0_copyFrom_18 : decode cX0_copyFrom 18 = .ok (.getfield 22, 3) := by decide +kernel
theorem dX0_copyFrom_21 : decode cX0_copyFrom 21 = .ok (.putfield 22, 3) := by decide +kernel
theorem dX0_copyFrom_24 : decode cX0_copyFrom 24 = .ok (.aload_n 0, 1) := by decide +kernel
theorem dX0_copyFrom_25 : decode cX0_copyFrom 25 = .ok (.aload_n 1, 1) := by decide +kernel
theorem dX0_copyFrom_26 : decode cX0_copyFrom 26 = .ok (.getfield 25, 3) := by decide +kernel
theorem dX0_copyFrom_29 : decode cX0_copyFrom 29 = .ok (.putfield 25, 3) := by decide +kernel
theorem dX0_copyFrom_32 : decode cX0_copyFrom 32 = .ok (.aload_n 0, 1) := by decide +kernel
theorem dX0_copyFrom_33 : decode cX0_copyFrom 33 = .ok (.aload_n 1, 1) := by decide +kernel
theorem dX0_copyFrom_34 : decode cX0_copyFrom 34 = .ok (.getfield 28, 3) := by decide +kernel
theorem dX0_copyFrom_37 : decode cX0_copyFrom 37 = .ok (.putfield 28, 3) := by decide +kernel
theorem dX0_copyFrom_40 : decode cX0_copyFrom 40 = .ok (.aload_n 1, 1) := by decide +kernel
theorem dX0_copyFrom_41 : decode cX0_copyFrom 41 = .ok (.getfield 9, 3) := by decide +kernel
theorem dX0_copyFrom_44 : decode cX0_copyFrom 44 = .ok (.iconst 0, 1) := by decide +kernel
theorem dX0_copyFrom_45 : decode cX0_copyFrom 45 = .ok (.aload_n 0, 1) := by decide +kernel
theorem dX0_copyFrom_46 : decode cX0_copyFrom 46 = .ok (.getfield 9, 3) := by decide +kernel
theorem dX0_copyFrom_49 : decode cX0_copyFrom 49 = .ok (.iconst 0, 1) := by decide +kernel
theorem dX0_copyFrom_50 : decode cX0_copyFrom 50 = .ok (.bipush 10, 2) := by decide +kernel
theorem dX0_copyFrom_52 : decode cX0_copyFrom 52 = .ok (.invokestatic 31, 3) := by decide +kernel
theorem dX0_copyFrom_55 : decode cX0_copyFrom 55 = .ok (.return_, 1) := by decide +kernel
theorem dX0_gone_0 : decode cX0_gone 0 = .ok (.aload_n 0, 1) := by decide +kernel
theorem dX0_gone_1 : decode cX0_gone 1 = .ok (.getfield 22, 3) := by decide +kernel
theorem dX0_gone_4 : decode cX0_gone 4 = .ok (.aload_n 0, 1) := by decide +kernel
theorem dX0_gone_5 : decode cX0_gone 5 = .ok (.getfield 25, 3) := by decide +kernel
theorem dX0_gone_8 : decode cX0_gone 8 = .ok (.ior, 1) := by decide +kernel
theorem dX0_gone_9 : decode cX0_gone 9 = .ok (.ireturn, 1) := by decide +kernel
theorem dX0_lookFor_0 : decode cX0_lookFor 0 = .ok (.aload_n 0, 1) := by decide +kernel
theorem dX0_lookFor_1 : decode cX0_lookFor 1 = .ok (.dup, 1) := by decide +kernel
theorem dX0_lookFor_2 : decode cX0_lookFor 2 = .ok (.getfield 15, 3) := by decide +kernel
theorem dX0_lookFor_5 : decode cX0_lookFor 5 = .ok (.aload_n 1, 1) := by decide +kernel
theorem dX0_lookFor_6 : decode cX0_lookFor 6 = .ok (.getfield 43, 3) := by decide +kernel
theorem dX0_lookFor_9 : decode cX0_lookFor 9 = .ok (.iload_n 2, 1) := by decide +kernel
theorem dX0_lookFor_10 : decode cX0_lookFor 10 = .ok (.invokestatic 48, 3) := by decide +kernel
theorem dX0_lookFor_13 : decode cX0_lookFor 13 = .ok (.isub, 1) := by decide +kernel
theorem dX0_lookFor_14 : decode cX0_lookFor 14 = .ok (.putfield 15, 3) := by decide +kernel
theorem dX0_lookFor_17 : decode cX0_lookFor 17 = .ok (.aload_n 0, 1) := by decide +kernel
theorem dX0_lookFor_18 : decode cX0_lookFor 18 = .ok (.getfield 9, 3) := by decide +kernel
theorem dX0_lookFor_21 : decode cX0_lookFor 21 = .ok (.iload_n 2, 1) := by decide +kernel
theorem dX0_lookFor_22 : decode cX0_lookFor 22 = .ok (.aload_n 0, 1) := by decide +kernel
theorem dX0_lookFor_23 : decode cX0_lookFor 23 = .ok (.getfield 9, 3) := by decide +kernel
theorem dX0_lookFor_26 : decode cX0_lookFor 26 = .ok (.iload_n 2, 1) := by decide +kernel
theorem dX0_lookFor_27 : decode cX0_lookFor 27 = .ok (.invokestatic 48, 3) := by decide +kernel
theorem dX0_lookFor_30 : decode cX0_lookFor 30 = .ok (.iconst 1, 1) := by decide +kernel
theorem dX0_lookFor_31 : decode cX0_lookFor 31 = .ok (.iadd, 1) := by decide +kernel
theorem dX0_lookFor_32 : decode cX0_lookFor 32 = .ok (.invokestatic 52, 3) := by decide +kernel
theorem dX0_lookFor_35 : decode cX0_lookFor 35 = .ok (.aload_n 0, 1) := by decide +kernel
theorem dX0_lookFor_36 : decode cX0_lookFor 36 = .ok (.aload_n 0, 1) := by decide +kernel
theorem dX0_lookFor_37 : decode cX0_lookFor 37 = .ok (.getfield 28, 3) := by decide +kernel
theorem dX0_lookFor_40 : decode cX0_lookFor 40 = .ok (.i2l, 1) := by decide +kernel
theorem dX0_lookFor_41 : decode cX0_lookFor 41 = .ok (.ldc2_w 56, 3) := by decide +kernel
theorem dX0_lookFor_44 : decode cX0_lookFor 44 = .ok (.lmul, 1) := by decide +kernel
theorem dX0_lookFor_45 : decode cX0_lookFor 45 = .ok (.ldc2_w 58, 3) := by decide +kernel
theorem dX0_lookFor_48 : decode cX0_lookFor 48 = .ok (.ladd, 1) := by decide +kernel
theorem dX0_lookFor_49 : decode cX0_lookFor 49 = .ok (.ldc2_w 60, 3) := by decide +kernel
theorem dX0_lookFor_52 : decode cX0_lookFor 52 = .ok (.land, 1) := by decide +kernel
theorem dX0_lookFor_53 : decode cX0_lookFor 53 = .ok (.l2i, 1) := by decide +kernel
theorem dX0_lookFor_54 : decode cX0_lookFor 54 = .ok (.putfield 28, 3) := by decide +kernel
theorem dX0_lookFor_57 : decode cX0_lookFor 57 = .ok (.aload_n 0, 1) := by decide +kernel
theorem dX0_lookFor_58 : decode cX0_lookFor 58 = .ok (.getfield 28, 3) := by decide +kernel
theorem dX0_lookFor_61 : decode cX0_lookFor 61 = .ok (.ldc 62, 2) := by decide +kernel
theorem dX0_lookFor_63 : decode cX0_lookFor 63 = .ok (.idiv, 1) := by decide +kernel
theorem dX0_lookFor_64 : decode cX0_lookFor 64 = .ok (.bipush 100, 2) := by decide +kernel
theorem dX0_lookFor_66 : decode cX0_lookFor 66 = .ok (.irem, 1) := by decide +kernel
theorem dX0_lookFor_67 : decode cX0_lookFor 67 = .ok (.aload_n 1, 1) := by decide +kernel
theorem dX0_lookFor_68 : decode cX0_lookFor 68 = .ok (.getfield 63, 3) := by decide +kernel
theorem dX0_lookFor_71 : decode cX0_lookFor 71 = .ok (.iload_n 2, 1) := by decide +kernel
theorem dX0_lookFor_72 : decode cX0_lookFor 72 = .ok (.invokestatic 48, 3) := by decide +kernel
theorem dX0_lookFor_75 : decode cX0_lookFor 75 = .ok (.if_icmp .lt 5, 3) := by decide +kernel
theorem dX0_lookFor_78 : decode cX0_lookFor 78 = .ok (.iconst 0, 1) := by decide +kernel
theorem dX0_lookFor_79 : decode cX0_lookFor 79 = .ok (.ireturn, 1) := by decide +kernel
theorem dX0_lookFor_80 : decode cX0_lookFor 80 = .ok (.aload_n 0, 1) := by decide +kernel
theorem dX0_lookFor_81 : decode cX0_lookFor 81 = .ok (.dup, 1) := by decide +kernel
theorem dX0_lookFor_82 : decode cX0_lookFor 82 = .ok (.getfield 22, 3) := by decide +kernel
theorem dX0_lookFor_85 : decode cX0_lookFor 85 = .ok (.iload_n 2, 1) := by decide +kernel
theorem dX0_lookFor_86 : decode cX0_lookFor 86 = .ok (.invokestatic 66, 3) := by decide +kernel
theorem dX0_lookFor_89 : decode cX0_lookFor 89 = .ok (.ior, 1) := by decide +kernel
theorem dX0_lookFor_90 : decode cX0_lookFor 90 = .ok (.putfield 22, 3) := by decide +kernel
theorem dX0_lookFor_93 : decode cX0_lookFor 93 = .ok (.aload_n 0, 1) := by decide +kernel
theorem dX0_lookFor_94 : decode cX0_lookFor 94 = .ok (.dup, 1) := by decide +kernel
theorem dX0_lookFor_95 : decode cX0_lookFor 95 = .ok (.getfield 19, 3) := by decide +kernel
theorem dX0_lookFor_98 : decode cX0_lookFor 98 = .ok (.aload_n 1, 1) := by decide +kernel
theorem dX0_lookFor_99 : decode cX0_lookFor 99 = .ok (.getfield 70, 3) := by decide +kernel
theorem dX0_lookFor_102 : decode cX0_lookFor 102 = .ok (.iload_n 2, 1) := by decide +kernel
theorem dX0_lookFor_103 : decode cX0_lookFor 103 = .ok (.invokestatic 48, 3) := by decide +kernel
theorem dX0_lookFor_106 : decode cX0_lookFor 106 = .ok (.iadd, 1) := by decide +kernel
theorem dX0_lookFor_107 : decode cX0_lookFor 107 = .ok (.putfield 19, 3) := by decide +kernel
theorem dX0_lookFor_110 : decode cX0_lookFor 110 = .ok (.iconst 1, 1) := by decide +kernel
theorem dX0_lookFor_111 : decode cX0_lookFor 111 = .ok (.ireturn, 1) := by decide +kernel
theorem dX1_earnedBy_0 : decode cX1_earnedBy 0 = .ok (.iload 5, 2) := by decide +kernel
theorem dX1_earnedBy_2 : decode cX1_earnedBy 2 = .ok (.aload_n 1, 1) := by decide +kernel
theorem dX1_earnedBy_3 : decode cX1_earnedBy 3 = .ok (.getfield 51, 3) := by decide +kernel
theorem dX1_earnedBy_6 : decode cX1_earnedBy 6 = .ok (.iload_n 2, 1) := by decide +kernel
theorem dX1_earnedBy_7 : decode cX1_earnedBy 7 = .ok (.invokestatic 55, 3) := by decide +kernel
theorem dX1_earnedBy_10 : decode cX1_earnedBy 10 = .ok (.isub, 1) := by decide +kernel
theorem dX1_earnedBy_11 : decode cX1_earnedBy 11 = .ok (.istore 6, 2) := by decide +kernel
theorem dX1_earnedBy_13 : decode cX1_earnedBy 13 = .ok (.iload 6, 2) := by decide +kernel
theorem dX1_earnedBy_15 : decode cX1_earnedBy 15 = .ok (.ifCond .lt 13, 3) := by decide +kernel
theorem dX1_earnedBy_18 : decode cX1_earnedBy 18 = .ok (.aload_n 1, 1) := by decide +kernel
theorem dX1_earnedBy_19 : decode cX1_earnedBy 19 = .ok (.iload_n 2, 1) := by decide +kernel
theorem dX1_earnedBy_20 : decode cX1_earnedBy 20 = .ok (.iload 4, 2) := by decide +kernel
theorem dX1_earnedBy_22 : decode cX1_earnedBy 22 = .ok (.invokevirtual 59, 3) := by decide +kernel
theorem dX1_earnedBy_25 : decode cX1_earnedBy 25 = .ok (.ifCond .ne 7, 3) := by decide +kernel
theorem dX1_earnedBy_28 : decode cX1_earnedBy 28 = .ok (.ldc2_w 63, 3) := by decide +kernel
theorem dX1_earnedBy_31 : decode cX1_earnedBy 31 = .ok (.lreturn, 1) := by decide +kernel
theorem dX1_earnedBy_32 : decode cX1_earnedBy 32 = .ok (.aload_n 1, 1) := by decide +kernel
theorem dX1_earnedBy_33 : decode cX1_earnedBy 33 = .ok (.getfield 65, 3) := by decide +kernel
theorem dX1_earnedBy_36 : decode cX1_earnedBy 36 = .ok (.iload_n 2, 1) := by decide +kernel
theorem dX1_earnedBy_37 : decode cX1_earnedBy 37 = .ok (.invokestatic 55, 3) := by decide +kernel
theorem dX1_earnedBy_40 : decode cX1_earnedBy 40 = .ok (.istore 7, 2) := by decide +kernel
theorem dX1_earnedBy_42 : decode cX1_earnedBy 42 = .ok (.aload_n 1, 1) := by decide +kernel
theorem dX1_earnedBy_43 : decode cX1_earnedBy 43 = .ok (.getfield 68, 3) := by decide +kernel
theorem dX1_earnedBy_46 : decode cX1_earnedBy 46 = .ok (.iload_n 2, 1) := by decide +kernel
theorem dX1_earnedBy_47 : decode cX1_earnedBy 47 = .ok (.invokestatic 55, 3) := by decide +kernel
theorem dX1_earnedBy_50 : decode cX1_earnedBy 50 = .ok (.i2l, 1) := by decide +kernel
theorem dX1_earnedBy_51 : decode cX1_earnedBy 51 = .ok (.iload_n 3, 1) := by decide +kernel
theorem dX1_earnedBy_52 : decode cX1_earnedBy 52 = .ok (.iconst 1, 1) := by decide +kernel
theorem dX1_earnedBy_53 : decode cX1_earnedBy 53 = .ok (.isub, 1) := by decide +kernel
theorem dX1_earnedBy_54 : decode cX1_earnedBy 54 = .ok (.invokestatic 71, 3) := by decide +kernel
theorem dX1_earnedBy_57 : decode cX1_earnedBy 57 = .ok (.lmul, 1) := by decide +kernel
theorem dX1_earnedBy_58 : decode cX1_earnedBy 58 = .ok (.lstore 8, 2) := by decide +kernel
theorem dX1_earnedBy_60 : decode cX1_earnedBy 60 = .ok (.lload 8, 2) := by decide +kernel
theorem dX1_earnedBy_62 : decode cX1_earnedBy 62 = .ok (.aload_n 0, 1) := by decide +kernel
theorem dX1_earnedBy_63 : decode cX1_earnedBy 63 = .ok (.aload_n 1, 1) := by decide +kernel
theorem dX1_earnedBy_64 : decode cX1_earnedBy 64 = .ok (.iload_n 3, 1) := by decide +kernel
theorem dX1_earnedBy_65 : decode cX1_earnedBy 65 = .ok (.iconst 1, 1) := by decide +kernel
theorem dX1_earnedBy_66 : decode cX1_earnedBy 66 = .ok (.isub, 1) := by decide +kernel
theorem dX1_earnedBy_67 : decode cX1_earnedBy 67 = .ok (.iload 4, 2) := by decide +kernel
theorem dX1_earnedBy_69 : decode cX1_earnedBy 69 = .ok (.iload_n 2, 1) := by decide +kernel
theorem dX1_earnedBy_70 : decode cX1_earnedBy 70 = .ok (.invokestatic 75, 3) := by decide +kernel
theorem dX1_earnedBy_73 : decode cX1_earnedBy 73 = .ok (.ior, 1) := by decide +kernel
theorem dX1_earnedBy_74 : decode cX1_earnedBy 74 = .ok (.iload 6, 2) := by decide +kernel
theorem dX1_earnedBy_76 : decode cX1_earnedBy 76 = .ok (.invokevirtual 79, 3) := by decide +kernel
theorem dX1_earnedBy_79 : decode cX1_earnedBy 79 = .ok (.ladd, 1) := by decide +kernel
theorem dX1_earnedBy_80 : decode cX1_earnedBy 80 = .ok (.lstore 10, 2) := by decide +kernel
theorem dX1_earnedBy_82 : decode cX1_earnedBy 82 = .ok (.iload 7, 2) := by decide +kernel
theorem dX1_earnedBy_84 : decode cX1_earnedBy 84 = .ok (.i2l, 1) := by decide +kernel
theorem dX1_earnedBy_85 : decode cX1_earnedBy 85 = .ok (.lload 10, 2) := by decide +kernel
theorem dX1_earnedBy_87 : decode cX1_earnedBy 87 = .ok (.lmul, 1) := by decide +kernel
theorem dX1_earnedBy_88 : decode cX1_earnedBy 88 = .ok (.bipush 100, 2) := by decide +kernel
theorem dX1_earnedBy_90 : decode cX1_earnedBy 90 = .ok (.iload 7, 2) := by decide +kernel
theorem dX1_earnedBy_92 : decode cX1_earnedBy 92 = .ok (.isub, 1) := by decide +kernel
theorem dX1_earnedBy_93 : decode cX1_earnedBy 93 = .ok (.i2l, 1) := by decide +kernel
theorem dX1_earnedBy_94 : decode cX1_earnedBy 94 = .ok (.aload_n 0, 1) := by decide +kernel
theorem dX1_earnedBy_95 : decode cX1_earnedBy 95 = .ok (.aload_n 1, 1) := by decide +kernel
theorem dX1_earnedBy_96 : decode cX1_earnedBy 96 = .ok (.iload_n 3, 1) := by decide +kernel
theorem dX1_earnedBy_97 : decode cX1_earnedBy 97 = .ok (.iconst 1, 1) := by decide +kernel
theorem dX1_earnedBy_98 : decode cX1_earnedBy 98 = .ok (.isub, 1) := by decide +kernel
theorem dX1_earnedBy_99 : decode cX1_earnedBy 99 = .ok (.iload 4, 2) := by decide +kernel
theorem dX1_earnedBy_101 : decode cX1_earnedBy 101 = .ok (.iload 6, 2) := by decide +kernel
theorem dX1_earnedBy_103 : decode cX1_earnedBy 103 = .ok (.invokevirtual 79, 3) := by decide +kernel
theorem dX1_earnedBy_106 : decode cX1_earnedBy 106 = .ok (.lmul, 1) := by decide +kernel
theorem dX1_earnedBy_107 : decode cX1_earnedBy 107 = .ok (.ladd, 1) := by decide +kernel
theorem dX1_earnedBy_108 : decode cX1_earnedBy 108 = .ok (.lreturn, 1) := by decide +kernel
theorem dX1_mostEarned_0 : decode cX1_mostEarned 0 = .ok (.iload_n 2, 1) := by decide +kernel
theorem dX1_mostEarned_1 : decode cX1_mostEarned 1 = .ok (.iconst 1, 1) := by decide +kernel
theorem dX1_mostEarned_2 : decode cX1_mostEarned 2 = .ok (.if_icmp .gt 21, 3) := by decide +kernel
theorem dX1_mostEarned_5 : decode cX1_mostEarned 5 = .ok (.iload_n 2, 1) := by decide +kernel
theorem dX1_mostEarned_6 : decode cX1_mostEarned 6 = .ok (.iconst 1, 1) := by decide +kernel
theorem dX1_mostEarned_7 : decode cX1_mostEarned 7 = .ok (.if_icmp .ne 14, 3) := by decide +kernel
theorem dX1_mostEarned_10 : decode cX1_mostEarned 10 = .ok (.aload_n 1, 1) := by decide +kernel
theorem dX1_mostEarned_11 : decode cX1_mostEarned 11 = .ok (.iload_n 3, 1) := by decide +kernel
theorem dX1_mostEarned_12 : decode cX1_mostEarned 12 = .ok (.iload 4, 2) := by decide +kernel
theorem dX1_mostEarned_14 : decode cX1_mostEarned 14 = .ok (.invokevirtual 18, 3) := by decide +kernel
theorem dX1_mostEarned_17 : decode cX1_mostEarned 17 = .ok (.i2l, 1) := by decide +kernel
theorem dX1_mostEarned_18 : decode cX1_mostEarned 18 = .ok (.goto 4, 3) := by decide +kernel
theorem dX1_mostEarned_21 : decode cX1_mostEarned 21 = .ok (.lconst 0, 1) := by decide +kernel
theorem dX1_mostEarned_22 : decode cX1_mostEarned 22 = .ok (.lreturn, 1) := by decide +kernel
theorem dX1_mostEarned_23 : decode cX1_mostEarned 23 = .ok (.iload 4, 2) := by decide +kernel
theorem dX1_mostEarned_25 : decode cX1_mostEarned 25 = .ok (.iload_n 2, 1) := by decide +kernel
theorem dX1_mostEarned_26 : decode cX1_mostEarned 26 = .ok (.aload_n 1, 1) := by decide +kernel
theorem dX1_mostEarned_27 : decode cX1_mostEarned 27 = .ok (.getfield 24, 3) := by decide +kernel
theorem dX1_mostEarned_30 : decode cX1_mostEarned 30 = .ok (.imul, 1) := by decide +kernel
theorem dX1_mostEarned_31 : decode cX1_mostEarned 31 = .ok (.invokestatic 28, 3) := by decide +kernel
theorem dX1_mostEarned_34 : decode cX1_mostEarned 34 = .ok (.istore 5, 2) := by decide +kernel
theorem dX1_mostEarned_36 : decode cX1_mostEarned 36 = .ok (.aload_n 1, 1) := by decide +kernel
theorem dX1_mostEarned_37 : decode cX1_mostEarned 37 = .ok (.getfield 33, 3) := by decide +kernel
theorem dX1_mostEarned_40 : decode cX1_mostEarned 40 = .ok (.i2l, 1) := by decide +kernel
theorem dX1_mostEarned_41 : decode cX1_mostEarned 41 = .ok (.ldc2_w 36, 3) := by decide +kernel
theorem dX1_mostEarned_44 : decode cX1_mostEarned 44 = .ok (.lmul, 1) := by decide +kernel
theorem dX1_mostEarned_45 : decode cX1_mostEarned 45 = .ok (.iload_n 2, 1) := by decide +kernel
theorem dX1_mostEarned_46 : decode cX1_mostEarned 46 = .ok (.i2l, 1) := by decide +kernel
theorem dX1_mostEarned_47 : decode cX1_mostEarned 47 = .ok (.ladd, 1) := by decide +kernel
theorem dX1_mostEarned_48 : decode cX1_mostEarned 48 = .ok (.bipush 19, 2) := by decide +kernel
theorem dX1_mostEarned_50 : decode cX1_mostEarned 50 = .ok (.lshl, 1) := by decide +kernel
theorem dX1_mostEarned_51 : decode cX1_mostEarned 51 = .ok (.iload_n 3, 1) := by decide +kernel
theorem dX1_mostEarned_52 : decode cX1_mostEarned 52 = .ok (.bipush 9, 2) := by decide +kernel
theorem dX1_mostEarned_54 : decode cX1_mostEarned 54 = .ok (.ishl, 1) := by decide +kernel
theorem dX1_mostEarned_55 : decode cX1_mostEarned 55 = .ok (.i2l, 1) := by decide +kernel
theorem dX1_mostEarned_56 : decode cX1_mostEarned 56 = .ok (.lor, 1) := by decide +kernel
theorem dX1_mostEarned_57 : decode cX1_mostEarned 57 = .ok (.iload 5, 2) := by decide +kernel
theorem dX1_mostEarned_59 : decode cX1_mostEarned 59 = .ok (.i2l, 1) := by decide +kernel
theorem dX1_mostEarned_60 : decode cX1_mostEarned 60 = .ok (.lor, 1) := by decide +kernel
theorem dX1_mostEarned_61 : decode cX1_mostEarned 61 = .ok (.lstore 6, 2) := by decide +kernel
theorem dX1_mostEarned_63 : decode cX1_mostEarned 63 = .ok (.lload 6, 2) := by decide +kernel
theorem dX1_mostEarned_65 : decode cX1_mostEarned 65 = .ok (.ldc2_w 38, 3) := by decide +kernel
theorem dX1_mostEarned_68 : decode cX1_mostEarned 68 = .ok (.lmul, 1) := by decide +kernel
theorem dX1_mostEarned_69 : decode cX1_mostEarned 69 = .ok (.bipush 53, 2) := by decide +kernel
theorem dX1_mostEarned_71 : decode cX1_mostEarned 71 = .ok (.lushr, 1) := by decide +kernel
theorem dX1_mostEarned_72 : decode cX1_mostEarned 72 = .ok (.l2i, 1) := by decide +kernel
theorem dX1_mostEarned_73 : decode cX1_mostEarned 73 = .ok (.sipush 2047, 3) := by decide +kernel
theorem dX1_mostEarned_76 : decode cX1_mostEarned 76 = .ok (.iand, 1) := by decide +kernel
theorem dX1_mostEarned_77 : decode cX1_mostEarned 77 = .ok (.istore 8, 2) := by decide +kernel
theorem dX1_mostEarned_79 : decode cX1_mostEarned 79 = .ok (.aload_n 0, 1) := by decide +kernel
theorem dX1_mostEarned_80 : decode cX1_mostEarned 80 = .ok (.getfield 11, 3) := by decide +kernel
theorem dX1_mostEarned_83 : decode cX1_mostEarned 83 = .ok (.iload 8, 2) := by decide +kernel
theorem dX1_mostEarned_85 : decode cX1_mostEarned 85 = .ok (.laload, 1) := by decide +kernel
theorem dX1_mostEarned_86 : decode cX1_mostEarned 86 = .ok (.lload 6, 2) := by decide +kernel
theorem dX1_mostEarned_88 : decode cX1_mostEarned 88 = .ok (.lcmp, 1) := by decide +kernel
theorem dX1_mostEarned_89 : decode cX1_mostEarned 89 = .ok (.ifCond .ne 11, 3) := by decide +kernel
theorem dX1_mostEarned_92 : decode cX1_mostEarned 92 = .ok (.aload_n 0, 1) := by decide +kernel
theorem dX1_mostEarned_93 : decode cX1_mostEarned 93 = .ok (.getfield 15, 3) := by decide +kernel
theorem dX1_mostEarned_96 : decode cX1_mostEarned 96 = .ok (.iload 8, 2) := by decide +kernel
theorem dX1_mostEarned_98 : decode cX1_mostEarned 98 = .ok (.laload, 1) := by decide +kernel
theorem dX1_mostEarned_99 : decode cX1_mostEarned 99 = .ok (.lreturn, 1) := by decide +kernel
theorem dX1_mostEarned_100 : decode cX1_mostEarned 100 = .ok (.lconst 0, 1) := by decide +kernel
theorem dX1_mostEarned_101 : decode cX1_mostEarned 101 = .ok (.lstore 9, 2) := by decide +kernel
theorem dX1_mostEarned_103 : decode cX1_mostEarned 103 = .ok (.iconst 0, 1) := by decide +kernel
theorem dX1_mostEarned_104 : decode cX1_mostEarned 104 = .ok (.istore 11, 2) := by decide +kernel
theorem dX1_mostEarned_106 : decode cX1_mostEarned 106 = .ok (.iload 11, 2) := by decide +kernel
theorem dX1_mostEarned_108 : decode cX1_mostEarned 108 = .ok (.aload_n 1, 1) := by decide +kernel
theorem dX1_mostEarned_109 : decode cX1_mostEarned 109 = .ok (.getfield 40, 3) := by decide +kernel
theorem dX1_mostEarned_112 : decode cX1_mostEarned 112 = .ok (.if_icmp .ge 27, 3) := by decide +kernel
theorem dX1_mostEarned_115 : decode cX1_mostEarned 115 = .ok (.lload 9, 2) := by decide +kernel
theorem dX1_mostEarned_117 : decode cX1_mostEarned 117 = .ok (.aload_n 0, 1) := by decide +kernel
theorem dX1_mostEarned_118 : decode cX1_mostEarned 118 = .ok (.aload_n 1, 1) := by decide +kernel
theorem dX1_mostEarned_119 : decode cX1_mostEarned 119 = .ok (.iload 11, 2) := by decide +kernel
theorem dX1_mostEarned_121 : decode cX1_mostEarned 121 = .ok (.iload_n 2, 1) := by decide +kernel
theorem dX1_mostEarned_122 : decode cX1_mostEarned 122 = .ok (.iload_n 3, 1) := by decide +kernel
theorem dX1_mostEarned_123 : decode cX1_mostEarned 123 = .ok (.iload 5, 2) := by decide +kernel
theorem dX1_mostEarned_125 : decode cX1_mostEarned 125 = .ok (.invokevirtual 43, 3) := by decide +kernel
theorem dX1_mostEarned_128 : decode cX1_mostEarned 128 = .ok (.invokestatic 47, 3) := by decide +kernel
theorem dX1_mostEarned_131 : decode cX1_mostEarned 131 = .ok (.lstore 9, 2) := by decide +kernel
theorem dX1_mostEarned_133 : decode cX1_mostEarned 133 = .ok (.iinc 11 1, 3) := by decide +kernel
theorem dX1_mostEarned_136 : decode cX1_mostEarned 136 = .ok (.goto (-30), 3) := by decide +kernel
theorem dX1_mostEarned_139 : decode cX1_mostEarned 139 = .ok (.aload_n 0, 1) := by decide +kernel
theorem dX1_mostEarned_140 : decode cX1_mostEarned 140 = .ok (.getfield 11, 3) := by decide +kernel
theorem dX1_mostEarned_143 : decode cX1_mostEarned 143 = .ok (.iload 8, 2) := by decide +kernel
theorem dX1_mostEarned_145 : decode cX1_mostEarned 145 = .ok (.lload 6, 2) := by decide +kernel
theorem dX1_mostEarned_147 : decode cX1_mostEarned 147 = .ok (.lastore, 1) := by decide +kernel
theorem dX1_mostEarned_148 : decode cX1_mostEarned 148 = .ok (.aload_n 0, 1) := by decide +kernel
theorem dX1_mostEarned_149 : decode cX1_mostEarned 149 = .ok (.getfield 15, 3) := by decide +kernel
theorem dX1_mostEarned_152 : decode cX1_mostEarned 152 = .ok (.iload 8, 2) := by decide +kernel
theorem dX1_mostEarned_154 : decode cX1_mostEarned 154 = .ok (.lload 9, 2) := by decide +kernel
theorem dX1_mostEarned_156 : decode cX1_mostEarned 156 = .ok (.lastore, 1) := by decide +kernel
theorem dX1_mostEarned_157 : decode cX1_mostEarned 157 = .ok (.lload 9, 2) := by decide +kernel
theorem dX1_mostEarned_159 : decode cX1_mostEarned 159 = .ok (.lreturn, 1) := by decide +kernel
theorem dX2_compares_0 : decode cX2_compares 0 = .ok (.iload_n 0, 1) := by decide +kernel
theorem dX2_compares_1 : decode cX2_compares 1 = .ok (.lookupswitch 91 #[(60, 43), (61, 67), (256, 55), (257, 79)], 43) := by decide +kernel
theorem dX2_compares_44 : decode cX2_compares 44 = .ok (.lload_n 1, 1) := by decide +kernel
theorem dX2_compares_45 : decode cX2_compares 45 = .ok (.lload_n 3, 1) := by decide +kernel
theorem dX2_compares_46 : decode cX2_compares 46 = .ok (.lcmp, 1) := by decide +kernel
theorem dX2_compares_47 : decode cX2_compares 47 = .ok (.ifCond .ge 7, 3) := by decide +kernel
theorem dX2_compares_50 : decode cX2_compares 50 = .ok (.iconst 1, 1) := by decide +kernel
theorem dX2_compares_51 : decode cX2_compares 51 = .ok (.goto 4, 3) := by decide +kernel
theorem dX2_compares_54 : decode cX2_compares 54 = .ok (.iconst 0, 1) := by decide +kernel
theorem dX2_compares_55 : decode cX2_compares 55 = .ok (.ireturn, 1) := by decide +kernel
theorem dX2_compares_56 : decode cX2_compares 56 = .ok (.lload_n 1, 1) := by decide +kernel
theorem dX2_compares_57 : decode cX2_compares 57 = .ok (.lload_n 3, 1) := by decide +kernel
theorem dX2_compares_58 : decode cX2_compares 58 = .ok (.lcmp, 1) := by decide +kernel
theorem dX2_compares_59 : decode cX2_compares 59 = .ok (.ifCond .gt 7, 3) := by decide +kernel
theorem dX2_compares_62 : decode cX2_compares 62 = .ok (.iconst 1, 1) := by decide +kernel
theorem dX2_compares_63 : decode cX2_compares 63 = .ok (.goto 4, 3) := by decide +kernel
theorem dX2_compares_66 : decode cX2_compares 66 = .ok (.iconst 0, 1) := by decide +kernel
theorem dX2_compares_67 : decode cX2_compares 67 = .ok (.ireturn, 1) := by decide +kernel
theorem dX2_compares_68 : decode cX2_compares 68 = .ok (.lload_n 1, 1) := by decide +kernel
theorem dX2_compares_69 : decode cX2_compares 69 = .ok (.lload_n 3, 1) := by decide +kernel
theorem dX2_compares_70 : decode cX2_compares 70 = .ok (.lcmp, 1) := by decide +kernel
theorem dX2_compares_71 : decode cX2_compares 71 = .ok (.ifCond .ne 7, 3) := by decide +kernel
theorem dX2_compares_74 : decode cX2_compares 74 = .ok (.iconst 1, 1) := by decide +kernel
theorem dX2_compares_75 : decode cX2_compares 75 = .ok (.goto 4, 3) := by decide +kernel
theorem dX2_compares_78 : decode cX2_compares 78 = .ok (.iconst 0, 1) := by decide +kernel
theorem dX2_compares_79 : decode cX2_compares 79 = .ok (.ireturn, 1) := by decide +kernel
theorem dX2_compares_80 : decode cX2_compares 80 = .ok (.lload_n 1, 1) := by decide +kernel
theorem dX2_compares_81 : decode cX2_compares 81 = .ok (.lload_n 3, 1) := by decide +kernel
theorem dX2_compares_82 : decode cX2_compares 82 = .ok (.lcmp, 1) := by decide +kernel
theorem dX2_compares_83 : decode cX2_compares 83 = .ok (.ifCond .lt 7, 3) := by decide +kernel
theorem dX2_compares_86 : decode cX2_compares 86 = .ok (.iconst 1, 1) := by decide +kernel
theorem dX2_compares_87 : decode cX2_compares 87 = .ok (.goto 4, 3) := by decide +kernel
theorem dX2_compares_90 : decode cX2_compares 90 = .ok (.iconst 0, 1) := by decide +kernel
theorem dX2_compares_91 : decode cX2_compares 91 = .ok (.ireturn, 1) := by decide +kernel
theorem dX2_compares_92 : decode cX2_compares 92 = .ok (.lload_n 1, 1) := by decide +kernel
theorem dX2_compares_93 : decode cX2_compares 93 = .ok (.lload_n 3, 1) := by decide +kernel
theorem dX2_compares_94 : decode cX2_compares 94 = .ok (.lcmp, 1) := by decide +kernel
theorem dX2_compares_95 : decode cX2_compares 95 = .ok (.ifCond .le 7, 3) := by decide +kernel
theorem dX2_compares_98 : decode cX2_compares 98 = .ok (.iconst 1, 1) := by decide +kernel
theorem dX2_compares_99 : decode cX2_compares 99 = .ok (.goto 4, 3) := by decide +kernel
theorem dX2_compares_102 : decode cX2_compares 102 = .ok (.iconst 0, 1) := by decide +kernel
theorem dX2_compares_103 : decode cX2_compares 103 = .ok (.ireturn, 1) := by decide +kernel
theorem dX2_join_0 : decode cX2_join 0 = .ok (.iload_n 0, 1) := by decide +kernel
theorem dX2_join_1 : decode cX2_join 1 = .ok (.lookupswitch 93 #[(42, 67), (43, 59), (45, 63), (47, 71), (309, 89), (310, 85)], 59) := by decide +kernel
theorem dX2_join_60 : decode cX2_join 60 = .ok (.lload_n 1, 1) := by decide +kernel
theorem dX2_join_61 : decode cX2_join 61 = .ok (.lload_n 3, 1) := by decide +kernel
theorem dX2_join_62 : decode cX2_join 62 = .ok (.ladd, 1) := by decide +kernel
theorem dX2_join_63 : decode cX2_join 63 = .ok (.lreturn, 1) := by decide +kernel
theorem dX2_join_64 : decode cX2_join 64 = .ok (.lload_n 1, 1) := by decide +kernel
theorem dX2_join_65 : decode cX2_join 65 = .ok (.lload_n 3, 1) := by decide +kernel
theorem dX2_join_66 : decode cX2_join 66 = .ok (.lsub, 1) := by decide +kernel
theorem dX2_join_67 : decode cX2_join 67 = .ok (.lreturn, 1) := by decide +kernel
theorem dX2_join_68 : decode cX2_join 68 = .ok (.lload_n 1, 1) := by decide +kernel
theorem dX2_join_69 : decode cX2_join 69 = .ok (.lload_n 3, 1) := by decide +kernel
theorem dX2_join_70 : decode cX2_join 70 = .ok (.lmul, 1) := by decide +kernel
theorem dX2_join_71 : decode cX2_join 71 = .ok (.lreturn, 1) := by decide +kernel
theorem dX2_join_72 : decode cX2_join 72 = .ok (.lload_n 3, 1) := by decide +kernel
theorem dX2_join_73 : decode cX2_join 73 = .ok (.lconst 0, 1) := by decide +kernel
theorem dX2_join_74 : decode cX2_join 74 = .ok (.lcmp, 1) := by decide +kernel
theorem dX2_join_75 : decode cX2_join 75 = .ok (.ifCond .ne 7, 3) := by decide +kernel
theorem dX2_join_78 : decode cX2_join 78 = .ok (.lconst 0, 1) := by decide +kernel
theorem dX2_join_79 : decode cX2_join 79 = .ok (.goto 6, 3) := by decide +kernel
theorem dX2_join_82 : decode cX2_join 82 = .ok (.lload_n 1, 1) := by decide +kernel
theorem dX2_join_83 : decode cX2_join 83 = .ok (.lload_n 3, 1) := by decide +kernel
theorem dX2_join_84 : decode cX2_join 84 = .ok (.ldiv, 1) := by decide +kernel
theorem dX2_join_85 : decode cX2_join 85 = .ok (.lreturn, 1) := by decide +kernel
theorem dX2_join_86 : decode cX2_join 86 = .ok (.lload_n 1, 1) := by decide +kernel
theorem dX2_join_87 : decode cX2_join 87 = .ok (.lload_n 3, 1) := by decide +kernel
theorem dX2_join_88 : decode cX2_join 88 = .ok (.land, 1) := by decide +kernel
theorem dX2_join_89 : decode cX2_join 89 = .ok (.lreturn, 1) := by decide +kernel
theorem dX2_join_90 : decode cX2_join 90 = .ok (.lload_n 1, 1) := by decide +kernel
theorem dX2_join_91 : decode cX2_join 91 = .ok (.lload_n 3, 1) := by decide +kernel
theorem dX2_join_92 : decode cX2_join 92 = .ok (.lor, 1) := by decide +kernel
theorem dX2_join_93 : decode cX2_join 93 = .ok (.lreturn, 1) := by decide +kernel
theorem dX2_join_94 : decode cX2_join 94 = .ok (.iload_n 0, 1) := by decide +kernel
theorem dX2_join_95 : decode cX2_join 95 = .ok (.lload_n 1, 1) := by decide +kernel
theorem dX2_join_96 : decode cX2_join 96 = .ok (.lload_n 3, 1) := by decide +kernel
theorem dX2_join_97 : decode cX2_join 97 = .ok (.invokestatic 117, 3) := by decide +kernel
theorem dX2_join_100 : decode cX2_join 100 = .ok (.ifCond .eq 7, 3) := by decide +kernel
theorem dX2_join_103 : decode cX2_join 103 = .ok (.lconst 1, 1) := by decide +kernel
theorem dX2_join_104 : decode cX2_join 104 = .ok (.goto 4, 3) := by decide +kernel
theorem dX2_join_107 : decode cX2_join 107 = .ok (.lconst 0, 1) := by decide +kernel
theorem dX2_join_108 : decode cX2_join 108 = .ok (.lreturn, 1) := by decide +kernel
theorem dX2_lookClause_0 : decode cX2_lookClause 0 = .ok (.iconst 0, 1) := by decide +kernel
theorem dX2_lookClause_1 : decode cX2_lookClause 1 = .ok (.istore 5, 2) := by decide +kernel
theorem dX2_lookClause_3 : decode cX2_lookClause 3 = .ok (.iload 5, 2) := by decide +kernel
theorem dX2_lookClause_5 : decode cX2_lookClause 5 = .ok (.aload_n 2, 1) := by decide +kernel
theorem dX2_lookClause_6 : decode cX2_lookClause 6 = .ok (.getfield 73, 3) := by decide +kernel
theorem dX2_lookClause_9 : decode cX2_lookClause 9 = .ok (.if_icmp .ge 88, 3) := by decide +kernel
theorem dX2_lookClause_12 : decode cX2_lookClause 12 = .ok (.aload_n 2, 1) := by decide +kernel
theorem dX2_lookClause_13 : decode cX2_lookClause 13 = .ok (.getfield 66, 3) := by decide +kernel
theorem dX2_lookClause_16 : decode cX2_lookClause 16 = .ok (.iload 5, 2) := by decide +kernel
theorem dX2_lookClause_18 : decode cX2_lookClause 18 = .ok (.invokestatic 47, 3) := by decide +kernel
theorem dX2_lookClause_21 : decode cX2_lookClause 21 = .ok (.istore 6, 2) := by decide +kernel
theorem dX2_lookClause_23 : decode cX2_lookClause 23 = .ok (.aload_n 2, 1) := by decide +kernel
theorem dX2_lookClause_24 : decode cX2_lookClause 24 = .ok (.getfield 76, 3) := by decide +kernel
theorem dX2_lookClause_27 : decode cX2_lookClause 27 = .ok (.iload 5, 2) := by decide +kernel
theorem dX2_lookClause_29 : decode cX2_lookClause 29 = .ok (.invokestatic 47, 3) := by decide +kernel
theorem dX2_lookClause_32 : decode cX2_lookClause 32 = .ok (.istore 7, 2) := by decide +kernel
theorem dX2_lookClause_34 : decode cX2_lookClause 34 = .ok (.aload_n 2, 1) := by decide +kernel
theorem dX2_lookClause_35 : decode cX2_lookClause 35 = .ok (.getfield 58, 3) := by decide +kernel
theorem dX2_lookClause_38 : decode cX2_lookClause 38 = .ok (.iload 5, 2) := by decide +kernel
theorem dX2_lookClause_40 : decode cX2_lookClause 40 = .ok (.invokestatic 47, 3) := by decide +kernel
theorem dX2_lookClause_43 : decode cX2_lookClause 43 = .ok (.iload 6, 2) := by decide +kernel
theorem dX2_lookClause_45 : decode cX2_lookClause 45 = .ok (.if_icmp .ge 7, 3) := by decide +kernel
theorem dX2_lookClause_48 : decode cX2_lookClause 48 = .ok (.iconst 1, 1) := by decide +kernel
theorem dX2_lookClause_49 : decode cX2_lookClause 49 = .ok (.goto 4, 3) := by decide +kernel
theorem dX2_lookClause_52 : decode cX2_lookClause 52 = .ok (.iconst 0, 1) := by decide +kernel
theorem dX2_lookClause_53 : decode cX2_lookClause 53 = .ok (.istore 8, 2) := by decide +kernel
theorem dX2_lookClause_55 : decode cX2_lookClause 55 = .ok (.iload 8, 2) := by decide +kernel
theorem dX2_lookClause_57 : decode cX2_lookClause 57 = .ok (.ifCond .eq 34, 3) := by decide +kernel
theorem dX2_lookClause_60 : decode cX2_lookClause 60 = .ok (.iload 6, 2) := by decide +kernel
theorem dX2_lookClause_62 : decode cX2_lookClause 62 = .ok (.iload 7, 2) := by decide +kernel
theorem dX2_lookClause_64 : decode cX2_lookClause 64 = .ok (.if_icmp .eq 24, 3) := by decide +kernel
theorem dX2_lookClause_67 : decode cX2_lookClause 67 = .ok (.aload_n 0, 1) := by decide +kernel
theorem dX2_lookClause_68 : decode cX2_lookClause 68 = .ok (.aload_n 2, 1) := by decide +kernel
theorem dX2_lookClause_69 : decode cX2_lookClause 69 = .ok (.getfield 63, 3) := by decide +kernel
theorem dX2_lookClause_72 : decode cX2_lookClause 72 = .ok (.iload 6, 2) := by decide +kernel
theorem dX2_lookClause_74 : decode cX2_lookClause 74 = .ok (.iload 7, 2) := by decide +kernel
theorem dX2_lookClause_76 : decode cX2_lookClause 76 = .ok (.aload_n 1, 1) := by decide +kernel
theorem dX2_lookClause_77 : decode cX2_lookClause 77 = .ok (.aload_n 3, 1) := by decide +kernel
theorem dX2_lookClause_78 : decode cX2_lookClause 78 = .ok (.iload 4, 2) := by decide +kernel
theorem dX2_lookClause_80 : decode cX2_lookClause 80 = .ok (.invokevirtual 69, 3) := by decide +kernel
theorem dX2_lookClause_83 : decode cX2_lookClause 83 = .ok (.lconst 0, 1) := by decide +kernel
theorem dX2_lookClause_84 : decode cX2_lookClause 84 = .ok (.lcmp, 1) := by decide +kernel
theorem dX2_lookClause_85 : decode cX2_lookClause 85 = .ok (.ifCond .eq 6, 3) := by decide +kernel
theorem dX2_lookClause_88 : decode cX2_lookClause 88 = .ok (.iload 5, 2) := by decide +kernel
theorem dX2_lookClause_90 : decode cX2_lookClause 90 = .ok (.ireturn, 1) := by decide +kernel
theorem dX2_lookClause_91 : decode cX2_lookClause 91 = .ok (.iinc 5 1, 3) := by decide +kernel
theorem dX2_lookClause_94 : decode cX2_lookClause 94 = .ok (.goto (-91), 3) := by decide +kernel
theorem dX2_lookClause_97 : decode cX2_lookClause 97 = .ok (.iconst (-1), 1) := by decide +kernel
theorem dX2_lookClause_98 : decode cX2_lookClause 98 = .ok (.ireturn, 1) := by decide +kernel
theorem dX2_nextFault_0 : decode cX2_nextFault 0 = .ok (.iconst (-1), 1) := by decide +kernel
theorem dX2_nextFault_1 : decode cX2_nextFault 1 = .ok (.istore 4, 2) := by decide +kernel
theorem dX2_nextFault_3 : decode cX2_nextFault 3 = .ok (.lconst 0, 1) := by decide +kernel
theorem dX2_nextFault_4 : decode cX2_nextFault 4 = .ok (.lstore 5, 2) := by decide +kernel
theorem dX2_nextFault_6 : decode cX2_nextFault 6 = .ok (.iconst 0, 1) := by decide +kernel
theorem dX2_nextFault_7 : decode cX2_nextFault 7 = .ok (.istore 7, 2) := by decide +kernel
theorem dX2_nextFault_9 : decode cX2_nextFault 9 = .ok (.iload 7, 2) := by decide +kernel
theorem dX2_nextFault_11 : decode cX2_nextFault 11 = .ok (.aload_n 1, 1) := by decide +kernel
theorem dX2_nextFault_12 : decode cX2_nextFault 12 = .ok (.getfield 29, 3) := by decide +kernel
theorem dX2_nextFault_15 : decode cX2_nextFault 15 = .ok (.if_icmp .ge 127, 3) := by decide +kernel
theorem dX2_nextFault_18 : decode cX2_nextFault 18 = .ok (.aload_n 1, 1) := by decide +kernel
theorem dX2_nextFault_19 : decode cX2_nextFault 19 = .ok (.iload 7, 2) := by decide +kernel
theorem dX2_nextFault_21 : decode cX2_nextFault 21 = .ok (.aload_n 3, 1) := by decide +kernel
theorem dX2_nextFault_22 : decode cX2_nextFault 22 = .ok (.invokevirtual 35, 3) := by decide +kernel
theorem dX2_nextFault_25 : decode cX2_nextFault 25 = .ok (.invokevirtual 39, 3) := by decide +kernel
theorem dX2_nextFault_28 : decode cX2_nextFault 28 = .ok (.ifCond .eq 23, 3) := by decide +kernel
theorem dX2_nextFault_31 : decode cX2_nextFault 31 = .ok (.aload_n 1, 1) := by decide +kernel
theorem dX2_nextFault_32 : decode cX2_nextFault 32 = .ok (.getfield 43, 3) := by decide +kernel
theorem dX2_nextFault_35 : decode cX2_nextFault 35 = .ok (.iload 7, 2) := by decide +kernel
theorem dX2_nextFault_37 : decode cX2_nextFault 37 = .ok (.invokestatic 47, 3) := by decide +kernel
theorem dX2_nextFault_40 : decode cX2_nextFault 40 = .ok (.aload_n 3, 1) := by decide +kernel
theorem dX2_nextFault_41 : decode cX2_nextFault 41 = .ok (.getfield 51, 3) := by decide +kernel
theorem dX2_nextFault_44 : decode cX2_nextFault 44 = .ok (.if_icmp .gt 7, 3) := by decide +kernel
theorem dX2_nextFault_47 : decode cX2_nextFault 47 = .ok (.iconst 1, 1) := by decide +kernel
theorem dX2_nextFault_48 : decode cX2_nextFault 48 = .ok (.goto 4, 3) := by decide +kernel
theorem dX2_nextFault_51 : decode cX2_nextFault 51 = .ok (.iconst 0, 1) := by decide +kernel
theorem dX2_nextFault_52 : decode cX2_nextFault 52 = .ok (.istore 8, 2) := by decide +kernel
theorem dX2_nextFault_54 : decode cX2_nextFault 54 = .ok (.iload 8, 2) := by decide +kernel
theorem dX2_nextFault_56 : decode cX2_nextFault 56 = .ok (.ifCond .eq 15, 3) := by decide +kernel
theorem dX2_nextFault_59 : decode cX2_nextFault 59 = .ok (.aload_n 0, 1) := by decide +kernel
theorem dX2_nextFault_60 : decode cX2_nextFault 60 = .ok (.aload_n 1, 1) := by decide +kernel
theorem dX2_nextFault_61 : decode cX2_nextFault 61 = .ok (.aload_n 2, 1) := by decide +kernel
theorem dX2_nextFault_62 : decode cX2_nextFault 62 = .ok (.aload_n 3, 1) := by decide +kernel
theorem dX2_nextFault_63 : decode cX2_nextFault 63 = .ok (.iload 7, 2) := by decide +kernel
theorem dX2_nextFault_65 : decode cX2_nextFault 65 = .ok (.invokevirtual 54, 3) := by decide +kernel
theorem dX2_nextFault_68 : decode cX2_nextFault 68 = .ok (.goto 4, 3) := by decide +kernel
theorem dX2_nextFault_71 : decode cX2_nextFault 71 = .ok (.iconst (-1), 1) := by decide +kernel
theorem dX2_nextFault_72 : decode cX2_nextFault 72 = .ok (.istore 9, 2) := by decide +kernel
theorem dX2_nextFault_74 : decode cX2_nextFault 74 = .ok (.iload 9, 2) := by decide +kernel
theorem dX2_nextFault_76 : decode cX2_nextFault 76 = .ok (.ifCond .lt 60, 3) := by decide +kernel
theorem dX2_nextFault_79 : decode cX2_nextFault 79 = .ok (.aload_n 2, 1) := by decide +kernel
theorem dX2_nextFault_80 : decode cX2_nextFault 80 = .ok (.getfield 58, 3) := by decide +kernel
theorem dX2_nextFault_83 : decode cX2_nextFault 83 = .ok (.iload 9, 2) := by decide +kernel
theorem dX2_nextFault_85 : decode cX2_nextFault 85 = .ok (.invokestatic 47, 3) := by decide +kernel
theorem dX2_nextFault_88 : decode cX2_nextFault 88 = .ok (.istore 10, 2) := by decide +kernel
theorem dX2_nextFault_90 : decode cX2_nextFault 90 = .ok (.aload_n 0, 1) := by decide +kernel
theorem dX2_nextFault_91 : decode cX2_nextFault 91 = .ok (.aload_n 2, 1) := by decide +kernel
theorem dX2_nextFault_92 : decode cX2_nextFault 92 = .ok (.getfield 63, 3) := by decide +kernel
theorem dX2_nextFault_95 : decode cX2_nextFault 95 = .ok (.iload 10, 2) := by decide +kernel
theorem dX2_nextFault_97 : decode cX2_nextFault 97 = .ok (.aload_n 2, 1) := by decide +kernel
theorem dX2_nextFault_98 : decode cX2_nextFault 98 = .ok (.getfield 66, 3) := by decide +kernel
theorem dX2_nextFault_101 : decode cX2_nextFault 101 = .ok (.iload 9, 2) := by decide +kernel
theorem dX2_nextFault_103 : decode cX2_nextFault 103 = .ok (.invokestatic 47, 3) := by decide +kernel
theorem dX2_nextFault_106 : decode cX2_nextFault 106 = .ok (.aload_n 1, 1) := by decide +kernel
theorem dX2_nextFault_107 : decode cX2_nextFault 107 = .ok (.aload_n 3, 1) := by decide +kernel
theorem dX2_nextFault_108 : decode cX2_nextFault 108 = .ok (.iload 7, 2) := by decide +kernel
theorem dX2_nextFault_110 : decode cX2_nextFault 110 = .ok (.invokevirtual 69, 3) := by decide +kernel
theorem dX2_nextFault_113 : decode cX2_nextFault 113 = .ok (.lstore 11, 2) := by decide +kernel
theorem dX2_nextFault_115 : decode cX2_nextFault 115 = .ok (.iload 4, 2) := by decide +kernel
theorem dX2_nextFault_117 : decode cX2_nextFault 117 = .ok (.ifCond .lt 11, 3) := by decide +kernel
theorem dX2_nextFault_120 : decode cX2_nextFault 120 = .ok (.lload 11, 2) := by decide +kernel
theorem dX2_nextFault_122 : decode cX2_nextFault 122 = .ok (.lload 5, 2) := by decide +kernel
theorem dX2_nextFault_124 : decode cX2_nextFault 124 = .ok (.lcmp, 1) := by decide +kernel
theorem dX2_nextFault_125 : decode cX2_nextFault 125 = .ok (.ifCond .ge 11, 3) := by decide +kernel
theorem dX2_nextFault_128 : decode cX2_nextFault 128 = .ok (.iload 7, 2) := by decide +kernel
theorem dX2_nextFault_130 : decode cX2_nextFault 130 = .ok (.istore 4, 2) := by decide +kernel
theorem dX2_nextFault_132 : decode cX2_nextFault 132 = .ok (.lload 11, 2) := by decide +kernel
theorem dX2_nextFault_134 : decode cX2_nextFault 134 = .ok (.lstore 5, 2) := by decide +kernel
theorem dX2_nextFault_136 : decode cX2_nextFault 136 = .ok (.iinc 7 1, 3) := by decide +kernel
theorem dX2_nextFault_139 : decode cX2_nextFault 139 = .ok (.goto (-130), 3) := by decide +kernel
theorem dX2_nextFault_142 : decode cX2_nextFault 142 = .ok (.iload 4, 2) := by decide +kernel
theorem dX2_nextFault_144 : decode cX2_nextFault 144 = .ok (.ireturn, 1) := by decide +kernel
theorem dX2_play_0 : decode cX2_play 0 = .ok (.iconst 0, 1) := by decide +kernel
theorem dX2_play_1 : decode cX2_play 1 = .ok (.istore 4, 2) := by decide +kernel
theorem dX2_play_3 : decode cX2_play 3 = .ok (.iload 4, 2) := by decide +kernel
theorem dX2_play_5 : decode cX2_play 5 = .ok (.sipush 200, 3) := by decide +kernel
theorem dX2_play_8 : decode cX2_play 8 = .ok (.if_icmp .ge 46, 3) := by decide +kernel
theorem dX2_play_11 : decode cX2_play 11 = .ok (.aload_n 0, 1) := by decide +kernel
theorem dX2_play_12 : decode cX2_play 12 = .ok (.aload_n 1, 1) := by decide +kernel
theorem dX2_play_13 : decode cX2_play 13 = .ok (.aload_n 2, 1) := by decide +kernel
theorem dX2_play_14 : decode cX2_play 14 = .ok (.aload_n 3, 1) := by decide +kernel
theorem dX2_play_15 : decode cX2_play 15 = .ok (.invokevirtual 15, 3) := by decide +kernel
theorem dX2_play_18 : decode cX2_play 18 = .ok (.istore 5, 2) := by decide +kernel
theorem dX2_play_20 : decode cX2_play 20 = .ok (.iload 5, 2) := by decide +kernel
theorem dX2_play_22 : decode cX2_play 22 = .ok (.ifCond .lt 15, 3) := by decide +kernel
theorem dX2_play_25 : decode cX2_play 25 = .ok (.aload_n 0, 1) := by decide +kernel
theorem dX2_play_26 : decode cX2_play 26 = .ok (.aload_n 1, 1) := by decide +kernel
theorem dX2_play_27 : decode cX2_play 27 = .ok (.aload_n 2, 1) := by decide +kernel
theorem dX2_play_28 : decode cX2_play 28 = .ok (.aload_n 3, 1) := by decide +kernel
theorem dX2_play_29 : decode cX2_play 29 = .ok (.iload 5, 2) := by decide +kernel
theorem dX2_play_31 : decode cX2_play 31 = .ok (.invokevirtual 19, 3) := by decide +kernel
theorem dX2_play_34 : decode cX2_play 34 = .ok (.ifCond .eq 6, 3) := by decide +kernel
theorem dX2_play_37 : decode cX2_play 37 = .ok (.iload 4, 2) := by decide +kernel
theorem dX2_play_39 : decode cX2_play 39 = .ok (.ireturn, 1) := by decide +kernel
theorem dX2_play_40 : decode cX2_play 40 = .ok (.aload_n 3, 1) := by decide +kernel
theorem dX2_play_41 : decode cX2_play 41 = .ok (.aload_n 1, 1) := by decide +kernel
theorem dX2_play_42 : decode cX2_play 42 = .ok (.iload 5, 2) := by decide +kernel
theorem dX2_play_44 : decode cX2_play 44 = .ok (.invokevirtual 23, 3) := by decide +kernel
theorem dX2_play_47 : decode cX2_play 47 = .ok (.pop, 1) := by decide +kernel
theorem dX2_play_48 : decode cX2_play 48 = .ok (.iinc 4 1, 3) := by decide +kernel
theorem dX2_play_51 : decode cX2_play 51 = .ok (.goto (-48), 3) := by decide +kernel
theorem dX2_play_54 : decode cX2_play 54 = .ok (.sipush 200, 3) := by decide +kernel
theorem dX2_play_57 : decode cX2_play 57 = .ok (.ireturn, 1) := by decide +kernel
theorem dX2_reckon_0 : decode cX2_reckon 0 = .ok (.iconst (-1), 1) := by decide +kernel
theorem dX2_reckon_1 : decode cX2_reckon 1 = .ok (.istore 7, 2) := by decide +kernel
theorem dX2_reckon_3 : decode cX2_reckon 3 = .ok (.iload_n 2, 1) := by decide +kernel
