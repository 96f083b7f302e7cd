theorem dJ0_charAt_5068e_0 : decode cJ0_charAt_5068e 0 = .ok (.aload_n 0, 1) := by decide +kernel
theorem dJ0_charAt_5068e_1 : decode cJ0_charAt_5068e 1 = .ok (.invokevirtual 492, 3) := by decide +kernel
theorem dJ0_charAt_5068e_4 : decode cJ0_charAt_5068e 4 = .ok (.ifCond .eq 12, 3) := by decide +kernel
theorem dJ0_charAt_5068e_7 : decode cJ0_charAt_5068e 7 = .ok (.aload_n 0, 1) := by decide +kernel
theorem dJ0_charAt_5068e_8 : decode cJ0_charAt_5068e 8 = .ok (.getfield 9, 3) := by decide +kernel
theorem dJ0_charAt_5068e_11 : decode cJ0_charAt_5068e 11 = .ok (.iload_n 1, 1) := by decide +kernel
theorem dJ0_charAt_5068e_12 : decode cJ0_charAt_5068e 12 = .ok (.invokestatic 495, 3) := by decide +kernel
theorem dJ0_charAt_5068e_15 : decode cJ0_charAt_5068e 15 = .ok (.ireturn, 1) := by decide +kernel
theorem dJ0_charAt_5068e_16 : decode cJ0_charAt_5068e 16 = .ok (.aload_n 0, 1) := by decide +kernel
theorem dJ0_charAt_5068e_17 : decode cJ0_charAt_5068e 17 = .ok (.getfield 9, 3) := by decide +kernel
theorem dJ0_charAt_5068e_20 : decode cJ0_charAt_5068e 20 = .ok (.iload_n 1, 1) := by decide +kernel
theorem dJ0_charAt_5068e_21 : decode cJ0_charAt_5068e 21 = .ok (.invokestatic 498, 3) := by decide +kernel
theorem dJ0_charAt_5068e_24 : decode cJ0_charAt_5068e 24 = .ok (.ireturn, 1) := by decide +kernel
theorem dJ0_checkIndex_df160_0 : decode cJ0_checkIndex_df160 0 = .ok (.iload_n 0, 1) := by decide +kernel
theorem dJ0_checkIndex_df160_1 : decode cJ0_checkIndex_df160 1 = .ok (.iload_n 1, 1) := by decide +kernel
theorem dJ0_checkIndex_df160_2 : decode cJ0_checkIndex_df160 2 = .ok (.getstatic 1053, 3) := by decide +kernel
theorem dJ0_checkIndex_df160_5 : decode cJ0_checkIndex_df160 5 = .ok (.invokestatic 1059, 3) := by decide +kernel
theorem dJ0_checkIndex_df160_8 : decode cJ0_checkIndex_df160 8 = .ok (.pop, 1) := by decide +kernel
theorem dJ0_checkIndex_df160_9 : decode cJ0_checkIndex_df160 9 = .ok (.return_, 1) := by decide +kernel
theorem dJ0_coder_7d493_0 : decode cJ0_coder_7d493 0 = .ok (.getstatic 38, 3) := by decide +kernel
theorem dJ0_coder_7d493_3 : decode cJ0_coder_7d493 3 = .ok (.ifCond .eq 10, 3) := by decide +kernel
theorem dJ0_coder_7d493_6 : decode cJ0_coder_7d493 6 = .ok (.aload_n 0, 1) := by decide +kernel
theorem dJ0_coder_7d493_7 : decode cJ0_coder_7d493 7 = .ok (.getfield 15, 3) := by decide +kernel
theorem dJ0_coder_7d493_10 : decode cJ0_coder_7d493 10 = .ok (.goto 4, 3) := by decide +kernel
theorem dJ0_coder_7d493_13 : decode cJ0_coder_7d493 13 = .ok (.iconst 1, 1) := by decide +kernel
theorem dJ0_coder_7d493_14 : decode cJ0_coder_7d493 14 = .ok (.ireturn, 1) := by decide +kernel
theorem dJ0_isLatin1_aae02_0 : decode cJ0_isLatin1_aae02 0 = .ok (.getstatic 38, 3) := by decide +kernel
theorem dJ0_isLatin1_aae02_3 : decode cJ0_isLatin1_aae02 3 = .ok (.ifCond .eq 14, 3) := by decide +kernel
theorem dJ0_isLatin1_aae02_6 : decode cJ0_isLatin1_aae02 6 = .ok (.aload_n 0, 1) := by decide +kernel
theorem dJ0_isLatin1_aae02_7 : decode cJ0_isLatin1_aae02 7 = .ok (.getfield 15, 3) := by decide +kernel
theorem dJ0_isLatin1_aae02_10 : decode cJ0_isLatin1_aae02 10 = .ok (.ifCond .ne 7, 3) := by decide +kernel
theorem dJ0_isLatin1_aae02_13 : decode cJ0_isLatin1_aae02 13 = .ok (.iconst 1, 1) := by decide +kernel
theorem dJ0_isLatin1_aae02_14 : decode cJ0_isLatin1_aae02 14 = .ok (.goto 4, 3) := by decide +kernel
theorem dJ0_isLatin1_aae02_17 : decode cJ0_isLatin1_aae02 17 = .ok (.iconst 0, 1) := by decide +kernel
theorem dJ0_isLatin1_aae02_18 : decode cJ0_isLatin1_aae02 18 = .ok (.ireturn, 1) := by decide +kernel
theorem dJ0_length_8abf5_0 : decode cJ0_length_8abf5 0 = .ok (.aload_n 0, 1) := by decide +kernel
theorem dJ0_length_8abf5_1 : decode cJ0_length_8abf5 1 = .ok (.getfield 9, 3) := by decide +kernel
theorem dJ0_length_8abf5_4 : decode cJ0_length_8abf5 4 = .ok (.arraylength, 1) := by decide +kernel
theorem dJ0_length_8abf5_5 : decode cJ0_length_8abf5 5 = .ok (.aload_n 0, 1) := by decide +kernel
theorem dJ0_length_8abf5_6 : decode cJ0_length_8abf5 6 = .ok (.invokevirtual 335, 3) := by decide +kernel
theorem dJ0_length_8abf5_9 : decode cJ0_length_8abf5 9 = .ok (.ishr, 1) := by decide +kernel
theorem dJ0_length_8abf5_10 : decode cJ0_length_8abf5 10 = .ok (.ireturn, 1) := by decide +kernel
theorem dJ1_charAt_3b067_0 : decode cJ1_charAt_3b067 0 = .ok (.iload_n 1, 1) := by decide +kernel
theorem dJ1_charAt_3b067_1 : decode cJ1_charAt_3b067 1 = .ok (.aload_n 0, 1) := by decide +kernel
theorem dJ1_charAt_3b067_2 : decode cJ1_charAt_3b067 2 = .ok (.arraylength, 1) := by decide +kernel
theorem dJ1_charAt_3b067_3 : decode cJ1_charAt_3b067 3 = .ok (.invokestatic 9, 3) := by decide +kernel
theorem dJ1_charAt_3b067_6 : decode cJ1_charAt_3b067 6 = .ok (.aload_n 0, 1) := by decide +kernel
theorem dJ1_charAt_3b067_7 : decode cJ1_charAt_3b067 7 = .ok (.iload_n 1, 1) := by decide +kernel
theorem dJ1_charAt_3b067_8 : decode cJ1_charAt_3b067 8 = .ok (.baload, 1) := by decide +kernel
theorem dJ1_charAt_3b067_9 : decode cJ1_charAt_3b067 9 = .ok (.sipush 255, 3) := by decide +kernel
theorem dJ1_charAt_3b067_12 : decode cJ1_charAt_3b067 12 = .ok (.iand, 1) := by decide +kernel
theorem dJ1_charAt_3b067_13 : decode cJ1_charAt_3b067 13 = .ok (.i2c, 1) := by decide +kernel
theorem dJ1_charAt_3b067_14 : decode cJ1_charAt_3b067 14 = .ok (.ireturn, 1) := by decide +kernel
theorem dJ3_checkIndex_8e157_0 : decode cJ3_checkIndex_8e157 0 = .ok (.iload_n 0, 1) := by decide +kernel
theorem dJ3_checkIndex_8e157_1 : decode cJ3_checkIndex_8e157 1 = .ok (.ifCond .lt 8, 3) := by decide +kernel
theorem dJ3_checkIndex_8e157_4 : decode cJ3_checkIndex_8e157 4 = .ok (.iload_n 0, 1) := by decide +kernel
theorem dJ3_checkIndex_8e157_5 : decode cJ3_checkIndex_8e157 5 = .ok (.iload_n 1, 1) := by decide +kernel
theorem dJ3_checkIndex_8e157_6 : decode cJ3_checkIndex_8e157 6 = .ok (.if_icmp .lt 10, 3) := by decide +kernel
theorem dJ3_checkIndex_8e157_9 : decode cJ3_checkIndex_8e157 9 = .ok (.aload_n 2, 1) := by decide +kernel
theorem dJ3_checkIndex_8e157_10 : decode cJ3_checkIndex_8e157 10 = .ok (.iload_n 0, 1) := by decide +kernel
theorem dJ3_checkIndex_8e157_11 : decode cJ3_checkIndex_8e157 11 = .ok (.iload_n 1, 1) := by decide +kernel
theorem dJ3_checkIndex_8e157_12 : decode cJ3_checkIndex_8e157 12 = .ok (.invokestatic 95, 3) := by decide +kernel
theorem dJ3_checkIndex_8e157_15 : decode cJ3_checkIndex_8e157 15 = .ok (.athrow, 1) := by decide +kernel
theorem dJ3_checkIndex_8e157_16 : decode cJ3_checkIndex_8e157 16 = .ok (.iload_n 0, 1) := by decide +kernel
theorem dJ3_checkIndex_8e157_17 : decode cJ3_checkIndex_8e157 17 = .ok (.ireturn, 1) := by decide +kernel
theorem dJ6_bitCount_0f7a4_0 : decode cJ6_bitCount_0f7a4 0 = .ok (.iload_n 0, 1) := by decide +kernel
theorem dJ6_bitCount_0f7a4_1 : decode cJ6_bitCount_0f7a4 1 = .ok (.iload_n 0, 1) := by decide +kernel
theorem dJ6_bitCount_0f7a4_2 : decode cJ6_bitCount_0f7a4 2 = .ok (.iconst 1, 1) := by decide +kernel
theorem dJ6_bitCount_0f7a4_3 : decode cJ6_bitCount_0f7a4 3 = .ok (.iushr, 1) := by decide +kernel
theorem dJ6_bitCount_0f7a4_4 : decode cJ6_bitCount_0f7a4 4 = .ok (.ldc_w 265, 3) := by decide +kernel
theorem dJ6_bitCount_0f7a4_7 : decode cJ6_bitCount_0f7a4 7 = .ok (.iand, 1) := by decide +kernel
theorem dJ6_bitCount_0f7a4_8 : decode cJ6_bitCount_0f7a4 8 = .ok (.isub, 1) := by decide +kernel
theorem dJ6_bitCount_0f7a4_9 : decode cJ6_bitCount_0f7a4 9 = .ok (.istore_n 0, 1) := by decide +kernel
theorem dJ6_bitCount_0f7a4_10 : decode cJ6_bitCount_0f7a4 10 = .ok (.iload_n 0, 1) := by decide +kernel
theorem dJ6_bitCount_0f7a4_11 : decode cJ6_bitCount_0f7a4 11 = .ok (.ldc_w 266, 3) := by decide +kernel
theorem dJ6_bitCount_0f7a4_14 : decode cJ6_bitCount_0f7a4 14 = .ok (.iand, 1) := by decide +kernel
theorem dJ6_bitCount_0f7a4_15 : decode cJ6_bitCount_0f7a4 15 = .ok (.iload_n 0, 1) := by decide +kernel
theorem dJ6_bitCount_0f7a4_16 : decode cJ6_bitCount_0f7a4 16 = .ok (.iconst 2, 1) := by decide +kernel
theorem dJ6_bitCount_0f7a4_17 : decode cJ6_bitCount_0f7a4 17 = .ok (.iushr, 1) := by decide +kernel
theorem dJ6_bitCount_0f7a4_18 : decode cJ6_bitCount_0f7a4 18 = .ok (.ldc_w 266, 3) := by decide +kernel
theorem dJ6_bitCount_0f7a4_21 : decode cJ6_bitCount_0f7a4 21 = .ok (.iand, 1) := by decide +kernel
theorem dJ6_bitCount_0f7a4_22 : decode cJ6_bitCount_0f7a4 22 = .ok (.iadd, 1) := by decide +kernel
theorem dJ6_bitCount_0f7a4_23 : decode cJ6_bitCount_0f7a4 23 = .ok (.istore_n 0, 1) := by decide +kernel
theorem dJ6_bitCount_0f7a4_24 : decode cJ6_bitCount_0f7a4 24 = .ok (.iload_n 0, 1) := by decide +kernel
theorem dJ6_bitCount_0f7a4_25 : decode cJ6_bitCount_0f7a4 25 = .ok (.iload_n 0, 1) := by decide +kernel
theorem dJ6_bitCount_0f7a4_26 : decode cJ6_bitCount_0f7a4 26 = .ok (.iconst 4, 1) := by decide +kernel
theorem dJ6_bitCount_0f7a4_27 : decode cJ6_bitCount_0f7a4 27 = .ok (.iushr, 1) := by decide +kernel
theorem dJ6_bitCount_0f7a4_28 : decode cJ6_bitCount_0f7a4 28 = .ok (.iadd, 1) := by decide +kernel
theorem dJ6_bitCount_0f7a4_29 : decode cJ6_bitCount_0f7a4 29 = .ok (.ldc_w 267, 3) := by decide +kernel
theorem dJ6_bitCount_0f7a4_32 : decode cJ6_bitCount_0f7a4 32 = .ok (.iand, 1) := by decide +kernel
theorem dJ6_bitCount_0f7a4_33 : decode cJ6_bitCount_0f7a4 33 = .ok (.istore_n 0, 1) := by decide +kernel
theorem dJ6_bitCount_0f7a4_34 : decode cJ6_bitCount_0f7a4 34 = .ok (.iload_n 0, 1) := by decide +kernel
theorem dJ6_bitCount_0f7a4_35 : decode cJ6_bitCount_0f7a4 35 = .ok (.iload_n 0, 1) := by decide +kernel
theorem dJ6_bitCount_0f7a4_36 : decode cJ6_bitCount_0f7a4 36 = .ok (.bipush 8, 2) := by decide +kernel
theorem dJ6_bitCount_0f7a4_38 : decode cJ6_bitCount_0f7a4 38 = .ok (.iushr, 1) := by decide +kernel
theorem dJ6_bitCount_0f7a4_39 : decode cJ6_bitCount_0f7a4 39 = .ok (.iadd, 1) := by decide +kernel
theorem dJ6_bitCount_0f7a4_40 : decode cJ6_bitCount_0f7a4 40 = .ok (.istore_n 0, 1) := by decide +kernel
theorem dJ6_bitCount_0f7a4_41 : decode cJ6_bitCount_0f7a4 41 = .ok (.iload_n 0, 1) := by decide +kernel
theorem dJ6_bitCount_0f7a4_42 : decode cJ6_bitCount_0f7a4 42 = .ok (.iload_n 0, 1) := by decide +kernel
theorem dJ6_bitCount_0f7a4_43 : decode cJ6_bitCount_0f7a4 43 = .ok (.bipush 16, 2) := by decide +kernel
theorem dJ6_bitCount_0f7a4_45 : decode cJ6_bitCount_0f7a4 45 = .ok (.iushr, 1) := by decide +kernel
theorem dJ6_bitCount_0f7a4_46 : decode cJ6_bitCount_0f7a4 46 = .ok (.iadd, 1) := by decide +kernel
theorem dJ6_bitCount_0f7a4_47 : decode cJ6_bitCount_0f7a4 47 = .ok (.istore_n 0, 1) := by decide +kernel
theorem dJ6_bitCount_0f7a4_48 : decode cJ6_bitCount_0f7a4 48 = .ok (.iload_n 0, 1) := by decide +kernel
theorem dJ6_bitCount_0f7a4_49 : decode cJ6_bitCount_0f7a4 49 = .ok (.bipush 63, 2) := by decide +kernel
theorem dJ6_bitCount_0f7a4_51 : decode cJ6_bitCount_0f7a4 51 = .ok (.iand, 1) := by decide +kernel
theorem dJ6_bitCount_0f7a4_52 : decode cJ6_bitCount_0f7a4 52 = .ok (.ireturn, 1) := by decide +kernel
theorem dJ7_copyOf_59c91_0 : decode cJ7_copyOf_59c91 0 = .ok (.iload_n 1, 1) := by decide +kernel
theorem dJ7_copyOf_59c91_1 : decode cJ7_copyOf_59c91 1 = .ok (.aload_n 0, 1) := by decide +kernel
theorem dJ7_copyOf_59c91_2 : decode cJ7_copyOf_59c91 2 = .ok (.arraylength, 1) := by decide +kernel
theorem dJ7_copyOf_59c91_3 : decode cJ7_copyOf_59c91 3 = .ok (.if_icmp .ne 11, 3) := by decide +kernel
theorem dJ7_copyOf_59c91_6 : decode cJ7_copyOf_59c91 6 = .ok (.aload_n 0, 1) := by decide +kernel
theorem dJ7_copyOf_59c91_7 : decode cJ7_copyOf_59c91 7 = .ok (.invokevirtual 316, 3) := by decide +kernel
theorem dJ7_copyOf_59c91_10 : decode cJ7_copyOf_59c91 10 = .ok (.checkcast 317, 3) := by decide +kernel
theorem dJ7_copyOf_59c91_13 : decode cJ7_copyOf_59c91 13 = .ok (.areturn, 1) := by decide +kernel
theorem dJ7_copyOf_59c91_14 : decode cJ7_copyOf_59c91 14 = .ok (.iload_n 1, 1) := by decide +kernel
theorem dJ7_copyOf_59c91_15 : decode cJ7_copyOf_59c91 15 = .ok (.newarray .int, 2) := by decide +kernel
theorem dJ7_copyOf_59c91_17 : decode cJ7_copyOf_59c91 17 = .ok (.astore_n 2, 1) := by decide +kernel
theorem dJ7_copyOf_59c91_18 : decode cJ7_copyOf_59c91 18 = .ok (.aload_n 0, 1) := by decide +kernel
theorem dJ7_copyOf_59c91_19 : decode cJ7_copyOf_59c91 19 = .ok (.iconst 0, 1) := by decide +kernel
theorem dJ7_copyOf_59c91_20 : decode cJ7_copyOf_59c91 20 = .ok (.aload_n 2, 1) := by decide +kernel
theorem dJ7_copyOf_59c91_21 : decode cJ7_copyOf_59c91 21 = .ok (.iconst 0, 1) := by decide +kernel
theorem dJ7_copyOf_59c91_22 : decode cJ7_copyOf_59c91 22 = .ok (.aload_n 0, 1) := by decide +kernel
theorem dJ7_copyOf_59c91_23 : decode cJ7_copyOf_59c91 23 = .ok (.arraylength, 1) := by decide +kernel
theorem dJ7_copyOf_59c91_24 : decode cJ7_copyOf_59c91 24 = .ok (.iload_n 1, 1) := by decide +kernel
theorem dJ7_copyOf_59c91_25 : decode cJ7_copyOf_59c91 25 = .ok (.invokestatic 304, 3) := by decide +kernel
theorem dJ7_copyOf_59c91_28 : decode cJ7_copyOf_59c91 28 = .ok (.invokestatic 150, 3) := by decide +kernel
theorem dJ7_copyOf_59c91_31 : decode cJ7_copyOf_59c91 31 = .ok (.aload_n 2, 1) := by decide +kernel
theorem dJ7_copyOf_59c91_32 : decode cJ7_copyOf_59c91 32 = .ok (.areturn, 1) := by decide +kernel
theorem dJ7_fill_53178_0 : decode cJ7_fill_53178 0 = .ok (.iconst 0, 1) := by decide +kernel
theorem dJ7_fill_53178_1 : decode cJ7_fill_53178 1 = .ok (.istore_n 2, 1) := by decide +kernel
theorem dJ7_fill_53178_2 : decode cJ7_fill_53178 2 = .ok (.aload_n 0, 1) := by decide +kernel
theorem dJ7_fill_53178_3 : decode cJ7_fill_53178 3 = .ok (.arraylength, 1) := by decide +kernel
theorem dJ7_fill_53178_4 : decode cJ7_fill_53178 4 = .ok (.istore_n 3, 1) := by decide +kernel
theorem dJ7_fill_53178_5 : decode cJ7_fill_53178 5 = .ok (.iload_n 2, 1) := by decide +kernel
theorem dJ7_fill_53178_6 : decode cJ7_fill_53178 6 = .ok (.iload_n 3, 1) := by decide +kernel
theorem dJ7_fill_53178_7 : decode cJ7_fill_53178 7 = .ok (.if_icmp .ge 13, 3) := by decide +kernel
theorem dJ7_fill_53178_10 : decode cJ7_fill_53178 10 = .ok (.aload_n 0, 1) := by decide +kernel
theorem dJ7_fill_53178_11 : decode cJ7_fill_53178 11 = .ok (.iload_n 2, 1) := by decide +kernel
theorem dJ7_fill_53178_12 : decode cJ7_fill_53178 12 = .ok (.iload_n 1, 1) := by decide +kernel
theorem dJ7_fill_53178_13 : decode cJ7_fill_53178 13 = .ok (.iastore, 1) := by decide +kernel
theorem dJ7_fill_53178_14 : decode cJ7_fill_53178 14 = .ok (.iinc 2 1, 3) := by decide +kernel
theorem dJ7_fill_53178_17 : decode cJ7_fill_53178 17 = .ok (.goto (-12), 3) := by decide +kernel
theorem dJ7_fill_53178_20 : decode cJ7_fill_53178 20 = .ok (.return_, 1) := by decide +kernel
theorem dX0_begin_0 : decode cX0_begin 0 = .ok (.aload_n 0, 1) := by decide +kernel
theorem dX0_begin_1 : decode cX0_begin 1 = .ok (.iload_n 1, 1) := by decide +kernel
theorem dX0_begin_2 : decode cX0_begin 2 = .ok (.putfield 15, 3) := by decide +kernel
theorem dX0_begin_5 : decode cX0_begin 5 = .ok (.aload_n 0, 1) := by decide +kernel
theorem dX0_begin_6 : decode cX0_begin 6 = .ok (.iconst 0, 1) := by decide +kernel
theorem dX0_begin_7 : decode cX0_begin 7 = .ok (.putfield 19, 3) := by decide +kernel
theorem dX0_begin_10 : decode cX0_begin 10 = .ok (.aload_n 0, 1) := by decide +kernel
theorem dX0_begin_11 : decode cX0_begin 11 = .ok (.iconst 0, 1) := by decide +kernel
theorem dX0_begin_12 : decode cX0_begin 12 = .ok (.putfield 22, 3) := by decide +kernel
theorem dX0_begin_15 : decode cX0_begin 15 = .ok (.aload_n 0, 1) := by decide +kernel
theorem dX0_begin_16 : decode cX0_begin 16 = .ok (.getfield 9, 3) := by decide +kernel
theorem dX0_begin_19 : decode cX0_begin 19 = .ok (.iconst 0, 1) := by decide +kernel
theorem dX0_begin_20 : decode cX0_begin 20 = .ok (.invokestatic 37, 3) := by decide +kernel
theorem dX0_begin_23 : decode cX0_begin 23 = .ok (.return_, 1) := by decide +kernel
theorem dX0_copyFrom_0 : decode cX0_copyFrom 0 = .ok (.aload_n 0, 1) := by decide +kernel
theorem dX0_copyFrom_1 : decode cX0_copyFrom 1 = .ok (.aload_n 1, 1) := by decide +kernel
theorem dX0_copyFrom_2 : decode cX0_copyFrom 2 = .ok (.getfield 15, 3) := by decide +kernel
theorem dX0_copyFrom_5 : decode cX0_copyFrom 5 = .ok (.putfield 15, 3) := by decide +kernel
theorem dX0_copyFrom_8 : decode cX0_copyFrom 8 = .ok (.aload_n 0, 1) := by decide +kernel
theorem dX0_copyFrom_9 : decode cX0_copyFrom 9 = .ok (.aload_n 1, 1) := by decide +kernel
theorem dX0_copyFrom_10 : decode cX0_copyFrom 10 = .ok (.getfield 19, 3) := by decide +kernel
theorem dX0_copyFrom_13 : decode cX0_copyFrom 13 = .ok (.putfield 19, 3) := by decide +kernel
theorem dX0_copyFrom_16 : decode cX0_copyFrom 16 = .ok (.aload_n 0, 1) := by decide +kernel
theorem dX0_copyFrom_17 : decode cX0_copyFrom 17 = .ok (.aload_n 1, 1) := by decide +kernel
theorem dX0_copyFrom_18 : decode cX0_copyFrom 18 = .ok (.getfield 22, 3) := by decide +kernel
theorem dX0_copyFrom_21 : decode cX0_copyFrom 21 = .ok (.putfield 22, 3) := by decide +kernel
theorem dX0_copyFrom_24 : decode cX0_copyFrom 24 = .ok (.aload_n 0, 1) := by decide +kernel
theorem dX0_copyFrom_25 : decode cX0_copyFrom 25 = .ok (.aload_n 1, 1) := by decide +kernel
theorem dX0_copyFrom_26 : decode cX0_copyFrom 26 = .ok (.getfield 25, 3) := by decide +kernel
theorem dX0_copyFrom_29 : decode cX0_copyFrom 29 = .ok (.putfield 25, 3) := by decide +kernel
theorem dX0_copyFrom_32 : decode cX0_copyFrom 32 = .ok (.aload_n 0, 1) := by decide +kernel
theorem dX0_copyFrom_33 : decode cX0_copyFrom 33 = .ok (.aload_n 1, 1) := by decide +kernel
theorem dX0_copyFrom_34 : decode cX0_copyFrom 34 = .ok (.getfield 28, 3) := by decide +kernel
theorem dX0_copyFrom_37 : decode cX0_copyFrom 37 = .ok (.putfield 28, 3) := by decide +kernel
theorem dX0_copyFrom_40 : decode cX0_copyFrom 40 = .ok (.aload_n 1, 1) := by decide +kernel
theorem dX0_copyFrom_41 : decode cX0_copyFrom 41 = .ok (.getfield 9, 3) := by decide +kernel
theorem dX0_copyFrom_44 : decode cX0_copyFrom 44 = .ok (.iconst 0, 1) := by decide +kernel
theorem dX0_copyFrom_45 : decode cX0_copyFrom 45 = .ok (.aload_n 0, 1) := by decide +kernel
theorem dX0_copyFrom_46 : decode cX0_copyFrom 46 = .ok (.getfield 9, 3) := by decide +kernel
theorem dX0_copyFrom_49 : decode cX0_copyFrom 49 = .ok (.iconst 0, 1) := by decide +kernel
theorem dX0_copyFrom_50 : decode cX0_copyFrom 50 = .ok (.bipush 10, 2) := by decide +kernel
theorem dX0_copyFrom_52 : decode cX0_copyFrom 52 = .ok (.invokestatic 31, 3) := by decide +kernel
theorem dX0_copyFrom_55 : decode cX0_copyFrom 55 = .ok (.return_, 1) := by decide +kernel
theorem dX0_gone_0 : decode cX0_gone 0 = .ok (.aload_n 0, 1) := by decide +kernel
theorem dX0_gone_1 : decode cX0_gone 1 = .ok (.getfield 22, 3) := by decide +kernel
theorem dX0_gone_4 : decode cX0_gone 4 = .ok (.aload_n 0, 1) := by decide +kernel
theorem dX0_gone_5 : decode cX0_gone 5 = .ok (.getfield 25, 3) := by decide +kernel
theorem dX0_gone_8 : decode cX0_gone 8 = .ok (.ior, 1) := by decide +kernel
theorem dX0_gone_9 : decode cX0_gone 9 = .ok (.ireturn, 1) := by decide +kernel
theorem dX0_init_0 : decode cX0_init 0 = .ok (.aload_n 0, 1) := by decide +kernel
theorem dX0_init_1 : decode cX0_init 1 = .ok (.invokespecial 3, 3) := by decide +kernel
theorem dX0_init_4 : decode cX0_init 4 = .ok (.aload_n 0, 1) := by decide +kernel
theorem dX0_init_5 : decode cX0_init 5 = .ok (.bipush 10, 2) := by decide +kernel
theorem dX0_init_7 : decode cX0_init 7 = .ok (.newarray .int, 2) := by decide +kernel
theorem dX0_init_9 : decode cX0_init 9 = .ok (.putfield 9, 3) := by decide +kernel
theorem dX0_init_12 : decode cX0_init 12 = .ok (.return_, 1) := by decide +kernel
theorem dX0_lookFor_0 : decode cX0_lookFor 0 = .ok (.aload_n 0, 1) := by decide +kernel
theorem dX0_lookFor_1 : decode cX0_lookFor 1 = .ok (.dup, 1) := by decide +kernel
theorem dX0_lookFor_2 : decode cX0_lookFor 2 = .ok (.getfield 15, 3) := by decide +kernel
theorem dX0_lookFor_5 : decode cX0_lookFor 5 = .ok (.aload_n 1, 1) := by decide +kernel
theorem dX0_lookFor_6 : decode cX0_lookFor 6 = .ok (.getfield 43, 3) := by decide +kernel
theorem dX0_lookFor_9 : decode cX0_lookFor 9 = .ok (.iload_n 2, 1) := by decide +kernel
theorem dX0_lookFor_10 : decode cX0_lookFor 10 = .ok (.invokestatic 48, 3) := by decide +kernel
theorem dX0_lookFor_13 : decode cX0_lookFor 13 = .ok (.isub, 1) := by decide +kernel
theorem dX0_lookFor_14 : decode cX0_lookFor 14 = .ok (.putfield 15, 3) := by decide +kernel
theorem dX0_lookFor_17 : decode cX0_lookFor 17 = .ok (.aload_n 0, 1) := by decide +kernel
theorem dX0_lookFor_18 : decode cX0_lookFor 18 = .ok (.getfield 9, 3) := by decide +kernel
theorem dX0_lookFor_21 : decode cX0_lookFor 21 = .ok (.iload_n 2, 1) := by decide +kernel
theorem dX0_lookFor_22 : decode cX0_lookFor 22 = .ok (.aload_n 0, 1) := by decide +kernel
theorem dX0_lookFor_23 : decode cX0_lookFor 23 = .ok (.getfield 9, 3) := by decide +kernel
theorem dX0_lookFor_26 : decode cX0_lookFor 26 = .ok (.iload_n 2, 1) := by decide +kernel
theorem dX0_lookFor_27 : decode cX0_lookFor 27 = .ok (.invokestatic 48, 3) := by decide +kernel
theorem dX0_lookFor_30 : decode cX0_lookFor 30 = .ok (.iconst 1, 1) := by decide +kernel
theorem dX0_lookFor_31 : decode cX0_lookFor 31 = .ok (.iadd, 1) := by decide +kernel
theorem dX0_lookFor_32 : decode cX0_lookFor 32 = .ok (.invokestatic 52, 3) := by decide +kernel
theorem dX0_lookFor_35 : decode cX0_lookFor 35 = .ok (.aload_n 0, 1) := by decide +kernel
theorem dX0_lookFor_36 : decode cX0_lookFor 36 = .ok (.aload_n 0, 1) := by decide +kernel
theorem dX0_lookFor_37 : decode cX0_lookFor 37 = .ok (.getfield 28, 3) := by decide +kernel
theorem dX0_lookFor_40 : decode cX0_lookFor 40 = .ok (.i2l, 1) := by decide +kernel
theorem dX0_lookFor_41 : decode cX0_lookFor 41 = .ok (.ldc2_w 56, 3) := by decide +kernel
theorem dX0_lookFor_44 : decode cX0_lookFor 44 = .ok (.lmul, 1) := by decide +kernel
theorem dX0_lookFor_45 : decode cX0_lookFor 45 = .ok (.ldc2_w 58, 3) := by decide +kernel
theorem dX0_lookFor_48 : decode cX0_lookFor 48 = .ok (.ladd, 1) := by decide +kernel
theorem dX0_lookFor_49 : decode cX0_lookFor 49 = .ok (.ldc2_w 60, 3) := by decide +kernel
theorem dX0_lookFor_52 : decode cX0_lookFor 52 = .ok (.land, 1) := by decide +kernel
theorem dX0_lookFor_53 : decode cX0_lookFor 53 = .ok (.l2i, 1) := by decide +kernel
theorem dX0_lookFor_54 : decode cX0_lookFor 54 = .ok (.putfield 28, 3) := by decide +kernel
theorem dX0_lookFor_57 : decode cX0_lookFor 57 = .ok (.aload_n 0, 1) := by decide +kernel
theorem dX0_lookFor_58 : decode cX0_lookFor 58 = .ok (.getfield 28, 3) := by decide +kernel
theorem dX0_lookFor_61 : decode cX0_lookFor 61 = .ok (.ldc 62, 2) := by decide +kernel
theorem dX0_lookFor_63 : decode cX0_lookFor 63 = .ok (.idiv, 1) := by decide +kernel
theorem dX0_lookFor_64 : decode cX0_lookFor 64 = .ok (.bipush 100, 2) := by decide +kernel
theorem dX0_lookFor_66 : decode cX0_lookFor 66 = .ok (.irem, 1) := by decide +kernel
theorem dX0_lookFor_67 : decode cX0_lookFor 67 = .ok (.aload_n 1, 1) := by decide +kernel
theorem dX0_lookFor_68 : decode cX0_lookFor 68 = .ok (.getfield 63, 3) := by decide +kernel
theorem dX0_lookFor_71 : decode cX0_lookFor 71 = .ok (.iload_n 2, 1) := by decide +kernel
theorem dX0_lookFor_72 : decode cX0_lookFor 72 = .ok (.invokestatic 48, 3) := by decide +kernel
theorem dX0_lookFor_75 : decode cX0_lookFor 75 = .ok (.if_icmp .lt 5, 3) := by decide +kernel
theorem dX0_lookFor_78 : decode cX0_lookFor 78 = .ok (.iconst 0, 1) := by decide +kernel
theorem dX0_lookFor_79 : decode cX0_lookFor 79 = .ok (.ireturn, 1) := by decide +kernel
theorem dX0_lookFor_80 : decode cX0_lookFor 80 = .ok (.aload_n 0, 1) := by decide +kernel
theorem dX0_lookFor_81 : decode cX0_lookFor 81 = .ok (.dup, 1) := by decide +kernel
theorem dX0_lookFor_82 : decode cX0_lookFor 82 = .ok (.getfield 22, 3) := by decide +kernel
theorem dX0_lookFor_85 : decode cX0_lookFor 85 = .ok (.iload_n 2, 1) := by decide +kernel
theorem dX0_lookFor_86 : decode cX0_lookFor 86 = .ok (.invokestatic 66, 3) := by decide +kernel
theorem dX0_lookFor_89 : decode cX0_lookFor 89 = .ok (.ior, 1) := by decide +kernel
theorem dX0_lookFor_90 : decode cX0_lookFor 90 = .ok (.putfield 22, 3) := by decide +kernel
theorem dX0_lookFor_93 : decode cX0_lookFor 93 = .ok (.aload_n 0, 1) := by decide +kernel
theorem dX0_lookFor_94 : decode cX0_lookFor 94 = .ok (.dup, 1) := by decide +kernel
theorem dX0_lookFor_95 : decode cX0_lookFor 95 = .ok (.getfield 19, 3) := by decide +kernel
theorem dX0_lookFor_98 : decode cX0_lookFor 98 = .ok (.aload_n 1, 1) := by decide +kernel
theorem dX0_lookFor_99 : decode cX0_lookFor 99 = .ok (.getfield 70, 3) := by decide +kernel
theorem dX0_lookFor_102 : decode cX0_lookFor 102 = .ok (.iload_n 2, 1) := by decide +kernel
theorem dX0_lookFor_103 : decode cX0_lookFor 103 = .ok (.invokestatic 48, 3) := by decide +kernel
theorem dX0_lookFor_106 : decode cX0_lookFor 106 = .ok (.iadd, 1) := by decide +kernel
theorem dX0_lookFor_107 : decode cX0_lookFor 107 = .ok (.putfield 19, 3) := by decide +kernel
theorem dX0_lookFor_110 : decode cX0_lookFor 110 = .ok (.iconst 1, 1) := by decide +kernel
theorem dX0_lookFor_111 : decode cX0_lookFor 111 = .ok (.ireturn, 1) := by decide +kernel
theorem dX1_choice_0 : decode cX1_choice 0 = .ok (.aload_n 0, 1) := by decide +kernel
theorem dX1_choice_1 : decode cX1_choice 1 = .ok (.aload_n 1, 1) := by decide +kernel
theorem dX1_choice_2 : decode cX1_choice 2 = .ok (.iload_n 2, 1) := by decide +kernel
theorem dX1_choice_3 : decode cX1_choice 3 = .ok (.iload_n 3, 1) := by decide +kernel
theorem dX1_choice_4 : decode cX1_choice 4 = .ok (.iload 4, 2) := by decide +kernel
theorem dX1_choice_6 : decode cX1_choice 6 = .ok (.invokevirtual 79, 3) := by decide +kernel
theorem dX1_choice_9 : decode cX1_choice 9 = .ok (.lstore 5, 2) := by decide +kernel
theorem dX1_choice_11 : decode cX1_choice 11 = .ok (.lload 5, 2) := by decide +kernel
theorem dX1_choice_13 : decode cX1_choice 13 = .ok (.lconst 0, 1) := by decide +kernel
theorem dX1_choice_14 : decode cX1_choice 14 = .ok (.lcmp, 1) := by decide +kernel
theorem dX1_choice_15 : decode cX1_choice 15 = .ok (.ifCond .gt 6, 3) := by decide +kernel
theorem dX1_choice_18 : decode cX1_choice 18 = .ok (.bipush (-2), 2) := by decide +kernel
theorem dX1_choice_20 : decode cX1_choice 20 = .ok (.ireturn, 1) := by decide +kernel
theorem dX1_choice_21 : decode cX1_choice 21 = .ok (.iconst 0, 1) := by decide +kernel
theorem dX1_choice_22 : decode cX1_choice 22 = .ok (.istore 7, 2) := by decide +kernel
theorem dX1_choice_24 : decode cX1_choice 24 = .ok (.iload 7, 2) := by decide +kernel
theorem dX1_choice_26 : decode cX1_choice 26 = .ok (.aload_n 1, 1) := by decide +kernel
theorem dX1_choice_27 : decode cX1_choice 27 = .ok (.getfield 40, 3) := by decide +kernel
theorem dX1_choice_30 : decode cX1_choice 30 = .ok (.if_icmp .ge 29, 3) := by decide +kernel
theorem dX1_choice_33 : decode cX1_choice 33 = .ok (.aload_n 0, 1) := by decide +kernel
theorem dX1_choice_34 : decode cX1_choice 34 = .ok (.aload_n 1, 1) := by decide +kernel
theorem dX1_choice_35 : decode cX1_choice 35 = .ok (.iload 7, 2) := by decide +kernel
theorem dX1_choice_37 : decode cX1_choice 37 = .ok (.iload_n 2, 1) := by decide +kernel
theorem dX1_choice_38 : decode cX1_choice 38 = .ok (.iload_n 3, 1) := by decide +kernel
theorem dX1_choice_39 : decode cX1_choice 39 = .ok (.iload 4, 2) := by decide +kernel
theorem dX1_choice_41 : decode cX1_choice 41 = .ok (.invokevirtual 43, 3) := by decide +kernel
theorem dX1_choice_44 : decode cX1_choice 44 = .ok (.lload 5, 2) := by decide +kernel
theorem dX1_choice_46 : decode cX1_choice 46 = .ok (.lcmp, 1) := by decide +kernel
theorem dX1_choice_47 : decode cX1_choice 47 = .ok (.ifCond .ne 6, 3) := by decide +kernel
theorem dX1_choice_50 : decode cX1_choice 50 = .ok (.iload 7, 2) := by decide +kernel
theorem dX1_choice_52 : decode cX1_choice 52 = .ok (.ireturn, 1) := by decide +kernel
theorem dX1_choice_53 : decode cX1_choice 53 = .ok (.iinc 7 1, 3) := by decide +kernel
theorem dX1_choice_56 : decode cX1_choice 56 = .ok (.goto (-32), 3) := by decide +kernel
theorem dX1_choice_59 : decode cX1_choice 59 = .ok (.bipush (-2), 2) := by decide +kernel
theorem dX1_choice_61 : decode cX1_choice 61 = .ok (.ireturn, 1) := by decide +kernel
theorem dX1_earnedBy_0 : decode cX1_earnedBy 0 = .ok (.iload 5, 2) := by decide +kernel
theorem dX1_earnedBy_2 : decode cX1_earnedBy 2 = .ok (.aload_n 1, 1) := by decide +kernel
theorem dX1_earnedBy_3 : decode cX1_earnedBy 3 = .ok (.getfield 51, 3) := by decide +kernel
theorem dX1_earnedBy_6 : decode cX1_earnedBy 6 = .ok (.iload_n 2, 1) := by decide +kernel
theorem dX1_earnedBy_7 : decode cX1_earnedBy 7 = .ok (.invokestatic 55, 3) := by decide +kernel
theorem dX1_earnedBy_10 : decode cX1_earnedBy 10 = .ok (.isub, 1) := by decide +kernel
theorem dX1_earnedBy_11 : decode cX1_earnedBy 11 = .ok (.istore 6, 2) := by decide +kernel
theorem dX1_earnedBy_13 : decode cX1_earnedBy 13 = .ok (.iload 6, 2) := by decide +kernel
theorem dX1_earnedBy_15 : decode cX1_earnedBy 15 = .ok (.ifCond .lt 13, 3) := by decide +kernel
theorem dX1_earnedBy_18 : decode cX1_earnedBy 18 = .ok (.aload_n 1, 1) := by decide +kernel
theorem dX1_earnedBy_19 : decode cX1_earnedBy 19 = .ok (.iload_n 2, 1) := by decide +kernel
theorem dX1_earnedBy_20 : decode cX1_earnedBy 20 = .ok (.iload 4, 2) := by decide +kernel
theorem dX1_earnedBy_22 : decode cX1_earnedBy 22 = .ok (.invokevirtual 59, 3) := by decide +kernel
theorem dX1_earnedBy_25 : decode cX1_earnedBy 25 = .ok (.ifCond .ne 7, 3) := by decide +kernel
theorem dX1_earnedBy_28 : decode cX1_earnedBy 28 = .ok (.ldc2_w 63, 3) := by decide +kernel
theorem dX1_earnedBy_31 : decode cX1_earnedBy 31 = .ok (.lreturn, 1) := by decide +kernel
theorem dX1_earnedBy_32 : decode cX1_earnedBy 32 = .ok (.aload_n 1, 1) := by decide +kernel
theorem dX1_earnedBy_33 : decode cX1_earnedBy 33 = .ok (.getfield 65, 3) := by decide +kernel
theorem dX1_earnedBy_36 : decode cX1_earnedBy 36 = .ok (.iload_n 2, 1) := by decide +kernel
theorem dX1_earnedBy_37 : decode cX1_earnedBy 37 = .ok (.invokestatic 55, 3) := by decide +kernel
theorem dX1_earnedBy_40 : decode cX1_earnedBy 40 = .ok (.istore 7, 2) := by decide +kernel
theorem dX1_earnedBy_42 : decode cX1_earnedBy 42 = .ok (.aload_n 1, 1) := by decide +kernel
theorem dX1_earnedBy_43 : decode cX1_earnedBy 43 = .ok (.getfield 68, 3) := by decide +kernel
theorem dX1_earnedBy_46 : decode cX1_earnedBy 46 = .ok (.iload_n 2, 1) := by decide +kernel
theorem dX1_earnedBy_47 : decode cX1_earnedBy 47 = .ok (.invokestatic 55, 3) := by decide +kernel
theorem dX1_earnedBy_50 : decode cX1_earnedBy 50 = .ok (.i2l, 1) := by decide +kernel
theorem dX1_earnedBy_51 : decode cX1_earnedBy 51 = .ok (.iload_n 3, 1) := by decide +kernel
theorem dX1_earnedBy_52 : decode cX1_earnedBy 52 = .ok (.iconst 1, 1) := by decide +kernel
theorem dX1_earnedBy_53 : decode cX1_earnedBy 53 = .ok (.isub, 1) := by decide +kernel
theorem dX1_earnedBy_54 : decode cX1_earnedBy 54 = .ok (.invokestatic 71, 3) := by decide +kernel
theorem dX1_earnedBy_57 : decode cX1_earnedBy 57 = .ok (.lmul, 1) := by decide +kernel
theorem dX1_earnedBy_58 : decode cX1_earnedBy 58 = .ok (.lstore 8, 2) := by decide +kernel
theorem dX1_earnedBy_60 : decode cX1_earnedBy 60 = .ok (.lload 8, 2) := by decide +kernel
theorem dX1_earnedBy_62 : decode cX1_earnedBy 62 = .ok (.aload_n 0, 1) := by decide +kernel
theorem dX1_earnedBy_63 : decode cX1_earnedBy 63 = .ok (.aload_n 1, 1) := by decide +kernel
theorem dX1_earnedBy_64 : decode cX1_earnedBy 64 = .ok (.iload_n 3, 1) := by decide +kernel
theorem dX1_earnedBy_65 : decode cX1_earnedBy 65 = .ok (.iconst 1, 1) := by decide +kernel
theorem dX1_earnedBy_66 : decode cX1_earnedBy 66 = .ok (.isub, 1) := by decide +kernel
theorem dX1_earnedBy_67 : decode cX1_earnedBy 67 = .ok (.iload 4, 2) := by decide +kernel
theorem dX1_earnedBy_69 : decode cX1_earnedBy 69 = .ok (.iload_n 2, 1) := by decide +kernel
theorem dX1_earnedBy_70 : decode cX1_earnedBy 70 = .ok (.invokestatic 75, 3) := by decide +kernel
theorem dX1_earnedBy_73 : decode cX1_earnedBy 73 = .ok (.ior, 1) := by decide +kernel
theorem dX1_earnedBy_74 : decode cX1_earnedBy 74 = .ok (.iload 6, 2) := by decide +kernel
theorem dX1_earnedBy_76 : decode cX1_earnedBy 76 = .ok (.invokevirtual 79, 3) := by decide +kernel
theorem dX1_earnedBy_79 : decode cX1_earnedBy 79 = .ok (.ladd, 1) := by decide +kernel
theorem dX1_earnedBy_80 : decode cX1_earnedBy 80 = .ok (.lstore 10, 2) := by decide +kernel
theorem dX1_earnedBy_82 : decode cX1_earnedBy 82 = .ok (.iload 7, 2) := by decide +kernel
theorem dX1_earnedBy_84 : decode cX1_earnedBy 84 = .ok (.i2l, 1) := by decide +kernel
theorem dX1_earnedBy_85 : decode cX1_earnedBy 85 = .ok (.lload 10, 2) := by decide +kernel
theorem dX1_earnedBy_87 : decode cX1_earnedBy 87 = .ok (.lmul, 1) := by decide +kernel
theorem dX1_earnedBy_88 : decode cX1_earnedBy 88 = .ok (.bipush 100, 2) := by decide +kernel
theorem dX1_earnedBy_90 : decode cX1_earnedBy 90 = .ok (.iload 7, 2) := by decide +kernel
theorem dX1_earnedBy_92 : decode cX1_earnedBy 92 = .ok (.isub, 1) := by decide +kernel
theorem dX1_earnedBy_93 : decode cX1_earnedBy 93 = .ok (.i2l, 1) := by decide +kernel
theorem dX1_earnedBy_94 : decode cX1_earnedBy 94 = .ok (.aload_n 0, 1) := by decide +kernel
theorem dX1_earnedBy_95 : decode cX1_earnedBy 95 = .ok (.aload_n 1, 1) := by decide +kernel
theorem dX1_earnedBy_96 : decode cX1_earnedBy 96 = .ok (.iload_n 3, 1) := by decide +kernel
theorem dX1_earnedBy_97 : decode cX1_earnedBy 97 = .ok (.iconst 1, 1) := by decide +kernel
theorem dX1_earnedBy_98 : decode cX1_earnedBy 98 = .ok (.isub, 1) := by decide +kernel
theorem dX1_earnedBy_99 : decode cX1_earnedBy 99 = .ok (.iload 4, 2) := by decide +kernel
theorem dX1_earnedBy_101 : decode cX1_earnedBy 101 = .ok (.iload 6, 2) := by decide +kernel
theorem dX1_earnedBy_103 : decode cX1_earnedBy 103 = .ok (.invokevirtual 79, 3) := by decide +kernel
theorem dX1_earnedBy_106 : decode cX1_earnedBy 106 = .ok (.lmul, 1) := by decide +kernel
theorem dX1_earnedBy_107 : decode cX1_earnedBy 107 = .ok (.ladd, 1) := by decide +kernel
theorem dX1_earnedBy_108 : decode cX1_earnedBy 108 = .ok (.lreturn, 1) := by decide +kernel
theorem dX1_hiddenMean_0 : decode cX1_hiddenMean 0 = .ok (.aload_n 0, 1) := by decide +kernel
theorem dX1_hiddenMean_1 : decode cX1_hiddenMean 1 = .ok (.aload_n 1, 1) := by decide +kernel
theorem dX1_hiddenMean_2 : decode cX1_hiddenMean 2 = .ok (.iload_n 2, 1) := by decide +kernel
theorem dX1_hiddenMean_3 : decode cX1_hiddenMean 3 = .ok (.iload_n 3, 1) := by decide +kernel
theorem dX1_hiddenMean_4 : decode cX1_hiddenMean 4 = .ok (.iload 4, 2) := by decide +kernel
theorem dX1_hiddenMean_6 : decode cX1_hiddenMean 6 = .ok (.invokevirtual 83, 3) := by decide +kernel
theorem dX1_hiddenMean_9 : decode cX1_hiddenMean 9 = .ok (.istore 5, 2) := by decide +kernel
theorem dX1_hiddenMean_11 : decode cX1_hiddenMean 11 = .ok (.iload 5, 2) := by decide +kernel
theorem dX1_hiddenMean_13 : decode cX1_hiddenMean 13 = .ok (.ifCond .ge 15, 3) := by decide +kernel
theorem dX1_hiddenMean_16 : decode cX1_hiddenMean 16 = .ok (.aload_n 1, 1) := by decide +kernel
theorem dX1_hiddenMean_17 : decode cX1_hiddenMean 17 = .ok (.iload_n 3, 1) := by decide +kernel
theorem dX1_hiddenMean_18 : decode cX1_hiddenMean 18 = .ok (.invokevirtual 87, 3) := by decide +kernel
theorem dX1_hiddenMean_21 : decode cX1_hiddenMean 21 = .ok (.i2l, 1) := by decide +kernel
theorem dX1_hiddenMean_22 : decode cX1_hiddenMean 22 = .ok (.iload_n 2, 1) := by decide +kernel
theorem dX1_hiddenMean_23 : decode cX1_hiddenMean 23 = .ok (.invokestatic 71, 3) := by decide +kernel
theorem dX1_hiddenMean_26 : decode cX1_hiddenMean 26 = .ok (.lmul, 1) := by decide +kernel
theorem dX1_hiddenMean_27 : decode cX1_hiddenMean 27 = .ok (.lreturn, 1) := by decide +kernel
theorem dX1_hiddenMean_28 : decode cX1_hiddenMean 28 = .ok (.iload 4, 2) := by decide +kernel
theorem dX1_hiddenMean_30 : decode cX1_hiddenMean 30 = .ok (.aload_n 1, 1) := by decide +kernel
theorem dX1_hiddenMean_31 : decode cX1_hiddenMean 31 = .ok (.getfield 51, 3) := by decide +kernel
theorem dX1_hiddenMean_34 : decode cX1_hiddenMean 34 = .ok (.iload 5, 2) := by decide +kernel
theorem dX1_hiddenMean_36 : decode cX1_hiddenMean 36 = .ok (.invokestatic 55, 3) := by decide +kernel
theorem dX1_hiddenMean_39 : decode cX1_hiddenMean 39 = .ok (.isub, 1) := by decide +kernel
theorem dX1_hiddenMean_40 : decode cX1_hiddenMean 40 = .ok (.istore 6, 2) := by decide +kernel
theorem dX1_hiddenMean_42 : decode cX1_hiddenMean 42 = .ok (.aload_n 1, 1) := by decide +kernel
theorem dX1_hiddenMean_43 : decode cX1_hiddenMean 43 = .ok (.getfield 65, 3) := by decide +kernel
theorem dX1_hiddenMean_46 : decode cX1_hiddenMean 46 = .ok (.iload 5, 2) := by decide +kernel
theorem dX1_hiddenMean_48 : decode cX1_hiddenMean 48 = .ok (.invokestatic 55, 3) := by decide +kernel
theorem dX1_hiddenMean_51 : decode cX1_hiddenMean 51 = .ok (.istore 7, 2) := by decide +kernel
theorem dX1_hiddenMean_53 : decode cX1_hiddenMean 53 = .ok (.iload 7, 2) := by decide +kernel
theorem dX1_hiddenMean_55 : decode cX1_hiddenMean 55 = .ok (.i2l, 1) := by decide +kernel
theorem dX1_hiddenMean_56 : decode cX1_hiddenMean 56 = .ok (.aload_n 0, 1) := by decide +kernel
theorem dX1_hiddenMean_57 : decode cX1_hiddenMean 57 = .ok (.aload_n 1, 1) := by decide +kernel
theorem dX1_hiddenMean_58 : decode cX1_hiddenMean 58 = .ok (.iload_n 2, 1) := by decide +kernel
theorem dX1_hiddenMean_59 : decode cX1_hiddenMean 59 = .ok (.iconst 1, 1) := by decide +kernel
theorem dX1_hiddenMean_60 : decode cX1_hiddenMean 60 = .ok (.isub, 1) := by decide +kernel
theorem dX1_hiddenMean_61 : decode cX1_hiddenMean 61 = .ok (.iload_n 3, 1) := by decide +kernel
theorem dX1_hiddenMean_62 : decode cX1_hiddenMean 62 = .ok (.iload 5, 2) := by decide +kernel
theorem dX1_hiddenMean_64 : decode cX1_hiddenMean 64 = .ok (.invokestatic 75, 3) := by decide +kernel
theorem dX1_hiddenMean_67 : decode cX1_hiddenMean 67 = .ok (.ior, 1) := by decide +kernel
theorem dX1_hiddenMean_68 : decode cX1_hiddenMean 68 = .ok (.iload 6, 2) := by decide +kernel
theorem dX1_hiddenMean_70 : decode cX1_hiddenMean 70 = .ok (.invokevirtual 90, 3) := by decide +kernel
theorem dX1_hiddenMean_73 : decode cX1_hiddenMean 73 = .ok (.lmul, 1) := by decide +kernel
theorem dX1_hiddenMean_74 : decode cX1_hiddenMean 74 = .ok (.bipush 100, 2) := by decide +kernel
theorem dX1_hiddenMean_76 : decode cX1_hiddenMean 76 = .ok (.iload 7, 2) := by decide +kernel
theorem dX1_hiddenMean_78 : decode cX1_hiddenMean 78 = .ok (.isub, 1) := by decide +kernel
theorem dX1_hiddenMean_79 : decode cX1_hiddenMean 79 = .ok (.i2l, 1) := by decide +kernel
theorem dX1_hiddenMean_80 : decode cX1_hiddenMean 80 = .ok (.aload_n 0, 1) := by decide +kernel
theorem dX1_hiddenMean_81 : decode cX1_hiddenMean 81 = .ok (.aload_n 1, 1) := by decide +kernel
theorem dX1_hiddenMean_82 : decode cX1_hiddenMean 82 = .ok (.iload_n 2, 1) := by decide +kernel
theorem dX1_hiddenMean_83 : decode cX1_hiddenMean 83 = .ok (.iconst 1, 1) := by decide +kernel
theorem dX1_hiddenMean_84 : decode cX1_hiddenMean 84 = .ok (.isub, 1) := by decide +kernel
theorem dX1_hiddenMean_85 : decode cX1_hiddenMean 85 = .ok (.iload_n 3, 1) := by decide +kernel
theorem dX1_hiddenMean_86 : decode cX1_hiddenMean 86 = .ok (.iload 6, 2) := by decide +kernel
theorem dX1_hiddenMean_88 : decode cX1_hiddenMean 88 = .ok (.invokevirtual 90, 3) := by decide +kernel
theorem dX1_hiddenMean_91 : decode cX1_hiddenMean 91 = .ok (.lmul, 1) := by decide +kernel
theorem dX1_hiddenMean_92 : decode cX1_hiddenMean 92 = .ok (.ladd, 1) := by decide +kernel
theorem dX1_hiddenMean_93 : decode cX1_hiddenMean 93 = .ok (.lreturn, 1) := by decide +kernel
theorem dX1_leastFree_0 : decode cX1_leastFree 0 = .ok (.iconst 0, 1) := by decide +kernel
theorem dX1_leastFree_1 : decode cX1_leastFree 1 = .ok (.istore_n 3, 1) := by decide +kernel
theorem dX1_leastFree_2 : decode cX1_leastFree 2 = .ok (.iconst 0, 1) := by decide +kernel
theorem dX1_leastFree_3 : decode cX1_leastFree 3 = .ok (.istore 4, 2) := by decide +kernel
theorem dX1_leastFree_5 : decode cX1_leastFree 5 = .ok (.iload 4, 2) := by decide +kernel
theorem dX1_leastFree_7 : decode cX1_leastFree 7 = .ok (.aload_n 1, 1) := by decide +kernel
theorem dX1_leastFree_8 : decode cX1_leastFree 8 = .ok (.getfield 40, 3) := by decide +kernel
theorem dX1_leastFree_11 : decode cX1_leastFree 11 = .ok (.if_icmp .ge 35, 3) := by decide +kernel
theorem dX1_leastFree_14 : decode cX1_leastFree 14 = .ok (.iload_n 3, 1) := by decide +kernel
theorem dX1_leastFree_15 : decode cX1_leastFree 15 = .ok (.invokestatic 107, 3) := by decide +kernel
theorem dX1_leastFree_18 : decode cX1_leastFree 18 = .ok (.bipush 6, 2) := by decide +kernel
theorem dX1_leastFree_20 : decode cX1_leastFree 20 = .ok (.if_icmp .ge 26, 3) := by decide +kernel
theorem dX1_leastFree_23 : decode cX1_leastFree 23 = .ok (.iload_n 2, 1) := by decide +kernel
theorem dX1_leastFree_24 : decode cX1_leastFree 24 = .ok (.iload 4, 2) := by decide +kernel
theorem dX1_leastFree_26 : decode cX1_leastFree 26 = .ok (.invokestatic 112, 3) := by decide +kernel
theorem dX1_leastFree_29 : decode cX1_leastFree 29 = .ok (.ifCond .ne 11, 3) := by decide +kernel
theorem dX1_leastFree_32 : decode cX1_leastFree 32 = .ok (.iload_n 3, 1) := by decide +kernel
theorem dX1_leastFree_33 : decode cX1_leastFree 33 = .ok (.iload 4, 2) := by decide +kernel
theorem dX1_leastFree_35 : decode cX1_leastFree 35 = .ok (.invokestatic 75, 3) := by decide +kernel
theorem dX1_leastFree_38 : decode cX1_leastFree 38 = .ok (.ior, 1) := by decide +kernel
theorem dX1_leastFree_39 : decode cX1_leastFree 39 = .ok (.istore_n 3, 1) := by decide +kernel
theorem dX1_leastFree_40 : decode cX1_leastFree 40 = .ok (.iinc 4 1, 3) := by decide +kernel
theorem dX1_leastFree_43 : decode cX1_leastFree 43 = .ok (.goto (-38), 3) := by decide +kernel
theorem dX1_leastFree_46 : decode cX1_leastFree 46 = .ok (.iload_n 3, 1) := by decide +kernel
theorem dX1_leastFree_47 : decode cX1_leastFree 47 = .ok (.ireturn, 1) := by decide +kernel
theorem dX1_mostEarned_0 : decode cX1_mostEarned 0 = .ok (.iload_n 2, 1) := by decide +kernel
theorem dX1_mostEarned_1 : decode cX1_mostEarned 1 = .ok (.iconst 1, 1) := by decide +kernel
theorem dX1_mostEarned_2 : decode cX1_mostEarned 2 = .ok (.if_icmp .gt 21, 3) := by decide +kernel
theorem dX1_mostEarned_5 : decode cX1_mostEarned 5 = .ok (.iload_n 2, 1) := by decide +kernel
theorem dX1_mostEarned_6 : decode cX1_mostEarned 6 = .ok (.iconst 1, 1) := by decide +kernel
theorem dX1_mostEarned_7 : decode cX1_mostEarned 7 = .ok (.if_icmp .ne 14, 3) := by decide +kernel
theorem dX1_mostEarned_10 : decode cX1_mostEarned 10 = .ok (.aload_n 1, 1) := by decide +kernel
theorem dX1_mostEarned_11 : decode cX1_mostEarned 11 = .ok (.iload_n 3, 1) := by decide +kernel
theorem dX1_mostEarned_12 : decode cX1_mostEarned 12 = .ok (.iload 4, 2) := by decide +kernel
theorem dX1_mostEarned_14 : decode cX1_mostEarned 14 = .ok (.invokevirtual 18, 3) := by decide +kernel
theorem dX1_mostEarned_17 : decode cX1_mostEarned 17 = .ok (.i2l, 1) := by decide +kernel
theorem dX1_mostEarned_18 : decode cX1_mostEarned 18 = .ok (.goto 4, 3) := by decide +kernel
theorem dX1_mostEarned_21 : decode cX1_mostEarned 21 = .ok (.lconst 0, 1) := by decide +kernel
theorem dX1_mostEarned_22 : decode cX1_mostEarned 22 = .ok (.lreturn, 1) := by decide +kernel
theorem dX1_mostEarned_23 : decode cX1_mostEarned 23 = .ok (.iload 4, 2) := by decide +kernel
theorem dX1_mostEarned_25 : decode cX1_mostEarned 25 = .ok (.iload_n 2, 1) := by decide +kernel
theorem dX1_mostEarned_26 : decode cX1_mostEarned 26 = .ok (.aload_n 1, 1) := by decide +kernel
theorem dX1_mostEarned_27 : decode cX1_mostEarned 27 = .ok (.getfield 24, 3) := by decide +kernel
theorem dX1_mostEarned_30 : decode cX1_mostEarned 30 = .ok (.imul, 1) := by decide +kernel
theorem dX1_mostEarned_31 : decode cX1_mostEarned 31 = .ok (.invokestatic 28, 3) := by decide +kernel
theorem dX1_mostEarned_34 : decode cX1_mostEarned 34 = .ok (.istore 5, 2) := by decide +kernel
theorem dX1_mostEarned_36 : decode cX1_mostEarned 36 = .ok (.aload_n 1, 1) := by decide +kernel
theorem dX1_mostEarned_37 : decode cX1_mostEarned 37 = .ok (.getfield 33, 3) := by decide +kernel
theorem dX1_mostEarned_40 : decode cX1_mostEarned 40 = .ok (.i2l, 1) := by decide +kernel
theorem dX1_mostEarned_41 : decode cX1_mostEarned 41 = .ok (.ldc2_w 36, 3) := by decide +kernel
theorem dX1_mostEarned_44 : decode cX1_mostEarned 44 = .ok (.lmul, 1) := by decide +kernel
theorem dX1_mostEarned_45 : decode cX1_mostEarned 45 = .ok (.iload_n 2, 1) := by decide +kernel
theorem dX1_mostEarned_46 : decode cX1_mostEarned 46 = .ok (.i2l, 1) := by decide +kernel
theorem dX1_mostEarned_47 : decode cX1_mostEarned 47 = .ok (.ladd, 1) := by decide +kernel
theorem dX1_mostEarned_48 : decode cX1_mostEarned 48 = .ok (.bipush 19, 2) := by decide +kernel
theorem dX1_mostEarned_50 : decode cX1_mostEarned 50 = .ok (.lshl, 1) := by decide +kernel
theorem dX1_mostEarned_51 : decode cX1_mostEarned 51 = .ok (.iload_n 3, 1) := by decide +kernel
theorem dX1_mostEarned_52 : decode cX1_mostEarned 52 = .ok (.bipush 9, 2) := by decide +kernel
theorem dX1_mostEarned_54 : decode cX1_mostEarned 54 = .ok (.ishl, 1) := by decide +kernel
theorem dX1_mostEarned_55 : decode cX1_mostEarned 55 = .ok (.i2l, 1) := by decide +kernel
theorem dX1_mostEarned_56 : decode cX1_mostEarned 56 = .ok (.lor, 1) := by decide +kernel
theorem dX1_mostEarned_57 : decode cX1_mostEarned 57 = .ok (.iload 5, 2) := by decide +kernel
theorem dX1_mostEarned_59 : decode cX1_mostEarned 59 = .ok (.i2l, 1) := by decide +kernel
theorem dX1_mostEarned_60 : decode cX1_mostEarned 60 = .ok (.lor, 1) := by decide +kernel
theorem dX1_mostEarned_61 : decode cX1_mostEarned 61 = .ok (.lstore 6, 2) := by decide +kernel
theorem dX1_mostEarned_63 : decode cX1_mostEarned 63 = .ok (.lload 6, 2) := by decide +kernel
theorem dX1_mostEarned_65 : decode cX1_mostEarned 65 = .ok (.ldc2_w 38, 3) := by decide +kernel
theorem dX1_mostEarned_68 : decode cX1_mostEarned 68 = .ok (.lmul, 1) := by decide +kernel
theorem dX1_mostEarned_69 : decode cX1_mostEarned 69 = .ok (.bipush 53, 2) := by decide +kernel
theorem dX1_mostEarned_71 : decode cX1_mostEarned 71 = .ok (.lushr, 1) := by decide +kernel
theorem dX1_mostEarned_72 : decode cX1_mostEarned 72 = .ok (.l2i, 1) := by decide +kernel
theorem dX1_mostEarned_73 : decode cX1_mostEarned 73 = .ok (.sipush 2047, 3) := by decide +kernel
theorem dX1_mostEarned_76 : decode cX1_mostEarned 76 = .ok (.iand, 1) := by decide +kernel
theorem dX1_mostEarned_77 : decode cX1_mostEarned 77 = .ok (.istore 8, 2) := by decide +kernel
theorem dX1_mostEarned_79 : decode cX1_mostEarned 79 = .ok (.aload_n 0, 1) := by decide +kernel
theorem dX1_mostEarned_80 : decode cX1_mostEarned 80 = .ok (.getfield 11, 3) := by decide +kernel
theorem dX1_mostEarned_83 : decode cX1_mostEarned 83 = .ok (.iload 8, 2) := by decide +kernel
theorem dX1_mostEarned_85 : decode cX1_mostEarned 85 = .ok (.laload, 1) := by decide +kernel
theorem dX1_mostEarned_86 : decode cX1_mostEarned 86 = .ok (.lload 6, 2) := by decide +kernel
theorem dX1_mostEarned_88 : decode cX1_mostEarned 88 = .ok (.lcmp, 1) := by decide +kernel
theorem dX1_mostEarned_89 : decode cX1_mostEarned 89 = .ok (.ifCond .ne 11, 3) := by decide +kernel
theorem dX1_mostEarned_92 : decode cX1_mostEarned 92 = .ok (.aload_n 0, 1) := by decide +kernel
theorem dX1_mostEarned_93 : decode cX1_mostEarned 93 = .ok (.getfield 15, 3) := by decide +kernel
theorem dX1_mostEarned_96 : decode cX1_mostEarned 96 = .ok (.iload 8, 2) := by decide +kernel
theorem dX1_mostEarned_98 : decode cX1_mostEarned 98 = .ok (.laload, 1) := by decide +kernel
theorem dX1_mostEarned_99 : decode cX1_mostEarned 99 = .ok (.lreturn, 1) := by decide +kernel
theorem dX1_mostEarned_100 : decode cX1_mostEarned 100 = .ok (.lconst 0, 1) := by decide +kernel
theorem dX1_mostEarned_101 : decode cX1_mostEarned 101 = .ok (.lstore 9, 2) := by decide +kernel
theorem dX1_mostEarned_103 : decode cX1_mostEarned 103 = .ok (.iconst 0, 1) := by decide +kernel
theorem dX1_mostEarned_104 : decode cX1_mostEarned 104 = .ok (.istore 11, 2) := by decide +kernel
theorem dX1_mostEarned_106 : decode cX1_mostEarned 106 = .ok (.iload 11, 2) := by decide +kernel
theorem dX1_mostEarned_108 : decode cX1_mostEarned 108 = .ok (.aload_n 1, 1) := by decide +kernel
theorem dX1_mostEarned_109 : decode cX1_mostEarned 109 = .ok (.getfield 40, 3) := by decide +kernel
theorem dX1_mostEarned_112 : decode cX1_mostEarned 112 = .ok (.if_icmp .ge 27, 3) := by decide +kernel
theorem dX1_mostEarned_115 : decode cX1_mostEarned 115 = .ok (.lload 9, 2) := by decide +kernel
theorem dX1_mostEarned_117 : decode cX1_mostEarned 117 = .ok (.aload_n 0, 1) := by decide +kernel
theorem dX1_mostEarned_118 : decode cX1_mostEarned 118 = .ok (.aload_n 1, 1) := by decide +kernel
theorem dX1_mostEarned_119 : decode cX1_mostEarned 119 = .ok (.iload 11, 2) := by decide +kernel
theorem dX1_mostEarned_121 : decode cX1_mostEarned 121 = .ok (.iload_n 2, 1) := by decide +kernel
theorem dX1_mostEarned_122 : decode cX1_mostEarned 122 = .ok (.iload_n 3, 1) := by decide +kernel
theorem dX1_mostEarned_123 : decode cX1_mostEarned 123 = .ok (.iload 5, 2) := by decide +kernel
theorem dX1_mostEarned_125 : decode cX1_mostEarned 125 = .ok (.invokevirtual 43, 3) := by decide +kernel
theorem dX1_mostEarned_128 : decode cX1_mostEarned 128 = .ok (.invokestatic 47, 3) := by decide +kernel
theorem dX1_mostEarned_131 : decode cX1_mostEarned 131 = .ok (.lstore 9, 2) := by decide +kernel
theorem dX1_mostEarned_133 : decode cX1_mostEarned 133 = .ok (.iinc 11 1, 3) := by decide +kernel
theorem dX1_mostEarned_136 : decode cX1_mostEarned 136 = .ok (.goto (-30), 3) := by decide +kernel
theorem dX1_mostEarned_139 : decode cX1_mostEarned 139 = .ok (.aload_n 0, 1) := by decide +kernel
theorem dX1_mostEarned_140 : decode cX1_mostEarned 140 = .ok (.getfield 11, 3) := by decide +kernel
theorem dX1_mostEarned_143 : decode cX1_mostEarned 143 = .ok (.iload 8, 2) := by decide +kernel
theorem dX1_mostEarned_145 : decode cX1_mostEarned 145 = .ok (.lload 6, 2) := by decide +kernel
theorem dX1_mostEarned_147 : decode cX1_mostEarned 147 = .ok (.lastore, 1) := by decide +kernel
theorem dX1_mostEarned_148 : decode cX1_mostEarned 148 = .ok (.aload_n 0, 1) := by decide +kernel
theorem dX1_mostEarned_149 : decode cX1_mostEarned 149 = .ok (.getfield 15, 3) := by decide +kernel
theorem dX1_mostEarned_152 : decode cX1_mostEarned 152 = .ok (.iload 8, 2) := by decide +kernel
theorem dX1_mostEarned_154 : decode cX1_mostEarned 154 = .ok (.lload 9, 2) := by decide +kernel
theorem dX1_mostEarned_156 : decode cX1_mostEarned 156 = .ok (.lastore, 1) := by decide +kernel
theorem dX1_mostEarned_157 : decode cX1_mostEarned 157 = .ok (.lload 9, 2) := by decide +kernel
theorem dX1_mostEarned_159 : decode cX1_mostEarned 159 = .ok (.lreturn, 1) := by decide +kernel
theorem dX1_weighSets_0 : decode cX1_weighSets 0 = .ok (.aload_n 0, 1) := by decide +kernel
theorem dX1_weighSets_1 : decode cX1_weighSets 1 = .ok (.aload_n 1, 1) := by decide +kernel
theorem dX1_weighSets_2 : decode cX1_weighSets 2 = .ok (.iload_n 3, 1) := by decide +kernel
theorem dX1_weighSets_3 : decode cX1_weighSets 3 = .ok (.invokevirtual 93, 3) := by decide +kernel
theorem dX1_weighSets_6 : decode cX1_weighSets 6 = .ok (.istore 5, 2) := by decide +kernel
theorem dX1_weighSets_8 : decode cX1_weighSets 8 = .ok (.aload_n 0, 1) := by decide +kernel
theorem dX1_weighSets_9 : decode cX1_weighSets 9 = .ok (.iconst 0, 1) := by decide +kernel
theorem dX1_weighSets_10 : decode cX1_weighSets 10 = .ok (.putfield 97, 3) := by decide +kernel
theorem dX1_weighSets_13 : decode cX1_weighSets 13 = .ok (.aload_n 0, 1) := by decide +kernel
theorem dX1_weighSets_14 : decode cX1_weighSets 14 = .ok (.aload_n 0, 1) := by decide +kernel
theorem dX1_weighSets_15 : decode cX1_weighSets 15 = .ok (.aload_n 1, 1) := by decide +kernel
theorem dX1_weighSets_16 : decode cX1_weighSets 16 = .ok (.iload_n 2, 1) := by decide +kernel
theorem dX1_weighSets_17 : decode cX1_weighSets 17 = .ok (.iload_n 3, 1) := by decide +kernel
theorem dX1_weighSets_18 : decode cX1_weighSets 18 = .ok (.iload 4, 2) := by decide +kernel
theorem dX1_weighSets_20 : decode cX1_weighSets 20 = .ok (.invokevirtual 90, 3) := by decide +kernel
theorem dX1_weighSets_23 : decode cX1_weighSets 23 = .ok (.putfield 100, 3) := by decide +kernel
theorem dX1_weighSets_26 : decode cX1_weighSets 26 = .ok (.iconst 1, 1) := by decide +kernel
theorem dX1_weighSets_27 : decode cX1_weighSets 27 = .ok (.istore 6, 2) := by decide +kernel
theorem dX1_weighSets_29 : decode cX1_weighSets 29 = .ok (.iload 6, 2) := by decide +kernel
theorem dX1_weighSets_31 : decode cX1_weighSets 31 = .ok (.iload 5, 2) := by decide +kernel
theorem dX1_weighSets_33 : decode cX1_weighSets 33 = .ok (.if_icmp .gt 105, 3) := by decide +kernel
theorem dX1_weighSets_36 : decode cX1_weighSets 36 = .ok (.iload 6, 2) := by decide +kernel
theorem dX1_weighSets_38 : decode cX1_weighSets 38 = .ok (.iload 5, 2) := by decide +kernel
theorem dX1_weighSets_40 : decode cX1_weighSets 40 = .ok (.iconst (-1), 1) := by decide +kernel
theorem dX1_weighSets_41 : decode cX1_weighSets 41 = .ok (.ixor, 1) := by decide +kernel
theorem dX1_weighSets_42 : decode cX1_weighSets 42 = .ok (.iand, 1) := by decide +kernel
theorem dX1_weighSets_43 : decode cX1_weighSets 43 = .ok (.ifCond .ne 89, 3) := by decide +kernel
theorem dX1_weighSets_46 : decode cX1_weighSets 46 = .ok (.aload_n 0, 1) := by decide +kernel
theorem dX1_weighSets_47 : decode cX1_weighSets 47 = .ok (.aload_n 1, 1) := by decide +kernel
theorem dX1_weighSets_48 : decode cX1_weighSets 48 = .ok (.iload_n 2, 1) := by decide +kernel
theorem dX1_weighSets_49 : decode cX1_weighSets 49 = .ok (.iload_n 3, 1) := by decide +kernel
theorem dX1_weighSets_50 : decode cX1_weighSets 50 = .ok (.iload 6, 2) := by decide +kernel
theorem dX1_weighSets_52 : decode cX1_weighSets 52 = .ok (.ior, 1) := by decide +kernel
theorem dX1_weighSets_53 : decode cX1_weighSets 53 = .ok (.iload 4, 2) := by decide +kernel
theorem dX1_weighSets_55 : decode cX1_weighSets 55 = .ok (.invokevirtual 90, 3) := by decide +kernel
theorem dX1_weighSets_58 : decode cX1_weighSets 58 = .ok (.aload_n 1, 1) := by decide +kernel
theorem dX1_weighSets_59 : decode cX1_weighSets 59 = .ok (.iload 6, 2) := by decide +kernel
theorem dX1_weighSets_61 : decode cX1_weighSets 61 = .ok (.invokevirtual 104, 3) := by decide +kernel
theorem dX1_weighSets_64 : decode cX1_weighSets 64 = .ok (.i2l, 1) := by decide +kernel
theorem dX1_weighSets_65 : decode cX1_weighSets 65 = .ok (.iload_n 2, 1) := by decide +kernel
theorem dX1_weighSets_66 : decode cX1_weighSets 66 = .ok (.invokestatic 71, 3) := by decide +kernel
theorem dX1_weighSets_69 : decode cX1_weighSets 69 = .ok (.lmul, 1) := by decide +kernel
theorem dX1_weighSets_70 : decode cX1_weighSets 70 = .ok (.lsub, 1) := by decide +kernel
theorem dX1_weighSets_71 : decode cX1_weighSets 71 = .ok (.lstore 7, 2) := by decide +kernel
theorem dX1_weighSets_73 : decode cX1_weighSets 73 = .ok (.iload 6, 2) := by decide +kernel
theorem dX1_weighSets_75 : decode cX1_weighSets 75 = .ok (.invokestatic 107, 3) := by decide +kernel
theorem dX1_weighSets_78 : decode cX1_weighSets 78 = .ok (.aload_n 0, 1) := by decide +kernel
theorem dX1_weighSets_79 : decode cX1_weighSets 79 = .ok (.getfield 97, 3) := by decide +kernel
theorem dX1_weighSets_82 : decode cX1_weighSets 82 = .ok (.invokestatic 107, 3) := by decide +kernel
theorem dX1_weighSets_85 : decode cX1_weighSets 85 = .ok (.if_icmp .ge 7, 3) := by decide +kernel
theorem dX1_weighSets_88 : decode cX1_weighSets 88 = .ok (.iconst 1, 1) := by decide +kernel
theorem dX1_weighSets_89 : decode cX1_weighSets 89 = .ok (.goto 4, 3) := by decide +kernel
theorem dX1_weighSets_92 : decode cX1_weighSets 92 = .ok (.iconst 0, 1) := by decide +kernel
theorem dX1_weighSets_93 : decode cX1_weighSets 93 = .ok (.istore 9, 2) := by decide +kernel
theorem dX1_weighSets_95 : decode cX1_weighSets 95 = .ok (.lload 7, 2) := by decide +kernel
theorem dX1_weighSets_97 : decode cX1_weighSets 97 = .ok (.aload_n 0, 1) := by decide +kernel
theorem dX1_weighSets_98 : decode cX1_weighSets 98 = .ok (.getfield 100, 3) := by decide +kernel
theorem dX1_weighSets_101 : decode cX1_weighSets 101 = .ok (.lcmp, 1) := by decide +kernel
theorem dX1_weighSets_102 : decode cX1_weighSets 102 = .ok (.ifCond .gt 18, 3) := by decide +kernel
theorem dX1_weighSets_105 : decode cX1_weighSets 105 = .ok (.lload 7, 2) := by decide +kernel
theorem dX1_weighSets_107 : decode cX1_weighSets 107 = .ok (.aload_n 0, 1) := by decide +kernel
theorem dX1_weighSets_108 : decode cX1_weighSets 108 = .ok (.getfield 100, 3) := by decide +kernel
