theorem dX8_feed_25 : decode cX8_feed 25 = .ok (.aload_n 0, 1) := by decide +kernel
theorem dX8_feed_26 : decode cX8_feed 26 = .ok (.iload_n 3, 1) := by decide +kernel
theorem dX8_feed_27 : decode cX8_feed 27 = .ok (.invokevirtual 75, 3) := by decide +kernel
theorem dX8_feed_30 : decode cX8_feed 30 = .ok (.aload_n 0, 1) := by decide +kernel
theorem dX8_feed_31 : decode cX8_feed 31 = .ok (.iload 4, 2) := by decide +kernel
theorem dX8_feed_33 : decode cX8_feed 33 = .ok (.invokevirtual 75, 3) := by decide +kernel
theorem dX8_feed_36 : decode cX8_feed 36 = .ok (.aload_n 0, 1) := by decide +kernel
theorem dX8_feed_37 : decode cX8_feed 37 = .ok (.iload 5, 2) := by decide +kernel
theorem dX8_feed_39 : decode cX8_feed 39 = .ok (.invokevirtual 75, 3) := by decide +kernel
theorem dX8_feed_42 : decode cX8_feed 42 = .ok (.aload_n 0, 1) := by decide +kernel
theorem dX8_feed_43 : decode cX8_feed 43 = .ok (.getfield 13, 3) := by decide +kernel
theorem dX8_feed_46 : decode cX8_feed 46 = .ok (.ireturn, 1) := by decide +kernel
theorem dX8_fine_0 : decode cX8_fine 0 = .ok (.aload_n 0, 1) := by decide +kernel
theorem dX8_fine_1 : decode cX8_fine 1 = .ok (.invokevirtual 213, 3) := by decide +kernel
theorem dX8_fine_4 : decode cX8_fine 4 = .ok (.ifCond .eq 14, 3) := by decide +kernel
theorem dX8_fine_18 : decode cX8_fine 18 = .ok (.ldc 208, 2) := by decide +kernel
theorem dX8_fine_20 : decode cX8_fine 20 = .ok (.ireturn, 1) := by decide +kernel
theorem dX8_fits_0 : decode cX8_fits 0 = .ok (.aload_n 0, 1) := by decide +kernel
theorem dX8_fits_1 : decode cX8_fits 1 = .ok (.invokevirtual 213, 3) := by decide +kernel
theorem dX8_fits_4 : decode cX8_fits 4 = .ok (.ifCond .eq 23, 3) := by decide +kernel
theorem dX8_fits_27 : decode cX8_fits 27 = .ok (.iconst (-1), 1) := by decide +kernel
theorem dX8_fits_28 : decode cX8_fits 28 = .ok (.ireturn, 1) := by decide +kernel
theorem dX8_game_0 : decode cX8_game 0 = .ok (.iload_n 1, 1) := by decide +kernel
theorem dX8_game_1 : decode cX8_game 1 = .ok (.ifCond .lt 27, 3) := by decide +kernel
theorem dX8_game_4 : decode cX8_game 4 = .ok (.iload_n 1, 1) := by decide +kernel
theorem dX8_game_5 : decode cX8_game 5 = .ok (.aload_n 0, 1) := by decide +kernel
theorem dX8_game_6 : decode cX8_game 6 = .ok (.getfield 39, 3) := by decide +kernel
theorem dX8_game_9 : decode cX8_game 9 = .ok (.getfield 283, 3) := by decide +kernel
theorem dX8_game_12 : decode cX8_game 12 = .ok (.arraylength, 1) := by decide +kernel
theorem dX8_game_13 : decode cX8_game 13 = .ok (.if_icmp .ge 15, 3) := by decide +kernel
theorem dX8_game_16 : decode cX8_game 16 = .ok (.iload_n 2, 1) := by decide +kernel
theorem dX8_game_17 : decode cX8_game 17 = .ok (.bipush (-99), 2) := by decide +kernel
theorem dX8_game_19 : decode cX8_game 19 = .ok (.if_icmp .lt 9, 3) := by decide +kernel
theorem dX8_game_22 : decode cX8_game 22 = .ok (.iload_n 2, 1) := by decide +kernel
theorem dX8_game_23 : decode cX8_game 23 = .ok (.bipush 99, 2) := by decide +kernel
theorem dX8_game_25 : decode cX8_game 25 = .ok (.if_icmp .le 7, 3) := by decide +kernel
theorem dX8_game_28 : decode cX8_game 28 = .ok (.sipush (-1000), 3) := by decide +kernel
theorem dX8_game_31 : decode cX8_game 31 = .ok (.ireturn, 1) := by decide +kernel
theorem dX8_game_32 : decode cX8_game 32 = .ok (.aload_n 0, 1) := by decide +kernel
theorem dX8_game_33 : decode cX8_game 33 = .ok (.getfield 39, 3) := by decide +kernel
theorem dX8_game_36 : decode cX8_game 36 = .ok (.getfield 283, 3) := by decide +kernel
theorem dX8_game_39 : decode cX8_game 39 = .ok (.iload_n 1, 1) := by decide +kernel
theorem dX8_game_40 : decode cX8_game 40 = .ok (.iaload, 1) := by decide +kernel
theorem dX8_game_41 : decode cX8_game 41 = .ok (.istore_n 3, 1) := by decide +kernel
theorem dX8_game_42 : decode cX8_game 42 = .ok (.aload_n 0, 1) := by decide +kernel
theorem dX8_game_43 : decode cX8_game 43 = .ok (.getfield 39, 3) := by decide +kernel
theorem dX8_game_46 : decode cX8_game 46 = .ok (.getfield 283, 3) := by decide +kernel
theorem dX8_game_49 : decode cX8_game 49 = .ok (.iload_n 1, 1) := by decide +kernel
theorem dX8_game_50 : decode cX8_game 50 = .ok (.iload_n 2, 1) := by decide +kernel
theorem dX8_game_51 : decode cX8_game 51 = .ok (.iastore, 1) := by decide +kernel
theorem dX8_game_52 : decode cX8_game 52 = .ok (.iload_n 3, 1) := by decide +kernel
theorem dX8_game_53 : decode cX8_game 53 = .ok (.ireturn, 1) := by decide +kernel
theorem dX8_hasWork_0 : decode cX8_hasWork 0 = .ok (.aload_n 0, 1) := by decide +kernel
theorem dX8_hasWork_1 : decode cX8_hasWork 1 = .ok (.getfield 39, 3) := by decide +kernel
theorem dX8_hasWork_4 : decode cX8_hasWork 4 = .ok (.getfield 119, 3) := by decide +kernel
theorem dX8_hasWork_7 : decode cX8_hasWork 7 = .ok (.getfield 102, 3) := by decide +kernel
theorem dX8_hasWork_10 : decode cX8_hasWork 10 = .ok (.ifCond .le 7, 3) := by decide +kernel
theorem dX8_hasWork_17 : decode cX8_hasWork 17 = .ok (.iconst 0, 1) := by decide +kernel
theorem dX8_hasWork_18 : decode cX8_hasWork 18 = .ok (.ireturn, 1) := by decide +kernel
theorem dX8_image_0 : decode cX8_image 0 = .ok (.iload_n 1, 1) := by decide +kernel
theorem dX8_image_1 : decode cX8_image 1 = .ok (.ifCond .lt 12, 3) := by decide +kernel
theorem dX8_image_4 : decode cX8_image 4 = .ok (.iload_n 1, 1) := by decide +kernel
theorem dX8_image_5 : decode cX8_image 5 = .ok (.aload_n 0, 1) := by decide +kernel
theorem dX8_image_6 : decode cX8_image 6 = .ok (.getfield 43, 3) := by decide +kernel
theorem dX8_image_9 : decode cX8_image 9 = .ok (.arraylength, 1) := by decide +kernel
theorem dX8_image_10 : decode cX8_image 10 = .ok (.if_icmp .lt 5, 3) := by decide +kernel
theorem dX8_image_13 : decode cX8_image 13 = .ok (.iconst (-1), 1) := by decide +kernel
theorem dX8_image_14 : decode cX8_image 14 = .ok (.ireturn, 1) := by decide +kernel
theorem dX8_image_15 : decode cX8_image 15 = .ok (.aload_n 0, 1) := by decide +kernel
theorem dX8_image_16 : decode cX8_image 16 = .ok (.getfield 43, 3) := by decide +kernel
theorem dX8_image_19 : decode cX8_image 19 = .ok (.iload_n 1, 1) := by decide +kernel
theorem dX8_image_20 : decode cX8_image 20 = .ok (.aaload, 1) := by decide +kernel
theorem dX8_image_21 : decode cX8_image 21 = .ok (.astore_n 2, 1) := by decide +kernel
theorem dX8_image_22 : decode cX8_image 22 = .ok (.aload_n 2, 1) := by decide +kernel
theorem dX8_image_23 : decode cX8_image 23 = .ok (.ifnonnull 25, 3) := by decide +kernel
theorem dX8_image_26 : decode cX8_image 26 = .ok (.new 29, 3) := by decide +kernel
theorem dX8_image_29 : decode cX8_image 29 = .ok (.dup, 1) := by decide +kernel
theorem dX8_image_30 : decode cX8_image 30 = .ok (.aload_n 0, 1) := by decide +kernel
theorem dX8_image_31 : decode cX8_image 31 = .ok (.getfield 39, 3) := by decide +kernel
theorem dX8_image_34 : decode cX8_image 34 = .ok (.getfield 119, 3) := by decide +kernel
theorem dX8_image_37 : decode cX8_image 37 = .ok (.invokespecial 36, 3) := by decide +kernel
theorem dX8_image_40 : decode cX8_image 40 = .ok (.astore_n 2, 1) := by decide +kernel
theorem dX8_image_41 : decode cX8_image 41 = .ok (.aload_n 0, 1) := by decide +kernel
theorem dX8_image_42 : decode cX8_image 42 = .ok (.getfield 43, 3) := by decide +kernel
theorem dX8_image_45 : decode cX8_image 45 = .ok (.iload_n 1, 1) := by decide +kernel
theorem dX8_image_46 : decode cX8_image 46 = .ok (.aload_n 2, 1) := by decide +kernel
theorem dX8_image_47 : decode cX8_image 47 = .ok (.aastore, 1) := by decide +kernel
theorem dX8_image_48 : decode cX8_image 48 = .ok (.aload_n 2, 1) := by decide +kernel
theorem dX8_image_49 : decode cX8_image 49 = .ok (.aload_n 0, 1) := by decide +kernel
theorem dX8_image_50 : decode cX8_image 50 = .ok (.getfield 39, 3) := by decide +kernel
theorem dX8_image_53 : decode cX8_image 53 = .ok (.invokevirtual 300, 3) := by decide +kernel
theorem dX8_image_56 : decode cX8_image 56 = .ok (.aload_n 0, 1) := by decide +kernel
theorem dX8_image_57 : decode cX8_image 57 = .ok (.getfield 39, 3) := by decide +kernel
theorem dX8_image_60 : decode cX8_image 60 = .ok (.getfield 193, 3) := by decide +kernel
theorem dX8_image_63 : decode cX8_image 63 = .ok (.ireturn, 1) := by decide +kernel
theorem dX8_init_0 : decode cX8_init 0 = .ok (.aload_n 0, 1) := by decide +kernel
theorem dX8_init_1 : decode cX8_init 1 = .ok (.invokespecial 1, 3) := by decide +kernel
theorem dX8_init_4 : decode cX8_init 4 = .ok (.aload_n 0, 1) := by decide +kernel
theorem dX8_init_5 : decode cX8_init 5 = .ok (.sipush 400, 3) := by decide +kernel
theorem dX8_init_8 : decode cX8_init 8 = .ok (.newarray .int, 2) := by decide +kernel
theorem dX8_init_10 : decode cX8_init 10 = .ok (.putfield 9, 3) := by decide +kernel
theorem dX8_init_13 : decode cX8_init 13 = .ok (.aload_n 0, 1) := by decide +kernel
theorem dX8_init_14 : decode cX8_init 14 = .ok (.iconst 0, 1) := by decide +kernel
theorem dX8_init_15 : decode cX8_init 15 = .ok (.putfield 13, 3) := by decide +kernel
theorem dX8_init_18 : decode cX8_init 18 = .ok (.aload_n 0, 1) := by decide +kernel
theorem dX8_init_19 : decode cX8_init 19 = .ok (.bipush 6, 2) := by decide +kernel
theorem dX8_init_21 : decode cX8_init 21 = .ok (.anewarray 17, 3) := by decide +kernel
theorem dX8_init_24 : decode cX8_init 24 = .ok (.putfield 19, 3) := by decide +kernel
theorem dX8_init_27 : decode cX8_init 27 = .ok (.aload_n 0, 1) := by decide +kernel
theorem dX8_init_28 : decode cX8_init 28 = .ok (.iconst 0, 1) := by decide +kernel
theorem dX8_init_29 : decode cX8_init 29 = .ok (.putfield 23, 3) := by decide +kernel
theorem dX8_init_32 : decode cX8_init 32 = .ok (.aload_n 0, 1) := by decide +kernel
theorem dX8_init_33 : decode cX8_init 33 = .ok (.iconst 0, 1) := by decide +kernel
theorem dX8_init_34 : decode cX8_init 34 = .ok (.putfield 26, 3) := by decide +kernel
theorem dX8_init_37 : decode cX8_init 37 = .ok (.aload_n 0, 1) := by decide +kernel
theorem dX8_init_38 : decode cX8_init 38 = .ok (.new 29, 3) := by decide +kernel
theorem dX8_init_41 : decode cX8_init 41 = .ok (.dup, 1) := by decide +kernel
theorem dX8_init_42 : decode cX8_init 42 = .ok (.new 31, 3) := by decide +kernel
theorem dX8_init_45 : decode cX8_init 45 = .ok (.dup, 1) := by decide +kernel
theorem dX8_init_46 : decode cX8_init 46 = .ok (.iconst 0, 1) := by decide +kernel
theorem dX8_init_47 : decode cX8_init 47 = .ok (.invokespecial 33, 3) := by decide +kernel
theorem dX8_init_50 : decode cX8_init 50 = .ok (.invokespecial 36, 3) := by decide +kernel
theorem dX8_init_53 : decode cX8_init 53 = .ok (.putfield 39, 3) := by decide +kernel
theorem dX8_init_56 : decode cX8_init 56 = .ok (.aload_n 0, 1) := by decide +kernel
theorem dX8_init_57 : decode cX8_init 57 = .ok (.iconst 4, 1) := by decide +kernel
theorem dX8_init_58 : decode cX8_init 58 = .ok (.anewarray 29, 3) := by decide +kernel
theorem dX8_init_61 : decode cX8_init 61 = .ok (.putfield 43, 3) := by decide +kernel
theorem dX8_init_64 : decode cX8_init 64 = .ok (.aload_n 0, 1) := by decide +kernel
theorem dX8_init_65 : decode cX8_init 65 = .ok (.new 47, 3) := by decide +kernel
theorem dX8_init_68 : decode cX8_init 68 = .ok (.dup, 1) := by decide +kernel
theorem dX8_init_69 : decode cX8_init 69 = .ok (.invokespecial 49, 3) := by decide +kernel
theorem dX8_init_72 : decode cX8_init 72 = .ok (.putfield 50, 3) := by decide +kernel
theorem dX8_init_75 : decode cX8_init 75 = .ok (.aload_n 0, 1) := by decide +kernel
theorem dX8_init_76 : decode cX8_init 76 = .ok (.new 54, 3) := by decide +kernel
theorem dX8_init_79 : decode cX8_init 79 = .ok (.dup, 1) := by decide +kernel
theorem dX8_init_80 : decode cX8_init 80 = .ok (.invokespecial 56, 3) := by decide +kernel
theorem dX8_init_83 : decode cX8_init 83 = .ok (.putfield 57, 3) := by decide +kernel
theorem dX8_init_86 : decode cX8_init 86 = .ok (.aload_n 0, 1) := by decide +kernel
theorem dX8_init_87 : decode cX8_init 87 = .ok (.new 61, 3) := by decide +kernel
theorem dX8_init_90 : decode cX8_init 90 = .ok (.dup, 1) := by decide +kernel
theorem dX8_init_91 : decode cX8_init 91 = .ok (.invokespecial 63, 3) := by decide +kernel
theorem dX8_init_94 : decode cX8_init 94 = .ok (.putfield 64, 3) := by decide +kernel
theorem dX8_init_97 : decode cX8_init 97 = .ok (.aload_n 0, 1) := by decide +kernel
theorem dX8_init_98 : decode cX8_init 98 = .ok (.new 68, 3) := by decide +kernel
theorem dX8_init_101 : decode cX8_init 101 = .ok (.dup, 1) := by decide +kernel
theorem dX8_init_102 : decode cX8_init 102 = .ok (.invokespecial 70, 3) := by decide +kernel
theorem dX8_init_105 : decode cX8_init 105 = .ok (.putfield 71, 3) := by decide +kernel
theorem dX8_init_108 : decode cX8_init 108 = .ok (.return_, 1) := by decide +kernel
theorem dX8_isFault_0 : decode cX8_isFault 0 = .ok (.iload_n 1, 1) := by decide +kernel
theorem dX8_isFault_1 : decode cX8_isFault 1 = .ok (.ifCond .lt 21, 3) := by decide +kernel
theorem dX8_isFault_4 : decode cX8_isFault 4 = .ok (.iload_n 1, 1) := by decide +kernel
theorem dX8_isFault_5 : decode cX8_isFault 5 = .ok (.aload_n 0, 1) := by decide +kernel
theorem dX8_isFault_6 : decode cX8_isFault 6 = .ok (.getfield 39, 3) := by decide +kernel
theorem dX8_isFault_9 : decode cX8_isFault 9 = .ok (.getfield 119, 3) := by decide +kernel
theorem dX8_isFault_12 : decode cX8_isFault 12 = .ok (.getfield 102, 3) := by decide +kernel
theorem dX8_isFault_15 : decode cX8_isFault 15 = .ok (.if_icmp .ge 7, 3) := by decide +kernel
theorem dX8_isFault_22 : decode cX8_isFault 22 = .ok (.iconst 0, 1) := by decide +kernel
theorem dX8_isFault_23 : decode cX8_isFault 23 = .ok (.ireturn, 1) := by decide +kernel
theorem dX8_kind_0 : decode cX8_kind 0 = .ok (.aload_n 0, 1) := by decide +kernel
theorem dX8_kind_1 : decode cX8_kind 1 = .ok (.getfield 39, 3) := by decide +kernel
theorem dX8_kind_4 : decode cX8_kind 4 = .ok (.getfield 119, 3) := by decide +kernel
theorem dX8_kind_7 : decode cX8_kind 7 = .ok (.astore_n 3, 1) := by decide +kernel
theorem dX8_kind_8 : decode cX8_kind 8 = .ok (.iload_n 1, 1) := by decide +kernel
theorem dX8_kind_9 : decode cX8_kind 9 = .ok (.ifCond .lt 11, 3) := by decide +kernel
theorem dX8_kind_12 : decode cX8_kind 12 = .ok (.iload_n 1, 1) := by decide +kernel
theorem dX8_kind_13 : decode cX8_kind 13 = .ok (.aload_n 3, 1) := by decide +kernel
theorem dX8_kind_14 : decode cX8_kind 14 = .ok (.getfield 123, 3) := by decide +kernel
theorem dX8_kind_17 : decode cX8_kind 17 = .ok (.if_icmp .lt 5, 3) := by decide +kernel
theorem dX8_kind_20 : decode cX8_kind 20 = .ok (.iconst (-1), 1) := by decide +kernel
theorem dX8_kind_21 : decode cX8_kind 21 = .ok (.ireturn, 1) := by decide +kernel
theorem dX8_look_0 : decode cX8_look 0 = .ok (.aload_n 0, 1) := by decide +kernel
theorem dX8_look_1 : decode cX8_look 1 = .ok (.iload_n 1, 1) := by decide +kernel
theorem dX8_look_2 : decode cX8_look 2 = .ok (.invokevirtual 139, 3) := by decide +kernel
theorem dX8_look_5 : decode cX8_look 5 = .ok (.ifCond .ne 5, 3) := by decide +kernel
theorem dX8_look_8 : decode cX8_look 8 = .ok (.iconst (-1), 1) := by decide +kernel
theorem dX8_look_9 : decode cX8_look 9 = .ok (.ireturn, 1) := by decide +kernel
theorem dX8_master_0 : decode cX8_master 0 = .ok (.aload_n 0, 1) := by decide +kernel
theorem dX8_master_1 : decode cX8_master 1 = .ok (.invokevirtual 213, 3) := by decide +kernel
theorem dX8_master_4 : decode cX8_master 4 = .ok (.ifCond .eq 21, 3) := by decide +kernel
theorem dX8_master_25 : decode cX8_master 25 = .ok (.ldc2_w 270, 3) := by decide +kernel
theorem dX8_master_28 : decode cX8_master 28 = .ok (.lreturn, 1) := by decide +kernel
theorem dX8_mend_0 : decode cX8_mend 0 = .ok (.aload_n 0, 1) := by decide +kernel
theorem dX8_mend_1 : decode cX8_mend 1 = .ok (.iload_n 1, 1) := by decide +kernel
theorem dX8_mend_2 : decode cX8_mend 2 = .ok (.invokevirtual 139, 3) := by decide +kernel
theorem dX8_mend_5 : decode cX8_mend 5 = .ok (.ifCond .eq 20, 3) := by decide +kernel
theorem dX8_mend_25 : decode cX8_mend 25 = .ok (.ldc 208, 2) := by decide +kernel
theorem dX8_mend_27 : decode cX8_mend 27 = .ok (.ireturn, 1) := by decide +kernel
theorem dX8_mixed_0 : decode cX8_mixed 0 = .ok (.iload_n 1, 1) := by decide +kernel
theorem dX8_mixed_1 : decode cX8_mixed 1 = .ok (.ifCond .lt 17, 3) := by decide +kernel
theorem dX8_mixed_4 : decode cX8_mixed 4 = .ok (.iload_n 1, 1) := by decide +kernel
theorem dX8_mixed_5 : decode cX8_mixed 5 = .ok (.iconst 1, 1) := by decide +kernel
theorem dX8_mixed_6 : decode cX8_mixed 6 = .ok (.if_icmp .gt 12, 3) := by decide +kernel
theorem dX8_mixed_9 : decode cX8_mixed 9 = .ok (.iload_n 2, 1) := by decide +kernel
theorem dX8_mixed_10 : decode cX8_mixed 10 = .ok (.ifCond .lt 8, 3) := by decide +kernel
theorem dX8_mixed_13 : decode cX8_mixed 13 = .ok (.iload_n 2, 1) := by decide +kernel
theorem dX8_mixed_14 : decode cX8_mixed 14 = .ok (.iconst 1, 1) := by decide +kernel
theorem dX8_mixed_15 : decode cX8_mixed 15 = .ok (.if_icmp .le 5, 3) := by decide +kernel
theorem dX8_mixed_18 : decode cX8_mixed 18 = .ok (.iconst (-1), 1) := by decide +kernel
theorem dX8_mixed_19 : decode cX8_mixed 19 = .ok (.ireturn, 1) := by decide +kernel
theorem dX8_mixed_20 : decode cX8_mixed 20 = .ok (.aload_n 0, 1) := by decide +kernel
theorem dX8_mixed_21 : decode cX8_mixed 21 = .ok (.invokevirtual 286, 3) := by decide +kernel
theorem dX8_mixed_24 : decode cX8_mixed 24 = .ok (.ifCond .eq 6, 3) := by decide +kernel
theorem dX8_mixed_27 : decode cX8_mixed 27 = .ok (.bipush (-2), 2) := by decide +kernel
theorem dX8_mixed_29 : decode cX8_mixed 29 = .ok (.ireturn, 1) := by decide +kernel
theorem dX8_put_0 : decode cX8_put 0 = .ok (.iload_n 1, 1) := by decide +kernel
theorem dX8_put_1 : decode cX8_put 1 = .ok (.ifCond .lt 13, 3) := by decide +kernel
theorem dX8_put_4 : decode cX8_put 4 = .ok (.iload_n 1, 1) := by decide +kernel
theorem dX8_put_5 : decode cX8_put 5 = .ok (.aload_n 0, 1) := by decide +kernel
theorem dX8_put_6 : decode cX8_put 6 = .ok (.arraylength, 1) := by decide +kernel
theorem dX8_put_7 : decode cX8_put 7 = .ok (.if_icmp .ge 7, 3) := by decide +kernel
theorem dX8_put_10 : decode cX8_put 10 = .ok (.aload_n 0, 1) := by decide +kernel
theorem dX8_put_11 : decode cX8_put 11 = .ok (.iload_n 1, 1) := by decide +kernel
theorem dX8_put_12 : decode cX8_put 12 = .ok (.iload_n 2, 1) := by decide +kernel
theorem dX8_put_13 : decode cX8_put 13 = .ok (.iastore, 1) := by decide +kernel
theorem dX8_put_14 : decode cX8_put 14 = .ok (.return_, 1) := by decide +kernel
theorem dX8_putBytes_0 : decode cX8_putBytes 0 = .ok (.bipush 24, 2) := by decide +kernel
theorem dX8_putBytes_2 : decode cX8_putBytes 2 = .ok (.istore_n 2, 1) := by decide +kernel
theorem dX8_putBytes_3 : decode cX8_putBytes 3 = .ok (.iload_n 2, 1) := by decide +kernel
theorem dX8_putBytes_4 : decode cX8_putBytes 4 = .ok (.ifCond .lt 37, 3) := by decide +kernel
theorem dX8_putBytes_7 : decode cX8_putBytes 7 = .ok (.aload_n 0, 1) := by decide +kernel
theorem dX8_putBytes_8 : decode cX8_putBytes 8 = .ok (.getfield 9, 3) := by decide +kernel
theorem dX8_putBytes_11 : decode cX8_putBytes 11 = .ok (.aload_n 0, 1) := by decide +kernel
theorem dX8_putBytes_12 : decode cX8_putBytes 12 = .ok (.getfield 13, 3) := by decide +kernel
theorem dX8_putBytes_15 : decode cX8_putBytes 15 = .ok (.iload_n 1, 1) := by decide +kernel
theorem dX8_putBytes_16 : decode cX8_putBytes 16 = .ok (.iload_n 2, 1) := by decide +kernel
theorem dX8_putBytes_17 : decode cX8_putBytes 17 = .ok (.iushr, 1) := by decide +kernel
theorem dX8_putBytes_18 : decode cX8_putBytes 18 = .ok (.sipush 255, 3) := by decide +kernel
theorem dX8_putBytes_21 : decode cX8_putBytes 21 = .ok (.iand, 1) := by decide +kernel
theorem dX8_putBytes_22 : decode cX8_putBytes 22 = .ok (.invokestatic 78, 3) := by decide +kernel
theorem dX8_putBytes_25 : decode cX8_putBytes 25 = .ok (.aload_n 0, 1) := by decide +kernel
theorem dX8_putBytes_26 : decode cX8_putBytes 26 = .ok (.dup, 1) := by decide +kernel
theorem dX8_putBytes_27 : decode cX8_putBytes 27 = .ok (.getfield 13, 3) := by decide +kernel
theorem dX8_putBytes_30 : decode cX8_putBytes 30 = .ok (.iconst 1, 1) := by decide +kernel
theorem dX8_putBytes_31 : decode cX8_putBytes 31 = .ok (.iadd, 1) := by decide +kernel
theorem dX8_putBytes_32 : decode cX8_putBytes 32 = .ok (.putfield 13, 3) := by decide +kernel
theorem dX8_putBytes_35 : decode cX8_putBytes 35 = .ok (.iinc 2 (-8), 3) := by decide +kernel
theorem dX8_putBytes_38 : decode cX8_putBytes 38 = .ok (.goto (-35), 3) := by decide +kernel
theorem dX8_putBytes_41 : decode cX8_putBytes 41 = .ok (.return_, 1) := by decide +kernel
theorem dX8_rests_0 : decode cX8_rests 0 = .ok (.iconst 0, 1) := by decide +kernel
theorem dX8_rests_1 : decode cX8_rests 1 = .ok (.istore_n 1, 1) := by decide +kernel
theorem dX8_rests_2 : decode cX8_rests 2 = .ok (.iconst 0, 1) := by decide +kernel
theorem dX8_rests_3 : decode cX8_rests 3 = .ok (.istore_n 2, 1) := by decide +kernel
theorem dX8_rests_4 : decode cX8_rests 4 = .ok (.iload_n 2, 1) := by decide +kernel
theorem dX8_rests_5 : decode cX8_rests 5 = .ok (.iconst 4, 1) := by decide +kernel
theorem dX8_rests_6 : decode cX8_rests 6 = .ok (.if_icmp .ge 95, 3) := by decide +kernel
theorem dX8_rests_9 : decode cX8_rests 9 = .ok (.aload_n 0, 1) := by decide +kernel
theorem dX8_rests_10 : decode cX8_rests 10 = .ok (.getfield 39, 3) := by decide +kernel
theorem dX8_rests_13 : decode cX8_rests 13 = .ok (.getfield 283, 3) := by decide +kernel
theorem dX8_rests_16 : decode cX8_rests 16 = .ok (.iload_n 2, 1) := by decide +kernel
theorem dX8_rests_17 : decode cX8_rests 17 = .ok (.invokestatic 129, 3) := by decide +kernel
theorem dX8_rests_20 : decode cX8_rests 20 = .ok (.aload_n 0, 1) := by decide +kernel
theorem dX8_rests_21 : decode cX8_rests 21 = .ok (.getfield 39, 3) := by decide +kernel
theorem dX8_rests_24 : decode cX8_rests 24 = .ok (.getfield 283, 3) := by decide +kernel
theorem dX8_rests_27 : decode cX8_rests 27 = .ok (.iload_n 2, 1) := by decide +kernel
theorem dX8_rests_28 : decode cX8_rests 28 = .ok (.iconst 2, 1) := by decide +kernel
theorem dX8_rests_29 : decode cX8_rests 29 = .ok (.ixor, 1) := by decide +kernel
theorem dX8_rests_30 : decode cX8_rests 30 = .ok (.invokestatic 129, 3) := by decide +kernel
theorem dX8_rests_33 : decode cX8_rests 33 = .ok (.if_icmp .lt 7, 3) := by decide +kernel
theorem dX8_rests_36 : decode cX8_rests 36 = .ok (.iconst 1, 1) := by decide +kernel
theorem dX8_rests_37 : decode cX8_rests 37 = .ok (.goto 4, 3) := by decide +kernel
theorem dX8_rests_41 : decode cX8_rests 41 = .ok (.istore_n 3, 1) := by decide +kernel
theorem dX8_rests_42 : decode cX8_rests 42 = .ok (.aload_n 0, 1) := by decide +kernel
theorem dX8_rests_43 : decode cX8_rests 43 = .ok (.getfield 39, 3) := by decide +kernel
theorem dX8_rests_46 : decode cX8_rests 46 = .ok (.getfield 283, 3) := by decide +kernel
theorem dX8_rests_49 : decode cX8_rests 49 = .ok (.iconst 4, 1) := by decide +kernel
theorem dX8_rests_50 : decode cX8_rests 50 = .ok (.iload_n 2, 1) := by decide +kernel
theorem dX8_rests_51 : decode cX8_rests 51 = .ok (.iadd, 1) := by decide +kernel
theorem dX8_rests_52 : decode cX8_rests 52 = .ok (.invokestatic 129, 3) := by decide +kernel
theorem dX8_rests_55 : decode cX8_rests 55 = .ok (.aload_n 0, 1) := by decide +kernel
theorem dX8_rests_56 : decode cX8_rests 56 = .ok (.getfield 39, 3) := by decide +kernel
theorem dX8_rests_59 : decode cX8_rests 59 = .ok (.getfield 283, 3) := by decide +kernel
theorem dX8_rests_62 : decode cX8_rests 62 = .ok (.iconst 4, 1) := by decide +kernel
theorem dX8_rests_63 : decode cX8_rests 63 = .ok (.iload_n 2, 1) := by decide +kernel
theorem dX8_rests_64 : decode cX8_rests 64 = .ok (.iconst 1, 1) := by decide +kernel
theorem dX8_rests_65 : decode cX8_rests 65 = .ok (.ixor, 1) := by decide +kernel
theorem dX8_rests_66 : decode cX8_rests 66 = .ok (.iadd, 1) := by decide +kernel
theorem dX8_rests_67 : decode cX8_rests 67 = .ok (.invokestatic 129, 3) := by decide +kernel
theorem dX8_rests_70 : decode cX8_rests 70 = .ok (.if_icmp .lt 7, 3) := by decide +kernel
theorem dX8_rests_73 : decode cX8_rests 73 = .ok (.iconst 1, 1) := by decide +kernel
theorem dX8_rests_74 : decode cX8_rests 74 = .ok (.goto 4, 3) := by decide +kernel
theorem dX8_rests_78 : decode cX8_rests 78 = .ok (.istore 4, 2) := by decide +kernel
theorem dX8_rests_80 : decode cX8_rests 80 = .ok (.iload_n 3, 1) := by decide +kernel
theorem dX8_rests_81 : decode cX8_rests 81 = .ok (.ifCond .eq 14, 3) := by decide +kernel
theorem dX8_rests_84 : decode cX8_rests 84 = .ok (.iload 4, 2) := by decide +kernel
theorem dX8_rests_86 : decode cX8_rests 86 = .ok (.ifCond .eq 9, 3) := by decide +kernel
theorem dX8_rests_89 : decode cX8_rests 89 = .ok (.iload_n 1, 1) := by decide +kernel
theorem dX8_rests_90 : decode cX8_rests 90 = .ok (.iconst 1, 1) := by decide +kernel
theorem dX8_rests_91 : decode cX8_rests 91 = .ok (.iload_n 2, 1) := by decide +kernel
theorem dX8_rests_92 : decode cX8_rests 92 = .ok (.ishl, 1) := by decide +kernel
theorem dX8_rests_93 : decode cX8_rests 93 = .ok (.ior, 1) := by decide +kernel
theorem dX8_rests_94 : decode cX8_rests 94 = .ok (.istore_n 1, 1) := by decide +kernel
theorem dX8_rests_95 : decode cX8_rests 95 = .ok (.iinc 2 1, 3) := by decide +kernel
theorem dX8_rests_98 : decode cX8_rests 98 = .ok (.goto (-94), 3) := by decide +kernel
theorem dX8_rests_101 : decode cX8_rests 101 = .ok (.iload_n 1, 1) := by decide +kernel
theorem dX8_rests_102 : decode cX8_rests 102 = .ok (.ireturn, 1) := by decide +kernel
theorem dX8_row_0 : decode cX8_row 0 = .ok (.iload_n 1, 1) := by decide +kernel
theorem dX8_row_1 : decode cX8_row 1 = .ok (.iconst (-1), 1) := by decide +kernel
theorem dX8_row_2 : decode cX8_row 2 = .ok (.if_icmp .ne 13, 3) := by decide +kernel
theorem dX8_row_5 : decode cX8_row 5 = .ok (.aload_n 0, 1) := by decide +kernel
theorem dX8_row_6 : decode cX8_row 6 = .ok (.getfield 39, 3) := by decide +kernel
theorem dX8_row_9 : decode cX8_row 9 = .ok (.iconst 0, 1) := by decide +kernel
theorem dX8_row_10 : decode cX8_row 10 = .ok (.putfield 187, 3) := by decide +kernel
theorem dX8_row_13 : decode cX8_row 13 = .ok (.iconst 0, 1) := by decide +kernel
theorem dX8_row_14 : decode cX8_row 14 = .ok (.ireturn, 1) := by decide +kernel
theorem dX8_row_15 : decode cX8_row 15 = .ok (.aload_n 0, 1) := by decide +kernel
theorem dX8_row_16 : decode cX8_row 16 = .ok (.iload_n 1, 1) := by decide +kernel
theorem dX8_row_17 : decode cX8_row 17 = .ok (.invokevirtual 139, 3) := by decide +kernel
theorem dX8_row_20 : decode cX8_row 20 = .ok (.ifCond .eq 15, 3) := by decide +kernel
theorem dX8_row_35 : decode cX8_row 35 = .ok (.bipush (-2), 2) := by decide +kernel
theorem dX8_row_37 : decode cX8_row 37 = .ok (.ireturn, 1) := by decide +kernel
theorem dX8_rule_0 : decode cX8_rule 0 = .ok (.aload_n 0, 1) := by decide +kernel
theorem dX8_rule_1 : decode cX8_rule 1 = .ok (.getfield 23, 3) := by decide +kernel
theorem dX8_rule_4 : decode cX8_rule 4 = .ok (.ifCond .lt 15, 3) := by decide +kernel
theorem dX8_rule_7 : decode cX8_rule 7 = .ok (.aload_n 0, 1) := by decide +kernel
theorem dX8_rule_8 : decode cX8_rule 8 = .ok (.getfield 23, 3) := by decide +kernel
theorem dX8_rule_11 : decode cX8_rule 11 = .ok (.aload_n 0, 1) := by decide +kernel
theorem dX8_rule_12 : decode cX8_rule 12 = .ok (.getfield 19, 3) := by decide +kernel
theorem dX8_rule_15 : decode cX8_rule 15 = .ok (.arraylength, 1) := by decide +kernel
theorem dX8_rule_16 : decode cX8_rule 16 = .ok (.if_icmp .lt 5, 3) := by decide +kernel
theorem dX8_rule_21 : decode cX8_rule 21 = .ok (.aload_n 0, 1) := by decide +kernel
theorem dX8_rule_22 : decode cX8_rule 22 = .ok (.getfield 57, 3) := by decide +kernel
theorem dX8_rule_25 : decode cX8_rule 25 = .ok (.getfield 82, 3) := by decide +kernel
theorem dX8_rule_28 : decode cX8_rule 28 = .ok (.astore_n 1, 1) := by decide +kernel
theorem dX8_rule_29 : decode cX8_rule 29 = .ok (.aload_n 1, 1) := by decide +kernel
theorem dX8_rule_30 : decode cX8_rule 30 = .ok (.aload_n 0, 1) := by decide +kernel
theorem dX8_rule_31 : decode cX8_rule 31 = .ok (.getfield 9, 3) := by decide +kernel
theorem dX8_rule_34 : decode cX8_rule 34 = .ok (.aload_n 0, 1) := by decide +kernel
theorem dX8_rule_35 : decode cX8_rule 35 = .ok (.getfield 13, 3) := by decide +kernel
theorem dX8_rule_38 : decode cX8_rule 38 = .ok (.invokevirtual 86, 3) := by decide +kernel
theorem dX8_rule_41 : decode cX8_rule 41 = .ok (.aload_n 0, 1) := by decide +kernel
theorem dX8_rule_42 : decode cX8_rule 42 = .ok (.iconst 0, 1) := by decide +kernel
theorem dX8_rule_43 : decode cX8_rule 43 = .ok (.putfield 13, 3) := by decide +kernel
theorem dX8_rule_46 : decode cX8_rule 46 = .ok (.aload_n 0, 1) := by decide +kernel
theorem dX8_rule_47 : decode cX8_rule 47 = .ok (.getfield 57, 3) := by decide +kernel
theorem dX8_rule_50 : decode cX8_rule 50 = .ok (.invokevirtual 105, 3) := by decide +kernel
theorem dX8_rule_53 : decode cX8_rule 53 = .ok (.iconst 1, 1) := by decide +kernel
theorem dX8_rule_54 : decode cX8_rule 54 = .ok (.istore_n 2, 1) := by decide +kernel
theorem dX8_rule_55 : decode cX8_rule 55 = .ok (.iconst 0, 1) := by decide +kernel
theorem dX8_rule_56 : decode cX8_rule 56 = .ok (.istore_n 3, 1) := by decide +kernel
theorem dX8_rule_57 : decode cX8_rule 57 = .ok (.iload_n 2, 1) := by decide +kernel
theorem dX8_rule_58 : decode cX8_rule 58 = .ok (.ifCond .eq 27, 3) := by decide +kernel
theorem dX8_rule_61 : decode cX8_rule 61 = .ok (.iload_n 3, 1) := by decide +kernel
theorem dX8_rule_62 : decode cX8_rule 62 = .ok (.bipush 12, 2) := by decide +kernel
theorem dX8_rule_64 : decode cX8_rule 64 = .ok (.if_icmp .gt 21, 3) := by decide +kernel
theorem dX8_rule_67 : decode cX8_rule 67 = .ok (.aload_n 0, 1) := by decide +kernel
theorem dX8_rule_68 : decode cX8_rule 68 = .ok (.getfield 57, 3) := by decide +kernel
theorem dX8_rule_71 : decode cX8_rule 71 = .ok (.invokevirtual 108, 3) := by decide +kernel
theorem dX8_rule_74 : decode cX8_rule 74 = .ok (.aload_n 1, 1) := by decide +kernel
theorem dX8_rule_75 : decode cX8_rule 75 = .ok (.invokevirtual 111, 3) := by decide +kernel
theorem dX8_rule_78 : decode cX8_rule 78 = .ok (.istore_n 2, 1) := by decide +kernel
theorem dX8_rule_79 : decode cX8_rule 79 = .ok (.iinc 3 1, 3) := by decide +kernel
theorem dX8_rule_82 : decode cX8_rule 82 = .ok (.goto (-25), 3) := by decide +kernel
theorem dX8_rule_85 : decode cX8_rule 85 = .ok (.aload_n 1, 1) := by decide +kernel
theorem dX8_rule_86 : decode cX8_rule 86 = .ok (.getfield 96, 3) := by decide +kernel
theorem dX8_rule_89 : decode cX8_rule 89 = .ok (.ifCond .eq 11, 3) := by decide +kernel
theorem dX8_rule_92 : decode cX8_rule 92 = .ok (.bipush (-2), 2) := by decide +kernel
theorem dX8_rule_94 : decode cX8_rule 94 = .ok (.aload_n 1, 1) := by decide +kernel
theorem dX8_rule_95 : decode cX8_rule 95 = .ok (.getfield 96, 3) := by decide +kernel
theorem dX8_rule_98 : decode cX8_rule 98 = .ok (.isub, 1) := by decide +kernel
theorem dX8_rule_99 : decode cX8_rule 99 = .ok (.ireturn, 1) := by decide +kernel
theorem dX8_ruleForWork_0 : decode cX8_ruleForWork 0 = .ok (.iload_n 1, 1) := by decide +kernel
theorem dX8_ruleForWork_1 : decode cX8_ruleForWork 1 = .ok (.ifCond .lt 31, 3) := by decide +kernel
theorem dX8_ruleForWork_4 : decode cX8_ruleForWork 4 = .ok (.iload_n 1, 1) := by decide +kernel
theorem dX8_ruleForWork_5 : decode cX8_ruleForWork 5 = .ok (.aload_n 0, 1) := by decide +kernel
theorem dX8_ruleForWork_6 : decode cX8_ruleForWork 6 = .ok (.getfield 23, 3) := by decide +kernel
theorem dX8_ruleForWork_9 : decode cX8_ruleForWork 9 = .ok (.if_icmp .ge 23, 3) := by decide +kernel
theorem dX8_ruleForWork_32 : decode cX8_ruleForWork 32 = .ok (.iconst 0, 1) := by decide +kernel
theorem dX8_ruleForWork_33 : decode cX8_ruleForWork 33 = .ok (.istore_n 2, 1) := by decide +kernel
theorem dX8_ruleForWork_34 : decode cX8_ruleForWork 34 = .ok (.iload_n 2, 1) := by decide +kernel
theorem dX8_ruleForWork_35 : decode cX8_ruleForWork 35 = .ok (.ifCond .eq 12, 3) := by decide +kernel
theorem dX8_ruleForWork_47 : decode cX8_ruleForWork 47 = .ok (.aconst_null, 1) := by decide +kernel
theorem dX8_ruleForWork_48 : decode cX8_ruleForWork 48 = .ok (.areturn, 1) := by decide +kernel
theorem dX8_seed_0 : decode cX8_seed 0 = .ok (.iload_n 1, 1) := by decide +kernel
theorem dX8_seed_1 : decode cX8_seed 1 = .ok (.ifCond .ge 5, 3) := by decide +kernel
theorem dX8_seed_4 : decode cX8_seed 4 = .ok (.iconst (-1), 1) := by decide +kernel
theorem dX8_seed_5 : decode cX8_seed 5 = .ok (.ireturn, 1) := by decide +kernel
theorem dX8_seed_6 : decode cX8_seed 6 = .ok (.aload_n 0, 1) := by decide +kernel
theorem dX8_seed_7 : decode cX8_seed 7 = .ok (.getfield 39, 3) := by decide +kernel
theorem dX8_seed_10 : decode cX8_seed 10 = .ok (.getfield 143, 3) := by decide +kernel
theorem dX8_seed_13 : decode cX8_seed 13 = .ok (.getfield 190, 3) := by decide +kernel
theorem dX8_seed_16 : decode cX8_seed 16 = .ok (.istore_n 2, 1) := by decide +kernel
theorem dX8_seed_17 : decode cX8_seed 17 = .ok (.aload_n 0, 1) := by decide +kernel
theorem dX8_seed_18 : decode cX8_seed 18 = .ok (.getfield 39, 3) := by decide +kernel
theorem dX8_seed_21 : decode cX8_seed 21 = .ok (.getfield 143, 3) := by decide +kernel
theorem dX8_seed_24 : decode cX8_seed 24 = .ok (.iload_n 1, 1) := by decide +kernel
theorem dX8_seed_25 : decode cX8_seed 25 = .ok (.putfield 190, 3) := by decide +kernel
theorem dX8_seed_28 : decode cX8_seed 28 = .ok (.iload_n 2, 1) := by decide +kernel
theorem dX8_seed_29 : decode cX8_seed 29 = .ok (.ireturn, 1) := by decide +kernel
theorem dX8_seen_0 : decode cX8_seen 0 = .ok (.aload_n 0, 1) := by decide +kernel
theorem dX8_seen_1 : decode cX8_seen 1 = .ok (.iload_n 1, 1) := by decide +kernel
theorem dX8_seen_2 : decode cX8_seen 2 = .ok (.invokevirtual 139, 3) := by decide +kernel
theorem dX8_seen_5 : decode cX8_seen 5 = .ok (.ifCond .eq 12, 3) := by decide +kernel
theorem dX8_seen_17 : decode cX8_seen 17 = .ok (.ldc2_w 243, 3) := by decide +kernel
theorem dX8_seen_20 : decode cX8_seen 20 = .ok (.lreturn, 1) := by decide +kernel
theorem dX8_weeks_0 : decode cX8_weeks 0 = .ok (.aload_n 0, 1) := by decide +kernel
theorem dX8_weeks_1 : decode cX8_weeks 1 = .ok (.iload_n 1, 1) := by decide +kernel
theorem dX8_weeks_2 : decode cX8_weeks 2 = .ok (.invokevirtual 228, 3) := by decide +kernel
theorem dX8_weeks_5 : decode cX8_weeks 5 = .ok (.astore 4, 2) := by decide +kernel
theorem dX8_weeks_7 : decode cX8_weeks 7 = .ok (.aload 4, 2) := by decide +kernel
theorem dX8_weeks_9 : decode cX8_weeks 9 = .ok (.ifnull 23, 3) := by decide +kernel
theorem dX8_weeks_32 : decode cX8_weeks 32 = .ok (.iconst (-1), 1) := by decide +kernel
theorem dX8_weeks_33 : decode cX8_weeks 33 = .ok (.ireturn, 1) := by decide +kernel
theorem dX8_work_0 : decode cX8_work 0 = .ok (.aload_n 0, 1) := by decide +kernel
theorem dX8_work_1 : decode cX8_work 1 = .ok (.getfield 57, 3) := by decide +kernel
theorem dX8_work_4 : decode cX8_work 4 = .ok (.getfield 82, 3) := by decide +kernel
theorem dX8_work_7 : decode cX8_work 7 = .ok (.astore_n 1, 1) := by decide +kernel
theorem dX8_work_8 : decode cX8_work 8 = .ok (.aload_n 1, 1) := by decide +kernel
theorem dX8_work_9 : decode cX8_work 9 = .ok (.aload_n 0, 1) := by decide +kernel
theorem dX8_work_10 : decode cX8_work 10 = .ok (.getfield 9, 3) := by decide +kernel
theorem dX8_work_13 : decode cX8_work 13 = .ok (.aload_n 0, 1) := by decide +kernel
theorem dX8_work_14 : decode cX8_work 14 = .ok (.getfield 13, 3) := by decide +kernel
theorem dX8_work_17 : decode cX8_work 17 = .ok (.invokevirtual 86, 3) := by decide +kernel
theorem dX8_work_20 : decode cX8_work 20 = .ok (.aload_n 0, 1) := by decide +kernel
theorem dX8_work_21 : decode cX8_work 21 = .ok (.iconst 0, 1) := by decide +kernel
theorem dX8_work_22 : decode cX8_work 22 = .ok (.putfield 13, 3) := by decide +kernel
theorem dX8_work_25 : decode cX8_work 25 = .ok (.new 31, 3) := by decide +kernel
theorem dX8_work_28 : decode cX8_work 28 = .ok (.dup, 1) := by decide +kernel
theorem dX8_work_29 : decode cX8_work 29 = .ok (.aload_n 0, 1) := by decide +kernel
theorem dX8_work_30 : decode cX8_work 30 = .ok (.getfield 26, 3) := by decide +kernel
theorem dX8_work_33 : decode cX8_work 33 = .ok (.iconst 1, 1) := by decide +kernel
theorem dX8_work_34 : decode cX8_work 34 = .ok (.iadd, 1) := by decide +kernel
theorem dX8_work_35 : decode cX8_work 35 = .ok (.invokespecial 33, 3) := by decide +kernel
theorem dX8_work_38 : decode cX8_work 38 = .ok (.astore_n 2, 1) := by decide +kernel
theorem dX8_work_39 : decode cX8_work 39 = .ok (.aload_n 2, 1) := by decide +kernel
theorem dX8_work_40 : decode cX8_work 40 = .ok (.aload_n 1, 1) := by decide +kernel
theorem dX8_work_41 : decode cX8_work 41 = .ok (.invokevirtual 92, 3) := by decide +kernel
theorem dX8_work_44 : decode cX8_work 44 = .ok (.aload_n 1, 1) := by decide +kernel
theorem dX8_work_45 : decode cX8_work 45 = .ok (.getfield 96, 3) := by decide +kernel
theorem dX8_work_48 : decode cX8_work 48 = .ok (.ifCond .eq 11, 3) := by decide +kernel
theorem dX8_work_51 : decode cX8_work 51 = .ok (.bipush (-2), 2) := by decide +kernel
theorem dX8_work_53 : decode cX8_work 53 = .ok (.aload_n 1, 1) := by decide +kernel
theorem dX8_work_54 : decode cX8_work 54 = .ok (.getfield 96, 3) := by decide +kernel
theorem dX8_work_57 : decode cX8_work 57 = .ok (.isub, 1) := by decide +kernel
theorem dX8_work_58 : decode cX8_work 58 = .ok (.ireturn, 1) := by decide +kernel
theorem dX8_worth_0 : decode cX8_worth 0 = .ok (.aload_n 0, 1) := by decide +kernel
theorem dX8_worth_1 : decode cX8_worth 1 = .ok (.invokevirtual 213, 3) := by decide +kernel
theorem dX8_worth_4 : decode cX8_worth 4 = .ok (.ifCond .eq 12, 3) := by decide +kernel
theorem dX8_worth_16 : decode cX8_worth 16 = .ok (.ldc2_w 243, 3) := by decide +kernel
theorem dX8_worth_19 : decode cX8_worth 19 = .ok (.lreturn, 1) := by decide +kernel
theorem dX8_would_0 : decode cX8_would 0 = .ok (.aload_n 0, 1) := by decide +kernel
theorem dX8_would_1 : decode cX8_would 1 = .ok (.iload_n 1, 1) := by decide +kernel
theorem dX8_would_2 : decode cX8_would 2 = .ok (.invokevirtual 228, 3) := by decide +kernel
theorem dX8_would_5 : decode cX8_would 5 = .ok (.astore_n 3, 1) := by decide +kernel
theorem dX8_would_6 : decode cX8_would 6 = .ok (.aload_n 3, 1) := by decide +kernel
theorem dX8_would_7 : decode cX8_would 7 = .ok (.ifnull 12, 3) := by decide +kernel
theorem dX8_would_19 : decode cX8_would 19 = .ok (.ldc 208, 2) := by decide +kernel
theorem dX8_would_21 : decode cX8_would 21 = .ok (.ireturn, 1) := by decide +kernel
theorem dX9_back_0 : decode cX9_back 0 = .ok (.iload_n 1, 1) := by decide +kernel
theorem dX9_back_1 : decode cX9_back 1 = .ok (.i2l, 1) := by decide +kernel
theorem dX9_back_2 : decode cX9_back 2 = .ok (.lconst 0, 1) := by decide +kernel
theorem dX9_back_3 : decode cX9_back 3 = .ok (.ldc2_w 414, 3) := by decide +kernel
theorem dX9_back_6 : decode cX9_back 6 = .ok (.invokestatic 118, 3) := by decide +kernel
theorem dX9_back_9 : decode cX9_back 9 = .ok (.ifCond .eq 12, 3) := by decide +kernel
theorem dX9_back_12 : decode cX9_back 12 = .ok (.aload_n 0, 1) := by decide +kernel
theorem dX9_back_13 : decode cX9_back 13 = .ok (.getfield 76, 3) := by decide +kernel
theorem dX9_back_16 : decode cX9_back 16 = .ok (.iload_n 1, 1) := by decide +kernel
theorem dX9_back_17 : decode cX9_back 17 = .ok (.baload, 1) := by decide +kernel
theorem dX9_back_18 : decode cX9_back 18 = .ok (.ifCond .ne 5, 3) := by decide +kernel
theorem dX9_back_21 : decode cX9_back 21 = .ok (.iconst (-1), 1) := by decide +kernel
theorem dX9_back_22 : decode cX9_back 22 = .ok (.ireturn, 1) := by decide +kernel
theorem dX9_best_0 : decode cX9_best 0 = .ok (.aload_n 0, 1) := by decide +kernel
theorem dX9_best_1 : decode cX9_best 1 = .ok (.invokevirtual 301, 3) := by decide +kernel
theorem dX9_best_4 : decode cX9_best 4 = .ok (.ifCond .eq 27, 3) := by decide +kernel
theorem dX9_best_31 : decode cX9_best 31 = .ok (.ldc2_w 362, 3) := by decide +kernel
theorem dX9_best_34 : decode cX9_best 34 = .ok (.lreturn, 1) := by decide +kernel
theorem dX9_bits_0 : decode cX9_bits 0 = .ok (.iconst 0, 1) := by decide +kernel
theorem dX9_bits_1 : decode cX9_bits 1 = .ok (.istore_n 1, 1) := by decide +kernel
theorem dX9_bits_2 : decode cX9_bits 2 = .ok (.iload_n 0, 1) := by decide +kernel
theorem dX9_bits_3 : decode cX9_bits 3 = .ok (.istore_n 2, 1) := by decide +kernel
theorem dX9_bits_4 : decode cX9_bits 4 = .ok (.iload_n 2, 1) := by decide +kernel
theorem dX9_bits_5 : decode cX9_bits 5 = .ok (.ifCond .eq 15, 3) := by decide +kernel
theorem dX9_bits_20 : decode cX9_bits 20 = .ok (.iload_n 1, 1) := by decide +kernel
theorem dX9_bits_21 : decode cX9_bits 21 = .ok (.ireturn, 1) := by decide +kernel
theorem dX9_checks_0 : decode cX9_checks 0 = .ok (.iload_n 1, 1) := by decide +kernel
theorem dX9_checks_1 : decode cX9_checks 1 = .ok (.i2l, 1) := by decide +kernel
theorem dX9_checks_2 : decode cX9_checks 2 = .ok (.lconst 0, 1) := by decide +kernel
theorem dX9_checks_3 : decode cX9_checks 3 = .ok (.ldc2_w 407, 3) := by decide +kernel
theorem dX9_checks_6 : decode cX9_checks 6 = .ok (.invokestatic 118, 3) := by decide +kernel
theorem dX9_checks_9 : decode cX9_checks 9 = .ok (.ifCond .eq 15, 3) := by decide +kernel
theorem dX9_checks_12 : decode cX9_checks 12 = .ok (.iload_n 2, 1) := by decide +kernel
theorem dX9_checks_13 : decode cX9_checks 13 = .ok (.i2l, 1) := by decide +kernel
theorem dX9_checks_14 : decode cX9_checks 14 = .ok (.lconst 0, 1) := by decide +kernel
theorem dX9_checks_15 : decode cX9_checks 15 = .ok (.ldc2_w 407, 3) := by decide +kernel
theorem dX9_checks_18 : decode cX9_checks 18 = .ok (.invokestatic 118, 3) := by decide +kernel
theorem dX9_checks_21 : decode cX9_checks 21 = .ok (.ifCond .ne 5, 3) := by decide +kernel
theorem dX9_checks_24 : decode cX9_checks 24 = .ok (.iconst (-1), 1) := by decide +kernel
theorem dX9_checks_25 : decode cX9_checks 25 = .ok (.ireturn, 1) := by decide +kernel
theorem dX9_checks_26 : decode cX9_checks 26 = .ok (.iconst 0, 1) := by decide +kernel
theorem dX9_checks_27 : decode cX9_checks 27 = .ok (.istore_n 3, 1) := by decide +kernel
theorem dX9_checks_28 : decode cX9_checks 28 = .ok (.iload_n 1, 1) := by decide +kernel
theorem dX9_checks_29 : decode cX9_checks 29 = .ok (.bipush 100, 2) := by decide +kernel
theorem dX9_checks_31 : decode cX9_checks 31 = .ok (.iload_n 3, 1) := by decide +kernel
theorem dX9_checks_32 : decode cX9_checks 32 = .ok (.isub, 1) := by decide +kernel
theorem dX9_checks_33 : decode cX9_checks 33 = .ok (.imul, 1) := by decide +kernel
theorem dX9_checks_34 : decode cX9_checks 34 = .ok (.iload_n 2, 1) := by decide +kernel
theorem dX9_checks_35 : decode cX9_checks 35 = .ok (.iload_n 3, 1) := by decide +kernel
theorem dX9_checks_36 : decode cX9_checks 36 = .ok (.imul, 1) := by decide +kernel
theorem dX9_checks_37 : decode cX9_checks 37 = .ok (.if_icmp .le 9, 3) := by decide +kernel
theorem dX9_checks_40 : decode cX9_checks 40 = .ok (.iinc 3 1, 3) := by decide +kernel
theorem dX9_checks_43 : decode cX9_checks 43 = .ok (.goto (-15), 3) := by decide +kernel
theorem dX9_checks_46 : decode cX9_checks 46 = .ok (.iload_n 3, 1) := by decide +kernel
theorem dX9_checks_47 : decode cX9_checks 47 = .ok (.ireturn, 1) := by decide +kernel
theorem dX9_clauseHere_0 : decode cX9_clauseHere 0 = .ok (.aload_n 0, 1) := by decide +kernel
theorem dX9_clauseHere_1 : decode cX9_clauseHere 1 = .ok (.invokevirtual 93, 3) := by decide +kernel
theorem dX9_clauseHere_4 : decode cX9_clauseHere 4 = .ok (.pop, 1) := by decide +kernel
theorem dX9_clauseHere_5 : decode cX9_clauseHere 5 = .ok (.aload_n 0, 1) := by decide +kernel
theorem dX9_clauseHere_6 : decode cX9_clauseHere 6 = .ok (.getfield 90, 3) := by decide +kernel
theorem dX9_clauseHere_9 : decode cX9_clauseHere 9 = .ok (.istore_n 1, 1) := by decide +kernel
theorem dX9_clauseHere_10 : decode cX9_clauseHere 10 = .ok (.aload_n 0, 1) := by decide +kernel
theorem dX9_clauseHere_11 : decode cX9_clauseHere 11 = .ok (.getfield 140, 3) := by decide +kernel
theorem dX9_clauseHere_14 : decode cX9_clauseHere 14 = .ok (.bipush 6, 2) := by decide +kernel
theorem dX9_clauseHere_16 : decode cX9_clauseHere 16 = .ok (.if_icmp .ne 7, 3) := by decide +kernel
theorem dX9_clauseHere_19 : decode cX9_clauseHere 19 = .ok (.iconst 1, 1) := by decide +kernel
theorem dX9_clauseHere_20 : decode cX9_clauseHere 20 = .ok (.goto 4, 3) := by decide +kernel
theorem dX9_clauseHere_23 : decode cX9_clauseHere 23 = .ok (.iconst 0, 1) := by decide +kernel
theorem dX9_clauseHere_24 : decode cX9_clauseHere 24 = .ok (.istore_n 2, 1) := by decide +kernel
theorem dX9_clauseHere_25 : decode cX9_clauseHere 25 = .ok (.iload_n 2, 1) := by decide +kernel
theorem dX9_clauseHere_26 : decode cX9_clauseHere 26 = .ok (.ifCond .eq 41, 3) := by decide +kernel
theorem dX9_clauseHere_29 : decode cX9_clauseHere 29 = .ok (.aload_n 0, 1) := by decide +kernel
theorem dX9_clauseHere_30 : decode cX9_clauseHere 30 = .ok (.ldc2_w 223, 3) := by decide +kernel
theorem dX9_clauseHere_33 : decode cX9_clauseHere 33 = .ok (.invokevirtual 101, 3) := by decide +kernel
theorem dX9_clauseHere_36 : decode cX9_clauseHere 36 = .ok (.ifCond .ne 23, 3) := by decide +kernel
theorem dX9_clauseHere_39 : decode cX9_clauseHere 39 = .ok (.aload_n 0, 1) := by decide +kernel
theorem dX9_clauseHere_40 : decode cX9_clauseHere 40 = .ok (.ldc2_w 124, 3) := by decide +kernel
theorem dX9_clauseHere_43 : decode cX9_clauseHere 43 = .ok (.invokevirtual 101, 3) := by decide +kernel
theorem dX9_clauseHere_46 : decode cX9_clauseHere 46 = .ok (.ifCond .ne 13, 3) := by decide +kernel
theorem dX9_clauseHere_49 : decode cX9_clauseHere 49 = .ok (.aload_n 0, 1) := by decide +kernel
theorem dX9_clauseHere_50 : decode cX9_clauseHere 50 = .ok (.ldc2_w 122, 3) := by decide +kernel
theorem dX9_clauseHere_53 : decode cX9_clauseHere 53 = .ok (.invokevirtual 101, 3) := by decide +kernel
theorem dX9_clauseHere_56 : decode cX9_clauseHere 56 = .ok (.ifCond .eq 7, 3) := by decide +kernel
theorem dX9_clauseHere_63 : decode cX9_clauseHere 63 = .ok (.iconst 0, 1) := by decide +kernel
theorem dX9_clauseHere_64 : decode cX9_clauseHere 64 = .ok (.goto 28, 3) := by decide +kernel
theorem dX9_clauseHere_67 : decode cX9_clauseHere 67 = .ok (.aload_n 0, 1) := by decide +kernel
theorem dX9_clauseHere_68 : decode cX9_clauseHere 68 = .ok (.ldc2_w 225, 3) := by decide +kernel
theorem dX9_clauseHere_71 : decode cX9_clauseHere 71 = .ok (.invokevirtual 101, 3) := by decide +kernel
theorem dX9_clauseHere_74 : decode cX9_clauseHere 74 = .ok (.ifCond .ne 13, 3) := by decide +kernel
theorem dX9_clauseHere_77 : decode cX9_clauseHere 77 = .ok (.aload_n 0, 1) := by decide +kernel
theorem dX9_clauseHere_78 : decode cX9_clauseHere 78 = .ok (.ldc2_w 227, 3) := by decide +kernel
theorem dX9_clauseHere_81 : decode cX9_clauseHere 81 = .ok (.invokevirtual 101, 3) := by decide +kernel
theorem dX9_clauseHere_84 : decode cX9_clauseHere 84 = .ok (.ifCond .eq 7, 3) := by decide +kernel
theorem dX9_clauseHere_91 : decode cX9_clauseHere 91 = .ok (.iconst 0, 1) := by decide +kernel
theorem dX9_clauseHere_92 : decode cX9_clauseHere 92 = .ok (.istore_n 3, 1) := by decide +kernel
theorem dX9_clauseHere_93 : decode cX9_clauseHere 93 = .ok (.iload_n 3, 1) := by decide +kernel
theorem dX9_clauseHere_94 : decode cX9_clauseHere 94 = .ok (.ifCond .ne 10, 3) := by decide +kernel
theorem dX9_clauseHere_97 : decode cX9_clauseHere 97 = .ok (.aload_n 0, 1) := by decide +kernel
theorem dX9_clauseHere_98 : decode cX9_clauseHere 98 = .ok (.iconst 0, 1) := by decide +kernel
theorem dX9_clauseHere_99 : decode cX9_clauseHere 99 = .ok (.iload_n 1, 1) := by decide +kernel
theorem dX9_clauseHere_100 : decode cX9_clauseHere 100 = .ok (.invokevirtual 111, 3) := by decide +kernel
theorem dX9_clauseHere_103 : decode cX9_clauseHere 103 = .ok (.ireturn, 1) := by decide +kernel
theorem dX9_coins_0 : decode cX9_coins 0 = .ok (.iload_n 1, 1) := by decide +kernel
theorem dX9_coins_1 : decode cX9_coins 1 = .ok (.i2l, 1) := by decide +kernel
theorem dX9_coins_2 : decode cX9_coins 2 = .ok (.lconst 0, 1) := by decide +kernel
theorem dX9_coins_3 : decode cX9_coins 3 = .ok (.ldc2_w 278, 3) := by decide +kernel
theorem dX9_coins_6 : decode cX9_coins 6 = .ok (.invokestatic 118, 3) := by decide +kernel
theorem dX9_coins_9 : decode cX9_coins 9 = .ok (.ifCond .eq 14, 3) := by decide +kernel
theorem dX9_coins_12 : decode cX9_coins 12 = .ok (.aload_n 0, 1) := by decide +kernel
theorem dX9_coins_13 : decode cX9_coins 13 = .ok (.getfield 42, 3) := by decide +kernel
theorem dX9_coins_16 : decode cX9_coins 16 = .ok (.iconst 4, 1) := by decide +kernel
theorem dX9_coins_17 : decode cX9_coins 17 = .ok (.iload_n 1, 1) := by decide +kernel
theorem dX9_coins_18 : decode cX9_coins 18 = .ok (.iadd, 1) := by decide +kernel
theorem dX9_coins_19 : decode cX9_coins 19 = .ok (.iaload, 1) := by decide +kernel
theorem dX9_coins_20 : decode cX9_coins 20 = .ok (.goto 6, 3) := by decide +kernel
theorem dX9_coins_23 : decode cX9_coins 23 = .ok (.ldc_w 306, 3) := by decide +kernel
theorem dX9_coins_26 : decode cX9_coins 26 = .ok (.ireturn, 1) := by decide +kernel
theorem dX9_count_0 : decode cX9_count 0 = .ok (.iload_n 1, 1) := by decide +kernel
theorem dX9_count_1 : decode cX9_count 1 = .ok (.tableswitch 132 0 10 #[59, 59, 66, 71, 78, 87, 96, 104, 112, 117, 125], 59) := by decide +kernel
theorem dX9_count_60 : decode cX9_count 60 = .ok (.aload_n 0, 1) := by decide +kernel
theorem dX9_count_61 : decode cX9_count 61 = .ok (.getfield 42, 3) := by decide +kernel
theorem dX9_count_64 : decode cX9_count 64 = .ok (.iload_n 1, 1) := by decide +kernel
theorem dX9_count_65 : decode cX9_count 65 = .ok (.iaload, 1) := by decide +kernel
theorem dX9_count_66 : decode cX9_count 66 = .ok (.ireturn, 1) := by decide +kernel
theorem dX9_count_67 : decode cX9_count 67 = .ok (.aload_n 0, 1) := by decide +kernel
theorem dX9_count_68 : decode cX9_count 68 = .ok (.getfield 247, 3) := by decide +kernel
theorem dX9_count_71 : decode cX9_count 71 = .ok (.ireturn, 1) := by decide +kernel
theorem dX9_count_72 : decode cX9_count 72 = .ok (.aload_n 0, 1) := by decide +kernel
theorem dX9_count_73 : decode cX9_count 73 = .ok (.getfield 42, 3) := by decide +kernel
theorem dX9_count_76 : decode cX9_count 76 = .ok (.iconst 3, 1) := by decide +kernel
theorem dX9_count_77 : decode cX9_count 77 = .ok (.iaload, 1) := by decide +kernel
theorem dX9_count_78 : decode cX9_count 78 = .ok (.ireturn, 1) := by decide +kernel
theorem dX9_count_79 : decode cX9_count 79 = .ok (.aload_n 0, 1) := by decide +kernel
theorem dX9_count_80 : decode cX9_count 80 = .ok (.iconst 1, 1) := by decide +kernel
theorem dX9_count_81 : decode cX9_count 81 = .ok (.invokevirtual 313, 3) := by decide +kernel
theorem dX9_count_84 : decode cX9_count 84 = .ok (.invokestatic 316, 3) := by decide +kernel
theorem dX9_count_87 : decode cX9_count 87 = .ok (.ireturn, 1) := by decide +kernel
theorem dX9_count_88 : decode cX9_count 88 = .ok (.aload_n 0, 1) := by decide +kernel
theorem dX9_count_89 : decode cX9_count 89 = .ok (.iconst 2, 1) := by decide +kernel
theorem dX9_count_90 : decode cX9_count 90 = .ok (.invokevirtual 313, 3) := by decide +kernel
theorem dX9_count_93 : decode cX9_count 93 = .ok (.invokestatic 316, 3) := by decide +kernel
theorem dX9_count_96 : decode cX9_count 96 = .ok (.ireturn, 1) := by decide +kernel
theorem dX9_count_97 : decode cX9_count 97 = .ok (.aload_n 0, 1) := by decide +kernel
theorem dX9_count_98 : decode cX9_count 98 = .ok (.getfield 42, 3) := by decide +kernel
theorem dX9_count_101 : decode cX9_count 101 = .ok (.bipush 8, 2) := by decide +kernel
theorem dX9_count_103 : decode cX9_count 103 = .ok (.iaload, 1) := by decide +kernel
theorem dX9_count_104 : decode cX9_count 104 = .ok (.ireturn, 1) := by decide +kernel
theorem dX9_count_105 : decode cX9_count 105 = .ok (.aload_n 0, 1) := by decide +kernel
theorem dX9_count_106 : decode cX9_count 106 = .ok (.getfield 42, 3) := by decide +kernel
theorem dX9_count_109 : decode cX9_count 109 = .ok (.bipush 9, 2) := by decide +kernel
theorem dX9_count_111 : decode cX9_count 111 = .ok (.iaload, 1) := by decide +kernel
theorem dX9_count_112 : decode cX9_count 112 = .ok (.ireturn, 1) := by decide +kernel
theorem dX9_count_113 : decode cX9_count 113 = .ok (.aload_n 0, 1) := by decide +kernel
