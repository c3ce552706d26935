theorem dX0_init_0 : decode cX0_init 0 = .ok (.aload_n 0, 1) := by decide +kernel
theorem dX0_init_1 : decode cX0_init 1 = .ok (.invokespecial 3, 3) := by decide +kernel
theorem dX0_init_4 : decode cX0_init 4 = .ok (.aload_n 0, 1) := by decide +kernel
theorem dX0_init_5 : decode cX0_init 5 = .ok (.bipush 12, 2) := by decide +kernel
theorem dX0_init_7 : decode cX0_init 7 = .ok (.newarray .long, 2) := by decide +kernel
theorem dX0_init_9 : decode cX0_init 9 = .ok (.putfield 9, 3) := by decide +kernel
theorem dX0_init_12 : decode cX0_init 12 = .ok (.aload_n 0, 1) := by decide +kernel
theorem dX0_init_13 : decode cX0_init 13 = .ok (.iconst 0, 1) := by decide +kernel
theorem dX0_init_14 : decode cX0_init 14 = .ok (.putfield 15, 3) := by decide +kernel
theorem dX0_init_17 : decode cX0_init 17 = .ok (.aload_n 0, 1) := by decide +kernel
theorem dX0_init_18 : decode cX0_init 18 = .ok (.bipush 12, 2) := by decide +kernel
theorem dX0_init_20 : decode cX0_init 20 = .ok (.newarray .long, 2) := by decide +kernel
theorem dX0_init_22 : decode cX0_init 22 = .ok (.putfield 19, 3) := by decide +kernel
theorem dX0_init_25 : decode cX0_init 25 = .ok (.aload_n 0, 1) := by decide +kernel
theorem dX0_init_26 : decode cX0_init 26 = .ok (.iconst 0, 1) := by decide +kernel
theorem dX0_init_27 : decode cX0_init 27 = .ok (.putfield 22, 3) := by decide +kernel
theorem dX0_init_30 : decode cX0_init 30 = .ok (.aload_n 0, 1) := by decide +kernel
theorem dX0_init_31 : decode cX0_init 31 = .ok (.iconst 3, 1) := by decide +kernel
theorem dX0_init_32 : decode cX0_init 32 = .ok (.newarray .long, 2) := by decide +kernel
theorem dX0_init_34 : decode cX0_init 34 = .ok (.putfield 25, 3) := by decide +kernel
theorem dX0_init_37 : decode cX0_init 37 = .ok (.aload_n 0, 1) := by decide +kernel
theorem dX0_init_38 : decode cX0_init 38 = .ok (.iconst 0, 1) := by decide +kernel
theorem dX0_init_39 : decode cX0_init 39 = .ok (.putfield 28, 3) := by decide +kernel
theorem dX0_init_42 : decode cX0_init 42 = .ok (.return_, 1) := by decide +kernel
theorem dX0_clear_0 : decode cX0_clear 0 = .ok (.aload_n 0, 1) := by decide +kernel
theorem dX0_clear_1 : decode cX0_clear 1 = .ok (.invokevirtual 31, 3) := by decide +kernel
theorem dX0_clear_4 : decode cX0_clear 4 = .ok (.aload_n 0, 1) := by decide +kernel
theorem dX0_clear_5 : decode cX0_clear 5 = .ok (.iconst 0, 1) := by decide +kernel
theorem dX0_clear_6 : decode cX0_clear 6 = .ok (.putfield 28, 3) := by decide +kernel
theorem dX0_clear_9 : decode cX0_clear 9 = .ok (.return_, 1) := by decide +kernel
theorem dX0_forgetSteps_0 : decode cX0_forgetSteps 0 = .ok (.aload_n 0, 1) := by decide +kernel
theorem dX0_forgetSteps_1 : decode cX0_forgetSteps 1 = .ok (.iconst 0, 1) := by decide +kernel
theorem dX0_forgetSteps_2 : decode cX0_forgetSteps 2 = .ok (.putfield 15, 3) := by decide +kernel
theorem dX0_forgetSteps_5 : decode cX0_forgetSteps 5 = .ok (.aload_n 0, 1) := by decide +kernel
theorem dX0_forgetSteps_6 : decode cX0_forgetSteps 6 = .ok (.iconst 0, 1) := by decide +kernel
theorem dX0_forgetSteps_7 : decode cX0_forgetSteps 7 = .ok (.putfield 22, 3) := by decide +kernel
theorem dX0_forgetSteps_10 : decode cX0_forgetSteps 10 = .ok (.return_, 1) := by decide +kernel
theorem dX0_keep_0 : decode cX0_keep 0 = .ok (.aload_n 0, 1) := by decide +kernel
theorem dX0_keep_1 : decode cX0_keep 1 = .ok (.getfield 15, 3) := by decide +kernel
theorem dX0_keep_4 : decode cX0_keep 4 = .ok (.bipush 12, 2) := by decide +kernel
theorem dX0_keep_6 : decode cX0_keep 6 = .ok (.if_icmp .ne 28, 3) := by decide +kernel
theorem dX0_keep_9 : decode cX0_keep 9 = .ok (.aload_n 0, 1) := by decide +kernel
theorem dX0_keep_10 : decode cX0_keep 10 = .ok (.getfield 9, 3) := by decide +kernel
theorem dX0_keep_13 : decode cX0_keep 13 = .ok (.iconst 1, 1) := by decide +kernel
theorem dX0_keep_14 : decode cX0_keep 14 = .ok (.aload_n 0, 1) := by decide +kernel
theorem dX0_keep_15 : decode cX0_keep 15 = .ok (.getfield 9, 3) := by decide +kernel
theorem dX0_keep_18 : decode cX0_keep 18 = .ok (.iconst 0, 1) := by decide +kernel
theorem dX0_keep_19 : decode cX0_keep 19 = .ok (.bipush 11, 2) := by decide +kernel
theorem dX0_keep_21 : decode cX0_keep 21 = .ok (.invokestatic 34, 3) := by decide +kernel
theorem dX0_keep_24 : decode cX0_keep 24 = .ok (.aload_n 0, 1) := by decide +kernel
theorem dX0_keep_25 : decode cX0_keep 25 = .ok (.dup, 1) := by decide +kernel
theorem dX0_keep_26 : decode cX0_keep 26 = .ok (.getfield 15, 3) := by decide +kernel
theorem dX0_keep_29 : decode cX0_keep 29 = .ok (.iconst 1, 1) := by decide +kernel
theorem dX0_keep_30 : decode cX0_keep 30 = .ok (.isub, 1) := by decide +kernel
theorem dX0_keep_31 : decode cX0_keep 31 = .ok (.putfield 15, 3) := by decide +kernel
theorem dX0_keep_34 : decode cX0_keep 34 = .ok (.aload_n 0, 1) := by decide +kernel
theorem dX0_keep_35 : decode cX0_keep 35 = .ok (.getfield 9, 3) := by decide +kernel
theorem dX0_keep_38 : decode cX0_keep 38 = .ok (.aload_n 0, 1) := by decide +kernel
theorem dX0_keep_39 : decode cX0_keep 39 = .ok (.getfield 15, 3) := by decide +kernel
theorem dX0_keep_42 : decode cX0_keep 42 = .ok (.lload_n 1, 1) := by decide +kernel
theorem dX0_keep_43 : decode cX0_keep 43 = .ok (.lastore, 1) := by decide +kernel
theorem dX0_keep_44 : decode cX0_keep 44 = .ok (.aload_n 0, 1) := by decide +kernel
theorem dX0_keep_45 : decode cX0_keep 45 = .ok (.dup, 1) := by decide +kernel
theorem dX0_keep_46 : decode cX0_keep 46 = .ok (.getfield 15, 3) := by decide +kernel
theorem dX0_keep_49 : decode cX0_keep 49 = .ok (.iconst 1, 1) := by decide +kernel
theorem dX0_keep_50 : decode cX0_keep 50 = .ok (.iadd, 1) := by decide +kernel
theorem dX0_keep_51 : decode cX0_keep 51 = .ok (.putfield 15, 3) := by decide +kernel
theorem dX0_keep_54 : decode cX0_keep 54 = .ok (.aload_n 0, 1) := by decide +kernel
theorem dX0_keep_55 : decode cX0_keep 55 = .ok (.iconst 0, 1) := by decide +kernel
theorem dX0_keep_56 : decode cX0_keep 56 = .ok (.putfield 22, 3) := by decide +kernel
theorem dX0_keep_59 : decode cX0_keep 59 = .ok (.return_, 1) := by decide +kernel
theorem dX0_stepBack_0 : decode cX0_stepBack 0 = .ok (.aload_n 0, 1) := by decide +kernel
theorem dX0_stepBack_1 : decode cX0_stepBack 1 = .ok (.getfield 15, 3) := by decide +kernel
theorem dX0_stepBack_4 : decode cX0_stepBack 4 = .ok (.ifCond .eq 12, 3) := by decide +kernel
theorem dX0_stepBack_7 : decode cX0_stepBack 7 = .ok (.aload_n 0, 1) := by decide +kernel
theorem dX0_stepBack_8 : decode cX0_stepBack 8 = .ok (.getfield 22, 3) := by decide +kernel
theorem dX0_stepBack_11 : decode cX0_stepBack 11 = .ok (.bipush 12, 2) := by decide +kernel
theorem dX0_stepBack_13 : decode cX0_stepBack 13 = .ok (.if_icmp .ne 5, 3) := by decide +kernel
theorem dX0_stepBack_16 : decode cX0_stepBack 16 = .ok (.lload_n 1, 1) := by decide +kernel
theorem dX0_stepBack_17 : decode cX0_stepBack 17 = .ok (.lreturn, 1) := by decide +kernel
theorem dX0_stepBack_18 : decode cX0_stepBack 18 = .ok (.aload_n 0, 1) := by decide +kernel
theorem dX0_stepBack_19 : decode cX0_stepBack 19 = .ok (.getfield 19, 3) := by decide +kernel
theorem dX0_stepBack_22 : decode cX0_stepBack 22 = .ok (.aload_n 0, 1) := by decide +kernel
theorem dX0_stepBack_23 : decode cX0_stepBack 23 = .ok (.getfield 22, 3) := by decide +kernel
theorem dX0_stepBack_26 : decode cX0_stepBack 26 = .ok (.lload_n 1, 1) := by decide +kernel
theorem dX0_stepBack_27 : decode cX0_stepBack 27 = .ok (.lastore, 1) := by decide +kernel
theorem dX0_stepBack_28 : decode cX0_stepBack 28 = .ok (.aload_n 0, 1) := by decide +kernel
theorem dX0_stepBack_29 : decode cX0_stepBack 29 = .ok (.dup, 1) := by decide +kernel
theorem dX0_stepBack_30 : decode cX0_stepBack 30 = .ok (.getfield 22, 3) := by decide +kernel
theorem dX0_stepBack_33 : decode cX0_stepBack 33 = .ok (.iconst 1, 1) := by decide +kernel
theorem dX0_stepBack_34 : decode cX0_stepBack 34 = .ok (.iadd, 1) := by decide +kernel
theorem dX0_stepBack_35 : decode cX0_stepBack 35 = .ok (.putfield 22, 3) := by decide +kernel
theorem dX0_stepBack_38 : decode cX0_stepBack 38 = .ok (.aload_n 0, 1) := by decide +kernel
theorem dX0_stepBack_39 : decode cX0_stepBack 39 = .ok (.dup, 1) := by decide +kernel
theorem dX0_stepBack_40 : decode cX0_stepBack 40 = .ok (.getfield 15, 3) := by decide +kernel
theorem dX0_stepBack_43 : decode cX0_stepBack 43 = .ok (.iconst 1, 1) := by decide +kernel
theorem dX0_stepBack_44 : decode cX0_stepBack 44 = .ok (.isub, 1) := by decide +kernel
theorem dX0_stepBack_45 : decode cX0_stepBack 45 = .ok (.putfield 15, 3) := by decide +kernel
theorem dX0_stepBack_48 : decode cX0_stepBack 48 = .ok (.aload_n 0, 1) := by decide +kernel
theorem dX0_stepBack_49 : decode cX0_stepBack 49 = .ok (.getfield 9, 3) := by decide +kernel
theorem dX0_stepBack_52 : decode cX0_stepBack 52 = .ok (.aload_n 0, 1) := by decide +kernel
theorem dX0_stepBack_53 : decode cX0_stepBack 53 = .ok (.getfield 15, 3) := by decide +kernel
theorem dX0_stepBack_56 : decode cX0_stepBack 56 = .ok (.laload, 1) := by decide +kernel
theorem dX0_stepBack_57 : decode cX0_stepBack 57 = .ok (.lreturn, 1) := by decide +kernel
theorem dX0_stepOn_0 : decode cX0_stepOn 0 = .ok (.aload_n 0, 1) := by decide +kernel
theorem dX0_stepOn_1 : decode cX0_stepOn 1 = .ok (.getfield 22, 3) := by decide +kernel
theorem dX0_stepOn_4 : decode cX0_stepOn 4 = .ok (.ifCond .eq 12, 3) := by decide +kernel
theorem dX0_stepOn_7 : decode cX0_stepOn 7 = .ok (.aload_n 0, 1) := by decide +kernel
theorem dX0_stepOn_8 : decode cX0_stepOn 8 = .ok (.getfield 15, 3) := by decide +kernel
theorem dX0_stepOn_11 : decode cX0_stepOn 11 = .ok (.bipush 12, 2) := by decide +kernel
theorem dX0_stepOn_13 : decode cX0_stepOn 13 = .ok (.if_icmp .ne 5, 3) := by decide +kernel
theorem dX0_stepOn_16 : decode cX0_stepOn 16 = .ok (.lload_n 1, 1) := by decide +kernel
theorem dX0_stepOn_17 : decode cX0_stepOn 17 = .ok (.lreturn, 1) := by decide +kernel
theorem dX0_stepOn_18 : decode cX0_stepOn 18 = .ok (.aload_n 0, 1) := by decide +kernel
theorem dX0_stepOn_19 : decode cX0_stepOn 19 = .ok (.getfield 9, 3) := by decide +kernel
theorem dX0_stepOn_22 : decode cX0_stepOn 22 = .ok (.aload_n 0, 1) := by decide +kernel
theorem dX0_stepOn_23 : decode cX0_stepOn 23 = .ok (.getfield 15, 3) := by decide +kernel
theorem dX0_stepOn_26 : decode cX0_stepOn 26 = .ok (.lload_n 1, 1) := by decide +kernel
theorem dX0_stepOn_27 : decode cX0_stepOn 27 = .ok (.lastore, 1) := by decide +kernel
theorem dX0_stepOn_28 : decode cX0_stepOn 28 = .ok (.aload_n 0, 1) := by decide +kernel
theorem dX0_stepOn_29 : decode cX0_stepOn 29 = .ok (.dup, 1) := by decide +kernel
theorem dX0_stepOn_30 : decode cX0_stepOn 30 = .ok (.getfield 15, 3) := by decide +kernel
theorem dX0_stepOn_33 : decode cX0_stepOn 33 = .ok (.iconst 1, 1) := by decide +kernel
theorem dX0_stepOn_34 : decode cX0_stepOn 34 = .ok (.iadd, 1) := by decide +kernel
theorem dX0_stepOn_35 : decode cX0_stepOn 35 = .ok (.putfield 15, 3) := by decide +kernel
theorem dX0_stepOn_38 : decode cX0_stepOn 38 = .ok (.aload_n 0, 1) := by decide +kernel
theorem dX0_stepOn_39 : decode cX0_stepOn 39 = .ok (.dup, 1) := by decide +kernel
theorem dX0_stepOn_40 : decode cX0_stepOn 40 = .ok (.getfield 22, 3) := by decide +kernel
theorem dX0_stepOn_43 : decode cX0_stepOn 43 = .ok (.iconst 1, 1) := by decide +kernel
theorem dX0_stepOn_44 : decode cX0_stepOn 44 = .ok (.isub, 1) := by decide +kernel
theorem dX0_stepOn_45 : decode cX0_stepOn 45 = .ok (.putfield 22, 3) := by decide +kernel
theorem dX0_stepOn_48 : decode cX0_stepOn 48 = .ok (.aload_n 0, 1) := by decide +kernel
theorem dX0_stepOn_49 : decode cX0_stepOn 49 = .ok (.getfield 19, 3) := by decide +kernel
theorem dX0_stepOn_52 : decode cX0_stepOn 52 = .ok (.aload_n 0, 1) := by decide +kernel
theorem dX0_stepOn_53 : decode cX0_stepOn 53 = .ok (.getfield 22, 3) := by decide +kernel
theorem dX0_stepOn_56 : decode cX0_stepOn 56 = .ok (.laload, 1) := by decide +kernel
theorem dX0_stepOn_57 : decode cX0_stepOn 57 = .ok (.lreturn, 1) := by decide +kernel
theorem dX0_addImage_0 : decode cX0_addImage 0 = .ok (.aload_n 0, 1) := by decide +kernel
theorem dX0_addImage_1 : decode cX0_addImage 1 = .ok (.getfield 28, 3) := by decide +kernel
theorem dX0_addImage_4 : decode cX0_addImage 4 = .ok (.iconst 3, 1) := by decide +kernel
theorem dX0_addImage_5 : decode cX0_addImage 5 = .ok (.if_icmp .ne 5, 3) := by decide +kernel
theorem dX0_addImage_8 : decode cX0_addImage 8 = .ok (.iconst (-1), 1) := by decide +kernel
theorem dX0_addImage_9 : decode cX0_addImage 9 = .ok (.ireturn, 1) := by decide +kernel
theorem dX0_addImage_10 : decode cX0_addImage 10 = .ok (.aload_n 0, 1) := by decide +kernel
theorem dX0_addImage_11 : decode cX0_addImage 11 = .ok (.getfield 25, 3) := by decide +kernel
theorem dX0_addImage_14 : decode cX0_addImage 14 = .ok (.aload_n 0, 1) := by decide +kernel
theorem dX0_addImage_15 : decode cX0_addImage 15 = .ok (.getfield 28, 3) := by decide +kernel
theorem dX0_addImage_18 : decode cX0_addImage 18 = .ok (.lload_n 1, 1) := by decide +kernel
theorem dX0_addImage_19 : decode cX0_addImage 19 = .ok (.lastore, 1) := by decide +kernel
theorem dX0_addImage_20 : decode cX0_addImage 20 = .ok (.aload_n 0, 1) := by decide +kernel
theorem dX0_addImage_21 : decode cX0_addImage 21 = .ok (.dup, 1) := by decide +kernel
theorem dX0_addImage_22 : decode cX0_addImage 22 = .ok (.getfield 28, 3) := by decide +kernel
theorem dX0_addImage_25 : decode cX0_addImage 25 = .ok (.iconst 1, 1) := by decide +kernel
theorem dX0_addImage_26 : decode cX0_addImage 26 = .ok (.iadd, 1) := by decide +kernel
theorem dX0_addImage_27 : decode cX0_addImage 27 = .ok (.putfield 28, 3) := by decide +kernel
theorem dX0_addImage_30 : decode cX0_addImage 30 = .ok (.aload_n 0, 1) := by decide +kernel
theorem dX0_addImage_31 : decode cX0_addImage 31 = .ok (.getfield 28, 3) := by decide +kernel
theorem dX0_addImage_34 : decode cX0_addImage 34 = .ok (.iconst 1, 1) := by decide +kernel
theorem dX0_addImage_35 : decode cX0_addImage 35 = .ok (.isub, 1) := by decide +kernel
theorem dX0_addImage_36 : decode cX0_addImage 36 = .ok (.ireturn, 1) := by decide +kernel
theorem dX1_init_0 : decode cX1_init 0 = .ok (.aload_n 0, 1) := by decide +kernel
theorem dX1_init_1 : decode cX1_init 1 = .ok (.invokespecial 5, 3) := by decide +kernel
theorem dX1_init_4 : decode cX1_init 4 = .ok (.aload_n 0, 1) := by decide +kernel
theorem dX1_init_5 : decode cX1_init 5 = .ok (.bipush 7, 2) := by decide +kernel
theorem dX1_init_7 : decode cX1_init 7 = .ok (.newarray .int, 2) := by decide +kernel
theorem dX1_init_9 : decode cX1_init 9 = .ok (.putfield 11, 3) := by decide +kernel
theorem dX1_init_12 : decode cX1_init 12 = .ok (.aload_n 0, 1) := by decide +kernel
theorem dX1_init_13 : decode cX1_init 13 = .ok (.bipush 7, 2) := by decide +kernel
theorem dX1_init_15 : decode cX1_init 15 = .ok (.newarray .int, 2) := by decide +kernel
theorem dX1_init_17 : decode cX1_init 17 = .ok (.putfield 15, 3) := by decide +kernel
theorem dX1_init_20 : decode cX1_init 20 = .ok (.aload_n 0, 1) := by decide +kernel
theorem dX1_init_21 : decode cX1_init 21 = .ok (.iconst 0, 1) := by decide +kernel
theorem dX1_init_22 : decode cX1_init 22 = .ok (.putfield 18, 3) := by decide +kernel
theorem dX1_init_25 : decode cX1_init 25 = .ok (.aload_n 0, 1) := by decide +kernel
theorem dX1_init_26 : decode cX1_init 26 = .ok (.iconst 0, 1) := by decide +kernel
theorem dX1_init_27 : decode cX1_init 27 = .ok (.putfield 22, 3) := by decide +kernel
theorem dX1_init_30 : decode cX1_init 30 = .ok (.aload_n 0, 1) := by decide +kernel
theorem dX1_init_31 : decode cX1_init 31 = .ok (.sipush 128, 3) := by decide +kernel
theorem dX1_init_34 : decode cX1_init 34 = .ok (.newarray .int, 2) := by decide +kernel
theorem dX1_init_36 : decode cX1_init 36 = .ok (.putfield 26, 3) := by decide +kernel
theorem dX1_init_39 : decode cX1_init 39 = .ok (.aload_n 0, 1) := by decide +kernel
theorem dX1_init_40 : decode cX1_init 40 = .ok (.iconst 0, 1) := by decide +kernel
theorem dX1_init_41 : decode cX1_init 41 = .ok (.putfield 29, 3) := by decide +kernel
theorem dX1_init_44 : decode cX1_init 44 = .ok (.aload_n 0, 1) := by decide +kernel
theorem dX1_init_45 : decode cX1_init 45 = .ok (.ldc 32, 2) := by decide +kernel
theorem dX1_init_47 : decode cX1_init 47 = .ok (.putfield 33, 3) := by decide +kernel
theorem dX1_init_50 : decode cX1_init 50 = .ok (.aload_n 0, 1) := by decide +kernel
theorem dX1_init_51 : decode cX1_init 51 = .ok (.aload_n 1, 1) := by decide +kernel
theorem dX1_init_52 : decode cX1_init 52 = .ok (.putfield 36, 3) := by decide +kernel
theorem dX1_init_55 : decode cX1_init 55 = .ok (.return_, 1) := by decide +kernel
theorem dX1_playerOf_0 : decode cX1_playerOf 0 = .ok (.aload_n 0, 1) := by decide +kernel
theorem dX1_playerOf_1 : decode cX1_playerOf 1 = .ok (.getfield 18, 3) := by decide +kernel
theorem dX1_playerOf_4 : decode cX1_playerOf 4 = .ok (.aload_n 0, 1) := by decide +kernel
theorem dX1_playerOf_5 : decode cX1_playerOf 5 = .ok (.getfield 36, 3) := by decide +kernel
theorem dX1_playerOf_8 : decode cX1_playerOf 8 = .ok (.getfield 40, 3) := by decide +kernel
theorem dX1_playerOf_11 : decode cX1_playerOf 11 = .ok (.if_icmp .eq 62, 3) := by decide +kernel
theorem dX1_playerOf_14 : decode cX1_playerOf 14 = .ok (.aload_n 0, 1) := by decide +kernel
theorem dX1_playerOf_15 : decode cX1_playerOf 15 = .ok (.aload_n 0, 1) := by decide +kernel
theorem dX1_playerOf_16 : decode cX1_playerOf 16 = .ok (.getfield 36, 3) := by decide +kernel
theorem dX1_playerOf_19 : decode cX1_playerOf 19 = .ok (.getfield 40, 3) := by decide +kernel
theorem dX1_playerOf_22 : decode cX1_playerOf 22 = .ok (.putfield 18, 3) := by decide +kernel
theorem dX1_playerOf_25 : decode cX1_playerOf 25 = .ok (.aload_n 0, 1) := by decide +kernel
theorem dX1_playerOf_26 : decode cX1_playerOf 26 = .ok (.getfield 36, 3) := by decide +kernel
theorem dX1_playerOf_29 : decode cX1_playerOf 29 = .ok (.aload_n 0, 1) := by decide +kernel
theorem dX1_playerOf_30 : decode cX1_playerOf 30 = .ok (.getfield 36, 3) := by decide +kernel
theorem dX1_playerOf_33 : decode cX1_playerOf 33 = .ok (.invokevirtual 45, 3) := by decide +kernel
theorem dX1_playerOf_36 : decode cX1_playerOf 36 = .ok (.invokevirtual 49, 3) := by decide +kernel
theorem dX1_playerOf_39 : decode cX1_playerOf 39 = .ok (.istore_n 2, 1) := by decide +kernel
theorem dX1_playerOf_40 : decode cX1_playerOf 40 = .ok (.aload_n 0, 1) := by decide +kernel
theorem dX1_playerOf_41 : decode cX1_playerOf 41 = .ok (.getfield 11, 3) := by decide +kernel
theorem dX1_playerOf_44 : decode cX1_playerOf 44 = .ok (.iconst 0, 1) := by decide +kernel
theorem dX1_playerOf_45 : decode cX1_playerOf 45 = .ok (.invokestatic 53, 3) := by decide +kernel
theorem dX1_playerOf_48 : decode cX1_playerOf 48 = .ok (.aload_n 0, 1) := by decide +kernel
theorem dX1_playerOf_49 : decode cX1_playerOf 49 = .ok (.iload_n 2, 1) := by decide +kernel
theorem dX1_playerOf_50 : decode cX1_playerOf 50 = .ok (.bipush (-2), 2) := by decide +kernel
theorem dX1_playerOf_52 : decode cX1_playerOf 52 = .ok (.if_icmp .eq 17, 3) := by decide +kernel
theorem dX1_playerOf_55 : decode cX1_playerOf 55 = .ok (.aload_n 0, 1) := by decide +kernel
theorem dX1_playerOf_56 : decode cX1_playerOf 56 = .ok (.iconst 0, 1) := by decide +kernel
theorem dX1_playerOf_57 : decode cX1_playerOf 57 = .ok (.iconst 0, 1) := by decide +kernel
theorem dX1_playerOf_58 : decode cX1_playerOf 58 = .ok (.iload_n 2, 1) := by decide +kernel
theorem dX1_playerOf_59 : decode cX1_playerOf 59 = .ok (.invokevirtual 59, 3) := by decide +kernel
theorem dX1_playerOf_62 : decode cX1_playerOf 62 = .ok (.ifCond .eq 7, 3) := by decide +kernel
theorem dX1_playerOf_65 : decode cX1_playerOf 65 = .ok (.iconst 1, 1) := by decide +kernel
theorem dX1_playerOf_66 : decode cX1_playerOf 66 = .ok (.goto 4, 3) := by decide +kernel
theorem dX1_playerOf_69 : decode cX1_playerOf 69 = .ok (.iconst 0, 1) := by decide +kernel
theorem dX1_playerOf_70 : decode cX1_playerOf 70 = .ok (.putfield 22, 3) := by decide +kernel
theorem dX1_playerOf_73 : decode cX1_playerOf 73 = .ok (.aload_n 0, 1) := by decide +kernel
theorem dX1_playerOf_74 : decode cX1_playerOf 74 = .ok (.getfield 22, 3) := by decide +kernel
theorem dX1_playerOf_77 : decode cX1_playerOf 77 = .ok (.ifCond .eq 22, 3) := by decide +kernel
theorem dX1_playerOf_80 : decode cX1_playerOf 80 = .ok (.iload_n 1, 1) := by decide +kernel
theorem dX1_playerOf_81 : decode cX1_playerOf 81 = .ok (.ifCond .lt 18, 3) := by decide +kernel
theorem dX1_playerOf_84 : decode cX1_playerOf 84 = .ok (.iload_n 1, 1) := by decide +kernel
theorem dX1_playerOf_85 : decode cX1_playerOf 85 = .ok (.bipush 7, 2) := by decide +kernel
theorem dX1_playerOf_87 : decode cX1_playerOf 87 = .ok (.if_icmp .ge 12, 3) := by decide +kernel
theorem dX1_playerOf_90 : decode cX1_playerOf 90 = .ok (.aload_n 0, 1) := by decide +kernel
theorem dX1_playerOf_91 : decode cX1_playerOf 91 = .ok (.getfield 15, 3) := by decide +kernel
theorem dX1_playerOf_94 : decode cX1_playerOf 94 = .ok (.iload_n 1, 1) := by decide +kernel
theorem dX1_playerOf_95 : decode cX1_playerOf 95 = .ok (.iaload, 1) := by decide +kernel
theorem dX1_playerOf_96 : decode cX1_playerOf 96 = .ok (.goto 5, 3) := by decide +kernel
theorem dX1_playerOf_99 : decode cX1_playerOf 99 = .ok (.bipush (-2), 2) := by decide +kernel
theorem dX1_playerOf_101 : decode cX1_playerOf 101 = .ok (.ireturn, 1) := by decide +kernel
theorem dX1_gives_0 : decode cX1_gives 0 = .ok (.iload_n 1, 1) := by decide +kernel
theorem dX1_gives_1 : decode cX1_gives 1 = .ok (.aload_n 0, 1) := by decide +kernel
theorem dX1_gives_2 : decode cX1_gives 2 = .ok (.getfield 36, 3) := by decide +kernel
theorem dX1_gives_5 : decode cX1_gives 5 = .ok (.invokevirtual 63, 3) := by decide +kernel
theorem dX1_gives_8 : decode cX1_gives 8 = .ok (.if_icmp .lt 9, 3) := by decide +kernel
theorem dX1_gives_11 : decode cX1_gives 11 = .ok (.aload_n 0, 1) := by decide +kernel
theorem dX1_gives_12 : decode cX1_gives 12 = .ok (.iload_n 2, 1) := by decide +kernel
theorem dX1_gives_13 : decode cX1_gives 13 = .ok (.invokevirtual 66, 3) := by decide +kernel
theorem dX1_gives_16 : decode cX1_gives 16 = .ok (.ireturn, 1) := by decide +kernel
theorem dX1_gives_17 : decode cX1_gives 17 = .ok (.iconst 0, 1) := by decide +kernel
theorem dX1_gives_18 : decode cX1_gives 18 = .ok (.istore 4, 2) := by decide +kernel
theorem dX1_gives_20 : decode cX1_gives 20 = .ok (.iload 4, 2) := by decide +kernel
theorem dX1_gives_22 : decode cX1_gives 22 = .ok (.iload_n 2, 1) := by decide +kernel
theorem dX1_gives_23 : decode cX1_gives 23 = .ok (.if_icmp .gt 77, 3) := by decide +kernel
theorem dX1_gives_26 : decode cX1_gives 26 = .ok (.iload 4, 2) := by decide +kernel
theorem dX1_gives_28 : decode cX1_gives 28 = .ok (.iload_n 3, 1) := by decide +kernel
theorem dX1_gives_29 : decode cX1_gives 29 = .ok (.if_icmp .ge 71, 3) := by decide +kernel
theorem dX1_gives_32 : decode cX1_gives 32 = .ok (.iload 4, 2) := by decide +kernel
theorem dX1_gives_34 : decode cX1_gives 34 = .ok (.bipush 7, 2) := by decide +kernel
theorem dX1_gives_36 : decode cX1_gives 36 = .ok (.if_icmp .ge 64, 3) := by decide +kernel
theorem dX1_gives_39 : decode cX1_gives 39 = .ok (.aload_n 0, 1) := by decide +kernel
theorem dX1_gives_40 : decode cX1_gives 40 = .ok (.getfield 11, 3) := by decide +kernel
theorem dX1_gives_43 : decode cX1_gives 43 = .ok (.iload 4, 2) := by decide +kernel
theorem dX1_gives_45 : decode cX1_gives 45 = .ok (.dup2, 1) := by decide +kernel
theorem dX1_gives_46 : decode cX1_gives 46 = .ok (.iaload, 1) := by decide +kernel
theorem dX1_gives_47 : decode cX1_gives 47 = .ok (.iconst 1, 1) := by decide +kernel
theorem dX1_gives_48 : decode cX1_gives 48 = .ok (.iload_n 1, 1) := by decide +kernel
theorem dX1_gives_49 : decode cX1_gives 49 = .ok (.ishl, 1) := by decide +kernel
theorem dX1_gives_50 : decode cX1_gives 50 = .ok (.ior, 1) := by decide +kernel
theorem dX1_gives_51 : decode cX1_gives 51 = .ok (.iastore, 1) := by decide +kernel
theorem dX1_gives_52 : decode cX1_gives 52 = .ok (.aload_n 0, 1) := by decide +kernel
theorem dX1_gives_53 : decode cX1_gives 53 = .ok (.getfield 15, 3) := by decide +kernel
theorem dX1_gives_56 : decode cX1_gives 56 = .ok (.iload_n 1, 1) := by decide +kernel
theorem dX1_gives_57 : decode cX1_gives 57 = .ok (.iload 4, 2) := by decide +kernel
theorem dX1_gives_59 : decode cX1_gives 59 = .ok (.iastore, 1) := by decide +kernel
theorem dX1_gives_60 : decode cX1_gives 60 = .ok (.aload_n 0, 1) := by decide +kernel
theorem dX1_gives_61 : decode cX1_gives 61 = .ok (.iload_n 1, 1) := by decide +kernel
theorem dX1_gives_62 : decode cX1_gives 62 = .ok (.iconst 1, 1) := by decide +kernel
theorem dX1_gives_63 : decode cX1_gives 63 = .ok (.iadd, 1) := by decide +kernel
theorem dX1_gives_64 : decode cX1_gives 64 = .ok (.iload_n 2, 1) := by decide +kernel
theorem dX1_gives_65 : decode cX1_gives 65 = .ok (.iload 4, 2) := by decide +kernel
theorem dX1_gives_67 : decode cX1_gives 67 = .ok (.iconst 1, 1) := by decide +kernel
theorem dX1_gives_68 : decode cX1_gives 68 = .ok (.iadd, 1) := by decide +kernel
theorem dX1_gives_69 : decode cX1_gives 69 = .ok (.invokestatic 70, 3) := by decide +kernel
theorem dX1_gives_72 : decode cX1_gives 72 = .ok (.iload_n 3, 1) := by decide +kernel
theorem dX1_gives_73 : decode cX1_gives 73 = .ok (.invokevirtual 59, 3) := by decide +kernel
theorem dX1_gives_76 : decode cX1_gives 76 = .ok (.ifCond .eq 5, 3) := by decide +kernel
theorem dX1_gives_79 : decode cX1_gives 79 = .ok (.iconst 1, 1) := by decide +kernel
theorem dX1_gives_80 : decode cX1_gives 80 = .ok (.ireturn, 1) := by decide +kernel
theorem dX1_gives_81 : decode cX1_gives 81 = .ok (.aload_n 0, 1) := by decide +kernel
theorem dX1_gives_82 : decode cX1_gives 82 = .ok (.getfield 11, 3) := by decide +kernel
theorem dX1_gives_85 : decode cX1_gives 85 = .ok (.iload 4, 2) := by decide +kernel
theorem dX1_gives_87 : decode cX1_gives 87 = .ok (.dup2, 1) := by decide +kernel
theorem dX1_gives_88 : decode cX1_gives 88 = .ok (.iaload, 1) := by decide +kernel
theorem dX1_gives_89 : decode cX1_gives 89 = .ok (.iconst 1, 1) := by decide +kernel
theorem dX1_gives_90 : decode cX1_gives 90 = .ok (.iload_n 1, 1) := by decide +kernel
theorem dX1_gives_91 : decode cX1_gives 91 = .ok (.ishl, 1) := by decide +kernel
theorem dX1_gives_92 : decode cX1_gives 92 = .ok (.ixor, 1) := by decide +kernel
theorem dX1_gives_93 : decode cX1_gives 93 = .ok (.iastore, 1) := by decide +kernel
theorem dX1_gives_94 : decode cX1_gives 94 = .ok (.iinc 4 1, 3) := by decide +kernel
theorem dX1_gives_97 : decode cX1_gives 97 = .ok (.goto (-77), 3) := by decide +kernel
theorem dX1_gives_100 : decode cX1_gives 100 = .ok (.iconst 0, 1) := by decide +kernel
theorem dX1_gives_101 : decode cX1_gives 101 = .ok (.ireturn, 1) := by decide +kernel
theorem dX1_allGood_0 : decode cX1_allGood 0 = .ok (.iconst 0, 1) := by decide +kernel
theorem dX1_allGood_1 : decode cX1_allGood 1 = .ok (.istore_n 2, 1) := by decide +kernel
theorem dX1_allGood_2 : decode cX1_allGood 2 = .ok (.iload_n 2, 1) := by decide +kernel
theorem dX1_allGood_3 : decode cX1_allGood 3 = .ok (.iload_n 1, 1) := by decide +kernel
theorem dX1_allGood_4 : decode cX1_allGood 4 = .ok (.if_icmp .ge 27, 3) := by decide +kernel
theorem dX1_allGood_7 : decode cX1_allGood 7 = .ok (.aload_n 0, 1) := by decide +kernel
theorem dX1_allGood_8 : decode cX1_allGood 8 = .ok (.getfield 36, 3) := by decide +kernel
theorem dX1_allGood_11 : decode cX1_allGood 11 = .ok (.aload_n 0, 1) := by decide +kernel
theorem dX1_allGood_12 : decode cX1_allGood 12 = .ok (.getfield 11, 3) := by decide +kernel
theorem dX1_allGood_15 : decode cX1_allGood 15 = .ok (.iload_n 2, 1) := by decide +kernel
theorem dX1_allGood_16 : decode cX1_allGood 16 = .ok (.iaload, 1) := by decide +kernel
theorem dX1_allGood_17 : decode cX1_allGood 17 = .ok (.invokevirtual 76, 3) := by decide +kernel
theorem dX1_allGood_20 : decode cX1_allGood 20 = .ok (.ifCond .ne 5, 3) := by decide +kernel
theorem dX1_allGood_23 : decode cX1_allGood 23 = .ok (.iconst 0, 1) := by decide +kernel
theorem dX1_allGood_24 : decode cX1_allGood 24 = .ok (.ireturn, 1) := by decide +kernel
theorem dX1_allGood_25 : decode cX1_allGood 25 = .ok (.iinc 2 1, 3) := by decide +kernel
theorem dX1_allGood_28 : decode cX1_allGood 28 = .ok (.goto (-26), 3) := by decide +kernel
theorem dX1_allGood_31 : decode cX1_allGood 31 = .ok (.iconst 1, 1) := by decide +kernel
theorem dX1_allGood_32 : decode cX1_allGood 32 = .ok (.ireturn, 1) := by decide +kernel
theorem dX1_castsFor_0 : decode cX1_castsFor 0 = .ok (.aload_n 0, 1) := by decide +kernel
theorem dX1_castsFor_1 : decode cX1_castsFor 1 = .ok (.aload_n 0, 1) := by decide +kernel
theorem dX1_castsFor_2 : decode cX1_castsFor 2 = .ok (.getfield 36, 3) := by decide +kernel
theorem dX1_castsFor_5 : decode cX1_castsFor 5 = .ok (.invokevirtual 45, 3) := by decide +kernel
theorem dX1_castsFor_8 : decode cX1_castsFor 8 = .ok (.iload_n 1, 1) := by decide +kernel
theorem dX1_castsFor_9 : decode cX1_castsFor 9 = .ok (.invokevirtual 79, 3) := by decide +kernel
theorem dX1_castsFor_12 : decode cX1_castsFor 12 = .ok (.ireturn, 1) := by decide +kernel
theorem dX1_ways_0 : decode cX1_ways 0 = .ok (.iload_n 2, 1) := by decide +kernel
theorem dX1_ways_1 : decode cX1_ways 1 = .ok (.iconst 1, 1) := by decide +kernel
theorem dX1_ways_2 : decode cX1_ways 2 = .ok (.if_icmp .gt 20, 3) := by decide +kernel
theorem dX1_ways_5 : decode cX1_ways 5 = .ok (.aload_n 0, 1) := by decide +kernel
theorem dX1_ways_6 : decode cX1_ways 6 = .ok (.getfield 36, 3) := by decide +kernel
theorem dX1_ways_9 : decode cX1_ways 9 = .ok (.iload_n 1, 1) := by decide +kernel
theorem dX1_ways_10 : decode cX1_ways 10 = .ok (.invokevirtual 76, 3) := by decide +kernel
theorem dX1_ways_13 : decode cX1_ways 13 = .ok (.ifCond .eq 7, 3) := by decide +kernel
theorem dX1_ways_16 : decode cX1_ways 16 = .ok (.iconst 1, 1) := by decide +kernel
theorem dX1_ways_17 : decode cX1_ways 17 = .ok (.goto 4, 3) := by decide +kernel
theorem dX1_ways_20 : decode cX1_ways 20 = .ok (.iconst 0, 1) := by decide +kernel
theorem dX1_ways_21 : decode cX1_ways 21 = .ok (.ireturn, 1) := by decide +kernel
theorem dX1_ways_22 : decode cX1_ways 22 = .ok (.aload_n 0, 1) := by decide +kernel
theorem dX1_ways_23 : decode cX1_ways 23 = .ok (.getfield 36, 3) := by decide +kernel
theorem dX1_ways_26 : decode cX1_ways 26 = .ok (.iconst 0, 1) := by decide +kernel
theorem dX1_ways_27 : decode cX1_ways 27 = .ok (.invokevirtual 76, 3) := by decide +kernel
theorem dX1_ways_30 : decode cX1_ways 30 = .ok (.ifCond .eq 14, 3) := by decide +kernel
theorem dX1_ways_33 : decode cX1_ways 33 = .ok (.aload_n 0, 1) := by decide +kernel
theorem dX1_ways_34 : decode cX1_ways 34 = .ok (.iload_n 1, 1) := by decide +kernel
theorem dX1_ways_35 : decode cX1_ways 35 = .ok (.iload_n 2, 1) := by decide +kernel
theorem dX1_ways_36 : decode cX1_ways 36 = .ok (.iconst 1, 1) := by decide +kernel
theorem dX1_ways_37 : decode cX1_ways 37 = .ok (.isub, 1) := by decide +kernel
theorem dX1_ways_38 : decode cX1_ways 38 = .ok (.invokevirtual 79, 3) := by decide +kernel
theorem dX1_ways_41 : decode cX1_ways 41 = .ok (.goto 4, 3) := by decide +kernel
theorem dX1_ways_44 : decode cX1_ways 44 = .ok (.iconst 0, 1) := by decide +kernel
theorem dX1_ways_45 : decode cX1_ways 45 = .ok (.istore_n 3, 1) := by decide +kernel
theorem dX1_ways_46 : decode cX1_ways 46 = .ok (.iload_n 1, 1) := by decide +kernel
theorem dX1_ways_47 : decode cX1_ways 47 = .ok (.istore 4, 2) := by decide +kernel
theorem dX1_ways_49 : decode cX1_ways 49 = .ok (.iload 4, 2) := by decide +kernel
theorem dX1_ways_51 : decode cX1_ways 51 = .ok (.ifCond .le 40, 3) := by decide +kernel
theorem dX1_ways_54 : decode cX1_ways 54 = .ok (.aload_n 0, 1) := by decide +kernel
theorem dX1_ways_55 : decode cX1_ways 55 = .ok (.getfield 36, 3) := by decide +kernel
theorem dX1_ways_58 : decode cX1_ways 58 = .ok (.iload 4, 2) := by decide +kernel
theorem dX1_ways_60 : decode cX1_ways 60 = .ok (.invokevirtual 76, 3) := by decide +kernel
theorem dX1_ways_63 : decode cX1_ways 63 = .ok (.ifCond .eq 17, 3) := by decide +kernel
theorem dX1_ways_66 : decode cX1_ways 66 = .ok (.iload_n 3, 1) := by decide +kernel
theorem dX1_ways_67 : decode cX1_ways 67 = .ok (.aload_n 0, 1) := by decide +kernel
theorem dX1_ways_68 : decode cX1_ways 68 = .ok (.iload_n 1, 1) := by decide +kernel
theorem dX1_ways_69 : decode cX1_ways 69 = .ok (.iload 4, 2) := by decide +kernel
theorem dX1_ways_71 : decode cX1_ways 71 = .ok (.ixor, 1) := by decide +kernel
theorem dX1_ways_72 : decode cX1_ways 72 = .ok (.iload_n 2, 1) := by decide +kernel
theorem dX1_ways_73 : decode cX1_ways 73 = .ok (.iconst 1, 1) := by decide +kernel
theorem dX1_ways_74 : decode cX1_ways 74 = .ok (.isub, 1) := by decide +kernel
theorem dX1_ways_75 : decode cX1_ways 75 = .ok (.invokevirtual 79, 3) := by decide +kernel
theorem dX1_ways_78 : decode cX1_ways 78 = .ok (.iadd, 1) := by decide +kernel
theorem dX1_ways_79 : decode cX1_ways 79 = .ok (.istore_n 3, 1) := by decide +kernel
theorem dX1_ways_80 : decode cX1_ways 80 = .ok (.iload 4, 2) := by decide +kernel
theorem dX1_ways_82 : decode cX1_ways 82 = .ok (.iconst 1, 1) := by decide +kernel
theorem dX1_ways_83 : decode cX1_ways 83 = .ok (.isub, 1) := by decide +kernel
theorem dX1_ways_84 : decode cX1_ways 84 = .ok (.iload_n 1, 1) := by decide +kernel
theorem dX1_ways_85 : decode cX1_ways 85 = .ok (.iand, 1) := by decide +kernel
theorem dX1_ways_86 : decode cX1_ways 86 = .ok (.istore 4, 2) := by decide +kernel
theorem dX1_ways_88 : decode cX1_ways 88 = .ok (.goto (-39), 3) := by decide +kernel
theorem dX1_ways_91 : decode cX1_ways 91 = .ok (.iload_n 3, 1) := by decide +kernel
theorem dX1_ways_92 : decode cX1_ways 92 = .ok (.ireturn, 1) := by decide +kernel
theorem dX1_fewestCuts_0 : decode cX1_fewestCuts 0 = .ok (.aload_n 0, 1) := by decide +kernel
theorem dX1_fewestCuts_1 : decode cX1_fewestCuts 1 = .ok (.invokevirtual 82, 3) := by decide +kernel
theorem dX1_fewestCuts_4 : decode cX1_fewestCuts 4 = .ok (.aload_n 0, 1) := by decide +kernel
theorem dX1_fewestCuts_5 : decode cX1_fewestCuts 5 = .ok (.getfield 33, 3) := by decide +kernel
theorem dX1_fewestCuts_8 : decode cX1_fewestCuts 8 = .ok (.ldc 32, 2) := by decide +kernel
theorem dX1_fewestCuts_10 : decode cX1_fewestCuts 10 = .ok (.if_icmp .lt 8, 3) := by decide +kernel
theorem dX1_fewestCuts_13 : decode cX1_fewestCuts 13 = .ok (.bipush (-2), 2) := by decide +kernel
theorem dX1_fewestCuts_15 : decode cX1_fewestCuts 15 = .ok (.goto 11, 3) := by decide +kernel
theorem dX1_fewestCuts_18 : decode cX1_fewestCuts 18 = .ok (.aload_n 0, 1) := by decide +kernel
theorem dX1_fewestCuts_19 : decode cX1_fewestCuts 19 = .ok (.getfield 33, 3) := by decide +kernel
theorem dX1_fewestCuts_22 : decode cX1_fewestCuts 22 = .ok (.sipush 16384, 3) := by decide +kernel
theorem dX1_fewestCuts_25 : decode cX1_fewestCuts 25 = .ok (.idiv, 1) := by decide +kernel
theorem dX1_fewestCuts_26 : decode cX1_fewestCuts 26 = .ok (.ireturn, 1) := by decide +kernel
theorem dX1_cutBits_0 : decode cX1_cutBits 0 = .ok (.aload_n 0, 1) := by decide +kernel
theorem dX1_cutBits_1 : decode cX1_cutBits 1 = .ok (.invokevirtual 82, 3) := by decide +kernel
theorem dX1_cutBits_4 : decode cX1_cutBits 4 = .ok (.aload_n 0, 1) := by decide +kernel
theorem dX1_cutBits_5 : decode cX1_cutBits 5 = .ok (.getfield 33, 3) := by decide +kernel
theorem dX1_cutBits_8 : decode cX1_cutBits 8 = .ok (.ldc 32, 2) := by decide +kernel
theorem dX1_cutBits_10 : decode cX1_cutBits 10 = .ok (.if_icmp .lt 8, 3) := by decide +kernel
theorem dX1_cutBits_13 : decode cX1_cutBits 13 = .ok (.bipush (-2), 2) := by decide +kernel
theorem dX1_cutBits_15 : decode cX1_cutBits 15 = .ok (.goto 11, 3) := by decide +kernel
theorem dX1_cutBits_18 : decode cX1_cutBits 18 = .ok (.aload_n 0, 1) := by decide +kernel
theorem dX1_cutBits_19 : decode cX1_cutBits 19 = .ok (.getfield 33, 3) := by decide +kernel
theorem dX1_cutBits_22 : decode cX1_cutBits 22 = .ok (.sipush 16384, 3) := by decide +kernel
theorem dX1_cutBits_25 : decode cX1_cutBits 25 = .ok (.irem, 1) := by decide +kernel
theorem dX1_cutBits_26 : decode cX1_cutBits 26 = .ok (.ireturn, 1) := by decide +kernel
theorem dX1_findCuts_0 : decode cX1_findCuts 0 = .ok (.aload_n 0, 1) := by decide +kernel
theorem dX1_findCuts_1 : decode cX1_findCuts 1 = .ok (.getfield 29, 3) := by decide +kernel
theorem dX1_findCuts_4 : decode cX1_findCuts 4 = .ok (.aload_n 0, 1) := by decide +kernel
theorem dX1_findCuts_5 : decode cX1_findCuts 5 = .ok (.getfield 36, 3) := by decide +kernel
theorem dX1_findCuts_8 : decode cX1_findCuts 8 = .ok (.getfield 40, 3) := by decide +kernel
theorem dX1_findCuts_11 : decode cX1_findCuts 11 = .ok (.if_icmp .ne 4, 3) := by decide +kernel
theorem dX1_findCuts_14 : decode cX1_findCuts 14 = .ok (.return_, 1) := by decide +kernel
theorem dX1_findCuts_15 : decode cX1_findCuts 15 = .ok (.aload_n 0, 1) := by decide +kernel
theorem dX1_findCuts_16 : decode cX1_findCuts 16 = .ok (.aload_n 0, 1) := by decide +kernel
theorem dX1_findCuts_17 : decode cX1_findCuts 17 = .ok (.getfield 36, 3) := by decide +kernel
theorem dX1_findCuts_20 : decode cX1_findCuts 20 = .ok (.getfield 40, 3) := by decide +kernel
theorem dX1_findCuts_23 : decode cX1_findCuts 23 = .ok (.putfield 29, 3) := by decide +kernel
theorem dX1_findCuts_26 : decode cX1_findCuts 26 = .ok (.aload_n 0, 1) := by decide +kernel
theorem dX1_findCuts_27 : decode cX1_findCuts 27 = .ok (.getfield 26, 3) := by decide +kernel
theorem dX1_findCuts_30 : decode cX1_findCuts 30 = .ok (.ldc 32, 2) := by decide +kernel
theorem dX1_findCuts_32 : decode cX1_findCuts 32 = .ok (.invokestatic 53, 3) := by decide +kernel
theorem dX1_findCuts_35 : decode cX1_findCuts 35 = .ok (.aload_n 0, 1) := by decide +kernel
theorem dX1_findCuts_36 : decode cX1_findCuts 36 = .ok (.ldc 32, 2) := by decide +kernel
theorem dX1_findCuts_38 : decode cX1_findCuts 38 = .ok (.putfield 33, 3) := by decide +kernel
theorem dX1_findCuts_41 : decode cX1_findCuts 41 = .ok (.iconst 0, 1) := by decide +kernel
theorem dX1_findCuts_42 : decode cX1_findCuts 42 = .ok (.istore_n 1, 1) := by decide +kernel
theorem dX1_findCuts_43 : decode cX1_findCuts 43 = .ok (.iload_n 1, 1) := by decide +kernel
theorem dX1_findCuts_44 : decode cX1_findCuts 44 = .ok (.iconst 3, 1) := by decide +kernel
theorem dX1_findCuts_45 : decode cX1_findCuts 45 = .ok (.if_icmp .gt 58, 3) := by decide +kernel
theorem dX1_findCuts_48 : decode cX1_findCuts 48 = .ok (.aload_n 0, 1) := by decide +kernel
theorem dX1_findCuts_49 : decode cX1_findCuts 49 = .ok (.getfield 33, 3) := by decide +kernel
theorem dX1_findCuts_52 : decode cX1_findCuts 52 = .ok (.ldc 32, 2) := by decide +kernel
theorem dX1_findCuts_54 : decode cX1_findCuts 54 = .ok (.if_icmp .lt 49, 3) := by decide +kernel
theorem dX1_findCuts_57 : decode cX1_findCuts 57 = .ok (.aload_n 0, 1) := by decide +kernel
theorem dX1_findCuts_58 : decode cX1_findCuts 58 = .ok (.iload_n 1, 1) := by decide +kernel
theorem dX1_findCuts_59 : decode cX1_findCuts 59 = .ok (.invokevirtual 85, 3) := by decide +kernel
theorem dX1_findCuts_62 : decode cX1_findCuts 62 = .ok (.aload_n 0, 1) := by decide +kernel
theorem dX1_findCuts_63 : decode cX1_findCuts 63 = .ok (.aload_n 0, 1) := by decide +kernel
theorem dX1_findCuts_64 : decode cX1_findCuts 64 = .ok (.getfield 36, 3) := by decide +kernel
theorem dX1_findCuts_67 : decode cX1_findCuts 67 = .ok (.invokevirtual 45, 3) := by decide +kernel
theorem dX1_findCuts_70 : decode cX1_findCuts 70 = .ok (.aload_n 0, 1) := by decide +kernel
theorem dX1_findCuts_71 : decode cX1_findCuts 71 = .ok (.getfield 36, 3) := by decide +kernel
theorem dX1_findCuts_74 : decode cX1_findCuts 74 = .ok (.invokevirtual 89, 3) := by decide +kernel
theorem dX1_findCuts_77 : decode cX1_findCuts 77 = .ok (.invokevirtual 92, 3) := by decide +kernel
theorem dX1_findCuts_80 : decode cX1_findCuts 80 = .ok (.istore_n 2, 1) := by decide +kernel
theorem dX1_findCuts_81 : decode cX1_findCuts 81 = .ok (.iload_n 2, 1) := by decide +kernel
theorem dX1_findCuts_82 : decode cX1_findCuts 82 = .ok (.iload_n 1, 1) := by decide +kernel
theorem dX1_findCuts_83 : decode cX1_findCuts 83 = .ok (.iconst 1, 1) := by decide +kernel
theorem dX1_findCuts_84 : decode cX1_findCuts 84 = .ok (.iadd, 1) := by decide +kernel
theorem dX1_findCuts_85 : decode cX1_findCuts 85 = .ok (.sipush 16384, 3) := by decide +kernel
theorem dX1_findCuts_88 : decode cX1_findCuts 88 = .ok (.imul, 1) := by decide +kernel
theorem dX1_findCuts_89 : decode cX1_findCuts 89 = .ok (.if_icmp .ge 8, 3) := by decide +kernel
theorem dX1_findCuts_92 : decode cX1_findCuts 92 = .ok (.aload_n 0, 1) := by decide +kernel
theorem dX1_findCuts_93 : decode cX1_findCuts 93 = .ok (.iload_n 2, 1) := by decide +kernel
theorem dX1_findCuts_94 : decode cX1_findCuts 94 = .ok (.putfield 33, 3) := by decide +kernel
theorem dX1_findCuts_97 : decode cX1_findCuts 97 = .ok (.iinc 1 1, 3) := by decide +kernel
theorem dX1_findCuts_100 : decode cX1_findCuts 100 = .ok (.goto (-57), 3) := by decide +kernel
theorem dX1_findCuts_103 : decode cX1_findCuts 103 = .ok (.return_, 1) := by decide +kernel
theorem dX1_addCuts_0 : decode cX1_addCuts 0 = .ok (.aload_n 0, 1) := by decide +kernel
theorem dX1_addCuts_1 : decode cX1_addCuts 1 = .ok (.getfield 36, 3) := by decide +kernel
theorem dX1_addCuts_4 : decode cX1_addCuts 4 = .ok (.invokevirtual 45, 3) := by decide +kernel
theorem dX1_addCuts_7 : decode cX1_addCuts 7 = .ok (.istore_n 2, 1) := by decide +kernel
theorem dX1_addCuts_8 : decode cX1_addCuts 8 = .ok (.iconst 0, 1) := by decide +kernel
theorem dX1_addCuts_9 : decode cX1_addCuts 9 = .ok (.istore_n 3, 1) := by decide +kernel
theorem dX1_addCuts_10 : decode cX1_addCuts 10 = .ok (.iload_n 3, 1) := by decide +kernel
theorem dX1_addCuts_11 : decode cX1_addCuts 11 = .ok (.iload_n 2, 1) := by decide +kernel
theorem dX1_addCuts_12 : decode cX1_addCuts 12 = .ok (.if_icmp .gt 58, 3) := by decide +kernel
theorem dX1_addCuts_15 : decode cX1_addCuts 15 = .ok (.iload_n 3, 1) := by decide +kernel
theorem dX1_addCuts_16 : decode cX1_addCuts 16 = .ok (.sipush 128, 3) := by decide +kernel
theorem dX1_addCuts_19 : decode cX1_addCuts 19 = .ok (.if_icmp .ge 51, 3) := by decide +kernel
theorem dX1_addCuts_22 : decode cX1_addCuts 22 = .ok (.aload_n 0, 1) := by decide +kernel
theorem dX1_addCuts_23 : decode cX1_addCuts 23 = .ok (.getfield 26, 3) := by decide +kernel
theorem dX1_addCuts_26 : decode cX1_addCuts 26 = .ok (.iload_n 3, 1) := by decide +kernel
theorem dX1_addCuts_27 : decode cX1_addCuts 27 = .ok (.iaload, 1) := by decide +kernel
theorem dX1_addCuts_28 : decode cX1_addCuts 28 = .ok (.ldc 32, 2) := by decide +kernel
theorem dX1_addCuts_30 : decode cX1_addCuts 30 = .ok (.if_icmp .ne 34, 3) := by decide +kernel
theorem dX1_addCuts_33 : decode cX1_addCuts 33 = .ok (.aload_n 0, 1) := by decide +kernel
theorem dX1_addCuts_34 : decode cX1_addCuts 34 = .ok (.getfield 36, 3) := by decide +kernel
theorem dX1_addCuts_37 : decode cX1_addCuts 37 = .ok (.iload_n 3, 1) := by decide +kernel
theorem dX1_addCuts_38 : decode cX1_addCuts 38 = .ok (.iload_n 1, 1) := by decide +kernel
theorem dX1_addCuts_39 : decode cX1_addCuts 39 = .ok (.invokevirtual 95, 3) := by decide +kernel
theorem dX1_addCuts_42 : decode cX1_addCuts 42 = .ok (.istore 4, 2) := by decide +kernel
theorem dX1_addCuts_44 : decode cX1_addCuts 44 = .ok (.iload 4, 2) := by decide +kernel
theorem dX1_addCuts_46 : decode cX1_addCuts 46 = .ok (.iconst (-1), 1) := by decide +kernel
theorem dX1_addCuts_47 : decode cX1_addCuts 47 = .ok (.if_icmp .eq 17, 3) := by decide +kernel
theorem dX1_addCuts_50 : decode cX1_addCuts 50 = .ok (.aload_n 0, 1) := by decide +kernel
theorem dX1_addCuts_51 : decode cX1_addCuts 51 = .ok (.getfield 26, 3) := by decide +kernel
theorem dX1_addCuts_54 : decode cX1_addCuts 54 = .ok (.iload_n 3, 1) := by decide +kernel
theorem dX1_addCuts_55 : decode cX1_addCuts 55 = .ok (.iload_n 1, 1) := by decide +kernel
theorem dX1_addCuts_56 : decode cX1_addCuts 56 = .ok (.sipush 16384, 3) := by decide +kernel
theorem dX1_addCuts_59 : decode cX1_addCuts 59 = .ok (.imul, 1) := by decide +kernel
theorem dX1_addCuts_60 : decode cX1_addCuts 60 = .ok (.iload 4, 2) := by decide +kernel
theorem dX1_addCuts_62 : decode cX1_addCuts 62 = .ok (.iadd, 1) := by decide +kernel
theorem dX1_addCuts_63 : decode cX1_addCuts 63 = .ok (.iastore, 1) := by decide +kernel
theorem dX1_addCuts_64 : decode cX1_addCuts 64 = .ok (.iinc 3 1, 3) := by decide +kernel
theorem dX1_addCuts_67 : decode cX1_addCuts 67 = .ok (.goto (-57), 3) := by decide +kernel
theorem dX1_addCuts_70 : decode cX1_addCuts 70 = .ok (.return_, 1) := by decide +kernel
theorem dX1_cheapest_0 : decode cX1_cheapest 0 = .ok (.iload_n 1, 1) := by decide +kernel
theorem dX1_cheapest_1 : decode cX1_cheapest 1 = .ok (.ifCond .ne 5, 3) := by decide +kernel
theorem dX1_cheapest_4 : decode cX1_cheapest 4 = .ok (.iconst 0, 1) := by decide +kernel
theorem dX1_cheapest_5 : decode cX1_cheapest 5 = .ok (.ireturn, 1) := by decide +kernel
theorem dX1_cheapest_6 : decode cX1_cheapest 6 = .ok (.iload_n 2, 1) := by decide +kernel
theorem dX1_cheapest_7 : decode cX1_cheapest 7 = .ok (.iconst 1, 1) := by decide +kernel
theorem dX1_cheapest_8 : decode cX1_cheapest 8 = .ok (.if_icmp .gt 20, 3) := by decide +kernel
theorem dX1_cheapest_11 : decode cX1_cheapest 11 = .ok (.iload_n 2, 1) := by decide +kernel
theorem dX1_cheapest_12 : decode cX1_cheapest 12 = .ok (.iconst 1, 1) := by decide +kernel
theorem dX1_cheapest_13 : decode cX1_cheapest 13 = .ok (.if_icmp .ne 12, 3) := by decide +kernel
theorem dX1_cheapest_16 : decode cX1_cheapest 16 = .ok (.aload_n 0, 1) := by decide +kernel
theorem dX1_cheapest_17 : decode cX1_cheapest 17 = .ok (.getfield 26, 3) := by decide +kernel
theorem dX1_cheapest_20 : decode cX1_cheapest 20 = .ok (.iload_n 1, 1) := by decide +kernel
theorem dX1_cheapest_21 : decode cX1_cheapest 21 = .ok (.iaload, 1) := by decide +kernel
theorem dX1_cheapest_22 : decode cX1_cheapest 22 = .ok (.goto 5, 3) := by decide +kernel
theorem dX1_cheapest_25 : decode cX1_cheapest 25 = .ok (.ldc 32, 2) := by decide +kernel
theorem dX1_cheapest_27 : decode cX1_cheapest 27 = .ok (.ireturn, 1) := by decide +kernel
theorem dX1_cheapest_28 : decode cX1_cheapest 28 = .ok (.iload_n 1, 1) := by decide +kernel
theorem dX1_cheapest_29 : decode cX1_cheapest 29 = .ok (.iload_n 1, 1) := by decide +kernel
theorem dX1_cheapest_30 : decode cX1_cheapest 30 = .ok (.ineg, 1) := by decide +kernel
theorem dX1_cheapest_31 : decode cX1_cheapest 31 = .ok (.iand, 1) := by decide +kernel
theorem dX1_cheapest_32 : decode cX1_cheapest 32 = .ok (.istore_n 3, 1) := by decide +kernel
theorem dX1_cheapest_33 : decode cX1_cheapest 33 = .ok (.iload_n 1, 1) := by decide +kernel
theorem dX1_cheapest_34 : decode cX1_cheapest 34 = .ok (.iload_n 3, 1) := by decide +kernel
theorem dX1_cheapest_35 : decode cX1_cheapest 35 = .ok (.ixor, 1) := by decide +kernel
theorem dX1_cheapest_36 : decode cX1_cheapest 36 = .ok (.istore 4, 2) := by decide +kernel
theorem dX1_cheapest_38 : decode cX1_cheapest 38 = .ok (.ldc 32, 2) := by decide +kernel
theorem dX1_cheapest_40 : decode cX1_cheapest 40 = .ok (.aload_n 0, 1) := by decide +kernel
theorem dX1_cheapest_41 : decode cX1_cheapest 41 = .ok (.getfield 26, 3) := by decide +kernel
theorem dX1_cheapest_44 : decode cX1_cheapest 44 = .ok (.iload_n 3, 1) := by decide +kernel
theorem dX1_cheapest_45 : decode cX1_cheapest 45 = .ok (.iaload, 1) := by decide +kernel
theorem dX1_cheapest_46 : decode cX1_cheapest 46 = .ok (.aload_n 0, 1) := by decide +kernel
theorem dX1_cheapest_47 : decode cX1_cheapest 47 = .ok (.iload 4, 2) := by decide +kernel
theorem dX1_cheapest_49 : decode cX1_cheapest 49 = .ok (.iload_n 2, 1) := by decide +kernel
theorem dX1_cheapest_50 : decode cX1_cheapest 50 = .ok (.iconst 1, 1) := by decide +kernel
theorem dX1_cheapest_51 : decode cX1_cheapest 51 = .ok (.isub, 1) := by decide +kernel
theorem dX1_cheapest_52 : decode cX1_cheapest 52 = .ok (.invokevirtual 92, 3) := by decide +kernel
theorem dX1_cheapest_55 : decode cX1_cheapest 55 = .ok (.iadd, 1) := by decide +kernel
theorem dX1_cheapest_56 : decode cX1_cheapest 56 = .ok (.invokestatic 98, 3) := by decide +kernel
theorem dX1_cheapest_59 : decode cX1_cheapest 59 = .ok (.istore 5, 2) := by decide +kernel
theorem dX1_cheapest_61 : decode cX1_cheapest 61 = .ok (.iload 4, 2) := by decide +kernel
theorem dX1_cheapest_63 : decode cX1_cheapest 63 = .ok (.istore 6, 2) := by decide +kernel
theorem dX1_cheapest_65 : decode cX1_cheapest 65 = .ok (.iload 6, 2) := by decide +kernel
theorem dX1_cheapest_67 : decode cX1_cheapest 67 = .ok (.ifCond .le 55, 3) := by decide +kernel
theorem dX1_cheapest_70 : decode cX1_cheapest 70 = .ok (.aload_n 0, 1) := by decide +kernel
theorem dX1_cheapest_71 : decode cX1_cheapest 71 = .ok (.getfield 26, 3) := by decide +kernel
theorem dX1_cheapest_74 : decode cX1_cheapest 74 = .ok (.iload_n 3, 1) := by decide +kernel
theorem dX1_cheapest_75 : decode cX1_cheapest 75 = .ok (.iload 6, 2) := by decide +kernel
theorem dX1_cheapest_77 : decode cX1_cheapest 77 = .ok (.ior, 1) := by decide +kernel
theorem dX1_cheapest_78 : decode cX1_cheapest 78 = .ok (.iaload, 1) := by decide +kernel
theorem dX1_cheapest_79 : decode cX1_cheapest 79 = .ok (.istore 7, 2) := by decide +kernel
theorem dX1_cheapest_81 : decode cX1_cheapest 81 = .ok (.iload 7, 2) := by decide +kernel
theorem dX1_cheapest_83 : decode cX1_cheapest 83 = .ok (.iload 5, 2) := by decide +kernel
theorem dX1_cheapest_85 : decode cX1_cheapest 85 = .ok (.if_icmp .ge 25, 3) := by decide +kernel
theorem dX1_cheapest_88 : decode cX1_cheapest 88 = .ok (.iload 5, 2) := by decide +kernel
theorem dX1_cheapest_90 : decode cX1_cheapest 90 = .ok (.iload 7, 2) := by decide +kernel
theorem dX1_cheapest_92 : decode cX1_cheapest 92 = .ok (.aload_n 0, 1) := by decide +kernel
theorem dX1_cheapest_93 : decode cX1_cheapest 93 = .ok (.iload 4, 2) := by decide +kernel
theorem dX1_cheapest_95 : decode cX1_cheapest 95 = .ok (.iload 6, 2) := by decide +kernel
theorem dX1_cheapest_97 : decode cX1_cheapest 97 = .ok (.ixor, 1) := by decide +kernel
theorem dX1_cheapest_98 : decode cX1_cheapest 98 = .ok (.iload_n 2, 1) := by decide +kernel
theorem dX1_cheapest_99 : decode cX1_cheapest 99 = .ok (.iconst 1, 1) := by decide +kernel
theorem dX1_cheapest_100 : decode cX1_cheapest 100 = .ok (.isub, 1) := by decide +kernel
theorem dX1_cheapest_101 : decode cX1_cheapest 101 = .ok (.invokevirtual 92, 3) := by decide +kernel
theorem dX1_cheapest_104 : decode cX1_cheapest 104 = .ok (.iadd, 1) := by decide +kernel
theorem dX1_cheapest_105 : decode cX1_cheapest 105 = .ok (.invokestatic 98, 3) := by decide +kernel
theorem dX1_cheapest_108 : decode cX1_cheapest 108 = .ok (.istore 5, 2) := by decide +kernel
theorem dX1_cheapest_110 : decode cX1_cheapest 110 = .ok (.iload 6, 2) := by decide +kernel
theorem dX1_cheapest_112 : decode cX1_cheapest 112 = .ok (.iconst 1, 1) := by decide +kernel
theorem dX1_cheapest_113 : decode cX1_cheapest 113 = .ok (.isub, 1) := by decide +kernel
theorem dX1_cheapest_114 : decode cX1_cheapest 114 = .ok (.iload 4, 2) := by decide +kernel
theorem dX1_cheapest_116 : decode cX1_cheapest 116 = .ok (.iand, 1) := by decide +kernel
theorem dX1_cheapest_117 : decode cX1_cheapest 117 = .ok (.istore 6, 2) := by decide +kernel
theorem dX1_cheapest_119 : decode cX1_cheapest 119 = .ok (.goto (-54), 3) := by decide +kernel
theorem dX1_cheapest_122 : decode cX1_cheapest 122 = .ok (.iload 5, 2) := by decide +kernel
theorem dX1_cheapest_124 : decode cX1_cheapest 124 = .ok (.ireturn, 1) := by decide +kernel
theorem dX2_init_0 : decode cX2_init 0 = .ok (.aload_n 0, 1) := by decide +kernel
theorem dX2_init_1 : decode cX2_init 1 = .ok (.invokespecial 1, 3) := by decide +kernel
theorem dX2_init_4 : decode cX2_init 4 = .ok (.aload_n 0, 1) := by decide +kernel
theorem dX2_init_5 : decode cX2_init 5 = .ok (.iconst 0, 1) := by decide +kernel
theorem dX2_init_6 : decode cX2_init 6 = .ok (.putfield 7, 3) := by decide +kernel
theorem dX2_init_9 : decode cX2_init 9 = .ok (.aload_n 0, 1) := by decide +kernel
theorem dX2_init_10 : decode cX2_init 10 = .ok (.iconst 0, 1) := by decide +kernel
theorem dX2_init_11 : decode cX2_init 11 = .ok (.putfield 13, 3) := by decide +kernel
theorem dX2_init_14 : decode cX2_init 14 = .ok (.aload_n 0, 1) := by decide +kernel
theorem dX2_init_15 : decode cX2_init 15 = .ok (.iconst 0, 1) := by decide +kernel
theorem dX2_init_16 : decode cX2_init 16 = .ok (.putfield 16, 3) := by decide +kernel
theorem dX2_init_19 : decode cX2_init 19 = .ok (.return_, 1) := by decide +kernel
theorem dX2_start_0 : decode cX2_start 0 = .ok (.aload_n 0, 1) := by decide +kernel
theorem dX2_start_1 : decode cX2_start 1 = .ok (.iload_n 1, 1) := by decide +kernel
theorem dX2_start_2 : decode cX2_start 2 = .ok (.putfield 7, 3) := by decide +kernel
theorem dX2_start_5 : decode cX2_start 5 = .ok (.aload_n 0, 1) := by decide +kernel
theorem dX2_start_6 : decode cX2_start 6 = .ok (.iconst 0, 1) := by decide +kernel
theorem dX2_start_7 : decode cX2_start 7 = .ok (.putfield 13, 3) := by decide +kernel
theorem dX2_start_10 : decode cX2_start 10 = .ok (.aload_n 0, 1) := by decide +kernel
theorem dX2_start_11 : decode cX2_start 11 = .ok (.iconst 0, 1) := by decide +kernel
theorem dX2_start_12 : decode cX2_start 12 = .ok (.putfield 16, 3) := by decide +kernel
theorem dX2_start_15 : decode cX2_start 15 = .ok (.return_, 1) := by decide +kernel
theorem dX2_playerOf_0 : decode cX2_playerOf 0 = .ok (.aload_n 0, 1) := by decide +kernel
theorem dX2_playerOf_1 : decode cX2_playerOf 1 = .ok (.getfield 13, 3) := by decide +kernel
theorem dX2_playerOf_4 : decode cX2_playerOf 4 = .ok (.iconst 3, 1) := by decide +kernel
theorem dX2_playerOf_5 : decode cX2_playerOf 5 = .ok (.iload_n 1, 1) := by decide +kernel
theorem dX2_playerOf_6 : decode cX2_playerOf 6 = .ok (.imul, 1) := by decide +kernel
theorem dX2_playerOf_7 : decode cX2_playerOf 7 = .ok (.ishr, 1) := by decide +kernel
theorem dX2_playerOf_8 : decode cX2_playerOf 8 = .ok (.bipush 7, 2) := by decide +kernel
theorem dX2_playerOf_10 : decode cX2_playerOf 10 = .ok (.iand, 1) := by decide +kernel
theorem dX2_playerOf_11 : decode cX2_playerOf 11 = .ok (.ireturn, 1) := by decide +kernel
theorem dX2_give_0 : decode cX2_give 0 = .ok (.aload_n 0, 1) := by decide +kernel
theorem dX2_give_1 : decode cX2_give 1 = .ok (.dup, 1) := by decide +kernel
theorem dX2_give_2 : decode cX2_give 2 = .ok (.getfield 13, 3) := by decide +kernel
theorem dX2_give_5 : decode cX2_give 5 = .ok (.aload_n 0, 1) := by decide +kernel
theorem dX2_give_6 : decode cX2_give 6 = .ok (.iload_n 1, 1) := by decide +kernel
theorem dX2_give_7 : decode cX2_give 7 = .ok (.invokevirtual 19, 3) := by decide +kernel
theorem dX2_give_10 : decode cX2_give 10 = .ok (.iload_n 2, 1) := by decide +kernel
theorem dX2_give_11 : decode cX2_give 11 = .ok (.ixor, 1) := by decide +kernel
theorem dX2_give_12 : decode cX2_give 12 = .ok (.iconst 3, 1) := by decide +kernel
theorem dX2_give_13 : decode cX2_give 13 = .ok (.iload_n 1, 1) := by decide +kernel
theorem dX2_give_14 : decode cX2_give 14 = .ok (.imul, 1) := by decide +kernel
theorem dX2_give_15 : decode cX2_give 15 = .ok (.ishl, 1) := by decide +kernel
theorem dX2_give_16 : decode cX2_give 16 = .ok (.ixor, 1) := by decide +kernel
theorem dX2_give_17 : decode cX2_give 17 = .ok (.putfield 13, 3) := by decide +kernel
theorem dX2_give_20 : decode cX2_give 20 = .ok (.return_, 1) := by decide +kernel
theorem dX2_partsOf_0 : decode cX2_partsOf 0 = .ok (.iconst 0, 1) := by decide +kernel
theorem dX2_partsOf_1 : decode cX2_partsOf 1 = .ok (.istore_n 3, 1) := by decide +kernel
theorem dX2_partsOf_2 : decode cX2_partsOf 2 = .ok (.iconst 0, 1) := by decide +kernel
theorem dX2_partsOf_3 : decode cX2_partsOf 3 = .ok (.istore 4, 2) := by decide +kernel
theorem dX2_partsOf_5 : decode cX2_partsOf 5 = .ok (.iload 4, 2) := by decide +kernel
theorem dX2_partsOf_7 : decode cX2_partsOf 7 = .ok (.iload_n 2, 1) := by decide +kernel
theorem dX2_partsOf_8 : decode cX2_partsOf 8 = .ok (.if_icmp .ge 26, 3) := by decide +kernel
theorem dX2_partsOf_11 : decode cX2_partsOf 11 = .ok (.aload_n 0, 1) := by decide +kernel
theorem dX2_partsOf_12 : decode cX2_partsOf 12 = .ok (.iload 4, 2) := by decide +kernel
theorem dX2_partsOf_14 : decode cX2_partsOf 14 = .ok (.invokevirtual 19, 3) := by decide +kernel
theorem dX2_partsOf_17 : decode cX2_partsOf 17 = .ok (.iload_n 1, 1) := by decide +kernel
theorem dX2_partsOf_18 : decode cX2_partsOf 18 = .ok (.if_icmp .ne 10, 3) := by decide +kernel
theorem dX2_partsOf_21 : decode cX2_partsOf 21 = .ok (.iload_n 3, 1) := by decide +kernel
theorem dX2_partsOf_22 : decode cX2_partsOf 22 = .ok (.iconst 1, 1) := by decide +kernel
theorem dX2_partsOf_23 : decode cX2_partsOf 23 = .ok (.iload 4, 2) := by decide +kernel
theorem dX2_partsOf_25 : decode cX2_partsOf 25 = .ok (.ishl, 1) := by decide +kernel
theorem dX2_partsOf_26 : decode cX2_partsOf 26 = .ok (.ior, 1) := by decide +kernel
theorem dX2_partsOf_27 : decode cX2_partsOf 27 = .ok (.istore_n 3, 1) := by decide +kernel
theorem dX2_partsOf_28 : decode cX2_partsOf 28 = .ok (.iinc 4 1, 3) := by decide +kernel
theorem dX2_partsOf_31 : decode cX2_partsOf 31 = .ok (.goto (-26), 3) := by decide +kernel
theorem dX2_partsOf_34 : decode cX2_partsOf 34 = .ok (.iload_n 3, 1) := by decide +kernel
theorem dX2_partsOf_35 : decode cX2_partsOf 35 = .ok (.ireturn, 1) := by decide +kernel
theorem dX2_isCut_0 : decode cX2_isCut 0 = .ok (.aload_n 0, 1) := by decide +kernel
theorem dX2_isCut_1 : decode cX2_isCut 1 = .ok (.getfield 16, 3) := by decide +kernel
theorem dX2_isCut_4 : decode cX2_isCut 4 = .ok (.iload_n 1, 1) := by decide +kernel
theorem dX2_isCut_5 : decode cX2_isCut 5 = .ok (.ishr, 1) := by decide +kernel
theorem dX2_isCut_6 : decode cX2_isCut 6 = .ok (.iconst 1, 1) := by decide +kernel
theorem dX2_isCut_7 : decode cX2_isCut 7 = .ok (.iand, 1) := by decide +kernel
theorem dX2_isCut_8 : decode cX2_isCut 8 = .ok (.iconst 1, 1) := by decide +kernel
theorem dX2_isCut_9 : decode cX2_isCut 9 = .ok (.if_icmp .ne 7, 3) := by decide +kernel
theorem dX2_isCut_12 : decode cX2_isCut 12 = .ok (.iconst 1, 1) := by decide +kernel
theorem dX2_isCut_13 : decode cX2_isCut 13 = .ok (.goto 4, 3) := by decide +kernel
theorem dX2_isCut_16 : decode cX2_isCut 16 = .ok (.iconst 0, 1) := by decide +kernel
theorem dX2_isCut_17 : decode cX2_isCut 17 = .ok (.ireturn, 1) := by decide +kernel
theorem dX2_packed_0 : decode cX2_packed 0 = .ok (.aload_n 0, 1) := by decide +kernel
theorem dX2_packed_1 : decode cX2_packed 1 = .ok (.getfield 7, 3) := by decide +kernel
theorem dX2_packed_4 : decode cX2_packed 4 = .ok (.i2l, 1) := by decide +kernel
theorem dX2_packed_5 : decode cX2_packed 5 = .ok (.bipush 48, 2) := by decide +kernel
theorem dX2_packed_7 : decode cX2_packed 7 = .ok (.lshl, 1) := by decide +kernel
theorem dX2_packed_8 : decode cX2_packed 8 = .ok (.aload_n 0, 1) := by decide +kernel
theorem dX2_packed_9 : decode cX2_packed 9 = .ok (.getfield 13, 3) := by decide +kernel
theorem dX2_packed_12 : decode cX2_packed 12 = .ok (.i2l, 1) := by decide +kernel
theorem dX2_packed_13 : decode cX2_packed 13 = .ok (.bipush 16, 2) := by decide +kernel
theorem dX2_packed_15 : decode cX2_packed 15 = .ok (.lshl, 1) := by decide +kernel
theorem dX2_packed_16 : decode cX2_packed 16 = .ok (.lor, 1) := by decide +kernel
theorem dX2_packed_17 : decode cX2_packed 17 = .ok (.aload_n 0, 1) := by decide +kernel
theorem dX2_packed_18 : decode cX2_packed 18 = .ok (.getfield 16, 3) := by decide +kernel
theorem dX2_packed_21 : decode cX2_packed 21 = .ok (.i2l, 1) := by decide +kernel
theorem dX2_packed_22 : decode cX2_packed 22 = .ok (.lor, 1) := by decide +kernel
theorem dX2_packed_23 : decode cX2_packed 23 = .ok (.lreturn, 1) := by decide +kernel
theorem dX2_unpack_0 : decode cX2_unpack 0 = .ok (.aload_n 0, 1) := by decide +kernel
theorem dX2_unpack_1 : decode cX2_unpack 1 = .ok (.lload_n 1, 1) := by decide +kernel
theorem dX2_unpack_2 : decode cX2_unpack 2 = .ok (.bipush 48, 2) := by decide +kernel
theorem dX2_unpack_4 : decode cX2_unpack 4 = .ok (.lshr, 1) := by decide +kernel
theorem dX2_unpack_5 : decode cX2_unpack 5 = .ok (.ldc2_w 23, 3) := by decide +kernel
theorem dX2_unpack_8 : decode cX2_unpack 8 = .ok (.land, 1) := by decide +kernel
theorem dX2_unpack_9 : decode cX2_unpack 9 = .ok (.l2i, 1) := by decide +kernel
theorem dX2_unpack_10 : decode cX2_unpack 10 = .ok (.putfield 7, 3) := by decide +kernel
theorem dX2_unpack_13 : decode cX2_unpack 13 = .ok (.aload_n 0, 1) := by decide +kernel
theorem dX2_unpack_14 : decode cX2_unpack 14 = .ok (.lload_n 1, 1) := by decide +kernel
theorem dX2_unpack_15 : decode cX2_unpack 15 = .ok (.bipush 16, 2) := by decide +kernel
theorem dX2_unpack_17 : decode cX2_unpack 17 = .ok (.lshr, 1) := by decide +kernel
theorem dX2_unpack_18 : decode cX2_unpack 18 = .ok (.ldc2_w 25, 3) := by decide +kernel
theorem dX2_unpack_21 : decode cX2_unpack 21 = .ok (.land, 1) := by decide +kernel
theorem dX2_unpack_22 : decode cX2_unpack 22 = .ok (.l2i, 1) := by decide +kernel
theorem dX2_unpack_23 : decode cX2_unpack 23 = .ok (.putfield 13, 3) := by decide +kernel
theorem dX2_unpack_26 : decode cX2_unpack 26 = .ok (.aload_n 0, 1) := by decide +kernel
theorem dX2_unpack_27 : decode cX2_unpack 27 = .ok (.lload_n 1, 1) := by decide +kernel
theorem dX2_unpack_28 : decode cX2_unpack 28 = .ok (.ldc2_w 27, 3) := by decide +kernel
theorem dX2_unpack_31 : decode cX2_unpack 31 = .ok (.land, 1) := by decide +kernel
theorem dX2_unpack_32 : decode cX2_unpack 32 = .ok (.l2i, 1) := by decide +kernel
theorem dX2_unpack_33 : decode cX2_unpack 33 = .ok (.putfield 16, 3) := by decide +kernel
theorem dX2_unpack_36 : decode cX2_unpack 36 = .ok (.return_, 1) := by decide +kernel
theorem dX3_init_0 : decode cX3_init 0 = .ok (.aload_n 0, 1) := by decide +kernel
theorem dX3_init_1 : decode cX3_init 1 = .ok (.invokespecial 3, 3) := by decide +kernel
theorem dX3_init_4 : decode cX3_init 4 = .ok (.aload_n 0, 1) := by decide +kernel
theorem dX3_init_5 : decode cX3_init 5 = .ok (.sipush 128, 3) := by decide +kernel
theorem dX3_init_8 : decode cX3_init 8 = .ok (.newarray .int, 2) := by decide +kernel
theorem dX3_init_10 : decode cX3_init 10 = .ok (.putfield 9, 3) := by decide +kernel
theorem dX3_init_13 : decode cX3_init 13 = .ok (.return_, 1) := by decide +kernel
theorem dX3_forget_0 : decode cX3_forget 0 = .ok (.aload_n 0, 1) := by decide +kernel
theorem dX3_forget_1 : decode cX3_forget 1 = .ok (.getfield 9, 3) := by decide +kernel
theorem dX3_forget_4 : decode cX3_forget 4 = .ok (.iconst 0, 1) := by decide +kernel
theorem dX3_forget_5 : decode cX3_forget 5 = .ok (.invokestatic 15, 3) := by decide +kernel
theorem dX3_forget_8 : decode cX3_forget 8 = .ok (.return_, 1) := by decide +kernel
theorem dX3_good_0 : decode cX3_good 0 = .ok (.iload_n 1, 1) := by decide +kernel
theorem dX3_good_1 : decode cX3_good 1 = .ok (.ifCond .lt 10, 3) := by decide +kernel
theorem dX3_good_4 : decode cX3_good 4 = .ok (.iload_n 1, 1) := by decide +kernel
theorem dX3_good_5 : decode cX3_good 5 = .ok (.sipush 128, 3) := by decide +kernel
theorem dX3_good_8 : decode cX3_good 8 = .ok (.if_icmp .lt 5, 3) := by decide +kernel
theorem dX3_good_11 : decode cX3_good 11 = .ok (.iconst 0, 1) := by decide +kernel
theorem dX3_good_12 : decode cX3_good 12 = .ok (.ireturn, 1) := by decide +kernel
theorem dX3_good_13 : decode cX3_good 13 = .ok (.aload_n 0, 1) := by decide +kernel
theorem dX3_good_14 : decode cX3_good 14 = .ok (.getfield 9, 3) := by decide +kernel
theorem dX3_good_17 : decode cX3_good 17 = .ok (.iload_n 1, 1) := by decide +kernel
theorem dX3_good_18 : decode cX3_good 18 = .ok (.iaload, 1) := by decide +kernel
theorem dX3_good_19 : decode cX3_good 19 = .ok (.ifCond .ne 22, 3) := by decide +kernel
theorem dX3_good_22 : decode cX3_good 22 = .ok (.aload_n 0, 1) := by decide +kernel
theorem dX3_good_23 : decode cX3_good 23 = .ok (.getfield 9, 3) := by decide +kernel
theorem dX3_good_26 : decode cX3_good 26 = .ok (.iload_n 1, 1) := by decide +kernel
theorem dX3_good_27 : decode cX3_good 27 = .ok (.aload_n 0, 1) := by decide +kernel
theorem dX3_good_28 : decode cX3_good 28 = .ok (.iload_n 1, 1) := by decide +kernel
theorem dX3_good_29 : decode cX3_good 29 = .ok (.invokevirtual 21, 3) := by decide +kernel
theorem dX3_good_32 : decode cX3_good 32 = .ok (.ifCond .eq 7, 3) := by decide +kernel
theorem dX3_good_35 : decode cX3_good 35 = .ok (.iconst 1, 1) := by decide +kernel
theorem dX3_good_36 : decode cX3_good 36 = .ok (.goto 4, 3) := by decide +kernel
theorem dX3_good_39 : decode cX3_good 39 = .ok (.iconst 2, 1) := by decide +kernel
theorem dX3_good_40 : decode cX3_good 40 = .ok (.iastore, 1) := by decide +kernel
theorem dX3_good_41 : decode cX3_good 41 = .ok (.aload_n 0, 1) := by decide +kernel
theorem dX3_good_42 : decode cX3_good 42 = .ok (.getfield 9, 3) := by decide +kernel
theorem dX3_good_45 : decode cX3_good 45 = .ok (.iload_n 1, 1) := by decide +kernel
theorem dX3_good_46 : decode cX3_good 46 = .ok (.iaload, 1) := by decide +kernel
theorem dX3_good_47 : decode cX3_good 47 = .ok (.iconst 1, 1) := by decide +kernel
theorem dX3_good_48 : decode cX3_good 48 = .ok (.if_icmp .ne 7, 3) := by decide +kernel
theorem dX3_good_51 : decode cX3_good 51 = .ok (.iconst 1, 1) := by decide +kernel
theorem dX3_good_52 : decode cX3_good 52 = .ok (.goto 4, 3) := by decide +kernel
theorem dX3_good_55 : decode cX3_good 55 = .ok (.iconst 0, 1) := by decide +kernel
theorem dX3_good_56 : decode cX3_good 56 = .ok (.ireturn, 1) := by decide +kernel
theorem dX3_fewestFor_0 : decode cX3_fewestFor 0 = .ok (.iconst 0, 1) := by decide +kernel
theorem dX3_fewestFor_1 : decode cX3_fewestFor 1 = .ok (.istore_n 2, 1) := by decide +kernel
theorem dX3_fewestFor_2 : decode cX3_fewestFor 2 = .ok (.iload_n 2, 1) := by decide +kernel
theorem dX3_fewestFor_3 : decode cX3_fewestFor 3 = .ok (.bipush 7, 2) := by decide +kernel
theorem dX3_fewestFor_5 : decode cX3_fewestFor 5 = .ok (.if_icmp .gt 20, 3) := by decide +kernel
theorem dX3_fewestFor_8 : decode cX3_fewestFor 8 = .ok (.aload_n 0, 1) := by decide +kernel
theorem dX3_fewestFor_9 : decode cX3_fewestFor 9 = .ok (.iload_n 1, 1) := by decide +kernel
theorem dX3_fewestFor_10 : decode cX3_fewestFor 10 = .ok (.iload_n 2, 1) := by decide +kernel
theorem dX3_fewestFor_11 : decode cX3_fewestFor 11 = .ok (.invokestatic 25, 3) := by decide +kernel
theorem dX3_fewestFor_14 : decode cX3_fewestFor 14 = .ok (.ifCond .eq 5, 3) := by decide +kernel
theorem dX3_fewestFor_17 : decode cX3_fewestFor 17 = .ok (.iload_n 2, 1) := by decide +kernel
theorem dX3_fewestFor_18 : decode cX3_fewestFor 18 = .ok (.ireturn, 1) := by decide +kernel
theorem dX3_fewestFor_19 : decode cX3_fewestFor 19 = .ok (.iinc 2 1, 3) := by decide +kernel
theorem dX3_fewestFor_22 : decode cX3_fewestFor 22 = .ok (.goto (-20), 3) := by decide +kernel
theorem dX3_fewestFor_25 : decode cX3_fewestFor 25 = .ok (.bipush (-2), 2) := by decide +kernel
theorem dX3_fewestFor_27 : decode cX3_fewestFor 27 = .ok (.ireturn, 1) := by decide +kernel
theorem dX3_splits_0 : decode cX3_splits 0 = .ok (.iload_n 1, 1) := by decide +kernel
theorem dX3_splits_1 : decode cX3_splits 1 = .ok (.ifCond .ne 5, 3) := by decide +kernel
theorem dX3_splits_4 : decode cX3_splits 4 = .ok (.iconst 1, 1) := by decide +kernel
theorem dX3_splits_5 : decode cX3_splits 5 = .ok (.ireturn, 1) := by decide +kernel
theorem dX3_splits_6 : decode cX3_splits 6 = .ok (.iload_n 2, 1) := by decide +kernel
theorem dX3_splits_7 : decode cX3_splits 7 = .ok (.iconst 1, 1) := by decide +kernel
theorem dX3_splits_8 : decode cX3_splits 8 = .ok (.if_icmp .gt 22, 3) := by decide +kernel
theorem dX3_splits_11 : decode cX3_splits 11 = .ok (.iload_n 2, 1) := by decide +kernel
theorem dX3_splits_12 : decode cX3_splits 12 = .ok (.iconst 1, 1) := by decide +kernel
theorem dX3_splits_13 : decode cX3_splits 13 = .ok (.if_icmp .ne 15, 3) := by decide +kernel
theorem dX3_splits_16 : decode cX3_splits 16 = .ok (.aload_n 0, 1) := by decide +kernel
theorem dX3_splits_17 : decode cX3_splits 17 = .ok (.iload_n 1, 1) := by decide +kernel
theorem dX3_splits_18 : decode cX3_splits 18 = .ok (.invokevirtual 29, 3) := by decide +kernel
theorem dX3_splits_21 : decode cX3_splits 21 = .ok (.ifCond .eq 7, 3) := by decide +kernel
theorem dX3_splits_24 : decode cX3_splits 24 = .ok (.iconst 1, 1) := by decide +kernel
theorem dX3_splits_25 : decode cX3_splits 25 = .ok (.goto 4, 3) := by decide +kernel
theorem dX3_splits_28 : decode cX3_splits 28 = .ok (.iconst 0, 1) := by decide +kernel
theorem dX3_splits_29 : decode cX3_splits 29 = .ok (.ireturn, 1) := by decide +kernel
theorem dX3_splits_30 : decode cX3_splits 30 = .ok (.iload_n 1, 1) := by decide +kernel
theorem dX3_splits_31 : decode cX3_splits 31 = .ok (.iload_n 1, 1) := by decide +kernel
theorem dX3_splits_32 : decode cX3_splits 32 = .ok (.ineg, 1) := by decide +kernel
theorem dX3_splits_33 : decode cX3_splits 33 = .ok (.iand, 1) := by decide +kernel
theorem dX3_splits_34 : decode cX3_splits 34 = .ok (.istore_n 3, 1) := by decide +kernel
theorem dX3_splits_35 : decode cX3_splits 35 = .ok (.iload_n 1, 1) := by decide +kernel
theorem dX3_splits_36 : decode cX3_splits 36 = .ok (.iload_n 3, 1) := by decide +kernel
theorem dX3_splits_37 : decode cX3_splits 37 = .ok (.ixor, 1) := by decide +kernel
theorem dX3_splits_38 : decode cX3_splits 38 = .ok (.istore 4, 2) := by decide +kernel
theorem dX3_splits_40 : decode cX3_splits 40 = .ok (.iload 4, 2) := by decide +kernel
theorem dX3_splits_42 : decode cX3_splits 42 = .ok (.istore 5, 2) := by decide +kernel
theorem dX3_splits_44 : decode cX3_splits 44 = .ok (.iload 5, 2) := by decide +kernel
theorem dX3_splits_46 : decode cX3_splits 46 = .ok (.ifCond .le 43, 3) := by decide +kernel
theorem dX3_splits_49 : decode cX3_splits 49 = .ok (.aload_n 0, 1) := by decide +kernel
theorem dX3_splits_50 : decode cX3_splits 50 = .ok (.iload_n 3, 1) := by decide +kernel
theorem dX3_splits_51 : decode cX3_splits 51 = .ok (.iload 5, 2) := by decide +kernel
theorem dX3_splits_53 : decode cX3_splits 53 = .ok (.ior, 1) := by decide +kernel
theorem dX3_splits_54 : decode cX3_splits 54 = .ok (.invokevirtual 29, 3) := by decide +kernel
theorem dX3_splits_57 : decode cX3_splits 57 = .ok (.ifCond .eq 20, 3) := by decide +kernel
theorem dX3_splits_60 : decode cX3_splits 60 = .ok (.aload_n 0, 1) := by decide +kernel
theorem dX3_splits_61 : decode cX3_splits 61 = .ok (.iload 4, 2) := by decide +kernel
theorem dX3_splits_63 : decode cX3_splits 63 = .ok (.iload 5, 2) := by decide +kernel
theorem dX3_splits_65 : decode cX3_splits 65 = .ok (.ixor, 1) := by decide +kernel
theorem dX3_splits_66 : decode cX3_splits 66 = .ok (.iload_n 2, 1) := by decide +kernel
theorem dX3_splits_67 : decode cX3_splits 67 = .ok (.iconst 1, 1) := by decide +kernel
theorem dX3_splits_68 : decode cX3_splits 68 = .ok (.isub, 1) := by decide +kernel
theorem dX3_splits_69 : decode cX3_splits 69 = .ok (.invokestatic 25, 3) := by decide +kernel
theorem dX3_splits_72 : decode cX3_splits 72 = .ok (.ifCond .eq 5, 3) := by decide +kernel
theorem dX3_splits_75 : decode cX3_splits 75 = .ok (.iconst 1, 1) := by decide +kernel
theorem dX3_splits_76 : decode cX3_splits 76 = .ok (.ireturn, 1) := by decide +kernel
theorem dX3_splits_77 : decode cX3_splits 77 = .ok (.iload 5, 2) := by decide +kernel
theorem dX3_splits_79 : decode cX3_splits 79 = .ok (.iconst 1, 1) := by decide +kernel
theorem dX3_splits_80 : decode cX3_splits 80 = .ok (.isub, 1) := by decide +kernel
theorem dX3_splits_81 : decode cX3_splits 81 = .ok (.iload 4, 2) := by decide +kernel
theorem dX3_splits_83 : decode cX3_splits 83 = .ok (.iand, 1) := by decide +kernel
theorem dX3_splits_84 : decode cX3_splits 84 = .ok (.istore 5, 2) := by decide +kernel
theorem dX3_splits_86 : decode cX3_splits 86 = .ok (.goto (-42), 3) := by decide +kernel
theorem dX3_splits_89 : decode cX3_splits 89 = .ok (.aload_n 0, 1) := by decide +kernel
theorem dX3_splits_90 : decode cX3_splits 90 = .ok (.iload_n 3, 1) := by decide +kernel
theorem dX3_splits_91 : decode cX3_splits 91 = .ok (.invokevirtual 29, 3) := by decide +kernel
theorem dX3_splits_94 : decode cX3_splits 94 = .ok (.ifCond .eq 19, 3) := by decide +kernel
theorem dX3_splits_97 : decode cX3_splits 97 = .ok (.aload_n 0, 1) := by decide +kernel
theorem dX3_splits_98 : decode cX3_splits 98 = .ok (.iload 4, 2) := by decide +kernel
theorem dX3_splits_100 : decode cX3_splits 100 = .ok (.iload_n 2, 1) := by decide +kernel
theorem dX3_splits_101 : decode cX3_splits 101 = .ok (.iconst 1, 1) := by decide +kernel
theorem dX3_splits_102 : decode cX3_splits 102 = .ok (.isub, 1) := by decide +kernel
theorem dX3_splits_103 : decode cX3_splits 103 = .ok (.invokestatic 25, 3) := by decide +kernel
theorem dX3_splits_106 : decode cX3_splits 106 = .ok (.ifCond .eq 7, 3) := by decide +kernel
theorem dX3_splits_109 : decode cX3_splits 109 = .ok (.iconst 1, 1) := by decide +kernel
theorem dX3_splits_110 : decode cX3_splits 110 = .ok (.goto 4, 3) := by decide +kernel
theorem dX3_splits_113 : decode cX3_splits 113 = .ok (.iconst 0, 1) := by decide +kernel
theorem dX3_splits_114 : decode cX3_splits 114 = .ok (.ireturn, 1) := by decide +kernel
theorem dX4_init_0 : decode cX4_init 0 = .ok (.aload_n 0, 1) := by decide +kernel
theorem dX4_init_1 : decode cX4_init 1 = .ok (.invokespecial 3, 3) := by decide +kernel
theorem dX4_init_4 : decode cX4_init 4 = .ok (.aload_n 0, 1) := by decide +kernel
theorem dX4_init_5 : decode cX4_init 5 = .ok (.bipush 14, 2) := by decide +kernel
theorem dX4_init_7 : decode cX4_init 7 = .ok (.bipush 14, 2) := by decide +kernel
theorem dX4_init_9 : decode cX4_init 9 = .ok (.multianewarray 9 2, 4) := by decide +kernel
theorem dX4_init_13 : decode cX4_init 13 = .ok (.putfield 11, 3) := by decide +kernel
theorem dX4_init_16 : decode cX4_init 16 = .ok (.aload_n 0, 1) := by decide +kernel
theorem dX4_init_17 : decode cX4_init 17 = .ok (.bipush 14, 2) := by decide +kernel
theorem dX4_init_19 : decode cX4_init 19 = .ok (.newarray .int, 2) := by decide +kernel
theorem dX4_init_21 : decode cX4_init 21 = .ok (.putfield 16, 3) := by decide +kernel
theorem dX4_init_24 : decode cX4_init 24 = .ok (.aload_n 0, 1) := by decide +kernel
theorem dX4_init_25 : decode cX4_init 25 = .ok (.iconst 5, 1) := by decide +kernel
theorem dX4_init_26 : decode cX4_init 26 = .ok (.newarray .int, 2) := by decide +kernel
theorem dX4_init_28 : decode cX4_init 28 = .ok (.putfield 20, 3) := by decide +kernel
theorem dX4_init_31 : decode cX4_init 31 = .ok (.aload_n 0, 1) := by decide +kernel
theorem dX4_init_32 : decode cX4_init 32 = .ok (.bipush 14, 2) := by decide +kernel
theorem dX4_init_34 : decode cX4_init 34 = .ok (.newarray .int, 2) := by decide +kernel
theorem dX4_init_36 : decode cX4_init 36 = .ok (.putfield 23, 3) := by decide +kernel
theorem dX4_init_39 : decode cX4_init 39 = .ok (.aload_n 0, 1) := by decide +kernel
theorem dX4_init_40 : decode cX4_init 40 = .ok (.bipush 14, 2) := by decide +kernel
theorem dX4_init_42 : decode cX4_init 42 = .ok (.newarray .int, 2) := by decide +kernel
theorem dX4_init_44 : decode cX4_init 44 = .ok (.putfield 26, 3) := by decide +kernel
theorem dX4_init_47 : decode cX4_init 47 = .ok (.aload_n 0, 1) := by decide +kernel
theorem dX4_init_48 : decode cX4_init 48 = .ok (.bipush 14, 2) := by decide +kernel
theorem dX4_init_50 : decode cX4_init 50 = .ok (.newarray .int, 2) := by decide +kernel
theorem dX4_init_52 : decode cX4_init 52 = .ok (.putfield 29, 3) := by decide +kernel
theorem dX4_init_55 : decode cX4_init 55 = .ok (.aload_n 0, 1) := by decide +kernel
theorem dX4_init_56 : decode cX4_init 56 = .ok (.iconst 0, 1) := by decide +kernel
theorem dX4_init_57 : decode cX4_init 57 = .ok (.putfield 32, 3) := by decide +kernel
theorem dX4_init_60 : decode cX4_init 60 = .ok (.aload_n 0, 1) := by decide +kernel
theorem dX4_init_61 : decode cX4_init 61 = .ok (.iconst 0, 1) := by decide +kernel
theorem dX4_init_62 : decode cX4_init 62 = .ok (.putfield 36, 3) := by decide +kernel
theorem dX4_init_65 : decode cX4_init 65 = .ok (.aload_n 0, 1) := by decide +kernel
theorem dX4_init_66 : decode cX4_init 66 = .ok (.iconst 0, 1) := by decide +kernel
theorem dX4_init_67 : decode cX4_init 67 = .ok (.putfield 40, 3) := by decide +kernel
theorem dX4_init_70 : decode cX4_init 70 = .ok (.aload_n 0, 1) := by decide +kernel
theorem dX4_init_71 : decode cX4_init 71 = .ok (.iconst 0, 1) := by decide +kernel
theorem dX4_init_72 : decode cX4_init 72 = .ok (.putfield 43, 3) := by decide +kernel
theorem dX4_init_75 : decode cX4_init 75 = .ok (.aload_n 0, 1) := by decide +kernel
theorem dX4_init_76 : decode cX4_init 76 = .ok (.iconst 0, 1) := by decide +kernel
theorem dX4_init_77 : decode cX4_init 77 = .ok (.putfield 46, 3) := by decide +kernel
theorem dX4_init_80 : decode cX4_init 80 = .ok (.aload_n 0, 1) := by decide +kernel
theorem dX4_init_81 : decode cX4_init 81 = .ok (.aload_n 1, 1) := by decide +kernel
theorem dX4_init_82 : decode cX4_init 82 = .ok (.putfield 49, 3) := by decide +kernel
theorem dX4_init_85 : decode cX4_init 85 = .ok (.return_, 1) := by decide +kernel
theorem dX4_take_0 : decode cX4_take 0 = .ok (.aload_n 0, 1) := by decide +kernel
theorem dX4_take_1 : decode cX4_take 1 = .ok (.aload_n 1, 1) := by decide +kernel
theorem dX4_take_2 : decode cX4_take 2 = .ok (.putfield 49, 3) := by decide +kernel
theorem dX4_take_5 : decode cX4_take 5 = .ok (.aload_n 0, 1) := by decide +kernel
theorem dX4_take_6 : decode cX4_take 6 = .ok (.iconst 0, 1) := by decide +kernel
theorem dX4_take_7 : decode cX4_take 7 = .ok (.putfield 32, 3) := by decide +kernel
theorem dX4_take_10 : decode cX4_take 10 = .ok (.iconst 0, 1) := by decide +kernel
theorem dX4_take_11 : decode cX4_take 11 = .ok (.istore_n 3, 1) := by decide +kernel
theorem dX4_take_12 : decode cX4_take 12 = .ok (.iload_n 3, 1) := by decide +kernel
theorem dX4_take_13 : decode cX4_take 13 = .ok (.aload_n 0, 1) := by decide +kernel
theorem dX4_take_14 : decode cX4_take 14 = .ok (.getfield 49, 3) := by decide +kernel
theorem dX4_take_17 : decode cX4_take 17 = .ok (.getfield 53, 3) := by decide +kernel
theorem dX4_take_20 : decode cX4_take 20 = .ok (.if_icmp .ge 50, 3) := by decide +kernel
theorem dX4_take_23 : decode cX4_take 23 = .ok (.iconst 0, 1) := by decide +kernel
theorem dX4_take_24 : decode cX4_take 24 = .ok (.istore 4, 2) := by decide +kernel
theorem dX4_take_26 : decode cX4_take 26 = .ok (.iload 4, 2) := by decide +kernel
theorem dX4_take_28 : decode cX4_take 28 = .ok (.aload_n 0, 1) := by decide +kernel
theorem dX4_take_29 : decode cX4_take 29 = .ok (.getfield 49, 3) := by decide +kernel
theorem dX4_take_32 : decode cX4_take 32 = .ok (.getfield 53, 3) := by decide +kernel
theorem dX4_take_35 : decode cX4_take 35 = .ok (.if_icmp .ge 29, 3) := by decide +kernel
theorem dX4_take_38 : decode cX4_take 38 = .ok (.aload_n 0, 1) := by decide +kernel
theorem dX4_take_39 : decode cX4_take 39 = .ok (.getfield 11, 3) := by decide +kernel
theorem dX4_take_42 : decode cX4_take 42 = .ok (.iload_n 3, 1) := by decide +kernel
theorem dX4_take_43 : decode cX4_take 43 = .ok (.aaload, 1) := by decide +kernel
theorem dX4_take_44 : decode cX4_take 44 = .ok (.iload 4, 2) := by decide +kernel
theorem dX4_take_46 : decode cX4_take 46 = .ok (.aload_n 0, 1) := by decide +kernel
theorem dX4_take_47 : decode cX4_take 47 = .ok (.getfield 49, 3) := by decide +kernel
theorem dX4_take_50 : decode cX4_take 50 = .ok (.iload_n 3, 1) := by decide +kernel
theorem dX4_take_51 : decode cX4_take 51 = .ok (.iload 4, 2) := by decide +kernel
theorem dX4_take_53 : decode cX4_take 53 = .ok (.iload_n 2, 1) := by decide +kernel
theorem dX4_take_54 : decode cX4_take 54 = .ok (.invokevirtual 58, 3) := by decide +kernel
theorem dX4_take_57 : decode cX4_take 57 = .ok (.iastore, 1) := by decide +kernel
theorem dX4_take_58 : decode cX4_take 58 = .ok (.iinc 4 1, 3) := by decide +kernel
theorem dX4_take_61 : decode cX4_take 61 = .ok (.goto (-35), 3) := by decide +kernel
theorem dX4_take_64 : decode cX4_take 64 = .ok (.iinc 3 1, 3) := by decide +kernel
theorem dX4_take_67 : decode cX4_take 67 = .ok (.goto (-55), 3) := by decide +kernel
theorem dX4_take_70 : decode cX4_take 70 = .ok (.return_, 1) := by decide +kernel
theorem dX4_set_0 : decode cX4_set 0 = .ok (.aload_n 0, 1) := by decide +kernel
theorem dX4_set_1 : decode cX4_set 1 = .ok (.getfield 32, 3) := by decide +kernel
theorem dX4_set_4 : decode cX4_set 4 = .ok (.ifCond .eq 28, 3) := by decide +kernel
theorem dX4_set_7 : decode cX4_set 7 = .ok (.aload_n 0, 1) := by decide +kernel
theorem dX4_set_8 : decode cX4_set 8 = .ok (.getfield 36, 3) := by decide +kernel
theorem dX4_set_11 : decode cX4_set 11 = .ok (.iload_n 1, 1) := by decide +kernel
theorem dX4_set_12 : decode cX4_set 12 = .ok (.if_icmp .ne 20, 3) := by decide +kernel
theorem dX4_set_15 : decode cX4_set 15 = .ok (.aload_n 0, 1) := by decide +kernel
theorem dX4_set_16 : decode cX4_set 16 = .ok (.getfield 40, 3) := by decide +kernel
theorem dX4_set_19 : decode cX4_set 19 = .ok (.iload_n 2, 1) := by decide +kernel
theorem dX4_set_20 : decode cX4_set 20 = .ok (.if_icmp .ne 12, 3) := by decide +kernel
theorem dX4_set_23 : decode cX4_set 23 = .ok (.aload_n 0, 1) := by decide +kernel
theorem dX4_set_24 : decode cX4_set 24 = .ok (.getfield 43, 3) := by decide +kernel
theorem dX4_set_27 : decode cX4_set 27 = .ok (.iload_n 3, 1) := by decide +kernel
theorem dX4_set_28 : decode cX4_set 28 = .ok (.if_icmp .ne 4, 3) := by decide +kernel
theorem dX4_set_31 : decode cX4_set 31 = .ok (.return_, 1) := by decide +kernel
theorem dX4_set_32 : decode cX4_set 32 = .ok (.aload_n 0, 1) := by decide +kernel
theorem dX4_set_33 : decode cX4_set 33 = .ok (.iconst 1, 1) := by decide +kernel
theorem dX4_set_34 : decode cX4_set 34 = .ok (.putfield 32, 3) := by decide +kernel
theorem dX4_set_37 : decode cX4_set 37 = .ok (.aload_n 0, 1) := by decide +kernel
theorem dX4_set_38 : decode cX4_set 38 = .ok (.iload_n 1, 1) := by decide +kernel
theorem dX4_set_39 : decode cX4_set 39 = .ok (.putfield 36, 3) := by decide +kernel
theorem dX4_set_42 : decode cX4_set 42 = .ok (.aload_n 0, 1) := by decide +kernel
theorem dX4_set_43 : decode cX4_set 43 = .ok (.iload_n 2, 1) := by decide +kernel
theorem dX4_set_44 : decode cX4_set 44 = .ok (.putfield 40, 3) := by decide +kernel
theorem dX4_set_47 : decode cX4_set 47 = .ok (.aload_n 0, 1) := by decide +kernel
theorem dX4_set_48 : decode cX4_set 48 = .ok (.iload_n 3, 1) := by decide +kernel
theorem dX4_set_49 : decode cX4_set 49 = .ok (.putfield 43, 3) := by decide +kernel
theorem dX4_set_52 : decode cX4_set 52 = .ok (.aload_n 0, 1) := by decide +kernel
theorem dX4_set_53 : decode cX4_set 53 = .ok (.dup, 1) := by decide +kernel
theorem dX4_set_54 : decode cX4_set 54 = .ok (.getfield 46, 3) := by decide +kernel
theorem dX4_set_57 : decode cX4_set 57 = .ok (.iconst 1, 1) := by decide +kernel
theorem dX4_set_58 : decode cX4_set 58 = .ok (.iadd, 1) := by decide +kernel
theorem dX4_set_59 : decode cX4_set 59 = .ok (.putfield 46, 3) := by decide +kernel
theorem dX4_set_62 : decode cX4_set 62 = .ok (.aload_n 0, 1) := by decide +kernel
theorem dX4_set_63 : decode cX4_set 63 = .ok (.invokevirtual 62, 3) := by decide +kernel
theorem dX4_set_66 : decode cX4_set 66 = .ok (.aload_n 0, 1) := by decide +kernel
theorem dX4_set_67 : decode cX4_set 67 = .ok (.invokevirtual 65, 3) := by decide +kernel
theorem dX4_set_70 : decode cX4_set 70 = .ok (.aload_n 0, 1) := by decide +kernel
theorem dX4_set_71 : decode cX4_set 71 = .ok (.invokevirtual 68, 3) := by decide +kernel
theorem dX4_set_74 : decode cX4_set 74 = .ok (.aload_n 0, 1) := by decide +kernel
theorem dX4_set_75 : decode cX4_set 75 = .ok (.invokevirtual 71, 3) := by decide +kernel
theorem dX4_set_78 : decode cX4_set 78 = .ok (.return_, 1) := by decide +kernel
theorem dX4_setTimes_0 : decode cX4_setTimes 0 = .ok (.iconst 0, 1) := by decide +kernel
theorem dX4_setTimes_1 : decode cX4_setTimes 1 = .ok (.istore_n 1, 1) := by decide +kernel
theorem dX4_setTimes_2 : decode cX4_setTimes 2 = .ok (.iconst 0, 1) := by decide +kernel
theorem dX4_setTimes_3 : decode cX4_setTimes 3 = .ok (.istore_n 2, 1) := by decide +kernel
theorem dX4_setTimes_4 : decode cX4_setTimes 4 = .ok (.iload_n 2, 1) := by decide +kernel
theorem dX4_setTimes_5 : decode cX4_setTimes 5 = .ok (.aload_n 0, 1) := by decide +kernel
theorem dX4_setTimes_6 : decode cX4_setTimes 6 = .ok (.getfield 49, 3) := by decide +kernel
theorem dX4_setTimes_9 : decode cX4_setTimes 9 = .ok (.getfield 74, 3) := by decide +kernel
theorem dX4_setTimes_12 : decode cX4_setTimes 12 = .ok (.if_icmp .ge 47, 3) := by decide +kernel
theorem dX4_setTimes_15 : decode cX4_setTimes 15 = .ok (.aload_n 0, 1) := by decide +kernel
theorem dX4_setTimes_16 : decode cX4_setTimes 16 = .ok (.getfield 36, 3) := by decide +kernel
theorem dX4_setTimes_19 : decode cX4_setTimes 19 = .ok (.iload_n 2, 1) := by decide +kernel
theorem dX4_setTimes_20 : decode cX4_setTimes 20 = .ok (.invokestatic 77, 3) := by decide +kernel
theorem dX4_setTimes_23 : decode cX4_setTimes 23 = .ok (.istore_n 3, 1) := by decide +kernel
theorem dX4_setTimes_24 : decode cX4_setTimes 24 = .ok (.iload_n 3, 1) := by decide +kernel
theorem dX4_setTimes_25 : decode cX4_setTimes 25 = .ok (.iconst 5, 1) := by decide +kernel
theorem dX4_setTimes_26 : decode cX4_setTimes 26 = .ok (.if_icmp .ge 27, 3) := by decide +kernel
theorem dX4_setTimes_29 : decode cX4_setTimes 29 = .ok (.aload_n 0, 1) := by decide +kernel
theorem dX4_setTimes_30 : decode cX4_setTimes 30 = .ok (.getfield 20, 3) := by decide +kernel
theorem dX4_setTimes_33 : decode cX4_setTimes 33 = .ok (.iload_n 3, 1) := by decide +kernel
theorem dX4_setTimes_34 : decode cX4_setTimes 34 = .ok (.iload_n 1, 1) := by decide +kernel
theorem dX4_setTimes_35 : decode cX4_setTimes 35 = .ok (.iastore, 1) := by decide +kernel
theorem dX4_setTimes_36 : decode cX4_setTimes 36 = .ok (.iload_n 1, 1) := by decide +kernel
theorem dX4_setTimes_37 : decode cX4_setTimes 37 = .ok (.aload_n 0, 1) := by decide +kernel
theorem dX4_setTimes_38 : decode cX4_setTimes 38 = .ok (.getfield 49, 3) := by decide +kernel
theorem dX4_setTimes_41 : decode cX4_setTimes 41 = .ok (.getfield 81, 3) := by decide +kernel
theorem dX4_setTimes_44 : decode cX4_setTimes 44 = .ok (.iload_n 3, 1) := by decide +kernel
theorem dX4_setTimes_45 : decode cX4_setTimes 45 = .ok (.iaload, 1) := by decide +kernel
theorem dX4_setTimes_46 : decode cX4_setTimes 46 = .ok (.aload_n 0, 1) := by decide +kernel
theorem dX4_setTimes_47 : decode cX4_setTimes 47 = .ok (.getfield 40, 3) := by decide +kernel
theorem dX4_setTimes_50 : decode cX4_setTimes 50 = .ok (.iadd, 1) := by decide +kernel
theorem dX4_setTimes_51 : decode cX4_setTimes 51 = .ok (.iadd, 1) := by decide +kernel
theorem dX4_setTimes_52 : decode cX4_setTimes 52 = .ok (.istore_n 1, 1) := by decide +kernel
theorem dX4_setTimes_53 : decode cX4_setTimes 53 = .ok (.iinc 2 1, 3) := by decide +kernel
theorem dX4_setTimes_56 : decode cX4_setTimes 56 = .ok (.goto (-52), 3) := by decide +kernel
theorem dX4_setTimes_59 : decode cX4_setTimes 59 = .ok (.iconst 0, 1) := by decide +kernel
theorem dX4_setTimes_60 : decode cX4_setTimes 60 = .ok (.istore_n 2, 1) := by decide +kernel
theorem dX4_setTimes_61 : decode cX4_setTimes 61 = .ok (.iload_n 2, 1) := by decide +kernel
theorem dX4_setTimes_62 : decode cX4_setTimes 62 = .ok (.aload_n 0, 1) := by decide +kernel
theorem dX4_setTimes_63 : decode cX4_setTimes 63 = .ok (.getfield 49, 3) := by decide +kernel
theorem dX4_setTimes_66 : decode cX4_setTimes 66 = .ok (.getfield 53, 3) := by decide +kernel
theorem dX4_setTimes_69 : decode cX4_setTimes 69 = .ok (.if_icmp .ge 65, 3) := by decide +kernel
theorem dX4_setTimes_72 : decode cX4_setTimes 72 = .ok (.aload_n 0, 1) := by decide +kernel
theorem dX4_setTimes_73 : decode cX4_setTimes 73 = .ok (.getfield 20, 3) := by decide +kernel
theorem dX4_setTimes_76 : decode cX4_setTimes 76 = .ok (.aload_n 0, 1) := by decide +kernel
theorem dX4_setTimes_77 : decode cX4_setTimes 77 = .ok (.getfield 49, 3) := by decide +kernel
theorem dX4_setTimes_80 : decode cX4_setTimes 80 = .ok (.getfield 84, 3) := by decide +kernel
theorem dX4_setTimes_83 : decode cX4_setTimes 83 = .ok (.iload_n 2, 1) := by decide +kernel
theorem dX4_setTimes_84 : decode cX4_setTimes 84 = .ok (.aaload, 1) := by decide +kernel
theorem dX4_setTimes_85 : decode cX4_setTimes 85 = .ok (.iconst 1, 1) := by decide +kernel
theorem dX4_setTimes_86 : decode cX4_setTimes 86 = .ok (.iaload, 1) := by decide +kernel
theorem dX4_setTimes_87 : decode cX4_setTimes 87 = .ok (.iaload, 1) := by decide +kernel
theorem dX4_setTimes_88 : decode cX4_setTimes 88 = .ok (.istore_n 3, 1) := by decide +kernel
theorem dX4_setTimes_89 : decode cX4_setTimes 89 = .ok (.aload_n 0, 1) := by decide +kernel
theorem dX4_setTimes_90 : decode cX4_setTimes 90 = .ok (.getfield 23, 3) := by decide +kernel
theorem dX4_setTimes_93 : decode cX4_setTimes 93 = .ok (.iload_n 2, 1) := by decide +kernel
theorem dX4_setTimes_94 : decode cX4_setTimes 94 = .ok (.iload_n 3, 1) := by decide +kernel
theorem dX4_setTimes_95 : decode cX4_setTimes 95 = .ok (.aload_n 0, 1) := by decide +kernel
theorem dX4_setTimes_96 : decode cX4_setTimes 96 = .ok (.getfield 49, 3) := by decide +kernel
theorem dX4_setTimes_99 : decode cX4_setTimes 99 = .ok (.getfield 84, 3) := by decide +kernel
theorem dX4_setTimes_102 : decode cX4_setTimes 102 = .ok (.iload_n 2, 1) := by decide +kernel
theorem dX4_setTimes_103 : decode cX4_setTimes 103 = .ok (.aaload, 1) := by decide +kernel
theorem dX4_setTimes_104 : decode cX4_setTimes 104 = .ok (.iconst 5, 1) := by decide +kernel
theorem dX4_setTimes_105 : decode cX4_setTimes 105 = .ok (.iaload, 1) := by decide +kernel
theorem dX4_setTimes_106 : decode cX4_setTimes 106 = .ok (.iadd, 1) := by decide +kernel
theorem dX4_setTimes_107 : decode cX4_setTimes 107 = .ok (.iastore, 1) := by decide +kernel
theorem dX4_setTimes_108 : decode cX4_setTimes 108 = .ok (.aload_n 0, 1) := by decide +kernel
theorem dX4_setTimes_109 : decode cX4_setTimes 109 = .ok (.getfield 26, 3) := by decide +kernel
theorem dX4_setTimes_112 : decode cX4_setTimes 112 = .ok (.iload_n 2, 1) := by decide +kernel
theorem dX4_setTimes_113 : decode cX4_setTimes 113 = .ok (.iload_n 3, 1) := by decide +kernel
theorem dX4_setTimes_114 : decode cX4_setTimes 114 = .ok (.aload_n 0, 1) := by decide +kernel
theorem dX4_setTimes_115 : decode cX4_setTimes 115 = .ok (.getfield 49, 3) := by decide +kernel
theorem dX4_setTimes_118 : decode cX4_setTimes 118 = .ok (.getfield 84, 3) := by decide +kernel
theorem dX4_setTimes_121 : decode cX4_setTimes 121 = .ok (.iload_n 2, 1) := by decide +kernel
theorem dX4_setTimes_122 : decode cX4_setTimes 122 = .ok (.aaload, 1) := by decide +kernel
theorem dX4_setTimes_123 : decode cX4_setTimes 123 = .ok (.bipush 6, 2) := by decide +kernel
theorem dX4_setTimes_125 : decode cX4_setTimes 125 = .ok (.iaload, 1) := by decide +kernel
theorem dX4_setTimes_126 : decode cX4_setTimes 126 = .ok (.iadd, 1) := by decide +kernel
theorem dX4_setTimes_127 : decode cX4_setTimes 127 = .ok (.iastore, 1) := by decide +kernel
theorem dX4_setTimes_128 : decode cX4_setTimes 128 = .ok (.iinc 2 1, 3) := by decide +kernel
theorem dX4_setTimes_131 : decode cX4_setTimes 131 = .ok (.goto (-70), 3) := by decide +kernel
theorem dX4_setTimes_134 : decode cX4_setTimes 134 = .ok (.return_, 1) := by decide +kernel
theorem dX4_sortRow_0 : decode cX4_sortRow 0 = .ok (.iconst 0, 1) := by decide +kernel
theorem dX4_sortRow_1 : decode cX4_sortRow 1 = .ok (.istore_n 1, 1) := by decide +kernel
theorem dX4_sortRow_2 : decode cX4_sortRow 2 = .ok (.iload_n 1, 1) := by decide +kernel
theorem dX4_sortRow_3 : decode cX4_sortRow 3 = .ok (.aload_n 0, 1) := by decide +kernel
theorem dX4_sortRow_4 : decode cX4_sortRow 4 = .ok (.getfield 49, 3) := by decide +kernel
theorem dX4_sortRow_7 : decode cX4_sortRow 7 = .ok (.getfield 53, 3) := by decide +kernel
theorem dX4_sortRow_10 : decode cX4_sortRow 10 = .ok (.if_icmp .ge 64, 3) := by decide +kernel
theorem dX4_sortRow_13 : decode cX4_sortRow 13 = .ok (.iload_n 1, 1) := by decide +kernel
theorem dX4_sortRow_14 : decode cX4_sortRow 14 = .ok (.istore_n 2, 1) := by decide +kernel
theorem dX4_sortRow_15 : decode cX4_sortRow 15 = .ok (.iload_n 2, 1) := by decide +kernel
theorem dX4_sortRow_16 : decode cX4_sortRow 16 = .ok (.ifCond .le 45, 3) := by decide +kernel
theorem dX4_sortRow_19 : decode cX4_sortRow 19 = .ok (.aload_n 0, 1) := by decide +kernel
theorem dX4_sortRow_20 : decode cX4_sortRow 20 = .ok (.getfield 23, 3) := by decide +kernel
theorem dX4_sortRow_23 : decode cX4_sortRow 23 = .ok (.aload_n 0, 1) := by decide +kernel
theorem dX4_sortRow_24 : decode cX4_sortRow 24 = .ok (.getfield 29, 3) := by decide +kernel
theorem dX4_sortRow_27 : decode cX4_sortRow 27 = .ok (.iload_n 2, 1) := by decide +kernel
theorem dX4_sortRow_28 : decode cX4_sortRow 28 = .ok (.iconst 1, 1) := by decide +kernel
theorem dX4_sortRow_29 : decode cX4_sortRow 29 = .ok (.isub, 1) := by decide +kernel
theorem dX4_sortRow_30 : decode cX4_sortRow 30 = .ok (.iaload, 1) := by decide +kernel
theorem dX4_sortRow_31 : decode cX4_sortRow 31 = .ok (.iaload, 1) := by decide +kernel
theorem dX4_sortRow_32 : decode cX4_sortRow 32 = .ok (.aload_n 0, 1) := by decide +kernel
theorem dX4_sortRow_33 : decode cX4_sortRow 33 = .ok (.getfield 23, 3) := by decide +kernel
theorem dX4_sortRow_36 : decode cX4_sortRow 36 = .ok (.iload_n 1, 1) := by decide +kernel
theorem dX4_sortRow_37 : decode cX4_sortRow 37 = .ok (.iaload, 1) := by decide +kernel
theorem dX4_sortRow_38 : decode cX4_sortRow 38 = .ok (.if_icmp .le 23, 3) := by decide +kernel
theorem dX4_sortRow_41 : decode cX4_sortRow 41 = .ok (.aload_n 0, 1) := by decide +kernel
theorem dX4_sortRow_42 : decode cX4_sortRow 42 = .ok (.getfield 29, 3) := by decide +kernel
theorem dX4_sortRow_45 : decode cX4_sortRow 45 = .ok (.iload_n 2, 1) := by decide +kernel
theorem dX4_sortRow_46 : decode cX4_sortRow 46 = .ok (.aload_n 0, 1) := by decide +kernel
theorem dX4_sortRow_47 : decode cX4_sortRow 47 = .ok (.getfield 29, 3) := by decide +kernel
theorem dX4_sortRow_50 : decode cX4_sortRow 50 = .ok (.iload_n 2, 1) := by decide +kernel
theorem dX4_sortRow_51 : decode cX4_sortRow 51 = .ok (.iconst 1, 1) := by decide +kernel
theorem dX4_sortRow_52 : decode cX4_sortRow 52 = .ok (.isub, 1) := by decide +kernel
theorem dX4_sortRow_53 : decode cX4_sortRow 53 = .ok (.iaload, 1) := by decide +kernel
theorem dX4_sortRow_54 : decode cX4_sortRow 54 = .ok (.iastore, 1) := by decide +kernel
theorem dX4_sortRow_55 : decode cX4_sortRow 55 = .ok (.iinc 2 (-1), 3) := by decide +kernel
theorem dX4_sortRow_58 : decode cX4_sortRow 58 = .ok (.goto (-43), 3) := by decide +kernel
theorem dX4_sortRow_61 : decode cX4_sortRow 61 = .ok (.aload_n 0, 1) := by decide +kernel
theorem dX4_sortRow_62 : decode cX4_sortRow 62 = .ok (.getfield 29, 3) := by decide +kernel
theorem dX4_sortRow_65 : decode cX4_sortRow 65 = .ok (.iload_n 2, 1) := by decide +kernel
theorem dX4_sortRow_66 : decode cX4_sortRow 66 = .ok (.iload_n 1, 1) := by decide +kernel
theorem dX4_sortRow_67 : decode cX4_sortRow 67 = .ok (.iastore, 1) := by decide +kernel
theorem dX4_sortRow_68 : decode cX4_sortRow 68 = .ok (.iinc 1 1, 3) := by decide +kernel
theorem dX4_sortRow_71 : decode cX4_sortRow 71 = .ok (.goto (-69), 3) := by decide +kernel
theorem dX4_sortRow_74 : decode cX4_sortRow 74 = .ok (.return_, 1) := by decide +kernel
theorem dX4_findMeetings_0 : decode cX4_findMeetings 0 = .ok (.aload_n 0, 1) := by decide +kernel
theorem dX4_findMeetings_1 : decode cX4_findMeetings 1 = .ok (.getfield 16, 3) := by decide +kernel
theorem dX4_findMeetings_4 : decode cX4_findMeetings 4 = .ok (.iconst 0, 1) := by decide +kernel
theorem dX4_findMeetings_5 : decode cX4_findMeetings 5 = .ok (.invokestatic 87, 3) := by decide +kernel
theorem dX4_findMeetings_8 : decode cX4_findMeetings 8 = .ok (.iconst 0, 1) := by decide +kernel
theorem dX4_findMeetings_9 : decode cX4_findMeetings 9 = .ok (.istore_n 1, 1) := by decide +kernel
theorem dX4_findMeetings_10 : decode cX4_findMeetings 10 = .ok (.iload_n 1, 1) := by decide +kernel
theorem dX4_findMeetings_11 : decode cX4_findMeetings 11 = .ok (.aload_n 0, 1) := by decide +kernel
theorem dX4_findMeetings_12 : decode cX4_findMeetings 12 = .ok (.getfield 49, 3) := by decide +kernel
theorem dX4_findMeetings_15 : decode cX4_findMeetings 15 = .ok (.getfield 53, 3) := by decide +kernel
theorem dX4_findMeetings_18 : decode cX4_findMeetings 18 = .ok (.if_icmp .ge 55, 3) := by decide +kernel
theorem dX4_findMeetings_21 : decode cX4_findMeetings 21 = .ok (.iconst 0, 1) := by decide +kernel
theorem dX4_findMeetings_22 : decode cX4_findMeetings 22 = .ok (.istore_n 2, 1) := by decide +kernel
theorem dX4_findMeetings_23 : decode cX4_findMeetings 23 = .ok (.iload_n 2, 1) := by decide +kernel
theorem dX4_findMeetings_24 : decode cX4_findMeetings 24 = .ok (.iload_n 1, 1) := by decide +kernel
theorem dX4_findMeetings_25 : decode cX4_findMeetings 25 = .ok (.if_icmp .ge 42, 3) := by decide +kernel
theorem dX4_findMeetings_28 : decode cX4_findMeetings 28 = .ok (.aload_n 0, 1) := by decide +kernel
theorem dX4_findMeetings_29 : decode cX4_findMeetings 29 = .ok (.iload_n 1, 1) := by decide +kernel
theorem dX4_findMeetings_30 : decode cX4_findMeetings 30 = .ok (.iload_n 2, 1) := by decide +kernel
theorem dX4_findMeetings_31 : decode cX4_findMeetings 31 = .ok (.invokevirtual 93, 3) := by decide +kernel
theorem dX4_findMeetings_34 : decode cX4_findMeetings 34 = .ok (.ifCond .eq 27, 3) := by decide +kernel
theorem dX4_findMeetings_37 : decode cX4_findMeetings 37 = .ok (.aload_n 0, 1) := by decide +kernel
theorem dX4_findMeetings_38 : decode cX4_findMeetings 38 = .ok (.getfield 16, 3) := by decide +kernel
theorem dX4_findMeetings_41 : decode cX4_findMeetings 41 = .ok (.iload_n 1, 1) := by decide +kernel
theorem dX4_findMeetings_42 : decode cX4_findMeetings 42 = .ok (.dup2, 1) := by decide +kernel
theorem dX4_findMeetings_43 : decode cX4_findMeetings 43 = .ok (.iaload, 1) := by decide +kernel
theorem dX4_findMeetings_44 : decode cX4_findMeetings 44 = .ok (.iconst 1, 1) := by decide +kernel
theorem dX4_findMeetings_45 : decode cX4_findMeetings 45 = .ok (.iload_n 2, 1) := by decide +kernel
theorem dX4_findMeetings_46 : decode cX4_findMeetings 46 = .ok (.ishl, 1) := by decide +kernel
theorem dX4_findMeetings_47 : decode cX4_findMeetings 47 = .ok (.ior, 1) := by decide +kernel
theorem dX4_findMeetings_48 : decode cX4_findMeetings 48 = .ok (.iastore, 1) := by decide +kernel
theorem dX4_findMeetings_49 : decode cX4_findMeetings 49 = .ok (.aload_n 0, 1) := by decide +kernel
theorem dX4_findMeetings_50 : decode cX4_findMeetings 50 = .ok (.getfield 16, 3) := by decide +kernel
theorem dX4_findMeetings_53 : decode cX4_findMeetings 53 = .ok (.iload_n 2, 1) := by decide +kernel
theorem dX4_findMeetings_54 : decode cX4_findMeetings 54 = .ok (.dup2, 1) := by decide +kernel
theorem dX4_findMeetings_55 : decode cX4_findMeetings 55 = .ok (.iaload, 1) := by decide +kernel
theorem dX4_findMeetings_56 : decode cX4_findMeetings 56 = .ok (.iconst 1, 1) := by decide +kernel
theorem dX4_findMeetings_57 : decode cX4_findMeetings 57 = .ok (.iload_n 1, 1) := by decide +kernel
theorem dX4_findMeetings_58 : decode cX4_findMeetings 58 = .ok (.ishl, 1) := by decide +kernel
theorem dX4_findMeetings_59 : decode cX4_findMeetings 59 = .ok (.ior, 1) := by decide +kernel
theorem dX4_findMeetings_60 : decode cX4_findMeetings 60 = .ok (.iastore, 1) := by decide +kernel
theorem dX4_findMeetings_61 : decode cX4_findMeetings 61 = .ok (.iinc 2 1, 3) := by decide +kernel
theorem dX4_findMeetings_64 : decode cX4_findMeetings 64 = .ok (.goto (-41), 3) := by decide +kernel
theorem dX4_findMeetings_67 : decode cX4_findMeetings 67 = .ok (.iinc 1 1, 3) := by decide +kernel
theorem dX4_findMeetings_70 : decode cX4_findMeetings 70 = .ok (.goto (-60), 3) := by decide +kernel
theorem dX4_findMeetings_73 : decode cX4_findMeetings 73 = .ok (.return_, 1) := by decide +kernel
theorem dX4_doMeet_0 : decode cX4_doMeet 0 = .ok (.aload_n 0, 1) := by decide +kernel
theorem dX4_doMeet_1 : decode cX4_doMeet 1 = .ok (.getfield 23, 3) := by decide +kernel
theorem dX4_doMeet_4 : decode cX4_doMeet 4 = .ok (.iload_n 1, 1) := by decide +kernel
theorem dX4_doMeet_5 : decode cX4_doMeet 5 = .ok (.iaload, 1) := by decide +kernel
theorem dX4_doMeet_6 : decode cX4_doMeet 6 = .ok (.aload_n 0, 1) := by decide +kernel
theorem dX4_doMeet_7 : decode cX4_doMeet 7 = .ok (.getfield 26, 3) := by decide +kernel
theorem dX4_doMeet_10 : decode cX4_doMeet 10 = .ok (.iload_n 2, 1) := by decide +kernel
theorem dX4_doMeet_11 : decode cX4_doMeet 11 = .ok (.iaload, 1) := by decide +kernel
theorem dX4_doMeet_12 : decode cX4_doMeet 12 = .ok (.if_icmp .ge 22, 3) := by decide +kernel
theorem dX4_doMeet_15 : decode cX4_doMeet 15 = .ok (.aload_n 0, 1) := by decide +kernel
theorem dX4_doMeet_16 : decode cX4_doMeet 16 = .ok (.getfield 23, 3) := by decide +kernel
theorem dX4_doMeet_19 : decode cX4_doMeet 19 = .ok (.iload_n 2, 1) := by decide +kernel
theorem dX4_doMeet_20 : decode cX4_doMeet 20 = .ok (.iaload, 1) := by decide +kernel
theorem dX4_doMeet_21 : decode cX4_doMeet 21 = .ok (.aload_n 0, 1) := by decide +kernel
theorem dX4_doMeet_22 : decode cX4_doMeet 22 = .ok (.getfield 26, 3) := by decide +kernel
theorem dX4_doMeet_25 : decode cX4_doMeet 25 = .ok (.iload_n 1, 1) := by decide +kernel
theorem dX4_doMeet_26 : decode cX4_doMeet 26 = .ok (.iaload, 1) := by decide +kernel
theorem dX4_doMeet_27 : decode cX4_doMeet 27 = .ok (.if_icmp .ge 7, 3) := by decide +kernel
theorem dX4_doMeet_30 : decode cX4_doMeet 30 = .ok (.iconst 1, 1) := by decide +kernel
theorem dX4_doMeet_31 : decode cX4_doMeet 31 = .ok (.goto 4, 3) := by decide +kernel
theorem dX4_doMeet_34 : decode cX4_doMeet 34 = .ok (.iconst 0, 1) := by decide +kernel
theorem dX4_doMeet_35 : decode cX4_doMeet 35 = .ok (.ireturn, 1) := by decide +kernel
theorem dX4_bodilyOf_0 : decode cX4_bodilyOf 0 = .ok (.iload_n 1, 1) := by decide +kernel
theorem dX4_bodilyOf_1 : decode cX4_bodilyOf 1 = .ok (.aload_n 0, 1) := by decide +kernel
theorem dX4_bodilyOf_2 : decode cX4_bodilyOf 2 = .ok (.getfield 49, 3) := by decide +kernel
theorem dX4_bodilyOf_5 : decode cX4_bodilyOf 5 = .ok (.getfield 97, 3) := by decide +kernel
theorem dX4_bodilyOf_8 : decode cX4_bodilyOf 8 = .ok (.iconst (-1), 1) := by decide +kernel
theorem dX4_bodilyOf_9 : decode cX4_bodilyOf 9 = .ok (.ixor, 1) := by decide +kernel
theorem dX4_bodilyOf_10 : decode cX4_bodilyOf 10 = .ok (.iand, 1) := by decide +kernel
theorem dX4_bodilyOf_11 : decode cX4_bodilyOf 11 = .ok (.aload_n 0, 1) := by decide +kernel
theorem dX4_bodilyOf_12 : decode cX4_bodilyOf 12 = .ok (.getfield 49, 3) := by decide +kernel
theorem dX4_bodilyOf_15 : decode cX4_bodilyOf 15 = .ok (.getfield 100, 3) := by decide +kernel
theorem dX4_bodilyOf_18 : decode cX4_bodilyOf 18 = .ok (.iconst (-1), 1) := by decide +kernel
theorem dX4_bodilyOf_19 : decode cX4_bodilyOf 19 = .ok (.ixor, 1) := by decide +kernel
theorem dX4_bodilyOf_20 : decode cX4_bodilyOf 20 = .ok (.iand, 1) := by decide +kernel
theorem dX4_bodilyOf_21 : decode cX4_bodilyOf 21 = .ok (.aload_n 0, 1) := by decide +kernel
theorem dX4_bodilyOf_22 : decode cX4_bodilyOf 22 = .ok (.getfield 49, 3) := by decide +kernel
theorem dX4_bodilyOf_25 : decode cX4_bodilyOf 25 = .ok (.getfield 103, 3) := by decide +kernel
theorem dX4_bodilyOf_28 : decode cX4_bodilyOf 28 = .ok (.iconst (-1), 1) := by decide +kernel
theorem dX4_bodilyOf_29 : decode cX4_bodilyOf 29 = .ok (.ixor, 1) := by decide +kernel
theorem dX4_bodilyOf_30 : decode cX4_bodilyOf 30 = .ok (.iand, 1) := by decide +kernel
theorem dX4_bodilyOf_31 : decode cX4_bodilyOf 31 = .ok (.istore_n 2, 1) := by decide +kernel
theorem dX4_bodilyOf_32 : decode cX4_bodilyOf 32 = .ok (.iload_n 1, 1) := by decide +kernel
theorem dX4_bodilyOf_33 : decode cX4_bodilyOf 33 = .ok (.aload_n 0, 1) := by decide +kernel
theorem dX4_bodilyOf_34 : decode cX4_bodilyOf 34 = .ok (.getfield 49, 3) := by decide +kernel
theorem dX4_bodilyOf_37 : decode cX4_bodilyOf 37 = .ok (.getfield 103, 3) := by decide +kernel
theorem dX4_bodilyOf_40 : decode cX4_bodilyOf 40 = .ok (.iand, 1) := by decide +kernel
theorem dX4_bodilyOf_41 : decode cX4_bodilyOf 41 = .ok (.istore_n 3, 1) := by decide +kernel
theorem dX4_bodilyOf_42 : decode cX4_bodilyOf 42 = .ok (.iconst 0, 1) := by decide +kernel
theorem dX4_bodilyOf_43 : decode cX4_bodilyOf 43 = .ok (.istore 4, 2) := by decide +kernel
theorem dX4_bodilyOf_45 : decode cX4_bodilyOf 45 = .ok (.iload 4, 2) := by decide +kernel
theorem dX4_bodilyOf_47 : decode cX4_bodilyOf 47 = .ok (.aload_n 0, 1) := by decide +kernel
theorem dX4_bodilyOf_48 : decode cX4_bodilyOf 48 = .ok (.getfield 49, 3) := by decide +kernel
theorem dX4_bodilyOf_51 : decode cX4_bodilyOf 51 = .ok (.getfield 53, 3) := by decide +kernel
theorem dX4_bodilyOf_54 : decode cX4_bodilyOf 54 = .ok (.if_icmp .ge 64, 3) := by decide +kernel
theorem dX4_bodilyOf_57 : decode cX4_bodilyOf 57 = .ok (.iload_n 3, 1) := by decide +kernel
theorem dX4_bodilyOf_58 : decode cX4_bodilyOf 58 = .ok (.ifCond .eq 60, 3) := by decide +kernel
theorem dX4_bodilyOf_61 : decode cX4_bodilyOf 61 = .ok (.aload_n 0, 1) := by decide +kernel
theorem dX4_bodilyOf_62 : decode cX4_bodilyOf 62 = .ok (.getfield 29, 3) := by decide +kernel
theorem dX4_bodilyOf_65 : decode cX4_bodilyOf 65 = .ok (.iload 4, 2) := by decide +kernel
theorem dX4_bodilyOf_67 : decode cX4_bodilyOf 67 = .ok (.iaload, 1) := by decide +kernel
theorem dX4_bodilyOf_68 : decode cX4_bodilyOf 68 = .ok (.istore 5, 2) := by decide +kernel
theorem dX4_bodilyOf_70 : decode cX4_bodilyOf 70 = .ok (.iload_n 3, 1) := by decide +kernel
theorem dX4_bodilyOf_71 : decode cX4_bodilyOf 71 = .ok (.iload 5, 2) := by decide +kernel
theorem dX4_bodilyOf_73 : decode cX4_bodilyOf 73 = .ok (.ishr, 1) := by decide +kernel
theorem dX4_bodilyOf_74 : decode cX4_bodilyOf 74 = .ok (.iconst 1, 1) := by decide +kernel
theorem dX4_bodilyOf_75 : decode cX4_bodilyOf 75 = .ok (.iand, 1) := by decide +kernel
theorem dX4_bodilyOf_76 : decode cX4_bodilyOf 76 = .ok (.iconst 1, 1) := by decide +kernel
theorem dX4_bodilyOf_77 : decode cX4_bodilyOf 77 = .ok (.if_icmp .ne 35, 3) := by decide +kernel
theorem dX4_bodilyOf_80 : decode cX4_bodilyOf 80 = .ok (.iload_n 2, 1) := by decide +kernel
theorem dX4_bodilyOf_81 : decode cX4_bodilyOf 81 = .ok (.iconst 1, 1) := by decide +kernel
theorem dX4_bodilyOf_82 : decode cX4_bodilyOf 82 = .ok (.iload 5, 2) := by decide +kernel
theorem dX4_bodilyOf_84 : decode cX4_bodilyOf 84 = .ok (.ishl, 1) := by decide +kernel
theorem dX4_bodilyOf_85 : decode cX4_bodilyOf 85 = .ok (.ior, 1) := by decide +kernel
theorem dX4_bodilyOf_86 : decode cX4_bodilyOf 86 = .ok (.istore_n 2, 1) := by decide +kernel
theorem dX4_bodilyOf_87 : decode cX4_bodilyOf 87 = .ok (.iload_n 3, 1) := by decide +kernel
theorem dX4_bodilyOf_88 : decode cX4_bodilyOf 88 = .ok (.aload_n 0, 1) := by decide +kernel
theorem dX4_bodilyOf_89 : decode cX4_bodilyOf 89 = .ok (.getfield 49, 3) := by decide +kernel
theorem dX4_bodilyOf_92 : decode cX4_bodilyOf 92 = .ok (.getfield 106, 3) := by decide +kernel
theorem dX4_bodilyOf_95 : decode cX4_bodilyOf 95 = .ok (.aload_n 0, 1) := by decide +kernel
theorem dX4_bodilyOf_96 : decode cX4_bodilyOf 96 = .ok (.getfield 49, 3) := by decide +kernel
theorem dX4_bodilyOf_99 : decode cX4_bodilyOf 99 = .ok (.getfield 84, 3) := by decide +kernel
theorem dX4_bodilyOf_102 : decode cX4_bodilyOf 102 = .ok (.iload 5, 2) := by decide +kernel
theorem dX4_bodilyOf_104 : decode cX4_bodilyOf 104 = .ok (.aaload, 1) := by decide +kernel
theorem dX4_bodilyOf_105 : decode cX4_bodilyOf 105 = .ok (.iconst 0, 1) := by decide +kernel
theorem dX4_bodilyOf_106 : decode cX4_bodilyOf 106 = .ok (.iaload, 1) := by decide +kernel
theorem dX4_bodilyOf_107 : decode cX4_bodilyOf 107 = .ok (.iaload, 1) := by decide +kernel
theorem dX4_bodilyOf_108 : decode cX4_bodilyOf 108 = .ok (.iconst (-1), 1) := by decide +kernel
theorem dX4_bodilyOf_109 : decode cX4_bodilyOf 109 = .ok (.ixor, 1) := by decide +kernel
theorem dX4_bodilyOf_110 : decode cX4_bodilyOf 110 = .ok (.iand, 1) := by decide +kernel
theorem dX4_bodilyOf_111 : decode cX4_bodilyOf 111 = .ok (.istore_n 3, 1) := by decide +kernel
theorem dX4_bodilyOf_112 : decode cX4_bodilyOf 112 = .ok (.iinc 4 1, 3) := by decide +kernel
theorem dX4_bodilyOf_115 : decode cX4_bodilyOf 115 = .ok (.goto (-70), 3) := by decide +kernel
theorem dX4_bodilyOf_118 : decode cX4_bodilyOf 118 = .ok (.iload_n 2, 1) := by decide +kernel
theorem dX4_bodilyOf_119 : decode cX4_bodilyOf 119 = .ok (.ireturn, 1) := by decide +kernel
theorem dX4_canBe_0 : decode cX4_canBe 0 = .ok (.iload_n 1, 1) := by decide +kernel
theorem dX4_canBe_1 : decode cX4_canBe 1 = .ok (.aload_n 0, 1) := by decide +kernel
theorem dX4_canBe_2 : decode cX4_canBe 2 = .ok (.getfield 49, 3) := by decide +kernel
theorem dX4_canBe_5 : decode cX4_canBe 5 = .ok (.getfield 97, 3) := by decide +kernel
theorem dX4_canBe_8 : decode cX4_canBe 8 = .ok (.iand, 1) := by decide +kernel
theorem dX4_canBe_9 : decode cX4_canBe 9 = .ok (.istore_n 2, 1) := by decide +kernel
theorem dX4_canBe_10 : decode cX4_canBe 10 = .ok (.iload_n 1, 1) := by decide +kernel
theorem dX4_canBe_11 : decode cX4_canBe 11 = .ok (.aload_n 0, 1) := by decide +kernel
theorem dX4_canBe_12 : decode cX4_canBe 12 = .ok (.getfield 49, 3) := by decide +kernel
theorem dX4_canBe_15 : decode cX4_canBe 15 = .ok (.getfield 100, 3) := by decide +kernel
theorem dX4_canBe_18 : decode cX4_canBe 18 = .ok (.iand, 1) := by decide +kernel
theorem dX4_canBe_19 : decode cX4_canBe 19 = .ok (.istore_n 3, 1) := by decide +kernel
theorem dX4_canBe_20 : decode cX4_canBe 20 = .ok (.aload_n 0, 1) := by decide +kernel
theorem dX4_canBe_21 : decode cX4_canBe 21 = .ok (.iload_n 1, 1) := by decide +kernel
theorem dX4_canBe_22 : decode cX4_canBe 22 = .ok (.invokevirtual 109, 3) := by decide +kernel
theorem dX4_canBe_25 : decode cX4_canBe 25 = .ok (.istore 4, 2) := by decide +kernel
theorem dX4_canBe_27 : decode cX4_canBe 27 = .ok (.iconst (-1), 1) := by decide +kernel
theorem dX4_canBe_28 : decode cX4_canBe 28 = .ok (.istore 5, 2) := by decide +kernel
theorem dX4_canBe_30 : decode cX4_canBe 30 = .ok (.iconst 0, 1) := by decide +kernel
theorem dX4_canBe_31 : decode cX4_canBe 31 = .ok (.istore 6, 2) := by decide +kernel
theorem dX4_canBe_33 : decode cX4_canBe 33 = .ok (.iload 6, 2) := by decide +kernel
theorem dX4_canBe_35 : decode cX4_canBe 35 = .ok (.aload_n 0, 1) := by decide +kernel
theorem dX4_canBe_36 : decode cX4_canBe 36 = .ok (.getfield 49, 3) := by decide +kernel
theorem dX4_canBe_39 : decode cX4_canBe 39 = .ok (.getfield 53, 3) := by decide +kernel
theorem dX4_canBe_42 : decode cX4_canBe 42 = .ok (.if_icmp .ge 100, 3) := by decide +kernel
theorem dX4_canBe_45 : decode cX4_canBe 45 = .ok (.aload_n 0, 1) := by decide +kernel
theorem dX4_canBe_46 : decode cX4_canBe 46 = .ok (.getfield 29, 3) := by decide +kernel
theorem dX4_canBe_49 : decode cX4_canBe 49 = .ok (.iload 6, 2) := by decide +kernel
theorem dX4_canBe_51 : decode cX4_canBe 51 = .ok (.iaload, 1) := by decide +kernel
theorem dX4_canBe_52 : decode cX4_canBe 52 = .ok (.istore 7, 2) := by decide +kernel
theorem dX4_canBe_54 : decode cX4_canBe 54 = .ok (.iconst 1, 1) := by decide +kernel
theorem dX4_canBe_55 : decode cX4_canBe 55 = .ok (.iload 7, 2) := by decide +kernel
theorem dX4_canBe_57 : decode cX4_canBe 57 = .ok (.ishl, 1) := by decide +kernel
theorem dX4_canBe_58 : decode cX4_canBe 58 = .ok (.istore 8, 2) := by decide +kernel
theorem dX4_canBe_60 : decode cX4_canBe 60 = .ok (.iload_n 2, 1) := by decide +kernel
theorem dX4_canBe_61 : decode cX4_canBe 61 = .ok (.iload 8, 2) := by decide +kernel
theorem dX4_canBe_63 : decode cX4_canBe 63 = .ok (.iand, 1) := by decide +kernel
theorem dX4_canBe_64 : decode cX4_canBe 64 = .ok (.ifCond .eq 20, 3) := by decide +kernel
theorem dX4_canBe_67 : decode cX4_canBe 67 = .ok (.aload_n 0, 1) := by decide +kernel
theorem dX4_canBe_68 : decode cX4_canBe 68 = .ok (.getfield 16, 3) := by decide +kernel
theorem dX4_canBe_71 : decode cX4_canBe 71 = .ok (.iload 7, 2) := by decide +kernel
theorem dX4_canBe_73 : decode cX4_canBe 73 = .ok (.iaload, 1) := by decide +kernel
theorem dX4_canBe_74 : decode cX4_canBe 74 = .ok (.iload_n 2, 1) := by decide +kernel
theorem dX4_canBe_75 : decode cX4_canBe 75 = .ok (.iload 4, 2) := by decide +kernel
theorem dX4_canBe_77 : decode cX4_canBe 77 = .ok (.ior, 1) := by decide +kernel
theorem dX4_canBe_78 : decode cX4_canBe 78 = .ok (.iand, 1) := by decide +kernel
theorem dX4_canBe_79 : decode cX4_canBe 79 = .ok (.ifCond .eq 5, 3) := by decide +kernel
theorem dX4_canBe_82 : decode cX4_canBe 82 = .ok (.iconst 0, 1) := by decide +kernel
theorem dX4_canBe_83 : decode cX4_canBe 83 = .ok (.ireturn, 1) := by decide +kernel
theorem dX4_canBe_84 : decode cX4_canBe 84 = .ok (.iload_n 3, 1) := by decide +kernel
theorem dX4_canBe_85 : decode cX4_canBe 85 = .ok (.iload 8, 2) := by decide +kernel
theorem dX4_canBe_87 : decode cX4_canBe 87 = .ok (.iand, 1) := by decide +kernel
theorem dX4_canBe_88 : decode cX4_canBe 88 = .ok (.ifCond .eq 17, 3) := by decide +kernel
theorem dX4_canBe_91 : decode cX4_canBe 91 = .ok (.aload_n 0, 1) := by decide +kernel
theorem dX4_canBe_92 : decode cX4_canBe 92 = .ok (.getfield 16, 3) := by decide +kernel
theorem dX4_canBe_95 : decode cX4_canBe 95 = .ok (.iload 7, 2) := by decide +kernel
theorem dX4_canBe_97 : decode cX4_canBe 97 = .ok (.iaload, 1) := by decide +kernel
theorem dX4_canBe_98 : decode cX4_canBe 98 = .ok (.iload_n 3, 1) := by decide +kernel
theorem dX4_canBe_99 : decode cX4_canBe 99 = .ok (.iand, 1) := by decide +kernel
theorem dX4_canBe_100 : decode cX4_canBe 100 = .ok (.ifCond .eq 5, 3) := by decide +kernel
theorem dX4_canBe_103 : decode cX4_canBe 103 = .ok (.iconst 0, 1) := by decide +kernel
theorem dX4_canBe_104 : decode cX4_canBe 104 = .ok (.ireturn, 1) := by decide +kernel
theorem dX4_canBe_105 : decode cX4_canBe 105 = .ok (.iload 4, 2) := by decide +kernel
theorem dX4_canBe_107 : decode cX4_canBe 107 = .ok (.iload 8, 2) := by decide +kernel
theorem dX4_canBe_109 : decode cX4_canBe 109 = .ok (.iand, 1) := by decide +kernel
theorem dX4_canBe_110 : decode cX4_canBe 110 = .ok (.ifCond .eq 26, 3) := by decide +kernel
theorem dX4_canBe_113 : decode cX4_canBe 113 = .ok (.iload 5, 2) := by decide +kernel
theorem dX4_canBe_115 : decode cX4_canBe 115 = .ok (.iconst (-1), 1) := by decide +kernel
theorem dX4_canBe_116 : decode cX4_canBe 116 = .ok (.if_icmp .eq 16, 3) := by decide +kernel
theorem dX4_canBe_119 : decode cX4_canBe 119 = .ok (.aload_n 0, 1) := by decide +kernel
theorem dX4_canBe_120 : decode cX4_canBe 120 = .ok (.iload 5, 2) := by decide +kernel
theorem dX4_canBe_122 : decode cX4_canBe 122 = .ok (.iload 7, 2) := by decide +kernel
theorem dX4_canBe_124 : decode cX4_canBe 124 = .ok (.invokevirtual 113, 3) := by decide +kernel
theorem dX4_canBe_127 : decode cX4_canBe 127 = .ok (.ifCond .ge 5, 3) := by decide +kernel
theorem dX4_canBe_130 : decode cX4_canBe 130 = .ok (.iconst 0, 1) := by decide +kernel
theorem dX4_canBe_131 : decode cX4_canBe 131 = .ok (.ireturn, 1) := by decide +kernel
theorem dX4_canBe_132 : decode cX4_canBe 132 = .ok (.iload 7, 2) := by decide +kernel
theorem dX4_canBe_134 : decode cX4_canBe 134 = .ok (.istore 5, 2) := by decide +kernel
theorem dX4_canBe_136 : decode cX4_canBe 136 = .ok (.iinc 6 1, 3) := by decide +kernel
theorem dX4_canBe_139 : decode cX4_canBe 139 = .ok (.goto (-106), 3) := by decide +kernel
theorem dX4_canBe_142 : decode cX4_canBe 142 = .ok (.iconst 1, 1) := by decide +kernel
theorem dX4_canBe_143 : decode cX4_canBe 143 = .ok (.ireturn, 1) := by decide +kernel
theorem dX4_spare_0 : decode cX4_spare 0 = .ok (.aload_n 0, 1) := by decide +kernel
theorem dX4_spare_1 : decode cX4_spare 1 = .ok (.getfield 23, 3) := by decide +kernel
theorem dX4_spare_4 : decode cX4_spare 4 = .ok (.iload_n 2, 1) := by decide +kernel
theorem dX4_spare_5 : decode cX4_spare 5 = .ok (.iaload, 1) := by decide +kernel
theorem dX4_spare_6 : decode cX4_spare 6 = .ok (.aload_n 0, 1) := by decide +kernel
theorem dX4_spare_7 : decode cX4_spare 7 = .ok (.getfield 26, 3) := by decide +kernel
theorem dX4_spare_10 : decode cX4_spare 10 = .ok (.iload_n 1, 1) := by decide +kernel
theorem dX4_spare_11 : decode cX4_spare 11 = .ok (.iaload, 1) := by decide +kernel
theorem dX4_spare_12 : decode cX4_spare 12 = .ok (.isub, 1) := by decide +kernel
theorem dX4_spare_13 : decode cX4_spare 13 = .ok (.aload_n 0, 1) := by decide +kernel
theorem dX4_spare_14 : decode cX4_spare 14 = .ok (.getfield 11, 3) := by decide +kernel
theorem dX4_spare_17 : decode cX4_spare 17 = .ok (.iload_n 1, 1) := by decide +kernel
theorem dX4_spare_18 : decode cX4_spare 18 = .ok (.aaload, 1) := by decide +kernel
theorem dX4_spare_19 : decode cX4_spare 19 = .ok (.iload_n 2, 1) := by decide +kernel
theorem dX4_spare_20 : decode cX4_spare 20 = .ok (.iaload, 1) := by decide +kernel
theorem dX4_spare_21 : decode cX4_spare 21 = .ok (.isub, 1) := by decide +kernel
theorem dX4_spare_22 : decode cX4_spare 22 = .ok (.ireturn, 1) := by decide +kernel
theorem dX4_fits_0 : decode cX4_fits 0 = .ok (.aload_n 0, 1) := by decide +kernel
theorem dX4_fits_1 : decode cX4_fits 1 = .ok (.aload_n 0, 1) := by decide +kernel
theorem dX4_fits_2 : decode cX4_fits 2 = .ok (.getfield 49, 3) := by decide +kernel
theorem dX4_fits_5 : decode cX4_fits 5 = .ok (.iload_n 1, 1) := by decide +kernel
theorem dX4_fits_6 : decode cX4_fits 6 = .ok (.invokevirtual 116, 3) := by decide +kernel
theorem dX4_fits_9 : decode cX4_fits 9 = .ok (.aload_n 0, 1) := by decide +kernel
theorem dX4_fits_10 : decode cX4_fits 10 = .ok (.getfield 43, 3) := by decide +kernel
theorem dX4_fits_13 : decode cX4_fits 13 = .ok (.iconst (-1), 1) := by decide +kernel
theorem dX4_fits_14 : decode cX4_fits 14 = .ok (.ixor, 1) := by decide +kernel
theorem dX4_fits_15 : decode cX4_fits 15 = .ok (.iand, 1) := by decide +kernel
theorem dX4_fits_16 : decode cX4_fits 16 = .ok (.invokevirtual 119, 3) := by decide +kernel
theorem dX4_fits_19 : decode cX4_fits 19 = .ok (.ireturn, 1) := by decide +kernel
theorem dX4_slackOf_0 : decode cX4_slackOf 0 = .ok (.aload_n 0, 1) := by decide +kernel
theorem dX4_slackOf_1 : decode cX4_slackOf 1 = .ok (.iload_n 1, 1) := by decide +kernel
theorem dX4_slackOf_2 : decode cX4_slackOf 2 = .ok (.invokevirtual 109, 3) := by decide +kernel
theorem dX4_slackOf_5 : decode cX4_slackOf 5 = .ok (.istore_n 2, 1) := by decide +kernel
theorem dX4_slackOf_6 : decode cX4_slackOf 6 = .ok (.iconst (-1), 1) := by decide +kernel
theorem dX4_slackOf_7 : decode cX4_slackOf 7 = .ok (.istore_n 3, 1) := by decide +kernel
theorem dX4_slackOf_8 : decode cX4_slackOf 8 = .ok (.iconst 0, 1) := by decide +kernel
theorem dX4_slackOf_9 : decode cX4_slackOf 9 = .ok (.istore 4, 2) := by decide +kernel
theorem dX4_slackOf_11 : decode cX4_slackOf 11 = .ok (.sipush 999, 3) := by decide +kernel
theorem dX4_slackOf_14 : decode cX4_slackOf 14 = .ok (.istore 5, 2) := by decide +kernel
theorem dX4_slackOf_16 : decode cX4_slackOf 16 = .ok (.iconst 0, 1) := by decide +kernel
theorem dX4_slackOf_17 : decode cX4_slackOf 17 = .ok (.istore 6, 2) := by decide +kernel
theorem dX4_slackOf_19 : decode cX4_slackOf 19 = .ok (.iload 6, 2) := by decide +kernel
theorem dX4_slackOf_21 : decode cX4_slackOf 21 = .ok (.aload_n 0, 1) := by decide +kernel
theorem dX4_slackOf_22 : decode cX4_slackOf 22 = .ok (.getfield 49, 3) := by decide +kernel
theorem dX4_slackOf_25 : decode cX4_slackOf 25 = .ok (.getfield 53, 3) := by decide +kernel
theorem dX4_slackOf_28 : decode cX4_slackOf 28 = .ok (.if_icmp .ge 67, 3) := by decide +kernel
theorem dX4_slackOf_31 : decode cX4_slackOf 31 = .ok (.aload_n 0, 1) := by decide +kernel
theorem dX4_slackOf_32 : decode cX4_slackOf 32 = .ok (.getfield 29, 3) := by decide +kernel
theorem dX4_slackOf_35 : decode cX4_slackOf 35 = .ok (.iload 6, 2) := by decide +kernel
theorem dX4_slackOf_37 : decode cX4_slackOf 37 = .ok (.iaload, 1) := by decide +kernel
theorem dX4_slackOf_38 : decode cX4_slackOf 38 = .ok (.istore 7, 2) := by decide +kernel
theorem dX4_slackOf_40 : decode cX4_slackOf 40 = .ok (.iload_n 2, 1) := by decide +kernel
theorem dX4_slackOf_41 : decode cX4_slackOf 41 = .ok (.iload 7, 2) := by decide +kernel
theorem dX4_slackOf_43 : decode cX4_slackOf 43 = .ok (.ishr, 1) := by decide +kernel
theorem dX4_slackOf_44 : decode cX4_slackOf 44 = .ok (.iconst 1, 1) := by decide +kernel
theorem dX4_slackOf_45 : decode cX4_slackOf 45 = .ok (.iand, 1) := by decide +kernel
theorem dX4_slackOf_46 : decode cX4_slackOf 46 = .ok (.iconst 1, 1) := by decide +kernel
theorem dX4_slackOf_47 : decode cX4_slackOf 47 = .ok (.if_icmp .ne 42, 3) := by decide +kernel
theorem dX4_slackOf_50 : decode cX4_slackOf 50 = .ok (.iload_n 3, 1) := by decide +kernel
theorem dX4_slackOf_51 : decode cX4_slackOf 51 = .ok (.iconst (-1), 1) := by decide +kernel
theorem dX4_slackOf_52 : decode cX4_slackOf 52 = .ok (.if_icmp .eq 34, 3) := by decide +kernel
theorem dX4_slackOf_55 : decode cX4_slackOf 55 = .ok (.aload_n 0, 1) := by decide +kernel
theorem dX4_slackOf_56 : decode cX4_slackOf 56 = .ok (.iload_n 3, 1) := by decide +kernel
theorem dX4_slackOf_57 : decode cX4_slackOf 57 = .ok (.iload 7, 2) := by decide +kernel
theorem dX4_slackOf_59 : decode cX4_slackOf 59 = .ok (.invokevirtual 113, 3) := by decide +kernel
theorem dX4_slackOf_62 : decode cX4_slackOf 62 = .ok (.istore 8, 2) := by decide +kernel
theorem dX4_slackOf_64 : decode cX4_slackOf 64 = .ok (.iload 4, 2) := by decide +kernel
theorem dX4_slackOf_66 : decode cX4_slackOf 66 = .ok (.ifCond .eq 13, 3) := by decide +kernel
theorem dX4_slackOf_69 : decode cX4_slackOf 69 = .ok (.iload 5, 2) := by decide +kernel
theorem dX4_slackOf_71 : decode cX4_slackOf 71 = .ok (.iload 8, 2) := by decide +kernel
theorem dX4_slackOf_73 : decode cX4_slackOf 73 = .ok (.invokestatic 123, 3) := by decide +kernel
theorem dX4_slackOf_76 : decode cX4_slackOf 76 = .ok (.goto 5, 3) := by decide +kernel
theorem dX4_slackOf_79 : decode cX4_slackOf 79 = .ok (.iload 8, 2) := by decide +kernel
theorem dX4_slackOf_81 : decode cX4_slackOf 81 = .ok (.istore 5, 2) := by decide +kernel
theorem dX4_slackOf_83 : decode cX4_slackOf 83 = .ok (.iconst 1, 1) := by decide +kernel
theorem dX4_slackOf_84 : decode cX4_slackOf 84 = .ok (.istore 4, 2) := by decide +kernel
theorem dX4_slackOf_86 : decode cX4_slackOf 86 = .ok (.iload 7, 2) := by decide +kernel
theorem dX4_slackOf_88 : decode cX4_slackOf 88 = .ok (.istore_n 3, 1) := by decide +kernel
theorem dX4_slackOf_89 : decode cX4_slackOf 89 = .ok (.iinc 6 1, 3) := by decide +kernel
theorem dX4_slackOf_92 : decode cX4_slackOf 92 = .ok (.goto (-73), 3) := by decide +kernel
theorem dX4_slackOf_95 : decode cX4_slackOf 95 = .ok (.iload 5, 2) := by decide +kernel
theorem dX4_slackOf_97 : decode cX4_slackOf 97 = .ok (.ireturn, 1) := by decide +kernel
theorem dX4_changesOf_0 : decode cX4_changesOf 0 = .ok (.aload_n 0, 1) := by decide +kernel
theorem dX4_changesOf_1 : decode cX4_changesOf 1 = .ok (.iload_n 1, 1) := by decide +kernel
theorem dX4_changesOf_2 : decode cX4_changesOf 2 = .ok (.invokevirtual 109, 3) := by decide +kernel
theorem dX4_changesOf_5 : decode cX4_changesOf 5 = .ok (.istore_n 3, 1) := by decide +kernel
theorem dX4_changesOf_6 : decode cX4_changesOf 6 = .ok (.iconst (-1), 1) := by decide +kernel
theorem dX4_changesOf_7 : decode cX4_changesOf 7 = .ok (.istore 4, 2) := by decide +kernel
theorem dX4_changesOf_9 : decode cX4_changesOf 9 = .ok (.iconst 0, 1) := by decide +kernel
theorem dX4_changesOf_10 : decode cX4_changesOf 10 = .ok (.istore 5, 2) := by decide +kernel
theorem dX4_changesOf_12 : decode cX4_changesOf 12 = .ok (.iconst 0, 1) := by decide +kernel
theorem dX4_changesOf_13 : decode cX4_changesOf 13 = .ok (.istore 6, 2) := by decide +kernel
theorem dX4_changesOf_15 : decode cX4_changesOf 15 = .ok (.iload 6, 2) := by decide +kernel
theorem dX4_changesOf_17 : decode cX4_changesOf 17 = .ok (.aload_n 0, 1) := by decide +kernel
theorem dX4_changesOf_18 : decode cX4_changesOf 18 = .ok (.getfield 49, 3) := by decide +kernel
theorem dX4_changesOf_21 : decode cX4_changesOf 21 = .ok (.getfield 53, 3) := by decide +kernel
theorem dX4_changesOf_24 : decode cX4_changesOf 24 = .ok (.if_icmp .ge 52, 3) := by decide +kernel
theorem dX4_changesOf_27 : decode cX4_changesOf 27 = .ok (.aload_n 0, 1) := by decide +kernel
theorem dX4_changesOf_28 : decode cX4_changesOf 28 = .ok (.getfield 29, 3) := by decide +kernel
theorem dX4_changesOf_31 : decode cX4_changesOf 31 = .ok (.iload 6, 2) := by decide +kernel
theorem dX4_changesOf_33 : decode cX4_changesOf 33 = .ok (.iaload, 1) := by decide +kernel
theorem dX4_changesOf_34 : decode cX4_changesOf 34 = .ok (.istore 7, 2) := by decide +kernel
theorem dX4_changesOf_36 : decode cX4_changesOf 36 = .ok (.iload_n 3, 1) := by decide +kernel
theorem dX4_changesOf_37 : decode cX4_changesOf 37 = .ok (.iload 7, 2) := by decide +kernel
theorem dX4_changesOf_39 : decode cX4_changesOf 39 = .ok (.ishr, 1) := by decide +kernel
theorem dX4_changesOf_40 : decode cX4_changesOf 40 = .ok (.iconst 1, 1) := by decide +kernel
theorem dX4_changesOf_41 : decode cX4_changesOf 41 = .ok (.iand, 1) := by decide +kernel
theorem dX4_changesOf_42 : decode cX4_changesOf 42 = .ok (.iconst 1, 1) := by decide +kernel
theorem dX4_changesOf_43 : decode cX4_changesOf 43 = .ok (.if_icmp .ne 27, 3) := by decide +kernel
theorem dX4_changesOf_46 : decode cX4_changesOf 46 = .ok (.iload 4, 2) := by decide +kernel
theorem dX4_changesOf_48 : decode cX4_changesOf 48 = .ok (.iconst (-1), 1) := by decide +kernel
theorem dX4_changesOf_49 : decode cX4_changesOf 49 = .ok (.if_icmp .eq 17, 3) := by decide +kernel
theorem dX4_changesOf_52 : decode cX4_changesOf 52 = .ok (.iload 5, 2) := by decide +kernel
theorem dX4_changesOf_54 : decode cX4_changesOf 54 = .ok (.aload_n 0, 1) := by decide +kernel
theorem dX4_changesOf_55 : decode cX4_changesOf 55 = .ok (.iload 4, 2) := by decide +kernel
theorem dX4_changesOf_57 : decode cX4_changesOf 57 = .ok (.iload 7, 2) := by decide +kernel
theorem dX4_changesOf_59 : decode cX4_changesOf 59 = .ok (.iload_n 2, 1) := by decide +kernel
theorem dX4_changesOf_60 : decode cX4_changesOf 60 = .ok (.invokevirtual 128, 3) := by decide +kernel
theorem dX4_changesOf_63 : decode cX4_changesOf 63 = .ok (.iadd, 1) := by decide +kernel
theorem dX4_changesOf_64 : decode cX4_changesOf 64 = .ok (.istore 5, 2) := by decide +kernel
theorem dX4_changesOf_66 : decode cX4_changesOf 66 = .ok (.iload 7, 2) := by decide +kernel
theorem dX4_changesOf_68 : decode cX4_changesOf 68 = .ok (.istore 4, 2) := by decide +kernel
theorem dX4_changesOf_70 : decode cX4_changesOf 70 = .ok (.iinc 6 1, 3) := by decide +kernel
theorem dX4_changesOf_73 : decode cX4_changesOf 73 = .ok (.goto (-58), 3) := by decide +kernel
theorem dX4_changesOf_76 : decode cX4_changesOf 76 = .ok (.iload 5, 2) := by decide +kernel
theorem dX4_changesOf_78 : decode cX4_changesOf 78 = .ok (.ireturn, 1) := by decide +kernel
theorem dX4_changeOf_0 : decode cX4_changeOf 0 = .ok (.iload_n 3, 1) := by decide +kernel
theorem dX4_changeOf_1 : decode cX4_changeOf 1 = .ok (.iconst 1, 1) := by decide +kernel
theorem dX4_changeOf_2 : decode cX4_changeOf 2 = .ok (.if_icmp .ne 21, 3) := by decide +kernel
theorem dX4_changeOf_5 : decode cX4_changeOf 5 = .ok (.aload_n 0, 1) := by decide +kernel
theorem dX4_changeOf_6 : decode cX4_changeOf 6 = .ok (.getfield 49, 3) := by decide +kernel
theorem dX4_changeOf_9 : decode cX4_changeOf 9 = .ok (.iload_n 1, 1) := by decide +kernel
theorem dX4_changeOf_10 : decode cX4_changeOf 10 = .ok (.iload_n 2, 1) := by decide +kernel
theorem dX4_changeOf_11 : decode cX4_changeOf 11 = .ok (.invokevirtual 131, 3) := by decide +kernel
theorem dX4_changeOf_14 : decode cX4_changeOf 14 = .ok (.ifCond .eq 7, 3) := by decide +kernel
theorem dX4_changeOf_17 : decode cX4_changeOf 17 = .ok (.iconst 1, 1) := by decide +kernel
theorem dX4_changeOf_18 : decode cX4_changeOf 18 = .ok (.goto 4, 3) := by decide +kernel
theorem dX4_changeOf_21 : decode cX4_changeOf 21 = .ok (.iconst 0, 1) := by decide +kernel
theorem dX4_changeOf_22 : decode cX4_changeOf 22 = .ok (.ireturn, 1) := by decide +kernel
theorem dX4_changeOf_23 : decode cX4_changeOf 23 = .ok (.aload_n 0, 1) := by decide +kernel
theorem dX4_changeOf_24 : decode cX4_changeOf 24 = .ok (.getfield 49, 3) := by decide +kernel
theorem dX4_changeOf_27 : decode cX4_changeOf 27 = .ok (.getfield 84, 3) := by decide +kernel
theorem dX4_changeOf_30 : decode cX4_changeOf 30 = .ok (.iload_n 1, 1) := by decide +kernel
theorem dX4_changeOf_31 : decode cX4_changeOf 31 = .ok (.aaload, 1) := by decide +kernel
theorem dX4_changeOf_32 : decode cX4_changeOf 32 = .ok (.iconst 0, 1) := by decide +kernel
theorem dX4_changeOf_33 : decode cX4_changeOf 33 = .ok (.iaload, 1) := by decide +kernel
theorem dX4_changeOf_34 : decode cX4_changeOf 34 = .ok (.istore 4, 2) := by decide +kernel
theorem dX4_changeOf_36 : decode cX4_changeOf 36 = .ok (.aload_n 0, 1) := by decide +kernel
theorem dX4_changeOf_37 : decode cX4_changeOf 37 = .ok (.getfield 49, 3) := by decide +kernel
theorem dX4_changeOf_40 : decode cX4_changeOf 40 = .ok (.getfield 84, 3) := by decide +kernel
theorem dX4_changeOf_43 : decode cX4_changeOf 43 = .ok (.iload_n 2, 1) := by decide +kernel
theorem dX4_changeOf_44 : decode cX4_changeOf 44 = .ok (.aaload, 1) := by decide +kernel
theorem dX4_changeOf_45 : decode cX4_changeOf 45 = .ok (.iconst 0, 1) := by decide +kernel
theorem dX4_changeOf_46 : decode cX4_changeOf 46 = .ok (.iaload, 1) := by decide +kernel
theorem dX4_changeOf_47 : decode cX4_changeOf 47 = .ok (.istore 5, 2) := by decide +kernel
theorem dX4_changeOf_49 : decode cX4_changeOf 49 = .ok (.iload_n 3, 1) := by decide +kernel
theorem dX4_changeOf_50 : decode cX4_changeOf 50 = .ok (.iconst 2, 1) := by decide +kernel
theorem dX4_changeOf_51 : decode cX4_changeOf 51 = .ok (.if_icmp .ne 16, 3) := by decide +kernel
theorem dX4_changeOf_54 : decode cX4_changeOf 54 = .ok (.iload 4, 2) := by decide +kernel
theorem dX4_changeOf_56 : decode cX4_changeOf 56 = .ok (.iload 5, 2) := by decide +kernel
theorem dX4_changeOf_58 : decode cX4_changeOf 58 = .ok (.if_icmp .eq 7, 3) := by decide +kernel
theorem dX4_changeOf_61 : decode cX4_changeOf 61 = .ok (.iconst 1, 1) := by decide +kernel
theorem dX4_changeOf_62 : decode cX4_changeOf 62 = .ok (.goto 4, 3) := by decide +kernel
theorem dX4_changeOf_65 : decode cX4_changeOf 65 = .ok (.iconst 0, 1) := by decide +kernel
theorem dX4_changeOf_66 : decode cX4_changeOf 66 = .ok (.ireturn, 1) := by decide +kernel
theorem dX4_changeOf_67 : decode cX4_changeOf 67 = .ok (.aload_n 0, 1) := by decide +kernel
theorem dX4_changeOf_68 : decode cX4_changeOf 68 = .ok (.getfield 49, 3) := by decide +kernel
theorem dX4_changeOf_71 : decode cX4_changeOf 71 = .ok (.iload 4, 2) := by decide +kernel
theorem dX4_changeOf_73 : decode cX4_changeOf 73 = .ok (.iload 5, 2) := by decide +kernel
theorem dX4_changeOf_75 : decode cX4_changeOf 75 = .ok (.iconst (-1), 1) := by decide +kernel
theorem dX4_changeOf_76 : decode cX4_changeOf 76 = .ok (.invokevirtual 134, 3) := by decide +kernel
theorem dX4_changeOf_79 : decode cX4_changeOf 79 = .ok (.ireturn, 1) := by decide +kernel
theorem dX4_seconds_0 : decode cX4_seconds 0 = .ok (.iconst 0, 1) := by decide +kernel
theorem dX4_seconds_1 : decode cX4_seconds 1 = .ok (.istore_n 2, 1) := by decide +kernel
theorem dX4_seconds_2 : decode cX4_seconds 2 = .ok (.iconst 0, 1) := by decide +kernel
theorem dX4_seconds_3 : decode cX4_seconds 3 = .ok (.istore_n 3, 1) := by decide +kernel
theorem dX4_seconds_4 : decode cX4_seconds 4 = .ok (.iload_n 3, 1) := by decide +kernel
theorem dX4_seconds_5 : decode cX4_seconds 5 = .ok (.aload_n 0, 1) := by decide +kernel
theorem dX4_seconds_6 : decode cX4_seconds 6 = .ok (.getfield 49, 3) := by decide +kernel
theorem dX4_seconds_9 : decode cX4_seconds 9 = .ok (.getfield 53, 3) := by decide +kernel
theorem dX4_seconds_12 : decode cX4_seconds 12 = .ok (.if_icmp .ge 34, 3) := by decide +kernel
theorem dX4_seconds_15 : decode cX4_seconds 15 = .ok (.iload_n 1, 1) := by decide +kernel
theorem dX4_seconds_16 : decode cX4_seconds 16 = .ok (.iload_n 3, 1) := by decide +kernel
theorem dX4_seconds_17 : decode cX4_seconds 17 = .ok (.ishr, 1) := by decide +kernel
theorem dX4_seconds_18 : decode cX4_seconds 18 = .ok (.iconst 1, 1) := by decide +kernel
theorem dX4_seconds_19 : decode cX4_seconds 19 = .ok (.iand, 1) := by decide +kernel
theorem dX4_seconds_20 : decode cX4_seconds 20 = .ok (.iconst 1, 1) := by decide +kernel
theorem dX4_seconds_21 : decode cX4_seconds 21 = .ok (.if_icmp .ne 19, 3) := by decide +kernel
theorem dX4_seconds_24 : decode cX4_seconds 24 = .ok (.iload_n 2, 1) := by decide +kernel
theorem dX4_seconds_25 : decode cX4_seconds 25 = .ok (.aload_n 0, 1) := by decide +kernel
theorem dX4_seconds_26 : decode cX4_seconds 26 = .ok (.getfield 26, 3) := by decide +kernel
theorem dX4_seconds_29 : decode cX4_seconds 29 = .ok (.iload_n 3, 1) := by decide +kernel
theorem dX4_seconds_30 : decode cX4_seconds 30 = .ok (.iaload, 1) := by decide +kernel
theorem dX4_seconds_31 : decode cX4_seconds 31 = .ok (.aload_n 0, 1) := by decide +kernel
theorem dX4_seconds_32 : decode cX4_seconds 32 = .ok (.getfield 23, 3) := by decide +kernel
theorem dX4_seconds_35 : decode cX4_seconds 35 = .ok (.iload_n 3, 1) := by decide +kernel
theorem dX4_seconds_36 : decode cX4_seconds 36 = .ok (.iaload, 1) := by decide +kernel
theorem dX4_seconds_37 : decode cX4_seconds 37 = .ok (.isub, 1) := by decide +kernel
theorem dX4_seconds_38 : decode cX4_seconds 38 = .ok (.iadd, 1) := by decide +kernel
theorem dX4_seconds_39 : decode cX4_seconds 39 = .ok (.istore_n 2, 1) := by decide +kernel
theorem dX4_seconds_40 : decode cX4_seconds 40 = .ok (.iinc 3 1, 3) := by decide +kernel
theorem dX4_seconds_43 : decode cX4_seconds 43 = .ok (.goto (-39), 3) := by decide +kernel
theorem dX4_seconds_46 : decode cX4_seconds 46 = .ok (.iload_n 2, 1) := by decide +kernel
theorem dX4_seconds_47 : decode cX4_seconds 47 = .ok (.ireturn, 1) := by decide +kernel
theorem dX4_inRow_0 : decode cX4_inRow 0 = .ok (.iload_n 2, 1) := by decide +kernel
theorem dX4_inRow_1 : decode cX4_inRow 1 = .ok (.istore_n 3, 1) := by decide +kernel
theorem dX4_inRow_2 : decode cX4_inRow 2 = .ok (.iconst 0, 1) := by decide +kernel
theorem dX4_inRow_3 : decode cX4_inRow 3 = .ok (.istore 4, 2) := by decide +kernel
theorem dX4_inRow_5 : decode cX4_inRow 5 = .ok (.iload 4, 2) := by decide +kernel
theorem dX4_inRow_7 : decode cX4_inRow 7 = .ok (.aload_n 0, 1) := by decide +kernel
theorem dX4_inRow_8 : decode cX4_inRow 8 = .ok (.getfield 49, 3) := by decide +kernel
theorem dX4_inRow_11 : decode cX4_inRow 11 = .ok (.getfield 53, 3) := by decide +kernel
theorem dX4_inRow_14 : decode cX4_inRow 14 = .ok (.if_icmp .ge 38, 3) := by decide +kernel
theorem dX4_inRow_17 : decode cX4_inRow 17 = .ok (.aload_n 0, 1) := by decide +kernel
theorem dX4_inRow_18 : decode cX4_inRow 18 = .ok (.getfield 29, 3) := by decide +kernel
theorem dX4_inRow_21 : decode cX4_inRow 21 = .ok (.iload 4, 2) := by decide +kernel
theorem dX4_inRow_23 : decode cX4_inRow 23 = .ok (.iaload, 1) := by decide +kernel
theorem dX4_inRow_24 : decode cX4_inRow 24 = .ok (.istore 5, 2) := by decide +kernel
theorem dX4_inRow_26 : decode cX4_inRow 26 = .ok (.iload_n 1, 1) := by decide +kernel
theorem dX4_inRow_27 : decode cX4_inRow 27 = .ok (.iload 5, 2) := by decide +kernel
theorem dX4_inRow_29 : decode cX4_inRow 29 = .ok (.ishr, 1) := by decide +kernel
theorem dX4_inRow_30 : decode cX4_inRow 30 = .ok (.iconst 1, 1) := by decide +kernel
theorem dX4_inRow_31 : decode cX4_inRow 31 = .ok (.iand, 1) := by decide +kernel
theorem dX4_inRow_32 : decode cX4_inRow 32 = .ok (.iconst 1, 1) := by decide +kernel
theorem dX4_inRow_33 : decode cX4_inRow 33 = .ok (.if_icmp .ne 13, 3) := by decide +kernel
theorem dX4_inRow_36 : decode cX4_inRow 36 = .ok (.iload_n 3, 1) := by decide +kernel
theorem dX4_inRow_37 : decode cX4_inRow 37 = .ok (.ifCond .ne 6, 3) := by decide +kernel
theorem dX4_inRow_40 : decode cX4_inRow 40 = .ok (.iload 5, 2) := by decide +kernel
theorem dX4_inRow_42 : decode cX4_inRow 42 = .ok (.ireturn, 1) := by decide +kernel
theorem dX4_inRow_43 : decode cX4_inRow 43 = .ok (.iinc 3 (-1), 3) := by decide +kernel
theorem dX4_inRow_46 : decode cX4_inRow 46 = .ok (.iinc 4 1, 3) := by decide +kernel
theorem dX4_inRow_49 : decode cX4_inRow 49 = .ok (.goto (-44), 3) := by decide +kernel
theorem dX4_inRow_52 : decode cX4_inRow 52 = .ok (.iconst (-1), 1) := by decide +kernel
theorem dX4_inRow_53 : decode cX4_inRow 53 = .ok (.ireturn, 1) := by decide +kernel
theorem dX4_leastCut_0 : decode cX4_leastCut 0 = .ok (.aload_n 0, 1) := by decide +kernel
theorem dX4_leastCut_1 : decode cX4_leastCut 1 = .ok (.aload_n 0, 1) := by decide +kernel
theorem dX4_leastCut_2 : decode cX4_leastCut 2 = .ok (.getfield 49, 3) := by decide +kernel
theorem dX4_leastCut_5 : decode cX4_leastCut 5 = .ok (.iload_n 1, 1) := by decide +kernel
theorem dX4_leastCut_6 : decode cX4_leastCut 6 = .ok (.invokevirtual 116, 3) := by decide +kernel
theorem dX4_leastCut_9 : decode cX4_leastCut 9 = .ok (.aload_n 0, 1) := by decide +kernel
theorem dX4_leastCut_10 : decode cX4_leastCut 10 = .ok (.getfield 43, 3) := by decide +kernel
theorem dX4_leastCut_13 : decode cX4_leastCut 13 = .ok (.iconst (-1), 1) := by decide +kernel
theorem dX4_leastCut_14 : decode cX4_leastCut 14 = .ok (.ixor, 1) := by decide +kernel
theorem dX4_leastCut_15 : decode cX4_leastCut 15 = .ok (.iand, 1) := by decide +kernel
theorem dX4_leastCut_16 : decode cX4_leastCut 16 = .ok (.iload_n 2, 1) := by decide +kernel
theorem dX4_leastCut_17 : decode cX4_leastCut 17 = .ok (.aload_n 0, 1) := by decide +kernel
theorem dX4_leastCut_18 : decode cX4_leastCut 18 = .ok (.getfield 49, 3) := by decide +kernel
theorem dX4_leastCut_21 : decode cX4_leastCut 21 = .ok (.getfield 53, 3) := by decide +kernel
theorem dX4_leastCut_24 : decode cX4_leastCut 24 = .ok (.invokevirtual 137, 3) := by decide +kernel
theorem dX4_leastCut_27 : decode cX4_leastCut 27 = .ok (.ireturn, 1) := by decide +kernel
theorem dX4_without_0 : decode cX4_without 0 = .ok (.iload_n 2, 1) := by decide +kernel
theorem dX4_without_1 : decode cX4_without 1 = .ok (.ifCond .gt 17, 3) := by decide +kernel
theorem dX4_without_4 : decode cX4_without 4 = .ok (.aload_n 0, 1) := by decide +kernel
theorem dX4_without_5 : decode cX4_without 5 = .ok (.iload_n 1, 1) := by decide +kernel
theorem dX4_without_6 : decode cX4_without 6 = .ok (.invokevirtual 119, 3) := by decide +kernel
theorem dX4_without_9 : decode cX4_without 9 = .ok (.ifCond .eq 7, 3) := by decide +kernel
theorem dX4_without_12 : decode cX4_without 12 = .ok (.iconst 0, 1) := by decide +kernel
theorem dX4_without_13 : decode cX4_without 13 = .ok (.goto 4, 3) := by decide +kernel
theorem dX4_without_16 : decode cX4_without 16 = .ok (.iconst (-1), 1) := by decide +kernel
theorem dX4_without_17 : decode cX4_without 17 = .ok (.ireturn, 1) := by decide +kernel
theorem dX4_without_18 : decode cX4_without 18 = .ok (.iload_n 2, 1) := by decide +kernel
theorem dX4_without_19 : decode cX4_without 19 = .ok (.iconst 1, 1) := by decide +kernel
theorem dX4_without_20 : decode cX4_without 20 = .ok (.isub, 1) := by decide +kernel
theorem dX4_without_21 : decode cX4_without 21 = .ok (.istore 4, 2) := by decide +kernel
theorem dX4_without_23 : decode cX4_without 23 = .ok (.iload 4, 2) := by decide +kernel
theorem dX4_without_25 : decode cX4_without 25 = .ok (.iload_n 3, 1) := by decide +kernel
theorem dX4_without_26 : decode cX4_without 26 = .ok (.if_icmp .ge 52, 3) := by decide +kernel
theorem dX4_without_29 : decode cX4_without 29 = .ok (.iload_n 1, 1) := by decide +kernel
theorem dX4_without_30 : decode cX4_without 30 = .ok (.iload 4, 2) := by decide +kernel
theorem dX4_without_32 : decode cX4_without 32 = .ok (.ishr, 1) := by decide +kernel
theorem dX4_without_33 : decode cX4_without 33 = .ok (.iconst 1, 1) := by decide +kernel
theorem dX4_without_34 : decode cX4_without 34 = .ok (.iand, 1) := by decide +kernel
theorem dX4_without_35 : decode cX4_without 35 = .ok (.iconst 1, 1) := by decide +kernel
theorem dX4_without_36 : decode cX4_without 36 = .ok (.if_icmp .ne 36, 3) := by decide +kernel
theorem dX4_without_39 : decode cX4_without 39 = .ok (.aload_n 0, 1) := by decide +kernel
theorem dX4_without_40 : decode cX4_without 40 = .ok (.iload_n 1, 1) := by decide +kernel
theorem dX4_without_41 : decode cX4_without 41 = .ok (.iconst 1, 1) := by decide +kernel
theorem dX4_without_42 : decode cX4_without 42 = .ok (.iload 4, 2) := by decide +kernel
theorem dX4_without_44 : decode cX4_without 44 = .ok (.ishl, 1) := by decide +kernel
theorem dX4_without_45 : decode cX4_without 45 = .ok (.iconst (-1), 1) := by decide +kernel
theorem dX4_without_46 : decode cX4_without 46 = .ok (.ixor, 1) := by decide +kernel
theorem dX4_without_47 : decode cX4_without 47 = .ok (.iand, 1) := by decide +kernel
theorem dX4_without_48 : decode cX4_without 48 = .ok (.iload_n 2, 1) := by decide +kernel
theorem dX4_without_49 : decode cX4_without 49 = .ok (.iconst 1, 1) := by decide +kernel
theorem dX4_without_50 : decode cX4_without 50 = .ok (.isub, 1) := by decide +kernel
theorem dX4_without_51 : decode cX4_without 51 = .ok (.iload 4, 2) := by decide +kernel
theorem dX4_without_53 : decode cX4_without 53 = .ok (.invokevirtual 137, 3) := by decide +kernel
theorem dX4_without_56 : decode cX4_without 56 = .ok (.istore 5, 2) := by decide +kernel
theorem dX4_without_58 : decode cX4_without 58 = .ok (.iload 5, 2) := by decide +kernel
theorem dX4_without_60 : decode cX4_without 60 = .ok (.iconst (-1), 1) := by decide +kernel
theorem dX4_without_61 : decode cX4_without 61 = .ok (.if_icmp .eq 11, 3) := by decide +kernel
theorem dX4_without_64 : decode cX4_without 64 = .ok (.iload 5, 2) := by decide +kernel
theorem dX4_without_66 : decode cX4_without 66 = .ok (.iconst 1, 1) := by decide +kernel
theorem dX4_without_67 : decode cX4_without 67 = .ok (.iload 4, 2) := by decide +kernel
theorem dX4_without_69 : decode cX4_without 69 = .ok (.ishl, 1) := by decide +kernel
theorem dX4_without_70 : decode cX4_without 70 = .ok (.ior, 1) := by decide +kernel
theorem dX4_without_71 : decode cX4_without 71 = .ok (.ireturn, 1) := by decide +kernel
theorem dX4_without_72 : decode cX4_without 72 = .ok (.iinc 4 1, 3) := by decide +kernel
theorem dX4_without_75 : decode cX4_without 75 = .ok (.goto (-52), 3) := by decide +kernel
theorem dX4_without_78 : decode cX4_without 78 = .ok (.iconst (-1), 1) := by decide +kernel
theorem dX4_without_79 : decode cX4_without 79 = .ok (.ireturn, 1) := by decide +kernel
theorem dX4_allParts_0 : decode cX4_allParts 0 = .ok (.aload_n 0, 1) := by decide +kernel
theorem dX4_allParts_1 : decode cX4_allParts 1 = .ok (.getfield 49, 3) := by decide +kernel
theorem dX4_allParts_4 : decode cX4_allParts 4 = .ok (.invokevirtual 140, 3) := by decide +kernel
theorem dX4_allParts_7 : decode cX4_allParts 7 = .ok (.ireturn, 1) := by decide +kernel
theorem dX4_partCount_0 : decode cX4_partCount 0 = .ok (.aload_n 0, 1) := by decide +kernel
theorem dX4_partCount_1 : decode cX4_partCount 1 = .ok (.getfield 49, 3) := by decide +kernel
theorem dX4_partCount_4 : decode cX4_partCount 4 = .ok (.getfield 144, 3) := by decide +kernel
theorem dX4_partCount_7 : decode cX4_partCount 7 = .ok (.ireturn, 1) := by decide +kernel
theorem dX4_playersTold_0 : decode cX4_playersTold 0 = .ok (.aload_n 0, 1) := by decide +kernel
theorem dX4_playersTold_1 : decode cX4_playersTold 1 = .ok (.getfield 49, 3) := by decide +kernel
theorem dX4_playersTold_4 : decode cX4_playersTold 4 = .ok (.getfield 147, 3) := by decide +kernel
theorem dX4_playersTold_7 : decode cX4_playersTold 7 = .ok (.ireturn, 1) := by decide +kernel
theorem dX5_init_0 : decode cX5_init 0 = .ok (.aload_n 0, 1) := by decide +kernel
theorem dX5_init_1 : decode cX5_init 1 = .ok (.invokespecial 3, 3) := by decide +kernel
theorem dX5_init_4 : decode cX5_init 4 = .ok (.aload_n 0, 1) := by decide +kernel
theorem dX5_init_5 : decode cX5_init 5 = .ok (.bipush 7, 2) := by decide +kernel
theorem dX5_init_7 : decode cX5_init 7 = .ok (.iconst 5, 1) := by decide +kernel
theorem dX5_init_8 : decode cX5_init 8 = .ok (.multianewarray 9 2, 4) := by decide +kernel
theorem dX5_init_12 : decode cX5_init 12 = .ok (.putfield 11, 3) := by decide +kernel
theorem dX5_init_15 : decode cX5_init 15 = .ok (.aload_n 0, 1) := by decide +kernel
theorem dX5_init_16 : decode cX5_init 16 = .ok (.bipush 14, 2) := by decide +kernel
theorem dX5_init_18 : decode cX5_init 18 = .ok (.bipush 7, 2) := by decide +kernel
theorem dX5_init_20 : decode cX5_init 20 = .ok (.multianewarray 9 2, 4) := by decide +kernel
theorem dX5_init_24 : decode cX5_init 24 = .ok (.putfield 16, 3) := by decide +kernel
theorem dX5_init_27 : decode cX5_init 27 = .ok (.aload_n 0, 1) := by decide +kernel
theorem dX5_init_28 : decode cX5_init 28 = .ok (.bipush 7, 2) := by decide +kernel
theorem dX5_init_30 : decode cX5_init 30 = .ok (.iconst 3, 1) := by decide +kernel
theorem dX5_init_31 : decode cX5_init 31 = .ok (.multianewarray 9 2, 4) := by decide +kernel
theorem dX5_init_35 : decode cX5_init 35 = .ok (.putfield 19, 3) := by decide +kernel
theorem dX5_init_38 : decode cX5_init 38 = .ok (.aload_n 0, 1) := by decide +kernel
theorem dX5_init_39 : decode cX5_init 39 = .ok (.iconst 5, 1) := by decide +kernel
theorem dX5_init_40 : decode cX5_init 40 = .ok (.newarray .int, 2) := by decide +kernel
theorem dX5_init_42 : decode cX5_init 42 = .ok (.putfield 22, 3) := by decide +kernel
theorem dX5_init_45 : decode cX5_init 45 = .ok (.aload_n 0, 1) := by decide +kernel
theorem dX5_init_46 : decode cX5_init 46 = .ok (.iconst 5, 1) := by decide +kernel
theorem dX5_init_47 : decode cX5_init 47 = .ok (.newarray .int, 2) := by decide +kernel
theorem dX5_init_49 : decode cX5_init 49 = .ok (.putfield 26, 3) := by decide +kernel
theorem dX5_init_52 : decode cX5_init 52 = .ok (.aload_n 0, 1) := by decide +kernel
theorem dX5_init_53 : decode cX5_init 53 = .ok (.bipush 7, 2) := by decide +kernel
theorem dX5_init_55 : decode cX5_init 55 = .ok (.newarray .int, 2) := by decide +kernel
theorem dX5_init_57 : decode cX5_init 57 = .ok (.putfield 29, 3) := by decide +kernel
theorem dX5_init_60 : decode cX5_init 60 = .ok (.aload_n 0, 1) := by decide +kernel
theorem dX5_init_61 : decode cX5_init 61 = .ok (.bipush 120, 2) := by decide +kernel
theorem dX5_init_63 : decode cX5_init 63 = .ok (.newarray .int, 2) := by decide +kernel
theorem dX5_init_65 : decode cX5_init 65 = .ok (.putfield 32, 3) := by decide +kernel
theorem dX5_init_68 : decode cX5_init 68 = .ok (.return_, 1) := by decide +kernel
theorem dX5_clear_0 : decode cX5_clear 0 = .ok (.aload_n 0, 1) := by decide +kernel
theorem dX5_clear_1 : decode cX5_clear 1 = .ok (.iconst 0, 1) := by decide +kernel
theorem dX5_clear_2 : decode cX5_clear 2 = .ok (.putfield 35, 3) := by decide +kernel
theorem dX5_clear_5 : decode cX5_clear 5 = .ok (.aload_n 0, 1) := by decide +kernel
theorem dX5_clear_6 : decode cX5_clear 6 = .ok (.iconst 0, 1) := by decide +kernel
theorem dX5_clear_7 : decode cX5_clear 7 = .ok (.putfield 39, 3) := by decide +kernel
theorem dX5_clear_10 : decode cX5_clear 10 = .ok (.aload_n 0, 1) := by decide +kernel
theorem dX5_clear_11 : decode cX5_clear 11 = .ok (.iconst 0, 1) := by decide +kernel
theorem dX5_clear_12 : decode cX5_clear 12 = .ok (.putfield 42, 3) := by decide +kernel
theorem dX5_clear_15 : decode cX5_clear 15 = .ok (.aload_n 0, 1) := by decide +kernel
theorem dX5_clear_16 : decode cX5_clear 16 = .ok (.iconst 0, 1) := by decide +kernel
theorem dX5_clear_17 : decode cX5_clear 17 = .ok (.putfield 45, 3) := by decide +kernel
theorem dX5_clear_20 : decode cX5_clear 20 = .ok (.aload_n 0, 1) := by decide +kernel
theorem dX5_clear_21 : decode cX5_clear 21 = .ok (.iconst 0, 1) := by decide +kernel
theorem dX5_clear_22 : decode cX5_clear 22 = .ok (.putfield 48, 3) := by decide +kernel
theorem dX5_clear_25 : decode cX5_clear 25 = .ok (.aload_n 0, 1) := by decide +kernel
theorem dX5_clear_26 : decode cX5_clear 26 = .ok (.iconst 0, 1) := by decide +kernel
theorem dX5_clear_27 : decode cX5_clear 27 = .ok (.putfield 51, 3) := by decide +kernel
theorem dX5_clear_30 : decode cX5_clear 30 = .ok (.aload_n 0, 1) := by decide +kernel
theorem dX5_clear_31 : decode cX5_clear 31 = .ok (.iconst 0, 1) := by decide +kernel
theorem dX5_clear_32 : decode cX5_clear 32 = .ok (.putfield 54, 3) := by decide +kernel
theorem dX5_clear_35 : decode cX5_clear 35 = .ok (.aload_n 0, 1) := by decide +kernel
theorem dX5_clear_36 : decode cX5_clear 36 = .ok (.iconst 0, 1) := by decide +kernel
theorem dX5_clear_37 : decode cX5_clear 37 = .ok (.putfield 57, 3) := by decide +kernel
theorem dX5_clear_40 : decode cX5_clear 40 = .ok (.aload_n 0, 1) := by decide +kernel
theorem dX5_clear_41 : decode cX5_clear 41 = .ok (.iconst 0, 1) := by decide +kernel
theorem dX5_clear_42 : decode cX5_clear 42 = .ok (.putfield 60, 3) := by decide +kernel
theorem dX5_clear_45 : decode cX5_clear 45 = .ok (.aload_n 0, 1) := by decide +kernel
theorem dX5_clear_46 : decode cX5_clear 46 = .ok (.iconst 0, 1) := by decide +kernel
theorem dX5_clear_47 : decode cX5_clear 47 = .ok (.putfield 63, 3) := by decide +kernel
theorem dX5_clear_50 : decode cX5_clear 50 = .ok (.aload_n 0, 1) := by decide +kernel
theorem dX5_clear_51 : decode cX5_clear 51 = .ok (.iconst 0, 1) := by decide +kernel
theorem dX5_clear_52 : decode cX5_clear 52 = .ok (.putfield 66, 3) := by decide +kernel
theorem dX5_clear_55 : decode cX5_clear 55 = .ok (.aload_n 0, 1) := by decide +kernel
theorem dX5_clear_56 : decode cX5_clear 56 = .ok (.iconst 0, 1) := by decide +kernel
theorem dX5_clear_57 : decode cX5_clear 57 = .ok (.putfield 69, 3) := by decide +kernel
theorem dX5_clear_60 : decode cX5_clear 60 = .ok (.aload_n 0, 1) := by decide +kernel
theorem dX5_clear_61 : decode cX5_clear 61 = .ok (.getfield 26, 3) := by decide +kernel
theorem dX5_clear_64 : decode cX5_clear 64 = .ok (.iconst 0, 1) := by decide +kernel
theorem dX5_clear_65 : decode cX5_clear 65 = .ok (.invokestatic 72, 3) := by decide +kernel
theorem dX5_clear_68 : decode cX5_clear 68 = .ok (.aload_n 0, 1) := by decide +kernel
theorem dX5_clear_69 : decode cX5_clear 69 = .ok (.getfield 29, 3) := by decide +kernel
theorem dX5_clear_72 : decode cX5_clear 72 = .ok (.iconst 0, 1) := by decide +kernel
theorem dX5_clear_73 : decode cX5_clear 73 = .ok (.invokestatic 72, 3) := by decide +kernel
theorem dX5_clear_76 : decode cX5_clear 76 = .ok (.return_, 1) := by decide +kernel
theorem dX5_addPart_0 : decode cX5_addPart 0 = .ok (.aload_n 0, 1) := by decide +kernel
theorem dX5_addPart_1 : decode cX5_addPart 1 = .ok (.getfield 11, 3) := by decide +kernel
theorem dX5_addPart_4 : decode cX5_addPart 4 = .ok (.aload_n 0, 1) := by decide +kernel
theorem dX5_addPart_5 : decode cX5_addPart 5 = .ok (.getfield 45, 3) := by decide +kernel
theorem dX5_addPart_8 : decode cX5_addPart 8 = .ok (.aaload, 1) := by decide +kernel
theorem dX5_addPart_9 : decode cX5_addPart 9 = .ok (.astore_n 2, 1) := by decide +kernel
theorem dX5_addPart_10 : decode cX5_addPart 10 = .ok (.aload_n 2, 1) := by decide +kernel
theorem dX5_addPart_11 : decode cX5_addPart 11 = .ok (.iconst 0, 1) := by decide +kernel
theorem dX5_addPart_12 : decode cX5_addPart 12 = .ok (.aload_n 1, 1) := by decide +kernel
theorem dX5_addPart_13 : decode cX5_addPart 13 = .ok (.iconst 0, 1) := by decide +kernel
theorem dX5_addPart_14 : decode cX5_addPart 14 = .ok (.iaload, 1) := by decide +kernel
theorem dX5_addPart_15 : decode cX5_addPart 15 = .ok (.iastore, 1) := by decide +kernel
theorem dX5_addPart_16 : decode cX5_addPart 16 = .ok (.aload_n 2, 1) := by decide +kernel
theorem dX5_addPart_17 : decode cX5_addPart 17 = .ok (.iconst 4, 1) := by decide +kernel
theorem dX5_addPart_18 : decode cX5_addPart 18 = .ok (.aload_n 1, 1) := by decide +kernel
theorem dX5_addPart_19 : decode cX5_addPart 19 = .ok (.iconst 1, 1) := by decide +kernel
theorem dX5_addPart_20 : decode cX5_addPart 20 = .ok (.iaload, 1) := by decide +kernel
theorem dX5_addPart_21 : decode cX5_addPart 21 = .ok (.iastore, 1) := by decide +kernel
theorem dX5_addPart_22 : decode cX5_addPart 22 = .ok (.aload_n 2, 1) := by decide +kernel
theorem dX5_addPart_23 : decode cX5_addPart 23 = .ok (.iconst 1, 1) := by decide +kernel
theorem dX5_addPart_24 : decode cX5_addPart 24 = .ok (.aload_n 1, 1) := by decide +kernel
theorem dX5_addPart_25 : decode cX5_addPart 25 = .ok (.iconst 2, 1) := by decide +kernel
theorem dX5_addPart_26 : decode cX5_addPart 26 = .ok (.iaload, 1) := by decide +kernel
theorem dX5_addPart_27 : decode cX5_addPart 27 = .ok (.iastore, 1) := by decide +kernel
theorem dX5_addPart_28 : decode cX5_addPart 28 = .ok (.aload_n 2, 1) := by decide +kernel
theorem dX5_addPart_29 : decode cX5_addPart 29 = .ok (.iconst 2, 1) := by decide +kernel
theorem dX5_addPart_30 : decode cX5_addPart 30 = .ok (.aload_n 1, 1) := by decide +kernel
theorem dX5_addPart_31 : decode cX5_addPart 31 = .ok (.iconst 3, 1) := by decide +kernel
theorem dX5_addPart_32 : decode cX5_addPart 32 = .ok (.iaload, 1) := by decide +kernel
theorem dX5_addPart_33 : decode cX5_addPart 33 = .ok (.iastore, 1) := by decide +kernel
theorem dX5_addPart_34 : decode cX5_addPart 34 = .ok (.aload_n 2, 1) := by decide +kernel
theorem dX5_addPart_35 : decode cX5_addPart 35 = .ok (.iconst 3, 1) := by decide +kernel
theorem dX5_addPart_36 : decode cX5_addPart 36 = .ok (.aload_n 1, 1) := by decide +kernel
theorem dX5_addPart_37 : decode cX5_addPart 37 = .ok (.iconst 4, 1) := by decide +kernel
theorem dX5_addPart_38 : decode cX5_addPart 38 = .ok (.iaload, 1) := by decide +kernel
theorem dX5_addPart_39 : decode cX5_addPart 39 = .ok (.iastore, 1) := by decide +kernel
theorem dX5_addPart_40 : decode cX5_addPart 40 = .ok (.aload_n 0, 1) := by decide +kernel
theorem dX5_addPart_41 : decode cX5_addPart 41 = .ok (.dup, 1) := by decide +kernel
theorem dX5_addPart_42 : decode cX5_addPart 42 = .ok (.getfield 45, 3) := by decide +kernel
theorem dX5_addPart_45 : decode cX5_addPart 45 = .ok (.iconst 1, 1) := by decide +kernel
theorem dX5_addPart_46 : decode cX5_addPart 46 = .ok (.iadd, 1) := by decide +kernel
theorem dX5_addPart_47 : decode cX5_addPart 47 = .ok (.putfield 45, 3) := by decide +kernel
theorem dX5_addPart_50 : decode cX5_addPart 50 = .ok (.return_, 1) := by decide +kernel
theorem dX5_addAfter_0 : decode cX5_addAfter 0 = .ok (.aload_n 0, 1) := by decide +kernel
theorem dX5_addAfter_1 : decode cX5_addAfter 1 = .ok (.getfield 26, 3) := by decide +kernel
theorem dX5_addAfter_4 : decode cX5_addAfter 4 = .ok (.iload_n 2, 1) := by decide +kernel
theorem dX5_addAfter_5 : decode cX5_addAfter 5 = .ok (.dup2, 1) := by decide +kernel
theorem dX5_addAfter_6 : decode cX5_addAfter 6 = .ok (.iaload, 1) := by decide +kernel
theorem dX5_addAfter_7 : decode cX5_addAfter 7 = .ok (.iconst 1, 1) := by decide +kernel
theorem dX5_addAfter_8 : decode cX5_addAfter 8 = .ok (.iload_n 1, 1) := by decide +kernel
theorem dX5_addAfter_9 : decode cX5_addAfter 9 = .ok (.ishl, 1) := by decide +kernel
theorem dX5_addAfter_10 : decode cX5_addAfter 10 = .ok (.ior, 1) := by decide +kernel
theorem dX5_addAfter_11 : decode cX5_addAfter 11 = .ok (.iastore, 1) := by decide +kernel
theorem dX5_addAfter_12 : decode cX5_addAfter 12 = .ok (.aload_n 0, 1) := by decide +kernel
theorem dX5_addAfter_13 : decode cX5_addAfter 13 = .ok (.dup, 1) := by decide +kernel
theorem dX5_addAfter_14 : decode cX5_addAfter 14 = .ok (.getfield 51, 3) := by decide +kernel
theorem dX5_addAfter_17 : decode cX5_addAfter 17 = .ok (.iconst 1, 1) := by decide +kernel
theorem dX5_addAfter_18 : decode cX5_addAfter 18 = .ok (.iadd, 1) := by decide +kernel
theorem dX5_addAfter_19 : decode cX5_addAfter 19 = .ok (.putfield 51, 3) := by decide +kernel
theorem dX5_addAfter_22 : decode cX5_addAfter 22 = .ok (.return_, 1) := by decide +kernel
theorem dX5_addOn_0 : decode cX5_addOn 0 = .ok (.aload_n 0, 1) := by decide +kernel
theorem dX5_addOn_1 : decode cX5_addOn 1 = .ok (.getfield 16, 3) := by decide +kernel
theorem dX5_addOn_4 : decode cX5_addOn 4 = .ok (.aload_n 0, 1) := by decide +kernel
theorem dX5_addOn_5 : decode cX5_addOn 5 = .ok (.getfield 54, 3) := by decide +kernel
theorem dX5_addOn_8 : decode cX5_addOn 8 = .ok (.aaload, 1) := by decide +kernel
theorem dX5_addOn_9 : decode cX5_addOn 9 = .ok (.astore_n 3, 1) := by decide +kernel
theorem dX5_addOn_10 : decode cX5_addOn 10 = .ok (.aload_n 3, 1) := by decide +kernel
theorem dX5_addOn_11 : decode cX5_addOn 11 = .ok (.iconst 0, 1) := by decide +kernel
theorem dX5_addOn_12 : decode cX5_addOn 12 = .ok (.aload_n 1, 1) := by decide +kernel
theorem dX5_addOn_13 : decode cX5_addOn 13 = .ok (.iconst 0, 1) := by decide +kernel
theorem dX5_addOn_14 : decode cX5_addOn 14 = .ok (.iaload, 1) := by decide +kernel
theorem dX5_addOn_15 : decode cX5_addOn 15 = .ok (.iastore, 1) := by decide +kernel
theorem dX5_addOn_16 : decode cX5_addOn 16 = .ok (.aload_n 3, 1) := by decide +kernel
theorem dX5_addOn_17 : decode cX5_addOn 17 = .ok (.iconst 1, 1) := by decide +kernel
theorem dX5_addOn_18 : decode cX5_addOn 18 = .ok (.aload_n 1, 1) := by decide +kernel
theorem dX5_addOn_19 : decode cX5_addOn 19 = .ok (.iconst 1, 1) := by decide +kernel
theorem dX5_addOn_20 : decode cX5_addOn 20 = .ok (.iaload, 1) := by decide +kernel
theorem dX5_addOn_21 : decode cX5_addOn 21 = .ok (.iastore, 1) := by decide +kernel
theorem dX5_addOn_22 : decode cX5_addOn 22 = .ok (.aload_n 3, 1) := by decide +kernel
theorem dX5_addOn_23 : decode cX5_addOn 23 = .ok (.iconst 2, 1) := by decide +kernel
theorem dX5_addOn_24 : decode cX5_addOn 24 = .ok (.iload_n 2, 1) := by decide +kernel
theorem dX5_addOn_25 : decode cX5_addOn 25 = .ok (.ifCond .eq 7, 3) := by decide +kernel
theorem dX5_addOn_28 : decode cX5_addOn 28 = .ok (.iconst 1, 1) := by decide +kernel
theorem dX5_addOn_29 : decode cX5_addOn 29 = .ok (.goto 4, 3) := by decide +kernel
theorem dX5_addOn_32 : decode cX5_addOn 32 = .ok (.iconst 0, 1) := by decide +kernel
theorem dX5_addOn_33 : decode cX5_addOn 33 = .ok (.iastore, 1) := by decide +kernel
theorem dX5_addOn_34 : decode cX5_addOn 34 = .ok (.aload_n 3, 1) := by decide +kernel
theorem dX5_addOn_35 : decode cX5_addOn 35 = .ok (.iconst 3, 1) := by decide +kernel
theorem dX5_addOn_36 : decode cX5_addOn 36 = .ok (.aload_n 1, 1) := by decide +kernel
theorem dX5_addOn_37 : decode cX5_addOn 37 = .ok (.iconst 4, 1) := by decide +kernel
theorem dX5_addOn_38 : decode cX5_addOn 38 = .ok (.iaload, 1) := by decide +kernel
theorem dX5_addOn_39 : decode cX5_addOn 39 = .ok (.iastore, 1) := by decide +kernel
theorem dX5_addOn_40 : decode cX5_addOn 40 = .ok (.aload_n 3, 1) := by decide +kernel
theorem dX5_addOn_41 : decode cX5_addOn 41 = .ok (.iconst 4, 1) := by decide +kernel
theorem dX5_addOn_42 : decode cX5_addOn 42 = .ok (.aload_n 1, 1) := by decide +kernel
theorem dX5_addOn_43 : decode cX5_addOn 43 = .ok (.iconst 5, 1) := by decide +kernel
theorem dX5_addOn_44 : decode cX5_addOn 44 = .ok (.iaload, 1) := by decide +kernel
theorem dX5_addOn_45 : decode cX5_addOn 45 = .ok (.iastore, 1) := by decide +kernel
theorem dX5_addOn_46 : decode cX5_addOn 46 = .ok (.aload_n 3, 1) := by decide +kernel
theorem dX5_addOn_47 : decode cX5_addOn 47 = .ok (.iconst 5, 1) := by decide +kernel
theorem dX5_addOn_48 : decode cX5_addOn 48 = .ok (.aload_n 1, 1) := by decide +kernel
theorem dX5_addOn_49 : decode cX5_addOn 49 = .ok (.iconst 2, 1) := by decide +kernel
theorem dX5_addOn_50 : decode cX5_addOn 50 = .ok (.iaload, 1) := by decide +kernel
theorem dX5_addOn_51 : decode cX5_addOn 51 = .ok (.iastore, 1) := by decide +kernel
theorem dX5_addOn_52 : decode cX5_addOn 52 = .ok (.aload_n 3, 1) := by decide +kernel
theorem dX5_addOn_53 : decode cX5_addOn 53 = .ok (.bipush 6, 2) := by decide +kernel
theorem dX5_addOn_55 : decode cX5_addOn 55 = .ok (.aload_n 1, 1) := by decide +kernel
theorem dX5_addOn_56 : decode cX5_addOn 56 = .ok (.iconst 3, 1) := by decide +kernel
theorem dX5_addOn_57 : decode cX5_addOn 57 = .ok (.iaload, 1) := by decide +kernel
theorem dX5_addOn_58 : decode cX5_addOn 58 = .ok (.iastore, 1) := by decide +kernel
theorem dX5_addOn_59 : decode cX5_addOn 59 = .ok (.iconst 1, 1) := by decide +kernel
theorem dX5_addOn_60 : decode cX5_addOn 60 = .ok (.aload_n 0, 1) := by decide +kernel
theorem dX5_addOn_61 : decode cX5_addOn 61 = .ok (.getfield 54, 3) := by decide +kernel
theorem dX5_addOn_64 : decode cX5_addOn 64 = .ok (.ishl, 1) := by decide +kernel
theorem dX5_addOn_65 : decode cX5_addOn 65 = .ok (.istore 4, 2) := by decide +kernel
theorem dX5_addOn_67 : decode cX5_addOn 67 = .ok (.aload_n 0, 1) := by decide +kernel
theorem dX5_addOn_68 : decode cX5_addOn 68 = .ok (.getfield 11, 3) := by decide +kernel
theorem dX5_addOn_71 : decode cX5_addOn 71 = .ok (.aload_n 1, 1) := by decide +kernel
theorem dX5_addOn_72 : decode cX5_addOn 72 = .ok (.iconst 0, 1) := by decide +kernel
theorem dX5_addOn_73 : decode cX5_addOn 73 = .ok (.iaload, 1) := by decide +kernel
theorem dX5_addOn_74 : decode cX5_addOn 74 = .ok (.aaload, 1) := by decide +kernel
theorem dX5_addOn_75 : decode cX5_addOn 75 = .ok (.iconst 0, 1) := by decide +kernel
theorem dX5_addOn_76 : decode cX5_addOn 76 = .ok (.iaload, 1) := by decide +kernel
theorem dX5_addOn_77 : decode cX5_addOn 77 = .ok (.istore 5, 2) := by decide +kernel
theorem dX5_addOn_79 : decode cX5_addOn 79 = .ok (.iload_n 2, 1) := by decide +kernel
theorem dX5_addOn_80 : decode cX5_addOn 80 = .ok (.ifCond .eq 17, 3) := by decide +kernel
theorem dX5_addOn_83 : decode cX5_addOn 83 = .ok (.aload_n 0, 1) := by decide +kernel
theorem dX5_addOn_84 : decode cX5_addOn 84 = .ok (.dup, 1) := by decide +kernel
theorem dX5_addOn_85 : decode cX5_addOn 85 = .ok (.getfield 63, 3) := by decide +kernel
theorem dX5_addOn_88 : decode cX5_addOn 88 = .ok (.iload 4, 2) := by decide +kernel
theorem dX5_addOn_90 : decode cX5_addOn 90 = .ok (.ior, 1) := by decide +kernel
theorem dX5_addOn_91 : decode cX5_addOn 91 = .ok (.putfield 63, 3) := by decide +kernel
theorem dX5_addOn_94 : decode cX5_addOn 94 = .ok (.goto 40, 3) := by decide +kernel
theorem dX5_addOn_97 : decode cX5_addOn 97 = .ok (.iload 5, 2) := by decide +kernel
theorem dX5_addOn_99 : decode cX5_addOn 99 = .ok (.iconst 2, 1) := by decide +kernel
theorem dX5_addOn_100 : decode cX5_addOn 100 = .ok (.if_icmp .ne 17, 3) := by decide +kernel
theorem dX5_addOn_103 : decode cX5_addOn 103 = .ok (.aload_n 0, 1) := by decide +kernel
theorem dX5_addOn_104 : decode cX5_addOn 104 = .ok (.dup, 1) := by decide +kernel
theorem dX5_addOn_105 : decode cX5_addOn 105 = .ok (.getfield 66, 3) := by decide +kernel
theorem dX5_addOn_108 : decode cX5_addOn 108 = .ok (.iload 4, 2) := by decide +kernel
theorem dX5_addOn_110 : decode cX5_addOn 110 = .ok (.ior, 1) := by decide +kernel
theorem dX5_addOn_111 : decode cX5_addOn 111 = .ok (.putfield 66, 3) := by decide +kernel
theorem dX5_addOn_114 : decode cX5_addOn 114 = .ok (.goto 20, 3) := by decide +kernel
theorem dX5_addOn_117 : decode cX5_addOn 117 = .ok (.iload 5, 2) := by decide +kernel
theorem dX5_addOn_119 : decode cX5_addOn 119 = .ok (.iconst 3, 1) := by decide +kernel
theorem dX5_addOn_120 : decode cX5_addOn 120 = .ok (.if_icmp .ne 14, 3) := by decide +kernel
theorem dX5_addOn_123 : decode cX5_addOn 123 = .ok (.aload_n 0, 1) := by decide +kernel
theorem dX5_addOn_124 : decode cX5_addOn 124 = .ok (.dup, 1) := by decide +kernel
theorem dX5_addOn_125 : decode cX5_addOn 125 = .ok (.getfield 69, 3) := by decide +kernel
theorem dX5_addOn_128 : decode cX5_addOn 128 = .ok (.iload 4, 2) := by decide +kernel
theorem dX5_addOn_130 : decode cX5_addOn 130 = .ok (.ior, 1) := by decide +kernel
theorem dX5_addOn_131 : decode cX5_addOn 131 = .ok (.putfield 69, 3) := by decide +kernel
theorem dX5_addOn_134 : decode cX5_addOn 134 = .ok (.aload_n 0, 1) := by decide +kernel
theorem dX5_addOn_135 : decode cX5_addOn 135 = .ok (.getfield 29, 3) := by decide +kernel
theorem dX5_addOn_138 : decode cX5_addOn 138 = .ok (.aload_n 1, 1) := by decide +kernel
theorem dX5_addOn_139 : decode cX5_addOn 139 = .ok (.iconst 0, 1) := by decide +kernel
theorem dX5_addOn_140 : decode cX5_addOn 140 = .ok (.iaload, 1) := by decide +kernel
theorem dX5_addOn_141 : decode cX5_addOn 141 = .ok (.dup2, 1) := by decide +kernel
theorem dX5_addOn_142 : decode cX5_addOn 142 = .ok (.iaload, 1) := by decide +kernel
theorem dX5_addOn_143 : decode cX5_addOn 143 = .ok (.iload 4, 2) := by decide +kernel
theorem dX5_addOn_145 : decode cX5_addOn 145 = .ok (.ior, 1) := by decide +kernel
theorem dX5_addOn_146 : decode cX5_addOn 146 = .ok (.iastore, 1) := by decide +kernel
theorem dX5_addOn_147 : decode cX5_addOn 147 = .ok (.aload_n 0, 1) := by decide +kernel
theorem dX5_addOn_148 : decode cX5_addOn 148 = .ok (.dup, 1) := by decide +kernel
theorem dX5_addOn_149 : decode cX5_addOn 149 = .ok (.getfield 54, 3) := by decide +kernel
theorem dX5_addOn_152 : decode cX5_addOn 152 = .ok (.iconst 1, 1) := by decide +kernel
theorem dX5_addOn_153 : decode cX5_addOn 153 = .ok (.iadd, 1) := by decide +kernel
theorem dX5_addOn_154 : decode cX5_addOn 154 = .ok (.putfield 54, 3) := by decide +kernel
theorem dX5_addOn_157 : decode cX5_addOn 157 = .ok (.return_, 1) := by decide +kernel
theorem dX5_addSaw_0 : decode cX5_addSaw 0 = .ok (.aload_n 0, 1) := by decide +kernel
theorem dX5_addSaw_1 : decode cX5_addSaw 1 = .ok (.getfield 19, 3) := by decide +kernel
theorem dX5_addSaw_4 : decode cX5_addSaw 4 = .ok (.aload_n 0, 1) := by decide +kernel
theorem dX5_addSaw_5 : decode cX5_addSaw 5 = .ok (.getfield 57, 3) := by decide +kernel
theorem dX5_addSaw_8 : decode cX5_addSaw 8 = .ok (.aaload, 1) := by decide +kernel
theorem dX5_addSaw_9 : decode cX5_addSaw 9 = .ok (.astore_n 2, 1) := by decide +kernel
theorem dX5_addSaw_10 : decode cX5_addSaw 10 = .ok (.aload_n 2, 1) := by decide +kernel
theorem dX5_addSaw_11 : decode cX5_addSaw 11 = .ok (.iconst 0, 1) := by decide +kernel
theorem dX5_addSaw_12 : decode cX5_addSaw 12 = .ok (.aload_n 1, 1) := by decide +kernel
theorem dX5_addSaw_13 : decode cX5_addSaw 13 = .ok (.iconst 0, 1) := by decide +kernel
theorem dX5_addSaw_14 : decode cX5_addSaw 14 = .ok (.iaload, 1) := by decide +kernel
theorem dX5_addSaw_15 : decode cX5_addSaw 15 = .ok (.iastore, 1) := by decide +kernel
theorem dX5_addSaw_16 : decode cX5_addSaw 16 = .ok (.aload_n 2, 1) := by decide +kernel
theorem dX5_addSaw_17 : decode cX5_addSaw 17 = .ok (.iconst 1, 1) := by decide +kernel
theorem dX5_addSaw_18 : decode cX5_addSaw 18 = .ok (.aload_n 1, 1) := by decide +kernel
theorem dX5_addSaw_19 : decode cX5_addSaw 19 = .ok (.iconst 1, 1) := by decide +kernel
theorem dX5_addSaw_20 : decode cX5_addSaw 20 = .ok (.iaload, 1) := by decide +kernel
theorem dX5_addSaw_21 : decode cX5_addSaw 21 = .ok (.iastore, 1) := by decide +kernel
theorem dX5_addSaw_22 : decode cX5_addSaw 22 = .ok (.aload_n 2, 1) := by decide +kernel
theorem dX5_addSaw_23 : decode cX5_addSaw 23 = .ok (.iconst 2, 1) := by decide +kernel
theorem dX5_addSaw_24 : decode cX5_addSaw 24 = .ok (.aload_n 1, 1) := by decide +kernel
theorem dX5_addSaw_25 : decode cX5_addSaw 25 = .ok (.iconst 2, 1) := by decide +kernel
theorem dX5_addSaw_26 : decode cX5_addSaw 26 = .ok (.iaload, 1) := by decide +kernel
theorem dX5_addSaw_27 : decode cX5_addSaw 27 = .ok (.iastore, 1) := by decide +kernel
theorem dX5_addSaw_28 : decode cX5_addSaw 28 = .ok (.aload_n 0, 1) := by decide +kernel
theorem dX5_addSaw_29 : decode cX5_addSaw 29 = .ok (.dup, 1) := by decide +kernel
theorem dX5_addSaw_30 : decode cX5_addSaw 30 = .ok (.getfield 57, 3) := by decide +kernel
theorem dX5_addSaw_33 : decode cX5_addSaw 33 = .ok (.iconst 1, 1) := by decide +kernel
theorem dX5_addSaw_34 : decode cX5_addSaw 34 = .ok (.iadd, 1) := by decide +kernel
theorem dX5_addSaw_35 : decode cX5_addSaw 35 = .ok (.putfield 57, 3) := by decide +kernel
theorem dX5_addSaw_38 : decode cX5_addSaw 38 = .ok (.return_, 1) := by decide +kernel
theorem dX5_allParts_0 : decode cX5_allParts 0 = .ok (.iconst 1, 1) := by decide +kernel
theorem dX5_allParts_1 : decode cX5_allParts 1 = .ok (.aload_n 0, 1) := by decide +kernel
theorem dX5_allParts_2 : decode cX5_allParts 2 = .ok (.getfield 45, 3) := by decide +kernel
theorem dX5_allParts_5 : decode cX5_allParts 5 = .ok (.ishl, 1) := by decide +kernel
theorem dX5_allParts_6 : decode cX5_allParts 6 = .ok (.iconst 1, 1) := by decide +kernel
theorem dX5_allParts_7 : decode cX5_allParts 7 = .ok (.isub, 1) := by decide +kernel
theorem dX5_allParts_8 : decode cX5_allParts 8 = .ok (.ireturn, 1) := by decide +kernel
theorem dX5_allOns_0 : decode cX5_allOns 0 = .ok (.iconst 1, 1) := by decide +kernel
theorem dX5_allOns_1 : decode cX5_allOns 1 = .ok (.aload_n 0, 1) := by decide +kernel
theorem dX5_allOns_2 : decode cX5_allOns 2 = .ok (.getfield 54, 3) := by decide +kernel
theorem dX5_allOns_5 : decode cX5_allOns 5 = .ok (.ishl, 1) := by decide +kernel
theorem dX5_allOns_6 : decode cX5_allOns 6 = .ok (.iconst 1, 1) := by decide +kernel
theorem dX5_allOns_7 : decode cX5_allOns 7 = .ok (.isub, 1) := by decide +kernel
theorem dX5_allOns_8 : decode cX5_allOns 8 = .ok (.ireturn, 1) := by decide +kernel
theorem dX5_onsOfParts_0 : decode cX5_onsOfParts 0 = .ok (.iconst 0, 1) := by decide +kernel
theorem dX5_onsOfParts_1 : decode cX5_onsOfParts 1 = .ok (.istore_n 2, 1) := by decide +kernel
theorem dX5_onsOfParts_2 : decode cX5_onsOfParts 2 = .ok (.iconst 0, 1) := by decide +kernel
theorem dX5_onsOfParts_3 : decode cX5_onsOfParts 3 = .ok (.istore_n 3, 1) := by decide +kernel
theorem dX5_onsOfParts_4 : decode cX5_onsOfParts 4 = .ok (.iload_n 3, 1) := by decide +kernel
theorem dX5_onsOfParts_5 : decode cX5_onsOfParts 5 = .ok (.aload_n 0, 1) := by decide +kernel
theorem dX5_onsOfParts_6 : decode cX5_onsOfParts 6 = .ok (.getfield 45, 3) := by decide +kernel
theorem dX5_onsOfParts_9 : decode cX5_onsOfParts 9 = .ok (.if_icmp .ge 27, 3) := by decide +kernel
theorem dX5_onsOfParts_12 : decode cX5_onsOfParts 12 = .ok (.iload_n 1, 1) := by decide +kernel
theorem dX5_onsOfParts_13 : decode cX5_onsOfParts 13 = .ok (.iload_n 3, 1) := by decide +kernel
theorem dX5_onsOfParts_14 : decode cX5_onsOfParts 14 = .ok (.ishr, 1) := by decide +kernel
theorem dX5_onsOfParts_15 : decode cX5_onsOfParts 15 = .ok (.iconst 1, 1) := by decide +kernel
theorem dX5_onsOfParts_16 : decode cX5_onsOfParts 16 = .ok (.iand, 1) := by decide +kernel
theorem dX5_onsOfParts_17 : decode cX5_onsOfParts 17 = .ok (.iconst 1, 1) := by decide +kernel
theorem dX5_onsOfParts_18 : decode cX5_onsOfParts 18 = .ok (.if_icmp .ne 12, 3) := by decide +kernel
theorem dX5_onsOfParts_21 : decode cX5_onsOfParts 21 = .ok (.iload_n 2, 1) := by decide +kernel
theorem dX5_onsOfParts_22 : decode cX5_onsOfParts 22 = .ok (.aload_n 0, 1) := by decide +kernel
theorem dX5_onsOfParts_23 : decode cX5_onsOfParts 23 = .ok (.getfield 29, 3) := by decide +kernel
theorem dX5_onsOfParts_26 : decode cX5_onsOfParts 26 = .ok (.iload_n 3, 1) := by decide +kernel
theorem dX5_onsOfParts_27 : decode cX5_onsOfParts 27 = .ok (.iaload, 1) := by decide +kernel
theorem dX5_onsOfParts_28 : decode cX5_onsOfParts 28 = .ok (.ior, 1) := by decide +kernel
theorem dX5_onsOfParts_29 : decode cX5_onsOfParts 29 = .ok (.istore_n 2, 1) := by decide +kernel
theorem dX5_onsOfParts_30 : decode cX5_onsOfParts 30 = .ok (.iinc 3 1, 3) := by decide +kernel
theorem dX5_onsOfParts_33 : decode cX5_onsOfParts 33 = .ok (.goto (-29), 3) := by decide +kernel
theorem dX5_onsOfParts_36 : decode cX5_onsOfParts 36 = .ok (.iload_n 2, 1) := by decide +kernel
theorem dX5_onsOfParts_37 : decode cX5_onsOfParts 37 = .ok (.ireturn, 1) := by decide +kernel
theorem dX5_changeTime_0 : decode cX5_changeTime 0 = .ok (.iload_n 1, 1) := by decide +kernel
theorem dX5_changeTime_1 : decode cX5_changeTime 1 = .ok (.iload_n 2, 1) := by decide +kernel
theorem dX5_changeTime_2 : decode cX5_changeTime 2 = .ok (.if_icmp .ne 5, 3) := by decide +kernel
theorem dX5_changeTime_5 : decode cX5_changeTime 5 = .ok (.iconst 0, 1) := by decide +kernel
theorem dX5_changeTime_6 : decode cX5_changeTime 6 = .ok (.ireturn, 1) := by decide +kernel
theorem dX5_changeTime_7 : decode cX5_changeTime 7 = .ok (.iload_n 1, 1) := by decide +kernel
theorem dX5_changeTime_8 : decode cX5_changeTime 8 = .ok (.iload_n 3, 1) := by decide +kernel
theorem dX5_changeTime_9 : decode cX5_changeTime 9 = .ok (.if_icmp .ne 7, 3) := by decide +kernel
theorem dX5_changeTime_12 : decode cX5_changeTime 12 = .ok (.iconst 0, 1) := by decide +kernel
theorem dX5_changeTime_13 : decode cX5_changeTime 13 = .ok (.goto 11, 3) := by decide +kernel
theorem dX5_changeTime_16 : decode cX5_changeTime 16 = .ok (.aload_n 0, 1) := by decide +kernel
theorem dX5_changeTime_17 : decode cX5_changeTime 17 = .ok (.getfield 11, 3) := by decide +kernel
theorem dX5_changeTime_20 : decode cX5_changeTime 20 = .ok (.iload_n 1, 1) := by decide +kernel
theorem dX5_changeTime_21 : decode cX5_changeTime 21 = .ok (.aaload, 1) := by decide +kernel
theorem dX5_changeTime_22 : decode cX5_changeTime 22 = .ok (.iconst 3, 1) := by decide +kernel
theorem dX5_changeTime_23 : decode cX5_changeTime 23 = .ok (.iaload, 1) := by decide +kernel
theorem dX5_changeTime_24 : decode cX5_changeTime 24 = .ok (.istore 4, 2) := by decide +kernel
theorem dX5_changeTime_26 : decode cX5_changeTime 26 = .ok (.iload_n 2, 1) := by decide +kernel
theorem dX5_changeTime_27 : decode cX5_changeTime 27 = .ok (.iload_n 3, 1) := by decide +kernel
theorem dX5_changeTime_28 : decode cX5_changeTime 28 = .ok (.if_icmp .ne 7, 3) := by decide +kernel
theorem dX5_changeTime_31 : decode cX5_changeTime 31 = .ok (.iconst 0, 1) := by decide +kernel
theorem dX5_changeTime_32 : decode cX5_changeTime 32 = .ok (.goto 20, 3) := by decide +kernel
theorem dX5_changeTime_35 : decode cX5_changeTime 35 = .ok (.aload_n 0, 1) := by decide +kernel
theorem dX5_changeTime_36 : decode cX5_changeTime 36 = .ok (.getfield 11, 3) := by decide +kernel
theorem dX5_changeTime_39 : decode cX5_changeTime 39 = .ok (.iload_n 2, 1) := by decide +kernel
theorem dX5_changeTime_40 : decode cX5_changeTime 40 = .ok (.aaload, 1) := by decide +kernel
theorem dX5_changeTime_41 : decode cX5_changeTime 41 = .ok (.iconst 2, 1) := by decide +kernel
theorem dX5_changeTime_42 : decode cX5_changeTime 42 = .ok (.iaload, 1) := by decide +kernel
theorem dX5_changeTime_43 : decode cX5_changeTime 43 = .ok (.aload_n 0, 1) := by decide +kernel
theorem dX5_changeTime_44 : decode cX5_changeTime 44 = .ok (.getfield 11, 3) := by decide +kernel
theorem dX5_changeTime_47 : decode cX5_changeTime 47 = .ok (.iload_n 2, 1) := by decide +kernel
theorem dX5_changeTime_48 : decode cX5_changeTime 48 = .ok (.aaload, 1) := by decide +kernel
theorem dX5_changeTime_49 : decode cX5_changeTime 49 = .ok (.iconst 4, 1) := by decide +kernel
theorem dX5_changeTime_50 : decode cX5_changeTime 50 = .ok (.iaload, 1) := by decide +kernel
theorem dX5_changeTime_51 : decode cX5_changeTime 51 = .ok (.iadd, 1) := by decide +kernel
theorem dX5_changeTime_52 : decode cX5_changeTime 52 = .ok (.istore 5, 2) := by decide +kernel
theorem dX5_changeTime_54 : decode cX5_changeTime 54 = .ok (.aload_n 0, 1) := by decide +kernel
theorem dX5_changeTime_55 : decode cX5_changeTime 55 = .ok (.getfield 11, 3) := by decide +kernel
theorem dX5_changeTime_58 : decode cX5_changeTime 58 = .ok (.iload_n 2, 1) := by decide +kernel
theorem dX5_changeTime_59 : decode cX5_changeTime 59 = .ok (.aaload, 1) := by decide +kernel
theorem dX5_changeTime_60 : decode cX5_changeTime 60 = .ok (.iconst 1, 1) := by decide +kernel
theorem dX5_changeTime_61 : decode cX5_changeTime 61 = .ok (.iaload, 1) := by decide +kernel
theorem dX5_changeTime_62 : decode cX5_changeTime 62 = .ok (.aload_n 0, 1) := by decide +kernel
theorem dX5_changeTime_63 : decode cX5_changeTime 63 = .ok (.getfield 11, 3) := by decide +kernel
theorem dX5_changeTime_66 : decode cX5_changeTime 66 = .ok (.iload_n 1, 1) := by decide +kernel
theorem dX5_changeTime_67 : decode cX5_changeTime 67 = .ok (.aaload, 1) := by decide +kernel
theorem dX5_changeTime_68 : decode cX5_changeTime 68 = .ok (.iconst 1, 1) := by decide +kernel
theorem dX5_changeTime_69 : decode cX5_changeTime 69 = .ok (.iaload, 1) := by decide +kernel
theorem dX5_changeTime_70 : decode cX5_changeTime 70 = .ok (.isub, 1) := by decide +kernel
theorem dX5_changeTime_71 : decode cX5_changeTime 71 = .ok (.istore 6, 2) := by decide +kernel
theorem dX5_changeTime_73 : decode cX5_changeTime 73 = .ok (.iload 6, 2) := by decide +kernel
theorem dX5_changeTime_75 : decode cX5_changeTime 75 = .ok (.ifCond .le 6, 3) := by decide +kernel
theorem dX5_changeTime_78 : decode cX5_changeTime 78 = .ok (.iload 5, 2) := by decide +kernel
theorem dX5_changeTime_80 : decode cX5_changeTime 80 = .ok (.ireturn, 1) := by decide +kernel
theorem dX5_changeTime_81 : decode cX5_changeTime 81 = .ok (.iload 6, 2) := by decide +kernel
theorem dX5_changeTime_83 : decode cX5_changeTime 83 = .ok (.ifCond .ge 8, 3) := by decide +kernel
theorem dX5_changeTime_86 : decode cX5_changeTime 86 = .ok (.iload 4, 2) := by decide +kernel
theorem dX5_changeTime_88 : decode cX5_changeTime 88 = .ok (.goto 8, 3) := by decide +kernel
theorem dX5_changeTime_91 : decode cX5_changeTime 91 = .ok (.iload 4, 2) := by decide +kernel
theorem dX5_changeTime_93 : decode cX5_changeTime 93 = .ok (.iload 5, 2) := by decide +kernel
theorem dX5_changeTime_95 : decode cX5_changeTime 95 = .ok (.iadd, 1) := by decide +kernel
theorem dX5_changeTime_96 : decode cX5_changeTime 96 = .ok (.ireturn, 1) := by decide +kernel
theorem dX5_doesWalk_0 : decode cX5_doesWalk 0 = .ok (.aload_n 0, 1) := by decide +kernel
theorem dX5_doesWalk_1 : decode cX5_doesWalk 1 = .ok (.getfield 16, 3) := by decide +kernel
theorem dX5_doesWalk_4 : decode cX5_doesWalk 4 = .ok (.iload_n 1, 1) := by decide +kernel
theorem dX5_doesWalk_5 : decode cX5_doesWalk 5 = .ok (.aaload, 1) := by decide +kernel
theorem dX5_doesWalk_6 : decode cX5_doesWalk 6 = .ok (.iconst 4, 1) := by decide +kernel
theorem dX5_doesWalk_7 : decode cX5_doesWalk 7 = .ok (.iaload, 1) := by decide +kernel
theorem dX5_doesWalk_8 : decode cX5_doesWalk 8 = .ok (.aload_n 0, 1) := by decide +kernel
theorem dX5_doesWalk_9 : decode cX5_doesWalk 9 = .ok (.getfield 16, 3) := by decide +kernel
theorem dX5_doesWalk_12 : decode cX5_doesWalk 12 = .ok (.iload_n 2, 1) := by decide +kernel
theorem dX5_doesWalk_13 : decode cX5_doesWalk 13 = .ok (.aaload, 1) := by decide +kernel
theorem dX5_doesWalk_14 : decode cX5_doesWalk 14 = .ok (.iconst 3, 1) := by decide +kernel
theorem dX5_doesWalk_15 : decode cX5_doesWalk 15 = .ok (.iaload, 1) := by decide +kernel
theorem dX5_doesWalk_16 : decode cX5_doesWalk 16 = .ok (.if_icmp .eq 7, 3) := by decide +kernel
theorem dX5_doesWalk_19 : decode cX5_doesWalk 19 = .ok (.iconst 1, 1) := by decide +kernel
theorem dX5_doesWalk_20 : decode cX5_doesWalk 20 = .ok (.goto 4, 3) := by decide +kernel
theorem dX5_doesWalk_23 : decode cX5_doesWalk 23 = .ok (.iconst 0, 1) := by decide +kernel
theorem dX5_doesWalk_24 : decode cX5_doesWalk 24 = .ok (.ireturn, 1) := by decide +kernel
theorem dX5_needTime_0 : decode cX5_needTime 0 = .ok (.aload_n 0, 1) := by decide +kernel
theorem dX5_needTime_1 : decode cX5_needTime 1 = .ok (.aload_n 0, 1) := by decide +kernel
theorem dX5_needTime_2 : decode cX5_needTime 2 = .ok (.getfield 16, 3) := by decide +kernel
theorem dX5_needTime_5 : decode cX5_needTime 5 = .ok (.iload_n 1, 1) := by decide +kernel
theorem dX5_needTime_6 : decode cX5_needTime 6 = .ok (.aaload, 1) := by decide +kernel
theorem dX5_needTime_7 : decode cX5_needTime 7 = .ok (.iconst 0, 1) := by decide +kernel
theorem dX5_needTime_8 : decode cX5_needTime 8 = .ok (.iaload, 1) := by decide +kernel
theorem dX5_needTime_9 : decode cX5_needTime 9 = .ok (.aload_n 0, 1) := by decide +kernel
theorem dX5_needTime_10 : decode cX5_needTime 10 = .ok (.getfield 16, 3) := by decide +kernel
theorem dX5_needTime_13 : decode cX5_needTime 13 = .ok (.iload_n 2, 1) := by decide +kernel
theorem dX5_needTime_14 : decode cX5_needTime 14 = .ok (.aaload, 1) := by decide +kernel
theorem dX5_needTime_15 : decode cX5_needTime 15 = .ok (.iconst 0, 1) := by decide +kernel
theorem dX5_needTime_16 : decode cX5_needTime 16 = .ok (.iaload, 1) := by decide +kernel
theorem dX5_needTime_17 : decode cX5_needTime 17 = .ok (.iload_n 3, 1) := by decide +kernel
theorem dX5_needTime_18 : decode cX5_needTime 18 = .ok (.invokevirtual 78, 3) := by decide +kernel
theorem dX5_needTime_21 : decode cX5_needTime 21 = .ok (.istore 4, 2) := by decide +kernel
theorem dX5_needTime_23 : decode cX5_needTime 23 = .ok (.aload_n 0, 1) := by decide +kernel
theorem dX5_needTime_24 : decode cX5_needTime 24 = .ok (.iload_n 1, 1) := by decide +kernel
theorem dX5_needTime_25 : decode cX5_needTime 25 = .ok (.iload_n 2, 1) := by decide +kernel
theorem dX5_needTime_26 : decode cX5_needTime 26 = .ok (.invokevirtual 82, 3) := by decide +kernel
theorem dX5_needTime_29 : decode cX5_needTime 29 = .ok (.ifCond .eq 13, 3) := by decide +kernel
theorem dX5_needTime_32 : decode cX5_needTime 32 = .ok (.iload 4, 2) := by decide +kernel
theorem dX5_needTime_34 : decode cX5_needTime 34 = .ok (.aload_n 0, 1) := by decide +kernel
theorem dX5_needTime_35 : decode cX5_needTime 35 = .ok (.getfield 35, 3) := by decide +kernel
theorem dX5_needTime_38 : decode cX5_needTime 38 = .ok (.iadd, 1) := by decide +kernel
theorem dX5_needTime_39 : decode cX5_needTime 39 = .ok (.goto 5, 3) := by decide +kernel
theorem dX5_needTime_42 : decode cX5_needTime 42 = .ok (.iload 4, 2) := by decide +kernel
theorem dX5_needTime_44 : decode cX5_needTime 44 = .ok (.ireturn, 1) := by decide +kernel
theorem dX5_hasOrder_0 : decode cX5_hasOrder 0 = .ok (.iconst 0, 1) := by decide +kernel
theorem dX5_hasOrder_1 : decode cX5_hasOrder 1 = .ok (.istore_n 1, 1) := by decide +kernel
theorem dX5_hasOrder_2 : decode cX5_hasOrder 2 = .ok (.iconst 0, 1) := by decide +kernel
theorem dX5_hasOrder_3 : decode cX5_hasOrder 3 = .ok (.istore_n 2, 1) := by decide +kernel
theorem dX5_hasOrder_4 : decode cX5_hasOrder 4 = .ok (.iload_n 2, 1) := by decide +kernel
theorem dX5_hasOrder_5 : decode cX5_hasOrder 5 = .ok (.aload_n 0, 1) := by decide +kernel
theorem dX5_hasOrder_6 : decode cX5_hasOrder 6 = .ok (.getfield 48, 3) := by decide +kernel
theorem dX5_hasOrder_9 : decode cX5_hasOrder 9 = .ok (.if_icmp .ge 44, 3) := by decide +kernel
theorem dX5_hasOrder_12 : decode cX5_hasOrder 12 = .ok (.iconst 0, 1) := by decide +kernel
theorem dX5_hasOrder_13 : decode cX5_hasOrder 13 = .ok (.istore_n 3, 1) := by decide +kernel
theorem dX5_hasOrder_14 : decode cX5_hasOrder 14 = .ok (.iload_n 3, 1) := by decide +kernel
theorem dX5_hasOrder_15 : decode cX5_hasOrder 15 = .ok (.aload_n 0, 1) := by decide +kernel
theorem dX5_hasOrder_16 : decode cX5_hasOrder 16 = .ok (.getfield 48, 3) := by decide +kernel
theorem dX5_hasOrder_19 : decode cX5_hasOrder 19 = .ok (.if_icmp .ge 28, 3) := by decide +kernel
theorem dX5_hasOrder_22 : decode cX5_hasOrder 22 = .ok (.aload_n 0, 1) := by decide +kernel
theorem dX5_hasOrder_23 : decode cX5_hasOrder 23 = .ok (.getfield 26, 3) := by decide +kernel
theorem dX5_hasOrder_26 : decode cX5_hasOrder 26 = .ok (.iload_n 3, 1) := by decide +kernel
theorem dX5_hasOrder_27 : decode cX5_hasOrder 27 = .ok (.iaload, 1) := by decide +kernel
theorem dX5_hasOrder_28 : decode cX5_hasOrder 28 = .ok (.iload_n 1, 1) := by decide +kernel
theorem dX5_hasOrder_29 : decode cX5_hasOrder 29 = .ok (.iconst (-1), 1) := by decide +kernel
theorem dX5_hasOrder_30 : decode cX5_hasOrder 30 = .ok (.ixor, 1) := by decide +kernel
theorem dX5_hasOrder_31 : decode cX5_hasOrder 31 = .ok (.iand, 1) := by decide +kernel
theorem dX5_hasOrder_32 : decode cX5_hasOrder 32 = .ok (.ifCond .ne 9, 3) := by decide +kernel
theorem dX5_hasOrder_35 : decode cX5_hasOrder 35 = .ok (.iload_n 1, 1) := by decide +kernel
theorem dX5_hasOrder_36 : decode cX5_hasOrder 36 = .ok (.iconst 1, 1) := by decide +kernel
theorem dX5_hasOrder_37 : decode cX5_hasOrder 37 = .ok (.iload_n 3, 1) := by decide +kernel
theorem dX5_hasOrder_38 : decode cX5_hasOrder 38 = .ok (.ishl, 1) := by decide +kernel
theorem dX5_hasOrder_39 : decode cX5_hasOrder 39 = .ok (.ior, 1) := by decide +kernel
theorem dX5_hasOrder_40 : decode cX5_hasOrder 40 = .ok (.istore_n 1, 1) := by decide +kernel
theorem dX5_hasOrder_41 : decode cX5_hasOrder 41 = .ok (.iinc 3 1, 3) := by decide +kernel
theorem dX5_hasOrder_44 : decode cX5_hasOrder 44 = .ok (.goto (-30), 3) := by decide +kernel
theorem dX5_hasOrder_47 : decode cX5_hasOrder 47 = .ok (.iinc 2 1, 3) := by decide +kernel
theorem dX5_hasOrder_50 : decode cX5_hasOrder 50 = .ok (.goto (-46), 3) := by decide +kernel
theorem dX5_hasOrder_53 : decode cX5_hasOrder 53 = .ok (.iload_n 1, 1) := by decide +kernel
theorem dX5_hasOrder_54 : decode cX5_hasOrder 54 = .ok (.iconst 1, 1) := by decide +kernel
theorem dX5_hasOrder_55 : decode cX5_hasOrder 55 = .ok (.aload_n 0, 1) := by decide +kernel
theorem dX5_hasOrder_56 : decode cX5_hasOrder 56 = .ok (.getfield 48, 3) := by decide +kernel
theorem dX5_hasOrder_59 : decode cX5_hasOrder 59 = .ok (.ishl, 1) := by decide +kernel
theorem dX5_hasOrder_60 : decode cX5_hasOrder 60 = .ok (.iconst 1, 1) := by decide +kernel
theorem dX5_hasOrder_61 : decode cX5_hasOrder 61 = .ok (.isub, 1) := by decide +kernel
theorem dX5_hasOrder_62 : decode cX5_hasOrder 62 = .ok (.if_icmp .ne 7, 3) := by decide +kernel
theorem dX5_hasOrder_65 : decode cX5_hasOrder 65 = .ok (.iconst 1, 1) := by decide +kernel
theorem dX5_hasOrder_66 : decode cX5_hasOrder 66 = .ok (.goto 4, 3) := by decide +kernel
theorem dX5_hasOrder_69 : decode cX5_hasOrder 69 = .ok (.iconst 0, 1) := by decide +kernel
theorem dX5_hasOrder_70 : decode cX5_hasOrder 70 = .ok (.ireturn, 1) := by decide +kernel
theorem dX5_isOrder_0 : decode cX5_isOrder 0 = .ok (.iconst 0, 1) := by decide +kernel
theorem dX5_isOrder_1 : decode cX5_isOrder 1 = .ok (.istore_n 2, 1) := by decide +kernel
theorem dX5_isOrder_2 : decode cX5_isOrder 2 = .ok (.iconst 0, 1) := by decide +kernel
theorem dX5_isOrder_3 : decode cX5_isOrder 3 = .ok (.istore_n 3, 1) := by decide +kernel
theorem dX5_isOrder_4 : decode cX5_isOrder 4 = .ok (.iload_n 3, 1) := by decide +kernel
theorem dX5_isOrder_5 : decode cX5_isOrder 5 = .ok (.aload_n 0, 1) := by decide +kernel
theorem dX5_isOrder_6 : decode cX5_isOrder 6 = .ok (.getfield 48, 3) := by decide +kernel
theorem dX5_isOrder_9 : decode cX5_isOrder 9 = .ok (.if_icmp .ge 48, 3) := by decide +kernel
theorem dX5_isOrder_12 : decode cX5_isOrder 12 = .ok (.iload_n 1, 1) := by decide +kernel
theorem dX5_isOrder_13 : decode cX5_isOrder 13 = .ok (.iload_n 3, 1) := by decide +kernel
theorem dX5_isOrder_14 : decode cX5_isOrder 14 = .ok (.invokestatic 86, 3) := by decide +kernel
theorem dX5_isOrder_17 : decode cX5_isOrder 17 = .ok (.istore 4, 2) := by decide +kernel
theorem dX5_isOrder_19 : decode cX5_isOrder 19 = .ok (.iload 4, 2) := by decide +kernel
theorem dX5_isOrder_21 : decode cX5_isOrder 21 = .ok (.aload_n 0, 1) := by decide +kernel
theorem dX5_isOrder_22 : decode cX5_isOrder 22 = .ok (.getfield 48, 3) := by decide +kernel
theorem dX5_isOrder_25 : decode cX5_isOrder 25 = .ok (.if_icmp .ge 17, 3) := by decide +kernel
theorem dX5_isOrder_28 : decode cX5_isOrder 28 = .ok (.aload_n 0, 1) := by decide +kernel
theorem dX5_isOrder_29 : decode cX5_isOrder 29 = .ok (.getfield 26, 3) := by decide +kernel
theorem dX5_isOrder_32 : decode cX5_isOrder 32 = .ok (.iload 4, 2) := by decide +kernel
theorem dX5_isOrder_34 : decode cX5_isOrder 34 = .ok (.iaload, 1) := by decide +kernel
theorem dX5_isOrder_35 : decode cX5_isOrder 35 = .ok (.iload_n 2, 1) := by decide +kernel
theorem dX5_isOrder_36 : decode cX5_isOrder 36 = .ok (.iconst (-1), 1) := by decide +kernel
theorem dX5_isOrder_37 : decode cX5_isOrder 37 = .ok (.ixor, 1) := by decide +kernel
theorem dX5_isOrder_38 : decode cX5_isOrder 38 = .ok (.iand, 1) := by decide +kernel
theorem dX5_isOrder_39 : decode cX5_isOrder 39 = .ok (.ifCond .eq 5, 3) := by decide +kernel
theorem dX5_isOrder_42 : decode cX5_isOrder 42 = .ok (.iconst 0, 1) := by decide +kernel
theorem dX5_isOrder_43 : decode cX5_isOrder 43 = .ok (.ireturn, 1) := by decide +kernel
theorem dX5_isOrder_44 : decode cX5_isOrder 44 = .ok (.iload_n 2, 1) := by decide +kernel
theorem dX5_isOrder_45 : decode cX5_isOrder 45 = .ok (.iconst 1, 1) := by decide +kernel
theorem dX5_isOrder_46 : decode cX5_isOrder 46 = .ok (.iload 4, 2) := by decide +kernel
theorem dX5_isOrder_48 : decode cX5_isOrder 48 = .ok (.ishl, 1) := by decide +kernel
theorem dX5_isOrder_49 : decode cX5_isOrder 49 = .ok (.ior, 1) := by decide +kernel
theorem dX5_isOrder_50 : decode cX5_isOrder 50 = .ok (.istore_n 2, 1) := by decide +kernel
theorem dX5_isOrder_51 : decode cX5_isOrder 51 = .ok (.iinc 3 1, 3) := by decide +kernel
theorem dX5_isOrder_54 : decode cX5_isOrder 54 = .ok (.goto (-50), 3) := by decide +kernel
theorem dX5_isOrder_57 : decode cX5_isOrder 57 = .ok (.iconst 1, 1) := by decide +kernel
theorem dX5_isOrder_58 : decode cX5_isOrder 58 = .ok (.ireturn, 1) := by decide +kernel
theorem dX5_listOrders_0 : decode cX5_listOrders 0 = .ok (.aload_n 0, 1) := by decide +kernel
theorem dX5_listOrders_1 : decode cX5_listOrders 1 = .ok (.iconst 0, 1) := by decide +kernel
theorem dX5_listOrders_2 : decode cX5_listOrders 2 = .ok (.putfield 60, 3) := by decide +kernel
theorem dX5_listOrders_5 : decode cX5_listOrders 5 = .ok (.aload_n 0, 1) := by decide +kernel
theorem dX5_listOrders_6 : decode cX5_listOrders 6 = .ok (.iconst 0, 1) := by decide +kernel
theorem dX5_listOrders_7 : decode cX5_listOrders 7 = .ok (.iconst 0, 1) := by decide +kernel
theorem dX5_listOrders_8 : decode cX5_listOrders 8 = .ok (.iconst 0, 1) := by decide +kernel
theorem dX5_listOrders_9 : decode cX5_listOrders 9 = .ok (.invokevirtual 90, 3) := by decide +kernel
theorem dX5_listOrders_12 : decode cX5_listOrders 12 = .ok (.return_, 1) := by decide +kernel
theorem dX5_placeScenes_0 : decode cX5_placeScenes 0 = .ok (.iload_n 1, 1) := by decide +kernel
theorem dX5_placeScenes_1 : decode cX5_placeScenes 1 = .ok (.aload_n 0, 1) := by decide +kernel
theorem dX5_placeScenes_2 : decode cX5_placeScenes 2 = .ok (.getfield 48, 3) := by decide +kernel
theorem dX5_placeScenes_5 : decode cX5_placeScenes 5 = .ok (.if_icmp .lt 33, 3) := by decide +kernel
theorem dX5_placeScenes_8 : decode cX5_placeScenes 8 = .ok (.aload_n 0, 1) := by decide +kernel
theorem dX5_placeScenes_9 : decode cX5_placeScenes 9 = .ok (.getfield 60, 3) := by decide +kernel
theorem dX5_placeScenes_12 : decode cX5_placeScenes 12 = .ok (.bipush 120, 2) := by decide +kernel
theorem dX5_placeScenes_14 : decode cX5_placeScenes 14 = .ok (.if_icmp .ge 23, 3) := by decide +kernel
theorem dX5_placeScenes_17 : decode cX5_placeScenes 17 = .ok (.aload_n 0, 1) := by decide +kernel
theorem dX5_placeScenes_18 : decode cX5_placeScenes 18 = .ok (.getfield 32, 3) := by decide +kernel
theorem dX5_placeScenes_21 : decode cX5_placeScenes 21 = .ok (.aload_n 0, 1) := by decide +kernel
theorem dX5_placeScenes_22 : decode cX5_placeScenes 22 = .ok (.getfield 60, 3) := by decide +kernel
theorem dX5_placeScenes_25 : decode cX5_placeScenes 25 = .ok (.iload_n 3, 1) := by decide +kernel
theorem dX5_placeScenes_26 : decode cX5_placeScenes 26 = .ok (.iastore, 1) := by decide +kernel
theorem dX5_placeScenes_27 : decode cX5_placeScenes 27 = .ok (.aload_n 0, 1) := by decide +kernel
theorem dX5_placeScenes_28 : decode cX5_placeScenes 28 = .ok (.dup, 1) := by decide +kernel
theorem dX5_placeScenes_29 : decode cX5_placeScenes 29 = .ok (.getfield 60, 3) := by decide +kernel
theorem dX5_placeScenes_32 : decode cX5_placeScenes 32 = .ok (.iconst 1, 1) := by decide +kernel
theorem dX5_placeScenes_33 : decode cX5_placeScenes 33 = .ok (.iadd, 1) := by decide +kernel
theorem dX5_placeScenes_34 : decode cX5_placeScenes 34 = .ok (.putfield 60, 3) := by decide +kernel
theorem dX5_placeScenes_37 : decode cX5_placeScenes 37 = .ok (.return_, 1) := by decide +kernel
theorem dX5_placeScenes_38 : decode cX5_placeScenes 38 = .ok (.iconst 0, 1) := by decide +kernel
theorem dX5_placeScenes_39 : decode cX5_placeScenes 39 = .ok (.istore 4, 2) := by decide +kernel
theorem dX5_placeScenes_41 : decode cX5_placeScenes 41 = .ok (.iload 4, 2) := by decide +kernel
theorem dX5_placeScenes_43 : decode cX5_placeScenes 43 = .ok (.aload_n 0, 1) := by decide +kernel
theorem dX5_placeScenes_44 : decode cX5_placeScenes 44 = .ok (.getfield 48, 3) := by decide +kernel
theorem dX5_placeScenes_47 : decode cX5_placeScenes 47 = .ok (.if_icmp .ge 54, 3) := by decide +kernel
theorem dX5_placeScenes_50 : decode cX5_placeScenes 50 = .ok (.iload_n 2, 1) := by decide +kernel
theorem dX5_placeScenes_51 : decode cX5_placeScenes 51 = .ok (.iload 4, 2) := by decide +kernel
theorem dX5_placeScenes_53 : decode cX5_placeScenes 53 = .ok (.ishr, 1) := by decide +kernel
theorem dX5_placeScenes_54 : decode cX5_placeScenes 54 = .ok (.iconst 1, 1) := by decide +kernel
theorem dX5_placeScenes_55 : decode cX5_placeScenes 55 = .ok (.iand, 1) := by decide +kernel
theorem dX5_placeScenes_56 : decode cX5_placeScenes 56 = .ok (.ifCond .ne 39, 3) := by decide +kernel
theorem dX5_placeScenes_59 : decode cX5_placeScenes 59 = .ok (.aload_n 0, 1) := by decide +kernel
theorem dX5_placeScenes_60 : decode cX5_placeScenes 60 = .ok (.getfield 26, 3) := by decide +kernel
theorem dX5_placeScenes_63 : decode cX5_placeScenes 63 = .ok (.iload 4, 2) := by decide +kernel
theorem dX5_placeScenes_65 : decode cX5_placeScenes 65 = .ok (.iaload, 1) := by decide +kernel
theorem dX5_placeScenes_66 : decode cX5_placeScenes 66 = .ok (.iload_n 2, 1) := by decide +kernel
theorem dX5_placeScenes_67 : decode cX5_placeScenes 67 = .ok (.iconst (-1), 1) := by decide +kernel
theorem dX5_placeScenes_68 : decode cX5_placeScenes 68 = .ok (.ixor, 1) := by decide +kernel
theorem dX5_placeScenes_69 : decode cX5_placeScenes 69 = .ok (.iand, 1) := by decide +kernel
theorem dX5_placeScenes_70 : decode cX5_placeScenes 70 = .ok (.ifCond .ne 25, 3) := by decide +kernel
theorem dX5_placeScenes_73 : decode cX5_placeScenes 73 = .ok (.aload_n 0, 1) := by decide +kernel
theorem dX5_placeScenes_74 : decode cX5_placeScenes 74 = .ok (.iload_n 1, 1) := by decide +kernel
theorem dX5_placeScenes_75 : decode cX5_placeScenes 75 = .ok (.iconst 1, 1) := by decide +kernel
theorem dX5_placeScenes_76 : decode cX5_placeScenes 76 = .ok (.iadd, 1) := by decide +kernel
theorem dX5_placeScenes_77 : decode cX5_placeScenes 77 = .ok (.iload_n 2, 1) := by decide +kernel
theorem dX5_placeScenes_78 : decode cX5_placeScenes 78 = .ok (.iconst 1, 1) := by decide +kernel
theorem dX5_placeScenes_79 : decode cX5_placeScenes 79 = .ok (.iload 4, 2) := by decide +kernel
theorem dX5_placeScenes_81 : decode cX5_placeScenes 81 = .ok (.ishl, 1) := by decide +kernel
theorem dX5_placeScenes_82 : decode cX5_placeScenes 82 = .ok (.ior, 1) := by decide +kernel
theorem dX5_placeScenes_83 : decode cX5_placeScenes 83 = .ok (.iload_n 3, 1) := by decide +kernel
theorem dX5_placeScenes_84 : decode cX5_placeScenes 84 = .ok (.iload 4, 2) := by decide +kernel
theorem dX5_placeScenes_86 : decode cX5_placeScenes 86 = .ok (.iload_n 1, 1) := by decide +kernel
theorem dX5_placeScenes_87 : decode cX5_placeScenes 87 = .ok (.invokestatic 94, 3) := by decide +kernel
theorem dX5_placeScenes_90 : decode cX5_placeScenes 90 = .ok (.ishl, 1) := by decide +kernel
theorem dX5_placeScenes_91 : decode cX5_placeScenes 91 = .ok (.ior, 1) := by decide +kernel
theorem dX5_placeScenes_92 : decode cX5_placeScenes 92 = .ok (.invokevirtual 90, 3) := by decide +kernel
theorem dX5_placeScenes_95 : decode cX5_placeScenes 95 = .ok (.iinc 4 1, 3) := by decide +kernel
theorem dX5_placeScenes_98 : decode cX5_placeScenes 98 = .ok (.goto (-57), 3) := by decide +kernel
theorem dX5_placeScenes_101 : decode cX5_placeScenes 101 = .ok (.return_, 1) := by decide +kernel
theorem dX6_init_0 : decode cX6_init 0 = .ok (.aload_n 0, 1) := by decide +kernel
theorem dX6_init_1 : decode cX6_init 1 = .ok (.invokespecial 3, 3) := by decide +kernel
theorem dX6_init_4 : decode cX6_init 4 = .ok (.aload_n 0, 1) := by decide +kernel
theorem dX6_init_5 : decode cX6_init 5 = .ok (.bipush 7, 2) := by decide +kernel
theorem dX6_init_7 : decode cX6_init 7 = .ok (.newarray .long, 2) := by decide +kernel
theorem dX6_init_9 : decode cX6_init 9 = .ok (.putfield 9, 3) := by decide +kernel
theorem dX6_init_12 : decode cX6_init 12 = .ok (.aload_n 0, 1) := by decide +kernel
theorem dX6_init_13 : decode cX6_init 13 = .ok (.iconst 5, 1) := by decide +kernel
theorem dX6_init_14 : decode cX6_init 14 = .ok (.newarray .long, 2) := by decide +kernel
theorem dX6_init_16 : decode cX6_init 16 = .ok (.putfield 15, 3) := by decide +kernel
theorem dX6_init_19 : decode cX6_init 19 = .ok (.aload_n 0, 1) := by decide +kernel
theorem dX6_init_20 : decode cX6_init 20 = .ok (.bipush 8, 2) := by decide +kernel
theorem dX6_init_22 : decode cX6_init 22 = .ok (.newarray .int, 2) := by decide +kernel
theorem dX6_init_24 : decode cX6_init 24 = .ok (.putfield 18, 3) := by decide +kernel
theorem dX6_init_27 : decode cX6_init 27 = .ok (.aload_n 0, 1) := by decide +kernel
theorem dX6_init_28 : decode cX6_init 28 = .ok (.new 22, 3) := by decide +kernel
theorem dX6_init_31 : decode cX6_init 31 = .ok (.dup, 1) := by decide +kernel
theorem dX6_init_32 : decode cX6_init 32 = .ok (.aload_n 1, 1) := by decide +kernel
theorem dX6_init_33 : decode cX6_init 33 = .ok (.invokespecial 24, 3) := by decide +kernel
theorem dX6_init_36 : decode cX6_init 36 = .ok (.putfield 27, 3) := by decide +kernel
theorem dX6_init_39 : decode cX6_init 39 = .ok (.aload_n 0, 1) := by decide +kernel
theorem dX6_init_40 : decode cX6_init 40 = .ok (.aload_n 2, 1) := by decide +kernel
theorem dX6_init_41 : decode cX6_init 41 = .ok (.putfield 31, 3) := by decide +kernel
theorem dX6_init_44 : decode cX6_init 44 = .ok (.return_, 1) := by decide +kernel
theorem dX6_read_0 : decode cX6_read 0 = .ok (.aload_n 0, 1) := by decide +kernel
theorem dX6_read_1 : decode cX6_read 1 = .ok (.aload_n 2, 1) := by decide +kernel
theorem dX6_read_2 : decode cX6_read 2 = .ok (.putfield 31, 3) := by decide +kernel
theorem dX6_read_5 : decode cX6_read 5 = .ok (.aload_n 0, 1) := by decide +kernel
theorem dX6_read_6 : decode cX6_read 6 = .ok (.getfield 31, 3) := by decide +kernel
theorem dX6_read_9 : decode cX6_read 9 = .ok (.invokevirtual 35, 3) := by decide +kernel
theorem dX6_read_12 : decode cX6_read 12 = .ok (.aload_n 0, 1) := by decide +kernel
theorem dX6_read_13 : decode cX6_read 13 = .ok (.iconst 0, 1) := by decide +kernel
theorem dX6_read_14 : decode cX6_read 14 = .ok (.putfield 40, 3) := by decide +kernel
theorem dX6_read_17 : decode cX6_read 17 = .ok (.aload_n 0, 1) := by decide +kernel
theorem dX6_read_18 : decode cX6_read 18 = .ok (.iconst (-1), 1) := by decide +kernel
theorem dX6_read_19 : decode cX6_read 19 = .ok (.putfield 44, 3) := by decide +kernel
theorem dX6_read_22 : decode cX6_read 22 = .ok (.aload_n 0, 1) := by decide +kernel
theorem dX6_read_23 : decode cX6_read 23 = .ok (.getfield 27, 3) := by decide +kernel
theorem dX6_read_26 : decode cX6_read 26 = .ok (.iload_n 1, 1) := by decide +kernel
theorem dX6_read_27 : decode cX6_read 27 = .ok (.invokevirtual 47, 3) := by decide +kernel
theorem dX6_read_30 : decode cX6_read 30 = .ok (.aload_n 0, 1) := by decide +kernel
theorem dX6_read_31 : decode cX6_read 31 = .ok (.invokevirtual 51, 3) := by decide +kernel
theorem dX6_read_34 : decode cX6_read 34 = .ok (.istore_n 3, 1) := by decide +kernel
theorem dX6_read_35 : decode cX6_read 35 = .ok (.iconst 0, 1) := by decide +kernel
theorem dX6_read_36 : decode cX6_read 36 = .ok (.istore 4, 2) := by decide +kernel
theorem dX6_read_38 : decode cX6_read 38 = .ok (.iload 4, 2) := by decide +kernel
theorem dX6_read_40 : decode cX6_read 40 = .ok (.sipush 900, 3) := by decide +kernel
theorem dX6_read_43 : decode cX6_read 43 = .ok (.if_icmp .ge 36, 3) := by decide +kernel
theorem dX6_read_46 : decode cX6_read 46 = .ok (.iload_n 3, 1) := by decide +kernel
theorem dX6_read_47 : decode cX6_read 47 = .ok (.ifCond .eq 32, 3) := by decide +kernel
theorem dX6_read_50 : decode cX6_read 50 = .ok (.aload_n 0, 1) := by decide +kernel
theorem dX6_read_51 : decode cX6_read 51 = .ok (.getfield 27, 3) := by decide +kernel
theorem dX6_read_54 : decode cX6_read 54 = .ok (.getfield 55, 3) := by decide +kernel
theorem dX6_read_57 : decode cX6_read 57 = .ok (.iconst 3, 1) := by decide +kernel
theorem dX6_read_58 : decode cX6_read 58 = .ok (.if_icmp .ne 21, 3) := by decide +kernel
theorem dX6_read_61 : decode cX6_read 61 = .ok (.aload_n 0, 1) := by decide +kernel
theorem dX6_read_62 : decode cX6_read 62 = .ok (.getfield 27, 3) := by decide +kernel
theorem dX6_read_65 : decode cX6_read 65 = .ok (.invokevirtual 58, 3) := by decide +kernel
theorem dX6_read_68 : decode cX6_read 68 = .ok (.aload_n 0, 1) := by decide +kernel
theorem dX6_read_69 : decode cX6_read 69 = .ok (.invokevirtual 51, 3) := by decide +kernel
theorem dX6_read_72 : decode cX6_read 72 = .ok (.istore_n 3, 1) := by decide +kernel
theorem dX6_read_73 : decode cX6_read 73 = .ok (.iinc 4 1, 3) := by decide +kernel
theorem dX6_read_76 : decode cX6_read 76 = .ok (.goto (-38), 3) := by decide +kernel
theorem dX6_read_79 : decode cX6_read 79 = .ok (.iload_n 3, 1) := by decide +kernel
theorem dX6_read_80 : decode cX6_read 80 = .ok (.ifCond .eq 7, 3) := by decide +kernel
theorem dX6_read_83 : decode cX6_read 83 = .ok (.aload_n 0, 1) := by decide +kernel
theorem dX6_read_84 : decode cX6_read 84 = .ok (.invokevirtual 61, 3) := by decide +kernel
theorem dX6_read_87 : decode cX6_read 87 = .ok (.aload_n 0, 1) := by decide +kernel
theorem dX6_read_88 : decode cX6_read 88 = .ok (.getfield 40, 3) := by decide +kernel
theorem dX6_read_91 : decode cX6_read 91 = .ok (.ireturn, 1) := by decide +kernel
theorem dX6_checkEnd_0 : decode cX6_checkEnd 0 = .ok (.aload_n 0, 1) := by decide +kernel
theorem dX6_checkEnd_1 : decode cX6_checkEnd 1 = .ok (.getfield 27, 3) := by decide +kernel
theorem dX6_checkEnd_4 : decode cX6_checkEnd 4 = .ok (.getfield 55, 3) := by decide +kernel
theorem dX6_checkEnd_7 : decode cX6_checkEnd 7 = .ok (.ifCond .eq 12, 3) := by decide +kernel
theorem dX6_checkEnd_10 : decode cX6_checkEnd 10 = .ok (.aload_n 0, 1) := by decide +kernel
theorem dX6_checkEnd_11 : decode cX6_checkEnd 11 = .ok (.iconst 1, 1) := by decide +kernel
theorem dX6_checkEnd_12 : decode cX6_checkEnd 12 = .ok (.invokevirtual 64, 3) := by decide +kernel
theorem dX6_checkEnd_15 : decode cX6_checkEnd 15 = .ok (.pop, 1) := by decide +kernel
theorem dX6_checkEnd_16 : decode cX6_checkEnd 16 = .ok (.goto 40, 3) := by decide +kernel
theorem dX6_checkEnd_19 : decode cX6_checkEnd 19 = .ok (.aload_n 0, 1) := by decide +kernel
theorem dX6_checkEnd_20 : decode cX6_checkEnd 20 = .ok (.getfield 31, 3) := by decide +kernel
theorem dX6_checkEnd_23 : decode cX6_checkEnd 23 = .ok (.getfield 68, 3) := by decide +kernel
theorem dX6_checkEnd_26 : decode cX6_checkEnd 26 = .ok (.ifCond .eq 23, 3) := by decide +kernel
theorem dX6_checkEnd_29 : decode cX6_checkEnd 29 = .ok (.aload_n 0, 1) := by decide +kernel
theorem dX6_checkEnd_30 : decode cX6_checkEnd 30 = .ok (.getfield 31, 3) := by decide +kernel
theorem dX6_checkEnd_33 : decode cX6_checkEnd 33 = .ok (.getfield 71, 3) := by decide +kernel
theorem dX6_checkEnd_36 : decode cX6_checkEnd 36 = .ok (.ifCond .eq 13, 3) := by decide +kernel
theorem dX6_checkEnd_39 : decode cX6_checkEnd 39 = .ok (.aload_n 0, 1) := by decide +kernel
theorem dX6_checkEnd_40 : decode cX6_checkEnd 40 = .ok (.getfield 31, 3) := by decide +kernel
theorem dX6_checkEnd_43 : decode cX6_checkEnd 43 = .ok (.getfield 74, 3) := by decide +kernel
theorem dX6_checkEnd_46 : decode cX6_checkEnd 46 = .ok (.ifCond .ne 10, 3) := by decide +kernel
theorem dX6_checkEnd_49 : decode cX6_checkEnd 49 = .ok (.aload_n 0, 1) := by decide +kernel
theorem dX6_checkEnd_50 : decode cX6_checkEnd 50 = .ok (.bipush 6, 2) := by decide +kernel
theorem dX6_checkEnd_52 : decode cX6_checkEnd 52 = .ok (.invokevirtual 64, 3) := by decide +kernel
theorem dX6_checkEnd_55 : decode cX6_checkEnd 55 = .ok (.pop, 1) := by decide +kernel
theorem dX6_checkEnd_56 : decode cX6_checkEnd 56 = .ok (.return_, 1) := by decide +kernel
theorem dX6_fail_0 : decode cX6_fail 0 = .ok (.aload_n 0, 1) := by decide +kernel
theorem dX6_fail_1 : decode cX6_fail 1 = .ok (.iload_n 1, 1) := by decide +kernel
theorem dX6_fail_2 : decode cX6_fail 2 = .ok (.putfield 40, 3) := by decide +kernel
theorem dX6_fail_5 : decode cX6_fail 5 = .ok (.aload_n 0, 1) := by decide +kernel
theorem dX6_fail_6 : decode cX6_fail 6 = .ok (.aload_n 0, 1) := by decide +kernel
theorem dX6_fail_7 : decode cX6_fail 7 = .ok (.getfield 27, 3) := by decide +kernel
theorem dX6_fail_10 : decode cX6_fail 10 = .ok (.getfield 77, 3) := by decide +kernel
theorem dX6_fail_13 : decode cX6_fail 13 = .ok (.putfield 44, 3) := by decide +kernel
theorem dX6_fail_16 : decode cX6_fail 16 = .ok (.iconst 0, 1) := by decide +kernel
theorem dX6_fail_17 : decode cX6_fail 17 = .ok (.ireturn, 1) := by decide +kernel
theorem dX6_line_0 : decode cX6_line 0 = .ok (.aload_n 0, 1) := by decide +kernel
theorem dX6_line_1 : decode cX6_line 1 = .ok (.iconst 0, 1) := by decide +kernel
theorem dX6_line_2 : decode cX6_line 2 = .ok (.putfield 78, 3) := by decide +kernel
theorem dX6_line_5 : decode cX6_line 5 = .ok (.aload_n 0, 1) := by decide +kernel
theorem dX6_line_6 : decode cX6_line 6 = .ok (.getfield 27, 3) := by decide +kernel
theorem dX6_line_9 : decode cX6_line 9 = .ok (.ldc 81, 2) := by decide +kernel
theorem dX6_line_11 : decode cX6_line 11 = .ok (.invokevirtual 82, 3) := by decide +kernel
theorem dX6_line_14 : decode cX6_line 14 = .ok (.ifCond .eq 26, 3) := by decide +kernel
theorem dX6_line_17 : decode cX6_line 17 = .ok (.aload_n 0, 1) := by decide +kernel
theorem dX6_line_18 : decode cX6_line 18 = .ok (.getfield 31, 3) := by decide +kernel
theorem dX6_line_21 : decode cX6_line 21 = .ok (.getfield 68, 3) := by decide +kernel
theorem dX6_line_24 : decode cX6_line 24 = .ok (.ifCond .ne 10, 3) := by decide +kernel
theorem dX6_line_27 : decode cX6_line 27 = .ok (.aload_n 0, 1) := by decide +kernel
theorem dX6_line_28 : decode cX6_line 28 = .ok (.invokevirtual 86, 3) := by decide +kernel
theorem dX6_line_31 : decode cX6_line 31 = .ok (.goto 8, 3) := by decide +kernel
theorem dX6_line_34 : decode cX6_line 34 = .ok (.aload_n 0, 1) := by decide +kernel
theorem dX6_line_35 : decode cX6_line 35 = .ok (.iconst 3, 1) := by decide +kernel
theorem dX6_line_36 : decode cX6_line 36 = .ok (.invokevirtual 64, 3) := by decide +kernel
theorem dX6_line_39 : decode cX6_line 39 = .ok (.ireturn, 1) := by decide +kernel
theorem dX6_line_40 : decode cX6_line 40 = .ok (.aload_n 0, 1) := by decide +kernel
theorem dX6_line_41 : decode cX6_line 41 = .ok (.getfield 27, 3) := by decide +kernel
theorem dX6_line_44 : decode cX6_line 44 = .ok (.ldc 89, 2) := by decide +kernel
theorem dX6_line_46 : decode cX6_line 46 = .ok (.invokevirtual 82, 3) := by decide +kernel
theorem dX6_line_49 : decode cX6_line 49 = .ok (.ifCond .eq 28, 3) := by decide +kernel
theorem dX6_line_52 : decode cX6_line 52 = .ok (.aload_n 0, 1) := by decide +kernel
theorem dX6_line_53 : decode cX6_line 53 = .ok (.getfield 31, 3) := by decide +kernel
theorem dX6_line_56 : decode cX6_line 56 = .ok (.getfield 71, 3) := by decide +kernel
theorem dX6_line_59 : decode cX6_line 59 = .ok (.bipush 7, 2) := by decide +kernel
theorem dX6_line_61 : decode cX6_line 61 = .ok (.if_icmp .ge 10, 3) := by decide +kernel
theorem dX6_line_64 : decode cX6_line 64 = .ok (.aload_n 0, 1) := by decide +kernel
theorem dX6_line_65 : decode cX6_line 65 = .ok (.invokevirtual 91, 3) := by decide +kernel
theorem dX6_line_68 : decode cX6_line 68 = .ok (.goto 8, 3) := by decide +kernel
theorem dX6_line_71 : decode cX6_line 71 = .ok (.aload_n 0, 1) := by decide +kernel
theorem dX6_line_72 : decode cX6_line 72 = .ok (.iconst 5, 1) := by decide +kernel
theorem dX6_line_73 : decode cX6_line 73 = .ok (.invokevirtual 64, 3) := by decide +kernel
theorem dX6_line_76 : decode cX6_line 76 = .ok (.ireturn, 1) := by decide +kernel
theorem dX6_line_77 : decode cX6_line 77 = .ok (.aload_n 0, 1) := by decide +kernel
theorem dX6_line_78 : decode cX6_line 78 = .ok (.getfield 27, 3) := by decide +kernel
theorem dX6_line_81 : decode cX6_line 81 = .ok (.ldc 94, 2) := by decide +kernel
theorem dX6_line_83 : decode cX6_line 83 = .ok (.invokevirtual 82, 3) := by decide +kernel
theorem dX6_line_86 : decode cX6_line 86 = .ok (.ifCond .eq 27, 3) := by decide +kernel
theorem dX6_line_89 : decode cX6_line 89 = .ok (.aload_n 0, 1) := by decide +kernel
theorem dX6_line_90 : decode cX6_line 90 = .ok (.getfield 31, 3) := by decide +kernel
theorem dX6_line_93 : decode cX6_line 93 = .ok (.getfield 74, 3) := by decide +kernel
theorem dX6_line_96 : decode cX6_line 96 = .ok (.iconst 5, 1) := by decide +kernel
theorem dX6_line_97 : decode cX6_line 97 = .ok (.if_icmp .ge 10, 3) := by decide +kernel
theorem dX6_line_100 : decode cX6_line 100 = .ok (.aload_n 0, 1) := by decide +kernel
theorem dX6_line_101 : decode cX6_line 101 = .ok (.invokevirtual 96, 3) := by decide +kernel
theorem dX6_line_104 : decode cX6_line 104 = .ok (.goto 8, 3) := by decide +kernel
theorem dX6_line_107 : decode cX6_line 107 = .ok (.aload_n 0, 1) := by decide +kernel
theorem dX6_line_108 : decode cX6_line 108 = .ok (.iconst 5, 1) := by decide +kernel
theorem dX6_line_109 : decode cX6_line 109 = .ok (.invokevirtual 64, 3) := by decide +kernel
theorem dX6_line_112 : decode cX6_line 112 = .ok (.ireturn, 1) := by decide +kernel
theorem dX6_line_113 : decode cX6_line 113 = .ok (.aload_n 0, 1) := by decide +kernel
theorem dX6_line_114 : decode cX6_line 114 = .ok (.getfield 27, 3) := by decide +kernel
theorem dX6_line_117 : decode cX6_line 117 = .ok (.ldc 99, 2) := by decide +kernel
theorem dX6_line_119 : decode cX6_line 119 = .ok (.invokevirtual 82, 3) := by decide +kernel
theorem dX6_line_122 : decode cX6_line 122 = .ok (.ifCond .eq 28, 3) := by decide +kernel
theorem dX6_line_125 : decode cX6_line 125 = .ok (.aload_n 0, 1) := by decide +kernel
theorem dX6_line_126 : decode cX6_line 126 = .ok (.getfield 31, 3) := by decide +kernel
theorem dX6_line_129 : decode cX6_line 129 = .ok (.getfield 101, 3) := by decide +kernel
theorem dX6_line_132 : decode cX6_line 132 = .ok (.bipush 6, 2) := by decide +kernel
theorem dX6_line_134 : decode cX6_line 134 = .ok (.if_icmp .ge 10, 3) := by decide +kernel
theorem dX6_line_137 : decode cX6_line 137 = .ok (.aload_n 0, 1) := by decide +kernel
theorem dX6_line_138 : decode cX6_line 138 = .ok (.invokevirtual 104, 3) := by decide +kernel
theorem dX6_line_141 : decode cX6_line 141 = .ok (.goto 8, 3) := by decide +kernel
theorem dX6_line_144 : decode cX6_line 144 = .ok (.aload_n 0, 1) := by decide +kernel
theorem dX6_line_145 : decode cX6_line 145 = .ok (.iconst 5, 1) := by decide +kernel
theorem dX6_line_146 : decode cX6_line 146 = .ok (.invokevirtual 64, 3) := by decide +kernel
theorem dX6_line_149 : decode cX6_line 149 = .ok (.ireturn, 1) := by decide +kernel
theorem dX6_line_150 : decode cX6_line 150 = .ok (.aload_n 0, 1) := by decide +kernel
theorem dX6_line_151 : decode cX6_line 151 = .ok (.getfield 27, 3) := by decide +kernel
theorem dX6_line_154 : decode cX6_line 154 = .ok (.ldc 107, 2) := by decide +kernel
theorem dX6_line_156 : decode cX6_line 156 = .ok (.invokevirtual 82, 3) := by decide +kernel
theorem dX6_line_159 : decode cX6_line 159 = .ok (.ifCond .eq 28, 3) := by decide +kernel
theorem dX6_line_162 : decode cX6_line 162 = .ok (.aload_n 0, 1) := by decide +kernel
theorem dX6_line_163 : decode cX6_line 163 = .ok (.getfield 31, 3) := by decide +kernel
theorem dX6_line_166 : decode cX6_line 166 = .ok (.getfield 109, 3) := by decide +kernel
theorem dX6_line_169 : decode cX6_line 169 = .ok (.bipush 14, 2) := by decide +kernel
theorem dX6_line_171 : decode cX6_line 171 = .ok (.if_icmp .ge 10, 3) := by decide +kernel
theorem dX6_line_174 : decode cX6_line 174 = .ok (.aload_n 0, 1) := by decide +kernel
theorem dX6_line_175 : decode cX6_line 175 = .ok (.invokevirtual 112, 3) := by decide +kernel
theorem dX6_line_178 : decode cX6_line 178 = .ok (.goto 8, 3) := by decide +kernel
theorem dX6_line_181 : decode cX6_line 181 = .ok (.aload_n 0, 1) := by decide +kernel
theorem dX6_line_182 : decode cX6_line 182 = .ok (.iconst 5, 1) := by decide +kernel
theorem dX6_line_183 : decode cX6_line 183 = .ok (.invokevirtual 64, 3) := by decide +kernel
theorem dX6_line_186 : decode cX6_line 186 = .ok (.ireturn, 1) := by decide +kernel
theorem dX6_line_187 : decode cX6_line 187 = .ok (.aload_n 0, 1) := by decide +kernel
theorem dX6_line_188 : decode cX6_line 188 = .ok (.getfield 27, 3) := by decide +kernel
theorem dX6_line_191 : decode cX6_line 191 = .ok (.ldc 115, 2) := by decide +kernel
theorem dX6_line_193 : decode cX6_line 193 = .ok (.invokevirtual 82, 3) := by decide +kernel
theorem dX6_line_196 : decode cX6_line 196 = .ok (.ifCond .eq 28, 3) := by decide +kernel
theorem dX6_line_199 : decode cX6_line 199 = .ok (.aload_n 0, 1) := by decide +kernel
theorem dX6_line_200 : decode cX6_line 200 = .ok (.getfield 31, 3) := by decide +kernel
theorem dX6_line_203 : decode cX6_line 203 = .ok (.getfield 117, 3) := by decide +kernel
theorem dX6_line_206 : decode cX6_line 206 = .ok (.bipush 7, 2) := by decide +kernel
theorem dX6_line_208 : decode cX6_line 208 = .ok (.if_icmp .ge 10, 3) := by decide +kernel
theorem dX6_line_211 : decode cX6_line 211 = .ok (.aload_n 0, 1) := by decide +kernel
theorem dX6_line_212 : decode cX6_line 212 = .ok (.invokevirtual 120, 3) := by decide +kernel
theorem dX6_line_215 : decode cX6_line 215 = .ok (.goto 8, 3) := by decide +kernel
theorem dX6_line_218 : decode cX6_line 218 = .ok (.aload_n 0, 1) := by decide +kernel
theorem dX6_line_219 : decode cX6_line 219 = .ok (.iconst 5, 1) := by decide +kernel
theorem dX6_line_220 : decode cX6_line 220 = .ok (.invokevirtual 64, 3) := by decide +kernel
theorem dX6_line_223 : decode cX6_line 223 = .ok (.ireturn, 1) := by decide +kernel
theorem dX6_line_224 : decode cX6_line 224 = .ok (.aload_n 0, 1) := by decide +kernel
theorem dX6_line_225 : decode cX6_line 225 = .ok (.iconst 1, 1) := by decide +kernel
theorem dX6_line_226 : decode cX6_line 226 = .ok (.invokevirtual 64, 3) := by decide +kernel
theorem dX6_line_229 : decode cX6_line 229 = .ok (.ireturn, 1) := by decide +kernel
theorem dX6_pieceLine_0 : decode cX6_pieceLine 0 = .ok (.aload_n 0, 1) := by decide +kernel
theorem dX6_pieceLine_1 : decode cX6_pieceLine 1 = .ok (.getfield 27, 3) := by decide +kernel
theorem dX6_pieceLine_4 : decode cX6_pieceLine 4 = .ok (.invokevirtual 58, 3) := by decide +kernel
theorem dX6_pieceLine_7 : decode cX6_pieceLine 7 = .ok (.aload_n 0, 1) := by decide +kernel
theorem dX6_pieceLine_8 : decode cX6_pieceLine 8 = .ok (.ldc 123, 2) := by decide +kernel
theorem dX6_pieceLine_10 : decode cX6_pieceLine 10 = .ok (.invokevirtual 125, 3) := by decide +kernel
theorem dX6_pieceLine_13 : decode cX6_pieceLine 13 = .ok (.ifCond .eq 54, 3) := by decide +kernel
theorem dX6_pieceLine_16 : decode cX6_pieceLine 16 = .ok (.aload_n 0, 1) := by decide +kernel
theorem dX6_pieceLine_17 : decode cX6_pieceLine 17 = .ok (.iconst 0, 1) := by decide +kernel
theorem dX6_pieceLine_18 : decode cX6_pieceLine 18 = .ok (.bipush 99, 2) := by decide +kernel
theorem dX6_pieceLine_20 : decode cX6_pieceLine 20 = .ok (.invokevirtual 128, 3) := by decide +kernel
theorem dX6_pieceLine_23 : decode cX6_pieceLine 23 = .ok (.ifCond .eq 44, 3) := by decide +kernel
theorem dX6_pieceLine_26 : decode cX6_pieceLine 26 = .ok (.aload_n 0, 1) := by decide +kernel
theorem dX6_pieceLine_27 : decode cX6_pieceLine 27 = .ok (.ldc 132, 2) := by decide +kernel
theorem dX6_pieceLine_29 : decode cX6_pieceLine 29 = .ok (.invokevirtual 125, 3) := by decide +kernel
theorem dX6_pieceLine_32 : decode cX6_pieceLine 32 = .ok (.ifCond .eq 35, 3) := by decide +kernel
theorem dX6_pieceLine_35 : decode cX6_pieceLine 35 = .ok (.aload_n 0, 1) := by decide +kernel
theorem dX6_pieceLine_36 : decode cX6_pieceLine 36 = .ok (.iconst 0, 1) := by decide +kernel
theorem dX6_pieceLine_37 : decode cX6_pieceLine 37 = .ok (.bipush 99, 2) := by decide +kernel
theorem dX6_pieceLine_39 : decode cX6_pieceLine 39 = .ok (.invokevirtual 128, 3) := by decide +kernel
theorem dX6_pieceLine_42 : decode cX6_pieceLine 42 = .ok (.ifCond .eq 25, 3) := by decide +kernel
theorem dX6_pieceLine_45 : decode cX6_pieceLine 45 = .ok (.aload_n 0, 1) := by decide +kernel
theorem dX6_pieceLine_46 : decode cX6_pieceLine 46 = .ok (.ldc 134, 2) := by decide +kernel
theorem dX6_pieceLine_48 : decode cX6_pieceLine 48 = .ok (.invokevirtual 125, 3) := by decide +kernel
theorem dX6_pieceLine_51 : decode cX6_pieceLine 51 = .ok (.ifCond .eq 16, 3) := by decide +kernel
theorem dX6_pieceLine_54 : decode cX6_pieceLine 54 = .ok (.aload_n 0, 1) := by decide +kernel
theorem dX6_pieceLine_55 : decode cX6_pieceLine 55 = .ok (.iconst 1, 1) := by decide +kernel
theorem dX6_pieceLine_56 : decode cX6_pieceLine 56 = .ok (.iconst 3, 1) := by decide +kernel
theorem dX6_pieceLine_57 : decode cX6_pieceLine 57 = .ok (.invokevirtual 128, 3) := by decide +kernel
theorem dX6_pieceLine_60 : decode cX6_pieceLine 60 = .ok (.ifCond .eq 7, 3) := by decide +kernel
theorem dX6_pieceLine_63 : decode cX6_pieceLine 63 = .ok (.iconst 1, 1) := by decide +kernel
theorem dX6_pieceLine_64 : decode cX6_pieceLine 64 = .ok (.goto 4, 3) := by decide +kernel
theorem dX6_pieceLine_67 : decode cX6_pieceLine 67 = .ok (.iconst 0, 1) := by decide +kernel
theorem dX6_pieceLine_68 : decode cX6_pieceLine 68 = .ok (.istore_n 1, 1) := by decide +kernel
theorem dX6_pieceLine_69 : decode cX6_pieceLine 69 = .ok (.iload_n 1, 1) := by decide +kernel
theorem dX6_pieceLine_70 : decode cX6_pieceLine 70 = .ok (.ifCond .eq 42, 3) := by decide +kernel
theorem dX6_pieceLine_73 : decode cX6_pieceLine 73 = .ok (.aload_n 0, 1) := by decide +kernel
theorem dX6_pieceLine_74 : decode cX6_pieceLine 74 = .ok (.getfield 31, 3) := by decide +kernel
theorem dX6_pieceLine_77 : decode cX6_pieceLine 77 = .ok (.aload_n 0, 1) := by decide +kernel
theorem dX6_pieceLine_78 : decode cX6_pieceLine 78 = .ok (.getfield 18, 3) := by decide +kernel
theorem dX6_pieceLine_81 : decode cX6_pieceLine 81 = .ok (.iconst 0, 1) := by decide +kernel
theorem dX6_pieceLine_82 : decode cX6_pieceLine 82 = .ok (.iaload, 1) := by decide +kernel
theorem dX6_pieceLine_83 : decode cX6_pieceLine 83 = .ok (.putfield 136, 3) := by decide +kernel
theorem dX6_pieceLine_86 : decode cX6_pieceLine 86 = .ok (.aload_n 0, 1) := by decide +kernel
theorem dX6_pieceLine_87 : decode cX6_pieceLine 87 = .ok (.getfield 31, 3) := by decide +kernel
theorem dX6_pieceLine_90 : decode cX6_pieceLine 90 = .ok (.aload_n 0, 1) := by decide +kernel
theorem dX6_pieceLine_91 : decode cX6_pieceLine 91 = .ok (.getfield 18, 3) := by decide +kernel
theorem dX6_pieceLine_94 : decode cX6_pieceLine 94 = .ok (.iconst 1, 1) := by decide +kernel
theorem dX6_pieceLine_95 : decode cX6_pieceLine 95 = .ok (.iaload, 1) := by decide +kernel
theorem dX6_pieceLine_96 : decode cX6_pieceLine 96 = .ok (.putfield 138, 3) := by decide +kernel
theorem dX6_pieceLine_99 : decode cX6_pieceLine 99 = .ok (.aload_n 0, 1) := by decide +kernel
theorem dX6_pieceLine_100 : decode cX6_pieceLine 100 = .ok (.getfield 31, 3) := by decide +kernel
theorem dX6_pieceLine_103 : decode cX6_pieceLine 103 = .ok (.aload_n 0, 1) := by decide +kernel
theorem dX6_pieceLine_104 : decode cX6_pieceLine 104 = .ok (.getfield 18, 3) := by decide +kernel
theorem dX6_pieceLine_107 : decode cX6_pieceLine 107 = .ok (.iconst 2, 1) := by decide +kernel
theorem dX6_pieceLine_108 : decode cX6_pieceLine 108 = .ok (.iaload, 1) := by decide +kernel
theorem dX6_pieceLine_109 : decode cX6_pieceLine 109 = .ok (.putfield 68, 3) := by decide +kernel
theorem dX6_pieceLine_112 : decode cX6_pieceLine 112 = .ok (.iload_n 1, 1) := by decide +kernel
theorem dX6_pieceLine_113 : decode cX6_pieceLine 113 = .ok (.ireturn, 1) := by decide +kernel
theorem dX6_partLine_0 : decode cX6_partLine 0 = .ok (.aload_n 0, 1) := by decide +kernel
theorem dX6_partLine_1 : decode cX6_partLine 1 = .ok (.getfield 27, 3) := by decide +kernel
theorem dX6_partLine_4 : decode cX6_partLine 4 = .ok (.invokevirtual 58, 3) := by decide +kernel
theorem dX6_partLine_7 : decode cX6_partLine 7 = .ok (.aload_n 0, 1) := by decide +kernel
theorem dX6_partLine_8 : decode cX6_partLine 8 = .ok (.getfield 27, 3) := by decide +kernel
theorem dX6_partLine_11 : decode cX6_partLine 11 = .ok (.getfield 141, 3) := by decide +kernel
theorem dX6_partLine_14 : decode cX6_partLine 14 = .ok (.lstore_n 1, 1) := by decide +kernel
theorem dX6_partLine_15 : decode cX6_partLine 15 = .ok (.aload_n 0, 1) := by decide +kernel
theorem dX6_partLine_16 : decode cX6_partLine 16 = .ok (.invokevirtual 145, 3) := by decide +kernel
theorem dX6_partLine_19 : decode cX6_partLine 19 = .ok (.ifCond .eq 102, 3) := by decide +kernel
theorem dX6_partLine_22 : decode cX6_partLine 22 = .ok (.aload_n 0, 1) := by decide +kernel
theorem dX6_partLine_23 : decode cX6_partLine 23 = .ok (.invokevirtual 148, 3) := by decide +kernel
theorem dX6_partLine_26 : decode cX6_partLine 26 = .ok (.ifCond .eq 95, 3) := by decide +kernel
theorem dX6_partLine_29 : decode cX6_partLine 29 = .ok (.aload_n 0, 1) := by decide +kernel
theorem dX6_partLine_30 : decode cX6_partLine 30 = .ok (.getfield 18, 3) := by decide +kernel
theorem dX6_partLine_33 : decode cX6_partLine 33 = .ok (.iconst 0, 1) := by decide +kernel
theorem dX6_partLine_34 : decode cX6_partLine 34 = .ok (.iaload, 1) := by decide +kernel
theorem dX6_partLine_35 : decode cX6_partLine 35 = .ok (.iconst 1, 1) := by decide +kernel
theorem dX6_partLine_36 : decode cX6_partLine 36 = .ok (.if_icmp .ne 16, 3) := by decide +kernel
theorem dX6_partLine_39 : decode cX6_partLine 39 = .ok (.aload_n 0, 1) := by decide +kernel
theorem dX6_partLine_40 : decode cX6_partLine 40 = .ok (.iconst 0, 1) := by decide +kernel
theorem dX6_partLine_41 : decode cX6_partLine 41 = .ok (.bipush 99, 2) := by decide +kernel
theorem dX6_partLine_43 : decode cX6_partLine 43 = .ok (.invokevirtual 128, 3) := by decide +kernel
theorem dX6_partLine_46 : decode cX6_partLine 46 = .ok (.ifCond .eq 75, 3) := by decide +kernel
theorem dX6_partLine_49 : decode cX6_partLine 49 = .ok (.goto 11, 3) := by decide +kernel
theorem dX6_partLine_52 : decode cX6_partLine 52 = .ok (.aload_n 0, 1) := by decide +kernel
theorem dX6_partLine_53 : decode cX6_partLine 53 = .ok (.iconst 0, 1) := by decide +kernel
theorem dX6_partLine_54 : decode cX6_partLine 54 = .ok (.invokevirtual 151, 3) := by decide +kernel
theorem dX6_partLine_57 : decode cX6_partLine 57 = .ok (.ifCond .eq 64, 3) := by decide +kernel
theorem dX6_partLine_60 : decode cX6_partLine 60 = .ok (.aload_n 0, 1) := by decide +kernel
theorem dX6_partLine_61 : decode cX6_partLine 61 = .ok (.ldc 154, 2) := by decide +kernel
theorem dX6_partLine_63 : decode cX6_partLine 63 = .ok (.invokevirtual 125, 3) := by decide +kernel
theorem dX6_partLine_66 : decode cX6_partLine 66 = .ok (.ifCond .eq 55, 3) := by decide +kernel
theorem dX6_partLine_69 : decode cX6_partLine 69 = .ok (.aload_n 0, 1) := by decide +kernel
theorem dX6_partLine_70 : decode cX6_partLine 70 = .ok (.iconst 0, 1) := by decide +kernel
theorem dX6_partLine_71 : decode cX6_partLine 71 = .ok (.bipush 9, 2) := by decide +kernel
theorem dX6_partLine_73 : decode cX6_partLine 73 = .ok (.invokevirtual 128, 3) := by decide +kernel
theorem dX6_partLine_76 : decode cX6_partLine 76 = .ok (.ifCond .eq 45, 3) := by decide +kernel
theorem dX6_partLine_79 : decode cX6_partLine 79 = .ok (.aload_n 0, 1) := by decide +kernel
theorem dX6_partLine_80 : decode cX6_partLine 80 = .ok (.ldc 156, 2) := by decide +kernel
theorem dX6_partLine_82 : decode cX6_partLine 82 = .ok (.invokevirtual 125, 3) := by decide +kernel
theorem dX6_partLine_85 : decode cX6_partLine 85 = .ok (.ifCond .eq 36, 3) := by decide +kernel
theorem dX6_partLine_88 : decode cX6_partLine 88 = .ok (.aload_n 0, 1) := by decide +kernel
theorem dX6_partLine_89 : decode cX6_partLine 89 = .ok (.iconst 0, 1) := by decide +kernel
theorem dX6_partLine_90 : decode cX6_partLine 90 = .ok (.bipush 99, 2) := by decide +kernel
theorem dX6_partLine_92 : decode cX6_partLine 92 = .ok (.invokevirtual 128, 3) := by decide +kernel
theorem dX6_partLine_95 : decode cX6_partLine 95 = .ok (.ifCond .eq 26, 3) := by decide +kernel
theorem dX6_partLine_98 : decode cX6_partLine 98 = .ok (.aload_n 0, 1) := by decide +kernel
theorem dX6_partLine_99 : decode cX6_partLine 99 = .ok (.ldc 158, 2) := by decide +kernel
theorem dX6_partLine_101 : decode cX6_partLine 101 = .ok (.invokevirtual 125, 3) := by decide +kernel
theorem dX6_partLine_104 : decode cX6_partLine 104 = .ok (.ifCond .eq 17, 3) := by decide +kernel
theorem dX6_partLine_107 : decode cX6_partLine 107 = .ok (.aload_n 0, 1) := by decide +kernel
theorem dX6_partLine_108 : decode cX6_partLine 108 = .ok (.iconst 0, 1) := by decide +kernel
theorem dX6_partLine_109 : decode cX6_partLine 109 = .ok (.bipush 99, 2) := by decide +kernel
theorem dX6_partLine_111 : decode cX6_partLine 111 = .ok (.invokevirtual 128, 3) := by decide +kernel
theorem dX6_partLine_114 : decode cX6_partLine 114 = .ok (.ifCond .eq 7, 3) := by decide +kernel
theorem dX6_partLine_117 : decode cX6_partLine 117 = .ok (.iconst 1, 1) := by decide +kernel
theorem dX6_partLine_118 : decode cX6_partLine 118 = .ok (.goto 4, 3) := by decide +kernel
theorem dX6_partLine_121 : decode cX6_partLine 121 = .ok (.iconst 0, 1) := by decide +kernel
theorem dX6_partLine_122 : decode cX6_partLine 122 = .ok (.istore_n 3, 1) := by decide +kernel
theorem dX6_partLine_123 : decode cX6_partLine 123 = .ok (.iload_n 3, 1) := by decide +kernel
theorem dX6_partLine_124 : decode cX6_partLine 124 = .ok (.ifCond .eq 27, 3) := by decide +kernel
theorem dX6_partLine_127 : decode cX6_partLine 127 = .ok (.aload_n 0, 1) := by decide +kernel
theorem dX6_partLine_128 : decode cX6_partLine 128 = .ok (.getfield 9, 3) := by decide +kernel
theorem dX6_partLine_131 : decode cX6_partLine 131 = .ok (.aload_n 0, 1) := by decide +kernel
theorem dX6_partLine_132 : decode cX6_partLine 132 = .ok (.getfield 31, 3) := by decide +kernel
theorem dX6_partLine_135 : decode cX6_partLine 135 = .ok (.getfield 71, 3) := by decide +kernel
theorem dX6_partLine_138 : decode cX6_partLine 138 = .ok (.lload_n 1, 1) := by decide +kernel
theorem dX6_partLine_139 : decode cX6_partLine 139 = .ok (.lastore, 1) := by decide +kernel
theorem dX6_partLine_140 : decode cX6_partLine 140 = .ok (.aload_n 0, 1) := by decide +kernel
theorem dX6_partLine_141 : decode cX6_partLine 141 = .ok (.getfield 31, 3) := by decide +kernel
theorem dX6_partLine_144 : decode cX6_partLine 144 = .ok (.aload_n 0, 1) := by decide +kernel
theorem dX6_partLine_145 : decode cX6_partLine 145 = .ok (.getfield 18, 3) := by decide +kernel
theorem dX6_partLine_148 : decode cX6_partLine 148 = .ok (.invokevirtual 160, 3) := by decide +kernel
theorem dX6_partLine_151 : decode cX6_partLine 151 = .ok (.iload_n 3, 1) := by decide +kernel
theorem dX6_partLine_152 : decode cX6_partLine 152 = .ok (.ireturn, 1) := by decide +kernel
theorem dX6_kind_0 : decode cX6_kind 0 = .ok (.aload_n 0, 1) := by decide +kernel
theorem dX6_kind_1 : decode cX6_kind 1 = .ok (.getfield 27, 3) := by decide +kernel
theorem dX6_kind_4 : decode cX6_kind 4 = .ok (.ldc 164, 2) := by decide +kernel
theorem dX6_kind_6 : decode cX6_kind 6 = .ok (.invokevirtual 82, 3) := by decide +kernel
theorem dX6_kind_9 : decode cX6_kind 9 = .ok (.ifCond .eq 7, 3) := by decide +kernel
theorem dX6_kind_12 : decode cX6_kind 12 = .ok (.iconst 0, 1) := by decide +kernel
theorem dX6_kind_13 : decode cX6_kind 13 = .ok (.goto 52, 3) := by decide +kernel
theorem dX6_kind_16 : decode cX6_kind 16 = .ok (.aload_n 0, 1) := by decide +kernel
theorem dX6_kind_17 : decode cX6_kind 17 = .ok (.getfield 27, 3) := by decide +kernel
theorem dX6_kind_20 : decode cX6_kind 20 = .ok (.ldc 166, 2) := by decide +kernel
theorem dX6_kind_22 : decode cX6_kind 22 = .ok (.invokevirtual 82, 3) := by decide +kernel
theorem dX6_kind_25 : decode cX6_kind 25 = .ok (.ifCond .eq 7, 3) := by decide +kernel
theorem dX6_kind_28 : decode cX6_kind 28 = .ok (.iconst 1, 1) := by decide +kernel
theorem dX6_kind_29 : decode cX6_kind 29 = .ok (.goto 36, 3) := by decide +kernel
theorem dX6_kind_32 : decode cX6_kind 32 = .ok (.aload_n 0, 1) := by decide +kernel
theorem dX6_kind_33 : decode cX6_kind 33 = .ok (.getfield 27, 3) := by decide +kernel
theorem dX6_kind_36 : decode cX6_kind 36 = .ok (.ldc 168, 2) := by decide +kernel
theorem dX6_kind_38 : decode cX6_kind 38 = .ok (.invokevirtual 82, 3) := by decide +kernel
theorem dX6_kind_41 : decode cX6_kind 41 = .ok (.ifCond .eq 7, 3) := by decide +kernel
theorem dX6_kind_44 : decode cX6_kind 44 = .ok (.iconst 2, 1) := by decide +kernel
theorem dX6_kind_45 : decode cX6_kind 45 = .ok (.goto 20, 3) := by decide +kernel
theorem dX6_kind_48 : decode cX6_kind 48 = .ok (.aload_n 0, 1) := by decide +kernel
theorem dX6_kind_49 : decode cX6_kind 49 = .ok (.getfield 27, 3) := by decide +kernel
theorem dX6_kind_52 : decode cX6_kind 52 = .ok (.ldc 170, 2) := by decide +kernel
theorem dX6_kind_54 : decode cX6_kind 54 = .ok (.invokevirtual 82, 3) := by decide +kernel
theorem dX6_kind_57 : decode cX6_kind 57 = .ok (.ifCond .eq 7, 3) := by decide +kernel
theorem dX6_kind_60 : decode cX6_kind 60 = .ok (.iconst 3, 1) := by decide +kernel
theorem dX6_kind_61 : decode cX6_kind 61 = .ok (.goto 4, 3) := by decide +kernel
theorem dX6_kind_64 : decode cX6_kind 64 = .ok (.iconst (-1), 1) := by decide +kernel
theorem dX6_kind_65 : decode cX6_kind 65 = .ok (.istore_n 1, 1) := by decide +kernel
theorem dX6_kind_66 : decode cX6_kind 66 = .ok (.iload_n 1, 1) := by decide +kernel
theorem dX6_kind_67 : decode cX6_kind 67 = .ok (.iconst (-1), 1) := by decide +kernel
theorem dX6_kind_68 : decode cX6_kind 68 = .ok (.if_icmp .ne 9, 3) := by decide +kernel
theorem dX6_kind_71 : decode cX6_kind 71 = .ok (.aload_n 0, 1) := by decide +kernel
theorem dX6_kind_72 : decode cX6_kind 72 = .ok (.iconst 1, 1) := by decide +kernel
theorem dX6_kind_73 : decode cX6_kind 73 = .ok (.invokevirtual 64, 3) := by decide +kernel
theorem dX6_kind_76 : decode cX6_kind 76 = .ok (.ireturn, 1) := by decide +kernel
theorem dX6_kind_77 : decode cX6_kind 77 = .ok (.aload_n 0, 1) := by decide +kernel
theorem dX6_kind_78 : decode cX6_kind 78 = .ok (.getfield 27, 3) := by decide +kernel
theorem dX6_kind_81 : decode cX6_kind 81 = .ok (.invokevirtual 58, 3) := by decide +kernel
theorem dX6_kind_84 : decode cX6_kind 84 = .ok (.aload_n 0, 1) := by decide +kernel
theorem dX6_kind_85 : decode cX6_kind 85 = .ok (.iload_n 1, 1) := by decide +kernel
theorem dX6_kind_86 : decode cX6_kind 86 = .ok (.invokevirtual 151, 3) := by decide +kernel
theorem dX6_kind_89 : decode cX6_kind 89 = .ok (.ireturn, 1) := by decide +kernel
theorem dX6_sceneLine_0 : decode cX6_sceneLine 0 = .ok (.aload_n 0, 1) := by decide +kernel
theorem dX6_sceneLine_1 : decode cX6_sceneLine 1 = .ok (.getfield 27, 3) := by decide +kernel
theorem dX6_sceneLine_4 : decode cX6_sceneLine 4 = .ok (.invokevirtual 58, 3) := by decide +kernel
theorem dX6_sceneLine_7 : decode cX6_sceneLine 7 = .ok (.aload_n 0, 1) := by decide +kernel
theorem dX6_sceneLine_8 : decode cX6_sceneLine 8 = .ok (.getfield 27, 3) := by decide +kernel
theorem dX6_sceneLine_11 : decode cX6_sceneLine 11 = .ok (.getfield 141, 3) := by decide +kernel
theorem dX6_sceneLine_14 : decode cX6_sceneLine 14 = .ok (.lstore_n 1, 1) := by decide +kernel
theorem dX6_sceneLine_15 : decode cX6_sceneLine 15 = .ok (.aload_n 0, 1) := by decide +kernel
theorem dX6_sceneLine_16 : decode cX6_sceneLine 16 = .ok (.invokevirtual 145, 3) := by decide +kernel
theorem dX6_sceneLine_19 : decode cX6_sceneLine 19 = .ok (.ifCond .eq 27, 3) := by decide +kernel
theorem dX6_sceneLine_22 : decode cX6_sceneLine 22 = .ok (.aload_n 0, 1) := by decide +kernel
theorem dX6_sceneLine_23 : decode cX6_sceneLine 23 = .ok (.ldc 172, 2) := by decide +kernel
theorem dX6_sceneLine_25 : decode cX6_sceneLine 25 = .ok (.invokevirtual 125, 3) := by decide +kernel
theorem dX6_sceneLine_28 : decode cX6_sceneLine 28 = .ok (.ifCond .eq 18, 3) := by decide +kernel
theorem dX6_sceneLine_31 : decode cX6_sceneLine 31 = .ok (.aload_n 0, 1) := by decide +kernel
theorem dX6_sceneLine_32 : decode cX6_sceneLine 32 = .ok (.iconst 1, 1) := by decide +kernel
theorem dX6_sceneLine_33 : decode cX6_sceneLine 33 = .ok (.sipush 500, 3) := by decide +kernel
theorem dX6_sceneLine_36 : decode cX6_sceneLine 36 = .ok (.invokevirtual 128, 3) := by decide +kernel
theorem dX6_sceneLine_39 : decode cX6_sceneLine 39 = .ok (.ifCond .eq 7, 3) := by decide +kernel
theorem dX6_sceneLine_42 : decode cX6_sceneLine 42 = .ok (.iconst 1, 1) := by decide +kernel
theorem dX6_sceneLine_43 : decode cX6_sceneLine 43 = .ok (.goto 4, 3) := by decide +kernel
theorem dX6_sceneLine_46 : decode cX6_sceneLine 46 = .ok (.iconst 0, 1) := by decide +kernel
theorem dX6_sceneLine_47 : decode cX6_sceneLine 47 = .ok (.istore_n 3, 1) := by decide +kernel
theorem dX6_sceneLine_48 : decode cX6_sceneLine 48 = .ok (.iload_n 3, 1) := by decide +kernel
theorem dX6_sceneLine_49 : decode cX6_sceneLine 49 = .ok (.ifCond .eq 50, 3) := by decide +kernel
theorem dX6_sceneLine_52 : decode cX6_sceneLine 52 = .ok (.aload_n 0, 1) := by decide +kernel
theorem dX6_sceneLine_53 : decode cX6_sceneLine 53 = .ok (.getfield 15, 3) := by decide +kernel
theorem dX6_sceneLine_56 : decode cX6_sceneLine 56 = .ok (.aload_n 0, 1) := by decide +kernel
theorem dX6_sceneLine_57 : decode cX6_sceneLine 57 = .ok (.getfield 31, 3) := by decide +kernel
theorem dX6_sceneLine_60 : decode cX6_sceneLine 60 = .ok (.getfield 74, 3) := by decide +kernel
theorem dX6_sceneLine_63 : decode cX6_sceneLine 63 = .ok (.lload_n 1, 1) := by decide +kernel
theorem dX6_sceneLine_64 : decode cX6_sceneLine 64 = .ok (.lastore, 1) := by decide +kernel
theorem dX6_sceneLine_65 : decode cX6_sceneLine 65 = .ok (.aload_n 0, 1) := by decide +kernel
theorem dX6_sceneLine_66 : decode cX6_sceneLine 66 = .ok (.getfield 31, 3) := by decide +kernel
theorem dX6_sceneLine_69 : decode cX6_sceneLine 69 = .ok (.getfield 174, 3) := by decide +kernel
theorem dX6_sceneLine_72 : decode cX6_sceneLine 72 = .ok (.aload_n 0, 1) := by decide +kernel
theorem dX6_sceneLine_73 : decode cX6_sceneLine 73 = .ok (.getfield 31, 3) := by decide +kernel
theorem dX6_sceneLine_76 : decode cX6_sceneLine 76 = .ok (.getfield 74, 3) := by decide +kernel
theorem dX6_sceneLine_79 : decode cX6_sceneLine 79 = .ok (.aload_n 0, 1) := by decide +kernel
theorem dX6_sceneLine_80 : decode cX6_sceneLine 80 = .ok (.getfield 18, 3) := by decide +kernel
theorem dX6_sceneLine_83 : decode cX6_sceneLine 83 = .ok (.iconst 0, 1) := by decide +kernel
theorem dX6_sceneLine_84 : decode cX6_sceneLine 84 = .ok (.iaload, 1) := by decide +kernel
theorem dX6_sceneLine_85 : decode cX6_sceneLine 85 = .ok (.iastore, 1) := by decide +kernel
theorem dX6_sceneLine_86 : decode cX6_sceneLine 86 = .ok (.aload_n 0, 1) := by decide +kernel
theorem dX6_sceneLine_87 : decode cX6_sceneLine 87 = .ok (.getfield 31, 3) := by decide +kernel
theorem dX6_sceneLine_90 : decode cX6_sceneLine 90 = .ok (.dup, 1) := by decide +kernel
theorem dX6_sceneLine_91 : decode cX6_sceneLine 91 = .ok (.getfield 74, 3) := by decide +kernel
theorem dX6_sceneLine_94 : decode cX6_sceneLine 94 = .ok (.iconst 1, 1) := by decide +kernel
theorem dX6_sceneLine_95 : decode cX6_sceneLine 95 = .ok (.iadd, 1) := by decide +kernel
theorem dX6_sceneLine_96 : decode cX6_sceneLine 96 = .ok (.putfield 74, 3) := by decide +kernel
theorem dX6_sceneLine_99 : decode cX6_sceneLine 99 = .ok (.iload_n 3, 1) := by decide +kernel
theorem dX6_sceneLine_100 : decode cX6_sceneLine 100 = .ok (.ireturn, 1) := by decide +kernel
theorem dX6_afterLine_0 : decode cX6_afterLine 0 = .ok (.aload_n 0, 1) := by decide +kernel
theorem dX6_afterLine_1 : decode cX6_afterLine 1 = .ok (.getfield 27, 3) := by decide +kernel
theorem dX6_afterLine_4 : decode cX6_afterLine 4 = .ok (.invokevirtual 58, 3) := by decide +kernel
theorem dX6_afterLine_7 : decode cX6_afterLine 7 = .ok (.aload_n 0, 1) := by decide +kernel
theorem dX6_afterLine_8 : decode cX6_afterLine 8 = .ok (.aload_n 0, 1) := by decide +kernel
theorem dX6_afterLine_9 : decode cX6_afterLine 9 = .ok (.getfield 15, 3) := by decide +kernel
theorem dX6_afterLine_12 : decode cX6_afterLine 12 = .ok (.aload_n 0, 1) := by decide +kernel
theorem dX6_afterLine_13 : decode cX6_afterLine 13 = .ok (.getfield 31, 3) := by decide +kernel
theorem dX6_afterLine_16 : decode cX6_afterLine 16 = .ok (.getfield 74, 3) := by decide +kernel
theorem dX6_afterLine_19 : decode cX6_afterLine 19 = .ok (.invokevirtual 176, 3) := by decide +kernel
theorem dX6_afterLine_22 : decode cX6_afterLine 22 = .ok (.ifCond .eq 14, 3) := by decide +kernel
theorem dX6_afterLine_25 : decode cX6_afterLine 25 = .ok (.aload_n 0, 1) := by decide +kernel
theorem dX6_afterLine_26 : decode cX6_afterLine 26 = .ok (.invokevirtual 180, 3) := by decide +kernel
theorem dX6_afterLine_29 : decode cX6_afterLine 29 = .ok (.ifCond .eq 7, 3) := by decide +kernel
theorem dX6_afterLine_32 : decode cX6_afterLine 32 = .ok (.iconst 1, 1) := by decide +kernel
theorem dX6_afterLine_33 : decode cX6_afterLine 33 = .ok (.goto 4, 3) := by decide +kernel
theorem dX6_afterLine_36 : decode cX6_afterLine 36 = .ok (.iconst 0, 1) := by decide +kernel
theorem dX6_afterLine_37 : decode cX6_afterLine 37 = .ok (.ireturn, 1) := by decide +kernel
theorem dX6_secondScene_0 : decode cX6_secondScene 0 = .ok (.aload_n 0, 1) := by decide +kernel
theorem dX6_secondScene_1 : decode cX6_secondScene 1 = .ok (.getfield 27, 3) := by decide +kernel
theorem dX6_secondScene_4 : decode cX6_secondScene 4 = .ok (.invokevirtual 183, 3) := by decide +kernel
theorem dX6_secondScene_7 : decode cX6_secondScene 7 = .ok (.ifCond .ne 9, 3) := by decide +kernel
theorem dX6_secondScene_10 : decode cX6_secondScene 10 = .ok (.aload_n 0, 1) := by decide +kernel
theorem dX6_secondScene_11 : decode cX6_secondScene 11 = .ok (.iconst 1, 1) := by decide +kernel
theorem dX6_secondScene_12 : decode cX6_secondScene 12 = .ok (.invokevirtual 64, 3) := by decide +kernel
theorem dX6_secondScene_15 : decode cX6_secondScene 15 = .ok (.ireturn, 1) := by decide +kernel
theorem dX6_secondScene_16 : decode cX6_secondScene 16 = .ok (.aload_n 0, 1) := by decide +kernel
theorem dX6_secondScene_17 : decode cX6_secondScene 17 = .ok (.getfield 18, 3) := by decide +kernel
theorem dX6_secondScene_20 : decode cX6_secondScene 20 = .ok (.iconst 0, 1) := by decide +kernel
theorem dX6_secondScene_21 : decode cX6_secondScene 21 = .ok (.iaload, 1) := by decide +kernel
theorem dX6_secondScene_22 : decode cX6_secondScene 22 = .ok (.istore_n 1, 1) := by decide +kernel
theorem dX6_secondScene_23 : decode cX6_secondScene 23 = .ok (.aload_n 0, 1) := by decide +kernel
theorem dX6_secondScene_24 : decode cX6_secondScene 24 = .ok (.aload_n 0, 1) := by decide +kernel
theorem dX6_secondScene_25 : decode cX6_secondScene 25 = .ok (.getfield 15, 3) := by decide +kernel
theorem dX6_secondScene_28 : decode cX6_secondScene 28 = .ok (.aload_n 0, 1) := by decide +kernel
theorem dX6_secondScene_29 : decode cX6_secondScene 29 = .ok (.getfield 31, 3) := by decide +kernel
theorem dX6_secondScene_32 : decode cX6_secondScene 32 = .ok (.getfield 74, 3) := by decide +kernel
theorem dX6_secondScene_35 : decode cX6_secondScene 35 = .ok (.invokevirtual 186, 3) := by decide +kernel
theorem dX6_secondScene_38 : decode cX6_secondScene 38 = .ok (.istore_n 2, 1) := by decide +kernel
theorem dX6_secondScene_39 : decode cX6_secondScene 39 = .ok (.iload_n 2, 1) := by decide +kernel
theorem dX6_secondScene_40 : decode cX6_secondScene 40 = .ok (.iconst (-1), 1) := by decide +kernel
theorem dX6_secondScene_41 : decode cX6_secondScene 41 = .ok (.if_icmp .ne 9, 3) := by decide +kernel
theorem dX6_secondScene_44 : decode cX6_secondScene 44 = .ok (.aload_n 0, 1) := by decide +kernel
theorem dX6_secondScene_45 : decode cX6_secondScene 45 = .ok (.iconst 2, 1) := by decide +kernel
theorem dX6_secondScene_46 : decode cX6_secondScene 46 = .ok (.invokevirtual 64, 3) := by decide +kernel
theorem dX6_secondScene_49 : decode cX6_secondScene 49 = .ok (.ireturn, 1) := by decide +kernel
theorem dX6_secondScene_50 : decode cX6_secondScene 50 = .ok (.iload_n 2, 1) := by decide +kernel
theorem dX6_secondScene_51 : decode cX6_secondScene 51 = .ok (.iload_n 1, 1) := by decide +kernel
theorem dX6_secondScene_52 : decode cX6_secondScene 52 = .ok (.if_icmp .ne 9, 3) := by decide +kernel
theorem dX6_secondScene_55 : decode cX6_secondScene 55 = .ok (.aload_n 0, 1) := by decide +kernel
theorem dX6_secondScene_56 : decode cX6_secondScene 56 = .ok (.iconst 3, 1) := by decide +kernel
theorem dX6_secondScene_57 : decode cX6_secondScene 57 = .ok (.invokevirtual 64, 3) := by decide +kernel
theorem dX6_secondScene_60 : decode cX6_secondScene 60 = .ok (.ireturn, 1) := by decide +kernel
theorem dX6_secondScene_61 : decode cX6_secondScene 61 = .ok (.aload_n 0, 1) := by decide +kernel
theorem dX6_secondScene_62 : decode cX6_secondScene 62 = .ok (.getfield 31, 3) := by decide +kernel
theorem dX6_secondScene_65 : decode cX6_secondScene 65 = .ok (.iload_n 1, 1) := by decide +kernel
theorem dX6_secondScene_66 : decode cX6_secondScene 66 = .ok (.iload_n 2, 1) := by decide +kernel
theorem dX6_secondScene_67 : decode cX6_secondScene 67 = .ok (.invokevirtual 190, 3) := by decide +kernel
theorem dX6_secondScene_70 : decode cX6_secondScene 70 = .ok (.aload_n 0, 1) := by decide +kernel
theorem dX6_secondScene_71 : decode cX6_secondScene 71 = .ok (.getfield 31, 3) := by decide +kernel
theorem dX6_secondScene_74 : decode cX6_secondScene 74 = .ok (.invokevirtual 194, 3) := by decide +kernel
theorem dX6_secondScene_77 : decode cX6_secondScene 77 = .ok (.ifCond .ne 10, 3) := by decide +kernel
theorem dX6_secondScene_80 : decode cX6_secondScene 80 = .ok (.aload_n 0, 1) := by decide +kernel
theorem dX6_secondScene_81 : decode cX6_secondScene 81 = .ok (.bipush 7, 2) := by decide +kernel
theorem dX6_secondScene_83 : decode cX6_secondScene 83 = .ok (.invokevirtual 64, 3) := by decide +kernel
theorem dX6_secondScene_86 : decode cX6_secondScene 86 = .ok (.ireturn, 1) := by decide +kernel
theorem dX6_secondScene_87 : decode cX6_secondScene 87 = .ok (.aload_n 0, 1) := by decide +kernel
theorem dX6_secondScene_88 : decode cX6_secondScene 88 = .ok (.getfield 27, 3) := by decide +kernel
theorem dX6_secondScene_91 : decode cX6_secondScene 91 = .ok (.invokevirtual 58, 3) := by decide +kernel
theorem dX6_secondScene_94 : decode cX6_secondScene 94 = .ok (.iconst 1, 1) := by decide +kernel
theorem dX6_secondScene_95 : decode cX6_secondScene 95 = .ok (.ireturn, 1) := by decide +kernel
theorem dX6_onLine_0 : decode cX6_onLine 0 = .ok (.aload_n 0, 1) := by decide +kernel
theorem dX6_onLine_1 : decode cX6_onLine 1 = .ok (.getfield 27, 3) := by decide +kernel
theorem dX6_onLine_4 : decode cX6_onLine 4 = .ok (.invokevirtual 58, 3) := by decide +kernel
theorem dX6_onLine_7 : decode cX6_onLine 7 = .ok (.aload_n 0, 1) := by decide +kernel
theorem dX6_onLine_8 : decode cX6_onLine 8 = .ok (.aload_n 0, 1) := by decide +kernel
theorem dX6_onLine_9 : decode cX6_onLine 9 = .ok (.getfield 9, 3) := by decide +kernel
theorem dX6_onLine_12 : decode cX6_onLine 12 = .ok (.aload_n 0, 1) := by decide +kernel
theorem dX6_onLine_13 : decode cX6_onLine 13 = .ok (.getfield 31, 3) := by decide +kernel
theorem dX6_onLine_16 : decode cX6_onLine 16 = .ok (.getfield 71, 3) := by decide +kernel
theorem dX6_onLine_19 : decode cX6_onLine 19 = .ok (.invokevirtual 176, 3) := by decide +kernel
theorem dX6_onLine_22 : decode cX6_onLine 22 = .ok (.ifCond .eq 21, 3) := by decide +kernel
theorem dX6_onLine_25 : decode cX6_onLine 25 = .ok (.aload_n 0, 1) := by decide +kernel
theorem dX6_onLine_26 : decode cX6_onLine 26 = .ok (.aload_n 0, 1) := by decide +kernel
theorem dX6_onLine_27 : decode cX6_onLine 27 = .ok (.getfield 15, 3) := by decide +kernel
theorem dX6_onLine_30 : decode cX6_onLine 30 = .ok (.aload_n 0, 1) := by decide +kernel
theorem dX6_onLine_31 : decode cX6_onLine 31 = .ok (.getfield 31, 3) := by decide +kernel
theorem dX6_onLine_34 : decode cX6_onLine 34 = .ok (.getfield 74, 3) := by decide +kernel
theorem dX6_onLine_37 : decode cX6_onLine 37 = .ok (.invokevirtual 176, 3) := by decide +kernel
theorem dX6_onLine_40 : decode cX6_onLine 40 = .ok (.ifCond .ne 5, 3) := by decide +kernel
theorem dX6_onLine_43 : decode cX6_onLine 43 = .ok (.iconst 0, 1) := by decide +kernel
theorem dX6_onLine_44 : decode cX6_onLine 44 = .ok (.ireturn, 1) := by decide +kernel
theorem dX6_onLine_45 : decode cX6_onLine 45 = .ok (.aload_n 0, 1) := by decide +kernel
theorem dX6_onLine_46 : decode cX6_onLine 46 = .ok (.getfield 31, 3) := by decide +kernel
theorem dX6_onLine_49 : decode cX6_onLine 49 = .ok (.getfield 174, 3) := by decide +kernel
theorem dX6_onLine_52 : decode cX6_onLine 52 = .ok (.aload_n 0, 1) := by decide +kernel
theorem dX6_onLine_53 : decode cX6_onLine 53 = .ok (.getfield 18, 3) := by decide +kernel
theorem dX6_onLine_56 : decode cX6_onLine 56 = .ok (.iconst 1, 1) := by decide +kernel
theorem dX6_onLine_57 : decode cX6_onLine 57 = .ok (.iaload, 1) := by decide +kernel
theorem dX6_onLine_58 : decode cX6_onLine 58 = .ok (.iaload, 1) := by decide +kernel
theorem dX6_onLine_59 : decode cX6_onLine 59 = .ok (.istore_n 1, 1) := by decide +kernel
theorem dX6_onLine_60 : decode cX6_onLine 60 = .ok (.aload_n 0, 1) := by decide +kernel
theorem dX6_onLine_61 : decode cX6_onLine 61 = .ok (.iconst 0, 1) := by decide +kernel
theorem dX6_onLine_62 : decode cX6_onLine 62 = .ok (.iload_n 1, 1) := by decide +kernel
theorem dX6_onLine_63 : decode cX6_onLine 63 = .ok (.iconst 1, 1) := by decide +kernel
theorem dX6_onLine_64 : decode cX6_onLine 64 = .ok (.isub, 1) := by decide +kernel
theorem dX6_onLine_65 : decode cX6_onLine 65 = .ok (.invokevirtual 128, 3) := by decide +kernel
theorem dX6_onLine_68 : decode cX6_onLine 68 = .ok (.ifCond .eq 46, 3) := by decide +kernel
theorem dX6_onLine_71 : decode cX6_onLine 71 = .ok (.aload_n 0, 1) := by decide +kernel
theorem dX6_onLine_72 : decode cX6_onLine 72 = .ok (.ldc 197, 2) := by decide +kernel
theorem dX6_onLine_74 : decode cX6_onLine 74 = .ok (.invokevirtual 125, 3) := by decide +kernel
theorem dX6_onLine_77 : decode cX6_onLine 77 = .ok (.ifCond .eq 37, 3) := by decide +kernel
theorem dX6_onLine_80 : decode cX6_onLine 80 = .ok (.aload_n 0, 1) := by decide +kernel
theorem dX6_onLine_81 : decode cX6_onLine 81 = .ok (.aload_n 0, 1) := by decide +kernel
theorem dX6_onLine_82 : decode cX6_onLine 82 = .ok (.getfield 18, 3) := by decide +kernel
theorem dX6_onLine_85 : decode cX6_onLine 85 = .ok (.iconst 2, 1) := by decide +kernel
theorem dX6_onLine_86 : decode cX6_onLine 86 = .ok (.iaload, 1) := by decide +kernel
theorem dX6_onLine_87 : decode cX6_onLine 87 = .ok (.iconst 1, 1) := by decide +kernel
theorem dX6_onLine_88 : decode cX6_onLine 88 = .ok (.iadd, 1) := by decide +kernel
theorem dX6_onLine_89 : decode cX6_onLine 89 = .ok (.iload_n 1, 1) := by decide +kernel
theorem dX6_onLine_90 : decode cX6_onLine 90 = .ok (.invokevirtual 128, 3) := by decide +kernel
theorem dX6_onLine_93 : decode cX6_onLine 93 = .ok (.ifCond .eq 21, 3) := by decide +kernel
theorem dX6_onLine_96 : decode cX6_onLine 96 = .ok (.aload_n 0, 1) := by decide +kernel
theorem dX6_onLine_97 : decode cX6_onLine 97 = .ok (.invokevirtual 199, 3) := by decide +kernel
theorem dX6_onLine_100 : decode cX6_onLine 100 = .ok (.ifCond .eq 14, 3) := by decide +kernel
theorem dX6_onLine_103 : decode cX6_onLine 103 = .ok (.aload_n 0, 1) := by decide +kernel
theorem dX6_onLine_104 : decode cX6_onLine 104 = .ok (.invokevirtual 199, 3) := by decide +kernel
theorem dX6_onLine_107 : decode cX6_onLine 107 = .ok (.ifCond .eq 7, 3) := by decide +kernel
theorem dX6_onLine_110 : decode cX6_onLine 110 = .ok (.iconst 1, 1) := by decide +kernel
theorem dX6_onLine_111 : decode cX6_onLine 111 = .ok (.goto 4, 3) := by decide +kernel
theorem dX6_onLine_114 : decode cX6_onLine 114 = .ok (.iconst 0, 1) := by decide +kernel
theorem dX6_onLine_115 : decode cX6_onLine 115 = .ok (.istore_n 2, 1) := by decide +kernel
theorem dX6_onLine_116 : decode cX6_onLine 116 = .ok (.iload_n 2, 1) := by decide +kernel
theorem dX6_onLine_117 : decode cX6_onLine 117 = .ok (.ifCond .eq 36, 3) := by decide +kernel
theorem dX6_onLine_120 : decode cX6_onLine 120 = .ok (.aload_n 0, 1) := by decide +kernel
theorem dX6_onLine_121 : decode cX6_onLine 121 = .ok (.getfield 27, 3) := by decide +kernel
theorem dX6_onLine_124 : decode cX6_onLine 124 = .ok (.ldc 202, 2) := by decide +kernel
theorem dX6_onLine_126 : decode cX6_onLine 126 = .ok (.invokevirtual 82, 3) := by decide +kernel
theorem dX6_onLine_129 : decode cX6_onLine 129 = .ok (.istore_n 3, 1) := by decide +kernel
theorem dX6_onLine_130 : decode cX6_onLine 130 = .ok (.iload_n 3, 1) := by decide +kernel
theorem dX6_onLine_131 : decode cX6_onLine 131 = .ok (.ifCond .eq 10, 3) := by decide +kernel
theorem dX6_onLine_134 : decode cX6_onLine 134 = .ok (.aload_n 0, 1) := by decide +kernel
theorem dX6_onLine_135 : decode cX6_onLine 135 = .ok (.getfield 27, 3) := by decide +kernel
theorem dX6_onLine_138 : decode cX6_onLine 138 = .ok (.invokevirtual 58, 3) := by decide +kernel
theorem dX6_onLine_141 : decode cX6_onLine 141 = .ok (.aload_n 0, 1) := by decide +kernel
theorem dX6_onLine_142 : decode cX6_onLine 142 = .ok (.getfield 31, 3) := by decide +kernel
theorem dX6_onLine_145 : decode cX6_onLine 145 = .ok (.aload_n 0, 1) := by decide +kernel
theorem dX6_onLine_146 : decode cX6_onLine 146 = .ok (.getfield 18, 3) := by decide +kernel
theorem dX6_onLine_149 : decode cX6_onLine 149 = .ok (.iload_n 3, 1) := by decide +kernel
theorem dX6_onLine_150 : decode cX6_onLine 150 = .ok (.invokevirtual 204, 3) := by decide +kernel
theorem dX6_onLine_153 : decode cX6_onLine 153 = .ok (.iload_n 2, 1) := by decide +kernel
theorem dX6_onLine_154 : decode cX6_onLine 154 = .ok (.ireturn, 1) := by decide +kernel
theorem dX6_sawLine_0 : decode cX6_sawLine 0 = .ok (.aload_n 0, 1) := by decide +kernel
theorem dX6_sawLine_1 : decode cX6_sawLine 1 = .ok (.getfield 27, 3) := by decide +kernel
theorem dX6_sawLine_4 : decode cX6_sawLine 4 = .ok (.invokevirtual 58, 3) := by decide +kernel
theorem dX6_sawLine_7 : decode cX6_sawLine 7 = .ok (.aload_n 0, 1) := by decide +kernel
theorem dX6_sawLine_8 : decode cX6_sawLine 8 = .ok (.aload_n 0, 1) := by decide +kernel
theorem dX6_sawLine_9 : decode cX6_sawLine 9 = .ok (.getfield 9, 3) := by decide +kernel
theorem dX6_sawLine_12 : decode cX6_sawLine 12 = .ok (.aload_n 0, 1) := by decide +kernel
theorem dX6_sawLine_13 : decode cX6_sawLine 13 = .ok (.getfield 31, 3) := by decide +kernel
theorem dX6_sawLine_16 : decode cX6_sawLine 16 = .ok (.getfield 71, 3) := by decide +kernel
theorem dX6_sawLine_19 : decode cX6_sawLine 19 = .ok (.invokevirtual 176, 3) := by decide +kernel
theorem dX6_sawLine_22 : decode cX6_sawLine 22 = .ok (.ifCond .eq 25, 3) := by decide +kernel
theorem dX6_sawLine_25 : decode cX6_sawLine 25 = .ok (.aload_n 0, 1) := by decide +kernel
theorem dX6_sawLine_26 : decode cX6_sawLine 26 = .ok (.iconst 0, 1) := by decide +kernel
theorem dX6_sawLine_27 : decode cX6_sawLine 27 = .ok (.sipush 999, 3) := by decide +kernel
theorem dX6_sawLine_30 : decode cX6_sawLine 30 = .ok (.invokevirtual 128, 3) := by decide +kernel
theorem dX6_sawLine_33 : decode cX6_sawLine 33 = .ok (.ifCond .eq 14, 3) := by decide +kernel
theorem dX6_sawLine_36 : decode cX6_sawLine 36 = .ok (.aload_n 0, 1) := by decide +kernel
theorem dX6_sawLine_37 : decode cX6_sawLine 37 = .ok (.invokevirtual 199, 3) := by decide +kernel
theorem dX6_sawLine_40 : decode cX6_sawLine 40 = .ok (.ifCond .eq 7, 3) := by decide +kernel
theorem dX6_sawLine_43 : decode cX6_sawLine 43 = .ok (.iconst 1, 1) := by decide +kernel
theorem dX6_sawLine_44 : decode cX6_sawLine 44 = .ok (.goto 4, 3) := by decide +kernel
theorem dX6_sawLine_47 : decode cX6_sawLine 47 = .ok (.iconst 0, 1) := by decide +kernel
theorem dX6_sawLine_48 : decode cX6_sawLine 48 = .ok (.istore_n 1, 1) := by decide +kernel
theorem dX6_sawLine_49 : decode cX6_sawLine 49 = .ok (.iload_n 1, 1) := by decide +kernel
theorem dX6_sawLine_50 : decode cX6_sawLine 50 = .ok (.ifCond .eq 14, 3) := by decide +kernel
theorem dX6_sawLine_53 : decode cX6_sawLine 53 = .ok (.aload_n 0, 1) := by decide +kernel
theorem dX6_sawLine_54 : decode cX6_sawLine 54 = .ok (.getfield 31, 3) := by decide +kernel
theorem dX6_sawLine_57 : decode cX6_sawLine 57 = .ok (.aload_n 0, 1) := by decide +kernel
theorem dX6_sawLine_58 : decode cX6_sawLine 58 = .ok (.getfield 18, 3) := by decide +kernel
theorem dX6_sawLine_61 : decode cX6_sawLine 61 = .ok (.invokevirtual 208, 3) := by decide +kernel
theorem dX6_sawLine_64 : decode cX6_sawLine 64 = .ok (.iload_n 1, 1) := by decide +kernel
theorem dX6_sawLine_65 : decode cX6_sawLine 65 = .ok (.ireturn, 1) := by decide +kernel
theorem dX6_tell_0 : decode cX6_tell 0 = .ok (.aload_n 0, 1) := by decide +kernel
theorem dX6_tell_1 : decode cX6_tell 1 = .ok (.getfield 78, 3) := by decide +kernel
theorem dX6_tell_4 : decode cX6_tell 4 = .ok (.bipush 8, 2) := by decide +kernel
theorem dX6_tell_6 : decode cX6_tell 6 = .ok (.if_icmp .ge 23, 3) := by decide +kernel
theorem dX6_tell_9 : decode cX6_tell 9 = .ok (.aload_n 0, 1) := by decide +kernel
theorem dX6_tell_10 : decode cX6_tell 10 = .ok (.getfield 18, 3) := by decide +kernel
theorem dX6_tell_13 : decode cX6_tell 13 = .ok (.aload_n 0, 1) := by decide +kernel
theorem dX6_tell_14 : decode cX6_tell 14 = .ok (.getfield 78, 3) := by decide +kernel
theorem dX6_tell_17 : decode cX6_tell 17 = .ok (.iload_n 1, 1) := by decide +kernel
theorem dX6_tell_18 : decode cX6_tell 18 = .ok (.iastore, 1) := by decide +kernel
theorem dX6_tell_19 : decode cX6_tell 19 = .ok (.aload_n 0, 1) := by decide +kernel
theorem dX6_tell_20 : decode cX6_tell 20 = .ok (.dup, 1) := by decide +kernel
theorem dX6_tell_21 : decode cX6_tell 21 = .ok (.getfield 78, 3) := by decide +kernel
theorem dX6_tell_24 : decode cX6_tell 24 = .ok (.iconst 1, 1) := by decide +kernel
theorem dX6_tell_25 : decode cX6_tell 25 = .ok (.iadd, 1) := by decide +kernel
theorem dX6_tell_26 : decode cX6_tell 26 = .ok (.putfield 78, 3) := by decide +kernel
theorem dX6_tell_29 : decode cX6_tell 29 = .ok (.iconst 1, 1) := by decide +kernel
theorem dX6_tell_30 : decode cX6_tell 30 = .ok (.ireturn, 1) := by decide +kernel
theorem dX6_word_0 : decode cX6_word 0 = .ok (.aload_n 0, 1) := by decide +kernel
theorem dX6_word_1 : decode cX6_word 1 = .ok (.getfield 27, 3) := by decide +kernel
theorem dX6_word_4 : decode cX6_word 4 = .ok (.aload_n 1, 1) := by decide +kernel
theorem dX6_word_5 : decode cX6_word 5 = .ok (.invokevirtual 82, 3) := by decide +kernel
theorem dX6_word_8 : decode cX6_word 8 = .ok (.ifCond .ne 9, 3) := by decide +kernel
theorem dX6_word_11 : decode cX6_word 11 = .ok (.aload_n 0, 1) := by decide +kernel
theorem dX6_word_12 : decode cX6_word 12 = .ok (.iconst 1, 1) := by decide +kernel
theorem dX6_word_13 : decode cX6_word 13 = .ok (.invokevirtual 64, 3) := by decide +kernel
theorem dX6_word_16 : decode cX6_word 16 = .ok (.ireturn, 1) := by decide +kernel
theorem dX6_word_17 : decode cX6_word 17 = .ok (.aload_n 0, 1) := by decide +kernel
theorem dX6_word_18 : decode cX6_word 18 = .ok (.getfield 27, 3) := by decide +kernel
theorem dX6_word_21 : decode cX6_word 21 = .ok (.invokevirtual 58, 3) := by decide +kernel
theorem dX6_word_24 : decode cX6_word 24 = .ok (.iconst 1, 1) := by decide +kernel
theorem dX6_word_25 : decode cX6_word 25 = .ok (.ireturn, 1) := by decide +kernel
theorem dX6_whole_0 : decode cX6_whole 0 = .ok (.aload_n 0, 1) := by decide +kernel
theorem dX6_whole_1 : decode cX6_whole 1 = .ok (.getfield 27, 3) := by decide +kernel
theorem dX6_whole_4 : decode cX6_whole 4 = .ok (.getfield 55, 3) := by decide +kernel
theorem dX6_whole_7 : decode cX6_whole 7 = .ok (.iconst 2, 1) := by decide +kernel
theorem dX6_whole_8 : decode cX6_whole 8 = .ok (.if_icmp .eq 9, 3) := by decide +kernel
theorem dX6_whole_11 : decode cX6_whole 11 = .ok (.aload_n 0, 1) := by decide +kernel
theorem dX6_whole_12 : decode cX6_whole 12 = .ok (.iconst 1, 1) := by decide +kernel
theorem dX6_whole_13 : decode cX6_whole 13 = .ok (.invokevirtual 64, 3) := by decide +kernel
theorem dX6_whole_16 : decode cX6_whole 16 = .ok (.ireturn, 1) := by decide +kernel
theorem dX6_whole_17 : decode cX6_whole 17 = .ok (.aload_n 0, 1) := by decide +kernel
theorem dX6_whole_18 : decode cX6_whole 18 = .ok (.getfield 27, 3) := by decide +kernel
theorem dX6_whole_21 : decode cX6_whole 21 = .ok (.getfield 211, 3) := by decide +kernel
theorem dX6_whole_24 : decode cX6_whole 24 = .ok (.istore_n 3, 1) := by decide +kernel
theorem dX6_whole_25 : decode cX6_whole 25 = .ok (.iload_n 3, 1) := by decide +kernel
theorem dX6_whole_26 : decode cX6_whole 26 = .ok (.iload_n 1, 1) := by decide +kernel
theorem dX6_whole_27 : decode cX6_whole 27 = .ok (.if_icmp .lt 8, 3) := by decide +kernel
theorem dX6_whole_30 : decode cX6_whole 30 = .ok (.iload_n 3, 1) := by decide +kernel
theorem dX6_whole_31 : decode cX6_whole 31 = .ok (.iload_n 2, 1) := by decide +kernel
theorem dX6_whole_32 : decode cX6_whole 32 = .ok (.if_icmp .le 9, 3) := by decide +kernel
theorem dX6_whole_35 : decode cX6_whole 35 = .ok (.aload_n 0, 1) := by decide +kernel
theorem dX6_whole_36 : decode cX6_whole 36 = .ok (.iconst 4, 1) := by decide +kernel
theorem dX6_whole_37 : decode cX6_whole 37 = .ok (.invokevirtual 64, 3) := by decide +kernel
theorem dX6_whole_40 : decode cX6_whole 40 = .ok (.ireturn, 1) := by decide +kernel
theorem dX6_whole_41 : decode cX6_whole 41 = .ok (.aload_n 0, 1) := by decide +kernel
theorem dX6_whole_42 : decode cX6_whole 42 = .ok (.getfield 27, 3) := by decide +kernel
theorem dX6_whole_45 : decode cX6_whole 45 = .ok (.invokevirtual 58, 3) := by decide +kernel
theorem dX6_whole_48 : decode cX6_whole 48 = .ok (.aload_n 0, 1) := by decide +kernel
theorem dX6_whole_49 : decode cX6_whole 49 = .ok (.iload_n 3, 1) := by decide +kernel
theorem dX6_whole_50 : decode cX6_whole 50 = .ok (.invokevirtual 151, 3) := by decide +kernel
theorem dX6_whole_53 : decode cX6_whole 53 = .ok (.ireturn, 1) := by decide +kernel
theorem dX6_side_0 : decode cX6_side 0 = .ok (.aload_n 0, 1) := by decide +kernel
theorem dX6_side_1 : decode cX6_side 1 = .ok (.getfield 27, 3) := by decide +kernel
theorem dX6_side_4 : decode cX6_side 4 = .ok (.ldc 214, 2) := by decide +kernel
theorem dX6_side_6 : decode cX6_side 6 = .ok (.invokevirtual 82, 3) := by decide +kernel
theorem dX6_side_9 : decode cX6_side 9 = .ok (.ifCond .eq 7, 3) := by decide +kernel
theorem dX6_side_12 : decode cX6_side 12 = .ok (.iconst 0, 1) := by decide +kernel
theorem dX6_side_13 : decode cX6_side 13 = .ok (.goto 20, 3) := by decide +kernel
theorem dX6_side_16 : decode cX6_side 16 = .ok (.aload_n 0, 1) := by decide +kernel
theorem dX6_side_17 : decode cX6_side 17 = .ok (.getfield 27, 3) := by decide +kernel
theorem dX6_side_20 : decode cX6_side 20 = .ok (.ldc 216, 2) := by decide +kernel
theorem dX6_side_22 : decode cX6_side 22 = .ok (.invokevirtual 82, 3) := by decide +kernel
theorem dX6_side_25 : decode cX6_side 25 = .ok (.ifCond .eq 7, 3) := by decide +kernel
theorem dX6_side_28 : decode cX6_side 28 = .ok (.iconst 1, 1) := by decide +kernel
theorem dX6_side_29 : decode cX6_side 29 = .ok (.goto 4, 3) := by decide +kernel
theorem dX6_side_32 : decode cX6_side 32 = .ok (.iconst (-1), 1) := by decide +kernel
theorem dX6_side_33 : decode cX6_side 33 = .ok (.istore_n 1, 1) := by decide +kernel
theorem dX6_side_34 : decode cX6_side 34 = .ok (.iload_n 1, 1) := by decide +kernel
theorem dX6_side_35 : decode cX6_side 35 = .ok (.iconst (-1), 1) := by decide +kernel
theorem dX6_side_36 : decode cX6_side 36 = .ok (.if_icmp .ne 9, 3) := by decide +kernel
theorem dX6_side_39 : decode cX6_side 39 = .ok (.aload_n 0, 1) := by decide +kernel
theorem dX6_side_40 : decode cX6_side 40 = .ok (.iconst 1, 1) := by decide +kernel
theorem dX6_side_41 : decode cX6_side 41 = .ok (.invokevirtual 64, 3) := by decide +kernel
theorem dX6_side_44 : decode cX6_side 44 = .ok (.ireturn, 1) := by decide +kernel
theorem dX6_side_45 : decode cX6_side 45 = .ok (.aload_n 0, 1) := by decide +kernel
theorem dX6_side_46 : decode cX6_side 46 = .ok (.getfield 27, 3) := by decide +kernel
theorem dX6_side_49 : decode cX6_side 49 = .ok (.invokevirtual 58, 3) := by decide +kernel
theorem dX6_side_52 : decode cX6_side 52 = .ok (.aload_n 0, 1) := by decide +kernel
theorem dX6_side_53 : decode cX6_side 53 = .ok (.iload_n 1, 1) := by decide +kernel
theorem dX6_side_54 : decode cX6_side 54 = .ok (.invokevirtual 151, 3) := by decide +kernel
theorem dX6_side_57 : decode cX6_side 57 = .ok (.ireturn, 1) := by decide +kernel
theorem dX6_newName_0 : decode cX6_newName 0 = .ok (.aload_n 0, 1) := by decide +kernel
theorem dX6_newName_1 : decode cX6_newName 1 = .ok (.getfield 27, 3) := by decide +kernel
theorem dX6_newName_4 : decode cX6_newName 4 = .ok (.invokevirtual 183, 3) := by decide +kernel
theorem dX6_newName_7 : decode cX6_newName 7 = .ok (.ifCond .ne 9, 3) := by decide +kernel
theorem dX6_newName_10 : decode cX6_newName 10 = .ok (.aload_n 0, 1) := by decide +kernel
theorem dX6_newName_11 : decode cX6_newName 11 = .ok (.iconst 1, 1) := by decide +kernel
theorem dX6_newName_12 : decode cX6_newName 12 = .ok (.invokevirtual 64, 3) := by decide +kernel
theorem dX6_newName_15 : decode cX6_newName 15 = .ok (.ireturn, 1) := by decide +kernel
theorem dX6_newName_16 : decode cX6_newName 16 = .ok (.aload_n 0, 1) := by decide +kernel
theorem dX6_newName_17 : decode cX6_newName 17 = .ok (.aload_n 0, 1) := by decide +kernel
theorem dX6_newName_18 : decode cX6_newName 18 = .ok (.getfield 9, 3) := by decide +kernel
theorem dX6_newName_21 : decode cX6_newName 21 = .ok (.aload_n 0, 1) := by decide +kernel
theorem dX6_newName_22 : decode cX6_newName 22 = .ok (.getfield 31, 3) := by decide +kernel
theorem dX6_newName_25 : decode cX6_newName 25 = .ok (.getfield 71, 3) := by decide +kernel
theorem dX6_newName_28 : decode cX6_newName 28 = .ok (.invokevirtual 186, 3) := by decide +kernel
theorem dX6_newName_31 : decode cX6_newName 31 = .ok (.iconst (-1), 1) := by decide +kernel
theorem dX6_newName_32 : decode cX6_newName 32 = .ok (.if_icmp .ne 22, 3) := by decide +kernel
theorem dX6_newName_35 : decode cX6_newName 35 = .ok (.aload_n 0, 1) := by decide +kernel
theorem dX6_newName_36 : decode cX6_newName 36 = .ok (.aload_n 0, 1) := by decide +kernel
theorem dX6_newName_37 : decode cX6_newName 37 = .ok (.getfield 15, 3) := by decide +kernel
theorem dX6_newName_40 : decode cX6_newName 40 = .ok (.aload_n 0, 1) := by decide +kernel
theorem dX6_newName_41 : decode cX6_newName 41 = .ok (.getfield 31, 3) := by decide +kernel
theorem dX6_newName_44 : decode cX6_newName 44 = .ok (.getfield 74, 3) := by decide +kernel
theorem dX6_newName_47 : decode cX6_newName 47 = .ok (.invokevirtual 186, 3) := by decide +kernel
theorem dX6_newName_50 : decode cX6_newName 50 = .ok (.iconst (-1), 1) := by decide +kernel
theorem dX6_newName_51 : decode cX6_newName 51 = .ok (.if_icmp .eq 9, 3) := by decide +kernel
theorem dX6_newName_54 : decode cX6_newName 54 = .ok (.aload_n 0, 1) := by decide +kernel
theorem dX6_newName_55 : decode cX6_newName 55 = .ok (.iconst 3, 1) := by decide +kernel
theorem dX6_newName_56 : decode cX6_newName 56 = .ok (.invokevirtual 64, 3) := by decide +kernel
theorem dX6_newName_59 : decode cX6_newName 59 = .ok (.ireturn, 1) := by decide +kernel
theorem dX6_newName_60 : decode cX6_newName 60 = .ok (.aload_n 0, 1) := by decide +kernel
theorem dX6_newName_61 : decode cX6_newName 61 = .ok (.getfield 27, 3) := by decide +kernel
theorem dX6_newName_64 : decode cX6_newName 64 = .ok (.invokevirtual 58, 3) := by decide +kernel
theorem dX6_newName_67 : decode cX6_newName 67 = .ok (.iconst 1, 1) := by decide +kernel
theorem dX6_newName_68 : decode cX6_newName 68 = .ok (.ireturn, 1) := by decide +kernel
theorem dX6_oldName_0 : decode cX6_oldName 0 = .ok (.aload_n 0, 1) := by decide +kernel
theorem dX6_oldName_1 : decode cX6_oldName 1 = .ok (.getfield 27, 3) := by decide +kernel
theorem dX6_oldName_4 : decode cX6_oldName 4 = .ok (.invokevirtual 183, 3) := by decide +kernel
theorem dX6_oldName_7 : decode cX6_oldName 7 = .ok (.ifCond .ne 9, 3) := by decide +kernel
theorem dX6_oldName_10 : decode cX6_oldName 10 = .ok (.aload_n 0, 1) := by decide +kernel
theorem dX6_oldName_11 : decode cX6_oldName 11 = .ok (.iconst 1, 1) := by decide +kernel
theorem dX6_oldName_12 : decode cX6_oldName 12 = .ok (.invokevirtual 64, 3) := by decide +kernel
theorem dX6_oldName_15 : decode cX6_oldName 15 = .ok (.ireturn, 1) := by decide +kernel
theorem dX6_oldName_16 : decode cX6_oldName 16 = .ok (.aload_n 0, 1) := by decide +kernel
theorem dX6_oldName_17 : decode cX6_oldName 17 = .ok (.aload_n 1, 1) := by decide +kernel
theorem dX6_oldName_18 : decode cX6_oldName 18 = .ok (.iload_n 2, 1) := by decide +kernel
theorem dX6_oldName_19 : decode cX6_oldName 19 = .ok (.invokevirtual 186, 3) := by decide +kernel
theorem dX6_oldName_22 : decode cX6_oldName 22 = .ok (.istore_n 3, 1) := by decide +kernel
theorem dX6_oldName_23 : decode cX6_oldName 23 = .ok (.iload_n 3, 1) := by decide +kernel
theorem dX6_oldName_24 : decode cX6_oldName 24 = .ok (.iconst (-1), 1) := by decide +kernel
theorem dX6_oldName_25 : decode cX6_oldName 25 = .ok (.if_icmp .ne 9, 3) := by decide +kernel
theorem dX6_oldName_28 : decode cX6_oldName 28 = .ok (.aload_n 0, 1) := by decide +kernel
theorem dX6_oldName_29 : decode cX6_oldName 29 = .ok (.iconst 2, 1) := by decide +kernel
theorem dX6_oldName_30 : decode cX6_oldName 30 = .ok (.invokevirtual 64, 3) := by decide +kernel
theorem dX6_oldName_33 : decode cX6_oldName 33 = .ok (.ireturn, 1) := by decide +kernel
theorem dX6_oldName_34 : decode cX6_oldName 34 = .ok (.aload_n 0, 1) := by decide +kernel
theorem dX6_oldName_35 : decode cX6_oldName 35 = .ok (.getfield 27, 3) := by decide +kernel
theorem dX6_oldName_38 : decode cX6_oldName 38 = .ok (.invokevirtual 58, 3) := by decide +kernel
theorem dX6_oldName_41 : decode cX6_oldName 41 = .ok (.aload_n 0, 1) := by decide +kernel
theorem dX6_oldName_42 : decode cX6_oldName 42 = .ok (.iload_n 3, 1) := by decide +kernel
theorem dX6_oldName_43 : decode cX6_oldName 43 = .ok (.invokevirtual 151, 3) := by decide +kernel
theorem dX6_oldName_46 : decode cX6_oldName 46 = .ok (.ireturn, 1) := by decide +kernel
theorem dX6_find_0 : decode cX6_find 0 = .ok (.iconst 0, 1) := by decide +kernel
theorem dX6_find_1 : decode cX6_find 1 = .ok (.istore_n 3, 1) := by decide +kernel
theorem dX6_find_2 : decode cX6_find 2 = .ok (.iload_n 3, 1) := by decide +kernel
theorem dX6_find_3 : decode cX6_find 3 = .ok (.iload_n 2, 1) := by decide +kernel
theorem dX6_find_4 : decode cX6_find 4 = .ok (.if_icmp .ge 31, 3) := by decide +kernel
theorem dX6_find_7 : decode cX6_find 7 = .ok (.iload_n 3, 1) := by decide +kernel
theorem dX6_find_8 : decode cX6_find 8 = .ok (.aload_n 1, 1) := by decide +kernel
theorem dX6_find_9 : decode cX6_find 9 = .ok (.arraylength, 1) := by decide +kernel
theorem dX6_find_10 : decode cX6_find 10 = .ok (.if_icmp .ge 25, 3) := by decide +kernel
theorem dX6_find_13 : decode cX6_find 13 = .ok (.aload_n 1, 1) := by decide +kernel
theorem dX6_find_14 : decode cX6_find 14 = .ok (.iload_n 3, 1) := by decide +kernel
theorem dX6_find_15 : decode cX6_find 15 = .ok (.laload, 1) := by decide +kernel
theorem dX6_find_16 : decode cX6_find 16 = .ok (.aload_n 0, 1) := by decide +kernel
theorem dX6_find_17 : decode cX6_find 17 = .ok (.getfield 27, 3) := by decide +kernel
theorem dX6_find_20 : decode cX6_find 20 = .ok (.getfield 141, 3) := by decide +kernel
theorem dX6_find_23 : decode cX6_find 23 = .ok (.lcmp, 1) := by decide +kernel
theorem dX6_find_24 : decode cX6_find 24 = .ok (.ifCond .ne 5, 3) := by decide +kernel
theorem dX6_find_27 : decode cX6_find 27 = .ok (.iload_n 3, 1) := by decide +kernel
theorem dX6_find_28 : decode cX6_find 28 = .ok (.ireturn, 1) := by decide +kernel
theorem dX6_find_29 : decode cX6_find 29 = .ok (.iinc 3 1, 3) := by decide +kernel
theorem dX6_find_32 : decode cX6_find 32 = .ok (.goto (-30), 3) := by decide +kernel
theorem dX6_find_35 : decode cX6_find 35 = .ok (.iconst (-1), 1) := by decide +kernel
theorem dX6_find_36 : decode cX6_find 36 = .ok (.ireturn, 1) := by decide +kernel
theorem dX7_init_0 : decode cX7_init 0 = .ok (.aload_n 0, 1) := by decide +kernel
theorem dX7_init_1 : decode cX7_init 1 = .ok (.invokespecial 3, 3) := by decide +kernel
theorem dX7_init_4 : decode cX7_init 4 = .ok (.aload_n 0, 1) := by decide +kernel
theorem dX7_init_5 : decode cX7_init 5 = .ok (.bipush 120, 2) := by decide +kernel
theorem dX7_init_7 : decode cX7_init 7 = .ok (.newarray .int, 2) := by decide +kernel
theorem dX7_init_9 : decode cX7_init 9 = .ok (.putfield 9, 3) := by decide +kernel
theorem dX7_init_12 : decode cX7_init 12 = .ok (.aload_n 0, 1) := by decide +kernel
theorem dX7_init_13 : decode cX7_init 13 = .ok (.iconst (-1), 1) := by decide +kernel
theorem dX7_init_14 : decode cX7_init 14 = .ok (.putfield 15, 3) := by decide +kernel
theorem dX7_init_17 : decode cX7_init 17 = .ok (.aload_n 0, 1) := by decide +kernel
theorem dX7_init_18 : decode cX7_init 18 = .ok (.bipush (-2), 2) := by decide +kernel
theorem dX7_init_20 : decode cX7_init 20 = .ok (.putfield 19, 3) := by decide +kernel
theorem dX7_init_23 : decode cX7_init 23 = .ok (.aload_n 0, 1) := by decide +kernel
theorem dX7_init_24 : decode cX7_init 24 = .ok (.iconst 0, 1) := by decide +kernel
theorem dX7_init_25 : decode cX7_init 25 = .ok (.putfield 22, 3) := by decide +kernel
theorem dX7_init_28 : decode cX7_init 28 = .ok (.aload_n 0, 1) := by decide +kernel
theorem dX7_init_29 : decode cX7_init 29 = .ok (.aload_n 1, 1) := by decide +kernel
theorem dX7_init_30 : decode cX7_init 30 = .ok (.putfield 25, 3) := by decide +kernel
theorem dX7_init_33 : decode cX7_init 33 = .ok (.aload_n 0, 1) := by decide +kernel
theorem dX7_init_34 : decode cX7_init 34 = .ok (.new 29, 3) := by decide +kernel
theorem dX7_init_37 : decode cX7_init 37 = .ok (.dup, 1) := by decide +kernel
theorem dX7_init_38 : decode cX7_init 38 = .ok (.aload_n 1, 1) := by decide +kernel
theorem dX7_init_39 : decode cX7_init 39 = .ok (.invokespecial 31, 3) := by decide +kernel
theorem dX7_init_42 : decode cX7_init 42 = .ok (.putfield 34, 3) := by decide +kernel
theorem dX7_init_45 : decode cX7_init 45 = .ok (.return_, 1) := by decide +kernel
theorem dX7_take_0 : decode cX7_take 0 = .ok (.aload_n 0, 1) := by decide +kernel
theorem dX7_take_1 : decode cX7_take 1 = .ok (.aload_n 1, 1) := by decide +kernel
theorem dX7_take_2 : decode cX7_take 2 = .ok (.putfield 25, 3) := by decide +kernel
theorem dX7_take_5 : decode cX7_take 5 = .ok (.aload_n 0, 1) := by decide +kernel
theorem dX7_take_6 : decode cX7_take 6 = .ok (.iconst (-1), 1) := by decide +kernel
theorem dX7_take_7 : decode cX7_take 7 = .ok (.putfield 15, 3) := by decide +kernel
theorem dX7_take_10 : decode cX7_take 10 = .ok (.aload_n 0, 1) := by decide +kernel
theorem dX7_take_11 : decode cX7_take 11 = .ok (.getfield 34, 3) := by decide +kernel
theorem dX7_take_14 : decode cX7_take 14 = .ok (.aload_n 0, 1) := by decide +kernel
theorem dX7_take_15 : decode cX7_take 15 = .ok (.getfield 25, 3) := by decide +kernel
theorem dX7_take_18 : decode cX7_take 18 = .ok (.iconst (-1), 1) := by decide +kernel
theorem dX7_take_19 : decode cX7_take 19 = .ok (.invokevirtual 38, 3) := by decide +kernel
theorem dX7_take_22 : decode cX7_take 22 = .ok (.return_, 1) := by decide +kernel
theorem dX7_bestOfAll_0 : decode cX7_bestOfAll 0 = .ok (.aload_n 0, 1) := by decide +kernel
theorem dX7_bestOfAll_1 : decode cX7_bestOfAll 1 = .ok (.getfield 15, 3) := by decide +kernel
theorem dX7_bestOfAll_4 : decode cX7_bestOfAll 4 = .ok (.iload_n 1, 1) := by decide +kernel
theorem dX7_bestOfAll_5 : decode cX7_bestOfAll 5 = .ok (.if_icmp .ne 8, 3) := by decide +kernel
theorem dX7_bestOfAll_8 : decode cX7_bestOfAll 8 = .ok (.aload_n 0, 1) := by decide +kernel
theorem dX7_bestOfAll_9 : decode cX7_bestOfAll 9 = .ok (.getfield 19, 3) := by decide +kernel
theorem dX7_bestOfAll_12 : decode cX7_bestOfAll 12 = .ok (.ireturn, 1) := by decide +kernel
theorem dX7_bestOfAll_13 : decode cX7_bestOfAll 13 = .ok (.aload_n 0, 1) := by decide +kernel
theorem dX7_bestOfAll_14 : decode cX7_bestOfAll 14 = .ok (.iload_n 1, 1) := by decide +kernel
theorem dX7_bestOfAll_15 : decode cX7_bestOfAll 15 = .ok (.putfield 15, 3) := by decide +kernel
theorem dX7_bestOfAll_18 : decode cX7_bestOfAll 18 = .ok (.bipush 8, 2) := by decide +kernel
theorem dX7_bestOfAll_20 : decode cX7_bestOfAll 20 = .ok (.istore_n 2, 1) := by decide +kernel
theorem dX7_bestOfAll_21 : decode cX7_bestOfAll 21 = .ok (.iconst 0, 1) := by decide +kernel
theorem dX7_bestOfAll_22 : decode cX7_bestOfAll 22 = .ok (.istore_n 3, 1) := by decide +kernel
theorem dX7_bestOfAll_23 : decode cX7_bestOfAll 23 = .ok (.iload_n 3, 1) := by decide +kernel
theorem dX7_bestOfAll_24 : decode cX7_bestOfAll 24 = .ok (.aload_n 0, 1) := by decide +kernel
theorem dX7_bestOfAll_25 : decode cX7_bestOfAll 25 = .ok (.getfield 25, 3) := by decide +kernel
theorem dX7_bestOfAll_28 : decode cX7_bestOfAll 28 = .ok (.getfield 42, 3) := by decide +kernel
theorem dX7_bestOfAll_31 : decode cX7_bestOfAll 31 = .ok (.if_icmp .ge 86, 3) := by decide +kernel
theorem dX7_bestOfAll_34 : decode cX7_bestOfAll 34 = .ok (.iload_n 2, 1) := by decide +kernel
theorem dX7_bestOfAll_35 : decode cX7_bestOfAll 35 = .ok (.iconst 1, 1) := by decide +kernel
theorem dX7_bestOfAll_36 : decode cX7_bestOfAll 36 = .ok (.if_icmp .le 81, 3) := by decide +kernel
theorem dX7_bestOfAll_39 : decode cX7_bestOfAll 39 = .ok (.aload_n 0, 1) := by decide +kernel
theorem dX7_bestOfAll_40 : decode cX7_bestOfAll 40 = .ok (.getfield 25, 3) := by decide +kernel
theorem dX7_bestOfAll_43 : decode cX7_bestOfAll 43 = .ok (.getfield 47, 3) := by decide +kernel
theorem dX7_bestOfAll_46 : decode cX7_bestOfAll 46 = .ok (.iload_n 3, 1) := by decide +kernel
theorem dX7_bestOfAll_47 : decode cX7_bestOfAll 47 = .ok (.iaload, 1) := by decide +kernel
theorem dX7_bestOfAll_48 : decode cX7_bestOfAll 48 = .ok (.istore 4, 2) := by decide +kernel
theorem dX7_bestOfAll_50 : decode cX7_bestOfAll 50 = .ok (.aload_n 0, 1) := by decide +kernel
theorem dX7_bestOfAll_51 : decode cX7_bestOfAll 51 = .ok (.getfield 34, 3) := by decide +kernel
theorem dX7_bestOfAll_54 : decode cX7_bestOfAll 54 = .ok (.iload 4, 2) := by decide +kernel
theorem dX7_bestOfAll_56 : decode cX7_bestOfAll 56 = .ok (.aload_n 0, 1) := by decide +kernel
theorem dX7_bestOfAll_57 : decode cX7_bestOfAll 57 = .ok (.getfield 25, 3) := by decide +kernel
theorem dX7_bestOfAll_60 : decode cX7_bestOfAll 60 = .ok (.getfield 50, 3) := by decide +kernel
theorem dX7_bestOfAll_63 : decode cX7_bestOfAll 63 = .ok (.iload_n 1, 1) := by decide +kernel
theorem dX7_bestOfAll_64 : decode cX7_bestOfAll 64 = .ok (.invokevirtual 53, 3) := by decide +kernel
theorem dX7_bestOfAll_67 : decode cX7_bestOfAll 67 = .ok (.iload_n 2, 1) := by decide +kernel
theorem dX7_bestOfAll_68 : decode cX7_bestOfAll 68 = .ok (.iconst 1, 1) := by decide +kernel
theorem dX7_bestOfAll_69 : decode cX7_bestOfAll 69 = .ok (.isub, 1) := by decide +kernel
theorem dX7_bestOfAll_70 : decode cX7_bestOfAll 70 = .ok (.istore 5, 2) := by decide +kernel
theorem dX7_bestOfAll_72 : decode cX7_bestOfAll 72 = .ok (.iload 5, 2) := by decide +kernel
theorem dX7_bestOfAll_74 : decode cX7_bestOfAll 74 = .ok (.ifCond .le 37, 3) := by decide +kernel
theorem dX7_bestOfAll_77 : decode cX7_bestOfAll 77 = .ok (.aload_n 0, 1) := by decide +kernel
theorem dX7_bestOfAll_78 : decode cX7_bestOfAll 78 = .ok (.getfield 34, 3) := by decide +kernel
theorem dX7_bestOfAll_81 : decode cX7_bestOfAll 81 = .ok (.aload_n 0, 1) := by decide +kernel
theorem dX7_bestOfAll_82 : decode cX7_bestOfAll 82 = .ok (.getfield 25, 3) := by decide +kernel
theorem dX7_bestOfAll_85 : decode cX7_bestOfAll 85 = .ok (.invokevirtual 57, 3) := by decide +kernel
theorem dX7_bestOfAll_88 : decode cX7_bestOfAll 88 = .ok (.iload 5, 2) := by decide +kernel
theorem dX7_bestOfAll_90 : decode cX7_bestOfAll 90 = .ok (.invokestatic 61, 3) := by decide +kernel
theorem dX7_bestOfAll_93 : decode cX7_bestOfAll 93 = .ok (.ifCond .eq 18, 3) := by decide +kernel
theorem dX7_bestOfAll_96 : decode cX7_bestOfAll 96 = .ok (.iload 5, 2) := by decide +kernel
theorem dX7_bestOfAll_98 : decode cX7_bestOfAll 98 = .ok (.istore_n 2, 1) := by decide +kernel
theorem dX7_bestOfAll_99 : decode cX7_bestOfAll 99 = .ok (.aload_n 0, 1) := by decide +kernel
theorem dX7_bestOfAll_100 : decode cX7_bestOfAll 100 = .ok (.iload 4, 2) := by decide +kernel
theorem dX7_bestOfAll_102 : decode cX7_bestOfAll 102 = .ok (.putfield 22, 3) := by decide +kernel
theorem dX7_bestOfAll_105 : decode cX7_bestOfAll 105 = .ok (.iinc 5 (-1), 3) := by decide +kernel
theorem dX7_bestOfAll_108 : decode cX7_bestOfAll 108 = .ok (.goto (-36), 3) := by decide +kernel
theorem dX7_bestOfAll_111 : decode cX7_bestOfAll 111 = .ok (.iinc 3 1, 3) := by decide +kernel
theorem dX7_bestOfAll_114 : decode cX7_bestOfAll 114 = .ok (.goto (-91), 3) := by decide +kernel
theorem dX7_bestOfAll_117 : decode cX7_bestOfAll 117 = .ok (.aload_n 0, 1) := by decide +kernel
theorem dX7_bestOfAll_118 : decode cX7_bestOfAll 118 = .ok (.iload_n 2, 1) := by decide +kernel
theorem dX7_bestOfAll_119 : decode cX7_bestOfAll 119 = .ok (.bipush 7, 2) := by decide +kernel
theorem dX7_bestOfAll_121 : decode cX7_bestOfAll 121 = .ok (.if_icmp .le 8, 3) := by decide +kernel
theorem dX7_bestOfAll_124 : decode cX7_bestOfAll 124 = .ok (.bipush (-2), 2) := by decide +kernel
theorem dX7_bestOfAll_126 : decode cX7_bestOfAll 126 = .ok (.goto 4, 3) := by decide +kernel
theorem dX7_bestOfAll_129 : decode cX7_bestOfAll 129 = .ok (.iload_n 2, 1) := by decide +kernel
theorem dX7_bestOfAll_130 : decode cX7_bestOfAll 130 = .ok (.putfield 19, 3) := by decide +kernel
theorem dX7_bestOfAll_133 : decode cX7_bestOfAll 133 = .ok (.aload_n 0, 1) := by decide +kernel
theorem dX7_bestOfAll_134 : decode cX7_bestOfAll 134 = .ok (.getfield 19, 3) := by decide +kernel
theorem dX7_bestOfAll_137 : decode cX7_bestOfAll 137 = .ok (.ireturn, 1) := by decide +kernel
theorem dX7_fewestIfReady_0 : decode cX7_fewestIfReady 0 = .ok (.aload_n 0, 1) := by decide +kernel
theorem dX7_fewestIfReady_1 : decode cX7_fewestIfReady 1 = .ok (.getfield 34, 3) := by decide +kernel
theorem dX7_fewestIfReady_4 : decode cX7_fewestIfReady 4 = .ok (.aload_n 0, 1) := by decide +kernel
theorem dX7_fewestIfReady_5 : decode cX7_fewestIfReady 5 = .ok (.getfield 25, 3) := by decide +kernel
theorem dX7_fewestIfReady_8 : decode cX7_fewestIfReady 8 = .ok (.iload_n 1, 1) := by decide +kernel
theorem dX7_fewestIfReady_9 : decode cX7_fewestIfReady 9 = .ok (.invokevirtual 38, 3) := by decide +kernel
theorem dX7_fewestIfReady_12 : decode cX7_fewestIfReady 12 = .ok (.aload_n 0, 1) := by decide +kernel
theorem dX7_fewestIfReady_13 : decode cX7_fewestIfReady 13 = .ok (.getfield 34, 3) := by decide +kernel
theorem dX7_fewestIfReady_16 : decode cX7_fewestIfReady 16 = .ok (.iload_n 2, 1) := by decide +kernel
theorem dX7_fewestIfReady_17 : decode cX7_fewestIfReady 17 = .ok (.aload_n 0, 1) := by decide +kernel
theorem dX7_fewestIfReady_18 : decode cX7_fewestIfReady 18 = .ok (.getfield 25, 3) := by decide +kernel
theorem dX7_fewestIfReady_21 : decode cX7_fewestIfReady 21 = .ok (.getfield 50, 3) := by decide +kernel
theorem dX7_fewestIfReady_24 : decode cX7_fewestIfReady 24 = .ok (.iload_n 3, 1) := by decide +kernel
theorem dX7_fewestIfReady_25 : decode cX7_fewestIfReady 25 = .ok (.invokevirtual 53, 3) := by decide +kernel
theorem dX7_fewestIfReady_28 : decode cX7_fewestIfReady 28 = .ok (.aload_n 0, 1) := by decide +kernel
theorem dX7_fewestIfReady_29 : decode cX7_fewestIfReady 29 = .ok (.getfield 34, 3) := by decide +kernel
theorem dX7_fewestIfReady_32 : decode cX7_fewestIfReady 32 = .ok (.aload_n 0, 1) := by decide +kernel
theorem dX7_fewestIfReady_33 : decode cX7_fewestIfReady 33 = .ok (.getfield 25, 3) := by decide +kernel
theorem dX7_fewestIfReady_36 : decode cX7_fewestIfReady 36 = .ok (.invokevirtual 57, 3) := by decide +kernel
theorem dX7_fewestIfReady_39 : decode cX7_fewestIfReady 39 = .ok (.invokevirtual 67, 3) := by decide +kernel
theorem dX7_fewestIfReady_42 : decode cX7_fewestIfReady 42 = .ok (.istore 4, 2) := by decide +kernel
theorem dX7_fewestIfReady_44 : decode cX7_fewestIfReady 44 = .ok (.aload_n 0, 1) := by decide +kernel
theorem dX7_fewestIfReady_45 : decode cX7_fewestIfReady 45 = .ok (.getfield 34, 3) := by decide +kernel
theorem dX7_fewestIfReady_48 : decode cX7_fewestIfReady 48 = .ok (.aload_n 0, 1) := by decide +kernel
theorem dX7_fewestIfReady_49 : decode cX7_fewestIfReady 49 = .ok (.getfield 25, 3) := by decide +kernel
theorem dX7_fewestIfReady_52 : decode cX7_fewestIfReady 52 = .ok (.iconst (-1), 1) := by decide +kernel
theorem dX7_fewestIfReady_53 : decode cX7_fewestIfReady 53 = .ok (.invokevirtual 38, 3) := by decide +kernel
theorem dX7_fewestIfReady_56 : decode cX7_fewestIfReady 56 = .ok (.iload 4, 2) := by decide +kernel
theorem dX7_fewestIfReady_58 : decode cX7_fewestIfReady 58 = .ok (.ireturn, 1) := by decide +kernel
theorem dX7_goes_0 : decode cX7_goes 0 = .ok (.aload_n 0, 1) := by decide +kernel
theorem dX7_goes_1 : decode cX7_goes 1 = .ok (.getfield 34, 3) := by decide +kernel
theorem dX7_goes_4 : decode cX7_goes 4 = .ok (.iload_n 1, 1) := by decide +kernel
theorem dX7_goes_5 : decode cX7_goes 5 = .ok (.iload_n 2, 1) := by decide +kernel
theorem dX7_goes_6 : decode cX7_goes 6 = .ok (.iload_n 3, 1) := by decide +kernel
theorem dX7_goes_7 : decode cX7_goes 7 = .ok (.invokevirtual 53, 3) := by decide +kernel
theorem dX7_goes_10 : decode cX7_goes 10 = .ok (.aload_n 0, 1) := by decide +kernel
theorem dX7_goes_11 : decode cX7_goes 11 = .ok (.getfield 34, 3) := by decide +kernel
theorem dX7_goes_14 : decode cX7_goes 14 = .ok (.aload_n 0, 1) := by decide +kernel
theorem dX7_goes_15 : decode cX7_goes 15 = .ok (.getfield 25, 3) := by decide +kernel
theorem dX7_goes_18 : decode cX7_goes 18 = .ok (.invokevirtual 57, 3) := by decide +kernel
theorem dX7_goes_21 : decode cX7_goes 21 = .ok (.aload_n 0, 1) := by decide +kernel
theorem dX7_goes_22 : decode cX7_goes 22 = .ok (.getfield 25, 3) := by decide +kernel
theorem dX7_goes_25 : decode cX7_goes 25 = .ok (.getfield 71, 3) := by decide +kernel
theorem dX7_goes_28 : decode cX7_goes 28 = .ok (.invokestatic 61, 3) := by decide +kernel
theorem dX7_goes_31 : decode cX7_goes 31 = .ok (.ireturn, 1) := by decide +kernel
theorem dX7_leastGap_0 : decode cX7_leastGap 0 = .ok (.aload_n 0, 1) := by decide +kernel
theorem dX7_leastGap_1 : decode cX7_leastGap 1 = .ok (.iload_n 1, 1) := by decide +kernel
theorem dX7_leastGap_2 : decode cX7_leastGap 2 = .ok (.bipush 99, 2) := by decide +kernel
theorem dX7_leastGap_4 : decode cX7_leastGap 4 = .ok (.iload_n 2, 1) := by decide +kernel
theorem dX7_leastGap_5 : decode cX7_leastGap 5 = .ok (.invokevirtual 74, 3) := by decide +kernel
theorem dX7_leastGap_8 : decode cX7_leastGap 8 = .ok (.ifCond .ne 6, 3) := by decide +kernel
theorem dX7_leastGap_11 : decode cX7_leastGap 11 = .ok (.bipush (-2), 2) := by decide +kernel
theorem dX7_leastGap_13 : decode cX7_leastGap 13 = .ok (.ireturn, 1) := by decide +kernel
theorem dX7_leastGap_14 : decode cX7_leastGap 14 = .ok (.iconst (-1), 1) := by decide +kernel
theorem dX7_leastGap_15 : decode cX7_leastGap 15 = .ok (.istore_n 3, 1) := by decide +kernel
theorem dX7_leastGap_16 : decode cX7_leastGap 16 = .ok (.bipush 64, 2) := by decide +kernel
theorem dX7_leastGap_18 : decode cX7_leastGap 18 = .ok (.istore 4, 2) := by decide +kernel
theorem dX7_leastGap_20 : decode cX7_leastGap 20 = .ok (.iload 4, 2) := by decide +kernel
theorem dX7_leastGap_22 : decode cX7_leastGap 22 = .ok (.ifCond .le 39, 3) := by decide +kernel
theorem dX7_leastGap_25 : decode cX7_leastGap 25 = .ok (.iload_n 3, 1) := by decide +kernel
theorem dX7_leastGap_26 : decode cX7_leastGap 26 = .ok (.iload 4, 2) := by decide +kernel
theorem dX7_leastGap_28 : decode cX7_leastGap 28 = .ok (.iadd, 1) := by decide +kernel
theorem dX7_leastGap_29 : decode cX7_leastGap 29 = .ok (.istore 5, 2) := by decide +kernel
theorem dX7_leastGap_31 : decode cX7_leastGap 31 = .ok (.iload 5, 2) := by decide +kernel
theorem dX7_leastGap_33 : decode cX7_leastGap 33 = .ok (.bipush 99, 2) := by decide +kernel
theorem dX7_leastGap_35 : decode cX7_leastGap 35 = .ok (.if_icmp .ge 17, 3) := by decide +kernel
theorem dX7_leastGap_38 : decode cX7_leastGap 38 = .ok (.aload_n 0, 1) := by decide +kernel
theorem dX7_leastGap_39 : decode cX7_leastGap 39 = .ok (.iload_n 1, 1) := by decide +kernel
theorem dX7_leastGap_40 : decode cX7_leastGap 40 = .ok (.iload 5, 2) := by decide +kernel
theorem dX7_leastGap_42 : decode cX7_leastGap 42 = .ok (.iload_n 2, 1) := by decide +kernel
theorem dX7_leastGap_43 : decode cX7_leastGap 43 = .ok (.invokevirtual 74, 3) := by decide +kernel
theorem dX7_leastGap_46 : decode cX7_leastGap 46 = .ok (.ifCond .ne 6, 3) := by decide +kernel
theorem dX7_leastGap_49 : decode cX7_leastGap 49 = .ok (.iload 5, 2) := by decide +kernel
theorem dX7_leastGap_51 : decode cX7_leastGap 51 = .ok (.istore_n 3, 1) := by decide +kernel
theorem dX7_leastGap_52 : decode cX7_leastGap 52 = .ok (.iload 4, 2) := by decide +kernel
theorem dX7_leastGap_54 : decode cX7_leastGap 54 = .ok (.iconst 2, 1) := by decide +kernel
theorem dX7_leastGap_55 : decode cX7_leastGap 55 = .ok (.idiv, 1) := by decide +kernel
theorem dX7_leastGap_56 : decode cX7_leastGap 56 = .ok (.istore 4, 2) := by decide +kernel
theorem dX7_leastGap_58 : decode cX7_leastGap 58 = .ok (.goto (-38), 3) := by decide +kernel
theorem dX7_leastGap_61 : decode cX7_leastGap 61 = .ok (.iload_n 3, 1) := by decide +kernel
theorem dX7_leastGap_62 : decode cX7_leastGap 62 = .ok (.iconst 1, 1) := by decide +kernel
theorem dX7_leastGap_63 : decode cX7_leastGap 63 = .ok (.iadd, 1) := by decide +kernel
theorem dX7_leastGap_64 : decode cX7_leastGap 64 = .ok (.ireturn, 1) := by decide +kernel
theorem dX7_fewestSwaps_0 : decode cX7_fewestSwaps 0 = .ok (.iconst 0, 1) := by decide +kernel
theorem dX7_fewestSwaps_1 : decode cX7_fewestSwaps 1 = .ok (.istore_n 3, 1) := by decide +kernel
theorem dX7_fewestSwaps_2 : decode cX7_fewestSwaps 2 = .ok (.iload_n 3, 1) := by decide +kernel
theorem dX7_fewestSwaps_3 : decode cX7_fewestSwaps 3 = .ok (.aload_n 0, 1) := by decide +kernel
theorem dX7_fewestSwaps_4 : decode cX7_fewestSwaps 4 = .ok (.getfield 25, 3) := by decide +kernel
theorem dX7_fewestSwaps_7 : decode cX7_fewestSwaps 7 = .ok (.getfield 42, 3) := by decide +kernel
theorem dX7_fewestSwaps_10 : decode cX7_fewestSwaps 10 = .ok (.if_icmp .ge 33, 3) := by decide +kernel
theorem dX7_fewestSwaps_13 : decode cX7_fewestSwaps 13 = .ok (.aload_n 0, 1) := by decide +kernel
theorem dX7_fewestSwaps_14 : decode cX7_fewestSwaps 14 = .ok (.getfield 9, 3) := by decide +kernel
theorem dX7_fewestSwaps_17 : decode cX7_fewestSwaps 17 = .ok (.iload_n 3, 1) := by decide +kernel
theorem dX7_fewestSwaps_18 : decode cX7_fewestSwaps 18 = .ok (.aload_n 0, 1) := by decide +kernel
theorem dX7_fewestSwaps_19 : decode cX7_fewestSwaps 19 = .ok (.getfield 25, 3) := by decide +kernel
theorem dX7_fewestSwaps_22 : decode cX7_fewestSwaps 22 = .ok (.getfield 47, 3) := by decide +kernel
theorem dX7_fewestSwaps_25 : decode cX7_fewestSwaps 25 = .ok (.iload_n 3, 1) := by decide +kernel
theorem dX7_fewestSwaps_26 : decode cX7_fewestSwaps 26 = .ok (.iaload, 1) := by decide +kernel
theorem dX7_fewestSwaps_27 : decode cX7_fewestSwaps 27 = .ok (.iload_n 1, 1) := by decide +kernel
theorem dX7_fewestSwaps_28 : decode cX7_fewestSwaps 28 = .ok (.if_icmp .ne 7, 3) := by decide +kernel
theorem dX7_fewestSwaps_31 : decode cX7_fewestSwaps 31 = .ok (.iconst 0, 1) := by decide +kernel
theorem dX7_fewestSwaps_32 : decode cX7_fewestSwaps 32 = .ok (.goto 4, 3) := by decide +kernel
theorem dX7_fewestSwaps_35 : decode cX7_fewestSwaps 35 = .ok (.iconst (-1), 1) := by decide +kernel
theorem dX7_fewestSwaps_36 : decode cX7_fewestSwaps 36 = .ok (.iastore, 1) := by decide +kernel
theorem dX7_fewestSwaps_37 : decode cX7_fewestSwaps 37 = .ok (.iinc 3 1, 3) := by decide +kernel
theorem dX7_fewestSwaps_40 : decode cX7_fewestSwaps 40 = .ok (.goto (-38), 3) := by decide +kernel
theorem dX7_fewestSwaps_43 : decode cX7_fewestSwaps 43 = .ok (.iconst 0, 1) := by decide +kernel
theorem dX7_fewestSwaps_44 : decode cX7_fewestSwaps 44 = .ok (.istore_n 3, 1) := by decide +kernel
theorem dX7_fewestSwaps_45 : decode cX7_fewestSwaps 45 = .ok (.iload_n 3, 1) := by decide +kernel
theorem dX7_fewestSwaps_46 : decode cX7_fewestSwaps 46 = .ok (.bipush 120, 2) := by decide +kernel
theorem dX7_fewestSwaps_48 : decode cX7_fewestSwaps 48 = .ok (.if_icmp .ge 79, 3) := by decide +kernel
theorem dX7_fewestSwaps_51 : decode cX7_fewestSwaps 51 = .ok (.iconst 0, 1) := by decide +kernel
theorem dX7_fewestSwaps_52 : decode cX7_fewestSwaps 52 = .ok (.istore 4, 2) := by decide +kernel
theorem dX7_fewestSwaps_54 : decode cX7_fewestSwaps 54 = .ok (.iload 4, 2) := by decide +kernel
theorem dX7_fewestSwaps_56 : decode cX7_fewestSwaps 56 = .ok (.aload_n 0, 1) := by decide +kernel
theorem dX7_fewestSwaps_57 : decode cX7_fewestSwaps 57 = .ok (.getfield 25, 3) := by decide +kernel
theorem dX7_fewestSwaps_60 : decode cX7_fewestSwaps 60 = .ok (.getfield 42, 3) := by decide +kernel
theorem dX7_fewestSwaps_63 : decode cX7_fewestSwaps 63 = .ok (.if_icmp .ge 47, 3) := by decide +kernel
theorem dX7_fewestSwaps_66 : decode cX7_fewestSwaps 66 = .ok (.aload_n 0, 1) := by decide +kernel
theorem dX7_fewestSwaps_67 : decode cX7_fewestSwaps 67 = .ok (.getfield 9, 3) := by decide +kernel
theorem dX7_fewestSwaps_70 : decode cX7_fewestSwaps 70 = .ok (.iload 4, 2) := by decide +kernel
theorem dX7_fewestSwaps_72 : decode cX7_fewestSwaps 72 = .ok (.iaload, 1) := by decide +kernel
theorem dX7_fewestSwaps_73 : decode cX7_fewestSwaps 73 = .ok (.iload_n 3, 1) := by decide +kernel
theorem dX7_fewestSwaps_74 : decode cX7_fewestSwaps 74 = .ok (.if_icmp .ne 30, 3) := by decide +kernel
theorem dX7_fewestSwaps_77 : decode cX7_fewestSwaps 77 = .ok (.aload_n 0, 1) := by decide +kernel
theorem dX7_fewestSwaps_78 : decode cX7_fewestSwaps 78 = .ok (.aload_n 0, 1) := by decide +kernel
theorem dX7_fewestSwaps_79 : decode cX7_fewestSwaps 79 = .ok (.getfield 25, 3) := by decide +kernel
theorem dX7_fewestSwaps_82 : decode cX7_fewestSwaps 82 = .ok (.getfield 47, 3) := by decide +kernel
theorem dX7_fewestSwaps_85 : decode cX7_fewestSwaps 85 = .ok (.iload 4, 2) := by decide +kernel
theorem dX7_fewestSwaps_87 : decode cX7_fewestSwaps 87 = .ok (.iaload, 1) := by decide +kernel
theorem dX7_fewestSwaps_88 : decode cX7_fewestSwaps 88 = .ok (.aload_n 0, 1) := by decide +kernel
theorem dX7_fewestSwaps_89 : decode cX7_fewestSwaps 89 = .ok (.getfield 25, 3) := by decide +kernel
theorem dX7_fewestSwaps_92 : decode cX7_fewestSwaps 92 = .ok (.getfield 50, 3) := by decide +kernel
theorem dX7_fewestSwaps_95 : decode cX7_fewestSwaps 95 = .ok (.iload_n 2, 1) := by decide +kernel
theorem dX7_fewestSwaps_96 : decode cX7_fewestSwaps 96 = .ok (.invokevirtual 74, 3) := by decide +kernel
theorem dX7_fewestSwaps_99 : decode cX7_fewestSwaps 99 = .ok (.ifCond .eq 5, 3) := by decide +kernel
theorem dX7_fewestSwaps_102 : decode cX7_fewestSwaps 102 = .ok (.iload_n 3, 1) := by decide +kernel
theorem dX7_fewestSwaps_103 : decode cX7_fewestSwaps 103 = .ok (.ireturn, 1) := by decide +kernel
theorem dX7_fewestSwaps_104 : decode cX7_fewestSwaps 104 = .ok (.iinc 4 1, 3) := by decide +kernel
theorem dX7_fewestSwaps_107 : decode cX7_fewestSwaps 107 = .ok (.goto (-53), 3) := by decide +kernel
theorem dX7_fewestSwaps_110 : decode cX7_fewestSwaps 110 = .ok (.aload_n 0, 1) := by decide +kernel
theorem dX7_fewestSwaps_111 : decode cX7_fewestSwaps 111 = .ok (.iload_n 3, 1) := by decide +kernel
theorem dX7_fewestSwaps_112 : decode cX7_fewestSwaps 112 = .ok (.invokevirtual 78, 3) := by decide +kernel
theorem dX7_fewestSwaps_115 : decode cX7_fewestSwaps 115 = .ok (.ifCond .ne 6, 3) := by decide +kernel
theorem dX7_fewestSwaps_118 : decode cX7_fewestSwaps 118 = .ok (.bipush (-2), 2) := by decide +kernel
theorem dX7_fewestSwaps_120 : decode cX7_fewestSwaps 120 = .ok (.ireturn, 1) := by decide +kernel
theorem dX7_fewestSwaps_121 : decode cX7_fewestSwaps 121 = .ok (.iinc 3 1, 3) := by decide +kernel
theorem dX7_fewestSwaps_124 : decode cX7_fewestSwaps 124 = .ok (.goto (-79), 3) := by decide +kernel
theorem dX7_fewestSwaps_127 : decode cX7_fewestSwaps 127 = .ok (.bipush (-2), 2) := by decide +kernel
theorem dX7_fewestSwaps_129 : decode cX7_fewestSwaps 129 = .ok (.ireturn, 1) := by decide +kernel
theorem dX7_reachMore_0 : decode cX7_reachMore 0 = .ok (.iconst 0, 1) := by decide +kernel
theorem dX7_reachMore_1 : decode cX7_reachMore 1 = .ok (.istore_n 2, 1) := by decide +kernel
theorem dX7_reachMore_2 : decode cX7_reachMore 2 = .ok (.iconst 0, 1) := by decide +kernel
theorem dX7_reachMore_3 : decode cX7_reachMore 3 = .ok (.istore_n 3, 1) := by decide +kernel
theorem dX7_reachMore_4 : decode cX7_reachMore 4 = .ok (.iload_n 3, 1) := by decide +kernel
theorem dX7_reachMore_5 : decode cX7_reachMore 5 = .ok (.aload_n 0, 1) := by decide +kernel
theorem dX7_reachMore_6 : decode cX7_reachMore 6 = .ok (.getfield 25, 3) := by decide +kernel
theorem dX7_reachMore_9 : decode cX7_reachMore 9 = .ok (.getfield 42, 3) := by decide +kernel
theorem dX7_reachMore_12 : decode cX7_reachMore 12 = .ok (.if_icmp .ge 89, 3) := by decide +kernel
theorem dX7_reachMore_15 : decode cX7_reachMore 15 = .ok (.iconst 0, 1) := by decide +kernel
theorem dX7_reachMore_16 : decode cX7_reachMore 16 = .ok (.istore 4, 2) := by decide +kernel
theorem dX7_reachMore_18 : decode cX7_reachMore 18 = .ok (.aload_n 0, 1) := by decide +kernel
theorem dX7_reachMore_19 : decode cX7_reachMore 19 = .ok (.getfield 9, 3) := by decide +kernel
theorem dX7_reachMore_22 : decode cX7_reachMore 22 = .ok (.iload_n 3, 1) := by decide +kernel
theorem dX7_reachMore_23 : decode cX7_reachMore 23 = .ok (.iaload, 1) := by decide +kernel
theorem dX7_reachMore_24 : decode cX7_reachMore 24 = .ok (.iload_n 1, 1) := by decide +kernel
theorem dX7_reachMore_25 : decode cX7_reachMore 25 = .ok (.if_icmp .ne 70, 3) := by decide +kernel
theorem dX7_reachMore_28 : decode cX7_reachMore 28 = .ok (.iload 4, 2) := by decide +kernel
theorem dX7_reachMore_30 : decode cX7_reachMore 30 = .ok (.aload_n 0, 1) := by decide +kernel
theorem dX7_reachMore_31 : decode cX7_reachMore 31 = .ok (.getfield 25, 3) := by decide +kernel
theorem dX7_reachMore_34 : decode cX7_reachMore 34 = .ok (.getfield 42, 3) := by decide +kernel
theorem dX7_reachMore_37 : decode cX7_reachMore 37 = .ok (.if_icmp .ge 58, 3) := by decide +kernel
theorem dX7_reachMore_40 : decode cX7_reachMore 40 = .ok (.aload_n 0, 1) := by decide +kernel
theorem dX7_reachMore_41 : decode cX7_reachMore 41 = .ok (.getfield 9, 3) := by decide +kernel
theorem dX7_reachMore_44 : decode cX7_reachMore 44 = .ok (.iload 4, 2) := by decide +kernel
theorem dX7_reachMore_46 : decode cX7_reachMore 46 = .ok (.iaload, 1) := by decide +kernel
theorem dX7_reachMore_47 : decode cX7_reachMore 47 = .ok (.iconst (-1), 1) := by decide +kernel
theorem dX7_reachMore_48 : decode cX7_reachMore 48 = .ok (.if_icmp .ne 41, 3) := by decide +kernel
theorem dX7_reachMore_51 : decode cX7_reachMore 51 = .ok (.aload_n 0, 1) := by decide +kernel
theorem dX7_reachMore_52 : decode cX7_reachMore 52 = .ok (.aload_n 0, 1) := by decide +kernel
theorem dX7_reachMore_53 : decode cX7_reachMore 53 = .ok (.getfield 25, 3) := by decide +kernel
theorem dX7_reachMore_56 : decode cX7_reachMore 56 = .ok (.getfield 47, 3) := by decide +kernel
theorem dX7_reachMore_59 : decode cX7_reachMore 59 = .ok (.iload_n 3, 1) := by decide +kernel
theorem dX7_reachMore_60 : decode cX7_reachMore 60 = .ok (.iaload, 1) := by decide +kernel
theorem dX7_reachMore_61 : decode cX7_reachMore 61 = .ok (.aload_n 0, 1) := by decide +kernel
theorem dX7_reachMore_62 : decode cX7_reachMore 62 = .ok (.getfield 25, 3) := by decide +kernel
theorem dX7_reachMore_65 : decode cX7_reachMore 65 = .ok (.getfield 47, 3) := by decide +kernel
theorem dX7_reachMore_68 : decode cX7_reachMore 68 = .ok (.iload 4, 2) := by decide +kernel
theorem dX7_reachMore_70 : decode cX7_reachMore 70 = .ok (.iaload, 1) := by decide +kernel
theorem dX7_reachMore_71 : decode cX7_reachMore 71 = .ok (.invokevirtual 82, 3) := by decide +kernel
theorem dX7_reachMore_74 : decode cX7_reachMore 74 = .ok (.ifCond .eq 15, 3) := by decide +kernel
theorem dX7_reachMore_77 : decode cX7_reachMore 77 = .ok (.aload_n 0, 1) := by decide +kernel
theorem dX7_reachMore_78 : decode cX7_reachMore 78 = .ok (.getfield 9, 3) := by decide +kernel
theorem dX7_reachMore_81 : decode cX7_reachMore 81 = .ok (.iload 4, 2) := by decide +kernel
theorem dX7_reachMore_83 : decode cX7_reachMore 83 = .ok (.iload_n 1, 1) := by decide +kernel
theorem dX7_reachMore_84 : decode cX7_reachMore 84 = .ok (.iconst 1, 1) := by decide +kernel
theorem dX7_reachMore_85 : decode cX7_reachMore 85 = .ok (.iadd, 1) := by decide +kernel
theorem dX7_reachMore_86 : decode cX7_reachMore 86 = .ok (.iastore, 1) := by decide +kernel
theorem dX7_reachMore_87 : decode cX7_reachMore 87 = .ok (.iconst 1, 1) := by decide +kernel
theorem dX7_reachMore_88 : decode cX7_reachMore 88 = .ok (.istore_n 2, 1) := by decide +kernel
theorem dX7_reachMore_89 : decode cX7_reachMore 89 = .ok (.iinc 4 1, 3) := by decide +kernel
theorem dX7_reachMore_92 : decode cX7_reachMore 92 = .ok (.goto (-74), 3) := by decide +kernel
theorem dX7_reachMore_95 : decode cX7_reachMore 95 = .ok (.iinc 3 1, 3) := by decide +kernel
theorem dX7_reachMore_98 : decode cX7_reachMore 98 = .ok (.goto (-94), 3) := by decide +kernel
theorem dX7_reachMore_101 : decode cX7_reachMore 101 = .ok (.iload_n 2, 1) := by decide +kernel
theorem dX7_reachMore_102 : decode cX7_reachMore 102 = .ok (.ireturn, 1) := by decide +kernel
theorem dX7_isOneSwap_0 : decode cX7_isOneSwap 0 = .ok (.iconst 0, 1) := by decide +kernel
theorem dX7_isOneSwap_1 : decode cX7_isOneSwap 1 = .ok (.istore_n 3, 1) := by decide +kernel
theorem dX7_isOneSwap_2 : decode cX7_isOneSwap 2 = .ok (.iconst 0, 1) := by decide +kernel
theorem dX7_isOneSwap_3 : decode cX7_isOneSwap 3 = .ok (.istore 4, 2) := by decide +kernel
theorem dX7_isOneSwap_5 : decode cX7_isOneSwap 5 = .ok (.iload 4, 2) := by decide +kernel
theorem dX7_isOneSwap_7 : decode cX7_isOneSwap 7 = .ok (.aload_n 0, 1) := by decide +kernel
theorem dX7_isOneSwap_8 : decode cX7_isOneSwap 8 = .ok (.getfield 25, 3) := by decide +kernel
theorem dX7_isOneSwap_11 : decode cX7_isOneSwap 11 = .ok (.getfield 86, 3) := by decide +kernel
theorem dX7_isOneSwap_14 : decode cX7_isOneSwap 14 = .ok (.if_icmp .ge 27, 3) := by decide +kernel
theorem dX7_isOneSwap_17 : decode cX7_isOneSwap 17 = .ok (.iload_n 1, 1) := by decide +kernel
theorem dX7_isOneSwap_18 : decode cX7_isOneSwap 18 = .ok (.iload 4, 2) := by decide +kernel
theorem dX7_isOneSwap_20 : decode cX7_isOneSwap 20 = .ok (.invokestatic 89, 3) := by decide +kernel
theorem dX7_isOneSwap_23 : decode cX7_isOneSwap 23 = .ok (.iload_n 2, 1) := by decide +kernel
theorem dX7_isOneSwap_24 : decode cX7_isOneSwap 24 = .ok (.iload 4, 2) := by decide +kernel
theorem dX7_isOneSwap_26 : decode cX7_isOneSwap 26 = .ok (.invokestatic 89, 3) := by decide +kernel
theorem dX7_isOneSwap_29 : decode cX7_isOneSwap 29 = .ok (.if_icmp .eq 6, 3) := by decide +kernel
theorem dX7_isOneSwap_32 : decode cX7_isOneSwap 32 = .ok (.iinc 3 1, 3) := by decide +kernel
theorem dX7_isOneSwap_35 : decode cX7_isOneSwap 35 = .ok (.iinc 4 1, 3) := by decide +kernel
theorem dX7_isOneSwap_38 : decode cX7_isOneSwap 38 = .ok (.goto (-33), 3) := by decide +kernel
theorem dX7_isOneSwap_41 : decode cX7_isOneSwap 41 = .ok (.iload_n 3, 1) := by decide +kernel
theorem dX7_isOneSwap_42 : decode cX7_isOneSwap 42 = .ok (.iconst 2, 1) := by decide +kernel
theorem dX7_isOneSwap_43 : decode cX7_isOneSwap 43 = .ok (.if_icmp .ne 7, 3) := by decide +kernel
theorem dX7_isOneSwap_46 : decode cX7_isOneSwap 46 = .ok (.iconst 1, 1) := by decide +kernel
theorem dX7_isOneSwap_47 : decode cX7_isOneSwap 47 = .ok (.goto 4, 3) := by decide +kernel
theorem dX7_isOneSwap_50 : decode cX7_isOneSwap 50 = .ok (.iconst 0, 1) := by decide +kernel
theorem dX7_isOneSwap_51 : decode cX7_isOneSwap 51 = .ok (.ireturn, 1) := by decide +kernel
theorem dX8_init_0 : decode cX8_init 0 = .ok (.aload_n 0, 1) := by decide +kernel
theorem dX8_init_1 : decode cX8_init 1 = .ok (.invokespecial 3, 3) := by decide +kernel
theorem dX8_init_4 : decode cX8_init 4 = .ok (.aload_n 0, 1) := by decide +kernel
theorem dX8_init_5 : decode cX8_init 5 = .ok (.bipush 7, 2) := by decide +kernel
theorem dX8_init_7 : decode cX8_init 7 = .ok (.newarray .int, 2) := by decide +kernel
theorem dX8_init_9 : decode cX8_init 9 = .ok (.putfield 9, 3) := by decide +kernel
theorem dX8_init_12 : decode cX8_init 12 = .ok (.aload_n 0, 1) := by decide +kernel
theorem dX8_init_13 : decode cX8_init 13 = .ok (.aload_n 1, 1) := by decide +kernel
theorem dX8_init_14 : decode cX8_init 14 = .ok (.putfield 15, 3) := by decide +kernel
theorem dX8_init_17 : decode cX8_init 17 = .ok (.return_, 1) := by decide +kernel
theorem dX8_take_0 : decode cX8_take 0 = .ok (.aload_n 0, 1) := by decide +kernel
theorem dX8_take_1 : decode cX8_take 1 = .ok (.aload_n 1, 1) := by decide +kernel
theorem dX8_take_2 : decode cX8_take 2 = .ok (.putfield 15, 3) := by decide +kernel
theorem dX8_take_5 : decode cX8_take 5 = .ok (.aload_n 0, 1) := by decide +kernel
theorem dX8_take_6 : decode cX8_take 6 = .ok (.invokevirtual 19, 3) := by decide +kernel
theorem dX8_take_9 : decode cX8_take 9 = .ok (.iconst 0, 1) := by decide +kernel
theorem dX8_take_10 : decode cX8_take 10 = .ok (.istore_n 2, 1) := by decide +kernel
theorem dX8_take_11 : decode cX8_take 11 = .ok (.iload_n 2, 1) := by decide +kernel
theorem dX8_take_12 : decode cX8_take 12 = .ok (.aload_n 0, 1) := by decide +kernel
theorem dX8_take_13 : decode cX8_take 13 = .ok (.getfield 15, 3) := by decide +kernel
theorem dX8_take_16 : decode cX8_take 16 = .ok (.getfield 22, 3) := by decide +kernel
theorem dX8_take_19 : decode cX8_take 19 = .ok (.if_icmp .ge 62, 3) := by decide +kernel
theorem dX8_take_22 : decode cX8_take 22 = .ok (.iload_n 2, 1) := by decide +kernel
theorem dX8_take_23 : decode cX8_take 23 = .ok (.istore_n 3, 1) := by decide +kernel
theorem dX8_take_24 : decode cX8_take 24 = .ok (.iload_n 3, 1) := by decide +kernel
theorem dX8_take_25 : decode cX8_take 25 = .ok (.ifCond .le 43, 3) := by decide +kernel
theorem dX8_take_28 : decode cX8_take 28 = .ok (.aload_n 0, 1) := by decide +kernel
theorem dX8_take_29 : decode cX8_take 29 = .ok (.aload_n 0, 1) := by decide +kernel
theorem dX8_take_30 : decode cX8_take 30 = .ok (.getfield 9, 3) := by decide +kernel
theorem dX8_take_33 : decode cX8_take 33 = .ok (.iload_n 3, 1) := by decide +kernel
theorem dX8_take_34 : decode cX8_take 34 = .ok (.iconst 1, 1) := by decide +kernel
theorem dX8_take_35 : decode cX8_take 35 = .ok (.isub, 1) := by decide +kernel
theorem dX8_take_36 : decode cX8_take 36 = .ok (.iaload, 1) := by decide +kernel
theorem dX8_take_37 : decode cX8_take 37 = .ok (.invokevirtual 28, 3) := by decide +kernel
theorem dX8_take_40 : decode cX8_take 40 = .ok (.aload_n 0, 1) := by decide +kernel
theorem dX8_take_41 : decode cX8_take 41 = .ok (.iload_n 2, 1) := by decide +kernel
theorem dX8_take_42 : decode cX8_take 42 = .ok (.invokevirtual 28, 3) := by decide +kernel
theorem dX8_take_45 : decode cX8_take 45 = .ok (.if_icmp .le 23, 3) := by decide +kernel
theorem dX8_take_48 : decode cX8_take 48 = .ok (.aload_n 0, 1) := by decide +kernel
theorem dX8_take_49 : decode cX8_take 49 = .ok (.getfield 9, 3) := by decide +kernel
theorem dX8_take_52 : decode cX8_take 52 = .ok (.iload_n 3, 1) := by decide +kernel
theorem dX8_take_53 : decode cX8_take 53 = .ok (.aload_n 0, 1) := by decide +kernel
theorem dX8_take_54 : decode cX8_take 54 = .ok (.getfield 9, 3) := by decide +kernel
theorem dX8_take_57 : decode cX8_take 57 = .ok (.iload_n 3, 1) := by decide +kernel
theorem dX8_take_58 : decode cX8_take 58 = .ok (.iconst 1, 1) := by decide +kernel
theorem dX8_take_59 : decode cX8_take 59 = .ok (.isub, 1) := by decide +kernel
theorem dX8_take_60 : decode cX8_take 60 = .ok (.iaload, 1) := by decide +kernel
theorem dX8_take_61 : decode cX8_take 61 = .ok (.iastore, 1) := by decide +kernel
theorem dX8_take_62 : decode cX8_take 62 = .ok (.iinc 3 (-1), 3) := by decide +kernel
theorem dX8_take_65 : decode cX8_take 65 = .ok (.goto (-41), 3) := by decide +kernel
theorem dX8_take_68 : decode cX8_take 68 = .ok (.aload_n 0, 1) := by decide +kernel
theorem dX8_take_69 : decode cX8_take 69 = .ok (.getfield 9, 3) := by decide +kernel
theorem dX8_take_72 : decode cX8_take 72 = .ok (.iload_n 3, 1) := by decide +kernel
theorem dX8_take_73 : decode cX8_take 73 = .ok (.iload_n 2, 1) := by decide +kernel
theorem dX8_take_74 : decode cX8_take 74 = .ok (.iastore, 1) := by decide +kernel
theorem dX8_take_75 : decode cX8_take 75 = .ok (.iinc 2 1, 3) := by decide +kernel
theorem dX8_take_78 : decode cX8_take 78 = .ok (.goto (-67), 3) := by decide +kernel
theorem dX8_take_81 : decode cX8_take 81 = .ok (.return_, 1) := by decide +kernel
theorem dX8_timeOf_0 : decode cX8_timeOf 0 = .ok (.aload_n 0, 1) := by decide +kernel
theorem dX8_timeOf_1 : decode cX8_timeOf 1 = .ok (.getfield 15, 3) := by decide +kernel
theorem dX8_timeOf_4 : decode cX8_timeOf 4 = .ok (.getfield 32, 3) := by decide +kernel
theorem dX8_timeOf_7 : decode cX8_timeOf 7 = .ok (.iload_n 1, 1) := by decide +kernel
theorem dX8_timeOf_8 : decode cX8_timeOf 8 = .ok (.aaload, 1) := by decide +kernel
theorem dX8_timeOf_9 : decode cX8_timeOf 9 = .ok (.iconst 1, 1) := by decide +kernel
theorem dX8_timeOf_10 : decode cX8_timeOf 10 = .ok (.iaload, 1) := by decide +kernel
theorem dX8_timeOf_11 : decode cX8_timeOf 11 = .ok (.ireturn, 1) := by decide +kernel
theorem dX8_fits_0 : decode cX8_fits 0 = .ok (.iconst (-1), 1) := by decide +kernel
theorem dX8_fits_1 : decode cX8_fits 1 = .ok (.istore_n 2, 1) := by decide +kernel
theorem dX8_fits_2 : decode cX8_fits 2 = .ok (.iconst 0, 1) := by decide +kernel
theorem dX8_fits_3 : decode cX8_fits 3 = .ok (.istore_n 3, 1) := by decide +kernel
theorem dX8_fits_4 : decode cX8_fits 4 = .ok (.iload_n 3, 1) := by decide +kernel
theorem dX8_fits_5 : decode cX8_fits 5 = .ok (.aload_n 0, 1) := by decide +kernel
theorem dX8_fits_6 : decode cX8_fits 6 = .ok (.getfield 15, 3) := by decide +kernel
theorem dX8_fits_9 : decode cX8_fits 9 = .ok (.getfield 22, 3) := by decide +kernel
theorem dX8_fits_12 : decode cX8_fits 12 = .ok (.if_icmp .ge 59, 3) := by decide +kernel
theorem dX8_fits_15 : decode cX8_fits 15 = .ok (.aload_n 0, 1) := by decide +kernel
theorem dX8_fits_16 : decode cX8_fits 16 = .ok (.getfield 9, 3) := by decide +kernel
theorem dX8_fits_19 : decode cX8_fits 19 = .ok (.iload_n 3, 1) := by decide +kernel
theorem dX8_fits_20 : decode cX8_fits 20 = .ok (.iaload, 1) := by decide +kernel
theorem dX8_fits_21 : decode cX8_fits 21 = .ok (.istore 4, 2) := by decide +kernel
theorem dX8_fits_23 : decode cX8_fits 23 = .ok (.iload_n 1, 1) := by decide +kernel
theorem dX8_fits_24 : decode cX8_fits 24 = .ok (.iload 4, 2) := by decide +kernel
theorem dX8_fits_26 : decode cX8_fits 26 = .ok (.ishr, 1) := by decide +kernel
theorem dX8_fits_27 : decode cX8_fits 27 = .ok (.iconst 1, 1) := by decide +kernel
theorem dX8_fits_28 : decode cX8_fits 28 = .ok (.iand, 1) := by decide +kernel
theorem dX8_fits_29 : decode cX8_fits 29 = .ok (.iconst 1, 1) := by decide +kernel
theorem dX8_fits_30 : decode cX8_fits 30 = .ok (.if_icmp .ne 35, 3) := by decide +kernel
theorem dX8_fits_33 : decode cX8_fits 33 = .ok (.iload_n 2, 1) := by decide +kernel
theorem dX8_fits_34 : decode cX8_fits 34 = .ok (.iconst (-1), 1) := by decide +kernel
theorem dX8_fits_35 : decode cX8_fits 35 = .ok (.if_icmp .eq 27, 3) := by decide +kernel
theorem dX8_fits_38 : decode cX8_fits 38 = .ok (.aload_n 0, 1) := by decide +kernel
theorem dX8_fits_39 : decode cX8_fits 39 = .ok (.iload 4, 2) := by decide +kernel
theorem dX8_fits_41 : decode cX8_fits 41 = .ok (.invokevirtual 28, 3) := by decide +kernel
theorem dX8_fits_44 : decode cX8_fits 44 = .ok (.aload_n 0, 1) := by decide +kernel
theorem dX8_fits_45 : decode cX8_fits 45 = .ok (.iload_n 2, 1) := by decide +kernel
theorem dX8_fits_46 : decode cX8_fits 46 = .ok (.invokevirtual 28, 3) := by decide +kernel
theorem dX8_fits_49 : decode cX8_fits 49 = .ok (.isub, 1) := by decide +kernel
theorem dX8_fits_50 : decode cX8_fits 50 = .ok (.aload_n 0, 1) := by decide +kernel
theorem dX8_fits_51 : decode cX8_fits 51 = .ok (.iload_n 2, 1) := by decide +kernel
theorem dX8_fits_52 : decode cX8_fits 52 = .ok (.iload 4, 2) := by decide +kernel
theorem dX8_fits_54 : decode cX8_fits 54 = .ok (.invokevirtual 36, 3) := by decide +kernel
theorem dX8_fits_57 : decode cX8_fits 57 = .ok (.if_icmp .ge 5, 3) := by decide +kernel
theorem dX8_fits_60 : decode cX8_fits 60 = .ok (.iconst 0, 1) := by decide +kernel
theorem dX8_fits_61 : decode cX8_fits 61 = .ok (.ireturn, 1) := by decide +kernel
theorem dX8_fits_62 : decode cX8_fits 62 = .ok (.iload 4, 2) := by decide +kernel
theorem dX8_fits_64 : decode cX8_fits 64 = .ok (.istore_n 2, 1) := by decide +kernel
theorem dX8_fits_65 : decode cX8_fits 65 = .ok (.iinc 3 1, 3) := by decide +kernel
theorem dX8_fits_68 : decode cX8_fits 68 = .ok (.goto (-64), 3) := by decide +kernel
theorem dX8_fits_71 : decode cX8_fits 71 = .ok (.iconst 1, 1) := by decide +kernel
theorem dX8_fits_72 : decode cX8_fits 72 = .ok (.ireturn, 1) := by decide +kernel
theorem dX8_between_0 : decode cX8_between 0 = .ok (.aload_n 0, 1) := by decide +kernel
theorem dX8_between_1 : decode cX8_between 1 = .ok (.getfield 15, 3) := by decide +kernel
theorem dX8_between_4 : decode cX8_between 4 = .ok (.getfield 32, 3) := by decide +kernel
theorem dX8_between_7 : decode cX8_between 7 = .ok (.iload_n 1, 1) := by decide +kernel
theorem dX8_between_8 : decode cX8_between 8 = .ok (.aaload, 1) := by decide +kernel
theorem dX8_between_9 : decode cX8_between 9 = .ok (.astore_n 3, 1) := by decide +kernel
theorem dX8_between_10 : decode cX8_between 10 = .ok (.aload_n 0, 1) := by decide +kernel
theorem dX8_between_11 : decode cX8_between 11 = .ok (.getfield 15, 3) := by decide +kernel
theorem dX8_between_14 : decode cX8_between 14 = .ok (.getfield 32, 3) := by decide +kernel
theorem dX8_between_17 : decode cX8_between 17 = .ok (.iload_n 2, 1) := by decide +kernel
theorem dX8_between_18 : decode cX8_between 18 = .ok (.aaload, 1) := by decide +kernel
theorem dX8_between_19 : decode cX8_between 19 = .ok (.astore 4, 2) := by decide +kernel
theorem dX8_between_21 : decode cX8_between 21 = .ok (.aload_n 0, 1) := by decide +kernel
theorem dX8_between_22 : decode cX8_between 22 = .ok (.getfield 15, 3) := by decide +kernel
theorem dX8_between_25 : decode cX8_between 25 = .ok (.aload_n 3, 1) := by decide +kernel
theorem dX8_between_26 : decode cX8_between 26 = .ok (.iconst 0, 1) := by decide +kernel
theorem dX8_between_27 : decode cX8_between 27 = .ok (.iaload, 1) := by decide +kernel
theorem dX8_between_28 : decode cX8_between 28 = .ok (.aload 4, 2) := by decide +kernel
theorem dX8_between_30 : decode cX8_between 30 = .ok (.iconst 0, 1) := by decide +kernel
theorem dX8_between_31 : decode cX8_between 31 = .ok (.iaload, 1) := by decide +kernel
theorem dX8_between_32 : decode cX8_between 32 = .ok (.iconst (-1), 1) := by decide +kernel
theorem dX8_between_33 : decode cX8_between 33 = .ok (.invokevirtual 40, 3) := by decide +kernel
theorem dX8_between_36 : decode cX8_between 36 = .ok (.istore 5, 2) := by decide +kernel
theorem dX8_between_38 : decode cX8_between 38 = .ok (.aload_n 3, 1) := by decide +kernel
theorem dX8_between_39 : decode cX8_between 39 = .ok (.iconst 2, 1) := by decide +kernel
theorem dX8_between_40 : decode cX8_between 40 = .ok (.iaload, 1) := by decide +kernel
theorem dX8_between_41 : decode cX8_between 41 = .ok (.aload 4, 2) := by decide +kernel
theorem dX8_between_43 : decode cX8_between 43 = .ok (.iconst 2, 1) := by decide +kernel
theorem dX8_between_44 : decode cX8_between 44 = .ok (.iaload, 1) := by decide +kernel
theorem dX8_between_45 : decode cX8_between 45 = .ok (.if_icmp .eq 16, 3) := by decide +kernel
theorem dX8_between_48 : decode cX8_between 48 = .ok (.iload 5, 2) := by decide +kernel
theorem dX8_between_50 : decode cX8_between 50 = .ok (.aload_n 0, 1) := by decide +kernel
theorem dX8_between_51 : decode cX8_between 51 = .ok (.getfield 15, 3) := by decide +kernel
theorem dX8_between_54 : decode cX8_between 54 = .ok (.getfield 44, 3) := by decide +kernel
theorem dX8_between_57 : decode cX8_between 57 = .ok (.iadd, 1) := by decide +kernel
theorem dX8_between_58 : decode cX8_between 58 = .ok (.goto 5, 3) := by decide +kernel
theorem dX8_between_61 : decode cX8_between 61 = .ok (.iload 5, 2) := by decide +kernel
theorem dX8_between_63 : decode cX8_between 63 = .ok (.ireturn, 1) := by decide +kernel
theorem dX9_init_0 : decode cX9_init 0 = .ok (.aload_n 0, 1) := by decide +kernel
theorem dX9_init_1 : decode cX9_init 1 = .ok (.invokespecial 3, 3) := by decide +kernel
theorem dX9_init_4 : decode cX9_init 4 = .ok (.aload_n 0, 1) := by decide +kernel
theorem dX9_init_5 : decode cX9_init 5 = .ok (.sipush 900, 3) := by decide +kernel
theorem dX9_init_8 : decode cX9_init 8 = .ok (.newarray .int, 2) := by decide +kernel
theorem dX9_init_10 : decode cX9_init 10 = .ok (.putfield 9, 3) := by decide +kernel
theorem dX9_init_13 : decode cX9_init 13 = .ok (.aload_n 0, 1) := by decide +kernel
theorem dX9_init_14 : decode cX9_init 14 = .ok (.iconst 0, 1) := by decide +kernel
theorem dX9_init_15 : decode cX9_init 15 = .ok (.putfield 15, 3) := by decide +kernel
theorem dX9_init_18 : decode cX9_init 18 = .ok (.return_, 1) := by decide +kernel
theorem dX9_hasRoom_0 : decode cX9_hasRoom 0 = .ok (.aload_n 0, 1) := by decide +kernel
theorem dX9_hasRoom_1 : decode cX9_hasRoom 1 = .ok (.getfield 15, 3) := by decide +kernel
theorem dX9_hasRoom_4 : decode cX9_hasRoom 4 = .ok (.iload_n 1, 1) := by decide +kernel
theorem dX9_hasRoom_5 : decode cX9_hasRoom 5 = .ok (.iadd, 1) := by decide +kernel
theorem dX9_hasRoom_6 : decode cX9_hasRoom 6 = .ok (.sipush 900, 3) := by decide +kernel
theorem dX9_hasRoom_9 : decode cX9_hasRoom 9 = .ok (.if_icmp .gt 7, 3) := by decide +kernel
theorem dX9_hasRoom_12 : decode cX9_hasRoom 12 = .ok (.iconst 1, 1) := by decide +kernel
theorem dX9_hasRoom_13 : decode cX9_hasRoom 13 = .ok (.goto 4, 3) := by decide +kernel
theorem dX9_hasRoom_16 : decode cX9_hasRoom 16 = .ok (.iconst 0, 1) := by decide +kernel
theorem dX9_hasRoom_17 : decode cX9_hasRoom 17 = .ok (.ireturn, 1) := by decide +kernel
theorem dX9_add_0 : decode cX9_add 0 = .ok (.bipush 24, 2) := by decide +kernel
theorem dX9_add_2 : decode cX9_add 2 = .ok (.istore_n 2, 1) := by decide +kernel
theorem dX9_add_3 : decode cX9_add 3 = .ok (.iload_n 2, 1) := by decide +kernel
theorem dX9_add_4 : decode cX9_add 4 = .ok (.ifCond .lt 45, 3) := by decide +kernel
theorem dX9_add_7 : decode cX9_add 7 = .ok (.aload_n 0, 1) := by decide +kernel
theorem dX9_add_8 : decode cX9_add 8 = .ok (.getfield 15, 3) := by decide +kernel
theorem dX9_add_11 : decode cX9_add 11 = .ok (.sipush 900, 3) := by decide +kernel
theorem dX9_add_14 : decode cX9_add 14 = .ok (.if_icmp .ge 29, 3) := by decide +kernel
theorem dX9_add_17 : decode cX9_add 17 = .ok (.aload_n 0, 1) := by decide +kernel
theorem dX9_add_18 : decode cX9_add 18 = .ok (.getfield 9, 3) := by decide +kernel
theorem dX9_add_21 : decode cX9_add 21 = .ok (.aload_n 0, 1) := by decide +kernel
theorem dX9_add_22 : decode cX9_add 22 = .ok (.getfield 15, 3) := by decide +kernel
theorem dX9_add_25 : decode cX9_add 25 = .ok (.iload_n 1, 1) := by decide +kernel
theorem dX9_add_26 : decode cX9_add 26 = .ok (.iload_n 2, 1) := by decide +kernel
theorem dX9_add_27 : decode cX9_add 27 = .ok (.ishr, 1) := by decide +kernel
theorem dX9_add_28 : decode cX9_add 28 = .ok (.sipush 255, 3) := by decide +kernel
theorem dX9_add_31 : decode cX9_add 31 = .ok (.iand, 1) := by decide +kernel
theorem dX9_add_32 : decode cX9_add 32 = .ok (.iastore, 1) := by decide +kernel
theorem dX9_add_33 : decode cX9_add 33 = .ok (.aload_n 0, 1) := by decide +kernel
theorem dX9_add_34 : decode cX9_add 34 = .ok (.dup, 1) := by decide +kernel
theorem dX9_add_35 : decode cX9_add 35 = .ok (.getfield 15, 3) := by decide +kernel
theorem dX9_add_38 : decode cX9_add 38 = .ok (.iconst 1, 1) := by decide +kernel
theorem dX9_add_39 : decode cX9_add 39 = .ok (.iadd, 1) := by decide +kernel
theorem dX9_add_40 : decode cX9_add 40 = .ok (.putfield 15, 3) := by decide +kernel
theorem dX9_add_43 : decode cX9_add 43 = .ok (.iinc 2 (-8), 3) := by decide +kernel
theorem dX9_add_46 : decode cX9_add 46 = .ok (.goto (-43), 3) := by decide +kernel
theorem dX9_add_49 : decode cX9_add 49 = .ok (.return_, 1) := by decide +kernel
theorem dX9_at_0 : decode cX9_at 0 = .ok (.iload_n 1, 1) := by decide +kernel
theorem dX9_at_1 : decode cX9_at 1 = .ok (.ifCond .lt 19, 3) := by decide +kernel
theorem dX9_at_4 : decode cX9_at 4 = .ok (.iload_n 1, 1) := by decide +kernel
theorem dX9_at_5 : decode cX9_at 5 = .ok (.sipush 900, 3) := by decide +kernel
theorem dX9_at_8 : decode cX9_at 8 = .ok (.if_icmp .ge 12, 3) := by decide +kernel
theorem dX9_at_11 : decode cX9_at 11 = .ok (.aload_n 0, 1) := by decide +kernel
theorem dX9_at_12 : decode cX9_at 12 = .ok (.getfield 9, 3) := by decide +kernel
theorem dX9_at_15 : decode cX9_at 15 = .ok (.iload_n 1, 1) := by decide +kernel
theorem dX9_at_16 : decode cX9_at 16 = .ok (.iaload, 1) := by decide +kernel
theorem dX9_at_17 : decode cX9_at 17 = .ok (.goto 4, 3) := by decide +kernel
theorem dX9_at_20 : decode cX9_at 20 = .ok (.iconst 0, 1) := by decide +kernel
theorem dX9_at_21 : decode cX9_at 21 = .ok (.ireturn, 1) := by decide +kernel
theorem dX10_init_0 : decode cX10_init 0 = .ok (.aload_n 0, 1) := by decide +kernel
theorem dX10_init_1 : decode cX10_init 1 = .ok (.invokespecial 1, 3) := by decide +kernel
theorem dX10_init_4 : decode cX10_init 4 = .ok (.aload_n 0, 1) := by decide +kernel
theorem dX10_init_5 : decode cX10_init 5 = .ok (.aload_n 1, 1) := by decide +kernel
theorem dX10_init_6 : decode cX10_init 6 = .ok (.putfield 7, 3) := by decide +kernel
theorem dX10_init_9 : decode cX10_init 9 = .ok (.return_, 1) := by decide +kernel
theorem dX10_start_0 : decode cX10_start 0 = .ok (.aload_n 0, 1) := by decide +kernel
theorem dX10_start_1 : decode cX10_start 1 = .ok (.iload_n 1, 1) := by decide +kernel
theorem dX10_start_2 : decode cX10_start 2 = .ok (.putfield 13, 3) := by decide +kernel
theorem dX10_start_5 : decode cX10_start 5 = .ok (.aload_n 0, 1) := by decide +kernel
theorem dX10_start_6 : decode cX10_start 6 = .ok (.iconst 0, 1) := by decide +kernel
theorem dX10_start_7 : decode cX10_start 7 = .ok (.putfield 17, 3) := by decide +kernel
theorem dX10_start_10 : decode cX10_start 10 = .ok (.aload_n 0, 1) := by decide +kernel
theorem dX10_start_11 : decode cX10_start 11 = .ok (.invokevirtual 20, 3) := by decide +kernel
theorem dX10_start_14 : decode cX10_start 14 = .ok (.return_, 1) := by decide +kernel
theorem dX10_move_0 : decode cX10_move 0 = .ok (.aload_n 0, 1) := by decide +kernel
theorem dX10_move_1 : decode cX10_move 1 = .ok (.getfield 17, 3) := by decide +kernel
theorem dX10_move_4 : decode cX10_move 4 = .ok (.aload_n 0, 1) := by decide +kernel
theorem dX10_move_5 : decode cX10_move 5 = .ok (.getfield 13, 3) := by decide +kernel
theorem dX10_move_8 : decode cX10_move 8 = .ok (.if_icmp .ge 32, 3) := by decide +kernel
theorem dX10_move_11 : decode cX10_move 11 = .ok (.aload_n 0, 1) := by decide +kernel
theorem dX10_move_12 : decode cX10_move 12 = .ok (.getfield 7, 3) := by decide +kernel
theorem dX10_move_15 : decode cX10_move 15 = .ok (.aload_n 0, 1) := by decide +kernel
theorem dX10_move_16 : decode cX10_move 16 = .ok (.getfield 17, 3) := by decide +kernel
theorem dX10_move_19 : decode cX10_move 19 = .ok (.invokevirtual 23, 3) := by decide +kernel
theorem dX10_move_22 : decode cX10_move 22 = .ok (.bipush 32, 2) := by decide +kernel
theorem dX10_move_24 : decode cX10_move 24 = .ok (.if_icmp .ne 16, 3) := by decide +kernel
theorem dX10_move_27 : decode cX10_move 27 = .ok (.aload_n 0, 1) := by decide +kernel
theorem dX10_move_28 : decode cX10_move 28 = .ok (.dup, 1) := by decide +kernel
theorem dX10_move_29 : decode cX10_move 29 = .ok (.getfield 17, 3) := by decide +kernel
theorem dX10_move_32 : decode cX10_move 32 = .ok (.iconst 1, 1) := by decide +kernel
theorem dX10_move_33 : decode cX10_move 33 = .ok (.iadd, 1) := by decide +kernel
theorem dX10_move_34 : decode cX10_move 34 = .ok (.putfield 17, 3) := by decide +kernel
theorem dX10_move_37 : decode cX10_move 37 = .ok (.goto (-37), 3) := by decide +kernel
theorem dX10_move_40 : decode cX10_move 40 = .ok (.aload_n 0, 1) := by decide +kernel
theorem dX10_move_41 : decode cX10_move 41 = .ok (.aload_n 0, 1) := by decide +kernel
theorem dX10_move_42 : decode cX10_move 42 = .ok (.getfield 17, 3) := by decide +kernel
theorem dX10_move_45 : decode cX10_move 45 = .ok (.putfield 29, 3) := by decide +kernel
theorem dX10_move_48 : decode cX10_move 48 = .ok (.aload_n 0, 1) := by decide +kernel
theorem dX10_move_49 : decode cX10_move 49 = .ok (.getfield 17, 3) := by decide +kernel
theorem dX10_move_52 : decode cX10_move 52 = .ok (.aload_n 0, 1) := by decide +kernel
theorem dX10_move_53 : decode cX10_move 53 = .ok (.getfield 13, 3) := by decide +kernel
theorem dX10_move_56 : decode cX10_move 56 = .ok (.if_icmp .lt 11, 3) := by decide +kernel
theorem dX10_move_59 : decode cX10_move 59 = .ok (.aload_n 0, 1) := by decide +kernel
theorem dX10_move_60 : decode cX10_move 60 = .ok (.iconst 0, 1) := by decide +kernel
theorem dX10_move_61 : decode cX10_move 61 = .ok (.putfield 32, 3) := by decide +kernel
theorem dX10_move_64 : decode cX10_move 64 = .ok (.goto 86, 3) := by decide +kernel
theorem dX10_move_67 : decode cX10_move 67 = .ok (.aload_n 0, 1) := by decide +kernel
theorem dX10_move_68 : decode cX10_move 68 = .ok (.getfield 7, 3) := by decide +kernel
theorem dX10_move_71 : decode cX10_move 71 = .ok (.aload_n 0, 1) := by decide +kernel
theorem dX10_move_72 : decode cX10_move 72 = .ok (.getfield 17, 3) := by decide +kernel
theorem dX10_move_75 : decode cX10_move 75 = .ok (.invokevirtual 23, 3) := by decide +kernel
theorem dX10_move_78 : decode cX10_move 78 = .ok (.invokestatic 35, 3) := by decide +kernel
theorem dX10_move_81 : decode cX10_move 81 = .ok (.ifCond .eq 10, 3) := by decide +kernel
theorem dX10_move_84 : decode cX10_move 84 = .ok (.aload_n 0, 1) := by decide +kernel
theorem dX10_move_85 : decode cX10_move 85 = .ok (.invokevirtual 39, 3) := by decide +kernel
theorem dX10_move_88 : decode cX10_move 88 = .ok (.goto 62, 3) := by decide +kernel
theorem dX10_move_91 : decode cX10_move 91 = .ok (.aload_n 0, 1) := by decide +kernel
theorem dX10_move_92 : decode cX10_move 92 = .ok (.getfield 7, 3) := by decide +kernel
theorem dX10_move_95 : decode cX10_move 95 = .ok (.aload_n 0, 1) := by decide +kernel
theorem dX10_move_96 : decode cX10_move 96 = .ok (.getfield 17, 3) := by decide +kernel
theorem dX10_move_99 : decode cX10_move 99 = .ok (.invokevirtual 23, 3) := by decide +kernel
theorem dX10_move_102 : decode cX10_move 102 = .ok (.invokestatic 42, 3) := by decide +kernel
theorem dX10_move_105 : decode cX10_move 105 = .ok (.ifCond .eq 10, 3) := by decide +kernel
theorem dX10_move_108 : decode cX10_move 108 = .ok (.aload_n 0, 1) := by decide +kernel
theorem dX10_move_109 : decode cX10_move 109 = .ok (.invokevirtual 45, 3) := by decide +kernel
theorem dX10_move_112 : decode cX10_move 112 = .ok (.goto 38, 3) := by decide +kernel
theorem dX10_move_115 : decode cX10_move 115 = .ok (.aload_n 0, 1) := by decide +kernel
theorem dX10_move_116 : decode cX10_move 116 = .ok (.aload_n 0, 1) := by decide +kernel
theorem dX10_move_117 : decode cX10_move 117 = .ok (.getfield 7, 3) := by decide +kernel
theorem dX10_move_120 : decode cX10_move 120 = .ok (.aload_n 0, 1) := by decide +kernel
theorem dX10_move_121 : decode cX10_move 121 = .ok (.getfield 17, 3) := by decide +kernel
theorem dX10_move_124 : decode cX10_move 124 = .ok (.invokevirtual 23, 3) := by decide +kernel
theorem dX10_move_127 : decode cX10_move 127 = .ok (.bipush 59, 2) := by decide +kernel
theorem dX10_move_129 : decode cX10_move 129 = .ok (.if_icmp .ne 7, 3) := by decide +kernel
theorem dX10_move_132 : decode cX10_move 132 = .ok (.iconst 3, 1) := by decide +kernel
theorem dX10_move_133 : decode cX10_move 133 = .ok (.goto 4, 3) := by decide +kernel
theorem dX10_move_136 : decode cX10_move 136 = .ok (.iconst 4, 1) := by decide +kernel
theorem dX10_move_137 : decode cX10_move 137 = .ok (.putfield 32, 3) := by decide +kernel
theorem dX10_move_140 : decode cX10_move 140 = .ok (.aload_n 0, 1) := by decide +kernel
theorem dX10_move_141 : decode cX10_move 141 = .ok (.dup, 1) := by decide +kernel
theorem dX10_move_142 : decode cX10_move 142 = .ok (.getfield 17, 3) := by decide +kernel
theorem dX10_move_145 : decode cX10_move 145 = .ok (.iconst 1, 1) := by decide +kernel
theorem dX10_move_146 : decode cX10_move 146 = .ok (.iadd, 1) := by decide +kernel
theorem dX10_move_147 : decode cX10_move 147 = .ok (.putfield 17, 3) := by decide +kernel
theorem dX10_move_150 : decode cX10_move 150 = .ok (.return_, 1) := by decide +kernel
theorem dX10_takeWord_0 : decode cX10_takeWord 0 = .ok (.aload_n 0, 1) := by decide +kernel
theorem dX10_takeWord_1 : decode cX10_takeWord 1 = .ok (.lconst 0, 1) := by decide +kernel
theorem dX10_takeWord_2 : decode cX10_takeWord 2 = .ok (.putfield 48, 3) := by decide +kernel
theorem dX10_takeWord_5 : decode cX10_takeWord 5 = .ok (.aload_n 0, 1) := by decide +kernel
theorem dX10_takeWord_6 : decode cX10_takeWord 6 = .ok (.getfield 17, 3) := by decide +kernel
theorem dX10_takeWord_9 : decode cX10_takeWord 9 = .ok (.aload_n 0, 1) := by decide +kernel
theorem dX10_takeWord_10 : decode cX10_takeWord 10 = .ok (.getfield 13, 3) := by decide +kernel
theorem dX10_takeWord_13 : decode cX10_takeWord 13 = .ok (.if_icmp .ge 57, 3) := by decide +kernel
theorem dX10_takeWord_16 : decode cX10_takeWord 16 = .ok (.aload_n 0, 1) := by decide +kernel
theorem dX10_takeWord_17 : decode cX10_takeWord 17 = .ok (.getfield 7, 3) := by decide +kernel
theorem dX10_takeWord_20 : decode cX10_takeWord 20 = .ok (.aload_n 0, 1) := by decide +kernel
theorem dX10_takeWord_21 : decode cX10_takeWord 21 = .ok (.getfield 17, 3) := by decide +kernel
theorem dX10_takeWord_24 : decode cX10_takeWord 24 = .ok (.invokevirtual 23, 3) := by decide +kernel
theorem dX10_takeWord_27 : decode cX10_takeWord 27 = .ok (.invokestatic 35, 3) := by decide +kernel
theorem dX10_takeWord_30 : decode cX10_takeWord 30 = .ok (.ifCond .eq 40, 3) := by decide +kernel
theorem dX10_takeWord_33 : decode cX10_takeWord 33 = .ok (.aload_n 0, 1) := by decide +kernel
theorem dX10_takeWord_34 : decode cX10_takeWord 34 = .ok (.aload_n 0, 1) := by decide +kernel
theorem dX10_takeWord_35 : decode cX10_takeWord 35 = .ok (.getfield 48, 3) := by decide +kernel
theorem dX10_takeWord_38 : decode cX10_takeWord 38 = .ok (.bipush 8, 2) := by decide +kernel
theorem dX10_takeWord_40 : decode cX10_takeWord 40 = .ok (.lshl, 1) := by decide +kernel
theorem dX10_takeWord_41 : decode cX10_takeWord 41 = .ok (.aload_n 0, 1) := by decide +kernel
theorem dX10_takeWord_42 : decode cX10_takeWord 42 = .ok (.getfield 7, 3) := by decide +kernel
theorem dX10_takeWord_45 : decode cX10_takeWord 45 = .ok (.aload_n 0, 1) := by decide +kernel
theorem dX10_takeWord_46 : decode cX10_takeWord 46 = .ok (.getfield 17, 3) := by decide +kernel
theorem dX10_takeWord_49 : decode cX10_takeWord 49 = .ok (.invokevirtual 23, 3) := by decide +kernel
theorem dX10_takeWord_52 : decode cX10_takeWord 52 = .ok (.i2l, 1) := by decide +kernel
theorem dX10_takeWord_53 : decode cX10_takeWord 53 = .ok (.lor, 1) := by decide +kernel
theorem dX10_takeWord_54 : decode cX10_takeWord 54 = .ok (.putfield 48, 3) := by decide +kernel
theorem dX10_takeWord_57 : decode cX10_takeWord 57 = .ok (.aload_n 0, 1) := by decide +kernel
theorem dX10_takeWord_58 : decode cX10_takeWord 58 = .ok (.dup, 1) := by decide +kernel
theorem dX10_takeWord_59 : decode cX10_takeWord 59 = .ok (.getfield 17, 3) := by decide +kernel
theorem dX10_takeWord_62 : decode cX10_takeWord 62 = .ok (.iconst 1, 1) := by decide +kernel
theorem dX10_takeWord_63 : decode cX10_takeWord 63 = .ok (.iadd, 1) := by decide +kernel
theorem dX10_takeWord_64 : decode cX10_takeWord 64 = .ok (.putfield 17, 3) := by decide +kernel
theorem dX10_takeWord_67 : decode cX10_takeWord 67 = .ok (.goto (-62), 3) := by decide +kernel
theorem dX10_takeWord_70 : decode cX10_takeWord 70 = .ok (.aload_n 0, 1) := by decide +kernel
theorem dX10_takeWord_71 : decode cX10_takeWord 71 = .ok (.aload_n 0, 1) := by decide +kernel
theorem dX10_takeWord_72 : decode cX10_takeWord 72 = .ok (.getfield 17, 3) := by decide +kernel
theorem dX10_takeWord_75 : decode cX10_takeWord 75 = .ok (.aload_n 0, 1) := by decide +kernel
theorem dX10_takeWord_76 : decode cX10_takeWord 76 = .ok (.getfield 29, 3) := by decide +kernel
theorem dX10_takeWord_79 : decode cX10_takeWord 79 = .ok (.isub, 1) := by decide +kernel
theorem dX10_takeWord_80 : decode cX10_takeWord 80 = .ok (.bipush 8, 2) := by decide +kernel
theorem dX10_takeWord_82 : decode cX10_takeWord 82 = .ok (.if_icmp .gt 7, 3) := by decide +kernel
theorem dX10_takeWord_85 : decode cX10_takeWord 85 = .ok (.iconst 1, 1) := by decide +kernel
theorem dX10_takeWord_86 : decode cX10_takeWord 86 = .ok (.goto 4, 3) := by decide +kernel
theorem dX10_takeWord_89 : decode cX10_takeWord 89 = .ok (.iconst 4, 1) := by decide +kernel
theorem dX10_takeWord_90 : decode cX10_takeWord 90 = .ok (.putfield 32, 3) := by decide +kernel
theorem dX10_takeWord_93 : decode cX10_takeWord 93 = .ok (.return_, 1) := by decide +kernel
theorem dX10_takeWhole_0 : decode cX10_takeWhole 0 = .ok (.aload_n 0, 1) := by decide +kernel
theorem dX10_takeWhole_1 : decode cX10_takeWhole 1 = .ok (.iconst 0, 1) := by decide +kernel
theorem dX10_takeWhole_2 : decode cX10_takeWhole 2 = .ok (.putfield 52, 3) := by decide +kernel
theorem dX10_takeWhole_5 : decode cX10_takeWhole 5 = .ok (.aload_n 0, 1) := by decide +kernel
theorem dX10_takeWhole_6 : decode cX10_takeWhole 6 = .ok (.getfield 17, 3) := by decide +kernel
theorem dX10_takeWhole_9 : decode cX10_takeWhole 9 = .ok (.aload_n 0, 1) := by decide +kernel
theorem dX10_takeWhole_10 : decode cX10_takeWhole 10 = .ok (.getfield 13, 3) := by decide +kernel
theorem dX10_takeWhole_13 : decode cX10_takeWhole 13 = .ok (.if_icmp .ge 59, 3) := by decide +kernel
theorem dX10_takeWhole_16 : decode cX10_takeWhole 16 = .ok (.aload_n 0, 1) := by decide +kernel
theorem dX10_takeWhole_17 : decode cX10_takeWhole 17 = .ok (.getfield 7, 3) := by decide +kernel
theorem dX10_takeWhole_20 : decode cX10_takeWhole 20 = .ok (.aload_n 0, 1) := by decide +kernel
theorem dX10_takeWhole_21 : decode cX10_takeWhole 21 = .ok (.getfield 17, 3) := by decide +kernel
theorem dX10_takeWhole_24 : decode cX10_takeWhole 24 = .ok (.invokevirtual 23, 3) := by decide +kernel
theorem dX10_takeWhole_27 : decode cX10_takeWhole 27 = .ok (.invokestatic 42, 3) := by decide +kernel
theorem dX10_takeWhole_30 : decode cX10_takeWhole 30 = .ok (.ifCond .eq 42, 3) := by decide +kernel
theorem dX10_takeWhole_33 : decode cX10_takeWhole 33 = .ok (.aload_n 0, 1) := by decide +kernel
theorem dX10_takeWhole_34 : decode cX10_takeWhole 34 = .ok (.aload_n 0, 1) := by decide +kernel
theorem dX10_takeWhole_35 : decode cX10_takeWhole 35 = .ok (.getfield 52, 3) := by decide +kernel
theorem dX10_takeWhole_38 : decode cX10_takeWhole 38 = .ok (.bipush 10, 2) := by decide +kernel
theorem dX10_takeWhole_40 : decode cX10_takeWhole 40 = .ok (.imul, 1) := by decide +kernel
theorem dX10_takeWhole_41 : decode cX10_takeWhole 41 = .ok (.aload_n 0, 1) := by decide +kernel
theorem dX10_takeWhole_42 : decode cX10_takeWhole 42 = .ok (.getfield 7, 3) := by decide +kernel
theorem dX10_takeWhole_45 : decode cX10_takeWhole 45 = .ok (.aload_n 0, 1) := by decide +kernel
theorem dX10_takeWhole_46 : decode cX10_takeWhole 46 = .ok (.getfield 17, 3) := by decide +kernel
theorem dX10_takeWhole_49 : decode cX10_takeWhole 49 = .ok (.invokevirtual 23, 3) := by decide +kernel
theorem dX10_takeWhole_52 : decode cX10_takeWhole 52 = .ok (.iadd, 1) := by decide +kernel
theorem dX10_takeWhole_53 : decode cX10_takeWhole 53 = .ok (.bipush 48, 2) := by decide +kernel
theorem dX10_takeWhole_55 : decode cX10_takeWhole 55 = .ok (.isub, 1) := by decide +kernel
theorem dX10_takeWhole_56 : decode cX10_takeWhole 56 = .ok (.putfield 52, 3) := by decide +kernel
theorem dX10_takeWhole_59 : decode cX10_takeWhole 59 = .ok (.aload_n 0, 1) := by decide +kernel
theorem dX10_takeWhole_60 : decode cX10_takeWhole 60 = .ok (.dup, 1) := by decide +kernel
theorem dX10_takeWhole_61 : decode cX10_takeWhole 61 = .ok (.getfield 17, 3) := by decide +kernel
theorem dX10_takeWhole_64 : decode cX10_takeWhole 64 = .ok (.iconst 1, 1) := by decide +kernel
theorem dX10_takeWhole_65 : decode cX10_takeWhole 65 = .ok (.iadd, 1) := by decide +kernel
theorem dX10_takeWhole_66 : decode cX10_takeWhole 66 = .ok (.putfield 17, 3) := by decide +kernel
theorem dX10_takeWhole_69 : decode cX10_takeWhole 69 = .ok (.goto (-64), 3) := by decide +kernel
theorem dX10_takeWhole_72 : decode cX10_takeWhole 72 = .ok (.aload_n 0, 1) := by decide +kernel
theorem dX10_takeWhole_73 : decode cX10_takeWhole 73 = .ok (.aload_n 0, 1) := by decide +kernel
theorem dX10_takeWhole_74 : decode cX10_takeWhole 74 = .ok (.getfield 17, 3) := by decide +kernel
theorem dX10_takeWhole_77 : decode cX10_takeWhole 77 = .ok (.aload_n 0, 1) := by decide +kernel
theorem dX10_takeWhole_78 : decode cX10_takeWhole 78 = .ok (.getfield 29, 3) := by decide +kernel
theorem dX10_takeWhole_81 : decode cX10_takeWhole 81 = .ok (.isub, 1) := by decide +kernel
theorem dX10_takeWhole_82 : decode cX10_takeWhole 82 = .ok (.iconst 3, 1) := by decide +kernel
theorem dX10_takeWhole_83 : decode cX10_takeWhole 83 = .ok (.if_icmp .gt 7, 3) := by decide +kernel
theorem dX10_takeWhole_86 : decode cX10_takeWhole 86 = .ok (.iconst 2, 1) := by decide +kernel
theorem dX10_takeWhole_87 : decode cX10_takeWhole 87 = .ok (.goto 4, 3) := by decide +kernel
theorem dX10_takeWhole_90 : decode cX10_takeWhole 90 = .ok (.iconst 4, 1) := by decide +kernel
theorem dX10_takeWhole_91 : decode cX10_takeWhole 91 = .ok (.putfield 32, 3) := by decide +kernel
theorem dX10_takeWhole_94 : decode cX10_takeWhole 94 = .ok (.return_, 1) := by decide +kernel
theorem dX10_isWord_0 : decode cX10_isWord 0 = .ok (.lconst 0, 1) := by decide +kernel
theorem dX10_isWord_1 : decode cX10_isWord 1 = .ok (.lstore_n 2, 1) := by decide +kernel
theorem dX10_isWord_2 : decode cX10_isWord 2 = .ok (.iconst 0, 1) := by decide +kernel
theorem dX10_isWord_3 : decode cX10_isWord 3 = .ok (.istore 4, 2) := by decide +kernel
theorem dX10_isWord_5 : decode cX10_isWord 5 = .ok (.iload 4, 2) := by decide +kernel
theorem dX10_isWord_7 : decode cX10_isWord 7 = .ok (.aload_n 1, 1) := by decide +kernel
theorem dX10_isWord_8 : decode cX10_isWord 8 = .ok (.invokevirtual 55, 3) := by decide +kernel
theorem dX10_isWord_11 : decode cX10_isWord 11 = .ok (.if_icmp .ge 22, 3) := by decide +kernel
theorem dX10_isWord_14 : decode cX10_isWord 14 = .ok (.lload_n 2, 1) := by decide +kernel
theorem dX10_isWord_15 : decode cX10_isWord 15 = .ok (.bipush 8, 2) := by decide +kernel
theorem dX10_isWord_17 : decode cX10_isWord 17 = .ok (.lshl, 1) := by decide +kernel
theorem dX10_isWord_18 : decode cX10_isWord 18 = .ok (.aload_n 1, 1) := by decide +kernel
theorem dX10_isWord_19 : decode cX10_isWord 19 = .ok (.iload 4, 2) := by decide +kernel
theorem dX10_isWord_21 : decode cX10_isWord 21 = .ok (.invokevirtual 60, 3) := by decide +kernel
theorem dX10_isWord_24 : decode cX10_isWord 24 = .ok (.i2l, 1) := by decide +kernel
theorem dX10_isWord_25 : decode cX10_isWord 25 = .ok (.lor, 1) := by decide +kernel
theorem dX10_isWord_26 : decode cX10_isWord 26 = .ok (.lstore_n 2, 1) := by decide +kernel
theorem dX10_isWord_27 : decode cX10_isWord 27 = .ok (.iinc 4 1, 3) := by decide +kernel
theorem dX10_isWord_30 : decode cX10_isWord 30 = .ok (.goto (-25), 3) := by decide +kernel
theorem dX10_isWord_33 : decode cX10_isWord 33 = .ok (.aload_n 0, 1) := by decide +kernel
theorem dX10_isWord_34 : decode cX10_isWord 34 = .ok (.getfield 32, 3) := by decide +kernel
theorem dX10_isWord_37 : decode cX10_isWord 37 = .ok (.iconst 1, 1) := by decide +kernel
theorem dX10_isWord_38 : decode cX10_isWord 38 = .ok (.if_icmp .ne 16, 3) := by decide +kernel
theorem dX10_isWord_41 : decode cX10_isWord 41 = .ok (.aload_n 0, 1) := by decide +kernel
theorem dX10_isWord_42 : decode cX10_isWord 42 = .ok (.getfield 48, 3) := by decide +kernel
theorem dX10_isWord_45 : decode cX10_isWord 45 = .ok (.lload_n 2, 1) := by decide +kernel
theorem dX10_isWord_46 : decode cX10_isWord 46 = .ok (.lcmp, 1) := by decide +kernel
theorem dX10_isWord_47 : decode cX10_isWord 47 = .ok (.ifCond .ne 7, 3) := by decide +kernel
theorem dX10_isWord_50 : decode cX10_isWord 50 = .ok (.iconst 1, 1) := by decide +kernel
theorem dX10_isWord_51 : decode cX10_isWord 51 = .ok (.goto 4, 3) := by decide +kernel
theorem dX10_isWord_54 : decode cX10_isWord 54 = .ok (.iconst 0, 1) := by decide +kernel
theorem dX10_isWord_55 : decode cX10_isWord 55 = .ok (.ireturn, 1) := by decide +kernel
theorem dX10_isName_0 : decode cX10_isName 0 = .ok (.aload_n 0, 1) := by decide +kernel
theorem dX10_isName_1 : decode cX10_isName 1 = .ok (.getfield 32, 3) := by decide +kernel
theorem dX10_isName_4 : decode cX10_isName 4 = .ok (.iconst 1, 1) := by decide +kernel
theorem dX10_isName_5 : decode cX10_isName 5 = .ok (.if_icmp .ne 70, 3) := by decide +kernel
theorem dX10_isName_8 : decode cX10_isName 8 = .ok (.aload_n 0, 1) := by decide +kernel
theorem dX10_isName_9 : decode cX10_isName 9 = .ok (.ldc 64, 2) := by decide +kernel
theorem dX10_isName_11 : decode cX10_isName 11 = .ok (.invokevirtual 66, 3) := by decide +kernel
theorem dX10_isName_14 : decode cX10_isName 14 = .ok (.ifCond .ne 61, 3) := by decide +kernel
theorem dX10_isName_17 : decode cX10_isName 17 = .ok (.aload_n 0, 1) := by decide +kernel
theorem dX10_isName_18 : decode cX10_isName 18 = .ok (.ldc 70, 2) := by decide +kernel
theorem dX10_isName_20 : decode cX10_isName 20 = .ok (.invokevirtual 66, 3) := by decide +kernel
theorem dX10_isName_23 : decode cX10_isName 23 = .ok (.ifCond .ne 52, 3) := by decide +kernel
theorem dX10_isName_26 : decode cX10_isName 26 = .ok (.aload_n 0, 1) := by decide +kernel
theorem dX10_isName_27 : decode cX10_isName 27 = .ok (.ldc 72, 2) := by decide +kernel
theorem dX10_isName_29 : decode cX10_isName 29 = .ok (.invokevirtual 66, 3) := by decide +kernel
theorem dX10_isName_32 : decode cX10_isName 32 = .ok (.ifCond .ne 43, 3) := by decide +kernel
theorem dX10_isName_35 : decode cX10_isName 35 = .ok (.aload_n 0, 1) := by decide +kernel
theorem dX10_isName_36 : decode cX10_isName 36 = .ok (.ldc 74, 2) := by decide +kernel
theorem dX10_isName_38 : decode cX10_isName 38 = .ok (.invokevirtual 66, 3) := by decide +kernel
theorem dX10_isName_41 : decode cX10_isName 41 = .ok (.ifCond .ne 34, 3) := by decide +kernel
theorem dX10_isName_44 : decode cX10_isName 44 = .ok (.aload_n 0, 1) := by decide +kernel
theorem dX10_isName_45 : decode cX10_isName 45 = .ok (.ldc 76, 2) := by decide +kernel
theorem dX10_isName_47 : decode cX10_isName 47 = .ok (.invokevirtual 66, 3) := by decide +kernel
theorem dX10_isName_50 : decode cX10_isName 50 = .ok (.ifCond .ne 25, 3) := by decide +kernel
theorem dX10_isName_53 : decode cX10_isName 53 = .ok (.aload_n 0, 1) := by decide +kernel
theorem dX10_isName_54 : decode cX10_isName 54 = .ok (.ldc 78, 2) := by decide +kernel
theorem dX10_isName_56 : decode cX10_isName 56 = .ok (.invokevirtual 66, 3) := by decide +kernel
theorem dX10_isName_59 : decode cX10_isName 59 = .ok (.ifCond .ne 16, 3) := by decide +kernel
theorem dX10_isName_62 : decode cX10_isName 62 = .ok (.aload_n 0, 1) := by decide +kernel
theorem dX10_isName_63 : decode cX10_isName 63 = .ok (.ldc 80, 2) := by decide +kernel
theorem dX10_isName_65 : decode cX10_isName 65 = .ok (.invokevirtual 66, 3) := by decide +kernel
theorem dX10_isName_68 : decode cX10_isName 68 = .ok (.ifCond .ne 7, 3) := by decide +kernel
theorem dX10_isName_71 : decode cX10_isName 71 = .ok (.iconst 1, 1) := by decide +kernel
theorem dX10_isName_72 : decode cX10_isName 72 = .ok (.goto 4, 3) := by decide +kernel
theorem dX10_isName_75 : decode cX10_isName 75 = .ok (.iconst 0, 1) := by decide +kernel
theorem dX10_isName_76 : decode cX10_isName 76 = .ok (.ireturn, 1) := by decide +kernel
theorem dX10_isLetter_0 : decode cX10_isLetter 0 = .ok (.iload_n 0, 1) := by decide +kernel
theorem dX10_isLetter_1 : decode cX10_isLetter 1 = .ok (.bipush 97, 2) := by decide +kernel
theorem dX10_isLetter_3 : decode cX10_isLetter 3 = .ok (.if_icmp .lt 13, 3) := by decide +kernel
theorem dX10_isLetter_6 : decode cX10_isLetter 6 = .ok (.iload_n 0, 1) := by decide +kernel
theorem dX10_isLetter_7 : decode cX10_isLetter 7 = .ok (.bipush 122, 2) := by decide +kernel
theorem dX10_isLetter_9 : decode cX10_isLetter 9 = .ok (.if_icmp .gt 7, 3) := by decide +kernel
theorem dX10_isLetter_12 : decode cX10_isLetter 12 = .ok (.iconst 1, 1) := by decide +kernel
theorem dX10_isLetter_13 : decode cX10_isLetter 13 = .ok (.goto 4, 3) := by decide +kernel
theorem dX10_isLetter_16 : decode cX10_isLetter 16 = .ok (.iconst 0, 1) := by decide +kernel
theorem dX10_isLetter_17 : decode cX10_isLetter 17 = .ok (.ireturn, 1) := by decide +kernel
theorem dX10_isDigit_0 : decode cX10_isDigit 0 = .ok (.iload_n 0, 1) := by decide +kernel
theorem dX10_isDigit_1 : decode cX10_isDigit 1 = .ok (.bipush 48, 2) := by decide +kernel
theorem dX10_isDigit_3 : decode cX10_isDigit 3 = .ok (.if_icmp .lt 13, 3) := by decide +kernel
theorem dX10_isDigit_6 : decode cX10_isDigit 6 = .ok (.iload_n 0, 1) := by decide +kernel
theorem dX10_isDigit_7 : decode cX10_isDigit 7 = .ok (.bipush 57, 2) := by decide +kernel
theorem dX10_isDigit_9 : decode cX10_isDigit 9 = .ok (.if_icmp .gt 7, 3) := by decide +kernel
theorem dX10_isDigit_12 : decode cX10_isDigit 12 = .ok (.iconst 1, 1) := by decide +kernel
theorem dX10_isDigit_13 : decode cX10_isDigit 13 = .ok (.goto 4, 3) := by decide +kernel
theorem dX10_isDigit_16 : decode cX10_isDigit 16 = .ok (.iconst 0, 1) := by decide +kernel
theorem dX10_isDigit_17 : decode cX10_isDigit 17 = .ok (.ireturn, 1) := by decide +kernel
theorem dX11_init_0 : decode cX11_init 0 = .ok (.aload_n 0, 1) := by decide +kernel
theorem dX11_init_1 : decode cX11_init 1 = .ok (.invokespecial 1, 3) := by decide +kernel
theorem dX11_init_4 : decode cX11_init 4 = .ok (.aload_n 0, 1) := by decide +kernel
theorem dX11_init_5 : decode cX11_init 5 = .ok (.new 7, 3) := by decide +kernel
theorem dX11_init_8 : decode cX11_init 8 = .ok (.dup, 1) := by decide +kernel
theorem dX11_init_9 : decode cX11_init 9 = .ok (.invokespecial 9, 3) := by decide +kernel
theorem dX11_init_12 : decode cX11_init 12 = .ok (.putfield 10, 3) := by decide +kernel
theorem dX11_init_15 : decode cX11_init 15 = .ok (.aload_n 0, 1) := by decide +kernel
theorem dX11_init_16 : decode cX11_init 16 = .ok (.new 16, 3) := by decide +kernel
theorem dX11_init_19 : decode cX11_init 19 = .ok (.dup, 1) := by decide +kernel
theorem dX11_init_20 : decode cX11_init 20 = .ok (.invokespecial 18, 3) := by decide +kernel
theorem dX11_init_23 : decode cX11_init 23 = .ok (.putfield 19, 3) := by decide +kernel
theorem dX11_init_26 : decode cX11_init 26 = .ok (.aload_n 0, 1) := by decide +kernel
theorem dX11_init_27 : decode cX11_init 27 = .ok (.new 16, 3) := by decide +kernel
theorem dX11_init_30 : decode cX11_init 30 = .ok (.dup, 1) := by decide +kernel
theorem dX11_init_31 : decode cX11_init 31 = .ok (.invokespecial 18, 3) := by decide +kernel
theorem dX11_init_34 : decode cX11_init 34 = .ok (.putfield 23, 3) := by decide +kernel
theorem dX11_init_37 : decode cX11_init 37 = .ok (.aload_n 0, 1) := by decide +kernel
theorem dX11_init_38 : decode cX11_init 38 = .ok (.new 26, 3) := by decide +kernel
theorem dX11_init_41 : decode cX11_init 41 = .ok (.dup, 1) := by decide +kernel
theorem dX11_init_42 : decode cX11_init 42 = .ok (.aload_n 0, 1) := by decide +kernel
theorem dX11_init_43 : decode cX11_init 43 = .ok (.getfield 10, 3) := by decide +kernel
theorem dX11_init_46 : decode cX11_init 46 = .ok (.aload_n 0, 1) := by decide +kernel
theorem dX11_init_47 : decode cX11_init 47 = .ok (.getfield 23, 3) := by decide +kernel
theorem dX11_init_50 : decode cX11_init 50 = .ok (.invokespecial 28, 3) := by decide +kernel
theorem dX11_init_53 : decode cX11_init 53 = .ok (.putfield 31, 3) := by decide +kernel
theorem dX11_init_56 : decode cX11_init 56 = .ok (.aload_n 0, 1) := by decide +kernel
theorem dX11_init_57 : decode cX11_init 57 = .ok (.new 35, 3) := by decide +kernel
theorem dX11_init_60 : decode cX11_init 60 = .ok (.dup, 1) := by decide +kernel
theorem dX11_init_61 : decode cX11_init 61 = .ok (.invokespecial 37, 3) := by decide +kernel
theorem dX11_init_64 : decode cX11_init 64 = .ok (.putfield 38, 3) := by decide +kernel
theorem dX11_init_67 : decode cX11_init 67 = .ok (.aload_n 0, 1) := by decide +kernel
theorem dX11_init_68 : decode cX11_init 68 = .ok (.new 42, 3) := by decide +kernel
theorem dX11_init_71 : decode cX11_init 71 = .ok (.dup, 1) := by decide +kernel
theorem dX11_init_72 : decode cX11_init 72 = .ok (.invokespecial 44, 3) := by decide +kernel
theorem dX11_init_75 : decode cX11_init 75 = .ok (.putfield 45, 3) := by decide +kernel
theorem dX11_init_78 : decode cX11_init 78 = .ok (.aload_n 0, 1) := by decide +kernel
theorem dX11_init_79 : decode cX11_init 79 = .ok (.new 49, 3) := by decide +kernel
theorem dX11_init_82 : decode cX11_init 82 = .ok (.dup, 1) := by decide +kernel
theorem dX11_init_83 : decode cX11_init 83 = .ok (.aload_n 0, 1) := by decide +kernel
theorem dX11_init_84 : decode cX11_init 84 = .ok (.getfield 19, 3) := by decide +kernel
theorem dX11_init_87 : decode cX11_init 87 = .ok (.invokespecial 51, 3) := by decide +kernel
theorem dX11_init_90 : decode cX11_init 90 = .ok (.putfield 54, 3) := by decide +kernel
theorem dX11_init_93 : decode cX11_init 93 = .ok (.aload_n 0, 1) := by decide +kernel
theorem dX11_init_94 : decode cX11_init 94 = .ok (.new 58, 3) := by decide +kernel
theorem dX11_init_97 : decode cX11_init 97 = .ok (.dup, 1) := by decide +kernel
theorem dX11_init_98 : decode cX11_init 98 = .ok (.aload_n 0, 1) := by decide +kernel
theorem dX11_init_99 : decode cX11_init 99 = .ok (.getfield 54, 3) := by decide +kernel
theorem dX11_init_102 : decode cX11_init 102 = .ok (.invokespecial 60, 3) := by decide +kernel
theorem dX11_init_105 : decode cX11_init 105 = .ok (.putfield 63, 3) := by decide +kernel
theorem dX11_init_108 : decode cX11_init 108 = .ok (.aload_n 0, 1) := by decide +kernel
theorem dX11_init_109 : decode cX11_init 109 = .ok (.new 67, 3) := by decide +kernel
theorem dX11_init_112 : decode cX11_init 112 = .ok (.dup, 1) := by decide +kernel
theorem dX11_init_113 : decode cX11_init 113 = .ok (.aload_n 0, 1) := by decide +kernel
theorem dX11_init_114 : decode cX11_init 114 = .ok (.getfield 19, 3) := by decide +kernel
theorem dX11_init_117 : decode cX11_init 117 = .ok (.invokespecial 69, 3) := by decide +kernel
theorem dX11_init_120 : decode cX11_init 120 = .ok (.putfield 70, 3) := by decide +kernel
theorem dX11_init_123 : decode cX11_init 123 = .ok (.aload_n 0, 1) := by decide +kernel
theorem dX11_init_124 : decode cX11_init 124 = .ok (.new 74, 3) := by decide +kernel
theorem dX11_init_127 : decode cX11_init 127 = .ok (.dup, 1) := by decide +kernel
theorem dX11_init_128 : decode cX11_init 128 = .ok (.aload_n 0, 1) := by decide +kernel
theorem dX11_init_129 : decode cX11_init 129 = .ok (.getfield 19, 3) := by decide +kernel
theorem dX11_init_132 : decode cX11_init 132 = .ok (.invokespecial 76, 3) := by decide +kernel
theorem dX11_init_135 : decode cX11_init 135 = .ok (.putfield 77, 3) := by decide +kernel
theorem dX11_init_138 : decode cX11_init 138 = .ok (.aload_n 0, 1) := by decide +kernel
theorem dX11_init_139 : decode cX11_init 139 = .ok (.iconst 0, 1) := by decide +kernel
theorem dX11_init_140 : decode cX11_init 140 = .ok (.putfield 81, 3) := by decide +kernel
theorem dX11_init_143 : decode cX11_init 143 = .ok (.aload_n 0, 1) := by decide +kernel
theorem dX11_init_144 : decode cX11_init 144 = .ok (.iconst 0, 1) := by decide +kernel
theorem dX11_init_145 : decode cX11_init 145 = .ok (.putfield 85, 3) := by decide +kernel
theorem dX11_init_148 : decode cX11_init 148 = .ok (.aload_n 0, 1) := by decide +kernel
theorem dX11_init_149 : decode cX11_init 149 = .ok (.iconst (-1), 1) := by decide +kernel
theorem dX11_init_150 : decode cX11_init 150 = .ok (.putfield 88, 3) := by decide +kernel
theorem dX11_init_153 : decode cX11_init 153 = .ok (.return_, 1) := by decide +kernel
theorem dX11_feed_0 : decode cX11_feed 0 = .ok (.aload_n 0, 1) := by decide +kernel
theorem dX11_feed_1 : decode cX11_feed 1 = .ok (.getfield 10, 3) := by decide +kernel
theorem dX11_feed_4 : decode cX11_feed 4 = .ok (.bipush 20, 2) := by decide +kernel
theorem dX11_feed_6 : decode cX11_feed 6 = .ok (.invokevirtual 91, 3) := by decide +kernel
theorem dX11_feed_9 : decode cX11_feed 9 = .ok (.ifCond .ne 5, 3) := by decide +kernel
theorem dX11_feed_12 : decode cX11_feed 12 = .ok (.iconst (-1), 1) := by decide +kernel
theorem dX11_feed_13 : decode cX11_feed 13 = .ok (.ireturn, 1) := by decide +kernel
theorem dX11_feed_14 : decode cX11_feed 14 = .ok (.aload_n 0, 1) := by decide +kernel
theorem dX11_feed_15 : decode cX11_feed 15 = .ok (.getfield 10, 3) := by decide +kernel
theorem dX11_feed_18 : decode cX11_feed 18 = .ok (.iload_n 1, 1) := by decide +kernel
theorem dX11_feed_19 : decode cX11_feed 19 = .ok (.invokevirtual 95, 3) := by decide +kernel
theorem dX11_feed_22 : decode cX11_feed 22 = .ok (.aload_n 0, 1) := by decide +kernel
theorem dX11_feed_23 : decode cX11_feed 23 = .ok (.getfield 10, 3) := by decide +kernel
theorem dX11_feed_26 : decode cX11_feed 26 = .ok (.iload_n 2, 1) := by decide +kernel
theorem dX11_feed_27 : decode cX11_feed 27 = .ok (.invokevirtual 95, 3) := by decide +kernel
theorem dX11_feed_30 : decode cX11_feed 30 = .ok (.aload_n 0, 1) := by decide +kernel
theorem dX11_feed_31 : decode cX11_feed 31 = .ok (.getfield 10, 3) := by decide +kernel
theorem dX11_feed_34 : decode cX11_feed 34 = .ok (.iload_n 3, 1) := by decide +kernel
theorem dX11_feed_35 : decode cX11_feed 35 = .ok (.invokevirtual 95, 3) := by decide +kernel
theorem dX11_feed_38 : decode cX11_feed 38 = .ok (.aload_n 0, 1) := by decide +kernel
theorem dX11_feed_39 : decode cX11_feed 39 = .ok (.getfield 10, 3) := by decide +kernel
theorem dX11_feed_42 : decode cX11_feed 42 = .ok (.iload 4, 2) := by decide +kernel
theorem dX11_feed_44 : decode cX11_feed 44 = .ok (.invokevirtual 95, 3) := by decide +kernel
theorem dX11_feed_47 : decode cX11_feed 47 = .ok (.aload_n 0, 1) := by decide +kernel
theorem dX11_feed_48 : decode cX11_feed 48 = .ok (.getfield 10, 3) := by decide +kernel
theorem dX11_feed_51 : decode cX11_feed 51 = .ok (.iload 5, 2) := by decide +kernel
theorem dX11_feed_53 : decode cX11_feed 53 = .ok (.invokevirtual 95, 3) := by decide +kernel
theorem dX11_feed_56 : decode cX11_feed 56 = .ok (.aload_n 0, 1) := by decide +kernel
theorem dX11_feed_57 : decode cX11_feed 57 = .ok (.getfield 10, 3) := by decide +kernel
theorem dX11_feed_60 : decode cX11_feed 60 = .ok (.getfield 99, 3) := by decide +kernel
theorem dX11_feed_63 : decode cX11_feed 63 = .ok (.ireturn, 1) := by decide +kernel
theorem dX11_piece_0 : decode cX11_piece 0 = .ok (.iload_n 1, 1) := by decide +kernel
theorem dX11_piece_1 : decode cX11_piece 1 = .ok (.ifCond .lt 14, 3) := by decide +kernel
theorem dX11_piece_4 : decode cX11_piece 4 = .ok (.iload_n 1, 1) := by decide +kernel
theorem dX11_piece_5 : decode cX11_piece 5 = .ok (.aload_n 0, 1) := by decide +kernel
theorem dX11_piece_6 : decode cX11_piece 6 = .ok (.getfield 10, 3) := by decide +kernel
theorem dX11_piece_9 : decode cX11_piece 9 = .ok (.getfield 99, 3) := by decide +kernel
theorem dX11_piece_12 : decode cX11_piece 12 = .ok (.if_icmp .le 9, 3) := by decide +kernel
theorem dX11_piece_15 : decode cX11_piece 15 = .ok (.aload_n 0, 1) := by decide +kernel
theorem dX11_piece_16 : decode cX11_piece 16 = .ok (.iconst 2, 1) := by decide +kernel
theorem dX11_piece_17 : decode cX11_piece 17 = .ok (.invokevirtual 102, 3) := by decide +kernel
theorem dX11_piece_20 : decode cX11_piece 20 = .ok (.ireturn, 1) := by decide +kernel
theorem dX11_piece_21 : decode cX11_piece 21 = .ok (.aload_n 0, 1) := by decide +kernel
theorem dX11_piece_22 : decode cX11_piece 22 = .ok (.aload_n 0, 1) := by decide +kernel
theorem dX11_piece_23 : decode cX11_piece 23 = .ok (.getfield 31, 3) := by decide +kernel
theorem dX11_piece_26 : decode cX11_piece 26 = .ok (.iload_n 1, 1) := by decide +kernel
theorem dX11_piece_27 : decode cX11_piece 27 = .ok (.aload_n 0, 1) := by decide +kernel
theorem dX11_piece_28 : decode cX11_piece 28 = .ok (.getfield 23, 3) := by decide +kernel
theorem dX11_piece_31 : decode cX11_piece 31 = .ok (.invokevirtual 106, 3) := by decide +kernel
theorem dX11_piece_34 : decode cX11_piece 34 = .ok (.putfield 85, 3) := by decide +kernel
theorem dX11_piece_37 : decode cX11_piece 37 = .ok (.aload_n 0, 1) := by decide +kernel
theorem dX11_piece_38 : decode cX11_piece 38 = .ok (.getfield 10, 3) := by decide +kernel
theorem dX11_piece_41 : decode cX11_piece 41 = .ok (.iconst 0, 1) := by decide +kernel
theorem dX11_piece_42 : decode cX11_piece 42 = .ok (.putfield 99, 3) := by decide +kernel
theorem dX11_piece_45 : decode cX11_piece 45 = .ok (.aload_n 0, 1) := by decide +kernel
theorem dX11_piece_46 : decode cX11_piece 46 = .ok (.getfield 85, 3) := by decide +kernel
theorem dX11_piece_49 : decode cX11_piece 49 = .ok (.ifCond .eq 20, 3) := by decide +kernel
theorem dX11_piece_52 : decode cX11_piece 52 = .ok (.aload_n 0, 1) := by decide +kernel
theorem dX11_piece_53 : decode cX11_piece 53 = .ok (.aload_n 0, 1) := by decide +kernel
theorem dX11_piece_54 : decode cX11_piece 54 = .ok (.getfield 31, 3) := by decide +kernel
theorem dX11_piece_57 : decode cX11_piece 57 = .ok (.getfield 110, 3) := by decide +kernel
theorem dX11_piece_60 : decode cX11_piece 60 = .ok (.putfield 88, 3) := by decide +kernel
theorem dX11_piece_63 : decode cX11_piece 63 = .ok (.aload_n 0, 1) := by decide +kernel
theorem dX11_piece_64 : decode cX11_piece 64 = .ok (.iconst 4, 1) := by decide +kernel
theorem dX11_piece_65 : decode cX11_piece 65 = .ok (.invokevirtual 102, 3) := by decide +kernel
theorem dX11_piece_68 : decode cX11_piece 68 = .ok (.ireturn, 1) := by decide +kernel
theorem dX11_piece_69 : decode cX11_piece 69 = .ok (.aload_n 0, 1) := by decide +kernel
theorem dX11_piece_70 : decode cX11_piece 70 = .ok (.getfield 19, 3) := by decide +kernel
theorem dX11_piece_73 : decode cX11_piece 73 = .ok (.astore_n 2, 1) := by decide +kernel
theorem dX11_piece_74 : decode cX11_piece 74 = .ok (.aload_n 0, 1) := by decide +kernel
theorem dX11_piece_75 : decode cX11_piece 75 = .ok (.aload_n 0, 1) := by decide +kernel
theorem dX11_piece_76 : decode cX11_piece 76 = .ok (.getfield 23, 3) := by decide +kernel
theorem dX11_piece_79 : decode cX11_piece 79 = .ok (.putfield 19, 3) := by decide +kernel
theorem dX11_piece_82 : decode cX11_piece 82 = .ok (.aload_n 0, 1) := by decide +kernel
theorem dX11_piece_83 : decode cX11_piece 83 = .ok (.aload_n 2, 1) := by decide +kernel
theorem dX11_piece_84 : decode cX11_piece 84 = .ok (.putfield 23, 3) := by decide +kernel
theorem dX11_piece_87 : decode cX11_piece 87 = .ok (.aload_n 0, 1) := by decide +kernel
theorem dX11_piece_88 : decode cX11_piece 88 = .ok (.invokevirtual 113, 3) := by decide +kernel
theorem dX11_piece_91 : decode cX11_piece 91 = .ok (.aload_n 0, 1) := by decide +kernel
theorem dX11_piece_92 : decode cX11_piece 92 = .ok (.aload_n 0, 1) := by decide +kernel
theorem dX11_piece_93 : decode cX11_piece 93 = .ok (.getfield 19, 3) := by decide +kernel
theorem dX11_piece_96 : decode cX11_piece 96 = .ok (.getfield 116, 3) := by decide +kernel
theorem dX11_piece_99 : decode cX11_piece 99 = .ok (.invokevirtual 119, 3) := by decide +kernel
theorem dX11_piece_102 : decode cX11_piece 102 = .ok (.ireturn, 1) := by decide +kernel
theorem dX11_startAnew_0 : decode cX11_startAnew 0 = .ok (.aload_n 0, 1) := by decide +kernel
theorem dX11_startAnew_1 : decode cX11_startAnew 1 = .ok (.getfield 19, 3) := by decide +kernel
theorem dX11_startAnew_4 : decode cX11_startAnew 4 = .ok (.invokevirtual 122, 3) := by decide +kernel
theorem dX11_startAnew_7 : decode cX11_startAnew 7 = .ok (.aload_n 0, 1) := by decide +kernel
theorem dX11_startAnew_8 : decode cX11_startAnew 8 = .ok (.getfield 38, 3) := by decide +kernel
theorem dX11_startAnew_11 : decode cX11_startAnew 11 = .ok (.aload_n 0, 1) := by decide +kernel
theorem dX11_startAnew_12 : decode cX11_startAnew 12 = .ok (.getfield 19, 3) := by decide +kernel
theorem dX11_startAnew_15 : decode cX11_startAnew 15 = .ok (.getfield 125, 3) := by decide +kernel
theorem dX11_startAnew_18 : decode cX11_startAnew 18 = .ok (.iconst 0, 1) := by decide +kernel
theorem dX11_startAnew_19 : decode cX11_startAnew 19 = .ok (.iaload, 1) := by decide +kernel
theorem dX11_startAnew_20 : decode cX11_startAnew 20 = .ok (.invokevirtual 129, 3) := by decide +kernel
theorem dX11_startAnew_23 : decode cX11_startAnew 23 = .ok (.aload_n 0, 1) := by decide +kernel
theorem dX11_startAnew_24 : decode cX11_startAnew 24 = .ok (.getfield 45, 3) := by decide +kernel
theorem dX11_startAnew_27 : decode cX11_startAnew 27 = .ok (.invokevirtual 132, 3) := by decide +kernel
theorem dX11_startAnew_30 : decode cX11_startAnew 30 = .ok (.aload_n 0, 1) := by decide +kernel
theorem dX11_startAnew_31 : decode cX11_startAnew 31 = .ok (.getfield 54, 3) := by decide +kernel
theorem dX11_startAnew_34 : decode cX11_startAnew 34 = .ok (.aload_n 0, 1) := by decide +kernel
theorem dX11_startAnew_35 : decode cX11_startAnew 35 = .ok (.getfield 19, 3) := by decide +kernel
theorem dX11_startAnew_38 : decode cX11_startAnew 38 = .ok (.iconst (-1), 1) := by decide +kernel
theorem dX11_startAnew_39 : decode cX11_startAnew 39 = .ok (.invokevirtual 135, 3) := by decide +kernel
theorem dX11_startAnew_42 : decode cX11_startAnew 42 = .ok (.aload_n 0, 1) := by decide +kernel
theorem dX11_startAnew_43 : decode cX11_startAnew 43 = .ok (.getfield 70, 3) := by decide +kernel
