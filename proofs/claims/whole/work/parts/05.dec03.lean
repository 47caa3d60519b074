/-! the instructions -/
theorem d_ke_reachedBetween_18 : decode prog_3_method_5_code 18 = .ok (.invokevirtual 43, 3) := by decide +kernel
theorem d_ke_reachedBetween_21 : decode prog_3_method_5_code 21 = .ok (.iload_n 2, 1) := by decide +kernel
theorem d_ke_reachedBetween_22 : decode prog_3_method_5_code 22 = .ok (.iload_n 3, 1) := by decide +kernel
theorem d_ke_reachedBetween_23 : decode prog_3_method_5_code 23 = .ok (.iload 5, 2) := by decide +kernel
theorem d_ke_reachedBetween_25 : decode prog_3_method_5_code 25 = .ok (.invokestatic 47, 3) := by decide +kernel
theorem d_ke_reachedBetween_28 : decode prog_3_method_5_code 28 = .ok (.land, 1) := by decide +kernel
theorem d_ke_reachedBetween_29 : decode prog_3_method_5_code 29 = .ok (.invokestatic 33, 3) := by decide +kernel
theorem d_ke_reachedBetween_32 : decode prog_3_method_5_code 32 = .ok (.iadd, 1) := by decide +kernel
theorem d_ke_reachedBetween_33 : decode prog_3_method_5_code 33 = .ok (.istore 4, 2) := by decide +kernel
theorem d_ke_reachedBetween_35 : decode prog_3_method_5_code 35 = .ok (.iinc 5 1, 3) := by decide +kernel
theorem d_ke_reachedBetween_38 : decode prog_3_method_5_code 38 = .ok (.goto (-32), 3) := by decide +kernel
theorem d_ke_reachedBetween_41 : decode prog_3_method_5_code 41 = .ok (.iload 4, 2) := by decide +kernel
theorem d_ke_reachedBetween_43 : decode prog_3_method_5_code 43 = .ok (.ireturn, 1) := by decide +kernel
theorem d_ke_shifted_0 : decode prog_3_method_7_code 0 = .ok (.iload_n 2, 1) := by decide +kernel
theorem d_ke_shifted_1 : decode prog_3_method_7_code 1 = .ok (.bipush 24, 2) := by decide +kernel
theorem d_ke_shifted_3 : decode prog_3_method_7_code 3 = .ok (.iadd, 1) := by decide +kernel
theorem d_ke_shifted_4 : decode prog_3_method_7_code 4 = .ok (.istore 4, 2) := by decide +kernel
theorem d_ke_shifted_6 : decode prog_3_method_7_code 6 = .ok (.iload_n 3, 1) := by decide +kernel
theorem d_ke_shifted_7 : decode prog_3_method_7_code 7 = .ok (.ifCond .ne 8, 3) := by decide +kernel
theorem d_ke_shifted_10 : decode prog_3_method_7_code 10 = .ok (.lload_n 0, 1) := by decide +kernel
theorem d_ke_shifted_11 : decode prog_3_method_7_code 11 = .ok (.iload 4, 2) := by decide +kernel
theorem d_ke_shifted_13 : decode prog_3_method_7_code 13 = .ok (.lshl, 1) := by decide +kernel
theorem d_ke_shifted_14 : decode prog_3_method_7_code 14 = .ok (.lreturn, 1) := by decide +kernel
theorem d_ke_shifted_15 : decode prog_3_method_7_code 15 = .ok (.iload 4, 2) := by decide +kernel
theorem d_ke_shifted_17 : decode prog_3_method_7_code 17 = .ok (.ifCond .ne 7, 3) := by decide +kernel
theorem d_ke_shifted_20 : decode prog_3_method_7_code 20 = .ok (.lconst 0, 1) := by decide +kernel
theorem d_ke_shifted_21 : decode prog_3_method_7_code 21 = .ok (.goto 10, 3) := by decide +kernel
theorem d_ke_shifted_24 : decode prog_3_method_7_code 24 = .ok (.lload_n 0, 1) := by decide +kernel
theorem d_ke_shifted_25 : decode prog_3_method_7_code 25 = .ok (.bipush 64, 2) := by decide +kernel
theorem d_ke_shifted_27 : decode prog_3_method_7_code 27 = .ok (.iload 4, 2) := by decide +kernel
theorem d_ke_shifted_29 : decode prog_3_method_7_code 29 = .ok (.isub, 1) := by decide +kernel
theorem d_ke_shifted_30 : decode prog_3_method_7_code 30 = .ok (.lushr, 1) := by decide +kernel
theorem d_ke_shifted_31 : decode prog_3_method_7_code 31 = .ok (.lreturn, 1) := by decide +kernel
theorem d_ke_span_0 : decode prog_3_method_8_code 0 = .ok (.bipush 24, 2) := by decide +kernel
theorem d_ke_span_2 : decode prog_3_method_8_code 2 = .ok (.iload_n 2, 1) := by decide +kernel
theorem d_ke_span_3 : decode prog_3_method_8_code 3 = .ok (.bipush 64, 2) := by decide +kernel
theorem d_ke_span_5 : decode prog_3_method_8_code 5 = .ok (.imul, 1) := by decide +kernel
theorem d_ke_span_6 : decode prog_3_method_8_code 6 = .ok (.isub, 1) := by decide +kernel
theorem d_ke_span_7 : decode prog_3_method_8_code 7 = .ok (.istore_n 3, 1) := by decide +kernel
theorem d_ke_span_8 : decode prog_3_method_8_code 8 = .ok (.iload_n 0, 1) := by decide +kernel
theorem d_ke_span_9 : decode prog_3_method_8_code 9 = .ok (.iload_n 3, 1) := by decide +kernel
theorem d_ke_span_10 : decode prog_3_method_8_code 10 = .ok (.iadd, 1) := by decide +kernel
theorem d_ke_span_11 : decode prog_3_method_8_code 11 = .ok (.iconst 0, 1) := by decide +kernel
theorem d_ke_span_12 : decode prog_3_method_8_code 12 = .ok (.invokestatic 59, 3) := by decide +kernel
theorem d_ke_span_15 : decode prog_3_method_8_code 15 = .ok (.istore 4, 2) := by decide +kernel
theorem d_ke_span_17 : decode prog_3_method_8_code 17 = .ok (.iload_n 1, 1) := by decide +kernel
theorem d_ke_span_18 : decode prog_3_method_8_code 18 = .ok (.iload_n 3, 1) := by decide +kernel
theorem d_ke_span_19 : decode prog_3_method_8_code 19 = .ok (.iadd, 1) := by decide +kernel
theorem d_ke_span_20 : decode prog_3_method_8_code 20 = .ok (.bipush 63, 2) := by decide +kernel
theorem d_ke_span_22 : decode prog_3_method_8_code 22 = .ok (.invokestatic 65, 3) := by decide +kernel
theorem d_ke_span_25 : decode prog_3_method_8_code 25 = .ok (.istore 5, 2) := by decide +kernel
theorem d_ke_span_27 : decode prog_3_method_8_code 27 = .ok (.iload 4, 2) := by decide +kernel
theorem d_ke_span_29 : decode prog_3_method_8_code 29 = .ok (.iload 5, 2) := by decide +kernel
theorem d_ke_span_31 : decode prog_3_method_8_code 31 = .ok (.if_icmp .le 5, 3) := by decide +kernel
theorem d_ke_span_34 : decode prog_3_method_8_code 34 = .ok (.lconst 0, 1) := by decide +kernel
theorem d_ke_span_35 : decode prog_3_method_8_code 35 = .ok (.lreturn, 1) := by decide +kernel
theorem d_ke_span_36 : decode prog_3_method_8_code 36 = .ok (.ldc2_w 68, 3) := by decide +kernel
theorem d_ke_span_39 : decode prog_3_method_8_code 39 = .ok (.iload 4, 2) := by decide +kernel
theorem d_ke_span_41 : decode prog_3_method_8_code 41 = .ok (.lshl, 1) := by decide +kernel
theorem d_ke_span_42 : decode prog_3_method_8_code 42 = .ok (.ldc2_w 68, 3) := by decide +kernel
theorem d_ke_span_45 : decode prog_3_method_8_code 45 = .ok (.bipush 63, 2) := by decide +kernel
theorem d_ke_span_47 : decode prog_3_method_8_code 47 = .ok (.iload 5, 2) := by decide +kernel
theorem d_ke_span_49 : decode prog_3_method_8_code 49 = .ok (.isub, 1) := by decide +kernel
theorem d_ke_span_50 : decode prog_3_method_8_code 50 = .ok (.lushr, 1) := by decide +kernel
theorem d_ke_span_51 : decode prog_3_method_8_code 51 = .ok (.land, 1) := by decide +kernel
theorem d_ke_span_52 : decode prog_3_method_8_code 52 = .ok (.lreturn, 1) := by decide +kernel
theorem d_st_addStop_0 : decode prog_5_method_2_code 0 = .ok (.aload_n 0, 1) := by decide +kernel
theorem d_st_addStop_1 : decode prog_5_method_2_code 1 = .ok (.getfield 34, 3) := by decide +kernel
theorem d_st_addStop_4 : decode prog_5_method_2_code 4 = .ok (.istore 5, 2) := by decide +kernel
theorem d_st_addStop_6 : decode prog_5_method_2_code 6 = .ok (.aload_n 0, 1) := by decide +kernel
theorem d_st_addStop_7 : decode prog_5_method_2_code 7 = .ok (.getfield 9, 3) := by decide +kernel
theorem d_st_addStop_10 : decode prog_5_method_2_code 10 = .ok (.iload 5, 2) := by decide +kernel
theorem d_st_addStop_12 : decode prog_5_method_2_code 12 = .ok (.iload_n 1, 1) := by decide +kernel
theorem d_st_addStop_13 : decode prog_5_method_2_code 13 = .ok (.iastore, 1) := by decide +kernel
theorem d_st_addStop_14 : decode prog_5_method_2_code 14 = .ok (.aload_n 0, 1) := by decide +kernel
theorem d_st_addStop_15 : decode prog_5_method_2_code 15 = .ok (.getfield 15, 3) := by decide +kernel
theorem d_st_addStop_18 : decode prog_5_method_2_code 18 = .ok (.iload 5, 2) := by decide +kernel
theorem d_st_addStop_20 : decode prog_5_method_2_code 20 = .ok (.iload_n 2, 1) := by decide +kernel
theorem d_st_addStop_21 : decode prog_5_method_2_code 21 = .ok (.iastore, 1) := by decide +kernel
theorem d_st_addStop_22 : decode prog_5_method_2_code 22 = .ok (.aload_n 0, 1) := by decide +kernel
theorem d_st_addStop_23 : decode prog_5_method_2_code 23 = .ok (.getfield 18, 3) := by decide +kernel
theorem d_st_addStop_26 : decode prog_5_method_2_code 26 = .ok (.iload 5, 2) := by decide +kernel
theorem d_st_addStop_28 : decode prog_5_method_2_code 28 = .ok (.iload_n 3, 1) := by decide +kernel
theorem d_st_addStop_29 : decode prog_5_method_2_code 29 = .ok (.iastore, 1) := by decide +kernel
theorem d_st_addStop_30 : decode prog_5_method_2_code 30 = .ok (.aload_n 0, 1) := by decide +kernel
theorem d_st_addStop_31 : decode prog_5_method_2_code 31 = .ok (.getfield 21, 3) := by decide +kernel
theorem d_st_addStop_34 : decode prog_5_method_2_code 34 = .ok (.iload 5, 2) := by decide +kernel
theorem d_st_addStop_36 : decode prog_5_method_2_code 36 = .ok (.iload 4, 2) := by decide +kernel
theorem d_st_addStop_38 : decode prog_5_method_2_code 38 = .ok (.iastore, 1) := by decide +kernel
theorem d_st_addStop_39 : decode prog_5_method_2_code 39 = .ok (.aload_n 0, 1) := by decide +kernel
theorem d_st_addStop_40 : decode prog_5_method_2_code 40 = .ok (.getfield 30, 3) := by decide +kernel
theorem d_st_addStop_43 : decode prog_5_method_2_code 43 = .ok (.iload_n 1, 1) := by decide +kernel
theorem d_st_addStop_44 : decode prog_5_method_2_code 44 = .ok (.aload_n 0, 1) := by decide +kernel
theorem d_st_addStop_45 : decode prog_5_method_2_code 45 = .ok (.getfield 30, 3) := by decide +kernel
theorem d_st_addStop_48 : decode prog_5_method_2_code 48 = .ok (.iload_n 1, 1) := by decide +kernel
theorem d_st_addStop_49 : decode prog_5_method_2_code 49 = .ok (.laload, 1) := by decide +kernel
theorem d_st_addStop_50 : decode prog_5_method_2_code 50 = .ok (.iload 5, 2) := by decide +kernel
theorem d_st_addStop_52 : decode prog_5_method_2_code 52 = .ok (.iconst 1, 1) := by decide +kernel
theorem d_st_addStop_53 : decode prog_5_method_2_code 53 = .ok (.invokestatic 42, 3) := by decide +kernel
theorem d_st_addStop_56 : decode prog_5_method_2_code 56 = .ok (.lastore, 1) := by decide +kernel
theorem d_st_addStop_57 : decode prog_5_method_2_code 57 = .ok (.aload_n 0, 1) := by decide +kernel
theorem d_st_addStop_58 : decode prog_5_method_2_code 58 = .ok (.dup, 1) := by decide +kernel
theorem d_st_addStop_59 : decode prog_5_method_2_code 59 = .ok (.getfield 34, 3) := by decide +kernel
theorem d_st_addStop_62 : decode prog_5_method_2_code 62 = .ok (.iconst 1, 1) := by decide +kernel
theorem d_st_addStop_63 : decode prog_5_method_2_code 63 = .ok (.iadd, 1) := by decide +kernel
theorem d_st_addStop_64 : decode prog_5_method_2_code 64 = .ok (.putfield 34, 3) := by decide +kernel
theorem d_st_addStop_67 : decode prog_5_method_2_code 67 = .ok (.iload 5, 2) := by decide +kernel
theorem d_st_addStop_69 : decode prog_5_method_2_code 69 = .ok (.ireturn, 1) := by decide +kernel
theorem d_st_all_0 : decode prog_5_method_3_code 0 = .ok (.lconst 1, 1) := by decide +kernel
theorem d_st_all_1 : decode prog_5_method_3_code 1 = .ok (.aload_n 0, 1) := by decide +kernel
theorem d_st_all_2 : decode prog_5_method_3_code 2 = .ok (.getfield 34, 3) := by decide +kernel
theorem d_st_all_5 : decode prog_5_method_3_code 5 = .ok (.lshl, 1) := by decide +kernel
theorem d_st_all_6 : decode prog_5_method_3_code 6 = .ok (.lconst 1, 1) := by decide +kernel
theorem d_st_all_7 : decode prog_5_method_3_code 7 = .ok (.lsub, 1) := by decide +kernel
theorem d_st_all_8 : decode prog_5_method_3_code 8 = .ok (.lreturn, 1) := by decide +kernel
theorem d_st_dropPulls_0 : decode prog_5_method_10_code 0 = .ok (.aload_n 0, 1) := by decide +kernel
theorem d_st_dropPulls_1 : decode prog_5_method_10_code 1 = .ok (.getfield 24, 3) := by decide +kernel
theorem d_st_dropPulls_4 : decode prog_5_method_10_code 4 = .ok (.iconst 0, 1) := by decide +kernel
theorem d_st_dropPulls_5 : decode prog_5_method_10_code 5 = .ok (.invokestatic 64, 3) := by decide +kernel
theorem d_st_dropPulls_8 : decode prog_5_method_10_code 8 = .ok (.return_, 1) := by decide +kernel
theorem d_st_init_0 : decode prog_5_method_1_code 0 = .ok (.aload_n 0, 1) := by decide +kernel
theorem d_st_init_1 : decode prog_5_method_1_code 1 = .ok (.invokespecial 3, 3) := by decide +kernel
theorem d_st_init_4 : decode prog_5_method_1_code 4 = .ok (.aload_n 0, 1) := by decide +kernel
theorem d_st_init_5 : decode prog_5_method_1_code 5 = .ok (.bipush 48, 2) := by decide +kernel
theorem d_st_init_7 : decode prog_5_method_1_code 7 = .ok (.newarray .int, 2) := by decide +kernel
theorem d_st_init_9 : decode prog_5_method_1_code 9 = .ok (.putfield 9, 3) := by decide +kernel
theorem d_st_init_12 : decode prog_5_method_1_code 12 = .ok (.aload_n 0, 1) := by decide +kernel
theorem d_st_init_13 : decode prog_5_method_1_code 13 = .ok (.bipush 48, 2) := by decide +kernel
theorem d_st_init_15 : decode prog_5_method_1_code 15 = .ok (.newarray .int, 2) := by decide +kernel
theorem d_st_init_17 : decode prog_5_method_1_code 17 = .ok (.putfield 15, 3) := by decide +kernel
theorem d_st_init_20 : decode prog_5_method_1_code 20 = .ok (.aload_n 0, 1) := by decide +kernel
theorem d_st_init_21 : decode prog_5_method_1_code 21 = .ok (.bipush 48, 2) := by decide +kernel
theorem d_st_init_23 : decode prog_5_method_1_code 23 = .ok (.newarray .int, 2) := by decide +kernel
theorem d_st_init_25 : decode prog_5_method_1_code 25 = .ok (.putfield 18, 3) := by decide +kernel
theorem d_st_init_28 : decode prog_5_method_1_code 28 = .ok (.aload_n 0, 1) := by decide +kernel
theorem d_st_init_29 : decode prog_5_method_1_code 29 = .ok (.bipush 48, 2) := by decide +kernel
theorem d_st_init_31 : decode prog_5_method_1_code 31 = .ok (.newarray .int, 2) := by decide +kernel
theorem d_st_init_33 : decode prog_5_method_1_code 33 = .ok (.putfield 21, 3) := by decide +kernel
theorem d_st_init_36 : decode prog_5_method_1_code 36 = .ok (.aload_n 0, 1) := by decide +kernel
theorem d_st_init_37 : decode prog_5_method_1_code 37 = .ok (.bipush 48, 2) := by decide +kernel
theorem d_st_init_39 : decode prog_5_method_1_code 39 = .ok (.newarray .int, 2) := by decide +kernel
theorem d_st_init_41 : decode prog_5_method_1_code 41 = .ok (.putfield 24, 3) := by decide +kernel
theorem d_st_init_44 : decode prog_5_method_1_code 44 = .ok (.aload_n 0, 1) := by decide +kernel
theorem d_st_init_45 : decode prog_5_method_1_code 45 = .ok (.bipush 48, 2) := by decide +kernel
theorem d_st_init_47 : decode prog_5_method_1_code 47 = .ok (.newarray .int, 2) := by decide +kernel
theorem d_st_init_49 : decode prog_5_method_1_code 49 = .ok (.putfield 27, 3) := by decide +kernel
theorem d_st_init_52 : decode prog_5_method_1_code 52 = .ok (.aload_n 0, 1) := by decide +kernel
theorem d_st_init_53 : decode prog_5_method_1_code 53 = .ok (.iconst 5, 1) := by decide +kernel
theorem d_st_init_54 : decode prog_5_method_1_code 54 = .ok (.newarray .long, 2) := by decide +kernel
theorem d_st_init_56 : decode prog_5_method_1_code 56 = .ok (.putfield 30, 3) := by decide +kernel
theorem d_st_init_59 : decode prog_5_method_1_code 59 = .ok (.aload_n 0, 1) := by decide +kernel
theorem d_st_init_60 : decode prog_5_method_1_code 60 = .ok (.iconst 0, 1) := by decide +kernel
theorem d_st_init_61 : decode prog_5_method_1_code 61 = .ok (.putfield 34, 3) := by decide +kernel
theorem d_st_init_64 : decode prog_5_method_1_code 64 = .ok (.aload_n 0, 1) := by decide +kernel
theorem d_st_init_65 : decode prog_5_method_1_code 65 = .ok (.lconst 0, 1) := by decide +kernel
theorem d_st_init_66 : decode prog_5_method_1_code 66 = .ok (.putfield 38, 3) := by decide +kernel
theorem d_st_init_69 : decode prog_5_method_1_code 69 = .ok (.return_, 1) := by decide +kernel
theorem d_st_moveByHand_0 : decode prog_5_method_6_code 0 = .ok (.aload_n 0, 1) := by decide +kernel
theorem d_st_moveByHand_1 : decode prog_5_method_6_code 1 = .ok (.aload_n 0, 1) := by decide +kernel
theorem d_st_moveByHand_2 : decode prog_5_method_6_code 2 = .ok (.getfield 38, 3) := by decide +kernel
theorem d_st_moveByHand_5 : decode prog_5_method_6_code 5 = .ok (.iload_n 1, 1) := by decide +kernel
theorem d_st_moveByHand_6 : decode prog_5_method_6_code 6 = .ok (.iload_n 2, 1) := by decide +kernel
theorem d_st_moveByHand_7 : decode prog_5_method_6_code 7 = .ok (.invokestatic 42, 3) := by decide +kernel
theorem d_st_moveByHand_10 : decode prog_5_method_6_code 10 = .ok (.putfield 38, 3) := by decide +kernel
theorem d_st_moveByHand_13 : decode prog_5_method_6_code 13 = .ok (.aload_n 0, 1) := by decide +kernel
theorem d_st_moveByHand_14 : decode prog_5_method_6_code 14 = .ok (.getfield 24, 3) := by decide +kernel
theorem d_st_moveByHand_17 : decode prog_5_method_6_code 17 = .ok (.iload_n 1, 1) := by decide +kernel
theorem d_st_moveByHand_18 : decode prog_5_method_6_code 18 = .ok (.iconst 0, 1) := by decide +kernel
theorem d_st_moveByHand_19 : decode prog_5_method_6_code 19 = .ok (.iastore, 1) := by decide +kernel
theorem d_st_moveByHand_20 : decode prog_5_method_6_code 20 = .ok (.return_, 1) := by decide +kernel
theorem d_st_pullFor_0 : decode prog_5_method_7_code 0 = .ok (.iconst 0, 1) := by decide +kernel
theorem d_st_pullFor_1 : decode prog_5_method_7_code 1 = .ok (.istore_n 2, 1) := by decide +kernel
theorem d_st_pullFor_2 : decode prog_5_method_7_code 2 = .ok (.iconst 0, 1) := by decide +kernel
theorem d_st_pullFor_3 : decode prog_5_method_7_code 3 = .ok (.istore_n 3, 1) := by decide +kernel
theorem d_st_pullFor_4 : decode prog_5_method_7_code 4 = .ok (.iload_n 3, 1) := by decide +kernel
theorem d_st_pullFor_5 : decode prog_5_method_7_code 5 = .ok (.aload_n 0, 1) := by decide +kernel
theorem d_st_pullFor_6 : decode prog_5_method_7_code 6 = .ok (.getfield 34, 3) := by decide +kernel
theorem d_st_pullFor_9 : decode prog_5_method_7_code 9 = .ok (.if_icmp .ge 56, 3) := by decide +kernel
theorem d_st_pullFor_12 : decode prog_5_method_7_code 12 = .ok (.aload_n 0, 1) := by decide +kernel
theorem d_st_pullFor_13 : decode prog_5_method_7_code 13 = .ok (.getfield 24, 3) := by decide +kernel
theorem d_st_pullFor_16 : decode prog_5_method_7_code 16 = .ok (.iload_n 3, 1) := by decide +kernel
theorem d_st_pullFor_17 : decode prog_5_method_7_code 17 = .ok (.iaload, 1) := by decide +kernel
theorem d_st_pullFor_18 : decode prog_5_method_7_code 18 = .ok (.iload_n 1, 1) := by decide +kernel
theorem d_st_pullFor_19 : decode prog_5_method_7_code 19 = .ok (.if_icmp .le 16, 3) := by decide +kernel
theorem d_st_pullFor_22 : decode prog_5_method_7_code 22 = .ok (.aload_n 0, 1) := by decide +kernel
theorem d_st_pullFor_23 : decode prog_5_method_7_code 23 = .ok (.getfield 24, 3) := by decide +kernel
theorem d_st_pullFor_26 : decode prog_5_method_7_code 26 = .ok (.iload_n 3, 1) := by decide +kernel
theorem d_st_pullFor_27 : decode prog_5_method_7_code 27 = .ok (.dup2, 1) := by decide +kernel
theorem d_st_pullFor_28 : decode prog_5_method_7_code 28 = .ok (.iaload, 1) := by decide +kernel
theorem d_st_pullFor_29 : decode prog_5_method_7_code 29 = .ok (.iload_n 1, 1) := by decide +kernel
theorem d_st_pullFor_30 : decode prog_5_method_7_code 30 = .ok (.isub, 1) := by decide +kernel
theorem d_st_pullFor_31 : decode prog_5_method_7_code 31 = .ok (.iastore, 1) := by decide +kernel
theorem d_st_pullFor_32 : decode prog_5_method_7_code 32 = .ok (.goto 27, 3) := by decide +kernel
theorem d_st_pullFor_35 : decode prog_5_method_7_code 35 = .ok (.aload_n 0, 1) := by decide +kernel
theorem d_st_pullFor_36 : decode prog_5_method_7_code 36 = .ok (.getfield 24, 3) := by decide +kernel
theorem d_st_pullFor_39 : decode prog_5_method_7_code 39 = .ok (.iload_n 3, 1) := by decide +kernel
theorem d_st_pullFor_40 : decode prog_5_method_7_code 40 = .ok (.iaload, 1) := by decide +kernel
theorem d_st_pullFor_41 : decode prog_5_method_7_code 41 = .ok (.ifCond .le 18, 3) := by decide +kernel
theorem d_st_pullFor_44 : decode prog_5_method_7_code 44 = .ok (.aload_n 0, 1) := by decide +kernel
theorem d_st_pullFor_45 : decode prog_5_method_7_code 45 = .ok (.getfield 24, 3) := by decide +kernel
theorem d_st_pullFor_48 : decode prog_5_method_7_code 48 = .ok (.iload_n 3, 1) := by decide +kernel
theorem d_st_pullFor_49 : decode prog_5_method_7_code 49 = .ok (.iconst 0, 1) := by decide +kernel
theorem d_st_pullFor_50 : decode prog_5_method_7_code 50 = .ok (.iastore, 1) := by decide +kernel
theorem d_st_pullFor_51 : decode prog_5_method_7_code 51 = .ok (.iload_n 2, 1) := by decide +kernel
theorem d_st_pullFor_52 : decode prog_5_method_7_code 52 = .ok (.aload_n 0, 1) := by decide +kernel
theorem d_st_pullFor_53 : decode prog_5_method_7_code 53 = .ok (.iload_n 3, 1) := by decide +kernel
theorem d_st_pullFor_54 : decode prog_5_method_7_code 54 = .ok (.invokevirtual 60, 3) := by decide +kernel
theorem d_st_pullFor_57 : decode prog_5_method_7_code 57 = .ok (.iadd, 1) := by decide +kernel
theorem d_st_pullFor_58 : decode prog_5_method_7_code 58 = .ok (.istore_n 2, 1) := by decide +kernel
theorem d_st_pullFor_59 : decode prog_5_method_7_code 59 = .ok (.iinc 3 1, 3) := by decide +kernel
theorem d_st_pullFor_62 : decode prog_5_method_7_code 62 = .ok (.goto (-58), 3) := by decide +kernel
theorem d_st_pullFor_65 : decode prog_5_method_7_code 65 = .ok (.iload_n 2, 1) := by decide +kernel
theorem d_st_pullFor_66 : decode prog_5_method_7_code 66 = .ok (.ireturn, 1) := by decide +kernel
theorem d_st_pulls_0 : decode prog_5_method_9_code 0 = .ok (.iconst 0, 1) := by decide +kernel
theorem d_st_pulls_1 : decode prog_5_method_9_code 1 = .ok (.istore_n 1, 1) := by decide +kernel
theorem d_st_pulls_2 : decode prog_5_method_9_code 2 = .ok (.iconst 0, 1) := by decide +kernel
theorem d_st_pulls_3 : decode prog_5_method_9_code 3 = .ok (.istore_n 2, 1) := by decide +kernel
theorem d_st_pulls_4 : decode prog_5_method_9_code 4 = .ok (.iload_n 2, 1) := by decide +kernel
theorem d_st_pulls_5 : decode prog_5_method_9_code 5 = .ok (.aload_n 0, 1) := by decide +kernel
theorem d_st_pulls_6 : decode prog_5_method_9_code 6 = .ok (.getfield 34, 3) := by decide +kernel
theorem d_st_pulls_9 : decode prog_5_method_9_code 9 = .ok (.if_icmp .ge 21, 3) := by decide +kernel
theorem d_st_pulls_12 : decode prog_5_method_9_code 12 = .ok (.aload_n 0, 1) := by decide +kernel
theorem d_st_pulls_13 : decode prog_5_method_9_code 13 = .ok (.getfield 24, 3) := by decide +kernel
theorem d_st_pulls_16 : decode prog_5_method_9_code 16 = .ok (.iload_n 2, 1) := by decide +kernel
theorem d_st_pulls_17 : decode prog_5_method_9_code 17 = .ok (.iaload, 1) := by decide +kernel
theorem d_st_pulls_18 : decode prog_5_method_9_code 18 = .ok (.ifCond .le 6, 3) := by decide +kernel
theorem d_st_pulls_21 : decode prog_5_method_9_code 21 = .ok (.iinc 1 1, 3) := by decide +kernel
theorem d_st_pulls_24 : decode prog_5_method_9_code 24 = .ok (.iinc 2 1, 3) := by decide +kernel
theorem d_st_pulls_27 : decode prog_5_method_9_code 27 = .ok (.goto (-23), 3) := by decide +kernel
theorem d_st_pulls_30 : decode prog_5_method_9_code 30 = .ok (.iload_n 1, 1) := by decide +kernel
theorem d_st_pulls_31 : decode prog_5_method_9_code 31 = .ok (.ireturn, 1) := by decide +kernel
theorem d_st_recall_0 : decode prog_5_method_5_code 0 = .ok (.aload_n 0, 1) := by decide +kernel
theorem d_st_recall_1 : decode prog_5_method_5_code 1 = .ok (.lload_n 1, 1) := by decide +kernel
theorem d_st_recall_2 : decode prog_5_method_5_code 2 = .ok (.lload_n 3, 1) := by decide +kernel
theorem d_st_recall_3 : decode prog_5_method_5_code 3 = .ok (.invokevirtual 46, 3) := by decide +kernel
theorem d_st_recall_6 : decode prog_5_method_5_code 6 = .ok (.lstore 5, 2) := by decide +kernel
theorem d_st_recall_8 : decode prog_5_method_5_code 8 = .ok (.iconst 0, 1) := by decide +kernel
theorem d_st_recall_9 : decode prog_5_method_5_code 9 = .ok (.istore 7, 2) := by decide +kernel
theorem d_st_recall_11 : decode prog_5_method_5_code 11 = .ok (.iload 7, 2) := by decide +kernel
theorem d_st_recall_13 : decode prog_5_method_5_code 13 = .ok (.aload_n 0, 1) := by decide +kernel
theorem d_st_recall_14 : decode prog_5_method_5_code 14 = .ok (.getfield 34, 3) := by decide +kernel
theorem d_st_recall_17 : decode prog_5_method_5_code 17 = .ok (.if_icmp .ge 40, 3) := by decide +kernel
theorem d_st_recall_20 : decode prog_5_method_5_code 20 = .ok (.lload_n 3, 1) := by decide +kernel
theorem d_st_recall_21 : decode prog_5_method_5_code 21 = .ok (.iload 7, 2) := by decide +kernel
theorem d_st_recall_23 : decode prog_5_method_5_code 23 = .ok (.invokestatic 50, 3) := by decide +kernel
theorem d_st_recall_26 : decode prog_5_method_5_code 26 = .ok (.ifCond .eq 25, 3) := by decide +kernel
theorem d_st_recall_29 : decode prog_5_method_5_code 29 = .ok (.aload_n 0, 1) := by decide +kernel
theorem d_st_recall_30 : decode prog_5_method_5_code 30 = .ok (.getfield 24, 3) := by decide +kernel
theorem d_st_recall_33 : decode prog_5_method_5_code 33 = .ok (.iload 7, 2) := by decide +kernel
theorem d_st_recall_35 : decode prog_5_method_5_code 35 = .ok (.lload 5, 2) := by decide +kernel
theorem d_st_recall_37 : decode prog_5_method_5_code 37 = .ok (.iload 7, 2) := by decide +kernel
theorem d_st_recall_39 : decode prog_5_method_5_code 39 = .ok (.invokestatic 50, 3) := by decide +kernel
theorem d_st_recall_42 : decode prog_5_method_5_code 42 = .ok (.ifCond .eq 7, 3) := by decide +kernel
theorem d_st_recall_45 : decode prog_5_method_5_code 45 = .ok (.iconst 3, 1) := by decide +kernel
theorem d_st_recall_46 : decode prog_5_method_5_code 46 = .ok (.goto 4, 3) := by decide +kernel
theorem d_st_recall_49 : decode prog_5_method_5_code 49 = .ok (.iconst 0, 1) := by decide +kernel
theorem d_st_recall_50 : decode prog_5_method_5_code 50 = .ok (.iastore, 1) := by decide +kernel
theorem d_st_recall_51 : decode prog_5_method_5_code 51 = .ok (.iinc 7 1, 3) := by decide +kernel
theorem d_st_recall_54 : decode prog_5_method_5_code 54 = .ok (.goto (-43), 3) := by decide +kernel
theorem d_st_recall_57 : decode prog_5_method_5_code 57 = .ok (.lload 5, 2) := by decide +kernel
theorem d_st_recall_59 : decode prog_5_method_5_code 59 = .ok (.invokestatic 54, 3) := by decide +kernel
theorem d_st_recall_62 : decode prog_5_method_5_code 62 = .ok (.ireturn, 1) := by decide +kernel
theorem d_st_turn_0 : decode prog_5_method_8_code 0 = .ok (.aload_n 0, 1) := by decide +kernel
theorem d_st_turn_1 : decode prog_5_method_8_code 1 = .ok (.getfield 27, 3) := by decide +kernel
theorem d_st_turn_4 : decode prog_5_method_8_code 4 = .ok (.iload_n 1, 1) := by decide +kernel
theorem d_st_turn_5 : decode prog_5_method_8_code 5 = .ok (.iaload, 1) := by decide +kernel
theorem d_st_turn_6 : decode prog_5_method_8_code 6 = .ok (.ifCond .eq 5, 3) := by decide +kernel
theorem d_st_turn_9 : decode prog_5_method_8_code 9 = .ok (.iconst 0, 1) := by decide +kernel
theorem d_st_turn_10 : decode prog_5_method_8_code 10 = .ok (.ireturn, 1) := by decide +kernel
theorem d_st_turn_11 : decode prog_5_method_8_code 11 = .ok (.aload_n 0, 1) := by decide +kernel
theorem d_st_turn_12 : decode prog_5_method_8_code 12 = .ok (.dup, 1) := by decide +kernel
theorem d_st_turn_13 : decode prog_5_method_8_code 13 = .ok (.getfield 38, 3) := by decide +kernel
theorem d_st_turn_16 : decode prog_5_method_8_code 16 = .ok (.lconst 1, 1) := by decide +kernel
theorem d_st_turn_17 : decode prog_5_method_8_code 17 = .ok (.iload_n 1, 1) := by decide +kernel
theorem d_st_turn_18 : decode prog_5_method_8_code 18 = .ok (.lshl, 1) := by decide +kernel
theorem d_st_turn_19 : decode prog_5_method_8_code 19 = .ok (.lxor, 1) := by decide +kernel
theorem d_st_turn_20 : decode prog_5_method_8_code 20 = .ok (.putfield 38, 3) := by decide +kernel
theorem d_st_turn_23 : decode prog_5_method_8_code 23 = .ok (.iconst 1, 1) := by decide +kernel
theorem d_st_turn_24 : decode prog_5_method_8_code 24 = .ok (.ireturn, 1) := by decide +kernel
theorem d_st_unlike_0 : decode prog_5_method_4_code 0 = .ok (.aload_n 0, 1) := by decide +kernel
theorem d_st_unlike_1 : decode prog_5_method_4_code 1 = .ok (.getfield 38, 3) := by decide +kernel
theorem d_st_unlike_4 : decode prog_5_method_4_code 4 = .ok (.lload_n 1, 1) := by decide +kernel
theorem d_st_unlike_5 : decode prog_5_method_4_code 5 = .ok (.lxor, 1) := by decide +kernel
theorem d_st_unlike_6 : decode prog_5_method_4_code 6 = .ok (.lload_n 3, 1) := by decide +kernel
theorem d_st_unlike_7 : decode prog_5_method_4_code 7 = .ok (.land, 1) := by decide +kernel
theorem d_st_unlike_8 : decode prog_5_method_4_code 8 = .ok (.lreturn, 1) := by decide +kernel
theorem d_me_become_0 : decode prog_4_method_9_code 0 = .ok (.aload_n 1, 1) := by decide +kernel
theorem d_me_become_1 : decode prog_4_method_9_code 1 = .ok (.getfield 11, 3) := by decide +kernel
theorem d_me_become_4 : decode prog_4_method_9_code 4 = .ok (.iconst 0, 1) := by decide +kernel
theorem d_me_become_5 : decode prog_4_method_9_code 5 = .ok (.aload_n 0, 1) := by decide +kernel
theorem d_me_become_6 : decode prog_4_method_9_code 6 = .ok (.getfield 11, 3) := by decide +kernel
theorem d_me_become_9 : decode prog_4_method_9_code 9 = .ok (.iconst 0, 1) := by decide +kernel
theorem d_me_become_10 : decode prog_4_method_9_code 10 = .ok (.sipush 443, 3) := by decide +kernel
theorem d_me_become_13 : decode prog_4_method_9_code 13 = .ok (.invokestatic 26, 3) := by decide +kernel
theorem d_me_become_16 : decode prog_4_method_9_code 16 = .ok (.aload_n 0, 1) := by decide +kernel
theorem d_me_become_17 : decode prog_4_method_9_code 17 = .ok (.aload_n 1, 1) := by decide +kernel
theorem d_me_become_18 : decode prog_4_method_9_code 18 = .ok (.getfield 15, 3) := by decide +kernel
theorem d_me_become_21 : decode prog_4_method_9_code 21 = .ok (.putfield 15, 3) := by decide +kernel
theorem d_me_become_24 : decode prog_4_method_9_code 24 = .ok (.return_, 1) := by decide +kernel
theorem d_me_closeFrame_0 : decode prog_4_method_8_code 0 = .ok (.iload_n 1, 1) := by decide +kernel
theorem d_me_closeFrame_1 : decode prog_4_method_8_code 1 = .ok (.invokestatic 23, 3) := by decide +kernel
theorem d_me_closeFrame_4 : decode prog_4_method_8_code 4 = .ok (.istore_n 2, 1) := by decide +kernel
theorem d_me_closeFrame_5 : decode prog_4_method_8_code 5 = .ok (.aload_n 0, 1) := by decide +kernel
theorem d_me_closeFrame_6 : decode prog_4_method_8_code 6 = .ok (.dup, 1) := by decide +kernel
theorem d_me_closeFrame_7 : decode prog_4_method_8_code 7 = .ok (.getfield 15, 3) := by decide +kernel
theorem d_me_closeFrame_10 : decode prog_4_method_8_code 10 = .ok (.iconst 1, 1) := by decide +kernel
theorem d_me_closeFrame_11 : decode prog_4_method_8_code 11 = .ok (.isub, 1) := by decide +kernel
theorem d_me_closeFrame_12 : decode prog_4_method_8_code 12 = .ok (.putfield 15, 3) := by decide +kernel
theorem d_me_closeFrame_15 : decode prog_4_method_8_code 15 = .ok (.aload_n 0, 1) := by decide +kernel
theorem d_me_closeFrame_16 : decode prog_4_method_8_code 16 = .ok (.getfield 11, 3) := by decide +kernel
theorem d_me_closeFrame_19 : decode prog_4_method_8_code 19 = .ok (.iload_n 2, 1) := by decide +kernel
theorem d_me_closeFrame_20 : decode prog_4_method_8_code 20 = .ok (.iconst 1, 1) := by decide +kernel
theorem d_me_closeFrame_21 : decode prog_4_method_8_code 21 = .ok (.iadd, 1) := by decide +kernel
theorem d_me_closeFrame_22 : decode prog_4_method_8_code 22 = .ok (.aload_n 0, 1) := by decide +kernel
theorem d_me_closeFrame_23 : decode prog_4_method_8_code 23 = .ok (.getfield 11, 3) := by decide +kernel
theorem d_me_closeFrame_26 : decode prog_4_method_8_code 26 = .ok (.iload_n 2, 1) := by decide +kernel
theorem d_me_closeFrame_27 : decode prog_4_method_8_code 27 = .ok (.aload_n 0, 1) := by decide +kernel
theorem d_me_closeFrame_28 : decode prog_4_method_8_code 28 = .ok (.getfield 15, 3) := by decide +kernel
theorem d_me_closeFrame_31 : decode prog_4_method_8_code 31 = .ok (.iload_n 1, 1) := by decide +kernel
theorem d_me_closeFrame_32 : decode prog_4_method_8_code 32 = .ok (.isub, 1) := by decide +kernel
theorem d_me_closeFrame_33 : decode prog_4_method_8_code 33 = .ok (.invokestatic 26, 3) := by decide +kernel
theorem d_me_closeFrame_36 : decode prog_4_method_8_code 36 = .ok (.return_, 1) := by decide +kernel
theorem d_me_divisionalRow_0 : decode prog_4_method_3_code 0 = .ok (.sipush 128, 3) := by decide +kernel
theorem d_me_divisionalRow_3 : decode prog_4_method_3_code 3 = .ok (.iload_n 0, 1) := by decide +kernel
theorem d_me_divisionalRow_4 : decode prog_4_method_3_code 4 = .ok (.bipush 25, 2) := by decide +kernel
theorem d_me_divisionalRow_6 : decode prog_4_method_3_code 6 = .ok (.imul, 1) := by decide +kernel
theorem d_me_divisionalRow_7 : decode prog_4_method_3_code 7 = .ok (.iadd, 1) := by decide +kernel
theorem d_me_divisionalRow_8 : decode prog_4_method_3_code 8 = .ok (.iload_n 1, 1) := by decide +kernel
theorem d_me_divisionalRow_9 : decode prog_4_method_3_code 9 = .ok (.iadd, 1) := by decide +kernel
theorem d_me_divisionalRow_10 : decode prog_4_method_3_code 10 = .ok (.ireturn, 1) := by decide +kernel
theorem d_me_empty_0 : decode prog_4_method_10_code 0 = .ok (.aload_n 0, 1) := by decide +kernel
theorem d_me_empty_1 : decode prog_4_method_10_code 1 = .ok (.getfield 11, 3) := by decide +kernel
theorem d_me_empty_4 : decode prog_4_method_10_code 4 = .ok (.lconst 0, 1) := by decide +kernel
theorem d_me_empty_5 : decode prog_4_method_10_code 5 = .ok (.invokestatic 32, 3) := by decide +kernel
theorem d_me_empty_8 : decode prog_4_method_10_code 8 = .ok (.aload_n 0, 1) := by decide +kernel
theorem d_me_empty_9 : decode prog_4_method_10_code 9 = .ok (.iconst 0, 1) := by decide +kernel
theorem d_me_empty_10 : decode prog_4_method_10_code 10 = .ok (.putfield 15, 3) := by decide +kernel
theorem d_me_empty_13 : decode prog_4_method_10_code 13 = .ok (.return_, 1) := by decide +kernel
theorem d_me_frameRow_0 : decode prog_4_method_4_code 0 = .ok (.sipush 328, 3) := by decide +kernel
theorem d_me_frameRow_3 : decode prog_4_method_4_code 3 = .ok (.iload_n 0, 1) := by decide +kernel
theorem d_me_frameRow_4 : decode prog_4_method_4_code 4 = .ok (.iadd, 1) := by decide +kernel
theorem d_me_frameRow_5 : decode prog_4_method_4_code 5 = .ok (.ireturn, 1) := by decide +kernel
theorem d_me_generalRow_0 : decode prog_4_method_2_code 0 = .ok (.iload_n 0, 1) := by decide +kernel
theorem d_me_generalRow_1 : decode prog_4_method_2_code 1 = .ok (.bipush 16, 2) := by decide +kernel
theorem d_me_generalRow_3 : decode prog_4_method_2_code 3 = .ok (.imul, 1) := by decide +kernel
theorem d_me_generalRow_4 : decode prog_4_method_2_code 4 = .ok (.iload_n 1, 1) := by decide +kernel
theorem d_me_generalRow_5 : decode prog_4_method_2_code 5 = .ok (.iadd, 1) := by decide +kernel
theorem d_me_generalRow_6 : decode prog_4_method_2_code 6 = .ok (.ireturn, 1) := by decide +kernel
theorem d_me_init_0 : decode prog_4_method_1_code 0 = .ok (.aload_n 0, 1) := by decide +kernel
theorem d_me_init_1 : decode prog_4_method_1_code 1 = .ok (.invokespecial 5, 3) := by decide +kernel
theorem d_me_init_4 : decode prog_4_method_1_code 4 = .ok (.aload_n 0, 1) := by decide +kernel
theorem d_me_init_5 : decode prog_4_method_1_code 5 = .ok (.sipush 443, 3) := by decide +kernel
theorem d_me_init_8 : decode prog_4_method_1_code 8 = .ok (.newarray .long, 2) := by decide +kernel
theorem d_me_init_10 : decode prog_4_method_1_code 10 = .ok (.putfield 11, 3) := by decide +kernel
theorem d_me_init_13 : decode prog_4_method_1_code 13 = .ok (.aload_n 0, 1) := by decide +kernel
theorem d_me_init_14 : decode prog_4_method_1_code 14 = .ok (.iconst 0, 1) := by decide +kernel
theorem d_me_init_15 : decode prog_4_method_1_code 15 = .ok (.putfield 15, 3) := by decide +kernel
theorem d_me_init_18 : decode prog_4_method_1_code 18 = .ok (.return_, 1) := by decide +kernel
theorem d_me_openFrame_0 : decode prog_4_method_7_code 0 = .ok (.iload_n 1, 1) := by decide +kernel
theorem d_me_openFrame_1 : decode prog_4_method_7_code 1 = .ok (.invokestatic 23, 3) := by decide +kernel
theorem d_me_openFrame_4 : decode prog_4_method_7_code 4 = .ok (.istore 4, 2) := by decide +kernel
theorem d_me_openFrame_6 : decode prog_4_method_7_code 6 = .ok (.aload_n 0, 1) := by decide +kernel
theorem d_me_openFrame_7 : decode prog_4_method_7_code 7 = .ok (.getfield 11, 3) := by decide +kernel
theorem d_me_openFrame_10 : decode prog_4_method_7_code 10 = .ok (.iload 4, 2) := by decide +kernel
theorem d_me_openFrame_12 : decode prog_4_method_7_code 12 = .ok (.aload_n 0, 1) := by decide +kernel
theorem d_me_openFrame_13 : decode prog_4_method_7_code 13 = .ok (.getfield 11, 3) := by decide +kernel
theorem d_me_openFrame_16 : decode prog_4_method_7_code 16 = .ok (.iload 4, 2) := by decide +kernel
theorem d_me_openFrame_18 : decode prog_4_method_7_code 18 = .ok (.iconst 1, 1) := by decide +kernel
theorem d_me_openFrame_19 : decode prog_4_method_7_code 19 = .ok (.iadd, 1) := by decide +kernel
theorem d_me_openFrame_20 : decode prog_4_method_7_code 20 = .ok (.aload_n 0, 1) := by decide +kernel
theorem d_me_openFrame_21 : decode prog_4_method_7_code 21 = .ok (.getfield 15, 3) := by decide +kernel
theorem d_me_openFrame_24 : decode prog_4_method_7_code 24 = .ok (.iload_n 1, 1) := by decide +kernel
theorem d_me_openFrame_25 : decode prog_4_method_7_code 25 = .ok (.isub, 1) := by decide +kernel
theorem d_me_openFrame_26 : decode prog_4_method_7_code 26 = .ok (.invokestatic 26, 3) := by decide +kernel
theorem d_me_openFrame_29 : decode prog_4_method_7_code 29 = .ok (.aload_n 0, 1) := by decide +kernel
theorem d_me_openFrame_30 : decode prog_4_method_7_code 30 = .ok (.getfield 11, 3) := by decide +kernel
theorem d_me_openFrame_33 : decode prog_4_method_7_code 33 = .ok (.iload 4, 2) := by decide +kernel
theorem d_me_openFrame_35 : decode prog_4_method_7_code 35 = .ok (.lload_n 2, 1) := by decide +kernel
theorem d_me_openFrame_36 : decode prog_4_method_7_code 36 = .ok (.lastore, 1) := by decide +kernel
theorem d_me_openFrame_37 : decode prog_4_method_7_code 37 = .ok (.aload_n 0, 1) := by decide +kernel
theorem d_me_openFrame_38 : decode prog_4_method_7_code 38 = .ok (.dup, 1) := by decide +kernel
theorem d_me_openFrame_39 : decode prog_4_method_7_code 39 = .ok (.getfield 15, 3) := by decide +kernel
theorem d_me_openFrame_42 : decode prog_4_method_7_code 42 = .ok (.iconst 1, 1) := by decide +kernel
theorem d_me_openFrame_43 : decode prog_4_method_7_code 43 = .ok (.iadd, 1) := by decide +kernel
theorem d_me_openFrame_44 : decode prog_4_method_7_code 44 = .ok (.putfield 15, 3) := by decide +kernel
theorem d_me_openFrame_47 : decode prog_4_method_7_code 47 = .ok (.return_, 1) := by decide +kernel
theorem d_me_stepRow_0 : decode prog_4_method_5_code 0 = .ok (.sipush 428, 3) := by decide +kernel
theorem d_me_stepRow_3 : decode prog_4_method_5_code 3 = .ok (.iload_n 0, 1) := by decide +kernel
theorem d_me_stepRow_4 : decode prog_4_method_5_code 4 = .ok (.iadd, 1) := by decide +kernel
theorem d_me_stepRow_5 : decode prog_4_method_5_code 5 = .ok (.iconst 1, 1) := by decide +kernel
theorem d_me_stepRow_6 : decode prog_4_method_5_code 6 = .ok (.isub, 1) := by decide +kernel
theorem d_me_stepRow_7 : decode prog_4_method_5_code 7 = .ok (.ireturn, 1) := by decide +kernel
theorem d_me_stepsUpTo_0 : decode prog_4_method_6_code 0 = .ok (.lconst 0, 1) := by decide +kernel
theorem d_me_stepsUpTo_1 : decode prog_4_method_6_code 1 = .ok (.lstore_n 2, 1) := by decide +kernel
theorem d_me_stepsUpTo_2 : decode prog_4_method_6_code 2 = .ok (.iconst 1, 1) := by decide +kernel
theorem d_me_stepsUpTo_3 : decode prog_4_method_6_code 3 = .ok (.istore 4, 2) := by decide +kernel
theorem d_me_stepsUpTo_5 : decode prog_4_method_6_code 5 = .ok (.iload 4, 2) := by decide +kernel
theorem d_me_stepsUpTo_7 : decode prog_4_method_6_code 7 = .ok (.iload_n 1, 1) := by decide +kernel
theorem d_me_stepsUpTo_8 : decode prog_4_method_6_code 8 = .ok (.if_icmp .gt 22, 3) := by decide +kernel
theorem d_me_stepsUpTo_11 : decode prog_4_method_6_code 11 = .ok (.lload_n 2, 1) := by decide +kernel
theorem d_me_stepsUpTo_12 : decode prog_4_method_6_code 12 = .ok (.aload_n 0, 1) := by decide +kernel
theorem d_me_stepsUpTo_13 : decode prog_4_method_6_code 13 = .ok (.getfield 11, 3) := by decide +kernel
theorem d_me_stepsUpTo_16 : decode prog_4_method_6_code 16 = .ok (.iload 4, 2) := by decide +kernel
theorem d_me_stepsUpTo_18 : decode prog_4_method_6_code 18 = .ok (.invokestatic 19, 3) := by decide +kernel
theorem d_me_stepsUpTo_21 : decode prog_4_method_6_code 21 = .ok (.laload, 1) := by decide +kernel
theorem d_me_stepsUpTo_22 : decode prog_4_method_6_code 22 = .ok (.lor, 1) := by decide +kernel
theorem d_me_stepsUpTo_23 : decode prog_4_method_6_code 23 = .ok (.lstore_n 2, 1) := by decide +kernel
theorem d_me_stepsUpTo_24 : decode prog_4_method_6_code 24 = .ok (.iinc 4 1, 3) := by decide +kernel
theorem d_me_stepsUpTo_27 : decode prog_4_method_6_code 27 = .ok (.goto (-22), 3) := by decide +kernel
theorem d_me_stepsUpTo_30 : decode prog_4_method_6_code 30 = .ok (.lload_n 2, 1) := by decide +kernel
theorem d_me_stepsUpTo_31 : decode prog_4_method_6_code 31 = .ok (.lreturn, 1) := by decide +kernel
theorem d_sr_copyAt_0 : decode prog_6_method_2_code 0 = .ok (.iload_n 1, 1) := by decide +kernel
theorem d_sr_copyAt_1 : decode prog_6_method_2_code 1 = .ok (.ifCond .ne 10, 3) := by decide +kernel
theorem d_sr_copyAt_4 : decode prog_6_method_2_code 4 = .ok (.aload_n 0, 1) := by decide +kernel
theorem d_sr_copyAt_5 : decode prog_6_method_2_code 5 = .ok (.getfield 12, 3) := by decide +kernel
theorem d_sr_copyAt_8 : decode prog_6_method_2_code 8 = .ok (.goto 7, 3) := by decide +kernel
theorem d_sr_copyAt_11 : decode prog_6_method_2_code 11 = .ok (.aload_n 0, 1) := by decide +kernel
theorem d_sr_copyAt_12 : decode prog_6_method_2_code 12 = .ok (.getfield 18, 3) := by decide +kernel
theorem d_sr_copyAt_15 : decode prog_6_method_2_code 15 = .ok (.areturn, 1) := by decide +kernel
theorem d_sr_init_0 : decode prog_6_method_1_code 0 = .ok (.aload_n 0, 1) := by decide +kernel
theorem d_sr_init_1 : decode prog_6_method_1_code 1 = .ok (.invokespecial 3, 3) := by decide +kernel
theorem d_sr_init_4 : decode prog_6_method_1_code 4 = .ok (.aload_n 0, 1) := by decide +kernel
theorem d_sr_init_5 : decode prog_6_method_1_code 5 = .ok (.new 9, 3) := by decide +kernel
theorem d_sr_init_8 : decode prog_6_method_1_code 8 = .ok (.dup, 1) := by decide +kernel
theorem d_sr_init_9 : decode prog_6_method_1_code 9 = .ok (.invokespecial 11, 3) := by decide +kernel
theorem d_sr_init_12 : decode prog_6_method_1_code 12 = .ok (.putfield 12, 3) := by decide +kernel
theorem d_sr_init_15 : decode prog_6_method_1_code 15 = .ok (.aload_n 0, 1) := by decide +kernel
theorem d_sr_init_16 : decode prog_6_method_1_code 16 = .ok (.new 9, 3) := by decide +kernel
theorem d_sr_init_19 : decode prog_6_method_1_code 19 = .ok (.dup, 1) := by decide +kernel
theorem d_sr_init_20 : decode prog_6_method_1_code 20 = .ok (.invokespecial 11, 3) := by decide +kernel
theorem d_sr_init_23 : decode prog_6_method_1_code 23 = .ok (.putfield 18, 3) := by decide +kernel
theorem d_sr_init_26 : decode prog_6_method_1_code 26 = .ok (.aload_n 0, 1) := by decide +kernel
theorem d_sr_init_27 : decode prog_6_method_1_code 27 = .ok (.iconst (-1), 1) := by decide +kernel
theorem d_sr_init_28 : decode prog_6_method_1_code 28 = .ok (.putfield 21, 3) := by decide +kernel
theorem d_sr_init_31 : decode prog_6_method_1_code 31 = .ok (.return_, 1) := by decide +kernel
theorem d_sr_newestWhole_0 : decode prog_6_method_6_code 0 = .ok (.aload_n 0, 1) := by decide +kernel
theorem d_sr_newestWhole_1 : decode prog_6_method_6_code 1 = .ok (.getfield 12, 3) := by decide +kernel
theorem d_sr_newestWhole_4 : decode prog_6_method_6_code 4 = .ok (.invokevirtual 63, 3) := by decide +kernel
theorem d_sr_newestWhole_7 : decode prog_6_method_6_code 7 = .ok (.istore_n 1, 1) := by decide +kernel
theorem d_sr_newestWhole_8 : decode prog_6_method_6_code 8 = .ok (.aload_n 0, 1) := by decide +kernel
theorem d_sr_newestWhole_9 : decode prog_6_method_6_code 9 = .ok (.getfield 18, 3) := by decide +kernel
theorem d_sr_newestWhole_12 : decode prog_6_method_6_code 12 = .ok (.invokevirtual 63, 3) := by decide +kernel
theorem d_sr_newestWhole_15 : decode prog_6_method_6_code 15 = .ok (.istore_n 2, 1) := by decide +kernel
theorem d_sr_newestWhole_16 : decode prog_6_method_6_code 16 = .ok (.iload_n 1, 1) := by decide +kernel
theorem d_sr_newestWhole_17 : decode prog_6_method_6_code 17 = .ok (.ifCond .ne 9, 3) := by decide +kernel
theorem d_sr_newestWhole_20 : decode prog_6_method_6_code 20 = .ok (.iload_n 2, 1) := by decide +kernel
theorem d_sr_newestWhole_21 : decode prog_6_method_6_code 21 = .ok (.ifCond .ne 5, 3) := by decide +kernel
theorem d_sr_newestWhole_24 : decode prog_6_method_6_code 24 = .ok (.iconst (-1), 1) := by decide +kernel
theorem d_sr_newestWhole_25 : decode prog_6_method_6_code 25 = .ok (.ireturn, 1) := by decide +kernel
theorem d_sr_newestWhole_26 : decode prog_6_method_6_code 26 = .ok (.iload_n 1, 1) := by decide +kernel
theorem d_sr_newestWhole_27 : decode prog_6_method_6_code 27 = .ok (.iload_n 2, 1) := by decide +kernel
theorem d_sr_newestWhole_28 : decode prog_6_method_6_code 28 = .ok (.if_icmp .lt 7, 3) := by decide +kernel
theorem d_sr_newestWhole_31 : decode prog_6_method_6_code 31 = .ok (.iconst 0, 1) := by decide +kernel
theorem d_sr_newestWhole_32 : decode prog_6_method_6_code 32 = .ok (.goto 4, 3) := by decide +kernel
theorem d_sr_newestWhole_35 : decode prog_6_method_6_code 35 = .ok (.iconst 1, 1) := by decide +kernel
theorem d_sr_newestWhole_36 : decode prog_6_method_6_code 36 = .ok (.ireturn, 1) := by decide +kernel
theorem d_sr_readInto_0 : decode prog_6_method_5_code 0 = .ok (.aload_n 0, 1) := by decide +kernel
theorem d_sr_readInto_1 : decode prog_6_method_5_code 1 = .ok (.aload_n 0, 1) := by decide +kernel
theorem d_sr_readInto_2 : decode prog_6_method_5_code 2 = .ok (.invokevirtual 47, 3) := by decide +kernel
theorem d_sr_readInto_5 : decode prog_6_method_5_code 5 = .ok (.putfield 21, 3) := by decide +kernel
theorem d_sr_readInto_8 : decode prog_6_method_5_code 8 = .ok (.aload_n 0, 1) := by decide +kernel
theorem d_sr_readInto_9 : decode prog_6_method_5_code 9 = .ok (.getfield 21, 3) := by decide +kernel
theorem d_sr_readInto_12 : decode prog_6_method_5_code 12 = .ok (.iconst (-1), 1) := by decide +kernel
theorem d_sr_readInto_13 : decode prog_6_method_5_code 13 = .ok (.if_icmp .ne 10, 3) := by decide +kernel
theorem d_sr_readInto_16 : decode prog_6_method_5_code 16 = .ok (.aload_n 1, 1) := by decide +kernel
theorem d_sr_readInto_17 : decode prog_6_method_5_code 17 = .ok (.invokevirtual 50, 3) := by decide +kernel
theorem d_sr_readInto_20 : decode prog_6_method_5_code 20 = .ok (.goto 18, 3) := by decide +kernel
theorem d_sr_readInto_23 : decode prog_6_method_5_code 23 = .ok (.aload_n 1, 1) := by decide +kernel
theorem d_sr_readInto_24 : decode prog_6_method_5_code 24 = .ok (.aload_n 0, 1) := by decide +kernel
theorem d_sr_readInto_25 : decode prog_6_method_5_code 25 = .ok (.aload_n 0, 1) := by decide +kernel
theorem d_sr_readInto_26 : decode prog_6_method_5_code 26 = .ok (.getfield 21, 3) := by decide +kernel
theorem d_sr_readInto_29 : decode prog_6_method_5_code 29 = .ok (.invokevirtual 25, 3) := by decide +kernel
theorem d_sr_readInto_32 : decode prog_6_method_5_code 32 = .ok (.getfield 55, 3) := by decide +kernel
theorem d_sr_readInto_35 : decode prog_6_method_5_code 35 = .ok (.invokevirtual 59, 3) := by decide +kernel
theorem d_sr_readInto_38 : decode prog_6_method_5_code 38 = .ok (.return_, 1) := by decide +kernel
theorem d_sr_versionInForce_0 : decode prog_6_method_3_code 0 = .ok (.aload_n 0, 1) := by decide +kernel
theorem d_sr_versionInForce_1 : decode prog_6_method_3_code 1 = .ok (.getfield 21, 3) := by decide +kernel
theorem d_sr_versionInForce_4 : decode prog_6_method_3_code 4 = .ok (.iconst (-1), 1) := by decide +kernel
theorem d_sr_versionInForce_5 : decode prog_6_method_3_code 5 = .ok (.if_icmp .ne 7, 3) := by decide +kernel
theorem d_sr_versionInForce_8 : decode prog_6_method_3_code 8 = .ok (.iconst 0, 1) := by decide +kernel
theorem d_sr_versionInForce_9 : decode prog_6_method_3_code 9 = .ok (.goto 17, 3) := by decide +kernel
theorem d_sr_versionInForce_12 : decode prog_6_method_3_code 12 = .ok (.aload_n 0, 1) := by decide +kernel
theorem d_sr_versionInForce_13 : decode prog_6_method_3_code 13 = .ok (.aload_n 0, 1) := by decide +kernel
theorem d_sr_versionInForce_14 : decode prog_6_method_3_code 14 = .ok (.getfield 21, 3) := by decide +kernel
theorem d_sr_versionInForce_17 : decode prog_6_method_3_code 17 = .ok (.invokevirtual 25, 3) := by decide +kernel
theorem d_sr_versionInForce_20 : decode prog_6_method_3_code 20 = .ok (.getfield 29, 3) := by decide +kernel
theorem d_sr_versionInForce_23 : decode prog_6_method_3_code 23 = .ok (.bipush 8, 2) := by decide +kernel
theorem d_sr_versionInForce_25 : decode prog_6_method_3_code 25 = .ok (.iaload, 1) := by decide +kernel
theorem d_sr_versionInForce_26 : decode prog_6_method_3_code 26 = .ok (.ireturn, 1) := by decide +kernel
theorem d_sr_write_0 : decode prog_6_method_4_code 0 = .ok (.aload_n 0, 1) := by decide +kernel
theorem d_sr_write_1 : decode prog_6_method_4_code 1 = .ok (.getfield 21, 3) := by decide +kernel
theorem d_sr_write_4 : decode prog_6_method_4_code 4 = .ok (.ifCond .ne 7, 3) := by decide +kernel
theorem d_sr_write_7 : decode prog_6_method_4_code 7 = .ok (.iconst 1, 1) := by decide +kernel
theorem d_sr_write_8 : decode prog_6_method_4_code 8 = .ok (.goto 4, 3) := by decide +kernel
theorem d_sr_write_11 : decode prog_6_method_4_code 11 = .ok (.iconst 0, 1) := by decide +kernel
theorem d_sr_write_12 : decode prog_6_method_4_code 12 = .ok (.istore_n 3, 1) := by decide +kernel
theorem d_sr_write_13 : decode prog_6_method_4_code 13 = .ok (.aload_n 0, 1) := by decide +kernel
theorem d_sr_write_14 : decode prog_6_method_4_code 14 = .ok (.getfield 12, 3) := by decide +kernel
theorem d_sr_write_17 : decode prog_6_method_4_code 17 = .ok (.invokevirtual 33, 3) := by decide +kernel
theorem d_sr_write_20 : decode prog_6_method_4_code 20 = .ok (.aload_n 0, 1) := by decide +kernel
theorem d_sr_write_21 : decode prog_6_method_4_code 21 = .ok (.getfield 18, 3) := by decide +kernel
theorem d_sr_write_24 : decode prog_6_method_4_code 24 = .ok (.invokevirtual 33, 3) := by decide +kernel
theorem d_sr_write_27 : decode prog_6_method_4_code 27 = .ok (.invokestatic 37, 3) := by decide +kernel
theorem d_sr_write_30 : decode prog_6_method_4_code 30 = .ok (.iconst 1, 1) := by decide +kernel
theorem d_sr_write_31 : decode prog_6_method_4_code 31 = .ok (.iadd, 1) := by decide +kernel
theorem d_sr_write_32 : decode prog_6_method_4_code 32 = .ok (.istore 4, 2) := by decide +kernel
theorem d_sr_write_34 : decode prog_6_method_4_code 34 = .ok (.aload_n 0, 1) := by decide +kernel
theorem d_sr_write_35 : decode prog_6_method_4_code 35 = .ok (.iload_n 3, 1) := by decide +kernel
theorem d_sr_write_36 : decode prog_6_method_4_code 36 = .ok (.invokevirtual 25, 3) := by decide +kernel
theorem d_sr_write_39 : decode prog_6_method_4_code 39 = .ok (.aload_n 1, 1) := by decide +kernel
theorem d_sr_write_40 : decode prog_6_method_4_code 40 = .ok (.iload 4, 2) := by decide +kernel
theorem d_sr_write_42 : decode prog_6_method_4_code 42 = .ok (.iload_n 2, 1) := by decide +kernel
theorem d_sr_write_43 : decode prog_6_method_4_code 43 = .ok (.invokevirtual 43, 3) := by decide +kernel
theorem d_sr_write_46 : decode prog_6_method_4_code 46 = .ok (.iload_n 2, 1) := by decide +kernel
theorem d_sr_write_47 : decode prog_6_method_4_code 47 = .ok (.bipush 9, 2) := by decide +kernel
theorem d_sr_write_49 : decode prog_6_method_4_code 49 = .ok (.if_icmp .ne 8, 3) := by decide +kernel
theorem d_sr_write_52 : decode prog_6_method_4_code 52 = .ok (.aload_n 0, 1) := by decide +kernel
theorem d_sr_write_53 : decode prog_6_method_4_code 53 = .ok (.iload_n 3, 1) := by decide +kernel
theorem d_sr_write_54 : decode prog_6_method_4_code 54 = .ok (.putfield 21, 3) := by decide +kernel
theorem d_sr_write_57 : decode prog_6_method_4_code 57 = .ok (.return_, 1) := by decide +kernel
theorem d_cp_greatestVersion_0 : decode prog_2_method_2_code 0 = .ok (.iconst 0, 1) := by decide +kernel
theorem d_cp_greatestVersion_1 : decode prog_2_method_2_code 1 = .ok (.istore_n 1, 1) := by decide +kernel
theorem d_cp_greatestVersion_2 : decode prog_2_method_2_code 2 = .ok (.iconst 0, 1) := by decide +kernel
theorem d_cp_greatestVersion_3 : decode prog_2_method_2_code 3 = .ok (.istore_n 2, 1) := by decide +kernel
theorem d_cp_greatestVersion_4 : decode prog_2_method_2_code 4 = .ok (.iload_n 2, 1) := by decide +kernel
theorem d_cp_greatestVersion_5 : decode prog_2_method_2_code 5 = .ok (.bipush 9, 2) := by decide +kernel
theorem d_cp_greatestVersion_7 : decode prog_2_method_2_code 7 = .ok (.if_icmp .ge 20, 3) := by decide +kernel
theorem d_cp_greatestVersion_10 : decode prog_2_method_2_code 10 = .ok (.iload_n 1, 1) := by decide +kernel
theorem d_cp_greatestVersion_11 : decode prog_2_method_2_code 11 = .ok (.aload_n 0, 1) := by decide +kernel
theorem d_cp_greatestVersion_12 : decode prog_2_method_2_code 12 = .ok (.getfield 9, 3) := by decide +kernel
theorem d_cp_greatestVersion_15 : decode prog_2_method_2_code 15 = .ok (.iload_n 2, 1) := by decide +kernel
theorem d_cp_greatestVersion_16 : decode prog_2_method_2_code 16 = .ok (.iaload, 1) := by decide +kernel
theorem d_cp_greatestVersion_17 : decode prog_2_method_2_code 17 = .ok (.invokestatic 26, 3) := by decide +kernel
theorem d_cp_greatestVersion_20 : decode prog_2_method_2_code 20 = .ok (.istore_n 1, 1) := by decide +kernel
theorem d_cp_greatestVersion_21 : decode prog_2_method_2_code 21 = .ok (.iinc 2 1, 3) := by decide +kernel
theorem d_cp_greatestVersion_24 : decode prog_2_method_2_code 24 = .ok (.goto (-20), 3) := by decide +kernel
theorem d_cp_greatestVersion_27 : decode prog_2_method_2_code 27 = .ok (.iload_n 1, 1) := by decide +kernel
theorem d_cp_greatestVersion_28 : decode prog_2_method_2_code 28 = .ok (.ireturn, 1) := by decide +kernel
theorem d_cp_init_0 : decode prog_2_method_1_code 0 = .ok (.aload_n 0, 1) := by decide +kernel
theorem d_cp_init_1 : decode prog_2_method_1_code 1 = .ok (.invokespecial 3, 3) := by decide +kernel
theorem d_cp_init_4 : decode prog_2_method_1_code 4 = .ok (.aload_n 0, 1) := by decide +kernel
theorem d_cp_init_5 : decode prog_2_method_1_code 5 = .ok (.bipush 9, 2) := by decide +kernel
theorem d_cp_init_7 : decode prog_2_method_1_code 7 = .ok (.newarray .int, 2) := by decide +kernel
theorem d_cp_init_9 : decode prog_2_method_1_code 9 = .ok (.putfield 9, 3) := by decide +kernel
theorem d_cp_init_12 : decode prog_2_method_1_code 12 = .ok (.aload_n 0, 1) := by decide +kernel
theorem d_cp_init_13 : decode prog_2_method_1_code 13 = .ok (.bipush 9, 2) := by decide +kernel
theorem d_cp_init_15 : decode prog_2_method_1_code 15 = .ok (.newarray .boolean, 2) := by decide +kernel
theorem d_cp_init_17 : decode prog_2_method_1_code 17 = .ok (.putfield 15, 3) := by decide +kernel
theorem d_cp_init_20 : decode prog_2_method_1_code 20 = .ok (.aload_n 0, 1) := by decide +kernel
theorem d_cp_init_21 : decode prog_2_method_1_code 21 = .ok (.new 19, 3) := by decide +kernel
theorem d_cp_init_24 : decode prog_2_method_1_code 24 = .ok (.dup, 1) := by decide +kernel
theorem d_cp_init_25 : decode prog_2_method_1_code 25 = .ok (.invokespecial 21, 3) := by decide +kernel
theorem d_cp_init_28 : decode prog_2_method_1_code 28 = .ok (.putfield 22, 3) := by decide +kernel
theorem d_cp_init_31 : decode prog_2_method_1_code 31 = .ok (.return_, 1) := by decide +kernel
theorem d_cp_wholeVersion_0 : decode prog_2_method_3_code 0 = .ok (.iconst 0, 1) := by decide +kernel
theorem d_cp_wholeVersion_1 : decode prog_2_method_3_code 1 = .ok (.istore_n 1, 1) := by decide +kernel
theorem d_cp_wholeVersion_2 : decode prog_2_method_3_code 2 = .ok (.iload_n 1, 1) := by decide +kernel
theorem d_cp_wholeVersion_3 : decode prog_2_method_3_code 3 = .ok (.bipush 9, 2) := by decide +kernel
theorem d_cp_wholeVersion_5 : decode prog_2_method_3_code 5 = .ok (.if_icmp .ge 36, 3) := by decide +kernel
theorem d_cp_wholeVersion_8 : decode prog_2_method_3_code 8 = .ok (.aload_n 0, 1) := by decide +kernel
theorem d_cp_wholeVersion_9 : decode prog_2_method_3_code 9 = .ok (.getfield 15, 3) := by decide +kernel
theorem d_cp_wholeVersion_12 : decode prog_2_method_3_code 12 = .ok (.iload_n 1, 1) := by decide +kernel
theorem d_cp_wholeVersion_13 : decode prog_2_method_3_code 13 = .ok (.baload, 1) := by decide +kernel
theorem d_cp_wholeVersion_14 : decode prog_2_method_3_code 14 = .ok (.ifCond .ne 19, 3) := by decide +kernel
theorem d_cp_wholeVersion_17 : decode prog_2_method_3_code 17 = .ok (.aload_n 0, 1) := by decide +kernel
theorem d_cp_wholeVersion_18 : decode prog_2_method_3_code 18 = .ok (.getfield 9, 3) := by decide +kernel
theorem d_cp_wholeVersion_21 : decode prog_2_method_3_code 21 = .ok (.iload_n 1, 1) := by decide +kernel
theorem d_cp_wholeVersion_22 : decode prog_2_method_3_code 22 = .ok (.iaload, 1) := by decide +kernel
theorem d_cp_wholeVersion_23 : decode prog_2_method_3_code 23 = .ok (.aload_n 0, 1) := by decide +kernel
theorem d_cp_wholeVersion_24 : decode prog_2_method_3_code 24 = .ok (.getfield 9, 3) := by decide +kernel
theorem d_cp_wholeVersion_27 : decode prog_2_method_3_code 27 = .ok (.bipush 8, 2) := by decide +kernel
theorem d_cp_wholeVersion_29 : decode prog_2_method_3_code 29 = .ok (.iaload, 1) := by decide +kernel
theorem d_cp_wholeVersion_30 : decode prog_2_method_3_code 30 = .ok (.if_icmp .eq 5, 3) := by decide +kernel
theorem d_cp_wholeVersion_33 : decode prog_2_method_3_code 33 = .ok (.iconst 0, 1) := by decide +kernel
theorem d_cp_wholeVersion_34 : decode prog_2_method_3_code 34 = .ok (.ireturn, 1) := by decide +kernel
theorem d_cp_wholeVersion_35 : decode prog_2_method_3_code 35 = .ok (.iinc 1 1, 3) := by decide +kernel
theorem d_cp_wholeVersion_38 : decode prog_2_method_3_code 38 = .ok (.goto (-36), 3) := by decide +kernel
theorem d_cp_wholeVersion_41 : decode prog_2_method_3_code 41 = .ok (.aload_n 0, 1) := by decide +kernel
theorem d_cp_wholeVersion_42 : decode prog_2_method_3_code 42 = .ok (.getfield 9, 3) := by decide +kernel
theorem d_cp_wholeVersion_45 : decode prog_2_method_3_code 45 = .ok (.bipush 8, 2) := by decide +kernel
theorem d_cp_wholeVersion_47 : decode prog_2_method_3_code 47 = .ok (.iaload, 1) := by decide +kernel
theorem d_cp_wholeVersion_48 : decode prog_2_method_3_code 48 = .ok (.ireturn, 1) := by decide +kernel
theorem d_cp_writePages_0 : decode prog_2_method_4_code 0 = .ok (.iconst 0, 1) := by decide +kernel
theorem d_cp_writePages_1 : decode prog_2_method_4_code 1 = .ok (.istore 4, 2) := by decide +kernel
theorem d_cp_writePages_3 : decode prog_2_method_4_code 3 = .ok (.iload 4, 2) := by decide +kernel
theorem d_cp_writePages_5 : decode prog_2_method_4_code 5 = .ok (.iload_n 3, 1) := by decide +kernel
theorem d_cp_writePages_6 : decode prog_2_method_4_code 6 = .ok (.if_icmp .ge 25, 3) := by decide +kernel
theorem d_cp_writePages_9 : decode prog_2_method_4_code 9 = .ok (.aload_n 0, 1) := by decide +kernel
theorem d_cp_writePages_10 : decode prog_2_method_4_code 10 = .ok (.getfield 9, 3) := by decide +kernel
theorem d_cp_writePages_13 : decode prog_2_method_4_code 13 = .ok (.iload 4, 2) := by decide +kernel
theorem d_cp_writePages_15 : decode prog_2_method_4_code 15 = .ok (.iload_n 2, 1) := by decide +kernel
theorem d_cp_writePages_16 : decode prog_2_method_4_code 16 = .ok (.iastore, 1) := by decide +kernel
theorem d_cp_writePages_17 : decode prog_2_method_4_code 17 = .ok (.aload_n 0, 1) := by decide +kernel
theorem d_cp_writePages_18 : decode prog_2_method_4_code 18 = .ok (.getfield 15, 3) := by decide +kernel
theorem d_cp_writePages_21 : decode prog_2_method_4_code 21 = .ok (.iload 4, 2) := by decide +kernel
theorem d_cp_writePages_23 : decode prog_2_method_4_code 23 = .ok (.iconst 0, 1) := by decide +kernel
theorem d_cp_writePages_24 : decode prog_2_method_4_code 24 = .ok (.bastore, 1) := by decide +kernel
theorem d_cp_writePages_25 : decode prog_2_method_4_code 25 = .ok (.iinc 4 1, 3) := by decide +kernel
theorem d_cp_writePages_28 : decode prog_2_method_4_code 28 = .ok (.goto (-25), 3) := by decide +kernel
theorem d_cp_writePages_31 : decode prog_2_method_4_code 31 = .ok (.iload_n 3, 1) := by decide +kernel
