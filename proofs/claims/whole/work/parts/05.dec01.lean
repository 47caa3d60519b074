/-! the instructions -/
theorem d_oc_about_0 : decode prog_1_method_18_code 0 = .ok (.aload_n 0, 1) := by decide +kernel
theorem d_oc_about_1 : decode prog_1_method_18_code 1 = .ok (.iload_n 1, 1) := by decide +kernel
theorem d_oc_about_2 : decode prog_1_method_18_code 2 = .ok (.invokevirtual 110, 3) := by decide +kernel
theorem d_oc_about_5 : decode prog_1_method_18_code 5 = .ok (.iload_n 2, 1) := by decide +kernel
theorem d_oc_about_6 : decode prog_1_method_18_code 6 = .ok (.tableswitch 98 0 3 #[30, 50, 67, 77], 30) := by decide +kernel
theorem d_oc_about_36 : decode prog_1_method_18_code 36 = .ok (.aload_n 0, 1) := by decide +kernel
theorem d_oc_about_37 : decode prog_1_method_18_code 37 = .ok (.getfield 19, 3) := by decide +kernel
theorem d_oc_about_40 : decode prog_1_method_18_code 40 = .ok (.getfield 113, 3) := by decide +kernel
theorem d_oc_about_43 : decode prog_1_method_18_code 43 = .ok (.iload_n 1, 1) := by decide +kernel
theorem d_oc_about_44 : decode prog_1_method_18_code 44 = .ok (.invokestatic 102, 3) := by decide +kernel
theorem d_oc_about_47 : decode prog_1_method_18_code 47 = .ok (.ifCond .eq 7, 3) := by decide +kernel
theorem d_oc_about_50 : decode prog_1_method_18_code 50 = .ok (.iconst 1, 1) := by decide +kernel
theorem d_oc_about_51 : decode prog_1_method_18_code 51 = .ok (.goto 4, 3) := by decide +kernel
theorem d_oc_about_54 : decode prog_1_method_18_code 54 = .ok (.iconst 0, 1) := by decide +kernel
theorem d_oc_about_55 : decode prog_1_method_18_code 55 = .ok (.ireturn, 1) := by decide +kernel
theorem d_oc_about_56 : decode prog_1_method_18_code 56 = .ok (.aload_n 0, 1) := by decide +kernel
theorem d_oc_about_57 : decode prog_1_method_18_code 57 = .ok (.invokevirtual 184, 3) := by decide +kernel
theorem d_oc_about_60 : decode prog_1_method_18_code 60 = .ok (.iload_n 1, 1) := by decide +kernel
theorem d_oc_about_61 : decode prog_1_method_18_code 61 = .ok (.invokestatic 102, 3) := by decide +kernel
theorem d_oc_about_64 : decode prog_1_method_18_code 64 = .ok (.ifCond .eq 7, 3) := by decide +kernel
theorem d_oc_about_67 : decode prog_1_method_18_code 67 = .ok (.iconst 1, 1) := by decide +kernel
theorem d_oc_about_68 : decode prog_1_method_18_code 68 = .ok (.goto 4, 3) := by decide +kernel
theorem d_oc_about_71 : decode prog_1_method_18_code 71 = .ok (.iconst 0, 1) := by decide +kernel
theorem d_oc_about_72 : decode prog_1_method_18_code 72 = .ok (.ireturn, 1) := by decide +kernel
theorem d_oc_about_73 : decode prog_1_method_18_code 73 = .ok (.aload_n 0, 1) := by decide +kernel
theorem d_oc_about_74 : decode prog_1_method_18_code 74 = .ok (.getfield 19, 3) := by decide +kernel
theorem d_oc_about_77 : decode prog_1_method_18_code 77 = .ok (.getfield 188, 3) := by decide +kernel
theorem d_oc_about_80 : decode prog_1_method_18_code 80 = .ok (.iload_n 1, 1) := by decide +kernel
theorem d_oc_about_81 : decode prog_1_method_18_code 81 = .ok (.iaload, 1) := by decide +kernel
theorem d_oc_about_82 : decode prog_1_method_18_code 82 = .ok (.ireturn, 1) := by decide +kernel
theorem d_oc_about_83 : decode prog_1_method_18_code 83 = .ok (.aload_n 0, 1) := by decide +kernel
theorem d_oc_about_84 : decode prog_1_method_18_code 84 = .ok (.invokevirtual 184, 3) := by decide +kernel
theorem d_oc_about_87 : decode prog_1_method_18_code 87 = .ok (.iload_n 1, 1) := by decide +kernel
theorem d_oc_about_88 : decode prog_1_method_18_code 88 = .ok (.invokestatic 102, 3) := by decide +kernel
theorem d_oc_about_91 : decode prog_1_method_18_code 91 = .ok (.ifCond .eq 11, 3) := by decide +kernel
theorem d_oc_about_94 : decode prog_1_method_18_code 94 = .ok (.aload_n 0, 1) := by decide +kernel
theorem d_oc_about_95 : decode prog_1_method_18_code 95 = .ok (.iload_n 1, 1) := by decide +kernel
theorem d_oc_about_96 : decode prog_1_method_18_code 96 = .ok (.invokevirtual 191, 3) := by decide +kernel
theorem d_oc_about_99 : decode prog_1_method_18_code 99 = .ok (.goto 4, 3) := by decide +kernel
theorem d_oc_about_102 : decode prog_1_method_18_code 102 = .ok (.iconst 0, 1) := by decide +kernel
theorem d_oc_about_103 : decode prog_1_method_18_code 103 = .ok (.ireturn, 1) := by decide +kernel
theorem d_oc_about_104 : decode prog_1_method_18_code 104 = .ok (.new 65, 3) := by decide +kernel
theorem d_oc_about_107 : decode prog_1_method_18_code 107 = .ok (.dup, 1) := by decide +kernel
theorem d_oc_about_108 : decode prog_1_method_18_code 108 = .ok (.ldc 194, 2) := by decide +kernel
theorem d_oc_about_110 : decode prog_1_method_18_code 110 = .ok (.invokespecial 69, 3) := by decide +kernel
theorem d_oc_about_113 : decode prog_1_method_18_code 113 = .ok (.athrow, 1) := by decide +kernel
theorem d_oc_assign_0 : decode prog_1_method_16_code 0 = .ok (.aload_n 0, 1) := by decide +kernel
theorem d_oc_assign_1 : decode prog_1_method_16_code 1 = .ok (.iload_n 2, 1) := by decide +kernel
theorem d_oc_assign_2 : decode prog_1_method_16_code 2 = .ok (.invokevirtual 110, 3) := by decide +kernel
theorem d_oc_assign_5 : decode prog_1_method_16_code 5 = .ok (.iload_n 1, 1) := by decide +kernel
theorem d_oc_assign_6 : decode prog_1_method_16_code 6 = .ok (.iconst 1, 1) := by decide +kernel
theorem d_oc_assign_7 : decode prog_1_method_16_code 7 = .ok (.if_icmp .lt 9, 3) := by decide +kernel
theorem d_oc_assign_10 : decode prog_1_method_16_code 10 = .ok (.iload_n 1, 1) := by decide +kernel
theorem d_oc_assign_11 : decode prog_1_method_16_code 11 = .ok (.bipush 15, 2) := by decide +kernel
theorem d_oc_assign_13 : decode prog_1_method_16_code 13 = .ok (.if_icmp .le 13, 3) := by decide +kernel
theorem d_oc_assign_16 : decode prog_1_method_16_code 16 = .ok (.new 65, 3) := by decide +kernel
theorem d_oc_assign_19 : decode prog_1_method_16_code 19 = .ok (.dup, 1) := by decide +kernel
theorem d_oc_assign_20 : decode prog_1_method_16_code 20 = .ok (.ldc 173, 2) := by decide +kernel
theorem d_oc_assign_22 : decode prog_1_method_16_code 22 = .ok (.invokespecial 69, 3) := by decide +kernel
theorem d_oc_assign_25 : decode prog_1_method_16_code 25 = .ok (.athrow, 1) := by decide +kernel
theorem d_oc_assign_26 : decode prog_1_method_16_code 26 = .ok (.aload_n 0, 1) := by decide +kernel
theorem d_oc_assign_27 : decode prog_1_method_16_code 27 = .ok (.invokevirtual 134, 3) := by decide +kernel
theorem d_oc_assign_30 : decode prog_1_method_16_code 30 = .ok (.iload_n 1, 1) := by decide +kernel
theorem d_oc_assign_31 : decode prog_1_method_16_code 31 = .ok (.invokestatic 175, 3) := by decide +kernel
theorem d_oc_assign_34 : decode prog_1_method_16_code 34 = .ok (.istore 4, 2) := by decide +kernel
theorem d_oc_assign_36 : decode prog_1_method_16_code 36 = .ok (.aload_n 0, 1) := by decide +kernel
theorem d_oc_assign_37 : decode prog_1_method_16_code 37 = .ok (.getfield 26, 3) := by decide +kernel
theorem d_oc_assign_40 : decode prog_1_method_16_code 40 = .ok (.getfield 141, 3) := by decide +kernel
theorem d_oc_assign_43 : decode prog_1_method_16_code 43 = .ok (.iload 4, 2) := by decide +kernel
theorem d_oc_assign_45 : decode prog_1_method_16_code 45 = .ok (.laload, 1) := by decide +kernel
theorem d_oc_assign_46 : decode prog_1_method_16_code 46 = .ok (.iload_n 2, 1) := by decide +kernel
theorem d_oc_assign_47 : decode prog_1_method_16_code 47 = .ok (.invokestatic 102, 3) := by decide +kernel
theorem d_oc_assign_50 : decode prog_1_method_16_code 50 = .ok (.istore 5, 2) := by decide +kernel
theorem d_oc_assign_52 : decode prog_1_method_16_code 52 = .ok (.aload_n 0, 1) := by decide +kernel
theorem d_oc_assign_53 : decode prog_1_method_16_code 53 = .ok (.getfield 26, 3) := by decide +kernel
theorem d_oc_assign_56 : decode prog_1_method_16_code 56 = .ok (.getfield 141, 3) := by decide +kernel
theorem d_oc_assign_59 : decode prog_1_method_16_code 59 = .ok (.iload 4, 2) := by decide +kernel
theorem d_oc_assign_61 : decode prog_1_method_16_code 61 = .ok (.aload_n 0, 1) := by decide +kernel
theorem d_oc_assign_62 : decode prog_1_method_16_code 62 = .ok (.getfield 26, 3) := by decide +kernel
theorem d_oc_assign_65 : decode prog_1_method_16_code 65 = .ok (.getfield 141, 3) := by decide +kernel
theorem d_oc_assign_68 : decode prog_1_method_16_code 68 = .ok (.iload 4, 2) := by decide +kernel
theorem d_oc_assign_70 : decode prog_1_method_16_code 70 = .ok (.laload, 1) := by decide +kernel
theorem d_oc_assign_71 : decode prog_1_method_16_code 71 = .ok (.iload_n 2, 1) := by decide +kernel
theorem d_oc_assign_72 : decode prog_1_method_16_code 72 = .ok (.iload_n 3, 1) := by decide +kernel
theorem d_oc_assign_73 : decode prog_1_method_16_code 73 = .ok (.invokestatic 106, 3) := by decide +kernel
theorem d_oc_assign_76 : decode prog_1_method_16_code 76 = .ok (.lastore, 1) := by decide +kernel
theorem d_oc_assign_77 : decode prog_1_method_16_code 77 = .ok (.iload 5, 2) := by decide +kernel
theorem d_oc_assign_79 : decode prog_1_method_16_code 79 = .ok (.iload_n 3, 1) := by decide +kernel
theorem d_oc_assign_80 : decode prog_1_method_16_code 80 = .ok (.if_icmp .eq 7, 3) := by decide +kernel
theorem d_oc_assign_83 : decode prog_1_method_16_code 83 = .ok (.iconst 1, 1) := by decide +kernel
theorem d_oc_assign_84 : decode prog_1_method_16_code 84 = .ok (.goto 4, 3) := by decide +kernel
theorem d_oc_assign_87 : decode prog_1_method_16_code 87 = .ok (.iconst 0, 1) := by decide +kernel
theorem d_oc_assign_88 : decode prog_1_method_16_code 88 = .ok (.ireturn, 1) := by decide +kernel
theorem d_oc_boot_0 : decode prog_1_method_22_code 0 = .ok (.aload_n 0, 1) := by decide +kernel
theorem d_oc_boot_1 : decode prog_1_method_22_code 1 = .ok (.invokevirtual 221, 3) := by decide +kernel
theorem d_oc_boot_4 : decode prog_1_method_22_code 4 = .ok (.aload_n 0, 1) := by decide +kernel
theorem d_oc_boot_5 : decode prog_1_method_22_code 5 = .ok (.getfield 33, 3) := by decide +kernel
theorem d_oc_boot_8 : decode prog_1_method_22_code 8 = .ok (.invokevirtual 224, 3) := by decide +kernel
theorem d_oc_boot_11 : decode prog_1_method_22_code 11 = .ok (.ireturn, 1) := by decide +kernel
theorem d_oc_checkKeyboard_0 : decode prog_1_method_27_code 0 = .ok (.iload_n 0, 1) := by decide +kernel
theorem d_oc_checkKeyboard_1 : decode prog_1_method_27_code 1 = .ok (.ifCond .lt 8, 3) := by decide +kernel
theorem d_oc_checkKeyboard_4 : decode prog_1_method_27_code 4 = .ok (.iload_n 0, 1) := by decide +kernel
theorem d_oc_checkKeyboard_5 : decode prog_1_method_27_code 5 = .ok (.iconst 5, 1) := by decide +kernel
theorem d_oc_checkKeyboard_6 : decode prog_1_method_27_code 6 = .ok (.if_icmp .lt 14, 3) := by decide +kernel
theorem d_oc_checkKeyboard_9 : decode prog_1_method_27_code 9 = .ok (.new 93, 3) := by decide +kernel
theorem d_oc_checkKeyboard_12 : decode prog_1_method_27_code 12 = .ok (.dup, 1) := by decide +kernel
theorem d_oc_checkKeyboard_13 : decode prog_1_method_27_code 13 = .ok (.ldc_w 274, 3) := by decide +kernel
theorem d_oc_checkKeyboard_16 : decode prog_1_method_27_code 16 = .ok (.invokespecial 97, 3) := by decide +kernel
theorem d_oc_checkKeyboard_19 : decode prog_1_method_27_code 19 = .ok (.athrow, 1) := by decide +kernel
theorem d_oc_checkKeyboard_20 : decode prog_1_method_27_code 20 = .ok (.return_, 1) := by decide +kernel
theorem d_oc_checkPiston_0 : decode prog_1_method_30_code 0 = .ok (.iload_n 2, 1) := by decide +kernel
theorem d_oc_checkPiston_1 : decode prog_1_method_30_code 1 = .ok (.ifCond .lt 12, 3) := by decide +kernel
theorem d_oc_checkPiston_4 : decode prog_1_method_30_code 4 = .ok (.iload_n 2, 1) := by decide +kernel
theorem d_oc_checkPiston_5 : decode prog_1_method_30_code 5 = .ok (.aload_n 0, 1) := by decide +kernel
theorem d_oc_checkPiston_6 : decode prog_1_method_30_code 6 = .ok (.iload_n 1, 1) := by decide +kernel
theorem d_oc_checkPiston_7 : decode prog_1_method_30_code 7 = .ok (.invokevirtual 280, 3) := by decide +kernel
theorem d_oc_checkPiston_10 : decode prog_1_method_30_code 10 = .ok (.if_icmp .lt 14, 3) := by decide +kernel
theorem d_oc_checkPiston_13 : decode prog_1_method_30_code 13 = .ok (.new 93, 3) := by decide +kernel
theorem d_oc_checkPiston_16 : decode prog_1_method_30_code 16 = .ok (.dup, 1) := by decide +kernel
theorem d_oc_checkPiston_17 : decode prog_1_method_30_code 17 = .ok (.ldc_w 283, 3) := by decide +kernel
theorem d_oc_checkPiston_20 : decode prog_1_method_30_code 20 = .ok (.invokespecial 97, 3) := by decide +kernel
theorem d_oc_checkPiston_23 : decode prog_1_method_30_code 23 = .ok (.athrow, 1) := by decide +kernel
theorem d_oc_checkPiston_24 : decode prog_1_method_30_code 24 = .ok (.return_, 1) := by decide +kernel
theorem d_oc_checkShift_0 : decode prog_1_method_28_code 0 = .ok (.iload_n 0, 1) := by decide +kernel
theorem d_oc_checkShift_1 : decode prog_1_method_28_code 1 = .ok (.bipush (-24), 2) := by decide +kernel
theorem d_oc_checkShift_3 : decode prog_1_method_28_code 3 = .ok (.if_icmp .lt 9, 3) := by decide +kernel
theorem d_oc_checkShift_6 : decode prog_1_method_28_code 6 = .ok (.iload_n 0, 1) := by decide +kernel
theorem d_oc_checkShift_7 : decode prog_1_method_28_code 7 = .ok (.bipush 24, 2) := by decide +kernel
theorem d_oc_checkShift_9 : decode prog_1_method_28_code 9 = .ok (.if_icmp .le 14, 3) := by decide +kernel
theorem d_oc_checkShift_12 : decode prog_1_method_28_code 12 = .ok (.new 65, 3) := by decide +kernel
theorem d_oc_checkShift_15 : decode prog_1_method_28_code 15 = .ok (.dup, 1) := by decide +kernel
theorem d_oc_checkShift_16 : decode prog_1_method_28_code 16 = .ok (.ldc_w 276, 3) := by decide +kernel
theorem d_oc_checkShift_19 : decode prog_1_method_28_code 19 = .ok (.invokespecial 69, 3) := by decide +kernel
theorem d_oc_checkShift_22 : decode prog_1_method_28_code 22 = .ok (.athrow, 1) := by decide +kernel
theorem d_oc_checkShift_23 : decode prog_1_method_28_code 23 = .ok (.return_, 1) := by decide +kernel
theorem d_oc_checkStop_0 : decode prog_1_method_29_code 0 = .ok (.iload_n 1, 1) := by decide +kernel
theorem d_oc_checkStop_1 : decode prog_1_method_29_code 1 = .ok (.ifCond .lt 14, 3) := by decide +kernel
theorem d_oc_checkStop_4 : decode prog_1_method_29_code 4 = .ok (.iload_n 1, 1) := by decide +kernel
theorem d_oc_checkStop_5 : decode prog_1_method_29_code 5 = .ok (.aload_n 0, 1) := by decide +kernel
theorem d_oc_checkStop_6 : decode prog_1_method_29_code 6 = .ok (.getfield 19, 3) := by decide +kernel
theorem d_oc_checkStop_9 : decode prog_1_method_29_code 9 = .ok (.getfield 72, 3) := by decide +kernel
theorem d_oc_checkStop_12 : decode prog_1_method_29_code 12 = .ok (.if_icmp .lt 14, 3) := by decide +kernel
theorem d_oc_checkStop_15 : decode prog_1_method_29_code 15 = .ok (.new 93, 3) := by decide +kernel
theorem d_oc_checkStop_18 : decode prog_1_method_29_code 18 = .ok (.dup, 1) := by decide +kernel
theorem d_oc_checkStop_19 : decode prog_1_method_29_code 19 = .ok (.ldc_w 278, 3) := by decide +kernel
theorem d_oc_checkStop_22 : decode prog_1_method_29_code 22 = .ok (.invokespecial 97, 3) := by decide +kernel
theorem d_oc_checkStop_25 : decode prog_1_method_29_code 25 = .ok (.athrow, 1) := by decide +kernel
theorem d_oc_checkStop_26 : decode prog_1_method_29_code 26 = .ok (.return_, 1) := by decide +kernel
theorem d_oc_checkUnlocked_0 : decode prog_1_method_32_code 0 = .ok (.aload_n 0, 1) := by decide +kernel
theorem d_oc_checkUnlocked_1 : decode prog_1_method_32_code 1 = .ok (.getfield 51, 3) := by decide +kernel
theorem d_oc_checkUnlocked_4 : decode prog_1_method_32_code 4 = .ok (.ifCond .eq 14, 3) := by decide +kernel
theorem d_oc_checkUnlocked_7 : decode prog_1_method_32_code 7 = .ok (.new 75, 3) := by decide +kernel
theorem d_oc_checkUnlocked_10 : decode prog_1_method_32_code 10 = .ok (.dup, 1) := by decide +kernel
theorem d_oc_checkUnlocked_11 : decode prog_1_method_32_code 11 = .ok (.ldc_w 290, 3) := by decide +kernel
theorem d_oc_checkUnlocked_14 : decode prog_1_method_32_code 14 = .ok (.invokespecial 79, 3) := by decide +kernel
theorem d_oc_checkUnlocked_17 : decode prog_1_method_32_code 17 = .ok (.athrow, 1) := by decide +kernel
theorem d_oc_checkUnlocked_18 : decode prog_1_method_32_code 18 = .ok (.return_, 1) := by decide +kernel
theorem d_oc_checkWire_0 : decode prog_1_method_31_code 0 = .ok (.iload_n 2, 1) := by decide +kernel
theorem d_oc_checkWire_1 : decode prog_1_method_31_code 1 = .ok (.ifCond .lt 12, 3) := by decide +kernel
theorem d_oc_checkWire_4 : decode prog_1_method_31_code 4 = .ok (.iload_n 2, 1) := by decide +kernel
theorem d_oc_checkWire_5 : decode prog_1_method_31_code 5 = .ok (.aload_n 0, 1) := by decide +kernel
theorem d_oc_checkWire_6 : decode prog_1_method_31_code 6 = .ok (.iload_n 1, 1) := by decide +kernel
theorem d_oc_checkWire_7 : decode prog_1_method_31_code 7 = .ok (.invokevirtual 285, 3) := by decide +kernel
theorem d_oc_checkWire_10 : decode prog_1_method_31_code 10 = .ok (.if_icmp .lt 14, 3) := by decide +kernel
theorem d_oc_checkWire_13 : decode prog_1_method_31_code 13 = .ok (.new 93, 3) := by decide +kernel
theorem d_oc_checkWire_16 : decode prog_1_method_31_code 16 = .ok (.dup, 1) := by decide +kernel
theorem d_oc_checkWire_17 : decode prog_1_method_31_code 17 = .ok (.ldc_w 288, 3) := by decide +kernel
theorem d_oc_checkWire_20 : decode prog_1_method_31_code 20 = .ok (.invokespecial 97, 3) := by decide +kernel
theorem d_oc_checkWire_23 : decode prog_1_method_31_code 23 = .ok (.athrow, 1) := by decide +kernel
theorem d_oc_checkWire_24 : decode prog_1_method_31_code 24 = .ok (.return_, 1) := by decide +kernel
theorem d_oc_commit_0 : decode prog_1_method_21_code 0 = .ok (.iload_n 1, 1) := by decide +kernel
theorem d_oc_commit_1 : decode prog_1_method_21_code 1 = .ok (.ifCond .lt 9, 3) := by decide +kernel
theorem d_oc_commit_4 : decode prog_1_method_21_code 4 = .ok (.iload_n 1, 1) := by decide +kernel
theorem d_oc_commit_5 : decode prog_1_method_21_code 5 = .ok (.bipush 9, 2) := by decide +kernel
theorem d_oc_commit_7 : decode prog_1_method_21_code 7 = .ok (.if_icmp .le 13, 3) := by decide +kernel
theorem d_oc_commit_10 : decode prog_1_method_21_code 10 = .ok (.new 65, 3) := by decide +kernel
theorem d_oc_commit_13 : decode prog_1_method_21_code 13 = .ok (.dup, 1) := by decide +kernel
theorem d_oc_commit_14 : decode prog_1_method_21_code 14 = .ok (.ldc 215, 2) := by decide +kernel
theorem d_oc_commit_16 : decode prog_1_method_21_code 16 = .ok (.invokespecial 69, 3) := by decide +kernel
theorem d_oc_commit_19 : decode prog_1_method_21_code 19 = .ok (.athrow, 1) := by decide +kernel
theorem d_oc_commit_20 : decode prog_1_method_21_code 20 = .ok (.aload_n 0, 1) := by decide +kernel
theorem d_oc_commit_21 : decode prog_1_method_21_code 21 = .ok (.getfield 33, 3) := by decide +kernel
theorem d_oc_commit_24 : decode prog_1_method_21_code 24 = .ok (.aload_n 0, 1) := by decide +kernel
theorem d_oc_commit_25 : decode prog_1_method_21_code 25 = .ok (.getfield 26, 3) := by decide +kernel
theorem d_oc_commit_28 : decode prog_1_method_21_code 28 = .ok (.iload_n 1, 1) := by decide +kernel
theorem d_oc_commit_29 : decode prog_1_method_21_code 29 = .ok (.invokevirtual 217, 3) := by decide +kernel
theorem d_oc_commit_32 : decode prog_1_method_21_code 32 = .ok (.iload_n 1, 1) := by decide +kernel
theorem d_oc_commit_33 : decode prog_1_method_21_code 33 = .ok (.bipush 9, 2) := by decide +kernel
theorem d_oc_commit_35 : decode prog_1_method_21_code 35 = .ok (.if_icmp .ge 7, 3) := by decide +kernel
theorem d_oc_commit_38 : decode prog_1_method_21_code 38 = .ok (.aload_n 0, 1) := by decide +kernel
theorem d_oc_commit_39 : decode prog_1_method_21_code 39 = .ok (.invokevirtual 221, 3) := by decide +kernel
theorem d_oc_commit_42 : decode prog_1_method_21_code 42 = .ok (.aload_n 0, 1) := by decide +kernel
theorem d_oc_commit_43 : decode prog_1_method_21_code 43 = .ok (.getfield 33, 3) := by decide +kernel
theorem d_oc_commit_46 : decode prog_1_method_21_code 46 = .ok (.invokevirtual 224, 3) := by decide +kernel
theorem d_oc_commit_49 : decode prog_1_method_21_code 49 = .ok (.ireturn, 1) := by decide +kernel
theorem d_oc_count_0 : decode prog_1_method_26_code 0 = .ok (.iload_n 1, 1) := by decide +kernel
theorem d_oc_count_1 : decode prog_1_method_26_code 1 = .ok (.tableswitch 144 0 10 #[59, 67, 75, 83, 94, 102, 110, 115, 123, 128, 136], 59) := by decide +kernel
theorem d_oc_count_60 : decode prog_1_method_26_code 60 = .ok (.aload_n 0, 1) := by decide +kernel
theorem d_oc_count_61 : decode prog_1_method_26_code 61 = .ok (.getfield 19, 3) := by decide +kernel
theorem d_oc_count_64 : decode prog_1_method_26_code 64 = .ok (.getfield 72, 3) := by decide +kernel
theorem d_oc_count_67 : decode prog_1_method_26_code 67 = .ok (.ireturn, 1) := by decide +kernel
theorem d_oc_count_68 : decode prog_1_method_26_code 68 = .ok (.aload_n 0, 1) := by decide +kernel
theorem d_oc_count_69 : decode prog_1_method_26_code 69 = .ok (.getfield 10, 3) := by decide +kernel
theorem d_oc_count_72 : decode prog_1_method_26_code 72 = .ok (.getfield 84, 3) := by decide +kernel
theorem d_oc_count_75 : decode prog_1_method_26_code 75 = .ok (.ireturn, 1) := by decide +kernel
theorem d_oc_count_76 : decode prog_1_method_26_code 76 = .ok (.aload_n 0, 1) := by decide +kernel
theorem d_oc_count_77 : decode prog_1_method_26_code 77 = .ok (.getfield 10, 3) := by decide +kernel
theorem d_oc_count_80 : decode prog_1_method_26_code 80 = .ok (.invokevirtual 257, 3) := by decide +kernel
theorem d_oc_count_83 : decode prog_1_method_26_code 83 = .ok (.ireturn, 1) := by decide +kernel
theorem d_oc_count_84 : decode prog_1_method_26_code 84 = .ok (.aload_n 0, 1) := by decide +kernel
theorem d_oc_count_85 : decode prog_1_method_26_code 85 = .ok (.getfield 19, 3) := by decide +kernel
theorem d_oc_count_88 : decode prog_1_method_26_code 88 = .ok (.getfield 113, 3) := by decide +kernel
theorem d_oc_count_91 : decode prog_1_method_26_code 91 = .ok (.invokestatic 147, 3) := by decide +kernel
theorem d_oc_count_94 : decode prog_1_method_26_code 94 = .ok (.ireturn, 1) := by decide +kernel
theorem d_oc_count_95 : decode prog_1_method_26_code 95 = .ok (.aload_n 0, 1) := by decide +kernel
theorem d_oc_count_96 : decode prog_1_method_26_code 96 = .ok (.getfield 19, 3) := by decide +kernel
theorem d_oc_count_99 : decode prog_1_method_26_code 99 = .ok (.invokevirtual 260, 3) := by decide +kernel
theorem d_oc_count_102 : decode prog_1_method_26_code 102 = .ok (.ireturn, 1) := by decide +kernel
theorem d_oc_count_103 : decode prog_1_method_26_code 103 = .ok (.aload_n 0, 1) := by decide +kernel
theorem d_oc_count_104 : decode prog_1_method_26_code 104 = .ok (.getfield 26, 3) := by decide +kernel
theorem d_oc_count_107 : decode prog_1_method_26_code 107 = .ok (.getfield 155, 3) := by decide +kernel
theorem d_oc_count_110 : decode prog_1_method_26_code 110 = .ok (.ireturn, 1) := by decide +kernel
theorem d_oc_count_111 : decode prog_1_method_26_code 111 = .ok (.aload_n 0, 1) := by decide +kernel
theorem d_oc_count_112 : decode prog_1_method_26_code 112 = .ok (.getfield 45, 3) := by decide +kernel
theorem d_oc_count_115 : decode prog_1_method_26_code 115 = .ok (.ireturn, 1) := by decide +kernel
theorem d_oc_count_116 : decode prog_1_method_26_code 116 = .ok (.aload_n 0, 1) := by decide +kernel
theorem d_oc_count_117 : decode prog_1_method_26_code 117 = .ok (.getfield 33, 3) := by decide +kernel
theorem d_oc_count_120 : decode prog_1_method_26_code 120 = .ok (.invokevirtual 224, 3) := by decide +kernel
theorem d_oc_count_123 : decode prog_1_method_26_code 123 = .ok (.ireturn, 1) := by decide +kernel
theorem d_oc_count_124 : decode prog_1_method_26_code 124 = .ok (.aload_n 0, 1) := by decide +kernel
theorem d_oc_count_125 : decode prog_1_method_26_code 125 = .ok (.invokevirtual 263, 3) := by decide +kernel
theorem d_oc_count_128 : decode prog_1_method_26_code 128 = .ok (.ireturn, 1) := by decide +kernel
theorem d_oc_count_129 : decode prog_1_method_26_code 129 = .ok (.aload_n 0, 1) := by decide +kernel
theorem d_oc_count_130 : decode prog_1_method_26_code 130 = .ok (.getfield 10, 3) := by decide +kernel
theorem d_oc_count_133 : decode prog_1_method_26_code 133 = .ok (.invokevirtual 266, 3) := by decide +kernel
theorem d_oc_count_136 : decode prog_1_method_26_code 136 = .ok (.ireturn, 1) := by decide +kernel
theorem d_oc_count_137 : decode prog_1_method_26_code 137 = .ok (.aload_n 0, 1) := by decide +kernel
theorem d_oc_count_138 : decode prog_1_method_26_code 138 = .ok (.getfield 33, 3) := by decide +kernel
theorem d_oc_count_141 : decode prog_1_method_26_code 141 = .ok (.getfield 269, 3) := by decide +kernel
theorem d_oc_count_144 : decode prog_1_method_26_code 144 = .ok (.ireturn, 1) := by decide +kernel
theorem d_oc_count_145 : decode prog_1_method_26_code 145 = .ok (.new 65, 3) := by decide +kernel
theorem d_oc_count_148 : decode prog_1_method_26_code 148 = .ok (.dup, 1) := by decide +kernel
theorem d_oc_count_149 : decode prog_1_method_26_code 149 = .ok (.ldc_w 272, 3) := by decide +kernel
theorem d_oc_count_152 : decode prog_1_method_26_code 152 = .ok (.invokespecial 69, 3) := by decide +kernel
theorem d_oc_count_155 : decode prog_1_method_26_code 155 = .ok (.athrow, 1) := by decide +kernel
theorem d_oc_coupler_0 : decode prog_1_method_3_code 0 = .ok (.iload_n 1, 1) := by decide +kernel
theorem d_oc_coupler_1 : decode prog_1_method_3_code 1 = .ok (.invokestatic 58, 3) := by decide +kernel
theorem d_oc_coupler_4 : decode prog_1_method_3_code 4 = .ok (.iload_n 2, 1) := by decide +kernel
theorem d_oc_coupler_5 : decode prog_1_method_3_code 5 = .ok (.invokestatic 58, 3) := by decide +kernel
theorem d_oc_coupler_8 : decode prog_1_method_3_code 8 = .ok (.iload_n 3, 1) := by decide +kernel
theorem d_oc_coupler_9 : decode prog_1_method_3_code 9 = .ok (.invokestatic 62, 3) := by decide +kernel
theorem d_oc_coupler_12 : decode prog_1_method_3_code 12 = .ok (.aload_n 0, 1) := by decide +kernel
theorem d_oc_coupler_13 : decode prog_1_method_3_code 13 = .ok (.getfield 10, 3) := by decide +kernel
theorem d_oc_coupler_16 : decode prog_1_method_3_code 16 = .ok (.getfield 84, 3) := by decide +kernel
theorem d_oc_coupler_19 : decode prog_1_method_3_code 19 = .ok (.bipush 16, 2) := by decide +kernel
theorem d_oc_coupler_21 : decode prog_1_method_3_code 21 = .ok (.if_icmp .lt 13, 3) := by decide +kernel
theorem d_oc_coupler_24 : decode prog_1_method_3_code 24 = .ok (.new 75, 3) := by decide +kernel
theorem d_oc_coupler_27 : decode prog_1_method_3_code 27 = .ok (.dup, 1) := by decide +kernel
theorem d_oc_coupler_28 : decode prog_1_method_3_code 28 = .ok (.ldc 87, 2) := by decide +kernel
theorem d_oc_coupler_30 : decode prog_1_method_3_code 30 = .ok (.invokespecial 79, 3) := by decide +kernel
theorem d_oc_coupler_33 : decode prog_1_method_3_code 33 = .ok (.athrow, 1) := by decide +kernel
theorem d_oc_coupler_34 : decode prog_1_method_3_code 34 = .ok (.aload_n 0, 1) := by decide +kernel
theorem d_oc_coupler_35 : decode prog_1_method_3_code 35 = .ok (.getfield 10, 3) := by decide +kernel
theorem d_oc_coupler_38 : decode prog_1_method_3_code 38 = .ok (.iload_n 1, 1) := by decide +kernel
theorem d_oc_coupler_39 : decode prog_1_method_3_code 39 = .ok (.iload_n 2, 1) := by decide +kernel
theorem d_oc_coupler_40 : decode prog_1_method_3_code 40 = .ok (.iload_n 3, 1) := by decide +kernel
theorem d_oc_coupler_41 : decode prog_1_method_3_code 41 = .ok (.invokevirtual 89, 3) := by decide +kernel
theorem d_oc_coupler_44 : decode prog_1_method_3_code 44 = .ok (.ireturn, 1) := by decide +kernel
theorem d_oc_delete_0 : decode prog_1_method_14_code 0 = .ok (.aload_n 0, 1) := by decide +kernel
theorem d_oc_delete_1 : decode prog_1_method_14_code 1 = .ok (.invokevirtual 134, 3) := by decide +kernel
theorem d_oc_delete_4 : decode prog_1_method_14_code 4 = .ok (.aload_n 0, 1) := by decide +kernel
theorem d_oc_delete_5 : decode prog_1_method_14_code 5 = .ok (.getfield 45, 3) := by decide +kernel
theorem d_oc_delete_8 : decode prog_1_method_14_code 8 = .ok (.iconst (-1), 1) := by decide +kernel
theorem d_oc_delete_9 : decode prog_1_method_14_code 9 = .ok (.if_icmp .ne 13, 3) := by decide +kernel
theorem d_oc_delete_12 : decode prog_1_method_14_code 12 = .ok (.new 75, 3) := by decide +kernel
theorem d_oc_delete_15 : decode prog_1_method_14_code 15 = .ok (.dup, 1) := by decide +kernel
theorem d_oc_delete_16 : decode prog_1_method_14_code 16 = .ok (.ldc 166, 2) := by decide +kernel
theorem d_oc_delete_18 : decode prog_1_method_14_code 18 = .ok (.invokespecial 79, 3) := by decide +kernel
theorem d_oc_delete_21 : decode prog_1_method_14_code 21 = .ok (.athrow, 1) := by decide +kernel
theorem d_oc_delete_22 : decode prog_1_method_14_code 22 = .ok (.aload_n 0, 1) := by decide +kernel
theorem d_oc_delete_23 : decode prog_1_method_14_code 23 = .ok (.getfield 26, 3) := by decide +kernel
theorem d_oc_delete_26 : decode prog_1_method_14_code 26 = .ok (.aload_n 0, 1) := by decide +kernel
theorem d_oc_delete_27 : decode prog_1_method_14_code 27 = .ok (.getfield 45, 3) := by decide +kernel
theorem d_oc_delete_30 : decode prog_1_method_14_code 30 = .ok (.invokevirtual 168, 3) := by decide +kernel
theorem d_oc_delete_33 : decode prog_1_method_14_code 33 = .ok (.aload_n 0, 1) := by decide +kernel
theorem d_oc_delete_34 : decode prog_1_method_14_code 34 = .ok (.dup, 1) := by decide +kernel
theorem d_oc_delete_35 : decode prog_1_method_14_code 35 = .ok (.getfield 45, 3) := by decide +kernel
theorem d_oc_delete_38 : decode prog_1_method_14_code 38 = .ok (.iconst 1, 1) := by decide +kernel
theorem d_oc_delete_39 : decode prog_1_method_14_code 39 = .ok (.isub, 1) := by decide +kernel
theorem d_oc_delete_40 : decode prog_1_method_14_code 40 = .ok (.putfield 45, 3) := by decide +kernel
theorem d_oc_delete_43 : decode prog_1_method_14_code 43 = .ok (.aload_n 0, 1) := by decide +kernel
theorem d_oc_delete_44 : decode prog_1_method_14_code 44 = .ok (.getfield 26, 3) := by decide +kernel
theorem d_oc_delete_47 : decode prog_1_method_14_code 47 = .ok (.getfield 155, 3) := by decide +kernel
theorem d_oc_delete_50 : decode prog_1_method_14_code 50 = .ok (.ireturn, 1) := by decide +kernel
theorem d_oc_fault_0 : decode prog_1_method_24_code 0 = .ok (.aload_n 0, 1) := by decide +kernel
theorem d_oc_fault_1 : decode prog_1_method_24_code 1 = .ok (.iload_n 1, 1) := by decide +kernel
theorem d_oc_fault_2 : decode prog_1_method_24_code 2 = .ok (.iload_n 2, 1) := by decide +kernel
theorem d_oc_fault_3 : decode prog_1_method_24_code 3 = .ok (.invokevirtual 245, 3) := by decide +kernel
theorem d_oc_fault_6 : decode prog_1_method_24_code 6 = .ok (.iload_n 3, 1) := by decide +kernel
theorem d_oc_fault_7 : decode prog_1_method_24_code 7 = .ok (.ifCond .lt 8, 3) := by decide +kernel
theorem d_oc_fault_10 : decode prog_1_method_24_code 10 = .ok (.iload_n 3, 1) := by decide +kernel
theorem d_oc_fault_11 : decode prog_1_method_24_code 11 = .ok (.iconst 2, 1) := by decide +kernel
theorem d_oc_fault_12 : decode prog_1_method_24_code 12 = .ok (.if_icmp .le 13, 3) := by decide +kernel
theorem d_oc_fault_15 : decode prog_1_method_24_code 15 = .ok (.new 65, 3) := by decide +kernel
theorem d_oc_fault_18 : decode prog_1_method_24_code 18 = .ok (.dup, 1) := by decide +kernel
theorem d_oc_fault_19 : decode prog_1_method_24_code 19 = .ok (.ldc 248, 2) := by decide +kernel
theorem d_oc_fault_21 : decode prog_1_method_24_code 21 = .ok (.invokespecial 69, 3) := by decide +kernel
theorem d_oc_fault_24 : decode prog_1_method_24_code 24 = .ok (.athrow, 1) := by decide +kernel
theorem d_oc_fault_25 : decode prog_1_method_24_code 25 = .ok (.iload_n 1, 1) := by decide +kernel
theorem d_oc_fault_26 : decode prog_1_method_24_code 26 = .ok (.ifCond .ne 10, 3) := by decide +kernel
theorem d_oc_fault_29 : decode prog_1_method_24_code 29 = .ok (.aload_n 0, 1) := by decide +kernel
theorem d_oc_fault_30 : decode prog_1_method_24_code 30 = .ok (.getfield 37, 3) := by decide +kernel
theorem d_oc_fault_33 : decode prog_1_method_24_code 33 = .ok (.goto 10, 3) := by decide +kernel
theorem d_oc_fault_36 : decode prog_1_method_24_code 36 = .ok (.aload_n 0, 1) := by decide +kernel
theorem d_oc_fault_37 : decode prog_1_method_24_code 37 = .ok (.getfield 19, 3) := by decide +kernel
theorem d_oc_fault_40 : decode prog_1_method_24_code 40 = .ok (.getfield 250, 3) := by decide +kernel
theorem d_oc_fault_43 : decode prog_1_method_24_code 43 = .ok (.astore 4, 2) := by decide +kernel
theorem d_oc_fault_45 : decode prog_1_method_24_code 45 = .ok (.aload 4, 2) := by decide +kernel
theorem d_oc_fault_47 : decode prog_1_method_24_code 47 = .ok (.iload_n 2, 1) := by decide +kernel
theorem d_oc_fault_48 : decode prog_1_method_24_code 48 = .ok (.iaload, 1) := by decide +kernel
theorem d_oc_fault_49 : decode prog_1_method_24_code 49 = .ok (.istore 5, 2) := by decide +kernel
theorem d_oc_fault_51 : decode prog_1_method_24_code 51 = .ok (.aload 4, 2) := by decide +kernel
theorem d_oc_fault_53 : decode prog_1_method_24_code 53 = .ok (.iload_n 2, 1) := by decide +kernel
theorem d_oc_fault_54 : decode prog_1_method_24_code 54 = .ok (.iload_n 3, 1) := by decide +kernel
theorem d_oc_fault_55 : decode prog_1_method_24_code 55 = .ok (.iastore, 1) := by decide +kernel
theorem d_oc_fault_56 : decode prog_1_method_24_code 56 = .ok (.iload 5, 2) := by decide +kernel
theorem d_oc_fault_58 : decode prog_1_method_24_code 58 = .ok (.ireturn, 1) := by decide +kernel
theorem d_oc_firstFaulty_0 : decode prog_1_method_42_code 0 = .ok (.iconst 0, 1) := by decide +kernel
theorem d_oc_firstFaulty_1 : decode prog_1_method_42_code 1 = .ok (.istore_n 2, 1) := by decide +kernel
theorem d_oc_firstFaulty_2 : decode prog_1_method_42_code 2 = .ok (.iload_n 2, 1) := by decide +kernel
theorem d_oc_firstFaulty_3 : decode prog_1_method_42_code 3 = .ok (.iload_n 1, 1) := by decide +kernel
theorem d_oc_firstFaulty_4 : decode prog_1_method_42_code 4 = .ok (.if_icmp .ge 17, 3) := by decide +kernel
theorem d_oc_firstFaulty_7 : decode prog_1_method_42_code 7 = .ok (.aload_n 0, 1) := by decide +kernel
theorem d_oc_firstFaulty_8 : decode prog_1_method_42_code 8 = .ok (.iload_n 2, 1) := by decide +kernel
theorem d_oc_firstFaulty_9 : decode prog_1_method_42_code 9 = .ok (.iaload, 1) := by decide +kernel
theorem d_oc_firstFaulty_10 : decode prog_1_method_42_code 10 = .ok (.ifCond .eq 5, 3) := by decide +kernel
theorem d_oc_firstFaulty_13 : decode prog_1_method_42_code 13 = .ok (.iload_n 2, 1) := by decide +kernel
theorem d_oc_firstFaulty_14 : decode prog_1_method_42_code 14 = .ok (.ireturn, 1) := by decide +kernel
theorem d_oc_firstFaulty_15 : decode prog_1_method_42_code 15 = .ok (.iinc 2 1, 3) := by decide +kernel
theorem d_oc_firstFaulty_18 : decode prog_1_method_42_code 18 = .ok (.goto (-16), 3) := by decide +kernel
theorem d_oc_firstFaulty_21 : decode prog_1_method_42_code 21 = .ok (.iconst (-1), 1) := by decide +kernel
theorem d_oc_firstFaulty_22 : decode prog_1_method_42_code 22 = .ok (.ireturn, 1) := by decide +kernel
theorem d_oc_full_0 : decode prog_1_method_7_code 0 = .ok (.aload_n 0, 1) := by decide +kernel
theorem d_oc_full_1 : decode prog_1_method_7_code 1 = .ok (.getfield 55, 3) := by decide +kernel
theorem d_oc_full_4 : decode prog_1_method_7_code 4 = .ok (.istore_n 2, 1) := by decide +kernel
theorem d_oc_full_5 : decode prog_1_method_7_code 5 = .ok (.aload_n 0, 1) := by decide +kernel
theorem d_oc_full_6 : decode prog_1_method_7_code 6 = .ok (.iload_n 1, 1) := by decide +kernel
theorem d_oc_full_7 : decode prog_1_method_7_code 7 = .ok (.putfield 55, 3) := by decide +kernel
theorem d_oc_full_10 : decode prog_1_method_7_code 10 = .ok (.iload_n 2, 1) := by decide +kernel
theorem d_oc_full_11 : decode prog_1_method_7_code 11 = .ok (.iload_n 1, 1) := by decide +kernel
theorem d_oc_full_12 : decode prog_1_method_7_code 12 = .ok (.if_icmp .eq 7, 3) := by decide +kernel
theorem d_oc_full_15 : decode prog_1_method_7_code 15 = .ok (.iconst 1, 1) := by decide +kernel
theorem d_oc_full_16 : decode prog_1_method_7_code 16 = .ok (.goto 4, 3) := by decide +kernel
theorem d_oc_full_19 : decode prog_1_method_7_code 19 = .ok (.iconst 0, 1) := by decide +kernel
theorem d_oc_full_20 : decode prog_1_method_7_code 20 = .ok (.ireturn, 1) := by decide +kernel
theorem d_oc_has_0 : decode prog_1_method_43_code 0 = .ok (.lload_n 0, 1) := by decide +kernel
theorem d_oc_has_1 : decode prog_1_method_43_code 1 = .ok (.iload_n 2, 1) := by decide +kernel
theorem d_oc_has_2 : decode prog_1_method_43_code 2 = .ok (.lushr, 1) := by decide +kernel
theorem d_oc_has_3 : decode prog_1_method_43_code 3 = .ok (.lconst 1, 1) := by decide +kernel
theorem d_oc_has_4 : decode prog_1_method_43_code 4 = .ok (.land, 1) := by decide +kernel
theorem d_oc_has_5 : decode prog_1_method_43_code 5 = .ok (.lconst 0, 1) := by decide +kernel
theorem d_oc_has_6 : decode prog_1_method_43_code 6 = .ok (.lcmp, 1) := by decide +kernel
theorem d_oc_has_7 : decode prog_1_method_43_code 7 = .ok (.ifCond .eq 7, 3) := by decide +kernel
theorem d_oc_has_10 : decode prog_1_method_43_code 10 = .ok (.iconst 1, 1) := by decide +kernel
theorem d_oc_has_11 : decode prog_1_method_43_code 11 = .ok (.goto 4, 3) := by decide +kernel
theorem d_oc_has_14 : decode prog_1_method_43_code 14 = .ok (.iconst 0, 1) := by decide +kernel
theorem d_oc_has_15 : decode prog_1_method_43_code 15 = .ok (.ireturn, 1) := by decide +kernel
theorem d_oc_init_0 : decode prog_1_method_1_code 0 = .ok (.aload_n 0, 1) := by decide +kernel
theorem d_oc_init_1 : decode prog_1_method_1_code 1 = .ok (.invokespecial 1, 3) := by decide +kernel
theorem d_oc_init_4 : decode prog_1_method_1_code 4 = .ok (.aload_n 0, 1) := by decide +kernel
theorem d_oc_init_5 : decode prog_1_method_1_code 5 = .ok (.new 7, 3) := by decide +kernel
theorem d_oc_init_8 : decode prog_1_method_1_code 8 = .ok (.dup, 1) := by decide +kernel
theorem d_oc_init_9 : decode prog_1_method_1_code 9 = .ok (.invokespecial 9, 3) := by decide +kernel
theorem d_oc_init_12 : decode prog_1_method_1_code 12 = .ok (.putfield 10, 3) := by decide +kernel
theorem d_oc_init_15 : decode prog_1_method_1_code 15 = .ok (.aload_n 0, 1) := by decide +kernel
theorem d_oc_init_16 : decode prog_1_method_1_code 16 = .ok (.new 16, 3) := by decide +kernel
theorem d_oc_init_19 : decode prog_1_method_1_code 19 = .ok (.dup, 1) := by decide +kernel
theorem d_oc_init_20 : decode prog_1_method_1_code 20 = .ok (.invokespecial 18, 3) := by decide +kernel
theorem d_oc_init_23 : decode prog_1_method_1_code 23 = .ok (.putfield 19, 3) := by decide +kernel
theorem d_oc_init_26 : decode prog_1_method_1_code 26 = .ok (.aload_n 0, 1) := by decide +kernel
theorem d_oc_init_27 : decode prog_1_method_1_code 27 = .ok (.new 23, 3) := by decide +kernel
theorem d_oc_init_30 : decode prog_1_method_1_code 30 = .ok (.dup, 1) := by decide +kernel
theorem d_oc_init_31 : decode prog_1_method_1_code 31 = .ok (.invokespecial 25, 3) := by decide +kernel
theorem d_oc_init_34 : decode prog_1_method_1_code 34 = .ok (.putfield 26, 3) := by decide +kernel
theorem d_oc_init_37 : decode prog_1_method_1_code 37 = .ok (.aload_n 0, 1) := by decide +kernel
theorem d_oc_init_38 : decode prog_1_method_1_code 38 = .ok (.new 30, 3) := by decide +kernel
theorem d_oc_init_41 : decode prog_1_method_1_code 41 = .ok (.dup, 1) := by decide +kernel
theorem d_oc_init_42 : decode prog_1_method_1_code 42 = .ok (.invokespecial 32, 3) := by decide +kernel
theorem d_oc_init_45 : decode prog_1_method_1_code 45 = .ok (.putfield 33, 3) := by decide +kernel
theorem d_oc_init_48 : decode prog_1_method_1_code 48 = .ok (.aload_n 0, 1) := by decide +kernel
theorem d_oc_init_49 : decode prog_1_method_1_code 49 = .ok (.bipush 40, 2) := by decide +kernel
theorem d_oc_init_51 : decode prog_1_method_1_code 51 = .ok (.newarray .int, 2) := by decide +kernel
theorem d_oc_init_53 : decode prog_1_method_1_code 53 = .ok (.putfield 37, 3) := by decide +kernel
theorem d_oc_init_56 : decode prog_1_method_1_code 56 = .ok (.aload_n 0, 1) := by decide +kernel
theorem d_oc_init_57 : decode prog_1_method_1_code 57 = .ok (.iconst 0, 1) := by decide +kernel
theorem d_oc_init_58 : decode prog_1_method_1_code 58 = .ok (.putfield 41, 3) := by decide +kernel
theorem d_oc_init_61 : decode prog_1_method_1_code 61 = .ok (.aload_n 0, 1) := by decide +kernel
theorem d_oc_init_62 : decode prog_1_method_1_code 62 = .ok (.iconst (-1), 1) := by decide +kernel
theorem d_oc_init_63 : decode prog_1_method_1_code 63 = .ok (.putfield 45, 3) := by decide +kernel
theorem d_oc_init_66 : decode prog_1_method_1_code 66 = .ok (.aload_n 0, 1) := by decide +kernel
theorem d_oc_init_67 : decode prog_1_method_1_code 67 = .ok (.iconst 0, 1) := by decide +kernel
theorem d_oc_init_68 : decode prog_1_method_1_code 68 = .ok (.putfield 48, 3) := by decide +kernel
theorem d_oc_init_71 : decode prog_1_method_1_code 71 = .ok (.aload_n 0, 1) := by decide +kernel
theorem d_oc_init_72 : decode prog_1_method_1_code 72 = .ok (.iconst 0, 1) := by decide +kernel
theorem d_oc_init_73 : decode prog_1_method_1_code 73 = .ok (.putfield 51, 3) := by decide +kernel
theorem d_oc_init_76 : decode prog_1_method_1_code 76 = .ok (.aload_n 0, 1) := by decide +kernel
theorem d_oc_init_77 : decode prog_1_method_1_code 77 = .ok (.iconst 0, 1) := by decide +kernel
theorem d_oc_init_78 : decode prog_1_method_1_code 78 = .ok (.putfield 55, 3) := by decide +kernel
theorem d_oc_init_81 : decode prog_1_method_1_code 81 = .ok (.return_, 1) := by decide +kernel
theorem d_oc_insert_0 : decode prog_1_method_13_code 0 = .ok (.aload_n 0, 1) := by decide +kernel
theorem d_oc_insert_1 : decode prog_1_method_13_code 1 = .ok (.invokevirtual 134, 3) := by decide +kernel
theorem d_oc_insert_4 : decode prog_1_method_13_code 4 = .ok (.aload_n 0, 1) := by decide +kernel
theorem d_oc_insert_5 : decode prog_1_method_13_code 5 = .ok (.getfield 26, 3) := by decide +kernel
theorem d_oc_insert_8 : decode prog_1_method_13_code 8 = .ok (.getfield 155, 3) := by decide +kernel
theorem d_oc_insert_11 : decode prog_1_method_13_code 11 = .ok (.bipush 100, 2) := by decide +kernel
theorem d_oc_insert_13 : decode prog_1_method_13_code 13 = .ok (.if_icmp .lt 13, 3) := by decide +kernel
theorem d_oc_insert_16 : decode prog_1_method_13_code 16 = .ok (.new 75, 3) := by decide +kernel
theorem d_oc_insert_19 : decode prog_1_method_13_code 19 = .ok (.dup, 1) := by decide +kernel
theorem d_oc_insert_20 : decode prog_1_method_13_code 20 = .ok (.ldc 160, 2) := by decide +kernel
theorem d_oc_insert_22 : decode prog_1_method_13_code 22 = .ok (.invokespecial 79, 3) := by decide +kernel
theorem d_oc_insert_25 : decode prog_1_method_13_code 25 = .ok (.athrow, 1) := by decide +kernel
theorem d_oc_insert_26 : decode prog_1_method_13_code 26 = .ok (.aload_n 0, 1) := by decide +kernel
theorem d_oc_insert_27 : decode prog_1_method_13_code 27 = .ok (.dup, 1) := by decide +kernel
theorem d_oc_insert_28 : decode prog_1_method_13_code 28 = .ok (.getfield 45, 3) := by decide +kernel
theorem d_oc_insert_31 : decode prog_1_method_13_code 31 = .ok (.iconst 1, 1) := by decide +kernel
theorem d_oc_insert_32 : decode prog_1_method_13_code 32 = .ok (.iadd, 1) := by decide +kernel
theorem d_oc_insert_33 : decode prog_1_method_13_code 33 = .ok (.putfield 45, 3) := by decide +kernel
theorem d_oc_insert_36 : decode prog_1_method_13_code 36 = .ok (.aload_n 0, 1) := by decide +kernel
theorem d_oc_insert_37 : decode prog_1_method_13_code 37 = .ok (.getfield 26, 3) := by decide +kernel
theorem d_oc_insert_40 : decode prog_1_method_13_code 40 = .ok (.aload_n 0, 1) := by decide +kernel
theorem d_oc_insert_41 : decode prog_1_method_13_code 41 = .ok (.getfield 45, 3) := by decide +kernel
theorem d_oc_insert_44 : decode prog_1_method_13_code 44 = .ok (.aload_n 0, 1) := by decide +kernel
theorem d_oc_insert_45 : decode prog_1_method_13_code 45 = .ok (.getfield 19, 3) := by decide +kernel
theorem d_oc_insert_48 : decode prog_1_method_13_code 48 = .ok (.getfield 113, 3) := by decide +kernel
theorem d_oc_insert_51 : decode prog_1_method_13_code 51 = .ok (.invokevirtual 162, 3) := by decide +kernel
theorem d_oc_insert_54 : decode prog_1_method_13_code 54 = .ok (.aload_n 0, 1) := by decide +kernel
theorem d_oc_insert_55 : decode prog_1_method_13_code 55 = .ok (.getfield 26, 3) := by decide +kernel
theorem d_oc_insert_58 : decode prog_1_method_13_code 58 = .ok (.getfield 155, 3) := by decide +kernel
theorem d_oc_insert_61 : decode prog_1_method_13_code 61 = .ok (.ireturn, 1) := by decide +kernel
theorem d_oc_key_0 : decode prog_1_method_4_code 0 = .ok (.iload_n 1, 1) := by decide +kernel
theorem d_oc_key_1 : decode prog_1_method_4_code 1 = .ok (.invokestatic 58, 3) := by decide +kernel
theorem d_oc_key_4 : decode prog_1_method_4_code 4 = .ok (.iload_n 1, 1) := by decide +kernel
theorem d_oc_key_5 : decode prog_1_method_4_code 5 = .ok (.iconst 4, 1) := by decide +kernel
theorem d_oc_key_6 : decode prog_1_method_4_code 6 = .ok (.if_icmp .ne 8, 3) := by decide +kernel
theorem d_oc_key_9 : decode prog_1_method_4_code 9 = .ok (.bipush 32, 2) := by decide +kernel
theorem d_oc_key_11 : decode prog_1_method_4_code 11 = .ok (.goto 5, 3) := by decide +kernel
theorem d_oc_key_14 : decode prog_1_method_4_code 14 = .ok (.bipush 61, 2) := by decide +kernel
theorem d_oc_key_16 : decode prog_1_method_4_code 16 = .ok (.istore 4, 2) := by decide +kernel
theorem d_oc_key_18 : decode prog_1_method_4_code 18 = .ok (.iload_n 2, 1) := by decide +kernel
theorem d_oc_key_19 : decode prog_1_method_4_code 19 = .ok (.ifCond .lt 9, 3) := by decide +kernel
theorem d_oc_key_22 : decode prog_1_method_4_code 22 = .ok (.iload_n 2, 1) := by decide +kernel
theorem d_oc_key_23 : decode prog_1_method_4_code 23 = .ok (.iload 4, 2) := by decide +kernel
theorem d_oc_key_25 : decode prog_1_method_4_code 25 = .ok (.if_icmp .lt 13, 3) := by decide +kernel
theorem d_oc_key_28 : decode prog_1_method_4_code 28 = .ok (.new 93, 3) := by decide +kernel
theorem d_oc_key_31 : decode prog_1_method_4_code 31 = .ok (.dup, 1) := by decide +kernel
theorem d_oc_key_32 : decode prog_1_method_4_code 32 = .ok (.ldc 95, 2) := by decide +kernel
theorem d_oc_key_34 : decode prog_1_method_4_code 34 = .ok (.invokespecial 97, 3) := by decide +kernel
theorem d_oc_key_37 : decode prog_1_method_4_code 37 = .ok (.athrow, 1) := by decide +kernel
theorem d_oc_key_38 : decode prog_1_method_4_code 38 = .ok (.aload_n 0, 1) := by decide +kernel
theorem d_oc_key_39 : decode prog_1_method_4_code 39 = .ok (.getfield 10, 3) := by decide +kernel
theorem d_oc_key_42 : decode prog_1_method_4_code 42 = .ok (.getfield 98, 3) := by decide +kernel
theorem d_oc_key_45 : decode prog_1_method_4_code 45 = .ok (.iload_n 1, 1) := by decide +kernel
theorem d_oc_key_46 : decode prog_1_method_4_code 46 = .ok (.laload, 1) := by decide +kernel
theorem d_oc_key_47 : decode prog_1_method_4_code 47 = .ok (.iload_n 2, 1) := by decide +kernel
theorem d_oc_key_48 : decode prog_1_method_4_code 48 = .ok (.invokestatic 102, 3) := by decide +kernel
theorem d_oc_key_51 : decode prog_1_method_4_code 51 = .ok (.istore 5, 2) := by decide +kernel
theorem d_oc_key_53 : decode prog_1_method_4_code 53 = .ok (.aload_n 0, 1) := by decide +kernel
theorem d_oc_key_54 : decode prog_1_method_4_code 54 = .ok (.getfield 10, 3) := by decide +kernel
theorem d_oc_key_57 : decode prog_1_method_4_code 57 = .ok (.getfield 98, 3) := by decide +kernel
theorem d_oc_key_60 : decode prog_1_method_4_code 60 = .ok (.iload_n 1, 1) := by decide +kernel
theorem d_oc_key_61 : decode prog_1_method_4_code 61 = .ok (.aload_n 0, 1) := by decide +kernel
theorem d_oc_key_62 : decode prog_1_method_4_code 62 = .ok (.getfield 10, 3) := by decide +kernel
theorem d_oc_key_65 : decode prog_1_method_4_code 65 = .ok (.getfield 98, 3) := by decide +kernel
theorem d_oc_key_68 : decode prog_1_method_4_code 68 = .ok (.iload_n 1, 1) := by decide +kernel
theorem d_oc_key_69 : decode prog_1_method_4_code 69 = .ok (.laload, 1) := by decide +kernel
theorem d_oc_key_70 : decode prog_1_method_4_code 70 = .ok (.iload_n 2, 1) := by decide +kernel
theorem d_oc_key_71 : decode prog_1_method_4_code 71 = .ok (.iload_n 3, 1) := by decide +kernel
theorem d_oc_key_72 : decode prog_1_method_4_code 72 = .ok (.invokestatic 106, 3) := by decide +kernel
theorem d_oc_key_75 : decode prog_1_method_4_code 75 = .ok (.lastore, 1) := by decide +kernel
theorem d_oc_key_76 : decode prog_1_method_4_code 76 = .ok (.iload 5, 2) := by decide +kernel
theorem d_oc_key_78 : decode prog_1_method_4_code 78 = .ok (.iload_n 3, 1) := by decide +kernel
theorem d_oc_key_79 : decode prog_1_method_4_code 79 = .ok (.if_icmp .eq 7, 3) := by decide +kernel
theorem d_oc_key_82 : decode prog_1_method_4_code 82 = .ok (.iconst 1, 1) := by decide +kernel
theorem d_oc_key_83 : decode prog_1_method_4_code 83 = .ok (.goto 4, 3) := by decide +kernel
theorem d_oc_key_86 : decode prog_1_method_4_code 86 = .ok (.iconst 0, 1) := by decide +kernel
theorem d_oc_key_87 : decode prog_1_method_4_code 87 = .ok (.ireturn, 1) := by decide +kernel
theorem d_oc_knob_0 : decode prog_1_method_5_code 0 = .ok (.aload_n 0, 1) := by decide +kernel
theorem d_oc_knob_1 : decode prog_1_method_5_code 1 = .ok (.iload_n 1, 1) := by decide +kernel
theorem d_oc_knob_2 : decode prog_1_method_5_code 2 = .ok (.invokevirtual 110, 3) := by decide +kernel
theorem d_oc_knob_5 : decode prog_1_method_5_code 5 = .ok (.aload_n 0, 1) := by decide +kernel
theorem d_oc_knob_6 : decode prog_1_method_5_code 6 = .ok (.getfield 19, 3) := by decide +kernel
theorem d_oc_knob_9 : decode prog_1_method_5_code 9 = .ok (.getfield 113, 3) := by decide +kernel
theorem d_oc_knob_12 : decode prog_1_method_5_code 12 = .ok (.iload_n 1, 1) := by decide +kernel
theorem d_oc_knob_13 : decode prog_1_method_5_code 13 = .ok (.invokestatic 102, 3) := by decide +kernel
theorem d_oc_knob_16 : decode prog_1_method_5_code 16 = .ok (.istore_n 3, 1) := by decide +kernel
theorem d_oc_knob_17 : decode prog_1_method_5_code 17 = .ok (.aload_n 0, 1) := by decide +kernel
theorem d_oc_knob_18 : decode prog_1_method_5_code 18 = .ok (.getfield 19, 3) := by decide +kernel
theorem d_oc_knob_21 : decode prog_1_method_5_code 21 = .ok (.iload_n 1, 1) := by decide +kernel
theorem d_oc_knob_22 : decode prog_1_method_5_code 22 = .ok (.iload_n 2, 1) := by decide +kernel
theorem d_oc_knob_23 : decode prog_1_method_5_code 23 = .ok (.invokevirtual 117, 3) := by decide +kernel
theorem d_oc_knob_26 : decode prog_1_method_5_code 26 = .ok (.iload_n 3, 1) := by decide +kernel
theorem d_oc_knob_27 : decode prog_1_method_5_code 27 = .ok (.iload_n 2, 1) := by decide +kernel
theorem d_oc_knob_28 : decode prog_1_method_5_code 28 = .ok (.if_icmp .eq 7, 3) := by decide +kernel
theorem d_oc_knob_31 : decode prog_1_method_5_code 31 = .ok (.iconst 1, 1) := by decide +kernel
theorem d_oc_knob_32 : decode prog_1_method_5_code 32 = .ok (.goto 4, 3) := by decide +kernel
theorem d_oc_knob_35 : decode prog_1_method_5_code 35 = .ok (.iconst 0, 1) := by decide +kernel
theorem d_oc_knob_36 : decode prog_1_method_5_code 36 = .ok (.ireturn, 1) := by decide +kernel
theorem d_oc_lamp_0 : decode prog_1_method_20_code 0 = .ok (.aload_n 0, 1) := by decide +kernel
theorem d_oc_lamp_1 : decode prog_1_method_20_code 1 = .ok (.iload_n 1, 1) := by decide +kernel
theorem d_oc_lamp_2 : decode prog_1_method_20_code 2 = .ok (.iload_n 2, 1) := by decide +kernel
theorem d_oc_lamp_3 : decode prog_1_method_20_code 3 = .ok (.invokevirtual 126, 3) := by decide +kernel
theorem d_oc_lamp_6 : decode prog_1_method_20_code 6 = .ok (.aload_n 0, 1) := by decide +kernel
theorem d_oc_lamp_7 : decode prog_1_method_20_code 7 = .ok (.getfield 19, 3) := by decide +kernel
theorem d_oc_lamp_10 : decode prog_1_method_20_code 10 = .ok (.aload_n 0, 1) := by decide +kernel
theorem d_oc_lamp_11 : decode prog_1_method_20_code 11 = .ok (.getfield 26, 3) := by decide +kernel
theorem d_oc_lamp_14 : decode prog_1_method_20_code 14 = .ok (.getfield 141, 3) := by decide +kernel
theorem d_oc_lamp_17 : decode prog_1_method_20_code 17 = .ok (.aload_n 0, 1) := by decide +kernel
theorem d_oc_lamp_18 : decode prog_1_method_20_code 18 = .ok (.iload_n 1, 1) := by decide +kernel
theorem d_oc_lamp_19 : decode prog_1_method_20_code 19 = .ok (.iload_n 2, 1) := by decide +kernel
theorem d_oc_lamp_20 : decode prog_1_method_20_code 20 = .ok (.invokevirtual 144, 3) := by decide +kernel
theorem d_oc_lamp_23 : decode prog_1_method_20_code 23 = .ok (.laload, 1) := by decide +kernel
theorem d_oc_lamp_24 : decode prog_1_method_20_code 24 = .ok (.aload_n 0, 1) := by decide +kernel
theorem d_oc_lamp_25 : decode prog_1_method_20_code 25 = .ok (.iload_n 1, 1) := by decide +kernel
theorem d_oc_lamp_26 : decode prog_1_method_20_code 26 = .ok (.iload_n 2, 1) := by decide +kernel
theorem d_oc_lamp_27 : decode prog_1_method_20_code 27 = .ok (.invokevirtual 137, 3) := by decide +kernel
theorem d_oc_lamp_30 : decode prog_1_method_20_code 30 = .ok (.invokevirtual 211, 3) := by decide +kernel
theorem d_oc_lamp_33 : decode prog_1_method_20_code 33 = .ok (.lconst 0, 1) := by decide +kernel
theorem d_oc_lamp_34 : decode prog_1_method_20_code 34 = .ok (.lcmp, 1) := by decide +kernel
theorem d_oc_lamp_35 : decode prog_1_method_20_code 35 = .ok (.ifCond .ne 7, 3) := by decide +kernel
theorem d_oc_lamp_38 : decode prog_1_method_20_code 38 = .ok (.iconst 1, 1) := by decide +kernel
theorem d_oc_lamp_39 : decode prog_1_method_20_code 39 = .ok (.goto 4, 3) := by decide +kernel
theorem d_oc_lamp_42 : decode prog_1_method_20_code 42 = .ok (.iconst 0, 1) := by decide +kernel
theorem d_oc_lamp_43 : decode prog_1_method_20_code 43 = .ok (.ireturn, 1) := by decide +kernel
theorem d_oc_level_0 : decode prog_1_method_10_code 0 = .ok (.iload_n 1, 1) := by decide +kernel
theorem d_oc_level_1 : decode prog_1_method_10_code 1 = .ok (.ifCond .lt 9, 3) := by decide +kernel
theorem d_oc_level_4 : decode prog_1_method_10_code 4 = .ok (.iload_n 1, 1) := by decide +kernel
theorem d_oc_level_5 : decode prog_1_method_10_code 5 = .ok (.bipush 8, 2) := by decide +kernel
theorem d_oc_level_7 : decode prog_1_method_10_code 7 = .ok (.if_icmp .lt 13, 3) := by decide +kernel
theorem d_oc_level_10 : decode prog_1_method_10_code 10 = .ok (.new 65, 3) := by decide +kernel
theorem d_oc_level_13 : decode prog_1_method_10_code 13 = .ok (.dup, 1) := by decide +kernel
theorem d_oc_level_14 : decode prog_1_method_10_code 14 = .ok (.ldc 153, 2) := by decide +kernel
theorem d_oc_level_16 : decode prog_1_method_10_code 16 = .ok (.invokespecial 69, 3) := by decide +kernel
theorem d_oc_level_19 : decode prog_1_method_10_code 19 = .ok (.athrow, 1) := by decide +kernel
theorem d_oc_level_20 : decode prog_1_method_10_code 20 = .ok (.aload_n 0, 1) := by decide +kernel
theorem d_oc_level_21 : decode prog_1_method_10_code 21 = .ok (.getfield 41, 3) := by decide +kernel
theorem d_oc_level_24 : decode prog_1_method_10_code 24 = .ok (.istore_n 2, 1) := by decide +kernel
theorem d_oc_level_25 : decode prog_1_method_10_code 25 = .ok (.aload_n 0, 1) := by decide +kernel
theorem d_oc_level_26 : decode prog_1_method_10_code 26 = .ok (.iload_n 1, 1) := by decide +kernel
theorem d_oc_level_27 : decode prog_1_method_10_code 27 = .ok (.putfield 41, 3) := by decide +kernel
theorem d_oc_level_30 : decode prog_1_method_10_code 30 = .ok (.iload_n 2, 1) := by decide +kernel
theorem d_oc_level_31 : decode prog_1_method_10_code 31 = .ok (.ireturn, 1) := by decide +kernel
theorem d_oc_lock_0 : decode prog_1_method_11_code 0 = .ok (.aload_n 0, 1) := by decide +kernel
theorem d_oc_lock_1 : decode prog_1_method_11_code 1 = .ok (.getfield 51, 3) := by decide +kernel
theorem d_oc_lock_4 : decode prog_1_method_11_code 4 = .ok (.istore_n 2, 1) := by decide +kernel
theorem d_oc_lock_5 : decode prog_1_method_11_code 5 = .ok (.aload_n 0, 1) := by decide +kernel
theorem d_oc_lock_6 : decode prog_1_method_11_code 6 = .ok (.iload_n 1, 1) := by decide +kernel
theorem d_oc_lock_7 : decode prog_1_method_11_code 7 = .ok (.putfield 51, 3) := by decide +kernel
theorem d_oc_lock_10 : decode prog_1_method_11_code 10 = .ok (.iload_n 2, 1) := by decide +kernel
theorem d_oc_lock_11 : decode prog_1_method_11_code 11 = .ok (.iload_n 1, 1) := by decide +kernel
theorem d_oc_lock_12 : decode prog_1_method_11_code 12 = .ok (.if_icmp .eq 7, 3) := by decide +kernel
theorem d_oc_lock_15 : decode prog_1_method_11_code 15 = .ok (.iconst 1, 1) := by decide +kernel
theorem d_oc_lock_16 : decode prog_1_method_11_code 16 = .ok (.goto 4, 3) := by decide +kernel
theorem d_oc_lock_19 : decode prog_1_method_11_code 19 = .ok (.iconst 0, 1) := by decide +kernel
theorem d_oc_lock_20 : decode prog_1_method_11_code 20 = .ok (.ireturn, 1) := by decide +kernel
theorem d_oc_move_0 : decode prog_1_method_12_code 0 = .ok (.aload_n 0, 1) := by decide +kernel
theorem d_oc_move_1 : decode prog_1_method_12_code 1 = .ok (.getfield 45, 3) := by decide +kernel
theorem d_oc_move_4 : decode prog_1_method_12_code 4 = .ok (.i2l, 1) := by decide +kernel
theorem d_oc_move_5 : decode prog_1_method_12_code 5 = .ok (.iload_n 1, 1) := by decide +kernel
theorem d_oc_move_6 : decode prog_1_method_12_code 6 = .ok (.i2l, 1) := by decide +kernel
theorem d_oc_move_7 : decode prog_1_method_12_code 7 = .ok (.ladd, 1) := by decide +kernel
theorem d_oc_move_8 : decode prog_1_method_12_code 8 = .ok (.lstore_n 2, 1) := by decide +kernel
theorem d_oc_move_9 : decode prog_1_method_12_code 9 = .ok (.lload_n 2, 1) := by decide +kernel
theorem d_oc_move_10 : decode prog_1_method_12_code 10 = .ok (.lconst 0, 1) := by decide +kernel
theorem d_oc_move_11 : decode prog_1_method_12_code 11 = .ok (.lcmp, 1) := by decide +kernel
theorem d_oc_move_12 : decode prog_1_method_12_code 12 = .ok (.ifCond .lt 16, 3) := by decide +kernel
theorem d_oc_move_15 : decode prog_1_method_12_code 15 = .ok (.lload_n 2, 1) := by decide +kernel
theorem d_oc_move_16 : decode prog_1_method_12_code 16 = .ok (.aload_n 0, 1) := by decide +kernel
theorem d_oc_move_17 : decode prog_1_method_12_code 17 = .ok (.getfield 26, 3) := by decide +kernel
theorem d_oc_move_20 : decode prog_1_method_12_code 20 = .ok (.getfield 155, 3) := by decide +kernel
theorem d_oc_move_23 : decode prog_1_method_12_code 23 = .ok (.i2l, 1) := by decide +kernel
theorem d_oc_move_24 : decode prog_1_method_12_code 24 = .ok (.lcmp, 1) := by decide +kernel
theorem d_oc_move_25 : decode prog_1_method_12_code 25 = .ok (.ifCond .lt 13, 3) := by decide +kernel
theorem d_oc_move_28 : decode prog_1_method_12_code 28 = .ok (.new 65, 3) := by decide +kernel
theorem d_oc_move_31 : decode prog_1_method_12_code 31 = .ok (.dup, 1) := by decide +kernel
theorem d_oc_move_32 : decode prog_1_method_12_code 32 = .ok (.ldc 158, 2) := by decide +kernel
theorem d_oc_move_34 : decode prog_1_method_12_code 34 = .ok (.invokespecial 69, 3) := by decide +kernel
theorem d_oc_move_37 : decode prog_1_method_12_code 37 = .ok (.athrow, 1) := by decide +kernel
theorem d_oc_move_38 : decode prog_1_method_12_code 38 = .ok (.aload_n 0, 1) := by decide +kernel
theorem d_oc_move_39 : decode prog_1_method_12_code 39 = .ok (.lload_n 2, 1) := by decide +kernel
theorem d_oc_move_40 : decode prog_1_method_12_code 40 = .ok (.l2i, 1) := by decide +kernel
theorem d_oc_move_41 : decode prog_1_method_12_code 41 = .ok (.putfield 45, 3) := by decide +kernel
theorem d_oc_move_44 : decode prog_1_method_12_code 44 = .ok (.aload_n 0, 1) := by decide +kernel
theorem d_oc_move_45 : decode prog_1_method_12_code 45 = .ok (.iconst 2, 1) := by decide +kernel
theorem d_oc_move_46 : decode prog_1_method_12_code 46 = .ok (.aload_n 0, 1) := by decide +kernel
theorem d_oc_move_47 : decode prog_1_method_12_code 47 = .ok (.getfield 45, 3) := by decide +kernel
theorem d_oc_move_50 : decode prog_1_method_12_code 50 = .ok (.invokevirtual 130, 3) := by decide +kernel
theorem d_oc_move_53 : decode prog_1_method_12_code 53 = .ok (.ireturn, 1) := by decide +kernel
theorem d_oc_openPipes_0 : decode prog_1_method_40_code 0 = .ok (.aload_n 0, 1) := by decide +kernel
theorem d_oc_openPipes_1 : decode prog_1_method_40_code 1 = .ok (.invokevirtual 184, 3) := by decide +kernel
theorem d_oc_openPipes_4 : decode prog_1_method_40_code 4 = .ok (.lstore_n 1, 1) := by decide +kernel
