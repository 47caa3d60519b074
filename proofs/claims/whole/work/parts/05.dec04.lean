/-! the instructions -/
theorem d_cp_writePages_32 : decode prog_2_method_4_code 32 = .ok (.bipush 9, 2) := by decide +kernel
theorem d_cp_writePages_34 : decode prog_2_method_4_code 34 = .ok (.if_icmp .ne 11, 3) := by decide +kernel
theorem d_cp_writePages_37 : decode prog_2_method_4_code 37 = .ok (.aload_n 0, 1) := by decide +kernel
theorem d_cp_writePages_38 : decode prog_2_method_4_code 38 = .ok (.getfield 22, 3) := by decide +kernel
theorem d_cp_writePages_41 : decode prog_2_method_4_code 41 = .ok (.aload_n 1, 1) := by decide +kernel
theorem d_cp_writePages_42 : decode prog_2_method_4_code 42 = .ok (.invokevirtual 32, 3) := by decide +kernel
theorem d_cp_writePages_45 : decode prog_2_method_4_code 45 = .ok (.return_, 1) := by decide +kernel
theorem d_ja_fill_i_0 : decode prog_18_method_103_code 0 = .ok (.iconst 0, 1) := by decide +kernel
theorem d_ja_fill_i_1 : decode prog_18_method_103_code 1 = .ok (.istore_n 2, 1) := by decide +kernel
theorem d_ja_fill_i_2 : decode prog_18_method_103_code 2 = .ok (.aload_n 0, 1) := by decide +kernel
theorem d_ja_fill_i_3 : decode prog_18_method_103_code 3 = .ok (.arraylength, 1) := by decide +kernel
theorem d_ja_fill_i_4 : decode prog_18_method_103_code 4 = .ok (.istore_n 3, 1) := by decide +kernel
theorem d_ja_fill_i_5 : decode prog_18_method_103_code 5 = .ok (.iload_n 2, 1) := by decide +kernel
theorem d_ja_fill_i_6 : decode prog_18_method_103_code 6 = .ok (.iload_n 3, 1) := by decide +kernel
theorem d_ja_fill_i_7 : decode prog_18_method_103_code 7 = .ok (.if_icmp .ge 13, 3) := by decide +kernel
theorem d_ja_fill_i_10 : decode prog_18_method_103_code 10 = .ok (.aload_n 0, 1) := by decide +kernel
theorem d_ja_fill_i_11 : decode prog_18_method_103_code 11 = .ok (.iload_n 2, 1) := by decide +kernel
theorem d_ja_fill_i_12 : decode prog_18_method_103_code 12 = .ok (.iload_n 1, 1) := by decide +kernel
theorem d_ja_fill_i_13 : decode prog_18_method_103_code 13 = .ok (.iastore, 1) := by decide +kernel
theorem d_ja_fill_i_14 : decode prog_18_method_103_code 14 = .ok (.iinc 2 1, 3) := by decide +kernel
theorem d_ja_fill_i_17 : decode prog_18_method_103_code 17 = .ok (.goto (-12), 3) := by decide +kernel
theorem d_ja_fill_i_20 : decode prog_18_method_103_code 20 = .ok (.return_, 1) := by decide +kernel
theorem d_ja_fill_l_0 : decode prog_18_method_101_code 0 = .ok (.iconst 0, 1) := by decide +kernel
theorem d_ja_fill_l_1 : decode prog_18_method_101_code 1 = .ok (.istore_n 3, 1) := by decide +kernel
theorem d_ja_fill_l_2 : decode prog_18_method_101_code 2 = .ok (.aload_n 0, 1) := by decide +kernel
theorem d_ja_fill_l_3 : decode prog_18_method_101_code 3 = .ok (.arraylength, 1) := by decide +kernel
theorem d_ja_fill_l_4 : decode prog_18_method_101_code 4 = .ok (.istore 4, 2) := by decide +kernel
theorem d_ja_fill_l_6 : decode prog_18_method_101_code 6 = .ok (.iload_n 3, 1) := by decide +kernel
theorem d_ja_fill_l_7 : decode prog_18_method_101_code 7 = .ok (.iload 4, 2) := by decide +kernel
theorem d_ja_fill_l_9 : decode prog_18_method_101_code 9 = .ok (.if_icmp .ge 13, 3) := by decide +kernel
theorem d_ja_fill_l_12 : decode prog_18_method_101_code 12 = .ok (.aload_n 0, 1) := by decide +kernel
theorem d_ja_fill_l_13 : decode prog_18_method_101_code 13 = .ok (.iload_n 3, 1) := by decide +kernel
theorem d_ja_fill_l_14 : decode prog_18_method_101_code 14 = .ok (.lload_n 1, 1) := by decide +kernel
theorem d_ja_fill_l_15 : decode prog_18_method_101_code 15 = .ok (.lastore, 1) := by decide +kernel
theorem d_ja_fill_l_16 : decode prog_18_method_101_code 16 = .ok (.iinc 3 1, 3) := by decide +kernel
theorem d_ja_fill_l_19 : decode prog_18_method_101_code 19 = .ok (.goto (-13), 3) := by decide +kernel
theorem d_ja_fill_l_22 : decode prog_18_method_101_code 22 = .ok (.return_, 1) := by decide +kernel
theorem d_la_about_0 : decode method_17_code 0 = .ok (.aload_n 3, 1) := by decide +kernel
theorem d_la_about_1 : decode method_17_code 1 = .ok (.iconst 0, 1) := by decide +kernel
theorem d_la_about_2 : decode method_17_code 2 = .ok (.aload_n 0, 1) := by decide +kernel
theorem d_la_about_3 : decode method_17_code 3 = .ok (.iload_n 1, 1) := by decide +kernel
theorem d_la_about_4 : decode method_17_code 4 = .ok (.iload_n 2, 1) := by decide +kernel
theorem d_la_about_5 : decode method_17_code 5 = .ok (.invokevirtual 64, 3) := by decide +kernel
theorem d_la_about_8 : decode method_17_code 8 = .ok (.i2l, 1) := by decide +kernel
theorem d_la_about_9 : decode method_17_code 9 = .ok (.lastore, 1) := by decide +kernel
theorem d_la_about_10 : decode method_17_code 10 = .ok (.goto 11, 3) := by decide +kernel
theorem d_la_about_13 : decode method_17_code 13 = .ok (.astore 4, 2) := by decide +kernel
theorem d_la_about_15 : decode method_17_code 15 = .ok (.iconst 1, 1) := by decide +kernel
theorem d_la_about_16 : decode method_17_code 16 = .ok (.ireturn, 1) := by decide +kernel
theorem d_la_about_17 : decode method_17_code 17 = .ok (.astore 4, 2) := by decide +kernel
theorem d_la_about_19 : decode method_17_code 19 = .ok (.iconst 2, 1) := by decide +kernel
theorem d_la_about_20 : decode method_17_code 20 = .ok (.ireturn, 1) := by decide +kernel
theorem d_la_about_21 : decode method_17_code 21 = .ok (.iconst 0, 1) := by decide +kernel
theorem d_la_about_22 : decode method_17_code 22 = .ok (.ireturn, 1) := by decide +kernel
theorem d_la_assign_0 : decode method_15_code 0 = .ok (.aload 4, 2) := by decide +kernel
theorem d_la_assign_2 : decode method_15_code 2 = .ok (.iconst 0, 1) := by decide +kernel
theorem d_la_assign_3 : decode method_15_code 3 = .ok (.aload_n 0, 1) := by decide +kernel
theorem d_la_assign_4 : decode method_15_code 4 = .ok (.iload_n 1, 1) := by decide +kernel
theorem d_la_assign_5 : decode method_15_code 5 = .ok (.iload_n 2, 1) := by decide +kernel
theorem d_la_assign_6 : decode method_15_code 6 = .ok (.iload_n 3, 1) := by decide +kernel
theorem d_la_assign_7 : decode method_15_code 7 = .ok (.invokevirtual 58, 3) := by decide +kernel
theorem d_la_assign_10 : decode method_15_code 10 = .ok (.ifCond .eq 7, 3) := by decide +kernel
theorem d_la_assign_13 : decode method_15_code 13 = .ok (.lconst 1, 1) := by decide +kernel
theorem d_la_assign_14 : decode method_15_code 14 = .ok (.goto 4, 3) := by decide +kernel
theorem d_la_assign_17 : decode method_15_code 17 = .ok (.lconst 0, 1) := by decide +kernel
theorem d_la_assign_18 : decode method_15_code 18 = .ok (.lastore, 1) := by decide +kernel
theorem d_la_assign_19 : decode method_15_code 19 = .ok (.goto 15, 3) := by decide +kernel
theorem d_la_assign_22 : decode method_15_code 22 = .ok (.astore 5, 2) := by decide +kernel
theorem d_la_assign_24 : decode method_15_code 24 = .ok (.iconst 1, 1) := by decide +kernel
theorem d_la_assign_25 : decode method_15_code 25 = .ok (.ireturn, 1) := by decide +kernel
theorem d_la_assign_26 : decode method_15_code 26 = .ok (.astore 5, 2) := by decide +kernel
theorem d_la_assign_28 : decode method_15_code 28 = .ok (.iconst 2, 1) := by decide +kernel
theorem d_la_assign_29 : decode method_15_code 29 = .ok (.ireturn, 1) := by decide +kernel
theorem d_la_assign_30 : decode method_15_code 30 = .ok (.astore 5, 2) := by decide +kernel
theorem d_la_assign_32 : decode method_15_code 32 = .ok (.iconst 3, 1) := by decide +kernel
theorem d_la_assign_33 : decode method_15_code 33 = .ok (.ireturn, 1) := by decide +kernel
theorem d_la_assign_34 : decode method_15_code 34 = .ok (.iconst 0, 1) := by decide +kernel
theorem d_la_assign_35 : decode method_15_code 35 = .ok (.ireturn, 1) := by decide +kernel
theorem d_la_commit_0 : decode method_20_code 0 = .ok (.aload_n 2, 1) := by decide +kernel
theorem d_la_commit_1 : decode method_20_code 1 = .ok (.iconst 0, 1) := by decide +kernel
theorem d_la_commit_2 : decode method_20_code 2 = .ok (.aload_n 0, 1) := by decide +kernel
theorem d_la_commit_3 : decode method_20_code 3 = .ok (.iload_n 1, 1) := by decide +kernel
theorem d_la_commit_4 : decode method_20_code 4 = .ok (.invokevirtual 74, 3) := by decide +kernel
theorem d_la_commit_7 : decode method_20_code 7 = .ok (.i2l, 1) := by decide +kernel
theorem d_la_commit_8 : decode method_20_code 8 = .ok (.lastore, 1) := by decide +kernel
theorem d_la_commit_9 : decode method_20_code 9 = .ok (.goto 6, 3) := by decide +kernel
theorem d_la_commit_12 : decode method_20_code 12 = .ok (.astore_n 3, 1) := by decide +kernel
theorem d_la_commit_13 : decode method_20_code 13 = .ok (.iconst 1, 1) := by decide +kernel
theorem d_la_commit_14 : decode method_20_code 14 = .ok (.ireturn, 1) := by decide +kernel
theorem d_la_commit_15 : decode method_20_code 15 = .ok (.iconst 0, 1) := by decide +kernel
theorem d_la_commit_16 : decode method_20_code 16 = .ok (.ireturn, 1) := by decide +kernel
theorem d_la_count_0 : decode method_23_code 0 = .ok (.aload_n 2, 1) := by decide +kernel
theorem d_la_count_1 : decode method_23_code 1 = .ok (.iconst 0, 1) := by decide +kernel
theorem d_la_count_2 : decode method_23_code 2 = .ok (.aload_n 0, 1) := by decide +kernel
theorem d_la_count_3 : decode method_23_code 3 = .ok (.iload_n 1, 1) := by decide +kernel
theorem d_la_count_4 : decode method_23_code 4 = .ok (.invokevirtual 83, 3) := by decide +kernel
theorem d_la_count_7 : decode method_23_code 7 = .ok (.i2l, 1) := by decide +kernel
theorem d_la_count_8 : decode method_23_code 8 = .ok (.lastore, 1) := by decide +kernel
theorem d_la_count_9 : decode method_23_code 9 = .ok (.goto 6, 3) := by decide +kernel
theorem d_la_count_12 : decode method_23_code 12 = .ok (.astore_n 3, 1) := by decide +kernel
theorem d_la_count_13 : decode method_23_code 13 = .ok (.iconst 1, 1) := by decide +kernel
theorem d_la_count_14 : decode method_23_code 14 = .ok (.ireturn, 1) := by decide +kernel
theorem d_la_count_15 : decode method_23_code 15 = .ok (.iconst 0, 1) := by decide +kernel
theorem d_la_count_16 : decode method_23_code 16 = .ok (.ireturn, 1) := by decide +kernel
theorem d_la_coupler_0 : decode method_4_code 0 = .ok (.aload 4, 2) := by decide +kernel
theorem d_la_coupler_2 : decode method_4_code 2 = .ok (.iconst 0, 1) := by decide +kernel
theorem d_la_coupler_3 : decode method_4_code 3 = .ok (.aload_n 0, 1) := by decide +kernel
theorem d_la_coupler_4 : decode method_4_code 4 = .ok (.iload_n 1, 1) := by decide +kernel
theorem d_la_coupler_5 : decode method_4_code 5 = .ok (.iload_n 2, 1) := by decide +kernel
theorem d_la_coupler_6 : decode method_4_code 6 = .ok (.iload_n 3, 1) := by decide +kernel
theorem d_la_coupler_7 : decode method_4_code 7 = .ok (.invokevirtual 19, 3) := by decide +kernel
theorem d_la_coupler_10 : decode method_4_code 10 = .ok (.i2l, 1) := by decide +kernel
theorem d_la_coupler_11 : decode method_4_code 11 = .ok (.lastore, 1) := by decide +kernel
theorem d_la_coupler_12 : decode method_4_code 12 = .ok (.goto 15, 3) := by decide +kernel
theorem d_la_coupler_15 : decode method_4_code 15 = .ok (.astore 5, 2) := by decide +kernel
theorem d_la_coupler_17 : decode method_4_code 17 = .ok (.iconst 1, 1) := by decide +kernel
theorem d_la_coupler_18 : decode method_4_code 18 = .ok (.ireturn, 1) := by decide +kernel
theorem d_la_coupler_19 : decode method_4_code 19 = .ok (.astore 5, 2) := by decide +kernel
theorem d_la_coupler_21 : decode method_4_code 21 = .ok (.iconst 2, 1) := by decide +kernel
theorem d_la_coupler_22 : decode method_4_code 22 = .ok (.ireturn, 1) := by decide +kernel
theorem d_la_coupler_23 : decode method_4_code 23 = .ok (.astore 5, 2) := by decide +kernel
theorem d_la_coupler_25 : decode method_4_code 25 = .ok (.iconst 3, 1) := by decide +kernel
theorem d_la_coupler_26 : decode method_4_code 26 = .ok (.ireturn, 1) := by decide +kernel
theorem d_la_coupler_27 : decode method_4_code 27 = .ok (.iconst 0, 1) := by decide +kernel
theorem d_la_coupler_28 : decode method_4_code 28 = .ok (.ireturn, 1) := by decide +kernel
theorem d_la_delete_0 : decode method_13_code 0 = .ok (.aload_n 1, 1) := by decide +kernel
theorem d_la_delete_1 : decode method_13_code 1 = .ok (.iconst 0, 1) := by decide +kernel
theorem d_la_delete_2 : decode method_13_code 2 = .ok (.aload_n 0, 1) := by decide +kernel
theorem d_la_delete_3 : decode method_13_code 3 = .ok (.invokevirtual 52, 3) := by decide +kernel
theorem d_la_delete_6 : decode method_13_code 6 = .ok (.i2l, 1) := by decide +kernel
theorem d_la_delete_7 : decode method_13_code 7 = .ok (.lastore, 1) := by decide +kernel
theorem d_la_delete_8 : decode method_13_code 8 = .ok (.goto 6, 3) := by decide +kernel
theorem d_la_delete_11 : decode method_13_code 11 = .ok (.astore_n 2, 1) := by decide +kernel
theorem d_la_delete_12 : decode method_13_code 12 = .ok (.iconst 1, 1) := by decide +kernel
theorem d_la_delete_13 : decode method_13_code 13 = .ok (.ireturn, 1) := by decide +kernel
theorem d_la_delete_14 : decode method_13_code 14 = .ok (.iconst 0, 1) := by decide +kernel
theorem d_la_delete_15 : decode method_13_code 15 = .ok (.ireturn, 1) := by decide +kernel
theorem d_la_fault_0 : decode method_22_code 0 = .ok (.aload 4, 2) := by decide +kernel
theorem d_la_fault_2 : decode method_22_code 2 = .ok (.iconst 0, 1) := by decide +kernel
theorem d_la_fault_3 : decode method_22_code 3 = .ok (.aload_n 0, 1) := by decide +kernel
theorem d_la_fault_4 : decode method_22_code 4 = .ok (.iload_n 1, 1) := by decide +kernel
theorem d_la_fault_5 : decode method_22_code 5 = .ok (.iload_n 2, 1) := by decide +kernel
theorem d_la_fault_6 : decode method_22_code 6 = .ok (.iload_n 3, 1) := by decide +kernel
theorem d_la_fault_7 : decode method_22_code 7 = .ok (.invokevirtual 80, 3) := by decide +kernel
theorem d_la_fault_10 : decode method_22_code 10 = .ok (.i2l, 1) := by decide +kernel
theorem d_la_fault_11 : decode method_22_code 11 = .ok (.lastore, 1) := by decide +kernel
theorem d_la_fault_12 : decode method_22_code 12 = .ok (.goto 11, 3) := by decide +kernel
theorem d_la_fault_15 : decode method_22_code 15 = .ok (.astore 5, 2) := by decide +kernel
theorem d_la_fault_17 : decode method_22_code 17 = .ok (.iconst 1, 1) := by decide +kernel
theorem d_la_fault_18 : decode method_22_code 18 = .ok (.ireturn, 1) := by decide +kernel
theorem d_la_fault_19 : decode method_22_code 19 = .ok (.astore 5, 2) := by decide +kernel
theorem d_la_fault_21 : decode method_22_code 21 = .ok (.iconst 2, 1) := by decide +kernel
theorem d_la_fault_22 : decode method_22_code 22 = .ok (.ireturn, 1) := by decide +kernel
theorem d_la_fault_23 : decode method_22_code 23 = .ok (.iconst 0, 1) := by decide +kernel
theorem d_la_fault_24 : decode method_22_code 24 = .ok (.ireturn, 1) := by decide +kernel
theorem d_la_insert_0 : decode method_12_code 0 = .ok (.aload_n 1, 1) := by decide +kernel
theorem d_la_insert_1 : decode method_12_code 1 = .ok (.iconst 0, 1) := by decide +kernel
theorem d_la_insert_2 : decode method_12_code 2 = .ok (.aload_n 0, 1) := by decide +kernel
theorem d_la_insert_3 : decode method_12_code 3 = .ok (.invokevirtual 48, 3) := by decide +kernel
theorem d_la_insert_6 : decode method_12_code 6 = .ok (.i2l, 1) := by decide +kernel
theorem d_la_insert_7 : decode method_12_code 7 = .ok (.lastore, 1) := by decide +kernel
theorem d_la_insert_8 : decode method_12_code 8 = .ok (.goto 6, 3) := by decide +kernel
theorem d_la_insert_11 : decode method_12_code 11 = .ok (.astore_n 2, 1) := by decide +kernel
theorem d_la_insert_12 : decode method_12_code 12 = .ok (.iconst 1, 1) := by decide +kernel
theorem d_la_insert_13 : decode method_12_code 13 = .ok (.ireturn, 1) := by decide +kernel
theorem d_la_insert_14 : decode method_12_code 14 = .ok (.iconst 0, 1) := by decide +kernel
theorem d_la_insert_15 : decode method_12_code 15 = .ok (.ireturn, 1) := by decide +kernel
theorem d_la_key_0 : decode method_5_code 0 = .ok (.aload 4, 2) := by decide +kernel
theorem d_la_key_2 : decode method_5_code 2 = .ok (.iconst 0, 1) := by decide +kernel
theorem d_la_key_3 : decode method_5_code 3 = .ok (.aload_n 0, 1) := by decide +kernel
theorem d_la_key_4 : decode method_5_code 4 = .ok (.iload_n 1, 1) := by decide +kernel
theorem d_la_key_5 : decode method_5_code 5 = .ok (.iload_n 2, 1) := by decide +kernel
theorem d_la_key_6 : decode method_5_code 6 = .ok (.iload_n 3, 1) := by decide +kernel
theorem d_la_key_7 : decode method_5_code 7 = .ok (.invokevirtual 23, 3) := by decide +kernel
theorem d_la_key_10 : decode method_5_code 10 = .ok (.ifCond .eq 7, 3) := by decide +kernel
theorem d_la_key_13 : decode method_5_code 13 = .ok (.lconst 1, 1) := by decide +kernel
theorem d_la_key_14 : decode method_5_code 14 = .ok (.goto 4, 3) := by decide +kernel
theorem d_la_key_17 : decode method_5_code 17 = .ok (.lconst 0, 1) := by decide +kernel
theorem d_la_key_18 : decode method_5_code 18 = .ok (.lastore, 1) := by decide +kernel
theorem d_la_key_19 : decode method_5_code 19 = .ok (.goto 7, 3) := by decide +kernel
theorem d_la_key_22 : decode method_5_code 22 = .ok (.astore 5, 2) := by decide +kernel
theorem d_la_key_24 : decode method_5_code 24 = .ok (.iconst 1, 1) := by decide +kernel
theorem d_la_key_25 : decode method_5_code 25 = .ok (.ireturn, 1) := by decide +kernel
theorem d_la_key_26 : decode method_5_code 26 = .ok (.iconst 0, 1) := by decide +kernel
theorem d_la_key_27 : decode method_5_code 27 = .ok (.ireturn, 1) := by decide +kernel
theorem d_la_knob_0 : decode method_6_code 0 = .ok (.aload_n 3, 1) := by decide +kernel
theorem d_la_knob_1 : decode method_6_code 1 = .ok (.iconst 0, 1) := by decide +kernel
theorem d_la_knob_2 : decode method_6_code 2 = .ok (.aload_n 0, 1) := by decide +kernel
theorem d_la_knob_3 : decode method_6_code 3 = .ok (.iload_n 1, 1) := by decide +kernel
theorem d_la_knob_4 : decode method_6_code 4 = .ok (.iload_n 2, 1) := by decide +kernel
theorem d_la_knob_5 : decode method_6_code 5 = .ok (.invokevirtual 27, 3) := by decide +kernel
theorem d_la_knob_8 : decode method_6_code 8 = .ok (.ifCond .eq 7, 3) := by decide +kernel
theorem d_la_knob_11 : decode method_6_code 11 = .ok (.lconst 1, 1) := by decide +kernel
theorem d_la_knob_12 : decode method_6_code 12 = .ok (.goto 4, 3) := by decide +kernel
theorem d_la_knob_15 : decode method_6_code 15 = .ok (.lconst 0, 1) := by decide +kernel
theorem d_la_knob_16 : decode method_6_code 16 = .ok (.lastore, 1) := by decide +kernel
theorem d_la_knob_17 : decode method_6_code 17 = .ok (.goto 7, 3) := by decide +kernel
theorem d_la_knob_20 : decode method_6_code 20 = .ok (.astore 4, 2) := by decide +kernel
theorem d_la_knob_22 : decode method_6_code 22 = .ok (.iconst 1, 1) := by decide +kernel
theorem d_la_knob_23 : decode method_6_code 23 = .ok (.ireturn, 1) := by decide +kernel
theorem d_la_knob_24 : decode method_6_code 24 = .ok (.iconst 0, 1) := by decide +kernel
theorem d_la_knob_25 : decode method_6_code 25 = .ok (.ireturn, 1) := by decide +kernel
theorem d_la_lamp_0 : decode method_19_code 0 = .ok (.aload_n 3, 1) := by decide +kernel
theorem d_la_lamp_1 : decode method_19_code 1 = .ok (.iconst 0, 1) := by decide +kernel
theorem d_la_lamp_2 : decode method_19_code 2 = .ok (.aload_n 0, 1) := by decide +kernel
theorem d_la_lamp_3 : decode method_19_code 3 = .ok (.iload_n 1, 1) := by decide +kernel
theorem d_la_lamp_4 : decode method_19_code 4 = .ok (.iload_n 2, 1) := by decide +kernel
theorem d_la_lamp_5 : decode method_19_code 5 = .ok (.invokevirtual 71, 3) := by decide +kernel
theorem d_la_lamp_8 : decode method_19_code 8 = .ok (.ifCond .eq 7, 3) := by decide +kernel
theorem d_la_lamp_11 : decode method_19_code 11 = .ok (.lconst 1, 1) := by decide +kernel
theorem d_la_lamp_12 : decode method_19_code 12 = .ok (.goto 4, 3) := by decide +kernel
theorem d_la_lamp_15 : decode method_19_code 15 = .ok (.lconst 0, 1) := by decide +kernel
theorem d_la_lamp_16 : decode method_19_code 16 = .ok (.lastore, 1) := by decide +kernel
theorem d_la_lamp_17 : decode method_19_code 17 = .ok (.goto 7, 3) := by decide +kernel
theorem d_la_lamp_20 : decode method_19_code 20 = .ok (.astore 4, 2) := by decide +kernel
theorem d_la_lamp_22 : decode method_19_code 22 = .ok (.iconst 1, 1) := by decide +kernel
theorem d_la_lamp_23 : decode method_19_code 23 = .ok (.ireturn, 1) := by decide +kernel
theorem d_la_lamp_24 : decode method_19_code 24 = .ok (.iconst 0, 1) := by decide +kernel
theorem d_la_lamp_25 : decode method_19_code 25 = .ok (.ireturn, 1) := by decide +kernel
theorem d_la_level_0 : decode method_10_code 0 = .ok (.aload_n 2, 1) := by decide +kernel
theorem d_la_level_1 : decode method_10_code 1 = .ok (.iconst 0, 1) := by decide +kernel
theorem d_la_level_2 : decode method_10_code 2 = .ok (.aload_n 0, 1) := by decide +kernel
theorem d_la_level_3 : decode method_10_code 3 = .ok (.iload_n 1, 1) := by decide +kernel
theorem d_la_level_4 : decode method_10_code 4 = .ok (.invokevirtual 41, 3) := by decide +kernel
theorem d_la_level_7 : decode method_10_code 7 = .ok (.i2l, 1) := by decide +kernel
theorem d_la_level_8 : decode method_10_code 8 = .ok (.lastore, 1) := by decide +kernel
theorem d_la_level_9 : decode method_10_code 9 = .ok (.goto 6, 3) := by decide +kernel
theorem d_la_level_12 : decode method_10_code 12 = .ok (.astore_n 3, 1) := by decide +kernel
theorem d_la_level_13 : decode method_10_code 13 = .ok (.iconst 1, 1) := by decide +kernel
theorem d_la_level_14 : decode method_10_code 14 = .ok (.ireturn, 1) := by decide +kernel
theorem d_la_level_15 : decode method_10_code 15 = .ok (.iconst 0, 1) := by decide +kernel
theorem d_la_level_16 : decode method_10_code 16 = .ok (.ireturn, 1) := by decide +kernel
theorem d_la_move_0 : decode method_11_code 0 = .ok (.aload_n 2, 1) := by decide +kernel
theorem d_la_move_1 : decode method_11_code 1 = .ok (.iconst 0, 1) := by decide +kernel
theorem d_la_move_2 : decode method_11_code 2 = .ok (.aload_n 0, 1) := by decide +kernel
theorem d_la_move_3 : decode method_11_code 3 = .ok (.iload_n 1, 1) := by decide +kernel
theorem d_la_move_4 : decode method_11_code 4 = .ok (.invokevirtual 45, 3) := by decide +kernel
theorem d_la_move_7 : decode method_11_code 7 = .ok (.i2l, 1) := by decide +kernel
theorem d_la_move_8 : decode method_11_code 8 = .ok (.lastore, 1) := by decide +kernel
theorem d_la_move_9 : decode method_11_code 9 = .ok (.goto 6, 3) := by decide +kernel
theorem d_la_move_12 : decode method_11_code 12 = .ok (.astore_n 3, 1) := by decide +kernel
theorem d_la_move_13 : decode method_11_code 13 = .ok (.iconst 1, 1) := by decide +kernel
theorem d_la_move_14 : decode method_11_code 14 = .ok (.ireturn, 1) := by decide +kernel
theorem d_la_move_15 : decode method_11_code 15 = .ok (.iconst 0, 1) := by decide +kernel
theorem d_la_move_16 : decode method_11_code 16 = .ok (.ireturn, 1) := by decide +kernel
theorem d_la_pedal_0 : decode method_14_code 0 = .ok (.aload_n 2, 1) := by decide +kernel
theorem d_la_pedal_1 : decode method_14_code 1 = .ok (.iconst 0, 1) := by decide +kernel
theorem d_la_pedal_2 : decode method_14_code 2 = .ok (.aload_n 0, 1) := by decide +kernel
theorem d_la_pedal_3 : decode method_14_code 3 = .ok (.iload_n 1, 1) := by decide +kernel
theorem d_la_pedal_4 : decode method_14_code 4 = .ok (.invokevirtual 55, 3) := by decide +kernel
theorem d_la_pedal_7 : decode method_14_code 7 = .ok (.i2l, 1) := by decide +kernel
theorem d_la_pedal_8 : decode method_14_code 8 = .ok (.lastore, 1) := by decide +kernel
theorem d_la_pedal_9 : decode method_14_code 9 = .ok (.goto 6, 3) := by decide +kernel
theorem d_la_pedal_12 : decode method_14_code 12 = .ok (.astore_n 3, 1) := by decide +kernel
theorem d_la_pedal_13 : decode method_14_code 13 = .ok (.iconst 1, 1) := by decide +kernel
theorem d_la_pedal_14 : decode method_14_code 14 = .ok (.ireturn, 1) := by decide +kernel
theorem d_la_pedal_15 : decode method_14_code 15 = .ok (.iconst 0, 1) := by decide +kernel
theorem d_la_pedal_16 : decode method_14_code 16 = .ok (.ireturn, 1) := by decide +kernel
theorem d_la_pipe_0 : decode method_18_code 0 = .ok (.aload_n 3, 1) := by decide +kernel
theorem d_la_pipe_1 : decode method_18_code 1 = .ok (.iconst 0, 1) := by decide +kernel
theorem d_la_pipe_2 : decode method_18_code 2 = .ok (.aload_n 0, 1) := by decide +kernel
theorem d_la_pipe_3 : decode method_18_code 3 = .ok (.iload_n 1, 1) := by decide +kernel
theorem d_la_pipe_4 : decode method_18_code 4 = .ok (.iload_n 2, 1) := by decide +kernel
theorem d_la_pipe_5 : decode method_18_code 5 = .ok (.invokevirtual 67, 3) := by decide +kernel
theorem d_la_pipe_8 : decode method_18_code 8 = .ok (.ifCond .eq 7, 3) := by decide +kernel
theorem d_la_pipe_11 : decode method_18_code 11 = .ok (.lconst 1, 1) := by decide +kernel
theorem d_la_pipe_12 : decode method_18_code 12 = .ok (.goto 4, 3) := by decide +kernel
theorem d_la_pipe_15 : decode method_18_code 15 = .ok (.lconst 0, 1) := by decide +kernel
theorem d_la_pipe_16 : decode method_18_code 16 = .ok (.lastore, 1) := by decide +kernel
theorem d_la_pipe_17 : decode method_18_code 17 = .ok (.goto 7, 3) := by decide +kernel
theorem d_la_pipe_20 : decode method_18_code 20 = .ok (.astore 4, 2) := by decide +kernel
theorem d_la_pipe_22 : decode method_18_code 22 = .ok (.iconst 1, 1) := by decide +kernel
theorem d_la_pipe_23 : decode method_18_code 23 = .ok (.ireturn, 1) := by decide +kernel
theorem d_la_pipe_24 : decode method_18_code 24 = .ok (.iconst 0, 1) := by decide +kernel
theorem d_la_pipe_25 : decode method_18_code 25 = .ok (.ireturn, 1) := by decide +kernel
theorem d_la_press_0 : decode method_8_code 0 = .ok (.aload_n 3, 1) := by decide +kernel
theorem d_la_press_1 : decode method_8_code 1 = .ok (.iconst 0, 1) := by decide +kernel
theorem d_la_press_2 : decode method_8_code 2 = .ok (.aload_n 0, 1) := by decide +kernel
theorem d_la_press_3 : decode method_8_code 3 = .ok (.iload_n 1, 1) := by decide +kernel
theorem d_la_press_4 : decode method_8_code 4 = .ok (.iload_n 2, 1) := by decide +kernel
theorem d_la_press_5 : decode method_8_code 5 = .ok (.invokevirtual 34, 3) := by decide +kernel
theorem d_la_press_8 : decode method_8_code 8 = .ok (.i2l, 1) := by decide +kernel
theorem d_la_press_9 : decode method_8_code 9 = .ok (.lastore, 1) := by decide +kernel
theorem d_la_press_10 : decode method_8_code 10 = .ok (.goto 7, 3) := by decide +kernel
theorem d_la_press_13 : decode method_8_code 13 = .ok (.astore 4, 2) := by decide +kernel
theorem d_la_press_15 : decode method_8_code 15 = .ok (.iconst 1, 1) := by decide +kernel
theorem d_la_press_16 : decode method_8_code 16 = .ok (.ireturn, 1) := by decide +kernel
theorem d_la_press_17 : decode method_8_code 17 = .ok (.iconst 0, 1) := by decide +kernel
theorem d_la_press_18 : decode method_8_code 18 = .ok (.ireturn, 1) := by decide +kernel
theorem d_la_set_0 : decode method_9_code 0 = .ok (.aload_n 3, 1) := by decide +kernel
theorem d_la_set_1 : decode method_9_code 1 = .ok (.iconst 0, 1) := by decide +kernel
theorem d_la_set_2 : decode method_9_code 2 = .ok (.aload_n 0, 1) := by decide +kernel
theorem d_la_set_3 : decode method_9_code 3 = .ok (.iload_n 1, 1) := by decide +kernel
theorem d_la_set_4 : decode method_9_code 4 = .ok (.iload_n 2, 1) := by decide +kernel
theorem d_la_set_5 : decode method_9_code 5 = .ok (.invokevirtual 38, 3) := by decide +kernel
theorem d_la_set_8 : decode method_9_code 8 = .ok (.i2l, 1) := by decide +kernel
theorem d_la_set_9 : decode method_9_code 9 = .ok (.lastore, 1) := by decide +kernel
theorem d_la_set_10 : decode method_9_code 10 = .ok (.goto 11, 3) := by decide +kernel
theorem d_la_set_13 : decode method_9_code 13 = .ok (.astore 4, 2) := by decide +kernel
theorem d_la_set_15 : decode method_9_code 15 = .ok (.iconst 1, 1) := by decide +kernel
theorem d_la_set_16 : decode method_9_code 16 = .ok (.ireturn, 1) := by decide +kernel
theorem d_la_set_17 : decode method_9_code 17 = .ok (.astore 4, 2) := by decide +kernel
theorem d_la_set_19 : decode method_9_code 19 = .ok (.iconst 2, 1) := by decide +kernel
theorem d_la_set_20 : decode method_9_code 20 = .ok (.ireturn, 1) := by decide +kernel
theorem d_la_set_21 : decode method_9_code 21 = .ok (.iconst 0, 1) := by decide +kernel
theorem d_la_set_22 : decode method_9_code 22 = .ok (.ireturn, 1) := by decide +kernel
theorem d_la_spoil_0 : decode method_21_code 0 = .ok (.aload_n 3, 1) := by decide +kernel
theorem d_la_spoil_1 : decode method_21_code 1 = .ok (.iconst 0, 1) := by decide +kernel
theorem d_la_spoil_2 : decode method_21_code 2 = .ok (.aload_n 0, 1) := by decide +kernel
theorem d_la_spoil_3 : decode method_21_code 3 = .ok (.iload_n 1, 1) := by decide +kernel
theorem d_la_spoil_4 : decode method_21_code 4 = .ok (.iload_n 2, 1) := by decide +kernel
theorem d_la_spoil_5 : decode method_21_code 5 = .ok (.invokevirtual 77, 3) := by decide +kernel
theorem d_la_spoil_8 : decode method_21_code 8 = .ok (.i2l, 1) := by decide +kernel
theorem d_la_spoil_9 : decode method_21_code 9 = .ok (.lastore, 1) := by decide +kernel
theorem d_la_spoil_10 : decode method_21_code 10 = .ok (.goto 11, 3) := by decide +kernel
theorem d_la_spoil_13 : decode method_21_code 13 = .ok (.astore 4, 2) := by decide +kernel
theorem d_la_spoil_15 : decode method_21_code 15 = .ok (.iconst 1, 1) := by decide +kernel
theorem d_la_spoil_16 : decode method_21_code 16 = .ok (.ireturn, 1) := by decide +kernel
theorem d_la_spoil_17 : decode method_21_code 17 = .ok (.astore 4, 2) := by decide +kernel
theorem d_la_spoil_19 : decode method_21_code 19 = .ok (.iconst 2, 1) := by decide +kernel
theorem d_la_spoil_20 : decode method_21_code 20 = .ok (.ireturn, 1) := by decide +kernel
theorem d_la_spoil_21 : decode method_21_code 21 = .ok (.iconst 0, 1) := by decide +kernel
theorem d_la_spoil_22 : decode method_21_code 22 = .ok (.ireturn, 1) := by decide +kernel
theorem d_la_stop_0 : decode method_3_code 0 = .ok (.aload 5, 2) := by decide +kernel
theorem d_la_stop_2 : decode method_3_code 2 = .ok (.iconst 0, 1) := by decide +kernel
theorem d_la_stop_3 : decode method_3_code 3 = .ok (.aload_n 0, 1) := by decide +kernel
theorem d_la_stop_4 : decode method_3_code 4 = .ok (.iload_n 1, 1) := by decide +kernel
theorem d_la_stop_5 : decode method_3_code 5 = .ok (.iload_n 2, 1) := by decide +kernel
theorem d_la_stop_6 : decode method_3_code 6 = .ok (.iload_n 3, 1) := by decide +kernel
theorem d_la_stop_7 : decode method_3_code 7 = .ok (.iload 4, 2) := by decide +kernel
theorem d_la_stop_9 : decode method_3_code 9 = .ok (.invokevirtual 7, 3) := by decide +kernel
theorem d_la_stop_12 : decode method_3_code 12 = .ok (.i2l, 1) := by decide +kernel
theorem d_la_stop_13 : decode method_3_code 13 = .ok (.lastore, 1) := by decide +kernel
theorem d_la_stop_14 : decode method_3_code 14 = .ok (.goto 15, 3) := by decide +kernel
theorem d_la_stop_17 : decode method_3_code 17 = .ok (.astore 6, 2) := by decide +kernel
theorem d_la_stop_19 : decode method_3_code 19 = .ok (.iconst 1, 1) := by decide +kernel
theorem d_la_stop_20 : decode method_3_code 20 = .ok (.ireturn, 1) := by decide +kernel
theorem d_la_stop_21 : decode method_3_code 21 = .ok (.astore 6, 2) := by decide +kernel
theorem d_la_stop_23 : decode method_3_code 23 = .ok (.iconst 2, 1) := by decide +kernel
theorem d_la_stop_24 : decode method_3_code 24 = .ok (.ireturn, 1) := by decide +kernel
theorem d_la_stop_25 : decode method_3_code 25 = .ok (.astore 6, 2) := by decide +kernel
theorem d_la_stop_27 : decode method_3_code 27 = .ok (.iconst 3, 1) := by decide +kernel
theorem d_la_stop_28 : decode method_3_code 28 = .ok (.ireturn, 1) := by decide +kernel
theorem d_la_stop_29 : decode method_3_code 29 = .ok (.iconst 0, 1) := by decide +kernel
theorem d_la_stop_30 : decode method_3_code 30 = .ok (.ireturn, 1) := by decide +kernel
theorem d_la_tab_0 : decode method_7_code 0 = .ok (.aload_n 3, 1) := by decide +kernel
theorem d_la_tab_1 : decode method_7_code 1 = .ok (.iconst 0, 1) := by decide +kernel
theorem d_la_tab_2 : decode method_7_code 2 = .ok (.aload_n 0, 1) := by decide +kernel
theorem d_la_tab_3 : decode method_7_code 3 = .ok (.iload_n 1, 1) := by decide +kernel
theorem d_la_tab_4 : decode method_7_code 4 = .ok (.iload_n 2, 1) := by decide +kernel
theorem d_la_tab_5 : decode method_7_code 5 = .ok (.invokevirtual 31, 3) := by decide +kernel
theorem d_la_tab_8 : decode method_7_code 8 = .ok (.ifCond .eq 7, 3) := by decide +kernel
theorem d_la_tab_11 : decode method_7_code 11 = .ok (.lconst 1, 1) := by decide +kernel
theorem d_la_tab_12 : decode method_7_code 12 = .ok (.goto 4, 3) := by decide +kernel
theorem d_la_tab_15 : decode method_7_code 15 = .ok (.lconst 0, 1) := by decide +kernel
theorem d_la_tab_16 : decode method_7_code 16 = .ok (.lastore, 1) := by decide +kernel
theorem d_la_tab_17 : decode method_7_code 17 = .ok (.goto 7, 3) := by decide +kernel
theorem d_la_tab_20 : decode method_7_code 20 = .ok (.astore 4, 2) := by decide +kernel
theorem d_la_tab_22 : decode method_7_code 22 = .ok (.iconst 1, 1) := by decide +kernel
theorem d_la_tab_23 : decode method_7_code 23 = .ok (.ireturn, 1) := by decide +kernel
theorem d_la_tab_24 : decode method_7_code 24 = .ok (.iconst 0, 1) := by decide +kernel
theorem d_la_tab_25 : decode method_7_code 25 = .ok (.ireturn, 1) := by decide +kernel
theorem d_la_tick_0 : decode method_16_code 0 = .ok (.aload_n 2, 1) := by decide +kernel
theorem d_la_tick_1 : decode method_16_code 1 = .ok (.iconst 0, 1) := by decide +kernel
theorem d_la_tick_2 : decode method_16_code 2 = .ok (.aload_n 0, 1) := by decide +kernel
theorem d_la_tick_3 : decode method_16_code 3 = .ok (.iload_n 1, 1) := by decide +kernel
theorem d_la_tick_4 : decode method_16_code 4 = .ok (.invokevirtual 61, 3) := by decide +kernel
theorem d_la_tick_7 : decode method_16_code 7 = .ok (.i2l, 1) := by decide +kernel
theorem d_la_tick_8 : decode method_16_code 8 = .ok (.lastore, 1) := by decide +kernel
theorem d_la_tick_9 : decode method_16_code 9 = .ok (.goto 6, 3) := by decide +kernel
theorem d_la_tick_12 : decode method_16_code 12 = .ok (.astore_n 3, 1) := by decide +kernel
theorem d_la_tick_13 : decode method_16_code 13 = .ok (.iconst 1, 1) := by decide +kernel
theorem d_la_tick_14 : decode method_16_code 14 = .ok (.ireturn, 1) := by decide +kernel
theorem d_la_tick_15 : decode method_16_code 15 = .ok (.iconst 0, 1) := by decide +kernel
theorem d_la_tick_16 : decode method_16_code 16 = .ok (.ireturn, 1) := by decide +kernel
theorem d_jl_bitCount_0 : decode prog_12_method_50_code 0 = .ok (.lload_n 0, 1) := by decide +kernel
theorem d_jl_bitCount_1 : decode prog_12_method_50_code 1 = .ok (.lload_n 0, 1) := by decide +kernel
theorem d_jl_bitCount_2 : decode prog_12_method_50_code 2 = .ok (.iconst 1, 1) := by decide +kernel
theorem d_jl_bitCount_3 : decode prog_12_method_50_code 3 = .ok (.lushr, 1) := by decide +kernel
theorem d_jl_bitCount_4 : decode prog_12_method_50_code 4 = .ok (.ldc2_w 314, 3) := by decide +kernel
theorem d_jl_bitCount_7 : decode prog_12_method_50_code 7 = .ok (.land, 1) := by decide +kernel
theorem d_jl_bitCount_8 : decode prog_12_method_50_code 8 = .ok (.lsub, 1) := by decide +kernel
theorem d_jl_bitCount_9 : decode prog_12_method_50_code 9 = .ok (.lstore_n 0, 1) := by decide +kernel
theorem d_jl_bitCount_10 : decode prog_12_method_50_code 10 = .ok (.lload_n 0, 1) := by decide +kernel
theorem d_jl_bitCount_11 : decode prog_12_method_50_code 11 = .ok (.ldc2_w 316, 3) := by decide +kernel
theorem d_jl_bitCount_14 : decode prog_12_method_50_code 14 = .ok (.land, 1) := by decide +kernel
theorem d_jl_bitCount_15 : decode prog_12_method_50_code 15 = .ok (.lload_n 0, 1) := by decide +kernel
theorem d_jl_bitCount_16 : decode prog_12_method_50_code 16 = .ok (.iconst 2, 1) := by decide +kernel
theorem d_jl_bitCount_17 : decode prog_12_method_50_code 17 = .ok (.lushr, 1) := by decide +kernel
theorem d_jl_bitCount_18 : decode prog_12_method_50_code 18 = .ok (.ldc2_w 316, 3) := by decide +kernel
theorem d_jl_bitCount_21 : decode prog_12_method_50_code 21 = .ok (.land, 1) := by decide +kernel
theorem d_jl_bitCount_22 : decode prog_12_method_50_code 22 = .ok (.ladd, 1) := by decide +kernel
theorem d_jl_bitCount_23 : decode prog_12_method_50_code 23 = .ok (.lstore_n 0, 1) := by decide +kernel
theorem d_jl_bitCount_24 : decode prog_12_method_50_code 24 = .ok (.lload_n 0, 1) := by decide +kernel
theorem d_jl_bitCount_25 : decode prog_12_method_50_code 25 = .ok (.lload_n 0, 1) := by decide +kernel
theorem d_jl_bitCount_26 : decode prog_12_method_50_code 26 = .ok (.iconst 4, 1) := by decide +kernel
theorem d_jl_bitCount_27 : decode prog_12_method_50_code 27 = .ok (.lushr, 1) := by decide +kernel
theorem d_jl_bitCount_28 : decode prog_12_method_50_code 28 = .ok (.ladd, 1) := by decide +kernel
theorem d_jl_bitCount_29 : decode prog_12_method_50_code 29 = .ok (.ldc2_w 318, 3) := by decide +kernel
theorem d_jl_bitCount_32 : decode prog_12_method_50_code 32 = .ok (.land, 1) := by decide +kernel
theorem d_jl_bitCount_33 : decode prog_12_method_50_code 33 = .ok (.lstore_n 0, 1) := by decide +kernel
theorem d_jl_bitCount_34 : decode prog_12_method_50_code 34 = .ok (.lload_n 0, 1) := by decide +kernel
theorem d_jl_bitCount_35 : decode prog_12_method_50_code 35 = .ok (.lload_n 0, 1) := by decide +kernel
theorem d_jl_bitCount_36 : decode prog_12_method_50_code 36 = .ok (.bipush 8, 2) := by decide +kernel
theorem d_jl_bitCount_38 : decode prog_12_method_50_code 38 = .ok (.lushr, 1) := by decide +kernel
theorem d_jl_bitCount_39 : decode prog_12_method_50_code 39 = .ok (.ladd, 1) := by decide +kernel
theorem d_jl_bitCount_40 : decode prog_12_method_50_code 40 = .ok (.lstore_n 0, 1) := by decide +kernel
theorem d_jl_bitCount_41 : decode prog_12_method_50_code 41 = .ok (.lload_n 0, 1) := by decide +kernel
theorem d_jl_bitCount_42 : decode prog_12_method_50_code 42 = .ok (.lload_n 0, 1) := by decide +kernel
theorem d_jl_bitCount_43 : decode prog_12_method_50_code 43 = .ok (.bipush 16, 2) := by decide +kernel
theorem d_jl_bitCount_45 : decode prog_12_method_50_code 45 = .ok (.lushr, 1) := by decide +kernel
theorem d_jl_bitCount_46 : decode prog_12_method_50_code 46 = .ok (.ladd, 1) := by decide +kernel
theorem d_jl_bitCount_47 : decode prog_12_method_50_code 47 = .ok (.lstore_n 0, 1) := by decide +kernel
theorem d_jl_bitCount_48 : decode prog_12_method_50_code 48 = .ok (.lload_n 0, 1) := by decide +kernel
theorem d_jl_bitCount_49 : decode prog_12_method_50_code 49 = .ok (.lload_n 0, 1) := by decide +kernel
theorem d_jl_bitCount_50 : decode prog_12_method_50_code 50 = .ok (.bipush 32, 2) := by decide +kernel
theorem d_jl_bitCount_52 : decode prog_12_method_50_code 52 = .ok (.lushr, 1) := by decide +kernel
theorem d_jl_bitCount_53 : decode prog_12_method_50_code 53 = .ok (.ladd, 1) := by decide +kernel
theorem d_jl_bitCount_54 : decode prog_12_method_50_code 54 = .ok (.lstore_n 0, 1) := by decide +kernel
theorem d_jl_bitCount_55 : decode prog_12_method_50_code 55 = .ok (.lload_n 0, 1) := by decide +kernel
theorem d_jl_bitCount_56 : decode prog_12_method_50_code 56 = .ok (.l2i, 1) := by decide +kernel
theorem d_jl_bitCount_57 : decode prog_12_method_50_code 57 = .ok (.bipush 127, 2) := by decide +kernel
theorem d_jl_bitCount_59 : decode prog_12_method_50_code 59 = .ok (.iand, 1) := by decide +kernel
theorem d_jl_bitCount_60 : decode prog_12_method_50_code 60 = .ok (.ireturn, 1) := by decide +kernel
theorem d_jm_max_0 : decode prog_13_method_65_code 0 = .ok (.iload_n 0, 1) := by decide +kernel
theorem d_jm_max_1 : decode prog_13_method_65_code 1 = .ok (.iload_n 1, 1) := by decide +kernel
theorem d_jm_max_2 : decode prog_13_method_65_code 2 = .ok (.if_icmp .lt 7, 3) := by decide +kernel
theorem d_jm_max_5 : decode prog_13_method_65_code 5 = .ok (.iload_n 0, 1) := by decide +kernel
theorem d_jm_max_6 : decode prog_13_method_65_code 6 = .ok (.goto 4, 3) := by decide +kernel
theorem d_jm_max_9 : decode prog_13_method_65_code 9 = .ok (.iload_n 1, 1) := by decide +kernel
theorem d_jm_max_10 : decode prog_13_method_65_code 10 = .ok (.ireturn, 1) := by decide +kernel
theorem d_jm_min_0 : decode prog_13_method_69_code 0 = .ok (.iload_n 0, 1) := by decide +kernel
theorem d_jm_min_1 : decode prog_13_method_69_code 1 = .ok (.iload_n 1, 1) := by decide +kernel
theorem d_jm_min_2 : decode prog_13_method_69_code 2 = .ok (.if_icmp .gt 7, 3) := by decide +kernel
theorem d_jm_min_5 : decode prog_13_method_69_code 5 = .ok (.iload_n 0, 1) := by decide +kernel
theorem d_jm_min_6 : decode prog_13_method_69_code 6 = .ok (.goto 4, 3) := by decide +kernel
theorem d_jm_min_9 : decode prog_13_method_69_code 9 = .ok (.iload_n 1, 1) := by decide +kernel
theorem d_jm_min_10 : decode prog_13_method_69_code 10 = .ok (.ireturn, 1) := by decide +kernel
theorem d_mo_about_0 : decode prog_8_method_32_code 0 = .ok (.aload_n 0, 1) := by decide +kernel
theorem d_mo_about_1 : decode prog_8_method_32_code 1 = .ok (.aload_n 0, 1) := by decide +kernel
theorem d_mo_about_2 : decode prog_8_method_32_code 2 = .ok (.iload_n 1, 1) := by decide +kernel
theorem d_mo_about_3 : decode prog_8_method_32_code 3 = .ok (.invokevirtual 93, 3) := by decide +kernel
theorem d_mo_about_6 : decode prog_8_method_32_code 6 = .ok (.iload_n 2, 1) := by decide +kernel
theorem d_mo_about_7 : decode prog_8_method_32_code 7 = .ok (.iconst 0, 1) := by decide +kernel
theorem d_mo_about_8 : decode prog_8_method_32_code 8 = .ok (.iconst 3, 1) := by decide +kernel
theorem d_mo_about_9 : decode prog_8_method_32_code 9 = .ok (.invokestatic 82, 3) := by decide +kernel
theorem d_mo_about_12 : decode prog_8_method_32_code 12 = .ok (.iconst 1, 1) := by decide +kernel
theorem d_mo_about_13 : decode prog_8_method_32_code 13 = .ok (.invokevirtual 86, 3) := by decide +kernel
theorem d_mo_about_16 : decode prog_8_method_32_code 16 = .ok (.ifCond .ne 5, 3) := by decide +kernel
theorem d_mo_about_19 : decode prog_8_method_32_code 19 = .ok (.iconst 0, 1) := by decide +kernel
theorem d_mo_about_20 : decode prog_8_method_32_code 20 = .ok (.ireturn, 1) := by decide +kernel
theorem d_mo_about_21 : decode prog_8_method_32_code 21 = .ok (.iload_n 2, 1) := by decide +kernel
theorem d_mo_about_22 : decode prog_8_method_32_code 22 = .ok (.tableswitch 62 0 2 #[26, 41, 55], 26) := by decide +kernel
theorem d_mo_about_48 : decode prog_8_method_32_code 48 = .ok (.aload_n 0, 1) := by decide +kernel
theorem d_mo_about_49 : decode prog_8_method_32_code 49 = .ok (.getfield 22, 3) := by decide +kernel
theorem d_mo_about_52 : decode prog_8_method_32_code 52 = .ok (.iload_n 1, 1) := by decide +kernel
theorem d_mo_about_53 : decode prog_8_method_32_code 53 = .ok (.baload, 1) := by decide +kernel
theorem d_mo_about_54 : decode prog_8_method_32_code 54 = .ok (.ifCond .eq 7, 3) := by decide +kernel
theorem d_mo_about_57 : decode prog_8_method_32_code 57 = .ok (.iconst 1, 1) := by decide +kernel
theorem d_mo_about_58 : decode prog_8_method_32_code 58 = .ok (.goto 4, 3) := by decide +kernel
theorem d_mo_about_61 : decode prog_8_method_32_code 61 = .ok (.iconst 0, 1) := by decide +kernel
theorem d_mo_about_62 : decode prog_8_method_32_code 62 = .ok (.ireturn, 1) := by decide +kernel
theorem d_mo_about_63 : decode prog_8_method_32_code 63 = .ok (.aload_n 0, 1) := by decide +kernel
theorem d_mo_about_64 : decode prog_8_method_32_code 64 = .ok (.iload_n 1, 1) := by decide +kernel
theorem d_mo_about_65 : decode prog_8_method_32_code 65 = .ok (.invokevirtual 133, 3) := by decide +kernel
theorem d_mo_about_68 : decode prog_8_method_32_code 68 = .ok (.ifCond .eq 7, 3) := by decide +kernel
theorem d_mo_about_71 : decode prog_8_method_32_code 71 = .ok (.iconst 1, 1) := by decide +kernel
theorem d_mo_about_72 : decode prog_8_method_32_code 72 = .ok (.goto 4, 3) := by decide +kernel
theorem d_mo_about_75 : decode prog_8_method_32_code 75 = .ok (.iconst 0, 1) := by decide +kernel
theorem d_mo_about_76 : decode prog_8_method_32_code 76 = .ok (.ireturn, 1) := by decide +kernel
theorem d_mo_about_77 : decode prog_8_method_32_code 77 = .ok (.aload_n 0, 1) := by decide +kernel
theorem d_mo_about_78 : decode prog_8_method_32_code 78 = .ok (.getfield 26, 3) := by decide +kernel
theorem d_mo_about_81 : decode prog_8_method_32_code 81 = .ok (.iload_n 1, 1) := by decide +kernel
theorem d_mo_about_82 : decode prog_8_method_32_code 82 = .ok (.iaload, 1) := by decide +kernel
theorem d_mo_about_83 : decode prog_8_method_32_code 83 = .ok (.ireturn, 1) := by decide +kernel
theorem d_mo_about_84 : decode prog_8_method_32_code 84 = .ok (.aload_n 0, 1) := by decide +kernel
theorem d_mo_about_85 : decode prog_8_method_32_code 85 = .ok (.iload_n 1, 1) := by decide +kernel
theorem d_mo_about_86 : decode prog_8_method_32_code 86 = .ok (.invokevirtual 142, 3) := by decide +kernel
theorem d_mo_about_89 : decode prog_8_method_32_code 89 = .ok (.ireturn, 1) := by decide +kernel
theorem d_mo_assign_0 : decode prog_8_method_25_code 0 = .ok (.aload_n 0, 1) := by decide +kernel
theorem d_mo_assign_1 : decode prog_8_method_25_code 1 = .ok (.aload_n 0, 1) := by decide +kernel
theorem d_mo_assign_2 : decode prog_8_method_25_code 2 = .ok (.iload_n 2, 1) := by decide +kernel
theorem d_mo_assign_3 : decode prog_8_method_25_code 3 = .ok (.invokevirtual 93, 3) := by decide +kernel
theorem d_mo_assign_6 : decode prog_8_method_25_code 6 = .ok (.iload_n 1, 1) := by decide +kernel
theorem d_mo_assign_7 : decode prog_8_method_25_code 7 = .ok (.iconst 1, 1) := by decide +kernel
theorem d_mo_assign_8 : decode prog_8_method_25_code 8 = .ok (.bipush 15, 2) := by decide +kernel
theorem d_mo_assign_10 : decode prog_8_method_25_code 10 = .ok (.invokestatic 82, 3) := by decide +kernel
theorem d_mo_assign_13 : decode prog_8_method_25_code 13 = .ok (.aload_n 0, 1) := by decide +kernel
theorem d_mo_assign_14 : decode prog_8_method_25_code 14 = .ok (.getfield 121, 3) := by decide +kernel
theorem d_mo_assign_17 : decode prog_8_method_25_code 17 = .ok (.ifCond .ne 7, 3) := by decide +kernel
theorem d_mo_assign_20 : decode prog_8_method_25_code 20 = .ok (.iconst 1, 1) := by decide +kernel
theorem d_mo_assign_21 : decode prog_8_method_25_code 21 = .ok (.goto 4, 3) := by decide +kernel
theorem d_mo_assign_24 : decode prog_8_method_25_code 24 = .ok (.iconst 0, 1) := by decide +kernel
theorem d_mo_assign_25 : decode prog_8_method_25_code 25 = .ok (.invokevirtual 86, 3) := by decide +kernel
theorem d_mo_assign_28 : decode prog_8_method_25_code 28 = .ok (.ifCond .ne 5, 3) := by decide +kernel
theorem d_mo_assign_31 : decode prog_8_method_25_code 31 = .ok (.iconst 0, 1) := by decide +kernel
theorem d_mo_assign_32 : decode prog_8_method_25_code 32 = .ok (.ireturn, 1) := by decide +kernel
theorem d_mo_assign_33 : decode prog_8_method_25_code 33 = .ok (.sipush 20544, 3) := by decide +kernel
theorem d_mo_assign_36 : decode prog_8_method_25_code 36 = .ok (.bipush 48, 2) := by decide +kernel
theorem d_mo_assign_38 : decode prog_8_method_25_code 38 = .ok (.iload_n 1, 1) := by decide +kernel
theorem d_mo_assign_39 : decode prog_8_method_25_code 39 = .ok (.imul, 1) := by decide +kernel
theorem d_mo_assign_40 : decode prog_8_method_25_code 40 = .ok (.iadd, 1) := by decide +kernel
theorem d_mo_assign_41 : decode prog_8_method_25_code 41 = .ok (.iload_n 2, 1) := by decide +kernel
theorem d_mo_assign_42 : decode prog_8_method_25_code 42 = .ok (.iadd, 1) := by decide +kernel
theorem d_mo_assign_43 : decode prog_8_method_25_code 43 = .ok (.istore 4, 2) := by decide +kernel
theorem d_mo_assign_45 : decode prog_8_method_25_code 45 = .ok (.aload_n 0, 1) := by decide +kernel
theorem d_mo_assign_46 : decode prog_8_method_25_code 46 = .ok (.getfield 54, 3) := by decide +kernel
theorem d_mo_assign_49 : decode prog_8_method_25_code 49 = .ok (.iload 4, 2) := by decide +kernel
theorem d_mo_assign_51 : decode prog_8_method_25_code 51 = .ok (.baload, 1) := by decide +kernel
theorem d_mo_assign_52 : decode prog_8_method_25_code 52 = .ok (.istore 5, 2) := by decide +kernel
theorem d_mo_assign_54 : decode prog_8_method_25_code 54 = .ok (.aload_n 0, 1) := by decide +kernel
theorem d_mo_assign_55 : decode prog_8_method_25_code 55 = .ok (.getfield 54, 3) := by decide +kernel
theorem d_mo_assign_58 : decode prog_8_method_25_code 58 = .ok (.iload 4, 2) := by decide +kernel
theorem d_mo_assign_60 : decode prog_8_method_25_code 60 = .ok (.iload_n 3, 1) := by decide +kernel
theorem d_mo_assign_61 : decode prog_8_method_25_code 61 = .ok (.bastore, 1) := by decide +kernel
theorem d_mo_assign_62 : decode prog_8_method_25_code 62 = .ok (.iload 5, 2) := by decide +kernel
theorem d_mo_assign_64 : decode prog_8_method_25_code 64 = .ok (.iload_n 3, 1) := by decide +kernel
theorem d_mo_assign_65 : decode prog_8_method_25_code 65 = .ok (.if_icmp .eq 7, 3) := by decide +kernel
theorem d_mo_assign_68 : decode prog_8_method_25_code 68 = .ok (.iconst 1, 1) := by decide +kernel
theorem d_mo_assign_69 : decode prog_8_method_25_code 69 = .ok (.goto 4, 3) := by decide +kernel
theorem d_mo_assign_72 : decode prog_8_method_25_code 72 = .ok (.iconst 0, 1) := by decide +kernel
theorem d_mo_assign_73 : decode prog_8_method_25_code 73 = .ok (.ireturn, 1) := by decide +kernel
theorem d_mo_boot_0 : decode prog_8_method_39_code 0 = .ok (.aload_n 0, 1) := by decide +kernel
theorem d_mo_boot_1 : decode prog_8_method_39_code 1 = .ok (.iconst 0, 1) := by decide +kernel
theorem d_mo_boot_2 : decode prog_8_method_39_code 2 = .ok (.putfield 76, 3) := by decide +kernel
theorem d_mo_boot_5 : decode prog_8_method_39_code 5 = .ok (.aload_n 0, 1) := by decide +kernel
theorem d_mo_boot_6 : decode prog_8_method_39_code 6 = .ok (.invokevirtual 153, 3) := by decide +kernel
theorem d_mo_boot_9 : decode prog_8_method_39_code 9 = .ok (.ireturn, 1) := by decide +kernel
theorem d_mo_commit_0 : decode prog_8_method_38_code 0 = .ok (.aload_n 0, 1) := by decide +kernel
theorem d_mo_commit_1 : decode prog_8_method_38_code 1 = .ok (.iload_n 1, 1) := by decide +kernel
theorem d_mo_commit_2 : decode prog_8_method_38_code 2 = .ok (.iconst 0, 1) := by decide +kernel
theorem d_mo_commit_3 : decode prog_8_method_38_code 3 = .ok (.bipush 9, 2) := by decide +kernel
theorem d_mo_commit_5 : decode prog_8_method_38_code 5 = .ok (.invokestatic 82, 3) := by decide +kernel
theorem d_mo_commit_8 : decode prog_8_method_38_code 8 = .ok (.iconst 1, 1) := by decide +kernel
theorem d_mo_commit_9 : decode prog_8_method_38_code 9 = .ok (.iconst 1, 1) := by decide +kernel
theorem d_mo_commit_10 : decode prog_8_method_38_code 10 = .ok (.invokevirtual 86, 3) := by decide +kernel
theorem d_mo_commit_13 : decode prog_8_method_38_code 13 = .ok (.ifCond .ne 5, 3) := by decide +kernel
theorem d_mo_commit_16 : decode prog_8_method_38_code 16 = .ok (.iconst 0, 1) := by decide +kernel
theorem d_mo_commit_17 : decode prog_8_method_38_code 17 = .ok (.ireturn, 1) := by decide +kernel
theorem d_mo_commit_18 : decode prog_8_method_38_code 18 = .ok (.iconst 0, 1) := by decide +kernel
theorem d_mo_commit_19 : decode prog_8_method_38_code 19 = .ok (.istore_n 2, 1) := by decide +kernel
theorem d_mo_commit_20 : decode prog_8_method_38_code 20 = .ok (.iconst 0, 1) := by decide +kernel
theorem d_mo_commit_21 : decode prog_8_method_38_code 21 = .ok (.istore_n 3, 1) := by decide +kernel
theorem d_mo_commit_22 : decode prog_8_method_38_code 22 = .ok (.iload_n 3, 1) := by decide +kernel
theorem d_mo_commit_23 : decode prog_8_method_38_code 23 = .ok (.bipush 18, 2) := by decide +kernel
theorem d_mo_commit_25 : decode prog_8_method_38_code 25 = .ok (.if_icmp .ge 30, 3) := by decide +kernel
theorem d_mo_commit_28 : decode prog_8_method_38_code 28 = .ok (.aload_n 0, 1) := by decide +kernel
theorem d_mo_commit_29 : decode prog_8_method_38_code 29 = .ok (.getfield 64, 3) := by decide +kernel
theorem d_mo_commit_32 : decode prog_8_method_38_code 32 = .ok (.iload_n 3, 1) := by decide +kernel
theorem d_mo_commit_33 : decode prog_8_method_38_code 33 = .ok (.iaload, 1) := by decide +kernel
theorem d_mo_commit_34 : decode prog_8_method_38_code 34 = .ok (.iload_n 2, 1) := by decide +kernel
theorem d_mo_commit_35 : decode prog_8_method_38_code 35 = .ok (.if_icmp .le 12, 3) := by decide +kernel
theorem d_mo_commit_38 : decode prog_8_method_38_code 38 = .ok (.aload_n 0, 1) := by decide +kernel
theorem d_mo_commit_39 : decode prog_8_method_38_code 39 = .ok (.getfield 64, 3) := by decide +kernel
theorem d_mo_commit_42 : decode prog_8_method_38_code 42 = .ok (.iload_n 3, 1) := by decide +kernel
theorem d_mo_commit_43 : decode prog_8_method_38_code 43 = .ok (.iaload, 1) := by decide +kernel
theorem d_mo_commit_44 : decode prog_8_method_38_code 44 = .ok (.goto 4, 3) := by decide +kernel
theorem d_mo_commit_47 : decode prog_8_method_38_code 47 = .ok (.iload_n 2, 1) := by decide +kernel
theorem d_mo_commit_48 : decode prog_8_method_38_code 48 = .ok (.istore_n 2, 1) := by decide +kernel
theorem d_mo_commit_49 : decode prog_8_method_38_code 49 = .ok (.iinc 3 1, 3) := by decide +kernel
theorem d_mo_commit_52 : decode prog_8_method_38_code 52 = .ok (.goto (-30), 3) := by decide +kernel
theorem d_mo_commit_55 : decode prog_8_method_38_code 55 = .ok (.aload_n 0, 1) := by decide +kernel
theorem d_mo_commit_56 : decode prog_8_method_38_code 56 = .ok (.getfield 70, 3) := by decide +kernel
theorem d_mo_commit_59 : decode prog_8_method_38_code 59 = .ok (.ifCond .ne 7, 3) := by decide +kernel
theorem d_mo_commit_62 : decode prog_8_method_38_code 62 = .ok (.iconst 1, 1) := by decide +kernel
theorem d_mo_commit_63 : decode prog_8_method_38_code 63 = .ok (.goto 4, 3) := by decide +kernel
theorem d_mo_commit_66 : decode prog_8_method_38_code 66 = .ok (.iconst 0, 1) := by decide +kernel
theorem d_mo_commit_67 : decode prog_8_method_38_code 67 = .ok (.istore_n 3, 1) := by decide +kernel
theorem d_mo_commit_68 : decode prog_8_method_38_code 68 = .ok (.iconst 0, 1) := by decide +kernel
theorem d_mo_commit_69 : decode prog_8_method_38_code 69 = .ok (.istore 4, 2) := by decide +kernel
theorem d_mo_commit_71 : decode prog_8_method_38_code 71 = .ok (.iload 4, 2) := by decide +kernel
theorem d_mo_commit_73 : decode prog_8_method_38_code 73 = .ok (.iload_n 1, 1) := by decide +kernel
theorem d_mo_commit_74 : decode prog_8_method_38_code 74 = .ok (.if_icmp .ge 37, 3) := by decide +kernel
theorem d_mo_commit_77 : decode prog_8_method_38_code 77 = .ok (.aload_n 0, 1) := by decide +kernel
theorem d_mo_commit_78 : decode prog_8_method_38_code 78 = .ok (.getfield 64, 3) := by decide +kernel
theorem d_mo_commit_81 : decode prog_8_method_38_code 81 = .ok (.bipush 9, 2) := by decide +kernel
theorem d_mo_commit_83 : decode prog_8_method_38_code 83 = .ok (.iload_n 3, 1) := by decide +kernel
theorem d_mo_commit_84 : decode prog_8_method_38_code 84 = .ok (.imul, 1) := by decide +kernel
theorem d_mo_commit_85 : decode prog_8_method_38_code 85 = .ok (.iload 4, 2) := by decide +kernel
theorem d_mo_commit_87 : decode prog_8_method_38_code 87 = .ok (.iadd, 1) := by decide +kernel
theorem d_mo_commit_88 : decode prog_8_method_38_code 88 = .ok (.iload_n 2, 1) := by decide +kernel
theorem d_mo_commit_89 : decode prog_8_method_38_code 89 = .ok (.iconst 1, 1) := by decide +kernel
theorem d_mo_commit_90 : decode prog_8_method_38_code 90 = .ok (.iadd, 1) := by decide +kernel
theorem d_mo_commit_91 : decode prog_8_method_38_code 91 = .ok (.iastore, 1) := by decide +kernel
theorem d_mo_commit_92 : decode prog_8_method_38_code 92 = .ok (.aload_n 0, 1) := by decide +kernel
theorem d_mo_commit_93 : decode prog_8_method_38_code 93 = .ok (.getfield 67, 3) := by decide +kernel
theorem d_mo_commit_96 : decode prog_8_method_38_code 96 = .ok (.bipush 9, 2) := by decide +kernel
theorem d_mo_commit_98 : decode prog_8_method_38_code 98 = .ok (.iload_n 3, 1) := by decide +kernel
theorem d_mo_commit_99 : decode prog_8_method_38_code 99 = .ok (.imul, 1) := by decide +kernel
theorem d_mo_commit_100 : decode prog_8_method_38_code 100 = .ok (.iload 4, 2) := by decide +kernel
theorem d_mo_commit_102 : decode prog_8_method_38_code 102 = .ok (.iadd, 1) := by decide +kernel
theorem d_mo_commit_103 : decode prog_8_method_38_code 103 = .ok (.iconst 0, 1) := by decide +kernel
theorem d_mo_commit_104 : decode prog_8_method_38_code 104 = .ok (.bastore, 1) := by decide +kernel
theorem d_mo_commit_105 : decode prog_8_method_38_code 105 = .ok (.iinc 4 1, 3) := by decide +kernel
theorem d_mo_commit_108 : decode prog_8_method_38_code 108 = .ok (.goto (-37), 3) := by decide +kernel
theorem d_mo_commit_111 : decode prog_8_method_38_code 111 = .ok (.iload_n 1, 1) := by decide +kernel
theorem d_mo_commit_112 : decode prog_8_method_38_code 112 = .ok (.bipush 9, 2) := by decide +kernel
theorem d_mo_commit_114 : decode prog_8_method_38_code 114 = .ok (.if_icmp .ge 8, 3) := by decide +kernel
theorem d_mo_commit_117 : decode prog_8_method_38_code 117 = .ok (.aload_n 0, 1) := by decide +kernel
theorem d_mo_commit_118 : decode prog_8_method_38_code 118 = .ok (.invokevirtual 153, 3) := by decide +kernel
