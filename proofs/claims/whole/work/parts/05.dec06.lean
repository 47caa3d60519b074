/-! the instructions -/
theorem d_mo_key_73 : decode prog_8_method_8_code 73 = .ok (.if_icmp .eq 7, 3) := by decide +kernel
theorem d_mo_key_76 : decode prog_8_method_8_code 76 = .ok (.iconst 1, 1) := by decide +kernel
theorem d_mo_key_77 : decode prog_8_method_8_code 77 = .ok (.goto 4, 3) := by decide +kernel
theorem d_mo_key_80 : decode prog_8_method_8_code 80 = .ok (.iconst 0, 1) := by decide +kernel
theorem d_mo_key_81 : decode prog_8_method_8_code 81 = .ok (.ireturn, 1) := by decide +kernel
theorem d_mo_knob_0 : decode prog_8_method_9_code 0 = .ok (.aload_n 0, 1) := by decide +kernel
theorem d_mo_knob_1 : decode prog_8_method_9_code 1 = .ok (.aload_n 0, 1) := by decide +kernel
theorem d_mo_knob_2 : decode prog_8_method_9_code 2 = .ok (.iload_n 1, 1) := by decide +kernel
theorem d_mo_knob_3 : decode prog_8_method_9_code 3 = .ok (.invokevirtual 93, 3) := by decide +kernel
theorem d_mo_knob_6 : decode prog_8_method_9_code 6 = .ok (.iconst 1, 1) := by decide +kernel
theorem d_mo_knob_7 : decode prog_8_method_9_code 7 = .ok (.iconst 1, 1) := by decide +kernel
theorem d_mo_knob_8 : decode prog_8_method_9_code 8 = .ok (.invokevirtual 86, 3) := by decide +kernel
theorem d_mo_knob_11 : decode prog_8_method_9_code 11 = .ok (.ifCond .ne 5, 3) := by decide +kernel
theorem d_mo_knob_14 : decode prog_8_method_9_code 14 = .ok (.iconst 0, 1) := by decide +kernel
theorem d_mo_knob_15 : decode prog_8_method_9_code 15 = .ok (.ireturn, 1) := by decide +kernel
theorem d_mo_knob_16 : decode prog_8_method_9_code 16 = .ok (.aload_n 0, 1) := by decide +kernel
theorem d_mo_knob_17 : decode prog_8_method_9_code 17 = .ok (.getfield 22, 3) := by decide +kernel
theorem d_mo_knob_20 : decode prog_8_method_9_code 20 = .ok (.iload_n 1, 1) := by decide +kernel
theorem d_mo_knob_21 : decode prog_8_method_9_code 21 = .ok (.baload, 1) := by decide +kernel
theorem d_mo_knob_22 : decode prog_8_method_9_code 22 = .ok (.istore_n 3, 1) := by decide +kernel
theorem d_mo_knob_23 : decode prog_8_method_9_code 23 = .ok (.aload_n 0, 1) := by decide +kernel
theorem d_mo_knob_24 : decode prog_8_method_9_code 24 = .ok (.getfield 22, 3) := by decide +kernel
theorem d_mo_knob_27 : decode prog_8_method_9_code 27 = .ok (.iload_n 1, 1) := by decide +kernel
theorem d_mo_knob_28 : decode prog_8_method_9_code 28 = .ok (.iload_n 2, 1) := by decide +kernel
theorem d_mo_knob_29 : decode prog_8_method_9_code 29 = .ok (.bastore, 1) := by decide +kernel
theorem d_mo_knob_30 : decode prog_8_method_9_code 30 = .ok (.aload_n 0, 1) := by decide +kernel
theorem d_mo_knob_31 : decode prog_8_method_9_code 31 = .ok (.getfield 26, 3) := by decide +kernel
theorem d_mo_knob_34 : decode prog_8_method_9_code 34 = .ok (.iload_n 1, 1) := by decide +kernel
theorem d_mo_knob_35 : decode prog_8_method_9_code 35 = .ok (.iconst 0, 1) := by decide +kernel
theorem d_mo_knob_36 : decode prog_8_method_9_code 36 = .ok (.iastore, 1) := by decide +kernel
theorem d_mo_knob_37 : decode prog_8_method_9_code 37 = .ok (.iload_n 3, 1) := by decide +kernel
theorem d_mo_knob_38 : decode prog_8_method_9_code 38 = .ok (.iload_n 2, 1) := by decide +kernel
theorem d_mo_knob_39 : decode prog_8_method_9_code 39 = .ok (.if_icmp .eq 7, 3) := by decide +kernel
theorem d_mo_knob_42 : decode prog_8_method_9_code 42 = .ok (.iconst 1, 1) := by decide +kernel
theorem d_mo_knob_43 : decode prog_8_method_9_code 43 = .ok (.goto 4, 3) := by decide +kernel
theorem d_mo_knob_46 : decode prog_8_method_9_code 46 = .ok (.iconst 0, 1) := by decide +kernel
theorem d_mo_knob_47 : decode prog_8_method_9_code 47 = .ok (.ireturn, 1) := by decide +kernel
theorem d_mo_lamp_0 : decode prog_8_method_34_code 0 = .ok (.aload_n 0, 1) := by decide +kernel
theorem d_mo_lamp_1 : decode prog_8_method_34_code 1 = .ok (.aload_n 0, 1) := by decide +kernel
theorem d_mo_lamp_2 : decode prog_8_method_34_code 2 = .ok (.iload_n 1, 1) := by decide +kernel
theorem d_mo_lamp_3 : decode prog_8_method_34_code 3 = .ok (.iload_n 2, 1) := by decide +kernel
theorem d_mo_lamp_4 : decode prog_8_method_34_code 4 = .ok (.invokevirtual 114, 3) := by decide +kernel
theorem d_mo_lamp_7 : decode prog_8_method_34_code 7 = .ok (.iconst 1, 1) := by decide +kernel
theorem d_mo_lamp_8 : decode prog_8_method_34_code 8 = .ok (.iconst 1, 1) := by decide +kernel
theorem d_mo_lamp_9 : decode prog_8_method_34_code 9 = .ok (.invokevirtual 86, 3) := by decide +kernel
theorem d_mo_lamp_12 : decode prog_8_method_34_code 12 = .ok (.ifCond .ne 5, 3) := by decide +kernel
theorem d_mo_lamp_15 : decode prog_8_method_34_code 15 = .ok (.iconst 0, 1) := by decide +kernel
theorem d_mo_lamp_16 : decode prog_8_method_34_code 16 = .ok (.ireturn, 1) := by decide +kernel
theorem d_mo_lamp_17 : decode prog_8_method_34_code 17 = .ok (.iconst 1, 1) := by decide +kernel
theorem d_mo_lamp_18 : decode prog_8_method_34_code 18 = .ok (.istore_n 3, 1) := by decide +kernel
theorem d_mo_lamp_19 : decode prog_8_method_34_code 19 = .ok (.iconst 0, 1) := by decide +kernel
theorem d_mo_lamp_20 : decode prog_8_method_34_code 20 = .ok (.istore 4, 2) := by decide +kernel
theorem d_mo_lamp_22 : decode prog_8_method_34_code 22 = .ok (.iload 4, 2) := by decide +kernel
theorem d_mo_lamp_24 : decode prog_8_method_34_code 24 = .ok (.aload_n 0, 1) := by decide +kernel
theorem d_mo_lamp_25 : decode prog_8_method_34_code 25 = .ok (.getfield 79, 3) := by decide +kernel
theorem d_mo_lamp_28 : decode prog_8_method_34_code 28 = .ok (.if_icmp .ge 54, 3) := by decide +kernel
theorem d_mo_lamp_31 : decode prog_8_method_34_code 31 = .ok (.iload_n 3, 1) := by decide +kernel
theorem d_mo_lamp_32 : decode prog_8_method_34_code 32 = .ok (.ifCond .eq 42, 3) := by decide +kernel
theorem d_mo_lamp_35 : decode prog_8_method_34_code 35 = .ok (.aload_n 0, 1) := by decide +kernel
theorem d_mo_lamp_36 : decode prog_8_method_34_code 36 = .ok (.iload_n 1, 1) := by decide +kernel
theorem d_mo_lamp_37 : decode prog_8_method_34_code 37 = .ok (.iload_n 2, 1) := by decide +kernel
theorem d_mo_lamp_38 : decode prog_8_method_34_code 38 = .ok (.iload 4, 2) := by decide +kernel
theorem d_mo_lamp_40 : decode prog_8_method_34_code 40 = .ok (.invokevirtual 111, 3) := by decide +kernel
theorem d_mo_lamp_43 : decode prog_8_method_34_code 43 = .ok (.ifCond .eq 27, 3) := by decide +kernel
theorem d_mo_lamp_46 : decode prog_8_method_34_code 46 = .ok (.aload_n 0, 1) := by decide +kernel
theorem d_mo_lamp_47 : decode prog_8_method_34_code 47 = .ok (.getfield 22, 3) := by decide +kernel
theorem d_mo_lamp_50 : decode prog_8_method_34_code 50 = .ok (.iload 4, 2) := by decide +kernel
theorem d_mo_lamp_52 : decode prog_8_method_34_code 52 = .ok (.baload, 1) := by decide +kernel
theorem d_mo_lamp_53 : decode prog_8_method_34_code 53 = .ok (.aload_n 0, 1) := by decide +kernel
theorem d_mo_lamp_54 : decode prog_8_method_34_code 54 = .ok (.getfield 54, 3) := by decide +kernel
theorem d_mo_lamp_57 : decode prog_8_method_34_code 57 = .ok (.aload_n 0, 1) := by decide +kernel
theorem d_mo_lamp_58 : decode prog_8_method_34_code 58 = .ok (.iload_n 1, 1) := by decide +kernel
theorem d_mo_lamp_59 : decode prog_8_method_34_code 59 = .ok (.iload_n 2, 1) := by decide +kernel
theorem d_mo_lamp_60 : decode prog_8_method_34_code 60 = .ok (.invokevirtual 107, 3) := by decide +kernel
theorem d_mo_lamp_63 : decode prog_8_method_34_code 63 = .ok (.iload 4, 2) := by decide +kernel
theorem d_mo_lamp_65 : decode prog_8_method_34_code 65 = .ok (.iadd, 1) := by decide +kernel
theorem d_mo_lamp_66 : decode prog_8_method_34_code 66 = .ok (.baload, 1) := by decide +kernel
theorem d_mo_lamp_67 : decode prog_8_method_34_code 67 = .ok (.if_icmp .ne 7, 3) := by decide +kernel
theorem d_mo_lamp_70 : decode prog_8_method_34_code 70 = .ok (.iconst 1, 1) := by decide +kernel
theorem d_mo_lamp_71 : decode prog_8_method_34_code 71 = .ok (.goto 4, 3) := by decide +kernel
theorem d_mo_lamp_74 : decode prog_8_method_34_code 74 = .ok (.iconst 0, 1) := by decide +kernel
theorem d_mo_lamp_75 : decode prog_8_method_34_code 75 = .ok (.istore_n 3, 1) := by decide +kernel
theorem d_mo_lamp_76 : decode prog_8_method_34_code 76 = .ok (.iinc 4 1, 3) := by decide +kernel
theorem d_mo_lamp_79 : decode prog_8_method_34_code 79 = .ok (.goto (-57), 3) := by decide +kernel
theorem d_mo_lamp_82 : decode prog_8_method_34_code 82 = .ok (.iload_n 3, 1) := by decide +kernel
theorem d_mo_lamp_83 : decode prog_8_method_34_code 83 = .ok (.ireturn, 1) := by decide +kernel
theorem d_mo_level_0 : decode prog_8_method_19_code 0 = .ok (.aload_n 0, 1) := by decide +kernel
theorem d_mo_level_1 : decode prog_8_method_19_code 1 = .ok (.iload_n 1, 1) := by decide +kernel
theorem d_mo_level_2 : decode prog_8_method_19_code 2 = .ok (.iconst 0, 1) := by decide +kernel
theorem d_mo_level_3 : decode prog_8_method_19_code 3 = .ok (.bipush 7, 2) := by decide +kernel
theorem d_mo_level_5 : decode prog_8_method_19_code 5 = .ok (.invokestatic 82, 3) := by decide +kernel
theorem d_mo_level_8 : decode prog_8_method_19_code 8 = .ok (.iconst 1, 1) := by decide +kernel
theorem d_mo_level_9 : decode prog_8_method_19_code 9 = .ok (.iconst 1, 1) := by decide +kernel
theorem d_mo_level_10 : decode prog_8_method_19_code 10 = .ok (.invokevirtual 86, 3) := by decide +kernel
theorem d_mo_level_13 : decode prog_8_method_19_code 13 = .ok (.ifCond .ne 5, 3) := by decide +kernel
theorem d_mo_level_16 : decode prog_8_method_19_code 16 = .ok (.iconst 0, 1) := by decide +kernel
theorem d_mo_level_17 : decode prog_8_method_19_code 17 = .ok (.ireturn, 1) := by decide +kernel
theorem d_mo_level_18 : decode prog_8_method_19_code 18 = .ok (.aload_n 0, 1) := by decide +kernel
theorem d_mo_level_19 : decode prog_8_method_19_code 19 = .ok (.getfield 104, 3) := by decide +kernel
theorem d_mo_level_22 : decode prog_8_method_19_code 22 = .ok (.istore_n 2, 1) := by decide +kernel
theorem d_mo_level_23 : decode prog_8_method_19_code 23 = .ok (.aload_n 0, 1) := by decide +kernel
theorem d_mo_level_24 : decode prog_8_method_19_code 24 = .ok (.iload_n 1, 1) := by decide +kernel
theorem d_mo_level_25 : decode prog_8_method_19_code 25 = .ok (.putfield 104, 3) := by decide +kernel
theorem d_mo_level_28 : decode prog_8_method_19_code 28 = .ok (.iload_n 2, 1) := by decide +kernel
theorem d_mo_level_29 : decode prog_8_method_19_code 29 = .ok (.ireturn, 1) := by decide +kernel
theorem d_mo_lock_0 : decode prog_8_method_20_code 0 = .ok (.aload_n 0, 1) := by decide +kernel
theorem d_mo_lock_1 : decode prog_8_method_20_code 1 = .ok (.iconst 0, 1) := by decide +kernel
theorem d_mo_lock_2 : decode prog_8_method_20_code 2 = .ok (.putfield 76, 3) := by decide +kernel
theorem d_mo_lock_5 : decode prog_8_method_20_code 5 = .ok (.aload_n 0, 1) := by decide +kernel
theorem d_mo_lock_6 : decode prog_8_method_20_code 6 = .ok (.getfield 121, 3) := by decide +kernel
theorem d_mo_lock_9 : decode prog_8_method_20_code 9 = .ok (.istore_n 2, 1) := by decide +kernel
theorem d_mo_lock_10 : decode prog_8_method_20_code 10 = .ok (.aload_n 0, 1) := by decide +kernel
theorem d_mo_lock_11 : decode prog_8_method_20_code 11 = .ok (.iload_n 1, 1) := by decide +kernel
theorem d_mo_lock_12 : decode prog_8_method_20_code 12 = .ok (.putfield 121, 3) := by decide +kernel
theorem d_mo_lock_15 : decode prog_8_method_20_code 15 = .ok (.iload_n 2, 1) := by decide +kernel
theorem d_mo_lock_16 : decode prog_8_method_20_code 16 = .ok (.iload_n 1, 1) := by decide +kernel
theorem d_mo_lock_17 : decode prog_8_method_20_code 17 = .ok (.if_icmp .eq 7, 3) := by decide +kernel
theorem d_mo_lock_20 : decode prog_8_method_20_code 20 = .ok (.iconst 1, 1) := by decide +kernel
theorem d_mo_lock_21 : decode prog_8_method_20_code 21 = .ok (.goto 4, 3) := by decide +kernel
theorem d_mo_lock_24 : decode prog_8_method_20_code 24 = .ok (.iconst 0, 1) := by decide +kernel
theorem d_mo_lock_25 : decode prog_8_method_20_code 25 = .ok (.ireturn, 1) := by decide +kernel
theorem d_mo_move_0 : decode prog_8_method_21_code 0 = .ok (.aload_n 0, 1) := by decide +kernel
theorem d_mo_move_1 : decode prog_8_method_21_code 1 = .ok (.getfield 50, 3) := by decide +kernel
theorem d_mo_move_4 : decode prog_8_method_21_code 4 = .ok (.i2l, 1) := by decide +kernel
theorem d_mo_move_5 : decode prog_8_method_21_code 5 = .ok (.iload_n 1, 1) := by decide +kernel
theorem d_mo_move_6 : decode prog_8_method_21_code 6 = .ok (.i2l, 1) := by decide +kernel
theorem d_mo_move_7 : decode prog_8_method_21_code 7 = .ok (.ladd, 1) := by decide +kernel
theorem d_mo_move_8 : decode prog_8_method_21_code 8 = .ok (.lstore_n 2, 1) := by decide +kernel
theorem d_mo_move_9 : decode prog_8_method_21_code 9 = .ok (.aload_n 0, 1) := by decide +kernel
theorem d_mo_move_10 : decode prog_8_method_21_code 10 = .ok (.lload_n 2, 1) := by decide +kernel
theorem d_mo_move_11 : decode prog_8_method_21_code 11 = .ok (.lconst 0, 1) := by decide +kernel
theorem d_mo_move_12 : decode prog_8_method_21_code 12 = .ok (.lcmp, 1) := by decide +kernel
theorem d_mo_move_13 : decode prog_8_method_21_code 13 = .ok (.ifCond .lt 17, 3) := by decide +kernel
theorem d_mo_move_16 : decode prog_8_method_21_code 16 = .ok (.lload_n 2, 1) := by decide +kernel
theorem d_mo_move_17 : decode prog_8_method_21_code 17 = .ok (.aload_n 0, 1) := by decide +kernel
theorem d_mo_move_18 : decode prog_8_method_21_code 18 = .ok (.getfield 101, 3) := by decide +kernel
theorem d_mo_move_21 : decode prog_8_method_21_code 21 = .ok (.i2l, 1) := by decide +kernel
theorem d_mo_move_22 : decode prog_8_method_21_code 22 = .ok (.lcmp, 1) := by decide +kernel
theorem d_mo_move_23 : decode prog_8_method_21_code 23 = .ok (.ifCond .ge 7, 3) := by decide +kernel
theorem d_mo_move_26 : decode prog_8_method_21_code 26 = .ok (.iconst 1, 1) := by decide +kernel
theorem d_mo_move_27 : decode prog_8_method_21_code 27 = .ok (.goto 4, 3) := by decide +kernel
theorem d_mo_move_30 : decode prog_8_method_21_code 30 = .ok (.iconst 0, 1) := by decide +kernel
theorem d_mo_move_31 : decode prog_8_method_21_code 31 = .ok (.iconst 1, 1) := by decide +kernel
theorem d_mo_move_32 : decode prog_8_method_21_code 32 = .ok (.iconst 1, 1) := by decide +kernel
theorem d_mo_move_33 : decode prog_8_method_21_code 33 = .ok (.invokevirtual 86, 3) := by decide +kernel
theorem d_mo_move_36 : decode prog_8_method_21_code 36 = .ok (.ifCond .ne 5, 3) := by decide +kernel
theorem d_mo_move_39 : decode prog_8_method_21_code 39 = .ok (.iconst 0, 1) := by decide +kernel
theorem d_mo_move_40 : decode prog_8_method_21_code 40 = .ok (.ireturn, 1) := by decide +kernel
theorem d_mo_move_41 : decode prog_8_method_21_code 41 = .ok (.aload_n 0, 1) := by decide +kernel
theorem d_mo_move_42 : decode prog_8_method_21_code 42 = .ok (.lload_n 2, 1) := by decide +kernel
theorem d_mo_move_43 : decode prog_8_method_21_code 43 = .ok (.l2i, 1) := by decide +kernel
theorem d_mo_move_44 : decode prog_8_method_21_code 44 = .ok (.putfield 50, 3) := by decide +kernel
theorem d_mo_move_47 : decode prog_8_method_21_code 47 = .ok (.aload_n 0, 1) := by decide +kernel
theorem d_mo_move_48 : decode prog_8_method_21_code 48 = .ok (.iconst 2, 1) := by decide +kernel
theorem d_mo_move_49 : decode prog_8_method_21_code 49 = .ok (.aload_n 0, 1) := by decide +kernel
theorem d_mo_move_50 : decode prog_8_method_21_code 50 = .ok (.getfield 50, 3) := by decide +kernel
theorem d_mo_move_53 : decode prog_8_method_21_code 53 = .ok (.invokevirtual 118, 3) := by decide +kernel
theorem d_mo_move_56 : decode prog_8_method_21_code 56 = .ok (.ireturn, 1) := by decide +kernel
theorem d_mo_openPipes_0 : decode prog_8_method_31_code 0 = .ok (.iconst 0, 1) := by decide +kernel
theorem d_mo_openPipes_1 : decode prog_8_method_31_code 1 = .ok (.istore_n 2, 1) := by decide +kernel
theorem d_mo_openPipes_2 : decode prog_8_method_31_code 2 = .ok (.iconst 0, 1) := by decide +kernel
theorem d_mo_openPipes_3 : decode prog_8_method_31_code 3 = .ok (.istore_n 3, 1) := by decide +kernel
theorem d_mo_openPipes_4 : decode prog_8_method_31_code 4 = .ok (.iload_n 3, 1) := by decide +kernel
theorem d_mo_openPipes_5 : decode prog_8_method_31_code 5 = .ok (.bipush 96, 2) := by decide +kernel
theorem d_mo_openPipes_7 : decode prog_8_method_31_code 7 = .ok (.if_icmp .gt 26, 3) := by decide +kernel
theorem d_mo_openPipes_10 : decode prog_8_method_31_code 10 = .ok (.aload_n 0, 1) := by decide +kernel
theorem d_mo_openPipes_11 : decode prog_8_method_31_code 11 = .ok (.iload_n 1, 1) := by decide +kernel
theorem d_mo_openPipes_12 : decode prog_8_method_31_code 12 = .ok (.iload_n 3, 1) := by decide +kernel
theorem d_mo_openPipes_13 : decode prog_8_method_31_code 13 = .ok (.invokevirtual 139, 3) := by decide +kernel
theorem d_mo_openPipes_16 : decode prog_8_method_31_code 16 = .ok (.ifCond .eq 9, 3) := by decide +kernel
theorem d_mo_openPipes_19 : decode prog_8_method_31_code 19 = .ok (.iload_n 2, 1) := by decide +kernel
theorem d_mo_openPipes_20 : decode prog_8_method_31_code 20 = .ok (.iconst 1, 1) := by decide +kernel
theorem d_mo_openPipes_21 : decode prog_8_method_31_code 21 = .ok (.iadd, 1) := by decide +kernel
theorem d_mo_openPipes_22 : decode prog_8_method_31_code 22 = .ok (.goto 4, 3) := by decide +kernel
theorem d_mo_openPipes_25 : decode prog_8_method_31_code 25 = .ok (.iload_n 2, 1) := by decide +kernel
theorem d_mo_openPipes_26 : decode prog_8_method_31_code 26 = .ok (.istore_n 2, 1) := by decide +kernel
theorem d_mo_openPipes_27 : decode prog_8_method_31_code 27 = .ok (.iinc 3 1, 3) := by decide +kernel
theorem d_mo_openPipes_30 : decode prog_8_method_31_code 30 = .ok (.goto (-26), 3) := by decide +kernel
theorem d_mo_openPipes_33 : decode prog_8_method_31_code 33 = .ok (.iload_n 2, 1) := by decide +kernel
theorem d_mo_openPipes_34 : decode prog_8_method_31_code 34 = .ok (.ireturn, 1) := by decide +kernel
theorem d_mo_pedal_0 : decode prog_8_method_24_code 0 = .ok (.aload_n 0, 1) := by decide +kernel
theorem d_mo_pedal_1 : decode prog_8_method_24_code 1 = .ok (.iload_n 1, 1) := by decide +kernel
theorem d_mo_pedal_2 : decode prog_8_method_24_code 2 = .ok (.iconst 0, 1) := by decide +kernel
theorem d_mo_pedal_3 : decode prog_8_method_24_code 3 = .ok (.bipush 15, 2) := by decide +kernel
theorem d_mo_pedal_5 : decode prog_8_method_24_code 5 = .ok (.invokestatic 82, 3) := by decide +kernel
theorem d_mo_pedal_8 : decode prog_8_method_24_code 8 = .ok (.iconst 1, 1) := by decide +kernel
theorem d_mo_pedal_9 : decode prog_8_method_24_code 9 = .ok (.iconst 1, 1) := by decide +kernel
theorem d_mo_pedal_10 : decode prog_8_method_24_code 10 = .ok (.invokevirtual 86, 3) := by decide +kernel
theorem d_mo_pedal_13 : decode prog_8_method_24_code 13 = .ok (.ifCond .ne 5, 3) := by decide +kernel
theorem d_mo_pedal_16 : decode prog_8_method_24_code 16 = .ok (.iconst 0, 1) := by decide +kernel
theorem d_mo_pedal_17 : decode prog_8_method_24_code 17 = .ok (.ireturn, 1) := by decide +kernel
theorem d_mo_pedal_18 : decode prog_8_method_24_code 18 = .ok (.aload_n 0, 1) := by decide +kernel
theorem d_mo_pedal_19 : decode prog_8_method_24_code 19 = .ok (.getfield 127, 3) := by decide +kernel
theorem d_mo_pedal_22 : decode prog_8_method_24_code 22 = .ok (.istore_n 2, 1) := by decide +kernel
theorem d_mo_pedal_23 : decode prog_8_method_24_code 23 = .ok (.aload_n 0, 1) := by decide +kernel
theorem d_mo_pedal_24 : decode prog_8_method_24_code 24 = .ok (.iload_n 1, 1) := by decide +kernel
theorem d_mo_pedal_25 : decode prog_8_method_24_code 25 = .ok (.putfield 127, 3) := by decide +kernel
theorem d_mo_pedal_28 : decode prog_8_method_24_code 28 = .ok (.iload_n 2, 1) := by decide +kernel
theorem d_mo_pedal_29 : decode prog_8_method_24_code 29 = .ok (.ireturn, 1) := by decide +kernel
theorem d_mo_pipe_0 : decode prog_8_method_33_code 0 = .ok (.aload_n 0, 1) := by decide +kernel
theorem d_mo_pipe_1 : decode prog_8_method_33_code 1 = .ok (.aload_n 0, 1) := by decide +kernel
theorem d_mo_pipe_2 : decode prog_8_method_33_code 2 = .ok (.iload_n 1, 1) := by decide +kernel
theorem d_mo_pipe_3 : decode prog_8_method_33_code 3 = .ok (.invokevirtual 93, 3) := by decide +kernel
theorem d_mo_pipe_6 : decode prog_8_method_33_code 6 = .ok (.iconst 1, 1) := by decide +kernel
theorem d_mo_pipe_7 : decode prog_8_method_33_code 7 = .ok (.iconst 1, 1) := by decide +kernel
theorem d_mo_pipe_8 : decode prog_8_method_33_code 8 = .ok (.invokevirtual 86, 3) := by decide +kernel
theorem d_mo_pipe_11 : decode prog_8_method_33_code 11 = .ok (.ifCond .eq 16, 3) := by decide +kernel
theorem d_mo_pipe_14 : decode prog_8_method_33_code 14 = .ok (.aload_n 0, 1) := by decide +kernel
theorem d_mo_pipe_15 : decode prog_8_method_33_code 15 = .ok (.iload_n 1, 1) := by decide +kernel
theorem d_mo_pipe_16 : decode prog_8_method_33_code 16 = .ok (.iload_n 2, 1) := by decide +kernel
theorem d_mo_pipe_17 : decode prog_8_method_33_code 17 = .ok (.invokevirtual 139, 3) := by decide +kernel
theorem d_mo_pipe_20 : decode prog_8_method_33_code 20 = .ok (.ifCond .eq 7, 3) := by decide +kernel
theorem d_mo_pipe_23 : decode prog_8_method_33_code 23 = .ok (.iconst 1, 1) := by decide +kernel
theorem d_mo_pipe_24 : decode prog_8_method_33_code 24 = .ok (.goto 4, 3) := by decide +kernel
theorem d_mo_pipe_27 : decode prog_8_method_33_code 27 = .ok (.iconst 0, 1) := by decide +kernel
theorem d_mo_pipe_28 : decode prog_8_method_33_code 28 = .ok (.ireturn, 1) := by decide +kernel
theorem d_mo_place_0 : decode prog_8_method_13_code 0 = .ok (.iload_n 1, 1) := by decide +kernel
theorem d_mo_place_1 : decode prog_8_method_13_code 1 = .ok (.ifCond .ne 19, 3) := by decide +kernel
theorem d_mo_place_4 : decode prog_8_method_13_code 4 = .ok (.sipush 768, 3) := by decide +kernel
theorem d_mo_place_7 : decode prog_8_method_13_code 7 = .ok (.aload_n 0, 1) := by decide +kernel
theorem d_mo_place_8 : decode prog_8_method_13_code 8 = .ok (.getfield 104, 3) := by decide +kernel
theorem d_mo_place_11 : decode prog_8_method_13_code 11 = .ok (.imul, 1) := by decide +kernel
theorem d_mo_place_12 : decode prog_8_method_13_code 12 = .ok (.bipush 48, 2) := by decide +kernel
theorem d_mo_place_14 : decode prog_8_method_13_code 14 = .ok (.iload_n 2, 1) := by decide +kernel
theorem d_mo_place_15 : decode prog_8_method_13_code 15 = .ok (.imul, 1) := by decide +kernel
theorem d_mo_place_16 : decode prog_8_method_13_code 16 = .ok (.iadd, 1) := by decide +kernel
theorem d_mo_place_17 : decode prog_8_method_13_code 17 = .ok (.goto 36, 3) := by decide +kernel
theorem d_mo_place_20 : decode prog_8_method_13_code 20 = .ok (.iload_n 1, 1) := by decide +kernel
theorem d_mo_place_21 : decode prog_8_method_13_code 21 = .ok (.iconst 1, 1) := by decide +kernel
theorem d_mo_place_22 : decode prog_8_method_13_code 22 = .ok (.if_icmp .ne 23, 3) := by decide +kernel
theorem d_mo_place_25 : decode prog_8_method_13_code 25 = .ok (.sipush 6144, 3) := by decide +kernel
theorem d_mo_place_28 : decode prog_8_method_13_code 28 = .ok (.sipush 1200, 3) := by decide +kernel
theorem d_mo_place_31 : decode prog_8_method_13_code 31 = .ok (.aload_n 0, 1) := by decide +kernel
theorem d_mo_place_32 : decode prog_8_method_13_code 32 = .ok (.getfield 104, 3) := by decide +kernel
theorem d_mo_place_35 : decode prog_8_method_13_code 35 = .ok (.imul, 1) := by decide +kernel
theorem d_mo_place_36 : decode prog_8_method_13_code 36 = .ok (.iadd, 1) := by decide +kernel
theorem d_mo_place_37 : decode prog_8_method_13_code 37 = .ok (.bipush 48, 2) := by decide +kernel
theorem d_mo_place_39 : decode prog_8_method_13_code 39 = .ok (.iload_n 2, 1) := by decide +kernel
theorem d_mo_place_40 : decode prog_8_method_13_code 40 = .ok (.imul, 1) := by decide +kernel
theorem d_mo_place_41 : decode prog_8_method_13_code 41 = .ok (.iadd, 1) := by decide +kernel
theorem d_mo_place_42 : decode prog_8_method_13_code 42 = .ok (.goto 11, 3) := by decide +kernel
theorem d_mo_place_45 : decode prog_8_method_13_code 45 = .ok (.sipush 15744, 3) := by decide +kernel
theorem d_mo_place_48 : decode prog_8_method_13_code 48 = .ok (.bipush 48, 2) := by decide +kernel
theorem d_mo_place_50 : decode prog_8_method_13_code 50 = .ok (.iload_n 2, 1) := by decide +kernel
theorem d_mo_place_51 : decode prog_8_method_13_code 51 = .ok (.imul, 1) := by decide +kernel
theorem d_mo_place_52 : decode prog_8_method_13_code 52 = .ok (.iadd, 1) := by decide +kernel
theorem d_mo_place_53 : decode prog_8_method_13_code 53 = .ok (.ireturn, 1) := by decide +kernel
theorem d_mo_press_0 : decode prog_8_method_16_code 0 = .ok (.aload_n 0, 1) := by decide +kernel
theorem d_mo_press_1 : decode prog_8_method_16_code 1 = .ok (.aload_n 0, 1) := by decide +kernel
theorem d_mo_press_2 : decode prog_8_method_16_code 2 = .ok (.iload_n 1, 1) := by decide +kernel
theorem d_mo_press_3 : decode prog_8_method_16_code 3 = .ok (.iload_n 2, 1) := by decide +kernel
theorem d_mo_press_4 : decode prog_8_method_16_code 4 = .ok (.invokevirtual 114, 3) := by decide +kernel
theorem d_mo_press_7 : decode prog_8_method_16_code 7 = .ok (.iconst 1, 1) := by decide +kernel
theorem d_mo_press_8 : decode prog_8_method_16_code 8 = .ok (.iconst 1, 1) := by decide +kernel
theorem d_mo_press_9 : decode prog_8_method_16_code 9 = .ok (.invokevirtual 86, 3) := by decide +kernel
theorem d_mo_press_12 : decode prog_8_method_16_code 12 = .ok (.ifCond .ne 5, 3) := by decide +kernel
theorem d_mo_press_15 : decode prog_8_method_16_code 15 = .ok (.iconst 0, 1) := by decide +kernel
theorem d_mo_press_16 : decode prog_8_method_16_code 16 = .ok (.ireturn, 1) := by decide +kernel
theorem d_mo_press_17 : decode prog_8_method_16_code 17 = .ok (.aload_n 0, 1) := by decide +kernel
theorem d_mo_press_18 : decode prog_8_method_16_code 18 = .ok (.iload_n 1, 1) := by decide +kernel
theorem d_mo_press_19 : decode prog_8_method_16_code 19 = .ok (.iconst 2, 1) := by decide +kernel
theorem d_mo_press_20 : decode prog_8_method_16_code 20 = .ok (.if_icmp .ne 7, 3) := by decide +kernel
theorem d_mo_press_23 : decode prog_8_method_16_code 23 = .ok (.iload_n 2, 1) := by decide +kernel
theorem d_mo_press_24 : decode prog_8_method_16_code 24 = .ok (.goto 7, 3) := by decide +kernel
theorem d_mo_press_27 : decode prog_8_method_16_code 27 = .ok (.aload_n 0, 1) := by decide +kernel
theorem d_mo_press_28 : decode prog_8_method_16_code 28 = .ok (.getfield 50, 3) := by decide +kernel
theorem d_mo_press_31 : decode prog_8_method_16_code 31 = .ok (.putfield 50, 3) := by decide +kernel
theorem d_mo_press_34 : decode prog_8_method_16_code 34 = .ok (.aload_n 0, 1) := by decide +kernel
theorem d_mo_press_35 : decode prog_8_method_16_code 35 = .ok (.iload_n 1, 1) := by decide +kernel
theorem d_mo_press_36 : decode prog_8_method_16_code 36 = .ok (.iload_n 2, 1) := by decide +kernel
theorem d_mo_press_37 : decode prog_8_method_16_code 37 = .ok (.invokevirtual 118, 3) := by decide +kernel
theorem d_mo_press_40 : decode prog_8_method_16_code 40 = .ok (.ireturn, 1) := by decide +kernel
theorem d_mo_reached_0 : decode prog_8_method_29_code 0 = .ok (.aload_n 0, 1) := by decide +kernel
theorem d_mo_reached_1 : decode prog_8_method_29_code 1 = .ok (.iload_n 1, 1) := by decide +kernel
theorem d_mo_reached_2 : decode prog_8_method_29_code 2 = .ok (.iload_n 2, 1) := by decide +kernel
theorem d_mo_reached_3 : decode prog_8_method_29_code 3 = .ok (.invokevirtual 130, 3) := by decide +kernel
theorem d_mo_reached_6 : decode prog_8_method_29_code 6 = .ok (.istore_n 3, 1) := by decide +kernel
theorem d_mo_reached_7 : decode prog_8_method_29_code 7 = .ok (.iconst 0, 1) := by decide +kernel
theorem d_mo_reached_8 : decode prog_8_method_29_code 8 = .ok (.istore 4, 2) := by decide +kernel
theorem d_mo_reached_10 : decode prog_8_method_29_code 10 = .ok (.iload 4, 2) := by decide +kernel
theorem d_mo_reached_12 : decode prog_8_method_29_code 12 = .ok (.aload_n 0, 1) := by decide +kernel
theorem d_mo_reached_13 : decode prog_8_method_29_code 13 = .ok (.getfield 90, 3) := by decide +kernel
theorem d_mo_reached_16 : decode prog_8_method_29_code 16 = .ok (.if_icmp .ge 63, 3) := by decide +kernel
theorem d_mo_reached_19 : decode prog_8_method_29_code 19 = .ok (.iload_n 3, 1) := by decide +kernel
theorem d_mo_reached_20 : decode prog_8_method_29_code 20 = .ok (.ifCond .ne 47, 3) := by decide +kernel
theorem d_mo_reached_23 : decode prog_8_method_29_code 23 = .ok (.aload_n 0, 1) := by decide +kernel
theorem d_mo_reached_24 : decode prog_8_method_29_code 24 = .ok (.getfield 44, 3) := by decide +kernel
theorem d_mo_reached_27 : decode prog_8_method_29_code 27 = .ok (.iload 4, 2) := by decide +kernel
theorem d_mo_reached_29 : decode prog_8_method_29_code 29 = .ok (.baload, 1) := by decide +kernel
theorem d_mo_reached_30 : decode prog_8_method_29_code 30 = .ok (.ifCond .eq 41, 3) := by decide +kernel
theorem d_mo_reached_33 : decode prog_8_method_29_code 33 = .ok (.aload_n 0, 1) := by decide +kernel
theorem d_mo_reached_34 : decode prog_8_method_29_code 34 = .ok (.getfield 38, 3) := by decide +kernel
theorem d_mo_reached_37 : decode prog_8_method_29_code 37 = .ok (.iload 4, 2) := by decide +kernel
theorem d_mo_reached_39 : decode prog_8_method_29_code 39 = .ok (.iaload, 1) := by decide +kernel
theorem d_mo_reached_40 : decode prog_8_method_29_code 40 = .ok (.iload_n 1, 1) := by decide +kernel
theorem d_mo_reached_41 : decode prog_8_method_29_code 41 = .ok (.if_icmp .ne 30, 3) := by decide +kernel
theorem d_mo_reached_44 : decode prog_8_method_29_code 44 = .ok (.aload_n 0, 1) := by decide +kernel
theorem d_mo_reached_45 : decode prog_8_method_29_code 45 = .ok (.aload_n 0, 1) := by decide +kernel
theorem d_mo_reached_46 : decode prog_8_method_29_code 46 = .ok (.getfield 35, 3) := by decide +kernel
theorem d_mo_reached_49 : decode prog_8_method_29_code 49 = .ok (.iload 4, 2) := by decide +kernel
theorem d_mo_reached_51 : decode prog_8_method_29_code 51 = .ok (.iaload, 1) := by decide +kernel
theorem d_mo_reached_52 : decode prog_8_method_29_code 52 = .ok (.iload_n 2, 1) := by decide +kernel
theorem d_mo_reached_53 : decode prog_8_method_29_code 53 = .ok (.aload_n 0, 1) := by decide +kernel
theorem d_mo_reached_54 : decode prog_8_method_29_code 54 = .ok (.getfield 41, 3) := by decide +kernel
theorem d_mo_reached_57 : decode prog_8_method_29_code 57 = .ok (.iload 4, 2) := by decide +kernel
theorem d_mo_reached_59 : decode prog_8_method_29_code 59 = .ok (.iaload, 1) := by decide +kernel
theorem d_mo_reached_60 : decode prog_8_method_29_code 60 = .ok (.isub, 1) := by decide +kernel
theorem d_mo_reached_61 : decode prog_8_method_29_code 61 = .ok (.invokevirtual 130, 3) := by decide +kernel
theorem d_mo_reached_64 : decode prog_8_method_29_code 64 = .ok (.ifCond .eq 7, 3) := by decide +kernel
theorem d_mo_reached_67 : decode prog_8_method_29_code 67 = .ok (.iconst 1, 1) := by decide +kernel
theorem d_mo_reached_68 : decode prog_8_method_29_code 68 = .ok (.goto 4, 3) := by decide +kernel
theorem d_mo_reached_71 : decode prog_8_method_29_code 71 = .ok (.iconst 0, 1) := by decide +kernel
theorem d_mo_reached_72 : decode prog_8_method_29_code 72 = .ok (.istore_n 3, 1) := by decide +kernel
theorem d_mo_reached_73 : decode prog_8_method_29_code 73 = .ok (.iinc 4 1, 3) := by decide +kernel
theorem d_mo_reached_76 : decode prog_8_method_29_code 76 = .ok (.goto (-66), 3) := by decide +kernel
theorem d_mo_reached_79 : decode prog_8_method_29_code 79 = .ok (.iload_n 3, 1) := by decide +kernel
theorem d_mo_reached_80 : decode prog_8_method_29_code 80 = .ok (.ireturn, 1) := by decide +kernel
theorem d_mo_reboot_0 : decode prog_8_method_37_code 0 = .ok (.aload_n 0, 1) := by decide +kernel
theorem d_mo_reboot_1 : decode prog_8_method_37_code 1 = .ok (.iconst 0, 1) := by decide +kernel
theorem d_mo_reboot_2 : decode prog_8_method_37_code 2 = .ok (.invokevirtual 146, 3) := by decide +kernel
theorem d_mo_reboot_5 : decode prog_8_method_37_code 5 = .ok (.istore_n 1, 1) := by decide +kernel
theorem d_mo_reboot_6 : decode prog_8_method_37_code 6 = .ok (.aload_n 0, 1) := by decide +kernel
theorem d_mo_reboot_7 : decode prog_8_method_37_code 7 = .ok (.iconst 1, 1) := by decide +kernel
theorem d_mo_reboot_8 : decode prog_8_method_37_code 8 = .ok (.invokevirtual 146, 3) := by decide +kernel
theorem d_mo_reboot_11 : decode prog_8_method_37_code 11 = .ok (.istore_n 2, 1) := by decide +kernel
theorem d_mo_reboot_12 : decode prog_8_method_37_code 12 = .ok (.aload_n 0, 1) := by decide +kernel
theorem d_mo_reboot_13 : decode prog_8_method_37_code 13 = .ok (.iload_n 1, 1) := by decide +kernel
theorem d_mo_reboot_14 : decode prog_8_method_37_code 14 = .ok (.ifCond .eq 27, 3) := by decide +kernel
theorem d_mo_reboot_17 : decode prog_8_method_37_code 17 = .ok (.iload_n 2, 1) := by decide +kernel
theorem d_mo_reboot_18 : decode prog_8_method_37_code 18 = .ok (.ifCond .eq 19, 3) := by decide +kernel
theorem d_mo_reboot_21 : decode prog_8_method_37_code 21 = .ok (.aload_n 0, 1) := by decide +kernel
theorem d_mo_reboot_22 : decode prog_8_method_37_code 22 = .ok (.getfield 64, 3) := by decide +kernel
theorem d_mo_reboot_25 : decode prog_8_method_37_code 25 = .ok (.iconst 0, 1) := by decide +kernel
theorem d_mo_reboot_26 : decode prog_8_method_37_code 26 = .ok (.iaload, 1) := by decide +kernel
theorem d_mo_reboot_27 : decode prog_8_method_37_code 27 = .ok (.aload_n 0, 1) := by decide +kernel
theorem d_mo_reboot_28 : decode prog_8_method_37_code 28 = .ok (.getfield 64, 3) := by decide +kernel
theorem d_mo_reboot_31 : decode prog_8_method_37_code 31 = .ok (.bipush 9, 2) := by decide +kernel
theorem d_mo_reboot_33 : decode prog_8_method_37_code 33 = .ok (.iaload, 1) := by decide +kernel
theorem d_mo_reboot_34 : decode prog_8_method_37_code 34 = .ok (.if_icmp .lt 7, 3) := by decide +kernel
theorem d_mo_reboot_37 : decode prog_8_method_37_code 37 = .ok (.iconst 0, 1) := by decide +kernel
theorem d_mo_reboot_38 : decode prog_8_method_37_code 38 = .ok (.goto 12, 3) := by decide +kernel
theorem d_mo_reboot_41 : decode prog_8_method_37_code 41 = .ok (.iload_n 2, 1) := by decide +kernel
theorem d_mo_reboot_42 : decode prog_8_method_37_code 42 = .ok (.ifCond .eq 7, 3) := by decide +kernel
theorem d_mo_reboot_45 : decode prog_8_method_37_code 45 = .ok (.iconst 1, 1) := by decide +kernel
theorem d_mo_reboot_46 : decode prog_8_method_37_code 46 = .ok (.goto 4, 3) := by decide +kernel
theorem d_mo_reboot_49 : decode prog_8_method_37_code 49 = .ok (.iconst (-1), 1) := by decide +kernel
theorem d_mo_reboot_50 : decode prog_8_method_37_code 50 = .ok (.putfield 70, 3) := by decide +kernel
theorem d_mo_reboot_53 : decode prog_8_method_37_code 53 = .ok (.iconst 0, 1) := by decide +kernel
theorem d_mo_reboot_54 : decode prog_8_method_37_code 54 = .ok (.istore_n 3, 1) := by decide +kernel
theorem d_mo_reboot_55 : decode prog_8_method_37_code 55 = .ok (.iload_n 3, 1) := by decide +kernel
theorem d_mo_reboot_56 : decode prog_8_method_37_code 56 = .ok (.sipush 21312, 3) := by decide +kernel
theorem d_mo_reboot_59 : decode prog_8_method_37_code 59 = .ok (.if_icmp .ge 45, 3) := by decide +kernel
theorem d_mo_reboot_62 : decode prog_8_method_37_code 62 = .ok (.aload_n 0, 1) := by decide +kernel
theorem d_mo_reboot_63 : decode prog_8_method_37_code 63 = .ok (.getfield 54, 3) := by decide +kernel
theorem d_mo_reboot_66 : decode prog_8_method_37_code 66 = .ok (.iload_n 3, 1) := by decide +kernel
theorem d_mo_reboot_67 : decode prog_8_method_37_code 67 = .ok (.aload_n 0, 1) := by decide +kernel
theorem d_mo_reboot_68 : decode prog_8_method_37_code 68 = .ok (.getfield 70, 3) := by decide +kernel
theorem d_mo_reboot_71 : decode prog_8_method_37_code 71 = .ok (.ifCond .lt 25, 3) := by decide +kernel
theorem d_mo_reboot_74 : decode prog_8_method_37_code 74 = .ok (.aload_n 0, 1) := by decide +kernel
theorem d_mo_reboot_75 : decode prog_8_method_37_code 75 = .ok (.getfield 58, 3) := by decide +kernel
theorem d_mo_reboot_78 : decode prog_8_method_37_code 78 = .ok (.sipush 21312, 3) := by decide +kernel
theorem d_mo_reboot_81 : decode prog_8_method_37_code 81 = .ok (.aload_n 0, 1) := by decide +kernel
theorem d_mo_reboot_82 : decode prog_8_method_37_code 82 = .ok (.getfield 70, 3) := by decide +kernel
theorem d_mo_reboot_85 : decode prog_8_method_37_code 85 = .ok (.imul, 1) := by decide +kernel
theorem d_mo_reboot_86 : decode prog_8_method_37_code 86 = .ok (.iload_n 3, 1) := by decide +kernel
theorem d_mo_reboot_87 : decode prog_8_method_37_code 87 = .ok (.iadd, 1) := by decide +kernel
theorem d_mo_reboot_88 : decode prog_8_method_37_code 88 = .ok (.baload, 1) := by decide +kernel
theorem d_mo_reboot_89 : decode prog_8_method_37_code 89 = .ok (.ifCond .eq 7, 3) := by decide +kernel
theorem d_mo_reboot_92 : decode prog_8_method_37_code 92 = .ok (.iconst 1, 1) := by decide +kernel
theorem d_mo_reboot_93 : decode prog_8_method_37_code 93 = .ok (.goto 4, 3) := by decide +kernel
theorem d_mo_reboot_96 : decode prog_8_method_37_code 96 = .ok (.iconst 0, 1) := by decide +kernel
theorem d_mo_reboot_97 : decode prog_8_method_37_code 97 = .ok (.bastore, 1) := by decide +kernel
theorem d_mo_reboot_98 : decode prog_8_method_37_code 98 = .ok (.iinc 3 1, 3) := by decide +kernel
theorem d_mo_reboot_101 : decode prog_8_method_37_code 101 = .ok (.goto (-46), 3) := by decide +kernel
theorem d_mo_reboot_104 : decode prog_8_method_37_code 104 = .ok (.aload_n 0, 1) := by decide +kernel
theorem d_mo_reboot_105 : decode prog_8_method_37_code 105 = .ok (.aload_n 0, 1) := by decide +kernel
theorem d_mo_reboot_106 : decode prog_8_method_37_code 106 = .ok (.getfield 70, 3) := by decide +kernel
theorem d_mo_reboot_109 : decode prog_8_method_37_code 109 = .ok (.ifCond .lt 15, 3) := by decide +kernel
theorem d_mo_reboot_112 : decode prog_8_method_37_code 112 = .ok (.aload_n 0, 1) := by decide +kernel
theorem d_mo_reboot_113 : decode prog_8_method_37_code 113 = .ok (.getfield 61, 3) := by decide +kernel
theorem d_mo_reboot_116 : decode prog_8_method_37_code 116 = .ok (.aload_n 0, 1) := by decide +kernel
theorem d_mo_reboot_117 : decode prog_8_method_37_code 117 = .ok (.getfield 70, 3) := by decide +kernel
theorem d_mo_reboot_120 : decode prog_8_method_37_code 120 = .ok (.iaload, 1) := by decide +kernel
theorem d_mo_reboot_121 : decode prog_8_method_37_code 121 = .ok (.goto 4, 3) := by decide +kernel
theorem d_mo_reboot_124 : decode prog_8_method_37_code 124 = .ok (.iconst 0, 1) := by decide +kernel
theorem d_mo_reboot_125 : decode prog_8_method_37_code 125 = .ok (.putfield 101, 3) := by decide +kernel
theorem d_mo_reboot_128 : decode prog_8_method_37_code 128 = .ok (.iconst 0, 1) := by decide +kernel
theorem d_mo_reboot_129 : decode prog_8_method_37_code 129 = .ok (.istore_n 3, 1) := by decide +kernel
theorem d_mo_reboot_130 : decode prog_8_method_37_code 130 = .ok (.iload_n 3, 1) := by decide +kernel
theorem d_mo_reboot_131 : decode prog_8_method_37_code 131 = .ok (.bipush 48, 2) := by decide +kernel
theorem d_mo_reboot_133 : decode prog_8_method_37_code 133 = .ok (.if_icmp .ge 16, 3) := by decide +kernel
theorem d_mo_reboot_136 : decode prog_8_method_37_code 136 = .ok (.aload_n 0, 1) := by decide +kernel
theorem d_mo_reboot_137 : decode prog_8_method_37_code 137 = .ok (.getfield 26, 3) := by decide +kernel
theorem d_mo_reboot_140 : decode prog_8_method_37_code 140 = .ok (.iload_n 3, 1) := by decide +kernel
theorem d_mo_reboot_141 : decode prog_8_method_37_code 141 = .ok (.iconst 0, 1) := by decide +kernel
theorem d_mo_reboot_142 : decode prog_8_method_37_code 142 = .ok (.iastore, 1) := by decide +kernel
theorem d_mo_reboot_143 : decode prog_8_method_37_code 143 = .ok (.iinc 3 1, 3) := by decide +kernel
theorem d_mo_reboot_146 : decode prog_8_method_37_code 146 = .ok (.goto (-16), 3) := by decide +kernel
theorem d_mo_reboot_149 : decode prog_8_method_37_code 149 = .ok (.aload_n 0, 1) := by decide +kernel
theorem d_mo_reboot_150 : decode prog_8_method_37_code 150 = .ok (.iconst 0, 1) := by decide +kernel
theorem d_mo_reboot_151 : decode prog_8_method_37_code 151 = .ok (.putfield 104, 3) := by decide +kernel
theorem d_mo_reboot_154 : decode prog_8_method_37_code 154 = .ok (.aload_n 0, 1) := by decide +kernel
theorem d_mo_reboot_155 : decode prog_8_method_37_code 155 = .ok (.iconst 0, 1) := by decide +kernel
theorem d_mo_reboot_156 : decode prog_8_method_37_code 156 = .ok (.putfield 121, 3) := by decide +kernel
theorem d_mo_reboot_159 : decode prog_8_method_37_code 159 = .ok (.aload_n 0, 1) := by decide +kernel
theorem d_mo_reboot_160 : decode prog_8_method_37_code 160 = .ok (.iconst 0, 1) := by decide +kernel
theorem d_mo_reboot_161 : decode prog_8_method_37_code 161 = .ok (.putfield 97, 3) := by decide +kernel
theorem d_mo_reboot_164 : decode prog_8_method_37_code 164 = .ok (.aload_n 0, 1) := by decide +kernel
theorem d_mo_reboot_165 : decode prog_8_method_37_code 165 = .ok (.iconst (-1), 1) := by decide +kernel
theorem d_mo_reboot_166 : decode prog_8_method_37_code 166 = .ok (.putfield 50, 3) := by decide +kernel
theorem d_mo_reboot_169 : decode prog_8_method_37_code 169 = .ok (.aload_n 0, 1) := by decide +kernel
theorem d_mo_reboot_170 : decode prog_8_method_37_code 170 = .ok (.invokevirtual 149, 3) := by decide +kernel
theorem d_mo_reboot_173 : decode prog_8_method_37_code 173 = .ok (.ireturn, 1) := by decide +kernel
theorem d_mo_recall_0 : decode prog_8_method_15_code 0 = .ok (.iconst 0, 1) := by decide +kernel
theorem d_mo_recall_1 : decode prog_8_method_15_code 1 = .ok (.istore_n 3, 1) := by decide +kernel
theorem d_mo_recall_2 : decode prog_8_method_15_code 2 = .ok (.aload_n 0, 1) := by decide +kernel
theorem d_mo_recall_3 : decode prog_8_method_15_code 3 = .ok (.iload_n 1, 1) := by decide +kernel
theorem d_mo_recall_4 : decode prog_8_method_15_code 4 = .ok (.iload_n 2, 1) := by decide +kernel
theorem d_mo_recall_5 : decode prog_8_method_15_code 5 = .ok (.invokevirtual 107, 3) := by decide +kernel
theorem d_mo_recall_8 : decode prog_8_method_15_code 8 = .ok (.istore 4, 2) := by decide +kernel
theorem d_mo_recall_10 : decode prog_8_method_15_code 10 = .ok (.iconst 0, 1) := by decide +kernel
theorem d_mo_recall_11 : decode prog_8_method_15_code 11 = .ok (.istore 5, 2) := by decide +kernel
theorem d_mo_recall_13 : decode prog_8_method_15_code 13 = .ok (.iload 5, 2) := by decide +kernel
theorem d_mo_recall_15 : decode prog_8_method_15_code 15 = .ok (.aload_n 0, 1) := by decide +kernel
theorem d_mo_recall_16 : decode prog_8_method_15_code 16 = .ok (.getfield 79, 3) := by decide +kernel
theorem d_mo_recall_19 : decode prog_8_method_15_code 19 = .ok (.if_icmp .ge 94, 3) := by decide +kernel
theorem d_mo_recall_22 : decode prog_8_method_15_code 22 = .ok (.aload_n 0, 1) := by decide +kernel
theorem d_mo_recall_23 : decode prog_8_method_15_code 23 = .ok (.iload_n 1, 1) := by decide +kernel
theorem d_mo_recall_24 : decode prog_8_method_15_code 24 = .ok (.iload_n 2, 1) := by decide +kernel
theorem d_mo_recall_25 : decode prog_8_method_15_code 25 = .ok (.iload 5, 2) := by decide +kernel
theorem d_mo_recall_27 : decode prog_8_method_15_code 27 = .ok (.invokevirtual 111, 3) := by decide +kernel
theorem d_mo_recall_30 : decode prog_8_method_15_code 30 = .ok (.ifCond .eq 77, 3) := by decide +kernel
theorem d_mo_recall_33 : decode prog_8_method_15_code 33 = .ok (.aload_n 0, 1) := by decide +kernel
theorem d_mo_recall_34 : decode prog_8_method_15_code 34 = .ok (.getfield 22, 3) := by decide +kernel
theorem d_mo_recall_37 : decode prog_8_method_15_code 37 = .ok (.iload 5, 2) := by decide +kernel
theorem d_mo_recall_39 : decode prog_8_method_15_code 39 = .ok (.baload, 1) := by decide +kernel
theorem d_mo_recall_40 : decode prog_8_method_15_code 40 = .ok (.aload_n 0, 1) := by decide +kernel
theorem d_mo_recall_41 : decode prog_8_method_15_code 41 = .ok (.getfield 54, 3) := by decide +kernel
theorem d_mo_recall_44 : decode prog_8_method_15_code 44 = .ok (.iload 4, 2) := by decide +kernel
theorem d_mo_recall_46 : decode prog_8_method_15_code 46 = .ok (.iload 5, 2) := by decide +kernel
theorem d_mo_recall_48 : decode prog_8_method_15_code 48 = .ok (.iadd, 1) := by decide +kernel
theorem d_mo_recall_49 : decode prog_8_method_15_code 49 = .ok (.baload, 1) := by decide +kernel
theorem d_mo_recall_50 : decode prog_8_method_15_code 50 = .ok (.if_icmp .eq 7, 3) := by decide +kernel
theorem d_mo_recall_53 : decode prog_8_method_15_code 53 = .ok (.iconst 1, 1) := by decide +kernel
theorem d_mo_recall_54 : decode prog_8_method_15_code 54 = .ok (.goto 4, 3) := by decide +kernel
theorem d_mo_recall_57 : decode prog_8_method_15_code 57 = .ok (.iconst 0, 1) := by decide +kernel
theorem d_mo_recall_58 : decode prog_8_method_15_code 58 = .ok (.istore 6, 2) := by decide +kernel
theorem d_mo_recall_60 : decode prog_8_method_15_code 60 = .ok (.aload_n 0, 1) := by decide +kernel
theorem d_mo_recall_61 : decode prog_8_method_15_code 61 = .ok (.getfield 26, 3) := by decide +kernel
theorem d_mo_recall_64 : decode prog_8_method_15_code 64 = .ok (.iload 5, 2) := by decide +kernel
theorem d_mo_recall_66 : decode prog_8_method_15_code 66 = .ok (.iload 6, 2) := by decide +kernel
theorem d_mo_recall_68 : decode prog_8_method_15_code 68 = .ok (.ifCond .eq 7, 3) := by decide +kernel
theorem d_mo_recall_71 : decode prog_8_method_15_code 71 = .ok (.iconst 3, 1) := by decide +kernel
theorem d_mo_recall_72 : decode prog_8_method_15_code 72 = .ok (.goto 4, 3) := by decide +kernel
theorem d_mo_recall_75 : decode prog_8_method_15_code 75 = .ok (.iconst 0, 1) := by decide +kernel
theorem d_mo_recall_76 : decode prog_8_method_15_code 76 = .ok (.iastore, 1) := by decide +kernel
theorem d_mo_recall_77 : decode prog_8_method_15_code 77 = .ok (.aload_n 0, 1) := by decide +kernel
theorem d_mo_recall_78 : decode prog_8_method_15_code 78 = .ok (.getfield 29, 3) := by decide +kernel
theorem d_mo_recall_81 : decode prog_8_method_15_code 81 = .ok (.iload 5, 2) := by decide +kernel
theorem d_mo_recall_83 : decode prog_8_method_15_code 83 = .ok (.aload_n 0, 1) := by decide +kernel
theorem d_mo_recall_84 : decode prog_8_method_15_code 84 = .ok (.getfield 54, 3) := by decide +kernel
theorem d_mo_recall_87 : decode prog_8_method_15_code 87 = .ok (.iload 4, 2) := by decide +kernel
theorem d_mo_recall_89 : decode prog_8_method_15_code 89 = .ok (.iload 5, 2) := by decide +kernel
theorem d_mo_recall_91 : decode prog_8_method_15_code 91 = .ok (.iadd, 1) := by decide +kernel
theorem d_mo_recall_92 : decode prog_8_method_15_code 92 = .ok (.baload, 1) := by decide +kernel
theorem d_mo_recall_93 : decode prog_8_method_15_code 93 = .ok (.bastore, 1) := by decide +kernel
theorem d_mo_recall_94 : decode prog_8_method_15_code 94 = .ok (.iload 6, 2) := by decide +kernel
theorem d_mo_recall_96 : decode prog_8_method_15_code 96 = .ok (.ifCond .eq 9, 3) := by decide +kernel
theorem d_mo_recall_99 : decode prog_8_method_15_code 99 = .ok (.iload_n 3, 1) := by decide +kernel
theorem d_mo_recall_100 : decode prog_8_method_15_code 100 = .ok (.iconst 1, 1) := by decide +kernel
theorem d_mo_recall_101 : decode prog_8_method_15_code 101 = .ok (.iadd, 1) := by decide +kernel
theorem d_mo_recall_102 : decode prog_8_method_15_code 102 = .ok (.goto 4, 3) := by decide +kernel
theorem d_mo_recall_105 : decode prog_8_method_15_code 105 = .ok (.iload_n 3, 1) := by decide +kernel
theorem d_mo_recall_106 : decode prog_8_method_15_code 106 = .ok (.istore_n 3, 1) := by decide +kernel
theorem d_mo_recall_107 : decode prog_8_method_15_code 107 = .ok (.iinc 5 1, 3) := by decide +kernel
theorem d_mo_recall_110 : decode prog_8_method_15_code 110 = .ok (.goto (-97), 3) := by decide +kernel
theorem d_mo_recall_113 : decode prog_8_method_15_code 113 = .ok (.iload_n 3, 1) := by decide +kernel
theorem d_mo_recall_114 : decode prog_8_method_15_code 114 = .ok (.ireturn, 1) := by decide +kernel
theorem d_mo_set_0 : decode prog_8_method_18_code 0 = .ok (.aload_n 0, 1) := by decide +kernel
theorem d_mo_set_1 : decode prog_8_method_18_code 1 = .ok (.aload_n 0, 1) := by decide +kernel
theorem d_mo_set_2 : decode prog_8_method_18_code 2 = .ok (.iload_n 1, 1) := by decide +kernel
theorem d_mo_set_3 : decode prog_8_method_18_code 3 = .ok (.iload_n 2, 1) := by decide +kernel
theorem d_mo_set_4 : decode prog_8_method_18_code 4 = .ok (.invokevirtual 114, 3) := by decide +kernel
theorem d_mo_set_7 : decode prog_8_method_18_code 7 = .ok (.aload_n 0, 1) := by decide +kernel
theorem d_mo_set_8 : decode prog_8_method_18_code 8 = .ok (.getfield 121, 3) := by decide +kernel
theorem d_mo_set_11 : decode prog_8_method_18_code 11 = .ok (.ifCond .ne 7, 3) := by decide +kernel
theorem d_mo_set_14 : decode prog_8_method_18_code 14 = .ok (.iconst 1, 1) := by decide +kernel
theorem d_mo_set_15 : decode prog_8_method_18_code 15 = .ok (.goto 4, 3) := by decide +kernel
theorem d_mo_set_18 : decode prog_8_method_18_code 18 = .ok (.iconst 0, 1) := by decide +kernel
theorem d_mo_set_19 : decode prog_8_method_18_code 19 = .ok (.iconst 1, 1) := by decide +kernel
theorem d_mo_set_20 : decode prog_8_method_18_code 20 = .ok (.invokevirtual 86, 3) := by decide +kernel
theorem d_mo_set_23 : decode prog_8_method_18_code 23 = .ok (.ifCond .eq 12, 3) := by decide +kernel
theorem d_mo_set_26 : decode prog_8_method_18_code 26 = .ok (.aload_n 0, 1) := by decide +kernel
theorem d_mo_set_27 : decode prog_8_method_18_code 27 = .ok (.iload_n 1, 1) := by decide +kernel
theorem d_mo_set_28 : decode prog_8_method_18_code 28 = .ok (.iload_n 2, 1) := by decide +kernel
theorem d_mo_set_29 : decode prog_8_method_18_code 29 = .ok (.invokevirtual 124, 3) := by decide +kernel
theorem d_mo_set_32 : decode prog_8_method_18_code 32 = .ok (.goto 4, 3) := by decide +kernel
theorem d_mo_set_35 : decode prog_8_method_18_code 35 = .ok (.iconst 0, 1) := by decide +kernel
theorem d_mo_set_36 : decode prog_8_method_18_code 36 = .ok (.ireturn, 1) := by decide +kernel
theorem d_mo_some_0 : decode prog_8_method_43_code 0 = .ok (.iconst 0, 1) := by decide +kernel
theorem d_mo_some_1 : decode prog_8_method_43_code 1 = .ok (.istore_n 2, 1) := by decide +kernel
theorem d_mo_some_2 : decode prog_8_method_43_code 2 = .ok (.iconst 0, 1) := by decide +kernel
theorem d_mo_some_3 : decode prog_8_method_43_code 3 = .ok (.istore_n 3, 1) := by decide +kernel
theorem d_mo_some_4 : decode prog_8_method_43_code 4 = .ok (.iload_n 3, 1) := by decide +kernel
theorem d_mo_some_5 : decode prog_8_method_43_code 5 = .ok (.sipush 305, 3) := by decide +kernel
theorem d_mo_some_8 : decode prog_8_method_43_code 8 = .ok (.if_icmp .ge 31, 3) := by decide +kernel
theorem d_mo_some_11 : decode prog_8_method_43_code 11 = .ok (.iload_n 1, 1) := by decide +kernel
theorem d_mo_some_12 : decode prog_8_method_43_code 12 = .ok (.iconst 2, 1) := by decide +kernel
theorem d_mo_some_13 : decode prog_8_method_43_code 13 = .ok (.if_icmp .ne 26, 3) := by decide +kernel
theorem d_mo_some_16 : decode prog_8_method_43_code 16 = .ok (.aload_n 0, 1) := by decide +kernel
theorem d_mo_some_17 : decode prog_8_method_43_code 17 = .ok (.getfield 47, 3) := by decide +kernel
theorem d_mo_some_20 : decode prog_8_method_43_code 20 = .ok (.iload_n 3, 1) := by decide +kernel
theorem d_mo_some_21 : decode prog_8_method_43_code 21 = .ok (.baload, 1) := by decide +kernel
theorem d_mo_some_22 : decode prog_8_method_43_code 22 = .ok (.ifCond .eq 9, 3) := by decide +kernel
theorem d_mo_some_25 : decode prog_8_method_43_code 25 = .ok (.iload_n 2, 1) := by decide +kernel
theorem d_mo_some_26 : decode prog_8_method_43_code 26 = .ok (.iconst 1, 1) := by decide +kernel
theorem d_mo_some_27 : decode prog_8_method_43_code 27 = .ok (.iadd, 1) := by decide +kernel
theorem d_mo_some_28 : decode prog_8_method_43_code 28 = .ok (.goto 4, 3) := by decide +kernel
theorem d_mo_some_31 : decode prog_8_method_43_code 31 = .ok (.iload_n 2, 1) := by decide +kernel
theorem d_mo_some_32 : decode prog_8_method_43_code 32 = .ok (.istore_n 2, 1) := by decide +kernel
theorem d_mo_some_33 : decode prog_8_method_43_code 33 = .ok (.iinc 3 1, 3) := by decide +kernel
theorem d_mo_some_36 : decode prog_8_method_43_code 36 = .ok (.goto (-32), 3) := by decide +kernel
theorem d_mo_some_39 : decode prog_8_method_43_code 39 = .ok (.iconst 0, 1) := by decide +kernel
theorem d_mo_some_40 : decode prog_8_method_43_code 40 = .ok (.istore_n 3, 1) := by decide +kernel
theorem d_mo_some_41 : decode prog_8_method_43_code 41 = .ok (.iload_n 3, 1) := by decide +kernel
theorem d_mo_some_42 : decode prog_8_method_43_code 42 = .ok (.aload_n 0, 1) := by decide +kernel
theorem d_mo_some_43 : decode prog_8_method_43_code 43 = .ok (.getfield 79, 3) := by decide +kernel
theorem d_mo_some_46 : decode prog_8_method_43_code 46 = .ok (.if_icmp .ge 63, 3) := by decide +kernel
theorem d_mo_some_49 : decode prog_8_method_43_code 49 = .ok (.iload_n 1, 1) := by decide +kernel
theorem d_mo_some_50 : decode prog_8_method_43_code 50 = .ok (.iconst 3, 1) := by decide +kernel
theorem d_mo_some_51 : decode prog_8_method_43_code 51 = .ok (.if_icmp .ne 12, 3) := by decide +kernel
theorem d_mo_some_54 : decode prog_8_method_43_code 54 = .ok (.aload_n 0, 1) := by decide +kernel
theorem d_mo_some_55 : decode prog_8_method_43_code 55 = .ok (.getfield 22, 3) := by decide +kernel
theorem d_mo_some_58 : decode prog_8_method_43_code 58 = .ok (.iload_n 3, 1) := by decide +kernel
theorem d_mo_some_59 : decode prog_8_method_43_code 59 = .ok (.baload, 1) := by decide +kernel
theorem d_mo_some_60 : decode prog_8_method_43_code 60 = .ok (.ifCond .ne 17, 3) := by decide +kernel
theorem d_mo_some_63 : decode prog_8_method_43_code 63 = .ok (.iload_n 1, 1) := by decide +kernel
theorem d_mo_some_64 : decode prog_8_method_43_code 64 = .ok (.iconst 4, 1) := by decide +kernel
theorem d_mo_some_65 : decode prog_8_method_43_code 65 = .ok (.if_icmp .ne 18, 3) := by decide +kernel
theorem d_mo_some_68 : decode prog_8_method_43_code 68 = .ok (.aload_n 0, 1) := by decide +kernel
theorem d_mo_some_69 : decode prog_8_method_43_code 69 = .ok (.getfield 26, 3) := by decide +kernel
theorem d_mo_some_72 : decode prog_8_method_43_code 72 = .ok (.iload_n 3, 1) := by decide +kernel
theorem d_mo_some_73 : decode prog_8_method_43_code 73 = .ok (.iaload, 1) := by decide +kernel
theorem d_mo_some_74 : decode prog_8_method_43_code 74 = .ok (.ifCond .le 9, 3) := by decide +kernel
theorem d_mo_some_77 : decode prog_8_method_43_code 77 = .ok (.iload_n 2, 1) := by decide +kernel
theorem d_mo_some_78 : decode prog_8_method_43_code 78 = .ok (.iconst 1, 1) := by decide +kernel
theorem d_mo_some_79 : decode prog_8_method_43_code 79 = .ok (.iadd, 1) := by decide +kernel
theorem d_mo_some_80 : decode prog_8_method_43_code 80 = .ok (.goto 4, 3) := by decide +kernel
theorem d_mo_some_83 : decode prog_8_method_43_code 83 = .ok (.iload_n 2, 1) := by decide +kernel
theorem d_mo_some_84 : decode prog_8_method_43_code 84 = .ok (.istore_n 2, 1) := by decide +kernel
theorem d_mo_some_85 : decode prog_8_method_43_code 85 = .ok (.iload_n 1, 1) := by decide +kernel
theorem d_mo_some_86 : decode prog_8_method_43_code 86 = .ok (.bipush 8, 2) := by decide +kernel
theorem d_mo_some_88 : decode prog_8_method_43_code 88 = .ok (.if_icmp .ne 13, 3) := by decide +kernel
theorem d_mo_some_91 : decode prog_8_method_43_code 91 = .ok (.iload_n 2, 1) := by decide +kernel
theorem d_mo_some_92 : decode prog_8_method_43_code 92 = .ok (.aload_n 0, 1) := by decide +kernel
theorem d_mo_some_93 : decode prog_8_method_43_code 93 = .ok (.iload_n 3, 1) := by decide +kernel
theorem d_mo_some_94 : decode prog_8_method_43_code 94 = .ok (.invokevirtual 142, 3) := by decide +kernel
theorem d_mo_some_97 : decode prog_8_method_43_code 97 = .ok (.iadd, 1) := by decide +kernel
theorem d_mo_some_98 : decode prog_8_method_43_code 98 = .ok (.goto 4, 3) := by decide +kernel
theorem d_mo_some_101 : decode prog_8_method_43_code 101 = .ok (.iload_n 2, 1) := by decide +kernel
theorem d_mo_some_102 : decode prog_8_method_43_code 102 = .ok (.istore_n 2, 1) := by decide +kernel
theorem d_mo_some_103 : decode prog_8_method_43_code 103 = .ok (.iinc 3 1, 3) := by decide +kernel
theorem d_mo_some_106 : decode prog_8_method_43_code 106 = .ok (.goto (-65), 3) := by decide +kernel
theorem d_mo_some_109 : decode prog_8_method_43_code 109 = .ok (.iconst 0, 1) := by decide +kernel
theorem d_mo_some_110 : decode prog_8_method_43_code 110 = .ok (.istore_n 3, 1) := by decide +kernel
theorem d_mo_some_111 : decode prog_8_method_43_code 111 = .ok (.iload_n 3, 1) := by decide +kernel
theorem d_mo_some_112 : decode prog_8_method_43_code 112 = .ok (.iconst 5, 1) := by decide +kernel
theorem d_mo_some_113 : decode prog_8_method_43_code 113 = .ok (.if_icmp .ge 49, 3) := by decide +kernel
theorem d_mo_some_116 : decode prog_8_method_43_code 116 = .ok (.iload_n 1, 1) := by decide +kernel
theorem d_mo_some_117 : decode prog_8_method_43_code 117 = .ok (.bipush 9, 2) := by decide +kernel
theorem d_mo_some_119 : decode prog_8_method_43_code 119 = .ok (.if_icmp .ne 43, 3) := by decide +kernel
theorem d_mo_some_122 : decode prog_8_method_43_code 122 = .ok (.iconst 0, 1) := by decide +kernel
theorem d_mo_some_123 : decode prog_8_method_43_code 123 = .ok (.istore 4, 2) := by decide +kernel
theorem d_mo_some_125 : decode prog_8_method_43_code 125 = .ok (.iload 4, 2) := by decide +kernel
theorem d_mo_some_127 : decode prog_8_method_43_code 127 = .ok (.bipush 96, 2) := by decide +kernel
theorem d_mo_some_129 : decode prog_8_method_43_code 129 = .ok (.if_icmp .gt 27, 3) := by decide +kernel
theorem d_mo_some_132 : decode prog_8_method_43_code 132 = .ok (.aload_n 0, 1) := by decide +kernel
theorem d_mo_some_133 : decode prog_8_method_43_code 133 = .ok (.iload_n 3, 1) := by decide +kernel
theorem d_mo_some_134 : decode prog_8_method_43_code 134 = .ok (.iload 4, 2) := by decide +kernel
theorem d_mo_some_136 : decode prog_8_method_43_code 136 = .ok (.invokevirtual 136, 3) := by decide +kernel
theorem d_mo_some_139 : decode prog_8_method_43_code 139 = .ok (.ifCond .eq 9, 3) := by decide +kernel
theorem d_mo_some_142 : decode prog_8_method_43_code 142 = .ok (.iload_n 2, 1) := by decide +kernel
theorem d_mo_some_143 : decode prog_8_method_43_code 143 = .ok (.iconst 1, 1) := by decide +kernel
theorem d_mo_some_144 : decode prog_8_method_43_code 144 = .ok (.iadd, 1) := by decide +kernel
theorem d_mo_some_145 : decode prog_8_method_43_code 145 = .ok (.goto 4, 3) := by decide +kernel
theorem d_mo_some_148 : decode prog_8_method_43_code 148 = .ok (.iload_n 2, 1) := by decide +kernel
theorem d_mo_some_149 : decode prog_8_method_43_code 149 = .ok (.istore_n 2, 1) := by decide +kernel
theorem d_mo_some_150 : decode prog_8_method_43_code 150 = .ok (.iinc 4 1, 3) := by decide +kernel
theorem d_mo_some_153 : decode prog_8_method_43_code 153 = .ok (.goto (-28), 3) := by decide +kernel
theorem d_mo_some_156 : decode prog_8_method_43_code 156 = .ok (.iinc 3 1, 3) := by decide +kernel
theorem d_mo_some_159 : decode prog_8_method_43_code 159 = .ok (.goto (-48), 3) := by decide +kernel
theorem d_mo_some_162 : decode prog_8_method_43_code 162 = .ok (.iload_n 2, 1) := by decide +kernel
theorem d_mo_some_163 : decode prog_8_method_43_code 163 = .ok (.ireturn, 1) := by decide +kernel
theorem d_mo_speaks_0 : decode prog_8_method_27_code 0 = .ok (.iconst 0, 1) := by decide +kernel
theorem d_mo_speaks_1 : decode prog_8_method_27_code 1 = .ok (.istore_n 2, 1) := by decide +kernel
theorem d_mo_speaks_2 : decode prog_8_method_27_code 2 = .ok (.iconst 1, 1) := by decide +kernel
theorem d_mo_speaks_3 : decode prog_8_method_27_code 3 = .ok (.istore_n 3, 1) := by decide +kernel
theorem d_mo_speaks_4 : decode prog_8_method_27_code 4 = .ok (.iload_n 3, 1) := by decide +kernel
theorem d_mo_speaks_5 : decode prog_8_method_27_code 5 = .ok (.aload_n 0, 1) := by decide +kernel
theorem d_mo_speaks_6 : decode prog_8_method_27_code 6 = .ok (.getfield 127, 3) := by decide +kernel
