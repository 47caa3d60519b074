/-! the instructions -/
theorem d_oc_openPipes_5 : decode prog_1_method_40_code 5 = .ok (.iconst 0, 1) := by decide +kernel
theorem d_oc_openPipes_6 : decode prog_1_method_40_code 6 = .ok (.istore_n 3, 1) := by decide +kernel
theorem d_oc_openPipes_7 : decode prog_1_method_40_code 7 = .ok (.iconst 0, 1) := by decide +kernel
theorem d_oc_openPipes_8 : decode prog_1_method_40_code 8 = .ok (.istore 4, 2) := by decide +kernel
theorem d_oc_openPipes_10 : decode prog_1_method_40_code 10 = .ok (.iload 4, 2) := by decide +kernel
theorem d_oc_openPipes_12 : decode prog_1_method_40_code 12 = .ok (.aload_n 0, 1) := by decide +kernel
theorem d_oc_openPipes_13 : decode prog_1_method_40_code 13 = .ok (.getfield 19, 3) := by decide +kernel
theorem d_oc_openPipes_16 : decode prog_1_method_40_code 16 = .ok (.getfield 72, 3) := by decide +kernel
theorem d_oc_openPipes_19 : decode prog_1_method_40_code 19 = .ok (.if_icmp .ge 27, 3) := by decide +kernel
theorem d_oc_openPipes_22 : decode prog_1_method_40_code 22 = .ok (.lload_n 1, 1) := by decide +kernel
theorem d_oc_openPipes_23 : decode prog_1_method_40_code 23 = .ok (.iload 4, 2) := by decide +kernel
theorem d_oc_openPipes_25 : decode prog_1_method_40_code 25 = .ok (.invokestatic 102, 3) := by decide +kernel
theorem d_oc_openPipes_28 : decode prog_1_method_40_code 28 = .ok (.ifCond .eq 12, 3) := by decide +kernel
theorem d_oc_openPipes_31 : decode prog_1_method_40_code 31 = .ok (.iload_n 3, 1) := by decide +kernel
theorem d_oc_openPipes_32 : decode prog_1_method_40_code 32 = .ok (.aload_n 0, 1) := by decide +kernel
theorem d_oc_openPipes_33 : decode prog_1_method_40_code 33 = .ok (.iload 4, 2) := by decide +kernel
theorem d_oc_openPipes_35 : decode prog_1_method_40_code 35 = .ok (.invokevirtual 191, 3) := by decide +kernel
theorem d_oc_openPipes_38 : decode prog_1_method_40_code 38 = .ok (.iadd, 1) := by decide +kernel
theorem d_oc_openPipes_39 : decode prog_1_method_40_code 39 = .ok (.istore_n 3, 1) := by decide +kernel
theorem d_oc_openPipes_40 : decode prog_1_method_40_code 40 = .ok (.iinc 4 1, 3) := by decide +kernel
theorem d_oc_openPipes_43 : decode prog_1_method_40_code 43 = .ok (.goto (-33), 3) := by decide +kernel
theorem d_oc_openPipes_46 : decode prog_1_method_40_code 46 = .ok (.iload_n 3, 1) := by decide +kernel
theorem d_oc_openPipes_47 : decode prog_1_method_40_code 47 = .ok (.ireturn, 1) := by decide +kernel
theorem d_oc_pedal_0 : decode prog_1_method_15_code 0 = .ok (.iload_n 1, 1) := by decide +kernel
theorem d_oc_pedal_1 : decode prog_1_method_15_code 1 = .ok (.ifCond .lt 9, 3) := by decide +kernel
theorem d_oc_pedal_4 : decode prog_1_method_15_code 4 = .ok (.iload_n 1, 1) := by decide +kernel
theorem d_oc_pedal_5 : decode prog_1_method_15_code 5 = .ok (.bipush 15, 2) := by decide +kernel
theorem d_oc_pedal_7 : decode prog_1_method_15_code 7 = .ok (.if_icmp .le 13, 3) := by decide +kernel
theorem d_oc_pedal_10 : decode prog_1_method_15_code 10 = .ok (.new 65, 3) := by decide +kernel
theorem d_oc_pedal_13 : decode prog_1_method_15_code 13 = .ok (.dup, 1) := by decide +kernel
theorem d_oc_pedal_14 : decode prog_1_method_15_code 14 = .ok (.ldc 171, 2) := by decide +kernel
theorem d_oc_pedal_16 : decode prog_1_method_15_code 16 = .ok (.invokespecial 69, 3) := by decide +kernel
theorem d_oc_pedal_19 : decode prog_1_method_15_code 19 = .ok (.athrow, 1) := by decide +kernel
theorem d_oc_pedal_20 : decode prog_1_method_15_code 20 = .ok (.aload_n 0, 1) := by decide +kernel
theorem d_oc_pedal_21 : decode prog_1_method_15_code 21 = .ok (.getfield 48, 3) := by decide +kernel
theorem d_oc_pedal_24 : decode prog_1_method_15_code 24 = .ok (.istore_n 2, 1) := by decide +kernel
theorem d_oc_pedal_25 : decode prog_1_method_15_code 25 = .ok (.aload_n 0, 1) := by decide +kernel
theorem d_oc_pedal_26 : decode prog_1_method_15_code 26 = .ok (.iload_n 1, 1) := by decide +kernel
theorem d_oc_pedal_27 : decode prog_1_method_15_code 27 = .ok (.putfield 48, 3) := by decide +kernel
theorem d_oc_pedal_30 : decode prog_1_method_15_code 30 = .ok (.iload_n 2, 1) := by decide +kernel
theorem d_oc_pedal_31 : decode prog_1_method_15_code 31 = .ok (.ireturn, 1) := by decide +kernel
theorem d_oc_pipe_0 : decode prog_1_method_19_code 0 = .ok (.aload_n 0, 1) := by decide +kernel
theorem d_oc_pipe_1 : decode prog_1_method_19_code 1 = .ok (.iload_n 1, 1) := by decide +kernel
theorem d_oc_pipe_2 : decode prog_1_method_19_code 2 = .ok (.invokevirtual 110, 3) := by decide +kernel
theorem d_oc_pipe_5 : decode prog_1_method_19_code 5 = .ok (.iload_n 2, 1) := by decide +kernel
theorem d_oc_pipe_6 : decode prog_1_method_19_code 6 = .ok (.aload_n 0, 1) := by decide +kernel
theorem d_oc_pipe_7 : decode prog_1_method_19_code 7 = .ok (.getfield 19, 3) := by decide +kernel
theorem d_oc_pipe_10 : decode prog_1_method_19_code 10 = .ok (.getfield 196, 3) := by decide +kernel
theorem d_oc_pipe_13 : decode prog_1_method_19_code 13 = .ok (.iload_n 1, 1) := by decide +kernel
theorem d_oc_pipe_14 : decode prog_1_method_19_code 14 = .ok (.iaload, 1) := by decide +kernel
theorem d_oc_pipe_15 : decode prog_1_method_19_code 15 = .ok (.if_icmp .lt 27, 3) := by decide +kernel
theorem d_oc_pipe_18 : decode prog_1_method_19_code 18 = .ok (.iload_n 2, 1) := by decide +kernel
theorem d_oc_pipe_19 : decode prog_1_method_19_code 19 = .ok (.aload_n 0, 1) := by decide +kernel
theorem d_oc_pipe_20 : decode prog_1_method_19_code 20 = .ok (.getfield 19, 3) := by decide +kernel
theorem d_oc_pipe_23 : decode prog_1_method_19_code 23 = .ok (.getfield 199, 3) := by decide +kernel
theorem d_oc_pipe_26 : decode prog_1_method_19_code 26 = .ok (.iload_n 1, 1) := by decide +kernel
theorem d_oc_pipe_27 : decode prog_1_method_19_code 27 = .ok (.iaload, 1) := by decide +kernel
theorem d_oc_pipe_28 : decode prog_1_method_19_code 28 = .ok (.if_icmp .gt 14, 3) := by decide +kernel
theorem d_oc_pipe_31 : decode prog_1_method_19_code 31 = .ok (.aload_n 0, 1) := by decide +kernel
theorem d_oc_pipe_32 : decode prog_1_method_19_code 32 = .ok (.invokevirtual 184, 3) := by decide +kernel
theorem d_oc_pipe_35 : decode prog_1_method_19_code 35 = .ok (.iload_n 1, 1) := by decide +kernel
theorem d_oc_pipe_36 : decode prog_1_method_19_code 36 = .ok (.invokestatic 102, 3) := by decide +kernel
theorem d_oc_pipe_39 : decode prog_1_method_19_code 39 = .ok (.ifCond .ne 5, 3) := by decide +kernel
theorem d_oc_pipe_42 : decode prog_1_method_19_code 42 = .ok (.iconst 0, 1) := by decide +kernel
theorem d_oc_pipe_43 : decode prog_1_method_19_code 43 = .ok (.ireturn, 1) := by decide +kernel
theorem d_oc_pipe_44 : decode prog_1_method_19_code 44 = .ok (.iload_n 2, 1) := by decide +kernel
theorem d_oc_pipe_45 : decode prog_1_method_19_code 45 = .ok (.aload_n 0, 1) := by decide +kernel
theorem d_oc_pipe_46 : decode prog_1_method_19_code 46 = .ok (.getfield 19, 3) := by decide +kernel
theorem d_oc_pipe_49 : decode prog_1_method_19_code 49 = .ok (.getfield 202, 3) := by decide +kernel
theorem d_oc_pipe_52 : decode prog_1_method_19_code 52 = .ok (.iload_n 1, 1) := by decide +kernel
theorem d_oc_pipe_53 : decode prog_1_method_19_code 53 = .ok (.iaload, 1) := by decide +kernel
theorem d_oc_pipe_54 : decode prog_1_method_19_code 54 = .ok (.isub, 1) := by decide +kernel
theorem d_oc_pipe_55 : decode prog_1_method_19_code 55 = .ok (.istore_n 3, 1) := by decide +kernel
theorem d_oc_pipe_56 : decode prog_1_method_19_code 56 = .ok (.aload_n 0, 1) := by decide +kernel
theorem d_oc_pipe_57 : decode prog_1_method_19_code 57 = .ok (.getfield 10, 3) := by decide +kernel
theorem d_oc_pipe_60 : decode prog_1_method_19_code 60 = .ok (.aload_n 0, 1) := by decide +kernel
theorem d_oc_pipe_61 : decode prog_1_method_19_code 61 = .ok (.getfield 19, 3) := by decide +kernel
theorem d_oc_pipe_64 : decode prog_1_method_19_code 64 = .ok (.getfield 205, 3) := by decide +kernel
theorem d_oc_pipe_67 : decode prog_1_method_19_code 67 = .ok (.iload_n 1, 1) := by decide +kernel
theorem d_oc_pipe_68 : decode prog_1_method_19_code 68 = .ok (.iaload, 1) := by decide +kernel
theorem d_oc_pipe_69 : decode prog_1_method_19_code 69 = .ok (.iload_n 3, 1) := by decide +kernel
theorem d_oc_pipe_70 : decode prog_1_method_19_code 70 = .ok (.iload_n 3, 1) := by decide +kernel
theorem d_oc_pipe_71 : decode prog_1_method_19_code 71 = .ok (.invokevirtual 208, 3) := by decide +kernel
theorem d_oc_pipe_74 : decode prog_1_method_19_code 74 = .ok (.ifCond .le 7, 3) := by decide +kernel
theorem d_oc_pipe_77 : decode prog_1_method_19_code 77 = .ok (.iconst 1, 1) := by decide +kernel
theorem d_oc_pipe_78 : decode prog_1_method_19_code 78 = .ok (.goto 4, 3) := by decide +kernel
theorem d_oc_pipe_81 : decode prog_1_method_19_code 81 = .ok (.iconst 0, 1) := by decide +kernel
theorem d_oc_pipe_82 : decode prog_1_method_19_code 82 = .ok (.ireturn, 1) := by decide +kernel
theorem d_oc_pistonsOf_0 : decode prog_1_method_33_code 0 = .ok (.iload_n 1, 1) := by decide +kernel
theorem d_oc_pistonsOf_1 : decode prog_1_method_33_code 1 = .ok (.tableswitch 41 0 2 #[27, 30, 33], 27) := by decide +kernel
theorem d_oc_pistonsOf_28 : decode prog_1_method_33_code 28 = .ok (.bipush 16, 2) := by decide +kernel
theorem d_oc_pistonsOf_30 : decode prog_1_method_33_code 30 = .ok (.ireturn, 1) := by decide +kernel
theorem d_oc_pistonsOf_31 : decode prog_1_method_33_code 31 = .ok (.bipush 25, 2) := by decide +kernel
theorem d_oc_pistonsOf_33 : decode prog_1_method_33_code 33 = .ok (.ireturn, 1) := by decide +kernel
theorem d_oc_pistonsOf_34 : decode prog_1_method_33_code 34 = .ok (.aload_n 0, 1) := by decide +kernel
theorem d_oc_pistonsOf_35 : decode prog_1_method_33_code 35 = .ok (.getfield 26, 3) := by decide +kernel
theorem d_oc_pistonsOf_38 : decode prog_1_method_33_code 38 = .ok (.getfield 155, 3) := by decide +kernel
theorem d_oc_pistonsOf_41 : decode prog_1_method_33_code 41 = .ok (.ireturn, 1) := by decide +kernel
theorem d_oc_pistonsOf_42 : decode prog_1_method_33_code 42 = .ok (.iconst 0, 1) := by decide +kernel
theorem d_oc_pistonsOf_43 : decode prog_1_method_33_code 43 = .ok (.ireturn, 1) := by decide +kernel
theorem d_oc_press_0 : decode prog_1_method_8_code 0 = .ok (.aload_n 0, 1) := by decide +kernel
theorem d_oc_press_1 : decode prog_1_method_8_code 1 = .ok (.iload_n 1, 1) := by decide +kernel
theorem d_oc_press_2 : decode prog_1_method_8_code 2 = .ok (.iload_n 2, 1) := by decide +kernel
theorem d_oc_press_3 : decode prog_1_method_8_code 3 = .ok (.invokevirtual 126, 3) := by decide +kernel
theorem d_oc_press_6 : decode prog_1_method_8_code 6 = .ok (.iload_n 1, 1) := by decide +kernel
theorem d_oc_press_7 : decode prog_1_method_8_code 7 = .ok (.iconst 2, 1) := by decide +kernel
theorem d_oc_press_8 : decode prog_1_method_8_code 8 = .ok (.if_icmp .ne 8, 3) := by decide +kernel
theorem d_oc_press_11 : decode prog_1_method_8_code 11 = .ok (.aload_n 0, 1) := by decide +kernel
theorem d_oc_press_12 : decode prog_1_method_8_code 12 = .ok (.iload_n 2, 1) := by decide +kernel
theorem d_oc_press_13 : decode prog_1_method_8_code 13 = .ok (.putfield 45, 3) := by decide +kernel
theorem d_oc_press_16 : decode prog_1_method_8_code 16 = .ok (.aload_n 0, 1) := by decide +kernel
theorem d_oc_press_17 : decode prog_1_method_8_code 17 = .ok (.iload_n 1, 1) := by decide +kernel
theorem d_oc_press_18 : decode prog_1_method_8_code 18 = .ok (.iload_n 2, 1) := by decide +kernel
theorem d_oc_press_19 : decode prog_1_method_8_code 19 = .ok (.invokevirtual 130, 3) := by decide +kernel
theorem d_oc_press_22 : decode prog_1_method_8_code 22 = .ok (.ireturn, 1) := by decide +kernel
theorem d_oc_recallPiston_0 : decode prog_1_method_37_code 0 = .ok (.aload_n 0, 1) := by decide +kernel
theorem d_oc_recallPiston_1 : decode prog_1_method_37_code 1 = .ok (.getfield 19, 3) := by decide +kernel
theorem d_oc_recallPiston_4 : decode prog_1_method_37_code 4 = .ok (.aload_n 0, 1) := by decide +kernel
theorem d_oc_recallPiston_5 : decode prog_1_method_37_code 5 = .ok (.getfield 26, 3) := by decide +kernel
theorem d_oc_recallPiston_8 : decode prog_1_method_37_code 8 = .ok (.getfield 141, 3) := by decide +kernel
theorem d_oc_recallPiston_11 : decode prog_1_method_37_code 11 = .ok (.aload_n 0, 1) := by decide +kernel
theorem d_oc_recallPiston_12 : decode prog_1_method_37_code 12 = .ok (.iload_n 1, 1) := by decide +kernel
theorem d_oc_recallPiston_13 : decode prog_1_method_37_code 13 = .ok (.iload_n 2, 1) := by decide +kernel
theorem d_oc_recallPiston_14 : decode prog_1_method_37_code 14 = .ok (.invokevirtual 144, 3) := by decide +kernel
theorem d_oc_recallPiston_17 : decode prog_1_method_37_code 17 = .ok (.laload, 1) := by decide +kernel
theorem d_oc_recallPiston_18 : decode prog_1_method_37_code 18 = .ok (.aload_n 0, 1) := by decide +kernel
theorem d_oc_recallPiston_19 : decode prog_1_method_37_code 19 = .ok (.iload_n 1, 1) := by decide +kernel
theorem d_oc_recallPiston_20 : decode prog_1_method_37_code 20 = .ok (.iload_n 2, 1) := by decide +kernel
theorem d_oc_recallPiston_21 : decode prog_1_method_37_code 21 = .ok (.invokevirtual 137, 3) := by decide +kernel
theorem d_oc_recallPiston_24 : decode prog_1_method_37_code 24 = .ok (.invokevirtual 307, 3) := by decide +kernel
theorem d_oc_recallPiston_27 : decode prog_1_method_37_code 27 = .ok (.ireturn, 1) := by decide +kernel
theorem d_oc_restart_0 : decode prog_1_method_41_code 0 = .ok (.aload_n 0, 1) := by decide +kernel
theorem d_oc_restart_1 : decode prog_1_method_41_code 1 = .ok (.getfield 33, 3) := by decide +kernel
theorem d_oc_restart_4 : decode prog_1_method_41_code 4 = .ok (.aload_n 0, 1) := by decide +kernel
theorem d_oc_restart_5 : decode prog_1_method_41_code 5 = .ok (.getfield 26, 3) := by decide +kernel
theorem d_oc_restart_8 : decode prog_1_method_41_code 8 = .ok (.invokevirtual 315, 3) := by decide +kernel
theorem d_oc_restart_11 : decode prog_1_method_41_code 11 = .ok (.aload_n 0, 1) := by decide +kernel
theorem d_oc_restart_12 : decode prog_1_method_41_code 12 = .ok (.getfield 19, 3) := by decide +kernel
theorem d_oc_restart_15 : decode prog_1_method_41_code 15 = .ok (.invokevirtual 319, 3) := by decide +kernel
theorem d_oc_restart_18 : decode prog_1_method_41_code 18 = .ok (.aload_n 0, 1) := by decide +kernel
theorem d_oc_restart_19 : decode prog_1_method_41_code 19 = .ok (.iconst 0, 1) := by decide +kernel
theorem d_oc_restart_20 : decode prog_1_method_41_code 20 = .ok (.putfield 41, 3) := by decide +kernel
theorem d_oc_restart_23 : decode prog_1_method_41_code 23 = .ok (.aload_n 0, 1) := by decide +kernel
theorem d_oc_restart_24 : decode prog_1_method_41_code 24 = .ok (.iconst (-1), 1) := by decide +kernel
theorem d_oc_restart_25 : decode prog_1_method_41_code 25 = .ok (.putfield 45, 3) := by decide +kernel
theorem d_oc_restart_28 : decode prog_1_method_41_code 28 = .ok (.aload_n 0, 1) := by decide +kernel
theorem d_oc_restart_29 : decode prog_1_method_41_code 29 = .ok (.iconst 0, 1) := by decide +kernel
theorem d_oc_restart_30 : decode prog_1_method_41_code 30 = .ok (.putfield 51, 3) := by decide +kernel
theorem d_oc_restart_33 : decode prog_1_method_41_code 33 = .ok (.aload_n 0, 1) := by decide +kernel
theorem d_oc_restart_34 : decode prog_1_method_41_code 34 = .ok (.iconst 0, 1) := by decide +kernel
theorem d_oc_restart_35 : decode prog_1_method_41_code 35 = .ok (.putfield 55, 3) := by decide +kernel
theorem d_oc_restart_38 : decode prog_1_method_41_code 38 = .ok (.return_, 1) := by decide +kernel
theorem d_oc_rowOf_0 : decode prog_1_method_35_code 0 = .ok (.iload_n 1, 1) := by decide +kernel
theorem d_oc_rowOf_1 : decode prog_1_method_35_code 1 = .ok (.lookupswitch 45 #[(0, 27), (1, 36)], 27) := by decide +kernel
theorem d_oc_rowOf_28 : decode prog_1_method_35_code 28 = .ok (.aload_n 0, 1) := by decide +kernel
theorem d_oc_rowOf_29 : decode prog_1_method_35_code 29 = .ok (.getfield 41, 3) := by decide +kernel
theorem d_oc_rowOf_32 : decode prog_1_method_35_code 32 = .ok (.iload_n 2, 1) := by decide +kernel
theorem d_oc_rowOf_33 : decode prog_1_method_35_code 33 = .ok (.invokestatic 292, 3) := by decide +kernel
theorem d_oc_rowOf_36 : decode prog_1_method_35_code 36 = .ok (.ireturn, 1) := by decide +kernel
theorem d_oc_rowOf_37 : decode prog_1_method_35_code 37 = .ok (.aload_n 0, 1) := by decide +kernel
theorem d_oc_rowOf_38 : decode prog_1_method_35_code 38 = .ok (.getfield 41, 3) := by decide +kernel
theorem d_oc_rowOf_41 : decode prog_1_method_35_code 41 = .ok (.iload_n 2, 1) := by decide +kernel
theorem d_oc_rowOf_42 : decode prog_1_method_35_code 42 = .ok (.invokestatic 295, 3) := by decide +kernel
theorem d_oc_rowOf_45 : decode prog_1_method_35_code 45 = .ok (.ireturn, 1) := by decide +kernel
theorem d_oc_rowOf_46 : decode prog_1_method_35_code 46 = .ok (.iload_n 2, 1) := by decide +kernel
theorem d_oc_rowOf_47 : decode prog_1_method_35_code 47 = .ok (.invokestatic 298, 3) := by decide +kernel
theorem d_oc_rowOf_50 : decode prog_1_method_35_code 50 = .ok (.ireturn, 1) := by decide +kernel
theorem d_oc_scopeOf_0 : decode prog_1_method_36_code 0 = .ok (.iload_n 1, 1) := by decide +kernel
theorem d_oc_scopeOf_1 : decode prog_1_method_36_code 1 = .ok (.iconst 1, 1) := by decide +kernel
theorem d_oc_scopeOf_2 : decode prog_1_method_36_code 2 = .ok (.if_icmp .ne 17, 3) := by decide +kernel
theorem d_oc_scopeOf_5 : decode prog_1_method_36_code 5 = .ok (.aload_n 0, 1) := by decide +kernel
theorem d_oc_scopeOf_6 : decode prog_1_method_36_code 6 = .ok (.getfield 19, 3) := by decide +kernel
theorem d_oc_scopeOf_9 : decode prog_1_method_36_code 9 = .ok (.getfield 301, 3) := by decide +kernel
theorem d_oc_scopeOf_12 : decode prog_1_method_36_code 12 = .ok (.iload_n 2, 1) := by decide +kernel
theorem d_oc_scopeOf_13 : decode prog_1_method_36_code 13 = .ok (.iconst 5, 1) := by decide +kernel
theorem d_oc_scopeOf_14 : decode prog_1_method_36_code 14 = .ok (.idiv, 1) := by decide +kernel
theorem d_oc_scopeOf_15 : decode prog_1_method_36_code 15 = .ok (.laload, 1) := by decide +kernel
theorem d_oc_scopeOf_16 : decode prog_1_method_36_code 16 = .ok (.goto 10, 3) := by decide +kernel
theorem d_oc_scopeOf_19 : decode prog_1_method_36_code 19 = .ok (.aload_n 0, 1) := by decide +kernel
theorem d_oc_scopeOf_20 : decode prog_1_method_36_code 20 = .ok (.getfield 19, 3) := by decide +kernel
theorem d_oc_scopeOf_23 : decode prog_1_method_36_code 23 = .ok (.invokevirtual 304, 3) := by decide +kernel
theorem d_oc_scopeOf_26 : decode prog_1_method_36_code 26 = .ok (.lreturn, 1) := by decide +kernel
theorem d_oc_set_0 : decode prog_1_method_9_code 0 = .ok (.aload_n 0, 1) := by decide +kernel
theorem d_oc_set_1 : decode prog_1_method_9_code 1 = .ok (.iload_n 1, 1) := by decide +kernel
theorem d_oc_set_2 : decode prog_1_method_9_code 2 = .ok (.iload_n 2, 1) := by decide +kernel
theorem d_oc_set_3 : decode prog_1_method_9_code 3 = .ok (.invokevirtual 126, 3) := by decide +kernel
theorem d_oc_set_6 : decode prog_1_method_9_code 6 = .ok (.aload_n 0, 1) := by decide +kernel
theorem d_oc_set_7 : decode prog_1_method_9_code 7 = .ok (.invokevirtual 134, 3) := by decide +kernel
theorem d_oc_set_10 : decode prog_1_method_9_code 10 = .ok (.aload_n 0, 1) := by decide +kernel
theorem d_oc_set_11 : decode prog_1_method_9_code 11 = .ok (.getfield 19, 3) := by decide +kernel
theorem d_oc_set_14 : decode prog_1_method_9_code 14 = .ok (.getfield 113, 3) := by decide +kernel
theorem d_oc_set_17 : decode prog_1_method_9_code 17 = .ok (.aload_n 0, 1) := by decide +kernel
theorem d_oc_set_18 : decode prog_1_method_9_code 18 = .ok (.iload_n 1, 1) := by decide +kernel
theorem d_oc_set_19 : decode prog_1_method_9_code 19 = .ok (.iload_n 2, 1) := by decide +kernel
theorem d_oc_set_20 : decode prog_1_method_9_code 20 = .ok (.invokevirtual 137, 3) := by decide +kernel
theorem d_oc_set_23 : decode prog_1_method_9_code 23 = .ok (.land, 1) := by decide +kernel
theorem d_oc_set_24 : decode prog_1_method_9_code 24 = .ok (.lstore_n 3, 1) := by decide +kernel
theorem d_oc_set_25 : decode prog_1_method_9_code 25 = .ok (.aload_n 0, 1) := by decide +kernel
theorem d_oc_set_26 : decode prog_1_method_9_code 26 = .ok (.getfield 26, 3) := by decide +kernel
theorem d_oc_set_29 : decode prog_1_method_9_code 29 = .ok (.getfield 141, 3) := by decide +kernel
theorem d_oc_set_32 : decode prog_1_method_9_code 32 = .ok (.aload_n 0, 1) := by decide +kernel
theorem d_oc_set_33 : decode prog_1_method_9_code 33 = .ok (.iload_n 1, 1) := by decide +kernel
theorem d_oc_set_34 : decode prog_1_method_9_code 34 = .ok (.iload_n 2, 1) := by decide +kernel
theorem d_oc_set_35 : decode prog_1_method_9_code 35 = .ok (.invokevirtual 144, 3) := by decide +kernel
theorem d_oc_set_38 : decode prog_1_method_9_code 38 = .ok (.lload_n 3, 1) := by decide +kernel
theorem d_oc_set_39 : decode prog_1_method_9_code 39 = .ok (.lastore, 1) := by decide +kernel
theorem d_oc_set_40 : decode prog_1_method_9_code 40 = .ok (.lload_n 3, 1) := by decide +kernel
theorem d_oc_set_41 : decode prog_1_method_9_code 41 = .ok (.invokestatic 147, 3) := by decide +kernel
theorem d_oc_set_44 : decode prog_1_method_9_code 44 = .ok (.ireturn, 1) := by decide +kernel
theorem d_oc_speaking_0 : decode prog_1_method_38_code 0 = .ok (.aload_n 0, 1) := by decide +kernel
theorem d_oc_speaking_1 : decode prog_1_method_38_code 1 = .ok (.getfield 55, 3) := by decide +kernel
theorem d_oc_speaking_4 : decode prog_1_method_38_code 4 = .ok (.ifCond .eq 13, 3) := by decide +kernel
theorem d_oc_speaking_7 : decode prog_1_method_38_code 7 = .ok (.aload_n 0, 1) := by decide +kernel
theorem d_oc_speaking_8 : decode prog_1_method_38_code 8 = .ok (.getfield 19, 3) := by decide +kernel
theorem d_oc_speaking_11 : decode prog_1_method_38_code 11 = .ok (.invokevirtual 304, 3) := by decide +kernel
theorem d_oc_speaking_14 : decode prog_1_method_38_code 14 = .ok (.goto 22, 3) := by decide +kernel
theorem d_oc_speaking_17 : decode prog_1_method_38_code 17 = .ok (.aload_n 0, 1) := by decide +kernel
theorem d_oc_speaking_18 : decode prog_1_method_38_code 18 = .ok (.getfield 19, 3) := by decide +kernel
theorem d_oc_speaking_21 : decode prog_1_method_38_code 21 = .ok (.getfield 113, 3) := by decide +kernel
theorem d_oc_speaking_24 : decode prog_1_method_38_code 24 = .ok (.aload_n 0, 1) := by decide +kernel
theorem d_oc_speaking_25 : decode prog_1_method_38_code 25 = .ok (.getfield 26, 3) := by decide +kernel
theorem d_oc_speaking_28 : decode prog_1_method_38_code 28 = .ok (.aload_n 0, 1) := by decide +kernel
theorem d_oc_speaking_29 : decode prog_1_method_38_code 29 = .ok (.getfield 48, 3) := by decide +kernel
theorem d_oc_speaking_32 : decode prog_1_method_38_code 32 = .ok (.invokevirtual 311, 3) := by decide +kernel
theorem d_oc_speaking_35 : decode prog_1_method_38_code 35 = .ok (.lor, 1) := by decide +kernel
theorem d_oc_speaking_36 : decode prog_1_method_38_code 36 = .ok (.lreturn, 1) := by decide +kernel
theorem d_oc_spoil_0 : decode prog_1_method_23_code 0 = .ok (.iload_n 1, 1) := by decide +kernel
theorem d_oc_spoil_1 : decode prog_1_method_23_code 1 = .ok (.ifCond .lt 18, 3) := by decide +kernel
theorem d_oc_spoil_4 : decode prog_1_method_23_code 4 = .ok (.iload_n 1, 1) := by decide +kernel
theorem d_oc_spoil_5 : decode prog_1_method_23_code 5 = .ok (.iconst 2, 1) := by decide +kernel
theorem d_oc_spoil_6 : decode prog_1_method_23_code 6 = .ok (.if_icmp .ge 13, 3) := by decide +kernel
theorem d_oc_spoil_9 : decode prog_1_method_23_code 9 = .ok (.iload_n 2, 1) := by decide +kernel
theorem d_oc_spoil_10 : decode prog_1_method_23_code 10 = .ok (.ifCond .lt 9, 3) := by decide +kernel
theorem d_oc_spoil_13 : decode prog_1_method_23_code 13 = .ok (.iload_n 2, 1) := by decide +kernel
theorem d_oc_spoil_14 : decode prog_1_method_23_code 14 = .ok (.bipush 8, 2) := by decide +kernel
theorem d_oc_spoil_16 : decode prog_1_method_23_code 16 = .ok (.if_icmp .le 13, 3) := by decide +kernel
theorem d_oc_spoil_19 : decode prog_1_method_23_code 19 = .ok (.new 93, 3) := by decide +kernel
theorem d_oc_spoil_22 : decode prog_1_method_23_code 22 = .ok (.dup, 1) := by decide +kernel
theorem d_oc_spoil_23 : decode prog_1_method_23_code 23 = .ok (.ldc 228, 2) := by decide +kernel
theorem d_oc_spoil_25 : decode prog_1_method_23_code 25 = .ok (.invokespecial 97, 3) := by decide +kernel
theorem d_oc_spoil_28 : decode prog_1_method_23_code 28 = .ok (.athrow, 1) := by decide +kernel
theorem d_oc_spoil_29 : decode prog_1_method_23_code 29 = .ok (.aload_n 0, 1) := by decide +kernel
theorem d_oc_spoil_30 : decode prog_1_method_23_code 30 = .ok (.getfield 33, 3) := by decide +kernel
theorem d_oc_spoil_33 : decode prog_1_method_23_code 33 = .ok (.iload_n 1, 1) := by decide +kernel
theorem d_oc_spoil_34 : decode prog_1_method_23_code 34 = .ok (.invokevirtual 230, 3) := by decide +kernel
theorem d_oc_spoil_37 : decode prog_1_method_23_code 37 = .ok (.astore_n 3, 1) := by decide +kernel
theorem d_oc_spoil_38 : decode prog_1_method_23_code 38 = .ok (.aload_n 3, 1) := by decide +kernel
theorem d_oc_spoil_39 : decode prog_1_method_23_code 39 = .ok (.getfield 234, 3) := by decide +kernel
theorem d_oc_spoil_42 : decode prog_1_method_23_code 42 = .ok (.iload_n 2, 1) := by decide +kernel
theorem d_oc_spoil_43 : decode prog_1_method_23_code 43 = .ok (.iaload, 1) := by decide +kernel
theorem d_oc_spoil_44 : decode prog_1_method_23_code 44 = .ok (.ifCond .ne 13, 3) := by decide +kernel
theorem d_oc_spoil_47 : decode prog_1_method_23_code 47 = .ok (.new 75, 3) := by decide +kernel
theorem d_oc_spoil_50 : decode prog_1_method_23_code 50 = .ok (.dup, 1) := by decide +kernel
theorem d_oc_spoil_51 : decode prog_1_method_23_code 51 = .ok (.ldc 239, 2) := by decide +kernel
theorem d_oc_spoil_53 : decode prog_1_method_23_code 53 = .ok (.invokespecial 79, 3) := by decide +kernel
theorem d_oc_spoil_56 : decode prog_1_method_23_code 56 = .ok (.athrow, 1) := by decide +kernel
theorem d_oc_spoil_57 : decode prog_1_method_23_code 57 = .ok (.aload_n 3, 1) := by decide +kernel
theorem d_oc_spoil_58 : decode prog_1_method_23_code 58 = .ok (.getfield 241, 3) := by decide +kernel
theorem d_oc_spoil_61 : decode prog_1_method_23_code 61 = .ok (.iload_n 2, 1) := by decide +kernel
theorem d_oc_spoil_62 : decode prog_1_method_23_code 62 = .ok (.aload_n 3, 1) := by decide +kernel
theorem d_oc_spoil_63 : decode prog_1_method_23_code 63 = .ok (.getfield 241, 3) := by decide +kernel
theorem d_oc_spoil_66 : decode prog_1_method_23_code 66 = .ok (.iload_n 2, 1) := by decide +kernel
theorem d_oc_spoil_67 : decode prog_1_method_23_code 67 = .ok (.baload, 1) := by decide +kernel
theorem d_oc_spoil_68 : decode prog_1_method_23_code 68 = .ok (.ifCond .ne 7, 3) := by decide +kernel
theorem d_oc_spoil_71 : decode prog_1_method_23_code 71 = .ok (.iconst 1, 1) := by decide +kernel
theorem d_oc_spoil_72 : decode prog_1_method_23_code 72 = .ok (.goto 4, 3) := by decide +kernel
theorem d_oc_spoil_75 : decode prog_1_method_23_code 75 = .ok (.iconst 0, 1) := by decide +kernel
theorem d_oc_spoil_76 : decode prog_1_method_23_code 76 = .ok (.bastore, 1) := by decide +kernel
theorem d_oc_spoil_77 : decode prog_1_method_23_code 77 = .ok (.aload_n 3, 1) := by decide +kernel
theorem d_oc_spoil_78 : decode prog_1_method_23_code 78 = .ok (.getfield 234, 3) := by decide +kernel
theorem d_oc_spoil_81 : decode prog_1_method_23_code 81 = .ok (.iload_n 2, 1) := by decide +kernel
theorem d_oc_spoil_82 : decode prog_1_method_23_code 82 = .ok (.iaload, 1) := by decide +kernel
theorem d_oc_spoil_83 : decode prog_1_method_23_code 83 = .ok (.ireturn, 1) := by decide +kernel
theorem d_oc_stop_0 : decode prog_1_method_2_code 0 = .ok (.iload_n 1, 1) := by decide +kernel
theorem d_oc_stop_1 : decode prog_1_method_2_code 1 = .ok (.invokestatic 58, 3) := by decide +kernel
theorem d_oc_stop_4 : decode prog_1_method_2_code 4 = .ok (.iload_n 2, 1) := by decide +kernel
theorem d_oc_stop_5 : decode prog_1_method_2_code 5 = .ok (.invokestatic 62, 3) := by decide +kernel
theorem d_oc_stop_8 : decode prog_1_method_2_code 8 = .ok (.iload_n 3, 1) := by decide +kernel
theorem d_oc_stop_9 : decode prog_1_method_2_code 9 = .ok (.ifCond .lt 16, 3) := by decide +kernel
theorem d_oc_stop_12 : decode prog_1_method_2_code 12 = .ok (.iload_n 3, 1) := by decide +kernel
theorem d_oc_stop_13 : decode prog_1_method_2_code 13 = .ok (.iload 4, 2) := by decide +kernel
theorem d_oc_stop_15 : decode prog_1_method_2_code 15 = .ok (.if_icmp .gt 10, 3) := by decide +kernel
theorem d_oc_stop_18 : decode prog_1_method_2_code 18 = .ok (.iload 4, 2) := by decide +kernel
theorem d_oc_stop_20 : decode prog_1_method_2_code 20 = .ok (.bipush 96, 2) := by decide +kernel
theorem d_oc_stop_22 : decode prog_1_method_2_code 22 = .ok (.if_icmp .le 13, 3) := by decide +kernel
theorem d_oc_stop_25 : decode prog_1_method_2_code 25 = .ok (.new 65, 3) := by decide +kernel
theorem d_oc_stop_28 : decode prog_1_method_2_code 28 = .ok (.dup, 1) := by decide +kernel
theorem d_oc_stop_29 : decode prog_1_method_2_code 29 = .ok (.ldc 67, 2) := by decide +kernel
theorem d_oc_stop_31 : decode prog_1_method_2_code 31 = .ok (.invokespecial 69, 3) := by decide +kernel
theorem d_oc_stop_34 : decode prog_1_method_2_code 34 = .ok (.athrow, 1) := by decide +kernel
theorem d_oc_stop_35 : decode prog_1_method_2_code 35 = .ok (.aload_n 0, 1) := by decide +kernel
theorem d_oc_stop_36 : decode prog_1_method_2_code 36 = .ok (.getfield 19, 3) := by decide +kernel
theorem d_oc_stop_39 : decode prog_1_method_2_code 39 = .ok (.getfield 72, 3) := by decide +kernel
theorem d_oc_stop_42 : decode prog_1_method_2_code 42 = .ok (.bipush 48, 2) := by decide +kernel
theorem d_oc_stop_44 : decode prog_1_method_2_code 44 = .ok (.if_icmp .lt 13, 3) := by decide +kernel
theorem d_oc_stop_47 : decode prog_1_method_2_code 47 = .ok (.new 75, 3) := by decide +kernel
theorem d_oc_stop_50 : decode prog_1_method_2_code 50 = .ok (.dup, 1) := by decide +kernel
theorem d_oc_stop_51 : decode prog_1_method_2_code 51 = .ok (.ldc 77, 2) := by decide +kernel
theorem d_oc_stop_53 : decode prog_1_method_2_code 53 = .ok (.invokespecial 79, 3) := by decide +kernel
theorem d_oc_stop_56 : decode prog_1_method_2_code 56 = .ok (.athrow, 1) := by decide +kernel
theorem d_oc_stop_57 : decode prog_1_method_2_code 57 = .ok (.aload_n 0, 1) := by decide +kernel
theorem d_oc_stop_58 : decode prog_1_method_2_code 58 = .ok (.getfield 19, 3) := by decide +kernel
theorem d_oc_stop_61 : decode prog_1_method_2_code 61 = .ok (.iload_n 1, 1) := by decide +kernel
theorem d_oc_stop_62 : decode prog_1_method_2_code 62 = .ok (.iload_n 2, 1) := by decide +kernel
theorem d_oc_stop_63 : decode prog_1_method_2_code 63 = .ok (.iload_n 3, 1) := by decide +kernel
theorem d_oc_stop_64 : decode prog_1_method_2_code 64 = .ok (.iload 4, 2) := by decide +kernel
theorem d_oc_stop_66 : decode prog_1_method_2_code 66 = .ok (.invokevirtual 80, 3) := by decide +kernel
theorem d_oc_stop_69 : decode prog_1_method_2_code 69 = .ok (.ireturn, 1) := by decide +kernel
theorem d_oc_tab_0 : decode prog_1_method_6_code 0 = .ok (.iload_n 1, 1) := by decide +kernel
theorem d_oc_tab_1 : decode prog_1_method_6_code 1 = .ok (.ifCond .lt 14, 3) := by decide +kernel
theorem d_oc_tab_4 : decode prog_1_method_6_code 4 = .ok (.iload_n 1, 1) := by decide +kernel
theorem d_oc_tab_5 : decode prog_1_method_6_code 5 = .ok (.aload_n 0, 1) := by decide +kernel
theorem d_oc_tab_6 : decode prog_1_method_6_code 6 = .ok (.getfield 10, 3) := by decide +kernel
theorem d_oc_tab_9 : decode prog_1_method_6_code 9 = .ok (.getfield 84, 3) := by decide +kernel
theorem d_oc_tab_12 : decode prog_1_method_6_code 12 = .ok (.if_icmp .lt 13, 3) := by decide +kernel
theorem d_oc_tab_15 : decode prog_1_method_6_code 15 = .ok (.new 93, 3) := by decide +kernel
theorem d_oc_tab_18 : decode prog_1_method_6_code 18 = .ok (.dup, 1) := by decide +kernel
theorem d_oc_tab_19 : decode prog_1_method_6_code 19 = .ok (.ldc 121, 2) := by decide +kernel
theorem d_oc_tab_21 : decode prog_1_method_6_code 21 = .ok (.invokespecial 97, 3) := by decide +kernel
theorem d_oc_tab_24 : decode prog_1_method_6_code 24 = .ok (.athrow, 1) := by decide +kernel
theorem d_oc_tab_25 : decode prog_1_method_6_code 25 = .ok (.aload_n 0, 1) := by decide +kernel
theorem d_oc_tab_26 : decode prog_1_method_6_code 26 = .ok (.getfield 10, 3) := by decide +kernel
theorem d_oc_tab_29 : decode prog_1_method_6_code 29 = .ok (.getfield 123, 3) := by decide +kernel
theorem d_oc_tab_32 : decode prog_1_method_6_code 32 = .ok (.iload_n 1, 1) := by decide +kernel
theorem d_oc_tab_33 : decode prog_1_method_6_code 33 = .ok (.invokestatic 102, 3) := by decide +kernel
theorem d_oc_tab_36 : decode prog_1_method_6_code 36 = .ok (.istore_n 3, 1) := by decide +kernel
theorem d_oc_tab_37 : decode prog_1_method_6_code 37 = .ok (.aload_n 0, 1) := by decide +kernel
theorem d_oc_tab_38 : decode prog_1_method_6_code 38 = .ok (.getfield 10, 3) := by decide +kernel
theorem d_oc_tab_41 : decode prog_1_method_6_code 41 = .ok (.aload_n 0, 1) := by decide +kernel
theorem d_oc_tab_42 : decode prog_1_method_6_code 42 = .ok (.getfield 10, 3) := by decide +kernel
theorem d_oc_tab_45 : decode prog_1_method_6_code 45 = .ok (.getfield 123, 3) := by decide +kernel
theorem d_oc_tab_48 : decode prog_1_method_6_code 48 = .ok (.iload_n 1, 1) := by decide +kernel
theorem d_oc_tab_49 : decode prog_1_method_6_code 49 = .ok (.iload_n 2, 1) := by decide +kernel
theorem d_oc_tab_50 : decode prog_1_method_6_code 50 = .ok (.invokestatic 106, 3) := by decide +kernel
theorem d_oc_tab_53 : decode prog_1_method_6_code 53 = .ok (.putfield 123, 3) := by decide +kernel
theorem d_oc_tab_56 : decode prog_1_method_6_code 56 = .ok (.iload_n 3, 1) := by decide +kernel
theorem d_oc_tab_57 : decode prog_1_method_6_code 57 = .ok (.iload_n 2, 1) := by decide +kernel
theorem d_oc_tab_58 : decode prog_1_method_6_code 58 = .ok (.if_icmp .eq 7, 3) := by decide +kernel
theorem d_oc_tab_61 : decode prog_1_method_6_code 61 = .ok (.iconst 1, 1) := by decide +kernel
theorem d_oc_tab_62 : decode prog_1_method_6_code 62 = .ok (.goto 4, 3) := by decide +kernel
theorem d_oc_tab_65 : decode prog_1_method_6_code 65 = .ok (.iconst 0, 1) := by decide +kernel
theorem d_oc_tab_66 : decode prog_1_method_6_code 66 = .ok (.ireturn, 1) := by decide +kernel
theorem d_oc_test_0 : decode prog_1_method_25_code 0 = .ok (.aload_n 0, 1) := by decide +kernel
theorem d_oc_test_1 : decode prog_1_method_25_code 1 = .ok (.getfield 37, 3) := by decide +kernel
theorem d_oc_test_4 : decode prog_1_method_25_code 4 = .ok (.bipush 40, 2) := by decide +kernel
theorem d_oc_test_6 : decode prog_1_method_25_code 6 = .ok (.invokestatic 253, 3) := by decide +kernel
theorem d_oc_test_9 : decode prog_1_method_25_code 9 = .ok (.istore_n 1, 1) := by decide +kernel
theorem d_oc_test_10 : decode prog_1_method_25_code 10 = .ok (.iload_n 1, 1) := by decide +kernel
theorem d_oc_test_11 : decode prog_1_method_25_code 11 = .ok (.iconst (-1), 1) := by decide +kernel
theorem d_oc_test_12 : decode prog_1_method_25_code 12 = .ok (.if_icmp .eq 14, 3) := by decide +kernel
theorem d_oc_test_15 : decode prog_1_method_25_code 15 = .ok (.iconst 2, 1) := by decide +kernel
theorem d_oc_test_16 : decode prog_1_method_25_code 16 = .ok (.iload_n 1, 1) := by decide +kernel
theorem d_oc_test_17 : decode prog_1_method_25_code 17 = .ok (.imul, 1) := by decide +kernel
theorem d_oc_test_18 : decode prog_1_method_25_code 18 = .ok (.aload_n 0, 1) := by decide +kernel
theorem d_oc_test_19 : decode prog_1_method_25_code 19 = .ok (.getfield 37, 3) := by decide +kernel
theorem d_oc_test_22 : decode prog_1_method_25_code 22 = .ok (.iload_n 1, 1) := by decide +kernel
theorem d_oc_test_23 : decode prog_1_method_25_code 23 = .ok (.iaload, 1) := by decide +kernel
theorem d_oc_test_24 : decode prog_1_method_25_code 24 = .ok (.iadd, 1) := by decide +kernel
theorem d_oc_test_25 : decode prog_1_method_25_code 25 = .ok (.ireturn, 1) := by decide +kernel
theorem d_oc_test_26 : decode prog_1_method_25_code 26 = .ok (.aload_n 0, 1) := by decide +kernel
theorem d_oc_test_27 : decode prog_1_method_25_code 27 = .ok (.getfield 19, 3) := by decide +kernel
theorem d_oc_test_30 : decode prog_1_method_25_code 30 = .ok (.getfield 250, 3) := by decide +kernel
theorem d_oc_test_33 : decode prog_1_method_25_code 33 = .ok (.aload_n 0, 1) := by decide +kernel
theorem d_oc_test_34 : decode prog_1_method_25_code 34 = .ok (.getfield 19, 3) := by decide +kernel
theorem d_oc_test_37 : decode prog_1_method_25_code 37 = .ok (.getfield 72, 3) := by decide +kernel
theorem d_oc_test_40 : decode prog_1_method_25_code 40 = .ok (.invokestatic 253, 3) := by decide +kernel
theorem d_oc_test_43 : decode prog_1_method_25_code 43 = .ok (.istore_n 2, 1) := by decide +kernel
theorem d_oc_test_44 : decode prog_1_method_25_code 44 = .ok (.iload_n 2, 1) := by decide +kernel
theorem d_oc_test_45 : decode prog_1_method_25_code 45 = .ok (.iconst (-1), 1) := by decide +kernel
theorem d_oc_test_46 : decode prog_1_method_25_code 46 = .ok (.if_icmp .eq 20, 3) := by decide +kernel
theorem d_oc_test_49 : decode prog_1_method_25_code 49 = .ok (.bipush 100, 2) := by decide +kernel
theorem d_oc_test_51 : decode prog_1_method_25_code 51 = .ok (.iconst 2, 1) := by decide +kernel
theorem d_oc_test_52 : decode prog_1_method_25_code 52 = .ok (.iload_n 2, 1) := by decide +kernel
theorem d_oc_test_53 : decode prog_1_method_25_code 53 = .ok (.imul, 1) := by decide +kernel
theorem d_oc_test_54 : decode prog_1_method_25_code 54 = .ok (.iadd, 1) := by decide +kernel
theorem d_oc_test_55 : decode prog_1_method_25_code 55 = .ok (.aload_n 0, 1) := by decide +kernel
theorem d_oc_test_56 : decode prog_1_method_25_code 56 = .ok (.getfield 19, 3) := by decide +kernel
theorem d_oc_test_59 : decode prog_1_method_25_code 59 = .ok (.getfield 250, 3) := by decide +kernel
theorem d_oc_test_62 : decode prog_1_method_25_code 62 = .ok (.iload_n 2, 1) := by decide +kernel
theorem d_oc_test_63 : decode prog_1_method_25_code 63 = .ok (.iaload, 1) := by decide +kernel
theorem d_oc_test_64 : decode prog_1_method_25_code 64 = .ok (.iadd, 1) := by decide +kernel
theorem d_oc_test_65 : decode prog_1_method_25_code 65 = .ok (.ireturn, 1) := by decide +kernel
theorem d_oc_test_66 : decode prog_1_method_25_code 66 = .ok (.iconst 0, 1) := by decide +kernel
theorem d_oc_test_67 : decode prog_1_method_25_code 67 = .ok (.ireturn, 1) := by decide +kernel
theorem d_oc_tick_0 : decode prog_1_method_17_code 0 = .ok (.iload_n 1, 1) := by decide +kernel
theorem d_oc_tick_1 : decode prog_1_method_17_code 1 = .ok (.ifCond .lt 9, 3) := by decide +kernel
theorem d_oc_tick_4 : decode prog_1_method_17_code 4 = .ok (.iload_n 1, 1) := by decide +kernel
theorem d_oc_tick_5 : decode prog_1_method_17_code 5 = .ok (.bipush 100, 2) := by decide +kernel
theorem d_oc_tick_7 : decode prog_1_method_17_code 7 = .ok (.if_icmp .le 13, 3) := by decide +kernel
theorem d_oc_tick_10 : decode prog_1_method_17_code 10 = .ok (.new 65, 3) := by decide +kernel
theorem d_oc_tick_13 : decode prog_1_method_17_code 13 = .ok (.dup, 1) := by decide +kernel
theorem d_oc_tick_14 : decode prog_1_method_17_code 14 = .ok (.ldc 179, 2) := by decide +kernel
theorem d_oc_tick_16 : decode prog_1_method_17_code 16 = .ok (.invokespecial 69, 3) := by decide +kernel
theorem d_oc_tick_19 : decode prog_1_method_17_code 19 = .ok (.athrow, 1) := by decide +kernel
theorem d_oc_tick_20 : decode prog_1_method_17_code 20 = .ok (.aload_n 0, 1) := by decide +kernel
theorem d_oc_tick_21 : decode prog_1_method_17_code 21 = .ok (.getfield 19, 3) := by decide +kernel
theorem d_oc_tick_24 : decode prog_1_method_17_code 24 = .ok (.iload_n 1, 1) := by decide +kernel
theorem d_oc_tick_25 : decode prog_1_method_17_code 25 = .ok (.invokevirtual 181, 3) := by decide +kernel
theorem d_oc_tick_28 : decode prog_1_method_17_code 28 = .ok (.ireturn, 1) := by decide +kernel
theorem d_oc_windedPipes_0 : decode prog_1_method_39_code 0 = .ok (.aload_n 0, 1) := by decide +kernel
theorem d_oc_windedPipes_1 : decode prog_1_method_39_code 1 = .ok (.getfield 19, 3) := by decide +kernel
theorem d_oc_windedPipes_4 : decode prog_1_method_39_code 4 = .ok (.getfield 202, 3) := by decide +kernel
theorem d_oc_windedPipes_7 : decode prog_1_method_39_code 7 = .ok (.iload_n 1, 1) := by decide +kernel
theorem d_oc_windedPipes_8 : decode prog_1_method_39_code 8 = .ok (.iaload, 1) := by decide +kernel
theorem d_oc_windedPipes_9 : decode prog_1_method_39_code 9 = .ok (.istore_n 2, 1) := by decide +kernel
theorem d_oc_windedPipes_10 : decode prog_1_method_39_code 10 = .ok (.aload_n 0, 1) := by decide +kernel
theorem d_oc_windedPipes_11 : decode prog_1_method_39_code 11 = .ok (.getfield 10, 3) := by decide +kernel
theorem d_oc_windedPipes_14 : decode prog_1_method_39_code 14 = .ok (.aload_n 0, 1) := by decide +kernel
theorem d_oc_windedPipes_15 : decode prog_1_method_39_code 15 = .ok (.getfield 19, 3) := by decide +kernel
theorem d_oc_windedPipes_18 : decode prog_1_method_39_code 18 = .ok (.getfield 205, 3) := by decide +kernel
theorem d_oc_windedPipes_21 : decode prog_1_method_39_code 21 = .ok (.iload_n 1, 1) := by decide +kernel
theorem d_oc_windedPipes_22 : decode prog_1_method_39_code 22 = .ok (.iaload, 1) := by decide +kernel
theorem d_oc_windedPipes_23 : decode prog_1_method_39_code 23 = .ok (.aload_n 0, 1) := by decide +kernel
theorem d_oc_windedPipes_24 : decode prog_1_method_39_code 24 = .ok (.getfield 19, 3) := by decide +kernel
theorem d_oc_windedPipes_27 : decode prog_1_method_39_code 27 = .ok (.getfield 196, 3) := by decide +kernel
theorem d_oc_windedPipes_30 : decode prog_1_method_39_code 30 = .ok (.iload_n 1, 1) := by decide +kernel
theorem d_oc_windedPipes_31 : decode prog_1_method_39_code 31 = .ok (.iaload, 1) := by decide +kernel
theorem d_oc_windedPipes_32 : decode prog_1_method_39_code 32 = .ok (.iload_n 2, 1) := by decide +kernel
theorem d_oc_windedPipes_33 : decode prog_1_method_39_code 33 = .ok (.isub, 1) := by decide +kernel
theorem d_oc_windedPipes_34 : decode prog_1_method_39_code 34 = .ok (.aload_n 0, 1) := by decide +kernel
theorem d_oc_windedPipes_35 : decode prog_1_method_39_code 35 = .ok (.getfield 19, 3) := by decide +kernel
theorem d_oc_windedPipes_38 : decode prog_1_method_39_code 38 = .ok (.getfield 199, 3) := by decide +kernel
theorem d_oc_windedPipes_41 : decode prog_1_method_39_code 41 = .ok (.iload_n 1, 1) := by decide +kernel
theorem d_oc_windedPipes_42 : decode prog_1_method_39_code 42 = .ok (.iaload, 1) := by decide +kernel
theorem d_oc_windedPipes_43 : decode prog_1_method_39_code 43 = .ok (.iload_n 2, 1) := by decide +kernel
theorem d_oc_windedPipes_44 : decode prog_1_method_39_code 44 = .ok (.isub, 1) := by decide +kernel
theorem d_oc_windedPipes_45 : decode prog_1_method_39_code 45 = .ok (.invokevirtual 208, 3) := by decide +kernel
theorem d_oc_windedPipes_48 : decode prog_1_method_39_code 48 = .ok (.ireturn, 1) := by decide +kernel
theorem d_oc_wiresOf_0 : decode prog_1_method_34_code 0 = .ok (.iload_n 1, 1) := by decide +kernel
theorem d_oc_wiresOf_1 : decode prog_1_method_34_code 1 = .ok (.lookupswitch 38 #[(0, 27), (1, 30)], 27) := by decide +kernel
theorem d_oc_wiresOf_28 : decode prog_1_method_34_code 28 = .ok (.bipush 40, 2) := by decide +kernel
theorem d_oc_wiresOf_30 : decode prog_1_method_34_code 30 = .ok (.ireturn, 1) := by decide +kernel
theorem d_oc_wiresOf_31 : decode prog_1_method_34_code 31 = .ok (.aload_n 0, 1) := by decide +kernel
theorem d_oc_wiresOf_32 : decode prog_1_method_34_code 32 = .ok (.getfield 19, 3) := by decide +kernel
theorem d_oc_wiresOf_35 : decode prog_1_method_34_code 35 = .ok (.getfield 72, 3) := by decide +kernel
theorem d_oc_wiresOf_38 : decode prog_1_method_34_code 38 = .ok (.ireturn, 1) := by decide +kernel
theorem d_oc_wiresOf_39 : decode prog_1_method_34_code 39 = .ok (.iconst 0, 1) := by decide +kernel
theorem d_oc_wiresOf_40 : decode prog_1_method_34_code 40 = .ok (.ireturn, 1) := by decide +kernel
theorem d_oc_with_0 : decode prog_1_method_44_code 0 = .ok (.lconst 1, 1) := by decide +kernel
theorem d_oc_with_1 : decode prog_1_method_44_code 1 = .ok (.iload_n 2, 1) := by decide +kernel
theorem d_oc_with_2 : decode prog_1_method_44_code 2 = .ok (.lshl, 1) := by decide +kernel
theorem d_oc_with_3 : decode prog_1_method_44_code 3 = .ok (.lstore 4, 2) := by decide +kernel
theorem d_oc_with_5 : decode prog_1_method_44_code 5 = .ok (.iload_n 3, 1) := by decide +kernel
theorem d_oc_with_6 : decode prog_1_method_44_code 6 = .ok (.ifCond .eq 10, 3) := by decide +kernel
theorem d_oc_with_9 : decode prog_1_method_44_code 9 = .ok (.lload_n 0, 1) := by decide +kernel
theorem d_oc_with_10 : decode prog_1_method_44_code 10 = .ok (.lload 4, 2) := by decide +kernel
theorem d_oc_with_12 : decode prog_1_method_44_code 12 = .ok (.lor, 1) := by decide +kernel
theorem d_oc_with_13 : decode prog_1_method_44_code 13 = .ok (.goto 11, 3) := by decide +kernel
theorem d_oc_with_16 : decode prog_1_method_44_code 16 = .ok (.lload_n 0, 1) := by decide +kernel
theorem d_oc_with_17 : decode prog_1_method_44_code 17 = .ok (.lload 4, 2) := by decide +kernel
theorem d_oc_with_19 : decode prog_1_method_44_code 19 = .ok (.ldc2_w 322, 3) := by decide +kernel
theorem d_oc_with_22 : decode prog_1_method_44_code 22 = .ok (.lxor, 1) := by decide +kernel
theorem d_oc_with_23 : decode prog_1_method_44_code 23 = .ok (.land, 1) := by decide +kernel
theorem d_oc_with_24 : decode prog_1_method_44_code 24 = .ok (.lreturn, 1) := by decide +kernel
theorem d_jo_init_0 : decode object_method_1_code 0 = .ok (.return_, 1) := by decide +kernel
theorem d_ke_addCoupler_0 : decode prog_3_method_2_code 0 = .ok (.aload_n 0, 1) := by decide +kernel
theorem d_ke_addCoupler_1 : decode prog_3_method_2_code 1 = .ok (.getfield 25, 3) := by decide +kernel
theorem d_ke_addCoupler_4 : decode prog_3_method_2_code 4 = .ok (.istore 4, 2) := by decide +kernel
theorem d_ke_addCoupler_6 : decode prog_3_method_2_code 6 = .ok (.aload_n 0, 1) := by decide +kernel
theorem d_ke_addCoupler_7 : decode prog_3_method_2_code 7 = .ok (.getfield 15, 3) := by decide +kernel
theorem d_ke_addCoupler_10 : decode prog_3_method_2_code 10 = .ok (.iload 4, 2) := by decide +kernel
theorem d_ke_addCoupler_12 : decode prog_3_method_2_code 12 = .ok (.iload_n 1, 1) := by decide +kernel
theorem d_ke_addCoupler_13 : decode prog_3_method_2_code 13 = .ok (.iastore, 1) := by decide +kernel
theorem d_ke_addCoupler_14 : decode prog_3_method_2_code 14 = .ok (.aload_n 0, 1) := by decide +kernel
theorem d_ke_addCoupler_15 : decode prog_3_method_2_code 15 = .ok (.getfield 19, 3) := by decide +kernel
theorem d_ke_addCoupler_18 : decode prog_3_method_2_code 18 = .ok (.iload 4, 2) := by decide +kernel
theorem d_ke_addCoupler_20 : decode prog_3_method_2_code 20 = .ok (.iload_n 2, 1) := by decide +kernel
theorem d_ke_addCoupler_21 : decode prog_3_method_2_code 21 = .ok (.iastore, 1) := by decide +kernel
theorem d_ke_addCoupler_22 : decode prog_3_method_2_code 22 = .ok (.aload_n 0, 1) := by decide +kernel
theorem d_ke_addCoupler_23 : decode prog_3_method_2_code 23 = .ok (.getfield 22, 3) := by decide +kernel
theorem d_ke_addCoupler_26 : decode prog_3_method_2_code 26 = .ok (.iload 4, 2) := by decide +kernel
theorem d_ke_addCoupler_28 : decode prog_3_method_2_code 28 = .ok (.iload_n 3, 1) := by decide +kernel
theorem d_ke_addCoupler_29 : decode prog_3_method_2_code 29 = .ok (.iastore, 1) := by decide +kernel
theorem d_ke_addCoupler_30 : decode prog_3_method_2_code 30 = .ok (.aload_n 0, 1) := by decide +kernel
theorem d_ke_addCoupler_31 : decode prog_3_method_2_code 31 = .ok (.dup, 1) := by decide +kernel
theorem d_ke_addCoupler_32 : decode prog_3_method_2_code 32 = .ok (.getfield 25, 3) := by decide +kernel
theorem d_ke_addCoupler_35 : decode prog_3_method_2_code 35 = .ok (.iconst 1, 1) := by decide +kernel
theorem d_ke_addCoupler_36 : decode prog_3_method_2_code 36 = .ok (.iadd, 1) := by decide +kernel
theorem d_ke_addCoupler_37 : decode prog_3_method_2_code 37 = .ok (.putfield 25, 3) := by decide +kernel
theorem d_ke_addCoupler_40 : decode prog_3_method_2_code 40 = .ok (.iload 4, 2) := by decide +kernel
theorem d_ke_addCoupler_42 : decode prog_3_method_2_code 42 = .ok (.ireturn, 1) := by decide +kernel
theorem d_ke_init_0 : decode prog_3_method_1_code 0 = .ok (.aload_n 0, 1) := by decide +kernel
theorem d_ke_init_1 : decode prog_3_method_1_code 1 = .ok (.invokespecial 3, 3) := by decide +kernel
theorem d_ke_init_4 : decode prog_3_method_1_code 4 = .ok (.aload_n 0, 1) := by decide +kernel
theorem d_ke_init_5 : decode prog_3_method_1_code 5 = .ok (.iconst 5, 1) := by decide +kernel
theorem d_ke_init_6 : decode prog_3_method_1_code 6 = .ok (.newarray .long, 2) := by decide +kernel
theorem d_ke_init_8 : decode prog_3_method_1_code 8 = .ok (.putfield 9, 3) := by decide +kernel
theorem d_ke_init_11 : decode prog_3_method_1_code 11 = .ok (.aload_n 0, 1) := by decide +kernel
theorem d_ke_init_12 : decode prog_3_method_1_code 12 = .ok (.bipush 16, 2) := by decide +kernel
theorem d_ke_init_14 : decode prog_3_method_1_code 14 = .ok (.newarray .int, 2) := by decide +kernel
theorem d_ke_init_16 : decode prog_3_method_1_code 16 = .ok (.putfield 15, 3) := by decide +kernel
theorem d_ke_init_19 : decode prog_3_method_1_code 19 = .ok (.aload_n 0, 1) := by decide +kernel
theorem d_ke_init_20 : decode prog_3_method_1_code 20 = .ok (.bipush 16, 2) := by decide +kernel
theorem d_ke_init_22 : decode prog_3_method_1_code 22 = .ok (.newarray .int, 2) := by decide +kernel
theorem d_ke_init_24 : decode prog_3_method_1_code 24 = .ok (.putfield 19, 3) := by decide +kernel
theorem d_ke_init_27 : decode prog_3_method_1_code 27 = .ok (.aload_n 0, 1) := by decide +kernel
theorem d_ke_init_28 : decode prog_3_method_1_code 28 = .ok (.bipush 16, 2) := by decide +kernel
theorem d_ke_init_30 : decode prog_3_method_1_code 30 = .ok (.newarray .int, 2) := by decide +kernel
theorem d_ke_init_32 : decode prog_3_method_1_code 32 = .ok (.putfield 22, 3) := by decide +kernel
theorem d_ke_init_35 : decode prog_3_method_1_code 35 = .ok (.aload_n 0, 1) := by decide +kernel
theorem d_ke_init_36 : decode prog_3_method_1_code 36 = .ok (.iconst 0, 1) := by decide +kernel
theorem d_ke_init_37 : decode prog_3_method_1_code 37 = .ok (.putfield 25, 3) := by decide +kernel
theorem d_ke_init_40 : decode prog_3_method_1_code 40 = .ok (.aload_n 0, 1) := by decide +kernel
theorem d_ke_init_41 : decode prog_3_method_1_code 41 = .ok (.lconst 0, 1) := by decide +kernel
theorem d_ke_init_42 : decode prog_3_method_1_code 42 = .ok (.putfield 29, 3) := by decide +kernel
theorem d_ke_init_45 : decode prog_3_method_1_code 45 = .ok (.return_, 1) := by decide +kernel
theorem d_ke_keysDown_0 : decode prog_3_method_3_code 0 = .ok (.iconst 0, 1) := by decide +kernel
theorem d_ke_keysDown_1 : decode prog_3_method_3_code 1 = .ok (.istore_n 1, 1) := by decide +kernel
theorem d_ke_keysDown_2 : decode prog_3_method_3_code 2 = .ok (.iconst 0, 1) := by decide +kernel
theorem d_ke_keysDown_3 : decode prog_3_method_3_code 3 = .ok (.istore_n 2, 1) := by decide +kernel
theorem d_ke_keysDown_4 : decode prog_3_method_3_code 4 = .ok (.iload_n 2, 1) := by decide +kernel
theorem d_ke_keysDown_5 : decode prog_3_method_3_code 5 = .ok (.iconst 5, 1) := by decide +kernel
theorem d_ke_keysDown_6 : decode prog_3_method_3_code 6 = .ok (.if_icmp .ge 21, 3) := by decide +kernel
theorem d_ke_keysDown_9 : decode prog_3_method_3_code 9 = .ok (.iload_n 1, 1) := by decide +kernel
theorem d_ke_keysDown_10 : decode prog_3_method_3_code 10 = .ok (.aload_n 0, 1) := by decide +kernel
theorem d_ke_keysDown_11 : decode prog_3_method_3_code 11 = .ok (.getfield 9, 3) := by decide +kernel
theorem d_ke_keysDown_14 : decode prog_3_method_3_code 14 = .ok (.iload_n 2, 1) := by decide +kernel
theorem d_ke_keysDown_15 : decode prog_3_method_3_code 15 = .ok (.laload, 1) := by decide +kernel
theorem d_ke_keysDown_16 : decode prog_3_method_3_code 16 = .ok (.invokestatic 33, 3) := by decide +kernel
theorem d_ke_keysDown_19 : decode prog_3_method_3_code 19 = .ok (.iadd, 1) := by decide +kernel
theorem d_ke_keysDown_20 : decode prog_3_method_3_code 20 = .ok (.istore_n 1, 1) := by decide +kernel
theorem d_ke_keysDown_21 : decode prog_3_method_3_code 21 = .ok (.iinc 2 1, 3) := by decide +kernel
theorem d_ke_keysDown_24 : decode prog_3_method_3_code 24 = .ok (.goto (-20), 3) := by decide +kernel
theorem d_ke_keysDown_27 : decode prog_3_method_3_code 27 = .ok (.iload_n 1, 1) := by decide +kernel
theorem d_ke_keysDown_28 : decode prog_3_method_3_code 28 = .ok (.ireturn, 1) := by decide +kernel
theorem d_ke_notesReached_0 : decode prog_3_method_4_code 0 = .ok (.iconst 0, 1) := by decide +kernel
theorem d_ke_notesReached_1 : decode prog_3_method_4_code 1 = .ok (.istore_n 1, 1) := by decide +kernel
theorem d_ke_notesReached_2 : decode prog_3_method_4_code 2 = .ok (.iconst 0, 1) := by decide +kernel
theorem d_ke_notesReached_3 : decode prog_3_method_4_code 3 = .ok (.istore_n 2, 1) := by decide +kernel
theorem d_ke_notesReached_4 : decode prog_3_method_4_code 4 = .ok (.iload_n 2, 1) := by decide +kernel
theorem d_ke_notesReached_5 : decode prog_3_method_4_code 5 = .ok (.iconst 5, 1) := by decide +kernel
theorem d_ke_notesReached_6 : decode prog_3_method_4_code 6 = .ok (.if_icmp .ge 20, 3) := by decide +kernel
theorem d_ke_notesReached_9 : decode prog_3_method_4_code 9 = .ok (.iload_n 1, 1) := by decide +kernel
theorem d_ke_notesReached_10 : decode prog_3_method_4_code 10 = .ok (.aload_n 0, 1) := by decide +kernel
theorem d_ke_notesReached_11 : decode prog_3_method_4_code 11 = .ok (.iload_n 2, 1) := by decide +kernel
theorem d_ke_notesReached_12 : decode prog_3_method_4_code 12 = .ok (.iconst 0, 1) := by decide +kernel
theorem d_ke_notesReached_13 : decode prog_3_method_4_code 13 = .ok (.bipush 96, 2) := by decide +kernel
theorem d_ke_notesReached_15 : decode prog_3_method_4_code 15 = .ok (.invokevirtual 39, 3) := by decide +kernel
theorem d_ke_notesReached_18 : decode prog_3_method_4_code 18 = .ok (.iadd, 1) := by decide +kernel
theorem d_ke_notesReached_19 : decode prog_3_method_4_code 19 = .ok (.istore_n 1, 1) := by decide +kernel
theorem d_ke_notesReached_20 : decode prog_3_method_4_code 20 = .ok (.iinc 2 1, 3) := by decide +kernel
theorem d_ke_notesReached_23 : decode prog_3_method_4_code 23 = .ok (.goto (-19), 3) := by decide +kernel
theorem d_ke_notesReached_26 : decode prog_3_method_4_code 26 = .ok (.iload_n 1, 1) := by decide +kernel
theorem d_ke_notesReached_27 : decode prog_3_method_4_code 27 = .ok (.ireturn, 1) := by decide +kernel
theorem d_ke_reached_0 : decode prog_3_method_6_code 0 = .ok (.aload_n 0, 1) := by decide +kernel
theorem d_ke_reached_1 : decode prog_3_method_6_code 1 = .ok (.getfield 9, 3) := by decide +kernel
theorem d_ke_reached_4 : decode prog_3_method_6_code 4 = .ok (.iload_n 1, 1) := by decide +kernel
theorem d_ke_reached_5 : decode prog_3_method_6_code 5 = .ok (.laload, 1) := by decide +kernel
theorem d_ke_reached_6 : decode prog_3_method_6_code 6 = .ok (.iconst 0, 1) := by decide +kernel
theorem d_ke_reached_7 : decode prog_3_method_6_code 7 = .ok (.iload_n 2, 1) := by decide +kernel
theorem d_ke_reached_8 : decode prog_3_method_6_code 8 = .ok (.invokestatic 51, 3) := by decide +kernel
theorem d_ke_reached_11 : decode prog_3_method_6_code 11 = .ok (.lstore_n 3, 1) := by decide +kernel
theorem d_ke_reached_12 : decode prog_3_method_6_code 12 = .ok (.iconst 0, 1) := by decide +kernel
theorem d_ke_reached_13 : decode prog_3_method_6_code 13 = .ok (.istore 5, 2) := by decide +kernel
theorem d_ke_reached_15 : decode prog_3_method_6_code 15 = .ok (.iload 5, 2) := by decide +kernel
theorem d_ke_reached_17 : decode prog_3_method_6_code 17 = .ok (.aload_n 0, 1) := by decide +kernel
theorem d_ke_reached_18 : decode prog_3_method_6_code 18 = .ok (.getfield 25, 3) := by decide +kernel
theorem d_ke_reached_21 : decode prog_3_method_6_code 21 = .ok (.if_icmp .ge 58, 3) := by decide +kernel
theorem d_ke_reached_24 : decode prog_3_method_6_code 24 = .ok (.aload_n 0, 1) := by decide +kernel
theorem d_ke_reached_25 : decode prog_3_method_6_code 25 = .ok (.getfield 19, 3) := by decide +kernel
theorem d_ke_reached_28 : decode prog_3_method_6_code 28 = .ok (.iload 5, 2) := by decide +kernel
theorem d_ke_reached_30 : decode prog_3_method_6_code 30 = .ok (.iaload, 1) := by decide +kernel
theorem d_ke_reached_31 : decode prog_3_method_6_code 31 = .ok (.iload_n 1, 1) := by decide +kernel
theorem d_ke_reached_32 : decode prog_3_method_6_code 32 = .ok (.if_icmp .ne 41, 3) := by decide +kernel
theorem d_ke_reached_35 : decode prog_3_method_6_code 35 = .ok (.aload_n 0, 1) := by decide +kernel
theorem d_ke_reached_36 : decode prog_3_method_6_code 36 = .ok (.getfield 29, 3) := by decide +kernel
theorem d_ke_reached_39 : decode prog_3_method_6_code 39 = .ok (.iload 5, 2) := by decide +kernel
theorem d_ke_reached_41 : decode prog_3_method_6_code 41 = .ok (.invokestatic 55, 3) := by decide +kernel
theorem d_ke_reached_44 : decode prog_3_method_6_code 44 = .ok (.ifCond .eq 29, 3) := by decide +kernel
theorem d_ke_reached_47 : decode prog_3_method_6_code 47 = .ok (.lload_n 3, 1) := by decide +kernel
theorem d_ke_reached_48 : decode prog_3_method_6_code 48 = .ok (.aload_n 0, 1) := by decide +kernel
theorem d_ke_reached_49 : decode prog_3_method_6_code 49 = .ok (.getfield 9, 3) := by decide +kernel
theorem d_ke_reached_52 : decode prog_3_method_6_code 52 = .ok (.aload_n 0, 1) := by decide +kernel
theorem d_ke_reached_53 : decode prog_3_method_6_code 53 = .ok (.getfield 15, 3) := by decide +kernel
theorem d_ke_reached_56 : decode prog_3_method_6_code 56 = .ok (.iload 5, 2) := by decide +kernel
theorem d_ke_reached_58 : decode prog_3_method_6_code 58 = .ok (.iaload, 1) := by decide +kernel
theorem d_ke_reached_59 : decode prog_3_method_6_code 59 = .ok (.laload, 1) := by decide +kernel
theorem d_ke_reached_60 : decode prog_3_method_6_code 60 = .ok (.aload_n 0, 1) := by decide +kernel
theorem d_ke_reached_61 : decode prog_3_method_6_code 61 = .ok (.getfield 22, 3) := by decide +kernel
theorem d_ke_reached_64 : decode prog_3_method_6_code 64 = .ok (.iload 5, 2) := by decide +kernel
theorem d_ke_reached_66 : decode prog_3_method_6_code 66 = .ok (.iaload, 1) := by decide +kernel
theorem d_ke_reached_67 : decode prog_3_method_6_code 67 = .ok (.iload_n 2, 1) := by decide +kernel
theorem d_ke_reached_68 : decode prog_3_method_6_code 68 = .ok (.invokestatic 51, 3) := by decide +kernel
theorem d_ke_reached_71 : decode prog_3_method_6_code 71 = .ok (.lor, 1) := by decide +kernel
theorem d_ke_reached_72 : decode prog_3_method_6_code 72 = .ok (.lstore_n 3, 1) := by decide +kernel
theorem d_ke_reached_73 : decode prog_3_method_6_code 73 = .ok (.iinc 5 1, 3) := by decide +kernel
theorem d_ke_reached_76 : decode prog_3_method_6_code 76 = .ok (.goto (-61), 3) := by decide +kernel
theorem d_ke_reached_79 : decode prog_3_method_6_code 79 = .ok (.lload_n 3, 1) := by decide +kernel
theorem d_ke_reached_80 : decode prog_3_method_6_code 80 = .ok (.lreturn, 1) := by decide +kernel
theorem d_ke_reachedBetween_0 : decode prog_3_method_5_code 0 = .ok (.iconst 0, 1) := by decide +kernel
theorem d_ke_reachedBetween_1 : decode prog_3_method_5_code 1 = .ok (.istore 4, 2) := by decide +kernel
theorem d_ke_reachedBetween_3 : decode prog_3_method_5_code 3 = .ok (.iconst 0, 1) := by decide +kernel
theorem d_ke_reachedBetween_4 : decode prog_3_method_5_code 4 = .ok (.istore 5, 2) := by decide +kernel
theorem d_ke_reachedBetween_6 : decode prog_3_method_5_code 6 = .ok (.iload 5, 2) := by decide +kernel
theorem d_ke_reachedBetween_8 : decode prog_3_method_5_code 8 = .ok (.iconst 2, 1) := by decide +kernel
theorem d_ke_reachedBetween_9 : decode prog_3_method_5_code 9 = .ok (.if_icmp .ge 32, 3) := by decide +kernel
theorem d_ke_reachedBetween_12 : decode prog_3_method_5_code 12 = .ok (.iload 4, 2) := by decide +kernel
theorem d_ke_reachedBetween_14 : decode prog_3_method_5_code 14 = .ok (.aload_n 0, 1) := by decide +kernel
theorem d_ke_reachedBetween_15 : decode prog_3_method_5_code 15 = .ok (.iload_n 1, 1) := by decide +kernel
theorem d_ke_reachedBetween_16 : decode prog_3_method_5_code 16 = .ok (.iload 5, 2) := by decide +kernel
