/-! the instructions -/
theorem d_mo_speaks_9 : decode prog_8_method_27_code 9 = .ok (.if_icmp .gt 37, 3) := by decide +kernel
theorem d_mo_speaks_12 : decode prog_8_method_27_code 12 = .ok (.iload_n 2, 1) := by decide +kernel
theorem d_mo_speaks_13 : decode prog_8_method_27_code 13 = .ok (.ifCond .ne 21, 3) := by decide +kernel
theorem d_mo_speaks_16 : decode prog_8_method_27_code 16 = .ok (.aload_n 0, 1) := by decide +kernel
theorem d_mo_speaks_17 : decode prog_8_method_27_code 17 = .ok (.getfield 54, 3) := by decide +kernel
theorem d_mo_speaks_20 : decode prog_8_method_27_code 20 = .ok (.sipush 20544, 3) := by decide +kernel
theorem d_mo_speaks_23 : decode prog_8_method_27_code 23 = .ok (.bipush 48, 2) := by decide +kernel
theorem d_mo_speaks_25 : decode prog_8_method_27_code 25 = .ok (.iload_n 3, 1) := by decide +kernel
theorem d_mo_speaks_26 : decode prog_8_method_27_code 26 = .ok (.imul, 1) := by decide +kernel
theorem d_mo_speaks_27 : decode prog_8_method_27_code 27 = .ok (.iadd, 1) := by decide +kernel
theorem d_mo_speaks_28 : decode prog_8_method_27_code 28 = .ok (.iload_n 1, 1) := by decide +kernel
theorem d_mo_speaks_29 : decode prog_8_method_27_code 29 = .ok (.iadd, 1) := by decide +kernel
theorem d_mo_speaks_30 : decode prog_8_method_27_code 30 = .ok (.baload, 1) := by decide +kernel
theorem d_mo_speaks_31 : decode prog_8_method_27_code 31 = .ok (.ifCond .eq 7, 3) := by decide +kernel
theorem d_mo_speaks_34 : decode prog_8_method_27_code 34 = .ok (.iconst 1, 1) := by decide +kernel
theorem d_mo_speaks_35 : decode prog_8_method_27_code 35 = .ok (.goto 4, 3) := by decide +kernel
theorem d_mo_speaks_38 : decode prog_8_method_27_code 38 = .ok (.iconst 0, 1) := by decide +kernel
theorem d_mo_speaks_39 : decode prog_8_method_27_code 39 = .ok (.istore_n 2, 1) := by decide +kernel
theorem d_mo_speaks_40 : decode prog_8_method_27_code 40 = .ok (.iinc 3 1, 3) := by decide +kernel
theorem d_mo_speaks_43 : decode prog_8_method_27_code 43 = .ok (.goto (-39), 3) := by decide +kernel
theorem d_mo_speaks_46 : decode prog_8_method_27_code 46 = .ok (.aload_n 0, 1) := by decide +kernel
theorem d_mo_speaks_47 : decode prog_8_method_27_code 47 = .ok (.getfield 22, 3) := by decide +kernel
theorem d_mo_speaks_50 : decode prog_8_method_27_code 50 = .ok (.iload_n 1, 1) := by decide +kernel
theorem d_mo_speaks_51 : decode prog_8_method_27_code 51 = .ok (.baload, 1) := by decide +kernel
theorem d_mo_speaks_52 : decode prog_8_method_27_code 52 = .ok (.ifCond .ne 14, 3) := by decide +kernel
theorem d_mo_speaks_55 : decode prog_8_method_27_code 55 = .ok (.iload_n 2, 1) := by decide +kernel
theorem d_mo_speaks_56 : decode prog_8_method_27_code 56 = .ok (.ifCond .ne 10, 3) := by decide +kernel
theorem d_mo_speaks_59 : decode prog_8_method_27_code 59 = .ok (.aload_n 0, 1) := by decide +kernel
theorem d_mo_speaks_60 : decode prog_8_method_27_code 60 = .ok (.getfield 97, 3) := by decide +kernel
theorem d_mo_speaks_63 : decode prog_8_method_27_code 63 = .ok (.ifCond .eq 7, 3) := by decide +kernel
theorem d_mo_speaks_66 : decode prog_8_method_27_code 66 = .ok (.iconst 1, 1) := by decide +kernel
theorem d_mo_speaks_67 : decode prog_8_method_27_code 67 = .ok (.goto 4, 3) := by decide +kernel
theorem d_mo_speaks_70 : decode prog_8_method_27_code 70 = .ok (.iconst 0, 1) := by decide +kernel
theorem d_mo_speaks_71 : decode prog_8_method_27_code 71 = .ok (.ireturn, 1) := by decide +kernel
theorem d_mo_spoil_0 : decode prog_8_method_40_code 0 = .ok (.iload_n 1, 1) := by decide +kernel
theorem d_mo_spoil_1 : decode prog_8_method_40_code 1 = .ok (.iconst 0, 1) := by decide +kernel
theorem d_mo_spoil_2 : decode prog_8_method_40_code 2 = .ok (.iconst 1, 1) := by decide +kernel
theorem d_mo_spoil_3 : decode prog_8_method_40_code 3 = .ok (.invokestatic 82, 3) := by decide +kernel
theorem d_mo_spoil_6 : decode prog_8_method_40_code 6 = .ok (.ifCond .eq 17, 3) := by decide +kernel
theorem d_mo_spoil_9 : decode prog_8_method_40_code 9 = .ok (.iload_n 2, 1) := by decide +kernel
theorem d_mo_spoil_10 : decode prog_8_method_40_code 10 = .ok (.iconst 0, 1) := by decide +kernel
theorem d_mo_spoil_11 : decode prog_8_method_40_code 11 = .ok (.bipush 8, 2) := by decide +kernel
theorem d_mo_spoil_13 : decode prog_8_method_40_code 13 = .ok (.invokestatic 82, 3) := by decide +kernel
theorem d_mo_spoil_16 : decode prog_8_method_40_code 16 = .ok (.ifCond .eq 7, 3) := by decide +kernel
theorem d_mo_spoil_19 : decode prog_8_method_40_code 19 = .ok (.iconst 1, 1) := by decide +kernel
theorem d_mo_spoil_20 : decode prog_8_method_40_code 20 = .ok (.goto 4, 3) := by decide +kernel
theorem d_mo_spoil_23 : decode prog_8_method_40_code 23 = .ok (.iconst 0, 1) := by decide +kernel
theorem d_mo_spoil_24 : decode prog_8_method_40_code 24 = .ok (.istore_n 3, 1) := by decide +kernel
theorem d_mo_spoil_25 : decode prog_8_method_40_code 25 = .ok (.aload_n 0, 1) := by decide +kernel
theorem d_mo_spoil_26 : decode prog_8_method_40_code 26 = .ok (.iload_n 3, 1) := by decide +kernel
theorem d_mo_spoil_27 : decode prog_8_method_40_code 27 = .ok (.iload_n 3, 1) := by decide +kernel
theorem d_mo_spoil_28 : decode prog_8_method_40_code 28 = .ok (.ifCond .eq 17, 3) := by decide +kernel
theorem d_mo_spoil_31 : decode prog_8_method_40_code 31 = .ok (.aload_n 0, 1) := by decide +kernel
theorem d_mo_spoil_32 : decode prog_8_method_40_code 32 = .ok (.getfield 64, 3) := by decide +kernel
theorem d_mo_spoil_35 : decode prog_8_method_40_code 35 = .ok (.bipush 9, 2) := by decide +kernel
theorem d_mo_spoil_37 : decode prog_8_method_40_code 37 = .ok (.iload_n 1, 1) := by decide +kernel
theorem d_mo_spoil_38 : decode prog_8_method_40_code 38 = .ok (.imul, 1) := by decide +kernel
theorem d_mo_spoil_39 : decode prog_8_method_40_code 39 = .ok (.iload_n 2, 1) := by decide +kernel
theorem d_mo_spoil_40 : decode prog_8_method_40_code 40 = .ok (.iadd, 1) := by decide +kernel
theorem d_mo_spoil_41 : decode prog_8_method_40_code 41 = .ok (.iaload, 1) := by decide +kernel
theorem d_mo_spoil_42 : decode prog_8_method_40_code 42 = .ok (.ifCond .le 7, 3) := by decide +kernel
theorem d_mo_spoil_45 : decode prog_8_method_40_code 45 = .ok (.iconst 1, 1) := by decide +kernel
theorem d_mo_spoil_46 : decode prog_8_method_40_code 46 = .ok (.goto 4, 3) := by decide +kernel
theorem d_mo_spoil_49 : decode prog_8_method_40_code 49 = .ok (.iconst 0, 1) := by decide +kernel
theorem d_mo_spoil_50 : decode prog_8_method_40_code 50 = .ok (.iconst 1, 1) := by decide +kernel
theorem d_mo_spoil_51 : decode prog_8_method_40_code 51 = .ok (.invokevirtual 86, 3) := by decide +kernel
theorem d_mo_spoil_54 : decode prog_8_method_40_code 54 = .ok (.ifCond .ne 5, 3) := by decide +kernel
theorem d_mo_spoil_57 : decode prog_8_method_40_code 57 = .ok (.iconst 0, 1) := by decide +kernel
theorem d_mo_spoil_58 : decode prog_8_method_40_code 58 = .ok (.ireturn, 1) := by decide +kernel
theorem d_mo_spoil_59 : decode prog_8_method_40_code 59 = .ok (.aload_n 0, 1) := by decide +kernel
theorem d_mo_spoil_60 : decode prog_8_method_40_code 60 = .ok (.getfield 67, 3) := by decide +kernel
theorem d_mo_spoil_63 : decode prog_8_method_40_code 63 = .ok (.bipush 9, 2) := by decide +kernel
theorem d_mo_spoil_65 : decode prog_8_method_40_code 65 = .ok (.iload_n 1, 1) := by decide +kernel
theorem d_mo_spoil_66 : decode prog_8_method_40_code 66 = .ok (.imul, 1) := by decide +kernel
theorem d_mo_spoil_67 : decode prog_8_method_40_code 67 = .ok (.iload_n 2, 1) := by decide +kernel
theorem d_mo_spoil_68 : decode prog_8_method_40_code 68 = .ok (.iadd, 1) := by decide +kernel
theorem d_mo_spoil_69 : decode prog_8_method_40_code 69 = .ok (.aload_n 0, 1) := by decide +kernel
theorem d_mo_spoil_70 : decode prog_8_method_40_code 70 = .ok (.getfield 67, 3) := by decide +kernel
theorem d_mo_spoil_73 : decode prog_8_method_40_code 73 = .ok (.bipush 9, 2) := by decide +kernel
theorem d_mo_spoil_75 : decode prog_8_method_40_code 75 = .ok (.iload_n 1, 1) := by decide +kernel
theorem d_mo_spoil_76 : decode prog_8_method_40_code 76 = .ok (.imul, 1) := by decide +kernel
theorem d_mo_spoil_77 : decode prog_8_method_40_code 77 = .ok (.iload_n 2, 1) := by decide +kernel
theorem d_mo_spoil_78 : decode prog_8_method_40_code 78 = .ok (.iadd, 1) := by decide +kernel
theorem d_mo_spoil_79 : decode prog_8_method_40_code 79 = .ok (.baload, 1) := by decide +kernel
theorem d_mo_spoil_80 : decode prog_8_method_40_code 80 = .ok (.ifCond .ne 7, 3) := by decide +kernel
theorem d_mo_spoil_83 : decode prog_8_method_40_code 83 = .ok (.iconst 1, 1) := by decide +kernel
theorem d_mo_spoil_84 : decode prog_8_method_40_code 84 = .ok (.goto 4, 3) := by decide +kernel
theorem d_mo_spoil_87 : decode prog_8_method_40_code 87 = .ok (.iconst 0, 1) := by decide +kernel
theorem d_mo_spoil_88 : decode prog_8_method_40_code 88 = .ok (.bastore, 1) := by decide +kernel
theorem d_mo_spoil_89 : decode prog_8_method_40_code 89 = .ok (.aload_n 0, 1) := by decide +kernel
theorem d_mo_spoil_90 : decode prog_8_method_40_code 90 = .ok (.getfield 64, 3) := by decide +kernel
theorem d_mo_spoil_93 : decode prog_8_method_40_code 93 = .ok (.bipush 9, 2) := by decide +kernel
theorem d_mo_spoil_95 : decode prog_8_method_40_code 95 = .ok (.iload_n 1, 1) := by decide +kernel
theorem d_mo_spoil_96 : decode prog_8_method_40_code 96 = .ok (.imul, 1) := by decide +kernel
theorem d_mo_spoil_97 : decode prog_8_method_40_code 97 = .ok (.iload_n 2, 1) := by decide +kernel
theorem d_mo_spoil_98 : decode prog_8_method_40_code 98 = .ok (.iadd, 1) := by decide +kernel
theorem d_mo_spoil_99 : decode prog_8_method_40_code 99 = .ok (.iaload, 1) := by decide +kernel
theorem d_mo_spoil_100 : decode prog_8_method_40_code 100 = .ok (.ireturn, 1) := by decide +kernel
theorem d_mo_stop_0 : decode prog_8_method_6_code 0 = .ok (.aload_n 0, 1) := by decide +kernel
theorem d_mo_stop_1 : decode prog_8_method_6_code 1 = .ok (.iload_n 1, 1) := by decide +kernel
theorem d_mo_stop_2 : decode prog_8_method_6_code 2 = .ok (.iconst 0, 1) := by decide +kernel
theorem d_mo_stop_3 : decode prog_8_method_6_code 3 = .ok (.iconst 4, 1) := by decide +kernel
theorem d_mo_stop_4 : decode prog_8_method_6_code 4 = .ok (.invokestatic 82, 3) := by decide +kernel
theorem d_mo_stop_7 : decode prog_8_method_6_code 7 = .ok (.iload_n 2, 1) := by decide +kernel
theorem d_mo_stop_8 : decode prog_8_method_6_code 8 = .ok (.bipush (-24), 2) := by decide +kernel
theorem d_mo_stop_10 : decode prog_8_method_6_code 10 = .ok (.bipush 24, 2) := by decide +kernel
theorem d_mo_stop_12 : decode prog_8_method_6_code 12 = .ok (.invokestatic 82, 3) := by decide +kernel
theorem d_mo_stop_15 : decode prog_8_method_6_code 15 = .ok (.ifCond .eq 24, 3) := by decide +kernel
theorem d_mo_stop_18 : decode prog_8_method_6_code 18 = .ok (.iload_n 3, 1) := by decide +kernel
theorem d_mo_stop_19 : decode prog_8_method_6_code 19 = .ok (.ifCond .lt 20, 3) := by decide +kernel
theorem d_mo_stop_22 : decode prog_8_method_6_code 22 = .ok (.iload_n 3, 1) := by decide +kernel
theorem d_mo_stop_23 : decode prog_8_method_6_code 23 = .ok (.iload 4, 2) := by decide +kernel
theorem d_mo_stop_25 : decode prog_8_method_6_code 25 = .ok (.if_icmp .gt 14, 3) := by decide +kernel
theorem d_mo_stop_28 : decode prog_8_method_6_code 28 = .ok (.iload 4, 2) := by decide +kernel
theorem d_mo_stop_30 : decode prog_8_method_6_code 30 = .ok (.bipush 96, 2) := by decide +kernel
theorem d_mo_stop_32 : decode prog_8_method_6_code 32 = .ok (.if_icmp .gt 7, 3) := by decide +kernel
theorem d_mo_stop_35 : decode prog_8_method_6_code 35 = .ok (.iconst 1, 1) := by decide +kernel
theorem d_mo_stop_36 : decode prog_8_method_6_code 36 = .ok (.goto 4, 3) := by decide +kernel
theorem d_mo_stop_39 : decode prog_8_method_6_code 39 = .ok (.iconst 0, 1) := by decide +kernel
theorem d_mo_stop_40 : decode prog_8_method_6_code 40 = .ok (.aload_n 0, 1) := by decide +kernel
theorem d_mo_stop_41 : decode prog_8_method_6_code 41 = .ok (.getfield 79, 3) := by decide +kernel
theorem d_mo_stop_44 : decode prog_8_method_6_code 44 = .ok (.bipush 48, 2) := by decide +kernel
theorem d_mo_stop_46 : decode prog_8_method_6_code 46 = .ok (.if_icmp .ge 7, 3) := by decide +kernel
theorem d_mo_stop_49 : decode prog_8_method_6_code 49 = .ok (.iconst 1, 1) := by decide +kernel
theorem d_mo_stop_50 : decode prog_8_method_6_code 50 = .ok (.goto 4, 3) := by decide +kernel
theorem d_mo_stop_53 : decode prog_8_method_6_code 53 = .ok (.iconst 0, 1) := by decide +kernel
theorem d_mo_stop_54 : decode prog_8_method_6_code 54 = .ok (.invokevirtual 86, 3) := by decide +kernel
theorem d_mo_stop_57 : decode prog_8_method_6_code 57 = .ok (.ifCond .ne 5, 3) := by decide +kernel
theorem d_mo_stop_60 : decode prog_8_method_6_code 60 = .ok (.iconst 0, 1) := by decide +kernel
theorem d_mo_stop_61 : decode prog_8_method_6_code 61 = .ok (.ireturn, 1) := by decide +kernel
theorem d_mo_stop_62 : decode prog_8_method_6_code 62 = .ok (.aload_n 0, 1) := by decide +kernel
theorem d_mo_stop_63 : decode prog_8_method_6_code 63 = .ok (.getfield 7, 3) := by decide +kernel
theorem d_mo_stop_66 : decode prog_8_method_6_code 66 = .ok (.aload_n 0, 1) := by decide +kernel
theorem d_mo_stop_67 : decode prog_8_method_6_code 67 = .ok (.getfield 79, 3) := by decide +kernel
theorem d_mo_stop_70 : decode prog_8_method_6_code 70 = .ok (.iload_n 1, 1) := by decide +kernel
theorem d_mo_stop_71 : decode prog_8_method_6_code 71 = .ok (.iastore, 1) := by decide +kernel
theorem d_mo_stop_72 : decode prog_8_method_6_code 72 = .ok (.aload_n 0, 1) := by decide +kernel
theorem d_mo_stop_73 : decode prog_8_method_6_code 73 = .ok (.getfield 13, 3) := by decide +kernel
theorem d_mo_stop_76 : decode prog_8_method_6_code 76 = .ok (.aload_n 0, 1) := by decide +kernel
theorem d_mo_stop_77 : decode prog_8_method_6_code 77 = .ok (.getfield 79, 3) := by decide +kernel
theorem d_mo_stop_80 : decode prog_8_method_6_code 80 = .ok (.iload_n 2, 1) := by decide +kernel
theorem d_mo_stop_81 : decode prog_8_method_6_code 81 = .ok (.iastore, 1) := by decide +kernel
theorem d_mo_stop_82 : decode prog_8_method_6_code 82 = .ok (.aload_n 0, 1) := by decide +kernel
theorem d_mo_stop_83 : decode prog_8_method_6_code 83 = .ok (.getfield 16, 3) := by decide +kernel
theorem d_mo_stop_86 : decode prog_8_method_6_code 86 = .ok (.aload_n 0, 1) := by decide +kernel
theorem d_mo_stop_87 : decode prog_8_method_6_code 87 = .ok (.getfield 79, 3) := by decide +kernel
theorem d_mo_stop_90 : decode prog_8_method_6_code 90 = .ok (.iload_n 3, 1) := by decide +kernel
theorem d_mo_stop_91 : decode prog_8_method_6_code 91 = .ok (.iastore, 1) := by decide +kernel
theorem d_mo_stop_92 : decode prog_8_method_6_code 92 = .ok (.aload_n 0, 1) := by decide +kernel
theorem d_mo_stop_93 : decode prog_8_method_6_code 93 = .ok (.getfield 19, 3) := by decide +kernel
theorem d_mo_stop_96 : decode prog_8_method_6_code 96 = .ok (.aload_n 0, 1) := by decide +kernel
theorem d_mo_stop_97 : decode prog_8_method_6_code 97 = .ok (.getfield 79, 3) := by decide +kernel
theorem d_mo_stop_100 : decode prog_8_method_6_code 100 = .ok (.iload 4, 2) := by decide +kernel
theorem d_mo_stop_102 : decode prog_8_method_6_code 102 = .ok (.iastore, 1) := by decide +kernel
theorem d_mo_stop_103 : decode prog_8_method_6_code 103 = .ok (.aload_n 0, 1) := by decide +kernel
theorem d_mo_stop_104 : decode prog_8_method_6_code 104 = .ok (.dup, 1) := by decide +kernel
theorem d_mo_stop_105 : decode prog_8_method_6_code 105 = .ok (.getfield 79, 3) := by decide +kernel
theorem d_mo_stop_108 : decode prog_8_method_6_code 108 = .ok (.iconst 1, 1) := by decide +kernel
theorem d_mo_stop_109 : decode prog_8_method_6_code 109 = .ok (.iadd, 1) := by decide +kernel
theorem d_mo_stop_110 : decode prog_8_method_6_code 110 = .ok (.putfield 79, 3) := by decide +kernel
theorem d_mo_stop_113 : decode prog_8_method_6_code 113 = .ok (.aload_n 0, 1) := by decide +kernel
theorem d_mo_stop_114 : decode prog_8_method_6_code 114 = .ok (.getfield 79, 3) := by decide +kernel
theorem d_mo_stop_117 : decode prog_8_method_6_code 117 = .ok (.iconst 1, 1) := by decide +kernel
theorem d_mo_stop_118 : decode prog_8_method_6_code 118 = .ok (.isub, 1) := by decide +kernel
theorem d_mo_stop_119 : decode prog_8_method_6_code 119 = .ok (.ireturn, 1) := by decide +kernel
theorem d_mo_store_0 : decode prog_8_method_17_code 0 = .ok (.iconst 0, 1) := by decide +kernel
theorem d_mo_store_1 : decode prog_8_method_17_code 1 = .ok (.istore_n 3, 1) := by decide +kernel
theorem d_mo_store_2 : decode prog_8_method_17_code 2 = .ok (.aload_n 0, 1) := by decide +kernel
theorem d_mo_store_3 : decode prog_8_method_17_code 3 = .ok (.iload_n 1, 1) := by decide +kernel
theorem d_mo_store_4 : decode prog_8_method_17_code 4 = .ok (.iload_n 2, 1) := by decide +kernel
theorem d_mo_store_5 : decode prog_8_method_17_code 5 = .ok (.invokevirtual 107, 3) := by decide +kernel
theorem d_mo_store_8 : decode prog_8_method_17_code 8 = .ok (.istore 4, 2) := by decide +kernel
theorem d_mo_store_10 : decode prog_8_method_17_code 10 = .ok (.iconst 0, 1) := by decide +kernel
theorem d_mo_store_11 : decode prog_8_method_17_code 11 = .ok (.istore 5, 2) := by decide +kernel
theorem d_mo_store_13 : decode prog_8_method_17_code 13 = .ok (.iload 5, 2) := by decide +kernel
theorem d_mo_store_15 : decode prog_8_method_17_code 15 = .ok (.bipush 48, 2) := by decide +kernel
theorem d_mo_store_17 : decode prog_8_method_17_code 17 = .ok (.if_icmp .ge 75, 3) := by decide +kernel
theorem d_mo_store_20 : decode prog_8_method_17_code 20 = .ok (.aload_n 0, 1) := by decide +kernel
theorem d_mo_store_21 : decode prog_8_method_17_code 21 = .ok (.getfield 54, 3) := by decide +kernel
theorem d_mo_store_24 : decode prog_8_method_17_code 24 = .ok (.iload 4, 2) := by decide +kernel
theorem d_mo_store_26 : decode prog_8_method_17_code 26 = .ok (.iload 5, 2) := by decide +kernel
theorem d_mo_store_28 : decode prog_8_method_17_code 28 = .ok (.iadd, 1) := by decide +kernel
theorem d_mo_store_29 : decode prog_8_method_17_code 29 = .ok (.iload 5, 2) := by decide +kernel
theorem d_mo_store_31 : decode prog_8_method_17_code 31 = .ok (.aload_n 0, 1) := by decide +kernel
theorem d_mo_store_32 : decode prog_8_method_17_code 32 = .ok (.getfield 79, 3) := by decide +kernel
theorem d_mo_store_35 : decode prog_8_method_17_code 35 = .ok (.if_icmp .ge 28, 3) := by decide +kernel
theorem d_mo_store_38 : decode prog_8_method_17_code 38 = .ok (.aload_n 0, 1) := by decide +kernel
theorem d_mo_store_39 : decode prog_8_method_17_code 39 = .ok (.getfield 22, 3) := by decide +kernel
theorem d_mo_store_42 : decode prog_8_method_17_code 42 = .ok (.iload 5, 2) := by decide +kernel
theorem d_mo_store_44 : decode prog_8_method_17_code 44 = .ok (.baload, 1) := by decide +kernel
theorem d_mo_store_45 : decode prog_8_method_17_code 45 = .ok (.ifCond .eq 18, 3) := by decide +kernel
theorem d_mo_store_48 : decode prog_8_method_17_code 48 = .ok (.aload_n 0, 1) := by decide +kernel
theorem d_mo_store_49 : decode prog_8_method_17_code 49 = .ok (.iload_n 1, 1) := by decide +kernel
theorem d_mo_store_50 : decode prog_8_method_17_code 50 = .ok (.iload_n 2, 1) := by decide +kernel
theorem d_mo_store_51 : decode prog_8_method_17_code 51 = .ok (.iload 5, 2) := by decide +kernel
theorem d_mo_store_53 : decode prog_8_method_17_code 53 = .ok (.invokevirtual 111, 3) := by decide +kernel
theorem d_mo_store_56 : decode prog_8_method_17_code 56 = .ok (.ifCond .eq 7, 3) := by decide +kernel
theorem d_mo_store_59 : decode prog_8_method_17_code 59 = .ok (.iconst 1, 1) := by decide +kernel
theorem d_mo_store_60 : decode prog_8_method_17_code 60 = .ok (.goto 4, 3) := by decide +kernel
theorem d_mo_store_63 : decode prog_8_method_17_code 63 = .ok (.iconst 0, 1) := by decide +kernel
theorem d_mo_store_64 : decode prog_8_method_17_code 64 = .ok (.bastore, 1) := by decide +kernel
theorem d_mo_store_65 : decode prog_8_method_17_code 65 = .ok (.aload_n 0, 1) := by decide +kernel
theorem d_mo_store_66 : decode prog_8_method_17_code 66 = .ok (.getfield 54, 3) := by decide +kernel
theorem d_mo_store_69 : decode prog_8_method_17_code 69 = .ok (.iload 4, 2) := by decide +kernel
theorem d_mo_store_71 : decode prog_8_method_17_code 71 = .ok (.iload 5, 2) := by decide +kernel
theorem d_mo_store_73 : decode prog_8_method_17_code 73 = .ok (.iadd, 1) := by decide +kernel
theorem d_mo_store_74 : decode prog_8_method_17_code 74 = .ok (.baload, 1) := by decide +kernel
theorem d_mo_store_75 : decode prog_8_method_17_code 75 = .ok (.ifCond .eq 9, 3) := by decide +kernel
theorem d_mo_store_78 : decode prog_8_method_17_code 78 = .ok (.iload_n 3, 1) := by decide +kernel
theorem d_mo_store_79 : decode prog_8_method_17_code 79 = .ok (.iconst 1, 1) := by decide +kernel
theorem d_mo_store_80 : decode prog_8_method_17_code 80 = .ok (.iadd, 1) := by decide +kernel
theorem d_mo_store_81 : decode prog_8_method_17_code 81 = .ok (.goto 4, 3) := by decide +kernel
theorem d_mo_store_84 : decode prog_8_method_17_code 84 = .ok (.iload_n 3, 1) := by decide +kernel
theorem d_mo_store_85 : decode prog_8_method_17_code 85 = .ok (.istore_n 3, 1) := by decide +kernel
theorem d_mo_store_86 : decode prog_8_method_17_code 86 = .ok (.iinc 5 1, 3) := by decide +kernel
theorem d_mo_store_89 : decode prog_8_method_17_code 89 = .ok (.goto (-76), 3) := by decide +kernel
theorem d_mo_store_92 : decode prog_8_method_17_code 92 = .ok (.iload_n 3, 1) := by decide +kernel
theorem d_mo_store_93 : decode prog_8_method_17_code 93 = .ok (.ireturn, 1) := by decide +kernel
theorem d_mo_tab_0 : decode prog_8_method_10_code 0 = .ok (.aload_n 0, 1) := by decide +kernel
theorem d_mo_tab_1 : decode prog_8_method_10_code 1 = .ok (.iload_n 1, 1) := by decide +kernel
theorem d_mo_tab_2 : decode prog_8_method_10_code 2 = .ok (.ifCond .lt 15, 3) := by decide +kernel
theorem d_mo_tab_5 : decode prog_8_method_10_code 5 = .ok (.iload_n 1, 1) := by decide +kernel
theorem d_mo_tab_6 : decode prog_8_method_10_code 6 = .ok (.aload_n 0, 1) := by decide +kernel
theorem d_mo_tab_7 : decode prog_8_method_10_code 7 = .ok (.getfield 90, 3) := by decide +kernel
theorem d_mo_tab_10 : decode prog_8_method_10_code 10 = .ok (.if_icmp .ge 7, 3) := by decide +kernel
theorem d_mo_tab_13 : decode prog_8_method_10_code 13 = .ok (.iconst 1, 1) := by decide +kernel
theorem d_mo_tab_14 : decode prog_8_method_10_code 14 = .ok (.goto 4, 3) := by decide +kernel
theorem d_mo_tab_17 : decode prog_8_method_10_code 17 = .ok (.iconst 0, 1) := by decide +kernel
theorem d_mo_tab_18 : decode prog_8_method_10_code 18 = .ok (.iconst 1, 1) := by decide +kernel
theorem d_mo_tab_19 : decode prog_8_method_10_code 19 = .ok (.iconst 1, 1) := by decide +kernel
theorem d_mo_tab_20 : decode prog_8_method_10_code 20 = .ok (.invokevirtual 86, 3) := by decide +kernel
theorem d_mo_tab_23 : decode prog_8_method_10_code 23 = .ok (.ifCond .ne 5, 3) := by decide +kernel
theorem d_mo_tab_26 : decode prog_8_method_10_code 26 = .ok (.iconst 0, 1) := by decide +kernel
theorem d_mo_tab_27 : decode prog_8_method_10_code 27 = .ok (.ireturn, 1) := by decide +kernel
theorem d_mo_tab_28 : decode prog_8_method_10_code 28 = .ok (.aload_n 0, 1) := by decide +kernel
theorem d_mo_tab_29 : decode prog_8_method_10_code 29 = .ok (.getfield 44, 3) := by decide +kernel
theorem d_mo_tab_32 : decode prog_8_method_10_code 32 = .ok (.iload_n 1, 1) := by decide +kernel
theorem d_mo_tab_33 : decode prog_8_method_10_code 33 = .ok (.baload, 1) := by decide +kernel
theorem d_mo_tab_34 : decode prog_8_method_10_code 34 = .ok (.istore_n 3, 1) := by decide +kernel
theorem d_mo_tab_35 : decode prog_8_method_10_code 35 = .ok (.aload_n 0, 1) := by decide +kernel
theorem d_mo_tab_36 : decode prog_8_method_10_code 36 = .ok (.getfield 44, 3) := by decide +kernel
theorem d_mo_tab_39 : decode prog_8_method_10_code 39 = .ok (.iload_n 1, 1) := by decide +kernel
theorem d_mo_tab_40 : decode prog_8_method_10_code 40 = .ok (.iload_n 2, 1) := by decide +kernel
theorem d_mo_tab_41 : decode prog_8_method_10_code 41 = .ok (.bastore, 1) := by decide +kernel
theorem d_mo_tab_42 : decode prog_8_method_10_code 42 = .ok (.iload_n 3, 1) := by decide +kernel
theorem d_mo_tab_43 : decode prog_8_method_10_code 43 = .ok (.iload_n 2, 1) := by decide +kernel
theorem d_mo_tab_44 : decode prog_8_method_10_code 44 = .ok (.if_icmp .eq 7, 3) := by decide +kernel
theorem d_mo_tab_47 : decode prog_8_method_10_code 47 = .ok (.iconst 1, 1) := by decide +kernel
theorem d_mo_tab_48 : decode prog_8_method_10_code 48 = .ok (.goto 4, 3) := by decide +kernel
theorem d_mo_tab_51 : decode prog_8_method_10_code 51 = .ok (.iconst 0, 1) := by decide +kernel
theorem d_mo_tab_52 : decode prog_8_method_10_code 52 = .ok (.ireturn, 1) := by decide +kernel
theorem d_mo_test_0 : decode prog_8_method_42_code 0 = .ok (.aload_n 0, 1) := by decide +kernel
theorem d_mo_test_1 : decode prog_8_method_42_code 1 = .ok (.iconst 0, 1) := by decide +kernel
theorem d_mo_test_2 : decode prog_8_method_42_code 2 = .ok (.putfield 76, 3) := by decide +kernel
theorem d_mo_test_5 : decode prog_8_method_42_code 5 = .ok (.iconst 0, 1) := by decide +kernel
theorem d_mo_test_6 : decode prog_8_method_42_code 6 = .ok (.istore_n 1, 1) := by decide +kernel
theorem d_mo_test_7 : decode prog_8_method_42_code 7 = .ok (.iload_n 1, 1) := by decide +kernel
theorem d_mo_test_8 : decode prog_8_method_42_code 8 = .ok (.bipush 40, 2) := by decide +kernel
theorem d_mo_test_10 : decode prog_8_method_42_code 10 = .ok (.if_icmp .ge 29, 3) := by decide +kernel
theorem d_mo_test_13 : decode prog_8_method_42_code 13 = .ok (.aload_n 0, 1) := by decide +kernel
theorem d_mo_test_14 : decode prog_8_method_42_code 14 = .ok (.getfield 73, 3) := by decide +kernel
theorem d_mo_test_17 : decode prog_8_method_42_code 17 = .ok (.iload_n 1, 1) := by decide +kernel
theorem d_mo_test_18 : decode prog_8_method_42_code 18 = .ok (.iaload, 1) := by decide +kernel
theorem d_mo_test_19 : decode prog_8_method_42_code 19 = .ok (.ifCond .le 14, 3) := by decide +kernel
theorem d_mo_test_22 : decode prog_8_method_42_code 22 = .ok (.iconst 2, 1) := by decide +kernel
theorem d_mo_test_23 : decode prog_8_method_42_code 23 = .ok (.iload_n 1, 1) := by decide +kernel
theorem d_mo_test_24 : decode prog_8_method_42_code 24 = .ok (.imul, 1) := by decide +kernel
theorem d_mo_test_25 : decode prog_8_method_42_code 25 = .ok (.aload_n 0, 1) := by decide +kernel
theorem d_mo_test_26 : decode prog_8_method_42_code 26 = .ok (.getfield 73, 3) := by decide +kernel
theorem d_mo_test_29 : decode prog_8_method_42_code 29 = .ok (.iload_n 1, 1) := by decide +kernel
theorem d_mo_test_30 : decode prog_8_method_42_code 30 = .ok (.iaload, 1) := by decide +kernel
theorem d_mo_test_31 : decode prog_8_method_42_code 31 = .ok (.iadd, 1) := by decide +kernel
theorem d_mo_test_32 : decode prog_8_method_42_code 32 = .ok (.ireturn, 1) := by decide +kernel
theorem d_mo_test_33 : decode prog_8_method_42_code 33 = .ok (.iinc 1 1, 3) := by decide +kernel
theorem d_mo_test_36 : decode prog_8_method_42_code 36 = .ok (.goto (-29), 3) := by decide +kernel
theorem d_mo_test_39 : decode prog_8_method_42_code 39 = .ok (.iconst 0, 1) := by decide +kernel
theorem d_mo_test_40 : decode prog_8_method_42_code 40 = .ok (.istore_n 1, 1) := by decide +kernel
theorem d_mo_test_41 : decode prog_8_method_42_code 41 = .ok (.iload_n 1, 1) := by decide +kernel
theorem d_mo_test_42 : decode prog_8_method_42_code 42 = .ok (.aload_n 0, 1) := by decide +kernel
theorem d_mo_test_43 : decode prog_8_method_42_code 43 = .ok (.getfield 79, 3) := by decide +kernel
theorem d_mo_test_46 : decode prog_8_method_42_code 46 = .ok (.if_icmp .ge 32, 3) := by decide +kernel
theorem d_mo_test_49 : decode prog_8_method_42_code 49 = .ok (.aload_n 0, 1) := by decide +kernel
theorem d_mo_test_50 : decode prog_8_method_42_code 50 = .ok (.getfield 32, 3) := by decide +kernel
theorem d_mo_test_53 : decode prog_8_method_42_code 53 = .ok (.iload_n 1, 1) := by decide +kernel
theorem d_mo_test_54 : decode prog_8_method_42_code 54 = .ok (.iaload, 1) := by decide +kernel
theorem d_mo_test_55 : decode prog_8_method_42_code 55 = .ok (.ifCond .le 17, 3) := by decide +kernel
theorem d_mo_test_58 : decode prog_8_method_42_code 58 = .ok (.bipush 100, 2) := by decide +kernel
theorem d_mo_test_60 : decode prog_8_method_42_code 60 = .ok (.iconst 2, 1) := by decide +kernel
theorem d_mo_test_61 : decode prog_8_method_42_code 61 = .ok (.iload_n 1, 1) := by decide +kernel
theorem d_mo_test_62 : decode prog_8_method_42_code 62 = .ok (.imul, 1) := by decide +kernel
theorem d_mo_test_63 : decode prog_8_method_42_code 63 = .ok (.iadd, 1) := by decide +kernel
theorem d_mo_test_64 : decode prog_8_method_42_code 64 = .ok (.aload_n 0, 1) := by decide +kernel
theorem d_mo_test_65 : decode prog_8_method_42_code 65 = .ok (.getfield 32, 3) := by decide +kernel
theorem d_mo_test_68 : decode prog_8_method_42_code 68 = .ok (.iload_n 1, 1) := by decide +kernel
theorem d_mo_test_69 : decode prog_8_method_42_code 69 = .ok (.iaload, 1) := by decide +kernel
theorem d_mo_test_70 : decode prog_8_method_42_code 70 = .ok (.iadd, 1) := by decide +kernel
theorem d_mo_test_71 : decode prog_8_method_42_code 71 = .ok (.ireturn, 1) := by decide +kernel
theorem d_mo_test_72 : decode prog_8_method_42_code 72 = .ok (.iinc 1 1, 3) := by decide +kernel
theorem d_mo_test_75 : decode prog_8_method_42_code 75 = .ok (.goto (-34), 3) := by decide +kernel
theorem d_mo_test_78 : decode prog_8_method_42_code 78 = .ok (.iconst 0, 1) := by decide +kernel
theorem d_mo_test_79 : decode prog_8_method_42_code 79 = .ok (.ireturn, 1) := by decide +kernel
theorem d_mo_thrown_0 : decode prog_8_method_2_code 0 = .ok (.aload_n 0, 1) := by decide +kernel
theorem d_mo_thrown_1 : decode prog_8_method_2_code 1 = .ok (.getfield 76, 3) := by decide +kernel
theorem d_mo_thrown_4 : decode prog_8_method_2_code 4 = .ok (.ireturn, 1) := by decide +kernel
theorem d_mo_tick_0 : decode prog_8_method_26_code 0 = .ok (.aload_n 0, 1) := by decide +kernel
theorem d_mo_tick_1 : decode prog_8_method_26_code 1 = .ok (.iload_n 1, 1) := by decide +kernel
theorem d_mo_tick_2 : decode prog_8_method_26_code 2 = .ok (.iconst 0, 1) := by decide +kernel
theorem d_mo_tick_3 : decode prog_8_method_26_code 3 = .ok (.bipush 100, 2) := by decide +kernel
theorem d_mo_tick_5 : decode prog_8_method_26_code 5 = .ok (.invokestatic 82, 3) := by decide +kernel
theorem d_mo_tick_8 : decode prog_8_method_26_code 8 = .ok (.iconst 1, 1) := by decide +kernel
theorem d_mo_tick_9 : decode prog_8_method_26_code 9 = .ok (.iconst 1, 1) := by decide +kernel
theorem d_mo_tick_10 : decode prog_8_method_26_code 10 = .ok (.invokevirtual 86, 3) := by decide +kernel
theorem d_mo_tick_13 : decode prog_8_method_26_code 13 = .ok (.ifCond .ne 5, 3) := by decide +kernel
theorem d_mo_tick_16 : decode prog_8_method_26_code 16 = .ok (.iconst 0, 1) := by decide +kernel
theorem d_mo_tick_17 : decode prog_8_method_26_code 17 = .ok (.ireturn, 1) := by decide +kernel
theorem d_mo_tick_18 : decode prog_8_method_26_code 18 = .ok (.iconst 0, 1) := by decide +kernel
theorem d_mo_tick_19 : decode prog_8_method_26_code 19 = .ok (.istore_n 2, 1) := by decide +kernel
theorem d_mo_tick_20 : decode prog_8_method_26_code 20 = .ok (.iconst 0, 1) := by decide +kernel
theorem d_mo_tick_21 : decode prog_8_method_26_code 21 = .ok (.istore_n 3, 1) := by decide +kernel
theorem d_mo_tick_22 : decode prog_8_method_26_code 22 = .ok (.iload_n 3, 1) := by decide +kernel
theorem d_mo_tick_23 : decode prog_8_method_26_code 23 = .ok (.iload_n 1, 1) := by decide +kernel
theorem d_mo_tick_24 : decode prog_8_method_26_code 24 = .ok (.if_icmp .ge 139, 3) := by decide +kernel
theorem d_mo_tick_27 : decode prog_8_method_26_code 27 = .ok (.iconst 0, 1) := by decide +kernel
theorem d_mo_tick_28 : decode prog_8_method_26_code 28 = .ok (.istore 4, 2) := by decide +kernel
theorem d_mo_tick_30 : decode prog_8_method_26_code 30 = .ok (.iload 4, 2) := by decide +kernel
theorem d_mo_tick_32 : decode prog_8_method_26_code 32 = .ok (.aload_n 0, 1) := by decide +kernel
theorem d_mo_tick_33 : decode prog_8_method_26_code 33 = .ok (.getfield 79, 3) := by decide +kernel
theorem d_mo_tick_36 : decode prog_8_method_26_code 36 = .ok (.if_icmp .ge 121, 3) := by decide +kernel
theorem d_mo_tick_39 : decode prog_8_method_26_code 39 = .ok (.aload_n 0, 1) := by decide +kernel
theorem d_mo_tick_40 : decode prog_8_method_26_code 40 = .ok (.getfield 26, 3) := by decide +kernel
theorem d_mo_tick_43 : decode prog_8_method_26_code 43 = .ok (.iload 4, 2) := by decide +kernel
theorem d_mo_tick_45 : decode prog_8_method_26_code 45 = .ok (.iaload, 1) := by decide +kernel
theorem d_mo_tick_46 : decode prog_8_method_26_code 46 = .ok (.iconst 1, 1) := by decide +kernel
theorem d_mo_tick_47 : decode prog_8_method_26_code 47 = .ok (.if_icmp .ne 7, 3) := by decide +kernel
theorem d_mo_tick_50 : decode prog_8_method_26_code 50 = .ok (.iconst 1, 1) := by decide +kernel
theorem d_mo_tick_51 : decode prog_8_method_26_code 51 = .ok (.goto 4, 3) := by decide +kernel
theorem d_mo_tick_54 : decode prog_8_method_26_code 54 = .ok (.iconst 0, 1) := by decide +kernel
theorem d_mo_tick_55 : decode prog_8_method_26_code 55 = .ok (.istore 5, 2) := by decide +kernel
theorem d_mo_tick_57 : decode prog_8_method_26_code 57 = .ok (.aload_n 0, 1) := by decide +kernel
theorem d_mo_tick_58 : decode prog_8_method_26_code 58 = .ok (.getfield 26, 3) := by decide +kernel
theorem d_mo_tick_61 : decode prog_8_method_26_code 61 = .ok (.iload 4, 2) := by decide +kernel
theorem d_mo_tick_63 : decode prog_8_method_26_code 63 = .ok (.aload_n 0, 1) := by decide +kernel
theorem d_mo_tick_64 : decode prog_8_method_26_code 64 = .ok (.getfield 26, 3) := by decide +kernel
theorem d_mo_tick_67 : decode prog_8_method_26_code 67 = .ok (.iload 4, 2) := by decide +kernel
theorem d_mo_tick_69 : decode prog_8_method_26_code 69 = .ok (.iaload, 1) := by decide +kernel
theorem d_mo_tick_70 : decode prog_8_method_26_code 70 = .ok (.ifCond .le 15, 3) := by decide +kernel
theorem d_mo_tick_73 : decode prog_8_method_26_code 73 = .ok (.aload_n 0, 1) := by decide +kernel
theorem d_mo_tick_74 : decode prog_8_method_26_code 74 = .ok (.getfield 26, 3) := by decide +kernel
theorem d_mo_tick_77 : decode prog_8_method_26_code 77 = .ok (.iload 4, 2) := by decide +kernel
theorem d_mo_tick_79 : decode prog_8_method_26_code 79 = .ok (.iaload, 1) := by decide +kernel
theorem d_mo_tick_80 : decode prog_8_method_26_code 80 = .ok (.iconst 1, 1) := by decide +kernel
theorem d_mo_tick_81 : decode prog_8_method_26_code 81 = .ok (.isub, 1) := by decide +kernel
theorem d_mo_tick_82 : decode prog_8_method_26_code 82 = .ok (.goto 4, 3) := by decide +kernel
theorem d_mo_tick_85 : decode prog_8_method_26_code 85 = .ok (.iconst 0, 1) := by decide +kernel
theorem d_mo_tick_86 : decode prog_8_method_26_code 86 = .ok (.iastore, 1) := by decide +kernel
theorem d_mo_tick_87 : decode prog_8_method_26_code 87 = .ok (.iload 5, 2) := by decide +kernel
theorem d_mo_tick_89 : decode prog_8_method_26_code 89 = .ok (.ifCond .eq 17, 3) := by decide +kernel
theorem d_mo_tick_92 : decode prog_8_method_26_code 92 = .ok (.aload_n 0, 1) := by decide +kernel
theorem d_mo_tick_93 : decode prog_8_method_26_code 93 = .ok (.getfield 32, 3) := by decide +kernel
theorem d_mo_tick_96 : decode prog_8_method_26_code 96 = .ok (.iload 4, 2) := by decide +kernel
theorem d_mo_tick_98 : decode prog_8_method_26_code 98 = .ok (.iaload, 1) := by decide +kernel
theorem d_mo_tick_99 : decode prog_8_method_26_code 99 = .ok (.ifCond .ne 7, 3) := by decide +kernel
theorem d_mo_tick_102 : decode prog_8_method_26_code 102 = .ok (.iconst 1, 1) := by decide +kernel
theorem d_mo_tick_103 : decode prog_8_method_26_code 103 = .ok (.goto 4, 3) := by decide +kernel
theorem d_mo_tick_106 : decode prog_8_method_26_code 106 = .ok (.iconst 0, 1) := by decide +kernel
theorem d_mo_tick_107 : decode prog_8_method_26_code 107 = .ok (.istore 6, 2) := by decide +kernel
theorem d_mo_tick_109 : decode prog_8_method_26_code 109 = .ok (.aload_n 0, 1) := by decide +kernel
theorem d_mo_tick_110 : decode prog_8_method_26_code 110 = .ok (.getfield 22, 3) := by decide +kernel
theorem d_mo_tick_113 : decode prog_8_method_26_code 113 = .ok (.iload 4, 2) := by decide +kernel
theorem d_mo_tick_115 : decode prog_8_method_26_code 115 = .ok (.iload 6, 2) := by decide +kernel
theorem d_mo_tick_117 : decode prog_8_method_26_code 117 = .ok (.ifCond .eq 13, 3) := by decide +kernel
theorem d_mo_tick_120 : decode prog_8_method_26_code 120 = .ok (.aload_n 0, 1) := by decide +kernel
theorem d_mo_tick_121 : decode prog_8_method_26_code 121 = .ok (.getfield 29, 3) := by decide +kernel
theorem d_mo_tick_124 : decode prog_8_method_26_code 124 = .ok (.iload 4, 2) := by decide +kernel
theorem d_mo_tick_126 : decode prog_8_method_26_code 126 = .ok (.baload, 1) := by decide +kernel
theorem d_mo_tick_127 : decode prog_8_method_26_code 127 = .ok (.goto 10, 3) := by decide +kernel
theorem d_mo_tick_130 : decode prog_8_method_26_code 130 = .ok (.aload_n 0, 1) := by decide +kernel
theorem d_mo_tick_131 : decode prog_8_method_26_code 131 = .ok (.getfield 22, 3) := by decide +kernel
theorem d_mo_tick_134 : decode prog_8_method_26_code 134 = .ok (.iload 4, 2) := by decide +kernel
theorem d_mo_tick_136 : decode prog_8_method_26_code 136 = .ok (.baload, 1) := by decide +kernel
theorem d_mo_tick_137 : decode prog_8_method_26_code 137 = .ok (.bastore, 1) := by decide +kernel
theorem d_mo_tick_138 : decode prog_8_method_26_code 138 = .ok (.iload 6, 2) := by decide +kernel
theorem d_mo_tick_140 : decode prog_8_method_26_code 140 = .ok (.ifCond .eq 9, 3) := by decide +kernel
theorem d_mo_tick_143 : decode prog_8_method_26_code 143 = .ok (.iload_n 2, 1) := by decide +kernel
theorem d_mo_tick_144 : decode prog_8_method_26_code 144 = .ok (.iconst 1, 1) := by decide +kernel
theorem d_mo_tick_145 : decode prog_8_method_26_code 145 = .ok (.iadd, 1) := by decide +kernel
theorem d_mo_tick_146 : decode prog_8_method_26_code 146 = .ok (.goto 4, 3) := by decide +kernel
theorem d_mo_tick_149 : decode prog_8_method_26_code 149 = .ok (.iload_n 2, 1) := by decide +kernel
theorem d_mo_tick_150 : decode prog_8_method_26_code 150 = .ok (.istore_n 2, 1) := by decide +kernel
theorem d_mo_tick_151 : decode prog_8_method_26_code 151 = .ok (.iinc 4 1, 3) := by decide +kernel
theorem d_mo_tick_154 : decode prog_8_method_26_code 154 = .ok (.goto (-124), 3) := by decide +kernel
theorem d_mo_tick_157 : decode prog_8_method_26_code 157 = .ok (.iinc 3 1, 3) := by decide +kernel
theorem d_mo_tick_160 : decode prog_8_method_26_code 160 = .ok (.goto (-138), 3) := by decide +kernel
theorem d_mo_tick_163 : decode prog_8_method_26_code 163 = .ok (.iload_n 2, 1) := by decide +kernel
theorem d_mo_tick_164 : decode prog_8_method_26_code 164 = .ok (.ireturn, 1) := by decide +kernel
theorem d_mo_version_0 : decode prog_8_method_36_code 0 = .ok (.aload_n 0, 1) := by decide +kernel
theorem d_mo_version_1 : decode prog_8_method_36_code 1 = .ok (.getfield 70, 3) := by decide +kernel
theorem d_mo_version_4 : decode prog_8_method_36_code 4 = .ok (.ifCond .ge 7, 3) := by decide +kernel
theorem d_mo_version_7 : decode prog_8_method_36_code 7 = .ok (.iconst 0, 1) := by decide +kernel
theorem d_mo_version_8 : decode prog_8_method_36_code 8 = .ok (.goto 15, 3) := by decide +kernel
theorem d_mo_version_11 : decode prog_8_method_36_code 11 = .ok (.aload_n 0, 1) := by decide +kernel
theorem d_mo_version_12 : decode prog_8_method_36_code 12 = .ok (.getfield 64, 3) := by decide +kernel
theorem d_mo_version_15 : decode prog_8_method_36_code 15 = .ok (.bipush 9, 2) := by decide +kernel
theorem d_mo_version_17 : decode prog_8_method_36_code 17 = .ok (.aload_n 0, 1) := by decide +kernel
theorem d_mo_version_18 : decode prog_8_method_36_code 18 = .ok (.getfield 70, 3) := by decide +kernel
theorem d_mo_version_21 : decode prog_8_method_36_code 21 = .ok (.imul, 1) := by decide +kernel
theorem d_mo_version_22 : decode prog_8_method_36_code 22 = .ok (.iaload, 1) := by decide +kernel
theorem d_mo_version_23 : decode prog_8_method_36_code 23 = .ok (.ireturn, 1) := by decide +kernel
theorem d_mo_whole_0 : decode prog_8_method_35_code 0 = .ok (.aload_n 0, 1) := by decide +kernel
theorem d_mo_whole_1 : decode prog_8_method_35_code 1 = .ok (.getfield 64, 3) := by decide +kernel
theorem d_mo_whole_4 : decode prog_8_method_35_code 4 = .ok (.bipush 9, 2) := by decide +kernel
theorem d_mo_whole_6 : decode prog_8_method_35_code 6 = .ok (.iload_n 1, 1) := by decide +kernel
theorem d_mo_whole_7 : decode prog_8_method_35_code 7 = .ok (.imul, 1) := by decide +kernel
theorem d_mo_whole_8 : decode prog_8_method_35_code 8 = .ok (.iaload, 1) := by decide +kernel
theorem d_mo_whole_9 : decode prog_8_method_35_code 9 = .ok (.ifCond .le 7, 3) := by decide +kernel
theorem d_mo_whole_12 : decode prog_8_method_35_code 12 = .ok (.iconst 1, 1) := by decide +kernel
theorem d_mo_whole_13 : decode prog_8_method_35_code 13 = .ok (.goto 4, 3) := by decide +kernel
theorem d_mo_whole_16 : decode prog_8_method_35_code 16 = .ok (.iconst 0, 1) := by decide +kernel
theorem d_mo_whole_17 : decode prog_8_method_35_code 17 = .ok (.istore_n 2, 1) := by decide +kernel
theorem d_mo_whole_18 : decode prog_8_method_35_code 18 = .ok (.iconst 0, 1) := by decide +kernel
theorem d_mo_whole_19 : decode prog_8_method_35_code 19 = .ok (.istore_n 3, 1) := by decide +kernel
theorem d_mo_whole_20 : decode prog_8_method_35_code 20 = .ok (.iload_n 3, 1) := by decide +kernel
theorem d_mo_whole_21 : decode prog_8_method_35_code 21 = .ok (.bipush 9, 2) := by decide +kernel
theorem d_mo_whole_23 : decode prog_8_method_35_code 23 = .ok (.if_icmp .ge 56, 3) := by decide +kernel
theorem d_mo_whole_26 : decode prog_8_method_35_code 26 = .ok (.iload_n 2, 1) := by decide +kernel
theorem d_mo_whole_27 : decode prog_8_method_35_code 27 = .ok (.ifCond .eq 44, 3) := by decide +kernel
theorem d_mo_whole_30 : decode prog_8_method_35_code 30 = .ok (.aload_n 0, 1) := by decide +kernel
theorem d_mo_whole_31 : decode prog_8_method_35_code 31 = .ok (.getfield 64, 3) := by decide +kernel
theorem d_mo_whole_34 : decode prog_8_method_35_code 34 = .ok (.bipush 9, 2) := by decide +kernel
theorem d_mo_whole_36 : decode prog_8_method_35_code 36 = .ok (.iload_n 1, 1) := by decide +kernel
theorem d_mo_whole_37 : decode prog_8_method_35_code 37 = .ok (.imul, 1) := by decide +kernel
theorem d_mo_whole_38 : decode prog_8_method_35_code 38 = .ok (.iload_n 3, 1) := by decide +kernel
theorem d_mo_whole_39 : decode prog_8_method_35_code 39 = .ok (.iadd, 1) := by decide +kernel
theorem d_mo_whole_40 : decode prog_8_method_35_code 40 = .ok (.iaload, 1) := by decide +kernel
theorem d_mo_whole_41 : decode prog_8_method_35_code 41 = .ok (.aload_n 0, 1) := by decide +kernel
theorem d_mo_whole_42 : decode prog_8_method_35_code 42 = .ok (.getfield 64, 3) := by decide +kernel
theorem d_mo_whole_45 : decode prog_8_method_35_code 45 = .ok (.bipush 9, 2) := by decide +kernel
theorem d_mo_whole_47 : decode prog_8_method_35_code 47 = .ok (.iload_n 1, 1) := by decide +kernel
theorem d_mo_whole_48 : decode prog_8_method_35_code 48 = .ok (.imul, 1) := by decide +kernel
theorem d_mo_whole_49 : decode prog_8_method_35_code 49 = .ok (.iaload, 1) := by decide +kernel
theorem d_mo_whole_50 : decode prog_8_method_35_code 50 = .ok (.if_icmp .ne 21, 3) := by decide +kernel
theorem d_mo_whole_53 : decode prog_8_method_35_code 53 = .ok (.aload_n 0, 1) := by decide +kernel
theorem d_mo_whole_54 : decode prog_8_method_35_code 54 = .ok (.getfield 67, 3) := by decide +kernel
theorem d_mo_whole_57 : decode prog_8_method_35_code 57 = .ok (.bipush 9, 2) := by decide +kernel
theorem d_mo_whole_59 : decode prog_8_method_35_code 59 = .ok (.iload_n 1, 1) := by decide +kernel
theorem d_mo_whole_60 : decode prog_8_method_35_code 60 = .ok (.imul, 1) := by decide +kernel
theorem d_mo_whole_61 : decode prog_8_method_35_code 61 = .ok (.iload_n 3, 1) := by decide +kernel
theorem d_mo_whole_62 : decode prog_8_method_35_code 62 = .ok (.iadd, 1) := by decide +kernel
theorem d_mo_whole_63 : decode prog_8_method_35_code 63 = .ok (.baload, 1) := by decide +kernel
theorem d_mo_whole_64 : decode prog_8_method_35_code 64 = .ok (.ifCond .ne 7, 3) := by decide +kernel
theorem d_mo_whole_67 : decode prog_8_method_35_code 67 = .ok (.iconst 1, 1) := by decide +kernel
theorem d_mo_whole_68 : decode prog_8_method_35_code 68 = .ok (.goto 4, 3) := by decide +kernel
theorem d_mo_whole_71 : decode prog_8_method_35_code 71 = .ok (.iconst 0, 1) := by decide +kernel
theorem d_mo_whole_72 : decode prog_8_method_35_code 72 = .ok (.istore_n 2, 1) := by decide +kernel
theorem d_mo_whole_73 : decode prog_8_method_35_code 73 = .ok (.iinc 3 1, 3) := by decide +kernel
theorem d_mo_whole_76 : decode prog_8_method_35_code 76 = .ok (.goto (-56), 3) := by decide +kernel
theorem d_mo_whole_79 : decode prog_8_method_35_code 79 = .ok (.iload_n 2, 1) := by decide +kernel
theorem d_mo_whole_80 : decode prog_8_method_35_code 80 = .ok (.ireturn, 1) := by decide +kernel
theorem d_mo_within_0 : decode prog_8_method_4_code 0 = .ok (.iload_n 0, 1) := by decide +kernel
theorem d_mo_within_1 : decode prog_8_method_4_code 1 = .ok (.iload_n 1, 1) := by decide +kernel
theorem d_mo_within_2 : decode prog_8_method_4_code 2 = .ok (.if_icmp .lt 12, 3) := by decide +kernel
theorem d_mo_within_5 : decode prog_8_method_4_code 5 = .ok (.iload_n 0, 1) := by decide +kernel
theorem d_mo_within_6 : decode prog_8_method_4_code 6 = .ok (.iload_n 2, 1) := by decide +kernel
theorem d_mo_within_7 : decode prog_8_method_4_code 7 = .ok (.if_icmp .gt 7, 3) := by decide +kernel
theorem d_mo_within_10 : decode prog_8_method_4_code 10 = .ok (.iconst 1, 1) := by decide +kernel
theorem d_mo_within_11 : decode prog_8_method_4_code 11 = .ok (.goto 4, 3) := by decide +kernel
theorem d_mo_within_14 : decode prog_8_method_4_code 14 = .ok (.iconst 0, 1) := by decide +kernel
theorem d_mo_within_15 : decode prog_8_method_4_code 15 = .ok (.ireturn, 1) := by decide +kernel
theorem d_law_0 : decode code 0 = .ok (.new 8, 3) := by decide +kernel
theorem d_law_3 : decode code 3 = .ok (.dup, 1) := by decide +kernel
theorem d_law_4 : decode code 4 = .ok (.invokespecial 86, 3) := by decide +kernel
theorem d_law_7 : decode code 7 = .ok (.astore_n 1, 1) := by decide +kernel
theorem d_law_8 : decode code 8 = .ok (.new 87, 3) := by decide +kernel
theorem d_law_11 : decode code 11 = .ok (.dup, 1) := by decide +kernel
theorem d_law_12 : decode code 12 = .ok (.invokespecial 89, 3) := by decide +kernel
theorem d_law_15 : decode code 15 = .ok (.astore_n 2, 1) := by decide +kernel
theorem d_law_16 : decode code 16 = .ok (.iconst 1, 1) := by decide +kernel
theorem d_law_17 : decode code 17 = .ok (.newarray .long, 2) := by decide +kernel
theorem d_law_19 : decode code 19 = .ok (.astore_n 3, 1) := by decide +kernel
theorem d_law_20 : decode code 20 = .ok (.iconst 0, 1) := by decide +kernel
theorem d_law_21 : decode code 21 = .ok (.istore 4, 2) := by decide +kernel
theorem d_law_23 : decode code 23 = .ok (.iload 4, 2) := by decide +kernel
theorem d_law_25 : decode code 25 = .ok (.aload_n 0, 1) := by decide +kernel
theorem d_law_26 : decode code 26 = .ok (.arraylength, 1) := by decide +kernel
theorem d_law_27 : decode code 27 = .ok (.iconst 5, 1) := by decide +kernel
theorem d_law_28 : decode code 28 = .ok (.isub, 1) := by decide +kernel
theorem d_law_29 : decode code 29 = .ok (.if_icmp .gt 1723, 3) := by decide +kernel
theorem d_law_32 : decode code 32 = .ok (.aload_n 0, 1) := by decide +kernel
theorem d_law_33 : decode code 33 = .ok (.iload 4, 2) := by decide +kernel
theorem d_law_35 : decode code 35 = .ok (.iaload, 1) := by decide +kernel
theorem d_law_36 : decode code 36 = .ok (.bipush 31, 2) := by decide +kernel
theorem d_law_38 : decode code 38 = .ok (.iand, 1) := by decide +kernel
theorem d_law_39 : decode code 39 = .ok (.tableswitch 1707 0 24 #[113, 205, 285, 388, 479, 570, 611, 679, 747, 803, 844, 900, 944, 988, 1044, 1147, 1203, 1271, 1346, 1421, 1477, 1490, 1558, 1638, 1651], 113) := by decide +kernel
theorem d_law_152 : decode code 152 = .ok (.aload_n 1, 1) := by decide +kernel
theorem d_law_153 : decode code 153 = .ok (.aload_n 0, 1) := by decide +kernel
theorem d_law_154 : decode code 154 = .ok (.iload 4, 2) := by decide +kernel
theorem d_law_156 : decode code 156 = .ok (.iconst 1, 1) := by decide +kernel
theorem d_law_157 : decode code 157 = .ok (.iadd, 1) := by decide +kernel
theorem d_law_158 : decode code 158 = .ok (.iaload, 1) := by decide +kernel
theorem d_law_159 : decode code 159 = .ok (.aload_n 0, 1) := by decide +kernel
theorem d_law_160 : decode code 160 = .ok (.iload 4, 2) := by decide +kernel
theorem d_law_162 : decode code 162 = .ok (.iconst 2, 1) := by decide +kernel
theorem d_law_163 : decode code 163 = .ok (.iadd, 1) := by decide +kernel
theorem d_law_164 : decode code 164 = .ok (.iaload, 1) := by decide +kernel
theorem d_law_165 : decode code 165 = .ok (.aload_n 0, 1) := by decide +kernel
theorem d_law_166 : decode code 166 = .ok (.iload 4, 2) := by decide +kernel
theorem d_law_168 : decode code 168 = .ok (.iconst 3, 1) := by decide +kernel
theorem d_law_169 : decode code 169 = .ok (.iadd, 1) := by decide +kernel
theorem d_law_170 : decode code 170 = .ok (.iaload, 1) := by decide +kernel
theorem d_law_171 : decode code 171 = .ok (.aload_n 0, 1) := by decide +kernel
theorem d_law_172 : decode code 172 = .ok (.iload 4, 2) := by decide +kernel
theorem d_law_174 : decode code 174 = .ok (.iconst 4, 1) := by decide +kernel
theorem d_law_175 : decode code 175 = .ok (.iadd, 1) := by decide +kernel
theorem d_law_176 : decode code 176 = .ok (.iaload, 1) := by decide +kernel
theorem d_law_177 : decode code 177 = .ok (.aload_n 3, 1) := by decide +kernel
theorem d_law_178 : decode code 178 = .ok (.invokestatic 90, 3) := by decide +kernel
theorem d_law_181 : decode code 181 = .ok (.istore 5, 2) := by decide +kernel
theorem d_law_183 : decode code 183 = .ok (.aload_n 2, 1) := by decide +kernel
theorem d_law_184 : decode code 184 = .ok (.aload_n 0, 1) := by decide +kernel
theorem d_law_185 : decode code 185 = .ok (.iload 4, 2) := by decide +kernel
theorem d_law_187 : decode code 187 = .ok (.iconst 1, 1) := by decide +kernel
theorem d_law_188 : decode code 188 = .ok (.iadd, 1) := by decide +kernel
theorem d_law_189 : decode code 189 = .ok (.iaload, 1) := by decide +kernel
theorem d_law_190 : decode code 190 = .ok (.aload_n 0, 1) := by decide +kernel
theorem d_law_191 : decode code 191 = .ok (.iload 4, 2) := by decide +kernel
theorem d_law_193 : decode code 193 = .ok (.iconst 2, 1) := by decide +kernel
theorem d_law_194 : decode code 194 = .ok (.iadd, 1) := by decide +kernel
theorem d_law_195 : decode code 195 = .ok (.iaload, 1) := by decide +kernel
theorem d_law_196 : decode code 196 = .ok (.aload_n 0, 1) := by decide +kernel
theorem d_law_197 : decode code 197 = .ok (.iload 4, 2) := by decide +kernel
theorem d_law_199 : decode code 199 = .ok (.iconst 3, 1) := by decide +kernel
theorem d_law_200 : decode code 200 = .ok (.iadd, 1) := by decide +kernel
theorem d_law_201 : decode code 201 = .ok (.iaload, 1) := by decide +kernel
theorem d_law_202 : decode code 202 = .ok (.aload_n 0, 1) := by decide +kernel
theorem d_law_203 : decode code 203 = .ok (.iload 4, 2) := by decide +kernel
theorem d_law_205 : decode code 205 = .ok (.iconst 4, 1) := by decide +kernel
theorem d_law_206 : decode code 206 = .ok (.iadd, 1) := by decide +kernel
theorem d_law_207 : decode code 207 = .ok (.iaload, 1) := by decide +kernel
theorem d_law_208 : decode code 208 = .ok (.invokevirtual 95, 3) := by decide +kernel
theorem d_law_211 : decode code 211 = .ok (.istore 6, 2) := by decide +kernel
theorem d_law_213 : decode code 213 = .ok (.aload_n 2, 1) := by decide +kernel
theorem d_law_214 : decode code 214 = .ok (.invokevirtual 96, 3) := by decide +kernel
theorem d_law_217 : decode code 217 = .ok (.iload 5, 2) := by decide +kernel
theorem d_law_219 : decode code 219 = .ok (.if_icmp .eq 5, 3) := by decide +kernel
theorem d_law_222 : decode code 222 = .ok (.iconst 0, 1) := by decide +kernel
theorem d_law_223 : decode code 223 = .ok (.ireturn, 1) := by decide +kernel
theorem d_law_224 : decode code 224 = .ok (.iload 5, 2) := by decide +kernel
theorem d_law_226 : decode code 226 = .ok (.ifCond .ne 15, 3) := by decide +kernel
theorem d_law_229 : decode code 229 = .ok (.aload_n 3, 1) := by decide +kernel
theorem d_law_230 : decode code 230 = .ok (.iconst 0, 1) := by decide +kernel
theorem d_law_231 : decode code 231 = .ok (.laload, 1) := by decide +kernel
theorem d_law_232 : decode code 232 = .ok (.iload 6, 2) := by decide +kernel
theorem d_law_234 : decode code 234 = .ok (.i2l, 1) := by decide +kernel
theorem d_law_235 : decode code 235 = .ok (.lcmp, 1) := by decide +kernel
theorem d_law_236 : decode code 236 = .ok (.ifCond .eq 5, 3) := by decide +kernel
theorem d_law_239 : decode code 239 = .ok (.iconst 0, 1) := by decide +kernel
theorem d_law_240 : decode code 240 = .ok (.ireturn, 1) := by decide +kernel
theorem d_law_241 : decode code 241 = .ok (.goto 1505, 3) := by decide +kernel
theorem d_law_244 : decode code 244 = .ok (.aload_n 1, 1) := by decide +kernel
theorem d_law_245 : decode code 245 = .ok (.aload_n 0, 1) := by decide +kernel
theorem d_law_246 : decode code 246 = .ok (.iload 4, 2) := by decide +kernel
theorem d_law_248 : decode code 248 = .ok (.iconst 1, 1) := by decide +kernel
theorem d_law_249 : decode code 249 = .ok (.iadd, 1) := by decide +kernel
theorem d_law_250 : decode code 250 = .ok (.iaload, 1) := by decide +kernel
theorem d_law_251 : decode code 251 = .ok (.aload_n 0, 1) := by decide +kernel
theorem d_law_252 : decode code 252 = .ok (.iload 4, 2) := by decide +kernel
theorem d_law_254 : decode code 254 = .ok (.iconst 2, 1) := by decide +kernel
theorem d_law_255 : decode code 255 = .ok (.iadd, 1) := by decide +kernel
theorem d_law_256 : decode code 256 = .ok (.iaload, 1) := by decide +kernel
theorem d_law_257 : decode code 257 = .ok (.aload_n 0, 1) := by decide +kernel
theorem d_law_258 : decode code 258 = .ok (.iload 4, 2) := by decide +kernel
theorem d_law_260 : decode code 260 = .ok (.iconst 3, 1) := by decide +kernel
theorem d_law_261 : decode code 261 = .ok (.iadd, 1) := by decide +kernel
theorem d_law_262 : decode code 262 = .ok (.iaload, 1) := by decide +kernel
theorem d_law_263 : decode code 263 = .ok (.aload_n 3, 1) := by decide +kernel
theorem d_law_264 : decode code 264 = .ok (.invokestatic 99, 3) := by decide +kernel
theorem d_law_267 : decode code 267 = .ok (.istore 5, 2) := by decide +kernel
theorem d_law_269 : decode code 269 = .ok (.aload_n 2, 1) := by decide +kernel
theorem d_law_270 : decode code 270 = .ok (.aload_n 0, 1) := by decide +kernel
theorem d_law_271 : decode code 271 = .ok (.iload 4, 2) := by decide +kernel
theorem d_law_273 : decode code 273 = .ok (.iconst 1, 1) := by decide +kernel
theorem d_law_274 : decode code 274 = .ok (.iadd, 1) := by decide +kernel
theorem d_law_275 : decode code 275 = .ok (.iaload, 1) := by decide +kernel
theorem d_law_276 : decode code 276 = .ok (.aload_n 0, 1) := by decide +kernel
theorem d_law_277 : decode code 277 = .ok (.iload 4, 2) := by decide +kernel
theorem d_law_279 : decode code 279 = .ok (.iconst 2, 1) := by decide +kernel
theorem d_law_280 : decode code 280 = .ok (.iadd, 1) := by decide +kernel
theorem d_law_281 : decode code 281 = .ok (.iaload, 1) := by decide +kernel
theorem d_law_282 : decode code 282 = .ok (.aload_n 0, 1) := by decide +kernel
theorem d_law_283 : decode code 283 = .ok (.iload 4, 2) := by decide +kernel
theorem d_law_285 : decode code 285 = .ok (.iconst 3, 1) := by decide +kernel
theorem d_law_286 : decode code 286 = .ok (.iadd, 1) := by decide +kernel
theorem d_law_287 : decode code 287 = .ok (.iaload, 1) := by decide +kernel
theorem d_law_288 : decode code 288 = .ok (.invokevirtual 102, 3) := by decide +kernel
theorem d_law_291 : decode code 291 = .ok (.istore 6, 2) := by decide +kernel
theorem d_law_293 : decode code 293 = .ok (.aload_n 2, 1) := by decide +kernel
theorem d_law_294 : decode code 294 = .ok (.invokevirtual 96, 3) := by decide +kernel
theorem d_law_297 : decode code 297 = .ok (.iload 5, 2) := by decide +kernel
theorem d_law_299 : decode code 299 = .ok (.if_icmp .eq 5, 3) := by decide +kernel
theorem d_law_302 : decode code 302 = .ok (.iconst 0, 1) := by decide +kernel
