/-! the instructions -/
theorem d_mo_commit_121 : decode prog_8_method_38_code 121 = .ok (.ireturn, 1) := by decide +kernel
theorem d_mo_commit_122 : decode prog_8_method_38_code 122 = .ok (.iconst 0, 1) := by decide +kernel
theorem d_mo_commit_123 : decode prog_8_method_38_code 123 = .ok (.istore 4, 2) := by decide +kernel
theorem d_mo_commit_125 : decode prog_8_method_38_code 125 = .ok (.iload 4, 2) := by decide +kernel
theorem d_mo_commit_127 : decode prog_8_method_38_code 127 = .ok (.sipush 21312, 3) := by decide +kernel
theorem d_mo_commit_130 : decode prog_8_method_38_code 130 = .ok (.if_icmp .ge 29, 3) := by decide +kernel
theorem d_mo_commit_133 : decode prog_8_method_38_code 133 = .ok (.aload_n 0, 1) := by decide +kernel
theorem d_mo_commit_134 : decode prog_8_method_38_code 134 = .ok (.getfield 58, 3) := by decide +kernel
theorem d_mo_commit_137 : decode prog_8_method_38_code 137 = .ok (.sipush 21312, 3) := by decide +kernel
theorem d_mo_commit_140 : decode prog_8_method_38_code 140 = .ok (.iload_n 3, 1) := by decide +kernel
theorem d_mo_commit_141 : decode prog_8_method_38_code 141 = .ok (.imul, 1) := by decide +kernel
theorem d_mo_commit_142 : decode prog_8_method_38_code 142 = .ok (.iload 4, 2) := by decide +kernel
theorem d_mo_commit_144 : decode prog_8_method_38_code 144 = .ok (.iadd, 1) := by decide +kernel
theorem d_mo_commit_145 : decode prog_8_method_38_code 145 = .ok (.aload_n 0, 1) := by decide +kernel
theorem d_mo_commit_146 : decode prog_8_method_38_code 146 = .ok (.getfield 54, 3) := by decide +kernel
theorem d_mo_commit_149 : decode prog_8_method_38_code 149 = .ok (.iload 4, 2) := by decide +kernel
theorem d_mo_commit_151 : decode prog_8_method_38_code 151 = .ok (.baload, 1) := by decide +kernel
theorem d_mo_commit_152 : decode prog_8_method_38_code 152 = .ok (.bastore, 1) := by decide +kernel
theorem d_mo_commit_153 : decode prog_8_method_38_code 153 = .ok (.iinc 4 1, 3) := by decide +kernel
theorem d_mo_commit_156 : decode prog_8_method_38_code 156 = .ok (.goto (-31), 3) := by decide +kernel
theorem d_mo_commit_159 : decode prog_8_method_38_code 159 = .ok (.aload_n 0, 1) := by decide +kernel
theorem d_mo_commit_160 : decode prog_8_method_38_code 160 = .ok (.getfield 61, 3) := by decide +kernel
theorem d_mo_commit_163 : decode prog_8_method_38_code 163 = .ok (.iload_n 3, 1) := by decide +kernel
theorem d_mo_commit_164 : decode prog_8_method_38_code 164 = .ok (.aload_n 0, 1) := by decide +kernel
theorem d_mo_commit_165 : decode prog_8_method_38_code 165 = .ok (.getfield 101, 3) := by decide +kernel
theorem d_mo_commit_168 : decode prog_8_method_38_code 168 = .ok (.iastore, 1) := by decide +kernel
theorem d_mo_commit_169 : decode prog_8_method_38_code 169 = .ok (.aload_n 0, 1) := by decide +kernel
theorem d_mo_commit_170 : decode prog_8_method_38_code 170 = .ok (.iload_n 3, 1) := by decide +kernel
theorem d_mo_commit_171 : decode prog_8_method_38_code 171 = .ok (.putfield 70, 3) := by decide +kernel
theorem d_mo_commit_174 : decode prog_8_method_38_code 174 = .ok (.aload_n 0, 1) := by decide +kernel
theorem d_mo_commit_175 : decode prog_8_method_38_code 175 = .ok (.invokevirtual 149, 3) := by decide +kernel
theorem d_mo_commit_178 : decode prog_8_method_38_code 178 = .ok (.ireturn, 1) := by decide +kernel
theorem d_mo_count_0 : decode prog_8_method_44_code 0 = .ok (.aload_n 0, 1) := by decide +kernel
theorem d_mo_count_1 : decode prog_8_method_44_code 1 = .ok (.iload_n 1, 1) := by decide +kernel
theorem d_mo_count_2 : decode prog_8_method_44_code 2 = .ok (.iconst 0, 1) := by decide +kernel
theorem d_mo_count_3 : decode prog_8_method_44_code 3 = .ok (.bipush 10, 2) := by decide +kernel
theorem d_mo_count_5 : decode prog_8_method_44_code 5 = .ok (.invokestatic 82, 3) := by decide +kernel
theorem d_mo_count_8 : decode prog_8_method_44_code 8 = .ok (.iconst 1, 1) := by decide +kernel
theorem d_mo_count_9 : decode prog_8_method_44_code 9 = .ok (.iconst 1, 1) := by decide +kernel
theorem d_mo_count_10 : decode prog_8_method_44_code 10 = .ok (.invokevirtual 86, 3) := by decide +kernel
theorem d_mo_count_13 : decode prog_8_method_44_code 13 = .ok (.ifCond .ne 5, 3) := by decide +kernel
theorem d_mo_count_16 : decode prog_8_method_44_code 16 = .ok (.iconst 0, 1) := by decide +kernel
theorem d_mo_count_17 : decode prog_8_method_44_code 17 = .ok (.ireturn, 1) := by decide +kernel
theorem d_mo_count_18 : decode prog_8_method_44_code 18 = .ok (.iload_n 1, 1) := by decide +kernel
theorem d_mo_count_19 : decode prog_8_method_44_code 19 = .ok (.tableswitch 87 0 10 #[57, 62, 87, 87, 87, 67, 72, 77, 87, 87, 82], 57) := by decide +kernel
theorem d_mo_count_76 : decode prog_8_method_44_code 76 = .ok (.aload_n 0, 1) := by decide +kernel
theorem d_mo_count_77 : decode prog_8_method_44_code 77 = .ok (.getfield 79, 3) := by decide +kernel
theorem d_mo_count_80 : decode prog_8_method_44_code 80 = .ok (.ireturn, 1) := by decide +kernel
theorem d_mo_count_81 : decode prog_8_method_44_code 81 = .ok (.aload_n 0, 1) := by decide +kernel
theorem d_mo_count_82 : decode prog_8_method_44_code 82 = .ok (.getfield 90, 3) := by decide +kernel
theorem d_mo_count_85 : decode prog_8_method_44_code 85 = .ok (.ireturn, 1) := by decide +kernel
theorem d_mo_count_86 : decode prog_8_method_44_code 86 = .ok (.aload_n 0, 1) := by decide +kernel
theorem d_mo_count_87 : decode prog_8_method_44_code 87 = .ok (.getfield 101, 3) := by decide +kernel
theorem d_mo_count_90 : decode prog_8_method_44_code 90 = .ok (.ireturn, 1) := by decide +kernel
theorem d_mo_count_91 : decode prog_8_method_44_code 91 = .ok (.aload_n 0, 1) := by decide +kernel
theorem d_mo_count_92 : decode prog_8_method_44_code 92 = .ok (.getfield 50, 3) := by decide +kernel
theorem d_mo_count_95 : decode prog_8_method_44_code 95 = .ok (.ireturn, 1) := by decide +kernel
theorem d_mo_count_96 : decode prog_8_method_44_code 96 = .ok (.aload_n 0, 1) := by decide +kernel
theorem d_mo_count_97 : decode prog_8_method_44_code 97 = .ok (.invokevirtual 149, 3) := by decide +kernel
theorem d_mo_count_100 : decode prog_8_method_44_code 100 = .ok (.ireturn, 1) := by decide +kernel
theorem d_mo_count_101 : decode prog_8_method_44_code 101 = .ok (.aload_n 0, 1) := by decide +kernel
theorem d_mo_count_102 : decode prog_8_method_44_code 102 = .ok (.getfield 70, 3) := by decide +kernel
theorem d_mo_count_105 : decode prog_8_method_44_code 105 = .ok (.ireturn, 1) := by decide +kernel
theorem d_mo_count_106 : decode prog_8_method_44_code 106 = .ok (.aload_n 0, 1) := by decide +kernel
theorem d_mo_count_107 : decode prog_8_method_44_code 107 = .ok (.iload_n 1, 1) := by decide +kernel
theorem d_mo_count_108 : decode prog_8_method_44_code 108 = .ok (.invokevirtual 156, 3) := by decide +kernel
theorem d_mo_count_111 : decode prog_8_method_44_code 111 = .ok (.ireturn, 1) := by decide +kernel
theorem d_mo_coupler_0 : decode prog_8_method_7_code 0 = .ok (.aload_n 0, 1) := by decide +kernel
theorem d_mo_coupler_1 : decode prog_8_method_7_code 1 = .ok (.iload_n 1, 1) := by decide +kernel
theorem d_mo_coupler_2 : decode prog_8_method_7_code 2 = .ok (.iconst 0, 1) := by decide +kernel
theorem d_mo_coupler_3 : decode prog_8_method_7_code 3 = .ok (.iconst 4, 1) := by decide +kernel
theorem d_mo_coupler_4 : decode prog_8_method_7_code 4 = .ok (.invokestatic 82, 3) := by decide +kernel
theorem d_mo_coupler_7 : decode prog_8_method_7_code 7 = .ok (.ifCond .eq 16, 3) := by decide +kernel
theorem d_mo_coupler_10 : decode prog_8_method_7_code 10 = .ok (.iload_n 2, 1) := by decide +kernel
theorem d_mo_coupler_11 : decode prog_8_method_7_code 11 = .ok (.iconst 0, 1) := by decide +kernel
theorem d_mo_coupler_12 : decode prog_8_method_7_code 12 = .ok (.iconst 4, 1) := by decide +kernel
theorem d_mo_coupler_13 : decode prog_8_method_7_code 13 = .ok (.invokestatic 82, 3) := by decide +kernel
theorem d_mo_coupler_16 : decode prog_8_method_7_code 16 = .ok (.ifCond .eq 7, 3) := by decide +kernel
theorem d_mo_coupler_19 : decode prog_8_method_7_code 19 = .ok (.iconst 1, 1) := by decide +kernel
theorem d_mo_coupler_20 : decode prog_8_method_7_code 20 = .ok (.goto 4, 3) := by decide +kernel
theorem d_mo_coupler_23 : decode prog_8_method_7_code 23 = .ok (.iconst 0, 1) := by decide +kernel
theorem d_mo_coupler_24 : decode prog_8_method_7_code 24 = .ok (.iload_n 3, 1) := by decide +kernel
theorem d_mo_coupler_25 : decode prog_8_method_7_code 25 = .ok (.bipush (-24), 2) := by decide +kernel
theorem d_mo_coupler_27 : decode prog_8_method_7_code 27 = .ok (.bipush 24, 2) := by decide +kernel
theorem d_mo_coupler_29 : decode prog_8_method_7_code 29 = .ok (.invokestatic 82, 3) := by decide +kernel
theorem d_mo_coupler_32 : decode prog_8_method_7_code 32 = .ok (.aload_n 0, 1) := by decide +kernel
theorem d_mo_coupler_33 : decode prog_8_method_7_code 33 = .ok (.getfield 90, 3) := by decide +kernel
theorem d_mo_coupler_36 : decode prog_8_method_7_code 36 = .ok (.bipush 16, 2) := by decide +kernel
theorem d_mo_coupler_38 : decode prog_8_method_7_code 38 = .ok (.if_icmp .ge 7, 3) := by decide +kernel
theorem d_mo_coupler_41 : decode prog_8_method_7_code 41 = .ok (.iconst 1, 1) := by decide +kernel
theorem d_mo_coupler_42 : decode prog_8_method_7_code 42 = .ok (.goto 4, 3) := by decide +kernel
theorem d_mo_coupler_45 : decode prog_8_method_7_code 45 = .ok (.iconst 0, 1) := by decide +kernel
theorem d_mo_coupler_46 : decode prog_8_method_7_code 46 = .ok (.invokevirtual 86, 3) := by decide +kernel
theorem d_mo_coupler_49 : decode prog_8_method_7_code 49 = .ok (.ifCond .ne 5, 3) := by decide +kernel
theorem d_mo_coupler_52 : decode prog_8_method_7_code 52 = .ok (.iconst 0, 1) := by decide +kernel
theorem d_mo_coupler_53 : decode prog_8_method_7_code 53 = .ok (.ireturn, 1) := by decide +kernel
theorem d_mo_coupler_54 : decode prog_8_method_7_code 54 = .ok (.aload_n 0, 1) := by decide +kernel
theorem d_mo_coupler_55 : decode prog_8_method_7_code 55 = .ok (.getfield 35, 3) := by decide +kernel
theorem d_mo_coupler_58 : decode prog_8_method_7_code 58 = .ok (.aload_n 0, 1) := by decide +kernel
theorem d_mo_coupler_59 : decode prog_8_method_7_code 59 = .ok (.getfield 90, 3) := by decide +kernel
theorem d_mo_coupler_62 : decode prog_8_method_7_code 62 = .ok (.iload_n 1, 1) := by decide +kernel
theorem d_mo_coupler_63 : decode prog_8_method_7_code 63 = .ok (.iastore, 1) := by decide +kernel
theorem d_mo_coupler_64 : decode prog_8_method_7_code 64 = .ok (.aload_n 0, 1) := by decide +kernel
theorem d_mo_coupler_65 : decode prog_8_method_7_code 65 = .ok (.getfield 38, 3) := by decide +kernel
theorem d_mo_coupler_68 : decode prog_8_method_7_code 68 = .ok (.aload_n 0, 1) := by decide +kernel
theorem d_mo_coupler_69 : decode prog_8_method_7_code 69 = .ok (.getfield 90, 3) := by decide +kernel
theorem d_mo_coupler_72 : decode prog_8_method_7_code 72 = .ok (.iload_n 2, 1) := by decide +kernel
theorem d_mo_coupler_73 : decode prog_8_method_7_code 73 = .ok (.iastore, 1) := by decide +kernel
theorem d_mo_coupler_74 : decode prog_8_method_7_code 74 = .ok (.aload_n 0, 1) := by decide +kernel
theorem d_mo_coupler_75 : decode prog_8_method_7_code 75 = .ok (.getfield 41, 3) := by decide +kernel
theorem d_mo_coupler_78 : decode prog_8_method_7_code 78 = .ok (.aload_n 0, 1) := by decide +kernel
theorem d_mo_coupler_79 : decode prog_8_method_7_code 79 = .ok (.getfield 90, 3) := by decide +kernel
theorem d_mo_coupler_82 : decode prog_8_method_7_code 82 = .ok (.iload_n 3, 1) := by decide +kernel
theorem d_mo_coupler_83 : decode prog_8_method_7_code 83 = .ok (.iastore, 1) := by decide +kernel
theorem d_mo_coupler_84 : decode prog_8_method_7_code 84 = .ok (.aload_n 0, 1) := by decide +kernel
theorem d_mo_coupler_85 : decode prog_8_method_7_code 85 = .ok (.dup, 1) := by decide +kernel
theorem d_mo_coupler_86 : decode prog_8_method_7_code 86 = .ok (.getfield 90, 3) := by decide +kernel
theorem d_mo_coupler_89 : decode prog_8_method_7_code 89 = .ok (.iconst 1, 1) := by decide +kernel
theorem d_mo_coupler_90 : decode prog_8_method_7_code 90 = .ok (.iadd, 1) := by decide +kernel
theorem d_mo_coupler_91 : decode prog_8_method_7_code 91 = .ok (.putfield 90, 3) := by decide +kernel
theorem d_mo_coupler_94 : decode prog_8_method_7_code 94 = .ok (.aload_n 0, 1) := by decide +kernel
theorem d_mo_coupler_95 : decode prog_8_method_7_code 95 = .ok (.getfield 90, 3) := by decide +kernel
theorem d_mo_coupler_98 : decode prog_8_method_7_code 98 = .ok (.iconst 1, 1) := by decide +kernel
theorem d_mo_coupler_99 : decode prog_8_method_7_code 99 = .ok (.isub, 1) := by decide +kernel
theorem d_mo_coupler_100 : decode prog_8_method_7_code 100 = .ok (.ireturn, 1) := by decide +kernel
theorem d_mo_delete_0 : decode prog_8_method_23_code 0 = .ok (.aload_n 0, 1) := by decide +kernel
theorem d_mo_delete_1 : decode prog_8_method_23_code 1 = .ok (.aload_n 0, 1) := by decide +kernel
theorem d_mo_delete_2 : decode prog_8_method_23_code 2 = .ok (.getfield 121, 3) := by decide +kernel
theorem d_mo_delete_5 : decode prog_8_method_23_code 5 = .ok (.ifCond .ne 14, 3) := by decide +kernel
theorem d_mo_delete_8 : decode prog_8_method_23_code 8 = .ok (.aload_n 0, 1) := by decide +kernel
theorem d_mo_delete_9 : decode prog_8_method_23_code 9 = .ok (.getfield 50, 3) := by decide +kernel
theorem d_mo_delete_12 : decode prog_8_method_23_code 12 = .ok (.ifCond .lt 7, 3) := by decide +kernel
theorem d_mo_delete_15 : decode prog_8_method_23_code 15 = .ok (.iconst 1, 1) := by decide +kernel
theorem d_mo_delete_16 : decode prog_8_method_23_code 16 = .ok (.goto 4, 3) := by decide +kernel
theorem d_mo_delete_19 : decode prog_8_method_23_code 19 = .ok (.iconst 0, 1) := by decide +kernel
theorem d_mo_delete_20 : decode prog_8_method_23_code 20 = .ok (.iconst 1, 1) := by decide +kernel
theorem d_mo_delete_21 : decode prog_8_method_23_code 21 = .ok (.iconst 1, 1) := by decide +kernel
theorem d_mo_delete_22 : decode prog_8_method_23_code 22 = .ok (.invokevirtual 86, 3) := by decide +kernel
theorem d_mo_delete_25 : decode prog_8_method_23_code 25 = .ok (.ifCond .ne 5, 3) := by decide +kernel
theorem d_mo_delete_28 : decode prog_8_method_23_code 28 = .ok (.iconst 0, 1) := by decide +kernel
theorem d_mo_delete_29 : decode prog_8_method_23_code 29 = .ok (.ireturn, 1) := by decide +kernel
theorem d_mo_delete_30 : decode prog_8_method_23_code 30 = .ok (.aload_n 0, 1) := by decide +kernel
theorem d_mo_delete_31 : decode prog_8_method_23_code 31 = .ok (.getfield 50, 3) := by decide +kernel
theorem d_mo_delete_34 : decode prog_8_method_23_code 34 = .ok (.istore_n 1, 1) := by decide +kernel
theorem d_mo_delete_35 : decode prog_8_method_23_code 35 = .ok (.iload_n 1, 1) := by decide +kernel
theorem d_mo_delete_36 : decode prog_8_method_23_code 36 = .ok (.iconst 1, 1) := by decide +kernel
theorem d_mo_delete_37 : decode prog_8_method_23_code 37 = .ok (.iadd, 1) := by decide +kernel
theorem d_mo_delete_38 : decode prog_8_method_23_code 38 = .ok (.aload_n 0, 1) := by decide +kernel
theorem d_mo_delete_39 : decode prog_8_method_23_code 39 = .ok (.getfield 101, 3) := by decide +kernel
theorem d_mo_delete_42 : decode prog_8_method_23_code 42 = .ok (.if_icmp .ge 56, 3) := by decide +kernel
theorem d_mo_delete_45 : decode prog_8_method_23_code 45 = .ok (.iconst 0, 1) := by decide +kernel
theorem d_mo_delete_46 : decode prog_8_method_23_code 46 = .ok (.istore_n 2, 1) := by decide +kernel
theorem d_mo_delete_47 : decode prog_8_method_23_code 47 = .ok (.iload_n 2, 1) := by decide +kernel
theorem d_mo_delete_48 : decode prog_8_method_23_code 48 = .ok (.bipush 48, 2) := by decide +kernel
theorem d_mo_delete_50 : decode prog_8_method_23_code 50 = .ok (.if_icmp .ge 42, 3) := by decide +kernel
theorem d_mo_delete_53 : decode prog_8_method_23_code 53 = .ok (.aload_n 0, 1) := by decide +kernel
theorem d_mo_delete_54 : decode prog_8_method_23_code 54 = .ok (.getfield 54, 3) := by decide +kernel
theorem d_mo_delete_57 : decode prog_8_method_23_code 57 = .ok (.sipush 15744, 3) := by decide +kernel
theorem d_mo_delete_60 : decode prog_8_method_23_code 60 = .ok (.bipush 48, 2) := by decide +kernel
theorem d_mo_delete_62 : decode prog_8_method_23_code 62 = .ok (.iload_n 1, 1) := by decide +kernel
theorem d_mo_delete_63 : decode prog_8_method_23_code 63 = .ok (.imul, 1) := by decide +kernel
theorem d_mo_delete_64 : decode prog_8_method_23_code 64 = .ok (.iadd, 1) := by decide +kernel
theorem d_mo_delete_65 : decode prog_8_method_23_code 65 = .ok (.iload_n 2, 1) := by decide +kernel
theorem d_mo_delete_66 : decode prog_8_method_23_code 66 = .ok (.iadd, 1) := by decide +kernel
theorem d_mo_delete_67 : decode prog_8_method_23_code 67 = .ok (.aload_n 0, 1) := by decide +kernel
theorem d_mo_delete_68 : decode prog_8_method_23_code 68 = .ok (.getfield 54, 3) := by decide +kernel
theorem d_mo_delete_71 : decode prog_8_method_23_code 71 = .ok (.sipush 15744, 3) := by decide +kernel
theorem d_mo_delete_74 : decode prog_8_method_23_code 74 = .ok (.bipush 48, 2) := by decide +kernel
theorem d_mo_delete_76 : decode prog_8_method_23_code 76 = .ok (.iload_n 1, 1) := by decide +kernel
theorem d_mo_delete_77 : decode prog_8_method_23_code 77 = .ok (.imul, 1) := by decide +kernel
theorem d_mo_delete_78 : decode prog_8_method_23_code 78 = .ok (.iadd, 1) := by decide +kernel
theorem d_mo_delete_79 : decode prog_8_method_23_code 79 = .ok (.bipush 48, 2) := by decide +kernel
theorem d_mo_delete_81 : decode prog_8_method_23_code 81 = .ok (.iadd, 1) := by decide +kernel
theorem d_mo_delete_82 : decode prog_8_method_23_code 82 = .ok (.iload_n 2, 1) := by decide +kernel
theorem d_mo_delete_83 : decode prog_8_method_23_code 83 = .ok (.iadd, 1) := by decide +kernel
theorem d_mo_delete_84 : decode prog_8_method_23_code 84 = .ok (.baload, 1) := by decide +kernel
theorem d_mo_delete_85 : decode prog_8_method_23_code 85 = .ok (.bastore, 1) := by decide +kernel
theorem d_mo_delete_86 : decode prog_8_method_23_code 86 = .ok (.iinc 2 1, 3) := by decide +kernel
theorem d_mo_delete_89 : decode prog_8_method_23_code 89 = .ok (.goto (-42), 3) := by decide +kernel
theorem d_mo_delete_92 : decode prog_8_method_23_code 92 = .ok (.iinc 1 1, 3) := by decide +kernel
theorem d_mo_delete_95 : decode prog_8_method_23_code 95 = .ok (.goto (-60), 3) := by decide +kernel
theorem d_mo_delete_98 : decode prog_8_method_23_code 98 = .ok (.aload_n 0, 1) := by decide +kernel
theorem d_mo_delete_99 : decode prog_8_method_23_code 99 = .ok (.dup, 1) := by decide +kernel
theorem d_mo_delete_100 : decode prog_8_method_23_code 100 = .ok (.getfield 101, 3) := by decide +kernel
theorem d_mo_delete_103 : decode prog_8_method_23_code 103 = .ok (.iconst 1, 1) := by decide +kernel
theorem d_mo_delete_104 : decode prog_8_method_23_code 104 = .ok (.isub, 1) := by decide +kernel
theorem d_mo_delete_105 : decode prog_8_method_23_code 105 = .ok (.putfield 101, 3) := by decide +kernel
theorem d_mo_delete_108 : decode prog_8_method_23_code 108 = .ok (.aload_n 0, 1) := by decide +kernel
theorem d_mo_delete_109 : decode prog_8_method_23_code 109 = .ok (.dup, 1) := by decide +kernel
theorem d_mo_delete_110 : decode prog_8_method_23_code 110 = .ok (.getfield 50, 3) := by decide +kernel
theorem d_mo_delete_113 : decode prog_8_method_23_code 113 = .ok (.iconst 1, 1) := by decide +kernel
theorem d_mo_delete_114 : decode prog_8_method_23_code 114 = .ok (.isub, 1) := by decide +kernel
theorem d_mo_delete_115 : decode prog_8_method_23_code 115 = .ok (.putfield 50, 3) := by decide +kernel
theorem d_mo_delete_118 : decode prog_8_method_23_code 118 = .ok (.aload_n 0, 1) := by decide +kernel
theorem d_mo_delete_119 : decode prog_8_method_23_code 119 = .ok (.getfield 101, 3) := by decide +kernel
theorem d_mo_delete_122 : decode prog_8_method_23_code 122 = .ok (.ireturn, 1) := by decide +kernel
theorem d_mo_fault_0 : decode prog_8_method_41_code 0 = .ok (.iload_n 1, 1) := by decide +kernel
theorem d_mo_fault_1 : decode prog_8_method_41_code 1 = .ok (.ifCond .ne 13, 3) := by decide +kernel
theorem d_mo_fault_4 : decode prog_8_method_41_code 4 = .ok (.iload_n 2, 1) := by decide +kernel
theorem d_mo_fault_5 : decode prog_8_method_41_code 5 = .ok (.iconst 0, 1) := by decide +kernel
theorem d_mo_fault_6 : decode prog_8_method_41_code 6 = .ok (.bipush 39, 2) := by decide +kernel
theorem d_mo_fault_8 : decode prog_8_method_41_code 8 = .ok (.invokestatic 82, 3) := by decide +kernel
theorem d_mo_fault_11 : decode prog_8_method_41_code 11 = .ok (.ifCond .ne 16, 3) := by decide +kernel
theorem d_mo_fault_14 : decode prog_8_method_41_code 14 = .ok (.iload_n 1, 1) := by decide +kernel
theorem d_mo_fault_15 : decode prog_8_method_41_code 15 = .ok (.iconst 1, 1) := by decide +kernel
theorem d_mo_fault_16 : decode prog_8_method_41_code 16 = .ok (.if_icmp .ne 15, 3) := by decide +kernel
theorem d_mo_fault_19 : decode prog_8_method_41_code 19 = .ok (.aload_n 0, 1) := by decide +kernel
theorem d_mo_fault_20 : decode prog_8_method_41_code 20 = .ok (.iload_n 2, 1) := by decide +kernel
theorem d_mo_fault_21 : decode prog_8_method_41_code 21 = .ok (.invokevirtual 93, 3) := by decide +kernel
theorem d_mo_fault_24 : decode prog_8_method_41_code 24 = .ok (.ifCond .eq 7, 3) := by decide +kernel
theorem d_mo_fault_27 : decode prog_8_method_41_code 27 = .ok (.iconst 1, 1) := by decide +kernel
theorem d_mo_fault_28 : decode prog_8_method_41_code 28 = .ok (.goto 4, 3) := by decide +kernel
theorem d_mo_fault_31 : decode prog_8_method_41_code 31 = .ok (.iconst 0, 1) := by decide +kernel
theorem d_mo_fault_32 : decode prog_8_method_41_code 32 = .ok (.istore 4, 2) := by decide +kernel
theorem d_mo_fault_34 : decode prog_8_method_41_code 34 = .ok (.aload_n 0, 1) := by decide +kernel
theorem d_mo_fault_35 : decode prog_8_method_41_code 35 = .ok (.iload 4, 2) := by decide +kernel
theorem d_mo_fault_37 : decode prog_8_method_41_code 37 = .ok (.iload_n 3, 1) := by decide +kernel
theorem d_mo_fault_38 : decode prog_8_method_41_code 38 = .ok (.iconst 0, 1) := by decide +kernel
theorem d_mo_fault_39 : decode prog_8_method_41_code 39 = .ok (.iconst 2, 1) := by decide +kernel
theorem d_mo_fault_40 : decode prog_8_method_41_code 40 = .ok (.invokestatic 82, 3) := by decide +kernel
theorem d_mo_fault_43 : decode prog_8_method_41_code 43 = .ok (.iconst 1, 1) := by decide +kernel
theorem d_mo_fault_44 : decode prog_8_method_41_code 44 = .ok (.invokevirtual 86, 3) := by decide +kernel
theorem d_mo_fault_47 : decode prog_8_method_41_code 47 = .ok (.ifCond .ne 5, 3) := by decide +kernel
theorem d_mo_fault_50 : decode prog_8_method_41_code 50 = .ok (.iconst 0, 1) := by decide +kernel
theorem d_mo_fault_51 : decode prog_8_method_41_code 51 = .ok (.ireturn, 1) := by decide +kernel
theorem d_mo_fault_52 : decode prog_8_method_41_code 52 = .ok (.iload_n 1, 1) := by decide +kernel
theorem d_mo_fault_53 : decode prog_8_method_41_code 53 = .ok (.ifCond .ne 12, 3) := by decide +kernel
theorem d_mo_fault_56 : decode prog_8_method_41_code 56 = .ok (.aload_n 0, 1) := by decide +kernel
theorem d_mo_fault_57 : decode prog_8_method_41_code 57 = .ok (.getfield 73, 3) := by decide +kernel
theorem d_mo_fault_60 : decode prog_8_method_41_code 60 = .ok (.iload_n 2, 1) := by decide +kernel
theorem d_mo_fault_61 : decode prog_8_method_41_code 61 = .ok (.iaload, 1) := by decide +kernel
theorem d_mo_fault_62 : decode prog_8_method_41_code 62 = .ok (.goto 9, 3) := by decide +kernel
theorem d_mo_fault_65 : decode prog_8_method_41_code 65 = .ok (.aload_n 0, 1) := by decide +kernel
theorem d_mo_fault_66 : decode prog_8_method_41_code 66 = .ok (.getfield 32, 3) := by decide +kernel
theorem d_mo_fault_69 : decode prog_8_method_41_code 69 = .ok (.iload_n 2, 1) := by decide +kernel
theorem d_mo_fault_70 : decode prog_8_method_41_code 70 = .ok (.iaload, 1) := by decide +kernel
theorem d_mo_fault_71 : decode prog_8_method_41_code 71 = .ok (.istore 5, 2) := by decide +kernel
theorem d_mo_fault_73 : decode prog_8_method_41_code 73 = .ok (.iload_n 1, 1) := by decide +kernel
theorem d_mo_fault_74 : decode prog_8_method_41_code 74 = .ok (.ifCond .ne 13, 3) := by decide +kernel
theorem d_mo_fault_77 : decode prog_8_method_41_code 77 = .ok (.aload_n 0, 1) := by decide +kernel
theorem d_mo_fault_78 : decode prog_8_method_41_code 78 = .ok (.getfield 73, 3) := by decide +kernel
theorem d_mo_fault_81 : decode prog_8_method_41_code 81 = .ok (.iload_n 2, 1) := by decide +kernel
theorem d_mo_fault_82 : decode prog_8_method_41_code 82 = .ok (.iload_n 3, 1) := by decide +kernel
theorem d_mo_fault_83 : decode prog_8_method_41_code 83 = .ok (.iastore, 1) := by decide +kernel
theorem d_mo_fault_84 : decode prog_8_method_41_code 84 = .ok (.goto 10, 3) := by decide +kernel
theorem d_mo_fault_87 : decode prog_8_method_41_code 87 = .ok (.aload_n 0, 1) := by decide +kernel
theorem d_mo_fault_88 : decode prog_8_method_41_code 88 = .ok (.getfield 32, 3) := by decide +kernel
theorem d_mo_fault_91 : decode prog_8_method_41_code 91 = .ok (.iload_n 2, 1) := by decide +kernel
theorem d_mo_fault_92 : decode prog_8_method_41_code 92 = .ok (.iload_n 3, 1) := by decide +kernel
theorem d_mo_fault_93 : decode prog_8_method_41_code 93 = .ok (.iastore, 1) := by decide +kernel
theorem d_mo_fault_94 : decode prog_8_method_41_code 94 = .ok (.iload 5, 2) := by decide +kernel
theorem d_mo_fault_96 : decode prog_8_method_41_code 96 = .ok (.ireturn, 1) := by decide +kernel
theorem d_mo_full_0 : decode prog_8_method_11_code 0 = .ok (.aload_n 0, 1) := by decide +kernel
theorem d_mo_full_1 : decode prog_8_method_11_code 1 = .ok (.iconst 0, 1) := by decide +kernel
theorem d_mo_full_2 : decode prog_8_method_11_code 2 = .ok (.putfield 76, 3) := by decide +kernel
theorem d_mo_full_5 : decode prog_8_method_11_code 5 = .ok (.aload_n 0, 1) := by decide +kernel
theorem d_mo_full_6 : decode prog_8_method_11_code 6 = .ok (.getfield 97, 3) := by decide +kernel
theorem d_mo_full_9 : decode prog_8_method_11_code 9 = .ok (.istore_n 2, 1) := by decide +kernel
theorem d_mo_full_10 : decode prog_8_method_11_code 10 = .ok (.aload_n 0, 1) := by decide +kernel
theorem d_mo_full_11 : decode prog_8_method_11_code 11 = .ok (.iload_n 1, 1) := by decide +kernel
theorem d_mo_full_12 : decode prog_8_method_11_code 12 = .ok (.putfield 97, 3) := by decide +kernel
theorem d_mo_full_15 : decode prog_8_method_11_code 15 = .ok (.iload_n 2, 1) := by decide +kernel
theorem d_mo_full_16 : decode prog_8_method_11_code 16 = .ok (.iload_n 1, 1) := by decide +kernel
theorem d_mo_full_17 : decode prog_8_method_11_code 17 = .ok (.if_icmp .eq 7, 3) := by decide +kernel
theorem d_mo_full_20 : decode prog_8_method_11_code 20 = .ok (.iconst 1, 1) := by decide +kernel
theorem d_mo_full_21 : decode prog_8_method_11_code 21 = .ok (.goto 4, 3) := by decide +kernel
theorem d_mo_full_24 : decode prog_8_method_11_code 24 = .ok (.iconst 0, 1) := by decide +kernel
theorem d_mo_full_25 : decode prog_8_method_11_code 25 = .ok (.ireturn, 1) := by decide +kernel
theorem d_mo_goes_0 : decode prog_8_method_3_code 0 = .ok (.aload_n 0, 1) := by decide +kernel
theorem d_mo_goes_1 : decode prog_8_method_3_code 1 = .ok (.iload_n 1, 1) := by decide +kernel
theorem d_mo_goes_2 : decode prog_8_method_3_code 2 = .ok (.ifCond .ne 7, 3) := by decide +kernel
theorem d_mo_goes_5 : decode prog_8_method_3_code 5 = .ok (.iconst 1, 1) := by decide +kernel
theorem d_mo_goes_6 : decode prog_8_method_3_code 6 = .ok (.goto 20, 3) := by decide +kernel
theorem d_mo_goes_9 : decode prog_8_method_3_code 9 = .ok (.iload_n 2, 1) := by decide +kernel
theorem d_mo_goes_10 : decode prog_8_method_3_code 10 = .ok (.ifCond .ne 7, 3) := by decide +kernel
theorem d_mo_goes_13 : decode prog_8_method_3_code 13 = .ok (.iconst 2, 1) := by decide +kernel
theorem d_mo_goes_14 : decode prog_8_method_3_code 14 = .ok (.goto 12, 3) := by decide +kernel
theorem d_mo_goes_17 : decode prog_8_method_3_code 17 = .ok (.iload_n 3, 1) := by decide +kernel
theorem d_mo_goes_18 : decode prog_8_method_3_code 18 = .ok (.ifCond .ne 7, 3) := by decide +kernel
theorem d_mo_goes_21 : decode prog_8_method_3_code 21 = .ok (.iconst 3, 1) := by decide +kernel
theorem d_mo_goes_22 : decode prog_8_method_3_code 22 = .ok (.goto 4, 3) := by decide +kernel
theorem d_mo_goes_25 : decode prog_8_method_3_code 25 = .ok (.iconst 0, 1) := by decide +kernel
theorem d_mo_goes_26 : decode prog_8_method_3_code 26 = .ok (.putfield 76, 3) := by decide +kernel
theorem d_mo_goes_29 : decode prog_8_method_3_code 29 = .ok (.aload_n 0, 1) := by decide +kernel
theorem d_mo_goes_30 : decode prog_8_method_3_code 30 = .ok (.getfield 76, 3) := by decide +kernel
theorem d_mo_goes_33 : decode prog_8_method_3_code 33 = .ok (.ifCond .ne 7, 3) := by decide +kernel
theorem d_mo_goes_36 : decode prog_8_method_3_code 36 = .ok (.iconst 1, 1) := by decide +kernel
theorem d_mo_goes_37 : decode prog_8_method_3_code 37 = .ok (.goto 4, 3) := by decide +kernel
theorem d_mo_goes_40 : decode prog_8_method_3_code 40 = .ok (.iconst 0, 1) := by decide +kernel
theorem d_mo_goes_41 : decode prog_8_method_3_code 41 = .ok (.ireturn, 1) := by decide +kernel
theorem d_mo_inScope_0 : decode prog_8_method_14_code 0 = .ok (.iload_n 1, 1) := by decide +kernel
theorem d_mo_inScope_1 : decode prog_8_method_14_code 1 = .ok (.iconst 1, 1) := by decide +kernel
theorem d_mo_inScope_2 : decode prog_8_method_14_code 2 = .ok (.if_icmp .ne 15, 3) := by decide +kernel
theorem d_mo_inScope_5 : decode prog_8_method_14_code 5 = .ok (.aload_n 0, 1) := by decide +kernel
theorem d_mo_inScope_6 : decode prog_8_method_14_code 6 = .ok (.getfield 7, 3) := by decide +kernel
theorem d_mo_inScope_9 : decode prog_8_method_14_code 9 = .ok (.iload_n 3, 1) := by decide +kernel
theorem d_mo_inScope_10 : decode prog_8_method_14_code 10 = .ok (.iaload, 1) := by decide +kernel
theorem d_mo_inScope_11 : decode prog_8_method_14_code 11 = .ok (.iload_n 2, 1) := by decide +kernel
theorem d_mo_inScope_12 : decode prog_8_method_14_code 12 = .ok (.iconst 5, 1) := by decide +kernel
theorem d_mo_inScope_13 : decode prog_8_method_14_code 13 = .ok (.idiv, 1) := by decide +kernel
theorem d_mo_inScope_14 : decode prog_8_method_14_code 14 = .ok (.if_icmp .ne 7, 3) := by decide +kernel
theorem d_mo_inScope_17 : decode prog_8_method_14_code 17 = .ok (.iconst 1, 1) := by decide +kernel
theorem d_mo_inScope_18 : decode prog_8_method_14_code 18 = .ok (.goto 4, 3) := by decide +kernel
theorem d_mo_inScope_21 : decode prog_8_method_14_code 21 = .ok (.iconst 0, 1) := by decide +kernel
theorem d_mo_inScope_22 : decode prog_8_method_14_code 22 = .ok (.ireturn, 1) := by decide +kernel
theorem d_mo_init_0 : decode prog_8_method_1_code 0 = .ok (.aload_n 0, 1) := by decide +kernel
theorem d_mo_init_1 : decode prog_8_method_1_code 1 = .ok (.invokespecial 1, 3) := by decide +kernel
theorem d_mo_init_4 : decode prog_8_method_1_code 4 = .ok (.aload_n 0, 1) := by decide +kernel
theorem d_mo_init_5 : decode prog_8_method_1_code 5 = .ok (.bipush 48, 2) := by decide +kernel
theorem d_mo_init_7 : decode prog_8_method_1_code 7 = .ok (.newarray .int, 2) := by decide +kernel
theorem d_mo_init_9 : decode prog_8_method_1_code 9 = .ok (.putfield 7, 3) := by decide +kernel
theorem d_mo_init_12 : decode prog_8_method_1_code 12 = .ok (.aload_n 0, 1) := by decide +kernel
theorem d_mo_init_13 : decode prog_8_method_1_code 13 = .ok (.bipush 48, 2) := by decide +kernel
theorem d_mo_init_15 : decode prog_8_method_1_code 15 = .ok (.newarray .int, 2) := by decide +kernel
theorem d_mo_init_17 : decode prog_8_method_1_code 17 = .ok (.putfield 13, 3) := by decide +kernel
theorem d_mo_init_20 : decode prog_8_method_1_code 20 = .ok (.aload_n 0, 1) := by decide +kernel
theorem d_mo_init_21 : decode prog_8_method_1_code 21 = .ok (.bipush 48, 2) := by decide +kernel
theorem d_mo_init_23 : decode prog_8_method_1_code 23 = .ok (.newarray .int, 2) := by decide +kernel
theorem d_mo_init_25 : decode prog_8_method_1_code 25 = .ok (.putfield 16, 3) := by decide +kernel
theorem d_mo_init_28 : decode prog_8_method_1_code 28 = .ok (.aload_n 0, 1) := by decide +kernel
theorem d_mo_init_29 : decode prog_8_method_1_code 29 = .ok (.bipush 48, 2) := by decide +kernel
theorem d_mo_init_31 : decode prog_8_method_1_code 31 = .ok (.newarray .int, 2) := by decide +kernel
theorem d_mo_init_33 : decode prog_8_method_1_code 33 = .ok (.putfield 19, 3) := by decide +kernel
theorem d_mo_init_36 : decode prog_8_method_1_code 36 = .ok (.aload_n 0, 1) := by decide +kernel
theorem d_mo_init_37 : decode prog_8_method_1_code 37 = .ok (.bipush 48, 2) := by decide +kernel
theorem d_mo_init_39 : decode prog_8_method_1_code 39 = .ok (.newarray .boolean, 2) := by decide +kernel
theorem d_mo_init_41 : decode prog_8_method_1_code 41 = .ok (.putfield 22, 3) := by decide +kernel
theorem d_mo_init_44 : decode prog_8_method_1_code 44 = .ok (.aload_n 0, 1) := by decide +kernel
theorem d_mo_init_45 : decode prog_8_method_1_code 45 = .ok (.bipush 48, 2) := by decide +kernel
theorem d_mo_init_47 : decode prog_8_method_1_code 47 = .ok (.newarray .int, 2) := by decide +kernel
theorem d_mo_init_49 : decode prog_8_method_1_code 49 = .ok (.putfield 26, 3) := by decide +kernel
theorem d_mo_init_52 : decode prog_8_method_1_code 52 = .ok (.aload_n 0, 1) := by decide +kernel
theorem d_mo_init_53 : decode prog_8_method_1_code 53 = .ok (.bipush 48, 2) := by decide +kernel
theorem d_mo_init_55 : decode prog_8_method_1_code 55 = .ok (.newarray .boolean, 2) := by decide +kernel
theorem d_mo_init_57 : decode prog_8_method_1_code 57 = .ok (.putfield 29, 3) := by decide +kernel
theorem d_mo_init_60 : decode prog_8_method_1_code 60 = .ok (.aload_n 0, 1) := by decide +kernel
theorem d_mo_init_61 : decode prog_8_method_1_code 61 = .ok (.bipush 48, 2) := by decide +kernel
theorem d_mo_init_63 : decode prog_8_method_1_code 63 = .ok (.newarray .int, 2) := by decide +kernel
theorem d_mo_init_65 : decode prog_8_method_1_code 65 = .ok (.putfield 32, 3) := by decide +kernel
theorem d_mo_init_68 : decode prog_8_method_1_code 68 = .ok (.aload_n 0, 1) := by decide +kernel
theorem d_mo_init_69 : decode prog_8_method_1_code 69 = .ok (.bipush 16, 2) := by decide +kernel
theorem d_mo_init_71 : decode prog_8_method_1_code 71 = .ok (.newarray .int, 2) := by decide +kernel
theorem d_mo_init_73 : decode prog_8_method_1_code 73 = .ok (.putfield 35, 3) := by decide +kernel
theorem d_mo_init_76 : decode prog_8_method_1_code 76 = .ok (.aload_n 0, 1) := by decide +kernel
theorem d_mo_init_77 : decode prog_8_method_1_code 77 = .ok (.bipush 16, 2) := by decide +kernel
theorem d_mo_init_79 : decode prog_8_method_1_code 79 = .ok (.newarray .int, 2) := by decide +kernel
theorem d_mo_init_81 : decode prog_8_method_1_code 81 = .ok (.putfield 38, 3) := by decide +kernel
theorem d_mo_init_84 : decode prog_8_method_1_code 84 = .ok (.aload_n 0, 1) := by decide +kernel
theorem d_mo_init_85 : decode prog_8_method_1_code 85 = .ok (.bipush 16, 2) := by decide +kernel
theorem d_mo_init_87 : decode prog_8_method_1_code 87 = .ok (.newarray .int, 2) := by decide +kernel
theorem d_mo_init_89 : decode prog_8_method_1_code 89 = .ok (.putfield 41, 3) := by decide +kernel
theorem d_mo_init_92 : decode prog_8_method_1_code 92 = .ok (.aload_n 0, 1) := by decide +kernel
theorem d_mo_init_93 : decode prog_8_method_1_code 93 = .ok (.bipush 16, 2) := by decide +kernel
theorem d_mo_init_95 : decode prog_8_method_1_code 95 = .ok (.newarray .boolean, 2) := by decide +kernel
theorem d_mo_init_97 : decode prog_8_method_1_code 97 = .ok (.putfield 44, 3) := by decide +kernel
theorem d_mo_init_100 : decode prog_8_method_1_code 100 = .ok (.aload_n 0, 1) := by decide +kernel
theorem d_mo_init_101 : decode prog_8_method_1_code 101 = .ok (.sipush 305, 3) := by decide +kernel
theorem d_mo_init_104 : decode prog_8_method_1_code 104 = .ok (.newarray .boolean, 2) := by decide +kernel
theorem d_mo_init_106 : decode prog_8_method_1_code 106 = .ok (.putfield 47, 3) := by decide +kernel
theorem d_mo_init_109 : decode prog_8_method_1_code 109 = .ok (.aload_n 0, 1) := by decide +kernel
theorem d_mo_init_110 : decode prog_8_method_1_code 110 = .ok (.iconst (-1), 1) := by decide +kernel
theorem d_mo_init_111 : decode prog_8_method_1_code 111 = .ok (.putfield 50, 3) := by decide +kernel
theorem d_mo_init_114 : decode prog_8_method_1_code 114 = .ok (.aload_n 0, 1) := by decide +kernel
theorem d_mo_init_115 : decode prog_8_method_1_code 115 = .ok (.sipush 21312, 3) := by decide +kernel
theorem d_mo_init_118 : decode prog_8_method_1_code 118 = .ok (.newarray .boolean, 2) := by decide +kernel
theorem d_mo_init_120 : decode prog_8_method_1_code 120 = .ok (.putfield 54, 3) := by decide +kernel
theorem d_mo_init_123 : decode prog_8_method_1_code 123 = .ok (.aload_n 0, 1) := by decide +kernel
theorem d_mo_init_124 : decode prog_8_method_1_code 124 = .ok (.ldc 57, 2) := by decide +kernel
theorem d_mo_init_126 : decode prog_8_method_1_code 126 = .ok (.newarray .boolean, 2) := by decide +kernel
theorem d_mo_init_128 : decode prog_8_method_1_code 128 = .ok (.putfield 58, 3) := by decide +kernel
theorem d_mo_init_131 : decode prog_8_method_1_code 131 = .ok (.aload_n 0, 1) := by decide +kernel
theorem d_mo_init_132 : decode prog_8_method_1_code 132 = .ok (.iconst 2, 1) := by decide +kernel
theorem d_mo_init_133 : decode prog_8_method_1_code 133 = .ok (.newarray .int, 2) := by decide +kernel
theorem d_mo_init_135 : decode prog_8_method_1_code 135 = .ok (.putfield 61, 3) := by decide +kernel
theorem d_mo_init_138 : decode prog_8_method_1_code 138 = .ok (.aload_n 0, 1) := by decide +kernel
theorem d_mo_init_139 : decode prog_8_method_1_code 139 = .ok (.bipush 18, 2) := by decide +kernel
theorem d_mo_init_141 : decode prog_8_method_1_code 141 = .ok (.newarray .int, 2) := by decide +kernel
theorem d_mo_init_143 : decode prog_8_method_1_code 143 = .ok (.putfield 64, 3) := by decide +kernel
theorem d_mo_init_146 : decode prog_8_method_1_code 146 = .ok (.aload_n 0, 1) := by decide +kernel
theorem d_mo_init_147 : decode prog_8_method_1_code 147 = .ok (.bipush 18, 2) := by decide +kernel
theorem d_mo_init_149 : decode prog_8_method_1_code 149 = .ok (.newarray .boolean, 2) := by decide +kernel
theorem d_mo_init_151 : decode prog_8_method_1_code 151 = .ok (.putfield 67, 3) := by decide +kernel
theorem d_mo_init_154 : decode prog_8_method_1_code 154 = .ok (.aload_n 0, 1) := by decide +kernel
theorem d_mo_init_155 : decode prog_8_method_1_code 155 = .ok (.iconst (-1), 1) := by decide +kernel
theorem d_mo_init_156 : decode prog_8_method_1_code 156 = .ok (.putfield 70, 3) := by decide +kernel
theorem d_mo_init_159 : decode prog_8_method_1_code 159 = .ok (.aload_n 0, 1) := by decide +kernel
theorem d_mo_init_160 : decode prog_8_method_1_code 160 = .ok (.bipush 40, 2) := by decide +kernel
theorem d_mo_init_162 : decode prog_8_method_1_code 162 = .ok (.newarray .int, 2) := by decide +kernel
theorem d_mo_init_164 : decode prog_8_method_1_code 164 = .ok (.putfield 73, 3) := by decide +kernel
theorem d_mo_init_167 : decode prog_8_method_1_code 167 = .ok (.return_, 1) := by decide +kernel
theorem d_mo_insert_0 : decode prog_8_method_22_code 0 = .ok (.aload_n 0, 1) := by decide +kernel
theorem d_mo_insert_1 : decode prog_8_method_22_code 1 = .ok (.aload_n 0, 1) := by decide +kernel
theorem d_mo_insert_2 : decode prog_8_method_22_code 2 = .ok (.getfield 121, 3) := by decide +kernel
theorem d_mo_insert_5 : decode prog_8_method_22_code 5 = .ok (.ifCond .ne 16, 3) := by decide +kernel
theorem d_mo_insert_8 : decode prog_8_method_22_code 8 = .ok (.aload_n 0, 1) := by decide +kernel
theorem d_mo_insert_9 : decode prog_8_method_22_code 9 = .ok (.getfield 101, 3) := by decide +kernel
theorem d_mo_insert_12 : decode prog_8_method_22_code 12 = .ok (.bipush 100, 2) := by decide +kernel
theorem d_mo_insert_14 : decode prog_8_method_22_code 14 = .ok (.if_icmp .ge 7, 3) := by decide +kernel
theorem d_mo_insert_17 : decode prog_8_method_22_code 17 = .ok (.iconst 1, 1) := by decide +kernel
theorem d_mo_insert_18 : decode prog_8_method_22_code 18 = .ok (.goto 4, 3) := by decide +kernel
theorem d_mo_insert_21 : decode prog_8_method_22_code 21 = .ok (.iconst 0, 1) := by decide +kernel
theorem d_mo_insert_22 : decode prog_8_method_22_code 22 = .ok (.iconst 1, 1) := by decide +kernel
theorem d_mo_insert_23 : decode prog_8_method_22_code 23 = .ok (.iconst 1, 1) := by decide +kernel
theorem d_mo_insert_24 : decode prog_8_method_22_code 24 = .ok (.invokevirtual 86, 3) := by decide +kernel
theorem d_mo_insert_27 : decode prog_8_method_22_code 27 = .ok (.ifCond .ne 5, 3) := by decide +kernel
theorem d_mo_insert_30 : decode prog_8_method_22_code 30 = .ok (.iconst 0, 1) := by decide +kernel
theorem d_mo_insert_31 : decode prog_8_method_22_code 31 = .ok (.ireturn, 1) := by decide +kernel
theorem d_mo_insert_32 : decode prog_8_method_22_code 32 = .ok (.aload_n 0, 1) := by decide +kernel
theorem d_mo_insert_33 : decode prog_8_method_22_code 33 = .ok (.dup, 1) := by decide +kernel
theorem d_mo_insert_34 : decode prog_8_method_22_code 34 = .ok (.getfield 50, 3) := by decide +kernel
theorem d_mo_insert_37 : decode prog_8_method_22_code 37 = .ok (.iconst 1, 1) := by decide +kernel
theorem d_mo_insert_38 : decode prog_8_method_22_code 38 = .ok (.iadd, 1) := by decide +kernel
theorem d_mo_insert_39 : decode prog_8_method_22_code 39 = .ok (.putfield 50, 3) := by decide +kernel
theorem d_mo_insert_42 : decode prog_8_method_22_code 42 = .ok (.aload_n 0, 1) := by decide +kernel
theorem d_mo_insert_43 : decode prog_8_method_22_code 43 = .ok (.getfield 101, 3) := by decide +kernel
theorem d_mo_insert_46 : decode prog_8_method_22_code 46 = .ok (.istore_n 1, 1) := by decide +kernel
theorem d_mo_insert_47 : decode prog_8_method_22_code 47 = .ok (.iload_n 1, 1) := by decide +kernel
theorem d_mo_insert_48 : decode prog_8_method_22_code 48 = .ok (.aload_n 0, 1) := by decide +kernel
theorem d_mo_insert_49 : decode prog_8_method_22_code 49 = .ok (.getfield 50, 3) := by decide +kernel
theorem d_mo_insert_52 : decode prog_8_method_22_code 52 = .ok (.if_icmp .le 56, 3) := by decide +kernel
theorem d_mo_insert_55 : decode prog_8_method_22_code 55 = .ok (.iconst 0, 1) := by decide +kernel
theorem d_mo_insert_56 : decode prog_8_method_22_code 56 = .ok (.istore_n 2, 1) := by decide +kernel
theorem d_mo_insert_57 : decode prog_8_method_22_code 57 = .ok (.iload_n 2, 1) := by decide +kernel
theorem d_mo_insert_58 : decode prog_8_method_22_code 58 = .ok (.bipush 48, 2) := by decide +kernel
theorem d_mo_insert_60 : decode prog_8_method_22_code 60 = .ok (.if_icmp .ge 42, 3) := by decide +kernel
theorem d_mo_insert_63 : decode prog_8_method_22_code 63 = .ok (.aload_n 0, 1) := by decide +kernel
theorem d_mo_insert_64 : decode prog_8_method_22_code 64 = .ok (.getfield 54, 3) := by decide +kernel
theorem d_mo_insert_67 : decode prog_8_method_22_code 67 = .ok (.sipush 15744, 3) := by decide +kernel
theorem d_mo_insert_70 : decode prog_8_method_22_code 70 = .ok (.bipush 48, 2) := by decide +kernel
theorem d_mo_insert_72 : decode prog_8_method_22_code 72 = .ok (.iload_n 1, 1) := by decide +kernel
theorem d_mo_insert_73 : decode prog_8_method_22_code 73 = .ok (.imul, 1) := by decide +kernel
theorem d_mo_insert_74 : decode prog_8_method_22_code 74 = .ok (.iadd, 1) := by decide +kernel
theorem d_mo_insert_75 : decode prog_8_method_22_code 75 = .ok (.iload_n 2, 1) := by decide +kernel
theorem d_mo_insert_76 : decode prog_8_method_22_code 76 = .ok (.iadd, 1) := by decide +kernel
theorem d_mo_insert_77 : decode prog_8_method_22_code 77 = .ok (.aload_n 0, 1) := by decide +kernel
theorem d_mo_insert_78 : decode prog_8_method_22_code 78 = .ok (.getfield 54, 3) := by decide +kernel
theorem d_mo_insert_81 : decode prog_8_method_22_code 81 = .ok (.sipush 15744, 3) := by decide +kernel
theorem d_mo_insert_84 : decode prog_8_method_22_code 84 = .ok (.bipush 48, 2) := by decide +kernel
theorem d_mo_insert_86 : decode prog_8_method_22_code 86 = .ok (.iload_n 1, 1) := by decide +kernel
theorem d_mo_insert_87 : decode prog_8_method_22_code 87 = .ok (.imul, 1) := by decide +kernel
theorem d_mo_insert_88 : decode prog_8_method_22_code 88 = .ok (.iadd, 1) := by decide +kernel
theorem d_mo_insert_89 : decode prog_8_method_22_code 89 = .ok (.bipush 48, 2) := by decide +kernel
theorem d_mo_insert_91 : decode prog_8_method_22_code 91 = .ok (.isub, 1) := by decide +kernel
theorem d_mo_insert_92 : decode prog_8_method_22_code 92 = .ok (.iload_n 2, 1) := by decide +kernel
theorem d_mo_insert_93 : decode prog_8_method_22_code 93 = .ok (.iadd, 1) := by decide +kernel
theorem d_mo_insert_94 : decode prog_8_method_22_code 94 = .ok (.baload, 1) := by decide +kernel
theorem d_mo_insert_95 : decode prog_8_method_22_code 95 = .ok (.bastore, 1) := by decide +kernel
theorem d_mo_insert_96 : decode prog_8_method_22_code 96 = .ok (.iinc 2 1, 3) := by decide +kernel
theorem d_mo_insert_99 : decode prog_8_method_22_code 99 = .ok (.goto (-42), 3) := by decide +kernel
theorem d_mo_insert_102 : decode prog_8_method_22_code 102 = .ok (.iinc 1 (-1), 3) := by decide +kernel
theorem d_mo_insert_105 : decode prog_8_method_22_code 105 = .ok (.goto (-58), 3) := by decide +kernel
theorem d_mo_insert_108 : decode prog_8_method_22_code 108 = .ok (.aload_n 0, 1) := by decide +kernel
theorem d_mo_insert_109 : decode prog_8_method_22_code 109 = .ok (.dup, 1) := by decide +kernel
theorem d_mo_insert_110 : decode prog_8_method_22_code 110 = .ok (.getfield 101, 3) := by decide +kernel
theorem d_mo_insert_113 : decode prog_8_method_22_code 113 = .ok (.iconst 1, 1) := by decide +kernel
theorem d_mo_insert_114 : decode prog_8_method_22_code 114 = .ok (.iadd, 1) := by decide +kernel
theorem d_mo_insert_115 : decode prog_8_method_22_code 115 = .ok (.putfield 101, 3) := by decide +kernel
theorem d_mo_insert_118 : decode prog_8_method_22_code 118 = .ok (.aload_n 0, 1) := by decide +kernel
theorem d_mo_insert_119 : decode prog_8_method_22_code 119 = .ok (.iconst 2, 1) := by decide +kernel
theorem d_mo_insert_120 : decode prog_8_method_22_code 120 = .ok (.aload_n 0, 1) := by decide +kernel
theorem d_mo_insert_121 : decode prog_8_method_22_code 121 = .ok (.getfield 50, 3) := by decide +kernel
theorem d_mo_insert_124 : decode prog_8_method_22_code 124 = .ok (.invokevirtual 124, 3) := by decide +kernel
theorem d_mo_insert_127 : decode prog_8_method_22_code 127 = .ok (.istore_n 1, 1) := by decide +kernel
theorem d_mo_insert_128 : decode prog_8_method_22_code 128 = .ok (.aload_n 0, 1) := by decide +kernel
theorem d_mo_insert_129 : decode prog_8_method_22_code 129 = .ok (.getfield 101, 3) := by decide +kernel
theorem d_mo_insert_132 : decode prog_8_method_22_code 132 = .ok (.ireturn, 1) := by decide +kernel
theorem d_mo_isDown_0 : decode prog_8_method_28_code 0 = .ok (.iload_n 2, 1) := by decide +kernel
theorem d_mo_isDown_1 : decode prog_8_method_28_code 1 = .ok (.ifCond .lt 27, 3) := by decide +kernel
theorem d_mo_isDown_4 : decode prog_8_method_28_code 4 = .ok (.iload_n 2, 1) := by decide +kernel
theorem d_mo_isDown_5 : decode prog_8_method_28_code 5 = .ok (.bipush 61, 2) := by decide +kernel
theorem d_mo_isDown_7 : decode prog_8_method_28_code 7 = .ok (.if_icmp .ge 21, 3) := by decide +kernel
theorem d_mo_isDown_10 : decode prog_8_method_28_code 10 = .ok (.aload_n 0, 1) := by decide +kernel
theorem d_mo_isDown_11 : decode prog_8_method_28_code 11 = .ok (.getfield 47, 3) := by decide +kernel
theorem d_mo_isDown_14 : decode prog_8_method_28_code 14 = .ok (.bipush 61, 2) := by decide +kernel
theorem d_mo_isDown_16 : decode prog_8_method_28_code 16 = .ok (.iload_n 1, 1) := by decide +kernel
theorem d_mo_isDown_17 : decode prog_8_method_28_code 17 = .ok (.imul, 1) := by decide +kernel
theorem d_mo_isDown_18 : decode prog_8_method_28_code 18 = .ok (.iload_n 2, 1) := by decide +kernel
theorem d_mo_isDown_19 : decode prog_8_method_28_code 19 = .ok (.iadd, 1) := by decide +kernel
theorem d_mo_isDown_20 : decode prog_8_method_28_code 20 = .ok (.baload, 1) := by decide +kernel
theorem d_mo_isDown_21 : decode prog_8_method_28_code 21 = .ok (.ifCond .eq 7, 3) := by decide +kernel
theorem d_mo_isDown_24 : decode prog_8_method_28_code 24 = .ok (.iconst 1, 1) := by decide +kernel
theorem d_mo_isDown_25 : decode prog_8_method_28_code 25 = .ok (.goto 4, 3) := by decide +kernel
theorem d_mo_isDown_28 : decode prog_8_method_28_code 28 = .ok (.iconst 0, 1) := by decide +kernel
theorem d_mo_isDown_29 : decode prog_8_method_28_code 29 = .ok (.ireturn, 1) := by decide +kernel
theorem d_mo_isOpen_0 : decode prog_8_method_30_code 0 = .ok (.aload_n 0, 1) := by decide +kernel
theorem d_mo_isOpen_1 : decode prog_8_method_30_code 1 = .ok (.iload_n 1, 1) := by decide +kernel
theorem d_mo_isOpen_2 : decode prog_8_method_30_code 2 = .ok (.invokevirtual 133, 3) := by decide +kernel
theorem d_mo_isOpen_5 : decode prog_8_method_30_code 5 = .ok (.ifCond .eq 48, 3) := by decide +kernel
theorem d_mo_isOpen_8 : decode prog_8_method_30_code 8 = .ok (.iload_n 2, 1) := by decide +kernel
theorem d_mo_isOpen_9 : decode prog_8_method_30_code 9 = .ok (.aload_n 0, 1) := by decide +kernel
theorem d_mo_isOpen_10 : decode prog_8_method_30_code 10 = .ok (.getfield 16, 3) := by decide +kernel
theorem d_mo_isOpen_13 : decode prog_8_method_30_code 13 = .ok (.iload_n 1, 1) := by decide +kernel
theorem d_mo_isOpen_14 : decode prog_8_method_30_code 14 = .ok (.iaload, 1) := by decide +kernel
theorem d_mo_isOpen_15 : decode prog_8_method_30_code 15 = .ok (.if_icmp .lt 38, 3) := by decide +kernel
theorem d_mo_isOpen_18 : decode prog_8_method_30_code 18 = .ok (.iload_n 2, 1) := by decide +kernel
theorem d_mo_isOpen_19 : decode prog_8_method_30_code 19 = .ok (.aload_n 0, 1) := by decide +kernel
theorem d_mo_isOpen_20 : decode prog_8_method_30_code 20 = .ok (.getfield 19, 3) := by decide +kernel
theorem d_mo_isOpen_23 : decode prog_8_method_30_code 23 = .ok (.iload_n 1, 1) := by decide +kernel
theorem d_mo_isOpen_24 : decode prog_8_method_30_code 24 = .ok (.iaload, 1) := by decide +kernel
theorem d_mo_isOpen_25 : decode prog_8_method_30_code 25 = .ok (.if_icmp .gt 28, 3) := by decide +kernel
theorem d_mo_isOpen_28 : decode prog_8_method_30_code 28 = .ok (.aload_n 0, 1) := by decide +kernel
theorem d_mo_isOpen_29 : decode prog_8_method_30_code 29 = .ok (.aload_n 0, 1) := by decide +kernel
theorem d_mo_isOpen_30 : decode prog_8_method_30_code 30 = .ok (.getfield 7, 3) := by decide +kernel
theorem d_mo_isOpen_33 : decode prog_8_method_30_code 33 = .ok (.iload_n 1, 1) := by decide +kernel
theorem d_mo_isOpen_34 : decode prog_8_method_30_code 34 = .ok (.iaload, 1) := by decide +kernel
theorem d_mo_isOpen_35 : decode prog_8_method_30_code 35 = .ok (.iload_n 2, 1) := by decide +kernel
theorem d_mo_isOpen_36 : decode prog_8_method_30_code 36 = .ok (.aload_n 0, 1) := by decide +kernel
theorem d_mo_isOpen_37 : decode prog_8_method_30_code 37 = .ok (.getfield 13, 3) := by decide +kernel
theorem d_mo_isOpen_40 : decode prog_8_method_30_code 40 = .ok (.iload_n 1, 1) := by decide +kernel
theorem d_mo_isOpen_41 : decode prog_8_method_30_code 41 = .ok (.iaload, 1) := by decide +kernel
theorem d_mo_isOpen_42 : decode prog_8_method_30_code 42 = .ok (.isub, 1) := by decide +kernel
theorem d_mo_isOpen_43 : decode prog_8_method_30_code 43 = .ok (.invokevirtual 136, 3) := by decide +kernel
theorem d_mo_isOpen_46 : decode prog_8_method_30_code 46 = .ok (.ifCond .eq 7, 3) := by decide +kernel
theorem d_mo_isOpen_49 : decode prog_8_method_30_code 49 = .ok (.iconst 1, 1) := by decide +kernel
theorem d_mo_isOpen_50 : decode prog_8_method_30_code 50 = .ok (.goto 4, 3) := by decide +kernel
theorem d_mo_isOpen_53 : decode prog_8_method_30_code 53 = .ok (.iconst 0, 1) := by decide +kernel
theorem d_mo_isOpen_54 : decode prog_8_method_30_code 54 = .ok (.ireturn, 1) := by decide +kernel
theorem d_mo_isSet_0 : decode prog_8_method_12_code 0 = .ok (.iload_n 1, 1) := by decide +kernel
theorem d_mo_isSet_1 : decode prog_8_method_12_code 1 = .ok (.ifCond .ne 13, 3) := by decide +kernel
theorem d_mo_isSet_4 : decode prog_8_method_12_code 4 = .ok (.iload_n 2, 1) := by decide +kernel
theorem d_mo_isSet_5 : decode prog_8_method_12_code 5 = .ok (.iconst 0, 1) := by decide +kernel
theorem d_mo_isSet_6 : decode prog_8_method_12_code 6 = .ok (.bipush 15, 2) := by decide +kernel
theorem d_mo_isSet_8 : decode prog_8_method_12_code 8 = .ok (.invokestatic 82, 3) := by decide +kernel
theorem d_mo_isSet_11 : decode prog_8_method_12_code 11 = .ok (.ifCond .ne 35, 3) := by decide +kernel
theorem d_mo_isSet_14 : decode prog_8_method_12_code 14 = .ok (.iload_n 1, 1) := by decide +kernel
theorem d_mo_isSet_15 : decode prog_8_method_12_code 15 = .ok (.iconst 1, 1) := by decide +kernel
theorem d_mo_isSet_16 : decode prog_8_method_12_code 16 = .ok (.if_icmp .ne 13, 3) := by decide +kernel
theorem d_mo_isSet_19 : decode prog_8_method_12_code 19 = .ok (.iload_n 2, 1) := by decide +kernel
theorem d_mo_isSet_20 : decode prog_8_method_12_code 20 = .ok (.iconst 0, 1) := by decide +kernel
theorem d_mo_isSet_21 : decode prog_8_method_12_code 21 = .ok (.bipush 24, 2) := by decide +kernel
theorem d_mo_isSet_23 : decode prog_8_method_12_code 23 = .ok (.invokestatic 82, 3) := by decide +kernel
theorem d_mo_isSet_26 : decode prog_8_method_12_code 26 = .ok (.ifCond .ne 20, 3) := by decide +kernel
theorem d_mo_isSet_29 : decode prog_8_method_12_code 29 = .ok (.iload_n 1, 1) := by decide +kernel
theorem d_mo_isSet_30 : decode prog_8_method_12_code 30 = .ok (.iconst 2, 1) := by decide +kernel
theorem d_mo_isSet_31 : decode prog_8_method_12_code 31 = .ok (.if_icmp .ne 19, 3) := by decide +kernel
theorem d_mo_isSet_34 : decode prog_8_method_12_code 34 = .ok (.iload_n 2, 1) := by decide +kernel
theorem d_mo_isSet_35 : decode prog_8_method_12_code 35 = .ok (.ifCond .lt 15, 3) := by decide +kernel
theorem d_mo_isSet_38 : decode prog_8_method_12_code 38 = .ok (.iload_n 2, 1) := by decide +kernel
theorem d_mo_isSet_39 : decode prog_8_method_12_code 39 = .ok (.aload_n 0, 1) := by decide +kernel
theorem d_mo_isSet_40 : decode prog_8_method_12_code 40 = .ok (.getfield 101, 3) := by decide +kernel
theorem d_mo_isSet_43 : decode prog_8_method_12_code 43 = .ok (.if_icmp .ge 7, 3) := by decide +kernel
theorem d_mo_isSet_46 : decode prog_8_method_12_code 46 = .ok (.iconst 1, 1) := by decide +kernel
theorem d_mo_isSet_47 : decode prog_8_method_12_code 47 = .ok (.goto 4, 3) := by decide +kernel
theorem d_mo_isSet_50 : decode prog_8_method_12_code 50 = .ok (.iconst 0, 1) := by decide +kernel
theorem d_mo_isSet_51 : decode prog_8_method_12_code 51 = .ok (.ireturn, 1) := by decide +kernel
theorem d_mo_isStop_0 : decode prog_8_method_5_code 0 = .ok (.iload_n 1, 1) := by decide +kernel
theorem d_mo_isStop_1 : decode prog_8_method_5_code 1 = .ok (.ifCond .lt 15, 3) := by decide +kernel
theorem d_mo_isStop_4 : decode prog_8_method_5_code 4 = .ok (.iload_n 1, 1) := by decide +kernel
theorem d_mo_isStop_5 : decode prog_8_method_5_code 5 = .ok (.aload_n 0, 1) := by decide +kernel
theorem d_mo_isStop_6 : decode prog_8_method_5_code 6 = .ok (.getfield 79, 3) := by decide +kernel
theorem d_mo_isStop_9 : decode prog_8_method_5_code 9 = .ok (.if_icmp .ge 7, 3) := by decide +kernel
theorem d_mo_isStop_12 : decode prog_8_method_5_code 12 = .ok (.iconst 1, 1) := by decide +kernel
theorem d_mo_isStop_13 : decode prog_8_method_5_code 13 = .ok (.goto 4, 3) := by decide +kernel
theorem d_mo_isStop_16 : decode prog_8_method_5_code 16 = .ok (.iconst 0, 1) := by decide +kernel
theorem d_mo_isStop_17 : decode prog_8_method_5_code 17 = .ok (.ireturn, 1) := by decide +kernel
theorem d_mo_key_0 : decode prog_8_method_8_code 0 = .ok (.aload_n 0, 1) := by decide +kernel
theorem d_mo_key_1 : decode prog_8_method_8_code 1 = .ok (.iload_n 1, 1) := by decide +kernel
theorem d_mo_key_2 : decode prog_8_method_8_code 2 = .ok (.iconst 0, 1) := by decide +kernel
theorem d_mo_key_3 : decode prog_8_method_8_code 3 = .ok (.iconst 4, 1) := by decide +kernel
theorem d_mo_key_4 : decode prog_8_method_8_code 4 = .ok (.invokestatic 82, 3) := by decide +kernel
theorem d_mo_key_7 : decode prog_8_method_8_code 7 = .ok (.ifCond .eq 27, 3) := by decide +kernel
theorem d_mo_key_10 : decode prog_8_method_8_code 10 = .ok (.iload_n 2, 1) := by decide +kernel
theorem d_mo_key_11 : decode prog_8_method_8_code 11 = .ok (.ifCond .lt 23, 3) := by decide +kernel
theorem d_mo_key_14 : decode prog_8_method_8_code 14 = .ok (.iload_n 2, 1) := by decide +kernel
theorem d_mo_key_15 : decode prog_8_method_8_code 15 = .ok (.iload_n 1, 1) := by decide +kernel
theorem d_mo_key_16 : decode prog_8_method_8_code 16 = .ok (.iconst 4, 1) := by decide +kernel
theorem d_mo_key_17 : decode prog_8_method_8_code 17 = .ok (.if_icmp .ne 8, 3) := by decide +kernel
theorem d_mo_key_20 : decode prog_8_method_8_code 20 = .ok (.bipush 32, 2) := by decide +kernel
theorem d_mo_key_22 : decode prog_8_method_8_code 22 = .ok (.goto 5, 3) := by decide +kernel
theorem d_mo_key_25 : decode prog_8_method_8_code 25 = .ok (.bipush 61, 2) := by decide +kernel
theorem d_mo_key_27 : decode prog_8_method_8_code 27 = .ok (.if_icmp .ge 7, 3) := by decide +kernel
theorem d_mo_key_30 : decode prog_8_method_8_code 30 = .ok (.iconst 1, 1) := by decide +kernel
theorem d_mo_key_31 : decode prog_8_method_8_code 31 = .ok (.goto 4, 3) := by decide +kernel
theorem d_mo_key_34 : decode prog_8_method_8_code 34 = .ok (.iconst 0, 1) := by decide +kernel
theorem d_mo_key_35 : decode prog_8_method_8_code 35 = .ok (.iconst 1, 1) := by decide +kernel
theorem d_mo_key_36 : decode prog_8_method_8_code 36 = .ok (.iconst 1, 1) := by decide +kernel
theorem d_mo_key_37 : decode prog_8_method_8_code 37 = .ok (.invokevirtual 86, 3) := by decide +kernel
theorem d_mo_key_40 : decode prog_8_method_8_code 40 = .ok (.ifCond .ne 5, 3) := by decide +kernel
theorem d_mo_key_43 : decode prog_8_method_8_code 43 = .ok (.iconst 0, 1) := by decide +kernel
theorem d_mo_key_44 : decode prog_8_method_8_code 44 = .ok (.ireturn, 1) := by decide +kernel
theorem d_mo_key_45 : decode prog_8_method_8_code 45 = .ok (.aload_n 0, 1) := by decide +kernel
theorem d_mo_key_46 : decode prog_8_method_8_code 46 = .ok (.getfield 47, 3) := by decide +kernel
theorem d_mo_key_49 : decode prog_8_method_8_code 49 = .ok (.bipush 61, 2) := by decide +kernel
theorem d_mo_key_51 : decode prog_8_method_8_code 51 = .ok (.iload_n 1, 1) := by decide +kernel
theorem d_mo_key_52 : decode prog_8_method_8_code 52 = .ok (.imul, 1) := by decide +kernel
theorem d_mo_key_53 : decode prog_8_method_8_code 53 = .ok (.iload_n 2, 1) := by decide +kernel
theorem d_mo_key_54 : decode prog_8_method_8_code 54 = .ok (.iadd, 1) := by decide +kernel
theorem d_mo_key_55 : decode prog_8_method_8_code 55 = .ok (.baload, 1) := by decide +kernel
theorem d_mo_key_56 : decode prog_8_method_8_code 56 = .ok (.istore 4, 2) := by decide +kernel
theorem d_mo_key_58 : decode prog_8_method_8_code 58 = .ok (.aload_n 0, 1) := by decide +kernel
theorem d_mo_key_59 : decode prog_8_method_8_code 59 = .ok (.getfield 47, 3) := by decide +kernel
theorem d_mo_key_62 : decode prog_8_method_8_code 62 = .ok (.bipush 61, 2) := by decide +kernel
theorem d_mo_key_64 : decode prog_8_method_8_code 64 = .ok (.iload_n 1, 1) := by decide +kernel
theorem d_mo_key_65 : decode prog_8_method_8_code 65 = .ok (.imul, 1) := by decide +kernel
theorem d_mo_key_66 : decode prog_8_method_8_code 66 = .ok (.iload_n 2, 1) := by decide +kernel
theorem d_mo_key_67 : decode prog_8_method_8_code 67 = .ok (.iadd, 1) := by decide +kernel
theorem d_mo_key_68 : decode prog_8_method_8_code 68 = .ok (.iload_n 3, 1) := by decide +kernel
theorem d_mo_key_69 : decode prog_8_method_8_code 69 = .ok (.bastore, 1) := by decide +kernel
theorem d_mo_key_70 : decode prog_8_method_8_code 70 = .ok (.iload 4, 2) := by decide +kernel
theorem d_mo_key_72 : decode prog_8_method_8_code 72 = .ok (.iload_n 3, 1) := by decide +kernel
