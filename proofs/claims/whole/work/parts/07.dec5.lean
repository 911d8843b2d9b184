theorem dX4_operation_48 : decode cX4_operation 48 = .ok (.ifCond .ne 7, 3) := by decide +kernel
theorem dX4_operation_51 : decode cX4_operation 51 = .ok (.iconst 1, 1) := by decide +kernel
theorem dX4_operation_52 : decode cX4_operation 52 = .ok (.goto 4, 3) := by decide +kernel
theorem dX4_operation_55 : decode cX4_operation 55 = .ok (.iconst 0, 1) := by decide +kernel
theorem dX4_operation_56 : decode cX4_operation 56 = .ok (.iload 7, 2) := by decide +kernel
theorem dX4_operation_58 : decode cX4_operation 58 = .ok (.ifCond .eq 19, 3) := by decide +kernel
theorem dX4_operation_61 : decode cX4_operation 61 = .ok (.aload_n 0, 1) := by decide +kernel
theorem dX4_operation_62 : decode cX4_operation 62 = .ok (.getfield 17, 3) := by decide +kernel
theorem dX4_operation_65 : decode cX4_operation 65 = .ok (.iload 8, 2) := by decide +kernel
theorem dX4_operation_67 : decode cX4_operation 67 = .ok (.iaload, 1) := by decide +kernel
theorem dX4_operation_68 : decode cX4_operation 68 = .ok (.bipush 10, 2) := by decide +kernel
theorem dX4_operation_70 : decode cX4_operation 70 = .ok (.if_icmp .ne 7, 3) := by decide +kernel
theorem dX4_operation_73 : decode cX4_operation 73 = .ok (.iconst 1, 1) := by decide +kernel
theorem dX4_operation_74 : decode cX4_operation 74 = .ok (.goto 4, 3) := by decide +kernel
theorem dX4_operation_77 : decode cX4_operation 77 = .ok (.iconst 0, 1) := by decide +kernel
theorem dX4_operation_78 : decode cX4_operation 78 = .ok (.invokevirtual 76, 3) := by decide +kernel
theorem dX4_operation_81 : decode cX4_operation 81 = .ok (.ifCond .eq 5, 3) := by decide +kernel
theorem dX4_operation_84 : decode cX4_operation 84 = .ok (.iconst 0, 1) := by decide +kernel
theorem dX4_operation_85 : decode cX4_operation 85 = .ok (.ireturn, 1) := by decide +kernel
theorem dX4_operation_86 : decode cX4_operation 86 = .ok (.bipush 40, 2) := by decide +kernel
theorem dX4_operation_88 : decode cX4_operation 88 = .ok (.iload 8, 2) := by decide +kernel
theorem dX4_operation_90 : decode cX4_operation 90 = .ok (.imul, 1) := by decide +kernel
theorem dX4_operation_91 : decode cX4_operation 91 = .ok (.iconst 4, 1) := by decide +kernel
theorem dX4_operation_92 : decode cX4_operation 92 = .ok (.aload_n 0, 1) := by decide +kernel
theorem dX4_operation_93 : decode cX4_operation 93 = .ok (.getfield 17, 3) := by decide +kernel
theorem dX4_operation_96 : decode cX4_operation 96 = .ok (.iload 8, 2) := by decide +kernel
theorem dX4_operation_98 : decode cX4_operation 98 = .ok (.iaload, 1) := by decide +kernel
theorem dX4_operation_99 : decode cX4_operation 99 = .ok (.imul, 1) := by decide +kernel
theorem dX4_operation_100 : decode cX4_operation 100 = .ok (.iadd, 1) := by decide +kernel
theorem dX4_operation_101 : decode cX4_operation 101 = .ok (.istore 9, 2) := by decide +kernel
theorem dX4_operation_103 : decode cX4_operation 103 = .ok (.aload_n 0, 1) := by decide +kernel
theorem dX4_operation_104 : decode cX4_operation 104 = .ok (.getfield 20, 3) := by decide +kernel
theorem dX4_operation_107 : decode cX4_operation 107 = .ok (.iload 9, 2) := by decide +kernel
theorem dX4_operation_109 : decode cX4_operation 109 = .ok (.iload_n 3, 1) := by decide +kernel
theorem dX4_operation_110 : decode cX4_operation 110 = .ok (.iastore, 1) := by decide +kernel
theorem dX4_operation_111 : decode cX4_operation 111 = .ok (.aload_n 0, 1) := by decide +kernel
theorem dX4_operation_112 : decode cX4_operation 112 = .ok (.getfield 20, 3) := by decide +kernel
theorem dX4_operation_115 : decode cX4_operation 115 = .ok (.iload 9, 2) := by decide +kernel
theorem dX4_operation_117 : decode cX4_operation 117 = .ok (.iconst 1, 1) := by decide +kernel
theorem dX4_operation_118 : decode cX4_operation 118 = .ok (.iadd, 1) := by decide +kernel
theorem dX4_operation_119 : decode cX4_operation 119 = .ok (.iload 4, 2) := by decide +kernel
theorem dX4_operation_121 : decode cX4_operation 121 = .ok (.iastore, 1) := by decide +kernel
theorem dX4_operation_122 : decode cX4_operation 122 = .ok (.aload_n 0, 1) := by decide +kernel
theorem dX4_operation_123 : decode cX4_operation 123 = .ok (.getfield 20, 3) := by decide +kernel
theorem dX4_operation_126 : decode cX4_operation 126 = .ok (.iload 9, 2) := by decide +kernel
theorem dX4_operation_128 : decode cX4_operation 128 = .ok (.iconst 2, 1) := by decide +kernel
theorem dX4_operation_129 : decode cX4_operation 129 = .ok (.iadd, 1) := by decide +kernel
theorem dX4_operation_130 : decode cX4_operation 130 = .ok (.iload 5, 2) := by decide +kernel
theorem dX4_operation_132 : decode cX4_operation 132 = .ok (.iastore, 1) := by decide +kernel
theorem dX4_operation_133 : decode cX4_operation 133 = .ok (.aload_n 0, 1) := by decide +kernel
theorem dX4_operation_134 : decode cX4_operation 134 = .ok (.getfield 20, 3) := by decide +kernel
theorem dX4_operation_137 : decode cX4_operation 137 = .ok (.iload 9, 2) := by decide +kernel
theorem dX4_operation_139 : decode cX4_operation 139 = .ok (.iconst 3, 1) := by decide +kernel
theorem dX4_operation_140 : decode cX4_operation 140 = .ok (.iadd, 1) := by decide +kernel
theorem dX4_operation_141 : decode cX4_operation 141 = .ok (.iload 6, 2) := by decide +kernel
theorem dX4_operation_143 : decode cX4_operation 143 = .ok (.iastore, 1) := by decide +kernel
theorem dX4_operation_144 : decode cX4_operation 144 = .ok (.aload_n 0, 1) := by decide +kernel
theorem dX4_operation_145 : decode cX4_operation 145 = .ok (.getfield 17, 3) := by decide +kernel
theorem dX4_operation_148 : decode cX4_operation 148 = .ok (.iload 8, 2) := by decide +kernel
theorem dX4_operation_150 : decode cX4_operation 150 = .ok (.dup2, 1) := by decide +kernel
theorem dX4_operation_151 : decode cX4_operation 151 = .ok (.iaload, 1) := by decide +kernel
theorem dX4_operation_152 : decode cX4_operation 152 = .ok (.iconst 1, 1) := by decide +kernel
theorem dX4_operation_153 : decode cX4_operation 153 = .ok (.iadd, 1) := by decide +kernel
theorem dX4_operation_154 : decode cX4_operation 154 = .ok (.iastore, 1) := by decide +kernel
theorem dX4_operation_155 : decode cX4_operation 155 = .ok (.aload_n 0, 1) := by decide +kernel
theorem dX4_operation_156 : decode cX4_operation 156 = .ok (.getfield 30, 3) := by decide +kernel
theorem dX4_operation_159 : decode cX4_operation 159 = .ok (.iload 8, 2) := by decide +kernel
theorem dX4_operation_161 : decode cX4_operation 161 = .ok (.iconst 1, 1) := by decide +kernel
theorem dX4_operation_162 : decode cX4_operation 162 = .ok (.bastore, 1) := by decide +kernel
theorem dX4_operation_163 : decode cX4_operation 163 = .ok (.aload_n 0, 1) := by decide +kernel
theorem dX4_operation_164 : decode cX4_operation 164 = .ok (.getfield 17, 3) := by decide +kernel
theorem dX4_operation_167 : decode cX4_operation 167 = .ok (.iload 8, 2) := by decide +kernel
theorem dX4_operation_169 : decode cX4_operation 169 = .ok (.iaload, 1) := by decide +kernel
theorem dX4_operation_170 : decode cX4_operation 170 = .ok (.ireturn, 1) := by decide +kernel
theorem dX4_strip_0 : decode cX4_strip 0 = .ok (.aload_n 0, 1) := by decide +kernel
theorem dX4_strip_1 : decode cX4_strip 1 = .ok (.aload_n 0, 1) := by decide +kernel
theorem dX4_strip_2 : decode cX4_strip 2 = .ok (.iload_n 1, 1) := by decide +kernel
theorem dX4_strip_3 : decode cX4_strip 3 = .ok (.iload_n 2, 1) := by decide +kernel
theorem dX4_strip_4 : decode cX4_strip 4 = .ok (.invokevirtual 87, 3) := by decide +kernel
theorem dX4_strip_7 : decode cX4_strip 7 = .ok (.ifCond .ne 7, 3) := by decide +kernel
theorem dX4_strip_10 : decode cX4_strip 10 = .ok (.iconst 1, 1) := by decide +kernel
theorem dX4_strip_11 : decode cX4_strip 11 = .ok (.goto 4, 3) := by decide +kernel
theorem dX4_strip_14 : decode cX4_strip 14 = .ok (.iconst 0, 1) := by decide +kernel
theorem dX4_strip_15 : decode cX4_strip 15 = .ok (.iconst 0, 1) := by decide +kernel
theorem dX4_strip_16 : decode cX4_strip 16 = .ok (.invokevirtual 76, 3) := by decide +kernel
theorem dX4_strip_19 : decode cX4_strip 19 = .ok (.ifCond .eq 5, 3) := by decide +kernel
theorem dX4_strip_22 : decode cX4_strip 22 = .ok (.iconst 0, 1) := by decide +kernel
theorem dX4_strip_23 : decode cX4_strip 23 = .ok (.ireturn, 1) := by decide +kernel
theorem dX4_strip_24 : decode cX4_strip 24 = .ok (.iconst 4, 1) := by decide +kernel
theorem dX4_strip_25 : decode cX4_strip 25 = .ok (.iload_n 1, 1) := by decide +kernel
theorem dX4_strip_26 : decode cX4_strip 26 = .ok (.imul, 1) := by decide +kernel
theorem dX4_strip_27 : decode cX4_strip 27 = .ok (.iload_n 2, 1) := by decide +kernel
theorem dX4_strip_28 : decode cX4_strip 28 = .ok (.iadd, 1) := by decide +kernel
theorem dX4_strip_29 : decode cX4_strip 29 = .ok (.istore_n 3, 1) := by decide +kernel
theorem dX4_strip_30 : decode cX4_strip 30 = .ok (.aload_n 0, 1) := by decide +kernel
theorem dX4_strip_31 : decode cX4_strip 31 = .ok (.getfield 17, 3) := by decide +kernel
theorem dX4_strip_34 : decode cX4_strip 34 = .ok (.iload_n 3, 1) := by decide +kernel
theorem dX4_strip_35 : decode cX4_strip 35 = .ok (.iaload, 1) := by decide +kernel
theorem dX4_strip_36 : decode cX4_strip 36 = .ok (.istore 4, 2) := by decide +kernel
theorem dX4_strip_38 : decode cX4_strip 38 = .ok (.aload_n 0, 1) := by decide +kernel
theorem dX4_strip_39 : decode cX4_strip 39 = .ok (.getfield 17, 3) := by decide +kernel
theorem dX4_strip_42 : decode cX4_strip 42 = .ok (.iload_n 3, 1) := by decide +kernel
theorem dX4_strip_43 : decode cX4_strip 43 = .ok (.iconst 0, 1) := by decide +kernel
theorem dX4_strip_44 : decode cX4_strip 44 = .ok (.iastore, 1) := by decide +kernel
theorem dX4_strip_45 : decode cX4_strip 45 = .ok (.aload_n 0, 1) := by decide +kernel
theorem dX4_strip_46 : decode cX4_strip 46 = .ok (.getfield 30, 3) := by decide +kernel
theorem dX4_strip_49 : decode cX4_strip 49 = .ok (.iload_n 3, 1) := by decide +kernel
theorem dX4_strip_50 : decode cX4_strip 50 = .ok (.aload_n 0, 1) := by decide +kernel
theorem dX4_strip_51 : decode cX4_strip 51 = .ok (.getfield 30, 3) := by decide +kernel
theorem dX4_strip_54 : decode cX4_strip 54 = .ok (.iload_n 3, 1) := by decide +kernel
theorem dX4_strip_55 : decode cX4_strip 55 = .ok (.baload, 1) := by decide +kernel
theorem dX4_strip_56 : decode cX4_strip 56 = .ok (.ifCond .ne 8, 3) := by decide +kernel
theorem dX4_strip_59 : decode cX4_strip 59 = .ok (.iload 4, 2) := by decide +kernel
theorem dX4_strip_61 : decode cX4_strip 61 = .ok (.ifCond .le 7, 3) := by decide +kernel
theorem dX4_strip_64 : decode cX4_strip 64 = .ok (.iconst 1, 1) := by decide +kernel
theorem dX4_strip_65 : decode cX4_strip 65 = .ok (.goto 4, 3) := by decide +kernel
theorem dX4_strip_68 : decode cX4_strip 68 = .ok (.iconst 0, 1) := by decide +kernel
theorem dX4_strip_69 : decode cX4_strip 69 = .ok (.bastore, 1) := by decide +kernel
theorem dX4_strip_70 : decode cX4_strip 70 = .ok (.iload 4, 2) := by decide +kernel
theorem dX4_strip_72 : decode cX4_strip 72 = .ok (.ireturn, 1) := by decide +kernel
theorem dX4_target_0 : decode cX4_target 0 = .ok (.iload_n 1, 1) := by decide +kernel
theorem dX4_target_1 : decode cX4_target 1 = .ok (.aload_n 0, 1) := by decide +kernel
theorem dX4_target_2 : decode cX4_target 2 = .ok (.getfield 7, 3) := by decide +kernel
theorem dX4_target_5 : decode cX4_target 5 = .ok (.if_icmp .ge 7, 3) := by decide +kernel
theorem dX4_target_8 : decode cX4_target 8 = .ok (.iload_n 1, 1) := by decide +kernel
theorem dX4_target_9 : decode cX4_target 9 = .ok (.goto 4, 3) := by decide +kernel
theorem dX4_target_12 : decode cX4_target 12 = .ok (.iconst (-1), 1) := by decide +kernel
theorem dX4_target_13 : decode cX4_target 13 = .ok (.istore_n 3, 1) := by decide +kernel
theorem dX4_target_14 : decode cX4_target 14 = .ok (.iload_n 3, 1) := by decide +kernel
theorem dX4_target_15 : decode cX4_target 15 = .ok (.ifCond .lt 26, 3) := by decide +kernel
theorem dX4_target_18 : decode cX4_target 18 = .ok (.aload_n 0, 1) := by decide +kernel
theorem dX4_target_19 : decode cX4_target 19 = .ok (.getfield 17, 3) := by decide +kernel
theorem dX4_target_22 : decode cX4_target 22 = .ok (.iconst 4, 1) := by decide +kernel
theorem dX4_target_23 : decode cX4_target 23 = .ok (.iload_n 3, 1) := by decide +kernel
theorem dX4_target_24 : decode cX4_target 24 = .ok (.imul, 1) := by decide +kernel
theorem dX4_target_25 : decode cX4_target 25 = .ok (.iload_n 2, 1) := by decide +kernel
theorem dX4_target_26 : decode cX4_target 26 = .ok (.iadd, 1) := by decide +kernel
theorem dX4_target_27 : decode cX4_target 27 = .ok (.iaload, 1) := by decide +kernel
theorem dX4_target_28 : decode cX4_target 28 = .ok (.ifCond .ne 13, 3) := by decide +kernel
theorem dX4_target_31 : decode cX4_target 31 = .ok (.aload_n 0, 1) := by decide +kernel
theorem dX4_target_32 : decode cX4_target 32 = .ok (.getfield 13, 3) := by decide +kernel
theorem dX4_target_35 : decode cX4_target 35 = .ok (.iload_n 3, 1) := by decide +kernel
theorem dX4_target_36 : decode cX4_target 36 = .ok (.iaload, 1) := by decide +kernel
theorem dX4_target_37 : decode cX4_target 37 = .ok (.istore_n 3, 1) := by decide +kernel
theorem dX4_target_38 : decode cX4_target 38 = .ok (.goto (-24), 3) := by decide +kernel
theorem dX4_target_41 : decode cX4_target 41 = .ok (.iload_n 3, 1) := by decide +kernel
theorem dX4_target_42 : decode cX4_target 42 = .ok (.ifCond .ge 7, 3) := by decide +kernel
theorem dX4_target_45 : decode cX4_target 45 = .ok (.iconst (-1), 1) := by decide +kernel
theorem dX4_target_46 : decode cX4_target 46 = .ok (.goto 8, 3) := by decide +kernel
theorem dX4_target_49 : decode cX4_target 49 = .ok (.iconst 4, 1) := by decide +kernel
theorem dX4_target_50 : decode cX4_target 50 = .ok (.iload_n 3, 1) := by decide +kernel
theorem dX4_target_51 : decode cX4_target 51 = .ok (.imul, 1) := by decide +kernel
theorem dX4_target_52 : decode cX4_target 52 = .ok (.iload_n 2, 1) := by decide +kernel
theorem dX4_target_53 : decode cX4_target 53 = .ok (.iadd, 1) := by decide +kernel
theorem dX4_target_54 : decode cX4_target 54 = .ok (.ireturn, 1) := by decide +kernel
theorem dX4_at_0 : decode cX4_at 0 = .ok (.aload_n 0, 1) := by decide +kernel
theorem dX4_at_1 : decode cX4_at 1 = .ok (.getfield 20, 3) := by decide +kernel
theorem dX4_at_4 : decode cX4_at 4 = .ok (.bipush 40, 2) := by decide +kernel
theorem dX4_at_6 : decode cX4_at 6 = .ok (.iload_n 1, 1) := by decide +kernel
theorem dX4_at_7 : decode cX4_at 7 = .ok (.imul, 1) := by decide +kernel
theorem dX4_at_8 : decode cX4_at 8 = .ok (.iconst 4, 1) := by decide +kernel
theorem dX4_at_9 : decode cX4_at 9 = .ok (.iload_n 2, 1) := by decide +kernel
theorem dX4_at_10 : decode cX4_at 10 = .ok (.imul, 1) := by decide +kernel
theorem dX4_at_11 : decode cX4_at 11 = .ok (.iadd, 1) := by decide +kernel
theorem dX4_at_12 : decode cX4_at 12 = .ok (.iload_n 3, 1) := by decide +kernel
theorem dX4_at_13 : decode cX4_at 13 = .ok (.iadd, 1) := by decide +kernel
theorem dX4_at_14 : decode cX4_at 14 = .ok (.iaload, 1) := by decide +kernel
theorem dX4_at_15 : decode cX4_at 15 = .ok (.ireturn, 1) := by decide +kernel
theorem dX4_reachAll_0 : decode cX4_reachAll 0 = .ok (.iconst 0, 1) := by decide +kernel
theorem dX4_reachAll_1 : decode cX4_reachAll 1 = .ok (.istore_n 2, 1) := by decide +kernel
theorem dX4_reachAll_2 : decode cX4_reachAll 2 = .ok (.iconst 0, 1) := by decide +kernel
theorem dX4_reachAll_3 : decode cX4_reachAll 3 = .ok (.istore_n 3, 1) := by decide +kernel
theorem dX4_reachAll_4 : decode cX4_reachAll 4 = .ok (.iload_n 3, 1) := by decide +kernel
theorem dX4_reachAll_5 : decode cX4_reachAll 5 = .ok (.bipush 6, 2) := by decide +kernel
theorem dX4_reachAll_7 : decode cX4_reachAll 7 = .ok (.if_icmp .ge 55, 3) := by decide +kernel
theorem dX4_reachAll_10 : decode cX4_reachAll 10 = .ok (.aload_n 0, 1) := by decide +kernel
theorem dX4_reachAll_11 : decode cX4_reachAll 11 = .ok (.getfield 23, 3) := by decide +kernel
theorem dX4_reachAll_14 : decode cX4_reachAll 14 = .ok (.iload_n 3, 1) := by decide +kernel
theorem dX4_reachAll_15 : decode cX4_reachAll 15 = .ok (.baload, 1) := by decide +kernel
theorem dX4_reachAll_16 : decode cX4_reachAll 16 = .ok (.ifCond .eq 12, 3) := by decide +kernel
theorem dX4_reachAll_19 : decode cX4_reachAll 19 = .ok (.aload_n 0, 1) := by decide +kernel
theorem dX4_reachAll_20 : decode cX4_reachAll 20 = .ok (.iload_n 3, 1) := by decide +kernel
theorem dX4_reachAll_21 : decode cX4_reachAll 21 = .ok (.iload_n 1, 1) := by decide +kernel
theorem dX4_reachAll_22 : decode cX4_reachAll 22 = .ok (.invokevirtual 95, 3) := by decide +kernel
theorem dX4_reachAll_25 : decode cX4_reachAll 25 = .ok (.goto 4, 3) := by decide +kernel
theorem dX4_reachAll_28 : decode cX4_reachAll 28 = .ok (.iconst (-1), 1) := by decide +kernel
theorem dX4_reachAll_29 : decode cX4_reachAll 29 = .ok (.istore 4, 2) := by decide +kernel
theorem dX4_reachAll_31 : decode cX4_reachAll 31 = .ok (.iload 4, 2) := by decide +kernel
theorem dX4_reachAll_33 : decode cX4_reachAll 33 = .ok (.ifCond .lt 23, 3) := by decide +kernel
theorem dX4_reachAll_36 : decode cX4_reachAll 36 = .ok (.aload_n 0, 1) := by decide +kernel
theorem dX4_reachAll_37 : decode cX4_reachAll 37 = .ok (.getfield 27, 3) := by decide +kernel
theorem dX4_reachAll_40 : decode cX4_reachAll 40 = .ok (.iload 4, 2) := by decide +kernel
theorem dX4_reachAll_42 : decode cX4_reachAll 42 = .ok (.baload, 1) := by decide +kernel
theorem dX4_reachAll_43 : decode cX4_reachAll 43 = .ok (.ifCond .ne 13, 3) := by decide +kernel
theorem dX4_reachAll_46 : decode cX4_reachAll 46 = .ok (.aload_n 0, 1) := by decide +kernel
theorem dX4_reachAll_47 : decode cX4_reachAll 47 = .ok (.getfield 27, 3) := by decide +kernel
theorem dX4_reachAll_50 : decode cX4_reachAll 50 = .ok (.iload 4, 2) := by decide +kernel
theorem dX4_reachAll_52 : decode cX4_reachAll 52 = .ok (.iconst 1, 1) := by decide +kernel
theorem dX4_reachAll_53 : decode cX4_reachAll 53 = .ok (.bastore, 1) := by decide +kernel
theorem dX4_reachAll_54 : decode cX4_reachAll 54 = .ok (.iconst 1, 1) := by decide +kernel
theorem dX4_reachAll_55 : decode cX4_reachAll 55 = .ok (.istore_n 2, 1) := by decide +kernel
theorem dX4_reachAll_56 : decode cX4_reachAll 56 = .ok (.iinc 3 1, 3) := by decide +kernel
theorem dX4_reachAll_59 : decode cX4_reachAll 59 = .ok (.goto (-55), 3) := by decide +kernel
theorem dX4_reachAll_62 : decode cX4_reachAll 62 = .ok (.iload_n 2, 1) := by decide +kernel
theorem dX4_reachAll_63 : decode cX4_reachAll 63 = .ok (.ireturn, 1) := by decide +kernel
theorem dX4_grows_0 : decode cX4_grows 0 = .ok (.iconst 0, 1) := by decide +kernel
theorem dX4_grows_1 : decode cX4_grows 1 = .ok (.istore_n 2, 1) := by decide +kernel
theorem dX4_grows_2 : decode cX4_grows 2 = .ok (.iconst 0, 1) := by decide +kernel
theorem dX4_grows_3 : decode cX4_grows 3 = .ok (.istore_n 3, 1) := by decide +kernel
theorem dX4_grows_4 : decode cX4_grows 4 = .ok (.iload_n 3, 1) := by decide +kernel
theorem dX4_grows_5 : decode cX4_grows 5 = .ok (.aload_n 0, 1) := by decide +kernel
theorem dX4_grows_6 : decode cX4_grows 6 = .ok (.getfield 17, 3) := by decide +kernel
theorem dX4_grows_9 : decode cX4_grows 9 = .ok (.iload_n 1, 1) := by decide +kernel
theorem dX4_grows_10 : decode cX4_grows 10 = .ok (.iaload, 1) := by decide +kernel
theorem dX4_grows_11 : decode cX4_grows 11 = .ok (.if_icmp .ge 86, 3) := by decide +kernel
theorem dX4_grows_14 : decode cX4_grows 14 = .ok (.aload_n 0, 1) := by decide +kernel
theorem dX4_grows_15 : decode cX4_grows 15 = .ok (.iload_n 1, 1) := by decide +kernel
theorem dX4_grows_16 : decode cX4_grows 16 = .ok (.iload_n 3, 1) := by decide +kernel
theorem dX4_grows_17 : decode cX4_grows 17 = .ok (.iconst 0, 1) := by decide +kernel
theorem dX4_grows_18 : decode cX4_grows 18 = .ok (.invokevirtual 99, 3) := by decide +kernel
theorem dX4_grows_21 : decode cX4_grows 21 = .ok (.iconst 4, 1) := by decide +kernel
theorem dX4_grows_22 : decode cX4_grows 22 = .ok (.if_icmp .ne 33, 3) := by decide +kernel
theorem dX4_grows_25 : decode cX4_grows 25 = .ok (.aload_n 0, 1) := by decide +kernel
theorem dX4_grows_26 : decode cX4_grows 26 = .ok (.getfield 23, 3) := by decide +kernel
theorem dX4_grows_29 : decode cX4_grows 29 = .ok (.aload_n 0, 1) := by decide +kernel
theorem dX4_grows_30 : decode cX4_grows 30 = .ok (.iload_n 1, 1) := by decide +kernel
theorem dX4_grows_31 : decode cX4_grows 31 = .ok (.iload_n 3, 1) := by decide +kernel
theorem dX4_grows_32 : decode cX4_grows 32 = .ok (.iconst 2, 1) := by decide +kernel
theorem dX4_grows_33 : decode cX4_grows 33 = .ok (.invokevirtual 99, 3) := by decide +kernel
theorem dX4_grows_36 : decode cX4_grows 36 = .ok (.baload, 1) := by decide +kernel
theorem dX4_grows_37 : decode cX4_grows 37 = .ok (.ifCond .ne 18, 3) := by decide +kernel
theorem dX4_grows_40 : decode cX4_grows 40 = .ok (.aload_n 0, 1) := by decide +kernel
theorem dX4_grows_41 : decode cX4_grows 41 = .ok (.getfield 23, 3) := by decide +kernel
theorem dX4_grows_44 : decode cX4_grows 44 = .ok (.aload_n 0, 1) := by decide +kernel
theorem dX4_grows_45 : decode cX4_grows 45 = .ok (.iload_n 1, 1) := by decide +kernel
theorem dX4_grows_46 : decode cX4_grows 46 = .ok (.iload_n 3, 1) := by decide +kernel
theorem dX4_grows_47 : decode cX4_grows 47 = .ok (.iconst 2, 1) := by decide +kernel
theorem dX4_grows_48 : decode cX4_grows 48 = .ok (.invokevirtual 99, 3) := by decide +kernel
theorem dX4_grows_51 : decode cX4_grows 51 = .ok (.iconst 1, 1) := by decide +kernel
theorem dX4_grows_52 : decode cX4_grows 52 = .ok (.bastore, 1) := by decide +kernel
theorem dX4_grows_53 : decode cX4_grows 53 = .ok (.iconst 1, 1) := by decide +kernel
theorem dX4_grows_54 : decode cX4_grows 54 = .ok (.istore_n 2, 1) := by decide +kernel
theorem dX4_grows_55 : decode cX4_grows 55 = .ok (.aload_n 0, 1) := by decide +kernel
theorem dX4_grows_56 : decode cX4_grows 56 = .ok (.iload_n 1, 1) := by decide +kernel
theorem dX4_grows_57 : decode cX4_grows 57 = .ok (.iload_n 3, 1) := by decide +kernel
theorem dX4_grows_58 : decode cX4_grows 58 = .ok (.iconst 0, 1) := by decide +kernel
theorem dX4_grows_59 : decode cX4_grows 59 = .ok (.invokevirtual 99, 3) := by decide +kernel
theorem dX4_grows_62 : decode cX4_grows 62 = .ok (.bipush 7, 2) := by decide +kernel
theorem dX4_grows_64 : decode cX4_grows 64 = .ok (.if_icmp .ne 27, 3) := by decide +kernel
theorem dX4_grows_67 : decode cX4_grows 67 = .ok (.aload_n 0, 1) := by decide +kernel
theorem dX4_grows_68 : decode cX4_grows 68 = .ok (.aload_n 0, 1) := by decide +kernel
theorem dX4_grows_69 : decode cX4_grows 69 = .ok (.iload_n 1, 1) := by decide +kernel
theorem dX4_grows_70 : decode cX4_grows 70 = .ok (.iload_n 3, 1) := by decide +kernel
theorem dX4_grows_71 : decode cX4_grows 71 = .ok (.iconst 3, 1) := by decide +kernel
theorem dX4_grows_72 : decode cX4_grows 72 = .ok (.invokevirtual 99, 3) := by decide +kernel
theorem dX4_grows_75 : decode cX4_grows 75 = .ok (.invokevirtual 103, 3) := by decide +kernel
theorem dX4_grows_78 : decode cX4_grows 78 = .ok (.ifCond .ne 7, 3) := by decide +kernel
theorem dX4_grows_81 : decode cX4_grows 81 = .ok (.iload_n 2, 1) := by decide +kernel
theorem dX4_grows_82 : decode cX4_grows 82 = .ok (.ifCond .eq 7, 3) := by decide +kernel
theorem dX4_grows_85 : decode cX4_grows 85 = .ok (.iconst 1, 1) := by decide +kernel
theorem dX4_grows_86 : decode cX4_grows 86 = .ok (.goto 4, 3) := by decide +kernel
theorem dX4_grows_89 : decode cX4_grows 89 = .ok (.iconst 0, 1) := by decide +kernel
theorem dX4_grows_90 : decode cX4_grows 90 = .ok (.istore_n 2, 1) := by decide +kernel
theorem dX4_grows_91 : decode cX4_grows 91 = .ok (.iinc 3 1, 3) := by decide +kernel
theorem dX4_grows_94 : decode cX4_grows 94 = .ok (.goto (-90), 3) := by decide +kernel
theorem dX4_grows_97 : decode cX4_grows 97 = .ok (.iload_n 2, 1) := by decide +kernel
theorem dX4_grows_98 : decode cX4_grows 98 = .ok (.ireturn, 1) := by decide +kernel
theorem dX4_call_0 : decode cX4_call 0 = .ok (.iconst (-1), 1) := by decide +kernel
theorem dX4_call_1 : decode cX4_call 1 = .ok (.istore_n 2, 1) := by decide +kernel
theorem dX4_call_2 : decode cX4_call 2 = .ok (.iconst 1, 1) := by decide +kernel
theorem dX4_call_3 : decode cX4_call 3 = .ok (.istore_n 3, 1) := by decide +kernel
theorem dX4_call_4 : decode cX4_call 4 = .ok (.iconst 0, 1) := by decide +kernel
theorem dX4_call_5 : decode cX4_call 5 = .ok (.istore 4, 2) := by decide +kernel
theorem dX4_call_7 : decode cX4_call 7 = .ok (.iload 4, 2) := by decide +kernel
theorem dX4_call_9 : decode cX4_call 9 = .ok (.bipush 6, 2) := by decide +kernel
theorem dX4_call_11 : decode cX4_call 11 = .ok (.if_icmp .ge 69, 3) := by decide +kernel
theorem dX4_call_14 : decode cX4_call 14 = .ok (.aload_n 0, 1) := by decide +kernel
theorem dX4_call_15 : decode cX4_call 15 = .ok (.getfield 23, 3) := by decide +kernel
theorem dX4_call_18 : decode cX4_call 18 = .ok (.iload 4, 2) := by decide +kernel
theorem dX4_call_20 : decode cX4_call 20 = .ok (.baload, 1) := by decide +kernel
theorem dX4_call_21 : decode cX4_call 21 = .ok (.ifCond .eq 13, 3) := by decide +kernel
theorem dX4_call_24 : decode cX4_call 24 = .ok (.aload_n 0, 1) := by decide +kernel
theorem dX4_call_25 : decode cX4_call 25 = .ok (.iload 4, 2) := by decide +kernel
theorem dX4_call_27 : decode cX4_call 27 = .ok (.iload_n 1, 1) := by decide +kernel
theorem dX4_call_28 : decode cX4_call 28 = .ok (.invokevirtual 95, 3) := by decide +kernel
theorem dX4_call_31 : decode cX4_call 31 = .ok (.goto 4, 3) := by decide +kernel
theorem dX4_call_34 : decode cX4_call 34 = .ok (.iconst (-1), 1) := by decide +kernel
theorem dX4_call_35 : decode cX4_call 35 = .ok (.istore 5, 2) := by decide +kernel
theorem dX4_call_37 : decode cX4_call 37 = .ok (.iload_n 3, 1) := by decide +kernel
theorem dX4_call_38 : decode cX4_call 38 = .ok (.ifCond .eq 22, 3) := by decide +kernel
theorem dX4_call_41 : decode cX4_call 41 = .ok (.iload 5, 2) := by decide +kernel
theorem dX4_call_43 : decode cX4_call 43 = .ok (.ifCond .lt 13, 3) := by decide +kernel
theorem dX4_call_46 : decode cX4_call 46 = .ok (.iload_n 2, 1) := by decide +kernel
theorem dX4_call_47 : decode cX4_call 47 = .ok (.ifCond .lt 9, 3) := by decide +kernel
theorem dX4_call_50 : decode cX4_call 50 = .ok (.iload 5, 2) := by decide +kernel
theorem dX4_call_52 : decode cX4_call 52 = .ok (.iload_n 2, 1) := by decide +kernel
theorem dX4_call_53 : decode cX4_call 53 = .ok (.if_icmp .ne 7, 3) := by decide +kernel
theorem dX4_call_56 : decode cX4_call 56 = .ok (.iconst 1, 1) := by decide +kernel
theorem dX4_call_57 : decode cX4_call 57 = .ok (.goto 4, 3) := by decide +kernel
theorem dX4_call_60 : decode cX4_call 60 = .ok (.iconst 0, 1) := by decide +kernel
theorem dX4_call_61 : decode cX4_call 61 = .ok (.istore_n 3, 1) := by decide +kernel
theorem dX4_call_62 : decode cX4_call 62 = .ok (.iload 5, 2) := by decide +kernel
theorem dX4_call_64 : decode cX4_call 64 = .ok (.ifCond .ge 7, 3) := by decide +kernel
theorem dX4_call_67 : decode cX4_call 67 = .ok (.iload_n 2, 1) := by decide +kernel
theorem dX4_call_68 : decode cX4_call 68 = .ok (.goto 5, 3) := by decide +kernel
theorem dX4_call_71 : decode cX4_call 71 = .ok (.iload 5, 2) := by decide +kernel
theorem dX4_call_73 : decode cX4_call 73 = .ok (.istore_n 2, 1) := by decide +kernel
theorem dX4_call_74 : decode cX4_call 74 = .ok (.iinc 4 1, 3) := by decide +kernel
theorem dX4_call_77 : decode cX4_call 77 = .ok (.goto (-70), 3) := by decide +kernel
theorem dX4_call_80 : decode cX4_call 80 = .ok (.iload_n 2, 1) := by decide +kernel
theorem dX4_call_81 : decode cX4_call 81 = .ok (.ifCond .ge 5, 3) := by decide +kernel
theorem dX4_call_84 : decode cX4_call 84 = .ok (.iconst 4, 1) := by decide +kernel
theorem dX4_call_85 : decode cX4_call 85 = .ok (.ireturn, 1) := by decide +kernel
theorem dX4_call_86 : decode cX4_call 86 = .ok (.iload_n 3, 1) := by decide +kernel
theorem dX4_call_87 : decode cX4_call 87 = .ok (.ifCond .ne 5, 3) := by decide +kernel
theorem dX4_call_90 : decode cX4_call 90 = .ok (.iconst 1, 1) := by decide +kernel
theorem dX4_call_91 : decode cX4_call 91 = .ok (.ireturn, 1) := by decide +kernel
theorem dX4_call_92 : decode cX4_call 92 = .ok (.aload_n 0, 1) := by decide +kernel
theorem dX4_call_93 : decode cX4_call 93 = .ok (.getfield 17, 3) := by decide +kernel
theorem dX4_call_96 : decode cX4_call 96 = .ok (.iload_n 2, 1) := by decide +kernel
theorem dX4_call_97 : decode cX4_call 97 = .ok (.iaload, 1) := by decide +kernel
theorem dX4_call_98 : decode cX4_call 98 = .ok (.iconst 3, 1) := by decide +kernel
theorem dX4_call_99 : decode cX4_call 99 = .ok (.if_icmp .gt 7, 3) := by decide +kernel
theorem dX4_call_102 : decode cX4_call 102 = .ok (.iconst 1, 1) := by decide +kernel
theorem dX4_call_103 : decode cX4_call 103 = .ok (.goto 4, 3) := by decide +kernel
theorem dX4_call_106 : decode cX4_call 106 = .ok (.iconst 0, 1) := by decide +kernel
theorem dX4_call_107 : decode cX4_call 107 = .ok (.istore 4, 2) := by decide +kernel
theorem dX4_call_109 : decode cX4_call 109 = .ok (.iconst 0, 1) := by decide +kernel
theorem dX4_call_110 : decode cX4_call 110 = .ok (.istore 5, 2) := by decide +kernel
theorem dX4_call_112 : decode cX4_call 112 = .ok (.iload 5, 2) := by decide +kernel
theorem dX4_call_114 : decode cX4_call 114 = .ok (.aload_n 0, 1) := by decide +kernel
theorem dX4_call_115 : decode cX4_call 115 = .ok (.getfield 17, 3) := by decide +kernel
theorem dX4_call_118 : decode cX4_call 118 = .ok (.iload_n 2, 1) := by decide +kernel
theorem dX4_call_119 : decode cX4_call 119 = .ok (.iaload, 1) := by decide +kernel
theorem dX4_call_120 : decode cX4_call 120 = .ok (.if_icmp .ge 47, 3) := by decide +kernel
theorem dX4_call_123 : decode cX4_call 123 = .ok (.iload 4, 2) := by decide +kernel
theorem dX4_call_125 : decode cX4_call 125 = .ok (.ifCond .eq 33, 3) := by decide +kernel
theorem dX4_call_128 : decode cX4_call 128 = .ok (.aload_n 0, 1) := by decide +kernel
theorem dX4_call_129 : decode cX4_call 129 = .ok (.iload_n 2, 1) := by decide +kernel
theorem dX4_call_130 : decode cX4_call 130 = .ok (.iload 5, 2) := by decide +kernel
theorem dX4_call_132 : decode cX4_call 132 = .ok (.iconst 0, 1) := by decide +kernel
theorem dX4_call_133 : decode cX4_call 133 = .ok (.invokevirtual 99, 3) := by decide +kernel
theorem dX4_call_136 : decode cX4_call 136 = .ok (.bipush 7, 2) := by decide +kernel
theorem dX4_call_138 : decode cX4_call 138 = .ok (.if_icmp .eq 20, 3) := by decide +kernel
theorem dX4_call_141 : decode cX4_call 141 = .ok (.aload_n 0, 1) := by decide +kernel
theorem dX4_call_142 : decode cX4_call 142 = .ok (.iload_n 2, 1) := by decide +kernel
theorem dX4_call_143 : decode cX4_call 143 = .ok (.iload 5, 2) := by decide +kernel
theorem dX4_call_145 : decode cX4_call 145 = .ok (.iconst 0, 1) := by decide +kernel
theorem dX4_call_146 : decode cX4_call 146 = .ok (.invokevirtual 99, 3) := by decide +kernel
theorem dX4_call_149 : decode cX4_call 149 = .ok (.bipush 9, 2) := by decide +kernel
theorem dX4_call_151 : decode cX4_call 151 = .ok (.if_icmp .eq 7, 3) := by decide +kernel
theorem dX4_call_154 : decode cX4_call 154 = .ok (.iconst 1, 1) := by decide +kernel
theorem dX4_call_155 : decode cX4_call 155 = .ok (.goto 4, 3) := by decide +kernel
theorem dX4_call_158 : decode cX4_call 158 = .ok (.iconst 0, 1) := by decide +kernel
theorem dX4_call_159 : decode cX4_call 159 = .ok (.istore 4, 2) := by decide +kernel
theorem dX4_call_161 : decode cX4_call 161 = .ok (.iinc 5 1, 3) := by decide +kernel
theorem dX4_call_164 : decode cX4_call 164 = .ok (.goto (-52), 3) := by decide +kernel
theorem dX4_call_167 : decode cX4_call 167 = .ok (.iload 4, 2) := by decide +kernel
theorem dX4_call_169 : decode cX4_call 169 = .ok (.ifCond .eq 7, 3) := by decide +kernel
theorem dX4_call_172 : decode cX4_call 172 = .ok (.iconst 3, 1) := by decide +kernel
theorem dX4_call_173 : decode cX4_call 173 = .ok (.goto 4, 3) := by decide +kernel
theorem dX4_call_176 : decode cX4_call 176 = .ok (.iconst 2, 1) := by decide +kernel
theorem dX4_call_177 : decode cX4_call 177 = .ok (.ireturn, 1) := by decide +kernel
theorem dX4_stays_0 : decode cX4_stays 0 = .ok (.iconst 0, 1) := by decide +kernel
theorem dX4_stays_1 : decode cX4_stays 1 = .ok (.istore_n 3, 1) := by decide +kernel
theorem dX4_stays_2 : decode cX4_stays 2 = .ok (.iload_n 3, 1) := by decide +kernel
theorem dX4_stays_3 : decode cX4_stays 3 = .ok (.bipush 6, 2) := by decide +kernel
theorem dX4_stays_5 : decode cX4_stays 5 = .ok (.if_icmp .ge 31, 3) := by decide +kernel
theorem dX4_stays_8 : decode cX4_stays 8 = .ok (.aload_n 0, 1) := by decide +kernel
theorem dX4_stays_9 : decode cX4_stays 9 = .ok (.getfield 36, 3) := by decide +kernel
theorem dX4_stays_12 : decode cX4_stays 12 = .ok (.iload_n 3, 1) := by decide +kernel
theorem dX4_stays_13 : decode cX4_stays 13 = .ok (.iload_n 3, 1) := by decide +kernel
theorem dX4_stays_14 : decode cX4_stays 14 = .ok (.aload_n 0, 1) := by decide +kernel
theorem dX4_stays_15 : decode cX4_stays 15 = .ok (.iload_n 1, 1) := by decide +kernel
theorem dX4_stays_16 : decode cX4_stays 16 = .ok (.iload_n 2, 1) := by decide +kernel
theorem dX4_stays_17 : decode cX4_stays 17 = .ok (.iconst 1, 1) := by decide +kernel
theorem dX4_stays_18 : decode cX4_stays 18 = .ok (.invokevirtual 99, 3) := by decide +kernel
theorem dX4_stays_21 : decode cX4_stays 21 = .ok (.if_icmp .ne 7, 3) := by decide +kernel
theorem dX4_stays_24 : decode cX4_stays 24 = .ok (.iconst 1, 1) := by decide +kernel
theorem dX4_stays_25 : decode cX4_stays 25 = .ok (.goto 4, 3) := by decide +kernel
theorem dX4_stays_28 : decode cX4_stays 28 = .ok (.iconst 0, 1) := by decide +kernel
theorem dX4_stays_29 : decode cX4_stays 29 = .ok (.bastore, 1) := by decide +kernel
theorem dX4_stays_30 : decode cX4_stays 30 = .ok (.iinc 3 1, 3) := by decide +kernel
theorem dX4_stays_33 : decode cX4_stays 33 = .ok (.goto (-31), 3) := by decide +kernel
theorem dX4_stays_36 : decode cX4_stays 36 = .ok (.iconst 0, 1) := by decide +kernel
theorem dX4_stays_37 : decode cX4_stays 37 = .ok (.istore_n 3, 1) := by decide +kernel
theorem dX4_stays_38 : decode cX4_stays 38 = .ok (.iload_n 3, 1) := by decide +kernel
theorem dX4_stays_39 : decode cX4_stays 39 = .ok (.bipush 6, 2) := by decide +kernel
theorem dX4_stays_41 : decode cX4_stays 41 = .ok (.if_icmp .ge 71, 3) := by decide +kernel
theorem dX4_stays_44 : decode cX4_stays 44 = .ok (.iconst 0, 1) := by decide +kernel
theorem dX4_stays_45 : decode cX4_stays 45 = .ok (.istore 4, 2) := by decide +kernel
theorem dX4_stays_47 : decode cX4_stays 47 = .ok (.iload 4, 2) := by decide +kernel
theorem dX4_stays_49 : decode cX4_stays 49 = .ok (.aload_n 0, 1) := by decide +kernel
theorem dX4_stays_50 : decode cX4_stays 50 = .ok (.getfield 17, 3) := by decide +kernel
theorem dX4_stays_53 : decode cX4_stays 53 = .ok (.iload_n 1, 1) := by decide +kernel
theorem dX4_stays_54 : decode cX4_stays 54 = .ok (.iaload, 1) := by decide +kernel
theorem dX4_stays_55 : decode cX4_stays 55 = .ok (.if_icmp .ge 51, 3) := by decide +kernel
theorem dX4_stays_58 : decode cX4_stays 58 = .ok (.aload_n 0, 1) := by decide +kernel
theorem dX4_stays_59 : decode cX4_stays 59 = .ok (.iload_n 1, 1) := by decide +kernel
theorem dX4_stays_60 : decode cX4_stays 60 = .ok (.iload 4, 2) := by decide +kernel
theorem dX4_stays_62 : decode cX4_stays 62 = .ok (.iconst 0, 1) := by decide +kernel
theorem dX4_stays_63 : decode cX4_stays 63 = .ok (.invokevirtual 99, 3) := by decide +kernel
theorem dX4_stays_66 : decode cX4_stays 66 = .ok (.iconst 1, 1) := by decide +kernel
theorem dX4_stays_67 : decode cX4_stays 67 = .ok (.if_icmp .ne 33, 3) := by decide +kernel
theorem dX4_stays_70 : decode cX4_stays 70 = .ok (.aload_n 0, 1) := by decide +kernel
theorem dX4_stays_71 : decode cX4_stays 71 = .ok (.getfield 36, 3) := by decide +kernel
theorem dX4_stays_74 : decode cX4_stays 74 = .ok (.aload_n 0, 1) := by decide +kernel
theorem dX4_stays_75 : decode cX4_stays 75 = .ok (.iload_n 1, 1) := by decide +kernel
theorem dX4_stays_76 : decode cX4_stays 76 = .ok (.iload 4, 2) := by decide +kernel
theorem dX4_stays_78 : decode cX4_stays 78 = .ok (.iconst 2, 1) := by decide +kernel
theorem dX4_stays_79 : decode cX4_stays 79 = .ok (.invokevirtual 99, 3) := by decide +kernel
theorem dX4_stays_82 : decode cX4_stays 82 = .ok (.baload, 1) := by decide +kernel
theorem dX4_stays_83 : decode cX4_stays 83 = .ok (.ifCond .eq 17, 3) := by decide +kernel
theorem dX4_stays_86 : decode cX4_stays 86 = .ok (.aload_n 0, 1) := by decide +kernel
theorem dX4_stays_87 : decode cX4_stays 87 = .ok (.getfield 36, 3) := by decide +kernel
theorem dX4_stays_90 : decode cX4_stays 90 = .ok (.aload_n 0, 1) := by decide +kernel
theorem dX4_stays_91 : decode cX4_stays 91 = .ok (.iload_n 1, 1) := by decide +kernel
theorem dX4_stays_92 : decode cX4_stays 92 = .ok (.iload 4, 2) := by decide +kernel
theorem dX4_stays_94 : decode cX4_stays 94 = .ok (.iconst 1, 1) := by decide +kernel
theorem dX4_stays_95 : decode cX4_stays 95 = .ok (.invokevirtual 99, 3) := by decide +kernel
theorem dX4_stays_98 : decode cX4_stays 98 = .ok (.iconst 1, 1) := by decide +kernel
theorem dX4_stays_99 : decode cX4_stays 99 = .ok (.bastore, 1) := by decide +kernel
theorem dX4_stays_100 : decode cX4_stays 100 = .ok (.iinc 4 1, 3) := by decide +kernel
theorem dX4_stays_103 : decode cX4_stays 103 = .ok (.goto (-56), 3) := by decide +kernel
theorem dX4_stays_106 : decode cX4_stays 106 = .ok (.iinc 3 1, 3) := by decide +kernel
theorem dX4_stays_109 : decode cX4_stays 109 = .ok (.goto (-71), 3) := by decide +kernel
theorem dX4_stays_112 : decode cX4_stays 112 = .ok (.iconst 1, 1) := by decide +kernel
theorem dX4_stays_113 : decode cX4_stays 113 = .ok (.istore_n 3, 1) := by decide +kernel
theorem dX4_stays_114 : decode cX4_stays 114 = .ok (.iconst 0, 1) := by decide +kernel
theorem dX4_stays_115 : decode cX4_stays 115 = .ok (.istore 4, 2) := by decide +kernel
theorem dX4_stays_117 : decode cX4_stays 117 = .ok (.iload 4, 2) := by decide +kernel
theorem dX4_stays_119 : decode cX4_stays 119 = .ok (.aload_n 0, 1) := by decide +kernel
theorem dX4_stays_120 : decode cX4_stays 120 = .ok (.getfield 17, 3) := by decide +kernel
theorem dX4_stays_123 : decode cX4_stays 123 = .ok (.iload_n 1, 1) := by decide +kernel
theorem dX4_stays_124 : decode cX4_stays 124 = .ok (.iaload, 1) := by decide +kernel
theorem dX4_stays_125 : decode cX4_stays 125 = .ok (.if_icmp .ge 118, 3) := by decide +kernel
theorem dX4_stays_128 : decode cX4_stays 128 = .ok (.aload_n 0, 1) := by decide +kernel
theorem dX4_stays_129 : decode cX4_stays 129 = .ok (.iload_n 1, 1) := by decide +kernel
theorem dX4_stays_130 : decode cX4_stays 130 = .ok (.iload 4, 2) := by decide +kernel
theorem dX4_stays_132 : decode cX4_stays 132 = .ok (.iconst 0, 1) := by decide +kernel
theorem dX4_stays_133 : decode cX4_stays 133 = .ok (.invokevirtual 99, 3) := by decide +kernel
theorem dX4_stays_136 : decode cX4_stays 136 = .ok (.istore 5, 2) := by decide +kernel
theorem dX4_stays_138 : decode cX4_stays 138 = .ok (.iload 5, 2) := by decide +kernel
theorem dX4_stays_140 : decode cX4_stays 140 = .ok (.bipush 6, 2) := by decide +kernel
theorem dX4_stays_142 : decode cX4_stays 142 = .ok (.if_icmp .eq 10, 3) := by decide +kernel
theorem dX4_stays_145 : decode cX4_stays 145 = .ok (.iload 5, 2) := by decide +kernel
theorem dX4_stays_147 : decode cX4_stays 147 = .ok (.bipush 7, 2) := by decide +kernel
theorem dX4_stays_149 : decode cX4_stays 149 = .ok (.if_icmp .ne 29, 3) := by decide +kernel
theorem dX4_stays_152 : decode cX4_stays 152 = .ok (.iload_n 3, 1) := by decide +kernel
theorem dX4_stays_153 : decode cX4_stays 153 = .ok (.ifCond .eq 23, 3) := by decide +kernel
