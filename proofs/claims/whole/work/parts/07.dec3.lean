theorem dX0_step_40 : decode cX0_step 40 = .ok (.iaload, 1) := by decide +kernel
theorem dX0_step_41 : decode cX0_step 41 = .ok (.aload_n 0, 1) := by decide +kernel
theorem dX0_step_42 : decode cX0_step 42 = .ok (.getfield 19, 3) := by decide +kernel
theorem dX0_step_45 : decode cX0_step 45 = .ok (.iload_n 1, 1) := by decide +kernel
theorem dX0_step_46 : decode cX0_step 46 = .ok (.iaload, 1) := by decide +kernel
theorem dX0_step_47 : decode cX0_step 47 = .ok (.invokestatic 107, 3) := by decide +kernel
theorem dX0_step_50 : decode cX0_step 50 = .ok (.istore_n 2, 1) := by decide +kernel
theorem dX0_step_51 : decode cX0_step 51 = .ok (.aload_n 0, 1) := by decide +kernel
theorem dX0_step_52 : decode cX0_step 52 = .ok (.getfield 19, 3) := by decide +kernel
theorem dX0_step_55 : decode cX0_step 55 = .ok (.iload_n 1, 1) := by decide +kernel
theorem dX0_step_56 : decode cX0_step 56 = .ok (.dup2, 1) := by decide +kernel
theorem dX0_step_57 : decode cX0_step 57 = .ok (.iaload, 1) := by decide +kernel
theorem dX0_step_58 : decode cX0_step 58 = .ok (.iconst 1, 1) := by decide +kernel
theorem dX0_step_59 : decode cX0_step 59 = .ok (.iadd, 1) := by decide +kernel
theorem dX0_step_60 : decode cX0_step 60 = .ok (.iastore, 1) := by decide +kernel
theorem dX0_step_61 : decode cX0_step 61 = .ok (.aload_n 0, 1) := by decide +kernel
theorem dX0_step_62 : decode cX0_step 62 = .ok (.iload_n 2, 1) := by decide +kernel
theorem dX0_step_63 : decode cX0_step 63 = .ok (.iload_n 1, 1) := by decide +kernel
theorem dX0_step_64 : decode cX0_step 64 = .ok (.bipush 6, 2) := by decide +kernel
theorem dX0_step_66 : decode cX0_step 66 = .ok (.imul, 1) := by decide +kernel
theorem dX0_step_67 : decode cX0_step 67 = .ok (.invokevirtual 110, 3) := by decide +kernel
theorem dX0_step_70 : decode cX0_step 70 = .ok (.return_, 1) := by decide +kernel
theorem dX0_perform_0 : decode cX0_perform 0 = .ok (.iload_n 2, 1) := by decide +kernel
theorem dX0_perform_1 : decode cX0_perform 1 = .ok (.aload_n 0, 1) := by decide +kernel
theorem dX0_perform_2 : decode cX0_perform 2 = .ok (.getfield 37, 3) := by decide +kernel
theorem dX0_perform_5 : decode cX0_perform 5 = .ok (.iload_n 1, 1) := by decide +kernel
theorem dX0_perform_6 : decode cX0_perform 6 = .ok (.invokevirtual 114, 3) := by decide +kernel
theorem dX0_perform_9 : decode cX0_perform 9 = .ok (.iadd, 1) := by decide +kernel
theorem dX0_perform_10 : decode cX0_perform 10 = .ok (.istore_n 3, 1) := by decide +kernel
theorem dX0_perform_11 : decode cX0_perform 11 = .ok (.aload_n 0, 1) := by decide +kernel
theorem dX0_perform_12 : decode cX0_perform 12 = .ok (.getfield 37, 3) := by decide +kernel
theorem dX0_perform_15 : decode cX0_perform 15 = .ok (.iload_n 1, 1) := by decide +kernel
theorem dX0_perform_16 : decode cX0_perform 16 = .ok (.invokevirtual 117, 3) := by decide +kernel
theorem dX0_perform_19 : decode cX0_perform 19 = .ok (.tableswitch 214 0 10 #[57, 75, 99, 99, 108, 117, 126, 135, 144, 157, 193], 57) := by decide +kernel
theorem dX0_perform_76 : decode cX0_perform 76 = .ok (.aload_n 0, 1) := by decide +kernel
theorem dX0_perform_77 : decode cX0_perform 77 = .ok (.getfield 9, 3) := by decide +kernel
theorem dX0_perform_80 : decode cX0_perform 80 = .ok (.iload_n 3, 1) := by decide +kernel
theorem dX0_perform_81 : decode cX0_perform 81 = .ok (.aload_n 0, 1) := by decide +kernel
theorem dX0_perform_82 : decode cX0_perform 82 = .ok (.getfield 37, 3) := by decide +kernel
theorem dX0_perform_85 : decode cX0_perform 85 = .ok (.iload_n 1, 1) := by decide +kernel
theorem dX0_perform_86 : decode cX0_perform 86 = .ok (.invokevirtual 120, 3) := by decide +kernel
theorem dX0_perform_89 : decode cX0_perform 89 = .ok (.i2l, 1) := by decide +kernel
theorem dX0_perform_90 : decode cX0_perform 90 = .ok (.lastore, 1) := by decide +kernel
theorem dX0_perform_91 : decode cX0_perform 91 = .ok (.goto 152, 3) := by decide +kernel
theorem dX0_perform_94 : decode cX0_perform 94 = .ok (.aload_n 0, 1) := by decide +kernel
theorem dX0_perform_95 : decode cX0_perform 95 = .ok (.getfield 9, 3) := by decide +kernel
theorem dX0_perform_98 : decode cX0_perform 98 = .ok (.iload_n 3, 1) := by decide +kernel
theorem dX0_perform_99 : decode cX0_perform 99 = .ok (.aload_n 0, 1) := by decide +kernel
theorem dX0_perform_100 : decode cX0_perform 100 = .ok (.getfield 9, 3) := by decide +kernel
theorem dX0_perform_103 : decode cX0_perform 103 = .ok (.iload_n 2, 1) := by decide +kernel
theorem dX0_perform_104 : decode cX0_perform 104 = .ok (.aload_n 0, 1) := by decide +kernel
theorem dX0_perform_105 : decode cX0_perform 105 = .ok (.getfield 37, 3) := by decide +kernel
theorem dX0_perform_108 : decode cX0_perform 108 = .ok (.iload_n 1, 1) := by decide +kernel
theorem dX0_perform_109 : decode cX0_perform 109 = .ok (.invokevirtual 120, 3) := by decide +kernel
theorem dX0_perform_112 : decode cX0_perform 112 = .ok (.iadd, 1) := by decide +kernel
theorem dX0_perform_113 : decode cX0_perform 113 = .ok (.laload, 1) := by decide +kernel
theorem dX0_perform_114 : decode cX0_perform 114 = .ok (.lastore, 1) := by decide +kernel
theorem dX0_perform_115 : decode cX0_perform 115 = .ok (.goto 128, 3) := by decide +kernel
theorem dX0_perform_118 : decode cX0_perform 118 = .ok (.aload_n 0, 1) := by decide +kernel
theorem dX0_perform_119 : decode cX0_perform 119 = .ok (.iload_n 1, 1) := by decide +kernel
theorem dX0_perform_120 : decode cX0_perform 120 = .ok (.iload_n 2, 1) := by decide +kernel
theorem dX0_perform_121 : decode cX0_perform 121 = .ok (.invokevirtual 123, 3) := by decide +kernel
theorem dX0_perform_124 : decode cX0_perform 124 = .ok (.goto 119, 3) := by decide +kernel
theorem dX0_perform_127 : decode cX0_perform 127 = .ok (.aload_n 0, 1) := by decide +kernel
theorem dX0_perform_128 : decode cX0_perform 128 = .ok (.iload_n 1, 1) := by decide +kernel
theorem dX0_perform_129 : decode cX0_perform 129 = .ok (.iload_n 3, 1) := by decide +kernel
theorem dX0_perform_130 : decode cX0_perform 130 = .ok (.invokevirtual 126, 3) := by decide +kernel
theorem dX0_perform_133 : decode cX0_perform 133 = .ok (.goto 110, 3) := by decide +kernel
theorem dX0_perform_136 : decode cX0_perform 136 = .ok (.aload_n 0, 1) := by decide +kernel
theorem dX0_perform_137 : decode cX0_perform 137 = .ok (.iload_n 1, 1) := by decide +kernel
theorem dX0_perform_138 : decode cX0_perform 138 = .ok (.iload_n 2, 1) := by decide +kernel
theorem dX0_perform_139 : decode cX0_perform 139 = .ok (.invokevirtual 129, 3) := by decide +kernel
theorem dX0_perform_142 : decode cX0_perform 142 = .ok (.goto 101, 3) := by decide +kernel
theorem dX0_perform_145 : decode cX0_perform 145 = .ok (.aload_n 0, 1) := by decide +kernel
theorem dX0_perform_146 : decode cX0_perform 146 = .ok (.iload_n 1, 1) := by decide +kernel
theorem dX0_perform_147 : decode cX0_perform 147 = .ok (.iload_n 2, 1) := by decide +kernel
theorem dX0_perform_148 : decode cX0_perform 148 = .ok (.invokevirtual 132, 3) := by decide +kernel
theorem dX0_perform_151 : decode cX0_perform 151 = .ok (.goto 92, 3) := by decide +kernel
theorem dX0_perform_154 : decode cX0_perform 154 = .ok (.aload_n 0, 1) := by decide +kernel
theorem dX0_perform_155 : decode cX0_perform 155 = .ok (.iload_n 1, 1) := by decide +kernel
theorem dX0_perform_156 : decode cX0_perform 156 = .ok (.iload_n 2, 1) := by decide +kernel
theorem dX0_perform_157 : decode cX0_perform 157 = .ok (.invokevirtual 135, 3) := by decide +kernel
theorem dX0_perform_160 : decode cX0_perform 160 = .ok (.goto 83, 3) := by decide +kernel
theorem dX0_perform_163 : decode cX0_perform 163 = .ok (.aload_n 0, 1) := by decide +kernel
theorem dX0_perform_164 : decode cX0_perform 164 = .ok (.aload_n 0, 1) := by decide +kernel
theorem dX0_perform_165 : decode cX0_perform 165 = .ok (.getfield 9, 3) := by decide +kernel
theorem dX0_perform_168 : decode cX0_perform 168 = .ok (.iload_n 3, 1) := by decide +kernel
theorem dX0_perform_169 : decode cX0_perform 169 = .ok (.laload, 1) := by decide +kernel
theorem dX0_perform_170 : decode cX0_perform 170 = .ok (.invokevirtual 138, 3) := by decide +kernel
theorem dX0_perform_173 : decode cX0_perform 173 = .ok (.goto 70, 3) := by decide +kernel
theorem dX0_perform_176 : decode cX0_perform 176 = .ok (.aload_n 0, 1) := by decide +kernel
theorem dX0_perform_177 : decode cX0_perform 177 = .ok (.getfield 9, 3) := by decide +kernel
theorem dX0_perform_180 : decode cX0_perform 180 = .ok (.iload_n 3, 1) := by decide +kernel
theorem dX0_perform_181 : decode cX0_perform 181 = .ok (.laload, 1) := by decide +kernel
theorem dX0_perform_182 : decode cX0_perform 182 = .ok (.lconst 0, 1) := by decide +kernel
theorem dX0_perform_183 : decode cX0_perform 183 = .ok (.lcmp, 1) := by decide +kernel
theorem dX0_perform_184 : decode cX0_perform 184 = .ok (.ifCond .ne 59, 3) := by decide +kernel
theorem dX0_perform_187 : decode cX0_perform 187 = .ok (.aload_n 0, 1) := by decide +kernel
theorem dX0_perform_188 : decode cX0_perform 188 = .ok (.getfield 19, 3) := by decide +kernel
theorem dX0_perform_191 : decode cX0_perform 191 = .ok (.aload_n 0, 1) := by decide +kernel
theorem dX0_perform_192 : decode cX0_perform 192 = .ok (.getfield 53, 3) := by decide +kernel
theorem dX0_perform_195 : decode cX0_perform 195 = .ok (.iconst 1, 1) := by decide +kernel
theorem dX0_perform_196 : decode cX0_perform 196 = .ok (.isub, 1) := by decide +kernel
theorem dX0_perform_197 : decode cX0_perform 197 = .ok (.dup2, 1) := by decide +kernel
theorem dX0_perform_198 : decode cX0_perform 198 = .ok (.iaload, 1) := by decide +kernel
theorem dX0_perform_199 : decode cX0_perform 199 = .ok (.aload_n 0, 1) := by decide +kernel
theorem dX0_perform_200 : decode cX0_perform 200 = .ok (.getfield 37, 3) := by decide +kernel
theorem dX0_perform_203 : decode cX0_perform 203 = .ok (.iload_n 1, 1) := by decide +kernel
theorem dX0_perform_204 : decode cX0_perform 204 = .ok (.invokevirtual 120, 3) := by decide +kernel
theorem dX0_perform_207 : decode cX0_perform 207 = .ok (.iadd, 1) := by decide +kernel
theorem dX0_perform_208 : decode cX0_perform 208 = .ok (.iastore, 1) := by decide +kernel
theorem dX0_perform_209 : decode cX0_perform 209 = .ok (.goto 34, 3) := by decide +kernel
theorem dX0_perform_212 : decode cX0_perform 212 = .ok (.aload_n 0, 1) := by decide +kernel
theorem dX0_perform_213 : decode cX0_perform 213 = .ok (.aload_n 0, 1) := by decide +kernel
theorem dX0_perform_214 : decode cX0_perform 214 = .ok (.getfield 9, 3) := by decide +kernel
theorem dX0_perform_217 : decode cX0_perform 217 = .ok (.iload_n 3, 1) := by decide +kernel
theorem dX0_perform_218 : decode cX0_perform 218 = .ok (.laload, 1) := by decide +kernel
theorem dX0_perform_219 : decode cX0_perform 219 = .ok (.aload_n 0, 1) := by decide +kernel
theorem dX0_perform_220 : decode cX0_perform 220 = .ok (.getfield 37, 3) := by decide +kernel
theorem dX0_perform_223 : decode cX0_perform 223 = .ok (.iload_n 1, 1) := by decide +kernel
theorem dX0_perform_224 : decode cX0_perform 224 = .ok (.invokevirtual 120, 3) := by decide +kernel
theorem dX0_perform_227 : decode cX0_perform 227 = .ok (.invokevirtual 141, 3) := by decide +kernel
theorem dX0_perform_230 : decode cX0_perform 230 = .ok (.goto 13, 3) := by decide +kernel
theorem dX0_perform_233 : decode cX0_perform 233 = .ok (.aload_n 0, 1) := by decide +kernel
theorem dX0_perform_234 : decode cX0_perform 234 = .ok (.aload_n 0, 1) := by decide +kernel
theorem dX0_perform_235 : decode cX0_perform 235 = .ok (.getfield 9, 3) := by decide +kernel
theorem dX0_perform_238 : decode cX0_perform 238 = .ok (.iload_n 3, 1) := by decide +kernel
theorem dX0_perform_239 : decode cX0_perform 239 = .ok (.laload, 1) := by decide +kernel
theorem dX0_perform_240 : decode cX0_perform 240 = .ok (.invokevirtual 99, 3) := by decide +kernel
theorem dX0_perform_243 : decode cX0_perform 243 = .ok (.return_, 1) := by decide +kernel
theorem dX0_isObject_0 : decode cX0_isObject 0 = .ok (.lload_n 0, 1) := by decide +kernel
theorem dX0_isObject_1 : decode cX0_isObject 1 = .ok (.ldc2_w 145, 3) := by decide +kernel
theorem dX0_isObject_4 : decode cX0_isObject 4 = .ok (.lcmp, 1) := by decide +kernel
theorem dX0_isObject_5 : decode cX0_isObject 5 = .ok (.ifCond .lt 7, 3) := by decide +kernel
theorem dX0_isObject_8 : decode cX0_isObject 8 = .ok (.iconst 1, 1) := by decide +kernel
theorem dX0_isObject_9 : decode cX0_isObject 9 = .ok (.goto 4, 3) := by decide +kernel
theorem dX0_isObject_12 : decode cX0_isObject 12 = .ok (.iconst 0, 1) := by decide +kernel
theorem dX0_isObject_13 : decode cX0_isObject 13 = .ok (.ireturn, 1) := by decide +kernel
theorem dX0_objectOf_0 : decode cX0_objectOf 0 = .ok (.lload_n 0, 1) := by decide +kernel
theorem dX0_objectOf_1 : decode cX0_objectOf 1 = .ok (.ldc2_w 145, 3) := by decide +kernel
theorem dX0_objectOf_4 : decode cX0_objectOf 4 = .ok (.lsub, 1) := by decide +kernel
theorem dX0_objectOf_5 : decode cX0_objectOf 5 = .ok (.l2i, 1) := by decide +kernel
theorem dX0_objectOf_6 : decode cX0_objectOf 6 = .ok (.ireturn, 1) := by decide +kernel
theorem dX0_reckon_0 : decode cX0_reckon 0 = .ok (.aload_n 0, 1) := by decide +kernel
theorem dX0_reckon_1 : decode cX0_reckon 1 = .ok (.getfield 9, 3) := by decide +kernel
theorem dX0_reckon_4 : decode cX0_reckon 4 = .ok (.iload_n 2, 1) := by decide +kernel
theorem dX0_reckon_5 : decode cX0_reckon 5 = .ok (.aload_n 0, 1) := by decide +kernel
theorem dX0_reckon_6 : decode cX0_reckon 6 = .ok (.getfield 37, 3) := by decide +kernel
theorem dX0_reckon_9 : decode cX0_reckon 9 = .ok (.iload_n 1, 1) := by decide +kernel
theorem dX0_reckon_10 : decode cX0_reckon 10 = .ok (.invokevirtual 120, 3) := by decide +kernel
theorem dX0_reckon_13 : decode cX0_reckon 13 = .ok (.iadd, 1) := by decide +kernel
theorem dX0_reckon_14 : decode cX0_reckon 14 = .ok (.laload, 1) := by decide +kernel
theorem dX0_reckon_15 : decode cX0_reckon 15 = .ok (.lstore_n 3, 1) := by decide +kernel
theorem dX0_reckon_16 : decode cX0_reckon 16 = .ok (.aload_n 0, 1) := by decide +kernel
theorem dX0_reckon_17 : decode cX0_reckon 17 = .ok (.getfield 9, 3) := by decide +kernel
theorem dX0_reckon_20 : decode cX0_reckon 20 = .ok (.iload_n 2, 1) := by decide +kernel
theorem dX0_reckon_21 : decode cX0_reckon 21 = .ok (.aload_n 0, 1) := by decide +kernel
theorem dX0_reckon_22 : decode cX0_reckon 22 = .ok (.getfield 37, 3) := by decide +kernel
theorem dX0_reckon_25 : decode cX0_reckon 25 = .ok (.iload_n 1, 1) := by decide +kernel
theorem dX0_reckon_26 : decode cX0_reckon 26 = .ok (.invokevirtual 147, 3) := by decide +kernel
theorem dX0_reckon_29 : decode cX0_reckon 29 = .ok (.iadd, 1) := by decide +kernel
theorem dX0_reckon_30 : decode cX0_reckon 30 = .ok (.laload, 1) := by decide +kernel
theorem dX0_reckon_31 : decode cX0_reckon 31 = .ok (.lstore 5, 2) := by decide +kernel
theorem dX0_reckon_33 : decode cX0_reckon 33 = .ok (.lload_n 3, 1) := by decide +kernel
theorem dX0_reckon_34 : decode cX0_reckon 34 = .ok (.invokestatic 150, 3) := by decide +kernel
theorem dX0_reckon_37 : decode cX0_reckon 37 = .ok (.ifCond .ne 11, 3) := by decide +kernel
theorem dX0_reckon_40 : decode cX0_reckon 40 = .ok (.lload 5, 2) := by decide +kernel
theorem dX0_reckon_42 : decode cX0_reckon 42 = .ok (.invokestatic 150, 3) := by decide +kernel
theorem dX0_reckon_45 : decode cX0_reckon 45 = .ok (.ifCond .eq 11, 3) := by decide +kernel
theorem dX0_reckon_48 : decode cX0_reckon 48 = .ok (.aload_n 0, 1) := by decide +kernel
theorem dX0_reckon_49 : decode cX0_reckon 49 = .ok (.iconst 1, 1) := by decide +kernel
theorem dX0_reckon_50 : decode cX0_reckon 50 = .ok (.putfield 59, 3) := by decide +kernel
theorem dX0_reckon_53 : decode cX0_reckon 53 = .ok (.goto 67, 3) := by decide +kernel
theorem dX0_reckon_56 : decode cX0_reckon 56 = .ok (.aload_n 0, 1) := by decide +kernel
theorem dX0_reckon_57 : decode cX0_reckon 57 = .ok (.getfield 37, 3) := by decide +kernel
theorem dX0_reckon_60 : decode cX0_reckon 60 = .ok (.iload_n 1, 1) := by decide +kernel
theorem dX0_reckon_61 : decode cX0_reckon 61 = .ok (.invokevirtual 117, 3) := by decide +kernel
theorem dX0_reckon_64 : decode cX0_reckon 64 = .ok (.iconst 2, 1) := by decide +kernel
theorem dX0_reckon_65 : decode cX0_reckon 65 = .ok (.if_icmp .ne 28, 3) := by decide +kernel
theorem dX0_reckon_68 : decode cX0_reckon 68 = .ok (.aload_n 0, 1) := by decide +kernel
theorem dX0_reckon_69 : decode cX0_reckon 69 = .ok (.getfield 9, 3) := by decide +kernel
theorem dX0_reckon_72 : decode cX0_reckon 72 = .ok (.iload_n 2, 1) := by decide +kernel
theorem dX0_reckon_73 : decode cX0_reckon 73 = .ok (.aload_n 0, 1) := by decide +kernel
theorem dX0_reckon_74 : decode cX0_reckon 74 = .ok (.getfield 37, 3) := by decide +kernel
theorem dX0_reckon_77 : decode cX0_reckon 77 = .ok (.iload_n 1, 1) := by decide +kernel
theorem dX0_reckon_78 : decode cX0_reckon 78 = .ok (.invokevirtual 114, 3) := by decide +kernel
theorem dX0_reckon_81 : decode cX0_reckon 81 = .ok (.iadd, 1) := by decide +kernel
theorem dX0_reckon_82 : decode cX0_reckon 82 = .ok (.lload_n 3, 1) := by decide +kernel
theorem dX0_reckon_83 : decode cX0_reckon 83 = .ok (.l2i, 1) := by decide +kernel
theorem dX0_reckon_84 : decode cX0_reckon 84 = .ok (.lload 5, 2) := by decide +kernel
theorem dX0_reckon_86 : decode cX0_reckon 86 = .ok (.l2i, 1) := by decide +kernel
theorem dX0_reckon_87 : decode cX0_reckon 87 = .ok (.iadd, 1) := by decide +kernel
theorem dX0_reckon_88 : decode cX0_reckon 88 = .ok (.i2l, 1) := by decide +kernel
theorem dX0_reckon_89 : decode cX0_reckon 89 = .ok (.lastore, 1) := by decide +kernel
theorem dX0_reckon_90 : decode cX0_reckon 90 = .ok (.goto 30, 3) := by decide +kernel
theorem dX0_reckon_93 : decode cX0_reckon 93 = .ok (.aload_n 0, 1) := by decide +kernel
theorem dX0_reckon_94 : decode cX0_reckon 94 = .ok (.getfield 9, 3) := by decide +kernel
theorem dX0_reckon_97 : decode cX0_reckon 97 = .ok (.iload_n 2, 1) := by decide +kernel
theorem dX0_reckon_98 : decode cX0_reckon 98 = .ok (.aload_n 0, 1) := by decide +kernel
theorem dX0_reckon_99 : decode cX0_reckon 99 = .ok (.getfield 37, 3) := by decide +kernel
theorem dX0_reckon_102 : decode cX0_reckon 102 = .ok (.iload_n 1, 1) := by decide +kernel
theorem dX0_reckon_103 : decode cX0_reckon 103 = .ok (.invokevirtual 114, 3) := by decide +kernel
theorem dX0_reckon_106 : decode cX0_reckon 106 = .ok (.iadd, 1) := by decide +kernel
theorem dX0_reckon_107 : decode cX0_reckon 107 = .ok (.lload_n 3, 1) := by decide +kernel
theorem dX0_reckon_108 : decode cX0_reckon 108 = .ok (.lload 5, 2) := by decide +kernel
theorem dX0_reckon_110 : decode cX0_reckon 110 = .ok (.lcmp, 1) := by decide +kernel
theorem dX0_reckon_111 : decode cX0_reckon 111 = .ok (.ifCond .ge 7, 3) := by decide +kernel
theorem dX0_reckon_114 : decode cX0_reckon 114 = .ok (.lconst 1, 1) := by decide +kernel
theorem dX0_reckon_115 : decode cX0_reckon 115 = .ok (.goto 4, 3) := by decide +kernel
theorem dX0_reckon_118 : decode cX0_reckon 118 = .ok (.lconst 0, 1) := by decide +kernel
theorem dX0_reckon_119 : decode cX0_reckon 119 = .ok (.lastore, 1) := by decide +kernel
theorem dX0_reckon_120 : decode cX0_reckon 120 = .ok (.return_, 1) := by decide +kernel
theorem dX0_make_0 : decode cX0_make 0 = .ok (.aload_n 0, 1) := by decide +kernel
theorem dX0_make_1 : decode cX0_make 1 = .ok (.getfield 45, 3) := by decide +kernel
theorem dX0_make_4 : decode cX0_make 4 = .ok (.ifCond .eq 19, 3) := by decide +kernel
theorem dX0_make_7 : decode cX0_make 7 = .ok (.aload_n 0, 1) := by decide +kernel
theorem dX0_make_8 : decode cX0_make 8 = .ok (.getfield 41, 3) := by decide +kernel
theorem dX0_make_11 : decode cX0_make 11 = .ok (.iload_n 1, 1) := by decide +kernel
theorem dX0_make_12 : decode cX0_make 12 = .ok (.invokevirtual 154, 3) := by decide +kernel
theorem dX0_make_15 : decode cX0_make 15 = .ok (.iconst 5, 1) := by decide +kernel
theorem dX0_make_16 : decode cX0_make 16 = .ok (.if_icmp .ne 7, 3) := by decide +kernel
theorem dX0_make_19 : decode cX0_make 19 = .ok (.iconst 1, 1) := by decide +kernel
theorem dX0_make_20 : decode cX0_make 20 = .ok (.goto 4, 3) := by decide +kernel
theorem dX0_make_23 : decode cX0_make 23 = .ok (.iconst 0, 1) := by decide +kernel
theorem dX0_make_24 : decode cX0_make 24 = .ok (.istore_n 3, 1) := by decide +kernel
theorem dX0_make_25 : decode cX0_make 25 = .ok (.iload_n 3, 1) := by decide +kernel
theorem dX0_make_26 : decode cX0_make 26 = .ok (.ifCond .ne 22, 3) := by decide +kernel
theorem dX0_make_29 : decode cX0_make 29 = .ok (.aload_n 0, 1) := by decide +kernel
theorem dX0_make_30 : decode cX0_make 30 = .ok (.getfield 34, 3) := by decide +kernel
theorem dX0_make_33 : decode cX0_make 33 = .ok (.iconst 1, 1) := by decide +kernel
theorem dX0_make_34 : decode cX0_make 34 = .ok (.iaload, 1) := by decide +kernel
theorem dX0_make_35 : decode cX0_make 35 = .ok (.aload_n 0, 1) := by decide +kernel
theorem dX0_make_36 : decode cX0_make 36 = .ok (.getfield 49, 3) := by decide +kernel
theorem dX0_make_39 : decode cX0_make 39 = .ok (.if_icmp .lt 9, 3) := by decide +kernel
theorem dX0_make_42 : decode cX0_make 42 = .ok (.aload_n 0, 1) := by decide +kernel
theorem dX0_make_43 : decode cX0_make 43 = .ok (.iconst 3, 1) := by decide +kernel
theorem dX0_make_44 : decode cX0_make 44 = .ok (.putfield 59, 3) := by decide +kernel
theorem dX0_make_47 : decode cX0_make 47 = .ok (.return_, 1) := by decide +kernel
theorem dX0_make_48 : decode cX0_make 48 = .ok (.iload_n 3, 1) := by decide +kernel
theorem dX0_make_49 : decode cX0_make 49 = .ok (.ifCond .ne 13, 3) := by decide +kernel
theorem dX0_make_52 : decode cX0_make 52 = .ok (.aload_n 0, 1) := by decide +kernel
theorem dX0_make_53 : decode cX0_make 53 = .ok (.getfield 34, 3) := by decide +kernel
theorem dX0_make_56 : decode cX0_make 56 = .ok (.iconst 1, 1) := by decide +kernel
theorem dX0_make_57 : decode cX0_make 57 = .ok (.dup2, 1) := by decide +kernel
theorem dX0_make_58 : decode cX0_make 58 = .ok (.iaload, 1) := by decide +kernel
theorem dX0_make_59 : decode cX0_make 59 = .ok (.iconst 1, 1) := by decide +kernel
theorem dX0_make_60 : decode cX0_make 60 = .ok (.iadd, 1) := by decide +kernel
theorem dX0_make_61 : decode cX0_make 61 = .ok (.iastore, 1) := by decide +kernel
theorem dX0_make_62 : decode cX0_make 62 = .ok (.aload_n 0, 1) := by decide +kernel
theorem dX0_make_63 : decode cX0_make 63 = .ok (.getfield 9, 3) := by decide +kernel
theorem dX0_make_66 : decode cX0_make 66 = .ok (.iload_n 2, 1) := by decide +kernel
theorem dX0_make_67 : decode cX0_make 67 = .ok (.aload_n 0, 1) := by decide +kernel
theorem dX0_make_68 : decode cX0_make 68 = .ok (.aload_n 0, 1) := by decide +kernel
theorem dX0_make_69 : decode cX0_make 69 = .ok (.getfield 37, 3) := by decide +kernel
theorem dX0_make_72 : decode cX0_make 72 = .ok (.iload_n 1, 1) := by decide +kernel
theorem dX0_make_73 : decode cX0_make 73 = .ok (.invokevirtual 120, 3) := by decide +kernel
theorem dX0_make_76 : decode cX0_make 76 = .ok (.invokevirtual 81, 3) := by decide +kernel
theorem dX0_make_79 : decode cX0_make 79 = .ok (.lastore, 1) := by decide +kernel
theorem dX0_make_80 : decode cX0_make 80 = .ok (.return_, 1) := by decide +kernel
theorem dX0_newObject_0 : decode cX0_newObject 0 = .ok (.aload_n 0, 1) := by decide +kernel
theorem dX0_newObject_1 : decode cX0_newObject 1 = .ok (.getfield 56, 3) := by decide +kernel
theorem dX0_newObject_4 : decode cX0_newObject 4 = .ok (.istore_n 2, 1) := by decide +kernel
theorem dX0_newObject_5 : decode cX0_newObject 5 = .ok (.aload_n 0, 1) := by decide +kernel
theorem dX0_newObject_6 : decode cX0_newObject 6 = .ok (.dup, 1) := by decide +kernel
theorem dX0_newObject_7 : decode cX0_newObject 7 = .ok (.getfield 56, 3) := by decide +kernel
theorem dX0_newObject_10 : decode cX0_newObject 10 = .ok (.iconst 1, 1) := by decide +kernel
theorem dX0_newObject_11 : decode cX0_newObject 11 = .ok (.iadd, 1) := by decide +kernel
theorem dX0_newObject_12 : decode cX0_newObject 12 = .ok (.putfield 56, 3) := by decide +kernel
theorem dX0_newObject_15 : decode cX0_newObject 15 = .ok (.aload_n 0, 1) := by decide +kernel
theorem dX0_newObject_16 : decode cX0_newObject 16 = .ok (.getfield 25, 3) := by decide +kernel
theorem dX0_newObject_19 : decode cX0_newObject 19 = .ok (.iload_n 2, 1) := by decide +kernel
theorem dX0_newObject_20 : decode cX0_newObject 20 = .ok (.iload_n 1, 1) := by decide +kernel
theorem dX0_newObject_21 : decode cX0_newObject 21 = .ok (.iastore, 1) := by decide +kernel
theorem dX0_newObject_22 : decode cX0_newObject 22 = .ok (.iload_n 2, 1) := by decide +kernel
theorem dX0_newObject_23 : decode cX0_newObject 23 = .ok (.iconst 3, 1) := by decide +kernel
theorem dX0_newObject_24 : decode cX0_newObject 24 = .ok (.imul, 1) := by decide +kernel
theorem dX0_newObject_25 : decode cX0_newObject 25 = .ok (.istore_n 3, 1) := by decide +kernel
theorem dX0_newObject_26 : decode cX0_newObject 26 = .ok (.aload_n 0, 1) := by decide +kernel
theorem dX0_newObject_27 : decode cX0_newObject 27 = .ok (.getfield 28, 3) := by decide +kernel
theorem dX0_newObject_30 : decode cX0_newObject 30 = .ok (.iload_n 3, 1) := by decide +kernel
theorem dX0_newObject_31 : decode cX0_newObject 31 = .ok (.iload_n 3, 1) := by decide +kernel
theorem dX0_newObject_32 : decode cX0_newObject 32 = .ok (.iconst 3, 1) := by decide +kernel
theorem dX0_newObject_33 : decode cX0_newObject 33 = .ok (.iadd, 1) := by decide +kernel
theorem dX0_newObject_34 : decode cX0_newObject 34 = .ok (.lconst 0, 1) := by decide +kernel
theorem dX0_newObject_35 : decode cX0_newObject 35 = .ok (.invokestatic 159, 3) := by decide +kernel
theorem dX0_newObject_38 : decode cX0_newObject 38 = .ok (.ldc2_w 145, 3) := by decide +kernel
theorem dX0_newObject_41 : decode cX0_newObject 41 = .ok (.iload_n 2, 1) := by decide +kernel
theorem dX0_newObject_42 : decode cX0_newObject 42 = .ok (.i2l, 1) := by decide +kernel
theorem dX0_newObject_43 : decode cX0_newObject 43 = .ok (.ladd, 1) := by decide +kernel
theorem dX0_newObject_44 : decode cX0_newObject 44 = .ok (.lreturn, 1) := by decide +kernel
theorem dX0_readField_0 : decode cX0_readField 0 = .ok (.aload_n 0, 1) := by decide +kernel
theorem dX0_readField_1 : decode cX0_readField 1 = .ok (.getfield 9, 3) := by decide +kernel
theorem dX0_readField_4 : decode cX0_readField 4 = .ok (.iload_n 2, 1) := by decide +kernel
theorem dX0_readField_5 : decode cX0_readField 5 = .ok (.aload_n 0, 1) := by decide +kernel
theorem dX0_readField_6 : decode cX0_readField 6 = .ok (.getfield 37, 3) := by decide +kernel
theorem dX0_readField_9 : decode cX0_readField 9 = .ok (.iload_n 1, 1) := by decide +kernel
theorem dX0_readField_10 : decode cX0_readField 10 = .ok (.invokevirtual 120, 3) := by decide +kernel
theorem dX0_readField_13 : decode cX0_readField 13 = .ok (.iadd, 1) := by decide +kernel
theorem dX0_readField_14 : decode cX0_readField 14 = .ok (.laload, 1) := by decide +kernel
theorem dX0_readField_15 : decode cX0_readField 15 = .ok (.lstore_n 3, 1) := by decide +kernel
theorem dX0_readField_16 : decode cX0_readField 16 = .ok (.lload_n 3, 1) := by decide +kernel
theorem dX0_readField_17 : decode cX0_readField 17 = .ok (.invokestatic 150, 3) := by decide +kernel
theorem dX0_readField_20 : decode cX0_readField 20 = .ok (.ifCond .eq 41, 3) := by decide +kernel
theorem dX0_readField_23 : decode cX0_readField 23 = .ok (.aload_n 0, 1) := by decide +kernel
theorem dX0_readField_24 : decode cX0_readField 24 = .ok (.getfield 9, 3) := by decide +kernel
theorem dX0_readField_27 : decode cX0_readField 27 = .ok (.iload_n 2, 1) := by decide +kernel
theorem dX0_readField_28 : decode cX0_readField 28 = .ok (.aload_n 0, 1) := by decide +kernel
theorem dX0_readField_29 : decode cX0_readField 29 = .ok (.getfield 37, 3) := by decide +kernel
theorem dX0_readField_32 : decode cX0_readField 32 = .ok (.iload_n 1, 1) := by decide +kernel
theorem dX0_readField_33 : decode cX0_readField 33 = .ok (.invokevirtual 114, 3) := by decide +kernel
theorem dX0_readField_36 : decode cX0_readField 36 = .ok (.iadd, 1) := by decide +kernel
theorem dX0_readField_37 : decode cX0_readField 37 = .ok (.aload_n 0, 1) := by decide +kernel
theorem dX0_readField_38 : decode cX0_readField 38 = .ok (.getfield 28, 3) := by decide +kernel
theorem dX0_readField_41 : decode cX0_readField 41 = .ok (.lload_n 3, 1) := by decide +kernel
theorem dX0_readField_42 : decode cX0_readField 42 = .ok (.invokestatic 162, 3) := by decide +kernel
theorem dX0_readField_45 : decode cX0_readField 45 = .ok (.iconst 3, 1) := by decide +kernel
theorem dX0_readField_46 : decode cX0_readField 46 = .ok (.imul, 1) := by decide +kernel
theorem dX0_readField_47 : decode cX0_readField 47 = .ok (.aload_n 0, 1) := by decide +kernel
theorem dX0_readField_48 : decode cX0_readField 48 = .ok (.getfield 37, 3) := by decide +kernel
theorem dX0_readField_51 : decode cX0_readField 51 = .ok (.iload_n 1, 1) := by decide +kernel
theorem dX0_readField_52 : decode cX0_readField 52 = .ok (.invokevirtual 147, 3) := by decide +kernel
theorem dX0_readField_55 : decode cX0_readField 55 = .ok (.iadd, 1) := by decide +kernel
theorem dX0_readField_56 : decode cX0_readField 56 = .ok (.laload, 1) := by decide +kernel
theorem dX0_readField_57 : decode cX0_readField 57 = .ok (.lastore, 1) := by decide +kernel
theorem dX0_readField_58 : decode cX0_readField 58 = .ok (.goto 8, 3) := by decide +kernel
theorem dX0_readField_61 : decode cX0_readField 61 = .ok (.aload_n 0, 1) := by decide +kernel
theorem dX0_readField_62 : decode cX0_readField 62 = .ok (.iconst 1, 1) := by decide +kernel
theorem dX0_readField_63 : decode cX0_readField 63 = .ok (.putfield 59, 3) := by decide +kernel
theorem dX0_readField_66 : decode cX0_readField 66 = .ok (.return_, 1) := by decide +kernel
theorem dX0_writeField_0 : decode cX0_writeField 0 = .ok (.aload_n 0, 1) := by decide +kernel
theorem dX0_writeField_1 : decode cX0_writeField 1 = .ok (.getfield 9, 3) := by decide +kernel
theorem dX0_writeField_4 : decode cX0_writeField 4 = .ok (.iload_n 2, 1) := by decide +kernel
theorem dX0_writeField_5 : decode cX0_writeField 5 = .ok (.aload_n 0, 1) := by decide +kernel
theorem dX0_writeField_6 : decode cX0_writeField 6 = .ok (.getfield 37, 3) := by decide +kernel
theorem dX0_writeField_9 : decode cX0_writeField 9 = .ok (.iload_n 1, 1) := by decide +kernel
theorem dX0_writeField_10 : decode cX0_writeField 10 = .ok (.invokevirtual 114, 3) := by decide +kernel
theorem dX0_writeField_13 : decode cX0_writeField 13 = .ok (.iadd, 1) := by decide +kernel
theorem dX0_writeField_14 : decode cX0_writeField 14 = .ok (.laload, 1) := by decide +kernel
theorem dX0_writeField_15 : decode cX0_writeField 15 = .ok (.lstore_n 3, 1) := by decide +kernel
theorem dX0_writeField_16 : decode cX0_writeField 16 = .ok (.lload_n 3, 1) := by decide +kernel
theorem dX0_writeField_17 : decode cX0_writeField 17 = .ok (.invokestatic 150, 3) := by decide +kernel
theorem dX0_writeField_20 : decode cX0_writeField 20 = .ok (.ifCond .eq 41, 3) := by decide +kernel
theorem dX0_writeField_23 : decode cX0_writeField 23 = .ok (.aload_n 0, 1) := by decide +kernel
theorem dX0_writeField_24 : decode cX0_writeField 24 = .ok (.getfield 28, 3) := by decide +kernel
theorem dX0_writeField_27 : decode cX0_writeField 27 = .ok (.lload_n 3, 1) := by decide +kernel
theorem dX0_writeField_28 : decode cX0_writeField 28 = .ok (.invokestatic 162, 3) := by decide +kernel
theorem dX0_writeField_31 : decode cX0_writeField 31 = .ok (.iconst 3, 1) := by decide +kernel
theorem dX0_writeField_32 : decode cX0_writeField 32 = .ok (.imul, 1) := by decide +kernel
theorem dX0_writeField_33 : decode cX0_writeField 33 = .ok (.aload_n 0, 1) := by decide +kernel
theorem dX0_writeField_34 : decode cX0_writeField 34 = .ok (.getfield 37, 3) := by decide +kernel
theorem dX0_writeField_37 : decode cX0_writeField 37 = .ok (.iload_n 1, 1) := by decide +kernel
theorem dX0_writeField_38 : decode cX0_writeField 38 = .ok (.invokevirtual 147, 3) := by decide +kernel
theorem dX0_writeField_41 : decode cX0_writeField 41 = .ok (.iadd, 1) := by decide +kernel
theorem dX0_writeField_42 : decode cX0_writeField 42 = .ok (.aload_n 0, 1) := by decide +kernel
theorem dX0_writeField_43 : decode cX0_writeField 43 = .ok (.getfield 9, 3) := by decide +kernel
theorem dX0_writeField_46 : decode cX0_writeField 46 = .ok (.iload_n 2, 1) := by decide +kernel
theorem dX0_writeField_47 : decode cX0_writeField 47 = .ok (.aload_n 0, 1) := by decide +kernel
theorem dX0_writeField_48 : decode cX0_writeField 48 = .ok (.getfield 37, 3) := by decide +kernel
theorem dX0_writeField_51 : decode cX0_writeField 51 = .ok (.iload_n 1, 1) := by decide +kernel
theorem dX0_writeField_52 : decode cX0_writeField 52 = .ok (.invokevirtual 120, 3) := by decide +kernel
theorem dX0_writeField_55 : decode cX0_writeField 55 = .ok (.iadd, 1) := by decide +kernel
theorem dX0_writeField_56 : decode cX0_writeField 56 = .ok (.laload, 1) := by decide +kernel
theorem dX0_writeField_57 : decode cX0_writeField 57 = .ok (.lastore, 1) := by decide +kernel
theorem dX0_writeField_58 : decode cX0_writeField 58 = .ok (.goto 8, 3) := by decide +kernel
theorem dX0_writeField_61 : decode cX0_writeField 61 = .ok (.aload_n 0, 1) := by decide +kernel
theorem dX0_writeField_62 : decode cX0_writeField 62 = .ok (.iconst 1, 1) := by decide +kernel
theorem dX0_writeField_63 : decode cX0_writeField 63 = .ok (.putfield 59, 3) := by decide +kernel
theorem dX0_writeField_66 : decode cX0_writeField 66 = .ok (.return_, 1) := by decide +kernel
theorem dX0_send_0 : decode cX0_send 0 = .ok (.aload_n 0, 1) := by decide +kernel
theorem dX0_send_1 : decode cX0_send 1 = .ok (.getfield 9, 3) := by decide +kernel
theorem dX0_send_4 : decode cX0_send 4 = .ok (.iload_n 2, 1) := by decide +kernel
theorem dX0_send_5 : decode cX0_send 5 = .ok (.aload_n 0, 1) := by decide +kernel
theorem dX0_send_6 : decode cX0_send 6 = .ok (.getfield 37, 3) := by decide +kernel
theorem dX0_send_9 : decode cX0_send 9 = .ok (.iload_n 1, 1) := by decide +kernel
theorem dX0_send_10 : decode cX0_send 10 = .ok (.invokevirtual 120, 3) := by decide +kernel
theorem dX0_send_13 : decode cX0_send 13 = .ok (.iadd, 1) := by decide +kernel
theorem dX0_send_14 : decode cX0_send 14 = .ok (.laload, 1) := by decide +kernel
theorem dX0_send_15 : decode cX0_send 15 = .ok (.lstore_n 3, 1) := by decide +kernel
theorem dX0_send_16 : decode cX0_send 16 = .ok (.lload_n 3, 1) := by decide +kernel
theorem dX0_send_17 : decode cX0_send 17 = .ok (.invokestatic 150, 3) := by decide +kernel
theorem dX0_send_20 : decode cX0_send 20 = .ok (.ifCond .ne 9, 3) := by decide +kernel
theorem dX0_send_23 : decode cX0_send 23 = .ok (.aload_n 0, 1) := by decide +kernel
theorem dX0_send_24 : decode cX0_send 24 = .ok (.iconst 1, 1) := by decide +kernel
theorem dX0_send_25 : decode cX0_send 25 = .ok (.putfield 59, 3) := by decide +kernel
theorem dX0_send_28 : decode cX0_send 28 = .ok (.return_, 1) := by decide +kernel
theorem dX0_send_29 : decode cX0_send 29 = .ok (.aload_n 0, 1) := by decide +kernel
theorem dX0_send_30 : decode cX0_send 30 = .ok (.getfield 37, 3) := by decide +kernel
theorem dX0_send_33 : decode cX0_send 33 = .ok (.aload_n 0, 1) := by decide +kernel
theorem dX0_send_34 : decode cX0_send 34 = .ok (.getfield 25, 3) := by decide +kernel
theorem dX0_send_37 : decode cX0_send 37 = .ok (.lload_n 3, 1) := by decide +kernel
theorem dX0_send_38 : decode cX0_send 38 = .ok (.invokestatic 162, 3) := by decide +kernel
theorem dX0_send_41 : decode cX0_send 41 = .ok (.iaload, 1) := by decide +kernel
theorem dX0_send_42 : decode cX0_send 42 = .ok (.aload_n 0, 1) := by decide +kernel
theorem dX0_send_43 : decode cX0_send 43 = .ok (.getfield 37, 3) := by decide +kernel
theorem dX0_send_46 : decode cX0_send 46 = .ok (.iload_n 1, 1) := by decide +kernel
theorem dX0_send_47 : decode cX0_send 47 = .ok (.invokevirtual 147, 3) := by decide +kernel
theorem dX0_send_50 : decode cX0_send 50 = .ok (.invokevirtual 85, 3) := by decide +kernel
theorem dX0_send_53 : decode cX0_send 53 = .ok (.istore 5, 2) := by decide +kernel
theorem dX0_send_55 : decode cX0_send 55 = .ok (.iload 5, 2) := by decide +kernel
theorem dX0_send_57 : decode cX0_send 57 = .ok (.iconst (-1), 1) := by decide +kernel
theorem dX0_send_58 : decode cX0_send 58 = .ok (.if_icmp .ne 10, 3) := by decide +kernel
theorem dX0_send_61 : decode cX0_send 61 = .ok (.aload_n 0, 1) := by decide +kernel
theorem dX0_send_62 : decode cX0_send 62 = .ok (.bipush 6, 2) := by decide +kernel
theorem dX0_send_64 : decode cX0_send 64 = .ok (.putfield 59, 3) := by decide +kernel
theorem dX0_send_67 : decode cX0_send 67 = .ok (.return_, 1) := by decide +kernel
theorem dX0_send_68 : decode cX0_send 68 = .ok (.aload_n 0, 1) := by decide +kernel
theorem dX0_send_69 : decode cX0_send 69 = .ok (.getfield 53, 3) := by decide +kernel
theorem dX0_send_72 : decode cX0_send 72 = .ok (.bipush 12, 2) := by decide +kernel
theorem dX0_send_74 : decode cX0_send 74 = .ok (.if_icmp .lt 9, 3) := by decide +kernel
theorem dX0_send_77 : decode cX0_send 77 = .ok (.aload_n 0, 1) := by decide +kernel
theorem dX0_send_78 : decode cX0_send 78 = .ok (.iconst 4, 1) := by decide +kernel
theorem dX0_send_79 : decode cX0_send 79 = .ok (.putfield 59, 3) := by decide +kernel
theorem dX0_send_82 : decode cX0_send 82 = .ok (.return_, 1) := by decide +kernel
theorem dX0_send_83 : decode cX0_send 83 = .ok (.aload_n 0, 1) := by decide +kernel
theorem dX0_send_84 : decode cX0_send 84 = .ok (.aload_n 0, 1) := by decide +kernel
theorem dX0_send_85 : decode cX0_send 85 = .ok (.getfield 45, 3) := by decide +kernel
theorem dX0_send_88 : decode cX0_send 88 = .ok (.ifCond .eq 14, 3) := by decide +kernel
theorem dX0_send_91 : decode cX0_send 91 = .ok (.aload_n 0, 1) := by decide +kernel
theorem dX0_send_92 : decode cX0_send 92 = .ok (.getfield 41, 3) := by decide +kernel
theorem dX0_send_95 : decode cX0_send 95 = .ok (.iload_n 1, 1) := by decide +kernel
theorem dX0_send_96 : decode cX0_send 96 = .ok (.invokevirtual 154, 3) := by decide +kernel
theorem dX0_send_99 : decode cX0_send 99 = .ok (.goto 4, 3) := by decide +kernel
theorem dX0_send_102 : decode cX0_send 102 = .ok (.iconst 0, 1) := by decide +kernel
theorem dX0_send_103 : decode cX0_send 103 = .ok (.invokevirtual 166, 3) := by decide +kernel
theorem dX0_send_106 : decode cX0_send 106 = .ok (.aload_n 0, 1) := by decide +kernel
theorem dX0_send_107 : decode cX0_send 107 = .ok (.getfield 22, 3) := by decide +kernel
theorem dX0_send_110 : decode cX0_send 110 = .ok (.aload_n 0, 1) := by decide +kernel
theorem dX0_send_111 : decode cX0_send 111 = .ok (.getfield 53, 3) := by decide +kernel
theorem dX0_send_114 : decode cX0_send 114 = .ok (.iload_n 2, 1) := by decide +kernel
theorem dX0_send_115 : decode cX0_send 115 = .ok (.aload_n 0, 1) := by decide +kernel
theorem dX0_send_116 : decode cX0_send 116 = .ok (.getfield 37, 3) := by decide +kernel
theorem dX0_send_119 : decode cX0_send 119 = .ok (.iload_n 1, 1) := by decide +kernel
theorem dX0_send_120 : decode cX0_send 120 = .ok (.invokevirtual 114, 3) := by decide +kernel
theorem dX0_send_123 : decode cX0_send 123 = .ok (.iadd, 1) := by decide +kernel
theorem dX0_send_124 : decode cX0_send 124 = .ok (.iastore, 1) := by decide +kernel
theorem dX0_send_125 : decode cX0_send 125 = .ok (.aload_n 0, 1) := by decide +kernel
theorem dX0_send_126 : decode cX0_send 126 = .ok (.iload 5, 2) := by decide +kernel
theorem dX0_send_128 : decode cX0_send 128 = .ok (.lload_n 3, 1) := by decide +kernel
theorem dX0_send_129 : decode cX0_send 129 = .ok (.aload_n 0, 1) := by decide +kernel
theorem dX0_send_130 : decode cX0_send 130 = .ok (.getfield 9, 3) := by decide +kernel
theorem dX0_send_133 : decode cX0_send 133 = .ok (.iload_n 2, 1) := by decide +kernel
theorem dX0_send_134 : decode cX0_send 134 = .ok (.iconst 5, 1) := by decide +kernel
theorem dX0_send_135 : decode cX0_send 135 = .ok (.iadd, 1) := by decide +kernel
theorem dX0_send_136 : decode cX0_send 136 = .ok (.laload, 1) := by decide +kernel
theorem dX0_send_137 : decode cX0_send 137 = .ok (.invokevirtual 91, 3) := by decide +kernel
theorem dX0_send_140 : decode cX0_send 140 = .ok (.return_, 1) := by decide +kernel
theorem dX0_countCall_0 : decode cX0_countCall 0 = .ok (.iload_n 1, 1) := by decide +kernel
theorem dX0_countCall_1 : decode cX0_countCall 1 = .ok (.iconst 2, 1) := by decide +kernel
theorem dX0_countCall_2 : decode cX0_countCall 2 = .ok (.if_icmp .eq 18, 3) := by decide +kernel
theorem dX0_countCall_5 : decode cX0_countCall 5 = .ok (.iload_n 1, 1) := by decide +kernel
