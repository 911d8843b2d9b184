theorem dX4_stays_156 : decode cX4_stays 156 = .ok (.aload_n 0, 1) := by decide +kernel
theorem dX4_stays_157 : decode cX4_stays 157 = .ok (.getfield 36, 3) := by decide +kernel
theorem dX4_stays_160 : decode cX4_stays 160 = .ok (.aload_n 0, 1) := by decide +kernel
theorem dX4_stays_161 : decode cX4_stays 161 = .ok (.iload_n 1, 1) := by decide +kernel
theorem dX4_stays_162 : decode cX4_stays 162 = .ok (.iload 4, 2) := by decide +kernel
theorem dX4_stays_164 : decode cX4_stays 164 = .ok (.iconst 2, 1) := by decide +kernel
theorem dX4_stays_165 : decode cX4_stays 165 = .ok (.invokevirtual 99, 3) := by decide +kernel
theorem dX4_stays_168 : decode cX4_stays 168 = .ok (.baload, 1) := by decide +kernel
theorem dX4_stays_169 : decode cX4_stays 169 = .ok (.ifCond .ne 7, 3) := by decide +kernel
theorem dX4_stays_172 : decode cX4_stays 172 = .ok (.iconst 1, 1) := by decide +kernel
theorem dX4_stays_173 : decode cX4_stays 173 = .ok (.goto 4, 3) := by decide +kernel
theorem dX4_stays_176 : decode cX4_stays 176 = .ok (.iconst 0, 1) := by decide +kernel
theorem dX4_stays_177 : decode cX4_stays 177 = .ok (.istore_n 3, 1) := by decide +kernel
theorem dX4_stays_178 : decode cX4_stays 178 = .ok (.iload 5, 2) := by decide +kernel
theorem dX4_stays_180 : decode cX4_stays 180 = .ok (.bipush 7, 2) := by decide +kernel
theorem dX4_stays_182 : decode cX4_stays 182 = .ok (.if_icmp .ne 22, 3) := by decide +kernel
theorem dX4_stays_185 : decode cX4_stays 185 = .ok (.iload_n 3, 1) := by decide +kernel
theorem dX4_stays_186 : decode cX4_stays 186 = .ok (.ifCond .eq 16, 3) := by decide +kernel
theorem dX4_stays_189 : decode cX4_stays 189 = .ok (.aload_n 0, 1) := by decide +kernel
theorem dX4_stays_190 : decode cX4_stays 190 = .ok (.getfield 36, 3) := by decide +kernel
theorem dX4_stays_193 : decode cX4_stays 193 = .ok (.iconst 5, 1) := by decide +kernel
theorem dX4_stays_194 : decode cX4_stays 194 = .ok (.baload, 1) := by decide +kernel
theorem dX4_stays_195 : decode cX4_stays 195 = .ok (.ifCond .ne 7, 3) := by decide +kernel
theorem dX4_stays_198 : decode cX4_stays 198 = .ok (.iconst 1, 1) := by decide +kernel
theorem dX4_stays_199 : decode cX4_stays 199 = .ok (.goto 4, 3) := by decide +kernel
theorem dX4_stays_202 : decode cX4_stays 202 = .ok (.iconst 0, 1) := by decide +kernel
theorem dX4_stays_203 : decode cX4_stays 203 = .ok (.istore_n 3, 1) := by decide +kernel
theorem dX4_stays_204 : decode cX4_stays 204 = .ok (.iload 5, 2) := by decide +kernel
theorem dX4_stays_206 : decode cX4_stays 206 = .ok (.bipush 11, 2) := by decide +kernel
theorem dX4_stays_208 : decode cX4_stays 208 = .ok (.if_icmp .ne 29, 3) := by decide +kernel
theorem dX4_stays_211 : decode cX4_stays 211 = .ok (.iload_n 3, 1) := by decide +kernel
theorem dX4_stays_212 : decode cX4_stays 212 = .ok (.ifCond .eq 23, 3) := by decide +kernel
theorem dX4_stays_215 : decode cX4_stays 215 = .ok (.aload_n 0, 1) := by decide +kernel
theorem dX4_stays_216 : decode cX4_stays 216 = .ok (.getfield 36, 3) := by decide +kernel
theorem dX4_stays_219 : decode cX4_stays 219 = .ok (.aload_n 0, 1) := by decide +kernel
theorem dX4_stays_220 : decode cX4_stays 220 = .ok (.iload_n 1, 1) := by decide +kernel
theorem dX4_stays_221 : decode cX4_stays 221 = .ok (.iload 4, 2) := by decide +kernel
theorem dX4_stays_223 : decode cX4_stays 223 = .ok (.iconst 1, 1) := by decide +kernel
theorem dX4_stays_224 : decode cX4_stays 224 = .ok (.invokevirtual 99, 3) := by decide +kernel
theorem dX4_stays_227 : decode cX4_stays 227 = .ok (.baload, 1) := by decide +kernel
theorem dX4_stays_228 : decode cX4_stays 228 = .ok (.ifCond .ne 7, 3) := by decide +kernel
theorem dX4_stays_231 : decode cX4_stays 231 = .ok (.iconst 1, 1) := by decide +kernel
theorem dX4_stays_232 : decode cX4_stays 232 = .ok (.goto 4, 3) := by decide +kernel
theorem dX4_stays_235 : decode cX4_stays 235 = .ok (.iconst 0, 1) := by decide +kernel
theorem dX4_stays_236 : decode cX4_stays 236 = .ok (.istore_n 3, 1) := by decide +kernel
theorem dX4_stays_237 : decode cX4_stays 237 = .ok (.iinc 4 1, 3) := by decide +kernel
theorem dX4_stays_240 : decode cX4_stays 240 = .ok (.goto (-123), 3) := by decide +kernel
theorem dX4_stays_243 : decode cX4_stays 243 = .ok (.iload_n 3, 1) := by decide +kernel
theorem dX4_stays_244 : decode cX4_stays 244 = .ok (.ireturn, 1) := by decide +kernel
theorem dX4_shape_0 : decode cX4_shape 0 = .ok (.aload_n 0, 1) := by decide +kernel
theorem dX4_shape_1 : decode cX4_shape 1 = .ok (.iconst 0, 1) := by decide +kernel
theorem dX4_shape_2 : decode cX4_shape 2 = .ok (.putfield 69, 3) := by decide +kernel
theorem dX4_shape_5 : decode cX4_shape 5 = .ok (.iconst 0, 1) := by decide +kernel
theorem dX4_shape_6 : decode cX4_shape 6 = .ok (.istore_n 1, 1) := by decide +kernel
theorem dX4_shape_7 : decode cX4_shape 7 = .ok (.iload_n 1, 1) := by decide +kernel
theorem dX4_shape_8 : decode cX4_shape 8 = .ok (.bipush 6, 2) := by decide +kernel
theorem dX4_shape_10 : decode cX4_shape 10 = .ok (.if_icmp .ge 24, 3) := by decide +kernel
theorem dX4_shape_13 : decode cX4_shape 13 = .ok (.aload_n 0, 1) := by decide +kernel
theorem dX4_shape_14 : decode cX4_shape 14 = .ok (.getfield 23, 3) := by decide +kernel
theorem dX4_shape_17 : decode cX4_shape 17 = .ok (.iload_n 1, 1) := by decide +kernel
theorem dX4_shape_18 : decode cX4_shape 18 = .ok (.iload_n 1, 1) := by decide +kernel
theorem dX4_shape_19 : decode cX4_shape 19 = .ok (.ifCond .ne 7, 3) := by decide +kernel
theorem dX4_shape_22 : decode cX4_shape 22 = .ok (.iconst 1, 1) := by decide +kernel
theorem dX4_shape_23 : decode cX4_shape 23 = .ok (.goto 4, 3) := by decide +kernel
theorem dX4_shape_26 : decode cX4_shape 26 = .ok (.iconst 0, 1) := by decide +kernel
theorem dX4_shape_27 : decode cX4_shape 27 = .ok (.bastore, 1) := by decide +kernel
theorem dX4_shape_28 : decode cX4_shape 28 = .ok (.iinc 1 1, 3) := by decide +kernel
theorem dX4_shape_31 : decode cX4_shape 31 = .ok (.goto (-24), 3) := by decide +kernel
theorem dX4_shape_34 : decode cX4_shape 34 = .ok (.iconst 0, 1) := by decide +kernel
theorem dX4_shape_35 : decode cX4_shape 35 = .ok (.istore_n 1, 1) := by decide +kernel
theorem dX4_shape_36 : decode cX4_shape 36 = .ok (.iload_n 1, 1) := by decide +kernel
theorem dX4_shape_37 : decode cX4_shape 37 = .ok (.bipush 24, 2) := by decide +kernel
theorem dX4_shape_39 : decode cX4_shape 39 = .ok (.if_icmp .ge 23, 3) := by decide +kernel
theorem dX4_shape_42 : decode cX4_shape 42 = .ok (.aload_n 0, 1) := by decide +kernel
theorem dX4_shape_43 : decode cX4_shape 43 = .ok (.getfield 27, 3) := by decide +kernel
theorem dX4_shape_46 : decode cX4_shape 46 = .ok (.iload_n 1, 1) := by decide +kernel
theorem dX4_shape_47 : decode cX4_shape 47 = .ok (.iconst 0, 1) := by decide +kernel
theorem dX4_shape_48 : decode cX4_shape 48 = .ok (.bastore, 1) := by decide +kernel
theorem dX4_shape_49 : decode cX4_shape 49 = .ok (.aload_n 0, 1) := by decide +kernel
theorem dX4_shape_50 : decode cX4_shape 50 = .ok (.getfield 30, 3) := by decide +kernel
theorem dX4_shape_53 : decode cX4_shape 53 = .ok (.iload_n 1, 1) := by decide +kernel
theorem dX4_shape_54 : decode cX4_shape 54 = .ok (.iconst 0, 1) := by decide +kernel
theorem dX4_shape_55 : decode cX4_shape 55 = .ok (.bastore, 1) := by decide +kernel
theorem dX4_shape_56 : decode cX4_shape 56 = .ok (.iinc 1 1, 3) := by decide +kernel
theorem dX4_shape_59 : decode cX4_shape 59 = .ok (.goto (-23), 3) := by decide +kernel
theorem dX4_shape_62 : decode cX4_shape 62 = .ok (.aload_n 0, 1) := by decide +kernel
theorem dX4_shape_63 : decode cX4_shape 63 = .ok (.iconst 0, 1) := by decide +kernel
theorem dX4_shape_64 : decode cX4_shape 64 = .ok (.iconst 0, 1) := by decide +kernel
theorem dX4_shape_65 : decode cX4_shape 65 = .ok (.invokevirtual 95, 3) := by decide +kernel
theorem dX4_shape_68 : decode cX4_shape 68 = .ok (.ifCond .lt 15, 3) := by decide +kernel
theorem dX4_shape_71 : decode cX4_shape 71 = .ok (.aload_n 0, 1) := by decide +kernel
theorem dX4_shape_72 : decode cX4_shape 72 = .ok (.getfield 27, 3) := by decide +kernel
theorem dX4_shape_75 : decode cX4_shape 75 = .ok (.aload_n 0, 1) := by decide +kernel
theorem dX4_shape_76 : decode cX4_shape 76 = .ok (.iconst 0, 1) := by decide +kernel
theorem dX4_shape_77 : decode cX4_shape 77 = .ok (.iconst 0, 1) := by decide +kernel
theorem dX4_shape_78 : decode cX4_shape 78 = .ok (.invokevirtual 95, 3) := by decide +kernel
theorem dX4_shape_81 : decode cX4_shape 81 = .ok (.iconst 1, 1) := by decide +kernel
theorem dX4_shape_82 : decode cX4_shape 82 = .ok (.bastore, 1) := by decide +kernel
theorem dX4_shape_83 : decode cX4_shape 83 = .ok (.iconst 1, 1) := by decide +kernel
theorem dX4_shape_84 : decode cX4_shape 84 = .ok (.istore_n 1, 1) := by decide +kernel
theorem dX4_shape_85 : decode cX4_shape 85 = .ok (.iload_n 1, 1) := by decide +kernel
theorem dX4_shape_86 : decode cX4_shape 86 = .ok (.ifCond .eq 49, 3) := by decide +kernel
theorem dX4_shape_89 : decode cX4_shape 89 = .ok (.iconst 0, 1) := by decide +kernel
theorem dX4_shape_90 : decode cX4_shape 90 = .ok (.istore_n 1, 1) := by decide +kernel
theorem dX4_shape_91 : decode cX4_shape 91 = .ok (.iconst 0, 1) := by decide +kernel
theorem dX4_shape_92 : decode cX4_shape 92 = .ok (.istore_n 2, 1) := by decide +kernel
theorem dX4_shape_93 : decode cX4_shape 93 = .ok (.iload_n 2, 1) := by decide +kernel
theorem dX4_shape_94 : decode cX4_shape 94 = .ok (.bipush 24, 2) := by decide +kernel
theorem dX4_shape_96 : decode cX4_shape 96 = .ok (.if_icmp .ge 36, 3) := by decide +kernel
theorem dX4_shape_99 : decode cX4_shape 99 = .ok (.aload_n 0, 1) := by decide +kernel
theorem dX4_shape_100 : decode cX4_shape 100 = .ok (.getfield 27, 3) := by decide +kernel
theorem dX4_shape_103 : decode cX4_shape 103 = .ok (.iload_n 2, 1) := by decide +kernel
theorem dX4_shape_104 : decode cX4_shape 104 = .ok (.baload, 1) := by decide +kernel
theorem dX4_shape_105 : decode cX4_shape 105 = .ok (.ifCond .eq 21, 3) := by decide +kernel
theorem dX4_shape_108 : decode cX4_shape 108 = .ok (.aload_n 0, 1) := by decide +kernel
theorem dX4_shape_109 : decode cX4_shape 109 = .ok (.iload_n 2, 1) := by decide +kernel
theorem dX4_shape_110 : decode cX4_shape 110 = .ok (.invokevirtual 106, 3) := by decide +kernel
theorem dX4_shape_113 : decode cX4_shape 113 = .ok (.ifCond .ne 7, 3) := by decide +kernel
theorem dX4_shape_116 : decode cX4_shape 116 = .ok (.iload_n 1, 1) := by decide +kernel
theorem dX4_shape_117 : decode cX4_shape 117 = .ok (.ifCond .eq 7, 3) := by decide +kernel
theorem dX4_shape_120 : decode cX4_shape 120 = .ok (.iconst 1, 1) := by decide +kernel
theorem dX4_shape_121 : decode cX4_shape 121 = .ok (.goto 4, 3) := by decide +kernel
theorem dX4_shape_124 : decode cX4_shape 124 = .ok (.iconst 0, 1) := by decide +kernel
theorem dX4_shape_125 : decode cX4_shape 125 = .ok (.istore_n 1, 1) := by decide +kernel
theorem dX4_shape_126 : decode cX4_shape 126 = .ok (.iinc 2 1, 3) := by decide +kernel
theorem dX4_shape_129 : decode cX4_shape 129 = .ok (.goto (-36), 3) := by decide +kernel
theorem dX4_shape_132 : decode cX4_shape 132 = .ok (.goto (-47), 3) := by decide +kernel
theorem dX4_shape_135 : decode cX4_shape 135 = .ok (.iconst 0, 1) := by decide +kernel
theorem dX4_shape_136 : decode cX4_shape 136 = .ok (.istore_n 2, 1) := by decide +kernel
theorem dX4_shape_137 : decode cX4_shape 137 = .ok (.iconst 0, 1) := by decide +kernel
theorem dX4_shape_138 : decode cX4_shape 138 = .ok (.istore_n 3, 1) := by decide +kernel
theorem dX4_shape_139 : decode cX4_shape 139 = .ok (.iload_n 3, 1) := by decide +kernel
theorem dX4_shape_140 : decode cX4_shape 140 = .ok (.bipush 24, 2) := by decide +kernel
theorem dX4_shape_142 : decode cX4_shape 142 = .ok (.if_icmp .ge 133, 3) := by decide +kernel
theorem dX4_shape_145 : decode cX4_shape 145 = .ok (.iload_n 2, 1) := by decide +kernel
theorem dX4_shape_146 : decode cX4_shape 146 = .ok (.aload_n 0, 1) := by decide +kernel
theorem dX4_shape_147 : decode cX4_shape 147 = .ok (.getfield 27, 3) := by decide +kernel
theorem dX4_shape_150 : decode cX4_shape 150 = .ok (.iload_n 3, 1) := by decide +kernel
theorem dX4_shape_151 : decode cX4_shape 151 = .ok (.baload, 1) := by decide +kernel
theorem dX4_shape_152 : decode cX4_shape 152 = .ok (.ifCond .eq 7, 3) := by decide +kernel
theorem dX4_shape_155 : decode cX4_shape 155 = .ok (.iconst 1, 1) := by decide +kernel
theorem dX4_shape_156 : decode cX4_shape 156 = .ok (.goto 4, 3) := by decide +kernel
theorem dX4_shape_159 : decode cX4_shape 159 = .ok (.iconst 0, 1) := by decide +kernel
theorem dX4_shape_160 : decode cX4_shape 160 = .ok (.iadd, 1) := by decide +kernel
theorem dX4_shape_161 : decode cX4_shape 161 = .ok (.istore_n 2, 1) := by decide +kernel
theorem dX4_shape_162 : decode cX4_shape 162 = .ok (.iconst 0, 1) := by decide +kernel
theorem dX4_shape_163 : decode cX4_shape 163 = .ok (.istore 4, 2) := by decide +kernel
theorem dX4_shape_165 : decode cX4_shape 165 = .ok (.iload 4, 2) := by decide +kernel
theorem dX4_shape_167 : decode cX4_shape 167 = .ok (.aload_n 0, 1) := by decide +kernel
theorem dX4_shape_168 : decode cX4_shape 168 = .ok (.getfield 17, 3) := by decide +kernel
theorem dX4_shape_171 : decode cX4_shape 171 = .ok (.iload_n 3, 1) := by decide +kernel
theorem dX4_shape_172 : decode cX4_shape 172 = .ok (.iaload, 1) := by decide +kernel
theorem dX4_shape_173 : decode cX4_shape 173 = .ok (.if_icmp .ge 96, 3) := by decide +kernel
theorem dX4_shape_176 : decode cX4_shape 176 = .ok (.aload_n 0, 1) := by decide +kernel
theorem dX4_shape_177 : decode cX4_shape 177 = .ok (.iload_n 3, 1) := by decide +kernel
theorem dX4_shape_178 : decode cX4_shape 178 = .ok (.iload 4, 2) := by decide +kernel
theorem dX4_shape_180 : decode cX4_shape 180 = .ok (.iconst 0, 1) := by decide +kernel
theorem dX4_shape_181 : decode cX4_shape 181 = .ok (.invokevirtual 99, 3) := by decide +kernel
theorem dX4_shape_184 : decode cX4_shape 184 = .ok (.istore 5, 2) := by decide +kernel
theorem dX4_shape_186 : decode cX4_shape 186 = .ok (.iload 5, 2) := by decide +kernel
theorem dX4_shape_188 : decode cX4_shape 188 = .ok (.bipush 7, 2) := by decide +kernel
theorem dX4_shape_190 : decode cX4_shape 190 = .ok (.if_icmp .ne 18, 3) := by decide +kernel
theorem dX4_shape_193 : decode cX4_shape 193 = .ok (.aload_n 0, 1) := by decide +kernel
theorem dX4_shape_194 : decode cX4_shape 194 = .ok (.aload_n 0, 1) := by decide +kernel
theorem dX4_shape_195 : decode cX4_shape 195 = .ok (.iload_n 3, 1) := by decide +kernel
theorem dX4_shape_196 : decode cX4_shape 196 = .ok (.iload 4, 2) := by decide +kernel
theorem dX4_shape_198 : decode cX4_shape 198 = .ok (.iconst 3, 1) := by decide +kernel
theorem dX4_shape_199 : decode cX4_shape 199 = .ok (.invokevirtual 99, 3) := by decide +kernel
theorem dX4_shape_202 : decode cX4_shape 202 = .ok (.invokevirtual 109, 3) := by decide +kernel
theorem dX4_shape_205 : decode cX4_shape 205 = .ok (.goto 29, 3) := by decide +kernel
theorem dX4_shape_208 : decode cX4_shape 208 = .ok (.iload 5, 2) := by decide +kernel
theorem dX4_shape_210 : decode cX4_shape 210 = .ok (.iconst 4, 1) := by decide +kernel
theorem dX4_shape_211 : decode cX4_shape 211 = .ok (.if_icmp .ne 22, 3) := by decide +kernel
theorem dX4_shape_214 : decode cX4_shape 214 = .ok (.aload_n 0, 1) := by decide +kernel
theorem dX4_shape_215 : decode cX4_shape 215 = .ok (.iload_n 3, 1) := by decide +kernel
theorem dX4_shape_216 : decode cX4_shape 216 = .ok (.iload 4, 2) := by decide +kernel
theorem dX4_shape_218 : decode cX4_shape 218 = .ok (.invokevirtual 113, 3) := by decide +kernel
theorem dX4_shape_221 : decode cX4_shape 221 = .ok (.ifCond .eq 7, 3) := by decide +kernel
theorem dX4_shape_224 : decode cX4_shape 224 = .ok (.iconst 5, 1) := by decide +kernel
theorem dX4_shape_225 : decode cX4_shape 225 = .ok (.goto 9, 3) := by decide +kernel
theorem dX4_shape_228 : decode cX4_shape 228 = .ok (.bipush 6, 2) := by decide +kernel
theorem dX4_shape_230 : decode cX4_shape 230 = .ok (.goto 4, 3) := by decide +kernel
theorem dX4_shape_233 : decode cX4_shape 233 = .ok (.iconst 0, 1) := by decide +kernel
theorem dX4_shape_234 : decode cX4_shape 234 = .ok (.istore 6, 2) := by decide +kernel
theorem dX4_shape_236 : decode cX4_shape 236 = .ok (.aload_n 0, 1) := by decide +kernel
theorem dX4_shape_237 : decode cX4_shape 237 = .ok (.getfield 33, 3) := by decide +kernel
theorem dX4_shape_240 : decode cX4_shape 240 = .ok (.bipush 10, 2) := by decide +kernel
theorem dX4_shape_242 : decode cX4_shape 242 = .ok (.iload_n 3, 1) := by decide +kernel
theorem dX4_shape_243 : decode cX4_shape 243 = .ok (.imul, 1) := by decide +kernel
theorem dX4_shape_244 : decode cX4_shape 244 = .ok (.iload 4, 2) := by decide +kernel
theorem dX4_shape_246 : decode cX4_shape 246 = .ok (.iadd, 1) := by decide +kernel
theorem dX4_shape_247 : decode cX4_shape 247 = .ok (.aload_n 0, 1) := by decide +kernel
theorem dX4_shape_248 : decode cX4_shape 248 = .ok (.getfield 27, 3) := by decide +kernel
theorem dX4_shape_251 : decode cX4_shape 251 = .ok (.iload_n 3, 1) := by decide +kernel
theorem dX4_shape_252 : decode cX4_shape 252 = .ok (.baload, 1) := by decide +kernel
theorem dX4_shape_253 : decode cX4_shape 253 = .ok (.ifCond .eq 8, 3) := by decide +kernel
theorem dX4_shape_256 : decode cX4_shape 256 = .ok (.iload 6, 2) := by decide +kernel
theorem dX4_shape_258 : decode cX4_shape 258 = .ok (.goto 4, 3) := by decide +kernel
theorem dX4_shape_261 : decode cX4_shape 261 = .ok (.iconst 0, 1) := by decide +kernel
theorem dX4_shape_262 : decode cX4_shape 262 = .ok (.iastore, 1) := by decide +kernel
theorem dX4_shape_263 : decode cX4_shape 263 = .ok (.iinc 4 1, 3) := by decide +kernel
theorem dX4_shape_266 : decode cX4_shape 266 = .ok (.goto (-101), 3) := by decide +kernel
theorem dX4_shape_269 : decode cX4_shape 269 = .ok (.iinc 3 1, 3) := by decide +kernel
theorem dX4_shape_272 : decode cX4_shape 272 = .ok (.goto (-133), 3) := by decide +kernel
theorem dX4_shape_275 : decode cX4_shape 275 = .ok (.iload_n 2, 1) := by decide +kernel
theorem dX4_shape_276 : decode cX4_shape 276 = .ok (.ireturn, 1) := by decide +kernel
theorem dX4_reach_0 : decode cX4_reach 0 = .ok (.aload_n 0, 1) := by decide +kernel
theorem dX4_reach_1 : decode cX4_reach 1 = .ok (.iconst 0, 1) := by decide +kernel
theorem dX4_reach_2 : decode cX4_reach 2 = .ok (.putfield 69, 3) := by decide +kernel
theorem dX4_reach_5 : decode cX4_reach 5 = .ok (.iconst 0, 1) := by decide +kernel
theorem dX4_reach_6 : decode cX4_reach 6 = .ok (.istore_n 1, 1) := by decide +kernel
theorem dX4_reach_7 : decode cX4_reach 7 = .ok (.iconst 0, 1) := by decide +kernel
theorem dX4_reach_8 : decode cX4_reach 8 = .ok (.istore_n 2, 1) := by decide +kernel
theorem dX4_reach_9 : decode cX4_reach 9 = .ok (.iload_n 2, 1) := by decide +kernel
theorem dX4_reach_10 : decode cX4_reach 10 = .ok (.bipush 6, 2) := by decide +kernel
theorem dX4_reach_12 : decode cX4_reach 12 = .ok (.if_icmp .ge 28, 3) := by decide +kernel
theorem dX4_reach_15 : decode cX4_reach 15 = .ok (.iload_n 1, 1) := by decide +kernel
theorem dX4_reach_16 : decode cX4_reach 16 = .ok (.aload_n 0, 1) := by decide +kernel
theorem dX4_reach_17 : decode cX4_reach 17 = .ok (.getfield 23, 3) := by decide +kernel
theorem dX4_reach_20 : decode cX4_reach 20 = .ok (.iload_n 2, 1) := by decide +kernel
theorem dX4_reach_21 : decode cX4_reach 21 = .ok (.baload, 1) := by decide +kernel
theorem dX4_reach_22 : decode cX4_reach 22 = .ok (.ifCond .eq 9, 3) := by decide +kernel
theorem dX4_reach_25 : decode cX4_reach 25 = .ok (.iconst 1, 1) := by decide +kernel
theorem dX4_reach_26 : decode cX4_reach 26 = .ok (.iload_n 2, 1) := by decide +kernel
theorem dX4_reach_27 : decode cX4_reach 27 = .ok (.ishl, 1) := by decide +kernel
theorem dX4_reach_28 : decode cX4_reach 28 = .ok (.goto 4, 3) := by decide +kernel
theorem dX4_reach_31 : decode cX4_reach 31 = .ok (.iconst 0, 1) := by decide +kernel
theorem dX4_reach_32 : decode cX4_reach 32 = .ok (.ior, 1) := by decide +kernel
theorem dX4_reach_33 : decode cX4_reach 33 = .ok (.istore_n 1, 1) := by decide +kernel
theorem dX4_reach_34 : decode cX4_reach 34 = .ok (.iinc 2 1, 3) := by decide +kernel
theorem dX4_reach_37 : decode cX4_reach 37 = .ok (.goto (-28), 3) := by decide +kernel
theorem dX4_reach_40 : decode cX4_reach 40 = .ok (.iconst 0, 1) := by decide +kernel
theorem dX4_reach_41 : decode cX4_reach 41 = .ok (.istore_n 2, 1) := by decide +kernel
theorem dX4_reach_42 : decode cX4_reach 42 = .ok (.iload_n 2, 1) := by decide +kernel
theorem dX4_reach_43 : decode cX4_reach 43 = .ok (.bipush 24, 2) := by decide +kernel
theorem dX4_reach_45 : decode cX4_reach 45 = .ok (.if_icmp .ge 31, 3) := by decide +kernel
theorem dX4_reach_48 : decode cX4_reach 48 = .ok (.iload_n 1, 1) := by decide +kernel
theorem dX4_reach_49 : decode cX4_reach 49 = .ok (.aload_n 0, 1) := by decide +kernel
theorem dX4_reach_50 : decode cX4_reach 50 = .ok (.getfield 27, 3) := by decide +kernel
theorem dX4_reach_53 : decode cX4_reach 53 = .ok (.iload_n 2, 1) := by decide +kernel
theorem dX4_reach_54 : decode cX4_reach 54 = .ok (.baload, 1) := by decide +kernel
theorem dX4_reach_55 : decode cX4_reach 55 = .ok (.ifCond .eq 12, 3) := by decide +kernel
theorem dX4_reach_58 : decode cX4_reach 58 = .ok (.iconst 1, 1) := by decide +kernel
theorem dX4_reach_59 : decode cX4_reach 59 = .ok (.bipush 8, 2) := by decide +kernel
theorem dX4_reach_61 : decode cX4_reach 61 = .ok (.iload_n 2, 1) := by decide +kernel
theorem dX4_reach_62 : decode cX4_reach 62 = .ok (.iadd, 1) := by decide +kernel
theorem dX4_reach_63 : decode cX4_reach 63 = .ok (.ishl, 1) := by decide +kernel
theorem dX4_reach_64 : decode cX4_reach 64 = .ok (.goto 4, 3) := by decide +kernel
theorem dX4_reach_67 : decode cX4_reach 67 = .ok (.iconst 0, 1) := by decide +kernel
theorem dX4_reach_68 : decode cX4_reach 68 = .ok (.ior, 1) := by decide +kernel
theorem dX4_reach_69 : decode cX4_reach 69 = .ok (.istore_n 1, 1) := by decide +kernel
theorem dX4_reach_70 : decode cX4_reach 70 = .ok (.iinc 2 1, 3) := by decide +kernel
theorem dX4_reach_73 : decode cX4_reach 73 = .ok (.goto (-31), 3) := by decide +kernel
theorem dX4_reach_76 : decode cX4_reach 76 = .ok (.iload_n 1, 1) := by decide +kernel
theorem dX4_reach_77 : decode cX4_reach 77 = .ok (.ireturn, 1) := by decide +kernel
theorem dX4_siteOf_0 : decode cX4_siteOf 0 = .ok (.aload_n 0, 1) := by decide +kernel
theorem dX4_siteOf_1 : decode cX4_siteOf 1 = .ok (.getfield 27, 3) := by decide +kernel
theorem dX4_siteOf_4 : decode cX4_siteOf 4 = .ok (.iload_n 1, 1) := by decide +kernel
theorem dX4_siteOf_5 : decode cX4_siteOf 5 = .ok (.baload, 1) := by decide +kernel
theorem dX4_siteOf_6 : decode cX4_siteOf 6 = .ok (.ifCond .eq 26, 3) := by decide +kernel
theorem dX4_siteOf_9 : decode cX4_siteOf 9 = .ok (.aload_n 0, 1) := by decide +kernel
theorem dX4_siteOf_10 : decode cX4_siteOf 10 = .ok (.getfield 30, 3) := by decide +kernel
theorem dX4_siteOf_13 : decode cX4_siteOf 13 = .ok (.iload_n 1, 1) := by decide +kernel
theorem dX4_siteOf_14 : decode cX4_siteOf 14 = .ok (.baload, 1) := by decide +kernel
theorem dX4_siteOf_15 : decode cX4_siteOf 15 = .ok (.ifCond .ne 17, 3) := by decide +kernel
theorem dX4_siteOf_18 : decode cX4_siteOf 18 = .ok (.aload_n 0, 1) := by decide +kernel
theorem dX4_siteOf_19 : decode cX4_siteOf 19 = .ok (.getfield 33, 3) := by decide +kernel
theorem dX4_siteOf_22 : decode cX4_siteOf 22 = .ok (.bipush 10, 2) := by decide +kernel
theorem dX4_siteOf_24 : decode cX4_siteOf 24 = .ok (.iload_n 1, 1) := by decide +kernel
theorem dX4_siteOf_25 : decode cX4_siteOf 25 = .ok (.imul, 1) := by decide +kernel
theorem dX4_siteOf_26 : decode cX4_siteOf 26 = .ok (.iload_n 2, 1) := by decide +kernel
theorem dX4_siteOf_27 : decode cX4_siteOf 27 = .ok (.iadd, 1) := by decide +kernel
theorem dX4_siteOf_28 : decode cX4_siteOf 28 = .ok (.iaload, 1) := by decide +kernel
theorem dX4_siteOf_29 : decode cX4_siteOf 29 = .ok (.goto 4, 3) := by decide +kernel
theorem dX4_siteOf_32 : decode cX4_siteOf 32 = .ok (.iconst 0, 1) := by decide +kernel
theorem dX4_siteOf_33 : decode cX4_siteOf 33 = .ok (.ireturn, 1) := by decide +kernel
theorem dX4_site_0 : decode cX4_site 0 = .ok (.aload_n 0, 1) := by decide +kernel
theorem dX4_site_1 : decode cX4_site 1 = .ok (.iload_n 1, 1) := by decide +kernel
theorem dX4_site_2 : decode cX4_site 2 = .ok (.iload_n 2, 1) := by decide +kernel
theorem dX4_site_3 : decode cX4_site 3 = .ok (.invokevirtual 87, 3) := by decide +kernel
theorem dX4_site_6 : decode cX4_site 6 = .ok (.ifCond .eq 25, 3) := by decide +kernel
theorem dX4_site_9 : decode cX4_site 9 = .ok (.iload_n 3, 1) := by decide +kernel
theorem dX4_site_10 : decode cX4_site 10 = .ok (.ifCond .lt 21, 3) := by decide +kernel
theorem dX4_site_13 : decode cX4_site 13 = .ok (.iload_n 3, 1) := by decide +kernel
theorem dX4_site_14 : decode cX4_site 14 = .ok (.aload_n 0, 1) := by decide +kernel
theorem dX4_site_15 : decode cX4_site 15 = .ok (.getfield 17, 3) := by decide +kernel
theorem dX4_site_18 : decode cX4_site 18 = .ok (.iconst 4, 1) := by decide +kernel
theorem dX4_site_19 : decode cX4_site 19 = .ok (.iload_n 1, 1) := by decide +kernel
theorem dX4_site_20 : decode cX4_site 20 = .ok (.imul, 1) := by decide +kernel
theorem dX4_site_21 : decode cX4_site 21 = .ok (.iload_n 2, 1) := by decide +kernel
theorem dX4_site_22 : decode cX4_site 22 = .ok (.iadd, 1) := by decide +kernel
theorem dX4_site_23 : decode cX4_site 23 = .ok (.iaload, 1) := by decide +kernel
theorem dX4_site_24 : decode cX4_site 24 = .ok (.if_icmp .ge 7, 3) := by decide +kernel
theorem dX4_site_27 : decode cX4_site 27 = .ok (.iconst 1, 1) := by decide +kernel
theorem dX4_site_28 : decode cX4_site 28 = .ok (.goto 4, 3) := by decide +kernel
theorem dX4_site_31 : decode cX4_site 31 = .ok (.iconst 0, 1) := by decide +kernel
theorem dX4_site_32 : decode cX4_site 32 = .ok (.istore 4, 2) := by decide +kernel
theorem dX4_site_34 : decode cX4_site 34 = .ok (.aload_n 0, 1) := by decide +kernel
theorem dX4_site_35 : decode cX4_site 35 = .ok (.iload 4, 2) := by decide +kernel
theorem dX4_site_37 : decode cX4_site 37 = .ok (.ifCond .ne 7, 3) := by decide +kernel
theorem dX4_site_40 : decode cX4_site 40 = .ok (.iconst 1, 1) := by decide +kernel
theorem dX4_site_41 : decode cX4_site 41 = .ok (.goto 4, 3) := by decide +kernel
theorem dX4_site_44 : decode cX4_site 44 = .ok (.iconst 0, 1) := by decide +kernel
theorem dX4_site_45 : decode cX4_site 45 = .ok (.iconst 0, 1) := by decide +kernel
theorem dX4_site_46 : decode cX4_site 46 = .ok (.invokevirtual 76, 3) := by decide +kernel
theorem dX4_site_49 : decode cX4_site 49 = .ok (.ifCond .eq 7, 3) := by decide +kernel
theorem dX4_site_52 : decode cX4_site 52 = .ok (.iconst 0, 1) := by decide +kernel
theorem dX4_site_53 : decode cX4_site 53 = .ok (.goto 13, 3) := by decide +kernel
theorem dX4_site_56 : decode cX4_site 56 = .ok (.aload_n 0, 1) := by decide +kernel
theorem dX4_site_57 : decode cX4_site 57 = .ok (.iconst 4, 1) := by decide +kernel
theorem dX4_site_58 : decode cX4_site 58 = .ok (.iload_n 1, 1) := by decide +kernel
theorem dX4_site_59 : decode cX4_site 59 = .ok (.imul, 1) := by decide +kernel
theorem dX4_site_60 : decode cX4_site 60 = .ok (.iload_n 2, 1) := by decide +kernel
theorem dX4_site_61 : decode cX4_site 61 = .ok (.iadd, 1) := by decide +kernel
theorem dX4_site_62 : decode cX4_site 62 = .ok (.iload_n 3, 1) := by decide +kernel
theorem dX4_site_63 : decode cX4_site 63 = .ok (.invokevirtual 116, 3) := by decide +kernel
theorem dX4_site_66 : decode cX4_site 66 = .ok (.ireturn, 1) := by decide +kernel
theorem dX4_makes_0 : decode cX4_makes 0 = .ok (.iload_n 2, 1) := by decide +kernel
theorem dX4_makes_1 : decode cX4_makes 1 = .ok (.ifCond .ne 18, 3) := by decide +kernel
theorem dX4_makes_4 : decode cX4_makes 4 = .ok (.aload_n 0, 1) := by decide +kernel
theorem dX4_makes_5 : decode cX4_makes 5 = .ok (.getfield 66, 3) := by decide +kernel
theorem dX4_makes_8 : decode cX4_makes 8 = .ok (.iconst 1, 1) := by decide +kernel
theorem dX4_makes_9 : decode cX4_makes 9 = .ok (.iaload, 1) := by decide +kernel
theorem dX4_makes_10 : decode cX4_makes 10 = .ok (.aload_n 0, 1) := by decide +kernel
theorem dX4_makes_11 : decode cX4_makes 11 = .ok (.getfield 119, 3) := by decide +kernel
theorem dX4_makes_14 : decode cX4_makes 14 = .ok (.if_icmp .ne 5, 3) := by decide +kernel
theorem dX4_makes_17 : decode cX4_makes 17 = .ok (.iconst (-1), 1) := by decide +kernel
theorem dX4_makes_18 : decode cX4_makes 18 = .ok (.ireturn, 1) := by decide +kernel
theorem dX4_makes_19 : decode cX4_makes 19 = .ok (.aload_n 0, 1) := by decide +kernel
theorem dX4_makes_20 : decode cX4_makes 20 = .ok (.getfield 66, 3) := by decide +kernel
theorem dX4_makes_23 : decode cX4_makes 23 = .ok (.iconst 1, 1) := by decide +kernel
theorem dX4_makes_24 : decode cX4_makes 24 = .ok (.dup2, 1) := by decide +kernel
theorem dX4_makes_25 : decode cX4_makes 25 = .ok (.iaload, 1) := by decide +kernel
theorem dX4_makes_26 : decode cX4_makes 26 = .ok (.iload_n 2, 1) := by decide +kernel
theorem dX4_makes_27 : decode cX4_makes 27 = .ok (.ifCond .eq 7, 3) := by decide +kernel
theorem dX4_makes_30 : decode cX4_makes 30 = .ok (.iconst 0, 1) := by decide +kernel
theorem dX4_makes_31 : decode cX4_makes 31 = .ok (.goto 4, 3) := by decide +kernel
theorem dX4_makes_34 : decode cX4_makes 34 = .ok (.iconst 1, 1) := by decide +kernel
theorem dX4_makes_35 : decode cX4_makes 35 = .ok (.iadd, 1) := by decide +kernel
theorem dX4_makes_36 : decode cX4_makes 36 = .ok (.iastore, 1) := by decide +kernel
theorem dX4_makes_37 : decode cX4_makes 37 = .ok (.aload_n 0, 1) := by decide +kernel
theorem dX4_makes_38 : decode cX4_makes 38 = .ok (.getfield 39, 3) := by decide +kernel
theorem dX4_makes_41 : decode cX4_makes 41 = .ok (.aload_n 0, 1) := by decide +kernel
theorem dX4_makes_42 : decode cX4_makes 42 = .ok (.getfield 122, 3) := by decide +kernel
theorem dX4_makes_45 : decode cX4_makes 45 = .ok (.iload_n 1, 1) := by decide +kernel
theorem dX4_makes_46 : decode cX4_makes 46 = .ok (.iastore, 1) := by decide +kernel
theorem dX4_makes_47 : decode cX4_makes 47 = .ok (.iconst 0, 1) := by decide +kernel
theorem dX4_makes_48 : decode cX4_makes 48 = .ok (.istore_n 3, 1) := by decide +kernel
theorem dX4_makes_49 : decode cX4_makes 49 = .ok (.iload_n 3, 1) := by decide +kernel
theorem dX4_makes_50 : decode cX4_makes 50 = .ok (.iconst 3, 1) := by decide +kernel
theorem dX4_makes_51 : decode cX4_makes 51 = .ok (.if_icmp .ge 37, 3) := by decide +kernel
theorem dX4_makes_54 : decode cX4_makes 54 = .ok (.aload_n 0, 1) := by decide +kernel
theorem dX4_makes_55 : decode cX4_makes 55 = .ok (.getfield 42, 3) := by decide +kernel
theorem dX4_makes_58 : decode cX4_makes 58 = .ok (.iconst 3, 1) := by decide +kernel
theorem dX4_makes_59 : decode cX4_makes 59 = .ok (.aload_n 0, 1) := by decide +kernel
theorem dX4_makes_60 : decode cX4_makes 60 = .ok (.getfield 122, 3) := by decide +kernel
theorem dX4_makes_63 : decode cX4_makes 63 = .ok (.imul, 1) := by decide +kernel
theorem dX4_makes_64 : decode cX4_makes 64 = .ok (.iload_n 3, 1) := by decide +kernel
theorem dX4_makes_65 : decode cX4_makes 65 = .ok (.iadd, 1) := by decide +kernel
theorem dX4_makes_66 : decode cX4_makes 66 = .ok (.iconst 0, 1) := by decide +kernel
theorem dX4_makes_67 : decode cX4_makes 67 = .ok (.bastore, 1) := by decide +kernel
theorem dX4_makes_68 : decode cX4_makes 68 = .ok (.aload_n 0, 1) := by decide +kernel
theorem dX4_makes_69 : decode cX4_makes 69 = .ok (.getfield 45, 3) := by decide +kernel
theorem dX4_makes_72 : decode cX4_makes 72 = .ok (.iconst 3, 1) := by decide +kernel
theorem dX4_makes_73 : decode cX4_makes 73 = .ok (.aload_n 0, 1) := by decide +kernel
theorem dX4_makes_74 : decode cX4_makes 74 = .ok (.getfield 122, 3) := by decide +kernel
theorem dX4_makes_77 : decode cX4_makes 77 = .ok (.imul, 1) := by decide +kernel
theorem dX4_makes_78 : decode cX4_makes 78 = .ok (.iload_n 3, 1) := by decide +kernel
theorem dX4_makes_79 : decode cX4_makes 79 = .ok (.iadd, 1) := by decide +kernel
theorem dX4_makes_80 : decode cX4_makes 80 = .ok (.iconst 0, 1) := by decide +kernel
theorem dX4_makes_81 : decode cX4_makes 81 = .ok (.iastore, 1) := by decide +kernel
theorem dX4_makes_82 : decode cX4_makes 82 = .ok (.iinc 3 1, 3) := by decide +kernel
theorem dX4_makes_85 : decode cX4_makes 85 = .ok (.goto (-36), 3) := by decide +kernel
theorem dX4_makes_88 : decode cX4_makes 88 = .ok (.aload_n 0, 1) := by decide +kernel
theorem dX4_makes_89 : decode cX4_makes 89 = .ok (.dup, 1) := by decide +kernel
theorem dX4_makes_90 : decode cX4_makes 90 = .ok (.getfield 122, 3) := by decide +kernel
theorem dX4_makes_93 : decode cX4_makes 93 = .ok (.iconst 1, 1) := by decide +kernel
theorem dX4_makes_94 : decode cX4_makes 94 = .ok (.iadd, 1) := by decide +kernel
theorem dX4_makes_95 : decode cX4_makes 95 = .ok (.putfield 122, 3) := by decide +kernel
theorem dX4_makes_98 : decode cX4_makes 98 = .ok (.aload_n 0, 1) := by decide +kernel
theorem dX4_makes_99 : decode cX4_makes 99 = .ok (.getfield 122, 3) := by decide +kernel
theorem dX4_makes_102 : decode cX4_makes 102 = .ok (.iconst 1, 1) := by decide +kernel
theorem dX4_makes_103 : decode cX4_makes 103 = .ok (.isub, 1) := by decide +kernel
theorem dX4_makes_104 : decode cX4_makes 104 = .ok (.ireturn, 1) := by decide +kernel
theorem dX4_enters_0 : decode cX4_enters 0 = .ok (.bipush 6, 2) := by decide +kernel
theorem dX4_enters_2 : decode cX4_enters 2 = .ok (.aload_n 0, 1) := by decide +kernel
theorem dX4_enters_3 : decode cX4_enters 3 = .ok (.getfield 125, 3) := by decide +kernel
theorem dX4_enters_6 : decode cX4_enters 6 = .ok (.imul, 1) := by decide +kernel
theorem dX4_enters_7 : decode cX4_enters 7 = .ok (.istore 6, 2) := by decide +kernel
theorem dX4_enters_9 : decode cX4_enters 9 = .ok (.iconst 0, 1) := by decide +kernel
theorem dX4_enters_10 : decode cX4_enters 10 = .ok (.istore 7, 2) := by decide +kernel
theorem dX4_enters_12 : decode cX4_enters 12 = .ok (.iload 7, 2) := by decide +kernel
theorem dX4_enters_14 : decode cX4_enters 14 = .ok (.bipush 6, 2) := by decide +kernel
theorem dX4_enters_16 : decode cX4_enters 16 = .ok (.if_icmp .ge 70, 3) := by decide +kernel
theorem dX4_enters_19 : decode cX4_enters 19 = .ok (.aload_n 0, 1) := by decide +kernel
theorem dX4_enters_20 : decode cX4_enters 20 = .ok (.getfield 57, 3) := by decide +kernel
theorem dX4_enters_23 : decode cX4_enters 23 = .ok (.iload 6, 2) := by decide +kernel
theorem dX4_enters_25 : decode cX4_enters 25 = .ok (.iload 7, 2) := by decide +kernel
theorem dX4_enters_27 : decode cX4_enters 27 = .ok (.iadd, 1) := by decide +kernel
theorem dX4_enters_28 : decode cX4_enters 28 = .ok (.iload 7, 2) := by decide +kernel
theorem dX4_enters_30 : decode cX4_enters 30 = .ok (.ifCond .eq 13, 3) := by decide +kernel
theorem dX4_enters_33 : decode cX4_enters 33 = .ok (.iload 7, 2) := by decide +kernel
theorem dX4_enters_35 : decode cX4_enters 35 = .ok (.iconst 1, 1) := by decide +kernel
theorem dX4_enters_36 : decode cX4_enters 36 = .ok (.if_icmp .ne 11, 3) := by decide +kernel
theorem dX4_enters_39 : decode cX4_enters 39 = .ok (.iload_n 3, 1) := by decide +kernel
theorem dX4_enters_40 : decode cX4_enters 40 = .ok (.ifCond .eq 7, 3) := by decide +kernel
theorem dX4_enters_43 : decode cX4_enters 43 = .ok (.iconst 1, 1) := by decide +kernel
theorem dX4_enters_44 : decode cX4_enters 44 = .ok (.goto 4, 3) := by decide +kernel
theorem dX4_enters_47 : decode cX4_enters 47 = .ok (.iconst 0, 1) := by decide +kernel
theorem dX4_enters_48 : decode cX4_enters 48 = .ok (.bastore, 1) := by decide +kernel
theorem dX4_enters_49 : decode cX4_enters 49 = .ok (.aload_n 0, 1) := by decide +kernel
theorem dX4_enters_50 : decode cX4_enters 50 = .ok (.getfield 60, 3) := by decide +kernel
theorem dX4_enters_53 : decode cX4_enters 53 = .ok (.iload 6, 2) := by decide +kernel
theorem dX4_enters_55 : decode cX4_enters 55 = .ok (.iload 7, 2) := by decide +kernel
theorem dX4_enters_57 : decode cX4_enters 57 = .ok (.iadd, 1) := by decide +kernel
theorem dX4_enters_58 : decode cX4_enters 58 = .ok (.iload 7, 2) := by decide +kernel
theorem dX4_enters_60 : decode cX4_enters 60 = .ok (.ifCond .ne 7, 3) := by decide +kernel
theorem dX4_enters_63 : decode cX4_enters 63 = .ok (.iload_n 2, 1) := by decide +kernel
theorem dX4_enters_64 : decode cX4_enters 64 = .ok (.goto 15, 3) := by decide +kernel
theorem dX4_enters_67 : decode cX4_enters 67 = .ok (.iload 7, 2) := by decide +kernel
theorem dX4_enters_69 : decode cX4_enters 69 = .ok (.iconst 1, 1) := by decide +kernel
theorem dX4_enters_70 : decode cX4_enters 70 = .ok (.if_icmp .ne 8, 3) := by decide +kernel
theorem dX4_enters_73 : decode cX4_enters 73 = .ok (.iload 4, 2) := by decide +kernel
theorem dX4_enters_75 : decode cX4_enters 75 = .ok (.goto 4, 3) := by decide +kernel
theorem dX4_enters_78 : decode cX4_enters 78 = .ok (.iconst 0, 1) := by decide +kernel
theorem dX4_enters_79 : decode cX4_enters 79 = .ok (.iastore, 1) := by decide +kernel
theorem dX4_enters_80 : decode cX4_enters 80 = .ok (.iinc 7 1, 3) := by decide +kernel
theorem dX4_enters_83 : decode cX4_enters 83 = .ok (.goto (-71), 3) := by decide +kernel
theorem dX4_enters_86 : decode cX4_enters 86 = .ok (.aload_n 0, 1) := by decide +kernel
theorem dX4_enters_87 : decode cX4_enters 87 = .ok (.getfield 48, 3) := by decide +kernel
theorem dX4_enters_90 : decode cX4_enters 90 = .ok (.aload_n 0, 1) := by decide +kernel
theorem dX4_enters_91 : decode cX4_enters 91 = .ok (.getfield 125, 3) := by decide +kernel
theorem dX4_enters_94 : decode cX4_enters 94 = .ok (.iload_n 1, 1) := by decide +kernel
theorem dX4_enters_95 : decode cX4_enters 95 = .ok (.iastore, 1) := by decide +kernel
theorem dX4_enters_96 : decode cX4_enters 96 = .ok (.aload_n 0, 1) := by decide +kernel
theorem dX4_enters_97 : decode cX4_enters 97 = .ok (.getfield 51, 3) := by decide +kernel
theorem dX4_enters_100 : decode cX4_enters 100 = .ok (.aload_n 0, 1) := by decide +kernel
theorem dX4_enters_101 : decode cX4_enters 101 = .ok (.getfield 125, 3) := by decide +kernel
theorem dX4_enters_104 : decode cX4_enters 104 = .ok (.iconst 0, 1) := by decide +kernel
theorem dX4_enters_105 : decode cX4_enters 105 = .ok (.iastore, 1) := by decide +kernel
theorem dX4_enters_106 : decode cX4_enters 106 = .ok (.aload_n 0, 1) := by decide +kernel
theorem dX4_enters_107 : decode cX4_enters 107 = .ok (.getfield 54, 3) := by decide +kernel
theorem dX4_enters_110 : decode cX4_enters 110 = .ok (.aload_n 0, 1) := by decide +kernel
theorem dX4_enters_111 : decode cX4_enters 111 = .ok (.getfield 125, 3) := by decide +kernel
theorem dX4_enters_114 : decode cX4_enters 114 = .ok (.iload 5, 2) := by decide +kernel
theorem dX4_enters_116 : decode cX4_enters 116 = .ok (.iastore, 1) := by decide +kernel
theorem dX4_enters_117 : decode cX4_enters 117 = .ok (.aload_n 0, 1) := by decide +kernel
theorem dX4_enters_118 : decode cX4_enters 118 = .ok (.dup, 1) := by decide +kernel
theorem dX4_enters_119 : decode cX4_enters 119 = .ok (.getfield 125, 3) := by decide +kernel
theorem dX4_enters_122 : decode cX4_enters 122 = .ok (.iconst 1, 1) := by decide +kernel
