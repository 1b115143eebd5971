theorem dL_sign_30 : decode cL_sign 30 = .ok (.invokestatic 45, 3) := by decide +kernel
theorem dL_sign_33 : decode cL_sign 33 = .ok (.istore 5, 2) := by decide +kernel
theorem dL_sign_35 : decode cL_sign 35 = .ok (.iload_n 1, 1) := by decide +kernel
theorem dL_sign_36 : decode cL_sign 36 = .ok (.aload_n 0, 1) := by decide +kernel
theorem dL_sign_37 : decode cL_sign 37 = .ok (.iload 6, 2) := by decide +kernel
theorem dL_sign_39 : decode cL_sign 39 = .ok (.iconst 4, 1) := by decide +kernel
theorem dL_sign_40 : decode cL_sign 40 = .ok (.invokevirtual 27, 3) := by decide +kernel
theorem dL_sign_43 : decode cL_sign 43 = .ok (.iadd, 1) := by decide +kernel
theorem dL_sign_44 : decode cL_sign 44 = .ok (.istore_n 1, 1) := by decide +kernel
theorem dL_sign_45 : decode cL_sign 45 = .ok (.iload_n 2, 1) := by decide +kernel
theorem dL_sign_46 : decode cL_sign 46 = .ok (.aload_n 0, 1) := by decide +kernel
theorem dL_sign_47 : decode cL_sign 47 = .ok (.iload 6, 2) := by decide +kernel
theorem dL_sign_49 : decode cL_sign 49 = .ok (.iconst 1, 1) := by decide +kernel
theorem dL_sign_50 : decode cL_sign 50 = .ok (.invokevirtual 27, 3) := by decide +kernel
theorem dL_sign_53 : decode cL_sign 53 = .ok (.iadd, 1) := by decide +kernel
theorem dL_sign_54 : decode cL_sign 54 = .ok (.istore_n 2, 1) := by decide +kernel
theorem dL_sign_55 : decode cL_sign 55 = .ok (.iload_n 3, 1) := by decide +kernel
theorem dL_sign_56 : decode cL_sign 56 = .ok (.aload_n 0, 1) := by decide +kernel
theorem dL_sign_57 : decode cL_sign 57 = .ok (.iload 6, 2) := by decide +kernel
theorem dL_sign_59 : decode cL_sign 59 = .ok (.iconst 2, 1) := by decide +kernel
theorem dL_sign_60 : decode cL_sign 60 = .ok (.invokevirtual 27, 3) := by decide +kernel
theorem dL_sign_63 : decode cL_sign 63 = .ok (.invokestatic 34, 3) := by decide +kernel
theorem dL_sign_66 : decode cL_sign 66 = .ok (.iadd, 1) := by decide +kernel
theorem dL_sign_67 : decode cL_sign 67 = .ok (.istore_n 3, 1) := by decide +kernel
theorem dL_sign_68 : decode cL_sign 68 = .ok (.iload 4, 2) := by decide +kernel
theorem dL_sign_70 : decode cL_sign 70 = .ok (.aload_n 0, 1) := by decide +kernel
theorem dL_sign_71 : decode cL_sign 71 = .ok (.iload 6, 2) := by decide +kernel
theorem dL_sign_73 : decode cL_sign 73 = .ok (.bipush 9, 2) := by decide +kernel
theorem dL_sign_75 : decode cL_sign 75 = .ok (.invokevirtual 27, 3) := by decide +kernel
theorem dL_sign_78 : decode cL_sign 78 = .ok (.iadd, 1) := by decide +kernel
theorem dL_sign_79 : decode cL_sign 79 = .ok (.istore 4, 2) := by decide +kernel
theorem dL_sign_81 : decode cL_sign 81 = .ok (.iinc 6 1, 3) := by decide +kernel
theorem dL_sign_84 : decode cL_sign 84 = .ok (.goto (-69), 3) := by decide +kernel
theorem dL_sign_87 : decode cL_sign 87 = .ok (.iload 5, 2) := by decide +kernel
theorem dL_sign_89 : decode cL_sign 89 = .ok (.ifCond .eq 71, 3) := by decide +kernel
theorem dL_sign_92 : decode cL_sign 92 = .ok (.iload_n 1, 1) := by decide +kernel
theorem dL_sign_93 : decode cL_sign 93 = .ok (.ifCond .ne 67, 3) := by decide +kernel
theorem dL_sign_96 : decode cL_sign 96 = .ok (.iload_n 2, 1) := by decide +kernel
theorem dL_sign_97 : decode cL_sign 97 = .ok (.aload_n 0, 1) := by decide +kernel
theorem dL_sign_98 : decode cL_sign 98 = .ok (.iconst 1, 1) := by decide +kernel
theorem dL_sign_99 : decode cL_sign 99 = .ok (.invokevirtual 30, 3) := by decide +kernel
theorem dL_sign_102 : decode cL_sign 102 = .ok (.if_icmp .ne 58, 3) := by decide +kernel
theorem dL_sign_105 : decode cL_sign 105 = .ok (.iload_n 3, 1) := by decide +kernel
theorem dL_sign_106 : decode cL_sign 106 = .ok (.aload_n 0, 1) := by decide +kernel
theorem dL_sign_107 : decode cL_sign 107 = .ok (.bipush 7, 2) := by decide +kernel
theorem dL_sign_109 : decode cL_sign 109 = .ok (.invokevirtual 30, 3) := by decide +kernel
theorem dL_sign_112 : decode cL_sign 112 = .ok (.if_icmp .ne 48, 3) := by decide +kernel
theorem dL_sign_115 : decode cL_sign 115 = .ok (.iload 4, 2) := by decide +kernel
theorem dL_sign_117 : decode cL_sign 117 = .ok (.aload_n 0, 1) := by decide +kernel
theorem dL_sign_118 : decode cL_sign 118 = .ok (.bipush 6, 2) := by decide +kernel
theorem dL_sign_120 : decode cL_sign 120 = .ok (.invokevirtual 30, 3) := by decide +kernel
theorem dL_sign_123 : decode cL_sign 123 = .ok (.if_icmp .ne 37, 3) := by decide +kernel
theorem dL_sign_126 : decode cL_sign 126 = .ok (.aload_n 0, 1) := by decide +kernel
theorem dL_sign_127 : decode cL_sign 127 = .ok (.bipush 6, 2) := by decide +kernel
theorem dL_sign_129 : decode cL_sign 129 = .ok (.invokevirtual 30, 3) := by decide +kernel
theorem dL_sign_132 : decode cL_sign 132 = .ok (.aload_n 0, 1) := by decide +kernel
theorem dL_sign_133 : decode cL_sign 133 = .ok (.iconst 5, 1) := by decide +kernel
theorem dL_sign_134 : decode cL_sign 134 = .ok (.invokevirtual 30, 3) := by decide +kernel
theorem dL_sign_137 : decode cL_sign 137 = .ok (.if_icmp .gt 23, 3) := by decide +kernel
theorem dL_sign_140 : decode cL_sign 140 = .ok (.aload_n 0, 1) := by decide +kernel
theorem dL_sign_141 : decode cL_sign 141 = .ok (.iconst 4, 1) := by decide +kernel
theorem dL_sign_142 : decode cL_sign 142 = .ok (.invokevirtual 30, 3) := by decide +kernel
theorem dL_sign_145 : decode cL_sign 145 = .ok (.aload_n 0, 1) := by decide +kernel
theorem dL_sign_146 : decode cL_sign 146 = .ok (.iconst 5, 1) := by decide +kernel
theorem dL_sign_147 : decode cL_sign 147 = .ok (.invokevirtual 30, 3) := by decide +kernel
theorem dL_sign_150 : decode cL_sign 150 = .ok (.iadd, 1) := by decide +kernel
theorem dL_sign_151 : decode cL_sign 151 = .ok (.bipush 6, 2) := by decide +kernel
theorem dL_sign_153 : decode cL_sign 153 = .ok (.if_icmp .gt 7, 3) := by decide +kernel
theorem dL_sign_156 : decode cL_sign 156 = .ok (.iconst 1, 1) := by decide +kernel
theorem dL_sign_157 : decode cL_sign 157 = .ok (.goto 4, 3) := by decide +kernel
theorem dL_sign_160 : decode cL_sign 160 = .ok (.iconst 0, 1) := by decide +kernel
theorem dL_sign_161 : decode cL_sign 161 = .ok (.istore 5, 2) := by decide +kernel
theorem dL_sign_163 : decode cL_sign 163 = .ok (.iload 5, 2) := by decide +kernel
theorem dL_sign_165 : decode cL_sign 165 = .ok (.ifCond .eq 66, 3) := by decide +kernel
theorem dL_sign_168 : decode cL_sign 168 = .ok (.iload_n 2, 1) := by decide +kernel
theorem dL_sign_169 : decode cL_sign 169 = .ok (.ifCond .gt 24, 3) := by decide +kernel
theorem dL_sign_172 : decode cL_sign 172 = .ok (.aload_n 0, 1) := by decide +kernel
theorem dL_sign_173 : decode cL_sign 173 = .ok (.iconst 2, 1) := by decide +kernel
theorem dL_sign_174 : decode cL_sign 174 = .ok (.invokevirtual 30, 3) := by decide +kernel
theorem dL_sign_177 : decode cL_sign 177 = .ok (.aload_n 0, 1) := by decide +kernel
theorem dL_sign_178 : decode cL_sign 178 = .ok (.iconst 0, 1) := by decide +kernel
theorem dL_sign_179 : decode cL_sign 179 = .ok (.invokevirtual 42, 3) := by decide +kernel
theorem dL_sign_182 : decode cL_sign 182 = .ok (.if_icmp .ne 49, 3) := by decide +kernel
theorem dL_sign_185 : decode cL_sign 185 = .ok (.aload_n 0, 1) := by decide +kernel
theorem dL_sign_186 : decode cL_sign 186 = .ok (.iconst 3, 1) := by decide +kernel
theorem dL_sign_187 : decode cL_sign 187 = .ok (.invokevirtual 30, 3) := by decide +kernel
theorem dL_sign_190 : decode cL_sign 190 = .ok (.ifCond .ne 41, 3) := by decide +kernel
theorem dL_sign_193 : decode cL_sign 193 = .ok (.iload_n 2, 1) := by decide +kernel
theorem dL_sign_194 : decode cL_sign 194 = .ok (.ifCond .eq 20, 3) := by decide +kernel
theorem dL_sign_197 : decode cL_sign 197 = .ok (.aload_n 0, 1) := by decide +kernel
theorem dL_sign_198 : decode cL_sign 198 = .ok (.iconst 1, 1) := by decide +kernel
theorem dL_sign_199 : decode cL_sign 199 = .ok (.invokevirtual 42, 3) := by decide +kernel
theorem dL_sign_202 : decode cL_sign 202 = .ok (.iconst 1, 1) := by decide +kernel
theorem dL_sign_203 : decode cL_sign 203 = .ok (.if_icmp .eq 11, 3) := by decide +kernel
theorem dL_sign_206 : decode cL_sign 206 = .ok (.aload_n 0, 1) := by decide +kernel
theorem dL_sign_207 : decode cL_sign 207 = .ok (.iconst 2, 1) := by decide +kernel
theorem dL_sign_208 : decode cL_sign 208 = .ok (.invokevirtual 30, 3) := by decide +kernel
theorem dL_sign_211 : decode cL_sign 211 = .ok (.ifCond .ne 20, 3) := by decide +kernel
theorem dL_sign_214 : decode cL_sign 214 = .ok (.aload_n 0, 1) := by decide +kernel
theorem dL_sign_215 : decode cL_sign 215 = .ok (.iconst 3, 1) := by decide +kernel
theorem dL_sign_216 : decode cL_sign 216 = .ok (.invokevirtual 30, 3) := by decide +kernel
theorem dL_sign_219 : decode cL_sign 219 = .ok (.aload_n 0, 1) := by decide +kernel
theorem dL_sign_220 : decode cL_sign 220 = .ok (.iconst 0, 1) := by decide +kernel
theorem dL_sign_221 : decode cL_sign 221 = .ok (.invokevirtual 42, 3) := by decide +kernel
theorem dL_sign_224 : decode cL_sign 224 = .ok (.if_icmp .ge 7, 3) := by decide +kernel
theorem dL_sign_227 : decode cL_sign 227 = .ok (.iconst 1, 1) := by decide +kernel
theorem dL_sign_228 : decode cL_sign 228 = .ok (.goto 4, 3) := by decide +kernel
theorem dL_sign_231 : decode cL_sign 231 = .ok (.iconst 0, 1) := by decide +kernel
theorem dL_sign_232 : decode cL_sign 232 = .ok (.istore 5, 2) := by decide +kernel
theorem dL_sign_234 : decode cL_sign 234 = .ok (.iload 5, 2) := by decide +kernel
theorem dL_sign_236 : decode cL_sign 236 = .ok (.ifCond .eq 38, 3) := by decide +kernel
theorem dL_sign_239 : decode cL_sign 239 = .ok (.aload_n 0, 1) := by decide +kernel
theorem dL_sign_240 : decode cL_sign 240 = .ok (.invokevirtual 48, 3) := by decide +kernel
theorem dL_sign_243 : decode cL_sign 243 = .ok (.dconst 0, 1) := by decide +kernel
theorem dL_sign_244 : decode cL_sign 244 = .ok (.dcmp .l, 1) := by decide +kernel
theorem dL_sign_245 : decode cL_sign 245 = .ok (.ifCond .lt 29, 3) := by decide +kernel
theorem dL_sign_248 : decode cL_sign 248 = .ok (.aload_n 0, 1) := by decide +kernel
theorem dL_sign_249 : decode cL_sign 249 = .ok (.invokevirtual 48, 3) := by decide +kernel
theorem dL_sign_252 : decode cL_sign 252 = .ok (.dconst 1, 1) := by decide +kernel
theorem dL_sign_253 : decode cL_sign 253 = .ok (.dcmp .g, 1) := by decide +kernel
theorem dL_sign_254 : decode cL_sign 254 = .ok (.ifCond .gt 20, 3) := by decide +kernel
theorem dL_sign_257 : decode cL_sign 257 = .ok (.iload_n 2, 1) := by decide +kernel
theorem dL_sign_258 : decode cL_sign 258 = .ok (.ifCond .gt 12, 3) := by decide +kernel
theorem dL_sign_261 : decode cL_sign 261 = .ok (.aload_n 0, 1) := by decide +kernel
theorem dL_sign_262 : decode cL_sign 262 = .ok (.invokevirtual 48, 3) := by decide +kernel
theorem dL_sign_265 : decode cL_sign 265 = .ok (.dconst 1, 1) := by decide +kernel
theorem dL_sign_266 : decode cL_sign 266 = .ok (.dcmp .l, 1) := by decide +kernel
theorem dL_sign_267 : decode cL_sign 267 = .ok (.ifCond .ne 7, 3) := by decide +kernel
theorem dL_sign_270 : decode cL_sign 270 = .ok (.iconst 1, 1) := by decide +kernel
theorem dL_sign_271 : decode cL_sign 271 = .ok (.goto 4, 3) := by decide +kernel
theorem dL_sign_274 : decode cL_sign 274 = .ok (.iconst 0, 1) := by decide +kernel
theorem dL_sign_275 : decode cL_sign 275 = .ok (.ireturn, 1) := by decide +kernel
theorem dL_act_0 : decode cL_act 0 = .ok (.aload_n 1, 1) := by decide +kernel
theorem dL_act_1 : decode cL_act 1 = .ok (.iload_n 2, 1) := by decide +kernel
theorem dL_act_2 : decode cL_act 2 = .ok (.iconst 1, 1) := by decide +kernel
theorem dL_act_3 : decode cL_act 3 = .ok (.iadd, 1) := by decide +kernel
theorem dL_act_4 : decode cL_act 4 = .ok (.invokestatic 52, 3) := by decide +kernel
theorem dL_act_7 : decode cL_act 7 = .ok (.istore_n 3, 1) := by decide +kernel
theorem dL_act_8 : decode cL_act 8 = .ok (.aload_n 1, 1) := by decide +kernel
theorem dL_act_9 : decode cL_act 9 = .ok (.iload_n 2, 1) := by decide +kernel
