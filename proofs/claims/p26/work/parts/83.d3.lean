theorem dL_act_10 : decode cL_act 10 = .ok (.iconst 2, 1) := by decide +kernel
theorem dL_act_11 : decode cL_act 11 = .ok (.iadd, 1) := by decide +kernel
theorem dL_act_12 : decode cL_act 12 = .ok (.invokestatic 52, 3) := by decide +kernel
theorem dL_act_15 : decode cL_act 15 = .ok (.istore 4, 2) := by decide +kernel
theorem dL_act_17 : decode cL_act 17 = .ok (.aload_n 1, 1) := by decide +kernel
theorem dL_act_18 : decode cL_act 18 = .ok (.iload_n 2, 1) := by decide +kernel
theorem dL_act_19 : decode cL_act 19 = .ok (.invokestatic 52, 3) := by decide +kernel
theorem dL_act_22 : decode cL_act 22 = .ok (.bipush 14, 2) := by decide +kernel
theorem dL_act_24 : decode cL_act 24 = .ok (.invokestatic 56, 3) := by decide +kernel
theorem dL_act_27 : decode cL_act 27 = .ok (.tableswitch 206 0 8 #[49, 67, 67, 85, 117, 129, 145, 183, 201], 49) := by decide +kernel
theorem dL_act_76 : decode cL_act 76 = .ok (.aload_n 0, 1) := by decide +kernel
theorem dL_act_77 : decode cL_act 77 = .ok (.iload_n 3, 1) := by decide +kernel
theorem dL_act_78 : decode cL_act 78 = .ok (.bipush 6, 2) := by decide +kernel
theorem dL_act_80 : decode cL_act 80 = .ok (.invokestatic 56, 3) := by decide +kernel
theorem dL_act_83 : decode cL_act 83 = .ok (.iload 4, 2) := by decide +kernel
theorem dL_act_85 : decode cL_act 85 = .ok (.bipush 12, 2) := by decide +kernel
theorem dL_act_87 : decode cL_act 87 = .ok (.invokestatic 56, 3) := by decide +kernel
theorem dL_act_90 : decode cL_act 90 = .ok (.invokevirtual 59, 3) := by decide +kernel
theorem dL_act_93 : decode cL_act 93 = .ok (.ireturn, 1) := by decide +kernel
theorem dL_act_94 : decode cL_act 94 = .ok (.aload_n 0, 1) := by decide +kernel
theorem dL_act_95 : decode cL_act 95 = .ok (.iload_n 3, 1) := by decide +kernel
theorem dL_act_96 : decode cL_act 96 = .ok (.bipush 6, 2) := by decide +kernel
theorem dL_act_98 : decode cL_act 98 = .ok (.invokestatic 56, 3) := by decide +kernel
theorem dL_act_101 : decode cL_act 101 = .ok (.iload 4, 2) := by decide +kernel
theorem dL_act_103 : decode cL_act 103 = .ok (.bipush 16, 2) := by decide +kernel
theorem dL_act_105 : decode cL_act 105 = .ok (.invokestatic 56, 3) := by decide +kernel
theorem dL_act_108 : decode cL_act 108 = .ok (.invokevirtual 62, 3) := by decide +kernel
theorem dL_act_111 : decode cL_act 111 = .ok (.ireturn, 1) := by decide +kernel
theorem dL_act_112 : decode cL_act 112 = .ok (.aload_n 0, 1) := by decide +kernel
theorem dL_act_113 : decode cL_act 113 = .ok (.iload_n 3, 1) := by decide +kernel
theorem dL_act_114 : decode cL_act 114 = .ok (.bipush 6, 2) := by decide +kernel
theorem dL_act_116 : decode cL_act 116 = .ok (.invokestatic 56, 3) := by decide +kernel
theorem dL_act_119 : decode cL_act 119 = .ok (.iload 4, 2) := by decide +kernel
theorem dL_act_121 : decode cL_act 121 = .ok (.bipush 7, 2) := by decide +kernel
theorem dL_act_123 : decode cL_act 123 = .ok (.invokestatic 56, 3) := by decide +kernel
theorem dL_act_126 : decode cL_act 126 = .ok (.iload 4, 2) := by decide +kernel
theorem dL_act_128 : decode cL_act 128 = .ok (.iconst 3, 1) := by decide +kernel
theorem dL_act_129 : decode cL_act 129 = .ok (.invokestatic 56, 3) := by decide +kernel
theorem dL_act_132 : decode cL_act 132 = .ok (.ifCond .le 7, 3) := by decide +kernel
theorem dL_act_135 : decode cL_act 135 = .ok (.iconst 1, 1) := by decide +kernel
theorem dL_act_136 : decode cL_act 136 = .ok (.goto 4, 3) := by decide +kernel
theorem dL_act_139 : decode cL_act 139 = .ok (.iconst 0, 1) := by decide +kernel
theorem dL_act_140 : decode cL_act 140 = .ok (.invokevirtual 65, 3) := by decide +kernel
theorem dL_act_143 : decode cL_act 143 = .ok (.ireturn, 1) := by decide +kernel
theorem dL_act_144 : decode cL_act 144 = .ok (.aload_n 0, 1) := by decide +kernel
theorem dL_act_145 : decode cL_act 145 = .ok (.iload 4, 2) := by decide +kernel
theorem dL_act_147 : decode cL_act 147 = .ok (.bipush 21, 2) := by decide +kernel
theorem dL_act_149 : decode cL_act 149 = .ok (.invokestatic 56, 3) := by decide +kernel
theorem dL_act_152 : decode cL_act 152 = .ok (.invokevirtual 69, 3) := by decide +kernel
theorem dL_act_155 : decode cL_act 155 = .ok (.ireturn, 1) := by decide +kernel
theorem dL_act_156 : decode cL_act 156 = .ok (.aload_n 0, 1) := by decide +kernel
theorem dL_act_157 : decode cL_act 157 = .ok (.iconst 0, 1) := by decide +kernel
theorem dL_act_158 : decode cL_act 158 = .ok (.bipush 6, 2) := by decide +kernel
theorem dL_act_160 : decode cL_act 160 = .ok (.iload 4, 2) := by decide +kernel
theorem dL_act_162 : decode cL_act 162 = .ok (.bipush 50, 2) := by decide +kernel
theorem dL_act_164 : decode cL_act 164 = .ok (.invokestatic 56, 3) := by decide +kernel
theorem dL_act_167 : decode cL_act 167 = .ok (.iadd, 1) := by decide +kernel
theorem dL_act_168 : decode cL_act 168 = .ok (.invokevirtual 72, 3) := by decide +kernel
theorem dL_act_171 : decode cL_act 171 = .ok (.ireturn, 1) := by decide +kernel
theorem dL_act_172 : decode cL_act 172 = .ok (.aload_n 0, 1) := by decide +kernel
theorem dL_act_173 : decode cL_act 173 = .ok (.iconst 1, 1) := by decide +kernel
theorem dL_act_174 : decode cL_act 174 = .ok (.iload_n 3, 1) := by decide +kernel
theorem dL_act_175 : decode cL_act 175 = .ok (.iconst 4, 1) := by decide +kernel
theorem dL_act_176 : decode cL_act 176 = .ok (.invokestatic 56, 3) := by decide +kernel
theorem dL_act_179 : decode cL_act 179 = .ok (.iadd, 1) := by decide +kernel
theorem dL_act_180 : decode cL_act 180 = .ok (.iload_n 3, 1) := by decide +kernel
theorem dL_act_181 : decode cL_act 181 = .ok (.iconst 4, 1) := by decide +kernel
theorem dL_act_182 : decode cL_act 182 = .ok (.invokestatic 56, 3) := by decide +kernel
theorem dL_act_185 : decode cL_act 185 = .ok (.ifCond .ne 12, 3) := by decide +kernel
theorem dL_act_188 : decode cL_act 188 = .ok (.iload 4, 2) := by decide +kernel
theorem dL_act_190 : decode cL_act 190 = .ok (.iconst 2, 1) := by decide +kernel
theorem dL_act_191 : decode cL_act 191 = .ok (.invokestatic 56, 3) := by decide +kernel
theorem dL_act_194 : decode cL_act 194 = .ok (.goto 12, 3) := by decide +kernel
theorem dL_act_197 : decode cL_act 197 = .ok (.iconst 1, 1) := by decide +kernel
theorem dL_act_198 : decode cL_act 198 = .ok (.iload 4, 2) := by decide +kernel
theorem dL_act_200 : decode cL_act 200 = .ok (.bipush 20, 2) := by decide +kernel
theorem dL_act_202 : decode cL_act 202 = .ok (.invokestatic 56, 3) := by decide +kernel
theorem dL_act_205 : decode cL_act 205 = .ok (.iadd, 1) := by decide +kernel
theorem dL_act_206 : decode cL_act 206 = .ok (.invokevirtual 72, 3) := by decide +kernel
theorem dL_act_209 : decode cL_act 209 = .ok (.ireturn, 1) := by decide +kernel
theorem dL_act_210 : decode cL_act 210 = .ok (.aload_n 0, 1) := by decide +kernel
theorem dL_act_211 : decode cL_act 211 = .ok (.iload_n 3, 1) := by decide +kernel
theorem dL_act_212 : decode cL_act 212 = .ok (.bipush 6, 2) := by decide +kernel
theorem dL_act_214 : decode cL_act 214 = .ok (.invokestatic 56, 3) := by decide +kernel
theorem dL_act_217 : decode cL_act 217 = .ok (.iconst 5, 1) := by decide +kernel
theorem dL_act_218 : decode cL_act 218 = .ok (.iload 4, 2) := by decide +kernel
theorem dL_act_220 : decode cL_act 220 = .ok (.sipush 3000, 3) := by decide +kernel
theorem dL_act_223 : decode cL_act 223 = .ok (.irem, 1) := by decide +kernel
theorem dL_act_224 : decode cL_act 224 = .ok (.invokestatic 75, 3) := by decide +kernel
theorem dL_act_227 : decode cL_act 227 = .ok (.ireturn, 1) := by decide +kernel
theorem dL_act_228 : decode cL_act 228 = .ok (.aload_n 0, 1) := by decide +kernel
theorem dL_act_229 : decode cL_act 229 = .ok (.invokestatic 78, 3) := by decide +kernel
theorem dL_act_232 : decode cL_act 232 = .ok (.ireturn, 1) := by decide +kernel
theorem dL_act_233 : decode cL_act 233 = .ok (.aload_n 0, 1) := by decide +kernel
theorem dL_act_234 : decode cL_act 234 = .ok (.iconst 1, 1) := by decide +kernel
theorem dL_act_235 : decode cL_act 235 = .ok (.iload 4, 2) := by decide +kernel
theorem dL_act_237 : decode cL_act 237 = .ok (.bipush 120, 2) := by decide +kernel
theorem dL_act_239 : decode cL_act 239 = .ok (.invokestatic 56, 3) := by decide +kernel
theorem dL_act_242 : decode cL_act 242 = .ok (.iadd, 1) := by decide +kernel
theorem dL_act_243 : decode cL_act 243 = .ok (.invokevirtual 81, 3) := by decide +kernel
theorem dL_act_246 : decode cL_act 246 = .ok (.ireturn, 1) := by decide +kernel
theorem dL_law_0 : decode cL_law 0 = .ok (.new 10, 3) := by decide +kernel
theorem dL_law_3 : decode cL_law 3 = .ok (.dup, 1) := by decide +kernel
theorem dL_law_4 : decode cL_law 4 = .ok (.invokespecial 84, 3) := by decide +kernel
theorem dL_law_7 : decode cL_law 7 = .ok (.astore_n 1, 1) := by decide +kernel
theorem dL_law_8 : decode cL_law 8 = .ok (.iconst 1, 1) := by decide +kernel
theorem dL_law_9 : decode cL_law 9 = .ok (.istore_n 2, 1) := by decide +kernel
theorem dL_law_10 : decode cL_law 10 = .ok (.aload_n 0, 1) := by decide +kernel
theorem dL_law_11 : decode cL_law 11 = .ok (.arraylength, 1) := by decide +kernel
theorem dL_law_12 : decode cL_law 12 = .ok (.iconst 3, 1) := by decide +kernel
theorem dL_law_13 : decode cL_law 13 = .ok (.idiv, 1) := by decide +kernel
theorem dL_law_14 : decode cL_law 14 = .ok (.bipush 30, 2) := by decide +kernel
theorem dL_law_16 : decode cL_law 16 = .ok (.if_icmp .le 8, 3) := by decide +kernel
theorem dL_law_19 : decode cL_law 19 = .ok (.bipush 30, 2) := by decide +kernel
theorem dL_law_21 : decode cL_law 21 = .ok (.goto 7, 3) := by decide +kernel
theorem dL_law_24 : decode cL_law 24 = .ok (.aload_n 0, 1) := by decide +kernel
theorem dL_law_25 : decode cL_law 25 = .ok (.arraylength, 1) := by decide +kernel
theorem dL_law_26 : decode cL_law 26 = .ok (.iconst 3, 1) := by decide +kernel
theorem dL_law_27 : decode cL_law 27 = .ok (.idiv, 1) := by decide +kernel
theorem dL_law_28 : decode cL_law 28 = .ok (.istore_n 3, 1) := by decide +kernel
theorem dL_law_29 : decode cL_law 29 = .ok (.iconst 0, 1) := by decide +kernel
theorem dL_law_30 : decode cL_law 30 = .ok (.istore 4, 2) := by decide +kernel
theorem dL_law_32 : decode cL_law 32 = .ok (.iload 4, 2) := by decide +kernel
theorem dL_law_34 : decode cL_law 34 = .ok (.iload_n 3, 1) := by decide +kernel
theorem dL_law_35 : decode cL_law 35 = .ok (.if_icmp .ge 161, 3) := by decide +kernel
theorem dL_law_38 : decode cL_law 38 = .ok (.iload_n 2, 1) := by decide +kernel
theorem dL_law_39 : decode cL_law 39 = .ok (.ifCond .eq 157, 3) := by decide +kernel
theorem dL_law_42 : decode cL_law 42 = .ok (.aload_n 1, 1) := by decide +kernel
theorem dL_law_43 : decode cL_law 43 = .ok (.bipush 10, 2) := by decide +kernel
theorem dL_law_45 : decode cL_law 45 = .ok (.invokevirtual 30, 3) := by decide +kernel
theorem dL_law_48 : decode cL_law 48 = .ok (.istore 5, 2) := by decide +kernel
theorem dL_law_50 : decode cL_law 50 = .ok (.aload_n 1, 1) := by decide +kernel
theorem dL_law_51 : decode cL_law 51 = .ok (.iconst 0, 1) := by decide +kernel
theorem dL_law_52 : decode cL_law 52 = .ok (.invokevirtual 30, 3) := by decide +kernel
theorem dL_law_55 : decode cL_law 55 = .ok (.istore 6, 2) := by decide +kernel
theorem dL_law_57 : decode cL_law 57 = .ok (.aload_n 1, 1) := by decide +kernel
theorem dL_law_58 : decode cL_law 58 = .ok (.bipush 7, 2) := by decide +kernel
theorem dL_law_60 : decode cL_law 60 = .ok (.invokevirtual 30, 3) := by decide +kernel
theorem dL_law_63 : decode cL_law 63 = .ok (.istore 7, 2) := by decide +kernel
theorem dL_law_65 : decode cL_law 65 = .ok (.aload_n 0, 1) := by decide +kernel
