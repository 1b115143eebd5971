theorem dL_digit_154 : decode cL_digit 154 = .ok (.if_icmp .ne 54, 3) := by decide +kernel
theorem dL_digit_157 : decode cL_digit 157 = .ok (.aload_n 0, 1) := by decide +kernel
theorem dL_digit_158 : decode cL_digit 158 = .ok (.iload_n 1, 1) := by decide +kernel
theorem dL_digit_159 : decode cL_digit 159 = .ok (.iconst 3, 1) := by decide +kernel
theorem dL_digit_160 : decode cL_digit 160 = .ok (.invokevirtual 27, 3) := by decide +kernel
theorem dL_digit_163 : decode cL_digit 163 = .ok (.aload_n 0, 1) := by decide +kernel
theorem dL_digit_164 : decode cL_digit 164 = .ok (.iload_n 1, 1) := by decide +kernel
theorem dL_digit_165 : decode cL_digit 165 = .ok (.iconst 2, 1) := by decide +kernel
theorem dL_digit_166 : decode cL_digit 166 = .ok (.invokevirtual 27, 3) := by decide +kernel
theorem dL_digit_169 : decode cL_digit 169 = .ok (.iand, 1) := by decide +kernel
theorem dL_digit_170 : decode cL_digit 170 = .ok (.ifCond .ne 38, 3) := by decide +kernel
theorem dL_digit_173 : decode cL_digit 173 = .ok (.aload_n 0, 1) := by decide +kernel
theorem dL_digit_174 : decode cL_digit 174 = .ok (.iload_n 1, 1) := by decide +kernel
theorem dL_digit_175 : decode cL_digit 175 = .ok (.iconst 2, 1) := by decide +kernel
theorem dL_digit_176 : decode cL_digit 176 = .ok (.invokevirtual 27, 3) := by decide +kernel
theorem dL_digit_179 : decode cL_digit 179 = .ok (.ifCond .gt 25, 3) := by decide +kernel
theorem dL_digit_182 : decode cL_digit 182 = .ok (.aload_n 0, 1) := by decide +kernel
theorem dL_digit_183 : decode cL_digit 183 = .ok (.iload_n 1, 1) := by decide +kernel
theorem dL_digit_184 : decode cL_digit 184 = .ok (.bipush 10, 2) := by decide +kernel
theorem dL_digit_186 : decode cL_digit 186 = .ok (.invokevirtual 27, 3) := by decide +kernel
theorem dL_digit_189 : decode cL_digit 189 = .ok (.invokestatic 34, 3) := by decide +kernel
theorem dL_digit_192 : decode cL_digit 192 = .ok (.iconst 1, 1) := by decide +kernel
theorem dL_digit_193 : decode cL_digit 193 = .ok (.if_icmp .ne 15, 3) := by decide +kernel
theorem dL_digit_196 : decode cL_digit 196 = .ok (.aload_n 0, 1) := by decide +kernel
theorem dL_digit_197 : decode cL_digit 197 = .ok (.iload_n 1, 1) := by decide +kernel
theorem dL_digit_198 : decode cL_digit 198 = .ok (.invokevirtual 39, 3) := by decide +kernel
theorem dL_digit_201 : decode cL_digit 201 = .ok (.ifCond .ne 7, 3) := by decide +kernel
theorem dL_digit_204 : decode cL_digit 204 = .ok (.iconst 1, 1) := by decide +kernel
theorem dL_digit_205 : decode cL_digit 205 = .ok (.goto 4, 3) := by decide +kernel
theorem dL_digit_208 : decode cL_digit 208 = .ok (.iconst 0, 1) := by decide +kernel
theorem dL_digit_209 : decode cL_digit 209 = .ok (.istore_n 3, 1) := by decide +kernel
theorem dL_digit_210 : decode cL_digit 210 = .ok (.iload_n 3, 1) := by decide +kernel
theorem dL_digit_211 : decode cL_digit 211 = .ok (.ifCond .eq 90, 3) := by decide +kernel
theorem dL_digit_214 : decode cL_digit 214 = .ok (.aload_n 0, 1) := by decide +kernel
theorem dL_digit_215 : decode cL_digit 215 = .ok (.iload_n 1, 1) := by decide +kernel
theorem dL_digit_216 : decode cL_digit 216 = .ok (.bipush 9, 2) := by decide +kernel
theorem dL_digit_218 : decode cL_digit 218 = .ok (.invokevirtual 27, 3) := by decide +kernel
theorem dL_digit_221 : decode cL_digit 221 = .ok (.aload_n 0, 1) := by decide +kernel
theorem dL_digit_222 : decode cL_digit 222 = .ok (.iload_n 1, 1) := by decide +kernel
theorem dL_digit_223 : decode cL_digit 223 = .ok (.bipush 8, 2) := by decide +kernel
theorem dL_digit_225 : decode cL_digit 225 = .ok (.invokevirtual 27, 3) := by decide +kernel
theorem dL_digit_228 : decode cL_digit 228 = .ok (.iconst 1, 1) := by decide +kernel
theorem dL_digit_229 : decode cL_digit 229 = .ok (.if_icmp .ne 21, 3) := by decide +kernel
theorem dL_digit_232 : decode cL_digit 232 = .ok (.aload_n 0, 1) := by decide +kernel
theorem dL_digit_233 : decode cL_digit 233 = .ok (.iload_n 1, 1) := by decide +kernel
theorem dL_digit_234 : decode cL_digit 234 = .ok (.bipush 10, 2) := by decide +kernel
theorem dL_digit_236 : decode cL_digit 236 = .ok (.invokevirtual 27, 3) := by decide +kernel
theorem dL_digit_239 : decode cL_digit 239 = .ok (.invokestatic 34, 3) := by decide +kernel
theorem dL_digit_242 : decode cL_digit 242 = .ok (.iconst 1, 1) := by decide +kernel
theorem dL_digit_243 : decode cL_digit 243 = .ok (.if_icmp .ne 7, 3) := by decide +kernel
theorem dL_digit_246 : decode cL_digit 246 = .ok (.iconst 1, 1) := by decide +kernel
theorem dL_digit_247 : decode cL_digit 247 = .ok (.goto 4, 3) := by decide +kernel
theorem dL_digit_250 : decode cL_digit 250 = .ok (.iconst 0, 1) := by decide +kernel
theorem dL_digit_251 : decode cL_digit 251 = .ok (.if_icmp .ne 50, 3) := by decide +kernel
theorem dL_digit_254 : decode cL_digit 254 = .ok (.aload_n 0, 1) := by decide +kernel
theorem dL_digit_255 : decode cL_digit 255 = .ok (.iload_n 1, 1) := by decide +kernel
theorem dL_digit_256 : decode cL_digit 256 = .ok (.bipush 7, 2) := by decide +kernel
theorem dL_digit_258 : decode cL_digit 258 = .ok (.invokevirtual 27, 3) := by decide +kernel
theorem dL_digit_261 : decode cL_digit 261 = .ok (.aload_n 0, 1) := by decide +kernel
theorem dL_digit_262 : decode cL_digit 262 = .ok (.iload_n 1, 1) := by decide +kernel
theorem dL_digit_263 : decode cL_digit 263 = .ok (.bipush 8, 2) := by decide +kernel
theorem dL_digit_265 : decode cL_digit 265 = .ok (.invokevirtual 27, 3) := by decide +kernel
theorem dL_digit_268 : decode cL_digit 268 = .ok (.iadd, 1) := by decide +kernel
theorem dL_digit_269 : decode cL_digit 269 = .ok (.iconst 1, 1) := by decide +kernel
theorem dL_digit_270 : decode cL_digit 270 = .ok (.if_icmp .gt 31, 3) := by decide +kernel
theorem dL_digit_273 : decode cL_digit 273 = .ok (.aload_n 0, 1) := by decide +kernel
theorem dL_digit_274 : decode cL_digit 274 = .ok (.iload_n 1, 1) := by decide +kernel
theorem dL_digit_275 : decode cL_digit 275 = .ok (.iconst 5, 1) := by decide +kernel
theorem dL_digit_276 : decode cL_digit 276 = .ok (.invokevirtual 27, 3) := by decide +kernel
theorem dL_digit_279 : decode cL_digit 279 = .ok (.ifCond .gt 18, 3) := by decide +kernel
theorem dL_digit_282 : decode cL_digit 282 = .ok (.aload_n 0, 1) := by decide +kernel
theorem dL_digit_283 : decode cL_digit 283 = .ok (.iload_n 1, 1) := by decide +kernel
theorem dL_digit_284 : decode cL_digit 284 = .ok (.bipush 6, 2) := by decide +kernel
theorem dL_digit_286 : decode cL_digit 286 = .ok (.invokevirtual 27, 3) := by decide +kernel
theorem dL_digit_289 : decode cL_digit 289 = .ok (.aload_n 0, 1) := by decide +kernel
theorem dL_digit_290 : decode cL_digit 290 = .ok (.iconst 0, 1) := by decide +kernel
theorem dL_digit_291 : decode cL_digit 291 = .ok (.invokevirtual 42, 3) := by decide +kernel
theorem dL_digit_294 : decode cL_digit 294 = .ok (.if_icmp .ne 7, 3) := by decide +kernel
theorem dL_digit_297 : decode cL_digit 297 = .ok (.iconst 1, 1) := by decide +kernel
theorem dL_digit_298 : decode cL_digit 298 = .ok (.goto 4, 3) := by decide +kernel
theorem dL_digit_301 : decode cL_digit 301 = .ok (.iconst 0, 1) := by decide +kernel
theorem dL_digit_302 : decode cL_digit 302 = .ok (.istore_n 3, 1) := by decide +kernel
theorem dL_digit_303 : decode cL_digit 303 = .ok (.iload_n 3, 1) := by decide +kernel
theorem dL_digit_304 : decode cL_digit 304 = .ok (.ifCond .eq 69, 3) := by decide +kernel
theorem dL_digit_307 : decode cL_digit 307 = .ok (.aload_n 0, 1) := by decide +kernel
theorem dL_digit_308 : decode cL_digit 308 = .ok (.iload_n 1, 1) := by decide +kernel
theorem dL_digit_309 : decode cL_digit 309 = .ok (.invokevirtual 39, 3) := by decide +kernel
theorem dL_digit_312 : decode cL_digit 312 = .ok (.bipush 66, 2) := by decide +kernel
theorem dL_digit_314 : decode cL_digit 314 = .ok (.if_icmp .gt 59, 3) := by decide +kernel
theorem dL_digit_317 : decode cL_digit 317 = .ok (.aload_n 0, 1) := by decide +kernel
theorem dL_digit_318 : decode cL_digit 318 = .ok (.iload_n 1, 1) := by decide +kernel
theorem dL_digit_319 : decode cL_digit 319 = .ok (.iconst 2, 1) := by decide +kernel
theorem dL_digit_320 : decode cL_digit 320 = .ok (.invokevirtual 27, 3) := by decide +kernel
theorem dL_digit_323 : decode cL_digit 323 = .ok (.bipush 127, 2) := by decide +kernel
theorem dL_digit_325 : decode cL_digit 325 = .ok (.if_icmp .lt 13, 3) := by decide +kernel
theorem dL_digit_328 : decode cL_digit 328 = .ok (.aload_n 0, 1) := by decide +kernel
theorem dL_digit_329 : decode cL_digit 329 = .ok (.iload_n 1, 1) := by decide +kernel
theorem dL_digit_330 : decode cL_digit 330 = .ok (.invokevirtual 39, 3) := by decide +kernel
theorem dL_digit_333 : decode cL_digit 333 = .ok (.bipush 66, 2) := by decide +kernel
theorem dL_digit_335 : decode cL_digit 335 = .ok (.if_icmp .ne 38, 3) := by decide +kernel
theorem dL_digit_338 : decode cL_digit 338 = .ok (.aload_n 0, 1) := by decide +kernel
theorem dL_digit_339 : decode cL_digit 339 = .ok (.iload_n 1, 1) := by decide +kernel
theorem dL_digit_340 : decode cL_digit 340 = .ok (.bipush 8, 2) := by decide +kernel
theorem dL_digit_342 : decode cL_digit 342 = .ok (.invokevirtual 27, 3) := by decide +kernel
theorem dL_digit_345 : decode cL_digit 345 = .ok (.ifCond .eq 24, 3) := by decide +kernel
theorem dL_digit_348 : decode cL_digit 348 = .ok (.aload_n 0, 1) := by decide +kernel
theorem dL_digit_349 : decode cL_digit 349 = .ok (.iload_n 1, 1) := by decide +kernel
theorem dL_digit_350 : decode cL_digit 350 = .ok (.iconst 5, 1) := by decide +kernel
theorem dL_digit_351 : decode cL_digit 351 = .ok (.invokevirtual 27, 3) := by decide +kernel
theorem dL_digit_354 : decode cL_digit 354 = .ok (.aload_n 0, 1) := by decide +kernel
theorem dL_digit_355 : decode cL_digit 355 = .ok (.iconst 3, 1) := by decide +kernel
theorem dL_digit_356 : decode cL_digit 356 = .ok (.invokevirtual 42, 3) := by decide +kernel
theorem dL_digit_359 : decode cL_digit 359 = .ok (.aload_n 0, 1) := by decide +kernel
theorem dL_digit_360 : decode cL_digit 360 = .ok (.bipush 8, 2) := by decide +kernel
theorem dL_digit_362 : decode cL_digit 362 = .ok (.invokevirtual 30, 3) := by decide +kernel
theorem dL_digit_365 : decode cL_digit 365 = .ok (.imul, 1) := by decide +kernel
theorem dL_digit_366 : decode cL_digit 366 = .ok (.if_icmp .lt 7, 3) := by decide +kernel
theorem dL_digit_369 : decode cL_digit 369 = .ok (.iconst 1, 1) := by decide +kernel
theorem dL_digit_370 : decode cL_digit 370 = .ok (.goto 4, 3) := by decide +kernel
theorem dL_digit_373 : decode cL_digit 373 = .ok (.iconst 0, 1) := by decide +kernel
theorem dL_digit_374 : decode cL_digit 374 = .ok (.ireturn, 1) := by decide +kernel
theorem dL_sign_0 : decode cL_sign 0 = .ok (.iconst 0, 1) := by decide +kernel
theorem dL_sign_1 : decode cL_sign 1 = .ok (.istore_n 1, 1) := by decide +kernel
theorem dL_sign_2 : decode cL_sign 2 = .ok (.iconst 0, 1) := by decide +kernel
theorem dL_sign_3 : decode cL_sign 3 = .ok (.istore_n 2, 1) := by decide +kernel
theorem dL_sign_4 : decode cL_sign 4 = .ok (.iconst 0, 1) := by decide +kernel
theorem dL_sign_5 : decode cL_sign 5 = .ok (.istore_n 3, 1) := by decide +kernel
theorem dL_sign_6 : decode cL_sign 6 = .ok (.iconst 0, 1) := by decide +kernel
theorem dL_sign_7 : decode cL_sign 7 = .ok (.istore 4, 2) := by decide +kernel
theorem dL_sign_9 : decode cL_sign 9 = .ok (.iconst 1, 1) := by decide +kernel
theorem dL_sign_10 : decode cL_sign 10 = .ok (.istore 5, 2) := by decide +kernel
theorem dL_sign_12 : decode cL_sign 12 = .ok (.iconst 0, 1) := by decide +kernel
theorem dL_sign_13 : decode cL_sign 13 = .ok (.istore 6, 2) := by decide +kernel
theorem dL_sign_15 : decode cL_sign 15 = .ok (.iload 6, 2) := by decide +kernel
theorem dL_sign_17 : decode cL_sign 17 = .ok (.bipush 6, 2) := by decide +kernel
theorem dL_sign_19 : decode cL_sign 19 = .ok (.if_icmp .ge 68, 3) := by decide +kernel
theorem dL_sign_22 : decode cL_sign 22 = .ok (.iload 5, 2) := by decide +kernel
theorem dL_sign_24 : decode cL_sign 24 = .ok (.ifCond .eq 63, 3) := by decide +kernel
theorem dL_sign_27 : decode cL_sign 27 = .ok (.aload_n 0, 1) := by decide +kernel
theorem dL_sign_28 : decode cL_sign 28 = .ok (.iload 6, 2) := by decide +kernel
