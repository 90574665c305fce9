set_option maxRecDepth 20000 in
theorem gL_law_X5_isSame_ : GoodIn wsL_law (wsV RL 134 RX5 yX5_isSame_ wsX5_isSame_) := goodIn_app (goodIn_of _ (by decide +kernel)) ggL_law_X5_isSame_
theorem dL_law_0 : decode cL_law 0 = .ok (.new 22, 3) := by decide +kernel
theorem dL_law_3 : decode cL_law 3 = .ok (.dup, 1) := by decide +kernel
theorem dL_law_4 : decode cL_law 4 = .ok (.invokespecial 98, 3) := by decide +kernel
theorem dL_law_7 : decode cL_law 7 = .ok (.astore_n 1, 1) := by decide +kernel
theorem dL_law_8 : decode cL_law 8 = .ok (.aload_n 1, 1) := by decide +kernel
theorem dL_law_9 : decode cL_law 9 = .ok (.aload_n 0, 1) := by decide +kernel
theorem dL_law_10 : decode cL_law 10 = .ok (.invokestatic 99, 3) := by decide +kernel
theorem dL_law_13 : decode cL_law 13 = .ok (.astore_n 2, 1) := by decide +kernel
theorem dL_law_14 : decode cL_law 14 = .ok (.aload_n 2, 1) := by decide +kernel
theorem dL_law_15 : decode cL_law 15 = .ok (.ifnonnull 5, 3) := by decide +kernel
theorem dL_law_18 : decode cL_law 18 = .ok (.iconst 0, 1) := by decide +kernel
theorem dL_law_19 : decode cL_law 19 = .ok (.ireturn, 1) := by decide +kernel
theorem dL_law_20 : decode cL_law 20 = .ok (.iconst 0, 1) := by decide +kernel
theorem dL_law_21 : decode cL_law 21 = .ok (.istore_n 3, 1) := by decide +kernel
theorem dL_law_22 : decode cL_law 22 = .ok (.iload_n 3, 1) := by decide +kernel
theorem dL_law_23 : decode cL_law 23 = .ok (.bipush 14, 2) := by decide +kernel
theorem dL_law_25 : decode cL_law 25 = .ok (.if_icmp .ge 757, 3) := by decide +kernel
theorem dL_law_28 : decode cL_law 28 = .ok (.aload_n 0, 1) := by decide +kernel
theorem dL_law_29 : decode cL_law 29 = .ok (.iload_n 3, 1) := by decide +kernel
theorem dL_law_30 : decode cL_law 30 = .ok (.bipush 16, 2) := by decide +kernel
theorem dL_law_32 : decode cL_law 32 = .ok (.irem, 1) := by decide +kernel
theorem dL_law_33 : decode cL_law 33 = .ok (.invokestatic 89, 3) := by decide +kernel
theorem dL_law_36 : decode cL_law 36 = .ok (.iconst 2, 1) := by decide +kernel
theorem dL_law_37 : decode cL_law 37 = .ok (.ishr, 1) := by decide +kernel
theorem dL_law_38 : decode cL_law 38 = .ok (.bipush 59, 2) := by decide +kernel
theorem dL_law_40 : decode cL_law 40 = .ok (.iload_n 3, 1) := by decide +kernel
theorem dL_law_41 : decode cL_law 41 = .ok (.imul, 1) := by decide +kernel
theorem dL_law_42 : decode cL_law 42 = .ok (.iadd, 1) := by decide +kernel
theorem dL_law_43 : decode cL_law 43 = .ok (.istore 4, 2) := by decide +kernel
theorem dL_law_45 : decode cL_law 45 = .ok (.aload_n 1, 1) := by decide +kernel
theorem dL_law_46 : decode cL_law 46 = .ok (.iconst 5, 1) := by decide +kernel
theorem dL_law_47 : decode cL_law 47 = .ok (.invokevirtual 103, 3) := by decide +kernel
theorem dL_law_50 : decode cL_law 50 = .ok (.istore 5, 2) := by decide +kernel
theorem dL_law_52 : decode cL_law 52 = .ok (.aload_n 1, 1) := by decide +kernel
theorem dL_law_53 : decode cL_law 53 = .ok (.iconst 4, 1) := by decide +kernel
theorem dL_law_54 : decode cL_law 54 = .ok (.invokevirtual 103, 3) := by decide +kernel
theorem dL_law_57 : decode cL_law 57 = .ok (.istore 6, 2) := by decide +kernel
theorem dL_law_59 : decode cL_law 59 = .ok (.aload_n 1, 1) := by decide +kernel
theorem dL_law_60 : decode cL_law 60 = .ok (.aload_n 2, 1) := by decide +kernel
theorem dL_law_61 : decode cL_law 61 = .ok (.iload 4, 2) := by decide +kernel
theorem dL_law_63 : decode cL_law 63 = .ok (.invokestatic 94, 3) := by decide +kernel
theorem dL_law_66 : decode cL_law 66 = .ok (.ifCond .ne 5, 3) := by decide +kernel
theorem dL_law_69 : decode cL_law 69 = .ok (.iconst 0, 1) := by decide +kernel
theorem dL_law_70 : decode cL_law 70 = .ok (.ireturn, 1) := by decide +kernel
theorem dL_law_71 : decode cL_law 71 = .ok (.aload_n 1, 1) := by decide +kernel
theorem dL_law_72 : decode cL_law 72 = .ok (.iconst 5, 1) := by decide +kernel
theorem dL_law_73 : decode cL_law 73 = .ok (.invokevirtual 103, 3) := by decide +kernel
theorem dL_law_76 : decode cL_law 76 = .ok (.iload 5, 2) := by decide +kernel
theorem dL_law_78 : decode cL_law 78 = .ok (.bipush 99, 2) := by decide +kernel
theorem dL_law_80 : decode cL_law 80 = .ok (.iadd, 1) := by decide +kernel
theorem dL_law_81 : decode cL_law 81 = .ok (.if_icmp .gt 26, 3) := by decide +kernel
theorem dL_law_84 : decode cL_law 84 = .ok (.aload_n 1, 1) := by decide +kernel
theorem dL_law_85 : decode cL_law 85 = .ok (.iconst 4, 1) := by decide +kernel
theorem dL_law_86 : decode cL_law 86 = .ok (.invokevirtual 103, 3) := by decide +kernel
theorem dL_law_89 : decode cL_law 89 = .ok (.iload 6, 2) := by decide +kernel
theorem dL_law_91 : decode cL_law 91 = .ok (.if_icmp .eq 18, 3) := by decide +kernel
theorem dL_law_94 : decode cL_law 94 = .ok (.aload_n 1, 1) := by decide +kernel
theorem dL_law_95 : decode cL_law 95 = .ok (.iconst 5, 1) := by decide +kernel
theorem dL_law_96 : decode cL_law 96 = .ok (.invokevirtual 103, 3) := by decide +kernel
theorem dL_law_99 : decode cL_law 99 = .ok (.iload 5, 2) := by decide +kernel
theorem dL_law_101 : decode cL_law 101 = .ok (.bipush 96, 2) := by decide +kernel
theorem dL_law_103 : decode cL_law 103 = .ok (.isub, 1) := by decide +kernel
theorem dL_law_104 : decode cL_law 104 = .ok (.if_icmp .eq 5, 3) := by decide +kernel
theorem dL_law_107 : decode cL_law 107 = .ok (.iconst 0, 1) := by decide +kernel
theorem dL_law_108 : decode cL_law 108 = .ok (.ireturn, 1) := by decide +kernel
theorem dL_law_109 : decode cL_law 109 = .ok (.aload_n 1, 1) := by decide +kernel
theorem dL_law_110 : decode cL_law 110 = .ok (.invokevirtual 106, 3) := by decide +kernel
theorem dL_law_113 : decode cL_law 113 = .ok (.lstore 7, 2) := by decide +kernel
theorem dL_law_115 : decode cL_law 115 = .ok (.sipush 255, 3) := by decide +kernel
theorem dL_law_118 : decode cL_law 118 = .ok (.istore 9, 2) := by decide +kernel
theorem dL_law_120 : decode cL_law 120 = .ok (.iconst 0, 1) := by decide +kernel
theorem dL_law_121 : decode cL_law 121 = .ok (.istore 10, 2) := by decide +kernel
theorem dL_law_123 : decode cL_law 123 = .ok (.iconst 0, 1) := by decide +kernel
theorem dL_law_124 : decode cL_law 124 = .ok (.istore 11, 2) := by decide +kernel
theorem dL_law_126 : decode cL_law 126 = .ok (.sipush 256, 3) := by decide +kernel
theorem dL_law_129 : decode cL_law 129 = .ok (.newarray .boolean, 2) := by decide +kernel
theorem dL_law_131 : decode cL_law 131 = .ok (.astore 12, 2) := by decide +kernel
theorem dL_law_133 : decode cL_law 133 = .ok (.iconst 0, 1) := by decide +kernel
theorem dL_law_134 : decode cL_law 134 = .ok (.istore 13, 2) := by decide +kernel
theorem dL_law_136 : decode cL_law 136 = .ok (.iload 13, 2) := by decide +kernel
theorem dL_law_138 : decode cL_law 138 = .ok (.bipush 96, 2) := by decide +kernel
theorem dL_law_140 : decode cL_law 140 = .ok (.if_icmp .ge 56, 3) := by decide +kernel
theorem dL_law_143 : decode cL_law 143 = .ok (.aload_n 1, 1) := by decide +kernel
theorem dL_law_144 : decode cL_law 144 = .ok (.iload 13, 2) := by decide +kernel
theorem dL_law_146 : decode cL_law 146 = .ok (.bipush 12, 2) := by decide +kernel
theorem dL_law_148 : decode cL_law 148 = .ok (.irem, 1) := by decide +kernel
theorem dL_law_149 : decode cL_law 149 = .ok (.iload 13, 2) := by decide +kernel
theorem dL_law_151 : decode cL_law 151 = .ok (.bipush 12, 2) := by decide +kernel
theorem dL_law_153 : decode cL_law 153 = .ok (.idiv, 1) := by decide +kernel
theorem dL_law_154 : decode cL_law 154 = .ok (.invokevirtual 110, 3) := by decide +kernel
theorem dL_law_157 : decode cL_law 157 = .ok (.istore 14, 2) := by decide +kernel
theorem dL_law_159 : decode cL_law 159 = .ok (.iload 9, 2) := by decide +kernel
theorem dL_law_161 : decode cL_law 161 = .ok (.iload 14, 2) := by decide +kernel
theorem dL_law_163 : decode cL_law 163 = .ok (.invokestatic 27, 3) := by decide +kernel
theorem dL_law_166 : decode cL_law 166 = .ok (.istore 9, 2) := by decide +kernel
theorem dL_law_168 : decode cL_law 168 = .ok (.iload 10, 2) := by decide +kernel
theorem dL_law_170 : decode cL_law 170 = .ok (.iload 14, 2) := by decide +kernel
theorem dL_law_172 : decode cL_law 172 = .ok (.invokestatic 32, 3) := by decide +kernel
theorem dL_law_175 : decode cL_law 175 = .ok (.istore 10, 2) := by decide +kernel
theorem dL_law_177 : decode cL_law 177 = .ok (.aload 12, 2) := by decide +kernel
theorem dL_law_179 : decode cL_law 179 = .ok (.iload 14, 2) := by decide +kernel
theorem dL_law_181 : decode cL_law 181 = .ok (.iconst 1, 1) := by decide +kernel
theorem dL_law_182 : decode cL_law 182 = .ok (.bastore, 1) := by decide +kernel
theorem dL_law_183 : decode cL_law 183 = .ok (.iload 11, 2) := by decide +kernel
theorem dL_law_185 : decode cL_law 185 = .ok (.iload 14, 2) := by decide +kernel
theorem dL_law_187 : decode cL_law 187 = .ok (.iadd, 1) := by decide +kernel
theorem dL_law_188 : decode cL_law 188 = .ok (.istore 11, 2) := by decide +kernel
theorem dL_law_190 : decode cL_law 190 = .ok (.iinc 13 1, 3) := by decide +kernel
theorem dL_law_193 : decode cL_law 193 = .ok (.goto (-57), 3) := by decide +kernel
theorem dL_law_196 : decode cL_law 196 = .ok (.iconst 0, 1) := by decide +kernel
theorem dL_law_197 : decode cL_law 197 = .ok (.istore 13, 2) := by decide +kernel
theorem dL_law_199 : decode cL_law 199 = .ok (.aload 12, 2) := by decide +kernel
theorem dL_law_201 : decode cL_law 201 = .ok (.astore 14, 2) := by decide +kernel
theorem dL_law_203 : decode cL_law 203 = .ok (.aload 14, 2) := by decide +kernel
theorem dL_law_205 : decode cL_law 205 = .ok (.arraylength, 1) := by decide +kernel
theorem dL_law_206 : decode cL_law 206 = .ok (.istore 15, 2) := by decide +kernel
theorem dL_law_208 : decode cL_law 208 = .ok (.iconst 0, 1) := by decide +kernel
theorem dL_law_209 : decode cL_law 209 = .ok (.istore 16, 2) := by decide +kernel
theorem dL_law_211 : decode cL_law 211 = .ok (.iload 16, 2) := by decide +kernel
theorem dL_law_213 : decode cL_law 213 = .ok (.iload 15, 2) := by decide +kernel
theorem dL_law_215 : decode cL_law 215 = .ok (.if_icmp .ge 31, 3) := by decide +kernel
theorem dL_law_218 : decode cL_law 218 = .ok (.aload 14, 2) := by decide +kernel
theorem dL_law_220 : decode cL_law 220 = .ok (.iload 16, 2) := by decide +kernel
theorem dL_law_222 : decode cL_law 222 = .ok (.baload, 1) := by decide +kernel
theorem dL_law_223 : decode cL_law 223 = .ok (.istore 17, 2) := by decide +kernel
theorem dL_law_225 : decode cL_law 225 = .ok (.iload 13, 2) := by decide +kernel
theorem dL_law_227 : decode cL_law 227 = .ok (.iload 17, 2) := by decide +kernel
theorem dL_law_229 : decode cL_law 229 = .ok (.ifCond .eq 7, 3) := by decide +kernel
theorem dL_law_232 : decode cL_law 232 = .ok (.iconst 1, 1) := by decide +kernel
theorem dL_law_233 : decode cL_law 233 = .ok (.goto 4, 3) := by decide +kernel
theorem dL_law_236 : decode cL_law 236 = .ok (.iconst 0, 1) := by decide +kernel
theorem dL_law_237 : decode cL_law 237 = .ok (.iadd, 1) := by decide +kernel
theorem dL_law_238 : decode cL_law 238 = .ok (.istore 13, 2) := by decide +kernel
theorem dL_law_240 : decode cL_law 240 = .ok (.iinc 16 1, 3) := by decide +kernel
theorem dL_law_243 : decode cL_law 243 = .ok (.goto (-32), 3) := by decide +kernel
theorem dL_law_246 : decode cL_law 246 = .ok (.aload_n 1, 1) := by decide +kernel
theorem dL_law_247 : decode cL_law 247 = .ok (.iconst 0, 1) := by decide +kernel
theorem dL_law_248 : decode cL_law 248 = .ok (.invokevirtual 103, 3) := by decide +kernel
theorem dL_law_251 : decode cL_law 251 = .ok (.istore 14, 2) := by decide +kernel
theorem dL_law_253 : decode cL_law 253 = .ok (.iconst 0, 1) := by decide +kernel
theorem dL_law_254 : decode cL_law 254 = .ok (.istore 15, 2) := by decide +kernel
theorem dL_law_256 : decode cL_law 256 = .ok (.iconst 0, 1) := by decide +kernel
theorem dL_law_257 : decode cL_law 257 = .ok (.istore 16, 2) := by decide +kernel
theorem dL_law_259 : decode cL_law 259 = .ok (.iload 16, 2) := by decide +kernel
theorem dL_law_261 : decode cL_law 261 = .ok (.bipush 6, 2) := by decide +kernel
theorem dL_law_263 : decode cL_law 263 = .ok (.if_icmp .ge 69, 3) := by decide +kernel
theorem dL_law_266 : decode cL_law 266 = .ok (.aload_n 1, 1) := by decide +kernel
theorem dL_law_267 : decode cL_law 267 = .ok (.iload 16, 2) := by decide +kernel
theorem dL_law_269 : decode cL_law 269 = .ok (.invokevirtual 113, 3) := by decide +kernel
theorem dL_law_272 : decode cL_law 272 = .ok (.istore 17, 2) := by decide +kernel
theorem dL_law_274 : decode cL_law 274 = .ok (.iload 17, 2) := by decide +kernel
theorem dL_law_276 : decode cL_law 276 = .ok (.ifCond .ge 6, 3) := by decide +kernel
theorem dL_law_279 : decode cL_law 279 = .ok (.goto 47, 3) := by decide +kernel
theorem dL_law_282 : decode cL_law 282 = .ok (.iload 16, 2) := by decide +kernel
theorem dL_law_284 : decode cL_law 284 = .ok (.iload 15, 2) := by decide +kernel
theorem dL_law_286 : decode cL_law 286 = .ok (.if_icmp .ne 35, 3) := by decide +kernel
theorem dL_law_289 : decode cL_law 289 = .ok (.iload 17, 2) := by decide +kernel
theorem dL_law_291 : decode cL_law 291 = .ok (.iload 9, 2) := by decide +kernel
theorem dL_law_293 : decode cL_law 293 = .ok (.if_icmp .lt 28, 3) := by decide +kernel
theorem dL_law_296 : decode cL_law 296 = .ok (.iload 17, 2) := by decide +kernel
theorem dL_law_298 : decode cL_law 298 = .ok (.iload 10, 2) := by decide +kernel
theorem dL_law_300 : decode cL_law 300 = .ok (.if_icmp .gt 21, 3) := by decide +kernel
theorem dL_law_303 : decode cL_law 303 = .ok (.iload 16, 2) := by decide +kernel
theorem dL_law_305 : decode cL_law 305 = .ok (.ifCond .le 18, 3) := by decide +kernel
theorem dL_law_308 : decode cL_law 308 = .ok (.iload 17, 2) := by decide +kernel
theorem dL_law_310 : decode cL_law 310 = .ok (.aload_n 1, 1) := by decide +kernel
theorem dL_law_311 : decode cL_law 311 = .ok (.iload 16, 2) := by decide +kernel
theorem dL_law_313 : decode cL_law 313 = .ok (.iconst 1, 1) := by decide +kernel
theorem dL_law_314 : decode cL_law 314 = .ok (.isub, 1) := by decide +kernel
theorem dL_law_315 : decode cL_law 315 = .ok (.invokevirtual 113, 3) := by decide +kernel
theorem dL_law_318 : decode cL_law 318 = .ok (.if_icmp .ge 5, 3) := by decide +kernel
theorem dL_law_321 : decode cL_law 321 = .ok (.iconst 0, 1) := by decide +kernel
theorem dL_law_322 : decode cL_law 322 = .ok (.ireturn, 1) := by decide +kernel
theorem dL_law_323 : decode cL_law 323 = .ok (.iinc 15 1, 3) := by decide +kernel
theorem dL_law_326 : decode cL_law 326 = .ok (.iinc 16 1, 3) := by decide +kernel
theorem dL_law_329 : decode cL_law 329 = .ok (.goto (-70), 3) := by decide +kernel
theorem dL_law_332 : decode cL_law 332 = .ok (.iload 15, 2) := by decide +kernel
theorem dL_law_334 : decode cL_law 334 = .ok (.iconst 1, 1) := by decide +kernel
theorem dL_law_335 : decode cL_law 335 = .ok (.if_icmp .lt 34, 3) := by decide +kernel
theorem dL_law_338 : decode cL_law 338 = .ok (.iload 15, 2) := by decide +kernel
theorem dL_law_340 : decode cL_law 340 = .ok (.iload 14, 2) := by decide +kernel
theorem dL_law_342 : decode cL_law 342 = .ok (.if_icmp .gt 27, 3) := by decide +kernel
theorem dL_law_345 : decode cL_law 345 = .ok (.iload 15, 2) := by decide +kernel
theorem dL_law_347 : decode cL_law 347 = .ok (.aload_n 1, 1) := by decide +kernel
theorem dL_law_348 : decode cL_law 348 = .ok (.iload 14, 2) := by decide +kernel
theorem dL_law_350 : decode cL_law 350 = .ok (.iconst 0, 1) := by decide +kernel
theorem dL_law_351 : decode cL_law 351 = .ok (.invokevirtual 116, 3) := by decide +kernel
theorem dL_law_354 : decode cL_law 354 = .ok (.if_icmp .ne 15, 3) := by decide +kernel
theorem dL_law_357 : decode cL_law 357 = .ok (.iload 15, 2) := by decide +kernel
theorem dL_law_359 : decode cL_law 359 = .ok (.iload 14, 2) := by decide +kernel
theorem dL_law_361 : decode cL_law 361 = .ok (.iload 13, 2) := by decide +kernel
theorem dL_law_363 : decode cL_law 363 = .ok (.invokestatic 27, 3) := by decide +kernel
theorem dL_law_366 : decode cL_law 366 = .ok (.if_icmp .ge 5, 3) := by decide +kernel
theorem dL_law_369 : decode cL_law 369 = .ok (.iconst 0, 1) := by decide +kernel
theorem dL_law_370 : decode cL_law 370 = .ok (.ireturn, 1) := by decide +kernel
theorem dL_law_371 : decode cL_law 371 = .ok (.iload 15, 2) := by decide +kernel
theorem dL_law_373 : decode cL_law 373 = .ok (.iload 14, 2) := by decide +kernel
theorem dL_law_375 : decode cL_law 375 = .ok (.if_icmp .ge 27, 3) := by decide +kernel
theorem dL_law_378 : decode cL_law 378 = .ok (.aload_n 1, 1) := by decide +kernel
theorem dL_law_379 : decode cL_law 379 = .ok (.iload 14, 2) := by decide +kernel
theorem dL_law_381 : decode cL_law 381 = .ok (.iconst 1, 1) := by decide +kernel
theorem dL_law_382 : decode cL_law 382 = .ok (.invokevirtual 116, 3) := by decide +kernel
theorem dL_law_385 : decode cL_law 385 = .ok (.ifCond .ne 15, 3) := by decide +kernel
theorem dL_law_388 : decode cL_law 388 = .ok (.iload 15, 2) := by decide +kernel
theorem dL_law_390 : decode cL_law 390 = .ok (.aload_n 1, 1) := by decide +kernel
theorem dL_law_391 : decode cL_law 391 = .ok (.bipush 6, 2) := by decide +kernel
theorem dL_law_393 : decode cL_law 393 = .ok (.iconst 0, 1) := by decide +kernel
theorem dL_law_394 : decode cL_law 394 = .ok (.invokevirtual 116, 3) := by decide +kernel
theorem dL_law_397 : decode cL_law 397 = .ok (.if_icmp .eq 5, 3) := by decide +kernel
theorem dL_law_400 : decode cL_law 400 = .ok (.iconst 0, 1) := by decide +kernel
theorem dL_law_401 : decode cL_law 401 = .ok (.ireturn, 1) := by decide +kernel
theorem dL_law_402 : decode cL_law 402 = .ok (.aload_n 1, 1) := by decide +kernel
theorem dL_law_403 : decode cL_law 403 = .ok (.invokevirtual 119, 3) := by decide +kernel
theorem dL_law_406 : decode cL_law 406 = .ok (.iload 11, 2) := by decide +kernel
theorem dL_law_408 : decode cL_law 408 = .ok (.i2d, 1) := by decide +kernel
theorem dL_law_409 : decode cL_law 409 = .ok (.ldc2_w 123, 3) := by decide +kernel
theorem dL_law_412 : decode cL_law 412 = .ok (.ddiv, 1) := by decide +kernel
theorem dL_law_413 : decode cL_law 413 = .ok (.dcmp .l, 1) := by decide +kernel
theorem dL_law_414 : decode cL_law 414 = .ok (.ifCond .eq 5, 3) := by decide +kernel
theorem dL_law_417 : decode cL_law 417 = .ok (.iconst 0, 1) := by decide +kernel
theorem dL_law_418 : decode cL_law 418 = .ok (.ireturn, 1) := by decide +kernel
theorem dL_law_419 : decode cL_law 419 = .ok (.iload 4, 2) := by decide +kernel
theorem dL_law_421 : decode cL_law 421 = .ok (.iconst 4, 1) := by decide +kernel
theorem dL_law_422 : decode cL_law 422 = .ok (.ishr, 1) := by decide +kernel
theorem dL_law_423 : decode cL_law 423 = .ok (.bipush 97, 2) := by decide +kernel
theorem dL_law_425 : decode cL_law 425 = .ok (.invokestatic 9, 3) := by decide +kernel
theorem dL_law_428 : decode cL_law 428 = .ok (.istore 16, 2) := by decide +kernel
theorem dL_law_430 : decode cL_law 430 = .ok (.aload_n 1, 1) := by decide +kernel
theorem dL_law_431 : decode cL_law 431 = .ok (.iload 16, 2) := by decide +kernel
theorem dL_law_433 : decode cL_law 433 = .ok (.invokevirtual 125, 3) := by decide +kernel
theorem dL_law_436 : decode cL_law 436 = .ok (.istore 17, 2) := by decide +kernel
theorem dL_law_438 : decode cL_law 438 = .ok (.iconst 2, 1) := by decide +kernel
theorem dL_law_439 : decode cL_law 439 = .ok (.istore 18, 2) := by decide +kernel
theorem dL_law_441 : decode cL_law 441 = .ok (.iload 18, 2) := by decide +kernel
theorem dL_law_443 : decode cL_law 443 = .ok (.bipush 7, 2) := by decide +kernel
theorem dL_law_445 : decode cL_law 445 = .ok (.if_icmp .ge 136, 3) := by decide +kernel
theorem dL_law_448 : decode cL_law 448 = .ok (.aload_n 1, 1) := by decide +kernel
theorem dL_law_449 : decode cL_law 449 = .ok (.iload 18, 2) := by decide +kernel
theorem dL_law_451 : decode cL_law 451 = .ok (.iconst 2, 1) := by decide +kernel
theorem dL_law_452 : decode cL_law 452 = .ok (.invokevirtual 116, 3) := by decide +kernel
theorem dL_law_455 : decode cL_law 455 = .ok (.istore 19, 2) := by decide +kernel
theorem dL_law_457 : decode cL_law 457 = .ok (.iload 19, 2) := by decide +kernel
theorem dL_law_459 : decode cL_law 459 = .ok (.bipush 8, 2) := by decide +kernel
theorem dL_law_461 : decode cL_law 461 = .ok (.if_icmp .lt 57, 3) := by decide +kernel
theorem dL_law_464 : decode cL_law 464 = .ok (.iload 19, 2) := by decide +kernel
theorem dL_law_466 : decode cL_law 466 = .ok (.bipush 96, 2) := by decide +kernel
theorem dL_law_468 : decode cL_law 468 = .ok (.if_icmp .gt 50, 3) := by decide +kernel
theorem dL_law_471 : decode cL_law 471 = .ok (.aload_n 1, 1) := by decide +kernel
theorem dL_law_472 : decode cL_law 472 = .ok (.iload 18, 2) := by decide +kernel
theorem dL_law_474 : decode cL_law 474 = .ok (.iconst 1, 1) := by decide +kernel
theorem dL_law_475 : decode cL_law 475 = .ok (.invokevirtual 116, 3) := by decide +kernel
theorem dL_law_478 : decode cL_law 478 = .ok (.ifCond .lt 40, 3) := by decide +kernel
theorem dL_law_481 : decode cL_law 481 = .ok (.aload_n 1, 1) := by decide +kernel
theorem dL_law_482 : decode cL_law 482 = .ok (.iload 18, 2) := by decide +kernel
theorem dL_law_484 : decode cL_law 484 = .ok (.iconst 0, 1) := by decide +kernel
theorem dL_law_485 : decode cL_law 485 = .ok (.invokevirtual 116, 3) := by decide +kernel
theorem dL_law_488 : decode cL_law 488 = .ok (.iload 18, 2) := by decide +kernel
theorem dL_law_490 : decode cL_law 490 = .ok (.if_icmp .gt 28, 3) := by decide +kernel
theorem dL_law_493 : decode cL_law 493 = .ok (.iload 18, 2) := by decide +kernel
theorem dL_law_495 : decode cL_law 495 = .ok (.iconst 2, 1) := by decide +kernel
theorem dL_law_496 : decode cL_law 496 = .ok (.if_icmp .le 24, 3) := by decide +kernel
theorem dL_law_499 : decode cL_law 499 = .ok (.aload_n 1, 1) := by decide +kernel
theorem dL_law_500 : decode cL_law 500 = .ok (.iload 18, 2) := by decide +kernel
theorem dL_law_502 : decode cL_law 502 = .ok (.iconst 0, 1) := by decide +kernel
theorem dL_law_503 : decode cL_law 503 = .ok (.invokevirtual 116, 3) := by decide +kernel
theorem dL_law_506 : decode cL_law 506 = .ok (.aload_n 1, 1) := by decide +kernel
theorem dL_law_507 : decode cL_law 507 = .ok (.iload 18, 2) := by decide +kernel
theorem dL_law_509 : decode cL_law 509 = .ok (.iconst 1, 1) := by decide +kernel
theorem dL_law_510 : decode cL_law 510 = .ok (.isub, 1) := by decide +kernel
theorem dL_law_511 : decode cL_law 511 = .ok (.iconst 0, 1) := by decide +kernel
theorem dL_law_512 : decode cL_law 512 = .ok (.invokevirtual 116, 3) := by decide +kernel
theorem dL_law_515 : decode cL_law 515 = .ok (.if_icmp .ge 5, 3) := by decide +kernel
theorem dL_law_518 : decode cL_law 518 = .ok (.iconst 0, 1) := by decide +kernel
theorem dL_law_519 : decode cL_law 519 = .ok (.ireturn, 1) := by decide +kernel
theorem dL_law_520 : decode cL_law 520 = .ok (.iload 19, 2) := by decide +kernel
theorem dL_law_522 : decode cL_law 522 = .ok (.iload 16, 2) := by decide +kernel
theorem dL_law_524 : decode cL_law 524 = .ok (.if_icmp .gt 51, 3) := by decide +kernel
theorem dL_law_527 : decode cL_law 527 = .ok (.iload 17, 2) := by decide +kernel
theorem dL_law_529 : decode cL_law 529 = .ok (.ifCond .lt 44, 3) := by decide +kernel
theorem dL_law_532 : decode cL_law 532 = .ok (.aload_n 1, 1) := by decide +kernel
theorem dL_law_533 : decode cL_law 533 = .ok (.iload 18, 2) := by decide +kernel
theorem dL_law_535 : decode cL_law 535 = .ok (.iconst 1, 1) := by decide +kernel
theorem dL_law_536 : decode cL_law 536 = .ok (.invokevirtual 116, 3) := by decide +kernel
theorem dL_law_539 : decode cL_law 539 = .ok (.aload_n 1, 1) := by decide +kernel
theorem dL_law_540 : decode cL_law 540 = .ok (.iload 17, 2) := by decide +kernel
theorem dL_law_542 : decode cL_law 542 = .ok (.iconst 1, 1) := by decide +kernel
theorem dL_law_543 : decode cL_law 543 = .ok (.invokevirtual 116, 3) := by decide +kernel
theorem dL_law_546 : decode cL_law 546 = .ok (.if_icmp .lt 27, 3) := by decide +kernel
theorem dL_law_549 : decode cL_law 549 = .ok (.iload 18, 2) := by decide +kernel
theorem dL_law_551 : decode cL_law 551 = .ok (.iload 17, 2) := by decide +kernel
theorem dL_law_553 : decode cL_law 553 = .ok (.if_icmp .ge 22, 3) := by decide +kernel
theorem dL_law_556 : decode cL_law 556 = .ok (.aload_n 1, 1) := by decide +kernel
theorem dL_law_557 : decode cL_law 557 = .ok (.iload 18, 2) := by decide +kernel
theorem dL_law_559 : decode cL_law 559 = .ok (.iconst 1, 1) := by decide +kernel
theorem dL_law_560 : decode cL_law 560 = .ok (.invokevirtual 116, 3) := by decide +kernel
theorem dL_law_563 : decode cL_law 563 = .ok (.aload_n 1, 1) := by decide +kernel
theorem dL_law_564 : decode cL_law 564 = .ok (.iload 17, 2) := by decide +kernel
theorem dL_law_566 : decode cL_law 566 = .ok (.iconst 1, 1) := by decide +kernel
