theorem dX5_palette_2 : decode cX5_palette 2 = .ok (.newarray .int, 2) := by decide +kernel
theorem dX5_palette_4 : decode cX5_palette 4 = .ok (.astore_n 2, 1) := by decide +kernel
theorem dX5_palette_5 : decode cX5_palette 5 = .ok (.iconst 0, 1) := by decide +kernel
theorem dX5_palette_6 : decode cX5_palette 6 = .ok (.istore_n 3, 1) := by decide +kernel
theorem dX5_palette_7 : decode cX5_palette 7 = .ok (.iload_n 3, 1) := by decide +kernel
theorem dX5_palette_8 : decode cX5_palette 8 = .ok (.bipush 96, 2) := by decide +kernel
theorem dX5_palette_10 : decode cX5_palette 10 = .ok (.if_icmp .ge 66, 3) := by decide +kernel
theorem dX5_palette_13 : decode cX5_palette 13 = .ok (.aload_n 0, 1) := by decide +kernel
theorem dX5_palette_14 : decode cX5_palette 14 = .ok (.getfield 9, 3) := by decide +kernel
theorem dX5_palette_17 : decode cX5_palette 17 = .ok (.iload_n 3, 1) := by decide +kernel
theorem dX5_palette_18 : decode cX5_palette 18 = .ok (.bipush 12, 2) := by decide +kernel
theorem dX5_palette_20 : decode cX5_palette 20 = .ok (.idiv, 1) := by decide +kernel
theorem dX5_palette_21 : decode cX5_palette 21 = .ok (.aaload, 1) := by decide +kernel
theorem dX5_palette_22 : decode cX5_palette 22 = .ok (.iload_n 3, 1) := by decide +kernel
theorem dX5_palette_23 : decode cX5_palette 23 = .ok (.bipush 12, 2) := by decide +kernel
theorem dX5_palette_25 : decode cX5_palette 25 = .ok (.irem, 1) := by decide +kernel
theorem dX5_palette_26 : decode cX5_palette 26 = .ok (.iaload, 1) := by decide +kernel
theorem dX5_palette_27 : decode cX5_palette 27 = .ok (.istore 4, 2) := by decide +kernel
theorem dX5_palette_29 : decode cX5_palette 29 = .ok (.iload_n 3, 1) := by decide +kernel
theorem dX5_palette_30 : decode cX5_palette 30 = .ok (.istore 5, 2) := by decide +kernel
theorem dX5_palette_32 : decode cX5_palette 32 = .ok (.iload 5, 2) := by decide +kernel
theorem dX5_palette_34 : decode cX5_palette 34 = .ok (.ifCond .le 30, 3) := by decide +kernel
theorem dX5_palette_37 : decode cX5_palette 37 = .ok (.aload_n 2, 1) := by decide +kernel
theorem dX5_palette_38 : decode cX5_palette 38 = .ok (.iload 5, 2) := by decide +kernel
theorem dX5_palette_40 : decode cX5_palette 40 = .ok (.iconst 1, 1) := by decide +kernel
theorem dX5_palette_41 : decode cX5_palette 41 = .ok (.isub, 1) := by decide +kernel
theorem dX5_palette_42 : decode cX5_palette 42 = .ok (.iaload, 1) := by decide +kernel
theorem dX5_palette_43 : decode cX5_palette 43 = .ok (.iload 4, 2) := by decide +kernel
theorem dX5_palette_45 : decode cX5_palette 45 = .ok (.if_icmp .le 19, 3) := by decide +kernel
theorem dX5_palette_48 : decode cX5_palette 48 = .ok (.aload_n 2, 1) := by decide +kernel
theorem dX5_palette_49 : decode cX5_palette 49 = .ok (.iload 5, 2) := by decide +kernel
theorem dX5_palette_51 : decode cX5_palette 51 = .ok (.aload_n 2, 1) := by decide +kernel
theorem dX5_palette_52 : decode cX5_palette 52 = .ok (.iload 5, 2) := by decide +kernel
theorem dX5_palette_54 : decode cX5_palette 54 = .ok (.iconst 1, 1) := by decide +kernel
theorem dX5_palette_55 : decode cX5_palette 55 = .ok (.isub, 1) := by decide +kernel
theorem dX5_palette_56 : decode cX5_palette 56 = .ok (.iaload, 1) := by decide +kernel
theorem dX5_palette_57 : decode cX5_palette 57 = .ok (.iastore, 1) := by decide +kernel
theorem dX5_palette_58 : decode cX5_palette 58 = .ok (.iinc 5 (-1), 3) := by decide +kernel
theorem dX5_palette_61 : decode cX5_palette 61 = .ok (.goto (-29), 3) := by decide +kernel
theorem dX5_palette_64 : decode cX5_palette 64 = .ok (.aload_n 2, 1) := by decide +kernel
theorem dX5_palette_65 : decode cX5_palette 65 = .ok (.iload 5, 2) := by decide +kernel
theorem dX5_palette_67 : decode cX5_palette 67 = .ok (.iload 4, 2) := by decide +kernel
theorem dX5_palette_69 : decode cX5_palette 69 = .ok (.iastore, 1) := by decide +kernel
theorem dX5_palette_70 : decode cX5_palette 70 = .ok (.iinc 3 1, 3) := by decide +kernel
theorem dX5_palette_73 : decode cX5_palette 73 = .ok (.goto (-66), 3) := by decide +kernel
theorem dX5_palette_76 : decode cX5_palette 76 = .ok (.iconst 1, 1) := by decide +kernel
theorem dX5_palette_77 : decode cX5_palette 77 = .ok (.anewarray 28, 3) := by decide +kernel
theorem dX5_palette_80 : decode cX5_palette 80 = .ok (.dup, 1) := by decide +kernel
theorem dX5_palette_81 : decode cX5_palette 81 = .ok (.iconst 0, 1) := by decide +kernel
theorem dX5_palette_82 : decode cX5_palette 82 = .ok (.aload_n 2, 1) := by decide +kernel
theorem dX5_palette_83 : decode cX5_palette 83 = .ok (.aastore, 1) := by decide +kernel
theorem dX5_palette_84 : decode cX5_palette 84 = .ok (.astore_n 3, 1) := by decide +kernel
theorem dX5_palette_85 : decode cX5_palette 85 = .ok (.aload_n 3, 1) := by decide +kernel
theorem dX5_palette_86 : decode cX5_palette 86 = .ok (.arraylength, 1) := by decide +kernel
theorem dX5_palette_87 : decode cX5_palette 87 = .ok (.iload_n 1, 1) := by decide +kernel
theorem dX5_palette_88 : decode cX5_palette 88 = .ok (.if_icmp .ge 171, 3) := by decide +kernel
theorem dX5_palette_91 : decode cX5_palette 91 = .ok (.iconst (-1), 1) := by decide +kernel
theorem dX5_palette_92 : decode cX5_palette 92 = .ok (.istore 4, 2) := by decide +kernel
theorem dX5_palette_94 : decode cX5_palette 94 = .ok (.iconst 0, 1) := by decide +kernel
theorem dX5_palette_95 : decode cX5_palette 95 = .ok (.istore 5, 2) := by decide +kernel
theorem dX5_palette_97 : decode cX5_palette 97 = .ok (.iconst 0, 1) := by decide +kernel
theorem dX5_palette_98 : decode cX5_palette 98 = .ok (.istore 6, 2) := by decide +kernel
theorem dX5_palette_100 : decode cX5_palette 100 = .ok (.iload 6, 2) := by decide +kernel
theorem dX5_palette_102 : decode cX5_palette 102 = .ok (.aload_n 3, 1) := by decide +kernel
theorem dX5_palette_103 : decode cX5_palette 103 = .ok (.arraylength, 1) := by decide +kernel
theorem dX5_palette_104 : decode cX5_palette 104 = .ok (.if_icmp .ge 48, 3) := by decide +kernel
theorem dX5_palette_107 : decode cX5_palette 107 = .ok (.aload_n 3, 1) := by decide +kernel
theorem dX5_palette_108 : decode cX5_palette 108 = .ok (.iload 6, 2) := by decide +kernel
theorem dX5_palette_110 : decode cX5_palette 110 = .ok (.aaload, 1) := by decide +kernel
theorem dX5_palette_111 : decode cX5_palette 111 = .ok (.aload_n 3, 1) := by decide +kernel
theorem dX5_palette_112 : decode cX5_palette 112 = .ok (.iload 6, 2) := by decide +kernel
theorem dX5_palette_114 : decode cX5_palette 114 = .ok (.aaload, 1) := by decide +kernel
theorem dX5_palette_115 : decode cX5_palette 115 = .ok (.arraylength, 1) := by decide +kernel
theorem dX5_palette_116 : decode cX5_palette 116 = .ok (.iconst 1, 1) := by decide +kernel
theorem dX5_palette_117 : decode cX5_palette 117 = .ok (.isub, 1) := by decide +kernel
theorem dX5_palette_118 : decode cX5_palette 118 = .ok (.iaload, 1) := by decide +kernel
theorem dX5_palette_119 : decode cX5_palette 119 = .ok (.aload_n 3, 1) := by decide +kernel
theorem dX5_palette_120 : decode cX5_palette 120 = .ok (.iload 6, 2) := by decide +kernel
theorem dX5_palette_122 : decode cX5_palette 122 = .ok (.aaload, 1) := by decide +kernel
theorem dX5_palette_123 : decode cX5_palette 123 = .ok (.iconst 0, 1) := by decide +kernel
theorem dX5_palette_124 : decode cX5_palette 124 = .ok (.iaload, 1) := by decide +kernel
theorem dX5_palette_125 : decode cX5_palette 125 = .ok (.isub, 1) := by decide +kernel
theorem dX5_palette_126 : decode cX5_palette 126 = .ok (.istore 7, 2) := by decide +kernel
theorem dX5_palette_128 : decode cX5_palette 128 = .ok (.iload 7, 2) := by decide +kernel
theorem dX5_palette_130 : decode cX5_palette 130 = .ok (.iload 5, 2) := by decide +kernel
theorem dX5_palette_132 : decode cX5_palette 132 = .ok (.if_icmp .gt 6, 3) := by decide +kernel
theorem dX5_palette_135 : decode cX5_palette 135 = .ok (.goto 11, 3) := by decide +kernel
theorem dX5_palette_138 : decode cX5_palette 138 = .ok (.iload 6, 2) := by decide +kernel
theorem dX5_palette_140 : decode cX5_palette 140 = .ok (.istore 4, 2) := by decide +kernel
theorem dX5_palette_142 : decode cX5_palette 142 = .ok (.iload 7, 2) := by decide +kernel
theorem dX5_palette_144 : decode cX5_palette 144 = .ok (.istore 5, 2) := by decide +kernel
theorem dX5_palette_146 : decode cX5_palette 146 = .ok (.iinc 6 1, 3) := by decide +kernel
theorem dX5_palette_149 : decode cX5_palette 149 = .ok (.goto (-49), 3) := by decide +kernel
theorem dX5_palette_152 : decode cX5_palette 152 = .ok (.iload 4, 2) := by decide +kernel
theorem dX5_palette_154 : decode cX5_palette 154 = .ok (.ifCond .ge 6, 3) := by decide +kernel
theorem dX5_palette_157 : decode cX5_palette 157 = .ok (.goto 102, 3) := by decide +kernel
theorem dX5_palette_160 : decode cX5_palette 160 = .ok (.aload_n 3, 1) := by decide +kernel
theorem dX5_palette_161 : decode cX5_palette 161 = .ok (.arraylength, 1) := by decide +kernel
theorem dX5_palette_162 : decode cX5_palette 162 = .ok (.iconst 1, 1) := by decide +kernel
theorem dX5_palette_163 : decode cX5_palette 163 = .ok (.iadd, 1) := by decide +kernel
theorem dX5_palette_164 : decode cX5_palette 164 = .ok (.anewarray 28, 3) := by decide +kernel
theorem dX5_palette_167 : decode cX5_palette 167 = .ok (.astore 6, 2) := by decide +kernel
theorem dX5_palette_169 : decode cX5_palette 169 = .ok (.iconst 0, 1) := by decide +kernel
theorem dX5_palette_170 : decode cX5_palette 170 = .ok (.istore 7, 2) := by decide +kernel
theorem dX5_palette_172 : decode cX5_palette 172 = .ok (.iload 7, 2) := by decide +kernel
theorem dX5_palette_174 : decode cX5_palette 174 = .ok (.aload_n 3, 1) := by decide +kernel
theorem dX5_palette_175 : decode cX5_palette 175 = .ok (.arraylength, 1) := by decide +kernel
theorem dX5_palette_176 : decode cX5_palette 176 = .ok (.if_icmp .ge 32, 3) := by decide +kernel
theorem dX5_palette_179 : decode cX5_palette 179 = .ok (.aload 6, 2) := by decide +kernel
theorem dX5_palette_181 : decode cX5_palette 181 = .ok (.iload 7, 2) := by decide +kernel
theorem dX5_palette_183 : decode cX5_palette 183 = .ok (.iload 4, 2) := by decide +kernel
theorem dX5_palette_185 : decode cX5_palette 185 = .ok (.if_icmp .gt 8, 3) := by decide +kernel
theorem dX5_palette_188 : decode cX5_palette 188 = .ok (.iload 7, 2) := by decide +kernel
theorem dX5_palette_190 : decode cX5_palette 190 = .ok (.goto 7, 3) := by decide +kernel
theorem dX5_palette_193 : decode cX5_palette 193 = .ok (.iload 7, 2) := by decide +kernel
theorem dX5_palette_195 : decode cX5_palette 195 = .ok (.iconst 1, 1) := by decide +kernel
theorem dX5_palette_196 : decode cX5_palette 196 = .ok (.iadd, 1) := by decide +kernel
theorem dX5_palette_197 : decode cX5_palette 197 = .ok (.aload_n 3, 1) := by decide +kernel
theorem dX5_palette_198 : decode cX5_palette 198 = .ok (.iload 7, 2) := by decide +kernel
theorem dX5_palette_200 : decode cX5_palette 200 = .ok (.aaload, 1) := by decide +kernel
theorem dX5_palette_201 : decode cX5_palette 201 = .ok (.aastore, 1) := by decide +kernel
theorem dX5_palette_202 : decode cX5_palette 202 = .ok (.iinc 7 1, 3) := by decide +kernel
theorem dX5_palette_205 : decode cX5_palette 205 = .ok (.goto (-33), 3) := by decide +kernel
theorem dX5_palette_208 : decode cX5_palette 208 = .ok (.aload_n 3, 1) := by decide +kernel
theorem dX5_palette_209 : decode cX5_palette 209 = .ok (.iload 4, 2) := by decide +kernel
theorem dX5_palette_211 : decode cX5_palette 211 = .ok (.aaload, 1) := by decide +kernel
theorem dX5_palette_212 : decode cX5_palette 212 = .ok (.arraylength, 1) := by decide +kernel
theorem dX5_palette_213 : decode cX5_palette 213 = .ok (.iconst 2, 1) := by decide +kernel
theorem dX5_palette_214 : decode cX5_palette 214 = .ok (.idiv, 1) := by decide +kernel
theorem dX5_palette_215 : decode cX5_palette 215 = .ok (.istore 7, 2) := by decide +kernel
theorem dX5_palette_217 : decode cX5_palette 217 = .ok (.aload 6, 2) := by decide +kernel
theorem dX5_palette_219 : decode cX5_palette 219 = .ok (.iload 4, 2) := by decide +kernel
theorem dX5_palette_221 : decode cX5_palette 221 = .ok (.aload_n 3, 1) := by decide +kernel
theorem dX5_palette_222 : decode cX5_palette 222 = .ok (.iload 4, 2) := by decide +kernel
theorem dX5_palette_224 : decode cX5_palette 224 = .ok (.aaload, 1) := by decide +kernel
theorem dX5_palette_225 : decode cX5_palette 225 = .ok (.iconst 0, 1) := by decide +kernel
theorem dX5_palette_226 : decode cX5_palette 226 = .ok (.iload 7, 2) := by decide +kernel
theorem dX5_palette_228 : decode cX5_palette 228 = .ok (.invokestatic 32, 3) := by decide +kernel
theorem dX5_palette_231 : decode cX5_palette 231 = .ok (.aastore, 1) := by decide +kernel
theorem dX5_palette_232 : decode cX5_palette 232 = .ok (.aload 6, 2) := by decide +kernel
theorem dX5_palette_234 : decode cX5_palette 234 = .ok (.iload 4, 2) := by decide +kernel
theorem dX5_palette_236 : decode cX5_palette 236 = .ok (.iconst 1, 1) := by decide +kernel
theorem dX5_palette_237 : decode cX5_palette 237 = .ok (.iadd, 1) := by decide +kernel
theorem dX5_palette_238 : decode cX5_palette 238 = .ok (.aload_n 3, 1) := by decide +kernel
theorem dX5_palette_239 : decode cX5_palette 239 = .ok (.iload 4, 2) := by decide +kernel
theorem dX5_palette_241 : decode cX5_palette 241 = .ok (.aaload, 1) := by decide +kernel
theorem dX5_palette_242 : decode cX5_palette 242 = .ok (.iload 7, 2) := by decide +kernel
theorem dX5_palette_244 : decode cX5_palette 244 = .ok (.aload_n 3, 1) := by decide +kernel
theorem dX5_palette_245 : decode cX5_palette 245 = .ok (.iload 4, 2) := by decide +kernel
theorem dX5_palette_247 : decode cX5_palette 247 = .ok (.aaload, 1) := by decide +kernel
theorem dX5_palette_248 : decode cX5_palette 248 = .ok (.arraylength, 1) := by decide +kernel
theorem dX5_palette_249 : decode cX5_palette 249 = .ok (.invokestatic 32, 3) := by decide +kernel
theorem dX5_palette_252 : decode cX5_palette 252 = .ok (.aastore, 1) := by decide +kernel
theorem dX5_palette_253 : decode cX5_palette 253 = .ok (.aload 6, 2) := by decide +kernel
theorem dX5_palette_255 : decode cX5_palette 255 = .ok (.astore_n 3, 1) := by decide +kernel
theorem dX5_palette_256 : decode cX5_palette 256 = .ok (.goto (-171), 3) := by decide +kernel
theorem dX5_palette_259 : decode cX5_palette 259 = .ok (.aload_n 3, 1) := by decide +kernel
theorem dX5_palette_260 : decode cX5_palette 260 = .ok (.arraylength, 1) := by decide +kernel
theorem dX5_palette_261 : decode cX5_palette 261 = .ok (.newarray .int, 2) := by decide +kernel
theorem dX5_palette_263 : decode cX5_palette 263 = .ok (.astore 4, 2) := by decide +kernel
theorem dX5_palette_265 : decode cX5_palette 265 = .ok (.iconst 0, 1) := by decide +kernel
theorem dX5_palette_266 : decode cX5_palette 266 = .ok (.istore 5, 2) := by decide +kernel
theorem dX5_palette_268 : decode cX5_palette 268 = .ok (.iload 5, 2) := by decide +kernel
theorem dX5_palette_270 : decode cX5_palette 270 = .ok (.aload 4, 2) := by decide +kernel
theorem dX5_palette_272 : decode cX5_palette 272 = .ok (.arraylength, 1) := by decide +kernel
theorem dX5_palette_273 : decode cX5_palette 273 = .ok (.if_icmp .ge 66, 3) := by decide +kernel
theorem dX5_palette_276 : decode cX5_palette 276 = .ok (.aload_n 3, 1) := by decide +kernel
theorem dX5_palette_277 : decode cX5_palette 277 = .ok (.iload 5, 2) := by decide +kernel
theorem dX5_palette_279 : decode cX5_palette 279 = .ok (.aaload, 1) := by decide +kernel
theorem dX5_palette_280 : decode cX5_palette 280 = .ok (.astore 6, 2) := by decide +kernel
theorem dX5_palette_282 : decode cX5_palette 282 = .ok (.aload 6, 2) := by decide +kernel
theorem dX5_palette_284 : decode cX5_palette 284 = .ok (.arraylength, 1) := by decide +kernel
theorem dX5_palette_285 : decode cX5_palette 285 = .ok (.istore 7, 2) := by decide +kernel
theorem dX5_palette_287 : decode cX5_palette 287 = .ok (.iconst 0, 1) := by decide +kernel
theorem dX5_palette_288 : decode cX5_palette 288 = .ok (.istore 8, 2) := by decide +kernel
theorem dX5_palette_290 : decode cX5_palette 290 = .ok (.iload 8, 2) := by decide +kernel
theorem dX5_palette_292 : decode cX5_palette 292 = .ok (.iload 7, 2) := by decide +kernel
theorem dX5_palette_294 : decode cX5_palette 294 = .ok (.if_icmp .ge 26, 3) := by decide +kernel
theorem dX5_palette_297 : decode cX5_palette 297 = .ok (.aload 6, 2) := by decide +kernel
theorem dX5_palette_299 : decode cX5_palette 299 = .ok (.iload 8, 2) := by decide +kernel
theorem dX5_palette_301 : decode cX5_palette 301 = .ok (.iaload, 1) := by decide +kernel
theorem dX5_palette_302 : decode cX5_palette 302 = .ok (.istore 9, 2) := by decide +kernel
theorem dX5_palette_304 : decode cX5_palette 304 = .ok (.aload 4, 2) := by decide +kernel
theorem dX5_palette_306 : decode cX5_palette 306 = .ok (.iload 5, 2) := by decide +kernel
theorem dX5_palette_308 : decode cX5_palette 308 = .ok (.dup2, 1) := by decide +kernel
theorem dX5_palette_309 : decode cX5_palette 309 = .ok (.iaload, 1) := by decide +kernel
theorem dX5_palette_310 : decode cX5_palette 310 = .ok (.iload 9, 2) := by decide +kernel
theorem dX5_palette_312 : decode cX5_palette 312 = .ok (.iadd, 1) := by decide +kernel
theorem dX5_palette_313 : decode cX5_palette 313 = .ok (.iastore, 1) := by decide +kernel
theorem dX5_palette_314 : decode cX5_palette 314 = .ok (.iinc 8 1, 3) := by decide +kernel
theorem dX5_palette_317 : decode cX5_palette 317 = .ok (.goto (-27), 3) := by decide +kernel
theorem dX5_palette_320 : decode cX5_palette 320 = .ok (.aload 4, 2) := by decide +kernel
theorem dX5_palette_322 : decode cX5_palette 322 = .ok (.iload 5, 2) := by decide +kernel
theorem dX5_palette_324 : decode cX5_palette 324 = .ok (.dup2, 1) := by decide +kernel
theorem dX5_palette_325 : decode cX5_palette 325 = .ok (.iaload, 1) := by decide +kernel
theorem dX5_palette_326 : decode cX5_palette 326 = .ok (.aload_n 3, 1) := by decide +kernel
theorem dX5_palette_327 : decode cX5_palette 327 = .ok (.iload 5, 2) := by decide +kernel
theorem dX5_palette_329 : decode cX5_palette 329 = .ok (.aaload, 1) := by decide +kernel
theorem dX5_palette_330 : decode cX5_palette 330 = .ok (.arraylength, 1) := by decide +kernel
theorem dX5_palette_331 : decode cX5_palette 331 = .ok (.idiv, 1) := by decide +kernel
theorem dX5_palette_332 : decode cX5_palette 332 = .ok (.iastore, 1) := by decide +kernel
theorem dX5_palette_333 : decode cX5_palette 333 = .ok (.iinc 5 1, 3) := by decide +kernel
theorem dX5_palette_336 : decode cX5_palette 336 = .ok (.goto (-68), 3) := by decide +kernel
theorem dX5_palette_339 : decode cX5_palette 339 = .ok (.aload 4, 2) := by decide +kernel
theorem dX5_palette_341 : decode cX5_palette 341 = .ok (.areturn, 1) := by decide +kernel
theorem dX5_cloth_0 : decode cX5_cloth 0 = .ok (.bipush 8, 2) := by decide +kernel
theorem dX5_cloth_2 : decode cX5_cloth 2 = .ok (.bipush 12, 2) := by decide +kernel
theorem dX5_cloth_4 : decode cX5_cloth 4 = .ok (.multianewarray 7 2, 4) := by decide +kernel
theorem dX5_cloth_8 : decode cX5_cloth 8 = .ok (.astore_n 2, 1) := by decide +kernel
theorem dX5_cloth_9 : decode cX5_cloth 9 = .ok (.bipush 9, 2) := by decide +kernel
theorem dX5_cloth_11 : decode cX5_cloth 11 = .ok (.bipush 14, 2) := by decide +kernel
theorem dX5_cloth_13 : decode cX5_cloth 13 = .ok (.multianewarray 7 2, 4) := by decide +kernel
theorem dX5_cloth_17 : decode cX5_cloth 17 = .ok (.astore_n 3, 1) := by decide +kernel
theorem dX5_cloth_18 : decode cX5_cloth 18 = .ok (.iconst 0, 1) := by decide +kernel
theorem dX5_cloth_19 : decode cX5_cloth 19 = .ok (.istore 4, 2) := by decide +kernel
theorem dX5_cloth_21 : decode cX5_cloth 21 = .ok (.iload 4, 2) := by decide +kernel
theorem dX5_cloth_23 : decode cX5_cloth 23 = .ok (.bipush 8, 2) := by decide +kernel
theorem dX5_cloth_25 : decode cX5_cloth 25 = .ok (.if_icmp .ge 44, 3) := by decide +kernel
theorem dX5_cloth_28 : decode cX5_cloth 28 = .ok (.iconst 0, 1) := by decide +kernel
theorem dX5_cloth_29 : decode cX5_cloth 29 = .ok (.istore 5, 2) := by decide +kernel
theorem dX5_cloth_31 : decode cX5_cloth 31 = .ok (.iload 5, 2) := by decide +kernel
theorem dX5_cloth_33 : decode cX5_cloth 33 = .ok (.bipush 12, 2) := by decide +kernel
theorem dX5_cloth_35 : decode cX5_cloth 35 = .ok (.if_icmp .ge 28, 3) := by decide +kernel
theorem dX5_cloth_38 : decode cX5_cloth 38 = .ok (.aload_n 3, 1) := by decide +kernel
theorem dX5_cloth_39 : decode cX5_cloth 39 = .ok (.iload 4, 2) := by decide +kernel
theorem dX5_cloth_41 : decode cX5_cloth 41 = .ok (.aaload, 1) := by decide +kernel
theorem dX5_cloth_42 : decode cX5_cloth 42 = .ok (.iload 5, 2) := by decide +kernel
theorem dX5_cloth_44 : decode cX5_cloth 44 = .ok (.iconst 1, 1) := by decide +kernel
theorem dX5_cloth_45 : decode cX5_cloth 45 = .ok (.iadd, 1) := by decide +kernel
theorem dX5_cloth_46 : decode cX5_cloth 46 = .ok (.aload_n 0, 1) := by decide +kernel
theorem dX5_cloth_47 : decode cX5_cloth 47 = .ok (.getfield 9, 3) := by decide +kernel
theorem dX5_cloth_50 : decode cX5_cloth 50 = .ok (.iload 4, 2) := by decide +kernel
theorem dX5_cloth_52 : decode cX5_cloth 52 = .ok (.aaload, 1) := by decide +kernel
theorem dX5_cloth_53 : decode cX5_cloth 53 = .ok (.iload 5, 2) := by decide +kernel
theorem dX5_cloth_55 : decode cX5_cloth 55 = .ok (.iaload, 1) := by decide +kernel
theorem dX5_cloth_56 : decode cX5_cloth 56 = .ok (.iastore, 1) := by decide +kernel
theorem dX5_cloth_57 : decode cX5_cloth 57 = .ok (.iinc 5 1, 3) := by decide +kernel
theorem dX5_cloth_60 : decode cX5_cloth 60 = .ok (.goto (-29), 3) := by decide +kernel
theorem dX5_cloth_63 : decode cX5_cloth 63 = .ok (.iinc 4 1, 3) := by decide +kernel
theorem dX5_cloth_66 : decode cX5_cloth 66 = .ok (.goto (-45), 3) := by decide +kernel
theorem dX5_cloth_69 : decode cX5_cloth 69 = .ok (.iconst 0, 1) := by decide +kernel
theorem dX5_cloth_70 : decode cX5_cloth 70 = .ok (.istore 4, 2) := by decide +kernel
theorem dX5_cloth_72 : decode cX5_cloth 72 = .ok (.iload 4, 2) := by decide +kernel
theorem dX5_cloth_74 : decode cX5_cloth 74 = .ok (.bipush 8, 2) := by decide +kernel
theorem dX5_cloth_76 : decode cX5_cloth 76 = .ok (.if_icmp .ge 302, 3) := by decide +kernel
theorem dX5_cloth_79 : decode cX5_cloth 79 = .ok (.aload_n 0, 1) := by decide +kernel
theorem dX5_cloth_80 : decode cX5_cloth 80 = .ok (.getfield 36, 3) := by decide +kernel
theorem dX5_cloth_83 : decode cX5_cloth 83 = .ok (.ifCond .eq 15, 3) := by decide +kernel
theorem dX5_cloth_86 : decode cX5_cloth 86 = .ok (.iload 4, 2) := by decide +kernel
theorem dX5_cloth_88 : decode cX5_cloth 88 = .ok (.iconst 2, 1) := by decide +kernel
theorem dX5_cloth_89 : decode cX5_cloth 89 = .ok (.irem, 1) := by decide +kernel
theorem dX5_cloth_90 : decode cX5_cloth 90 = .ok (.iconst 1, 1) := by decide +kernel
theorem dX5_cloth_91 : decode cX5_cloth 91 = .ok (.if_icmp .ne 7, 3) := by decide +kernel
theorem dX5_cloth_94 : decode cX5_cloth 94 = .ok (.iconst (-1), 1) := by decide +kernel
theorem dX5_cloth_95 : decode cX5_cloth 95 = .ok (.goto 4, 3) := by decide +kernel
theorem dX5_cloth_98 : decode cX5_cloth 98 = .ok (.iconst 1, 1) := by decide +kernel
theorem dX5_cloth_99 : decode cX5_cloth 99 = .ok (.istore 5, 2) := by decide +kernel
theorem dX5_cloth_101 : decode cX5_cloth 101 = .ok (.iload 5, 2) := by decide +kernel
theorem dX5_cloth_103 : decode cX5_cloth 103 = .ok (.ifCond .le 7, 3) := by decide +kernel
theorem dX5_cloth_106 : decode cX5_cloth 106 = .ok (.iconst 1, 1) := by decide +kernel
theorem dX5_cloth_107 : decode cX5_cloth 107 = .ok (.goto 5, 3) := by decide +kernel
theorem dX5_cloth_110 : decode cX5_cloth 110 = .ok (.bipush 12, 2) := by decide +kernel
theorem dX5_cloth_112 : decode cX5_cloth 112 = .ok (.istore 6, 2) := by decide +kernel
theorem dX5_cloth_114 : decode cX5_cloth 114 = .ok (.iload 6, 2) := by decide +kernel
theorem dX5_cloth_116 : decode cX5_cloth 116 = .ok (.ifCond .le 256, 3) := by decide +kernel
theorem dX5_cloth_119 : decode cX5_cloth 119 = .ok (.iload 6, 2) := by decide +kernel
theorem dX5_cloth_121 : decode cX5_cloth 121 = .ok (.bipush 13, 2) := by decide +kernel
theorem dX5_cloth_123 : decode cX5_cloth 123 = .ok (.if_icmp .ge 249, 3) := by decide +kernel
theorem dX5_cloth_126 : decode cX5_cloth 126 = .ok (.iconst 0, 1) := by decide +kernel
theorem dX5_cloth_127 : decode cX5_cloth 127 = .ok (.istore 7, 2) := by decide +kernel
theorem dX5_cloth_129 : decode cX5_cloth 129 = .ok (.aload_n 1, 1) := by decide +kernel
theorem dX5_cloth_130 : decode cX5_cloth 130 = .ok (.arraylength, 1) := by decide +kernel
theorem dX5_cloth_131 : decode cX5_cloth 131 = .ok (.iconst 1, 1) := by decide +kernel
theorem dX5_cloth_132 : decode cX5_cloth 132 = .ok (.isub, 1) := by decide +kernel
theorem dX5_cloth_133 : decode cX5_cloth 133 = .ok (.istore 8, 2) := by decide +kernel
theorem dX5_cloth_135 : decode cX5_cloth 135 = .ok (.iload 8, 2) := by decide +kernel
theorem dX5_cloth_137 : decode cX5_cloth 137 = .ok (.ifCond .lt 46, 3) := by decide +kernel
theorem dX5_cloth_140 : decode cX5_cloth 140 = .ok (.aload_n 3, 1) := by decide +kernel
theorem dX5_cloth_141 : decode cX5_cloth 141 = .ok (.iload 4, 2) := by decide +kernel
theorem dX5_cloth_143 : decode cX5_cloth 143 = .ok (.aaload, 1) := by decide +kernel
theorem dX5_cloth_144 : decode cX5_cloth 144 = .ok (.iload 6, 2) := by decide +kernel
theorem dX5_cloth_146 : decode cX5_cloth 146 = .ok (.iaload, 1) := by decide +kernel
theorem dX5_cloth_147 : decode cX5_cloth 147 = .ok (.aload_n 1, 1) := by decide +kernel
theorem dX5_cloth_148 : decode cX5_cloth 148 = .ok (.iload 8, 2) := by decide +kernel
theorem dX5_cloth_150 : decode cX5_cloth 150 = .ok (.iaload, 1) := by decide +kernel
theorem dX5_cloth_151 : decode cX5_cloth 151 = .ok (.isub, 1) := by decide +kernel
theorem dX5_cloth_152 : decode cX5_cloth 152 = .ok (.invokestatic 40, 3) := by decide +kernel
theorem dX5_cloth_155 : decode cX5_cloth 155 = .ok (.aload_n 3, 1) := by decide +kernel
theorem dX5_cloth_156 : decode cX5_cloth 156 = .ok (.iload 4, 2) := by decide +kernel
theorem dX5_cloth_158 : decode cX5_cloth 158 = .ok (.aaload, 1) := by decide +kernel
theorem dX5_cloth_159 : decode cX5_cloth 159 = .ok (.iload 6, 2) := by decide +kernel
theorem dX5_cloth_161 : decode cX5_cloth 161 = .ok (.iaload, 1) := by decide +kernel
theorem dX5_cloth_162 : decode cX5_cloth 162 = .ok (.aload_n 1, 1) := by decide +kernel
theorem dX5_cloth_163 : decode cX5_cloth 163 = .ok (.iload 7, 2) := by decide +kernel
theorem dX5_cloth_165 : decode cX5_cloth 165 = .ok (.iaload, 1) := by decide +kernel
theorem dX5_cloth_166 : decode cX5_cloth 166 = .ok (.isub, 1) := by decide +kernel
theorem dX5_cloth_167 : decode cX5_cloth 167 = .ok (.invokestatic 40, 3) := by decide +kernel
theorem dX5_cloth_170 : decode cX5_cloth 170 = .ok (.if_icmp .gt 7, 3) := by decide +kernel
theorem dX5_cloth_173 : decode cX5_cloth 173 = .ok (.iload 8, 2) := by decide +kernel
theorem dX5_cloth_175 : decode cX5_cloth 175 = .ok (.istore 7, 2) := by decide +kernel
theorem dX5_cloth_177 : decode cX5_cloth 177 = .ok (.iinc 8 (-1), 3) := by decide +kernel
theorem dX5_cloth_180 : decode cX5_cloth 180 = .ok (.goto (-45), 3) := by decide +kernel
theorem dX5_cloth_183 : decode cX5_cloth 183 = .ok (.aload_n 2, 1) := by decide +kernel
theorem dX5_cloth_184 : decode cX5_cloth 184 = .ok (.iload 4, 2) := by decide +kernel
theorem dX5_cloth_186 : decode cX5_cloth 186 = .ok (.aaload, 1) := by decide +kernel
theorem dX5_cloth_187 : decode cX5_cloth 187 = .ok (.iload 6, 2) := by decide +kernel
theorem dX5_cloth_189 : decode cX5_cloth 189 = .ok (.iconst 1, 1) := by decide +kernel
theorem dX5_cloth_190 : decode cX5_cloth 190 = .ok (.isub, 1) := by decide +kernel
theorem dX5_cloth_191 : decode cX5_cloth 191 = .ok (.iload 7, 2) := by decide +kernel
theorem dX5_cloth_193 : decode cX5_cloth 193 = .ok (.iastore, 1) := by decide +kernel
theorem dX5_cloth_194 : decode cX5_cloth 194 = .ok (.aload_n 3, 1) := by decide +kernel
theorem dX5_cloth_195 : decode cX5_cloth 195 = .ok (.iload 4, 2) := by decide +kernel
theorem dX5_cloth_197 : decode cX5_cloth 197 = .ok (.aaload, 1) := by decide +kernel
theorem dX5_cloth_198 : decode cX5_cloth 198 = .ok (.iload 6, 2) := by decide +kernel
theorem dX5_cloth_200 : decode cX5_cloth 200 = .ok (.iaload, 1) := by decide +kernel
theorem dX5_cloth_201 : decode cX5_cloth 201 = .ok (.aload_n 1, 1) := by decide +kernel
theorem dX5_cloth_202 : decode cX5_cloth 202 = .ok (.iload 7, 2) := by decide +kernel
theorem dX5_cloth_204 : decode cX5_cloth 204 = .ok (.iaload, 1) := by decide +kernel
theorem dX5_cloth_205 : decode cX5_cloth 205 = .ok (.isub, 1) := by decide +kernel
theorem dX5_cloth_206 : decode cX5_cloth 206 = .ok (.istore 8, 2) := by decide +kernel
theorem dX5_cloth_208 : decode cX5_cloth 208 = .ok (.aload_n 0, 1) := by decide +kernel
theorem dX5_cloth_209 : decode cX5_cloth 209 = .ok (.getfield 18, 3) := by decide +kernel
theorem dX5_cloth_212 : decode cX5_cloth 212 = .ok (.iconst 1, 1) := by decide +kernel
theorem dX5_cloth_213 : decode cX5_cloth 213 = .ok (.if_icmp .ne 18, 3) := by decide +kernel
theorem dX5_cloth_216 : decode cX5_cloth 216 = .ok (.aload_n 3, 1) := by decide +kernel
theorem dX5_cloth_217 : decode cX5_cloth 217 = .ok (.iload 4, 2) := by decide +kernel
theorem dX5_cloth_219 : decode cX5_cloth 219 = .ok (.aaload, 1) := by decide +kernel
theorem dX5_cloth_220 : decode cX5_cloth 220 = .ok (.iload 6, 2) := by decide +kernel
theorem dX5_cloth_222 : decode cX5_cloth 222 = .ok (.iload 5, 2) := by decide +kernel
theorem dX5_cloth_224 : decode cX5_cloth 224 = .ok (.iadd, 1) := by decide +kernel
theorem dX5_cloth_225 : decode cX5_cloth 225 = .ok (.dup2, 1) := by decide +kernel
theorem dX5_cloth_226 : decode cX5_cloth 226 = .ok (.iaload, 1) := by decide +kernel
theorem dX5_cloth_227 : decode cX5_cloth 227 = .ok (.iload 8, 2) := by decide +kernel
theorem dX5_cloth_229 : decode cX5_cloth 229 = .ok (.iadd, 1) := by decide +kernel
theorem dX5_cloth_230 : decode cX5_cloth 230 = .ok (.iastore, 1) := by decide +kernel
theorem dX5_cloth_231 : decode cX5_cloth 231 = .ok (.aload_n 0, 1) := by decide +kernel
theorem dX5_cloth_232 : decode cX5_cloth 232 = .ok (.getfield 18, 3) := by decide +kernel
theorem dX5_cloth_235 : decode cX5_cloth 235 = .ok (.iconst 2, 1) := by decide +kernel
theorem dX5_cloth_236 : decode cX5_cloth 236 = .ok (.if_icmp .eq 6, 3) := by decide +kernel
theorem dX5_cloth_239 : decode cX5_cloth 239 = .ok (.goto 123, 3) := by decide +kernel
theorem dX5_cloth_242 : decode cX5_cloth 242 = .ok (.iconst 3, 1) := by decide +kernel
theorem dX5_cloth_243 : decode cX5_cloth 243 = .ok (.newarray .int, 2) := by decide +kernel
theorem dX5_cloth_245 : decode cX5_cloth 245 = .ok (.dup, 1) := by decide +kernel
theorem dX5_cloth_246 : decode cX5_cloth 246 = .ok (.iconst 0, 1) := by decide +kernel
theorem dX5_cloth_247 : decode cX5_cloth 247 = .ok (.iload 8, 2) := by decide +kernel
theorem dX5_cloth_249 : decode cX5_cloth 249 = .ok (.bipush 7, 2) := by decide +kernel
theorem dX5_cloth_251 : decode cX5_cloth 251 = .ok (.imul, 1) := by decide +kernel
theorem dX5_cloth_252 : decode cX5_cloth 252 = .ok (.bipush 16, 2) := by decide +kernel
theorem dX5_cloth_254 : decode cX5_cloth 254 = .ok (.idiv, 1) := by decide +kernel
theorem dX5_cloth_255 : decode cX5_cloth 255 = .ok (.iastore, 1) := by decide +kernel
theorem dX5_cloth_256 : decode cX5_cloth 256 = .ok (.dup, 1) := by decide +kernel
theorem dX5_cloth_257 : decode cX5_cloth 257 = .ok (.iconst 1, 1) := by decide +kernel
theorem dX5_cloth_258 : decode cX5_cloth 258 = .ok (.iload 8, 2) := by decide +kernel
theorem dX5_cloth_260 : decode cX5_cloth 260 = .ok (.iconst 3, 1) := by decide +kernel
theorem dX5_cloth_261 : decode cX5_cloth 261 = .ok (.imul, 1) := by decide +kernel
theorem dX5_cloth_262 : decode cX5_cloth 262 = .ok (.bipush 16, 2) := by decide +kernel
theorem dX5_cloth_264 : decode cX5_cloth 264 = .ok (.idiv, 1) := by decide +kernel
theorem dX5_cloth_265 : decode cX5_cloth 265 = .ok (.iastore, 1) := by decide +kernel
theorem dX5_cloth_266 : decode cX5_cloth 266 = .ok (.dup, 1) := by decide +kernel
theorem dX5_cloth_267 : decode cX5_cloth 267 = .ok (.iconst 2, 1) := by decide +kernel
theorem dX5_cloth_268 : decode cX5_cloth 268 = .ok (.iload 8, 2) := by decide +kernel
theorem dX5_cloth_270 : decode cX5_cloth 270 = .ok (.iconst 5, 1) := by decide +kernel
theorem dX5_cloth_271 : decode cX5_cloth 271 = .ok (.imul, 1) := by decide +kernel
theorem dX5_cloth_272 : decode cX5_cloth 272 = .ok (.bipush 16, 2) := by decide +kernel
theorem dX5_cloth_274 : decode cX5_cloth 274 = .ok (.idiv, 1) := by decide +kernel
theorem dX5_cloth_275 : decode cX5_cloth 275 = .ok (.iastore, 1) := by decide +kernel
theorem dX5_cloth_276 : decode cX5_cloth 276 = .ok (.astore 9, 2) := by decide +kernel
theorem dX5_cloth_278 : decode cX5_cloth 278 = .ok (.aload_n 3, 1) := by decide +kernel
theorem dX5_cloth_279 : decode cX5_cloth 279 = .ok (.iload 4, 2) := by decide +kernel
theorem dX5_cloth_281 : decode cX5_cloth 281 = .ok (.aaload, 1) := by decide +kernel
theorem dX5_cloth_282 : decode cX5_cloth 282 = .ok (.iload 6, 2) := by decide +kernel
theorem dX5_cloth_284 : decode cX5_cloth 284 = .ok (.iload 5, 2) := by decide +kernel
theorem dX5_cloth_286 : decode cX5_cloth 286 = .ok (.iadd, 1) := by decide +kernel
theorem dX5_cloth_287 : decode cX5_cloth 287 = .ok (.dup2, 1) := by decide +kernel
theorem dX5_cloth_288 : decode cX5_cloth 288 = .ok (.iaload, 1) := by decide +kernel
theorem dX5_cloth_289 : decode cX5_cloth 289 = .ok (.aload 9, 2) := by decide +kernel
theorem dX5_cloth_291 : decode cX5_cloth 291 = .ok (.iconst 0, 1) := by decide +kernel
theorem dX5_cloth_292 : decode cX5_cloth 292 = .ok (.iaload, 1) := by decide +kernel
theorem dX5_cloth_293 : decode cX5_cloth 293 = .ok (.iadd, 1) := by decide +kernel
theorem dX5_cloth_294 : decode cX5_cloth 294 = .ok (.iastore, 1) := by decide +kernel
theorem dX5_cloth_295 : decode cX5_cloth 295 = .ok (.aload_n 3, 1) := by decide +kernel
theorem dX5_cloth_296 : decode cX5_cloth 296 = .ok (.iload 4, 2) := by decide +kernel
theorem dX5_cloth_298 : decode cX5_cloth 298 = .ok (.iconst 1, 1) := by decide +kernel
theorem dX5_cloth_299 : decode cX5_cloth 299 = .ok (.iadd, 1) := by decide +kernel
theorem dX5_cloth_300 : decode cX5_cloth 300 = .ok (.aaload, 1) := by decide +kernel
theorem dX5_cloth_301 : decode cX5_cloth 301 = .ok (.iload 6, 2) := by decide +kernel
theorem dX5_cloth_303 : decode cX5_cloth 303 = .ok (.iload 5, 2) := by decide +kernel
theorem dX5_cloth_305 : decode cX5_cloth 305 = .ok (.isub, 1) := by decide +kernel
theorem dX5_cloth_306 : decode cX5_cloth 306 = .ok (.dup2, 1) := by decide +kernel
theorem dX5_cloth_307 : decode cX5_cloth 307 = .ok (.iaload, 1) := by decide +kernel
theorem dX5_cloth_308 : decode cX5_cloth 308 = .ok (.aload 9, 2) := by decide +kernel
theorem dX5_cloth_310 : decode cX5_cloth 310 = .ok (.iconst 1, 1) := by decide +kernel
theorem dX5_cloth_311 : decode cX5_cloth 311 = .ok (.iaload, 1) := by decide +kernel
theorem dX5_cloth_312 : decode cX5_cloth 312 = .ok (.iadd, 1) := by decide +kernel
theorem dX5_cloth_313 : decode cX5_cloth 313 = .ok (.iastore, 1) := by decide +kernel
theorem dX5_cloth_314 : decode cX5_cloth 314 = .ok (.aload_n 3, 1) := by decide +kernel
theorem dX5_cloth_315 : decode cX5_cloth 315 = .ok (.iload 4, 2) := by decide +kernel
theorem dX5_cloth_317 : decode cX5_cloth 317 = .ok (.iconst 1, 1) := by decide +kernel
theorem dX5_cloth_318 : decode cX5_cloth 318 = .ok (.iadd, 1) := by decide +kernel
theorem dX5_cloth_319 : decode cX5_cloth 319 = .ok (.aaload, 1) := by decide +kernel
theorem dX5_cloth_320 : decode cX5_cloth 320 = .ok (.iload 6, 2) := by decide +kernel
theorem dX5_cloth_322 : decode cX5_cloth 322 = .ok (.dup2, 1) := by decide +kernel
theorem dX5_cloth_323 : decode cX5_cloth 323 = .ok (.iaload, 1) := by decide +kernel
theorem dX5_cloth_324 : decode cX5_cloth 324 = .ok (.aload 9, 2) := by decide +kernel
theorem dX5_cloth_326 : decode cX5_cloth 326 = .ok (.iconst 2, 1) := by decide +kernel
theorem dX5_cloth_327 : decode cX5_cloth 327 = .ok (.iaload, 1) := by decide +kernel
theorem dX5_cloth_328 : decode cX5_cloth 328 = .ok (.iadd, 1) := by decide +kernel
theorem dX5_cloth_329 : decode cX5_cloth 329 = .ok (.iastore, 1) := by decide +kernel
theorem dX5_cloth_330 : decode cX5_cloth 330 = .ok (.aload_n 3, 1) := by decide +kernel
theorem dX5_cloth_331 : decode cX5_cloth 331 = .ok (.iload 4, 2) := by decide +kernel
theorem dX5_cloth_333 : decode cX5_cloth 333 = .ok (.iconst 1, 1) := by decide +kernel
theorem dX5_cloth_334 : decode cX5_cloth 334 = .ok (.iadd, 1) := by decide +kernel
theorem dX5_cloth_335 : decode cX5_cloth 335 = .ok (.aaload, 1) := by decide +kernel
theorem dX5_cloth_336 : decode cX5_cloth 336 = .ok (.iload 6, 2) := by decide +kernel
theorem dX5_cloth_338 : decode cX5_cloth 338 = .ok (.iload 5, 2) := by decide +kernel
theorem dX5_cloth_340 : decode cX5_cloth 340 = .ok (.iadd, 1) := by decide +kernel
theorem dX5_cloth_341 : decode cX5_cloth 341 = .ok (.dup2, 1) := by decide +kernel
theorem dX5_cloth_342 : decode cX5_cloth 342 = .ok (.iaload, 1) := by decide +kernel
theorem dX5_cloth_343 : decode cX5_cloth 343 = .ok (.iload 8, 2) := by decide +kernel
theorem dX5_cloth_345 : decode cX5_cloth 345 = .ok (.aload 9, 2) := by decide +kernel
theorem dX5_cloth_347 : decode cX5_cloth 347 = .ok (.iconst 0, 1) := by decide +kernel
theorem dX5_cloth_348 : decode cX5_cloth 348 = .ok (.iaload, 1) := by decide +kernel
theorem dX5_cloth_349 : decode cX5_cloth 349 = .ok (.isub, 1) := by decide +kernel
theorem dX5_cloth_350 : decode cX5_cloth 350 = .ok (.aload 9, 2) := by decide +kernel
theorem dX5_cloth_352 : decode cX5_cloth 352 = .ok (.iconst 1, 1) := by decide +kernel
theorem dX5_cloth_353 : decode cX5_cloth 353 = .ok (.iaload, 1) := by decide +kernel
theorem dX5_cloth_354 : decode cX5_cloth 354 = .ok (.isub, 1) := by decide +kernel
theorem dX5_cloth_355 : decode cX5_cloth 355 = .ok (.aload 9, 2) := by decide +kernel
theorem dX5_cloth_357 : decode cX5_cloth 357 = .ok (.iconst 2, 1) := by decide +kernel
theorem dX5_cloth_358 : decode cX5_cloth 358 = .ok (.iaload, 1) := by decide +kernel
theorem dX5_cloth_359 : decode cX5_cloth 359 = .ok (.isub, 1) := by decide +kernel
theorem dX5_cloth_360 : decode cX5_cloth 360 = .ok (.iadd, 1) := by decide +kernel
theorem dX5_cloth_361 : decode cX5_cloth 361 = .ok (.iastore, 1) := by decide +kernel
theorem dX5_cloth_362 : decode cX5_cloth 362 = .ok (.iload 6, 2) := by decide +kernel
theorem dX5_cloth_364 : decode cX5_cloth 364 = .ok (.iload 5, 2) := by decide +kernel
theorem dX5_cloth_366 : decode cX5_cloth 366 = .ok (.iadd, 1) := by decide +kernel
theorem dX5_cloth_367 : decode cX5_cloth 367 = .ok (.istore 6, 2) := by decide +kernel
theorem dX5_cloth_369 : decode cX5_cloth 369 = .ok (.goto (-255), 3) := by decide +kernel
theorem dX5_cloth_372 : decode cX5_cloth 372 = .ok (.iinc 4 1, 3) := by decide +kernel
theorem dX5_cloth_375 : decode cX5_cloth 375 = .ok (.goto (-303), 3) := by decide +kernel
theorem dX5_cloth_378 : decode cX5_cloth 378 = .ok (.aload_n 2, 1) := by decide +kernel
theorem dX5_cloth_379 : decode cX5_cloth 379 = .ok (.areturn, 1) := by decide +kernel
theorem dX5_off_0 : decode cX5_off 0 = .ok (.iconst 0, 1) := by decide +kernel
theorem dX5_off_1 : decode cX5_off 1 = .ok (.istore_n 3, 1) := by decide +kernel
theorem dX5_off_2 : decode cX5_off 2 = .ok (.iconst 0, 1) := by decide +kernel
theorem dX5_off_3 : decode cX5_off 3 = .ok (.istore 4, 2) := by decide +kernel
theorem dX5_off_5 : decode cX5_off 5 = .ok (.iload 4, 2) := by decide +kernel
theorem dX5_off_7 : decode cX5_off 7 = .ok (.bipush 8, 2) := by decide +kernel
theorem dX5_off_9 : decode cX5_off 9 = .ok (.if_icmp .ge 51, 3) := by decide +kernel
theorem dX5_off_12 : decode cX5_off 12 = .ok (.iconst 0, 1) := by decide +kernel
theorem dX5_off_13 : decode cX5_off 13 = .ok (.istore 5, 2) := by decide +kernel
theorem dX5_off_15 : decode cX5_off 15 = .ok (.iload 5, 2) := by decide +kernel
theorem dX5_off_17 : decode cX5_off 17 = .ok (.bipush 12, 2) := by decide +kernel
theorem dX5_off_19 : decode cX5_off 19 = .ok (.if_icmp .ge 35, 3) := by decide +kernel
theorem dX5_off_22 : decode cX5_off 22 = .ok (.iload_n 3, 1) := by decide +kernel
theorem dX5_off_23 : decode cX5_off 23 = .ok (.aload_n 1, 1) := by decide +kernel
theorem dX5_off_24 : decode cX5_off 24 = .ok (.aload_n 2, 1) := by decide +kernel
theorem dX5_off_25 : decode cX5_off 25 = .ok (.iload 4, 2) := by decide +kernel
theorem dX5_off_27 : decode cX5_off 27 = .ok (.aaload, 1) := by decide +kernel
theorem dX5_off_28 : decode cX5_off 28 = .ok (.iload 5, 2) := by decide +kernel
theorem dX5_off_30 : decode cX5_off 30 = .ok (.iaload, 1) := by decide +kernel
theorem dX5_off_31 : decode cX5_off 31 = .ok (.iaload, 1) := by decide +kernel
theorem dX5_off_32 : decode cX5_off 32 = .ok (.aload_n 0, 1) := by decide +kernel
theorem dX5_off_33 : decode cX5_off 33 = .ok (.getfield 9, 3) := by decide +kernel
theorem dX5_off_36 : decode cX5_off 36 = .ok (.iload 4, 2) := by decide +kernel
theorem dX5_off_38 : decode cX5_off 38 = .ok (.aaload, 1) := by decide +kernel
theorem dX5_off_39 : decode cX5_off 39 = .ok (.iload 5, 2) := by decide +kernel
theorem dX5_off_41 : decode cX5_off 41 = .ok (.iaload, 1) := by decide +kernel
theorem dX5_off_42 : decode cX5_off 42 = .ok (.isub, 1) := by decide +kernel
theorem dX5_off_43 : decode cX5_off 43 = .ok (.invokestatic 40, 3) := by decide +kernel
theorem dX5_off_46 : decode cX5_off 46 = .ok (.iadd, 1) := by decide +kernel
theorem dX5_off_47 : decode cX5_off 47 = .ok (.istore_n 3, 1) := by decide +kernel
theorem dX5_off_48 : decode cX5_off 48 = .ok (.iinc 5 1, 3) := by decide +kernel
theorem dX5_off_51 : decode cX5_off 51 = .ok (.goto (-36), 3) := by decide +kernel
theorem dX5_off_54 : decode cX5_off 54 = .ok (.iinc 4 1, 3) := by decide +kernel
theorem dX5_off_57 : decode cX5_off 57 = .ok (.goto (-52), 3) := by decide +kernel
theorem dX5_off_60 : decode cX5_off 60 = .ok (.iload_n 3, 1) := by decide +kernel
theorem dX5_off_61 : decode cX5_off 61 = .ok (.ireturn, 1) := by decide +kernel
set_option maxRecDepth 20000 in
theorem ggX5_runs_X5_piece : GoodIn wsX5_runs wsX5_piece := goodIn_r _ [5, 1] (by decide +kernel) (by decide +kernel)
set_option maxRecDepth 20000 in
theorem gX5_runs_X5_piece : GoodIn wsX5_runs (va_wsS RX5 32 yX5_piece wsX5_piece) := goodIn_app (goodIn_of _ (by decide +kernel)) ggX5_runs_X5_piece
theorem dX5_runs_0 : decode cX5_runs 0 = .ok (.bipush 24, 2) := by decide +kernel
theorem dX5_runs_2 : decode cX5_runs 2 = .ok (.newarray .int, 2) := by decide +kernel
theorem dX5_runs_4 : decode cX5_runs 4 = .ok (.astore_n 1, 1) := by decide +kernel
theorem dX5_runs_5 : decode cX5_runs 5 = .ok (.iconst 0, 1) := by decide +kernel
theorem dX5_runs_6 : decode cX5_runs 6 = .ok (.istore_n 2, 1) := by decide +kernel
theorem dX5_runs_7 : decode cX5_runs 7 = .ok (.iconst 0, 1) := by decide +kernel
theorem dX5_runs_8 : decode cX5_runs 8 = .ok (.istore_n 3, 1) := by decide +kernel
theorem dX5_runs_9 : decode cX5_runs 9 = .ok (.iload_n 3, 1) := by decide +kernel
theorem dX5_runs_10 : decode cX5_runs 10 = .ok (.bipush 12, 2) := by decide +kernel
theorem dX5_runs_12 : decode cX5_runs 12 = .ok (.if_icmp .ge 61, 3) := by decide +kernel
theorem dX5_runs_15 : decode cX5_runs 15 = .ok (.iload_n 2, 1) := by decide +kernel
theorem dX5_runs_16 : decode cX5_runs 16 = .ok (.ifCond .le 36, 3) := by decide +kernel
theorem dX5_runs_19 : decode cX5_runs 19 = .ok (.aload_n 1, 1) := by decide +kernel
theorem dX5_runs_20 : decode cX5_runs 20 = .ok (.iload_n 2, 1) := by decide +kernel
theorem dX5_runs_21 : decode cX5_runs 21 = .ok (.iconst 2, 1) := by decide +kernel
theorem dX5_runs_22 : decode cX5_runs 22 = .ok (.isub, 1) := by decide +kernel
theorem dX5_runs_23 : decode cX5_runs 23 = .ok (.iaload, 1) := by decide +kernel
theorem dX5_runs_24 : decode cX5_runs 24 = .ok (.aload_n 0, 1) := by decide +kernel
theorem dX5_runs_25 : decode cX5_runs 25 = .ok (.iload_n 3, 1) := by decide +kernel
theorem dX5_runs_26 : decode cX5_runs 26 = .ok (.iaload, 1) := by decide +kernel
theorem dX5_runs_27 : decode cX5_runs 27 = .ok (.if_icmp .ne 25, 3) := by decide +kernel
theorem dX5_runs_30 : decode cX5_runs 30 = .ok (.aload_n 1, 1) := by decide +kernel
theorem dX5_runs_31 : decode cX5_runs 31 = .ok (.iload_n 2, 1) := by decide +kernel
theorem dX5_runs_32 : decode cX5_runs 32 = .ok (.iconst 1, 1) := by decide +kernel
theorem dX5_runs_33 : decode cX5_runs 33 = .ok (.isub, 1) := by decide +kernel
theorem dX5_runs_34 : decode cX5_runs 34 = .ok (.iaload, 1) := by decide +kernel
theorem dX5_runs_35 : decode cX5_runs 35 = .ok (.bipush 9, 2) := by decide +kernel
theorem dX5_runs_37 : decode cX5_runs 37 = .ok (.if_icmp .ge 15, 3) := by decide +kernel
theorem dX5_runs_40 : decode cX5_runs 40 = .ok (.aload_n 1, 1) := by decide +kernel
theorem dX5_runs_41 : decode cX5_runs 41 = .ok (.iload_n 2, 1) := by decide +kernel
theorem dX5_runs_42 : decode cX5_runs 42 = .ok (.iconst 1, 1) := by decide +kernel
theorem dX5_runs_43 : decode cX5_runs 43 = .ok (.isub, 1) := by decide +kernel
theorem dX5_runs_44 : decode cX5_runs 44 = .ok (.dup2, 1) := by decide +kernel
theorem dX5_runs_45 : decode cX5_runs 45 = .ok (.iaload, 1) := by decide +kernel
theorem dX5_runs_46 : decode cX5_runs 46 = .ok (.iconst 1, 1) := by decide +kernel
theorem dX5_runs_47 : decode cX5_runs 47 = .ok (.iadd, 1) := by decide +kernel
theorem dX5_runs_48 : decode cX5_runs 48 = .ok (.iastore, 1) := by decide +kernel
theorem dX5_runs_49 : decode cX5_runs 49 = .ok (.goto 18, 3) := by decide +kernel
theorem dX5_runs_52 : decode cX5_runs 52 = .ok (.aload_n 1, 1) := by decide +kernel
theorem dX5_runs_53 : decode cX5_runs 53 = .ok (.iload_n 2, 1) := by decide +kernel
theorem dX5_runs_54 : decode cX5_runs 54 = .ok (.aload_n 0, 1) := by decide +kernel
theorem dX5_runs_55 : decode cX5_runs 55 = .ok (.iload_n 3, 1) := by decide +kernel
theorem dX5_runs_56 : decode cX5_runs 56 = .ok (.iaload, 1) := by decide +kernel
theorem dX5_runs_57 : decode cX5_runs 57 = .ok (.iastore, 1) := by decide +kernel
theorem dX5_runs_58 : decode cX5_runs 58 = .ok (.aload_n 1, 1) := by decide +kernel
theorem dX5_runs_59 : decode cX5_runs 59 = .ok (.iload_n 2, 1) := by decide +kernel
theorem dX5_runs_60 : decode cX5_runs 60 = .ok (.iconst 1, 1) := by decide +kernel
theorem dX5_runs_61 : decode cX5_runs 61 = .ok (.iadd, 1) := by decide +kernel
theorem dX5_runs_62 : decode cX5_runs 62 = .ok (.iconst 1, 1) := by decide +kernel
theorem dX5_runs_63 : decode cX5_runs 63 = .ok (.iastore, 1) := by decide +kernel
theorem dX5_runs_64 : decode cX5_runs 64 = .ok (.iinc 2 2, 3) := by decide +kernel
theorem dX5_runs_67 : decode cX5_runs 67 = .ok (.iinc 3 1, 3) := by decide +kernel
theorem dX5_runs_70 : decode cX5_runs 70 = .ok (.goto (-61), 3) := by decide +kernel
theorem dX5_runs_73 : decode cX5_runs 73 = .ok (.aload_n 1, 1) := by decide +kernel
theorem dX5_runs_74 : decode cX5_runs 74 = .ok (.iconst 0, 1) := by decide +kernel
theorem dX5_runs_75 : decode cX5_runs 75 = .ok (.iload_n 2, 1) := by decide +kernel
theorem dX5_runs_76 : decode cX5_runs 76 = .ok (.invokestatic 32, 3) := by decide +kernel
theorem dX5_runs_79 : decode cX5_runs 79 = .ok (.areturn, 1) := by decide +kernel
set_option maxRecDepth 20000 in
theorem ggX5_knots_X5_isSame : GoodIn wsX5_knots wsX5_isSame := goodIn_r _ [5] (by decide +kernel) (by decide +kernel)
set_option maxRecDepth 20000 in
theorem gX5_knots_X5_isSame : GoodIn wsX5_knots (va_wsS RX5 49 yX5_isSame wsX5_isSame) := goodIn_app (goodIn_of _ (by decide +kernel)) ggX5_knots_X5_isSame
set_option maxRecDepth 20000 in
theorem ggX5_knots_X5_runs : GoodIn wsX5_knots wsX5_runs := goodIn_r _ [8, 9, 10, 11, 4, 12] (by decide +kernel) (by decide +kernel)
set_option maxRecDepth 20000 in
theorem gX5_knots_X5_runs : GoodIn wsX5_knots (va_wsS RX5 53 yX5_runs wsX5_runs) := goodIn_app (goodIn_of _ (by decide +kernel)) ggX5_knots_X5_runs
theorem dX5_knots_0 : decode cX5_knots 0 = .ok (.aload_n 0, 1) := by decide +kernel
theorem dX5_knots_1 : decode cX5_knots 1 = .ok (.getfield 46, 3) := by decide +kernel
theorem dX5_knots_4 : decode cX5_knots 4 = .ok (.ifCond .eq 25, 3) := by decide +kernel
theorem dX5_knots_7 : decode cX5_knots 7 = .ok (.iload_n 2, 1) := by decide +kernel
theorem dX5_knots_8 : decode cX5_knots 8 = .ok (.ifCond .le 21, 3) := by decide +kernel
theorem dX5_knots_11 : decode cX5_knots 11 = .ok (.aload_n 1, 1) := by decide +kernel
theorem dX5_knots_12 : decode cX5_knots 12 = .ok (.iload_n 2, 1) := by decide +kernel
theorem dX5_knots_13 : decode cX5_knots 13 = .ok (.aaload, 1) := by decide +kernel
theorem dX5_knots_14 : decode cX5_knots 14 = .ok (.aload_n 1, 1) := by decide +kernel
theorem dX5_knots_15 : decode cX5_knots 15 = .ok (.iload_n 2, 1) := by decide +kernel
theorem dX5_knots_16 : decode cX5_knots 16 = .ok (.iconst 1, 1) := by decide +kernel
theorem dX5_knots_17 : decode cX5_knots 17 = .ok (.isub, 1) := by decide +kernel
theorem dX5_knots_18 : decode cX5_knots 18 = .ok (.aaload, 1) := by decide +kernel
theorem dX5_knots_19 : decode cX5_knots 19 = .ok (.invokestatic 49, 3) := by decide +kernel
theorem dX5_knots_22 : decode cX5_knots 22 = .ok (.ifCond .eq 7, 3) := by decide +kernel
theorem dX5_knots_25 : decode cX5_knots 25 = .ok (.iconst 1, 1) := by decide +kernel
theorem dX5_knots_26 : decode cX5_knots 26 = .ok (.goto 12, 3) := by decide +kernel
theorem dX5_knots_29 : decode cX5_knots 29 = .ok (.aload_n 1, 1) := by decide +kernel
theorem dX5_knots_30 : decode cX5_knots 30 = .ok (.iload_n 2, 1) := by decide +kernel
theorem dX5_knots_31 : decode cX5_knots 31 = .ok (.aaload, 1) := by decide +kernel
theorem dX5_knots_32 : decode cX5_knots 32 = .ok (.invokestatic 53, 3) := by decide +kernel
theorem dX5_knots_35 : decode cX5_knots 35 = .ok (.arraylength, 1) := by decide +kernel
theorem dX5_knots_36 : decode cX5_knots 36 = .ok (.iconst 2, 1) := by decide +kernel
theorem dX5_knots_37 : decode cX5_knots 37 = .ok (.idiv, 1) := by decide +kernel
theorem dX5_knots_38 : decode cX5_knots 38 = .ok (.ireturn, 1) := by decide +kernel
set_option maxRecDepth 20000 in
theorem ggX5_knots__X5_knots : GoodIn wsX5_knots_ wsX5_knots := goodIn_r _ [5, 6, 7, 8, 4, 9, 10, 11, 12, 13, 14, 15, 16, 17, 18, 19, 20, 21, 22, 23, 24, 25, 26] (by decide +kernel) (by decide +kernel)
set_option maxRecDepth 20000 in
theorem gX5_knots__X5_knots : GoodIn wsX5_knots_ (wsV RX5 57 RX5 yX5_knots wsX5_knots) := goodIn_app (goodIn_of _ (by decide +kernel)) ggX5_knots__X5_knots
theorem dX5_knots__0 : decode cX5_knots_ 0 = .ok (.iconst 0, 1) := by decide +kernel
theorem dX5_knots__1 : decode cX5_knots_ 1 = .ok (.istore_n 2, 1) := by decide +kernel
theorem dX5_knots__2 : decode cX5_knots_ 2 = .ok (.iconst 0, 1) := by decide +kernel
theorem dX5_knots__3 : decode cX5_knots_ 3 = .ok (.istore_n 3, 1) := by decide +kernel
theorem dX5_knots__4 : decode cX5_knots_ 4 = .ok (.iload_n 3, 1) := by decide +kernel
theorem dX5_knots__5 : decode cX5_knots_ 5 = .ok (.aload_n 1, 1) := by decide +kernel
theorem dX5_knots__6 : decode cX5_knots_ 6 = .ok (.arraylength, 1) := by decide +kernel
theorem dX5_knots__7 : decode cX5_knots_ 7 = .ok (.if_icmp .ge 18, 3) := by decide +kernel
theorem dX5_knots__10 : decode cX5_knots_ 10 = .ok (.iload_n 2, 1) := by decide +kernel
theorem dX5_knots__11 : decode cX5_knots_ 11 = .ok (.aload_n 0, 1) := by decide +kernel
theorem dX5_knots__12 : decode cX5_knots_ 12 = .ok (.aload_n 1, 1) := by decide +kernel
theorem dX5_knots__13 : decode cX5_knots_ 13 = .ok (.iload_n 3, 1) := by decide +kernel
theorem dX5_knots__14 : decode cX5_knots_ 14 = .ok (.invokevirtual 57, 3) := by decide +kernel
theorem dX5_knots__17 : decode cX5_knots_ 17 = .ok (.iadd, 1) := by decide +kernel
theorem dX5_knots__18 : decode cX5_knots_ 18 = .ok (.istore_n 2, 1) := by decide +kernel
theorem dX5_knots__19 : decode cX5_knots_ 19 = .ok (.iinc 3 1, 3) := by decide +kernel
theorem dX5_knots__22 : decode cX5_knots_ 22 = .ok (.goto (-18), 3) := by decide +kernel
theorem dX5_knots__25 : decode cX5_knots_ 25 = .ok (.iload_n 2, 1) := by decide +kernel
theorem dX5_knots__26 : decode cX5_knots_ 26 = .ok (.ireturn, 1) := by decide +kernel
theorem dX5_cells_0 : decode cX5_cells 0 = .ok (.iconst 0, 1) := by decide +kernel
theorem dX5_cells_1 : decode cX5_cells 1 = .ok (.istore_n 2, 1) := by decide +kernel
theorem dX5_cells_2 : decode cX5_cells 2 = .ok (.aload_n 0, 1) := by decide +kernel
theorem dX5_cells_3 : decode cX5_cells 3 = .ok (.astore_n 3, 1) := by decide +kernel
theorem dX5_cells_4 : decode cX5_cells 4 = .ok (.aload_n 3, 1) := by decide +kernel
theorem dX5_cells_5 : decode cX5_cells 5 = .ok (.arraylength, 1) := by decide +kernel
theorem dX5_cells_6 : decode cX5_cells 6 = .ok (.istore 4, 2) := by decide +kernel
theorem dX5_cells_8 : decode cX5_cells 8 = .ok (.iconst 0, 1) := by decide +kernel
theorem dX5_cells_9 : decode cX5_cells 9 = .ok (.istore 5, 2) := by decide +kernel
theorem dX5_cells_11 : decode cX5_cells 11 = .ok (.iload 5, 2) := by decide +kernel
theorem dX5_cells_13 : decode cX5_cells 13 = .ok (.iload 4, 2) := by decide +kernel
theorem dX5_cells_15 : decode cX5_cells 15 = .ok (.if_icmp .ge 61, 3) := by decide +kernel
theorem dX5_cells_18 : decode cX5_cells 18 = .ok (.aload_n 3, 1) := by decide +kernel
theorem dX5_cells_19 : decode cX5_cells 19 = .ok (.iload 5, 2) := by decide +kernel
theorem dX5_cells_21 : decode cX5_cells 21 = .ok (.aaload, 1) := by decide +kernel
theorem dX5_cells_22 : decode cX5_cells 22 = .ok (.astore 6, 2) := by decide +kernel
theorem dX5_cells_24 : decode cX5_cells 24 = .ok (.aload 6, 2) := by decide +kernel
theorem dX5_cells_26 : decode cX5_cells 26 = .ok (.astore 7, 2) := by decide +kernel
theorem dX5_cells_28 : decode cX5_cells 28 = .ok (.aload 7, 2) := by decide +kernel
theorem dX5_cells_30 : decode cX5_cells 30 = .ok (.arraylength, 1) := by decide +kernel
theorem dX5_cells_31 : decode cX5_cells 31 = .ok (.istore 8, 2) := by decide +kernel
theorem dX5_cells_33 : decode cX5_cells 33 = .ok (.iconst 0, 1) := by decide +kernel
theorem dX5_cells_34 : decode cX5_cells 34 = .ok (.istore 9, 2) := by decide +kernel
theorem dX5_cells_36 : decode cX5_cells 36 = .ok (.iload 9, 2) := by decide +kernel
theorem dX5_cells_38 : decode cX5_cells 38 = .ok (.iload 8, 2) := by decide +kernel
theorem dX5_cells_40 : decode cX5_cells 40 = .ok (.if_icmp .ge 30, 3) := by decide +kernel
theorem dX5_cells_43 : decode cX5_cells 43 = .ok (.aload 7, 2) := by decide +kernel
theorem dX5_cells_45 : decode cX5_cells 45 = .ok (.iload 9, 2) := by decide +kernel
theorem dX5_cells_47 : decode cX5_cells 47 = .ok (.iaload, 1) := by decide +kernel
theorem dX5_cells_48 : decode cX5_cells 48 = .ok (.istore 10, 2) := by decide +kernel
theorem dX5_cells_50 : decode cX5_cells 50 = .ok (.iload_n 2, 1) := by decide +kernel
theorem dX5_cells_51 : decode cX5_cells 51 = .ok (.iload 10, 2) := by decide +kernel
theorem dX5_cells_53 : decode cX5_cells 53 = .ok (.iload_n 1, 1) := by decide +kernel
theorem dX5_cells_54 : decode cX5_cells 54 = .ok (.if_icmp .ne 7, 3) := by decide +kernel
theorem dX5_cells_57 : decode cX5_cells 57 = .ok (.iconst 1, 1) := by decide +kernel
theorem dX5_cells_58 : decode cX5_cells 58 = .ok (.goto 4, 3) := by decide +kernel
theorem dX5_cells_61 : decode cX5_cells 61 = .ok (.iconst 0, 1) := by decide +kernel
theorem dX5_cells_62 : decode cX5_cells 62 = .ok (.iadd, 1) := by decide +kernel
theorem dX5_cells_63 : decode cX5_cells 63 = .ok (.istore_n 2, 1) := by decide +kernel
theorem dX5_cells_64 : decode cX5_cells 64 = .ok (.iinc 9 1, 3) := by decide +kernel
theorem dX5_cells_67 : decode cX5_cells 67 = .ok (.goto (-31), 3) := by decide +kernel
theorem dX5_cells_70 : decode cX5_cells 70 = .ok (.iinc 5 1, 3) := by decide +kernel
theorem dX5_cells_73 : decode cX5_cells 73 = .ok (.goto (-62), 3) := by decide +kernel
theorem dX5_cells_76 : decode cX5_cells 76 = .ok (.iload_n 2, 1) := by decide +kernel
theorem dX5_cells_77 : decode cX5_cells 77 = .ok (.ireturn, 1) := by decide +kernel
set_option maxRecDepth 20000 in
theorem ggX5_weave_X5_palette : GoodIn wsX5_weave wsX5_palette := goodIn_r _ [11, 12, 13, 14, 15, 16, 10, 17, 51, 52, 53, 54, 55, 56, 57, 58, 59, 60] (by decide +kernel) (by decide +kernel)
set_option maxRecDepth 20000 in
theorem gX5_weave_X5_palette : GoodIn wsX5_weave (wsV RX5 61 RX5 yX5_palette wsX5_palette) := goodIn_app (goodIn_of _ (by decide +kernel)) ggX5_weave_X5_palette
set_option maxRecDepth 20000 in
theorem ggX5_weave_X5_cloth : GoodIn wsX5_weave wsX5_cloth := goodIn_r _ [21, 22, 12, 13, 23, 24, 25, 26, 27, 28, 51, 52, 53, 54, 55, 56, 57, 58, 59, 60] (by decide +kernel) (by decide +kernel)
set_option maxRecDepth 20000 in
theorem gX5_weave_X5_cloth : GoodIn wsX5_weave (wsV RX5 65 RX5 yX5_cloth wsX5_cloth) := goodIn_app (goodIn_of _ (by decide +kernel)) ggX5_weave_X5_cloth
set_option maxRecDepth 20000 in
theorem ggX5_weave_X5_cells : GoodIn wsX5_weave wsX5_cells := goodIn_r _ [31] (by decide +kernel) (by decide +kernel)
set_option maxRecDepth 20000 in
theorem gX5_weave_X5_cells : GoodIn wsX5_weave (va_wsS RX5 69 yX5_cells wsX5_cells) := goodIn_app (goodIn_of _ (by decide +kernel)) ggX5_weave_X5_cells
set_option maxRecDepth 20000 in
theorem ggX5_weave_X5_off : GoodIn wsX5_weave wsX5_off := goodIn_r _ [35, 13, 24, 25, 26, 27, 51, 52, 53, 54, 55, 56, 57, 58, 59, 60] (by decide +kernel) (by decide +kernel)
set_option maxRecDepth 20000 in
theorem gX5_weave_X5_off : GoodIn wsX5_weave (wsV RX5 75 RX5 yX5_off wsX5_off) := goodIn_app (goodIn_of _ (by decide +kernel)) ggX5_weave_X5_off
set_option maxRecDepth 20000 in
theorem ggX5_weave_X5_knots_ : GoodIn wsX5_weave wsX5_knots_ := goodIn_r _ [39, 40, 41, 42, 10, 43, 44, 45, 46, 47, 48, 49, 50, 12, 15, 16, 17, 51, 52, 53, 54, 55, 56, 57, 58, 59, 60] (by decide +kernel) (by decide +kernel)
set_option maxRecDepth 20000 in
theorem gX5_weave_X5_knots_ : GoodIn wsX5_weave (wsV RX5 82 RX5 yX5_knots_ wsX5_knots_) := goodIn_app (goodIn_of _ (by decide +kernel)) ggX5_weave_X5_knots_
theorem dX5_weave_0 : decode cX5_weave 0 = .ok (.aload_n 0, 1) := by decide +kernel
theorem dX5_weave_1 : decode cX5_weave 1 = .ok (.aload_n 0, 1) := by decide +kernel
theorem dX5_weave_2 : decode cX5_weave 2 = .ok (.getfield 14, 3) := by decide +kernel
theorem dX5_weave_5 : decode cX5_weave 5 = .ok (.invokevirtual 61, 3) := by decide +kernel
theorem dX5_weave_8 : decode cX5_weave 8 = .ok (.astore_n 1, 1) := by decide +kernel
theorem dX5_weave_9 : decode cX5_weave 9 = .ok (.aload_n 0, 1) := by decide +kernel
theorem dX5_weave_10 : decode cX5_weave 10 = .ok (.aload_n 1, 1) := by decide +kernel
theorem dX5_weave_11 : decode cX5_weave 11 = .ok (.invokevirtual 65, 3) := by decide +kernel
theorem dX5_weave_14 : decode cX5_weave 14 = .ok (.astore_n 2, 1) := by decide +kernel
theorem dX5_weave_15 : decode cX5_weave 15 = .ok (.iconst 0, 1) := by decide +kernel
theorem dX5_weave_16 : decode cX5_weave 16 = .ok (.istore_n 3, 1) := by decide +kernel
theorem dX5_weave_17 : decode cX5_weave 17 = .ok (.iload_n 3, 1) := by decide +kernel
theorem dX5_weave_18 : decode cX5_weave 18 = .ok (.bipush 6, 2) := by decide +kernel
theorem dX5_weave_20 : decode cX5_weave 20 = .ok (.if_icmp .ge 25, 3) := by decide +kernel
theorem dX5_weave_23 : decode cX5_weave 23 = .ok (.aload_n 2, 1) := by decide +kernel
theorem dX5_weave_24 : decode cX5_weave 24 = .ok (.iload_n 3, 1) := by decide +kernel
theorem dX5_weave_25 : decode cX5_weave 25 = .ok (.invokestatic 69, 3) := by decide +kernel
theorem dX5_weave_28 : decode cX5_weave 28 = .ok (.aload_n 0, 1) := by decide +kernel
theorem dX5_weave_29 : decode cX5_weave 29 = .ok (.getfield 21, 3) := by decide +kernel
theorem dX5_weave_32 : decode cX5_weave 32 = .ok (.iload_n 3, 1) := by decide +kernel
theorem dX5_weave_33 : decode cX5_weave 33 = .ok (.iaload, 1) := by decide +kernel
theorem dX5_weave_34 : decode cX5_weave 34 = .ok (.if_icmp .le 5, 3) := by decide +kernel
theorem dX5_weave_37 : decode cX5_weave 37 = .ok (.iconst (-1), 1) := by decide +kernel
theorem dX5_weave_38 : decode cX5_weave 38 = .ok (.ireturn, 1) := by decide +kernel
theorem dX5_weave_39 : decode cX5_weave 39 = .ok (.iinc 3 1, 3) := by decide +kernel
theorem dX5_weave_42 : decode cX5_weave 42 = .ok (.goto (-25), 3) := by decide +kernel
theorem dX5_weave_45 : decode cX5_weave 45 = .ok (.iconst 0, 1) := by decide +kernel
theorem dX5_weave_46 : decode cX5_weave 46 = .ok (.istore_n 3, 1) := by decide +kernel
theorem dX5_weave_47 : decode cX5_weave 47 = .ok (.iload_n 3, 1) := by decide +kernel
theorem dX5_weave_48 : decode cX5_weave 48 = .ok (.bipush 6, 2) := by decide +kernel
theorem dX5_weave_50 : decode cX5_weave 50 = .ok (.if_icmp .ge 23, 3) := by decide +kernel
theorem dX5_weave_53 : decode cX5_weave 53 = .ok (.aload_n 0, 1) := by decide +kernel
theorem dX5_weave_54 : decode cX5_weave 54 = .ok (.getfield 21, 3) := by decide +kernel
theorem dX5_weave_57 : decode cX5_weave 57 = .ok (.iload_n 3, 1) := by decide +kernel
theorem dX5_weave_58 : decode cX5_weave 58 = .ok (.dup2, 1) := by decide +kernel
theorem dX5_weave_59 : decode cX5_weave 59 = .ok (.iaload, 1) := by decide +kernel
theorem dX5_weave_60 : decode cX5_weave 60 = .ok (.aload_n 2, 1) := by decide +kernel
theorem dX5_weave_61 : decode cX5_weave 61 = .ok (.iload_n 3, 1) := by decide +kernel
theorem dX5_weave_62 : decode cX5_weave 62 = .ok (.invokestatic 69, 3) := by decide +kernel
theorem dX5_weave_65 : decode cX5_weave 65 = .ok (.isub, 1) := by decide +kernel
theorem dX5_weave_66 : decode cX5_weave 66 = .ok (.iastore, 1) := by decide +kernel
theorem dX5_weave_67 : decode cX5_weave 67 = .ok (.iinc 3 1, 3) := by decide +kernel
theorem dX5_weave_70 : decode cX5_weave 70 = .ok (.goto (-23), 3) := by decide +kernel
theorem dX5_weave_73 : decode cX5_weave 73 = .ok (.aload_n 0, 1) := by decide +kernel
theorem dX5_weave_74 : decode cX5_weave 74 = .ok (.dup, 1) := by decide +kernel
theorem dX5_weave_75 : decode cX5_weave 75 = .ok (.getfield 72, 3) := by decide +kernel
theorem dX5_weave_78 : decode cX5_weave 78 = .ok (.iconst 1, 1) := by decide +kernel
theorem dX5_weave_79 : decode cX5_weave 79 = .ok (.iadd, 1) := by decide +kernel
theorem dX5_weave_80 : decode cX5_weave 80 = .ok (.putfield 72, 3) := by decide +kernel
theorem dX5_weave_83 : decode cX5_weave 83 = .ok (.aload_n 0, 1) := by decide +kernel
theorem dX5_weave_84 : decode cX5_weave 84 = .ok (.aload_n 1, 1) := by decide +kernel
theorem dX5_weave_85 : decode cX5_weave 85 = .ok (.putfield 25, 3) := by decide +kernel
theorem dX5_weave_88 : decode cX5_weave 88 = .ok (.aload_n 0, 1) := by decide +kernel
theorem dX5_weave_89 : decode cX5_weave 89 = .ok (.aload_n 2, 1) := by decide +kernel
theorem dX5_weave_90 : decode cX5_weave 90 = .ok (.putfield 29, 3) := by decide +kernel
theorem dX5_weave_93 : decode cX5_weave 93 = .ok (.aload_n 0, 1) := by decide +kernel
theorem dX5_weave_94 : decode cX5_weave 94 = .ok (.aload_n 0, 1) := by decide +kernel
theorem dX5_weave_95 : decode cX5_weave 95 = .ok (.aload_n 1, 1) := by decide +kernel
theorem dX5_weave_96 : decode cX5_weave 96 = .ok (.aload_n 2, 1) := by decide +kernel
theorem dX5_weave_97 : decode cX5_weave 97 = .ok (.invokevirtual 75, 3) := by decide +kernel
theorem dX5_weave_100 : decode cX5_weave 100 = .ok (.putfield 79, 3) := by decide +kernel
theorem dX5_weave_103 : decode cX5_weave 103 = .ok (.aload_n 0, 1) := by decide +kernel
theorem dX5_weave_104 : decode cX5_weave 104 = .ok (.aload_n 0, 1) := by decide +kernel
theorem dX5_weave_105 : decode cX5_weave 105 = .ok (.getfield 29, 3) := by decide +kernel
theorem dX5_weave_108 : decode cX5_weave 108 = .ok (.invokevirtual 82, 3) := by decide +kernel
theorem dX5_weave_111 : decode cX5_weave 111 = .ok (.ireturn, 1) := by decide +kernel
set_option maxRecDepth 20000 in
theorem ggX5_isSame__X4_thread : GoodIn wsX5_isSame_ wsX4_thread := goodIn_ca (goodIn_r _ [17, 18, 19, 20, 21, 16, 22, 23, 24, 25, 26, 27, 28, 29, 30, 31, 32, 33, 34, 35, 36, 37, 38, 39, 40, 41, 42, 43, 44, 45, 46, 47, 48, 49, 50, 51, 52, 53, 54, 55, 56, 57, 58, 243, 244, 245, 246, 247, 248, 249, 250, 251, 252, 253, 254, 255, 256, 257, 258, 259, 260, 261, 262, 263, 264] (by decide +kernel) (by decide +kernel)) (goodIn_sub (fun _ h => List.mem_cons_of_mem _ (List.mem_append_left _ (List.mem_append_right _ h))) (by decide +kernel))
set_option maxRecDepth 20000 in
theorem gX5_isSame__X4_thread : GoodIn wsX5_isSame_ (wsV RX5 85 RX4 yX4_thread wsX4_thread) := goodIn_app (goodIn_of _ (by decide +kernel)) ggX5_isSame__X4_thread
set_option maxRecDepth 20000 in
theorem ggX5_isSame__X5_cells : GoodIn wsX5_isSame_ wsX5_cells := goodIn_r _ [62] (by decide +kernel) (by decide +kernel)
set_option maxRecDepth 20000 in
theorem gX5_isSame__X5_cells : GoodIn wsX5_isSame_ (va_wsS RX5 69 yX5_cells wsX5_cells) := goodIn_app (goodIn_of _ (by decide +kernel)) ggX5_isSame__X5_cells
set_option maxRecDepth 20000 in
theorem ggX5_isSame__X5_knots_ : GoodIn wsX5_isSame_ wsX5_knots_ := goodIn_r _ [66, 67, 68, 69, 61, 70, 8, 71, 72, 73, 74, 75, 76, 4, 77, 78, 79, 233, 234, 235, 236, 237, 238, 239, 240, 241, 242] (by decide +kernel) (by decide +kernel)
set_option maxRecDepth 20000 in
theorem gX5_isSame__X5_knots_ : GoodIn wsX5_isSame_ (wsV RX5 82 RX5 yX5_knots_ wsX5_knots_) := goodIn_app (goodIn_of _ (by decide +kernel)) ggX5_isSame__X5_knots_
set_option maxRecDepth 20000 in
theorem ggX5_isSame__X4_count : GoodIn wsX5_isSame_ wsX4_count := goodIn_ca (goodIn_r _ [83, 23, 24, 16, 25, 26, 27, 84, 85, 86, 87, 88, 89, 90, 91, 40, 18, 19, 92, 93, 94, 31, 95, 96, 29, 30, 32, 33, 34, 35, 36, 37, 38, 39, 97, 98, 99, 44, 100, 101, 102, 103, 104, 105, 106, 107, 108, 109, 110, 111, 112, 113, 114, 115, 116, 117, 118, 119, 120, 121, 122, 123, 124, 125, 126, 127, 243, 244, 245, 246, 247, 248, 249, 250, 251, 252, 253, 254, 255, 256, 257, 258, 259, 265] (by decide +kernel) (by decide +kernel)) (goodIn_sub (fun _ h => List.mem_cons_of_mem _ (List.mem_append_left _ (List.mem_append_right _ h))) (by decide +kernel))
set_option maxRecDepth 20000 in
theorem gX5_isSame__X4_count : GoodIn wsX5_isSame_ (wsV RX5 91 RX4 yX4_count wsX4_count) := goodIn_app (goodIn_of _ (by decide +kernel)) ggX5_isSame__X4_count
set_option maxRecDepth 20000 in
theorem ggX5_isSame__X4_shade : GoodIn wsX5_isSame_ wsX4_shade := goodIn_ca (goodIn_r _ [131, 132, 133, 134, 16, 135, 26, 27, 136, 121, 122, 137, 116, 117, 118, 119, 120, 34, 35, 243, 244, 245, 246, 247, 248, 249, 250, 251, 252, 265] (by decide +kernel) (by decide +kernel)) (goodIn_sub (fun _ h => List.mem_cons_of_mem _ (List.mem_append_left _ (List.mem_append_right _ h))) (by decide +kernel))
set_option maxRecDepth 20000 in
theorem gX5_isSame__X4_shade : GoodIn wsX5_isSame_ (wsV RX5 94 RX4 yX4_shade wsX4_shade) := goodIn_app (goodIn_of _ (by decide +kernel)) ggX5_isSame__X4_shade
set_option maxRecDepth 20000 in
theorem ggX5_isSame__X4_cell : GoodIn wsX5_isSame_ wsX4_cell := goodIn_ca (goodIn_ca (goodIn_r _ [141, 19, 133, 134, 16, 135, 26, 27, 136, 121, 122, 142, 143, 144, 145, 146, 147, 36, 37, 38, 39, 40, 148, 149, 150, 44, 151, 114, 115, 116, 117, 118, 119, 120, 34, 35, 243, 244, 245, 246, 247, 248, 249, 250, 251, 252, 254, 255, 256, 257, 258, 259, 265] (by decide +kernel) (by decide +kernel)) (goodIn_sub (fun _ h => List.mem_cons_of_mem _ (List.mem_append_left _ (List.mem_append_right _ h))) (by decide +kernel))) (goodIn_sub (fun _ h => List.mem_cons_of_mem _ (List.mem_append_right _ h)) (by decide +kernel))
set_option maxRecDepth 20000 in
theorem gX5_isSame__X4_cell : GoodIn wsX5_isSame_ (wsV RX5 97 RX4 yX4_cell wsX4_cell) := goodIn_app (goodIn_of _ (by decide +kernel)) ggX5_isSame__X4_cell
set_option maxRecDepth 20000 in
theorem ggX5_isSame__X5_runs : GoodIn wsX5_isSame_ wsX5_runs := goodIn_r _ [76, 4, 77, 78, 61, 79] (by decide +kernel) (by decide +kernel)
set_option maxRecDepth 20000 in
theorem gX5_isSame__X5_runs : GoodIn wsX5_isSame_ (va_wsS RX5 53 yX5_runs wsX5_runs) := goodIn_app (goodIn_of _ (by decide +kernel)) ggX5_isSame__X5_runs
set_option maxRecDepth 20000 in
theorem ggX5_isSame__X4_run : GoodIn wsX5_isSame_ wsX4_run := goodIn_ca (goodIn_ca (goodIn_r _ [155, 19, 156, 157, 16, 158, 23, 24, 25, 26, 27, 142, 143, 144, 145, 146, 147, 36, 37, 38, 39, 40, 159, 124, 125, 44, 126, 127, 115, 116, 117, 118, 119, 120, 121, 122, 34, 35, 160, 161, 162, 163, 114, 164, 165, 166, 167, 243, 244, 245, 246, 247, 248, 249, 250, 251, 252, 254, 255, 256, 257, 258, 259, 265] (by decide +kernel) (by decide +kernel)) (goodIn_sub (fun _ h => List.mem_cons_of_mem _ (List.mem_append_left _ (List.mem_append_right _ h))) (by decide +kernel))) (goodIn_sub (fun _ h => List.mem_cons_of_mem _ (List.mem_append_right _ h)) (by decide +kernel))
set_option maxRecDepth 20000 in
theorem gX5_isSame__X4_run : GoodIn wsX5_isSame_ (wsV RX5 100 RX4 yX4_run wsX4_run) := goodIn_app (goodIn_of _ (by decide +kernel)) ggX5_isSame__X4_run
set_option maxRecDepth 20000 in
theorem ggX5_isSame__X4_knots : GoodIn wsX5_isSame_ wsX4_knots := goodIn_ca (goodIn_ca (goodIn_r _ [171, 19, 91, 156, 157, 16, 158, 23, 24, 25, 26, 27, 142, 143, 144, 145, 146, 147, 36, 37, 38, 39, 40, 172, 107, 108, 44, 109, 110, 111, 112, 113, 114, 115, 116, 117, 118, 119, 120, 121, 122, 34, 35, 123, 124, 125, 126, 127, 243, 244, 245, 246, 247, 248, 249, 250, 251, 252, 254, 255, 256, 257, 258, 259, 265] (by decide +kernel) (by decide +kernel)) (goodIn_sub (fun _ h => List.mem_cons_of_mem _ (List.mem_append_left _ (List.mem_append_right _ h))) (by decide +kernel))) (goodIn_sub (fun _ h => List.mem_cons_of_mem _ (List.mem_append_right _ h)) (by decide +kernel))
set_option maxRecDepth 20000 in
theorem gX5_isSame__X4_knots : GoodIn wsX5_isSame_ (wsV RX5 104 RX4 yX4_knots wsX4_knots) := goodIn_app (goodIn_of _ (by decide +kernel)) ggX5_isSame__X4_knots
set_option maxRecDepth 20000 in
theorem ggX5_isSame__X5_knots : GoodIn wsX5_isSame_ wsX5_knots := goodIn_r _ [70, 8, 71, 72, 61, 73, 74, 75, 76, 4, 77, 78, 79, 233, 234, 235, 236, 237, 238, 239, 240, 241, 242] (by decide +kernel) (by decide +kernel)
set_option maxRecDepth 20000 in
theorem gX5_isSame__X5_knots : GoodIn wsX5_isSame_ (wsV RX5 57 RX5 yX5_knots wsX5_knots) := goodIn_app (goodIn_of _ (by decide +kernel)) ggX5_isSame__X5_knots
set_option maxRecDepth 20000 in
theorem ggX5_isSame__X5_palette : GoodIn wsX5_isSame_ wsX5_palette := goodIn_r _ [176, 4, 11, 177, 77, 78, 61, 79, 233, 234, 235, 236, 237, 238, 239, 240, 241, 242] (by decide +kernel) (by decide +kernel)
set_option maxRecDepth 20000 in
theorem gX5_isSame__X5_palette : GoodIn wsX5_isSame_ (wsV RX5 61 RX5 yX5_palette wsX5_palette) := goodIn_app (goodIn_of _ (by decide +kernel)) ggX5_isSame__X5_palette
set_option maxRecDepth 20000 in
theorem ggX5_isSame__X4_palette : GoodIn wsX5_isSame_ wsX4_palette := goodIn_ca (goodIn_r _ [181, 182, 132, 88, 20, 21, 16, 22, 23, 24, 25, 26, 27, 183, 184, 185, 55, 186, 57, 187, 58, 188, 189, 190, 191, 192, 193, 194, 195, 116, 117, 118, 119, 120, 121, 122, 34, 35, 196, 197, 198, 199, 200, 201, 202, 203, 204, 205, 206, 207, 208, 209, 210, 211, 212, 213, 214, 215, 216, 217, 218, 219, 220, 221, 222, 223, 224, 225, 226, 227, 53, 54, 56, 243, 244, 245, 246, 247, 248, 249, 250, 251, 252, 260, 261, 262, 263, 264, 265] (by decide +kernel) (by decide +kernel)) (goodIn_sub (fun _ h => List.mem_cons_of_mem _ (List.mem_append_left _ (List.mem_append_right _ h))) (by decide +kernel))
set_option maxRecDepth 20000 in
theorem gX5_isSame__X4_palette : GoodIn wsX5_isSame_ (wsV RX5 106 RX4 yX4_palette wsX4_palette) := goodIn_app (goodIn_of _ (by decide +kernel)) ggX5_isSame__X4_palette
set_option maxRecDepth 20000 in
theorem ggX5_isSame__X4_mean : GoodIn wsX5_isSame_ wsX4_mean := goodIn_r _ [231, 132, 232, 137, 116, 117, 118, 119, 120, 121, 16, 122, 34, 35, 243, 244, 245, 246, 247, 248, 249, 250, 251, 252, 265] (by decide +kernel) (by decide +kernel)
set_option maxRecDepth 20000 in
theorem gX5_isSame__X4_mean : GoodIn wsX5_isSame_ (wsV RX5 108 RX4 yX4_mean wsX4_mean) := goodIn_app (goodIn_of _ (by decide +kernel)) ggX5_isSame__X4_mean
theorem dX5_isSame__0 : decode cX5_isSame_ 0 = .ok (.iconst 0, 1) := by decide +kernel
theorem dX5_isSame__1 : decode cX5_isSame_ 1 = .ok (.istore_n 2, 1) := by decide +kernel
theorem dX5_isSame__2 : decode cX5_isSame_ 2 = .ok (.iconst 0, 1) := by decide +kernel
theorem dX5_isSame__3 : decode cX5_isSame_ 3 = .ok (.istore_n 3, 1) := by decide +kernel
theorem dX5_isSame__4 : decode cX5_isSame_ 4 = .ok (.iload_n 3, 1) := by decide +kernel
theorem dX5_isSame__5 : decode cX5_isSame_ 5 = .ok (.bipush 6, 2) := by decide +kernel
theorem dX5_isSame__7 : decode cX5_isSame_ 7 = .ok (.if_icmp .ge 80, 3) := by decide +kernel
theorem dX5_isSame__10 : decode cX5_isSame_ 10 = .ok (.iload_n 2, 1) := by decide +kernel
theorem dX5_isSame__11 : decode cX5_isSame_ 11 = .ok (.aload_n 0, 1) := by decide +kernel
theorem dX5_isSame__12 : decode cX5_isSame_ 12 = .ok (.getfield 21, 3) := by decide +kernel
theorem dX5_isSame__15 : decode cX5_isSame_ 15 = .ok (.iload_n 3, 1) := by decide +kernel
theorem dX5_isSame__16 : decode cX5_isSame_ 16 = .ok (.iaload, 1) := by decide +kernel
theorem dX5_isSame__17 : decode cX5_isSame_ 17 = .ok (.iadd, 1) := by decide +kernel
theorem dX5_isSame__18 : decode cX5_isSame_ 18 = .ok (.istore_n 2, 1) := by decide +kernel
theorem dX5_isSame__19 : decode cX5_isSame_ 19 = .ok (.aload_n 1, 1) := by decide +kernel
theorem dX5_isSame__20 : decode cX5_isSame_ 20 = .ok (.iload_n 3, 1) := by decide +kernel
theorem dX5_isSame__21 : decode cX5_isSame_ 21 = .ok (.iconst 0, 1) := by decide +kernel
theorem dX5_isSame__22 : decode cX5_isSame_ 22 = .ok (.invokevirtual 85, 3) := by decide +kernel
theorem dX5_isSame__25 : decode cX5_isSame_ 25 = .ok (.aload_n 0, 1) := by decide +kernel
theorem dX5_isSame__26 : decode cX5_isSame_ 26 = .ok (.getfield 21, 3) := by decide +kernel
theorem dX5_isSame__29 : decode cX5_isSame_ 29 = .ok (.iload_n 3, 1) := by decide +kernel
