theorem dX5_isSame__30 : decode cX5_isSame_ 30 = .ok (.iaload, 1) := by decide +kernel
theorem dX5_isSame__31 : decode cX5_isSame_ 31 = .ok (.if_icmp .ne 48, 3) := by decide +kernel
theorem dX5_isSame__34 : decode cX5_isSame_ 34 = .ok (.aload_n 1, 1) := by decide +kernel
theorem dX5_isSame__35 : decode cX5_isSame_ 35 = .ok (.iload_n 3, 1) := by decide +kernel
theorem dX5_isSame__36 : decode cX5_isSame_ 36 = .ok (.iconst 1, 1) := by decide +kernel
theorem dX5_isSame__37 : decode cX5_isSame_ 37 = .ok (.invokevirtual 85, 3) := by decide +kernel
theorem dX5_isSame__40 : decode cX5_isSame_ 40 = .ok (.aload_n 0, 1) := by decide +kernel
theorem dX5_isSame__41 : decode cX5_isSame_ 41 = .ok (.getfield 29, 3) := by decide +kernel
theorem dX5_isSame__44 : decode cX5_isSame_ 44 = .ok (.iload_n 3, 1) := by decide +kernel
theorem dX5_isSame__45 : decode cX5_isSame_ 45 = .ok (.invokestatic 69, 3) := by decide +kernel
theorem dX5_isSame__48 : decode cX5_isSame_ 48 = .ok (.if_icmp .ne 31, 3) := by decide +kernel
theorem dX5_isSame__51 : decode cX5_isSame_ 51 = .ok (.aload_n 1, 1) := by decide +kernel
theorem dX5_isSame__52 : decode cX5_isSame_ 52 = .ok (.iload_n 3, 1) := by decide +kernel
theorem dX5_isSame__53 : decode cX5_isSame_ 53 = .ok (.iconst 2, 1) := by decide +kernel
theorem dX5_isSame__54 : decode cX5_isSame_ 54 = .ok (.invokevirtual 85, 3) := by decide +kernel
theorem dX5_isSame__57 : decode cX5_isSame_ 57 = .ok (.iload_n 3, 1) := by decide +kernel
theorem dX5_isSame__58 : decode cX5_isSame_ 58 = .ok (.aload_n 0, 1) := by decide +kernel
theorem dX5_isSame__59 : decode cX5_isSame_ 59 = .ok (.getfield 25, 3) := by decide +kernel
theorem dX5_isSame__62 : decode cX5_isSame_ 62 = .ok (.arraylength, 1) := by decide +kernel
theorem dX5_isSame__63 : decode cX5_isSame_ 63 = .ok (.if_icmp .ge 12, 3) := by decide +kernel
theorem dX5_isSame__66 : decode cX5_isSame_ 66 = .ok (.aload_n 0, 1) := by decide +kernel
theorem dX5_isSame__67 : decode cX5_isSame_ 67 = .ok (.getfield 25, 3) := by decide +kernel
theorem dX5_isSame__70 : decode cX5_isSame_ 70 = .ok (.iload_n 3, 1) := by decide +kernel
theorem dX5_isSame__71 : decode cX5_isSame_ 71 = .ok (.iaload, 1) := by decide +kernel
theorem dX5_isSame__72 : decode cX5_isSame_ 72 = .ok (.goto 4, 3) := by decide +kernel
theorem dX5_isSame__75 : decode cX5_isSame_ 75 = .ok (.iconst (-1), 1) := by decide +kernel
theorem dX5_isSame__76 : decode cX5_isSame_ 76 = .ok (.if_icmp .eq 5, 3) := by decide +kernel
theorem dX5_isSame__79 : decode cX5_isSame_ 79 = .ok (.iconst 0, 1) := by decide +kernel
theorem dX5_isSame__80 : decode cX5_isSame_ 80 = .ok (.ireturn, 1) := by decide +kernel
theorem dX5_isSame__81 : decode cX5_isSame_ 81 = .ok (.iinc 3 1, 3) := by decide +kernel
theorem dX5_isSame__84 : decode cX5_isSame_ 84 = .ok (.goto (-80), 3) := by decide +kernel
theorem dX5_isSame__87 : decode cX5_isSame_ 87 = .ok (.bipush 8, 2) := by decide +kernel
theorem dX5_isSame__89 : decode cX5_isSame_ 89 = .ok (.newarray .int, 2) := by decide +kernel
theorem dX5_isSame__91 : decode cX5_isSame_ 91 = .ok (.dup, 1) := by decide +kernel
theorem dX5_isSame__92 : decode cX5_isSame_ 92 = .ok (.iconst 0, 1) := by decide +kernel
theorem dX5_isSame__93 : decode cX5_isSame_ 93 = .ok (.aload_n 0, 1) := by decide +kernel
theorem dX5_isSame__94 : decode cX5_isSame_ 94 = .ok (.getfield 14, 3) := by decide +kernel
theorem dX5_isSame__97 : decode cX5_isSame_ 97 = .ok (.iastore, 1) := by decide +kernel
theorem dX5_isSame__98 : decode cX5_isSame_ 98 = .ok (.dup, 1) := by decide +kernel
theorem dX5_isSame__99 : decode cX5_isSame_ 99 = .ok (.iconst 1, 1) := by decide +kernel
theorem dX5_isSame__100 : decode cX5_isSame_ 100 = .ok (.aload_n 0, 1) := by decide +kernel
theorem dX5_isSame__101 : decode cX5_isSame_ 101 = .ok (.getfield 18, 3) := by decide +kernel
theorem dX5_isSame__104 : decode cX5_isSame_ 104 = .ok (.iastore, 1) := by decide +kernel
theorem dX5_isSame__105 : decode cX5_isSame_ 105 = .ok (.dup, 1) := by decide +kernel
theorem dX5_isSame__106 : decode cX5_isSame_ 106 = .ok (.iconst 2, 1) := by decide +kernel
theorem dX5_isSame__107 : decode cX5_isSame_ 107 = .ok (.aload_n 0, 1) := by decide +kernel
theorem dX5_isSame__108 : decode cX5_isSame_ 108 = .ok (.getfield 36, 3) := by decide +kernel
theorem dX5_isSame__111 : decode cX5_isSame_ 111 = .ok (.ifCond .eq 7, 3) := by decide +kernel
theorem dX5_isSame__114 : decode cX5_isSame_ 114 = .ok (.iconst 1, 1) := by decide +kernel
theorem dX5_isSame__115 : decode cX5_isSame_ 115 = .ok (.goto 4, 3) := by decide +kernel
theorem dX5_isSame__118 : decode cX5_isSame_ 118 = .ok (.iconst 0, 1) := by decide +kernel
theorem dX5_isSame__119 : decode cX5_isSame_ 119 = .ok (.iastore, 1) := by decide +kernel
theorem dX5_isSame__120 : decode cX5_isSame_ 120 = .ok (.dup, 1) := by decide +kernel
theorem dX5_isSame__121 : decode cX5_isSame_ 121 = .ok (.iconst 3, 1) := by decide +kernel
theorem dX5_isSame__122 : decode cX5_isSame_ 122 = .ok (.aload_n 0, 1) := by decide +kernel
theorem dX5_isSame__123 : decode cX5_isSame_ 123 = .ok (.getfield 46, 3) := by decide +kernel
theorem dX5_isSame__126 : decode cX5_isSame_ 126 = .ok (.ifCond .eq 7, 3) := by decide +kernel
theorem dX5_isSame__129 : decode cX5_isSame_ 129 = .ok (.iconst 1, 1) := by decide +kernel
theorem dX5_isSame__130 : decode cX5_isSame_ 130 = .ok (.goto 4, 3) := by decide +kernel
theorem dX5_isSame__133 : decode cX5_isSame_ 133 = .ok (.iconst 0, 1) := by decide +kernel
theorem dX5_isSame__134 : decode cX5_isSame_ 134 = .ok (.iastore, 1) := by decide +kernel
theorem dX5_isSame__135 : decode cX5_isSame_ 135 = .ok (.dup, 1) := by decide +kernel
theorem dX5_isSame__136 : decode cX5_isSame_ 136 = .ok (.iconst 4, 1) := by decide +kernel
theorem dX5_isSame__137 : decode cX5_isSame_ 137 = .ok (.aload_n 0, 1) := by decide +kernel
theorem dX5_isSame__138 : decode cX5_isSame_ 138 = .ok (.getfield 72, 3) := by decide +kernel
theorem dX5_isSame__141 : decode cX5_isSame_ 141 = .ok (.iastore, 1) := by decide +kernel
theorem dX5_isSame__142 : decode cX5_isSame_ 142 = .ok (.dup, 1) := by decide +kernel
theorem dX5_isSame__143 : decode cX5_isSame_ 143 = .ok (.iconst 5, 1) := by decide +kernel
theorem dX5_isSame__144 : decode cX5_isSame_ 144 = .ok (.iload_n 2, 1) := by decide +kernel
theorem dX5_isSame__145 : decode cX5_isSame_ 145 = .ok (.iastore, 1) := by decide +kernel
theorem dX5_isSame__146 : decode cX5_isSame_ 146 = .ok (.dup, 1) := by decide +kernel
theorem dX5_isSame__147 : decode cX5_isSame_ 147 = .ok (.bipush 6, 2) := by decide +kernel
theorem dX5_isSame__149 : decode cX5_isSame_ 149 = .ok (.aload_n 0, 1) := by decide +kernel
theorem dX5_isSame__150 : decode cX5_isSame_ 150 = .ok (.getfield 79, 3) := by decide +kernel
theorem dX5_isSame__153 : decode cX5_isSame_ 153 = .ok (.iastore, 1) := by decide +kernel
theorem dX5_isSame__154 : decode cX5_isSame_ 154 = .ok (.dup, 1) := by decide +kernel
theorem dX5_isSame__155 : decode cX5_isSame_ 155 = .ok (.bipush 7, 2) := by decide +kernel
theorem dX5_isSame__157 : decode cX5_isSame_ 157 = .ok (.aload_n 0, 1) := by decide +kernel
theorem dX5_isSame__158 : decode cX5_isSame_ 158 = .ok (.aload_n 0, 1) := by decide +kernel
theorem dX5_isSame__159 : decode cX5_isSame_ 159 = .ok (.getfield 29, 3) := by decide +kernel
theorem dX5_isSame__162 : decode cX5_isSame_ 162 = .ok (.invokevirtual 82, 3) := by decide +kernel
theorem dX5_isSame__165 : decode cX5_isSame_ 165 = .ok (.iastore, 1) := by decide +kernel
theorem dX5_isSame__166 : decode cX5_isSame_ 166 = .ok (.astore_n 3, 1) := by decide +kernel
theorem dX5_isSame__167 : decode cX5_isSame_ 167 = .ok (.iconst 0, 1) := by decide +kernel
theorem dX5_isSame__168 : decode cX5_isSame_ 168 = .ok (.istore 4, 2) := by decide +kernel
theorem dX5_isSame__170 : decode cX5_isSame_ 170 = .ok (.iload 4, 2) := by decide +kernel
theorem dX5_isSame__172 : decode cX5_isSame_ 172 = .ok (.bipush 8, 2) := by decide +kernel
theorem dX5_isSame__174 : decode cX5_isSame_ 174 = .ok (.if_icmp .ge 24, 3) := by decide +kernel
theorem dX5_isSame__177 : decode cX5_isSame_ 177 = .ok (.aload_n 1, 1) := by decide +kernel
theorem dX5_isSame__178 : decode cX5_isSame_ 178 = .ok (.iload 4, 2) := by decide +kernel
theorem dX5_isSame__180 : decode cX5_isSame_ 180 = .ok (.invokevirtual 91, 3) := by decide +kernel
theorem dX5_isSame__183 : decode cX5_isSame_ 183 = .ok (.aload_n 3, 1) := by decide +kernel
theorem dX5_isSame__184 : decode cX5_isSame_ 184 = .ok (.iload 4, 2) := by decide +kernel
theorem dX5_isSame__186 : decode cX5_isSame_ 186 = .ok (.iaload, 1) := by decide +kernel
theorem dX5_isSame__187 : decode cX5_isSame_ 187 = .ok (.if_icmp .eq 5, 3) := by decide +kernel
theorem dX5_isSame__190 : decode cX5_isSame_ 190 = .ok (.iconst 0, 1) := by decide +kernel
theorem dX5_isSame__191 : decode cX5_isSame_ 191 = .ok (.ireturn, 1) := by decide +kernel
theorem dX5_isSame__192 : decode cX5_isSame_ 192 = .ok (.iinc 4 1, 3) := by decide +kernel
theorem dX5_isSame__195 : decode cX5_isSame_ 195 = .ok (.goto (-25), 3) := by decide +kernel
theorem dX5_isSame__198 : decode cX5_isSame_ 198 = .ok (.iconst 0, 1) := by decide +kernel
theorem dX5_isSame__199 : decode cX5_isSame_ 199 = .ok (.istore 4, 2) := by decide +kernel
theorem dX5_isSame__201 : decode cX5_isSame_ 201 = .ok (.iconst 0, 1) := by decide +kernel
theorem dX5_isSame__202 : decode cX5_isSame_ 202 = .ok (.istore 5, 2) := by decide +kernel
theorem dX5_isSame__204 : decode cX5_isSame_ 204 = .ok (.iload 5, 2) := by decide +kernel
theorem dX5_isSame__206 : decode cX5_isSame_ 206 = .ok (.bipush 8, 2) := by decide +kernel
theorem dX5_isSame__208 : decode cX5_isSame_ 208 = .ok (.if_icmp .ge 175, 3) := by decide +kernel
theorem dX5_isSame__211 : decode cX5_isSame_ 211 = .ok (.iconst 0, 1) := by decide +kernel
theorem dX5_isSame__212 : decode cX5_isSame_ 212 = .ok (.istore 6, 2) := by decide +kernel
theorem dX5_isSame__214 : decode cX5_isSame_ 214 = .ok (.iload 6, 2) := by decide +kernel
theorem dX5_isSame__216 : decode cX5_isSame_ 216 = .ok (.bipush 12, 2) := by decide +kernel
theorem dX5_isSame__218 : decode cX5_isSame_ 218 = .ok (.if_icmp .ge 75, 3) := by decide +kernel
theorem dX5_isSame__221 : decode cX5_isSame_ 221 = .ok (.iload 4, 2) := by decide +kernel
theorem dX5_isSame__223 : decode cX5_isSame_ 223 = .ok (.aload_n 0, 1) := by decide +kernel
theorem dX5_isSame__224 : decode cX5_isSame_ 224 = .ok (.getfield 9, 3) := by decide +kernel
theorem dX5_isSame__227 : decode cX5_isSame_ 227 = .ok (.iload 5, 2) := by decide +kernel
theorem dX5_isSame__229 : decode cX5_isSame_ 229 = .ok (.aaload, 1) := by decide +kernel
theorem dX5_isSame__230 : decode cX5_isSame_ 230 = .ok (.iload 6, 2) := by decide +kernel
theorem dX5_isSame__232 : decode cX5_isSame_ 232 = .ok (.iaload, 1) := by decide +kernel
theorem dX5_isSame__233 : decode cX5_isSame_ 233 = .ok (.iadd, 1) := by decide +kernel
theorem dX5_isSame__234 : decode cX5_isSame_ 234 = .ok (.istore 4, 2) := by decide +kernel
theorem dX5_isSame__236 : decode cX5_isSame_ 236 = .ok (.aload_n 1, 1) := by decide +kernel
theorem dX5_isSame__237 : decode cX5_isSame_ 237 = .ok (.iload 6, 2) := by decide +kernel
theorem dX5_isSame__239 : decode cX5_isSame_ 239 = .ok (.iload 5, 2) := by decide +kernel
theorem dX5_isSame__241 : decode cX5_isSame_ 241 = .ok (.invokevirtual 94, 3) := by decide +kernel
theorem dX5_isSame__244 : decode cX5_isSame_ 244 = .ok (.aload_n 0, 1) := by decide +kernel
theorem dX5_isSame__245 : decode cX5_isSame_ 245 = .ok (.getfield 9, 3) := by decide +kernel
theorem dX5_isSame__248 : decode cX5_isSame_ 248 = .ok (.iload 5, 2) := by decide +kernel
theorem dX5_isSame__250 : decode cX5_isSame_ 250 = .ok (.aaload, 1) := by decide +kernel
theorem dX5_isSame__251 : decode cX5_isSame_ 251 = .ok (.iload 6, 2) := by decide +kernel
theorem dX5_isSame__253 : decode cX5_isSame_ 253 = .ok (.iaload, 1) := by decide +kernel
theorem dX5_isSame__254 : decode cX5_isSame_ 254 = .ok (.if_icmp .ne 31, 3) := by decide +kernel
theorem dX5_isSame__257 : decode cX5_isSame_ 257 = .ok (.aload_n 0, 1) := by decide +kernel
theorem dX5_isSame__258 : decode cX5_isSame_ 258 = .ok (.getfield 72, 3) := by decide +kernel
theorem dX5_isSame__261 : decode cX5_isSame_ 261 = .ok (.ifCond .le 26, 3) := by decide +kernel
theorem dX5_isSame__264 : decode cX5_isSame_ 264 = .ok (.aload_n 1, 1) := by decide +kernel
theorem dX5_isSame__265 : decode cX5_isSame_ 265 = .ok (.iload 6, 2) := by decide +kernel
theorem dX5_isSame__267 : decode cX5_isSame_ 267 = .ok (.iload 5, 2) := by decide +kernel
theorem dX5_isSame__269 : decode cX5_isSame_ 269 = .ok (.invokevirtual 97, 3) := by decide +kernel
theorem dX5_isSame__272 : decode cX5_isSame_ 272 = .ok (.aload_n 0, 1) := by decide +kernel
theorem dX5_isSame__273 : decode cX5_isSame_ 273 = .ok (.getfield 29, 3) := by decide +kernel
theorem dX5_isSame__276 : decode cX5_isSame_ 276 = .ok (.iload 5, 2) := by decide +kernel
theorem dX5_isSame__278 : decode cX5_isSame_ 278 = .ok (.aaload, 1) := by decide +kernel
theorem dX5_isSame__279 : decode cX5_isSame_ 279 = .ok (.iload 6, 2) := by decide +kernel
theorem dX5_isSame__281 : decode cX5_isSame_ 281 = .ok (.iaload, 1) := by decide +kernel
theorem dX5_isSame__282 : decode cX5_isSame_ 282 = .ok (.if_icmp .eq 5, 3) := by decide +kernel
theorem dX5_isSame__285 : decode cX5_isSame_ 285 = .ok (.iconst 0, 1) := by decide +kernel
theorem dX5_isSame__286 : decode cX5_isSame_ 286 = .ok (.ireturn, 1) := by decide +kernel
theorem dX5_isSame__287 : decode cX5_isSame_ 287 = .ok (.iinc 6 1, 3) := by decide +kernel
theorem dX5_isSame__290 : decode cX5_isSame_ 290 = .ok (.goto (-76), 3) := by decide +kernel
theorem dX5_isSame__293 : decode cX5_isSame_ 293 = .ok (.aload_n 0, 1) := by decide +kernel
theorem dX5_isSame__294 : decode cX5_isSame_ 294 = .ok (.getfield 72, 3) := by decide +kernel
theorem dX5_isSame__297 : decode cX5_isSame_ 297 = .ok (.ifCond .ne 6, 3) := by decide +kernel
theorem dX5_isSame__300 : decode cX5_isSame_ 300 = .ok (.goto 77, 3) := by decide +kernel
theorem dX5_isSame__303 : decode cX5_isSame_ 303 = .ok (.aload_n 0, 1) := by decide +kernel
theorem dX5_isSame__304 : decode cX5_isSame_ 304 = .ok (.getfield 29, 3) := by decide +kernel
theorem dX5_isSame__307 : decode cX5_isSame_ 307 = .ok (.iload 5, 2) := by decide +kernel
theorem dX5_isSame__309 : decode cX5_isSame_ 309 = .ok (.aaload, 1) := by decide +kernel
theorem dX5_isSame__310 : decode cX5_isSame_ 310 = .ok (.invokestatic 53, 3) := by decide +kernel
theorem dX5_isSame__313 : decode cX5_isSame_ 313 = .ok (.astore 6, 2) := by decide +kernel
theorem dX5_isSame__315 : decode cX5_isSame_ 315 = .ok (.iconst 0, 1) := by decide +kernel
theorem dX5_isSame__316 : decode cX5_isSame_ 316 = .ok (.istore 7, 2) := by decide +kernel
theorem dX5_isSame__318 : decode cX5_isSame_ 318 = .ok (.iload 7, 2) := by decide +kernel
theorem dX5_isSame__320 : decode cX5_isSame_ 320 = .ok (.aload 6, 2) := by decide +kernel
theorem dX5_isSame__322 : decode cX5_isSame_ 322 = .ok (.arraylength, 1) := by decide +kernel
theorem dX5_isSame__323 : decode cX5_isSame_ 323 = .ok (.if_icmp .ge 33, 3) := by decide +kernel
theorem dX5_isSame__326 : decode cX5_isSame_ 326 = .ok (.aload_n 1, 1) := by decide +kernel
theorem dX5_isSame__327 : decode cX5_isSame_ 327 = .ok (.iload 5, 2) := by decide +kernel
theorem dX5_isSame__329 : decode cX5_isSame_ 329 = .ok (.iload 7, 2) := by decide +kernel
theorem dX5_isSame__331 : decode cX5_isSame_ 331 = .ok (.iconst 2, 1) := by decide +kernel
theorem dX5_isSame__332 : decode cX5_isSame_ 332 = .ok (.idiv, 1) := by decide +kernel
theorem dX5_isSame__333 : decode cX5_isSame_ 333 = .ok (.iload 7, 2) := by decide +kernel
theorem dX5_isSame__335 : decode cX5_isSame_ 335 = .ok (.iconst 2, 1) := by decide +kernel
theorem dX5_isSame__336 : decode cX5_isSame_ 336 = .ok (.irem, 1) := by decide +kernel
theorem dX5_isSame__337 : decode cX5_isSame_ 337 = .ok (.invokevirtual 100, 3) := by decide +kernel
theorem dX5_isSame__340 : decode cX5_isSame_ 340 = .ok (.aload 6, 2) := by decide +kernel
theorem dX5_isSame__342 : decode cX5_isSame_ 342 = .ok (.iload 7, 2) := by decide +kernel
theorem dX5_isSame__344 : decode cX5_isSame_ 344 = .ok (.iaload, 1) := by decide +kernel
theorem dX5_isSame__345 : decode cX5_isSame_ 345 = .ok (.if_icmp .eq 5, 3) := by decide +kernel
theorem dX5_isSame__348 : decode cX5_isSame_ 348 = .ok (.iconst 0, 1) := by decide +kernel
theorem dX5_isSame__349 : decode cX5_isSame_ 349 = .ok (.ireturn, 1) := by decide +kernel
theorem dX5_isSame__350 : decode cX5_isSame_ 350 = .ok (.iinc 7 1, 3) := by decide +kernel
theorem dX5_isSame__353 : decode cX5_isSame_ 353 = .ok (.goto (-35), 3) := by decide +kernel
theorem dX5_isSame__356 : decode cX5_isSame_ 356 = .ok (.aload_n 1, 1) := by decide +kernel
theorem dX5_isSame__357 : decode cX5_isSame_ 357 = .ok (.iload 5, 2) := by decide +kernel
theorem dX5_isSame__359 : decode cX5_isSame_ 359 = .ok (.invokevirtual 104, 3) := by decide +kernel
theorem dX5_isSame__362 : decode cX5_isSame_ 362 = .ok (.aload_n 0, 1) := by decide +kernel
theorem dX5_isSame__363 : decode cX5_isSame_ 363 = .ok (.aload_n 0, 1) := by decide +kernel
theorem dX5_isSame__364 : decode cX5_isSame_ 364 = .ok (.getfield 29, 3) := by decide +kernel
theorem dX5_isSame__367 : decode cX5_isSame_ 367 = .ok (.iload 5, 2) := by decide +kernel
theorem dX5_isSame__369 : decode cX5_isSame_ 369 = .ok (.invokevirtual 57, 3) := by decide +kernel
theorem dX5_isSame__372 : decode cX5_isSame_ 372 = .ok (.if_icmp .eq 5, 3) := by decide +kernel
theorem dX5_isSame__375 : decode cX5_isSame_ 375 = .ok (.iconst 0, 1) := by decide +kernel
theorem dX5_isSame__376 : decode cX5_isSame_ 376 = .ok (.ireturn, 1) := by decide +kernel
theorem dX5_isSame__377 : decode cX5_isSame_ 377 = .ok (.iinc 5 1, 3) := by decide +kernel
theorem dX5_isSame__380 : decode cX5_isSame_ 380 = .ok (.goto (-176), 3) := by decide +kernel
theorem dX5_isSame__383 : decode cX5_isSame_ 383 = .ok (.aload_n 0, 1) := by decide +kernel
theorem dX5_isSame__384 : decode cX5_isSame_ 384 = .ok (.aload_n 0, 1) := by decide +kernel
theorem dX5_isSame__385 : decode cX5_isSame_ 385 = .ok (.getfield 14, 3) := by decide +kernel
theorem dX5_isSame__388 : decode cX5_isSame_ 388 = .ok (.invokevirtual 61, 3) := by decide +kernel
theorem dX5_isSame__391 : decode cX5_isSame_ 391 = .ok (.astore 5, 2) := by decide +kernel
theorem dX5_isSame__393 : decode cX5_isSame_ 393 = .ok (.iconst 0, 1) := by decide +kernel
theorem dX5_isSame__394 : decode cX5_isSame_ 394 = .ok (.istore 6, 2) := by decide +kernel
theorem dX5_isSame__396 : decode cX5_isSame_ 396 = .ok (.iload 6, 2) := by decide +kernel
theorem dX5_isSame__398 : decode cX5_isSame_ 398 = .ok (.bipush 6, 2) := by decide +kernel
theorem dX5_isSame__400 : decode cX5_isSame_ 400 = .ok (.if_icmp .ge 37, 3) := by decide +kernel
theorem dX5_isSame__403 : decode cX5_isSame_ 403 = .ok (.aload_n 1, 1) := by decide +kernel
theorem dX5_isSame__404 : decode cX5_isSame_ 404 = .ok (.iload 6, 2) := by decide +kernel
theorem dX5_isSame__406 : decode cX5_isSame_ 406 = .ok (.invokevirtual 106, 3) := by decide +kernel
theorem dX5_isSame__409 : decode cX5_isSame_ 409 = .ok (.iload 6, 2) := by decide +kernel
theorem dX5_isSame__411 : decode cX5_isSame_ 411 = .ok (.aload 5, 2) := by decide +kernel
theorem dX5_isSame__413 : decode cX5_isSame_ 413 = .ok (.arraylength, 1) := by decide +kernel
theorem dX5_isSame__414 : decode cX5_isSame_ 414 = .ok (.if_icmp .ge 11, 3) := by decide +kernel
theorem dX5_isSame__417 : decode cX5_isSame_ 417 = .ok (.aload 5, 2) := by decide +kernel
theorem dX5_isSame__419 : decode cX5_isSame_ 419 = .ok (.iload 6, 2) := by decide +kernel
theorem dX5_isSame__421 : decode cX5_isSame_ 421 = .ok (.iaload, 1) := by decide +kernel
theorem dX5_isSame__422 : decode cX5_isSame_ 422 = .ok (.goto 4, 3) := by decide +kernel
theorem dX5_isSame__425 : decode cX5_isSame_ 425 = .ok (.iconst (-1), 1) := by decide +kernel
theorem dX5_isSame__426 : decode cX5_isSame_ 426 = .ok (.if_icmp .eq 5, 3) := by decide +kernel
theorem dX5_isSame__429 : decode cX5_isSame_ 429 = .ok (.iconst 0, 1) := by decide +kernel
theorem dX5_isSame__430 : decode cX5_isSame_ 430 = .ok (.ireturn, 1) := by decide +kernel
theorem dX5_isSame__431 : decode cX5_isSame_ 431 = .ok (.iinc 6 1, 3) := by decide +kernel
theorem dX5_isSame__434 : decode cX5_isSame_ 434 = .ok (.goto (-38), 3) := by decide +kernel
theorem dX5_isSame__437 : decode cX5_isSame_ 437 = .ok (.aload_n 1, 1) := by decide +kernel
theorem dX5_isSame__438 : decode cX5_isSame_ 438 = .ok (.invokevirtual 108, 3) := by decide +kernel
theorem dX5_isSame__441 : decode cX5_isSame_ 441 = .ok (.iload 4, 2) := by decide +kernel
theorem dX5_isSame__443 : decode cX5_isSame_ 443 = .ok (.i2d, 1) := by decide +kernel
theorem dX5_isSame__444 : decode cX5_isSame_ 444 = .ok (.ldc2_w 112, 3) := by decide +kernel
theorem dX5_isSame__447 : decode cX5_isSame_ 447 = .ok (.ddiv, 1) := by decide +kernel
theorem dX5_isSame__448 : decode cX5_isSame_ 448 = .ok (.dcmp .l, 1) := by decide +kernel
theorem dX5_isSame__449 : decode cX5_isSame_ 449 = .ok (.ifCond .ne 7, 3) := by decide +kernel
theorem dX5_isSame__452 : decode cX5_isSame_ 452 = .ok (.iconst 1, 1) := by decide +kernel
theorem dX5_isSame__453 : decode cX5_isSame_ 453 = .ok (.goto 4, 3) := by decide +kernel
theorem dX5_isSame__456 : decode cX5_isSame_ 456 = .ok (.iconst 0, 1) := by decide +kernel
theorem dX5_isSame__457 : decode cX5_isSame_ 457 = .ok (.ireturn, 1) := by decide +kernel
theorem dJ9_abs_0f7a4_0 : decode cJ9_abs_0f7a4 0 = .ok (.iload_n 0, 1) := by decide +kernel
theorem dJ9_abs_0f7a4_1 : decode cJ9_abs_0f7a4 1 = .ok (.ifCond .ge 8, 3) := by decide +kernel
theorem dJ9_abs_0f7a4_4 : decode cJ9_abs_0f7a4 4 = .ok (.iload_n 0, 1) := by decide +kernel
theorem dJ9_abs_0f7a4_5 : decode cJ9_abs_0f7a4 5 = .ok (.ineg, 1) := by decide +kernel
theorem dJ9_abs_0f7a4_6 : decode cJ9_abs_0f7a4 6 = .ok (.goto 4, 3) := by decide +kernel
theorem dJ9_abs_0f7a4_9 : decode cJ9_abs_0f7a4 9 = .ok (.iload_n 0, 1) := by decide +kernel
theorem dJ9_abs_0f7a4_10 : decode cJ9_abs_0f7a4 10 = .ok (.ireturn, 1) := by decide +kernel
theorem dJ9_max_7cf53_0 : decode cJ9_max_7cf53 0 = .ok (.iload_n 0, 1) := by decide +kernel
theorem dJ9_max_7cf53_1 : decode cJ9_max_7cf53 1 = .ok (.iload_n 1, 1) := by decide +kernel
theorem dJ9_max_7cf53_2 : decode cJ9_max_7cf53 2 = .ok (.if_icmp .lt 7, 3) := by decide +kernel
theorem dJ9_max_7cf53_5 : decode cJ9_max_7cf53 5 = .ok (.iload_n 0, 1) := by decide +kernel
theorem dJ9_max_7cf53_6 : decode cJ9_max_7cf53 6 = .ok (.goto 4, 3) := by decide +kernel
theorem dJ9_max_7cf53_9 : decode cJ9_max_7cf53 9 = .ok (.iload_n 1, 1) := by decide +kernel
theorem dJ9_max_7cf53_10 : decode cJ9_max_7cf53 10 = .ok (.ireturn, 1) := by decide +kernel
theorem dJ9_min_7cf53_0 : decode cJ9_min_7cf53 0 = .ok (.iload_n 0, 1) := by decide +kernel
theorem dJ9_min_7cf53_1 : decode cJ9_min_7cf53 1 = .ok (.iload_n 1, 1) := by decide +kernel
theorem dJ9_min_7cf53_2 : decode cJ9_min_7cf53 2 = .ok (.if_icmp .gt 7, 3) := by decide +kernel
theorem dJ9_min_7cf53_5 : decode cJ9_min_7cf53 5 = .ok (.iload_n 0, 1) := by decide +kernel
theorem dJ9_min_7cf53_6 : decode cJ9_min_7cf53 6 = .ok (.goto 4, 3) := by decide +kernel
theorem dJ9_min_7cf53_9 : decode cJ9_min_7cf53 9 = .ok (.iload_n 1, 1) := by decide +kernel
theorem dJ9_min_7cf53_10 : decode cJ9_min_7cf53 10 = .ok (.ireturn, 1) := by decide +kernel
theorem dL_below_0 : decode cL_below 0 = .ok (.iload_n 0, 1) := by decide +kernel
theorem dL_below_1 : decode cL_below 1 = .ok (.ldc 7, 2) := by decide +kernel
theorem dL_below_3 : decode cL_below 3 = .ok (.iand, 1) := by decide +kernel
theorem dL_below_4 : decode cL_below 4 = .ok (.iload_n 1, 1) := by decide +kernel
theorem dL_below_5 : decode cL_below 5 = .ok (.irem, 1) := by decide +kernel
theorem dL_below_6 : decode cL_below 6 = .ok (.ireturn, 1) := by decide +kernel
theorem dL_cell_0 : decode cL_cell 0 = .ok (.iload_n 1, 1) := by decide +kernel
theorem dL_cell_1 : decode cL_cell 1 = .ok (.aload_n 0, 1) := by decide +kernel
theorem dL_cell_2 : decode cL_cell 2 = .ok (.arraylength, 1) := by decide +kernel
theorem dL_cell_3 : decode cL_cell 3 = .ok (.if_icmp .ge 9, 3) := by decide +kernel
theorem dL_cell_6 : decode cL_cell 6 = .ok (.aload_n 0, 1) := by decide +kernel
theorem dL_cell_7 : decode cL_cell 7 = .ok (.iload_n 1, 1) := by decide +kernel
theorem dL_cell_8 : decode cL_cell 8 = .ok (.iaload, 1) := by decide +kernel
theorem dL_cell_9 : decode cL_cell 9 = .ok (.goto 9, 3) := by decide +kernel
theorem dL_cell_12 : decode cL_cell 12 = .ok (.ldc 8, 2) := by decide +kernel
theorem dL_cell_14 : decode cL_cell 14 = .ok (.iload_n 1, 1) := by decide +kernel
theorem dL_cell_15 : decode cL_cell 15 = .ok (.iconst 3, 1) := by decide +kernel
theorem dL_cell_16 : decode cL_cell 16 = .ok (.iadd, 1) := by decide +kernel
theorem dL_cell_17 : decode cL_cell 17 = .ok (.imul, 1) := by decide +kernel
theorem dL_cell_18 : decode cL_cell 18 = .ok (.ireturn, 1) := by decide +kernel
set_option maxRecDepth 20000 in
theorem ggL_act_L_below : GoodIn wsL_act wsL_below := goodIn_r _ [24, 25] (by decide +kernel) (by decide +kernel)
set_option maxRecDepth 20000 in
theorem gL_act_L_below : GoodIn wsL_act (va_wsS RL 9 yL_below wsL_below) := goodIn_app (goodIn_of _ (by decide +kernel)) ggL_act_L_below
set_option maxRecDepth 20000 in
theorem ggL_act_X4_set : GoodIn wsL_act wsX4_set := goodIn_ca (goodIn_ca (goodIn_r _ [30, 31, 32, 33, 29, 34, 35, 36, 37, 38, 39, 40, 41, 42, 43, 44, 45, 46, 47, 48, 49, 50, 51, 52, 53, 54, 55, 56, 57, 58, 59, 60, 61, 333, 334, 335, 336, 337, 338, 339, 340, 341, 342, 343] (by decide +kernel) (by decide +kernel)) (goodIn_sub (fun _ h => List.mem_cons_of_mem _ (List.mem_append_left _ (List.mem_append_left _ (List.mem_append_right _ h)))) (by decide +kernel))) (goodIn_sub (fun _ h => List.mem_cons_of_mem _ (List.mem_append_left _ (List.mem_append_right _ h))) (by decide +kernel))
set_option maxRecDepth 20000 in
theorem gL_act_X4_set : GoodIn wsL_act (wsV RL 21 RX4 yX4_set wsX4_set) := goodIn_app (goodIn_of _ (by decide +kernel)) ggL_act_X4_set
set_option maxRecDepth 20000 in
theorem ggL_act_X4_row : GoodIn wsL_act wsX4_row := goodIn_ca (goodIn_ca (goodIn_r _ [65, 31, 66, 67, 29, 68, 69, 70, 71, 35, 36, 40, 41, 42, 43, 44, 45, 46, 47, 72, 73, 74, 75, 76, 77, 78, 4, 5, 6, 79, 8, 9, 56, 57, 58, 51, 59, 53, 38, 39, 60, 61, 48, 49, 50, 52, 54, 55, 333, 334, 335, 336, 337, 338, 339, 340, 341, 342, 343] (by decide +kernel) (by decide +kernel)) (goodIn_sub (fun _ h => List.mem_cons_of_mem _ (List.mem_append_left _ (List.mem_append_left _ (List.mem_append_right _ h)))) (by decide +kernel))) (goodIn_sub (fun _ h => List.mem_cons_of_mem _ (List.mem_append_left _ (List.mem_append_right _ h))) (by decide +kernel))
set_option maxRecDepth 20000 in
theorem gL_act_X4_row : GoodIn wsL_act (wsV RL 35 RX4 yX4_row wsX4_row) := goodIn_app (goodIn_of _ (by decide +kernel)) ggL_act_X4_row
set_option maxRecDepth 20000 in
theorem ggL_act_X4_like : GoodIn wsL_act wsX4_like := goodIn_ca (goodIn_r _ [83, 31, 66, 67, 29, 68, 69, 70, 71, 35, 36, 48, 49, 50, 51, 52, 53, 38, 39, 54, 55, 56, 57, 58, 59, 60, 61, 333, 334, 335, 336, 337, 338, 339, 340, 341, 342, 343] (by decide +kernel) (by decide +kernel)) (goodIn_sub (fun _ h => List.mem_cons_of_mem _ (List.mem_append_left _ (List.mem_append_left _ (List.mem_append_right _ h)))) (by decide +kernel))
set_option maxRecDepth 20000 in
theorem gL_act_X4_like : GoodIn wsL_act (wsV RL 44 RX4 yX4_like wsX4_like) := goodIn_app (goodIn_of _ (by decide +kernel)) ggL_act_X4_like
set_option maxRecDepth 20000 in
theorem ggL_act_X4_setColours : GoodIn wsL_act wsX4_setColours := goodIn_ca (goodIn_r _ [87, 88, 89, 90, 29, 91, 43, 44, 45, 46, 47, 333, 334, 335, 336, 337, 338, 339, 340, 341, 342] (by decide +kernel) (by decide +kernel)) (goodIn_sub (fun _ h => List.mem_cons_of_mem _ (List.mem_append_left _ (List.mem_append_right _ h))) (by decide +kernel))
set_option maxRecDepth 20000 in
theorem gL_act_X4_setColours : GoodIn wsL_act (wsV RL 51 RX4 yX4_setColours wsX4_setColours) := goodIn_app (goodIn_of _ (by decide +kernel)) ggL_act_X4_setColours
set_option maxRecDepth 20000 in
theorem ggL_act_X4_setCarry : GoodIn wsL_act wsX4_setCarry := goodIn_ca (goodIn_r _ [95, 96, 69, 70, 29, 71, 35, 36, 333, 334, 335, 336, 337, 338, 339, 340, 341, 342] (by decide +kernel) (by decide +kernel)) (goodIn_sub (fun _ h => List.mem_cons_of_mem _ (List.mem_append_left _ (List.mem_append_left _ (List.mem_append_right _ h)))) (by decide +kernel))
set_option maxRecDepth 20000 in
theorem gL_act_X4_setCarry : GoodIn wsL_act (wsV RL 58 RX4 yX4_setCarry wsX4_setCarry) := goodIn_app (goodIn_of _ (by decide +kernel)) ggL_act_X4_setCarry
set_option maxRecDepth 20000 in
theorem ggL_act_X4_setTurning : GoodIn wsL_act wsX4_setTurning := goodIn_r _ [100, 101, 333, 334, 335, 336, 337, 338, 339, 340, 341, 342] (by decide +kernel) (by decide +kernel)
set_option maxRecDepth 20000 in
theorem gL_act_X4_setTurning : GoodIn wsL_act (wsV RL 65 RX4 yX4_setTurning wsX4_setTurning) := goodIn_app (goodIn_of _ (by decide +kernel)) ggL_act_X4_setTurning
set_option maxRecDepth 20000 in
theorem ggL_act_X4_setPressing : GoodIn wsL_act wsX4_setPressing := goodIn_r _ [105, 106, 333, 334, 335, 336, 337, 338, 339, 340, 341, 342] (by decide +kernel) (by decide +kernel)
set_option maxRecDepth 20000 in
theorem gL_act_X4_setPressing : GoodIn wsL_act (wsV RL 72 RX4 yX4_setPressing wsX4_setPressing) := goodIn_app (goodIn_of _ (by decide +kernel)) ggL_act_X4_setPressing
set_option maxRecDepth 20000 in
theorem ggL_act_X4_wind : GoodIn wsL_act wsX4_wind := goodIn_ca (goodIn_ca (goodIn_r _ [110, 111, 112, 113, 29, 114, 69, 70, 71, 35, 36, 115, 116, 117, 43, 44, 45, 46, 47, 118, 119, 120, 121, 122, 123, 124, 4, 5, 6, 125, 126, 127, 128, 54, 55, 60, 61, 129, 333, 334, 335, 336, 337, 338, 339, 340, 341, 342, 344] (by decide +kernel) (by decide +kernel)) (goodIn_sub (fun _ h => List.mem_cons_of_mem _ (List.mem_append_left _ (List.mem_append_left _ (List.mem_append_right _ h)))) (by decide +kernel))) (goodIn_sub (fun _ h => List.mem_cons_of_mem _ (List.mem_append_left _ (List.mem_append_right _ h))) (by decide +kernel))
set_option maxRecDepth 20000 in
theorem gL_act_X4_wind : GoodIn wsL_act (wsV RL 78 RX4 yX4_wind wsX4_wind) := goodIn_app (goodIn_of _ (by decide +kernel)) ggL_act_X4_wind
set_option maxRecDepth 20000 in
theorem ggL_act_X5_weave : GoodIn wsL_act wsX5_weave := goodIn_r _ [134, 135, 136, 137, 138, 139, 140, 141, 142, 143, 133, 144, 145, 146, 147, 148, 149, 150, 151, 152, 153, 154, 155, 156, 157, 158, 5, 159, 160, 161, 162, 163, 164, 165, 166, 167, 168, 169, 170, 171, 172, 173, 174, 175, 176, 177, 178, 179, 180, 181, 182, 323, 324, 325, 326, 327, 328, 329, 330, 331, 332] (by decide +kernel) (by decide +kernel)
set_option maxRecDepth 20000 in
theorem gL_act_X5_weave : GoodIn wsL_act (wsV RL 81 RX5 yX5_weave wsX5_weave) := goodIn_app (goodIn_of _ (by decide +kernel)) ggL_act_X5_weave
set_option maxRecDepth 20000 in
theorem ggL_act_X4_weave : GoodIn wsL_act wsX4_weave := goodIn_ca (goodIn_r _ [186, 187, 31, 88, 96, 101, 111, 188, 106, 189, 190, 191, 192, 193, 194, 195, 196, 197, 198, 199, 200, 201, 202, 203, 204, 205, 206, 207, 208, 209, 210, 211, 29, 212, 213, 49, 50, 51, 52, 53, 38, 39, 54, 55, 60, 61, 214, 215, 216, 217, 218, 219, 220, 221, 222, 223, 224, 225, 226, 227, 228, 229, 230, 231, 232, 233, 234, 235, 236, 237, 238, 239, 240, 241, 242, 243, 244, 245, 246, 247, 248, 249, 250, 251, 252, 158, 5, 159, 253, 254, 255, 256, 257, 258, 259, 260, 261, 262, 263, 264, 265, 266, 267, 268, 57, 58, 59, 269, 270, 271, 272, 273, 274, 275, 276, 277, 278, 279, 280, 281, 282, 283, 284, 285, 286, 287, 288, 289, 290, 291, 292, 121, 293, 294, 295, 296, 297, 125, 126, 127, 128, 123, 298, 299, 300, 301, 302, 303, 304, 305, 306, 307, 308, 309, 310, 311, 312, 313, 314, 315, 316, 317, 318, 319, 320, 321, 322, 333, 334, 335, 336, 337, 338, 339, 340, 341, 342, 345, 346, 347, 348, 349, 350, 351, 352, 353, 354, 355, 343, 344] (by decide +kernel) (by decide +kernel)) (goodIn_sub (fun _ h => List.mem_cons_of_mem _ (List.mem_append_right _ h)) (by decide +kernel))
set_option maxRecDepth 20000 in
theorem gL_act_X4_weave : GoodIn wsL_act (wsV RL 85 RX4 yX4_weave wsX4_weave) := goodIn_app (goodIn_of _ (by decide +kernel)) ggL_act_X4_weave
theorem dL_act_0 : decode cL_act 0 = .ok (.iload_n 2, 1) := by decide +kernel
theorem dL_act_1 : decode cL_act 1 = .ok (.iconst 3, 1) := by decide +kernel
theorem dL_act_2 : decode cL_act 2 = .ok (.ishr, 1) := by decide +kernel
theorem dL_act_3 : decode cL_act 3 = .ok (.bipush 8, 2) := by decide +kernel
theorem dL_act_5 : decode cL_act 5 = .ok (.invokestatic 9, 3) := by decide +kernel
theorem dL_act_8 : decode cL_act 8 = .ok (.istore_n 3, 1) := by decide +kernel
theorem dL_act_9 : decode cL_act 9 = .ok (.iload_n 2, 1) := by decide +kernel
theorem dL_act_10 : decode cL_act 10 = .ok (.bipush 14, 2) := by decide +kernel
theorem dL_act_12 : decode cL_act 12 = .ok (.invokestatic 9, 3) := by decide +kernel
theorem dL_act_15 : decode cL_act 15 = .ok (.tableswitch 580 0 10 #[57, 57, 123, 123, 123, 250, 348, 386, 422, 466, 510], 57) := by decide +kernel
theorem dL_act_72 : decode cL_act 72 = .ok (.iload_n 2, 1) := by decide +kernel
theorem dL_act_73 : decode cL_act 73 = .ok (.iconst 5, 1) := by decide +kernel
theorem dL_act_74 : decode cL_act 74 = .ok (.ishr, 1) := by decide +kernel
theorem dL_act_75 : decode cL_act 75 = .ok (.bipush 12, 2) := by decide +kernel
theorem dL_act_77 : decode cL_act 77 = .ok (.invokestatic 9, 3) := by decide +kernel
theorem dL_act_80 : decode cL_act 80 = .ok (.istore 5, 2) := by decide +kernel
theorem dL_act_82 : decode cL_act 82 = .ok (.aload_n 1, 1) := by decide +kernel
theorem dL_act_83 : decode cL_act 83 = .ok (.getfield 15, 3) := by decide +kernel
theorem dL_act_86 : decode cL_act 86 = .ok (.iload_n 3, 1) := by decide +kernel
theorem dL_act_87 : decode cL_act 87 = .ok (.aaload, 1) := by decide +kernel
theorem dL_act_88 : decode cL_act 88 = .ok (.iload 5, 2) := by decide +kernel
theorem dL_act_90 : decode cL_act 90 = .ok (.iaload, 1) := by decide +kernel
theorem dL_act_91 : decode cL_act 91 = .ok (.istore 6, 2) := by decide +kernel
theorem dL_act_93 : decode cL_act 93 = .ok (.aload_n 1, 1) := by decide +kernel
theorem dL_act_94 : decode cL_act 94 = .ok (.getfield 15, 3) := by decide +kernel
theorem dL_act_97 : decode cL_act 97 = .ok (.iload_n 3, 1) := by decide +kernel
theorem dL_act_98 : decode cL_act 98 = .ok (.aaload, 1) := by decide +kernel
theorem dL_act_99 : decode cL_act 99 = .ok (.iload 5, 2) := by decide +kernel
theorem dL_act_101 : decode cL_act 101 = .ok (.iload_n 2, 1) := by decide +kernel
theorem dL_act_102 : decode cL_act 102 = .ok (.iconst 4, 1) := by decide +kernel
theorem dL_act_103 : decode cL_act 103 = .ok (.ishr, 1) := by decide +kernel
theorem dL_act_104 : decode cL_act 104 = .ok (.sipush 256, 3) := by decide +kernel
theorem dL_act_107 : decode cL_act 107 = .ok (.invokestatic 9, 3) := by decide +kernel
theorem dL_act_110 : decode cL_act 110 = .ok (.iastore, 1) := by decide +kernel
theorem dL_act_111 : decode cL_act 111 = .ok (.aload_n 0, 1) := by decide +kernel
theorem dL_act_112 : decode cL_act 112 = .ok (.iload 5, 2) := by decide +kernel
theorem dL_act_114 : decode cL_act 114 = .ok (.iload_n 3, 1) := by decide +kernel
theorem dL_act_115 : decode cL_act 115 = .ok (.aload_n 1, 1) := by decide +kernel
theorem dL_act_116 : decode cL_act 116 = .ok (.getfield 15, 3) := by decide +kernel
theorem dL_act_119 : decode cL_act 119 = .ok (.iload_n 3, 1) := by decide +kernel
theorem dL_act_120 : decode cL_act 120 = .ok (.aaload, 1) := by decide +kernel
theorem dL_act_121 : decode cL_act 121 = .ok (.iload 5, 2) := by decide +kernel
theorem dL_act_123 : decode cL_act 123 = .ok (.iaload, 1) := by decide +kernel
theorem dL_act_124 : decode cL_act 124 = .ok (.invokevirtual 21, 3) := by decide +kernel
theorem dL_act_127 : decode cL_act 127 = .ok (.iload 6, 2) := by decide +kernel
theorem dL_act_129 : decode cL_act 129 = .ok (.if_icmp .ne 7, 3) := by decide +kernel
theorem dL_act_132 : decode cL_act 132 = .ok (.iconst 1, 1) := by decide +kernel
theorem dL_act_133 : decode cL_act 133 = .ok (.goto 4, 3) := by decide +kernel
theorem dL_act_136 : decode cL_act 136 = .ok (.iconst 0, 1) := by decide +kernel
theorem dL_act_137 : decode cL_act 137 = .ok (.ireturn, 1) := by decide +kernel
theorem dL_act_138 : decode cL_act 138 = .ok (.iload_n 2, 1) := by decide +kernel
theorem dL_act_139 : decode cL_act 139 = .ok (.iconst 4, 1) := by decide +kernel
theorem dL_act_140 : decode cL_act 140 = .ok (.ishr, 1) := by decide +kernel
theorem dL_act_141 : decode cL_act 141 = .ok (.sipush 256, 3) := by decide +kernel
theorem dL_act_144 : decode cL_act 144 = .ok (.invokestatic 9, 3) := by decide +kernel
theorem dL_act_147 : decode cL_act 147 = .ok (.istore 5, 2) := by decide +kernel
theorem dL_act_149 : decode cL_act 149 = .ok (.iload_n 2, 1) := by decide +kernel
theorem dL_act_150 : decode cL_act 150 = .ok (.bipush 7, 2) := by decide +kernel
theorem dL_act_152 : decode cL_act 152 = .ok (.ishr, 1) := by decide +kernel
theorem dL_act_153 : decode cL_act 153 = .ok (.iload_n 2, 1) := by decide +kernel
theorem dL_act_154 : decode cL_act 154 = .ok (.bipush 9, 2) := by decide +kernel
theorem dL_act_156 : decode cL_act 156 = .ok (.ishr, 1) := by decide +kernel
theorem dL_act_157 : decode cL_act 157 = .ok (.iconst 2, 1) := by decide +kernel
theorem dL_act_158 : decode cL_act 158 = .ok (.invokestatic 9, 3) := by decide +kernel
theorem dL_act_161 : decode cL_act 161 = .ok (.ifCond .ne 8, 3) := by decide +kernel
theorem dL_act_164 : decode cL_act 164 = .ok (.bipush 121, 2) := by decide +kernel
theorem dL_act_166 : decode cL_act 166 = .ok (.goto 5, 3) := by decide +kernel
theorem dL_act_169 : decode cL_act 169 = .ok (.bipush 31, 2) := by decide +kernel
theorem dL_act_171 : decode cL_act 171 = .ok (.invokestatic 9, 3) := by decide +kernel
theorem dL_act_174 : decode cL_act 174 = .ok (.iload_n 2, 1) := by decide +kernel
theorem dL_act_175 : decode cL_act 175 = .ok (.bipush 9, 2) := by decide +kernel
theorem dL_act_177 : decode cL_act 177 = .ok (.ishr, 1) := by decide +kernel
theorem dL_act_178 : decode cL_act 178 = .ok (.iconst 2, 1) := by decide +kernel
theorem dL_act_179 : decode cL_act 179 = .ok (.invokestatic 9, 3) := by decide +kernel
theorem dL_act_182 : decode cL_act 182 = .ok (.ifCond .ne 8, 3) := by decide +kernel
theorem dL_act_185 : decode cL_act 185 = .ok (.bipush 60, 2) := by decide +kernel
theorem dL_act_187 : decode cL_act 187 = .ok (.goto 5, 3) := by decide +kernel
theorem dL_act_190 : decode cL_act 190 = .ok (.bipush 15, 2) := by decide +kernel
theorem dL_act_192 : decode cL_act 192 = .ok (.isub, 1) := by decide +kernel
theorem dL_act_193 : decode cL_act 193 = .ok (.istore 6, 2) := by decide +kernel
theorem dL_act_195 : decode cL_act 195 = .ok (.iconst 0, 1) := by decide +kernel
theorem dL_act_196 : decode cL_act 196 = .ok (.istore 7, 2) := by decide +kernel
theorem dL_act_198 : decode cL_act 198 = .ok (.iload 7, 2) := by decide +kernel
theorem dL_act_200 : decode cL_act 200 = .ok (.bipush 12, 2) := by decide +kernel
theorem dL_act_202 : decode cL_act 202 = .ok (.if_icmp .ge 36, 3) := by decide +kernel
theorem dL_act_205 : decode cL_act 205 = .ok (.aload_n 1, 1) := by decide +kernel
theorem dL_act_206 : decode cL_act 206 = .ok (.getfield 15, 3) := by decide +kernel
theorem dL_act_209 : decode cL_act 209 = .ok (.iload_n 3, 1) := by decide +kernel
theorem dL_act_210 : decode cL_act 210 = .ok (.aaload, 1) := by decide +kernel
theorem dL_act_211 : decode cL_act 211 = .ok (.iload 7, 2) := by decide +kernel
theorem dL_act_213 : decode cL_act 213 = .ok (.iconst 0, 1) := by decide +kernel
theorem dL_act_214 : decode cL_act 214 = .ok (.sipush 255, 3) := by decide +kernel
theorem dL_act_217 : decode cL_act 217 = .ok (.iload 5, 2) := by decide +kernel
theorem dL_act_219 : decode cL_act 219 = .ok (.iload 6, 2) := by decide +kernel
theorem dL_act_221 : decode cL_act 221 = .ok (.iload 7, 2) := by decide +kernel
theorem dL_act_223 : decode cL_act 223 = .ok (.imul, 1) := by decide +kernel
theorem dL_act_224 : decode cL_act 224 = .ok (.iadd, 1) := by decide +kernel
theorem dL_act_225 : decode cL_act 225 = .ok (.invokestatic 27, 3) := by decide +kernel
theorem dL_act_228 : decode cL_act 228 = .ok (.invokestatic 32, 3) := by decide +kernel
theorem dL_act_231 : decode cL_act 231 = .ok (.iastore, 1) := by decide +kernel
theorem dL_act_232 : decode cL_act 232 = .ok (.iinc 7 1, 3) := by decide +kernel
theorem dL_act_235 : decode cL_act 235 = .ok (.goto (-37), 3) := by decide +kernel
theorem dL_act_238 : decode cL_act 238 = .ok (.aload_n 0, 1) := by decide +kernel
theorem dL_act_239 : decode cL_act 239 = .ok (.iload_n 3, 1) := by decide +kernel
theorem dL_act_240 : decode cL_act 240 = .ok (.iload 5, 2) := by decide +kernel
theorem dL_act_242 : decode cL_act 242 = .ok (.iload 6, 2) := by decide +kernel
theorem dL_act_244 : decode cL_act 244 = .ok (.invokevirtual 35, 3) := by decide +kernel
theorem dL_act_247 : decode cL_act 247 = .ok (.aload_n 1, 1) := by decide +kernel
theorem dL_act_248 : decode cL_act 248 = .ok (.getfield 15, 3) := by decide +kernel
theorem dL_act_251 : decode cL_act 251 = .ok (.iload_n 3, 1) := by decide +kernel
theorem dL_act_252 : decode cL_act 252 = .ok (.aaload, 1) := by decide +kernel
theorem dL_act_253 : decode cL_act 253 = .ok (.bipush 11, 2) := by decide +kernel
theorem dL_act_255 : decode cL_act 255 = .ok (.iaload, 1) := by decide +kernel
theorem dL_act_256 : decode cL_act 256 = .ok (.if_icmp .ne 7, 3) := by decide +kernel
theorem dL_act_259 : decode cL_act 259 = .ok (.iconst 1, 1) := by decide +kernel
theorem dL_act_260 : decode cL_act 260 = .ok (.goto 4, 3) := by decide +kernel
theorem dL_act_263 : decode cL_act 263 = .ok (.iconst 0, 1) := by decide +kernel
theorem dL_act_264 : decode cL_act 264 = .ok (.ireturn, 1) := by decide +kernel
theorem dL_act_265 : decode cL_act 265 = .ok (.iload_n 2, 1) := by decide +kernel
theorem dL_act_266 : decode cL_act 266 = .ok (.iconst 5, 1) := by decide +kernel
theorem dL_act_267 : decode cL_act 267 = .ok (.ishr, 1) := by decide +kernel
theorem dL_act_268 : decode cL_act 268 = .ok (.bipush 8, 2) := by decide +kernel
theorem dL_act_270 : decode cL_act 270 = .ok (.invokestatic 9, 3) := by decide +kernel
theorem dL_act_273 : decode cL_act 273 = .ok (.istore 5, 2) := by decide +kernel
theorem dL_act_275 : decode cL_act 275 = .ok (.iconst 0, 1) := by decide +kernel
theorem dL_act_276 : decode cL_act 276 = .ok (.istore 6, 2) := by decide +kernel
theorem dL_act_278 : decode cL_act 278 = .ok (.iconst 0, 1) := by decide +kernel
theorem dL_act_279 : decode cL_act 279 = .ok (.istore 7, 2) := by decide +kernel
theorem dL_act_281 : decode cL_act 281 = .ok (.iload 7, 2) := by decide +kernel
theorem dL_act_283 : decode cL_act 283 = .ok (.bipush 12, 2) := by decide +kernel
theorem dL_act_285 : decode cL_act 285 = .ok (.if_icmp .ge 41, 3) := by decide +kernel
theorem dL_act_288 : decode cL_act 288 = .ok (.iload 6, 2) := by decide +kernel
theorem dL_act_290 : decode cL_act 290 = .ok (.aload_n 1, 1) := by decide +kernel
theorem dL_act_291 : decode cL_act 291 = .ok (.getfield 15, 3) := by decide +kernel
theorem dL_act_294 : decode cL_act 294 = .ok (.iload_n 3, 1) := by decide +kernel
theorem dL_act_295 : decode cL_act 295 = .ok (.aaload, 1) := by decide +kernel
theorem dL_act_296 : decode cL_act 296 = .ok (.iload 7, 2) := by decide +kernel
theorem dL_act_298 : decode cL_act 298 = .ok (.iaload, 1) := by decide +kernel
theorem dL_act_299 : decode cL_act 299 = .ok (.aload_n 1, 1) := by decide +kernel
theorem dL_act_300 : decode cL_act 300 = .ok (.getfield 15, 3) := by decide +kernel
theorem dL_act_303 : decode cL_act 303 = .ok (.iload 5, 2) := by decide +kernel
theorem dL_act_305 : decode cL_act 305 = .ok (.aaload, 1) := by decide +kernel
theorem dL_act_306 : decode cL_act 306 = .ok (.iload 7, 2) := by decide +kernel
theorem dL_act_308 : decode cL_act 308 = .ok (.iaload, 1) := by decide +kernel
theorem dL_act_309 : decode cL_act 309 = .ok (.if_icmp .eq 7, 3) := by decide +kernel
theorem dL_act_312 : decode cL_act 312 = .ok (.iconst 1, 1) := by decide +kernel
theorem dL_act_313 : decode cL_act 313 = .ok (.goto 4, 3) := by decide +kernel
theorem dL_act_316 : decode cL_act 316 = .ok (.iconst 0, 1) := by decide +kernel
theorem dL_act_317 : decode cL_act 317 = .ok (.iadd, 1) := by decide +kernel
theorem dL_act_318 : decode cL_act 318 = .ok (.istore 6, 2) := by decide +kernel
theorem dL_act_320 : decode cL_act 320 = .ok (.iinc 7 1, 3) := by decide +kernel
theorem dL_act_323 : decode cL_act 323 = .ok (.goto (-42), 3) := by decide +kernel
theorem dL_act_326 : decode cL_act 326 = .ok (.aload_n 1, 1) := by decide +kernel
theorem dL_act_327 : decode cL_act 327 = .ok (.getfield 15, 3) := by decide +kernel
theorem dL_act_330 : decode cL_act 330 = .ok (.iload_n 3, 1) := by decide +kernel
theorem dL_act_331 : decode cL_act 331 = .ok (.aload_n 1, 1) := by decide +kernel
theorem dL_act_332 : decode cL_act 332 = .ok (.getfield 15, 3) := by decide +kernel
theorem dL_act_335 : decode cL_act 335 = .ok (.iload 5, 2) := by decide +kernel
theorem dL_act_337 : decode cL_act 337 = .ok (.aaload, 1) := by decide +kernel
theorem dL_act_338 : decode cL_act 338 = .ok (.invokevirtual 38, 3) := by decide +kernel
theorem dL_act_341 : decode cL_act 341 = .ok (.checkcast 39, 3) := by decide +kernel
theorem dL_act_344 : decode cL_act 344 = .ok (.aastore, 1) := by decide +kernel
theorem dL_act_345 : decode cL_act 345 = .ok (.aload_n 0, 1) := by decide +kernel
theorem dL_act_346 : decode cL_act 346 = .ok (.iload_n 3, 1) := by decide +kernel
theorem dL_act_347 : decode cL_act 347 = .ok (.iload 5, 2) := by decide +kernel
theorem dL_act_349 : decode cL_act 349 = .ok (.invokevirtual 44, 3) := by decide +kernel
theorem dL_act_352 : decode cL_act 352 = .ok (.iload 6, 2) := by decide +kernel
theorem dL_act_354 : decode cL_act 354 = .ok (.if_icmp .ne 7, 3) := by decide +kernel
theorem dL_act_357 : decode cL_act 357 = .ok (.iconst 1, 1) := by decide +kernel
theorem dL_act_358 : decode cL_act 358 = .ok (.goto 4, 3) := by decide +kernel
theorem dL_act_361 : decode cL_act 361 = .ok (.iconst 0, 1) := by decide +kernel
theorem dL_act_362 : decode cL_act 362 = .ok (.ireturn, 1) := by decide +kernel
theorem dL_act_363 : decode cL_act 363 = .ok (.aload_n 1, 1) := by decide +kernel
theorem dL_act_364 : decode cL_act 364 = .ok (.getfield 47, 3) := by decide +kernel
theorem dL_act_367 : decode cL_act 367 = .ok (.istore 5, 2) := by decide +kernel
theorem dL_act_369 : decode cL_act 369 = .ok (.aload_n 1, 1) := by decide +kernel
theorem dL_act_370 : decode cL_act 370 = .ok (.iconst 2, 1) := by decide +kernel
theorem dL_act_371 : decode cL_act 371 = .ok (.iload_n 2, 1) := by decide +kernel
theorem dL_act_372 : decode cL_act 372 = .ok (.iconst 4, 1) := by decide +kernel
theorem dL_act_373 : decode cL_act 373 = .ok (.ishr, 1) := by decide +kernel
theorem dL_act_374 : decode cL_act 374 = .ok (.iconst 5, 1) := by decide +kernel
theorem dL_act_375 : decode cL_act 375 = .ok (.invokestatic 9, 3) := by decide +kernel
theorem dL_act_378 : decode cL_act 378 = .ok (.iadd, 1) := by decide +kernel
theorem dL_act_379 : decode cL_act 379 = .ok (.putfield 47, 3) := by decide +kernel
theorem dL_act_382 : decode cL_act 382 = .ok (.aload_n 0, 1) := by decide +kernel
theorem dL_act_383 : decode cL_act 383 = .ok (.aload_n 1, 1) := by decide +kernel
theorem dL_act_384 : decode cL_act 384 = .ok (.getfield 47, 3) := by decide +kernel
theorem dL_act_387 : decode cL_act 387 = .ok (.invokevirtual 51, 3) := by decide +kernel
theorem dL_act_390 : decode cL_act 390 = .ok (.iload 5, 2) := by decide +kernel
theorem dL_act_392 : decode cL_act 392 = .ok (.if_icmp .ne 7, 3) := by decide +kernel
theorem dL_act_395 : decode cL_act 395 = .ok (.iconst 1, 1) := by decide +kernel
theorem dL_act_396 : decode cL_act 396 = .ok (.goto 4, 3) := by decide +kernel
theorem dL_act_399 : decode cL_act 399 = .ok (.iconst 0, 1) := by decide +kernel
theorem dL_act_400 : decode cL_act 400 = .ok (.ireturn, 1) := by decide +kernel
theorem dL_act_401 : decode cL_act 401 = .ok (.aload_n 1, 1) := by decide +kernel
theorem dL_act_402 : decode cL_act 402 = .ok (.getfield 55, 3) := by decide +kernel
theorem dL_act_405 : decode cL_act 405 = .ok (.istore 5, 2) := by decide +kernel
theorem dL_act_407 : decode cL_act 407 = .ok (.aload_n 1, 1) := by decide +kernel
theorem dL_act_408 : decode cL_act 408 = .ok (.iload_n 2, 1) := by decide +kernel
theorem dL_act_409 : decode cL_act 409 = .ok (.iconst 4, 1) := by decide +kernel
theorem dL_act_410 : decode cL_act 410 = .ok (.ishr, 1) := by decide +kernel
theorem dL_act_411 : decode cL_act 411 = .ok (.iconst 3, 1) := by decide +kernel
theorem dL_act_412 : decode cL_act 412 = .ok (.invokestatic 9, 3) := by decide +kernel
theorem dL_act_415 : decode cL_act 415 = .ok (.putfield 55, 3) := by decide +kernel
theorem dL_act_418 : decode cL_act 418 = .ok (.aload_n 0, 1) := by decide +kernel
theorem dL_act_419 : decode cL_act 419 = .ok (.aload_n 1, 1) := by decide +kernel
theorem dL_act_420 : decode cL_act 420 = .ok (.getfield 55, 3) := by decide +kernel
theorem dL_act_423 : decode cL_act 423 = .ok (.invokevirtual 58, 3) := by decide +kernel
theorem dL_act_426 : decode cL_act 426 = .ok (.iload 5, 2) := by decide +kernel
theorem dL_act_428 : decode cL_act 428 = .ok (.if_icmp .ne 7, 3) := by decide +kernel
theorem dL_act_431 : decode cL_act 431 = .ok (.iconst 1, 1) := by decide +kernel
theorem dL_act_432 : decode cL_act 432 = .ok (.goto 4, 3) := by decide +kernel
theorem dL_act_435 : decode cL_act 435 = .ok (.iconst 0, 1) := by decide +kernel
theorem dL_act_436 : decode cL_act 436 = .ok (.ireturn, 1) := by decide +kernel
theorem dL_act_437 : decode cL_act 437 = .ok (.aload_n 1, 1) := by decide +kernel
theorem dL_act_438 : decode cL_act 438 = .ok (.getfield 61, 3) := by decide +kernel
theorem dL_act_441 : decode cL_act 441 = .ok (.istore 5, 2) := by decide +kernel
theorem dL_act_443 : decode cL_act 443 = .ok (.aload_n 1, 1) := by decide +kernel
theorem dL_act_444 : decode cL_act 444 = .ok (.iload_n 2, 1) := by decide +kernel
theorem dL_act_445 : decode cL_act 445 = .ok (.iconst 4, 1) := by decide +kernel
theorem dL_act_446 : decode cL_act 446 = .ok (.ishr, 1) := by decide +kernel
theorem dL_act_447 : decode cL_act 447 = .ok (.iconst 2, 1) := by decide +kernel
theorem dL_act_448 : decode cL_act 448 = .ok (.invokestatic 9, 3) := by decide +kernel
theorem dL_act_451 : decode cL_act 451 = .ok (.ifCond .ne 7, 3) := by decide +kernel
theorem dL_act_454 : decode cL_act 454 = .ok (.iconst 1, 1) := by decide +kernel
theorem dL_act_455 : decode cL_act 455 = .ok (.goto 4, 3) := by decide +kernel
theorem dL_act_458 : decode cL_act 458 = .ok (.iconst 0, 1) := by decide +kernel
theorem dL_act_459 : decode cL_act 459 = .ok (.putfield 61, 3) := by decide +kernel
theorem dL_act_462 : decode cL_act 462 = .ok (.aload_n 0, 1) := by decide +kernel
theorem dL_act_463 : decode cL_act 463 = .ok (.aload_n 1, 1) := by decide +kernel
theorem dL_act_464 : decode cL_act 464 = .ok (.getfield 61, 3) := by decide +kernel
theorem dL_act_467 : decode cL_act 467 = .ok (.invokevirtual 65, 3) := by decide +kernel
theorem dL_act_470 : decode cL_act 470 = .ok (.iload 5, 2) := by decide +kernel
theorem dL_act_472 : decode cL_act 472 = .ok (.if_icmp .ne 7, 3) := by decide +kernel
theorem dL_act_475 : decode cL_act 475 = .ok (.iconst 1, 1) := by decide +kernel
theorem dL_act_476 : decode cL_act 476 = .ok (.goto 4, 3) := by decide +kernel
theorem dL_act_479 : decode cL_act 479 = .ok (.iconst 0, 1) := by decide +kernel
theorem dL_act_480 : decode cL_act 480 = .ok (.ireturn, 1) := by decide +kernel
theorem dL_act_481 : decode cL_act 481 = .ok (.aload_n 1, 1) := by decide +kernel
theorem dL_act_482 : decode cL_act 482 = .ok (.getfield 69, 3) := by decide +kernel
theorem dL_act_485 : decode cL_act 485 = .ok (.istore 5, 2) := by decide +kernel
theorem dL_act_487 : decode cL_act 487 = .ok (.aload_n 1, 1) := by decide +kernel
theorem dL_act_488 : decode cL_act 488 = .ok (.iload_n 2, 1) := by decide +kernel
theorem dL_act_489 : decode cL_act 489 = .ok (.iconst 4, 1) := by decide +kernel
theorem dL_act_490 : decode cL_act 490 = .ok (.ishr, 1) := by decide +kernel
theorem dL_act_491 : decode cL_act 491 = .ok (.iconst 2, 1) := by decide +kernel
theorem dL_act_492 : decode cL_act 492 = .ok (.invokestatic 9, 3) := by decide +kernel
theorem dL_act_495 : decode cL_act 495 = .ok (.ifCond .ne 7, 3) := by decide +kernel
theorem dL_act_498 : decode cL_act 498 = .ok (.iconst 1, 1) := by decide +kernel
theorem dL_act_499 : decode cL_act 499 = .ok (.goto 4, 3) := by decide +kernel
theorem dL_act_502 : decode cL_act 502 = .ok (.iconst 0, 1) := by decide +kernel
theorem dL_act_503 : decode cL_act 503 = .ok (.putfield 69, 3) := by decide +kernel
theorem dL_act_506 : decode cL_act 506 = .ok (.aload_n 0, 1) := by decide +kernel
theorem dL_act_507 : decode cL_act 507 = .ok (.aload_n 1, 1) := by decide +kernel
theorem dL_act_508 : decode cL_act 508 = .ok (.getfield 69, 3) := by decide +kernel
theorem dL_act_511 : decode cL_act 511 = .ok (.invokevirtual 72, 3) := by decide +kernel
theorem dL_act_514 : decode cL_act 514 = .ok (.iload 5, 2) := by decide +kernel
theorem dL_act_516 : decode cL_act 516 = .ok (.if_icmp .ne 7, 3) := by decide +kernel
theorem dL_act_519 : decode cL_act 519 = .ok (.iconst 1, 1) := by decide +kernel
theorem dL_act_520 : decode cL_act 520 = .ok (.goto 4, 3) := by decide +kernel
theorem dL_act_523 : decode cL_act 523 = .ok (.iconst 0, 1) := by decide +kernel
theorem dL_act_524 : decode cL_act 524 = .ok (.ireturn, 1) := by decide +kernel
theorem dL_act_525 : decode cL_act 525 = .ok (.iload_n 2, 1) := by decide +kernel
theorem dL_act_526 : decode cL_act 526 = .ok (.iconst 4, 1) := by decide +kernel
theorem dL_act_527 : decode cL_act 527 = .ok (.ishr, 1) := by decide +kernel
theorem dL_act_528 : decode cL_act 528 = .ok (.bipush 6, 2) := by decide +kernel
theorem dL_act_530 : decode cL_act 530 = .ok (.invokestatic 9, 3) := by decide +kernel
theorem dL_act_533 : decode cL_act 533 = .ok (.istore 5, 2) := by decide +kernel
theorem dL_act_535 : decode cL_act 535 = .ok (.iconst 1, 1) := by decide +kernel
theorem dL_act_536 : decode cL_act 536 = .ok (.iload_n 2, 1) := by decide +kernel
theorem dL_act_537 : decode cL_act 537 = .ok (.bipush 6, 2) := by decide +kernel
theorem dL_act_539 : decode cL_act 539 = .ok (.ishr, 1) := by decide +kernel
theorem dL_act_540 : decode cL_act 540 = .ok (.bipush 99, 2) := by decide +kernel
theorem dL_act_542 : decode cL_act 542 = .ok (.invokestatic 9, 3) := by decide +kernel
theorem dL_act_545 : decode cL_act 545 = .ok (.iadd, 1) := by decide +kernel
theorem dL_act_546 : decode cL_act 546 = .ok (.istore 6, 2) := by decide +kernel
theorem dL_act_548 : decode cL_act 548 = .ok (.aload_n 1, 1) := by decide +kernel
theorem dL_act_549 : decode cL_act 549 = .ok (.getfield 75, 3) := by decide +kernel
theorem dL_act_552 : decode cL_act 552 = .ok (.iload 5, 2) := by decide +kernel
theorem dL_act_554 : decode cL_act 554 = .ok (.sipush 999, 3) := by decide +kernel
theorem dL_act_557 : decode cL_act 557 = .ok (.aload_n 1, 1) := by decide +kernel
theorem dL_act_558 : decode cL_act 558 = .ok (.getfield 75, 3) := by decide +kernel
theorem dL_act_561 : decode cL_act 561 = .ok (.iload 5, 2) := by decide +kernel
theorem dL_act_563 : decode cL_act 563 = .ok (.iaload, 1) := by decide +kernel
theorem dL_act_564 : decode cL_act 564 = .ok (.iload 6, 2) := by decide +kernel
theorem dL_act_566 : decode cL_act 566 = .ok (.iadd, 1) := by decide +kernel
theorem dL_act_567 : decode cL_act 567 = .ok (.invokestatic 27, 3) := by decide +kernel
theorem dL_act_570 : decode cL_act 570 = .ok (.iastore, 1) := by decide +kernel
theorem dL_act_571 : decode cL_act 571 = .ok (.aload_n 0, 1) := by decide +kernel
theorem dL_act_572 : decode cL_act 572 = .ok (.iload 5, 2) := by decide +kernel
theorem dL_act_574 : decode cL_act 574 = .ok (.iload 6, 2) := by decide +kernel
theorem dL_act_576 : decode cL_act 576 = .ok (.invokevirtual 78, 3) := by decide +kernel
theorem dL_act_579 : decode cL_act 579 = .ok (.aload_n 1, 1) := by decide +kernel
theorem dL_act_580 : decode cL_act 580 = .ok (.getfield 75, 3) := by decide +kernel
theorem dL_act_583 : decode cL_act 583 = .ok (.iload 5, 2) := by decide +kernel
theorem dL_act_585 : decode cL_act 585 = .ok (.iaload, 1) := by decide +kernel
theorem dL_act_586 : decode cL_act 586 = .ok (.if_icmp .ne 7, 3) := by decide +kernel
theorem dL_act_589 : decode cL_act 589 = .ok (.iconst 1, 1) := by decide +kernel
theorem dL_act_590 : decode cL_act 590 = .ok (.goto 4, 3) := by decide +kernel
theorem dL_act_593 : decode cL_act 593 = .ok (.iconst 0, 1) := by decide +kernel
theorem dL_act_594 : decode cL_act 594 = .ok (.ireturn, 1) := by decide +kernel
theorem dL_act_595 : decode cL_act 595 = .ok (.aload_n 1, 1) := by decide +kernel
theorem dL_act_596 : decode cL_act 596 = .ok (.invokevirtual 81, 3) := by decide +kernel
theorem dL_act_599 : decode cL_act 599 = .ok (.istore 5, 2) := by decide +kernel
theorem dL_act_601 : decode cL_act 601 = .ok (.aload_n 0, 1) := by decide +kernel
theorem dL_act_602 : decode cL_act 602 = .ok (.invokevirtual 85, 3) := by decide +kernel
theorem dL_act_605 : decode cL_act 605 = .ok (.istore 4, 2) := by decide +kernel
theorem dL_act_607 : decode cL_act 607 = .ok (.goto 8, 3) := by decide +kernel
theorem dL_act_610 : decode cL_act 610 = .ok (.astore 6, 2) := by decide +kernel
theorem dL_act_612 : decode cL_act 612 = .ok (.iconst (-1), 1) := by decide +kernel
theorem dL_act_613 : decode cL_act 613 = .ok (.istore 4, 2) := by decide +kernel
theorem dL_act_615 : decode cL_act 615 = .ok (.iload 4, 2) := by decide +kernel
theorem dL_act_617 : decode cL_act 617 = .ok (.iload 5, 2) := by decide +kernel
theorem dL_act_619 : decode cL_act 619 = .ok (.if_icmp .ne 7, 3) := by decide +kernel
theorem dL_act_622 : decode cL_act 622 = .ok (.iconst 1, 1) := by decide +kernel
theorem dL_act_623 : decode cL_act 623 = .ok (.goto 4, 3) := by decide +kernel
theorem dL_act_626 : decode cL_act 626 = .ok (.iconst 0, 1) := by decide +kernel
theorem dL_act_627 : decode cL_act 627 = .ok (.ireturn, 1) := by decide +kernel
set_option maxRecDepth 20000 in
theorem ggL_build_X5_init : GoodIn wsL_build wsX5_init := goodIn_r _ [7, 8, 9, 10, 11, 12, 13, 14, 15, 16, 17, 18, 19, 339, 340, 341, 342, 343, 344, 345, 346, 347, 348] (by decide +kernel) (by decide +kernel)
set_option maxRecDepth 20000 in
theorem gL_build_X5_init : GoodIn wsL_build (wsX5_init) := ggL_build_X5_init
set_option maxRecDepth 20000 in
theorem ggL_build_L_cell : GoodIn wsL_build wsL_cell := goodIn_r _ [23, 24] (by decide +kernel) (by decide +kernel)
set_option maxRecDepth 20000 in
theorem gL_build_L_cell : GoodIn wsL_build (va_wsS RL 89 yL_cell wsL_cell) := goodIn_app (goodIn_of _ (by decide +kernel)) ggL_build_L_cell
set_option maxRecDepth 20000 in
theorem ggL_build_L_below : GoodIn wsL_build wsL_below := goodIn_r _ [27, 28] (by decide +kernel) (by decide +kernel)
set_option maxRecDepth 20000 in
theorem gL_build_L_below : GoodIn wsL_build (va_wsS RL 9 yL_below wsL_below) := goodIn_app (goodIn_of _ (by decide +kernel)) ggL_build_L_below
set_option maxRecDepth 20000 in
theorem ggL_build_L_act : GoodIn wsL_build wsL_act := goodIn_ca (goodIn_ca (goodIn_ca (goodIn_r _ [31, 32, 33, 34, 35, 36, 37, 38, 39, 40, 41, 42, 43, 44, 45, 46, 47, 48, 49, 50, 51, 25, 26, 22, 27, 28, 52, 53, 54, 55, 56, 57, 58, 59, 60, 61, 62, 63, 64, 65, 66, 67, 68, 69, 70, 71, 72, 73, 74, 75, 76, 77, 78, 79, 80, 81, 82, 83, 84, 85, 86, 87, 88, 89, 90, 91, 92, 93, 94, 95, 96, 97, 98, 99, 100, 101, 102, 103, 104, 105, 106, 107, 108, 109, 110, 111, 112, 113, 114, 115, 116, 117, 118, 119, 120, 121, 122, 123, 124, 125, 126, 127, 128, 129, 130, 131, 132, 133, 134, 135, 136, 137, 138, 139, 140, 141, 142, 143, 144, 145, 146, 147, 148, 149, 150, 151, 152, 153, 154, 155, 156, 157, 158, 3, 159, 14, 16, 160, 17, 19, 161, 162, 163, 164, 165, 12, 13, 18, 166, 167, 168, 169, 170, 171, 172, 11, 173, 174, 175, 176, 15, 177, 178, 179, 180, 181, 182, 183, 184, 185, 186, 187, 188, 189, 190, 191, 192, 193, 194, 195, 196, 197, 198, 199, 200, 201, 202, 203, 204, 205, 206, 207, 208, 209, 210, 211, 212, 213, 214, 215, 216, 217, 218, 219, 220, 221, 222, 223, 224, 225, 226, 227, 228, 229, 230, 231, 232, 233, 234, 235, 236, 237, 238, 239, 240, 241, 242, 243, 244, 245, 246, 247, 248, 249, 250, 251, 252, 253, 254, 255, 256, 257, 258, 259, 260, 261, 262, 263, 264, 265, 266, 267, 268, 269, 270, 271, 272, 273, 274, 275, 276, 277, 278, 279, 280, 281, 282, 283, 284, 285, 286, 287, 288, 289, 290, 291, 292, 293, 294, 295, 296, 297, 298, 299, 300, 301, 302, 303, 304, 305, 306, 307, 308, 309, 310, 311, 312, 313, 314, 315, 316, 317, 318, 319, 320, 321, 322, 323, 324, 325, 326, 327, 328, 329, 330, 331, 332, 333, 334, 335, 336, 337, 338, 339, 340, 341, 342, 343, 344, 345, 346, 347, 348, 349, 350, 351, 352, 353, 354, 355, 356, 357, 358, 359, 360, 361, 362, 363, 364, 365, 366, 367, 368, 369, 370, 371] (by decide +kernel) (by decide +kernel)) (goodIn_sub (fun _ h => List.mem_cons_of_mem _ (List.mem_append_left _ (List.mem_append_left _ (List.mem_append_right _ h)))) (by decide +kernel))) (goodIn_sub (fun _ h => List.mem_cons_of_mem _ (List.mem_append_left _ (List.mem_append_right _ h))) (by decide +kernel))) (goodIn_sub (fun _ h => List.mem_cons_of_mem _ (List.mem_append_right _ h)) (by decide +kernel))
set_option maxRecDepth 20000 in
theorem gL_build_L_act : GoodIn wsL_build (va_wsS RL 94 yL_act wsL_act) := goodIn_app (goodIn_of _ (by decide +kernel)) ggL_build_L_act
theorem dL_build_0 : decode cL_build 0 = .ok (.new 16, 3) := by decide +kernel
theorem dL_build_3 : decode cL_build 3 = .ok (.dup, 1) := by decide +kernel
theorem dL_build_4 : decode cL_build 4 = .ok (.invokespecial 88, 3) := by decide +kernel
theorem dL_build_7 : decode cL_build 7 = .ok (.astore_n 2, 1) := by decide +kernel
theorem dL_build_8 : decode cL_build 8 = .ok (.iconst 0, 1) := by decide +kernel
theorem dL_build_9 : decode cL_build 9 = .ok (.istore_n 3, 1) := by decide +kernel
theorem dL_build_10 : decode cL_build 10 = .ok (.iload_n 3, 1) := by decide +kernel
theorem dL_build_11 : decode cL_build 11 = .ok (.bipush 30, 2) := by decide +kernel
theorem dL_build_13 : decode cL_build 13 = .ok (.if_icmp .ge 69, 3) := by decide +kernel
theorem dL_build_16 : decode cL_build 16 = .ok (.aload_n 1, 1) := by decide +kernel
theorem dL_build_17 : decode cL_build 17 = .ok (.iload_n 3, 1) := by decide +kernel
theorem dL_build_18 : decode cL_build 18 = .ok (.bipush 16, 2) := by decide +kernel
theorem dL_build_20 : decode cL_build 20 = .ok (.irem, 1) := by decide +kernel
theorem dL_build_21 : decode cL_build 21 = .ok (.invokestatic 89, 3) := by decide +kernel
theorem dL_build_24 : decode cL_build 24 = .ok (.iload_n 3, 1) := by decide +kernel
theorem dL_build_25 : decode cL_build 25 = .ok (.bipush 16, 2) := by decide +kernel
theorem dL_build_27 : decode cL_build 27 = .ok (.idiv, 1) := by decide +kernel
theorem dL_build_28 : decode cL_build 28 = .ok (.iconst 4, 1) := by decide +kernel
theorem dL_build_29 : decode cL_build 29 = .ok (.imul, 1) := by decide +kernel
theorem dL_build_30 : decode cL_build 30 = .ok (.ishr, 1) := by decide +kernel
theorem dL_build_31 : decode cL_build 31 = .ok (.bipush 47, 2) := by decide +kernel
theorem dL_build_33 : decode cL_build 33 = .ok (.iload_n 3, 1) := by decide +kernel
theorem dL_build_34 : decode cL_build 34 = .ok (.imul, 1) := by decide +kernel
theorem dL_build_35 : decode cL_build 35 = .ok (.iadd, 1) := by decide +kernel
theorem dL_build_36 : decode cL_build 36 = .ok (.istore 4, 2) := by decide +kernel
theorem dL_build_38 : decode cL_build 38 = .ok (.iload_n 3, 1) := by decide +kernel
theorem dL_build_39 : decode cL_build 39 = .ok (.bipush 8, 2) := by decide +kernel
theorem dL_build_41 : decode cL_build 41 = .ok (.if_icmp .ge 23, 3) := by decide +kernel
theorem dL_build_44 : decode cL_build 44 = .ok (.bipush 14, 2) := by decide +kernel
theorem dL_build_46 : decode cL_build 46 = .ok (.iload 4, 2) := by decide +kernel
theorem dL_build_48 : decode cL_build 48 = .ok (.iconst 2, 1) := by decide +kernel
theorem dL_build_49 : decode cL_build 49 = .ok (.ishr, 1) := by decide +kernel
theorem dL_build_50 : decode cL_build 50 = .ok (.ldc 93, 2) := by decide +kernel
theorem dL_build_52 : decode cL_build 52 = .ok (.invokestatic 9, 3) := by decide +kernel
theorem dL_build_55 : decode cL_build 55 = .ok (.imul, 1) := by decide +kernel
theorem dL_build_56 : decode cL_build 56 = .ok (.iconst 2, 1) := by decide +kernel
theorem dL_build_57 : decode cL_build 57 = .ok (.iadd, 1) := by decide +kernel
theorem dL_build_58 : decode cL_build 58 = .ok (.iload_n 3, 1) := by decide +kernel
theorem dL_build_59 : decode cL_build 59 = .ok (.iconst 3, 1) := by decide +kernel
theorem dL_build_60 : decode cL_build 60 = .ok (.irem, 1) := by decide +kernel
theorem dL_build_61 : decode cL_build 61 = .ok (.iadd, 1) := by decide +kernel
theorem dL_build_62 : decode cL_build 62 = .ok (.istore 4, 2) := by decide +kernel
theorem dL_build_64 : decode cL_build 64 = .ok (.aload_n 0, 1) := by decide +kernel
theorem dL_build_65 : decode cL_build 65 = .ok (.aload_n 2, 1) := by decide +kernel
theorem dL_build_66 : decode cL_build 66 = .ok (.iload 4, 2) := by decide +kernel
theorem dL_build_68 : decode cL_build 68 = .ok (.invokestatic 94, 3) := by decide +kernel
theorem dL_build_71 : decode cL_build 71 = .ok (.ifCond .ne 5, 3) := by decide +kernel
theorem dL_build_74 : decode cL_build 74 = .ok (.aconst_null, 1) := by decide +kernel
theorem dL_build_75 : decode cL_build 75 = .ok (.areturn, 1) := by decide +kernel
theorem dL_build_76 : decode cL_build 76 = .ok (.iinc 3 1, 3) := by decide +kernel
theorem dL_build_79 : decode cL_build 79 = .ok (.goto (-69), 3) := by decide +kernel
theorem dL_build_82 : decode cL_build 82 = .ok (.aload_n 2, 1) := by decide +kernel
theorem dL_build_83 : decode cL_build 83 = .ok (.areturn, 1) := by decide +kernel
set_option maxRecDepth 20000 in
theorem ggL_law_X4_init : GoodIn wsL_law wsX4_init := goodIn_r _ [14, 15, 16, 17, 18, 19, 20, 21, 22, 23, 24, 25, 26, 27, 28, 29, 30, 31, 32, 33, 34, 35, 36, 37, 38, 39, 40, 41, 42, 43, 44, 45, 46, 47, 48, 49, 50, 51, 52, 53, 54, 55, 56, 57, 58, 2, 59, 60, 61, 62, 63, 64, 65, 66, 67, 68, 69, 70, 71, 72, 73, 74, 514, 504, 505, 506, 507, 508, 509, 510, 511, 512, 513, 515, 516, 517, 518, 519, 520, 521, 522, 523, 524, 525, 526] (by decide +kernel) (by decide +kernel)
set_option maxRecDepth 20000 in
theorem gL_law_X4_init : GoodIn wsL_law (wsX4_init) := ggL_law_X4_init
set_option maxRecDepth 20000 in
theorem ggL_law_L_build : GoodIn wsL_law wsL_build := goodIn_ca (goodIn_ca (goodIn_ca (goodIn_r _ [78, 79, 80, 81, 82, 83, 84, 85, 86, 16, 17, 87, 43, 88, 89, 90, 91, 92, 93, 94, 95, 96, 77, 97, 98, 99, 100, 101, 102, 103, 104, 105, 106, 107, 4, 5, 6, 7, 8, 9, 10, 108, 109, 110, 111, 112, 113, 114, 115, 116, 117, 118, 119, 120, 121, 2, 122, 21, 123, 124, 125, 126, 127, 128, 129, 130, 131, 132, 133, 134, 135, 136, 137, 138, 139, 140, 141, 20, 142, 44, 143, 144, 145, 146, 147, 148, 149, 150, 151, 152, 153, 154, 155, 156, 157, 158, 159, 160, 161, 162, 163, 164, 165, 166, 167, 168, 169, 170, 171, 172, 173, 174, 175, 176, 35, 177, 178, 179, 180, 181, 182, 183, 36, 184, 185, 186, 187, 37, 188, 189, 190, 191, 38, 192, 193, 194, 195, 29, 196, 197, 198, 199, 200, 201, 202, 203, 204, 28, 205, 57, 206, 207, 208, 209, 210, 211, 212, 213, 214, 215, 216, 217, 218, 219, 220, 221, 222, 223, 224, 225, 226, 227, 228, 229, 230, 231, 232, 233, 234, 235, 236, 237, 238, 239, 240, 241, 242, 243, 244, 245, 246, 247, 248, 249, 250, 251, 252, 253, 254, 255, 256, 257, 258, 34, 33, 259, 260, 261, 32, 262, 64, 67, 69, 70, 263, 264, 265, 24, 266, 52, 50, 51, 267, 268, 269, 270, 48, 58, 59, 271, 272, 273, 274, 275, 49, 276, 277, 278, 279, 280, 281, 282, 283, 284, 285, 286, 287, 288, 289, 290, 291, 292, 293, 294, 295, 296, 297, 298, 299, 300, 72, 73, 74, 301, 302, 303, 304, 66, 305, 306, 307, 308, 309, 310, 311, 312, 313, 314, 315, 316, 317, 318, 319, 320, 321, 322, 323, 324, 325, 326, 327, 328, 329, 330, 331, 332, 333, 334, 335, 68, 336, 337, 338, 339, 340, 341, 342, 343, 344, 345, 346, 347, 348, 349, 350, 351, 352, 353, 354, 355, 356, 357, 39, 358, 359, 360, 361, 362, 363, 364, 365, 366, 367, 368, 369, 370, 371, 372, 373, 527, 528, 529, 530, 531, 532, 533, 534, 535, 536, 504, 505, 506, 507, 508, 509, 510, 511, 512, 513, 514, 520, 521, 522, 523, 524, 525, 526, 515, 516, 517, 518, 519] (by decide +kernel) (by decide +kernel)) (goodIn_sub (fun _ h => List.mem_append_left _ (List.mem_append_left _ (List.mem_append_right _ h))) (by decide +kernel))) (goodIn_sub (fun _ h => List.mem_append_left _ (List.mem_append_right _ h)) (by decide +kernel))) (goodIn_sub (fun _ h => List.mem_append_right _ h) (by decide +kernel))
set_option maxRecDepth 20000 in
theorem gL_law_L_build : GoodIn wsL_law (va_wsS RL 99 yL_build wsL_build) := goodIn_app (goodIn_of _ (by decide +kernel)) ggL_law_L_build
set_option maxRecDepth 20000 in
theorem ggL_law_L_cell : GoodIn wsL_law wsL_cell := goodIn_r _ [97, 98] (by decide +kernel) (by decide +kernel)
set_option maxRecDepth 20000 in
theorem gL_law_L_cell : GoodIn wsL_law (va_wsS RL 89 yL_cell wsL_cell) := goodIn_app (goodIn_of _ (by decide +kernel)) ggL_law_L_cell
set_option maxRecDepth 20000 in
theorem ggL_law_X4_count : GoodIn wsL_law wsX4_count := goodIn_ca (goodIn_r _ [377, 158, 159, 2, 160, 126, 127, 378, 379, 380, 381, 35, 36, 37, 38, 39, 29, 33, 382, 383, 384, 28, 385, 207, 208, 209, 210, 57, 143, 144, 386, 387, 388, 389, 390, 391, 392, 32, 393, 70, 358, 359, 360, 361, 362, 363, 364, 365, 366, 367, 368, 369, 66, 306, 140, 141, 20, 142, 44, 129, 130, 370, 371, 372, 373, 68, 504, 505, 506, 507, 508, 509, 510, 511, 512, 513, 520, 521, 522, 523, 524, 525, 526, 514] (by decide +kernel) (by decide +kernel)) (goodIn_sub (fun _ h => List.mem_append_left _ (List.mem_append_left _ (List.mem_append_right _ h))) (by decide +kernel))
set_option maxRecDepth 20000 in
theorem gL_law_X4_count : GoodIn wsL_law (wsV RL 103 RX4 yX4_count wsX4_count) := goodIn_app (goodIn_of _ (by decide +kernel)) ggL_law_X4_count
set_option maxRecDepth 20000 in
theorem ggL_law_L_act : GoodIn wsL_law wsL_act := goodIn_ca (goodIn_ca (goodIn_ca (goodIn_r _ [105, 106, 107, 4, 5, 6, 7, 8, 9, 10, 108, 109, 110, 111, 112, 113, 114, 115, 116, 117, 118, 99, 100, 77, 101, 102, 119, 120, 121, 2, 122, 21, 123, 124, 125, 126, 127, 128, 129, 130, 131, 132, 133, 134, 135, 136, 137, 138, 139, 140, 141, 20, 142, 44, 143, 144, 145, 146, 147, 148, 149, 150, 151, 152, 153, 154, 155, 156, 157, 158, 159, 160, 161, 162, 163, 164, 165, 166, 167, 168, 169, 170, 171, 172, 173, 174, 175, 176, 35, 177, 178, 179, 180, 181, 182, 183, 36, 184, 185, 186, 187, 37, 188, 189, 190, 191, 38, 192, 193, 194, 195, 29, 196, 197, 198, 199, 200, 201, 202, 203, 204, 28, 205, 57, 206, 207, 208, 209, 210, 211, 212, 213, 214, 81, 215, 89, 91, 216, 92, 94, 217, 218, 219, 220, 221, 43, 88, 93, 222, 223, 224, 225, 226, 227, 228, 87, 229, 230, 231, 232, 90, 233, 234, 235, 236, 237, 238, 239, 240, 241, 242, 243, 244, 245, 246, 247, 248, 249, 250, 251, 252, 253, 254, 255, 256, 257, 258, 34, 33, 259, 260, 261, 32, 262, 64, 67, 69, 70, 263, 264, 265, 24, 266, 52, 50, 51, 267, 268, 269, 270, 48, 58, 59, 271, 272, 273, 274, 275, 49, 276, 277, 278, 279, 280, 281, 282, 283, 284, 285, 286, 287, 288, 289, 290, 291, 292, 293, 294, 295, 296, 297, 298, 299, 300, 72, 73, 74, 301, 302, 303, 304, 66, 305, 306, 307, 308, 309, 310, 311, 312, 313, 314, 315, 316, 317, 318, 319, 320, 321, 322, 323, 324, 325, 326, 327, 328, 329, 330, 331, 332, 333, 334, 335, 68, 336, 337, 338, 339, 340, 341, 342, 343, 344, 345, 346, 347, 348, 349, 350, 351, 352, 353, 354, 355, 356, 357, 39, 358, 359, 360, 361, 362, 363, 364, 365, 366, 367, 368, 369, 370, 371, 372, 373, 527, 528, 529, 530, 531, 532, 533, 534, 535, 536, 504, 505, 506, 507, 508, 509, 510, 511, 512, 513, 514, 520, 521, 522, 523, 524, 525, 526, 515, 516, 517, 518, 519] (by decide +kernel) (by decide +kernel)) (goodIn_sub (fun _ h => List.mem_append_left _ (List.mem_append_left _ (List.mem_append_right _ h))) (by decide +kernel))) (goodIn_sub (fun _ h => List.mem_append_left _ (List.mem_append_right _ h)) (by decide +kernel))) (goodIn_sub (fun _ h => List.mem_append_right _ h) (by decide +kernel))
set_option maxRecDepth 20000 in
theorem gL_law_L_act : GoodIn wsL_law (va_wsS RL 94 yL_act wsL_act) := goodIn_app (goodIn_of _ (by decide +kernel)) ggL_law_L_act
set_option maxRecDepth 20000 in
theorem ggL_law_X4_digest : GoodIn wsL_law wsX4_digest := goodIn_r _ [397, 398, 399, 21, 29, 33, 378, 379, 380, 2, 381, 35, 36, 37, 38, 39, 382, 383, 384, 28, 385, 207, 208, 209, 210, 57, 143, 144, 386, 387, 388, 389, 390, 391, 392, 32, 393, 70, 358, 359, 360, 361, 362, 363, 364, 365, 366, 367, 368, 369, 66, 306, 140, 141, 20, 142, 44, 129, 130, 370, 371, 372, 373, 68, 400, 401, 402, 403, 404, 405, 406, 407, 408, 409, 410, 411, 412, 413, 414, 64, 415, 416, 417, 24, 418, 51, 52, 419, 504, 505, 506, 507, 508, 509, 510, 511, 512, 513, 520, 521, 522, 523, 524, 525, 526, 514, 515, 516, 517, 518, 519] (by decide +kernel) (by decide +kernel)
set_option maxRecDepth 20000 in
theorem gL_law_X4_digest : GoodIn wsL_law (wsV RL 106 RX4 yX4_digest wsX4_digest) := goodIn_app (goodIn_of _ (by decide +kernel)) ggL_law_X4_digest
set_option maxRecDepth 20000 in
theorem ggL_law_X4_shade : GoodIn wsL_law wsX4_shade := goodIn_ca (goodIn_r _ [423, 21, 123, 124, 2, 125, 126, 127, 128, 129, 130, 139, 140, 141, 20, 142, 44, 143, 144, 504, 505, 506, 507, 508, 509, 510, 511, 512, 513, 514] (by decide +kernel) (by decide +kernel)) (goodIn_sub (fun _ h => List.mem_append_left _ (List.mem_append_left _ (List.mem_append_right _ h))) (by decide +kernel))
set_option maxRecDepth 20000 in
theorem gL_law_X4_shade : GoodIn wsL_law (wsV RL 110 RX4 yX4_shade wsX4_shade) := goodIn_app (goodIn_of _ (by decide +kernel)) ggL_law_X4_shade
set_option maxRecDepth 20000 in
theorem ggL_law_X4_palette : GoodIn wsL_law wsX4_palette := goodIn_ca (goodIn_r _ [427, 25, 21, 35, 196, 197, 2, 198, 158, 159, 160, 126, 127, 428, 264, 265, 24, 266, 52, 50, 51, 267, 268, 269, 270, 48, 58, 59, 271, 140, 141, 20, 142, 44, 129, 130, 143, 144, 149, 150, 272, 273, 274, 275, 49, 276, 277, 278, 279, 280, 281, 282, 283, 284, 285, 286, 287, 288, 289, 290, 291, 292, 293, 294, 295, 296, 297, 298, 299, 429, 317, 318, 319, 504, 505, 506, 507, 508, 509, 510, 511, 512, 513, 515, 516, 517, 518, 519, 514] (by decide +kernel) (by decide +kernel)) (goodIn_sub (fun _ h => List.mem_append_left _ (List.mem_append_left _ (List.mem_append_right _ h))) (by decide +kernel))
set_option maxRecDepth 20000 in
theorem gL_law_X4_palette : GoodIn wsL_law (wsV RL 113 RX4 yX4_palette wsX4_palette) := goodIn_app (goodIn_of _ (by decide +kernel)) ggL_law_X4_palette
set_option maxRecDepth 20000 in
theorem ggL_law_X4_would : GoodIn wsL_law wsX4_would := goodIn_ca (goodIn_ca (goodIn_r _ [433, 34, 21, 36, 37, 38, 177, 178, 2, 179, 134, 135, 136, 137, 138, 158, 159, 160, 126, 127, 259, 260, 261, 32, 262, 64, 67, 69, 70, 263, 264, 265, 24, 266, 52, 50, 51, 267, 268, 269, 270, 48, 58, 59, 271, 140, 141, 20, 142, 44, 129, 130, 143, 144, 149, 150, 272, 273, 274, 275, 49, 276, 277, 278, 279, 280, 281, 282, 283, 284, 285, 286, 287, 288, 289, 290, 291, 292, 293, 294, 295, 296, 297, 298, 299, 300, 72, 73, 74, 301, 302, 303, 304, 66, 305, 231, 6, 232, 306, 307, 308, 309, 310, 311, 312, 313, 314, 315, 316, 317, 318, 319, 320, 321, 146, 147, 148, 322, 323, 324, 325, 326, 327, 328, 329, 330, 331, 332, 333, 334, 335, 68, 434, 435, 436, 437, 438, 439, 440, 441, 390, 391, 392, 393, 358, 359, 360, 361, 362, 363, 364, 365, 366, 367, 368, 369, 370, 371, 372, 373, 504, 505, 506, 507, 508, 509, 510, 511, 512, 513, 521, 522, 523, 524, 525, 526, 515, 516, 517, 518, 519, 514] (by decide +kernel) (by decide +kernel)) (goodIn_sub (fun _ h => List.mem_append_left _ (List.mem_append_right _ h)) (by decide +kernel))) (goodIn_sub (fun _ h => List.mem_append_left _ (List.mem_append_left _ (List.mem_append_right _ h))) (by decide +kernel))
set_option maxRecDepth 20000 in
theorem gL_law_X4_would : GoodIn wsL_law (wsV RL 116 RX4 yX4_would wsX4_would) := goodIn_app (goodIn_of _ (by decide +kernel)) ggL_law_X4_would
set_option maxRecDepth 20000 in
theorem ggL_law_X4_mean : GoodIn wsL_law wsX4_mean := goodIn_r _ [445, 21, 446, 139, 140, 141, 20, 142, 44, 129, 2, 130, 143, 144, 504, 505, 506, 507, 508, 509, 510, 511, 512, 513, 514] (by decide +kernel) (by decide +kernel)
set_option maxRecDepth 20000 in
theorem gL_law_X4_mean : GoodIn wsL_law (wsV RL 119 RX4 yX4_mean wsX4_mean) := goodIn_app (goodIn_of _ (by decide +kernel)) ggL_law_X4_mean
set_option maxRecDepth 20000 in
theorem ggL_law_L_below : GoodIn wsL_law wsL_below := goodIn_r _ [101, 102] (by decide +kernel) (by decide +kernel)
set_option maxRecDepth 20000 in
theorem gL_law_L_below : GoodIn wsL_law (va_wsS RL 9 yL_below wsL_below) := goodIn_app (goodIn_of _ (by decide +kernel)) ggL_law_L_below
set_option maxRecDepth 20000 in
theorem ggL_law_X4_advise : GoodIn wsL_law wsX4_advise := goodIn_ca (goodIn_r _ [450, 34, 21, 36, 37, 38, 451, 452, 2, 453, 134, 135, 136, 137, 138, 259, 260, 261, 32, 262, 64, 67, 69, 70, 263, 264, 265, 24, 266, 52, 50, 51, 267, 268, 269, 270, 48, 58, 59, 271, 140, 141, 20, 142, 44, 129, 130, 143, 144, 149, 150, 272, 273, 274, 275, 49, 276, 277, 278, 279, 280, 281, 282, 283, 284, 285, 286, 287, 288, 289, 290, 291, 292, 293, 294, 295, 296, 297, 298, 299, 300, 72, 73, 74, 301, 302, 303, 304, 66, 305, 231, 6, 232, 306, 307, 308, 309, 310, 311, 312, 313, 314, 315, 316, 317, 318, 319, 320, 321, 146, 147, 148, 322, 323, 324, 325, 326, 327, 328, 329, 330, 331, 332, 333, 334, 335, 68, 358, 359, 360, 361, 362, 363, 364, 365, 366, 367, 368, 369, 370, 371, 372, 373, 390, 391, 392, 393, 504, 505, 506, 507, 508, 509, 510, 511, 512, 513, 521, 522, 523, 524, 525, 526, 515, 516, 517, 518, 519, 514] (by decide +kernel) (by decide +kernel)) (goodIn_sub (fun _ h => List.mem_append_left _ (List.mem_append_right _ h)) (by decide +kernel))
set_option maxRecDepth 20000 in
theorem gL_law_X4_advise : GoodIn wsL_law (wsV RL 125 RX4 yX4_advise wsX4_advise) := goodIn_app (goodIn_of _ (by decide +kernel)) ggL_law_X4_advise
set_option maxRecDepth 20000 in
theorem ggL_law_X4_thread : GoodIn wsL_law wsX4_thread := goodIn_ca (goodIn_r _ [457, 29, 33, 196, 197, 2, 198, 158, 159, 160, 126, 127, 211, 208, 209, 28, 210, 57, 143, 144, 386, 387, 388, 389, 39, 458, 347, 348, 32, 349, 69, 459, 460, 461, 462, 64, 320, 317, 318, 24, 319, 52, 51, 504, 505, 506, 507, 508, 509, 510, 511, 512, 513, 520, 521, 522, 523, 524, 525, 526, 515, 516, 517, 518, 519] (by decide +kernel) (by decide +kernel)) (goodIn_sub (fun _ h => List.mem_append_left _ (List.mem_append_left _ (List.mem_append_right _ h))) (by decide +kernel))
set_option maxRecDepth 20000 in
theorem gL_law_X4_thread : GoodIn wsL_law (wsV RL 128 RX4 yX4_thread wsX4_thread) := goodIn_app (goodIn_of _ (by decide +kernel)) ggL_law_X4_thread
set_option maxRecDepth 20000 in
theorem ggL_law_X4_knots : GoodIn wsL_law wsX4_knots := goodIn_ca (goodIn_ca (goodIn_r _ [466, 33, 38, 155, 156, 2, 157, 158, 159, 160, 126, 127, 467, 468, 469, 470, 340, 341, 386, 387, 388, 389, 39, 471, 363, 364, 32, 365, 366, 367, 368, 369, 66, 306, 140, 141, 20, 142, 44, 129, 130, 143, 144, 370, 371, 372, 373, 68, 504, 505, 506, 507, 508, 509, 510, 511, 512, 513, 521, 522, 523, 524, 525, 526, 514] (by decide +kernel) (by decide +kernel)) (goodIn_sub (fun _ h => List.mem_append_left _ (List.mem_append_left _ (List.mem_append_right _ h))) (by decide +kernel))) (goodIn_sub (fun _ h => List.mem_append_right _ h) (by decide +kernel))
set_option maxRecDepth 20000 in
theorem gL_law_X4_knots : GoodIn wsL_law (wsV RL 131 RX4 yX4_knots wsX4_knots) := goodIn_app (goodIn_of _ (by decide +kernel)) ggL_law_X4_knots
set_option maxRecDepth 20000 in
theorem ggL_law_X5_isSame_ : GoodIn wsL_law wsX5_isSame_ := goodIn_ca (goodIn_ca (goodIn_r _ [475, 91, 94, 92, 43, 89, 90, 229, 248, 216, 217, 88, 476, 477, 455, 456, 2, 457, 29, 33, 196, 197, 198, 158, 159, 160, 126, 127, 211, 208, 209, 28, 210, 57, 143, 144, 386, 387, 388, 389, 39, 458, 347, 348, 32, 349, 69, 459, 460, 461, 462, 64, 320, 317, 318, 24, 319, 52, 51, 233, 234, 81, 235, 240, 241, 242, 243, 244, 245, 246, 247, 249, 250, 251, 252, 253, 254, 222, 223, 224, 478, 375, 376, 377, 378, 379, 380, 381, 35, 36, 37, 38, 382, 383, 384, 385, 207, 390, 391, 392, 393, 70, 358, 359, 360, 361, 362, 363, 364, 365, 366, 367, 368, 369, 66, 306, 140, 141, 20, 142, 44, 129, 130, 370, 371, 372, 373, 68, 479, 421, 422, 423, 21, 123, 124, 125, 128, 139, 480, 481, 482, 483, 467, 468, 469, 470, 340, 341, 484, 485, 486, 487, 488, 489, 490, 491, 155, 156, 157, 492, 493, 494, 495, 496, 497, 498, 499, 500, 501, 464, 465, 466, 471, 218, 219, 220, 221, 93, 502, 425, 426, 427, 25, 428, 264, 265, 266, 50, 267, 268, 269, 270, 48, 58, 59, 271, 149, 150, 272, 273, 274, 275, 49, 276, 277, 278, 279, 280, 281, 282, 283, 284, 285, 286, 287, 288, 289, 290, 291, 292, 293, 294, 295, 296, 297, 298, 299, 429, 503, 443, 444, 445, 446, 527, 528, 529, 530, 531, 532, 533, 534, 535, 536, 504, 505, 506, 507, 508, 509, 510, 511, 512, 513, 520, 521, 522, 523, 524, 525, 526, 515, 516, 517, 518, 519, 514] (by decide +kernel) (by decide +kernel)) (goodIn_sub (fun _ h => List.mem_append_left _ (List.mem_append_left _ (List.mem_append_right _ h))) (by decide +kernel))) (goodIn_sub (fun _ h => List.mem_append_right _ h) (by decide +kernel))
set_option maxRecDepth 20000 in
theorem gL_law_X5_isSame_ : GoodIn wsL_law (wsV RL 134 RX5 yX5_isSame_ wsX5_isSame_) := goodIn_app (goodIn_of _ (by decide +kernel)) ggL_law_X5_isSame_
theorem dL_law_0 : decode cL_law 0 = .ok (.new 22, 3) := by decide +kernel
theorem dL_law_3 : decode cL_law 3 = .ok (.dup, 1) := by decide +kernel
theorem dL_law_4 : decode cL_law 4 = .ok (.invokespecial 98, 3) := by decide +kernel
theorem dL_law_7 : decode cL_law 7 = .ok (.astore_n 1, 1) := by decide +kernel
theorem dL_law_8 : decode cL_law 8 = .ok (.aload_n 1, 1) := by decide +kernel
theorem dL_law_9 : decode cL_law 9 = .ok (.aload_n 0, 1) := by decide +kernel
theorem dL_law_10 : decode cL_law 10 = .ok (.invokestatic 99, 3) := by decide +kernel
theorem dL_law_13 : decode cL_law 13 = .ok (.astore_n 2, 1) := by decide +kernel
theorem dL_law_14 : decode cL_law 14 = .ok (.aload_n 2, 1) := by decide +kernel
theorem dL_law_15 : decode cL_law 15 = .ok (.ifnonnull 5, 3) := by decide +kernel
theorem dL_law_18 : decode cL_law 18 = .ok (.iconst 0, 1) := by decide +kernel
theorem dL_law_19 : decode cL_law 19 = .ok (.ireturn, 1) := by decide +kernel
theorem dL_law_20 : decode cL_law 20 = .ok (.iconst 0, 1) := by decide +kernel
theorem dL_law_21 : decode cL_law 21 = .ok (.istore_n 3, 1) := by decide +kernel
theorem dL_law_22 : decode cL_law 22 = .ok (.iload_n 3, 1) := by decide +kernel
theorem dL_law_23 : decode cL_law 23 = .ok (.bipush 14, 2) := by decide +kernel
theorem dL_law_25 : decode cL_law 25 = .ok (.if_icmp .ge 757, 3) := by decide +kernel
theorem dL_law_28 : decode cL_law 28 = .ok (.aload_n 0, 1) := by decide +kernel
theorem dL_law_29 : decode cL_law 29 = .ok (.iload_n 3, 1) := by decide +kernel
theorem dL_law_30 : decode cL_law 30 = .ok (.bipush 16, 2) := by decide +kernel
theorem dL_law_32 : decode cL_law 32 = .ok (.irem, 1) := by decide +kernel
theorem dL_law_33 : decode cL_law 33 = .ok (.invokestatic 89, 3) := by decide +kernel
theorem dL_law_36 : decode cL_law 36 = .ok (.iconst 2, 1) := by decide +kernel
theorem dL_law_37 : decode cL_law 37 = .ok (.ishr, 1) := by decide +kernel
theorem dL_law_38 : decode cL_law 38 = .ok (.bipush 59, 2) := by decide +kernel
theorem dL_law_40 : decode cL_law 40 = .ok (.iload_n 3, 1) := by decide +kernel
theorem dL_law_41 : decode cL_law 41 = .ok (.imul, 1) := by decide +kernel
theorem dL_law_42 : decode cL_law 42 = .ok (.iadd, 1) := by decide +kernel
theorem dL_law_43 : decode cL_law 43 = .ok (.istore 4, 2) := by decide +kernel
theorem dL_law_45 : decode cL_law 45 = .ok (.aload_n 1, 1) := by decide +kernel
theorem dL_law_46 : decode cL_law 46 = .ok (.iconst 5, 1) := by decide +kernel
theorem dL_law_47 : decode cL_law 47 = .ok (.invokevirtual 103, 3) := by decide +kernel
theorem dL_law_50 : decode cL_law 50 = .ok (.istore 5, 2) := by decide +kernel
theorem dL_law_52 : decode cL_law 52 = .ok (.aload_n 1, 1) := by decide +kernel
