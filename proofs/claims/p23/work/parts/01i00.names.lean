theorem dX5_isSame__30 : decode cX5_isSame_ 30 = .ok (.iaload, 1) := by decide +kernel
theorem dX5_isSame__31 : decode cX5_isSame_ 31 = .ok (.if_icmp .ne 48, 3) := by decide +kernel
theorem dX5_isSame__34 : decode cX5_isSame_ 34 = .ok (.aload_n 1, 1) := by decide +kernel
theorem dX5_isSame__35 : decode cX5_isSame_ 35 = .ok (.iload_n 3, 1) := by decide +kernel
theorem dX5_isSame__36 : decode cX5_isSame_ 36 = .ok (.iconst 1, 1) := by decide +kernel
theorem dX5_isSame__37 : decode cX5_isSame_ 37 = .ok (.invokevirtual 85, 3) := by decide +kernel
theorem dX5_isSame__40 : decode cX5_isSame_ 40 = .ok (.aload_n 0, 1) := by decide +kernel
theorem dX5_isSame__41 : decode cX5_isSame_ 41 = .ok (.getfield 29, 3) := by decide +kernel
theorem dX5_isSame__44 : decode cX5_isSame_ 44 = .ok (.iload_n 3, 1) := by decide +kernel
theorem dX5_isSame__45 : decode cX5_isSame_ 45 = .ok (.invokestatic 69, 3) := by decide +kernel
theorem dX5_isSame__48 : decode cX5_isSame_ 48 = .ok (.if_icmp .ne 31, 3) := by decide +kernel
theorem dX5_isSame__51 : decode cX5_isSame_ 51 = .ok (.aload_n 1, 1) := by decide +kernel
theorem dX5_isSame__52 : decode cX5_isSame_ 52 = .ok (.iload_n 3, 1) := by decide +kernel
theorem dX5_isSame__53 : decode cX5_isSame_ 53 = .ok (.iconst 2, 1) := by decide +kernel
theorem dX5_isSame__54 : decode cX5_isSame_ 54 = .ok (.invokevirtual 85, 3) := by decide +kernel
theorem dX5_isSame__57 : decode cX5_isSame_ 57 = .ok (.iload_n 3, 1) := by decide +kernel
theorem dX5_isSame__58 : decode cX5_isSame_ 58 = .ok (.aload_n 0, 1) := by decide +kernel
theorem dX5_isSame__59 : decode cX5_isSame_ 59 = .ok (.getfield 25, 3) := by decide +kernel
theorem dX5_isSame__62 : decode cX5_isSame_ 62 = .ok (.arraylength, 1) := by decide +kernel
theorem dX5_isSame__63 : decode cX5_isSame_ 63 = .ok (.if_icmp .ge 12, 3) := by decide +kernel
theorem dX5_isSame__66 : decode cX5_isSame_ 66 = .ok (.aload_n 0, 1) := by decide +kernel
theorem dX5_isSame__67 : decode cX5_isSame_ 67 = .ok (.getfield 25, 3) := by decide +kernel
theorem dX5_isSame__70 : decode cX5_isSame_ 70 = .ok (.iload_n 3, 1) := by decide +kernel
theorem dX5_isSame__71 : decode cX5_isSame_ 71 = .ok (.iaload, 1) := by decide +kernel
theorem dX5_isSame__72 : decode cX5_isSame_ 72 = .ok (.goto 4, 3) := by decide +kernel
theorem dX5_isSame__75 : decode cX5_isSame_ 75 = .ok (.iconst (-1), 1) := by decide +kernel
theorem dX5_isSame__76 : decode cX5_isSame_ 76 = .ok (.if_icmp .eq 5, 3) := by decide +kernel
theorem dX5_isSame__79 : decode cX5_isSame_ 79 = .ok (.iconst 0, 1) := by decide +kernel
theorem dX5_isSame__80 : decode cX5_isSame_ 80 = .ok (.ireturn, 1) := by decide +kernel
theorem dX5_isSame__81 : decode cX5_isSame_ 81 = .ok (.iinc 3 1, 3) := by decide +kernel
theorem dX5_isSame__84 : decode cX5_isSame_ 84 = .ok (.goto (-80), 3) := by decide +kernel
theorem dX5_isSame__87 : decode cX5_isSame_ 87 = .ok (.bipush 8, 2) := by decide +kernel
theorem dX5_isSame__89 : decode cX5_isSame_ 89 = .ok (.newarray .int, 2) := by decide +kernel
theorem dX5_isSame__91 : decode cX5_isSame_ 91 = .ok (.dup, 1) := by decide +kernel
theorem dX5_isSame__92 : decode cX5_isSame_ 92 = .ok (.iconst 0, 1) := by decide +kernel
theorem dX5_isSame__93 : decode cX5_isSame_ 93 = .ok (.aload_n 0, 1) := by decide +kernel
theorem dX5_isSame__94 : decode cX5_isSame_ 94 = .ok (.getfield 14, 3) := by decide +kernel
theorem dX5_isSame__97 : decode cX5_isSame_ 97 = .ok (.iastore, 1) := by decide +kernel
theorem dX5_isSame__98 : decode cX5_isSame_ 98 = .ok (.dup, 1) := by decide +kernel
theorem dX5_isSame__99 : decode cX5_isSame_ 99 = .ok (.iconst 1, 1) := by decide +kernel
theorem dX5_isSame__100 : decode cX5_isSame_ 100 = .ok (.aload_n 0, 1) := by decide +kernel
theorem dX5_isSame__101 : decode cX5_isSame_ 101 = .ok (.getfield 18, 3) := by decide +kernel
theorem dX5_isSame__104 : decode cX5_isSame_ 104 = .ok (.iastore, 1) := by decide +kernel
theorem dX5_isSame__105 : decode cX5_isSame_ 105 = .ok (.dup, 1) := by decide +kernel
theorem dX5_isSame__106 : decode cX5_isSame_ 106 = .ok (.iconst 2, 1) := by decide +kernel
theorem dX5_isSame__107 : decode cX5_isSame_ 107 = .ok (.aload_n 0, 1) := by decide +kernel
theorem dX5_isSame__108 : decode cX5_isSame_ 108 = .ok (.getfield 36, 3) := by decide +kernel
theorem dX5_isSame__111 : decode cX5_isSame_ 111 = .ok (.ifCond .eq 7, 3) := by decide +kernel
theorem dX5_isSame__114 : decode cX5_isSame_ 114 = .ok (.iconst 1, 1) := by decide +kernel
theorem dX5_isSame__115 : decode cX5_isSame_ 115 = .ok (.goto 4, 3) := by decide +kernel
theorem dX5_isSame__118 : decode cX5_isSame_ 118 = .ok (.iconst 0, 1) := by decide +kernel
theorem dX5_isSame__119 : decode cX5_isSame_ 119 = .ok (.iastore, 1) := by decide +kernel
theorem dX5_isSame__120 : decode cX5_isSame_ 120 = .ok (.dup, 1) := by decide +kernel
theorem dX5_isSame__121 : decode cX5_isSame_ 121 = .ok (.iconst 3, 1) := by decide +kernel
theorem dX5_isSame__122 : decode cX5_isSame_ 122 = .ok (.aload_n 0, 1) := by decide +kernel
theorem dX5_isSame__123 : decode cX5_isSame_ 123 = .ok (.getfield 46, 3) := by decide +kernel
theorem dX5_isSame__126 : decode cX5_isSame_ 126 = .ok (.ifCond .eq 7, 3) := by decide +kernel
theorem dX5_isSame__129 : decode cX5_isSame_ 129 = .ok (.iconst 1, 1) := by decide +kernel
theorem dX5_isSame__130 : decode cX5_isSame_ 130 = .ok (.goto 4, 3) := by decide +kernel
theorem dX5_isSame__133 : decode cX5_isSame_ 133 = .ok (.iconst 0, 1) := by decide +kernel
theorem dX5_isSame__134 : decode cX5_isSame_ 134 = .ok (.iastore, 1) := by decide +kernel
theorem dX5_isSame__135 : decode cX5_isSame_ 135 = .ok (.dup, 1) := by decide +kernel
theorem dX5_isSame__136 : decode cX5_isSame_ 136 = .ok (.iconst 4, 1) := by decide +kernel
theorem dX5_isSame__137 : decode cX5_isSame_ 137 = .ok (.aload_n 0, 1) := by decide +kernel
theorem dX5_isSame__138 : decode cX5_isSame_ 138 = .ok (.getfield 72, 3) := by decide +kernel
theorem dX5_isSame__141 : decode cX5_isSame_ 141 = .ok (.iastore, 1) := by decide +kernel
theorem dX5_isSame__142 : decode cX5_isSame_ 142 = .ok (.dup, 1) := by decide +kernel
theorem dX5_isSame__143 : decode cX5_isSame_ 143 = .ok (.iconst 5, 1) := by decide +kernel
theorem dX5_isSame__144 : decode cX5_isSame_ 144 = .ok (.iload_n 2, 1) := by decide +kernel
theorem dX5_isSame__145 : decode cX5_isSame_ 145 = .ok (.iastore, 1) := by decide +kernel
theorem dX5_isSame__146 : decode cX5_isSame_ 146 = .ok (.dup, 1) := by decide +kernel
theorem dX5_isSame__147 : decode cX5_isSame_ 147 = .ok (.bipush 6, 2) := by decide +kernel
theorem dX5_isSame__149 : decode cX5_isSame_ 149 = .ok (.aload_n 0, 1) := by decide +kernel
theorem dX5_isSame__150 : decode cX5_isSame_ 150 = .ok (.getfield 79, 3) := by decide +kernel
theorem dX5_isSame__153 : decode cX5_isSame_ 153 = .ok (.iastore, 1) := by decide +kernel
theorem dX5_isSame__154 : decode cX5_isSame_ 154 = .ok (.dup, 1) := by decide +kernel
theorem dX5_isSame__155 : decode cX5_isSame_ 155 = .ok (.bipush 7, 2) := by decide +kernel
theorem dX5_isSame__157 : decode cX5_isSame_ 157 = .ok (.aload_n 0, 1) := by decide +kernel
theorem dX5_isSame__158 : decode cX5_isSame_ 158 = .ok (.aload_n 0, 1) := by decide +kernel
theorem dX5_isSame__159 : decode cX5_isSame_ 159 = .ok (.getfield 29, 3) := by decide +kernel
theorem dX5_isSame__162 : decode cX5_isSame_ 162 = .ok (.invokevirtual 82, 3) := by decide +kernel
theorem dX5_isSame__165 : decode cX5_isSame_ 165 = .ok (.iastore, 1) := by decide +kernel
theorem dX5_isSame__166 : decode cX5_isSame_ 166 = .ok (.astore_n 3, 1) := by decide +kernel
theorem dX5_isSame__167 : decode cX5_isSame_ 167 = .ok (.iconst 0, 1) := by decide +kernel
theorem dX5_isSame__168 : decode cX5_isSame_ 168 = .ok (.istore 4, 2) := by decide +kernel
theorem dX5_isSame__170 : decode cX5_isSame_ 170 = .ok (.iload 4, 2) := by decide +kernel
theorem dX5_isSame__172 : decode cX5_isSame_ 172 = .ok (.bipush 8, 2) := by decide +kernel
theorem dX5_isSame__174 : decode cX5_isSame_ 174 = .ok (.if_icmp .ge 24, 3) := by decide +kernel
theorem dX5_isSame__177 : decode cX5_isSame_ 177 = .ok (.aload_n 1, 1) := by decide +kernel
theorem dX5_isSame__178 : decode cX5_isSame_ 178 = .ok (.iload 4, 2) := by decide +kernel
theorem dX5_isSame__180 : decode cX5_isSame_ 180 = .ok (.invokevirtual 91, 3) := by decide +kernel
theorem dX5_isSame__183 : decode cX5_isSame_ 183 = .ok (.aload_n 3, 1) := by decide +kernel
theorem dX5_isSame__184 : decode cX5_isSame_ 184 = .ok (.iload 4, 2) := by decide +kernel
theorem dX5_isSame__186 : decode cX5_isSame_ 186 = .ok (.iaload, 1) := by decide +kernel
theorem dX5_isSame__187 : decode cX5_isSame_ 187 = .ok (.if_icmp .eq 5, 3) := by decide +kernel
theorem dX5_isSame__190 : decode cX5_isSame_ 190 = .ok (.iconst 0, 1) := by decide +kernel
theorem dX5_isSame__191 : decode cX5_isSame_ 191 = .ok (.ireturn, 1) := by decide +kernel
theorem dX5_isSame__192 : decode cX5_isSame_ 192 = .ok (.iinc 4 1, 3) := by decide +kernel
theorem dX5_isSame__195 : decode cX5_isSame_ 195 = .ok (.goto (-25), 3) := by decide +kernel
theorem dX5_isSame__198 : decode cX5_isSame_ 198 = .ok (.iconst 0, 1) := by decide +kernel
theorem dX5_isSame__199 : decode cX5_isSame_ 199 = .ok (.istore 4, 2) := by decide +kernel
theorem dX5_isSame__201 : decode cX5_isSame_ 201 = .ok (.iconst 0, 1) := by decide +kernel
theorem dX5_isSame__202 : decode cX5_isSame_ 202 = .ok (.istore 5, 2) := by decide +kernel
theorem dX5_isSame__204 : decode cX5_isSame_ 204 = .ok (.iload 5, 2) := by decide +kernel
theorem dX5_isSame__206 : decode cX5_isSame_ 206 = .ok (.bipush 8, 2) := by decide +kernel
theorem dX5_isSame__208 : decode cX5_isSame_ 208 = .ok (.if_icmp .ge 175, 3) := by decide +kernel
theorem dX5_isSame__211 : decode cX5_isSame_ 211 = .ok (.iconst 0, 1) := by decide +kernel
theorem dX5_isSame__212 : decode cX5_isSame_ 212 = .ok (.istore 6, 2) := by decide +kernel
theorem dX5_isSame__214 : decode cX5_isSame_ 214 = .ok (.iload 6, 2) := by decide +kernel
theorem dX5_isSame__216 : decode cX5_isSame_ 216 = .ok (.bipush 12, 2) := by decide +kernel
theorem dX5_isSame__218 : decode cX5_isSame_ 218 = .ok (.if_icmp .ge 75, 3) := by decide +kernel
theorem dX5_isSame__221 : decode cX5_isSame_ 221 = .ok (.iload 4, 2) := by decide +kernel
theorem dX5_isSame__223 : decode cX5_isSame_ 223 = .ok (.aload_n 0, 1) := by decide +kernel
theorem dX5_isSame__224 : decode cX5_isSame_ 224 = .ok (.getfield 9, 3) := by decide +kernel
theorem dX5_isSame__227 : decode cX5_isSame_ 227 = .ok (.iload 5, 2) := by decide +kernel
theorem dX5_isSame__229 : decode cX5_isSame_ 229 = .ok (.aaload, 1) := by decide +kernel
theorem dX5_isSame__230 : decode cX5_isSame_ 230 = .ok (.iload 6, 2) := by decide +kernel
theorem dX5_isSame__232 : decode cX5_isSame_ 232 = .ok (.iaload, 1) := by decide +kernel
theorem dX5_isSame__233 : decode cX5_isSame_ 233 = .ok (.iadd, 1) := by decide +kernel
theorem dX5_isSame__234 : decode cX5_isSame_ 234 = .ok (.istore 4, 2) := by decide +kernel
theorem dX5_isSame__236 : decode cX5_isSame_ 236 = .ok (.aload_n 1, 1) := by decide +kernel
theorem dX5_isSame__237 : decode cX5_isSame_ 237 = .ok (.iload 6, 2) := by decide +kernel
theorem dX5_isSame__239 : decode cX5_isSame_ 239 = .ok (.iload 5, 2) := by decide +kernel
theorem dX5_isSame__241 : decode cX5_isSame_ 241 = .ok (.invokevirtual 94, 3) := by decide +kernel
theorem dX5_isSame__244 : decode cX5_isSame_ 244 = .ok (.aload_n 0, 1) := by decide +kernel
theorem dX5_isSame__245 : decode cX5_isSame_ 245 = .ok (.getfield 9, 3) := by decide +kernel
theorem dX5_isSame__248 : decode cX5_isSame_ 248 = .ok (.iload 5, 2) := by decide +kernel
theorem dX5_isSame__250 : decode cX5_isSame_ 250 = .ok (.aaload, 1) := by decide +kernel
theorem dX5_isSame__251 : decode cX5_isSame_ 251 = .ok (.iload 6, 2) := by decide +kernel
theorem dX5_isSame__253 : decode cX5_isSame_ 253 = .ok (.iaload, 1) := by decide +kernel
theorem dX5_isSame__254 : decode cX5_isSame_ 254 = .ok (.if_icmp .ne 31, 3) := by decide +kernel
theorem dX5_isSame__257 : decode cX5_isSame_ 257 = .ok (.aload_n 0, 1) := by decide +kernel
theorem dX5_isSame__258 : decode cX5_isSame_ 258 = .ok (.getfield 72, 3) := by decide +kernel
theorem dX5_isSame__261 : decode cX5_isSame_ 261 = .ok (.ifCond .le 26, 3) := by decide +kernel
theorem dX5_isSame__264 : decode cX5_isSame_ 264 = .ok (.aload_n 1, 1) := by decide +kernel
theorem dX5_isSame__265 : decode cX5_isSame_ 265 = .ok (.iload 6, 2) := by decide +kernel
theorem dX5_isSame__267 : decode cX5_isSame_ 267 = .ok (.iload 5, 2) := by decide +kernel
theorem dX5_isSame__269 : decode cX5_isSame_ 269 = .ok (.invokevirtual 97, 3) := by decide +kernel
theorem dX5_isSame__272 : decode cX5_isSame_ 272 = .ok (.aload_n 0, 1) := by decide +kernel
theorem dX5_isSame__273 : decode cX5_isSame_ 273 = .ok (.getfield 29, 3) := by decide +kernel
theorem dX5_isSame__276 : decode cX5_isSame_ 276 = .ok (.iload 5, 2) := by decide +kernel
theorem dX5_isSame__278 : decode cX5_isSame_ 278 = .ok (.aaload, 1) := by decide +kernel
theorem dX5_isSame__279 : decode cX5_isSame_ 279 = .ok (.iload 6, 2) := by decide +kernel
theorem dX5_isSame__281 : decode cX5_isSame_ 281 = .ok (.iaload, 1) := by decide +kernel
theorem dX5_isSame__282 : decode cX5_isSame_ 282 = .ok (.if_icmp .eq 5, 3) := by decide +kernel
theorem dX5_isSame__285 : decode cX5_isSame_ 285 = .ok (.iconst 0, 1) := by decide +kernel
theorem dX5_isSame__286 : decode cX5_isSame_ 286 = .ok (.ireturn, 1) := by decide +kernel
theorem dX5_isSame__287 : decode cX5_isSame_ 287 = .ok (.iinc 6 1, 3) := by decide +kernel
theorem dX5_isSame__290 : decode cX5_isSame_ 290 = .ok (.goto (-76), 3) := by decide +kernel
theorem dX5_isSame__293 : decode cX5_isSame_ 293 = .ok (.aload_n 0, 1) := by decide +kernel
theorem dX5_isSame__294 : decode cX5_isSame_ 294 = .ok (.getfield 72, 3) := by decide +kernel
theorem dX5_isSame__297 : decode cX5_isSame_ 297 = .ok (.ifCond .ne 6, 3) := by decide +kernel
theorem dX5_isSame__300 : decode cX5_isSame_ 300 = .ok (.goto 77, 3) := by decide +kernel
theorem dX5_isSame__303 : decode cX5_isSame_ 303 = .ok (.aload_n 0, 1) := by decide +kernel
theorem dX5_isSame__304 : decode cX5_isSame_ 304 = .ok (.getfield 29, 3) := by decide +kernel
theorem dX5_isSame__307 : decode cX5_isSame_ 307 = .ok (.iload 5, 2) := by decide +kernel
theorem dX5_isSame__309 : decode cX5_isSame_ 309 = .ok (.aaload, 1) := by decide +kernel
theorem dX5_isSame__310 : decode cX5_isSame_ 310 = .ok (.invokestatic 53, 3) := by decide +kernel
theorem dX5_isSame__313 : decode cX5_isSame_ 313 = .ok (.astore 6, 2) := by decide +kernel
theorem dX5_isSame__315 : decode cX5_isSame_ 315 = .ok (.iconst 0, 1) := by decide +kernel
theorem dX5_isSame__316 : decode cX5_isSame_ 316 = .ok (.istore 7, 2) := by decide +kernel
theorem dX5_isSame__318 : decode cX5_isSame_ 318 = .ok (.iload 7, 2) := by decide +kernel
theorem dX5_isSame__320 : decode cX5_isSame_ 320 = .ok (.aload 6, 2) := by decide +kernel
theorem dX5_isSame__322 : decode cX5_isSame_ 322 = .ok (.arraylength, 1) := by decide +kernel
theorem dX5_isSame__323 : decode cX5_isSame_ 323 = .ok (.if_icmp .ge 33, 3) := by decide +kernel
theorem dX5_isSame__326 : decode cX5_isSame_ 326 = .ok (.aload_n 1, 1) := by decide +kernel
theorem dX5_isSame__327 : decode cX5_isSame_ 327 = .ok (.iload 5, 2) := by decide +kernel
theorem dX5_isSame__329 : decode cX5_isSame_ 329 = .ok (.iload 7, 2) := by decide +kernel
theorem dX5_isSame__331 : decode cX5_isSame_ 331 = .ok (.iconst 2, 1) := by decide +kernel
theorem dX5_isSame__332 : decode cX5_isSame_ 332 = .ok (.idiv, 1) := by decide +kernel
theorem dX5_isSame__333 : decode cX5_isSame_ 333 = .ok (.iload 7, 2) := by decide +kernel
theorem dX5_isSame__335 : decode cX5_isSame_ 335 = .ok (.iconst 2, 1) := by decide +kernel
theorem dX5_isSame__336 : decode cX5_isSame_ 336 = .ok (.irem, 1) := by decide +kernel
theorem dX5_isSame__337 : decode cX5_isSame_ 337 = .ok (.invokevirtual 100, 3) := by decide +kernel
theorem dX5_isSame__340 : decode cX5_isSame_ 340 = .ok (.aload 6, 2) := by decide +kernel
theorem dX5_isSame__342 : decode cX5_isSame_ 342 = .ok (.iload 7, 2) := by decide +kernel
theorem dX5_isSame__344 : decode cX5_isSame_ 344 = .ok (.iaload, 1) := by decide +kernel
theorem dX5_isSame__345 : decode cX5_isSame_ 345 = .ok (.if_icmp .eq 5, 3) := by decide +kernel
theorem dX5_isSame__348 : decode cX5_isSame_ 348 = .ok (.iconst 0, 1) := by decide +kernel
theorem dX5_isSame__349 : decode cX5_isSame_ 349 = .ok (.ireturn, 1) := by decide +kernel
theorem dX5_isSame__350 : decode cX5_isSame_ 350 = .ok (.iinc 7 1, 3) := by decide +kernel
theorem dX5_isSame__353 : decode cX5_isSame_ 353 = .ok (.goto (-35), 3) := by decide +kernel
theorem dX5_isSame__356 : decode cX5_isSame_ 356 = .ok (.aload_n 1, 1) := by decide +kernel
theorem dX5_isSame__357 : decode cX5_isSame_ 357 = .ok (.iload 5, 2) := by decide +kernel
theorem dX5_isSame__359 : decode cX5_isSame_ 359 = .ok (.invokevirtual 104, 3) := by decide +kernel
theorem dX5_isSame__362 : decode cX5_isSame_ 362 = .ok (.aload_n 0, 1) := by decide +kernel
theorem dX5_isSame__363 : decode cX5_isSame_ 363 = .ok (.aload_n 0, 1) := by decide +kernel
theorem dX5_isSame__364 : decode cX5_isSame_ 364 = .ok (.getfield 29, 3) := by decide +kernel
theorem dX5_isSame__367 : decode cX5_isSame_ 367 = .ok (.iload 5, 2) := by decide +kernel
theorem dX5_isSame__369 : decode cX5_isSame_ 369 = .ok (.invokevirtual 57, 3) := by decide +kernel
theorem dX5_isSame__372 : decode cX5_isSame_ 372 = .ok (.if_icmp .eq 5, 3) := by decide +kernel
theorem dX5_isSame__375 : decode cX5_isSame_ 375 = .ok (.iconst 0, 1) := by decide +kernel
theorem dX5_isSame__376 : decode cX5_isSame_ 376 = .ok (.ireturn, 1) := by decide +kernel
theorem dX5_isSame__377 : decode cX5_isSame_ 377 = .ok (.iinc 5 1, 3) := by decide +kernel
theorem dX5_isSame__380 : decode cX5_isSame_ 380 = .ok (.goto (-176), 3) := by decide +kernel
theorem dX5_isSame__383 : decode cX5_isSame_ 383 = .ok (.aload_n 0, 1) := by decide +kernel
theorem dX5_isSame__384 : decode cX5_isSame_ 384 = .ok (.aload_n 0, 1) := by decide +kernel
theorem dX5_isSame__385 : decode cX5_isSame_ 385 = .ok (.getfield 14, 3) := by decide +kernel
theorem dX5_isSame__388 : decode cX5_isSame_ 388 = .ok (.invokevirtual 61, 3) := by decide +kernel
theorem dX5_isSame__391 : decode cX5_isSame_ 391 = .ok (.astore 5, 2) := by decide +kernel
theorem dX5_isSame__393 : decode cX5_isSame_ 393 = .ok (.iconst 0, 1) := by decide +kernel
theorem dX5_isSame__394 : decode cX5_isSame_ 394 = .ok (.istore 6, 2) := by decide +kernel
theorem dX5_isSame__396 : decode cX5_isSame_ 396 = .ok (.iload 6, 2) := by decide +kernel
theorem dX5_isSame__398 : decode cX5_isSame_ 398 = .ok (.bipush 6, 2) := by decide +kernel
theorem dX5_isSame__400 : decode cX5_isSame_ 400 = .ok (.if_icmp .ge 37, 3) := by decide +kernel
theorem dX5_isSame__403 : decode cX5_isSame_ 403 = .ok (.aload_n 1, 1) := by decide +kernel
theorem dX5_isSame__404 : decode cX5_isSame_ 404 = .ok (.iload 6, 2) := by decide +kernel
theorem dX5_isSame__406 : decode cX5_isSame_ 406 = .ok (.invokevirtual 106, 3) := by decide +kernel
theorem dX5_isSame__409 : decode cX5_isSame_ 409 = .ok (.iload 6, 2) := by decide +kernel
theorem dX5_isSame__411 : decode cX5_isSame_ 411 = .ok (.aload 5, 2) := by decide +kernel
theorem dX5_isSame__413 : decode cX5_isSame_ 413 = .ok (.arraylength, 1) := by decide +kernel
theorem dX5_isSame__414 : decode cX5_isSame_ 414 = .ok (.if_icmp .ge 11, 3) := by decide +kernel
theorem dX5_isSame__417 : decode cX5_isSame_ 417 = .ok (.aload 5, 2) := by decide +kernel
theorem dX5_isSame__419 : decode cX5_isSame_ 419 = .ok (.iload 6, 2) := by decide +kernel
theorem dX5_isSame__421 : decode cX5_isSame_ 421 = .ok (.iaload, 1) := by decide +kernel
theorem dX5_isSame__422 : decode cX5_isSame_ 422 = .ok (.goto 4, 3) := by decide +kernel
theorem dX5_isSame__425 : decode cX5_isSame_ 425 = .ok (.iconst (-1), 1) := by decide +kernel
theorem dX5_isSame__426 : decode cX5_isSame_ 426 = .ok (.if_icmp .eq 5, 3) := by decide +kernel
theorem dX5_isSame__429 : decode cX5_isSame_ 429 = .ok (.iconst 0, 1) := by decide +kernel
theorem dX5_isSame__430 : decode cX5_isSame_ 430 = .ok (.ireturn, 1) := by decide +kernel
theorem dX5_isSame__431 : decode cX5_isSame_ 431 = .ok (.iinc 6 1, 3) := by decide +kernel
theorem dX5_isSame__434 : decode cX5_isSame_ 434 = .ok (.goto (-38), 3) := by decide +kernel
theorem dX5_isSame__437 : decode cX5_isSame_ 437 = .ok (.aload_n 1, 1) := by decide +kernel
theorem dX5_isSame__438 : decode cX5_isSame_ 438 = .ok (.invokevirtual 108, 3) := by decide +kernel
theorem dX5_isSame__441 : decode cX5_isSame_ 441 = .ok (.iload 4, 2) := by decide +kernel
theorem dX5_isSame__443 : decode cX5_isSame_ 443 = .ok (.i2d, 1) := by decide +kernel
theorem dX5_isSame__444 : decode cX5_isSame_ 444 = .ok (.ldc2_w 112, 3) := by decide +kernel
theorem dX5_isSame__447 : decode cX5_isSame_ 447 = .ok (.ddiv, 1) := by decide +kernel
theorem dX5_isSame__448 : decode cX5_isSame_ 448 = .ok (.dcmp .l, 1) := by decide +kernel
theorem dX5_isSame__449 : decode cX5_isSame_ 449 = .ok (.ifCond .ne 7, 3) := by decide +kernel
theorem dX5_isSame__452 : decode cX5_isSame_ 452 = .ok (.iconst 1, 1) := by decide +kernel
theorem dX5_isSame__453 : decode cX5_isSame_ 453 = .ok (.goto 4, 3) := by decide +kernel
theorem dX5_isSame__456 : decode cX5_isSame_ 456 = .ok (.iconst 0, 1) := by decide +kernel
theorem dX5_isSame__457 : decode cX5_isSame_ 457 = .ok (.ireturn, 1) := by decide +kernel
theorem dJ9_abs_0f7a4_0 : decode cJ9_abs_0f7a4 0 = .ok (.iload_n 0, 1) := by decide +kernel
theorem dJ9_abs_0f7a4_1 : decode cJ9_abs_0f7a4 1 = .ok (.ifCond .ge 8, 3) := by decide +kernel
theorem dJ9_abs_0f7a4_4 : decode cJ9_abs_0f7a4 4 = .ok (.iload_n 0, 1) := by decide +kernel
theorem dJ9_abs_0f7a4_5 : decode cJ9_abs_0f7a4 5 = .ok (.ineg, 1) := by decide +kernel
theorem dJ9_abs_0f7a4_6 : decode cJ9_abs_0f7a4 6 = .ok (.goto 4, 3) := by decide +kernel
theorem dJ9_abs_0f7a4_9 : decode cJ9_abs_0f7a4 9 = .ok (.iload_n 0, 1) := by decide +kernel
theorem dJ9_abs_0f7a4_10 : decode cJ9_abs_0f7a4 10 = .ok (.ireturn, 1) := by decide +kernel
theorem dJ9_max_7cf53_0 : decode cJ9_max_7cf53 0 = .ok (.iload_n 0, 1) := by decide +kernel
theorem dJ9_max_7cf53_1 : decode cJ9_max_7cf53 1 = .ok (.iload_n 1, 1) := by decide +kernel
theorem dJ9_max_7cf53_2 : decode cJ9_max_7cf53 2 = .ok (.if_icmp .lt 7, 3) := by decide +kernel
theorem dJ9_max_7cf53_5 : decode cJ9_max_7cf53 5 = .ok (.iload_n 0, 1) := by decide +kernel
theorem dJ9_max_7cf53_6 : decode cJ9_max_7cf53 6 = .ok (.goto 4, 3) := by decide +kernel
theorem dJ9_max_7cf53_9 : decode cJ9_max_7cf53 9 = .ok (.iload_n 1, 1) := by decide +kernel
theorem dJ9_max_7cf53_10 : decode cJ9_max_7cf53 10 = .ok (.ireturn, 1) := by decide +kernel
theorem dJ9_min_7cf53_0 : decode cJ9_min_7cf53 0 = .ok (.iload_n 0, 1) := by decide +kernel
theorem dJ9_min_7cf53_1 : decode cJ9_min_7cf53 1 = .ok (.iload_n 1, 1) := by decide +kernel
theorem dJ9_min_7cf53_2 : decode cJ9_min_7cf53 2 = .ok (.if_icmp .gt 7, 3) := by decide +kernel
theorem dJ9_min_7cf53_5 : decode cJ9_min_7cf53 5 = .ok (.iload_n 0, 1) := by decide +kernel
theorem dJ9_min_7cf53_6 : decode cJ9_min_7cf53 6 = .ok (.goto 4, 3) := by decide +kernel
theorem dJ9_min_7cf53_9 : decode cJ9_min_7cf53 9 = .ok (.iload_n 1, 1) := by decide +kernel
theorem dJ9_min_7cf53_10 : decode cJ9_min_7cf53 10 = .ok (.ireturn, 1) := by decide +kernel
theorem dL_below_0 : decode cL_below 0 = .ok (.iload_n 0, 1) := by decide +kernel
theorem dL_below_1 : decode cL_below 1 = .ok (.ldc 7, 2) := by decide +kernel
theorem dL_below_3 : decode cL_below 3 = .ok (.iand, 1) := by decide +kernel
theorem dL_below_4 : decode cL_below 4 = .ok (.iload_n 1, 1) := by decide +kernel
theorem dL_below_5 : decode cL_below 5 = .ok (.irem, 1) := by decide +kernel
theorem dL_below_6 : decode cL_below 6 = .ok (.ireturn, 1) := by decide +kernel
theorem dL_cell_0 : decode cL_cell 0 = .ok (.iload_n 1, 1) := by decide +kernel
theorem dL_cell_1 : decode cL_cell 1 = .ok (.aload_n 0, 1) := by decide +kernel
theorem dL_cell_2 : decode cL_cell 2 = .ok (.arraylength, 1) := by decide +kernel
theorem dL_cell_3 : decode cL_cell 3 = .ok (.if_icmp .ge 9, 3) := by decide +kernel
theorem dL_cell_6 : decode cL_cell 6 = .ok (.aload_n 0, 1) := by decide +kernel
theorem dL_cell_7 : decode cL_cell 7 = .ok (.iload_n 1, 1) := by decide +kernel
theorem dL_cell_8 : decode cL_cell 8 = .ok (.iaload, 1) := by decide +kernel
theorem dL_cell_9 : decode cL_cell 9 = .ok (.goto 9, 3) := by decide +kernel
theorem dL_cell_12 : decode cL_cell 12 = .ok (.ldc 8, 2) := by decide +kernel
theorem dL_cell_14 : decode cL_cell 14 = .ok (.iload_n 1, 1) := by decide +kernel
theorem dL_cell_15 : decode cL_cell 15 = .ok (.iconst 3, 1) := by decide +kernel
theorem dL_cell_16 : decode cL_cell 16 = .ok (.iadd, 1) := by decide +kernel
theorem dL_cell_17 : decode cL_cell 17 = .ok (.imul, 1) := by decide +kernel
theorem dL_cell_18 : decode cL_cell 18 = .ok (.ireturn, 1) := by decide +kernel
set_option maxRecDepth 20000 in
theorem ggL_act_L_below : GoodIn wsL_act wsL_below := goodIn_r _ [24, 25] (by decide +kernel) (by decide +kernel)
set_option maxRecDepth 20000 in
theorem gL_act_L_below : GoodIn wsL_act (va_wsS RL 9 yL_below wsL_below) := goodIn_app (goodIn_of _ (by decide +kernel)) ggL_act_L_below
set_option maxRecDepth 20000 in
theorem ggL_act_X4_set : GoodIn wsL_act wsX4_set := goodIn_ca (goodIn_ca (goodIn_r _ [30, 31, 32, 33, 29, 34, 35, 36, 37, 38, 39, 40, 41, 42, 43, 44, 45, 46, 47, 48, 49, 50, 51, 52, 53, 54, 55, 56, 57, 58, 59, 60, 61, 333, 334, 335, 336, 337, 338, 339, 340, 341, 342, 343] (by decide +kernel) (by decide +kernel)) (goodIn_sub (fun _ h => List.mem_cons_of_mem _ (List.mem_append_left _ (List.mem_append_left _ (List.mem_append_right _ h)))) (by decide +kernel))) (goodIn_sub (fun _ h => List.mem_cons_of_mem _ (List.mem_append_left _ (List.mem_append_right _ h))) (by decide +kernel))
set_option maxRecDepth 20000 in
theorem gL_act_X4_set : GoodIn wsL_act (wsV RL 21 RX4 yX4_set wsX4_set) := goodIn_app (goodIn_of _ (by decide +kernel)) ggL_act_X4_set
set_option maxRecDepth 20000 in
theorem ggL_act_X4_row : GoodIn wsL_act wsX4_row := goodIn_ca (goodIn_ca (goodIn_r _ [65, 31, 66, 67, 29, 68, 69, 70, 71, 35, 36, 40, 41, 42, 43, 44, 45, 46, 47, 72, 73, 74, 75, 76, 77, 78, 4, 5, 6, 79, 8, 9, 56, 57, 58, 51, 59, 53, 38, 39, 60, 61, 48, 49, 50, 52, 54, 55, 333, 334, 335, 336, 337, 338, 339, 340, 341, 342, 343] (by decide +kernel) (by decide +kernel)) (goodIn_sub (fun _ h => List.mem_cons_of_mem _ (List.mem_append_left _ (List.mem_append_left _ (List.mem_append_right _ h)))) (by decide +kernel))) (goodIn_sub (fun _ h => List.mem_cons_of_mem _ (List.mem_append_left _ (List.mem_append_right _ h))) (by decide +kernel))
set_option maxRecDepth 20000 in
theorem gL_act_X4_row : GoodIn wsL_act (wsV RL 35 RX4 yX4_row wsX4_row) := goodIn_app (goodIn_of _ (by decide +kernel)) ggL_act_X4_row
set_option maxRecDepth 20000 in
theorem ggL_act_X4_like : GoodIn wsL_act wsX4_like := goodIn_ca (goodIn_r _ [83, 31, 66, 67, 29, 68, 69, 70, 71, 35, 36, 48, 49, 50, 51, 52, 53, 38, 39, 54, 55, 56, 57, 58, 59, 60, 61, 333, 334, 335, 336, 337, 338, 339, 340, 341, 342, 343] (by decide +kernel) (by decide +kernel)) (goodIn_sub (fun _ h => List.mem_cons_of_mem _ (List.mem_append_left _ (List.mem_append_left _ (List.mem_append_right _ h)))) (by decide +kernel))
set_option maxRecDepth 20000 in
theorem gL_act_X4_like : GoodIn wsL_act (wsV RL 44 RX4 yX4_like wsX4_like) := goodIn_app (goodIn_of _ (by decide +kernel)) ggL_act_X4_like
set_option maxRecDepth 20000 in
theorem ggL_act_X4_setColours : GoodIn wsL_act wsX4_setColours := goodIn_ca (goodIn_r _ [87, 88, 89, 90, 29, 91, 43, 44, 45, 46, 47, 333, 334, 335, 336, 337, 338, 339, 340, 341, 342] (by decide +kernel) (by decide +kernel)) (goodIn_sub (fun _ h => List.mem_cons_of_mem _ (List.mem_append_left _ (List.mem_append_right _ h))) (by decide +kernel))
set_option maxRecDepth 20000 in
theorem gL_act_X4_setColours : GoodIn wsL_act (wsV RL 51 RX4 yX4_setColours wsX4_setColours) := goodIn_app (goodIn_of _ (by decide +kernel)) ggL_act_X4_setColours
set_option maxRecDepth 20000 in
theorem ggL_act_X4_setCarry : GoodIn wsL_act wsX4_setCarry := goodIn_ca (goodIn_r _ [95, 96, 69, 70, 29, 71, 35, 36, 333, 334, 335, 336, 337, 338, 339, 340, 341, 342] (by decide +kernel) (by decide +kernel)) (goodIn_sub (fun _ h => List.mem_cons_of_mem _ (List.mem_append_left _ (List.mem_append_left _ (List.mem_append_right _ h)))) (by decide +kernel))
set_option maxRecDepth 20000 in
theorem gL_act_X4_setCarry : GoodIn wsL_act (wsV RL 58 RX4 yX4_setCarry wsX4_setCarry) := goodIn_app (goodIn_of _ (by decide +kernel)) ggL_act_X4_setCarry
set_option maxRecDepth 20000 in
theorem ggL_act_X4_setTurning : GoodIn wsL_act wsX4_setTurning := goodIn_r _ [100, 101, 333, 334, 335, 336, 337, 338, 339, 340, 341, 342] (by decide +kernel) (by decide +kernel)
