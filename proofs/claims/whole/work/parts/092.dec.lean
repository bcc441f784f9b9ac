theorem dX10_init_105 : decode cX10_init 105 = .ok (.putfield 47, 3) := by decide +kernel
theorem dX10_init_108 : decode cX10_init 108 = .ok (.aload_n 0, 1) := by decide +kernel
theorem dX10_init_109 : decode cX10_init 109 = .ok (.bipush 40, 2) := by decide +kernel
theorem dX10_init_111 : decode cX10_init 111 = .ok (.newarray .int, 2) := by decide +kernel
theorem dX10_init_113 : decode cX10_init 113 = .ok (.putfield 50, 3) := by decide +kernel
theorem dX10_init_116 : decode cX10_init 116 = .ok (.aload_n 0, 1) := by decide +kernel
theorem dX10_init_117 : decode cX10_init 117 = .ok (.bipush 40, 2) := by decide +kernel
theorem dX10_init_119 : decode cX10_init 119 = .ok (.newarray .int, 2) := by decide +kernel
theorem dX10_init_121 : decode cX10_init 121 = .ok (.putfield 53, 3) := by decide +kernel
theorem dX10_init_124 : decode cX10_init 124 = .ok (.aload_n 0, 1) := by decide +kernel
theorem dX10_init_125 : decode cX10_init 125 = .ok (.bipush 40, 2) := by decide +kernel
theorem dX10_init_127 : decode cX10_init 127 = .ok (.newarray .int, 2) := by decide +kernel
theorem dX10_init_129 : decode cX10_init 129 = .ok (.putfield 56, 3) := by decide +kernel
theorem dX10_init_132 : decode cX10_init 132 = .ok (.aload_n 0, 1) := by decide +kernel
theorem dX10_init_133 : decode cX10_init 133 = .ok (.bipush 40, 2) := by decide +kernel
theorem dX10_init_135 : decode cX10_init 135 = .ok (.newarray .int, 2) := by decide +kernel
theorem dX10_init_137 : decode cX10_init 137 = .ok (.putfield 59, 3) := by decide +kernel
theorem dX10_init_140 : decode cX10_init 140 = .ok (.aload_n 0, 1) := by decide +kernel
theorem dX10_init_141 : decode cX10_init 141 = .ok (.bipush 40, 2) := by decide +kernel
theorem dX10_init_143 : decode cX10_init 143 = .ok (.newarray .int, 2) := by decide +kernel
theorem dX10_init_145 : decode cX10_init 145 = .ok (.putfield 62, 3) := by decide +kernel
theorem dX10_init_148 : decode cX10_init 148 = .ok (.aload_n 0, 1) := by decide +kernel
theorem dX10_init_149 : decode cX10_init 149 = .ok (.bipush 40, 2) := by decide +kernel
theorem dX10_init_151 : decode cX10_init 151 = .ok (.newarray .long, 2) := by decide +kernel
theorem dX10_init_153 : decode cX10_init 153 = .ok (.putfield 65, 3) := by decide +kernel
theorem dX10_init_156 : decode cX10_init 156 = .ok (.aload_n 0, 1) := by decide +kernel
theorem dX10_init_157 : decode cX10_init 157 = .ok (.ldc 68, 2) := by decide +kernel
theorem dX10_init_159 : decode cX10_init 159 = .ok (.newarray .long, 2) := by decide +kernel
theorem dX10_init_161 : decode cX10_init 161 = .ok (.putfield 69, 3) := by decide +kernel
theorem dX10_init_164 : decode cX10_init 164 = .ok (.aload_n 0, 1) := by decide +kernel
theorem dX10_init_165 : decode cX10_init 165 = .ok (.bipush 60, 2) := by decide +kernel
theorem dX10_init_167 : decode cX10_init 167 = .ok (.newarray .int, 2) := by decide +kernel
theorem dX10_init_169 : decode cX10_init 169 = .ok (.putfield 72, 3) := by decide +kernel
theorem dX10_init_172 : decode cX10_init 172 = .ok (.aload_n 0, 1) := by decide +kernel
theorem dX10_init_173 : decode cX10_init 173 = .ok (.bipush 60, 2) := by decide +kernel
theorem dX10_init_175 : decode cX10_init 175 = .ok (.newarray .int, 2) := by decide +kernel
theorem dX10_init_177 : decode cX10_init 177 = .ok (.putfield 75, 3) := by decide +kernel
theorem dX10_init_180 : decode cX10_init 180 = .ok (.aload_n 0, 1) := by decide +kernel
theorem dX10_init_181 : decode cX10_init 181 = .ok (.bipush 60, 2) := by decide +kernel
theorem dX10_init_183 : decode cX10_init 183 = .ok (.newarray .int, 2) := by decide +kernel
theorem dX10_init_185 : decode cX10_init 185 = .ok (.putfield 78, 3) := by decide +kernel
theorem dX10_init_188 : decode cX10_init 188 = .ok (.aload_n 0, 1) := by decide +kernel
theorem dX10_init_189 : decode cX10_init 189 = .ok (.bipush 60, 2) := by decide +kernel
theorem dX10_init_191 : decode cX10_init 191 = .ok (.newarray .int, 2) := by decide +kernel
theorem dX10_init_193 : decode cX10_init 193 = .ok (.putfield 81, 3) := by decide +kernel
theorem dX10_init_196 : decode cX10_init 196 = .ok (.aload_n 0, 1) := by decide +kernel
theorem dX10_init_197 : decode cX10_init 197 = .ok (.bipush 60, 2) := by decide +kernel
theorem dX10_init_199 : decode cX10_init 199 = .ok (.newarray .int, 2) := by decide +kernel
theorem dX10_init_201 : decode cX10_init 201 = .ok (.putfield 84, 3) := by decide +kernel
theorem dX10_init_204 : decode cX10_init 204 = .ok (.aload_n 0, 1) := by decide +kernel
theorem dX10_init_205 : decode cX10_init 205 = .ok (.bipush 60, 2) := by decide +kernel
theorem dX10_init_207 : decode cX10_init 207 = .ok (.newarray .int, 2) := by decide +kernel
theorem dX10_init_209 : decode cX10_init 209 = .ok (.putfield 87, 3) := by decide +kernel
theorem dX10_init_212 : decode cX10_init 212 = .ok (.aload_n 0, 1) := by decide +kernel
theorem dX10_init_213 : decode cX10_init 213 = .ok (.bipush 60, 2) := by decide +kernel
theorem dX10_init_215 : decode cX10_init 215 = .ok (.newarray .int, 2) := by decide +kernel
theorem dX10_init_217 : decode cX10_init 217 = .ok (.putfield 90, 3) := by decide +kernel
theorem dX10_init_220 : decode cX10_init 220 = .ok (.aload_n 0, 1) := by decide +kernel
theorem dX10_init_221 : decode cX10_init 221 = .ok (.bipush 60, 2) := by decide +kernel
theorem dX10_init_223 : decode cX10_init 223 = .ok (.newarray .int, 2) := by decide +kernel
theorem dX10_init_225 : decode cX10_init 225 = .ok (.putfield 93, 3) := by decide +kernel
theorem dX10_init_228 : decode cX10_init 228 = .ok (.aload_n 0, 1) := by decide +kernel
theorem dX10_init_229 : decode cX10_init 229 = .ok (.sipush 240, 3) := by decide +kernel
theorem dX10_init_232 : decode cX10_init 232 = .ok (.newarray .int, 2) := by decide +kernel
theorem dX10_init_234 : decode cX10_init 234 = .ok (.putfield 96, 3) := by decide +kernel
theorem dX10_init_237 : decode cX10_init 237 = .ok (.aload_n 0, 1) := by decide +kernel
theorem dX10_init_238 : decode cX10_init 238 = .ok (.bipush 60, 2) := by decide +kernel
theorem dX10_init_240 : decode cX10_init 240 = .ok (.newarray .int, 2) := by decide +kernel
theorem dX10_init_242 : decode cX10_init 242 = .ok (.putfield 99, 3) := by decide +kernel
theorem dX10_init_245 : decode cX10_init 245 = .ok (.aload_n 0, 1) := by decide +kernel
theorem dX10_init_246 : decode cX10_init 246 = .ok (.bipush 30, 2) := by decide +kernel
theorem dX10_init_248 : decode cX10_init 248 = .ok (.newarray .int, 2) := by decide +kernel
theorem dX10_init_250 : decode cX10_init 250 = .ok (.putfield 102, 3) := by decide +kernel
theorem dX10_init_253 : decode cX10_init 253 = .ok (.aload_n 0, 1) := by decide +kernel
theorem dX10_init_254 : decode cX10_init 254 = .ok (.bipush 30, 2) := by decide +kernel
theorem dX10_init_256 : decode cX10_init 256 = .ok (.newarray .int, 2) := by decide +kernel
theorem dX10_init_258 : decode cX10_init 258 = .ok (.putfield 105, 3) := by decide +kernel
theorem dX10_init_261 : decode cX10_init 261 = .ok (.aload_n 0, 1) := by decide +kernel
theorem dX10_init_262 : decode cX10_init 262 = .ok (.bipush 30, 2) := by decide +kernel
theorem dX10_init_264 : decode cX10_init 264 = .ok (.newarray .int, 2) := by decide +kernel
theorem dX10_init_266 : decode cX10_init 266 = .ok (.putfield 108, 3) := by decide +kernel
theorem dX10_init_269 : decode cX10_init 269 = .ok (.aload_n 0, 1) := by decide +kernel
theorem dX10_init_270 : decode cX10_init 270 = .ok (.bipush 30, 2) := by decide +kernel
theorem dX10_init_272 : decode cX10_init 272 = .ok (.newarray .int, 2) := by decide +kernel
theorem dX10_init_274 : decode cX10_init 274 = .ok (.putfield 111, 3) := by decide +kernel
theorem dX10_init_277 : decode cX10_init 277 = .ok (.aload_n 0, 1) := by decide +kernel
theorem dX10_init_278 : decode cX10_init 278 = .ok (.bipush 30, 2) := by decide +kernel
theorem dX10_init_280 : decode cX10_init 280 = .ok (.newarray .int, 2) := by decide +kernel
theorem dX10_init_282 : decode cX10_init 282 = .ok (.putfield 114, 3) := by decide +kernel
theorem dX10_init_285 : decode cX10_init 285 = .ok (.aload_n 0, 1) := by decide +kernel
theorem dX10_init_286 : decode cX10_init 286 = .ok (.bipush 30, 2) := by decide +kernel
theorem dX10_init_288 : decode cX10_init 288 = .ok (.newarray .int, 2) := by decide +kernel
theorem dX10_init_290 : decode cX10_init 290 = .ok (.putfield 117, 3) := by decide +kernel
theorem dX10_init_293 : decode cX10_init 293 = .ok (.aload_n 0, 1) := by decide +kernel
theorem dX10_init_294 : decode cX10_init 294 = .ok (.bipush 30, 2) := by decide +kernel
theorem dX10_init_296 : decode cX10_init 296 = .ok (.newarray .int, 2) := by decide +kernel
theorem dX10_init_298 : decode cX10_init 298 = .ok (.putfield 120, 3) := by decide +kernel
theorem dX10_init_301 : decode cX10_init 301 = .ok (.aload_n 0, 1) := by decide +kernel
theorem dX10_init_302 : decode cX10_init 302 = .ok (.bipush 30, 2) := by decide +kernel
theorem dX10_init_304 : decode cX10_init 304 = .ok (.newarray .int, 2) := by decide +kernel
theorem dX10_init_306 : decode cX10_init 306 = .ok (.putfield 123, 3) := by decide +kernel
theorem dX10_init_309 : decode cX10_init 309 = .ok (.aload_n 0, 1) := by decide +kernel
theorem dX10_init_310 : decode cX10_init 310 = .ok (.bipush 30, 2) := by decide +kernel
theorem dX10_init_312 : decode cX10_init 312 = .ok (.newarray .boolean, 2) := by decide +kernel
theorem dX10_init_314 : decode cX10_init 314 = .ok (.putfield 126, 3) := by decide +kernel
theorem dX10_init_317 : decode cX10_init 317 = .ok (.aload_n 0, 1) := by decide +kernel
theorem dX10_init_318 : decode cX10_init 318 = .ok (.bipush 30, 2) := by decide +kernel
theorem dX10_init_320 : decode cX10_init 320 = .ok (.newarray .boolean, 2) := by decide +kernel
theorem dX10_init_322 : decode cX10_init 322 = .ok (.putfield 130, 3) := by decide +kernel
theorem dX10_init_325 : decode cX10_init 325 = .ok (.aload_n 0, 1) := by decide +kernel
theorem dX10_init_326 : decode cX10_init 326 = .ok (.bipush 30, 2) := by decide +kernel
theorem dX10_init_328 : decode cX10_init 328 = .ok (.newarray .boolean, 2) := by decide +kernel
theorem dX10_init_330 : decode cX10_init 330 = .ok (.putfield 133, 3) := by decide +kernel
theorem dX10_init_333 : decode cX10_init 333 = .ok (.aload_n 0, 1) := by decide +kernel
theorem dX10_init_334 : decode cX10_init 334 = .ok (.bipush 30, 2) := by decide +kernel
theorem dX10_init_336 : decode cX10_init 336 = .ok (.newarray .int, 2) := by decide +kernel
theorem dX10_init_338 : decode cX10_init 338 = .ok (.putfield 136, 3) := by decide +kernel
theorem dX10_init_341 : decode cX10_init 341 = .ok (.aload_n 0, 1) := by decide +kernel
theorem dX10_init_342 : decode cX10_init 342 = .ok (.bipush 30, 2) := by decide +kernel
theorem dX10_init_344 : decode cX10_init 344 = .ok (.newarray .int, 2) := by decide +kernel
theorem dX10_init_346 : decode cX10_init 346 = .ok (.putfield 139, 3) := by decide +kernel
theorem dX10_init_349 : decode cX10_init 349 = .ok (.aload_n 0, 1) := by decide +kernel
theorem dX10_init_350 : decode cX10_init 350 = .ok (.bipush 30, 2) := by decide +kernel
theorem dX10_init_352 : decode cX10_init 352 = .ok (.newarray .int, 2) := by decide +kernel
theorem dX10_init_354 : decode cX10_init 354 = .ok (.putfield 142, 3) := by decide +kernel
theorem dX10_init_357 : decode cX10_init 357 = .ok (.aload_n 0, 1) := by decide +kernel
theorem dX10_init_358 : decode cX10_init 358 = .ok (.sipush 1800, 3) := by decide +kernel
theorem dX10_init_361 : decode cX10_init 361 = .ok (.newarray .int, 2) := by decide +kernel
theorem dX10_init_363 : decode cX10_init 363 = .ok (.putfield 145, 3) := by decide +kernel
theorem dX10_init_366 : decode cX10_init 366 = .ok (.aload_n 0, 1) := by decide +kernel
theorem dX10_init_367 : decode cX10_init 367 = .ok (.bipush 9, 2) := by decide +kernel
theorem dX10_init_369 : decode cX10_init 369 = .ok (.newarray .int, 2) := by decide +kernel
theorem dX10_init_371 : decode cX10_init 371 = .ok (.putfield 148, 3) := by decide +kernel
theorem dX10_init_374 : decode cX10_init 374 = .ok (.aload_n 0, 1) := by decide +kernel
theorem dX10_init_375 : decode cX10_init 375 = .ok (.iconst (-1), 1) := by decide +kernel
theorem dX10_init_376 : decode cX10_init 376 = .ok (.putfield 151, 3) := by decide +kernel
theorem dX10_init_379 : decode cX10_init 379 = .ok (.aload_n 0, 1) := by decide +kernel
theorem dX10_init_380 : decode cX10_init 380 = .ok (.bipush 60, 2) := by decide +kernel
theorem dX10_init_382 : decode cX10_init 382 = .ok (.newarray .int, 2) := by decide +kernel
theorem dX10_init_384 : decode cX10_init 384 = .ok (.putfield 155, 3) := by decide +kernel
theorem dX10_init_387 : decode cX10_init 387 = .ok (.aload_n 0, 1) := by decide +kernel
theorem dX10_init_388 : decode cX10_init 388 = .ok (.sipush 128, 3) := by decide +kernel
theorem dX10_init_391 : decode cX10_init 391 = .ok (.newarray .int, 2) := by decide +kernel
theorem dX10_init_393 : decode cX10_init 393 = .ok (.putfield 158, 3) := by decide +kernel
theorem dX10_init_396 : decode cX10_init 396 = .ok (.iconst 0, 1) := by decide +kernel
theorem dX10_init_397 : decode cX10_init 397 = .ok (.istore_n 1, 1) := by decide +kernel
theorem dX10_init_398 : decode cX10_init 398 = .ok (.iload_n 1, 1) := by decide +kernel
theorem dX10_init_399 : decode cX10_init 399 = .ok (.bipush 8, 2) := by decide +kernel
theorem dX10_init_401 : decode cX10_init 401 = .ok (.if_icmp .ge 17, 3) := by decide +kernel
theorem dX10_init_404 : decode cX10_init 404 = .ok (.aload_n 0, 1) := by decide +kernel
theorem dX10_init_405 : decode cX10_init 405 = .ok (.getfield 25, 3) := by decide +kernel
theorem dX10_init_408 : decode cX10_init 408 = .ok (.iload_n 1, 1) := by decide +kernel
theorem dX10_init_409 : decode cX10_init 409 = .ok (.bipush 99, 2) := by decide +kernel
theorem dX10_init_411 : decode cX10_init 411 = .ok (.iastore, 1) := by decide +kernel
theorem dX10_init_412 : decode cX10_init 412 = .ok (.iinc 1 1, 3) := by decide +kernel
theorem dX10_init_415 : decode cX10_init 415 = .ok (.goto (-17), 3) := by decide +kernel
theorem dX10_init_418 : decode cX10_init 418 = .ok (.return_, 1) := by decide +kernel
theorem dX10_refuse_0 : decode cX10_refuse 0 = .ok (.aload_n 0, 1) := by decide +kernel
theorem dX10_refuse_1 : decode cX10_refuse 1 = .ok (.getfield 7, 3) := by decide +kernel
theorem dX10_refuse_4 : decode cX10_refuse 4 = .ok (.iload_n 1, 1) := by decide +kernel
theorem dX10_refuse_5 : decode cX10_refuse 5 = .ok (.ineg, 1) := by decide +kernel
theorem dX10_refuse_6 : decode cX10_refuse 6 = .ok (.dup2, 1) := by decide +kernel
theorem dX10_refuse_7 : decode cX10_refuse 7 = .ok (.iaload, 1) := by decide +kernel
theorem dX10_refuse_8 : decode cX10_refuse 8 = .ok (.iconst 1, 1) := by decide +kernel
theorem dX10_refuse_9 : decode cX10_refuse 9 = .ok (.iadd, 1) := by decide +kernel
theorem dX10_refuse_10 : decode cX10_refuse 10 = .ok (.iastore, 1) := by decide +kernel
theorem dX10_refuse_11 : decode cX10_refuse 11 = .ok (.iload_n 1, 1) := by decide +kernel
theorem dX10_refuse_12 : decode cX10_refuse 12 = .ok (.ireturn, 1) := by decide +kernel
theorem dX10_refuseFar_0 : decode cX10_refuseFar 0 = .ok (.ldc2_w 161, 3) := by decide +kernel
theorem dX10_refuseFar_3 : decode cX10_refuseFar 3 = .ok (.aload_n 0, 1) := by decide +kernel
theorem dX10_refuseFar_4 : decode cX10_refuseFar 4 = .ok (.iload_n 1, 1) := by decide +kernel
theorem dX10_refuseFar_5 : decode cX10_refuseFar 5 = .ok (.invokevirtual 163, 3) := by decide +kernel
theorem dX10_refuseFar_8 : decode cX10_refuseFar 8 = .ok (.i2l, 1) := by decide +kernel
theorem dX10_refuseFar_9 : decode cX10_refuseFar 9 = .ok (.lsub, 1) := by decide +kernel
theorem dX10_refuseFar_10 : decode cX10_refuseFar 10 = .ok (.lreturn, 1) := by decide +kernel
theorem dX10_isIn_0 : decode cX10_isIn 0 = .ok (.iload_n 0, 1) := by decide +kernel
theorem dX10_isIn_1 : decode cX10_isIn 1 = .ok (.ifCond .lt 12, 3) := by decide +kernel
theorem dX10_isIn_4 : decode cX10_isIn 4 = .ok (.iload_n 0, 1) := by decide +kernel
theorem dX10_isIn_5 : decode cX10_isIn 5 = .ok (.iload_n 1, 1) := by decide +kernel
theorem dX10_isIn_6 : decode cX10_isIn 6 = .ok (.if_icmp .ge 7, 3) := by decide +kernel
theorem dX10_isIn_9 : decode cX10_isIn 9 = .ok (.iconst 1, 1) := by decide +kernel
theorem dX10_isIn_10 : decode cX10_isIn 10 = .ok (.goto 4, 3) := by decide +kernel
theorem dX10_isIn_13 : decode cX10_isIn 13 = .ok (.iconst 0, 1) := by decide +kernel
theorem dX10_isIn_14 : decode cX10_isIn 14 = .ok (.ireturn, 1) := by decide +kernel
theorem dX10_isBank_0 : decode cX10_isBank 0 = .ok (.iload_n 0, 1) := by decide +kernel
theorem dX10_isBank_1 : decode cX10_isBank 1 = .ok (.bipush 8, 2) := by decide +kernel
theorem dX10_isBank_3 : decode cX10_isBank 3 = .ok (.invokestatic 167, 3) := by decide +kernel
theorem dX10_isBank_6 : decode cX10_isBank 6 = .ok (.ireturn, 1) := by decide +kernel
theorem dX10_isAccount_0 : decode cX10_isAccount 0 = .ok (.iload_n 1, 1) := by decide +kernel
theorem dX10_isAccount_1 : decode cX10_isAccount 1 = .ok (.aload_n 0, 1) := by decide +kernel
theorem dX10_isAccount_2 : decode cX10_isAccount 2 = .ok (.getfield 171, 3) := by decide +kernel
theorem dX10_isAccount_5 : decode cX10_isAccount 5 = .ok (.invokestatic 167, 3) := by decide +kernel
theorem dX10_isAccount_8 : decode cX10_isAccount 8 = .ok (.ireturn, 1) := by decide +kernel
theorem dX10_within_0 : decode cX10_within 0 = .ok (.iload_n 0, 1) := by decide +kernel
theorem dX10_within_1 : decode cX10_within 1 = .ok (.iload_n 1, 1) := by decide +kernel
theorem dX10_within_2 : decode cX10_within 2 = .ok (.if_icmp .ge 8, 3) := by decide +kernel
theorem dX10_within_5 : decode cX10_within 5 = .ok (.bipush (-4), 2) := by decide +kernel
theorem dX10_within_7 : decode cX10_within 7 = .ok (.goto 14, 3) := by decide +kernel
theorem dX10_within_10 : decode cX10_within 10 = .ok (.iload_n 0, 1) := by decide +kernel
theorem dX10_within_11 : decode cX10_within 11 = .ok (.iload_n 2, 1) := by decide +kernel
theorem dX10_within_12 : decode cX10_within 12 = .ok (.if_icmp .le 8, 3) := by decide +kernel
theorem dX10_within_15 : decode cX10_within 15 = .ok (.bipush (-6), 2) := by decide +kernel
theorem dX10_within_17 : decode cX10_within 17 = .ok (.goto 4, 3) := by decide +kernel
theorem dX10_within_20 : decode cX10_within 20 = .ok (.iconst 0, 1) := by decide +kernel
theorem dX10_within_21 : decode cX10_within 21 = .ok (.ireturn, 1) := by decide +kernel
theorem dX10_works_0 : decode cX10_works 0 = .ok (.iconst 0, 1) := by decide +kernel
theorem dX10_works_1 : decode cX10_works 1 = .ok (.istore_n 2, 1) := by decide +kernel
theorem dX10_works_2 : decode cX10_works 2 = .ok (.iload_n 2, 1) := by decide +kernel
theorem dX10_works_3 : decode cX10_works 3 = .ok (.aload_n 0, 1) := by decide +kernel
theorem dX10_works_4 : decode cX10_works 4 = .ok (.getfield 174, 3) := by decide +kernel
theorem dX10_works_7 : decode cX10_works 7 = .ok (.if_icmp .ge 21, 3) := by decide +kernel
theorem dX10_works_10 : decode cX10_works 10 = .ok (.aload_n 0, 1) := by decide +kernel
theorem dX10_works_11 : decode cX10_works 11 = .ok (.getfield 13, 3) := by decide +kernel
theorem dX10_works_14 : decode cX10_works 14 = .ok (.iload_n 2, 1) := by decide +kernel
theorem dX10_works_15 : decode cX10_works 15 = .ok (.iaload, 1) := by decide +kernel
theorem dX10_works_16 : decode cX10_works 16 = .ok (.iload_n 1, 1) := by decide +kernel
theorem dX10_works_17 : decode cX10_works 17 = .ok (.if_icmp .ne 5, 3) := by decide +kernel
theorem dX10_works_20 : decode cX10_works 20 = .ok (.iconst 0, 1) := by decide +kernel
theorem dX10_works_21 : decode cX10_works 21 = .ok (.ireturn, 1) := by decide +kernel
theorem dX10_works_22 : decode cX10_works 22 = .ok (.iinc 2 1, 3) := by decide +kernel
theorem dX10_works_25 : decode cX10_works 25 = .ok (.goto (-23), 3) := by decide +kernel
theorem dX10_works_28 : decode cX10_works 28 = .ok (.iload_n 1, 1) := by decide +kernel
theorem dX10_works_29 : decode cX10_works 29 = .ok (.bipush 7, 2) := by decide +kernel
theorem dX10_works_31 : decode cX10_works 31 = .ok (.irem, 1) := by decide +kernel
theorem dX10_works_32 : decode cX10_works 32 = .ok (.iconst 5, 1) := by decide +kernel
theorem dX10_works_33 : decode cX10_works 33 = .ok (.if_icmp .ge 7, 3) := by decide +kernel
theorem dX10_works_36 : decode cX10_works 36 = .ok (.iconst 1, 1) := by decide +kernel
theorem dX10_works_37 : decode cX10_works 37 = .ok (.goto 4, 3) := by decide +kernel
theorem dX10_works_40 : decode cX10_works 40 = .ok (.iconst 0, 1) := by decide +kernel
theorem dX10_works_41 : decode cX10_works 41 = .ok (.ireturn, 1) := by decide +kernel
theorem dX10_days_0 : decode cX10_days 0 = .ok (.iload_n 1, 1) := by decide +kernel
theorem dX10_days_1 : decode cX10_days 1 = .ok (.iconst 1, 1) := by decide +kernel
theorem dX10_days_2 : decode cX10_days 2 = .ok (.if_icmp .ge 10, 3) := by decide +kernel
theorem dX10_days_5 : decode cX10_days 5 = .ok (.aload_n 0, 1) := by decide +kernel
theorem dX10_days_6 : decode cX10_days 6 = .ok (.bipush (-4), 2) := by decide +kernel
theorem dX10_days_8 : decode cX10_days 8 = .ok (.invokevirtual 163, 3) := by decide +kernel
theorem dX10_days_11 : decode cX10_days 11 = .ok (.ireturn, 1) := by decide +kernel
theorem dX10_days_12 : decode cX10_days 12 = .ok (.iload_n 1, 1) := by decide +kernel
theorem dX10_days_13 : decode cX10_days 13 = .ok (.sipush 1500, 3) := by decide +kernel
theorem dX10_days_16 : decode cX10_days 16 = .ok (.aload_n 0, 1) := by decide +kernel
theorem dX10_days_17 : decode cX10_days 17 = .ok (.getfield 177, 3) := by decide +kernel
theorem dX10_days_20 : decode cX10_days 20 = .ok (.isub, 1) := by decide +kernel
theorem dX10_days_21 : decode cX10_days 21 = .ok (.if_icmp .le 10, 3) := by decide +kernel
theorem dX10_days_24 : decode cX10_days 24 = .ok (.aload_n 0, 1) := by decide +kernel
theorem dX10_days_25 : decode cX10_days 25 = .ok (.bipush (-6), 2) := by decide +kernel
theorem dX10_days_27 : decode cX10_days 27 = .ok (.invokevirtual 163, 3) := by decide +kernel
theorem dX10_days_30 : decode cX10_days 30 = .ok (.ireturn, 1) := by decide +kernel
theorem dX10_days_31 : decode cX10_days 31 = .ok (.iconst 0, 1) := by decide +kernel
theorem dX10_days_32 : decode cX10_days 32 = .ok (.istore_n 2, 1) := by decide +kernel
theorem dX10_days_33 : decode cX10_days 33 = .ok (.iload_n 2, 1) := by decide +kernel
theorem dX10_days_34 : decode cX10_days 34 = .ok (.iload_n 1, 1) := by decide +kernel
theorem dX10_days_35 : decode cX10_days 35 = .ok (.if_icmp .ge 71, 3) := by decide +kernel
theorem dX10_days_38 : decode cX10_days 38 = .ok (.aload_n 0, 1) := by decide +kernel
theorem dX10_days_39 : decode cX10_days 39 = .ok (.aload_n 0, 1) := by decide +kernel
theorem dX10_days_40 : decode cX10_days 40 = .ok (.getfield 177, 3) := by decide +kernel
theorem dX10_days_43 : decode cX10_days 43 = .ok (.invokevirtual 180, 3) := by decide +kernel
theorem dX10_days_46 : decode cX10_days 46 = .ok (.ifCond .eq 7, 3) := by decide +kernel
theorem dX10_days_49 : decode cX10_days 49 = .ok (.aload_n 0, 1) := by decide +kernel
theorem dX10_days_50 : decode cX10_days 50 = .ok (.invokevirtual 184, 3) := by decide +kernel
theorem dX10_days_53 : decode cX10_days 53 = .ok (.iconst 0, 1) := by decide +kernel
theorem dX10_days_54 : decode cX10_days 54 = .ok (.istore_n 3, 1) := by decide +kernel
theorem dX10_days_55 : decode cX10_days 55 = .ok (.iload_n 3, 1) := by decide +kernel
theorem dX10_days_56 : decode cX10_days 56 = .ok (.aload_n 0, 1) := by decide +kernel
theorem dX10_days_57 : decode cX10_days 57 = .ok (.getfield 171, 3) := by decide +kernel
theorem dX10_days_60 : decode cX10_days 60 = .ok (.if_icmp .ge 30, 3) := by decide +kernel
theorem dX10_days_63 : decode cX10_days 63 = .ok (.aload_n 0, 1) := by decide +kernel
theorem dX10_days_64 : decode cX10_days 64 = .ok (.getfield 69, 3) := by decide +kernel
theorem dX10_days_67 : decode cX10_days 67 = .ok (.sipush 1501, 3) := by decide +kernel
theorem dX10_days_70 : decode cX10_days 70 = .ok (.iload_n 3, 1) := by decide +kernel
theorem dX10_days_71 : decode cX10_days 71 = .ok (.imul, 1) := by decide +kernel
theorem dX10_days_72 : decode cX10_days 72 = .ok (.aload_n 0, 1) := by decide +kernel
theorem dX10_days_73 : decode cX10_days 73 = .ok (.getfield 177, 3) := by decide +kernel
theorem dX10_days_76 : decode cX10_days 76 = .ok (.iadd, 1) := by decide +kernel
theorem dX10_days_77 : decode cX10_days 77 = .ok (.aload_n 0, 1) := by decide +kernel
theorem dX10_days_78 : decode cX10_days 78 = .ok (.getfield 65, 3) := by decide +kernel
theorem dX10_days_81 : decode cX10_days 81 = .ok (.iload_n 3, 1) := by decide +kernel
theorem dX10_days_82 : decode cX10_days 82 = .ok (.laload, 1) := by decide +kernel
theorem dX10_days_83 : decode cX10_days 83 = .ok (.lastore, 1) := by decide +kernel
theorem dX10_days_84 : decode cX10_days 84 = .ok (.iinc 3 1, 3) := by decide +kernel
theorem dX10_days_87 : decode cX10_days 87 = .ok (.goto (-32), 3) := by decide +kernel
theorem dX10_days_90 : decode cX10_days 90 = .ok (.aload_n 0, 1) := by decide +kernel
theorem dX10_days_91 : decode cX10_days 91 = .ok (.dup, 1) := by decide +kernel
theorem dX10_days_92 : decode cX10_days 92 = .ok (.getfield 177, 3) := by decide +kernel
theorem dX10_days_95 : decode cX10_days 95 = .ok (.iconst 1, 1) := by decide +kernel
theorem dX10_days_96 : decode cX10_days 96 = .ok (.iadd, 1) := by decide +kernel
theorem dX10_days_97 : decode cX10_days 97 = .ok (.putfield 177, 3) := by decide +kernel
theorem dX10_days_100 : decode cX10_days 100 = .ok (.iinc 2 1, 3) := by decide +kernel
theorem dX10_days_103 : decode cX10_days 103 = .ok (.goto (-70), 3) := by decide +kernel
theorem dX10_days_106 : decode cX10_days 106 = .ok (.aload_n 0, 1) := by decide +kernel
theorem dX10_days_107 : decode cX10_days 107 = .ok (.getfield 177, 3) := by decide +kernel
theorem dX10_days_110 : decode cX10_days 110 = .ok (.ireturn, 1) := by decide +kernel
theorem dX10_holiday_0 : decode cX10_holiday 0 = .ok (.iload_n 1, 1) := by decide +kernel
theorem dX10_holiday_1 : decode cX10_holiday 1 = .ok (.aload_n 0, 1) := by decide +kernel
theorem dX10_holiday_2 : decode cX10_holiday 2 = .ok (.getfield 177, 3) := by decide +kernel
theorem dX10_holiday_5 : decode cX10_holiday 5 = .ok (.sipush 1500, 3) := by decide +kernel
theorem dX10_holiday_8 : decode cX10_holiday 8 = .ok (.invokestatic 187, 3) := by decide +kernel
theorem dX10_holiday_11 : decode cX10_holiday 11 = .ok (.istore_n 2, 1) := by decide +kernel
theorem dX10_holiday_12 : decode cX10_holiday 12 = .ok (.iload_n 2, 1) := by decide +kernel
theorem dX10_holiday_13 : decode cX10_holiday 13 = .ok (.ifCond .ne 15, 3) := by decide +kernel
theorem dX10_holiday_16 : decode cX10_holiday 16 = .ok (.aload_n 0, 1) := by decide +kernel
theorem dX10_holiday_17 : decode cX10_holiday 17 = .ok (.getfield 174, 3) := by decide +kernel
theorem dX10_holiday_20 : decode cX10_holiday 20 = .ok (.bipush 20, 2) := by decide +kernel
theorem dX10_holiday_22 : decode cX10_holiday 22 = .ok (.if_icmp .ne 6, 3) := by decide +kernel
theorem dX10_holiday_25 : decode cX10_holiday 25 = .ok (.bipush (-6), 2) := by decide +kernel
theorem dX10_holiday_27 : decode cX10_holiday 27 = .ok (.istore_n 2, 1) := by decide +kernel
theorem dX10_holiday_28 : decode cX10_holiday 28 = .ok (.iconst 0, 1) := by decide +kernel
theorem dX10_holiday_29 : decode cX10_holiday 29 = .ok (.istore_n 3, 1) := by decide +kernel
theorem dX10_holiday_30 : decode cX10_holiday 30 = .ok (.iload_n 3, 1) := by decide +kernel
theorem dX10_holiday_31 : decode cX10_holiday 31 = .ok (.aload_n 0, 1) := by decide +kernel
theorem dX10_holiday_32 : decode cX10_holiday 32 = .ok (.getfield 174, 3) := by decide +kernel
theorem dX10_holiday_35 : decode cX10_holiday 35 = .ok (.if_icmp .ge 30, 3) := by decide +kernel
theorem dX10_holiday_38 : decode cX10_holiday 38 = .ok (.iload_n 2, 1) := by decide +kernel
theorem dX10_holiday_39 : decode cX10_holiday 39 = .ok (.ifCond .ne 26, 3) := by decide +kernel
theorem dX10_holiday_42 : decode cX10_holiday 42 = .ok (.aload_n 0, 1) := by decide +kernel
theorem dX10_holiday_43 : decode cX10_holiday 43 = .ok (.getfield 13, 3) := by decide +kernel
theorem dX10_holiday_46 : decode cX10_holiday 46 = .ok (.iload_n 3, 1) := by decide +kernel
theorem dX10_holiday_47 : decode cX10_holiday 47 = .ok (.iaload, 1) := by decide +kernel
theorem dX10_holiday_48 : decode cX10_holiday 48 = .ok (.iload_n 1, 1) := by decide +kernel
theorem dX10_holiday_49 : decode cX10_holiday 49 = .ok (.if_icmp .ne 8, 3) := by decide +kernel
theorem dX10_holiday_52 : decode cX10_holiday 52 = .ok (.bipush (-3), 2) := by decide +kernel
theorem dX10_holiday_54 : decode cX10_holiday 54 = .ok (.goto 4, 3) := by decide +kernel
theorem dX10_holiday_57 : decode cX10_holiday 57 = .ok (.iconst 0, 1) := by decide +kernel
theorem dX10_holiday_58 : decode cX10_holiday 58 = .ok (.istore_n 2, 1) := by decide +kernel
theorem dX10_holiday_59 : decode cX10_holiday 59 = .ok (.iinc 3 1, 3) := by decide +kernel
theorem dX10_holiday_62 : decode cX10_holiday 62 = .ok (.goto (-32), 3) := by decide +kernel
theorem dX10_holiday_65 : decode cX10_holiday 65 = .ok (.iload_n 2, 1) := by decide +kernel
theorem dX10_holiday_66 : decode cX10_holiday 66 = .ok (.ifCond .eq 9, 3) := by decide +kernel
theorem dX10_holiday_69 : decode cX10_holiday 69 = .ok (.aload_n 0, 1) := by decide +kernel
theorem dX10_holiday_70 : decode cX10_holiday 70 = .ok (.iload_n 2, 1) := by decide +kernel
theorem dX10_holiday_71 : decode cX10_holiday 71 = .ok (.invokevirtual 163, 3) := by decide +kernel
theorem dX10_holiday_74 : decode cX10_holiday 74 = .ok (.ireturn, 1) := by decide +kernel
theorem dX10_holiday_75 : decode cX10_holiday 75 = .ok (.aload_n 0, 1) := by decide +kernel
theorem dX10_holiday_76 : decode cX10_holiday 76 = .ok (.getfield 13, 3) := by decide +kernel
theorem dX10_holiday_79 : decode cX10_holiday 79 = .ok (.aload_n 0, 1) := by decide +kernel
theorem dX10_holiday_80 : decode cX10_holiday 80 = .ok (.getfield 174, 3) := by decide +kernel
theorem dX10_holiday_83 : decode cX10_holiday 83 = .ok (.iload_n 1, 1) := by decide +kernel
theorem dX10_holiday_84 : decode cX10_holiday 84 = .ok (.iastore, 1) := by decide +kernel
theorem dX10_holiday_85 : decode cX10_holiday 85 = .ok (.aload_n 0, 1) := by decide +kernel
theorem dX10_holiday_86 : decode cX10_holiday 86 = .ok (.dup, 1) := by decide +kernel
theorem dX10_holiday_87 : decode cX10_holiday 87 = .ok (.getfield 174, 3) := by decide +kernel
theorem dX10_holiday_90 : decode cX10_holiday 90 = .ok (.iconst 1, 1) := by decide +kernel
theorem dX10_holiday_91 : decode cX10_holiday 91 = .ok (.iadd, 1) := by decide +kernel
theorem dX10_holiday_92 : decode cX10_holiday 92 = .ok (.putfield 174, 3) := by decide +kernel
theorem dX10_holiday_95 : decode cX10_holiday 95 = .ok (.aload_n 0, 1) := by decide +kernel
theorem dX10_holiday_96 : decode cX10_holiday 96 = .ok (.getfield 174, 3) := by decide +kernel
theorem dX10_holiday_99 : decode cX10_holiday 99 = .ok (.ireturn, 1) := by decide +kernel
theorem dX10_isWorking_0 : decode cX10_isWorking 0 = .ok (.iload_n 1, 1) := by decide +kernel
theorem dX10_isWorking_1 : decode cX10_isWorking 1 = .ok (.iconst 0, 1) := by decide +kernel
theorem dX10_isWorking_2 : decode cX10_isWorking 2 = .ok (.sipush 1500, 3) := by decide +kernel
theorem dX10_isWorking_5 : decode cX10_isWorking 5 = .ok (.invokestatic 187, 3) := by decide +kernel
theorem dX10_isWorking_8 : decode cX10_isWorking 8 = .ok (.istore_n 2, 1) := by decide +kernel
theorem dX10_isWorking_9 : decode cX10_isWorking 9 = .ok (.iload_n 2, 1) := by decide +kernel
theorem dX10_isWorking_10 : decode cX10_isWorking 10 = .ok (.ifCond .eq 11, 3) := by decide +kernel
theorem dX10_isWorking_13 : decode cX10_isWorking 13 = .ok (.aload_n 0, 1) := by decide +kernel
theorem dX10_isWorking_14 : decode cX10_isWorking 14 = .ok (.iload_n 2, 1) := by decide +kernel
theorem dX10_isWorking_15 : decode cX10_isWorking 15 = .ok (.invokevirtual 163, 3) := by decide +kernel
theorem dX10_isWorking_18 : decode cX10_isWorking 18 = .ok (.goto 16, 3) := by decide +kernel
theorem dX10_isWorking_21 : decode cX10_isWorking 21 = .ok (.aload_n 0, 1) := by decide +kernel
theorem dX10_isWorking_22 : decode cX10_isWorking 22 = .ok (.iload_n 1, 1) := by decide +kernel
theorem dX10_isWorking_23 : decode cX10_isWorking 23 = .ok (.invokevirtual 180, 3) := by decide +kernel
theorem dX10_isWorking_26 : decode cX10_isWorking 26 = .ok (.ifCond .eq 7, 3) := by decide +kernel
theorem dX10_isWorking_29 : decode cX10_isWorking 29 = .ok (.iconst 1, 1) := by decide +kernel
theorem dX10_isWorking_30 : decode cX10_isWorking 30 = .ok (.goto 4, 3) := by decide +kernel
theorem dX10_isWorking_33 : decode cX10_isWorking 33 = .ok (.iconst 0, 1) := by decide +kernel
theorem dX10_isWorking_34 : decode cX10_isWorking 34 = .ok (.ireturn, 1) := by decide +kernel
theorem dX10_bank_0 : decode cX10_bank 0 = .ok (.iload_n 1, 1) := by decide +kernel
theorem dX10_bank_1 : decode cX10_bank 1 = .ok (.invokestatic 191, 3) := by decide +kernel
theorem dX10_bank_4 : decode cX10_bank 4 = .ok (.ifCond .ne 9, 3) := by decide +kernel
theorem dX10_bank_7 : decode cX10_bank 7 = .ok (.aload_n 0, 1) := by decide +kernel
theorem dX10_bank_8 : decode cX10_bank 8 = .ok (.iconst (-1), 1) := by decide +kernel
theorem dX10_bank_9 : decode cX10_bank 9 = .ok (.invokevirtual 163, 3) := by decide +kernel
theorem dX10_bank_12 : decode cX10_bank 12 = .ok (.ireturn, 1) := by decide +kernel
theorem dX10_bank_13 : decode cX10_bank 13 = .ok (.iload_n 2, 1) := by decide +kernel
theorem dX10_bank_14 : decode cX10_bank 14 = .ok (.iconst 2, 1) := by decide +kernel
theorem dX10_bank_15 : decode cX10_bank 15 = .ok (.invokestatic 167, 3) := by decide +kernel
theorem dX10_bank_18 : decode cX10_bank 18 = .ok (.ifCond .ne 10, 3) := by decide +kernel
theorem dX10_bank_21 : decode cX10_bank 21 = .ok (.aload_n 0, 1) := by decide +kernel
theorem dX10_bank_22 : decode cX10_bank 22 = .ok (.bipush (-2), 2) := by decide +kernel
theorem dX10_bank_24 : decode cX10_bank 24 = .ok (.invokevirtual 163, 3) := by decide +kernel
theorem dX10_bank_27 : decode cX10_bank 27 = .ok (.ireturn, 1) := by decide +kernel
theorem dX10_bank_28 : decode cX10_bank 28 = .ok (.iload_n 3, 1) := by decide +kernel
theorem dX10_bank_29 : decode cX10_bank 29 = .ok (.iconst 0, 1) := by decide +kernel
theorem dX10_bank_30 : decode cX10_bank 30 = .ok (.iload_n 2, 1) := by decide +kernel
theorem dX10_bank_31 : decode cX10_bank 31 = .ok (.ifCond .ne 9, 3) := by decide +kernel
theorem dX10_bank_34 : decode cX10_bank 34 = .ok (.sipush 999, 3) := by decide +kernel
theorem dX10_bank_37 : decode cX10_bank 37 = .ok (.goto 5, 3) := by decide +kernel
theorem dX10_bank_40 : decode cX10_bank 40 = .ok (.bipush 99, 2) := by decide +kernel
theorem dX10_bank_42 : decode cX10_bank 42 = .ok (.invokestatic 187, 3) := by decide +kernel
theorem dX10_bank_45 : decode cX10_bank 45 = .ok (.istore 4, 2) := by decide +kernel
theorem dX10_bank_47 : decode cX10_bank 47 = .ok (.iload 4, 2) := by decide +kernel
theorem dX10_bank_49 : decode cX10_bank 49 = .ok (.ifCond .eq 10, 3) := by decide +kernel
theorem dX10_bank_52 : decode cX10_bank 52 = .ok (.aload_n 0, 1) := by decide +kernel
theorem dX10_bank_53 : decode cX10_bank 53 = .ok (.iload 4, 2) := by decide +kernel
theorem dX10_bank_55 : decode cX10_bank 55 = .ok (.invokevirtual 163, 3) := by decide +kernel
theorem dX10_bank_58 : decode cX10_bank 58 = .ok (.ireturn, 1) := by decide +kernel
theorem dX10_bank_59 : decode cX10_bank 59 = .ok (.iload_n 2, 1) := by decide +kernel
theorem dX10_bank_60 : decode cX10_bank 60 = .ok (.ifCond .ne 12, 3) := by decide +kernel
theorem dX10_bank_63 : decode cX10_bank 63 = .ok (.aload_n 0, 1) := by decide +kernel
theorem dX10_bank_64 : decode cX10_bank 64 = .ok (.getfield 22, 3) := by decide +kernel
theorem dX10_bank_67 : decode cX10_bank 67 = .ok (.iload_n 1, 1) := by decide +kernel
theorem dX10_bank_68 : decode cX10_bank 68 = .ok (.iaload, 1) := by decide +kernel
theorem dX10_bank_69 : decode cX10_bank 69 = .ok (.goto 9, 3) := by decide +kernel
theorem dX10_bank_72 : decode cX10_bank 72 = .ok (.aload_n 0, 1) := by decide +kernel
theorem dX10_bank_73 : decode cX10_bank 73 = .ok (.getfield 25, 3) := by decide +kernel
theorem dX10_bank_76 : decode cX10_bank 76 = .ok (.iload_n 1, 1) := by decide +kernel
theorem dX10_bank_77 : decode cX10_bank 77 = .ok (.iaload, 1) := by decide +kernel
theorem dX10_bank_78 : decode cX10_bank 78 = .ok (.istore 5, 2) := by decide +kernel
theorem dX10_bank_80 : decode cX10_bank 80 = .ok (.iload_n 2, 1) := by decide +kernel
theorem dX10_bank_81 : decode cX10_bank 81 = .ok (.ifCond .ne 13, 3) := by decide +kernel
theorem dX10_bank_84 : decode cX10_bank 84 = .ok (.aload_n 0, 1) := by decide +kernel
theorem dX10_bank_85 : decode cX10_bank 85 = .ok (.getfield 22, 3) := by decide +kernel
theorem dX10_bank_88 : decode cX10_bank 88 = .ok (.iload_n 1, 1) := by decide +kernel
theorem dX10_bank_89 : decode cX10_bank 89 = .ok (.iload_n 3, 1) := by decide +kernel
theorem dX10_bank_90 : decode cX10_bank 90 = .ok (.iastore, 1) := by decide +kernel
theorem dX10_bank_91 : decode cX10_bank 91 = .ok (.goto 10, 3) := by decide +kernel
theorem dX10_bank_94 : decode cX10_bank 94 = .ok (.aload_n 0, 1) := by decide +kernel
theorem dX10_bank_95 : decode cX10_bank 95 = .ok (.getfield 25, 3) := by decide +kernel
theorem dX10_bank_98 : decode cX10_bank 98 = .ok (.iload_n 1, 1) := by decide +kernel
theorem dX10_bank_99 : decode cX10_bank 99 = .ok (.iload_n 3, 1) := by decide +kernel
theorem dX10_bank_100 : decode cX10_bank 100 = .ok (.iastore, 1) := by decide +kernel
theorem dX10_bank_101 : decode cX10_bank 101 = .ok (.iload 5, 2) := by decide +kernel
theorem dX10_bank_103 : decode cX10_bank 103 = .ok (.ireturn, 1) := by decide +kernel
theorem dX10_isLate_0 : decode cX10_isLate 0 = .ok (.iconst 0, 1) := by decide +kernel
theorem dX10_isLate_1 : decode cX10_isLate 1 = .ok (.istore_n 3, 1) := by decide +kernel
theorem dX10_isLate_2 : decode cX10_isLate 2 = .ok (.iload_n 3, 1) := by decide +kernel
theorem dX10_isLate_3 : decode cX10_isLate 3 = .ok (.aload_n 0, 1) := by decide +kernel
theorem dX10_isLate_4 : decode cX10_isLate 4 = .ok (.getfield 194, 3) := by decide +kernel
theorem dX10_isLate_7 : decode cX10_isLate 7 = .ok (.if_icmp .ge 31, 3) := by decide +kernel
theorem dX10_isLate_10 : decode cX10_isLate 10 = .ok (.aload_n 0, 1) := by decide +kernel
theorem dX10_isLate_11 : decode cX10_isLate 11 = .ok (.getfield 16, 3) := by decide +kernel
theorem dX10_isLate_14 : decode cX10_isLate 14 = .ok (.iload_n 3, 1) := by decide +kernel
theorem dX10_isLate_15 : decode cX10_isLate 15 = .ok (.iaload, 1) := by decide +kernel
theorem dX10_isLate_16 : decode cX10_isLate 16 = .ok (.iload_n 1, 1) := by decide +kernel
theorem dX10_isLate_17 : decode cX10_isLate 17 = .ok (.if_icmp .ne 15, 3) := by decide +kernel
theorem dX10_isLate_20 : decode cX10_isLate 20 = .ok (.aload_n 0, 1) := by decide +kernel
theorem dX10_isLate_21 : decode cX10_isLate 21 = .ok (.getfield 19, 3) := by decide +kernel
theorem dX10_isLate_24 : decode cX10_isLate 24 = .ok (.iload_n 3, 1) := by decide +kernel
theorem dX10_isLate_25 : decode cX10_isLate 25 = .ok (.iaload, 1) := by decide +kernel
theorem dX10_isLate_26 : decode cX10_isLate 26 = .ok (.iload_n 2, 1) := by decide +kernel
theorem dX10_isLate_27 : decode cX10_isLate 27 = .ok (.if_icmp .ne 5, 3) := by decide +kernel
theorem dX10_isLate_30 : decode cX10_isLate 30 = .ok (.iconst 1, 1) := by decide +kernel
theorem dX10_isLate_31 : decode cX10_isLate 31 = .ok (.ireturn, 1) := by decide +kernel
theorem dX10_isLate_32 : decode cX10_isLate 32 = .ok (.iinc 3 1, 3) := by decide +kernel
theorem dX10_isLate_35 : decode cX10_isLate 35 = .ok (.goto (-33), 3) := by decide +kernel
theorem dX10_isLate_38 : decode cX10_isLate 38 = .ok (.iconst 0, 1) := by decide +kernel
theorem dX10_isLate_39 : decode cX10_isLate 39 = .ok (.ireturn, 1) := by decide +kernel
theorem dX10_late_0 : decode cX10_late 0 = .ok (.iload_n 1, 1) := by decide +kernel
theorem dX10_late_1 : decode cX10_late 1 = .ok (.invokestatic 191, 3) := by decide +kernel
theorem dX10_late_4 : decode cX10_late 4 = .ok (.ifCond .ne 9, 3) := by decide +kernel
theorem dX10_late_7 : decode cX10_late 7 = .ok (.aload_n 0, 1) := by decide +kernel
theorem dX10_late_8 : decode cX10_late 8 = .ok (.iconst (-1), 1) := by decide +kernel
theorem dX10_late_9 : decode cX10_late 9 = .ok (.invokevirtual 163, 3) := by decide +kernel
theorem dX10_late_12 : decode cX10_late 12 = .ok (.ireturn, 1) := by decide +kernel
theorem dX10_late_13 : decode cX10_late 13 = .ok (.aload_n 0, 1) := by decide +kernel
theorem dX10_late_14 : decode cX10_late 14 = .ok (.iload_n 1, 1) := by decide +kernel
theorem dX10_late_15 : decode cX10_late 15 = .ok (.iload_n 2, 1) := by decide +kernel
theorem dX10_late_16 : decode cX10_late 16 = .ok (.invokevirtual 197, 3) := by decide +kernel
theorem dX10_late_19 : decode cX10_late 19 = .ok (.ifCond .eq 10, 3) := by decide +kernel
theorem dX10_late_22 : decode cX10_late 22 = .ok (.aload_n 0, 1) := by decide +kernel
theorem dX10_late_23 : decode cX10_late 23 = .ok (.bipush (-3), 2) := by decide +kernel
theorem dX10_late_25 : decode cX10_late 25 = .ok (.invokevirtual 163, 3) := by decide +kernel
theorem dX10_late_28 : decode cX10_late 28 = .ok (.ireturn, 1) := by decide +kernel
theorem dX10_late_29 : decode cX10_late 29 = .ok (.iload_n 2, 1) := by decide +kernel
theorem dX10_late_30 : decode cX10_late 30 = .ok (.aload_n 0, 1) := by decide +kernel
theorem dX10_late_31 : decode cX10_late 31 = .ok (.getfield 177, 3) := by decide +kernel
theorem dX10_late_34 : decode cX10_late 34 = .ok (.sipush 1500, 3) := by decide +kernel
theorem dX10_late_37 : decode cX10_late 37 = .ok (.invokestatic 187, 3) := by decide +kernel
theorem dX10_late_40 : decode cX10_late 40 = .ok (.istore_n 3, 1) := by decide +kernel
theorem dX10_late_41 : decode cX10_late 41 = .ok (.iload_n 3, 1) := by decide +kernel
theorem dX10_late_42 : decode cX10_late 42 = .ok (.ifCond .ne 15, 3) := by decide +kernel
theorem dX10_late_45 : decode cX10_late 45 = .ok (.aload_n 0, 1) := by decide +kernel
theorem dX10_late_46 : decode cX10_late 46 = .ok (.getfield 194, 3) := by decide +kernel
theorem dX10_late_49 : decode cX10_late 49 = .ok (.bipush 60, 2) := by decide +kernel
theorem dX10_late_51 : decode cX10_late 51 = .ok (.if_icmp .ne 6, 3) := by decide +kernel
theorem dX10_late_54 : decode cX10_late 54 = .ok (.bipush (-6), 2) := by decide +kernel
theorem dX10_late_56 : decode cX10_late 56 = .ok (.istore_n 3, 1) := by decide +kernel
theorem dX10_late_57 : decode cX10_late 57 = .ok (.iload_n 3, 1) := by decide +kernel
theorem dX10_late_58 : decode cX10_late 58 = .ok (.ifCond .eq 9, 3) := by decide +kernel
theorem dX10_late_61 : decode cX10_late 61 = .ok (.aload_n 0, 1) := by decide +kernel
theorem dX10_late_62 : decode cX10_late 62 = .ok (.iload_n 3, 1) := by decide +kernel
theorem dX10_late_63 : decode cX10_late 63 = .ok (.invokevirtual 163, 3) := by decide +kernel
theorem dX10_late_66 : decode cX10_late 66 = .ok (.ireturn, 1) := by decide +kernel
theorem dX10_late_67 : decode cX10_late 67 = .ok (.aload_n 0, 1) := by decide +kernel
theorem dX10_late_68 : decode cX10_late 68 = .ok (.getfield 16, 3) := by decide +kernel
theorem dX10_late_71 : decode cX10_late 71 = .ok (.aload_n 0, 1) := by decide +kernel
theorem dX10_late_72 : decode cX10_late 72 = .ok (.getfield 194, 3) := by decide +kernel
theorem dX10_late_75 : decode cX10_late 75 = .ok (.iload_n 1, 1) := by decide +kernel
theorem dX10_late_76 : decode cX10_late 76 = .ok (.iastore, 1) := by decide +kernel
theorem dX10_late_77 : decode cX10_late 77 = .ok (.aload_n 0, 1) := by decide +kernel
theorem dX10_late_78 : decode cX10_late 78 = .ok (.getfield 19, 3) := by decide +kernel
theorem dX10_late_81 : decode cX10_late 81 = .ok (.aload_n 0, 1) := by decide +kernel
theorem dX10_late_82 : decode cX10_late 82 = .ok (.getfield 194, 3) := by decide +kernel
theorem dX10_late_85 : decode cX10_late 85 = .ok (.iload_n 2, 1) := by decide +kernel
theorem dX10_late_86 : decode cX10_late 86 = .ok (.iastore, 1) := by decide +kernel
theorem dX10_late_87 : decode cX10_late 87 = .ok (.aload_n 0, 1) := by decide +kernel
theorem dX10_late_88 : decode cX10_late 88 = .ok (.dup, 1) := by decide +kernel
theorem dX10_late_89 : decode cX10_late 89 = .ok (.getfield 194, 3) := by decide +kernel
theorem dX10_late_92 : decode cX10_late 92 = .ok (.iconst 1, 1) := by decide +kernel
theorem dX10_late_93 : decode cX10_late 93 = .ok (.iadd, 1) := by decide +kernel
theorem dX10_late_94 : decode cX10_late 94 = .ok (.putfield 194, 3) := by decide +kernel
theorem dX10_late_97 : decode cX10_late 97 = .ok (.aload_n 0, 1) := by decide +kernel
theorem dX10_late_98 : decode cX10_late 98 = .ok (.getfield 194, 3) := by decide +kernel
theorem dX10_late_101 : decode cX10_late 101 = .ok (.ireturn, 1) := by decide +kernel
theorem dX10_opens_0 : decode cX10_opens 0 = .ok (.aload_n 0, 1) := by decide +kernel
theorem dX10_opens_1 : decode cX10_opens 1 = .ok (.getfield 171, 3) := by decide +kernel
theorem dX10_opens_4 : decode cX10_opens 4 = .ok (.istore 4, 2) := by decide +kernel
theorem dX10_opens_6 : decode cX10_opens 6 = .ok (.aload_n 0, 1) := by decide +kernel
theorem dX10_opens_7 : decode cX10_opens 7 = .ok (.getfield 41, 3) := by decide +kernel
theorem dX10_opens_10 : decode cX10_opens 10 = .ok (.iload 4, 2) := by decide +kernel
theorem dX10_opens_12 : decode cX10_opens 12 = .ok (.iload_n 1, 1) := by decide +kernel
theorem dX10_opens_13 : decode cX10_opens 13 = .ok (.iastore, 1) := by decide +kernel
theorem dX10_opens_14 : decode cX10_opens 14 = .ok (.aload_n 0, 1) := by decide +kernel
theorem dX10_opens_15 : decode cX10_opens 15 = .ok (.getfield 44, 3) := by decide +kernel
theorem dX10_opens_18 : decode cX10_opens 18 = .ok (.iload 4, 2) := by decide +kernel
theorem dX10_opens_20 : decode cX10_opens 20 = .ok (.iload_n 2, 1) := by decide +kernel
theorem dX10_opens_21 : decode cX10_opens 21 = .ok (.iastore, 1) := by decide +kernel
theorem dX10_opens_22 : decode cX10_opens 22 = .ok (.aload_n 0, 1) := by decide +kernel
theorem dX10_opens_23 : decode cX10_opens 23 = .ok (.getfield 47, 3) := by decide +kernel
theorem dX10_opens_26 : decode cX10_opens 26 = .ok (.iload 4, 2) := by decide +kernel
theorem dX10_opens_28 : decode cX10_opens 28 = .ok (.iload_n 3, 1) := by decide +kernel
theorem dX10_opens_29 : decode cX10_opens 29 = .ok (.iastore, 1) := by decide +kernel
theorem dX10_opens_30 : decode cX10_opens 30 = .ok (.aload_n 0, 1) := by decide +kernel
theorem dX10_opens_31 : decode cX10_opens 31 = .ok (.getfield 56, 3) := by decide +kernel
theorem dX10_opens_34 : decode cX10_opens 34 = .ok (.iload 4, 2) := by decide +kernel
theorem dX10_opens_36 : decode cX10_opens 36 = .ok (.bipush (-9), 2) := by decide +kernel
theorem dX10_opens_38 : decode cX10_opens 38 = .ok (.iastore, 1) := by decide +kernel
theorem dX10_opens_39 : decode cX10_opens 39 = .ok (.aload_n 0, 1) := by decide +kernel
theorem dX10_opens_40 : decode cX10_opens 40 = .ok (.getfield 59, 3) := by decide +kernel
theorem dX10_opens_43 : decode cX10_opens 43 = .ok (.iload 4, 2) := by decide +kernel
theorem dX10_opens_45 : decode cX10_opens 45 = .ok (.bipush (-9), 2) := by decide +kernel
theorem dX10_opens_47 : decode cX10_opens 47 = .ok (.iastore, 1) := by decide +kernel
theorem dX10_opens_48 : decode cX10_opens 48 = .ok (.aload_n 0, 1) := by decide +kernel
theorem dX10_opens_49 : decode cX10_opens 49 = .ok (.dup, 1) := by decide +kernel
theorem dX10_opens_50 : decode cX10_opens 50 = .ok (.getfield 171, 3) := by decide +kernel
theorem dX10_opens_53 : decode cX10_opens 53 = .ok (.iconst 1, 1) := by decide +kernel
theorem dX10_opens_54 : decode cX10_opens 54 = .ok (.iadd, 1) := by decide +kernel
theorem dX10_opens_55 : decode cX10_opens 55 = .ok (.putfield 171, 3) := by decide +kernel
theorem dX10_opens_58 : decode cX10_opens 58 = .ok (.iload 4, 2) := by decide +kernel
theorem dX10_opens_60 : decode cX10_opens 60 = .ok (.ireturn, 1) := by decide +kernel
theorem dX10_account_0 : decode cX10_account 0 = .ok (.iload_n 1, 1) := by decide +kernel
theorem dX10_account_1 : decode cX10_account 1 = .ok (.invokestatic 191, 3) := by decide +kernel
theorem dX10_account_4 : decode cX10_account 4 = .ok (.ifCond .ne 9, 3) := by decide +kernel
theorem dX10_account_7 : decode cX10_account 7 = .ok (.aload_n 0, 1) := by decide +kernel
theorem dX10_account_8 : decode cX10_account 8 = .ok (.iconst (-1), 1) := by decide +kernel
theorem dX10_account_9 : decode cX10_account 9 = .ok (.invokevirtual 163, 3) := by decide +kernel
theorem dX10_account_12 : decode cX10_account 12 = .ok (.ireturn, 1) := by decide +kernel
theorem dX10_account_13 : decode cX10_account 13 = .ok (.iload_n 2, 1) := by decide +kernel
theorem dX10_account_14 : decode cX10_account 14 = .ok (.ifCond .lt 8, 3) := by decide +kernel
theorem dX10_account_17 : decode cX10_account 17 = .ok (.iload_n 3, 1) := by decide +kernel
theorem dX10_account_18 : decode cX10_account 18 = .ok (.iconst (-1), 1) := by decide +kernel
theorem dX10_account_19 : decode cX10_account 19 = .ok (.if_icmp .ge 10, 3) := by decide +kernel
theorem dX10_account_22 : decode cX10_account 22 = .ok (.aload_n 0, 1) := by decide +kernel
theorem dX10_account_23 : decode cX10_account 23 = .ok (.bipush (-4), 2) := by decide +kernel
theorem dX10_account_25 : decode cX10_account 25 = .ok (.invokevirtual 163, 3) := by decide +kernel
theorem dX10_account_28 : decode cX10_account 28 = .ok (.ireturn, 1) := by decide +kernel
theorem dX10_account_29 : decode cX10_account 29 = .ok (.iload_n 2, 1) := by decide +kernel
theorem dX10_account_30 : decode cX10_account 30 = .ok (.sipush 9999, 3) := by decide +kernel
theorem dX10_account_33 : decode cX10_account 33 = .ok (.if_icmp .gt 19, 3) := by decide +kernel
theorem dX10_account_36 : decode cX10_account 36 = .ok (.iload_n 3, 1) := by decide +kernel
theorem dX10_account_37 : decode cX10_account 37 = .ok (.sipush 9999, 3) := by decide +kernel
theorem dX10_account_40 : decode cX10_account 40 = .ok (.if_icmp .gt 12, 3) := by decide +kernel
theorem dX10_account_43 : decode cX10_account 43 = .ok (.aload_n 0, 1) := by decide +kernel
theorem dX10_account_44 : decode cX10_account 44 = .ok (.getfield 171, 3) := by decide +kernel
theorem dX10_account_47 : decode cX10_account 47 = .ok (.bipush 40, 2) := by decide +kernel
theorem dX10_account_49 : decode cX10_account 49 = .ok (.if_icmp .ne 10, 3) := by decide +kernel
theorem dX10_account_52 : decode cX10_account 52 = .ok (.aload_n 0, 1) := by decide +kernel
theorem dX10_account_53 : decode cX10_account 53 = .ok (.bipush (-6), 2) := by decide +kernel
theorem dX10_account_55 : decode cX10_account 55 = .ok (.invokevirtual 163, 3) := by decide +kernel
theorem dX10_account_58 : decode cX10_account 58 = .ok (.ireturn, 1) := by decide +kernel
theorem dX10_account_59 : decode cX10_account 59 = .ok (.aload_n 0, 1) := by decide +kernel
theorem dX10_account_60 : decode cX10_account 60 = .ok (.iload_n 1, 1) := by decide +kernel
theorem dX10_account_61 : decode cX10_account 61 = .ok (.iload_n 2, 1) := by decide +kernel
theorem dX10_account_62 : decode cX10_account 62 = .ok (.iload_n 3, 1) := by decide +kernel
theorem dX10_account_63 : decode cX10_account 63 = .ok (.invokevirtual 200, 3) := by decide +kernel
theorem dX10_account_66 : decode cX10_account 66 = .ok (.ireturn, 1) := by decide +kernel
theorem dX10_put_0 : decode cX10_put 0 = .ok (.aload_n 0, 1) := by decide +kernel
theorem dX10_put_1 : decode cX10_put 1 = .ok (.iload_n 1, 1) := by decide +kernel
theorem dX10_put_2 : decode cX10_put 2 = .ok (.invokevirtual 203, 3) := by decide +kernel
theorem dX10_put_5 : decode cX10_put 5 = .ok (.ifCond .ne 7, 3) := by decide +kernel
theorem dX10_put_8 : decode cX10_put 8 = .ok (.iconst (-1), 1) := by decide +kernel
theorem dX10_put_9 : decode cX10_put 9 = .ok (.goto 24, 3) := by decide +kernel
theorem dX10_put_12 : decode cX10_put 12 = .ok (.aload_n 0, 1) := by decide +kernel
theorem dX10_put_13 : decode cX10_put 13 = .ok (.getfield 53, 3) := by decide +kernel
theorem dX10_put_16 : decode cX10_put 16 = .ok (.iload_n 1, 1) := by decide +kernel
theorem dX10_put_17 : decode cX10_put 17 = .ok (.iaload, 1) := by decide +kernel
theorem dX10_put_18 : decode cX10_put 18 = .ok (.ifCond .eq 8, 3) := by decide +kernel
theorem dX10_put_21 : decode cX10_put 21 = .ok (.bipush (-3), 2) := by decide +kernel
theorem dX10_put_23 : decode cX10_put 23 = .ok (.goto 10, 3) := by decide +kernel
theorem dX10_put_26 : decode cX10_put 26 = .ok (.iload_n 2, 1) := by decide +kernel
theorem dX10_put_27 : decode cX10_put 27 = .ok (.iconst 1, 1) := by decide +kernel
theorem dX10_put_28 : decode cX10_put 28 = .ok (.ldc 206, 2) := by decide +kernel
theorem dX10_put_30 : decode cX10_put 30 = .ok (.invokestatic 187, 3) := by decide +kernel
theorem dX10_put_33 : decode cX10_put 33 = .ok (.istore_n 3, 1) := by decide +kernel
theorem dX10_put_34 : decode cX10_put 34 = .ok (.iload_n 3, 1) := by decide +kernel
theorem dX10_put_35 : decode cX10_put 35 = .ok (.ifCond .eq 9, 3) := by decide +kernel
theorem dX10_put_38 : decode cX10_put 38 = .ok (.aload_n 0, 1) := by decide +kernel
theorem dX10_put_39 : decode cX10_put 39 = .ok (.iload_n 3, 1) := by decide +kernel
theorem dX10_put_40 : decode cX10_put 40 = .ok (.invokevirtual 207, 3) := by decide +kernel
theorem dX10_put_43 : decode cX10_put 43 = .ok (.lreturn, 1) := by decide +kernel
theorem dX10_put_44 : decode cX10_put 44 = .ok (.aload_n 0, 1) := by decide +kernel
theorem dX10_put_45 : decode cX10_put 45 = .ok (.getfield 65, 3) := by decide +kernel
theorem dX10_put_48 : decode cX10_put 48 = .ok (.iload_n 1, 1) := by decide +kernel
theorem dX10_put_49 : decode cX10_put 49 = .ok (.dup2, 1) := by decide +kernel
theorem dX10_put_50 : decode cX10_put 50 = .ok (.laload, 1) := by decide +kernel
theorem dX10_put_51 : decode cX10_put 51 = .ok (.iload_n 2, 1) := by decide +kernel
theorem dX10_put_52 : decode cX10_put 52 = .ok (.i2l, 1) := by decide +kernel
theorem dX10_put_53 : decode cX10_put 53 = .ok (.ladd, 1) := by decide +kernel
theorem dX10_put_54 : decode cX10_put 54 = .ok (.lastore, 1) := by decide +kernel
theorem dX10_put_55 : decode cX10_put 55 = .ok (.aload_n 0, 1) := by decide +kernel
theorem dX10_put_56 : decode cX10_put 56 = .ok (.getfield 65, 3) := by decide +kernel
theorem dX10_put_59 : decode cX10_put 59 = .ok (.iload_n 1, 1) := by decide +kernel
theorem dX10_put_60 : decode cX10_put 60 = .ok (.laload, 1) := by decide +kernel
theorem dX10_put_61 : decode cX10_put 61 = .ok (.lreturn, 1) := by decide +kernel
theorem dX10_over_0 : decode cX10_over 0 = .ok (.aload_n 0, 1) := by decide +kernel
theorem dX10_over_1 : decode cX10_over 1 = .ok (.iload_n 1, 1) := by decide +kernel
theorem dX10_over_2 : decode cX10_over 2 = .ok (.invokevirtual 203, 3) := by decide +kernel
theorem dX10_over_5 : decode cX10_over 5 = .ok (.ifCond .eq 13, 3) := by decide +kernel
theorem dX10_over_8 : decode cX10_over 8 = .ok (.iload_n 2, 1) := by decide +kernel
theorem dX10_over_9 : decode cX10_over 9 = .ok (.iconst 0, 1) := by decide +kernel
theorem dX10_over_10 : decode cX10_over 10 = .ok (.ldc 206, 2) := by decide +kernel
theorem dX10_over_12 : decode cX10_over 12 = .ok (.invokestatic 187, 3) := by decide +kernel
theorem dX10_over_15 : decode cX10_over 15 = .ok (.goto 4, 3) := by decide +kernel
theorem dX10_over_18 : decode cX10_over 18 = .ok (.iconst (-1), 1) := by decide +kernel
theorem dX10_over_19 : decode cX10_over 19 = .ok (.istore_n 3, 1) := by decide +kernel
theorem dX10_over_20 : decode cX10_over 20 = .ok (.iload_n 3, 1) := by decide +kernel
theorem dX10_over_21 : decode cX10_over 21 = .ok (.ifCond .eq 9, 3) := by decide +kernel
theorem dX10_over_24 : decode cX10_over 24 = .ok (.aload_n 0, 1) := by decide +kernel
theorem dX10_over_25 : decode cX10_over 25 = .ok (.iload_n 3, 1) := by decide +kernel
theorem dX10_over_26 : decode cX10_over 26 = .ok (.invokevirtual 163, 3) := by decide +kernel
theorem dX10_over_29 : decode cX10_over 29 = .ok (.ireturn, 1) := by decide +kernel
theorem dX10_over_30 : decode cX10_over 30 = .ok (.aload_n 0, 1) := by decide +kernel
theorem dX10_over_31 : decode cX10_over 31 = .ok (.getfield 50, 3) := by decide +kernel
theorem dX10_over_34 : decode cX10_over 34 = .ok (.iload_n 1, 1) := by decide +kernel
theorem dX10_over_35 : decode cX10_over 35 = .ok (.iaload, 1) := by decide +kernel
theorem dX10_over_36 : decode cX10_over 36 = .ok (.istore 4, 2) := by decide +kernel
theorem dX10_over_38 : decode cX10_over 38 = .ok (.aload_n 0, 1) := by decide +kernel
theorem dX10_over_39 : decode cX10_over 39 = .ok (.getfield 50, 3) := by decide +kernel
theorem dX10_over_42 : decode cX10_over 42 = .ok (.iload_n 1, 1) := by decide +kernel
theorem dX10_over_43 : decode cX10_over 43 = .ok (.iload_n 2, 1) := by decide +kernel
theorem dX10_over_44 : decode cX10_over 44 = .ok (.iastore, 1) := by decide +kernel
theorem dX10_over_45 : decode cX10_over 45 = .ok (.iload 4, 2) := by decide +kernel
theorem dX10_over_47 : decode cX10_over 47 = .ok (.ireturn, 1) := by decide +kernel
theorem dX10_isMoving_0 : decode cX10_isMoving 0 = .ok (.iconst 0, 1) := by decide +kernel
theorem dX10_isMoving_1 : decode cX10_isMoving 1 = .ok (.istore_n 2, 1) := by decide +kernel
theorem dX10_isMoving_2 : decode cX10_isMoving 2 = .ok (.iload_n 2, 1) := by decide +kernel
theorem dX10_isMoving_3 : decode cX10_isMoving 3 = .ok (.aload_n 0, 1) := by decide +kernel
theorem dX10_isMoving_4 : decode cX10_isMoving 4 = .ok (.getfield 211, 3) := by decide +kernel
theorem dX10_isMoving_7 : decode cX10_isMoving 7 = .ok (.if_icmp .ge 40, 3) := by decide +kernel
theorem dX10_isMoving_10 : decode cX10_isMoving 10 = .ok (.aload_n 0, 1) := by decide +kernel
theorem dX10_isMoving_11 : decode cX10_isMoving 11 = .ok (.getfield 126, 3) := by decide +kernel
theorem dX10_isMoving_14 : decode cX10_isMoving 14 = .ok (.iload_n 2, 1) := by decide +kernel
theorem dX10_isMoving_15 : decode cX10_isMoving 15 = .ok (.baload, 1) := by decide +kernel
theorem dX10_isMoving_16 : decode cX10_isMoving 16 = .ok (.ifCond .eq 25, 3) := by decide +kernel
theorem dX10_isMoving_19 : decode cX10_isMoving 19 = .ok (.aload_n 0, 1) := by decide +kernel
theorem dX10_isMoving_20 : decode cX10_isMoving 20 = .ok (.getfield 102, 3) := by decide +kernel
theorem dX10_isMoving_23 : decode cX10_isMoving 23 = .ok (.iload_n 2, 1) := by decide +kernel
theorem dX10_isMoving_24 : decode cX10_isMoving 24 = .ok (.iaload, 1) := by decide +kernel
theorem dX10_isMoving_25 : decode cX10_isMoving 25 = .ok (.iload_n 1, 1) := by decide +kernel
theorem dX10_isMoving_26 : decode cX10_isMoving 26 = .ok (.if_icmp .eq 13, 3) := by decide +kernel
theorem dX10_isMoving_29 : decode cX10_isMoving 29 = .ok (.aload_n 0, 1) := by decide +kernel
theorem dX10_isMoving_30 : decode cX10_isMoving 30 = .ok (.getfield 105, 3) := by decide +kernel
theorem dX10_isMoving_33 : decode cX10_isMoving 33 = .ok (.iload_n 2, 1) := by decide +kernel
theorem dX10_isMoving_34 : decode cX10_isMoving 34 = .ok (.iaload, 1) := by decide +kernel
theorem dX10_isMoving_35 : decode cX10_isMoving 35 = .ok (.iload_n 1, 1) := by decide +kernel
theorem dX10_isMoving_36 : decode cX10_isMoving 36 = .ok (.if_icmp .ne 5, 3) := by decide +kernel
theorem dX10_isMoving_39 : decode cX10_isMoving 39 = .ok (.iconst 1, 1) := by decide +kernel
theorem dX10_isMoving_40 : decode cX10_isMoving 40 = .ok (.ireturn, 1) := by decide +kernel
theorem dX10_isMoving_41 : decode cX10_isMoving 41 = .ok (.iinc 2 1, 3) := by decide +kernel
theorem dX10_isMoving_44 : decode cX10_isMoving 44 = .ok (.goto (-42), 3) := by decide +kernel
theorem dX10_isMoving_47 : decode cX10_isMoving 47 = .ok (.iconst 0, 1) := by decide +kernel
theorem dX10_isMoving_48 : decode cX10_isMoving 48 = .ok (.ireturn, 1) := by decide +kernel
theorem dX10_close_0 : decode cX10_close 0 = .ok (.aload_n 0, 1) := by decide +kernel
theorem dX10_close_1 : decode cX10_close 1 = .ok (.iload_n 1, 1) := by decide +kernel
theorem dX10_close_2 : decode cX10_close 2 = .ok (.invokevirtual 203, 3) := by decide +kernel
theorem dX10_close_5 : decode cX10_close 5 = .ok (.ifCond .ne 9, 3) := by decide +kernel
theorem dX10_close_8 : decode cX10_close 8 = .ok (.aload_n 0, 1) := by decide +kernel
theorem dX10_close_9 : decode cX10_close 9 = .ok (.iconst (-1), 1) := by decide +kernel
theorem dX10_close_10 : decode cX10_close 10 = .ok (.invokevirtual 163, 3) := by decide +kernel
theorem dX10_close_13 : decode cX10_close 13 = .ok (.ireturn, 1) := by decide +kernel
theorem dX10_close_14 : decode cX10_close 14 = .ok (.aload_n 0, 1) := by decide +kernel
theorem dX10_close_15 : decode cX10_close 15 = .ok (.getfield 53, 3) := by decide +kernel
theorem dX10_close_18 : decode cX10_close 18 = .ok (.iload_n 1, 1) := by decide +kernel
theorem dX10_close_19 : decode cX10_close 19 = .ok (.iaload, 1) := by decide +kernel
theorem dX10_close_20 : decode cX10_close 20 = .ok (.ifCond .ne 22, 3) := by decide +kernel
theorem dX10_close_23 : decode cX10_close 23 = .ok (.aload_n 0, 1) := by decide +kernel
theorem dX10_close_24 : decode cX10_close 24 = .ok (.getfield 65, 3) := by decide +kernel
theorem dX10_close_27 : decode cX10_close 27 = .ok (.iload_n 1, 1) := by decide +kernel
theorem dX10_close_28 : decode cX10_close 28 = .ok (.laload, 1) := by decide +kernel
theorem dX10_close_29 : decode cX10_close 29 = .ok (.lconst 0, 1) := by decide +kernel
theorem dX10_close_30 : decode cX10_close 30 = .ok (.lcmp, 1) := by decide +kernel
theorem dX10_close_31 : decode cX10_close 31 = .ok (.ifCond .ne 11, 3) := by decide +kernel
theorem dX10_close_34 : decode cX10_close 34 = .ok (.aload_n 0, 1) := by decide +kernel
theorem dX10_close_35 : decode cX10_close 35 = .ok (.iload_n 1, 1) := by decide +kernel
theorem dX10_close_36 : decode cX10_close 36 = .ok (.invokevirtual 214, 3) := by decide +kernel
theorem dX10_close_39 : decode cX10_close 39 = .ok (.ifCond .eq 10, 3) := by decide +kernel
theorem dX10_close_42 : decode cX10_close 42 = .ok (.aload_n 0, 1) := by decide +kernel
theorem dX10_close_43 : decode cX10_close 43 = .ok (.bipush (-3), 2) := by decide +kernel
theorem dX10_close_45 : decode cX10_close 45 = .ok (.invokevirtual 163, 3) := by decide +kernel
theorem dX10_close_48 : decode cX10_close 48 = .ok (.ireturn, 1) := by decide +kernel
theorem dX10_close_49 : decode cX10_close 49 = .ok (.aload_n 0, 1) := by decide +kernel
theorem dX10_close_50 : decode cX10_close 50 = .ok (.getfield 53, 3) := by decide +kernel
theorem dX10_close_53 : decode cX10_close 53 = .ok (.iload_n 1, 1) := by decide +kernel
theorem dX10_close_54 : decode cX10_close 54 = .ok (.iconst 1, 1) := by decide +kernel
theorem dX10_close_55 : decode cX10_close 55 = .ok (.iastore, 1) := by decide +kernel
theorem dX10_close_56 : decode cX10_close 56 = .ok (.iconst 1, 1) := by decide +kernel
theorem dX10_close_57 : decode cX10_close 57 = .ok (.ireturn, 1) := by decide +kernel
theorem dX10_sum_0 : decode cX10_sum 0 = .ok (.aload_n 0, 1) := by decide +kernel
theorem dX10_sum_1 : decode cX10_sum 1 = .ok (.iload_n 1, 1) := by decide +kernel
theorem dX10_sum_2 : decode cX10_sum 2 = .ok (.invokevirtual 203, 3) := by decide +kernel
theorem dX10_sum_5 : decode cX10_sum 5 = .ok (.ifCond .eq 12, 3) := by decide +kernel
theorem dX10_sum_8 : decode cX10_sum 8 = .ok (.aload_n 0, 1) := by decide +kernel
theorem dX10_sum_9 : decode cX10_sum 9 = .ok (.getfield 65, 3) := by decide +kernel
theorem dX10_sum_12 : decode cX10_sum 12 = .ok (.iload_n 1, 1) := by decide +kernel
theorem dX10_sum_13 : decode cX10_sum 13 = .ok (.laload, 1) := by decide +kernel
theorem dX10_sum_14 : decode cX10_sum 14 = .ok (.goto 8, 3) := by decide +kernel
theorem dX10_sum_17 : decode cX10_sum 17 = .ok (.aload_n 0, 1) := by decide +kernel
theorem dX10_sum_18 : decode cX10_sum 18 = .ok (.iconst (-1), 1) := by decide +kernel
theorem dX10_sum_19 : decode cX10_sum 19 = .ok (.invokevirtual 207, 3) := by decide +kernel
theorem dX10_sum_22 : decode cX10_sum 22 = .ok (.lreturn, 1) := by decide +kernel
theorem dX10_was_0 : decode cX10_was 0 = .ok (.aload_n 0, 1) := by decide +kernel
theorem dX10_was_1 : decode cX10_was 1 = .ok (.iload_n 1, 1) := by decide +kernel
theorem dX10_was_2 : decode cX10_was 2 = .ok (.invokevirtual 203, 3) := by decide +kernel
theorem dX10_was_5 : decode cX10_was 5 = .ok (.ifCond .eq 17, 3) := by decide +kernel
theorem dX10_was_8 : decode cX10_was 8 = .ok (.iload_n 2, 1) := by decide +kernel
theorem dX10_was_9 : decode cX10_was 9 = .ok (.iconst 0, 1) := by decide +kernel
theorem dX10_was_10 : decode cX10_was 10 = .ok (.aload_n 0, 1) := by decide +kernel
theorem dX10_was_11 : decode cX10_was 11 = .ok (.getfield 177, 3) := by decide +kernel
theorem dX10_was_14 : decode cX10_was 14 = .ok (.iconst 1, 1) := by decide +kernel
theorem dX10_was_15 : decode cX10_was 15 = .ok (.isub, 1) := by decide +kernel
theorem dX10_was_16 : decode cX10_was 16 = .ok (.invokestatic 187, 3) := by decide +kernel
theorem dX10_was_19 : decode cX10_was 19 = .ok (.goto 4, 3) := by decide +kernel
theorem dX10_was_22 : decode cX10_was 22 = .ok (.iconst (-1), 1) := by decide +kernel
theorem dX10_was_23 : decode cX10_was 23 = .ok (.istore_n 3, 1) := by decide +kernel
theorem dX10_was_24 : decode cX10_was 24 = .ok (.iload_n 3, 1) := by decide +kernel
theorem dX10_was_25 : decode cX10_was 25 = .ok (.ifCond .eq 11, 3) := by decide +kernel
theorem dX10_was_28 : decode cX10_was 28 = .ok (.aload_n 0, 1) := by decide +kernel
theorem dX10_was_29 : decode cX10_was 29 = .ok (.iload_n 3, 1) := by decide +kernel
theorem dX10_was_30 : decode cX10_was 30 = .ok (.invokevirtual 207, 3) := by decide +kernel
theorem dX10_was_33 : decode cX10_was 33 = .ok (.goto 15, 3) := by decide +kernel
theorem dX10_was_36 : decode cX10_was 36 = .ok (.aload_n 0, 1) := by decide +kernel
theorem dX10_was_37 : decode cX10_was 37 = .ok (.getfield 69, 3) := by decide +kernel
theorem dX10_was_40 : decode cX10_was 40 = .ok (.sipush 1501, 3) := by decide +kernel
theorem dX10_was_43 : decode cX10_was 43 = .ok (.iload_n 1, 1) := by decide +kernel
theorem dX10_was_44 : decode cX10_was 44 = .ok (.imul, 1) := by decide +kernel
theorem dX10_was_45 : decode cX10_was 45 = .ok (.iload_n 2, 1) := by decide +kernel
theorem dX10_was_46 : decode cX10_was 46 = .ok (.iadd, 1) := by decide +kernel
theorem dX10_was_47 : decode cX10_was 47 = .ok (.laload, 1) := by decide +kernel
theorem dX10_was_48 : decode cX10_was 48 = .ok (.lreturn, 1) := by decide +kernel
theorem dX10_lastOf_0 : decode cX10_lastOf 0 = .ok (.iload_n 1, 1) := by decide +kernel
theorem dX10_lastOf_1 : decode cX10_lastOf 1 = .ok (.istore_n 2, 1) := by decide +kernel
theorem dX10_lastOf_2 : decode cX10_lastOf 2 = .ok (.aload_n 0, 1) := by decide +kernel
theorem dX10_lastOf_3 : decode cX10_lastOf 3 = .ok (.getfield 53, 3) := by decide +kernel
theorem dX10_lastOf_6 : decode cX10_lastOf 6 = .ok (.iload_n 2, 1) := by decide +kernel
theorem dX10_lastOf_7 : decode cX10_lastOf 7 = .ok (.iaload, 1) := by decide +kernel
theorem dX10_lastOf_8 : decode cX10_lastOf 8 = .ok (.iconst 2, 1) := by decide +kernel
theorem dX10_lastOf_9 : decode cX10_lastOf 9 = .ok (.if_icmp .ne 13, 3) := by decide +kernel
theorem dX10_lastOf_12 : decode cX10_lastOf 12 = .ok (.aload_n 0, 1) := by decide +kernel
theorem dX10_lastOf_13 : decode cX10_lastOf 13 = .ok (.getfield 56, 3) := by decide +kernel
theorem dX10_lastOf_16 : decode cX10_lastOf 16 = .ok (.iload_n 2, 1) := by decide +kernel
theorem dX10_lastOf_17 : decode cX10_lastOf 17 = .ok (.iaload, 1) := by decide +kernel
theorem dX10_lastOf_18 : decode cX10_lastOf 18 = .ok (.istore_n 2, 1) := by decide +kernel
theorem dX10_lastOf_19 : decode cX10_lastOf 19 = .ok (.goto (-17), 3) := by decide +kernel
theorem dX10_lastOf_22 : decode cX10_lastOf 22 = .ok (.iload_n 2, 1) := by decide +kernel
theorem dX10_lastOf_23 : decode cX10_lastOf 23 = .ok (.ireturn, 1) := by decide +kernel
theorem dX10_accountOf_0 : decode cX10_accountOf 0 = .ok (.aload_n 0, 1) := by decide +kernel
theorem dX10_accountOf_1 : decode cX10_accountOf 1 = .ok (.iload_n 1, 1) := by decide +kernel
theorem dX10_accountOf_2 : decode cX10_accountOf 2 = .ok (.invokevirtual 203, 3) := by decide +kernel
theorem dX10_accountOf_5 : decode cX10_accountOf 5 = .ok (.ifCond .ne 9, 3) := by decide +kernel
theorem dX10_accountOf_8 : decode cX10_accountOf 8 = .ok (.aload_n 0, 1) := by decide +kernel
theorem dX10_accountOf_9 : decode cX10_accountOf 9 = .ok (.iconst (-1), 1) := by decide +kernel
theorem dX10_accountOf_10 : decode cX10_accountOf 10 = .ok (.invokevirtual 163, 3) := by decide +kernel
theorem dX10_accountOf_13 : decode cX10_accountOf 13 = .ok (.ireturn, 1) := by decide +kernel
theorem dX10_accountOf_14 : decode cX10_accountOf 14 = .ok (.iload_n 2, 1) := by decide +kernel
theorem dX10_accountOf_15 : decode cX10_accountOf 15 = .ok (.tableswitch 89 0 6 #[41, 48, 55, 62, 69, 75, 82], 41) := by decide +kernel
theorem dX10_accountOf_56 : decode cX10_accountOf 56 = .ok (.aload_n 0, 1) := by decide +kernel
theorem dX10_accountOf_57 : decode cX10_accountOf 57 = .ok (.getfield 41, 3) := by decide +kernel
theorem dX10_accountOf_60 : decode cX10_accountOf 60 = .ok (.iload_n 1, 1) := by decide +kernel
theorem dX10_accountOf_61 : decode cX10_accountOf 61 = .ok (.iaload, 1) := by decide +kernel
theorem dX10_accountOf_62 : decode cX10_accountOf 62 = .ok (.ireturn, 1) := by decide +kernel
theorem dX10_accountOf_63 : decode cX10_accountOf 63 = .ok (.aload_n 0, 1) := by decide +kernel
theorem dX10_accountOf_64 : decode cX10_accountOf 64 = .ok (.getfield 53, 3) := by decide +kernel
theorem dX10_accountOf_67 : decode cX10_accountOf 67 = .ok (.iload_n 1, 1) := by decide +kernel
theorem dX10_accountOf_68 : decode cX10_accountOf 68 = .ok (.iaload, 1) := by decide +kernel
theorem dX10_accountOf_69 : decode cX10_accountOf 69 = .ok (.ireturn, 1) := by decide +kernel
theorem dX10_accountOf_70 : decode cX10_accountOf 70 = .ok (.aload_n 0, 1) := by decide +kernel
theorem dX10_accountOf_71 : decode cX10_accountOf 71 = .ok (.getfield 56, 3) := by decide +kernel
theorem dX10_accountOf_74 : decode cX10_accountOf 74 = .ok (.iload_n 1, 1) := by decide +kernel
theorem dX10_accountOf_75 : decode cX10_accountOf 75 = .ok (.iaload, 1) := by decide +kernel
theorem dX10_accountOf_76 : decode cX10_accountOf 76 = .ok (.ireturn, 1) := by decide +kernel
theorem dX10_accountOf_77 : decode cX10_accountOf 77 = .ok (.aload_n 0, 1) := by decide +kernel
theorem dX10_accountOf_78 : decode cX10_accountOf 78 = .ok (.getfield 59, 3) := by decide +kernel
theorem dX10_accountOf_81 : decode cX10_accountOf 81 = .ok (.iload_n 1, 1) := by decide +kernel
theorem dX10_accountOf_82 : decode cX10_accountOf 82 = .ok (.iaload, 1) := by decide +kernel
theorem dX10_accountOf_83 : decode cX10_accountOf 83 = .ok (.ireturn, 1) := by decide +kernel
theorem dX10_accountOf_84 : decode cX10_accountOf 84 = .ok (.aload_n 0, 1) := by decide +kernel
theorem dX10_accountOf_85 : decode cX10_accountOf 85 = .ok (.iload_n 1, 1) := by decide +kernel
theorem dX10_accountOf_86 : decode cX10_accountOf 86 = .ok (.invokevirtual 217, 3) := by decide +kernel
theorem dX10_accountOf_89 : decode cX10_accountOf 89 = .ok (.ireturn, 1) := by decide +kernel
theorem dX10_accountOf_90 : decode cX10_accountOf 90 = .ok (.aload_n 0, 1) := by decide +kernel
theorem dX10_accountOf_91 : decode cX10_accountOf 91 = .ok (.getfield 50, 3) := by decide +kernel
theorem dX10_accountOf_94 : decode cX10_accountOf 94 = .ok (.iload_n 1, 1) := by decide +kernel
theorem dX10_accountOf_95 : decode cX10_accountOf 95 = .ok (.iaload, 1) := by decide +kernel
theorem dX10_accountOf_96 : decode cX10_accountOf 96 = .ok (.ireturn, 1) := by decide +kernel
theorem dX10_accountOf_97 : decode cX10_accountOf 97 = .ok (.aload_n 0, 1) := by decide +kernel
theorem dX10_accountOf_98 : decode cX10_accountOf 98 = .ok (.getfield 62, 3) := by decide +kernel
theorem dX10_accountOf_101 : decode cX10_accountOf 101 = .ok (.iload_n 1, 1) := by decide +kernel
theorem dX10_accountOf_102 : decode cX10_accountOf 102 = .ok (.iaload, 1) := by decide +kernel
theorem dX10_accountOf_103 : decode cX10_accountOf 103 = .ok (.ireturn, 1) := by decide +kernel
theorem dX10_accountOf_104 : decode cX10_accountOf 104 = .ok (.aload_n 0, 1) := by decide +kernel
theorem dX10_accountOf_105 : decode cX10_accountOf 105 = .ok (.bipush (-2), 2) := by decide +kernel
theorem dX10_accountOf_107 : decode cX10_accountOf 107 = .ok (.invokevirtual 163, 3) := by decide +kernel
theorem dX10_accountOf_110 : decode cX10_accountOf 110 = .ok (.ireturn, 1) := by decide +kernel
theorem dX10_sentOn_0 : decode cX10_sentOn 0 = .ok (.iload_n 1, 1) := by decide +kernel
theorem dX10_sentOn_1 : decode cX10_sentOn 1 = .ok (.istore_n 3, 1) := by decide +kernel
theorem dX10_sentOn_2 : decode cX10_sentOn 2 = .ok (.aload_n 0, 1) := by decide +kernel
theorem dX10_sentOn_3 : decode cX10_sentOn 3 = .ok (.getfield 53, 3) := by decide +kernel
theorem dX10_sentOn_6 : decode cX10_sentOn 6 = .ok (.iload_n 3, 1) := by decide +kernel
theorem dX10_sentOn_7 : decode cX10_sentOn 7 = .ok (.iaload, 1) := by decide +kernel
theorem dX10_sentOn_8 : decode cX10_sentOn 8 = .ok (.iconst 2, 1) := by decide +kernel
theorem dX10_sentOn_9 : decode cX10_sentOn 9 = .ok (.if_icmp .ne 83, 3) := by decide +kernel
theorem dX10_sentOn_12 : decode cX10_sentOn 12 = .ok (.aload_n 0, 1) := by decide +kernel
theorem dX10_sentOn_13 : decode cX10_sentOn 13 = .ok (.invokevirtual 220, 3) := by decide +kernel
theorem dX10_sentOn_16 : decode cX10_sentOn 16 = .ok (.aload_n 0, 1) := by decide +kernel
theorem dX10_sentOn_17 : decode cX10_sentOn 17 = .ok (.getfield 158, 3) := by decide +kernel
theorem dX10_sentOn_20 : decode cX10_sentOn 20 = .ok (.bipush 98, 2) := by decide +kernel
theorem dX10_sentOn_22 : decode cX10_sentOn 22 = .ok (.aload_n 0, 1) := by decide +kernel
theorem dX10_sentOn_23 : decode cX10_sentOn 23 = .ok (.getfield 41, 3) := by decide +kernel
theorem dX10_sentOn_26 : decode cX10_sentOn 26 = .ok (.iload_n 3, 1) := by decide +kernel
theorem dX10_sentOn_27 : decode cX10_sentOn 27 = .ok (.iaload, 1) := by decide +kernel
theorem dX10_sentOn_28 : decode cX10_sentOn 28 = .ok (.iastore, 1) := by decide +kernel
theorem dX10_sentOn_29 : decode cX10_sentOn 29 = .ok (.aload_n 0, 1) := by decide +kernel
theorem dX10_sentOn_30 : decode cX10_sentOn 30 = .ok (.getfield 158, 3) := by decide +kernel
theorem dX10_sentOn_33 : decode cX10_sentOn 33 = .ok (.bipush 116, 2) := by decide +kernel
theorem dX10_sentOn_35 : decode cX10_sentOn 35 = .ok (.aload_n 0, 1) := by decide +kernel
theorem dX10_sentOn_36 : decode cX10_sentOn 36 = .ok (.getfield 41, 3) := by decide +kernel
theorem dX10_sentOn_39 : decode cX10_sentOn 39 = .ok (.aload_n 0, 1) := by decide +kernel
theorem dX10_sentOn_40 : decode cX10_sentOn 40 = .ok (.getfield 56, 3) := by decide +kernel
theorem dX10_sentOn_43 : decode cX10_sentOn 43 = .ok (.iload_n 3, 1) := by decide +kernel
theorem dX10_sentOn_44 : decode cX10_sentOn 44 = .ok (.iaload, 1) := by decide +kernel
theorem dX10_sentOn_45 : decode cX10_sentOn 45 = .ok (.iaload, 1) := by decide +kernel
theorem dX10_sentOn_46 : decode cX10_sentOn 46 = .ok (.iastore, 1) := by decide +kernel
theorem dX10_sentOn_47 : decode cX10_sentOn 47 = .ok (.aload_n 0, 1) := by decide +kernel
theorem dX10_sentOn_48 : decode cX10_sentOn 48 = .ok (.getfield 158, 3) := by decide +kernel
theorem dX10_sentOn_51 : decode cX10_sentOn 51 = .ok (.bipush 100, 2) := by decide +kernel
theorem dX10_sentOn_53 : decode cX10_sentOn 53 = .ok (.iload_n 2, 1) := by decide +kernel
theorem dX10_sentOn_54 : decode cX10_sentOn 54 = .ok (.aload_n 0, 1) := by decide +kernel
theorem dX10_sentOn_55 : decode cX10_sentOn 55 = .ok (.getfield 59, 3) := by decide +kernel
theorem dX10_sentOn_58 : decode cX10_sentOn 58 = .ok (.iload_n 3, 1) := by decide +kernel
theorem dX10_sentOn_59 : decode cX10_sentOn 59 = .ok (.iaload, 1) := by decide +kernel
theorem dX10_sentOn_60 : decode cX10_sentOn 60 = .ok (.isub, 1) := by decide +kernel
theorem dX10_sentOn_61 : decode cX10_sentOn 61 = .ok (.iastore, 1) := by decide +kernel
theorem dX10_sentOn_62 : decode cX10_sentOn 62 = .ok (.iload_n 2, 1) := by decide +kernel
theorem dX10_sentOn_63 : decode cX10_sentOn 63 = .ok (.aload_n 0, 1) := by decide +kernel
theorem dX10_sentOn_64 : decode cX10_sentOn 64 = .ok (.getfield 59, 3) := by decide +kernel
theorem dX10_sentOn_67 : decode cX10_sentOn 67 = .ok (.iload_n 3, 1) := by decide +kernel
theorem dX10_sentOn_68 : decode cX10_sentOn 68 = .ok (.iaload, 1) := by decide +kernel
theorem dX10_sentOn_69 : decode cX10_sentOn 69 = .ok (.isub, 1) := by decide +kernel
theorem dX10_sentOn_70 : decode cX10_sentOn 70 = .ok (.aload_n 0, 1) := by decide +kernel
theorem dX10_sentOn_71 : decode cX10_sentOn 71 = .ok (.iconst 1, 1) := by decide +kernel
theorem dX10_sentOn_72 : decode cX10_sentOn 72 = .ok (.iload_n 2, 1) := by decide +kernel
theorem dX10_sentOn_73 : decode cX10_sentOn 73 = .ok (.invokevirtual 223, 3) := by decide +kernel
theorem dX10_sentOn_76 : decode cX10_sentOn 76 = .ok (.if_icmp .le 6, 3) := by decide +kernel
theorem dX10_sentOn_79 : decode cX10_sentOn 79 = .ok (.bipush (-9), 2) := by decide +kernel
theorem dX10_sentOn_81 : decode cX10_sentOn 81 = .ok (.ireturn, 1) := by decide +kernel
theorem dX10_sentOn_82 : decode cX10_sentOn 82 = .ok (.aload_n 0, 1) := by decide +kernel
theorem dX10_sentOn_83 : decode cX10_sentOn 83 = .ok (.getfield 56, 3) := by decide +kernel
theorem dX10_sentOn_86 : decode cX10_sentOn 86 = .ok (.iload_n 3, 1) := by decide +kernel
theorem dX10_sentOn_87 : decode cX10_sentOn 87 = .ok (.iaload, 1) := by decide +kernel
theorem dX10_sentOn_88 : decode cX10_sentOn 88 = .ok (.istore_n 3, 1) := by decide +kernel
theorem dX10_sentOn_89 : decode cX10_sentOn 89 = .ok (.goto (-87), 3) := by decide +kernel
theorem dX10_sentOn_92 : decode cX10_sentOn 92 = .ok (.iload_n 3, 1) := by decide +kernel
theorem dX10_sentOn_93 : decode cX10_sentOn 93 = .ok (.ireturn, 1) := by decide +kernel
theorem dX10_sends_0 : decode cX10_sends 0 = .ok (.aload_n 0, 1) := by decide +kernel
theorem dX10_sends_1 : decode cX10_sends 1 = .ok (.iload_n 1, 1) := by decide +kernel
theorem dX10_sends_2 : decode cX10_sends 2 = .ok (.invokevirtual 203, 3) := by decide +kernel
theorem dX10_sends_5 : decode cX10_sends 5 = .ok (.ifCond .eq 14, 3) := by decide +kernel
theorem dX10_sends_8 : decode cX10_sends 8 = .ok (.iload_n 2, 1) := by decide +kernel
theorem dX10_sends_9 : decode cX10_sends 9 = .ok (.iconst 0, 1) := by decide +kernel
theorem dX10_sends_10 : decode cX10_sends 10 = .ok (.sipush 1500, 3) := by decide +kernel
theorem dX10_sends_13 : decode cX10_sends 13 = .ok (.invokestatic 187, 3) := by decide +kernel
theorem dX10_sends_16 : decode cX10_sends 16 = .ok (.goto 4, 3) := by decide +kernel
theorem dX10_sends_19 : decode cX10_sends 19 = .ok (.iconst (-1), 1) := by decide +kernel
theorem dX10_sends_20 : decode cX10_sends 20 = .ok (.istore_n 3, 1) := by decide +kernel
theorem dX10_sends_21 : decode cX10_sends 21 = .ok (.iload_n 3, 1) := by decide +kernel
theorem dX10_sends_22 : decode cX10_sends 22 = .ok (.ifCond .eq 11, 3) := by decide +kernel
theorem dX10_sends_25 : decode cX10_sends 25 = .ok (.aload_n 0, 1) := by decide +kernel
theorem dX10_sends_26 : decode cX10_sends 26 = .ok (.iload_n 3, 1) := by decide +kernel
theorem dX10_sends_27 : decode cX10_sends 27 = .ok (.invokevirtual 163, 3) := by decide +kernel
theorem dX10_sends_30 : decode cX10_sends 30 = .ok (.goto 9, 3) := by decide +kernel
theorem dX10_sends_33 : decode cX10_sends 33 = .ok (.aload_n 0, 1) := by decide +kernel
theorem dX10_sends_34 : decode cX10_sends 34 = .ok (.iload_n 1, 1) := by decide +kernel
theorem dX10_sends_35 : decode cX10_sends 35 = .ok (.iload_n 2, 1) := by decide +kernel
theorem dX10_sends_36 : decode cX10_sends 36 = .ok (.invokevirtual 227, 3) := by decide +kernel
theorem dX10_sends_39 : decode cX10_sends 39 = .ok (.ireturn, 1) := by decide +kernel
theorem dX10_feed_0 : decode cX10_feed 0 = .ok (.iload_n 1, 1) := by decide +kernel
theorem dX10_feed_1 : decode cX10_feed 1 = .ok (.iconst 1, 1) := by decide +kernel
theorem dX10_feed_2 : decode cX10_feed 2 = .ok (.if_icmp .ge 10, 3) := by decide +kernel
theorem dX10_feed_5 : decode cX10_feed 5 = .ok (.aload_n 0, 1) := by decide +kernel
theorem dX10_feed_6 : decode cX10_feed 6 = .ok (.bipush (-4), 2) := by decide +kernel
theorem dX10_feed_8 : decode cX10_feed 8 = .ok (.invokevirtual 163, 3) := by decide +kernel
theorem dX10_feed_11 : decode cX10_feed 11 = .ok (.ireturn, 1) := by decide +kernel
theorem dX10_feed_12 : decode cX10_feed 12 = .ok (.iload_n 1, 1) := by decide +kernel
theorem dX10_feed_13 : decode cX10_feed 13 = .ok (.bipush 8, 2) := by decide +kernel
theorem dX10_feed_15 : decode cX10_feed 15 = .ok (.if_icmp .gt 14, 3) := by decide +kernel
theorem dX10_feed_18 : decode cX10_feed 18 = .ok (.aload_n 0, 1) := by decide +kernel
theorem dX10_feed_19 : decode cX10_feed 19 = .ok (.getfield 230, 3) := by decide +kernel
theorem dX10_feed_22 : decode cX10_feed 22 = .ok (.iload_n 1, 1) := by decide +kernel
theorem dX10_feed_23 : decode cX10_feed 23 = .ok (.iadd, 1) := by decide +kernel
theorem dX10_feed_24 : decode cX10_feed 24 = .ok (.bipush 60, 2) := by decide +kernel
theorem dX10_feed_26 : decode cX10_feed 26 = .ok (.if_icmp .le 10, 3) := by decide +kernel
theorem dX10_feed_29 : decode cX10_feed 29 = .ok (.aload_n 0, 1) := by decide +kernel
theorem dX10_feed_30 : decode cX10_feed 30 = .ok (.bipush (-6), 2) := by decide +kernel
theorem dX10_feed_32 : decode cX10_feed 32 = .ok (.invokevirtual 163, 3) := by decide +kernel
theorem dX10_feed_35 : decode cX10_feed 35 = .ok (.ireturn, 1) := by decide +kernel
theorem dX10_feed_36 : decode cX10_feed 36 = .ok (.iconst 0, 1) := by decide +kernel
theorem dX10_feed_37 : decode cX10_feed 37 = .ok (.istore 4, 2) := by decide +kernel
theorem dX10_feed_39 : decode cX10_feed 39 = .ok (.iload 4, 2) := by decide +kernel
theorem dX10_feed_41 : decode cX10_feed 41 = .ok (.iload_n 1, 1) := by decide +kernel
theorem dX10_feed_42 : decode cX10_feed 42 = .ok (.if_icmp .ge 40, 3) := by decide +kernel
theorem dX10_feed_45 : decode cX10_feed 45 = .ok (.aload_n 0, 1) := by decide +kernel
theorem dX10_feed_46 : decode cX10_feed 46 = .ok (.getfield 155, 3) := by decide +kernel
theorem dX10_feed_49 : decode cX10_feed 49 = .ok (.aload_n 0, 1) := by decide +kernel
theorem dX10_feed_50 : decode cX10_feed 50 = .ok (.getfield 230, 3) := by decide +kernel
theorem dX10_feed_53 : decode cX10_feed 53 = .ok (.lload_n 2, 1) := by decide +kernel
theorem dX10_feed_54 : decode cX10_feed 54 = .ok (.bipush 8, 2) := by decide +kernel
theorem dX10_feed_56 : decode cX10_feed 56 = .ok (.iload 4, 2) := by decide +kernel
theorem dX10_feed_58 : decode cX10_feed 58 = .ok (.imul, 1) := by decide +kernel
theorem dX10_feed_59 : decode cX10_feed 59 = .ok (.lshr, 1) := by decide +kernel
theorem dX10_feed_60 : decode cX10_feed 60 = .ok (.ldc2_w 233, 3) := by decide +kernel
theorem dX10_feed_63 : decode cX10_feed 63 = .ok (.land, 1) := by decide +kernel
theorem dX10_feed_64 : decode cX10_feed 64 = .ok (.l2i, 1) := by decide +kernel
theorem dX10_feed_65 : decode cX10_feed 65 = .ok (.iastore, 1) := by decide +kernel
theorem dX10_feed_66 : decode cX10_feed 66 = .ok (.aload_n 0, 1) := by decide +kernel
theorem dX10_feed_67 : decode cX10_feed 67 = .ok (.dup, 1) := by decide +kernel
theorem dX10_feed_68 : decode cX10_feed 68 = .ok (.getfield 230, 3) := by decide +kernel
theorem dX10_feed_71 : decode cX10_feed 71 = .ok (.iconst 1, 1) := by decide +kernel
theorem dX10_feed_72 : decode cX10_feed 72 = .ok (.iadd, 1) := by decide +kernel
theorem dX10_feed_73 : decode cX10_feed 73 = .ok (.putfield 230, 3) := by decide +kernel
theorem dX10_feed_76 : decode cX10_feed 76 = .ok (.iinc 4 1, 3) := by decide +kernel
theorem dX10_feed_79 : decode cX10_feed 79 = .ok (.goto (-40), 3) := by decide +kernel
theorem dX10_feed_82 : decode cX10_feed 82 = .ok (.aload_n 0, 1) := by decide +kernel
theorem dX10_feed_83 : decode cX10_feed 83 = .ok (.getfield 230, 3) := by decide +kernel
theorem dX10_feed_86 : decode cX10_feed 86 = .ok (.ireturn, 1) := by decide +kernel
theorem dX10_sign_0 : decode cX10_sign 0 = .ok (.aload_n 0, 1) := by decide +kernel
theorem dX10_sign_1 : decode cX10_sign 1 = .ok (.getfield 235, 3) := by decide +kernel
theorem dX10_sign_4 : decode cX10_sign 4 = .ok (.aload_n 0, 1) := by decide +kernel
theorem dX10_sign_5 : decode cX10_sign 5 = .ok (.getfield 238, 3) := by decide +kernel
theorem dX10_sign_8 : decode cX10_sign 8 = .ok (.if_icmp .lt 7, 3) := by decide +kernel
theorem dX10_sign_11 : decode cX10_sign 11 = .ok (.iconst (-1), 1) := by decide +kernel
theorem dX10_sign_12 : decode cX10_sign 12 = .ok (.goto 36, 3) := by decide +kernel
theorem dX10_sign_15 : decode cX10_sign 15 = .ok (.aload_n 0, 1) := by decide +kernel
theorem dX10_sign_16 : decode cX10_sign 16 = .ok (.getfield 241, 3) := by decide +kernel
theorem dX10_sign_19 : decode cX10_sign 19 = .ok (.ifCond .ge 15, 3) := by decide +kernel
theorem dX10_sign_22 : decode cX10_sign 22 = .ok (.aload_n 0, 1) := by decide +kernel
theorem dX10_sign_23 : decode cX10_sign 23 = .ok (.getfield 155, 3) := by decide +kernel
theorem dX10_sign_26 : decode cX10_sign 26 = .ok (.aload_n 0, 1) := by decide +kernel
theorem dX10_sign_27 : decode cX10_sign 27 = .ok (.getfield 235, 3) := by decide +kernel
theorem dX10_sign_30 : decode cX10_sign 30 = .ok (.iaload, 1) := by decide +kernel
theorem dX10_sign_31 : decode cX10_sign 31 = .ok (.goto 17, 3) := by decide +kernel
theorem dX10_sign_34 : decode cX10_sign 34 = .ok (.aload_n 0, 1) := by decide +kernel
theorem dX10_sign_35 : decode cX10_sign 35 = .ok (.getfield 145, 3) := by decide +kernel
theorem dX10_sign_38 : decode cX10_sign 38 = .ok (.aload_n 0, 1) := by decide +kernel
theorem dX10_sign_39 : decode cX10_sign 39 = .ok (.getfield 241, 3) := by decide +kernel
theorem dX10_sign_42 : decode cX10_sign 42 = .ok (.aload_n 0, 1) := by decide +kernel
theorem dX10_sign_43 : decode cX10_sign 43 = .ok (.getfield 235, 3) := by decide +kernel
theorem dX10_sign_46 : decode cX10_sign 46 = .ok (.iadd, 1) := by decide +kernel
theorem dX10_sign_47 : decode cX10_sign 47 = .ok (.iaload, 1) := by decide +kernel
theorem dX10_sign_48 : decode cX10_sign 48 = .ok (.ireturn, 1) := by decide +kernel
theorem dX10_held_0 : decode cX10_held 0 = .ok (.lload_n 0, 1) := by decide +kernel
theorem dX10_held_1 : decode cX10_held 1 = .ok (.ldc2_w 244, 3) := by decide +kernel
theorem dX10_held_4 : decode cX10_held 4 = .ok (.lcmp, 1) := by decide +kernel
theorem dX10_held_5 : decode cX10_held 5 = .ok (.ifCond .le 9, 3) := by decide +kernel
theorem dX10_held_8 : decode cX10_held 8 = .ok (.ldc2_w 244, 3) := by decide +kernel
theorem dX10_held_11 : decode cX10_held 11 = .ok (.goto 18, 3) := by decide +kernel
theorem dX10_held_14 : decode cX10_held 14 = .ok (.lload_n 0, 1) := by decide +kernel
theorem dX10_held_15 : decode cX10_held 15 = .ok (.ldc2_w 246, 3) := by decide +kernel
theorem dX10_held_18 : decode cX10_held 18 = .ok (.lcmp, 1) := by decide +kernel
theorem dX10_held_19 : decode cX10_held 19 = .ok (.ifCond .ge 9, 3) := by decide +kernel
theorem dX10_held_22 : decode cX10_held 22 = .ok (.ldc2_w 246, 3) := by decide +kernel
theorem dX10_held_25 : decode cX10_held 25 = .ok (.goto 4, 3) := by decide +kernel
theorem dX10_held_28 : decode cX10_held 28 = .ok (.lload_n 0, 1) := by decide +kernel
theorem dX10_held_29 : decode cX10_held 29 = .ok (.l2i, 1) := by decide +kernel
theorem dX10_held_30 : decode cX10_held 30 = .ok (.ireturn, 1) := by decide +kernel
theorem dX10_takes_0 : decode cX10_takes 0 = .ok (.aload_n 0, 1) := by decide +kernel
theorem dX10_takes_1 : decode cX10_takes 1 = .ok (.getfield 248, 3) := by decide +kernel
theorem dX10_takes_4 : decode cX10_takes 4 = .ok (.ifCond .eq 11, 3) := by decide +kernel
theorem dX10_takes_7 : decode cX10_takes 7 = .ok (.aload_n 0, 1) := by decide +kernel
theorem dX10_takes_8 : decode cX10_takes 8 = .ok (.invokevirtual 252, 3) := by decide +kernel
theorem dX10_takes_11 : decode cX10_takes 11 = .ok (.iload_n 1, 1) := by decide +kernel
theorem dX10_takes_12 : decode cX10_takes 12 = .ok (.if_icmp .eq 5, 3) := by decide +kernel
theorem dX10_takes_15 : decode cX10_takes 15 = .ok (.iconst 0, 1) := by decide +kernel
theorem dX10_takes_16 : decode cX10_takes 16 = .ok (.ireturn, 1) := by decide +kernel
theorem dX10_takes_17 : decode cX10_takes 17 = .ok (.aload_n 0, 1) := by decide +kernel
theorem dX10_takes_18 : decode cX10_takes 18 = .ok (.dup, 1) := by decide +kernel
theorem dX10_takes_19 : decode cX10_takes 19 = .ok (.getfield 235, 3) := by decide +kernel
theorem dX10_takes_22 : decode cX10_takes 22 = .ok (.iconst 1, 1) := by decide +kernel
theorem dX10_takes_23 : decode cX10_takes 23 = .ok (.iadd, 1) := by decide +kernel
theorem dX10_takes_24 : decode cX10_takes 24 = .ok (.putfield 235, 3) := by decide +kernel
theorem dX10_takes_27 : decode cX10_takes 27 = .ok (.iconst 1, 1) := by decide +kernel
theorem dX10_takes_28 : decode cX10_takes 28 = .ok (.ireturn, 1) := by decide +kernel
theorem dX10_isLetter_0 : decode cX10_isLetter 0 = .ok (.iload_n 0, 1) := by decide +kernel
theorem dX10_isLetter_1 : decode cX10_isLetter 1 = .ok (.bipush 98, 2) := by decide +kernel
theorem dX10_isLetter_3 : decode cX10_isLetter 3 = .ok (.if_icmp .eq 57, 3) := by decide +kernel
theorem dX10_isLetter_6 : decode cX10_isLetter 6 = .ok (.iload_n 0, 1) := by decide +kernel
theorem dX10_isLetter_7 : decode cX10_isLetter 7 = .ok (.bipush 116, 2) := by decide +kernel
theorem dX10_isLetter_9 : decode cX10_isLetter 9 = .ok (.if_icmp .eq 51, 3) := by decide +kernel
theorem dX10_isLetter_12 : decode cX10_isLetter 12 = .ok (.iload_n 0, 1) := by decide +kernel
theorem dX10_isLetter_13 : decode cX10_isLetter 13 = .ok (.bipush 115, 2) := by decide +kernel
theorem dX10_isLetter_15 : decode cX10_isLetter 15 = .ok (.if_icmp .eq 45, 3) := by decide +kernel
theorem dX10_isLetter_18 : decode cX10_isLetter 18 = .ok (.iload_n 0, 1) := by decide +kernel
theorem dX10_isLetter_19 : decode cX10_isLetter 19 = .ok (.bipush 111, 2) := by decide +kernel
theorem dX10_isLetter_21 : decode cX10_isLetter 21 = .ok (.if_icmp .eq 39, 3) := by decide +kernel
theorem dX10_isLetter_24 : decode cX10_isLetter 24 = .ok (.iload_n 0, 1) := by decide +kernel
theorem dX10_isLetter_25 : decode cX10_isLetter 25 = .ok (.bipush 106, 2) := by decide +kernel
theorem dX10_isLetter_27 : decode cX10_isLetter 27 = .ok (.if_icmp .eq 33, 3) := by decide +kernel
theorem dX10_isLetter_30 : decode cX10_isLetter 30 = .ok (.iload_n 0, 1) := by decide +kernel
theorem dX10_isLetter_31 : decode cX10_isLetter 31 = .ok (.bipush 108, 2) := by decide +kernel
theorem dX10_isLetter_33 : decode cX10_isLetter 33 = .ok (.if_icmp .eq 27, 3) := by decide +kernel
theorem dX10_isLetter_36 : decode cX10_isLetter 36 = .ok (.iload_n 0, 1) := by decide +kernel
theorem dX10_isLetter_37 : decode cX10_isLetter 37 = .ok (.bipush 110, 2) := by decide +kernel
theorem dX10_isLetter_39 : decode cX10_isLetter 39 = .ok (.if_icmp .eq 21, 3) := by decide +kernel
theorem dX10_isLetter_42 : decode cX10_isLetter 42 = .ok (.iload_n 0, 1) := by decide +kernel
theorem dX10_isLetter_43 : decode cX10_isLetter 43 = .ok (.bipush 102, 2) := by decide +kernel
theorem dX10_isLetter_45 : decode cX10_isLetter 45 = .ok (.if_icmp .eq 15, 3) := by decide +kernel
theorem dX10_isLetter_48 : decode cX10_isLetter 48 = .ok (.iload_n 0, 1) := by decide +kernel
theorem dX10_isLetter_49 : decode cX10_isLetter 49 = .ok (.bipush 119, 2) := by decide +kernel
theorem dX10_isLetter_51 : decode cX10_isLetter 51 = .ok (.if_icmp .eq 9, 3) := by decide +kernel
theorem dX10_isLetter_54 : decode cX10_isLetter 54 = .ok (.iload_n 0, 1) := by decide +kernel
theorem dX10_isLetter_55 : decode cX10_isLetter 55 = .ok (.bipush 100, 2) := by decide +kernel
theorem dX10_isLetter_57 : decode cX10_isLetter 57 = .ok (.if_icmp .ne 7, 3) := by decide +kernel
theorem dX10_isLetter_60 : decode cX10_isLetter 60 = .ok (.iconst 1, 1) := by decide +kernel
theorem dX10_isLetter_61 : decode cX10_isLetter 61 = .ok (.goto 4, 3) := by decide +kernel
theorem dX10_isLetter_64 : decode cX10_isLetter 64 = .ok (.iconst 0, 1) := by decide +kernel
theorem dX10_isLetter_65 : decode cX10_isLetter 65 = .ok (.ireturn, 1) := by decide +kernel
theorem dX10_sumOf_0 : decode cX10_sumOf 0 = .ok (.aload_n 0, 1) := by decide +kernel
theorem dX10_sumOf_1 : decode cX10_sumOf 1 = .ok (.invokevirtual 256, 3) := by decide +kernel
theorem dX10_sumOf_4 : decode cX10_sumOf 4 = .ok (.istore_n 1, 1) := by decide +kernel
theorem dX10_sumOf_5 : decode cX10_sumOf 5 = .ok (.aload_n 0, 1) := by decide +kernel
theorem dX10_sumOf_6 : decode cX10_sumOf 6 = .ok (.getfield 248, 3) := by decide +kernel
theorem dX10_sumOf_9 : decode cX10_sumOf 9 = .ok (.ifCond .eq 67, 3) := by decide +kernel
theorem dX10_sumOf_12 : decode cX10_sumOf 12 = .ok (.aload_n 0, 1) := by decide +kernel
theorem dX10_sumOf_13 : decode cX10_sumOf 13 = .ok (.invokevirtual 252, 3) := by decide +kernel
theorem dX10_sumOf_16 : decode cX10_sumOf 16 = .ok (.bipush 43, 2) := by decide +kernel
theorem dX10_sumOf_18 : decode cX10_sumOf 18 = .ok (.if_icmp .eq 12, 3) := by decide +kernel
theorem dX10_sumOf_21 : decode cX10_sumOf 21 = .ok (.aload_n 0, 1) := by decide +kernel
theorem dX10_sumOf_22 : decode cX10_sumOf 22 = .ok (.invokevirtual 252, 3) := by decide +kernel
theorem dX10_sumOf_25 : decode cX10_sumOf 25 = .ok (.bipush 45, 2) := by decide +kernel
theorem dX10_sumOf_27 : decode cX10_sumOf 27 = .ok (.if_icmp .ne 49, 3) := by decide +kernel
theorem dX10_sumOf_30 : decode cX10_sumOf 30 = .ok (.aload_n 0, 1) := by decide +kernel
theorem dX10_sumOf_31 : decode cX10_sumOf 31 = .ok (.invokevirtual 252, 3) := by decide +kernel
theorem dX10_sumOf_34 : decode cX10_sumOf 34 = .ok (.istore_n 2, 1) := by decide +kernel
theorem dX10_sumOf_35 : decode cX10_sumOf 35 = .ok (.aload_n 0, 1) := by decide +kernel
theorem dX10_sumOf_36 : decode cX10_sumOf 36 = .ok (.dup, 1) := by decide +kernel
theorem dX10_sumOf_37 : decode cX10_sumOf 37 = .ok (.getfield 235, 3) := by decide +kernel
theorem dX10_sumOf_40 : decode cX10_sumOf 40 = .ok (.iconst 1, 1) := by decide +kernel
theorem dX10_sumOf_41 : decode cX10_sumOf 41 = .ok (.iadd, 1) := by decide +kernel
theorem dX10_sumOf_42 : decode cX10_sumOf 42 = .ok (.putfield 235, 3) := by decide +kernel
theorem dX10_sumOf_45 : decode cX10_sumOf 45 = .ok (.aload_n 0, 1) := by decide +kernel
theorem dX10_sumOf_46 : decode cX10_sumOf 46 = .ok (.invokevirtual 256, 3) := by decide +kernel
theorem dX10_sumOf_49 : decode cX10_sumOf 49 = .ok (.istore_n 3, 1) := by decide +kernel
theorem dX10_sumOf_50 : decode cX10_sumOf 50 = .ok (.iload_n 2, 1) := by decide +kernel
theorem dX10_sumOf_51 : decode cX10_sumOf 51 = .ok (.bipush 43, 2) := by decide +kernel
theorem dX10_sumOf_53 : decode cX10_sumOf 53 = .ok (.if_icmp .ne 11, 3) := by decide +kernel
theorem dX10_sumOf_56 : decode cX10_sumOf 56 = .ok (.iload_n 1, 1) := by decide +kernel
theorem dX10_sumOf_57 : decode cX10_sumOf 57 = .ok (.i2l, 1) := by decide +kernel
theorem dX10_sumOf_58 : decode cX10_sumOf 58 = .ok (.iload_n 3, 1) := by decide +kernel
theorem dX10_sumOf_59 : decode cX10_sumOf 59 = .ok (.i2l, 1) := by decide +kernel
theorem dX10_sumOf_60 : decode cX10_sumOf 60 = .ok (.ladd, 1) := by decide +kernel
theorem dX10_sumOf_61 : decode cX10_sumOf 61 = .ok (.goto 8, 3) := by decide +kernel
theorem dX10_sumOf_64 : decode cX10_sumOf 64 = .ok (.iload_n 1, 1) := by decide +kernel
theorem dX10_sumOf_65 : decode cX10_sumOf 65 = .ok (.i2l, 1) := by decide +kernel
theorem dX10_sumOf_66 : decode cX10_sumOf 66 = .ok (.iload_n 3, 1) := by decide +kernel
theorem dX10_sumOf_67 : decode cX10_sumOf 67 = .ok (.i2l, 1) := by decide +kernel
theorem dX10_sumOf_68 : decode cX10_sumOf 68 = .ok (.lsub, 1) := by decide +kernel
theorem dX10_sumOf_69 : decode cX10_sumOf 69 = .ok (.invokestatic 259, 3) := by decide +kernel
theorem dX10_sumOf_72 : decode cX10_sumOf 72 = .ok (.istore_n 1, 1) := by decide +kernel
theorem dX10_sumOf_73 : decode cX10_sumOf 73 = .ok (.goto (-68), 3) := by decide +kernel
theorem dX10_sumOf_76 : decode cX10_sumOf 76 = .ok (.iload_n 1, 1) := by decide +kernel
theorem dX10_sumOf_77 : decode cX10_sumOf 77 = .ok (.ireturn, 1) := by decide +kernel
theorem dX10_term_0 : decode cX10_term 0 = .ok (.aload_n 0, 1) := by decide +kernel
theorem dX10_term_1 : decode cX10_term 1 = .ok (.invokevirtual 263, 3) := by decide +kernel
theorem dX10_term_4 : decode cX10_term 4 = .ok (.istore_n 1, 1) := by decide +kernel
theorem dX10_term_5 : decode cX10_term 5 = .ok (.aload_n 0, 1) := by decide +kernel
theorem dX10_term_6 : decode cX10_term 6 = .ok (.getfield 248, 3) := by decide +kernel
theorem dX10_term_9 : decode cX10_term 9 = .ok (.ifCond .eq 78, 3) := by decide +kernel
theorem dX10_term_12 : decode cX10_term 12 = .ok (.aload_n 0, 1) := by decide +kernel
theorem dX10_term_13 : decode cX10_term 13 = .ok (.invokevirtual 252, 3) := by decide +kernel
theorem dX10_term_16 : decode cX10_term 16 = .ok (.bipush 42, 2) := by decide +kernel
theorem dX10_term_18 : decode cX10_term 18 = .ok (.if_icmp .eq 12, 3) := by decide +kernel
theorem dX10_term_21 : decode cX10_term 21 = .ok (.aload_n 0, 1) := by decide +kernel
theorem dX10_term_22 : decode cX10_term 22 = .ok (.invokevirtual 252, 3) := by decide +kernel
theorem dX10_term_25 : decode cX10_term 25 = .ok (.bipush 47, 2) := by decide +kernel
theorem dX10_term_27 : decode cX10_term 27 = .ok (.if_icmp .ne 60, 3) := by decide +kernel
theorem dX10_term_30 : decode cX10_term 30 = .ok (.aload_n 0, 1) := by decide +kernel
theorem dX10_term_31 : decode cX10_term 31 = .ok (.invokevirtual 252, 3) := by decide +kernel
theorem dX10_term_34 : decode cX10_term 34 = .ok (.istore_n 2, 1) := by decide +kernel
theorem dX10_term_35 : decode cX10_term 35 = .ok (.aload_n 0, 1) := by decide +kernel
theorem dX10_term_36 : decode cX10_term 36 = .ok (.dup, 1) := by decide +kernel
theorem dX10_term_37 : decode cX10_term 37 = .ok (.getfield 235, 3) := by decide +kernel
theorem dX10_term_40 : decode cX10_term 40 = .ok (.iconst 1, 1) := by decide +kernel
theorem dX10_term_41 : decode cX10_term 41 = .ok (.iadd, 1) := by decide +kernel
theorem dX10_term_42 : decode cX10_term 42 = .ok (.putfield 235, 3) := by decide +kernel
theorem dX10_term_45 : decode cX10_term 45 = .ok (.aload_n 0, 1) := by decide +kernel
theorem dX10_term_46 : decode cX10_term 46 = .ok (.invokevirtual 263, 3) := by decide +kernel
theorem dX10_term_49 : decode cX10_term 49 = .ok (.istore_n 3, 1) := by decide +kernel
theorem dX10_term_50 : decode cX10_term 50 = .ok (.iload_n 2, 1) := by decide +kernel
theorem dX10_term_51 : decode cX10_term 51 = .ok (.bipush 42, 2) := by decide +kernel
theorem dX10_term_53 : decode cX10_term 53 = .ok (.if_icmp .ne 14, 3) := by decide +kernel
theorem dX10_term_56 : decode cX10_term 56 = .ok (.iload_n 1, 1) := by decide +kernel
theorem dX10_term_57 : decode cX10_term 57 = .ok (.i2l, 1) := by decide +kernel
theorem dX10_term_58 : decode cX10_term 58 = .ok (.iload_n 3, 1) := by decide +kernel
theorem dX10_term_59 : decode cX10_term 59 = .ok (.i2l, 1) := by decide +kernel
theorem dX10_term_60 : decode cX10_term 60 = .ok (.lmul, 1) := by decide +kernel
theorem dX10_term_61 : decode cX10_term 61 = .ok (.invokestatic 259, 3) := by decide +kernel
theorem dX10_term_64 : decode cX10_term 64 = .ok (.goto 19, 3) := by decide +kernel
theorem dX10_term_67 : decode cX10_term 67 = .ok (.iload_n 3, 1) := by decide +kernel
theorem dX10_term_68 : decode cX10_term 68 = .ok (.ifCond .ne 7, 3) := by decide +kernel
theorem dX10_term_71 : decode cX10_term 71 = .ok (.iconst 0, 1) := by decide +kernel
theorem dX10_term_72 : decode cX10_term 72 = .ok (.goto 11, 3) := by decide +kernel
theorem dX10_term_75 : decode cX10_term 75 = .ok (.iload_n 1, 1) := by decide +kernel
theorem dX10_term_76 : decode cX10_term 76 = .ok (.i2l, 1) := by decide +kernel
theorem dX10_term_77 : decode cX10_term 77 = .ok (.iload_n 3, 1) := by decide +kernel
theorem dX10_term_78 : decode cX10_term 78 = .ok (.i2l, 1) := by decide +kernel
theorem dX10_term_79 : decode cX10_term 79 = .ok (.ldiv, 1) := by decide +kernel
theorem dX10_term_80 : decode cX10_term 80 = .ok (.invokestatic 259, 3) := by decide +kernel
theorem dX10_term_83 : decode cX10_term 83 = .ok (.istore_n 1, 1) := by decide +kernel
theorem dX10_term_84 : decode cX10_term 84 = .ok (.goto (-79), 3) := by decide +kernel
theorem dX10_term_87 : decode cX10_term 87 = .ok (.iload_n 1, 1) := by decide +kernel
theorem dX10_term_88 : decode cX10_term 88 = .ok (.ireturn, 1) := by decide +kernel
theorem dX10_breaks_0 : decode cX10_breaks 0 = .ok (.aload_n 0, 1) := by decide +kernel
theorem dX10_breaks_1 : decode cX10_breaks 1 = .ok (.iconst 0, 1) := by decide +kernel
theorem dX10_breaks_2 : decode cX10_breaks 2 = .ok (.putfield 248, 3) := by decide +kernel
theorem dX10_breaks_5 : decode cX10_breaks 5 = .ok (.iconst 0, 1) := by decide +kernel
theorem dX10_breaks_6 : decode cX10_breaks 6 = .ok (.ireturn, 1) := by decide +kernel
theorem dX10_unit_0 : decode cX10_unit 0 = .ok (.aload_n 0, 1) := by decide +kernel
theorem dX10_unit_1 : decode cX10_unit 1 = .ok (.getfield 248, 3) := by decide +kernel
theorem dX10_unit_4 : decode cX10_unit 4 = .ok (.ifCond .ne 5, 3) := by decide +kernel
theorem dX10_unit_7 : decode cX10_unit 7 = .ok (.iconst 0, 1) := by decide +kernel
theorem dX10_unit_8 : decode cX10_unit 8 = .ok (.ireturn, 1) := by decide +kernel
theorem dX10_unit_9 : decode cX10_unit 9 = .ok (.aload_n 0, 1) := by decide +kernel
theorem dX10_unit_10 : decode cX10_unit 10 = .ok (.invokevirtual 252, 3) := by decide +kernel
theorem dX10_unit_13 : decode cX10_unit 13 = .ok (.istore_n 1, 1) := by decide +kernel
theorem dX10_unit_14 : decode cX10_unit 14 = .ok (.iload_n 1, 1) := by decide +kernel
theorem dX10_unit_15 : decode cX10_unit 15 = .ok (.invokestatic 266, 3) := by decide +kernel
theorem dX10_unit_18 : decode cX10_unit 18 = .ok (.ifCond .eq 20, 3) := by decide +kernel
theorem dX10_unit_21 : decode cX10_unit 21 = .ok (.aload_n 0, 1) := by decide +kernel
theorem dX10_unit_22 : decode cX10_unit 22 = .ok (.dup, 1) := by decide +kernel
theorem dX10_unit_23 : decode cX10_unit 23 = .ok (.getfield 235, 3) := by decide +kernel
theorem dX10_unit_26 : decode cX10_unit 26 = .ok (.iconst 1, 1) := by decide +kernel
theorem dX10_unit_27 : decode cX10_unit 27 = .ok (.iadd, 1) := by decide +kernel
theorem dX10_unit_28 : decode cX10_unit 28 = .ok (.putfield 235, 3) := by decide +kernel
theorem dX10_unit_31 : decode cX10_unit 31 = .ok (.aload_n 0, 1) := by decide +kernel
theorem dX10_unit_32 : decode cX10_unit 32 = .ok (.getfield 158, 3) := by decide +kernel
theorem dX10_unit_35 : decode cX10_unit 35 = .ok (.iload_n 1, 1) := by decide +kernel
theorem dX10_unit_36 : decode cX10_unit 36 = .ok (.iaload, 1) := by decide +kernel
theorem dX10_unit_37 : decode cX10_unit 37 = .ok (.ireturn, 1) := by decide +kernel
theorem dX10_unit_38 : decode cX10_unit 38 = .ok (.iload_n 1, 1) := by decide +kernel
theorem dX10_unit_39 : decode cX10_unit 39 = .ok (.bipush 40, 2) := by decide +kernel
theorem dX10_unit_41 : decode cX10_unit 41 = .ok (.if_icmp .ne 165, 3) := by decide +kernel
theorem dX10_unit_44 : decode cX10_unit 44 = .ok (.aload_n 0, 1) := by decide +kernel
theorem dX10_unit_45 : decode cX10_unit 45 = .ok (.getfield 269, 3) := by decide +kernel
theorem dX10_unit_48 : decode cX10_unit 48 = .ok (.iconst 5, 1) := by decide +kernel
theorem dX10_unit_49 : decode cX10_unit 49 = .ok (.if_icmp .ne 8, 3) := by decide +kernel
theorem dX10_unit_52 : decode cX10_unit 52 = .ok (.aload_n 0, 1) := by decide +kernel
theorem dX10_unit_53 : decode cX10_unit 53 = .ok (.invokevirtual 272, 3) := by decide +kernel
theorem dX10_unit_56 : decode cX10_unit 56 = .ok (.ireturn, 1) := by decide +kernel
theorem dX10_unit_57 : decode cX10_unit 57 = .ok (.aload_n 0, 1) := by decide +kernel
theorem dX10_unit_58 : decode cX10_unit 58 = .ok (.dup, 1) := by decide +kernel
theorem dX10_unit_59 : decode cX10_unit 59 = .ok (.getfield 235, 3) := by decide +kernel
theorem dX10_unit_62 : decode cX10_unit 62 = .ok (.iconst 1, 1) := by decide +kernel
theorem dX10_unit_63 : decode cX10_unit 63 = .ok (.iadd, 1) := by decide +kernel
theorem dX10_unit_64 : decode cX10_unit 64 = .ok (.putfield 235, 3) := by decide +kernel
theorem dX10_unit_67 : decode cX10_unit 67 = .ok (.aload_n 0, 1) := by decide +kernel
theorem dX10_unit_68 : decode cX10_unit 68 = .ok (.dup, 1) := by decide +kernel
theorem dX10_unit_69 : decode cX10_unit 69 = .ok (.getfield 269, 3) := by decide +kernel
theorem dX10_unit_72 : decode cX10_unit 72 = .ok (.iconst 1, 1) := by decide +kernel
theorem dX10_unit_73 : decode cX10_unit 73 = .ok (.iadd, 1) := by decide +kernel
theorem dX10_unit_74 : decode cX10_unit 74 = .ok (.putfield 269, 3) := by decide +kernel
theorem dX10_unit_77 : decode cX10_unit 77 = .ok (.aload_n 0, 1) := by decide +kernel
theorem dX10_unit_78 : decode cX10_unit 78 = .ok (.invokevirtual 275, 3) := by decide +kernel
theorem dX10_unit_81 : decode cX10_unit 81 = .ok (.istore_n 2, 1) := by decide +kernel
theorem dX10_unit_82 : decode cX10_unit 82 = .ok (.aload_n 0, 1) := by decide +kernel
theorem dX10_unit_83 : decode cX10_unit 83 = .ok (.invokevirtual 252, 3) := by decide +kernel
theorem dX10_unit_86 : decode cX10_unit 86 = .ok (.istore_n 3, 1) := by decide +kernel
theorem dX10_unit_87 : decode cX10_unit 87 = .ok (.aload_n 0, 1) := by decide +kernel
theorem dX10_unit_88 : decode cX10_unit 88 = .ok (.getfield 248, 3) := by decide +kernel
theorem dX10_unit_91 : decode cX10_unit 91 = .ok (.ifCond .eq 89, 3) := by decide +kernel
theorem dX10_unit_94 : decode cX10_unit 94 = .ok (.iload_n 3, 1) := by decide +kernel
theorem dX10_unit_95 : decode cX10_unit 95 = .ok (.bipush 60, 2) := by decide +kernel
theorem dX10_unit_97 : decode cX10_unit 97 = .ok (.if_icmp .eq 15, 3) := by decide +kernel
theorem dX10_unit_100 : decode cX10_unit 100 = .ok (.iload_n 3, 1) := by decide +kernel
theorem dX10_unit_101 : decode cX10_unit 101 = .ok (.bipush 61, 2) := by decide +kernel
theorem dX10_unit_103 : decode cX10_unit 103 = .ok (.if_icmp .eq 9, 3) := by decide +kernel
theorem dX10_unit_106 : decode cX10_unit 106 = .ok (.iload_n 3, 1) := by decide +kernel
theorem dX10_unit_107 : decode cX10_unit 107 = .ok (.bipush 62, 2) := by decide +kernel
theorem dX10_unit_109 : decode cX10_unit 109 = .ok (.if_icmp .ne 71, 3) := by decide +kernel
theorem dX10_unit_112 : decode cX10_unit 112 = .ok (.aload_n 0, 1) := by decide +kernel
theorem dX10_unit_113 : decode cX10_unit 113 = .ok (.dup, 1) := by decide +kernel
theorem dX10_unit_114 : decode cX10_unit 114 = .ok (.getfield 235, 3) := by decide +kernel
theorem dX10_unit_117 : decode cX10_unit 117 = .ok (.iconst 1, 1) := by decide +kernel
