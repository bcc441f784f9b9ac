theorem dX10_goesOn_112 : decode cX10_goesOn 112 = .ok (.aload_n 0, 1) := by decide +kernel
theorem dX10_goesOn_113 : decode cX10_goesOn 113 = .ok (.getfield 41, 3) := by decide +kernel
theorem dX10_goesOn_116 : decode cX10_goesOn 116 = .ok (.iload_n 2, 1) := by decide +kernel
theorem dX10_goesOn_117 : decode cX10_goesOn 117 = .ok (.iaload, 1) := by decide +kernel
theorem dX10_goesOn_118 : decode cX10_goesOn 118 = .ok (.iaload, 1) := by decide +kernel
theorem dX10_goesOn_119 : decode cX10_goesOn 119 = .ok (.aload_n 0, 1) := by decide +kernel
theorem dX10_goesOn_120 : decode cX10_goesOn 120 = .ok (.getfield 25, 3) := by decide +kernel
theorem dX10_goesOn_123 : decode cX10_goesOn 123 = .ok (.aload_n 0, 1) := by decide +kernel
theorem dX10_goesOn_124 : decode cX10_goesOn 124 = .ok (.getfield 41, 3) := by decide +kernel
theorem dX10_goesOn_127 : decode cX10_goesOn 127 = .ok (.iload_n 2, 1) := by decide +kernel
theorem dX10_goesOn_128 : decode cX10_goesOn 128 = .ok (.iaload, 1) := by decide +kernel
theorem dX10_goesOn_129 : decode cX10_goesOn 129 = .ok (.iaload, 1) := by decide +kernel
theorem dX10_goesOn_130 : decode cX10_goesOn 130 = .ok (.if_icmp .ge 28, 3) := by decide +kernel
theorem dX10_goesOn_133 : decode cX10_goesOn 133 = .ok (.aload_n 0, 1) := by decide +kernel
theorem dX10_goesOn_134 : decode cX10_goesOn 134 = .ok (.getfield 31, 3) := by decide +kernel
theorem dX10_goesOn_137 : decode cX10_goesOn 137 = .ok (.aload_n 0, 1) := by decide +kernel
theorem dX10_goesOn_138 : decode cX10_goesOn 138 = .ok (.getfield 41, 3) := by decide +kernel
theorem dX10_goesOn_141 : decode cX10_goesOn 141 = .ok (.iload_n 3, 1) := by decide +kernel
theorem dX10_goesOn_142 : decode cX10_goesOn 142 = .ok (.iaload, 1) := by decide +kernel
theorem dX10_goesOn_143 : decode cX10_goesOn 143 = .ok (.iaload, 1) := by decide +kernel
theorem dX10_goesOn_144 : decode cX10_goesOn 144 = .ok (.aload_n 0, 1) := by decide +kernel
theorem dX10_goesOn_145 : decode cX10_goesOn 145 = .ok (.getfield 25, 3) := by decide +kernel
theorem dX10_goesOn_148 : decode cX10_goesOn 148 = .ok (.aload_n 0, 1) := by decide +kernel
theorem dX10_goesOn_149 : decode cX10_goesOn 149 = .ok (.getfield 41, 3) := by decide +kernel
theorem dX10_goesOn_152 : decode cX10_goesOn 152 = .ok (.iload_n 3, 1) := by decide +kernel
theorem dX10_goesOn_153 : decode cX10_goesOn 153 = .ok (.iaload, 1) := by decide +kernel
theorem dX10_goesOn_154 : decode cX10_goesOn 154 = .ok (.iaload, 1) := by decide +kernel
theorem dX10_goesOn_155 : decode cX10_goesOn 155 = .ok (.if_icmp .lt 4, 3) := by decide +kernel
theorem dX10_goesOn_158 : decode cX10_goesOn 158 = .ok (.return_, 1) := by decide +kernel
theorem dX10_goesOn_159 : decode cX10_goesOn 159 = .ok (.aload_n 0, 1) := by decide +kernel
theorem dX10_goesOn_160 : decode cX10_goesOn 160 = .ok (.getfield 31, 3) := by decide +kernel
theorem dX10_goesOn_163 : decode cX10_goesOn 163 = .ok (.aload_n 0, 1) := by decide +kernel
theorem dX10_goesOn_164 : decode cX10_goesOn 164 = .ok (.getfield 41, 3) := by decide +kernel
theorem dX10_goesOn_167 : decode cX10_goesOn 167 = .ok (.iload_n 2, 1) := by decide +kernel
theorem dX10_goesOn_168 : decode cX10_goesOn 168 = .ok (.iaload, 1) := by decide +kernel
theorem dX10_goesOn_169 : decode cX10_goesOn 169 = .ok (.dup2, 1) := by decide +kernel
theorem dX10_goesOn_170 : decode cX10_goesOn 170 = .ok (.iaload, 1) := by decide +kernel
theorem dX10_goesOn_171 : decode cX10_goesOn 171 = .ok (.iconst 1, 1) := by decide +kernel
theorem dX10_goesOn_172 : decode cX10_goesOn 172 = .ok (.iadd, 1) := by decide +kernel
theorem dX10_goesOn_173 : decode cX10_goesOn 173 = .ok (.iastore, 1) := by decide +kernel
theorem dX10_goesOn_174 : decode cX10_goesOn 174 = .ok (.aload_n 0, 1) := by decide +kernel
theorem dX10_goesOn_175 : decode cX10_goesOn 175 = .ok (.getfield 31, 3) := by decide +kernel
theorem dX10_goesOn_178 : decode cX10_goesOn 178 = .ok (.aload_n 0, 1) := by decide +kernel
theorem dX10_goesOn_179 : decode cX10_goesOn 179 = .ok (.getfield 41, 3) := by decide +kernel
theorem dX10_goesOn_182 : decode cX10_goesOn 182 = .ok (.iload_n 3, 1) := by decide +kernel
theorem dX10_goesOn_183 : decode cX10_goesOn 183 = .ok (.iaload, 1) := by decide +kernel
theorem dX10_goesOn_184 : decode cX10_goesOn 184 = .ok (.dup2, 1) := by decide +kernel
theorem dX10_goesOn_185 : decode cX10_goesOn 185 = .ok (.iaload, 1) := by decide +kernel
theorem dX10_goesOn_186 : decode cX10_goesOn 186 = .ok (.iconst 1, 1) := by decide +kernel
theorem dX10_goesOn_187 : decode cX10_goesOn 187 = .ok (.iadd, 1) := by decide +kernel
theorem dX10_goesOn_188 : decode cX10_goesOn 188 = .ok (.iastore, 1) := by decide +kernel
theorem dX10_goesOn_189 : decode cX10_goesOn 189 = .ok (.aload_n 0, 1) := by decide +kernel
theorem dX10_goesOn_190 : decode cX10_goesOn 190 = .ok (.getfield 108, 3) := by decide +kernel
theorem dX10_goesOn_193 : decode cX10_goesOn 193 = .ok (.iload_n 1, 1) := by decide +kernel
theorem dX10_goesOn_194 : decode cX10_goesOn 194 = .ok (.dup2, 1) := by decide +kernel
theorem dX10_goesOn_195 : decode cX10_goesOn 195 = .ok (.iaload, 1) := by decide +kernel
theorem dX10_goesOn_196 : decode cX10_goesOn 196 = .ok (.iconst 1, 1) := by decide +kernel
theorem dX10_goesOn_197 : decode cX10_goesOn 197 = .ok (.iadd, 1) := by decide +kernel
theorem dX10_goesOn_198 : decode cX10_goesOn 198 = .ok (.iastore, 1) := by decide +kernel
theorem dX10_goesOn_199 : decode cX10_goesOn 199 = .ok (.aload_n 0, 1) := by decide +kernel
theorem dX10_goesOn_200 : decode cX10_goesOn 200 = .ok (.getfield 123, 3) := by decide +kernel
theorem dX10_goesOn_203 : decode cX10_goesOn 203 = .ok (.iload_n 1, 1) := by decide +kernel
theorem dX10_goesOn_204 : decode cX10_goesOn 204 = .ok (.aload_n 0, 1) := by decide +kernel
theorem dX10_goesOn_205 : decode cX10_goesOn 205 = .ok (.getfield 177, 3) := by decide +kernel
theorem dX10_goesOn_208 : decode cX10_goesOn 208 = .ok (.iastore, 1) := by decide +kernel
theorem dX10_goesOn_209 : decode cX10_goesOn 209 = .ok (.aload_n 0, 1) := by decide +kernel
theorem dX10_goesOn_210 : decode cX10_goesOn 210 = .ok (.getfield 108, 3) := by decide +kernel
theorem dX10_goesOn_213 : decode cX10_goesOn 213 = .ok (.iload_n 1, 1) := by decide +kernel
theorem dX10_goesOn_214 : decode cX10_goesOn 214 = .ok (.iaload, 1) := by decide +kernel
theorem dX10_goesOn_215 : decode cX10_goesOn 215 = .ok (.tableswitch 294 3 7 #[33, 294, 60, 126, 186], 33) := by decide +kernel
theorem dX10_goesOn_248 : decode cX10_goesOn 248 = .ok (.aload_n 0, 1) := by decide +kernel
theorem dX10_goesOn_249 : decode cX10_goesOn 249 = .ok (.getfield 47, 3) := by decide +kernel
theorem dX10_goesOn_252 : decode cX10_goesOn 252 = .ok (.iload_n 2, 1) := by decide +kernel
theorem dX10_goesOn_253 : decode cX10_goesOn 253 = .ok (.iaload, 1) := by decide +kernel
theorem dX10_goesOn_254 : decode cX10_goesOn 254 = .ok (.ifCond .lt 255, 3) := by decide +kernel
theorem dX10_goesOn_257 : decode cX10_goesOn 257 = .ok (.aload_n 0, 1) := by decide +kernel
theorem dX10_goesOn_258 : decode cX10_goesOn 258 = .ok (.getfield 130, 3) := by decide +kernel
theorem dX10_goesOn_261 : decode cX10_goesOn 261 = .ok (.iload_n 1, 1) := by decide +kernel
theorem dX10_goesOn_262 : decode cX10_goesOn 262 = .ok (.baload, 1) := by decide +kernel
theorem dX10_goesOn_263 : decode cX10_goesOn 263 = .ok (.ifCond .ne 246, 3) := by decide +kernel
theorem dX10_goesOn_266 : decode cX10_goesOn 266 = .ok (.aload_n 0, 1) := by decide +kernel
theorem dX10_goesOn_267 : decode cX10_goesOn 267 = .ok (.iload_n 1, 1) := by decide +kernel
theorem dX10_goesOn_268 : decode cX10_goesOn 268 = .ok (.iconst 1, 1) := by decide +kernel
theorem dX10_goesOn_269 : decode cX10_goesOn 269 = .ok (.invokevirtual 300, 3) := by decide +kernel
theorem dX10_goesOn_272 : decode cX10_goesOn 272 = .ok (.goto 237, 3) := by decide +kernel
theorem dX10_goesOn_275 : decode cX10_goesOn 275 = .ok (.aload_n 0, 1) := by decide +kernel
theorem dX10_goesOn_276 : decode cX10_goesOn 276 = .ok (.getfield 133, 3) := by decide +kernel
theorem dX10_goesOn_279 : decode cX10_goesOn 279 = .ok (.iload_n 1, 1) := by decide +kernel
theorem dX10_goesOn_280 : decode cX10_goesOn 280 = .ok (.baload, 1) := by decide +kernel
theorem dX10_goesOn_281 : decode cX10_goesOn 281 = .ok (.ifCond .ne 228, 3) := by decide +kernel
theorem dX10_goesOn_284 : decode cX10_goesOn 284 = .ok (.aload_n 0, 1) := by decide +kernel
theorem dX10_goesOn_285 : decode cX10_goesOn 285 = .ok (.getfield 65, 3) := by decide +kernel
theorem dX10_goesOn_288 : decode cX10_goesOn 288 = .ok (.iload_n 2, 1) := by decide +kernel
theorem dX10_goesOn_289 : decode cX10_goesOn 289 = .ok (.laload, 1) := by decide +kernel
theorem dX10_goesOn_290 : decode cX10_goesOn 290 = .ok (.lconst 0, 1) := by decide +kernel
theorem dX10_goesOn_291 : decode cX10_goesOn 291 = .ok (.lcmp, 1) := by decide +kernel
theorem dX10_goesOn_292 : decode cX10_goesOn 292 = .ok (.ifCond .lt 6, 3) := by decide +kernel
theorem dX10_goesOn_295 : decode cX10_goesOn 295 = .ok (.goto 214, 3) := by decide +kernel
theorem dX10_goesOn_298 : decode cX10_goesOn 298 = .ok (.aload_n 0, 1) := by decide +kernel
theorem dX10_goesOn_299 : decode cX10_goesOn 299 = .ok (.iload_n 2, 1) := by decide +kernel
theorem dX10_goesOn_300 : decode cX10_goesOn 300 = .ok (.aload_n 0, 1) := by decide +kernel
theorem dX10_goesOn_301 : decode cX10_goesOn 301 = .ok (.getfield 41, 3) := by decide +kernel
theorem dX10_goesOn_304 : decode cX10_goesOn 304 = .ok (.iload_n 3, 1) := by decide +kernel
theorem dX10_goesOn_305 : decode cX10_goesOn 305 = .ok (.iaload, 1) := by decide +kernel
theorem dX10_goesOn_306 : decode cX10_goesOn 306 = .ok (.aload_n 0, 1) := by decide +kernel
theorem dX10_goesOn_307 : decode cX10_goesOn 307 = .ok (.getfield 177, 3) := by decide +kernel
theorem dX10_goesOn_310 : decode cX10_goesOn 310 = .ok (.aload_n 0, 1) := by decide +kernel
theorem dX10_goesOn_311 : decode cX10_goesOn 311 = .ok (.getfield 120, 3) := by decide +kernel
theorem dX10_goesOn_314 : decode cX10_goesOn 314 = .ok (.iload_n 1, 1) := by decide +kernel
theorem dX10_goesOn_315 : decode cX10_goesOn 315 = .ok (.iaload, 1) := by decide +kernel
theorem dX10_goesOn_316 : decode cX10_goesOn 316 = .ok (.isub, 1) := by decide +kernel
theorem dX10_goesOn_317 : decode cX10_goesOn 317 = .ok (.invokevirtual 293, 3) := by decide +kernel
theorem dX10_goesOn_320 : decode cX10_goesOn 320 = .ok (.aload_n 0, 1) := by decide +kernel
theorem dX10_goesOn_321 : decode cX10_goesOn 321 = .ok (.iconst 2, 1) := by decide +kernel
theorem dX10_goesOn_322 : decode cX10_goesOn 322 = .ok (.aload_n 0, 1) := by decide +kernel
theorem dX10_goesOn_323 : decode cX10_goesOn 323 = .ok (.getfield 177, 3) := by decide +kernel
theorem dX10_goesOn_326 : decode cX10_goesOn 326 = .ok (.invokevirtual 223, 3) := by decide +kernel
theorem dX10_goesOn_329 : decode cX10_goesOn 329 = .ok (.ifCond .le 180, 3) := by decide +kernel
theorem dX10_goesOn_332 : decode cX10_goesOn 332 = .ok (.aload_n 0, 1) := by decide +kernel
theorem dX10_goesOn_333 : decode cX10_goesOn 333 = .ok (.iload_n 1, 1) := by decide +kernel
theorem dX10_goesOn_334 : decode cX10_goesOn 334 = .ok (.iconst 2, 1) := by decide +kernel
theorem dX10_goesOn_335 : decode cX10_goesOn 335 = .ok (.invokevirtual 300, 3) := by decide +kernel
theorem dX10_goesOn_338 : decode cX10_goesOn 338 = .ok (.goto 171, 3) := by decide +kernel
theorem dX10_goesOn_341 : decode cX10_goesOn 341 = .ok (.iconst 0, 1) := by decide +kernel
theorem dX10_goesOn_342 : decode cX10_goesOn 342 = .ok (.istore 5, 2) := by decide +kernel
theorem dX10_goesOn_344 : decode cX10_goesOn 344 = .ok (.iload 5, 2) := by decide +kernel
theorem dX10_goesOn_346 : decode cX10_goesOn 346 = .ok (.aload_n 0, 1) := by decide +kernel
theorem dX10_goesOn_347 : decode cX10_goesOn 347 = .ok (.getfield 287, 3) := by decide +kernel
theorem dX10_goesOn_350 : decode cX10_goesOn 350 = .ok (.if_icmp .ge 48, 3) := by decide +kernel
theorem dX10_goesOn_353 : decode cX10_goesOn 353 = .ok (.aload_n 0, 1) := by decide +kernel
theorem dX10_goesOn_354 : decode cX10_goesOn 354 = .ok (.getfield 75, 3) := by decide +kernel
theorem dX10_goesOn_357 : decode cX10_goesOn 357 = .ok (.iload 5, 2) := by decide +kernel
theorem dX10_goesOn_359 : decode cX10_goesOn 359 = .ok (.iaload, 1) := by decide +kernel
theorem dX10_goesOn_360 : decode cX10_goesOn 360 = .ok (.iload_n 2, 1) := by decide +kernel
theorem dX10_goesOn_361 : decode cX10_goesOn 361 = .ok (.if_icmp .ne 31, 3) := by decide +kernel
theorem dX10_goesOn_364 : decode cX10_goesOn 364 = .ok (.aload_n 0, 1) := by decide +kernel
theorem dX10_goesOn_365 : decode cX10_goesOn 365 = .ok (.getfield 133, 3) := by decide +kernel
theorem dX10_goesOn_368 : decode cX10_goesOn 368 = .ok (.iload_n 1, 1) := by decide +kernel
theorem dX10_goesOn_369 : decode cX10_goesOn 369 = .ok (.baload, 1) := by decide +kernel
theorem dX10_goesOn_370 : decode cX10_goesOn 370 = .ok (.ifCond .eq 14, 3) := by decide +kernel
theorem dX10_goesOn_373 : decode cX10_goesOn 373 = .ok (.aload_n 0, 1) := by decide +kernel
theorem dX10_goesOn_374 : decode cX10_goesOn 374 = .ok (.getfield 72, 3) := by decide +kernel
theorem dX10_goesOn_377 : decode cX10_goesOn 377 = .ok (.iload 5, 2) := by decide +kernel
theorem dX10_goesOn_379 : decode cX10_goesOn 379 = .ok (.iaload, 1) := by decide +kernel
theorem dX10_goesOn_380 : decode cX10_goesOn 380 = .ok (.iconst 1, 1) := by decide +kernel
theorem dX10_goesOn_381 : decode cX10_goesOn 381 = .ok (.if_icmp .ne 11, 3) := by decide +kernel
theorem dX10_goesOn_384 : decode cX10_goesOn 384 = .ok (.aload_n 0, 1) := by decide +kernel
theorem dX10_goesOn_385 : decode cX10_goesOn 385 = .ok (.getfield 75, 3) := by decide +kernel
theorem dX10_goesOn_388 : decode cX10_goesOn 388 = .ok (.iload 5, 2) := by decide +kernel
theorem dX10_goesOn_390 : decode cX10_goesOn 390 = .ok (.iload_n 3, 1) := by decide +kernel
theorem dX10_goesOn_391 : decode cX10_goesOn 391 = .ok (.iastore, 1) := by decide +kernel
theorem dX10_goesOn_392 : decode cX10_goesOn 392 = .ok (.iinc 5 1, 3) := by decide +kernel
theorem dX10_goesOn_395 : decode cX10_goesOn 395 = .ok (.goto (-51), 3) := by decide +kernel
theorem dX10_goesOn_398 : decode cX10_goesOn 398 = .ok (.goto 111, 3) := by decide +kernel
theorem dX10_goesOn_401 : decode cX10_goesOn 401 = .ok (.aload_n 0, 1) := by decide +kernel
theorem dX10_goesOn_402 : decode cX10_goesOn 402 = .ok (.getfield 126, 3) := by decide +kernel
theorem dX10_goesOn_405 : decode cX10_goesOn 405 = .ok (.iload_n 1, 1) := by decide +kernel
theorem dX10_goesOn_406 : decode cX10_goesOn 406 = .ok (.iconst 0, 1) := by decide +kernel
theorem dX10_goesOn_407 : decode cX10_goesOn 407 = .ok (.bastore, 1) := by decide +kernel
theorem dX10_goesOn_408 : decode cX10_goesOn 408 = .ok (.aload_n 0, 1) := by decide +kernel
theorem dX10_goesOn_409 : decode cX10_goesOn 409 = .ok (.getfield 133, 3) := by decide +kernel
theorem dX10_goesOn_412 : decode cX10_goesOn 412 = .ok (.iload_n 1, 1) := by decide +kernel
theorem dX10_goesOn_413 : decode cX10_goesOn 413 = .ok (.baload, 1) := by decide +kernel
theorem dX10_goesOn_414 : decode cX10_goesOn 414 = .ok (.ifCond .eq 6, 3) := by decide +kernel
theorem dX10_goesOn_417 : decode cX10_goesOn 417 = .ok (.goto 92, 3) := by decide +kernel
theorem dX10_goesOn_420 : decode cX10_goesOn 420 = .ok (.aload_n 0, 1) := by decide +kernel
theorem dX10_goesOn_421 : decode cX10_goesOn 421 = .ok (.getfield 34, 3) := by decide +kernel
theorem dX10_goesOn_424 : decode cX10_goesOn 424 = .ok (.aload_n 0, 1) := by decide +kernel
theorem dX10_goesOn_425 : decode cX10_goesOn 425 = .ok (.getfield 41, 3) := by decide +kernel
theorem dX10_goesOn_428 : decode cX10_goesOn 428 = .ok (.iload_n 2, 1) := by decide +kernel
theorem dX10_goesOn_429 : decode cX10_goesOn 429 = .ok (.iaload, 1) := by decide +kernel
theorem dX10_goesOn_430 : decode cX10_goesOn 430 = .ok (.dup2, 1) := by decide +kernel
theorem dX10_goesOn_431 : decode cX10_goesOn 431 = .ok (.laload, 1) := by decide +kernel
theorem dX10_goesOn_432 : decode cX10_goesOn 432 = .ok (.aload_n 0, 1) := by decide +kernel
theorem dX10_goesOn_433 : decode cX10_goesOn 433 = .ok (.getfield 65, 3) := by decide +kernel
theorem dX10_goesOn_436 : decode cX10_goesOn 436 = .ok (.iload_n 2, 1) := by decide +kernel
theorem dX10_goesOn_437 : decode cX10_goesOn 437 = .ok (.laload, 1) := by decide +kernel
theorem dX10_goesOn_438 : decode cX10_goesOn 438 = .ok (.lsub, 1) := by decide +kernel
theorem dX10_goesOn_439 : decode cX10_goesOn 439 = .ok (.lastore, 1) := by decide +kernel
theorem dX10_goesOn_440 : decode cX10_goesOn 440 = .ok (.aload_n 0, 1) := by decide +kernel
theorem dX10_goesOn_441 : decode cX10_goesOn 441 = .ok (.getfield 34, 3) := by decide +kernel
theorem dX10_goesOn_444 : decode cX10_goesOn 444 = .ok (.aload_n 0, 1) := by decide +kernel
theorem dX10_goesOn_445 : decode cX10_goesOn 445 = .ok (.getfield 41, 3) := by decide +kernel
theorem dX10_goesOn_448 : decode cX10_goesOn 448 = .ok (.iload_n 3, 1) := by decide +kernel
theorem dX10_goesOn_449 : decode cX10_goesOn 449 = .ok (.iaload, 1) := by decide +kernel
theorem dX10_goesOn_450 : decode cX10_goesOn 450 = .ok (.dup2, 1) := by decide +kernel
theorem dX10_goesOn_451 : decode cX10_goesOn 451 = .ok (.laload, 1) := by decide +kernel
theorem dX10_goesOn_452 : decode cX10_goesOn 452 = .ok (.aload_n 0, 1) := by decide +kernel
theorem dX10_goesOn_453 : decode cX10_goesOn 453 = .ok (.getfield 65, 3) := by decide +kernel
theorem dX10_goesOn_456 : decode cX10_goesOn 456 = .ok (.iload_n 2, 1) := by decide +kernel
theorem dX10_goesOn_457 : decode cX10_goesOn 457 = .ok (.laload, 1) := by decide +kernel
theorem dX10_goesOn_458 : decode cX10_goesOn 458 = .ok (.ladd, 1) := by decide +kernel
theorem dX10_goesOn_459 : decode cX10_goesOn 459 = .ok (.lastore, 1) := by decide +kernel
theorem dX10_goesOn_460 : decode cX10_goesOn 460 = .ok (.aload_n 0, 1) := by decide +kernel
theorem dX10_goesOn_461 : decode cX10_goesOn 461 = .ok (.getfield 65, 3) := by decide +kernel
theorem dX10_goesOn_464 : decode cX10_goesOn 464 = .ok (.iload_n 3, 1) := by decide +kernel
theorem dX10_goesOn_465 : decode cX10_goesOn 465 = .ok (.dup2, 1) := by decide +kernel
theorem dX10_goesOn_466 : decode cX10_goesOn 466 = .ok (.laload, 1) := by decide +kernel
theorem dX10_goesOn_467 : decode cX10_goesOn 467 = .ok (.aload_n 0, 1) := by decide +kernel
theorem dX10_goesOn_468 : decode cX10_goesOn 468 = .ok (.getfield 65, 3) := by decide +kernel
theorem dX10_goesOn_471 : decode cX10_goesOn 471 = .ok (.iload_n 2, 1) := by decide +kernel
theorem dX10_goesOn_472 : decode cX10_goesOn 472 = .ok (.laload, 1) := by decide +kernel
theorem dX10_goesOn_473 : decode cX10_goesOn 473 = .ok (.ladd, 1) := by decide +kernel
theorem dX10_goesOn_474 : decode cX10_goesOn 474 = .ok (.lastore, 1) := by decide +kernel
theorem dX10_goesOn_475 : decode cX10_goesOn 475 = .ok (.aload_n 0, 1) := by decide +kernel
theorem dX10_goesOn_476 : decode cX10_goesOn 476 = .ok (.getfield 65, 3) := by decide +kernel
theorem dX10_goesOn_479 : decode cX10_goesOn 479 = .ok (.iload_n 2, 1) := by decide +kernel
theorem dX10_goesOn_480 : decode cX10_goesOn 480 = .ok (.lconst 0, 1) := by decide +kernel
theorem dX10_goesOn_481 : decode cX10_goesOn 481 = .ok (.lastore, 1) := by decide +kernel
theorem dX10_goesOn_482 : decode cX10_goesOn 482 = .ok (.aload_n 0, 1) := by decide +kernel
theorem dX10_goesOn_483 : decode cX10_goesOn 483 = .ok (.getfield 53, 3) := by decide +kernel
theorem dX10_goesOn_486 : decode cX10_goesOn 486 = .ok (.iload_n 2, 1) := by decide +kernel
theorem dX10_goesOn_487 : decode cX10_goesOn 487 = .ok (.iconst 2, 1) := by decide +kernel
theorem dX10_goesOn_488 : decode cX10_goesOn 488 = .ok (.iastore, 1) := by decide +kernel
theorem dX10_goesOn_489 : decode cX10_goesOn 489 = .ok (.aload_n 0, 1) := by decide +kernel
theorem dX10_goesOn_490 : decode cX10_goesOn 490 = .ok (.getfield 56, 3) := by decide +kernel
theorem dX10_goesOn_493 : decode cX10_goesOn 493 = .ok (.iload_n 2, 1) := by decide +kernel
theorem dX10_goesOn_494 : decode cX10_goesOn 494 = .ok (.iload_n 3, 1) := by decide +kernel
theorem dX10_goesOn_495 : decode cX10_goesOn 495 = .ok (.iastore, 1) := by decide +kernel
theorem dX10_goesOn_496 : decode cX10_goesOn 496 = .ok (.aload_n 0, 1) := by decide +kernel
theorem dX10_goesOn_497 : decode cX10_goesOn 497 = .ok (.getfield 59, 3) := by decide +kernel
theorem dX10_goesOn_500 : decode cX10_goesOn 500 = .ok (.iload_n 2, 1) := by decide +kernel
theorem dX10_goesOn_501 : decode cX10_goesOn 501 = .ok (.aload_n 0, 1) := by decide +kernel
theorem dX10_goesOn_502 : decode cX10_goesOn 502 = .ok (.getfield 177, 3) := by decide +kernel
theorem dX10_goesOn_505 : decode cX10_goesOn 505 = .ok (.iastore, 1) := by decide +kernel
theorem dX10_goesOn_506 : decode cX10_goesOn 506 = .ok (.goto 3, 3) := by decide +kernel
theorem dX10_goesOn_509 : decode cX10_goesOn 509 = .ok (.return_, 1) := by decide +kernel
theorem dX10_moveOf_0 : decode cX10_moveOf 0 = .ok (.aload_n 0, 1) := by decide +kernel
theorem dX10_moveOf_1 : decode cX10_moveOf 1 = .ok (.iload_n 1, 1) := by decide +kernel
theorem dX10_moveOf_2 : decode cX10_moveOf 2 = .ok (.invokevirtual 297, 3) := by decide +kernel
theorem dX10_moveOf_5 : decode cX10_moveOf 5 = .ok (.ifCond .ne 9, 3) := by decide +kernel
theorem dX10_moveOf_8 : decode cX10_moveOf 8 = .ok (.aload_n 0, 1) := by decide +kernel
theorem dX10_moveOf_9 : decode cX10_moveOf 9 = .ok (.iconst (-1), 1) := by decide +kernel
theorem dX10_moveOf_10 : decode cX10_moveOf 10 = .ok (.invokevirtual 163, 3) := by decide +kernel
theorem dX10_moveOf_13 : decode cX10_moveOf 13 = .ok (.ireturn, 1) := by decide +kernel
theorem dX10_moveOf_14 : decode cX10_moveOf 14 = .ok (.iload_n 2, 1) := by decide +kernel
theorem dX10_moveOf_15 : decode cX10_moveOf 15 = .ok (.tableswitch 120 0 8 #[49, 56, 63, 70, 85, 92, 99, 106, 113], 49) := by decide +kernel
theorem dX10_moveOf_64 : decode cX10_moveOf 64 = .ok (.aload_n 0, 1) := by decide +kernel
theorem dX10_moveOf_65 : decode cX10_moveOf 65 = .ok (.getfield 102, 3) := by decide +kernel
theorem dX10_moveOf_68 : decode cX10_moveOf 68 = .ok (.iload_n 1, 1) := by decide +kernel
theorem dX10_moveOf_69 : decode cX10_moveOf 69 = .ok (.iaload, 1) := by decide +kernel
theorem dX10_moveOf_70 : decode cX10_moveOf 70 = .ok (.ireturn, 1) := by decide +kernel
theorem dX10_moveOf_71 : decode cX10_moveOf 71 = .ok (.aload_n 0, 1) := by decide +kernel
theorem dX10_moveOf_72 : decode cX10_moveOf 72 = .ok (.getfield 105, 3) := by decide +kernel
theorem dX10_moveOf_75 : decode cX10_moveOf 75 = .ok (.iload_n 1, 1) := by decide +kernel
theorem dX10_moveOf_76 : decode cX10_moveOf 76 = .ok (.iaload, 1) := by decide +kernel
theorem dX10_moveOf_77 : decode cX10_moveOf 77 = .ok (.ireturn, 1) := by decide +kernel
theorem dX10_moveOf_78 : decode cX10_moveOf 78 = .ok (.aload_n 0, 1) := by decide +kernel
theorem dX10_moveOf_79 : decode cX10_moveOf 79 = .ok (.getfield 108, 3) := by decide +kernel
theorem dX10_moveOf_82 : decode cX10_moveOf 82 = .ok (.iload_n 1, 1) := by decide +kernel
theorem dX10_moveOf_83 : decode cX10_moveOf 83 = .ok (.iaload, 1) := by decide +kernel
theorem dX10_moveOf_84 : decode cX10_moveOf 84 = .ok (.ireturn, 1) := by decide +kernel
theorem dX10_moveOf_85 : decode cX10_moveOf 85 = .ok (.aload_n 0, 1) := by decide +kernel
theorem dX10_moveOf_86 : decode cX10_moveOf 86 = .ok (.getfield 126, 3) := by decide +kernel
theorem dX10_moveOf_89 : decode cX10_moveOf 89 = .ok (.iload_n 1, 1) := by decide +kernel
theorem dX10_moveOf_90 : decode cX10_moveOf 90 = .ok (.baload, 1) := by decide +kernel
theorem dX10_moveOf_91 : decode cX10_moveOf 91 = .ok (.ifCond .eq 7, 3) := by decide +kernel
theorem dX10_moveOf_94 : decode cX10_moveOf 94 = .ok (.iconst 1, 1) := by decide +kernel
theorem dX10_moveOf_95 : decode cX10_moveOf 95 = .ok (.goto 4, 3) := by decide +kernel
theorem dX10_moveOf_98 : decode cX10_moveOf 98 = .ok (.iconst 0, 1) := by decide +kernel
theorem dX10_moveOf_99 : decode cX10_moveOf 99 = .ok (.ireturn, 1) := by decide +kernel
theorem dX10_moveOf_100 : decode cX10_moveOf 100 = .ok (.aload_n 0, 1) := by decide +kernel
theorem dX10_moveOf_101 : decode cX10_moveOf 101 = .ok (.getfield 111, 3) := by decide +kernel
theorem dX10_moveOf_104 : decode cX10_moveOf 104 = .ok (.iload_n 1, 1) := by decide +kernel
theorem dX10_moveOf_105 : decode cX10_moveOf 105 = .ok (.iaload, 1) := by decide +kernel
theorem dX10_moveOf_106 : decode cX10_moveOf 106 = .ok (.ireturn, 1) := by decide +kernel
theorem dX10_moveOf_107 : decode cX10_moveOf 107 = .ok (.aload_n 0, 1) := by decide +kernel
theorem dX10_moveOf_108 : decode cX10_moveOf 108 = .ok (.getfield 114, 3) := by decide +kernel
theorem dX10_moveOf_111 : decode cX10_moveOf 111 = .ok (.iload_n 1, 1) := by decide +kernel
theorem dX10_moveOf_112 : decode cX10_moveOf 112 = .ok (.iaload, 1) := by decide +kernel
theorem dX10_moveOf_113 : decode cX10_moveOf 113 = .ok (.ireturn, 1) := by decide +kernel
theorem dX10_moveOf_114 : decode cX10_moveOf 114 = .ok (.aload_n 0, 1) := by decide +kernel
theorem dX10_moveOf_115 : decode cX10_moveOf 115 = .ok (.getfield 117, 3) := by decide +kernel
theorem dX10_moveOf_118 : decode cX10_moveOf 118 = .ok (.iload_n 1, 1) := by decide +kernel
theorem dX10_moveOf_119 : decode cX10_moveOf 119 = .ok (.iaload, 1) := by decide +kernel
theorem dX10_moveOf_120 : decode cX10_moveOf 120 = .ok (.ireturn, 1) := by decide +kernel
theorem dX10_moveOf_121 : decode cX10_moveOf 121 = .ok (.aload_n 0, 1) := by decide +kernel
theorem dX10_moveOf_122 : decode cX10_moveOf 122 = .ok (.getfield 120, 3) := by decide +kernel
theorem dX10_moveOf_125 : decode cX10_moveOf 125 = .ok (.iload_n 1, 1) := by decide +kernel
theorem dX10_moveOf_126 : decode cX10_moveOf 126 = .ok (.iaload, 1) := by decide +kernel
theorem dX10_moveOf_127 : decode cX10_moveOf 127 = .ok (.ireturn, 1) := by decide +kernel
theorem dX10_moveOf_128 : decode cX10_moveOf 128 = .ok (.aload_n 0, 1) := by decide +kernel
theorem dX10_moveOf_129 : decode cX10_moveOf 129 = .ok (.getfield 123, 3) := by decide +kernel
theorem dX10_moveOf_132 : decode cX10_moveOf 132 = .ok (.iload_n 1, 1) := by decide +kernel
theorem dX10_moveOf_133 : decode cX10_moveOf 133 = .ok (.iaload, 1) := by decide +kernel
theorem dX10_moveOf_134 : decode cX10_moveOf 134 = .ok (.ireturn, 1) := by decide +kernel
theorem dX10_moveOf_135 : decode cX10_moveOf 135 = .ok (.aload_n 0, 1) := by decide +kernel
theorem dX10_moveOf_136 : decode cX10_moveOf 136 = .ok (.bipush (-2), 2) := by decide +kernel
theorem dX10_moveOf_138 : decode cX10_moveOf 138 = .ok (.invokevirtual 163, 3) := by decide +kernel
theorem dX10_moveOf_141 : decode cX10_moveOf 141 = .ok (.ireturn, 1) := by decide +kernel
theorem dX10_owes_0 : decode cX10_owes 0 = .ok (.iload_n 1, 1) := by decide +kernel
theorem dX10_owes_1 : decode cX10_owes 1 = .ok (.invokestatic 191, 3) := by decide +kernel
theorem dX10_owes_4 : decode cX10_owes 4 = .ok (.ifCond .eq 12, 3) := by decide +kernel
theorem dX10_owes_7 : decode cX10_owes 7 = .ok (.aload_n 0, 1) := by decide +kernel
theorem dX10_owes_8 : decode cX10_owes 8 = .ok (.getfield 28, 3) := by decide +kernel
theorem dX10_owes_11 : decode cX10_owes 11 = .ok (.iload_n 1, 1) := by decide +kernel
theorem dX10_owes_12 : decode cX10_owes 12 = .ok (.iaload, 1) := by decide +kernel
theorem dX10_owes_13 : decode cX10_owes 13 = .ok (.goto 8, 3) := by decide +kernel
theorem dX10_owes_16 : decode cX10_owes 16 = .ok (.aload_n 0, 1) := by decide +kernel
theorem dX10_owes_17 : decode cX10_owes 17 = .ok (.iconst (-1), 1) := by decide +kernel
theorem dX10_owes_18 : decode cX10_owes 18 = .ok (.invokevirtual 163, 3) := by decide +kernel
theorem dX10_owes_21 : decode cX10_owes 21 = .ok (.ireturn, 1) := by decide +kernel
theorem dX10_night_0 : decode cX10_night 0 = .ok (.iconst 0, 1) := by decide +kernel
theorem dX10_night_1 : decode cX10_night 1 = .ok (.istore_n 1, 1) := by decide +kernel
theorem dX10_night_2 : decode cX10_night 2 = .ok (.iload_n 1, 1) := by decide +kernel
theorem dX10_night_3 : decode cX10_night 3 = .ok (.bipush 8, 2) := by decide +kernel
theorem dX10_night_5 : decode cX10_night 5 = .ok (.if_icmp .ge 23, 3) := by decide +kernel
theorem dX10_night_8 : decode cX10_night 8 = .ok (.aload_n 0, 1) := by decide +kernel
theorem dX10_night_9 : decode cX10_night 9 = .ok (.getfield 34, 3) := by decide +kernel
theorem dX10_night_12 : decode cX10_night 12 = .ok (.iload_n 1, 1) := by decide +kernel
theorem dX10_night_13 : decode cX10_night 13 = .ok (.lconst 0, 1) := by decide +kernel
theorem dX10_night_14 : decode cX10_night 14 = .ok (.lastore, 1) := by decide +kernel
theorem dX10_night_15 : decode cX10_night 15 = .ok (.aload_n 0, 1) := by decide +kernel
theorem dX10_night_16 : decode cX10_night 16 = .ok (.getfield 31, 3) := by decide +kernel
theorem dX10_night_19 : decode cX10_night 19 = .ok (.iload_n 1, 1) := by decide +kernel
theorem dX10_night_20 : decode cX10_night 20 = .ok (.iconst 0, 1) := by decide +kernel
theorem dX10_night_21 : decode cX10_night 21 = .ok (.iastore, 1) := by decide +kernel
theorem dX10_night_22 : decode cX10_night 22 = .ok (.iinc 1 1, 3) := by decide +kernel
theorem dX10_night_25 : decode cX10_night 25 = .ok (.goto (-23), 3) := by decide +kernel
theorem dX10_night_28 : decode cX10_night 28 = .ok (.iconst 0, 1) := by decide +kernel
theorem dX10_night_29 : decode cX10_night 29 = .ok (.istore_n 1, 1) := by decide +kernel
theorem dX10_night_30 : decode cX10_night 30 = .ok (.iload_n 1, 1) := by decide +kernel
theorem dX10_night_31 : decode cX10_night 31 = .ok (.aload_n 0, 1) := by decide +kernel
theorem dX10_night_32 : decode cX10_night 32 = .ok (.getfield 211, 3) := by decide +kernel
theorem dX10_night_35 : decode cX10_night 35 = .ok (.if_icmp .ge 36, 3) := by decide +kernel
theorem dX10_night_38 : decode cX10_night 38 = .ok (.aload_n 0, 1) := by decide +kernel
theorem dX10_night_39 : decode cX10_night 39 = .ok (.getfield 126, 3) := by decide +kernel
theorem dX10_night_42 : decode cX10_night 42 = .ok (.iload_n 1, 1) := by decide +kernel
theorem dX10_night_43 : decode cX10_night 43 = .ok (.baload, 1) := by decide +kernel
theorem dX10_night_44 : decode cX10_night 44 = .ok (.ifCond .eq 21, 3) := by decide +kernel
theorem dX10_night_47 : decode cX10_night 47 = .ok (.aload_n 0, 1) := by decide +kernel
theorem dX10_night_48 : decode cX10_night 48 = .ok (.getfield 120, 3) := by decide +kernel
theorem dX10_night_51 : decode cX10_night 51 = .ok (.iload_n 1, 1) := by decide +kernel
theorem dX10_night_52 : decode cX10_night 52 = .ok (.iaload, 1) := by decide +kernel
theorem dX10_night_53 : decode cX10_night 53 = .ok (.aload_n 0, 1) := by decide +kernel
theorem dX10_night_54 : decode cX10_night 54 = .ok (.getfield 177, 3) := by decide +kernel
theorem dX10_night_57 : decode cX10_night 57 = .ok (.if_icmp .ge 8, 3) := by decide +kernel
theorem dX10_night_60 : decode cX10_night 60 = .ok (.aload_n 0, 1) := by decide +kernel
theorem dX10_night_61 : decode cX10_night 61 = .ok (.iload_n 1, 1) := by decide +kernel
theorem dX10_night_62 : decode cX10_night 62 = .ok (.invokevirtual 304, 3) := by decide +kernel
theorem dX10_night_65 : decode cX10_night 65 = .ok (.iinc 1 1, 3) := by decide +kernel
theorem dX10_night_68 : decode cX10_night 68 = .ok (.goto (-38), 3) := by decide +kernel
theorem dX10_night_71 : decode cX10_night 71 = .ok (.aload_n 0, 1) := by decide +kernel
theorem dX10_night_72 : decode cX10_night 72 = .ok (.getfield 151, 3) := by decide +kernel
theorem dX10_night_75 : decode cX10_night 75 = .ok (.iconst 1, 1) := by decide +kernel
theorem dX10_night_76 : decode cX10_night 76 = .ok (.iadd, 1) := by decide +kernel
theorem dX10_night_77 : decode cX10_night 77 = .ok (.istore_n 1, 1) := by decide +kernel
theorem dX10_night_78 : decode cX10_night 78 = .ok (.iload_n 1, 1) := by decide +kernel
theorem dX10_night_79 : decode cX10_night 79 = .ok (.aload_n 0, 1) := by decide +kernel
theorem dX10_night_80 : decode cX10_night 80 = .ok (.getfield 177, 3) := by decide +kernel
theorem dX10_night_83 : decode cX10_night 83 = .ok (.if_icmp .gt 39, 3) := by decide +kernel
theorem dX10_night_86 : decode cX10_night 86 = .ok (.iconst 0, 1) := by decide +kernel
theorem dX10_night_87 : decode cX10_night 87 = .ok (.istore_n 2, 1) := by decide +kernel
theorem dX10_night_88 : decode cX10_night 88 = .ok (.iload_n 2, 1) := by decide +kernel
theorem dX10_night_89 : decode cX10_night 89 = .ok (.aload_n 0, 1) := by decide +kernel
theorem dX10_night_90 : decode cX10_night 90 = .ok (.getfield 287, 3) := by decide +kernel
theorem dX10_night_93 : decode cX10_night 93 = .ok (.if_icmp .ge 23, 3) := by decide +kernel
theorem dX10_night_96 : decode cX10_night 96 = .ok (.aload_n 0, 1) := by decide +kernel
theorem dX10_night_97 : decode cX10_night 97 = .ok (.iload_n 2, 1) := by decide +kernel
theorem dX10_night_98 : decode cX10_night 98 = .ok (.iload_n 1, 1) := by decide +kernel
theorem dX10_night_99 : decode cX10_night 99 = .ok (.invokevirtual 308, 3) := by decide +kernel
theorem dX10_night_102 : decode cX10_night 102 = .ok (.ifCond .eq 8, 3) := by decide +kernel
theorem dX10_night_105 : decode cX10_night 105 = .ok (.aload_n 0, 1) := by decide +kernel
theorem dX10_night_106 : decode cX10_night 106 = .ok (.iload_n 2, 1) := by decide +kernel
theorem dX10_night_107 : decode cX10_night 107 = .ok (.invokevirtual 311, 3) := by decide +kernel
theorem dX10_night_110 : decode cX10_night 110 = .ok (.iinc 2 1, 3) := by decide +kernel
theorem dX10_night_113 : decode cX10_night 113 = .ok (.goto (-25), 3) := by decide +kernel
theorem dX10_night_116 : decode cX10_night 116 = .ok (.iinc 1 1, 3) := by decide +kernel
theorem dX10_night_119 : decode cX10_night 119 = .ok (.goto (-41), 3) := by decide +kernel
theorem dX10_night_122 : decode cX10_night 122 = .ok (.aload_n 0, 1) := by decide +kernel
theorem dX10_night_123 : decode cX10_night 123 = .ok (.aload_n 0, 1) := by decide +kernel
theorem dX10_night_124 : decode cX10_night 124 = .ok (.getfield 177, 3) := by decide +kernel
theorem dX10_night_127 : decode cX10_night 127 = .ok (.putfield 151, 3) := by decide +kernel
theorem dX10_night_130 : decode cX10_night 130 = .ok (.aload_n 0, 1) := by decide +kernel
theorem dX10_night_131 : decode cX10_night 131 = .ok (.dup, 1) := by decide +kernel
theorem dX10_night_132 : decode cX10_night 132 = .ok (.getfield 314, 3) := by decide +kernel
theorem dX10_night_135 : decode cX10_night 135 = .ok (.iconst 1, 1) := by decide +kernel
theorem dX10_night_136 : decode cX10_night 136 = .ok (.iadd, 1) := by decide +kernel
theorem dX10_night_137 : decode cX10_night 137 = .ok (.putfield 314, 3) := by decide +kernel
theorem dX10_night_140 : decode cX10_night 140 = .ok (.return_, 1) := by decide +kernel
theorem dX10_likeOf_0 : decode cX10_likeOf 0 = .ok (.iconst 0, 1) := by decide +kernel
theorem dX10_likeOf_1 : decode cX10_likeOf 1 = .ok (.istore_n 2, 1) := by decide +kernel
theorem dX10_likeOf_2 : decode cX10_likeOf 2 = .ok (.iconst 1, 1) := by decide +kernel
theorem dX10_likeOf_3 : decode cX10_likeOf 3 = .ok (.istore_n 3, 1) := by decide +kernel
theorem dX10_likeOf_4 : decode cX10_likeOf 4 = .ok (.iload_n 3, 1) := by decide +kernel
theorem dX10_likeOf_5 : decode cX10_likeOf 5 = .ok (.sipush 10000, 3) := by decide +kernel
theorem dX10_likeOf_8 : decode cX10_likeOf 8 = .ok (.if_icmp .ge 34, 3) := by decide +kernel
theorem dX10_likeOf_11 : decode cX10_likeOf 11 = .ok (.iload_n 2, 1) := by decide +kernel
theorem dX10_likeOf_12 : decode cX10_likeOf 12 = .ok (.iload_n 0, 1) := by decide +kernel
theorem dX10_likeOf_13 : decode cX10_likeOf 13 = .ok (.iload_n 3, 1) := by decide +kernel
theorem dX10_likeOf_14 : decode cX10_likeOf 14 = .ok (.idiv, 1) := by decide +kernel
theorem dX10_likeOf_15 : decode cX10_likeOf 15 = .ok (.bipush 10, 2) := by decide +kernel
theorem dX10_likeOf_17 : decode cX10_likeOf 17 = .ok (.irem, 1) := by decide +kernel
theorem dX10_likeOf_18 : decode cX10_likeOf 18 = .ok (.iload_n 1, 1) := by decide +kernel
theorem dX10_likeOf_19 : decode cX10_likeOf 19 = .ok (.iload_n 3, 1) := by decide +kernel
theorem dX10_likeOf_20 : decode cX10_likeOf 20 = .ok (.idiv, 1) := by decide +kernel
theorem dX10_likeOf_21 : decode cX10_likeOf 21 = .ok (.bipush 10, 2) := by decide +kernel
theorem dX10_likeOf_23 : decode cX10_likeOf 23 = .ok (.irem, 1) := by decide +kernel
theorem dX10_likeOf_24 : decode cX10_likeOf 24 = .ok (.if_icmp .ne 7, 3) := by decide +kernel
theorem dX10_likeOf_27 : decode cX10_likeOf 27 = .ok (.iconst 0, 1) := by decide +kernel
theorem dX10_likeOf_28 : decode cX10_likeOf 28 = .ok (.goto 4, 3) := by decide +kernel
theorem dX10_likeOf_31 : decode cX10_likeOf 31 = .ok (.iconst 1, 1) := by decide +kernel
theorem dX10_likeOf_32 : decode cX10_likeOf 32 = .ok (.iadd, 1) := by decide +kernel
theorem dX10_likeOf_33 : decode cX10_likeOf 33 = .ok (.istore_n 2, 1) := by decide +kernel
theorem dX10_likeOf_34 : decode cX10_likeOf 34 = .ok (.iload_n 3, 1) := by decide +kernel
theorem dX10_likeOf_35 : decode cX10_likeOf 35 = .ok (.bipush 10, 2) := by decide +kernel
theorem dX10_likeOf_37 : decode cX10_likeOf 37 = .ok (.imul, 1) := by decide +kernel
theorem dX10_likeOf_38 : decode cX10_likeOf 38 = .ok (.istore_n 3, 1) := by decide +kernel
theorem dX10_likeOf_39 : decode cX10_likeOf 39 = .ok (.goto (-35), 3) := by decide +kernel
theorem dX10_likeOf_42 : decode cX10_likeOf 42 = .ok (.iload_n 2, 1) := by decide +kernel
theorem dX10_likeOf_43 : decode cX10_likeOf 43 = .ok (.ifCond .ne 7, 3) := by decide +kernel
theorem dX10_likeOf_46 : decode cX10_likeOf 46 = .ok (.iconst 2, 1) := by decide +kernel
theorem dX10_likeOf_47 : decode cX10_likeOf 47 = .ok (.goto 13, 3) := by decide +kernel
theorem dX10_likeOf_50 : decode cX10_likeOf 50 = .ok (.iload_n 2, 1) := by decide +kernel
theorem dX10_likeOf_51 : decode cX10_likeOf 51 = .ok (.iconst 1, 1) := by decide +kernel
theorem dX10_likeOf_52 : decode cX10_likeOf 52 = .ok (.if_icmp .ne 7, 3) := by decide +kernel
theorem dX10_likeOf_55 : decode cX10_likeOf 55 = .ok (.iconst 1, 1) := by decide +kernel
theorem dX10_likeOf_56 : decode cX10_likeOf 56 = .ok (.goto 4, 3) := by decide +kernel
theorem dX10_likeOf_59 : decode cX10_likeOf 59 = .ok (.iconst 0, 1) := by decide +kernel
theorem dX10_likeOf_60 : decode cX10_likeOf 60 = .ok (.ireturn, 1) := by decide +kernel
theorem dX10_likes_0 : decode cX10_likes 0 = .ok (.aload_n 0, 1) := by decide +kernel
theorem dX10_likes_1 : decode cX10_likes 1 = .ok (.getfield 44, 3) := by decide +kernel
theorem dX10_likes_4 : decode cX10_likes 4 = .ok (.iload_n 1, 1) := by decide +kernel
theorem dX10_likes_5 : decode cX10_likes 5 = .ok (.iaload, 1) := by decide +kernel
theorem dX10_likes_6 : decode cX10_likes 6 = .ok (.iload_n 2, 1) := by decide +kernel
theorem dX10_likes_7 : decode cX10_likes 7 = .ok (.invokestatic 317, 3) := by decide +kernel
theorem dX10_likes_10 : decode cX10_likes 10 = .ok (.istore_n 3, 1) := by decide +kernel
theorem dX10_likes_11 : decode cX10_likes 11 = .ok (.aload_n 0, 1) := by decide +kernel
theorem dX10_likes_12 : decode cX10_likes 12 = .ok (.getfield 47, 3) := by decide +kernel
theorem dX10_likes_15 : decode cX10_likes 15 = .ok (.iload_n 1, 1) := by decide +kernel
theorem dX10_likes_16 : decode cX10_likes 16 = .ok (.iaload, 1) := by decide +kernel
theorem dX10_likes_17 : decode cX10_likes 17 = .ok (.ifCond .ge 7, 3) := by decide +kernel
theorem dX10_likes_20 : decode cX10_likes 20 = .ok (.iconst 0, 1) := by decide +kernel
theorem dX10_likes_21 : decode cX10_likes 21 = .ok (.goto 13, 3) := by decide +kernel
theorem dX10_likes_24 : decode cX10_likes 24 = .ok (.aload_n 0, 1) := by decide +kernel
theorem dX10_likes_25 : decode cX10_likes 25 = .ok (.getfield 47, 3) := by decide +kernel
theorem dX10_likes_28 : decode cX10_likes 28 = .ok (.iload_n 1, 1) := by decide +kernel
theorem dX10_likes_29 : decode cX10_likes 29 = .ok (.iaload, 1) := by decide +kernel
theorem dX10_likes_30 : decode cX10_likes 30 = .ok (.iload_n 2, 1) := by decide +kernel
theorem dX10_likes_31 : decode cX10_likes 31 = .ok (.invokestatic 317, 3) := by decide +kernel
theorem dX10_likes_34 : decode cX10_likes 34 = .ok (.istore 4, 2) := by decide +kernel
theorem dX10_likes_36 : decode cX10_likes 36 = .ok (.iload_n 3, 1) := by decide +kernel
theorem dX10_likes_37 : decode cX10_likes 37 = .ok (.iload 4, 2) := by decide +kernel
theorem dX10_likes_39 : decode cX10_likes 39 = .ok (.if_icmp .le 7, 3) := by decide +kernel
theorem dX10_likes_42 : decode cX10_likes 42 = .ok (.iload_n 3, 1) := by decide +kernel
theorem dX10_likes_43 : decode cX10_likes 43 = .ok (.goto 5, 3) := by decide +kernel
theorem dX10_likes_46 : decode cX10_likes 46 = .ok (.iload 4, 2) := by decide +kernel
theorem dX10_likes_48 : decode cX10_likes 48 = .ok (.ireturn, 1) := by decide +kernel
theorem dX10_like_0 : decode cX10_like 0 = .ok (.aload_n 0, 1) := by decide +kernel
theorem dX10_like_1 : decode cX10_like 1 = .ok (.iload_n 1, 1) := by decide +kernel
theorem dX10_like_2 : decode cX10_like 2 = .ok (.invokevirtual 203, 3) := by decide +kernel
theorem dX10_like_5 : decode cX10_like 5 = .ok (.ifCond .eq 14, 3) := by decide +kernel
theorem dX10_like_8 : decode cX10_like 8 = .ok (.iload_n 2, 1) := by decide +kernel
theorem dX10_like_9 : decode cX10_like 9 = .ok (.iconst 0, 1) := by decide +kernel
theorem dX10_like_10 : decode cX10_like 10 = .ok (.sipush 9999, 3) := by decide +kernel
theorem dX10_like_13 : decode cX10_like 13 = .ok (.invokestatic 187, 3) := by decide +kernel
theorem dX10_like_16 : decode cX10_like 16 = .ok (.goto 4, 3) := by decide +kernel
theorem dX10_like_19 : decode cX10_like 19 = .ok (.iconst (-1), 1) := by decide +kernel
theorem dX10_like_20 : decode cX10_like 20 = .ok (.istore_n 3, 1) := by decide +kernel
theorem dX10_like_21 : decode cX10_like 21 = .ok (.iload_n 3, 1) := by decide +kernel
theorem dX10_like_22 : decode cX10_like 22 = .ok (.ifCond .eq 11, 3) := by decide +kernel
theorem dX10_like_25 : decode cX10_like 25 = .ok (.aload_n 0, 1) := by decide +kernel
theorem dX10_like_26 : decode cX10_like 26 = .ok (.iload_n 3, 1) := by decide +kernel
theorem dX10_like_27 : decode cX10_like 27 = .ok (.invokevirtual 163, 3) := by decide +kernel
theorem dX10_like_30 : decode cX10_like 30 = .ok (.goto 9, 3) := by decide +kernel
theorem dX10_like_33 : decode cX10_like 33 = .ok (.aload_n 0, 1) := by decide +kernel
theorem dX10_like_34 : decode cX10_like 34 = .ok (.iload_n 1, 1) := by decide +kernel
theorem dX10_like_35 : decode cX10_like 35 = .ok (.iload_n 2, 1) := by decide +kernel
theorem dX10_like_36 : decode cX10_like 36 = .ok (.invokevirtual 320, 3) := by decide +kernel
theorem dX10_like_39 : decode cX10_like 39 = .ok (.ireturn, 1) := by decide +kernel
theorem dX10_rivalOf_0 : decode cX10_rivalOf 0 = .ok (.iconst 1, 1) := by decide +kernel
theorem dX10_rivalOf_1 : decode cX10_rivalOf 1 = .ok (.istore 4, 2) := by decide +kernel
theorem dX10_rivalOf_3 : decode cX10_rivalOf 3 = .ok (.iconst 0, 1) := by decide +kernel
theorem dX10_rivalOf_4 : decode cX10_rivalOf 4 = .ok (.istore 5, 2) := by decide +kernel
theorem dX10_rivalOf_6 : decode cX10_rivalOf 6 = .ok (.iload 5, 2) := by decide +kernel
theorem dX10_rivalOf_8 : decode cX10_rivalOf 8 = .ok (.aload_n 0, 1) := by decide +kernel
theorem dX10_rivalOf_9 : decode cX10_rivalOf 9 = .ok (.getfield 171, 3) := by decide +kernel
theorem dX10_rivalOf_12 : decode cX10_rivalOf 12 = .ok (.if_icmp .ge 44, 3) := by decide +kernel
theorem dX10_rivalOf_15 : decode cX10_rivalOf 15 = .ok (.aload_n 0, 1) := by decide +kernel
theorem dX10_rivalOf_16 : decode cX10_rivalOf 16 = .ok (.getfield 41, 3) := by decide +kernel
theorem dX10_rivalOf_19 : decode cX10_rivalOf 19 = .ok (.iload 5, 2) := by decide +kernel
theorem dX10_rivalOf_21 : decode cX10_rivalOf 21 = .ok (.iaload, 1) := by decide +kernel
theorem dX10_rivalOf_22 : decode cX10_rivalOf 22 = .ok (.iload_n 1, 1) := by decide +kernel
theorem dX10_rivalOf_23 : decode cX10_rivalOf 23 = .ok (.if_icmp .ne 27, 3) := by decide +kernel
theorem dX10_rivalOf_26 : decode cX10_rivalOf 26 = .ok (.aload_n 0, 1) := by decide +kernel
theorem dX10_rivalOf_27 : decode cX10_rivalOf 27 = .ok (.getfield 53, 3) := by decide +kernel
theorem dX10_rivalOf_30 : decode cX10_rivalOf 30 = .ok (.iload 5, 2) := by decide +kernel
theorem dX10_rivalOf_32 : decode cX10_rivalOf 32 = .ok (.iaload, 1) := by decide +kernel
theorem dX10_rivalOf_33 : decode cX10_rivalOf 33 = .ok (.ifCond .ne 17, 3) := by decide +kernel
theorem dX10_rivalOf_36 : decode cX10_rivalOf 36 = .ok (.aload_n 0, 1) := by decide +kernel
theorem dX10_rivalOf_37 : decode cX10_rivalOf 37 = .ok (.iload 5, 2) := by decide +kernel
theorem dX10_rivalOf_39 : decode cX10_rivalOf 39 = .ok (.iload_n 2, 1) := by decide +kernel
theorem dX10_rivalOf_40 : decode cX10_rivalOf 40 = .ok (.invokevirtual 320, 3) := by decide +kernel
theorem dX10_rivalOf_43 : decode cX10_rivalOf 43 = .ok (.iconst 2, 1) := by decide +kernel
theorem dX10_rivalOf_44 : decode cX10_rivalOf 44 = .ok (.if_icmp .ne 6, 3) := by decide +kernel
theorem dX10_rivalOf_47 : decode cX10_rivalOf 47 = .ok (.iconst 2, 1) := by decide +kernel
theorem dX10_rivalOf_48 : decode cX10_rivalOf 48 = .ok (.istore 4, 2) := by decide +kernel
theorem dX10_rivalOf_50 : decode cX10_rivalOf 50 = .ok (.iinc 5 1, 3) := by decide +kernel
theorem dX10_rivalOf_53 : decode cX10_rivalOf 53 = .ok (.goto (-47), 3) := by decide +kernel
theorem dX10_rivalOf_56 : decode cX10_rivalOf 56 = .ok (.iconst 0, 1) := by decide +kernel
theorem dX10_rivalOf_57 : decode cX10_rivalOf 57 = .ok (.istore 5, 2) := by decide +kernel
theorem dX10_rivalOf_59 : decode cX10_rivalOf 59 = .ok (.iconst 0, 1) := by decide +kernel
theorem dX10_rivalOf_60 : decode cX10_rivalOf 60 = .ok (.istore 6, 2) := by decide +kernel
theorem dX10_rivalOf_62 : decode cX10_rivalOf 62 = .ok (.iload 6, 2) := by decide +kernel
theorem dX10_rivalOf_64 : decode cX10_rivalOf 64 = .ok (.aload_n 0, 1) := by decide +kernel
theorem dX10_rivalOf_65 : decode cX10_rivalOf 65 = .ok (.getfield 171, 3) := by decide +kernel
theorem dX10_rivalOf_68 : decode cX10_rivalOf 68 = .ok (.if_icmp .ge 57, 3) := by decide +kernel
theorem dX10_rivalOf_71 : decode cX10_rivalOf 71 = .ok (.aload_n 0, 1) := by decide +kernel
theorem dX10_rivalOf_72 : decode cX10_rivalOf 72 = .ok (.getfield 41, 3) := by decide +kernel
theorem dX10_rivalOf_75 : decode cX10_rivalOf 75 = .ok (.iload 6, 2) := by decide +kernel
theorem dX10_rivalOf_77 : decode cX10_rivalOf 77 = .ok (.iaload, 1) := by decide +kernel
theorem dX10_rivalOf_78 : decode cX10_rivalOf 78 = .ok (.iload_n 1, 1) := by decide +kernel
theorem dX10_rivalOf_79 : decode cX10_rivalOf 79 = .ok (.if_icmp .ne 40, 3) := by decide +kernel
theorem dX10_rivalOf_82 : decode cX10_rivalOf 82 = .ok (.aload_n 0, 1) := by decide +kernel
theorem dX10_rivalOf_83 : decode cX10_rivalOf 83 = .ok (.getfield 53, 3) := by decide +kernel
theorem dX10_rivalOf_86 : decode cX10_rivalOf 86 = .ok (.iload 6, 2) := by decide +kernel
theorem dX10_rivalOf_88 : decode cX10_rivalOf 88 = .ok (.iaload, 1) := by decide +kernel
theorem dX10_rivalOf_89 : decode cX10_rivalOf 89 = .ok (.ifCond .ne 30, 3) := by decide +kernel
theorem dX10_rivalOf_92 : decode cX10_rivalOf 92 = .ok (.aload_n 0, 1) := by decide +kernel
theorem dX10_rivalOf_93 : decode cX10_rivalOf 93 = .ok (.iload 6, 2) := by decide +kernel
theorem dX10_rivalOf_95 : decode cX10_rivalOf 95 = .ok (.iload_n 2, 1) := by decide +kernel
theorem dX10_rivalOf_96 : decode cX10_rivalOf 96 = .ok (.invokevirtual 320, 3) := by decide +kernel
theorem dX10_rivalOf_99 : decode cX10_rivalOf 99 = .ok (.iload 4, 2) := by decide +kernel
theorem dX10_rivalOf_101 : decode cX10_rivalOf 101 = .ok (.if_icmp .eq 6, 3) := by decide +kernel
theorem dX10_rivalOf_104 : decode cX10_rivalOf 104 = .ok (.goto 15, 3) := by decide +kernel
theorem dX10_rivalOf_107 : decode cX10_rivalOf 107 = .ok (.iload 5, 2) := by decide +kernel
theorem dX10_rivalOf_109 : decode cX10_rivalOf 109 = .ok (.iload_n 3, 1) := by decide +kernel
theorem dX10_rivalOf_110 : decode cX10_rivalOf 110 = .ok (.if_icmp .ne 6, 3) := by decide +kernel
theorem dX10_rivalOf_113 : decode cX10_rivalOf 113 = .ok (.iload 6, 2) := by decide +kernel
theorem dX10_rivalOf_115 : decode cX10_rivalOf 115 = .ok (.ireturn, 1) := by decide +kernel
theorem dX10_rivalOf_116 : decode cX10_rivalOf 116 = .ok (.iinc 5 1, 3) := by decide +kernel
theorem dX10_rivalOf_119 : decode cX10_rivalOf 119 = .ok (.iinc 6 1, 3) := by decide +kernel
theorem dX10_rivalOf_122 : decode cX10_rivalOf 122 = .ok (.goto (-60), 3) := by decide +kernel
theorem dX10_rivalOf_125 : decode cX10_rivalOf 125 = .ok (.iload_n 3, 1) := by decide +kernel
theorem dX10_rivalOf_126 : decode cX10_rivalOf 126 = .ok (.ifCond .ge 8, 3) := by decide +kernel
theorem dX10_rivalOf_129 : decode cX10_rivalOf 129 = .ok (.iload 5, 2) := by decide +kernel
theorem dX10_rivalOf_131 : decode cX10_rivalOf 131 = .ok (.goto 5, 3) := by decide +kernel
theorem dX10_rivalOf_134 : decode cX10_rivalOf 134 = .ok (.bipush (-9), 2) := by decide +kernel
theorem dX10_rivalOf_136 : decode cX10_rivalOf 136 = .ok (.ireturn, 1) := by decide +kernel
theorem dX10_rivals_0 : decode cX10_rivals 0 = .ok (.iload_n 1, 1) := by decide +kernel
theorem dX10_rivals_1 : decode cX10_rivals 1 = .ok (.invokestatic 191, 3) := by decide +kernel
theorem dX10_rivals_4 : decode cX10_rivals 4 = .ok (.ifCond .eq 14, 3) := by decide +kernel
theorem dX10_rivals_7 : decode cX10_rivals 7 = .ok (.iload_n 2, 1) := by decide +kernel
theorem dX10_rivals_8 : decode cX10_rivals 8 = .ok (.iconst 0, 1) := by decide +kernel
theorem dX10_rivals_9 : decode cX10_rivals 9 = .ok (.sipush 9999, 3) := by decide +kernel
theorem dX10_rivals_12 : decode cX10_rivals 12 = .ok (.invokestatic 187, 3) := by decide +kernel
theorem dX10_rivals_15 : decode cX10_rivals 15 = .ok (.goto 4, 3) := by decide +kernel
theorem dX10_rivals_18 : decode cX10_rivals 18 = .ok (.iconst (-1), 1) := by decide +kernel
theorem dX10_rivals_19 : decode cX10_rivals 19 = .ok (.istore_n 3, 1) := by decide +kernel
theorem dX10_rivals_20 : decode cX10_rivals 20 = .ok (.iload_n 3, 1) := by decide +kernel
theorem dX10_rivals_21 : decode cX10_rivals 21 = .ok (.ifCond .eq 11, 3) := by decide +kernel
theorem dX10_rivals_24 : decode cX10_rivals 24 = .ok (.aload_n 0, 1) := by decide +kernel
theorem dX10_rivals_25 : decode cX10_rivals 25 = .ok (.iload_n 3, 1) := by decide +kernel
theorem dX10_rivals_26 : decode cX10_rivals 26 = .ok (.invokevirtual 163, 3) := by decide +kernel
theorem dX10_rivals_29 : decode cX10_rivals 29 = .ok (.goto 10, 3) := by decide +kernel
theorem dX10_rivals_32 : decode cX10_rivals 32 = .ok (.aload_n 0, 1) := by decide +kernel
theorem dX10_rivals_33 : decode cX10_rivals 33 = .ok (.iload_n 1, 1) := by decide +kernel
theorem dX10_rivals_34 : decode cX10_rivals 34 = .ok (.iload_n 2, 1) := by decide +kernel
theorem dX10_rivals_35 : decode cX10_rivals 35 = .ok (.iconst (-1), 1) := by decide +kernel
theorem dX10_rivals_36 : decode cX10_rivals 36 = .ok (.invokevirtual 323, 3) := by decide +kernel
theorem dX10_rivals_39 : decode cX10_rivals 39 = .ok (.ireturn, 1) := by decide +kernel
theorem dX10_rival_0 : decode cX10_rival 0 = .ok (.iload_n 1, 1) := by decide +kernel
theorem dX10_rival_1 : decode cX10_rival 1 = .ok (.invokestatic 191, 3) := by decide +kernel
theorem dX10_rival_4 : decode cX10_rival 4 = .ok (.ifCond .eq 14, 3) := by decide +kernel
theorem dX10_rival_7 : decode cX10_rival 7 = .ok (.iload_n 2, 1) := by decide +kernel
theorem dX10_rival_8 : decode cX10_rival 8 = .ok (.iconst 0, 1) := by decide +kernel
theorem dX10_rival_9 : decode cX10_rival 9 = .ok (.sipush 9999, 3) := by decide +kernel
theorem dX10_rival_12 : decode cX10_rival 12 = .ok (.invokestatic 187, 3) := by decide +kernel
theorem dX10_rival_15 : decode cX10_rival 15 = .ok (.goto 4, 3) := by decide +kernel
theorem dX10_rival_18 : decode cX10_rival 18 = .ok (.iconst (-1), 1) := by decide +kernel
theorem dX10_rival_19 : decode cX10_rival 19 = .ok (.istore 4, 2) := by decide +kernel
theorem dX10_rival_21 : decode cX10_rival 21 = .ok (.iload 4, 2) := by decide +kernel
theorem dX10_rival_23 : decode cX10_rival 23 = .ok (.ifCond .eq 12, 3) := by decide +kernel
theorem dX10_rival_26 : decode cX10_rival 26 = .ok (.aload_n 0, 1) := by decide +kernel
theorem dX10_rival_27 : decode cX10_rival 27 = .ok (.iload 4, 2) := by decide +kernel
theorem dX10_rival_29 : decode cX10_rival 29 = .ok (.invokevirtual 163, 3) := by decide +kernel
theorem dX10_rival_32 : decode cX10_rival 32 = .ok (.goto 19, 3) := by decide +kernel
theorem dX10_rival_35 : decode cX10_rival 35 = .ok (.iload_n 3, 1) := by decide +kernel
theorem dX10_rival_36 : decode cX10_rival 36 = .ok (.ifCond .ge 8, 3) := by decide +kernel
theorem dX10_rival_39 : decode cX10_rival 39 = .ok (.bipush (-9), 2) := by decide +kernel
theorem dX10_rival_41 : decode cX10_rival 41 = .ok (.goto 10, 3) := by decide +kernel
theorem dX10_rival_44 : decode cX10_rival 44 = .ok (.aload_n 0, 1) := by decide +kernel
theorem dX10_rival_45 : decode cX10_rival 45 = .ok (.iload_n 1, 1) := by decide +kernel
theorem dX10_rival_46 : decode cX10_rival 46 = .ok (.iload_n 2, 1) := by decide +kernel
theorem dX10_rival_47 : decode cX10_rival 47 = .ok (.iload_n 3, 1) := by decide +kernel
theorem dX10_rival_48 : decode cX10_rival 48 = .ok (.invokevirtual 323, 3) := by decide +kernel
theorem dX10_rival_51 : decode cX10_rival 51 = .ok (.ireturn, 1) := by decide +kernel
theorem dX10_net_0 : decode cX10_net 0 = .ok (.iload_n 1, 1) := by decide +kernel
theorem dX10_net_1 : decode cX10_net 1 = .ok (.invokestatic 191, 3) := by decide +kernel
theorem dX10_net_4 : decode cX10_net 4 = .ok (.ifCond .eq 12, 3) := by decide +kernel
theorem dX10_net_7 : decode cX10_net 7 = .ok (.aload_n 0, 1) := by decide +kernel
theorem dX10_net_8 : decode cX10_net 8 = .ok (.getfield 34, 3) := by decide +kernel
theorem dX10_net_11 : decode cX10_net 11 = .ok (.iload_n 1, 1) := by decide +kernel
theorem dX10_net_12 : decode cX10_net 12 = .ok (.laload, 1) := by decide +kernel
theorem dX10_net_13 : decode cX10_net 13 = .ok (.goto 8, 3) := by decide +kernel
theorem dX10_net_16 : decode cX10_net 16 = .ok (.aload_n 0, 1) := by decide +kernel
theorem dX10_net_17 : decode cX10_net 17 = .ok (.iconst (-1), 1) := by decide +kernel
theorem dX10_net_18 : decode cX10_net 18 = .ok (.invokevirtual 207, 3) := by decide +kernel
theorem dX10_net_21 : decode cX10_net 21 = .ok (.lreturn, 1) := by decide +kernel
theorem dX10_tell_0 : decode cX10_tell 0 = .ok (.aload_n 0, 1) := by decide +kernel
theorem dX10_tell_1 : decode cX10_tell 1 = .ok (.getfield 326, 3) := by decide +kernel
theorem dX10_tell_4 : decode cX10_tell 4 = .ok (.bipush 8, 2) := by decide +kernel
theorem dX10_tell_6 : decode cX10_tell 6 = .ok (.if_icmp .ne 10, 3) := by decide +kernel
theorem dX10_tell_9 : decode cX10_tell 9 = .ok (.aload_n 0, 1) := by decide +kernel
theorem dX10_tell_10 : decode cX10_tell 10 = .ok (.bipush (-6), 2) := by decide +kernel
theorem dX10_tell_12 : decode cX10_tell 12 = .ok (.invokevirtual 163, 3) := by decide +kernel
theorem dX10_tell_15 : decode cX10_tell 15 = .ok (.ireturn, 1) := by decide +kernel
theorem dX10_tell_16 : decode cX10_tell 16 = .ok (.aload_n 0, 1) := by decide +kernel
theorem dX10_tell_17 : decode cX10_tell 17 = .ok (.getfield 38, 3) := by decide +kernel
theorem dX10_tell_20 : decode cX10_tell 20 = .ok (.aload_n 0, 1) := by decide +kernel
theorem dX10_tell_21 : decode cX10_tell 21 = .ok (.getfield 326, 3) := by decide +kernel
theorem dX10_tell_24 : decode cX10_tell 24 = .ok (.lload_n 1, 1) := by decide +kernel
theorem dX10_tell_25 : decode cX10_tell 25 = .ok (.lastore, 1) := by decide +kernel
theorem dX10_tell_26 : decode cX10_tell 26 = .ok (.aload_n 0, 1) := by decide +kernel
theorem dX10_tell_27 : decode cX10_tell 27 = .ok (.dup, 1) := by decide +kernel
theorem dX10_tell_28 : decode cX10_tell 28 = .ok (.getfield 326, 3) := by decide +kernel
theorem dX10_tell_31 : decode cX10_tell 31 = .ok (.iconst 1, 1) := by decide +kernel
theorem dX10_tell_32 : decode cX10_tell 32 = .ok (.iadd, 1) := by decide +kernel
theorem dX10_tell_33 : decode cX10_tell 33 = .ok (.putfield 326, 3) := by decide +kernel
theorem dX10_tell_36 : decode cX10_tell 36 = .ok (.aload_n 0, 1) := by decide +kernel
theorem dX10_tell_37 : decode cX10_tell 37 = .ok (.getfield 326, 3) := by decide +kernel
theorem dX10_tell_40 : decode cX10_tell 40 = .ok (.ireturn, 1) := by decide +kernel
theorem dX10_check_0 : decode cX10_check 0 = .ok (.aload_n 0, 1) := by decide +kernel
theorem dX10_check_1 : decode cX10_check 1 = .ok (.getfield 326, 3) := by decide +kernel
theorem dX10_check_4 : decode cX10_check 4 = .ok (.bipush 8, 2) := by decide +kernel
theorem dX10_check_6 : decode cX10_check 6 = .ok (.if_icmp .ge 10, 3) := by decide +kernel
theorem dX10_check_9 : decode cX10_check 9 = .ok (.aload_n 0, 1) := by decide +kernel
theorem dX10_check_10 : decode cX10_check 10 = .ok (.bipush (-3), 2) := by decide +kernel
theorem dX10_check_12 : decode cX10_check 12 = .ok (.invokevirtual 163, 3) := by decide +kernel
theorem dX10_check_15 : decode cX10_check 15 = .ok (.ireturn, 1) := by decide +kernel
theorem dX10_check_16 : decode cX10_check 16 = .ok (.aload_n 0, 1) := by decide +kernel
theorem dX10_check_17 : decode cX10_check 17 = .ok (.iconst 0, 1) := by decide +kernel
theorem dX10_check_18 : decode cX10_check 18 = .ok (.putfield 326, 3) := by decide +kernel
theorem dX10_check_21 : decode cX10_check 21 = .ok (.iconst 0, 1) := by decide +kernel
theorem dX10_check_22 : decode cX10_check 22 = .ok (.istore_n 1, 1) := by decide +kernel
theorem dX10_check_23 : decode cX10_check 23 = .ok (.iload_n 1, 1) := by decide +kernel
theorem dX10_check_24 : decode cX10_check 24 = .ok (.bipush 8, 2) := by decide +kernel
theorem dX10_check_26 : decode cX10_check 26 = .ok (.if_icmp .ge 27, 3) := by decide +kernel
theorem dX10_check_29 : decode cX10_check 29 = .ok (.aload_n 0, 1) := by decide +kernel
theorem dX10_check_30 : decode cX10_check 30 = .ok (.getfield 38, 3) := by decide +kernel
theorem dX10_check_33 : decode cX10_check 33 = .ok (.iload_n 1, 1) := by decide +kernel
theorem dX10_check_34 : decode cX10_check 34 = .ok (.laload, 1) := by decide +kernel
theorem dX10_check_35 : decode cX10_check 35 = .ok (.aload_n 0, 1) := by decide +kernel
theorem dX10_check_36 : decode cX10_check 36 = .ok (.getfield 34, 3) := by decide +kernel
theorem dX10_check_39 : decode cX10_check 39 = .ok (.iload_n 1, 1) := by decide +kernel
theorem dX10_check_40 : decode cX10_check 40 = .ok (.laload, 1) := by decide +kernel
theorem dX10_check_41 : decode cX10_check 41 = .ok (.lcmp, 1) := by decide +kernel
theorem dX10_check_42 : decode cX10_check 42 = .ok (.ifCond .eq 5, 3) := by decide +kernel
theorem dX10_check_45 : decode cX10_check 45 = .ok (.iload_n 1, 1) := by decide +kernel
theorem dX10_check_46 : decode cX10_check 46 = .ok (.ireturn, 1) := by decide +kernel
theorem dX10_check_47 : decode cX10_check 47 = .ok (.iinc 1 1, 3) := by decide +kernel
theorem dX10_check_50 : decode cX10_check 50 = .ok (.goto (-27), 3) := by decide +kernel
theorem dX10_check_53 : decode cX10_check 53 = .ok (.bipush (-9), 2) := by decide +kernel
theorem dX10_check_55 : decode cX10_check 55 = .ok (.ireturn, 1) := by decide +kernel
theorem dX10_surge_0 : decode cX10_surge 0 = .ok (.iload_n 1, 1) := by decide +kernel
theorem dX10_surge_1 : decode cX10_surge 1 = .ok (.iconst 0, 1) := by decide +kernel
theorem dX10_surge_2 : decode cX10_surge 2 = .ok (.bipush 127, 2) := by decide +kernel
theorem dX10_surge_4 : decode cX10_surge 4 = .ok (.invokestatic 187, 3) := by decide +kernel
theorem dX10_surge_7 : decode cX10_surge 7 = .ok (.istore_n 2, 1) := by decide +kernel
theorem dX10_surge_8 : decode cX10_surge 8 = .ok (.iload_n 2, 1) := by decide +kernel
theorem dX10_surge_9 : decode cX10_surge 9 = .ok (.ifCond .ne 15, 3) := by decide +kernel
theorem dX10_surge_12 : decode cX10_surge 12 = .ok (.aload_n 0, 1) := by decide +kernel
theorem dX10_surge_13 : decode cX10_surge 13 = .ok (.getfield 329, 3) := by decide +kernel
theorem dX10_surge_16 : decode cX10_surge 16 = .ok (.bipush 9, 2) := by decide +kernel
theorem dX10_surge_18 : decode cX10_surge 18 = .ok (.if_icmp .ne 6, 3) := by decide +kernel
theorem dX10_surge_21 : decode cX10_surge 21 = .ok (.bipush (-6), 2) := by decide +kernel
theorem dX10_surge_23 : decode cX10_surge 23 = .ok (.istore_n 2, 1) := by decide +kernel
theorem dX10_surge_24 : decode cX10_surge 24 = .ok (.iload_n 2, 1) := by decide +kernel
theorem dX10_surge_25 : decode cX10_surge 25 = .ok (.ifCond .eq 9, 3) := by decide +kernel
theorem dX10_surge_28 : decode cX10_surge 28 = .ok (.aload_n 0, 1) := by decide +kernel
theorem dX10_surge_29 : decode cX10_surge 29 = .ok (.iload_n 2, 1) := by decide +kernel
theorem dX10_surge_30 : decode cX10_surge 30 = .ok (.invokevirtual 163, 3) := by decide +kernel
theorem dX10_surge_33 : decode cX10_surge 33 = .ok (.ireturn, 1) := by decide +kernel
theorem dX10_surge_34 : decode cX10_surge 34 = .ok (.aload_n 0, 1) := by decide +kernel
theorem dX10_surge_35 : decode cX10_surge 35 = .ok (.getfield 148, 3) := by decide +kernel
theorem dX10_surge_38 : decode cX10_surge 38 = .ok (.aload_n 0, 1) := by decide +kernel
theorem dX10_surge_39 : decode cX10_surge 39 = .ok (.getfield 329, 3) := by decide +kernel
theorem dX10_surge_42 : decode cX10_surge 42 = .ok (.iload_n 1, 1) := by decide +kernel
theorem dX10_surge_43 : decode cX10_surge 43 = .ok (.iastore, 1) := by decide +kernel
theorem dX10_surge_44 : decode cX10_surge 44 = .ok (.aload_n 0, 1) := by decide +kernel
theorem dX10_surge_45 : decode cX10_surge 45 = .ok (.dup, 1) := by decide +kernel
theorem dX10_surge_46 : decode cX10_surge 46 = .ok (.getfield 329, 3) := by decide +kernel
theorem dX10_surge_49 : decode cX10_surge 49 = .ok (.iconst 1, 1) := by decide +kernel
theorem dX10_surge_50 : decode cX10_surge 50 = .ok (.iadd, 1) := by decide +kernel
theorem dX10_surge_51 : decode cX10_surge 51 = .ok (.putfield 329, 3) := by decide +kernel
theorem dX10_surge_54 : decode cX10_surge 54 = .ok (.aload_n 0, 1) := by decide +kernel
theorem dX10_surge_55 : decode cX10_surge 55 = .ok (.getfield 329, 3) := by decide +kernel
theorem dX10_surge_58 : decode cX10_surge 58 = .ok (.ireturn, 1) := by decide +kernel
theorem dX10_least_0 : decode cX10_least 0 = .ok (.iconst 0, 1) := by decide +kernel
theorem dX10_least_1 : decode cX10_least 1 = .ok (.istore_n 1, 1) := by decide +kernel
theorem dX10_least_2 : decode cX10_least 2 = .ok (.iconst 0, 1) := by decide +kernel
theorem dX10_least_3 : decode cX10_least 3 = .ok (.istore_n 2, 1) := by decide +kernel
theorem dX10_least_4 : decode cX10_least 4 = .ok (.iload_n 2, 1) := by decide +kernel
theorem dX10_least_5 : decode cX10_least 5 = .ok (.aload_n 0, 1) := by decide +kernel
theorem dX10_least_6 : decode cX10_least 6 = .ok (.getfield 329, 3) := by decide +kernel
theorem dX10_least_9 : decode cX10_least 9 = .ok (.if_icmp .ge 74, 3) := by decide +kernel
theorem dX10_least_12 : decode cX10_least 12 = .ok (.iconst 0, 1) := by decide +kernel
theorem dX10_least_13 : decode cX10_least 13 = .ok (.istore_n 3, 1) := by decide +kernel
theorem dX10_least_14 : decode cX10_least 14 = .ok (.iload_n 2, 1) := by decide +kernel
theorem dX10_least_15 : decode cX10_least 15 = .ok (.istore 4, 2) := by decide +kernel
theorem dX10_least_17 : decode cX10_least 17 = .ok (.iload 4, 2) := by decide +kernel
theorem dX10_least_19 : decode cX10_least 19 = .ok (.aload_n 0, 1) := by decide +kernel
theorem dX10_least_20 : decode cX10_least 20 = .ok (.getfield 329, 3) := by decide +kernel
theorem dX10_least_23 : decode cX10_least 23 = .ok (.if_icmp .ge 54, 3) := by decide +kernel
theorem dX10_least_26 : decode cX10_least 26 = .ok (.iload_n 3, 1) := by decide +kernel
theorem dX10_least_27 : decode cX10_least 27 = .ok (.aload_n 0, 1) := by decide +kernel
theorem dX10_least_28 : decode cX10_least 28 = .ok (.getfield 148, 3) := by decide +kernel
theorem dX10_least_31 : decode cX10_least 31 = .ok (.iload 4, 2) := by decide +kernel
theorem dX10_least_33 : decode cX10_least 33 = .ok (.iaload, 1) := by decide +kernel
theorem dX10_least_34 : decode cX10_least 34 = .ok (.iadd, 1) := by decide +kernel
theorem dX10_least_35 : decode cX10_least 35 = .ok (.istore_n 3, 1) := by decide +kernel
theorem dX10_least_36 : decode cX10_least 36 = .ok (.iload 4, 2) := by decide +kernel
theorem dX10_least_38 : decode cX10_least 38 = .ok (.iload_n 2, 1) := by decide +kernel
theorem dX10_least_39 : decode cX10_least 39 = .ok (.isub, 1) := by decide +kernel
theorem dX10_least_40 : decode cX10_least 40 = .ok (.iconst 3, 1) := by decide +kernel
theorem dX10_least_41 : decode cX10_least 41 = .ok (.iadd, 1) := by decide +kernel
theorem dX10_least_42 : decode cX10_least 42 = .ok (.istore 5, 2) := by decide +kernel
theorem dX10_least_44 : decode cX10_least 44 = .ok (.iload_n 3, 1) := by decide +kernel
theorem dX10_least_45 : decode cX10_least 45 = .ok (.iload 5, 2) := by decide +kernel
theorem dX10_least_47 : decode cX10_least 47 = .ok (.iadd, 1) := by decide +kernel
theorem dX10_least_48 : decode cX10_least 48 = .ok (.iconst 1, 1) := by decide +kernel
theorem dX10_least_49 : decode cX10_least 49 = .ok (.isub, 1) := by decide +kernel
theorem dX10_least_50 : decode cX10_least 50 = .ok (.iload 5, 2) := by decide +kernel
theorem dX10_least_52 : decode cX10_least 52 = .ok (.idiv, 1) := by decide +kernel
theorem dX10_least_53 : decode cX10_least 53 = .ok (.iload_n 1, 1) := by decide +kernel
theorem dX10_least_54 : decode cX10_least 54 = .ok (.if_icmp .le 15, 3) := by decide +kernel
theorem dX10_least_57 : decode cX10_least 57 = .ok (.iload_n 3, 1) := by decide +kernel
theorem dX10_least_58 : decode cX10_least 58 = .ok (.iload 5, 2) := by decide +kernel
theorem dX10_least_60 : decode cX10_least 60 = .ok (.iadd, 1) := by decide +kernel
theorem dX10_least_61 : decode cX10_least 61 = .ok (.iconst 1, 1) := by decide +kernel
theorem dX10_least_62 : decode cX10_least 62 = .ok (.isub, 1) := by decide +kernel
theorem dX10_least_63 : decode cX10_least 63 = .ok (.iload 5, 2) := by decide +kernel
theorem dX10_least_65 : decode cX10_least 65 = .ok (.idiv, 1) := by decide +kernel
theorem dX10_least_66 : decode cX10_least 66 = .ok (.goto 4, 3) := by decide +kernel
theorem dX10_least_69 : decode cX10_least 69 = .ok (.iload_n 1, 1) := by decide +kernel
theorem dX10_least_70 : decode cX10_least 70 = .ok (.istore_n 1, 1) := by decide +kernel
theorem dX10_least_71 : decode cX10_least 71 = .ok (.iinc 4 1, 3) := by decide +kernel
theorem dX10_least_74 : decode cX10_least 74 = .ok (.goto (-57), 3) := by decide +kernel
theorem dX10_least_77 : decode cX10_least 77 = .ok (.iinc 2 1, 3) := by decide +kernel
theorem dX10_least_80 : decode cX10_least 80 = .ok (.goto (-76), 3) := by decide +kernel
theorem dX10_least_83 : decode cX10_least 83 = .ok (.iload_n 1, 1) := by decide +kernel
theorem dX10_least_84 : decode cX10_least 84 = .ok (.ireturn, 1) := by decide +kernel
theorem dX10_tooLate_0 : decode cX10_tooLate 0 = .ok (.iload_n 1, 1) := by decide +kernel
theorem dX10_tooLate_1 : decode cX10_tooLate 1 = .ok (.iconst 0, 1) := by decide +kernel
theorem dX10_tooLate_2 : decode cX10_tooLate 2 = .ok (.sipush 999, 3) := by decide +kernel
theorem dX10_tooLate_5 : decode cX10_tooLate 5 = .ok (.invokestatic 187, 3) := by decide +kernel
theorem dX10_tooLate_8 : decode cX10_tooLate 8 = .ok (.istore_n 2, 1) := by decide +kernel
theorem dX10_tooLate_9 : decode cX10_tooLate 9 = .ok (.iload_n 2, 1) := by decide +kernel
theorem dX10_tooLate_10 : decode cX10_tooLate 10 = .ok (.ifCond .eq 9, 3) := by decide +kernel
theorem dX10_tooLate_13 : decode cX10_tooLate 13 = .ok (.aload_n 0, 1) := by decide +kernel
theorem dX10_tooLate_14 : decode cX10_tooLate 14 = .ok (.iload_n 2, 1) := by decide +kernel
theorem dX10_tooLate_15 : decode cX10_tooLate 15 = .ok (.invokevirtual 163, 3) := by decide +kernel
theorem dX10_tooLate_18 : decode cX10_tooLate 18 = .ok (.ireturn, 1) := by decide +kernel
theorem dX10_tooLate_19 : decode cX10_tooLate 19 = .ok (.aload_n 0, 1) := by decide +kernel
theorem dX10_tooLate_20 : decode cX10_tooLate 20 = .ok (.getfield 329, 3) := by decide +kernel
theorem dX10_tooLate_23 : decode cX10_tooLate 23 = .ok (.istore_n 3, 1) := by decide +kernel
theorem dX10_tooLate_24 : decode cX10_tooLate 24 = .ok (.aload_n 0, 1) := by decide +kernel
theorem dX10_tooLate_25 : decode cX10_tooLate 25 = .ok (.iconst 0, 1) := by decide +kernel
theorem dX10_tooLate_26 : decode cX10_tooLate 26 = .ok (.putfield 329, 3) := by decide +kernel
theorem dX10_tooLate_29 : decode cX10_tooLate 29 = .ok (.iconst 0, 1) := by decide +kernel
theorem dX10_tooLate_30 : decode cX10_tooLate 30 = .ok (.istore 4, 2) := by decide +kernel
theorem dX10_tooLate_32 : decode cX10_tooLate 32 = .ok (.iload 4, 2) := by decide +kernel
theorem dX10_tooLate_34 : decode cX10_tooLate 34 = .ok (.iload_n 3, 1) := by decide +kernel
theorem dX10_tooLate_35 : decode cX10_tooLate 35 = .ok (.iconst 2, 1) := by decide +kernel
theorem dX10_tooLate_36 : decode cX10_tooLate 36 = .ok (.iadd, 1) := by decide +kernel
theorem dX10_tooLate_37 : decode cX10_tooLate 37 = .ok (.if_icmp .ge 116, 3) := by decide +kernel
theorem dX10_tooLate_40 : decode cX10_tooLate 40 = .ok (.iload_n 1, 1) := by decide +kernel
theorem dX10_tooLate_41 : decode cX10_tooLate 41 = .ok (.istore 5, 2) := by decide +kernel
theorem dX10_tooLate_43 : decode cX10_tooLate 43 = .ok (.iconst 0, 1) := by decide +kernel
theorem dX10_tooLate_44 : decode cX10_tooLate 44 = .ok (.istore 6, 2) := by decide +kernel
theorem dX10_tooLate_46 : decode cX10_tooLate 46 = .ok (.iload 6, 2) := by decide +kernel
theorem dX10_tooLate_48 : decode cX10_tooLate 48 = .ok (.iload 4, 2) := by decide +kernel
theorem dX10_tooLate_50 : decode cX10_tooLate 50 = .ok (.if_icmp .gt 60, 3) := by decide +kernel
theorem dX10_tooLate_53 : decode cX10_tooLate 53 = .ok (.iload 6, 2) := by decide +kernel
theorem dX10_tooLate_55 : decode cX10_tooLate 55 = .ok (.iload_n 3, 1) := by decide +kernel
theorem dX10_tooLate_56 : decode cX10_tooLate 56 = .ok (.if_icmp .ge 54, 3) := by decide +kernel
theorem dX10_tooLate_59 : decode cX10_tooLate 59 = .ok (.aload_n 0, 1) := by decide +kernel
theorem dX10_tooLate_60 : decode cX10_tooLate 60 = .ok (.getfield 148, 3) := by decide +kernel
theorem dX10_tooLate_63 : decode cX10_tooLate 63 = .ok (.iload 6, 2) := by decide +kernel
theorem dX10_tooLate_65 : decode cX10_tooLate 65 = .ok (.iaload, 1) := by decide +kernel
theorem dX10_tooLate_66 : decode cX10_tooLate 66 = .ok (.iload 5, 2) := by decide +kernel
theorem dX10_tooLate_68 : decode cX10_tooLate 68 = .ok (.if_icmp .ge 13, 3) := by decide +kernel
theorem dX10_tooLate_71 : decode cX10_tooLate 71 = .ok (.aload_n 0, 1) := by decide +kernel
theorem dX10_tooLate_72 : decode cX10_tooLate 72 = .ok (.getfield 148, 3) := by decide +kernel
theorem dX10_tooLate_75 : decode cX10_tooLate 75 = .ok (.iload 6, 2) := by decide +kernel
theorem dX10_tooLate_77 : decode cX10_tooLate 77 = .ok (.iaload, 1) := by decide +kernel
theorem dX10_tooLate_78 : decode cX10_tooLate 78 = .ok (.goto 5, 3) := by decide +kernel
theorem dX10_tooLate_81 : decode cX10_tooLate 81 = .ok (.iload 5, 2) := by decide +kernel
theorem dX10_tooLate_83 : decode cX10_tooLate 83 = .ok (.istore 7, 2) := by decide +kernel
theorem dX10_tooLate_85 : decode cX10_tooLate 85 = .ok (.aload_n 0, 1) := by decide +kernel
theorem dX10_tooLate_86 : decode cX10_tooLate 86 = .ok (.getfield 148, 3) := by decide +kernel
theorem dX10_tooLate_89 : decode cX10_tooLate 89 = .ok (.iload 6, 2) := by decide +kernel
theorem dX10_tooLate_91 : decode cX10_tooLate 91 = .ok (.dup2, 1) := by decide +kernel
theorem dX10_tooLate_92 : decode cX10_tooLate 92 = .ok (.iaload, 1) := by decide +kernel
theorem dX10_tooLate_93 : decode cX10_tooLate 93 = .ok (.iload 7, 2) := by decide +kernel
theorem dX10_tooLate_95 : decode cX10_tooLate 95 = .ok (.isub, 1) := by decide +kernel
theorem dX10_tooLate_96 : decode cX10_tooLate 96 = .ok (.iastore, 1) := by decide +kernel
theorem dX10_tooLate_97 : decode cX10_tooLate 97 = .ok (.iload 5, 2) := by decide +kernel
theorem dX10_tooLate_99 : decode cX10_tooLate 99 = .ok (.iload 7, 2) := by decide +kernel
theorem dX10_tooLate_101 : decode cX10_tooLate 101 = .ok (.isub, 1) := by decide +kernel
theorem dX10_tooLate_102 : decode cX10_tooLate 102 = .ok (.istore 5, 2) := by decide +kernel
theorem dX10_tooLate_104 : decode cX10_tooLate 104 = .ok (.iinc 6 1, 3) := by decide +kernel
theorem dX10_tooLate_107 : decode cX10_tooLate 107 = .ok (.goto (-61), 3) := by decide +kernel
theorem dX10_tooLate_110 : decode cX10_tooLate 110 = .ok (.iconst 0, 1) := by decide +kernel
theorem dX10_tooLate_111 : decode cX10_tooLate 111 = .ok (.istore 6, 2) := by decide +kernel
theorem dX10_tooLate_113 : decode cX10_tooLate 113 = .ok (.iload 6, 2) := by decide +kernel
theorem dX10_tooLate_115 : decode cX10_tooLate 115 = .ok (.iload 4, 2) := by decide +kernel
theorem dX10_tooLate_117 : decode cX10_tooLate 117 = .ok (.iconst 2, 1) := by decide +kernel
theorem dX10_tooLate_118 : decode cX10_tooLate 118 = .ok (.isub, 1) := by decide +kernel
theorem dX10_tooLate_119 : decode cX10_tooLate 119 = .ok (.if_icmp .gt 28, 3) := by decide +kernel
theorem dX10_tooLate_122 : decode cX10_tooLate 122 = .ok (.iload 6, 2) := by decide +kernel
theorem dX10_tooLate_124 : decode cX10_tooLate 124 = .ok (.iload_n 3, 1) := by decide +kernel
theorem dX10_tooLate_125 : decode cX10_tooLate 125 = .ok (.if_icmp .ge 22, 3) := by decide +kernel
theorem dX10_tooLate_128 : decode cX10_tooLate 128 = .ok (.aload_n 0, 1) := by decide +kernel
theorem dX10_tooLate_129 : decode cX10_tooLate 129 = .ok (.getfield 148, 3) := by decide +kernel
theorem dX10_tooLate_132 : decode cX10_tooLate 132 = .ok (.iload 6, 2) := by decide +kernel
theorem dX10_tooLate_134 : decode cX10_tooLate 134 = .ok (.iaload, 1) := by decide +kernel
theorem dX10_tooLate_135 : decode cX10_tooLate 135 = .ok (.ifCond .le 6, 3) := by decide +kernel
theorem dX10_tooLate_138 : decode cX10_tooLate 138 = .ok (.iload 4, 2) := by decide +kernel
theorem dX10_tooLate_140 : decode cX10_tooLate 140 = .ok (.ireturn, 1) := by decide +kernel
theorem dX10_tooLate_141 : decode cX10_tooLate 141 = .ok (.iinc 6 1, 3) := by decide +kernel
theorem dX10_tooLate_144 : decode cX10_tooLate 144 = .ok (.goto (-31), 3) := by decide +kernel
theorem dX10_tooLate_147 : decode cX10_tooLate 147 = .ok (.iinc 4 1, 3) := by decide +kernel
theorem dX10_tooLate_150 : decode cX10_tooLate 150 = .ok (.goto (-118), 3) := by decide +kernel
theorem dX10_tooLate_153 : decode cX10_tooLate 153 = .ok (.bipush (-9), 2) := by decide +kernel
theorem dX10_tooLate_155 : decode cX10_tooLate 155 = .ok (.ireturn, 1) := by decide +kernel
theorem dX10_count_0 : decode cX10_count 0 = .ok (.iload_n 1, 1) := by decide +kernel
theorem dX10_count_1 : decode cX10_count 1 = .ok (.bipush 10, 2) := by decide +kernel
theorem dX10_count_3 : decode cX10_count 3 = .ok (.if_icmp .le 19, 3) := by decide +kernel
theorem dX10_count_6 : decode cX10_count 6 = .ok (.iload_n 1, 1) := by decide +kernel
theorem dX10_count_7 : decode cX10_count 7 = .ok (.bipush 17, 2) := by decide +kernel
theorem dX10_count_9 : decode cX10_count 9 = .ok (.if_icmp .ge 13, 3) := by decide +kernel
theorem dX10_count_12 : decode cX10_count 12 = .ok (.aload_n 0, 1) := by decide +kernel
theorem dX10_count_13 : decode cX10_count 13 = .ok (.getfield 7, 3) := by decide +kernel
theorem dX10_count_16 : decode cX10_count 16 = .ok (.iload_n 1, 1) := by decide +kernel
theorem dX10_count_17 : decode cX10_count 17 = .ok (.bipush 10, 2) := by decide +kernel
theorem dX10_count_19 : decode cX10_count 19 = .ok (.isub, 1) := by decide +kernel
theorem dX10_count_20 : decode cX10_count 20 = .ok (.iaload, 1) := by decide +kernel
theorem dX10_count_21 : decode cX10_count 21 = .ok (.ireturn, 1) := by decide +kernel
theorem dX10_count_22 : decode cX10_count 22 = .ok (.iconst 0, 1) := by decide +kernel
theorem dX10_count_23 : decode cX10_count 23 = .ok (.istore_n 2, 1) := by decide +kernel
theorem dX10_count_24 : decode cX10_count 24 = .ok (.iload_n 1, 1) := by decide +kernel
theorem dX10_count_25 : decode cX10_count 25 = .ok (.tableswitch 204 0 10 #[59, 64, 69, 104, 139, 144, 179, 184, 189, 194, 199], 59) := by decide +kernel
theorem dX10_count_84 : decode cX10_count 84 = .ok (.aload_n 0, 1) := by decide +kernel
theorem dX10_count_85 : decode cX10_count 85 = .ok (.getfield 177, 3) := by decide +kernel
theorem dX10_count_88 : decode cX10_count 88 = .ok (.ireturn, 1) := by decide +kernel
theorem dX10_count_89 : decode cX10_count 89 = .ok (.aload_n 0, 1) := by decide +kernel
theorem dX10_count_90 : decode cX10_count 90 = .ok (.getfield 171, 3) := by decide +kernel
theorem dX10_count_93 : decode cX10_count 93 = .ok (.ireturn, 1) := by decide +kernel
theorem dX10_count_94 : decode cX10_count 94 = .ok (.iconst 0, 1) := by decide +kernel
theorem dX10_count_95 : decode cX10_count 95 = .ok (.istore_n 3, 1) := by decide +kernel
theorem dX10_count_96 : decode cX10_count 96 = .ok (.iload_n 3, 1) := by decide +kernel
theorem dX10_count_97 : decode cX10_count 97 = .ok (.aload_n 0, 1) := by decide +kernel
theorem dX10_count_98 : decode cX10_count 98 = .ok (.getfield 171, 3) := by decide +kernel
theorem dX10_count_101 : decode cX10_count 101 = .ok (.if_icmp .ge 26, 3) := by decide +kernel
theorem dX10_count_104 : decode cX10_count 104 = .ok (.iload_n 2, 1) := by decide +kernel
theorem dX10_count_105 : decode cX10_count 105 = .ok (.aload_n 0, 1) := by decide +kernel
theorem dX10_count_106 : decode cX10_count 106 = .ok (.getfield 53, 3) := by decide +kernel
theorem dX10_count_109 : decode cX10_count 109 = .ok (.iload_n 3, 1) := by decide +kernel
theorem dX10_count_110 : decode cX10_count 110 = .ok (.iaload, 1) := by decide +kernel
theorem dX10_count_111 : decode cX10_count 111 = .ok (.ifCond .ne 7, 3) := by decide +kernel
theorem dX10_count_114 : decode cX10_count 114 = .ok (.iconst 1, 1) := by decide +kernel
theorem dX10_count_115 : decode cX10_count 115 = .ok (.goto 4, 3) := by decide +kernel
theorem dX10_count_118 : decode cX10_count 118 = .ok (.iconst 0, 1) := by decide +kernel
theorem dX10_count_119 : decode cX10_count 119 = .ok (.iadd, 1) := by decide +kernel
theorem dX10_count_120 : decode cX10_count 120 = .ok (.istore_n 2, 1) := by decide +kernel
theorem dX10_count_121 : decode cX10_count 121 = .ok (.iinc 3 1, 3) := by decide +kernel
theorem dX10_count_124 : decode cX10_count 124 = .ok (.goto (-28), 3) := by decide +kernel
theorem dX10_count_127 : decode cX10_count 127 = .ok (.iload_n 2, 1) := by decide +kernel
theorem dX10_count_128 : decode cX10_count 128 = .ok (.ireturn, 1) := by decide +kernel
theorem dX10_count_129 : decode cX10_count 129 = .ok (.iconst 0, 1) := by decide +kernel
theorem dX10_count_130 : decode cX10_count 130 = .ok (.istore_n 3, 1) := by decide +kernel
theorem dX10_count_131 : decode cX10_count 131 = .ok (.iload_n 3, 1) := by decide +kernel
theorem dX10_count_132 : decode cX10_count 132 = .ok (.aload_n 0, 1) := by decide +kernel
theorem dX10_count_133 : decode cX10_count 133 = .ok (.getfield 287, 3) := by decide +kernel
theorem dX10_count_136 : decode cX10_count 136 = .ok (.if_icmp .ge 26, 3) := by decide +kernel
theorem dX10_count_139 : decode cX10_count 139 = .ok (.iload_n 2, 1) := by decide +kernel
theorem dX10_count_140 : decode cX10_count 140 = .ok (.aload_n 0, 1) := by decide +kernel
theorem dX10_count_141 : decode cX10_count 141 = .ok (.getfield 90, 3) := by decide +kernel
theorem dX10_count_144 : decode cX10_count 144 = .ok (.iload_n 3, 1) := by decide +kernel
theorem dX10_count_145 : decode cX10_count 145 = .ok (.iaload, 1) := by decide +kernel
theorem dX10_count_146 : decode cX10_count 146 = .ok (.ifCond .ge 7, 3) := by decide +kernel
theorem dX10_count_149 : decode cX10_count 149 = .ok (.iconst 1, 1) := by decide +kernel
theorem dX10_count_150 : decode cX10_count 150 = .ok (.goto 4, 3) := by decide +kernel
theorem dX10_count_153 : decode cX10_count 153 = .ok (.iconst 0, 1) := by decide +kernel
theorem dX10_count_154 : decode cX10_count 154 = .ok (.iadd, 1) := by decide +kernel
theorem dX10_count_155 : decode cX10_count 155 = .ok (.istore_n 2, 1) := by decide +kernel
theorem dX10_count_156 : decode cX10_count 156 = .ok (.iinc 3 1, 3) := by decide +kernel
theorem dX10_count_159 : decode cX10_count 159 = .ok (.goto (-28), 3) := by decide +kernel
theorem dX10_count_162 : decode cX10_count 162 = .ok (.iload_n 2, 1) := by decide +kernel
theorem dX10_count_163 : decode cX10_count 163 = .ok (.ireturn, 1) := by decide +kernel
theorem dX10_count_164 : decode cX10_count 164 = .ok (.aload_n 0, 1) := by decide +kernel
theorem dX10_count_165 : decode cX10_count 165 = .ok (.getfield 211, 3) := by decide +kernel
theorem dX10_count_168 : decode cX10_count 168 = .ok (.ireturn, 1) := by decide +kernel
theorem dX10_count_169 : decode cX10_count 169 = .ok (.iconst 0, 1) := by decide +kernel
theorem dX10_count_170 : decode cX10_count 170 = .ok (.istore_n 3, 1) := by decide +kernel
theorem dX10_count_171 : decode cX10_count 171 = .ok (.iload_n 3, 1) := by decide +kernel
theorem dX10_count_172 : decode cX10_count 172 = .ok (.aload_n 0, 1) := by decide +kernel
theorem dX10_count_173 : decode cX10_count 173 = .ok (.getfield 211, 3) := by decide +kernel
theorem dX10_count_176 : decode cX10_count 176 = .ok (.if_icmp .ge 26, 3) := by decide +kernel
theorem dX10_count_179 : decode cX10_count 179 = .ok (.iload_n 2, 1) := by decide +kernel
theorem dX10_count_180 : decode cX10_count 180 = .ok (.aload_n 0, 1) := by decide +kernel
theorem dX10_count_181 : decode cX10_count 181 = .ok (.getfield 126, 3) := by decide +kernel
theorem dX10_count_184 : decode cX10_count 184 = .ok (.iload_n 3, 1) := by decide +kernel
theorem dX10_count_185 : decode cX10_count 185 = .ok (.baload, 1) := by decide +kernel
theorem dX10_count_186 : decode cX10_count 186 = .ok (.ifCond .eq 7, 3) := by decide +kernel
theorem dX10_count_189 : decode cX10_count 189 = .ok (.iconst 1, 1) := by decide +kernel
theorem dX10_count_190 : decode cX10_count 190 = .ok (.goto 4, 3) := by decide +kernel
theorem dX10_count_193 : decode cX10_count 193 = .ok (.iconst 0, 1) := by decide +kernel
theorem dX10_count_194 : decode cX10_count 194 = .ok (.iadd, 1) := by decide +kernel
theorem dX10_count_195 : decode cX10_count 195 = .ok (.istore_n 2, 1) := by decide +kernel
theorem dX10_count_196 : decode cX10_count 196 = .ok (.iinc 3 1, 3) := by decide +kernel
theorem dX10_count_199 : decode cX10_count 199 = .ok (.goto (-28), 3) := by decide +kernel
theorem dX10_count_202 : decode cX10_count 202 = .ok (.iload_n 2, 1) := by decide +kernel
theorem dX10_count_203 : decode cX10_count 203 = .ok (.ireturn, 1) := by decide +kernel
theorem dX10_count_204 : decode cX10_count 204 = .ok (.aload_n 0, 1) := by decide +kernel
theorem dX10_count_205 : decode cX10_count 205 = .ok (.getfield 281, 3) := by decide +kernel
theorem dX10_count_208 : decode cX10_count 208 = .ok (.ireturn, 1) := by decide +kernel
theorem dX10_count_209 : decode cX10_count 209 = .ok (.aload_n 0, 1) := by decide +kernel
theorem dX10_count_210 : decode cX10_count 210 = .ok (.getfield 230, 3) := by decide +kernel
theorem dX10_count_213 : decode cX10_count 213 = .ok (.ireturn, 1) := by decide +kernel
theorem dX10_count_214 : decode cX10_count 214 = .ok (.aload_n 0, 1) := by decide +kernel
theorem dX10_count_215 : decode cX10_count 215 = .ok (.getfield 326, 3) := by decide +kernel
theorem dX10_count_218 : decode cX10_count 218 = .ok (.ireturn, 1) := by decide +kernel
theorem dX10_count_219 : decode cX10_count 219 = .ok (.aload_n 0, 1) := by decide +kernel
theorem dX10_count_220 : decode cX10_count 220 = .ok (.getfield 329, 3) := by decide +kernel
theorem dX10_count_223 : decode cX10_count 223 = .ok (.ireturn, 1) := by decide +kernel
theorem dX10_count_224 : decode cX10_count 224 = .ok (.aload_n 0, 1) := by decide +kernel
theorem dX10_count_225 : decode cX10_count 225 = .ok (.getfield 314, 3) := by decide +kernel
theorem dX10_count_228 : decode cX10_count 228 = .ok (.ireturn, 1) := by decide +kernel
theorem dX10_count_229 : decode cX10_count 229 = .ok (.bipush (-9), 2) := by decide +kernel
theorem dX10_count_231 : decode cX10_count 231 = .ok (.ireturn, 1) := by decide +kernel
theorem dX0_init_0 : decode cX0_init 0 = .ok (.aload_n 0, 1) := by decide +kernel
theorem dX0_init_1 : decode cX0_init 1 = .ok (.invokespecial 3, 3) := by decide +kernel
theorem dX0_init_4 : decode cX0_init 4 = .ok (.aload_n 0, 1) := by decide +kernel
theorem dX0_init_5 : decode cX0_init 5 = .ok (.iload_n 1, 1) := by decide +kernel
theorem dX0_init_6 : decode cX0_init 6 = .ok (.putfield 9, 3) := by decide +kernel
theorem dX0_init_9 : decode cX0_init 9 = .ok (.aload_n 0, 1) := by decide +kernel
theorem dX0_init_10 : decode cX0_init 10 = .ok (.aload_n 2, 1) := by decide +kernel
theorem dX0_init_11 : decode cX0_init 11 = .ok (.putfield 15, 3) := by decide +kernel
theorem dX0_init_14 : decode cX0_init 14 = .ok (.aload_n 0, 1) := by decide +kernel
theorem dX0_init_15 : decode cX0_init 15 = .ok (.iload_n 3, 1) := by decide +kernel
theorem dX0_init_16 : decode cX0_init 16 = .ok (.putfield 19, 3) := by decide +kernel
theorem dX0_init_19 : decode cX0_init 19 = .ok (.aload_n 0, 1) := by decide +kernel
theorem dX0_init_20 : decode cX0_init 20 = .ok (.iload 4, 2) := by decide +kernel
theorem dX0_init_22 : decode cX0_init 22 = .ok (.putfield 22, 3) := by decide +kernel
theorem dX0_init_25 : decode cX0_init 25 = .ok (.aload_n 0, 1) := by decide +kernel
theorem dX0_init_26 : decode cX0_init 26 = .ok (.iload 5, 2) := by decide +kernel
theorem dX0_init_28 : decode cX0_init 28 = .ok (.putfield 25, 3) := by decide +kernel
theorem dX0_init_31 : decode cX0_init 31 = .ok (.aload_n 0, 1) := by decide +kernel
theorem dX0_init_32 : decode cX0_init 32 = .ok (.iload 5, 2) := by decide +kernel
theorem dX0_init_34 : decode cX0_init 34 = .ok (.sipush 1500, 3) := by decide +kernel
theorem dX0_init_37 : decode cX0_init 37 = .ok (.if_icmp .ge 12, 3) := by decide +kernel
theorem dX0_init_40 : decode cX0_init 40 = .ok (.sipush 1500, 3) := by decide +kernel
theorem dX0_init_43 : decode cX0_init 43 = .ok (.iload 5, 2) := by decide +kernel
theorem dX0_init_45 : decode cX0_init 45 = .ok (.isub, 1) := by decide +kernel
theorem dX0_init_46 : decode cX0_init 46 = .ok (.goto 4, 3) := by decide +kernel
theorem dX0_init_49 : decode cX0_init 49 = .ok (.iconst 0, 1) := by decide +kernel
theorem dX0_init_50 : decode cX0_init 50 = .ok (.newarray .long, 2) := by decide +kernel
theorem dX0_init_52 : decode cX0_init 52 = .ok (.putfield 28, 3) := by decide +kernel
theorem dX0_init_55 : decode cX0_init 55 = .ok (.return_, 1) := by decide +kernel
theorem dX0_isJoint_0 : decode cX0_isJoint 0 = .ok (.aload_n 0, 1) := by decide +kernel
theorem dX0_isJoint_1 : decode cX0_isJoint 1 = .ok (.getfield 22, 3) := by decide +kernel
theorem dX0_isJoint_4 : decode cX0_isJoint 4 = .ok (.ifCond .lt 7, 3) := by decide +kernel
theorem dX0_isJoint_7 : decode cX0_isJoint 7 = .ok (.iconst 1, 1) := by decide +kernel
theorem dX0_isJoint_8 : decode cX0_isJoint 8 = .ok (.goto 4, 3) := by decide +kernel
theorem dX0_isJoint_11 : decode cX0_isJoint 11 = .ok (.iconst 0, 1) := by decide +kernel
theorem dX0_isJoint_12 : decode cX0_isJoint 12 = .ok (.ireturn, 1) := by decide +kernel
theorem dX0_keepSum_0 : decode cX0_keepSum 0 = .ok (.iload_n 1, 1) := by decide +kernel
theorem dX0_keepSum_1 : decode cX0_keepSum 1 = .ok (.aload_n 0, 1) := by decide +kernel
theorem dX0_keepSum_2 : decode cX0_keepSum 2 = .ok (.getfield 25, 3) := by decide +kernel
theorem dX0_keepSum_5 : decode cX0_keepSum 5 = .ok (.isub, 1) := by decide +kernel
theorem dX0_keepSum_6 : decode cX0_keepSum 6 = .ok (.istore_n 2, 1) := by decide +kernel
theorem dX0_keepSum_7 : decode cX0_keepSum 7 = .ok (.iload_n 2, 1) := by decide +kernel
theorem dX0_keepSum_8 : decode cX0_keepSum 8 = .ok (.ifCond .lt 22, 3) := by decide +kernel
theorem dX0_keepSum_11 : decode cX0_keepSum 11 = .ok (.iload_n 2, 1) := by decide +kernel
theorem dX0_keepSum_12 : decode cX0_keepSum 12 = .ok (.aload_n 0, 1) := by decide +kernel
theorem dX0_keepSum_13 : decode cX0_keepSum 13 = .ok (.getfield 28, 3) := by decide +kernel
theorem dX0_keepSum_16 : decode cX0_keepSum 16 = .ok (.arraylength, 1) := by decide +kernel
theorem dX0_keepSum_17 : decode cX0_keepSum 17 = .ok (.if_icmp .ge 13, 3) := by decide +kernel
theorem dX0_keepSum_20 : decode cX0_keepSum 20 = .ok (.aload_n 0, 1) := by decide +kernel
theorem dX0_keepSum_21 : decode cX0_keepSum 21 = .ok (.getfield 28, 3) := by decide +kernel
theorem dX0_keepSum_24 : decode cX0_keepSum 24 = .ok (.iload_n 2, 1) := by decide +kernel
theorem dX0_keepSum_25 : decode cX0_keepSum 25 = .ok (.aload_n 0, 1) := by decide +kernel
theorem dX0_keepSum_26 : decode cX0_keepSum 26 = .ok (.getfield 32, 3) := by decide +kernel
theorem dX0_keepSum_29 : decode cX0_keepSum 29 = .ok (.lastore, 1) := by decide +kernel
theorem dX0_keepSum_30 : decode cX0_keepSum 30 = .ok (.return_, 1) := by decide +kernel
theorem dX0_keptSum_0 : decode cX0_keptSum 0 = .ok (.iload_n 1, 1) := by decide +kernel
theorem dX0_keptSum_1 : decode cX0_keptSum 1 = .ok (.aload_n 0, 1) := by decide +kernel
theorem dX0_keptSum_2 : decode cX0_keptSum 2 = .ok (.getfield 25, 3) := by decide +kernel
theorem dX0_keptSum_5 : decode cX0_keptSum 5 = .ok (.isub, 1) := by decide +kernel
theorem dX0_keptSum_6 : decode cX0_keptSum 6 = .ok (.istore_n 2, 1) := by decide +kernel
theorem dX0_keptSum_7 : decode cX0_keptSum 7 = .ok (.iload_n 2, 1) := by decide +kernel
theorem dX0_keptSum_8 : decode cX0_keptSum 8 = .ok (.ifCond .lt 21, 3) := by decide +kernel
theorem dX0_keptSum_11 : decode cX0_keptSum 11 = .ok (.iload_n 2, 1) := by decide +kernel
theorem dX0_keptSum_12 : decode cX0_keptSum 12 = .ok (.aload_n 0, 1) := by decide +kernel
theorem dX0_keptSum_13 : decode cX0_keptSum 13 = .ok (.getfield 28, 3) := by decide +kernel
theorem dX0_keptSum_16 : decode cX0_keptSum 16 = .ok (.arraylength, 1) := by decide +kernel
theorem dX0_keptSum_17 : decode cX0_keptSum 17 = .ok (.if_icmp .ge 12, 3) := by decide +kernel
theorem dX0_keptSum_20 : decode cX0_keptSum 20 = .ok (.aload_n 0, 1) := by decide +kernel
theorem dX0_keptSum_21 : decode cX0_keptSum 21 = .ok (.getfield 28, 3) := by decide +kernel
theorem dX0_keptSum_24 : decode cX0_keptSum 24 = .ok (.iload_n 2, 1) := by decide +kernel
theorem dX0_keptSum_25 : decode cX0_keptSum 25 = .ok (.laload, 1) := by decide +kernel
theorem dX0_keptSum_26 : decode cX0_keptSum 26 = .ok (.goto 4, 3) := by decide +kernel
theorem dX0_keptSum_29 : decode cX0_keptSum 29 = .ok (.lconst 0, 1) := by decide +kernel
theorem dX0_keptSum_30 : decode cX0_keptSum 30 = .ok (.lreturn, 1) := by decide +kernel
theorem dX0_leaveFor_0 : decode cX0_leaveFor 0 = .ok (.aload_n 0, 1) := by decide +kernel
theorem dX0_leaveFor_1 : decode cX0_leaveFor 1 = .ok (.iconst 2, 1) := by decide +kernel
theorem dX0_leaveFor_2 : decode cX0_leaveFor 2 = .ok (.putfield 36, 3) := by decide +kernel
theorem dX0_leaveFor_5 : decode cX0_leaveFor 5 = .ok (.aload_n 0, 1) := by decide +kernel
theorem dX0_leaveFor_6 : decode cX0_leaveFor 6 = .ok (.aload_n 1, 1) := by decide +kernel
theorem dX0_leaveFor_7 : decode cX0_leaveFor 7 = .ok (.putfield 39, 3) := by decide +kernel
theorem dX0_leaveFor_10 : decode cX0_leaveFor 10 = .ok (.aload_n 0, 1) := by decide +kernel
theorem dX0_leaveFor_11 : decode cX0_leaveFor 11 = .ok (.iload_n 2, 1) := by decide +kernel
theorem dX0_leaveFor_12 : decode cX0_leaveFor 12 = .ok (.putfield 43, 3) := by decide +kernel
theorem dX0_leaveFor_15 : decode cX0_leaveFor 15 = .ok (.return_, 1) := by decide +kernel
theorem dX0_likeness_0 : decode cX0_likeness 0 = .ok (.aload_n 0, 1) := by decide +kernel
theorem dX0_likeness_1 : decode cX0_likeness 1 = .ok (.getfield 19, 3) := by decide +kernel
theorem dX0_likeness_4 : decode cX0_likeness 4 = .ok (.iload_n 1, 1) := by decide +kernel
theorem dX0_likeness_5 : decode cX0_likeness 5 = .ok (.invokestatic 46, 3) := by decide +kernel
theorem dX0_likeness_8 : decode cX0_likeness 8 = .ok (.istore_n 2, 1) := by decide +kernel
theorem dX0_likeness_9 : decode cX0_likeness 9 = .ok (.aload_n 0, 1) := by decide +kernel
theorem dX0_likeness_10 : decode cX0_likeness 10 = .ok (.invokevirtual 50, 3) := by decide +kernel
theorem dX0_likeness_13 : decode cX0_likeness 13 = .ok (.ifCond .eq 18, 3) := by decide +kernel
theorem dX0_likeness_16 : decode cX0_likeness 16 = .ok (.iload_n 2, 1) := by decide +kernel
theorem dX0_likeness_17 : decode cX0_likeness 17 = .ok (.aload_n 0, 1) := by decide +kernel
theorem dX0_likeness_18 : decode cX0_likeness 18 = .ok (.getfield 22, 3) := by decide +kernel
theorem dX0_likeness_21 : decode cX0_likeness 21 = .ok (.iload_n 1, 1) := by decide +kernel
theorem dX0_likeness_22 : decode cX0_likeness 22 = .ok (.invokestatic 46, 3) := by decide +kernel
theorem dX0_likeness_25 : decode cX0_likeness 25 = .ok (.invokestatic 54, 3) := by decide +kernel
theorem dX0_likeness_28 : decode cX0_likeness 28 = .ok (.goto 4, 3) := by decide +kernel
theorem dX0_likeness_31 : decode cX0_likeness 31 = .ok (.iload_n 2, 1) := by decide +kernel
theorem dX0_likeness_32 : decode cX0_likeness 32 = .ok (.ireturn, 1) := by decide +kernel
theorem dX0_alike_0 : decode cX0_alike 0 = .ok (.iconst 0, 1) := by decide +kernel
theorem dX0_alike_1 : decode cX0_alike 1 = .ok (.istore_n 2, 1) := by decide +kernel
theorem dX0_alike_2 : decode cX0_alike 2 = .ok (.iconst 1, 1) := by decide +kernel
theorem dX0_alike_3 : decode cX0_alike 3 = .ok (.istore_n 3, 1) := by decide +kernel
theorem dX0_alike_4 : decode cX0_alike 4 = .ok (.iload_n 3, 1) := by decide +kernel
theorem dX0_alike_5 : decode cX0_alike 5 = .ok (.sipush 1000, 3) := by decide +kernel
theorem dX0_alike_8 : decode cX0_alike 8 = .ok (.if_icmp .gt 29, 3) := by decide +kernel
theorem dX0_alike_11 : decode cX0_alike 11 = .ok (.iload_n 0, 1) := by decide +kernel
theorem dX0_alike_12 : decode cX0_alike 12 = .ok (.iload_n 3, 1) := by decide +kernel
theorem dX0_alike_13 : decode cX0_alike 13 = .ok (.idiv, 1) := by decide +kernel
theorem dX0_alike_14 : decode cX0_alike 14 = .ok (.bipush 10, 2) := by decide +kernel
theorem dX0_alike_16 : decode cX0_alike 16 = .ok (.irem, 1) := by decide +kernel
theorem dX0_alike_17 : decode cX0_alike 17 = .ok (.iload_n 1, 1) := by decide +kernel
theorem dX0_alike_18 : decode cX0_alike 18 = .ok (.iload_n 3, 1) := by decide +kernel
theorem dX0_alike_19 : decode cX0_alike 19 = .ok (.idiv, 1) := by decide +kernel
theorem dX0_alike_20 : decode cX0_alike 20 = .ok (.bipush 10, 2) := by decide +kernel
theorem dX0_alike_22 : decode cX0_alike 22 = .ok (.irem, 1) := by decide +kernel
theorem dX0_alike_23 : decode cX0_alike 23 = .ok (.if_icmp .eq 6, 3) := by decide +kernel
theorem dX0_alike_26 : decode cX0_alike 26 = .ok (.iinc 2 1, 3) := by decide +kernel
theorem dX0_alike_29 : decode cX0_alike 29 = .ok (.iload_n 3, 1) := by decide +kernel
theorem dX0_alike_30 : decode cX0_alike 30 = .ok (.bipush 10, 2) := by decide +kernel
theorem dX0_alike_32 : decode cX0_alike 32 = .ok (.imul, 1) := by decide +kernel
theorem dX0_alike_33 : decode cX0_alike 33 = .ok (.istore_n 3, 1) := by decide +kernel
theorem dX0_alike_34 : decode cX0_alike 34 = .ok (.goto (-30), 3) := by decide +kernel
theorem dX0_alike_37 : decode cX0_alike 37 = .ok (.iload_n 2, 1) := by decide +kernel
theorem dX0_alike_38 : decode cX0_alike 38 = .ok (.ifCond .ne 7, 3) := by decide +kernel
theorem dX0_alike_41 : decode cX0_alike 41 = .ok (.iconst 2, 1) := by decide +kernel
theorem dX0_alike_42 : decode cX0_alike 42 = .ok (.goto 13, 3) := by decide +kernel
theorem dX0_alike_45 : decode cX0_alike 45 = .ok (.iload_n 2, 1) := by decide +kernel
theorem dX0_alike_46 : decode cX0_alike 46 = .ok (.iconst 1, 1) := by decide +kernel
theorem dX0_alike_47 : decode cX0_alike 47 = .ok (.if_icmp .ne 7, 3) := by decide +kernel
theorem dX0_alike_50 : decode cX0_alike 50 = .ok (.iconst 1, 1) := by decide +kernel
theorem dX0_alike_51 : decode cX0_alike 51 = .ok (.goto 4, 3) := by decide +kernel
theorem dX0_alike_54 : decode cX0_alike 54 = .ok (.iconst 0, 1) := by decide +kernel
theorem dX0_alike_55 : decode cX0_alike 55 = .ok (.ireturn, 1) := by decide +kernel
theorem dX0_isRival_0 : decode cX0_isRival 0 = .ok (.iload_n 3, 1) := by decide +kernel
theorem dX0_isRival_1 : decode cX0_isRival 1 = .ok (.iconst 1, 1) := by decide +kernel
theorem dX0_isRival_2 : decode cX0_isRival 2 = .ok (.if_icmp .lt 31, 3) := by decide +kernel
theorem dX0_isRival_5 : decode cX0_isRival 5 = .ok (.aload_n 0, 1) := by decide +kernel
theorem dX0_isRival_6 : decode cX0_isRival 6 = .ok (.getfield 36, 3) := by decide +kernel
theorem dX0_isRival_9 : decode cX0_isRival 9 = .ok (.ifCond .ne 24, 3) := by decide +kernel
theorem dX0_isRival_12 : decode cX0_isRival 12 = .ok (.aload_n 0, 1) := by decide +kernel
theorem dX0_isRival_13 : decode cX0_isRival 13 = .ok (.getfield 15, 3) := by decide +kernel
theorem dX0_isRival_16 : decode cX0_isRival 16 = .ok (.aload_n 1, 1) := by decide +kernel
theorem dX0_isRival_17 : decode cX0_isRival 17 = .ok (.if_acmp .ne 16, 3) := by decide +kernel
theorem dX0_isRival_20 : decode cX0_isRival 20 = .ok (.aload_n 0, 1) := by decide +kernel
theorem dX0_isRival_21 : decode cX0_isRival 21 = .ok (.iload_n 2, 1) := by decide +kernel
theorem dX0_isRival_22 : decode cX0_isRival 22 = .ok (.invokevirtual 59, 3) := by decide +kernel
theorem dX0_isRival_25 : decode cX0_isRival 25 = .ok (.iload_n 3, 1) := by decide +kernel
theorem dX0_isRival_26 : decode cX0_isRival 26 = .ok (.if_icmp .ne 7, 3) := by decide +kernel
theorem dX0_isRival_29 : decode cX0_isRival 29 = .ok (.iconst 1, 1) := by decide +kernel
theorem dX0_isRival_30 : decode cX0_isRival 30 = .ok (.goto 4, 3) := by decide +kernel
theorem dX0_isRival_33 : decode cX0_isRival 33 = .ok (.iconst 0, 1) := by decide +kernel
theorem dX0_isRival_34 : decode cX0_isRival 34 = .ok (.ireturn, 1) := by decide +kernel
theorem dX1_init_0 : decode cX1_init 0 = .ok (.aload_n 0, 1) := by decide +kernel
theorem dX1_init_1 : decode cX1_init 1 = .ok (.invokespecial 3, 3) := by decide +kernel
theorem dX1_init_4 : decode cX1_init 4 = .ok (.aload_n 0, 1) := by decide +kernel
theorem dX1_init_5 : decode cX1_init 5 = .ok (.bipush 99, 2) := by decide +kernel
theorem dX1_init_7 : decode cX1_init 7 = .ok (.putfield 9, 3) := by decide +kernel
theorem dX1_init_10 : decode cX1_init 10 = .ok (.aload_n 0, 1) := by decide +kernel
theorem dX1_init_11 : decode cX1_init 11 = .ok (.iload_n 1, 1) := by decide +kernel
theorem dX1_init_12 : decode cX1_init 12 = .ok (.putfield 15, 3) := by decide +kernel
theorem dX1_init_15 : decode cX1_init 15 = .ok (.return_, 1) := by decide +kernel
theorem dX1_changeFee_0 : decode cX1_changeFee 0 = .ok (.aload_n 0, 1) := by decide +kernel
theorem dX1_changeFee_1 : decode cX1_changeFee 1 = .ok (.getfield 18, 3) := by decide +kernel
theorem dX1_changeFee_4 : decode cX1_changeFee 4 = .ok (.istore_n 2, 1) := by decide +kernel
theorem dX1_changeFee_5 : decode cX1_changeFee 5 = .ok (.aload_n 0, 1) := by decide +kernel
theorem dX1_changeFee_6 : decode cX1_changeFee 6 = .ok (.iload_n 1, 1) := by decide +kernel
theorem dX1_changeFee_7 : decode cX1_changeFee 7 = .ok (.putfield 18, 3) := by decide +kernel
theorem dX1_changeFee_10 : decode cX1_changeFee 10 = .ok (.iload_n 2, 1) := by decide +kernel
theorem dX1_changeFee_11 : decode cX1_changeFee 11 = .ok (.ireturn, 1) := by decide +kernel
theorem dX1_changeCap_0 : decode cX1_changeCap 0 = .ok (.aload_n 0, 1) := by decide +kernel
theorem dX1_changeCap_1 : decode cX1_changeCap 1 = .ok (.getfield 9, 3) := by decide +kernel
theorem dX1_changeCap_4 : decode cX1_changeCap 4 = .ok (.istore_n 2, 1) := by decide +kernel
theorem dX1_changeCap_5 : decode cX1_changeCap 5 = .ok (.aload_n 0, 1) := by decide +kernel
theorem dX1_changeCap_6 : decode cX1_changeCap 6 = .ok (.iload_n 1, 1) := by decide +kernel
theorem dX1_changeCap_7 : decode cX1_changeCap 7 = .ok (.putfield 9, 3) := by decide +kernel
theorem dX1_changeCap_10 : decode cX1_changeCap 10 = .ok (.iload_n 2, 1) := by decide +kernel
theorem dX1_changeCap_11 : decode cX1_changeCap 11 = .ok (.ireturn, 1) := by decide +kernel
theorem dX1_hasStepLeft_0 : decode cX1_hasStepLeft 0 = .ok (.aload_n 0, 1) := by decide +kernel
theorem dX1_hasStepLeft_1 : decode cX1_hasStepLeft 1 = .ok (.getfield 21, 3) := by decide +kernel
theorem dX1_hasStepLeft_4 : decode cX1_hasStepLeft 4 = .ok (.aload_n 0, 1) := by decide +kernel
theorem dX1_hasStepLeft_5 : decode cX1_hasStepLeft 5 = .ok (.getfield 9, 3) := by decide +kernel
theorem dX1_hasStepLeft_8 : decode cX1_hasStepLeft 8 = .ok (.if_icmp .ge 7, 3) := by decide +kernel
theorem dX1_hasStepLeft_11 : decode cX1_hasStepLeft 11 = .ok (.iconst 1, 1) := by decide +kernel
theorem dX1_hasStepLeft_12 : decode cX1_hasStepLeft 12 = .ok (.goto 4, 3) := by decide +kernel
theorem dX1_hasStepLeft_15 : decode cX1_hasStepLeft 15 = .ok (.iconst 0, 1) := by decide +kernel
theorem dX1_hasStepLeft_16 : decode cX1_hasStepLeft 16 = .ok (.ireturn, 1) := by decide +kernel
theorem dX2_init_0 : decode cX2_init 0 = .ok (.aload_n 0, 1) := by decide +kernel
theorem dX2_init_1 : decode cX2_init 1 = .ok (.invokespecial 3, 3) := by decide +kernel
theorem dX2_init_4 : decode cX2_init 4 = .ok (.aload_n 0, 1) := by decide +kernel
theorem dX2_init_5 : decode cX2_init 5 = .ok (.sipush 1501, 3) := by decide +kernel
theorem dX2_init_8 : decode cX2_init 8 = .ok (.newarray .boolean, 2) := by decide +kernel
theorem dX2_init_10 : decode cX2_init 10 = .ok (.putfield 9, 3) := by decide +kernel
theorem dX2_init_13 : decode cX2_init 13 = .ok (.aload_n 0, 1) := by decide +kernel
theorem dX2_init_14 : decode cX2_init 14 = .ok (.sipush 1501, 3) := by decide +kernel
theorem dX2_init_17 : decode cX2_init 17 = .ok (.newarray .int, 2) := by decide +kernel
theorem dX2_init_19 : decode cX2_init 19 = .ok (.putfield 15, 3) := by decide +kernel
theorem dX2_init_22 : decode cX2_init 22 = .ok (.return_, 1) := by decide +kernel
theorem dX2_rests_0 : decode cX2_rests 0 = .ok (.iload_n 1, 1) := by decide +kernel
theorem dX2_rests_1 : decode cX2_rests 1 = .ok (.ifCond .lt 25, 3) := by decide +kernel
theorem dX2_rests_4 : decode cX2_rests 4 = .ok (.iload_n 1, 1) := by decide +kernel
theorem dX2_rests_5 : decode cX2_rests 5 = .ok (.aload_n 0, 1) := by decide +kernel
theorem dX2_rests_6 : decode cX2_rests 6 = .ok (.getfield 9, 3) := by decide +kernel
theorem dX2_rests_9 : decode cX2_rests 9 = .ok (.arraylength, 1) := by decide +kernel
theorem dX2_rests_10 : decode cX2_rests 10 = .ok (.if_icmp .ge 16, 3) := by decide +kernel
theorem dX2_rests_13 : decode cX2_rests 13 = .ok (.aload_n 0, 1) := by decide +kernel
theorem dX2_rests_14 : decode cX2_rests 14 = .ok (.getfield 9, 3) := by decide +kernel
theorem dX2_rests_17 : decode cX2_rests 17 = .ok (.iload_n 1, 1) := by decide +kernel
theorem dX2_rests_18 : decode cX2_rests 18 = .ok (.baload, 1) := by decide +kernel
theorem dX2_rests_19 : decode cX2_rests 19 = .ok (.ifCond .eq 7, 3) := by decide +kernel
theorem dX2_rests_22 : decode cX2_rests 22 = .ok (.iconst 1, 1) := by decide +kernel
theorem dX2_rests_23 : decode cX2_rests 23 = .ok (.goto 4, 3) := by decide +kernel
theorem dX2_rests_26 : decode cX2_rests 26 = .ok (.iconst 0, 1) := by decide +kernel
theorem dX2_rests_27 : decode cX2_rests 27 = .ok (.ireturn, 1) := by decide +kernel
theorem dX2_works_0 : decode cX2_works 0 = .ok (.iload_n 1, 1) := by decide +kernel
theorem dX2_works_1 : decode cX2_works 1 = .ok (.bipush 7, 2) := by decide +kernel
theorem dX2_works_3 : decode cX2_works 3 = .ok (.irem, 1) := by decide +kernel
theorem dX2_works_4 : decode cX2_works 4 = .ok (.iconst 5, 1) := by decide +kernel
theorem dX2_works_5 : decode cX2_works 5 = .ok (.if_icmp .ge 15, 3) := by decide +kernel
theorem dX2_works_8 : decode cX2_works 8 = .ok (.aload_n 0, 1) := by decide +kernel
theorem dX2_works_9 : decode cX2_works 9 = .ok (.iload_n 1, 1) := by decide +kernel
theorem dX2_works_10 : decode cX2_works 10 = .ok (.invokevirtual 19, 3) := by decide +kernel
theorem dX2_works_13 : decode cX2_works 13 = .ok (.ifCond .ne 7, 3) := by decide +kernel
theorem dX2_works_16 : decode cX2_works 16 = .ok (.iconst 1, 1) := by decide +kernel
theorem dX2_works_17 : decode cX2_works 17 = .ok (.goto 4, 3) := by decide +kernel
theorem dX2_works_20 : decode cX2_works 20 = .ok (.iconst 0, 1) := by decide +kernel
theorem dX2_works_21 : decode cX2_works 21 = .ok (.ireturn, 1) := by decide +kernel
theorem dX2_addHoliday_0 : decode cX2_addHoliday 0 = .ok (.iload_n 1, 1) := by decide +kernel
theorem dX2_addHoliday_1 : decode cX2_addHoliday 1 = .ok (.ifCond .lt 29, 3) := by decide +kernel
theorem dX2_addHoliday_4 : decode cX2_addHoliday 4 = .ok (.iload_n 1, 1) := by decide +kernel
theorem dX2_addHoliday_5 : decode cX2_addHoliday 5 = .ok (.aload_n 0, 1) := by decide +kernel
theorem dX2_addHoliday_6 : decode cX2_addHoliday 6 = .ok (.getfield 9, 3) := by decide +kernel
theorem dX2_addHoliday_9 : decode cX2_addHoliday 9 = .ok (.arraylength, 1) := by decide +kernel
theorem dX2_addHoliday_10 : decode cX2_addHoliday 10 = .ok (.if_icmp .ge 20, 3) := by decide +kernel
theorem dX2_addHoliday_13 : decode cX2_addHoliday 13 = .ok (.aload_n 0, 1) := by decide +kernel
theorem dX2_addHoliday_14 : decode cX2_addHoliday 14 = .ok (.getfield 9, 3) := by decide +kernel
theorem dX2_addHoliday_17 : decode cX2_addHoliday 17 = .ok (.iload_n 1, 1) := by decide +kernel
theorem dX2_addHoliday_18 : decode cX2_addHoliday 18 = .ok (.iconst 1, 1) := by decide +kernel
theorem dX2_addHoliday_19 : decode cX2_addHoliday 19 = .ok (.bastore, 1) := by decide +kernel
theorem dX2_addHoliday_20 : decode cX2_addHoliday 20 = .ok (.aload_n 0, 1) := by decide +kernel
theorem dX2_addHoliday_21 : decode cX2_addHoliday 21 = .ok (.dup, 1) := by decide +kernel
theorem dX2_addHoliday_22 : decode cX2_addHoliday 22 = .ok (.getfield 23, 3) := by decide +kernel
theorem dX2_addHoliday_25 : decode cX2_addHoliday 25 = .ok (.iconst 1, 1) := by decide +kernel
theorem dX2_addHoliday_26 : decode cX2_addHoliday 26 = .ok (.iadd, 1) := by decide +kernel
theorem dX2_addHoliday_27 : decode cX2_addHoliday 27 = .ok (.putfield 23, 3) := by decide +kernel
theorem dX2_addHoliday_30 : decode cX2_addHoliday 30 = .ok (.aload_n 0, 1) := by decide +kernel
theorem dX2_addHoliday_31 : decode cX2_addHoliday 31 = .ok (.getfield 23, 3) := by decide +kernel
theorem dX2_addHoliday_34 : decode cX2_addHoliday 34 = .ok (.ireturn, 1) := by decide +kernel
theorem dX2_isLate_0 : decode cX2_isLate 0 = .ok (.iload_n 2, 1) := by decide +kernel
theorem dX2_isLate_1 : decode cX2_isLate 1 = .ok (.ifCond .lt 30, 3) := by decide +kernel
theorem dX2_isLate_4 : decode cX2_isLate 4 = .ok (.iload_n 2, 1) := by decide +kernel
theorem dX2_isLate_5 : decode cX2_isLate 5 = .ok (.aload_n 0, 1) := by decide +kernel
theorem dX2_isLate_6 : decode cX2_isLate 6 = .ok (.getfield 15, 3) := by decide +kernel
theorem dX2_isLate_9 : decode cX2_isLate 9 = .ok (.arraylength, 1) := by decide +kernel
theorem dX2_isLate_10 : decode cX2_isLate 10 = .ok (.if_icmp .ge 21, 3) := by decide +kernel
theorem dX2_isLate_13 : decode cX2_isLate 13 = .ok (.aload_n 0, 1) := by decide +kernel
theorem dX2_isLate_14 : decode cX2_isLate 14 = .ok (.getfield 15, 3) := by decide +kernel
theorem dX2_isLate_17 : decode cX2_isLate 17 = .ok (.iload_n 2, 1) := by decide +kernel
theorem dX2_isLate_18 : decode cX2_isLate 18 = .ok (.iaload, 1) := by decide +kernel
theorem dX2_isLate_19 : decode cX2_isLate 19 = .ok (.iload_n 1, 1) := by decide +kernel
theorem dX2_isLate_20 : decode cX2_isLate 20 = .ok (.ishr, 1) := by decide +kernel
theorem dX2_isLate_21 : decode cX2_isLate 21 = .ok (.iconst 1, 1) := by decide +kernel
theorem dX2_isLate_22 : decode cX2_isLate 22 = .ok (.iand, 1) := by decide +kernel
theorem dX2_isLate_23 : decode cX2_isLate 23 = .ok (.iconst 1, 1) := by decide +kernel
theorem dX2_isLate_24 : decode cX2_isLate 24 = .ok (.if_icmp .ne 7, 3) := by decide +kernel
theorem dX2_isLate_27 : decode cX2_isLate 27 = .ok (.iconst 1, 1) := by decide +kernel
