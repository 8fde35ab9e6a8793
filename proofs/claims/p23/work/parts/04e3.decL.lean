theorem dL_isTold_171 : decode cL_isTold 171 = .ok (.i2l, 1) := by decide +kernel
theorem dL_isTold_172 : decode cL_isTold 172 = .ok (.lmul, 1) := by decide +kernel
theorem dL_isTold_173 : decode cL_isTold 173 = .ok (.ldc2_w 9, 3) := by decide +kernel
theorem dL_isTold_176 : decode cL_isTold 176 = .ok (.ldiv, 1) := by decide +kernel
theorem dL_isTold_177 : decode cL_isTold 177 = .ok (.lcmp, 1) := by decide +kernel
theorem dL_isTold_178 : decode cL_isTold 178 = .ok (.ifCond .ne 50, 3) := by decide +kernel
theorem dL_isTold_181 : decode cL_isTold 181 = .ok (.aload_n 0, 1) := by decide +kernel
theorem dL_isTold_182 : decode cL_isTold 182 = .ok (.iconst 2, 1) := by decide +kernel
theorem dL_isTold_183 : decode cL_isTold 183 = .ok (.iload 13, 2) := by decide +kernel
theorem dL_isTold_185 : decode cL_isTold 185 = .ok (.invokestatic 68, 3) := by decide +kernel
theorem dL_isTold_188 : decode cL_isTold 188 = .ok (.aload 6, 2) := by decide +kernel
theorem dL_isTold_190 : decode cL_isTold 190 = .ok (.iload 13, 2) := by decide +kernel
theorem dL_isTold_192 : decode cL_isTold 192 = .ok (.iaload, 1) := by decide +kernel
theorem dL_isTold_193 : decode cL_isTold 193 = .ok (.iconst 1, 1) := by decide +kernel
theorem dL_isTold_194 : decode cL_isTold 194 = .ok (.if_icmp .ne 9, 3) := by decide +kernel
theorem dL_isTold_197 : decode cL_isTold 197 = .ok (.ldc2_w 53, 3) := by decide +kernel
theorem dL_isTold_200 : decode cL_isTold 200 = .ok (.goto 20, 3) := by decide +kernel
theorem dL_isTold_203 : decode cL_isTold 203 = .ok (.aload_n 1, 1) := by decide +kernel
theorem dL_isTold_204 : decode cL_isTold 204 = .ok (.aload_n 2, 1) := by decide +kernel
theorem dL_isTold_205 : decode cL_isTold 205 = .ok (.aload 4, 2) := by decide +kernel
theorem dL_isTold_207 : decode cL_isTold 207 = .ok (.aload 5, 2) := by decide +kernel
theorem dL_isTold_209 : decode cL_isTold 209 = .ok (.aload 6, 2) := by decide +kernel
theorem dL_isTold_211 : decode cL_isTold 211 = .ok (.aload 7, 2) := by decide +kernel
theorem dL_isTold_213 : decode cL_isTold 213 = .ok (.aload 8, 2) := by decide +kernel
theorem dL_isTold_215 : decode cL_isTold 215 = .ok (.iload 13, 2) := by decide +kernel
theorem dL_isTold_217 : decode cL_isTold 217 = .ok (.invokestatic 33, 3) := by decide +kernel
theorem dL_isTold_220 : decode cL_isTold 220 = .ok (.lcmp, 1) := by decide +kernel
theorem dL_isTold_221 : decode cL_isTold 221 = .ok (.ifCond .ne 7, 3) := by decide +kernel
theorem dL_isTold_224 : decode cL_isTold 224 = .ok (.iconst 1, 1) := by decide +kernel
theorem dL_isTold_225 : decode cL_isTold 225 = .ok (.goto 4, 3) := by decide +kernel
theorem dL_isTold_228 : decode cL_isTold 228 = .ok (.iconst 0, 1) := by decide +kernel
theorem dL_isTold_229 : decode cL_isTold 229 = .ok (.istore 12, 2) := by decide +kernel
theorem dL_isTold_231 : decode cL_isTold 231 = .ok (.iinc 13 1, 3) := by decide +kernel
theorem dL_isTold_234 : decode cL_isTold 234 = .ok (.goto (-158), 3) := by decide +kernel
theorem dL_isTold_237 : decode cL_isTold 237 = .ok (.iconst 0, 1) := by decide +kernel
theorem dL_isTold_238 : decode cL_isTold 238 = .ok (.istore 13, 2) := by decide +kernel
theorem dL_isTold_240 : decode cL_isTold 240 = .ok (.iload 13, 2) := by decide +kernel
theorem dL_isTold_242 : decode cL_isTold 242 = .ok (.iconst 3, 1) := by decide +kernel
theorem dL_isTold_243 : decode cL_isTold 243 = .ok (.if_icmp .ge 203, 3) := by decide +kernel
theorem dL_isTold_246 : decode cL_isTold 246 = .ok (.iload 12, 2) := by decide +kernel
theorem dL_isTold_248 : decode cL_isTold 248 = .ok (.ifCond .eq 198, 3) := by decide +kernel
theorem dL_isTold_251 : decode cL_isTold 251 = .ok (.lconst 0, 1) := by decide +kernel
theorem dL_isTold_252 : decode cL_isTold 252 = .ok (.lstore 14, 2) := by decide +kernel
theorem dL_isTold_254 : decode cL_isTold 254 = .ok (.iconst 0, 1) := by decide +kernel
theorem dL_isTold_255 : decode cL_isTold 255 = .ok (.istore 16, 2) := by decide +kernel
theorem dL_isTold_257 : decode cL_isTold 257 = .ok (.iload 16, 2) := by decide +kernel
theorem dL_isTold_259 : decode cL_isTold 259 = .ok (.iload 13, 2) := by decide +kernel
theorem dL_isTold_261 : decode cL_isTold 261 = .ok (.invokestatic 21, 3) := by decide +kernel
theorem dL_isTold_264 : decode cL_isTold 264 = .ok (.if_icmp .ge 152, 3) := by decide +kernel
theorem dL_isTold_267 : decode cL_isTold 267 = .ok (.iload 12, 2) := by decide +kernel
theorem dL_isTold_269 : decode cL_isTold 269 = .ok (.ifCond .eq 147, 3) := by decide +kernel
theorem dL_isTold_272 : decode cL_isTold 272 = .ok (.aload_n 1, 1) := by decide +kernel
theorem dL_isTold_273 : decode cL_isTold 273 = .ok (.aload_n 2, 1) := by decide +kernel
theorem dL_isTold_274 : decode cL_isTold 274 = .ok (.aload_n 3, 1) := by decide +kernel
theorem dL_isTold_275 : decode cL_isTold 275 = .ok (.aload 4, 2) := by decide +kernel
theorem dL_isTold_277 : decode cL_isTold 277 = .ok (.aload 6, 2) := by decide +kernel
theorem dL_isTold_279 : decode cL_isTold 279 = .ok (.aload 7, 2) := by decide +kernel
theorem dL_isTold_281 : decode cL_isTold 281 = .ok (.aload 8, 2) := by decide +kernel
theorem dL_isTold_283 : decode cL_isTold 283 = .ok (.iconst 0, 1) := by decide +kernel
theorem dL_isTold_284 : decode cL_isTold 284 = .ok (.iload 13, 2) := by decide +kernel
theorem dL_isTold_286 : decode cL_isTold 286 = .ok (.iload 16, 2) := by decide +kernel
theorem dL_isTold_288 : decode cL_isTold 288 = .ok (.invokestatic 25, 3) := by decide +kernel
theorem dL_isTold_291 : decode cL_isTold 291 = .ok (.lstore 17, 2) := by decide +kernel
theorem dL_isTold_293 : decode cL_isTold 293 = .ok (.aload_n 1, 1) := by decide +kernel
theorem dL_isTold_294 : decode cL_isTold 294 = .ok (.aload_n 2, 1) := by decide +kernel
theorem dL_isTold_295 : decode cL_isTold 295 = .ok (.aload_n 3, 1) := by decide +kernel
theorem dL_isTold_296 : decode cL_isTold 296 = .ok (.aload 4, 2) := by decide +kernel
theorem dL_isTold_298 : decode cL_isTold 298 = .ok (.aload 6, 2) := by decide +kernel
theorem dL_isTold_300 : decode cL_isTold 300 = .ok (.aload 7, 2) := by decide +kernel
theorem dL_isTold_302 : decode cL_isTold 302 = .ok (.aload 8, 2) := by decide +kernel
theorem dL_isTold_304 : decode cL_isTold 304 = .ok (.iconst 1, 1) := by decide +kernel
theorem dL_isTold_305 : decode cL_isTold 305 = .ok (.iload 13, 2) := by decide +kernel
theorem dL_isTold_307 : decode cL_isTold 307 = .ok (.iload 16, 2) := by decide +kernel
theorem dL_isTold_309 : decode cL_isTold 309 = .ok (.invokestatic 25, 3) := by decide +kernel
theorem dL_isTold_312 : decode cL_isTold 312 = .ok (.lstore 19, 2) := by decide +kernel
theorem dL_isTold_314 : decode cL_isTold 314 = .ok (.lload 17, 2) := by decide +kernel
theorem dL_isTold_316 : decode cL_isTold 316 = .ok (.lload 19, 2) := by decide +kernel
theorem dL_isTold_318 : decode cL_isTold 318 = .ok (.lcmp, 1) := by decide +kernel
theorem dL_isTold_319 : decode cL_isTold 319 = .ok (.ifCond .le 11, 3) := by decide +kernel
theorem dL_isTold_322 : decode cL_isTold 322 = .ok (.lload 17, 2) := by decide +kernel
theorem dL_isTold_324 : decode cL_isTold 324 = .ok (.lload 19, 2) := by decide +kernel
theorem dL_isTold_326 : decode cL_isTold 326 = .ok (.lsub, 1) := by decide +kernel
theorem dL_isTold_327 : decode cL_isTold 327 = .ok (.goto 8, 3) := by decide +kernel
theorem dL_isTold_330 : decode cL_isTold 330 = .ok (.lload 19, 2) := by decide +kernel
theorem dL_isTold_332 : decode cL_isTold 332 = .ok (.lload 17, 2) := by decide +kernel
theorem dL_isTold_334 : decode cL_isTold 334 = .ok (.lsub, 1) := by decide +kernel
theorem dL_isTold_335 : decode cL_isTold 335 = .ok (.lstore 21, 2) := by decide +kernel
theorem dL_isTold_337 : decode cL_isTold 337 = .ok (.lload 21, 2) := by decide +kernel
theorem dL_isTold_339 : decode cL_isTold 339 = .ok (.lload 14, 2) := by decide +kernel
theorem dL_isTold_341 : decode cL_isTold 341 = .ok (.lcmp, 1) := by decide +kernel
theorem dL_isTold_342 : decode cL_isTold 342 = .ok (.ifCond .le 8, 3) := by decide +kernel
theorem dL_isTold_345 : decode cL_isTold 345 = .ok (.lload 21, 2) := by decide +kernel
theorem dL_isTold_347 : decode cL_isTold 347 = .ok (.goto 5, 3) := by decide +kernel
theorem dL_isTold_350 : decode cL_isTold 350 = .ok (.lload 14, 2) := by decide +kernel
theorem dL_isTold_352 : decode cL_isTold 352 = .ok (.lstore 14, 2) := by decide +kernel
theorem dL_isTold_354 : decode cL_isTold 354 = .ok (.aload_n 0, 1) := by decide +kernel
theorem dL_isTold_355 : decode cL_isTold 355 = .ok (.iload 13, 2) := by decide +kernel
theorem dL_isTold_357 : decode cL_isTold 357 = .ok (.iload 16, 2) := by decide +kernel
theorem dL_isTold_359 : decode cL_isTold 359 = .ok (.invokevirtual 72, 3) := by decide +kernel
theorem dL_isTold_362 : decode cL_isTold 362 = .ok (.aload 7, 2) := by decide +kernel
theorem dL_isTold_364 : decode cL_isTold 364 = .ok (.iconst 4, 1) := by decide +kernel
theorem dL_isTold_365 : decode cL_isTold 365 = .ok (.iload 13, 2) := by decide +kernel
theorem dL_isTold_367 : decode cL_isTold 367 = .ok (.imul, 1) := by decide +kernel
theorem dL_isTold_368 : decode cL_isTold 368 = .ok (.iload 16, 2) := by decide +kernel
theorem dL_isTold_370 : decode cL_isTold 370 = .ok (.iadd, 1) := by decide +kernel
theorem dL_isTold_371 : decode cL_isTold 371 = .ok (.iaload, 1) := by decide +kernel
theorem dL_isTold_372 : decode cL_isTold 372 = .ok (.if_icmp .ne 35, 3) := by decide +kernel
theorem dL_isTold_375 : decode cL_isTold 375 = .ok (.aload_n 0, 1) := by decide +kernel
theorem dL_isTold_376 : decode cL_isTold 376 = .ok (.iload 13, 2) := by decide +kernel
theorem dL_isTold_378 : decode cL_isTold 378 = .ok (.iload 16, 2) := by decide +kernel
theorem dL_isTold_380 : decode cL_isTold 380 = .ok (.invokevirtual 75, 3) := by decide +kernel
theorem dL_isTold_383 : decode cL_isTold 383 = .ok (.lload 17, 2) := by decide +kernel
theorem dL_isTold_385 : decode cL_isTold 385 = .ok (.lcmp, 1) := by decide +kernel
theorem dL_isTold_386 : decode cL_isTold 386 = .ok (.ifCond .ne 21, 3) := by decide +kernel
theorem dL_isTold_389 : decode cL_isTold 389 = .ok (.aload_n 0, 1) := by decide +kernel
theorem dL_isTold_390 : decode cL_isTold 390 = .ok (.iload 13, 2) := by decide +kernel
theorem dL_isTold_392 : decode cL_isTold 392 = .ok (.iload 16, 2) := by decide +kernel
theorem dL_isTold_394 : decode cL_isTold 394 = .ok (.invokevirtual 79, 3) := by decide +kernel
theorem dL_isTold_397 : decode cL_isTold 397 = .ok (.lload 19, 2) := by decide +kernel
theorem dL_isTold_399 : decode cL_isTold 399 = .ok (.lcmp, 1) := by decide +kernel
theorem dL_isTold_400 : decode cL_isTold 400 = .ok (.ifCond .ne 7, 3) := by decide +kernel
theorem dL_isTold_403 : decode cL_isTold 403 = .ok (.iconst 1, 1) := by decide +kernel
theorem dL_isTold_404 : decode cL_isTold 404 = .ok (.goto 4, 3) := by decide +kernel
theorem dL_isTold_407 : decode cL_isTold 407 = .ok (.iconst 0, 1) := by decide +kernel
theorem dL_isTold_408 : decode cL_isTold 408 = .ok (.istore 12, 2) := by decide +kernel
theorem dL_isTold_410 : decode cL_isTold 410 = .ok (.iinc 16 1, 3) := by decide +kernel
theorem dL_isTold_413 : decode cL_isTold 413 = .ok (.goto (-156), 3) := by decide +kernel
theorem dL_isTold_416 : decode cL_isTold 416 = .ok (.iload 12, 2) := by decide +kernel
theorem dL_isTold_418 : decode cL_isTold 418 = .ok (.ifCond .eq 19, 3) := by decide +kernel
theorem dL_isTold_421 : decode cL_isTold 421 = .ok (.aload_n 0, 1) := by decide +kernel
theorem dL_isTold_422 : decode cL_isTold 422 = .ok (.iload 13, 2) := by decide +kernel
theorem dL_isTold_424 : decode cL_isTold 424 = .ok (.invokevirtual 82, 3) := by decide +kernel
theorem dL_isTold_427 : decode cL_isTold 427 = .ok (.lload 14, 2) := by decide +kernel
theorem dL_isTold_429 : decode cL_isTold 429 = .ok (.lcmp, 1) := by decide +kernel
theorem dL_isTold_430 : decode cL_isTold 430 = .ok (.ifCond .ne 7, 3) := by decide +kernel
theorem dL_isTold_433 : decode cL_isTold 433 = .ok (.iconst 1, 1) := by decide +kernel
theorem dL_isTold_434 : decode cL_isTold 434 = .ok (.goto 4, 3) := by decide +kernel
theorem dL_isTold_437 : decode cL_isTold 437 = .ok (.iconst 0, 1) := by decide +kernel
theorem dL_isTold_438 : decode cL_isTold 438 = .ok (.istore 12, 2) := by decide +kernel
theorem dL_isTold_440 : decode cL_isTold 440 = .ok (.iinc 13 1, 3) := by decide +kernel
theorem dL_isTold_443 : decode cL_isTold 443 = .ok (.goto (-203), 3) := by decide +kernel
theorem dL_isTold_446 : decode cL_isTold 446 = .ok (.iload 12, 2) := by decide +kernel
theorem dL_isTold_448 : decode cL_isTold 448 = .ok (.ifCond .eq 35, 3) := by decide +kernel
theorem dL_isTold_451 : decode cL_isTold 451 = .ok (.aload_n 0, 1) := by decide +kernel
theorem dL_isTold_452 : decode cL_isTold 452 = .ok (.invokevirtual 85, 3) := by decide +kernel
theorem dL_isTold_455 : decode cL_isTold 455 = .ok (.iload 9, 2) := by decide +kernel
theorem dL_isTold_457 : decode cL_isTold 457 = .ok (.if_icmp .ne 26, 3) := by decide +kernel
theorem dL_isTold_460 : decode cL_isTold 460 = .ok (.aload_n 0, 1) := by decide +kernel
theorem dL_isTold_461 : decode cL_isTold 461 = .ok (.aload_n 1, 1) := by decide +kernel
theorem dL_isTold_462 : decode cL_isTold 462 = .ok (.aload_n 2, 1) := by decide +kernel
theorem dL_isTold_463 : decode cL_isTold 463 = .ok (.aload 4, 2) := by decide +kernel
theorem dL_isTold_465 : decode cL_isTold 465 = .ok (.aload 6, 2) := by decide +kernel
theorem dL_isTold_467 : decode cL_isTold 467 = .ok (.aload 7, 2) := by decide +kernel
theorem dL_isTold_469 : decode cL_isTold 469 = .ok (.aload 8, 2) := by decide +kernel
theorem dL_isTold_471 : decode cL_isTold 471 = .ok (.iload 9, 2) := by decide +kernel
theorem dL_isTold_473 : decode cL_isTold 473 = .ok (.invokestatic 89, 3) := by decide +kernel
theorem dL_isTold_476 : decode cL_isTold 476 = .ok (.ifCond .eq 7, 3) := by decide +kernel
theorem dL_isTold_479 : decode cL_isTold 479 = .ok (.iconst 1, 1) := by decide +kernel
theorem dL_isTold_480 : decode cL_isTold 480 = .ok (.goto 4, 3) := by decide +kernel
theorem dL_isTold_483 : decode cL_isTold 483 = .ok (.iconst 0, 1) := by decide +kernel
theorem dL_isTold_484 : decode cL_isTold 484 = .ok (.ireturn, 1) := by decide +kernel
theorem dL_acts_0 : decode cL_acts 0 = .ok (.iload 9, 2) := by decide +kernel
theorem dL_acts_2 : decode cL_acts 2 = .ok (.iconst 4, 1) := by decide +kernel
theorem dL_acts_3 : decode cL_acts 3 = .ok (.if_icmp .ge 217, 3) := by decide +kernel
theorem dL_acts_6 : decode cL_acts 6 = .ok (.aload 8, 2) := by decide +kernel
theorem dL_acts_8 : decode cL_acts 8 = .ok (.iconst 0, 1) := by decide +kernel
theorem dL_acts_9 : decode cL_acts 9 = .ok (.iaload, 1) := by decide +kernel
theorem dL_acts_10 : decode cL_acts 10 = .ok (.bipush 12, 2) := by decide +kernel
theorem dL_acts_12 : decode cL_acts 12 = .ok (.if_icmp .ge 208, 3) := by decide +kernel
theorem dL_acts_15 : decode cL_acts 15 = .ok (.aload 8, 2) := by decide +kernel
theorem dL_acts_17 : decode cL_acts 17 = .ok (.iconst 0, 1) := by decide +kernel
theorem dL_acts_18 : decode cL_acts 18 = .ok (.iaload, 1) := by decide +kernel
theorem dL_acts_19 : decode cL_acts 19 = .ok (.istore 11, 2) := by decide +kernel
theorem dL_acts_21 : decode cL_acts 21 = .ok (.aload_n 1, 1) := by decide +kernel
theorem dL_acts_22 : decode cL_acts 22 = .ok (.iconst 3, 1) := by decide +kernel
theorem dL_acts_23 : decode cL_acts 23 = .ok (.iload 11, 2) := by decide +kernel
theorem dL_acts_25 : decode cL_acts 25 = .ok (.imul, 1) := by decide +kernel
theorem dL_acts_26 : decode cL_acts 26 = .ok (.iload 10, 2) := by decide +kernel
theorem dL_acts_28 : decode cL_acts 28 = .ok (.iconst 4, 1) := by decide +kernel
theorem dL_acts_29 : decode cL_acts 29 = .ok (.irem, 1) := by decide +kernel
theorem dL_acts_30 : decode cL_acts 30 = .ok (.iastore, 1) := by decide +kernel
theorem dL_acts_31 : decode cL_acts 31 = .ok (.aload_n 1, 1) := by decide +kernel
theorem dL_acts_32 : decode cL_acts 32 = .ok (.iconst 3, 1) := by decide +kernel
theorem dL_acts_33 : decode cL_acts 33 = .ok (.iload 11, 2) := by decide +kernel
theorem dL_acts_35 : decode cL_acts 35 = .ok (.imul, 1) := by decide +kernel
theorem dL_acts_36 : decode cL_acts 36 = .ok (.iconst 1, 1) := by decide +kernel
theorem dL_acts_37 : decode cL_acts 37 = .ok (.iadd, 1) := by decide +kernel
theorem dL_acts_38 : decode cL_acts 38 = .ok (.iload 10, 2) := by decide +kernel
theorem dL_acts_40 : decode cL_acts 40 = .ok (.iconst 4, 1) := by decide +kernel
theorem dL_acts_41 : decode cL_acts 41 = .ok (.idiv, 1) := by decide +kernel
theorem dL_acts_42 : decode cL_acts 42 = .ok (.iconst 3, 1) := by decide +kernel
theorem dL_acts_43 : decode cL_acts 43 = .ok (.irem, 1) := by decide +kernel
theorem dL_acts_44 : decode cL_acts 44 = .ok (.iastore, 1) := by decide +kernel
theorem dL_acts_45 : decode cL_acts 45 = .ok (.aload_n 1, 1) := by decide +kernel
theorem dL_acts_46 : decode cL_acts 46 = .ok (.iconst 3, 1) := by decide +kernel
theorem dL_acts_47 : decode cL_acts 47 = .ok (.iload 11, 2) := by decide +kernel
theorem dL_acts_49 : decode cL_acts 49 = .ok (.imul, 1) := by decide +kernel
theorem dL_acts_50 : decode cL_acts 50 = .ok (.iconst 2, 1) := by decide +kernel
theorem dL_acts_51 : decode cL_acts 51 = .ok (.iadd, 1) := by decide +kernel
theorem dL_acts_52 : decode cL_acts 52 = .ok (.iload 10, 2) := by decide +kernel
theorem dL_acts_54 : decode cL_acts 54 = .ok (.bipush 12, 2) := by decide +kernel
theorem dL_acts_56 : decode cL_acts 56 = .ok (.idiv, 1) := by decide +kernel
theorem dL_acts_57 : decode cL_acts 57 = .ok (.iconst 4, 1) := by decide +kernel
theorem dL_acts_58 : decode cL_acts 58 = .ok (.irem, 1) := by decide +kernel
theorem dL_acts_59 : decode cL_acts 59 = .ok (.iastore, 1) := by decide +kernel
theorem dL_acts_60 : decode cL_acts 60 = .ok (.aload_n 2, 1) := by decide +kernel
theorem dL_acts_61 : decode cL_acts 61 = .ok (.iload 11, 2) := by decide +kernel
theorem dL_acts_63 : decode cL_acts 63 = .ok (.iconst 1, 1) := by decide +kernel
theorem dL_acts_64 : decode cL_acts 64 = .ok (.iload 10, 2) := by decide +kernel
theorem dL_acts_66 : decode cL_acts 66 = .ok (.bipush 48, 2) := by decide +kernel
theorem dL_acts_68 : decode cL_acts 68 = .ok (.idiv, 1) := by decide +kernel
theorem dL_acts_69 : decode cL_acts 69 = .ok (.iload 10, 2) := by decide +kernel
theorem dL_acts_71 : decode cL_acts 71 = .ok (.iconst 5, 1) := by decide +kernel
theorem dL_acts_72 : decode cL_acts 72 = .ok (.irem, 1) := by decide +kernel
theorem dL_acts_73 : decode cL_acts 73 = .ok (.ifCond .ne 9, 3) := by decide +kernel
theorem dL_acts_76 : decode cL_acts 76 = .ok (.sipush 1000, 3) := by decide +kernel
theorem dL_acts_79 : decode cL_acts 79 = .ok (.goto 5, 3) := by decide +kernel
theorem dL_acts_82 : decode cL_acts 82 = .ok (.bipush 20, 2) := by decide +kernel
theorem dL_acts_84 : decode cL_acts 84 = .ok (.irem, 1) := by decide +kernel
theorem dL_acts_85 : decode cL_acts 85 = .ok (.iadd, 1) := by decide +kernel
theorem dL_acts_86 : decode cL_acts 86 = .ok (.iastore, 1) := by decide +kernel
theorem dL_acts_87 : decode cL_acts 87 = .ok (.aload_n 3, 1) := by decide +kernel
theorem dL_acts_88 : decode cL_acts 88 = .ok (.iload 11, 2) := by decide +kernel
theorem dL_acts_90 : decode cL_acts 90 = .ok (.iload 10, 2) := by decide +kernel
theorem dL_acts_92 : decode cL_acts 92 = .ok (.bipush 7, 2) := by decide +kernel
theorem dL_acts_94 : decode cL_acts 94 = .ok (.irem, 1) := by decide +kernel
theorem dL_acts_95 : decode cL_acts 95 = .ok (.ifCond .ne 7, 3) := by decide +kernel
theorem dL_acts_98 : decode cL_acts 98 = .ok (.iconst 0, 1) := by decide +kernel
theorem dL_acts_99 : decode cL_acts 99 = .ok (.goto 12, 3) := by decide +kernel
theorem dL_acts_102 : decode cL_acts 102 = .ok (.iload 10, 2) := by decide +kernel
theorem dL_acts_104 : decode cL_acts 104 = .ok (.sipush 960, 3) := by decide +kernel
theorem dL_acts_107 : decode cL_acts 107 = .ok (.idiv, 1) := by decide +kernel
theorem dL_acts_108 : decode cL_acts 108 = .ok (.bipush 30, 2) := by decide +kernel
theorem dL_acts_110 : decode cL_acts 110 = .ok (.irem, 1) := by decide +kernel
theorem dL_acts_111 : decode cL_acts 111 = .ok (.iastore, 1) := by decide +kernel
theorem dL_acts_112 : decode cL_acts 112 = .ok (.aload 4, 2) := by decide +kernel
theorem dL_acts_114 : decode cL_acts 114 = .ok (.iload 11, 2) := by decide +kernel
theorem dL_acts_116 : decode cL_acts 116 = .ok (.iload 10, 2) := by decide +kernel
theorem dL_acts_118 : decode cL_acts 118 = .ok (.bipush 11, 2) := by decide +kernel
theorem dL_acts_120 : decode cL_acts 120 = .ok (.irem, 1) := by decide +kernel
theorem dL_acts_121 : decode cL_acts 121 = .ok (.ifCond .ne 7, 3) := by decide +kernel
theorem dL_acts_124 : decode cL_acts 124 = .ok (.iconst 0, 1) := by decide +kernel
theorem dL_acts_125 : decode cL_acts 125 = .ok (.goto 24, 3) := by decide +kernel
theorem dL_acts_128 : decode cL_acts 128 = .ok (.iload 10, 2) := by decide +kernel
theorem dL_acts_130 : decode cL_acts 130 = .ok (.bipush 77, 2) := by decide +kernel
theorem dL_acts_132 : decode cL_acts 132 = .ok (.idiv, 1) := by decide +kernel
theorem dL_acts_133 : decode cL_acts 133 = .ok (.iload 10, 2) := by decide +kernel
theorem dL_acts_135 : decode cL_acts 135 = .ok (.iconst 3, 1) := by decide +kernel
theorem dL_acts_136 : decode cL_acts 136 = .ok (.irem, 1) := by decide +kernel
theorem dL_acts_137 : decode cL_acts 137 = .ok (.ifCond .ne 8, 3) := by decide +kernel
theorem dL_acts_140 : decode cL_acts 140 = .ok (.ldc 93, 2) := by decide +kernel
theorem dL_acts_142 : decode cL_acts 142 = .ok (.goto 6, 3) := by decide +kernel
theorem dL_acts_145 : decode cL_acts 145 = .ok (.sipush 900, 3) := by decide +kernel
theorem dL_acts_148 : decode cL_acts 148 = .ok (.irem, 1) := by decide +kernel
theorem dL_acts_149 : decode cL_acts 149 = .ok (.iastore, 1) := by decide +kernel
theorem dL_acts_150 : decode cL_acts 150 = .ok (.aload 5, 2) := by decide +kernel
theorem dL_acts_152 : decode cL_acts 152 = .ok (.iload 11, 2) := by decide +kernel
theorem dL_acts_154 : decode cL_acts 154 = .ok (.iconst (-1), 1) := by decide +kernel
theorem dL_acts_155 : decode cL_acts 155 = .ok (.iastore, 1) := by decide +kernel
theorem dL_acts_156 : decode cL_acts 156 = .ok (.aload 6, 2) := by decide +kernel
theorem dL_acts_158 : decode cL_acts 158 = .ok (.iload 11, 2) := by decide +kernel
theorem dL_acts_160 : decode cL_acts 160 = .ok (.iconst 0, 1) := by decide +kernel
theorem dL_acts_161 : decode cL_acts 161 = .ok (.iastore, 1) := by decide +kernel
theorem dL_acts_162 : decode cL_acts 162 = .ok (.aload 8, 2) := by decide +kernel
theorem dL_acts_164 : decode cL_acts 164 = .ok (.iconst 0, 1) := by decide +kernel
theorem dL_acts_165 : decode cL_acts 165 = .ok (.dup2, 1) := by decide +kernel
theorem dL_acts_166 : decode cL_acts 166 = .ok (.iaload, 1) := by decide +kernel
theorem dL_acts_167 : decode cL_acts 167 = .ok (.iconst 1, 1) := by decide +kernel
theorem dL_acts_168 : decode cL_acts 168 = .ok (.iadd, 1) := by decide +kernel
theorem dL_acts_169 : decode cL_acts 169 = .ok (.iastore, 1) := by decide +kernel
theorem dL_acts_170 : decode cL_acts 170 = .ok (.aload_n 0, 1) := by decide +kernel
theorem dL_acts_171 : decode cL_acts 171 = .ok (.aload_n 1, 1) := by decide +kernel
theorem dL_acts_172 : decode cL_acts 172 = .ok (.iconst 3, 1) := by decide +kernel
theorem dL_acts_173 : decode cL_acts 173 = .ok (.iload 11, 2) := by decide +kernel
theorem dL_acts_175 : decode cL_acts 175 = .ok (.imul, 1) := by decide +kernel
theorem dL_acts_176 : decode cL_acts 176 = .ok (.iaload, 1) := by decide +kernel
theorem dL_acts_177 : decode cL_acts 177 = .ok (.aload_n 1, 1) := by decide +kernel
theorem dL_acts_178 : decode cL_acts 178 = .ok (.iconst 3, 1) := by decide +kernel
theorem dL_acts_179 : decode cL_acts 179 = .ok (.iload 11, 2) := by decide +kernel
theorem dL_acts_181 : decode cL_acts 181 = .ok (.imul, 1) := by decide +kernel
theorem dL_acts_182 : decode cL_acts 182 = .ok (.iconst 1, 1) := by decide +kernel
theorem dL_acts_183 : decode cL_acts 183 = .ok (.iadd, 1) := by decide +kernel
theorem dL_acts_184 : decode cL_acts 184 = .ok (.iaload, 1) := by decide +kernel
theorem dL_acts_185 : decode cL_acts 185 = .ok (.aload_n 1, 1) := by decide +kernel
theorem dL_acts_186 : decode cL_acts 186 = .ok (.iconst 3, 1) := by decide +kernel
theorem dL_acts_187 : decode cL_acts 187 = .ok (.iload 11, 2) := by decide +kernel
theorem dL_acts_189 : decode cL_acts 189 = .ok (.imul, 1) := by decide +kernel
theorem dL_acts_190 : decode cL_acts 190 = .ok (.iconst 2, 1) := by decide +kernel
theorem dL_acts_191 : decode cL_acts 191 = .ok (.iadd, 1) := by decide +kernel
theorem dL_acts_192 : decode cL_acts 192 = .ok (.iaload, 1) := by decide +kernel
theorem dL_acts_193 : decode cL_acts 193 = .ok (.aload_n 2, 1) := by decide +kernel
theorem dL_acts_194 : decode cL_acts 194 = .ok (.iload 11, 2) := by decide +kernel
theorem dL_acts_196 : decode cL_acts 196 = .ok (.iaload, 1) := by decide +kernel
theorem dL_acts_197 : decode cL_acts 197 = .ok (.aload_n 3, 1) := by decide +kernel
theorem dL_acts_198 : decode cL_acts 198 = .ok (.iload 11, 2) := by decide +kernel
theorem dL_acts_200 : decode cL_acts 200 = .ok (.iaload, 1) := by decide +kernel
theorem dL_acts_201 : decode cL_acts 201 = .ok (.aload 4, 2) := by decide +kernel
theorem dL_acts_203 : decode cL_acts 203 = .ok (.iload 11, 2) := by decide +kernel
theorem dL_acts_205 : decode cL_acts 205 = .ok (.iaload, 1) := by decide +kernel
theorem dL_acts_206 : decode cL_acts 206 = .ok (.invokevirtual 94, 3) := by decide +kernel
theorem dL_acts_209 : decode cL_acts 209 = .ok (.iload 11, 2) := by decide +kernel
theorem dL_acts_211 : decode cL_acts 211 = .ok (.if_icmp .ne 7, 3) := by decide +kernel
theorem dL_acts_214 : decode cL_acts 214 = .ok (.iconst 1, 1) := by decide +kernel
theorem dL_acts_215 : decode cL_acts 215 = .ok (.goto 4, 3) := by decide +kernel
theorem dL_acts_218 : decode cL_acts 218 = .ok (.iconst 0, 1) := by decide +kernel
theorem dL_acts_219 : decode cL_acts 219 = .ok (.ireturn, 1) := by decide +kernel
theorem dL_acts_220 : decode cL_acts 220 = .ok (.aload 8, 2) := by decide +kernel
theorem dL_acts_222 : decode cL_acts 222 = .ok (.iconst 0, 1) := by decide +kernel
theorem dL_acts_223 : decode cL_acts 223 = .ok (.iaload, 1) := by decide +kernel
theorem dL_acts_224 : decode cL_acts 224 = .ok (.ifCond .ne 7, 3) := by decide +kernel
theorem dL_acts_227 : decode cL_acts 227 = .ok (.iconst 0, 1) := by decide +kernel
theorem dL_acts_228 : decode cL_acts 228 = .ok (.goto 10, 3) := by decide +kernel
theorem dL_acts_231 : decode cL_acts 231 = .ok (.iload 10, 2) := by decide +kernel
theorem dL_acts_233 : decode cL_acts 233 = .ok (.aload 8, 2) := by decide +kernel
theorem dL_acts_235 : decode cL_acts 235 = .ok (.iconst 0, 1) := by decide +kernel
theorem dL_acts_236 : decode cL_acts 236 = .ok (.iaload, 1) := by decide +kernel
theorem dL_acts_237 : decode cL_acts 237 = .ok (.irem, 1) := by decide +kernel
theorem dL_acts_238 : decode cL_acts 238 = .ok (.istore 11, 2) := by decide +kernel
theorem dL_acts_240 : decode cL_acts 240 = .ok (.iload 9, 2) := by decide +kernel
theorem dL_acts_242 : decode cL_acts 242 = .ok (.iconst 4, 1) := by decide +kernel
