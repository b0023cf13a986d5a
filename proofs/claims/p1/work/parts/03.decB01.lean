theorem dX10_text_263 : decode cX10_text 263 = .ok (.aload_n 0, 1) := by decide +kernel
theorem dX10_text_264 : decode cX10_text 264 = .ok (.getfield 74, 3) := by decide +kernel
theorem dX10_text_267 : decode cX10_text 267 = .ok (.bipush 96, 2) := by decide +kernel
theorem dX10_text_269 : decode cX10_text 269 = .ok (.iload 6, 2) := by decide +kernel
theorem dX10_text_271 : decode cX10_text 271 = .ok (.iadd, 1) := by decide +kernel
theorem dX10_text_272 : decode cX10_text 272 = .ok (.iaload, 1) := by decide +kernel
theorem dX10_text_273 : decode cX10_text 273 = .ok (.iastore, 1) := by decide +kernel
theorem dX10_text_274 : decode cX10_text 274 = .ok (.aload_n 0, 1) := by decide +kernel
theorem dX10_text_275 : decode cX10_text 275 = .ok (.getfield 77, 3) := by decide +kernel
theorem dX10_text_278 : decode cX10_text 278 = .ok (.bipush 16, 2) := by decide +kernel
theorem dX10_text_280 : decode cX10_text 280 = .ok (.iload 5, 2) := by decide +kernel
theorem dX10_text_282 : decode cX10_text 282 = .ok (.imul, 1) := by decide +kernel
theorem dX10_text_283 : decode cX10_text 283 = .ok (.iload 6, 2) := by decide +kernel
theorem dX10_text_285 : decode cX10_text 285 = .ok (.iadd, 1) := by decide +kernel
theorem dX10_text_286 : decode cX10_text 286 = .ok (.aload_n 0, 1) := by decide +kernel
theorem dX10_text_287 : decode cX10_text 287 = .ok (.getfield 77, 3) := by decide +kernel
theorem dX10_text_290 : decode cX10_text 290 = .ok (.bipush 96, 2) := by decide +kernel
theorem dX10_text_292 : decode cX10_text 292 = .ok (.iload 6, 2) := by decide +kernel
theorem dX10_text_294 : decode cX10_text 294 = .ok (.iadd, 1) := by decide +kernel
theorem dX10_text_295 : decode cX10_text 295 = .ok (.iaload, 1) := by decide +kernel
theorem dX10_text_296 : decode cX10_text 296 = .ok (.iastore, 1) := by decide +kernel
theorem dX10_text_297 : decode cX10_text 297 = .ok (.aload_n 0, 1) := by decide +kernel
theorem dX10_text_298 : decode cX10_text 298 = .ok (.getfield 80, 3) := by decide +kernel
theorem dX10_text_301 : decode cX10_text 301 = .ok (.bipush 16, 2) := by decide +kernel
theorem dX10_text_303 : decode cX10_text 303 = .ok (.iload 5, 2) := by decide +kernel
theorem dX10_text_305 : decode cX10_text 305 = .ok (.imul, 1) := by decide +kernel
theorem dX10_text_306 : decode cX10_text 306 = .ok (.iload 6, 2) := by decide +kernel
theorem dX10_text_308 : decode cX10_text 308 = .ok (.iadd, 1) := by decide +kernel
theorem dX10_text_309 : decode cX10_text 309 = .ok (.aload_n 0, 1) := by decide +kernel
theorem dX10_text_310 : decode cX10_text 310 = .ok (.getfield 80, 3) := by decide +kernel
theorem dX10_text_313 : decode cX10_text 313 = .ok (.bipush 96, 2) := by decide +kernel
theorem dX10_text_315 : decode cX10_text 315 = .ok (.iload 6, 2) := by decide +kernel
theorem dX10_text_317 : decode cX10_text 317 = .ok (.iadd, 1) := by decide +kernel
theorem dX10_text_318 : decode cX10_text 318 = .ok (.iaload, 1) := by decide +kernel
theorem dX10_text_319 : decode cX10_text 319 = .ok (.iastore, 1) := by decide +kernel
theorem dX10_text_320 : decode cX10_text 320 = .ok (.iinc 6 1, 3) := by decide +kernel
theorem dX10_text_323 : decode cX10_text 323 = .ok (.goto (-171), 3) := by decide +kernel
theorem dX10_text_326 : decode cX10_text 326 = .ok (.iconst 0, 1) := by decide +kernel
theorem dX10_text_327 : decode cX10_text 327 = .ok (.istore 6, 2) := by decide +kernel
theorem dX10_text_329 : decode cX10_text 329 = .ok (.iload 6, 2) := by decide +kernel
theorem dX10_text_331 : decode cX10_text 331 = .ok (.aload_n 0, 1) := by decide +kernel
theorem dX10_text_332 : decode cX10_text 332 = .ok (.getfield 228, 3) := by decide +kernel
theorem dX10_text_335 : decode cX10_text 335 = .ok (.if_icmp .ge 59, 3) := by decide +kernel
theorem dX10_text_338 : decode cX10_text 338 = .ok (.aload_n 0, 1) := by decide +kernel
theorem dX10_text_339 : decode cX10_text 339 = .ok (.getfield 83, 3) := by decide +kernel
theorem dX10_text_342 : decode cX10_text 342 = .ok (.sipush 500, 3) := by decide +kernel
theorem dX10_text_345 : decode cX10_text 345 = .ok (.iload 5, 2) := by decide +kernel
theorem dX10_text_347 : decode cX10_text 347 = .ok (.imul, 1) := by decide +kernel
theorem dX10_text_348 : decode cX10_text 348 = .ok (.iload 6, 2) := by decide +kernel
theorem dX10_text_350 : decode cX10_text 350 = .ok (.iadd, 1) := by decide +kernel
theorem dX10_text_351 : decode cX10_text 351 = .ok (.aload_n 0, 1) := by decide +kernel
theorem dX10_text_352 : decode cX10_text 352 = .ok (.getfield 83, 3) := by decide +kernel
theorem dX10_text_355 : decode cX10_text 355 = .ok (.sipush 3000, 3) := by decide +kernel
theorem dX10_text_358 : decode cX10_text 358 = .ok (.iload 6, 2) := by decide +kernel
theorem dX10_text_360 : decode cX10_text 360 = .ok (.iadd, 1) := by decide +kernel
theorem dX10_text_361 : decode cX10_text 361 = .ok (.iaload, 1) := by decide +kernel
theorem dX10_text_362 : decode cX10_text 362 = .ok (.iastore, 1) := by decide +kernel
theorem dX10_text_363 : decode cX10_text 363 = .ok (.aload_n 0, 1) := by decide +kernel
theorem dX10_text_364 : decode cX10_text 364 = .ok (.getfield 86, 3) := by decide +kernel
theorem dX10_text_367 : decode cX10_text 367 = .ok (.sipush 500, 3) := by decide +kernel
theorem dX10_text_370 : decode cX10_text 370 = .ok (.iload 5, 2) := by decide +kernel
theorem dX10_text_372 : decode cX10_text 372 = .ok (.imul, 1) := by decide +kernel
theorem dX10_text_373 : decode cX10_text 373 = .ok (.iload 6, 2) := by decide +kernel
theorem dX10_text_375 : decode cX10_text 375 = .ok (.iadd, 1) := by decide +kernel
theorem dX10_text_376 : decode cX10_text 376 = .ok (.aload_n 0, 1) := by decide +kernel
theorem dX10_text_377 : decode cX10_text 377 = .ok (.getfield 86, 3) := by decide +kernel
theorem dX10_text_380 : decode cX10_text 380 = .ok (.sipush 3000, 3) := by decide +kernel
theorem dX10_text_383 : decode cX10_text 383 = .ok (.iload 6, 2) := by decide +kernel
theorem dX10_text_385 : decode cX10_text 385 = .ok (.iadd, 1) := by decide +kernel
theorem dX10_text_386 : decode cX10_text 386 = .ok (.iaload, 1) := by decide +kernel
theorem dX10_text_387 : decode cX10_text 387 = .ok (.iastore, 1) := by decide +kernel
theorem dX10_text_388 : decode cX10_text 388 = .ok (.iinc 6 1, 3) := by decide +kernel
theorem dX10_text_391 : decode cX10_text 391 = .ok (.goto (-62), 3) := by decide +kernel
theorem dX10_text_394 : decode cX10_text 394 = .ok (.aload_n 0, 1) := by decide +kernel
theorem dX10_text_395 : decode cX10_text 395 = .ok (.getfield 59, 3) := by decide +kernel
theorem dX10_text_398 : decode cX10_text 398 = .ok (.iload 5, 2) := by decide +kernel
theorem dX10_text_400 : decode cX10_text 400 = .ok (.iload 4, 2) := by decide +kernel
theorem dX10_text_402 : decode cX10_text 402 = .ok (.iastore, 1) := by decide +kernel
theorem dX10_text_403 : decode cX10_text 403 = .ok (.iload 4, 2) := by decide +kernel
theorem dX10_text_405 : decode cX10_text 405 = .ok (.ireturn, 1) := by decide +kernel
theorem dX10_fault_0 : decode cX10_fault 0 = .ok (.aload_n 0, 1) := by decide +kernel
theorem dX10_fault_1 : decode cX10_fault 1 = .ok (.iconst 0, 1) := by decide +kernel
theorem dX10_fault_2 : decode cX10_fault 2 = .ok (.putfield 167, 3) := by decide +kernel
theorem dX10_fault_5 : decode cX10_fault 5 = .ok (.iload_n 1, 1) := by decide +kernel
theorem dX10_fault_6 : decode cX10_fault 6 = .ok (.ifCond .ne 10, 3) := by decide +kernel
theorem dX10_fault_9 : decode cX10_fault 9 = .ok (.aload_n 0, 1) := by decide +kernel
theorem dX10_fault_10 : decode cX10_fault 10 = .ok (.getfield 292, 3) := by decide +kernel
theorem dX10_fault_13 : decode cX10_fault 13 = .ok (.goto 16, 3) := by decide +kernel
theorem dX10_fault_16 : decode cX10_fault 16 = .ok (.iload_n 1, 1) := by decide +kernel
theorem dX10_fault_17 : decode cX10_fault 17 = .ok (.iconst 1, 1) := by decide +kernel
theorem dX10_fault_18 : decode cX10_fault 18 = .ok (.if_icmp .ne 10, 3) := by decide +kernel
theorem dX10_fault_21 : decode cX10_fault 21 = .ok (.aload_n 0, 1) := by decide +kernel
theorem dX10_fault_22 : decode cX10_fault 22 = .ok (.getfield 92, 3) := by decide +kernel
theorem dX10_fault_25 : decode cX10_fault 25 = .ok (.goto 4, 3) := by decide +kernel
theorem dX10_fault_28 : decode cX10_fault 28 = .ok (.iconst (-1), 1) := by decide +kernel
theorem dX10_fault_29 : decode cX10_fault 29 = .ok (.ireturn, 1) := by decide +kernel
theorem dX10_force_0 : decode cX10_force 0 = .ok (.aload_n 0, 1) := by decide +kernel
theorem dX10_force_1 : decode cX10_force 1 = .ok (.iconst 0, 1) := by decide +kernel
theorem dX10_force_2 : decode cX10_force 2 = .ok (.putfield 167, 3) := by decide +kernel
theorem dX10_force_5 : decode cX10_force 5 = .ok (.aload_n 0, 1) := by decide +kernel
theorem dX10_force_6 : decode cX10_force 6 = .ok (.iload_n 1, 1) := by decide +kernel
theorem dX10_force_7 : decode cX10_force 7 = .ok (.invokevirtual 328, 3) := by decide +kernel
theorem dX10_force_10 : decode cX10_force 10 = .ok (.ifCond .ne 5, 3) := by decide +kernel
theorem dX10_force_13 : decode cX10_force 13 = .ok (.iconst (-1), 1) := by decide +kernel
theorem dX10_force_14 : decode cX10_force 14 = .ok (.ireturn, 1) := by decide +kernel
theorem dX10_force_15 : decode cX10_force 15 = .ok (.aload_n 0, 1) := by decide +kernel
theorem dX10_force_16 : decode cX10_force 16 = .ok (.getfield 322, 3) := by decide +kernel
theorem dX10_force_19 : decode cX10_force 19 = .ok (.istore_n 2, 1) := by decide +kernel
theorem dX10_force_20 : decode cX10_force 20 = .ok (.aload_n 0, 1) := by decide +kernel
theorem dX10_force_21 : decode cX10_force 21 = .ok (.iload_n 1, 1) := by decide +kernel
theorem dX10_force_22 : decode cX10_force 22 = .ok (.putfield 322, 3) := by decide +kernel
theorem dX10_force_25 : decode cX10_force 25 = .ok (.iload_n 2, 1) := by decide +kernel
theorem dX10_force_26 : decode cX10_force 26 = .ok (.ireturn, 1) := by decide +kernel
theorem dX10_tells_0 : decode cX10_tells 0 = .ok (.aload_n 0, 1) := by decide +kernel
theorem dX10_tells_1 : decode cX10_tells 1 = .ok (.iconst 0, 1) := by decide +kernel
theorem dX10_tells_2 : decode cX10_tells 2 = .ok (.putfield 167, 3) := by decide +kernel
theorem dX10_tells_5 : decode cX10_tells 5 = .ok (.aload_n 0, 1) := by decide +kernel
theorem dX10_tells_6 : decode cX10_tells 6 = .ok (.iload_n 1, 1) := by decide +kernel
theorem dX10_tells_7 : decode cX10_tells 7 = .ok (.invokevirtual 328, 3) := by decide +kernel
theorem dX10_tells_10 : decode cX10_tells 10 = .ok (.ifCond .eq 32, 3) := by decide +kernel
theorem dX10_tells_13 : decode cX10_tells 13 = .ok (.aload_n 0, 1) := by decide +kernel
theorem dX10_tells_14 : decode cX10_tells 14 = .ok (.iload_n 2, 1) := by decide +kernel
theorem dX10_tells_15 : decode cX10_tells 15 = .ok (.iconst 0, 1) := by decide +kernel
theorem dX10_tells_16 : decode cX10_tells 16 = .ok (.iconst 2, 1) := by decide +kernel
theorem dX10_tells_17 : decode cX10_tells 17 = .ok (.invokevirtual 177, 3) := by decide +kernel
theorem dX10_tells_20 : decode cX10_tells 20 = .ok (.ifCond .eq 22, 3) := by decide +kernel
theorem dX10_tells_23 : decode cX10_tells 23 = .ok (.aload_n 0, 1) := by decide +kernel
theorem dX10_tells_24 : decode cX10_tells 24 = .ok (.iload_n 3, 1) := by decide +kernel
theorem dX10_tells_25 : decode cX10_tells 25 = .ok (.invokevirtual 331, 3) := by decide +kernel
theorem dX10_tells_28 : decode cX10_tells 28 = .ok (.ifCond .eq 14, 3) := by decide +kernel
theorem dX10_tells_31 : decode cX10_tells 31 = .ok (.aload_n 0, 1) := by decide +kernel
theorem dX10_tells_32 : decode cX10_tells 32 = .ok (.iload 4, 2) := by decide +kernel
theorem dX10_tells_34 : decode cX10_tells 34 = .ok (.iload 5, 2) := by decide +kernel
theorem dX10_tells_36 : decode cX10_tells 36 = .ok (.invokevirtual 181, 3) := by decide +kernel
theorem dX10_tells_39 : decode cX10_tells 39 = .ok (.ifCond .ne 7, 3) := by decide +kernel
theorem dX10_tells_42 : decode cX10_tells 42 = .ok (.ldc_w 334, 3) := by decide +kernel
theorem dX10_tells_45 : decode cX10_tells 45 = .ok (.ireturn, 1) := by decide +kernel
theorem dX10_tells_46 : decode cX10_tells 46 = .ok (.aload_n 0, 1) := by decide +kernel
theorem dX10_tells_47 : decode cX10_tells 47 = .ok (.iload 4, 2) := by decide +kernel
theorem dX10_tells_49 : decode cX10_tells 49 = .ok (.iload 5, 2) := by decide +kernel
theorem dX10_tells_51 : decode cX10_tells 51 = .ok (.invokevirtual 316, 3) := by decide +kernel
theorem dX10_tells_54 : decode cX10_tells 54 = .ok (.aload_n 0, 1) := by decide +kernel
theorem dX10_tells_55 : decode cX10_tells 55 = .ok (.iload_n 1, 1) := by decide +kernel
theorem dX10_tells_56 : decode cX10_tells 56 = .ok (.iload_n 2, 1) := by decide +kernel
theorem dX10_tells_57 : decode cX10_tells 57 = .ok (.iload_n 3, 1) := by decide +kernel
theorem dX10_tells_58 : decode cX10_tells 58 = .ok (.invokevirtual 319, 3) := by decide +kernel
theorem dX10_tells_61 : decode cX10_tells 61 = .ok (.ireturn, 1) := by decide +kernel
theorem dX10_tone_0 : decode cX10_tone 0 = .ok (.aload_n 0, 1) := by decide +kernel
theorem dX10_tone_1 : decode cX10_tone 1 = .ok (.iconst 0, 1) := by decide +kernel
theorem dX10_tone_2 : decode cX10_tone 2 = .ok (.putfield 167, 3) := by decide +kernel
theorem dX10_tone_5 : decode cX10_tone 5 = .ok (.aload_n 0, 1) := by decide +kernel
theorem dX10_tone_6 : decode cX10_tone 6 = .ok (.iload_n 1, 1) := by decide +kernel
theorem dX10_tone_7 : decode cX10_tone 7 = .ok (.invokevirtual 173, 3) := by decide +kernel
theorem dX10_tone_10 : decode cX10_tone 10 = .ok (.ifCond .eq 20, 3) := by decide +kernel
theorem dX10_tone_13 : decode cX10_tone 13 = .ok (.aload_n 0, 1) := by decide +kernel
theorem dX10_tone_14 : decode cX10_tone 14 = .ok (.iload_n 2, 1) := by decide +kernel
theorem dX10_tone_15 : decode cX10_tone 15 = .ok (.invokevirtual 331, 3) := by decide +kernel
theorem dX10_tone_18 : decode cX10_tone 18 = .ok (.ifCond .eq 12, 3) := by decide +kernel
theorem dX10_tone_21 : decode cX10_tone 21 = .ok (.aload_n 0, 1) := by decide +kernel
theorem dX10_tone_22 : decode cX10_tone 22 = .ok (.iload_n 1, 1) := by decide +kernel
theorem dX10_tone_23 : decode cX10_tone 23 = .ok (.iload_n 2, 1) := by decide +kernel
theorem dX10_tone_24 : decode cX10_tone 24 = .ok (.invokevirtual 335, 3) := by decide +kernel
theorem dX10_tone_27 : decode cX10_tone 27 = .ok (.goto 4, 3) := by decide +kernel
theorem dX10_tone_30 : decode cX10_tone 30 = .ok (.iconst (-1), 1) := by decide +kernel
theorem dX10_tone_31 : decode cX10_tone 31 = .ok (.ireturn, 1) := by decide +kernel
theorem dX10_canPass_0 : decode cX10_canPass 0 = .ok (.aload_n 0, 1) := by decide +kernel
theorem dX10_canPass_1 : decode cX10_canPass 1 = .ok (.iload_n 1, 1) := by decide +kernel
theorem dX10_canPass_2 : decode cX10_canPass 2 = .ok (.iload_n 2, 1) := by decide +kernel
theorem dX10_canPass_3 : decode cX10_canPass 3 = .ok (.invokevirtual 181, 3) := by decide +kernel
theorem dX10_canPass_6 : decode cX10_canPass 6 = .ok (.ifCond .eq 34, 3) := by decide +kernel
theorem dX10_canPass_9 : decode cX10_canPass 9 = .ok (.aload_n 0, 1) := by decide +kernel
theorem dX10_canPass_10 : decode cX10_canPass 10 = .ok (.getfield 17, 3) := by decide +kernel
theorem dX10_canPass_13 : decode cX10_canPass 13 = .ok (.bipush 16, 2) := by decide +kernel
theorem dX10_canPass_15 : decode cX10_canPass 15 = .ok (.iload_n 1, 1) := by decide +kernel
theorem dX10_canPass_16 : decode cX10_canPass 16 = .ok (.imul, 1) := by decide +kernel
theorem dX10_canPass_17 : decode cX10_canPass 17 = .ok (.iload_n 2, 1) := by decide +kernel
theorem dX10_canPass_18 : decode cX10_canPass 18 = .ok (.iadd, 1) := by decide +kernel
theorem dX10_canPass_19 : decode cX10_canPass 19 = .ok (.iaload, 1) := by decide +kernel
theorem dX10_canPass_20 : decode cX10_canPass 20 = .ok (.iload_n 3, 1) := by decide +kernel
theorem dX10_canPass_21 : decode cX10_canPass 21 = .ok (.if_icmp .le 19, 3) := by decide +kernel
theorem dX10_canPass_24 : decode cX10_canPass 24 = .ok (.aload_n 0, 1) := by decide +kernel
theorem dX10_canPass_25 : decode cX10_canPass 25 = .ok (.getfield 32, 3) := by decide +kernel
theorem dX10_canPass_28 : decode cX10_canPass 28 = .ok (.iload_n 1, 1) := by decide +kernel
theorem dX10_canPass_29 : decode cX10_canPass 29 = .ok (.iaload, 1) := by decide +kernel
theorem dX10_canPass_30 : decode cX10_canPass 30 = .ok (.sipush 200, 3) := by decide +kernel
theorem dX10_canPass_33 : decode cX10_canPass 33 = .ok (.if_icmp .ge 7, 3) := by decide +kernel
theorem dX10_canPass_36 : decode cX10_canPass 36 = .ok (.iconst 1, 1) := by decide +kernel
theorem dX10_canPass_37 : decode cX10_canPass 37 = .ok (.goto 4, 3) := by decide +kernel
theorem dX10_canPass_40 : decode cX10_canPass 40 = .ok (.iconst 0, 1) := by decide +kernel
theorem dX10_canPass_41 : decode cX10_canPass 41 = .ok (.ireturn, 1) := by decide +kernel
theorem dX10_shave_0 : decode cX10_shave 0 = .ok (.aload_n 0, 1) := by decide +kernel
theorem dX10_shave_1 : decode cX10_shave 1 = .ok (.iconst 0, 1) := by decide +kernel
theorem dX10_shave_2 : decode cX10_shave 2 = .ok (.putfield 167, 3) := by decide +kernel
theorem dX10_shave_5 : decode cX10_shave 5 = .ok (.aload_n 0, 1) := by decide +kernel
theorem dX10_shave_6 : decode cX10_shave 6 = .ok (.iload_n 3, 1) := by decide +kernel
theorem dX10_shave_7 : decode cX10_shave 7 = .ok (.iconst 1, 1) := by decide +kernel
theorem dX10_shave_8 : decode cX10_shave 8 = .ok (.bipush 9, 2) := by decide +kernel
theorem dX10_shave_10 : decode cX10_shave 10 = .ok (.invokevirtual 177, 3) := by decide +kernel
theorem dX10_shave_13 : decode cX10_shave 13 = .ok (.ifCond .eq 13, 3) := by decide +kernel
theorem dX10_shave_16 : decode cX10_shave 16 = .ok (.aload_n 0, 1) := by decide +kernel
theorem dX10_shave_17 : decode cX10_shave 17 = .ok (.iload_n 1, 1) := by decide +kernel
theorem dX10_shave_18 : decode cX10_shave 18 = .ok (.iload_n 2, 1) := by decide +kernel
theorem dX10_shave_19 : decode cX10_shave 19 = .ok (.iload_n 3, 1) := by decide +kernel
theorem dX10_shave_20 : decode cX10_shave 20 = .ok (.invokevirtual 341, 3) := by decide +kernel
theorem dX10_shave_23 : decode cX10_shave 23 = .ok (.ifCond .ne 5, 3) := by decide +kernel
theorem dX10_shave_26 : decode cX10_shave 26 = .ok (.iconst (-1), 1) := by decide +kernel
theorem dX10_shave_27 : decode cX10_shave 27 = .ok (.ireturn, 1) := by decide +kernel
theorem dX10_shave_28 : decode cX10_shave 28 = .ok (.aload_n 0, 1) := by decide +kernel
theorem dX10_shave_29 : decode cX10_shave 29 = .ok (.iload_n 1, 1) := by decide +kernel
theorem dX10_shave_30 : decode cX10_shave 30 = .ok (.iload_n 2, 1) := by decide +kernel
theorem dX10_shave_31 : decode cX10_shave 31 = .ok (.iload_n 3, 1) := by decide +kernel
theorem dX10_shave_32 : decode cX10_shave 32 = .ok (.invokevirtual 344, 3) := by decide +kernel
theorem dX10_shave_35 : decode cX10_shave 35 = .ok (.aload_n 0, 1) := by decide +kernel
theorem dX10_shave_36 : decode cX10_shave 36 = .ok (.getfield 32, 3) := by decide +kernel
theorem dX10_shave_39 : decode cX10_shave 39 = .ok (.iload_n 1, 1) := by decide +kernel
theorem dX10_shave_40 : decode cX10_shave 40 = .ok (.iaload, 1) := by decide +kernel
theorem dX10_shave_41 : decode cX10_shave 41 = .ok (.ireturn, 1) := by decide +kernel
theorem dX10_pass_0 : decode cX10_pass 0 = .ok (.aload_n 0, 1) := by decide +kernel
theorem dX10_pass_1 : decode cX10_pass 1 = .ok (.iconst 0, 1) := by decide +kernel
theorem dX10_pass_2 : decode cX10_pass 2 = .ok (.putfield 167, 3) := by decide +kernel
theorem dX10_pass_5 : decode cX10_pass 5 = .ok (.aload_n 0, 1) := by decide +kernel
theorem dX10_pass_6 : decode cX10_pass 6 = .ok (.iload_n 1, 1) := by decide +kernel
theorem dX10_pass_7 : decode cX10_pass 7 = .ok (.invokevirtual 173, 3) := by decide +kernel
theorem dX10_pass_10 : decode cX10_pass 10 = .ok (.ifCond .eq 18, 3) := by decide +kernel
theorem dX10_pass_13 : decode cX10_pass 13 = .ok (.aload_n 0, 1) := by decide +kernel
theorem dX10_pass_14 : decode cX10_pass 14 = .ok (.iload_n 2, 1) := by decide +kernel
theorem dX10_pass_15 : decode cX10_pass 15 = .ok (.iconst 1, 1) := by decide +kernel
theorem dX10_pass_16 : decode cX10_pass 16 = .ok (.aload_n 0, 1) := by decide +kernel
theorem dX10_pass_17 : decode cX10_pass 17 = .ok (.getfield 32, 3) := by decide +kernel
theorem dX10_pass_20 : decode cX10_pass 20 = .ok (.iload_n 1, 1) := by decide +kernel
theorem dX10_pass_21 : decode cX10_pass 21 = .ok (.iaload, 1) := by decide +kernel
theorem dX10_pass_22 : decode cX10_pass 22 = .ok (.invokevirtual 177, 3) := by decide +kernel
theorem dX10_pass_25 : decode cX10_pass 25 = .ok (.ifCond .ne 5, 3) := by decide +kernel
theorem dX10_pass_28 : decode cX10_pass 28 = .ok (.iconst (-1), 1) := by decide +kernel
theorem dX10_pass_29 : decode cX10_pass 29 = .ok (.ireturn, 1) := by decide +kernel
theorem dX10_pass_30 : decode cX10_pass 30 = .ok (.iload_n 3, 1) := by decide +kernel
theorem dX10_pass_31 : decode cX10_pass 31 = .ok (.ifCond .ne 20, 3) := by decide +kernel
theorem dX10_pass_34 : decode cX10_pass 34 = .ok (.aload_n 0, 1) := by decide +kernel
theorem dX10_pass_35 : decode cX10_pass 35 = .ok (.getfield 35, 3) := by decide +kernel
theorem dX10_pass_38 : decode cX10_pass 38 = .ok (.sipush 200, 3) := by decide +kernel
theorem dX10_pass_41 : decode cX10_pass 41 = .ok (.iload_n 1, 1) := by decide +kernel
theorem dX10_pass_42 : decode cX10_pass 42 = .ok (.imul, 1) := by decide +kernel
theorem dX10_pass_43 : decode cX10_pass 43 = .ok (.iload_n 2, 1) := by decide +kernel
theorem dX10_pass_44 : decode cX10_pass 44 = .ok (.iadd, 1) := by decide +kernel
theorem dX10_pass_45 : decode cX10_pass 45 = .ok (.iconst 1, 1) := by decide +kernel
theorem dX10_pass_46 : decode cX10_pass 46 = .ok (.isub, 1) := by decide +kernel
theorem dX10_pass_47 : decode cX10_pass 47 = .ok (.iaload, 1) := by decide +kernel
theorem dX10_pass_48 : decode cX10_pass 48 = .ok (.goto 26, 3) := by decide +kernel
theorem dX10_pass_51 : decode cX10_pass 51 = .ok (.iload_n 3, 1) := by decide +kernel
theorem dX10_pass_52 : decode cX10_pass 52 = .ok (.iconst 1, 1) := by decide +kernel
theorem dX10_pass_53 : decode cX10_pass 53 = .ok (.if_icmp .ne 20, 3) := by decide +kernel
theorem dX10_pass_56 : decode cX10_pass 56 = .ok (.aload_n 0, 1) := by decide +kernel
theorem dX10_pass_57 : decode cX10_pass 57 = .ok (.getfield 38, 3) := by decide +kernel
theorem dX10_pass_60 : decode cX10_pass 60 = .ok (.sipush 200, 3) := by decide +kernel
theorem dX10_pass_63 : decode cX10_pass 63 = .ok (.iload_n 1, 1) := by decide +kernel
theorem dX10_pass_64 : decode cX10_pass 64 = .ok (.imul, 1) := by decide +kernel
theorem dX10_pass_65 : decode cX10_pass 65 = .ok (.iload_n 2, 1) := by decide +kernel
theorem dX10_pass_66 : decode cX10_pass 66 = .ok (.iadd, 1) := by decide +kernel
theorem dX10_pass_67 : decode cX10_pass 67 = .ok (.iconst 1, 1) := by decide +kernel
theorem dX10_pass_68 : decode cX10_pass 68 = .ok (.isub, 1) := by decide +kernel
theorem dX10_pass_69 : decode cX10_pass 69 = .ok (.iaload, 1) := by decide +kernel
theorem dX10_pass_70 : decode cX10_pass 70 = .ok (.goto 4, 3) := by decide +kernel
theorem dX10_pass_73 : decode cX10_pass 73 = .ok (.iconst (-1), 1) := by decide +kernel
theorem dX10_pass_74 : decode cX10_pass 74 = .ok (.ireturn, 1) := by decide +kernel
theorem dX10_goal_0 : decode cX10_goal 0 = .ok (.aload_n 0, 1) := by decide +kernel
theorem dX10_goal_1 : decode cX10_goal 1 = .ok (.iconst 0, 1) := by decide +kernel
theorem dX10_goal_2 : decode cX10_goal 2 = .ok (.putfield 167, 3) := by decide +kernel
theorem dX10_goal_5 : decode cX10_goal 5 = .ok (.aload_n 0, 1) := by decide +kernel
theorem dX10_goal_6 : decode cX10_goal 6 = .ok (.iload_n 1, 1) := by decide +kernel
theorem dX10_goal_7 : decode cX10_goal 7 = .ok (.invokevirtual 173, 3) := by decide +kernel
theorem dX10_goal_10 : decode cX10_goal 10 = .ok (.ifCond .eq 23, 3) := by decide +kernel
theorem dX10_goal_13 : decode cX10_goal 13 = .ok (.aload_n 0, 1) := by decide +kernel
theorem dX10_goal_14 : decode cX10_goal 14 = .ok (.iload_n 2, 1) := by decide +kernel
theorem dX10_goal_15 : decode cX10_goal 15 = .ok (.invokevirtual 331, 3) := by decide +kernel
theorem dX10_goal_18 : decode cX10_goal 18 = .ok (.ifCond .eq 15, 3) := by decide +kernel
theorem dX10_goal_21 : decode cX10_goal 21 = .ok (.aload_n 0, 1) := by decide +kernel
theorem dX10_goal_22 : decode cX10_goal 22 = .ok (.iload_n 3, 1) := by decide +kernel
theorem dX10_goal_23 : decode cX10_goal 23 = .ok (.iconst 0, 1) := by decide +kernel
theorem dX10_goal_24 : decode cX10_goal 24 = .ok (.ldc_w 348, 3) := by decide +kernel
theorem dX10_goal_27 : decode cX10_goal 27 = .ok (.invokevirtual 177, 3) := by decide +kernel
theorem dX10_goal_30 : decode cX10_goal 30 = .ok (.ifCond .ne 5, 3) := by decide +kernel
theorem dX10_goal_33 : decode cX10_goal 33 = .ok (.iconst 0, 1) := by decide +kernel
theorem dX10_goal_34 : decode cX10_goal 34 = .ok (.ireturn, 1) := by decide +kernel
theorem dX10_goal_35 : decode cX10_goal 35 = .ok (.aload_n 0, 1) := by decide +kernel
theorem dX10_goal_36 : decode cX10_goal 36 = .ok (.getfield 29, 3) := by decide +kernel
theorem dX10_goal_39 : decode cX10_goal 39 = .ok (.iconst 3, 1) := by decide +kernel
theorem dX10_goal_40 : decode cX10_goal 40 = .ok (.iload_n 1, 1) := by decide +kernel
theorem dX10_goal_41 : decode cX10_goal 41 = .ok (.imul, 1) := by decide +kernel
theorem dX10_goal_42 : decode cX10_goal 42 = .ok (.iload_n 2, 1) := by decide +kernel
theorem dX10_goal_43 : decode cX10_goal 43 = .ok (.iadd, 1) := by decide +kernel
theorem dX10_goal_44 : decode cX10_goal 44 = .ok (.iload_n 3, 1) := by decide +kernel
theorem dX10_goal_45 : decode cX10_goal 45 = .ok (.iastore, 1) := by decide +kernel
theorem dX10_goal_46 : decode cX10_goal 46 = .ok (.iconst 1, 1) := by decide +kernel
theorem dX10_goal_47 : decode cX10_goal 47 = .ok (.ireturn, 1) := by decide +kernel
theorem dX10_slack_0 : decode cX10_slack 0 = .ok (.aload_n 0, 1) := by decide +kernel
theorem dX10_slack_1 : decode cX10_slack 1 = .ok (.iconst 0, 1) := by decide +kernel
theorem dX10_slack_2 : decode cX10_slack 2 = .ok (.putfield 167, 3) := by decide +kernel
theorem dX10_slack_5 : decode cX10_slack 5 = .ok (.aload_n 0, 1) := by decide +kernel
theorem dX10_slack_6 : decode cX10_slack 6 = .ok (.iload_n 1, 1) := by decide +kernel
theorem dX10_slack_7 : decode cX10_slack 7 = .ok (.iconst 0, 1) := by decide +kernel
theorem dX10_slack_8 : decode cX10_slack 8 = .ok (.sipush 9999, 3) := by decide +kernel
theorem dX10_slack_11 : decode cX10_slack 11 = .ok (.invokevirtual 177, 3) := by decide +kernel
theorem dX10_slack_14 : decode cX10_slack 14 = .ok (.ifCond .ne 5, 3) := by decide +kernel
theorem dX10_slack_17 : decode cX10_slack 17 = .ok (.iconst 0, 1) := by decide +kernel
theorem dX10_slack_18 : decode cX10_slack 18 = .ok (.ireturn, 1) := by decide +kernel
theorem dX10_slack_19 : decode cX10_slack 19 = .ok (.aload_n 0, 1) := by decide +kernel
theorem dX10_slack_20 : decode cX10_slack 20 = .ok (.iload_n 1, 1) := by decide +kernel
theorem dX10_slack_21 : decode cX10_slack 21 = .ok (.putfield 7, 3) := by decide +kernel
theorem dX10_slack_24 : decode cX10_slack 24 = .ok (.iconst 1, 1) := by decide +kernel
theorem dX10_slack_25 : decode cX10_slack 25 = .ok (.ireturn, 1) := by decide +kernel
theorem dX10_takes_0 : decode cX10_takes 0 = .ok (.aload_n 0, 1) := by decide +kernel
theorem dX10_takes_1 : decode cX10_takes 1 = .ok (.iconst 0, 1) := by decide +kernel
theorem dX10_takes_2 : decode cX10_takes 2 = .ok (.putfield 167, 3) := by decide +kernel
theorem dX10_takes_5 : decode cX10_takes 5 = .ok (.aload_n 0, 1) := by decide +kernel
theorem dX10_takes_6 : decode cX10_takes 6 = .ok (.iload_n 1, 1) := by decide +kernel
theorem dX10_takes_7 : decode cX10_takes 7 = .ok (.iload_n 2, 1) := by decide +kernel
theorem dX10_takes_8 : decode cX10_takes 8 = .ok (.invokevirtual 181, 3) := by decide +kernel
theorem dX10_takes_11 : decode cX10_takes 11 = .ok (.ifCond .eq 26, 3) := by decide +kernel
theorem dX10_takes_14 : decode cX10_takes 14 = .ok (.aload_n 0, 1) := by decide +kernel
theorem dX10_takes_15 : decode cX10_takes 15 = .ok (.iload_n 3, 1) := by decide +kernel
theorem dX10_takes_16 : decode cX10_takes 16 = .ok (.invokevirtual 331, 3) := by decide +kernel
theorem dX10_takes_19 : decode cX10_takes 19 = .ok (.ifCond .eq 18, 3) := by decide +kernel
theorem dX10_takes_22 : decode cX10_takes 22 = .ok (.aload_n 0, 1) := by decide +kernel
theorem dX10_takes_23 : decode cX10_takes 23 = .ok (.getfield 17, 3) := by decide +kernel
theorem dX10_takes_26 : decode cX10_takes 26 = .ok (.bipush 16, 2) := by decide +kernel
theorem dX10_takes_28 : decode cX10_takes 28 = .ok (.iload_n 1, 1) := by decide +kernel
theorem dX10_takes_29 : decode cX10_takes 29 = .ok (.imul, 1) := by decide +kernel
theorem dX10_takes_30 : decode cX10_takes 30 = .ok (.iload_n 2, 1) := by decide +kernel
theorem dX10_takes_31 : decode cX10_takes 31 = .ok (.iadd, 1) := by decide +kernel
theorem dX10_takes_32 : decode cX10_takes 32 = .ok (.iaload, 1) := by decide +kernel
theorem dX10_takes_33 : decode cX10_takes 33 = .ok (.iconst 1, 1) := by decide +kernel
theorem dX10_takes_34 : decode cX10_takes 34 = .ok (.if_icmp .ne 7, 3) := by decide +kernel
theorem dX10_takes_37 : decode cX10_takes 37 = .ok (.ldc_w 349, 3) := by decide +kernel
theorem dX10_takes_40 : decode cX10_takes 40 = .ok (.ireturn, 1) := by decide +kernel
theorem dX10_takes_41 : decode cX10_takes 41 = .ok (.aload_n 0, 1) := by decide +kernel
theorem dX10_takes_42 : decode cX10_takes 42 = .ok (.iload_n 1, 1) := by decide +kernel
theorem dX10_takes_43 : decode cX10_takes 43 = .ok (.iload_n 3, 1) := by decide +kernel
theorem dX10_takes_44 : decode cX10_takes 44 = .ok (.invokevirtual 335, 3) := by decide +kernel
theorem dX10_takes_47 : decode cX10_takes 47 = .ok (.istore 4, 2) := by decide +kernel
theorem dX10_takes_49 : decode cX10_takes 49 = .ok (.aload_n 0, 1) := by decide +kernel
theorem dX10_takes_50 : decode cX10_takes 50 = .ok (.getfield 17, 3) := by decide +kernel
theorem dX10_takes_53 : decode cX10_takes 53 = .ok (.bipush 16, 2) := by decide +kernel
theorem dX10_takes_55 : decode cX10_takes 55 = .ok (.iload_n 1, 1) := by decide +kernel
theorem dX10_takes_56 : decode cX10_takes 56 = .ok (.imul, 1) := by decide +kernel
theorem dX10_takes_57 : decode cX10_takes 57 = .ok (.iload_n 2, 1) := by decide +kernel
theorem dX10_takes_58 : decode cX10_takes 58 = .ok (.iadd, 1) := by decide +kernel
theorem dX10_takes_59 : decode cX10_takes 59 = .ok (.aload_n 0, 1) := by decide +kernel
theorem dX10_takes_60 : decode cX10_takes 60 = .ok (.getfield 17, 3) := by decide +kernel
theorem dX10_takes_63 : decode cX10_takes 63 = .ok (.bipush 16, 2) := by decide +kernel
theorem dX10_takes_65 : decode cX10_takes 65 = .ok (.iload_n 1, 1) := by decide +kernel
theorem dX10_takes_66 : decode cX10_takes 66 = .ok (.imul, 1) := by decide +kernel
theorem dX10_takes_67 : decode cX10_takes 67 = .ok (.iload_n 2, 1) := by decide +kernel
theorem dX10_takes_68 : decode cX10_takes 68 = .ok (.iadd, 1) := by decide +kernel
theorem dX10_takes_69 : decode cX10_takes 69 = .ok (.iaload, 1) := by decide +kernel
theorem dX10_takes_70 : decode cX10_takes 70 = .ok (.iconst 1, 1) := by decide +kernel
theorem dX10_takes_71 : decode cX10_takes 71 = .ok (.isub, 1) := by decide +kernel
theorem dX10_takes_72 : decode cX10_takes 72 = .ok (.iastore, 1) := by decide +kernel
theorem dX10_takes_73 : decode cX10_takes 73 = .ok (.aload_n 0, 1) := by decide +kernel
theorem dX10_takes_74 : decode cX10_takes 74 = .ok (.iload_n 1, 1) := by decide +kernel
theorem dX10_takes_75 : decode cX10_takes 75 = .ok (.iload_n 3, 1) := by decide +kernel
theorem dX10_takes_76 : decode cX10_takes 76 = .ok (.invokevirtual 335, 3) := by decide +kernel
theorem dX10_takes_79 : decode cX10_takes 79 = .ok (.istore 5, 2) := by decide +kernel
theorem dX10_takes_81 : decode cX10_takes 81 = .ok (.aload_n 0, 1) := by decide +kernel
theorem dX10_takes_82 : decode cX10_takes 82 = .ok (.getfield 17, 3) := by decide +kernel
theorem dX10_takes_85 : decode cX10_takes 85 = .ok (.bipush 16, 2) := by decide +kernel
theorem dX10_takes_87 : decode cX10_takes 87 = .ok (.iload_n 1, 1) := by decide +kernel
theorem dX10_takes_88 : decode cX10_takes 88 = .ok (.imul, 1) := by decide +kernel
theorem dX10_takes_89 : decode cX10_takes 89 = .ok (.iload_n 2, 1) := by decide +kernel
theorem dX10_takes_90 : decode cX10_takes 90 = .ok (.iadd, 1) := by decide +kernel
theorem dX10_takes_91 : decode cX10_takes 91 = .ok (.aload_n 0, 1) := by decide +kernel
theorem dX10_takes_92 : decode cX10_takes 92 = .ok (.getfield 17, 3) := by decide +kernel
theorem dX10_takes_95 : decode cX10_takes 95 = .ok (.bipush 16, 2) := by decide +kernel
theorem dX10_takes_97 : decode cX10_takes 97 = .ok (.iload_n 1, 1) := by decide +kernel
theorem dX10_takes_98 : decode cX10_takes 98 = .ok (.imul, 1) := by decide +kernel
theorem dX10_takes_99 : decode cX10_takes 99 = .ok (.iload_n 2, 1) := by decide +kernel
theorem dX10_takes_100 : decode cX10_takes 100 = .ok (.iadd, 1) := by decide +kernel
theorem dX10_takes_101 : decode cX10_takes 101 = .ok (.iaload, 1) := by decide +kernel
theorem dX10_takes_102 : decode cX10_takes 102 = .ok (.iconst 1, 1) := by decide +kernel
theorem dX10_takes_103 : decode cX10_takes 103 = .ok (.iadd, 1) := by decide +kernel
theorem dX10_takes_104 : decode cX10_takes 104 = .ok (.iastore, 1) := by decide +kernel
theorem dX10_takes_105 : decode cX10_takes 105 = .ok (.iload 4, 2) := by decide +kernel
theorem dX10_takes_107 : decode cX10_takes 107 = .ok (.iload 5, 2) := by decide +kernel
theorem dX10_takes_109 : decode cX10_takes 109 = .ok (.isub, 1) := by decide +kernel
theorem dX10_takes_110 : decode cX10_takes 110 = .ok (.ireturn, 1) := by decide +kernel
theorem dX10_job_0 : decode cX10_job 0 = .ok (.aload_n 0, 1) := by decide +kernel
theorem dX10_job_1 : decode cX10_job 1 = .ok (.iconst 0, 1) := by decide +kernel
theorem dX10_job_2 : decode cX10_job 2 = .ok (.putfield 167, 3) := by decide +kernel
theorem dX10_job_5 : decode cX10_job 5 = .ok (.aload_n 0, 1) := by decide +kernel
theorem dX10_job_6 : decode cX10_job 6 = .ok (.iload_n 1, 1) := by decide +kernel
theorem dX10_job_7 : decode cX10_job 7 = .ok (.iconst 0, 1) := by decide +kernel
theorem dX10_job_8 : decode cX10_job 8 = .ok (.iconst 3, 1) := by decide +kernel
theorem dX10_job_9 : decode cX10_job 9 = .ok (.invokevirtual 177, 3) := by decide +kernel
theorem dX10_job_12 : decode cX10_job 12 = .ok (.ifCond .eq 11, 3) := by decide +kernel
theorem dX10_job_15 : decode cX10_job 15 = .ok (.aload_n 0, 1) := by decide +kernel
theorem dX10_job_16 : decode cX10_job 16 = .ok (.iload_n 2, 1) := by decide +kernel
theorem dX10_job_17 : decode cX10_job 17 = .ok (.invokevirtual 173, 3) := by decide +kernel
theorem dX10_job_20 : decode cX10_job 20 = .ok (.ifCond .ne 5, 3) := by decide +kernel
theorem dX10_job_23 : decode cX10_job 23 = .ok (.iconst (-1), 1) := by decide +kernel
theorem dX10_job_24 : decode cX10_job 24 = .ok (.ireturn, 1) := by decide +kernel
theorem dX10_job_25 : decode cX10_job 25 = .ok (.iconst 2, 1) := by decide +kernel
theorem dX10_job_26 : decode cX10_job 26 = .ok (.iload_n 1, 1) := by decide +kernel
theorem dX10_job_27 : decode cX10_job 27 = .ok (.iadd, 1) := by decide +kernel
theorem dX10_job_28 : decode cX10_job 28 = .ok (.istore_n 3, 1) := by decide +kernel
theorem dX10_job_29 : decode cX10_job 29 = .ok (.aload_n 0, 1) := by decide +kernel
theorem dX10_job_30 : decode cX10_job 30 = .ok (.getfield 32, 3) := by decide +kernel
theorem dX10_job_33 : decode cX10_job 33 = .ok (.iload_n 2, 1) := by decide +kernel
theorem dX10_job_34 : decode cX10_job 34 = .ok (.iaload, 1) := by decide +kernel
theorem dX10_job_35 : decode cX10_job 35 = .ok (.istore 4, 2) := by decide +kernel
theorem dX10_job_37 : decode cX10_job 37 = .ok (.bipush 16, 2) := by decide +kernel
theorem dX10_job_39 : decode cX10_job 39 = .ok (.iload_n 3, 1) := by decide +kernel
theorem dX10_job_40 : decode cX10_job 40 = .ok (.imul, 1) := by decide +kernel
theorem dX10_job_41 : decode cX10_job 41 = .ok (.istore 5, 2) := by decide +kernel
theorem dX10_job_43 : decode cX10_job 43 = .ok (.iload 5, 2) := by decide +kernel
theorem dX10_job_45 : decode cX10_job 45 = .ok (.bipush 16, 2) := by decide +kernel
theorem dX10_job_47 : decode cX10_job 47 = .ok (.iload_n 3, 1) := by decide +kernel
theorem dX10_job_48 : decode cX10_job 48 = .ok (.imul, 1) := by decide +kernel
theorem dX10_job_49 : decode cX10_job 49 = .ok (.aload_n 0, 1) := by decide +kernel
theorem dX10_job_50 : decode cX10_job 50 = .ok (.getfield 59, 3) := by decide +kernel
theorem dX10_job_53 : decode cX10_job 53 = .ok (.iload_n 3, 1) := by decide +kernel
theorem dX10_job_54 : decode cX10_job 54 = .ok (.iaload, 1) := by decide +kernel
theorem dX10_job_55 : decode cX10_job 55 = .ok (.iadd, 1) := by decide +kernel
theorem dX10_job_56 : decode cX10_job 56 = .ok (.if_icmp .ge 31, 3) := by decide +kernel
theorem dX10_job_59 : decode cX10_job 59 = .ok (.aload_n 0, 1) := by decide +kernel
theorem dX10_job_60 : decode cX10_job 60 = .ok (.iload_n 2, 1) := by decide +kernel
theorem dX10_job_61 : decode cX10_job 61 = .ok (.invokevirtual 350, 3) := by decide +kernel
theorem dX10_job_64 : decode cX10_job 64 = .ok (.aload_n 0, 1) := by decide +kernel
theorem dX10_job_65 : decode cX10_job 65 = .ok (.iload_n 3, 1) := by decide +kernel
theorem dX10_job_66 : decode cX10_job 66 = .ok (.iload 5, 2) := by decide +kernel
theorem dX10_job_68 : decode cX10_job 68 = .ok (.invokevirtual 305, 3) := by decide +kernel
theorem dX10_job_71 : decode cX10_job 71 = .ok (.ifCond .eq 10, 3) := by decide +kernel
theorem dX10_job_74 : decode cX10_job 74 = .ok (.aload_n 0, 1) := by decide +kernel
theorem dX10_job_75 : decode cX10_job 75 = .ok (.iload_n 2, 1) := by decide +kernel
theorem dX10_job_76 : decode cX10_job 76 = .ok (.iload 5, 2) := by decide +kernel
theorem dX10_job_78 : decode cX10_job 78 = .ok (.invokevirtual 353, 3) := by decide +kernel
theorem dX10_job_81 : decode cX10_job 81 = .ok (.iinc 5 1, 3) := by decide +kernel
theorem dX10_job_84 : decode cX10_job 84 = .ok (.goto (-41), 3) := by decide +kernel
theorem dX10_job_87 : decode cX10_job 87 = .ok (.aload_n 0, 1) := by decide +kernel
theorem dX10_job_88 : decode cX10_job 88 = .ok (.getfield 32, 3) := by decide +kernel
theorem dX10_job_91 : decode cX10_job 91 = .ok (.iload_n 2, 1) := by decide +kernel
theorem dX10_job_92 : decode cX10_job 92 = .ok (.iaload, 1) := by decide +kernel
theorem dX10_job_93 : decode cX10_job 93 = .ok (.iload 4, 2) := by decide +kernel
theorem dX10_job_95 : decode cX10_job 95 = .ok (.isub, 1) := by decide +kernel
theorem dX10_job_96 : decode cX10_job 96 = .ok (.ireturn, 1) := by decide +kernel
theorem dX10_fewest_0 : decode cX10_fewest 0 = .ok (.aload_n 0, 1) := by decide +kernel
theorem dX10_fewest_1 : decode cX10_fewest 1 = .ok (.iconst 0, 1) := by decide +kernel
theorem dX10_fewest_2 : decode cX10_fewest 2 = .ok (.putfield 167, 3) := by decide +kernel
theorem dX10_fewest_5 : decode cX10_fewest 5 = .ok (.aload_n 0, 1) := by decide +kernel
theorem dX10_fewest_6 : decode cX10_fewest 6 = .ok (.iload_n 1, 1) := by decide +kernel
theorem dX10_fewest_7 : decode cX10_fewest 7 = .ok (.invokevirtual 173, 3) := by decide +kernel
theorem dX10_fewest_10 : decode cX10_fewest 10 = .ok (.ifCond .eq 24, 3) := by decide +kernel
theorem dX10_fewest_13 : decode cX10_fewest 13 = .ok (.aload_n 0, 1) := by decide +kernel
theorem dX10_fewest_14 : decode cX10_fewest 14 = .ok (.getfield 13, 3) := by decide +kernel
theorem dX10_fewest_17 : decode cX10_fewest 17 = .ok (.iload_n 1, 1) := by decide +kernel
theorem dX10_fewest_18 : decode cX10_fewest 18 = .ok (.iaload, 1) := by decide +kernel
theorem dX10_fewest_19 : decode cX10_fewest 19 = .ok (.bipush 8, 2) := by decide +kernel
theorem dX10_fewest_21 : decode cX10_fewest 21 = .ok (.if_icmp .gt 13, 3) := by decide +kernel
theorem dX10_fewest_24 : decode cX10_fewest 24 = .ok (.aload_n 0, 1) := by decide +kernel
theorem dX10_fewest_25 : decode cX10_fewest 25 = .ok (.iload_n 2, 1) := by decide +kernel
theorem dX10_fewest_26 : decode cX10_fewest 26 = .ok (.iconst 0, 1) := by decide +kernel
theorem dX10_fewest_27 : decode cX10_fewest 27 = .ok (.iconst 5, 1) := by decide +kernel
theorem dX10_fewest_28 : decode cX10_fewest 28 = .ok (.invokevirtual 177, 3) := by decide +kernel
theorem dX10_fewest_31 : decode cX10_fewest 31 = .ok (.ifCond .ne 5, 3) := by decide +kernel
theorem dX10_fewest_34 : decode cX10_fewest 34 = .ok (.iconst (-1), 1) := by decide +kernel
theorem dX10_fewest_35 : decode cX10_fewest 35 = .ok (.ireturn, 1) := by decide +kernel
theorem dX10_fewest_36 : decode cX10_fewest 36 = .ok (.aload_n 0, 1) := by decide +kernel
theorem dX10_fewest_37 : decode cX10_fewest 37 = .ok (.iload_n 1, 1) := by decide +kernel
theorem dX10_fewest_38 : decode cX10_fewest 38 = .ok (.invokevirtual 371, 3) := by decide +kernel
theorem dX10_fewest_41 : decode cX10_fewest 41 = .ok (.istore_n 3, 1) := by decide +kernel
theorem dX10_fewest_42 : decode cX10_fewest 42 = .ok (.iload_n 2, 1) := by decide +kernel
theorem dX10_fewest_43 : decode cX10_fewest 43 = .ok (.ifCond .eq 8, 3) := by decide +kernel
theorem dX10_fewest_46 : decode cX10_fewest 46 = .ok (.iload_n 3, 1) := by decide +kernel
theorem dX10_fewest_47 : decode cX10_fewest 47 = .ok (.iconst (-1), 1) := by decide +kernel
theorem dX10_fewest_48 : decode cX10_fewest 48 = .ok (.if_icmp .ne 5, 3) := by decide +kernel
theorem dX10_fewest_51 : decode cX10_fewest 51 = .ok (.iload_n 3, 1) := by decide +kernel
theorem dX10_fewest_52 : decode cX10_fewest 52 = .ok (.ireturn, 1) := by decide +kernel
theorem dX10_fewest_53 : decode cX10_fewest 53 = .ok (.iload_n 2, 1) := by decide +kernel
theorem dX10_fewest_54 : decode cX10_fewest 54 = .ok (.iload_n 3, 1) := by decide +kernel
theorem dX10_fewest_55 : decode cX10_fewest 55 = .ok (.if_icmp .gt 14, 3) := by decide +kernel
theorem dX10_fewest_58 : decode cX10_fewest 58 = .ok (.aload_n 0, 1) := by decide +kernel
theorem dX10_fewest_59 : decode cX10_fewest 59 = .ok (.getfield 101, 3) := by decide +kernel
theorem dX10_fewest_62 : decode cX10_fewest 62 = .ok (.iload_n 2, 1) := by decide +kernel
theorem dX10_fewest_63 : decode cX10_fewest 63 = .ok (.iconst 1, 1) := by decide +kernel
theorem dX10_fewest_64 : decode cX10_fewest 64 = .ok (.isub, 1) := by decide +kernel
theorem dX10_fewest_65 : decode cX10_fewest 65 = .ok (.iaload, 1) := by decide +kernel
theorem dX10_fewest_66 : decode cX10_fewest 66 = .ok (.goto 4, 3) := by decide +kernel
theorem dX10_fewest_69 : decode cX10_fewest 69 = .ok (.iconst (-1), 1) := by decide +kernel
theorem dX10_fewest_70 : decode cX10_fewest 70 = .ok (.ireturn, 1) := by decide +kernel
theorem dX10_tap_0 : decode cX10_tap 0 = .ok (.aload_n 0, 1) := by decide +kernel
theorem dX10_tap_1 : decode cX10_tap 1 = .ok (.iconst 0, 1) := by decide +kernel
theorem dX10_tap_2 : decode cX10_tap 2 = .ok (.putfield 167, 3) := by decide +kernel
theorem dX10_tap_5 : decode cX10_tap 5 = .ok (.aload_n 0, 1) := by decide +kernel
theorem dX10_tap_6 : decode cX10_tap 6 = .ok (.iload_n 1, 1) := by decide +kernel
theorem dX10_tap_7 : decode cX10_tap 7 = .ok (.invokevirtual 173, 3) := by decide +kernel
theorem dX10_tap_10 : decode cX10_tap 10 = .ok (.ifCond .eq 34, 3) := by decide +kernel
theorem dX10_tap_13 : decode cX10_tap 13 = .ok (.aload_n 0, 1) := by decide +kernel
theorem dX10_tap_14 : decode cX10_tap 14 = .ok (.iload_n 2, 1) := by decide +kernel
theorem dX10_tap_15 : decode cX10_tap 15 = .ok (.invokevirtual 331, 3) := by decide +kernel
theorem dX10_tap_18 : decode cX10_tap 18 = .ok (.ifCond .eq 26, 3) := by decide +kernel
theorem dX10_tap_21 : decode cX10_tap 21 = .ok (.aload_n 0, 1) := by decide +kernel
theorem dX10_tap_22 : decode cX10_tap 22 = .ok (.iload_n 3, 1) := by decide +kernel
theorem dX10_tap_23 : decode cX10_tap 23 = .ok (.iconst 0, 1) := by decide +kernel
theorem dX10_tap_24 : decode cX10_tap 24 = .ok (.ldc_w 374, 3) := by decide +kernel
theorem dX10_tap_27 : decode cX10_tap 27 = .ok (.invokevirtual 177, 3) := by decide +kernel
theorem dX10_tap_30 : decode cX10_tap 30 = .ok (.ifCond .eq 14, 3) := by decide +kernel
theorem dX10_tap_33 : decode cX10_tap 33 = .ok (.aload_n 0, 1) := by decide +kernel
theorem dX10_tap_34 : decode cX10_tap 34 = .ok (.getfield 116, 3) := by decide +kernel
theorem dX10_tap_37 : decode cX10_tap 37 = .ok (.iload_n 1, 1) := by decide +kernel
theorem dX10_tap_38 : decode cX10_tap 38 = .ok (.iaload, 1) := by decide +kernel
theorem dX10_tap_39 : decode cX10_tap 39 = .ok (.bipush 12, 2) := by decide +kernel
theorem dX10_tap_41 : decode cX10_tap 41 = .ok (.if_icmp .ne 5, 3) := by decide +kernel
theorem dX10_tap_44 : decode cX10_tap 44 = .ok (.iconst (-1), 1) := by decide +kernel
theorem dX10_tap_45 : decode cX10_tap 45 = .ok (.ireturn, 1) := by decide +kernel
theorem dX10_tap_46 : decode cX10_tap 46 = .ok (.bipush 12, 2) := by decide +kernel
theorem dX10_tap_48 : decode cX10_tap 48 = .ok (.iload_n 1, 1) := by decide +kernel
theorem dX10_tap_49 : decode cX10_tap 49 = .ok (.imul, 1) := by decide +kernel
theorem dX10_tap_50 : decode cX10_tap 50 = .ok (.aload_n 0, 1) := by decide +kernel
theorem dX10_tap_51 : decode cX10_tap 51 = .ok (.getfield 116, 3) := by decide +kernel
theorem dX10_tap_54 : decode cX10_tap 54 = .ok (.iload_n 1, 1) := by decide +kernel
theorem dX10_tap_55 : decode cX10_tap 55 = .ok (.iaload, 1) := by decide +kernel
theorem dX10_tap_56 : decode cX10_tap 56 = .ok (.iadd, 1) := by decide +kernel
theorem dX10_tap_57 : decode cX10_tap 57 = .ok (.istore 4, 2) := by decide +kernel
theorem dX10_tap_59 : decode cX10_tap 59 = .ok (.aload_n 0, 1) := by decide +kernel
theorem dX10_tap_60 : decode cX10_tap 60 = .ok (.getfield 119, 3) := by decide +kernel
theorem dX10_tap_63 : decode cX10_tap 63 = .ok (.iload 4, 2) := by decide +kernel
theorem dX10_tap_65 : decode cX10_tap 65 = .ok (.iload_n 2, 1) := by decide +kernel
theorem dX10_tap_66 : decode cX10_tap 66 = .ok (.iastore, 1) := by decide +kernel
theorem dX10_tap_67 : decode cX10_tap 67 = .ok (.aload_n 0, 1) := by decide +kernel
theorem dX10_tap_68 : decode cX10_tap 68 = .ok (.getfield 122, 3) := by decide +kernel
theorem dX10_tap_71 : decode cX10_tap 71 = .ok (.iload 4, 2) := by decide +kernel
theorem dX10_tap_73 : decode cX10_tap 73 = .ok (.iload_n 3, 1) := by decide +kernel
theorem dX10_tap_74 : decode cX10_tap 74 = .ok (.iastore, 1) := by decide +kernel
theorem dX10_tap_75 : decode cX10_tap 75 = .ok (.iconst 0, 1) := by decide +kernel
theorem dX10_tap_76 : decode cX10_tap 76 = .ok (.istore 5, 2) := by decide +kernel
theorem dX10_tap_78 : decode cX10_tap 78 = .ok (.iload 5, 2) := by decide +kernel
theorem dX10_tap_80 : decode cX10_tap 80 = .ok (.bipush 16, 2) := by decide +kernel
theorem dX10_tap_82 : decode cX10_tap 82 = .ok (.if_icmp .ge 59, 3) := by decide +kernel
theorem dX10_tap_85 : decode cX10_tap 85 = .ok (.aload_n 0, 1) := by decide +kernel
theorem dX10_tap_86 : decode cX10_tap 86 = .ok (.getfield 125, 3) := by decide +kernel
theorem dX10_tap_89 : decode cX10_tap 89 = .ok (.bipush 16, 2) := by decide +kernel
theorem dX10_tap_91 : decode cX10_tap 91 = .ok (.iload 4, 2) := by decide +kernel
theorem dX10_tap_93 : decode cX10_tap 93 = .ok (.imul, 1) := by decide +kernel
theorem dX10_tap_94 : decode cX10_tap 94 = .ok (.iload 5, 2) := by decide +kernel
theorem dX10_tap_96 : decode cX10_tap 96 = .ok (.iadd, 1) := by decide +kernel
theorem dX10_tap_97 : decode cX10_tap 97 = .ok (.aload_n 0, 1) := by decide +kernel
theorem dX10_tap_98 : decode cX10_tap 98 = .ok (.getfield 17, 3) := by decide +kernel
theorem dX10_tap_101 : decode cX10_tap 101 = .ok (.bipush 16, 2) := by decide +kernel
theorem dX10_tap_103 : decode cX10_tap 103 = .ok (.iload_n 1, 1) := by decide +kernel
theorem dX10_tap_104 : decode cX10_tap 104 = .ok (.imul, 1) := by decide +kernel
theorem dX10_tap_105 : decode cX10_tap 105 = .ok (.iload 5, 2) := by decide +kernel
theorem dX10_tap_107 : decode cX10_tap 107 = .ok (.iadd, 1) := by decide +kernel
theorem dX10_tap_108 : decode cX10_tap 108 = .ok (.iaload, 1) := by decide +kernel
theorem dX10_tap_109 : decode cX10_tap 109 = .ok (.iastore, 1) := by decide +kernel
theorem dX10_tap_110 : decode cX10_tap 110 = .ok (.aload_n 0, 1) := by decide +kernel
theorem dX10_tap_111 : decode cX10_tap 111 = .ok (.getfield 128, 3) := by decide +kernel
theorem dX10_tap_114 : decode cX10_tap 114 = .ok (.bipush 16, 2) := by decide +kernel
theorem dX10_tap_116 : decode cX10_tap 116 = .ok (.iload 4, 2) := by decide +kernel
theorem dX10_tap_118 : decode cX10_tap 118 = .ok (.imul, 1) := by decide +kernel
theorem dX10_tap_119 : decode cX10_tap 119 = .ok (.iload 5, 2) := by decide +kernel
theorem dX10_tap_121 : decode cX10_tap 121 = .ok (.iadd, 1) := by decide +kernel
theorem dX10_tap_122 : decode cX10_tap 122 = .ok (.aload_n 0, 1) := by decide +kernel
theorem dX10_tap_123 : decode cX10_tap 123 = .ok (.getfield 26, 3) := by decide +kernel
theorem dX10_tap_126 : decode cX10_tap 126 = .ok (.bipush 16, 2) := by decide +kernel
theorem dX10_tap_128 : decode cX10_tap 128 = .ok (.iload_n 1, 1) := by decide +kernel
theorem dX10_tap_129 : decode cX10_tap 129 = .ok (.imul, 1) := by decide +kernel
theorem dX10_tap_130 : decode cX10_tap 130 = .ok (.iload 5, 2) := by decide +kernel
theorem dX10_tap_132 : decode cX10_tap 132 = .ok (.iadd, 1) := by decide +kernel
theorem dX10_tap_133 : decode cX10_tap 133 = .ok (.iaload, 1) := by decide +kernel
theorem dX10_tap_134 : decode cX10_tap 134 = .ok (.iastore, 1) := by decide +kernel
theorem dX10_tap_135 : decode cX10_tap 135 = .ok (.iinc 5 1, 3) := by decide +kernel
theorem dX10_tap_138 : decode cX10_tap 138 = .ok (.goto (-60), 3) := by decide +kernel
theorem dX10_tap_141 : decode cX10_tap 141 = .ok (.aload_n 0, 1) := by decide +kernel
theorem dX10_tap_142 : decode cX10_tap 142 = .ok (.getfield 116, 3) := by decide +kernel
theorem dX10_tap_145 : decode cX10_tap 145 = .ok (.iload_n 1, 1) := by decide +kernel
theorem dX10_tap_146 : decode cX10_tap 146 = .ok (.aload_n 0, 1) := by decide +kernel
theorem dX10_tap_147 : decode cX10_tap 147 = .ok (.getfield 116, 3) := by decide +kernel
theorem dX10_tap_150 : decode cX10_tap 150 = .ok (.iload_n 1, 1) := by decide +kernel
theorem dX10_tap_151 : decode cX10_tap 151 = .ok (.iaload, 1) := by decide +kernel
theorem dX10_tap_152 : decode cX10_tap 152 = .ok (.iconst 1, 1) := by decide +kernel
theorem dX10_tap_153 : decode cX10_tap 153 = .ok (.iadd, 1) := by decide +kernel
theorem dX10_tap_154 : decode cX10_tap 154 = .ok (.iastore, 1) := by decide +kernel
theorem dX10_tap_155 : decode cX10_tap 155 = .ok (.aload_n 0, 1) := by decide +kernel
theorem dX10_tap_156 : decode cX10_tap 156 = .ok (.getfield 116, 3) := by decide +kernel
theorem dX10_tap_159 : decode cX10_tap 159 = .ok (.iload_n 1, 1) := by decide +kernel
theorem dX10_tap_160 : decode cX10_tap 160 = .ok (.iaload, 1) := by decide +kernel
theorem dX10_tap_161 : decode cX10_tap 161 = .ok (.ireturn, 1) := by decide +kernel
theorem dX10_fits_0 : decode cX10_fits 0 = .ok (.aload_n 0, 1) := by decide +kernel
theorem dX10_fits_1 : decode cX10_fits 1 = .ok (.iconst 0, 1) := by decide +kernel
theorem dX10_fits_2 : decode cX10_fits 2 = .ok (.putfield 167, 3) := by decide +kernel
theorem dX10_fits_5 : decode cX10_fits 5 = .ok (.aload_n 0, 1) := by decide +kernel
theorem dX10_fits_6 : decode cX10_fits 6 = .ok (.iload_n 1, 1) := by decide +kernel
theorem dX10_fits_7 : decode cX10_fits 7 = .ok (.invokevirtual 173, 3) := by decide +kernel
theorem dX10_fits_10 : decode cX10_fits 10 = .ok (.ifCond .eq 66, 3) := by decide +kernel
theorem dX10_fits_13 : decode cX10_fits 13 = .ok (.aload_n 0, 1) := by decide +kernel
theorem dX10_fits_14 : decode cX10_fits 14 = .ok (.getfield 13, 3) := by decide +kernel
theorem dX10_fits_17 : decode cX10_fits 17 = .ok (.iload_n 1, 1) := by decide +kernel
theorem dX10_fits_18 : decode cX10_fits 18 = .ok (.iaload, 1) := by decide +kernel
theorem dX10_fits_19 : decode cX10_fits 19 = .ok (.iconst 5, 1) := by decide +kernel
theorem dX10_fits_20 : decode cX10_fits 20 = .ok (.if_icmp .gt 56, 3) := by decide +kernel
theorem dX10_fits_23 : decode cX10_fits 23 = .ok (.aload_n 0, 1) := by decide +kernel
theorem dX10_fits_24 : decode cX10_fits 24 = .ok (.iload_n 2, 1) := by decide +kernel
theorem dX10_fits_25 : decode cX10_fits 25 = .ok (.iconst 1, 1) := by decide +kernel
theorem dX10_fits_26 : decode cX10_fits 26 = .ok (.iconst 4, 1) := by decide +kernel
theorem dX10_fits_27 : decode cX10_fits 27 = .ok (.invokevirtual 177, 3) := by decide +kernel
theorem dX10_fits_30 : decode cX10_fits 30 = .ok (.ifCond .eq 46, 3) := by decide +kernel
theorem dX10_fits_33 : decode cX10_fits 33 = .ok (.aload_n 0, 1) := by decide +kernel
theorem dX10_fits_34 : decode cX10_fits 34 = .ok (.iload_n 3, 1) := by decide +kernel
theorem dX10_fits_35 : decode cX10_fits 35 = .ok (.iconst 0, 1) := by decide +kernel
theorem dX10_fits_36 : decode cX10_fits 36 = .ok (.ldc_w 308, 3) := by decide +kernel
theorem dX10_fits_39 : decode cX10_fits 39 = .ok (.invokevirtual 177, 3) := by decide +kernel
theorem dX10_fits_42 : decode cX10_fits 42 = .ok (.ifCond .eq 34, 3) := by decide +kernel
theorem dX10_fits_45 : decode cX10_fits 45 = .ok (.aload_n 0, 1) := by decide +kernel
theorem dX10_fits_46 : decode cX10_fits 46 = .ok (.iload 4, 2) := by decide +kernel
theorem dX10_fits_48 : decode cX10_fits 48 = .ok (.iconst 0, 1) := by decide +kernel
theorem dX10_fits_49 : decode cX10_fits 49 = .ok (.iconst 1, 1) := by decide +kernel
theorem dX10_fits_50 : decode cX10_fits 50 = .ok (.invokevirtual 177, 3) := by decide +kernel
theorem dX10_fits_53 : decode cX10_fits 53 = .ok (.ifCond .ne 25, 3) := by decide +kernel
theorem dX10_fits_56 : decode cX10_fits 56 = .ok (.aload_n 0, 1) := by decide +kernel
theorem dX10_fits_57 : decode cX10_fits 57 = .ok (.iload 4, 2) := by decide +kernel
theorem dX10_fits_59 : decode cX10_fits 59 = .ok (.bipush 10, 2) := by decide +kernel
theorem dX10_fits_61 : decode cX10_fits 61 = .ok (.bipush 9, 2) := by decide +kernel
theorem dX10_fits_63 : decode cX10_fits 63 = .ok (.aload_n 0, 1) := by decide +kernel
theorem dX10_fits_64 : decode cX10_fits 64 = .ok (.getfield 13, 3) := by decide +kernel
theorem dX10_fits_67 : decode cX10_fits 67 = .ok (.iload_n 1, 1) := by decide +kernel
theorem dX10_fits_68 : decode cX10_fits 68 = .ok (.iaload, 1) := by decide +kernel
theorem dX10_fits_69 : decode cX10_fits 69 = .ok (.iadd, 1) := by decide +kernel
theorem dX10_fits_70 : decode cX10_fits 70 = .ok (.invokevirtual 177, 3) := by decide +kernel
theorem dX10_fits_73 : decode cX10_fits 73 = .ok (.ifCond .ne 5, 3) := by decide +kernel
theorem dX10_fits_76 : decode cX10_fits 76 = .ok (.iconst (-1), 1) := by decide +kernel
theorem dX10_fits_77 : decode cX10_fits 77 = .ok (.ireturn, 1) := by decide +kernel
theorem dX10_fits_78 : decode cX10_fits 78 = .ok (.aload_n 0, 1) := by decide +kernel
theorem dX10_fits_79 : decode cX10_fits 79 = .ok (.iload_n 1, 1) := by decide +kernel
theorem dX10_fits_80 : decode cX10_fits 80 = .ok (.iload_n 2, 1) := by decide +kernel
theorem dX10_fits_81 : decode cX10_fits 81 = .ok (.iload_n 3, 1) := by decide +kernel
theorem dX10_fits_82 : decode cX10_fits 82 = .ok (.invokevirtual 387, 3) := by decide +kernel
theorem dX10_fits_85 : decode cX10_fits 85 = .ok (.iload 4, 2) := by decide +kernel
theorem dX10_fits_87 : decode cX10_fits 87 = .ok (.ifCond .ne 8, 3) := by decide +kernel
theorem dX10_fits_90 : decode cX10_fits 90 = .ok (.aload_n 0, 1) := by decide +kernel
theorem dX10_fits_91 : decode cX10_fits 91 = .ok (.getfield 378, 3) := by decide +kernel
theorem dX10_fits_94 : decode cX10_fits 94 = .ok (.ireturn, 1) := by decide +kernel
theorem dX10_fits_95 : decode cX10_fits 95 = .ok (.iload 4, 2) := by decide +kernel
theorem dX10_fits_97 : decode cX10_fits 97 = .ok (.iconst 1, 1) := by decide +kernel
theorem dX10_fits_98 : decode cX10_fits 98 = .ok (.if_icmp .ne 11, 3) := by decide +kernel
theorem dX10_fits_101 : decode cX10_fits 101 = .ok (.aload_n 0, 1) := by decide +kernel
theorem dX10_fits_102 : decode cX10_fits 102 = .ok (.iload_n 1, 1) := by decide +kernel
theorem dX10_fits_103 : decode cX10_fits 103 = .ok (.invokevirtual 390, 3) := by decide +kernel
theorem dX10_fits_106 : decode cX10_fits 106 = .ok (.goto 12, 3) := by decide +kernel
theorem dX10_fits_109 : decode cX10_fits 109 = .ok (.aload_n 0, 1) := by decide +kernel
theorem dX10_fits_110 : decode cX10_fits 110 = .ok (.iload 4, 2) := by decide +kernel
theorem dX10_fits_112 : decode cX10_fits 112 = .ok (.bipush 10, 2) := by decide +kernel
theorem dX10_fits_114 : decode cX10_fits 114 = .ok (.isub, 1) := by decide +kernel
theorem dX10_fits_115 : decode cX10_fits 115 = .ok (.invokevirtual 393, 3) := by decide +kernel
theorem dX10_fits_118 : decode cX10_fits 118 = .ok (.ireturn, 1) := by decide +kernel
theorem dX10_offOf_0 : decode cX10_offOf 0 = .ok (.lconst 0, 1) := by decide +kernel
theorem dX10_offOf_1 : decode cX10_offOf 1 = .ok (.lstore_n 2, 1) := by decide +kernel
theorem dX10_offOf_2 : decode cX10_offOf 2 = .ok (.iconst 0, 1) := by decide +kernel
theorem dX10_offOf_3 : decode cX10_offOf 3 = .ok (.istore 4, 2) := by decide +kernel
theorem dX10_offOf_5 : decode cX10_offOf 5 = .ok (.iload 4, 2) := by decide +kernel
theorem dX10_offOf_7 : decode cX10_offOf 7 = .ok (.aload_n 0, 1) := by decide +kernel
theorem dX10_offOf_8 : decode cX10_offOf 8 = .ok (.getfield 170, 3) := by decide +kernel
theorem dX10_offOf_11 : decode cX10_offOf 11 = .ok (.if_icmp .ge 65, 3) := by decide +kernel
theorem dX10_offOf_14 : decode cX10_offOf 14 = .ok (.bipush 12, 2) := by decide +kernel
theorem dX10_offOf_16 : decode cX10_offOf 16 = .ok (.iload 4, 2) := by decide +kernel
theorem dX10_offOf_18 : decode cX10_offOf 18 = .ok (.imul, 1) := by decide +kernel
theorem dX10_offOf_19 : decode cX10_offOf 19 = .ok (.istore 5, 2) := by decide +kernel
theorem dX10_offOf_21 : decode cX10_offOf 21 = .ok (.iload 5, 2) := by decide +kernel
theorem dX10_offOf_23 : decode cX10_offOf 23 = .ok (.bipush 12, 2) := by decide +kernel
theorem dX10_offOf_25 : decode cX10_offOf 25 = .ok (.iload 4, 2) := by decide +kernel
theorem dX10_offOf_27 : decode cX10_offOf 27 = .ok (.imul, 1) := by decide +kernel
theorem dX10_offOf_28 : decode cX10_offOf 28 = .ok (.aload_n 0, 1) := by decide +kernel
theorem dX10_offOf_29 : decode cX10_offOf 29 = .ok (.getfield 116, 3) := by decide +kernel
theorem dX10_offOf_32 : decode cX10_offOf 32 = .ok (.iload 4, 2) := by decide +kernel
theorem dX10_offOf_34 : decode cX10_offOf 34 = .ok (.iaload, 1) := by decide +kernel
theorem dX10_offOf_35 : decode cX10_offOf 35 = .ok (.iadd, 1) := by decide +kernel
theorem dX10_offOf_36 : decode cX10_offOf 36 = .ok (.if_icmp .ge 34, 3) := by decide +kernel
theorem dX10_offOf_39 : decode cX10_offOf 39 = .ok (.lload_n 2, 1) := by decide +kernel
theorem dX10_offOf_40 : decode cX10_offOf 40 = .ok (.aload_n 0, 1) := by decide +kernel
theorem dX10_offOf_41 : decode cX10_offOf 41 = .ok (.aload_n 0, 1) := by decide +kernel
theorem dX10_offOf_42 : decode cX10_offOf 42 = .ok (.iload_n 1, 1) := by decide +kernel
theorem dX10_offOf_43 : decode cX10_offOf 43 = .ok (.iload 4, 2) := by decide +kernel
theorem dX10_offOf_45 : decode cX10_offOf 45 = .ok (.iload 5, 2) := by decide +kernel
theorem dX10_offOf_47 : decode cX10_offOf 47 = .ok (.invokevirtual 375, 3) := by decide +kernel
theorem dX10_offOf_50 : decode cX10_offOf 50 = .ok (.aload_n 0, 1) := by decide +kernel
theorem dX10_offOf_51 : decode cX10_offOf 51 = .ok (.getfield 122, 3) := by decide +kernel
theorem dX10_offOf_54 : decode cX10_offOf 54 = .ok (.iload 5, 2) := by decide +kernel
theorem dX10_offOf_56 : decode cX10_offOf 56 = .ok (.iaload, 1) := by decide +kernel
theorem dX10_offOf_57 : decode cX10_offOf 57 = .ok (.isub, 1) := by decide +kernel
theorem dX10_offOf_58 : decode cX10_offOf 58 = .ok (.invokevirtual 309, 3) := by decide +kernel
theorem dX10_offOf_61 : decode cX10_offOf 61 = .ok (.i2l, 1) := by decide +kernel
theorem dX10_offOf_62 : decode cX10_offOf 62 = .ok (.ladd, 1) := by decide +kernel
theorem dX10_offOf_63 : decode cX10_offOf 63 = .ok (.lstore_n 2, 1) := by decide +kernel
theorem dX10_offOf_64 : decode cX10_offOf 64 = .ok (.iinc 5 1, 3) := by decide +kernel
theorem dX10_offOf_67 : decode cX10_offOf 67 = .ok (.goto (-46), 3) := by decide +kernel
theorem dX10_offOf_70 : decode cX10_offOf 70 = .ok (.iinc 4 1, 3) := by decide +kernel
theorem dX10_offOf_73 : decode cX10_offOf 73 = .ok (.goto (-68), 3) := by decide +kernel
theorem dX10_offOf_76 : decode cX10_offOf 76 = .ok (.lload_n 2, 1) := by decide +kernel
theorem dX10_offOf_77 : decode cX10_offOf 77 = .ok (.ldc2_w 396, 3) := by decide +kernel
theorem dX10_offOf_80 : decode cX10_offOf 80 = .ok (.lcmp, 1) := by decide +kernel
theorem dX10_offOf_81 : decode cX10_offOf 81 = .ok (.ifCond .le 9, 3) := by decide +kernel
theorem dX10_offOf_84 : decode cX10_offOf 84 = .ok (.ldc_w 398, 3) := by decide +kernel
theorem dX10_offOf_87 : decode cX10_offOf 87 = .ok (.goto 5, 3) := by decide +kernel
