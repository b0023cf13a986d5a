theorem dX10_text_301 : decode cX10_text 301 = .ok (.bipush 16, 2) := by decide +kernel
theorem dX10_text_303 : decode cX10_text 303 = .ok (.iload 5, 2) := by decide +kernel
theorem dX10_text_305 : decode cX10_text 305 = .ok (.imul, 1) := by decide +kernel
theorem dX10_text_306 : decode cX10_text 306 = .ok (.iload 6, 2) := by decide +kernel
theorem dX10_text_308 : decode cX10_text 308 = .ok (.iadd, 1) := by decide +kernel
theorem dX10_text_309 : decode cX10_text 309 = .ok (.aload_n 0, 1) := by decide +kernel
theorem dX10_text_310 : decode cX10_text 310 = .ok (.getfield 80, 3) := by decide +kernel
theorem dX10_text_313 : decode cX10_text 313 = .ok (.bipush 96, 2) := by decide +kernel
theorem dX10_text_315 : decode cX10_text 315 = .ok (.iload 6, 2) := by decide +kernel
theorem dX10_text_317 : decode cX10_text 317 = .ok (.iadd, 1) := by decide +kernel
theorem dX10_text_318 : decode cX10_text 318 = .ok (.iaload, 1) := by decide +kernel
theorem dX10_text_319 : decode cX10_text 319 = .ok (.iastore, 1) := by decide +kernel
theorem dX10_text_320 : decode cX10_text 320 = .ok (.iinc 6 1, 3) := by decide +kernel
theorem dX10_text_323 : decode cX10_text 323 = .ok (.goto (-171), 3) := by decide +kernel
theorem dX10_text_326 : decode cX10_text 326 = .ok (.iconst 0, 1) := by decide +kernel
theorem dX10_text_327 : decode cX10_text 327 = .ok (.istore 6, 2) := by decide +kernel
theorem dX10_text_329 : decode cX10_text 329 = .ok (.iload 6, 2) := by decide +kernel
theorem dX10_text_331 : decode cX10_text 331 = .ok (.aload_n 0, 1) := by decide +kernel
theorem dX10_text_332 : decode cX10_text 332 = .ok (.getfield 228, 3) := by decide +kernel
theorem dX10_text_335 : decode cX10_text 335 = .ok (.if_icmp .ge 59, 3) := by decide +kernel
theorem dX10_text_338 : decode cX10_text 338 = .ok (.aload_n 0, 1) := by decide +kernel
theorem dX10_text_339 : decode cX10_text 339 = .ok (.getfield 83, 3) := by decide +kernel
theorem dX10_text_342 : decode cX10_text 342 = .ok (.sipush 500, 3) := by decide +kernel
theorem dX10_text_345 : decode cX10_text 345 = .ok (.iload 5, 2) := by decide +kernel
theorem dX10_text_347 : decode cX10_text 347 = .ok (.imul, 1) := by decide +kernel
theorem dX10_text_348 : decode cX10_text 348 = .ok (.iload 6, 2) := by decide +kernel
theorem dX10_text_350 : decode cX10_text 350 = .ok (.iadd, 1) := by decide +kernel
theorem dX10_text_351 : decode cX10_text 351 = .ok (.aload_n 0, 1) := by decide +kernel
theorem dX10_text_352 : decode cX10_text 352 = .ok (.getfield 83, 3) := by decide +kernel
theorem dX10_text_355 : decode cX10_text 355 = .ok (.sipush 3000, 3) := by decide +kernel
theorem dX10_text_358 : decode cX10_text 358 = .ok (.iload 6, 2) := by decide +kernel
theorem dX10_text_360 : decode cX10_text 360 = .ok (.iadd, 1) := by decide +kernel
theorem dX10_text_361 : decode cX10_text 361 = .ok (.iaload, 1) := by decide +kernel
theorem dX10_text_362 : decode cX10_text 362 = .ok (.iastore, 1) := by decide +kernel
theorem dX10_text_363 : decode cX10_text 363 = .ok (.aload_n 0, 1) := by decide +kernel
theorem dX10_text_364 : decode cX10_text 364 = .ok (.getfield 86, 3) := by decide +kernel
theorem dX10_text_367 : decode cX10_text 367 = .ok (.sipush 500, 3) := by decide +kernel
theorem dX10_text_370 : decode cX10_text 370 = .ok (.iload 5, 2) := by decide +kernel
theorem dX10_text_372 : decode cX10_text 372 = .ok (.imul, 1) := by decide +kernel
theorem dX10_text_373 : decode cX10_text 373 = .ok (.iload 6, 2) := by decide +kernel
theorem dX10_text_375 : decode cX10_text 375 = .ok (.iadd, 1) := by decide +kernel
theorem dX10_text_376 : decode cX10_text 376 = .ok (.aload_n 0, 1) := by decide +kernel
theorem dX10_text_377 : decode cX10_text 377 = .ok (.getfield 86, 3) := by decide +kernel
theorem dX10_text_380 : decode cX10_text 380 = .ok (.sipush 3000, 3) := by decide +kernel
theorem dX10_text_383 : decode cX10_text 383 = .ok (.iload 6, 2) := by decide +kernel
theorem dX10_text_385 : decode cX10_text 385 = .ok (.iadd, 1) := by decide +kernel
theorem dX10_text_386 : decode cX10_text 386 = .ok (.iaload, 1) := by decide +kernel
theorem dX10_text_387 : decode cX10_text 387 = .ok (.iastore, 1) := by decide +kernel
theorem dX10_text_388 : decode cX10_text 388 = .ok (.iinc 6 1, 3) := by decide +kernel
theorem dX10_text_391 : decode cX10_text 391 = .ok (.goto (-62), 3) := by decide +kernel
theorem dX10_text_394 : decode cX10_text 394 = .ok (.aload_n 0, 1) := by decide +kernel
theorem dX10_text_395 : decode cX10_text 395 = .ok (.getfield 59, 3) := by decide +kernel
theorem dX10_text_398 : decode cX10_text 398 = .ok (.iload 5, 2) := by decide +kernel
theorem dX10_text_400 : decode cX10_text 400 = .ok (.iload 4, 2) := by decide +kernel
theorem dX10_text_402 : decode cX10_text 402 = .ok (.iastore, 1) := by decide +kernel
theorem dX10_text_403 : decode cX10_text 403 = .ok (.iload 4, 2) := by decide +kernel
theorem dX10_text_405 : decode cX10_text 405 = .ok (.ireturn, 1) := by decide +kernel
theorem dX10_fault_0 : decode cX10_fault 0 = .ok (.aload_n 0, 1) := by decide +kernel
theorem dX10_fault_1 : decode cX10_fault 1 = .ok (.iconst 0, 1) := by decide +kernel
theorem dX10_fault_2 : decode cX10_fault 2 = .ok (.putfield 167, 3) := by decide +kernel
theorem dX10_fault_5 : decode cX10_fault 5 = .ok (.iload_n 1, 1) := by decide +kernel
theorem dX10_fault_6 : decode cX10_fault 6 = .ok (.ifCond .ne 10, 3) := by decide +kernel
theorem dX10_fault_9 : decode cX10_fault 9 = .ok (.aload_n 0, 1) := by decide +kernel
theorem dX10_fault_10 : decode cX10_fault 10 = .ok (.getfield 292, 3) := by decide +kernel
theorem dX10_fault_13 : decode cX10_fault 13 = .ok (.goto 16, 3) := by decide +kernel
theorem dX10_fault_16 : decode cX10_fault 16 = .ok (.iload_n 1, 1) := by decide +kernel
theorem dX10_fault_17 : decode cX10_fault 17 = .ok (.iconst 1, 1) := by decide +kernel
theorem dX10_fault_18 : decode cX10_fault 18 = .ok (.if_icmp .ne 10, 3) := by decide +kernel
theorem dX10_fault_21 : decode cX10_fault 21 = .ok (.aload_n 0, 1) := by decide +kernel
theorem dX10_fault_22 : decode cX10_fault 22 = .ok (.getfield 92, 3) := by decide +kernel
theorem dX10_fault_25 : decode cX10_fault 25 = .ok (.goto 4, 3) := by decide +kernel
theorem dX10_fault_28 : decode cX10_fault 28 = .ok (.iconst (-1), 1) := by decide +kernel
theorem dX10_fault_29 : decode cX10_fault 29 = .ok (.ireturn, 1) := by decide +kernel
theorem dX10_twoOf_0 : decode cX10_twoOf 0 = .ok (.iload_n 1, 1) := by decide +kernel
theorem dX10_twoOf_1 : decode cX10_twoOf 1 = .ok (.iconst 2, 1) := by decide +kernel
theorem dX10_twoOf_2 : decode cX10_twoOf 2 = .ok (.if_icmp .ne 7, 3) := by decide +kernel
theorem dX10_twoOf_5 : decode cX10_twoOf 5 = .ok (.iload_n 2, 1) := by decide +kernel
theorem dX10_twoOf_6 : decode cX10_twoOf 6 = .ok (.iload_n 3, 1) := by decide +kernel
theorem dX10_twoOf_7 : decode cX10_twoOf 7 = .ok (.iadd, 1) := by decide +kernel
theorem dX10_twoOf_8 : decode cX10_twoOf 8 = .ok (.ireturn, 1) := by decide +kernel
theorem dX10_twoOf_9 : decode cX10_twoOf 9 = .ok (.iload_n 1, 1) := by decide +kernel
theorem dX10_twoOf_10 : decode cX10_twoOf 10 = .ok (.iconst 3, 1) := by decide +kernel
theorem dX10_twoOf_11 : decode cX10_twoOf 11 = .ok (.if_icmp .ne 7, 3) := by decide +kernel
theorem dX10_twoOf_14 : decode cX10_twoOf 14 = .ok (.iload_n 2, 1) := by decide +kernel
theorem dX10_twoOf_15 : decode cX10_twoOf 15 = .ok (.iload_n 3, 1) := by decide +kernel
theorem dX10_twoOf_16 : decode cX10_twoOf 16 = .ok (.isub, 1) := by decide +kernel
theorem dX10_twoOf_17 : decode cX10_twoOf 17 = .ok (.ireturn, 1) := by decide +kernel
theorem dX10_twoOf_18 : decode cX10_twoOf 18 = .ok (.iload_n 1, 1) := by decide +kernel
theorem dX10_twoOf_19 : decode cX10_twoOf 19 = .ok (.iconst 4, 1) := by decide +kernel
theorem dX10_twoOf_20 : decode cX10_twoOf 20 = .ok (.if_icmp .ne 7, 3) := by decide +kernel
theorem dX10_twoOf_23 : decode cX10_twoOf 23 = .ok (.iload_n 2, 1) := by decide +kernel
theorem dX10_twoOf_24 : decode cX10_twoOf 24 = .ok (.iload_n 3, 1) := by decide +kernel
theorem dX10_twoOf_25 : decode cX10_twoOf 25 = .ok (.imul, 1) := by decide +kernel
theorem dX10_twoOf_26 : decode cX10_twoOf 26 = .ok (.ireturn, 1) := by decide +kernel
theorem dX10_twoOf_27 : decode cX10_twoOf 27 = .ok (.iload_n 1, 1) := by decide +kernel
theorem dX10_twoOf_28 : decode cX10_twoOf 28 = .ok (.iconst 5, 1) := by decide +kernel
theorem dX10_twoOf_29 : decode cX10_twoOf 29 = .ok (.if_icmp .ne 7, 3) := by decide +kernel
theorem dX10_twoOf_32 : decode cX10_twoOf 32 = .ok (.iload_n 2, 1) := by decide +kernel
theorem dX10_twoOf_33 : decode cX10_twoOf 33 = .ok (.iload_n 3, 1) := by decide +kernel
theorem dX10_twoOf_34 : decode cX10_twoOf 34 = .ok (.idiv, 1) := by decide +kernel
theorem dX10_twoOf_35 : decode cX10_twoOf 35 = .ok (.ireturn, 1) := by decide +kernel
theorem dX10_twoOf_36 : decode cX10_twoOf 36 = .ok (.iload_n 1, 1) := by decide +kernel
theorem dX10_twoOf_37 : decode cX10_twoOf 37 = .ok (.bipush 6, 2) := by decide +kernel
theorem dX10_twoOf_39 : decode cX10_twoOf 39 = .ok (.if_icmp .ne 14, 3) := by decide +kernel
theorem dX10_twoOf_42 : decode cX10_twoOf 42 = .ok (.iload_n 2, 1) := by decide +kernel
theorem dX10_twoOf_43 : decode cX10_twoOf 43 = .ok (.iload_n 3, 1) := by decide +kernel
theorem dX10_twoOf_44 : decode cX10_twoOf 44 = .ok (.if_icmp .ge 7, 3) := by decide +kernel
theorem dX10_twoOf_47 : decode cX10_twoOf 47 = .ok (.iconst 1, 1) := by decide +kernel
theorem dX10_twoOf_48 : decode cX10_twoOf 48 = .ok (.goto 4, 3) := by decide +kernel
theorem dX10_twoOf_51 : decode cX10_twoOf 51 = .ok (.iconst 0, 1) := by decide +kernel
theorem dX10_twoOf_52 : decode cX10_twoOf 52 = .ok (.ireturn, 1) := by decide +kernel
theorem dX10_twoOf_53 : decode cX10_twoOf 53 = .ok (.iload_n 1, 1) := by decide +kernel
theorem dX10_twoOf_54 : decode cX10_twoOf 54 = .ok (.bipush 7, 2) := by decide +kernel
theorem dX10_twoOf_56 : decode cX10_twoOf 56 = .ok (.if_icmp .ne 14, 3) := by decide +kernel
theorem dX10_twoOf_59 : decode cX10_twoOf 59 = .ok (.iload_n 2, 1) := by decide +kernel
theorem dX10_twoOf_60 : decode cX10_twoOf 60 = .ok (.iload_n 3, 1) := by decide +kernel
theorem dX10_twoOf_61 : decode cX10_twoOf 61 = .ok (.if_icmp .ne 7, 3) := by decide +kernel
theorem dX10_twoOf_64 : decode cX10_twoOf 64 = .ok (.iconst 1, 1) := by decide +kernel
theorem dX10_twoOf_65 : decode cX10_twoOf 65 = .ok (.goto 4, 3) := by decide +kernel
theorem dX10_twoOf_68 : decode cX10_twoOf 68 = .ok (.iconst 0, 1) := by decide +kernel
theorem dX10_twoOf_69 : decode cX10_twoOf 69 = .ok (.ireturn, 1) := by decide +kernel
theorem dX10_twoOf_70 : decode cX10_twoOf 70 = .ok (.iload_n 1, 1) := by decide +kernel
theorem dX10_twoOf_71 : decode cX10_twoOf 71 = .ok (.bipush 8, 2) := by decide +kernel
theorem dX10_twoOf_73 : decode cX10_twoOf 73 = .ok (.if_icmp .ne 14, 3) := by decide +kernel
theorem dX10_twoOf_76 : decode cX10_twoOf 76 = .ok (.iload_n 2, 1) := by decide +kernel
theorem dX10_twoOf_77 : decode cX10_twoOf 77 = .ok (.iload_n 3, 1) := by decide +kernel
theorem dX10_twoOf_78 : decode cX10_twoOf 78 = .ok (.if_icmp .le 7, 3) := by decide +kernel
theorem dX10_twoOf_81 : decode cX10_twoOf 81 = .ok (.iconst 1, 1) := by decide +kernel
theorem dX10_twoOf_82 : decode cX10_twoOf 82 = .ok (.goto 4, 3) := by decide +kernel
theorem dX10_twoOf_85 : decode cX10_twoOf 85 = .ok (.iconst 0, 1) := by decide +kernel
theorem dX10_twoOf_86 : decode cX10_twoOf 86 = .ok (.ireturn, 1) := by decide +kernel
theorem dX10_twoOf_87 : decode cX10_twoOf 87 = .ok (.iload_n 1, 1) := by decide +kernel
theorem dX10_twoOf_88 : decode cX10_twoOf 88 = .ok (.bipush 10, 2) := by decide +kernel
theorem dX10_twoOf_90 : decode cX10_twoOf 90 = .ok (.if_icmp .ne 9, 3) := by decide +kernel
theorem dX10_twoOf_93 : decode cX10_twoOf 93 = .ok (.iload_n 2, 1) := by decide +kernel
theorem dX10_twoOf_94 : decode cX10_twoOf 94 = .ok (.iload_n 3, 1) := by decide +kernel
theorem dX10_twoOf_95 : decode cX10_twoOf 95 = .ok (.imul, 1) := by decide +kernel
theorem dX10_twoOf_96 : decode cX10_twoOf 96 = .ok (.goto 14, 3) := by decide +kernel
theorem dX10_twoOf_99 : decode cX10_twoOf 99 = .ok (.iload_n 2, 1) := by decide +kernel
theorem dX10_twoOf_100 : decode cX10_twoOf 100 = .ok (.iload_n 3, 1) := by decide +kernel
theorem dX10_twoOf_101 : decode cX10_twoOf 101 = .ok (.iadd, 1) := by decide +kernel
theorem dX10_twoOf_102 : decode cX10_twoOf 102 = .ok (.ifCond .le 7, 3) := by decide +kernel
theorem dX10_twoOf_105 : decode cX10_twoOf 105 = .ok (.iconst 1, 1) := by decide +kernel
theorem dX10_twoOf_106 : decode cX10_twoOf 106 = .ok (.goto 4, 3) := by decide +kernel
theorem dX10_twoOf_109 : decode cX10_twoOf 109 = .ok (.iconst 0, 1) := by decide +kernel
theorem dX10_twoOf_110 : decode cX10_twoOf 110 = .ok (.ireturn, 1) := by decide +kernel
theorem dX10_worth_0 : decode cX10_worth 0 = .ok (.iconst 0, 1) := by decide +kernel
theorem dX10_worth_1 : decode cX10_worth 1 = .ok (.istore 4, 2) := by decide +kernel
theorem dX10_worth_3 : decode cX10_worth 3 = .ok (.sipush 500, 3) := by decide +kernel
theorem dX10_worth_6 : decode cX10_worth 6 = .ok (.iload_n 1, 1) := by decide +kernel
theorem dX10_worth_7 : decode cX10_worth 7 = .ok (.imul, 1) := by decide +kernel
theorem dX10_worth_8 : decode cX10_worth 8 = .ok (.iload_n 2, 1) := by decide +kernel
theorem dX10_worth_9 : decode cX10_worth 9 = .ok (.iadd, 1) := by decide +kernel
theorem dX10_worth_10 : decode cX10_worth 10 = .ok (.istore 5, 2) := by decide +kernel
theorem dX10_worth_12 : decode cX10_worth 12 = .ok (.iload 5, 2) := by decide +kernel
theorem dX10_worth_14 : decode cX10_worth 14 = .ok (.sipush 500, 3) := by decide +kernel
theorem dX10_worth_17 : decode cX10_worth 17 = .ok (.iload_n 1, 1) := by decide +kernel
theorem dX10_worth_18 : decode cX10_worth 18 = .ok (.imul, 1) := by decide +kernel
theorem dX10_worth_19 : decode cX10_worth 19 = .ok (.iload_n 3, 1) := by decide +kernel
theorem dX10_worth_20 : decode cX10_worth 20 = .ok (.iadd, 1) := by decide +kernel
theorem dX10_worth_21 : decode cX10_worth 21 = .ok (.if_icmp .ge 155, 3) := by decide +kernel
theorem dX10_worth_24 : decode cX10_worth 24 = .ok (.aload_n 0, 1) := by decide +kernel
theorem dX10_worth_25 : decode cX10_worth 25 = .ok (.getfield 83, 3) := by decide +kernel
theorem dX10_worth_28 : decode cX10_worth 28 = .ok (.iload 5, 2) := by decide +kernel
theorem dX10_worth_30 : decode cX10_worth 30 = .ok (.iaload, 1) := by decide +kernel
theorem dX10_worth_31 : decode cX10_worth 31 = .ok (.ifCond .eq 14, 3) := by decide +kernel
theorem dX10_worth_34 : decode cX10_worth 34 = .ok (.aload_n 0, 1) := by decide +kernel
theorem dX10_worth_35 : decode cX10_worth 35 = .ok (.getfield 83, 3) := by decide +kernel
theorem dX10_worth_38 : decode cX10_worth 38 = .ok (.iload 5, 2) := by decide +kernel
theorem dX10_worth_40 : decode cX10_worth 40 = .ok (.iaload, 1) := by decide +kernel
theorem dX10_worth_41 : decode cX10_worth 41 = .ok (.iconst 1, 1) := by decide +kernel
theorem dX10_worth_42 : decode cX10_worth 42 = .ok (.if_icmp .ne 51, 3) := by decide +kernel
theorem dX10_worth_45 : decode cX10_worth 45 = .ok (.aload_n 0, 1) := by decide +kernel
theorem dX10_worth_46 : decode cX10_worth 46 = .ok (.getfield 98, 3) := by decide +kernel
theorem dX10_worth_49 : decode cX10_worth 49 = .ok (.iload 4, 2) := by decide +kernel
theorem dX10_worth_51 : decode cX10_worth 51 = .ok (.aload_n 0, 1) := by decide +kernel
theorem dX10_worth_52 : decode cX10_worth 52 = .ok (.getfield 83, 3) := by decide +kernel
theorem dX10_worth_55 : decode cX10_worth 55 = .ok (.iload 5, 2) := by decide +kernel
theorem dX10_worth_57 : decode cX10_worth 57 = .ok (.iaload, 1) := by decide +kernel
theorem dX10_worth_58 : decode cX10_worth 58 = .ok (.ifCond .ne 13, 3) := by decide +kernel
theorem dX10_worth_61 : decode cX10_worth 61 = .ok (.aload_n 0, 1) := by decide +kernel
theorem dX10_worth_62 : decode cX10_worth 62 = .ok (.getfield 86, 3) := by decide +kernel
theorem dX10_worth_65 : decode cX10_worth 65 = .ok (.iload 5, 2) := by decide +kernel
theorem dX10_worth_67 : decode cX10_worth 67 = .ok (.iaload, 1) := by decide +kernel
theorem dX10_worth_68 : decode cX10_worth 68 = .ok (.goto 15, 3) := by decide +kernel
theorem dX10_worth_71 : decode cX10_worth 71 = .ok (.aload_n 0, 1) := by decide +kernel
theorem dX10_worth_72 : decode cX10_worth 72 = .ok (.getfield 95, 3) := by decide +kernel
theorem dX10_worth_75 : decode cX10_worth 75 = .ok (.aload_n 0, 1) := by decide +kernel
theorem dX10_worth_76 : decode cX10_worth 76 = .ok (.getfield 86, 3) := by decide +kernel
theorem dX10_worth_79 : decode cX10_worth 79 = .ok (.iload 5, 2) := by decide +kernel
theorem dX10_worth_81 : decode cX10_worth 81 = .ok (.iaload, 1) := by decide +kernel
theorem dX10_worth_82 : decode cX10_worth 82 = .ok (.iaload, 1) := by decide +kernel
theorem dX10_worth_83 : decode cX10_worth 83 = .ok (.iastore, 1) := by decide +kernel
theorem dX10_worth_84 : decode cX10_worth 84 = .ok (.iload 4, 2) := by decide +kernel
theorem dX10_worth_86 : decode cX10_worth 86 = .ok (.iconst 1, 1) := by decide +kernel
theorem dX10_worth_87 : decode cX10_worth 87 = .ok (.iadd, 1) := by decide +kernel
theorem dX10_worth_88 : decode cX10_worth 88 = .ok (.istore 4, 2) := by decide +kernel
theorem dX10_worth_90 : decode cX10_worth 90 = .ok (.goto 80, 3) := by decide +kernel
theorem dX10_worth_93 : decode cX10_worth 93 = .ok (.aload_n 0, 1) := by decide +kernel
theorem dX10_worth_94 : decode cX10_worth 94 = .ok (.getfield 83, 3) := by decide +kernel
theorem dX10_worth_97 : decode cX10_worth 97 = .ok (.iload 5, 2) := by decide +kernel
theorem dX10_worth_99 : decode cX10_worth 99 = .ok (.iaload, 1) := by decide +kernel
theorem dX10_worth_100 : decode cX10_worth 100 = .ok (.bipush 9, 2) := by decide +kernel
theorem dX10_worth_102 : decode cX10_worth 102 = .ok (.if_icmp .ne 26, 3) := by decide +kernel
theorem dX10_worth_105 : decode cX10_worth 105 = .ok (.aload_n 0, 1) := by decide +kernel
theorem dX10_worth_106 : decode cX10_worth 106 = .ok (.getfield 98, 3) := by decide +kernel
theorem dX10_worth_109 : decode cX10_worth 109 = .ok (.iload 4, 2) := by decide +kernel
theorem dX10_worth_111 : decode cX10_worth 111 = .ok (.iconst 1, 1) := by decide +kernel
theorem dX10_worth_112 : decode cX10_worth 112 = .ok (.isub, 1) := by decide +kernel
theorem dX10_worth_113 : decode cX10_worth 113 = .ok (.iconst 1, 1) := by decide +kernel
theorem dX10_worth_114 : decode cX10_worth 114 = .ok (.aload_n 0, 1) := by decide +kernel
theorem dX10_worth_115 : decode cX10_worth 115 = .ok (.getfield 98, 3) := by decide +kernel
theorem dX10_worth_118 : decode cX10_worth 118 = .ok (.iload 4, 2) := by decide +kernel
theorem dX10_worth_120 : decode cX10_worth 120 = .ok (.iconst 1, 1) := by decide +kernel
theorem dX10_worth_121 : decode cX10_worth 121 = .ok (.isub, 1) := by decide +kernel
theorem dX10_worth_122 : decode cX10_worth 122 = .ok (.iaload, 1) := by decide +kernel
theorem dX10_worth_123 : decode cX10_worth 123 = .ok (.isub, 1) := by decide +kernel
theorem dX10_worth_124 : decode cX10_worth 124 = .ok (.iastore, 1) := by decide +kernel
theorem dX10_worth_125 : decode cX10_worth 125 = .ok (.goto 45, 3) := by decide +kernel
theorem dX10_worth_128 : decode cX10_worth 128 = .ok (.iload 4, 2) := by decide +kernel
theorem dX10_worth_130 : decode cX10_worth 130 = .ok (.iconst 1, 1) := by decide +kernel
theorem dX10_worth_131 : decode cX10_worth 131 = .ok (.isub, 1) := by decide +kernel
theorem dX10_worth_132 : decode cX10_worth 132 = .ok (.istore 4, 2) := by decide +kernel
theorem dX10_worth_134 : decode cX10_worth 134 = .ok (.aload_n 0, 1) := by decide +kernel
theorem dX10_worth_135 : decode cX10_worth 135 = .ok (.getfield 98, 3) := by decide +kernel
theorem dX10_worth_138 : decode cX10_worth 138 = .ok (.iload 4, 2) := by decide +kernel
theorem dX10_worth_140 : decode cX10_worth 140 = .ok (.iconst 1, 1) := by decide +kernel
theorem dX10_worth_141 : decode cX10_worth 141 = .ok (.isub, 1) := by decide +kernel
theorem dX10_worth_142 : decode cX10_worth 142 = .ok (.aload_n 0, 1) := by decide +kernel
theorem dX10_worth_143 : decode cX10_worth 143 = .ok (.aload_n 0, 1) := by decide +kernel
theorem dX10_worth_144 : decode cX10_worth 144 = .ok (.getfield 83, 3) := by decide +kernel
theorem dX10_worth_147 : decode cX10_worth 147 = .ok (.iload 5, 2) := by decide +kernel
theorem dX10_worth_149 : decode cX10_worth 149 = .ok (.iaload, 1) := by decide +kernel
theorem dX10_worth_150 : decode cX10_worth 150 = .ok (.aload_n 0, 1) := by decide +kernel
theorem dX10_worth_151 : decode cX10_worth 151 = .ok (.getfield 98, 3) := by decide +kernel
theorem dX10_worth_154 : decode cX10_worth 154 = .ok (.iload 4, 2) := by decide +kernel
theorem dX10_worth_156 : decode cX10_worth 156 = .ok (.iconst 1, 1) := by decide +kernel
theorem dX10_worth_157 : decode cX10_worth 157 = .ok (.isub, 1) := by decide +kernel
theorem dX10_worth_158 : decode cX10_worth 158 = .ok (.iaload, 1) := by decide +kernel
theorem dX10_worth_159 : decode cX10_worth 159 = .ok (.aload_n 0, 1) := by decide +kernel
theorem dX10_worth_160 : decode cX10_worth 160 = .ok (.getfield 98, 3) := by decide +kernel
theorem dX10_worth_163 : decode cX10_worth 163 = .ok (.iload 4, 2) := by decide +kernel
theorem dX10_worth_165 : decode cX10_worth 165 = .ok (.iaload, 1) := by decide +kernel
theorem dX10_worth_166 : decode cX10_worth 166 = .ok (.invokevirtual 298, 3) := by decide +kernel
theorem dX10_worth_169 : decode cX10_worth 169 = .ok (.iastore, 1) := by decide +kernel
theorem dX10_worth_170 : decode cX10_worth 170 = .ok (.iinc 5 1, 3) := by decide +kernel
theorem dX10_worth_173 : decode cX10_worth 173 = .ok (.goto (-161), 3) := by decide +kernel
theorem dX10_worth_176 : decode cX10_worth 176 = .ok (.aload_n 0, 1) := by decide +kernel
theorem dX10_worth_177 : decode cX10_worth 177 = .ok (.getfield 98, 3) := by decide +kernel
theorem dX10_worth_180 : decode cX10_worth 180 = .ok (.iconst 0, 1) := by decide +kernel
theorem dX10_worth_181 : decode cX10_worth 181 = .ok (.iaload, 1) := by decide +kernel
theorem dX10_worth_182 : decode cX10_worth 182 = .ok (.ireturn, 1) := by decide +kernel
theorem dX10_isSo_0 : decode cX10_isSo 0 = .ok (.aload_n 0, 1) := by decide +kernel
theorem dX10_isSo_1 : decode cX10_isSo 1 = .ok (.getfield 80, 3) := by decide +kernel
theorem dX10_isSo_4 : decode cX10_isSo 4 = .ok (.iload_n 2, 1) := by decide +kernel
theorem dX10_isSo_5 : decode cX10_isSo 5 = .ok (.iaload, 1) := by decide +kernel
theorem dX10_isSo_6 : decode cX10_isSo 6 = .ok (.aload_n 0, 1) := by decide +kernel
theorem dX10_isSo_7 : decode cX10_isSo 7 = .ok (.getfield 77, 3) := by decide +kernel
theorem dX10_isSo_10 : decode cX10_isSo 10 = .ok (.iload_n 2, 1) := by decide +kernel
theorem dX10_isSo_11 : decode cX10_isSo 11 = .ok (.iaload, 1) := by decide +kernel
theorem dX10_isSo_12 : decode cX10_isSo 12 = .ok (.if_icmp .eq 23, 3) := by decide +kernel
theorem dX10_isSo_15 : decode cX10_isSo 15 = .ok (.aload_n 0, 1) := by decide +kernel
theorem dX10_isSo_16 : decode cX10_isSo 16 = .ok (.iload_n 1, 1) := by decide +kernel
theorem dX10_isSo_17 : decode cX10_isSo 17 = .ok (.aload_n 0, 1) := by decide +kernel
theorem dX10_isSo_18 : decode cX10_isSo 18 = .ok (.getfield 77, 3) := by decide +kernel
theorem dX10_isSo_21 : decode cX10_isSo 21 = .ok (.iload_n 2, 1) := by decide +kernel
theorem dX10_isSo_22 : decode cX10_isSo 22 = .ok (.iaload, 1) := by decide +kernel
theorem dX10_isSo_23 : decode cX10_isSo 23 = .ok (.aload_n 0, 1) := by decide +kernel
theorem dX10_isSo_24 : decode cX10_isSo 24 = .ok (.getfield 80, 3) := by decide +kernel
theorem dX10_isSo_27 : decode cX10_isSo 27 = .ok (.iload_n 2, 1) := by decide +kernel
theorem dX10_isSo_28 : decode cX10_isSo 28 = .ok (.iaload, 1) := by decide +kernel
theorem dX10_isSo_29 : decode cX10_isSo 29 = .ok (.invokevirtual 302, 3) := by decide +kernel
theorem dX10_isSo_32 : decode cX10_isSo 32 = .ok (.ifCond .eq 7, 3) := by decide +kernel
theorem dX10_isSo_35 : decode cX10_isSo 35 = .ok (.iconst 1, 1) := by decide +kernel
theorem dX10_isSo_36 : decode cX10_isSo 36 = .ok (.goto 4, 3) := by decide +kernel
theorem dX10_isSo_39 : decode cX10_isSo 39 = .ok (.iconst 0, 1) := by decide +kernel
theorem dX10_isSo_40 : decode cX10_isSo 40 = .ok (.ireturn, 1) := by decide +kernel
theorem dX10_tellsBy_0 : decode cX10_tellsBy 0 = .ok (.iconst 0, 1) := by decide +kernel
theorem dX10_tellsBy_1 : decode cX10_tellsBy 1 = .ok (.istore 4, 2) := by decide +kernel
theorem dX10_tellsBy_3 : decode cX10_tellsBy 3 = .ok (.iconst 0, 1) := by decide +kernel
theorem dX10_tellsBy_4 : decode cX10_tellsBy 4 = .ok (.istore 5, 2) := by decide +kernel
theorem dX10_tellsBy_6 : decode cX10_tellsBy 6 = .ok (.bipush 16, 2) := by decide +kernel
theorem dX10_tellsBy_8 : decode cX10_tellsBy 8 = .ok (.iload_n 1, 1) := by decide +kernel
theorem dX10_tellsBy_9 : decode cX10_tellsBy 9 = .ok (.imul, 1) := by decide +kernel
theorem dX10_tellsBy_10 : decode cX10_tellsBy 10 = .ok (.istore 6, 2) := by decide +kernel
theorem dX10_tellsBy_12 : decode cX10_tellsBy 12 = .ok (.iload 6, 2) := by decide +kernel
theorem dX10_tellsBy_14 : decode cX10_tellsBy 14 = .ok (.bipush 16, 2) := by decide +kernel
theorem dX10_tellsBy_16 : decode cX10_tellsBy 16 = .ok (.iload_n 1, 1) := by decide +kernel
theorem dX10_tellsBy_17 : decode cX10_tellsBy 17 = .ok (.imul, 1) := by decide +kernel
theorem dX10_tellsBy_18 : decode cX10_tellsBy 18 = .ok (.aload_n 0, 1) := by decide +kernel
theorem dX10_tellsBy_19 : decode cX10_tellsBy 19 = .ok (.getfield 59, 3) := by decide +kernel
theorem dX10_tellsBy_22 : decode cX10_tellsBy 22 = .ok (.iload_n 1, 1) := by decide +kernel
theorem dX10_tellsBy_23 : decode cX10_tellsBy 23 = .ok (.iaload, 1) := by decide +kernel
theorem dX10_tellsBy_24 : decode cX10_tellsBy 24 = .ok (.iadd, 1) := by decide +kernel
theorem dX10_tellsBy_25 : decode cX10_tellsBy 25 = .ok (.if_icmp .ge 78, 3) := by decide +kernel
theorem dX10_tellsBy_28 : decode cX10_tellsBy 28 = .ok (.iload 5, 2) := by decide +kernel
theorem dX10_tellsBy_30 : decode cX10_tellsBy 30 = .ok (.ifCond .ne 73, 3) := by decide +kernel
theorem dX10_tellsBy_33 : decode cX10_tellsBy 33 = .ok (.aload_n 0, 1) := by decide +kernel
theorem dX10_tellsBy_34 : decode cX10_tellsBy 34 = .ok (.getfield 62, 3) := by decide +kernel
theorem dX10_tellsBy_37 : decode cX10_tellsBy 37 = .ok (.iload 6, 2) := by decide +kernel
theorem dX10_tellsBy_39 : decode cX10_tellsBy 39 = .ok (.iaload, 1) := by decide +kernel
theorem dX10_tellsBy_40 : decode cX10_tellsBy 40 = .ok (.iload_n 2, 1) := by decide +kernel
theorem dX10_tellsBy_41 : decode cX10_tellsBy 41 = .ok (.if_icmp .ne 56, 3) := by decide +kernel
theorem dX10_tellsBy_44 : decode cX10_tellsBy 44 = .ok (.iload_n 2, 1) := by decide +kernel
theorem dX10_tellsBy_45 : decode cX10_tellsBy 45 = .ok (.iconst 3, 1) := by decide +kernel
theorem dX10_tellsBy_46 : decode cX10_tellsBy 46 = .ok (.if_icmp .eq 14, 3) := by decide +kernel
theorem dX10_tellsBy_49 : decode cX10_tellsBy 49 = .ok (.aload_n 0, 1) := by decide +kernel
theorem dX10_tellsBy_50 : decode cX10_tellsBy 50 = .ok (.getfield 65, 3) := by decide +kernel
theorem dX10_tellsBy_53 : decode cX10_tellsBy 53 = .ok (.iload 6, 2) := by decide +kernel
theorem dX10_tellsBy_55 : decode cX10_tellsBy 55 = .ok (.iaload, 1) := by decide +kernel
theorem dX10_tellsBy_56 : decode cX10_tellsBy 56 = .ok (.iload_n 3, 1) := by decide +kernel
theorem dX10_tellsBy_57 : decode cX10_tellsBy 57 = .ok (.if_icmp .ne 40, 3) := by decide +kernel
theorem dX10_tellsBy_60 : decode cX10_tellsBy 60 = .ok (.aload_n 0, 1) := by decide +kernel
theorem dX10_tellsBy_61 : decode cX10_tellsBy 61 = .ok (.iload_n 1, 1) := by decide +kernel
theorem dX10_tellsBy_62 : decode cX10_tellsBy 62 = .ok (.iload 6, 2) := by decide +kernel
theorem dX10_tellsBy_64 : decode cX10_tellsBy 64 = .ok (.invokevirtual 305, 3) := by decide +kernel
theorem dX10_tellsBy_67 : decode cX10_tellsBy 67 = .ok (.ifCond .ne 6, 3) := by decide +kernel
theorem dX10_tellsBy_70 : decode cX10_tellsBy 70 = .ok (.goto 27, 3) := by decide +kernel
theorem dX10_tellsBy_73 : decode cX10_tellsBy 73 = .ok (.iconst 1, 1) := by decide +kernel
theorem dX10_tellsBy_74 : decode cX10_tellsBy 74 = .ok (.istore 5, 2) := by decide +kernel
theorem dX10_tellsBy_76 : decode cX10_tellsBy 76 = .ok (.aload_n 0, 1) := by decide +kernel
theorem dX10_tellsBy_77 : decode cX10_tellsBy 77 = .ok (.iload_n 1, 1) := by decide +kernel
theorem dX10_tellsBy_78 : decode cX10_tellsBy 78 = .ok (.aload_n 0, 1) := by decide +kernel
theorem dX10_tellsBy_79 : decode cX10_tellsBy 79 = .ok (.getfield 74, 3) := by decide +kernel
theorem dX10_tellsBy_82 : decode cX10_tellsBy 82 = .ok (.iload 6, 2) := by decide +kernel
theorem dX10_tellsBy_84 : decode cX10_tellsBy 84 = .ok (.iaload, 1) := by decide +kernel
theorem dX10_tellsBy_85 : decode cX10_tellsBy 85 = .ok (.aload_n 0, 1) := by decide +kernel
theorem dX10_tellsBy_86 : decode cX10_tellsBy 86 = .ok (.getfield 77, 3) := by decide +kernel
theorem dX10_tellsBy_89 : decode cX10_tellsBy 89 = .ok (.iload 6, 2) := by decide +kernel
theorem dX10_tellsBy_91 : decode cX10_tellsBy 91 = .ok (.iaload, 1) := by decide +kernel
theorem dX10_tellsBy_92 : decode cX10_tellsBy 92 = .ok (.invokevirtual 302, 3) := by decide +kernel
theorem dX10_tellsBy_95 : decode cX10_tellsBy 95 = .ok (.istore 4, 2) := by decide +kernel
theorem dX10_tellsBy_97 : decode cX10_tellsBy 97 = .ok (.iinc 6 1, 3) := by decide +kernel
theorem dX10_tellsBy_100 : decode cX10_tellsBy 100 = .ok (.goto (-88), 3) := by decide +kernel
theorem dX10_tellsBy_103 : decode cX10_tellsBy 103 = .ok (.iload_n 2, 1) := by decide +kernel
theorem dX10_tellsBy_104 : decode cX10_tellsBy 104 = .ok (.iconst 2, 1) := by decide +kernel
theorem dX10_tellsBy_105 : decode cX10_tellsBy 105 = .ok (.if_icmp .ge 7, 3) := by decide +kernel
theorem dX10_tellsBy_108 : decode cX10_tellsBy 108 = .ok (.iconst 0, 1) := by decide +kernel
theorem dX10_tellsBy_109 : decode cX10_tellsBy 109 = .ok (.goto 6, 3) := by decide +kernel
theorem dX10_tellsBy_112 : decode cX10_tellsBy 112 = .ok (.sipush (-9999), 3) := by decide +kernel
theorem dX10_tellsBy_115 : decode cX10_tellsBy 115 = .ok (.istore 6, 2) := by decide +kernel
theorem dX10_tellsBy_117 : decode cX10_tellsBy 117 = .ok (.iload_n 2, 1) := by decide +kernel
theorem dX10_tellsBy_118 : decode cX10_tellsBy 118 = .ok (.iconst 2, 1) := by decide +kernel
theorem dX10_tellsBy_119 : decode cX10_tellsBy 119 = .ok (.if_icmp .ge 9, 3) := by decide +kernel
theorem dX10_tellsBy_122 : decode cX10_tellsBy 122 = .ok (.ldc_w 308, 3) := by decide +kernel
theorem dX10_tellsBy_125 : decode cX10_tellsBy 125 = .ok (.goto 6, 3) := by decide +kernel
theorem dX10_tellsBy_128 : decode cX10_tellsBy 128 = .ok (.sipush 9999, 3) := by decide +kernel
theorem dX10_tellsBy_131 : decode cX10_tellsBy 131 = .ok (.istore 7, 2) := by decide +kernel
theorem dX10_tellsBy_133 : decode cX10_tellsBy 133 = .ok (.iload 4, 2) := by decide +kernel
theorem dX10_tellsBy_135 : decode cX10_tellsBy 135 = .ok (.iload 6, 2) := by decide +kernel
theorem dX10_tellsBy_137 : decode cX10_tellsBy 137 = .ok (.if_icmp .ge 8, 3) := by decide +kernel
theorem dX10_tellsBy_140 : decode cX10_tellsBy 140 = .ok (.iload 6, 2) := by decide +kernel
theorem dX10_tellsBy_142 : decode cX10_tellsBy 142 = .ok (.goto 17, 3) := by decide +kernel
theorem dX10_tellsBy_145 : decode cX10_tellsBy 145 = .ok (.iload 4, 2) := by decide +kernel
theorem dX10_tellsBy_147 : decode cX10_tellsBy 147 = .ok (.iload 7, 2) := by decide +kernel
theorem dX10_tellsBy_149 : decode cX10_tellsBy 149 = .ok (.if_icmp .le 8, 3) := by decide +kernel
theorem dX10_tellsBy_152 : decode cX10_tellsBy 152 = .ok (.iload 7, 2) := by decide +kernel
theorem dX10_tellsBy_154 : decode cX10_tellsBy 154 = .ok (.goto 5, 3) := by decide +kernel
theorem dX10_tellsBy_157 : decode cX10_tellsBy 157 = .ok (.iload 4, 2) := by decide +kernel
theorem dX10_tellsBy_159 : decode cX10_tellsBy 159 = .ok (.ireturn, 1) := by decide +kernel
theorem dX10_asks_0 : decode cX10_asks 0 = .ok (.iconst 0, 1) := by decide +kernel
theorem dX10_asks_1 : decode cX10_asks 1 = .ok (.istore 7, 2) := by decide +kernel
theorem dX10_asks_3 : decode cX10_asks 3 = .ok (.iload 7, 2) := by decide +kernel
theorem dX10_asks_5 : decode cX10_asks 5 = .ok (.bipush 14, 2) := by decide +kernel
theorem dX10_asks_7 : decode cX10_asks 7 = .ok (.if_icmp .ge 17, 3) := by decide +kernel
theorem dX10_asks_10 : decode cX10_asks 10 = .ok (.aload_n 0, 1) := by decide +kernel
theorem dX10_asks_11 : decode cX10_asks 11 = .ok (.getfield 95, 3) := by decide +kernel
theorem dX10_asks_14 : decode cX10_asks 14 = .ok (.iload 7, 2) := by decide +kernel
theorem dX10_asks_16 : decode cX10_asks 16 = .ok (.iconst 0, 1) := by decide +kernel
theorem dX10_asks_17 : decode cX10_asks 17 = .ok (.iastore, 1) := by decide +kernel
theorem dX10_asks_18 : decode cX10_asks 18 = .ok (.iinc 7 1, 3) := by decide +kernel
theorem dX10_asks_21 : decode cX10_asks 21 = .ok (.goto (-18), 3) := by decide +kernel
theorem dX10_asks_24 : decode cX10_asks 24 = .ok (.aload_n 0, 1) := by decide +kernel
theorem dX10_asks_25 : decode cX10_asks 25 = .ok (.getfield 95, 3) := by decide +kernel
theorem dX10_asks_28 : decode cX10_asks 28 = .ok (.iconst 0, 1) := by decide +kernel
theorem dX10_asks_29 : decode cX10_asks 29 = .ok (.iload_n 2, 1) := by decide +kernel
theorem dX10_asks_30 : decode cX10_asks 30 = .ok (.iastore, 1) := by decide +kernel
theorem dX10_asks_31 : decode cX10_asks 31 = .ok (.aload_n 0, 1) := by decide +kernel
theorem dX10_asks_32 : decode cX10_asks 32 = .ok (.getfield 95, 3) := by decide +kernel
theorem dX10_asks_35 : decode cX10_asks 35 = .ok (.iconst 1, 1) := by decide +kernel
theorem dX10_asks_36 : decode cX10_asks 36 = .ok (.iload_n 1, 1) := by decide +kernel
theorem dX10_asks_37 : decode cX10_asks 37 = .ok (.iastore, 1) := by decide +kernel
theorem dX10_asks_38 : decode cX10_asks 38 = .ok (.aload_n 0, 1) := by decide +kernel
theorem dX10_asks_39 : decode cX10_asks 39 = .ok (.getfield 95, 3) := by decide +kernel
theorem dX10_asks_42 : decode cX10_asks 42 = .ok (.iconst 2, 1) := by decide +kernel
theorem dX10_asks_43 : decode cX10_asks 43 = .ok (.aload_n 0, 1) := by decide +kernel
theorem dX10_asks_44 : decode cX10_asks 44 = .ok (.iconst 2, 1) := by decide +kernel
theorem dX10_asks_45 : decode cX10_asks 45 = .ok (.iload_n 2, 1) := by decide +kernel
theorem dX10_asks_46 : decode cX10_asks 46 = .ok (.imul, 1) := by decide +kernel
theorem dX10_asks_47 : decode cX10_asks 47 = .ok (.iconst 1, 1) := by decide +kernel
theorem dX10_asks_48 : decode cX10_asks 48 = .ok (.iadd, 1) := by decide +kernel
theorem dX10_asks_49 : decode cX10_asks 49 = .ok (.iload_n 1, 1) := by decide +kernel
theorem dX10_asks_50 : decode cX10_asks 50 = .ok (.isub, 1) := by decide +kernel
theorem dX10_asks_51 : decode cX10_asks 51 = .ok (.invokevirtual 309, 3) := by decide +kernel
theorem dX10_asks_54 : decode cX10_asks 54 = .ok (.iastore, 1) := by decide +kernel
theorem dX10_asks_55 : decode cX10_asks 55 = .ok (.aload_n 0, 1) := by decide +kernel
theorem dX10_asks_56 : decode cX10_asks 56 = .ok (.getfield 95, 3) := by decide +kernel
theorem dX10_asks_59 : decode cX10_asks 59 = .ok (.iconst 3, 1) := by decide +kernel
theorem dX10_asks_60 : decode cX10_asks 60 = .ok (.iload_n 2, 1) := by decide +kernel
theorem dX10_asks_61 : decode cX10_asks 61 = .ok (.iload_n 1, 1) := by decide +kernel
theorem dX10_asks_62 : decode cX10_asks 62 = .ok (.iconst 1, 1) := by decide +kernel
theorem dX10_asks_63 : decode cX10_asks 63 = .ok (.isub, 1) := by decide +kernel
theorem dX10_asks_64 : decode cX10_asks 64 = .ok (.iload_n 2, 1) := by decide +kernel
theorem dX10_asks_65 : decode cX10_asks 65 = .ok (.isub, 1) := by decide +kernel
theorem dX10_asks_66 : decode cX10_asks 66 = .ok (.if_icmp .ge 7, 3) := by decide +kernel
theorem dX10_asks_69 : decode cX10_asks 69 = .ok (.iload_n 2, 1) := by decide +kernel
theorem dX10_asks_70 : decode cX10_asks 70 = .ok (.goto 8, 3) := by decide +kernel
theorem dX10_asks_73 : decode cX10_asks 73 = .ok (.iload_n 1, 1) := by decide +kernel
theorem dX10_asks_74 : decode cX10_asks 74 = .ok (.iconst 1, 1) := by decide +kernel
theorem dX10_asks_75 : decode cX10_asks 75 = .ok (.isub, 1) := by decide +kernel
theorem dX10_asks_76 : decode cX10_asks 76 = .ok (.iload_n 2, 1) := by decide +kernel
theorem dX10_asks_77 : decode cX10_asks 77 = .ok (.isub, 1) := by decide +kernel
theorem dX10_asks_78 : decode cX10_asks 78 = .ok (.iastore, 1) := by decide +kernel
theorem dX10_asks_79 : decode cX10_asks 79 = .ok (.aload_n 0, 1) := by decide +kernel
theorem dX10_asks_80 : decode cX10_asks 80 = .ok (.getfield 95, 3) := by decide +kernel
theorem dX10_asks_83 : decode cX10_asks 83 = .ok (.iconst 4, 1) := by decide +kernel
theorem dX10_asks_84 : decode cX10_asks 84 = .ok (.iload_n 3, 1) := by decide +kernel
theorem dX10_asks_85 : decode cX10_asks 85 = .ok (.iastore, 1) := by decide +kernel
theorem dX10_asks_86 : decode cX10_asks 86 = .ok (.aload_n 0, 1) := by decide +kernel
theorem dX10_asks_87 : decode cX10_asks 87 = .ok (.getfield 95, 3) := by decide +kernel
theorem dX10_asks_90 : decode cX10_asks 90 = .ok (.iconst 5, 1) := by decide +kernel
theorem dX10_asks_91 : decode cX10_asks 91 = .ok (.iload 4, 2) := by decide +kernel
theorem dX10_asks_93 : decode cX10_asks 93 = .ok (.iastore, 1) := by decide +kernel
theorem dX10_asks_94 : decode cX10_asks 94 = .ok (.aload_n 0, 1) := by decide +kernel
theorem dX10_asks_95 : decode cX10_asks 95 = .ok (.getfield 95, 3) := by decide +kernel
theorem dX10_asks_98 : decode cX10_asks 98 = .ok (.bipush 6, 2) := by decide +kernel
theorem dX10_asks_100 : decode cX10_asks 100 = .ok (.iload 5, 2) := by decide +kernel
theorem dX10_asks_102 : decode cX10_asks 102 = .ok (.iastore, 1) := by decide +kernel
theorem dX10_asks_103 : decode cX10_asks 103 = .ok (.aload_n 0, 1) := by decide +kernel
theorem dX10_asks_104 : decode cX10_asks 104 = .ok (.getfield 95, 3) := by decide +kernel
theorem dX10_asks_107 : decode cX10_asks 107 = .ok (.bipush 7, 2) := by decide +kernel
theorem dX10_asks_109 : decode cX10_asks 109 = .ok (.iload 6, 2) := by decide +kernel
theorem dX10_asks_111 : decode cX10_asks 111 = .ok (.iastore, 1) := by decide +kernel
theorem dX10_asks_112 : decode cX10_asks 112 = .ok (.return_, 1) := by decide +kernel
theorem dX10_asksSlice_0 : decode cX10_asksSlice 0 = .ok (.aload_n 0, 1) := by decide +kernel
theorem dX10_asksSlice_1 : decode cX10_asksSlice 1 = .ok (.aload_n 0, 1) := by decide +kernel
theorem dX10_asksSlice_2 : decode cX10_asksSlice 2 = .ok (.getfield 13, 3) := by decide +kernel
theorem dX10_asksSlice_5 : decode cX10_asksSlice 5 = .ok (.iload_n 1, 1) := by decide +kernel
theorem dX10_asksSlice_6 : decode cX10_asksSlice 6 = .ok (.iaload, 1) := by decide +kernel
theorem dX10_asksSlice_7 : decode cX10_asksSlice 7 = .ok (.iload_n 2, 1) := by decide +kernel
theorem dX10_asksSlice_8 : decode cX10_asksSlice 8 = .ok (.aload_n 0, 1) := by decide +kernel
theorem dX10_asksSlice_9 : decode cX10_asksSlice 9 = .ok (.getfield 17, 3) := by decide +kernel
theorem dX10_asksSlice_12 : decode cX10_asksSlice 12 = .ok (.bipush 16, 2) := by decide +kernel
theorem dX10_asksSlice_14 : decode cX10_asksSlice 14 = .ok (.iload_n 1, 1) := by decide +kernel
theorem dX10_asksSlice_15 : decode cX10_asksSlice 15 = .ok (.imul, 1) := by decide +kernel
theorem dX10_asksSlice_16 : decode cX10_asksSlice 16 = .ok (.iload_n 2, 1) := by decide +kernel
theorem dX10_asksSlice_17 : decode cX10_asksSlice 17 = .ok (.iadd, 1) := by decide +kernel
theorem dX10_asksSlice_18 : decode cX10_asksSlice 18 = .ok (.iaload, 1) := by decide +kernel
theorem dX10_asksSlice_19 : decode cX10_asksSlice 19 = .ok (.aload_n 0, 1) := by decide +kernel
theorem dX10_asksSlice_20 : decode cX10_asksSlice 20 = .ok (.getfield 20, 3) := by decide +kernel
theorem dX10_asksSlice_23 : decode cX10_asksSlice 23 = .ok (.bipush 16, 2) := by decide +kernel
theorem dX10_asksSlice_25 : decode cX10_asksSlice 25 = .ok (.iload_n 1, 1) := by decide +kernel
theorem dX10_asksSlice_26 : decode cX10_asksSlice 26 = .ok (.imul, 1) := by decide +kernel
theorem dX10_asksSlice_27 : decode cX10_asksSlice 27 = .ok (.iload_n 2, 1) := by decide +kernel
theorem dX10_asksSlice_28 : decode cX10_asksSlice 28 = .ok (.iadd, 1) := by decide +kernel
theorem dX10_asksSlice_29 : decode cX10_asksSlice 29 = .ok (.iaload, 1) := by decide +kernel
theorem dX10_asksSlice_30 : decode cX10_asksSlice 30 = .ok (.aload_n 0, 1) := by decide +kernel
theorem dX10_asksSlice_31 : decode cX10_asksSlice 31 = .ok (.getfield 23, 3) := by decide +kernel
theorem dX10_asksSlice_34 : decode cX10_asksSlice 34 = .ok (.bipush 16, 2) := by decide +kernel
theorem dX10_asksSlice_36 : decode cX10_asksSlice 36 = .ok (.iload_n 1, 1) := by decide +kernel
theorem dX10_asksSlice_37 : decode cX10_asksSlice 37 = .ok (.imul, 1) := by decide +kernel
theorem dX10_asksSlice_38 : decode cX10_asksSlice 38 = .ok (.iload_n 2, 1) := by decide +kernel
theorem dX10_asksSlice_39 : decode cX10_asksSlice 39 = .ok (.iadd, 1) := by decide +kernel
theorem dX10_asksSlice_40 : decode cX10_asksSlice 40 = .ok (.iaload, 1) := by decide +kernel
theorem dX10_asksSlice_41 : decode cX10_asksSlice 41 = .ok (.aload_n 0, 1) := by decide +kernel
theorem dX10_asksSlice_42 : decode cX10_asksSlice 42 = .ok (.getfield 26, 3) := by decide +kernel
theorem dX10_asksSlice_45 : decode cX10_asksSlice 45 = .ok (.bipush 16, 2) := by decide +kernel
theorem dX10_asksSlice_47 : decode cX10_asksSlice 47 = .ok (.iload_n 1, 1) := by decide +kernel
theorem dX10_asksSlice_48 : decode cX10_asksSlice 48 = .ok (.imul, 1) := by decide +kernel
theorem dX10_asksSlice_49 : decode cX10_asksSlice 49 = .ok (.iload_n 2, 1) := by decide +kernel
theorem dX10_asksSlice_50 : decode cX10_asksSlice 50 = .ok (.iadd, 1) := by decide +kernel
theorem dX10_asksSlice_51 : decode cX10_asksSlice 51 = .ok (.iaload, 1) := by decide +kernel
theorem dX10_asksSlice_52 : decode cX10_asksSlice 52 = .ok (.invokevirtual 312, 3) := by decide +kernel
theorem dX10_asksSlice_55 : decode cX10_asksSlice 55 = .ok (.return_, 1) := by decide +kernel
theorem dX10_toneBy_0 : decode cX10_toneBy 0 = .ok (.iconst 0, 1) := by decide +kernel
theorem dX10_toneBy_1 : decode cX10_toneBy 1 = .ok (.istore 4, 2) := by decide +kernel
theorem dX10_toneBy_3 : decode cX10_toneBy 3 = .ok (.iconst 0, 1) := by decide +kernel
theorem dX10_toneBy_4 : decode cX10_toneBy 4 = .ok (.istore 5, 2) := by decide +kernel
theorem dX10_toneBy_6 : decode cX10_toneBy 6 = .ok (.iconst 0, 1) := by decide +kernel
theorem dX10_toneBy_7 : decode cX10_toneBy 7 = .ok (.istore 6, 2) := by decide +kernel
theorem dX10_toneBy_9 : decode cX10_toneBy 9 = .ok (.iload 6, 2) := by decide +kernel
theorem dX10_toneBy_11 : decode cX10_toneBy 11 = .ok (.aload_n 0, 1) := by decide +kernel
theorem dX10_toneBy_12 : decode cX10_toneBy 12 = .ok (.getfield 13, 3) := by decide +kernel
theorem dX10_toneBy_15 : decode cX10_toneBy 15 = .ok (.iload_n 2, 1) := by decide +kernel
theorem dX10_toneBy_16 : decode cX10_toneBy 16 = .ok (.iaload, 1) := by decide +kernel
theorem dX10_toneBy_17 : decode cX10_toneBy 17 = .ok (.if_icmp .ge 40, 3) := by decide +kernel
theorem dX10_toneBy_20 : decode cX10_toneBy 20 = .ok (.aload_n 0, 1) := by decide +kernel
theorem dX10_toneBy_21 : decode cX10_toneBy 21 = .ok (.iload_n 2, 1) := by decide +kernel
theorem dX10_toneBy_22 : decode cX10_toneBy 22 = .ok (.iload 6, 2) := by decide +kernel
theorem dX10_toneBy_24 : decode cX10_toneBy 24 = .ok (.invokevirtual 316, 3) := by decide +kernel
theorem dX10_toneBy_27 : decode cX10_toneBy 27 = .ok (.iload 4, 2) := by decide +kernel
theorem dX10_toneBy_29 : decode cX10_toneBy 29 = .ok (.aload_n 0, 1) := by decide +kernel
theorem dX10_toneBy_30 : decode cX10_toneBy 30 = .ok (.iload_n 1, 1) := by decide +kernel
theorem dX10_toneBy_31 : decode cX10_toneBy 31 = .ok (.iconst 0, 1) := by decide +kernel
theorem dX10_toneBy_32 : decode cX10_toneBy 32 = .ok (.iload_n 3, 1) := by decide +kernel
theorem dX10_toneBy_33 : decode cX10_toneBy 33 = .ok (.invokevirtual 319, 3) := by decide +kernel
theorem dX10_toneBy_36 : decode cX10_toneBy 36 = .ok (.iadd, 1) := by decide +kernel
theorem dX10_toneBy_37 : decode cX10_toneBy 37 = .ok (.istore 4, 2) := by decide +kernel
theorem dX10_toneBy_39 : decode cX10_toneBy 39 = .ok (.iload 5, 2) := by decide +kernel
theorem dX10_toneBy_41 : decode cX10_toneBy 41 = .ok (.aload_n 0, 1) := by decide +kernel
theorem dX10_toneBy_42 : decode cX10_toneBy 42 = .ok (.iload_n 1, 1) := by decide +kernel
theorem dX10_toneBy_43 : decode cX10_toneBy 43 = .ok (.iconst 1, 1) := by decide +kernel
theorem dX10_toneBy_44 : decode cX10_toneBy 44 = .ok (.iload_n 3, 1) := by decide +kernel
theorem dX10_toneBy_45 : decode cX10_toneBy 45 = .ok (.invokevirtual 319, 3) := by decide +kernel
theorem dX10_toneBy_48 : decode cX10_toneBy 48 = .ok (.iadd, 1) := by decide +kernel
theorem dX10_toneBy_49 : decode cX10_toneBy 49 = .ok (.istore 5, 2) := by decide +kernel
theorem dX10_toneBy_51 : decode cX10_toneBy 51 = .ok (.iinc 6 1, 3) := by decide +kernel
theorem dX10_toneBy_54 : decode cX10_toneBy 54 = .ok (.goto (-45), 3) := by decide +kernel
theorem dX10_toneBy_57 : decode cX10_toneBy 57 = .ok (.iload 5, 2) := by decide +kernel
theorem dX10_toneBy_59 : decode cX10_toneBy 59 = .ok (.ifCond .ne 7, 3) := by decide +kernel
theorem dX10_toneBy_62 : decode cX10_toneBy 62 = .ok (.iconst 0, 1) := by decide +kernel
theorem dX10_toneBy_63 : decode cX10_toneBy 63 = .ok (.goto 12, 3) := by decide +kernel
theorem dX10_toneBy_66 : decode cX10_toneBy 66 = .ok (.sipush 1000, 3) := by decide +kernel
theorem dX10_toneBy_69 : decode cX10_toneBy 69 = .ok (.iload 4, 2) := by decide +kernel
theorem dX10_toneBy_71 : decode cX10_toneBy 71 = .ok (.imul, 1) := by decide +kernel
theorem dX10_toneBy_72 : decode cX10_toneBy 72 = .ok (.iload 5, 2) := by decide +kernel
theorem dX10_toneBy_74 : decode cX10_toneBy 74 = .ok (.idiv, 1) := by decide +kernel
theorem dX10_toneBy_75 : decode cX10_toneBy 75 = .ok (.ireturn, 1) := by decide +kernel
theorem dX10_toneNow_0 : decode cX10_toneNow 0 = .ok (.aload_n 0, 1) := by decide +kernel
theorem dX10_toneNow_1 : decode cX10_toneNow 1 = .ok (.aload_n 0, 1) := by decide +kernel
theorem dX10_toneNow_2 : decode cX10_toneNow 2 = .ok (.getfield 322, 3) := by decide +kernel
theorem dX10_toneNow_5 : decode cX10_toneNow 5 = .ok (.iload_n 1, 1) := by decide +kernel
theorem dX10_toneNow_6 : decode cX10_toneNow 6 = .ok (.iload_n 2, 1) := by decide +kernel
theorem dX10_toneNow_7 : decode cX10_toneNow 7 = .ok (.invokevirtual 325, 3) := by decide +kernel
theorem dX10_toneNow_10 : decode cX10_toneNow 10 = .ok (.ireturn, 1) := by decide +kernel
theorem dX10_isLaw_0 : decode cX10_isLaw 0 = .ok (.iload_n 1, 1) := by decide +kernel
theorem dX10_isLaw_1 : decode cX10_isLaw 1 = .ok (.ifCond .eq 8, 3) := by decide +kernel
theorem dX10_isLaw_4 : decode cX10_isLaw 4 = .ok (.iload_n 1, 1) := by decide +kernel
theorem dX10_isLaw_5 : decode cX10_isLaw 5 = .ok (.iconst 1, 1) := by decide +kernel
theorem dX10_isLaw_6 : decode cX10_isLaw 6 = .ok (.if_icmp .ne 7, 3) := by decide +kernel
theorem dX10_isLaw_9 : decode cX10_isLaw 9 = .ok (.iconst 1, 1) := by decide +kernel
theorem dX10_isLaw_10 : decode cX10_isLaw 10 = .ok (.goto 4, 3) := by decide +kernel
theorem dX10_isLaw_13 : decode cX10_isLaw 13 = .ok (.iconst 0, 1) := by decide +kernel
theorem dX10_isLaw_14 : decode cX10_isLaw 14 = .ok (.ireturn, 1) := by decide +kernel
theorem dX10_force_0 : decode cX10_force 0 = .ok (.aload_n 0, 1) := by decide +kernel
theorem dX10_force_1 : decode cX10_force 1 = .ok (.iconst 0, 1) := by decide +kernel
theorem dX10_force_2 : decode cX10_force 2 = .ok (.putfield 167, 3) := by decide +kernel
theorem dX10_force_5 : decode cX10_force 5 = .ok (.aload_n 0, 1) := by decide +kernel
theorem dX10_force_6 : decode cX10_force 6 = .ok (.iload_n 1, 1) := by decide +kernel
theorem dX10_force_7 : decode cX10_force 7 = .ok (.invokevirtual 328, 3) := by decide +kernel
theorem dX10_force_10 : decode cX10_force 10 = .ok (.ifCond .ne 5, 3) := by decide +kernel
theorem dX10_force_13 : decode cX10_force 13 = .ok (.iconst (-1), 1) := by decide +kernel
theorem dX10_force_14 : decode cX10_force 14 = .ok (.ireturn, 1) := by decide +kernel
theorem dX10_force_15 : decode cX10_force 15 = .ok (.aload_n 0, 1) := by decide +kernel
theorem dX10_force_16 : decode cX10_force 16 = .ok (.getfield 322, 3) := by decide +kernel
theorem dX10_force_19 : decode cX10_force 19 = .ok (.istore_n 2, 1) := by decide +kernel
theorem dX10_force_20 : decode cX10_force 20 = .ok (.aload_n 0, 1) := by decide +kernel
theorem dX10_force_21 : decode cX10_force 21 = .ok (.iload_n 1, 1) := by decide +kernel
theorem dX10_force_22 : decode cX10_force 22 = .ok (.putfield 322, 3) := by decide +kernel
theorem dX10_force_25 : decode cX10_force 25 = .ok (.iload_n 2, 1) := by decide +kernel
theorem dX10_force_26 : decode cX10_force 26 = .ok (.ireturn, 1) := by decide +kernel
theorem dX10_tells_0 : decode cX10_tells 0 = .ok (.aload_n 0, 1) := by decide +kernel
theorem dX10_tells_1 : decode cX10_tells 1 = .ok (.iconst 0, 1) := by decide +kernel
theorem dX10_tells_2 : decode cX10_tells 2 = .ok (.putfield 167, 3) := by decide +kernel
theorem dX10_tells_5 : decode cX10_tells 5 = .ok (.aload_n 0, 1) := by decide +kernel
theorem dX10_tells_6 : decode cX10_tells 6 = .ok (.iload_n 1, 1) := by decide +kernel
theorem dX10_tells_7 : decode cX10_tells 7 = .ok (.invokevirtual 328, 3) := by decide +kernel
theorem dX10_tells_10 : decode cX10_tells 10 = .ok (.ifCond .eq 32, 3) := by decide +kernel
theorem dX10_tells_13 : decode cX10_tells 13 = .ok (.aload_n 0, 1) := by decide +kernel
theorem dX10_tells_14 : decode cX10_tells 14 = .ok (.iload_n 2, 1) := by decide +kernel
theorem dX10_tells_15 : decode cX10_tells 15 = .ok (.iconst 0, 1) := by decide +kernel
theorem dX10_tells_16 : decode cX10_tells 16 = .ok (.iconst 2, 1) := by decide +kernel
theorem dX10_tells_17 : decode cX10_tells 17 = .ok (.invokevirtual 177, 3) := by decide +kernel
theorem dX10_tells_20 : decode cX10_tells 20 = .ok (.ifCond .eq 22, 3) := by decide +kernel
theorem dX10_tells_23 : decode cX10_tells 23 = .ok (.aload_n 0, 1) := by decide +kernel
theorem dX10_tells_24 : decode cX10_tells 24 = .ok (.iload_n 3, 1) := by decide +kernel
theorem dX10_tells_25 : decode cX10_tells 25 = .ok (.invokevirtual 331, 3) := by decide +kernel
theorem dX10_tells_28 : decode cX10_tells 28 = .ok (.ifCond .eq 14, 3) := by decide +kernel
theorem dX10_tells_31 : decode cX10_tells 31 = .ok (.aload_n 0, 1) := by decide +kernel
theorem dX10_tells_32 : decode cX10_tells 32 = .ok (.iload 4, 2) := by decide +kernel
theorem dX10_tells_34 : decode cX10_tells 34 = .ok (.iload 5, 2) := by decide +kernel
theorem dX10_tells_36 : decode cX10_tells 36 = .ok (.invokevirtual 181, 3) := by decide +kernel
theorem dX10_tells_39 : decode cX10_tells 39 = .ok (.ifCond .ne 7, 3) := by decide +kernel
theorem dX10_tells_42 : decode cX10_tells 42 = .ok (.ldc_w 334, 3) := by decide +kernel
theorem dX10_tells_45 : decode cX10_tells 45 = .ok (.ireturn, 1) := by decide +kernel
theorem dX10_tells_46 : decode cX10_tells 46 = .ok (.aload_n 0, 1) := by decide +kernel
theorem dX10_tells_47 : decode cX10_tells 47 = .ok (.iload 4, 2) := by decide +kernel
theorem dX10_tells_49 : decode cX10_tells 49 = .ok (.iload 5, 2) := by decide +kernel
theorem dX10_tells_51 : decode cX10_tells 51 = .ok (.invokevirtual 316, 3) := by decide +kernel
theorem dX10_tells_54 : decode cX10_tells 54 = .ok (.aload_n 0, 1) := by decide +kernel
theorem dX10_tells_55 : decode cX10_tells 55 = .ok (.iload_n 1, 1) := by decide +kernel
theorem dX10_tells_56 : decode cX10_tells 56 = .ok (.iload_n 2, 1) := by decide +kernel
theorem dX10_tells_57 : decode cX10_tells 57 = .ok (.iload_n 3, 1) := by decide +kernel
theorem dX10_tells_58 : decode cX10_tells 58 = .ok (.invokevirtual 319, 3) := by decide +kernel
theorem dX10_tells_61 : decode cX10_tells 61 = .ok (.ireturn, 1) := by decide +kernel
theorem dX10_tone_0 : decode cX10_tone 0 = .ok (.aload_n 0, 1) := by decide +kernel
theorem dX10_tone_1 : decode cX10_tone 1 = .ok (.iconst 0, 1) := by decide +kernel
theorem dX10_tone_2 : decode cX10_tone 2 = .ok (.putfield 167, 3) := by decide +kernel
theorem dX10_tone_5 : decode cX10_tone 5 = .ok (.aload_n 0, 1) := by decide +kernel
theorem dX10_tone_6 : decode cX10_tone 6 = .ok (.iload_n 1, 1) := by decide +kernel
theorem dX10_tone_7 : decode cX10_tone 7 = .ok (.invokevirtual 173, 3) := by decide +kernel
theorem dX10_tone_10 : decode cX10_tone 10 = .ok (.ifCond .eq 20, 3) := by decide +kernel
theorem dX10_tone_13 : decode cX10_tone 13 = .ok (.aload_n 0, 1) := by decide +kernel
theorem dX10_tone_14 : decode cX10_tone 14 = .ok (.iload_n 2, 1) := by decide +kernel
theorem dX10_tone_15 : decode cX10_tone 15 = .ok (.invokevirtual 331, 3) := by decide +kernel
theorem dX10_tone_18 : decode cX10_tone 18 = .ok (.ifCond .eq 12, 3) := by decide +kernel
theorem dX10_tone_21 : decode cX10_tone 21 = .ok (.aload_n 0, 1) := by decide +kernel
theorem dX10_tone_22 : decode cX10_tone 22 = .ok (.iload_n 1, 1) := by decide +kernel
theorem dX10_tone_23 : decode cX10_tone 23 = .ok (.iload_n 2, 1) := by decide +kernel
theorem dX10_tone_24 : decode cX10_tone 24 = .ok (.invokevirtual 335, 3) := by decide +kernel
theorem dX10_tone_27 : decode cX10_tone 27 = .ok (.goto 4, 3) := by decide +kernel
theorem dX10_tone_30 : decode cX10_tone 30 = .ok (.iconst (-1), 1) := by decide +kernel
theorem dX10_tone_31 : decode cX10_tone 31 = .ok (.ireturn, 1) := by decide +kernel
theorem dX10_isLost_0 : decode cX10_isLost 0 = .ok (.iconst 0, 1) := by decide +kernel
theorem dX10_isLost_1 : decode cX10_isLost 1 = .ok (.istore_n 2, 1) := by decide +kernel
theorem dX10_isLost_2 : decode cX10_isLost 2 = .ok (.iload_n 2, 1) := by decide +kernel
theorem dX10_isLost_3 : decode cX10_isLost 3 = .ok (.iconst 3, 1) := by decide +kernel
theorem dX10_isLost_4 : decode cX10_isLost 4 = .ok (.if_icmp .ge 48, 3) := by decide +kernel
theorem dX10_isLost_7 : decode cX10_isLost 7 = .ok (.aload_n 0, 1) := by decide +kernel
theorem dX10_isLost_8 : decode cX10_isLost 8 = .ok (.getfield 29, 3) := by decide +kernel
theorem dX10_isLost_11 : decode cX10_isLost 11 = .ok (.iconst 3, 1) := by decide +kernel
theorem dX10_isLost_12 : decode cX10_isLost 12 = .ok (.iload_n 1, 1) := by decide +kernel
theorem dX10_isLost_13 : decode cX10_isLost 13 = .ok (.imul, 1) := by decide +kernel
theorem dX10_isLost_14 : decode cX10_isLost 14 = .ok (.iload_n 2, 1) := by decide +kernel
theorem dX10_isLost_15 : decode cX10_isLost 15 = .ok (.iadd, 1) := by decide +kernel
theorem dX10_isLost_16 : decode cX10_isLost 16 = .ok (.iaload, 1) := by decide +kernel
theorem dX10_isLost_17 : decode cX10_isLost 17 = .ok (.ifCond .le 29, 3) := by decide +kernel
theorem dX10_isLost_20 : decode cX10_isLost 20 = .ok (.aload_n 0, 1) := by decide +kernel
theorem dX10_isLost_21 : decode cX10_isLost 21 = .ok (.iload_n 1, 1) := by decide +kernel
theorem dX10_isLost_22 : decode cX10_isLost 22 = .ok (.iload_n 2, 1) := by decide +kernel
theorem dX10_isLost_23 : decode cX10_isLost 23 = .ok (.invokevirtual 335, 3) := by decide +kernel
theorem dX10_isLost_26 : decode cX10_isLost 26 = .ok (.aload_n 0, 1) := by decide +kernel
theorem dX10_isLost_27 : decode cX10_isLost 27 = .ok (.getfield 29, 3) := by decide +kernel
theorem dX10_isLost_30 : decode cX10_isLost 30 = .ok (.iconst 3, 1) := by decide +kernel
theorem dX10_isLost_31 : decode cX10_isLost 31 = .ok (.iload_n 1, 1) := by decide +kernel
theorem dX10_isLost_32 : decode cX10_isLost 32 = .ok (.imul, 1) := by decide +kernel
theorem dX10_isLost_33 : decode cX10_isLost 33 = .ok (.iload_n 2, 1) := by decide +kernel
theorem dX10_isLost_34 : decode cX10_isLost 34 = .ok (.iadd, 1) := by decide +kernel
theorem dX10_isLost_35 : decode cX10_isLost 35 = .ok (.iaload, 1) := by decide +kernel
theorem dX10_isLost_36 : decode cX10_isLost 36 = .ok (.aload_n 0, 1) := by decide +kernel
theorem dX10_isLost_37 : decode cX10_isLost 37 = .ok (.getfield 7, 3) := by decide +kernel
theorem dX10_isLost_40 : decode cX10_isLost 40 = .ok (.isub, 1) := by decide +kernel
theorem dX10_isLost_41 : decode cX10_isLost 41 = .ok (.if_icmp .ge 5, 3) := by decide +kernel
theorem dX10_isLost_44 : decode cX10_isLost 44 = .ok (.iconst 1, 1) := by decide +kernel
theorem dX10_isLost_45 : decode cX10_isLost 45 = .ok (.ireturn, 1) := by decide +kernel
theorem dX10_isLost_46 : decode cX10_isLost 46 = .ok (.iinc 2 1, 3) := by decide +kernel
theorem dX10_isLost_49 : decode cX10_isLost 49 = .ok (.goto (-47), 3) := by decide +kernel
theorem dX10_isLost_52 : decode cX10_isLost 52 = .ok (.iconst 0, 1) := by decide +kernel
theorem dX10_isLost_53 : decode cX10_isLost 53 = .ok (.ireturn, 1) := by decide +kernel
theorem dX10_isTrue_0 : decode cX10_isTrue 0 = .ok (.iconst 0, 1) := by decide +kernel
theorem dX10_isTrue_1 : decode cX10_isTrue 1 = .ok (.istore_n 2, 1) := by decide +kernel
theorem dX10_isTrue_2 : decode cX10_isTrue 2 = .ok (.iload_n 2, 1) := by decide +kernel
theorem dX10_isTrue_3 : decode cX10_isTrue 3 = .ok (.iconst 3, 1) := by decide +kernel
theorem dX10_isTrue_4 : decode cX10_isTrue 4 = .ok (.if_icmp .ge 52, 3) := by decide +kernel
theorem dX10_isTrue_7 : decode cX10_isTrue 7 = .ok (.aload_n 0, 1) := by decide +kernel
theorem dX10_isTrue_8 : decode cX10_isTrue 8 = .ok (.getfield 29, 3) := by decide +kernel
theorem dX10_isTrue_11 : decode cX10_isTrue 11 = .ok (.iconst 3, 1) := by decide +kernel
theorem dX10_isTrue_12 : decode cX10_isTrue 12 = .ok (.iload_n 1, 1) := by decide +kernel
theorem dX10_isTrue_13 : decode cX10_isTrue 13 = .ok (.imul, 1) := by decide +kernel
theorem dX10_isTrue_14 : decode cX10_isTrue 14 = .ok (.iload_n 2, 1) := by decide +kernel
theorem dX10_isTrue_15 : decode cX10_isTrue 15 = .ok (.iadd, 1) := by decide +kernel
theorem dX10_isTrue_16 : decode cX10_isTrue 16 = .ok (.iaload, 1) := by decide +kernel
theorem dX10_isTrue_17 : decode cX10_isTrue 17 = .ok (.ifCond .le 33, 3) := by decide +kernel
theorem dX10_isTrue_20 : decode cX10_isTrue 20 = .ok (.aload_n 0, 1) := by decide +kernel
theorem dX10_isTrue_21 : decode cX10_isTrue 21 = .ok (.aload_n 0, 1) := by decide +kernel
theorem dX10_isTrue_22 : decode cX10_isTrue 22 = .ok (.iload_n 1, 1) := by decide +kernel
theorem dX10_isTrue_23 : decode cX10_isTrue 23 = .ok (.iload_n 2, 1) := by decide +kernel
theorem dX10_isTrue_24 : decode cX10_isTrue 24 = .ok (.invokevirtual 335, 3) := by decide +kernel
theorem dX10_isTrue_27 : decode cX10_isTrue 27 = .ok (.aload_n 0, 1) := by decide +kernel
theorem dX10_isTrue_28 : decode cX10_isTrue 28 = .ok (.getfield 29, 3) := by decide +kernel
theorem dX10_isTrue_31 : decode cX10_isTrue 31 = .ok (.iconst 3, 1) := by decide +kernel
theorem dX10_isTrue_32 : decode cX10_isTrue 32 = .ok (.iload_n 1, 1) := by decide +kernel
theorem dX10_isTrue_33 : decode cX10_isTrue 33 = .ok (.imul, 1) := by decide +kernel
theorem dX10_isTrue_34 : decode cX10_isTrue 34 = .ok (.iload_n 2, 1) := by decide +kernel
theorem dX10_isTrue_35 : decode cX10_isTrue 35 = .ok (.iadd, 1) := by decide +kernel
theorem dX10_isTrue_36 : decode cX10_isTrue 36 = .ok (.iaload, 1) := by decide +kernel
theorem dX10_isTrue_37 : decode cX10_isTrue 37 = .ok (.isub, 1) := by decide +kernel
theorem dX10_isTrue_38 : decode cX10_isTrue 38 = .ok (.invokevirtual 309, 3) := by decide +kernel
theorem dX10_isTrue_41 : decode cX10_isTrue 41 = .ok (.aload_n 0, 1) := by decide +kernel
theorem dX10_isTrue_42 : decode cX10_isTrue 42 = .ok (.getfield 7, 3) := by decide +kernel
theorem dX10_isTrue_45 : decode cX10_isTrue 45 = .ok (.if_icmp .le 5, 3) := by decide +kernel
theorem dX10_isTrue_48 : decode cX10_isTrue 48 = .ok (.iconst 0, 1) := by decide +kernel
theorem dX10_isTrue_49 : decode cX10_isTrue 49 = .ok (.ireturn, 1) := by decide +kernel
theorem dX10_isTrue_50 : decode cX10_isTrue 50 = .ok (.iinc 2 1, 3) := by decide +kernel
theorem dX10_isTrue_53 : decode cX10_isTrue 53 = .ok (.goto (-51), 3) := by decide +kernel
theorem dX10_isTrue_56 : decode cX10_isTrue 56 = .ok (.iconst 1, 1) := by decide +kernel
theorem dX10_isTrue_57 : decode cX10_isTrue 57 = .ok (.ireturn, 1) := by decide +kernel
theorem dX10_canPass_0 : decode cX10_canPass 0 = .ok (.aload_n 0, 1) := by decide +kernel
theorem dX10_canPass_1 : decode cX10_canPass 1 = .ok (.iload_n 1, 1) := by decide +kernel
theorem dX10_canPass_2 : decode cX10_canPass 2 = .ok (.iload_n 2, 1) := by decide +kernel
theorem dX10_canPass_3 : decode cX10_canPass 3 = .ok (.invokevirtual 181, 3) := by decide +kernel
theorem dX10_canPass_6 : decode cX10_canPass 6 = .ok (.ifCond .eq 34, 3) := by decide +kernel
theorem dX10_canPass_9 : decode cX10_canPass 9 = .ok (.aload_n 0, 1) := by decide +kernel
theorem dX10_canPass_10 : decode cX10_canPass 10 = .ok (.getfield 17, 3) := by decide +kernel
theorem dX10_canPass_13 : decode cX10_canPass 13 = .ok (.bipush 16, 2) := by decide +kernel
theorem dX10_canPass_15 : decode cX10_canPass 15 = .ok (.iload_n 1, 1) := by decide +kernel
theorem dX10_canPass_16 : decode cX10_canPass 16 = .ok (.imul, 1) := by decide +kernel
theorem dX10_canPass_17 : decode cX10_canPass 17 = .ok (.iload_n 2, 1) := by decide +kernel
theorem dX10_canPass_18 : decode cX10_canPass 18 = .ok (.iadd, 1) := by decide +kernel
theorem dX10_canPass_19 : decode cX10_canPass 19 = .ok (.iaload, 1) := by decide +kernel
theorem dX10_canPass_20 : decode cX10_canPass 20 = .ok (.iload_n 3, 1) := by decide +kernel
theorem dX10_canPass_21 : decode cX10_canPass 21 = .ok (.if_icmp .le 19, 3) := by decide +kernel
theorem dX10_canPass_24 : decode cX10_canPass 24 = .ok (.aload_n 0, 1) := by decide +kernel
theorem dX10_canPass_25 : decode cX10_canPass 25 = .ok (.getfield 32, 3) := by decide +kernel
theorem dX10_canPass_28 : decode cX10_canPass 28 = .ok (.iload_n 1, 1) := by decide +kernel
theorem dX10_canPass_29 : decode cX10_canPass 29 = .ok (.iaload, 1) := by decide +kernel
theorem dX10_canPass_30 : decode cX10_canPass 30 = .ok (.sipush 200, 3) := by decide +kernel
theorem dX10_canPass_33 : decode cX10_canPass 33 = .ok (.if_icmp .ge 7, 3) := by decide +kernel
theorem dX10_canPass_36 : decode cX10_canPass 36 = .ok (.iconst 1, 1) := by decide +kernel
theorem dX10_canPass_37 : decode cX10_canPass 37 = .ok (.goto 4, 3) := by decide +kernel
