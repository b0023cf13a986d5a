theorem dq_g341 : decode cX10_text 308 = .ok (.iadd, 1) ∧ decode cX10_text 309 = .ok (.aload_n 0, 1) ∧ decode cX10_text 310 = .ok (.getfield 80, 3) ∧ decode cX10_text 313 = .ok (.bipush 96, 2) ∧ decode cX10_text 315 = .ok (.iload 6, 2) ∧ decode cX10_text 317 = .ok (.iadd, 1) ∧ decode cX10_text 318 = .ok (.iaload, 1) ∧ decode cX10_text 319 = .ok (.iastore, 1) ∧ decode cX10_text 320 = .ok (.iinc 6 1, 3) ∧ decode cX10_text 323 = .ok (.goto (-171), 3) ∧ decode cX10_text 326 = .ok (.iconst 0, 1) ∧ decode cX10_text 327 = .ok (.istore 6, 2) ∧ decode cX10_text 329 = .ok (.iload 6, 2) ∧ decode cX10_text 331 = .ok (.aload_n 0, 1) ∧ decode cX10_text 332 = .ok (.getfield 228, 3) ∧ decode cX10_text 335 = .ok (.if_icmp .ge 59, 3) ∧ decode cX10_text 338 = .ok (.aload_n 0, 1) ∧ decode cX10_text 339 = .ok (.getfield 83, 3) ∧ decode cX10_text 342 = .ok (.sipush 500, 3) ∧ decode cX10_text 345 = .ok (.iload 5, 2) ∧ decode cX10_text 347 = .ok (.imul, 1) ∧ decode cX10_text 348 = .ok (.iload 6, 2) ∧ decode cX10_text 350 = .ok (.iadd, 1) ∧ decode cX10_text 351 = .ok (.aload_n 0, 1) ∧ decode cX10_text 352 = .ok (.getfield 83, 3) ∧ decode cX10_text 355 = .ok (.sipush 3000, 3) ∧ decode cX10_text 358 = .ok (.iload 6, 2) ∧ decode cX10_text 360 = .ok (.iadd, 1) ∧ decode cX10_text 361 = .ok (.iaload, 1) ∧ decode cX10_text 362 = .ok (.iastore, 1) ∧ True := dqC_ok (c := cX10_text) [(308, 1, some (.iadd)), (309, 1, some (.aload_n 0)), (310, 3, some (.getfield 80)), (313, 2, some (.bipush 96)), (315, 2, some (.iload 6)), (317, 1, some (.iadd)), (318, 1, some (.iaload)), (319, 1, some (.iastore)), (320, 3, some (.iinc 6 1)), (323, 3, some (.goto (-171))), (326, 1, some (.iconst 0)), (327, 2, some (.istore 6)), (329, 2, some (.iload 6)), (331, 1, some (.aload_n 0)), (332, 3, some (.getfield 228)), (335, 3, some (.if_icmp .ge 59)), (338, 1, some (.aload_n 0)), (339, 3, some (.getfield 83)), (342, 3, some (.sipush 500)), (345, 2, some (.iload 5)), (347, 1, some (.imul)), (348, 2, some (.iload 6)), (350, 1, some (.iadd)), (351, 1, some (.aload_n 0)), (352, 3, some (.getfield 83)), (355, 3, some (.sipush 3000)), (358, 2, some (.iload 6)), (360, 1, some (.iadd)), (361, 1, some (.iaload)), (362, 1, some (.iastore))] _ 308 rfl (by decide +kernel)
theorem dX10_text_308 : decode cX10_text 308 = .ok (.iadd, 1) := dq_g341.1
theorem dX10_text_309 : decode cX10_text 309 = .ok (.aload_n 0, 1) := dq_g341.2.1
theorem dX10_text_310 : decode cX10_text 310 = .ok (.getfield 80, 3) := dq_g341.2.2.1
theorem dX10_text_313 : decode cX10_text 313 = .ok (.bipush 96, 2) := dq_g341.2.2.2.1
theorem dX10_text_315 : decode cX10_text 315 = .ok (.iload 6, 2) := dq_g341.2.2.2.2.1
theorem dX10_text_317 : decode cX10_text 317 = .ok (.iadd, 1) := dq_g341.2.2.2.2.2.1
theorem dX10_text_318 : decode cX10_text 318 = .ok (.iaload, 1) := dq_g341.2.2.2.2.2.2.1
theorem dX10_text_319 : decode cX10_text 319 = .ok (.iastore, 1) := dq_g341.2.2.2.2.2.2.2.1
theorem dX10_text_320 : decode cX10_text 320 = .ok (.iinc 6 1, 3) := dq_g341.2.2.2.2.2.2.2.2.1
theorem dX10_text_323 : decode cX10_text 323 = .ok (.goto (-171), 3) := dq_g341.2.2.2.2.2.2.2.2.2.1
theorem dX10_text_326 : decode cX10_text 326 = .ok (.iconst 0, 1) := dq_g341.2.2.2.2.2.2.2.2.2.2.1
theorem dX10_text_327 : decode cX10_text 327 = .ok (.istore 6, 2) := dq_g341.2.2.2.2.2.2.2.2.2.2.2.1
theorem dX10_text_329 : decode cX10_text 329 = .ok (.iload 6, 2) := dq_g341.2.2.2.2.2.2.2.2.2.2.2.2.1
theorem dX10_text_331 : decode cX10_text 331 = .ok (.aload_n 0, 1) := dq_g341.2.2.2.2.2.2.2.2.2.2.2.2.2.1
theorem dX10_text_332 : decode cX10_text 332 = .ok (.getfield 228, 3) := dq_g341.2.2.2.2.2.2.2.2.2.2.2.2.2.2.1
theorem dX10_text_335 : decode cX10_text 335 = .ok (.if_icmp .ge 59, 3) := dq_g341.2.2.2.2.2.2.2.2.2.2.2.2.2.2.2.1
theorem dX10_text_338 : decode cX10_text 338 = .ok (.aload_n 0, 1) := dq_g341.2.2.2.2.2.2.2.2.2.2.2.2.2.2.2.2.1
theorem dX10_text_339 : decode cX10_text 339 = .ok (.getfield 83, 3) := dq_g341.2.2.2.2.2.2.2.2.2.2.2.2.2.2.2.2.2.1
theorem dX10_text_342 : decode cX10_text 342 = .ok (.sipush 500, 3) := dq_g341.2.2.2.2.2.2.2.2.2.2.2.2.2.2.2.2.2.2.1
theorem dX10_text_345 : decode cX10_text 345 = .ok (.iload 5, 2) := dq_g341.2.2.2.2.2.2.2.2.2.2.2.2.2.2.2.2.2.2.2.1
theorem dX10_text_347 : decode cX10_text 347 = .ok (.imul, 1) := dq_g341.2.2.2.2.2.2.2.2.2.2.2.2.2.2.2.2.2.2.2.2.1
theorem dX10_text_348 : decode cX10_text 348 = .ok (.iload 6, 2) := dq_g341.2.2.2.2.2.2.2.2.2.2.2.2.2.2.2.2.2.2.2.2.2.1
theorem dX10_text_350 : decode cX10_text 350 = .ok (.iadd, 1) := dq_g341.2.2.2.2.2.2.2.2.2.2.2.2.2.2.2.2.2.2.2.2.2.2.1
theorem dX10_text_351 : decode cX10_text 351 = .ok (.aload_n 0, 1) := dq_g341.2.2.2.2.2.2.2.2.2.2.2.2.2.2.2.2.2.2.2.2.2.2.2.1
theorem dX10_text_352 : decode cX10_text 352 = .ok (.getfield 83, 3) := dq_g341.2.2.2.2.2.2.2.2.2.2.2.2.2.2.2.2.2.2.2.2.2.2.2.2.1
theorem dX10_text_355 : decode cX10_text 355 = .ok (.sipush 3000, 3) := dq_g341.2.2.2.2.2.2.2.2.2.2.2.2.2.2.2.2.2.2.2.2.2.2.2.2.2.1
theorem dX10_text_358 : decode cX10_text 358 = .ok (.iload 6, 2) := dq_g341.2.2.2.2.2.2.2.2.2.2.2.2.2.2.2.2.2.2.2.2.2.2.2.2.2.2.1
theorem dX10_text_360 : decode cX10_text 360 = .ok (.iadd, 1) := dq_g341.2.2.2.2.2.2.2.2.2.2.2.2.2.2.2.2.2.2.2.2.2.2.2.2.2.2.2.1
theorem dX10_text_361 : decode cX10_text 361 = .ok (.iaload, 1) := dq_g341.2.2.2.2.2.2.2.2.2.2.2.2.2.2.2.2.2.2.2.2.2.2.2.2.2.2.2.2.1
theorem dX10_text_362 : decode cX10_text 362 = .ok (.iastore, 1) := dq_g341.2.2.2.2.2.2.2.2.2.2.2.2.2.2.2.2.2.2.2.2.2.2.2.2.2.2.2.2.2.1
theorem dq_g342 : decode cX10_text 363 = .ok (.aload_n 0, 1) ∧ decode cX10_text 364 = .ok (.getfield 86, 3) ∧ decode cX10_text 367 = .ok (.sipush 500, 3) ∧ decode cX10_text 370 = .ok (.iload 5, 2) ∧ decode cX10_text 372 = .ok (.imul, 1) ∧ decode cX10_text 373 = .ok (.iload 6, 2) ∧ decode cX10_text 375 = .ok (.iadd, 1) ∧ decode cX10_text 376 = .ok (.aload_n 0, 1) ∧ decode cX10_text 377 = .ok (.getfield 86, 3) ∧ decode cX10_text 380 = .ok (.sipush 3000, 3) ∧ decode cX10_text 383 = .ok (.iload 6, 2) ∧ decode cX10_text 385 = .ok (.iadd, 1) ∧ decode cX10_text 386 = .ok (.iaload, 1) ∧ decode cX10_text 387 = .ok (.iastore, 1) ∧ decode cX10_text 388 = .ok (.iinc 6 1, 3) ∧ decode cX10_text 391 = .ok (.goto (-62), 3) ∧ decode cX10_text 394 = .ok (.aload_n 0, 1) ∧ decode cX10_text 395 = .ok (.getfield 59, 3) ∧ decode cX10_text 398 = .ok (.iload 5, 2) ∧ decode cX10_text 400 = .ok (.iload 4, 2) ∧ decode cX10_text 402 = .ok (.iastore, 1) ∧ decode cX10_text 403 = .ok (.iload 4, 2) ∧ decode cX10_text 405 = .ok (.ireturn, 1) ∧ True := dqC_ok (c := cX10_text) [(363, 1, some (.aload_n 0)), (364, 3, some (.getfield 86)), (367, 3, some (.sipush 500)), (370, 2, some (.iload 5)), (372, 1, some (.imul)), (373, 2, some (.iload 6)), (375, 1, some (.iadd)), (376, 1, some (.aload_n 0)), (377, 3, some (.getfield 86)), (380, 3, some (.sipush 3000)), (383, 2, some (.iload 6)), (385, 1, some (.iadd)), (386, 1, some (.iaload)), (387, 1, some (.iastore)), (388, 3, some (.iinc 6 1)), (391, 3, some (.goto (-62))), (394, 1, some (.aload_n 0)), (395, 3, some (.getfield 59)), (398, 2, some (.iload 5)), (400, 2, some (.iload 4)), (402, 1, some (.iastore)), (403, 2, some (.iload 4)), (405, 1, some (.ireturn))] _ 363 rfl (by decide +kernel)
theorem dX10_text_363 : decode cX10_text 363 = .ok (.aload_n 0, 1) := dq_g342.1
theorem dX10_text_364 : decode cX10_text 364 = .ok (.getfield 86, 3) := dq_g342.2.1
theorem dX10_text_367 : decode cX10_text 367 = .ok (.sipush 500, 3) := dq_g342.2.2.1
theorem dX10_text_370 : decode cX10_text 370 = .ok (.iload 5, 2) := dq_g342.2.2.2.1
theorem dX10_text_372 : decode cX10_text 372 = .ok (.imul, 1) := dq_g342.2.2.2.2.1
theorem dX10_text_373 : decode cX10_text 373 = .ok (.iload 6, 2) := dq_g342.2.2.2.2.2.1
theorem dX10_text_375 : decode cX10_text 375 = .ok (.iadd, 1) := dq_g342.2.2.2.2.2.2.1
theorem dX10_text_376 : decode cX10_text 376 = .ok (.aload_n 0, 1) := dq_g342.2.2.2.2.2.2.2.1
theorem dX10_text_377 : decode cX10_text 377 = .ok (.getfield 86, 3) := dq_g342.2.2.2.2.2.2.2.2.1
theorem dX10_text_380 : decode cX10_text 380 = .ok (.sipush 3000, 3) := dq_g342.2.2.2.2.2.2.2.2.2.1
theorem dX10_text_383 : decode cX10_text 383 = .ok (.iload 6, 2) := dq_g342.2.2.2.2.2.2.2.2.2.2.1
theorem dX10_text_385 : decode cX10_text 385 = .ok (.iadd, 1) := dq_g342.2.2.2.2.2.2.2.2.2.2.2.1
theorem dX10_text_386 : decode cX10_text 386 = .ok (.iaload, 1) := dq_g342.2.2.2.2.2.2.2.2.2.2.2.2.1
theorem dX10_text_387 : decode cX10_text 387 = .ok (.iastore, 1) := dq_g342.2.2.2.2.2.2.2.2.2.2.2.2.2.1
theorem dX10_text_388 : decode cX10_text 388 = .ok (.iinc 6 1, 3) := dq_g342.2.2.2.2.2.2.2.2.2.2.2.2.2.2.1
theorem dX10_text_391 : decode cX10_text 391 = .ok (.goto (-62), 3) := dq_g342.2.2.2.2.2.2.2.2.2.2.2.2.2.2.2.1
theorem dX10_text_394 : decode cX10_text 394 = .ok (.aload_n 0, 1) := dq_g342.2.2.2.2.2.2.2.2.2.2.2.2.2.2.2.2.1
theorem dX10_text_395 : decode cX10_text 395 = .ok (.getfield 59, 3) := dq_g342.2.2.2.2.2.2.2.2.2.2.2.2.2.2.2.2.2.1
theorem dX10_text_398 : decode cX10_text 398 = .ok (.iload 5, 2) := dq_g342.2.2.2.2.2.2.2.2.2.2.2.2.2.2.2.2.2.2.1
theorem dX10_text_400 : decode cX10_text 400 = .ok (.iload 4, 2) := dq_g342.2.2.2.2.2.2.2.2.2.2.2.2.2.2.2.2.2.2.2.1
theorem dX10_text_402 : decode cX10_text 402 = .ok (.iastore, 1) := dq_g342.2.2.2.2.2.2.2.2.2.2.2.2.2.2.2.2.2.2.2.2.1
theorem dX10_text_403 : decode cX10_text 403 = .ok (.iload 4, 2) := dq_g342.2.2.2.2.2.2.2.2.2.2.2.2.2.2.2.2.2.2.2.2.2.1
theorem dX10_text_405 : decode cX10_text 405 = .ok (.ireturn, 1) := dq_g342.2.2.2.2.2.2.2.2.2.2.2.2.2.2.2.2.2.2.2.2.2.2.1
theorem dq_g343 : decode cX10_fault 0 = .ok (.aload_n 0, 1) ∧ decode cX10_fault 1 = .ok (.iconst 0, 1) ∧ decode cX10_fault 2 = .ok (.putfield 167, 3) ∧ decode cX10_fault 5 = .ok (.iload_n 1, 1) ∧ decode cX10_fault 6 = .ok (.ifCond .ne 10, 3) ∧ decode cX10_fault 9 = .ok (.aload_n 0, 1) ∧ decode cX10_fault 10 = .ok (.getfield 292, 3) ∧ decode cX10_fault 13 = .ok (.goto 16, 3) ∧ decode cX10_fault 16 = .ok (.iload_n 1, 1) ∧ decode cX10_fault 17 = .ok (.iconst 1, 1) ∧ decode cX10_fault 18 = .ok (.if_icmp .ne 10, 3) ∧ decode cX10_fault 21 = .ok (.aload_n 0, 1) ∧ decode cX10_fault 22 = .ok (.getfield 92, 3) ∧ decode cX10_fault 25 = .ok (.goto 4, 3) ∧ decode cX10_fault 28 = .ok (.iconst (-1), 1) ∧ decode cX10_fault 29 = .ok (.ireturn, 1) ∧ True := dqC_ok (c := cX10_fault) [(0, 1, some (.aload_n 0)), (1, 1, some (.iconst 0)), (2, 3, some (.putfield 167)), (5, 1, some (.iload_n 1)), (6, 3, some (.ifCond .ne 10)), (9, 1, some (.aload_n 0)), (10, 3, some (.getfield 292)), (13, 3, some (.goto 16)), (16, 1, some (.iload_n 1)), (17, 1, some (.iconst 1)), (18, 3, some (.if_icmp .ne 10)), (21, 1, some (.aload_n 0)), (22, 3, some (.getfield 92)), (25, 3, some (.goto 4)), (28, 1, some (.iconst (-1))), (29, 1, some (.ireturn))] _ 0 rfl (by decide +kernel)
theorem dX10_fault_0 : decode cX10_fault 0 = .ok (.aload_n 0, 1) := dq_g343.1
theorem dX10_fault_1 : decode cX10_fault 1 = .ok (.iconst 0, 1) := dq_g343.2.1
theorem dX10_fault_2 : decode cX10_fault 2 = .ok (.putfield 167, 3) := dq_g343.2.2.1
theorem dX10_fault_5 : decode cX10_fault 5 = .ok (.iload_n 1, 1) := dq_g343.2.2.2.1
theorem dX10_fault_6 : decode cX10_fault 6 = .ok (.ifCond .ne 10, 3) := dq_g343.2.2.2.2.1
theorem dX10_fault_9 : decode cX10_fault 9 = .ok (.aload_n 0, 1) := dq_g343.2.2.2.2.2.1
theorem dX10_fault_10 : decode cX10_fault 10 = .ok (.getfield 292, 3) := dq_g343.2.2.2.2.2.2.1
theorem dX10_fault_13 : decode cX10_fault 13 = .ok (.goto 16, 3) := dq_g343.2.2.2.2.2.2.2.1
theorem dX10_fault_16 : decode cX10_fault 16 = .ok (.iload_n 1, 1) := dq_g343.2.2.2.2.2.2.2.2.1
theorem dX10_fault_17 : decode cX10_fault 17 = .ok (.iconst 1, 1) := dq_g343.2.2.2.2.2.2.2.2.2.1
theorem dX10_fault_18 : decode cX10_fault 18 = .ok (.if_icmp .ne 10, 3) := dq_g343.2.2.2.2.2.2.2.2.2.2.1
theorem dX10_fault_21 : decode cX10_fault 21 = .ok (.aload_n 0, 1) := dq_g343.2.2.2.2.2.2.2.2.2.2.2.1
theorem dX10_fault_22 : decode cX10_fault 22 = .ok (.getfield 92, 3) := dq_g343.2.2.2.2.2.2.2.2.2.2.2.2.1
theorem dX10_fault_25 : decode cX10_fault 25 = .ok (.goto 4, 3) := dq_g343.2.2.2.2.2.2.2.2.2.2.2.2.2.1
theorem dX10_fault_28 : decode cX10_fault 28 = .ok (.iconst (-1), 1) := dq_g343.2.2.2.2.2.2.2.2.2.2.2.2.2.2.1
theorem dX10_fault_29 : decode cX10_fault 29 = .ok (.ireturn, 1) := dq_g343.2.2.2.2.2.2.2.2.2.2.2.2.2.2.2.1
theorem dq_g344 : decode cX10_twoOf 0 = .ok (.iload_n 1, 1) ∧ decode cX10_twoOf 1 = .ok (.iconst 2, 1) ∧ decode cX10_twoOf 2 = .ok (.if_icmp .ne 7, 3) ∧ decode cX10_twoOf 5 = .ok (.iload_n 2, 1) ∧ decode cX10_twoOf 6 = .ok (.iload_n 3, 1) ∧ decode cX10_twoOf 7 = .ok (.iadd, 1) ∧ decode cX10_twoOf 8 = .ok (.ireturn, 1) ∧ decode cX10_twoOf 9 = .ok (.iload_n 1, 1) ∧ decode cX10_twoOf 10 = .ok (.iconst 3, 1) ∧ decode cX10_twoOf 11 = .ok (.if_icmp .ne 7, 3) ∧ decode cX10_twoOf 14 = .ok (.iload_n 2, 1) ∧ decode cX10_twoOf 15 = .ok (.iload_n 3, 1) ∧ decode cX10_twoOf 16 = .ok (.isub, 1) ∧ decode cX10_twoOf 17 = .ok (.ireturn, 1) ∧ decode cX10_twoOf 18 = .ok (.iload_n 1, 1) ∧ decode cX10_twoOf 19 = .ok (.iconst 4, 1) ∧ decode cX10_twoOf 20 = .ok (.if_icmp .ne 7, 3) ∧ decode cX10_twoOf 23 = .ok (.iload_n 2, 1) ∧ decode cX10_twoOf 24 = .ok (.iload_n 3, 1) ∧ decode cX10_twoOf 25 = .ok (.imul, 1) ∧ decode cX10_twoOf 26 = .ok (.ireturn, 1) ∧ decode cX10_twoOf 27 = .ok (.iload_n 1, 1) ∧ decode cX10_twoOf 28 = .ok (.iconst 5, 1) ∧ decode cX10_twoOf 29 = .ok (.if_icmp .ne 7, 3) ∧ decode cX10_twoOf 32 = .ok (.iload_n 2, 1) ∧ decode cX10_twoOf 33 = .ok (.iload_n 3, 1) ∧ decode cX10_twoOf 34 = .ok (.idiv, 1) ∧ decode cX10_twoOf 35 = .ok (.ireturn, 1) ∧ decode cX10_twoOf 36 = .ok (.iload_n 1, 1) ∧ decode cX10_twoOf 37 = .ok (.bipush 6, 2) ∧ True := dqC_ok (c := cX10_twoOf) [(0, 1, some (.iload_n 1)), (1, 1, some (.iconst 2)), (2, 3, some (.if_icmp .ne 7)), (5, 1, some (.iload_n 2)), (6, 1, some (.iload_n 3)), (7, 1, some (.iadd)), (8, 1, some (.ireturn)), (9, 1, some (.iload_n 1)), (10, 1, some (.iconst 3)), (11, 3, some (.if_icmp .ne 7)), (14, 1, some (.iload_n 2)), (15, 1, some (.iload_n 3)), (16, 1, some (.isub)), (17, 1, some (.ireturn)), (18, 1, some (.iload_n 1)), (19, 1, some (.iconst 4)), (20, 3, some (.if_icmp .ne 7)), (23, 1, some (.iload_n 2)), (24, 1, some (.iload_n 3)), (25, 1, some (.imul)), (26, 1, some (.ireturn)), (27, 1, some (.iload_n 1)), (28, 1, some (.iconst 5)), (29, 3, some (.if_icmp .ne 7)), (32, 1, some (.iload_n 2)), (33, 1, some (.iload_n 3)), (34, 1, some (.idiv)), (35, 1, some (.ireturn)), (36, 1, some (.iload_n 1)), (37, 2, some (.bipush 6))] _ 0 rfl (by decide +kernel)
theorem dX10_twoOf_0 : decode cX10_twoOf 0 = .ok (.iload_n 1, 1) := dq_g344.1
theorem dX10_twoOf_1 : decode cX10_twoOf 1 = .ok (.iconst 2, 1) := dq_g344.2.1
theorem dX10_twoOf_2 : decode cX10_twoOf 2 = .ok (.if_icmp .ne 7, 3) := dq_g344.2.2.1
theorem dX10_twoOf_5 : decode cX10_twoOf 5 = .ok (.iload_n 2, 1) := dq_g344.2.2.2.1
theorem dX10_twoOf_6 : decode cX10_twoOf 6 = .ok (.iload_n 3, 1) := dq_g344.2.2.2.2.1
theorem dX10_twoOf_7 : decode cX10_twoOf 7 = .ok (.iadd, 1) := dq_g344.2.2.2.2.2.1
theorem dX10_twoOf_8 : decode cX10_twoOf 8 = .ok (.ireturn, 1) := dq_g344.2.2.2.2.2.2.1
theorem dX10_twoOf_9 : decode cX10_twoOf 9 = .ok (.iload_n 1, 1) := dq_g344.2.2.2.2.2.2.2.1
theorem dX10_twoOf_10 : decode cX10_twoOf 10 = .ok (.iconst 3, 1) := dq_g344.2.2.2.2.2.2.2.2.1
theorem dX10_twoOf_11 : decode cX10_twoOf 11 = .ok (.if_icmp .ne 7, 3) := dq_g344.2.2.2.2.2.2.2.2.2.1
theorem dX10_twoOf_14 : decode cX10_twoOf 14 = .ok (.iload_n 2, 1) := dq_g344.2.2.2.2.2.2.2.2.2.2.1
theorem dX10_twoOf_15 : decode cX10_twoOf 15 = .ok (.iload_n 3, 1) := dq_g344.2.2.2.2.2.2.2.2.2.2.2.1
theorem dX10_twoOf_16 : decode cX10_twoOf 16 = .ok (.isub, 1) := dq_g344.2.2.2.2.2.2.2.2.2.2.2.2.1
theorem dX10_twoOf_17 : decode cX10_twoOf 17 = .ok (.ireturn, 1) := dq_g344.2.2.2.2.2.2.2.2.2.2.2.2.2.1
theorem dX10_twoOf_18 : decode cX10_twoOf 18 = .ok (.iload_n 1, 1) := dq_g344.2.2.2.2.2.2.2.2.2.2.2.2.2.2.1
theorem dX10_twoOf_19 : decode cX10_twoOf 19 = .ok (.iconst 4, 1) := dq_g344.2.2.2.2.2.2.2.2.2.2.2.2.2.2.2.1
theorem dX10_twoOf_20 : decode cX10_twoOf 20 = .ok (.if_icmp .ne 7, 3) := dq_g344.2.2.2.2.2.2.2.2.2.2.2.2.2.2.2.2.1
theorem dX10_twoOf_23 : decode cX10_twoOf 23 = .ok (.iload_n 2, 1) := dq_g344.2.2.2.2.2.2.2.2.2.2.2.2.2.2.2.2.2.1
theorem dX10_twoOf_24 : decode cX10_twoOf 24 = .ok (.iload_n 3, 1) := dq_g344.2.2.2.2.2.2.2.2.2.2.2.2.2.2.2.2.2.2.1
theorem dX10_twoOf_25 : decode cX10_twoOf 25 = .ok (.imul, 1) := dq_g344.2.2.2.2.2.2.2.2.2.2.2.2.2.2.2.2.2.2.2.1
theorem dX10_twoOf_26 : decode cX10_twoOf 26 = .ok (.ireturn, 1) := dq_g344.2.2.2.2.2.2.2.2.2.2.2.2.2.2.2.2.2.2.2.2.1
theorem dX10_twoOf_27 : decode cX10_twoOf 27 = .ok (.iload_n 1, 1) := dq_g344.2.2.2.2.2.2.2.2.2.2.2.2.2.2.2.2.2.2.2.2.2.1
theorem dX10_twoOf_28 : decode cX10_twoOf 28 = .ok (.iconst 5, 1) := dq_g344.2.2.2.2.2.2.2.2.2.2.2.2.2.2.2.2.2.2.2.2.2.2.1
theorem dX10_twoOf_29 : decode cX10_twoOf 29 = .ok (.if_icmp .ne 7, 3) := dq_g344.2.2.2.2.2.2.2.2.2.2.2.2.2.2.2.2.2.2.2.2.2.2.2.1
theorem dX10_twoOf_32 : decode cX10_twoOf 32 = .ok (.iload_n 2, 1) := dq_g344.2.2.2.2.2.2.2.2.2.2.2.2.2.2.2.2.2.2.2.2.2.2.2.2.1
theorem dX10_twoOf_33 : decode cX10_twoOf 33 = .ok (.iload_n 3, 1) := dq_g344.2.2.2.2.2.2.2.2.2.2.2.2.2.2.2.2.2.2.2.2.2.2.2.2.2.1
theorem dX10_twoOf_34 : decode cX10_twoOf 34 = .ok (.idiv, 1) := dq_g344.2.2.2.2.2.2.2.2.2.2.2.2.2.2.2.2.2.2.2.2.2.2.2.2.2.2.1
theorem dX10_twoOf_35 : decode cX10_twoOf 35 = .ok (.ireturn, 1) := dq_g344.2.2.2.2.2.2.2.2.2.2.2.2.2.2.2.2.2.2.2.2.2.2.2.2.2.2.2.1
theorem dX10_twoOf_36 : decode cX10_twoOf 36 = .ok (.iload_n 1, 1) := dq_g344.2.2.2.2.2.2.2.2.2.2.2.2.2.2.2.2.2.2.2.2.2.2.2.2.2.2.2.2.1
theorem dX10_twoOf_37 : decode cX10_twoOf 37 = .ok (.bipush 6, 2) := dq_g344.2.2.2.2.2.2.2.2.2.2.2.2.2.2.2.2.2.2.2.2.2.2.2.2.2.2.2.2.2.1
theorem dq_g345 : decode cX10_twoOf 39 = .ok (.if_icmp .ne 14, 3) ∧ decode cX10_twoOf 42 = .ok (.iload_n 2, 1) ∧ decode cX10_twoOf 43 = .ok (.iload_n 3, 1) ∧ decode cX10_twoOf 44 = .ok (.if_icmp .ge 7, 3) ∧ decode cX10_twoOf 47 = .ok (.iconst 1, 1) ∧ decode cX10_twoOf 48 = .ok (.goto 4, 3) ∧ decode cX10_twoOf 51 = .ok (.iconst 0, 1) ∧ decode cX10_twoOf 52 = .ok (.ireturn, 1) ∧ decode cX10_twoOf 53 = .ok (.iload_n 1, 1) ∧ decode cX10_twoOf 54 = .ok (.bipush 7, 2) ∧ decode cX10_twoOf 56 = .ok (.if_icmp .ne 14, 3) ∧ decode cX10_twoOf 59 = .ok (.iload_n 2, 1) ∧ decode cX10_twoOf 60 = .ok (.iload_n 3, 1) ∧ decode cX10_twoOf 61 = .ok (.if_icmp .ne 7, 3) ∧ decode cX10_twoOf 64 = .ok (.iconst 1, 1) ∧ decode cX10_twoOf 65 = .ok (.goto 4, 3) ∧ decode cX10_twoOf 68 = .ok (.iconst 0, 1) ∧ decode cX10_twoOf 69 = .ok (.ireturn, 1) ∧ decode cX10_twoOf 70 = .ok (.iload_n 1, 1) ∧ decode cX10_twoOf 71 = .ok (.bipush 8, 2) ∧ decode cX10_twoOf 73 = .ok (.if_icmp .ne 14, 3) ∧ decode cX10_twoOf 76 = .ok (.iload_n 2, 1) ∧ decode cX10_twoOf 77 = .ok (.iload_n 3, 1) ∧ decode cX10_twoOf 78 = .ok (.if_icmp .le 7, 3) ∧ decode cX10_twoOf 81 = .ok (.iconst 1, 1) ∧ decode cX10_twoOf 82 = .ok (.goto 4, 3) ∧ decode cX10_twoOf 85 = .ok (.iconst 0, 1) ∧ decode cX10_twoOf 86 = .ok (.ireturn, 1) ∧ decode cX10_twoOf 87 = .ok (.iload_n 1, 1) ∧ decode cX10_twoOf 88 = .ok (.bipush 10, 2) ∧ True := dqC_ok (c := cX10_twoOf) [(39, 3, some (.if_icmp .ne 14)), (42, 1, some (.iload_n 2)), (43, 1, some (.iload_n 3)), (44, 3, some (.if_icmp .ge 7)), (47, 1, some (.iconst 1)), (48, 3, some (.goto 4)), (51, 1, some (.iconst 0)), (52, 1, some (.ireturn)), (53, 1, some (.iload_n 1)), (54, 2, some (.bipush 7)), (56, 3, some (.if_icmp .ne 14)), (59, 1, some (.iload_n 2)), (60, 1, some (.iload_n 3)), (61, 3, some (.if_icmp .ne 7)), (64, 1, some (.iconst 1)), (65, 3, some (.goto 4)), (68, 1, some (.iconst 0)), (69, 1, some (.ireturn)), (70, 1, some (.iload_n 1)), (71, 2, some (.bipush 8)), (73, 3, some (.if_icmp .ne 14)), (76, 1, some (.iload_n 2)), (77, 1, some (.iload_n 3)), (78, 3, some (.if_icmp .le 7)), (81, 1, some (.iconst 1)), (82, 3, some (.goto 4)), (85, 1, some (.iconst 0)), (86, 1, some (.ireturn)), (87, 1, some (.iload_n 1)), (88, 2, some (.bipush 10))] _ 39 rfl (by decide +kernel)
theorem dX10_twoOf_39 : decode cX10_twoOf 39 = .ok (.if_icmp .ne 14, 3) := dq_g345.1
theorem dX10_twoOf_42 : decode cX10_twoOf 42 = .ok (.iload_n 2, 1) := dq_g345.2.1
theorem dX10_twoOf_43 : decode cX10_twoOf 43 = .ok (.iload_n 3, 1) := dq_g345.2.2.1
theorem dX10_twoOf_44 : decode cX10_twoOf 44 = .ok (.if_icmp .ge 7, 3) := dq_g345.2.2.2.1
theorem dX10_twoOf_47 : decode cX10_twoOf 47 = .ok (.iconst 1, 1) := dq_g345.2.2.2.2.1
theorem dX10_twoOf_48 : decode cX10_twoOf 48 = .ok (.goto 4, 3) := dq_g345.2.2.2.2.2.1
theorem dX10_twoOf_51 : decode cX10_twoOf 51 = .ok (.iconst 0, 1) := dq_g345.2.2.2.2.2.2.1
theorem dX10_twoOf_52 : decode cX10_twoOf 52 = .ok (.ireturn, 1) := dq_g345.2.2.2.2.2.2.2.1
theorem dX10_twoOf_53 : decode cX10_twoOf 53 = .ok (.iload_n 1, 1) := dq_g345.2.2.2.2.2.2.2.2.1
theorem dX10_twoOf_54 : decode cX10_twoOf 54 = .ok (.bipush 7, 2) := dq_g345.2.2.2.2.2.2.2.2.2.1
theorem dX10_twoOf_56 : decode cX10_twoOf 56 = .ok (.if_icmp .ne 14, 3) := dq_g345.2.2.2.2.2.2.2.2.2.2.1
theorem dX10_twoOf_59 : decode cX10_twoOf 59 = .ok (.iload_n 2, 1) := dq_g345.2.2.2.2.2.2.2.2.2.2.2.1
theorem dX10_twoOf_60 : decode cX10_twoOf 60 = .ok (.iload_n 3, 1) := dq_g345.2.2.2.2.2.2.2.2.2.2.2.2.1
theorem dX10_twoOf_61 : decode cX10_twoOf 61 = .ok (.if_icmp .ne 7, 3) := dq_g345.2.2.2.2.2.2.2.2.2.2.2.2.2.1
theorem dX10_twoOf_64 : decode cX10_twoOf 64 = .ok (.iconst 1, 1) := dq_g345.2.2.2.2.2.2.2.2.2.2.2.2.2.2.1
theorem dX10_twoOf_65 : decode cX10_twoOf 65 = .ok (.goto 4, 3) := dq_g345.2.2.2.2.2.2.2.2.2.2.2.2.2.2.2.1
theorem dX10_twoOf_68 : decode cX10_twoOf 68 = .ok (.iconst 0, 1) := dq_g345.2.2.2.2.2.2.2.2.2.2.2.2.2.2.2.2.1
theorem dX10_twoOf_69 : decode cX10_twoOf 69 = .ok (.ireturn, 1) := dq_g345.2.2.2.2.2.2.2.2.2.2.2.2.2.2.2.2.2.1
theorem dX10_twoOf_70 : decode cX10_twoOf 70 = .ok (.iload_n 1, 1) := dq_g345.2.2.2.2.2.2.2.2.2.2.2.2.2.2.2.2.2.2.1
theorem dX10_twoOf_71 : decode cX10_twoOf 71 = .ok (.bipush 8, 2) := dq_g345.2.2.2.2.2.2.2.2.2.2.2.2.2.2.2.2.2.2.2.1
theorem dX10_twoOf_73 : decode cX10_twoOf 73 = .ok (.if_icmp .ne 14, 3) := dq_g345.2.2.2.2.2.2.2.2.2.2.2.2.2.2.2.2.2.2.2.2.1
theorem dX10_twoOf_76 : decode cX10_twoOf 76 = .ok (.iload_n 2, 1) := dq_g345.2.2.2.2.2.2.2.2.2.2.2.2.2.2.2.2.2.2.2.2.2.1
theorem dX10_twoOf_77 : decode cX10_twoOf 77 = .ok (.iload_n 3, 1) := dq_g345.2.2.2.2.2.2.2.2.2.2.2.2.2.2.2.2.2.2.2.2.2.2.1
theorem dX10_twoOf_78 : decode cX10_twoOf 78 = .ok (.if_icmp .le 7, 3) := dq_g345.2.2.2.2.2.2.2.2.2.2.2.2.2.2.2.2.2.2.2.2.2.2.2.1
theorem dX10_twoOf_81 : decode cX10_twoOf 81 = .ok (.iconst 1, 1) := dq_g345.2.2.2.2.2.2.2.2.2.2.2.2.2.2.2.2.2.2.2.2.2.2.2.2.1
theorem dX10_twoOf_82 : decode cX10_twoOf 82 = .ok (.goto 4, 3) := dq_g345.2.2.2.2.2.2.2.2.2.2.2.2.2.2.2.2.2.2.2.2.2.2.2.2.2.1
theorem dX10_twoOf_85 : decode cX10_twoOf 85 = .ok (.iconst 0, 1) := dq_g345.2.2.2.2.2.2.2.2.2.2.2.2.2.2.2.2.2.2.2.2.2.2.2.2.2.2.1
theorem dX10_twoOf_86 : decode cX10_twoOf 86 = .ok (.ireturn, 1) := dq_g345.2.2.2.2.2.2.2.2.2.2.2.2.2.2.2.2.2.2.2.2.2.2.2.2.2.2.2.1
theorem dX10_twoOf_87 : decode cX10_twoOf 87 = .ok (.iload_n 1, 1) := dq_g345.2.2.2.2.2.2.2.2.2.2.2.2.2.2.2.2.2.2.2.2.2.2.2.2.2.2.2.2.1
theorem dX10_twoOf_88 : decode cX10_twoOf 88 = .ok (.bipush 10, 2) := dq_g345.2.2.2.2.2.2.2.2.2.2.2.2.2.2.2.2.2.2.2.2.2.2.2.2.2.2.2.2.2.1
theorem dq_g346 : decode cX10_twoOf 90 = .ok (.if_icmp .ne 9, 3) ∧ decode cX10_twoOf 93 = .ok (.iload_n 2, 1) ∧ decode cX10_twoOf 94 = .ok (.iload_n 3, 1) ∧ decode cX10_twoOf 95 = .ok (.imul, 1) ∧ decode cX10_twoOf 96 = .ok (.goto 14, 3) ∧ decode cX10_twoOf 99 = .ok (.iload_n 2, 1) ∧ decode cX10_twoOf 100 = .ok (.iload_n 3, 1) ∧ decode cX10_twoOf 101 = .ok (.iadd, 1) ∧ decode cX10_twoOf 102 = .ok (.ifCond .le 7, 3) ∧ decode cX10_twoOf 105 = .ok (.iconst 1, 1) ∧ decode cX10_twoOf 106 = .ok (.goto 4, 3) ∧ decode cX10_twoOf 109 = .ok (.iconst 0, 1) ∧ decode cX10_twoOf 110 = .ok (.ireturn, 1) ∧ True := dqC_ok (c := cX10_twoOf) [(90, 3, some (.if_icmp .ne 9)), (93, 1, some (.iload_n 2)), (94, 1, some (.iload_n 3)), (95, 1, some (.imul)), (96, 3, some (.goto 14)), (99, 1, some (.iload_n 2)), (100, 1, some (.iload_n 3)), (101, 1, some (.iadd)), (102, 3, some (.ifCond .le 7)), (105, 1, some (.iconst 1)), (106, 3, some (.goto 4)), (109, 1, some (.iconst 0)), (110, 1, some (.ireturn))] _ 90 rfl (by decide +kernel)
theorem dX10_twoOf_90 : decode cX10_twoOf 90 = .ok (.if_icmp .ne 9, 3) := dq_g346.1
theorem dX10_twoOf_93 : decode cX10_twoOf 93 = .ok (.iload_n 2, 1) := dq_g346.2.1
theorem dX10_twoOf_94 : decode cX10_twoOf 94 = .ok (.iload_n 3, 1) := dq_g346.2.2.1
theorem dX10_twoOf_95 : decode cX10_twoOf 95 = .ok (.imul, 1) := dq_g346.2.2.2.1
theorem dX10_twoOf_96 : decode cX10_twoOf 96 = .ok (.goto 14, 3) := dq_g346.2.2.2.2.1
theorem dX10_twoOf_99 : decode cX10_twoOf 99 = .ok (.iload_n 2, 1) := dq_g346.2.2.2.2.2.1
theorem dX10_twoOf_100 : decode cX10_twoOf 100 = .ok (.iload_n 3, 1) := dq_g346.2.2.2.2.2.2.1
theorem dX10_twoOf_101 : decode cX10_twoOf 101 = .ok (.iadd, 1) := dq_g346.2.2.2.2.2.2.2.1
theorem dX10_twoOf_102 : decode cX10_twoOf 102 = .ok (.ifCond .le 7, 3) := dq_g346.2.2.2.2.2.2.2.2.1
theorem dX10_twoOf_105 : decode cX10_twoOf 105 = .ok (.iconst 1, 1) := dq_g346.2.2.2.2.2.2.2.2.2.1
theorem dX10_twoOf_106 : decode cX10_twoOf 106 = .ok (.goto 4, 3) := dq_g346.2.2.2.2.2.2.2.2.2.2.1
theorem dX10_twoOf_109 : decode cX10_twoOf 109 = .ok (.iconst 0, 1) := dq_g346.2.2.2.2.2.2.2.2.2.2.2.1
theorem dX10_twoOf_110 : decode cX10_twoOf 110 = .ok (.ireturn, 1) := dq_g346.2.2.2.2.2.2.2.2.2.2.2.2.1
theorem dq_g347 : decode cX10_worth 0 = .ok (.iconst 0, 1) ∧ decode cX10_worth 1 = .ok (.istore 4, 2) ∧ decode cX10_worth 3 = .ok (.sipush 500, 3) ∧ decode cX10_worth 6 = .ok (.iload_n 1, 1) ∧ decode cX10_worth 7 = .ok (.imul, 1) ∧ decode cX10_worth 8 = .ok (.iload_n 2, 1) ∧ decode cX10_worth 9 = .ok (.iadd, 1) ∧ decode cX10_worth 10 = .ok (.istore 5, 2) ∧ decode cX10_worth 12 = .ok (.iload 5, 2) ∧ decode cX10_worth 14 = .ok (.sipush 500, 3) ∧ decode cX10_worth 17 = .ok (.iload_n 1, 1) ∧ decode cX10_worth 18 = .ok (.imul, 1) ∧ decode cX10_worth 19 = .ok (.iload_n 3, 1) ∧ decode cX10_worth 20 = .ok (.iadd, 1) ∧ decode cX10_worth 21 = .ok (.if_icmp .ge 155, 3) ∧ decode cX10_worth 24 = .ok (.aload_n 0, 1) ∧ decode cX10_worth 25 = .ok (.getfield 83, 3) ∧ decode cX10_worth 28 = .ok (.iload 5, 2) ∧ decode cX10_worth 30 = .ok (.iaload, 1) ∧ decode cX10_worth 31 = .ok (.ifCond .eq 14, 3) ∧ decode cX10_worth 34 = .ok (.aload_n 0, 1) ∧ decode cX10_worth 35 = .ok (.getfield 83, 3) ∧ decode cX10_worth 38 = .ok (.iload 5, 2) ∧ decode cX10_worth 40 = .ok (.iaload, 1) ∧ decode cX10_worth 41 = .ok (.iconst 1, 1) ∧ decode cX10_worth 42 = .ok (.if_icmp .ne 51, 3) ∧ decode cX10_worth 45 = .ok (.aload_n 0, 1) ∧ decode cX10_worth 46 = .ok (.getfield 98, 3) ∧ decode cX10_worth 49 = .ok (.iload 4, 2) ∧ decode cX10_worth 51 = .ok (.aload_n 0, 1) ∧ True := dqC_ok (c := cX10_worth) [(0, 1, some (.iconst 0)), (1, 2, some (.istore 4)), (3, 3, some (.sipush 500)), (6, 1, some (.iload_n 1)), (7, 1, some (.imul)), (8, 1, some (.iload_n 2)), (9, 1, some (.iadd)), (10, 2, some (.istore 5)), (12, 2, some (.iload 5)), (14, 3, some (.sipush 500)), (17, 1, some (.iload_n 1)), (18, 1, some (.imul)), (19, 1, some (.iload_n 3)), (20, 1, some (.iadd)), (21, 3, some (.if_icmp .ge 155)), (24, 1, some (.aload_n 0)), (25, 3, some (.getfield 83)), (28, 2, some (.iload 5)), (30, 1, some (.iaload)), (31, 3, some (.ifCond .eq 14)), (34, 1, some (.aload_n 0)), (35, 3, some (.getfield 83)), (38, 2, some (.iload 5)), (40, 1, some (.iaload)), (41, 1, some (.iconst 1)), (42, 3, some (.if_icmp .ne 51)), (45, 1, some (.aload_n 0)), (46, 3, some (.getfield 98)), (49, 2, some (.iload 4)), (51, 1, some (.aload_n 0))] _ 0 rfl (by decide +kernel)
theorem dX10_worth_0 : decode cX10_worth 0 = .ok (.iconst 0, 1) := dq_g347.1
theorem dX10_worth_1 : decode cX10_worth 1 = .ok (.istore 4, 2) := dq_g347.2.1
theorem dX10_worth_3 : decode cX10_worth 3 = .ok (.sipush 500, 3) := dq_g347.2.2.1
theorem dX10_worth_6 : decode cX10_worth 6 = .ok (.iload_n 1, 1) := dq_g347.2.2.2.1
theorem dX10_worth_7 : decode cX10_worth 7 = .ok (.imul, 1) := dq_g347.2.2.2.2.1
theorem dX10_worth_8 : decode cX10_worth 8 = .ok (.iload_n 2, 1) := dq_g347.2.2.2.2.2.1
theorem dX10_worth_9 : decode cX10_worth 9 = .ok (.iadd, 1) := dq_g347.2.2.2.2.2.2.1
theorem dX10_worth_10 : decode cX10_worth 10 = .ok (.istore 5, 2) := dq_g347.2.2.2.2.2.2.2.1
theorem dX10_worth_12 : decode cX10_worth 12 = .ok (.iload 5, 2) := dq_g347.2.2.2.2.2.2.2.2.1
theorem dX10_worth_14 : decode cX10_worth 14 = .ok (.sipush 500, 3) := dq_g347.2.2.2.2.2.2.2.2.2.1
theorem dX10_worth_17 : decode cX10_worth 17 = .ok (.iload_n 1, 1) := dq_g347.2.2.2.2.2.2.2.2.2.2.1
theorem dX10_worth_18 : decode cX10_worth 18 = .ok (.imul, 1) := dq_g347.2.2.2.2.2.2.2.2.2.2.2.1
theorem dX10_worth_19 : decode cX10_worth 19 = .ok (.iload_n 3, 1) := dq_g347.2.2.2.2.2.2.2.2.2.2.2.2.1
theorem dX10_worth_20 : decode cX10_worth 20 = .ok (.iadd, 1) := dq_g347.2.2.2.2.2.2.2.2.2.2.2.2.2.1
theorem dX10_worth_21 : decode cX10_worth 21 = .ok (.if_icmp .ge 155, 3) := dq_g347.2.2.2.2.2.2.2.2.2.2.2.2.2.2.1
theorem dX10_worth_24 : decode cX10_worth 24 = .ok (.aload_n 0, 1) := dq_g347.2.2.2.2.2.2.2.2.2.2.2.2.2.2.2.1
theorem dX10_worth_25 : decode cX10_worth 25 = .ok (.getfield 83, 3) := dq_g347.2.2.2.2.2.2.2.2.2.2.2.2.2.2.2.2.1
theorem dX10_worth_28 : decode cX10_worth 28 = .ok (.iload 5, 2) := dq_g347.2.2.2.2.2.2.2.2.2.2.2.2.2.2.2.2.2.1
theorem dX10_worth_30 : decode cX10_worth 30 = .ok (.iaload, 1) := dq_g347.2.2.2.2.2.2.2.2.2.2.2.2.2.2.2.2.2.2.1
theorem dX10_worth_31 : decode cX10_worth 31 = .ok (.ifCond .eq 14, 3) := dq_g347.2.2.2.2.2.2.2.2.2.2.2.2.2.2.2.2.2.2.2.1
theorem dX10_worth_34 : decode cX10_worth 34 = .ok (.aload_n 0, 1) := dq_g347.2.2.2.2.2.2.2.2.2.2.2.2.2.2.2.2.2.2.2.2.1
theorem dX10_worth_35 : decode cX10_worth 35 = .ok (.getfield 83, 3) := dq_g347.2.2.2.2.2.2.2.2.2.2.2.2.2.2.2.2.2.2.2.2.2.1
theorem dX10_worth_38 : decode cX10_worth 38 = .ok (.iload 5, 2) := dq_g347.2.2.2.2.2.2.2.2.2.2.2.2.2.2.2.2.2.2.2.2.2.2.1
theorem dX10_worth_40 : decode cX10_worth 40 = .ok (.iaload, 1) := dq_g347.2.2.2.2.2.2.2.2.2.2.2.2.2.2.2.2.2.2.2.2.2.2.2.1
theorem dX10_worth_41 : decode cX10_worth 41 = .ok (.iconst 1, 1) := dq_g347.2.2.2.2.2.2.2.2.2.2.2.2.2.2.2.2.2.2.2.2.2.2.2.2.1
theorem dX10_worth_42 : decode cX10_worth 42 = .ok (.if_icmp .ne 51, 3) := dq_g347.2.2.2.2.2.2.2.2.2.2.2.2.2.2.2.2.2.2.2.2.2.2.2.2.2.1
theorem dX10_worth_45 : decode cX10_worth 45 = .ok (.aload_n 0, 1) := dq_g347.2.2.2.2.2.2.2.2.2.2.2.2.2.2.2.2.2.2.2.2.2.2.2.2.2.2.1
theorem dX10_worth_46 : decode cX10_worth 46 = .ok (.getfield 98, 3) := dq_g347.2.2.2.2.2.2.2.2.2.2.2.2.2.2.2.2.2.2.2.2.2.2.2.2.2.2.2.1
theorem dX10_worth_49 : decode cX10_worth 49 = .ok (.iload 4, 2) := dq_g347.2.2.2.2.2.2.2.2.2.2.2.2.2.2.2.2.2.2.2.2.2.2.2.2.2.2.2.2.1
theorem dX10_worth_51 : decode cX10_worth 51 = .ok (.aload_n 0, 1) := dq_g347.2.2.2.2.2.2.2.2.2.2.2.2.2.2.2.2.2.2.2.2.2.2.2.2.2.2.2.2.2.1
theorem dq_g348 : decode cX10_worth 52 = .ok (.getfield 83, 3) ∧ decode cX10_worth 55 = .ok (.iload 5, 2) ∧ decode cX10_worth 57 = .ok (.iaload, 1) ∧ decode cX10_worth 58 = .ok (.ifCond .ne 13, 3) ∧ decode cX10_worth 61 = .ok (.aload_n 0, 1) ∧ decode cX10_worth 62 = .ok (.getfield 86, 3) ∧ decode cX10_worth 65 = .ok (.iload 5, 2) ∧ decode cX10_worth 67 = .ok (.iaload, 1) ∧ decode cX10_worth 68 = .ok (.goto 15, 3) ∧ decode cX10_worth 71 = .ok (.aload_n 0, 1) ∧ decode cX10_worth 72 = .ok (.getfield 95, 3) ∧ decode cX10_worth 75 = .ok (.aload_n 0, 1) ∧ decode cX10_worth 76 = .ok (.getfield 86, 3) ∧ decode cX10_worth 79 = .ok (.iload 5, 2) ∧ decode cX10_worth 81 = .ok (.iaload, 1) ∧ decode cX10_worth 82 = .ok (.iaload, 1) ∧ decode cX10_worth 83 = .ok (.iastore, 1) ∧ decode cX10_worth 84 = .ok (.iload 4, 2) ∧ decode cX10_worth 86 = .ok (.iconst 1, 1) ∧ decode cX10_worth 87 = .ok (.iadd, 1) ∧ decode cX10_worth 88 = .ok (.istore 4, 2) ∧ decode cX10_worth 90 = .ok (.goto 80, 3) ∧ decode cX10_worth 93 = .ok (.aload_n 0, 1) ∧ decode cX10_worth 94 = .ok (.getfield 83, 3) ∧ decode cX10_worth 97 = .ok (.iload 5, 2) ∧ decode cX10_worth 99 = .ok (.iaload, 1) ∧ decode cX10_worth 100 = .ok (.bipush 9, 2) ∧ decode cX10_worth 102 = .ok (.if_icmp .ne 26, 3) ∧ decode cX10_worth 105 = .ok (.aload_n 0, 1) ∧ decode cX10_worth 106 = .ok (.getfield 98, 3) ∧ True := dqC_ok (c := cX10_worth) [(52, 3, some (.getfield 83)), (55, 2, some (.iload 5)), (57, 1, some (.iaload)), (58, 3, some (.ifCond .ne 13)), (61, 1, some (.aload_n 0)), (62, 3, some (.getfield 86)), (65, 2, some (.iload 5)), (67, 1, some (.iaload)), (68, 3, some (.goto 15)), (71, 1, some (.aload_n 0)), (72, 3, some (.getfield 95)), (75, 1, some (.aload_n 0)), (76, 3, some (.getfield 86)), (79, 2, some (.iload 5)), (81, 1, some (.iaload)), (82, 1, some (.iaload)), (83, 1, some (.iastore)), (84, 2, some (.iload 4)), (86, 1, some (.iconst 1)), (87, 1, some (.iadd)), (88, 2, some (.istore 4)), (90, 3, some (.goto 80)), (93, 1, some (.aload_n 0)), (94, 3, some (.getfield 83)), (97, 2, some (.iload 5)), (99, 1, some (.iaload)), (100, 2, some (.bipush 9)), (102, 3, some (.if_icmp .ne 26)), (105, 1, some (.aload_n 0)), (106, 3, some (.getfield 98))] _ 52 rfl (by decide +kernel)
theorem dX10_worth_52 : decode cX10_worth 52 = .ok (.getfield 83, 3) := dq_g348.1
theorem dX10_worth_55 : decode cX10_worth 55 = .ok (.iload 5, 2) := dq_g348.2.1
theorem dX10_worth_57 : decode cX10_worth 57 = .ok (.iaload, 1) := dq_g348.2.2.1
theorem dX10_worth_58 : decode cX10_worth 58 = .ok (.ifCond .ne 13, 3) := dq_g348.2.2.2.1
theorem dX10_worth_61 : decode cX10_worth 61 = .ok (.aload_n 0, 1) := dq_g348.2.2.2.2.1
theorem dX10_worth_62 : decode cX10_worth 62 = .ok (.getfield 86, 3) := dq_g348.2.2.2.2.2.1
theorem dX10_worth_65 : decode cX10_worth 65 = .ok (.iload 5, 2) := dq_g348.2.2.2.2.2.2.1
theorem dX10_worth_67 : decode cX10_worth 67 = .ok (.iaload, 1) := dq_g348.2.2.2.2.2.2.2.1
theorem dX10_worth_68 : decode cX10_worth 68 = .ok (.goto 15, 3) := dq_g348.2.2.2.2.2.2.2.2.1
theorem dX10_worth_71 : decode cX10_worth 71 = .ok (.aload_n 0, 1) := dq_g348.2.2.2.2.2.2.2.2.2.1
theorem dX10_worth_72 : decode cX10_worth 72 = .ok (.getfield 95, 3) := dq_g348.2.2.2.2.2.2.2.2.2.2.1
theorem dX10_worth_75 : decode cX10_worth 75 = .ok (.aload_n 0, 1) := dq_g348.2.2.2.2.2.2.2.2.2.2.2.1
theorem dX10_worth_76 : decode cX10_worth 76 = .ok (.getfield 86, 3) := dq_g348.2.2.2.2.2.2.2.2.2.2.2.2.1
theorem dX10_worth_79 : decode cX10_worth 79 = .ok (.iload 5, 2) := dq_g348.2.2.2.2.2.2.2.2.2.2.2.2.2.1
theorem dX10_worth_81 : decode cX10_worth 81 = .ok (.iaload, 1) := dq_g348.2.2.2.2.2.2.2.2.2.2.2.2.2.2.1
theorem dX10_worth_82 : decode cX10_worth 82 = .ok (.iaload, 1) := dq_g348.2.2.2.2.2.2.2.2.2.2.2.2.2.2.2.1
theorem dX10_worth_83 : decode cX10_worth 83 = .ok (.iastore, 1) := dq_g348.2.2.2.2.2.2.2.2.2.2.2.2.2.2.2.2.1
theorem dX10_worth_84 : decode cX10_worth 84 = .ok (.iload 4, 2) := dq_g348.2.2.2.2.2.2.2.2.2.2.2.2.2.2.2.2.2.1
theorem dX10_worth_86 : decode cX10_worth 86 = .ok (.iconst 1, 1) := dq_g348.2.2.2.2.2.2.2.2.2.2.2.2.2.2.2.2.2.2.1
theorem dX10_worth_87 : decode cX10_worth 87 = .ok (.iadd, 1) := dq_g348.2.2.2.2.2.2.2.2.2.2.2.2.2.2.2.2.2.2.2.1
theorem dX10_worth_88 : decode cX10_worth 88 = .ok (.istore 4, 2) := dq_g348.2.2.2.2.2.2.2.2.2.2.2.2.2.2.2.2.2.2.2.2.1
theorem dX10_worth_90 : decode cX10_worth 90 = .ok (.goto 80, 3) := dq_g348.2.2.2.2.2.2.2.2.2.2.2.2.2.2.2.2.2.2.2.2.2.1
theorem dX10_worth_93 : decode cX10_worth 93 = .ok (.aload_n 0, 1) := dq_g348.2.2.2.2.2.2.2.2.2.2.2.2.2.2.2.2.2.2.2.2.2.2.1
theorem dX10_worth_94 : decode cX10_worth 94 = .ok (.getfield 83, 3) := dq_g348.2.2.2.2.2.2.2.2.2.2.2.2.2.2.2.2.2.2.2.2.2.2.2.1
theorem dX10_worth_97 : decode cX10_worth 97 = .ok (.iload 5, 2) := dq_g348.2.2.2.2.2.2.2.2.2.2.2.2.2.2.2.2.2.2.2.2.2.2.2.2.1
theorem dX10_worth_99 : decode cX10_worth 99 = .ok (.iaload, 1) := dq_g348.2.2.2.2.2.2.2.2.2.2.2.2.2.2.2.2.2.2.2.2.2.2.2.2.2.1
theorem dX10_worth_100 : decode cX10_worth 100 = .ok (.bipush 9, 2) := dq_g348.2.2.2.2.2.2.2.2.2.2.2.2.2.2.2.2.2.2.2.2.2.2.2.2.2.2.1
theorem dX10_worth_102 : decode cX10_worth 102 = .ok (.if_icmp .ne 26, 3) := dq_g348.2.2.2.2.2.2.2.2.2.2.2.2.2.2.2.2.2.2.2.2.2.2.2.2.2.2.2.1
theorem dX10_worth_105 : decode cX10_worth 105 = .ok (.aload_n 0, 1) := dq_g348.2.2.2.2.2.2.2.2.2.2.2.2.2.2.2.2.2.2.2.2.2.2.2.2.2.2.2.2.1
theorem dX10_worth_106 : decode cX10_worth 106 = .ok (.getfield 98, 3) := dq_g348.2.2.2.2.2.2.2.2.2.2.2.2.2.2.2.2.2.2.2.2.2.2.2.2.2.2.2.2.2.1
theorem dq_g349 : decode cX10_worth 109 = .ok (.iload 4, 2) ∧ decode cX10_worth 111 = .ok (.iconst 1, 1) ∧ decode cX10_worth 112 = .ok (.isub, 1) ∧ decode cX10_worth 113 = .ok (.iconst 1, 1) ∧ decode cX10_worth 114 = .ok (.aload_n 0, 1) ∧ decode cX10_worth 115 = .ok (.getfield 98, 3) ∧ decode cX10_worth 118 = .ok (.iload 4, 2) ∧ decode cX10_worth 120 = .ok (.iconst 1, 1) ∧ decode cX10_worth 121 = .ok (.isub, 1) ∧ decode cX10_worth 122 = .ok (.iaload, 1) ∧ decode cX10_worth 123 = .ok (.isub, 1) ∧ decode cX10_worth 124 = .ok (.iastore, 1) ∧ decode cX10_worth 125 = .ok (.goto 45, 3) ∧ decode cX10_worth 128 = .ok (.iload 4, 2) ∧ decode cX10_worth 130 = .ok (.iconst 1, 1) ∧ decode cX10_worth 131 = .ok (.isub, 1) ∧ decode cX10_worth 132 = .ok (.istore 4, 2) ∧ decode cX10_worth 134 = .ok (.aload_n 0, 1) ∧ decode cX10_worth 135 = .ok (.getfield 98, 3) ∧ decode cX10_worth 138 = .ok (.iload 4, 2) ∧ decode cX10_worth 140 = .ok (.iconst 1, 1) ∧ decode cX10_worth 141 = .ok (.isub, 1) ∧ decode cX10_worth 142 = .ok (.aload_n 0, 1) ∧ decode cX10_worth 143 = .ok (.aload_n 0, 1) ∧ decode cX10_worth 144 = .ok (.getfield 83, 3) ∧ decode cX10_worth 147 = .ok (.iload 5, 2) ∧ decode cX10_worth 149 = .ok (.iaload, 1) ∧ decode cX10_worth 150 = .ok (.aload_n 0, 1) ∧ decode cX10_worth 151 = .ok (.getfield 98, 3) ∧ decode cX10_worth 154 = .ok (.iload 4, 2) ∧ True := dqC_ok (c := cX10_worth) [(109, 2, some (.iload 4)), (111, 1, some (.iconst 1)), (112, 1, some (.isub)), (113, 1, some (.iconst 1)), (114, 1, some (.aload_n 0)), (115, 3, some (.getfield 98)), (118, 2, some (.iload 4)), (120, 1, some (.iconst 1)), (121, 1, some (.isub)), (122, 1, some (.iaload)), (123, 1, some (.isub)), (124, 1, some (.iastore)), (125, 3, some (.goto 45)), (128, 2, some (.iload 4)), (130, 1, some (.iconst 1)), (131, 1, some (.isub)), (132, 2, some (.istore 4)), (134, 1, some (.aload_n 0)), (135, 3, some (.getfield 98)), (138, 2, some (.iload 4)), (140, 1, some (.iconst 1)), (141, 1, some (.isub)), (142, 1, some (.aload_n 0)), (143, 1, some (.aload_n 0)), (144, 3, some (.getfield 83)), (147, 2, some (.iload 5)), (149, 1, some (.iaload)), (150, 1, some (.aload_n 0)), (151, 3, some (.getfield 98)), (154, 2, some (.iload 4))] _ 109 rfl (by decide +kernel)
theorem dX10_worth_109 : decode cX10_worth 109 = .ok (.iload 4, 2) := dq_g349.1
theorem dX10_worth_111 : decode cX10_worth 111 = .ok (.iconst 1, 1) := dq_g349.2.1
theorem dX10_worth_112 : decode cX10_worth 112 = .ok (.isub, 1) := dq_g349.2.2.1
theorem dX10_worth_113 : decode cX10_worth 113 = .ok (.iconst 1, 1) := dq_g349.2.2.2.1
theorem dX10_worth_114 : decode cX10_worth 114 = .ok (.aload_n 0, 1) := dq_g349.2.2.2.2.1
theorem dX10_worth_115 : decode cX10_worth 115 = .ok (.getfield 98, 3) := dq_g349.2.2.2.2.2.1
theorem dX10_worth_118 : decode cX10_worth 118 = .ok (.iload 4, 2) := dq_g349.2.2.2.2.2.2.1
theorem dX10_worth_120 : decode cX10_worth 120 = .ok (.iconst 1, 1) := dq_g349.2.2.2.2.2.2.2.1
theorem dX10_worth_121 : decode cX10_worth 121 = .ok (.isub, 1) := dq_g349.2.2.2.2.2.2.2.2.1
theorem dX10_worth_122 : decode cX10_worth 122 = .ok (.iaload, 1) := dq_g349.2.2.2.2.2.2.2.2.2.1
theorem dX10_worth_123 : decode cX10_worth 123 = .ok (.isub, 1) := dq_g349.2.2.2.2.2.2.2.2.2.2.1
theorem dX10_worth_124 : decode cX10_worth 124 = .ok (.iastore, 1) := dq_g349.2.2.2.2.2.2.2.2.2.2.2.1
theorem dX10_worth_125 : decode cX10_worth 125 = .ok (.goto 45, 3) := dq_g349.2.2.2.2.2.2.2.2.2.2.2.2.1
theorem dX10_worth_128 : decode cX10_worth 128 = .ok (.iload 4, 2) := dq_g349.2.2.2.2.2.2.2.2.2.2.2.2.2.1
theorem dX10_worth_130 : decode cX10_worth 130 = .ok (.iconst 1, 1) := dq_g349.2.2.2.2.2.2.2.2.2.2.2.2.2.2.1
theorem dX10_worth_131 : decode cX10_worth 131 = .ok (.isub, 1) := dq_g349.2.2.2.2.2.2.2.2.2.2.2.2.2.2.2.1
theorem dX10_worth_132 : decode cX10_worth 132 = .ok (.istore 4, 2) := dq_g349.2.2.2.2.2.2.2.2.2.2.2.2.2.2.2.2.1
theorem dX10_worth_134 : decode cX10_worth 134 = .ok (.aload_n 0, 1) := dq_g349.2.2.2.2.2.2.2.2.2.2.2.2.2.2.2.2.2.1
theorem dX10_worth_135 : decode cX10_worth 135 = .ok (.getfield 98, 3) := dq_g349.2.2.2.2.2.2.2.2.2.2.2.2.2.2.2.2.2.2.1
theorem dX10_worth_138 : decode cX10_worth 138 = .ok (.iload 4, 2) := dq_g349.2.2.2.2.2.2.2.2.2.2.2.2.2.2.2.2.2.2.2.1
theorem dX10_worth_140 : decode cX10_worth 140 = .ok (.iconst 1, 1) := dq_g349.2.2.2.2.2.2.2.2.2.2.2.2.2.2.2.2.2.2.2.2.1
theorem dX10_worth_141 : decode cX10_worth 141 = .ok (.isub, 1) := dq_g349.2.2.2.2.2.2.2.2.2.2.2.2.2.2.2.2.2.2.2.2.2.1
theorem dX10_worth_142 : decode cX10_worth 142 = .ok (.aload_n 0, 1) := dq_g349.2.2.2.2.2.2.2.2.2.2.2.2.2.2.2.2.2.2.2.2.2.2.1
theorem dX10_worth_143 : decode cX10_worth 143 = .ok (.aload_n 0, 1) := dq_g349.2.2.2.2.2.2.2.2.2.2.2.2.2.2.2.2.2.2.2.2.2.2.2.1
theorem dX10_worth_144 : decode cX10_worth 144 = .ok (.getfield 83, 3) := dq_g349.2.2.2.2.2.2.2.2.2.2.2.2.2.2.2.2.2.2.2.2.2.2.2.2.1
theorem dX10_worth_147 : decode cX10_worth 147 = .ok (.iload 5, 2) := dq_g349.2.2.2.2.2.2.2.2.2.2.2.2.2.2.2.2.2.2.2.2.2.2.2.2.2.1
theorem dX10_worth_149 : decode cX10_worth 149 = .ok (.iaload, 1) := dq_g349.2.2.2.2.2.2.2.2.2.2.2.2.2.2.2.2.2.2.2.2.2.2.2.2.2.2.1
theorem dX10_worth_150 : decode cX10_worth 150 = .ok (.aload_n 0, 1) := dq_g349.2.2.2.2.2.2.2.2.2.2.2.2.2.2.2.2.2.2.2.2.2.2.2.2.2.2.2.1
theorem dX10_worth_151 : decode cX10_worth 151 = .ok (.getfield 98, 3) := dq_g349.2.2.2.2.2.2.2.2.2.2.2.2.2.2.2.2.2.2.2.2.2.2.2.2.2.2.2.2.1
theorem dX10_worth_154 : decode cX10_worth 154 = .ok (.iload 4, 2) := dq_g349.2.2.2.2.2.2.2.2.2.2.2.2.2.2.2.2.2.2.2.2.2.2.2.2.2.2.2.2.2.1
theorem dq_g350 : decode cX10_worth 156 = .ok (.iconst 1, 1) ∧ decode cX10_worth 157 = .ok (.isub, 1) ∧ decode cX10_worth 158 = .ok (.iaload, 1) ∧ decode cX10_worth 159 = .ok (.aload_n 0, 1) ∧ decode cX10_worth 160 = .ok (.getfield 98, 3) ∧ decode cX10_worth 163 = .ok (.iload 4, 2) ∧ decode cX10_worth 165 = .ok (.iaload, 1) ∧ decode cX10_worth 166 = .ok (.invokevirtual 298, 3) ∧ decode cX10_worth 169 = .ok (.iastore, 1) ∧ decode cX10_worth 170 = .ok (.iinc 5 1, 3) ∧ decode cX10_worth 173 = .ok (.goto (-161), 3) ∧ decode cX10_worth 176 = .ok (.aload_n 0, 1) ∧ decode cX10_worth 177 = .ok (.getfield 98, 3) ∧ decode cX10_worth 180 = .ok (.iconst 0, 1) ∧ decode cX10_worth 181 = .ok (.iaload, 1) ∧ decode cX10_worth 182 = .ok (.ireturn, 1) ∧ True := dqC_ok (c := cX10_worth) [(156, 1, some (.iconst 1)), (157, 1, some (.isub)), (158, 1, some (.iaload)), (159, 1, some (.aload_n 0)), (160, 3, some (.getfield 98)), (163, 2, some (.iload 4)), (165, 1, some (.iaload)), (166, 3, some (.invokevirtual 298)), (169, 1, some (.iastore)), (170, 3, some (.iinc 5 1)), (173, 3, some (.goto (-161))), (176, 1, some (.aload_n 0)), (177, 3, some (.getfield 98)), (180, 1, some (.iconst 0)), (181, 1, some (.iaload)), (182, 1, some (.ireturn))] _ 156 rfl (by decide +kernel)
theorem dX10_worth_156 : decode cX10_worth 156 = .ok (.iconst 1, 1) := dq_g350.1
theorem dX10_worth_157 : decode cX10_worth 157 = .ok (.isub, 1) := dq_g350.2.1
theorem dX10_worth_158 : decode cX10_worth 158 = .ok (.iaload, 1) := dq_g350.2.2.1
theorem dX10_worth_159 : decode cX10_worth 159 = .ok (.aload_n 0, 1) := dq_g350.2.2.2.1
theorem dX10_worth_160 : decode cX10_worth 160 = .ok (.getfield 98, 3) := dq_g350.2.2.2.2.1
theorem dX10_worth_163 : decode cX10_worth 163 = .ok (.iload 4, 2) := dq_g350.2.2.2.2.2.1
theorem dX10_worth_165 : decode cX10_worth 165 = .ok (.iaload, 1) := dq_g350.2.2.2.2.2.2.1
theorem dX10_worth_166 : decode cX10_worth 166 = .ok (.invokevirtual 298, 3) := dq_g350.2.2.2.2.2.2.2.1
theorem dX10_worth_169 : decode cX10_worth 169 = .ok (.iastore, 1) := dq_g350.2.2.2.2.2.2.2.2.1
theorem dX10_worth_170 : decode cX10_worth 170 = .ok (.iinc 5 1, 3) := dq_g350.2.2.2.2.2.2.2.2.2.1
theorem dX10_worth_173 : decode cX10_worth 173 = .ok (.goto (-161), 3) := dq_g350.2.2.2.2.2.2.2.2.2.2.1
theorem dX10_worth_176 : decode cX10_worth 176 = .ok (.aload_n 0, 1) := dq_g350.2.2.2.2.2.2.2.2.2.2.2.1
theorem dX10_worth_177 : decode cX10_worth 177 = .ok (.getfield 98, 3) := dq_g350.2.2.2.2.2.2.2.2.2.2.2.2.1
theorem dX10_worth_180 : decode cX10_worth 180 = .ok (.iconst 0, 1) := dq_g350.2.2.2.2.2.2.2.2.2.2.2.2.2.1
theorem dX10_worth_181 : decode cX10_worth 181 = .ok (.iaload, 1) := dq_g350.2.2.2.2.2.2.2.2.2.2.2.2.2.2.1
theorem dX10_worth_182 : decode cX10_worth 182 = .ok (.ireturn, 1) := dq_g350.2.2.2.2.2.2.2.2.2.2.2.2.2.2.2.1
theorem dq_g351 : decode cX10_isSo 0 = .ok (.aload_n 0, 1) ∧ decode cX10_isSo 1 = .ok (.getfield 80, 3) ∧ decode cX10_isSo 4 = .ok (.iload_n 2, 1) ∧ decode cX10_isSo 5 = .ok (.iaload, 1) ∧ decode cX10_isSo 6 = .ok (.aload_n 0, 1) ∧ decode cX10_isSo 7 = .ok (.getfield 77, 3) ∧ decode cX10_isSo 10 = .ok (.iload_n 2, 1) ∧ decode cX10_isSo 11 = .ok (.iaload, 1) ∧ decode cX10_isSo 12 = .ok (.if_icmp .eq 23, 3) ∧ decode cX10_isSo 15 = .ok (.aload_n 0, 1) ∧ decode cX10_isSo 16 = .ok (.iload_n 1, 1) ∧ decode cX10_isSo 17 = .ok (.aload_n 0, 1) ∧ decode cX10_isSo 18 = .ok (.getfield 77, 3) ∧ decode cX10_isSo 21 = .ok (.iload_n 2, 1) ∧ decode cX10_isSo 22 = .ok (.iaload, 1) ∧ decode cX10_isSo 23 = .ok (.aload_n 0, 1) ∧ decode cX10_isSo 24 = .ok (.getfield 80, 3) ∧ decode cX10_isSo 27 = .ok (.iload_n 2, 1) ∧ decode cX10_isSo 28 = .ok (.iaload, 1) ∧ decode cX10_isSo 29 = .ok (.invokevirtual 302, 3) ∧ decode cX10_isSo 32 = .ok (.ifCond .eq 7, 3) ∧ decode cX10_isSo 35 = .ok (.iconst 1, 1) ∧ decode cX10_isSo 36 = .ok (.goto 4, 3) ∧ decode cX10_isSo 39 = .ok (.iconst 0, 1) ∧ decode cX10_isSo 40 = .ok (.ireturn, 1) ∧ True := dqC_ok (c := cX10_isSo) [(0, 1, some (.aload_n 0)), (1, 3, some (.getfield 80)), (4, 1, some (.iload_n 2)), (5, 1, some (.iaload)), (6, 1, some (.aload_n 0)), (7, 3, some (.getfield 77)), (10, 1, some (.iload_n 2)), (11, 1, some (.iaload)), (12, 3, some (.if_icmp .eq 23)), (15, 1, some (.aload_n 0)), (16, 1, some (.iload_n 1)), (17, 1, some (.aload_n 0)), (18, 3, some (.getfield 77)), (21, 1, some (.iload_n 2)), (22, 1, some (.iaload)), (23, 1, some (.aload_n 0)), (24, 3, some (.getfield 80)), (27, 1, some (.iload_n 2)), (28, 1, some (.iaload)), (29, 3, some (.invokevirtual 302)), (32, 3, some (.ifCond .eq 7)), (35, 1, some (.iconst 1)), (36, 3, some (.goto 4)), (39, 1, some (.iconst 0)), (40, 1, some (.ireturn))] _ 0 rfl (by decide +kernel)
theorem dX10_isSo_0 : decode cX10_isSo 0 = .ok (.aload_n 0, 1) := dq_g351.1
theorem dX10_isSo_1 : decode cX10_isSo 1 = .ok (.getfield 80, 3) := dq_g351.2.1
theorem dX10_isSo_4 : decode cX10_isSo 4 = .ok (.iload_n 2, 1) := dq_g351.2.2.1
theorem dX10_isSo_5 : decode cX10_isSo 5 = .ok (.iaload, 1) := dq_g351.2.2.2.1
theorem dX10_isSo_6 : decode cX10_isSo 6 = .ok (.aload_n 0, 1) := dq_g351.2.2.2.2.1
theorem dX10_isSo_7 : decode cX10_isSo 7 = .ok (.getfield 77, 3) := dq_g351.2.2.2.2.2.1
theorem dX10_isSo_10 : decode cX10_isSo 10 = .ok (.iload_n 2, 1) := dq_g351.2.2.2.2.2.2.1
theorem dX10_isSo_11 : decode cX10_isSo 11 = .ok (.iaload, 1) := dq_g351.2.2.2.2.2.2.2.1
theorem dX10_isSo_12 : decode cX10_isSo 12 = .ok (.if_icmp .eq 23, 3) := dq_g351.2.2.2.2.2.2.2.2.1
theorem dX10_isSo_15 : decode cX10_isSo 15 = .ok (.aload_n 0, 1) := dq_g351.2.2.2.2.2.2.2.2.2.1
theorem dX10_isSo_16 : decode cX10_isSo 16 = .ok (.iload_n 1, 1) := dq_g351.2.2.2.2.2.2.2.2.2.2.1
theorem dX10_isSo_17 : decode cX10_isSo 17 = .ok (.aload_n 0, 1) := dq_g351.2.2.2.2.2.2.2.2.2.2.2.1
theorem dX10_isSo_18 : decode cX10_isSo 18 = .ok (.getfield 77, 3) := dq_g351.2.2.2.2.2.2.2.2.2.2.2.2.1
theorem dX10_isSo_21 : decode cX10_isSo 21 = .ok (.iload_n 2, 1) := dq_g351.2.2.2.2.2.2.2.2.2.2.2.2.2.1
theorem dX10_isSo_22 : decode cX10_isSo 22 = .ok (.iaload, 1) := dq_g351.2.2.2.2.2.2.2.2.2.2.2.2.2.2.1
theorem dX10_isSo_23 : decode cX10_isSo 23 = .ok (.aload_n 0, 1) := dq_g351.2.2.2.2.2.2.2.2.2.2.2.2.2.2.2.1
theorem dX10_isSo_24 : decode cX10_isSo 24 = .ok (.getfield 80, 3) := dq_g351.2.2.2.2.2.2.2.2.2.2.2.2.2.2.2.2.1
theorem dX10_isSo_27 : decode cX10_isSo 27 = .ok (.iload_n 2, 1) := dq_g351.2.2.2.2.2.2.2.2.2.2.2.2.2.2.2.2.2.1
theorem dX10_isSo_28 : decode cX10_isSo 28 = .ok (.iaload, 1) := dq_g351.2.2.2.2.2.2.2.2.2.2.2.2.2.2.2.2.2.2.1
theorem dX10_isSo_29 : decode cX10_isSo 29 = .ok (.invokevirtual 302, 3) := dq_g351.2.2.2.2.2.2.2.2.2.2.2.2.2.2.2.2.2.2.2.1
theorem dX10_isSo_32 : decode cX10_isSo 32 = .ok (.ifCond .eq 7, 3) := dq_g351.2.2.2.2.2.2.2.2.2.2.2.2.2.2.2.2.2.2.2.2.1
theorem dX10_isSo_35 : decode cX10_isSo 35 = .ok (.iconst 1, 1) := dq_g351.2.2.2.2.2.2.2.2.2.2.2.2.2.2.2.2.2.2.2.2.2.1
theorem dX10_isSo_36 : decode cX10_isSo 36 = .ok (.goto 4, 3) := dq_g351.2.2.2.2.2.2.2.2.2.2.2.2.2.2.2.2.2.2.2.2.2.2.1
theorem dX10_isSo_39 : decode cX10_isSo 39 = .ok (.iconst 0, 1) := dq_g351.2.2.2.2.2.2.2.2.2.2.2.2.2.2.2.2.2.2.2.2.2.2.2.1
theorem dX10_isSo_40 : decode cX10_isSo 40 = .ok (.ireturn, 1) := dq_g351.2.2.2.2.2.2.2.2.2.2.2.2.2.2.2.2.2.2.2.2.2.2.2.2.1
theorem dq_g352 : decode cX10_tellsBy 0 = .ok (.iconst 0, 1) ∧ decode cX10_tellsBy 1 = .ok (.istore 4, 2) ∧ decode cX10_tellsBy 3 = .ok (.iconst 0, 1) ∧ decode cX10_tellsBy 4 = .ok (.istore 5, 2) ∧ decode cX10_tellsBy 6 = .ok (.bipush 16, 2) ∧ decode cX10_tellsBy 8 = .ok (.iload_n 1, 1) ∧ decode cX10_tellsBy 9 = .ok (.imul, 1) ∧ decode cX10_tellsBy 10 = .ok (.istore 6, 2) ∧ decode cX10_tellsBy 12 = .ok (.iload 6, 2) ∧ decode cX10_tellsBy 14 = .ok (.bipush 16, 2) ∧ decode cX10_tellsBy 16 = .ok (.iload_n 1, 1) ∧ decode cX10_tellsBy 17 = .ok (.imul, 1) ∧ decode cX10_tellsBy 18 = .ok (.aload_n 0, 1) ∧ decode cX10_tellsBy 19 = .ok (.getfield 59, 3) ∧ decode cX10_tellsBy 22 = .ok (.iload_n 1, 1) ∧ decode cX10_tellsBy 23 = .ok (.iaload, 1) ∧ decode cX10_tellsBy 24 = .ok (.iadd, 1) ∧ decode cX10_tellsBy 25 = .ok (.if_icmp .ge 78, 3) ∧ decode cX10_tellsBy 28 = .ok (.iload 5, 2) ∧ decode cX10_tellsBy 30 = .ok (.ifCond .ne 73, 3) ∧ decode cX10_tellsBy 33 = .ok (.aload_n 0, 1) ∧ decode cX10_tellsBy 34 = .ok (.getfield 62, 3) ∧ decode cX10_tellsBy 37 = .ok (.iload 6, 2) ∧ decode cX10_tellsBy 39 = .ok (.iaload, 1) ∧ decode cX10_tellsBy 40 = .ok (.iload_n 2, 1) ∧ decode cX10_tellsBy 41 = .ok (.if_icmp .ne 56, 3) ∧ decode cX10_tellsBy 44 = .ok (.iload_n 2, 1) ∧ decode cX10_tellsBy 45 = .ok (.iconst 3, 1) ∧ decode cX10_tellsBy 46 = .ok (.if_icmp .eq 14, 3) ∧ decode cX10_tellsBy 49 = .ok (.aload_n 0, 1) ∧ True := dqC_ok (c := cX10_tellsBy) [(0, 1, some (.iconst 0)), (1, 2, some (.istore 4)), (3, 1, some (.iconst 0)), (4, 2, some (.istore 5)), (6, 2, some (.bipush 16)), (8, 1, some (.iload_n 1)), (9, 1, some (.imul)), (10, 2, some (.istore 6)), (12, 2, some (.iload 6)), (14, 2, some (.bipush 16)), (16, 1, some (.iload_n 1)), (17, 1, some (.imul)), (18, 1, some (.aload_n 0)), (19, 3, some (.getfield 59)), (22, 1, some (.iload_n 1)), (23, 1, some (.iaload)), (24, 1, some (.iadd)), (25, 3, some (.if_icmp .ge 78)), (28, 2, some (.iload 5)), (30, 3, some (.ifCond .ne 73)), (33, 1, some (.aload_n 0)), (34, 3, some (.getfield 62)), (37, 2, some (.iload 6)), (39, 1, some (.iaload)), (40, 1, some (.iload_n 2)), (41, 3, some (.if_icmp .ne 56)), (44, 1, some (.iload_n 2)), (45, 1, some (.iconst 3)), (46, 3, some (.if_icmp .eq 14)), (49, 1, some (.aload_n 0))] _ 0 rfl (by decide +kernel)
theorem dX10_tellsBy_0 : decode cX10_tellsBy 0 = .ok (.iconst 0, 1) := dq_g352.1
theorem dX10_tellsBy_1 : decode cX10_tellsBy 1 = .ok (.istore 4, 2) := dq_g352.2.1
theorem dX10_tellsBy_3 : decode cX10_tellsBy 3 = .ok (.iconst 0, 1) := dq_g352.2.2.1
theorem dX10_tellsBy_4 : decode cX10_tellsBy 4 = .ok (.istore 5, 2) := dq_g352.2.2.2.1
theorem dX10_tellsBy_6 : decode cX10_tellsBy 6 = .ok (.bipush 16, 2) := dq_g352.2.2.2.2.1
theorem dX10_tellsBy_8 : decode cX10_tellsBy 8 = .ok (.iload_n 1, 1) := dq_g352.2.2.2.2.2.1
theorem dX10_tellsBy_9 : decode cX10_tellsBy 9 = .ok (.imul, 1) := dq_g352.2.2.2.2.2.2.1
theorem dX10_tellsBy_10 : decode cX10_tellsBy 10 = .ok (.istore 6, 2) := dq_g352.2.2.2.2.2.2.2.1
theorem dX10_tellsBy_12 : decode cX10_tellsBy 12 = .ok (.iload 6, 2) := dq_g352.2.2.2.2.2.2.2.2.1
theorem dX10_tellsBy_14 : decode cX10_tellsBy 14 = .ok (.bipush 16, 2) := dq_g352.2.2.2.2.2.2.2.2.2.1
theorem dX10_tellsBy_16 : decode cX10_tellsBy 16 = .ok (.iload_n 1, 1) := dq_g352.2.2.2.2.2.2.2.2.2.2.1
theorem dX10_tellsBy_17 : decode cX10_tellsBy 17 = .ok (.imul, 1) := dq_g352.2.2.2.2.2.2.2.2.2.2.2.1
theorem dX10_tellsBy_18 : decode cX10_tellsBy 18 = .ok (.aload_n 0, 1) := dq_g352.2.2.2.2.2.2.2.2.2.2.2.2.1
theorem dX10_tellsBy_19 : decode cX10_tellsBy 19 = .ok (.getfield 59, 3) := dq_g352.2.2.2.2.2.2.2.2.2.2.2.2.2.1
theorem dX10_tellsBy_22 : decode cX10_tellsBy 22 = .ok (.iload_n 1, 1) := dq_g352.2.2.2.2.2.2.2.2.2.2.2.2.2.2.1
theorem dX10_tellsBy_23 : decode cX10_tellsBy 23 = .ok (.iaload, 1) := dq_g352.2.2.2.2.2.2.2.2.2.2.2.2.2.2.2.1
theorem dX10_tellsBy_24 : decode cX10_tellsBy 24 = .ok (.iadd, 1) := dq_g352.2.2.2.2.2.2.2.2.2.2.2.2.2.2.2.2.1
theorem dX10_tellsBy_25 : decode cX10_tellsBy 25 = .ok (.if_icmp .ge 78, 3) := dq_g352.2.2.2.2.2.2.2.2.2.2.2.2.2.2.2.2.2.1
theorem dX10_tellsBy_28 : decode cX10_tellsBy 28 = .ok (.iload 5, 2) := dq_g352.2.2.2.2.2.2.2.2.2.2.2.2.2.2.2.2.2.2.1
theorem dX10_tellsBy_30 : decode cX10_tellsBy 30 = .ok (.ifCond .ne 73, 3) := dq_g352.2.2.2.2.2.2.2.2.2.2.2.2.2.2.2.2.2.2.2.1
theorem dX10_tellsBy_33 : decode cX10_tellsBy 33 = .ok (.aload_n 0, 1) := dq_g352.2.2.2.2.2.2.2.2.2.2.2.2.2.2.2.2.2.2.2.2.1
theorem dX10_tellsBy_34 : decode cX10_tellsBy 34 = .ok (.getfield 62, 3) := dq_g352.2.2.2.2.2.2.2.2.2.2.2.2.2.2.2.2.2.2.2.2.2.1
theorem dX10_tellsBy_37 : decode cX10_tellsBy 37 = .ok (.iload 6, 2) := dq_g352.2.2.2.2.2.2.2.2.2.2.2.2.2.2.2.2.2.2.2.2.2.2.1
theorem dX10_tellsBy_39 : decode cX10_tellsBy 39 = .ok (.iaload, 1) := dq_g352.2.2.2.2.2.2.2.2.2.2.2.2.2.2.2.2.2.2.2.2.2.2.2.1
theorem dX10_tellsBy_40 : decode cX10_tellsBy 40 = .ok (.iload_n 2, 1) := dq_g352.2.2.2.2.2.2.2.2.2.2.2.2.2.2.2.2.2.2.2.2.2.2.2.2.1
theorem dX10_tellsBy_41 : decode cX10_tellsBy 41 = .ok (.if_icmp .ne 56, 3) := dq_g352.2.2.2.2.2.2.2.2.2.2.2.2.2.2.2.2.2.2.2.2.2.2.2.2.2.1
theorem dX10_tellsBy_44 : decode cX10_tellsBy 44 = .ok (.iload_n 2, 1) := dq_g352.2.2.2.2.2.2.2.2.2.2.2.2.2.2.2.2.2.2.2.2.2.2.2.2.2.2.1
theorem dX10_tellsBy_45 : decode cX10_tellsBy 45 = .ok (.iconst 3, 1) := dq_g352.2.2.2.2.2.2.2.2.2.2.2.2.2.2.2.2.2.2.2.2.2.2.2.2.2.2.2.1
theorem dX10_tellsBy_46 : decode cX10_tellsBy 46 = .ok (.if_icmp .eq 14, 3) := dq_g352.2.2.2.2.2.2.2.2.2.2.2.2.2.2.2.2.2.2.2.2.2.2.2.2.2.2.2.2.1
theorem dX10_tellsBy_49 : decode cX10_tellsBy 49 = .ok (.aload_n 0, 1) := dq_g352.2.2.2.2.2.2.2.2.2.2.2.2.2.2.2.2.2.2.2.2.2.2.2.2.2.2.2.2.2.1
theorem dq_g353 : decode cX10_tellsBy 50 = .ok (.getfield 65, 3) ∧ decode cX10_tellsBy 53 = .ok (.iload 6, 2) ∧ decode cX10_tellsBy 55 = .ok (.iaload, 1) ∧ decode cX10_tellsBy 56 = .ok (.iload_n 3, 1) ∧ decode cX10_tellsBy 57 = .ok (.if_icmp .ne 40, 3) ∧ decode cX10_tellsBy 60 = .ok (.aload_n 0, 1) ∧ decode cX10_tellsBy 61 = .ok (.iload_n 1, 1) ∧ decode cX10_tellsBy 62 = .ok (.iload 6, 2) ∧ decode cX10_tellsBy 64 = .ok (.invokevirtual 305, 3) ∧ decode cX10_tellsBy 67 = .ok (.ifCond .ne 6, 3) ∧ decode cX10_tellsBy 70 = .ok (.goto 27, 3) ∧ decode cX10_tellsBy 73 = .ok (.iconst 1, 1) ∧ decode cX10_tellsBy 74 = .ok (.istore 5, 2) ∧ decode cX10_tellsBy 76 = .ok (.aload_n 0, 1) ∧ decode cX10_tellsBy 77 = .ok (.iload_n 1, 1) ∧ decode cX10_tellsBy 78 = .ok (.aload_n 0, 1) ∧ decode cX10_tellsBy 79 = .ok (.getfield 74, 3) ∧ decode cX10_tellsBy 82 = .ok (.iload 6, 2) ∧ decode cX10_tellsBy 84 = .ok (.iaload, 1) ∧ decode cX10_tellsBy 85 = .ok (.aload_n 0, 1) ∧ decode cX10_tellsBy 86 = .ok (.getfield 77, 3) ∧ decode cX10_tellsBy 89 = .ok (.iload 6, 2) ∧ decode cX10_tellsBy 91 = .ok (.iaload, 1) ∧ decode cX10_tellsBy 92 = .ok (.invokevirtual 302, 3) ∧ decode cX10_tellsBy 95 = .ok (.istore 4, 2) ∧ decode cX10_tellsBy 97 = .ok (.iinc 6 1, 3) ∧ decode cX10_tellsBy 100 = .ok (.goto (-88), 3) ∧ decode cX10_tellsBy 103 = .ok (.iload_n 2, 1) ∧ decode cX10_tellsBy 104 = .ok (.iconst 2, 1) ∧ decode cX10_tellsBy 105 = .ok (.if_icmp .ge 7, 3) ∧ True := dqC_ok (c := cX10_tellsBy) [(50, 3, some (.getfield 65)), (53, 2, some (.iload 6)), (55, 1, some (.iaload)), (56, 1, some (.iload_n 3)), (57, 3, some (.if_icmp .ne 40)), (60, 1, some (.aload_n 0)), (61, 1, some (.iload_n 1)), (62, 2, some (.iload 6)), (64, 3, some (.invokevirtual 305)), (67, 3, some (.ifCond .ne 6)), (70, 3, some (.goto 27)), (73, 1, some (.iconst 1)), (74, 2, some (.istore 5)), (76, 1, some (.aload_n 0)), (77, 1, some (.iload_n 1)), (78, 1, some (.aload_n 0)), (79, 3, some (.getfield 74)), (82, 2, some (.iload 6)), (84, 1, some (.iaload)), (85, 1, some (.aload_n 0)), (86, 3, some (.getfield 77)), (89, 2, some (.iload 6)), (91, 1, some (.iaload)), (92, 3, some (.invokevirtual 302)), (95, 2, some (.istore 4)), (97, 3, some (.iinc 6 1)), (100, 3, some (.goto (-88))), (103, 1, some (.iload_n 2)), (104, 1, some (.iconst 2)), (105, 3, some (.if_icmp .ge 7))] _ 50 rfl (by decide +kernel)
theorem dX10_tellsBy_50 : decode cX10_tellsBy 50 = .ok (.getfield 65, 3) := dq_g353.1
theorem dX10_tellsBy_53 : decode cX10_tellsBy 53 = .ok (.iload 6, 2) := dq_g353.2.1
theorem dX10_tellsBy_55 : decode cX10_tellsBy 55 = .ok (.iaload, 1) := dq_g353.2.2.1
theorem dX10_tellsBy_56 : decode cX10_tellsBy 56 = .ok (.iload_n 3, 1) := dq_g353.2.2.2.1
theorem dX10_tellsBy_57 : decode cX10_tellsBy 57 = .ok (.if_icmp .ne 40, 3) := dq_g353.2.2.2.2.1
theorem dX10_tellsBy_60 : decode cX10_tellsBy 60 = .ok (.aload_n 0, 1) := dq_g353.2.2.2.2.2.1
theorem dX10_tellsBy_61 : decode cX10_tellsBy 61 = .ok (.iload_n 1, 1) := dq_g353.2.2.2.2.2.2.1
theorem dX10_tellsBy_62 : decode cX10_tellsBy 62 = .ok (.iload 6, 2) := dq_g353.2.2.2.2.2.2.2.1
theorem dX10_tellsBy_64 : decode cX10_tellsBy 64 = .ok (.invokevirtual 305, 3) := dq_g353.2.2.2.2.2.2.2.2.1
theorem dX10_tellsBy_67 : decode cX10_tellsBy 67 = .ok (.ifCond .ne 6, 3) := dq_g353.2.2.2.2.2.2.2.2.2.1
theorem dX10_tellsBy_70 : decode cX10_tellsBy 70 = .ok (.goto 27, 3) := dq_g353.2.2.2.2.2.2.2.2.2.2.1
theorem dX10_tellsBy_73 : decode cX10_tellsBy 73 = .ok (.iconst 1, 1) := dq_g353.2.2.2.2.2.2.2.2.2.2.2.1
theorem dX10_tellsBy_74 : decode cX10_tellsBy 74 = .ok (.istore 5, 2) := dq_g353.2.2.2.2.2.2.2.2.2.2.2.2.1
theorem dX10_tellsBy_76 : decode cX10_tellsBy 76 = .ok (.aload_n 0, 1) := dq_g353.2.2.2.2.2.2.2.2.2.2.2.2.2.1
theorem dX10_tellsBy_77 : decode cX10_tellsBy 77 = .ok (.iload_n 1, 1) := dq_g353.2.2.2.2.2.2.2.2.2.2.2.2.2.2.1
theorem dX10_tellsBy_78 : decode cX10_tellsBy 78 = .ok (.aload_n 0, 1) := dq_g353.2.2.2.2.2.2.2.2.2.2.2.2.2.2.2.1
theorem dX10_tellsBy_79 : decode cX10_tellsBy 79 = .ok (.getfield 74, 3) := dq_g353.2.2.2.2.2.2.2.2.2.2.2.2.2.2.2.2.1
theorem dX10_tellsBy_82 : decode cX10_tellsBy 82 = .ok (.iload 6, 2) := dq_g353.2.2.2.2.2.2.2.2.2.2.2.2.2.2.2.2.2.1
theorem dX10_tellsBy_84 : decode cX10_tellsBy 84 = .ok (.iaload, 1) := dq_g353.2.2.2.2.2.2.2.2.2.2.2.2.2.2.2.2.2.2.1
theorem dX10_tellsBy_85 : decode cX10_tellsBy 85 = .ok (.aload_n 0, 1) := dq_g353.2.2.2.2.2.2.2.2.2.2.2.2.2.2.2.2.2.2.2.1
theorem dX10_tellsBy_86 : decode cX10_tellsBy 86 = .ok (.getfield 77, 3) := dq_g353.2.2.2.2.2.2.2.2.2.2.2.2.2.2.2.2.2.2.2.2.1
theorem dX10_tellsBy_89 : decode cX10_tellsBy 89 = .ok (.iload 6, 2) := dq_g353.2.2.2.2.2.2.2.2.2.2.2.2.2.2.2.2.2.2.2.2.2.1
theorem dX10_tellsBy_91 : decode cX10_tellsBy 91 = .ok (.iaload, 1) := dq_g353.2.2.2.2.2.2.2.2.2.2.2.2.2.2.2.2.2.2.2.2.2.2.1
theorem dX10_tellsBy_92 : decode cX10_tellsBy 92 = .ok (.invokevirtual 302, 3) := dq_g353.2.2.2.2.2.2.2.2.2.2.2.2.2.2.2.2.2.2.2.2.2.2.2.1
theorem dX10_tellsBy_95 : decode cX10_tellsBy 95 = .ok (.istore 4, 2) := dq_g353.2.2.2.2.2.2.2.2.2.2.2.2.2.2.2.2.2.2.2.2.2.2.2.2.1
theorem dX10_tellsBy_97 : decode cX10_tellsBy 97 = .ok (.iinc 6 1, 3) := dq_g353.2.2.2.2.2.2.2.2.2.2.2.2.2.2.2.2.2.2.2.2.2.2.2.2.2.1
theorem dX10_tellsBy_100 : decode cX10_tellsBy 100 = .ok (.goto (-88), 3) := dq_g353.2.2.2.2.2.2.2.2.2.2.2.2.2.2.2.2.2.2.2.2.2.2.2.2.2.2.1
theorem dX10_tellsBy_103 : decode cX10_tellsBy 103 = .ok (.iload_n 2, 1) := dq_g353.2.2.2.2.2.2.2.2.2.2.2.2.2.2.2.2.2.2.2.2.2.2.2.2.2.2.2.1
theorem dX10_tellsBy_104 : decode cX10_tellsBy 104 = .ok (.iconst 2, 1) := dq_g353.2.2.2.2.2.2.2.2.2.2.2.2.2.2.2.2.2.2.2.2.2.2.2.2.2.2.2.2.1
theorem dX10_tellsBy_105 : decode cX10_tellsBy 105 = .ok (.if_icmp .ge 7, 3) := dq_g353.2.2.2.2.2.2.2.2.2.2.2.2.2.2.2.2.2.2.2.2.2.2.2.2.2.2.2.2.2.1
theorem dq_g354 : decode cX10_tellsBy 108 = .ok (.iconst 0, 1) ∧ decode cX10_tellsBy 109 = .ok (.goto 6, 3) ∧ decode cX10_tellsBy 112 = .ok (.sipush (-9999), 3) ∧ decode cX10_tellsBy 115 = .ok (.istore 6, 2) ∧ decode cX10_tellsBy 117 = .ok (.iload_n 2, 1) ∧ decode cX10_tellsBy 118 = .ok (.iconst 2, 1) ∧ decode cX10_tellsBy 119 = .ok (.if_icmp .ge 9, 3) ∧ decode cX10_tellsBy 122 = .ok (.ldc_w 308, 3) ∧ decode cX10_tellsBy 125 = .ok (.goto 6, 3) ∧ decode cX10_tellsBy 128 = .ok (.sipush 9999, 3) ∧ decode cX10_tellsBy 131 = .ok (.istore 7, 2) ∧ decode cX10_tellsBy 133 = .ok (.iload 4, 2) ∧ decode cX10_tellsBy 135 = .ok (.iload 6, 2) ∧ decode cX10_tellsBy 137 = .ok (.if_icmp .ge 8, 3) ∧ decode cX10_tellsBy 140 = .ok (.iload 6, 2) ∧ decode cX10_tellsBy 142 = .ok (.goto 17, 3) ∧ decode cX10_tellsBy 145 = .ok (.iload 4, 2) ∧ decode cX10_tellsBy 147 = .ok (.iload 7, 2) ∧ decode cX10_tellsBy 149 = .ok (.if_icmp .le 8, 3) ∧ decode cX10_tellsBy 152 = .ok (.iload 7, 2) ∧ decode cX10_tellsBy 154 = .ok (.goto 5, 3) ∧ decode cX10_tellsBy 157 = .ok (.iload 4, 2) ∧ decode cX10_tellsBy 159 = .ok (.ireturn, 1) ∧ True := dqC_ok (c := cX10_tellsBy) [(108, 1, some (.iconst 0)), (109, 3, some (.goto 6)), (112, 3, some (.sipush (-9999))), (115, 2, some (.istore 6)), (117, 1, some (.iload_n 2)), (118, 1, some (.iconst 2)), (119, 3, some (.if_icmp .ge 9)), (122, 3, some (.ldc_w 308)), (125, 3, some (.goto 6)), (128, 3, some (.sipush 9999)), (131, 2, some (.istore 7)), (133, 2, some (.iload 4)), (135, 2, some (.iload 6)), (137, 3, some (.if_icmp .ge 8)), (140, 2, some (.iload 6)), (142, 3, some (.goto 17)), (145, 2, some (.iload 4)), (147, 2, some (.iload 7)), (149, 3, some (.if_icmp .le 8)), (152, 2, some (.iload 7)), (154, 3, some (.goto 5)), (157, 2, some (.iload 4)), (159, 1, some (.ireturn))] _ 108 rfl (by decide +kernel)
theorem dX10_tellsBy_108 : decode cX10_tellsBy 108 = .ok (.iconst 0, 1) := dq_g354.1
theorem dX10_tellsBy_109 : decode cX10_tellsBy 109 = .ok (.goto 6, 3) := dq_g354.2.1
theorem dX10_tellsBy_112 : decode cX10_tellsBy 112 = .ok (.sipush (-9999), 3) := dq_g354.2.2.1
theorem dX10_tellsBy_115 : decode cX10_tellsBy 115 = .ok (.istore 6, 2) := dq_g354.2.2.2.1
theorem dX10_tellsBy_117 : decode cX10_tellsBy 117 = .ok (.iload_n 2, 1) := dq_g354.2.2.2.2.1
theorem dX10_tellsBy_118 : decode cX10_tellsBy 118 = .ok (.iconst 2, 1) := dq_g354.2.2.2.2.2.1
theorem dX10_tellsBy_119 : decode cX10_tellsBy 119 = .ok (.if_icmp .ge 9, 3) := dq_g354.2.2.2.2.2.2.1
theorem dX10_tellsBy_122 : decode cX10_tellsBy 122 = .ok (.ldc_w 308, 3) := dq_g354.2.2.2.2.2.2.2.1
theorem dX10_tellsBy_125 : decode cX10_tellsBy 125 = .ok (.goto 6, 3) := dq_g354.2.2.2.2.2.2.2.2.1
theorem dX10_tellsBy_128 : decode cX10_tellsBy 128 = .ok (.sipush 9999, 3) := dq_g354.2.2.2.2.2.2.2.2.2.1
theorem dX10_tellsBy_131 : decode cX10_tellsBy 131 = .ok (.istore 7, 2) := dq_g354.2.2.2.2.2.2.2.2.2.2.1
theorem dX10_tellsBy_133 : decode cX10_tellsBy 133 = .ok (.iload 4, 2) := dq_g354.2.2.2.2.2.2.2.2.2.2.2.1
theorem dX10_tellsBy_135 : decode cX10_tellsBy 135 = .ok (.iload 6, 2) := dq_g354.2.2.2.2.2.2.2.2.2.2.2.2.1
theorem dX10_tellsBy_137 : decode cX10_tellsBy 137 = .ok (.if_icmp .ge 8, 3) := dq_g354.2.2.2.2.2.2.2.2.2.2.2.2.2.1
theorem dX10_tellsBy_140 : decode cX10_tellsBy 140 = .ok (.iload 6, 2) := dq_g354.2.2.2.2.2.2.2.2.2.2.2.2.2.2.1
theorem dX10_tellsBy_142 : decode cX10_tellsBy 142 = .ok (.goto 17, 3) := dq_g354.2.2.2.2.2.2.2.2.2.2.2.2.2.2.2.1
theorem dX10_tellsBy_145 : decode cX10_tellsBy 145 = .ok (.iload 4, 2) := dq_g354.2.2.2.2.2.2.2.2.2.2.2.2.2.2.2.2.1
theorem dX10_tellsBy_147 : decode cX10_tellsBy 147 = .ok (.iload 7, 2) := dq_g354.2.2.2.2.2.2.2.2.2.2.2.2.2.2.2.2.2.1
theorem dX10_tellsBy_149 : decode cX10_tellsBy 149 = .ok (.if_icmp .le 8, 3) := dq_g354.2.2.2.2.2.2.2.2.2.2.2.2.2.2.2.2.2.2.1
theorem dX10_tellsBy_152 : decode cX10_tellsBy 152 = .ok (.iload 7, 2) := dq_g354.2.2.2.2.2.2.2.2.2.2.2.2.2.2.2.2.2.2.2.1
theorem dX10_tellsBy_154 : decode cX10_tellsBy 154 = .ok (.goto 5, 3) := dq_g354.2.2.2.2.2.2.2.2.2.2.2.2.2.2.2.2.2.2.2.2.1
theorem dX10_tellsBy_157 : decode cX10_tellsBy 157 = .ok (.iload 4, 2) := dq_g354.2.2.2.2.2.2.2.2.2.2.2.2.2.2.2.2.2.2.2.2.2.1
theorem dX10_tellsBy_159 : decode cX10_tellsBy 159 = .ok (.ireturn, 1) := dq_g354.2.2.2.2.2.2.2.2.2.2.2.2.2.2.2.2.2.2.2.2.2.2.1
theorem dq_g355 : decode cX10_asks 0 = .ok (.iconst 0, 1) ∧ decode cX10_asks 1 = .ok (.istore 7, 2) ∧ decode cX10_asks 3 = .ok (.iload 7, 2) ∧ decode cX10_asks 5 = .ok (.bipush 14, 2) ∧ decode cX10_asks 7 = .ok (.if_icmp .ge 17, 3) ∧ decode cX10_asks 10 = .ok (.aload_n 0, 1) ∧ decode cX10_asks 11 = .ok (.getfield 95, 3) ∧ decode cX10_asks 14 = .ok (.iload 7, 2) ∧ decode cX10_asks 16 = .ok (.iconst 0, 1) ∧ decode cX10_asks 17 = .ok (.iastore, 1) ∧ decode cX10_asks 18 = .ok (.iinc 7 1, 3) ∧ decode cX10_asks 21 = .ok (.goto (-18), 3) ∧ decode cX10_asks 24 = .ok (.aload_n 0, 1) ∧ decode cX10_asks 25 = .ok (.getfield 95, 3) ∧ decode cX10_asks 28 = .ok (.iconst 0, 1) ∧ decode cX10_asks 29 = .ok (.iload_n 2, 1) ∧ decode cX10_asks 30 = .ok (.iastore, 1) ∧ decode cX10_asks 31 = .ok (.aload_n 0, 1) ∧ decode cX10_asks 32 = .ok (.getfield 95, 3) ∧ decode cX10_asks 35 = .ok (.iconst 1, 1) ∧ decode cX10_asks 36 = .ok (.iload_n 1, 1) ∧ decode cX10_asks 37 = .ok (.iastore, 1) ∧ decode cX10_asks 38 = .ok (.aload_n 0, 1) ∧ decode cX10_asks 39 = .ok (.getfield 95, 3) ∧ decode cX10_asks 42 = .ok (.iconst 2, 1) ∧ decode cX10_asks 43 = .ok (.aload_n 0, 1) ∧ decode cX10_asks 44 = .ok (.iconst 2, 1) ∧ decode cX10_asks 45 = .ok (.iload_n 2, 1) ∧ decode cX10_asks 46 = .ok (.imul, 1) ∧ decode cX10_asks 47 = .ok (.iconst 1, 1) ∧ True := dqC_ok (c := cX10_asks) [(0, 1, some (.iconst 0)), (1, 2, some (.istore 7)), (3, 2, some (.iload 7)), (5, 2, some (.bipush 14)), (7, 3, some (.if_icmp .ge 17)), (10, 1, some (.aload_n 0)), (11, 3, some (.getfield 95)), (14, 2, some (.iload 7)), (16, 1, some (.iconst 0)), (17, 1, some (.iastore)), (18, 3, some (.iinc 7 1)), (21, 3, some (.goto (-18))), (24, 1, some (.aload_n 0)), (25, 3, some (.getfield 95)), (28, 1, some (.iconst 0)), (29, 1, some (.iload_n 2)), (30, 1, some (.iastore)), (31, 1, some (.aload_n 0)), (32, 3, some (.getfield 95)), (35, 1, some (.iconst 1)), (36, 1, some (.iload_n 1)), (37, 1, some (.iastore)), (38, 1, some (.aload_n 0)), (39, 3, some (.getfield 95)), (42, 1, some (.iconst 2)), (43, 1, some (.aload_n 0)), (44, 1, some (.iconst 2)), (45, 1, some (.iload_n 2)), (46, 1, some (.imul)), (47, 1, some (.iconst 1))] _ 0 rfl (by decide +kernel)
theorem dX10_asks_0 : decode cX10_asks 0 = .ok (.iconst 0, 1) := dq_g355.1
theorem dX10_asks_1 : decode cX10_asks 1 = .ok (.istore 7, 2) := dq_g355.2.1
theorem dX10_asks_3 : decode cX10_asks 3 = .ok (.iload 7, 2) := dq_g355.2.2.1
theorem dX10_asks_5 : decode cX10_asks 5 = .ok (.bipush 14, 2) := dq_g355.2.2.2.1
theorem dX10_asks_7 : decode cX10_asks 7 = .ok (.if_icmp .ge 17, 3) := dq_g355.2.2.2.2.1
theorem dX10_asks_10 : decode cX10_asks 10 = .ok (.aload_n 0, 1) := dq_g355.2.2.2.2.2.1
theorem dX10_asks_11 : decode cX10_asks 11 = .ok (.getfield 95, 3) := dq_g355.2.2.2.2.2.2.1
theorem dX10_asks_14 : decode cX10_asks 14 = .ok (.iload 7, 2) := dq_g355.2.2.2.2.2.2.2.1
theorem dX10_asks_16 : decode cX10_asks 16 = .ok (.iconst 0, 1) := dq_g355.2.2.2.2.2.2.2.2.1
theorem dX10_asks_17 : decode cX10_asks 17 = .ok (.iastore, 1) := dq_g355.2.2.2.2.2.2.2.2.2.1
theorem dX10_asks_18 : decode cX10_asks 18 = .ok (.iinc 7 1, 3) := dq_g355.2.2.2.2.2.2.2.2.2.2.1
theorem dX10_asks_21 : decode cX10_asks 21 = .ok (.goto (-18), 3) := dq_g355.2.2.2.2.2.2.2.2.2.2.2.1
theorem dX10_asks_24 : decode cX10_asks 24 = .ok (.aload_n 0, 1) := dq_g355.2.2.2.2.2.2.2.2.2.2.2.2.1
theorem dX10_asks_25 : decode cX10_asks 25 = .ok (.getfield 95, 3) := dq_g355.2.2.2.2.2.2.2.2.2.2.2.2.2.1
theorem dX10_asks_28 : decode cX10_asks 28 = .ok (.iconst 0, 1) := dq_g355.2.2.2.2.2.2.2.2.2.2.2.2.2.2.1
theorem dX10_asks_29 : decode cX10_asks 29 = .ok (.iload_n 2, 1) := dq_g355.2.2.2.2.2.2.2.2.2.2.2.2.2.2.2.1
theorem dX10_asks_30 : decode cX10_asks 30 = .ok (.iastore, 1) := dq_g355.2.2.2.2.2.2.2.2.2.2.2.2.2.2.2.2.1
theorem dX10_asks_31 : decode cX10_asks 31 = .ok (.aload_n 0, 1) := dq_g355.2.2.2.2.2.2.2.2.2.2.2.2.2.2.2.2.2.1
theorem dX10_asks_32 : decode cX10_asks 32 = .ok (.getfield 95, 3) := dq_g355.2.2.2.2.2.2.2.2.2.2.2.2.2.2.2.2.2.2.1
theorem dX10_asks_35 : decode cX10_asks 35 = .ok (.iconst 1, 1) := dq_g355.2.2.2.2.2.2.2.2.2.2.2.2.2.2.2.2.2.2.2.1
theorem dX10_asks_36 : decode cX10_asks 36 = .ok (.iload_n 1, 1) := dq_g355.2.2.2.2.2.2.2.2.2.2.2.2.2.2.2.2.2.2.2.2.1
theorem dX10_asks_37 : decode cX10_asks 37 = .ok (.iastore, 1) := dq_g355.2.2.2.2.2.2.2.2.2.2.2.2.2.2.2.2.2.2.2.2.2.1
theorem dX10_asks_38 : decode cX10_asks 38 = .ok (.aload_n 0, 1) := dq_g355.2.2.2.2.2.2.2.2.2.2.2.2.2.2.2.2.2.2.2.2.2.2.1
theorem dX10_asks_39 : decode cX10_asks 39 = .ok (.getfield 95, 3) := dq_g355.2.2.2.2.2.2.2.2.2.2.2.2.2.2.2.2.2.2.2.2.2.2.2.1
theorem dX10_asks_42 : decode cX10_asks 42 = .ok (.iconst 2, 1) := dq_g355.2.2.2.2.2.2.2.2.2.2.2.2.2.2.2.2.2.2.2.2.2.2.2.2.1
theorem dX10_asks_43 : decode cX10_asks 43 = .ok (.aload_n 0, 1) := dq_g355.2.2.2.2.2.2.2.2.2.2.2.2.2.2.2.2.2.2.2.2.2.2.2.2.2.1
theorem dX10_asks_44 : decode cX10_asks 44 = .ok (.iconst 2, 1) := dq_g355.2.2.2.2.2.2.2.2.2.2.2.2.2.2.2.2.2.2.2.2.2.2.2.2.2.2.1
theorem dX10_asks_45 : decode cX10_asks 45 = .ok (.iload_n 2, 1) := dq_g355.2.2.2.2.2.2.2.2.2.2.2.2.2.2.2.2.2.2.2.2.2.2.2.2.2.2.2.1
theorem dX10_asks_46 : decode cX10_asks 46 = .ok (.imul, 1) := dq_g355.2.2.2.2.2.2.2.2.2.2.2.2.2.2.2.2.2.2.2.2.2.2.2.2.2.2.2.2.1
theorem dX10_asks_47 : decode cX10_asks 47 = .ok (.iconst 1, 1) := dq_g355.2.2.2.2.2.2.2.2.2.2.2.2.2.2.2.2.2.2.2.2.2.2.2.2.2.2.2.2.2.1
theorem dq_g356 : decode cX10_asks 48 = .ok (.iadd, 1) ∧ decode cX10_asks 49 = .ok (.iload_n 1, 1) ∧ decode cX10_asks 50 = .ok (.isub, 1) ∧ decode cX10_asks 51 = .ok (.invokevirtual 309, 3) ∧ decode cX10_asks 54 = .ok (.iastore, 1) ∧ decode cX10_asks 55 = .ok (.aload_n 0, 1) ∧ decode cX10_asks 56 = .ok (.getfield 95, 3) ∧ decode cX10_asks 59 = .ok (.iconst 3, 1) ∧ decode cX10_asks 60 = .ok (.iload_n 2, 1) ∧ decode cX10_asks 61 = .ok (.iload_n 1, 1) ∧ decode cX10_asks 62 = .ok (.iconst 1, 1) ∧ decode cX10_asks 63 = .ok (.isub, 1) ∧ decode cX10_asks 64 = .ok (.iload_n 2, 1) ∧ decode cX10_asks 65 = .ok (.isub, 1) ∧ decode cX10_asks 66 = .ok (.if_icmp .ge 7, 3) ∧ decode cX10_asks 69 = .ok (.iload_n 2, 1) ∧ decode cX10_asks 70 = .ok (.goto 8, 3) ∧ decode cX10_asks 73 = .ok (.iload_n 1, 1) ∧ decode cX10_asks 74 = .ok (.iconst 1, 1) ∧ decode cX10_asks 75 = .ok (.isub, 1) ∧ decode cX10_asks 76 = .ok (.iload_n 2, 1) ∧ decode cX10_asks 77 = .ok (.isub, 1) ∧ decode cX10_asks 78 = .ok (.iastore, 1) ∧ decode cX10_asks 79 = .ok (.aload_n 0, 1) ∧ decode cX10_asks 80 = .ok (.getfield 95, 3) ∧ decode cX10_asks 83 = .ok (.iconst 4, 1) ∧ decode cX10_asks 84 = .ok (.iload_n 3, 1) ∧ decode cX10_asks 85 = .ok (.iastore, 1) ∧ decode cX10_asks 86 = .ok (.aload_n 0, 1) ∧ decode cX10_asks 87 = .ok (.getfield 95, 3) ∧ True := dqC_ok (c := cX10_asks) [(48, 1, some (.iadd)), (49, 1, some (.iload_n 1)), (50, 1, some (.isub)), (51, 3, some (.invokevirtual 309)), (54, 1, some (.iastore)), (55, 1, some (.aload_n 0)), (56, 3, some (.getfield 95)), (59, 1, some (.iconst 3)), (60, 1, some (.iload_n 2)), (61, 1, some (.iload_n 1)), (62, 1, some (.iconst 1)), (63, 1, some (.isub)), (64, 1, some (.iload_n 2)), (65, 1, some (.isub)), (66, 3, some (.if_icmp .ge 7)), (69, 1, some (.iload_n 2)), (70, 3, some (.goto 8)), (73, 1, some (.iload_n 1)), (74, 1, some (.iconst 1)), (75, 1, some (.isub)), (76, 1, some (.iload_n 2)), (77, 1, some (.isub)), (78, 1, some (.iastore)), (79, 1, some (.aload_n 0)), (80, 3, some (.getfield 95)), (83, 1, some (.iconst 4)), (84, 1, some (.iload_n 3)), (85, 1, some (.iastore)), (86, 1, some (.aload_n 0)), (87, 3, some (.getfield 95))] _ 48 rfl (by decide +kernel)
theorem dX10_asks_48 : decode cX10_asks 48 = .ok (.iadd, 1) := dq_g356.1
theorem dX10_asks_49 : decode cX10_asks 49 = .ok (.iload_n 1, 1) := dq_g356.2.1
theorem dX10_asks_50 : decode cX10_asks 50 = .ok (.isub, 1) := dq_g356.2.2.1
theorem dX10_asks_51 : decode cX10_asks 51 = .ok (.invokevirtual 309, 3) := dq_g356.2.2.2.1
theorem dX10_asks_54 : decode cX10_asks 54 = .ok (.iastore, 1) := dq_g356.2.2.2.2.1
theorem dX10_asks_55 : decode cX10_asks 55 = .ok (.aload_n 0, 1) := dq_g356.2.2.2.2.2.1
theorem dX10_asks_56 : decode cX10_asks 56 = .ok (.getfield 95, 3) := dq_g356.2.2.2.2.2.2.1
theorem dX10_asks_59 : decode cX10_asks 59 = .ok (.iconst 3, 1) := dq_g356.2.2.2.2.2.2.2.1
theorem dX10_asks_60 : decode cX10_asks 60 = .ok (.iload_n 2, 1) := dq_g356.2.2.2.2.2.2.2.2.1
theorem dX10_asks_61 : decode cX10_asks 61 = .ok (.iload_n 1, 1) := dq_g356.2.2.2.2.2.2.2.2.2.1
theorem dX10_asks_62 : decode cX10_asks 62 = .ok (.iconst 1, 1) := dq_g356.2.2.2.2.2.2.2.2.2.2.1
theorem dX10_asks_63 : decode cX10_asks 63 = .ok (.isub, 1) := dq_g356.2.2.2.2.2.2.2.2.2.2.2.1
theorem dX10_asks_64 : decode cX10_asks 64 = .ok (.iload_n 2, 1) := dq_g356.2.2.2.2.2.2.2.2.2.2.2.2.1
theorem dX10_asks_65 : decode cX10_asks 65 = .ok (.isub, 1) := dq_g356.2.2.2.2.2.2.2.2.2.2.2.2.2.1
theorem dX10_asks_66 : decode cX10_asks 66 = .ok (.if_icmp .ge 7, 3) := dq_g356.2.2.2.2.2.2.2.2.2.2.2.2.2.2.1
theorem dX10_asks_69 : decode cX10_asks 69 = .ok (.iload_n 2, 1) := dq_g356.2.2.2.2.2.2.2.2.2.2.2.2.2.2.2.1
theorem dX10_asks_70 : decode cX10_asks 70 = .ok (.goto 8, 3) := dq_g356.2.2.2.2.2.2.2.2.2.2.2.2.2.2.2.2.1
theorem dX10_asks_73 : decode cX10_asks 73 = .ok (.iload_n 1, 1) := dq_g356.2.2.2.2.2.2.2.2.2.2.2.2.2.2.2.2.2.1
theorem dX10_asks_74 : decode cX10_asks 74 = .ok (.iconst 1, 1) := dq_g356.2.2.2.2.2.2.2.2.2.2.2.2.2.2.2.2.2.2.1
theorem dX10_asks_75 : decode cX10_asks 75 = .ok (.isub, 1) := dq_g356.2.2.2.2.2.2.2.2.2.2.2.2.2.2.2.2.2.2.2.1
theorem dX10_asks_76 : decode cX10_asks 76 = .ok (.iload_n 2, 1) := dq_g356.2.2.2.2.2.2.2.2.2.2.2.2.2.2.2.2.2.2.2.2.1
theorem dX10_asks_77 : decode cX10_asks 77 = .ok (.isub, 1) := dq_g356.2.2.2.2.2.2.2.2.2.2.2.2.2.2.2.2.2.2.2.2.2.1
theorem dX10_asks_78 : decode cX10_asks 78 = .ok (.iastore, 1) := dq_g356.2.2.2.2.2.2.2.2.2.2.2.2.2.2.2.2.2.2.2.2.2.2.1
theorem dX10_asks_79 : decode cX10_asks 79 = .ok (.aload_n 0, 1) := dq_g356.2.2.2.2.2.2.2.2.2.2.2.2.2.2.2.2.2.2.2.2.2.2.2.1
theorem dX10_asks_80 : decode cX10_asks 80 = .ok (.getfield 95, 3) := dq_g356.2.2.2.2.2.2.2.2.2.2.2.2.2.2.2.2.2.2.2.2.2.2.2.2.1
theorem dX10_asks_83 : decode cX10_asks 83 = .ok (.iconst 4, 1) := dq_g356.2.2.2.2.2.2.2.2.2.2.2.2.2.2.2.2.2.2.2.2.2.2.2.2.2.1
theorem dX10_asks_84 : decode cX10_asks 84 = .ok (.iload_n 3, 1) := dq_g356.2.2.2.2.2.2.2.2.2.2.2.2.2.2.2.2.2.2.2.2.2.2.2.2.2.2.1
theorem dX10_asks_85 : decode cX10_asks 85 = .ok (.iastore, 1) := dq_g356.2.2.2.2.2.2.2.2.2.2.2.2.2.2.2.2.2.2.2.2.2.2.2.2.2.2.2.1
theorem dX10_asks_86 : decode cX10_asks 86 = .ok (.aload_n 0, 1) := dq_g356.2.2.2.2.2.2.2.2.2.2.2.2.2.2.2.2.2.2.2.2.2.2.2.2.2.2.2.2.1
theorem dX10_asks_87 : decode cX10_asks 87 = .ok (.getfield 95, 3) := dq_g356.2.2.2.2.2.2.2.2.2.2.2.2.2.2.2.2.2.2.2.2.2.2.2.2.2.2.2.2.2.1
theorem dq_g357 : decode cX10_asks 90 = .ok (.iconst 5, 1) ∧ decode cX10_asks 91 = .ok (.iload 4, 2) ∧ decode cX10_asks 93 = .ok (.iastore, 1) ∧ decode cX10_asks 94 = .ok (.aload_n 0, 1) ∧ decode cX10_asks 95 = .ok (.getfield 95, 3) ∧ decode cX10_asks 98 = .ok (.bipush 6, 2) ∧ decode cX10_asks 100 = .ok (.iload 5, 2) ∧ decode cX10_asks 102 = .ok (.iastore, 1) ∧ decode cX10_asks 103 = .ok (.aload_n 0, 1) ∧ decode cX10_asks 104 = .ok (.getfield 95, 3) ∧ decode cX10_asks 107 = .ok (.bipush 7, 2) ∧ decode cX10_asks 109 = .ok (.iload 6, 2) ∧ decode cX10_asks 111 = .ok (.iastore, 1) ∧ decode cX10_asks 112 = .ok (.return_, 1) ∧ True := dqC_ok (c := cX10_asks) [(90, 1, some (.iconst 5)), (91, 2, some (.iload 4)), (93, 1, some (.iastore)), (94, 1, some (.aload_n 0)), (95, 3, some (.getfield 95)), (98, 2, some (.bipush 6)), (100, 2, some (.iload 5)), (102, 1, some (.iastore)), (103, 1, some (.aload_n 0)), (104, 3, some (.getfield 95)), (107, 2, some (.bipush 7)), (109, 2, some (.iload 6)), (111, 1, some (.iastore)), (112, 1, some (.return_))] _ 90 rfl (by decide +kernel)
theorem dX10_asks_90 : decode cX10_asks 90 = .ok (.iconst 5, 1) := dq_g357.1
theorem dX10_asks_91 : decode cX10_asks 91 = .ok (.iload 4, 2) := dq_g357.2.1
theorem dX10_asks_93 : decode cX10_asks 93 = .ok (.iastore, 1) := dq_g357.2.2.1
theorem dX10_asks_94 : decode cX10_asks 94 = .ok (.aload_n 0, 1) := dq_g357.2.2.2.1
theorem dX10_asks_95 : decode cX10_asks 95 = .ok (.getfield 95, 3) := dq_g357.2.2.2.2.1
theorem dX10_asks_98 : decode cX10_asks 98 = .ok (.bipush 6, 2) := dq_g357.2.2.2.2.2.1
theorem dX10_asks_100 : decode cX10_asks 100 = .ok (.iload 5, 2) := dq_g357.2.2.2.2.2.2.1
theorem dX10_asks_102 : decode cX10_asks 102 = .ok (.iastore, 1) := dq_g357.2.2.2.2.2.2.2.1
theorem dX10_asks_103 : decode cX10_asks 103 = .ok (.aload_n 0, 1) := dq_g357.2.2.2.2.2.2.2.2.1
theorem dX10_asks_104 : decode cX10_asks 104 = .ok (.getfield 95, 3) := dq_g357.2.2.2.2.2.2.2.2.2.1
theorem dX10_asks_107 : decode cX10_asks 107 = .ok (.bipush 7, 2) := dq_g357.2.2.2.2.2.2.2.2.2.2.1
theorem dX10_asks_109 : decode cX10_asks 109 = .ok (.iload 6, 2) := dq_g357.2.2.2.2.2.2.2.2.2.2.2.1
theorem dX10_asks_111 : decode cX10_asks 111 = .ok (.iastore, 1) := dq_g357.2.2.2.2.2.2.2.2.2.2.2.2.1
theorem dX10_asks_112 : decode cX10_asks 112 = .ok (.return_, 1) := dq_g357.2.2.2.2.2.2.2.2.2.2.2.2.2.1
theorem dq_g358 : decode cX10_asksSlice 0 = .ok (.aload_n 0, 1) ∧ decode cX10_asksSlice 1 = .ok (.aload_n 0, 1) ∧ decode cX10_asksSlice 2 = .ok (.getfield 13, 3) ∧ decode cX10_asksSlice 5 = .ok (.iload_n 1, 1) ∧ decode cX10_asksSlice 6 = .ok (.iaload, 1) ∧ decode cX10_asksSlice 7 = .ok (.iload_n 2, 1) ∧ decode cX10_asksSlice 8 = .ok (.aload_n 0, 1) ∧ decode cX10_asksSlice 9 = .ok (.getfield 17, 3) ∧ decode cX10_asksSlice 12 = .ok (.bipush 16, 2) ∧ decode cX10_asksSlice 14 = .ok (.iload_n 1, 1) ∧ decode cX10_asksSlice 15 = .ok (.imul, 1) ∧ decode cX10_asksSlice 16 = .ok (.iload_n 2, 1) ∧ decode cX10_asksSlice 17 = .ok (.iadd, 1) ∧ decode cX10_asksSlice 18 = .ok (.iaload, 1) ∧ decode cX10_asksSlice 19 = .ok (.aload_n 0, 1) ∧ decode cX10_asksSlice 20 = .ok (.getfield 20, 3) ∧ decode cX10_asksSlice 23 = .ok (.bipush 16, 2) ∧ decode cX10_asksSlice 25 = .ok (.iload_n 1, 1) ∧ decode cX10_asksSlice 26 = .ok (.imul, 1) ∧ decode cX10_asksSlice 27 = .ok (.iload_n 2, 1) ∧ decode cX10_asksSlice 28 = .ok (.iadd, 1) ∧ decode cX10_asksSlice 29 = .ok (.iaload, 1) ∧ decode cX10_asksSlice 30 = .ok (.aload_n 0, 1) ∧ decode cX10_asksSlice 31 = .ok (.getfield 23, 3) ∧ decode cX10_asksSlice 34 = .ok (.bipush 16, 2) ∧ decode cX10_asksSlice 36 = .ok (.iload_n 1, 1) ∧ decode cX10_asksSlice 37 = .ok (.imul, 1) ∧ decode cX10_asksSlice 38 = .ok (.iload_n 2, 1) ∧ decode cX10_asksSlice 39 = .ok (.iadd, 1) ∧ decode cX10_asksSlice 40 = .ok (.iaload, 1) ∧ True := dqC_ok (c := cX10_asksSlice) [(0, 1, some (.aload_n 0)), (1, 1, some (.aload_n 0)), (2, 3, some (.getfield 13)), (5, 1, some (.iload_n 1)), (6, 1, some (.iaload)), (7, 1, some (.iload_n 2)), (8, 1, some (.aload_n 0)), (9, 3, some (.getfield 17)), (12, 2, some (.bipush 16)), (14, 1, some (.iload_n 1)), (15, 1, some (.imul)), (16, 1, some (.iload_n 2)), (17, 1, some (.iadd)), (18, 1, some (.iaload)), (19, 1, some (.aload_n 0)), (20, 3, some (.getfield 20)), (23, 2, some (.bipush 16)), (25, 1, some (.iload_n 1)), (26, 1, some (.imul)), (27, 1, some (.iload_n 2)), (28, 1, some (.iadd)), (29, 1, some (.iaload)), (30, 1, some (.aload_n 0)), (31, 3, some (.getfield 23)), (34, 2, some (.bipush 16)), (36, 1, some (.iload_n 1)), (37, 1, some (.imul)), (38, 1, some (.iload_n 2)), (39, 1, some (.iadd)), (40, 1, some (.iaload))] _ 0 rfl (by decide +kernel)
theorem dX10_asksSlice_0 : decode cX10_asksSlice 0 = .ok (.aload_n 0, 1) := dq_g358.1
theorem dX10_asksSlice_1 : decode cX10_asksSlice 1 = .ok (.aload_n 0, 1) := dq_g358.2.1
theorem dX10_asksSlice_2 : decode cX10_asksSlice 2 = .ok (.getfield 13, 3) := dq_g358.2.2.1
theorem dX10_asksSlice_5 : decode cX10_asksSlice 5 = .ok (.iload_n 1, 1) := dq_g358.2.2.2.1
theorem dX10_asksSlice_6 : decode cX10_asksSlice 6 = .ok (.iaload, 1) := dq_g358.2.2.2.2.1
theorem dX10_asksSlice_7 : decode cX10_asksSlice 7 = .ok (.iload_n 2, 1) := dq_g358.2.2.2.2.2.1
theorem dX10_asksSlice_8 : decode cX10_asksSlice 8 = .ok (.aload_n 0, 1) := dq_g358.2.2.2.2.2.2.1
theorem dX10_asksSlice_9 : decode cX10_asksSlice 9 = .ok (.getfield 17, 3) := dq_g358.2.2.2.2.2.2.2.1
theorem dX10_asksSlice_12 : decode cX10_asksSlice 12 = .ok (.bipush 16, 2) := dq_g358.2.2.2.2.2.2.2.2.1
theorem dX10_asksSlice_14 : decode cX10_asksSlice 14 = .ok (.iload_n 1, 1) := dq_g358.2.2.2.2.2.2.2.2.2.1
theorem dX10_asksSlice_15 : decode cX10_asksSlice 15 = .ok (.imul, 1) := dq_g358.2.2.2.2.2.2.2.2.2.2.1
theorem dX10_asksSlice_16 : decode cX10_asksSlice 16 = .ok (.iload_n 2, 1) := dq_g358.2.2.2.2.2.2.2.2.2.2.2.1
theorem dX10_asksSlice_17 : decode cX10_asksSlice 17 = .ok (.iadd, 1) := dq_g358.2.2.2.2.2.2.2.2.2.2.2.2.1
theorem dX10_asksSlice_18 : decode cX10_asksSlice 18 = .ok (.iaload, 1) := dq_g358.2.2.2.2.2.2.2.2.2.2.2.2.2.1
theorem dX10_asksSlice_19 : decode cX10_asksSlice 19 = .ok (.aload_n 0, 1) := dq_g358.2.2.2.2.2.2.2.2.2.2.2.2.2.2.1
theorem dX10_asksSlice_20 : decode cX10_asksSlice 20 = .ok (.getfield 20, 3) := dq_g358.2.2.2.2.2.2.2.2.2.2.2.2.2.2.2.1
theorem dX10_asksSlice_23 : decode cX10_asksSlice 23 = .ok (.bipush 16, 2) := dq_g358.2.2.2.2.2.2.2.2.2.2.2.2.2.2.2.2.1
theorem dX10_asksSlice_25 : decode cX10_asksSlice 25 = .ok (.iload_n 1, 1) := dq_g358.2.2.2.2.2.2.2.2.2.2.2.2.2.2.2.2.2.1
theorem dX10_asksSlice_26 : decode cX10_asksSlice 26 = .ok (.imul, 1) := dq_g358.2.2.2.2.2.2.2.2.2.2.2.2.2.2.2.2.2.2.1
theorem dX10_asksSlice_27 : decode cX10_asksSlice 27 = .ok (.iload_n 2, 1) := dq_g358.2.2.2.2.2.2.2.2.2.2.2.2.2.2.2.2.2.2.2.1
theorem dX10_asksSlice_28 : decode cX10_asksSlice 28 = .ok (.iadd, 1) := dq_g358.2.2.2.2.2.2.2.2.2.2.2.2.2.2.2.2.2.2.2.2.1
theorem dX10_asksSlice_29 : decode cX10_asksSlice 29 = .ok (.iaload, 1) := dq_g358.2.2.2.2.2.2.2.2.2.2.2.2.2.2.2.2.2.2.2.2.2.1
theorem dX10_asksSlice_30 : decode cX10_asksSlice 30 = .ok (.aload_n 0, 1) := dq_g358.2.2.2.2.2.2.2.2.2.2.2.2.2.2.2.2.2.2.2.2.2.2.1
theorem dX10_asksSlice_31 : decode cX10_asksSlice 31 = .ok (.getfield 23, 3) := dq_g358.2.2.2.2.2.2.2.2.2.2.2.2.2.2.2.2.2.2.2.2.2.2.2.1
theorem dX10_asksSlice_34 : decode cX10_asksSlice 34 = .ok (.bipush 16, 2) := dq_g358.2.2.2.2.2.2.2.2.2.2.2.2.2.2.2.2.2.2.2.2.2.2.2.2.1
theorem dX10_asksSlice_36 : decode cX10_asksSlice 36 = .ok (.iload_n 1, 1) := dq_g358.2.2.2.2.2.2.2.2.2.2.2.2.2.2.2.2.2.2.2.2.2.2.2.2.2.1
theorem dX10_asksSlice_37 : decode cX10_asksSlice 37 = .ok (.imul, 1) := dq_g358.2.2.2.2.2.2.2.2.2.2.2.2.2.2.2.2.2.2.2.2.2.2.2.2.2.2.1
theorem dX10_asksSlice_38 : decode cX10_asksSlice 38 = .ok (.iload_n 2, 1) := dq_g358.2.2.2.2.2.2.2.2.2.2.2.2.2.2.2.2.2.2.2.2.2.2.2.2.2.2.2.1
theorem dX10_asksSlice_39 : decode cX10_asksSlice 39 = .ok (.iadd, 1) := dq_g358.2.2.2.2.2.2.2.2.2.2.2.2.2.2.2.2.2.2.2.2.2.2.2.2.2.2.2.2.1
theorem dX10_asksSlice_40 : decode cX10_asksSlice 40 = .ok (.iaload, 1) := dq_g358.2.2.2.2.2.2.2.2.2.2.2.2.2.2.2.2.2.2.2.2.2.2.2.2.2.2.2.2.2.1
theorem dq_g359 : decode cX10_asksSlice 41 = .ok (.aload_n 0, 1) ∧ decode cX10_asksSlice 42 = .ok (.getfield 26, 3) ∧ decode cX10_asksSlice 45 = .ok (.bipush 16, 2) ∧ decode cX10_asksSlice 47 = .ok (.iload_n 1, 1) ∧ decode cX10_asksSlice 48 = .ok (.imul, 1) ∧ decode cX10_asksSlice 49 = .ok (.iload_n 2, 1) ∧ decode cX10_asksSlice 50 = .ok (.iadd, 1) ∧ decode cX10_asksSlice 51 = .ok (.iaload, 1) ∧ decode cX10_asksSlice 52 = .ok (.invokevirtual 312, 3) ∧ decode cX10_asksSlice 55 = .ok (.return_, 1) ∧ True := dqC_ok (c := cX10_asksSlice) [(41, 1, some (.aload_n 0)), (42, 3, some (.getfield 26)), (45, 2, some (.bipush 16)), (47, 1, some (.iload_n 1)), (48, 1, some (.imul)), (49, 1, some (.iload_n 2)), (50, 1, some (.iadd)), (51, 1, some (.iaload)), (52, 3, some (.invokevirtual 312)), (55, 1, some (.return_))] _ 41 rfl (by decide +kernel)
theorem dX10_asksSlice_41 : decode cX10_asksSlice 41 = .ok (.aload_n 0, 1) := dq_g359.1
theorem dX10_asksSlice_42 : decode cX10_asksSlice 42 = .ok (.getfield 26, 3) := dq_g359.2.1
theorem dX10_asksSlice_45 : decode cX10_asksSlice 45 = .ok (.bipush 16, 2) := dq_g359.2.2.1
theorem dX10_asksSlice_47 : decode cX10_asksSlice 47 = .ok (.iload_n 1, 1) := dq_g359.2.2.2.1
theorem dX10_asksSlice_48 : decode cX10_asksSlice 48 = .ok (.imul, 1) := dq_g359.2.2.2.2.1
theorem dX10_asksSlice_49 : decode cX10_asksSlice 49 = .ok (.iload_n 2, 1) := dq_g359.2.2.2.2.2.1
theorem dX10_asksSlice_50 : decode cX10_asksSlice 50 = .ok (.iadd, 1) := dq_g359.2.2.2.2.2.2.1
theorem dX10_asksSlice_51 : decode cX10_asksSlice 51 = .ok (.iaload, 1) := dq_g359.2.2.2.2.2.2.2.1
theorem dX10_asksSlice_52 : decode cX10_asksSlice 52 = .ok (.invokevirtual 312, 3) := dq_g359.2.2.2.2.2.2.2.2.1
theorem dX10_asksSlice_55 : decode cX10_asksSlice 55 = .ok (.return_, 1) := dq_g359.2.2.2.2.2.2.2.2.2.1
theorem dq_g360 : decode cX10_toneBy 0 = .ok (.iconst 0, 1) ∧ decode cX10_toneBy 1 = .ok (.istore 4, 2) ∧ decode cX10_toneBy 3 = .ok (.iconst 0, 1) ∧ decode cX10_toneBy 4 = .ok (.istore 5, 2) ∧ decode cX10_toneBy 6 = .ok (.iconst 0, 1) ∧ decode cX10_toneBy 7 = .ok (.istore 6, 2) ∧ decode cX10_toneBy 9 = .ok (.iload 6, 2) ∧ decode cX10_toneBy 11 = .ok (.aload_n 0, 1) ∧ decode cX10_toneBy 12 = .ok (.getfield 13, 3) ∧ decode cX10_toneBy 15 = .ok (.iload_n 2, 1) ∧ decode cX10_toneBy 16 = .ok (.iaload, 1) ∧ decode cX10_toneBy 17 = .ok (.if_icmp .ge 40, 3) ∧ decode cX10_toneBy 20 = .ok (.aload_n 0, 1) ∧ decode cX10_toneBy 21 = .ok (.iload_n 2, 1) ∧ decode cX10_toneBy 22 = .ok (.iload 6, 2) ∧ decode cX10_toneBy 24 = .ok (.invokevirtual 316, 3) ∧ decode cX10_toneBy 27 = .ok (.iload 4, 2) ∧ decode cX10_toneBy 29 = .ok (.aload_n 0, 1) ∧ decode cX10_toneBy 30 = .ok (.iload_n 1, 1) ∧ decode cX10_toneBy 31 = .ok (.iconst 0, 1) ∧ decode cX10_toneBy 32 = .ok (.iload_n 3, 1) ∧ decode cX10_toneBy 33 = .ok (.invokevirtual 319, 3) ∧ decode cX10_toneBy 36 = .ok (.iadd, 1) ∧ decode cX10_toneBy 37 = .ok (.istore 4, 2) ∧ decode cX10_toneBy 39 = .ok (.iload 5, 2) ∧ decode cX10_toneBy 41 = .ok (.aload_n 0, 1) ∧ decode cX10_toneBy 42 = .ok (.iload_n 1, 1) ∧ decode cX10_toneBy 43 = .ok (.iconst 1, 1) ∧ decode cX10_toneBy 44 = .ok (.iload_n 3, 1) ∧ decode cX10_toneBy 45 = .ok (.invokevirtual 319, 3) ∧ True := dqC_ok (c := cX10_toneBy) [(0, 1, some (.iconst 0)), (1, 2, some (.istore 4)), (3, 1, some (.iconst 0)), (4, 2, some (.istore 5)), (6, 1, some (.iconst 0)), (7, 2, some (.istore 6)), (9, 2, some (.iload 6)), (11, 1, some (.aload_n 0)), (12, 3, some (.getfield 13)), (15, 1, some (.iload_n 2)), (16, 1, some (.iaload)), (17, 3, some (.if_icmp .ge 40)), (20, 1, some (.aload_n 0)), (21, 1, some (.iload_n 2)), (22, 2, some (.iload 6)), (24, 3, some (.invokevirtual 316)), (27, 2, some (.iload 4)), (29, 1, some (.aload_n 0)), (30, 1, some (.iload_n 1)), (31, 1, some (.iconst 0)), (32, 1, some (.iload_n 3)), (33, 3, some (.invokevirtual 319)), (36, 1, some (.iadd)), (37, 2, some (.istore 4)), (39, 2, some (.iload 5)), (41, 1, some (.aload_n 0)), (42, 1, some (.iload_n 1)), (43, 1, some (.iconst 1)), (44, 1, some (.iload_n 3)), (45, 3, some (.invokevirtual 319))] _ 0 rfl (by decide +kernel)
theorem dX10_toneBy_0 : decode cX10_toneBy 0 = .ok (.iconst 0, 1) := dq_g360.1
theorem dX10_toneBy_1 : decode cX10_toneBy 1 = .ok (.istore 4, 2) := dq_g360.2.1
theorem dX10_toneBy_3 : decode cX10_toneBy 3 = .ok (.iconst 0, 1) := dq_g360.2.2.1
theorem dX10_toneBy_4 : decode cX10_toneBy 4 = .ok (.istore 5, 2) := dq_g360.2.2.2.1
theorem dX10_toneBy_6 : decode cX10_toneBy 6 = .ok (.iconst 0, 1) := dq_g360.2.2.2.2.1
theorem dX10_toneBy_7 : decode cX10_toneBy 7 = .ok (.istore 6, 2) := dq_g360.2.2.2.2.2.1
theorem dX10_toneBy_9 : decode cX10_toneBy 9 = .ok (.iload 6, 2) := dq_g360.2.2.2.2.2.2.1
theorem dX10_toneBy_11 : decode cX10_toneBy 11 = .ok (.aload_n 0, 1) := dq_g360.2.2.2.2.2.2.2.1
theorem dX10_toneBy_12 : decode cX10_toneBy 12 = .ok (.getfield 13, 3) := dq_g360.2.2.2.2.2.2.2.2.1
theorem dX10_toneBy_15 : decode cX10_toneBy 15 = .ok (.iload_n 2, 1) := dq_g360.2.2.2.2.2.2.2.2.2.1
theorem dX10_toneBy_16 : decode cX10_toneBy 16 = .ok (.iaload, 1) := dq_g360.2.2.2.2.2.2.2.2.2.2.1
theorem dX10_toneBy_17 : decode cX10_toneBy 17 = .ok (.if_icmp .ge 40, 3) := dq_g360.2.2.2.2.2.2.2.2.2.2.2.1
theorem dX10_toneBy_20 : decode cX10_toneBy 20 = .ok (.aload_n 0, 1) := dq_g360.2.2.2.2.2.2.2.2.2.2.2.2.1
theorem dX10_toneBy_21 : decode cX10_toneBy 21 = .ok (.iload_n 2, 1) := dq_g360.2.2.2.2.2.2.2.2.2.2.2.2.2.1
theorem dX10_toneBy_22 : decode cX10_toneBy 22 = .ok (.iload 6, 2) := dq_g360.2.2.2.2.2.2.2.2.2.2.2.2.2.2.1
theorem dX10_toneBy_24 : decode cX10_toneBy 24 = .ok (.invokevirtual 316, 3) := dq_g360.2.2.2.2.2.2.2.2.2.2.2.2.2.2.2.1
theorem dX10_toneBy_27 : decode cX10_toneBy 27 = .ok (.iload 4, 2) := dq_g360.2.2.2.2.2.2.2.2.2.2.2.2.2.2.2.2.1
theorem dX10_toneBy_29 : decode cX10_toneBy 29 = .ok (.aload_n 0, 1) := dq_g360.2.2.2.2.2.2.2.2.2.2.2.2.2.2.2.2.2.1
theorem dX10_toneBy_30 : decode cX10_toneBy 30 = .ok (.iload_n 1, 1) := dq_g360.2.2.2.2.2.2.2.2.2.2.2.2.2.2.2.2.2.2.1
theorem dX10_toneBy_31 : decode cX10_toneBy 31 = .ok (.iconst 0, 1) := dq_g360.2.2.2.2.2.2.2.2.2.2.2.2.2.2.2.2.2.2.2.1
theorem dX10_toneBy_32 : decode cX10_toneBy 32 = .ok (.iload_n 3, 1) := dq_g360.2.2.2.2.2.2.2.2.2.2.2.2.2.2.2.2.2.2.2.2.1
theorem dX10_toneBy_33 : decode cX10_toneBy 33 = .ok (.invokevirtual 319, 3) := dq_g360.2.2.2.2.2.2.2.2.2.2.2.2.2.2.2.2.2.2.2.2.2.1
theorem dX10_toneBy_36 : decode cX10_toneBy 36 = .ok (.iadd, 1) := dq_g360.2.2.2.2.2.2.2.2.2.2.2.2.2.2.2.2.2.2.2.2.2.2.1
theorem dX10_toneBy_37 : decode cX10_toneBy 37 = .ok (.istore 4, 2) := dq_g360.2.2.2.2.2.2.2.2.2.2.2.2.2.2.2.2.2.2.2.2.2.2.2.1
theorem dX10_toneBy_39 : decode cX10_toneBy 39 = .ok (.iload 5, 2) := dq_g360.2.2.2.2.2.2.2.2.2.2.2.2.2.2.2.2.2.2.2.2.2.2.2.2.1
theorem dX10_toneBy_41 : decode cX10_toneBy 41 = .ok (.aload_n 0, 1) := dq_g360.2.2.2.2.2.2.2.2.2.2.2.2.2.2.2.2.2.2.2.2.2.2.2.2.2.1
theorem dX10_toneBy_42 : decode cX10_toneBy 42 = .ok (.iload_n 1, 1) := dq_g360.2.2.2.2.2.2.2.2.2.2.2.2.2.2.2.2.2.2.2.2.2.2.2.2.2.2.1
theorem dX10_toneBy_43 : decode cX10_toneBy 43 = .ok (.iconst 1, 1) := dq_g360.2.2.2.2.2.2.2.2.2.2.2.2.2.2.2.2.2.2.2.2.2.2.2.2.2.2.2.1
theorem dX10_toneBy_44 : decode cX10_toneBy 44 = .ok (.iload_n 3, 1) := dq_g360.2.2.2.2.2.2.2.2.2.2.2.2.2.2.2.2.2.2.2.2.2.2.2.2.2.2.2.2.1
theorem dX10_toneBy_45 : decode cX10_toneBy 45 = .ok (.invokevirtual 319, 3) := dq_g360.2.2.2.2.2.2.2.2.2.2.2.2.2.2.2.2.2.2.2.2.2.2.2.2.2.2.2.2.2.1
theorem dq_g361 : decode cX10_toneBy 48 = .ok (.iadd, 1) ∧ decode cX10_toneBy 49 = .ok (.istore 5, 2) ∧ decode cX10_toneBy 51 = .ok (.iinc 6 1, 3) ∧ decode cX10_toneBy 54 = .ok (.goto (-45), 3) ∧ decode cX10_toneBy 57 = .ok (.iload 5, 2) ∧ decode cX10_toneBy 59 = .ok (.ifCond .ne 7, 3) ∧ decode cX10_toneBy 62 = .ok (.iconst 0, 1) ∧ decode cX10_toneBy 63 = .ok (.goto 12, 3) ∧ decode cX10_toneBy 66 = .ok (.sipush 1000, 3) ∧ decode cX10_toneBy 69 = .ok (.iload 4, 2) ∧ decode cX10_toneBy 71 = .ok (.imul, 1) ∧ decode cX10_toneBy 72 = .ok (.iload 5, 2) ∧ decode cX10_toneBy 74 = .ok (.idiv, 1) ∧ decode cX10_toneBy 75 = .ok (.ireturn, 1) ∧ True := dqC_ok (c := cX10_toneBy) [(48, 1, some (.iadd)), (49, 2, some (.istore 5)), (51, 3, some (.iinc 6 1)), (54, 3, some (.goto (-45))), (57, 2, some (.iload 5)), (59, 3, some (.ifCond .ne 7)), (62, 1, some (.iconst 0)), (63, 3, some (.goto 12)), (66, 3, some (.sipush 1000)), (69, 2, some (.iload 4)), (71, 1, some (.imul)), (72, 2, some (.iload 5)), (74, 1, some (.idiv)), (75, 1, some (.ireturn))] _ 48 rfl (by decide +kernel)
theorem dX10_toneBy_48 : decode cX10_toneBy 48 = .ok (.iadd, 1) := dq_g361.1
theorem dX10_toneBy_49 : decode cX10_toneBy 49 = .ok (.istore 5, 2) := dq_g361.2.1
theorem dX10_toneBy_51 : decode cX10_toneBy 51 = .ok (.iinc 6 1, 3) := dq_g361.2.2.1
theorem dX10_toneBy_54 : decode cX10_toneBy 54 = .ok (.goto (-45), 3) := dq_g361.2.2.2.1
theorem dX10_toneBy_57 : decode cX10_toneBy 57 = .ok (.iload 5, 2) := dq_g361.2.2.2.2.1
theorem dX10_toneBy_59 : decode cX10_toneBy 59 = .ok (.ifCond .ne 7, 3) := dq_g361.2.2.2.2.2.1
theorem dX10_toneBy_62 : decode cX10_toneBy 62 = .ok (.iconst 0, 1) := dq_g361.2.2.2.2.2.2.1
theorem dX10_toneBy_63 : decode cX10_toneBy 63 = .ok (.goto 12, 3) := dq_g361.2.2.2.2.2.2.2.1
theorem dX10_toneBy_66 : decode cX10_toneBy 66 = .ok (.sipush 1000, 3) := dq_g361.2.2.2.2.2.2.2.2.1
theorem dX10_toneBy_69 : decode cX10_toneBy 69 = .ok (.iload 4, 2) := dq_g361.2.2.2.2.2.2.2.2.2.1
theorem dX10_toneBy_71 : decode cX10_toneBy 71 = .ok (.imul, 1) := dq_g361.2.2.2.2.2.2.2.2.2.2.1
theorem dX10_toneBy_72 : decode cX10_toneBy 72 = .ok (.iload 5, 2) := dq_g361.2.2.2.2.2.2.2.2.2.2.2.1
theorem dX10_toneBy_74 : decode cX10_toneBy 74 = .ok (.idiv, 1) := dq_g361.2.2.2.2.2.2.2.2.2.2.2.2.1
theorem dX10_toneBy_75 : decode cX10_toneBy 75 = .ok (.ireturn, 1) := dq_g361.2.2.2.2.2.2.2.2.2.2.2.2.2.1
theorem dq_g362 : decode cX10_toneNow 0 = .ok (.aload_n 0, 1) ∧ decode cX10_toneNow 1 = .ok (.aload_n 0, 1) ∧ decode cX10_toneNow 2 = .ok (.getfield 322, 3) ∧ decode cX10_toneNow 5 = .ok (.iload_n 1, 1) ∧ decode cX10_toneNow 6 = .ok (.iload_n 2, 1) ∧ decode cX10_toneNow 7 = .ok (.invokevirtual 325, 3) ∧ decode cX10_toneNow 10 = .ok (.ireturn, 1) ∧ True := dqC_ok (c := cX10_toneNow) [(0, 1, some (.aload_n 0)), (1, 1, some (.aload_n 0)), (2, 3, some (.getfield 322)), (5, 1, some (.iload_n 1)), (6, 1, some (.iload_n 2)), (7, 3, some (.invokevirtual 325)), (10, 1, some (.ireturn))] _ 0 rfl (by decide +kernel)
theorem dX10_toneNow_0 : decode cX10_toneNow 0 = .ok (.aload_n 0, 1) := dq_g362.1
theorem dX10_toneNow_1 : decode cX10_toneNow 1 = .ok (.aload_n 0, 1) := dq_g362.2.1
theorem dX10_toneNow_2 : decode cX10_toneNow 2 = .ok (.getfield 322, 3) := dq_g362.2.2.1
theorem dX10_toneNow_5 : decode cX10_toneNow 5 = .ok (.iload_n 1, 1) := dq_g362.2.2.2.1
theorem dX10_toneNow_6 : decode cX10_toneNow 6 = .ok (.iload_n 2, 1) := dq_g362.2.2.2.2.1
theorem dX10_toneNow_7 : decode cX10_toneNow 7 = .ok (.invokevirtual 325, 3) := dq_g362.2.2.2.2.2.1
theorem dX10_toneNow_10 : decode cX10_toneNow 10 = .ok (.ireturn, 1) := dq_g362.2.2.2.2.2.2.1
theorem dq_g363 : decode cX10_isLaw 0 = .ok (.iload_n 1, 1) ∧ decode cX10_isLaw 1 = .ok (.ifCond .eq 8, 3) ∧ decode cX10_isLaw 4 = .ok (.iload_n 1, 1) ∧ decode cX10_isLaw 5 = .ok (.iconst 1, 1) ∧ decode cX10_isLaw 6 = .ok (.if_icmp .ne 7, 3) ∧ decode cX10_isLaw 9 = .ok (.iconst 1, 1) ∧ decode cX10_isLaw 10 = .ok (.goto 4, 3) ∧ decode cX10_isLaw 13 = .ok (.iconst 0, 1) ∧ decode cX10_isLaw 14 = .ok (.ireturn, 1) ∧ True := dqC_ok (c := cX10_isLaw) [(0, 1, some (.iload_n 1)), (1, 3, some (.ifCond .eq 8)), (4, 1, some (.iload_n 1)), (5, 1, some (.iconst 1)), (6, 3, some (.if_icmp .ne 7)), (9, 1, some (.iconst 1)), (10, 3, some (.goto 4)), (13, 1, some (.iconst 0)), (14, 1, some (.ireturn))] _ 0 rfl (by decide +kernel)
theorem dX10_isLaw_0 : decode cX10_isLaw 0 = .ok (.iload_n 1, 1) := dq_g363.1
theorem dX10_isLaw_1 : decode cX10_isLaw 1 = .ok (.ifCond .eq 8, 3) := dq_g363.2.1
theorem dX10_isLaw_4 : decode cX10_isLaw 4 = .ok (.iload_n 1, 1) := dq_g363.2.2.1
theorem dX10_isLaw_5 : decode cX10_isLaw 5 = .ok (.iconst 1, 1) := dq_g363.2.2.2.1
theorem dX10_isLaw_6 : decode cX10_isLaw 6 = .ok (.if_icmp .ne 7, 3) := dq_g363.2.2.2.2.1
theorem dX10_isLaw_9 : decode cX10_isLaw 9 = .ok (.iconst 1, 1) := dq_g363.2.2.2.2.2.1
theorem dX10_isLaw_10 : decode cX10_isLaw 10 = .ok (.goto 4, 3) := dq_g363.2.2.2.2.2.2.1
theorem dX10_isLaw_13 : decode cX10_isLaw 13 = .ok (.iconst 0, 1) := dq_g363.2.2.2.2.2.2.2.1
theorem dX10_isLaw_14 : decode cX10_isLaw 14 = .ok (.ireturn, 1) := dq_g363.2.2.2.2.2.2.2.2.1
theorem dq_g364 : decode cX10_force 0 = .ok (.aload_n 0, 1) ∧ decode cX10_force 1 = .ok (.iconst 0, 1) ∧ decode cX10_force 2 = .ok (.putfield 167, 3) ∧ decode cX10_force 5 = .ok (.aload_n 0, 1) ∧ decode cX10_force 6 = .ok (.iload_n 1, 1) ∧ decode cX10_force 7 = .ok (.invokevirtual 328, 3) ∧ decode cX10_force 10 = .ok (.ifCond .ne 5, 3) ∧ decode cX10_force 13 = .ok (.iconst (-1), 1) ∧ decode cX10_force 14 = .ok (.ireturn, 1) ∧ decode cX10_force 15 = .ok (.aload_n 0, 1) ∧ decode cX10_force 16 = .ok (.getfield 322, 3) ∧ decode cX10_force 19 = .ok (.istore_n 2, 1) ∧ decode cX10_force 20 = .ok (.aload_n 0, 1) ∧ decode cX10_force 21 = .ok (.iload_n 1, 1) ∧ decode cX10_force 22 = .ok (.putfield 322, 3) ∧ decode cX10_force 25 = .ok (.iload_n 2, 1) ∧ decode cX10_force 26 = .ok (.ireturn, 1) ∧ True := dqC_ok (c := cX10_force) [(0, 1, some (.aload_n 0)), (1, 1, some (.iconst 0)), (2, 3, some (.putfield 167)), (5, 1, some (.aload_n 0)), (6, 1, some (.iload_n 1)), (7, 3, some (.invokevirtual 328)), (10, 3, some (.ifCond .ne 5)), (13, 1, some (.iconst (-1))), (14, 1, some (.ireturn)), (15, 1, some (.aload_n 0)), (16, 3, some (.getfield 322)), (19, 1, some (.istore_n 2)), (20, 1, some (.aload_n 0)), (21, 1, some (.iload_n 1)), (22, 3, some (.putfield 322)), (25, 1, some (.iload_n 2)), (26, 1, some (.ireturn))] _ 0 rfl (by decide +kernel)
theorem dX10_force_0 : decode cX10_force 0 = .ok (.aload_n 0, 1) := dq_g364.1
theorem dX10_force_1 : decode cX10_force 1 = .ok (.iconst 0, 1) := dq_g364.2.1
theorem dX10_force_2 : decode cX10_force 2 = .ok (.putfield 167, 3) := dq_g364.2.2.1
theorem dX10_force_5 : decode cX10_force 5 = .ok (.aload_n 0, 1) := dq_g364.2.2.2.1
theorem dX10_force_6 : decode cX10_force 6 = .ok (.iload_n 1, 1) := dq_g364.2.2.2.2.1
theorem dX10_force_7 : decode cX10_force 7 = .ok (.invokevirtual 328, 3) := dq_g364.2.2.2.2.2.1
theorem dX10_force_10 : decode cX10_force 10 = .ok (.ifCond .ne 5, 3) := dq_g364.2.2.2.2.2.2.1
theorem dX10_force_13 : decode cX10_force 13 = .ok (.iconst (-1), 1) := dq_g364.2.2.2.2.2.2.2.1
theorem dX10_force_14 : decode cX10_force 14 = .ok (.ireturn, 1) := dq_g364.2.2.2.2.2.2.2.2.1
theorem dX10_force_15 : decode cX10_force 15 = .ok (.aload_n 0, 1) := dq_g364.2.2.2.2.2.2.2.2.2.1
theorem dX10_force_16 : decode cX10_force 16 = .ok (.getfield 322, 3) := dq_g364.2.2.2.2.2.2.2.2.2.2.1
theorem dX10_force_19 : decode cX10_force 19 = .ok (.istore_n 2, 1) := dq_g364.2.2.2.2.2.2.2.2.2.2.2.1
theorem dX10_force_20 : decode cX10_force 20 = .ok (.aload_n 0, 1) := dq_g364.2.2.2.2.2.2.2.2.2.2.2.2.1
theorem dX10_force_21 : decode cX10_force 21 = .ok (.iload_n 1, 1) := dq_g364.2.2.2.2.2.2.2.2.2.2.2.2.2.1
theorem dX10_force_22 : decode cX10_force 22 = .ok (.putfield 322, 3) := dq_g364.2.2.2.2.2.2.2.2.2.2.2.2.2.2.1
theorem dX10_force_25 : decode cX10_force 25 = .ok (.iload_n 2, 1) := dq_g364.2.2.2.2.2.2.2.2.2.2.2.2.2.2.2.1
theorem dX10_force_26 : decode cX10_force 26 = .ok (.ireturn, 1) := dq_g364.2.2.2.2.2.2.2.2.2.2.2.2.2.2.2.2.1
theorem dq_g365 : decode cX10_tells 0 = .ok (.aload_n 0, 1) ∧ decode cX10_tells 1 = .ok (.iconst 0, 1) ∧ decode cX10_tells 2 = .ok (.putfield 167, 3) ∧ decode cX10_tells 5 = .ok (.aload_n 0, 1) ∧ decode cX10_tells 6 = .ok (.iload_n 1, 1) ∧ decode cX10_tells 7 = .ok (.invokevirtual 328, 3) ∧ decode cX10_tells 10 = .ok (.ifCond .eq 32, 3) ∧ decode cX10_tells 13 = .ok (.aload_n 0, 1) ∧ decode cX10_tells 14 = .ok (.iload_n 2, 1) ∧ decode cX10_tells 15 = .ok (.iconst 0, 1) ∧ decode cX10_tells 16 = .ok (.iconst 2, 1) ∧ decode cX10_tells 17 = .ok (.invokevirtual 177, 3) ∧ decode cX10_tells 20 = .ok (.ifCond .eq 22, 3) ∧ decode cX10_tells 23 = .ok (.aload_n 0, 1) ∧ decode cX10_tells 24 = .ok (.iload_n 3, 1) ∧ decode cX10_tells 25 = .ok (.invokevirtual 331, 3) ∧ decode cX10_tells 28 = .ok (.ifCond .eq 14, 3) ∧ decode cX10_tells 31 = .ok (.aload_n 0, 1) ∧ decode cX10_tells 32 = .ok (.iload 4, 2) ∧ decode cX10_tells 34 = .ok (.iload 5, 2) ∧ decode cX10_tells 36 = .ok (.invokevirtual 181, 3) ∧ decode cX10_tells 39 = .ok (.ifCond .ne 7, 3) ∧ decode cX10_tells 42 = .ok (.ldc_w 334, 3) ∧ decode cX10_tells 45 = .ok (.ireturn, 1) ∧ decode cX10_tells 46 = .ok (.aload_n 0, 1) ∧ decode cX10_tells 47 = .ok (.iload 4, 2) ∧ decode cX10_tells 49 = .ok (.iload 5, 2) ∧ decode cX10_tells 51 = .ok (.invokevirtual 316, 3) ∧ decode cX10_tells 54 = .ok (.aload_n 0, 1) ∧ decode cX10_tells 55 = .ok (.iload_n 1, 1) ∧ True := dqC_ok (c := cX10_tells) [(0, 1, some (.aload_n 0)), (1, 1, some (.iconst 0)), (2, 3, some (.putfield 167)), (5, 1, some (.aload_n 0)), (6, 1, some (.iload_n 1)), (7, 3, some (.invokevirtual 328)), (10, 3, some (.ifCond .eq 32)), (13, 1, some (.aload_n 0)), (14, 1, some (.iload_n 2)), (15, 1, some (.iconst 0)), (16, 1, some (.iconst 2)), (17, 3, some (.invokevirtual 177)), (20, 3, some (.ifCond .eq 22)), (23, 1, some (.aload_n 0)), (24, 1, some (.iload_n 3)), (25, 3, some (.invokevirtual 331)), (28, 3, some (.ifCond .eq 14)), (31, 1, some (.aload_n 0)), (32, 2, some (.iload 4)), (34, 2, some (.iload 5)), (36, 3, some (.invokevirtual 181)), (39, 3, some (.ifCond .ne 7)), (42, 3, some (.ldc_w 334)), (45, 1, some (.ireturn)), (46, 1, some (.aload_n 0)), (47, 2, some (.iload 4)), (49, 2, some (.iload 5)), (51, 3, some (.invokevirtual 316)), (54, 1, some (.aload_n 0)), (55, 1, some (.iload_n 1))] _ 0 rfl (by decide +kernel)
theorem dX10_tells_0 : decode cX10_tells 0 = .ok (.aload_n 0, 1) := dq_g365.1
theorem dX10_tells_1 : decode cX10_tells 1 = .ok (.iconst 0, 1) := dq_g365.2.1
theorem dX10_tells_2 : decode cX10_tells 2 = .ok (.putfield 167, 3) := dq_g365.2.2.1
theorem dX10_tells_5 : decode cX10_tells 5 = .ok (.aload_n 0, 1) := dq_g365.2.2.2.1
theorem dX10_tells_6 : decode cX10_tells 6 = .ok (.iload_n 1, 1) := dq_g365.2.2.2.2.1
theorem dX10_tells_7 : decode cX10_tells 7 = .ok (.invokevirtual 328, 3) := dq_g365.2.2.2.2.2.1
theorem dX10_tells_10 : decode cX10_tells 10 = .ok (.ifCond .eq 32, 3) := dq_g365.2.2.2.2.2.2.1
theorem dX10_tells_13 : decode cX10_tells 13 = .ok (.aload_n 0, 1) := dq_g365.2.2.2.2.2.2.2.1
theorem dX10_tells_14 : decode cX10_tells 14 = .ok (.iload_n 2, 1) := dq_g365.2.2.2.2.2.2.2.2.1
theorem dX10_tells_15 : decode cX10_tells 15 = .ok (.iconst 0, 1) := dq_g365.2.2.2.2.2.2.2.2.2.1
theorem dX10_tells_16 : decode cX10_tells 16 = .ok (.iconst 2, 1) := dq_g365.2.2.2.2.2.2.2.2.2.2.1
theorem dX10_tells_17 : decode cX10_tells 17 = .ok (.invokevirtual 177, 3) := dq_g365.2.2.2.2.2.2.2.2.2.2.2.1
theorem dX10_tells_20 : decode cX10_tells 20 = .ok (.ifCond .eq 22, 3) := dq_g365.2.2.2.2.2.2.2.2.2.2.2.2.1
theorem dX10_tells_23 : decode cX10_tells 23 = .ok (.aload_n 0, 1) := dq_g365.2.2.2.2.2.2.2.2.2.2.2.2.2.1
theorem dX10_tells_24 : decode cX10_tells 24 = .ok (.iload_n 3, 1) := dq_g365.2.2.2.2.2.2.2.2.2.2.2.2.2.2.1
theorem dX10_tells_25 : decode cX10_tells 25 = .ok (.invokevirtual 331, 3) := dq_g365.2.2.2.2.2.2.2.2.2.2.2.2.2.2.2.1
theorem dX10_tells_28 : decode cX10_tells 28 = .ok (.ifCond .eq 14, 3) := dq_g365.2.2.2.2.2.2.2.2.2.2.2.2.2.2.2.2.1
theorem dX10_tells_31 : decode cX10_tells 31 = .ok (.aload_n 0, 1) := dq_g365.2.2.2.2.2.2.2.2.2.2.2.2.2.2.2.2.2.1
theorem dX10_tells_32 : decode cX10_tells 32 = .ok (.iload 4, 2) := dq_g365.2.2.2.2.2.2.2.2.2.2.2.2.2.2.2.2.2.2.1
theorem dX10_tells_34 : decode cX10_tells 34 = .ok (.iload 5, 2) := dq_g365.2.2.2.2.2.2.2.2.2.2.2.2.2.2.2.2.2.2.2.1
theorem dX10_tells_36 : decode cX10_tells 36 = .ok (.invokevirtual 181, 3) := dq_g365.2.2.2.2.2.2.2.2.2.2.2.2.2.2.2.2.2.2.2.2.1
theorem dX10_tells_39 : decode cX10_tells 39 = .ok (.ifCond .ne 7, 3) := dq_g365.2.2.2.2.2.2.2.2.2.2.2.2.2.2.2.2.2.2.2.2.2.1
theorem dX10_tells_42 : decode cX10_tells 42 = .ok (.ldc_w 334, 3) := dq_g365.2.2.2.2.2.2.2.2.2.2.2.2.2.2.2.2.2.2.2.2.2.2.1
theorem dX10_tells_45 : decode cX10_tells 45 = .ok (.ireturn, 1) := dq_g365.2.2.2.2.2.2.2.2.2.2.2.2.2.2.2.2.2.2.2.2.2.2.2.1
theorem dX10_tells_46 : decode cX10_tells 46 = .ok (.aload_n 0, 1) := dq_g365.2.2.2.2.2.2.2.2.2.2.2.2.2.2.2.2.2.2.2.2.2.2.2.2.1
theorem dX10_tells_47 : decode cX10_tells 47 = .ok (.iload 4, 2) := dq_g365.2.2.2.2.2.2.2.2.2.2.2.2.2.2.2.2.2.2.2.2.2.2.2.2.2.1
theorem dX10_tells_49 : decode cX10_tells 49 = .ok (.iload 5, 2) := dq_g365.2.2.2.2.2.2.2.2.2.2.2.2.2.2.2.2.2.2.2.2.2.2.2.2.2.2.1
theorem dX10_tells_51 : decode cX10_tells 51 = .ok (.invokevirtual 316, 3) := dq_g365.2.2.2.2.2.2.2.2.2.2.2.2.2.2.2.2.2.2.2.2.2.2.2.2.2.2.2.1
theorem dX10_tells_54 : decode cX10_tells 54 = .ok (.aload_n 0, 1) := dq_g365.2.2.2.2.2.2.2.2.2.2.2.2.2.2.2.2.2.2.2.2.2.2.2.2.2.2.2.2.1
theorem dX10_tells_55 : decode cX10_tells 55 = .ok (.iload_n 1, 1) := dq_g365.2.2.2.2.2.2.2.2.2.2.2.2.2.2.2.2.2.2.2.2.2.2.2.2.2.2.2.2.2.1
theorem dq_g366 : decode cX10_tells 56 = .ok (.iload_n 2, 1) ∧ decode cX10_tells 57 = .ok (.iload_n 3, 1) ∧ decode cX10_tells 58 = .ok (.invokevirtual 319, 3) ∧ decode cX10_tells 61 = .ok (.ireturn, 1) ∧ True := dqC_ok (c := cX10_tells) [(56, 1, some (.iload_n 2)), (57, 1, some (.iload_n 3)), (58, 3, some (.invokevirtual 319)), (61, 1, some (.ireturn))] _ 56 rfl (by decide +kernel)
theorem dX10_tells_56 : decode cX10_tells 56 = .ok (.iload_n 2, 1) := dq_g366.1
theorem dX10_tells_57 : decode cX10_tells 57 = .ok (.iload_n 3, 1) := dq_g366.2.1
theorem dX10_tells_58 : decode cX10_tells 58 = .ok (.invokevirtual 319, 3) := dq_g366.2.2.1
theorem dX10_tells_61 : decode cX10_tells 61 = .ok (.ireturn, 1) := dq_g366.2.2.2.1
theorem dq_g367 : decode cX10_tone 0 = .ok (.aload_n 0, 1) ∧ decode cX10_tone 1 = .ok (.iconst 0, 1) ∧ decode cX10_tone 2 = .ok (.putfield 167, 3) ∧ decode cX10_tone 5 = .ok (.aload_n 0, 1) ∧ decode cX10_tone 6 = .ok (.iload_n 1, 1) ∧ decode cX10_tone 7 = .ok (.invokevirtual 173, 3) ∧ decode cX10_tone 10 = .ok (.ifCond .eq 20, 3) ∧ decode cX10_tone 13 = .ok (.aload_n 0, 1) ∧ decode cX10_tone 14 = .ok (.iload_n 2, 1) ∧ decode cX10_tone 15 = .ok (.invokevirtual 331, 3) ∧ decode cX10_tone 18 = .ok (.ifCond .eq 12, 3) ∧ decode cX10_tone 21 = .ok (.aload_n 0, 1) ∧ decode cX10_tone 22 = .ok (.iload_n 1, 1) ∧ decode cX10_tone 23 = .ok (.iload_n 2, 1) ∧ decode cX10_tone 24 = .ok (.invokevirtual 335, 3) ∧ decode cX10_tone 27 = .ok (.goto 4, 3) ∧ decode cX10_tone 30 = .ok (.iconst (-1), 1) ∧ decode cX10_tone 31 = .ok (.ireturn, 1) ∧ True := dqC_ok (c := cX10_tone) [(0, 1, some (.aload_n 0)), (1, 1, some (.iconst 0)), (2, 3, some (.putfield 167)), (5, 1, some (.aload_n 0)), (6, 1, some (.iload_n 1)), (7, 3, some (.invokevirtual 173)), (10, 3, some (.ifCond .eq 20)), (13, 1, some (.aload_n 0)), (14, 1, some (.iload_n 2)), (15, 3, some (.invokevirtual 331)), (18, 3, some (.ifCond .eq 12)), (21, 1, some (.aload_n 0)), (22, 1, some (.iload_n 1)), (23, 1, some (.iload_n 2)), (24, 3, some (.invokevirtual 335)), (27, 3, some (.goto 4)), (30, 1, some (.iconst (-1))), (31, 1, some (.ireturn))] _ 0 rfl (by decide +kernel)
theorem dX10_tone_0 : decode cX10_tone 0 = .ok (.aload_n 0, 1) := dq_g367.1
theorem dX10_tone_1 : decode cX10_tone 1 = .ok (.iconst 0, 1) := dq_g367.2.1
theorem dX10_tone_2 : decode cX10_tone 2 = .ok (.putfield 167, 3) := dq_g367.2.2.1
theorem dX10_tone_5 : decode cX10_tone 5 = .ok (.aload_n 0, 1) := dq_g367.2.2.2.1
theorem dX10_tone_6 : decode cX10_tone 6 = .ok (.iload_n 1, 1) := dq_g367.2.2.2.2.1
theorem dX10_tone_7 : decode cX10_tone 7 = .ok (.invokevirtual 173, 3) := dq_g367.2.2.2.2.2.1
theorem dX10_tone_10 : decode cX10_tone 10 = .ok (.ifCond .eq 20, 3) := dq_g367.2.2.2.2.2.2.1
theorem dX10_tone_13 : decode cX10_tone 13 = .ok (.aload_n 0, 1) := dq_g367.2.2.2.2.2.2.2.1
theorem dX10_tone_14 : decode cX10_tone 14 = .ok (.iload_n 2, 1) := dq_g367.2.2.2.2.2.2.2.2.1
theorem dX10_tone_15 : decode cX10_tone 15 = .ok (.invokevirtual 331, 3) := dq_g367.2.2.2.2.2.2.2.2.2.1
theorem dX10_tone_18 : decode cX10_tone 18 = .ok (.ifCond .eq 12, 3) := dq_g367.2.2.2.2.2.2.2.2.2.2.1
theorem dX10_tone_21 : decode cX10_tone 21 = .ok (.aload_n 0, 1) := dq_g367.2.2.2.2.2.2.2.2.2.2.2.1
theorem dX10_tone_22 : decode cX10_tone 22 = .ok (.iload_n 1, 1) := dq_g367.2.2.2.2.2.2.2.2.2.2.2.2.1
theorem dX10_tone_23 : decode cX10_tone 23 = .ok (.iload_n 2, 1) := dq_g367.2.2.2.2.2.2.2.2.2.2.2.2.2.1
theorem dX10_tone_24 : decode cX10_tone 24 = .ok (.invokevirtual 335, 3) := dq_g367.2.2.2.2.2.2.2.2.2.2.2.2.2.2.1
theorem dX10_tone_27 : decode cX10_tone 27 = .ok (.goto 4, 3) := dq_g367.2.2.2.2.2.2.2.2.2.2.2.2.2.2.2.1
theorem dX10_tone_30 : decode cX10_tone 30 = .ok (.iconst (-1), 1) := dq_g367.2.2.2.2.2.2.2.2.2.2.2.2.2.2.2.2.1
theorem dX10_tone_31 : decode cX10_tone 31 = .ok (.ireturn, 1) := dq_g367.2.2.2.2.2.2.2.2.2.2.2.2.2.2.2.2.2.1
theorem dq_g368 : decode cX10_isLost 0 = .ok (.iconst 0, 1) ∧ decode cX10_isLost 1 = .ok (.istore_n 2, 1) ∧ decode cX10_isLost 2 = .ok (.iload_n 2, 1) ∧ decode cX10_isLost 3 = .ok (.iconst 3, 1) ∧ decode cX10_isLost 4 = .ok (.if_icmp .ge 48, 3) ∧ decode cX10_isLost 7 = .ok (.aload_n 0, 1) ∧ decode cX10_isLost 8 = .ok (.getfield 29, 3) ∧ decode cX10_isLost 11 = .ok (.iconst 3, 1) ∧ decode cX10_isLost 12 = .ok (.iload_n 1, 1) ∧ decode cX10_isLost 13 = .ok (.imul, 1) ∧ decode cX10_isLost 14 = .ok (.iload_n 2, 1) ∧ decode cX10_isLost 15 = .ok (.iadd, 1) ∧ decode cX10_isLost 16 = .ok (.iaload, 1) ∧ decode cX10_isLost 17 = .ok (.ifCond .le 29, 3) ∧ decode cX10_isLost 20 = .ok (.aload_n 0, 1) ∧ decode cX10_isLost 21 = .ok (.iload_n 1, 1) ∧ decode cX10_isLost 22 = .ok (.iload_n 2, 1) ∧ decode cX10_isLost 23 = .ok (.invokevirtual 335, 3) ∧ decode cX10_isLost 26 = .ok (.aload_n 0, 1) ∧ decode cX10_isLost 27 = .ok (.getfield 29, 3) ∧ decode cX10_isLost 30 = .ok (.iconst 3, 1) ∧ decode cX10_isLost 31 = .ok (.iload_n 1, 1) ∧ decode cX10_isLost 32 = .ok (.imul, 1) ∧ decode cX10_isLost 33 = .ok (.iload_n 2, 1) ∧ decode cX10_isLost 34 = .ok (.iadd, 1) ∧ decode cX10_isLost 35 = .ok (.iaload, 1) ∧ decode cX10_isLost 36 = .ok (.aload_n 0, 1) ∧ decode cX10_isLost 37 = .ok (.getfield 7, 3) ∧ decode cX10_isLost 40 = .ok (.isub, 1) ∧ decode cX10_isLost 41 = .ok (.if_icmp .ge 5, 3) ∧ True := dqC_ok (c := cX10_isLost) [(0, 1, some (.iconst 0)), (1, 1, some (.istore_n 2)), (2, 1, some (.iload_n 2)), (3, 1, some (.iconst 3)), (4, 3, some (.if_icmp .ge 48)), (7, 1, some (.aload_n 0)), (8, 3, some (.getfield 29)), (11, 1, some (.iconst 3)), (12, 1, some (.iload_n 1)), (13, 1, some (.imul)), (14, 1, some (.iload_n 2)), (15, 1, some (.iadd)), (16, 1, some (.iaload)), (17, 3, some (.ifCond .le 29)), (20, 1, some (.aload_n 0)), (21, 1, some (.iload_n 1)), (22, 1, some (.iload_n 2)), (23, 3, some (.invokevirtual 335)), (26, 1, some (.aload_n 0)), (27, 3, some (.getfield 29)), (30, 1, some (.iconst 3)), (31, 1, some (.iload_n 1)), (32, 1, some (.imul)), (33, 1, some (.iload_n 2)), (34, 1, some (.iadd)), (35, 1, some (.iaload)), (36, 1, some (.aload_n 0)), (37, 3, some (.getfield 7)), (40, 1, some (.isub)), (41, 3, some (.if_icmp .ge 5))] _ 0 rfl (by decide +kernel)
theorem dX10_isLost_0 : decode cX10_isLost 0 = .ok (.iconst 0, 1) := dq_g368.1
theorem dX10_isLost_1 : decode cX10_isLost 1 = .ok (.istore_n 2, 1) := dq_g368.2.1
theorem dX10_isLost_2 : decode cX10_isLost 2 = .ok (.iload_n 2, 1) := dq_g368.2.2.1
theorem dX10_isLost_3 : decode cX10_isLost 3 = .ok (.iconst 3, 1) := dq_g368.2.2.2.1
theorem dX10_isLost_4 : decode cX10_isLost 4 = .ok (.if_icmp .ge 48, 3) := dq_g368.2.2.2.2.1
theorem dX10_isLost_7 : decode cX10_isLost 7 = .ok (.aload_n 0, 1) := dq_g368.2.2.2.2.2.1
theorem dX10_isLost_8 : decode cX10_isLost 8 = .ok (.getfield 29, 3) := dq_g368.2.2.2.2.2.2.1
theorem dX10_isLost_11 : decode cX10_isLost 11 = .ok (.iconst 3, 1) := dq_g368.2.2.2.2.2.2.2.1
theorem dX10_isLost_12 : decode cX10_isLost 12 = .ok (.iload_n 1, 1) := dq_g368.2.2.2.2.2.2.2.2.1
theorem dX10_isLost_13 : decode cX10_isLost 13 = .ok (.imul, 1) := dq_g368.2.2.2.2.2.2.2.2.2.1
theorem dX10_isLost_14 : decode cX10_isLost 14 = .ok (.iload_n 2, 1) := dq_g368.2.2.2.2.2.2.2.2.2.2.1
theorem dX10_isLost_15 : decode cX10_isLost 15 = .ok (.iadd, 1) := dq_g368.2.2.2.2.2.2.2.2.2.2.2.1
theorem dX10_isLost_16 : decode cX10_isLost 16 = .ok (.iaload, 1) := dq_g368.2.2.2.2.2.2.2.2.2.2.2.2.1
theorem dX10_isLost_17 : decode cX10_isLost 17 = .ok (.ifCond .le 29, 3) := dq_g368.2.2.2.2.2.2.2.2.2.2.2.2.2.1
theorem dX10_isLost_20 : decode cX10_isLost 20 = .ok (.aload_n 0, 1) := dq_g368.2.2.2.2.2.2.2.2.2.2.2.2.2.2.1
theorem dX10_isLost_21 : decode cX10_isLost 21 = .ok (.iload_n 1, 1) := dq_g368.2.2.2.2.2.2.2.2.2.2.2.2.2.2.2.1
theorem dX10_isLost_22 : decode cX10_isLost 22 = .ok (.iload_n 2, 1) := dq_g368.2.2.2.2.2.2.2.2.2.2.2.2.2.2.2.2.1
theorem dX10_isLost_23 : decode cX10_isLost 23 = .ok (.invokevirtual 335, 3) := dq_g368.2.2.2.2.2.2.2.2.2.2.2.2.2.2.2.2.2.1
theorem dX10_isLost_26 : decode cX10_isLost 26 = .ok (.aload_n 0, 1) := dq_g368.2.2.2.2.2.2.2.2.2.2.2.2.2.2.2.2.2.2.1
theorem dX10_isLost_27 : decode cX10_isLost 27 = .ok (.getfield 29, 3) := dq_g368.2.2.2.2.2.2.2.2.2.2.2.2.2.2.2.2.2.2.2.1
theorem dX10_isLost_30 : decode cX10_isLost 30 = .ok (.iconst 3, 1) := dq_g368.2.2.2.2.2.2.2.2.2.2.2.2.2.2.2.2.2.2.2.2.1
theorem dX10_isLost_31 : decode cX10_isLost 31 = .ok (.iload_n 1, 1) := dq_g368.2.2.2.2.2.2.2.2.2.2.2.2.2.2.2.2.2.2.2.2.2.1
theorem dX10_isLost_32 : decode cX10_isLost 32 = .ok (.imul, 1) := dq_g368.2.2.2.2.2.2.2.2.2.2.2.2.2.2.2.2.2.2.2.2.2.2.1
theorem dX10_isLost_33 : decode cX10_isLost 33 = .ok (.iload_n 2, 1) := dq_g368.2.2.2.2.2.2.2.2.2.2.2.2.2.2.2.2.2.2.2.2.2.2.2.1
theorem dX10_isLost_34 : decode cX10_isLost 34 = .ok (.iadd, 1) := dq_g368.2.2.2.2.2.2.2.2.2.2.2.2.2.2.2.2.2.2.2.2.2.2.2.2.1
theorem dX10_isLost_35 : decode cX10_isLost 35 = .ok (.iaload, 1) := dq_g368.2.2.2.2.2.2.2.2.2.2.2.2.2.2.2.2.2.2.2.2.2.2.2.2.2.1
theorem dX10_isLost_36 : decode cX10_isLost 36 = .ok (.aload_n 0, 1) := dq_g368.2.2.2.2.2.2.2.2.2.2.2.2.2.2.2.2.2.2.2.2.2.2.2.2.2.2.1
theorem dX10_isLost_37 : decode cX10_isLost 37 = .ok (.getfield 7, 3) := dq_g368.2.2.2.2.2.2.2.2.2.2.2.2.2.2.2.2.2.2.2.2.2.2.2.2.2.2.2.1
theorem dX10_isLost_40 : decode cX10_isLost 40 = .ok (.isub, 1) := dq_g368.2.2.2.2.2.2.2.2.2.2.2.2.2.2.2.2.2.2.2.2.2.2.2.2.2.2.2.2.1
theorem dX10_isLost_41 : decode cX10_isLost 41 = .ok (.if_icmp .ge 5, 3) := dq_g368.2.2.2.2.2.2.2.2.2.2.2.2.2.2.2.2.2.2.2.2.2.2.2.2.2.2.2.2.2.1
theorem dq_g369 : decode cX10_isLost 44 = .ok (.iconst 1, 1) ∧ decode cX10_isLost 45 = .ok (.ireturn, 1) ∧ decode cX10_isLost 46 = .ok (.iinc 2 1, 3) ∧ decode cX10_isLost 49 = .ok (.goto (-47), 3) ∧ decode cX10_isLost 52 = .ok (.iconst 0, 1) ∧ decode cX10_isLost 53 = .ok (.ireturn, 1) ∧ True := dqC_ok (c := cX10_isLost) [(44, 1, some (.iconst 1)), (45, 1, some (.ireturn)), (46, 3, some (.iinc 2 1)), (49, 3, some (.goto (-47))), (52, 1, some (.iconst 0)), (53, 1, some (.ireturn))] _ 44 rfl (by decide +kernel)
theorem dX10_isLost_44 : decode cX10_isLost 44 = .ok (.iconst 1, 1) := dq_g369.1
theorem dX10_isLost_45 : decode cX10_isLost 45 = .ok (.ireturn, 1) := dq_g369.2.1
theorem dX10_isLost_46 : decode cX10_isLost 46 = .ok (.iinc 2 1, 3) := dq_g369.2.2.1
theorem dX10_isLost_49 : decode cX10_isLost 49 = .ok (.goto (-47), 3) := dq_g369.2.2.2.1
theorem dX10_isLost_52 : decode cX10_isLost 52 = .ok (.iconst 0, 1) := dq_g369.2.2.2.2.1
theorem dX10_isLost_53 : decode cX10_isLost 53 = .ok (.ireturn, 1) := dq_g369.2.2.2.2.2.1
theorem dq_g370 : decode cX10_isTrue 0 = .ok (.iconst 0, 1) ∧ decode cX10_isTrue 1 = .ok (.istore_n 2, 1) ∧ decode cX10_isTrue 2 = .ok (.iload_n 2, 1) ∧ decode cX10_isTrue 3 = .ok (.iconst 3, 1) ∧ decode cX10_isTrue 4 = .ok (.if_icmp .ge 52, 3) ∧ decode cX10_isTrue 7 = .ok (.aload_n 0, 1) ∧ decode cX10_isTrue 8 = .ok (.getfield 29, 3) ∧ decode cX10_isTrue 11 = .ok (.iconst 3, 1) ∧ decode cX10_isTrue 12 = .ok (.iload_n 1, 1) ∧ decode cX10_isTrue 13 = .ok (.imul, 1) ∧ decode cX10_isTrue 14 = .ok (.iload_n 2, 1) ∧ decode cX10_isTrue 15 = .ok (.iadd, 1) ∧ decode cX10_isTrue 16 = .ok (.iaload, 1) ∧ decode cX10_isTrue 17 = .ok (.ifCond .le 33, 3) ∧ decode cX10_isTrue 20 = .ok (.aload_n 0, 1) ∧ decode cX10_isTrue 21 = .ok (.aload_n 0, 1) ∧ decode cX10_isTrue 22 = .ok (.iload_n 1, 1) ∧ decode cX10_isTrue 23 = .ok (.iload_n 2, 1) ∧ decode cX10_isTrue 24 = .ok (.invokevirtual 335, 3) ∧ decode cX10_isTrue 27 = .ok (.aload_n 0, 1) ∧ decode cX10_isTrue 28 = .ok (.getfield 29, 3) ∧ decode cX10_isTrue 31 = .ok (.iconst 3, 1) ∧ decode cX10_isTrue 32 = .ok (.iload_n 1, 1) ∧ decode cX10_isTrue 33 = .ok (.imul, 1) ∧ decode cX10_isTrue 34 = .ok (.iload_n 2, 1) ∧ decode cX10_isTrue 35 = .ok (.iadd, 1) ∧ decode cX10_isTrue 36 = .ok (.iaload, 1) ∧ decode cX10_isTrue 37 = .ok (.isub, 1) ∧ decode cX10_isTrue 38 = .ok (.invokevirtual 309, 3) ∧ decode cX10_isTrue 41 = .ok (.aload_n 0, 1) ∧ True := dqC_ok (c := cX10_isTrue) [(0, 1, some (.iconst 0)), (1, 1, some (.istore_n 2)), (2, 1, some (.iload_n 2)), (3, 1, some (.iconst 3)), (4, 3, some (.if_icmp .ge 52)), (7, 1, some (.aload_n 0)), (8, 3, some (.getfield 29)), (11, 1, some (.iconst 3)), (12, 1, some (.iload_n 1)), (13, 1, some (.imul)), (14, 1, some (.iload_n 2)), (15, 1, some (.iadd)), (16, 1, some (.iaload)), (17, 3, some (.ifCond .le 33)), (20, 1, some (.aload_n 0)), (21, 1, some (.aload_n 0)), (22, 1, some (.iload_n 1)), (23, 1, some (.iload_n 2)), (24, 3, some (.invokevirtual 335)), (27, 1, some (.aload_n 0)), (28, 3, some (.getfield 29)), (31, 1, some (.iconst 3)), (32, 1, some (.iload_n 1)), (33, 1, some (.imul)), (34, 1, some (.iload_n 2)), (35, 1, some (.iadd)), (36, 1, some (.iaload)), (37, 1, some (.isub)), (38, 3, some (.invokevirtual 309)), (41, 1, some (.aload_n 0))] _ 0 rfl (by decide +kernel)
theorem dX10_isTrue_0 : decode cX10_isTrue 0 = .ok (.iconst 0, 1) := dq_g370.1
theorem dX10_isTrue_1 : decode cX10_isTrue 1 = .ok (.istore_n 2, 1) := dq_g370.2.1
theorem dX10_isTrue_2 : decode cX10_isTrue 2 = .ok (.iload_n 2, 1) := dq_g370.2.2.1
theorem dX10_isTrue_3 : decode cX10_isTrue 3 = .ok (.iconst 3, 1) := dq_g370.2.2.2.1
theorem dX10_isTrue_4 : decode cX10_isTrue 4 = .ok (.if_icmp .ge 52, 3) := dq_g370.2.2.2.2.1
theorem dX10_isTrue_7 : decode cX10_isTrue 7 = .ok (.aload_n 0, 1) := dq_g370.2.2.2.2.2.1
theorem dX10_isTrue_8 : decode cX10_isTrue 8 = .ok (.getfield 29, 3) := dq_g370.2.2.2.2.2.2.1
theorem dX10_isTrue_11 : decode cX10_isTrue 11 = .ok (.iconst 3, 1) := dq_g370.2.2.2.2.2.2.2.1
theorem dX10_isTrue_12 : decode cX10_isTrue 12 = .ok (.iload_n 1, 1) := dq_g370.2.2.2.2.2.2.2.2.1
theorem dX10_isTrue_13 : decode cX10_isTrue 13 = .ok (.imul, 1) := dq_g370.2.2.2.2.2.2.2.2.2.1
theorem dX10_isTrue_14 : decode cX10_isTrue 14 = .ok (.iload_n 2, 1) := dq_g370.2.2.2.2.2.2.2.2.2.2.1
theorem dX10_isTrue_15 : decode cX10_isTrue 15 = .ok (.iadd, 1) := dq_g370.2.2.2.2.2.2.2.2.2.2.2.1
theorem dX10_isTrue_16 : decode cX10_isTrue 16 = .ok (.iaload, 1) := dq_g370.2.2.2.2.2.2.2.2.2.2.2.2.1
theorem dX10_isTrue_17 : decode cX10_isTrue 17 = .ok (.ifCond .le 33, 3) := dq_g370.2.2.2.2.2.2.2.2.2.2.2.2.2.1
theorem dX10_isTrue_20 : decode cX10_isTrue 20 = .ok (.aload_n 0, 1) := dq_g370.2.2.2.2.2.2.2.2.2.2.2.2.2.2.1
theorem dX10_isTrue_21 : decode cX10_isTrue 21 = .ok (.aload_n 0, 1) := dq_g370.2.2.2.2.2.2.2.2.2.2.2.2.2.2.2.1
theorem dX10_isTrue_22 : decode cX10_isTrue 22 = .ok (.iload_n 1, 1) := dq_g370.2.2.2.2.2.2.2.2.2.2.2.2.2.2.2.2.1
theorem dX10_isTrue_23 : decode cX10_isTrue 23 = .ok (.iload_n 2, 1) := dq_g370.2.2.2.2.2.2.2.2.2.2.2.2.2.2.2.2.2.1
theorem dX10_isTrue_24 : decode cX10_isTrue 24 = .ok (.invokevirtual 335, 3) := dq_g370.2.2.2.2.2.2.2.2.2.2.2.2.2.2.2.2.2.2.1
theorem dX10_isTrue_27 : decode cX10_isTrue 27 = .ok (.aload_n 0, 1) := dq_g370.2.2.2.2.2.2.2.2.2.2.2.2.2.2.2.2.2.2.2.1
theorem dX10_isTrue_28 : decode cX10_isTrue 28 = .ok (.getfield 29, 3) := dq_g370.2.2.2.2.2.2.2.2.2.2.2.2.2.2.2.2.2.2.2.2.1
theorem dX10_isTrue_31 : decode cX10_isTrue 31 = .ok (.iconst 3, 1) := dq_g370.2.2.2.2.2.2.2.2.2.2.2.2.2.2.2.2.2.2.2.2.2.1
theorem dX10_isTrue_32 : decode cX10_isTrue 32 = .ok (.iload_n 1, 1) := dq_g370.2.2.2.2.2.2.2.2.2.2.2.2.2.2.2.2.2.2.2.2.2.2.1
theorem dX10_isTrue_33 : decode cX10_isTrue 33 = .ok (.imul, 1) := dq_g370.2.2.2.2.2.2.2.2.2.2.2.2.2.2.2.2.2.2.2.2.2.2.2.1
theorem dX10_isTrue_34 : decode cX10_isTrue 34 = .ok (.iload_n 2, 1) := dq_g370.2.2.2.2.2.2.2.2.2.2.2.2.2.2.2.2.2.2.2.2.2.2.2.2.1
theorem dX10_isTrue_35 : decode cX10_isTrue 35 = .ok (.iadd, 1) := dq_g370.2.2.2.2.2.2.2.2.2.2.2.2.2.2.2.2.2.2.2.2.2.2.2.2.2.1
theorem dX10_isTrue_36 : decode cX10_isTrue 36 = .ok (.iaload, 1) := dq_g370.2.2.2.2.2.2.2.2.2.2.2.2.2.2.2.2.2.2.2.2.2.2.2.2.2.2.1
theorem dX10_isTrue_37 : decode cX10_isTrue 37 = .ok (.isub, 1) := dq_g370.2.2.2.2.2.2.2.2.2.2.2.2.2.2.2.2.2.2.2.2.2.2.2.2.2.2.2.1
theorem dX10_isTrue_38 : decode cX10_isTrue 38 = .ok (.invokevirtual 309, 3) := dq_g370.2.2.2.2.2.2.2.2.2.2.2.2.2.2.2.2.2.2.2.2.2.2.2.2.2.2.2.2.1
theorem dX10_isTrue_41 : decode cX10_isTrue 41 = .ok (.aload_n 0, 1) := dq_g370.2.2.2.2.2.2.2.2.2.2.2.2.2.2.2.2.2.2.2.2.2.2.2.2.2.2.2.2.2.1
theorem dq_g371 : decode cX10_isTrue 42 = .ok (.getfield 7, 3) ∧ decode cX10_isTrue 45 = .ok (.if_icmp .le 5, 3) ∧ decode cX10_isTrue 48 = .ok (.iconst 0, 1) ∧ decode cX10_isTrue 49 = .ok (.ireturn, 1) ∧ decode cX10_isTrue 50 = .ok (.iinc 2 1, 3) ∧ decode cX10_isTrue 53 = .ok (.goto (-51), 3) ∧ decode cX10_isTrue 56 = .ok (.iconst 1, 1) ∧ decode cX10_isTrue 57 = .ok (.ireturn, 1) ∧ True := dqC_ok (c := cX10_isTrue) [(42, 3, some (.getfield 7)), (45, 3, some (.if_icmp .le 5)), (48, 1, some (.iconst 0)), (49, 1, some (.ireturn)), (50, 3, some (.iinc 2 1)), (53, 3, some (.goto (-51))), (56, 1, some (.iconst 1)), (57, 1, some (.ireturn))] _ 42 rfl (by decide +kernel)
theorem dX10_isTrue_42 : decode cX10_isTrue 42 = .ok (.getfield 7, 3) := dq_g371.1
theorem dX10_isTrue_45 : decode cX10_isTrue 45 = .ok (.if_icmp .le 5, 3) := dq_g371.2.1
theorem dX10_isTrue_48 : decode cX10_isTrue 48 = .ok (.iconst 0, 1) := dq_g371.2.2.1
theorem dX10_isTrue_49 : decode cX10_isTrue 49 = .ok (.ireturn, 1) := dq_g371.2.2.2.1
theorem dX10_isTrue_50 : decode cX10_isTrue 50 = .ok (.iinc 2 1, 3) := dq_g371.2.2.2.2.1
theorem dX10_isTrue_53 : decode cX10_isTrue 53 = .ok (.goto (-51), 3) := dq_g371.2.2.2.2.2.1
theorem dX10_isTrue_56 : decode cX10_isTrue 56 = .ok (.iconst 1, 1) := dq_g371.2.2.2.2.2.2.1
theorem dX10_isTrue_57 : decode cX10_isTrue 57 = .ok (.ireturn, 1) := dq_g371.2.2.2.2.2.2.2.1
theorem dq_g372 : decode cX10_canPass 0 = .ok (.aload_n 0, 1) ∧ decode cX10_canPass 1 = .ok (.iload_n 1, 1) ∧ decode cX10_canPass 2 = .ok (.iload_n 2, 1) ∧ decode cX10_canPass 3 = .ok (.invokevirtual 181, 3) ∧ decode cX10_canPass 6 = .ok (.ifCond .eq 34, 3) ∧ decode cX10_canPass 9 = .ok (.aload_n 0, 1) ∧ decode cX10_canPass 10 = .ok (.getfield 17, 3) ∧ decode cX10_canPass 13 = .ok (.bipush 16, 2) ∧ decode cX10_canPass 15 = .ok (.iload_n 1, 1) ∧ decode cX10_canPass 16 = .ok (.imul, 1) ∧ decode cX10_canPass 17 = .ok (.iload_n 2, 1) ∧ decode cX10_canPass 18 = .ok (.iadd, 1) ∧ decode cX10_canPass 19 = .ok (.iaload, 1) ∧ decode cX10_canPass 20 = .ok (.iload_n 3, 1) ∧ decode cX10_canPass 21 = .ok (.if_icmp .le 19, 3) ∧ decode cX10_canPass 24 = .ok (.aload_n 0, 1) ∧ decode cX10_canPass 25 = .ok (.getfield 32, 3) ∧ decode cX10_canPass 28 = .ok (.iload_n 1, 1) ∧ decode cX10_canPass 29 = .ok (.iaload, 1) ∧ decode cX10_canPass 30 = .ok (.sipush 200, 3) ∧ decode cX10_canPass 33 = .ok (.if_icmp .ge 7, 3) ∧ decode cX10_canPass 36 = .ok (.iconst 1, 1) ∧ decode cX10_canPass 37 = .ok (.goto 4, 3) ∧ decode cX10_canPass 40 = .ok (.iconst 0, 1) ∧ decode cX10_canPass 41 = .ok (.ireturn, 1) ∧ True := dqC_ok (c := cX10_canPass) [(0, 1, some (.aload_n 0)), (1, 1, some (.iload_n 1)), (2, 1, some (.iload_n 2)), (3, 3, some (.invokevirtual 181)), (6, 3, some (.ifCond .eq 34)), (9, 1, some (.aload_n 0)), (10, 3, some (.getfield 17)), (13, 2, some (.bipush 16)), (15, 1, some (.iload_n 1)), (16, 1, some (.imul)), (17, 1, some (.iload_n 2)), (18, 1, some (.iadd)), (19, 1, some (.iaload)), (20, 1, some (.iload_n 3)), (21, 3, some (.if_icmp .le 19)), (24, 1, some (.aload_n 0)), (25, 3, some (.getfield 32)), (28, 1, some (.iload_n 1)), (29, 1, some (.iaload)), (30, 3, some (.sipush 200)), (33, 3, some (.if_icmp .ge 7)), (36, 1, some (.iconst 1)), (37, 3, some (.goto 4)), (40, 1, some (.iconst 0)), (41, 1, some (.ireturn))] _ 0 rfl (by decide +kernel)
theorem dX10_canPass_0 : decode cX10_canPass 0 = .ok (.aload_n 0, 1) := dq_g372.1
theorem dX10_canPass_1 : decode cX10_canPass 1 = .ok (.iload_n 1, 1) := dq_g372.2.1
theorem dX10_canPass_2 : decode cX10_canPass 2 = .ok (.iload_n 2, 1) := dq_g372.2.2.1
theorem dX10_canPass_3 : decode cX10_canPass 3 = .ok (.invokevirtual 181, 3) := dq_g372.2.2.2.1
theorem dX10_canPass_6 : decode cX10_canPass 6 = .ok (.ifCond .eq 34, 3) := dq_g372.2.2.2.2.1
theorem dX10_canPass_9 : decode cX10_canPass 9 = .ok (.aload_n 0, 1) := dq_g372.2.2.2.2.2.1
theorem dX10_canPass_10 : decode cX10_canPass 10 = .ok (.getfield 17, 3) := dq_g372.2.2.2.2.2.2.1
theorem dX10_canPass_13 : decode cX10_canPass 13 = .ok (.bipush 16, 2) := dq_g372.2.2.2.2.2.2.2.1
theorem dX10_canPass_15 : decode cX10_canPass 15 = .ok (.iload_n 1, 1) := dq_g372.2.2.2.2.2.2.2.2.1
theorem dX10_canPass_16 : decode cX10_canPass 16 = .ok (.imul, 1) := dq_g372.2.2.2.2.2.2.2.2.2.1
theorem dX10_canPass_17 : decode cX10_canPass 17 = .ok (.iload_n 2, 1) := dq_g372.2.2.2.2.2.2.2.2.2.2.1
theorem dX10_canPass_18 : decode cX10_canPass 18 = .ok (.iadd, 1) := dq_g372.2.2.2.2.2.2.2.2.2.2.2.1
theorem dX10_canPass_19 : decode cX10_canPass 19 = .ok (.iaload, 1) := dq_g372.2.2.2.2.2.2.2.2.2.2.2.2.1
theorem dX10_canPass_20 : decode cX10_canPass 20 = .ok (.iload_n 3, 1) := dq_g372.2.2.2.2.2.2.2.2.2.2.2.2.2.1
theorem dX10_canPass_21 : decode cX10_canPass 21 = .ok (.if_icmp .le 19, 3) := dq_g372.2.2.2.2.2.2.2.2.2.2.2.2.2.2.1
theorem dX10_canPass_24 : decode cX10_canPass 24 = .ok (.aload_n 0, 1) := dq_g372.2.2.2.2.2.2.2.2.2.2.2.2.2.2.2.1
theorem dX10_canPass_25 : decode cX10_canPass 25 = .ok (.getfield 32, 3) := dq_g372.2.2.2.2.2.2.2.2.2.2.2.2.2.2.2.2.1
theorem dX10_canPass_28 : decode cX10_canPass 28 = .ok (.iload_n 1, 1) := dq_g372.2.2.2.2.2.2.2.2.2.2.2.2.2.2.2.2.2.1
theorem dX10_canPass_29 : decode cX10_canPass 29 = .ok (.iaload, 1) := dq_g372.2.2.2.2.2.2.2.2.2.2.2.2.2.2.2.2.2.2.1
theorem dX10_canPass_30 : decode cX10_canPass 30 = .ok (.sipush 200, 3) := dq_g372.2.2.2.2.2.2.2.2.2.2.2.2.2.2.2.2.2.2.2.1
theorem dX10_canPass_33 : decode cX10_canPass 33 = .ok (.if_icmp .ge 7, 3) := dq_g372.2.2.2.2.2.2.2.2.2.2.2.2.2.2.2.2.2.2.2.2.1
theorem dX10_canPass_36 : decode cX10_canPass 36 = .ok (.iconst 1, 1) := dq_g372.2.2.2.2.2.2.2.2.2.2.2.2.2.2.2.2.2.2.2.2.2.1
theorem dX10_canPass_37 : decode cX10_canPass 37 = .ok (.goto 4, 3) := dq_g372.2.2.2.2.2.2.2.2.2.2.2.2.2.2.2.2.2.2.2.2.2.2.1
theorem dX10_canPass_40 : decode cX10_canPass 40 = .ok (.iconst 0, 1) := dq_g372.2.2.2.2.2.2.2.2.2.2.2.2.2.2.2.2.2.2.2.2.2.2.2.1
theorem dX10_canPass_41 : decode cX10_canPass 41 = .ok (.ireturn, 1) := dq_g372.2.2.2.2.2.2.2.2.2.2.2.2.2.2.2.2.2.2.2.2.2.2.2.2.1
theorem dq_g373 : decode cX10_takesOff 0 = .ok (.aload_n 0, 1) ∧ decode cX10_takesOff 1 = .ok (.getfield 17, 3) ∧ decode cX10_takesOff 4 = .ok (.bipush 16, 2) ∧ decode cX10_takesOff 6 = .ok (.iload_n 1, 1) ∧ decode cX10_takesOff 7 = .ok (.imul, 1) ∧ decode cX10_takesOff 8 = .ok (.iload_n 2, 1) ∧ decode cX10_takesOff 9 = .ok (.iadd, 1) ∧ decode cX10_takesOff 10 = .ok (.aload_n 0, 1) ∧ decode cX10_takesOff 11 = .ok (.getfield 17, 3) ∧ decode cX10_takesOff 14 = .ok (.bipush 16, 2) ∧ decode cX10_takesOff 16 = .ok (.iload_n 1, 1) ∧ decode cX10_takesOff 17 = .ok (.imul, 1) ∧ decode cX10_takesOff 18 = .ok (.iload_n 2, 1) ∧ decode cX10_takesOff 19 = .ok (.iadd, 1) ∧ decode cX10_takesOff 20 = .ok (.iaload, 1) ∧ decode cX10_takesOff 21 = .ok (.iload_n 3, 1) ∧ decode cX10_takesOff 22 = .ok (.isub, 1) ∧ decode cX10_takesOff 23 = .ok (.iastore, 1) ∧ decode cX10_takesOff 24 = .ok (.aload_n 0, 1) ∧ decode cX10_takesOff 25 = .ok (.getfield 35, 3) ∧ decode cX10_takesOff 28 = .ok (.sipush 200, 3) ∧ decode cX10_takesOff 31 = .ok (.iload_n 1, 1) ∧ decode cX10_takesOff 32 = .ok (.imul, 1) ∧ decode cX10_takesOff 33 = .ok (.aload_n 0, 1) ∧ decode cX10_takesOff 34 = .ok (.getfield 32, 3) ∧ decode cX10_takesOff 37 = .ok (.iload_n 1, 1) ∧ decode cX10_takesOff 38 = .ok (.iaload, 1) ∧ decode cX10_takesOff 39 = .ok (.iadd, 1) ∧ decode cX10_takesOff 40 = .ok (.iload_n 2, 1) ∧ decode cX10_takesOff 41 = .ok (.iastore, 1) ∧ True := dqC_ok (c := cX10_takesOff) [(0, 1, some (.aload_n 0)), (1, 3, some (.getfield 17)), (4, 2, some (.bipush 16)), (6, 1, some (.iload_n 1)), (7, 1, some (.imul)), (8, 1, some (.iload_n 2)), (9, 1, some (.iadd)), (10, 1, some (.aload_n 0)), (11, 3, some (.getfield 17)), (14, 2, some (.bipush 16)), (16, 1, some (.iload_n 1)), (17, 1, some (.imul)), (18, 1, some (.iload_n 2)), (19, 1, some (.iadd)), (20, 1, some (.iaload)), (21, 1, some (.iload_n 3)), (22, 1, some (.isub)), (23, 1, some (.iastore)), (24, 1, some (.aload_n 0)), (25, 3, some (.getfield 35)), (28, 3, some (.sipush 200)), (31, 1, some (.iload_n 1)), (32, 1, some (.imul)), (33, 1, some (.aload_n 0)), (34, 3, some (.getfield 32)), (37, 1, some (.iload_n 1)), (38, 1, some (.iaload)), (39, 1, some (.iadd)), (40, 1, some (.iload_n 2)), (41, 1, some (.iastore))] _ 0 rfl (by decide +kernel)
theorem dX10_takesOff_0 : decode cX10_takesOff 0 = .ok (.aload_n 0, 1) := dq_g373.1
theorem dX10_takesOff_1 : decode cX10_takesOff 1 = .ok (.getfield 17, 3) := dq_g373.2.1
theorem dX10_takesOff_4 : decode cX10_takesOff 4 = .ok (.bipush 16, 2) := dq_g373.2.2.1
theorem dX10_takesOff_6 : decode cX10_takesOff 6 = .ok (.iload_n 1, 1) := dq_g373.2.2.2.1
theorem dX10_takesOff_7 : decode cX10_takesOff 7 = .ok (.imul, 1) := dq_g373.2.2.2.2.1
theorem dX10_takesOff_8 : decode cX10_takesOff 8 = .ok (.iload_n 2, 1) := dq_g373.2.2.2.2.2.1
theorem dX10_takesOff_9 : decode cX10_takesOff 9 = .ok (.iadd, 1) := dq_g373.2.2.2.2.2.2.1
theorem dX10_takesOff_10 : decode cX10_takesOff 10 = .ok (.aload_n 0, 1) := dq_g373.2.2.2.2.2.2.2.1
theorem dX10_takesOff_11 : decode cX10_takesOff 11 = .ok (.getfield 17, 3) := dq_g373.2.2.2.2.2.2.2.2.1
theorem dX10_takesOff_14 : decode cX10_takesOff 14 = .ok (.bipush 16, 2) := dq_g373.2.2.2.2.2.2.2.2.2.1
theorem dX10_takesOff_16 : decode cX10_takesOff 16 = .ok (.iload_n 1, 1) := dq_g373.2.2.2.2.2.2.2.2.2.2.1
theorem dX10_takesOff_17 : decode cX10_takesOff 17 = .ok (.imul, 1) := dq_g373.2.2.2.2.2.2.2.2.2.2.2.1
theorem dX10_takesOff_18 : decode cX10_takesOff 18 = .ok (.iload_n 2, 1) := dq_g373.2.2.2.2.2.2.2.2.2.2.2.2.1
theorem dX10_takesOff_19 : decode cX10_takesOff 19 = .ok (.iadd, 1) := dq_g373.2.2.2.2.2.2.2.2.2.2.2.2.2.1
theorem dX10_takesOff_20 : decode cX10_takesOff 20 = .ok (.iaload, 1) := dq_g373.2.2.2.2.2.2.2.2.2.2.2.2.2.2.1
theorem dX10_takesOff_21 : decode cX10_takesOff 21 = .ok (.iload_n 3, 1) := dq_g373.2.2.2.2.2.2.2.2.2.2.2.2.2.2.2.1
theorem dX10_takesOff_22 : decode cX10_takesOff 22 = .ok (.isub, 1) := dq_g373.2.2.2.2.2.2.2.2.2.2.2.2.2.2.2.2.1
theorem dX10_takesOff_23 : decode cX10_takesOff 23 = .ok (.iastore, 1) := dq_g373.2.2.2.2.2.2.2.2.2.2.2.2.2.2.2.2.2.1
theorem dX10_takesOff_24 : decode cX10_takesOff 24 = .ok (.aload_n 0, 1) := dq_g373.2.2.2.2.2.2.2.2.2.2.2.2.2.2.2.2.2.2.1
theorem dX10_takesOff_25 : decode cX10_takesOff 25 = .ok (.getfield 35, 3) := dq_g373.2.2.2.2.2.2.2.2.2.2.2.2.2.2.2.2.2.2.2.1
theorem dX10_takesOff_28 : decode cX10_takesOff 28 = .ok (.sipush 200, 3) := dq_g373.2.2.2.2.2.2.2.2.2.2.2.2.2.2.2.2.2.2.2.2.1
theorem dX10_takesOff_31 : decode cX10_takesOff 31 = .ok (.iload_n 1, 1) := dq_g373.2.2.2.2.2.2.2.2.2.2.2.2.2.2.2.2.2.2.2.2.2.1
theorem dX10_takesOff_32 : decode cX10_takesOff 32 = .ok (.imul, 1) := dq_g373.2.2.2.2.2.2.2.2.2.2.2.2.2.2.2.2.2.2.2.2.2.2.1
theorem dX10_takesOff_33 : decode cX10_takesOff 33 = .ok (.aload_n 0, 1) := dq_g373.2.2.2.2.2.2.2.2.2.2.2.2.2.2.2.2.2.2.2.2.2.2.2.1
theorem dX10_takesOff_34 : decode cX10_takesOff 34 = .ok (.getfield 32, 3) := dq_g373.2.2.2.2.2.2.2.2.2.2.2.2.2.2.2.2.2.2.2.2.2.2.2.2.1
theorem dX10_takesOff_37 : decode cX10_takesOff 37 = .ok (.iload_n 1, 1) := dq_g373.2.2.2.2.2.2.2.2.2.2.2.2.2.2.2.2.2.2.2.2.2.2.2.2.2.1
theorem dX10_takesOff_38 : decode cX10_takesOff 38 = .ok (.iaload, 1) := dq_g373.2.2.2.2.2.2.2.2.2.2.2.2.2.2.2.2.2.2.2.2.2.2.2.2.2.2.1
theorem dX10_takesOff_39 : decode cX10_takesOff 39 = .ok (.iadd, 1) := dq_g373.2.2.2.2.2.2.2.2.2.2.2.2.2.2.2.2.2.2.2.2.2.2.2.2.2.2.2.1
theorem dX10_takesOff_40 : decode cX10_takesOff 40 = .ok (.iload_n 2, 1) := dq_g373.2.2.2.2.2.2.2.2.2.2.2.2.2.2.2.2.2.2.2.2.2.2.2.2.2.2.2.2.1
theorem dX10_takesOff_41 : decode cX10_takesOff 41 = .ok (.iastore, 1) := dq_g373.2.2.2.2.2.2.2.2.2.2.2.2.2.2.2.2.2.2.2.2.2.2.2.2.2.2.2.2.2.1
theorem dq_g374 : decode cX10_takesOff 42 = .ok (.aload_n 0, 1) ∧ decode cX10_takesOff 43 = .ok (.getfield 38, 3) ∧ decode cX10_takesOff 46 = .ok (.sipush 200, 3) ∧ decode cX10_takesOff 49 = .ok (.iload_n 1, 1) ∧ decode cX10_takesOff 50 = .ok (.imul, 1) ∧ decode cX10_takesOff 51 = .ok (.aload_n 0, 1) ∧ decode cX10_takesOff 52 = .ok (.getfield 32, 3) ∧ decode cX10_takesOff 55 = .ok (.iload_n 1, 1) ∧ decode cX10_takesOff 56 = .ok (.iaload, 1) ∧ decode cX10_takesOff 57 = .ok (.iadd, 1) ∧ decode cX10_takesOff 58 = .ok (.iload_n 3, 1) ∧ decode cX10_takesOff 59 = .ok (.iastore, 1) ∧ decode cX10_takesOff 60 = .ok (.aload_n 0, 1) ∧ decode cX10_takesOff 61 = .ok (.getfield 32, 3) ∧ decode cX10_takesOff 64 = .ok (.iload_n 1, 1) ∧ decode cX10_takesOff 65 = .ok (.aload_n 0, 1) ∧ decode cX10_takesOff 66 = .ok (.getfield 32, 3) ∧ decode cX10_takesOff 69 = .ok (.iload_n 1, 1) ∧ decode cX10_takesOff 70 = .ok (.iaload, 1) ∧ decode cX10_takesOff 71 = .ok (.iconst 1, 1) ∧ decode cX10_takesOff 72 = .ok (.iadd, 1) ∧ decode cX10_takesOff 73 = .ok (.iastore, 1) ∧ decode cX10_takesOff 74 = .ok (.aload_n 0, 1) ∧ decode cX10_takesOff 75 = .ok (.getfield 41, 3) ∧ decode cX10_takesOff 78 = .ok (.iload_n 1, 1) ∧ decode cX10_takesOff 79 = .ok (.iaload, 1) ∧ decode cX10_takesOff 80 = .ok (.ifCond .ne 23, 3) ∧ decode cX10_takesOff 83 = .ok (.aload_n 0, 1) ∧ decode cX10_takesOff 84 = .ok (.iload_n 1, 1) ∧ decode cX10_takesOff 85 = .ok (.invokevirtual 338, 3) ∧ True := dqC_ok (c := cX10_takesOff) [(42, 1, some (.aload_n 0)), (43, 3, some (.getfield 38)), (46, 3, some (.sipush 200)), (49, 1, some (.iload_n 1)), (50, 1, some (.imul)), (51, 1, some (.aload_n 0)), (52, 3, some (.getfield 32)), (55, 1, some (.iload_n 1)), (56, 1, some (.iaload)), (57, 1, some (.iadd)), (58, 1, some (.iload_n 3)), (59, 1, some (.iastore)), (60, 1, some (.aload_n 0)), (61, 3, some (.getfield 32)), (64, 1, some (.iload_n 1)), (65, 1, some (.aload_n 0)), (66, 3, some (.getfield 32)), (69, 1, some (.iload_n 1)), (70, 1, some (.iaload)), (71, 1, some (.iconst 1)), (72, 1, some (.iadd)), (73, 1, some (.iastore)), (74, 1, some (.aload_n 0)), (75, 3, some (.getfield 41)), (78, 1, some (.iload_n 1)), (79, 1, some (.iaload)), (80, 3, some (.ifCond .ne 23)), (83, 1, some (.aload_n 0)), (84, 1, some (.iload_n 1)), (85, 3, some (.invokevirtual 338))] _ 42 rfl (by decide +kernel)
theorem dX10_takesOff_42 : decode cX10_takesOff 42 = .ok (.aload_n 0, 1) := dq_g374.1
theorem dX10_takesOff_43 : decode cX10_takesOff 43 = .ok (.getfield 38, 3) := dq_g374.2.1
theorem dX10_takesOff_46 : decode cX10_takesOff 46 = .ok (.sipush 200, 3) := dq_g374.2.2.1
theorem dX10_takesOff_49 : decode cX10_takesOff 49 = .ok (.iload_n 1, 1) := dq_g374.2.2.2.1
theorem dX10_takesOff_50 : decode cX10_takesOff 50 = .ok (.imul, 1) := dq_g374.2.2.2.2.1
theorem dX10_takesOff_51 : decode cX10_takesOff 51 = .ok (.aload_n 0, 1) := dq_g374.2.2.2.2.2.1
theorem dX10_takesOff_52 : decode cX10_takesOff 52 = .ok (.getfield 32, 3) := dq_g374.2.2.2.2.2.2.1
theorem dX10_takesOff_55 : decode cX10_takesOff 55 = .ok (.iload_n 1, 1) := dq_g374.2.2.2.2.2.2.2.1
theorem dX10_takesOff_56 : decode cX10_takesOff 56 = .ok (.iaload, 1) := dq_g374.2.2.2.2.2.2.2.2.1
theorem dX10_takesOff_57 : decode cX10_takesOff 57 = .ok (.iadd, 1) := dq_g374.2.2.2.2.2.2.2.2.2.1
theorem dX10_takesOff_58 : decode cX10_takesOff 58 = .ok (.iload_n 3, 1) := dq_g374.2.2.2.2.2.2.2.2.2.2.1
theorem dX10_takesOff_59 : decode cX10_takesOff 59 = .ok (.iastore, 1) := dq_g374.2.2.2.2.2.2.2.2.2.2.2.1
theorem dX10_takesOff_60 : decode cX10_takesOff 60 = .ok (.aload_n 0, 1) := dq_g374.2.2.2.2.2.2.2.2.2.2.2.2.1
theorem dX10_takesOff_61 : decode cX10_takesOff 61 = .ok (.getfield 32, 3) := dq_g374.2.2.2.2.2.2.2.2.2.2.2.2.2.1
theorem dX10_takesOff_64 : decode cX10_takesOff 64 = .ok (.iload_n 1, 1) := dq_g374.2.2.2.2.2.2.2.2.2.2.2.2.2.2.1
theorem dX10_takesOff_65 : decode cX10_takesOff 65 = .ok (.aload_n 0, 1) := dq_g374.2.2.2.2.2.2.2.2.2.2.2.2.2.2.2.1
theorem dX10_takesOff_66 : decode cX10_takesOff 66 = .ok (.getfield 32, 3) := dq_g374.2.2.2.2.2.2.2.2.2.2.2.2.2.2.2.2.1
theorem dX10_takesOff_69 : decode cX10_takesOff 69 = .ok (.iload_n 1, 1) := dq_g374.2.2.2.2.2.2.2.2.2.2.2.2.2.2.2.2.2.1
theorem dX10_takesOff_70 : decode cX10_takesOff 70 = .ok (.iaload, 1) := dq_g374.2.2.2.2.2.2.2.2.2.2.2.2.2.2.2.2.2.2.1
theorem dX10_takesOff_71 : decode cX10_takesOff 71 = .ok (.iconst 1, 1) := dq_g374.2.2.2.2.2.2.2.2.2.2.2.2.2.2.2.2.2.2.2.1
theorem dX10_takesOff_72 : decode cX10_takesOff 72 = .ok (.iadd, 1) := dq_g374.2.2.2.2.2.2.2.2.2.2.2.2.2.2.2.2.2.2.2.2.1
theorem dX10_takesOff_73 : decode cX10_takesOff 73 = .ok (.iastore, 1) := dq_g374.2.2.2.2.2.2.2.2.2.2.2.2.2.2.2.2.2.2.2.2.2.1
theorem dX10_takesOff_74 : decode cX10_takesOff 74 = .ok (.aload_n 0, 1) := dq_g374.2.2.2.2.2.2.2.2.2.2.2.2.2.2.2.2.2.2.2.2.2.2.1
theorem dX10_takesOff_75 : decode cX10_takesOff 75 = .ok (.getfield 41, 3) := dq_g374.2.2.2.2.2.2.2.2.2.2.2.2.2.2.2.2.2.2.2.2.2.2.2.1
theorem dX10_takesOff_78 : decode cX10_takesOff 78 = .ok (.iload_n 1, 1) := dq_g374.2.2.2.2.2.2.2.2.2.2.2.2.2.2.2.2.2.2.2.2.2.2.2.2.1
theorem dX10_takesOff_79 : decode cX10_takesOff 79 = .ok (.iaload, 1) := dq_g374.2.2.2.2.2.2.2.2.2.2.2.2.2.2.2.2.2.2.2.2.2.2.2.2.2.1
theorem dX10_takesOff_80 : decode cX10_takesOff 80 = .ok (.ifCond .ne 23, 3) := dq_g374.2.2.2.2.2.2.2.2.2.2.2.2.2.2.2.2.2.2.2.2.2.2.2.2.2.2.1
theorem dX10_takesOff_83 : decode cX10_takesOff 83 = .ok (.aload_n 0, 1) := dq_g374.2.2.2.2.2.2.2.2.2.2.2.2.2.2.2.2.2.2.2.2.2.2.2.2.2.2.2.1
theorem dX10_takesOff_84 : decode cX10_takesOff 84 = .ok (.iload_n 1, 1) := dq_g374.2.2.2.2.2.2.2.2.2.2.2.2.2.2.2.2.2.2.2.2.2.2.2.2.2.2.2.2.1
theorem dX10_takesOff_85 : decode cX10_takesOff 85 = .ok (.invokevirtual 338, 3) := dq_g374.2.2.2.2.2.2.2.2.2.2.2.2.2.2.2.2.2.2.2.2.2.2.2.2.2.2.2.2.2.1
theorem dq_g375 : decode cX10_takesOff 88 = .ok (.ifCond .eq 15, 3) ∧ decode cX10_takesOff 91 = .ok (.aload_n 0, 1) ∧ decode cX10_takesOff 92 = .ok (.getfield 41, 3) ∧ decode cX10_takesOff 95 = .ok (.iload_n 1, 1) ∧ decode cX10_takesOff 96 = .ok (.aload_n 0, 1) ∧ decode cX10_takesOff 97 = .ok (.getfield 32, 3) ∧ decode cX10_takesOff 100 = .ok (.iload_n 1, 1) ∧ decode cX10_takesOff 101 = .ok (.iaload, 1) ∧ decode cX10_takesOff 102 = .ok (.iastore, 1) ∧ decode cX10_takesOff 103 = .ok (.return_, 1) ∧ True := dqC_ok (c := cX10_takesOff) [(88, 3, some (.ifCond .eq 15)), (91, 1, some (.aload_n 0)), (92, 3, some (.getfield 41)), (95, 1, some (.iload_n 1)), (96, 1, some (.aload_n 0)), (97, 3, some (.getfield 32)), (100, 1, some (.iload_n 1)), (101, 1, some (.iaload)), (102, 1, some (.iastore)), (103, 1, some (.return_))] _ 88 rfl (by decide +kernel)
theorem dX10_takesOff_88 : decode cX10_takesOff 88 = .ok (.ifCond .eq 15, 3) := dq_g375.1
theorem dX10_takesOff_91 : decode cX10_takesOff 91 = .ok (.aload_n 0, 1) := dq_g375.2.1
theorem dX10_takesOff_92 : decode cX10_takesOff 92 = .ok (.getfield 41, 3) := dq_g375.2.2.1
theorem dX10_takesOff_95 : decode cX10_takesOff 95 = .ok (.iload_n 1, 1) := dq_g375.2.2.2.1
theorem dX10_takesOff_96 : decode cX10_takesOff 96 = .ok (.aload_n 0, 1) := dq_g375.2.2.2.2.1
theorem dX10_takesOff_97 : decode cX10_takesOff 97 = .ok (.getfield 32, 3) := dq_g375.2.2.2.2.2.1
theorem dX10_takesOff_100 : decode cX10_takesOff 100 = .ok (.iload_n 1, 1) := dq_g375.2.2.2.2.2.2.1
theorem dX10_takesOff_101 : decode cX10_takesOff 101 = .ok (.iaload, 1) := dq_g375.2.2.2.2.2.2.2.1
theorem dX10_takesOff_102 : decode cX10_takesOff 102 = .ok (.iastore, 1) := dq_g375.2.2.2.2.2.2.2.2.1
theorem dX10_takesOff_103 : decode cX10_takesOff 103 = .ok (.return_, 1) := dq_g375.2.2.2.2.2.2.2.2.2.1
theorem dq_g376 : decode cX10_shave 0 = .ok (.aload_n 0, 1) ∧ decode cX10_shave 1 = .ok (.iconst 0, 1) ∧ decode cX10_shave 2 = .ok (.putfield 167, 3) ∧ decode cX10_shave 5 = .ok (.aload_n 0, 1) ∧ decode cX10_shave 6 = .ok (.iload_n 3, 1) ∧ decode cX10_shave 7 = .ok (.iconst 1, 1) ∧ decode cX10_shave 8 = .ok (.bipush 9, 2) ∧ decode cX10_shave 10 = .ok (.invokevirtual 177, 3) ∧ decode cX10_shave 13 = .ok (.ifCond .eq 13, 3) ∧ decode cX10_shave 16 = .ok (.aload_n 0, 1) ∧ decode cX10_shave 17 = .ok (.iload_n 1, 1) ∧ decode cX10_shave 18 = .ok (.iload_n 2, 1) ∧ decode cX10_shave 19 = .ok (.iload_n 3, 1) ∧ decode cX10_shave 20 = .ok (.invokevirtual 341, 3) ∧ decode cX10_shave 23 = .ok (.ifCond .ne 5, 3) ∧ decode cX10_shave 26 = .ok (.iconst (-1), 1) ∧ decode cX10_shave 27 = .ok (.ireturn, 1) ∧ decode cX10_shave 28 = .ok (.aload_n 0, 1) ∧ decode cX10_shave 29 = .ok (.iload_n 1, 1) ∧ decode cX10_shave 30 = .ok (.iload_n 2, 1) ∧ decode cX10_shave 31 = .ok (.iload_n 3, 1) ∧ decode cX10_shave 32 = .ok (.invokevirtual 344, 3) ∧ decode cX10_shave 35 = .ok (.aload_n 0, 1) ∧ decode cX10_shave 36 = .ok (.getfield 32, 3) ∧ decode cX10_shave 39 = .ok (.iload_n 1, 1) ∧ decode cX10_shave 40 = .ok (.iaload, 1) ∧ decode cX10_shave 41 = .ok (.ireturn, 1) ∧ True := dqC_ok (c := cX10_shave) [(0, 1, some (.aload_n 0)), (1, 1, some (.iconst 0)), (2, 3, some (.putfield 167)), (5, 1, some (.aload_n 0)), (6, 1, some (.iload_n 3)), (7, 1, some (.iconst 1)), (8, 2, some (.bipush 9)), (10, 3, some (.invokevirtual 177)), (13, 3, some (.ifCond .eq 13)), (16, 1, some (.aload_n 0)), (17, 1, some (.iload_n 1)), (18, 1, some (.iload_n 2)), (19, 1, some (.iload_n 3)), (20, 3, some (.invokevirtual 341)), (23, 3, some (.ifCond .ne 5)), (26, 1, some (.iconst (-1))), (27, 1, some (.ireturn)), (28, 1, some (.aload_n 0)), (29, 1, some (.iload_n 1)), (30, 1, some (.iload_n 2)), (31, 1, some (.iload_n 3)), (32, 3, some (.invokevirtual 344)), (35, 1, some (.aload_n 0)), (36, 3, some (.getfield 32)), (39, 1, some (.iload_n 1)), (40, 1, some (.iaload)), (41, 1, some (.ireturn))] _ 0 rfl (by decide +kernel)
theorem dX10_shave_0 : decode cX10_shave 0 = .ok (.aload_n 0, 1) := dq_g376.1
theorem dX10_shave_1 : decode cX10_shave 1 = .ok (.iconst 0, 1) := dq_g376.2.1
theorem dX10_shave_2 : decode cX10_shave 2 = .ok (.putfield 167, 3) := dq_g376.2.2.1
theorem dX10_shave_5 : decode cX10_shave 5 = .ok (.aload_n 0, 1) := dq_g376.2.2.2.1
theorem dX10_shave_6 : decode cX10_shave 6 = .ok (.iload_n 3, 1) := dq_g376.2.2.2.2.1
theorem dX10_shave_7 : decode cX10_shave 7 = .ok (.iconst 1, 1) := dq_g376.2.2.2.2.2.1
theorem dX10_shave_8 : decode cX10_shave 8 = .ok (.bipush 9, 2) := dq_g376.2.2.2.2.2.2.1
theorem dX10_shave_10 : decode cX10_shave 10 = .ok (.invokevirtual 177, 3) := dq_g376.2.2.2.2.2.2.2.1
theorem dX10_shave_13 : decode cX10_shave 13 = .ok (.ifCond .eq 13, 3) := dq_g376.2.2.2.2.2.2.2.2.1
theorem dX10_shave_16 : decode cX10_shave 16 = .ok (.aload_n 0, 1) := dq_g376.2.2.2.2.2.2.2.2.2.1
theorem dX10_shave_17 : decode cX10_shave 17 = .ok (.iload_n 1, 1) := dq_g376.2.2.2.2.2.2.2.2.2.2.1
theorem dX10_shave_18 : decode cX10_shave 18 = .ok (.iload_n 2, 1) := dq_g376.2.2.2.2.2.2.2.2.2.2.2.1
theorem dX10_shave_19 : decode cX10_shave 19 = .ok (.iload_n 3, 1) := dq_g376.2.2.2.2.2.2.2.2.2.2.2.2.1
theorem dX10_shave_20 : decode cX10_shave 20 = .ok (.invokevirtual 341, 3) := dq_g376.2.2.2.2.2.2.2.2.2.2.2.2.2.1
theorem dX10_shave_23 : decode cX10_shave 23 = .ok (.ifCond .ne 5, 3) := dq_g376.2.2.2.2.2.2.2.2.2.2.2.2.2.2.1
theorem dX10_shave_26 : decode cX10_shave 26 = .ok (.iconst (-1), 1) := dq_g376.2.2.2.2.2.2.2.2.2.2.2.2.2.2.2.1
theorem dX10_shave_27 : decode cX10_shave 27 = .ok (.ireturn, 1) := dq_g376.2.2.2.2.2.2.2.2.2.2.2.2.2.2.2.2.1
theorem dX10_shave_28 : decode cX10_shave 28 = .ok (.aload_n 0, 1) := dq_g376.2.2.2.2.2.2.2.2.2.2.2.2.2.2.2.2.2.1
theorem dX10_shave_29 : decode cX10_shave 29 = .ok (.iload_n 1, 1) := dq_g376.2.2.2.2.2.2.2.2.2.2.2.2.2.2.2.2.2.2.1
theorem dX10_shave_30 : decode cX10_shave 30 = .ok (.iload_n 2, 1) := dq_g376.2.2.2.2.2.2.2.2.2.2.2.2.2.2.2.2.2.2.2.1
theorem dX10_shave_31 : decode cX10_shave 31 = .ok (.iload_n 3, 1) := dq_g376.2.2.2.2.2.2.2.2.2.2.2.2.2.2.2.2.2.2.2.2.1
theorem dX10_shave_32 : decode cX10_shave 32 = .ok (.invokevirtual 344, 3) := dq_g376.2.2.2.2.2.2.2.2.2.2.2.2.2.2.2.2.2.2.2.2.2.1
theorem dX10_shave_35 : decode cX10_shave 35 = .ok (.aload_n 0, 1) := dq_g376.2.2.2.2.2.2.2.2.2.2.2.2.2.2.2.2.2.2.2.2.2.2.1
theorem dX10_shave_36 : decode cX10_shave 36 = .ok (.getfield 32, 3) := dq_g376.2.2.2.2.2.2.2.2.2.2.2.2.2.2.2.2.2.2.2.2.2.2.2.1
theorem dX10_shave_39 : decode cX10_shave 39 = .ok (.iload_n 1, 1) := dq_g376.2.2.2.2.2.2.2.2.2.2.2.2.2.2.2.2.2.2.2.2.2.2.2.2.1
theorem dX10_shave_40 : decode cX10_shave 40 = .ok (.iaload, 1) := dq_g376.2.2.2.2.2.2.2.2.2.2.2.2.2.2.2.2.2.2.2.2.2.2.2.2.2.1
theorem dX10_shave_41 : decode cX10_shave 41 = .ok (.ireturn, 1) := dq_g376.2.2.2.2.2.2.2.2.2.2.2.2.2.2.2.2.2.2.2.2.2.2.2.2.2.2.1
theorem dq_g377 : decode cX10_pass 0 = .ok (.aload_n 0, 1) ∧ decode cX10_pass 1 = .ok (.iconst 0, 1) ∧ decode cX10_pass 2 = .ok (.putfield 167, 3) ∧ decode cX10_pass 5 = .ok (.aload_n 0, 1) ∧ decode cX10_pass 6 = .ok (.iload_n 1, 1) ∧ decode cX10_pass 7 = .ok (.invokevirtual 173, 3) ∧ decode cX10_pass 10 = .ok (.ifCond .eq 18, 3) ∧ decode cX10_pass 13 = .ok (.aload_n 0, 1) ∧ decode cX10_pass 14 = .ok (.iload_n 2, 1) ∧ decode cX10_pass 15 = .ok (.iconst 1, 1) ∧ decode cX10_pass 16 = .ok (.aload_n 0, 1) ∧ decode cX10_pass 17 = .ok (.getfield 32, 3) ∧ decode cX10_pass 20 = .ok (.iload_n 1, 1) ∧ decode cX10_pass 21 = .ok (.iaload, 1) ∧ decode cX10_pass 22 = .ok (.invokevirtual 177, 3) ∧ decode cX10_pass 25 = .ok (.ifCond .ne 5, 3) ∧ decode cX10_pass 28 = .ok (.iconst (-1), 1) ∧ decode cX10_pass 29 = .ok (.ireturn, 1) ∧ decode cX10_pass 30 = .ok (.iload_n 3, 1) ∧ decode cX10_pass 31 = .ok (.ifCond .ne 20, 3) ∧ decode cX10_pass 34 = .ok (.aload_n 0, 1) ∧ decode cX10_pass 35 = .ok (.getfield 35, 3) ∧ decode cX10_pass 38 = .ok (.sipush 200, 3) ∧ decode cX10_pass 41 = .ok (.iload_n 1, 1) ∧ decode cX10_pass 42 = .ok (.imul, 1) ∧ decode cX10_pass 43 = .ok (.iload_n 2, 1) ∧ decode cX10_pass 44 = .ok (.iadd, 1) ∧ decode cX10_pass 45 = .ok (.iconst 1, 1) ∧ decode cX10_pass 46 = .ok (.isub, 1) ∧ decode cX10_pass 47 = .ok (.iaload, 1) ∧ True := dqC_ok (c := cX10_pass) [(0, 1, some (.aload_n 0)), (1, 1, some (.iconst 0)), (2, 3, some (.putfield 167)), (5, 1, some (.aload_n 0)), (6, 1, some (.iload_n 1)), (7, 3, some (.invokevirtual 173)), (10, 3, some (.ifCond .eq 18)), (13, 1, some (.aload_n 0)), (14, 1, some (.iload_n 2)), (15, 1, some (.iconst 1)), (16, 1, some (.aload_n 0)), (17, 3, some (.getfield 32)), (20, 1, some (.iload_n 1)), (21, 1, some (.iaload)), (22, 3, some (.invokevirtual 177)), (25, 3, some (.ifCond .ne 5)), (28, 1, some (.iconst (-1))), (29, 1, some (.ireturn)), (30, 1, some (.iload_n 3)), (31, 3, some (.ifCond .ne 20)), (34, 1, some (.aload_n 0)), (35, 3, some (.getfield 35)), (38, 3, some (.sipush 200)), (41, 1, some (.iload_n 1)), (42, 1, some (.imul)), (43, 1, some (.iload_n 2)), (44, 1, some (.iadd)), (45, 1, some (.iconst 1)), (46, 1, some (.isub)), (47, 1, some (.iaload))] _ 0 rfl (by decide +kernel)
theorem dX10_pass_0 : decode cX10_pass 0 = .ok (.aload_n 0, 1) := dq_g377.1
theorem dX10_pass_1 : decode cX10_pass 1 = .ok (.iconst 0, 1) := dq_g377.2.1
theorem dX10_pass_2 : decode cX10_pass 2 = .ok (.putfield 167, 3) := dq_g377.2.2.1
theorem dX10_pass_5 : decode cX10_pass 5 = .ok (.aload_n 0, 1) := dq_g377.2.2.2.1
theorem dX10_pass_6 : decode cX10_pass 6 = .ok (.iload_n 1, 1) := dq_g377.2.2.2.2.1
theorem dX10_pass_7 : decode cX10_pass 7 = .ok (.invokevirtual 173, 3) := dq_g377.2.2.2.2.2.1
theorem dX10_pass_10 : decode cX10_pass 10 = .ok (.ifCond .eq 18, 3) := dq_g377.2.2.2.2.2.2.1
theorem dX10_pass_13 : decode cX10_pass 13 = .ok (.aload_n 0, 1) := dq_g377.2.2.2.2.2.2.2.1
theorem dX10_pass_14 : decode cX10_pass 14 = .ok (.iload_n 2, 1) := dq_g377.2.2.2.2.2.2.2.2.1
theorem dX10_pass_15 : decode cX10_pass 15 = .ok (.iconst 1, 1) := dq_g377.2.2.2.2.2.2.2.2.2.1
theorem dX10_pass_16 : decode cX10_pass 16 = .ok (.aload_n 0, 1) := dq_g377.2.2.2.2.2.2.2.2.2.2.1
theorem dX10_pass_17 : decode cX10_pass 17 = .ok (.getfield 32, 3) := dq_g377.2.2.2.2.2.2.2.2.2.2.2.1
theorem dX10_pass_20 : decode cX10_pass 20 = .ok (.iload_n 1, 1) := dq_g377.2.2.2.2.2.2.2.2.2.2.2.2.1
theorem dX10_pass_21 : decode cX10_pass 21 = .ok (.iaload, 1) := dq_g377.2.2.2.2.2.2.2.2.2.2.2.2.2.1
theorem dX10_pass_22 : decode cX10_pass 22 = .ok (.invokevirtual 177, 3) := dq_g377.2.2.2.2.2.2.2.2.2.2.2.2.2.2.1
theorem dX10_pass_25 : decode cX10_pass 25 = .ok (.ifCond .ne 5, 3) := dq_g377.2.2.2.2.2.2.2.2.2.2.2.2.2.2.2.1
theorem dX10_pass_28 : decode cX10_pass 28 = .ok (.iconst (-1), 1) := dq_g377.2.2.2.2.2.2.2.2.2.2.2.2.2.2.2.2.1
theorem dX10_pass_29 : decode cX10_pass 29 = .ok (.ireturn, 1) := dq_g377.2.2.2.2.2.2.2.2.2.2.2.2.2.2.2.2.2.1
theorem dX10_pass_30 : decode cX10_pass 30 = .ok (.iload_n 3, 1) := dq_g377.2.2.2.2.2.2.2.2.2.2.2.2.2.2.2.2.2.2.1
theorem dX10_pass_31 : decode cX10_pass 31 = .ok (.ifCond .ne 20, 3) := dq_g377.2.2.2.2.2.2.2.2.2.2.2.2.2.2.2.2.2.2.2.1
theorem dX10_pass_34 : decode cX10_pass 34 = .ok (.aload_n 0, 1) := dq_g377.2.2.2.2.2.2.2.2.2.2.2.2.2.2.2.2.2.2.2.2.1
theorem dX10_pass_35 : decode cX10_pass 35 = .ok (.getfield 35, 3) := dq_g377.2.2.2.2.2.2.2.2.2.2.2.2.2.2.2.2.2.2.2.2.2.1
theorem dX10_pass_38 : decode cX10_pass 38 = .ok (.sipush 200, 3) := dq_g377.2.2.2.2.2.2.2.2.2.2.2.2.2.2.2.2.2.2.2.2.2.2.1
theorem dX10_pass_41 : decode cX10_pass 41 = .ok (.iload_n 1, 1) := dq_g377.2.2.2.2.2.2.2.2.2.2.2.2.2.2.2.2.2.2.2.2.2.2.2.1
theorem dX10_pass_42 : decode cX10_pass 42 = .ok (.imul, 1) := dq_g377.2.2.2.2.2.2.2.2.2.2.2.2.2.2.2.2.2.2.2.2.2.2.2.2.1
theorem dX10_pass_43 : decode cX10_pass 43 = .ok (.iload_n 2, 1) := dq_g377.2.2.2.2.2.2.2.2.2.2.2.2.2.2.2.2.2.2.2.2.2.2.2.2.2.1
theorem dX10_pass_44 : decode cX10_pass 44 = .ok (.iadd, 1) := dq_g377.2.2.2.2.2.2.2.2.2.2.2.2.2.2.2.2.2.2.2.2.2.2.2.2.2.2.1
theorem dX10_pass_45 : decode cX10_pass 45 = .ok (.iconst 1, 1) := dq_g377.2.2.2.2.2.2.2.2.2.2.2.2.2.2.2.2.2.2.2.2.2.2.2.2.2.2.2.1
theorem dX10_pass_46 : decode cX10_pass 46 = .ok (.isub, 1) := dq_g377.2.2.2.2.2.2.2.2.2.2.2.2.2.2.2.2.2.2.2.2.2.2.2.2.2.2.2.2.1
theorem dX10_pass_47 : decode cX10_pass 47 = .ok (.iaload, 1) := dq_g377.2.2.2.2.2.2.2.2.2.2.2.2.2.2.2.2.2.2.2.2.2.2.2.2.2.2.2.2.2.1
theorem dq_g378 : decode cX10_pass 48 = .ok (.goto 26, 3) ∧ decode cX10_pass 51 = .ok (.iload_n 3, 1) ∧ decode cX10_pass 52 = .ok (.iconst 1, 1) ∧ decode cX10_pass 53 = .ok (.if_icmp .ne 20, 3) ∧ decode cX10_pass 56 = .ok (.aload_n 0, 1) ∧ decode cX10_pass 57 = .ok (.getfield 38, 3) ∧ decode cX10_pass 60 = .ok (.sipush 200, 3) ∧ decode cX10_pass 63 = .ok (.iload_n 1, 1) ∧ decode cX10_pass 64 = .ok (.imul, 1) ∧ decode cX10_pass 65 = .ok (.iload_n 2, 1) ∧ decode cX10_pass 66 = .ok (.iadd, 1) ∧ decode cX10_pass 67 = .ok (.iconst 1, 1) ∧ decode cX10_pass 68 = .ok (.isub, 1) ∧ decode cX10_pass 69 = .ok (.iaload, 1) ∧ decode cX10_pass 70 = .ok (.goto 4, 3) ∧ decode cX10_pass 73 = .ok (.iconst (-1), 1) ∧ decode cX10_pass 74 = .ok (.ireturn, 1) ∧ True := dqC_ok (c := cX10_pass) [(48, 3, some (.goto 26)), (51, 1, some (.iload_n 3)), (52, 1, some (.iconst 1)), (53, 3, some (.if_icmp .ne 20)), (56, 1, some (.aload_n 0)), (57, 3, some (.getfield 38)), (60, 3, some (.sipush 200)), (63, 1, some (.iload_n 1)), (64, 1, some (.imul)), (65, 1, some (.iload_n 2)), (66, 1, some (.iadd)), (67, 1, some (.iconst 1)), (68, 1, some (.isub)), (69, 1, some (.iaload)), (70, 3, some (.goto 4)), (73, 1, some (.iconst (-1))), (74, 1, some (.ireturn))] _ 48 rfl (by decide +kernel)
theorem dX10_pass_48 : decode cX10_pass 48 = .ok (.goto 26, 3) := dq_g378.1
theorem dX10_pass_51 : decode cX10_pass 51 = .ok (.iload_n 3, 1) := dq_g378.2.1
theorem dX10_pass_52 : decode cX10_pass 52 = .ok (.iconst 1, 1) := dq_g378.2.2.1
theorem dX10_pass_53 : decode cX10_pass 53 = .ok (.if_icmp .ne 20, 3) := dq_g378.2.2.2.1
theorem dX10_pass_56 : decode cX10_pass 56 = .ok (.aload_n 0, 1) := dq_g378.2.2.2.2.1
theorem dX10_pass_57 : decode cX10_pass 57 = .ok (.getfield 38, 3) := dq_g378.2.2.2.2.2.1
theorem dX10_pass_60 : decode cX10_pass 60 = .ok (.sipush 200, 3) := dq_g378.2.2.2.2.2.2.1
theorem dX10_pass_63 : decode cX10_pass 63 = .ok (.iload_n 1, 1) := dq_g378.2.2.2.2.2.2.2.1
theorem dX10_pass_64 : decode cX10_pass 64 = .ok (.imul, 1) := dq_g378.2.2.2.2.2.2.2.2.1
theorem dX10_pass_65 : decode cX10_pass 65 = .ok (.iload_n 2, 1) := dq_g378.2.2.2.2.2.2.2.2.2.1
theorem dX10_pass_66 : decode cX10_pass 66 = .ok (.iadd, 1) := dq_g378.2.2.2.2.2.2.2.2.2.2.1
theorem dX10_pass_67 : decode cX10_pass 67 = .ok (.iconst 1, 1) := dq_g378.2.2.2.2.2.2.2.2.2.2.2.1
theorem dX10_pass_68 : decode cX10_pass 68 = .ok (.isub, 1) := dq_g378.2.2.2.2.2.2.2.2.2.2.2.2.1
theorem dX10_pass_69 : decode cX10_pass 69 = .ok (.iaload, 1) := dq_g378.2.2.2.2.2.2.2.2.2.2.2.2.2.1
theorem dX10_pass_70 : decode cX10_pass 70 = .ok (.goto 4, 3) := dq_g378.2.2.2.2.2.2.2.2.2.2.2.2.2.2.1
theorem dX10_pass_73 : decode cX10_pass 73 = .ok (.iconst (-1), 1) := dq_g378.2.2.2.2.2.2.2.2.2.2.2.2.2.2.2.1
theorem dX10_pass_74 : decode cX10_pass 74 = .ok (.ireturn, 1) := dq_g378.2.2.2.2.2.2.2.2.2.2.2.2.2.2.2.2.1
theorem dq_g379 : decode cX10_goal 0 = .ok (.aload_n 0, 1) ∧ decode cX10_goal 1 = .ok (.iconst 0, 1) ∧ decode cX10_goal 2 = .ok (.putfield 167, 3) ∧ decode cX10_goal 5 = .ok (.aload_n 0, 1) ∧ decode cX10_goal 6 = .ok (.iload_n 1, 1) ∧ decode cX10_goal 7 = .ok (.invokevirtual 173, 3) ∧ decode cX10_goal 10 = .ok (.ifCond .eq 23, 3) ∧ decode cX10_goal 13 = .ok (.aload_n 0, 1) ∧ decode cX10_goal 14 = .ok (.iload_n 2, 1) ∧ decode cX10_goal 15 = .ok (.invokevirtual 331, 3) ∧ decode cX10_goal 18 = .ok (.ifCond .eq 15, 3) ∧ decode cX10_goal 21 = .ok (.aload_n 0, 1) ∧ decode cX10_goal 22 = .ok (.iload_n 3, 1) ∧ decode cX10_goal 23 = .ok (.iconst 0, 1) ∧ decode cX10_goal 24 = .ok (.ldc_w 348, 3) ∧ decode cX10_goal 27 = .ok (.invokevirtual 177, 3) ∧ decode cX10_goal 30 = .ok (.ifCond .ne 5, 3) ∧ decode cX10_goal 33 = .ok (.iconst 0, 1) ∧ decode cX10_goal 34 = .ok (.ireturn, 1) ∧ decode cX10_goal 35 = .ok (.aload_n 0, 1) ∧ decode cX10_goal 36 = .ok (.getfield 29, 3) ∧ decode cX10_goal 39 = .ok (.iconst 3, 1) ∧ decode cX10_goal 40 = .ok (.iload_n 1, 1) ∧ decode cX10_goal 41 = .ok (.imul, 1) ∧ decode cX10_goal 42 = .ok (.iload_n 2, 1) ∧ decode cX10_goal 43 = .ok (.iadd, 1) ∧ decode cX10_goal 44 = .ok (.iload_n 3, 1) ∧ decode cX10_goal 45 = .ok (.iastore, 1) ∧ decode cX10_goal 46 = .ok (.iconst 1, 1) ∧ decode cX10_goal 47 = .ok (.ireturn, 1) ∧ True := dqC_ok (c := cX10_goal) [(0, 1, some (.aload_n 0)), (1, 1, some (.iconst 0)), (2, 3, some (.putfield 167)), (5, 1, some (.aload_n 0)), (6, 1, some (.iload_n 1)), (7, 3, some (.invokevirtual 173)), (10, 3, some (.ifCond .eq 23)), (13, 1, some (.aload_n 0)), (14, 1, some (.iload_n 2)), (15, 3, some (.invokevirtual 331)), (18, 3, some (.ifCond .eq 15)), (21, 1, some (.aload_n 0)), (22, 1, some (.iload_n 3)), (23, 1, some (.iconst 0)), (24, 3, some (.ldc_w 348)), (27, 3, some (.invokevirtual 177)), (30, 3, some (.ifCond .ne 5)), (33, 1, some (.iconst 0)), (34, 1, some (.ireturn)), (35, 1, some (.aload_n 0)), (36, 3, some (.getfield 29)), (39, 1, some (.iconst 3)), (40, 1, some (.iload_n 1)), (41, 1, some (.imul)), (42, 1, some (.iload_n 2)), (43, 1, some (.iadd)), (44, 1, some (.iload_n 3)), (45, 1, some (.iastore)), (46, 1, some (.iconst 1)), (47, 1, some (.ireturn))] _ 0 rfl (by decide +kernel)
theorem dX10_goal_0 : decode cX10_goal 0 = .ok (.aload_n 0, 1) := dq_g379.1
theorem dX10_goal_1 : decode cX10_goal 1 = .ok (.iconst 0, 1) := dq_g379.2.1
theorem dX10_goal_2 : decode cX10_goal 2 = .ok (.putfield 167, 3) := dq_g379.2.2.1
theorem dX10_goal_5 : decode cX10_goal 5 = .ok (.aload_n 0, 1) := dq_g379.2.2.2.1
theorem dX10_goal_6 : decode cX10_goal 6 = .ok (.iload_n 1, 1) := dq_g379.2.2.2.2.1
theorem dX10_goal_7 : decode cX10_goal 7 = .ok (.invokevirtual 173, 3) := dq_g379.2.2.2.2.2.1
theorem dX10_goal_10 : decode cX10_goal 10 = .ok (.ifCond .eq 23, 3) := dq_g379.2.2.2.2.2.2.1
theorem dX10_goal_13 : decode cX10_goal 13 = .ok (.aload_n 0, 1) := dq_g379.2.2.2.2.2.2.2.1
theorem dX10_goal_14 : decode cX10_goal 14 = .ok (.iload_n 2, 1) := dq_g379.2.2.2.2.2.2.2.2.1
theorem dX10_goal_15 : decode cX10_goal 15 = .ok (.invokevirtual 331, 3) := dq_g379.2.2.2.2.2.2.2.2.2.1
theorem dX10_goal_18 : decode cX10_goal 18 = .ok (.ifCond .eq 15, 3) := dq_g379.2.2.2.2.2.2.2.2.2.2.1
theorem dX10_goal_21 : decode cX10_goal 21 = .ok (.aload_n 0, 1) := dq_g379.2.2.2.2.2.2.2.2.2.2.2.1
theorem dX10_goal_22 : decode cX10_goal 22 = .ok (.iload_n 3, 1) := dq_g379.2.2.2.2.2.2.2.2.2.2.2.2.1
theorem dX10_goal_23 : decode cX10_goal 23 = .ok (.iconst 0, 1) := dq_g379.2.2.2.2.2.2.2.2.2.2.2.2.2.1
theorem dX10_goal_24 : decode cX10_goal 24 = .ok (.ldc_w 348, 3) := dq_g379.2.2.2.2.2.2.2.2.2.2.2.2.2.2.1
theorem dX10_goal_27 : decode cX10_goal 27 = .ok (.invokevirtual 177, 3) := dq_g379.2.2.2.2.2.2.2.2.2.2.2.2.2.2.2.1
theorem dX10_goal_30 : decode cX10_goal 30 = .ok (.ifCond .ne 5, 3) := dq_g379.2.2.2.2.2.2.2.2.2.2.2.2.2.2.2.2.1
theorem dX10_goal_33 : decode cX10_goal 33 = .ok (.iconst 0, 1) := dq_g379.2.2.2.2.2.2.2.2.2.2.2.2.2.2.2.2.2.1
theorem dX10_goal_34 : decode cX10_goal 34 = .ok (.ireturn, 1) := dq_g379.2.2.2.2.2.2.2.2.2.2.2.2.2.2.2.2.2.2.1
theorem dX10_goal_35 : decode cX10_goal 35 = .ok (.aload_n 0, 1) := dq_g379.2.2.2.2.2.2.2.2.2.2.2.2.2.2.2.2.2.2.2.1
theorem dX10_goal_36 : decode cX10_goal 36 = .ok (.getfield 29, 3) := dq_g379.2.2.2.2.2.2.2.2.2.2.2.2.2.2.2.2.2.2.2.2.1
theorem dX10_goal_39 : decode cX10_goal 39 = .ok (.iconst 3, 1) := dq_g379.2.2.2.2.2.2.2.2.2.2.2.2.2.2.2.2.2.2.2.2.2.1
theorem dX10_goal_40 : decode cX10_goal 40 = .ok (.iload_n 1, 1) := dq_g379.2.2.2.2.2.2.2.2.2.2.2.2.2.2.2.2.2.2.2.2.2.2.1
theorem dX10_goal_41 : decode cX10_goal 41 = .ok (.imul, 1) := dq_g379.2.2.2.2.2.2.2.2.2.2.2.2.2.2.2.2.2.2.2.2.2.2.2.1
theorem dX10_goal_42 : decode cX10_goal 42 = .ok (.iload_n 2, 1) := dq_g379.2.2.2.2.2.2.2.2.2.2.2.2.2.2.2.2.2.2.2.2.2.2.2.2.1
theorem dX10_goal_43 : decode cX10_goal 43 = .ok (.iadd, 1) := dq_g379.2.2.2.2.2.2.2.2.2.2.2.2.2.2.2.2.2.2.2.2.2.2.2.2.2.1
theorem dX10_goal_44 : decode cX10_goal 44 = .ok (.iload_n 3, 1) := dq_g379.2.2.2.2.2.2.2.2.2.2.2.2.2.2.2.2.2.2.2.2.2.2.2.2.2.2.1
theorem dX10_goal_45 : decode cX10_goal 45 = .ok (.iastore, 1) := dq_g379.2.2.2.2.2.2.2.2.2.2.2.2.2.2.2.2.2.2.2.2.2.2.2.2.2.2.2.1
theorem dX10_goal_46 : decode cX10_goal 46 = .ok (.iconst 1, 1) := dq_g379.2.2.2.2.2.2.2.2.2.2.2.2.2.2.2.2.2.2.2.2.2.2.2.2.2.2.2.2.1
theorem dX10_goal_47 : decode cX10_goal 47 = .ok (.ireturn, 1) := dq_g379.2.2.2.2.2.2.2.2.2.2.2.2.2.2.2.2.2.2.2.2.2.2.2.2.2.2.2.2.2.1
theorem dq_g380 : decode cX10_slack 0 = .ok (.aload_n 0, 1) ∧ decode cX10_slack 1 = .ok (.iconst 0, 1) ∧ decode cX10_slack 2 = .ok (.putfield 167, 3) ∧ decode cX10_slack 5 = .ok (.aload_n 0, 1) ∧ decode cX10_slack 6 = .ok (.iload_n 1, 1) ∧ decode cX10_slack 7 = .ok (.iconst 0, 1) ∧ decode cX10_slack 8 = .ok (.sipush 9999, 3) ∧ decode cX10_slack 11 = .ok (.invokevirtual 177, 3) ∧ decode cX10_slack 14 = .ok (.ifCond .ne 5, 3) ∧ decode cX10_slack 17 = .ok (.iconst 0, 1) ∧ decode cX10_slack 18 = .ok (.ireturn, 1) ∧ decode cX10_slack 19 = .ok (.aload_n 0, 1) ∧ decode cX10_slack 20 = .ok (.iload_n 1, 1) ∧ decode cX10_slack 21 = .ok (.putfield 7, 3) ∧ decode cX10_slack 24 = .ok (.iconst 1, 1) ∧ decode cX10_slack 25 = .ok (.ireturn, 1) ∧ True := dqC_ok (c := cX10_slack) [(0, 1, some (.aload_n 0)), (1, 1, some (.iconst 0)), (2, 3, some (.putfield 167)), (5, 1, some (.aload_n 0)), (6, 1, some (.iload_n 1)), (7, 1, some (.iconst 0)), (8, 3, some (.sipush 9999)), (11, 3, some (.invokevirtual 177)), (14, 3, some (.ifCond .ne 5)), (17, 1, some (.iconst 0)), (18, 1, some (.ireturn)), (19, 1, some (.aload_n 0)), (20, 1, some (.iload_n 1)), (21, 3, some (.putfield 7)), (24, 1, some (.iconst 1)), (25, 1, some (.ireturn))] _ 0 rfl (by decide +kernel)
theorem dX10_slack_0 : decode cX10_slack 0 = .ok (.aload_n 0, 1) := dq_g380.1
theorem dX10_slack_1 : decode cX10_slack 1 = .ok (.iconst 0, 1) := dq_g380.2.1
theorem dX10_slack_2 : decode cX10_slack 2 = .ok (.putfield 167, 3) := dq_g380.2.2.1
theorem dX10_slack_5 : decode cX10_slack 5 = .ok (.aload_n 0, 1) := dq_g380.2.2.2.1
theorem dX10_slack_6 : decode cX10_slack 6 = .ok (.iload_n 1, 1) := dq_g380.2.2.2.2.1
theorem dX10_slack_7 : decode cX10_slack 7 = .ok (.iconst 0, 1) := dq_g380.2.2.2.2.2.1
theorem dX10_slack_8 : decode cX10_slack 8 = .ok (.sipush 9999, 3) := dq_g380.2.2.2.2.2.2.1
theorem dX10_slack_11 : decode cX10_slack 11 = .ok (.invokevirtual 177, 3) := dq_g380.2.2.2.2.2.2.2.1
theorem dX10_slack_14 : decode cX10_slack 14 = .ok (.ifCond .ne 5, 3) := dq_g380.2.2.2.2.2.2.2.2.1
theorem dX10_slack_17 : decode cX10_slack 17 = .ok (.iconst 0, 1) := dq_g380.2.2.2.2.2.2.2.2.2.1
theorem dX10_slack_18 : decode cX10_slack 18 = .ok (.ireturn, 1) := dq_g380.2.2.2.2.2.2.2.2.2.2.1
theorem dX10_slack_19 : decode cX10_slack 19 = .ok (.aload_n 0, 1) := dq_g380.2.2.2.2.2.2.2.2.2.2.2.1
theorem dX10_slack_20 : decode cX10_slack 20 = .ok (.iload_n 1, 1) := dq_g380.2.2.2.2.2.2.2.2.2.2.2.2.1
theorem dX10_slack_21 : decode cX10_slack 21 = .ok (.putfield 7, 3) := dq_g380.2.2.2.2.2.2.2.2.2.2.2.2.2.1
theorem dX10_slack_24 : decode cX10_slack 24 = .ok (.iconst 1, 1) := dq_g380.2.2.2.2.2.2.2.2.2.2.2.2.2.2.1
theorem dX10_slack_25 : decode cX10_slack 25 = .ok (.ireturn, 1) := dq_g380.2.2.2.2.2.2.2.2.2.2.2.2.2.2.2.1
theorem dq_g381 : decode cX10_takes 0 = .ok (.aload_n 0, 1) ∧ decode cX10_takes 1 = .ok (.iconst 0, 1) ∧ decode cX10_takes 2 = .ok (.putfield 167, 3) ∧ decode cX10_takes 5 = .ok (.aload_n 0, 1) ∧ decode cX10_takes 6 = .ok (.iload_n 1, 1) ∧ decode cX10_takes 7 = .ok (.iload_n 2, 1) ∧ decode cX10_takes 8 = .ok (.invokevirtual 181, 3) ∧ decode cX10_takes 11 = .ok (.ifCond .eq 26, 3) ∧ decode cX10_takes 14 = .ok (.aload_n 0, 1) ∧ decode cX10_takes 15 = .ok (.iload_n 3, 1) ∧ decode cX10_takes 16 = .ok (.invokevirtual 331, 3) ∧ decode cX10_takes 19 = .ok (.ifCond .eq 18, 3) ∧ decode cX10_takes 22 = .ok (.aload_n 0, 1) ∧ decode cX10_takes 23 = .ok (.getfield 17, 3) ∧ decode cX10_takes 26 = .ok (.bipush 16, 2) ∧ decode cX10_takes 28 = .ok (.iload_n 1, 1) ∧ decode cX10_takes 29 = .ok (.imul, 1) ∧ decode cX10_takes 30 = .ok (.iload_n 2, 1) ∧ decode cX10_takes 31 = .ok (.iadd, 1) ∧ decode cX10_takes 32 = .ok (.iaload, 1) ∧ decode cX10_takes 33 = .ok (.iconst 1, 1) ∧ decode cX10_takes 34 = .ok (.if_icmp .ne 7, 3) ∧ decode cX10_takes 37 = .ok (.ldc_w 349, 3) ∧ decode cX10_takes 40 = .ok (.ireturn, 1) ∧ decode cX10_takes 41 = .ok (.aload_n 0, 1) ∧ decode cX10_takes 42 = .ok (.iload_n 1, 1) ∧ decode cX10_takes 43 = .ok (.iload_n 3, 1) ∧ decode cX10_takes 44 = .ok (.invokevirtual 335, 3) ∧ decode cX10_takes 47 = .ok (.istore 4, 2) ∧ decode cX10_takes 49 = .ok (.aload_n 0, 1) ∧ True := dqC_ok (c := cX10_takes) [(0, 1, some (.aload_n 0)), (1, 1, some (.iconst 0)), (2, 3, some (.putfield 167)), (5, 1, some (.aload_n 0)), (6, 1, some (.iload_n 1)), (7, 1, some (.iload_n 2)), (8, 3, some (.invokevirtual 181)), (11, 3, some (.ifCond .eq 26)), (14, 1, some (.aload_n 0)), (15, 1, some (.iload_n 3)), (16, 3, some (.invokevirtual 331)), (19, 3, some (.ifCond .eq 18)), (22, 1, some (.aload_n 0)), (23, 3, some (.getfield 17)), (26, 2, some (.bipush 16)), (28, 1, some (.iload_n 1)), (29, 1, some (.imul)), (30, 1, some (.iload_n 2)), (31, 1, some (.iadd)), (32, 1, some (.iaload)), (33, 1, some (.iconst 1)), (34, 3, some (.if_icmp .ne 7)), (37, 3, some (.ldc_w 349)), (40, 1, some (.ireturn)), (41, 1, some (.aload_n 0)), (42, 1, some (.iload_n 1)), (43, 1, some (.iload_n 3)), (44, 3, some (.invokevirtual 335)), (47, 2, some (.istore 4)), (49, 1, some (.aload_n 0))] _ 0 rfl (by decide +kernel)
theorem dX10_takes_0 : decode cX10_takes 0 = .ok (.aload_n 0, 1) := dq_g381.1
theorem dX10_takes_1 : decode cX10_takes 1 = .ok (.iconst 0, 1) := dq_g381.2.1
theorem dX10_takes_2 : decode cX10_takes 2 = .ok (.putfield 167, 3) := dq_g381.2.2.1
theorem dX10_takes_5 : decode cX10_takes 5 = .ok (.aload_n 0, 1) := dq_g381.2.2.2.1
theorem dX10_takes_6 : decode cX10_takes 6 = .ok (.iload_n 1, 1) := dq_g381.2.2.2.2.1
theorem dX10_takes_7 : decode cX10_takes 7 = .ok (.iload_n 2, 1) := dq_g381.2.2.2.2.2.1
theorem dX10_takes_8 : decode cX10_takes 8 = .ok (.invokevirtual 181, 3) := dq_g381.2.2.2.2.2.2.1
theorem dX10_takes_11 : decode cX10_takes 11 = .ok (.ifCond .eq 26, 3) := dq_g381.2.2.2.2.2.2.2.1
theorem dX10_takes_14 : decode cX10_takes 14 = .ok (.aload_n 0, 1) := dq_g381.2.2.2.2.2.2.2.2.1
theorem dX10_takes_15 : decode cX10_takes 15 = .ok (.iload_n 3, 1) := dq_g381.2.2.2.2.2.2.2.2.2.1
theorem dX10_takes_16 : decode cX10_takes 16 = .ok (.invokevirtual 331, 3) := dq_g381.2.2.2.2.2.2.2.2.2.2.1
theorem dX10_takes_19 : decode cX10_takes 19 = .ok (.ifCond .eq 18, 3) := dq_g381.2.2.2.2.2.2.2.2.2.2.2.1
theorem dX10_takes_22 : decode cX10_takes 22 = .ok (.aload_n 0, 1) := dq_g381.2.2.2.2.2.2.2.2.2.2.2.2.1
theorem dX10_takes_23 : decode cX10_takes 23 = .ok (.getfield 17, 3) := dq_g381.2.2.2.2.2.2.2.2.2.2.2.2.2.1
theorem dX10_takes_26 : decode cX10_takes 26 = .ok (.bipush 16, 2) := dq_g381.2.2.2.2.2.2.2.2.2.2.2.2.2.2.1
theorem dX10_takes_28 : decode cX10_takes 28 = .ok (.iload_n 1, 1) := dq_g381.2.2.2.2.2.2.2.2.2.2.2.2.2.2.2.1
theorem dX10_takes_29 : decode cX10_takes 29 = .ok (.imul, 1) := dq_g381.2.2.2.2.2.2.2.2.2.2.2.2.2.2.2.2.1
theorem dX10_takes_30 : decode cX10_takes 30 = .ok (.iload_n 2, 1) := dq_g381.2.2.2.2.2.2.2.2.2.2.2.2.2.2.2.2.2.1
theorem dX10_takes_31 : decode cX10_takes 31 = .ok (.iadd, 1) := dq_g381.2.2.2.2.2.2.2.2.2.2.2.2.2.2.2.2.2.2.1
theorem dX10_takes_32 : decode cX10_takes 32 = .ok (.iaload, 1) := dq_g381.2.2.2.2.2.2.2.2.2.2.2.2.2.2.2.2.2.2.2.1
theorem dX10_takes_33 : decode cX10_takes 33 = .ok (.iconst 1, 1) := dq_g381.2.2.2.2.2.2.2.2.2.2.2.2.2.2.2.2.2.2.2.2.1
theorem dX10_takes_34 : decode cX10_takes 34 = .ok (.if_icmp .ne 7, 3) := dq_g381.2.2.2.2.2.2.2.2.2.2.2.2.2.2.2.2.2.2.2.2.2.1
theorem dX10_takes_37 : decode cX10_takes 37 = .ok (.ldc_w 349, 3) := dq_g381.2.2.2.2.2.2.2.2.2.2.2.2.2.2.2.2.2.2.2.2.2.2.1
theorem dX10_takes_40 : decode cX10_takes 40 = .ok (.ireturn, 1) := dq_g381.2.2.2.2.2.2.2.2.2.2.2.2.2.2.2.2.2.2.2.2.2.2.2.1
theorem dX10_takes_41 : decode cX10_takes 41 = .ok (.aload_n 0, 1) := dq_g381.2.2.2.2.2.2.2.2.2.2.2.2.2.2.2.2.2.2.2.2.2.2.2.2.1
theorem dX10_takes_42 : decode cX10_takes 42 = .ok (.iload_n 1, 1) := dq_g381.2.2.2.2.2.2.2.2.2.2.2.2.2.2.2.2.2.2.2.2.2.2.2.2.2.1
theorem dX10_takes_43 : decode cX10_takes 43 = .ok (.iload_n 3, 1) := dq_g381.2.2.2.2.2.2.2.2.2.2.2.2.2.2.2.2.2.2.2.2.2.2.2.2.2.2.1
theorem dX10_takes_44 : decode cX10_takes 44 = .ok (.invokevirtual 335, 3) := dq_g381.2.2.2.2.2.2.2.2.2.2.2.2.2.2.2.2.2.2.2.2.2.2.2.2.2.2.2.1
theorem dX10_takes_47 : decode cX10_takes 47 = .ok (.istore 4, 2) := dq_g381.2.2.2.2.2.2.2.2.2.2.2.2.2.2.2.2.2.2.2.2.2.2.2.2.2.2.2.2.1
theorem dX10_takes_49 : decode cX10_takes 49 = .ok (.aload_n 0, 1) := dq_g381.2.2.2.2.2.2.2.2.2.2.2.2.2.2.2.2.2.2.2.2.2.2.2.2.2.2.2.2.2.1
theorem dq_g382 : decode cX10_takes 50 = .ok (.getfield 17, 3) ∧ decode cX10_takes 53 = .ok (.bipush 16, 2) ∧ decode cX10_takes 55 = .ok (.iload_n 1, 1) ∧ decode cX10_takes 56 = .ok (.imul, 1) ∧ decode cX10_takes 57 = .ok (.iload_n 2, 1) ∧ decode cX10_takes 58 = .ok (.iadd, 1) ∧ decode cX10_takes 59 = .ok (.aload_n 0, 1) ∧ decode cX10_takes 60 = .ok (.getfield 17, 3) ∧ decode cX10_takes 63 = .ok (.bipush 16, 2) ∧ decode cX10_takes 65 = .ok (.iload_n 1, 1) ∧ decode cX10_takes 66 = .ok (.imul, 1) ∧ decode cX10_takes 67 = .ok (.iload_n 2, 1) ∧ decode cX10_takes 68 = .ok (.iadd, 1) ∧ decode cX10_takes 69 = .ok (.iaload, 1) ∧ decode cX10_takes 70 = .ok (.iconst 1, 1) ∧ decode cX10_takes 71 = .ok (.isub, 1) ∧ decode cX10_takes 72 = .ok (.iastore, 1) ∧ decode cX10_takes 73 = .ok (.aload_n 0, 1) ∧ decode cX10_takes 74 = .ok (.iload_n 1, 1) ∧ decode cX10_takes 75 = .ok (.iload_n 3, 1) ∧ decode cX10_takes 76 = .ok (.invokevirtual 335, 3) ∧ decode cX10_takes 79 = .ok (.istore 5, 2) ∧ decode cX10_takes 81 = .ok (.aload_n 0, 1) ∧ decode cX10_takes 82 = .ok (.getfield 17, 3) ∧ decode cX10_takes 85 = .ok (.bipush 16, 2) ∧ decode cX10_takes 87 = .ok (.iload_n 1, 1) ∧ decode cX10_takes 88 = .ok (.imul, 1) ∧ decode cX10_takes 89 = .ok (.iload_n 2, 1) ∧ decode cX10_takes 90 = .ok (.iadd, 1) ∧ decode cX10_takes 91 = .ok (.aload_n 0, 1) ∧ True := dqC_ok (c := cX10_takes) [(50, 3, some (.getfield 17)), (53, 2, some (.bipush 16)), (55, 1, some (.iload_n 1)), (56, 1, some (.imul)), (57, 1, some (.iload_n 2)), (58, 1, some (.iadd)), (59, 1, some (.aload_n 0)), (60, 3, some (.getfield 17)), (63, 2, some (.bipush 16)), (65, 1, some (.iload_n 1)), (66, 1, some (.imul)), (67, 1, some (.iload_n 2)), (68, 1, some (.iadd)), (69, 1, some (.iaload)), (70, 1, some (.iconst 1)), (71, 1, some (.isub)), (72, 1, some (.iastore)), (73, 1, some (.aload_n 0)), (74, 1, some (.iload_n 1)), (75, 1, some (.iload_n 3)), (76, 3, some (.invokevirtual 335)), (79, 2, some (.istore 5)), (81, 1, some (.aload_n 0)), (82, 3, some (.getfield 17)), (85, 2, some (.bipush 16)), (87, 1, some (.iload_n 1)), (88, 1, some (.imul)), (89, 1, some (.iload_n 2)), (90, 1, some (.iadd)), (91, 1, some (.aload_n 0))] _ 50 rfl (by decide +kernel)
theorem dX10_takes_50 : decode cX10_takes 50 = .ok (.getfield 17, 3) := dq_g382.1
theorem dX10_takes_53 : decode cX10_takes 53 = .ok (.bipush 16, 2) := dq_g382.2.1
theorem dX10_takes_55 : decode cX10_takes 55 = .ok (.iload_n 1, 1) := dq_g382.2.2.1
theorem dX10_takes_56 : decode cX10_takes 56 = .ok (.imul, 1) := dq_g382.2.2.2.1
theorem dX10_takes_57 : decode cX10_takes 57 = .ok (.iload_n 2, 1) := dq_g382.2.2.2.2.1
theorem dX10_takes_58 : decode cX10_takes 58 = .ok (.iadd, 1) := dq_g382.2.2.2.2.2.1
theorem dX10_takes_59 : decode cX10_takes 59 = .ok (.aload_n 0, 1) := dq_g382.2.2.2.2.2.2.1
theorem dX10_takes_60 : decode cX10_takes 60 = .ok (.getfield 17, 3) := dq_g382.2.2.2.2.2.2.2.1
theorem dX10_takes_63 : decode cX10_takes 63 = .ok (.bipush 16, 2) := dq_g382.2.2.2.2.2.2.2.2.1
theorem dX10_takes_65 : decode cX10_takes 65 = .ok (.iload_n 1, 1) := dq_g382.2.2.2.2.2.2.2.2.2.1
theorem dX10_takes_66 : decode cX10_takes 66 = .ok (.imul, 1) := dq_g382.2.2.2.2.2.2.2.2.2.2.1
theorem dX10_takes_67 : decode cX10_takes 67 = .ok (.iload_n 2, 1) := dq_g382.2.2.2.2.2.2.2.2.2.2.2.1
theorem dX10_takes_68 : decode cX10_takes 68 = .ok (.iadd, 1) := dq_g382.2.2.2.2.2.2.2.2.2.2.2.2.1
theorem dX10_takes_69 : decode cX10_takes 69 = .ok (.iaload, 1) := dq_g382.2.2.2.2.2.2.2.2.2.2.2.2.2.1
theorem dX10_takes_70 : decode cX10_takes 70 = .ok (.iconst 1, 1) := dq_g382.2.2.2.2.2.2.2.2.2.2.2.2.2.2.1
theorem dX10_takes_71 : decode cX10_takes 71 = .ok (.isub, 1) := dq_g382.2.2.2.2.2.2.2.2.2.2.2.2.2.2.2.1
theorem dX10_takes_72 : decode cX10_takes 72 = .ok (.iastore, 1) := dq_g382.2.2.2.2.2.2.2.2.2.2.2.2.2.2.2.2.1
theorem dX10_takes_73 : decode cX10_takes 73 = .ok (.aload_n 0, 1) := dq_g382.2.2.2.2.2.2.2.2.2.2.2.2.2.2.2.2.2.1
theorem dX10_takes_74 : decode cX10_takes 74 = .ok (.iload_n 1, 1) := dq_g382.2.2.2.2.2.2.2.2.2.2.2.2.2.2.2.2.2.2.1
theorem dX10_takes_75 : decode cX10_takes 75 = .ok (.iload_n 3, 1) := dq_g382.2.2.2.2.2.2.2.2.2.2.2.2.2.2.2.2.2.2.2.1
theorem dX10_takes_76 : decode cX10_takes 76 = .ok (.invokevirtual 335, 3) := dq_g382.2.2.2.2.2.2.2.2.2.2.2.2.2.2.2.2.2.2.2.2.1
theorem dX10_takes_79 : decode cX10_takes 79 = .ok (.istore 5, 2) := dq_g382.2.2.2.2.2.2.2.2.2.2.2.2.2.2.2.2.2.2.2.2.2.1
theorem dX10_takes_81 : decode cX10_takes 81 = .ok (.aload_n 0, 1) := dq_g382.2.2.2.2.2.2.2.2.2.2.2.2.2.2.2.2.2.2.2.2.2.2.1
theorem dX10_takes_82 : decode cX10_takes 82 = .ok (.getfield 17, 3) := dq_g382.2.2.2.2.2.2.2.2.2.2.2.2.2.2.2.2.2.2.2.2.2.2.2.1
theorem dX10_takes_85 : decode cX10_takes 85 = .ok (.bipush 16, 2) := dq_g382.2.2.2.2.2.2.2.2.2.2.2.2.2.2.2.2.2.2.2.2.2.2.2.2.1
theorem dX10_takes_87 : decode cX10_takes 87 = .ok (.iload_n 1, 1) := dq_g382.2.2.2.2.2.2.2.2.2.2.2.2.2.2.2.2.2.2.2.2.2.2.2.2.2.1
theorem dX10_takes_88 : decode cX10_takes 88 = .ok (.imul, 1) := dq_g382.2.2.2.2.2.2.2.2.2.2.2.2.2.2.2.2.2.2.2.2.2.2.2.2.2.2.1
theorem dX10_takes_89 : decode cX10_takes 89 = .ok (.iload_n 2, 1) := dq_g382.2.2.2.2.2.2.2.2.2.2.2.2.2.2.2.2.2.2.2.2.2.2.2.2.2.2.2.1
theorem dX10_takes_90 : decode cX10_takes 90 = .ok (.iadd, 1) := dq_g382.2.2.2.2.2.2.2.2.2.2.2.2.2.2.2.2.2.2.2.2.2.2.2.2.2.2.2.2.1
theorem dX10_takes_91 : decode cX10_takes 91 = .ok (.aload_n 0, 1) := dq_g382.2.2.2.2.2.2.2.2.2.2.2.2.2.2.2.2.2.2.2.2.2.2.2.2.2.2.2.2.2.1
theorem dq_g383 : decode cX10_takes 92 = .ok (.getfield 17, 3) ∧ decode cX10_takes 95 = .ok (.bipush 16, 2) ∧ decode cX10_takes 97 = .ok (.iload_n 1, 1) ∧ decode cX10_takes 98 = .ok (.imul, 1) ∧ decode cX10_takes 99 = .ok (.iload_n 2, 1) ∧ decode cX10_takes 100 = .ok (.iadd, 1) ∧ decode cX10_takes 101 = .ok (.iaload, 1) ∧ decode cX10_takes 102 = .ok (.iconst 1, 1) ∧ decode cX10_takes 103 = .ok (.iadd, 1) ∧ decode cX10_takes 104 = .ok (.iastore, 1) ∧ decode cX10_takes 105 = .ok (.iload 4, 2) ∧ decode cX10_takes 107 = .ok (.iload 5, 2) ∧ decode cX10_takes 109 = .ok (.isub, 1) ∧ decode cX10_takes 110 = .ok (.ireturn, 1) ∧ True := dqC_ok (c := cX10_takes) [(92, 3, some (.getfield 17)), (95, 2, some (.bipush 16)), (97, 1, some (.iload_n 1)), (98, 1, some (.imul)), (99, 1, some (.iload_n 2)), (100, 1, some (.iadd)), (101, 1, some (.iaload)), (102, 1, some (.iconst 1)), (103, 1, some (.iadd)), (104, 1, some (.iastore)), (105, 2, some (.iload 4)), (107, 2, some (.iload 5)), (109, 1, some (.isub)), (110, 1, some (.ireturn))] _ 92 rfl (by decide +kernel)
theorem dX10_takes_92 : decode cX10_takes 92 = .ok (.getfield 17, 3) := dq_g383.1
theorem dX10_takes_95 : decode cX10_takes 95 = .ok (.bipush 16, 2) := dq_g383.2.1
theorem dX10_takes_97 : decode cX10_takes 97 = .ok (.iload_n 1, 1) := dq_g383.2.2.1
theorem dX10_takes_98 : decode cX10_takes 98 = .ok (.imul, 1) := dq_g383.2.2.2.1
theorem dX10_takes_99 : decode cX10_takes 99 = .ok (.iload_n 2, 1) := dq_g383.2.2.2.2.1
theorem dX10_takes_100 : decode cX10_takes 100 = .ok (.iadd, 1) := dq_g383.2.2.2.2.2.1
theorem dX10_takes_101 : decode cX10_takes 101 = .ok (.iaload, 1) := dq_g383.2.2.2.2.2.2.1
theorem dX10_takes_102 : decode cX10_takes 102 = .ok (.iconst 1, 1) := dq_g383.2.2.2.2.2.2.2.1
theorem dX10_takes_103 : decode cX10_takes 103 = .ok (.iadd, 1) := dq_g383.2.2.2.2.2.2.2.2.1
theorem dX10_takes_104 : decode cX10_takes 104 = .ok (.iastore, 1) := dq_g383.2.2.2.2.2.2.2.2.2.1
theorem dX10_takes_105 : decode cX10_takes 105 = .ok (.iload 4, 2) := dq_g383.2.2.2.2.2.2.2.2.2.2.1
theorem dX10_takes_107 : decode cX10_takes 107 = .ok (.iload 5, 2) := dq_g383.2.2.2.2.2.2.2.2.2.2.2.1
theorem dX10_takes_109 : decode cX10_takes 109 = .ok (.isub, 1) := dq_g383.2.2.2.2.2.2.2.2.2.2.2.2.1
theorem dX10_takes_110 : decode cX10_takes 110 = .ok (.ireturn, 1) := dq_g383.2.2.2.2.2.2.2.2.2.2.2.2.2.1
theorem dq_g384 : decode cX10_asksJob 0 = .ok (.aload_n 0, 1) ∧ decode cX10_asksJob 1 = .ok (.iload_n 1, 1) ∧ decode cX10_asksJob 2 = .ok (.iconst 0, 1) ∧ decode cX10_asksJob 3 = .ok (.invokevirtual 335, 3) ∧ decode cX10_asksJob 6 = .ok (.istore_n 2, 1) ∧ decode cX10_asksJob 7 = .ok (.aload_n 0, 1) ∧ decode cX10_asksJob 8 = .ok (.iload_n 1, 1) ∧ decode cX10_asksJob 9 = .ok (.iconst 1, 1) ∧ decode cX10_asksJob 10 = .ok (.invokevirtual 335, 3) ∧ decode cX10_asksJob 13 = .ok (.istore_n 3, 1) ∧ decode cX10_asksJob 14 = .ok (.aload_n 0, 1) ∧ decode cX10_asksJob 15 = .ok (.iload_n 1, 1) ∧ decode cX10_asksJob 16 = .ok (.iconst 2, 1) ∧ decode cX10_asksJob 17 = .ok (.invokevirtual 335, 3) ∧ decode cX10_asksJob 20 = .ok (.istore 4, 2) ∧ decode cX10_asksJob 22 = .ok (.iconst 0, 1) ∧ decode cX10_asksJob 23 = .ok (.istore 5, 2) ∧ decode cX10_asksJob 25 = .ok (.iload 5, 2) ∧ decode cX10_asksJob 27 = .ok (.bipush 14, 2) ∧ decode cX10_asksJob 29 = .ok (.if_icmp .ge 17, 3) ∧ decode cX10_asksJob 32 = .ok (.aload_n 0, 1) ∧ decode cX10_asksJob 33 = .ok (.getfield 95, 3) ∧ decode cX10_asksJob 36 = .ok (.iload 5, 2) ∧ decode cX10_asksJob 38 = .ok (.iconst 0, 1) ∧ decode cX10_asksJob 39 = .ok (.iastore, 1) ∧ decode cX10_asksJob 40 = .ok (.iinc 5 1, 3) ∧ decode cX10_asksJob 43 = .ok (.goto (-18), 3) ∧ decode cX10_asksJob 46 = .ok (.aload_n 0, 1) ∧ decode cX10_asksJob 47 = .ok (.getfield 95, 3) ∧ decode cX10_asksJob 50 = .ok (.bipush 10, 2) ∧ True := dqC_ok (c := cX10_asksJob) [(0, 1, some (.aload_n 0)), (1, 1, some (.iload_n 1)), (2, 1, some (.iconst 0)), (3, 3, some (.invokevirtual 335)), (6, 1, some (.istore_n 2)), (7, 1, some (.aload_n 0)), (8, 1, some (.iload_n 1)), (9, 1, some (.iconst 1)), (10, 3, some (.invokevirtual 335)), (13, 1, some (.istore_n 3)), (14, 1, some (.aload_n 0)), (15, 1, some (.iload_n 1)), (16, 1, some (.iconst 2)), (17, 3, some (.invokevirtual 335)), (20, 2, some (.istore 4)), (22, 1, some (.iconst 0)), (23, 2, some (.istore 5)), (25, 2, some (.iload 5)), (27, 2, some (.bipush 14)), (29, 3, some (.if_icmp .ge 17)), (32, 1, some (.aload_n 0)), (33, 3, some (.getfield 95)), (36, 2, some (.iload 5)), (38, 1, some (.iconst 0)), (39, 1, some (.iastore)), (40, 3, some (.iinc 5 1)), (43, 3, some (.goto (-18))), (46, 1, some (.aload_n 0)), (47, 3, some (.getfield 95)), (50, 2, some (.bipush 10))] _ 0 rfl (by decide +kernel)
theorem dX10_asksJob_0 : decode cX10_asksJob 0 = .ok (.aload_n 0, 1) := dq_g384.1
theorem dX10_asksJob_1 : decode cX10_asksJob 1 = .ok (.iload_n 1, 1) := dq_g384.2.1
theorem dX10_asksJob_2 : decode cX10_asksJob 2 = .ok (.iconst 0, 1) := dq_g384.2.2.1
theorem dX10_asksJob_3 : decode cX10_asksJob 3 = .ok (.invokevirtual 335, 3) := dq_g384.2.2.2.1
theorem dX10_asksJob_6 : decode cX10_asksJob 6 = .ok (.istore_n 2, 1) := dq_g384.2.2.2.2.1
theorem dX10_asksJob_7 : decode cX10_asksJob 7 = .ok (.aload_n 0, 1) := dq_g384.2.2.2.2.2.1
theorem dX10_asksJob_8 : decode cX10_asksJob 8 = .ok (.iload_n 1, 1) := dq_g384.2.2.2.2.2.2.1
theorem dX10_asksJob_9 : decode cX10_asksJob 9 = .ok (.iconst 1, 1) := dq_g384.2.2.2.2.2.2.2.1
theorem dX10_asksJob_10 : decode cX10_asksJob 10 = .ok (.invokevirtual 335, 3) := dq_g384.2.2.2.2.2.2.2.2.1
theorem dX10_asksJob_13 : decode cX10_asksJob 13 = .ok (.istore_n 3, 1) := dq_g384.2.2.2.2.2.2.2.2.2.1
theorem dX10_asksJob_14 : decode cX10_asksJob 14 = .ok (.aload_n 0, 1) := dq_g384.2.2.2.2.2.2.2.2.2.2.1
theorem dX10_asksJob_15 : decode cX10_asksJob 15 = .ok (.iload_n 1, 1) := dq_g384.2.2.2.2.2.2.2.2.2.2.2.1
theorem dX10_asksJob_16 : decode cX10_asksJob 16 = .ok (.iconst 2, 1) := dq_g384.2.2.2.2.2.2.2.2.2.2.2.2.1
theorem dX10_asksJob_17 : decode cX10_asksJob 17 = .ok (.invokevirtual 335, 3) := dq_g384.2.2.2.2.2.2.2.2.2.2.2.2.2.1
theorem dX10_asksJob_20 : decode cX10_asksJob 20 = .ok (.istore 4, 2) := dq_g384.2.2.2.2.2.2.2.2.2.2.2.2.2.2.1
theorem dX10_asksJob_22 : decode cX10_asksJob 22 = .ok (.iconst 0, 1) := dq_g384.2.2.2.2.2.2.2.2.2.2.2.2.2.2.2.1
theorem dX10_asksJob_23 : decode cX10_asksJob 23 = .ok (.istore 5, 2) := dq_g384.2.2.2.2.2.2.2.2.2.2.2.2.2.2.2.2.1
theorem dX10_asksJob_25 : decode cX10_asksJob 25 = .ok (.iload 5, 2) := dq_g384.2.2.2.2.2.2.2.2.2.2.2.2.2.2.2.2.2.1
theorem dX10_asksJob_27 : decode cX10_asksJob 27 = .ok (.bipush 14, 2) := dq_g384.2.2.2.2.2.2.2.2.2.2.2.2.2.2.2.2.2.2.1
theorem dX10_asksJob_29 : decode cX10_asksJob 29 = .ok (.if_icmp .ge 17, 3) := dq_g384.2.2.2.2.2.2.2.2.2.2.2.2.2.2.2.2.2.2.2.1
theorem dX10_asksJob_32 : decode cX10_asksJob 32 = .ok (.aload_n 0, 1) := dq_g384.2.2.2.2.2.2.2.2.2.2.2.2.2.2.2.2.2.2.2.2.1
theorem dX10_asksJob_33 : decode cX10_asksJob 33 = .ok (.getfield 95, 3) := dq_g384.2.2.2.2.2.2.2.2.2.2.2.2.2.2.2.2.2.2.2.2.2.1
theorem dX10_asksJob_36 : decode cX10_asksJob 36 = .ok (.iload 5, 2) := dq_g384.2.2.2.2.2.2.2.2.2.2.2.2.2.2.2.2.2.2.2.2.2.2.1
theorem dX10_asksJob_38 : decode cX10_asksJob 38 = .ok (.iconst 0, 1) := dq_g384.2.2.2.2.2.2.2.2.2.2.2.2.2.2.2.2.2.2.2.2.2.2.2.1
theorem dX10_asksJob_39 : decode cX10_asksJob 39 = .ok (.iastore, 1) := dq_g384.2.2.2.2.2.2.2.2.2.2.2.2.2.2.2.2.2.2.2.2.2.2.2.2.1
theorem dX10_asksJob_40 : decode cX10_asksJob 40 = .ok (.iinc 5 1, 3) := dq_g384.2.2.2.2.2.2.2.2.2.2.2.2.2.2.2.2.2.2.2.2.2.2.2.2.2.1
theorem dX10_asksJob_43 : decode cX10_asksJob 43 = .ok (.goto (-18), 3) := dq_g384.2.2.2.2.2.2.2.2.2.2.2.2.2.2.2.2.2.2.2.2.2.2.2.2.2.2.1
theorem dX10_asksJob_46 : decode cX10_asksJob 46 = .ok (.aload_n 0, 1) := dq_g384.2.2.2.2.2.2.2.2.2.2.2.2.2.2.2.2.2.2.2.2.2.2.2.2.2.2.2.1
theorem dX10_asksJob_47 : decode cX10_asksJob 47 = .ok (.getfield 95, 3) := dq_g384.2.2.2.2.2.2.2.2.2.2.2.2.2.2.2.2.2.2.2.2.2.2.2.2.2.2.2.2.1
theorem dX10_asksJob_50 : decode cX10_asksJob 50 = .ok (.bipush 10, 2) := dq_g384.2.2.2.2.2.2.2.2.2.2.2.2.2.2.2.2.2.2.2.2.2.2.2.2.2.2.2.2.2.1
theorem dq_g385 : decode cX10_asksJob 52 = .ok (.iload_n 2, 1) ∧ decode cX10_asksJob 53 = .ok (.iastore, 1) ∧ decode cX10_asksJob 54 = .ok (.aload_n 0, 1) ∧ decode cX10_asksJob 55 = .ok (.getfield 95, 3) ∧ decode cX10_asksJob 58 = .ok (.bipush 11, 2) ∧ decode cX10_asksJob 60 = .ok (.iload_n 3, 1) ∧ decode cX10_asksJob 61 = .ok (.iastore, 1) ∧ decode cX10_asksJob 62 = .ok (.aload_n 0, 1) ∧ decode cX10_asksJob 63 = .ok (.getfield 95, 3) ∧ decode cX10_asksJob 66 = .ok (.bipush 12, 2) ∧ decode cX10_asksJob 68 = .ok (.iload 4, 2) ∧ decode cX10_asksJob 70 = .ok (.iastore, 1) ∧ decode cX10_asksJob 71 = .ok (.aload_n 0, 1) ∧ decode cX10_asksJob 72 = .ok (.getfield 95, 3) ∧ decode cX10_asksJob 75 = .ok (.bipush 13, 2) ∧ decode cX10_asksJob 77 = .ok (.aload_n 0, 1) ∧ decode cX10_asksJob 78 = .ok (.getfield 32, 3) ∧ decode cX10_asksJob 81 = .ok (.iload_n 1, 1) ∧ decode cX10_asksJob 82 = .ok (.iaload, 1) ∧ decode cX10_asksJob 83 = .ok (.iastore, 1) ∧ decode cX10_asksJob 84 = .ok (.return_, 1) ∧ True := dqC_ok (c := cX10_asksJob) [(52, 1, some (.iload_n 2)), (53, 1, some (.iastore)), (54, 1, some (.aload_n 0)), (55, 3, some (.getfield 95)), (58, 2, some (.bipush 11)), (60, 1, some (.iload_n 3)), (61, 1, some (.iastore)), (62, 1, some (.aload_n 0)), (63, 3, some (.getfield 95)), (66, 2, some (.bipush 12)), (68, 2, some (.iload 4)), (70, 1, some (.iastore)), (71, 1, some (.aload_n 0)), (72, 3, some (.getfield 95)), (75, 2, some (.bipush 13)), (77, 1, some (.aload_n 0)), (78, 3, some (.getfield 32)), (81, 1, some (.iload_n 1)), (82, 1, some (.iaload)), (83, 1, some (.iastore)), (84, 1, some (.return_))] _ 52 rfl (by decide +kernel)
theorem dX10_asksJob_52 : decode cX10_asksJob 52 = .ok (.iload_n 2, 1) := dq_g385.1
theorem dX10_asksJob_53 : decode cX10_asksJob 53 = .ok (.iastore, 1) := dq_g385.2.1
theorem dX10_asksJob_54 : decode cX10_asksJob 54 = .ok (.aload_n 0, 1) := dq_g385.2.2.1
theorem dX10_asksJob_55 : decode cX10_asksJob 55 = .ok (.getfield 95, 3) := dq_g385.2.2.2.1
theorem dX10_asksJob_58 : decode cX10_asksJob 58 = .ok (.bipush 11, 2) := dq_g385.2.2.2.2.1
theorem dX10_asksJob_60 : decode cX10_asksJob 60 = .ok (.iload_n 3, 1) := dq_g385.2.2.2.2.2.1
theorem dX10_asksJob_61 : decode cX10_asksJob 61 = .ok (.iastore, 1) := dq_g385.2.2.2.2.2.2.1
theorem dX10_asksJob_62 : decode cX10_asksJob 62 = .ok (.aload_n 0, 1) := dq_g385.2.2.2.2.2.2.2.1
theorem dX10_asksJob_63 : decode cX10_asksJob 63 = .ok (.getfield 95, 3) := dq_g385.2.2.2.2.2.2.2.2.1
theorem dX10_asksJob_66 : decode cX10_asksJob 66 = .ok (.bipush 12, 2) := dq_g385.2.2.2.2.2.2.2.2.2.1
theorem dX10_asksJob_68 : decode cX10_asksJob 68 = .ok (.iload 4, 2) := dq_g385.2.2.2.2.2.2.2.2.2.2.1
theorem dX10_asksJob_70 : decode cX10_asksJob 70 = .ok (.iastore, 1) := dq_g385.2.2.2.2.2.2.2.2.2.2.2.1
theorem dX10_asksJob_71 : decode cX10_asksJob 71 = .ok (.aload_n 0, 1) := dq_g385.2.2.2.2.2.2.2.2.2.2.2.2.1
theorem dX10_asksJob_72 : decode cX10_asksJob 72 = .ok (.getfield 95, 3) := dq_g385.2.2.2.2.2.2.2.2.2.2.2.2.2.1
theorem dX10_asksJob_75 : decode cX10_asksJob 75 = .ok (.bipush 13, 2) := dq_g385.2.2.2.2.2.2.2.2.2.2.2.2.2.2.1
theorem dX10_asksJob_77 : decode cX10_asksJob 77 = .ok (.aload_n 0, 1) := dq_g385.2.2.2.2.2.2.2.2.2.2.2.2.2.2.2.1
theorem dX10_asksJob_78 : decode cX10_asksJob 78 = .ok (.getfield 32, 3) := dq_g385.2.2.2.2.2.2.2.2.2.2.2.2.2.2.2.2.1
theorem dX10_asksJob_81 : decode cX10_asksJob 81 = .ok (.iload_n 1, 1) := dq_g385.2.2.2.2.2.2.2.2.2.2.2.2.2.2.2.2.2.1
theorem dX10_asksJob_82 : decode cX10_asksJob 82 = .ok (.iaload, 1) := dq_g385.2.2.2.2.2.2.2.2.2.2.2.2.2.2.2.2.2.2.1
theorem dX10_asksJob_83 : decode cX10_asksJob 83 = .ok (.iastore, 1) := dq_g385.2.2.2.2.2.2.2.2.2.2.2.2.2.2.2.2.2.2.2.1
theorem dX10_asksJob_84 : decode cX10_asksJob 84 = .ok (.return_, 1) := dq_g385.2.2.2.2.2.2.2.2.2.2.2.2.2.2.2.2.2.2.2.2.1
theorem dq_g386 : decode cX10_doesLine 0 = .ok (.aload_n 0, 1) ∧ decode cX10_doesLine 1 = .ok (.getfield 65, 3) ∧ decode cX10_doesLine 4 = .ok (.iload_n 2, 1) ∧ decode cX10_doesLine 5 = .ok (.iaload, 1) ∧ decode cX10_doesLine 6 = .ok (.istore_n 3, 1) ∧ decode cX10_doesLine 7 = .ok (.aload_n 0, 1) ∧ decode cX10_doesLine 8 = .ok (.getfield 62, 3) ∧ decode cX10_doesLine 11 = .ok (.iload_n 2, 1) ∧ decode cX10_doesLine 12 = .ok (.iaload, 1) ∧ decode cX10_doesLine 13 = .ok (.iconst 4, 1) ∧ decode cX10_doesLine 14 = .ok (.if_icmp .ne 30, 3) ∧ decode cX10_doesLine 17 = .ok (.aload_n 0, 1) ∧ decode cX10_doesLine 18 = .ok (.iload_n 1, 1) ∧ decode cX10_doesLine 19 = .ok (.iload_n 3, 1) ∧ decode cX10_doesLine 20 = .ok (.aload_n 0, 1) ∧ decode cX10_doesLine 21 = .ok (.getfield 71, 3) ∧ decode cX10_doesLine 24 = .ok (.iload_n 2, 1) ∧ decode cX10_doesLine 25 = .ok (.iaload, 1) ∧ decode cX10_doesLine 26 = .ok (.invokevirtual 341, 3) ∧ decode cX10_doesLine 29 = .ok (.ifCond .eq 15, 3) ∧ decode cX10_doesLine 32 = .ok (.aload_n 0, 1) ∧ decode cX10_doesLine 33 = .ok (.iload_n 1, 1) ∧ decode cX10_doesLine 34 = .ok (.iload_n 3, 1) ∧ decode cX10_doesLine 35 = .ok (.aload_n 0, 1) ∧ decode cX10_doesLine 36 = .ok (.getfield 71, 3) ∧ decode cX10_doesLine 39 = .ok (.iload_n 2, 1) ∧ decode cX10_doesLine 40 = .ok (.iaload, 1) ∧ decode cX10_doesLine 41 = .ok (.invokevirtual 344, 3) ∧ decode cX10_doesLine 44 = .ok (.aload_n 0, 1) ∧ decode cX10_doesLine 45 = .ok (.getfield 62, 3) ∧ True := dqC_ok (c := cX10_doesLine) [(0, 1, some (.aload_n 0)), (1, 3, some (.getfield 65)), (4, 1, some (.iload_n 2)), (5, 1, some (.iaload)), (6, 1, some (.istore_n 3)), (7, 1, some (.aload_n 0)), (8, 3, some (.getfield 62)), (11, 1, some (.iload_n 2)), (12, 1, some (.iaload)), (13, 1, some (.iconst 4)), (14, 3, some (.if_icmp .ne 30)), (17, 1, some (.aload_n 0)), (18, 1, some (.iload_n 1)), (19, 1, some (.iload_n 3)), (20, 1, some (.aload_n 0)), (21, 3, some (.getfield 71)), (24, 1, some (.iload_n 2)), (25, 1, some (.iaload)), (26, 3, some (.invokevirtual 341)), (29, 3, some (.ifCond .eq 15)), (32, 1, some (.aload_n 0)), (33, 1, some (.iload_n 1)), (34, 1, some (.iload_n 3)), (35, 1, some (.aload_n 0)), (36, 3, some (.getfield 71)), (39, 1, some (.iload_n 2)), (40, 1, some (.iaload)), (41, 3, some (.invokevirtual 344)), (44, 1, some (.aload_n 0)), (45, 3, some (.getfield 62))] _ 0 rfl (by decide +kernel)
theorem dX10_doesLine_0 : decode cX10_doesLine 0 = .ok (.aload_n 0, 1) := dq_g386.1
theorem dX10_doesLine_1 : decode cX10_doesLine 1 = .ok (.getfield 65, 3) := dq_g386.2.1
theorem dX10_doesLine_4 : decode cX10_doesLine 4 = .ok (.iload_n 2, 1) := dq_g386.2.2.1
theorem dX10_doesLine_5 : decode cX10_doesLine 5 = .ok (.iaload, 1) := dq_g386.2.2.2.1
theorem dX10_doesLine_6 : decode cX10_doesLine 6 = .ok (.istore_n 3, 1) := dq_g386.2.2.2.2.1
theorem dX10_doesLine_7 : decode cX10_doesLine 7 = .ok (.aload_n 0, 1) := dq_g386.2.2.2.2.2.1
theorem dX10_doesLine_8 : decode cX10_doesLine 8 = .ok (.getfield 62, 3) := dq_g386.2.2.2.2.2.2.1
theorem dX10_doesLine_11 : decode cX10_doesLine 11 = .ok (.iload_n 2, 1) := dq_g386.2.2.2.2.2.2.2.1
theorem dX10_doesLine_12 : decode cX10_doesLine 12 = .ok (.iaload, 1) := dq_g386.2.2.2.2.2.2.2.2.1
theorem dX10_doesLine_13 : decode cX10_doesLine 13 = .ok (.iconst 4, 1) := dq_g386.2.2.2.2.2.2.2.2.2.1
theorem dX10_doesLine_14 : decode cX10_doesLine 14 = .ok (.if_icmp .ne 30, 3) := dq_g386.2.2.2.2.2.2.2.2.2.2.1
theorem dX10_doesLine_17 : decode cX10_doesLine 17 = .ok (.aload_n 0, 1) := dq_g386.2.2.2.2.2.2.2.2.2.2.2.1
theorem dX10_doesLine_18 : decode cX10_doesLine 18 = .ok (.iload_n 1, 1) := dq_g386.2.2.2.2.2.2.2.2.2.2.2.2.1
theorem dX10_doesLine_19 : decode cX10_doesLine 19 = .ok (.iload_n 3, 1) := dq_g386.2.2.2.2.2.2.2.2.2.2.2.2.2.1
theorem dX10_doesLine_20 : decode cX10_doesLine 20 = .ok (.aload_n 0, 1) := dq_g386.2.2.2.2.2.2.2.2.2.2.2.2.2.2.1
theorem dX10_doesLine_21 : decode cX10_doesLine 21 = .ok (.getfield 71, 3) := dq_g386.2.2.2.2.2.2.2.2.2.2.2.2.2.2.2.1
theorem dX10_doesLine_24 : decode cX10_doesLine 24 = .ok (.iload_n 2, 1) := dq_g386.2.2.2.2.2.2.2.2.2.2.2.2.2.2.2.2.1
theorem dX10_doesLine_25 : decode cX10_doesLine 25 = .ok (.iaload, 1) := dq_g386.2.2.2.2.2.2.2.2.2.2.2.2.2.2.2.2.2.1
theorem dX10_doesLine_26 : decode cX10_doesLine 26 = .ok (.invokevirtual 341, 3) := dq_g386.2.2.2.2.2.2.2.2.2.2.2.2.2.2.2.2.2.2.1
theorem dX10_doesLine_29 : decode cX10_doesLine 29 = .ok (.ifCond .eq 15, 3) := dq_g386.2.2.2.2.2.2.2.2.2.2.2.2.2.2.2.2.2.2.2.1
theorem dX10_doesLine_32 : decode cX10_doesLine 32 = .ok (.aload_n 0, 1) := dq_g386.2.2.2.2.2.2.2.2.2.2.2.2.2.2.2.2.2.2.2.2.1
theorem dX10_doesLine_33 : decode cX10_doesLine 33 = .ok (.iload_n 1, 1) := dq_g386.2.2.2.2.2.2.2.2.2.2.2.2.2.2.2.2.2.2.2.2.2.1
theorem dX10_doesLine_34 : decode cX10_doesLine 34 = .ok (.iload_n 3, 1) := dq_g386.2.2.2.2.2.2.2.2.2.2.2.2.2.2.2.2.2.2.2.2.2.2.1
theorem dX10_doesLine_35 : decode cX10_doesLine 35 = .ok (.aload_n 0, 1) := dq_g386.2.2.2.2.2.2.2.2.2.2.2.2.2.2.2.2.2.2.2.2.2.2.2.1
theorem dX10_doesLine_36 : decode cX10_doesLine 36 = .ok (.getfield 71, 3) := dq_g386.2.2.2.2.2.2.2.2.2.2.2.2.2.2.2.2.2.2.2.2.2.2.2.2.1
theorem dX10_doesLine_39 : decode cX10_doesLine 39 = .ok (.iload_n 2, 1) := dq_g386.2.2.2.2.2.2.2.2.2.2.2.2.2.2.2.2.2.2.2.2.2.2.2.2.2.1
theorem dX10_doesLine_40 : decode cX10_doesLine 40 = .ok (.iaload, 1) := dq_g386.2.2.2.2.2.2.2.2.2.2.2.2.2.2.2.2.2.2.2.2.2.2.2.2.2.2.1
theorem dX10_doesLine_41 : decode cX10_doesLine 41 = .ok (.invokevirtual 344, 3) := dq_g386.2.2.2.2.2.2.2.2.2.2.2.2.2.2.2.2.2.2.2.2.2.2.2.2.2.2.2.1
theorem dX10_doesLine_44 : decode cX10_doesLine 44 = .ok (.aload_n 0, 1) := dq_g386.2.2.2.2.2.2.2.2.2.2.2.2.2.2.2.2.2.2.2.2.2.2.2.2.2.2.2.2.1
theorem dX10_doesLine_45 : decode cX10_doesLine 45 = .ok (.getfield 62, 3) := dq_g386.2.2.2.2.2.2.2.2.2.2.2.2.2.2.2.2.2.2.2.2.2.2.2.2.2.2.2.2.2.1
theorem dq_g387 : decode cX10_doesLine 48 = .ok (.iload_n 2, 1) ∧ decode cX10_doesLine 49 = .ok (.iaload, 1) ∧ decode cX10_doesLine 50 = .ok (.bipush 17, 2) ∧ decode cX10_doesLine 52 = .ok (.if_icmp .ne 29, 3) ∧ decode cX10_doesLine 55 = .ok (.aload_n 0, 1) ∧ decode cX10_doesLine 56 = .ok (.iload_n 1, 1) ∧ decode cX10_doesLine 57 = .ok (.iload_n 3, 1) ∧ decode cX10_doesLine 58 = .ok (.invokevirtual 181, 3) ∧ decode cX10_doesLine 61 = .ok (.ifCond .eq 20, 3) ∧ decode cX10_doesLine 64 = .ok (.aload_n 0, 1) ∧ decode cX10_doesLine 65 = .ok (.getfield 26, 3) ∧ decode cX10_doesLine 68 = .ok (.bipush 16, 2) ∧ decode cX10_doesLine 70 = .ok (.iload_n 1, 1) ∧ decode cX10_doesLine 71 = .ok (.imul, 1) ∧ decode cX10_doesLine 72 = .ok (.iload_n 3, 1) ∧ decode cX10_doesLine 73 = .ok (.iadd, 1) ∧ decode cX10_doesLine 74 = .ok (.aload_n 0, 1) ∧ decode cX10_doesLine 75 = .ok (.getfield 71, 3) ∧ decode cX10_doesLine 78 = .ok (.iload_n 2, 1) ∧ decode cX10_doesLine 79 = .ok (.iaload, 1) ∧ decode cX10_doesLine 80 = .ok (.iastore, 1) ∧ decode cX10_doesLine 81 = .ok (.aload_n 0, 1) ∧ decode cX10_doesLine 82 = .ok (.getfield 62, 3) ∧ decode cX10_doesLine 85 = .ok (.iload_n 2, 1) ∧ decode cX10_doesLine 86 = .ok (.iaload, 1) ∧ decode cX10_doesLine 87 = .ok (.iconst 5, 1) ∧ decode cX10_doesLine 88 = .ok (.if_icmp .eq 4, 3) ∧ decode cX10_doesLine 91 = .ok (.return_, 1) ∧ decode cX10_doesLine 92 = .ok (.iload_n 3, 1) ∧ decode cX10_doesLine 93 = .ok (.aload_n 0, 1) ∧ True := dqC_ok (c := cX10_doesLine) [(48, 1, some (.iload_n 2)), (49, 1, some (.iaload)), (50, 2, some (.bipush 17)), (52, 3, some (.if_icmp .ne 29)), (55, 1, some (.aload_n 0)), (56, 1, some (.iload_n 1)), (57, 1, some (.iload_n 3)), (58, 3, some (.invokevirtual 181)), (61, 3, some (.ifCond .eq 20)), (64, 1, some (.aload_n 0)), (65, 3, some (.getfield 26)), (68, 2, some (.bipush 16)), (70, 1, some (.iload_n 1)), (71, 1, some (.imul)), (72, 1, some (.iload_n 3)), (73, 1, some (.iadd)), (74, 1, some (.aload_n 0)), (75, 3, some (.getfield 71)), (78, 1, some (.iload_n 2)), (79, 1, some (.iaload)), (80, 1, some (.iastore)), (81, 1, some (.aload_n 0)), (82, 3, some (.getfield 62)), (85, 1, some (.iload_n 2)), (86, 1, some (.iaload)), (87, 1, some (.iconst 5)), (88, 3, some (.if_icmp .eq 4)), (91, 1, some (.return_)), (92, 1, some (.iload_n 3)), (93, 1, some (.aload_n 0))] _ 48 rfl (by decide +kernel)
theorem dX10_doesLine_48 : decode cX10_doesLine 48 = .ok (.iload_n 2, 1) := dq_g387.1
theorem dX10_doesLine_49 : decode cX10_doesLine 49 = .ok (.iaload, 1) := dq_g387.2.1
theorem dX10_doesLine_50 : decode cX10_doesLine 50 = .ok (.bipush 17, 2) := dq_g387.2.2.1
theorem dX10_doesLine_52 : decode cX10_doesLine 52 = .ok (.if_icmp .ne 29, 3) := dq_g387.2.2.2.1
theorem dX10_doesLine_55 : decode cX10_doesLine 55 = .ok (.aload_n 0, 1) := dq_g387.2.2.2.2.1
theorem dX10_doesLine_56 : decode cX10_doesLine 56 = .ok (.iload_n 1, 1) := dq_g387.2.2.2.2.2.1
theorem dX10_doesLine_57 : decode cX10_doesLine 57 = .ok (.iload_n 3, 1) := dq_g387.2.2.2.2.2.2.1
theorem dX10_doesLine_58 : decode cX10_doesLine 58 = .ok (.invokevirtual 181, 3) := dq_g387.2.2.2.2.2.2.2.1
theorem dX10_doesLine_61 : decode cX10_doesLine 61 = .ok (.ifCond .eq 20, 3) := dq_g387.2.2.2.2.2.2.2.2.1
theorem dX10_doesLine_64 : decode cX10_doesLine 64 = .ok (.aload_n 0, 1) := dq_g387.2.2.2.2.2.2.2.2.2.1
theorem dX10_doesLine_65 : decode cX10_doesLine 65 = .ok (.getfield 26, 3) := dq_g387.2.2.2.2.2.2.2.2.2.2.1
theorem dX10_doesLine_68 : decode cX10_doesLine 68 = .ok (.bipush 16, 2) := dq_g387.2.2.2.2.2.2.2.2.2.2.2.1
theorem dX10_doesLine_70 : decode cX10_doesLine 70 = .ok (.iload_n 1, 1) := dq_g387.2.2.2.2.2.2.2.2.2.2.2.2.1
theorem dX10_doesLine_71 : decode cX10_doesLine 71 = .ok (.imul, 1) := dq_g387.2.2.2.2.2.2.2.2.2.2.2.2.2.1
theorem dX10_doesLine_72 : decode cX10_doesLine 72 = .ok (.iload_n 3, 1) := dq_g387.2.2.2.2.2.2.2.2.2.2.2.2.2.2.1
theorem dX10_doesLine_73 : decode cX10_doesLine 73 = .ok (.iadd, 1) := dq_g387.2.2.2.2.2.2.2.2.2.2.2.2.2.2.2.1
theorem dX10_doesLine_74 : decode cX10_doesLine 74 = .ok (.aload_n 0, 1) := dq_g387.2.2.2.2.2.2.2.2.2.2.2.2.2.2.2.2.1
theorem dX10_doesLine_75 : decode cX10_doesLine 75 = .ok (.getfield 71, 3) := dq_g387.2.2.2.2.2.2.2.2.2.2.2.2.2.2.2.2.2.1
theorem dX10_doesLine_78 : decode cX10_doesLine 78 = .ok (.iload_n 2, 1) := dq_g387.2.2.2.2.2.2.2.2.2.2.2.2.2.2.2.2.2.2.1
theorem dX10_doesLine_79 : decode cX10_doesLine 79 = .ok (.iaload, 1) := dq_g387.2.2.2.2.2.2.2.2.2.2.2.2.2.2.2.2.2.2.2.1
theorem dX10_doesLine_80 : decode cX10_doesLine 80 = .ok (.iastore, 1) := dq_g387.2.2.2.2.2.2.2.2.2.2.2.2.2.2.2.2.2.2.2.2.1
theorem dX10_doesLine_81 : decode cX10_doesLine 81 = .ok (.aload_n 0, 1) := dq_g387.2.2.2.2.2.2.2.2.2.2.2.2.2.2.2.2.2.2.2.2.2.1
theorem dX10_doesLine_82 : decode cX10_doesLine 82 = .ok (.getfield 62, 3) := dq_g387.2.2.2.2.2.2.2.2.2.2.2.2.2.2.2.2.2.2.2.2.2.2.1
theorem dX10_doesLine_85 : decode cX10_doesLine 85 = .ok (.iload_n 2, 1) := dq_g387.2.2.2.2.2.2.2.2.2.2.2.2.2.2.2.2.2.2.2.2.2.2.2.1
theorem dX10_doesLine_86 : decode cX10_doesLine 86 = .ok (.iaload, 1) := dq_g387.2.2.2.2.2.2.2.2.2.2.2.2.2.2.2.2.2.2.2.2.2.2.2.2.1
theorem dX10_doesLine_87 : decode cX10_doesLine 87 = .ok (.iconst 5, 1) := dq_g387.2.2.2.2.2.2.2.2.2.2.2.2.2.2.2.2.2.2.2.2.2.2.2.2.2.1
theorem dX10_doesLine_88 : decode cX10_doesLine 88 = .ok (.if_icmp .eq 4, 3) := dq_g387.2.2.2.2.2.2.2.2.2.2.2.2.2.2.2.2.2.2.2.2.2.2.2.2.2.2.1
theorem dX10_doesLine_91 : decode cX10_doesLine 91 = .ok (.return_, 1) := dq_g387.2.2.2.2.2.2.2.2.2.2.2.2.2.2.2.2.2.2.2.2.2.2.2.2.2.2.2.1
theorem dX10_doesLine_92 : decode cX10_doesLine 92 = .ok (.iload_n 3, 1) := dq_g387.2.2.2.2.2.2.2.2.2.2.2.2.2.2.2.2.2.2.2.2.2.2.2.2.2.2.2.2.1
theorem dX10_doesLine_93 : decode cX10_doesLine 93 = .ok (.aload_n 0, 1) := dq_g387.2.2.2.2.2.2.2.2.2.2.2.2.2.2.2.2.2.2.2.2.2.2.2.2.2.2.2.2.2.1
theorem dq_g388 : decode cX10_doesLine 94 = .ok (.getfield 68, 3) ∧ decode cX10_doesLine 97 = .ok (.iload_n 2, 1) ∧ decode cX10_doesLine 98 = .ok (.iaload, 1) ∧ decode cX10_doesLine 99 = .ok (.iadd, 1) ∧ decode cX10_doesLine 100 = .ok (.iconst 2, 1) ∧ decode cX10_doesLine 101 = .ok (.idiv, 1) ∧ decode cX10_doesLine 102 = .ok (.istore 4, 2) ∧ decode cX10_doesLine 104 = .ok (.iload_n 3, 1) ∧ decode cX10_doesLine 105 = .ok (.istore 5, 2) ∧ decode cX10_doesLine 107 = .ok (.iload 5, 2) ∧ decode cX10_doesLine 109 = .ok (.aload_n 0, 1) ∧ decode cX10_doesLine 110 = .ok (.getfield 68, 3) ∧ decode cX10_doesLine 113 = .ok (.iload_n 2, 1) ∧ decode cX10_doesLine 114 = .ok (.iaload, 1) ∧ decode cX10_doesLine 115 = .ok (.if_icmp .gt 53, 3) ∧ decode cX10_doesLine 118 = .ok (.aload_n 0, 1) ∧ decode cX10_doesLine 119 = .ok (.getfield 71, 3) ∧ decode cX10_doesLine 122 = .ok (.iload_n 2, 1) ∧ decode cX10_doesLine 123 = .ok (.iaload, 1) ∧ decode cX10_doesLine 124 = .ok (.aload_n 0, 1) ∧ decode cX10_doesLine 125 = .ok (.iload 5, 2) ∧ decode cX10_doesLine 127 = .ok (.iload 4, 2) ∧ decode cX10_doesLine 129 = .ok (.isub, 1) ∧ decode cX10_doesLine 130 = .ok (.invokevirtual 309, 3) ∧ decode cX10_doesLine 133 = .ok (.isub, 1) ∧ decode cX10_doesLine 134 = .ok (.istore 6, 2) ∧ decode cX10_doesLine 136 = .ok (.iload 6, 2) ∧ decode cX10_doesLine 138 = .ok (.ifCond .le 24, 3) ∧ decode cX10_doesLine 141 = .ok (.aload_n 0, 1) ∧ decode cX10_doesLine 142 = .ok (.iload_n 1, 1) ∧ True := dqC_ok (c := cX10_doesLine) [(94, 3, some (.getfield 68)), (97, 1, some (.iload_n 2)), (98, 1, some (.iaload)), (99, 1, some (.iadd)), (100, 1, some (.iconst 2)), (101, 1, some (.idiv)), (102, 2, some (.istore 4)), (104, 1, some (.iload_n 3)), (105, 2, some (.istore 5)), (107, 2, some (.iload 5)), (109, 1, some (.aload_n 0)), (110, 3, some (.getfield 68)), (113, 1, some (.iload_n 2)), (114, 1, some (.iaload)), (115, 3, some (.if_icmp .gt 53)), (118, 1, some (.aload_n 0)), (119, 3, some (.getfield 71)), (122, 1, some (.iload_n 2)), (123, 1, some (.iaload)), (124, 1, some (.aload_n 0)), (125, 2, some (.iload 5)), (127, 2, some (.iload 4)), (129, 1, some (.isub)), (130, 3, some (.invokevirtual 309)), (133, 1, some (.isub)), (134, 2, some (.istore 6)), (136, 2, some (.iload 6)), (138, 3, some (.ifCond .le 24)), (141, 1, some (.aload_n 0)), (142, 1, some (.iload_n 1))] _ 94 rfl (by decide +kernel)
theorem dX10_doesLine_94 : decode cX10_doesLine 94 = .ok (.getfield 68, 3) := dq_g388.1
theorem dX10_doesLine_97 : decode cX10_doesLine 97 = .ok (.iload_n 2, 1) := dq_g388.2.1
theorem dX10_doesLine_98 : decode cX10_doesLine 98 = .ok (.iaload, 1) := dq_g388.2.2.1
theorem dX10_doesLine_99 : decode cX10_doesLine 99 = .ok (.iadd, 1) := dq_g388.2.2.2.1
theorem dX10_doesLine_100 : decode cX10_doesLine 100 = .ok (.iconst 2, 1) := dq_g388.2.2.2.2.1
theorem dX10_doesLine_101 : decode cX10_doesLine 101 = .ok (.idiv, 1) := dq_g388.2.2.2.2.2.1
theorem dX10_doesLine_102 : decode cX10_doesLine 102 = .ok (.istore 4, 2) := dq_g388.2.2.2.2.2.2.1
theorem dX10_doesLine_104 : decode cX10_doesLine 104 = .ok (.iload_n 3, 1) := dq_g388.2.2.2.2.2.2.2.1
theorem dX10_doesLine_105 : decode cX10_doesLine 105 = .ok (.istore 5, 2) := dq_g388.2.2.2.2.2.2.2.2.1
theorem dX10_doesLine_107 : decode cX10_doesLine 107 = .ok (.iload 5, 2) := dq_g388.2.2.2.2.2.2.2.2.2.1
theorem dX10_doesLine_109 : decode cX10_doesLine 109 = .ok (.aload_n 0, 1) := dq_g388.2.2.2.2.2.2.2.2.2.2.1
theorem dX10_doesLine_110 : decode cX10_doesLine 110 = .ok (.getfield 68, 3) := dq_g388.2.2.2.2.2.2.2.2.2.2.2.1
theorem dX10_doesLine_113 : decode cX10_doesLine 113 = .ok (.iload_n 2, 1) := dq_g388.2.2.2.2.2.2.2.2.2.2.2.2.1
theorem dX10_doesLine_114 : decode cX10_doesLine 114 = .ok (.iaload, 1) := dq_g388.2.2.2.2.2.2.2.2.2.2.2.2.2.1
theorem dX10_doesLine_115 : decode cX10_doesLine 115 = .ok (.if_icmp .gt 53, 3) := dq_g388.2.2.2.2.2.2.2.2.2.2.2.2.2.2.1
theorem dX10_doesLine_118 : decode cX10_doesLine 118 = .ok (.aload_n 0, 1) := dq_g388.2.2.2.2.2.2.2.2.2.2.2.2.2.2.2.1
theorem dX10_doesLine_119 : decode cX10_doesLine 119 = .ok (.getfield 71, 3) := dq_g388.2.2.2.2.2.2.2.2.2.2.2.2.2.2.2.2.1
theorem dX10_doesLine_122 : decode cX10_doesLine 122 = .ok (.iload_n 2, 1) := dq_g388.2.2.2.2.2.2.2.2.2.2.2.2.2.2.2.2.2.1
theorem dX10_doesLine_123 : decode cX10_doesLine 123 = .ok (.iaload, 1) := dq_g388.2.2.2.2.2.2.2.2.2.2.2.2.2.2.2.2.2.2.1
theorem dX10_doesLine_124 : decode cX10_doesLine 124 = .ok (.aload_n 0, 1) := dq_g388.2.2.2.2.2.2.2.2.2.2.2.2.2.2.2.2.2.2.2.1
theorem dX10_doesLine_125 : decode cX10_doesLine 125 = .ok (.iload 5, 2) := dq_g388.2.2.2.2.2.2.2.2.2.2.2.2.2.2.2.2.2.2.2.2.1
theorem dX10_doesLine_127 : decode cX10_doesLine 127 = .ok (.iload 4, 2) := dq_g388.2.2.2.2.2.2.2.2.2.2.2.2.2.2.2.2.2.2.2.2.2.1
theorem dX10_doesLine_129 : decode cX10_doesLine 129 = .ok (.isub, 1) := dq_g388.2.2.2.2.2.2.2.2.2.2.2.2.2.2.2.2.2.2.2.2.2.2.1
theorem dX10_doesLine_130 : decode cX10_doesLine 130 = .ok (.invokevirtual 309, 3) := dq_g388.2.2.2.2.2.2.2.2.2.2.2.2.2.2.2.2.2.2.2.2.2.2.2.1
theorem dX10_doesLine_133 : decode cX10_doesLine 133 = .ok (.isub, 1) := dq_g388.2.2.2.2.2.2.2.2.2.2.2.2.2.2.2.2.2.2.2.2.2.2.2.2.1
theorem dX10_doesLine_134 : decode cX10_doesLine 134 = .ok (.istore 6, 2) := dq_g388.2.2.2.2.2.2.2.2.2.2.2.2.2.2.2.2.2.2.2.2.2.2.2.2.2.1
theorem dX10_doesLine_136 : decode cX10_doesLine 136 = .ok (.iload 6, 2) := dq_g388.2.2.2.2.2.2.2.2.2.2.2.2.2.2.2.2.2.2.2.2.2.2.2.2.2.2.1
theorem dX10_doesLine_138 : decode cX10_doesLine 138 = .ok (.ifCond .le 24, 3) := dq_g388.2.2.2.2.2.2.2.2.2.2.2.2.2.2.2.2.2.2.2.2.2.2.2.2.2.2.2.1
theorem dX10_doesLine_141 : decode cX10_doesLine 141 = .ok (.aload_n 0, 1) := dq_g388.2.2.2.2.2.2.2.2.2.2.2.2.2.2.2.2.2.2.2.2.2.2.2.2.2.2.2.2.1
theorem dX10_doesLine_142 : decode cX10_doesLine 142 = .ok (.iload_n 1, 1) := dq_g388.2.2.2.2.2.2.2.2.2.2.2.2.2.2.2.2.2.2.2.2.2.2.2.2.2.2.2.2.2.1
theorem dq_g389 : decode cX10_doesLine 143 = .ok (.iload 5, 2) ∧ decode cX10_doesLine 145 = .ok (.iload 6, 2) ∧ decode cX10_doesLine 147 = .ok (.invokevirtual 341, 3) ∧ decode cX10_doesLine 150 = .ok (.ifCond .eq 12, 3) ∧ decode cX10_doesLine 153 = .ok (.aload_n 0, 1) ∧ decode cX10_doesLine 154 = .ok (.iload_n 1, 1) ∧ decode cX10_doesLine 155 = .ok (.iload 5, 2) ∧ decode cX10_doesLine 157 = .ok (.iload 6, 2) ∧ decode cX10_doesLine 159 = .ok (.invokevirtual 344, 3) ∧ decode cX10_doesLine 162 = .ok (.iinc 5 1, 3) ∧ decode cX10_doesLine 165 = .ok (.goto (-58), 3) ∧ decode cX10_doesLine 168 = .ok (.return_, 1) ∧ True := dqC_ok (c := cX10_doesLine) [(143, 2, some (.iload 5)), (145, 2, some (.iload 6)), (147, 3, some (.invokevirtual 341)), (150, 3, some (.ifCond .eq 12)), (153, 1, some (.aload_n 0)), (154, 1, some (.iload_n 1)), (155, 2, some (.iload 5)), (157, 2, some (.iload 6)), (159, 3, some (.invokevirtual 344)), (162, 3, some (.iinc 5 1)), (165, 3, some (.goto (-58))), (168, 1, some (.return_))] _ 143 rfl (by decide +kernel)
theorem dX10_doesLine_143 : decode cX10_doesLine 143 = .ok (.iload 5, 2) := dq_g389.1
theorem dX10_doesLine_145 : decode cX10_doesLine 145 = .ok (.iload 6, 2) := dq_g389.2.1
theorem dX10_doesLine_147 : decode cX10_doesLine 147 = .ok (.invokevirtual 341, 3) := dq_g389.2.2.1
theorem dX10_doesLine_150 : decode cX10_doesLine 150 = .ok (.ifCond .eq 12, 3) := dq_g389.2.2.2.1
theorem dX10_doesLine_153 : decode cX10_doesLine 153 = .ok (.aload_n 0, 1) := dq_g389.2.2.2.2.1
theorem dX10_doesLine_154 : decode cX10_doesLine 154 = .ok (.iload_n 1, 1) := dq_g389.2.2.2.2.2.1
theorem dX10_doesLine_155 : decode cX10_doesLine 155 = .ok (.iload 5, 2) := dq_g389.2.2.2.2.2.2.1
theorem dX10_doesLine_157 : decode cX10_doesLine 157 = .ok (.iload 6, 2) := dq_g389.2.2.2.2.2.2.2.1
theorem dX10_doesLine_159 : decode cX10_doesLine 159 = .ok (.invokevirtual 344, 3) := dq_g389.2.2.2.2.2.2.2.2.1
theorem dX10_doesLine_162 : decode cX10_doesLine 162 = .ok (.iinc 5 1, 3) := dq_g389.2.2.2.2.2.2.2.2.2.1
theorem dX10_doesLine_165 : decode cX10_doesLine 165 = .ok (.goto (-58), 3) := dq_g389.2.2.2.2.2.2.2.2.2.2.1
theorem dX10_doesLine_168 : decode cX10_doesLine 168 = .ok (.return_, 1) := dq_g389.2.2.2.2.2.2.2.2.2.2.2.1
theorem dq_g390 : decode cX10_job 0 = .ok (.aload_n 0, 1) ∧ decode cX10_job 1 = .ok (.iconst 0, 1) ∧ decode cX10_job 2 = .ok (.putfield 167, 3) ∧ decode cX10_job 5 = .ok (.aload_n 0, 1) ∧ decode cX10_job 6 = .ok (.iload_n 1, 1) ∧ decode cX10_job 7 = .ok (.iconst 0, 1) ∧ decode cX10_job 8 = .ok (.iconst 3, 1) ∧ decode cX10_job 9 = .ok (.invokevirtual 177, 3) ∧ decode cX10_job 12 = .ok (.ifCond .eq 11, 3) ∧ decode cX10_job 15 = .ok (.aload_n 0, 1) ∧ decode cX10_job 16 = .ok (.iload_n 2, 1) ∧ decode cX10_job 17 = .ok (.invokevirtual 173, 3) ∧ decode cX10_job 20 = .ok (.ifCond .ne 5, 3) ∧ decode cX10_job 23 = .ok (.iconst (-1), 1) ∧ decode cX10_job 24 = .ok (.ireturn, 1) ∧ decode cX10_job 25 = .ok (.iconst 2, 1) ∧ decode cX10_job 26 = .ok (.iload_n 1, 1) ∧ decode cX10_job 27 = .ok (.iadd, 1) ∧ decode cX10_job 28 = .ok (.istore_n 3, 1) ∧ decode cX10_job 29 = .ok (.aload_n 0, 1) ∧ decode cX10_job 30 = .ok (.getfield 32, 3) ∧ decode cX10_job 33 = .ok (.iload_n 2, 1) ∧ decode cX10_job 34 = .ok (.iaload, 1) ∧ decode cX10_job 35 = .ok (.istore 4, 2) ∧ decode cX10_job 37 = .ok (.bipush 16, 2) ∧ decode cX10_job 39 = .ok (.iload_n 3, 1) ∧ decode cX10_job 40 = .ok (.imul, 1) ∧ decode cX10_job 41 = .ok (.istore 5, 2) ∧ decode cX10_job 43 = .ok (.iload 5, 2) ∧ decode cX10_job 45 = .ok (.bipush 16, 2) ∧ True := dqC_ok (c := cX10_job) [(0, 1, some (.aload_n 0)), (1, 1, some (.iconst 0)), (2, 3, some (.putfield 167)), (5, 1, some (.aload_n 0)), (6, 1, some (.iload_n 1)), (7, 1, some (.iconst 0)), (8, 1, some (.iconst 3)), (9, 3, some (.invokevirtual 177)), (12, 3, some (.ifCond .eq 11)), (15, 1, some (.aload_n 0)), (16, 1, some (.iload_n 2)), (17, 3, some (.invokevirtual 173)), (20, 3, some (.ifCond .ne 5)), (23, 1, some (.iconst (-1))), (24, 1, some (.ireturn)), (25, 1, some (.iconst 2)), (26, 1, some (.iload_n 1)), (27, 1, some (.iadd)), (28, 1, some (.istore_n 3)), (29, 1, some (.aload_n 0)), (30, 3, some (.getfield 32)), (33, 1, some (.iload_n 2)), (34, 1, some (.iaload)), (35, 2, some (.istore 4)), (37, 2, some (.bipush 16)), (39, 1, some (.iload_n 3)), (40, 1, some (.imul)), (41, 2, some (.istore 5)), (43, 2, some (.iload 5)), (45, 2, some (.bipush 16))] _ 0 rfl (by decide +kernel)
theorem dX10_job_0 : decode cX10_job 0 = .ok (.aload_n 0, 1) := dq_g390.1
theorem dX10_job_1 : decode cX10_job 1 = .ok (.iconst 0, 1) := dq_g390.2.1
theorem dX10_job_2 : decode cX10_job 2 = .ok (.putfield 167, 3) := dq_g390.2.2.1
theorem dX10_job_5 : decode cX10_job 5 = .ok (.aload_n 0, 1) := dq_g390.2.2.2.1
theorem dX10_job_6 : decode cX10_job 6 = .ok (.iload_n 1, 1) := dq_g390.2.2.2.2.1
theorem dX10_job_7 : decode cX10_job 7 = .ok (.iconst 0, 1) := dq_g390.2.2.2.2.2.1
theorem dX10_job_8 : decode cX10_job 8 = .ok (.iconst 3, 1) := dq_g390.2.2.2.2.2.2.1
theorem dX10_job_9 : decode cX10_job 9 = .ok (.invokevirtual 177, 3) := dq_g390.2.2.2.2.2.2.2.1
theorem dX10_job_12 : decode cX10_job 12 = .ok (.ifCond .eq 11, 3) := dq_g390.2.2.2.2.2.2.2.2.1
theorem dX10_job_15 : decode cX10_job 15 = .ok (.aload_n 0, 1) := dq_g390.2.2.2.2.2.2.2.2.2.1
theorem dX10_job_16 : decode cX10_job 16 = .ok (.iload_n 2, 1) := dq_g390.2.2.2.2.2.2.2.2.2.2.1
theorem dX10_job_17 : decode cX10_job 17 = .ok (.invokevirtual 173, 3) := dq_g390.2.2.2.2.2.2.2.2.2.2.2.1
theorem dX10_job_20 : decode cX10_job 20 = .ok (.ifCond .ne 5, 3) := dq_g390.2.2.2.2.2.2.2.2.2.2.2.2.1
theorem dX10_job_23 : decode cX10_job 23 = .ok (.iconst (-1), 1) := dq_g390.2.2.2.2.2.2.2.2.2.2.2.2.2.1
theorem dX10_job_24 : decode cX10_job 24 = .ok (.ireturn, 1) := dq_g390.2.2.2.2.2.2.2.2.2.2.2.2.2.2.1
theorem dX10_job_25 : decode cX10_job 25 = .ok (.iconst 2, 1) := dq_g390.2.2.2.2.2.2.2.2.2.2.2.2.2.2.2.1
theorem dX10_job_26 : decode cX10_job 26 = .ok (.iload_n 1, 1) := dq_g390.2.2.2.2.2.2.2.2.2.2.2.2.2.2.2.2.1
theorem dX10_job_27 : decode cX10_job 27 = .ok (.iadd, 1) := dq_g390.2.2.2.2.2.2.2.2.2.2.2.2.2.2.2.2.2.1
theorem dX10_job_28 : decode cX10_job 28 = .ok (.istore_n 3, 1) := dq_g390.2.2.2.2.2.2.2.2.2.2.2.2.2.2.2.2.2.2.1
theorem dX10_job_29 : decode cX10_job 29 = .ok (.aload_n 0, 1) := dq_g390.2.2.2.2.2.2.2.2.2.2.2.2.2.2.2.2.2.2.2.1
theorem dX10_job_30 : decode cX10_job 30 = .ok (.getfield 32, 3) := dq_g390.2.2.2.2.2.2.2.2.2.2.2.2.2.2.2.2.2.2.2.2.1
theorem dX10_job_33 : decode cX10_job 33 = .ok (.iload_n 2, 1) := dq_g390.2.2.2.2.2.2.2.2.2.2.2.2.2.2.2.2.2.2.2.2.2.1
theorem dX10_job_34 : decode cX10_job 34 = .ok (.iaload, 1) := dq_g390.2.2.2.2.2.2.2.2.2.2.2.2.2.2.2.2.2.2.2.2.2.2.1
theorem dX10_job_35 : decode cX10_job 35 = .ok (.istore 4, 2) := dq_g390.2.2.2.2.2.2.2.2.2.2.2.2.2.2.2.2.2.2.2.2.2.2.2.1
theorem dX10_job_37 : decode cX10_job 37 = .ok (.bipush 16, 2) := dq_g390.2.2.2.2.2.2.2.2.2.2.2.2.2.2.2.2.2.2.2.2.2.2.2.2.1
theorem dX10_job_39 : decode cX10_job 39 = .ok (.iload_n 3, 1) := dq_g390.2.2.2.2.2.2.2.2.2.2.2.2.2.2.2.2.2.2.2.2.2.2.2.2.2.1
theorem dX10_job_40 : decode cX10_job 40 = .ok (.imul, 1) := dq_g390.2.2.2.2.2.2.2.2.2.2.2.2.2.2.2.2.2.2.2.2.2.2.2.2.2.2.1
theorem dX10_job_41 : decode cX10_job 41 = .ok (.istore 5, 2) := dq_g390.2.2.2.2.2.2.2.2.2.2.2.2.2.2.2.2.2.2.2.2.2.2.2.2.2.2.2.1
theorem dX10_job_43 : decode cX10_job 43 = .ok (.iload 5, 2) := dq_g390.2.2.2.2.2.2.2.2.2.2.2.2.2.2.2.2.2.2.2.2.2.2.2.2.2.2.2.2.1
theorem dX10_job_45 : decode cX10_job 45 = .ok (.bipush 16, 2) := dq_g390.2.2.2.2.2.2.2.2.2.2.2.2.2.2.2.2.2.2.2.2.2.2.2.2.2.2.2.2.2.1
theorem dq_g391 : decode cX10_job 47 = .ok (.iload_n 3, 1) ∧ decode cX10_job 48 = .ok (.imul, 1) ∧ decode cX10_job 49 = .ok (.aload_n 0, 1) ∧ decode cX10_job 50 = .ok (.getfield 59, 3) ∧ decode cX10_job 53 = .ok (.iload_n 3, 1) ∧ decode cX10_job 54 = .ok (.iaload, 1) ∧ decode cX10_job 55 = .ok (.iadd, 1) ∧ decode cX10_job 56 = .ok (.if_icmp .ge 31, 3) ∧ decode cX10_job 59 = .ok (.aload_n 0, 1) ∧ decode cX10_job 60 = .ok (.iload_n 2, 1) ∧ decode cX10_job 61 = .ok (.invokevirtual 350, 3) ∧ decode cX10_job 64 = .ok (.aload_n 0, 1) ∧ decode cX10_job 65 = .ok (.iload_n 3, 1) ∧ decode cX10_job 66 = .ok (.iload 5, 2) ∧ decode cX10_job 68 = .ok (.invokevirtual 305, 3) ∧ decode cX10_job 71 = .ok (.ifCond .eq 10, 3) ∧ decode cX10_job 74 = .ok (.aload_n 0, 1) ∧ decode cX10_job 75 = .ok (.iload_n 2, 1) ∧ decode cX10_job 76 = .ok (.iload 5, 2) ∧ decode cX10_job 78 = .ok (.invokevirtual 353, 3) ∧ decode cX10_job 81 = .ok (.iinc 5 1, 3) ∧ decode cX10_job 84 = .ok (.goto (-41), 3) ∧ decode cX10_job 87 = .ok (.aload_n 0, 1) ∧ decode cX10_job 88 = .ok (.getfield 32, 3) ∧ decode cX10_job 91 = .ok (.iload_n 2, 1) ∧ decode cX10_job 92 = .ok (.iaload, 1) ∧ decode cX10_job 93 = .ok (.iload 4, 2) ∧ decode cX10_job 95 = .ok (.isub, 1) ∧ decode cX10_job 96 = .ok (.ireturn, 1) ∧ True := dqC_ok (c := cX10_job) [(47, 1, some (.iload_n 3)), (48, 1, some (.imul)), (49, 1, some (.aload_n 0)), (50, 3, some (.getfield 59)), (53, 1, some (.iload_n 3)), (54, 1, some (.iaload)), (55, 1, some (.iadd)), (56, 3, some (.if_icmp .ge 31)), (59, 1, some (.aload_n 0)), (60, 1, some (.iload_n 2)), (61, 3, some (.invokevirtual 350)), (64, 1, some (.aload_n 0)), (65, 1, some (.iload_n 3)), (66, 2, some (.iload 5)), (68, 3, some (.invokevirtual 305)), (71, 3, some (.ifCond .eq 10)), (74, 1, some (.aload_n 0)), (75, 1, some (.iload_n 2)), (76, 2, some (.iload 5)), (78, 3, some (.invokevirtual 353)), (81, 3, some (.iinc 5 1)), (84, 3, some (.goto (-41))), (87, 1, some (.aload_n 0)), (88, 3, some (.getfield 32)), (91, 1, some (.iload_n 2)), (92, 1, some (.iaload)), (93, 2, some (.iload 4)), (95, 1, some (.isub)), (96, 1, some (.ireturn))] _ 47 rfl (by decide +kernel)
theorem dX10_job_47 : decode cX10_job 47 = .ok (.iload_n 3, 1) := dq_g391.1
theorem dX10_job_48 : decode cX10_job 48 = .ok (.imul, 1) := dq_g391.2.1
theorem dX10_job_49 : decode cX10_job 49 = .ok (.aload_n 0, 1) := dq_g391.2.2.1
theorem dX10_job_50 : decode cX10_job 50 = .ok (.getfield 59, 3) := dq_g391.2.2.2.1
theorem dX10_job_53 : decode cX10_job 53 = .ok (.iload_n 3, 1) := dq_g391.2.2.2.2.1
theorem dX10_job_54 : decode cX10_job 54 = .ok (.iaload, 1) := dq_g391.2.2.2.2.2.1
theorem dX10_job_55 : decode cX10_job 55 = .ok (.iadd, 1) := dq_g391.2.2.2.2.2.2.1
theorem dX10_job_56 : decode cX10_job 56 = .ok (.if_icmp .ge 31, 3) := dq_g391.2.2.2.2.2.2.2.1
theorem dX10_job_59 : decode cX10_job 59 = .ok (.aload_n 0, 1) := dq_g391.2.2.2.2.2.2.2.2.1
theorem dX10_job_60 : decode cX10_job 60 = .ok (.iload_n 2, 1) := dq_g391.2.2.2.2.2.2.2.2.2.1
theorem dX10_job_61 : decode cX10_job 61 = .ok (.invokevirtual 350, 3) := dq_g391.2.2.2.2.2.2.2.2.2.2.1
theorem dX10_job_64 : decode cX10_job 64 = .ok (.aload_n 0, 1) := dq_g391.2.2.2.2.2.2.2.2.2.2.2.1
theorem dX10_job_65 : decode cX10_job 65 = .ok (.iload_n 3, 1) := dq_g391.2.2.2.2.2.2.2.2.2.2.2.2.1
theorem dX10_job_66 : decode cX10_job 66 = .ok (.iload 5, 2) := dq_g391.2.2.2.2.2.2.2.2.2.2.2.2.2.1
theorem dX10_job_68 : decode cX10_job 68 = .ok (.invokevirtual 305, 3) := dq_g391.2.2.2.2.2.2.2.2.2.2.2.2.2.2.1
theorem dX10_job_71 : decode cX10_job 71 = .ok (.ifCond .eq 10, 3) := dq_g391.2.2.2.2.2.2.2.2.2.2.2.2.2.2.2.1
theorem dX10_job_74 : decode cX10_job 74 = .ok (.aload_n 0, 1) := dq_g391.2.2.2.2.2.2.2.2.2.2.2.2.2.2.2.2.1
theorem dX10_job_75 : decode cX10_job 75 = .ok (.iload_n 2, 1) := dq_g391.2.2.2.2.2.2.2.2.2.2.2.2.2.2.2.2.2.1
theorem dX10_job_76 : decode cX10_job 76 = .ok (.iload 5, 2) := dq_g391.2.2.2.2.2.2.2.2.2.2.2.2.2.2.2.2.2.2.1
theorem dX10_job_78 : decode cX10_job 78 = .ok (.invokevirtual 353, 3) := dq_g391.2.2.2.2.2.2.2.2.2.2.2.2.2.2.2.2.2.2.2.1
theorem dX10_job_81 : decode cX10_job 81 = .ok (.iinc 5 1, 3) := dq_g391.2.2.2.2.2.2.2.2.2.2.2.2.2.2.2.2.2.2.2.2.1
theorem dX10_job_84 : decode cX10_job 84 = .ok (.goto (-41), 3) := dq_g391.2.2.2.2.2.2.2.2.2.2.2.2.2.2.2.2.2.2.2.2.2.1
theorem dX10_job_87 : decode cX10_job 87 = .ok (.aload_n 0, 1) := dq_g391.2.2.2.2.2.2.2.2.2.2.2.2.2.2.2.2.2.2.2.2.2.2.1
theorem dX10_job_88 : decode cX10_job 88 = .ok (.getfield 32, 3) := dq_g391.2.2.2.2.2.2.2.2.2.2.2.2.2.2.2.2.2.2.2.2.2.2.2.1
theorem dX10_job_91 : decode cX10_job 91 = .ok (.iload_n 2, 1) := dq_g391.2.2.2.2.2.2.2.2.2.2.2.2.2.2.2.2.2.2.2.2.2.2.2.2.1
theorem dX10_job_92 : decode cX10_job 92 = .ok (.iaload, 1) := dq_g391.2.2.2.2.2.2.2.2.2.2.2.2.2.2.2.2.2.2.2.2.2.2.2.2.2.1
theorem dX10_job_93 : decode cX10_job 93 = .ok (.iload 4, 2) := dq_g391.2.2.2.2.2.2.2.2.2.2.2.2.2.2.2.2.2.2.2.2.2.2.2.2.2.2.1
theorem dX10_job_95 : decode cX10_job 95 = .ok (.isub, 1) := dq_g391.2.2.2.2.2.2.2.2.2.2.2.2.2.2.2.2.2.2.2.2.2.2.2.2.2.2.2.1
theorem dX10_job_96 : decode cX10_job 96 = .ok (.ireturn, 1) := dq_g391.2.2.2.2.2.2.2.2.2.2.2.2.2.2.2.2.2.2.2.2.2.2.2.2.2.2.2.2.1
theorem dq_g392 : decode cX10_findsTable 0 = .ok (.iconst 0, 1) ∧ decode cX10_findsTable 1 = .ok (.istore_n 2, 1) ∧ decode cX10_findsTable 2 = .ok (.iload_n 2, 1) ∧ decode cX10_findsTable 3 = .ok (.aload_n 0, 1) ∧ decode cX10_findsTable 4 = .ok (.getfield 13, 3) ∧ decode cX10_findsTable 7 = .ok (.iload_n 1, 1) ∧ decode cX10_findsTable 8 = .ok (.iaload, 1) ∧ decode cX10_findsTable 9 = .ok (.if_icmp .ge 148, 3) ∧ decode cX10_findsTable 12 = .ok (.aload_n 0, 1) ∧ decode cX10_findsTable 13 = .ok (.getfield 17, 3) ∧ decode cX10_findsTable 16 = .ok (.bipush 16, 2) ∧ decode cX10_findsTable 18 = .ok (.iload_n 1, 1) ∧ decode cX10_findsTable 19 = .ok (.imul, 1) ∧ decode cX10_findsTable 20 = .ok (.iload_n 2, 1) ∧ decode cX10_findsTable 21 = .ok (.iadd, 1) ∧ decode cX10_findsTable 22 = .ok (.iaload, 1) ∧ decode cX10_findsTable 23 = .ok (.istore_n 3, 1) ∧ decode cX10_findsTable 24 = .ok (.iconst 0, 1) ∧ decode cX10_findsTable 25 = .ok (.istore 4, 2) ∧ decode cX10_findsTable 27 = .ok (.iload 4, 2) ∧ decode cX10_findsTable 29 = .ok (.iconst 5, 1) ∧ decode cX10_findsTable 30 = .ok (.if_icmp .gt 109, 3) ∧ decode cX10_findsTable 33 = .ok (.iload_n 3, 1) ∧ decode cX10_findsTable 34 = .ok (.iload 4, 2) ∧ decode cX10_findsTable 36 = .ok (.if_icmp .le 103, 3) ∧ decode cX10_findsTable 39 = .ok (.aload_n 0, 1) ∧ decode cX10_findsTable 40 = .ok (.getfield 17, 3) ∧ decode cX10_findsTable 43 = .ok (.bipush 16, 2) ∧ decode cX10_findsTable 45 = .ok (.iload_n 1, 1) ∧ decode cX10_findsTable 46 = .ok (.imul, 1) ∧ True := dqC_ok (c := cX10_findsTable) [(0, 1, some (.iconst 0)), (1, 1, some (.istore_n 2)), (2, 1, some (.iload_n 2)), (3, 1, some (.aload_n 0)), (4, 3, some (.getfield 13)), (7, 1, some (.iload_n 1)), (8, 1, some (.iaload)), (9, 3, some (.if_icmp .ge 148)), (12, 1, some (.aload_n 0)), (13, 3, some (.getfield 17)), (16, 2, some (.bipush 16)), (18, 1, some (.iload_n 1)), (19, 1, some (.imul)), (20, 1, some (.iload_n 2)), (21, 1, some (.iadd)), (22, 1, some (.iaload)), (23, 1, some (.istore_n 3)), (24, 1, some (.iconst 0)), (25, 2, some (.istore 4)), (27, 2, some (.iload 4)), (29, 1, some (.iconst 5)), (30, 3, some (.if_icmp .gt 109)), (33, 1, some (.iload_n 3)), (34, 2, some (.iload 4)), (36, 3, some (.if_icmp .le 103)), (39, 1, some (.aload_n 0)), (40, 3, some (.getfield 17)), (43, 2, some (.bipush 16)), (45, 1, some (.iload_n 1)), (46, 1, some (.imul))] _ 0 rfl (by decide +kernel)
theorem dX10_findsTable_0 : decode cX10_findsTable 0 = .ok (.iconst 0, 1) := dq_g392.1
theorem dX10_findsTable_1 : decode cX10_findsTable 1 = .ok (.istore_n 2, 1) := dq_g392.2.1
theorem dX10_findsTable_2 : decode cX10_findsTable 2 = .ok (.iload_n 2, 1) := dq_g392.2.2.1
theorem dX10_findsTable_3 : decode cX10_findsTable 3 = .ok (.aload_n 0, 1) := dq_g392.2.2.2.1
theorem dX10_findsTable_4 : decode cX10_findsTable 4 = .ok (.getfield 13, 3) := dq_g392.2.2.2.2.1
theorem dX10_findsTable_7 : decode cX10_findsTable 7 = .ok (.iload_n 1, 1) := dq_g392.2.2.2.2.2.1
theorem dX10_findsTable_8 : decode cX10_findsTable 8 = .ok (.iaload, 1) := dq_g392.2.2.2.2.2.2.1
theorem dX10_findsTable_9 : decode cX10_findsTable 9 = .ok (.if_icmp .ge 148, 3) := dq_g392.2.2.2.2.2.2.2.1
theorem dX10_findsTable_12 : decode cX10_findsTable 12 = .ok (.aload_n 0, 1) := dq_g392.2.2.2.2.2.2.2.2.1
theorem dX10_findsTable_13 : decode cX10_findsTable 13 = .ok (.getfield 17, 3) := dq_g392.2.2.2.2.2.2.2.2.2.1
theorem dX10_findsTable_16 : decode cX10_findsTable 16 = .ok (.bipush 16, 2) := dq_g392.2.2.2.2.2.2.2.2.2.2.1
theorem dX10_findsTable_18 : decode cX10_findsTable 18 = .ok (.iload_n 1, 1) := dq_g392.2.2.2.2.2.2.2.2.2.2.2.1
theorem dX10_findsTable_19 : decode cX10_findsTable 19 = .ok (.imul, 1) := dq_g392.2.2.2.2.2.2.2.2.2.2.2.2.1
theorem dX10_findsTable_20 : decode cX10_findsTable 20 = .ok (.iload_n 2, 1) := dq_g392.2.2.2.2.2.2.2.2.2.2.2.2.2.1
theorem dX10_findsTable_21 : decode cX10_findsTable 21 = .ok (.iadd, 1) := dq_g392.2.2.2.2.2.2.2.2.2.2.2.2.2.2.1
theorem dX10_findsTable_22 : decode cX10_findsTable 22 = .ok (.iaload, 1) := dq_g392.2.2.2.2.2.2.2.2.2.2.2.2.2.2.2.1
theorem dX10_findsTable_23 : decode cX10_findsTable 23 = .ok (.istore_n 3, 1) := dq_g392.2.2.2.2.2.2.2.2.2.2.2.2.2.2.2.2.1
theorem dX10_findsTable_24 : decode cX10_findsTable 24 = .ok (.iconst 0, 1) := dq_g392.2.2.2.2.2.2.2.2.2.2.2.2.2.2.2.2.2.1
theorem dX10_findsTable_25 : decode cX10_findsTable 25 = .ok (.istore 4, 2) := dq_g392.2.2.2.2.2.2.2.2.2.2.2.2.2.2.2.2.2.2.1
theorem dX10_findsTable_27 : decode cX10_findsTable 27 = .ok (.iload 4, 2) := dq_g392.2.2.2.2.2.2.2.2.2.2.2.2.2.2.2.2.2.2.2.1
theorem dX10_findsTable_29 : decode cX10_findsTable 29 = .ok (.iconst 5, 1) := dq_g392.2.2.2.2.2.2.2.2.2.2.2.2.2.2.2.2.2.2.2.2.1
theorem dX10_findsTable_30 : decode cX10_findsTable 30 = .ok (.if_icmp .gt 109, 3) := dq_g392.2.2.2.2.2.2.2.2.2.2.2.2.2.2.2.2.2.2.2.2.2.1
theorem dX10_findsTable_33 : decode cX10_findsTable 33 = .ok (.iload_n 3, 1) := dq_g392.2.2.2.2.2.2.2.2.2.2.2.2.2.2.2.2.2.2.2.2.2.2.1
theorem dX10_findsTable_34 : decode cX10_findsTable 34 = .ok (.iload 4, 2) := dq_g392.2.2.2.2.2.2.2.2.2.2.2.2.2.2.2.2.2.2.2.2.2.2.2.1
theorem dX10_findsTable_36 : decode cX10_findsTable 36 = .ok (.if_icmp .le 103, 3) := dq_g392.2.2.2.2.2.2.2.2.2.2.2.2.2.2.2.2.2.2.2.2.2.2.2.2.1
theorem dX10_findsTable_39 : decode cX10_findsTable 39 = .ok (.aload_n 0, 1) := dq_g392.2.2.2.2.2.2.2.2.2.2.2.2.2.2.2.2.2.2.2.2.2.2.2.2.2.1
theorem dX10_findsTable_40 : decode cX10_findsTable 40 = .ok (.getfield 17, 3) := dq_g392.2.2.2.2.2.2.2.2.2.2.2.2.2.2.2.2.2.2.2.2.2.2.2.2.2.2.1
theorem dX10_findsTable_43 : decode cX10_findsTable 43 = .ok (.bipush 16, 2) := dq_g392.2.2.2.2.2.2.2.2.2.2.2.2.2.2.2.2.2.2.2.2.2.2.2.2.2.2.2.1
theorem dX10_findsTable_45 : decode cX10_findsTable 45 = .ok (.iload_n 1, 1) := dq_g392.2.2.2.2.2.2.2.2.2.2.2.2.2.2.2.2.2.2.2.2.2.2.2.2.2.2.2.2.1
theorem dX10_findsTable_46 : decode cX10_findsTable 46 = .ok (.imul, 1) := dq_g392.2.2.2.2.2.2.2.2.2.2.2.2.2.2.2.2.2.2.2.2.2.2.2.2.2.2.2.2.2.1
theorem dq_g393 : decode cX10_findsTable 47 = .ok (.iload_n 2, 1) ∧ decode cX10_findsTable 48 = .ok (.iadd, 1) ∧ decode cX10_findsTable 49 = .ok (.iload_n 3, 1) ∧ decode cX10_findsTable 50 = .ok (.iload 4, 2) ∧ decode cX10_findsTable 52 = .ok (.isub, 1) ∧ decode cX10_findsTable 53 = .ok (.iastore, 1) ∧ decode cX10_findsTable 54 = .ok (.aload_n 0, 1) ∧ decode cX10_findsTable 55 = .ok (.iload_n 1, 1) ∧ decode cX10_findsTable 56 = .ok (.iload_n 2, 1) ∧ decode cX10_findsTable 57 = .ok (.invokevirtual 316, 3) ∧ decode cX10_findsTable 60 = .ok (.iconst 0, 1) ∧ decode cX10_findsTable 61 = .ok (.istore 5, 2) ∧ decode cX10_findsTable 63 = .ok (.iload 5, 2) ∧ decode cX10_findsTable 65 = .ok (.iconst 3, 1) ∧ decode cX10_findsTable 66 = .ok (.if_icmp .ge 67, 3) ∧ decode cX10_findsTable 69 = .ok (.aload_n 0, 1) ∧ decode cX10_findsTable 70 = .ok (.getfield 107, 3) ∧ decode cX10_findsTable 73 = .ok (.bipush 48, 2) ∧ decode cX10_findsTable 75 = .ok (.iload 5, 2) ∧ decode cX10_findsTable 77 = .ok (.imul, 1) ∧ decode cX10_findsTable 78 = .ok (.bipush 6, 2) ∧ decode cX10_findsTable 80 = .ok (.iload_n 2, 1) ∧ decode cX10_findsTable 81 = .ok (.imul, 1) ∧ decode cX10_findsTable 82 = .ok (.iadd, 1) ∧ decode cX10_findsTable 83 = .ok (.iload 4, 2) ∧ decode cX10_findsTable 85 = .ok (.iadd, 1) ∧ decode cX10_findsTable 86 = .ok (.aload_n 0, 1) ∧ decode cX10_findsTable 87 = .ok (.aload_n 0, 1) ∧ decode cX10_findsTable 88 = .ok (.getfield 322, 3) ∧ decode cX10_findsTable 91 = .ok (.iconst 0, 1) ∧ True := dqC_ok (c := cX10_findsTable) [(47, 1, some (.iload_n 2)), (48, 1, some (.iadd)), (49, 1, some (.iload_n 3)), (50, 2, some (.iload 4)), (52, 1, some (.isub)), (53, 1, some (.iastore)), (54, 1, some (.aload_n 0)), (55, 1, some (.iload_n 1)), (56, 1, some (.iload_n 2)), (57, 3, some (.invokevirtual 316)), (60, 1, some (.iconst 0)), (61, 2, some (.istore 5)), (63, 2, some (.iload 5)), (65, 1, some (.iconst 3)), (66, 3, some (.if_icmp .ge 67)), (69, 1, some (.aload_n 0)), (70, 3, some (.getfield 107)), (73, 2, some (.bipush 48)), (75, 2, some (.iload 5)), (77, 1, some (.imul)), (78, 2, some (.bipush 6)), (80, 1, some (.iload_n 2)), (81, 1, some (.imul)), (82, 1, some (.iadd)), (83, 2, some (.iload 4)), (85, 1, some (.iadd)), (86, 1, some (.aload_n 0)), (87, 1, some (.aload_n 0)), (88, 3, some (.getfield 322)), (91, 1, some (.iconst 0))] _ 47 rfl (by decide +kernel)
theorem dX10_findsTable_47 : decode cX10_findsTable 47 = .ok (.iload_n 2, 1) := dq_g393.1
theorem dX10_findsTable_48 : decode cX10_findsTable 48 = .ok (.iadd, 1) := dq_g393.2.1
theorem dX10_findsTable_49 : decode cX10_findsTable 49 = .ok (.iload_n 3, 1) := dq_g393.2.2.1
theorem dX10_findsTable_50 : decode cX10_findsTable 50 = .ok (.iload 4, 2) := dq_g393.2.2.2.1
theorem dX10_findsTable_52 : decode cX10_findsTable 52 = .ok (.isub, 1) := dq_g393.2.2.2.2.1
theorem dX10_findsTable_53 : decode cX10_findsTable 53 = .ok (.iastore, 1) := dq_g393.2.2.2.2.2.1
theorem dX10_findsTable_54 : decode cX10_findsTable 54 = .ok (.aload_n 0, 1) := dq_g393.2.2.2.2.2.2.1
theorem dX10_findsTable_55 : decode cX10_findsTable 55 = .ok (.iload_n 1, 1) := dq_g393.2.2.2.2.2.2.2.1
theorem dX10_findsTable_56 : decode cX10_findsTable 56 = .ok (.iload_n 2, 1) := dq_g393.2.2.2.2.2.2.2.2.1
theorem dX10_findsTable_57 : decode cX10_findsTable 57 = .ok (.invokevirtual 316, 3) := dq_g393.2.2.2.2.2.2.2.2.2.1
theorem dX10_findsTable_60 : decode cX10_findsTable 60 = .ok (.iconst 0, 1) := dq_g393.2.2.2.2.2.2.2.2.2.2.1
theorem dX10_findsTable_61 : decode cX10_findsTable 61 = .ok (.istore 5, 2) := dq_g393.2.2.2.2.2.2.2.2.2.2.2.1
theorem dX10_findsTable_63 : decode cX10_findsTable 63 = .ok (.iload 5, 2) := dq_g393.2.2.2.2.2.2.2.2.2.2.2.2.1
theorem dX10_findsTable_65 : decode cX10_findsTable 65 = .ok (.iconst 3, 1) := dq_g393.2.2.2.2.2.2.2.2.2.2.2.2.2.1
theorem dX10_findsTable_66 : decode cX10_findsTable 66 = .ok (.if_icmp .ge 67, 3) := dq_g393.2.2.2.2.2.2.2.2.2.2.2.2.2.2.1
theorem dX10_findsTable_69 : decode cX10_findsTable 69 = .ok (.aload_n 0, 1) := dq_g393.2.2.2.2.2.2.2.2.2.2.2.2.2.2.2.1
theorem dX10_findsTable_70 : decode cX10_findsTable 70 = .ok (.getfield 107, 3) := dq_g393.2.2.2.2.2.2.2.2.2.2.2.2.2.2.2.2.1
theorem dX10_findsTable_73 : decode cX10_findsTable 73 = .ok (.bipush 48, 2) := dq_g393.2.2.2.2.2.2.2.2.2.2.2.2.2.2.2.2.2.1
theorem dX10_findsTable_75 : decode cX10_findsTable 75 = .ok (.iload 5, 2) := dq_g393.2.2.2.2.2.2.2.2.2.2.2.2.2.2.2.2.2.2.1
theorem dX10_findsTable_77 : decode cX10_findsTable 77 = .ok (.imul, 1) := dq_g393.2.2.2.2.2.2.2.2.2.2.2.2.2.2.2.2.2.2.2.1
theorem dX10_findsTable_78 : decode cX10_findsTable 78 = .ok (.bipush 6, 2) := dq_g393.2.2.2.2.2.2.2.2.2.2.2.2.2.2.2.2.2.2.2.2.1
theorem dX10_findsTable_80 : decode cX10_findsTable 80 = .ok (.iload_n 2, 1) := dq_g393.2.2.2.2.2.2.2.2.2.2.2.2.2.2.2.2.2.2.2.2.2.1
theorem dX10_findsTable_81 : decode cX10_findsTable 81 = .ok (.imul, 1) := dq_g393.2.2.2.2.2.2.2.2.2.2.2.2.2.2.2.2.2.2.2.2.2.2.1
theorem dX10_findsTable_82 : decode cX10_findsTable 82 = .ok (.iadd, 1) := dq_g393.2.2.2.2.2.2.2.2.2.2.2.2.2.2.2.2.2.2.2.2.2.2.2.1
theorem dX10_findsTable_83 : decode cX10_findsTable 83 = .ok (.iload 4, 2) := dq_g393.2.2.2.2.2.2.2.2.2.2.2.2.2.2.2.2.2.2.2.2.2.2.2.2.1
theorem dX10_findsTable_85 : decode cX10_findsTable 85 = .ok (.iadd, 1) := dq_g393.2.2.2.2.2.2.2.2.2.2.2.2.2.2.2.2.2.2.2.2.2.2.2.2.2.1
theorem dX10_findsTable_86 : decode cX10_findsTable 86 = .ok (.aload_n 0, 1) := dq_g393.2.2.2.2.2.2.2.2.2.2.2.2.2.2.2.2.2.2.2.2.2.2.2.2.2.2.1
theorem dX10_findsTable_87 : decode cX10_findsTable 87 = .ok (.aload_n 0, 1) := dq_g393.2.2.2.2.2.2.2.2.2.2.2.2.2.2.2.2.2.2.2.2.2.2.2.2.2.2.2.1
theorem dX10_findsTable_88 : decode cX10_findsTable 88 = .ok (.getfield 322, 3) := dq_g393.2.2.2.2.2.2.2.2.2.2.2.2.2.2.2.2.2.2.2.2.2.2.2.2.2.2.2.2.1
theorem dX10_findsTable_91 : decode cX10_findsTable 91 = .ok (.iconst 0, 1) := dq_g393.2.2.2.2.2.2.2.2.2.2.2.2.2.2.2.2.2.2.2.2.2.2.2.2.2.2.2.2.2.1
theorem dq_g394 : decode cX10_findsTable 92 = .ok (.iload 5, 2) ∧ decode cX10_findsTable 94 = .ok (.invokevirtual 319, 3) ∧ decode cX10_findsTable 97 = .ok (.iastore, 1) ∧ decode cX10_findsTable 98 = .ok (.aload_n 0, 1) ∧ decode cX10_findsTable 99 = .ok (.getfield 110, 3) ∧ decode cX10_findsTable 102 = .ok (.bipush 48, 2) ∧ decode cX10_findsTable 104 = .ok (.iload 5, 2) ∧ decode cX10_findsTable 106 = .ok (.imul, 1) ∧ decode cX10_findsTable 107 = .ok (.bipush 6, 2) ∧ decode cX10_findsTable 109 = .ok (.iload_n 2, 1) ∧ decode cX10_findsTable 110 = .ok (.imul, 1) ∧ decode cX10_findsTable 111 = .ok (.iadd, 1) ∧ decode cX10_findsTable 112 = .ok (.iload 4, 2) ∧ decode cX10_findsTable 114 = .ok (.iadd, 1) ∧ decode cX10_findsTable 115 = .ok (.aload_n 0, 1) ∧ decode cX10_findsTable 116 = .ok (.aload_n 0, 1) ∧ decode cX10_findsTable 117 = .ok (.getfield 322, 3) ∧ decode cX10_findsTable 120 = .ok (.iconst 1, 1) ∧ decode cX10_findsTable 121 = .ok (.iload 5, 2) ∧ decode cX10_findsTable 123 = .ok (.invokevirtual 319, 3) ∧ decode cX10_findsTable 126 = .ok (.iastore, 1) ∧ decode cX10_findsTable 127 = .ok (.iinc 5 1, 3) ∧ decode cX10_findsTable 130 = .ok (.goto (-67), 3) ∧ decode cX10_findsTable 133 = .ok (.iinc 4 1, 3) ∧ decode cX10_findsTable 136 = .ok (.goto (-109), 3) ∧ decode cX10_findsTable 139 = .ok (.aload_n 0, 1) ∧ decode cX10_findsTable 140 = .ok (.getfield 17, 3) ∧ decode cX10_findsTable 143 = .ok (.bipush 16, 2) ∧ decode cX10_findsTable 145 = .ok (.iload_n 1, 1) ∧ decode cX10_findsTable 146 = .ok (.imul, 1) ∧ True := dqC_ok (c := cX10_findsTable) [(92, 2, some (.iload 5)), (94, 3, some (.invokevirtual 319)), (97, 1, some (.iastore)), (98, 1, some (.aload_n 0)), (99, 3, some (.getfield 110)), (102, 2, some (.bipush 48)), (104, 2, some (.iload 5)), (106, 1, some (.imul)), (107, 2, some (.bipush 6)), (109, 1, some (.iload_n 2)), (110, 1, some (.imul)), (111, 1, some (.iadd)), (112, 2, some (.iload 4)), (114, 1, some (.iadd)), (115, 1, some (.aload_n 0)), (116, 1, some (.aload_n 0)), (117, 3, some (.getfield 322)), (120, 1, some (.iconst 1)), (121, 2, some (.iload 5)), (123, 3, some (.invokevirtual 319)), (126, 1, some (.iastore)), (127, 3, some (.iinc 5 1)), (130, 3, some (.goto (-67))), (133, 3, some (.iinc 4 1)), (136, 3, some (.goto (-109))), (139, 1, some (.aload_n 0)), (140, 3, some (.getfield 17)), (143, 2, some (.bipush 16)), (145, 1, some (.iload_n 1)), (146, 1, some (.imul))] _ 92 rfl (by decide +kernel)
theorem dX10_findsTable_92 : decode cX10_findsTable 92 = .ok (.iload 5, 2) := dq_g394.1
theorem dX10_findsTable_94 : decode cX10_findsTable 94 = .ok (.invokevirtual 319, 3) := dq_g394.2.1
theorem dX10_findsTable_97 : decode cX10_findsTable 97 = .ok (.iastore, 1) := dq_g394.2.2.1
theorem dX10_findsTable_98 : decode cX10_findsTable 98 = .ok (.aload_n 0, 1) := dq_g394.2.2.2.1
theorem dX10_findsTable_99 : decode cX10_findsTable 99 = .ok (.getfield 110, 3) := dq_g394.2.2.2.2.1
theorem dX10_findsTable_102 : decode cX10_findsTable 102 = .ok (.bipush 48, 2) := dq_g394.2.2.2.2.2.1
theorem dX10_findsTable_104 : decode cX10_findsTable 104 = .ok (.iload 5, 2) := dq_g394.2.2.2.2.2.2.1
theorem dX10_findsTable_106 : decode cX10_findsTable 106 = .ok (.imul, 1) := dq_g394.2.2.2.2.2.2.2.1
theorem dX10_findsTable_107 : decode cX10_findsTable 107 = .ok (.bipush 6, 2) := dq_g394.2.2.2.2.2.2.2.2.1
theorem dX10_findsTable_109 : decode cX10_findsTable 109 = .ok (.iload_n 2, 1) := dq_g394.2.2.2.2.2.2.2.2.2.1
theorem dX10_findsTable_110 : decode cX10_findsTable 110 = .ok (.imul, 1) := dq_g394.2.2.2.2.2.2.2.2.2.2.1
theorem dX10_findsTable_111 : decode cX10_findsTable 111 = .ok (.iadd, 1) := dq_g394.2.2.2.2.2.2.2.2.2.2.2.1
theorem dX10_findsTable_112 : decode cX10_findsTable 112 = .ok (.iload 4, 2) := dq_g394.2.2.2.2.2.2.2.2.2.2.2.2.1
theorem dX10_findsTable_114 : decode cX10_findsTable 114 = .ok (.iadd, 1) := dq_g394.2.2.2.2.2.2.2.2.2.2.2.2.2.1
theorem dX10_findsTable_115 : decode cX10_findsTable 115 = .ok (.aload_n 0, 1) := dq_g394.2.2.2.2.2.2.2.2.2.2.2.2.2.2.1
theorem dX10_findsTable_116 : decode cX10_findsTable 116 = .ok (.aload_n 0, 1) := dq_g394.2.2.2.2.2.2.2.2.2.2.2.2.2.2.2.1
theorem dX10_findsTable_117 : decode cX10_findsTable 117 = .ok (.getfield 322, 3) := dq_g394.2.2.2.2.2.2.2.2.2.2.2.2.2.2.2.2.1
theorem dX10_findsTable_120 : decode cX10_findsTable 120 = .ok (.iconst 1, 1) := dq_g394.2.2.2.2.2.2.2.2.2.2.2.2.2.2.2.2.2.1
theorem dX10_findsTable_121 : decode cX10_findsTable 121 = .ok (.iload 5, 2) := dq_g394.2.2.2.2.2.2.2.2.2.2.2.2.2.2.2.2.2.2.1
theorem dX10_findsTable_123 : decode cX10_findsTable 123 = .ok (.invokevirtual 319, 3) := dq_g394.2.2.2.2.2.2.2.2.2.2.2.2.2.2.2.2.2.2.2.1
theorem dX10_findsTable_126 : decode cX10_findsTable 126 = .ok (.iastore, 1) := dq_g394.2.2.2.2.2.2.2.2.2.2.2.2.2.2.2.2.2.2.2.2.1
theorem dX10_findsTable_127 : decode cX10_findsTable 127 = .ok (.iinc 5 1, 3) := dq_g394.2.2.2.2.2.2.2.2.2.2.2.2.2.2.2.2.2.2.2.2.2.1
theorem dX10_findsTable_130 : decode cX10_findsTable 130 = .ok (.goto (-67), 3) := dq_g394.2.2.2.2.2.2.2.2.2.2.2.2.2.2.2.2.2.2.2.2.2.2.1
theorem dX10_findsTable_133 : decode cX10_findsTable 133 = .ok (.iinc 4 1, 3) := dq_g394.2.2.2.2.2.2.2.2.2.2.2.2.2.2.2.2.2.2.2.2.2.2.2.1
theorem dX10_findsTable_136 : decode cX10_findsTable 136 = .ok (.goto (-109), 3) := dq_g394.2.2.2.2.2.2.2.2.2.2.2.2.2.2.2.2.2.2.2.2.2.2.2.2.1
theorem dX10_findsTable_139 : decode cX10_findsTable 139 = .ok (.aload_n 0, 1) := dq_g394.2.2.2.2.2.2.2.2.2.2.2.2.2.2.2.2.2.2.2.2.2.2.2.2.2.1
theorem dX10_findsTable_140 : decode cX10_findsTable 140 = .ok (.getfield 17, 3) := dq_g394.2.2.2.2.2.2.2.2.2.2.2.2.2.2.2.2.2.2.2.2.2.2.2.2.2.2.1
theorem dX10_findsTable_143 : decode cX10_findsTable 143 = .ok (.bipush 16, 2) := dq_g394.2.2.2.2.2.2.2.2.2.2.2.2.2.2.2.2.2.2.2.2.2.2.2.2.2.2.2.1
theorem dX10_findsTable_145 : decode cX10_findsTable 145 = .ok (.iload_n 1, 1) := dq_g394.2.2.2.2.2.2.2.2.2.2.2.2.2.2.2.2.2.2.2.2.2.2.2.2.2.2.2.2.1
theorem dX10_findsTable_146 : decode cX10_findsTable 146 = .ok (.imul, 1) := dq_g394.2.2.2.2.2.2.2.2.2.2.2.2.2.2.2.2.2.2.2.2.2.2.2.2.2.2.2.2.2.1
theorem dq_g395 : decode cX10_findsTable 147 = .ok (.iload_n 2, 1) ∧ decode cX10_findsTable 148 = .ok (.iadd, 1) ∧ decode cX10_findsTable 149 = .ok (.iload_n 3, 1) ∧ decode cX10_findsTable 150 = .ok (.iastore, 1) ∧ decode cX10_findsTable 151 = .ok (.iinc 2 1, 3) ∧ decode cX10_findsTable 154 = .ok (.goto (-152), 3) ∧ decode cX10_findsTable 157 = .ok (.return_, 1) ∧ True := dqC_ok (c := cX10_findsTable) [(147, 1, some (.iload_n 2)), (148, 1, some (.iadd)), (149, 1, some (.iload_n 3)), (150, 1, some (.iastore)), (151, 3, some (.iinc 2 1)), (154, 3, some (.goto (-152))), (157, 1, some (.return_))] _ 147 rfl (by decide +kernel)
theorem dX10_findsTable_147 : decode cX10_findsTable 147 = .ok (.iload_n 2, 1) := dq_g395.1
theorem dX10_findsTable_148 : decode cX10_findsTable 148 = .ok (.iadd, 1) := dq_g395.2.1
theorem dX10_findsTable_149 : decode cX10_findsTable 149 = .ok (.iload_n 3, 1) := dq_g395.2.2.1
theorem dX10_findsTable_150 : decode cX10_findsTable 150 = .ok (.iastore, 1) := dq_g395.2.2.2.1
theorem dX10_findsTable_151 : decode cX10_findsTable 151 = .ok (.iinc 2 1, 3) := dq_g395.2.2.2.2.1
theorem dX10_findsTable_154 : decode cX10_findsTable 154 = .ok (.goto (-152), 3) := dq_g395.2.2.2.2.2.1
theorem dX10_findsTable_157 : decode cX10_findsTable 157 = .ok (.return_, 1) := dq_g395.2.2.2.2.2.2.1
theorem dq_g396 : decode cX10_toneByTable 0 = .ok (.iconst 0, 1) ∧ decode cX10_toneByTable 1 = .ok (.istore_n 3, 1) ∧ decode cX10_toneByTable 2 = .ok (.iconst 0, 1) ∧ decode cX10_toneByTable 3 = .ok (.istore 4, 2) ∧ decode cX10_toneByTable 5 = .ok (.iconst 0, 1) ∧ decode cX10_toneByTable 6 = .ok (.istore 5, 2) ∧ decode cX10_toneByTable 8 = .ok (.iload 5, 2) ∧ decode cX10_toneByTable 10 = .ok (.aload_n 0, 1) ∧ decode cX10_toneByTable 11 = .ok (.getfield 13, 3) ∧ decode cX10_toneByTable 14 = .ok (.iload_n 1, 1) ∧ decode cX10_toneByTable 15 = .ok (.iaload, 1) ∧ decode cX10_toneByTable 16 = .ok (.if_icmp .ge 63, 3) ∧ decode cX10_toneByTable 19 = .ok (.iload_n 3, 1) ∧ decode cX10_toneByTable 20 = .ok (.aload_n 0, 1) ∧ decode cX10_toneByTable 21 = .ok (.getfield 107, 3) ∧ decode cX10_toneByTable 24 = .ok (.bipush 48, 2) ∧ decode cX10_toneByTable 26 = .ok (.iload_n 2, 1) ∧ decode cX10_toneByTable 27 = .ok (.imul, 1) ∧ decode cX10_toneByTable 28 = .ok (.bipush 6, 2) ∧ decode cX10_toneByTable 30 = .ok (.iload 5, 2) ∧ decode cX10_toneByTable 32 = .ok (.imul, 1) ∧ decode cX10_toneByTable 33 = .ok (.iadd, 1) ∧ decode cX10_toneByTable 34 = .ok (.aload_n 0, 1) ∧ decode cX10_toneByTable 35 = .ok (.getfield 113, 3) ∧ decode cX10_toneByTable 38 = .ok (.iload 5, 2) ∧ decode cX10_toneByTable 40 = .ok (.iaload, 1) ∧ decode cX10_toneByTable 41 = .ok (.iadd, 1) ∧ decode cX10_toneByTable 42 = .ok (.iaload, 1) ∧ decode cX10_toneByTable 43 = .ok (.iadd, 1) ∧ decode cX10_toneByTable 44 = .ok (.istore_n 3, 1) ∧ True := dqC_ok (c := cX10_toneByTable) [(0, 1, some (.iconst 0)), (1, 1, some (.istore_n 3)), (2, 1, some (.iconst 0)), (3, 2, some (.istore 4)), (5, 1, some (.iconst 0)), (6, 2, some (.istore 5)), (8, 2, some (.iload 5)), (10, 1, some (.aload_n 0)), (11, 3, some (.getfield 13)), (14, 1, some (.iload_n 1)), (15, 1, some (.iaload)), (16, 3, some (.if_icmp .ge 63)), (19, 1, some (.iload_n 3)), (20, 1, some (.aload_n 0)), (21, 3, some (.getfield 107)), (24, 2, some (.bipush 48)), (26, 1, some (.iload_n 2)), (27, 1, some (.imul)), (28, 2, some (.bipush 6)), (30, 2, some (.iload 5)), (32, 1, some (.imul)), (33, 1, some (.iadd)), (34, 1, some (.aload_n 0)), (35, 3, some (.getfield 113)), (38, 2, some (.iload 5)), (40, 1, some (.iaload)), (41, 1, some (.iadd)), (42, 1, some (.iaload)), (43, 1, some (.iadd)), (44, 1, some (.istore_n 3))] _ 0 rfl (by decide +kernel)
theorem dX10_toneByTable_0 : decode cX10_toneByTable 0 = .ok (.iconst 0, 1) := dq_g396.1
theorem dX10_toneByTable_1 : decode cX10_toneByTable 1 = .ok (.istore_n 3, 1) := dq_g396.2.1
theorem dX10_toneByTable_2 : decode cX10_toneByTable 2 = .ok (.iconst 0, 1) := dq_g396.2.2.1
theorem dX10_toneByTable_3 : decode cX10_toneByTable 3 = .ok (.istore 4, 2) := dq_g396.2.2.2.1
theorem dX10_toneByTable_5 : decode cX10_toneByTable 5 = .ok (.iconst 0, 1) := dq_g396.2.2.2.2.1
theorem dX10_toneByTable_6 : decode cX10_toneByTable 6 = .ok (.istore 5, 2) := dq_g396.2.2.2.2.2.1
theorem dX10_toneByTable_8 : decode cX10_toneByTable 8 = .ok (.iload 5, 2) := dq_g396.2.2.2.2.2.2.1
theorem dX10_toneByTable_10 : decode cX10_toneByTable 10 = .ok (.aload_n 0, 1) := dq_g396.2.2.2.2.2.2.2.1
theorem dX10_toneByTable_11 : decode cX10_toneByTable 11 = .ok (.getfield 13, 3) := dq_g396.2.2.2.2.2.2.2.2.1
theorem dX10_toneByTable_14 : decode cX10_toneByTable 14 = .ok (.iload_n 1, 1) := dq_g396.2.2.2.2.2.2.2.2.2.1
theorem dX10_toneByTable_15 : decode cX10_toneByTable 15 = .ok (.iaload, 1) := dq_g396.2.2.2.2.2.2.2.2.2.2.1
theorem dX10_toneByTable_16 : decode cX10_toneByTable 16 = .ok (.if_icmp .ge 63, 3) := dq_g396.2.2.2.2.2.2.2.2.2.2.2.1
theorem dX10_toneByTable_19 : decode cX10_toneByTable 19 = .ok (.iload_n 3, 1) := dq_g396.2.2.2.2.2.2.2.2.2.2.2.2.1
theorem dX10_toneByTable_20 : decode cX10_toneByTable 20 = .ok (.aload_n 0, 1) := dq_g396.2.2.2.2.2.2.2.2.2.2.2.2.2.1
theorem dX10_toneByTable_21 : decode cX10_toneByTable 21 = .ok (.getfield 107, 3) := dq_g396.2.2.2.2.2.2.2.2.2.2.2.2.2.2.1
theorem dX10_toneByTable_24 : decode cX10_toneByTable 24 = .ok (.bipush 48, 2) := dq_g396.2.2.2.2.2.2.2.2.2.2.2.2.2.2.2.1
theorem dX10_toneByTable_26 : decode cX10_toneByTable 26 = .ok (.iload_n 2, 1) := dq_g396.2.2.2.2.2.2.2.2.2.2.2.2.2.2.2.2.1
theorem dX10_toneByTable_27 : decode cX10_toneByTable 27 = .ok (.imul, 1) := dq_g396.2.2.2.2.2.2.2.2.2.2.2.2.2.2.2.2.2.1
theorem dX10_toneByTable_28 : decode cX10_toneByTable 28 = .ok (.bipush 6, 2) := dq_g396.2.2.2.2.2.2.2.2.2.2.2.2.2.2.2.2.2.2.1
theorem dX10_toneByTable_30 : decode cX10_toneByTable 30 = .ok (.iload 5, 2) := dq_g396.2.2.2.2.2.2.2.2.2.2.2.2.2.2.2.2.2.2.2.1
theorem dX10_toneByTable_32 : decode cX10_toneByTable 32 = .ok (.imul, 1) := dq_g396.2.2.2.2.2.2.2.2.2.2.2.2.2.2.2.2.2.2.2.2.1
theorem dX10_toneByTable_33 : decode cX10_toneByTable 33 = .ok (.iadd, 1) := dq_g396.2.2.2.2.2.2.2.2.2.2.2.2.2.2.2.2.2.2.2.2.2.1
theorem dX10_toneByTable_34 : decode cX10_toneByTable 34 = .ok (.aload_n 0, 1) := dq_g396.2.2.2.2.2.2.2.2.2.2.2.2.2.2.2.2.2.2.2.2.2.2.1
theorem dX10_toneByTable_35 : decode cX10_toneByTable 35 = .ok (.getfield 113, 3) := dq_g396.2.2.2.2.2.2.2.2.2.2.2.2.2.2.2.2.2.2.2.2.2.2.2.1
theorem dX10_toneByTable_38 : decode cX10_toneByTable 38 = .ok (.iload 5, 2) := dq_g396.2.2.2.2.2.2.2.2.2.2.2.2.2.2.2.2.2.2.2.2.2.2.2.2.1
theorem dX10_toneByTable_40 : decode cX10_toneByTable 40 = .ok (.iaload, 1) := dq_g396.2.2.2.2.2.2.2.2.2.2.2.2.2.2.2.2.2.2.2.2.2.2.2.2.2.1
theorem dX10_toneByTable_41 : decode cX10_toneByTable 41 = .ok (.iadd, 1) := dq_g396.2.2.2.2.2.2.2.2.2.2.2.2.2.2.2.2.2.2.2.2.2.2.2.2.2.2.1
theorem dX10_toneByTable_42 : decode cX10_toneByTable 42 = .ok (.iaload, 1) := dq_g396.2.2.2.2.2.2.2.2.2.2.2.2.2.2.2.2.2.2.2.2.2.2.2.2.2.2.2.1
theorem dX10_toneByTable_43 : decode cX10_toneByTable 43 = .ok (.iadd, 1) := dq_g396.2.2.2.2.2.2.2.2.2.2.2.2.2.2.2.2.2.2.2.2.2.2.2.2.2.2.2.2.1
theorem dX10_toneByTable_44 : decode cX10_toneByTable 44 = .ok (.istore_n 3, 1) := dq_g396.2.2.2.2.2.2.2.2.2.2.2.2.2.2.2.2.2.2.2.2.2.2.2.2.2.2.2.2.2.1
theorem dq_g397 : decode cX10_toneByTable 45 = .ok (.iload 4, 2) ∧ decode cX10_toneByTable 47 = .ok (.aload_n 0, 1) ∧ decode cX10_toneByTable 48 = .ok (.getfield 110, 3) ∧ decode cX10_toneByTable 51 = .ok (.bipush 48, 2) ∧ decode cX10_toneByTable 53 = .ok (.iload_n 2, 1) ∧ decode cX10_toneByTable 54 = .ok (.imul, 1) ∧ decode cX10_toneByTable 55 = .ok (.bipush 6, 2) ∧ decode cX10_toneByTable 57 = .ok (.iload 5, 2) ∧ decode cX10_toneByTable 59 = .ok (.imul, 1) ∧ decode cX10_toneByTable 60 = .ok (.iadd, 1) ∧ decode cX10_toneByTable 61 = .ok (.aload_n 0, 1) ∧ decode cX10_toneByTable 62 = .ok (.getfield 113, 3) ∧ decode cX10_toneByTable 65 = .ok (.iload 5, 2) ∧ decode cX10_toneByTable 67 = .ok (.iaload, 1) ∧ decode cX10_toneByTable 68 = .ok (.iadd, 1) ∧ decode cX10_toneByTable 69 = .ok (.iaload, 1) ∧ decode cX10_toneByTable 70 = .ok (.iadd, 1) ∧ decode cX10_toneByTable 71 = .ok (.istore 4, 2) ∧ decode cX10_toneByTable 73 = .ok (.iinc 5 1, 3) ∧ decode cX10_toneByTable 76 = .ok (.goto (-68), 3) ∧ decode cX10_toneByTable 79 = .ok (.iload 4, 2) ∧ decode cX10_toneByTable 81 = .ok (.ifCond .ne 7, 3) ∧ decode cX10_toneByTable 84 = .ok (.iconst 0, 1) ∧ decode cX10_toneByTable 85 = .ok (.goto 11, 3) ∧ decode cX10_toneByTable 88 = .ok (.sipush 1000, 3) ∧ decode cX10_toneByTable 91 = .ok (.iload_n 3, 1) ∧ decode cX10_toneByTable 92 = .ok (.imul, 1) ∧ decode cX10_toneByTable 93 = .ok (.iload 4, 2) ∧ decode cX10_toneByTable 95 = .ok (.idiv, 1) ∧ decode cX10_toneByTable 96 = .ok (.ireturn, 1) ∧ True := dqC_ok (c := cX10_toneByTable) [(45, 2, some (.iload 4)), (47, 1, some (.aload_n 0)), (48, 3, some (.getfield 110)), (51, 2, some (.bipush 48)), (53, 1, some (.iload_n 2)), (54, 1, some (.imul)), (55, 2, some (.bipush 6)), (57, 2, some (.iload 5)), (59, 1, some (.imul)), (60, 1, some (.iadd)), (61, 1, some (.aload_n 0)), (62, 3, some (.getfield 113)), (65, 2, some (.iload 5)), (67, 1, some (.iaload)), (68, 1, some (.iadd)), (69, 1, some (.iaload)), (70, 1, some (.iadd)), (71, 2, some (.istore 4)), (73, 3, some (.iinc 5 1)), (76, 3, some (.goto (-68))), (79, 2, some (.iload 4)), (81, 3, some (.ifCond .ne 7)), (84, 1, some (.iconst 0)), (85, 3, some (.goto 11)), (88, 3, some (.sipush 1000)), (91, 1, some (.iload_n 3)), (92, 1, some (.imul)), (93, 2, some (.iload 4)), (95, 1, some (.idiv)), (96, 1, some (.ireturn))] _ 45 rfl (by decide +kernel)
theorem dX10_toneByTable_45 : decode cX10_toneByTable 45 = .ok (.iload 4, 2) := dq_g397.1
theorem dX10_toneByTable_47 : decode cX10_toneByTable 47 = .ok (.aload_n 0, 1) := dq_g397.2.1
theorem dX10_toneByTable_48 : decode cX10_toneByTable 48 = .ok (.getfield 110, 3) := dq_g397.2.2.1
theorem dX10_toneByTable_51 : decode cX10_toneByTable 51 = .ok (.bipush 48, 2) := dq_g397.2.2.2.1
theorem dX10_toneByTable_53 : decode cX10_toneByTable 53 = .ok (.iload_n 2, 1) := dq_g397.2.2.2.2.1
theorem dX10_toneByTable_54 : decode cX10_toneByTable 54 = .ok (.imul, 1) := dq_g397.2.2.2.2.2.1
theorem dX10_toneByTable_55 : decode cX10_toneByTable 55 = .ok (.bipush 6, 2) := dq_g397.2.2.2.2.2.2.1
theorem dX10_toneByTable_57 : decode cX10_toneByTable 57 = .ok (.iload 5, 2) := dq_g397.2.2.2.2.2.2.2.1
theorem dX10_toneByTable_59 : decode cX10_toneByTable 59 = .ok (.imul, 1) := dq_g397.2.2.2.2.2.2.2.2.1
theorem dX10_toneByTable_60 : decode cX10_toneByTable 60 = .ok (.iadd, 1) := dq_g397.2.2.2.2.2.2.2.2.2.1
theorem dX10_toneByTable_61 : decode cX10_toneByTable 61 = .ok (.aload_n 0, 1) := dq_g397.2.2.2.2.2.2.2.2.2.2.1
theorem dX10_toneByTable_62 : decode cX10_toneByTable 62 = .ok (.getfield 113, 3) := dq_g397.2.2.2.2.2.2.2.2.2.2.2.1
theorem dX10_toneByTable_65 : decode cX10_toneByTable 65 = .ok (.iload 5, 2) := dq_g397.2.2.2.2.2.2.2.2.2.2.2.2.1
theorem dX10_toneByTable_67 : decode cX10_toneByTable 67 = .ok (.iaload, 1) := dq_g397.2.2.2.2.2.2.2.2.2.2.2.2.2.1
theorem dX10_toneByTable_68 : decode cX10_toneByTable 68 = .ok (.iadd, 1) := dq_g397.2.2.2.2.2.2.2.2.2.2.2.2.2.2.1
theorem dX10_toneByTable_69 : decode cX10_toneByTable 69 = .ok (.iaload, 1) := dq_g397.2.2.2.2.2.2.2.2.2.2.2.2.2.2.2.1
theorem dX10_toneByTable_70 : decode cX10_toneByTable 70 = .ok (.iadd, 1) := dq_g397.2.2.2.2.2.2.2.2.2.2.2.2.2.2.2.2.1
theorem dX10_toneByTable_71 : decode cX10_toneByTable 71 = .ok (.istore 4, 2) := dq_g397.2.2.2.2.2.2.2.2.2.2.2.2.2.2.2.2.2.1
theorem dX10_toneByTable_73 : decode cX10_toneByTable 73 = .ok (.iinc 5 1, 3) := dq_g397.2.2.2.2.2.2.2.2.2.2.2.2.2.2.2.2.2.2.1
theorem dX10_toneByTable_76 : decode cX10_toneByTable 76 = .ok (.goto (-68), 3) := dq_g397.2.2.2.2.2.2.2.2.2.2.2.2.2.2.2.2.2.2.2.1
theorem dX10_toneByTable_79 : decode cX10_toneByTable 79 = .ok (.iload 4, 2) := dq_g397.2.2.2.2.2.2.2.2.2.2.2.2.2.2.2.2.2.2.2.2.1
theorem dX10_toneByTable_81 : decode cX10_toneByTable 81 = .ok (.ifCond .ne 7, 3) := dq_g397.2.2.2.2.2.2.2.2.2.2.2.2.2.2.2.2.2.2.2.2.2.1
theorem dX10_toneByTable_84 : decode cX10_toneByTable 84 = .ok (.iconst 0, 1) := dq_g397.2.2.2.2.2.2.2.2.2.2.2.2.2.2.2.2.2.2.2.2.2.2.1
theorem dX10_toneByTable_85 : decode cX10_toneByTable 85 = .ok (.goto 11, 3) := dq_g397.2.2.2.2.2.2.2.2.2.2.2.2.2.2.2.2.2.2.2.2.2.2.2.1
theorem dX10_toneByTable_88 : decode cX10_toneByTable 88 = .ok (.sipush 1000, 3) := dq_g397.2.2.2.2.2.2.2.2.2.2.2.2.2.2.2.2.2.2.2.2.2.2.2.2.1
theorem dX10_toneByTable_91 : decode cX10_toneByTable 91 = .ok (.iload_n 3, 1) := dq_g397.2.2.2.2.2.2.2.2.2.2.2.2.2.2.2.2.2.2.2.2.2.2.2.2.2.1
theorem dX10_toneByTable_92 : decode cX10_toneByTable 92 = .ok (.imul, 1) := dq_g397.2.2.2.2.2.2.2.2.2.2.2.2.2.2.2.2.2.2.2.2.2.2.2.2.2.2.1
theorem dX10_toneByTable_93 : decode cX10_toneByTable 93 = .ok (.iload 4, 2) := dq_g397.2.2.2.2.2.2.2.2.2.2.2.2.2.2.2.2.2.2.2.2.2.2.2.2.2.2.2.1
theorem dX10_toneByTable_95 : decode cX10_toneByTable 95 = .ok (.idiv, 1) := dq_g397.2.2.2.2.2.2.2.2.2.2.2.2.2.2.2.2.2.2.2.2.2.2.2.2.2.2.2.2.1
theorem dX10_toneByTable_96 : decode cX10_toneByTable 96 = .ok (.ireturn, 1) := dq_g397.2.2.2.2.2.2.2.2.2.2.2.2.2.2.2.2.2.2.2.2.2.2.2.2.2.2.2.2.2.1
theorem dq_g398 : decode cX10_wouldBe 0 = .ok (.iconst 2, 1) ∧ decode cX10_wouldBe 1 = .ok (.istore_n 2, 1) ∧ decode cX10_wouldBe 2 = .ok (.iconst 0, 1) ∧ decode cX10_wouldBe 3 = .ok (.istore_n 3, 1) ∧ decode cX10_wouldBe 4 = .ok (.iload_n 3, 1) ∧ decode cX10_wouldBe 5 = .ok (.iconst 3, 1) ∧ decode cX10_wouldBe 6 = .ok (.if_icmp .ge 65, 3) ∧ decode cX10_wouldBe 9 = .ok (.aload_n 0, 1) ∧ decode cX10_wouldBe 10 = .ok (.getfield 29, 3) ∧ decode cX10_wouldBe 13 = .ok (.iconst 3, 1) ∧ decode cX10_wouldBe 14 = .ok (.iload_n 1, 1) ∧ decode cX10_wouldBe 15 = .ok (.imul, 1) ∧ decode cX10_wouldBe 16 = .ok (.iload_n 3, 1) ∧ decode cX10_wouldBe 17 = .ok (.iadd, 1) ∧ decode cX10_wouldBe 18 = .ok (.iaload, 1) ∧ decode cX10_wouldBe 19 = .ok (.istore 4, 2) ∧ decode cX10_wouldBe 21 = .ok (.iload 4, 2) ∧ decode cX10_wouldBe 23 = .ok (.ifCond .ne 6, 3) ∧ decode cX10_wouldBe 26 = .ok (.goto 39, 3) ∧ decode cX10_wouldBe 29 = .ok (.aload_n 0, 1) ∧ decode cX10_wouldBe 30 = .ok (.iload_n 1, 1) ∧ decode cX10_wouldBe 31 = .ok (.iload_n 3, 1) ∧ decode cX10_wouldBe 32 = .ok (.invokevirtual 356, 3) ∧ decode cX10_wouldBe 35 = .ok (.istore 5, 2) ∧ decode cX10_wouldBe 37 = .ok (.iload 5, 2) ∧ decode cX10_wouldBe 39 = .ok (.iload 4, 2) ∧ decode cX10_wouldBe 41 = .ok (.aload_n 0, 1) ∧ decode cX10_wouldBe 42 = .ok (.getfield 7, 3) ∧ decode cX10_wouldBe 45 = .ok (.isub, 1) ∧ decode cX10_wouldBe 46 = .ok (.if_icmp .ge 5, 3) ∧ True := dqC_ok (c := cX10_wouldBe) [(0, 1, some (.iconst 2)), (1, 1, some (.istore_n 2)), (2, 1, some (.iconst 0)), (3, 1, some (.istore_n 3)), (4, 1, some (.iload_n 3)), (5, 1, some (.iconst 3)), (6, 3, some (.if_icmp .ge 65)), (9, 1, some (.aload_n 0)), (10, 3, some (.getfield 29)), (13, 1, some (.iconst 3)), (14, 1, some (.iload_n 1)), (15, 1, some (.imul)), (16, 1, some (.iload_n 3)), (17, 1, some (.iadd)), (18, 1, some (.iaload)), (19, 2, some (.istore 4)), (21, 2, some (.iload 4)), (23, 3, some (.ifCond .ne 6)), (26, 3, some (.goto 39)), (29, 1, some (.aload_n 0)), (30, 1, some (.iload_n 1)), (31, 1, some (.iload_n 3)), (32, 3, some (.invokevirtual 356)), (35, 2, some (.istore 5)), (37, 2, some (.iload 5)), (39, 2, some (.iload 4)), (41, 1, some (.aload_n 0)), (42, 3, some (.getfield 7)), (45, 1, some (.isub)), (46, 3, some (.if_icmp .ge 5))] _ 0 rfl (by decide +kernel)
theorem dX10_wouldBe_0 : decode cX10_wouldBe 0 = .ok (.iconst 2, 1) := dq_g398.1
theorem dX10_wouldBe_1 : decode cX10_wouldBe 1 = .ok (.istore_n 2, 1) := dq_g398.2.1
theorem dX10_wouldBe_2 : decode cX10_wouldBe 2 = .ok (.iconst 0, 1) := dq_g398.2.2.1
theorem dX10_wouldBe_3 : decode cX10_wouldBe 3 = .ok (.istore_n 3, 1) := dq_g398.2.2.2.1
theorem dX10_wouldBe_4 : decode cX10_wouldBe 4 = .ok (.iload_n 3, 1) := dq_g398.2.2.2.2.1
theorem dX10_wouldBe_5 : decode cX10_wouldBe 5 = .ok (.iconst 3, 1) := dq_g398.2.2.2.2.2.1
theorem dX10_wouldBe_6 : decode cX10_wouldBe 6 = .ok (.if_icmp .ge 65, 3) := dq_g398.2.2.2.2.2.2.1
theorem dX10_wouldBe_9 : decode cX10_wouldBe 9 = .ok (.aload_n 0, 1) := dq_g398.2.2.2.2.2.2.2.1
theorem dX10_wouldBe_10 : decode cX10_wouldBe 10 = .ok (.getfield 29, 3) := dq_g398.2.2.2.2.2.2.2.2.1
theorem dX10_wouldBe_13 : decode cX10_wouldBe 13 = .ok (.iconst 3, 1) := dq_g398.2.2.2.2.2.2.2.2.2.1
theorem dX10_wouldBe_14 : decode cX10_wouldBe 14 = .ok (.iload_n 1, 1) := dq_g398.2.2.2.2.2.2.2.2.2.2.1
theorem dX10_wouldBe_15 : decode cX10_wouldBe 15 = .ok (.imul, 1) := dq_g398.2.2.2.2.2.2.2.2.2.2.2.1
theorem dX10_wouldBe_16 : decode cX10_wouldBe 16 = .ok (.iload_n 3, 1) := dq_g398.2.2.2.2.2.2.2.2.2.2.2.2.1
theorem dX10_wouldBe_17 : decode cX10_wouldBe 17 = .ok (.iadd, 1) := dq_g398.2.2.2.2.2.2.2.2.2.2.2.2.2.1
theorem dX10_wouldBe_18 : decode cX10_wouldBe 18 = .ok (.iaload, 1) := dq_g398.2.2.2.2.2.2.2.2.2.2.2.2.2.2.1
theorem dX10_wouldBe_19 : decode cX10_wouldBe 19 = .ok (.istore 4, 2) := dq_g398.2.2.2.2.2.2.2.2.2.2.2.2.2.2.2.1
theorem dX10_wouldBe_21 : decode cX10_wouldBe 21 = .ok (.iload 4, 2) := dq_g398.2.2.2.2.2.2.2.2.2.2.2.2.2.2.2.2.1
theorem dX10_wouldBe_23 : decode cX10_wouldBe 23 = .ok (.ifCond .ne 6, 3) := dq_g398.2.2.2.2.2.2.2.2.2.2.2.2.2.2.2.2.2.1
theorem dX10_wouldBe_26 : decode cX10_wouldBe 26 = .ok (.goto 39, 3) := dq_g398.2.2.2.2.2.2.2.2.2.2.2.2.2.2.2.2.2.2.1
theorem dX10_wouldBe_29 : decode cX10_wouldBe 29 = .ok (.aload_n 0, 1) := dq_g398.2.2.2.2.2.2.2.2.2.2.2.2.2.2.2.2.2.2.2.1
theorem dX10_wouldBe_30 : decode cX10_wouldBe 30 = .ok (.iload_n 1, 1) := dq_g398.2.2.2.2.2.2.2.2.2.2.2.2.2.2.2.2.2.2.2.2.1
theorem dX10_wouldBe_31 : decode cX10_wouldBe 31 = .ok (.iload_n 3, 1) := dq_g398.2.2.2.2.2.2.2.2.2.2.2.2.2.2.2.2.2.2.2.2.2.1
theorem dX10_wouldBe_32 : decode cX10_wouldBe 32 = .ok (.invokevirtual 356, 3) := dq_g398.2.2.2.2.2.2.2.2.2.2.2.2.2.2.2.2.2.2.2.2.2.2.1
theorem dX10_wouldBe_35 : decode cX10_wouldBe 35 = .ok (.istore 5, 2) := dq_g398.2.2.2.2.2.2.2.2.2.2.2.2.2.2.2.2.2.2.2.2.2.2.2.1
theorem dX10_wouldBe_37 : decode cX10_wouldBe 37 = .ok (.iload 5, 2) := dq_g398.2.2.2.2.2.2.2.2.2.2.2.2.2.2.2.2.2.2.2.2.2.2.2.2.1
theorem dX10_wouldBe_39 : decode cX10_wouldBe 39 = .ok (.iload 4, 2) := dq_g398.2.2.2.2.2.2.2.2.2.2.2.2.2.2.2.2.2.2.2.2.2.2.2.2.2.1
theorem dX10_wouldBe_41 : decode cX10_wouldBe 41 = .ok (.aload_n 0, 1) := dq_g398.2.2.2.2.2.2.2.2.2.2.2.2.2.2.2.2.2.2.2.2.2.2.2.2.2.2.1
theorem dX10_wouldBe_42 : decode cX10_wouldBe 42 = .ok (.getfield 7, 3) := dq_g398.2.2.2.2.2.2.2.2.2.2.2.2.2.2.2.2.2.2.2.2.2.2.2.2.2.2.2.1
theorem dX10_wouldBe_45 : decode cX10_wouldBe 45 = .ok (.isub, 1) := dq_g398.2.2.2.2.2.2.2.2.2.2.2.2.2.2.2.2.2.2.2.2.2.2.2.2.2.2.2.2.1
theorem dX10_wouldBe_46 : decode cX10_wouldBe 46 = .ok (.if_icmp .ge 5, 3) := dq_g398.2.2.2.2.2.2.2.2.2.2.2.2.2.2.2.2.2.2.2.2.2.2.2.2.2.2.2.2.2.1
theorem dq_g399 : decode cX10_wouldBe 49 = .ok (.iconst 0, 1) ∧ decode cX10_wouldBe 50 = .ok (.ireturn, 1) ∧ decode cX10_wouldBe 51 = .ok (.iload 5, 2) ∧ decode cX10_wouldBe 53 = .ok (.iload 4, 2) ∧ decode cX10_wouldBe 55 = .ok (.aload_n 0, 1) ∧ decode cX10_wouldBe 56 = .ok (.getfield 7, 3) ∧ decode cX10_wouldBe 59 = .ok (.iadd, 1) ∧ decode cX10_wouldBe 60 = .ok (.if_icmp .le 5, 3) ∧ decode cX10_wouldBe 63 = .ok (.iconst 1, 1) ∧ decode cX10_wouldBe 64 = .ok (.istore_n 2, 1) ∧ decode cX10_wouldBe 65 = .ok (.iinc 3 1, 3) ∧ decode cX10_wouldBe 68 = .ok (.goto (-64), 3) ∧ decode cX10_wouldBe 71 = .ok (.iload_n 2, 1) ∧ decode cX10_wouldBe 72 = .ok (.ireturn, 1) ∧ True := dqC_ok (c := cX10_wouldBe) [(49, 1, some (.iconst 0)), (50, 1, some (.ireturn)), (51, 2, some (.iload 5)), (53, 2, some (.iload 4)), (55, 1, some (.aload_n 0)), (56, 3, some (.getfield 7)), (59, 1, some (.iadd)), (60, 3, some (.if_icmp .le 5)), (63, 1, some (.iconst 1)), (64, 1, some (.istore_n 2)), (65, 3, some (.iinc 3 1)), (68, 3, some (.goto (-64))), (71, 1, some (.iload_n 2)), (72, 1, some (.ireturn))] _ 49 rfl (by decide +kernel)
theorem dX10_wouldBe_49 : decode cX10_wouldBe 49 = .ok (.iconst 0, 1) := dq_g399.1
theorem dX10_wouldBe_50 : decode cX10_wouldBe 50 = .ok (.ireturn, 1) := dq_g399.2.1
theorem dX10_wouldBe_51 : decode cX10_wouldBe 51 = .ok (.iload 5, 2) := dq_g399.2.2.1
theorem dX10_wouldBe_53 : decode cX10_wouldBe 53 = .ok (.iload 4, 2) := dq_g399.2.2.2.1
theorem dX10_wouldBe_55 : decode cX10_wouldBe 55 = .ok (.aload_n 0, 1) := dq_g399.2.2.2.2.1
theorem dX10_wouldBe_56 : decode cX10_wouldBe 56 = .ok (.getfield 7, 3) := dq_g399.2.2.2.2.2.1
theorem dX10_wouldBe_59 : decode cX10_wouldBe 59 = .ok (.iadd, 1) := dq_g399.2.2.2.2.2.2.1
theorem dX10_wouldBe_60 : decode cX10_wouldBe 60 = .ok (.if_icmp .le 5, 3) := dq_g399.2.2.2.2.2.2.2.1
theorem dX10_wouldBe_63 : decode cX10_wouldBe 63 = .ok (.iconst 1, 1) := dq_g399.2.2.2.2.2.2.2.2.1
theorem dX10_wouldBe_64 : decode cX10_wouldBe 64 = .ok (.istore_n 2, 1) := dq_g399.2.2.2.2.2.2.2.2.2.1
theorem dX10_wouldBe_65 : decode cX10_wouldBe 65 = .ok (.iinc 3 1, 3) := dq_g399.2.2.2.2.2.2.2.2.2.2.1
theorem dX10_wouldBe_68 : decode cX10_wouldBe 68 = .ok (.goto (-64), 3) := dq_g399.2.2.2.2.2.2.2.2.2.2.2.1
theorem dX10_wouldBe_71 : decode cX10_wouldBe 71 = .ok (.iload_n 2, 1) := dq_g399.2.2.2.2.2.2.2.2.2.2.2.2.1
theorem dX10_wouldBe_72 : decode cX10_wouldBe 72 = .ok (.ireturn, 1) := dq_g399.2.2.2.2.2.2.2.2.2.2.2.2.2.1
theorem dq_g400 : decode cX10_does 0 = .ok (.iconst 0, 1) ∧ decode cX10_does 1 = .ok (.istore_n 3, 1) ∧ decode cX10_does 2 = .ok (.iload_n 3, 1) ∧ decode cX10_does 3 = .ok (.bipush 8, 2) ∧ decode cX10_does 5 = .ok (.if_icmp .ge 16, 3) ∧ decode cX10_does 8 = .ok (.aload_n 0, 1) ∧ decode cX10_does 9 = .ok (.getfield 113, 3) ∧ decode cX10_does 12 = .ok (.iload_n 3, 1) ∧ decode cX10_does 13 = .ok (.iconst 0, 1) ∧ decode cX10_does 14 = .ok (.iastore, 1) ∧ decode cX10_does 15 = .ok (.iinc 3 1, 3) ∧ decode cX10_does 18 = .ok (.goto (-16), 3) ∧ decode cX10_does 21 = .ok (.aload_n 0, 1) ∧ decode cX10_does 22 = .ok (.iload_n 1, 1) ∧ decode cX10_does 23 = .ok (.invokevirtual 359, 3) ∧ decode cX10_does 26 = .ok (.istore_n 3, 1) ∧ decode cX10_does 27 = .ok (.iconst 0, 1) ∧ decode cX10_does 28 = .ok (.istore 4, 2) ∧ decode cX10_does 30 = .ok (.iload 4, 2) ∧ decode cX10_does 32 = .ok (.iload_n 2, 1) ∧ decode cX10_does 33 = .ok (.if_icmp .ge 70, 3) ∧ decode cX10_does 36 = .ok (.aload_n 0, 1) ∧ decode cX10_does 37 = .ok (.getfield 101, 3) ∧ decode cX10_does 40 = .ok (.iload 4, 2) ∧ decode cX10_does 42 = .ok (.iaload, 1) ∧ decode cX10_does 43 = .ok (.istore 5, 2) ∧ decode cX10_does 45 = .ok (.aload_n 0, 1) ∧ decode cX10_does 46 = .ok (.getfield 113, 3) ∧ decode cX10_does 49 = .ok (.iload 5, 2) ∧ decode cX10_does 51 = .ok (.aload_n 0, 1) ∧ True := dqC_ok (c := cX10_does) [(0, 1, some (.iconst 0)), (1, 1, some (.istore_n 3)), (2, 1, some (.iload_n 3)), (3, 2, some (.bipush 8)), (5, 3, some (.if_icmp .ge 16)), (8, 1, some (.aload_n 0)), (9, 3, some (.getfield 113)), (12, 1, some (.iload_n 3)), (13, 1, some (.iconst 0)), (14, 1, some (.iastore)), (15, 3, some (.iinc 3 1)), (18, 3, some (.goto (-16))), (21, 1, some (.aload_n 0)), (22, 1, some (.iload_n 1)), (23, 3, some (.invokevirtual 359)), (26, 1, some (.istore_n 3)), (27, 1, some (.iconst 0)), (28, 2, some (.istore 4)), (30, 2, some (.iload 4)), (32, 1, some (.iload_n 2)), (33, 3, some (.if_icmp .ge 70)), (36, 1, some (.aload_n 0)), (37, 3, some (.getfield 101)), (40, 2, some (.iload 4)), (42, 1, some (.iaload)), (43, 2, some (.istore 5)), (45, 1, some (.aload_n 0)), (46, 3, some (.getfield 113)), (49, 2, some (.iload 5)), (51, 1, some (.aload_n 0))] _ 0 rfl (by decide +kernel)
theorem dX10_does_0 : decode cX10_does 0 = .ok (.iconst 0, 1) := dq_g400.1
theorem dX10_does_1 : decode cX10_does 1 = .ok (.istore_n 3, 1) := dq_g400.2.1
theorem dX10_does_2 : decode cX10_does 2 = .ok (.iload_n 3, 1) := dq_g400.2.2.1
theorem dX10_does_3 : decode cX10_does 3 = .ok (.bipush 8, 2) := dq_g400.2.2.2.1
theorem dX10_does_5 : decode cX10_does 5 = .ok (.if_icmp .ge 16, 3) := dq_g400.2.2.2.2.1
theorem dX10_does_8 : decode cX10_does 8 = .ok (.aload_n 0, 1) := dq_g400.2.2.2.2.2.1
theorem dX10_does_9 : decode cX10_does 9 = .ok (.getfield 113, 3) := dq_g400.2.2.2.2.2.2.1
theorem dX10_does_12 : decode cX10_does 12 = .ok (.iload_n 3, 1) := dq_g400.2.2.2.2.2.2.2.1
theorem dX10_does_13 : decode cX10_does 13 = .ok (.iconst 0, 1) := dq_g400.2.2.2.2.2.2.2.2.1
theorem dX10_does_14 : decode cX10_does 14 = .ok (.iastore, 1) := dq_g400.2.2.2.2.2.2.2.2.2.1
theorem dX10_does_15 : decode cX10_does 15 = .ok (.iinc 3 1, 3) := dq_g400.2.2.2.2.2.2.2.2.2.2.1
theorem dX10_does_18 : decode cX10_does 18 = .ok (.goto (-16), 3) := dq_g400.2.2.2.2.2.2.2.2.2.2.2.1
theorem dX10_does_21 : decode cX10_does 21 = .ok (.aload_n 0, 1) := dq_g400.2.2.2.2.2.2.2.2.2.2.2.2.1
theorem dX10_does_22 : decode cX10_does 22 = .ok (.iload_n 1, 1) := dq_g400.2.2.2.2.2.2.2.2.2.2.2.2.2.1
theorem dX10_does_23 : decode cX10_does 23 = .ok (.invokevirtual 359, 3) := dq_g400.2.2.2.2.2.2.2.2.2.2.2.2.2.2.1
theorem dX10_does_26 : decode cX10_does 26 = .ok (.istore_n 3, 1) := dq_g400.2.2.2.2.2.2.2.2.2.2.2.2.2.2.2.1
theorem dX10_does_27 : decode cX10_does 27 = .ok (.iconst 0, 1) := dq_g400.2.2.2.2.2.2.2.2.2.2.2.2.2.2.2.2.1
theorem dX10_does_28 : decode cX10_does 28 = .ok (.istore 4, 2) := dq_g400.2.2.2.2.2.2.2.2.2.2.2.2.2.2.2.2.2.1
theorem dX10_does_30 : decode cX10_does 30 = .ok (.iload 4, 2) := dq_g400.2.2.2.2.2.2.2.2.2.2.2.2.2.2.2.2.2.2.1
theorem dX10_does_32 : decode cX10_does 32 = .ok (.iload_n 2, 1) := dq_g400.2.2.2.2.2.2.2.2.2.2.2.2.2.2.2.2.2.2.2.1
theorem dX10_does_33 : decode cX10_does 33 = .ok (.if_icmp .ge 70, 3) := dq_g400.2.2.2.2.2.2.2.2.2.2.2.2.2.2.2.2.2.2.2.2.1
theorem dX10_does_36 : decode cX10_does 36 = .ok (.aload_n 0, 1) := dq_g400.2.2.2.2.2.2.2.2.2.2.2.2.2.2.2.2.2.2.2.2.2.1
theorem dX10_does_37 : decode cX10_does 37 = .ok (.getfield 101, 3) := dq_g400.2.2.2.2.2.2.2.2.2.2.2.2.2.2.2.2.2.2.2.2.2.2.1
theorem dX10_does_40 : decode cX10_does 40 = .ok (.iload 4, 2) := dq_g400.2.2.2.2.2.2.2.2.2.2.2.2.2.2.2.2.2.2.2.2.2.2.2.1
theorem dX10_does_42 : decode cX10_does 42 = .ok (.iaload, 1) := dq_g400.2.2.2.2.2.2.2.2.2.2.2.2.2.2.2.2.2.2.2.2.2.2.2.2.1
theorem dX10_does_43 : decode cX10_does 43 = .ok (.istore 5, 2) := dq_g400.2.2.2.2.2.2.2.2.2.2.2.2.2.2.2.2.2.2.2.2.2.2.2.2.2.1
theorem dX10_does_45 : decode cX10_does 45 = .ok (.aload_n 0, 1) := dq_g400.2.2.2.2.2.2.2.2.2.2.2.2.2.2.2.2.2.2.2.2.2.2.2.2.2.2.1
theorem dX10_does_46 : decode cX10_does 46 = .ok (.getfield 113, 3) := dq_g400.2.2.2.2.2.2.2.2.2.2.2.2.2.2.2.2.2.2.2.2.2.2.2.2.2.2.2.1
theorem dX10_does_49 : decode cX10_does 49 = .ok (.iload 5, 2) := dq_g400.2.2.2.2.2.2.2.2.2.2.2.2.2.2.2.2.2.2.2.2.2.2.2.2.2.2.2.2.1
theorem dX10_does_51 : decode cX10_does 51 = .ok (.aload_n 0, 1) := dq_g400.2.2.2.2.2.2.2.2.2.2.2.2.2.2.2.2.2.2.2.2.2.2.2.2.2.2.2.2.2.1
theorem dq_g401 : decode cX10_does 52 = .ok (.getfield 113, 3) ∧ decode cX10_does 55 = .ok (.iload 5, 2) ∧ decode cX10_does 57 = .ok (.iaload, 1) ∧ decode cX10_does 58 = .ok (.iconst 1, 1) ∧ decode cX10_does 59 = .ok (.iadd, 1) ∧ decode cX10_does 60 = .ok (.iastore, 1) ∧ decode cX10_does 61 = .ok (.aload_n 0, 1) ∧ decode cX10_does 62 = .ok (.getfield 17, 3) ∧ decode cX10_does 65 = .ok (.bipush 16, 2) ∧ decode cX10_does 67 = .ok (.iload_n 1, 1) ∧ decode cX10_does 68 = .ok (.imul, 1) ∧ decode cX10_does 69 = .ok (.iload 5, 2) ∧ decode cX10_does 71 = .ok (.iadd, 1) ∧ decode cX10_does 72 = .ok (.iaload, 1) ∧ decode cX10_does 73 = .ok (.aload_n 0, 1) ∧ decode cX10_does 74 = .ok (.getfield 113, 3) ∧ decode cX10_does 77 = .ok (.iload 5, 2) ∧ decode cX10_does 79 = .ok (.iaload, 1) ∧ decode cX10_does 80 = .ok (.if_icmp .gt 5, 3) ∧ decode cX10_does 83 = .ok (.iconst 0, 1) ∧ decode cX10_does 84 = .ok (.ireturn, 1) ∧ decode cX10_does 85 = .ok (.aload_n 0, 1) ∧ decode cX10_does 86 = .ok (.iload_n 1, 1) ∧ decode cX10_does 87 = .ok (.invokevirtual 359, 3) ∧ decode cX10_does 90 = .ok (.istore_n 3, 1) ∧ decode cX10_does 91 = .ok (.iload_n 3, 1) ∧ decode cX10_does 92 = .ok (.ifCond .ne 5, 3) ∧ decode cX10_does 95 = .ok (.iconst 0, 1) ∧ decode cX10_does 96 = .ok (.ireturn, 1) ∧ decode cX10_does 97 = .ok (.iinc 4 1, 3) ∧ True := dqC_ok (c := cX10_does) [(52, 3, some (.getfield 113)), (55, 2, some (.iload 5)), (57, 1, some (.iaload)), (58, 1, some (.iconst 1)), (59, 1, some (.iadd)), (60, 1, some (.iastore)), (61, 1, some (.aload_n 0)), (62, 3, some (.getfield 17)), (65, 2, some (.bipush 16)), (67, 1, some (.iload_n 1)), (68, 1, some (.imul)), (69, 2, some (.iload 5)), (71, 1, some (.iadd)), (72, 1, some (.iaload)), (73, 1, some (.aload_n 0)), (74, 3, some (.getfield 113)), (77, 2, some (.iload 5)), (79, 1, some (.iaload)), (80, 3, some (.if_icmp .gt 5)), (83, 1, some (.iconst 0)), (84, 1, some (.ireturn)), (85, 1, some (.aload_n 0)), (86, 1, some (.iload_n 1)), (87, 3, some (.invokevirtual 359)), (90, 1, some (.istore_n 3)), (91, 1, some (.iload_n 3)), (92, 3, some (.ifCond .ne 5)), (95, 1, some (.iconst 0)), (96, 1, some (.ireturn)), (97, 3, some (.iinc 4 1))] _ 52 rfl (by decide +kernel)
theorem dX10_does_52 : decode cX10_does 52 = .ok (.getfield 113, 3) := dq_g401.1
theorem dX10_does_55 : decode cX10_does 55 = .ok (.iload 5, 2) := dq_g401.2.1
theorem dX10_does_57 : decode cX10_does 57 = .ok (.iaload, 1) := dq_g401.2.2.1
theorem dX10_does_58 : decode cX10_does 58 = .ok (.iconst 1, 1) := dq_g401.2.2.2.1
theorem dX10_does_59 : decode cX10_does 59 = .ok (.iadd, 1) := dq_g401.2.2.2.2.1
theorem dX10_does_60 : decode cX10_does 60 = .ok (.iastore, 1) := dq_g401.2.2.2.2.2.1
theorem dX10_does_61 : decode cX10_does 61 = .ok (.aload_n 0, 1) := dq_g401.2.2.2.2.2.2.1
theorem dX10_does_62 : decode cX10_does 62 = .ok (.getfield 17, 3) := dq_g401.2.2.2.2.2.2.2.1
theorem dX10_does_65 : decode cX10_does 65 = .ok (.bipush 16, 2) := dq_g401.2.2.2.2.2.2.2.2.1
theorem dX10_does_67 : decode cX10_does 67 = .ok (.iload_n 1, 1) := dq_g401.2.2.2.2.2.2.2.2.2.1
theorem dX10_does_68 : decode cX10_does 68 = .ok (.imul, 1) := dq_g401.2.2.2.2.2.2.2.2.2.2.1
theorem dX10_does_69 : decode cX10_does 69 = .ok (.iload 5, 2) := dq_g401.2.2.2.2.2.2.2.2.2.2.2.1
theorem dX10_does_71 : decode cX10_does 71 = .ok (.iadd, 1) := dq_g401.2.2.2.2.2.2.2.2.2.2.2.2.1
theorem dX10_does_72 : decode cX10_does 72 = .ok (.iaload, 1) := dq_g401.2.2.2.2.2.2.2.2.2.2.2.2.2.1
theorem dX10_does_73 : decode cX10_does 73 = .ok (.aload_n 0, 1) := dq_g401.2.2.2.2.2.2.2.2.2.2.2.2.2.2.1
theorem dX10_does_74 : decode cX10_does 74 = .ok (.getfield 113, 3) := dq_g401.2.2.2.2.2.2.2.2.2.2.2.2.2.2.2.1
theorem dX10_does_77 : decode cX10_does 77 = .ok (.iload 5, 2) := dq_g401.2.2.2.2.2.2.2.2.2.2.2.2.2.2.2.2.1
theorem dX10_does_79 : decode cX10_does 79 = .ok (.iaload, 1) := dq_g401.2.2.2.2.2.2.2.2.2.2.2.2.2.2.2.2.2.1
theorem dX10_does_80 : decode cX10_does 80 = .ok (.if_icmp .gt 5, 3) := dq_g401.2.2.2.2.2.2.2.2.2.2.2.2.2.2.2.2.2.2.1
theorem dX10_does_83 : decode cX10_does 83 = .ok (.iconst 0, 1) := dq_g401.2.2.2.2.2.2.2.2.2.2.2.2.2.2.2.2.2.2.2.1
theorem dX10_does_84 : decode cX10_does 84 = .ok (.ireturn, 1) := dq_g401.2.2.2.2.2.2.2.2.2.2.2.2.2.2.2.2.2.2.2.2.1
theorem dX10_does_85 : decode cX10_does 85 = .ok (.aload_n 0, 1) := dq_g401.2.2.2.2.2.2.2.2.2.2.2.2.2.2.2.2.2.2.2.2.2.1
theorem dX10_does_86 : decode cX10_does 86 = .ok (.iload_n 1, 1) := dq_g401.2.2.2.2.2.2.2.2.2.2.2.2.2.2.2.2.2.2.2.2.2.2.1
theorem dX10_does_87 : decode cX10_does 87 = .ok (.invokevirtual 359, 3) := dq_g401.2.2.2.2.2.2.2.2.2.2.2.2.2.2.2.2.2.2.2.2.2.2.2.1
theorem dX10_does_90 : decode cX10_does 90 = .ok (.istore_n 3, 1) := dq_g401.2.2.2.2.2.2.2.2.2.2.2.2.2.2.2.2.2.2.2.2.2.2.2.2.1
theorem dX10_does_91 : decode cX10_does 91 = .ok (.iload_n 3, 1) := dq_g401.2.2.2.2.2.2.2.2.2.2.2.2.2.2.2.2.2.2.2.2.2.2.2.2.2.1
theorem dX10_does_92 : decode cX10_does 92 = .ok (.ifCond .ne 5, 3) := dq_g401.2.2.2.2.2.2.2.2.2.2.2.2.2.2.2.2.2.2.2.2.2.2.2.2.2.2.1
theorem dX10_does_95 : decode cX10_does 95 = .ok (.iconst 0, 1) := dq_g401.2.2.2.2.2.2.2.2.2.2.2.2.2.2.2.2.2.2.2.2.2.2.2.2.2.2.2.1
theorem dX10_does_96 : decode cX10_does 96 = .ok (.ireturn, 1) := dq_g401.2.2.2.2.2.2.2.2.2.2.2.2.2.2.2.2.2.2.2.2.2.2.2.2.2.2.2.2.1
theorem dX10_does_97 : decode cX10_does 97 = .ok (.iinc 4 1, 3) := dq_g401.2.2.2.2.2.2.2.2.2.2.2.2.2.2.2.2.2.2.2.2.2.2.2.2.2.2.2.2.2.1
theorem dq_g402 : decode cX10_does 100 = .ok (.goto (-70), 3) ∧ decode cX10_does 103 = .ok (.iload_n 3, 1) ∧ decode cX10_does 104 = .ok (.iconst 2, 1) ∧ decode cX10_does 105 = .ok (.if_icmp .ne 7, 3) ∧ decode cX10_does 108 = .ok (.iconst 1, 1) ∧ decode cX10_does 109 = .ok (.goto 4, 3) ∧ decode cX10_does 112 = .ok (.iconst 0, 1) ∧ decode cX10_does 113 = .ok (.ireturn, 1) ∧ True := dqC_ok (c := cX10_does) [(100, 3, some (.goto (-70))), (103, 1, some (.iload_n 3)), (104, 1, some (.iconst 2)), (105, 3, some (.if_icmp .ne 7)), (108, 1, some (.iconst 1)), (109, 3, some (.goto 4)), (112, 1, some (.iconst 0)), (113, 1, some (.ireturn))] _ 100 rfl (by decide +kernel)
theorem dX10_does_100 : decode cX10_does 100 = .ok (.goto (-70), 3) := dq_g402.1
theorem dX10_does_103 : decode cX10_does 103 = .ok (.iload_n 3, 1) := dq_g402.2.1
theorem dX10_does_104 : decode cX10_does 104 = .ok (.iconst 2, 1) := dq_g402.2.2.1
theorem dX10_does_105 : decode cX10_does 105 = .ok (.if_icmp .ne 7, 3) := dq_g402.2.2.2.1
theorem dX10_does_108 : decode cX10_does 108 = .ok (.iconst 1, 1) := dq_g402.2.2.2.2.1
theorem dX10_does_109 : decode cX10_does 109 = .ok (.goto 4, 3) := dq_g402.2.2.2.2.2.1
theorem dX10_does_112 : decode cX10_does 112 = .ok (.iconst 0, 1) := dq_g402.2.2.2.2.2.2.1
theorem dX10_does_113 : decode cX10_does 113 = .ok (.ireturn, 1) := dq_g402.2.2.2.2.2.2.2.1
theorem dq_g403 : decode cX10_goesOn 0 = .ok (.iload_n 1, 1) ∧ decode cX10_goesOn 1 = .ok (.iconst 1, 1) ∧ decode cX10_goesOn 2 = .ok (.isub, 1) ∧ decode cX10_goesOn 3 = .ok (.istore_n 3, 1) ∧ decode cX10_goesOn 4 = .ok (.iload_n 3, 1) ∧ decode cX10_goesOn 5 = .ok (.ifCond .lt 29, 3) ∧ decode cX10_goesOn 8 = .ok (.aload_n 0, 1) ∧ decode cX10_goesOn 9 = .ok (.getfield 101, 3) ∧ decode cX10_goesOn 12 = .ok (.iload_n 3, 1) ∧ decode cX10_goesOn 13 = .ok (.iaload, 1) ∧ decode cX10_goesOn 14 = .ok (.iload_n 2, 1) ∧ decode cX10_goesOn 15 = .ok (.iconst 1, 1) ∧ decode cX10_goesOn 16 = .ok (.isub, 1) ∧ decode cX10_goesOn 17 = .ok (.if_icmp .ne 17, 3) ∧ decode cX10_goesOn 20 = .ok (.aload_n 0, 1) ∧ decode cX10_goesOn 21 = .ok (.getfield 101, 3) ∧ decode cX10_goesOn 24 = .ok (.iload_n 3, 1) ∧ decode cX10_goesOn 25 = .ok (.iconst 0, 1) ∧ decode cX10_goesOn 26 = .ok (.iastore, 1) ∧ decode cX10_goesOn 27 = .ok (.iload_n 3, 1) ∧ decode cX10_goesOn 28 = .ok (.iconst 1, 1) ∧ decode cX10_goesOn 29 = .ok (.isub, 1) ∧ decode cX10_goesOn 30 = .ok (.istore_n 3, 1) ∧ decode cX10_goesOn 31 = .ok (.goto (-27), 3) ∧ decode cX10_goesOn 34 = .ok (.iload_n 3, 1) ∧ decode cX10_goesOn 35 = .ok (.ifCond .ge 5, 3) ∧ decode cX10_goesOn 38 = .ok (.iconst 0, 1) ∧ decode cX10_goesOn 39 = .ok (.ireturn, 1) ∧ decode cX10_goesOn 40 = .ok (.aload_n 0, 1) ∧ decode cX10_goesOn 41 = .ok (.getfield 101, 3) ∧ True := dqC_ok (c := cX10_goesOn) [(0, 1, some (.iload_n 1)), (1, 1, some (.iconst 1)), (2, 1, some (.isub)), (3, 1, some (.istore_n 3)), (4, 1, some (.iload_n 3)), (5, 3, some (.ifCond .lt 29)), (8, 1, some (.aload_n 0)), (9, 3, some (.getfield 101)), (12, 1, some (.iload_n 3)), (13, 1, some (.iaload)), (14, 1, some (.iload_n 2)), (15, 1, some (.iconst 1)), (16, 1, some (.isub)), (17, 3, some (.if_icmp .ne 17)), (20, 1, some (.aload_n 0)), (21, 3, some (.getfield 101)), (24, 1, some (.iload_n 3)), (25, 1, some (.iconst 0)), (26, 1, some (.iastore)), (27, 1, some (.iload_n 3)), (28, 1, some (.iconst 1)), (29, 1, some (.isub)), (30, 1, some (.istore_n 3)), (31, 3, some (.goto (-27))), (34, 1, some (.iload_n 3)), (35, 3, some (.ifCond .ge 5)), (38, 1, some (.iconst 0)), (39, 1, some (.ireturn)), (40, 1, some (.aload_n 0)), (41, 3, some (.getfield 101))] _ 0 rfl (by decide +kernel)
theorem dX10_goesOn_0 : decode cX10_goesOn 0 = .ok (.iload_n 1, 1) := dq_g403.1
theorem dX10_goesOn_1 : decode cX10_goesOn 1 = .ok (.iconst 1, 1) := dq_g403.2.1
theorem dX10_goesOn_2 : decode cX10_goesOn 2 = .ok (.isub, 1) := dq_g403.2.2.1
theorem dX10_goesOn_3 : decode cX10_goesOn 3 = .ok (.istore_n 3, 1) := dq_g403.2.2.2.1
theorem dX10_goesOn_4 : decode cX10_goesOn 4 = .ok (.iload_n 3, 1) := dq_g403.2.2.2.2.1
theorem dX10_goesOn_5 : decode cX10_goesOn 5 = .ok (.ifCond .lt 29, 3) := dq_g403.2.2.2.2.2.1
theorem dX10_goesOn_8 : decode cX10_goesOn 8 = .ok (.aload_n 0, 1) := dq_g403.2.2.2.2.2.2.1
theorem dX10_goesOn_9 : decode cX10_goesOn 9 = .ok (.getfield 101, 3) := dq_g403.2.2.2.2.2.2.2.1
theorem dX10_goesOn_12 : decode cX10_goesOn 12 = .ok (.iload_n 3, 1) := dq_g403.2.2.2.2.2.2.2.2.1
theorem dX10_goesOn_13 : decode cX10_goesOn 13 = .ok (.iaload, 1) := dq_g403.2.2.2.2.2.2.2.2.2.1
theorem dX10_goesOn_14 : decode cX10_goesOn 14 = .ok (.iload_n 2, 1) := dq_g403.2.2.2.2.2.2.2.2.2.2.1
theorem dX10_goesOn_15 : decode cX10_goesOn 15 = .ok (.iconst 1, 1) := dq_g403.2.2.2.2.2.2.2.2.2.2.2.1
theorem dX10_goesOn_16 : decode cX10_goesOn 16 = .ok (.isub, 1) := dq_g403.2.2.2.2.2.2.2.2.2.2.2.2.1
theorem dX10_goesOn_17 : decode cX10_goesOn 17 = .ok (.if_icmp .ne 17, 3) := dq_g403.2.2.2.2.2.2.2.2.2.2.2.2.2.1
theorem dX10_goesOn_20 : decode cX10_goesOn 20 = .ok (.aload_n 0, 1) := dq_g403.2.2.2.2.2.2.2.2.2.2.2.2.2.2.1
theorem dX10_goesOn_21 : decode cX10_goesOn 21 = .ok (.getfield 101, 3) := dq_g403.2.2.2.2.2.2.2.2.2.2.2.2.2.2.2.1
theorem dX10_goesOn_24 : decode cX10_goesOn 24 = .ok (.iload_n 3, 1) := dq_g403.2.2.2.2.2.2.2.2.2.2.2.2.2.2.2.2.1
theorem dX10_goesOn_25 : decode cX10_goesOn 25 = .ok (.iconst 0, 1) := dq_g403.2.2.2.2.2.2.2.2.2.2.2.2.2.2.2.2.2.1
theorem dX10_goesOn_26 : decode cX10_goesOn 26 = .ok (.iastore, 1) := dq_g403.2.2.2.2.2.2.2.2.2.2.2.2.2.2.2.2.2.2.1
theorem dX10_goesOn_27 : decode cX10_goesOn 27 = .ok (.iload_n 3, 1) := dq_g403.2.2.2.2.2.2.2.2.2.2.2.2.2.2.2.2.2.2.2.1
theorem dX10_goesOn_28 : decode cX10_goesOn 28 = .ok (.iconst 1, 1) := dq_g403.2.2.2.2.2.2.2.2.2.2.2.2.2.2.2.2.2.2.2.2.1
theorem dX10_goesOn_29 : decode cX10_goesOn 29 = .ok (.isub, 1) := dq_g403.2.2.2.2.2.2.2.2.2.2.2.2.2.2.2.2.2.2.2.2.2.1
theorem dX10_goesOn_30 : decode cX10_goesOn 30 = .ok (.istore_n 3, 1) := dq_g403.2.2.2.2.2.2.2.2.2.2.2.2.2.2.2.2.2.2.2.2.2.2.1
theorem dX10_goesOn_31 : decode cX10_goesOn 31 = .ok (.goto (-27), 3) := dq_g403.2.2.2.2.2.2.2.2.2.2.2.2.2.2.2.2.2.2.2.2.2.2.2.1
theorem dX10_goesOn_34 : decode cX10_goesOn 34 = .ok (.iload_n 3, 1) := dq_g403.2.2.2.2.2.2.2.2.2.2.2.2.2.2.2.2.2.2.2.2.2.2.2.2.1
theorem dX10_goesOn_35 : decode cX10_goesOn 35 = .ok (.ifCond .ge 5, 3) := dq_g403.2.2.2.2.2.2.2.2.2.2.2.2.2.2.2.2.2.2.2.2.2.2.2.2.2.1
theorem dX10_goesOn_38 : decode cX10_goesOn 38 = .ok (.iconst 0, 1) := dq_g403.2.2.2.2.2.2.2.2.2.2.2.2.2.2.2.2.2.2.2.2.2.2.2.2.2.2.1
theorem dX10_goesOn_39 : decode cX10_goesOn 39 = .ok (.ireturn, 1) := dq_g403.2.2.2.2.2.2.2.2.2.2.2.2.2.2.2.2.2.2.2.2.2.2.2.2.2.2.2.1
theorem dX10_goesOn_40 : decode cX10_goesOn 40 = .ok (.aload_n 0, 1) := dq_g403.2.2.2.2.2.2.2.2.2.2.2.2.2.2.2.2.2.2.2.2.2.2.2.2.2.2.2.2.1
theorem dX10_goesOn_41 : decode cX10_goesOn 41 = .ok (.getfield 101, 3) := dq_g403.2.2.2.2.2.2.2.2.2.2.2.2.2.2.2.2.2.2.2.2.2.2.2.2.2.2.2.2.2.1
theorem dq_g404 : decode cX10_goesOn 44 = .ok (.iload_n 3, 1) ∧ decode cX10_goesOn 45 = .ok (.aload_n 0, 1) ∧ decode cX10_goesOn 46 = .ok (.getfield 101, 3) ∧ decode cX10_goesOn 49 = .ok (.iload_n 3, 1) ∧ decode cX10_goesOn 50 = .ok (.iaload, 1) ∧ decode cX10_goesOn 51 = .ok (.iconst 1, 1) ∧ decode cX10_goesOn 52 = .ok (.iadd, 1) ∧ decode cX10_goesOn 53 = .ok (.iastore, 1) ∧ decode cX10_goesOn 54 = .ok (.iconst 1, 1) ∧ decode cX10_goesOn 55 = .ok (.ireturn, 1) ∧ True := dqC_ok (c := cX10_goesOn) [(44, 1, some (.iload_n 3)), (45, 1, some (.aload_n 0)), (46, 3, some (.getfield 101)), (49, 1, some (.iload_n 3)), (50, 1, some (.iaload)), (51, 1, some (.iconst 1)), (52, 1, some (.iadd)), (53, 1, some (.iastore)), (54, 1, some (.iconst 1)), (55, 1, some (.ireturn))] _ 44 rfl (by decide +kernel)
theorem dX10_goesOn_44 : decode cX10_goesOn 44 = .ok (.iload_n 3, 1) := dq_g404.1
theorem dX10_goesOn_45 : decode cX10_goesOn 45 = .ok (.aload_n 0, 1) := dq_g404.2.1
theorem dX10_goesOn_46 : decode cX10_goesOn 46 = .ok (.getfield 101, 3) := dq_g404.2.2.1
theorem dX10_goesOn_49 : decode cX10_goesOn 49 = .ok (.iload_n 3, 1) := dq_g404.2.2.2.1
theorem dX10_goesOn_50 : decode cX10_goesOn 50 = .ok (.iaload, 1) := dq_g404.2.2.2.2.1
theorem dX10_goesOn_51 : decode cX10_goesOn 51 = .ok (.iconst 1, 1) := dq_g404.2.2.2.2.2.1
theorem dX10_goesOn_52 : decode cX10_goesOn 52 = .ok (.iadd, 1) := dq_g404.2.2.2.2.2.2.1
theorem dX10_goesOn_53 : decode cX10_goesOn 53 = .ok (.iastore, 1) := dq_g404.2.2.2.2.2.2.2.1
theorem dX10_goesOn_54 : decode cX10_goesOn 54 = .ok (.iconst 1, 1) := dq_g404.2.2.2.2.2.2.2.2.1
theorem dX10_goesOn_55 : decode cX10_goesOn 55 = .ok (.ireturn, 1) := dq_g404.2.2.2.2.2.2.2.2.2.1
theorem dq_g405 : decode cX10_findsFewest 0 = .ok (.aload_n 0, 1) ∧ decode cX10_findsFewest 1 = .ok (.iload_n 1, 1) ∧ decode cX10_findsFewest 2 = .ok (.invokevirtual 362, 3) ∧ decode cX10_findsFewest 5 = .ok (.iconst 0, 1) ∧ decode cX10_findsFewest 6 = .ok (.istore_n 2, 1) ∧ decode cX10_findsFewest 7 = .ok (.iload_n 2, 1) ∧ decode cX10_findsFewest 8 = .ok (.iconst 5, 1) ∧ decode cX10_findsFewest 9 = .ok (.if_icmp .gt 61, 3) ∧ decode cX10_findsFewest 12 = .ok (.iconst 0, 1) ∧ decode cX10_findsFewest 13 = .ok (.istore_n 3, 1) ∧ decode cX10_findsFewest 14 = .ok (.iload_n 3, 1) ∧ decode cX10_findsFewest 15 = .ok (.iload_n 2, 1) ∧ decode cX10_findsFewest 16 = .ok (.if_icmp .ge 16, 3) ∧ decode cX10_findsFewest 19 = .ok (.aload_n 0, 1) ∧ decode cX10_findsFewest 20 = .ok (.getfield 101, 3) ∧ decode cX10_findsFewest 23 = .ok (.iload_n 3, 1) ∧ decode cX10_findsFewest 24 = .ok (.iconst 0, 1) ∧ decode cX10_findsFewest 25 = .ok (.iastore, 1) ∧ decode cX10_findsFewest 26 = .ok (.iinc 3 1, 3) ∧ decode cX10_findsFewest 29 = .ok (.goto (-15), 3) ∧ decode cX10_findsFewest 32 = .ok (.iconst 1, 1) ∧ decode cX10_findsFewest 33 = .ok (.istore_n 3, 1) ∧ decode cX10_findsFewest 34 = .ok (.iload_n 3, 1) ∧ decode cX10_findsFewest 35 = .ok (.ifCond .eq 29, 3) ∧ decode cX10_findsFewest 38 = .ok (.aload_n 0, 1) ∧ decode cX10_findsFewest 39 = .ok (.iload_n 1, 1) ∧ decode cX10_findsFewest 40 = .ok (.iload_n 2, 1) ∧ decode cX10_findsFewest 41 = .ok (.invokevirtual 365, 3) ∧ decode cX10_findsFewest 44 = .ok (.ifCond .eq 5, 3) ∧ decode cX10_findsFewest 47 = .ok (.iload_n 2, 1) ∧ True := dqC_ok (c := cX10_findsFewest) [(0, 1, some (.aload_n 0)), (1, 1, some (.iload_n 1)), (2, 3, some (.invokevirtual 362)), (5, 1, some (.iconst 0)), (6, 1, some (.istore_n 2)), (7, 1, some (.iload_n 2)), (8, 1, some (.iconst 5)), (9, 3, some (.if_icmp .gt 61)), (12, 1, some (.iconst 0)), (13, 1, some (.istore_n 3)), (14, 1, some (.iload_n 3)), (15, 1, some (.iload_n 2)), (16, 3, some (.if_icmp .ge 16)), (19, 1, some (.aload_n 0)), (20, 3, some (.getfield 101)), (23, 1, some (.iload_n 3)), (24, 1, some (.iconst 0)), (25, 1, some (.iastore)), (26, 3, some (.iinc 3 1)), (29, 3, some (.goto (-15))), (32, 1, some (.iconst 1)), (33, 1, some (.istore_n 3)), (34, 1, some (.iload_n 3)), (35, 3, some (.ifCond .eq 29)), (38, 1, some (.aload_n 0)), (39, 1, some (.iload_n 1)), (40, 1, some (.iload_n 2)), (41, 3, some (.invokevirtual 365)), (44, 3, some (.ifCond .eq 5)), (47, 1, some (.iload_n 2))] _ 0 rfl (by decide +kernel)
theorem dX10_findsFewest_0 : decode cX10_findsFewest 0 = .ok (.aload_n 0, 1) := dq_g405.1
theorem dX10_findsFewest_1 : decode cX10_findsFewest 1 = .ok (.iload_n 1, 1) := dq_g405.2.1
theorem dX10_findsFewest_2 : decode cX10_findsFewest 2 = .ok (.invokevirtual 362, 3) := dq_g405.2.2.1
theorem dX10_findsFewest_5 : decode cX10_findsFewest 5 = .ok (.iconst 0, 1) := dq_g405.2.2.2.1
theorem dX10_findsFewest_6 : decode cX10_findsFewest 6 = .ok (.istore_n 2, 1) := dq_g405.2.2.2.2.1
theorem dX10_findsFewest_7 : decode cX10_findsFewest 7 = .ok (.iload_n 2, 1) := dq_g405.2.2.2.2.2.1
theorem dX10_findsFewest_8 : decode cX10_findsFewest 8 = .ok (.iconst 5, 1) := dq_g405.2.2.2.2.2.2.1
theorem dX10_findsFewest_9 : decode cX10_findsFewest 9 = .ok (.if_icmp .gt 61, 3) := dq_g405.2.2.2.2.2.2.2.1
theorem dX10_findsFewest_12 : decode cX10_findsFewest 12 = .ok (.iconst 0, 1) := dq_g405.2.2.2.2.2.2.2.2.1
theorem dX10_findsFewest_13 : decode cX10_findsFewest 13 = .ok (.istore_n 3, 1) := dq_g405.2.2.2.2.2.2.2.2.2.1
theorem dX10_findsFewest_14 : decode cX10_findsFewest 14 = .ok (.iload_n 3, 1) := dq_g405.2.2.2.2.2.2.2.2.2.2.1
theorem dX10_findsFewest_15 : decode cX10_findsFewest 15 = .ok (.iload_n 2, 1) := dq_g405.2.2.2.2.2.2.2.2.2.2.2.1
theorem dX10_findsFewest_16 : decode cX10_findsFewest 16 = .ok (.if_icmp .ge 16, 3) := dq_g405.2.2.2.2.2.2.2.2.2.2.2.2.1
theorem dX10_findsFewest_19 : decode cX10_findsFewest 19 = .ok (.aload_n 0, 1) := dq_g405.2.2.2.2.2.2.2.2.2.2.2.2.2.1
theorem dX10_findsFewest_20 : decode cX10_findsFewest 20 = .ok (.getfield 101, 3) := dq_g405.2.2.2.2.2.2.2.2.2.2.2.2.2.2.1
theorem dX10_findsFewest_23 : decode cX10_findsFewest 23 = .ok (.iload_n 3, 1) := dq_g405.2.2.2.2.2.2.2.2.2.2.2.2.2.2.2.1
theorem dX10_findsFewest_24 : decode cX10_findsFewest 24 = .ok (.iconst 0, 1) := dq_g405.2.2.2.2.2.2.2.2.2.2.2.2.2.2.2.2.1
theorem dX10_findsFewest_25 : decode cX10_findsFewest 25 = .ok (.iastore, 1) := dq_g405.2.2.2.2.2.2.2.2.2.2.2.2.2.2.2.2.2.1
theorem dX10_findsFewest_26 : decode cX10_findsFewest 26 = .ok (.iinc 3 1, 3) := dq_g405.2.2.2.2.2.2.2.2.2.2.2.2.2.2.2.2.2.2.1
theorem dX10_findsFewest_29 : decode cX10_findsFewest 29 = .ok (.goto (-15), 3) := dq_g405.2.2.2.2.2.2.2.2.2.2.2.2.2.2.2.2.2.2.2.1
theorem dX10_findsFewest_32 : decode cX10_findsFewest 32 = .ok (.iconst 1, 1) := dq_g405.2.2.2.2.2.2.2.2.2.2.2.2.2.2.2.2.2.2.2.2.1
theorem dX10_findsFewest_33 : decode cX10_findsFewest 33 = .ok (.istore_n 3, 1) := dq_g405.2.2.2.2.2.2.2.2.2.2.2.2.2.2.2.2.2.2.2.2.2.1
theorem dX10_findsFewest_34 : decode cX10_findsFewest 34 = .ok (.iload_n 3, 1) := dq_g405.2.2.2.2.2.2.2.2.2.2.2.2.2.2.2.2.2.2.2.2.2.2.1
theorem dX10_findsFewest_35 : decode cX10_findsFewest 35 = .ok (.ifCond .eq 29, 3) := dq_g405.2.2.2.2.2.2.2.2.2.2.2.2.2.2.2.2.2.2.2.2.2.2.2.1
theorem dX10_findsFewest_38 : decode cX10_findsFewest 38 = .ok (.aload_n 0, 1) := dq_g405.2.2.2.2.2.2.2.2.2.2.2.2.2.2.2.2.2.2.2.2.2.2.2.2.1
theorem dX10_findsFewest_39 : decode cX10_findsFewest 39 = .ok (.iload_n 1, 1) := dq_g405.2.2.2.2.2.2.2.2.2.2.2.2.2.2.2.2.2.2.2.2.2.2.2.2.2.1
theorem dX10_findsFewest_40 : decode cX10_findsFewest 40 = .ok (.iload_n 2, 1) := dq_g405.2.2.2.2.2.2.2.2.2.2.2.2.2.2.2.2.2.2.2.2.2.2.2.2.2.2.1
theorem dX10_findsFewest_41 : decode cX10_findsFewest 41 = .ok (.invokevirtual 365, 3) := dq_g405.2.2.2.2.2.2.2.2.2.2.2.2.2.2.2.2.2.2.2.2.2.2.2.2.2.2.2.1
theorem dX10_findsFewest_44 : decode cX10_findsFewest 44 = .ok (.ifCond .eq 5, 3) := dq_g405.2.2.2.2.2.2.2.2.2.2.2.2.2.2.2.2.2.2.2.2.2.2.2.2.2.2.2.2.1
theorem dX10_findsFewest_47 : decode cX10_findsFewest 47 = .ok (.iload_n 2, 1) := dq_g405.2.2.2.2.2.2.2.2.2.2.2.2.2.2.2.2.2.2.2.2.2.2.2.2.2.2.2.2.2.1
theorem dq_g406 : decode cX10_findsFewest 48 = .ok (.ireturn, 1) ∧ decode cX10_findsFewest 49 = .ok (.aload_n 0, 1) ∧ decode cX10_findsFewest 50 = .ok (.iload_n 2, 1) ∧ decode cX10_findsFewest 51 = .ok (.aload_n 0, 1) ∧ decode cX10_findsFewest 52 = .ok (.getfield 13, 3) ∧ decode cX10_findsFewest 55 = .ok (.iload_n 1, 1) ∧ decode cX10_findsFewest 56 = .ok (.iaload, 1) ∧ decode cX10_findsFewest 57 = .ok (.invokevirtual 368, 3) ∧ decode cX10_findsFewest 60 = .ok (.istore_n 3, 1) ∧ decode cX10_findsFewest 61 = .ok (.goto (-27), 3) ∧ decode cX10_findsFewest 64 = .ok (.iinc 2 1, 3) ∧ decode cX10_findsFewest 67 = .ok (.goto (-60), 3) ∧ decode cX10_findsFewest 70 = .ok (.iconst (-1), 1) ∧ decode cX10_findsFewest 71 = .ok (.ireturn, 1) ∧ True := dqC_ok (c := cX10_findsFewest) [(48, 1, some (.ireturn)), (49, 1, some (.aload_n 0)), (50, 1, some (.iload_n 2)), (51, 1, some (.aload_n 0)), (52, 3, some (.getfield 13)), (55, 1, some (.iload_n 1)), (56, 1, some (.iaload)), (57, 3, some (.invokevirtual 368)), (60, 1, some (.istore_n 3)), (61, 3, some (.goto (-27))), (64, 3, some (.iinc 2 1)), (67, 3, some (.goto (-60))), (70, 1, some (.iconst (-1))), (71, 1, some (.ireturn))] _ 48 rfl (by decide +kernel)
theorem dX10_findsFewest_48 : decode cX10_findsFewest 48 = .ok (.ireturn, 1) := dq_g406.1
theorem dX10_findsFewest_49 : decode cX10_findsFewest 49 = .ok (.aload_n 0, 1) := dq_g406.2.1
theorem dX10_findsFewest_50 : decode cX10_findsFewest 50 = .ok (.iload_n 2, 1) := dq_g406.2.2.1
theorem dX10_findsFewest_51 : decode cX10_findsFewest 51 = .ok (.aload_n 0, 1) := dq_g406.2.2.2.1
theorem dX10_findsFewest_52 : decode cX10_findsFewest 52 = .ok (.getfield 13, 3) := dq_g406.2.2.2.2.1
theorem dX10_findsFewest_55 : decode cX10_findsFewest 55 = .ok (.iload_n 1, 1) := dq_g406.2.2.2.2.2.1
theorem dX10_findsFewest_56 : decode cX10_findsFewest 56 = .ok (.iaload, 1) := dq_g406.2.2.2.2.2.2.1
theorem dX10_findsFewest_57 : decode cX10_findsFewest 57 = .ok (.invokevirtual 368, 3) := dq_g406.2.2.2.2.2.2.2.1
theorem dX10_findsFewest_60 : decode cX10_findsFewest 60 = .ok (.istore_n 3, 1) := dq_g406.2.2.2.2.2.2.2.2.1
theorem dX10_findsFewest_61 : decode cX10_findsFewest 61 = .ok (.goto (-27), 3) := dq_g406.2.2.2.2.2.2.2.2.2.1
theorem dX10_findsFewest_64 : decode cX10_findsFewest 64 = .ok (.iinc 2 1, 3) := dq_g406.2.2.2.2.2.2.2.2.2.2.1
theorem dX10_findsFewest_67 : decode cX10_findsFewest 67 = .ok (.goto (-60), 3) := dq_g406.2.2.2.2.2.2.2.2.2.2.2.1
theorem dX10_findsFewest_70 : decode cX10_findsFewest 70 = .ok (.iconst (-1), 1) := dq_g406.2.2.2.2.2.2.2.2.2.2.2.2.1
theorem dX10_findsFewest_71 : decode cX10_findsFewest 71 = .ok (.ireturn, 1) := dq_g406.2.2.2.2.2.2.2.2.2.2.2.2.2.1
theorem dq_g407 : decode cX10_fewest 0 = .ok (.aload_n 0, 1) ∧ decode cX10_fewest 1 = .ok (.iconst 0, 1) ∧ decode cX10_fewest 2 = .ok (.putfield 167, 3) ∧ decode cX10_fewest 5 = .ok (.aload_n 0, 1) ∧ decode cX10_fewest 6 = .ok (.iload_n 1, 1) ∧ decode cX10_fewest 7 = .ok (.invokevirtual 173, 3) ∧ decode cX10_fewest 10 = .ok (.ifCond .eq 24, 3) ∧ decode cX10_fewest 13 = .ok (.aload_n 0, 1) ∧ decode cX10_fewest 14 = .ok (.getfield 13, 3) ∧ decode cX10_fewest 17 = .ok (.iload_n 1, 1) ∧ decode cX10_fewest 18 = .ok (.iaload, 1) ∧ decode cX10_fewest 19 = .ok (.bipush 8, 2) ∧ decode cX10_fewest 21 = .ok (.if_icmp .gt 13, 3) ∧ decode cX10_fewest 24 = .ok (.aload_n 0, 1) ∧ decode cX10_fewest 25 = .ok (.iload_n 2, 1) ∧ decode cX10_fewest 26 = .ok (.iconst 0, 1) ∧ decode cX10_fewest 27 = .ok (.iconst 5, 1) ∧ decode cX10_fewest 28 = .ok (.invokevirtual 177, 3) ∧ decode cX10_fewest 31 = .ok (.ifCond .ne 5, 3) ∧ decode cX10_fewest 34 = .ok (.iconst (-1), 1) ∧ decode cX10_fewest 35 = .ok (.ireturn, 1) ∧ decode cX10_fewest 36 = .ok (.aload_n 0, 1) ∧ decode cX10_fewest 37 = .ok (.iload_n 1, 1) ∧ decode cX10_fewest 38 = .ok (.invokevirtual 371, 3) ∧ decode cX10_fewest 41 = .ok (.istore_n 3, 1) ∧ decode cX10_fewest 42 = .ok (.iload_n 2, 1) ∧ decode cX10_fewest 43 = .ok (.ifCond .eq 8, 3) ∧ decode cX10_fewest 46 = .ok (.iload_n 3, 1) ∧ decode cX10_fewest 47 = .ok (.iconst (-1), 1) ∧ decode cX10_fewest 48 = .ok (.if_icmp .ne 5, 3) ∧ True := dqC_ok (c := cX10_fewest) [(0, 1, some (.aload_n 0)), (1, 1, some (.iconst 0)), (2, 3, some (.putfield 167)), (5, 1, some (.aload_n 0)), (6, 1, some (.iload_n 1)), (7, 3, some (.invokevirtual 173)), (10, 3, some (.ifCond .eq 24)), (13, 1, some (.aload_n 0)), (14, 3, some (.getfield 13)), (17, 1, some (.iload_n 1)), (18, 1, some (.iaload)), (19, 2, some (.bipush 8)), (21, 3, some (.if_icmp .gt 13)), (24, 1, some (.aload_n 0)), (25, 1, some (.iload_n 2)), (26, 1, some (.iconst 0)), (27, 1, some (.iconst 5)), (28, 3, some (.invokevirtual 177)), (31, 3, some (.ifCond .ne 5)), (34, 1, some (.iconst (-1))), (35, 1, some (.ireturn)), (36, 1, some (.aload_n 0)), (37, 1, some (.iload_n 1)), (38, 3, some (.invokevirtual 371)), (41, 1, some (.istore_n 3)), (42, 1, some (.iload_n 2)), (43, 3, some (.ifCond .eq 8)), (46, 1, some (.iload_n 3)), (47, 1, some (.iconst (-1))), (48, 3, some (.if_icmp .ne 5))] _ 0 rfl (by decide +kernel)
theorem dX10_fewest_0 : decode cX10_fewest 0 = .ok (.aload_n 0, 1) := dq_g407.1
theorem dX10_fewest_1 : decode cX10_fewest 1 = .ok (.iconst 0, 1) := dq_g407.2.1
theorem dX10_fewest_2 : decode cX10_fewest 2 = .ok (.putfield 167, 3) := dq_g407.2.2.1
theorem dX10_fewest_5 : decode cX10_fewest 5 = .ok (.aload_n 0, 1) := dq_g407.2.2.2.1
theorem dX10_fewest_6 : decode cX10_fewest 6 = .ok (.iload_n 1, 1) := dq_g407.2.2.2.2.1
theorem dX10_fewest_7 : decode cX10_fewest 7 = .ok (.invokevirtual 173, 3) := dq_g407.2.2.2.2.2.1
theorem dX10_fewest_10 : decode cX10_fewest 10 = .ok (.ifCond .eq 24, 3) := dq_g407.2.2.2.2.2.2.1
theorem dX10_fewest_13 : decode cX10_fewest 13 = .ok (.aload_n 0, 1) := dq_g407.2.2.2.2.2.2.2.1
theorem dX10_fewest_14 : decode cX10_fewest 14 = .ok (.getfield 13, 3) := dq_g407.2.2.2.2.2.2.2.2.1
theorem dX10_fewest_17 : decode cX10_fewest 17 = .ok (.iload_n 1, 1) := dq_g407.2.2.2.2.2.2.2.2.2.1
theorem dX10_fewest_18 : decode cX10_fewest 18 = .ok (.iaload, 1) := dq_g407.2.2.2.2.2.2.2.2.2.2.1
theorem dX10_fewest_19 : decode cX10_fewest 19 = .ok (.bipush 8, 2) := dq_g407.2.2.2.2.2.2.2.2.2.2.2.1
theorem dX10_fewest_21 : decode cX10_fewest 21 = .ok (.if_icmp .gt 13, 3) := dq_g407.2.2.2.2.2.2.2.2.2.2.2.2.1
theorem dX10_fewest_24 : decode cX10_fewest 24 = .ok (.aload_n 0, 1) := dq_g407.2.2.2.2.2.2.2.2.2.2.2.2.2.1
theorem dX10_fewest_25 : decode cX10_fewest 25 = .ok (.iload_n 2, 1) := dq_g407.2.2.2.2.2.2.2.2.2.2.2.2.2.2.1
theorem dX10_fewest_26 : decode cX10_fewest 26 = .ok (.iconst 0, 1) := dq_g407.2.2.2.2.2.2.2.2.2.2.2.2.2.2.2.1
theorem dX10_fewest_27 : decode cX10_fewest 27 = .ok (.iconst 5, 1) := dq_g407.2.2.2.2.2.2.2.2.2.2.2.2.2.2.2.2.1
theorem dX10_fewest_28 : decode cX10_fewest 28 = .ok (.invokevirtual 177, 3) := dq_g407.2.2.2.2.2.2.2.2.2.2.2.2.2.2.2.2.2.1
theorem dX10_fewest_31 : decode cX10_fewest 31 = .ok (.ifCond .ne 5, 3) := dq_g407.2.2.2.2.2.2.2.2.2.2.2.2.2.2.2.2.2.2.1
theorem dX10_fewest_34 : decode cX10_fewest 34 = .ok (.iconst (-1), 1) := dq_g407.2.2.2.2.2.2.2.2.2.2.2.2.2.2.2.2.2.2.2.1
theorem dX10_fewest_35 : decode cX10_fewest 35 = .ok (.ireturn, 1) := dq_g407.2.2.2.2.2.2.2.2.2.2.2.2.2.2.2.2.2.2.2.2.1
theorem dX10_fewest_36 : decode cX10_fewest 36 = .ok (.aload_n 0, 1) := dq_g407.2.2.2.2.2.2.2.2.2.2.2.2.2.2.2.2.2.2.2.2.2.1
theorem dX10_fewest_37 : decode cX10_fewest 37 = .ok (.iload_n 1, 1) := dq_g407.2.2.2.2.2.2.2.2.2.2.2.2.2.2.2.2.2.2.2.2.2.2.1
theorem dX10_fewest_38 : decode cX10_fewest 38 = .ok (.invokevirtual 371, 3) := dq_g407.2.2.2.2.2.2.2.2.2.2.2.2.2.2.2.2.2.2.2.2.2.2.2.1
theorem dX10_fewest_41 : decode cX10_fewest 41 = .ok (.istore_n 3, 1) := dq_g407.2.2.2.2.2.2.2.2.2.2.2.2.2.2.2.2.2.2.2.2.2.2.2.2.1
theorem dX10_fewest_42 : decode cX10_fewest 42 = .ok (.iload_n 2, 1) := dq_g407.2.2.2.2.2.2.2.2.2.2.2.2.2.2.2.2.2.2.2.2.2.2.2.2.2.1
theorem dX10_fewest_43 : decode cX10_fewest 43 = .ok (.ifCond .eq 8, 3) := dq_g407.2.2.2.2.2.2.2.2.2.2.2.2.2.2.2.2.2.2.2.2.2.2.2.2.2.2.1
theorem dX10_fewest_46 : decode cX10_fewest 46 = .ok (.iload_n 3, 1) := dq_g407.2.2.2.2.2.2.2.2.2.2.2.2.2.2.2.2.2.2.2.2.2.2.2.2.2.2.2.1
theorem dX10_fewest_47 : decode cX10_fewest 47 = .ok (.iconst (-1), 1) := dq_g407.2.2.2.2.2.2.2.2.2.2.2.2.2.2.2.2.2.2.2.2.2.2.2.2.2.2.2.2.1
theorem dX10_fewest_48 : decode cX10_fewest 48 = .ok (.if_icmp .ne 5, 3) := dq_g407.2.2.2.2.2.2.2.2.2.2.2.2.2.2.2.2.2.2.2.2.2.2.2.2.2.2.2.2.2.1
theorem dq_g408 : decode cX10_fewest 51 = .ok (.iload_n 3, 1) ∧ decode cX10_fewest 52 = .ok (.ireturn, 1) ∧ decode cX10_fewest 53 = .ok (.iload_n 2, 1) ∧ decode cX10_fewest 54 = .ok (.iload_n 3, 1) ∧ decode cX10_fewest 55 = .ok (.if_icmp .gt 14, 3) ∧ decode cX10_fewest 58 = .ok (.aload_n 0, 1) ∧ decode cX10_fewest 59 = .ok (.getfield 101, 3) ∧ decode cX10_fewest 62 = .ok (.iload_n 2, 1) ∧ decode cX10_fewest 63 = .ok (.iconst 1, 1) ∧ decode cX10_fewest 64 = .ok (.isub, 1) ∧ decode cX10_fewest 65 = .ok (.iaload, 1) ∧ decode cX10_fewest 66 = .ok (.goto 4, 3) ∧ decode cX10_fewest 69 = .ok (.iconst (-1), 1) ∧ decode cX10_fewest 70 = .ok (.ireturn, 1) ∧ True := dqC_ok (c := cX10_fewest) [(51, 1, some (.iload_n 3)), (52, 1, some (.ireturn)), (53, 1, some (.iload_n 2)), (54, 1, some (.iload_n 3)), (55, 3, some (.if_icmp .gt 14)), (58, 1, some (.aload_n 0)), (59, 3, some (.getfield 101)), (62, 1, some (.iload_n 2)), (63, 1, some (.iconst 1)), (64, 1, some (.isub)), (65, 1, some (.iaload)), (66, 3, some (.goto 4)), (69, 1, some (.iconst (-1))), (70, 1, some (.ireturn))] _ 51 rfl (by decide +kernel)
theorem dX10_fewest_51 : decode cX10_fewest 51 = .ok (.iload_n 3, 1) := dq_g408.1
theorem dX10_fewest_52 : decode cX10_fewest 52 = .ok (.ireturn, 1) := dq_g408.2.1
theorem dX10_fewest_53 : decode cX10_fewest 53 = .ok (.iload_n 2, 1) := dq_g408.2.2.1
theorem dX10_fewest_54 : decode cX10_fewest 54 = .ok (.iload_n 3, 1) := dq_g408.2.2.2.1
theorem dX10_fewest_55 : decode cX10_fewest 55 = .ok (.if_icmp .gt 14, 3) := dq_g408.2.2.2.2.1
theorem dX10_fewest_58 : decode cX10_fewest 58 = .ok (.aload_n 0, 1) := dq_g408.2.2.2.2.2.1
theorem dX10_fewest_59 : decode cX10_fewest 59 = .ok (.getfield 101, 3) := dq_g408.2.2.2.2.2.2.1
theorem dX10_fewest_62 : decode cX10_fewest 62 = .ok (.iload_n 2, 1) := dq_g408.2.2.2.2.2.2.2.1
theorem dX10_fewest_63 : decode cX10_fewest 63 = .ok (.iconst 1, 1) := dq_g408.2.2.2.2.2.2.2.2.1
theorem dX10_fewest_64 : decode cX10_fewest 64 = .ok (.isub, 1) := dq_g408.2.2.2.2.2.2.2.2.2.1
theorem dX10_fewest_65 : decode cX10_fewest 65 = .ok (.iaload, 1) := dq_g408.2.2.2.2.2.2.2.2.2.2.1
theorem dX10_fewest_66 : decode cX10_fewest 66 = .ok (.goto 4, 3) := dq_g408.2.2.2.2.2.2.2.2.2.2.2.1
theorem dX10_fewest_69 : decode cX10_fewest 69 = .ok (.iconst (-1), 1) := dq_g408.2.2.2.2.2.2.2.2.2.2.2.2.1
theorem dX10_fewest_70 : decode cX10_fewest 70 = .ok (.ireturn, 1) := dq_g408.2.2.2.2.2.2.2.2.2.2.2.2.2.1
theorem dq_g409 : decode cX10_tap 0 = .ok (.aload_n 0, 1) ∧ decode cX10_tap 1 = .ok (.iconst 0, 1) ∧ decode cX10_tap 2 = .ok (.putfield 167, 3) ∧ decode cX10_tap 5 = .ok (.aload_n 0, 1) ∧ decode cX10_tap 6 = .ok (.iload_n 1, 1) ∧ decode cX10_tap 7 = .ok (.invokevirtual 173, 3) ∧ decode cX10_tap 10 = .ok (.ifCond .eq 34, 3) ∧ decode cX10_tap 13 = .ok (.aload_n 0, 1) ∧ decode cX10_tap 14 = .ok (.iload_n 2, 1) ∧ decode cX10_tap 15 = .ok (.invokevirtual 331, 3) ∧ decode cX10_tap 18 = .ok (.ifCond .eq 26, 3) ∧ decode cX10_tap 21 = .ok (.aload_n 0, 1) ∧ decode cX10_tap 22 = .ok (.iload_n 3, 1) ∧ decode cX10_tap 23 = .ok (.iconst 0, 1) ∧ decode cX10_tap 24 = .ok (.ldc_w 374, 3) ∧ decode cX10_tap 27 = .ok (.invokevirtual 177, 3) ∧ decode cX10_tap 30 = .ok (.ifCond .eq 14, 3) ∧ decode cX10_tap 33 = .ok (.aload_n 0, 1) ∧ decode cX10_tap 34 = .ok (.getfield 116, 3) ∧ decode cX10_tap 37 = .ok (.iload_n 1, 1) ∧ decode cX10_tap 38 = .ok (.iaload, 1) ∧ decode cX10_tap 39 = .ok (.bipush 12, 2) ∧ decode cX10_tap 41 = .ok (.if_icmp .ne 5, 3) ∧ decode cX10_tap 44 = .ok (.iconst (-1), 1) ∧ decode cX10_tap 45 = .ok (.ireturn, 1) ∧ decode cX10_tap 46 = .ok (.bipush 12, 2) ∧ decode cX10_tap 48 = .ok (.iload_n 1, 1) ∧ decode cX10_tap 49 = .ok (.imul, 1) ∧ decode cX10_tap 50 = .ok (.aload_n 0, 1) ∧ decode cX10_tap 51 = .ok (.getfield 116, 3) ∧ True := dqC_ok (c := cX10_tap) [(0, 1, some (.aload_n 0)), (1, 1, some (.iconst 0)), (2, 3, some (.putfield 167)), (5, 1, some (.aload_n 0)), (6, 1, some (.iload_n 1)), (7, 3, some (.invokevirtual 173)), (10, 3, some (.ifCond .eq 34)), (13, 1, some (.aload_n 0)), (14, 1, some (.iload_n 2)), (15, 3, some (.invokevirtual 331)), (18, 3, some (.ifCond .eq 26)), (21, 1, some (.aload_n 0)), (22, 1, some (.iload_n 3)), (23, 1, some (.iconst 0)), (24, 3, some (.ldc_w 374)), (27, 3, some (.invokevirtual 177)), (30, 3, some (.ifCond .eq 14)), (33, 1, some (.aload_n 0)), (34, 3, some (.getfield 116)), (37, 1, some (.iload_n 1)), (38, 1, some (.iaload)), (39, 2, some (.bipush 12)), (41, 3, some (.if_icmp .ne 5)), (44, 1, some (.iconst (-1))), (45, 1, some (.ireturn)), (46, 2, some (.bipush 12)), (48, 1, some (.iload_n 1)), (49, 1, some (.imul)), (50, 1, some (.aload_n 0)), (51, 3, some (.getfield 116))] _ 0 rfl (by decide +kernel)
theorem dX10_tap_0 : decode cX10_tap 0 = .ok (.aload_n 0, 1) := dq_g409.1
theorem dX10_tap_1 : decode cX10_tap 1 = .ok (.iconst 0, 1) := dq_g409.2.1
theorem dX10_tap_2 : decode cX10_tap 2 = .ok (.putfield 167, 3) := dq_g409.2.2.1
theorem dX10_tap_5 : decode cX10_tap 5 = .ok (.aload_n 0, 1) := dq_g409.2.2.2.1
theorem dX10_tap_6 : decode cX10_tap 6 = .ok (.iload_n 1, 1) := dq_g409.2.2.2.2.1
theorem dX10_tap_7 : decode cX10_tap 7 = .ok (.invokevirtual 173, 3) := dq_g409.2.2.2.2.2.1
theorem dX10_tap_10 : decode cX10_tap 10 = .ok (.ifCond .eq 34, 3) := dq_g409.2.2.2.2.2.2.1
theorem dX10_tap_13 : decode cX10_tap 13 = .ok (.aload_n 0, 1) := dq_g409.2.2.2.2.2.2.2.1
theorem dX10_tap_14 : decode cX10_tap 14 = .ok (.iload_n 2, 1) := dq_g409.2.2.2.2.2.2.2.2.1
theorem dX10_tap_15 : decode cX10_tap 15 = .ok (.invokevirtual 331, 3) := dq_g409.2.2.2.2.2.2.2.2.2.1
theorem dX10_tap_18 : decode cX10_tap 18 = .ok (.ifCond .eq 26, 3) := dq_g409.2.2.2.2.2.2.2.2.2.2.1
theorem dX10_tap_21 : decode cX10_tap 21 = .ok (.aload_n 0, 1) := dq_g409.2.2.2.2.2.2.2.2.2.2.2.1
theorem dX10_tap_22 : decode cX10_tap 22 = .ok (.iload_n 3, 1) := dq_g409.2.2.2.2.2.2.2.2.2.2.2.2.1
theorem dX10_tap_23 : decode cX10_tap 23 = .ok (.iconst 0, 1) := dq_g409.2.2.2.2.2.2.2.2.2.2.2.2.2.1
theorem dX10_tap_24 : decode cX10_tap 24 = .ok (.ldc_w 374, 3) := dq_g409.2.2.2.2.2.2.2.2.2.2.2.2.2.2.1
theorem dX10_tap_27 : decode cX10_tap 27 = .ok (.invokevirtual 177, 3) := dq_g409.2.2.2.2.2.2.2.2.2.2.2.2.2.2.2.1
theorem dX10_tap_30 : decode cX10_tap 30 = .ok (.ifCond .eq 14, 3) := dq_g409.2.2.2.2.2.2.2.2.2.2.2.2.2.2.2.2.1
theorem dX10_tap_33 : decode cX10_tap 33 = .ok (.aload_n 0, 1) := dq_g409.2.2.2.2.2.2.2.2.2.2.2.2.2.2.2.2.2.1
theorem dX10_tap_34 : decode cX10_tap 34 = .ok (.getfield 116, 3) := dq_g409.2.2.2.2.2.2.2.2.2.2.2.2.2.2.2.2.2.2.1
theorem dX10_tap_37 : decode cX10_tap 37 = .ok (.iload_n 1, 1) := dq_g409.2.2.2.2.2.2.2.2.2.2.2.2.2.2.2.2.2.2.2.1
theorem dX10_tap_38 : decode cX10_tap 38 = .ok (.iaload, 1) := dq_g409.2.2.2.2.2.2.2.2.2.2.2.2.2.2.2.2.2.2.2.2.1
theorem dX10_tap_39 : decode cX10_tap 39 = .ok (.bipush 12, 2) := dq_g409.2.2.2.2.2.2.2.2.2.2.2.2.2.2.2.2.2.2.2.2.2.1
theorem dX10_tap_41 : decode cX10_tap 41 = .ok (.if_icmp .ne 5, 3) := dq_g409.2.2.2.2.2.2.2.2.2.2.2.2.2.2.2.2.2.2.2.2.2.2.1
theorem dX10_tap_44 : decode cX10_tap 44 = .ok (.iconst (-1), 1) := dq_g409.2.2.2.2.2.2.2.2.2.2.2.2.2.2.2.2.2.2.2.2.2.2.2.1
theorem dX10_tap_45 : decode cX10_tap 45 = .ok (.ireturn, 1) := dq_g409.2.2.2.2.2.2.2.2.2.2.2.2.2.2.2.2.2.2.2.2.2.2.2.2.1
theorem dX10_tap_46 : decode cX10_tap 46 = .ok (.bipush 12, 2) := dq_g409.2.2.2.2.2.2.2.2.2.2.2.2.2.2.2.2.2.2.2.2.2.2.2.2.2.1
theorem dX10_tap_48 : decode cX10_tap 48 = .ok (.iload_n 1, 1) := dq_g409.2.2.2.2.2.2.2.2.2.2.2.2.2.2.2.2.2.2.2.2.2.2.2.2.2.2.1
theorem dX10_tap_49 : decode cX10_tap 49 = .ok (.imul, 1) := dq_g409.2.2.2.2.2.2.2.2.2.2.2.2.2.2.2.2.2.2.2.2.2.2.2.2.2.2.2.1
theorem dX10_tap_50 : decode cX10_tap 50 = .ok (.aload_n 0, 1) := dq_g409.2.2.2.2.2.2.2.2.2.2.2.2.2.2.2.2.2.2.2.2.2.2.2.2.2.2.2.2.1
theorem dX10_tap_51 : decode cX10_tap 51 = .ok (.getfield 116, 3) := dq_g409.2.2.2.2.2.2.2.2.2.2.2.2.2.2.2.2.2.2.2.2.2.2.2.2.2.2.2.2.2.1
theorem dq_g410 : decode cX10_tap 54 = .ok (.iload_n 1, 1) ∧ decode cX10_tap 55 = .ok (.iaload, 1) ∧ decode cX10_tap 56 = .ok (.iadd, 1) ∧ decode cX10_tap 57 = .ok (.istore 4, 2) ∧ decode cX10_tap 59 = .ok (.aload_n 0, 1) ∧ decode cX10_tap 60 = .ok (.getfield 119, 3) ∧ decode cX10_tap 63 = .ok (.iload 4, 2) ∧ decode cX10_tap 65 = .ok (.iload_n 2, 1) ∧ decode cX10_tap 66 = .ok (.iastore, 1) ∧ decode cX10_tap 67 = .ok (.aload_n 0, 1) ∧ decode cX10_tap 68 = .ok (.getfield 122, 3) ∧ decode cX10_tap 71 = .ok (.iload 4, 2) ∧ decode cX10_tap 73 = .ok (.iload_n 3, 1) ∧ decode cX10_tap 74 = .ok (.iastore, 1) ∧ decode cX10_tap 75 = .ok (.iconst 0, 1) ∧ decode cX10_tap 76 = .ok (.istore 5, 2) ∧ decode cX10_tap 78 = .ok (.iload 5, 2) ∧ decode cX10_tap 80 = .ok (.bipush 16, 2) ∧ decode cX10_tap 82 = .ok (.if_icmp .ge 59, 3) ∧ decode cX10_tap 85 = .ok (.aload_n 0, 1) ∧ decode cX10_tap 86 = .ok (.getfield 125, 3) ∧ decode cX10_tap 89 = .ok (.bipush 16, 2) ∧ decode cX10_tap 91 = .ok (.iload 4, 2) ∧ decode cX10_tap 93 = .ok (.imul, 1) ∧ decode cX10_tap 94 = .ok (.iload 5, 2) ∧ decode cX10_tap 96 = .ok (.iadd, 1) ∧ decode cX10_tap 97 = .ok (.aload_n 0, 1) ∧ decode cX10_tap 98 = .ok (.getfield 17, 3) ∧ decode cX10_tap 101 = .ok (.bipush 16, 2) ∧ decode cX10_tap 103 = .ok (.iload_n 1, 1) ∧ True := dqC_ok (c := cX10_tap) [(54, 1, some (.iload_n 1)), (55, 1, some (.iaload)), (56, 1, some (.iadd)), (57, 2, some (.istore 4)), (59, 1, some (.aload_n 0)), (60, 3, some (.getfield 119)), (63, 2, some (.iload 4)), (65, 1, some (.iload_n 2)), (66, 1, some (.iastore)), (67, 1, some (.aload_n 0)), (68, 3, some (.getfield 122)), (71, 2, some (.iload 4)), (73, 1, some (.iload_n 3)), (74, 1, some (.iastore)), (75, 1, some (.iconst 0)), (76, 2, some (.istore 5)), (78, 2, some (.iload 5)), (80, 2, some (.bipush 16)), (82, 3, some (.if_icmp .ge 59)), (85, 1, some (.aload_n 0)), (86, 3, some (.getfield 125)), (89, 2, some (.bipush 16)), (91, 2, some (.iload 4)), (93, 1, some (.imul)), (94, 2, some (.iload 5)), (96, 1, some (.iadd)), (97, 1, some (.aload_n 0)), (98, 3, some (.getfield 17)), (101, 2, some (.bipush 16)), (103, 1, some (.iload_n 1))] _ 54 rfl (by decide +kernel)
theorem dX10_tap_54 : decode cX10_tap 54 = .ok (.iload_n 1, 1) := dq_g410.1
theorem dX10_tap_55 : decode cX10_tap 55 = .ok (.iaload, 1) := dq_g410.2.1
theorem dX10_tap_56 : decode cX10_tap 56 = .ok (.iadd, 1) := dq_g410.2.2.1
theorem dX10_tap_57 : decode cX10_tap 57 = .ok (.istore 4, 2) := dq_g410.2.2.2.1
theorem dX10_tap_59 : decode cX10_tap 59 = .ok (.aload_n 0, 1) := dq_g410.2.2.2.2.1
theorem dX10_tap_60 : decode cX10_tap 60 = .ok (.getfield 119, 3) := dq_g410.2.2.2.2.2.1
theorem dX10_tap_63 : decode cX10_tap 63 = .ok (.iload 4, 2) := dq_g410.2.2.2.2.2.2.1
theorem dX10_tap_65 : decode cX10_tap 65 = .ok (.iload_n 2, 1) := dq_g410.2.2.2.2.2.2.2.1
theorem dX10_tap_66 : decode cX10_tap 66 = .ok (.iastore, 1) := dq_g410.2.2.2.2.2.2.2.2.1
theorem dX10_tap_67 : decode cX10_tap 67 = .ok (.aload_n 0, 1) := dq_g410.2.2.2.2.2.2.2.2.2.1
theorem dX10_tap_68 : decode cX10_tap 68 = .ok (.getfield 122, 3) := dq_g410.2.2.2.2.2.2.2.2.2.2.1
theorem dX10_tap_71 : decode cX10_tap 71 = .ok (.iload 4, 2) := dq_g410.2.2.2.2.2.2.2.2.2.2.2.1
theorem dX10_tap_73 : decode cX10_tap 73 = .ok (.iload_n 3, 1) := dq_g410.2.2.2.2.2.2.2.2.2.2.2.2.1
theorem dX10_tap_74 : decode cX10_tap 74 = .ok (.iastore, 1) := dq_g410.2.2.2.2.2.2.2.2.2.2.2.2.2.1
theorem dX10_tap_75 : decode cX10_tap 75 = .ok (.iconst 0, 1) := dq_g410.2.2.2.2.2.2.2.2.2.2.2.2.2.2.1
theorem dX10_tap_76 : decode cX10_tap 76 = .ok (.istore 5, 2) := dq_g410.2.2.2.2.2.2.2.2.2.2.2.2.2.2.2.1
theorem dX10_tap_78 : decode cX10_tap 78 = .ok (.iload 5, 2) := dq_g410.2.2.2.2.2.2.2.2.2.2.2.2.2.2.2.2.1
theorem dX10_tap_80 : decode cX10_tap 80 = .ok (.bipush 16, 2) := dq_g410.2.2.2.2.2.2.2.2.2.2.2.2.2.2.2.2.2.1
theorem dX10_tap_82 : decode cX10_tap 82 = .ok (.if_icmp .ge 59, 3) := dq_g410.2.2.2.2.2.2.2.2.2.2.2.2.2.2.2.2.2.2.1
theorem dX10_tap_85 : decode cX10_tap 85 = .ok (.aload_n 0, 1) := dq_g410.2.2.2.2.2.2.2.2.2.2.2.2.2.2.2.2.2.2.2.1
theorem dX10_tap_86 : decode cX10_tap 86 = .ok (.getfield 125, 3) := dq_g410.2.2.2.2.2.2.2.2.2.2.2.2.2.2.2.2.2.2.2.2.1
theorem dX10_tap_89 : decode cX10_tap 89 = .ok (.bipush 16, 2) := dq_g410.2.2.2.2.2.2.2.2.2.2.2.2.2.2.2.2.2.2.2.2.2.1
theorem dX10_tap_91 : decode cX10_tap 91 = .ok (.iload 4, 2) := dq_g410.2.2.2.2.2.2.2.2.2.2.2.2.2.2.2.2.2.2.2.2.2.2.1
theorem dX10_tap_93 : decode cX10_tap 93 = .ok (.imul, 1) := dq_g410.2.2.2.2.2.2.2.2.2.2.2.2.2.2.2.2.2.2.2.2.2.2.2.1
theorem dX10_tap_94 : decode cX10_tap 94 = .ok (.iload 5, 2) := dq_g410.2.2.2.2.2.2.2.2.2.2.2.2.2.2.2.2.2.2.2.2.2.2.2.2.1
theorem dX10_tap_96 : decode cX10_tap 96 = .ok (.iadd, 1) := dq_g410.2.2.2.2.2.2.2.2.2.2.2.2.2.2.2.2.2.2.2.2.2.2.2.2.2.1
theorem dX10_tap_97 : decode cX10_tap 97 = .ok (.aload_n 0, 1) := dq_g410.2.2.2.2.2.2.2.2.2.2.2.2.2.2.2.2.2.2.2.2.2.2.2.2.2.2.1
theorem dX10_tap_98 : decode cX10_tap 98 = .ok (.getfield 17, 3) := dq_g410.2.2.2.2.2.2.2.2.2.2.2.2.2.2.2.2.2.2.2.2.2.2.2.2.2.2.2.1
theorem dX10_tap_101 : decode cX10_tap 101 = .ok (.bipush 16, 2) := dq_g410.2.2.2.2.2.2.2.2.2.2.2.2.2.2.2.2.2.2.2.2.2.2.2.2.2.2.2.2.1
theorem dX10_tap_103 : decode cX10_tap 103 = .ok (.iload_n 1, 1) := dq_g410.2.2.2.2.2.2.2.2.2.2.2.2.2.2.2.2.2.2.2.2.2.2.2.2.2.2.2.2.2.1
theorem dq_g411 : decode cX10_tap 104 = .ok (.imul, 1) ∧ decode cX10_tap 105 = .ok (.iload 5, 2) ∧ decode cX10_tap 107 = .ok (.iadd, 1) ∧ decode cX10_tap 108 = .ok (.iaload, 1) ∧ decode cX10_tap 109 = .ok (.iastore, 1) ∧ decode cX10_tap 110 = .ok (.aload_n 0, 1) ∧ decode cX10_tap 111 = .ok (.getfield 128, 3) ∧ decode cX10_tap 114 = .ok (.bipush 16, 2) ∧ decode cX10_tap 116 = .ok (.iload 4, 2) ∧ decode cX10_tap 118 = .ok (.imul, 1) ∧ decode cX10_tap 119 = .ok (.iload 5, 2) ∧ decode cX10_tap 121 = .ok (.iadd, 1) ∧ decode cX10_tap 122 = .ok (.aload_n 0, 1) ∧ decode cX10_tap 123 = .ok (.getfield 26, 3) ∧ decode cX10_tap 126 = .ok (.bipush 16, 2) ∧ decode cX10_tap 128 = .ok (.iload_n 1, 1) ∧ decode cX10_tap 129 = .ok (.imul, 1) ∧ decode cX10_tap 130 = .ok (.iload 5, 2) ∧ decode cX10_tap 132 = .ok (.iadd, 1) ∧ decode cX10_tap 133 = .ok (.iaload, 1) ∧ decode cX10_tap 134 = .ok (.iastore, 1) ∧ decode cX10_tap 135 = .ok (.iinc 5 1, 3) ∧ decode cX10_tap 138 = .ok (.goto (-60), 3) ∧ decode cX10_tap 141 = .ok (.aload_n 0, 1) ∧ decode cX10_tap 142 = .ok (.getfield 116, 3) ∧ decode cX10_tap 145 = .ok (.iload_n 1, 1) ∧ decode cX10_tap 146 = .ok (.aload_n 0, 1) ∧ decode cX10_tap 147 = .ok (.getfield 116, 3) ∧ decode cX10_tap 150 = .ok (.iload_n 1, 1) ∧ decode cX10_tap 151 = .ok (.iaload, 1) ∧ True := dqC_ok (c := cX10_tap) [(104, 1, some (.imul)), (105, 2, some (.iload 5)), (107, 1, some (.iadd)), (108, 1, some (.iaload)), (109, 1, some (.iastore)), (110, 1, some (.aload_n 0)), (111, 3, some (.getfield 128)), (114, 2, some (.bipush 16)), (116, 2, some (.iload 4)), (118, 1, some (.imul)), (119, 2, some (.iload 5)), (121, 1, some (.iadd)), (122, 1, some (.aload_n 0)), (123, 3, some (.getfield 26)), (126, 2, some (.bipush 16)), (128, 1, some (.iload_n 1)), (129, 1, some (.imul)), (130, 2, some (.iload 5)), (132, 1, some (.iadd)), (133, 1, some (.iaload)), (134, 1, some (.iastore)), (135, 3, some (.iinc 5 1)), (138, 3, some (.goto (-60))), (141, 1, some (.aload_n 0)), (142, 3, some (.getfield 116)), (145, 1, some (.iload_n 1)), (146, 1, some (.aload_n 0)), (147, 3, some (.getfield 116)), (150, 1, some (.iload_n 1)), (151, 1, some (.iaload))] _ 104 rfl (by decide +kernel)
theorem dX10_tap_104 : decode cX10_tap 104 = .ok (.imul, 1) := dq_g411.1
theorem dX10_tap_105 : decode cX10_tap 105 = .ok (.iload 5, 2) := dq_g411.2.1
theorem dX10_tap_107 : decode cX10_tap 107 = .ok (.iadd, 1) := dq_g411.2.2.1
theorem dX10_tap_108 : decode cX10_tap 108 = .ok (.iaload, 1) := dq_g411.2.2.2.1
theorem dX10_tap_109 : decode cX10_tap 109 = .ok (.iastore, 1) := dq_g411.2.2.2.2.1
theorem dX10_tap_110 : decode cX10_tap 110 = .ok (.aload_n 0, 1) := dq_g411.2.2.2.2.2.1
theorem dX10_tap_111 : decode cX10_tap 111 = .ok (.getfield 128, 3) := dq_g411.2.2.2.2.2.2.1
theorem dX10_tap_114 : decode cX10_tap 114 = .ok (.bipush 16, 2) := dq_g411.2.2.2.2.2.2.2.1
theorem dX10_tap_116 : decode cX10_tap 116 = .ok (.iload 4, 2) := dq_g411.2.2.2.2.2.2.2.2.1
theorem dX10_tap_118 : decode cX10_tap 118 = .ok (.imul, 1) := dq_g411.2.2.2.2.2.2.2.2.2.1
theorem dX10_tap_119 : decode cX10_tap 119 = .ok (.iload 5, 2) := dq_g411.2.2.2.2.2.2.2.2.2.2.1
theorem dX10_tap_121 : decode cX10_tap 121 = .ok (.iadd, 1) := dq_g411.2.2.2.2.2.2.2.2.2.2.2.1
theorem dX10_tap_122 : decode cX10_tap 122 = .ok (.aload_n 0, 1) := dq_g411.2.2.2.2.2.2.2.2.2.2.2.2.1
theorem dX10_tap_123 : decode cX10_tap 123 = .ok (.getfield 26, 3) := dq_g411.2.2.2.2.2.2.2.2.2.2.2.2.2.1
theorem dX10_tap_126 : decode cX10_tap 126 = .ok (.bipush 16, 2) := dq_g411.2.2.2.2.2.2.2.2.2.2.2.2.2.2.1
theorem dX10_tap_128 : decode cX10_tap 128 = .ok (.iload_n 1, 1) := dq_g411.2.2.2.2.2.2.2.2.2.2.2.2.2.2.2.1
theorem dX10_tap_129 : decode cX10_tap 129 = .ok (.imul, 1) := dq_g411.2.2.2.2.2.2.2.2.2.2.2.2.2.2.2.2.1
theorem dX10_tap_130 : decode cX10_tap 130 = .ok (.iload 5, 2) := dq_g411.2.2.2.2.2.2.2.2.2.2.2.2.2.2.2.2.2.1
theorem dX10_tap_132 : decode cX10_tap 132 = .ok (.iadd, 1) := dq_g411.2.2.2.2.2.2.2.2.2.2.2.2.2.2.2.2.2.2.1
theorem dX10_tap_133 : decode cX10_tap 133 = .ok (.iaload, 1) := dq_g411.2.2.2.2.2.2.2.2.2.2.2.2.2.2.2.2.2.2.2.1
theorem dX10_tap_134 : decode cX10_tap 134 = .ok (.iastore, 1) := dq_g411.2.2.2.2.2.2.2.2.2.2.2.2.2.2.2.2.2.2.2.2.1
theorem dX10_tap_135 : decode cX10_tap 135 = .ok (.iinc 5 1, 3) := dq_g411.2.2.2.2.2.2.2.2.2.2.2.2.2.2.2.2.2.2.2.2.2.1
theorem dX10_tap_138 : decode cX10_tap 138 = .ok (.goto (-60), 3) := dq_g411.2.2.2.2.2.2.2.2.2.2.2.2.2.2.2.2.2.2.2.2.2.2.1
theorem dX10_tap_141 : decode cX10_tap 141 = .ok (.aload_n 0, 1) := dq_g411.2.2.2.2.2.2.2.2.2.2.2.2.2.2.2.2.2.2.2.2.2.2.2.1
theorem dX10_tap_142 : decode cX10_tap 142 = .ok (.getfield 116, 3) := dq_g411.2.2.2.2.2.2.2.2.2.2.2.2.2.2.2.2.2.2.2.2.2.2.2.2.1
theorem dX10_tap_145 : decode cX10_tap 145 = .ok (.iload_n 1, 1) := dq_g411.2.2.2.2.2.2.2.2.2.2.2.2.2.2.2.2.2.2.2.2.2.2.2.2.2.1
theorem dX10_tap_146 : decode cX10_tap 146 = .ok (.aload_n 0, 1) := dq_g411.2.2.2.2.2.2.2.2.2.2.2.2.2.2.2.2.2.2.2.2.2.2.2.2.2.2.1
theorem dX10_tap_147 : decode cX10_tap 147 = .ok (.getfield 116, 3) := dq_g411.2.2.2.2.2.2.2.2.2.2.2.2.2.2.2.2.2.2.2.2.2.2.2.2.2.2.2.1
theorem dX10_tap_150 : decode cX10_tap 150 = .ok (.iload_n 1, 1) := dq_g411.2.2.2.2.2.2.2.2.2.2.2.2.2.2.2.2.2.2.2.2.2.2.2.2.2.2.2.2.1
theorem dX10_tap_151 : decode cX10_tap 151 = .ok (.iaload, 1) := dq_g411.2.2.2.2.2.2.2.2.2.2.2.2.2.2.2.2.2.2.2.2.2.2.2.2.2.2.2.2.2.1
theorem dq_g412 : decode cX10_tap 152 = .ok (.iconst 1, 1) ∧ decode cX10_tap 153 = .ok (.iadd, 1) ∧ decode cX10_tap 154 = .ok (.iastore, 1) ∧ decode cX10_tap 155 = .ok (.aload_n 0, 1) ∧ decode cX10_tap 156 = .ok (.getfield 116, 3) ∧ decode cX10_tap 159 = .ok (.iload_n 1, 1) ∧ decode cX10_tap 160 = .ok (.iaload, 1) ∧ decode cX10_tap 161 = .ok (.ireturn, 1) ∧ True := dqC_ok (c := cX10_tap) [(152, 1, some (.iconst 1)), (153, 1, some (.iadd)), (154, 1, some (.iastore)), (155, 1, some (.aload_n 0)), (156, 3, some (.getfield 116)), (159, 1, some (.iload_n 1)), (160, 1, some (.iaload)), (161, 1, some (.ireturn))] _ 152 rfl (by decide +kernel)
theorem dX10_tap_152 : decode cX10_tap 152 = .ok (.iconst 1, 1) := dq_g412.1
theorem dX10_tap_153 : decode cX10_tap 153 = .ok (.iadd, 1) := dq_g412.2.1
theorem dX10_tap_154 : decode cX10_tap 154 = .ok (.iastore, 1) := dq_g412.2.2.1
theorem dX10_tap_155 : decode cX10_tap 155 = .ok (.aload_n 0, 1) := dq_g412.2.2.2.1
theorem dX10_tap_156 : decode cX10_tap 156 = .ok (.getfield 116, 3) := dq_g412.2.2.2.2.1
theorem dX10_tap_159 : decode cX10_tap 159 = .ok (.iload_n 1, 1) := dq_g412.2.2.2.2.2.1
theorem dX10_tap_160 : decode cX10_tap 160 = .ok (.iaload, 1) := dq_g412.2.2.2.2.2.2.1
theorem dX10_tap_161 : decode cX10_tap 161 = .ok (.ireturn, 1) := dq_g412.2.2.2.2.2.2.2.1
theorem dq_g413 : decode cX10_toneOf 0 = .ok (.iconst 0, 1) ∧ decode cX10_toneOf 1 = .ok (.istore 4, 2) ∧ decode cX10_toneOf 3 = .ok (.iconst 0, 1) ∧ decode cX10_toneOf 4 = .ok (.istore 5, 2) ∧ decode cX10_toneOf 6 = .ok (.iconst 0, 1) ∧ decode cX10_toneOf 7 = .ok (.istore 6, 2) ∧ decode cX10_toneOf 9 = .ok (.iload 6, 2) ∧ decode cX10_toneOf 11 = .ok (.aload_n 0, 1) ∧ decode cX10_toneOf 12 = .ok (.getfield 13, 3) ∧ decode cX10_toneOf 15 = .ok (.iload_n 2, 1) ∧ decode cX10_toneOf 16 = .ok (.iaload, 1) ∧ decode cX10_toneOf 17 = .ok (.if_icmp .ge 103, 3) ∧ decode cX10_toneOf 20 = .ok (.aload_n 0, 1) ∧ decode cX10_toneOf 21 = .ok (.aload_n 0, 1) ∧ decode cX10_toneOf 22 = .ok (.getfield 13, 3) ∧ decode cX10_toneOf 25 = .ok (.iload_n 2, 1) ∧ decode cX10_toneOf 26 = .ok (.iaload, 1) ∧ decode cX10_toneOf 27 = .ok (.iload 6, 2) ∧ decode cX10_toneOf 29 = .ok (.aload_n 0, 1) ∧ decode cX10_toneOf 30 = .ok (.getfield 125, 3) ∧ decode cX10_toneOf 33 = .ok (.bipush 16, 2) ∧ decode cX10_toneOf 35 = .ok (.iload_n 3, 1) ∧ decode cX10_toneOf 36 = .ok (.imul, 1) ∧ decode cX10_toneOf 37 = .ok (.iload 6, 2) ∧ decode cX10_toneOf 39 = .ok (.iadd, 1) ∧ decode cX10_toneOf 40 = .ok (.iaload, 1) ∧ decode cX10_toneOf 41 = .ok (.aload_n 0, 1) ∧ decode cX10_toneOf 42 = .ok (.getfield 20, 3) ∧ decode cX10_toneOf 45 = .ok (.bipush 16, 2) ∧ decode cX10_toneOf 47 = .ok (.iload_n 2, 1) ∧ True := dqC_ok (c := cX10_toneOf) [(0, 1, some (.iconst 0)), (1, 2, some (.istore 4)), (3, 1, some (.iconst 0)), (4, 2, some (.istore 5)), (6, 1, some (.iconst 0)), (7, 2, some (.istore 6)), (9, 2, some (.iload 6)), (11, 1, some (.aload_n 0)), (12, 3, some (.getfield 13)), (15, 1, some (.iload_n 2)), (16, 1, some (.iaload)), (17, 3, some (.if_icmp .ge 103)), (20, 1, some (.aload_n 0)), (21, 1, some (.aload_n 0)), (22, 3, some (.getfield 13)), (25, 1, some (.iload_n 2)), (26, 1, some (.iaload)), (27, 2, some (.iload 6)), (29, 1, some (.aload_n 0)), (30, 3, some (.getfield 125)), (33, 2, some (.bipush 16)), (35, 1, some (.iload_n 3)), (36, 1, some (.imul)), (37, 2, some (.iload 6)), (39, 1, some (.iadd)), (40, 1, some (.iaload)), (41, 1, some (.aload_n 0)), (42, 3, some (.getfield 20)), (45, 2, some (.bipush 16)), (47, 1, some (.iload_n 2))] _ 0 rfl (by decide +kernel)
theorem dX10_toneOf_0 : decode cX10_toneOf 0 = .ok (.iconst 0, 1) := dq_g413.1
theorem dX10_toneOf_1 : decode cX10_toneOf 1 = .ok (.istore 4, 2) := dq_g413.2.1
theorem dX10_toneOf_3 : decode cX10_toneOf 3 = .ok (.iconst 0, 1) := dq_g413.2.2.1
theorem dX10_toneOf_4 : decode cX10_toneOf 4 = .ok (.istore 5, 2) := dq_g413.2.2.2.1
theorem dX10_toneOf_6 : decode cX10_toneOf 6 = .ok (.iconst 0, 1) := dq_g413.2.2.2.2.1
theorem dX10_toneOf_7 : decode cX10_toneOf 7 = .ok (.istore 6, 2) := dq_g413.2.2.2.2.2.1
theorem dX10_toneOf_9 : decode cX10_toneOf 9 = .ok (.iload 6, 2) := dq_g413.2.2.2.2.2.2.1
theorem dX10_toneOf_11 : decode cX10_toneOf 11 = .ok (.aload_n 0, 1) := dq_g413.2.2.2.2.2.2.2.1
theorem dX10_toneOf_12 : decode cX10_toneOf 12 = .ok (.getfield 13, 3) := dq_g413.2.2.2.2.2.2.2.2.1
theorem dX10_toneOf_15 : decode cX10_toneOf 15 = .ok (.iload_n 2, 1) := dq_g413.2.2.2.2.2.2.2.2.2.1
theorem dX10_toneOf_16 : decode cX10_toneOf 16 = .ok (.iaload, 1) := dq_g413.2.2.2.2.2.2.2.2.2.2.1
theorem dX10_toneOf_17 : decode cX10_toneOf 17 = .ok (.if_icmp .ge 103, 3) := dq_g413.2.2.2.2.2.2.2.2.2.2.2.1
theorem dX10_toneOf_20 : decode cX10_toneOf 20 = .ok (.aload_n 0, 1) := dq_g413.2.2.2.2.2.2.2.2.2.2.2.2.1
theorem dX10_toneOf_21 : decode cX10_toneOf 21 = .ok (.aload_n 0, 1) := dq_g413.2.2.2.2.2.2.2.2.2.2.2.2.2.1
theorem dX10_toneOf_22 : decode cX10_toneOf 22 = .ok (.getfield 13, 3) := dq_g413.2.2.2.2.2.2.2.2.2.2.2.2.2.2.1
theorem dX10_toneOf_25 : decode cX10_toneOf 25 = .ok (.iload_n 2, 1) := dq_g413.2.2.2.2.2.2.2.2.2.2.2.2.2.2.2.1
theorem dX10_toneOf_26 : decode cX10_toneOf 26 = .ok (.iaload, 1) := dq_g413.2.2.2.2.2.2.2.2.2.2.2.2.2.2.2.2.1
theorem dX10_toneOf_27 : decode cX10_toneOf 27 = .ok (.iload 6, 2) := dq_g413.2.2.2.2.2.2.2.2.2.2.2.2.2.2.2.2.2.1
theorem dX10_toneOf_29 : decode cX10_toneOf 29 = .ok (.aload_n 0, 1) := dq_g413.2.2.2.2.2.2.2.2.2.2.2.2.2.2.2.2.2.2.1
theorem dX10_toneOf_30 : decode cX10_toneOf 30 = .ok (.getfield 125, 3) := dq_g413.2.2.2.2.2.2.2.2.2.2.2.2.2.2.2.2.2.2.2.1
theorem dX10_toneOf_33 : decode cX10_toneOf 33 = .ok (.bipush 16, 2) := dq_g413.2.2.2.2.2.2.2.2.2.2.2.2.2.2.2.2.2.2.2.2.1
theorem dX10_toneOf_35 : decode cX10_toneOf 35 = .ok (.iload_n 3, 1) := dq_g413.2.2.2.2.2.2.2.2.2.2.2.2.2.2.2.2.2.2.2.2.2.1
theorem dX10_toneOf_36 : decode cX10_toneOf 36 = .ok (.imul, 1) := dq_g413.2.2.2.2.2.2.2.2.2.2.2.2.2.2.2.2.2.2.2.2.2.2.1
theorem dX10_toneOf_37 : decode cX10_toneOf 37 = .ok (.iload 6, 2) := dq_g413.2.2.2.2.2.2.2.2.2.2.2.2.2.2.2.2.2.2.2.2.2.2.2.1
theorem dX10_toneOf_39 : decode cX10_toneOf 39 = .ok (.iadd, 1) := dq_g413.2.2.2.2.2.2.2.2.2.2.2.2.2.2.2.2.2.2.2.2.2.2.2.2.1
theorem dX10_toneOf_40 : decode cX10_toneOf 40 = .ok (.iaload, 1) := dq_g413.2.2.2.2.2.2.2.2.2.2.2.2.2.2.2.2.2.2.2.2.2.2.2.2.2.1
theorem dX10_toneOf_41 : decode cX10_toneOf 41 = .ok (.aload_n 0, 1) := dq_g413.2.2.2.2.2.2.2.2.2.2.2.2.2.2.2.2.2.2.2.2.2.2.2.2.2.2.1
theorem dX10_toneOf_42 : decode cX10_toneOf 42 = .ok (.getfield 20, 3) := dq_g413.2.2.2.2.2.2.2.2.2.2.2.2.2.2.2.2.2.2.2.2.2.2.2.2.2.2.2.1
theorem dX10_toneOf_45 : decode cX10_toneOf 45 = .ok (.bipush 16, 2) := dq_g413.2.2.2.2.2.2.2.2.2.2.2.2.2.2.2.2.2.2.2.2.2.2.2.2.2.2.2.2.1
theorem dX10_toneOf_47 : decode cX10_toneOf 47 = .ok (.iload_n 2, 1) := dq_g413.2.2.2.2.2.2.2.2.2.2.2.2.2.2.2.2.2.2.2.2.2.2.2.2.2.2.2.2.2.1
theorem dq_g414 : decode cX10_toneOf 48 = .ok (.imul, 1) ∧ decode cX10_toneOf 49 = .ok (.iload 6, 2) ∧ decode cX10_toneOf 51 = .ok (.iadd, 1) ∧ decode cX10_toneOf 52 = .ok (.iaload, 1) ∧ decode cX10_toneOf 53 = .ok (.aload_n 0, 1) ∧ decode cX10_toneOf 54 = .ok (.getfield 23, 3) ∧ decode cX10_toneOf 57 = .ok (.bipush 16, 2) ∧ decode cX10_toneOf 59 = .ok (.iload_n 2, 1) ∧ decode cX10_toneOf 60 = .ok (.imul, 1) ∧ decode cX10_toneOf 61 = .ok (.iload 6, 2) ∧ decode cX10_toneOf 63 = .ok (.iadd, 1) ∧ decode cX10_toneOf 64 = .ok (.iaload, 1) ∧ decode cX10_toneOf 65 = .ok (.aload_n 0, 1) ∧ decode cX10_toneOf 66 = .ok (.getfield 128, 3) ∧ decode cX10_toneOf 69 = .ok (.bipush 16, 2) ∧ decode cX10_toneOf 71 = .ok (.iload_n 3, 1) ∧ decode cX10_toneOf 72 = .ok (.imul, 1) ∧ decode cX10_toneOf 73 = .ok (.iload 6, 2) ∧ decode cX10_toneOf 75 = .ok (.iadd, 1) ∧ decode cX10_toneOf 76 = .ok (.iaload, 1) ∧ decode cX10_toneOf 77 = .ok (.invokevirtual 312, 3) ∧ decode cX10_toneOf 80 = .ok (.iload 4, 2) ∧ decode cX10_toneOf 82 = .ok (.aload_n 0, 1) ∧ decode cX10_toneOf 83 = .ok (.iload_n 1, 1) ∧ decode cX10_toneOf 84 = .ok (.iconst 0, 1) ∧ decode cX10_toneOf 85 = .ok (.aload_n 0, 1) ∧ decode cX10_toneOf 86 = .ok (.getfield 119, 3) ∧ decode cX10_toneOf 89 = .ok (.iload_n 3, 1) ∧ decode cX10_toneOf 90 = .ok (.iaload, 1) ∧ decode cX10_toneOf 91 = .ok (.invokevirtual 319, 3) ∧ True := dqC_ok (c := cX10_toneOf) [(48, 1, some (.imul)), (49, 2, some (.iload 6)), (51, 1, some (.iadd)), (52, 1, some (.iaload)), (53, 1, some (.aload_n 0)), (54, 3, some (.getfield 23)), (57, 2, some (.bipush 16)), (59, 1, some (.iload_n 2)), (60, 1, some (.imul)), (61, 2, some (.iload 6)), (63, 1, some (.iadd)), (64, 1, some (.iaload)), (65, 1, some (.aload_n 0)), (66, 3, some (.getfield 128)), (69, 2, some (.bipush 16)), (71, 1, some (.iload_n 3)), (72, 1, some (.imul)), (73, 2, some (.iload 6)), (75, 1, some (.iadd)), (76, 1, some (.iaload)), (77, 3, some (.invokevirtual 312)), (80, 2, some (.iload 4)), (82, 1, some (.aload_n 0)), (83, 1, some (.iload_n 1)), (84, 1, some (.iconst 0)), (85, 1, some (.aload_n 0)), (86, 3, some (.getfield 119)), (89, 1, some (.iload_n 3)), (90, 1, some (.iaload)), (91, 3, some (.invokevirtual 319))] _ 48 rfl (by decide +kernel)
theorem dX10_toneOf_48 : decode cX10_toneOf 48 = .ok (.imul, 1) := dq_g414.1
theorem dX10_toneOf_49 : decode cX10_toneOf 49 = .ok (.iload 6, 2) := dq_g414.2.1
theorem dX10_toneOf_51 : decode cX10_toneOf 51 = .ok (.iadd, 1) := dq_g414.2.2.1
theorem dX10_toneOf_52 : decode cX10_toneOf 52 = .ok (.iaload, 1) := dq_g414.2.2.2.1
theorem dX10_toneOf_53 : decode cX10_toneOf 53 = .ok (.aload_n 0, 1) := dq_g414.2.2.2.2.1
theorem dX10_toneOf_54 : decode cX10_toneOf 54 = .ok (.getfield 23, 3) := dq_g414.2.2.2.2.2.1
theorem dX10_toneOf_57 : decode cX10_toneOf 57 = .ok (.bipush 16, 2) := dq_g414.2.2.2.2.2.2.1
theorem dX10_toneOf_59 : decode cX10_toneOf 59 = .ok (.iload_n 2, 1) := dq_g414.2.2.2.2.2.2.2.1
theorem dX10_toneOf_60 : decode cX10_toneOf 60 = .ok (.imul, 1) := dq_g414.2.2.2.2.2.2.2.2.1
theorem dX10_toneOf_61 : decode cX10_toneOf 61 = .ok (.iload 6, 2) := dq_g414.2.2.2.2.2.2.2.2.2.1
theorem dX10_toneOf_63 : decode cX10_toneOf 63 = .ok (.iadd, 1) := dq_g414.2.2.2.2.2.2.2.2.2.2.1
theorem dX10_toneOf_64 : decode cX10_toneOf 64 = .ok (.iaload, 1) := dq_g414.2.2.2.2.2.2.2.2.2.2.2.1
theorem dX10_toneOf_65 : decode cX10_toneOf 65 = .ok (.aload_n 0, 1) := dq_g414.2.2.2.2.2.2.2.2.2.2.2.2.1
theorem dX10_toneOf_66 : decode cX10_toneOf 66 = .ok (.getfield 128, 3) := dq_g414.2.2.2.2.2.2.2.2.2.2.2.2.2.1
theorem dX10_toneOf_69 : decode cX10_toneOf 69 = .ok (.bipush 16, 2) := dq_g414.2.2.2.2.2.2.2.2.2.2.2.2.2.2.1
theorem dX10_toneOf_71 : decode cX10_toneOf 71 = .ok (.iload_n 3, 1) := dq_g414.2.2.2.2.2.2.2.2.2.2.2.2.2.2.2.1
theorem dX10_toneOf_72 : decode cX10_toneOf 72 = .ok (.imul, 1) := dq_g414.2.2.2.2.2.2.2.2.2.2.2.2.2.2.2.2.1
theorem dX10_toneOf_73 : decode cX10_toneOf 73 = .ok (.iload 6, 2) := dq_g414.2.2.2.2.2.2.2.2.2.2.2.2.2.2.2.2.2.1
theorem dX10_toneOf_75 : decode cX10_toneOf 75 = .ok (.iadd, 1) := dq_g414.2.2.2.2.2.2.2.2.2.2.2.2.2.2.2.2.2.2.1
theorem dX10_toneOf_76 : decode cX10_toneOf 76 = .ok (.iaload, 1) := dq_g414.2.2.2.2.2.2.2.2.2.2.2.2.2.2.2.2.2.2.2.1
theorem dX10_toneOf_77 : decode cX10_toneOf 77 = .ok (.invokevirtual 312, 3) := dq_g414.2.2.2.2.2.2.2.2.2.2.2.2.2.2.2.2.2.2.2.2.1
theorem dX10_toneOf_80 : decode cX10_toneOf 80 = .ok (.iload 4, 2) := dq_g414.2.2.2.2.2.2.2.2.2.2.2.2.2.2.2.2.2.2.2.2.2.1
theorem dX10_toneOf_82 : decode cX10_toneOf 82 = .ok (.aload_n 0, 1) := dq_g414.2.2.2.2.2.2.2.2.2.2.2.2.2.2.2.2.2.2.2.2.2.2.1
theorem dX10_toneOf_83 : decode cX10_toneOf 83 = .ok (.iload_n 1, 1) := dq_g414.2.2.2.2.2.2.2.2.2.2.2.2.2.2.2.2.2.2.2.2.2.2.2.1
theorem dX10_toneOf_84 : decode cX10_toneOf 84 = .ok (.iconst 0, 1) := dq_g414.2.2.2.2.2.2.2.2.2.2.2.2.2.2.2.2.2.2.2.2.2.2.2.2.1
theorem dX10_toneOf_85 : decode cX10_toneOf 85 = .ok (.aload_n 0, 1) := dq_g414.2.2.2.2.2.2.2.2.2.2.2.2.2.2.2.2.2.2.2.2.2.2.2.2.2.1
theorem dX10_toneOf_86 : decode cX10_toneOf 86 = .ok (.getfield 119, 3) := dq_g414.2.2.2.2.2.2.2.2.2.2.2.2.2.2.2.2.2.2.2.2.2.2.2.2.2.2.1
theorem dX10_toneOf_89 : decode cX10_toneOf 89 = .ok (.iload_n 3, 1) := dq_g414.2.2.2.2.2.2.2.2.2.2.2.2.2.2.2.2.2.2.2.2.2.2.2.2.2.2.2.1
theorem dX10_toneOf_90 : decode cX10_toneOf 90 = .ok (.iaload, 1) := dq_g414.2.2.2.2.2.2.2.2.2.2.2.2.2.2.2.2.2.2.2.2.2.2.2.2.2.2.2.2.1
theorem dX10_toneOf_91 : decode cX10_toneOf 91 = .ok (.invokevirtual 319, 3) := dq_g414.2.2.2.2.2.2.2.2.2.2.2.2.2.2.2.2.2.2.2.2.2.2.2.2.2.2.2.2.2.1
theorem dq_g415 : decode cX10_toneOf 94 = .ok (.iadd, 1) ∧ decode cX10_toneOf 95 = .ok (.istore 4, 2) ∧ decode cX10_toneOf 97 = .ok (.iload 5, 2) ∧ decode cX10_toneOf 99 = .ok (.aload_n 0, 1) ∧ decode cX10_toneOf 100 = .ok (.iload_n 1, 1) ∧ decode cX10_toneOf 101 = .ok (.iconst 1, 1) ∧ decode cX10_toneOf 102 = .ok (.aload_n 0, 1) ∧ decode cX10_toneOf 103 = .ok (.getfield 119, 3) ∧ decode cX10_toneOf 106 = .ok (.iload_n 3, 1) ∧ decode cX10_toneOf 107 = .ok (.iaload, 1) ∧ decode cX10_toneOf 108 = .ok (.invokevirtual 319, 3) ∧ decode cX10_toneOf 111 = .ok (.iadd, 1) ∧ decode cX10_toneOf 112 = .ok (.istore 5, 2) ∧ decode cX10_toneOf 114 = .ok (.iinc 6 1, 3) ∧ decode cX10_toneOf 117 = .ok (.goto (-108), 3) ∧ decode cX10_toneOf 120 = .ok (.iload 5, 2) ∧ decode cX10_toneOf 122 = .ok (.ifCond .ne 7, 3) ∧ decode cX10_toneOf 125 = .ok (.iconst 0, 1) ∧ decode cX10_toneOf 126 = .ok (.goto 12, 3) ∧ decode cX10_toneOf 129 = .ok (.sipush 1000, 3) ∧ decode cX10_toneOf 132 = .ok (.iload 4, 2) ∧ decode cX10_toneOf 134 = .ok (.imul, 1) ∧ decode cX10_toneOf 135 = .ok (.iload 5, 2) ∧ decode cX10_toneOf 137 = .ok (.idiv, 1) ∧ decode cX10_toneOf 138 = .ok (.ireturn, 1) ∧ True := dqC_ok (c := cX10_toneOf) [(94, 1, some (.iadd)), (95, 2, some (.istore 4)), (97, 2, some (.iload 5)), (99, 1, some (.aload_n 0)), (100, 1, some (.iload_n 1)), (101, 1, some (.iconst 1)), (102, 1, some (.aload_n 0)), (103, 3, some (.getfield 119)), (106, 1, some (.iload_n 3)), (107, 1, some (.iaload)), (108, 3, some (.invokevirtual 319)), (111, 1, some (.iadd)), (112, 2, some (.istore 5)), (114, 3, some (.iinc 6 1)), (117, 3, some (.goto (-108))), (120, 2, some (.iload 5)), (122, 3, some (.ifCond .ne 7)), (125, 1, some (.iconst 0)), (126, 3, some (.goto 12)), (129, 3, some (.sipush 1000)), (132, 2, some (.iload 4)), (134, 1, some (.imul)), (135, 2, some (.iload 5)), (137, 1, some (.idiv)), (138, 1, some (.ireturn))] _ 94 rfl (by decide +kernel)
theorem dX10_toneOf_94 : decode cX10_toneOf 94 = .ok (.iadd, 1) := dq_g415.1
theorem dX10_toneOf_95 : decode cX10_toneOf 95 = .ok (.istore 4, 2) := dq_g415.2.1
theorem dX10_toneOf_97 : decode cX10_toneOf 97 = .ok (.iload 5, 2) := dq_g415.2.2.1
theorem dX10_toneOf_99 : decode cX10_toneOf 99 = .ok (.aload_n 0, 1) := dq_g415.2.2.2.1
theorem dX10_toneOf_100 : decode cX10_toneOf 100 = .ok (.iload_n 1, 1) := dq_g415.2.2.2.2.1
theorem dX10_toneOf_101 : decode cX10_toneOf 101 = .ok (.iconst 1, 1) := dq_g415.2.2.2.2.2.1
theorem dX10_toneOf_102 : decode cX10_toneOf 102 = .ok (.aload_n 0, 1) := dq_g415.2.2.2.2.2.2.1
theorem dX10_toneOf_103 : decode cX10_toneOf 103 = .ok (.getfield 119, 3) := dq_g415.2.2.2.2.2.2.2.1
theorem dX10_toneOf_106 : decode cX10_toneOf 106 = .ok (.iload_n 3, 1) := dq_g415.2.2.2.2.2.2.2.2.1
theorem dX10_toneOf_107 : decode cX10_toneOf 107 = .ok (.iaload, 1) := dq_g415.2.2.2.2.2.2.2.2.2.1
theorem dX10_toneOf_108 : decode cX10_toneOf 108 = .ok (.invokevirtual 319, 3) := dq_g415.2.2.2.2.2.2.2.2.2.2.1
theorem dX10_toneOf_111 : decode cX10_toneOf 111 = .ok (.iadd, 1) := dq_g415.2.2.2.2.2.2.2.2.2.2.2.1
theorem dX10_toneOf_112 : decode cX10_toneOf 112 = .ok (.istore 5, 2) := dq_g415.2.2.2.2.2.2.2.2.2.2.2.2.1
theorem dX10_toneOf_114 : decode cX10_toneOf 114 = .ok (.iinc 6 1, 3) := dq_g415.2.2.2.2.2.2.2.2.2.2.2.2.2.1
theorem dX10_toneOf_117 : decode cX10_toneOf 117 = .ok (.goto (-108), 3) := dq_g415.2.2.2.2.2.2.2.2.2.2.2.2.2.2.1
theorem dX10_toneOf_120 : decode cX10_toneOf 120 = .ok (.iload 5, 2) := dq_g415.2.2.2.2.2.2.2.2.2.2.2.2.2.2.2.1
theorem dX10_toneOf_122 : decode cX10_toneOf 122 = .ok (.ifCond .ne 7, 3) := dq_g415.2.2.2.2.2.2.2.2.2.2.2.2.2.2.2.2.1
theorem dX10_toneOf_125 : decode cX10_toneOf 125 = .ok (.iconst 0, 1) := dq_g415.2.2.2.2.2.2.2.2.2.2.2.2.2.2.2.2.2.1
theorem dX10_toneOf_126 : decode cX10_toneOf 126 = .ok (.goto 12, 3) := dq_g415.2.2.2.2.2.2.2.2.2.2.2.2.2.2.2.2.2.2.1
theorem dX10_toneOf_129 : decode cX10_toneOf 129 = .ok (.sipush 1000, 3) := dq_g415.2.2.2.2.2.2.2.2.2.2.2.2.2.2.2.2.2.2.2.1
theorem dX10_toneOf_132 : decode cX10_toneOf 132 = .ok (.iload 4, 2) := dq_g415.2.2.2.2.2.2.2.2.2.2.2.2.2.2.2.2.2.2.2.2.1
theorem dX10_toneOf_134 : decode cX10_toneOf 134 = .ok (.imul, 1) := dq_g415.2.2.2.2.2.2.2.2.2.2.2.2.2.2.2.2.2.2.2.2.2.1
theorem dX10_toneOf_135 : decode cX10_toneOf 135 = .ok (.iload 5, 2) := dq_g415.2.2.2.2.2.2.2.2.2.2.2.2.2.2.2.2.2.2.2.2.2.2.1
theorem dX10_toneOf_137 : decode cX10_toneOf 137 = .ok (.idiv, 1) := dq_g415.2.2.2.2.2.2.2.2.2.2.2.2.2.2.2.2.2.2.2.2.2.2.2.1
theorem dX10_toneOf_138 : decode cX10_toneOf 138 = .ok (.ireturn, 1) := dq_g415.2.2.2.2.2.2.2.2.2.2.2.2.2.2.2.2.2.2.2.2.2.2.2.2.1
theorem dq_g416 : decode cX10_fitsAll 0 = .ok (.bipush 12, 2) ∧ decode cX10_fitsAll 2 = .ok (.iload_n 1, 1) ∧ decode cX10_fitsAll 3 = .ok (.imul, 1) ∧ decode cX10_fitsAll 4 = .ok (.istore_n 3, 1) ∧ decode cX10_fitsAll 5 = .ok (.iload_n 3, 1) ∧ decode cX10_fitsAll 6 = .ok (.bipush 12, 2) ∧ decode cX10_fitsAll 8 = .ok (.iload_n 1, 1) ∧ decode cX10_fitsAll 9 = .ok (.imul, 1) ∧ decode cX10_fitsAll 10 = .ok (.aload_n 0, 1) ∧ decode cX10_fitsAll 11 = .ok (.getfield 116, 3) ∧ decode cX10_fitsAll 14 = .ok (.iload_n 1, 1) ∧ decode cX10_fitsAll 15 = .ok (.iaload, 1) ∧ decode cX10_fitsAll 16 = .ok (.iadd, 1) ∧ decode cX10_fitsAll 17 = .ok (.if_icmp .ge 36, 3) ∧ decode cX10_fitsAll 20 = .ok (.aload_n 0, 1) ∧ decode cX10_fitsAll 21 = .ok (.aload_n 0, 1) ∧ decode cX10_fitsAll 22 = .ok (.aload_n 0, 1) ∧ decode cX10_fitsAll 23 = .ok (.getfield 322, 3) ∧ decode cX10_fitsAll 26 = .ok (.iload_n 1, 1) ∧ decode cX10_fitsAll 27 = .ok (.iload_n 3, 1) ∧ decode cX10_fitsAll 28 = .ok (.invokevirtual 375, 3) ∧ decode cX10_fitsAll 31 = .ok (.aload_n 0, 1) ∧ decode cX10_fitsAll 32 = .ok (.getfield 122, 3) ∧ decode cX10_fitsAll 35 = .ok (.iload_n 3, 1) ∧ decode cX10_fitsAll 36 = .ok (.iaload, 1) ∧ decode cX10_fitsAll 37 = .ok (.isub, 1) ∧ decode cX10_fitsAll 38 = .ok (.invokevirtual 309, 3) ∧ decode cX10_fitsAll 41 = .ok (.iload_n 2, 1) ∧ decode cX10_fitsAll 42 = .ok (.if_icmp .le 5, 3) ∧ decode cX10_fitsAll 45 = .ok (.iconst 0, 1) ∧ True := dqC_ok (c := cX10_fitsAll) [(0, 2, some (.bipush 12)), (2, 1, some (.iload_n 1)), (3, 1, some (.imul)), (4, 1, some (.istore_n 3)), (5, 1, some (.iload_n 3)), (6, 2, some (.bipush 12)), (8, 1, some (.iload_n 1)), (9, 1, some (.imul)), (10, 1, some (.aload_n 0)), (11, 3, some (.getfield 116)), (14, 1, some (.iload_n 1)), (15, 1, some (.iaload)), (16, 1, some (.iadd)), (17, 3, some (.if_icmp .ge 36)), (20, 1, some (.aload_n 0)), (21, 1, some (.aload_n 0)), (22, 1, some (.aload_n 0)), (23, 3, some (.getfield 322)), (26, 1, some (.iload_n 1)), (27, 1, some (.iload_n 3)), (28, 3, some (.invokevirtual 375)), (31, 1, some (.aload_n 0)), (32, 3, some (.getfield 122)), (35, 1, some (.iload_n 3)), (36, 1, some (.iaload)), (37, 1, some (.isub)), (38, 3, some (.invokevirtual 309)), (41, 1, some (.iload_n 2)), (42, 3, some (.if_icmp .le 5)), (45, 1, some (.iconst 0))] _ 0 rfl (by decide +kernel)
theorem dX10_fitsAll_0 : decode cX10_fitsAll 0 = .ok (.bipush 12, 2) := dq_g416.1
theorem dX10_fitsAll_2 : decode cX10_fitsAll 2 = .ok (.iload_n 1, 1) := dq_g416.2.1
theorem dX10_fitsAll_3 : decode cX10_fitsAll 3 = .ok (.imul, 1) := dq_g416.2.2.1
theorem dX10_fitsAll_4 : decode cX10_fitsAll 4 = .ok (.istore_n 3, 1) := dq_g416.2.2.2.1
theorem dX10_fitsAll_5 : decode cX10_fitsAll 5 = .ok (.iload_n 3, 1) := dq_g416.2.2.2.2.1
theorem dX10_fitsAll_6 : decode cX10_fitsAll 6 = .ok (.bipush 12, 2) := dq_g416.2.2.2.2.2.1
theorem dX10_fitsAll_8 : decode cX10_fitsAll 8 = .ok (.iload_n 1, 1) := dq_g416.2.2.2.2.2.2.1
theorem dX10_fitsAll_9 : decode cX10_fitsAll 9 = .ok (.imul, 1) := dq_g416.2.2.2.2.2.2.2.1
theorem dX10_fitsAll_10 : decode cX10_fitsAll 10 = .ok (.aload_n 0, 1) := dq_g416.2.2.2.2.2.2.2.2.1
theorem dX10_fitsAll_11 : decode cX10_fitsAll 11 = .ok (.getfield 116, 3) := dq_g416.2.2.2.2.2.2.2.2.2.1
theorem dX10_fitsAll_14 : decode cX10_fitsAll 14 = .ok (.iload_n 1, 1) := dq_g416.2.2.2.2.2.2.2.2.2.2.1
theorem dX10_fitsAll_15 : decode cX10_fitsAll 15 = .ok (.iaload, 1) := dq_g416.2.2.2.2.2.2.2.2.2.2.2.1
theorem dX10_fitsAll_16 : decode cX10_fitsAll 16 = .ok (.iadd, 1) := dq_g416.2.2.2.2.2.2.2.2.2.2.2.2.1
theorem dX10_fitsAll_17 : decode cX10_fitsAll 17 = .ok (.if_icmp .ge 36, 3) := dq_g416.2.2.2.2.2.2.2.2.2.2.2.2.2.1
theorem dX10_fitsAll_20 : decode cX10_fitsAll 20 = .ok (.aload_n 0, 1) := dq_g416.2.2.2.2.2.2.2.2.2.2.2.2.2.2.1
theorem dX10_fitsAll_21 : decode cX10_fitsAll 21 = .ok (.aload_n 0, 1) := dq_g416.2.2.2.2.2.2.2.2.2.2.2.2.2.2.2.1
theorem dX10_fitsAll_22 : decode cX10_fitsAll 22 = .ok (.aload_n 0, 1) := dq_g416.2.2.2.2.2.2.2.2.2.2.2.2.2.2.2.2.1
theorem dX10_fitsAll_23 : decode cX10_fitsAll 23 = .ok (.getfield 322, 3) := dq_g416.2.2.2.2.2.2.2.2.2.2.2.2.2.2.2.2.2.1
theorem dX10_fitsAll_26 : decode cX10_fitsAll 26 = .ok (.iload_n 1, 1) := dq_g416.2.2.2.2.2.2.2.2.2.2.2.2.2.2.2.2.2.2.1
theorem dX10_fitsAll_27 : decode cX10_fitsAll 27 = .ok (.iload_n 3, 1) := dq_g416.2.2.2.2.2.2.2.2.2.2.2.2.2.2.2.2.2.2.2.1
theorem dX10_fitsAll_28 : decode cX10_fitsAll 28 = .ok (.invokevirtual 375, 3) := dq_g416.2.2.2.2.2.2.2.2.2.2.2.2.2.2.2.2.2.2.2.2.1
theorem dX10_fitsAll_31 : decode cX10_fitsAll 31 = .ok (.aload_n 0, 1) := dq_g416.2.2.2.2.2.2.2.2.2.2.2.2.2.2.2.2.2.2.2.2.2.1
theorem dX10_fitsAll_32 : decode cX10_fitsAll 32 = .ok (.getfield 122, 3) := dq_g416.2.2.2.2.2.2.2.2.2.2.2.2.2.2.2.2.2.2.2.2.2.2.1
theorem dX10_fitsAll_35 : decode cX10_fitsAll 35 = .ok (.iload_n 3, 1) := dq_g416.2.2.2.2.2.2.2.2.2.2.2.2.2.2.2.2.2.2.2.2.2.2.2.1
theorem dX10_fitsAll_36 : decode cX10_fitsAll 36 = .ok (.iaload, 1) := dq_g416.2.2.2.2.2.2.2.2.2.2.2.2.2.2.2.2.2.2.2.2.2.2.2.2.1
theorem dX10_fitsAll_37 : decode cX10_fitsAll 37 = .ok (.isub, 1) := dq_g416.2.2.2.2.2.2.2.2.2.2.2.2.2.2.2.2.2.2.2.2.2.2.2.2.2.1
theorem dX10_fitsAll_38 : decode cX10_fitsAll 38 = .ok (.invokevirtual 309, 3) := dq_g416.2.2.2.2.2.2.2.2.2.2.2.2.2.2.2.2.2.2.2.2.2.2.2.2.2.2.1
theorem dX10_fitsAll_41 : decode cX10_fitsAll 41 = .ok (.iload_n 2, 1) := dq_g416.2.2.2.2.2.2.2.2.2.2.2.2.2.2.2.2.2.2.2.2.2.2.2.2.2.2.2.1
theorem dX10_fitsAll_42 : decode cX10_fitsAll 42 = .ok (.if_icmp .le 5, 3) := dq_g416.2.2.2.2.2.2.2.2.2.2.2.2.2.2.2.2.2.2.2.2.2.2.2.2.2.2.2.2.1
theorem dX10_fitsAll_45 : decode cX10_fitsAll 45 = .ok (.iconst 0, 1) := dq_g416.2.2.2.2.2.2.2.2.2.2.2.2.2.2.2.2.2.2.2.2.2.2.2.2.2.2.2.2.2.1
theorem dq_g417 : decode cX10_fitsAll 46 = .ok (.ireturn, 1) ∧ decode cX10_fitsAll 47 = .ok (.iinc 3 1, 3) ∧ decode cX10_fitsAll 50 = .ok (.goto (-45), 3) ∧ decode cX10_fitsAll 53 = .ok (.iconst 1, 1) ∧ decode cX10_fitsAll 54 = .ok (.ireturn, 1) ∧ True := dqC_ok (c := cX10_fitsAll) [(46, 1, some (.ireturn)), (47, 3, some (.iinc 3 1)), (50, 3, some (.goto (-45))), (53, 1, some (.iconst 1)), (54, 1, some (.ireturn))] _ 46 rfl (by decide +kernel)
theorem dX10_fitsAll_46 : decode cX10_fitsAll 46 = .ok (.ireturn, 1) := dq_g417.1
theorem dX10_fitsAll_47 : decode cX10_fitsAll 47 = .ok (.iinc 3 1, 3) := dq_g417.2.1
theorem dX10_fitsAll_50 : decode cX10_fitsAll 50 = .ok (.goto (-45), 3) := dq_g417.2.2.1
theorem dX10_fitsAll_53 : decode cX10_fitsAll 53 = .ok (.iconst 1, 1) := dq_g417.2.2.2.1
theorem dX10_fitsAll_54 : decode cX10_fitsAll 54 = .ok (.ireturn, 1) := dq_g417.2.2.2.2.1
theorem dq_g418 : decode cX10_findsFits 0 = .ok (.aload_n 0, 1) ∧ decode cX10_findsFits 1 = .ok (.getfield 13, 3) ∧ decode cX10_findsFits 4 = .ok (.iload_n 1, 1) ∧ decode cX10_findsFits 5 = .ok (.iaload, 1) ∧ decode cX10_findsFits 6 = .ok (.istore 4, 2) ∧ decode cX10_findsFits 8 = .ok (.iconst 0, 1) ∧ decode cX10_findsFits 9 = .ok (.istore 5, 2) ∧ decode cX10_findsFits 11 = .ok (.iload 5, 2) ∧ decode cX10_findsFits 13 = .ok (.iload 4, 2) ∧ decode cX10_findsFits 15 = .ok (.if_icmp .ge 36, 3) ∧ decode cX10_findsFits 18 = .ok (.aload_n 0, 1) ∧ decode cX10_findsFits 19 = .ok (.getfield 131, 3) ∧ decode cX10_findsFits 22 = .ok (.iload 5, 2) ∧ decode cX10_findsFits 24 = .ok (.aload_n 0, 1) ∧ decode cX10_findsFits 25 = .ok (.getfield 20, 3) ∧ decode cX10_findsFits 28 = .ok (.bipush 16, 2) ∧ decode cX10_findsFits 30 = .ok (.iload_n 1, 1) ∧ decode cX10_findsFits 31 = .ok (.imul, 1) ∧ decode cX10_findsFits 32 = .ok (.iload 5, 2) ∧ decode cX10_findsFits 34 = .ok (.iadd, 1) ∧ decode cX10_findsFits 35 = .ok (.iaload, 1) ∧ decode cX10_findsFits 36 = .ok (.iastore, 1) ∧ decode cX10_findsFits 37 = .ok (.aload_n 0, 1) ∧ decode cX10_findsFits 38 = .ok (.getfield 101, 3) ∧ decode cX10_findsFits 41 = .ok (.iload 5, 2) ∧ decode cX10_findsFits 43 = .ok (.iconst 0, 1) ∧ decode cX10_findsFits 44 = .ok (.iastore, 1) ∧ decode cX10_findsFits 45 = .ok (.iinc 5 1, 3) ∧ decode cX10_findsFits 48 = .ok (.goto (-37), 3) ∧ decode cX10_findsFits 51 = .ok (.aload_n 0, 1) ∧ True := dqC_ok (c := cX10_findsFits) [(0, 1, some (.aload_n 0)), (1, 3, some (.getfield 13)), (4, 1, some (.iload_n 1)), (5, 1, some (.iaload)), (6, 2, some (.istore 4)), (8, 1, some (.iconst 0)), (9, 2, some (.istore 5)), (11, 2, some (.iload 5)), (13, 2, some (.iload 4)), (15, 3, some (.if_icmp .ge 36)), (18, 1, some (.aload_n 0)), (19, 3, some (.getfield 131)), (22, 2, some (.iload 5)), (24, 1, some (.aload_n 0)), (25, 3, some (.getfield 20)), (28, 2, some (.bipush 16)), (30, 1, some (.iload_n 1)), (31, 1, some (.imul)), (32, 2, some (.iload 5)), (34, 1, some (.iadd)), (35, 1, some (.iaload)), (36, 1, some (.iastore)), (37, 1, some (.aload_n 0)), (38, 3, some (.getfield 101)), (41, 2, some (.iload 5)), (43, 1, some (.iconst 0)), (44, 1, some (.iastore)), (45, 3, some (.iinc 5 1)), (48, 3, some (.goto (-37))), (51, 1, some (.aload_n 0))] _ 0 rfl (by decide +kernel)
theorem dX10_findsFits_0 : decode cX10_findsFits 0 = .ok (.aload_n 0, 1) := dq_g418.1
theorem dX10_findsFits_1 : decode cX10_findsFits 1 = .ok (.getfield 13, 3) := dq_g418.2.1
theorem dX10_findsFits_4 : decode cX10_findsFits 4 = .ok (.iload_n 1, 1) := dq_g418.2.2.1
theorem dX10_findsFits_5 : decode cX10_findsFits 5 = .ok (.iaload, 1) := dq_g418.2.2.2.1
theorem dX10_findsFits_6 : decode cX10_findsFits 6 = .ok (.istore 4, 2) := dq_g418.2.2.2.2.1
theorem dX10_findsFits_8 : decode cX10_findsFits 8 = .ok (.iconst 0, 1) := dq_g418.2.2.2.2.2.1
theorem dX10_findsFits_9 : decode cX10_findsFits 9 = .ok (.istore 5, 2) := dq_g418.2.2.2.2.2.2.1
theorem dX10_findsFits_11 : decode cX10_findsFits 11 = .ok (.iload 5, 2) := dq_g418.2.2.2.2.2.2.2.1
theorem dX10_findsFits_13 : decode cX10_findsFits 13 = .ok (.iload 4, 2) := dq_g418.2.2.2.2.2.2.2.2.1
theorem dX10_findsFits_15 : decode cX10_findsFits 15 = .ok (.if_icmp .ge 36, 3) := dq_g418.2.2.2.2.2.2.2.2.2.1
theorem dX10_findsFits_18 : decode cX10_findsFits 18 = .ok (.aload_n 0, 1) := dq_g418.2.2.2.2.2.2.2.2.2.2.1
theorem dX10_findsFits_19 : decode cX10_findsFits 19 = .ok (.getfield 131, 3) := dq_g418.2.2.2.2.2.2.2.2.2.2.2.1
theorem dX10_findsFits_22 : decode cX10_findsFits 22 = .ok (.iload 5, 2) := dq_g418.2.2.2.2.2.2.2.2.2.2.2.2.1
theorem dX10_findsFits_24 : decode cX10_findsFits 24 = .ok (.aload_n 0, 1) := dq_g418.2.2.2.2.2.2.2.2.2.2.2.2.2.1
theorem dX10_findsFits_25 : decode cX10_findsFits 25 = .ok (.getfield 20, 3) := dq_g418.2.2.2.2.2.2.2.2.2.2.2.2.2.2.1
theorem dX10_findsFits_28 : decode cX10_findsFits 28 = .ok (.bipush 16, 2) := dq_g418.2.2.2.2.2.2.2.2.2.2.2.2.2.2.2.1
theorem dX10_findsFits_30 : decode cX10_findsFits 30 = .ok (.iload_n 1, 1) := dq_g418.2.2.2.2.2.2.2.2.2.2.2.2.2.2.2.2.1
theorem dX10_findsFits_31 : decode cX10_findsFits 31 = .ok (.imul, 1) := dq_g418.2.2.2.2.2.2.2.2.2.2.2.2.2.2.2.2.2.1
theorem dX10_findsFits_32 : decode cX10_findsFits 32 = .ok (.iload 5, 2) := dq_g418.2.2.2.2.2.2.2.2.2.2.2.2.2.2.2.2.2.2.1
theorem dX10_findsFits_34 : decode cX10_findsFits 34 = .ok (.iadd, 1) := dq_g418.2.2.2.2.2.2.2.2.2.2.2.2.2.2.2.2.2.2.2.1
theorem dX10_findsFits_35 : decode cX10_findsFits 35 = .ok (.iaload, 1) := dq_g418.2.2.2.2.2.2.2.2.2.2.2.2.2.2.2.2.2.2.2.2.1
theorem dX10_findsFits_36 : decode cX10_findsFits 36 = .ok (.iastore, 1) := dq_g418.2.2.2.2.2.2.2.2.2.2.2.2.2.2.2.2.2.2.2.2.2.1
theorem dX10_findsFits_37 : decode cX10_findsFits 37 = .ok (.aload_n 0, 1) := dq_g418.2.2.2.2.2.2.2.2.2.2.2.2.2.2.2.2.2.2.2.2.2.2.1
theorem dX10_findsFits_38 : decode cX10_findsFits 38 = .ok (.getfield 101, 3) := dq_g418.2.2.2.2.2.2.2.2.2.2.2.2.2.2.2.2.2.2.2.2.2.2.2.1
theorem dX10_findsFits_41 : decode cX10_findsFits 41 = .ok (.iload 5, 2) := dq_g418.2.2.2.2.2.2.2.2.2.2.2.2.2.2.2.2.2.2.2.2.2.2.2.2.1
theorem dX10_findsFits_43 : decode cX10_findsFits 43 = .ok (.iconst 0, 1) := dq_g418.2.2.2.2.2.2.2.2.2.2.2.2.2.2.2.2.2.2.2.2.2.2.2.2.2.1
theorem dX10_findsFits_44 : decode cX10_findsFits 44 = .ok (.iastore, 1) := dq_g418.2.2.2.2.2.2.2.2.2.2.2.2.2.2.2.2.2.2.2.2.2.2.2.2.2.2.1
theorem dX10_findsFits_45 : decode cX10_findsFits 45 = .ok (.iinc 5 1, 3) := dq_g418.2.2.2.2.2.2.2.2.2.2.2.2.2.2.2.2.2.2.2.2.2.2.2.2.2.2.2.1
theorem dX10_findsFits_48 : decode cX10_findsFits 48 = .ok (.goto (-37), 3) := dq_g418.2.2.2.2.2.2.2.2.2.2.2.2.2.2.2.2.2.2.2.2.2.2.2.2.2.2.2.2.1
theorem dX10_findsFits_51 : decode cX10_findsFits 51 = .ok (.aload_n 0, 1) := dq_g418.2.2.2.2.2.2.2.2.2.2.2.2.2.2.2.2.2.2.2.2.2.2.2.2.2.2.2.2.2.1
theorem dq_g419 : decode cX10_findsFits 52 = .ok (.iconst 0, 1) ∧ decode cX10_findsFits 53 = .ok (.putfield 378, 3) ∧ decode cX10_findsFits 56 = .ok (.iconst 1, 1) ∧ decode cX10_findsFits 57 = .ok (.istore 5, 2) ∧ decode cX10_findsFits 59 = .ok (.iload 5, 2) ∧ decode cX10_findsFits 61 = .ok (.ifCond .eq 110, 3) ∧ decode cX10_findsFits 64 = .ok (.iconst 0, 1) ∧ decode cX10_findsFits 65 = .ok (.istore 6, 2) ∧ decode cX10_findsFits 67 = .ok (.iload 6, 2) ∧ decode cX10_findsFits 69 = .ok (.iload 4, 2) ∧ decode cX10_findsFits 71 = .ok (.if_icmp .ge 30, 3) ∧ decode cX10_findsFits 74 = .ok (.aload_n 0, 1) ∧ decode cX10_findsFits 75 = .ok (.getfield 20, 3) ∧ decode cX10_findsFits 78 = .ok (.bipush 16, 2) ∧ decode cX10_findsFits 80 = .ok (.iload_n 1, 1) ∧ decode cX10_findsFits 81 = .ok (.imul, 1) ∧ decode cX10_findsFits 82 = .ok (.iload 6, 2) ∧ decode cX10_findsFits 84 = .ok (.iadd, 1) ∧ decode cX10_findsFits 85 = .ok (.aload_n 0, 1) ∧ decode cX10_findsFits 86 = .ok (.getfield 101, 3) ∧ decode cX10_findsFits 89 = .ok (.iload 6, 2) ∧ decode cX10_findsFits 91 = .ok (.iaload, 1) ∧ decode cX10_findsFits 92 = .ok (.iconst 1, 1) ∧ decode cX10_findsFits 93 = .ok (.iadd, 1) ∧ decode cX10_findsFits 94 = .ok (.iastore, 1) ∧ decode cX10_findsFits 95 = .ok (.iinc 6 1, 3) ∧ decode cX10_findsFits 98 = .ok (.goto (-31), 3) ∧ decode cX10_findsFits 101 = .ok (.aload_n 0, 1) ∧ decode cX10_findsFits 102 = .ok (.iload_n 1, 1) ∧ decode cX10_findsFits 103 = .ok (.iload_n 3, 1) ∧ True := dqC_ok (c := cX10_findsFits) [(52, 1, some (.iconst 0)), (53, 3, some (.putfield 378)), (56, 1, some (.iconst 1)), (57, 2, some (.istore 5)), (59, 2, some (.iload 5)), (61, 3, some (.ifCond .eq 110)), (64, 1, some (.iconst 0)), (65, 2, some (.istore 6)), (67, 2, some (.iload 6)), (69, 2, some (.iload 4)), (71, 3, some (.if_icmp .ge 30)), (74, 1, some (.aload_n 0)), (75, 3, some (.getfield 20)), (78, 2, some (.bipush 16)), (80, 1, some (.iload_n 1)), (81, 1, some (.imul)), (82, 2, some (.iload 6)), (84, 1, some (.iadd)), (85, 1, some (.aload_n 0)), (86, 3, some (.getfield 101)), (89, 2, some (.iload 6)), (91, 1, some (.iaload)), (92, 1, some (.iconst 1)), (93, 1, some (.iadd)), (94, 1, some (.iastore)), (95, 3, some (.iinc 6 1)), (98, 3, some (.goto (-31))), (101, 1, some (.aload_n 0)), (102, 1, some (.iload_n 1)), (103, 1, some (.iload_n 3))] _ 52 rfl (by decide +kernel)
theorem dX10_findsFits_52 : decode cX10_findsFits 52 = .ok (.iconst 0, 1) := dq_g419.1
theorem dX10_findsFits_53 : decode cX10_findsFits 53 = .ok (.putfield 378, 3) := dq_g419.2.1
theorem dX10_findsFits_56 : decode cX10_findsFits 56 = .ok (.iconst 1, 1) := dq_g419.2.2.1
theorem dX10_findsFits_57 : decode cX10_findsFits 57 = .ok (.istore 5, 2) := dq_g419.2.2.2.1
theorem dX10_findsFits_59 : decode cX10_findsFits 59 = .ok (.iload 5, 2) := dq_g419.2.2.2.2.1
theorem dX10_findsFits_61 : decode cX10_findsFits 61 = .ok (.ifCond .eq 110, 3) := dq_g419.2.2.2.2.2.1
theorem dX10_findsFits_64 : decode cX10_findsFits 64 = .ok (.iconst 0, 1) := dq_g419.2.2.2.2.2.2.1
theorem dX10_findsFits_65 : decode cX10_findsFits 65 = .ok (.istore 6, 2) := dq_g419.2.2.2.2.2.2.2.1
theorem dX10_findsFits_67 : decode cX10_findsFits 67 = .ok (.iload 6, 2) := dq_g419.2.2.2.2.2.2.2.2.1
theorem dX10_findsFits_69 : decode cX10_findsFits 69 = .ok (.iload 4, 2) := dq_g419.2.2.2.2.2.2.2.2.2.1
theorem dX10_findsFits_71 : decode cX10_findsFits 71 = .ok (.if_icmp .ge 30, 3) := dq_g419.2.2.2.2.2.2.2.2.2.2.1
theorem dX10_findsFits_74 : decode cX10_findsFits 74 = .ok (.aload_n 0, 1) := dq_g419.2.2.2.2.2.2.2.2.2.2.2.1
theorem dX10_findsFits_75 : decode cX10_findsFits 75 = .ok (.getfield 20, 3) := dq_g419.2.2.2.2.2.2.2.2.2.2.2.2.1
theorem dX10_findsFits_78 : decode cX10_findsFits 78 = .ok (.bipush 16, 2) := dq_g419.2.2.2.2.2.2.2.2.2.2.2.2.2.1
theorem dX10_findsFits_80 : decode cX10_findsFits 80 = .ok (.iload_n 1, 1) := dq_g419.2.2.2.2.2.2.2.2.2.2.2.2.2.2.1
theorem dX10_findsFits_81 : decode cX10_findsFits 81 = .ok (.imul, 1) := dq_g419.2.2.2.2.2.2.2.2.2.2.2.2.2.2.2.1
theorem dX10_findsFits_82 : decode cX10_findsFits 82 = .ok (.iload 6, 2) := dq_g419.2.2.2.2.2.2.2.2.2.2.2.2.2.2.2.2.1
theorem dX10_findsFits_84 : decode cX10_findsFits 84 = .ok (.iadd, 1) := dq_g419.2.2.2.2.2.2.2.2.2.2.2.2.2.2.2.2.2.1
theorem dX10_findsFits_85 : decode cX10_findsFits 85 = .ok (.aload_n 0, 1) := dq_g419.2.2.2.2.2.2.2.2.2.2.2.2.2.2.2.2.2.2.1
theorem dX10_findsFits_86 : decode cX10_findsFits 86 = .ok (.getfield 101, 3) := dq_g419.2.2.2.2.2.2.2.2.2.2.2.2.2.2.2.2.2.2.2.1
theorem dX10_findsFits_89 : decode cX10_findsFits 89 = .ok (.iload 6, 2) := dq_g419.2.2.2.2.2.2.2.2.2.2.2.2.2.2.2.2.2.2.2.2.1
theorem dX10_findsFits_91 : decode cX10_findsFits 91 = .ok (.iaload, 1) := dq_g419.2.2.2.2.2.2.2.2.2.2.2.2.2.2.2.2.2.2.2.2.2.1
theorem dX10_findsFits_92 : decode cX10_findsFits 92 = .ok (.iconst 1, 1) := dq_g419.2.2.2.2.2.2.2.2.2.2.2.2.2.2.2.2.2.2.2.2.2.2.1
theorem dX10_findsFits_93 : decode cX10_findsFits 93 = .ok (.iadd, 1) := dq_g419.2.2.2.2.2.2.2.2.2.2.2.2.2.2.2.2.2.2.2.2.2.2.2.1
theorem dX10_findsFits_94 : decode cX10_findsFits 94 = .ok (.iastore, 1) := dq_g419.2.2.2.2.2.2.2.2.2.2.2.2.2.2.2.2.2.2.2.2.2.2.2.2.1
theorem dX10_findsFits_95 : decode cX10_findsFits 95 = .ok (.iinc 6 1, 3) := dq_g419.2.2.2.2.2.2.2.2.2.2.2.2.2.2.2.2.2.2.2.2.2.2.2.2.2.1
theorem dX10_findsFits_98 : decode cX10_findsFits 98 = .ok (.goto (-31), 3) := dq_g419.2.2.2.2.2.2.2.2.2.2.2.2.2.2.2.2.2.2.2.2.2.2.2.2.2.2.1
theorem dX10_findsFits_101 : decode cX10_findsFits 101 = .ok (.aload_n 0, 1) := dq_g419.2.2.2.2.2.2.2.2.2.2.2.2.2.2.2.2.2.2.2.2.2.2.2.2.2.2.2.1
theorem dX10_findsFits_102 : decode cX10_findsFits 102 = .ok (.iload_n 1, 1) := dq_g419.2.2.2.2.2.2.2.2.2.2.2.2.2.2.2.2.2.2.2.2.2.2.2.2.2.2.2.2.1
theorem dX10_findsFits_103 : decode cX10_findsFits 103 = .ok (.iload_n 3, 1) := dq_g419.2.2.2.2.2.2.2.2.2.2.2.2.2.2.2.2.2.2.2.2.2.2.2.2.2.2.2.2.2.1
theorem dq_g420 : decode cX10_findsFits 104 = .ok (.invokevirtual 381, 3) ∧ decode cX10_findsFits 107 = .ok (.ifCond .eq 52, 3) ∧ decode cX10_findsFits 110 = .ok (.iconst 0, 1) ∧ decode cX10_findsFits 111 = .ok (.istore 6, 2) ∧ decode cX10_findsFits 113 = .ok (.iload 6, 2) ∧ decode cX10_findsFits 115 = .ok (.iload 4, 2) ∧ decode cX10_findsFits 117 = .ok (.if_icmp .ge 32, 3) ∧ decode cX10_findsFits 120 = .ok (.aload_n 0, 1) ∧ decode cX10_findsFits 121 = .ok (.getfield 134, 3) ∧ decode cX10_findsFits 124 = .ok (.iconst 5, 1) ∧ decode cX10_findsFits 125 = .ok (.aload_n 0, 1) ∧ decode cX10_findsFits 126 = .ok (.getfield 378, 3) ∧ decode cX10_findsFits 129 = .ok (.imul, 1) ∧ decode cX10_findsFits 130 = .ok (.iload 6, 2) ∧ decode cX10_findsFits 132 = .ok (.iadd, 1) ∧ decode cX10_findsFits 133 = .ok (.aload_n 0, 1) ∧ decode cX10_findsFits 134 = .ok (.getfield 101, 3) ∧ decode cX10_findsFits 137 = .ok (.iload 6, 2) ∧ decode cX10_findsFits 139 = .ok (.iaload, 1) ∧ decode cX10_findsFits 140 = .ok (.iconst 1, 1) ∧ decode cX10_findsFits 141 = .ok (.iadd, 1) ∧ decode cX10_findsFits 142 = .ok (.iastore, 1) ∧ decode cX10_findsFits 143 = .ok (.iinc 6 1, 3) ∧ decode cX10_findsFits 146 = .ok (.goto (-33), 3) ∧ decode cX10_findsFits 149 = .ok (.aload_n 0, 1) ∧ decode cX10_findsFits 150 = .ok (.aload_n 0, 1) ∧ decode cX10_findsFits 151 = .ok (.getfield 378, 3) ∧ decode cX10_findsFits 154 = .ok (.iconst 1, 1) ∧ decode cX10_findsFits 155 = .ok (.iadd, 1) ∧ decode cX10_findsFits 156 = .ok (.putfield 378, 3) ∧ True := dqC_ok (c := cX10_findsFits) [(104, 3, some (.invokevirtual 381)), (107, 3, some (.ifCond .eq 52)), (110, 1, some (.iconst 0)), (111, 2, some (.istore 6)), (113, 2, some (.iload 6)), (115, 2, some (.iload 4)), (117, 3, some (.if_icmp .ge 32)), (120, 1, some (.aload_n 0)), (121, 3, some (.getfield 134)), (124, 1, some (.iconst 5)), (125, 1, some (.aload_n 0)), (126, 3, some (.getfield 378)), (129, 1, some (.imul)), (130, 2, some (.iload 6)), (132, 1, some (.iadd)), (133, 1, some (.aload_n 0)), (134, 3, some (.getfield 101)), (137, 2, some (.iload 6)), (139, 1, some (.iaload)), (140, 1, some (.iconst 1)), (141, 1, some (.iadd)), (142, 1, some (.iastore)), (143, 3, some (.iinc 6 1)), (146, 3, some (.goto (-33))), (149, 1, some (.aload_n 0)), (150, 1, some (.aload_n 0)), (151, 3, some (.getfield 378)), (154, 1, some (.iconst 1)), (155, 1, some (.iadd)), (156, 3, some (.putfield 378))] _ 104 rfl (by decide +kernel)
theorem dX10_findsFits_104 : decode cX10_findsFits 104 = .ok (.invokevirtual 381, 3) := dq_g420.1
theorem dX10_findsFits_107 : decode cX10_findsFits 107 = .ok (.ifCond .eq 52, 3) := dq_g420.2.1
theorem dX10_findsFits_110 : decode cX10_findsFits 110 = .ok (.iconst 0, 1) := dq_g420.2.2.1
theorem dX10_findsFits_111 : decode cX10_findsFits 111 = .ok (.istore 6, 2) := dq_g420.2.2.2.1
theorem dX10_findsFits_113 : decode cX10_findsFits 113 = .ok (.iload 6, 2) := dq_g420.2.2.2.2.1
theorem dX10_findsFits_115 : decode cX10_findsFits 115 = .ok (.iload 4, 2) := dq_g420.2.2.2.2.2.1
theorem dX10_findsFits_117 : decode cX10_findsFits 117 = .ok (.if_icmp .ge 32, 3) := dq_g420.2.2.2.2.2.2.1
theorem dX10_findsFits_120 : decode cX10_findsFits 120 = .ok (.aload_n 0, 1) := dq_g420.2.2.2.2.2.2.2.1
theorem dX10_findsFits_121 : decode cX10_findsFits 121 = .ok (.getfield 134, 3) := dq_g420.2.2.2.2.2.2.2.2.1
theorem dX10_findsFits_124 : decode cX10_findsFits 124 = .ok (.iconst 5, 1) := dq_g420.2.2.2.2.2.2.2.2.2.1
theorem dX10_findsFits_125 : decode cX10_findsFits 125 = .ok (.aload_n 0, 1) := dq_g420.2.2.2.2.2.2.2.2.2.2.1
theorem dX10_findsFits_126 : decode cX10_findsFits 126 = .ok (.getfield 378, 3) := dq_g420.2.2.2.2.2.2.2.2.2.2.2.1
theorem dX10_findsFits_129 : decode cX10_findsFits 129 = .ok (.imul, 1) := dq_g420.2.2.2.2.2.2.2.2.2.2.2.2.1
theorem dX10_findsFits_130 : decode cX10_findsFits 130 = .ok (.iload 6, 2) := dq_g420.2.2.2.2.2.2.2.2.2.2.2.2.2.1
theorem dX10_findsFits_132 : decode cX10_findsFits 132 = .ok (.iadd, 1) := dq_g420.2.2.2.2.2.2.2.2.2.2.2.2.2.2.1
theorem dX10_findsFits_133 : decode cX10_findsFits 133 = .ok (.aload_n 0, 1) := dq_g420.2.2.2.2.2.2.2.2.2.2.2.2.2.2.2.1
theorem dX10_findsFits_134 : decode cX10_findsFits 134 = .ok (.getfield 101, 3) := dq_g420.2.2.2.2.2.2.2.2.2.2.2.2.2.2.2.2.1
theorem dX10_findsFits_137 : decode cX10_findsFits 137 = .ok (.iload 6, 2) := dq_g420.2.2.2.2.2.2.2.2.2.2.2.2.2.2.2.2.2.1
theorem dX10_findsFits_139 : decode cX10_findsFits 139 = .ok (.iaload, 1) := dq_g420.2.2.2.2.2.2.2.2.2.2.2.2.2.2.2.2.2.2.1
theorem dX10_findsFits_140 : decode cX10_findsFits 140 = .ok (.iconst 1, 1) := dq_g420.2.2.2.2.2.2.2.2.2.2.2.2.2.2.2.2.2.2.2.1
theorem dX10_findsFits_141 : decode cX10_findsFits 141 = .ok (.iadd, 1) := dq_g420.2.2.2.2.2.2.2.2.2.2.2.2.2.2.2.2.2.2.2.2.1
theorem dX10_findsFits_142 : decode cX10_findsFits 142 = .ok (.iastore, 1) := dq_g420.2.2.2.2.2.2.2.2.2.2.2.2.2.2.2.2.2.2.2.2.2.1
theorem dX10_findsFits_143 : decode cX10_findsFits 143 = .ok (.iinc 6 1, 3) := dq_g420.2.2.2.2.2.2.2.2.2.2.2.2.2.2.2.2.2.2.2.2.2.2.1
theorem dX10_findsFits_146 : decode cX10_findsFits 146 = .ok (.goto (-33), 3) := dq_g420.2.2.2.2.2.2.2.2.2.2.2.2.2.2.2.2.2.2.2.2.2.2.2.1
theorem dX10_findsFits_149 : decode cX10_findsFits 149 = .ok (.aload_n 0, 1) := dq_g420.2.2.2.2.2.2.2.2.2.2.2.2.2.2.2.2.2.2.2.2.2.2.2.2.1
theorem dX10_findsFits_150 : decode cX10_findsFits 150 = .ok (.aload_n 0, 1) := dq_g420.2.2.2.2.2.2.2.2.2.2.2.2.2.2.2.2.2.2.2.2.2.2.2.2.2.1
theorem dX10_findsFits_151 : decode cX10_findsFits 151 = .ok (.getfield 378, 3) := dq_g420.2.2.2.2.2.2.2.2.2.2.2.2.2.2.2.2.2.2.2.2.2.2.2.2.2.2.1
theorem dX10_findsFits_154 : decode cX10_findsFits 154 = .ok (.iconst 1, 1) := dq_g420.2.2.2.2.2.2.2.2.2.2.2.2.2.2.2.2.2.2.2.2.2.2.2.2.2.2.2.1
theorem dX10_findsFits_155 : decode cX10_findsFits 155 = .ok (.iadd, 1) := dq_g420.2.2.2.2.2.2.2.2.2.2.2.2.2.2.2.2.2.2.2.2.2.2.2.2.2.2.2.2.1
theorem dX10_findsFits_156 : decode cX10_findsFits 156 = .ok (.putfield 378, 3) := dq_g420.2.2.2.2.2.2.2.2.2.2.2.2.2.2.2.2.2.2.2.2.2.2.2.2.2.2.2.2.2.1
theorem dq_g421 : decode cX10_findsFits 159 = .ok (.aload_n 0, 1) ∧ decode cX10_findsFits 160 = .ok (.iload 4, 2) ∧ decode cX10_findsFits 162 = .ok (.iload_n 2, 1) ∧ decode cX10_findsFits 163 = .ok (.invokevirtual 368, 3) ∧ decode cX10_findsFits 166 = .ok (.istore 5, 2) ∧ decode cX10_findsFits 168 = .ok (.goto (-109), 3) ∧ decode cX10_findsFits 171 = .ok (.iconst 0, 1) ∧ decode cX10_findsFits 172 = .ok (.istore 6, 2) ∧ decode cX10_findsFits 174 = .ok (.iload 6, 2) ∧ decode cX10_findsFits 176 = .ok (.iload 4, 2) ∧ decode cX10_findsFits 178 = .ok (.if_icmp .ge 28, 3) ∧ decode cX10_findsFits 181 = .ok (.aload_n 0, 1) ∧ decode cX10_findsFits 182 = .ok (.getfield 20, 3) ∧ decode cX10_findsFits 185 = .ok (.bipush 16, 2) ∧ decode cX10_findsFits 187 = .ok (.iload_n 1, 1) ∧ decode cX10_findsFits 188 = .ok (.imul, 1) ∧ decode cX10_findsFits 189 = .ok (.iload 6, 2) ∧ decode cX10_findsFits 191 = .ok (.iadd, 1) ∧ decode cX10_findsFits 192 = .ok (.aload_n 0, 1) ∧ decode cX10_findsFits 193 = .ok (.getfield 131, 3) ∧ decode cX10_findsFits 196 = .ok (.iload 6, 2) ∧ decode cX10_findsFits 198 = .ok (.iaload, 1) ∧ decode cX10_findsFits 199 = .ok (.iastore, 1) ∧ decode cX10_findsFits 200 = .ok (.iinc 6 1, 3) ∧ decode cX10_findsFits 203 = .ok (.goto (-29), 3) ∧ decode cX10_findsFits 206 = .ok (.return_, 1) ∧ True := dqC_ok (c := cX10_findsFits) [(159, 1, some (.aload_n 0)), (160, 2, some (.iload 4)), (162, 1, some (.iload_n 2)), (163, 3, some (.invokevirtual 368)), (166, 2, some (.istore 5)), (168, 3, some (.goto (-109))), (171, 1, some (.iconst 0)), (172, 2, some (.istore 6)), (174, 2, some (.iload 6)), (176, 2, some (.iload 4)), (178, 3, some (.if_icmp .ge 28)), (181, 1, some (.aload_n 0)), (182, 3, some (.getfield 20)), (185, 2, some (.bipush 16)), (187, 1, some (.iload_n 1)), (188, 1, some (.imul)), (189, 2, some (.iload 6)), (191, 1, some (.iadd)), (192, 1, some (.aload_n 0)), (193, 3, some (.getfield 131)), (196, 2, some (.iload 6)), (198, 1, some (.iaload)), (199, 1, some (.iastore)), (200, 3, some (.iinc 6 1)), (203, 3, some (.goto (-29))), (206, 1, some (.return_))] _ 159 rfl (by decide +kernel)
theorem dX10_findsFits_159 : decode cX10_findsFits 159 = .ok (.aload_n 0, 1) := dq_g421.1
theorem dX10_findsFits_160 : decode cX10_findsFits 160 = .ok (.iload 4, 2) := dq_g421.2.1
theorem dX10_findsFits_162 : decode cX10_findsFits 162 = .ok (.iload_n 2, 1) := dq_g421.2.2.1
theorem dX10_findsFits_163 : decode cX10_findsFits 163 = .ok (.invokevirtual 368, 3) := dq_g421.2.2.2.1
theorem dX10_findsFits_166 : decode cX10_findsFits 166 = .ok (.istore 5, 2) := dq_g421.2.2.2.2.1
theorem dX10_findsFits_168 : decode cX10_findsFits 168 = .ok (.goto (-109), 3) := dq_g421.2.2.2.2.2.1
theorem dX10_findsFits_171 : decode cX10_findsFits 171 = .ok (.iconst 0, 1) := dq_g421.2.2.2.2.2.2.1
theorem dX10_findsFits_172 : decode cX10_findsFits 172 = .ok (.istore 6, 2) := dq_g421.2.2.2.2.2.2.2.1
theorem dX10_findsFits_174 : decode cX10_findsFits 174 = .ok (.iload 6, 2) := dq_g421.2.2.2.2.2.2.2.2.1
theorem dX10_findsFits_176 : decode cX10_findsFits 176 = .ok (.iload 4, 2) := dq_g421.2.2.2.2.2.2.2.2.2.1
theorem dX10_findsFits_178 : decode cX10_findsFits 178 = .ok (.if_icmp .ge 28, 3) := dq_g421.2.2.2.2.2.2.2.2.2.2.1
theorem dX10_findsFits_181 : decode cX10_findsFits 181 = .ok (.aload_n 0, 1) := dq_g421.2.2.2.2.2.2.2.2.2.2.2.1
theorem dX10_findsFits_182 : decode cX10_findsFits 182 = .ok (.getfield 20, 3) := dq_g421.2.2.2.2.2.2.2.2.2.2.2.2.1
theorem dX10_findsFits_185 : decode cX10_findsFits 185 = .ok (.bipush 16, 2) := dq_g421.2.2.2.2.2.2.2.2.2.2.2.2.2.1
theorem dX10_findsFits_187 : decode cX10_findsFits 187 = .ok (.iload_n 1, 1) := dq_g421.2.2.2.2.2.2.2.2.2.2.2.2.2.2.1
theorem dX10_findsFits_188 : decode cX10_findsFits 188 = .ok (.imul, 1) := dq_g421.2.2.2.2.2.2.2.2.2.2.2.2.2.2.2.1
theorem dX10_findsFits_189 : decode cX10_findsFits 189 = .ok (.iload 6, 2) := dq_g421.2.2.2.2.2.2.2.2.2.2.2.2.2.2.2.2.1
theorem dX10_findsFits_191 : decode cX10_findsFits 191 = .ok (.iadd, 1) := dq_g421.2.2.2.2.2.2.2.2.2.2.2.2.2.2.2.2.2.1
theorem dX10_findsFits_192 : decode cX10_findsFits 192 = .ok (.aload_n 0, 1) := dq_g421.2.2.2.2.2.2.2.2.2.2.2.2.2.2.2.2.2.2.1
theorem dX10_findsFits_193 : decode cX10_findsFits 193 = .ok (.getfield 131, 3) := dq_g421.2.2.2.2.2.2.2.2.2.2.2.2.2.2.2.2.2.2.2.1
theorem dX10_findsFits_196 : decode cX10_findsFits 196 = .ok (.iload 6, 2) := dq_g421.2.2.2.2.2.2.2.2.2.2.2.2.2.2.2.2.2.2.2.2.1
theorem dX10_findsFits_198 : decode cX10_findsFits 198 = .ok (.iaload, 1) := dq_g421.2.2.2.2.2.2.2.2.2.2.2.2.2.2.2.2.2.2.2.2.2.1
theorem dX10_findsFits_199 : decode cX10_findsFits 199 = .ok (.iastore, 1) := dq_g421.2.2.2.2.2.2.2.2.2.2.2.2.2.2.2.2.2.2.2.2.2.2.1
theorem dX10_findsFits_200 : decode cX10_findsFits 200 = .ok (.iinc 6 1, 3) := dq_g421.2.2.2.2.2.2.2.2.2.2.2.2.2.2.2.2.2.2.2.2.2.2.2.1
theorem dX10_findsFits_203 : decode cX10_findsFits 203 = .ok (.goto (-29), 3) := dq_g421.2.2.2.2.2.2.2.2.2.2.2.2.2.2.2.2.2.2.2.2.2.2.2.2.1
theorem dX10_findsFits_206 : decode cX10_findsFits 206 = .ok (.return_, 1) := dq_g421.2.2.2.2.2.2.2.2.2.2.2.2.2.2.2.2.2.2.2.2.2.2.2.2.2.1
theorem dq_g422 : decode cX10_unlikeBy 0 = .ok (.iconst 0, 1) ∧ decode cX10_unlikeBy 1 = .ok (.istore_n 3, 1) ∧ decode cX10_unlikeBy 2 = .ok (.aload_n 0, 1) ∧ decode cX10_unlikeBy 3 = .ok (.getfield 13, 3) ∧ decode cX10_unlikeBy 6 = .ok (.iload_n 1, 1) ∧ decode cX10_unlikeBy 7 = .ok (.iaload, 1) ∧ decode cX10_unlikeBy 8 = .ok (.istore 4, 2) ∧ decode cX10_unlikeBy 10 = .ok (.aload_n 0, 1) ∧ decode cX10_unlikeBy 11 = .ok (.getfield 17, 3) ∧ decode cX10_unlikeBy 14 = .ok (.bipush 16, 2) ∧ decode cX10_unlikeBy 16 = .ok (.iload_n 1, 1) ∧ decode cX10_unlikeBy 17 = .ok (.imul, 1) ∧ decode cX10_unlikeBy 18 = .ok (.iload_n 2, 1) ∧ decode cX10_unlikeBy 19 = .ok (.iadd, 1) ∧ decode cX10_unlikeBy 20 = .ok (.aload_n 0, 1) ∧ decode cX10_unlikeBy 21 = .ok (.getfield 17, 3) ∧ decode cX10_unlikeBy 24 = .ok (.bipush 16, 2) ∧ decode cX10_unlikeBy 26 = .ok (.iload_n 1, 1) ∧ decode cX10_unlikeBy 27 = .ok (.imul, 1) ∧ decode cX10_unlikeBy 28 = .ok (.iload_n 2, 1) ∧ decode cX10_unlikeBy 29 = .ok (.iadd, 1) ∧ decode cX10_unlikeBy 30 = .ok (.iaload, 1) ∧ decode cX10_unlikeBy 31 = .ok (.iconst 1, 1) ∧ decode cX10_unlikeBy 32 = .ok (.isub, 1) ∧ decode cX10_unlikeBy 33 = .ok (.iastore, 1) ∧ decode cX10_unlikeBy 34 = .ok (.iconst 0, 1) ∧ decode cX10_unlikeBy 35 = .ok (.istore 5, 2) ∧ decode cX10_unlikeBy 37 = .ok (.iload 5, 2) ∧ decode cX10_unlikeBy 39 = .ok (.aload_n 0, 1) ∧ decode cX10_unlikeBy 40 = .ok (.getfield 378, 3) ∧ True := dqC_ok (c := cX10_unlikeBy) [(0, 1, some (.iconst 0)), (1, 1, some (.istore_n 3)), (2, 1, some (.aload_n 0)), (3, 3, some (.getfield 13)), (6, 1, some (.iload_n 1)), (7, 1, some (.iaload)), (8, 2, some (.istore 4)), (10, 1, some (.aload_n 0)), (11, 3, some (.getfield 17)), (14, 2, some (.bipush 16)), (16, 1, some (.iload_n 1)), (17, 1, some (.imul)), (18, 1, some (.iload_n 2)), (19, 1, some (.iadd)), (20, 1, some (.aload_n 0)), (21, 3, some (.getfield 17)), (24, 2, some (.bipush 16)), (26, 1, some (.iload_n 1)), (27, 1, some (.imul)), (28, 1, some (.iload_n 2)), (29, 1, some (.iadd)), (30, 1, some (.iaload)), (31, 1, some (.iconst 1)), (32, 1, some (.isub)), (33, 1, some (.iastore)), (34, 1, some (.iconst 0)), (35, 2, some (.istore 5)), (37, 2, some (.iload 5)), (39, 1, some (.aload_n 0)), (40, 3, some (.getfield 378))] _ 0 rfl (by decide +kernel)
theorem dX10_unlikeBy_0 : decode cX10_unlikeBy 0 = .ok (.iconst 0, 1) := dq_g422.1
theorem dX10_unlikeBy_1 : decode cX10_unlikeBy 1 = .ok (.istore_n 3, 1) := dq_g422.2.1
theorem dX10_unlikeBy_2 : decode cX10_unlikeBy 2 = .ok (.aload_n 0, 1) := dq_g422.2.2.1
theorem dX10_unlikeBy_3 : decode cX10_unlikeBy 3 = .ok (.getfield 13, 3) := dq_g422.2.2.2.1
theorem dX10_unlikeBy_6 : decode cX10_unlikeBy 6 = .ok (.iload_n 1, 1) := dq_g422.2.2.2.2.1
theorem dX10_unlikeBy_7 : decode cX10_unlikeBy 7 = .ok (.iaload, 1) := dq_g422.2.2.2.2.2.1
theorem dX10_unlikeBy_8 : decode cX10_unlikeBy 8 = .ok (.istore 4, 2) := dq_g422.2.2.2.2.2.2.1
theorem dX10_unlikeBy_10 : decode cX10_unlikeBy 10 = .ok (.aload_n 0, 1) := dq_g422.2.2.2.2.2.2.2.1
theorem dX10_unlikeBy_11 : decode cX10_unlikeBy 11 = .ok (.getfield 17, 3) := dq_g422.2.2.2.2.2.2.2.2.1
theorem dX10_unlikeBy_14 : decode cX10_unlikeBy 14 = .ok (.bipush 16, 2) := dq_g422.2.2.2.2.2.2.2.2.2.1
theorem dX10_unlikeBy_16 : decode cX10_unlikeBy 16 = .ok (.iload_n 1, 1) := dq_g422.2.2.2.2.2.2.2.2.2.2.1
theorem dX10_unlikeBy_17 : decode cX10_unlikeBy 17 = .ok (.imul, 1) := dq_g422.2.2.2.2.2.2.2.2.2.2.2.1
theorem dX10_unlikeBy_18 : decode cX10_unlikeBy 18 = .ok (.iload_n 2, 1) := dq_g422.2.2.2.2.2.2.2.2.2.2.2.2.1
theorem dX10_unlikeBy_19 : decode cX10_unlikeBy 19 = .ok (.iadd, 1) := dq_g422.2.2.2.2.2.2.2.2.2.2.2.2.2.1
theorem dX10_unlikeBy_20 : decode cX10_unlikeBy 20 = .ok (.aload_n 0, 1) := dq_g422.2.2.2.2.2.2.2.2.2.2.2.2.2.2.1
theorem dX10_unlikeBy_21 : decode cX10_unlikeBy 21 = .ok (.getfield 17, 3) := dq_g422.2.2.2.2.2.2.2.2.2.2.2.2.2.2.2.1
theorem dX10_unlikeBy_24 : decode cX10_unlikeBy 24 = .ok (.bipush 16, 2) := dq_g422.2.2.2.2.2.2.2.2.2.2.2.2.2.2.2.2.1
theorem dX10_unlikeBy_26 : decode cX10_unlikeBy 26 = .ok (.iload_n 1, 1) := dq_g422.2.2.2.2.2.2.2.2.2.2.2.2.2.2.2.2.2.1
theorem dX10_unlikeBy_27 : decode cX10_unlikeBy 27 = .ok (.imul, 1) := dq_g422.2.2.2.2.2.2.2.2.2.2.2.2.2.2.2.2.2.2.1
theorem dX10_unlikeBy_28 : decode cX10_unlikeBy 28 = .ok (.iload_n 2, 1) := dq_g422.2.2.2.2.2.2.2.2.2.2.2.2.2.2.2.2.2.2.2.1
theorem dX10_unlikeBy_29 : decode cX10_unlikeBy 29 = .ok (.iadd, 1) := dq_g422.2.2.2.2.2.2.2.2.2.2.2.2.2.2.2.2.2.2.2.2.1
theorem dX10_unlikeBy_30 : decode cX10_unlikeBy 30 = .ok (.iaload, 1) := dq_g422.2.2.2.2.2.2.2.2.2.2.2.2.2.2.2.2.2.2.2.2.2.1
theorem dX10_unlikeBy_31 : decode cX10_unlikeBy 31 = .ok (.iconst 1, 1) := dq_g422.2.2.2.2.2.2.2.2.2.2.2.2.2.2.2.2.2.2.2.2.2.2.1
theorem dX10_unlikeBy_32 : decode cX10_unlikeBy 32 = .ok (.isub, 1) := dq_g422.2.2.2.2.2.2.2.2.2.2.2.2.2.2.2.2.2.2.2.2.2.2.2.1
theorem dX10_unlikeBy_33 : decode cX10_unlikeBy 33 = .ok (.iastore, 1) := dq_g422.2.2.2.2.2.2.2.2.2.2.2.2.2.2.2.2.2.2.2.2.2.2.2.2.1
theorem dX10_unlikeBy_34 : decode cX10_unlikeBy 34 = .ok (.iconst 0, 1) := dq_g422.2.2.2.2.2.2.2.2.2.2.2.2.2.2.2.2.2.2.2.2.2.2.2.2.2.1
theorem dX10_unlikeBy_35 : decode cX10_unlikeBy 35 = .ok (.istore 5, 2) := dq_g422.2.2.2.2.2.2.2.2.2.2.2.2.2.2.2.2.2.2.2.2.2.2.2.2.2.2.1
theorem dX10_unlikeBy_37 : decode cX10_unlikeBy 37 = .ok (.iload 5, 2) := dq_g422.2.2.2.2.2.2.2.2.2.2.2.2.2.2.2.2.2.2.2.2.2.2.2.2.2.2.2.1
theorem dX10_unlikeBy_39 : decode cX10_unlikeBy 39 = .ok (.aload_n 0, 1) := dq_g422.2.2.2.2.2.2.2.2.2.2.2.2.2.2.2.2.2.2.2.2.2.2.2.2.2.2.2.2.1
theorem dX10_unlikeBy_40 : decode cX10_unlikeBy 40 = .ok (.getfield 378, 3) := dq_g422.2.2.2.2.2.2.2.2.2.2.2.2.2.2.2.2.2.2.2.2.2.2.2.2.2.2.2.2.2.1
