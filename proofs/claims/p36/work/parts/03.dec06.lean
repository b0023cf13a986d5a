theorem dq_g504 : decode cX10_keepsTexts 200 = .ok (.goto (-42), 3) ∧ decode cX10_keepsTexts 203 = .ok (.return_, 1) ∧ True := dqC_ok (c := cX10_keepsTexts) [(200, 3, some (.goto (-42))), (203, 1, some (.return_))] _ 200 rfl (by decide +kernel)
theorem dX10_keepsTexts_200 : decode cX10_keepsTexts 200 = .ok (.goto (-42), 3) := dq_g504.1
theorem dX10_keepsTexts_203 : decode cX10_keepsTexts 203 = .ok (.return_, 1) := dq_g504.2.1
theorem dq_g505 : decode cX10_image 0 = .ok (.aload_n 0, 1) ∧ decode cX10_image 1 = .ok (.iconst 0, 1) ∧ decode cX10_image 2 = .ok (.putfield 167, 3) ∧ decode cX10_image 5 = .ok (.iload_n 1, 1) ∧ decode cX10_image 6 = .ok (.ifCond .ne 12, 3) ∧ decode cX10_image 9 = .ok (.aload_n 0, 1) ∧ decode cX10_image 10 = .ok (.getfield 476, 3) ∧ decode cX10_image 13 = .ok (.ifCond .ne 5, 3) ∧ decode cX10_image 16 = .ok (.iconst 0, 1) ∧ decode cX10_image 17 = .ok (.ireturn, 1) ∧ decode cX10_image 18 = .ok (.aload_n 0, 1) ∧ decode cX10_image 19 = .ok (.iload_n 1, 1) ∧ decode cX10_image 20 = .ok (.putfield 470, 3) ∧ decode cX10_image 23 = .ok (.aload_n 0, 1) ∧ decode cX10_image 24 = .ok (.iconst 1, 1) ∧ decode cX10_image 25 = .ok (.putfield 476, 3) ∧ decode cX10_image 28 = .ok (.aload_n 0, 1) ∧ decode cX10_image 29 = .ok (.iconst 0, 1) ∧ decode cX10_image 30 = .ok (.putfield 467, 3) ∧ decode cX10_image 33 = .ok (.aload_n 0, 1) ∧ decode cX10_image 34 = .ok (.aload_n 0, 1) ∧ decode cX10_image 35 = .ok (.aload_n 0, 1) ∧ decode cX10_image 36 = .ok (.getfield 170, 3) ∧ decode cX10_image 39 = .ok (.invokevirtual 473, 3) ∧ decode cX10_image 42 = .ok (.putfield 170, 3) ∧ decode cX10_image 45 = .ok (.aload_n 0, 1) ∧ decode cX10_image 46 = .ok (.aload_n 0, 1) ∧ decode cX10_image 47 = .ok (.aload_n 0, 1) ∧ decode cX10_image 48 = .ok (.getfield 322, 3) ∧ decode cX10_image 51 = .ok (.invokevirtual 473, 3) ∧ True := dqC_ok (c := cX10_image) [(0, 1, some (.aload_n 0)), (1, 1, some (.iconst 0)), (2, 3, some (.putfield 167)), (5, 1, some (.iload_n 1)), (6, 3, some (.ifCond .ne 12)), (9, 1, some (.aload_n 0)), (10, 3, some (.getfield 476)), (13, 3, some (.ifCond .ne 5)), (16, 1, some (.iconst 0)), (17, 1, some (.ireturn)), (18, 1, some (.aload_n 0)), (19, 1, some (.iload_n 1)), (20, 3, some (.putfield 470)), (23, 1, some (.aload_n 0)), (24, 1, some (.iconst 1)), (25, 3, some (.putfield 476)), (28, 1, some (.aload_n 0)), (29, 1, some (.iconst 0)), (30, 3, some (.putfield 467)), (33, 1, some (.aload_n 0)), (34, 1, some (.aload_n 0)), (35, 1, some (.aload_n 0)), (36, 3, some (.getfield 170)), (39, 3, some (.invokevirtual 473)), (42, 3, some (.putfield 170)), (45, 1, some (.aload_n 0)), (46, 1, some (.aload_n 0)), (47, 1, some (.aload_n 0)), (48, 3, some (.getfield 322)), (51, 3, some (.invokevirtual 473))] _ 0 rfl (by decide +kernel)
theorem dX10_image_0 : decode cX10_image 0 = .ok (.aload_n 0, 1) := dq_g505.1
theorem dX10_image_1 : decode cX10_image 1 = .ok (.iconst 0, 1) := dq_g505.2.1
theorem dX10_image_2 : decode cX10_image 2 = .ok (.putfield 167, 3) := dq_g505.2.2.1
theorem dX10_image_5 : decode cX10_image 5 = .ok (.iload_n 1, 1) := dq_g505.2.2.2.1
theorem dX10_image_6 : decode cX10_image 6 = .ok (.ifCond .ne 12, 3) := dq_g505.2.2.2.2.1
theorem dX10_image_9 : decode cX10_image 9 = .ok (.aload_n 0, 1) := dq_g505.2.2.2.2.2.1
theorem dX10_image_10 : decode cX10_image 10 = .ok (.getfield 476, 3) := dq_g505.2.2.2.2.2.2.1
theorem dX10_image_13 : decode cX10_image 13 = .ok (.ifCond .ne 5, 3) := dq_g505.2.2.2.2.2.2.2.1
theorem dX10_image_16 : decode cX10_image 16 = .ok (.iconst 0, 1) := dq_g505.2.2.2.2.2.2.2.2.1
theorem dX10_image_17 : decode cX10_image 17 = .ok (.ireturn, 1) := dq_g505.2.2.2.2.2.2.2.2.2.1
theorem dX10_image_18 : decode cX10_image 18 = .ok (.aload_n 0, 1) := dq_g505.2.2.2.2.2.2.2.2.2.2.1
theorem dX10_image_19 : decode cX10_image 19 = .ok (.iload_n 1, 1) := dq_g505.2.2.2.2.2.2.2.2.2.2.2.1
theorem dX10_image_20 : decode cX10_image 20 = .ok (.putfield 470, 3) := dq_g505.2.2.2.2.2.2.2.2.2.2.2.2.1
theorem dX10_image_23 : decode cX10_image 23 = .ok (.aload_n 0, 1) := dq_g505.2.2.2.2.2.2.2.2.2.2.2.2.2.1
theorem dX10_image_24 : decode cX10_image 24 = .ok (.iconst 1, 1) := dq_g505.2.2.2.2.2.2.2.2.2.2.2.2.2.2.1
theorem dX10_image_25 : decode cX10_image 25 = .ok (.putfield 476, 3) := dq_g505.2.2.2.2.2.2.2.2.2.2.2.2.2.2.2.1
theorem dX10_image_28 : decode cX10_image 28 = .ok (.aload_n 0, 1) := dq_g505.2.2.2.2.2.2.2.2.2.2.2.2.2.2.2.2.1
theorem dX10_image_29 : decode cX10_image 29 = .ok (.iconst 0, 1) := dq_g505.2.2.2.2.2.2.2.2.2.2.2.2.2.2.2.2.2.1
theorem dX10_image_30 : decode cX10_image 30 = .ok (.putfield 467, 3) := dq_g505.2.2.2.2.2.2.2.2.2.2.2.2.2.2.2.2.2.2.1
theorem dX10_image_33 : decode cX10_image 33 = .ok (.aload_n 0, 1) := dq_g505.2.2.2.2.2.2.2.2.2.2.2.2.2.2.2.2.2.2.2.1
theorem dX10_image_34 : decode cX10_image 34 = .ok (.aload_n 0, 1) := dq_g505.2.2.2.2.2.2.2.2.2.2.2.2.2.2.2.2.2.2.2.2.1
theorem dX10_image_35 : decode cX10_image 35 = .ok (.aload_n 0, 1) := dq_g505.2.2.2.2.2.2.2.2.2.2.2.2.2.2.2.2.2.2.2.2.2.1
theorem dX10_image_36 : decode cX10_image 36 = .ok (.getfield 170, 3) := dq_g505.2.2.2.2.2.2.2.2.2.2.2.2.2.2.2.2.2.2.2.2.2.2.1
theorem dX10_image_39 : decode cX10_image 39 = .ok (.invokevirtual 473, 3) := dq_g505.2.2.2.2.2.2.2.2.2.2.2.2.2.2.2.2.2.2.2.2.2.2.2.1
theorem dX10_image_42 : decode cX10_image 42 = .ok (.putfield 170, 3) := dq_g505.2.2.2.2.2.2.2.2.2.2.2.2.2.2.2.2.2.2.2.2.2.2.2.2.1
theorem dX10_image_45 : decode cX10_image 45 = .ok (.aload_n 0, 1) := dq_g505.2.2.2.2.2.2.2.2.2.2.2.2.2.2.2.2.2.2.2.2.2.2.2.2.2.1
theorem dX10_image_46 : decode cX10_image 46 = .ok (.aload_n 0, 1) := dq_g505.2.2.2.2.2.2.2.2.2.2.2.2.2.2.2.2.2.2.2.2.2.2.2.2.2.2.1
theorem dX10_image_47 : decode cX10_image 47 = .ok (.aload_n 0, 1) := dq_g505.2.2.2.2.2.2.2.2.2.2.2.2.2.2.2.2.2.2.2.2.2.2.2.2.2.2.2.1
theorem dX10_image_48 : decode cX10_image 48 = .ok (.getfield 322, 3) := dq_g505.2.2.2.2.2.2.2.2.2.2.2.2.2.2.2.2.2.2.2.2.2.2.2.2.2.2.2.2.1
theorem dX10_image_51 : decode cX10_image 51 = .ok (.invokevirtual 473, 3) := dq_g505.2.2.2.2.2.2.2.2.2.2.2.2.2.2.2.2.2.2.2.2.2.2.2.2.2.2.2.2.2.1
theorem dq_g506 : decode cX10_image 54 = .ok (.putfield 322, 3) ∧ decode cX10_image 57 = .ok (.aload_n 0, 1) ∧ decode cX10_image 58 = .ok (.aload_n 0, 1) ∧ decode cX10_image 59 = .ok (.aload_n 0, 1) ∧ decode cX10_image 60 = .ok (.getfield 7, 3) ∧ decode cX10_image 63 = .ok (.invokevirtual 473, 3) ∧ decode cX10_image 66 = .ok (.putfield 7, 3) ∧ decode cX10_image 69 = .ok (.aload_n 0, 1) ∧ decode cX10_image 70 = .ok (.aload_n 0, 1) ∧ decode cX10_image 71 = .ok (.aload_n 0, 1) ∧ decode cX10_image 72 = .ok (.getfield 438, 3) ∧ decode cX10_image 75 = .ok (.invokevirtual 473, 3) ∧ decode cX10_image 78 = .ok (.putfield 438, 3) ∧ decode cX10_image 81 = .ok (.aload_n 0, 1) ∧ decode cX10_image 82 = .ok (.aload_n 0, 1) ∧ decode cX10_image 83 = .ok (.aload_n 0, 1) ∧ decode cX10_image 84 = .ok (.getfield 455, 3) ∧ decode cX10_image 87 = .ok (.invokevirtual 473, 3) ∧ decode cX10_image 90 = .ok (.putfield 455, 3) ∧ decode cX10_image 93 = .ok (.aload_n 0, 1) ∧ decode cX10_image 94 = .ok (.aload_n 0, 1) ∧ decode cX10_image 95 = .ok (.aload_n 0, 1) ∧ decode cX10_image 96 = .ok (.getfield 458, 3) ∧ decode cX10_image 99 = .ok (.invokevirtual 473, 3) ∧ decode cX10_image 102 = .ok (.putfield 458, 3) ∧ decode cX10_image 105 = .ok (.aload_n 0, 1) ∧ decode cX10_image 106 = .ok (.invokevirtual 479, 3) ∧ decode cX10_image 109 = .ok (.aload_n 0, 1) ∧ decode cX10_image 110 = .ok (.invokevirtual 482, 3) ∧ decode cX10_image 113 = .ok (.aload_n 0, 1) ∧ True := dqC_ok (c := cX10_image) [(54, 3, some (.putfield 322)), (57, 1, some (.aload_n 0)), (58, 1, some (.aload_n 0)), (59, 1, some (.aload_n 0)), (60, 3, some (.getfield 7)), (63, 3, some (.invokevirtual 473)), (66, 3, some (.putfield 7)), (69, 1, some (.aload_n 0)), (70, 1, some (.aload_n 0)), (71, 1, some (.aload_n 0)), (72, 3, some (.getfield 438)), (75, 3, some (.invokevirtual 473)), (78, 3, some (.putfield 438)), (81, 1, some (.aload_n 0)), (82, 1, some (.aload_n 0)), (83, 1, some (.aload_n 0)), (84, 3, some (.getfield 455)), (87, 3, some (.invokevirtual 473)), (90, 3, some (.putfield 455)), (93, 1, some (.aload_n 0)), (94, 1, some (.aload_n 0)), (95, 1, some (.aload_n 0)), (96, 3, some (.getfield 458)), (99, 3, some (.invokevirtual 473)), (102, 3, some (.putfield 458)), (105, 1, some (.aload_n 0)), (106, 3, some (.invokevirtual 479)), (109, 1, some (.aload_n 0)), (110, 3, some (.invokevirtual 482)), (113, 1, some (.aload_n 0))] _ 54 rfl (by decide +kernel)
theorem dX10_image_54 : decode cX10_image 54 = .ok (.putfield 322, 3) := dq_g506.1
theorem dX10_image_57 : decode cX10_image 57 = .ok (.aload_n 0, 1) := dq_g506.2.1
theorem dX10_image_58 : decode cX10_image 58 = .ok (.aload_n 0, 1) := dq_g506.2.2.1
theorem dX10_image_59 : decode cX10_image 59 = .ok (.aload_n 0, 1) := dq_g506.2.2.2.1
theorem dX10_image_60 : decode cX10_image 60 = .ok (.getfield 7, 3) := dq_g506.2.2.2.2.1
theorem dX10_image_63 : decode cX10_image 63 = .ok (.invokevirtual 473, 3) := dq_g506.2.2.2.2.2.1
theorem dX10_image_66 : decode cX10_image 66 = .ok (.putfield 7, 3) := dq_g506.2.2.2.2.2.2.1
theorem dX10_image_69 : decode cX10_image 69 = .ok (.aload_n 0, 1) := dq_g506.2.2.2.2.2.2.2.1
theorem dX10_image_70 : decode cX10_image 70 = .ok (.aload_n 0, 1) := dq_g506.2.2.2.2.2.2.2.2.1
theorem dX10_image_71 : decode cX10_image 71 = .ok (.aload_n 0, 1) := dq_g506.2.2.2.2.2.2.2.2.2.1
theorem dX10_image_72 : decode cX10_image 72 = .ok (.getfield 438, 3) := dq_g506.2.2.2.2.2.2.2.2.2.2.1
theorem dX10_image_75 : decode cX10_image 75 = .ok (.invokevirtual 473, 3) := dq_g506.2.2.2.2.2.2.2.2.2.2.2.1
theorem dX10_image_78 : decode cX10_image 78 = .ok (.putfield 438, 3) := dq_g506.2.2.2.2.2.2.2.2.2.2.2.2.1
theorem dX10_image_81 : decode cX10_image 81 = .ok (.aload_n 0, 1) := dq_g506.2.2.2.2.2.2.2.2.2.2.2.2.2.1
theorem dX10_image_82 : decode cX10_image 82 = .ok (.aload_n 0, 1) := dq_g506.2.2.2.2.2.2.2.2.2.2.2.2.2.2.1
theorem dX10_image_83 : decode cX10_image 83 = .ok (.aload_n 0, 1) := dq_g506.2.2.2.2.2.2.2.2.2.2.2.2.2.2.2.1
theorem dX10_image_84 : decode cX10_image 84 = .ok (.getfield 455, 3) := dq_g506.2.2.2.2.2.2.2.2.2.2.2.2.2.2.2.2.1
theorem dX10_image_87 : decode cX10_image 87 = .ok (.invokevirtual 473, 3) := dq_g506.2.2.2.2.2.2.2.2.2.2.2.2.2.2.2.2.2.1
theorem dX10_image_90 : decode cX10_image 90 = .ok (.putfield 455, 3) := dq_g506.2.2.2.2.2.2.2.2.2.2.2.2.2.2.2.2.2.2.1
theorem dX10_image_93 : decode cX10_image 93 = .ok (.aload_n 0, 1) := dq_g506.2.2.2.2.2.2.2.2.2.2.2.2.2.2.2.2.2.2.2.1
theorem dX10_image_94 : decode cX10_image 94 = .ok (.aload_n 0, 1) := dq_g506.2.2.2.2.2.2.2.2.2.2.2.2.2.2.2.2.2.2.2.2.1
theorem dX10_image_95 : decode cX10_image 95 = .ok (.aload_n 0, 1) := dq_g506.2.2.2.2.2.2.2.2.2.2.2.2.2.2.2.2.2.2.2.2.2.1
theorem dX10_image_96 : decode cX10_image 96 = .ok (.getfield 458, 3) := dq_g506.2.2.2.2.2.2.2.2.2.2.2.2.2.2.2.2.2.2.2.2.2.2.1
theorem dX10_image_99 : decode cX10_image 99 = .ok (.invokevirtual 473, 3) := dq_g506.2.2.2.2.2.2.2.2.2.2.2.2.2.2.2.2.2.2.2.2.2.2.2.1
theorem dX10_image_102 : decode cX10_image 102 = .ok (.putfield 458, 3) := dq_g506.2.2.2.2.2.2.2.2.2.2.2.2.2.2.2.2.2.2.2.2.2.2.2.2.1
theorem dX10_image_105 : decode cX10_image 105 = .ok (.aload_n 0, 1) := dq_g506.2.2.2.2.2.2.2.2.2.2.2.2.2.2.2.2.2.2.2.2.2.2.2.2.2.1
theorem dX10_image_106 : decode cX10_image 106 = .ok (.invokevirtual 479, 3) := dq_g506.2.2.2.2.2.2.2.2.2.2.2.2.2.2.2.2.2.2.2.2.2.2.2.2.2.2.1
theorem dX10_image_109 : decode cX10_image 109 = .ok (.aload_n 0, 1) := dq_g506.2.2.2.2.2.2.2.2.2.2.2.2.2.2.2.2.2.2.2.2.2.2.2.2.2.2.2.1
theorem dX10_image_110 : decode cX10_image 110 = .ok (.invokevirtual 482, 3) := dq_g506.2.2.2.2.2.2.2.2.2.2.2.2.2.2.2.2.2.2.2.2.2.2.2.2.2.2.2.2.1
theorem dX10_image_113 : decode cX10_image 113 = .ok (.aload_n 0, 1) := dq_g506.2.2.2.2.2.2.2.2.2.2.2.2.2.2.2.2.2.2.2.2.2.2.2.2.2.2.2.2.2.1
theorem dq_g507 : decode cX10_image 114 = .ok (.invokevirtual 485, 3) ∧ decode cX10_image 117 = .ok (.iconst 1, 1) ∧ decode cX10_image 118 = .ok (.ireturn, 1) ∧ True := dqC_ok (c := cX10_image) [(114, 3, some (.invokevirtual 485)), (117, 1, some (.iconst 1)), (118, 1, some (.ireturn))] _ 114 rfl (by decide +kernel)
theorem dX10_image_114 : decode cX10_image 114 = .ok (.invokevirtual 485, 3) := dq_g507.1
theorem dX10_image_117 : decode cX10_image 117 = .ok (.iconst 1, 1) := dq_g507.2.1
theorem dX10_image_118 : decode cX10_image 118 = .ok (.ireturn, 1) := dq_g507.2.2.1
theorem dq_g508 : decode cX10_barsThat 0 = .ok (.iconst 0, 1) ∧ decode cX10_barsThat 1 = .ok (.istore_n 2, 1) ∧ decode cX10_barsThat 2 = .ok (.iconst 0, 1) ∧ decode cX10_barsThat 3 = .ok (.istore_n 3, 1) ∧ decode cX10_barsThat 4 = .ok (.iload_n 3, 1) ∧ decode cX10_barsThat 5 = .ok (.aload_n 0, 1) ∧ decode cX10_barsThat 6 = .ok (.getfield 170, 3) ∧ decode cX10_barsThat 9 = .ok (.if_icmp .ge 36, 3) ∧ decode cX10_barsThat 12 = .ok (.iload_n 1, 1) ∧ decode cX10_barsThat 13 = .ok (.ifCond .eq 14, 3) ∧ decode cX10_barsThat 16 = .ok (.aload_n 0, 1) ∧ decode cX10_barsThat 17 = .ok (.iload_n 3, 1) ∧ decode cX10_barsThat 18 = .ok (.invokevirtual 338, 3) ∧ decode cX10_barsThat 21 = .ok (.ifCond .eq 18, 3) ∧ decode cX10_barsThat 24 = .ok (.goto 11, 3) ∧ decode cX10_barsThat 27 = .ok (.aload_n 0, 1) ∧ decode cX10_barsThat 28 = .ok (.iload_n 3, 1) ∧ decode cX10_barsThat 29 = .ok (.invokevirtual 414, 3) ∧ decode cX10_barsThat 32 = .ok (.ifCond .eq 7, 3) ∧ decode cX10_barsThat 35 = .ok (.iload_n 2, 1) ∧ decode cX10_barsThat 36 = .ok (.iconst 1, 1) ∧ decode cX10_barsThat 37 = .ok (.iadd, 1) ∧ decode cX10_barsThat 38 = .ok (.istore_n 2, 1) ∧ decode cX10_barsThat 39 = .ok (.iinc 3 1, 3) ∧ decode cX10_barsThat 42 = .ok (.goto (-38), 3) ∧ decode cX10_barsThat 45 = .ok (.iload_n 2, 1) ∧ decode cX10_barsThat 46 = .ok (.ireturn, 1) ∧ True := dqC_ok (c := cX10_barsThat) [(0, 1, some (.iconst 0)), (1, 1, some (.istore_n 2)), (2, 1, some (.iconst 0)), (3, 1, some (.istore_n 3)), (4, 1, some (.iload_n 3)), (5, 1, some (.aload_n 0)), (6, 3, some (.getfield 170)), (9, 3, some (.if_icmp .ge 36)), (12, 1, some (.iload_n 1)), (13, 3, some (.ifCond .eq 14)), (16, 1, some (.aload_n 0)), (17, 1, some (.iload_n 3)), (18, 3, some (.invokevirtual 338)), (21, 3, some (.ifCond .eq 18)), (24, 3, some (.goto 11)), (27, 1, some (.aload_n 0)), (28, 1, some (.iload_n 3)), (29, 3, some (.invokevirtual 414)), (32, 3, some (.ifCond .eq 7)), (35, 1, some (.iload_n 2)), (36, 1, some (.iconst 1)), (37, 1, some (.iadd)), (38, 1, some (.istore_n 2)), (39, 3, some (.iinc 3 1)), (42, 3, some (.goto (-38))), (45, 1, some (.iload_n 2)), (46, 1, some (.ireturn))] _ 0 rfl (by decide +kernel)
theorem dX10_barsThat_0 : decode cX10_barsThat 0 = .ok (.iconst 0, 1) := dq_g508.1
theorem dX10_barsThat_1 : decode cX10_barsThat 1 = .ok (.istore_n 2, 1) := dq_g508.2.1
theorem dX10_barsThat_2 : decode cX10_barsThat 2 = .ok (.iconst 0, 1) := dq_g508.2.2.1
theorem dX10_barsThat_3 : decode cX10_barsThat 3 = .ok (.istore_n 3, 1) := dq_g508.2.2.2.1
theorem dX10_barsThat_4 : decode cX10_barsThat 4 = .ok (.iload_n 3, 1) := dq_g508.2.2.2.2.1
theorem dX10_barsThat_5 : decode cX10_barsThat 5 = .ok (.aload_n 0, 1) := dq_g508.2.2.2.2.2.1
theorem dX10_barsThat_6 : decode cX10_barsThat 6 = .ok (.getfield 170, 3) := dq_g508.2.2.2.2.2.2.1
theorem dX10_barsThat_9 : decode cX10_barsThat 9 = .ok (.if_icmp .ge 36, 3) := dq_g508.2.2.2.2.2.2.2.1
theorem dX10_barsThat_12 : decode cX10_barsThat 12 = .ok (.iload_n 1, 1) := dq_g508.2.2.2.2.2.2.2.2.1
theorem dX10_barsThat_13 : decode cX10_barsThat 13 = .ok (.ifCond .eq 14, 3) := dq_g508.2.2.2.2.2.2.2.2.2.1
theorem dX10_barsThat_16 : decode cX10_barsThat 16 = .ok (.aload_n 0, 1) := dq_g508.2.2.2.2.2.2.2.2.2.2.1
theorem dX10_barsThat_17 : decode cX10_barsThat 17 = .ok (.iload_n 3, 1) := dq_g508.2.2.2.2.2.2.2.2.2.2.2.1
theorem dX10_barsThat_18 : decode cX10_barsThat 18 = .ok (.invokevirtual 338, 3) := dq_g508.2.2.2.2.2.2.2.2.2.2.2.2.1
theorem dX10_barsThat_21 : decode cX10_barsThat 21 = .ok (.ifCond .eq 18, 3) := dq_g508.2.2.2.2.2.2.2.2.2.2.2.2.2.1
theorem dX10_barsThat_24 : decode cX10_barsThat 24 = .ok (.goto 11, 3) := dq_g508.2.2.2.2.2.2.2.2.2.2.2.2.2.2.1
theorem dX10_barsThat_27 : decode cX10_barsThat 27 = .ok (.aload_n 0, 1) := dq_g508.2.2.2.2.2.2.2.2.2.2.2.2.2.2.2.1
theorem dX10_barsThat_28 : decode cX10_barsThat 28 = .ok (.iload_n 3, 1) := dq_g508.2.2.2.2.2.2.2.2.2.2.2.2.2.2.2.2.1
theorem dX10_barsThat_29 : decode cX10_barsThat 29 = .ok (.invokevirtual 414, 3) := dq_g508.2.2.2.2.2.2.2.2.2.2.2.2.2.2.2.2.2.1
theorem dX10_barsThat_32 : decode cX10_barsThat 32 = .ok (.ifCond .eq 7, 3) := dq_g508.2.2.2.2.2.2.2.2.2.2.2.2.2.2.2.2.2.2.1
theorem dX10_barsThat_35 : decode cX10_barsThat 35 = .ok (.iload_n 2, 1) := dq_g508.2.2.2.2.2.2.2.2.2.2.2.2.2.2.2.2.2.2.2.1
theorem dX10_barsThat_36 : decode cX10_barsThat 36 = .ok (.iconst 1, 1) := dq_g508.2.2.2.2.2.2.2.2.2.2.2.2.2.2.2.2.2.2.2.2.1
theorem dX10_barsThat_37 : decode cX10_barsThat 37 = .ok (.iadd, 1) := dq_g508.2.2.2.2.2.2.2.2.2.2.2.2.2.2.2.2.2.2.2.2.2.1
theorem dX10_barsThat_38 : decode cX10_barsThat 38 = .ok (.istore_n 2, 1) := dq_g508.2.2.2.2.2.2.2.2.2.2.2.2.2.2.2.2.2.2.2.2.2.2.1
theorem dX10_barsThat_39 : decode cX10_barsThat 39 = .ok (.iinc 3 1, 3) := dq_g508.2.2.2.2.2.2.2.2.2.2.2.2.2.2.2.2.2.2.2.2.2.2.2.1
theorem dX10_barsThat_42 : decode cX10_barsThat 42 = .ok (.goto (-38), 3) := dq_g508.2.2.2.2.2.2.2.2.2.2.2.2.2.2.2.2.2.2.2.2.2.2.2.2.1
theorem dX10_barsThat_45 : decode cX10_barsThat 45 = .ok (.iload_n 2, 1) := dq_g508.2.2.2.2.2.2.2.2.2.2.2.2.2.2.2.2.2.2.2.2.2.2.2.2.2.1
theorem dX10_barsThat_46 : decode cX10_barsThat 46 = .ok (.ireturn, 1) := dq_g508.2.2.2.2.2.2.2.2.2.2.2.2.2.2.2.2.2.2.2.2.2.2.2.2.2.2.1
theorem dq_g509 : decode cX10_look 0 = .ok (.aload_n 0, 1) ∧ decode cX10_look 1 = .ok (.iconst 0, 1) ∧ decode cX10_look 2 = .ok (.putfield 167, 3) ∧ decode cX10_look 5 = .ok (.iload_n 1, 1) ∧ decode cX10_look 6 = .ok (.ifCond .ne 8, 3) ∧ decode cX10_look 9 = .ok (.aload_n 0, 1) ∧ decode cX10_look 10 = .ok (.getfield 170, 3) ∧ decode cX10_look 13 = .ok (.ireturn, 1) ∧ decode cX10_look 14 = .ok (.iload_n 1, 1) ∧ decode cX10_look 15 = .ok (.iconst 1, 1) ∧ decode cX10_look 16 = .ok (.if_icmp .ne 8, 3) ∧ decode cX10_look 19 = .ok (.aload_n 0, 1) ∧ decode cX10_look 20 = .ok (.getfield 438, 3) ∧ decode cX10_look 23 = .ok (.ireturn, 1) ∧ decode cX10_look 24 = .ok (.iload_n 1, 1) ∧ decode cX10_look 25 = .ok (.iconst 2, 1) ∧ decode cX10_look 26 = .ok (.if_icmp .ne 8, 3) ∧ decode cX10_look 29 = .ok (.aload_n 0, 1) ∧ decode cX10_look 30 = .ok (.getfield 455, 3) ∧ decode cX10_look 33 = .ok (.ireturn, 1) ∧ decode cX10_look 34 = .ok (.iload_n 1, 1) ∧ decode cX10_look 35 = .ok (.iconst 3, 1) ∧ decode cX10_look 36 = .ok (.if_icmp .ne 8, 3) ∧ decode cX10_look 39 = .ok (.aload_n 0, 1) ∧ decode cX10_look 40 = .ok (.getfield 458, 3) ∧ decode cX10_look 43 = .ok (.ireturn, 1) ∧ decode cX10_look 44 = .ok (.iload_n 1, 1) ∧ decode cX10_look 45 = .ok (.iconst 4, 1) ∧ decode cX10_look 46 = .ok (.if_icmp .ne 8, 3) ∧ decode cX10_look 49 = .ok (.aload_n 0, 1) ∧ True := dqC_ok (c := cX10_look) [(0, 1, some (.aload_n 0)), (1, 1, some (.iconst 0)), (2, 3, some (.putfield 167)), (5, 1, some (.iload_n 1)), (6, 3, some (.ifCond .ne 8)), (9, 1, some (.aload_n 0)), (10, 3, some (.getfield 170)), (13, 1, some (.ireturn)), (14, 1, some (.iload_n 1)), (15, 1, some (.iconst 1)), (16, 3, some (.if_icmp .ne 8)), (19, 1, some (.aload_n 0)), (20, 3, some (.getfield 438)), (23, 1, some (.ireturn)), (24, 1, some (.iload_n 1)), (25, 1, some (.iconst 2)), (26, 3, some (.if_icmp .ne 8)), (29, 1, some (.aload_n 0)), (30, 3, some (.getfield 455)), (33, 1, some (.ireturn)), (34, 1, some (.iload_n 1)), (35, 1, some (.iconst 3)), (36, 3, some (.if_icmp .ne 8)), (39, 1, some (.aload_n 0)), (40, 3, some (.getfield 458)), (43, 1, some (.ireturn)), (44, 1, some (.iload_n 1)), (45, 1, some (.iconst 4)), (46, 3, some (.if_icmp .ne 8)), (49, 1, some (.aload_n 0))] _ 0 rfl (by decide +kernel)
theorem dX10_look_0 : decode cX10_look 0 = .ok (.aload_n 0, 1) := dq_g509.1
theorem dX10_look_1 : decode cX10_look 1 = .ok (.iconst 0, 1) := dq_g509.2.1
theorem dX10_look_2 : decode cX10_look 2 = .ok (.putfield 167, 3) := dq_g509.2.2.1
theorem dX10_look_5 : decode cX10_look 5 = .ok (.iload_n 1, 1) := dq_g509.2.2.2.1
theorem dX10_look_6 : decode cX10_look 6 = .ok (.ifCond .ne 8, 3) := dq_g509.2.2.2.2.1
theorem dX10_look_9 : decode cX10_look 9 = .ok (.aload_n 0, 1) := dq_g509.2.2.2.2.2.1
theorem dX10_look_10 : decode cX10_look 10 = .ok (.getfield 170, 3) := dq_g509.2.2.2.2.2.2.1
theorem dX10_look_13 : decode cX10_look 13 = .ok (.ireturn, 1) := dq_g509.2.2.2.2.2.2.2.1
theorem dX10_look_14 : decode cX10_look 14 = .ok (.iload_n 1, 1) := dq_g509.2.2.2.2.2.2.2.2.1
theorem dX10_look_15 : decode cX10_look 15 = .ok (.iconst 1, 1) := dq_g509.2.2.2.2.2.2.2.2.2.1
theorem dX10_look_16 : decode cX10_look 16 = .ok (.if_icmp .ne 8, 3) := dq_g509.2.2.2.2.2.2.2.2.2.2.1
theorem dX10_look_19 : decode cX10_look 19 = .ok (.aload_n 0, 1) := dq_g509.2.2.2.2.2.2.2.2.2.2.2.1
theorem dX10_look_20 : decode cX10_look 20 = .ok (.getfield 438, 3) := dq_g509.2.2.2.2.2.2.2.2.2.2.2.2.1
theorem dX10_look_23 : decode cX10_look 23 = .ok (.ireturn, 1) := dq_g509.2.2.2.2.2.2.2.2.2.2.2.2.2.1
theorem dX10_look_24 : decode cX10_look 24 = .ok (.iload_n 1, 1) := dq_g509.2.2.2.2.2.2.2.2.2.2.2.2.2.2.1
theorem dX10_look_25 : decode cX10_look 25 = .ok (.iconst 2, 1) := dq_g509.2.2.2.2.2.2.2.2.2.2.2.2.2.2.2.1
theorem dX10_look_26 : decode cX10_look 26 = .ok (.if_icmp .ne 8, 3) := dq_g509.2.2.2.2.2.2.2.2.2.2.2.2.2.2.2.2.1
theorem dX10_look_29 : decode cX10_look 29 = .ok (.aload_n 0, 1) := dq_g509.2.2.2.2.2.2.2.2.2.2.2.2.2.2.2.2.2.1
theorem dX10_look_30 : decode cX10_look 30 = .ok (.getfield 455, 3) := dq_g509.2.2.2.2.2.2.2.2.2.2.2.2.2.2.2.2.2.2.1
theorem dX10_look_33 : decode cX10_look 33 = .ok (.ireturn, 1) := dq_g509.2.2.2.2.2.2.2.2.2.2.2.2.2.2.2.2.2.2.2.1
theorem dX10_look_34 : decode cX10_look 34 = .ok (.iload_n 1, 1) := dq_g509.2.2.2.2.2.2.2.2.2.2.2.2.2.2.2.2.2.2.2.2.1
theorem dX10_look_35 : decode cX10_look 35 = .ok (.iconst 3, 1) := dq_g509.2.2.2.2.2.2.2.2.2.2.2.2.2.2.2.2.2.2.2.2.2.1
theorem dX10_look_36 : decode cX10_look 36 = .ok (.if_icmp .ne 8, 3) := dq_g509.2.2.2.2.2.2.2.2.2.2.2.2.2.2.2.2.2.2.2.2.2.2.1
theorem dX10_look_39 : decode cX10_look 39 = .ok (.aload_n 0, 1) := dq_g509.2.2.2.2.2.2.2.2.2.2.2.2.2.2.2.2.2.2.2.2.2.2.2.1
theorem dX10_look_40 : decode cX10_look 40 = .ok (.getfield 458, 3) := dq_g509.2.2.2.2.2.2.2.2.2.2.2.2.2.2.2.2.2.2.2.2.2.2.2.2.1
theorem dX10_look_43 : decode cX10_look 43 = .ok (.ireturn, 1) := dq_g509.2.2.2.2.2.2.2.2.2.2.2.2.2.2.2.2.2.2.2.2.2.2.2.2.2.1
theorem dX10_look_44 : decode cX10_look 44 = .ok (.iload_n 1, 1) := dq_g509.2.2.2.2.2.2.2.2.2.2.2.2.2.2.2.2.2.2.2.2.2.2.2.2.2.2.1
theorem dX10_look_45 : decode cX10_look 45 = .ok (.iconst 4, 1) := dq_g509.2.2.2.2.2.2.2.2.2.2.2.2.2.2.2.2.2.2.2.2.2.2.2.2.2.2.2.1
theorem dX10_look_46 : decode cX10_look 46 = .ok (.if_icmp .ne 8, 3) := dq_g509.2.2.2.2.2.2.2.2.2.2.2.2.2.2.2.2.2.2.2.2.2.2.2.2.2.2.2.2.1
theorem dX10_look_49 : decode cX10_look 49 = .ok (.aload_n 0, 1) := dq_g509.2.2.2.2.2.2.2.2.2.2.2.2.2.2.2.2.2.2.2.2.2.2.2.2.2.2.2.2.2.1
theorem dq_g510 : decode cX10_look 50 = .ok (.getfield 7, 3) ∧ decode cX10_look 53 = .ok (.ireturn, 1) ∧ decode cX10_look 54 = .ok (.iload_n 1, 1) ∧ decode cX10_look 55 = .ok (.iconst 5, 1) ∧ decode cX10_look 56 = .ok (.if_icmp .ne 8, 3) ∧ decode cX10_look 59 = .ok (.aload_n 0, 1) ∧ decode cX10_look 60 = .ok (.getfield 322, 3) ∧ decode cX10_look 63 = .ok (.ireturn, 1) ∧ decode cX10_look 64 = .ok (.iload_n 1, 1) ∧ decode cX10_look 65 = .ok (.bipush 6, 2) ∧ decode cX10_look 67 = .ok (.if_icmp .eq 9, 3) ∧ decode cX10_look 70 = .ok (.iload_n 1, 1) ∧ decode cX10_look 71 = .ok (.bipush 7, 2) ∧ decode cX10_look 73 = .ok (.if_icmp .ne 21, 3) ∧ decode cX10_look 76 = .ok (.aload_n 0, 1) ∧ decode cX10_look 77 = .ok (.iload_n 1, 1) ∧ decode cX10_look 78 = .ok (.bipush 6, 2) ∧ decode cX10_look 80 = .ok (.if_icmp .ne 7, 3) ∧ decode cX10_look 83 = .ok (.iconst 1, 1) ∧ decode cX10_look 84 = .ok (.goto 4, 3) ∧ decode cX10_look 87 = .ok (.iconst 0, 1) ∧ decode cX10_look 88 = .ok (.invokevirtual 488, 3) ∧ decode cX10_look 91 = .ok (.goto 4, 3) ∧ decode cX10_look 94 = .ok (.iconst (-1), 1) ∧ decode cX10_look 95 = .ok (.ireturn, 1) ∧ True := dqC_ok (c := cX10_look) [(50, 3, some (.getfield 7)), (53, 1, some (.ireturn)), (54, 1, some (.iload_n 1)), (55, 1, some (.iconst 5)), (56, 3, some (.if_icmp .ne 8)), (59, 1, some (.aload_n 0)), (60, 3, some (.getfield 322)), (63, 1, some (.ireturn)), (64, 1, some (.iload_n 1)), (65, 2, some (.bipush 6)), (67, 3, some (.if_icmp .eq 9)), (70, 1, some (.iload_n 1)), (71, 2, some (.bipush 7)), (73, 3, some (.if_icmp .ne 21)), (76, 1, some (.aload_n 0)), (77, 1, some (.iload_n 1)), (78, 2, some (.bipush 6)), (80, 3, some (.if_icmp .ne 7)), (83, 1, some (.iconst 1)), (84, 3, some (.goto 4)), (87, 1, some (.iconst 0)), (88, 3, some (.invokevirtual 488)), (91, 3, some (.goto 4)), (94, 1, some (.iconst (-1))), (95, 1, some (.ireturn))] _ 50 rfl (by decide +kernel)
theorem dX10_look_50 : decode cX10_look 50 = .ok (.getfield 7, 3) := dq_g510.1
theorem dX10_look_53 : decode cX10_look 53 = .ok (.ireturn, 1) := dq_g510.2.1
theorem dX10_look_54 : decode cX10_look 54 = .ok (.iload_n 1, 1) := dq_g510.2.2.1
theorem dX10_look_55 : decode cX10_look 55 = .ok (.iconst 5, 1) := dq_g510.2.2.2.1
theorem dX10_look_56 : decode cX10_look 56 = .ok (.if_icmp .ne 8, 3) := dq_g510.2.2.2.2.1
theorem dX10_look_59 : decode cX10_look 59 = .ok (.aload_n 0, 1) := dq_g510.2.2.2.2.2.1
theorem dX10_look_60 : decode cX10_look 60 = .ok (.getfield 322, 3) := dq_g510.2.2.2.2.2.2.1
theorem dX10_look_63 : decode cX10_look 63 = .ok (.ireturn, 1) := dq_g510.2.2.2.2.2.2.2.1
theorem dX10_look_64 : decode cX10_look 64 = .ok (.iload_n 1, 1) := dq_g510.2.2.2.2.2.2.2.2.1
theorem dX10_look_65 : decode cX10_look 65 = .ok (.bipush 6, 2) := dq_g510.2.2.2.2.2.2.2.2.2.1
theorem dX10_look_67 : decode cX10_look 67 = .ok (.if_icmp .eq 9, 3) := dq_g510.2.2.2.2.2.2.2.2.2.2.1
theorem dX10_look_70 : decode cX10_look 70 = .ok (.iload_n 1, 1) := dq_g510.2.2.2.2.2.2.2.2.2.2.2.1
theorem dX10_look_71 : decode cX10_look 71 = .ok (.bipush 7, 2) := dq_g510.2.2.2.2.2.2.2.2.2.2.2.2.1
theorem dX10_look_73 : decode cX10_look 73 = .ok (.if_icmp .ne 21, 3) := dq_g510.2.2.2.2.2.2.2.2.2.2.2.2.2.1
theorem dX10_look_76 : decode cX10_look 76 = .ok (.aload_n 0, 1) := dq_g510.2.2.2.2.2.2.2.2.2.2.2.2.2.2.1
theorem dX10_look_77 : decode cX10_look 77 = .ok (.iload_n 1, 1) := dq_g510.2.2.2.2.2.2.2.2.2.2.2.2.2.2.2.1
theorem dX10_look_78 : decode cX10_look 78 = .ok (.bipush 6, 2) := dq_g510.2.2.2.2.2.2.2.2.2.2.2.2.2.2.2.2.1
theorem dX10_look_80 : decode cX10_look 80 = .ok (.if_icmp .ne 7, 3) := dq_g510.2.2.2.2.2.2.2.2.2.2.2.2.2.2.2.2.2.1
theorem dX10_look_83 : decode cX10_look 83 = .ok (.iconst 1, 1) := dq_g510.2.2.2.2.2.2.2.2.2.2.2.2.2.2.2.2.2.2.1
theorem dX10_look_84 : decode cX10_look 84 = .ok (.goto 4, 3) := dq_g510.2.2.2.2.2.2.2.2.2.2.2.2.2.2.2.2.2.2.2.1
theorem dX10_look_87 : decode cX10_look 87 = .ok (.iconst 0, 1) := dq_g510.2.2.2.2.2.2.2.2.2.2.2.2.2.2.2.2.2.2.2.2.1
theorem dX10_look_88 : decode cX10_look 88 = .ok (.invokevirtual 488, 3) := dq_g510.2.2.2.2.2.2.2.2.2.2.2.2.2.2.2.2.2.2.2.2.2.1
theorem dX10_look_91 : decode cX10_look 91 = .ok (.goto 4, 3) := dq_g510.2.2.2.2.2.2.2.2.2.2.2.2.2.2.2.2.2.2.2.2.2.2.1
theorem dX10_look_94 : decode cX10_look 94 = .ok (.iconst (-1), 1) := dq_g510.2.2.2.2.2.2.2.2.2.2.2.2.2.2.2.2.2.2.2.2.2.2.2.1
theorem dX10_look_95 : decode cX10_look 95 = .ok (.ireturn, 1) := dq_g510.2.2.2.2.2.2.2.2.2.2.2.2.2.2.2.2.2.2.2.2.2.2.2.2.1
theorem dq_g511 : decode cJ0_charAt_5068e 0 = .ok (.aload_n 0, 1) ∧ decode cJ0_charAt_5068e 1 = .ok (.invokevirtual 492, 3) ∧ decode cJ0_charAt_5068e 4 = .ok (.ifCond .eq 12, 3) ∧ decode cJ0_charAt_5068e 7 = .ok (.aload_n 0, 1) ∧ decode cJ0_charAt_5068e 8 = .ok (.getfield 9, 3) ∧ decode cJ0_charAt_5068e 11 = .ok (.iload_n 1, 1) ∧ decode cJ0_charAt_5068e 12 = .ok (.invokestatic 495, 3) ∧ decode cJ0_charAt_5068e 15 = .ok (.ireturn, 1) ∧ True := dqC_ok (c := cJ0_charAt_5068e) [(0, 1, some (.aload_n 0)), (1, 3, some (.invokevirtual 492)), (4, 3, some (.ifCond .eq 12)), (7, 1, some (.aload_n 0)), (8, 3, some (.getfield 9)), (11, 1, some (.iload_n 1)), (12, 3, some (.invokestatic 495)), (15, 1, some (.ireturn))] _ 0 rfl (by decide +kernel)
theorem dJ0_charAt_5068e_0 : decode cJ0_charAt_5068e 0 = .ok (.aload_n 0, 1) := dq_g511.1
theorem dJ0_charAt_5068e_1 : decode cJ0_charAt_5068e 1 = .ok (.invokevirtual 492, 3) := dq_g511.2.1
theorem dJ0_charAt_5068e_4 : decode cJ0_charAt_5068e 4 = .ok (.ifCond .eq 12, 3) := dq_g511.2.2.1
theorem dJ0_charAt_5068e_7 : decode cJ0_charAt_5068e 7 = .ok (.aload_n 0, 1) := dq_g511.2.2.2.1
theorem dJ0_charAt_5068e_8 : decode cJ0_charAt_5068e 8 = .ok (.getfield 9, 3) := dq_g511.2.2.2.2.1
theorem dJ0_charAt_5068e_11 : decode cJ0_charAt_5068e 11 = .ok (.iload_n 1, 1) := dq_g511.2.2.2.2.2.1
theorem dJ0_charAt_5068e_12 : decode cJ0_charAt_5068e 12 = .ok (.invokestatic 495, 3) := dq_g511.2.2.2.2.2.2.1
theorem dJ0_charAt_5068e_15 : decode cJ0_charAt_5068e 15 = .ok (.ireturn, 1) := dq_g511.2.2.2.2.2.2.2.1
theorem dq_g512 : decode cJ0_isLatin1_aae02 0 = .ok (.getstatic 38, 3) ∧ decode cJ0_isLatin1_aae02 3 = .ok (.ifCond .eq 14, 3) ∧ decode cJ0_isLatin1_aae02 6 = .ok (.aload_n 0, 1) ∧ decode cJ0_isLatin1_aae02 7 = .ok (.getfield 15, 3) ∧ decode cJ0_isLatin1_aae02 10 = .ok (.ifCond .ne 7, 3) ∧ decode cJ0_isLatin1_aae02 13 = .ok (.iconst 1, 1) ∧ decode cJ0_isLatin1_aae02 14 = .ok (.goto 4, 3) ∧ True := dqC_ok (c := cJ0_isLatin1_aae02) [(0, 3, some (.getstatic 38)), (3, 3, some (.ifCond .eq 14)), (6, 1, some (.aload_n 0)), (7, 3, some (.getfield 15)), (10, 3, some (.ifCond .ne 7)), (13, 1, some (.iconst 1)), (14, 3, some (.goto 4))] _ 0 rfl (by decide +kernel)
theorem dJ0_isLatin1_aae02_0 : decode cJ0_isLatin1_aae02 0 = .ok (.getstatic 38, 3) := dq_g512.1
theorem dJ0_isLatin1_aae02_3 : decode cJ0_isLatin1_aae02 3 = .ok (.ifCond .eq 14, 3) := dq_g512.2.1
theorem dJ0_isLatin1_aae02_6 : decode cJ0_isLatin1_aae02 6 = .ok (.aload_n 0, 1) := dq_g512.2.2.1
theorem dJ0_isLatin1_aae02_7 : decode cJ0_isLatin1_aae02 7 = .ok (.getfield 15, 3) := dq_g512.2.2.2.1
theorem dJ0_isLatin1_aae02_10 : decode cJ0_isLatin1_aae02 10 = .ok (.ifCond .ne 7, 3) := dq_g512.2.2.2.2.1
theorem dJ0_isLatin1_aae02_13 : decode cJ0_isLatin1_aae02 13 = .ok (.iconst 1, 1) := dq_g512.2.2.2.2.2.1
theorem dJ0_isLatin1_aae02_14 : decode cJ0_isLatin1_aae02 14 = .ok (.goto 4, 3) := dq_g512.2.2.2.2.2.2.1
theorem dq_g513 : decode cJ0_isLatin1_aae02 18 = .ok (.ireturn, 1) ∧ True := dqC_ok (c := cJ0_isLatin1_aae02) [(18, 1, some (.ireturn))] _ 18 rfl (by decide +kernel)
theorem dJ0_isLatin1_aae02_18 : decode cJ0_isLatin1_aae02 18 = .ok (.ireturn, 1) := dq_g513.1
theorem dq_g514 : decode cJ0_checkIndex_df160 0 = .ok (.iload_n 0, 1) ∧ decode cJ0_checkIndex_df160 1 = .ok (.iload_n 1, 1) ∧ decode cJ0_checkIndex_df160 2 = .ok (.getstatic 1053, 3) ∧ decode cJ0_checkIndex_df160 5 = .ok (.invokestatic 1059, 3) ∧ decode cJ0_checkIndex_df160 8 = .ok (.pop, 1) ∧ decode cJ0_checkIndex_df160 9 = .ok (.return_, 1) ∧ True := dqC_ok (c := cJ0_checkIndex_df160) [(0, 1, some (.iload_n 0)), (1, 1, some (.iload_n 1)), (2, 3, some (.getstatic 1053)), (5, 3, some (.invokestatic 1059)), (8, 1, some (.pop)), (9, 1, some (.return_))] _ 0 rfl (by decide +kernel)
theorem dJ0_checkIndex_df160_0 : decode cJ0_checkIndex_df160 0 = .ok (.iload_n 0, 1) := dq_g514.1
theorem dJ0_checkIndex_df160_1 : decode cJ0_checkIndex_df160 1 = .ok (.iload_n 1, 1) := dq_g514.2.1
theorem dJ0_checkIndex_df160_2 : decode cJ0_checkIndex_df160 2 = .ok (.getstatic 1053, 3) := dq_g514.2.2.1
theorem dJ0_checkIndex_df160_5 : decode cJ0_checkIndex_df160 5 = .ok (.invokestatic 1059, 3) := dq_g514.2.2.2.1
theorem dJ0_checkIndex_df160_8 : decode cJ0_checkIndex_df160 8 = .ok (.pop, 1) := dq_g514.2.2.2.2.1
theorem dJ0_checkIndex_df160_9 : decode cJ0_checkIndex_df160 9 = .ok (.return_, 1) := dq_g514.2.2.2.2.2.1
theorem dq_g515 : decode cJ1_charAt_3b067 0 = .ok (.iload_n 1, 1) ∧ decode cJ1_charAt_3b067 1 = .ok (.aload_n 0, 1) ∧ decode cJ1_charAt_3b067 2 = .ok (.arraylength, 1) ∧ decode cJ1_charAt_3b067 3 = .ok (.invokestatic 9, 3) ∧ decode cJ1_charAt_3b067 6 = .ok (.aload_n 0, 1) ∧ decode cJ1_charAt_3b067 7 = .ok (.iload_n 1, 1) ∧ decode cJ1_charAt_3b067 8 = .ok (.baload, 1) ∧ decode cJ1_charAt_3b067 9 = .ok (.sipush 255, 3) ∧ decode cJ1_charAt_3b067 12 = .ok (.iand, 1) ∧ decode cJ1_charAt_3b067 13 = .ok (.i2c, 1) ∧ decode cJ1_charAt_3b067 14 = .ok (.ireturn, 1) ∧ True := dqC_ok (c := cJ1_charAt_3b067) [(0, 1, some (.iload_n 1)), (1, 1, some (.aload_n 0)), (2, 1, some (.arraylength)), (3, 3, some (.invokestatic 9)), (6, 1, some (.aload_n 0)), (7, 1, some (.iload_n 1)), (8, 1, some (.baload)), (9, 3, some (.sipush 255)), (12, 1, some (.iand)), (13, 1, some (.i2c)), (14, 1, some (.ireturn))] _ 0 rfl (by decide +kernel)
theorem dJ1_charAt_3b067_0 : decode cJ1_charAt_3b067 0 = .ok (.iload_n 1, 1) := dq_g515.1
theorem dJ1_charAt_3b067_1 : decode cJ1_charAt_3b067 1 = .ok (.aload_n 0, 1) := dq_g515.2.1
theorem dJ1_charAt_3b067_2 : decode cJ1_charAt_3b067 2 = .ok (.arraylength, 1) := dq_g515.2.2.1
theorem dJ1_charAt_3b067_3 : decode cJ1_charAt_3b067 3 = .ok (.invokestatic 9, 3) := dq_g515.2.2.2.1
theorem dJ1_charAt_3b067_6 : decode cJ1_charAt_3b067 6 = .ok (.aload_n 0, 1) := dq_g515.2.2.2.2.1
theorem dJ1_charAt_3b067_7 : decode cJ1_charAt_3b067 7 = .ok (.iload_n 1, 1) := dq_g515.2.2.2.2.2.1
theorem dJ1_charAt_3b067_8 : decode cJ1_charAt_3b067 8 = .ok (.baload, 1) := dq_g515.2.2.2.2.2.2.1
theorem dJ1_charAt_3b067_9 : decode cJ1_charAt_3b067 9 = .ok (.sipush 255, 3) := dq_g515.2.2.2.2.2.2.2.1
theorem dJ1_charAt_3b067_12 : decode cJ1_charAt_3b067 12 = .ok (.iand, 1) := dq_g515.2.2.2.2.2.2.2.2.1
theorem dJ1_charAt_3b067_13 : decode cJ1_charAt_3b067 13 = .ok (.i2c, 1) := dq_g515.2.2.2.2.2.2.2.2.2.1
theorem dJ1_charAt_3b067_14 : decode cJ1_charAt_3b067 14 = .ok (.ireturn, 1) := dq_g515.2.2.2.2.2.2.2.2.2.2.1
theorem dq_g516 : decode cJ7_fill_53178 0 = .ok (.iconst 0, 1) ∧ decode cJ7_fill_53178 1 = .ok (.istore_n 2, 1) ∧ decode cJ7_fill_53178 2 = .ok (.aload_n 0, 1) ∧ decode cJ7_fill_53178 3 = .ok (.arraylength, 1) ∧ decode cJ7_fill_53178 4 = .ok (.istore_n 3, 1) ∧ decode cJ7_fill_53178 5 = .ok (.iload_n 2, 1) ∧ decode cJ7_fill_53178 6 = .ok (.iload_n 3, 1) ∧ decode cJ7_fill_53178 7 = .ok (.if_icmp .ge 13, 3) ∧ decode cJ7_fill_53178 10 = .ok (.aload_n 0, 1) ∧ decode cJ7_fill_53178 11 = .ok (.iload_n 2, 1) ∧ decode cJ7_fill_53178 12 = .ok (.iload_n 1, 1) ∧ decode cJ7_fill_53178 13 = .ok (.iastore, 1) ∧ decode cJ7_fill_53178 14 = .ok (.iinc 2 1, 3) ∧ decode cJ7_fill_53178 17 = .ok (.goto (-12), 3) ∧ decode cJ7_fill_53178 20 = .ok (.return_, 1) ∧ True := dqC_ok (c := cJ7_fill_53178) [(0, 1, some (.iconst 0)), (1, 1, some (.istore_n 2)), (2, 1, some (.aload_n 0)), (3, 1, some (.arraylength)), (4, 1, some (.istore_n 3)), (5, 1, some (.iload_n 2)), (6, 1, some (.iload_n 3)), (7, 3, some (.if_icmp .ge 13)), (10, 1, some (.aload_n 0)), (11, 1, some (.iload_n 2)), (12, 1, some (.iload_n 1)), (13, 1, some (.iastore)), (14, 3, some (.iinc 2 1)), (17, 3, some (.goto (-12))), (20, 1, some (.return_))] _ 0 rfl (by decide +kernel)
theorem dJ7_fill_53178_0 : decode cJ7_fill_53178 0 = .ok (.iconst 0, 1) := dq_g516.1
theorem dJ7_fill_53178_1 : decode cJ7_fill_53178 1 = .ok (.istore_n 2, 1) := dq_g516.2.1
theorem dJ7_fill_53178_2 : decode cJ7_fill_53178 2 = .ok (.aload_n 0, 1) := dq_g516.2.2.1
theorem dJ7_fill_53178_3 : decode cJ7_fill_53178 3 = .ok (.arraylength, 1) := dq_g516.2.2.2.1
theorem dJ7_fill_53178_4 : decode cJ7_fill_53178 4 = .ok (.istore_n 3, 1) := dq_g516.2.2.2.2.1
theorem dJ7_fill_53178_5 : decode cJ7_fill_53178 5 = .ok (.iload_n 2, 1) := dq_g516.2.2.2.2.2.1
theorem dJ7_fill_53178_6 : decode cJ7_fill_53178 6 = .ok (.iload_n 3, 1) := dq_g516.2.2.2.2.2.2.1
theorem dJ7_fill_53178_7 : decode cJ7_fill_53178 7 = .ok (.if_icmp .ge 13, 3) := dq_g516.2.2.2.2.2.2.2.1
theorem dJ7_fill_53178_10 : decode cJ7_fill_53178 10 = .ok (.aload_n 0, 1) := dq_g516.2.2.2.2.2.2.2.2.1
theorem dJ7_fill_53178_11 : decode cJ7_fill_53178 11 = .ok (.iload_n 2, 1) := dq_g516.2.2.2.2.2.2.2.2.2.1
theorem dJ7_fill_53178_12 : decode cJ7_fill_53178 12 = .ok (.iload_n 1, 1) := dq_g516.2.2.2.2.2.2.2.2.2.2.1
theorem dJ7_fill_53178_13 : decode cJ7_fill_53178 13 = .ok (.iastore, 1) := dq_g516.2.2.2.2.2.2.2.2.2.2.2.1
theorem dJ7_fill_53178_14 : decode cJ7_fill_53178 14 = .ok (.iinc 2 1, 3) := dq_g516.2.2.2.2.2.2.2.2.2.2.2.2.1
theorem dJ7_fill_53178_17 : decode cJ7_fill_53178 17 = .ok (.goto (-12), 3) := dq_g516.2.2.2.2.2.2.2.2.2.2.2.2.2.1
theorem dJ7_fill_53178_20 : decode cJ7_fill_53178 20 = .ok (.return_, 1) := dq_g516.2.2.2.2.2.2.2.2.2.2.2.2.2.2.1
theorem dq_g517 : decode cJ3_checkIndex_8e157 0 = .ok (.iload_n 0, 1) ∧ decode cJ3_checkIndex_8e157 1 = .ok (.ifCond .lt 8, 3) ∧ decode cJ3_checkIndex_8e157 4 = .ok (.iload_n 0, 1) ∧ decode cJ3_checkIndex_8e157 5 = .ok (.iload_n 1, 1) ∧ decode cJ3_checkIndex_8e157 6 = .ok (.if_icmp .lt 10, 3) ∧ True := dqC_ok (c := cJ3_checkIndex_8e157) [(0, 1, some (.iload_n 0)), (1, 3, some (.ifCond .lt 8)), (4, 1, some (.iload_n 0)), (5, 1, some (.iload_n 1)), (6, 3, some (.if_icmp .lt 10))] _ 0 rfl (by decide +kernel)
theorem dJ3_checkIndex_8e157_0 : decode cJ3_checkIndex_8e157 0 = .ok (.iload_n 0, 1) := dq_g517.1
theorem dJ3_checkIndex_8e157_1 : decode cJ3_checkIndex_8e157 1 = .ok (.ifCond .lt 8, 3) := dq_g517.2.1
theorem dJ3_checkIndex_8e157_4 : decode cJ3_checkIndex_8e157 4 = .ok (.iload_n 0, 1) := dq_g517.2.2.1
theorem dJ3_checkIndex_8e157_5 : decode cJ3_checkIndex_8e157 5 = .ok (.iload_n 1, 1) := dq_g517.2.2.2.1
theorem dJ3_checkIndex_8e157_6 : decode cJ3_checkIndex_8e157 6 = .ok (.if_icmp .lt 10, 3) := dq_g517.2.2.2.2.1
theorem dq_g518 : decode cJ3_checkIndex_8e157 16 = .ok (.iload_n 0, 1) ∧ decode cJ3_checkIndex_8e157 17 = .ok (.ireturn, 1) ∧ True := dqC_ok (c := cJ3_checkIndex_8e157) [(16, 1, some (.iload_n 0)), (17, 1, some (.ireturn))] _ 16 rfl (by decide +kernel)
theorem dJ3_checkIndex_8e157_16 : decode cJ3_checkIndex_8e157 16 = .ok (.iload_n 0, 1) := dq_g518.1
theorem dJ3_checkIndex_8e157_17 : decode cJ3_checkIndex_8e157 17 = .ok (.ireturn, 1) := dq_g518.2.1
theorem dq_g519 : decode cL_law 0 = .ok (.new 7, 3) ∧ decode cL_law 3 = .ok (.dup, 1) ∧ decode cL_law 4 = .ok (.invokespecial 9, 3) ∧ decode cL_law 7 = .ok (.astore_n 1, 1) ∧ decode cL_law 8 = .ok (.new 10, 3) ∧ decode cL_law 11 = .ok (.dup, 1) ∧ decode cL_law 12 = .ok (.invokespecial 12, 3) ∧ decode cL_law 15 = .ok (.astore_n 2, 1) ∧ decode cL_law 16 = .ok (.iconst 0, 1) ∧ decode cL_law 17 = .ok (.istore_n 3, 1) ∧ decode cL_law 18 = .ok (.iload_n 3, 1) ∧ decode cL_law 19 = .ok (.aload_n 0, 1) ∧ decode cL_law 20 = .ok (.arraylength, 1) ∧ decode cL_law 21 = .ok (.bipush 6, 2) ∧ decode cL_law 23 = .ok (.isub, 1) ∧ decode cL_law 24 = .ok (.if_icmp .gt 1491, 3) ∧ decode cL_law 27 = .ok (.aload_n 0, 1) ∧ decode cL_law 28 = .ok (.iload_n 3, 1) ∧ decode cL_law 29 = .ok (.iaload, 1) ∧ decode cL_law 30 = .ok (.bipush 63, 2) ∧ decode cL_law 32 = .ok (.iand, 1) ∧ decode cL_law 188 = .ok (.aload_n 1, 1) ∧ decode cL_law 189 = .ok (.aload_n 0, 1) ∧ decode cL_law 190 = .ok (.iload_n 3, 1) ∧ decode cL_law 191 = .ok (.iconst 1, 1) ∧ decode cL_law 192 = .ok (.iadd, 1) ∧ decode cL_law 193 = .ok (.iaload, 1) ∧ decode cL_law 194 = .ok (.invokevirtual 13, 3) ∧ decode cL_law 197 = .ok (.pop, 1) ∧ True := dqC_ok (c := cL_law) [(0, 3, some (.new 7)), (3, 1, some (.dup)), (4, 3, some (.invokespecial 9)), (7, 1, some (.astore_n 1)), (8, 3, some (.new 10)), (11, 1, some (.dup)), (12, 3, some (.invokespecial 12)), (15, 1, some (.astore_n 2)), (16, 1, some (.iconst 0)), (17, 1, some (.istore_n 3)), (18, 1, some (.iload_n 3)), (19, 1, some (.aload_n 0)), (20, 1, some (.arraylength)), (21, 2, some (.bipush 6)), (23, 1, some (.isub)), (24, 3, some (.if_icmp .gt 1491)), (27, 1, some (.aload_n 0)), (28, 1, some (.iload_n 3)), (29, 1, some (.iaload)), (30, 2, some (.bipush 63)), (32, 1, some (.iand)), (33, 155, none), (188, 1, some (.aload_n 1)), (189, 1, some (.aload_n 0)), (190, 1, some (.iload_n 3)), (191, 1, some (.iconst 1)), (192, 1, some (.iadd)), (193, 1, some (.iaload)), (194, 3, some (.invokevirtual 13)), (197, 1, some (.pop))] _ 0 rfl (by decide +kernel)
theorem dL_law_0 : decode cL_law 0 = .ok (.new 7, 3) := dq_g519.1
theorem dL_law_3 : decode cL_law 3 = .ok (.dup, 1) := dq_g519.2.1
theorem dL_law_4 : decode cL_law 4 = .ok (.invokespecial 9, 3) := dq_g519.2.2.1
theorem dL_law_7 : decode cL_law 7 = .ok (.astore_n 1, 1) := dq_g519.2.2.2.1
theorem dL_law_8 : decode cL_law 8 = .ok (.new 10, 3) := dq_g519.2.2.2.2.1
theorem dL_law_11 : decode cL_law 11 = .ok (.dup, 1) := dq_g519.2.2.2.2.2.1
theorem dL_law_12 : decode cL_law 12 = .ok (.invokespecial 12, 3) := dq_g519.2.2.2.2.2.2.1
theorem dL_law_15 : decode cL_law 15 = .ok (.astore_n 2, 1) := dq_g519.2.2.2.2.2.2.2.1
theorem dL_law_16 : decode cL_law 16 = .ok (.iconst 0, 1) := dq_g519.2.2.2.2.2.2.2.2.1
theorem dL_law_17 : decode cL_law 17 = .ok (.istore_n 3, 1) := dq_g519.2.2.2.2.2.2.2.2.2.1
theorem dL_law_18 : decode cL_law 18 = .ok (.iload_n 3, 1) := dq_g519.2.2.2.2.2.2.2.2.2.2.1
theorem dL_law_19 : decode cL_law 19 = .ok (.aload_n 0, 1) := dq_g519.2.2.2.2.2.2.2.2.2.2.2.1
theorem dL_law_20 : decode cL_law 20 = .ok (.arraylength, 1) := dq_g519.2.2.2.2.2.2.2.2.2.2.2.2.1
theorem dL_law_21 : decode cL_law 21 = .ok (.bipush 6, 2) := dq_g519.2.2.2.2.2.2.2.2.2.2.2.2.2.1
theorem dL_law_23 : decode cL_law 23 = .ok (.isub, 1) := dq_g519.2.2.2.2.2.2.2.2.2.2.2.2.2.2.1
theorem dL_law_24 : decode cL_law 24 = .ok (.if_icmp .gt 1491, 3) := dq_g519.2.2.2.2.2.2.2.2.2.2.2.2.2.2.2.1
theorem dL_law_27 : decode cL_law 27 = .ok (.aload_n 0, 1) := dq_g519.2.2.2.2.2.2.2.2.2.2.2.2.2.2.2.2.1
theorem dL_law_28 : decode cL_law 28 = .ok (.iload_n 3, 1) := dq_g519.2.2.2.2.2.2.2.2.2.2.2.2.2.2.2.2.2.1
theorem dL_law_29 : decode cL_law 29 = .ok (.iaload, 1) := dq_g519.2.2.2.2.2.2.2.2.2.2.2.2.2.2.2.2.2.2.1
theorem dL_law_30 : decode cL_law 30 = .ok (.bipush 63, 2) := dq_g519.2.2.2.2.2.2.2.2.2.2.2.2.2.2.2.2.2.2.2.1
theorem dL_law_32 : decode cL_law 32 = .ok (.iand, 1) := dq_g519.2.2.2.2.2.2.2.2.2.2.2.2.2.2.2.2.2.2.2.2.1
theorem dL_law_188 : decode cL_law 188 = .ok (.aload_n 1, 1) := dq_g519.2.2.2.2.2.2.2.2.2.2.2.2.2.2.2.2.2.2.2.2.2.1
theorem dL_law_189 : decode cL_law 189 = .ok (.aload_n 0, 1) := dq_g519.2.2.2.2.2.2.2.2.2.2.2.2.2.2.2.2.2.2.2.2.2.2.1
theorem dL_law_190 : decode cL_law 190 = .ok (.iload_n 3, 1) := dq_g519.2.2.2.2.2.2.2.2.2.2.2.2.2.2.2.2.2.2.2.2.2.2.2.1
theorem dL_law_191 : decode cL_law 191 = .ok (.iconst 1, 1) := dq_g519.2.2.2.2.2.2.2.2.2.2.2.2.2.2.2.2.2.2.2.2.2.2.2.2.1
theorem dL_law_192 : decode cL_law 192 = .ok (.iadd, 1) := dq_g519.2.2.2.2.2.2.2.2.2.2.2.2.2.2.2.2.2.2.2.2.2.2.2.2.2.1
theorem dL_law_193 : decode cL_law 193 = .ok (.iaload, 1) := dq_g519.2.2.2.2.2.2.2.2.2.2.2.2.2.2.2.2.2.2.2.2.2.2.2.2.2.2.1
theorem dL_law_194 : decode cL_law 194 = .ok (.invokevirtual 13, 3) := dq_g519.2.2.2.2.2.2.2.2.2.2.2.2.2.2.2.2.2.2.2.2.2.2.2.2.2.2.2.1
theorem dL_law_197 : decode cL_law 197 = .ok (.pop, 1) := dq_g519.2.2.2.2.2.2.2.2.2.2.2.2.2.2.2.2.2.2.2.2.2.2.2.2.2.2.2.2.1
theorem dL_law_33 : decode cL_law 33 = .ok (.tableswitch 1476 0 34 #[155, 178, 241, 284, 327, 390, 413, 446, 469, 492, 555, 588, 631, 674, 717, 740, 773, 816, 849, 882, 925, 978, 1001, 1044, 1087, 1130, 1183, 1216, 1249, 1282, 1315, 1348, 1371, 1414, 1453], 155) := by decide +kernel
theorem dq_g520 : decode cL_law 198 = .ok (.aload_n 2, 1) ∧ decode cL_law 199 = .ok (.aload_n 0, 1) ∧ decode cL_law 200 = .ok (.iload_n 3, 1) ∧ decode cL_law 201 = .ok (.iconst 1, 1) ∧ decode cL_law 202 = .ok (.iadd, 1) ∧ decode cL_law 203 = .ok (.iaload, 1) ∧ decode cL_law 204 = .ok (.invokevirtual 17, 3) ∧ decode cL_law 207 = .ok (.pop, 1) ∧ decode cL_law 208 = .ok (.goto 1301, 3) ∧ decode cL_law 211 = .ok (.aload_n 1, 1) ∧ decode cL_law 212 = .ok (.aload_n 0, 1) ∧ decode cL_law 213 = .ok (.iload_n 3, 1) ∧ decode cL_law 214 = .ok (.iconst 1, 1) ∧ decode cL_law 215 = .ok (.iadd, 1) ∧ decode cL_law 216 = .ok (.iaload, 1) ∧ decode cL_law 217 = .ok (.aload_n 0, 1) ∧ decode cL_law 218 = .ok (.iload_n 3, 1) ∧ decode cL_law 219 = .ok (.iconst 2, 1) ∧ decode cL_law 220 = .ok (.iadd, 1) ∧ decode cL_law 221 = .ok (.iaload, 1) ∧ decode cL_law 222 = .ok (.aload_n 0, 1) ∧ decode cL_law 223 = .ok (.iload_n 3, 1) ∧ decode cL_law 224 = .ok (.iconst 3, 1) ∧ decode cL_law 225 = .ok (.iadd, 1) ∧ decode cL_law 226 = .ok (.iaload, 1) ∧ decode cL_law 227 = .ok (.aload_n 0, 1) ∧ decode cL_law 228 = .ok (.iload_n 3, 1) ∧ decode cL_law 229 = .ok (.iconst 4, 1) ∧ decode cL_law 230 = .ok (.iadd, 1) ∧ decode cL_law 231 = .ok (.iaload, 1) ∧ True := dqC_ok (c := cL_law) [(198, 1, some (.aload_n 2)), (199, 1, some (.aload_n 0)), (200, 1, some (.iload_n 3)), (201, 1, some (.iconst 1)), (202, 1, some (.iadd)), (203, 1, some (.iaload)), (204, 3, some (.invokevirtual 17)), (207, 1, some (.pop)), (208, 3, some (.goto 1301)), (211, 1, some (.aload_n 1)), (212, 1, some (.aload_n 0)), (213, 1, some (.iload_n 3)), (214, 1, some (.iconst 1)), (215, 1, some (.iadd)), (216, 1, some (.iaload)), (217, 1, some (.aload_n 0)), (218, 1, some (.iload_n 3)), (219, 1, some (.iconst 2)), (220, 1, some (.iadd)), (221, 1, some (.iaload)), (222, 1, some (.aload_n 0)), (223, 1, some (.iload_n 3)), (224, 1, some (.iconst 3)), (225, 1, some (.iadd)), (226, 1, some (.iaload)), (227, 1, some (.aload_n 0)), (228, 1, some (.iload_n 3)), (229, 1, some (.iconst 4)), (230, 1, some (.iadd)), (231, 1, some (.iaload))] _ 198 rfl (by decide +kernel)
theorem dL_law_198 : decode cL_law 198 = .ok (.aload_n 2, 1) := dq_g520.1
theorem dL_law_199 : decode cL_law 199 = .ok (.aload_n 0, 1) := dq_g520.2.1
theorem dL_law_200 : decode cL_law 200 = .ok (.iload_n 3, 1) := dq_g520.2.2.1
theorem dL_law_201 : decode cL_law 201 = .ok (.iconst 1, 1) := dq_g520.2.2.2.1
theorem dL_law_202 : decode cL_law 202 = .ok (.iadd, 1) := dq_g520.2.2.2.2.1
theorem dL_law_203 : decode cL_law 203 = .ok (.iaload, 1) := dq_g520.2.2.2.2.2.1
theorem dL_law_204 : decode cL_law 204 = .ok (.invokevirtual 17, 3) := dq_g520.2.2.2.2.2.2.1
theorem dL_law_207 : decode cL_law 207 = .ok (.pop, 1) := dq_g520.2.2.2.2.2.2.2.1
theorem dL_law_208 : decode cL_law 208 = .ok (.goto 1301, 3) := dq_g520.2.2.2.2.2.2.2.2.1
theorem dL_law_211 : decode cL_law 211 = .ok (.aload_n 1, 1) := dq_g520.2.2.2.2.2.2.2.2.2.1
theorem dL_law_212 : decode cL_law 212 = .ok (.aload_n 0, 1) := dq_g520.2.2.2.2.2.2.2.2.2.2.1
theorem dL_law_213 : decode cL_law 213 = .ok (.iload_n 3, 1) := dq_g520.2.2.2.2.2.2.2.2.2.2.2.1
theorem dL_law_214 : decode cL_law 214 = .ok (.iconst 1, 1) := dq_g520.2.2.2.2.2.2.2.2.2.2.2.2.1
theorem dL_law_215 : decode cL_law 215 = .ok (.iadd, 1) := dq_g520.2.2.2.2.2.2.2.2.2.2.2.2.2.1
theorem dL_law_216 : decode cL_law 216 = .ok (.iaload, 1) := dq_g520.2.2.2.2.2.2.2.2.2.2.2.2.2.2.1
theorem dL_law_217 : decode cL_law 217 = .ok (.aload_n 0, 1) := dq_g520.2.2.2.2.2.2.2.2.2.2.2.2.2.2.2.1
theorem dL_law_218 : decode cL_law 218 = .ok (.iload_n 3, 1) := dq_g520.2.2.2.2.2.2.2.2.2.2.2.2.2.2.2.2.1
theorem dL_law_219 : decode cL_law 219 = .ok (.iconst 2, 1) := dq_g520.2.2.2.2.2.2.2.2.2.2.2.2.2.2.2.2.2.1
theorem dL_law_220 : decode cL_law 220 = .ok (.iadd, 1) := dq_g520.2.2.2.2.2.2.2.2.2.2.2.2.2.2.2.2.2.2.1
theorem dL_law_221 : decode cL_law 221 = .ok (.iaload, 1) := dq_g520.2.2.2.2.2.2.2.2.2.2.2.2.2.2.2.2.2.2.2.1
theorem dL_law_222 : decode cL_law 222 = .ok (.aload_n 0, 1) := dq_g520.2.2.2.2.2.2.2.2.2.2.2.2.2.2.2.2.2.2.2.2.1
theorem dL_law_223 : decode cL_law 223 = .ok (.iload_n 3, 1) := dq_g520.2.2.2.2.2.2.2.2.2.2.2.2.2.2.2.2.2.2.2.2.2.1
theorem dL_law_224 : decode cL_law 224 = .ok (.iconst 3, 1) := dq_g520.2.2.2.2.2.2.2.2.2.2.2.2.2.2.2.2.2.2.2.2.2.2.1
theorem dL_law_225 : decode cL_law 225 = .ok (.iadd, 1) := dq_g520.2.2.2.2.2.2.2.2.2.2.2.2.2.2.2.2.2.2.2.2.2.2.2.1
theorem dL_law_226 : decode cL_law 226 = .ok (.iaload, 1) := dq_g520.2.2.2.2.2.2.2.2.2.2.2.2.2.2.2.2.2.2.2.2.2.2.2.2.1
theorem dL_law_227 : decode cL_law 227 = .ok (.aload_n 0, 1) := dq_g520.2.2.2.2.2.2.2.2.2.2.2.2.2.2.2.2.2.2.2.2.2.2.2.2.2.1
theorem dL_law_228 : decode cL_law 228 = .ok (.iload_n 3, 1) := dq_g520.2.2.2.2.2.2.2.2.2.2.2.2.2.2.2.2.2.2.2.2.2.2.2.2.2.2.1
theorem dL_law_229 : decode cL_law 229 = .ok (.iconst 4, 1) := dq_g520.2.2.2.2.2.2.2.2.2.2.2.2.2.2.2.2.2.2.2.2.2.2.2.2.2.2.2.1
theorem dL_law_230 : decode cL_law 230 = .ok (.iadd, 1) := dq_g520.2.2.2.2.2.2.2.2.2.2.2.2.2.2.2.2.2.2.2.2.2.2.2.2.2.2.2.2.1
theorem dL_law_231 : decode cL_law 231 = .ok (.iaload, 1) := dq_g520.2.2.2.2.2.2.2.2.2.2.2.2.2.2.2.2.2.2.2.2.2.2.2.2.2.2.2.2.2.1
theorem dq_g521 : decode cL_law 232 = .ok (.aload_n 0, 1) ∧ decode cL_law 233 = .ok (.iload_n 3, 1) ∧ decode cL_law 234 = .ok (.iconst 5, 1) ∧ decode cL_law 235 = .ok (.iadd, 1) ∧ decode cL_law 236 = .ok (.iaload, 1) ∧ decode cL_law 237 = .ok (.invokevirtual 18, 3) ∧ decode cL_law 240 = .ok (.pop, 1) ∧ decode cL_law 241 = .ok (.aload_n 2, 1) ∧ decode cL_law 242 = .ok (.aload_n 0, 1) ∧ decode cL_law 243 = .ok (.iload_n 3, 1) ∧ decode cL_law 244 = .ok (.iconst 1, 1) ∧ decode cL_law 245 = .ok (.iadd, 1) ∧ decode cL_law 246 = .ok (.iaload, 1) ∧ decode cL_law 247 = .ok (.aload_n 0, 1) ∧ decode cL_law 248 = .ok (.iload_n 3, 1) ∧ decode cL_law 249 = .ok (.iconst 2, 1) ∧ decode cL_law 250 = .ok (.iadd, 1) ∧ decode cL_law 251 = .ok (.iaload, 1) ∧ decode cL_law 252 = .ok (.aload_n 0, 1) ∧ decode cL_law 253 = .ok (.iload_n 3, 1) ∧ decode cL_law 254 = .ok (.iconst 3, 1) ∧ decode cL_law 255 = .ok (.iadd, 1) ∧ decode cL_law 256 = .ok (.iaload, 1) ∧ decode cL_law 257 = .ok (.aload_n 0, 1) ∧ decode cL_law 258 = .ok (.iload_n 3, 1) ∧ decode cL_law 259 = .ok (.iconst 4, 1) ∧ decode cL_law 260 = .ok (.iadd, 1) ∧ decode cL_law 261 = .ok (.iaload, 1) ∧ decode cL_law 262 = .ok (.aload_n 0, 1) ∧ decode cL_law 263 = .ok (.iload_n 3, 1) ∧ True := dqC_ok (c := cL_law) [(232, 1, some (.aload_n 0)), (233, 1, some (.iload_n 3)), (234, 1, some (.iconst 5)), (235, 1, some (.iadd)), (236, 1, some (.iaload)), (237, 3, some (.invokevirtual 18)), (240, 1, some (.pop)), (241, 1, some (.aload_n 2)), (242, 1, some (.aload_n 0)), (243, 1, some (.iload_n 3)), (244, 1, some (.iconst 1)), (245, 1, some (.iadd)), (246, 1, some (.iaload)), (247, 1, some (.aload_n 0)), (248, 1, some (.iload_n 3)), (249, 1, some (.iconst 2)), (250, 1, some (.iadd)), (251, 1, some (.iaload)), (252, 1, some (.aload_n 0)), (253, 1, some (.iload_n 3)), (254, 1, some (.iconst 3)), (255, 1, some (.iadd)), (256, 1, some (.iaload)), (257, 1, some (.aload_n 0)), (258, 1, some (.iload_n 3)), (259, 1, some (.iconst 4)), (260, 1, some (.iadd)), (261, 1, some (.iaload)), (262, 1, some (.aload_n 0)), (263, 1, some (.iload_n 3))] _ 232 rfl (by decide +kernel)
theorem dL_law_232 : decode cL_law 232 = .ok (.aload_n 0, 1) := dq_g521.1
theorem dL_law_233 : decode cL_law 233 = .ok (.iload_n 3, 1) := dq_g521.2.1
theorem dL_law_234 : decode cL_law 234 = .ok (.iconst 5, 1) := dq_g521.2.2.1
theorem dL_law_235 : decode cL_law 235 = .ok (.iadd, 1) := dq_g521.2.2.2.1
theorem dL_law_236 : decode cL_law 236 = .ok (.iaload, 1) := dq_g521.2.2.2.2.1
theorem dL_law_237 : decode cL_law 237 = .ok (.invokevirtual 18, 3) := dq_g521.2.2.2.2.2.1
theorem dL_law_240 : decode cL_law 240 = .ok (.pop, 1) := dq_g521.2.2.2.2.2.2.1
theorem dL_law_241 : decode cL_law 241 = .ok (.aload_n 2, 1) := dq_g521.2.2.2.2.2.2.2.1
theorem dL_law_242 : decode cL_law 242 = .ok (.aload_n 0, 1) := dq_g521.2.2.2.2.2.2.2.2.1
theorem dL_law_243 : decode cL_law 243 = .ok (.iload_n 3, 1) := dq_g521.2.2.2.2.2.2.2.2.2.1
theorem dL_law_244 : decode cL_law 244 = .ok (.iconst 1, 1) := dq_g521.2.2.2.2.2.2.2.2.2.2.1
theorem dL_law_245 : decode cL_law 245 = .ok (.iadd, 1) := dq_g521.2.2.2.2.2.2.2.2.2.2.2.1
theorem dL_law_246 : decode cL_law 246 = .ok (.iaload, 1) := dq_g521.2.2.2.2.2.2.2.2.2.2.2.2.1
theorem dL_law_247 : decode cL_law 247 = .ok (.aload_n 0, 1) := dq_g521.2.2.2.2.2.2.2.2.2.2.2.2.2.1
theorem dL_law_248 : decode cL_law 248 = .ok (.iload_n 3, 1) := dq_g521.2.2.2.2.2.2.2.2.2.2.2.2.2.2.1
theorem dL_law_249 : decode cL_law 249 = .ok (.iconst 2, 1) := dq_g521.2.2.2.2.2.2.2.2.2.2.2.2.2.2.2.1
theorem dL_law_250 : decode cL_law 250 = .ok (.iadd, 1) := dq_g521.2.2.2.2.2.2.2.2.2.2.2.2.2.2.2.2.1
theorem dL_law_251 : decode cL_law 251 = .ok (.iaload, 1) := dq_g521.2.2.2.2.2.2.2.2.2.2.2.2.2.2.2.2.2.1
theorem dL_law_252 : decode cL_law 252 = .ok (.aload_n 0, 1) := dq_g521.2.2.2.2.2.2.2.2.2.2.2.2.2.2.2.2.2.2.1
theorem dL_law_253 : decode cL_law 253 = .ok (.iload_n 3, 1) := dq_g521.2.2.2.2.2.2.2.2.2.2.2.2.2.2.2.2.2.2.2.1
theorem dL_law_254 : decode cL_law 254 = .ok (.iconst 3, 1) := dq_g521.2.2.2.2.2.2.2.2.2.2.2.2.2.2.2.2.2.2.2.2.1
theorem dL_law_255 : decode cL_law 255 = .ok (.iadd, 1) := dq_g521.2.2.2.2.2.2.2.2.2.2.2.2.2.2.2.2.2.2.2.2.2.1
theorem dL_law_256 : decode cL_law 256 = .ok (.iaload, 1) := dq_g521.2.2.2.2.2.2.2.2.2.2.2.2.2.2.2.2.2.2.2.2.2.2.1
theorem dL_law_257 : decode cL_law 257 = .ok (.aload_n 0, 1) := dq_g521.2.2.2.2.2.2.2.2.2.2.2.2.2.2.2.2.2.2.2.2.2.2.2.1
theorem dL_law_258 : decode cL_law 258 = .ok (.iload_n 3, 1) := dq_g521.2.2.2.2.2.2.2.2.2.2.2.2.2.2.2.2.2.2.2.2.2.2.2.2.1
theorem dL_law_259 : decode cL_law 259 = .ok (.iconst 4, 1) := dq_g521.2.2.2.2.2.2.2.2.2.2.2.2.2.2.2.2.2.2.2.2.2.2.2.2.2.1
theorem dL_law_260 : decode cL_law 260 = .ok (.iadd, 1) := dq_g521.2.2.2.2.2.2.2.2.2.2.2.2.2.2.2.2.2.2.2.2.2.2.2.2.2.2.1
theorem dL_law_261 : decode cL_law 261 = .ok (.iaload, 1) := dq_g521.2.2.2.2.2.2.2.2.2.2.2.2.2.2.2.2.2.2.2.2.2.2.2.2.2.2.2.1
theorem dL_law_262 : decode cL_law 262 = .ok (.aload_n 0, 1) := dq_g521.2.2.2.2.2.2.2.2.2.2.2.2.2.2.2.2.2.2.2.2.2.2.2.2.2.2.2.2.1
theorem dL_law_263 : decode cL_law 263 = .ok (.iload_n 3, 1) := dq_g521.2.2.2.2.2.2.2.2.2.2.2.2.2.2.2.2.2.2.2.2.2.2.2.2.2.2.2.2.2.1
theorem dq_g522 : decode cL_law 264 = .ok (.iconst 5, 1) ∧ decode cL_law 265 = .ok (.iadd, 1) ∧ decode cL_law 266 = .ok (.iaload, 1) ∧ decode cL_law 267 = .ok (.invokevirtual 22, 3) ∧ decode cL_law 270 = .ok (.pop, 1) ∧ decode cL_law 271 = .ok (.goto 1238, 3) ∧ decode cL_law 274 = .ok (.aload_n 1, 1) ∧ decode cL_law 275 = .ok (.aload_n 0, 1) ∧ decode cL_law 276 = .ok (.iload_n 3, 1) ∧ decode cL_law 277 = .ok (.iconst 1, 1) ∧ decode cL_law 278 = .ok (.iadd, 1) ∧ decode cL_law 279 = .ok (.iaload, 1) ∧ decode cL_law 280 = .ok (.aload_n 0, 1) ∧ decode cL_law 281 = .ok (.iload_n 3, 1) ∧ decode cL_law 282 = .ok (.iconst 2, 1) ∧ decode cL_law 283 = .ok (.iadd, 1) ∧ decode cL_law 284 = .ok (.iaload, 1) ∧ decode cL_law 285 = .ok (.aload_n 0, 1) ∧ decode cL_law 286 = .ok (.iload_n 3, 1) ∧ decode cL_law 287 = .ok (.iconst 3, 1) ∧ decode cL_law 288 = .ok (.iadd, 1) ∧ decode cL_law 289 = .ok (.iaload, 1) ∧ decode cL_law 290 = .ok (.invokevirtual 23, 3) ∧ decode cL_law 293 = .ok (.pop, 1) ∧ decode cL_law 294 = .ok (.aload_n 2, 1) ∧ decode cL_law 295 = .ok (.aload_n 0, 1) ∧ decode cL_law 296 = .ok (.iload_n 3, 1) ∧ decode cL_law 297 = .ok (.iconst 1, 1) ∧ decode cL_law 298 = .ok (.iadd, 1) ∧ decode cL_law 299 = .ok (.iaload, 1) ∧ True := dqC_ok (c := cL_law) [(264, 1, some (.iconst 5)), (265, 1, some (.iadd)), (266, 1, some (.iaload)), (267, 3, some (.invokevirtual 22)), (270, 1, some (.pop)), (271, 3, some (.goto 1238)), (274, 1, some (.aload_n 1)), (275, 1, some (.aload_n 0)), (276, 1, some (.iload_n 3)), (277, 1, some (.iconst 1)), (278, 1, some (.iadd)), (279, 1, some (.iaload)), (280, 1, some (.aload_n 0)), (281, 1, some (.iload_n 3)), (282, 1, some (.iconst 2)), (283, 1, some (.iadd)), (284, 1, some (.iaload)), (285, 1, some (.aload_n 0)), (286, 1, some (.iload_n 3)), (287, 1, some (.iconst 3)), (288, 1, some (.iadd)), (289, 1, some (.iaload)), (290, 3, some (.invokevirtual 23)), (293, 1, some (.pop)), (294, 1, some (.aload_n 2)), (295, 1, some (.aload_n 0)), (296, 1, some (.iload_n 3)), (297, 1, some (.iconst 1)), (298, 1, some (.iadd)), (299, 1, some (.iaload))] _ 264 rfl (by decide +kernel)
theorem dL_law_264 : decode cL_law 264 = .ok (.iconst 5, 1) := dq_g522.1
theorem dL_law_265 : decode cL_law 265 = .ok (.iadd, 1) := dq_g522.2.1
theorem dL_law_266 : decode cL_law 266 = .ok (.iaload, 1) := dq_g522.2.2.1
theorem dL_law_267 : decode cL_law 267 = .ok (.invokevirtual 22, 3) := dq_g522.2.2.2.1
theorem dL_law_270 : decode cL_law 270 = .ok (.pop, 1) := dq_g522.2.2.2.2.1
theorem dL_law_271 : decode cL_law 271 = .ok (.goto 1238, 3) := dq_g522.2.2.2.2.2.1
theorem dL_law_274 : decode cL_law 274 = .ok (.aload_n 1, 1) := dq_g522.2.2.2.2.2.2.1
theorem dL_law_275 : decode cL_law 275 = .ok (.aload_n 0, 1) := dq_g522.2.2.2.2.2.2.2.1
theorem dL_law_276 : decode cL_law 276 = .ok (.iload_n 3, 1) := dq_g522.2.2.2.2.2.2.2.2.1
theorem dL_law_277 : decode cL_law 277 = .ok (.iconst 1, 1) := dq_g522.2.2.2.2.2.2.2.2.2.1
theorem dL_law_278 : decode cL_law 278 = .ok (.iadd, 1) := dq_g522.2.2.2.2.2.2.2.2.2.2.1
theorem dL_law_279 : decode cL_law 279 = .ok (.iaload, 1) := dq_g522.2.2.2.2.2.2.2.2.2.2.2.1
theorem dL_law_280 : decode cL_law 280 = .ok (.aload_n 0, 1) := dq_g522.2.2.2.2.2.2.2.2.2.2.2.2.1
theorem dL_law_281 : decode cL_law 281 = .ok (.iload_n 3, 1) := dq_g522.2.2.2.2.2.2.2.2.2.2.2.2.2.1
theorem dL_law_282 : decode cL_law 282 = .ok (.iconst 2, 1) := dq_g522.2.2.2.2.2.2.2.2.2.2.2.2.2.2.1
theorem dL_law_283 : decode cL_law 283 = .ok (.iadd, 1) := dq_g522.2.2.2.2.2.2.2.2.2.2.2.2.2.2.2.1
theorem dL_law_284 : decode cL_law 284 = .ok (.iaload, 1) := dq_g522.2.2.2.2.2.2.2.2.2.2.2.2.2.2.2.2.1
theorem dL_law_285 : decode cL_law 285 = .ok (.aload_n 0, 1) := dq_g522.2.2.2.2.2.2.2.2.2.2.2.2.2.2.2.2.2.1
theorem dL_law_286 : decode cL_law 286 = .ok (.iload_n 3, 1) := dq_g522.2.2.2.2.2.2.2.2.2.2.2.2.2.2.2.2.2.2.1
theorem dL_law_287 : decode cL_law 287 = .ok (.iconst 3, 1) := dq_g522.2.2.2.2.2.2.2.2.2.2.2.2.2.2.2.2.2.2.2.1
theorem dL_law_288 : decode cL_law 288 = .ok (.iadd, 1) := dq_g522.2.2.2.2.2.2.2.2.2.2.2.2.2.2.2.2.2.2.2.2.1
theorem dL_law_289 : decode cL_law 289 = .ok (.iaload, 1) := dq_g522.2.2.2.2.2.2.2.2.2.2.2.2.2.2.2.2.2.2.2.2.2.1
theorem dL_law_290 : decode cL_law 290 = .ok (.invokevirtual 23, 3) := dq_g522.2.2.2.2.2.2.2.2.2.2.2.2.2.2.2.2.2.2.2.2.2.2.1
theorem dL_law_293 : decode cL_law 293 = .ok (.pop, 1) := dq_g522.2.2.2.2.2.2.2.2.2.2.2.2.2.2.2.2.2.2.2.2.2.2.2.1
theorem dL_law_294 : decode cL_law 294 = .ok (.aload_n 2, 1) := dq_g522.2.2.2.2.2.2.2.2.2.2.2.2.2.2.2.2.2.2.2.2.2.2.2.2.1
theorem dL_law_295 : decode cL_law 295 = .ok (.aload_n 0, 1) := dq_g522.2.2.2.2.2.2.2.2.2.2.2.2.2.2.2.2.2.2.2.2.2.2.2.2.2.1
theorem dL_law_296 : decode cL_law 296 = .ok (.iload_n 3, 1) := dq_g522.2.2.2.2.2.2.2.2.2.2.2.2.2.2.2.2.2.2.2.2.2.2.2.2.2.2.1
theorem dL_law_297 : decode cL_law 297 = .ok (.iconst 1, 1) := dq_g522.2.2.2.2.2.2.2.2.2.2.2.2.2.2.2.2.2.2.2.2.2.2.2.2.2.2.2.1
theorem dL_law_298 : decode cL_law 298 = .ok (.iadd, 1) := dq_g522.2.2.2.2.2.2.2.2.2.2.2.2.2.2.2.2.2.2.2.2.2.2.2.2.2.2.2.2.1
theorem dL_law_299 : decode cL_law 299 = .ok (.iaload, 1) := dq_g522.2.2.2.2.2.2.2.2.2.2.2.2.2.2.2.2.2.2.2.2.2.2.2.2.2.2.2.2.2.1
theorem dq_g523 : decode cL_law 300 = .ok (.aload_n 0, 1) ∧ decode cL_law 301 = .ok (.iload_n 3, 1) ∧ decode cL_law 302 = .ok (.iconst 2, 1) ∧ decode cL_law 303 = .ok (.iadd, 1) ∧ decode cL_law 304 = .ok (.iaload, 1) ∧ decode cL_law 305 = .ok (.aload_n 0, 1) ∧ decode cL_law 306 = .ok (.iload_n 3, 1) ∧ decode cL_law 307 = .ok (.iconst 3, 1) ∧ decode cL_law 308 = .ok (.iadd, 1) ∧ decode cL_law 309 = .ok (.iaload, 1) ∧ decode cL_law 310 = .ok (.invokevirtual 27, 3) ∧ decode cL_law 313 = .ok (.pop, 1) ∧ decode cL_law 314 = .ok (.goto 1195, 3) ∧ decode cL_law 317 = .ok (.aload_n 1, 1) ∧ decode cL_law 318 = .ok (.aload_n 0, 1) ∧ decode cL_law 319 = .ok (.iload_n 3, 1) ∧ decode cL_law 320 = .ok (.iconst 1, 1) ∧ decode cL_law 321 = .ok (.iadd, 1) ∧ decode cL_law 322 = .ok (.iaload, 1) ∧ decode cL_law 323 = .ok (.aload_n 0, 1) ∧ decode cL_law 324 = .ok (.iload_n 3, 1) ∧ decode cL_law 325 = .ok (.iconst 2, 1) ∧ decode cL_law 326 = .ok (.iadd, 1) ∧ decode cL_law 327 = .ok (.iaload, 1) ∧ decode cL_law 328 = .ok (.aload_n 0, 1) ∧ decode cL_law 329 = .ok (.iload_n 3, 1) ∧ decode cL_law 330 = .ok (.iconst 3, 1) ∧ decode cL_law 331 = .ok (.iadd, 1) ∧ decode cL_law 332 = .ok (.iaload, 1) ∧ decode cL_law 333 = .ok (.invokevirtual 28, 3) ∧ True := dqC_ok (c := cL_law) [(300, 1, some (.aload_n 0)), (301, 1, some (.iload_n 3)), (302, 1, some (.iconst 2)), (303, 1, some (.iadd)), (304, 1, some (.iaload)), (305, 1, some (.aload_n 0)), (306, 1, some (.iload_n 3)), (307, 1, some (.iconst 3)), (308, 1, some (.iadd)), (309, 1, some (.iaload)), (310, 3, some (.invokevirtual 27)), (313, 1, some (.pop)), (314, 3, some (.goto 1195)), (317, 1, some (.aload_n 1)), (318, 1, some (.aload_n 0)), (319, 1, some (.iload_n 3)), (320, 1, some (.iconst 1)), (321, 1, some (.iadd)), (322, 1, some (.iaload)), (323, 1, some (.aload_n 0)), (324, 1, some (.iload_n 3)), (325, 1, some (.iconst 2)), (326, 1, some (.iadd)), (327, 1, some (.iaload)), (328, 1, some (.aload_n 0)), (329, 1, some (.iload_n 3)), (330, 1, some (.iconst 3)), (331, 1, some (.iadd)), (332, 1, some (.iaload)), (333, 3, some (.invokevirtual 28))] _ 300 rfl (by decide +kernel)
theorem dL_law_300 : decode cL_law 300 = .ok (.aload_n 0, 1) := dq_g523.1
theorem dL_law_301 : decode cL_law 301 = .ok (.iload_n 3, 1) := dq_g523.2.1
theorem dL_law_302 : decode cL_law 302 = .ok (.iconst 2, 1) := dq_g523.2.2.1
theorem dL_law_303 : decode cL_law 303 = .ok (.iadd, 1) := dq_g523.2.2.2.1
theorem dL_law_304 : decode cL_law 304 = .ok (.iaload, 1) := dq_g523.2.2.2.2.1
theorem dL_law_305 : decode cL_law 305 = .ok (.aload_n 0, 1) := dq_g523.2.2.2.2.2.1
theorem dL_law_306 : decode cL_law 306 = .ok (.iload_n 3, 1) := dq_g523.2.2.2.2.2.2.1
theorem dL_law_307 : decode cL_law 307 = .ok (.iconst 3, 1) := dq_g523.2.2.2.2.2.2.2.1
theorem dL_law_308 : decode cL_law 308 = .ok (.iadd, 1) := dq_g523.2.2.2.2.2.2.2.2.1
theorem dL_law_309 : decode cL_law 309 = .ok (.iaload, 1) := dq_g523.2.2.2.2.2.2.2.2.2.1
theorem dL_law_310 : decode cL_law 310 = .ok (.invokevirtual 27, 3) := dq_g523.2.2.2.2.2.2.2.2.2.2.1
theorem dL_law_313 : decode cL_law 313 = .ok (.pop, 1) := dq_g523.2.2.2.2.2.2.2.2.2.2.2.1
theorem dL_law_314 : decode cL_law 314 = .ok (.goto 1195, 3) := dq_g523.2.2.2.2.2.2.2.2.2.2.2.2.1
theorem dL_law_317 : decode cL_law 317 = .ok (.aload_n 1, 1) := dq_g523.2.2.2.2.2.2.2.2.2.2.2.2.2.1
theorem dL_law_318 : decode cL_law 318 = .ok (.aload_n 0, 1) := dq_g523.2.2.2.2.2.2.2.2.2.2.2.2.2.2.1
theorem dL_law_319 : decode cL_law 319 = .ok (.iload_n 3, 1) := dq_g523.2.2.2.2.2.2.2.2.2.2.2.2.2.2.2.1
theorem dL_law_320 : decode cL_law 320 = .ok (.iconst 1, 1) := dq_g523.2.2.2.2.2.2.2.2.2.2.2.2.2.2.2.2.1
theorem dL_law_321 : decode cL_law 321 = .ok (.iadd, 1) := dq_g523.2.2.2.2.2.2.2.2.2.2.2.2.2.2.2.2.2.1
theorem dL_law_322 : decode cL_law 322 = .ok (.iaload, 1) := dq_g523.2.2.2.2.2.2.2.2.2.2.2.2.2.2.2.2.2.2.1
theorem dL_law_323 : decode cL_law 323 = .ok (.aload_n 0, 1) := dq_g523.2.2.2.2.2.2.2.2.2.2.2.2.2.2.2.2.2.2.2.1
theorem dL_law_324 : decode cL_law 324 = .ok (.iload_n 3, 1) := dq_g523.2.2.2.2.2.2.2.2.2.2.2.2.2.2.2.2.2.2.2.2.1
theorem dL_law_325 : decode cL_law 325 = .ok (.iconst 2, 1) := dq_g523.2.2.2.2.2.2.2.2.2.2.2.2.2.2.2.2.2.2.2.2.2.1
theorem dL_law_326 : decode cL_law 326 = .ok (.iadd, 1) := dq_g523.2.2.2.2.2.2.2.2.2.2.2.2.2.2.2.2.2.2.2.2.2.2.1
theorem dL_law_327 : decode cL_law 327 = .ok (.iaload, 1) := dq_g523.2.2.2.2.2.2.2.2.2.2.2.2.2.2.2.2.2.2.2.2.2.2.2.1
theorem dL_law_328 : decode cL_law 328 = .ok (.aload_n 0, 1) := dq_g523.2.2.2.2.2.2.2.2.2.2.2.2.2.2.2.2.2.2.2.2.2.2.2.2.1
theorem dL_law_329 : decode cL_law 329 = .ok (.iload_n 3, 1) := dq_g523.2.2.2.2.2.2.2.2.2.2.2.2.2.2.2.2.2.2.2.2.2.2.2.2.2.1
theorem dL_law_330 : decode cL_law 330 = .ok (.iconst 3, 1) := dq_g523.2.2.2.2.2.2.2.2.2.2.2.2.2.2.2.2.2.2.2.2.2.2.2.2.2.2.1
theorem dL_law_331 : decode cL_law 331 = .ok (.iadd, 1) := dq_g523.2.2.2.2.2.2.2.2.2.2.2.2.2.2.2.2.2.2.2.2.2.2.2.2.2.2.2.1
theorem dL_law_332 : decode cL_law 332 = .ok (.iaload, 1) := dq_g523.2.2.2.2.2.2.2.2.2.2.2.2.2.2.2.2.2.2.2.2.2.2.2.2.2.2.2.2.1
theorem dL_law_333 : decode cL_law 333 = .ok (.invokevirtual 28, 3) := dq_g523.2.2.2.2.2.2.2.2.2.2.2.2.2.2.2.2.2.2.2.2.2.2.2.2.2.2.2.2.2.1
theorem dq_g524 : decode cL_law 336 = .ok (.pop, 1) ∧ decode cL_law 337 = .ok (.aload_n 2, 1) ∧ decode cL_law 338 = .ok (.aload_n 0, 1) ∧ decode cL_law 339 = .ok (.iload_n 3, 1) ∧ decode cL_law 340 = .ok (.iconst 1, 1) ∧ decode cL_law 341 = .ok (.iadd, 1) ∧ decode cL_law 342 = .ok (.iaload, 1) ∧ decode cL_law 343 = .ok (.aload_n 0, 1) ∧ decode cL_law 344 = .ok (.iload_n 3, 1) ∧ decode cL_law 345 = .ok (.iconst 2, 1) ∧ decode cL_law 346 = .ok (.iadd, 1) ∧ decode cL_law 347 = .ok (.iaload, 1) ∧ decode cL_law 348 = .ok (.aload_n 0, 1) ∧ decode cL_law 349 = .ok (.iload_n 3, 1) ∧ decode cL_law 350 = .ok (.iconst 3, 1) ∧ decode cL_law 351 = .ok (.iadd, 1) ∧ decode cL_law 352 = .ok (.iaload, 1) ∧ decode cL_law 353 = .ok (.invokevirtual 32, 3) ∧ decode cL_law 356 = .ok (.pop, 1) ∧ decode cL_law 357 = .ok (.goto 1152, 3) ∧ decode cL_law 360 = .ok (.aload_n 1, 1) ∧ decode cL_law 361 = .ok (.aload_n 0, 1) ∧ decode cL_law 362 = .ok (.iload_n 3, 1) ∧ decode cL_law 363 = .ok (.iconst 1, 1) ∧ decode cL_law 364 = .ok (.iadd, 1) ∧ decode cL_law 365 = .ok (.iaload, 1) ∧ decode cL_law 366 = .ok (.aload_n 0, 1) ∧ decode cL_law 367 = .ok (.iload_n 3, 1) ∧ decode cL_law 368 = .ok (.iconst 2, 1) ∧ decode cL_law 369 = .ok (.iadd, 1) ∧ True := dqC_ok (c := cL_law) [(336, 1, some (.pop)), (337, 1, some (.aload_n 2)), (338, 1, some (.aload_n 0)), (339, 1, some (.iload_n 3)), (340, 1, some (.iconst 1)), (341, 1, some (.iadd)), (342, 1, some (.iaload)), (343, 1, some (.aload_n 0)), (344, 1, some (.iload_n 3)), (345, 1, some (.iconst 2)), (346, 1, some (.iadd)), (347, 1, some (.iaload)), (348, 1, some (.aload_n 0)), (349, 1, some (.iload_n 3)), (350, 1, some (.iconst 3)), (351, 1, some (.iadd)), (352, 1, some (.iaload)), (353, 3, some (.invokevirtual 32)), (356, 1, some (.pop)), (357, 3, some (.goto 1152)), (360, 1, some (.aload_n 1)), (361, 1, some (.aload_n 0)), (362, 1, some (.iload_n 3)), (363, 1, some (.iconst 1)), (364, 1, some (.iadd)), (365, 1, some (.iaload)), (366, 1, some (.aload_n 0)), (367, 1, some (.iload_n 3)), (368, 1, some (.iconst 2)), (369, 1, some (.iadd))] _ 336 rfl (by decide +kernel)
theorem dL_law_336 : decode cL_law 336 = .ok (.pop, 1) := dq_g524.1
theorem dL_law_337 : decode cL_law 337 = .ok (.aload_n 2, 1) := dq_g524.2.1
theorem dL_law_338 : decode cL_law 338 = .ok (.aload_n 0, 1) := dq_g524.2.2.1
theorem dL_law_339 : decode cL_law 339 = .ok (.iload_n 3, 1) := dq_g524.2.2.2.1
theorem dL_law_340 : decode cL_law 340 = .ok (.iconst 1, 1) := dq_g524.2.2.2.2.1
theorem dL_law_341 : decode cL_law 341 = .ok (.iadd, 1) := dq_g524.2.2.2.2.2.1
theorem dL_law_342 : decode cL_law 342 = .ok (.iaload, 1) := dq_g524.2.2.2.2.2.2.1
theorem dL_law_343 : decode cL_law 343 = .ok (.aload_n 0, 1) := dq_g524.2.2.2.2.2.2.2.1
theorem dL_law_344 : decode cL_law 344 = .ok (.iload_n 3, 1) := dq_g524.2.2.2.2.2.2.2.2.1
theorem dL_law_345 : decode cL_law 345 = .ok (.iconst 2, 1) := dq_g524.2.2.2.2.2.2.2.2.2.1
theorem dL_law_346 : decode cL_law 346 = .ok (.iadd, 1) := dq_g524.2.2.2.2.2.2.2.2.2.2.1
theorem dL_law_347 : decode cL_law 347 = .ok (.iaload, 1) := dq_g524.2.2.2.2.2.2.2.2.2.2.2.1
theorem dL_law_348 : decode cL_law 348 = .ok (.aload_n 0, 1) := dq_g524.2.2.2.2.2.2.2.2.2.2.2.2.1
theorem dL_law_349 : decode cL_law 349 = .ok (.iload_n 3, 1) := dq_g524.2.2.2.2.2.2.2.2.2.2.2.2.2.1
theorem dL_law_350 : decode cL_law 350 = .ok (.iconst 3, 1) := dq_g524.2.2.2.2.2.2.2.2.2.2.2.2.2.2.1
theorem dL_law_351 : decode cL_law 351 = .ok (.iadd, 1) := dq_g524.2.2.2.2.2.2.2.2.2.2.2.2.2.2.2.1
theorem dL_law_352 : decode cL_law 352 = .ok (.iaload, 1) := dq_g524.2.2.2.2.2.2.2.2.2.2.2.2.2.2.2.2.1
theorem dL_law_353 : decode cL_law 353 = .ok (.invokevirtual 32, 3) := dq_g524.2.2.2.2.2.2.2.2.2.2.2.2.2.2.2.2.2.1
theorem dL_law_356 : decode cL_law 356 = .ok (.pop, 1) := dq_g524.2.2.2.2.2.2.2.2.2.2.2.2.2.2.2.2.2.2.1
theorem dL_law_357 : decode cL_law 357 = .ok (.goto 1152, 3) := dq_g524.2.2.2.2.2.2.2.2.2.2.2.2.2.2.2.2.2.2.2.1
theorem dL_law_360 : decode cL_law 360 = .ok (.aload_n 1, 1) := dq_g524.2.2.2.2.2.2.2.2.2.2.2.2.2.2.2.2.2.2.2.2.1
theorem dL_law_361 : decode cL_law 361 = .ok (.aload_n 0, 1) := dq_g524.2.2.2.2.2.2.2.2.2.2.2.2.2.2.2.2.2.2.2.2.2.1
theorem dL_law_362 : decode cL_law 362 = .ok (.iload_n 3, 1) := dq_g524.2.2.2.2.2.2.2.2.2.2.2.2.2.2.2.2.2.2.2.2.2.2.1
theorem dL_law_363 : decode cL_law 363 = .ok (.iconst 1, 1) := dq_g524.2.2.2.2.2.2.2.2.2.2.2.2.2.2.2.2.2.2.2.2.2.2.2.1
theorem dL_law_364 : decode cL_law 364 = .ok (.iadd, 1) := dq_g524.2.2.2.2.2.2.2.2.2.2.2.2.2.2.2.2.2.2.2.2.2.2.2.2.1
theorem dL_law_365 : decode cL_law 365 = .ok (.iaload, 1) := dq_g524.2.2.2.2.2.2.2.2.2.2.2.2.2.2.2.2.2.2.2.2.2.2.2.2.2.1
theorem dL_law_366 : decode cL_law 366 = .ok (.aload_n 0, 1) := dq_g524.2.2.2.2.2.2.2.2.2.2.2.2.2.2.2.2.2.2.2.2.2.2.2.2.2.2.1
theorem dL_law_367 : decode cL_law 367 = .ok (.iload_n 3, 1) := dq_g524.2.2.2.2.2.2.2.2.2.2.2.2.2.2.2.2.2.2.2.2.2.2.2.2.2.2.2.1
theorem dL_law_368 : decode cL_law 368 = .ok (.iconst 2, 1) := dq_g524.2.2.2.2.2.2.2.2.2.2.2.2.2.2.2.2.2.2.2.2.2.2.2.2.2.2.2.2.1
theorem dL_law_369 : decode cL_law 369 = .ok (.iadd, 1) := dq_g524.2.2.2.2.2.2.2.2.2.2.2.2.2.2.2.2.2.2.2.2.2.2.2.2.2.2.2.2.2.1
theorem dq_g525 : decode cL_law 370 = .ok (.iaload, 1) ∧ decode cL_law 371 = .ok (.aload_n 0, 1) ∧ decode cL_law 372 = .ok (.iload_n 3, 1) ∧ decode cL_law 373 = .ok (.iconst 3, 1) ∧ decode cL_law 374 = .ok (.iadd, 1) ∧ decode cL_law 375 = .ok (.iaload, 1) ∧ decode cL_law 376 = .ok (.aload_n 0, 1) ∧ decode cL_law 377 = .ok (.iload_n 3, 1) ∧ decode cL_law 378 = .ok (.iconst 4, 1) ∧ decode cL_law 379 = .ok (.iadd, 1) ∧ decode cL_law 380 = .ok (.iaload, 1) ∧ decode cL_law 381 = .ok (.aload_n 0, 1) ∧ decode cL_law 382 = .ok (.iload_n 3, 1) ∧ decode cL_law 383 = .ok (.iconst 5, 1) ∧ decode cL_law 384 = .ok (.iadd, 1) ∧ decode cL_law 385 = .ok (.iaload, 1) ∧ decode cL_law 386 = .ok (.invokevirtual 33, 3) ∧ decode cL_law 389 = .ok (.pop, 1) ∧ decode cL_law 390 = .ok (.aload_n 2, 1) ∧ decode cL_law 391 = .ok (.aload_n 0, 1) ∧ decode cL_law 392 = .ok (.iload_n 3, 1) ∧ decode cL_law 393 = .ok (.iconst 1, 1) ∧ decode cL_law 394 = .ok (.iadd, 1) ∧ decode cL_law 395 = .ok (.iaload, 1) ∧ decode cL_law 396 = .ok (.aload_n 0, 1) ∧ decode cL_law 397 = .ok (.iload_n 3, 1) ∧ decode cL_law 398 = .ok (.iconst 2, 1) ∧ decode cL_law 399 = .ok (.iadd, 1) ∧ decode cL_law 400 = .ok (.iaload, 1) ∧ decode cL_law 401 = .ok (.aload_n 0, 1) ∧ True := dqC_ok (c := cL_law) [(370, 1, some (.iaload)), (371, 1, some (.aload_n 0)), (372, 1, some (.iload_n 3)), (373, 1, some (.iconst 3)), (374, 1, some (.iadd)), (375, 1, some (.iaload)), (376, 1, some (.aload_n 0)), (377, 1, some (.iload_n 3)), (378, 1, some (.iconst 4)), (379, 1, some (.iadd)), (380, 1, some (.iaload)), (381, 1, some (.aload_n 0)), (382, 1, some (.iload_n 3)), (383, 1, some (.iconst 5)), (384, 1, some (.iadd)), (385, 1, some (.iaload)), (386, 3, some (.invokevirtual 33)), (389, 1, some (.pop)), (390, 1, some (.aload_n 2)), (391, 1, some (.aload_n 0)), (392, 1, some (.iload_n 3)), (393, 1, some (.iconst 1)), (394, 1, some (.iadd)), (395, 1, some (.iaload)), (396, 1, some (.aload_n 0)), (397, 1, some (.iload_n 3)), (398, 1, some (.iconst 2)), (399, 1, some (.iadd)), (400, 1, some (.iaload)), (401, 1, some (.aload_n 0))] _ 370 rfl (by decide +kernel)
theorem dL_law_370 : decode cL_law 370 = .ok (.iaload, 1) := dq_g525.1
theorem dL_law_371 : decode cL_law 371 = .ok (.aload_n 0, 1) := dq_g525.2.1
theorem dL_law_372 : decode cL_law 372 = .ok (.iload_n 3, 1) := dq_g525.2.2.1
theorem dL_law_373 : decode cL_law 373 = .ok (.iconst 3, 1) := dq_g525.2.2.2.1
theorem dL_law_374 : decode cL_law 374 = .ok (.iadd, 1) := dq_g525.2.2.2.2.1
theorem dL_law_375 : decode cL_law 375 = .ok (.iaload, 1) := dq_g525.2.2.2.2.2.1
theorem dL_law_376 : decode cL_law 376 = .ok (.aload_n 0, 1) := dq_g525.2.2.2.2.2.2.1
theorem dL_law_377 : decode cL_law 377 = .ok (.iload_n 3, 1) := dq_g525.2.2.2.2.2.2.2.1
theorem dL_law_378 : decode cL_law 378 = .ok (.iconst 4, 1) := dq_g525.2.2.2.2.2.2.2.2.1
theorem dL_law_379 : decode cL_law 379 = .ok (.iadd, 1) := dq_g525.2.2.2.2.2.2.2.2.2.1
theorem dL_law_380 : decode cL_law 380 = .ok (.iaload, 1) := dq_g525.2.2.2.2.2.2.2.2.2.2.1
theorem dL_law_381 : decode cL_law 381 = .ok (.aload_n 0, 1) := dq_g525.2.2.2.2.2.2.2.2.2.2.2.1
theorem dL_law_382 : decode cL_law 382 = .ok (.iload_n 3, 1) := dq_g525.2.2.2.2.2.2.2.2.2.2.2.2.1
theorem dL_law_383 : decode cL_law 383 = .ok (.iconst 5, 1) := dq_g525.2.2.2.2.2.2.2.2.2.2.2.2.2.1
theorem dL_law_384 : decode cL_law 384 = .ok (.iadd, 1) := dq_g525.2.2.2.2.2.2.2.2.2.2.2.2.2.2.1
theorem dL_law_385 : decode cL_law 385 = .ok (.iaload, 1) := dq_g525.2.2.2.2.2.2.2.2.2.2.2.2.2.2.2.1
theorem dL_law_386 : decode cL_law 386 = .ok (.invokevirtual 33, 3) := dq_g525.2.2.2.2.2.2.2.2.2.2.2.2.2.2.2.2.1
theorem dL_law_389 : decode cL_law 389 = .ok (.pop, 1) := dq_g525.2.2.2.2.2.2.2.2.2.2.2.2.2.2.2.2.2.1
theorem dL_law_390 : decode cL_law 390 = .ok (.aload_n 2, 1) := dq_g525.2.2.2.2.2.2.2.2.2.2.2.2.2.2.2.2.2.2.1
theorem dL_law_391 : decode cL_law 391 = .ok (.aload_n 0, 1) := dq_g525.2.2.2.2.2.2.2.2.2.2.2.2.2.2.2.2.2.2.2.1
theorem dL_law_392 : decode cL_law 392 = .ok (.iload_n 3, 1) := dq_g525.2.2.2.2.2.2.2.2.2.2.2.2.2.2.2.2.2.2.2.2.1
theorem dL_law_393 : decode cL_law 393 = .ok (.iconst 1, 1) := dq_g525.2.2.2.2.2.2.2.2.2.2.2.2.2.2.2.2.2.2.2.2.2.1
theorem dL_law_394 : decode cL_law 394 = .ok (.iadd, 1) := dq_g525.2.2.2.2.2.2.2.2.2.2.2.2.2.2.2.2.2.2.2.2.2.2.1
theorem dL_law_395 : decode cL_law 395 = .ok (.iaload, 1) := dq_g525.2.2.2.2.2.2.2.2.2.2.2.2.2.2.2.2.2.2.2.2.2.2.2.1
theorem dL_law_396 : decode cL_law 396 = .ok (.aload_n 0, 1) := dq_g525.2.2.2.2.2.2.2.2.2.2.2.2.2.2.2.2.2.2.2.2.2.2.2.2.1
theorem dL_law_397 : decode cL_law 397 = .ok (.iload_n 3, 1) := dq_g525.2.2.2.2.2.2.2.2.2.2.2.2.2.2.2.2.2.2.2.2.2.2.2.2.2.1
theorem dL_law_398 : decode cL_law 398 = .ok (.iconst 2, 1) := dq_g525.2.2.2.2.2.2.2.2.2.2.2.2.2.2.2.2.2.2.2.2.2.2.2.2.2.2.1
theorem dL_law_399 : decode cL_law 399 = .ok (.iadd, 1) := dq_g525.2.2.2.2.2.2.2.2.2.2.2.2.2.2.2.2.2.2.2.2.2.2.2.2.2.2.2.1
theorem dL_law_400 : decode cL_law 400 = .ok (.iaload, 1) := dq_g525.2.2.2.2.2.2.2.2.2.2.2.2.2.2.2.2.2.2.2.2.2.2.2.2.2.2.2.2.1
theorem dL_law_401 : decode cL_law 401 = .ok (.aload_n 0, 1) := dq_g525.2.2.2.2.2.2.2.2.2.2.2.2.2.2.2.2.2.2.2.2.2.2.2.2.2.2.2.2.2.1
theorem dq_g526 : decode cL_law 402 = .ok (.iload_n 3, 1) ∧ decode cL_law 403 = .ok (.iconst 3, 1) ∧ decode cL_law 404 = .ok (.iadd, 1) ∧ decode cL_law 405 = .ok (.iaload, 1) ∧ decode cL_law 406 = .ok (.aload_n 0, 1) ∧ decode cL_law 407 = .ok (.iload_n 3, 1) ∧ decode cL_law 408 = .ok (.iconst 4, 1) ∧ decode cL_law 409 = .ok (.iadd, 1) ∧ decode cL_law 410 = .ok (.iaload, 1) ∧ decode cL_law 411 = .ok (.aload_n 0, 1) ∧ decode cL_law 412 = .ok (.iload_n 3, 1) ∧ decode cL_law 413 = .ok (.iconst 5, 1) ∧ decode cL_law 414 = .ok (.iadd, 1) ∧ decode cL_law 415 = .ok (.iaload, 1) ∧ decode cL_law 416 = .ok (.invokevirtual 37, 3) ∧ decode cL_law 419 = .ok (.pop, 1) ∧ decode cL_law 420 = .ok (.goto 1089, 3) ∧ decode cL_law 423 = .ok (.aload_n 1, 1) ∧ decode cL_law 424 = .ok (.aload_n 0, 1) ∧ decode cL_law 425 = .ok (.iload_n 3, 1) ∧ decode cL_law 426 = .ok (.iconst 1, 1) ∧ decode cL_law 427 = .ok (.iadd, 1) ∧ decode cL_law 428 = .ok (.iaload, 1) ∧ decode cL_law 429 = .ok (.invokevirtual 38, 3) ∧ decode cL_law 432 = .ok (.pop, 1) ∧ decode cL_law 433 = .ok (.aload_n 2, 1) ∧ decode cL_law 434 = .ok (.aload_n 0, 1) ∧ decode cL_law 435 = .ok (.iload_n 3, 1) ∧ decode cL_law 436 = .ok (.iconst 1, 1) ∧ decode cL_law 437 = .ok (.iadd, 1) ∧ True := dqC_ok (c := cL_law) [(402, 1, some (.iload_n 3)), (403, 1, some (.iconst 3)), (404, 1, some (.iadd)), (405, 1, some (.iaload)), (406, 1, some (.aload_n 0)), (407, 1, some (.iload_n 3)), (408, 1, some (.iconst 4)), (409, 1, some (.iadd)), (410, 1, some (.iaload)), (411, 1, some (.aload_n 0)), (412, 1, some (.iload_n 3)), (413, 1, some (.iconst 5)), (414, 1, some (.iadd)), (415, 1, some (.iaload)), (416, 3, some (.invokevirtual 37)), (419, 1, some (.pop)), (420, 3, some (.goto 1089)), (423, 1, some (.aload_n 1)), (424, 1, some (.aload_n 0)), (425, 1, some (.iload_n 3)), (426, 1, some (.iconst 1)), (427, 1, some (.iadd)), (428, 1, some (.iaload)), (429, 3, some (.invokevirtual 38)), (432, 1, some (.pop)), (433, 1, some (.aload_n 2)), (434, 1, some (.aload_n 0)), (435, 1, some (.iload_n 3)), (436, 1, some (.iconst 1)), (437, 1, some (.iadd))] _ 402 rfl (by decide +kernel)
theorem dL_law_402 : decode cL_law 402 = .ok (.iload_n 3, 1) := dq_g526.1
theorem dL_law_403 : decode cL_law 403 = .ok (.iconst 3, 1) := dq_g526.2.1
theorem dL_law_404 : decode cL_law 404 = .ok (.iadd, 1) := dq_g526.2.2.1
theorem dL_law_405 : decode cL_law 405 = .ok (.iaload, 1) := dq_g526.2.2.2.1
theorem dL_law_406 : decode cL_law 406 = .ok (.aload_n 0, 1) := dq_g526.2.2.2.2.1
theorem dL_law_407 : decode cL_law 407 = .ok (.iload_n 3, 1) := dq_g526.2.2.2.2.2.1
theorem dL_law_408 : decode cL_law 408 = .ok (.iconst 4, 1) := dq_g526.2.2.2.2.2.2.1
theorem dL_law_409 : decode cL_law 409 = .ok (.iadd, 1) := dq_g526.2.2.2.2.2.2.2.1
theorem dL_law_410 : decode cL_law 410 = .ok (.iaload, 1) := dq_g526.2.2.2.2.2.2.2.2.1
theorem dL_law_411 : decode cL_law 411 = .ok (.aload_n 0, 1) := dq_g526.2.2.2.2.2.2.2.2.2.1
theorem dL_law_412 : decode cL_law 412 = .ok (.iload_n 3, 1) := dq_g526.2.2.2.2.2.2.2.2.2.2.1
theorem dL_law_413 : decode cL_law 413 = .ok (.iconst 5, 1) := dq_g526.2.2.2.2.2.2.2.2.2.2.2.1
theorem dL_law_414 : decode cL_law 414 = .ok (.iadd, 1) := dq_g526.2.2.2.2.2.2.2.2.2.2.2.2.1
theorem dL_law_415 : decode cL_law 415 = .ok (.iaload, 1) := dq_g526.2.2.2.2.2.2.2.2.2.2.2.2.2.1
theorem dL_law_416 : decode cL_law 416 = .ok (.invokevirtual 37, 3) := dq_g526.2.2.2.2.2.2.2.2.2.2.2.2.2.2.1
theorem dL_law_419 : decode cL_law 419 = .ok (.pop, 1) := dq_g526.2.2.2.2.2.2.2.2.2.2.2.2.2.2.2.1
theorem dL_law_420 : decode cL_law 420 = .ok (.goto 1089, 3) := dq_g526.2.2.2.2.2.2.2.2.2.2.2.2.2.2.2.2.1
theorem dL_law_423 : decode cL_law 423 = .ok (.aload_n 1, 1) := dq_g526.2.2.2.2.2.2.2.2.2.2.2.2.2.2.2.2.2.1
theorem dL_law_424 : decode cL_law 424 = .ok (.aload_n 0, 1) := dq_g526.2.2.2.2.2.2.2.2.2.2.2.2.2.2.2.2.2.2.1
theorem dL_law_425 : decode cL_law 425 = .ok (.iload_n 3, 1) := dq_g526.2.2.2.2.2.2.2.2.2.2.2.2.2.2.2.2.2.2.2.1
theorem dL_law_426 : decode cL_law 426 = .ok (.iconst 1, 1) := dq_g526.2.2.2.2.2.2.2.2.2.2.2.2.2.2.2.2.2.2.2.2.1
theorem dL_law_427 : decode cL_law 427 = .ok (.iadd, 1) := dq_g526.2.2.2.2.2.2.2.2.2.2.2.2.2.2.2.2.2.2.2.2.2.1
theorem dL_law_428 : decode cL_law 428 = .ok (.iaload, 1) := dq_g526.2.2.2.2.2.2.2.2.2.2.2.2.2.2.2.2.2.2.2.2.2.2.1
theorem dL_law_429 : decode cL_law 429 = .ok (.invokevirtual 38, 3) := dq_g526.2.2.2.2.2.2.2.2.2.2.2.2.2.2.2.2.2.2.2.2.2.2.2.1
theorem dL_law_432 : decode cL_law 432 = .ok (.pop, 1) := dq_g526.2.2.2.2.2.2.2.2.2.2.2.2.2.2.2.2.2.2.2.2.2.2.2.2.1
theorem dL_law_433 : decode cL_law 433 = .ok (.aload_n 2, 1) := dq_g526.2.2.2.2.2.2.2.2.2.2.2.2.2.2.2.2.2.2.2.2.2.2.2.2.2.1
theorem dL_law_434 : decode cL_law 434 = .ok (.aload_n 0, 1) := dq_g526.2.2.2.2.2.2.2.2.2.2.2.2.2.2.2.2.2.2.2.2.2.2.2.2.2.2.1
theorem dL_law_435 : decode cL_law 435 = .ok (.iload_n 3, 1) := dq_g526.2.2.2.2.2.2.2.2.2.2.2.2.2.2.2.2.2.2.2.2.2.2.2.2.2.2.2.1
theorem dL_law_436 : decode cL_law 436 = .ok (.iconst 1, 1) := dq_g526.2.2.2.2.2.2.2.2.2.2.2.2.2.2.2.2.2.2.2.2.2.2.2.2.2.2.2.2.1
theorem dL_law_437 : decode cL_law 437 = .ok (.iadd, 1) := dq_g526.2.2.2.2.2.2.2.2.2.2.2.2.2.2.2.2.2.2.2.2.2.2.2.2.2.2.2.2.2.1
theorem dq_g527 : decode cL_law 438 = .ok (.iaload, 1) ∧ decode cL_law 439 = .ok (.invokevirtual 42, 3) ∧ decode cL_law 442 = .ok (.pop, 1) ∧ decode cL_law 443 = .ok (.goto 1066, 3) ∧ decode cL_law 446 = .ok (.aload_n 1, 1) ∧ decode cL_law 447 = .ok (.aload_n 0, 1) ∧ decode cL_law 448 = .ok (.iload_n 3, 1) ∧ decode cL_law 449 = .ok (.iconst 1, 1) ∧ decode cL_law 450 = .ok (.iadd, 1) ∧ decode cL_law 451 = .ok (.iaload, 1) ∧ decode cL_law 452 = .ok (.aload_n 0, 1) ∧ decode cL_law 453 = .ok (.iload_n 3, 1) ∧ decode cL_law 454 = .ok (.iconst 2, 1) ∧ decode cL_law 455 = .ok (.iadd, 1) ∧ decode cL_law 456 = .ok (.iaload, 1) ∧ decode cL_law 457 = .ok (.invokevirtual 43, 3) ∧ decode cL_law 460 = .ok (.pop, 1) ∧ decode cL_law 461 = .ok (.aload_n 2, 1) ∧ decode cL_law 462 = .ok (.aload_n 0, 1) ∧ decode cL_law 463 = .ok (.iload_n 3, 1) ∧ decode cL_law 464 = .ok (.iconst 1, 1) ∧ decode cL_law 465 = .ok (.iadd, 1) ∧ decode cL_law 466 = .ok (.iaload, 1) ∧ decode cL_law 467 = .ok (.aload_n 0, 1) ∧ decode cL_law 468 = .ok (.iload_n 3, 1) ∧ decode cL_law 469 = .ok (.iconst 2, 1) ∧ decode cL_law 470 = .ok (.iadd, 1) ∧ decode cL_law 471 = .ok (.iaload, 1) ∧ decode cL_law 472 = .ok (.invokevirtual 47, 3) ∧ decode cL_law 475 = .ok (.pop, 1) ∧ True := dqC_ok (c := cL_law) [(438, 1, some (.iaload)), (439, 3, some (.invokevirtual 42)), (442, 1, some (.pop)), (443, 3, some (.goto 1066)), (446, 1, some (.aload_n 1)), (447, 1, some (.aload_n 0)), (448, 1, some (.iload_n 3)), (449, 1, some (.iconst 1)), (450, 1, some (.iadd)), (451, 1, some (.iaload)), (452, 1, some (.aload_n 0)), (453, 1, some (.iload_n 3)), (454, 1, some (.iconst 2)), (455, 1, some (.iadd)), (456, 1, some (.iaload)), (457, 3, some (.invokevirtual 43)), (460, 1, some (.pop)), (461, 1, some (.aload_n 2)), (462, 1, some (.aload_n 0)), (463, 1, some (.iload_n 3)), (464, 1, some (.iconst 1)), (465, 1, some (.iadd)), (466, 1, some (.iaload)), (467, 1, some (.aload_n 0)), (468, 1, some (.iload_n 3)), (469, 1, some (.iconst 2)), (470, 1, some (.iadd)), (471, 1, some (.iaload)), (472, 3, some (.invokevirtual 47)), (475, 1, some (.pop))] _ 438 rfl (by decide +kernel)
theorem dL_law_438 : decode cL_law 438 = .ok (.iaload, 1) := dq_g527.1
theorem dL_law_439 : decode cL_law 439 = .ok (.invokevirtual 42, 3) := dq_g527.2.1
theorem dL_law_442 : decode cL_law 442 = .ok (.pop, 1) := dq_g527.2.2.1
theorem dL_law_443 : decode cL_law 443 = .ok (.goto 1066, 3) := dq_g527.2.2.2.1
theorem dL_law_446 : decode cL_law 446 = .ok (.aload_n 1, 1) := dq_g527.2.2.2.2.1
theorem dL_law_447 : decode cL_law 447 = .ok (.aload_n 0, 1) := dq_g527.2.2.2.2.2.1
theorem dL_law_448 : decode cL_law 448 = .ok (.iload_n 3, 1) := dq_g527.2.2.2.2.2.2.1
theorem dL_law_449 : decode cL_law 449 = .ok (.iconst 1, 1) := dq_g527.2.2.2.2.2.2.2.1
theorem dL_law_450 : decode cL_law 450 = .ok (.iadd, 1) := dq_g527.2.2.2.2.2.2.2.2.1
theorem dL_law_451 : decode cL_law 451 = .ok (.iaload, 1) := dq_g527.2.2.2.2.2.2.2.2.2.1
theorem dL_law_452 : decode cL_law 452 = .ok (.aload_n 0, 1) := dq_g527.2.2.2.2.2.2.2.2.2.2.1
theorem dL_law_453 : decode cL_law 453 = .ok (.iload_n 3, 1) := dq_g527.2.2.2.2.2.2.2.2.2.2.2.1
theorem dL_law_454 : decode cL_law 454 = .ok (.iconst 2, 1) := dq_g527.2.2.2.2.2.2.2.2.2.2.2.2.1
theorem dL_law_455 : decode cL_law 455 = .ok (.iadd, 1) := dq_g527.2.2.2.2.2.2.2.2.2.2.2.2.2.1
theorem dL_law_456 : decode cL_law 456 = .ok (.iaload, 1) := dq_g527.2.2.2.2.2.2.2.2.2.2.2.2.2.2.1
theorem dL_law_457 : decode cL_law 457 = .ok (.invokevirtual 43, 3) := dq_g527.2.2.2.2.2.2.2.2.2.2.2.2.2.2.2.1
theorem dL_law_460 : decode cL_law 460 = .ok (.pop, 1) := dq_g527.2.2.2.2.2.2.2.2.2.2.2.2.2.2.2.2.1
theorem dL_law_461 : decode cL_law 461 = .ok (.aload_n 2, 1) := dq_g527.2.2.2.2.2.2.2.2.2.2.2.2.2.2.2.2.2.1
theorem dL_law_462 : decode cL_law 462 = .ok (.aload_n 0, 1) := dq_g527.2.2.2.2.2.2.2.2.2.2.2.2.2.2.2.2.2.2.1
theorem dL_law_463 : decode cL_law 463 = .ok (.iload_n 3, 1) := dq_g527.2.2.2.2.2.2.2.2.2.2.2.2.2.2.2.2.2.2.2.1
theorem dL_law_464 : decode cL_law 464 = .ok (.iconst 1, 1) := dq_g527.2.2.2.2.2.2.2.2.2.2.2.2.2.2.2.2.2.2.2.2.1
theorem dL_law_465 : decode cL_law 465 = .ok (.iadd, 1) := dq_g527.2.2.2.2.2.2.2.2.2.2.2.2.2.2.2.2.2.2.2.2.2.1
theorem dL_law_466 : decode cL_law 466 = .ok (.iaload, 1) := dq_g527.2.2.2.2.2.2.2.2.2.2.2.2.2.2.2.2.2.2.2.2.2.2.1
theorem dL_law_467 : decode cL_law 467 = .ok (.aload_n 0, 1) := dq_g527.2.2.2.2.2.2.2.2.2.2.2.2.2.2.2.2.2.2.2.2.2.2.2.1
theorem dL_law_468 : decode cL_law 468 = .ok (.iload_n 3, 1) := dq_g527.2.2.2.2.2.2.2.2.2.2.2.2.2.2.2.2.2.2.2.2.2.2.2.2.1
theorem dL_law_469 : decode cL_law 469 = .ok (.iconst 2, 1) := dq_g527.2.2.2.2.2.2.2.2.2.2.2.2.2.2.2.2.2.2.2.2.2.2.2.2.2.1
theorem dL_law_470 : decode cL_law 470 = .ok (.iadd, 1) := dq_g527.2.2.2.2.2.2.2.2.2.2.2.2.2.2.2.2.2.2.2.2.2.2.2.2.2.2.1
theorem dL_law_471 : decode cL_law 471 = .ok (.iaload, 1) := dq_g527.2.2.2.2.2.2.2.2.2.2.2.2.2.2.2.2.2.2.2.2.2.2.2.2.2.2.2.1
theorem dL_law_472 : decode cL_law 472 = .ok (.invokevirtual 47, 3) := dq_g527.2.2.2.2.2.2.2.2.2.2.2.2.2.2.2.2.2.2.2.2.2.2.2.2.2.2.2.2.1
theorem dL_law_475 : decode cL_law 475 = .ok (.pop, 1) := dq_g527.2.2.2.2.2.2.2.2.2.2.2.2.2.2.2.2.2.2.2.2.2.2.2.2.2.2.2.2.2.1
theorem dq_g528 : decode cL_law 476 = .ok (.goto 1033, 3) ∧ decode cL_law 479 = .ok (.aload_n 1, 1) ∧ decode cL_law 480 = .ok (.aload_n 0, 1) ∧ decode cL_law 481 = .ok (.iload_n 3, 1) ∧ decode cL_law 482 = .ok (.iconst 1, 1) ∧ decode cL_law 483 = .ok (.iadd, 1) ∧ decode cL_law 484 = .ok (.iaload, 1) ∧ decode cL_law 485 = .ok (.invokevirtual 48, 3) ∧ decode cL_law 488 = .ok (.pop, 1) ∧ decode cL_law 489 = .ok (.aload_n 2, 1) ∧ decode cL_law 490 = .ok (.aload_n 0, 1) ∧ decode cL_law 491 = .ok (.iload_n 3, 1) ∧ decode cL_law 492 = .ok (.iconst 1, 1) ∧ decode cL_law 493 = .ok (.iadd, 1) ∧ decode cL_law 494 = .ok (.iaload, 1) ∧ decode cL_law 495 = .ok (.invokevirtual 51, 3) ∧ decode cL_law 498 = .ok (.pop, 1) ∧ decode cL_law 499 = .ok (.goto 1010, 3) ∧ decode cL_law 502 = .ok (.aload_n 1, 1) ∧ decode cL_law 503 = .ok (.aload_n 0, 1) ∧ decode cL_law 504 = .ok (.iload_n 3, 1) ∧ decode cL_law 505 = .ok (.iconst 1, 1) ∧ decode cL_law 506 = .ok (.iadd, 1) ∧ decode cL_law 507 = .ok (.iaload, 1) ∧ decode cL_law 508 = .ok (.invokevirtual 52, 3) ∧ decode cL_law 511 = .ok (.pop, 1) ∧ decode cL_law 512 = .ok (.aload_n 2, 1) ∧ decode cL_law 513 = .ok (.aload_n 0, 1) ∧ decode cL_law 514 = .ok (.iload_n 3, 1) ∧ decode cL_law 515 = .ok (.iconst 1, 1) ∧ True := dqC_ok (c := cL_law) [(476, 3, some (.goto 1033)), (479, 1, some (.aload_n 1)), (480, 1, some (.aload_n 0)), (481, 1, some (.iload_n 3)), (482, 1, some (.iconst 1)), (483, 1, some (.iadd)), (484, 1, some (.iaload)), (485, 3, some (.invokevirtual 48)), (488, 1, some (.pop)), (489, 1, some (.aload_n 2)), (490, 1, some (.aload_n 0)), (491, 1, some (.iload_n 3)), (492, 1, some (.iconst 1)), (493, 1, some (.iadd)), (494, 1, some (.iaload)), (495, 3, some (.invokevirtual 51)), (498, 1, some (.pop)), (499, 3, some (.goto 1010)), (502, 1, some (.aload_n 1)), (503, 1, some (.aload_n 0)), (504, 1, some (.iload_n 3)), (505, 1, some (.iconst 1)), (506, 1, some (.iadd)), (507, 1, some (.iaload)), (508, 3, some (.invokevirtual 52)), (511, 1, some (.pop)), (512, 1, some (.aload_n 2)), (513, 1, some (.aload_n 0)), (514, 1, some (.iload_n 3)), (515, 1, some (.iconst 1))] _ 476 rfl (by decide +kernel)
theorem dL_law_476 : decode cL_law 476 = .ok (.goto 1033, 3) := dq_g528.1
theorem dL_law_479 : decode cL_law 479 = .ok (.aload_n 1, 1) := dq_g528.2.1
theorem dL_law_480 : decode cL_law 480 = .ok (.aload_n 0, 1) := dq_g528.2.2.1
theorem dL_law_481 : decode cL_law 481 = .ok (.iload_n 3, 1) := dq_g528.2.2.2.1
theorem dL_law_482 : decode cL_law 482 = .ok (.iconst 1, 1) := dq_g528.2.2.2.2.1
theorem dL_law_483 : decode cL_law 483 = .ok (.iadd, 1) := dq_g528.2.2.2.2.2.1
theorem dL_law_484 : decode cL_law 484 = .ok (.iaload, 1) := dq_g528.2.2.2.2.2.2.1
theorem dL_law_485 : decode cL_law 485 = .ok (.invokevirtual 48, 3) := dq_g528.2.2.2.2.2.2.2.1
theorem dL_law_488 : decode cL_law 488 = .ok (.pop, 1) := dq_g528.2.2.2.2.2.2.2.2.1
theorem dL_law_489 : decode cL_law 489 = .ok (.aload_n 2, 1) := dq_g528.2.2.2.2.2.2.2.2.2.1
theorem dL_law_490 : decode cL_law 490 = .ok (.aload_n 0, 1) := dq_g528.2.2.2.2.2.2.2.2.2.2.1
theorem dL_law_491 : decode cL_law 491 = .ok (.iload_n 3, 1) := dq_g528.2.2.2.2.2.2.2.2.2.2.2.1
theorem dL_law_492 : decode cL_law 492 = .ok (.iconst 1, 1) := dq_g528.2.2.2.2.2.2.2.2.2.2.2.2.1
theorem dL_law_493 : decode cL_law 493 = .ok (.iadd, 1) := dq_g528.2.2.2.2.2.2.2.2.2.2.2.2.2.1
theorem dL_law_494 : decode cL_law 494 = .ok (.iaload, 1) := dq_g528.2.2.2.2.2.2.2.2.2.2.2.2.2.2.1
theorem dL_law_495 : decode cL_law 495 = .ok (.invokevirtual 51, 3) := dq_g528.2.2.2.2.2.2.2.2.2.2.2.2.2.2.2.1
theorem dL_law_498 : decode cL_law 498 = .ok (.pop, 1) := dq_g528.2.2.2.2.2.2.2.2.2.2.2.2.2.2.2.2.1
theorem dL_law_499 : decode cL_law 499 = .ok (.goto 1010, 3) := dq_g528.2.2.2.2.2.2.2.2.2.2.2.2.2.2.2.2.2.1
theorem dL_law_502 : decode cL_law 502 = .ok (.aload_n 1, 1) := dq_g528.2.2.2.2.2.2.2.2.2.2.2.2.2.2.2.2.2.2.1
theorem dL_law_503 : decode cL_law 503 = .ok (.aload_n 0, 1) := dq_g528.2.2.2.2.2.2.2.2.2.2.2.2.2.2.2.2.2.2.2.1
theorem dL_law_504 : decode cL_law 504 = .ok (.iload_n 3, 1) := dq_g528.2.2.2.2.2.2.2.2.2.2.2.2.2.2.2.2.2.2.2.2.1
theorem dL_law_505 : decode cL_law 505 = .ok (.iconst 1, 1) := dq_g528.2.2.2.2.2.2.2.2.2.2.2.2.2.2.2.2.2.2.2.2.2.1
theorem dL_law_506 : decode cL_law 506 = .ok (.iadd, 1) := dq_g528.2.2.2.2.2.2.2.2.2.2.2.2.2.2.2.2.2.2.2.2.2.2.1
theorem dL_law_507 : decode cL_law 507 = .ok (.iaload, 1) := dq_g528.2.2.2.2.2.2.2.2.2.2.2.2.2.2.2.2.2.2.2.2.2.2.2.1
theorem dL_law_508 : decode cL_law 508 = .ok (.invokevirtual 52, 3) := dq_g528.2.2.2.2.2.2.2.2.2.2.2.2.2.2.2.2.2.2.2.2.2.2.2.2.1
theorem dL_law_511 : decode cL_law 511 = .ok (.pop, 1) := dq_g528.2.2.2.2.2.2.2.2.2.2.2.2.2.2.2.2.2.2.2.2.2.2.2.2.2.1
theorem dL_law_512 : decode cL_law 512 = .ok (.aload_n 2, 1) := dq_g528.2.2.2.2.2.2.2.2.2.2.2.2.2.2.2.2.2.2.2.2.2.2.2.2.2.2.1
theorem dL_law_513 : decode cL_law 513 = .ok (.aload_n 0, 1) := dq_g528.2.2.2.2.2.2.2.2.2.2.2.2.2.2.2.2.2.2.2.2.2.2.2.2.2.2.2.1
theorem dL_law_514 : decode cL_law 514 = .ok (.iload_n 3, 1) := dq_g528.2.2.2.2.2.2.2.2.2.2.2.2.2.2.2.2.2.2.2.2.2.2.2.2.2.2.2.2.1
theorem dL_law_515 : decode cL_law 515 = .ok (.iconst 1, 1) := dq_g528.2.2.2.2.2.2.2.2.2.2.2.2.2.2.2.2.2.2.2.2.2.2.2.2.2.2.2.2.2.1
theorem dq_g529 : decode cL_law 516 = .ok (.iadd, 1) ∧ decode cL_law 517 = .ok (.iaload, 1) ∧ decode cL_law 518 = .ok (.invokevirtual 55, 3) ∧ decode cL_law 521 = .ok (.pop, 1) ∧ decode cL_law 522 = .ok (.goto 987, 3) ∧ decode cL_law 525 = .ok (.aload_n 1, 1) ∧ decode cL_law 526 = .ok (.aload_n 0, 1) ∧ decode cL_law 527 = .ok (.iload_n 3, 1) ∧ decode cL_law 528 = .ok (.iconst 1, 1) ∧ decode cL_law 529 = .ok (.iadd, 1) ∧ decode cL_law 530 = .ok (.iaload, 1) ∧ decode cL_law 531 = .ok (.aload_n 0, 1) ∧ decode cL_law 532 = .ok (.iload_n 3, 1) ∧ decode cL_law 533 = .ok (.iconst 2, 1) ∧ decode cL_law 534 = .ok (.iadd, 1) ∧ decode cL_law 535 = .ok (.iaload, 1) ∧ decode cL_law 536 = .ok (.aload_n 0, 1) ∧ decode cL_law 537 = .ok (.iload_n 3, 1) ∧ decode cL_law 538 = .ok (.iconst 3, 1) ∧ decode cL_law 539 = .ok (.iadd, 1) ∧ decode cL_law 540 = .ok (.iaload, 1) ∧ decode cL_law 541 = .ok (.aload_n 0, 1) ∧ decode cL_law 542 = .ok (.iload_n 3, 1) ∧ decode cL_law 543 = .ok (.iconst 4, 1) ∧ decode cL_law 544 = .ok (.iadd, 1) ∧ decode cL_law 545 = .ok (.iaload, 1) ∧ decode cL_law 546 = .ok (.aload_n 0, 1) ∧ decode cL_law 547 = .ok (.iload_n 3, 1) ∧ decode cL_law 548 = .ok (.iconst 5, 1) ∧ decode cL_law 549 = .ok (.iadd, 1) ∧ True := dqC_ok (c := cL_law) [(516, 1, some (.iadd)), (517, 1, some (.iaload)), (518, 3, some (.invokevirtual 55)), (521, 1, some (.pop)), (522, 3, some (.goto 987)), (525, 1, some (.aload_n 1)), (526, 1, some (.aload_n 0)), (527, 1, some (.iload_n 3)), (528, 1, some (.iconst 1)), (529, 1, some (.iadd)), (530, 1, some (.iaload)), (531, 1, some (.aload_n 0)), (532, 1, some (.iload_n 3)), (533, 1, some (.iconst 2)), (534, 1, some (.iadd)), (535, 1, some (.iaload)), (536, 1, some (.aload_n 0)), (537, 1, some (.iload_n 3)), (538, 1, some (.iconst 3)), (539, 1, some (.iadd)), (540, 1, some (.iaload)), (541, 1, some (.aload_n 0)), (542, 1, some (.iload_n 3)), (543, 1, some (.iconst 4)), (544, 1, some (.iadd)), (545, 1, some (.iaload)), (546, 1, some (.aload_n 0)), (547, 1, some (.iload_n 3)), (548, 1, some (.iconst 5)), (549, 1, some (.iadd))] _ 516 rfl (by decide +kernel)
theorem dL_law_516 : decode cL_law 516 = .ok (.iadd, 1) := dq_g529.1
theorem dL_law_517 : decode cL_law 517 = .ok (.iaload, 1) := dq_g529.2.1
theorem dL_law_518 : decode cL_law 518 = .ok (.invokevirtual 55, 3) := dq_g529.2.2.1
theorem dL_law_521 : decode cL_law 521 = .ok (.pop, 1) := dq_g529.2.2.2.1
theorem dL_law_522 : decode cL_law 522 = .ok (.goto 987, 3) := dq_g529.2.2.2.2.1
theorem dL_law_525 : decode cL_law 525 = .ok (.aload_n 1, 1) := dq_g529.2.2.2.2.2.1
theorem dL_law_526 : decode cL_law 526 = .ok (.aload_n 0, 1) := dq_g529.2.2.2.2.2.2.1
theorem dL_law_527 : decode cL_law 527 = .ok (.iload_n 3, 1) := dq_g529.2.2.2.2.2.2.2.1
theorem dL_law_528 : decode cL_law 528 = .ok (.iconst 1, 1) := dq_g529.2.2.2.2.2.2.2.2.1
theorem dL_law_529 : decode cL_law 529 = .ok (.iadd, 1) := dq_g529.2.2.2.2.2.2.2.2.2.1
theorem dL_law_530 : decode cL_law 530 = .ok (.iaload, 1) := dq_g529.2.2.2.2.2.2.2.2.2.2.1
theorem dL_law_531 : decode cL_law 531 = .ok (.aload_n 0, 1) := dq_g529.2.2.2.2.2.2.2.2.2.2.2.1
theorem dL_law_532 : decode cL_law 532 = .ok (.iload_n 3, 1) := dq_g529.2.2.2.2.2.2.2.2.2.2.2.2.1
theorem dL_law_533 : decode cL_law 533 = .ok (.iconst 2, 1) := dq_g529.2.2.2.2.2.2.2.2.2.2.2.2.2.1
theorem dL_law_534 : decode cL_law 534 = .ok (.iadd, 1) := dq_g529.2.2.2.2.2.2.2.2.2.2.2.2.2.2.1
theorem dL_law_535 : decode cL_law 535 = .ok (.iaload, 1) := dq_g529.2.2.2.2.2.2.2.2.2.2.2.2.2.2.2.1
theorem dL_law_536 : decode cL_law 536 = .ok (.aload_n 0, 1) := dq_g529.2.2.2.2.2.2.2.2.2.2.2.2.2.2.2.2.1
theorem dL_law_537 : decode cL_law 537 = .ok (.iload_n 3, 1) := dq_g529.2.2.2.2.2.2.2.2.2.2.2.2.2.2.2.2.2.1
theorem dL_law_538 : decode cL_law 538 = .ok (.iconst 3, 1) := dq_g529.2.2.2.2.2.2.2.2.2.2.2.2.2.2.2.2.2.2.1
theorem dL_law_539 : decode cL_law 539 = .ok (.iadd, 1) := dq_g529.2.2.2.2.2.2.2.2.2.2.2.2.2.2.2.2.2.2.2.1
theorem dL_law_540 : decode cL_law 540 = .ok (.iaload, 1) := dq_g529.2.2.2.2.2.2.2.2.2.2.2.2.2.2.2.2.2.2.2.2.1
theorem dL_law_541 : decode cL_law 541 = .ok (.aload_n 0, 1) := dq_g529.2.2.2.2.2.2.2.2.2.2.2.2.2.2.2.2.2.2.2.2.2.1
theorem dL_law_542 : decode cL_law 542 = .ok (.iload_n 3, 1) := dq_g529.2.2.2.2.2.2.2.2.2.2.2.2.2.2.2.2.2.2.2.2.2.2.1
theorem dL_law_543 : decode cL_law 543 = .ok (.iconst 4, 1) := dq_g529.2.2.2.2.2.2.2.2.2.2.2.2.2.2.2.2.2.2.2.2.2.2.2.1
theorem dL_law_544 : decode cL_law 544 = .ok (.iadd, 1) := dq_g529.2.2.2.2.2.2.2.2.2.2.2.2.2.2.2.2.2.2.2.2.2.2.2.2.1
theorem dL_law_545 : decode cL_law 545 = .ok (.iaload, 1) := dq_g529.2.2.2.2.2.2.2.2.2.2.2.2.2.2.2.2.2.2.2.2.2.2.2.2.2.1
theorem dL_law_546 : decode cL_law 546 = .ok (.aload_n 0, 1) := dq_g529.2.2.2.2.2.2.2.2.2.2.2.2.2.2.2.2.2.2.2.2.2.2.2.2.2.2.1
theorem dL_law_547 : decode cL_law 547 = .ok (.iload_n 3, 1) := dq_g529.2.2.2.2.2.2.2.2.2.2.2.2.2.2.2.2.2.2.2.2.2.2.2.2.2.2.2.1
theorem dL_law_548 : decode cL_law 548 = .ok (.iconst 5, 1) := dq_g529.2.2.2.2.2.2.2.2.2.2.2.2.2.2.2.2.2.2.2.2.2.2.2.2.2.2.2.2.1
theorem dL_law_549 : decode cL_law 549 = .ok (.iadd, 1) := dq_g529.2.2.2.2.2.2.2.2.2.2.2.2.2.2.2.2.2.2.2.2.2.2.2.2.2.2.2.2.2.1
theorem dq_g530 : decode cL_law 550 = .ok (.iaload, 1) ∧ decode cL_law 551 = .ok (.invokevirtual 56, 3) ∧ decode cL_law 554 = .ok (.pop, 1) ∧ decode cL_law 555 = .ok (.aload_n 2, 1) ∧ decode cL_law 556 = .ok (.aload_n 0, 1) ∧ decode cL_law 557 = .ok (.iload_n 3, 1) ∧ decode cL_law 558 = .ok (.iconst 1, 1) ∧ decode cL_law 559 = .ok (.iadd, 1) ∧ decode cL_law 560 = .ok (.iaload, 1) ∧ decode cL_law 561 = .ok (.aload_n 0, 1) ∧ decode cL_law 562 = .ok (.iload_n 3, 1) ∧ decode cL_law 563 = .ok (.iconst 2, 1) ∧ decode cL_law 564 = .ok (.iadd, 1) ∧ decode cL_law 565 = .ok (.iaload, 1) ∧ decode cL_law 566 = .ok (.aload_n 0, 1) ∧ decode cL_law 567 = .ok (.iload_n 3, 1) ∧ decode cL_law 568 = .ok (.iconst 3, 1) ∧ decode cL_law 569 = .ok (.iadd, 1) ∧ decode cL_law 570 = .ok (.iaload, 1) ∧ decode cL_law 571 = .ok (.aload_n 0, 1) ∧ decode cL_law 572 = .ok (.iload_n 3, 1) ∧ decode cL_law 573 = .ok (.iconst 4, 1) ∧ decode cL_law 574 = .ok (.iadd, 1) ∧ decode cL_law 575 = .ok (.iaload, 1) ∧ decode cL_law 576 = .ok (.aload_n 0, 1) ∧ decode cL_law 577 = .ok (.iload_n 3, 1) ∧ decode cL_law 578 = .ok (.iconst 5, 1) ∧ decode cL_law 579 = .ok (.iadd, 1) ∧ decode cL_law 580 = .ok (.iaload, 1) ∧ decode cL_law 581 = .ok (.invokevirtual 59, 3) ∧ True := dqC_ok (c := cL_law) [(550, 1, some (.iaload)), (551, 3, some (.invokevirtual 56)), (554, 1, some (.pop)), (555, 1, some (.aload_n 2)), (556, 1, some (.aload_n 0)), (557, 1, some (.iload_n 3)), (558, 1, some (.iconst 1)), (559, 1, some (.iadd)), (560, 1, some (.iaload)), (561, 1, some (.aload_n 0)), (562, 1, some (.iload_n 3)), (563, 1, some (.iconst 2)), (564, 1, some (.iadd)), (565, 1, some (.iaload)), (566, 1, some (.aload_n 0)), (567, 1, some (.iload_n 3)), (568, 1, some (.iconst 3)), (569, 1, some (.iadd)), (570, 1, some (.iaload)), (571, 1, some (.aload_n 0)), (572, 1, some (.iload_n 3)), (573, 1, some (.iconst 4)), (574, 1, some (.iadd)), (575, 1, some (.iaload)), (576, 1, some (.aload_n 0)), (577, 1, some (.iload_n 3)), (578, 1, some (.iconst 5)), (579, 1, some (.iadd)), (580, 1, some (.iaload)), (581, 3, some (.invokevirtual 59))] _ 550 rfl (by decide +kernel)
theorem dL_law_550 : decode cL_law 550 = .ok (.iaload, 1) := dq_g530.1
theorem dL_law_551 : decode cL_law 551 = .ok (.invokevirtual 56, 3) := dq_g530.2.1
theorem dL_law_554 : decode cL_law 554 = .ok (.pop, 1) := dq_g530.2.2.1
theorem dL_law_555 : decode cL_law 555 = .ok (.aload_n 2, 1) := dq_g530.2.2.2.1
theorem dL_law_556 : decode cL_law 556 = .ok (.aload_n 0, 1) := dq_g530.2.2.2.2.1
theorem dL_law_557 : decode cL_law 557 = .ok (.iload_n 3, 1) := dq_g530.2.2.2.2.2.1
theorem dL_law_558 : decode cL_law 558 = .ok (.iconst 1, 1) := dq_g530.2.2.2.2.2.2.1
theorem dL_law_559 : decode cL_law 559 = .ok (.iadd, 1) := dq_g530.2.2.2.2.2.2.2.1
theorem dL_law_560 : decode cL_law 560 = .ok (.iaload, 1) := dq_g530.2.2.2.2.2.2.2.2.1
theorem dL_law_561 : decode cL_law 561 = .ok (.aload_n 0, 1) := dq_g530.2.2.2.2.2.2.2.2.2.1
theorem dL_law_562 : decode cL_law 562 = .ok (.iload_n 3, 1) := dq_g530.2.2.2.2.2.2.2.2.2.2.1
theorem dL_law_563 : decode cL_law 563 = .ok (.iconst 2, 1) := dq_g530.2.2.2.2.2.2.2.2.2.2.2.1
theorem dL_law_564 : decode cL_law 564 = .ok (.iadd, 1) := dq_g530.2.2.2.2.2.2.2.2.2.2.2.2.1
theorem dL_law_565 : decode cL_law 565 = .ok (.iaload, 1) := dq_g530.2.2.2.2.2.2.2.2.2.2.2.2.2.1
theorem dL_law_566 : decode cL_law 566 = .ok (.aload_n 0, 1) := dq_g530.2.2.2.2.2.2.2.2.2.2.2.2.2.2.1
theorem dL_law_567 : decode cL_law 567 = .ok (.iload_n 3, 1) := dq_g530.2.2.2.2.2.2.2.2.2.2.2.2.2.2.2.1
theorem dL_law_568 : decode cL_law 568 = .ok (.iconst 3, 1) := dq_g530.2.2.2.2.2.2.2.2.2.2.2.2.2.2.2.2.1
theorem dL_law_569 : decode cL_law 569 = .ok (.iadd, 1) := dq_g530.2.2.2.2.2.2.2.2.2.2.2.2.2.2.2.2.2.1
theorem dL_law_570 : decode cL_law 570 = .ok (.iaload, 1) := dq_g530.2.2.2.2.2.2.2.2.2.2.2.2.2.2.2.2.2.2.1
theorem dL_law_571 : decode cL_law 571 = .ok (.aload_n 0, 1) := dq_g530.2.2.2.2.2.2.2.2.2.2.2.2.2.2.2.2.2.2.2.1
theorem dL_law_572 : decode cL_law 572 = .ok (.iload_n 3, 1) := dq_g530.2.2.2.2.2.2.2.2.2.2.2.2.2.2.2.2.2.2.2.2.1
theorem dL_law_573 : decode cL_law 573 = .ok (.iconst 4, 1) := dq_g530.2.2.2.2.2.2.2.2.2.2.2.2.2.2.2.2.2.2.2.2.2.1
theorem dL_law_574 : decode cL_law 574 = .ok (.iadd, 1) := dq_g530.2.2.2.2.2.2.2.2.2.2.2.2.2.2.2.2.2.2.2.2.2.2.1
theorem dL_law_575 : decode cL_law 575 = .ok (.iaload, 1) := dq_g530.2.2.2.2.2.2.2.2.2.2.2.2.2.2.2.2.2.2.2.2.2.2.2.1
theorem dL_law_576 : decode cL_law 576 = .ok (.aload_n 0, 1) := dq_g530.2.2.2.2.2.2.2.2.2.2.2.2.2.2.2.2.2.2.2.2.2.2.2.2.1
theorem dL_law_577 : decode cL_law 577 = .ok (.iload_n 3, 1) := dq_g530.2.2.2.2.2.2.2.2.2.2.2.2.2.2.2.2.2.2.2.2.2.2.2.2.2.1
theorem dL_law_578 : decode cL_law 578 = .ok (.iconst 5, 1) := dq_g530.2.2.2.2.2.2.2.2.2.2.2.2.2.2.2.2.2.2.2.2.2.2.2.2.2.2.1
theorem dL_law_579 : decode cL_law 579 = .ok (.iadd, 1) := dq_g530.2.2.2.2.2.2.2.2.2.2.2.2.2.2.2.2.2.2.2.2.2.2.2.2.2.2.2.1
theorem dL_law_580 : decode cL_law 580 = .ok (.iaload, 1) := dq_g530.2.2.2.2.2.2.2.2.2.2.2.2.2.2.2.2.2.2.2.2.2.2.2.2.2.2.2.2.1
theorem dL_law_581 : decode cL_law 581 = .ok (.invokevirtual 59, 3) := dq_g530.2.2.2.2.2.2.2.2.2.2.2.2.2.2.2.2.2.2.2.2.2.2.2.2.2.2.2.2.2.1
theorem dq_g531 : decode cL_law 584 = .ok (.pop, 1) ∧ decode cL_law 585 = .ok (.goto 924, 3) ∧ decode cL_law 588 = .ok (.aload_n 1, 1) ∧ decode cL_law 589 = .ok (.aload_n 0, 1) ∧ decode cL_law 590 = .ok (.iload_n 3, 1) ∧ decode cL_law 591 = .ok (.iconst 1, 1) ∧ decode cL_law 592 = .ok (.iadd, 1) ∧ decode cL_law 593 = .ok (.iaload, 1) ∧ decode cL_law 594 = .ok (.aload_n 0, 1) ∧ decode cL_law 595 = .ok (.iload_n 3, 1) ∧ decode cL_law 596 = .ok (.iconst 2, 1) ∧ decode cL_law 597 = .ok (.iadd, 1) ∧ decode cL_law 598 = .ok (.iaload, 1) ∧ decode cL_law 599 = .ok (.invokevirtual 60, 3) ∧ decode cL_law 602 = .ok (.pop, 1) ∧ decode cL_law 603 = .ok (.aload_n 2, 1) ∧ decode cL_law 604 = .ok (.aload_n 0, 1) ∧ decode cL_law 605 = .ok (.iload_n 3, 1) ∧ decode cL_law 606 = .ok (.iconst 1, 1) ∧ decode cL_law 607 = .ok (.iadd, 1) ∧ decode cL_law 608 = .ok (.iaload, 1) ∧ decode cL_law 609 = .ok (.aload_n 0, 1) ∧ decode cL_law 610 = .ok (.iload_n 3, 1) ∧ decode cL_law 611 = .ok (.iconst 2, 1) ∧ decode cL_law 612 = .ok (.iadd, 1) ∧ decode cL_law 613 = .ok (.iaload, 1) ∧ decode cL_law 614 = .ok (.invokevirtual 63, 3) ∧ decode cL_law 617 = .ok (.pop, 1) ∧ decode cL_law 618 = .ok (.goto 891, 3) ∧ decode cL_law 621 = .ok (.aload_n 1, 1) ∧ True := dqC_ok (c := cL_law) [(584, 1, some (.pop)), (585, 3, some (.goto 924)), (588, 1, some (.aload_n 1)), (589, 1, some (.aload_n 0)), (590, 1, some (.iload_n 3)), (591, 1, some (.iconst 1)), (592, 1, some (.iadd)), (593, 1, some (.iaload)), (594, 1, some (.aload_n 0)), (595, 1, some (.iload_n 3)), (596, 1, some (.iconst 2)), (597, 1, some (.iadd)), (598, 1, some (.iaload)), (599, 3, some (.invokevirtual 60)), (602, 1, some (.pop)), (603, 1, some (.aload_n 2)), (604, 1, some (.aload_n 0)), (605, 1, some (.iload_n 3)), (606, 1, some (.iconst 1)), (607, 1, some (.iadd)), (608, 1, some (.iaload)), (609, 1, some (.aload_n 0)), (610, 1, some (.iload_n 3)), (611, 1, some (.iconst 2)), (612, 1, some (.iadd)), (613, 1, some (.iaload)), (614, 3, some (.invokevirtual 63)), (617, 1, some (.pop)), (618, 3, some (.goto 891)), (621, 1, some (.aload_n 1))] _ 584 rfl (by decide +kernel)
theorem dL_law_584 : decode cL_law 584 = .ok (.pop, 1) := dq_g531.1
theorem dL_law_585 : decode cL_law 585 = .ok (.goto 924, 3) := dq_g531.2.1
theorem dL_law_588 : decode cL_law 588 = .ok (.aload_n 1, 1) := dq_g531.2.2.1
theorem dL_law_589 : decode cL_law 589 = .ok (.aload_n 0, 1) := dq_g531.2.2.2.1
theorem dL_law_590 : decode cL_law 590 = .ok (.iload_n 3, 1) := dq_g531.2.2.2.2.1
theorem dL_law_591 : decode cL_law 591 = .ok (.iconst 1, 1) := dq_g531.2.2.2.2.2.1
theorem dL_law_592 : decode cL_law 592 = .ok (.iadd, 1) := dq_g531.2.2.2.2.2.2.1
theorem dL_law_593 : decode cL_law 593 = .ok (.iaload, 1) := dq_g531.2.2.2.2.2.2.2.1
theorem dL_law_594 : decode cL_law 594 = .ok (.aload_n 0, 1) := dq_g531.2.2.2.2.2.2.2.2.1
theorem dL_law_595 : decode cL_law 595 = .ok (.iload_n 3, 1) := dq_g531.2.2.2.2.2.2.2.2.2.1
theorem dL_law_596 : decode cL_law 596 = .ok (.iconst 2, 1) := dq_g531.2.2.2.2.2.2.2.2.2.2.1
theorem dL_law_597 : decode cL_law 597 = .ok (.iadd, 1) := dq_g531.2.2.2.2.2.2.2.2.2.2.2.1
theorem dL_law_598 : decode cL_law 598 = .ok (.iaload, 1) := dq_g531.2.2.2.2.2.2.2.2.2.2.2.2.1
theorem dL_law_599 : decode cL_law 599 = .ok (.invokevirtual 60, 3) := dq_g531.2.2.2.2.2.2.2.2.2.2.2.2.2.1
theorem dL_law_602 : decode cL_law 602 = .ok (.pop, 1) := dq_g531.2.2.2.2.2.2.2.2.2.2.2.2.2.2.1
theorem dL_law_603 : decode cL_law 603 = .ok (.aload_n 2, 1) := dq_g531.2.2.2.2.2.2.2.2.2.2.2.2.2.2.2.1
theorem dL_law_604 : decode cL_law 604 = .ok (.aload_n 0, 1) := dq_g531.2.2.2.2.2.2.2.2.2.2.2.2.2.2.2.2.1
theorem dL_law_605 : decode cL_law 605 = .ok (.iload_n 3, 1) := dq_g531.2.2.2.2.2.2.2.2.2.2.2.2.2.2.2.2.2.1
theorem dL_law_606 : decode cL_law 606 = .ok (.iconst 1, 1) := dq_g531.2.2.2.2.2.2.2.2.2.2.2.2.2.2.2.2.2.2.1
theorem dL_law_607 : decode cL_law 607 = .ok (.iadd, 1) := dq_g531.2.2.2.2.2.2.2.2.2.2.2.2.2.2.2.2.2.2.2.1
theorem dL_law_608 : decode cL_law 608 = .ok (.iaload, 1) := dq_g531.2.2.2.2.2.2.2.2.2.2.2.2.2.2.2.2.2.2.2.2.1
theorem dL_law_609 : decode cL_law 609 = .ok (.aload_n 0, 1) := dq_g531.2.2.2.2.2.2.2.2.2.2.2.2.2.2.2.2.2.2.2.2.2.1
theorem dL_law_610 : decode cL_law 610 = .ok (.iload_n 3, 1) := dq_g531.2.2.2.2.2.2.2.2.2.2.2.2.2.2.2.2.2.2.2.2.2.2.1
theorem dL_law_611 : decode cL_law 611 = .ok (.iconst 2, 1) := dq_g531.2.2.2.2.2.2.2.2.2.2.2.2.2.2.2.2.2.2.2.2.2.2.2.1
theorem dL_law_612 : decode cL_law 612 = .ok (.iadd, 1) := dq_g531.2.2.2.2.2.2.2.2.2.2.2.2.2.2.2.2.2.2.2.2.2.2.2.2.1
theorem dL_law_613 : decode cL_law 613 = .ok (.iaload, 1) := dq_g531.2.2.2.2.2.2.2.2.2.2.2.2.2.2.2.2.2.2.2.2.2.2.2.2.2.1
theorem dL_law_614 : decode cL_law 614 = .ok (.invokevirtual 63, 3) := dq_g531.2.2.2.2.2.2.2.2.2.2.2.2.2.2.2.2.2.2.2.2.2.2.2.2.2.2.1
theorem dL_law_617 : decode cL_law 617 = .ok (.pop, 1) := dq_g531.2.2.2.2.2.2.2.2.2.2.2.2.2.2.2.2.2.2.2.2.2.2.2.2.2.2.2.1
theorem dL_law_618 : decode cL_law 618 = .ok (.goto 891, 3) := dq_g531.2.2.2.2.2.2.2.2.2.2.2.2.2.2.2.2.2.2.2.2.2.2.2.2.2.2.2.2.1
theorem dL_law_621 : decode cL_law 621 = .ok (.aload_n 1, 1) := dq_g531.2.2.2.2.2.2.2.2.2.2.2.2.2.2.2.2.2.2.2.2.2.2.2.2.2.2.2.2.2.1
theorem dq_g532 : decode cL_law 622 = .ok (.aload_n 0, 1) ∧ decode cL_law 623 = .ok (.iload_n 3, 1) ∧ decode cL_law 624 = .ok (.iconst 1, 1) ∧ decode cL_law 625 = .ok (.iadd, 1) ∧ decode cL_law 626 = .ok (.iaload, 1) ∧ decode cL_law 627 = .ok (.aload_n 0, 1) ∧ decode cL_law 628 = .ok (.iload_n 3, 1) ∧ decode cL_law 629 = .ok (.iconst 2, 1) ∧ decode cL_law 630 = .ok (.iadd, 1) ∧ decode cL_law 631 = .ok (.iaload, 1) ∧ decode cL_law 632 = .ok (.aload_n 0, 1) ∧ decode cL_law 633 = .ok (.iload_n 3, 1) ∧ decode cL_law 634 = .ok (.iconst 3, 1) ∧ decode cL_law 635 = .ok (.iadd, 1) ∧ decode cL_law 636 = .ok (.iaload, 1) ∧ decode cL_law 637 = .ok (.invokevirtual 64, 3) ∧ decode cL_law 640 = .ok (.pop, 1) ∧ decode cL_law 641 = .ok (.aload_n 2, 1) ∧ decode cL_law 642 = .ok (.aload_n 0, 1) ∧ decode cL_law 643 = .ok (.iload_n 3, 1) ∧ decode cL_law 644 = .ok (.iconst 1, 1) ∧ decode cL_law 645 = .ok (.iadd, 1) ∧ decode cL_law 646 = .ok (.iaload, 1) ∧ decode cL_law 647 = .ok (.aload_n 0, 1) ∧ decode cL_law 648 = .ok (.iload_n 3, 1) ∧ decode cL_law 649 = .ok (.iconst 2, 1) ∧ decode cL_law 650 = .ok (.iadd, 1) ∧ decode cL_law 651 = .ok (.iaload, 1) ∧ decode cL_law 652 = .ok (.aload_n 0, 1) ∧ decode cL_law 653 = .ok (.iload_n 3, 1) ∧ True := dqC_ok (c := cL_law) [(622, 1, some (.aload_n 0)), (623, 1, some (.iload_n 3)), (624, 1, some (.iconst 1)), (625, 1, some (.iadd)), (626, 1, some (.iaload)), (627, 1, some (.aload_n 0)), (628, 1, some (.iload_n 3)), (629, 1, some (.iconst 2)), (630, 1, some (.iadd)), (631, 1, some (.iaload)), (632, 1, some (.aload_n 0)), (633, 1, some (.iload_n 3)), (634, 1, some (.iconst 3)), (635, 1, some (.iadd)), (636, 1, some (.iaload)), (637, 3, some (.invokevirtual 64)), (640, 1, some (.pop)), (641, 1, some (.aload_n 2)), (642, 1, some (.aload_n 0)), (643, 1, some (.iload_n 3)), (644, 1, some (.iconst 1)), (645, 1, some (.iadd)), (646, 1, some (.iaload)), (647, 1, some (.aload_n 0)), (648, 1, some (.iload_n 3)), (649, 1, some (.iconst 2)), (650, 1, some (.iadd)), (651, 1, some (.iaload)), (652, 1, some (.aload_n 0)), (653, 1, some (.iload_n 3))] _ 622 rfl (by decide +kernel)
theorem dL_law_622 : decode cL_law 622 = .ok (.aload_n 0, 1) := dq_g532.1
theorem dL_law_623 : decode cL_law 623 = .ok (.iload_n 3, 1) := dq_g532.2.1
theorem dL_law_624 : decode cL_law 624 = .ok (.iconst 1, 1) := dq_g532.2.2.1
theorem dL_law_625 : decode cL_law 625 = .ok (.iadd, 1) := dq_g532.2.2.2.1
theorem dL_law_626 : decode cL_law 626 = .ok (.iaload, 1) := dq_g532.2.2.2.2.1
theorem dL_law_627 : decode cL_law 627 = .ok (.aload_n 0, 1) := dq_g532.2.2.2.2.2.1
theorem dL_law_628 : decode cL_law 628 = .ok (.iload_n 3, 1) := dq_g532.2.2.2.2.2.2.1
theorem dL_law_629 : decode cL_law 629 = .ok (.iconst 2, 1) := dq_g532.2.2.2.2.2.2.2.1
theorem dL_law_630 : decode cL_law 630 = .ok (.iadd, 1) := dq_g532.2.2.2.2.2.2.2.2.1
theorem dL_law_631 : decode cL_law 631 = .ok (.iaload, 1) := dq_g532.2.2.2.2.2.2.2.2.2.1
theorem dL_law_632 : decode cL_law 632 = .ok (.aload_n 0, 1) := dq_g532.2.2.2.2.2.2.2.2.2.2.1
theorem dL_law_633 : decode cL_law 633 = .ok (.iload_n 3, 1) := dq_g532.2.2.2.2.2.2.2.2.2.2.2.1
theorem dL_law_634 : decode cL_law 634 = .ok (.iconst 3, 1) := dq_g532.2.2.2.2.2.2.2.2.2.2.2.2.1
theorem dL_law_635 : decode cL_law 635 = .ok (.iadd, 1) := dq_g532.2.2.2.2.2.2.2.2.2.2.2.2.2.1
theorem dL_law_636 : decode cL_law 636 = .ok (.iaload, 1) := dq_g532.2.2.2.2.2.2.2.2.2.2.2.2.2.2.1
theorem dL_law_637 : decode cL_law 637 = .ok (.invokevirtual 64, 3) := dq_g532.2.2.2.2.2.2.2.2.2.2.2.2.2.2.2.1
theorem dL_law_640 : decode cL_law 640 = .ok (.pop, 1) := dq_g532.2.2.2.2.2.2.2.2.2.2.2.2.2.2.2.2.1
theorem dL_law_641 : decode cL_law 641 = .ok (.aload_n 2, 1) := dq_g532.2.2.2.2.2.2.2.2.2.2.2.2.2.2.2.2.2.1
theorem dL_law_642 : decode cL_law 642 = .ok (.aload_n 0, 1) := dq_g532.2.2.2.2.2.2.2.2.2.2.2.2.2.2.2.2.2.2.1
theorem dL_law_643 : decode cL_law 643 = .ok (.iload_n 3, 1) := dq_g532.2.2.2.2.2.2.2.2.2.2.2.2.2.2.2.2.2.2.2.1
theorem dL_law_644 : decode cL_law 644 = .ok (.iconst 1, 1) := dq_g532.2.2.2.2.2.2.2.2.2.2.2.2.2.2.2.2.2.2.2.2.1
theorem dL_law_645 : decode cL_law 645 = .ok (.iadd, 1) := dq_g532.2.2.2.2.2.2.2.2.2.2.2.2.2.2.2.2.2.2.2.2.2.1
theorem dL_law_646 : decode cL_law 646 = .ok (.iaload, 1) := dq_g532.2.2.2.2.2.2.2.2.2.2.2.2.2.2.2.2.2.2.2.2.2.2.1
theorem dL_law_647 : decode cL_law 647 = .ok (.aload_n 0, 1) := dq_g532.2.2.2.2.2.2.2.2.2.2.2.2.2.2.2.2.2.2.2.2.2.2.2.1
theorem dL_law_648 : decode cL_law 648 = .ok (.iload_n 3, 1) := dq_g532.2.2.2.2.2.2.2.2.2.2.2.2.2.2.2.2.2.2.2.2.2.2.2.2.1
theorem dL_law_649 : decode cL_law 649 = .ok (.iconst 2, 1) := dq_g532.2.2.2.2.2.2.2.2.2.2.2.2.2.2.2.2.2.2.2.2.2.2.2.2.2.1
theorem dL_law_650 : decode cL_law 650 = .ok (.iadd, 1) := dq_g532.2.2.2.2.2.2.2.2.2.2.2.2.2.2.2.2.2.2.2.2.2.2.2.2.2.2.1
theorem dL_law_651 : decode cL_law 651 = .ok (.iaload, 1) := dq_g532.2.2.2.2.2.2.2.2.2.2.2.2.2.2.2.2.2.2.2.2.2.2.2.2.2.2.2.1
theorem dL_law_652 : decode cL_law 652 = .ok (.aload_n 0, 1) := dq_g532.2.2.2.2.2.2.2.2.2.2.2.2.2.2.2.2.2.2.2.2.2.2.2.2.2.2.2.2.1
theorem dL_law_653 : decode cL_law 653 = .ok (.iload_n 3, 1) := dq_g532.2.2.2.2.2.2.2.2.2.2.2.2.2.2.2.2.2.2.2.2.2.2.2.2.2.2.2.2.2.1
theorem dq_g533 : decode cL_law 654 = .ok (.iconst 3, 1) ∧ decode cL_law 655 = .ok (.iadd, 1) ∧ decode cL_law 656 = .ok (.iaload, 1) ∧ decode cL_law 657 = .ok (.invokevirtual 67, 3) ∧ decode cL_law 660 = .ok (.pop, 1) ∧ decode cL_law 661 = .ok (.goto 848, 3) ∧ decode cL_law 664 = .ok (.aload_n 1, 1) ∧ decode cL_law 665 = .ok (.aload_n 0, 1) ∧ decode cL_law 666 = .ok (.iload_n 3, 1) ∧ decode cL_law 667 = .ok (.iconst 1, 1) ∧ decode cL_law 668 = .ok (.iadd, 1) ∧ decode cL_law 669 = .ok (.iaload, 1) ∧ decode cL_law 670 = .ok (.aload_n 0, 1) ∧ decode cL_law 671 = .ok (.iload_n 3, 1) ∧ decode cL_law 672 = .ok (.iconst 2, 1) ∧ decode cL_law 673 = .ok (.iadd, 1) ∧ decode cL_law 674 = .ok (.iaload, 1) ∧ decode cL_law 675 = .ok (.aload_n 0, 1) ∧ decode cL_law 676 = .ok (.iload_n 3, 1) ∧ decode cL_law 677 = .ok (.iconst 3, 1) ∧ decode cL_law 678 = .ok (.iadd, 1) ∧ decode cL_law 679 = .ok (.iaload, 1) ∧ decode cL_law 680 = .ok (.invokevirtual 68, 3) ∧ decode cL_law 683 = .ok (.pop, 1) ∧ decode cL_law 684 = .ok (.aload_n 2, 1) ∧ decode cL_law 685 = .ok (.aload_n 0, 1) ∧ decode cL_law 686 = .ok (.iload_n 3, 1) ∧ decode cL_law 687 = .ok (.iconst 1, 1) ∧ decode cL_law 688 = .ok (.iadd, 1) ∧ decode cL_law 689 = .ok (.iaload, 1) ∧ True := dqC_ok (c := cL_law) [(654, 1, some (.iconst 3)), (655, 1, some (.iadd)), (656, 1, some (.iaload)), (657, 3, some (.invokevirtual 67)), (660, 1, some (.pop)), (661, 3, some (.goto 848)), (664, 1, some (.aload_n 1)), (665, 1, some (.aload_n 0)), (666, 1, some (.iload_n 3)), (667, 1, some (.iconst 1)), (668, 1, some (.iadd)), (669, 1, some (.iaload)), (670, 1, some (.aload_n 0)), (671, 1, some (.iload_n 3)), (672, 1, some (.iconst 2)), (673, 1, some (.iadd)), (674, 1, some (.iaload)), (675, 1, some (.aload_n 0)), (676, 1, some (.iload_n 3)), (677, 1, some (.iconst 3)), (678, 1, some (.iadd)), (679, 1, some (.iaload)), (680, 3, some (.invokevirtual 68)), (683, 1, some (.pop)), (684, 1, some (.aload_n 2)), (685, 1, some (.aload_n 0)), (686, 1, some (.iload_n 3)), (687, 1, some (.iconst 1)), (688, 1, some (.iadd)), (689, 1, some (.iaload))] _ 654 rfl (by decide +kernel)
theorem dL_law_654 : decode cL_law 654 = .ok (.iconst 3, 1) := dq_g533.1
theorem dL_law_655 : decode cL_law 655 = .ok (.iadd, 1) := dq_g533.2.1
theorem dL_law_656 : decode cL_law 656 = .ok (.iaload, 1) := dq_g533.2.2.1
theorem dL_law_657 : decode cL_law 657 = .ok (.invokevirtual 67, 3) := dq_g533.2.2.2.1
theorem dL_law_660 : decode cL_law 660 = .ok (.pop, 1) := dq_g533.2.2.2.2.1
theorem dL_law_661 : decode cL_law 661 = .ok (.goto 848, 3) := dq_g533.2.2.2.2.2.1
theorem dL_law_664 : decode cL_law 664 = .ok (.aload_n 1, 1) := dq_g533.2.2.2.2.2.2.1
theorem dL_law_665 : decode cL_law 665 = .ok (.aload_n 0, 1) := dq_g533.2.2.2.2.2.2.2.1
theorem dL_law_666 : decode cL_law 666 = .ok (.iload_n 3, 1) := dq_g533.2.2.2.2.2.2.2.2.1
theorem dL_law_667 : decode cL_law 667 = .ok (.iconst 1, 1) := dq_g533.2.2.2.2.2.2.2.2.2.1
theorem dL_law_668 : decode cL_law 668 = .ok (.iadd, 1) := dq_g533.2.2.2.2.2.2.2.2.2.2.1
theorem dL_law_669 : decode cL_law 669 = .ok (.iaload, 1) := dq_g533.2.2.2.2.2.2.2.2.2.2.2.1
theorem dL_law_670 : decode cL_law 670 = .ok (.aload_n 0, 1) := dq_g533.2.2.2.2.2.2.2.2.2.2.2.2.1
theorem dL_law_671 : decode cL_law 671 = .ok (.iload_n 3, 1) := dq_g533.2.2.2.2.2.2.2.2.2.2.2.2.2.1
theorem dL_law_672 : decode cL_law 672 = .ok (.iconst 2, 1) := dq_g533.2.2.2.2.2.2.2.2.2.2.2.2.2.2.1
theorem dL_law_673 : decode cL_law 673 = .ok (.iadd, 1) := dq_g533.2.2.2.2.2.2.2.2.2.2.2.2.2.2.2.1
theorem dL_law_674 : decode cL_law 674 = .ok (.iaload, 1) := dq_g533.2.2.2.2.2.2.2.2.2.2.2.2.2.2.2.2.1
theorem dL_law_675 : decode cL_law 675 = .ok (.aload_n 0, 1) := dq_g533.2.2.2.2.2.2.2.2.2.2.2.2.2.2.2.2.2.1
theorem dL_law_676 : decode cL_law 676 = .ok (.iload_n 3, 1) := dq_g533.2.2.2.2.2.2.2.2.2.2.2.2.2.2.2.2.2.2.1
theorem dL_law_677 : decode cL_law 677 = .ok (.iconst 3, 1) := dq_g533.2.2.2.2.2.2.2.2.2.2.2.2.2.2.2.2.2.2.2.1
theorem dL_law_678 : decode cL_law 678 = .ok (.iadd, 1) := dq_g533.2.2.2.2.2.2.2.2.2.2.2.2.2.2.2.2.2.2.2.2.1
theorem dL_law_679 : decode cL_law 679 = .ok (.iaload, 1) := dq_g533.2.2.2.2.2.2.2.2.2.2.2.2.2.2.2.2.2.2.2.2.2.1
theorem dL_law_680 : decode cL_law 680 = .ok (.invokevirtual 68, 3) := dq_g533.2.2.2.2.2.2.2.2.2.2.2.2.2.2.2.2.2.2.2.2.2.2.1
theorem dL_law_683 : decode cL_law 683 = .ok (.pop, 1) := dq_g533.2.2.2.2.2.2.2.2.2.2.2.2.2.2.2.2.2.2.2.2.2.2.2.1
theorem dL_law_684 : decode cL_law 684 = .ok (.aload_n 2, 1) := dq_g533.2.2.2.2.2.2.2.2.2.2.2.2.2.2.2.2.2.2.2.2.2.2.2.2.1
theorem dL_law_685 : decode cL_law 685 = .ok (.aload_n 0, 1) := dq_g533.2.2.2.2.2.2.2.2.2.2.2.2.2.2.2.2.2.2.2.2.2.2.2.2.2.1
theorem dL_law_686 : decode cL_law 686 = .ok (.iload_n 3, 1) := dq_g533.2.2.2.2.2.2.2.2.2.2.2.2.2.2.2.2.2.2.2.2.2.2.2.2.2.2.1
theorem dL_law_687 : decode cL_law 687 = .ok (.iconst 1, 1) := dq_g533.2.2.2.2.2.2.2.2.2.2.2.2.2.2.2.2.2.2.2.2.2.2.2.2.2.2.2.1
theorem dL_law_688 : decode cL_law 688 = .ok (.iadd, 1) := dq_g533.2.2.2.2.2.2.2.2.2.2.2.2.2.2.2.2.2.2.2.2.2.2.2.2.2.2.2.2.1
theorem dL_law_689 : decode cL_law 689 = .ok (.iaload, 1) := dq_g533.2.2.2.2.2.2.2.2.2.2.2.2.2.2.2.2.2.2.2.2.2.2.2.2.2.2.2.2.2.1
theorem dq_g534 : decode cL_law 690 = .ok (.aload_n 0, 1) ∧ decode cL_law 691 = .ok (.iload_n 3, 1) ∧ decode cL_law 692 = .ok (.iconst 2, 1) ∧ decode cL_law 693 = .ok (.iadd, 1) ∧ decode cL_law 694 = .ok (.iaload, 1) ∧ decode cL_law 695 = .ok (.aload_n 0, 1) ∧ decode cL_law 696 = .ok (.iload_n 3, 1) ∧ decode cL_law 697 = .ok (.iconst 3, 1) ∧ decode cL_law 698 = .ok (.iadd, 1) ∧ decode cL_law 699 = .ok (.iaload, 1) ∧ decode cL_law 700 = .ok (.invokevirtual 71, 3) ∧ decode cL_law 703 = .ok (.pop, 1) ∧ decode cL_law 704 = .ok (.goto 805, 3) ∧ decode cL_law 707 = .ok (.aload_n 1, 1) ∧ decode cL_law 708 = .ok (.aload_n 0, 1) ∧ decode cL_law 709 = .ok (.iload_n 3, 1) ∧ decode cL_law 710 = .ok (.iconst 1, 1) ∧ decode cL_law 711 = .ok (.iadd, 1) ∧ decode cL_law 712 = .ok (.iaload, 1) ∧ decode cL_law 713 = .ok (.aload_n 0, 1) ∧ decode cL_law 714 = .ok (.iload_n 3, 1) ∧ decode cL_law 715 = .ok (.iconst 2, 1) ∧ decode cL_law 716 = .ok (.iadd, 1) ∧ decode cL_law 717 = .ok (.iaload, 1) ∧ decode cL_law 718 = .ok (.aload_n 0, 1) ∧ decode cL_law 719 = .ok (.iload_n 3, 1) ∧ decode cL_law 720 = .ok (.iconst 3, 1) ∧ decode cL_law 721 = .ok (.iadd, 1) ∧ decode cL_law 722 = .ok (.iaload, 1) ∧ decode cL_law 723 = .ok (.invokevirtual 72, 3) ∧ True := dqC_ok (c := cL_law) [(690, 1, some (.aload_n 0)), (691, 1, some (.iload_n 3)), (692, 1, some (.iconst 2)), (693, 1, some (.iadd)), (694, 1, some (.iaload)), (695, 1, some (.aload_n 0)), (696, 1, some (.iload_n 3)), (697, 1, some (.iconst 3)), (698, 1, some (.iadd)), (699, 1, some (.iaload)), (700, 3, some (.invokevirtual 71)), (703, 1, some (.pop)), (704, 3, some (.goto 805)), (707, 1, some (.aload_n 1)), (708, 1, some (.aload_n 0)), (709, 1, some (.iload_n 3)), (710, 1, some (.iconst 1)), (711, 1, some (.iadd)), (712, 1, some (.iaload)), (713, 1, some (.aload_n 0)), (714, 1, some (.iload_n 3)), (715, 1, some (.iconst 2)), (716, 1, some (.iadd)), (717, 1, some (.iaload)), (718, 1, some (.aload_n 0)), (719, 1, some (.iload_n 3)), (720, 1, some (.iconst 3)), (721, 1, some (.iadd)), (722, 1, some (.iaload)), (723, 3, some (.invokevirtual 72))] _ 690 rfl (by decide +kernel)
theorem dL_law_690 : decode cL_law 690 = .ok (.aload_n 0, 1) := dq_g534.1
theorem dL_law_691 : decode cL_law 691 = .ok (.iload_n 3, 1) := dq_g534.2.1
theorem dL_law_692 : decode cL_law 692 = .ok (.iconst 2, 1) := dq_g534.2.2.1
theorem dL_law_693 : decode cL_law 693 = .ok (.iadd, 1) := dq_g534.2.2.2.1
theorem dL_law_694 : decode cL_law 694 = .ok (.iaload, 1) := dq_g534.2.2.2.2.1
theorem dL_law_695 : decode cL_law 695 = .ok (.aload_n 0, 1) := dq_g534.2.2.2.2.2.1
theorem dL_law_696 : decode cL_law 696 = .ok (.iload_n 3, 1) := dq_g534.2.2.2.2.2.2.1
theorem dL_law_697 : decode cL_law 697 = .ok (.iconst 3, 1) := dq_g534.2.2.2.2.2.2.2.1
theorem dL_law_698 : decode cL_law 698 = .ok (.iadd, 1) := dq_g534.2.2.2.2.2.2.2.2.1
theorem dL_law_699 : decode cL_law 699 = .ok (.iaload, 1) := dq_g534.2.2.2.2.2.2.2.2.2.1
theorem dL_law_700 : decode cL_law 700 = .ok (.invokevirtual 71, 3) := dq_g534.2.2.2.2.2.2.2.2.2.2.1
theorem dL_law_703 : decode cL_law 703 = .ok (.pop, 1) := dq_g534.2.2.2.2.2.2.2.2.2.2.2.1
theorem dL_law_704 : decode cL_law 704 = .ok (.goto 805, 3) := dq_g534.2.2.2.2.2.2.2.2.2.2.2.2.1
theorem dL_law_707 : decode cL_law 707 = .ok (.aload_n 1, 1) := dq_g534.2.2.2.2.2.2.2.2.2.2.2.2.2.1
theorem dL_law_708 : decode cL_law 708 = .ok (.aload_n 0, 1) := dq_g534.2.2.2.2.2.2.2.2.2.2.2.2.2.2.1
theorem dL_law_709 : decode cL_law 709 = .ok (.iload_n 3, 1) := dq_g534.2.2.2.2.2.2.2.2.2.2.2.2.2.2.2.1
theorem dL_law_710 : decode cL_law 710 = .ok (.iconst 1, 1) := dq_g534.2.2.2.2.2.2.2.2.2.2.2.2.2.2.2.2.1
theorem dL_law_711 : decode cL_law 711 = .ok (.iadd, 1) := dq_g534.2.2.2.2.2.2.2.2.2.2.2.2.2.2.2.2.2.1
theorem dL_law_712 : decode cL_law 712 = .ok (.iaload, 1) := dq_g534.2.2.2.2.2.2.2.2.2.2.2.2.2.2.2.2.2.2.1
theorem dL_law_713 : decode cL_law 713 = .ok (.aload_n 0, 1) := dq_g534.2.2.2.2.2.2.2.2.2.2.2.2.2.2.2.2.2.2.2.1
theorem dL_law_714 : decode cL_law 714 = .ok (.iload_n 3, 1) := dq_g534.2.2.2.2.2.2.2.2.2.2.2.2.2.2.2.2.2.2.2.2.1
theorem dL_law_715 : decode cL_law 715 = .ok (.iconst 2, 1) := dq_g534.2.2.2.2.2.2.2.2.2.2.2.2.2.2.2.2.2.2.2.2.2.1
theorem dL_law_716 : decode cL_law 716 = .ok (.iadd, 1) := dq_g534.2.2.2.2.2.2.2.2.2.2.2.2.2.2.2.2.2.2.2.2.2.2.1
theorem dL_law_717 : decode cL_law 717 = .ok (.iaload, 1) := dq_g534.2.2.2.2.2.2.2.2.2.2.2.2.2.2.2.2.2.2.2.2.2.2.2.1
theorem dL_law_718 : decode cL_law 718 = .ok (.aload_n 0, 1) := dq_g534.2.2.2.2.2.2.2.2.2.2.2.2.2.2.2.2.2.2.2.2.2.2.2.2.1
theorem dL_law_719 : decode cL_law 719 = .ok (.iload_n 3, 1) := dq_g534.2.2.2.2.2.2.2.2.2.2.2.2.2.2.2.2.2.2.2.2.2.2.2.2.2.1
theorem dL_law_720 : decode cL_law 720 = .ok (.iconst 3, 1) := dq_g534.2.2.2.2.2.2.2.2.2.2.2.2.2.2.2.2.2.2.2.2.2.2.2.2.2.2.1
theorem dL_law_721 : decode cL_law 721 = .ok (.iadd, 1) := dq_g534.2.2.2.2.2.2.2.2.2.2.2.2.2.2.2.2.2.2.2.2.2.2.2.2.2.2.2.1
theorem dL_law_722 : decode cL_law 722 = .ok (.iaload, 1) := dq_g534.2.2.2.2.2.2.2.2.2.2.2.2.2.2.2.2.2.2.2.2.2.2.2.2.2.2.2.2.1
theorem dL_law_723 : decode cL_law 723 = .ok (.invokevirtual 72, 3) := dq_g534.2.2.2.2.2.2.2.2.2.2.2.2.2.2.2.2.2.2.2.2.2.2.2.2.2.2.2.2.2.1
theorem dq_g535 : decode cL_law 726 = .ok (.pop, 1) ∧ decode cL_law 727 = .ok (.aload_n 2, 1) ∧ decode cL_law 728 = .ok (.aload_n 0, 1) ∧ decode cL_law 729 = .ok (.iload_n 3, 1) ∧ decode cL_law 730 = .ok (.iconst 1, 1) ∧ decode cL_law 731 = .ok (.iadd, 1) ∧ decode cL_law 732 = .ok (.iaload, 1) ∧ decode cL_law 733 = .ok (.aload_n 0, 1) ∧ decode cL_law 734 = .ok (.iload_n 3, 1) ∧ decode cL_law 735 = .ok (.iconst 2, 1) ∧ decode cL_law 736 = .ok (.iadd, 1) ∧ decode cL_law 737 = .ok (.iaload, 1) ∧ decode cL_law 738 = .ok (.aload_n 0, 1) ∧ decode cL_law 739 = .ok (.iload_n 3, 1) ∧ decode cL_law 740 = .ok (.iconst 3, 1) ∧ decode cL_law 741 = .ok (.iadd, 1) ∧ decode cL_law 742 = .ok (.iaload, 1) ∧ decode cL_law 743 = .ok (.invokevirtual 75, 3) ∧ decode cL_law 746 = .ok (.pop, 1) ∧ decode cL_law 747 = .ok (.goto 762, 3) ∧ decode cL_law 750 = .ok (.aload_n 1, 1) ∧ decode cL_law 751 = .ok (.aload_n 0, 1) ∧ decode cL_law 752 = .ok (.iload_n 3, 1) ∧ decode cL_law 753 = .ok (.iconst 1, 1) ∧ decode cL_law 754 = .ok (.iadd, 1) ∧ decode cL_law 755 = .ok (.iaload, 1) ∧ decode cL_law 756 = .ok (.invokevirtual 76, 3) ∧ decode cL_law 759 = .ok (.pop, 1) ∧ decode cL_law 760 = .ok (.aload_n 2, 1) ∧ decode cL_law 761 = .ok (.aload_n 0, 1) ∧ True := dqC_ok (c := cL_law) [(726, 1, some (.pop)), (727, 1, some (.aload_n 2)), (728, 1, some (.aload_n 0)), (729, 1, some (.iload_n 3)), (730, 1, some (.iconst 1)), (731, 1, some (.iadd)), (732, 1, some (.iaload)), (733, 1, some (.aload_n 0)), (734, 1, some (.iload_n 3)), (735, 1, some (.iconst 2)), (736, 1, some (.iadd)), (737, 1, some (.iaload)), (738, 1, some (.aload_n 0)), (739, 1, some (.iload_n 3)), (740, 1, some (.iconst 3)), (741, 1, some (.iadd)), (742, 1, some (.iaload)), (743, 3, some (.invokevirtual 75)), (746, 1, some (.pop)), (747, 3, some (.goto 762)), (750, 1, some (.aload_n 1)), (751, 1, some (.aload_n 0)), (752, 1, some (.iload_n 3)), (753, 1, some (.iconst 1)), (754, 1, some (.iadd)), (755, 1, some (.iaload)), (756, 3, some (.invokevirtual 76)), (759, 1, some (.pop)), (760, 1, some (.aload_n 2)), (761, 1, some (.aload_n 0))] _ 726 rfl (by decide +kernel)
theorem dL_law_726 : decode cL_law 726 = .ok (.pop, 1) := dq_g535.1
theorem dL_law_727 : decode cL_law 727 = .ok (.aload_n 2, 1) := dq_g535.2.1
theorem dL_law_728 : decode cL_law 728 = .ok (.aload_n 0, 1) := dq_g535.2.2.1
theorem dL_law_729 : decode cL_law 729 = .ok (.iload_n 3, 1) := dq_g535.2.2.2.1
theorem dL_law_730 : decode cL_law 730 = .ok (.iconst 1, 1) := dq_g535.2.2.2.2.1
theorem dL_law_731 : decode cL_law 731 = .ok (.iadd, 1) := dq_g535.2.2.2.2.2.1
theorem dL_law_732 : decode cL_law 732 = .ok (.iaload, 1) := dq_g535.2.2.2.2.2.2.1
theorem dL_law_733 : decode cL_law 733 = .ok (.aload_n 0, 1) := dq_g535.2.2.2.2.2.2.2.1
theorem dL_law_734 : decode cL_law 734 = .ok (.iload_n 3, 1) := dq_g535.2.2.2.2.2.2.2.2.1
theorem dL_law_735 : decode cL_law 735 = .ok (.iconst 2, 1) := dq_g535.2.2.2.2.2.2.2.2.2.1
theorem dL_law_736 : decode cL_law 736 = .ok (.iadd, 1) := dq_g535.2.2.2.2.2.2.2.2.2.2.1
theorem dL_law_737 : decode cL_law 737 = .ok (.iaload, 1) := dq_g535.2.2.2.2.2.2.2.2.2.2.2.1
theorem dL_law_738 : decode cL_law 738 = .ok (.aload_n 0, 1) := dq_g535.2.2.2.2.2.2.2.2.2.2.2.2.1
theorem dL_law_739 : decode cL_law 739 = .ok (.iload_n 3, 1) := dq_g535.2.2.2.2.2.2.2.2.2.2.2.2.2.1
theorem dL_law_740 : decode cL_law 740 = .ok (.iconst 3, 1) := dq_g535.2.2.2.2.2.2.2.2.2.2.2.2.2.2.1
theorem dL_law_741 : decode cL_law 741 = .ok (.iadd, 1) := dq_g535.2.2.2.2.2.2.2.2.2.2.2.2.2.2.2.1
theorem dL_law_742 : decode cL_law 742 = .ok (.iaload, 1) := dq_g535.2.2.2.2.2.2.2.2.2.2.2.2.2.2.2.2.1
theorem dL_law_743 : decode cL_law 743 = .ok (.invokevirtual 75, 3) := dq_g535.2.2.2.2.2.2.2.2.2.2.2.2.2.2.2.2.2.1
theorem dL_law_746 : decode cL_law 746 = .ok (.pop, 1) := dq_g535.2.2.2.2.2.2.2.2.2.2.2.2.2.2.2.2.2.2.1
theorem dL_law_747 : decode cL_law 747 = .ok (.goto 762, 3) := dq_g535.2.2.2.2.2.2.2.2.2.2.2.2.2.2.2.2.2.2.2.1
theorem dL_law_750 : decode cL_law 750 = .ok (.aload_n 1, 1) := dq_g535.2.2.2.2.2.2.2.2.2.2.2.2.2.2.2.2.2.2.2.2.1
theorem dL_law_751 : decode cL_law 751 = .ok (.aload_n 0, 1) := dq_g535.2.2.2.2.2.2.2.2.2.2.2.2.2.2.2.2.2.2.2.2.2.1
theorem dL_law_752 : decode cL_law 752 = .ok (.iload_n 3, 1) := dq_g535.2.2.2.2.2.2.2.2.2.2.2.2.2.2.2.2.2.2.2.2.2.2.1
theorem dL_law_753 : decode cL_law 753 = .ok (.iconst 1, 1) := dq_g535.2.2.2.2.2.2.2.2.2.2.2.2.2.2.2.2.2.2.2.2.2.2.2.1
theorem dL_law_754 : decode cL_law 754 = .ok (.iadd, 1) := dq_g535.2.2.2.2.2.2.2.2.2.2.2.2.2.2.2.2.2.2.2.2.2.2.2.2.1
theorem dL_law_755 : decode cL_law 755 = .ok (.iaload, 1) := dq_g535.2.2.2.2.2.2.2.2.2.2.2.2.2.2.2.2.2.2.2.2.2.2.2.2.2.1
theorem dL_law_756 : decode cL_law 756 = .ok (.invokevirtual 76, 3) := dq_g535.2.2.2.2.2.2.2.2.2.2.2.2.2.2.2.2.2.2.2.2.2.2.2.2.2.2.1
theorem dL_law_759 : decode cL_law 759 = .ok (.pop, 1) := dq_g535.2.2.2.2.2.2.2.2.2.2.2.2.2.2.2.2.2.2.2.2.2.2.2.2.2.2.2.1
theorem dL_law_760 : decode cL_law 760 = .ok (.aload_n 2, 1) := dq_g535.2.2.2.2.2.2.2.2.2.2.2.2.2.2.2.2.2.2.2.2.2.2.2.2.2.2.2.2.1
theorem dL_law_761 : decode cL_law 761 = .ok (.aload_n 0, 1) := dq_g535.2.2.2.2.2.2.2.2.2.2.2.2.2.2.2.2.2.2.2.2.2.2.2.2.2.2.2.2.2.1
theorem dq_g536 : decode cL_law 762 = .ok (.iload_n 3, 1) ∧ decode cL_law 763 = .ok (.iconst 1, 1) ∧ decode cL_law 764 = .ok (.iadd, 1) ∧ decode cL_law 765 = .ok (.iaload, 1) ∧ decode cL_law 766 = .ok (.invokevirtual 79, 3) ∧ decode cL_law 769 = .ok (.pop, 1) ∧ decode cL_law 770 = .ok (.goto 739, 3) ∧ decode cL_law 773 = .ok (.aload_n 1, 1) ∧ decode cL_law 774 = .ok (.aload_n 0, 1) ∧ decode cL_law 775 = .ok (.iload_n 3, 1) ∧ decode cL_law 776 = .ok (.iconst 1, 1) ∧ decode cL_law 777 = .ok (.iadd, 1) ∧ decode cL_law 778 = .ok (.iaload, 1) ∧ decode cL_law 779 = .ok (.aload_n 0, 1) ∧ decode cL_law 780 = .ok (.iload_n 3, 1) ∧ decode cL_law 781 = .ok (.iconst 2, 1) ∧ decode cL_law 782 = .ok (.iadd, 1) ∧ decode cL_law 783 = .ok (.iaload, 1) ∧ decode cL_law 784 = .ok (.invokevirtual 80, 3) ∧ decode cL_law 787 = .ok (.pop, 1) ∧ decode cL_law 788 = .ok (.aload_n 2, 1) ∧ decode cL_law 789 = .ok (.aload_n 0, 1) ∧ decode cL_law 790 = .ok (.iload_n 3, 1) ∧ decode cL_law 791 = .ok (.iconst 1, 1) ∧ decode cL_law 792 = .ok (.iadd, 1) ∧ decode cL_law 793 = .ok (.iaload, 1) ∧ decode cL_law 794 = .ok (.aload_n 0, 1) ∧ decode cL_law 795 = .ok (.iload_n 3, 1) ∧ decode cL_law 796 = .ok (.iconst 2, 1) ∧ decode cL_law 797 = .ok (.iadd, 1) ∧ True := dqC_ok (c := cL_law) [(762, 1, some (.iload_n 3)), (763, 1, some (.iconst 1)), (764, 1, some (.iadd)), (765, 1, some (.iaload)), (766, 3, some (.invokevirtual 79)), (769, 1, some (.pop)), (770, 3, some (.goto 739)), (773, 1, some (.aload_n 1)), (774, 1, some (.aload_n 0)), (775, 1, some (.iload_n 3)), (776, 1, some (.iconst 1)), (777, 1, some (.iadd)), (778, 1, some (.iaload)), (779, 1, some (.aload_n 0)), (780, 1, some (.iload_n 3)), (781, 1, some (.iconst 2)), (782, 1, some (.iadd)), (783, 1, some (.iaload)), (784, 3, some (.invokevirtual 80)), (787, 1, some (.pop)), (788, 1, some (.aload_n 2)), (789, 1, some (.aload_n 0)), (790, 1, some (.iload_n 3)), (791, 1, some (.iconst 1)), (792, 1, some (.iadd)), (793, 1, some (.iaload)), (794, 1, some (.aload_n 0)), (795, 1, some (.iload_n 3)), (796, 1, some (.iconst 2)), (797, 1, some (.iadd))] _ 762 rfl (by decide +kernel)
theorem dL_law_762 : decode cL_law 762 = .ok (.iload_n 3, 1) := dq_g536.1
theorem dL_law_763 : decode cL_law 763 = .ok (.iconst 1, 1) := dq_g536.2.1
theorem dL_law_764 : decode cL_law 764 = .ok (.iadd, 1) := dq_g536.2.2.1
theorem dL_law_765 : decode cL_law 765 = .ok (.iaload, 1) := dq_g536.2.2.2.1
theorem dL_law_766 : decode cL_law 766 = .ok (.invokevirtual 79, 3) := dq_g536.2.2.2.2.1
theorem dL_law_769 : decode cL_law 769 = .ok (.pop, 1) := dq_g536.2.2.2.2.2.1
theorem dL_law_770 : decode cL_law 770 = .ok (.goto 739, 3) := dq_g536.2.2.2.2.2.2.1
theorem dL_law_773 : decode cL_law 773 = .ok (.aload_n 1, 1) := dq_g536.2.2.2.2.2.2.2.1
theorem dL_law_774 : decode cL_law 774 = .ok (.aload_n 0, 1) := dq_g536.2.2.2.2.2.2.2.2.1
theorem dL_law_775 : decode cL_law 775 = .ok (.iload_n 3, 1) := dq_g536.2.2.2.2.2.2.2.2.2.1
theorem dL_law_776 : decode cL_law 776 = .ok (.iconst 1, 1) := dq_g536.2.2.2.2.2.2.2.2.2.2.1
theorem dL_law_777 : decode cL_law 777 = .ok (.iadd, 1) := dq_g536.2.2.2.2.2.2.2.2.2.2.2.1
theorem dL_law_778 : decode cL_law 778 = .ok (.iaload, 1) := dq_g536.2.2.2.2.2.2.2.2.2.2.2.2.1
theorem dL_law_779 : decode cL_law 779 = .ok (.aload_n 0, 1) := dq_g536.2.2.2.2.2.2.2.2.2.2.2.2.2.1
theorem dL_law_780 : decode cL_law 780 = .ok (.iload_n 3, 1) := dq_g536.2.2.2.2.2.2.2.2.2.2.2.2.2.2.1
theorem dL_law_781 : decode cL_law 781 = .ok (.iconst 2, 1) := dq_g536.2.2.2.2.2.2.2.2.2.2.2.2.2.2.2.1
theorem dL_law_782 : decode cL_law 782 = .ok (.iadd, 1) := dq_g536.2.2.2.2.2.2.2.2.2.2.2.2.2.2.2.2.1
theorem dL_law_783 : decode cL_law 783 = .ok (.iaload, 1) := dq_g536.2.2.2.2.2.2.2.2.2.2.2.2.2.2.2.2.2.1
theorem dL_law_784 : decode cL_law 784 = .ok (.invokevirtual 80, 3) := dq_g536.2.2.2.2.2.2.2.2.2.2.2.2.2.2.2.2.2.2.1
theorem dL_law_787 : decode cL_law 787 = .ok (.pop, 1) := dq_g536.2.2.2.2.2.2.2.2.2.2.2.2.2.2.2.2.2.2.2.1
theorem dL_law_788 : decode cL_law 788 = .ok (.aload_n 2, 1) := dq_g536.2.2.2.2.2.2.2.2.2.2.2.2.2.2.2.2.2.2.2.2.1
theorem dL_law_789 : decode cL_law 789 = .ok (.aload_n 0, 1) := dq_g536.2.2.2.2.2.2.2.2.2.2.2.2.2.2.2.2.2.2.2.2.2.1
theorem dL_law_790 : decode cL_law 790 = .ok (.iload_n 3, 1) := dq_g536.2.2.2.2.2.2.2.2.2.2.2.2.2.2.2.2.2.2.2.2.2.2.1
theorem dL_law_791 : decode cL_law 791 = .ok (.iconst 1, 1) := dq_g536.2.2.2.2.2.2.2.2.2.2.2.2.2.2.2.2.2.2.2.2.2.2.2.1
theorem dL_law_792 : decode cL_law 792 = .ok (.iadd, 1) := dq_g536.2.2.2.2.2.2.2.2.2.2.2.2.2.2.2.2.2.2.2.2.2.2.2.2.1
theorem dL_law_793 : decode cL_law 793 = .ok (.iaload, 1) := dq_g536.2.2.2.2.2.2.2.2.2.2.2.2.2.2.2.2.2.2.2.2.2.2.2.2.2.1
theorem dL_law_794 : decode cL_law 794 = .ok (.aload_n 0, 1) := dq_g536.2.2.2.2.2.2.2.2.2.2.2.2.2.2.2.2.2.2.2.2.2.2.2.2.2.2.1
theorem dL_law_795 : decode cL_law 795 = .ok (.iload_n 3, 1) := dq_g536.2.2.2.2.2.2.2.2.2.2.2.2.2.2.2.2.2.2.2.2.2.2.2.2.2.2.2.1
theorem dL_law_796 : decode cL_law 796 = .ok (.iconst 2, 1) := dq_g536.2.2.2.2.2.2.2.2.2.2.2.2.2.2.2.2.2.2.2.2.2.2.2.2.2.2.2.2.1
theorem dL_law_797 : decode cL_law 797 = .ok (.iadd, 1) := dq_g536.2.2.2.2.2.2.2.2.2.2.2.2.2.2.2.2.2.2.2.2.2.2.2.2.2.2.2.2.2.1
theorem dq_g537 : decode cL_law 798 = .ok (.iaload, 1) ∧ decode cL_law 799 = .ok (.invokevirtual 83, 3) ∧ decode cL_law 802 = .ok (.pop, 1) ∧ decode cL_law 803 = .ok (.goto 706, 3) ∧ decode cL_law 806 = .ok (.aload_n 1, 1) ∧ decode cL_law 807 = .ok (.aload_n 0, 1) ∧ decode cL_law 808 = .ok (.iload_n 3, 1) ∧ decode cL_law 809 = .ok (.iconst 1, 1) ∧ decode cL_law 810 = .ok (.iadd, 1) ∧ decode cL_law 811 = .ok (.iaload, 1) ∧ decode cL_law 812 = .ok (.aload_n 0, 1) ∧ decode cL_law 813 = .ok (.iload_n 3, 1) ∧ decode cL_law 814 = .ok (.iconst 2, 1) ∧ decode cL_law 815 = .ok (.iadd, 1) ∧ decode cL_law 816 = .ok (.iaload, 1) ∧ decode cL_law 817 = .ok (.aload_n 0, 1) ∧ decode cL_law 818 = .ok (.iload_n 3, 1) ∧ decode cL_law 819 = .ok (.iconst 3, 1) ∧ decode cL_law 820 = .ok (.iadd, 1) ∧ decode cL_law 821 = .ok (.iaload, 1) ∧ decode cL_law 822 = .ok (.invokevirtual 84, 3) ∧ decode cL_law 825 = .ok (.pop, 1) ∧ decode cL_law 826 = .ok (.aload_n 2, 1) ∧ decode cL_law 827 = .ok (.aload_n 0, 1) ∧ decode cL_law 828 = .ok (.iload_n 3, 1) ∧ decode cL_law 829 = .ok (.iconst 1, 1) ∧ decode cL_law 830 = .ok (.iadd, 1) ∧ decode cL_law 831 = .ok (.iaload, 1) ∧ decode cL_law 832 = .ok (.aload_n 0, 1) ∧ decode cL_law 833 = .ok (.iload_n 3, 1) ∧ True := dqC_ok (c := cL_law) [(798, 1, some (.iaload)), (799, 3, some (.invokevirtual 83)), (802, 1, some (.pop)), (803, 3, some (.goto 706)), (806, 1, some (.aload_n 1)), (807, 1, some (.aload_n 0)), (808, 1, some (.iload_n 3)), (809, 1, some (.iconst 1)), (810, 1, some (.iadd)), (811, 1, some (.iaload)), (812, 1, some (.aload_n 0)), (813, 1, some (.iload_n 3)), (814, 1, some (.iconst 2)), (815, 1, some (.iadd)), (816, 1, some (.iaload)), (817, 1, some (.aload_n 0)), (818, 1, some (.iload_n 3)), (819, 1, some (.iconst 3)), (820, 1, some (.iadd)), (821, 1, some (.iaload)), (822, 3, some (.invokevirtual 84)), (825, 1, some (.pop)), (826, 1, some (.aload_n 2)), (827, 1, some (.aload_n 0)), (828, 1, some (.iload_n 3)), (829, 1, some (.iconst 1)), (830, 1, some (.iadd)), (831, 1, some (.iaload)), (832, 1, some (.aload_n 0)), (833, 1, some (.iload_n 3))] _ 798 rfl (by decide +kernel)
theorem dL_law_798 : decode cL_law 798 = .ok (.iaload, 1) := dq_g537.1
theorem dL_law_799 : decode cL_law 799 = .ok (.invokevirtual 83, 3) := dq_g537.2.1
theorem dL_law_802 : decode cL_law 802 = .ok (.pop, 1) := dq_g537.2.2.1
theorem dL_law_803 : decode cL_law 803 = .ok (.goto 706, 3) := dq_g537.2.2.2.1
theorem dL_law_806 : decode cL_law 806 = .ok (.aload_n 1, 1) := dq_g537.2.2.2.2.1
theorem dL_law_807 : decode cL_law 807 = .ok (.aload_n 0, 1) := dq_g537.2.2.2.2.2.1
theorem dL_law_808 : decode cL_law 808 = .ok (.iload_n 3, 1) := dq_g537.2.2.2.2.2.2.1
theorem dL_law_809 : decode cL_law 809 = .ok (.iconst 1, 1) := dq_g537.2.2.2.2.2.2.2.1
theorem dL_law_810 : decode cL_law 810 = .ok (.iadd, 1) := dq_g537.2.2.2.2.2.2.2.2.1
theorem dL_law_811 : decode cL_law 811 = .ok (.iaload, 1) := dq_g537.2.2.2.2.2.2.2.2.2.1
theorem dL_law_812 : decode cL_law 812 = .ok (.aload_n 0, 1) := dq_g537.2.2.2.2.2.2.2.2.2.2.1
theorem dL_law_813 : decode cL_law 813 = .ok (.iload_n 3, 1) := dq_g537.2.2.2.2.2.2.2.2.2.2.2.1
theorem dL_law_814 : decode cL_law 814 = .ok (.iconst 2, 1) := dq_g537.2.2.2.2.2.2.2.2.2.2.2.2.1
theorem dL_law_815 : decode cL_law 815 = .ok (.iadd, 1) := dq_g537.2.2.2.2.2.2.2.2.2.2.2.2.2.1
theorem dL_law_816 : decode cL_law 816 = .ok (.iaload, 1) := dq_g537.2.2.2.2.2.2.2.2.2.2.2.2.2.2.1
theorem dL_law_817 : decode cL_law 817 = .ok (.aload_n 0, 1) := dq_g537.2.2.2.2.2.2.2.2.2.2.2.2.2.2.2.1
theorem dL_law_818 : decode cL_law 818 = .ok (.iload_n 3, 1) := dq_g537.2.2.2.2.2.2.2.2.2.2.2.2.2.2.2.2.1
theorem dL_law_819 : decode cL_law 819 = .ok (.iconst 3, 1) := dq_g537.2.2.2.2.2.2.2.2.2.2.2.2.2.2.2.2.2.1
theorem dL_law_820 : decode cL_law 820 = .ok (.iadd, 1) := dq_g537.2.2.2.2.2.2.2.2.2.2.2.2.2.2.2.2.2.2.1
theorem dL_law_821 : decode cL_law 821 = .ok (.iaload, 1) := dq_g537.2.2.2.2.2.2.2.2.2.2.2.2.2.2.2.2.2.2.2.1
theorem dL_law_822 : decode cL_law 822 = .ok (.invokevirtual 84, 3) := dq_g537.2.2.2.2.2.2.2.2.2.2.2.2.2.2.2.2.2.2.2.2.1
theorem dL_law_825 : decode cL_law 825 = .ok (.pop, 1) := dq_g537.2.2.2.2.2.2.2.2.2.2.2.2.2.2.2.2.2.2.2.2.2.1
theorem dL_law_826 : decode cL_law 826 = .ok (.aload_n 2, 1) := dq_g537.2.2.2.2.2.2.2.2.2.2.2.2.2.2.2.2.2.2.2.2.2.2.1
theorem dL_law_827 : decode cL_law 827 = .ok (.aload_n 0, 1) := dq_g537.2.2.2.2.2.2.2.2.2.2.2.2.2.2.2.2.2.2.2.2.2.2.2.1
theorem dL_law_828 : decode cL_law 828 = .ok (.iload_n 3, 1) := dq_g537.2.2.2.2.2.2.2.2.2.2.2.2.2.2.2.2.2.2.2.2.2.2.2.2.1
theorem dL_law_829 : decode cL_law 829 = .ok (.iconst 1, 1) := dq_g537.2.2.2.2.2.2.2.2.2.2.2.2.2.2.2.2.2.2.2.2.2.2.2.2.2.1
theorem dL_law_830 : decode cL_law 830 = .ok (.iadd, 1) := dq_g537.2.2.2.2.2.2.2.2.2.2.2.2.2.2.2.2.2.2.2.2.2.2.2.2.2.2.1
theorem dL_law_831 : decode cL_law 831 = .ok (.iaload, 1) := dq_g537.2.2.2.2.2.2.2.2.2.2.2.2.2.2.2.2.2.2.2.2.2.2.2.2.2.2.2.1
theorem dL_law_832 : decode cL_law 832 = .ok (.aload_n 0, 1) := dq_g537.2.2.2.2.2.2.2.2.2.2.2.2.2.2.2.2.2.2.2.2.2.2.2.2.2.2.2.2.1
theorem dL_law_833 : decode cL_law 833 = .ok (.iload_n 3, 1) := dq_g537.2.2.2.2.2.2.2.2.2.2.2.2.2.2.2.2.2.2.2.2.2.2.2.2.2.2.2.2.2.1
theorem dq_g538 : decode cL_law 834 = .ok (.iconst 2, 1) ∧ decode cL_law 835 = .ok (.iadd, 1) ∧ decode cL_law 836 = .ok (.iaload, 1) ∧ decode cL_law 837 = .ok (.aload_n 0, 1) ∧ decode cL_law 838 = .ok (.iload_n 3, 1) ∧ decode cL_law 839 = .ok (.iconst 3, 1) ∧ decode cL_law 840 = .ok (.iadd, 1) ∧ decode cL_law 841 = .ok (.iaload, 1) ∧ decode cL_law 842 = .ok (.invokevirtual 87, 3) ∧ decode cL_law 845 = .ok (.pop, 1) ∧ decode cL_law 846 = .ok (.goto 663, 3) ∧ decode cL_law 849 = .ok (.aload_n 1, 1) ∧ decode cL_law 850 = .ok (.aload_n 0, 1) ∧ decode cL_law 851 = .ok (.iload_n 3, 1) ∧ decode cL_law 852 = .ok (.iconst 1, 1) ∧ decode cL_law 853 = .ok (.iadd, 1) ∧ decode cL_law 854 = .ok (.iaload, 1) ∧ decode cL_law 855 = .ok (.aload_n 0, 1) ∧ decode cL_law 856 = .ok (.iload_n 3, 1) ∧ decode cL_law 857 = .ok (.iconst 2, 1) ∧ decode cL_law 858 = .ok (.iadd, 1) ∧ decode cL_law 859 = .ok (.iaload, 1) ∧ decode cL_law 860 = .ok (.invokevirtual 88, 3) ∧ decode cL_law 863 = .ok (.pop, 1) ∧ decode cL_law 864 = .ok (.aload_n 2, 1) ∧ decode cL_law 865 = .ok (.aload_n 0, 1) ∧ decode cL_law 866 = .ok (.iload_n 3, 1) ∧ decode cL_law 867 = .ok (.iconst 1, 1) ∧ decode cL_law 868 = .ok (.iadd, 1) ∧ decode cL_law 869 = .ok (.iaload, 1) ∧ True := dqC_ok (c := cL_law) [(834, 1, some (.iconst 2)), (835, 1, some (.iadd)), (836, 1, some (.iaload)), (837, 1, some (.aload_n 0)), (838, 1, some (.iload_n 3)), (839, 1, some (.iconst 3)), (840, 1, some (.iadd)), (841, 1, some (.iaload)), (842, 3, some (.invokevirtual 87)), (845, 1, some (.pop)), (846, 3, some (.goto 663)), (849, 1, some (.aload_n 1)), (850, 1, some (.aload_n 0)), (851, 1, some (.iload_n 3)), (852, 1, some (.iconst 1)), (853, 1, some (.iadd)), (854, 1, some (.iaload)), (855, 1, some (.aload_n 0)), (856, 1, some (.iload_n 3)), (857, 1, some (.iconst 2)), (858, 1, some (.iadd)), (859, 1, some (.iaload)), (860, 3, some (.invokevirtual 88)), (863, 1, some (.pop)), (864, 1, some (.aload_n 2)), (865, 1, some (.aload_n 0)), (866, 1, some (.iload_n 3)), (867, 1, some (.iconst 1)), (868, 1, some (.iadd)), (869, 1, some (.iaload))] _ 834 rfl (by decide +kernel)
theorem dL_law_834 : decode cL_law 834 = .ok (.iconst 2, 1) := dq_g538.1
theorem dL_law_835 : decode cL_law 835 = .ok (.iadd, 1) := dq_g538.2.1
theorem dL_law_836 : decode cL_law 836 = .ok (.iaload, 1) := dq_g538.2.2.1
theorem dL_law_837 : decode cL_law 837 = .ok (.aload_n 0, 1) := dq_g538.2.2.2.1
theorem dL_law_838 : decode cL_law 838 = .ok (.iload_n 3, 1) := dq_g538.2.2.2.2.1
theorem dL_law_839 : decode cL_law 839 = .ok (.iconst 3, 1) := dq_g538.2.2.2.2.2.1
theorem dL_law_840 : decode cL_law 840 = .ok (.iadd, 1) := dq_g538.2.2.2.2.2.2.1
theorem dL_law_841 : decode cL_law 841 = .ok (.iaload, 1) := dq_g538.2.2.2.2.2.2.2.1
theorem dL_law_842 : decode cL_law 842 = .ok (.invokevirtual 87, 3) := dq_g538.2.2.2.2.2.2.2.2.1
theorem dL_law_845 : decode cL_law 845 = .ok (.pop, 1) := dq_g538.2.2.2.2.2.2.2.2.2.1
theorem dL_law_846 : decode cL_law 846 = .ok (.goto 663, 3) := dq_g538.2.2.2.2.2.2.2.2.2.2.1
theorem dL_law_849 : decode cL_law 849 = .ok (.aload_n 1, 1) := dq_g538.2.2.2.2.2.2.2.2.2.2.2.1
theorem dL_law_850 : decode cL_law 850 = .ok (.aload_n 0, 1) := dq_g538.2.2.2.2.2.2.2.2.2.2.2.2.1
theorem dL_law_851 : decode cL_law 851 = .ok (.iload_n 3, 1) := dq_g538.2.2.2.2.2.2.2.2.2.2.2.2.2.1
theorem dL_law_852 : decode cL_law 852 = .ok (.iconst 1, 1) := dq_g538.2.2.2.2.2.2.2.2.2.2.2.2.2.2.1
theorem dL_law_853 : decode cL_law 853 = .ok (.iadd, 1) := dq_g538.2.2.2.2.2.2.2.2.2.2.2.2.2.2.2.1
theorem dL_law_854 : decode cL_law 854 = .ok (.iaload, 1) := dq_g538.2.2.2.2.2.2.2.2.2.2.2.2.2.2.2.2.1
theorem dL_law_855 : decode cL_law 855 = .ok (.aload_n 0, 1) := dq_g538.2.2.2.2.2.2.2.2.2.2.2.2.2.2.2.2.2.1
theorem dL_law_856 : decode cL_law 856 = .ok (.iload_n 3, 1) := dq_g538.2.2.2.2.2.2.2.2.2.2.2.2.2.2.2.2.2.2.1
theorem dL_law_857 : decode cL_law 857 = .ok (.iconst 2, 1) := dq_g538.2.2.2.2.2.2.2.2.2.2.2.2.2.2.2.2.2.2.2.1
theorem dL_law_858 : decode cL_law 858 = .ok (.iadd, 1) := dq_g538.2.2.2.2.2.2.2.2.2.2.2.2.2.2.2.2.2.2.2.2.1
theorem dL_law_859 : decode cL_law 859 = .ok (.iaload, 1) := dq_g538.2.2.2.2.2.2.2.2.2.2.2.2.2.2.2.2.2.2.2.2.2.1
theorem dL_law_860 : decode cL_law 860 = .ok (.invokevirtual 88, 3) := dq_g538.2.2.2.2.2.2.2.2.2.2.2.2.2.2.2.2.2.2.2.2.2.2.1
theorem dL_law_863 : decode cL_law 863 = .ok (.pop, 1) := dq_g538.2.2.2.2.2.2.2.2.2.2.2.2.2.2.2.2.2.2.2.2.2.2.2.1
theorem dL_law_864 : decode cL_law 864 = .ok (.aload_n 2, 1) := dq_g538.2.2.2.2.2.2.2.2.2.2.2.2.2.2.2.2.2.2.2.2.2.2.2.2.1
theorem dL_law_865 : decode cL_law 865 = .ok (.aload_n 0, 1) := dq_g538.2.2.2.2.2.2.2.2.2.2.2.2.2.2.2.2.2.2.2.2.2.2.2.2.2.1
theorem dL_law_866 : decode cL_law 866 = .ok (.iload_n 3, 1) := dq_g538.2.2.2.2.2.2.2.2.2.2.2.2.2.2.2.2.2.2.2.2.2.2.2.2.2.2.1
theorem dL_law_867 : decode cL_law 867 = .ok (.iconst 1, 1) := dq_g538.2.2.2.2.2.2.2.2.2.2.2.2.2.2.2.2.2.2.2.2.2.2.2.2.2.2.2.1
theorem dL_law_868 : decode cL_law 868 = .ok (.iadd, 1) := dq_g538.2.2.2.2.2.2.2.2.2.2.2.2.2.2.2.2.2.2.2.2.2.2.2.2.2.2.2.2.1
theorem dL_law_869 : decode cL_law 869 = .ok (.iaload, 1) := dq_g538.2.2.2.2.2.2.2.2.2.2.2.2.2.2.2.2.2.2.2.2.2.2.2.2.2.2.2.2.2.1
theorem dq_g539 : decode cL_law 870 = .ok (.aload_n 0, 1) ∧ decode cL_law 871 = .ok (.iload_n 3, 1) ∧ decode cL_law 872 = .ok (.iconst 2, 1) ∧ decode cL_law 873 = .ok (.iadd, 1) ∧ decode cL_law 874 = .ok (.iaload, 1) ∧ decode cL_law 875 = .ok (.invokevirtual 91, 3) ∧ decode cL_law 878 = .ok (.pop, 1) ∧ decode cL_law 879 = .ok (.goto 630, 3) ∧ decode cL_law 882 = .ok (.aload_n 1, 1) ∧ decode cL_law 883 = .ok (.aload_n 0, 1) ∧ decode cL_law 884 = .ok (.iload_n 3, 1) ∧ decode cL_law 885 = .ok (.iconst 1, 1) ∧ decode cL_law 886 = .ok (.iadd, 1) ∧ decode cL_law 887 = .ok (.iaload, 1) ∧ decode cL_law 888 = .ok (.aload_n 0, 1) ∧ decode cL_law 889 = .ok (.iload_n 3, 1) ∧ decode cL_law 890 = .ok (.iconst 2, 1) ∧ decode cL_law 891 = .ok (.iadd, 1) ∧ decode cL_law 892 = .ok (.iaload, 1) ∧ decode cL_law 893 = .ok (.invokevirtual 92, 3) ∧ decode cL_law 896 = .ok (.pop, 1) ∧ decode cL_law 897 = .ok (.aload_n 2, 1) ∧ decode cL_law 898 = .ok (.aload_n 0, 1) ∧ decode cL_law 899 = .ok (.iload_n 3, 1) ∧ decode cL_law 900 = .ok (.iconst 1, 1) ∧ decode cL_law 901 = .ok (.iadd, 1) ∧ decode cL_law 902 = .ok (.iaload, 1) ∧ decode cL_law 903 = .ok (.aload_n 0, 1) ∧ decode cL_law 904 = .ok (.iload_n 3, 1) ∧ decode cL_law 905 = .ok (.iconst 2, 1) ∧ True := dqC_ok (c := cL_law) [(870, 1, some (.aload_n 0)), (871, 1, some (.iload_n 3)), (872, 1, some (.iconst 2)), (873, 1, some (.iadd)), (874, 1, some (.iaload)), (875, 3, some (.invokevirtual 91)), (878, 1, some (.pop)), (879, 3, some (.goto 630)), (882, 1, some (.aload_n 1)), (883, 1, some (.aload_n 0)), (884, 1, some (.iload_n 3)), (885, 1, some (.iconst 1)), (886, 1, some (.iadd)), (887, 1, some (.iaload)), (888, 1, some (.aload_n 0)), (889, 1, some (.iload_n 3)), (890, 1, some (.iconst 2)), (891, 1, some (.iadd)), (892, 1, some (.iaload)), (893, 3, some (.invokevirtual 92)), (896, 1, some (.pop)), (897, 1, some (.aload_n 2)), (898, 1, some (.aload_n 0)), (899, 1, some (.iload_n 3)), (900, 1, some (.iconst 1)), (901, 1, some (.iadd)), (902, 1, some (.iaload)), (903, 1, some (.aload_n 0)), (904, 1, some (.iload_n 3)), (905, 1, some (.iconst 2))] _ 870 rfl (by decide +kernel)
theorem dL_law_870 : decode cL_law 870 = .ok (.aload_n 0, 1) := dq_g539.1
theorem dL_law_871 : decode cL_law 871 = .ok (.iload_n 3, 1) := dq_g539.2.1
theorem dL_law_872 : decode cL_law 872 = .ok (.iconst 2, 1) := dq_g539.2.2.1
theorem dL_law_873 : decode cL_law 873 = .ok (.iadd, 1) := dq_g539.2.2.2.1
theorem dL_law_874 : decode cL_law 874 = .ok (.iaload, 1) := dq_g539.2.2.2.2.1
theorem dL_law_875 : decode cL_law 875 = .ok (.invokevirtual 91, 3) := dq_g539.2.2.2.2.2.1
theorem dL_law_878 : decode cL_law 878 = .ok (.pop, 1) := dq_g539.2.2.2.2.2.2.1
theorem dL_law_879 : decode cL_law 879 = .ok (.goto 630, 3) := dq_g539.2.2.2.2.2.2.2.1
theorem dL_law_882 : decode cL_law 882 = .ok (.aload_n 1, 1) := dq_g539.2.2.2.2.2.2.2.2.1
theorem dL_law_883 : decode cL_law 883 = .ok (.aload_n 0, 1) := dq_g539.2.2.2.2.2.2.2.2.2.1
theorem dL_law_884 : decode cL_law 884 = .ok (.iload_n 3, 1) := dq_g539.2.2.2.2.2.2.2.2.2.2.1
theorem dL_law_885 : decode cL_law 885 = .ok (.iconst 1, 1) := dq_g539.2.2.2.2.2.2.2.2.2.2.2.1
theorem dL_law_886 : decode cL_law 886 = .ok (.iadd, 1) := dq_g539.2.2.2.2.2.2.2.2.2.2.2.2.1
theorem dL_law_887 : decode cL_law 887 = .ok (.iaload, 1) := dq_g539.2.2.2.2.2.2.2.2.2.2.2.2.2.1
theorem dL_law_888 : decode cL_law 888 = .ok (.aload_n 0, 1) := dq_g539.2.2.2.2.2.2.2.2.2.2.2.2.2.2.1
theorem dL_law_889 : decode cL_law 889 = .ok (.iload_n 3, 1) := dq_g539.2.2.2.2.2.2.2.2.2.2.2.2.2.2.2.1
theorem dL_law_890 : decode cL_law 890 = .ok (.iconst 2, 1) := dq_g539.2.2.2.2.2.2.2.2.2.2.2.2.2.2.2.2.1
theorem dL_law_891 : decode cL_law 891 = .ok (.iadd, 1) := dq_g539.2.2.2.2.2.2.2.2.2.2.2.2.2.2.2.2.2.1
theorem dL_law_892 : decode cL_law 892 = .ok (.iaload, 1) := dq_g539.2.2.2.2.2.2.2.2.2.2.2.2.2.2.2.2.2.2.1
theorem dL_law_893 : decode cL_law 893 = .ok (.invokevirtual 92, 3) := dq_g539.2.2.2.2.2.2.2.2.2.2.2.2.2.2.2.2.2.2.2.1
theorem dL_law_896 : decode cL_law 896 = .ok (.pop, 1) := dq_g539.2.2.2.2.2.2.2.2.2.2.2.2.2.2.2.2.2.2.2.2.1
theorem dL_law_897 : decode cL_law 897 = .ok (.aload_n 2, 1) := dq_g539.2.2.2.2.2.2.2.2.2.2.2.2.2.2.2.2.2.2.2.2.2.1
theorem dL_law_898 : decode cL_law 898 = .ok (.aload_n 0, 1) := dq_g539.2.2.2.2.2.2.2.2.2.2.2.2.2.2.2.2.2.2.2.2.2.2.1
theorem dL_law_899 : decode cL_law 899 = .ok (.iload_n 3, 1) := dq_g539.2.2.2.2.2.2.2.2.2.2.2.2.2.2.2.2.2.2.2.2.2.2.2.1
theorem dL_law_900 : decode cL_law 900 = .ok (.iconst 1, 1) := dq_g539.2.2.2.2.2.2.2.2.2.2.2.2.2.2.2.2.2.2.2.2.2.2.2.2.1
theorem dL_law_901 : decode cL_law 901 = .ok (.iadd, 1) := dq_g539.2.2.2.2.2.2.2.2.2.2.2.2.2.2.2.2.2.2.2.2.2.2.2.2.2.1
theorem dL_law_902 : decode cL_law 902 = .ok (.iaload, 1) := dq_g539.2.2.2.2.2.2.2.2.2.2.2.2.2.2.2.2.2.2.2.2.2.2.2.2.2.2.1
theorem dL_law_903 : decode cL_law 903 = .ok (.aload_n 0, 1) := dq_g539.2.2.2.2.2.2.2.2.2.2.2.2.2.2.2.2.2.2.2.2.2.2.2.2.2.2.2.1
theorem dL_law_904 : decode cL_law 904 = .ok (.iload_n 3, 1) := dq_g539.2.2.2.2.2.2.2.2.2.2.2.2.2.2.2.2.2.2.2.2.2.2.2.2.2.2.2.2.1
theorem dL_law_905 : decode cL_law 905 = .ok (.iconst 2, 1) := dq_g539.2.2.2.2.2.2.2.2.2.2.2.2.2.2.2.2.2.2.2.2.2.2.2.2.2.2.2.2.2.1
theorem dq_g540 : decode cL_law 906 = .ok (.iadd, 1) ∧ decode cL_law 907 = .ok (.iaload, 1) ∧ decode cL_law 908 = .ok (.invokevirtual 95, 3) ∧ decode cL_law 911 = .ok (.pop, 1) ∧ decode cL_law 912 = .ok (.goto 597, 3) ∧ decode cL_law 915 = .ok (.aload_n 1, 1) ∧ decode cL_law 916 = .ok (.aload_n 0, 1) ∧ decode cL_law 917 = .ok (.iload_n 3, 1) ∧ decode cL_law 918 = .ok (.iconst 1, 1) ∧ decode cL_law 919 = .ok (.iadd, 1) ∧ decode cL_law 920 = .ok (.iaload, 1) ∧ decode cL_law 921 = .ok (.aload_n 0, 1) ∧ decode cL_law 922 = .ok (.iload_n 3, 1) ∧ decode cL_law 923 = .ok (.iconst 2, 1) ∧ decode cL_law 924 = .ok (.iadd, 1) ∧ decode cL_law 925 = .ok (.iaload, 1) ∧ decode cL_law 926 = .ok (.aload_n 0, 1) ∧ decode cL_law 927 = .ok (.iload_n 3, 1) ∧ decode cL_law 928 = .ok (.iconst 3, 1) ∧ decode cL_law 929 = .ok (.iadd, 1) ∧ decode cL_law 930 = .ok (.iaload, 1) ∧ decode cL_law 931 = .ok (.invokevirtual 96, 3) ∧ decode cL_law 934 = .ok (.pop, 1) ∧ decode cL_law 935 = .ok (.aload_n 2, 1) ∧ decode cL_law 936 = .ok (.aload_n 0, 1) ∧ decode cL_law 937 = .ok (.iload_n 3, 1) ∧ decode cL_law 938 = .ok (.iconst 1, 1) ∧ decode cL_law 939 = .ok (.iadd, 1) ∧ decode cL_law 940 = .ok (.iaload, 1) ∧ decode cL_law 941 = .ok (.aload_n 0, 1) ∧ True := dqC_ok (c := cL_law) [(906, 1, some (.iadd)), (907, 1, some (.iaload)), (908, 3, some (.invokevirtual 95)), (911, 1, some (.pop)), (912, 3, some (.goto 597)), (915, 1, some (.aload_n 1)), (916, 1, some (.aload_n 0)), (917, 1, some (.iload_n 3)), (918, 1, some (.iconst 1)), (919, 1, some (.iadd)), (920, 1, some (.iaload)), (921, 1, some (.aload_n 0)), (922, 1, some (.iload_n 3)), (923, 1, some (.iconst 2)), (924, 1, some (.iadd)), (925, 1, some (.iaload)), (926, 1, some (.aload_n 0)), (927, 1, some (.iload_n 3)), (928, 1, some (.iconst 3)), (929, 1, some (.iadd)), (930, 1, some (.iaload)), (931, 3, some (.invokevirtual 96)), (934, 1, some (.pop)), (935, 1, some (.aload_n 2)), (936, 1, some (.aload_n 0)), (937, 1, some (.iload_n 3)), (938, 1, some (.iconst 1)), (939, 1, some (.iadd)), (940, 1, some (.iaload)), (941, 1, some (.aload_n 0))] _ 906 rfl (by decide +kernel)
theorem dL_law_906 : decode cL_law 906 = .ok (.iadd, 1) := dq_g540.1
theorem dL_law_907 : decode cL_law 907 = .ok (.iaload, 1) := dq_g540.2.1
theorem dL_law_908 : decode cL_law 908 = .ok (.invokevirtual 95, 3) := dq_g540.2.2.1
theorem dL_law_911 : decode cL_law 911 = .ok (.pop, 1) := dq_g540.2.2.2.1
theorem dL_law_912 : decode cL_law 912 = .ok (.goto 597, 3) := dq_g540.2.2.2.2.1
theorem dL_law_915 : decode cL_law 915 = .ok (.aload_n 1, 1) := dq_g540.2.2.2.2.2.1
theorem dL_law_916 : decode cL_law 916 = .ok (.aload_n 0, 1) := dq_g540.2.2.2.2.2.2.1
theorem dL_law_917 : decode cL_law 917 = .ok (.iload_n 3, 1) := dq_g540.2.2.2.2.2.2.2.1
theorem dL_law_918 : decode cL_law 918 = .ok (.iconst 1, 1) := dq_g540.2.2.2.2.2.2.2.2.1
theorem dL_law_919 : decode cL_law 919 = .ok (.iadd, 1) := dq_g540.2.2.2.2.2.2.2.2.2.1
theorem dL_law_920 : decode cL_law 920 = .ok (.iaload, 1) := dq_g540.2.2.2.2.2.2.2.2.2.2.1
theorem dL_law_921 : decode cL_law 921 = .ok (.aload_n 0, 1) := dq_g540.2.2.2.2.2.2.2.2.2.2.2.1
theorem dL_law_922 : decode cL_law 922 = .ok (.iload_n 3, 1) := dq_g540.2.2.2.2.2.2.2.2.2.2.2.2.1
theorem dL_law_923 : decode cL_law 923 = .ok (.iconst 2, 1) := dq_g540.2.2.2.2.2.2.2.2.2.2.2.2.2.1
theorem dL_law_924 : decode cL_law 924 = .ok (.iadd, 1) := dq_g540.2.2.2.2.2.2.2.2.2.2.2.2.2.2.1
theorem dL_law_925 : decode cL_law 925 = .ok (.iaload, 1) := dq_g540.2.2.2.2.2.2.2.2.2.2.2.2.2.2.2.1
theorem dL_law_926 : decode cL_law 926 = .ok (.aload_n 0, 1) := dq_g540.2.2.2.2.2.2.2.2.2.2.2.2.2.2.2.2.1
theorem dL_law_927 : decode cL_law 927 = .ok (.iload_n 3, 1) := dq_g540.2.2.2.2.2.2.2.2.2.2.2.2.2.2.2.2.2.1
theorem dL_law_928 : decode cL_law 928 = .ok (.iconst 3, 1) := dq_g540.2.2.2.2.2.2.2.2.2.2.2.2.2.2.2.2.2.2.1
theorem dL_law_929 : decode cL_law 929 = .ok (.iadd, 1) := dq_g540.2.2.2.2.2.2.2.2.2.2.2.2.2.2.2.2.2.2.2.1
theorem dL_law_930 : decode cL_law 930 = .ok (.iaload, 1) := dq_g540.2.2.2.2.2.2.2.2.2.2.2.2.2.2.2.2.2.2.2.2.1
theorem dL_law_931 : decode cL_law 931 = .ok (.invokevirtual 96, 3) := dq_g540.2.2.2.2.2.2.2.2.2.2.2.2.2.2.2.2.2.2.2.2.2.1
theorem dL_law_934 : decode cL_law 934 = .ok (.pop, 1) := dq_g540.2.2.2.2.2.2.2.2.2.2.2.2.2.2.2.2.2.2.2.2.2.2.1
theorem dL_law_935 : decode cL_law 935 = .ok (.aload_n 2, 1) := dq_g540.2.2.2.2.2.2.2.2.2.2.2.2.2.2.2.2.2.2.2.2.2.2.2.1
theorem dL_law_936 : decode cL_law 936 = .ok (.aload_n 0, 1) := dq_g540.2.2.2.2.2.2.2.2.2.2.2.2.2.2.2.2.2.2.2.2.2.2.2.2.1
theorem dL_law_937 : decode cL_law 937 = .ok (.iload_n 3, 1) := dq_g540.2.2.2.2.2.2.2.2.2.2.2.2.2.2.2.2.2.2.2.2.2.2.2.2.2.1
theorem dL_law_938 : decode cL_law 938 = .ok (.iconst 1, 1) := dq_g540.2.2.2.2.2.2.2.2.2.2.2.2.2.2.2.2.2.2.2.2.2.2.2.2.2.2.1
theorem dL_law_939 : decode cL_law 939 = .ok (.iadd, 1) := dq_g540.2.2.2.2.2.2.2.2.2.2.2.2.2.2.2.2.2.2.2.2.2.2.2.2.2.2.2.1
theorem dL_law_940 : decode cL_law 940 = .ok (.iaload, 1) := dq_g540.2.2.2.2.2.2.2.2.2.2.2.2.2.2.2.2.2.2.2.2.2.2.2.2.2.2.2.2.1
theorem dL_law_941 : decode cL_law 941 = .ok (.aload_n 0, 1) := dq_g540.2.2.2.2.2.2.2.2.2.2.2.2.2.2.2.2.2.2.2.2.2.2.2.2.2.2.2.2.2.1
theorem dq_g541 : decode cL_law 942 = .ok (.iload_n 3, 1) ∧ decode cL_law 943 = .ok (.iconst 2, 1) ∧ decode cL_law 944 = .ok (.iadd, 1) ∧ decode cL_law 945 = .ok (.iaload, 1) ∧ decode cL_law 946 = .ok (.aload_n 0, 1) ∧ decode cL_law 947 = .ok (.iload_n 3, 1) ∧ decode cL_law 948 = .ok (.iconst 3, 1) ∧ decode cL_law 949 = .ok (.iadd, 1) ∧ decode cL_law 950 = .ok (.iaload, 1) ∧ decode cL_law 951 = .ok (.invokevirtual 99, 3) ∧ decode cL_law 954 = .ok (.pop, 1) ∧ decode cL_law 955 = .ok (.goto 554, 3) ∧ decode cL_law 958 = .ok (.aload_n 1, 1) ∧ decode cL_law 959 = .ok (.aload_n 0, 1) ∧ decode cL_law 960 = .ok (.iload_n 3, 1) ∧ decode cL_law 961 = .ok (.iconst 1, 1) ∧ decode cL_law 962 = .ok (.iadd, 1) ∧ decode cL_law 963 = .ok (.iaload, 1) ∧ decode cL_law 964 = .ok (.aload_n 0, 1) ∧ decode cL_law 965 = .ok (.iload_n 3, 1) ∧ decode cL_law 966 = .ok (.iconst 2, 1) ∧ decode cL_law 967 = .ok (.iadd, 1) ∧ decode cL_law 968 = .ok (.iaload, 1) ∧ decode cL_law 969 = .ok (.aload_n 0, 1) ∧ decode cL_law 970 = .ok (.iload_n 3, 1) ∧ decode cL_law 971 = .ok (.iconst 3, 1) ∧ decode cL_law 972 = .ok (.iadd, 1) ∧ decode cL_law 973 = .ok (.iaload, 1) ∧ decode cL_law 974 = .ok (.aload_n 0, 1) ∧ decode cL_law 975 = .ok (.iload_n 3, 1) ∧ True := dqC_ok (c := cL_law) [(942, 1, some (.iload_n 3)), (943, 1, some (.iconst 2)), (944, 1, some (.iadd)), (945, 1, some (.iaload)), (946, 1, some (.aload_n 0)), (947, 1, some (.iload_n 3)), (948, 1, some (.iconst 3)), (949, 1, some (.iadd)), (950, 1, some (.iaload)), (951, 3, some (.invokevirtual 99)), (954, 1, some (.pop)), (955, 3, some (.goto 554)), (958, 1, some (.aload_n 1)), (959, 1, some (.aload_n 0)), (960, 1, some (.iload_n 3)), (961, 1, some (.iconst 1)), (962, 1, some (.iadd)), (963, 1, some (.iaload)), (964, 1, some (.aload_n 0)), (965, 1, some (.iload_n 3)), (966, 1, some (.iconst 2)), (967, 1, some (.iadd)), (968, 1, some (.iaload)), (969, 1, some (.aload_n 0)), (970, 1, some (.iload_n 3)), (971, 1, some (.iconst 3)), (972, 1, some (.iadd)), (973, 1, some (.iaload)), (974, 1, some (.aload_n 0)), (975, 1, some (.iload_n 3))] _ 942 rfl (by decide +kernel)
theorem dL_law_942 : decode cL_law 942 = .ok (.iload_n 3, 1) := dq_g541.1
theorem dL_law_943 : decode cL_law 943 = .ok (.iconst 2, 1) := dq_g541.2.1
theorem dL_law_944 : decode cL_law 944 = .ok (.iadd, 1) := dq_g541.2.2.1
theorem dL_law_945 : decode cL_law 945 = .ok (.iaload, 1) := dq_g541.2.2.2.1
theorem dL_law_946 : decode cL_law 946 = .ok (.aload_n 0, 1) := dq_g541.2.2.2.2.1
theorem dL_law_947 : decode cL_law 947 = .ok (.iload_n 3, 1) := dq_g541.2.2.2.2.2.1
theorem dL_law_948 : decode cL_law 948 = .ok (.iconst 3, 1) := dq_g541.2.2.2.2.2.2.1
theorem dL_law_949 : decode cL_law 949 = .ok (.iadd, 1) := dq_g541.2.2.2.2.2.2.2.1
theorem dL_law_950 : decode cL_law 950 = .ok (.iaload, 1) := dq_g541.2.2.2.2.2.2.2.2.1
theorem dL_law_951 : decode cL_law 951 = .ok (.invokevirtual 99, 3) := dq_g541.2.2.2.2.2.2.2.2.2.1
theorem dL_law_954 : decode cL_law 954 = .ok (.pop, 1) := dq_g541.2.2.2.2.2.2.2.2.2.2.1
theorem dL_law_955 : decode cL_law 955 = .ok (.goto 554, 3) := dq_g541.2.2.2.2.2.2.2.2.2.2.2.1
theorem dL_law_958 : decode cL_law 958 = .ok (.aload_n 1, 1) := dq_g541.2.2.2.2.2.2.2.2.2.2.2.2.1
theorem dL_law_959 : decode cL_law 959 = .ok (.aload_n 0, 1) := dq_g541.2.2.2.2.2.2.2.2.2.2.2.2.2.1
theorem dL_law_960 : decode cL_law 960 = .ok (.iload_n 3, 1) := dq_g541.2.2.2.2.2.2.2.2.2.2.2.2.2.2.1
theorem dL_law_961 : decode cL_law 961 = .ok (.iconst 1, 1) := dq_g541.2.2.2.2.2.2.2.2.2.2.2.2.2.2.2.1
theorem dL_law_962 : decode cL_law 962 = .ok (.iadd, 1) := dq_g541.2.2.2.2.2.2.2.2.2.2.2.2.2.2.2.2.1
theorem dL_law_963 : decode cL_law 963 = .ok (.iaload, 1) := dq_g541.2.2.2.2.2.2.2.2.2.2.2.2.2.2.2.2.2.1
theorem dL_law_964 : decode cL_law 964 = .ok (.aload_n 0, 1) := dq_g541.2.2.2.2.2.2.2.2.2.2.2.2.2.2.2.2.2.2.1
theorem dL_law_965 : decode cL_law 965 = .ok (.iload_n 3, 1) := dq_g541.2.2.2.2.2.2.2.2.2.2.2.2.2.2.2.2.2.2.2.1
theorem dL_law_966 : decode cL_law 966 = .ok (.iconst 2, 1) := dq_g541.2.2.2.2.2.2.2.2.2.2.2.2.2.2.2.2.2.2.2.2.1
theorem dL_law_967 : decode cL_law 967 = .ok (.iadd, 1) := dq_g541.2.2.2.2.2.2.2.2.2.2.2.2.2.2.2.2.2.2.2.2.2.1
theorem dL_law_968 : decode cL_law 968 = .ok (.iaload, 1) := dq_g541.2.2.2.2.2.2.2.2.2.2.2.2.2.2.2.2.2.2.2.2.2.2.1
theorem dL_law_969 : decode cL_law 969 = .ok (.aload_n 0, 1) := dq_g541.2.2.2.2.2.2.2.2.2.2.2.2.2.2.2.2.2.2.2.2.2.2.2.1
theorem dL_law_970 : decode cL_law 970 = .ok (.iload_n 3, 1) := dq_g541.2.2.2.2.2.2.2.2.2.2.2.2.2.2.2.2.2.2.2.2.2.2.2.2.1
theorem dL_law_971 : decode cL_law 971 = .ok (.iconst 3, 1) := dq_g541.2.2.2.2.2.2.2.2.2.2.2.2.2.2.2.2.2.2.2.2.2.2.2.2.2.1
theorem dL_law_972 : decode cL_law 972 = .ok (.iadd, 1) := dq_g541.2.2.2.2.2.2.2.2.2.2.2.2.2.2.2.2.2.2.2.2.2.2.2.2.2.2.1
theorem dL_law_973 : decode cL_law 973 = .ok (.iaload, 1) := dq_g541.2.2.2.2.2.2.2.2.2.2.2.2.2.2.2.2.2.2.2.2.2.2.2.2.2.2.2.1
theorem dL_law_974 : decode cL_law 974 = .ok (.aload_n 0, 1) := dq_g541.2.2.2.2.2.2.2.2.2.2.2.2.2.2.2.2.2.2.2.2.2.2.2.2.2.2.2.2.1
theorem dL_law_975 : decode cL_law 975 = .ok (.iload_n 3, 1) := dq_g541.2.2.2.2.2.2.2.2.2.2.2.2.2.2.2.2.2.2.2.2.2.2.2.2.2.2.2.2.2.1
theorem dq_g542 : decode cL_law 976 = .ok (.iconst 4, 1) ∧ decode cL_law 977 = .ok (.iadd, 1) ∧ decode cL_law 978 = .ok (.iaload, 1) ∧ decode cL_law 979 = .ok (.invokevirtual 100, 3) ∧ decode cL_law 982 = .ok (.pop, 1) ∧ decode cL_law 983 = .ok (.aload_n 2, 1) ∧ decode cL_law 984 = .ok (.aload_n 0, 1) ∧ decode cL_law 985 = .ok (.iload_n 3, 1) ∧ decode cL_law 986 = .ok (.iconst 1, 1) ∧ decode cL_law 987 = .ok (.iadd, 1) ∧ decode cL_law 988 = .ok (.iaload, 1) ∧ decode cL_law 989 = .ok (.aload_n 0, 1) ∧ decode cL_law 990 = .ok (.iload_n 3, 1) ∧ decode cL_law 991 = .ok (.iconst 2, 1) ∧ decode cL_law 992 = .ok (.iadd, 1) ∧ decode cL_law 993 = .ok (.iaload, 1) ∧ decode cL_law 994 = .ok (.aload_n 0, 1) ∧ decode cL_law 995 = .ok (.iload_n 3, 1) ∧ decode cL_law 996 = .ok (.iconst 3, 1) ∧ decode cL_law 997 = .ok (.iadd, 1) ∧ decode cL_law 998 = .ok (.iaload, 1) ∧ decode cL_law 999 = .ok (.aload_n 0, 1) ∧ decode cL_law 1000 = .ok (.iload_n 3, 1) ∧ decode cL_law 1001 = .ok (.iconst 4, 1) ∧ decode cL_law 1002 = .ok (.iadd, 1) ∧ decode cL_law 1003 = .ok (.iaload, 1) ∧ decode cL_law 1004 = .ok (.invokevirtual 104, 3) ∧ decode cL_law 1007 = .ok (.pop, 1) ∧ decode cL_law 1008 = .ok (.goto 501, 3) ∧ decode cL_law 1011 = .ok (.aload_n 1, 1) ∧ True := dqC_ok (c := cL_law) [(976, 1, some (.iconst 4)), (977, 1, some (.iadd)), (978, 1, some (.iaload)), (979, 3, some (.invokevirtual 100)), (982, 1, some (.pop)), (983, 1, some (.aload_n 2)), (984, 1, some (.aload_n 0)), (985, 1, some (.iload_n 3)), (986, 1, some (.iconst 1)), (987, 1, some (.iadd)), (988, 1, some (.iaload)), (989, 1, some (.aload_n 0)), (990, 1, some (.iload_n 3)), (991, 1, some (.iconst 2)), (992, 1, some (.iadd)), (993, 1, some (.iaload)), (994, 1, some (.aload_n 0)), (995, 1, some (.iload_n 3)), (996, 1, some (.iconst 3)), (997, 1, some (.iadd)), (998, 1, some (.iaload)), (999, 1, some (.aload_n 0)), (1000, 1, some (.iload_n 3)), (1001, 1, some (.iconst 4)), (1002, 1, some (.iadd)), (1003, 1, some (.iaload)), (1004, 3, some (.invokevirtual 104)), (1007, 1, some (.pop)), (1008, 3, some (.goto 501)), (1011, 1, some (.aload_n 1))] _ 976 rfl (by decide +kernel)
theorem dL_law_976 : decode cL_law 976 = .ok (.iconst 4, 1) := dq_g542.1
theorem dL_law_977 : decode cL_law 977 = .ok (.iadd, 1) := dq_g542.2.1
theorem dL_law_978 : decode cL_law 978 = .ok (.iaload, 1) := dq_g542.2.2.1
theorem dL_law_979 : decode cL_law 979 = .ok (.invokevirtual 100, 3) := dq_g542.2.2.2.1
theorem dL_law_982 : decode cL_law 982 = .ok (.pop, 1) := dq_g542.2.2.2.2.1
theorem dL_law_983 : decode cL_law 983 = .ok (.aload_n 2, 1) := dq_g542.2.2.2.2.2.1
theorem dL_law_984 : decode cL_law 984 = .ok (.aload_n 0, 1) := dq_g542.2.2.2.2.2.2.1
theorem dL_law_985 : decode cL_law 985 = .ok (.iload_n 3, 1) := dq_g542.2.2.2.2.2.2.2.1
theorem dL_law_986 : decode cL_law 986 = .ok (.iconst 1, 1) := dq_g542.2.2.2.2.2.2.2.2.1
theorem dL_law_987 : decode cL_law 987 = .ok (.iadd, 1) := dq_g542.2.2.2.2.2.2.2.2.2.1
theorem dL_law_988 : decode cL_law 988 = .ok (.iaload, 1) := dq_g542.2.2.2.2.2.2.2.2.2.2.1
theorem dL_law_989 : decode cL_law 989 = .ok (.aload_n 0, 1) := dq_g542.2.2.2.2.2.2.2.2.2.2.2.1
theorem dL_law_990 : decode cL_law 990 = .ok (.iload_n 3, 1) := dq_g542.2.2.2.2.2.2.2.2.2.2.2.2.1
theorem dL_law_991 : decode cL_law 991 = .ok (.iconst 2, 1) := dq_g542.2.2.2.2.2.2.2.2.2.2.2.2.2.1
theorem dL_law_992 : decode cL_law 992 = .ok (.iadd, 1) := dq_g542.2.2.2.2.2.2.2.2.2.2.2.2.2.2.1
theorem dL_law_993 : decode cL_law 993 = .ok (.iaload, 1) := dq_g542.2.2.2.2.2.2.2.2.2.2.2.2.2.2.2.1
theorem dL_law_994 : decode cL_law 994 = .ok (.aload_n 0, 1) := dq_g542.2.2.2.2.2.2.2.2.2.2.2.2.2.2.2.2.1
theorem dL_law_995 : decode cL_law 995 = .ok (.iload_n 3, 1) := dq_g542.2.2.2.2.2.2.2.2.2.2.2.2.2.2.2.2.2.1
theorem dL_law_996 : decode cL_law 996 = .ok (.iconst 3, 1) := dq_g542.2.2.2.2.2.2.2.2.2.2.2.2.2.2.2.2.2.2.1
theorem dL_law_997 : decode cL_law 997 = .ok (.iadd, 1) := dq_g542.2.2.2.2.2.2.2.2.2.2.2.2.2.2.2.2.2.2.2.1
theorem dL_law_998 : decode cL_law 998 = .ok (.iaload, 1) := dq_g542.2.2.2.2.2.2.2.2.2.2.2.2.2.2.2.2.2.2.2.2.1
theorem dL_law_999 : decode cL_law 999 = .ok (.aload_n 0, 1) := dq_g542.2.2.2.2.2.2.2.2.2.2.2.2.2.2.2.2.2.2.2.2.2.1
theorem dL_law_1000 : decode cL_law 1000 = .ok (.iload_n 3, 1) := dq_g542.2.2.2.2.2.2.2.2.2.2.2.2.2.2.2.2.2.2.2.2.2.2.1
theorem dL_law_1001 : decode cL_law 1001 = .ok (.iconst 4, 1) := dq_g542.2.2.2.2.2.2.2.2.2.2.2.2.2.2.2.2.2.2.2.2.2.2.2.1
theorem dL_law_1002 : decode cL_law 1002 = .ok (.iadd, 1) := dq_g542.2.2.2.2.2.2.2.2.2.2.2.2.2.2.2.2.2.2.2.2.2.2.2.2.1
theorem dL_law_1003 : decode cL_law 1003 = .ok (.iaload, 1) := dq_g542.2.2.2.2.2.2.2.2.2.2.2.2.2.2.2.2.2.2.2.2.2.2.2.2.2.1
theorem dL_law_1004 : decode cL_law 1004 = .ok (.invokevirtual 104, 3) := dq_g542.2.2.2.2.2.2.2.2.2.2.2.2.2.2.2.2.2.2.2.2.2.2.2.2.2.2.1
theorem dL_law_1007 : decode cL_law 1007 = .ok (.pop, 1) := dq_g542.2.2.2.2.2.2.2.2.2.2.2.2.2.2.2.2.2.2.2.2.2.2.2.2.2.2.2.1
theorem dL_law_1008 : decode cL_law 1008 = .ok (.goto 501, 3) := dq_g542.2.2.2.2.2.2.2.2.2.2.2.2.2.2.2.2.2.2.2.2.2.2.2.2.2.2.2.2.1
theorem dL_law_1011 : decode cL_law 1011 = .ok (.aload_n 1, 1) := dq_g542.2.2.2.2.2.2.2.2.2.2.2.2.2.2.2.2.2.2.2.2.2.2.2.2.2.2.2.2.2.1
theorem dq_g543 : decode cL_law 1012 = .ok (.aload_n 0, 1) ∧ decode cL_law 1013 = .ok (.iload_n 3, 1) ∧ decode cL_law 1014 = .ok (.iconst 1, 1) ∧ decode cL_law 1015 = .ok (.iadd, 1) ∧ decode cL_law 1016 = .ok (.iaload, 1) ∧ decode cL_law 1017 = .ok (.invokevirtual 105, 3) ∧ decode cL_law 1020 = .ok (.pop, 1) ∧ decode cL_law 1021 = .ok (.aload_n 2, 1) ∧ decode cL_law 1022 = .ok (.aload_n 0, 1) ∧ decode cL_law 1023 = .ok (.iload_n 3, 1) ∧ decode cL_law 1024 = .ok (.iconst 1, 1) ∧ decode cL_law 1025 = .ok (.iadd, 1) ∧ decode cL_law 1026 = .ok (.iaload, 1) ∧ decode cL_law 1027 = .ok (.invokevirtual 108, 3) ∧ decode cL_law 1030 = .ok (.pop, 1) ∧ decode cL_law 1031 = .ok (.goto 478, 3) ∧ decode cL_law 1034 = .ok (.aload_n 1, 1) ∧ decode cL_law 1035 = .ok (.aload_n 0, 1) ∧ decode cL_law 1036 = .ok (.iload_n 3, 1) ∧ decode cL_law 1037 = .ok (.iconst 1, 1) ∧ decode cL_law 1038 = .ok (.iadd, 1) ∧ decode cL_law 1039 = .ok (.iaload, 1) ∧ decode cL_law 1040 = .ok (.aload_n 0, 1) ∧ decode cL_law 1041 = .ok (.iload_n 3, 1) ∧ decode cL_law 1042 = .ok (.iconst 2, 1) ∧ decode cL_law 1043 = .ok (.iadd, 1) ∧ decode cL_law 1044 = .ok (.iaload, 1) ∧ decode cL_law 1045 = .ok (.aload_n 0, 1) ∧ decode cL_law 1046 = .ok (.iload_n 3, 1) ∧ decode cL_law 1047 = .ok (.iconst 3, 1) ∧ True := dqC_ok (c := cL_law) [(1012, 1, some (.aload_n 0)), (1013, 1, some (.iload_n 3)), (1014, 1, some (.iconst 1)), (1015, 1, some (.iadd)), (1016, 1, some (.iaload)), (1017, 3, some (.invokevirtual 105)), (1020, 1, some (.pop)), (1021, 1, some (.aload_n 2)), (1022, 1, some (.aload_n 0)), (1023, 1, some (.iload_n 3)), (1024, 1, some (.iconst 1)), (1025, 1, some (.iadd)), (1026, 1, some (.iaload)), (1027, 3, some (.invokevirtual 108)), (1030, 1, some (.pop)), (1031, 3, some (.goto 478)), (1034, 1, some (.aload_n 1)), (1035, 1, some (.aload_n 0)), (1036, 1, some (.iload_n 3)), (1037, 1, some (.iconst 1)), (1038, 1, some (.iadd)), (1039, 1, some (.iaload)), (1040, 1, some (.aload_n 0)), (1041, 1, some (.iload_n 3)), (1042, 1, some (.iconst 2)), (1043, 1, some (.iadd)), (1044, 1, some (.iaload)), (1045, 1, some (.aload_n 0)), (1046, 1, some (.iload_n 3)), (1047, 1, some (.iconst 3))] _ 1012 rfl (by decide +kernel)
theorem dL_law_1012 : decode cL_law 1012 = .ok (.aload_n 0, 1) := dq_g543.1
theorem dL_law_1013 : decode cL_law 1013 = .ok (.iload_n 3, 1) := dq_g543.2.1
theorem dL_law_1014 : decode cL_law 1014 = .ok (.iconst 1, 1) := dq_g543.2.2.1
theorem dL_law_1015 : decode cL_law 1015 = .ok (.iadd, 1) := dq_g543.2.2.2.1
theorem dL_law_1016 : decode cL_law 1016 = .ok (.iaload, 1) := dq_g543.2.2.2.2.1
theorem dL_law_1017 : decode cL_law 1017 = .ok (.invokevirtual 105, 3) := dq_g543.2.2.2.2.2.1
theorem dL_law_1020 : decode cL_law 1020 = .ok (.pop, 1) := dq_g543.2.2.2.2.2.2.1
theorem dL_law_1021 : decode cL_law 1021 = .ok (.aload_n 2, 1) := dq_g543.2.2.2.2.2.2.2.1
theorem dL_law_1022 : decode cL_law 1022 = .ok (.aload_n 0, 1) := dq_g543.2.2.2.2.2.2.2.2.1
theorem dL_law_1023 : decode cL_law 1023 = .ok (.iload_n 3, 1) := dq_g543.2.2.2.2.2.2.2.2.2.1
theorem dL_law_1024 : decode cL_law 1024 = .ok (.iconst 1, 1) := dq_g543.2.2.2.2.2.2.2.2.2.2.1
theorem dL_law_1025 : decode cL_law 1025 = .ok (.iadd, 1) := dq_g543.2.2.2.2.2.2.2.2.2.2.2.1
theorem dL_law_1026 : decode cL_law 1026 = .ok (.iaload, 1) := dq_g543.2.2.2.2.2.2.2.2.2.2.2.2.1
theorem dL_law_1027 : decode cL_law 1027 = .ok (.invokevirtual 108, 3) := dq_g543.2.2.2.2.2.2.2.2.2.2.2.2.2.1
theorem dL_law_1030 : decode cL_law 1030 = .ok (.pop, 1) := dq_g543.2.2.2.2.2.2.2.2.2.2.2.2.2.2.1
theorem dL_law_1031 : decode cL_law 1031 = .ok (.goto 478, 3) := dq_g543.2.2.2.2.2.2.2.2.2.2.2.2.2.2.2.1
theorem dL_law_1034 : decode cL_law 1034 = .ok (.aload_n 1, 1) := dq_g543.2.2.2.2.2.2.2.2.2.2.2.2.2.2.2.2.1
theorem dL_law_1035 : decode cL_law 1035 = .ok (.aload_n 0, 1) := dq_g543.2.2.2.2.2.2.2.2.2.2.2.2.2.2.2.2.2.1
theorem dL_law_1036 : decode cL_law 1036 = .ok (.iload_n 3, 1) := dq_g543.2.2.2.2.2.2.2.2.2.2.2.2.2.2.2.2.2.2.1
theorem dL_law_1037 : decode cL_law 1037 = .ok (.iconst 1, 1) := dq_g543.2.2.2.2.2.2.2.2.2.2.2.2.2.2.2.2.2.2.2.1
theorem dL_law_1038 : decode cL_law 1038 = .ok (.iadd, 1) := dq_g543.2.2.2.2.2.2.2.2.2.2.2.2.2.2.2.2.2.2.2.2.1
theorem dL_law_1039 : decode cL_law 1039 = .ok (.iaload, 1) := dq_g543.2.2.2.2.2.2.2.2.2.2.2.2.2.2.2.2.2.2.2.2.2.1
theorem dL_law_1040 : decode cL_law 1040 = .ok (.aload_n 0, 1) := dq_g543.2.2.2.2.2.2.2.2.2.2.2.2.2.2.2.2.2.2.2.2.2.2.1
theorem dL_law_1041 : decode cL_law 1041 = .ok (.iload_n 3, 1) := dq_g543.2.2.2.2.2.2.2.2.2.2.2.2.2.2.2.2.2.2.2.2.2.2.2.1
theorem dL_law_1042 : decode cL_law 1042 = .ok (.iconst 2, 1) := dq_g543.2.2.2.2.2.2.2.2.2.2.2.2.2.2.2.2.2.2.2.2.2.2.2.2.1
theorem dL_law_1043 : decode cL_law 1043 = .ok (.iadd, 1) := dq_g543.2.2.2.2.2.2.2.2.2.2.2.2.2.2.2.2.2.2.2.2.2.2.2.2.2.1
theorem dL_law_1044 : decode cL_law 1044 = .ok (.iaload, 1) := dq_g543.2.2.2.2.2.2.2.2.2.2.2.2.2.2.2.2.2.2.2.2.2.2.2.2.2.2.1
theorem dL_law_1045 : decode cL_law 1045 = .ok (.aload_n 0, 1) := dq_g543.2.2.2.2.2.2.2.2.2.2.2.2.2.2.2.2.2.2.2.2.2.2.2.2.2.2.2.1
theorem dL_law_1046 : decode cL_law 1046 = .ok (.iload_n 3, 1) := dq_g543.2.2.2.2.2.2.2.2.2.2.2.2.2.2.2.2.2.2.2.2.2.2.2.2.2.2.2.2.1
theorem dL_law_1047 : decode cL_law 1047 = .ok (.iconst 3, 1) := dq_g543.2.2.2.2.2.2.2.2.2.2.2.2.2.2.2.2.2.2.2.2.2.2.2.2.2.2.2.2.2.1
theorem dq_g544 : decode cL_law 1048 = .ok (.iadd, 1) ∧ decode cL_law 1049 = .ok (.iaload, 1) ∧ decode cL_law 1050 = .ok (.invokevirtual 109, 3) ∧ decode cL_law 1053 = .ok (.pop, 1) ∧ decode cL_law 1054 = .ok (.aload_n 2, 1) ∧ decode cL_law 1055 = .ok (.aload_n 0, 1) ∧ decode cL_law 1056 = .ok (.iload_n 3, 1) ∧ decode cL_law 1057 = .ok (.iconst 1, 1) ∧ decode cL_law 1058 = .ok (.iadd, 1) ∧ decode cL_law 1059 = .ok (.iaload, 1) ∧ decode cL_law 1060 = .ok (.aload_n 0, 1) ∧ decode cL_law 1061 = .ok (.iload_n 3, 1) ∧ decode cL_law 1062 = .ok (.iconst 2, 1) ∧ decode cL_law 1063 = .ok (.iadd, 1) ∧ decode cL_law 1064 = .ok (.iaload, 1) ∧ decode cL_law 1065 = .ok (.aload_n 0, 1) ∧ decode cL_law 1066 = .ok (.iload_n 3, 1) ∧ decode cL_law 1067 = .ok (.iconst 3, 1) ∧ decode cL_law 1068 = .ok (.iadd, 1) ∧ decode cL_law 1069 = .ok (.iaload, 1) ∧ decode cL_law 1070 = .ok (.invokevirtual 112, 3) ∧ decode cL_law 1073 = .ok (.pop, 1) ∧ decode cL_law 1074 = .ok (.goto 435, 3) ∧ decode cL_law 1077 = .ok (.aload_n 1, 1) ∧ decode cL_law 1078 = .ok (.aload_n 0, 1) ∧ decode cL_law 1079 = .ok (.iload_n 3, 1) ∧ decode cL_law 1080 = .ok (.iconst 1, 1) ∧ decode cL_law 1081 = .ok (.iadd, 1) ∧ decode cL_law 1082 = .ok (.iaload, 1) ∧ decode cL_law 1083 = .ok (.aload_n 0, 1) ∧ True := dqC_ok (c := cL_law) [(1048, 1, some (.iadd)), (1049, 1, some (.iaload)), (1050, 3, some (.invokevirtual 109)), (1053, 1, some (.pop)), (1054, 1, some (.aload_n 2)), (1055, 1, some (.aload_n 0)), (1056, 1, some (.iload_n 3)), (1057, 1, some (.iconst 1)), (1058, 1, some (.iadd)), (1059, 1, some (.iaload)), (1060, 1, some (.aload_n 0)), (1061, 1, some (.iload_n 3)), (1062, 1, some (.iconst 2)), (1063, 1, some (.iadd)), (1064, 1, some (.iaload)), (1065, 1, some (.aload_n 0)), (1066, 1, some (.iload_n 3)), (1067, 1, some (.iconst 3)), (1068, 1, some (.iadd)), (1069, 1, some (.iaload)), (1070, 3, some (.invokevirtual 112)), (1073, 1, some (.pop)), (1074, 3, some (.goto 435)), (1077, 1, some (.aload_n 1)), (1078, 1, some (.aload_n 0)), (1079, 1, some (.iload_n 3)), (1080, 1, some (.iconst 1)), (1081, 1, some (.iadd)), (1082, 1, some (.iaload)), (1083, 1, some (.aload_n 0))] _ 1048 rfl (by decide +kernel)
theorem dL_law_1048 : decode cL_law 1048 = .ok (.iadd, 1) := dq_g544.1
theorem dL_law_1049 : decode cL_law 1049 = .ok (.iaload, 1) := dq_g544.2.1
theorem dL_law_1050 : decode cL_law 1050 = .ok (.invokevirtual 109, 3) := dq_g544.2.2.1
theorem dL_law_1053 : decode cL_law 1053 = .ok (.pop, 1) := dq_g544.2.2.2.1
theorem dL_law_1054 : decode cL_law 1054 = .ok (.aload_n 2, 1) := dq_g544.2.2.2.2.1
theorem dL_law_1055 : decode cL_law 1055 = .ok (.aload_n 0, 1) := dq_g544.2.2.2.2.2.1
theorem dL_law_1056 : decode cL_law 1056 = .ok (.iload_n 3, 1) := dq_g544.2.2.2.2.2.2.1
theorem dL_law_1057 : decode cL_law 1057 = .ok (.iconst 1, 1) := dq_g544.2.2.2.2.2.2.2.1
theorem dL_law_1058 : decode cL_law 1058 = .ok (.iadd, 1) := dq_g544.2.2.2.2.2.2.2.2.1
theorem dL_law_1059 : decode cL_law 1059 = .ok (.iaload, 1) := dq_g544.2.2.2.2.2.2.2.2.2.1
theorem dL_law_1060 : decode cL_law 1060 = .ok (.aload_n 0, 1) := dq_g544.2.2.2.2.2.2.2.2.2.2.1
theorem dL_law_1061 : decode cL_law 1061 = .ok (.iload_n 3, 1) := dq_g544.2.2.2.2.2.2.2.2.2.2.2.1
theorem dL_law_1062 : decode cL_law 1062 = .ok (.iconst 2, 1) := dq_g544.2.2.2.2.2.2.2.2.2.2.2.2.1
theorem dL_law_1063 : decode cL_law 1063 = .ok (.iadd, 1) := dq_g544.2.2.2.2.2.2.2.2.2.2.2.2.2.1
theorem dL_law_1064 : decode cL_law 1064 = .ok (.iaload, 1) := dq_g544.2.2.2.2.2.2.2.2.2.2.2.2.2.2.1
theorem dL_law_1065 : decode cL_law 1065 = .ok (.aload_n 0, 1) := dq_g544.2.2.2.2.2.2.2.2.2.2.2.2.2.2.2.1
theorem dL_law_1066 : decode cL_law 1066 = .ok (.iload_n 3, 1) := dq_g544.2.2.2.2.2.2.2.2.2.2.2.2.2.2.2.2.1
theorem dL_law_1067 : decode cL_law 1067 = .ok (.iconst 3, 1) := dq_g544.2.2.2.2.2.2.2.2.2.2.2.2.2.2.2.2.2.1
theorem dL_law_1068 : decode cL_law 1068 = .ok (.iadd, 1) := dq_g544.2.2.2.2.2.2.2.2.2.2.2.2.2.2.2.2.2.2.1
theorem dL_law_1069 : decode cL_law 1069 = .ok (.iaload, 1) := dq_g544.2.2.2.2.2.2.2.2.2.2.2.2.2.2.2.2.2.2.2.1
theorem dL_law_1070 : decode cL_law 1070 = .ok (.invokevirtual 112, 3) := dq_g544.2.2.2.2.2.2.2.2.2.2.2.2.2.2.2.2.2.2.2.2.1
theorem dL_law_1073 : decode cL_law 1073 = .ok (.pop, 1) := dq_g544.2.2.2.2.2.2.2.2.2.2.2.2.2.2.2.2.2.2.2.2.2.1
theorem dL_law_1074 : decode cL_law 1074 = .ok (.goto 435, 3) := dq_g544.2.2.2.2.2.2.2.2.2.2.2.2.2.2.2.2.2.2.2.2.2.2.1
theorem dL_law_1077 : decode cL_law 1077 = .ok (.aload_n 1, 1) := dq_g544.2.2.2.2.2.2.2.2.2.2.2.2.2.2.2.2.2.2.2.2.2.2.2.1
theorem dL_law_1078 : decode cL_law 1078 = .ok (.aload_n 0, 1) := dq_g544.2.2.2.2.2.2.2.2.2.2.2.2.2.2.2.2.2.2.2.2.2.2.2.2.1
theorem dL_law_1079 : decode cL_law 1079 = .ok (.iload_n 3, 1) := dq_g544.2.2.2.2.2.2.2.2.2.2.2.2.2.2.2.2.2.2.2.2.2.2.2.2.2.1
theorem dL_law_1080 : decode cL_law 1080 = .ok (.iconst 1, 1) := dq_g544.2.2.2.2.2.2.2.2.2.2.2.2.2.2.2.2.2.2.2.2.2.2.2.2.2.2.1
theorem dL_law_1081 : decode cL_law 1081 = .ok (.iadd, 1) := dq_g544.2.2.2.2.2.2.2.2.2.2.2.2.2.2.2.2.2.2.2.2.2.2.2.2.2.2.2.1
theorem dL_law_1082 : decode cL_law 1082 = .ok (.iaload, 1) := dq_g544.2.2.2.2.2.2.2.2.2.2.2.2.2.2.2.2.2.2.2.2.2.2.2.2.2.2.2.2.1
theorem dL_law_1083 : decode cL_law 1083 = .ok (.aload_n 0, 1) := dq_g544.2.2.2.2.2.2.2.2.2.2.2.2.2.2.2.2.2.2.2.2.2.2.2.2.2.2.2.2.2.1
theorem dq_g545 : decode cL_law 1084 = .ok (.iload_n 3, 1) ∧ decode cL_law 1085 = .ok (.iconst 2, 1) ∧ decode cL_law 1086 = .ok (.iadd, 1) ∧ decode cL_law 1087 = .ok (.iaload, 1) ∧ decode cL_law 1088 = .ok (.aload_n 0, 1) ∧ decode cL_law 1089 = .ok (.iload_n 3, 1) ∧ decode cL_law 1090 = .ok (.iconst 3, 1) ∧ decode cL_law 1091 = .ok (.iadd, 1) ∧ decode cL_law 1092 = .ok (.iaload, 1) ∧ decode cL_law 1093 = .ok (.invokevirtual 113, 3) ∧ decode cL_law 1096 = .ok (.pop, 1) ∧ decode cL_law 1097 = .ok (.aload_n 2, 1) ∧ decode cL_law 1098 = .ok (.aload_n 0, 1) ∧ decode cL_law 1099 = .ok (.iload_n 3, 1) ∧ decode cL_law 1100 = .ok (.iconst 1, 1) ∧ decode cL_law 1101 = .ok (.iadd, 1) ∧ decode cL_law 1102 = .ok (.iaload, 1) ∧ decode cL_law 1103 = .ok (.aload_n 0, 1) ∧ decode cL_law 1104 = .ok (.iload_n 3, 1) ∧ decode cL_law 1105 = .ok (.iconst 2, 1) ∧ decode cL_law 1106 = .ok (.iadd, 1) ∧ decode cL_law 1107 = .ok (.iaload, 1) ∧ decode cL_law 1108 = .ok (.aload_n 0, 1) ∧ decode cL_law 1109 = .ok (.iload_n 3, 1) ∧ decode cL_law 1110 = .ok (.iconst 3, 1) ∧ decode cL_law 1111 = .ok (.iadd, 1) ∧ decode cL_law 1112 = .ok (.iaload, 1) ∧ decode cL_law 1113 = .ok (.invokevirtual 116, 3) ∧ decode cL_law 1116 = .ok (.pop, 1) ∧ decode cL_law 1117 = .ok (.goto 392, 3) ∧ True := dqC_ok (c := cL_law) [(1084, 1, some (.iload_n 3)), (1085, 1, some (.iconst 2)), (1086, 1, some (.iadd)), (1087, 1, some (.iaload)), (1088, 1, some (.aload_n 0)), (1089, 1, some (.iload_n 3)), (1090, 1, some (.iconst 3)), (1091, 1, some (.iadd)), (1092, 1, some (.iaload)), (1093, 3, some (.invokevirtual 113)), (1096, 1, some (.pop)), (1097, 1, some (.aload_n 2)), (1098, 1, some (.aload_n 0)), (1099, 1, some (.iload_n 3)), (1100, 1, some (.iconst 1)), (1101, 1, some (.iadd)), (1102, 1, some (.iaload)), (1103, 1, some (.aload_n 0)), (1104, 1, some (.iload_n 3)), (1105, 1, some (.iconst 2)), (1106, 1, some (.iadd)), (1107, 1, some (.iaload)), (1108, 1, some (.aload_n 0)), (1109, 1, some (.iload_n 3)), (1110, 1, some (.iconst 3)), (1111, 1, some (.iadd)), (1112, 1, some (.iaload)), (1113, 3, some (.invokevirtual 116)), (1116, 1, some (.pop)), (1117, 3, some (.goto 392))] _ 1084 rfl (by decide +kernel)
theorem dL_law_1084 : decode cL_law 1084 = .ok (.iload_n 3, 1) := dq_g545.1
theorem dL_law_1085 : decode cL_law 1085 = .ok (.iconst 2, 1) := dq_g545.2.1
theorem dL_law_1086 : decode cL_law 1086 = .ok (.iadd, 1) := dq_g545.2.2.1
theorem dL_law_1087 : decode cL_law 1087 = .ok (.iaload, 1) := dq_g545.2.2.2.1
theorem dL_law_1088 : decode cL_law 1088 = .ok (.aload_n 0, 1) := dq_g545.2.2.2.2.1
theorem dL_law_1089 : decode cL_law 1089 = .ok (.iload_n 3, 1) := dq_g545.2.2.2.2.2.1
theorem dL_law_1090 : decode cL_law 1090 = .ok (.iconst 3, 1) := dq_g545.2.2.2.2.2.2.1
theorem dL_law_1091 : decode cL_law 1091 = .ok (.iadd, 1) := dq_g545.2.2.2.2.2.2.2.1
theorem dL_law_1092 : decode cL_law 1092 = .ok (.iaload, 1) := dq_g545.2.2.2.2.2.2.2.2.1
theorem dL_law_1093 : decode cL_law 1093 = .ok (.invokevirtual 113, 3) := dq_g545.2.2.2.2.2.2.2.2.2.1
theorem dL_law_1096 : decode cL_law 1096 = .ok (.pop, 1) := dq_g545.2.2.2.2.2.2.2.2.2.2.1
theorem dL_law_1097 : decode cL_law 1097 = .ok (.aload_n 2, 1) := dq_g545.2.2.2.2.2.2.2.2.2.2.2.1
theorem dL_law_1098 : decode cL_law 1098 = .ok (.aload_n 0, 1) := dq_g545.2.2.2.2.2.2.2.2.2.2.2.2.1
theorem dL_law_1099 : decode cL_law 1099 = .ok (.iload_n 3, 1) := dq_g545.2.2.2.2.2.2.2.2.2.2.2.2.2.1
theorem dL_law_1100 : decode cL_law 1100 = .ok (.iconst 1, 1) := dq_g545.2.2.2.2.2.2.2.2.2.2.2.2.2.2.1
theorem dL_law_1101 : decode cL_law 1101 = .ok (.iadd, 1) := dq_g545.2.2.2.2.2.2.2.2.2.2.2.2.2.2.2.1
theorem dL_law_1102 : decode cL_law 1102 = .ok (.iaload, 1) := dq_g545.2.2.2.2.2.2.2.2.2.2.2.2.2.2.2.2.1
theorem dL_law_1103 : decode cL_law 1103 = .ok (.aload_n 0, 1) := dq_g545.2.2.2.2.2.2.2.2.2.2.2.2.2.2.2.2.2.1
theorem dL_law_1104 : decode cL_law 1104 = .ok (.iload_n 3, 1) := dq_g545.2.2.2.2.2.2.2.2.2.2.2.2.2.2.2.2.2.2.1
theorem dL_law_1105 : decode cL_law 1105 = .ok (.iconst 2, 1) := dq_g545.2.2.2.2.2.2.2.2.2.2.2.2.2.2.2.2.2.2.2.1
theorem dL_law_1106 : decode cL_law 1106 = .ok (.iadd, 1) := dq_g545.2.2.2.2.2.2.2.2.2.2.2.2.2.2.2.2.2.2.2.2.1
theorem dL_law_1107 : decode cL_law 1107 = .ok (.iaload, 1) := dq_g545.2.2.2.2.2.2.2.2.2.2.2.2.2.2.2.2.2.2.2.2.2.1
theorem dL_law_1108 : decode cL_law 1108 = .ok (.aload_n 0, 1) := dq_g545.2.2.2.2.2.2.2.2.2.2.2.2.2.2.2.2.2.2.2.2.2.2.1
theorem dL_law_1109 : decode cL_law 1109 = .ok (.iload_n 3, 1) := dq_g545.2.2.2.2.2.2.2.2.2.2.2.2.2.2.2.2.2.2.2.2.2.2.2.1
theorem dL_law_1110 : decode cL_law 1110 = .ok (.iconst 3, 1) := dq_g545.2.2.2.2.2.2.2.2.2.2.2.2.2.2.2.2.2.2.2.2.2.2.2.2.1
theorem dL_law_1111 : decode cL_law 1111 = .ok (.iadd, 1) := dq_g545.2.2.2.2.2.2.2.2.2.2.2.2.2.2.2.2.2.2.2.2.2.2.2.2.2.1
theorem dL_law_1112 : decode cL_law 1112 = .ok (.iaload, 1) := dq_g545.2.2.2.2.2.2.2.2.2.2.2.2.2.2.2.2.2.2.2.2.2.2.2.2.2.2.1
theorem dL_law_1113 : decode cL_law 1113 = .ok (.invokevirtual 116, 3) := dq_g545.2.2.2.2.2.2.2.2.2.2.2.2.2.2.2.2.2.2.2.2.2.2.2.2.2.2.2.1
theorem dL_law_1116 : decode cL_law 1116 = .ok (.pop, 1) := dq_g545.2.2.2.2.2.2.2.2.2.2.2.2.2.2.2.2.2.2.2.2.2.2.2.2.2.2.2.2.1
theorem dL_law_1117 : decode cL_law 1117 = .ok (.goto 392, 3) := dq_g545.2.2.2.2.2.2.2.2.2.2.2.2.2.2.2.2.2.2.2.2.2.2.2.2.2.2.2.2.2.1
theorem dq_g546 : decode cL_law 1120 = .ok (.aload_n 1, 1) ∧ decode cL_law 1121 = .ok (.aload_n 0, 1) ∧ decode cL_law 1122 = .ok (.iload_n 3, 1) ∧ decode cL_law 1123 = .ok (.iconst 1, 1) ∧ decode cL_law 1124 = .ok (.iadd, 1) ∧ decode cL_law 1125 = .ok (.iaload, 1) ∧ decode cL_law 1126 = .ok (.aload_n 0, 1) ∧ decode cL_law 1127 = .ok (.iload_n 3, 1) ∧ decode cL_law 1128 = .ok (.iconst 2, 1) ∧ decode cL_law 1129 = .ok (.iadd, 1) ∧ decode cL_law 1130 = .ok (.iaload, 1) ∧ decode cL_law 1131 = .ok (.aload_n 0, 1) ∧ decode cL_law 1132 = .ok (.iload_n 3, 1) ∧ decode cL_law 1133 = .ok (.iconst 3, 1) ∧ decode cL_law 1134 = .ok (.iadd, 1) ∧ decode cL_law 1135 = .ok (.iaload, 1) ∧ decode cL_law 1136 = .ok (.invokevirtual 117, 3) ∧ decode cL_law 1139 = .ok (.pop, 1) ∧ decode cL_law 1140 = .ok (.aload_n 2, 1) ∧ decode cL_law 1141 = .ok (.aload_n 0, 1) ∧ decode cL_law 1142 = .ok (.iload_n 3, 1) ∧ decode cL_law 1143 = .ok (.iconst 1, 1) ∧ decode cL_law 1144 = .ok (.iadd, 1) ∧ decode cL_law 1145 = .ok (.iaload, 1) ∧ decode cL_law 1146 = .ok (.aload_n 0, 1) ∧ decode cL_law 1147 = .ok (.iload_n 3, 1) ∧ decode cL_law 1148 = .ok (.iconst 2, 1) ∧ decode cL_law 1149 = .ok (.iadd, 1) ∧ decode cL_law 1150 = .ok (.iaload, 1) ∧ decode cL_law 1151 = .ok (.aload_n 0, 1) ∧ True := dqC_ok (c := cL_law) [(1120, 1, some (.aload_n 1)), (1121, 1, some (.aload_n 0)), (1122, 1, some (.iload_n 3)), (1123, 1, some (.iconst 1)), (1124, 1, some (.iadd)), (1125, 1, some (.iaload)), (1126, 1, some (.aload_n 0)), (1127, 1, some (.iload_n 3)), (1128, 1, some (.iconst 2)), (1129, 1, some (.iadd)), (1130, 1, some (.iaload)), (1131, 1, some (.aload_n 0)), (1132, 1, some (.iload_n 3)), (1133, 1, some (.iconst 3)), (1134, 1, some (.iadd)), (1135, 1, some (.iaload)), (1136, 3, some (.invokevirtual 117)), (1139, 1, some (.pop)), (1140, 1, some (.aload_n 2)), (1141, 1, some (.aload_n 0)), (1142, 1, some (.iload_n 3)), (1143, 1, some (.iconst 1)), (1144, 1, some (.iadd)), (1145, 1, some (.iaload)), (1146, 1, some (.aload_n 0)), (1147, 1, some (.iload_n 3)), (1148, 1, some (.iconst 2)), (1149, 1, some (.iadd)), (1150, 1, some (.iaload)), (1151, 1, some (.aload_n 0))] _ 1120 rfl (by decide +kernel)
theorem dL_law_1120 : decode cL_law 1120 = .ok (.aload_n 1, 1) := dq_g546.1
theorem dL_law_1121 : decode cL_law 1121 = .ok (.aload_n 0, 1) := dq_g546.2.1
theorem dL_law_1122 : decode cL_law 1122 = .ok (.iload_n 3, 1) := dq_g546.2.2.1
theorem dL_law_1123 : decode cL_law 1123 = .ok (.iconst 1, 1) := dq_g546.2.2.2.1
theorem dL_law_1124 : decode cL_law 1124 = .ok (.iadd, 1) := dq_g546.2.2.2.2.1
theorem dL_law_1125 : decode cL_law 1125 = .ok (.iaload, 1) := dq_g546.2.2.2.2.2.1
theorem dL_law_1126 : decode cL_law 1126 = .ok (.aload_n 0, 1) := dq_g546.2.2.2.2.2.2.1
theorem dL_law_1127 : decode cL_law 1127 = .ok (.iload_n 3, 1) := dq_g546.2.2.2.2.2.2.2.1
theorem dL_law_1128 : decode cL_law 1128 = .ok (.iconst 2, 1) := dq_g546.2.2.2.2.2.2.2.2.1
theorem dL_law_1129 : decode cL_law 1129 = .ok (.iadd, 1) := dq_g546.2.2.2.2.2.2.2.2.2.1
theorem dL_law_1130 : decode cL_law 1130 = .ok (.iaload, 1) := dq_g546.2.2.2.2.2.2.2.2.2.2.1
theorem dL_law_1131 : decode cL_law 1131 = .ok (.aload_n 0, 1) := dq_g546.2.2.2.2.2.2.2.2.2.2.2.1
theorem dL_law_1132 : decode cL_law 1132 = .ok (.iload_n 3, 1) := dq_g546.2.2.2.2.2.2.2.2.2.2.2.2.1
theorem dL_law_1133 : decode cL_law 1133 = .ok (.iconst 3, 1) := dq_g546.2.2.2.2.2.2.2.2.2.2.2.2.2.1
theorem dL_law_1134 : decode cL_law 1134 = .ok (.iadd, 1) := dq_g546.2.2.2.2.2.2.2.2.2.2.2.2.2.2.1
theorem dL_law_1135 : decode cL_law 1135 = .ok (.iaload, 1) := dq_g546.2.2.2.2.2.2.2.2.2.2.2.2.2.2.2.1
theorem dL_law_1136 : decode cL_law 1136 = .ok (.invokevirtual 117, 3) := dq_g546.2.2.2.2.2.2.2.2.2.2.2.2.2.2.2.2.1
theorem dL_law_1139 : decode cL_law 1139 = .ok (.pop, 1) := dq_g546.2.2.2.2.2.2.2.2.2.2.2.2.2.2.2.2.2.1
theorem dL_law_1140 : decode cL_law 1140 = .ok (.aload_n 2, 1) := dq_g546.2.2.2.2.2.2.2.2.2.2.2.2.2.2.2.2.2.2.1
theorem dL_law_1141 : decode cL_law 1141 = .ok (.aload_n 0, 1) := dq_g546.2.2.2.2.2.2.2.2.2.2.2.2.2.2.2.2.2.2.2.1
theorem dL_law_1142 : decode cL_law 1142 = .ok (.iload_n 3, 1) := dq_g546.2.2.2.2.2.2.2.2.2.2.2.2.2.2.2.2.2.2.2.2.1
theorem dL_law_1143 : decode cL_law 1143 = .ok (.iconst 1, 1) := dq_g546.2.2.2.2.2.2.2.2.2.2.2.2.2.2.2.2.2.2.2.2.2.1
theorem dL_law_1144 : decode cL_law 1144 = .ok (.iadd, 1) := dq_g546.2.2.2.2.2.2.2.2.2.2.2.2.2.2.2.2.2.2.2.2.2.2.1
theorem dL_law_1145 : decode cL_law 1145 = .ok (.iaload, 1) := dq_g546.2.2.2.2.2.2.2.2.2.2.2.2.2.2.2.2.2.2.2.2.2.2.2.1
theorem dL_law_1146 : decode cL_law 1146 = .ok (.aload_n 0, 1) := dq_g546.2.2.2.2.2.2.2.2.2.2.2.2.2.2.2.2.2.2.2.2.2.2.2.2.1
theorem dL_law_1147 : decode cL_law 1147 = .ok (.iload_n 3, 1) := dq_g546.2.2.2.2.2.2.2.2.2.2.2.2.2.2.2.2.2.2.2.2.2.2.2.2.2.1
theorem dL_law_1148 : decode cL_law 1148 = .ok (.iconst 2, 1) := dq_g546.2.2.2.2.2.2.2.2.2.2.2.2.2.2.2.2.2.2.2.2.2.2.2.2.2.2.1
theorem dL_law_1149 : decode cL_law 1149 = .ok (.iadd, 1) := dq_g546.2.2.2.2.2.2.2.2.2.2.2.2.2.2.2.2.2.2.2.2.2.2.2.2.2.2.2.1
theorem dL_law_1150 : decode cL_law 1150 = .ok (.iaload, 1) := dq_g546.2.2.2.2.2.2.2.2.2.2.2.2.2.2.2.2.2.2.2.2.2.2.2.2.2.2.2.2.1
theorem dL_law_1151 : decode cL_law 1151 = .ok (.aload_n 0, 1) := dq_g546.2.2.2.2.2.2.2.2.2.2.2.2.2.2.2.2.2.2.2.2.2.2.2.2.2.2.2.2.2.1
theorem dq_g547 : decode cL_law 1152 = .ok (.iload_n 3, 1) ∧ decode cL_law 1153 = .ok (.iconst 3, 1) ∧ decode cL_law 1154 = .ok (.iadd, 1) ∧ decode cL_law 1155 = .ok (.iaload, 1) ∧ decode cL_law 1156 = .ok (.invokevirtual 120, 3) ∧ decode cL_law 1159 = .ok (.pop, 1) ∧ decode cL_law 1160 = .ok (.goto 349, 3) ∧ decode cL_law 1163 = .ok (.aload_n 1, 1) ∧ decode cL_law 1164 = .ok (.aload_n 0, 1) ∧ decode cL_law 1165 = .ok (.iload_n 3, 1) ∧ decode cL_law 1166 = .ok (.iconst 1, 1) ∧ decode cL_law 1167 = .ok (.iadd, 1) ∧ decode cL_law 1168 = .ok (.iaload, 1) ∧ decode cL_law 1169 = .ok (.aload_n 0, 1) ∧ decode cL_law 1170 = .ok (.iload_n 3, 1) ∧ decode cL_law 1171 = .ok (.iconst 2, 1) ∧ decode cL_law 1172 = .ok (.iadd, 1) ∧ decode cL_law 1173 = .ok (.iaload, 1) ∧ decode cL_law 1174 = .ok (.aload_n 0, 1) ∧ decode cL_law 1175 = .ok (.iload_n 3, 1) ∧ decode cL_law 1176 = .ok (.iconst 3, 1) ∧ decode cL_law 1177 = .ok (.iadd, 1) ∧ decode cL_law 1178 = .ok (.iaload, 1) ∧ decode cL_law 1179 = .ok (.aload_n 0, 1) ∧ decode cL_law 1180 = .ok (.iload_n 3, 1) ∧ decode cL_law 1181 = .ok (.iconst 4, 1) ∧ decode cL_law 1182 = .ok (.iadd, 1) ∧ decode cL_law 1183 = .ok (.iaload, 1) ∧ decode cL_law 1184 = .ok (.invokevirtual 121, 3) ∧ decode cL_law 1187 = .ok (.pop, 1) ∧ True := dqC_ok (c := cL_law) [(1152, 1, some (.iload_n 3)), (1153, 1, some (.iconst 3)), (1154, 1, some (.iadd)), (1155, 1, some (.iaload)), (1156, 3, some (.invokevirtual 120)), (1159, 1, some (.pop)), (1160, 3, some (.goto 349)), (1163, 1, some (.aload_n 1)), (1164, 1, some (.aload_n 0)), (1165, 1, some (.iload_n 3)), (1166, 1, some (.iconst 1)), (1167, 1, some (.iadd)), (1168, 1, some (.iaload)), (1169, 1, some (.aload_n 0)), (1170, 1, some (.iload_n 3)), (1171, 1, some (.iconst 2)), (1172, 1, some (.iadd)), (1173, 1, some (.iaload)), (1174, 1, some (.aload_n 0)), (1175, 1, some (.iload_n 3)), (1176, 1, some (.iconst 3)), (1177, 1, some (.iadd)), (1178, 1, some (.iaload)), (1179, 1, some (.aload_n 0)), (1180, 1, some (.iload_n 3)), (1181, 1, some (.iconst 4)), (1182, 1, some (.iadd)), (1183, 1, some (.iaload)), (1184, 3, some (.invokevirtual 121)), (1187, 1, some (.pop))] _ 1152 rfl (by decide +kernel)
theorem dL_law_1152 : decode cL_law 1152 = .ok (.iload_n 3, 1) := dq_g547.1
theorem dL_law_1153 : decode cL_law 1153 = .ok (.iconst 3, 1) := dq_g547.2.1
theorem dL_law_1154 : decode cL_law 1154 = .ok (.iadd, 1) := dq_g547.2.2.1
theorem dL_law_1155 : decode cL_law 1155 = .ok (.iaload, 1) := dq_g547.2.2.2.1
theorem dL_law_1156 : decode cL_law 1156 = .ok (.invokevirtual 120, 3) := dq_g547.2.2.2.2.1
theorem dL_law_1159 : decode cL_law 1159 = .ok (.pop, 1) := dq_g547.2.2.2.2.2.1
theorem dL_law_1160 : decode cL_law 1160 = .ok (.goto 349, 3) := dq_g547.2.2.2.2.2.2.1
theorem dL_law_1163 : decode cL_law 1163 = .ok (.aload_n 1, 1) := dq_g547.2.2.2.2.2.2.2.1
theorem dL_law_1164 : decode cL_law 1164 = .ok (.aload_n 0, 1) := dq_g547.2.2.2.2.2.2.2.2.1
theorem dL_law_1165 : decode cL_law 1165 = .ok (.iload_n 3, 1) := dq_g547.2.2.2.2.2.2.2.2.2.1
theorem dL_law_1166 : decode cL_law 1166 = .ok (.iconst 1, 1) := dq_g547.2.2.2.2.2.2.2.2.2.2.1
theorem dL_law_1167 : decode cL_law 1167 = .ok (.iadd, 1) := dq_g547.2.2.2.2.2.2.2.2.2.2.2.1
theorem dL_law_1168 : decode cL_law 1168 = .ok (.iaload, 1) := dq_g547.2.2.2.2.2.2.2.2.2.2.2.2.1
theorem dL_law_1169 : decode cL_law 1169 = .ok (.aload_n 0, 1) := dq_g547.2.2.2.2.2.2.2.2.2.2.2.2.2.1
theorem dL_law_1170 : decode cL_law 1170 = .ok (.iload_n 3, 1) := dq_g547.2.2.2.2.2.2.2.2.2.2.2.2.2.2.1
theorem dL_law_1171 : decode cL_law 1171 = .ok (.iconst 2, 1) := dq_g547.2.2.2.2.2.2.2.2.2.2.2.2.2.2.2.1
theorem dL_law_1172 : decode cL_law 1172 = .ok (.iadd, 1) := dq_g547.2.2.2.2.2.2.2.2.2.2.2.2.2.2.2.2.1
theorem dL_law_1173 : decode cL_law 1173 = .ok (.iaload, 1) := dq_g547.2.2.2.2.2.2.2.2.2.2.2.2.2.2.2.2.2.1
theorem dL_law_1174 : decode cL_law 1174 = .ok (.aload_n 0, 1) := dq_g547.2.2.2.2.2.2.2.2.2.2.2.2.2.2.2.2.2.2.1
theorem dL_law_1175 : decode cL_law 1175 = .ok (.iload_n 3, 1) := dq_g547.2.2.2.2.2.2.2.2.2.2.2.2.2.2.2.2.2.2.2.1
theorem dL_law_1176 : decode cL_law 1176 = .ok (.iconst 3, 1) := dq_g547.2.2.2.2.2.2.2.2.2.2.2.2.2.2.2.2.2.2.2.2.1
theorem dL_law_1177 : decode cL_law 1177 = .ok (.iadd, 1) := dq_g547.2.2.2.2.2.2.2.2.2.2.2.2.2.2.2.2.2.2.2.2.2.1
theorem dL_law_1178 : decode cL_law 1178 = .ok (.iaload, 1) := dq_g547.2.2.2.2.2.2.2.2.2.2.2.2.2.2.2.2.2.2.2.2.2.2.1
theorem dL_law_1179 : decode cL_law 1179 = .ok (.aload_n 0, 1) := dq_g547.2.2.2.2.2.2.2.2.2.2.2.2.2.2.2.2.2.2.2.2.2.2.2.1
theorem dL_law_1180 : decode cL_law 1180 = .ok (.iload_n 3, 1) := dq_g547.2.2.2.2.2.2.2.2.2.2.2.2.2.2.2.2.2.2.2.2.2.2.2.2.1
theorem dL_law_1181 : decode cL_law 1181 = .ok (.iconst 4, 1) := dq_g547.2.2.2.2.2.2.2.2.2.2.2.2.2.2.2.2.2.2.2.2.2.2.2.2.2.1
theorem dL_law_1182 : decode cL_law 1182 = .ok (.iadd, 1) := dq_g547.2.2.2.2.2.2.2.2.2.2.2.2.2.2.2.2.2.2.2.2.2.2.2.2.2.2.1
theorem dL_law_1183 : decode cL_law 1183 = .ok (.iaload, 1) := dq_g547.2.2.2.2.2.2.2.2.2.2.2.2.2.2.2.2.2.2.2.2.2.2.2.2.2.2.2.1
theorem dL_law_1184 : decode cL_law 1184 = .ok (.invokevirtual 121, 3) := dq_g547.2.2.2.2.2.2.2.2.2.2.2.2.2.2.2.2.2.2.2.2.2.2.2.2.2.2.2.2.1
theorem dL_law_1187 : decode cL_law 1187 = .ok (.pop, 1) := dq_g547.2.2.2.2.2.2.2.2.2.2.2.2.2.2.2.2.2.2.2.2.2.2.2.2.2.2.2.2.2.1
theorem dq_g548 : decode cL_law 1188 = .ok (.aload_n 2, 1) ∧ decode cL_law 1189 = .ok (.aload_n 0, 1) ∧ decode cL_law 1190 = .ok (.iload_n 3, 1) ∧ decode cL_law 1191 = .ok (.iconst 1, 1) ∧ decode cL_law 1192 = .ok (.iadd, 1) ∧ decode cL_law 1193 = .ok (.iaload, 1) ∧ decode cL_law 1194 = .ok (.aload_n 0, 1) ∧ decode cL_law 1195 = .ok (.iload_n 3, 1) ∧ decode cL_law 1196 = .ok (.iconst 2, 1) ∧ decode cL_law 1197 = .ok (.iadd, 1) ∧ decode cL_law 1198 = .ok (.iaload, 1) ∧ decode cL_law 1199 = .ok (.aload_n 0, 1) ∧ decode cL_law 1200 = .ok (.iload_n 3, 1) ∧ decode cL_law 1201 = .ok (.iconst 3, 1) ∧ decode cL_law 1202 = .ok (.iadd, 1) ∧ decode cL_law 1203 = .ok (.iaload, 1) ∧ decode cL_law 1204 = .ok (.aload_n 0, 1) ∧ decode cL_law 1205 = .ok (.iload_n 3, 1) ∧ decode cL_law 1206 = .ok (.iconst 4, 1) ∧ decode cL_law 1207 = .ok (.iadd, 1) ∧ decode cL_law 1208 = .ok (.iaload, 1) ∧ decode cL_law 1209 = .ok (.invokevirtual 124, 3) ∧ decode cL_law 1212 = .ok (.pop, 1) ∧ decode cL_law 1213 = .ok (.goto 296, 3) ∧ decode cL_law 1216 = .ok (.aload_n 1, 1) ∧ decode cL_law 1217 = .ok (.aload_n 0, 1) ∧ decode cL_law 1218 = .ok (.iload_n 3, 1) ∧ decode cL_law 1219 = .ok (.iconst 1, 1) ∧ decode cL_law 1220 = .ok (.iadd, 1) ∧ decode cL_law 1221 = .ok (.iaload, 1) ∧ True := dqC_ok (c := cL_law) [(1188, 1, some (.aload_n 2)), (1189, 1, some (.aload_n 0)), (1190, 1, some (.iload_n 3)), (1191, 1, some (.iconst 1)), (1192, 1, some (.iadd)), (1193, 1, some (.iaload)), (1194, 1, some (.aload_n 0)), (1195, 1, some (.iload_n 3)), (1196, 1, some (.iconst 2)), (1197, 1, some (.iadd)), (1198, 1, some (.iaload)), (1199, 1, some (.aload_n 0)), (1200, 1, some (.iload_n 3)), (1201, 1, some (.iconst 3)), (1202, 1, some (.iadd)), (1203, 1, some (.iaload)), (1204, 1, some (.aload_n 0)), (1205, 1, some (.iload_n 3)), (1206, 1, some (.iconst 4)), (1207, 1, some (.iadd)), (1208, 1, some (.iaload)), (1209, 3, some (.invokevirtual 124)), (1212, 1, some (.pop)), (1213, 3, some (.goto 296)), (1216, 1, some (.aload_n 1)), (1217, 1, some (.aload_n 0)), (1218, 1, some (.iload_n 3)), (1219, 1, some (.iconst 1)), (1220, 1, some (.iadd)), (1221, 1, some (.iaload))] _ 1188 rfl (by decide +kernel)
theorem dL_law_1188 : decode cL_law 1188 = .ok (.aload_n 2, 1) := dq_g548.1
theorem dL_law_1189 : decode cL_law 1189 = .ok (.aload_n 0, 1) := dq_g548.2.1
theorem dL_law_1190 : decode cL_law 1190 = .ok (.iload_n 3, 1) := dq_g548.2.2.1
theorem dL_law_1191 : decode cL_law 1191 = .ok (.iconst 1, 1) := dq_g548.2.2.2.1
theorem dL_law_1192 : decode cL_law 1192 = .ok (.iadd, 1) := dq_g548.2.2.2.2.1
theorem dL_law_1193 : decode cL_law 1193 = .ok (.iaload, 1) := dq_g548.2.2.2.2.2.1
theorem dL_law_1194 : decode cL_law 1194 = .ok (.aload_n 0, 1) := dq_g548.2.2.2.2.2.2.1
theorem dL_law_1195 : decode cL_law 1195 = .ok (.iload_n 3, 1) := dq_g548.2.2.2.2.2.2.2.1
theorem dL_law_1196 : decode cL_law 1196 = .ok (.iconst 2, 1) := dq_g548.2.2.2.2.2.2.2.2.1
theorem dL_law_1197 : decode cL_law 1197 = .ok (.iadd, 1) := dq_g548.2.2.2.2.2.2.2.2.2.1
theorem dL_law_1198 : decode cL_law 1198 = .ok (.iaload, 1) := dq_g548.2.2.2.2.2.2.2.2.2.2.1
theorem dL_law_1199 : decode cL_law 1199 = .ok (.aload_n 0, 1) := dq_g548.2.2.2.2.2.2.2.2.2.2.2.1
theorem dL_law_1200 : decode cL_law 1200 = .ok (.iload_n 3, 1) := dq_g548.2.2.2.2.2.2.2.2.2.2.2.2.1
theorem dL_law_1201 : decode cL_law 1201 = .ok (.iconst 3, 1) := dq_g548.2.2.2.2.2.2.2.2.2.2.2.2.2.1
theorem dL_law_1202 : decode cL_law 1202 = .ok (.iadd, 1) := dq_g548.2.2.2.2.2.2.2.2.2.2.2.2.2.2.1
theorem dL_law_1203 : decode cL_law 1203 = .ok (.iaload, 1) := dq_g548.2.2.2.2.2.2.2.2.2.2.2.2.2.2.2.1
theorem dL_law_1204 : decode cL_law 1204 = .ok (.aload_n 0, 1) := dq_g548.2.2.2.2.2.2.2.2.2.2.2.2.2.2.2.2.1
theorem dL_law_1205 : decode cL_law 1205 = .ok (.iload_n 3, 1) := dq_g548.2.2.2.2.2.2.2.2.2.2.2.2.2.2.2.2.2.1
theorem dL_law_1206 : decode cL_law 1206 = .ok (.iconst 4, 1) := dq_g548.2.2.2.2.2.2.2.2.2.2.2.2.2.2.2.2.2.2.1
theorem dL_law_1207 : decode cL_law 1207 = .ok (.iadd, 1) := dq_g548.2.2.2.2.2.2.2.2.2.2.2.2.2.2.2.2.2.2.2.1
theorem dL_law_1208 : decode cL_law 1208 = .ok (.iaload, 1) := dq_g548.2.2.2.2.2.2.2.2.2.2.2.2.2.2.2.2.2.2.2.2.1
theorem dL_law_1209 : decode cL_law 1209 = .ok (.invokevirtual 124, 3) := dq_g548.2.2.2.2.2.2.2.2.2.2.2.2.2.2.2.2.2.2.2.2.2.1
theorem dL_law_1212 : decode cL_law 1212 = .ok (.pop, 1) := dq_g548.2.2.2.2.2.2.2.2.2.2.2.2.2.2.2.2.2.2.2.2.2.2.1
theorem dL_law_1213 : decode cL_law 1213 = .ok (.goto 296, 3) := dq_g548.2.2.2.2.2.2.2.2.2.2.2.2.2.2.2.2.2.2.2.2.2.2.2.1
theorem dL_law_1216 : decode cL_law 1216 = .ok (.aload_n 1, 1) := dq_g548.2.2.2.2.2.2.2.2.2.2.2.2.2.2.2.2.2.2.2.2.2.2.2.2.1
theorem dL_law_1217 : decode cL_law 1217 = .ok (.aload_n 0, 1) := dq_g548.2.2.2.2.2.2.2.2.2.2.2.2.2.2.2.2.2.2.2.2.2.2.2.2.2.1
theorem dL_law_1218 : decode cL_law 1218 = .ok (.iload_n 3, 1) := dq_g548.2.2.2.2.2.2.2.2.2.2.2.2.2.2.2.2.2.2.2.2.2.2.2.2.2.2.1
theorem dL_law_1219 : decode cL_law 1219 = .ok (.iconst 1, 1) := dq_g548.2.2.2.2.2.2.2.2.2.2.2.2.2.2.2.2.2.2.2.2.2.2.2.2.2.2.2.1
theorem dL_law_1220 : decode cL_law 1220 = .ok (.iadd, 1) := dq_g548.2.2.2.2.2.2.2.2.2.2.2.2.2.2.2.2.2.2.2.2.2.2.2.2.2.2.2.2.1
theorem dL_law_1221 : decode cL_law 1221 = .ok (.iaload, 1) := dq_g548.2.2.2.2.2.2.2.2.2.2.2.2.2.2.2.2.2.2.2.2.2.2.2.2.2.2.2.2.2.1
theorem dq_g549 : decode cL_law 1222 = .ok (.aload_n 0, 1) ∧ decode cL_law 1223 = .ok (.iload_n 3, 1) ∧ decode cL_law 1224 = .ok (.iconst 2, 1) ∧ decode cL_law 1225 = .ok (.iadd, 1) ∧ decode cL_law 1226 = .ok (.iaload, 1) ∧ decode cL_law 1227 = .ok (.invokevirtual 125, 3) ∧ decode cL_law 1230 = .ok (.pop, 1) ∧ decode cL_law 1231 = .ok (.aload_n 2, 1) ∧ decode cL_law 1232 = .ok (.aload_n 0, 1) ∧ decode cL_law 1233 = .ok (.iload_n 3, 1) ∧ decode cL_law 1234 = .ok (.iconst 1, 1) ∧ decode cL_law 1235 = .ok (.iadd, 1) ∧ decode cL_law 1236 = .ok (.iaload, 1) ∧ decode cL_law 1237 = .ok (.aload_n 0, 1) ∧ decode cL_law 1238 = .ok (.iload_n 3, 1) ∧ decode cL_law 1239 = .ok (.iconst 2, 1) ∧ decode cL_law 1240 = .ok (.iadd, 1) ∧ decode cL_law 1241 = .ok (.iaload, 1) ∧ decode cL_law 1242 = .ok (.invokevirtual 128, 3) ∧ decode cL_law 1245 = .ok (.pop, 1) ∧ decode cL_law 1246 = .ok (.goto 263, 3) ∧ decode cL_law 1249 = .ok (.aload_n 1, 1) ∧ decode cL_law 1250 = .ok (.aload_n 0, 1) ∧ decode cL_law 1251 = .ok (.iload_n 3, 1) ∧ decode cL_law 1252 = .ok (.iconst 1, 1) ∧ decode cL_law 1253 = .ok (.iadd, 1) ∧ decode cL_law 1254 = .ok (.iaload, 1) ∧ decode cL_law 1255 = .ok (.aload_n 0, 1) ∧ decode cL_law 1256 = .ok (.iload_n 3, 1) ∧ decode cL_law 1257 = .ok (.iconst 2, 1) ∧ True := dqC_ok (c := cL_law) [(1222, 1, some (.aload_n 0)), (1223, 1, some (.iload_n 3)), (1224, 1, some (.iconst 2)), (1225, 1, some (.iadd)), (1226, 1, some (.iaload)), (1227, 3, some (.invokevirtual 125)), (1230, 1, some (.pop)), (1231, 1, some (.aload_n 2)), (1232, 1, some (.aload_n 0)), (1233, 1, some (.iload_n 3)), (1234, 1, some (.iconst 1)), (1235, 1, some (.iadd)), (1236, 1, some (.iaload)), (1237, 1, some (.aload_n 0)), (1238, 1, some (.iload_n 3)), (1239, 1, some (.iconst 2)), (1240, 1, some (.iadd)), (1241, 1, some (.iaload)), (1242, 3, some (.invokevirtual 128)), (1245, 1, some (.pop)), (1246, 3, some (.goto 263)), (1249, 1, some (.aload_n 1)), (1250, 1, some (.aload_n 0)), (1251, 1, some (.iload_n 3)), (1252, 1, some (.iconst 1)), (1253, 1, some (.iadd)), (1254, 1, some (.iaload)), (1255, 1, some (.aload_n 0)), (1256, 1, some (.iload_n 3)), (1257, 1, some (.iconst 2))] _ 1222 rfl (by decide +kernel)
theorem dL_law_1222 : decode cL_law 1222 = .ok (.aload_n 0, 1) := dq_g549.1
theorem dL_law_1223 : decode cL_law 1223 = .ok (.iload_n 3, 1) := dq_g549.2.1
theorem dL_law_1224 : decode cL_law 1224 = .ok (.iconst 2, 1) := dq_g549.2.2.1
theorem dL_law_1225 : decode cL_law 1225 = .ok (.iadd, 1) := dq_g549.2.2.2.1
theorem dL_law_1226 : decode cL_law 1226 = .ok (.iaload, 1) := dq_g549.2.2.2.2.1
theorem dL_law_1227 : decode cL_law 1227 = .ok (.invokevirtual 125, 3) := dq_g549.2.2.2.2.2.1
theorem dL_law_1230 : decode cL_law 1230 = .ok (.pop, 1) := dq_g549.2.2.2.2.2.2.1
theorem dL_law_1231 : decode cL_law 1231 = .ok (.aload_n 2, 1) := dq_g549.2.2.2.2.2.2.2.1
theorem dL_law_1232 : decode cL_law 1232 = .ok (.aload_n 0, 1) := dq_g549.2.2.2.2.2.2.2.2.1
theorem dL_law_1233 : decode cL_law 1233 = .ok (.iload_n 3, 1) := dq_g549.2.2.2.2.2.2.2.2.2.1
theorem dL_law_1234 : decode cL_law 1234 = .ok (.iconst 1, 1) := dq_g549.2.2.2.2.2.2.2.2.2.2.1
theorem dL_law_1235 : decode cL_law 1235 = .ok (.iadd, 1) := dq_g549.2.2.2.2.2.2.2.2.2.2.2.1
theorem dL_law_1236 : decode cL_law 1236 = .ok (.iaload, 1) := dq_g549.2.2.2.2.2.2.2.2.2.2.2.2.1
theorem dL_law_1237 : decode cL_law 1237 = .ok (.aload_n 0, 1) := dq_g549.2.2.2.2.2.2.2.2.2.2.2.2.2.1
theorem dL_law_1238 : decode cL_law 1238 = .ok (.iload_n 3, 1) := dq_g549.2.2.2.2.2.2.2.2.2.2.2.2.2.2.1
theorem dL_law_1239 : decode cL_law 1239 = .ok (.iconst 2, 1) := dq_g549.2.2.2.2.2.2.2.2.2.2.2.2.2.2.2.1
theorem dL_law_1240 : decode cL_law 1240 = .ok (.iadd, 1) := dq_g549.2.2.2.2.2.2.2.2.2.2.2.2.2.2.2.2.1
theorem dL_law_1241 : decode cL_law 1241 = .ok (.iaload, 1) := dq_g549.2.2.2.2.2.2.2.2.2.2.2.2.2.2.2.2.2.1
theorem dL_law_1242 : decode cL_law 1242 = .ok (.invokevirtual 128, 3) := dq_g549.2.2.2.2.2.2.2.2.2.2.2.2.2.2.2.2.2.2.1
theorem dL_law_1245 : decode cL_law 1245 = .ok (.pop, 1) := dq_g549.2.2.2.2.2.2.2.2.2.2.2.2.2.2.2.2.2.2.2.1
theorem dL_law_1246 : decode cL_law 1246 = .ok (.goto 263, 3) := dq_g549.2.2.2.2.2.2.2.2.2.2.2.2.2.2.2.2.2.2.2.2.1
theorem dL_law_1249 : decode cL_law 1249 = .ok (.aload_n 1, 1) := dq_g549.2.2.2.2.2.2.2.2.2.2.2.2.2.2.2.2.2.2.2.2.2.1
theorem dL_law_1250 : decode cL_law 1250 = .ok (.aload_n 0, 1) := dq_g549.2.2.2.2.2.2.2.2.2.2.2.2.2.2.2.2.2.2.2.2.2.2.1
theorem dL_law_1251 : decode cL_law 1251 = .ok (.iload_n 3, 1) := dq_g549.2.2.2.2.2.2.2.2.2.2.2.2.2.2.2.2.2.2.2.2.2.2.2.1
theorem dL_law_1252 : decode cL_law 1252 = .ok (.iconst 1, 1) := dq_g549.2.2.2.2.2.2.2.2.2.2.2.2.2.2.2.2.2.2.2.2.2.2.2.2.1
theorem dL_law_1253 : decode cL_law 1253 = .ok (.iadd, 1) := dq_g549.2.2.2.2.2.2.2.2.2.2.2.2.2.2.2.2.2.2.2.2.2.2.2.2.2.1
theorem dL_law_1254 : decode cL_law 1254 = .ok (.iaload, 1) := dq_g549.2.2.2.2.2.2.2.2.2.2.2.2.2.2.2.2.2.2.2.2.2.2.2.2.2.2.1
theorem dL_law_1255 : decode cL_law 1255 = .ok (.aload_n 0, 1) := dq_g549.2.2.2.2.2.2.2.2.2.2.2.2.2.2.2.2.2.2.2.2.2.2.2.2.2.2.2.1
theorem dL_law_1256 : decode cL_law 1256 = .ok (.iload_n 3, 1) := dq_g549.2.2.2.2.2.2.2.2.2.2.2.2.2.2.2.2.2.2.2.2.2.2.2.2.2.2.2.2.1
theorem dL_law_1257 : decode cL_law 1257 = .ok (.iconst 2, 1) := dq_g549.2.2.2.2.2.2.2.2.2.2.2.2.2.2.2.2.2.2.2.2.2.2.2.2.2.2.2.2.2.1
theorem dq_g550 : decode cL_law 1258 = .ok (.iadd, 1) ∧ decode cL_law 1259 = .ok (.iaload, 1) ∧ decode cL_law 1260 = .ok (.invokevirtual 129, 3) ∧ decode cL_law 1263 = .ok (.pop, 1) ∧ decode cL_law 1264 = .ok (.aload_n 2, 1) ∧ decode cL_law 1265 = .ok (.aload_n 0, 1) ∧ decode cL_law 1266 = .ok (.iload_n 3, 1) ∧ decode cL_law 1267 = .ok (.iconst 1, 1) ∧ decode cL_law 1268 = .ok (.iadd, 1) ∧ decode cL_law 1269 = .ok (.iaload, 1) ∧ decode cL_law 1270 = .ok (.aload_n 0, 1) ∧ decode cL_law 1271 = .ok (.iload_n 3, 1) ∧ decode cL_law 1272 = .ok (.iconst 2, 1) ∧ decode cL_law 1273 = .ok (.iadd, 1) ∧ decode cL_law 1274 = .ok (.iaload, 1) ∧ decode cL_law 1275 = .ok (.invokevirtual 132, 3) ∧ decode cL_law 1278 = .ok (.pop, 1) ∧ decode cL_law 1279 = .ok (.goto 230, 3) ∧ decode cL_law 1282 = .ok (.aload_n 1, 1) ∧ decode cL_law 1283 = .ok (.aload_n 0, 1) ∧ decode cL_law 1284 = .ok (.iload_n 3, 1) ∧ decode cL_law 1285 = .ok (.iconst 1, 1) ∧ decode cL_law 1286 = .ok (.iadd, 1) ∧ decode cL_law 1287 = .ok (.iaload, 1) ∧ decode cL_law 1288 = .ok (.aload_n 0, 1) ∧ decode cL_law 1289 = .ok (.iload_n 3, 1) ∧ decode cL_law 1290 = .ok (.iconst 2, 1) ∧ decode cL_law 1291 = .ok (.iadd, 1) ∧ decode cL_law 1292 = .ok (.iaload, 1) ∧ decode cL_law 1293 = .ok (.invokevirtual 133, 3) ∧ True := dqC_ok (c := cL_law) [(1258, 1, some (.iadd)), (1259, 1, some (.iaload)), (1260, 3, some (.invokevirtual 129)), (1263, 1, some (.pop)), (1264, 1, some (.aload_n 2)), (1265, 1, some (.aload_n 0)), (1266, 1, some (.iload_n 3)), (1267, 1, some (.iconst 1)), (1268, 1, some (.iadd)), (1269, 1, some (.iaload)), (1270, 1, some (.aload_n 0)), (1271, 1, some (.iload_n 3)), (1272, 1, some (.iconst 2)), (1273, 1, some (.iadd)), (1274, 1, some (.iaload)), (1275, 3, some (.invokevirtual 132)), (1278, 1, some (.pop)), (1279, 3, some (.goto 230)), (1282, 1, some (.aload_n 1)), (1283, 1, some (.aload_n 0)), (1284, 1, some (.iload_n 3)), (1285, 1, some (.iconst 1)), (1286, 1, some (.iadd)), (1287, 1, some (.iaload)), (1288, 1, some (.aload_n 0)), (1289, 1, some (.iload_n 3)), (1290, 1, some (.iconst 2)), (1291, 1, some (.iadd)), (1292, 1, some (.iaload)), (1293, 3, some (.invokevirtual 133))] _ 1258 rfl (by decide +kernel)
theorem dL_law_1258 : decode cL_law 1258 = .ok (.iadd, 1) := dq_g550.1
theorem dL_law_1259 : decode cL_law 1259 = .ok (.iaload, 1) := dq_g550.2.1
theorem dL_law_1260 : decode cL_law 1260 = .ok (.invokevirtual 129, 3) := dq_g550.2.2.1
theorem dL_law_1263 : decode cL_law 1263 = .ok (.pop, 1) := dq_g550.2.2.2.1
theorem dL_law_1264 : decode cL_law 1264 = .ok (.aload_n 2, 1) := dq_g550.2.2.2.2.1
theorem dL_law_1265 : decode cL_law 1265 = .ok (.aload_n 0, 1) := dq_g550.2.2.2.2.2.1
theorem dL_law_1266 : decode cL_law 1266 = .ok (.iload_n 3, 1) := dq_g550.2.2.2.2.2.2.1
theorem dL_law_1267 : decode cL_law 1267 = .ok (.iconst 1, 1) := dq_g550.2.2.2.2.2.2.2.1
theorem dL_law_1268 : decode cL_law 1268 = .ok (.iadd, 1) := dq_g550.2.2.2.2.2.2.2.2.1
theorem dL_law_1269 : decode cL_law 1269 = .ok (.iaload, 1) := dq_g550.2.2.2.2.2.2.2.2.2.1
theorem dL_law_1270 : decode cL_law 1270 = .ok (.aload_n 0, 1) := dq_g550.2.2.2.2.2.2.2.2.2.2.1
theorem dL_law_1271 : decode cL_law 1271 = .ok (.iload_n 3, 1) := dq_g550.2.2.2.2.2.2.2.2.2.2.2.1
theorem dL_law_1272 : decode cL_law 1272 = .ok (.iconst 2, 1) := dq_g550.2.2.2.2.2.2.2.2.2.2.2.2.1
theorem dL_law_1273 : decode cL_law 1273 = .ok (.iadd, 1) := dq_g550.2.2.2.2.2.2.2.2.2.2.2.2.2.1
theorem dL_law_1274 : decode cL_law 1274 = .ok (.iaload, 1) := dq_g550.2.2.2.2.2.2.2.2.2.2.2.2.2.2.1
theorem dL_law_1275 : decode cL_law 1275 = .ok (.invokevirtual 132, 3) := dq_g550.2.2.2.2.2.2.2.2.2.2.2.2.2.2.2.1
theorem dL_law_1278 : decode cL_law 1278 = .ok (.pop, 1) := dq_g550.2.2.2.2.2.2.2.2.2.2.2.2.2.2.2.2.1
theorem dL_law_1279 : decode cL_law 1279 = .ok (.goto 230, 3) := dq_g550.2.2.2.2.2.2.2.2.2.2.2.2.2.2.2.2.2.1
theorem dL_law_1282 : decode cL_law 1282 = .ok (.aload_n 1, 1) := dq_g550.2.2.2.2.2.2.2.2.2.2.2.2.2.2.2.2.2.2.1
theorem dL_law_1283 : decode cL_law 1283 = .ok (.aload_n 0, 1) := dq_g550.2.2.2.2.2.2.2.2.2.2.2.2.2.2.2.2.2.2.2.1
theorem dL_law_1284 : decode cL_law 1284 = .ok (.iload_n 3, 1) := dq_g550.2.2.2.2.2.2.2.2.2.2.2.2.2.2.2.2.2.2.2.2.1
theorem dL_law_1285 : decode cL_law 1285 = .ok (.iconst 1, 1) := dq_g550.2.2.2.2.2.2.2.2.2.2.2.2.2.2.2.2.2.2.2.2.2.1
theorem dL_law_1286 : decode cL_law 1286 = .ok (.iadd, 1) := dq_g550.2.2.2.2.2.2.2.2.2.2.2.2.2.2.2.2.2.2.2.2.2.2.1
theorem dL_law_1287 : decode cL_law 1287 = .ok (.iaload, 1) := dq_g550.2.2.2.2.2.2.2.2.2.2.2.2.2.2.2.2.2.2.2.2.2.2.2.1
theorem dL_law_1288 : decode cL_law 1288 = .ok (.aload_n 0, 1) := dq_g550.2.2.2.2.2.2.2.2.2.2.2.2.2.2.2.2.2.2.2.2.2.2.2.2.1
theorem dL_law_1289 : decode cL_law 1289 = .ok (.iload_n 3, 1) := dq_g550.2.2.2.2.2.2.2.2.2.2.2.2.2.2.2.2.2.2.2.2.2.2.2.2.2.1
theorem dL_law_1290 : decode cL_law 1290 = .ok (.iconst 2, 1) := dq_g550.2.2.2.2.2.2.2.2.2.2.2.2.2.2.2.2.2.2.2.2.2.2.2.2.2.2.1
theorem dL_law_1291 : decode cL_law 1291 = .ok (.iadd, 1) := dq_g550.2.2.2.2.2.2.2.2.2.2.2.2.2.2.2.2.2.2.2.2.2.2.2.2.2.2.2.1
theorem dL_law_1292 : decode cL_law 1292 = .ok (.iaload, 1) := dq_g550.2.2.2.2.2.2.2.2.2.2.2.2.2.2.2.2.2.2.2.2.2.2.2.2.2.2.2.2.1
theorem dL_law_1293 : decode cL_law 1293 = .ok (.invokevirtual 133, 3) := dq_g550.2.2.2.2.2.2.2.2.2.2.2.2.2.2.2.2.2.2.2.2.2.2.2.2.2.2.2.2.2.1
theorem dq_g551 : decode cL_law 1296 = .ok (.pop, 1) ∧ decode cL_law 1297 = .ok (.aload_n 2, 1) ∧ decode cL_law 1298 = .ok (.aload_n 0, 1) ∧ decode cL_law 1299 = .ok (.iload_n 3, 1) ∧ decode cL_law 1300 = .ok (.iconst 1, 1) ∧ decode cL_law 1301 = .ok (.iadd, 1) ∧ decode cL_law 1302 = .ok (.iaload, 1) ∧ decode cL_law 1303 = .ok (.aload_n 0, 1) ∧ decode cL_law 1304 = .ok (.iload_n 3, 1) ∧ decode cL_law 1305 = .ok (.iconst 2, 1) ∧ decode cL_law 1306 = .ok (.iadd, 1) ∧ decode cL_law 1307 = .ok (.iaload, 1) ∧ decode cL_law 1308 = .ok (.invokevirtual 136, 3) ∧ decode cL_law 1311 = .ok (.pop, 1) ∧ decode cL_law 1312 = .ok (.goto 197, 3) ∧ decode cL_law 1315 = .ok (.aload_n 1, 1) ∧ decode cL_law 1316 = .ok (.aload_n 0, 1) ∧ decode cL_law 1317 = .ok (.iload_n 3, 1) ∧ decode cL_law 1318 = .ok (.iconst 1, 1) ∧ decode cL_law 1319 = .ok (.iadd, 1) ∧ decode cL_law 1320 = .ok (.iaload, 1) ∧ decode cL_law 1321 = .ok (.aload_n 0, 1) ∧ decode cL_law 1322 = .ok (.iload_n 3, 1) ∧ decode cL_law 1323 = .ok (.iconst 2, 1) ∧ decode cL_law 1324 = .ok (.iadd, 1) ∧ decode cL_law 1325 = .ok (.iaload, 1) ∧ decode cL_law 1326 = .ok (.invokevirtual 137, 3) ∧ decode cL_law 1329 = .ok (.pop, 1) ∧ decode cL_law 1330 = .ok (.aload_n 2, 1) ∧ decode cL_law 1331 = .ok (.aload_n 0, 1) ∧ True := dqC_ok (c := cL_law) [(1296, 1, some (.pop)), (1297, 1, some (.aload_n 2)), (1298, 1, some (.aload_n 0)), (1299, 1, some (.iload_n 3)), (1300, 1, some (.iconst 1)), (1301, 1, some (.iadd)), (1302, 1, some (.iaload)), (1303, 1, some (.aload_n 0)), (1304, 1, some (.iload_n 3)), (1305, 1, some (.iconst 2)), (1306, 1, some (.iadd)), (1307, 1, some (.iaload)), (1308, 3, some (.invokevirtual 136)), (1311, 1, some (.pop)), (1312, 3, some (.goto 197)), (1315, 1, some (.aload_n 1)), (1316, 1, some (.aload_n 0)), (1317, 1, some (.iload_n 3)), (1318, 1, some (.iconst 1)), (1319, 1, some (.iadd)), (1320, 1, some (.iaload)), (1321, 1, some (.aload_n 0)), (1322, 1, some (.iload_n 3)), (1323, 1, some (.iconst 2)), (1324, 1, some (.iadd)), (1325, 1, some (.iaload)), (1326, 3, some (.invokevirtual 137)), (1329, 1, some (.pop)), (1330, 1, some (.aload_n 2)), (1331, 1, some (.aload_n 0))] _ 1296 rfl (by decide +kernel)
theorem dL_law_1296 : decode cL_law 1296 = .ok (.pop, 1) := dq_g551.1
theorem dL_law_1297 : decode cL_law 1297 = .ok (.aload_n 2, 1) := dq_g551.2.1
theorem dL_law_1298 : decode cL_law 1298 = .ok (.aload_n 0, 1) := dq_g551.2.2.1
theorem dL_law_1299 : decode cL_law 1299 = .ok (.iload_n 3, 1) := dq_g551.2.2.2.1
theorem dL_law_1300 : decode cL_law 1300 = .ok (.iconst 1, 1) := dq_g551.2.2.2.2.1
theorem dL_law_1301 : decode cL_law 1301 = .ok (.iadd, 1) := dq_g551.2.2.2.2.2.1
theorem dL_law_1302 : decode cL_law 1302 = .ok (.iaload, 1) := dq_g551.2.2.2.2.2.2.1
theorem dL_law_1303 : decode cL_law 1303 = .ok (.aload_n 0, 1) := dq_g551.2.2.2.2.2.2.2.1
theorem dL_law_1304 : decode cL_law 1304 = .ok (.iload_n 3, 1) := dq_g551.2.2.2.2.2.2.2.2.1
theorem dL_law_1305 : decode cL_law 1305 = .ok (.iconst 2, 1) := dq_g551.2.2.2.2.2.2.2.2.2.1
theorem dL_law_1306 : decode cL_law 1306 = .ok (.iadd, 1) := dq_g551.2.2.2.2.2.2.2.2.2.2.1
theorem dL_law_1307 : decode cL_law 1307 = .ok (.iaload, 1) := dq_g551.2.2.2.2.2.2.2.2.2.2.2.1
theorem dL_law_1308 : decode cL_law 1308 = .ok (.invokevirtual 136, 3) := dq_g551.2.2.2.2.2.2.2.2.2.2.2.2.1
theorem dL_law_1311 : decode cL_law 1311 = .ok (.pop, 1) := dq_g551.2.2.2.2.2.2.2.2.2.2.2.2.2.1
theorem dL_law_1312 : decode cL_law 1312 = .ok (.goto 197, 3) := dq_g551.2.2.2.2.2.2.2.2.2.2.2.2.2.2.1
theorem dL_law_1315 : decode cL_law 1315 = .ok (.aload_n 1, 1) := dq_g551.2.2.2.2.2.2.2.2.2.2.2.2.2.2.2.1
theorem dL_law_1316 : decode cL_law 1316 = .ok (.aload_n 0, 1) := dq_g551.2.2.2.2.2.2.2.2.2.2.2.2.2.2.2.2.1
theorem dL_law_1317 : decode cL_law 1317 = .ok (.iload_n 3, 1) := dq_g551.2.2.2.2.2.2.2.2.2.2.2.2.2.2.2.2.2.1
theorem dL_law_1318 : decode cL_law 1318 = .ok (.iconst 1, 1) := dq_g551.2.2.2.2.2.2.2.2.2.2.2.2.2.2.2.2.2.2.1
theorem dL_law_1319 : decode cL_law 1319 = .ok (.iadd, 1) := dq_g551.2.2.2.2.2.2.2.2.2.2.2.2.2.2.2.2.2.2.2.1
theorem dL_law_1320 : decode cL_law 1320 = .ok (.iaload, 1) := dq_g551.2.2.2.2.2.2.2.2.2.2.2.2.2.2.2.2.2.2.2.2.1
theorem dL_law_1321 : decode cL_law 1321 = .ok (.aload_n 0, 1) := dq_g551.2.2.2.2.2.2.2.2.2.2.2.2.2.2.2.2.2.2.2.2.2.1
theorem dL_law_1322 : decode cL_law 1322 = .ok (.iload_n 3, 1) := dq_g551.2.2.2.2.2.2.2.2.2.2.2.2.2.2.2.2.2.2.2.2.2.2.1
theorem dL_law_1323 : decode cL_law 1323 = .ok (.iconst 2, 1) := dq_g551.2.2.2.2.2.2.2.2.2.2.2.2.2.2.2.2.2.2.2.2.2.2.2.1
theorem dL_law_1324 : decode cL_law 1324 = .ok (.iadd, 1) := dq_g551.2.2.2.2.2.2.2.2.2.2.2.2.2.2.2.2.2.2.2.2.2.2.2.2.1
theorem dL_law_1325 : decode cL_law 1325 = .ok (.iaload, 1) := dq_g551.2.2.2.2.2.2.2.2.2.2.2.2.2.2.2.2.2.2.2.2.2.2.2.2.2.1
theorem dL_law_1326 : decode cL_law 1326 = .ok (.invokevirtual 137, 3) := dq_g551.2.2.2.2.2.2.2.2.2.2.2.2.2.2.2.2.2.2.2.2.2.2.2.2.2.2.1
theorem dL_law_1329 : decode cL_law 1329 = .ok (.pop, 1) := dq_g551.2.2.2.2.2.2.2.2.2.2.2.2.2.2.2.2.2.2.2.2.2.2.2.2.2.2.2.1
theorem dL_law_1330 : decode cL_law 1330 = .ok (.aload_n 2, 1) := dq_g551.2.2.2.2.2.2.2.2.2.2.2.2.2.2.2.2.2.2.2.2.2.2.2.2.2.2.2.2.1
theorem dL_law_1331 : decode cL_law 1331 = .ok (.aload_n 0, 1) := dq_g551.2.2.2.2.2.2.2.2.2.2.2.2.2.2.2.2.2.2.2.2.2.2.2.2.2.2.2.2.2.1
theorem dq_g552 : decode cL_law 1332 = .ok (.iload_n 3, 1) ∧ decode cL_law 1333 = .ok (.iconst 1, 1) ∧ decode cL_law 1334 = .ok (.iadd, 1) ∧ decode cL_law 1335 = .ok (.iaload, 1) ∧ decode cL_law 1336 = .ok (.aload_n 0, 1) ∧ decode cL_law 1337 = .ok (.iload_n 3, 1) ∧ decode cL_law 1338 = .ok (.iconst 2, 1) ∧ decode cL_law 1339 = .ok (.iadd, 1) ∧ decode cL_law 1340 = .ok (.iaload, 1) ∧ decode cL_law 1341 = .ok (.invokevirtual 140, 3) ∧ decode cL_law 1344 = .ok (.pop, 1) ∧ decode cL_law 1345 = .ok (.goto 164, 3) ∧ decode cL_law 1348 = .ok (.aload_n 1, 1) ∧ decode cL_law 1349 = .ok (.aload_n 0, 1) ∧ decode cL_law 1350 = .ok (.iload_n 3, 1) ∧ decode cL_law 1351 = .ok (.iconst 1, 1) ∧ decode cL_law 1352 = .ok (.iadd, 1) ∧ decode cL_law 1353 = .ok (.iaload, 1) ∧ decode cL_law 1354 = .ok (.aload_n 0, 1) ∧ decode cL_law 1355 = .ok (.iload_n 3, 1) ∧ decode cL_law 1356 = .ok (.iconst 2, 1) ∧ decode cL_law 1357 = .ok (.iadd, 1) ∧ decode cL_law 1358 = .ok (.iaload, 1) ∧ decode cL_law 1359 = .ok (.invokevirtual 141, 3) ∧ decode cL_law 1362 = .ok (.pop, 1) ∧ decode cL_law 1363 = .ok (.aload_n 2, 1) ∧ decode cL_law 1364 = .ok (.aload_n 0, 1) ∧ decode cL_law 1365 = .ok (.iload_n 3, 1) ∧ decode cL_law 1366 = .ok (.iconst 1, 1) ∧ decode cL_law 1367 = .ok (.iadd, 1) ∧ True := dqC_ok (c := cL_law) [(1332, 1, some (.iload_n 3)), (1333, 1, some (.iconst 1)), (1334, 1, some (.iadd)), (1335, 1, some (.iaload)), (1336, 1, some (.aload_n 0)), (1337, 1, some (.iload_n 3)), (1338, 1, some (.iconst 2)), (1339, 1, some (.iadd)), (1340, 1, some (.iaload)), (1341, 3, some (.invokevirtual 140)), (1344, 1, some (.pop)), (1345, 3, some (.goto 164)), (1348, 1, some (.aload_n 1)), (1349, 1, some (.aload_n 0)), (1350, 1, some (.iload_n 3)), (1351, 1, some (.iconst 1)), (1352, 1, some (.iadd)), (1353, 1, some (.iaload)), (1354, 1, some (.aload_n 0)), (1355, 1, some (.iload_n 3)), (1356, 1, some (.iconst 2)), (1357, 1, some (.iadd)), (1358, 1, some (.iaload)), (1359, 3, some (.invokevirtual 141)), (1362, 1, some (.pop)), (1363, 1, some (.aload_n 2)), (1364, 1, some (.aload_n 0)), (1365, 1, some (.iload_n 3)), (1366, 1, some (.iconst 1)), (1367, 1, some (.iadd))] _ 1332 rfl (by decide +kernel)
theorem dL_law_1332 : decode cL_law 1332 = .ok (.iload_n 3, 1) := dq_g552.1
theorem dL_law_1333 : decode cL_law 1333 = .ok (.iconst 1, 1) := dq_g552.2.1
theorem dL_law_1334 : decode cL_law 1334 = .ok (.iadd, 1) := dq_g552.2.2.1
theorem dL_law_1335 : decode cL_law 1335 = .ok (.iaload, 1) := dq_g552.2.2.2.1
theorem dL_law_1336 : decode cL_law 1336 = .ok (.aload_n 0, 1) := dq_g552.2.2.2.2.1
theorem dL_law_1337 : decode cL_law 1337 = .ok (.iload_n 3, 1) := dq_g552.2.2.2.2.2.1
theorem dL_law_1338 : decode cL_law 1338 = .ok (.iconst 2, 1) := dq_g552.2.2.2.2.2.2.1
theorem dL_law_1339 : decode cL_law 1339 = .ok (.iadd, 1) := dq_g552.2.2.2.2.2.2.2.1
theorem dL_law_1340 : decode cL_law 1340 = .ok (.iaload, 1) := dq_g552.2.2.2.2.2.2.2.2.1
theorem dL_law_1341 : decode cL_law 1341 = .ok (.invokevirtual 140, 3) := dq_g552.2.2.2.2.2.2.2.2.2.1
theorem dL_law_1344 : decode cL_law 1344 = .ok (.pop, 1) := dq_g552.2.2.2.2.2.2.2.2.2.2.1
theorem dL_law_1345 : decode cL_law 1345 = .ok (.goto 164, 3) := dq_g552.2.2.2.2.2.2.2.2.2.2.2.1
theorem dL_law_1348 : decode cL_law 1348 = .ok (.aload_n 1, 1) := dq_g552.2.2.2.2.2.2.2.2.2.2.2.2.1
theorem dL_law_1349 : decode cL_law 1349 = .ok (.aload_n 0, 1) := dq_g552.2.2.2.2.2.2.2.2.2.2.2.2.2.1
theorem dL_law_1350 : decode cL_law 1350 = .ok (.iload_n 3, 1) := dq_g552.2.2.2.2.2.2.2.2.2.2.2.2.2.2.1
theorem dL_law_1351 : decode cL_law 1351 = .ok (.iconst 1, 1) := dq_g552.2.2.2.2.2.2.2.2.2.2.2.2.2.2.2.1
theorem dL_law_1352 : decode cL_law 1352 = .ok (.iadd, 1) := dq_g552.2.2.2.2.2.2.2.2.2.2.2.2.2.2.2.2.1
theorem dL_law_1353 : decode cL_law 1353 = .ok (.iaload, 1) := dq_g552.2.2.2.2.2.2.2.2.2.2.2.2.2.2.2.2.2.1
theorem dL_law_1354 : decode cL_law 1354 = .ok (.aload_n 0, 1) := dq_g552.2.2.2.2.2.2.2.2.2.2.2.2.2.2.2.2.2.2.1
theorem dL_law_1355 : decode cL_law 1355 = .ok (.iload_n 3, 1) := dq_g552.2.2.2.2.2.2.2.2.2.2.2.2.2.2.2.2.2.2.2.1
theorem dL_law_1356 : decode cL_law 1356 = .ok (.iconst 2, 1) := dq_g552.2.2.2.2.2.2.2.2.2.2.2.2.2.2.2.2.2.2.2.2.1
theorem dL_law_1357 : decode cL_law 1357 = .ok (.iadd, 1) := dq_g552.2.2.2.2.2.2.2.2.2.2.2.2.2.2.2.2.2.2.2.2.2.1
theorem dL_law_1358 : decode cL_law 1358 = .ok (.iaload, 1) := dq_g552.2.2.2.2.2.2.2.2.2.2.2.2.2.2.2.2.2.2.2.2.2.2.1
theorem dL_law_1359 : decode cL_law 1359 = .ok (.invokevirtual 141, 3) := dq_g552.2.2.2.2.2.2.2.2.2.2.2.2.2.2.2.2.2.2.2.2.2.2.2.1
theorem dL_law_1362 : decode cL_law 1362 = .ok (.pop, 1) := dq_g552.2.2.2.2.2.2.2.2.2.2.2.2.2.2.2.2.2.2.2.2.2.2.2.2.1
theorem dL_law_1363 : decode cL_law 1363 = .ok (.aload_n 2, 1) := dq_g552.2.2.2.2.2.2.2.2.2.2.2.2.2.2.2.2.2.2.2.2.2.2.2.2.2.1
theorem dL_law_1364 : decode cL_law 1364 = .ok (.aload_n 0, 1) := dq_g552.2.2.2.2.2.2.2.2.2.2.2.2.2.2.2.2.2.2.2.2.2.2.2.2.2.2.1
theorem dL_law_1365 : decode cL_law 1365 = .ok (.iload_n 3, 1) := dq_g552.2.2.2.2.2.2.2.2.2.2.2.2.2.2.2.2.2.2.2.2.2.2.2.2.2.2.2.1
theorem dL_law_1366 : decode cL_law 1366 = .ok (.iconst 1, 1) := dq_g552.2.2.2.2.2.2.2.2.2.2.2.2.2.2.2.2.2.2.2.2.2.2.2.2.2.2.2.2.1
theorem dL_law_1367 : decode cL_law 1367 = .ok (.iadd, 1) := dq_g552.2.2.2.2.2.2.2.2.2.2.2.2.2.2.2.2.2.2.2.2.2.2.2.2.2.2.2.2.2.1
theorem dq_g553 : decode cL_law 1368 = .ok (.iaload, 1) ∧ decode cL_law 1369 = .ok (.aload_n 0, 1) ∧ decode cL_law 1370 = .ok (.iload_n 3, 1) ∧ decode cL_law 1371 = .ok (.iconst 2, 1) ∧ decode cL_law 1372 = .ok (.iadd, 1) ∧ decode cL_law 1373 = .ok (.iaload, 1) ∧ decode cL_law 1374 = .ok (.invokevirtual 144, 3) ∧ decode cL_law 1377 = .ok (.pop, 1) ∧ decode cL_law 1378 = .ok (.goto 131, 3) ∧ decode cL_law 1381 = .ok (.aload_n 1, 1) ∧ decode cL_law 1382 = .ok (.aload_n 0, 1) ∧ decode cL_law 1383 = .ok (.iload_n 3, 1) ∧ decode cL_law 1384 = .ok (.iconst 1, 1) ∧ decode cL_law 1385 = .ok (.iadd, 1) ∧ decode cL_law 1386 = .ok (.iaload, 1) ∧ decode cL_law 1387 = .ok (.invokevirtual 145, 3) ∧ decode cL_law 1390 = .ok (.pop, 1) ∧ decode cL_law 1391 = .ok (.aload_n 2, 1) ∧ decode cL_law 1392 = .ok (.aload_n 0, 1) ∧ decode cL_law 1393 = .ok (.iload_n 3, 1) ∧ decode cL_law 1394 = .ok (.iconst 1, 1) ∧ decode cL_law 1395 = .ok (.iadd, 1) ∧ decode cL_law 1396 = .ok (.iaload, 1) ∧ decode cL_law 1397 = .ok (.invokevirtual 148, 3) ∧ decode cL_law 1400 = .ok (.pop, 1) ∧ decode cL_law 1401 = .ok (.goto 108, 3) ∧ decode cL_law 1404 = .ok (.aload_n 1, 1) ∧ decode cL_law 1405 = .ok (.aload_n 0, 1) ∧ decode cL_law 1406 = .ok (.iload_n 3, 1) ∧ decode cL_law 1407 = .ok (.iconst 1, 1) ∧ True := dqC_ok (c := cL_law) [(1368, 1, some (.iaload)), (1369, 1, some (.aload_n 0)), (1370, 1, some (.iload_n 3)), (1371, 1, some (.iconst 2)), (1372, 1, some (.iadd)), (1373, 1, some (.iaload)), (1374, 3, some (.invokevirtual 144)), (1377, 1, some (.pop)), (1378, 3, some (.goto 131)), (1381, 1, some (.aload_n 1)), (1382, 1, some (.aload_n 0)), (1383, 1, some (.iload_n 3)), (1384, 1, some (.iconst 1)), (1385, 1, some (.iadd)), (1386, 1, some (.iaload)), (1387, 3, some (.invokevirtual 145)), (1390, 1, some (.pop)), (1391, 1, some (.aload_n 2)), (1392, 1, some (.aload_n 0)), (1393, 1, some (.iload_n 3)), (1394, 1, some (.iconst 1)), (1395, 1, some (.iadd)), (1396, 1, some (.iaload)), (1397, 3, some (.invokevirtual 148)), (1400, 1, some (.pop)), (1401, 3, some (.goto 108)), (1404, 1, some (.aload_n 1)), (1405, 1, some (.aload_n 0)), (1406, 1, some (.iload_n 3)), (1407, 1, some (.iconst 1))] _ 1368 rfl (by decide +kernel)
theorem dL_law_1368 : decode cL_law 1368 = .ok (.iaload, 1) := dq_g553.1
theorem dL_law_1369 : decode cL_law 1369 = .ok (.aload_n 0, 1) := dq_g553.2.1
theorem dL_law_1370 : decode cL_law 1370 = .ok (.iload_n 3, 1) := dq_g553.2.2.1
theorem dL_law_1371 : decode cL_law 1371 = .ok (.iconst 2, 1) := dq_g553.2.2.2.1
theorem dL_law_1372 : decode cL_law 1372 = .ok (.iadd, 1) := dq_g553.2.2.2.2.1
theorem dL_law_1373 : decode cL_law 1373 = .ok (.iaload, 1) := dq_g553.2.2.2.2.2.1
theorem dL_law_1374 : decode cL_law 1374 = .ok (.invokevirtual 144, 3) := dq_g553.2.2.2.2.2.2.1
theorem dL_law_1377 : decode cL_law 1377 = .ok (.pop, 1) := dq_g553.2.2.2.2.2.2.2.1
theorem dL_law_1378 : decode cL_law 1378 = .ok (.goto 131, 3) := dq_g553.2.2.2.2.2.2.2.2.1
theorem dL_law_1381 : decode cL_law 1381 = .ok (.aload_n 1, 1) := dq_g553.2.2.2.2.2.2.2.2.2.1
theorem dL_law_1382 : decode cL_law 1382 = .ok (.aload_n 0, 1) := dq_g553.2.2.2.2.2.2.2.2.2.2.1
theorem dL_law_1383 : decode cL_law 1383 = .ok (.iload_n 3, 1) := dq_g553.2.2.2.2.2.2.2.2.2.2.2.1
theorem dL_law_1384 : decode cL_law 1384 = .ok (.iconst 1, 1) := dq_g553.2.2.2.2.2.2.2.2.2.2.2.2.1
theorem dL_law_1385 : decode cL_law 1385 = .ok (.iadd, 1) := dq_g553.2.2.2.2.2.2.2.2.2.2.2.2.2.1
theorem dL_law_1386 : decode cL_law 1386 = .ok (.iaload, 1) := dq_g553.2.2.2.2.2.2.2.2.2.2.2.2.2.2.1
theorem dL_law_1387 : decode cL_law 1387 = .ok (.invokevirtual 145, 3) := dq_g553.2.2.2.2.2.2.2.2.2.2.2.2.2.2.2.1
theorem dL_law_1390 : decode cL_law 1390 = .ok (.pop, 1) := dq_g553.2.2.2.2.2.2.2.2.2.2.2.2.2.2.2.2.1
theorem dL_law_1391 : decode cL_law 1391 = .ok (.aload_n 2, 1) := dq_g553.2.2.2.2.2.2.2.2.2.2.2.2.2.2.2.2.2.1
theorem dL_law_1392 : decode cL_law 1392 = .ok (.aload_n 0, 1) := dq_g553.2.2.2.2.2.2.2.2.2.2.2.2.2.2.2.2.2.2.1
theorem dL_law_1393 : decode cL_law 1393 = .ok (.iload_n 3, 1) := dq_g553.2.2.2.2.2.2.2.2.2.2.2.2.2.2.2.2.2.2.2.1
theorem dL_law_1394 : decode cL_law 1394 = .ok (.iconst 1, 1) := dq_g553.2.2.2.2.2.2.2.2.2.2.2.2.2.2.2.2.2.2.2.2.1
theorem dL_law_1395 : decode cL_law 1395 = .ok (.iadd, 1) := dq_g553.2.2.2.2.2.2.2.2.2.2.2.2.2.2.2.2.2.2.2.2.2.1
theorem dL_law_1396 : decode cL_law 1396 = .ok (.iaload, 1) := dq_g553.2.2.2.2.2.2.2.2.2.2.2.2.2.2.2.2.2.2.2.2.2.2.1
theorem dL_law_1397 : decode cL_law 1397 = .ok (.invokevirtual 148, 3) := dq_g553.2.2.2.2.2.2.2.2.2.2.2.2.2.2.2.2.2.2.2.2.2.2.2.1
theorem dL_law_1400 : decode cL_law 1400 = .ok (.pop, 1) := dq_g553.2.2.2.2.2.2.2.2.2.2.2.2.2.2.2.2.2.2.2.2.2.2.2.2.1
theorem dL_law_1401 : decode cL_law 1401 = .ok (.goto 108, 3) := dq_g553.2.2.2.2.2.2.2.2.2.2.2.2.2.2.2.2.2.2.2.2.2.2.2.2.2.1
theorem dL_law_1404 : decode cL_law 1404 = .ok (.aload_n 1, 1) := dq_g553.2.2.2.2.2.2.2.2.2.2.2.2.2.2.2.2.2.2.2.2.2.2.2.2.2.2.1
theorem dL_law_1405 : decode cL_law 1405 = .ok (.aload_n 0, 1) := dq_g553.2.2.2.2.2.2.2.2.2.2.2.2.2.2.2.2.2.2.2.2.2.2.2.2.2.2.2.1
theorem dL_law_1406 : decode cL_law 1406 = .ok (.iload_n 3, 1) := dq_g553.2.2.2.2.2.2.2.2.2.2.2.2.2.2.2.2.2.2.2.2.2.2.2.2.2.2.2.2.1
theorem dL_law_1407 : decode cL_law 1407 = .ok (.iconst 1, 1) := dq_g553.2.2.2.2.2.2.2.2.2.2.2.2.2.2.2.2.2.2.2.2.2.2.2.2.2.2.2.2.2.1
theorem dq_g554 : decode cL_law 1408 = .ok (.iadd, 1) ∧ decode cL_law 1409 = .ok (.iaload, 1) ∧ decode cL_law 1410 = .ok (.aload_n 0, 1) ∧ decode cL_law 1411 = .ok (.iload_n 3, 1) ∧ decode cL_law 1412 = .ok (.iconst 2, 1) ∧ decode cL_law 1413 = .ok (.iadd, 1) ∧ decode cL_law 1414 = .ok (.iaload, 1) ∧ decode cL_law 1415 = .ok (.aload_n 0, 1) ∧ decode cL_law 1416 = .ok (.iload_n 3, 1) ∧ decode cL_law 1417 = .ok (.iconst 3, 1) ∧ decode cL_law 1418 = .ok (.iadd, 1) ∧ decode cL_law 1419 = .ok (.iaload, 1) ∧ decode cL_law 1420 = .ok (.invokevirtual 149, 3) ∧ decode cL_law 1423 = .ok (.pop, 1) ∧ decode cL_law 1424 = .ok (.aload_n 2, 1) ∧ decode cL_law 1425 = .ok (.aload_n 0, 1) ∧ decode cL_law 1426 = .ok (.iload_n 3, 1) ∧ decode cL_law 1427 = .ok (.iconst 1, 1) ∧ decode cL_law 1428 = .ok (.iadd, 1) ∧ decode cL_law 1429 = .ok (.iaload, 1) ∧ decode cL_law 1430 = .ok (.aload_n 0, 1) ∧ decode cL_law 1431 = .ok (.iload_n 3, 1) ∧ decode cL_law 1432 = .ok (.iconst 2, 1) ∧ decode cL_law 1433 = .ok (.iadd, 1) ∧ decode cL_law 1434 = .ok (.iaload, 1) ∧ decode cL_law 1435 = .ok (.aload_n 0, 1) ∧ decode cL_law 1436 = .ok (.iload_n 3, 1) ∧ decode cL_law 1437 = .ok (.iconst 3, 1) ∧ decode cL_law 1438 = .ok (.iadd, 1) ∧ decode cL_law 1439 = .ok (.iaload, 1) ∧ True := dqC_ok (c := cL_law) [(1408, 1, some (.iadd)), (1409, 1, some (.iaload)), (1410, 1, some (.aload_n 0)), (1411, 1, some (.iload_n 3)), (1412, 1, some (.iconst 2)), (1413, 1, some (.iadd)), (1414, 1, some (.iaload)), (1415, 1, some (.aload_n 0)), (1416, 1, some (.iload_n 3)), (1417, 1, some (.iconst 3)), (1418, 1, some (.iadd)), (1419, 1, some (.iaload)), (1420, 3, some (.invokevirtual 149)), (1423, 1, some (.pop)), (1424, 1, some (.aload_n 2)), (1425, 1, some (.aload_n 0)), (1426, 1, some (.iload_n 3)), (1427, 1, some (.iconst 1)), (1428, 1, some (.iadd)), (1429, 1, some (.iaload)), (1430, 1, some (.aload_n 0)), (1431, 1, some (.iload_n 3)), (1432, 1, some (.iconst 2)), (1433, 1, some (.iadd)), (1434, 1, some (.iaload)), (1435, 1, some (.aload_n 0)), (1436, 1, some (.iload_n 3)), (1437, 1, some (.iconst 3)), (1438, 1, some (.iadd)), (1439, 1, some (.iaload))] _ 1408 rfl (by decide +kernel)
theorem dL_law_1408 : decode cL_law 1408 = .ok (.iadd, 1) := dq_g554.1
theorem dL_law_1409 : decode cL_law 1409 = .ok (.iaload, 1) := dq_g554.2.1
theorem dL_law_1410 : decode cL_law 1410 = .ok (.aload_n 0, 1) := dq_g554.2.2.1
theorem dL_law_1411 : decode cL_law 1411 = .ok (.iload_n 3, 1) := dq_g554.2.2.2.1
theorem dL_law_1412 : decode cL_law 1412 = .ok (.iconst 2, 1) := dq_g554.2.2.2.2.1
theorem dL_law_1413 : decode cL_law 1413 = .ok (.iadd, 1) := dq_g554.2.2.2.2.2.1
theorem dL_law_1414 : decode cL_law 1414 = .ok (.iaload, 1) := dq_g554.2.2.2.2.2.2.1
theorem dL_law_1415 : decode cL_law 1415 = .ok (.aload_n 0, 1) := dq_g554.2.2.2.2.2.2.2.1
theorem dL_law_1416 : decode cL_law 1416 = .ok (.iload_n 3, 1) := dq_g554.2.2.2.2.2.2.2.2.1
theorem dL_law_1417 : decode cL_law 1417 = .ok (.iconst 3, 1) := dq_g554.2.2.2.2.2.2.2.2.2.1
theorem dL_law_1418 : decode cL_law 1418 = .ok (.iadd, 1) := dq_g554.2.2.2.2.2.2.2.2.2.2.1
theorem dL_law_1419 : decode cL_law 1419 = .ok (.iaload, 1) := dq_g554.2.2.2.2.2.2.2.2.2.2.2.1
theorem dL_law_1420 : decode cL_law 1420 = .ok (.invokevirtual 149, 3) := dq_g554.2.2.2.2.2.2.2.2.2.2.2.2.1
theorem dL_law_1423 : decode cL_law 1423 = .ok (.pop, 1) := dq_g554.2.2.2.2.2.2.2.2.2.2.2.2.2.1
theorem dL_law_1424 : decode cL_law 1424 = .ok (.aload_n 2, 1) := dq_g554.2.2.2.2.2.2.2.2.2.2.2.2.2.2.1
theorem dL_law_1425 : decode cL_law 1425 = .ok (.aload_n 0, 1) := dq_g554.2.2.2.2.2.2.2.2.2.2.2.2.2.2.2.1
theorem dL_law_1426 : decode cL_law 1426 = .ok (.iload_n 3, 1) := dq_g554.2.2.2.2.2.2.2.2.2.2.2.2.2.2.2.2.1
theorem dL_law_1427 : decode cL_law 1427 = .ok (.iconst 1, 1) := dq_g554.2.2.2.2.2.2.2.2.2.2.2.2.2.2.2.2.2.1
theorem dL_law_1428 : decode cL_law 1428 = .ok (.iadd, 1) := dq_g554.2.2.2.2.2.2.2.2.2.2.2.2.2.2.2.2.2.2.1
theorem dL_law_1429 : decode cL_law 1429 = .ok (.iaload, 1) := dq_g554.2.2.2.2.2.2.2.2.2.2.2.2.2.2.2.2.2.2.2.1
theorem dL_law_1430 : decode cL_law 1430 = .ok (.aload_n 0, 1) := dq_g554.2.2.2.2.2.2.2.2.2.2.2.2.2.2.2.2.2.2.2.2.1
theorem dL_law_1431 : decode cL_law 1431 = .ok (.iload_n 3, 1) := dq_g554.2.2.2.2.2.2.2.2.2.2.2.2.2.2.2.2.2.2.2.2.2.1
theorem dL_law_1432 : decode cL_law 1432 = .ok (.iconst 2, 1) := dq_g554.2.2.2.2.2.2.2.2.2.2.2.2.2.2.2.2.2.2.2.2.2.2.1
theorem dL_law_1433 : decode cL_law 1433 = .ok (.iadd, 1) := dq_g554.2.2.2.2.2.2.2.2.2.2.2.2.2.2.2.2.2.2.2.2.2.2.2.1
theorem dL_law_1434 : decode cL_law 1434 = .ok (.iaload, 1) := dq_g554.2.2.2.2.2.2.2.2.2.2.2.2.2.2.2.2.2.2.2.2.2.2.2.2.1
theorem dL_law_1435 : decode cL_law 1435 = .ok (.aload_n 0, 1) := dq_g554.2.2.2.2.2.2.2.2.2.2.2.2.2.2.2.2.2.2.2.2.2.2.2.2.2.1
theorem dL_law_1436 : decode cL_law 1436 = .ok (.iload_n 3, 1) := dq_g554.2.2.2.2.2.2.2.2.2.2.2.2.2.2.2.2.2.2.2.2.2.2.2.2.2.2.1
theorem dL_law_1437 : decode cL_law 1437 = .ok (.iconst 3, 1) := dq_g554.2.2.2.2.2.2.2.2.2.2.2.2.2.2.2.2.2.2.2.2.2.2.2.2.2.2.2.1
theorem dL_law_1438 : decode cL_law 1438 = .ok (.iadd, 1) := dq_g554.2.2.2.2.2.2.2.2.2.2.2.2.2.2.2.2.2.2.2.2.2.2.2.2.2.2.2.2.1
theorem dL_law_1439 : decode cL_law 1439 = .ok (.iaload, 1) := dq_g554.2.2.2.2.2.2.2.2.2.2.2.2.2.2.2.2.2.2.2.2.2.2.2.2.2.2.2.2.2.1
theorem dq_g555 : decode cL_law 1440 = .ok (.invokevirtual 152, 3) ∧ decode cL_law 1443 = .ok (.pop, 1) ∧ decode cL_law 1444 = .ok (.goto 65, 3) ∧ decode cL_law 1447 = .ok (.aload_n 1, 1) ∧ decode cL_law 1448 = .ok (.aload_n 0, 1) ∧ decode cL_law 1449 = .ok (.iload_n 3, 1) ∧ decode cL_law 1450 = .ok (.iconst 1, 1) ∧ decode cL_law 1451 = .ok (.iadd, 1) ∧ decode cL_law 1452 = .ok (.iaload, 1) ∧ decode cL_law 1453 = .ok (.ifCond .eq 7, 3) ∧ decode cL_law 1456 = .ok (.iconst 1, 1) ∧ decode cL_law 1457 = .ok (.goto 4, 3) ∧ decode cL_law 1460 = .ok (.iconst 0, 1) ∧ decode cL_law 1461 = .ok (.invokevirtual 153, 3) ∧ decode cL_law 1464 = .ok (.pop, 1) ∧ decode cL_law 1465 = .ok (.aload_n 2, 1) ∧ decode cL_law 1466 = .ok (.aload_n 0, 1) ∧ decode cL_law 1467 = .ok (.iload_n 3, 1) ∧ decode cL_law 1468 = .ok (.iconst 1, 1) ∧ decode cL_law 1469 = .ok (.iadd, 1) ∧ decode cL_law 1470 = .ok (.iaload, 1) ∧ decode cL_law 1471 = .ok (.ifCond .eq 7, 3) ∧ decode cL_law 1474 = .ok (.iconst 1, 1) ∧ decode cL_law 1475 = .ok (.goto 4, 3) ∧ decode cL_law 1478 = .ok (.iconst 0, 1) ∧ decode cL_law 1479 = .ok (.invokevirtual 157, 3) ∧ decode cL_law 1482 = .ok (.pop, 1) ∧ decode cL_law 1483 = .ok (.goto 26, 3) ∧ decode cL_law 1486 = .ok (.aload_n 1, 1) ∧ decode cL_law 1487 = .ok (.aload_n 0, 1) ∧ True := dqC_ok (c := cL_law) [(1440, 3, some (.invokevirtual 152)), (1443, 1, some (.pop)), (1444, 3, some (.goto 65)), (1447, 1, some (.aload_n 1)), (1448, 1, some (.aload_n 0)), (1449, 1, some (.iload_n 3)), (1450, 1, some (.iconst 1)), (1451, 1, some (.iadd)), (1452, 1, some (.iaload)), (1453, 3, some (.ifCond .eq 7)), (1456, 1, some (.iconst 1)), (1457, 3, some (.goto 4)), (1460, 1, some (.iconst 0)), (1461, 3, some (.invokevirtual 153)), (1464, 1, some (.pop)), (1465, 1, some (.aload_n 2)), (1466, 1, some (.aload_n 0)), (1467, 1, some (.iload_n 3)), (1468, 1, some (.iconst 1)), (1469, 1, some (.iadd)), (1470, 1, some (.iaload)), (1471, 3, some (.ifCond .eq 7)), (1474, 1, some (.iconst 1)), (1475, 3, some (.goto 4)), (1478, 1, some (.iconst 0)), (1479, 3, some (.invokevirtual 157)), (1482, 1, some (.pop)), (1483, 3, some (.goto 26)), (1486, 1, some (.aload_n 1)), (1487, 1, some (.aload_n 0))] _ 1440 rfl (by decide +kernel)
theorem dL_law_1440 : decode cL_law 1440 = .ok (.invokevirtual 152, 3) := dq_g555.1
theorem dL_law_1443 : decode cL_law 1443 = .ok (.pop, 1) := dq_g555.2.1
theorem dL_law_1444 : decode cL_law 1444 = .ok (.goto 65, 3) := dq_g555.2.2.1
theorem dL_law_1447 : decode cL_law 1447 = .ok (.aload_n 1, 1) := dq_g555.2.2.2.1
theorem dL_law_1448 : decode cL_law 1448 = .ok (.aload_n 0, 1) := dq_g555.2.2.2.2.1
theorem dL_law_1449 : decode cL_law 1449 = .ok (.iload_n 3, 1) := dq_g555.2.2.2.2.2.1
theorem dL_law_1450 : decode cL_law 1450 = .ok (.iconst 1, 1) := dq_g555.2.2.2.2.2.2.1
theorem dL_law_1451 : decode cL_law 1451 = .ok (.iadd, 1) := dq_g555.2.2.2.2.2.2.2.1
theorem dL_law_1452 : decode cL_law 1452 = .ok (.iaload, 1) := dq_g555.2.2.2.2.2.2.2.2.1
theorem dL_law_1453 : decode cL_law 1453 = .ok (.ifCond .eq 7, 3) := dq_g555.2.2.2.2.2.2.2.2.2.1
theorem dL_law_1456 : decode cL_law 1456 = .ok (.iconst 1, 1) := dq_g555.2.2.2.2.2.2.2.2.2.2.1
theorem dL_law_1457 : decode cL_law 1457 = .ok (.goto 4, 3) := dq_g555.2.2.2.2.2.2.2.2.2.2.2.1
theorem dL_law_1460 : decode cL_law 1460 = .ok (.iconst 0, 1) := dq_g555.2.2.2.2.2.2.2.2.2.2.2.2.1
theorem dL_law_1461 : decode cL_law 1461 = .ok (.invokevirtual 153, 3) := dq_g555.2.2.2.2.2.2.2.2.2.2.2.2.2.1
theorem dL_law_1464 : decode cL_law 1464 = .ok (.pop, 1) := dq_g555.2.2.2.2.2.2.2.2.2.2.2.2.2.2.1
theorem dL_law_1465 : decode cL_law 1465 = .ok (.aload_n 2, 1) := dq_g555.2.2.2.2.2.2.2.2.2.2.2.2.2.2.2.1
theorem dL_law_1466 : decode cL_law 1466 = .ok (.aload_n 0, 1) := dq_g555.2.2.2.2.2.2.2.2.2.2.2.2.2.2.2.2.1
theorem dL_law_1467 : decode cL_law 1467 = .ok (.iload_n 3, 1) := dq_g555.2.2.2.2.2.2.2.2.2.2.2.2.2.2.2.2.2.1
theorem dL_law_1468 : decode cL_law 1468 = .ok (.iconst 1, 1) := dq_g555.2.2.2.2.2.2.2.2.2.2.2.2.2.2.2.2.2.2.1
theorem dL_law_1469 : decode cL_law 1469 = .ok (.iadd, 1) := dq_g555.2.2.2.2.2.2.2.2.2.2.2.2.2.2.2.2.2.2.2.1
theorem dL_law_1470 : decode cL_law 1470 = .ok (.iaload, 1) := dq_g555.2.2.2.2.2.2.2.2.2.2.2.2.2.2.2.2.2.2.2.2.1
theorem dL_law_1471 : decode cL_law 1471 = .ok (.ifCond .eq 7, 3) := dq_g555.2.2.2.2.2.2.2.2.2.2.2.2.2.2.2.2.2.2.2.2.2.1
theorem dL_law_1474 : decode cL_law 1474 = .ok (.iconst 1, 1) := dq_g555.2.2.2.2.2.2.2.2.2.2.2.2.2.2.2.2.2.2.2.2.2.2.1
theorem dL_law_1475 : decode cL_law 1475 = .ok (.goto 4, 3) := dq_g555.2.2.2.2.2.2.2.2.2.2.2.2.2.2.2.2.2.2.2.2.2.2.2.1
theorem dL_law_1478 : decode cL_law 1478 = .ok (.iconst 0, 1) := dq_g555.2.2.2.2.2.2.2.2.2.2.2.2.2.2.2.2.2.2.2.2.2.2.2.2.1
theorem dL_law_1479 : decode cL_law 1479 = .ok (.invokevirtual 157, 3) := dq_g555.2.2.2.2.2.2.2.2.2.2.2.2.2.2.2.2.2.2.2.2.2.2.2.2.2.1
theorem dL_law_1482 : decode cL_law 1482 = .ok (.pop, 1) := dq_g555.2.2.2.2.2.2.2.2.2.2.2.2.2.2.2.2.2.2.2.2.2.2.2.2.2.2.1
theorem dL_law_1483 : decode cL_law 1483 = .ok (.goto 26, 3) := dq_g555.2.2.2.2.2.2.2.2.2.2.2.2.2.2.2.2.2.2.2.2.2.2.2.2.2.2.2.1
theorem dL_law_1486 : decode cL_law 1486 = .ok (.aload_n 1, 1) := dq_g555.2.2.2.2.2.2.2.2.2.2.2.2.2.2.2.2.2.2.2.2.2.2.2.2.2.2.2.2.1
theorem dL_law_1487 : decode cL_law 1487 = .ok (.aload_n 0, 1) := dq_g555.2.2.2.2.2.2.2.2.2.2.2.2.2.2.2.2.2.2.2.2.2.2.2.2.2.2.2.2.2.1
theorem dq_g556 : decode cL_law 1488 = .ok (.iload_n 3, 1) ∧ decode cL_law 1489 = .ok (.iconst 1, 1) ∧ decode cL_law 1490 = .ok (.iadd, 1) ∧ decode cL_law 1491 = .ok (.iaload, 1) ∧ decode cL_law 1492 = .ok (.invokevirtual 158, 3) ∧ decode cL_law 1495 = .ok (.aload_n 2, 1) ∧ decode cL_law 1496 = .ok (.aload_n 0, 1) ∧ decode cL_law 1497 = .ok (.iload_n 3, 1) ∧ decode cL_law 1498 = .ok (.iconst 1, 1) ∧ decode cL_law 1499 = .ok (.iadd, 1) ∧ decode cL_law 1500 = .ok (.iaload, 1) ∧ decode cL_law 1501 = .ok (.invokevirtual 161, 3) ∧ decode cL_law 1504 = .ok (.if_icmp .eq 5, 3) ∧ True := dqC_ok (c := cL_law) [(1488, 1, some (.iload_n 3)), (1489, 1, some (.iconst 1)), (1490, 1, some (.iadd)), (1491, 1, some (.iaload)), (1492, 3, some (.invokevirtual 158)), (1495, 1, some (.aload_n 2)), (1496, 1, some (.aload_n 0)), (1497, 1, some (.iload_n 3)), (1498, 1, some (.iconst 1)), (1499, 1, some (.iadd)), (1500, 1, some (.iaload)), (1501, 3, some (.invokevirtual 161)), (1504, 3, some (.if_icmp .eq 5))] _ 1488 rfl (by decide +kernel)
theorem dL_law_1488 : decode cL_law 1488 = .ok (.iload_n 3, 1) := dq_g556.1
theorem dL_law_1489 : decode cL_law 1489 = .ok (.iconst 1, 1) := dq_g556.2.1
theorem dL_law_1490 : decode cL_law 1490 = .ok (.iadd, 1) := dq_g556.2.2.1
theorem dL_law_1491 : decode cL_law 1491 = .ok (.iaload, 1) := dq_g556.2.2.2.1
theorem dL_law_1492 : decode cL_law 1492 = .ok (.invokevirtual 158, 3) := dq_g556.2.2.2.2.1
theorem dL_law_1495 : decode cL_law 1495 = .ok (.aload_n 2, 1) := dq_g556.2.2.2.2.2.1
theorem dL_law_1496 : decode cL_law 1496 = .ok (.aload_n 0, 1) := dq_g556.2.2.2.2.2.2.1
theorem dL_law_1497 : decode cL_law 1497 = .ok (.iload_n 3, 1) := dq_g556.2.2.2.2.2.2.2.1
theorem dL_law_1498 : decode cL_law 1498 = .ok (.iconst 1, 1) := dq_g556.2.2.2.2.2.2.2.2.1
theorem dL_law_1499 : decode cL_law 1499 = .ok (.iadd, 1) := dq_g556.2.2.2.2.2.2.2.2.2.1
theorem dL_law_1500 : decode cL_law 1500 = .ok (.iaload, 1) := dq_g556.2.2.2.2.2.2.2.2.2.2.1
theorem dL_law_1501 : decode cL_law 1501 = .ok (.invokevirtual 161, 3) := dq_g556.2.2.2.2.2.2.2.2.2.2.2.1
theorem dL_law_1504 : decode cL_law 1504 = .ok (.if_icmp .eq 5, 3) := dq_g556.2.2.2.2.2.2.2.2.2.2.2.2.1
theorem dq_g557 : decode cL_law 1509 = .ok (.iinc 3 6, 3) ∧ decode cL_law 1512 = .ok (.goto (-1494), 3) ∧ decode cL_law 1515 = .ok (.iconst 1, 1) ∧ decode cL_law 1516 = .ok (.ireturn, 1) ∧ True := dqC_ok (c := cL_law) [(1509, 3, some (.iinc 3 6)), (1512, 3, some (.goto (-1494))), (1515, 1, some (.iconst 1)), (1516, 1, some (.ireturn))] _ 1509 rfl (by decide +kernel)
theorem dL_law_1509 : decode cL_law 1509 = .ok (.iinc 3 6, 3) := dq_g557.1
theorem dL_law_1512 : decode cL_law 1512 = .ok (.goto (-1494), 3) := dq_g557.2.1
theorem dL_law_1515 : decode cL_law 1515 = .ok (.iconst 1, 1) := dq_g557.2.2.1
theorem dL_law_1516 : decode cL_law 1516 = .ok (.ireturn, 1) := dq_g557.2.2.2.1
