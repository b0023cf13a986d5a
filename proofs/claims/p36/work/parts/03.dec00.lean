theorem dq_g0 : decode cX0_init 0 = .ok (.aload_n 0, 1) ∧ decode cX0_init 1 = .ok (.invokespecial 3, 3) ∧ decode cX0_init 4 = .ok (.aload_n 0, 1) ∧ decode cX0_init 5 = .ok (.bipush 16, 2) ∧ decode cX0_init 9 = .ok (.putfield 9, 3) ∧ decode cX0_init 12 = .ok (.aload_n 0, 1) ∧ decode cX0_init 13 = .ok (.bipush 16, 2) ∧ decode cX0_init 17 = .ok (.putfield 15, 3) ∧ decode cX0_init 20 = .ok (.aload_n 0, 1) ∧ decode cX0_init 21 = .ok (.bipush 16, 2) ∧ decode cX0_init 25 = .ok (.putfield 18, 3) ∧ decode cX0_init 28 = .ok (.aload_n 0, 1) ∧ decode cX0_init 29 = .ok (.bipush 16, 2) ∧ decode cX0_init 33 = .ok (.putfield 21, 3) ∧ decode cX0_init 36 = .ok (.aload_n 0, 1) ∧ decode cX0_init 37 = .ok (.iconst 3, 1) ∧ decode cX0_init 40 = .ok (.putfield 24, 3) ∧ decode cX0_init 43 = .ok (.aload_n 0, 1) ∧ decode cX0_init 44 = .ok (.sipush 200, 3) ∧ decode cX0_init 49 = .ok (.putfield 27, 3) ∧ decode cX0_init 52 = .ok (.aload_n 0, 1) ∧ decode cX0_init 53 = .ok (.sipush 200, 3) ∧ decode cX0_init 58 = .ok (.putfield 30, 3) ∧ True := dqC_ok (c := cX0_init) [(0, 1, some (.aload_n 0)), (1, 3, some (.invokespecial 3)), (4, 1, some (.aload_n 0)), (5, 2, some (.bipush 16)), (7, 2, none), (9, 3, some (.putfield 9)), (12, 1, some (.aload_n 0)), (13, 2, some (.bipush 16)), (15, 2, none), (17, 3, some (.putfield 15)), (20, 1, some (.aload_n 0)), (21, 2, some (.bipush 16)), (23, 2, none), (25, 3, some (.putfield 18)), (28, 1, some (.aload_n 0)), (29, 2, some (.bipush 16)), (31, 2, none), (33, 3, some (.putfield 21)), (36, 1, some (.aload_n 0)), (37, 1, some (.iconst 3)), (38, 2, none), (40, 3, some (.putfield 24)), (43, 1, some (.aload_n 0)), (44, 3, some (.sipush 200)), (47, 2, none), (49, 3, some (.putfield 27)), (52, 1, some (.aload_n 0)), (53, 3, some (.sipush 200)), (56, 2, none), (58, 3, some (.putfield 30))] _ 0 rfl (by decide +kernel)
theorem dX0_init_0 : decode cX0_init 0 = .ok (.aload_n 0, 1) := dq_g0.1
theorem dX0_init_1 : decode cX0_init 1 = .ok (.invokespecial 3, 3) := dq_g0.2.1
theorem dX0_init_4 : decode cX0_init 4 = .ok (.aload_n 0, 1) := dq_g0.2.2.1
theorem dX0_init_5 : decode cX0_init 5 = .ok (.bipush 16, 2) := dq_g0.2.2.2.1
theorem dX0_init_9 : decode cX0_init 9 = .ok (.putfield 9, 3) := dq_g0.2.2.2.2.1
theorem dX0_init_12 : decode cX0_init 12 = .ok (.aload_n 0, 1) := dq_g0.2.2.2.2.2.1
theorem dX0_init_13 : decode cX0_init 13 = .ok (.bipush 16, 2) := dq_g0.2.2.2.2.2.2.1
theorem dX0_init_17 : decode cX0_init 17 = .ok (.putfield 15, 3) := dq_g0.2.2.2.2.2.2.2.1
theorem dX0_init_20 : decode cX0_init 20 = .ok (.aload_n 0, 1) := dq_g0.2.2.2.2.2.2.2.2.1
theorem dX0_init_21 : decode cX0_init 21 = .ok (.bipush 16, 2) := dq_g0.2.2.2.2.2.2.2.2.2.1
theorem dX0_init_25 : decode cX0_init 25 = .ok (.putfield 18, 3) := dq_g0.2.2.2.2.2.2.2.2.2.2.1
theorem dX0_init_28 : decode cX0_init 28 = .ok (.aload_n 0, 1) := dq_g0.2.2.2.2.2.2.2.2.2.2.2.1
theorem dX0_init_29 : decode cX0_init 29 = .ok (.bipush 16, 2) := dq_g0.2.2.2.2.2.2.2.2.2.2.2.2.1
theorem dX0_init_33 : decode cX0_init 33 = .ok (.putfield 21, 3) := dq_g0.2.2.2.2.2.2.2.2.2.2.2.2.2.1
theorem dX0_init_36 : decode cX0_init 36 = .ok (.aload_n 0, 1) := dq_g0.2.2.2.2.2.2.2.2.2.2.2.2.2.2.1
theorem dX0_init_37 : decode cX0_init 37 = .ok (.iconst 3, 1) := dq_g0.2.2.2.2.2.2.2.2.2.2.2.2.2.2.2.1
theorem dX0_init_40 : decode cX0_init 40 = .ok (.putfield 24, 3) := dq_g0.2.2.2.2.2.2.2.2.2.2.2.2.2.2.2.2.1
theorem dX0_init_43 : decode cX0_init 43 = .ok (.aload_n 0, 1) := dq_g0.2.2.2.2.2.2.2.2.2.2.2.2.2.2.2.2.2.1
theorem dX0_init_44 : decode cX0_init 44 = .ok (.sipush 200, 3) := dq_g0.2.2.2.2.2.2.2.2.2.2.2.2.2.2.2.2.2.2.1
theorem dX0_init_49 : decode cX0_init 49 = .ok (.putfield 27, 3) := dq_g0.2.2.2.2.2.2.2.2.2.2.2.2.2.2.2.2.2.2.2.1
theorem dX0_init_52 : decode cX0_init 52 = .ok (.aload_n 0, 1) := dq_g0.2.2.2.2.2.2.2.2.2.2.2.2.2.2.2.2.2.2.2.2.1
theorem dX0_init_53 : decode cX0_init 53 = .ok (.sipush 200, 3) := dq_g0.2.2.2.2.2.2.2.2.2.2.2.2.2.2.2.2.2.2.2.2.2.1
theorem dX0_init_58 : decode cX0_init 58 = .ok (.putfield 30, 3) := dq_g0.2.2.2.2.2.2.2.2.2.2.2.2.2.2.2.2.2.2.2.2.2.2.1
theorem dX0_init_7 : decode cX0_init 7 = .ok (.newarray .int, 2) := by decide +kernel
theorem dX0_init_15 : decode cX0_init 15 = .ok (.newarray .int, 2) := by decide +kernel
theorem dX0_init_23 : decode cX0_init 23 = .ok (.newarray .int, 2) := by decide +kernel
theorem dX0_init_31 : decode cX0_init 31 = .ok (.newarray .int, 2) := by decide +kernel
theorem dX0_init_38 : decode cX0_init 38 = .ok (.newarray .int, 2) := by decide +kernel
theorem dX0_init_47 : decode cX0_init 47 = .ok (.newarray .int, 2) := by decide +kernel
theorem dX0_init_56 : decode cX0_init 56 = .ok (.newarray .int, 2) := by decide +kernel
theorem dq_g1 : decode cX0_init 61 = .ok (.aload_n 0, 1) ∧ decode cX0_init 62 = .ok (.bipush 12, 2) ∧ decode cX0_init 66 = .ok (.putfield 33, 3) ∧ decode cX0_init 69 = .ok (.aload_n 0, 1) ∧ decode cX0_init 70 = .ok (.bipush 12, 2) ∧ decode cX0_init 74 = .ok (.putfield 36, 3) ∧ decode cX0_init 77 = .ok (.aload_n 0, 1) ∧ decode cX0_init 78 = .ok (.bipush 12, 2) ∧ decode cX0_init 80 = .ok (.bipush 16, 2) ∧ decode cX0_init 86 = .ok (.putfield 41, 3) ∧ decode cX0_init 89 = .ok (.aload_n 0, 1) ∧ decode cX0_init 90 = .ok (.bipush 12, 2) ∧ decode cX0_init 92 = .ok (.bipush 16, 2) ∧ decode cX0_init 98 = .ok (.putfield 44, 3) ∧ decode cX0_init 101 = .ok (.aload_n 0, 1) ∧ decode cX0_init 102 = .ok (.iconst 2, 1) ∧ decode cX0_init 105 = .ok (.putfield 47, 3) ∧ decode cX0_init 108 = .ok (.return_, 1) ∧ True := dqC_ok (c := cX0_init) [(61, 1, some (.aload_n 0)), (62, 2, some (.bipush 12)), (64, 2, none), (66, 3, some (.putfield 33)), (69, 1, some (.aload_n 0)), (70, 2, some (.bipush 12)), (72, 2, none), (74, 3, some (.putfield 36)), (77, 1, some (.aload_n 0)), (78, 2, some (.bipush 12)), (80, 2, some (.bipush 16)), (82, 4, none), (86, 3, some (.putfield 41)), (89, 1, some (.aload_n 0)), (90, 2, some (.bipush 12)), (92, 2, some (.bipush 16)), (94, 4, none), (98, 3, some (.putfield 44)), (101, 1, some (.aload_n 0)), (102, 1, some (.iconst 2)), (103, 2, none), (105, 3, some (.putfield 47)), (108, 1, some (.return_))] _ 61 rfl (by decide +kernel)
theorem dX0_init_61 : decode cX0_init 61 = .ok (.aload_n 0, 1) := dq_g1.1
theorem dX0_init_62 : decode cX0_init 62 = .ok (.bipush 12, 2) := dq_g1.2.1
theorem dX0_init_66 : decode cX0_init 66 = .ok (.putfield 33, 3) := dq_g1.2.2.1
theorem dX0_init_69 : decode cX0_init 69 = .ok (.aload_n 0, 1) := dq_g1.2.2.2.1
theorem dX0_init_70 : decode cX0_init 70 = .ok (.bipush 12, 2) := dq_g1.2.2.2.2.1
theorem dX0_init_74 : decode cX0_init 74 = .ok (.putfield 36, 3) := dq_g1.2.2.2.2.2.1
theorem dX0_init_77 : decode cX0_init 77 = .ok (.aload_n 0, 1) := dq_g1.2.2.2.2.2.2.1
theorem dX0_init_78 : decode cX0_init 78 = .ok (.bipush 12, 2) := dq_g1.2.2.2.2.2.2.2.1
theorem dX0_init_80 : decode cX0_init 80 = .ok (.bipush 16, 2) := dq_g1.2.2.2.2.2.2.2.2.1
theorem dX0_init_86 : decode cX0_init 86 = .ok (.putfield 41, 3) := dq_g1.2.2.2.2.2.2.2.2.2.1
theorem dX0_init_89 : decode cX0_init 89 = .ok (.aload_n 0, 1) := dq_g1.2.2.2.2.2.2.2.2.2.2.1
theorem dX0_init_90 : decode cX0_init 90 = .ok (.bipush 12, 2) := dq_g1.2.2.2.2.2.2.2.2.2.2.2.1
theorem dX0_init_92 : decode cX0_init 92 = .ok (.bipush 16, 2) := dq_g1.2.2.2.2.2.2.2.2.2.2.2.2.1
theorem dX0_init_98 : decode cX0_init 98 = .ok (.putfield 44, 3) := dq_g1.2.2.2.2.2.2.2.2.2.2.2.2.2.1
theorem dX0_init_101 : decode cX0_init 101 = .ok (.aload_n 0, 1) := dq_g1.2.2.2.2.2.2.2.2.2.2.2.2.2.2.1
theorem dX0_init_102 : decode cX0_init 102 = .ok (.iconst 2, 1) := dq_g1.2.2.2.2.2.2.2.2.2.2.2.2.2.2.2.1
theorem dX0_init_105 : decode cX0_init 105 = .ok (.putfield 47, 3) := dq_g1.2.2.2.2.2.2.2.2.2.2.2.2.2.2.2.2.1
theorem dX0_init_108 : decode cX0_init 108 = .ok (.return_, 1) := dq_g1.2.2.2.2.2.2.2.2.2.2.2.2.2.2.2.2.2.1
theorem dX0_init_64 : decode cX0_init 64 = .ok (.newarray .int, 2) := by decide +kernel
theorem dX0_init_72 : decode cX0_init 72 = .ok (.newarray .int, 2) := by decide +kernel
theorem dX0_init_82 : decode cX0_init 82 = .ok (.multianewarray 39 2, 4) := by decide +kernel
theorem dX0_init_94 : decode cX0_init 94 = .ok (.multianewarray 39 2, 4) := by decide +kernel
theorem dX0_init_103 : decode cX0_init 103 = .ok (.newarray .int, 2) := by decide +kernel
theorem dq_g2 : decode cX0_begin 0 = .ok (.aload_n 0, 1) ∧ decode cX0_begin 1 = .ok (.iload_n 1, 1) ∧ decode cX0_begin 2 = .ok (.putfield 50, 3) ∧ decode cX0_begin 5 = .ok (.aload_n 0, 1) ∧ decode cX0_begin 6 = .ok (.getfield 9, 3) ∧ decode cX0_begin 9 = .ok (.bipush 20, 2) ∧ decode cX0_begin 11 = .ok (.invokestatic 54, 3) ∧ decode cX0_begin 14 = .ok (.aload_n 0, 1) ∧ decode cX0_begin 15 = .ok (.getfield 15, 3) ∧ decode cX0_begin 18 = .ok (.iconst 5, 1) ∧ decode cX0_begin 19 = .ok (.invokestatic 54, 3) ∧ decode cX0_begin 22 = .ok (.aload_n 0, 1) ∧ decode cX0_begin 23 = .ok (.getfield 18, 3) ∧ decode cX0_begin 26 = .ok (.iconst 5, 1) ∧ decode cX0_begin 27 = .ok (.invokestatic 54, 3) ∧ decode cX0_begin 30 = .ok (.aload_n 0, 1) ∧ decode cX0_begin 31 = .ok (.getfield 21, 3) ∧ decode cX0_begin 34 = .ok (.iconst 0, 1) ∧ decode cX0_begin 35 = .ok (.invokestatic 54, 3) ∧ decode cX0_begin 38 = .ok (.aload_n 0, 1) ∧ decode cX0_begin 39 = .ok (.getfield 24, 3) ∧ decode cX0_begin 42 = .ok (.iconst 0, 1) ∧ decode cX0_begin 43 = .ok (.invokestatic 54, 3) ∧ decode cX0_begin 46 = .ok (.aload_n 0, 1) ∧ decode cX0_begin 47 = .ok (.getfield 47, 3) ∧ decode cX0_begin 50 = .ok (.sipush 500, 3) ∧ decode cX0_begin 53 = .ok (.invokestatic 54, 3) ∧ decode cX0_begin 56 = .ok (.aload_n 0, 1) ∧ decode cX0_begin 57 = .ok (.iconst 0, 1) ∧ decode cX0_begin 58 = .ok (.putfield 60, 3) ∧ True := dqC_ok (c := cX0_begin) [(0, 1, some (.aload_n 0)), (1, 1, some (.iload_n 1)), (2, 3, some (.putfield 50)), (5, 1, some (.aload_n 0)), (6, 3, some (.getfield 9)), (9, 2, some (.bipush 20)), (11, 3, some (.invokestatic 54)), (14, 1, some (.aload_n 0)), (15, 3, some (.getfield 15)), (18, 1, some (.iconst 5)), (19, 3, some (.invokestatic 54)), (22, 1, some (.aload_n 0)), (23, 3, some (.getfield 18)), (26, 1, some (.iconst 5)), (27, 3, some (.invokestatic 54)), (30, 1, some (.aload_n 0)), (31, 3, some (.getfield 21)), (34, 1, some (.iconst 0)), (35, 3, some (.invokestatic 54)), (38, 1, some (.aload_n 0)), (39, 3, some (.getfield 24)), (42, 1, some (.iconst 0)), (43, 3, some (.invokestatic 54)), (46, 1, some (.aload_n 0)), (47, 3, some (.getfield 47)), (50, 3, some (.sipush 500)), (53, 3, some (.invokestatic 54)), (56, 1, some (.aload_n 0)), (57, 1, some (.iconst 0)), (58, 3, some (.putfield 60))] _ 0 rfl (by decide +kernel)
theorem dX0_begin_0 : decode cX0_begin 0 = .ok (.aload_n 0, 1) := dq_g2.1
theorem dX0_begin_1 : decode cX0_begin 1 = .ok (.iload_n 1, 1) := dq_g2.2.1
theorem dX0_begin_2 : decode cX0_begin 2 = .ok (.putfield 50, 3) := dq_g2.2.2.1
theorem dX0_begin_5 : decode cX0_begin 5 = .ok (.aload_n 0, 1) := dq_g2.2.2.2.1
theorem dX0_begin_6 : decode cX0_begin 6 = .ok (.getfield 9, 3) := dq_g2.2.2.2.2.1
theorem dX0_begin_9 : decode cX0_begin 9 = .ok (.bipush 20, 2) := dq_g2.2.2.2.2.2.1
theorem dX0_begin_11 : decode cX0_begin 11 = .ok (.invokestatic 54, 3) := dq_g2.2.2.2.2.2.2.1
theorem dX0_begin_14 : decode cX0_begin 14 = .ok (.aload_n 0, 1) := dq_g2.2.2.2.2.2.2.2.1
theorem dX0_begin_15 : decode cX0_begin 15 = .ok (.getfield 15, 3) := dq_g2.2.2.2.2.2.2.2.2.1
theorem dX0_begin_18 : decode cX0_begin 18 = .ok (.iconst 5, 1) := dq_g2.2.2.2.2.2.2.2.2.2.1
theorem dX0_begin_19 : decode cX0_begin 19 = .ok (.invokestatic 54, 3) := dq_g2.2.2.2.2.2.2.2.2.2.2.1
theorem dX0_begin_22 : decode cX0_begin 22 = .ok (.aload_n 0, 1) := dq_g2.2.2.2.2.2.2.2.2.2.2.2.1
theorem dX0_begin_23 : decode cX0_begin 23 = .ok (.getfield 18, 3) := dq_g2.2.2.2.2.2.2.2.2.2.2.2.2.1
theorem dX0_begin_26 : decode cX0_begin 26 = .ok (.iconst 5, 1) := dq_g2.2.2.2.2.2.2.2.2.2.2.2.2.2.1
theorem dX0_begin_27 : decode cX0_begin 27 = .ok (.invokestatic 54, 3) := dq_g2.2.2.2.2.2.2.2.2.2.2.2.2.2.2.1
theorem dX0_begin_30 : decode cX0_begin 30 = .ok (.aload_n 0, 1) := dq_g2.2.2.2.2.2.2.2.2.2.2.2.2.2.2.2.1
theorem dX0_begin_31 : decode cX0_begin 31 = .ok (.getfield 21, 3) := dq_g2.2.2.2.2.2.2.2.2.2.2.2.2.2.2.2.2.1
theorem dX0_begin_34 : decode cX0_begin 34 = .ok (.iconst 0, 1) := dq_g2.2.2.2.2.2.2.2.2.2.2.2.2.2.2.2.2.2.1
theorem dX0_begin_35 : decode cX0_begin 35 = .ok (.invokestatic 54, 3) := dq_g2.2.2.2.2.2.2.2.2.2.2.2.2.2.2.2.2.2.2.1
theorem dX0_begin_38 : decode cX0_begin 38 = .ok (.aload_n 0, 1) := dq_g2.2.2.2.2.2.2.2.2.2.2.2.2.2.2.2.2.2.2.2.1
theorem dX0_begin_39 : decode cX0_begin 39 = .ok (.getfield 24, 3) := dq_g2.2.2.2.2.2.2.2.2.2.2.2.2.2.2.2.2.2.2.2.2.1
theorem dX0_begin_42 : decode cX0_begin 42 = .ok (.iconst 0, 1) := dq_g2.2.2.2.2.2.2.2.2.2.2.2.2.2.2.2.2.2.2.2.2.2.1
theorem dX0_begin_43 : decode cX0_begin 43 = .ok (.invokestatic 54, 3) := dq_g2.2.2.2.2.2.2.2.2.2.2.2.2.2.2.2.2.2.2.2.2.2.2.1
theorem dX0_begin_46 : decode cX0_begin 46 = .ok (.aload_n 0, 1) := dq_g2.2.2.2.2.2.2.2.2.2.2.2.2.2.2.2.2.2.2.2.2.2.2.2.1
theorem dX0_begin_47 : decode cX0_begin 47 = .ok (.getfield 47, 3) := dq_g2.2.2.2.2.2.2.2.2.2.2.2.2.2.2.2.2.2.2.2.2.2.2.2.2.1
theorem dX0_begin_50 : decode cX0_begin 50 = .ok (.sipush 500, 3) := dq_g2.2.2.2.2.2.2.2.2.2.2.2.2.2.2.2.2.2.2.2.2.2.2.2.2.2.1
theorem dX0_begin_53 : decode cX0_begin 53 = .ok (.invokestatic 54, 3) := dq_g2.2.2.2.2.2.2.2.2.2.2.2.2.2.2.2.2.2.2.2.2.2.2.2.2.2.2.1
theorem dX0_begin_56 : decode cX0_begin 56 = .ok (.aload_n 0, 1) := dq_g2.2.2.2.2.2.2.2.2.2.2.2.2.2.2.2.2.2.2.2.2.2.2.2.2.2.2.2.1
theorem dX0_begin_57 : decode cX0_begin 57 = .ok (.iconst 0, 1) := dq_g2.2.2.2.2.2.2.2.2.2.2.2.2.2.2.2.2.2.2.2.2.2.2.2.2.2.2.2.2.1
theorem dX0_begin_58 : decode cX0_begin 58 = .ok (.putfield 60, 3) := dq_g2.2.2.2.2.2.2.2.2.2.2.2.2.2.2.2.2.2.2.2.2.2.2.2.2.2.2.2.2.2.1
theorem dq_g3 : decode cX0_begin 61 = .ok (.aload_n 0, 1) ∧ decode cX0_begin 62 = .ok (.iconst 0, 1) ∧ decode cX0_begin 63 = .ok (.putfield 63, 3) ∧ decode cX0_begin 66 = .ok (.aload_n 0, 1) ∧ decode cX0_begin 67 = .ok (.iconst 0, 1) ∧ decode cX0_begin 68 = .ok (.putfield 66, 3) ∧ decode cX0_begin 71 = .ok (.aload_n 0, 1) ∧ decode cX0_begin 72 = .ok (.iconst (-1), 1) ∧ decode cX0_begin 73 = .ok (.putfield 69, 3) ∧ decode cX0_begin 76 = .ok (.aload_n 0, 1) ∧ decode cX0_begin 77 = .ok (.iconst (-1), 1) ∧ decode cX0_begin 78 = .ok (.putfield 72, 3) ∧ decode cX0_begin 81 = .ok (.return_, 1) ∧ True := dqC_ok (c := cX0_begin) [(61, 1, some (.aload_n 0)), (62, 1, some (.iconst 0)), (63, 3, some (.putfield 63)), (66, 1, some (.aload_n 0)), (67, 1, some (.iconst 0)), (68, 3, some (.putfield 66)), (71, 1, some (.aload_n 0)), (72, 1, some (.iconst (-1))), (73, 3, some (.putfield 69)), (76, 1, some (.aload_n 0)), (77, 1, some (.iconst (-1))), (78, 3, some (.putfield 72)), (81, 1, some (.return_))] _ 61 rfl (by decide +kernel)
theorem dX0_begin_61 : decode cX0_begin 61 = .ok (.aload_n 0, 1) := dq_g3.1
theorem dX0_begin_62 : decode cX0_begin 62 = .ok (.iconst 0, 1) := dq_g3.2.1
theorem dX0_begin_63 : decode cX0_begin 63 = .ok (.putfield 63, 3) := dq_g3.2.2.1
theorem dX0_begin_66 : decode cX0_begin 66 = .ok (.aload_n 0, 1) := dq_g3.2.2.2.1
theorem dX0_begin_67 : decode cX0_begin 67 = .ok (.iconst 0, 1) := dq_g3.2.2.2.2.1
theorem dX0_begin_68 : decode cX0_begin 68 = .ok (.putfield 66, 3) := dq_g3.2.2.2.2.2.1
theorem dX0_begin_71 : decode cX0_begin 71 = .ok (.aload_n 0, 1) := dq_g3.2.2.2.2.2.2.1
theorem dX0_begin_72 : decode cX0_begin 72 = .ok (.iconst (-1), 1) := dq_g3.2.2.2.2.2.2.2.1
theorem dX0_begin_73 : decode cX0_begin 73 = .ok (.putfield 69, 3) := dq_g3.2.2.2.2.2.2.2.2.1
theorem dX0_begin_76 : decode cX0_begin 76 = .ok (.aload_n 0, 1) := dq_g3.2.2.2.2.2.2.2.2.2.1
theorem dX0_begin_77 : decode cX0_begin 77 = .ok (.iconst (-1), 1) := dq_g3.2.2.2.2.2.2.2.2.2.2.1
theorem dX0_begin_78 : decode cX0_begin 78 = .ok (.putfield 72, 3) := dq_g3.2.2.2.2.2.2.2.2.2.2.2.1
theorem dX0_begin_81 : decode cX0_begin 81 = .ok (.return_, 1) := dq_g3.2.2.2.2.2.2.2.2.2.2.2.2.1
theorem dq_g4 : decode cX0_has 0 = .ok (.iload_n 1, 1) ∧ decode cX0_has 1 = .ok (.ifCond .lt 15, 3) ∧ decode cX0_has 4 = .ok (.iload_n 1, 1) ∧ decode cX0_has 5 = .ok (.aload_n 0, 1) ∧ decode cX0_has 6 = .ok (.getfield 50, 3) ∧ decode cX0_has 9 = .ok (.if_icmp .ge 7, 3) ∧ decode cX0_has 12 = .ok (.iconst 1, 1) ∧ decode cX0_has 13 = .ok (.goto 4, 3) ∧ decode cX0_has 16 = .ok (.iconst 0, 1) ∧ decode cX0_has 17 = .ok (.ireturn, 1) ∧ True := dqC_ok (c := cX0_has) [(0, 1, some (.iload_n 1)), (1, 3, some (.ifCond .lt 15)), (4, 1, some (.iload_n 1)), (5, 1, some (.aload_n 0)), (6, 3, some (.getfield 50)), (9, 3, some (.if_icmp .ge 7)), (12, 1, some (.iconst 1)), (13, 3, some (.goto 4)), (16, 1, some (.iconst 0)), (17, 1, some (.ireturn))] _ 0 rfl (by decide +kernel)
theorem dX0_has_0 : decode cX0_has 0 = .ok (.iload_n 1, 1) := dq_g4.1
theorem dX0_has_1 : decode cX0_has 1 = .ok (.ifCond .lt 15, 3) := dq_g4.2.1
theorem dX0_has_4 : decode cX0_has 4 = .ok (.iload_n 1, 1) := dq_g4.2.2.1
theorem dX0_has_5 : decode cX0_has 5 = .ok (.aload_n 0, 1) := dq_g4.2.2.2.1
theorem dX0_has_6 : decode cX0_has 6 = .ok (.getfield 50, 3) := dq_g4.2.2.2.2.1
theorem dX0_has_9 : decode cX0_has 9 = .ok (.if_icmp .ge 7, 3) := dq_g4.2.2.2.2.2.1
theorem dX0_has_12 : decode cX0_has 12 = .ok (.iconst 1, 1) := dq_g4.2.2.2.2.2.2.1
theorem dX0_has_13 : decode cX0_has 13 = .ok (.goto 4, 3) := dq_g4.2.2.2.2.2.2.2.1
theorem dX0_has_16 : decode cX0_has 16 = .ok (.iconst 0, 1) := dq_g4.2.2.2.2.2.2.2.2.1
theorem dX0_has_17 : decode cX0_has 17 = .ok (.ireturn, 1) := dq_g4.2.2.2.2.2.2.2.2.2.1
theorem dq_g5 : decode cX0_addTap 0 = .ok (.aload_n 0, 1) ∧ decode cX0_addTap 1 = .ok (.getfield 66, 3) ∧ decode cX0_addTap 4 = .ok (.bipush 12, 2) ∧ decode cX0_addTap 6 = .ok (.if_icmp .ge 73, 3) ∧ decode cX0_addTap 9 = .ok (.aload_n 0, 1) ∧ decode cX0_addTap 10 = .ok (.getfield 33, 3) ∧ decode cX0_addTap 13 = .ok (.aload_n 0, 1) ∧ decode cX0_addTap 14 = .ok (.getfield 66, 3) ∧ decode cX0_addTap 17 = .ok (.iload_n 1, 1) ∧ decode cX0_addTap 18 = .ok (.iastore, 1) ∧ decode cX0_addTap 19 = .ok (.aload_n 0, 1) ∧ decode cX0_addTap 20 = .ok (.getfield 36, 3) ∧ decode cX0_addTap 23 = .ok (.aload_n 0, 1) ∧ decode cX0_addTap 24 = .ok (.getfield 66, 3) ∧ decode cX0_addTap 27 = .ok (.iload_n 2, 1) ∧ decode cX0_addTap 28 = .ok (.iastore, 1) ∧ decode cX0_addTap 29 = .ok (.aload_n 0, 1) ∧ decode cX0_addTap 30 = .ok (.getfield 9, 3) ∧ decode cX0_addTap 33 = .ok (.iconst 0, 1) ∧ decode cX0_addTap 34 = .ok (.aload_n 0, 1) ∧ decode cX0_addTap 35 = .ok (.getfield 41, 3) ∧ decode cX0_addTap 38 = .ok (.aload_n 0, 1) ∧ decode cX0_addTap 39 = .ok (.getfield 66, 3) ∧ decode cX0_addTap 42 = .ok (.aaload, 1) ∧ decode cX0_addTap 43 = .ok (.iconst 0, 1) ∧ decode cX0_addTap 44 = .ok (.bipush 16, 2) ∧ decode cX0_addTap 46 = .ok (.invokestatic 75, 3) ∧ decode cX0_addTap 49 = .ok (.aload_n 0, 1) ∧ decode cX0_addTap 50 = .ok (.getfield 21, 3) ∧ decode cX0_addTap 53 = .ok (.iconst 0, 1) ∧ True := dqC_ok (c := cX0_addTap) [(0, 1, some (.aload_n 0)), (1, 3, some (.getfield 66)), (4, 2, some (.bipush 12)), (6, 3, some (.if_icmp .ge 73)), (9, 1, some (.aload_n 0)), (10, 3, some (.getfield 33)), (13, 1, some (.aload_n 0)), (14, 3, some (.getfield 66)), (17, 1, some (.iload_n 1)), (18, 1, some (.iastore)), (19, 1, some (.aload_n 0)), (20, 3, some (.getfield 36)), (23, 1, some (.aload_n 0)), (24, 3, some (.getfield 66)), (27, 1, some (.iload_n 2)), (28, 1, some (.iastore)), (29, 1, some (.aload_n 0)), (30, 3, some (.getfield 9)), (33, 1, some (.iconst 0)), (34, 1, some (.aload_n 0)), (35, 3, some (.getfield 41)), (38, 1, some (.aload_n 0)), (39, 3, some (.getfield 66)), (42, 1, some (.aaload)), (43, 1, some (.iconst 0)), (44, 2, some (.bipush 16)), (46, 3, some (.invokestatic 75)), (49, 1, some (.aload_n 0)), (50, 3, some (.getfield 21)), (53, 1, some (.iconst 0))] _ 0 rfl (by decide +kernel)
theorem dX0_addTap_0 : decode cX0_addTap 0 = .ok (.aload_n 0, 1) := dq_g5.1
theorem dX0_addTap_1 : decode cX0_addTap 1 = .ok (.getfield 66, 3) := dq_g5.2.1
theorem dX0_addTap_4 : decode cX0_addTap 4 = .ok (.bipush 12, 2) := dq_g5.2.2.1
theorem dX0_addTap_6 : decode cX0_addTap 6 = .ok (.if_icmp .ge 73, 3) := dq_g5.2.2.2.1
theorem dX0_addTap_9 : decode cX0_addTap 9 = .ok (.aload_n 0, 1) := dq_g5.2.2.2.2.1
theorem dX0_addTap_10 : decode cX0_addTap 10 = .ok (.getfield 33, 3) := dq_g5.2.2.2.2.2.1
theorem dX0_addTap_13 : decode cX0_addTap 13 = .ok (.aload_n 0, 1) := dq_g5.2.2.2.2.2.2.1
theorem dX0_addTap_14 : decode cX0_addTap 14 = .ok (.getfield 66, 3) := dq_g5.2.2.2.2.2.2.2.1
theorem dX0_addTap_17 : decode cX0_addTap 17 = .ok (.iload_n 1, 1) := dq_g5.2.2.2.2.2.2.2.2.1
theorem dX0_addTap_18 : decode cX0_addTap 18 = .ok (.iastore, 1) := dq_g5.2.2.2.2.2.2.2.2.2.1
theorem dX0_addTap_19 : decode cX0_addTap 19 = .ok (.aload_n 0, 1) := dq_g5.2.2.2.2.2.2.2.2.2.2.1
theorem dX0_addTap_20 : decode cX0_addTap 20 = .ok (.getfield 36, 3) := dq_g5.2.2.2.2.2.2.2.2.2.2.2.1
theorem dX0_addTap_23 : decode cX0_addTap 23 = .ok (.aload_n 0, 1) := dq_g5.2.2.2.2.2.2.2.2.2.2.2.2.1
theorem dX0_addTap_24 : decode cX0_addTap 24 = .ok (.getfield 66, 3) := dq_g5.2.2.2.2.2.2.2.2.2.2.2.2.2.1
theorem dX0_addTap_27 : decode cX0_addTap 27 = .ok (.iload_n 2, 1) := dq_g5.2.2.2.2.2.2.2.2.2.2.2.2.2.2.1
theorem dX0_addTap_28 : decode cX0_addTap 28 = .ok (.iastore, 1) := dq_g5.2.2.2.2.2.2.2.2.2.2.2.2.2.2.2.1
theorem dX0_addTap_29 : decode cX0_addTap 29 = .ok (.aload_n 0, 1) := dq_g5.2.2.2.2.2.2.2.2.2.2.2.2.2.2.2.2.1
theorem dX0_addTap_30 : decode cX0_addTap 30 = .ok (.getfield 9, 3) := dq_g5.2.2.2.2.2.2.2.2.2.2.2.2.2.2.2.2.2.1
theorem dX0_addTap_33 : decode cX0_addTap 33 = .ok (.iconst 0, 1) := dq_g5.2.2.2.2.2.2.2.2.2.2.2.2.2.2.2.2.2.2.1
theorem dX0_addTap_34 : decode cX0_addTap 34 = .ok (.aload_n 0, 1) := dq_g5.2.2.2.2.2.2.2.2.2.2.2.2.2.2.2.2.2.2.2.1
theorem dX0_addTap_35 : decode cX0_addTap 35 = .ok (.getfield 41, 3) := dq_g5.2.2.2.2.2.2.2.2.2.2.2.2.2.2.2.2.2.2.2.2.1
theorem dX0_addTap_38 : decode cX0_addTap 38 = .ok (.aload_n 0, 1) := dq_g5.2.2.2.2.2.2.2.2.2.2.2.2.2.2.2.2.2.2.2.2.2.1
theorem dX0_addTap_39 : decode cX0_addTap 39 = .ok (.getfield 66, 3) := dq_g5.2.2.2.2.2.2.2.2.2.2.2.2.2.2.2.2.2.2.2.2.2.2.1
theorem dX0_addTap_42 : decode cX0_addTap 42 = .ok (.aaload, 1) := dq_g5.2.2.2.2.2.2.2.2.2.2.2.2.2.2.2.2.2.2.2.2.2.2.2.1
theorem dX0_addTap_43 : decode cX0_addTap 43 = .ok (.iconst 0, 1) := dq_g5.2.2.2.2.2.2.2.2.2.2.2.2.2.2.2.2.2.2.2.2.2.2.2.2.1
theorem dX0_addTap_44 : decode cX0_addTap 44 = .ok (.bipush 16, 2) := dq_g5.2.2.2.2.2.2.2.2.2.2.2.2.2.2.2.2.2.2.2.2.2.2.2.2.2.1
theorem dX0_addTap_46 : decode cX0_addTap 46 = .ok (.invokestatic 75, 3) := dq_g5.2.2.2.2.2.2.2.2.2.2.2.2.2.2.2.2.2.2.2.2.2.2.2.2.2.2.1
theorem dX0_addTap_49 : decode cX0_addTap 49 = .ok (.aload_n 0, 1) := dq_g5.2.2.2.2.2.2.2.2.2.2.2.2.2.2.2.2.2.2.2.2.2.2.2.2.2.2.2.1
theorem dX0_addTap_50 : decode cX0_addTap 50 = .ok (.getfield 21, 3) := dq_g5.2.2.2.2.2.2.2.2.2.2.2.2.2.2.2.2.2.2.2.2.2.2.2.2.2.2.2.2.1
theorem dX0_addTap_53 : decode cX0_addTap 53 = .ok (.iconst 0, 1) := dq_g5.2.2.2.2.2.2.2.2.2.2.2.2.2.2.2.2.2.2.2.2.2.2.2.2.2.2.2.2.2.1
theorem dq_g6 : decode cX0_addTap 54 = .ok (.aload_n 0, 1) ∧ decode cX0_addTap 55 = .ok (.getfield 44, 3) ∧ decode cX0_addTap 58 = .ok (.aload_n 0, 1) ∧ decode cX0_addTap 59 = .ok (.getfield 66, 3) ∧ decode cX0_addTap 62 = .ok (.aaload, 1) ∧ decode cX0_addTap 63 = .ok (.iconst 0, 1) ∧ decode cX0_addTap 64 = .ok (.bipush 16, 2) ∧ decode cX0_addTap 66 = .ok (.invokestatic 75, 3) ∧ decode cX0_addTap 69 = .ok (.aload_n 0, 1) ∧ decode cX0_addTap 70 = .ok (.dup, 1) ∧ decode cX0_addTap 71 = .ok (.getfield 66, 3) ∧ decode cX0_addTap 74 = .ok (.iconst 1, 1) ∧ decode cX0_addTap 75 = .ok (.iadd, 1) ∧ decode cX0_addTap 76 = .ok (.putfield 66, 3) ∧ decode cX0_addTap 79 = .ok (.return_, 1) ∧ True := dqC_ok (c := cX0_addTap) [(54, 1, some (.aload_n 0)), (55, 3, some (.getfield 44)), (58, 1, some (.aload_n 0)), (59, 3, some (.getfield 66)), (62, 1, some (.aaload)), (63, 1, some (.iconst 0)), (64, 2, some (.bipush 16)), (66, 3, some (.invokestatic 75)), (69, 1, some (.aload_n 0)), (70, 1, some (.dup)), (71, 3, some (.getfield 66)), (74, 1, some (.iconst 1)), (75, 1, some (.iadd)), (76, 3, some (.putfield 66)), (79, 1, some (.return_))] _ 54 rfl (by decide +kernel)
theorem dX0_addTap_54 : decode cX0_addTap 54 = .ok (.aload_n 0, 1) := dq_g6.1
theorem dX0_addTap_55 : decode cX0_addTap 55 = .ok (.getfield 44, 3) := dq_g6.2.1
theorem dX0_addTap_58 : decode cX0_addTap 58 = .ok (.aload_n 0, 1) := dq_g6.2.2.1
theorem dX0_addTap_59 : decode cX0_addTap 59 = .ok (.getfield 66, 3) := dq_g6.2.2.2.1
theorem dX0_addTap_62 : decode cX0_addTap 62 = .ok (.aaload, 1) := dq_g6.2.2.2.2.1
theorem dX0_addTap_63 : decode cX0_addTap 63 = .ok (.iconst 0, 1) := dq_g6.2.2.2.2.2.1
theorem dX0_addTap_64 : decode cX0_addTap 64 = .ok (.bipush 16, 2) := dq_g6.2.2.2.2.2.2.1
theorem dX0_addTap_66 : decode cX0_addTap 66 = .ok (.invokestatic 75, 3) := dq_g6.2.2.2.2.2.2.2.1
theorem dX0_addTap_69 : decode cX0_addTap 69 = .ok (.aload_n 0, 1) := dq_g6.2.2.2.2.2.2.2.2.1
theorem dX0_addTap_70 : decode cX0_addTap 70 = .ok (.dup, 1) := dq_g6.2.2.2.2.2.2.2.2.2.1
theorem dX0_addTap_71 : decode cX0_addTap 71 = .ok (.getfield 66, 3) := dq_g6.2.2.2.2.2.2.2.2.2.2.1
theorem dX0_addTap_74 : decode cX0_addTap 74 = .ok (.iconst 1, 1) := dq_g6.2.2.2.2.2.2.2.2.2.2.2.1
theorem dX0_addTap_75 : decode cX0_addTap 75 = .ok (.iadd, 1) := dq_g6.2.2.2.2.2.2.2.2.2.2.2.2.1
theorem dX0_addTap_76 : decode cX0_addTap 76 = .ok (.putfield 66, 3) := dq_g6.2.2.2.2.2.2.2.2.2.2.2.2.2.1
theorem dX0_addTap_79 : decode cX0_addTap 79 = .ok (.return_, 1) := dq_g6.2.2.2.2.2.2.2.2.2.2.2.2.2.2.1
theorem dq_g7 : decode cX0_thinnedCopy 0 = .ok (.aload_n 0, 1) ∧ decode cX0_thinnedCopy 1 = .ok (.getfield 9, 3) ∧ decode cX0_thinnedCopy 4 = .ok (.iconst 0, 1) ∧ decode cX0_thinnedCopy 5 = .ok (.aload_n 1, 1) ∧ decode cX0_thinnedCopy 6 = .ok (.iconst 0, 1) ∧ decode cX0_thinnedCopy 7 = .ok (.bipush 16, 2) ∧ decode cX0_thinnedCopy 9 = .ok (.invokestatic 75, 3) ∧ decode cX0_thinnedCopy 12 = .ok (.aload_n 1, 1) ∧ decode cX0_thinnedCopy 13 = .ok (.iload_n 2, 1) ∧ decode cX0_thinnedCopy 14 = .ok (.dup2, 1) ∧ decode cX0_thinnedCopy 15 = .ok (.iaload, 1) ∧ decode cX0_thinnedCopy 16 = .ok (.iconst 1, 1) ∧ decode cX0_thinnedCopy 17 = .ok (.isub, 1) ∧ decode cX0_thinnedCopy 18 = .ok (.iastore, 1) ∧ decode cX0_thinnedCopy 19 = .ok (.return_, 1) ∧ True := dqC_ok (c := cX0_thinnedCopy) [(0, 1, some (.aload_n 0)), (1, 3, some (.getfield 9)), (4, 1, some (.iconst 0)), (5, 1, some (.aload_n 1)), (6, 1, some (.iconst 0)), (7, 2, some (.bipush 16)), (9, 3, some (.invokestatic 75)), (12, 1, some (.aload_n 1)), (13, 1, some (.iload_n 2)), (14, 1, some (.dup2)), (15, 1, some (.iaload)), (16, 1, some (.iconst 1)), (17, 1, some (.isub)), (18, 1, some (.iastore)), (19, 1, some (.return_))] _ 0 rfl (by decide +kernel)
theorem dX0_thinnedCopy_0 : decode cX0_thinnedCopy 0 = .ok (.aload_n 0, 1) := dq_g7.1
theorem dX0_thinnedCopy_1 : decode cX0_thinnedCopy 1 = .ok (.getfield 9, 3) := dq_g7.2.1
theorem dX0_thinnedCopy_4 : decode cX0_thinnedCopy 4 = .ok (.iconst 0, 1) := dq_g7.2.2.1
theorem dX0_thinnedCopy_5 : decode cX0_thinnedCopy 5 = .ok (.aload_n 1, 1) := dq_g7.2.2.2.1
theorem dX0_thinnedCopy_6 : decode cX0_thinnedCopy 6 = .ok (.iconst 0, 1) := dq_g7.2.2.2.2.1
theorem dX0_thinnedCopy_7 : decode cX0_thinnedCopy 7 = .ok (.bipush 16, 2) := dq_g7.2.2.2.2.2.1
theorem dX0_thinnedCopy_9 : decode cX0_thinnedCopy 9 = .ok (.invokestatic 75, 3) := dq_g7.2.2.2.2.2.2.1
theorem dX0_thinnedCopy_12 : decode cX0_thinnedCopy 12 = .ok (.aload_n 1, 1) := dq_g7.2.2.2.2.2.2.2.1
theorem dX0_thinnedCopy_13 : decode cX0_thinnedCopy 13 = .ok (.iload_n 2, 1) := dq_g7.2.2.2.2.2.2.2.2.1
theorem dX0_thinnedCopy_14 : decode cX0_thinnedCopy 14 = .ok (.dup2, 1) := dq_g7.2.2.2.2.2.2.2.2.2.1
theorem dX0_thinnedCopy_15 : decode cX0_thinnedCopy 15 = .ok (.iaload, 1) := dq_g7.2.2.2.2.2.2.2.2.2.2.1
theorem dX0_thinnedCopy_16 : decode cX0_thinnedCopy 16 = .ok (.iconst 1, 1) := dq_g7.2.2.2.2.2.2.2.2.2.2.2.1
theorem dX0_thinnedCopy_17 : decode cX0_thinnedCopy 17 = .ok (.isub, 1) := dq_g7.2.2.2.2.2.2.2.2.2.2.2.2.1
theorem dX0_thinnedCopy_18 : decode cX0_thinnedCopy 18 = .ok (.iastore, 1) := dq_g7.2.2.2.2.2.2.2.2.2.2.2.2.2.1
theorem dX0_thinnedCopy_19 : decode cX0_thinnedCopy 19 = .ok (.return_, 1) := dq_g7.2.2.2.2.2.2.2.2.2.2.2.2.2.2.1
theorem dq_g8 : decode cX0_copyFrom 0 = .ok (.aload_n 0, 1) ∧ decode cX0_copyFrom 1 = .ok (.aload_n 1, 1) ∧ decode cX0_copyFrom 2 = .ok (.getfield 50, 3) ∧ decode cX0_copyFrom 5 = .ok (.putfield 50, 3) ∧ decode cX0_copyFrom 8 = .ok (.aload_n 1, 1) ∧ decode cX0_copyFrom 9 = .ok (.getfield 9, 3) ∧ decode cX0_copyFrom 12 = .ok (.iconst 0, 1) ∧ decode cX0_copyFrom 13 = .ok (.aload_n 0, 1) ∧ decode cX0_copyFrom 14 = .ok (.getfield 9, 3) ∧ decode cX0_copyFrom 17 = .ok (.iconst 0, 1) ∧ decode cX0_copyFrom 18 = .ok (.bipush 16, 2) ∧ decode cX0_copyFrom 20 = .ok (.invokestatic 75, 3) ∧ decode cX0_copyFrom 23 = .ok (.aload_n 1, 1) ∧ decode cX0_copyFrom 24 = .ok (.getfield 15, 3) ∧ decode cX0_copyFrom 27 = .ok (.iconst 0, 1) ∧ decode cX0_copyFrom 28 = .ok (.aload_n 0, 1) ∧ decode cX0_copyFrom 29 = .ok (.getfield 15, 3) ∧ decode cX0_copyFrom 32 = .ok (.iconst 0, 1) ∧ decode cX0_copyFrom 33 = .ok (.bipush 16, 2) ∧ decode cX0_copyFrom 35 = .ok (.invokestatic 75, 3) ∧ decode cX0_copyFrom 38 = .ok (.aload_n 1, 1) ∧ decode cX0_copyFrom 39 = .ok (.getfield 18, 3) ∧ decode cX0_copyFrom 42 = .ok (.iconst 0, 1) ∧ decode cX0_copyFrom 43 = .ok (.aload_n 0, 1) ∧ decode cX0_copyFrom 44 = .ok (.getfield 18, 3) ∧ decode cX0_copyFrom 47 = .ok (.iconst 0, 1) ∧ decode cX0_copyFrom 48 = .ok (.bipush 16, 2) ∧ decode cX0_copyFrom 50 = .ok (.invokestatic 75, 3) ∧ decode cX0_copyFrom 53 = .ok (.aload_n 1, 1) ∧ decode cX0_copyFrom 54 = .ok (.getfield 21, 3) ∧ True := dqC_ok (c := cX0_copyFrom) [(0, 1, some (.aload_n 0)), (1, 1, some (.aload_n 1)), (2, 3, some (.getfield 50)), (5, 3, some (.putfield 50)), (8, 1, some (.aload_n 1)), (9, 3, some (.getfield 9)), (12, 1, some (.iconst 0)), (13, 1, some (.aload_n 0)), (14, 3, some (.getfield 9)), (17, 1, some (.iconst 0)), (18, 2, some (.bipush 16)), (20, 3, some (.invokestatic 75)), (23, 1, some (.aload_n 1)), (24, 3, some (.getfield 15)), (27, 1, some (.iconst 0)), (28, 1, some (.aload_n 0)), (29, 3, some (.getfield 15)), (32, 1, some (.iconst 0)), (33, 2, some (.bipush 16)), (35, 3, some (.invokestatic 75)), (38, 1, some (.aload_n 1)), (39, 3, some (.getfield 18)), (42, 1, some (.iconst 0)), (43, 1, some (.aload_n 0)), (44, 3, some (.getfield 18)), (47, 1, some (.iconst 0)), (48, 2, some (.bipush 16)), (50, 3, some (.invokestatic 75)), (53, 1, some (.aload_n 1)), (54, 3, some (.getfield 21))] _ 0 rfl (by decide +kernel)
theorem dX0_copyFrom_0 : decode cX0_copyFrom 0 = .ok (.aload_n 0, 1) := dq_g8.1
theorem dX0_copyFrom_1 : decode cX0_copyFrom 1 = .ok (.aload_n 1, 1) := dq_g8.2.1
theorem dX0_copyFrom_2 : decode cX0_copyFrom 2 = .ok (.getfield 50, 3) := dq_g8.2.2.1
theorem dX0_copyFrom_5 : decode cX0_copyFrom 5 = .ok (.putfield 50, 3) := dq_g8.2.2.2.1
theorem dX0_copyFrom_8 : decode cX0_copyFrom 8 = .ok (.aload_n 1, 1) := dq_g8.2.2.2.2.1
theorem dX0_copyFrom_9 : decode cX0_copyFrom 9 = .ok (.getfield 9, 3) := dq_g8.2.2.2.2.2.1
theorem dX0_copyFrom_12 : decode cX0_copyFrom 12 = .ok (.iconst 0, 1) := dq_g8.2.2.2.2.2.2.1
theorem dX0_copyFrom_13 : decode cX0_copyFrom 13 = .ok (.aload_n 0, 1) := dq_g8.2.2.2.2.2.2.2.1
theorem dX0_copyFrom_14 : decode cX0_copyFrom 14 = .ok (.getfield 9, 3) := dq_g8.2.2.2.2.2.2.2.2.1
theorem dX0_copyFrom_17 : decode cX0_copyFrom 17 = .ok (.iconst 0, 1) := dq_g8.2.2.2.2.2.2.2.2.2.1
theorem dX0_copyFrom_18 : decode cX0_copyFrom 18 = .ok (.bipush 16, 2) := dq_g8.2.2.2.2.2.2.2.2.2.2.1
theorem dX0_copyFrom_20 : decode cX0_copyFrom 20 = .ok (.invokestatic 75, 3) := dq_g8.2.2.2.2.2.2.2.2.2.2.2.1
theorem dX0_copyFrom_23 : decode cX0_copyFrom 23 = .ok (.aload_n 1, 1) := dq_g8.2.2.2.2.2.2.2.2.2.2.2.2.1
theorem dX0_copyFrom_24 : decode cX0_copyFrom 24 = .ok (.getfield 15, 3) := dq_g8.2.2.2.2.2.2.2.2.2.2.2.2.2.1
theorem dX0_copyFrom_27 : decode cX0_copyFrom 27 = .ok (.iconst 0, 1) := dq_g8.2.2.2.2.2.2.2.2.2.2.2.2.2.2.1
theorem dX0_copyFrom_28 : decode cX0_copyFrom 28 = .ok (.aload_n 0, 1) := dq_g8.2.2.2.2.2.2.2.2.2.2.2.2.2.2.2.1
theorem dX0_copyFrom_29 : decode cX0_copyFrom 29 = .ok (.getfield 15, 3) := dq_g8.2.2.2.2.2.2.2.2.2.2.2.2.2.2.2.2.1
theorem dX0_copyFrom_32 : decode cX0_copyFrom 32 = .ok (.iconst 0, 1) := dq_g8.2.2.2.2.2.2.2.2.2.2.2.2.2.2.2.2.2.1
theorem dX0_copyFrom_33 : decode cX0_copyFrom 33 = .ok (.bipush 16, 2) := dq_g8.2.2.2.2.2.2.2.2.2.2.2.2.2.2.2.2.2.2.1
theorem dX0_copyFrom_35 : decode cX0_copyFrom 35 = .ok (.invokestatic 75, 3) := dq_g8.2.2.2.2.2.2.2.2.2.2.2.2.2.2.2.2.2.2.2.1
theorem dX0_copyFrom_38 : decode cX0_copyFrom 38 = .ok (.aload_n 1, 1) := dq_g8.2.2.2.2.2.2.2.2.2.2.2.2.2.2.2.2.2.2.2.2.1
theorem dX0_copyFrom_39 : decode cX0_copyFrom 39 = .ok (.getfield 18, 3) := dq_g8.2.2.2.2.2.2.2.2.2.2.2.2.2.2.2.2.2.2.2.2.2.1
theorem dX0_copyFrom_42 : decode cX0_copyFrom 42 = .ok (.iconst 0, 1) := dq_g8.2.2.2.2.2.2.2.2.2.2.2.2.2.2.2.2.2.2.2.2.2.2.1
theorem dX0_copyFrom_43 : decode cX0_copyFrom 43 = .ok (.aload_n 0, 1) := dq_g8.2.2.2.2.2.2.2.2.2.2.2.2.2.2.2.2.2.2.2.2.2.2.2.1
theorem dX0_copyFrom_44 : decode cX0_copyFrom 44 = .ok (.getfield 18, 3) := dq_g8.2.2.2.2.2.2.2.2.2.2.2.2.2.2.2.2.2.2.2.2.2.2.2.2.1
theorem dX0_copyFrom_47 : decode cX0_copyFrom 47 = .ok (.iconst 0, 1) := dq_g8.2.2.2.2.2.2.2.2.2.2.2.2.2.2.2.2.2.2.2.2.2.2.2.2.2.1
theorem dX0_copyFrom_48 : decode cX0_copyFrom 48 = .ok (.bipush 16, 2) := dq_g8.2.2.2.2.2.2.2.2.2.2.2.2.2.2.2.2.2.2.2.2.2.2.2.2.2.2.1
theorem dX0_copyFrom_50 : decode cX0_copyFrom 50 = .ok (.invokestatic 75, 3) := dq_g8.2.2.2.2.2.2.2.2.2.2.2.2.2.2.2.2.2.2.2.2.2.2.2.2.2.2.2.1
theorem dX0_copyFrom_53 : decode cX0_copyFrom 53 = .ok (.aload_n 1, 1) := dq_g8.2.2.2.2.2.2.2.2.2.2.2.2.2.2.2.2.2.2.2.2.2.2.2.2.2.2.2.2.1
theorem dX0_copyFrom_54 : decode cX0_copyFrom 54 = .ok (.getfield 21, 3) := dq_g8.2.2.2.2.2.2.2.2.2.2.2.2.2.2.2.2.2.2.2.2.2.2.2.2.2.2.2.2.2.1
theorem dq_g9 : decode cX0_copyFrom 57 = .ok (.iconst 0, 1) ∧ decode cX0_copyFrom 58 = .ok (.aload_n 0, 1) ∧ decode cX0_copyFrom 59 = .ok (.getfield 21, 3) ∧ decode cX0_copyFrom 62 = .ok (.iconst 0, 1) ∧ decode cX0_copyFrom 63 = .ok (.bipush 16, 2) ∧ decode cX0_copyFrom 65 = .ok (.invokestatic 75, 3) ∧ decode cX0_copyFrom 68 = .ok (.aload_n 1, 1) ∧ decode cX0_copyFrom 69 = .ok (.getfield 24, 3) ∧ decode cX0_copyFrom 72 = .ok (.iconst 0, 1) ∧ decode cX0_copyFrom 73 = .ok (.aload_n 0, 1) ∧ decode cX0_copyFrom 74 = .ok (.getfield 24, 3) ∧ decode cX0_copyFrom 77 = .ok (.iconst 0, 1) ∧ decode cX0_copyFrom 78 = .ok (.iconst 3, 1) ∧ decode cX0_copyFrom 79 = .ok (.invokestatic 75, 3) ∧ decode cX0_copyFrom 82 = .ok (.aload_n 1, 1) ∧ decode cX0_copyFrom 83 = .ok (.getfield 27, 3) ∧ decode cX0_copyFrom 86 = .ok (.iconst 0, 1) ∧ decode cX0_copyFrom 87 = .ok (.aload_n 0, 1) ∧ decode cX0_copyFrom 88 = .ok (.getfield 27, 3) ∧ decode cX0_copyFrom 91 = .ok (.iconst 0, 1) ∧ decode cX0_copyFrom 92 = .ok (.sipush 200, 3) ∧ decode cX0_copyFrom 95 = .ok (.invokestatic 75, 3) ∧ decode cX0_copyFrom 98 = .ok (.aload_n 1, 1) ∧ decode cX0_copyFrom 99 = .ok (.getfield 30, 3) ∧ decode cX0_copyFrom 102 = .ok (.iconst 0, 1) ∧ decode cX0_copyFrom 103 = .ok (.aload_n 0, 1) ∧ decode cX0_copyFrom 104 = .ok (.getfield 30, 3) ∧ decode cX0_copyFrom 107 = .ok (.iconst 0, 1) ∧ decode cX0_copyFrom 108 = .ok (.sipush 200, 3) ∧ decode cX0_copyFrom 111 = .ok (.invokestatic 75, 3) ∧ True := dqC_ok (c := cX0_copyFrom) [(57, 1, some (.iconst 0)), (58, 1, some (.aload_n 0)), (59, 3, some (.getfield 21)), (62, 1, some (.iconst 0)), (63, 2, some (.bipush 16)), (65, 3, some (.invokestatic 75)), (68, 1, some (.aload_n 1)), (69, 3, some (.getfield 24)), (72, 1, some (.iconst 0)), (73, 1, some (.aload_n 0)), (74, 3, some (.getfield 24)), (77, 1, some (.iconst 0)), (78, 1, some (.iconst 3)), (79, 3, some (.invokestatic 75)), (82, 1, some (.aload_n 1)), (83, 3, some (.getfield 27)), (86, 1, some (.iconst 0)), (87, 1, some (.aload_n 0)), (88, 3, some (.getfield 27)), (91, 1, some (.iconst 0)), (92, 3, some (.sipush 200)), (95, 3, some (.invokestatic 75)), (98, 1, some (.aload_n 1)), (99, 3, some (.getfield 30)), (102, 1, some (.iconst 0)), (103, 1, some (.aload_n 0)), (104, 3, some (.getfield 30)), (107, 1, some (.iconst 0)), (108, 3, some (.sipush 200)), (111, 3, some (.invokestatic 75))] _ 57 rfl (by decide +kernel)
theorem dX0_copyFrom_57 : decode cX0_copyFrom 57 = .ok (.iconst 0, 1) := dq_g9.1
theorem dX0_copyFrom_58 : decode cX0_copyFrom 58 = .ok (.aload_n 0, 1) := dq_g9.2.1
theorem dX0_copyFrom_59 : decode cX0_copyFrom 59 = .ok (.getfield 21, 3) := dq_g9.2.2.1
theorem dX0_copyFrom_62 : decode cX0_copyFrom 62 = .ok (.iconst 0, 1) := dq_g9.2.2.2.1
theorem dX0_copyFrom_63 : decode cX0_copyFrom 63 = .ok (.bipush 16, 2) := dq_g9.2.2.2.2.1
theorem dX0_copyFrom_65 : decode cX0_copyFrom 65 = .ok (.invokestatic 75, 3) := dq_g9.2.2.2.2.2.1
theorem dX0_copyFrom_68 : decode cX0_copyFrom 68 = .ok (.aload_n 1, 1) := dq_g9.2.2.2.2.2.2.1
theorem dX0_copyFrom_69 : decode cX0_copyFrom 69 = .ok (.getfield 24, 3) := dq_g9.2.2.2.2.2.2.2.1
theorem dX0_copyFrom_72 : decode cX0_copyFrom 72 = .ok (.iconst 0, 1) := dq_g9.2.2.2.2.2.2.2.2.1
theorem dX0_copyFrom_73 : decode cX0_copyFrom 73 = .ok (.aload_n 0, 1) := dq_g9.2.2.2.2.2.2.2.2.2.1
theorem dX0_copyFrom_74 : decode cX0_copyFrom 74 = .ok (.getfield 24, 3) := dq_g9.2.2.2.2.2.2.2.2.2.2.1
theorem dX0_copyFrom_77 : decode cX0_copyFrom 77 = .ok (.iconst 0, 1) := dq_g9.2.2.2.2.2.2.2.2.2.2.2.1
theorem dX0_copyFrom_78 : decode cX0_copyFrom 78 = .ok (.iconst 3, 1) := dq_g9.2.2.2.2.2.2.2.2.2.2.2.2.1
theorem dX0_copyFrom_79 : decode cX0_copyFrom 79 = .ok (.invokestatic 75, 3) := dq_g9.2.2.2.2.2.2.2.2.2.2.2.2.2.1
theorem dX0_copyFrom_82 : decode cX0_copyFrom 82 = .ok (.aload_n 1, 1) := dq_g9.2.2.2.2.2.2.2.2.2.2.2.2.2.2.1
theorem dX0_copyFrom_83 : decode cX0_copyFrom 83 = .ok (.getfield 27, 3) := dq_g9.2.2.2.2.2.2.2.2.2.2.2.2.2.2.2.1
theorem dX0_copyFrom_86 : decode cX0_copyFrom 86 = .ok (.iconst 0, 1) := dq_g9.2.2.2.2.2.2.2.2.2.2.2.2.2.2.2.2.1
theorem dX0_copyFrom_87 : decode cX0_copyFrom 87 = .ok (.aload_n 0, 1) := dq_g9.2.2.2.2.2.2.2.2.2.2.2.2.2.2.2.2.2.1
theorem dX0_copyFrom_88 : decode cX0_copyFrom 88 = .ok (.getfield 27, 3) := dq_g9.2.2.2.2.2.2.2.2.2.2.2.2.2.2.2.2.2.2.1
theorem dX0_copyFrom_91 : decode cX0_copyFrom 91 = .ok (.iconst 0, 1) := dq_g9.2.2.2.2.2.2.2.2.2.2.2.2.2.2.2.2.2.2.2.1
theorem dX0_copyFrom_92 : decode cX0_copyFrom 92 = .ok (.sipush 200, 3) := dq_g9.2.2.2.2.2.2.2.2.2.2.2.2.2.2.2.2.2.2.2.2.1
theorem dX0_copyFrom_95 : decode cX0_copyFrom 95 = .ok (.invokestatic 75, 3) := dq_g9.2.2.2.2.2.2.2.2.2.2.2.2.2.2.2.2.2.2.2.2.2.1
theorem dX0_copyFrom_98 : decode cX0_copyFrom 98 = .ok (.aload_n 1, 1) := dq_g9.2.2.2.2.2.2.2.2.2.2.2.2.2.2.2.2.2.2.2.2.2.2.1
theorem dX0_copyFrom_99 : decode cX0_copyFrom 99 = .ok (.getfield 30, 3) := dq_g9.2.2.2.2.2.2.2.2.2.2.2.2.2.2.2.2.2.2.2.2.2.2.2.1
theorem dX0_copyFrom_102 : decode cX0_copyFrom 102 = .ok (.iconst 0, 1) := dq_g9.2.2.2.2.2.2.2.2.2.2.2.2.2.2.2.2.2.2.2.2.2.2.2.2.1
theorem dX0_copyFrom_103 : decode cX0_copyFrom 103 = .ok (.aload_n 0, 1) := dq_g9.2.2.2.2.2.2.2.2.2.2.2.2.2.2.2.2.2.2.2.2.2.2.2.2.2.1
theorem dX0_copyFrom_104 : decode cX0_copyFrom 104 = .ok (.getfield 30, 3) := dq_g9.2.2.2.2.2.2.2.2.2.2.2.2.2.2.2.2.2.2.2.2.2.2.2.2.2.2.1
theorem dX0_copyFrom_107 : decode cX0_copyFrom 107 = .ok (.iconst 0, 1) := dq_g9.2.2.2.2.2.2.2.2.2.2.2.2.2.2.2.2.2.2.2.2.2.2.2.2.2.2.2.1
theorem dX0_copyFrom_108 : decode cX0_copyFrom 108 = .ok (.sipush 200, 3) := dq_g9.2.2.2.2.2.2.2.2.2.2.2.2.2.2.2.2.2.2.2.2.2.2.2.2.2.2.2.2.1
theorem dX0_copyFrom_111 : decode cX0_copyFrom 111 = .ok (.invokestatic 75, 3) := dq_g9.2.2.2.2.2.2.2.2.2.2.2.2.2.2.2.2.2.2.2.2.2.2.2.2.2.2.2.2.2.1
theorem dq_g10 : decode cX0_copyFrom 114 = .ok (.aload_n 0, 1) ∧ decode cX0_copyFrom 115 = .ok (.aload_n 1, 1) ∧ decode cX0_copyFrom 116 = .ok (.getfield 60, 3) ∧ decode cX0_copyFrom 119 = .ok (.putfield 60, 3) ∧ decode cX0_copyFrom 122 = .ok (.aload_n 0, 1) ∧ decode cX0_copyFrom 123 = .ok (.aload_n 1, 1) ∧ decode cX0_copyFrom 124 = .ok (.getfield 63, 3) ∧ decode cX0_copyFrom 127 = .ok (.putfield 63, 3) ∧ decode cX0_copyFrom 130 = .ok (.aload_n 1, 1) ∧ decode cX0_copyFrom 131 = .ok (.getfield 33, 3) ∧ decode cX0_copyFrom 134 = .ok (.iconst 0, 1) ∧ decode cX0_copyFrom 135 = .ok (.aload_n 0, 1) ∧ decode cX0_copyFrom 136 = .ok (.getfield 33, 3) ∧ decode cX0_copyFrom 139 = .ok (.iconst 0, 1) ∧ decode cX0_copyFrom 140 = .ok (.bipush 12, 2) ∧ decode cX0_copyFrom 142 = .ok (.invokestatic 75, 3) ∧ decode cX0_copyFrom 145 = .ok (.aload_n 1, 1) ∧ decode cX0_copyFrom 146 = .ok (.getfield 36, 3) ∧ decode cX0_copyFrom 149 = .ok (.iconst 0, 1) ∧ decode cX0_copyFrom 150 = .ok (.aload_n 0, 1) ∧ decode cX0_copyFrom 151 = .ok (.getfield 36, 3) ∧ decode cX0_copyFrom 154 = .ok (.iconst 0, 1) ∧ decode cX0_copyFrom 155 = .ok (.bipush 12, 2) ∧ decode cX0_copyFrom 157 = .ok (.invokestatic 75, 3) ∧ decode cX0_copyFrom 160 = .ok (.iconst 0, 1) ∧ decode cX0_copyFrom 161 = .ok (.istore_n 2, 1) ∧ decode cX0_copyFrom 162 = .ok (.iload_n 2, 1) ∧ decode cX0_copyFrom 163 = .ok (.bipush 12, 2) ∧ decode cX0_copyFrom 165 = .ok (.if_icmp .ge 47, 3) ∧ decode cX0_copyFrom 168 = .ok (.aload_n 1, 1) ∧ True := dqC_ok (c := cX0_copyFrom) [(114, 1, some (.aload_n 0)), (115, 1, some (.aload_n 1)), (116, 3, some (.getfield 60)), (119, 3, some (.putfield 60)), (122, 1, some (.aload_n 0)), (123, 1, some (.aload_n 1)), (124, 3, some (.getfield 63)), (127, 3, some (.putfield 63)), (130, 1, some (.aload_n 1)), (131, 3, some (.getfield 33)), (134, 1, some (.iconst 0)), (135, 1, some (.aload_n 0)), (136, 3, some (.getfield 33)), (139, 1, some (.iconst 0)), (140, 2, some (.bipush 12)), (142, 3, some (.invokestatic 75)), (145, 1, some (.aload_n 1)), (146, 3, some (.getfield 36)), (149, 1, some (.iconst 0)), (150, 1, some (.aload_n 0)), (151, 3, some (.getfield 36)), (154, 1, some (.iconst 0)), (155, 2, some (.bipush 12)), (157, 3, some (.invokestatic 75)), (160, 1, some (.iconst 0)), (161, 1, some (.istore_n 2)), (162, 1, some (.iload_n 2)), (163, 2, some (.bipush 12)), (165, 3, some (.if_icmp .ge 47)), (168, 1, some (.aload_n 1))] _ 114 rfl (by decide +kernel)
theorem dX0_copyFrom_114 : decode cX0_copyFrom 114 = .ok (.aload_n 0, 1) := dq_g10.1
theorem dX0_copyFrom_115 : decode cX0_copyFrom 115 = .ok (.aload_n 1, 1) := dq_g10.2.1
theorem dX0_copyFrom_116 : decode cX0_copyFrom 116 = .ok (.getfield 60, 3) := dq_g10.2.2.1
theorem dX0_copyFrom_119 : decode cX0_copyFrom 119 = .ok (.putfield 60, 3) := dq_g10.2.2.2.1
theorem dX0_copyFrom_122 : decode cX0_copyFrom 122 = .ok (.aload_n 0, 1) := dq_g10.2.2.2.2.1
theorem dX0_copyFrom_123 : decode cX0_copyFrom 123 = .ok (.aload_n 1, 1) := dq_g10.2.2.2.2.2.1
theorem dX0_copyFrom_124 : decode cX0_copyFrom 124 = .ok (.getfield 63, 3) := dq_g10.2.2.2.2.2.2.1
theorem dX0_copyFrom_127 : decode cX0_copyFrom 127 = .ok (.putfield 63, 3) := dq_g10.2.2.2.2.2.2.2.1
theorem dX0_copyFrom_130 : decode cX0_copyFrom 130 = .ok (.aload_n 1, 1) := dq_g10.2.2.2.2.2.2.2.2.1
theorem dX0_copyFrom_131 : decode cX0_copyFrom 131 = .ok (.getfield 33, 3) := dq_g10.2.2.2.2.2.2.2.2.2.1
theorem dX0_copyFrom_134 : decode cX0_copyFrom 134 = .ok (.iconst 0, 1) := dq_g10.2.2.2.2.2.2.2.2.2.2.1
theorem dX0_copyFrom_135 : decode cX0_copyFrom 135 = .ok (.aload_n 0, 1) := dq_g10.2.2.2.2.2.2.2.2.2.2.2.1
theorem dX0_copyFrom_136 : decode cX0_copyFrom 136 = .ok (.getfield 33, 3) := dq_g10.2.2.2.2.2.2.2.2.2.2.2.2.1
theorem dX0_copyFrom_139 : decode cX0_copyFrom 139 = .ok (.iconst 0, 1) := dq_g10.2.2.2.2.2.2.2.2.2.2.2.2.2.1
theorem dX0_copyFrom_140 : decode cX0_copyFrom 140 = .ok (.bipush 12, 2) := dq_g10.2.2.2.2.2.2.2.2.2.2.2.2.2.2.1
theorem dX0_copyFrom_142 : decode cX0_copyFrom 142 = .ok (.invokestatic 75, 3) := dq_g10.2.2.2.2.2.2.2.2.2.2.2.2.2.2.2.1
theorem dX0_copyFrom_145 : decode cX0_copyFrom 145 = .ok (.aload_n 1, 1) := dq_g10.2.2.2.2.2.2.2.2.2.2.2.2.2.2.2.2.1
theorem dX0_copyFrom_146 : decode cX0_copyFrom 146 = .ok (.getfield 36, 3) := dq_g10.2.2.2.2.2.2.2.2.2.2.2.2.2.2.2.2.2.1
theorem dX0_copyFrom_149 : decode cX0_copyFrom 149 = .ok (.iconst 0, 1) := dq_g10.2.2.2.2.2.2.2.2.2.2.2.2.2.2.2.2.2.2.1
theorem dX0_copyFrom_150 : decode cX0_copyFrom 150 = .ok (.aload_n 0, 1) := dq_g10.2.2.2.2.2.2.2.2.2.2.2.2.2.2.2.2.2.2.2.1
theorem dX0_copyFrom_151 : decode cX0_copyFrom 151 = .ok (.getfield 36, 3) := dq_g10.2.2.2.2.2.2.2.2.2.2.2.2.2.2.2.2.2.2.2.2.1
theorem dX0_copyFrom_154 : decode cX0_copyFrom 154 = .ok (.iconst 0, 1) := dq_g10.2.2.2.2.2.2.2.2.2.2.2.2.2.2.2.2.2.2.2.2.2.1
theorem dX0_copyFrom_155 : decode cX0_copyFrom 155 = .ok (.bipush 12, 2) := dq_g10.2.2.2.2.2.2.2.2.2.2.2.2.2.2.2.2.2.2.2.2.2.2.1
theorem dX0_copyFrom_157 : decode cX0_copyFrom 157 = .ok (.invokestatic 75, 3) := dq_g10.2.2.2.2.2.2.2.2.2.2.2.2.2.2.2.2.2.2.2.2.2.2.2.1
theorem dX0_copyFrom_160 : decode cX0_copyFrom 160 = .ok (.iconst 0, 1) := dq_g10.2.2.2.2.2.2.2.2.2.2.2.2.2.2.2.2.2.2.2.2.2.2.2.2.1
theorem dX0_copyFrom_161 : decode cX0_copyFrom 161 = .ok (.istore_n 2, 1) := dq_g10.2.2.2.2.2.2.2.2.2.2.2.2.2.2.2.2.2.2.2.2.2.2.2.2.2.1
theorem dX0_copyFrom_162 : decode cX0_copyFrom 162 = .ok (.iload_n 2, 1) := dq_g10.2.2.2.2.2.2.2.2.2.2.2.2.2.2.2.2.2.2.2.2.2.2.2.2.2.2.1
theorem dX0_copyFrom_163 : decode cX0_copyFrom 163 = .ok (.bipush 12, 2) := dq_g10.2.2.2.2.2.2.2.2.2.2.2.2.2.2.2.2.2.2.2.2.2.2.2.2.2.2.2.1
theorem dX0_copyFrom_165 : decode cX0_copyFrom 165 = .ok (.if_icmp .ge 47, 3) := dq_g10.2.2.2.2.2.2.2.2.2.2.2.2.2.2.2.2.2.2.2.2.2.2.2.2.2.2.2.2.1
theorem dX0_copyFrom_168 : decode cX0_copyFrom 168 = .ok (.aload_n 1, 1) := dq_g10.2.2.2.2.2.2.2.2.2.2.2.2.2.2.2.2.2.2.2.2.2.2.2.2.2.2.2.2.2.1
theorem dq_g11 : decode cX0_copyFrom 169 = .ok (.getfield 41, 3) ∧ decode cX0_copyFrom 172 = .ok (.iload_n 2, 1) ∧ decode cX0_copyFrom 173 = .ok (.aaload, 1) ∧ decode cX0_copyFrom 174 = .ok (.iconst 0, 1) ∧ decode cX0_copyFrom 175 = .ok (.aload_n 0, 1) ∧ decode cX0_copyFrom 176 = .ok (.getfield 41, 3) ∧ decode cX0_copyFrom 179 = .ok (.iload_n 2, 1) ∧ decode cX0_copyFrom 180 = .ok (.aaload, 1) ∧ decode cX0_copyFrom 181 = .ok (.iconst 0, 1) ∧ decode cX0_copyFrom 182 = .ok (.bipush 16, 2) ∧ decode cX0_copyFrom 184 = .ok (.invokestatic 75, 3) ∧ decode cX0_copyFrom 187 = .ok (.aload_n 1, 1) ∧ decode cX0_copyFrom 188 = .ok (.getfield 44, 3) ∧ decode cX0_copyFrom 191 = .ok (.iload_n 2, 1) ∧ decode cX0_copyFrom 192 = .ok (.aaload, 1) ∧ decode cX0_copyFrom 193 = .ok (.iconst 0, 1) ∧ decode cX0_copyFrom 194 = .ok (.aload_n 0, 1) ∧ decode cX0_copyFrom 195 = .ok (.getfield 44, 3) ∧ decode cX0_copyFrom 198 = .ok (.iload_n 2, 1) ∧ decode cX0_copyFrom 199 = .ok (.aaload, 1) ∧ decode cX0_copyFrom 200 = .ok (.iconst 0, 1) ∧ decode cX0_copyFrom 201 = .ok (.bipush 16, 2) ∧ decode cX0_copyFrom 203 = .ok (.invokestatic 75, 3) ∧ decode cX0_copyFrom 206 = .ok (.iinc 2 1, 3) ∧ decode cX0_copyFrom 209 = .ok (.goto (-47), 3) ∧ decode cX0_copyFrom 212 = .ok (.aload_n 0, 1) ∧ decode cX0_copyFrom 213 = .ok (.aload_n 1, 1) ∧ decode cX0_copyFrom 214 = .ok (.getfield 66, 3) ∧ decode cX0_copyFrom 217 = .ok (.putfield 66, 3) ∧ decode cX0_copyFrom 220 = .ok (.aload_n 0, 1) ∧ True := dqC_ok (c := cX0_copyFrom) [(169, 3, some (.getfield 41)), (172, 1, some (.iload_n 2)), (173, 1, some (.aaload)), (174, 1, some (.iconst 0)), (175, 1, some (.aload_n 0)), (176, 3, some (.getfield 41)), (179, 1, some (.iload_n 2)), (180, 1, some (.aaload)), (181, 1, some (.iconst 0)), (182, 2, some (.bipush 16)), (184, 3, some (.invokestatic 75)), (187, 1, some (.aload_n 1)), (188, 3, some (.getfield 44)), (191, 1, some (.iload_n 2)), (192, 1, some (.aaload)), (193, 1, some (.iconst 0)), (194, 1, some (.aload_n 0)), (195, 3, some (.getfield 44)), (198, 1, some (.iload_n 2)), (199, 1, some (.aaload)), (200, 1, some (.iconst 0)), (201, 2, some (.bipush 16)), (203, 3, some (.invokestatic 75)), (206, 3, some (.iinc 2 1)), (209, 3, some (.goto (-47))), (212, 1, some (.aload_n 0)), (213, 1, some (.aload_n 1)), (214, 3, some (.getfield 66)), (217, 3, some (.putfield 66)), (220, 1, some (.aload_n 0))] _ 169 rfl (by decide +kernel)
theorem dX0_copyFrom_169 : decode cX0_copyFrom 169 = .ok (.getfield 41, 3) := dq_g11.1
theorem dX0_copyFrom_172 : decode cX0_copyFrom 172 = .ok (.iload_n 2, 1) := dq_g11.2.1
theorem dX0_copyFrom_173 : decode cX0_copyFrom 173 = .ok (.aaload, 1) := dq_g11.2.2.1
theorem dX0_copyFrom_174 : decode cX0_copyFrom 174 = .ok (.iconst 0, 1) := dq_g11.2.2.2.1
theorem dX0_copyFrom_175 : decode cX0_copyFrom 175 = .ok (.aload_n 0, 1) := dq_g11.2.2.2.2.1
theorem dX0_copyFrom_176 : decode cX0_copyFrom 176 = .ok (.getfield 41, 3) := dq_g11.2.2.2.2.2.1
theorem dX0_copyFrom_179 : decode cX0_copyFrom 179 = .ok (.iload_n 2, 1) := dq_g11.2.2.2.2.2.2.1
theorem dX0_copyFrom_180 : decode cX0_copyFrom 180 = .ok (.aaload, 1) := dq_g11.2.2.2.2.2.2.2.1
theorem dX0_copyFrom_181 : decode cX0_copyFrom 181 = .ok (.iconst 0, 1) := dq_g11.2.2.2.2.2.2.2.2.1
theorem dX0_copyFrom_182 : decode cX0_copyFrom 182 = .ok (.bipush 16, 2) := dq_g11.2.2.2.2.2.2.2.2.2.1
theorem dX0_copyFrom_184 : decode cX0_copyFrom 184 = .ok (.invokestatic 75, 3) := dq_g11.2.2.2.2.2.2.2.2.2.2.1
theorem dX0_copyFrom_187 : decode cX0_copyFrom 187 = .ok (.aload_n 1, 1) := dq_g11.2.2.2.2.2.2.2.2.2.2.2.1
theorem dX0_copyFrom_188 : decode cX0_copyFrom 188 = .ok (.getfield 44, 3) := dq_g11.2.2.2.2.2.2.2.2.2.2.2.2.1
theorem dX0_copyFrom_191 : decode cX0_copyFrom 191 = .ok (.iload_n 2, 1) := dq_g11.2.2.2.2.2.2.2.2.2.2.2.2.2.1
theorem dX0_copyFrom_192 : decode cX0_copyFrom 192 = .ok (.aaload, 1) := dq_g11.2.2.2.2.2.2.2.2.2.2.2.2.2.2.1
theorem dX0_copyFrom_193 : decode cX0_copyFrom 193 = .ok (.iconst 0, 1) := dq_g11.2.2.2.2.2.2.2.2.2.2.2.2.2.2.2.1
theorem dX0_copyFrom_194 : decode cX0_copyFrom 194 = .ok (.aload_n 0, 1) := dq_g11.2.2.2.2.2.2.2.2.2.2.2.2.2.2.2.2.1
theorem dX0_copyFrom_195 : decode cX0_copyFrom 195 = .ok (.getfield 44, 3) := dq_g11.2.2.2.2.2.2.2.2.2.2.2.2.2.2.2.2.2.1
theorem dX0_copyFrom_198 : decode cX0_copyFrom 198 = .ok (.iload_n 2, 1) := dq_g11.2.2.2.2.2.2.2.2.2.2.2.2.2.2.2.2.2.2.1
theorem dX0_copyFrom_199 : decode cX0_copyFrom 199 = .ok (.aaload, 1) := dq_g11.2.2.2.2.2.2.2.2.2.2.2.2.2.2.2.2.2.2.2.1
theorem dX0_copyFrom_200 : decode cX0_copyFrom 200 = .ok (.iconst 0, 1) := dq_g11.2.2.2.2.2.2.2.2.2.2.2.2.2.2.2.2.2.2.2.2.1
theorem dX0_copyFrom_201 : decode cX0_copyFrom 201 = .ok (.bipush 16, 2) := dq_g11.2.2.2.2.2.2.2.2.2.2.2.2.2.2.2.2.2.2.2.2.2.1
theorem dX0_copyFrom_203 : decode cX0_copyFrom 203 = .ok (.invokestatic 75, 3) := dq_g11.2.2.2.2.2.2.2.2.2.2.2.2.2.2.2.2.2.2.2.2.2.2.1
theorem dX0_copyFrom_206 : decode cX0_copyFrom 206 = .ok (.iinc 2 1, 3) := dq_g11.2.2.2.2.2.2.2.2.2.2.2.2.2.2.2.2.2.2.2.2.2.2.2.1
theorem dX0_copyFrom_209 : decode cX0_copyFrom 209 = .ok (.goto (-47), 3) := dq_g11.2.2.2.2.2.2.2.2.2.2.2.2.2.2.2.2.2.2.2.2.2.2.2.2.1
theorem dX0_copyFrom_212 : decode cX0_copyFrom 212 = .ok (.aload_n 0, 1) := dq_g11.2.2.2.2.2.2.2.2.2.2.2.2.2.2.2.2.2.2.2.2.2.2.2.2.2.1
theorem dX0_copyFrom_213 : decode cX0_copyFrom 213 = .ok (.aload_n 1, 1) := dq_g11.2.2.2.2.2.2.2.2.2.2.2.2.2.2.2.2.2.2.2.2.2.2.2.2.2.2.1
theorem dX0_copyFrom_214 : decode cX0_copyFrom 214 = .ok (.getfield 66, 3) := dq_g11.2.2.2.2.2.2.2.2.2.2.2.2.2.2.2.2.2.2.2.2.2.2.2.2.2.2.2.1
theorem dX0_copyFrom_217 : decode cX0_copyFrom 217 = .ok (.putfield 66, 3) := dq_g11.2.2.2.2.2.2.2.2.2.2.2.2.2.2.2.2.2.2.2.2.2.2.2.2.2.2.2.2.1
theorem dX0_copyFrom_220 : decode cX0_copyFrom 220 = .ok (.aload_n 0, 1) := dq_g11.2.2.2.2.2.2.2.2.2.2.2.2.2.2.2.2.2.2.2.2.2.2.2.2.2.2.2.2.2.1
theorem dq_g12 : decode cX0_copyFrom 221 = .ok (.aload_n 1, 1) ∧ decode cX0_copyFrom 222 = .ok (.getfield 69, 3) ∧ decode cX0_copyFrom 225 = .ok (.putfield 69, 3) ∧ decode cX0_copyFrom 228 = .ok (.aload_n 0, 1) ∧ decode cX0_copyFrom 229 = .ok (.aload_n 1, 1) ∧ decode cX0_copyFrom 230 = .ok (.getfield 72, 3) ∧ decode cX0_copyFrom 233 = .ok (.putfield 72, 3) ∧ decode cX0_copyFrom 236 = .ok (.aload_n 1, 1) ∧ decode cX0_copyFrom 237 = .ok (.getfield 47, 3) ∧ decode cX0_copyFrom 240 = .ok (.iconst 0, 1) ∧ decode cX0_copyFrom 241 = .ok (.aload_n 0, 1) ∧ decode cX0_copyFrom 242 = .ok (.getfield 47, 3) ∧ decode cX0_copyFrom 245 = .ok (.iconst 0, 1) ∧ decode cX0_copyFrom 246 = .ok (.iconst 2, 1) ∧ decode cX0_copyFrom 247 = .ok (.invokestatic 75, 3) ∧ decode cX0_copyFrom 250 = .ok (.return_, 1) ∧ True := dqC_ok (c := cX0_copyFrom) [(221, 1, some (.aload_n 1)), (222, 3, some (.getfield 69)), (225, 3, some (.putfield 69)), (228, 1, some (.aload_n 0)), (229, 1, some (.aload_n 1)), (230, 3, some (.getfield 72)), (233, 3, some (.putfield 72)), (236, 1, some (.aload_n 1)), (237, 3, some (.getfield 47)), (240, 1, some (.iconst 0)), (241, 1, some (.aload_n 0)), (242, 3, some (.getfield 47)), (245, 1, some (.iconst 0)), (246, 1, some (.iconst 2)), (247, 3, some (.invokestatic 75)), (250, 1, some (.return_))] _ 221 rfl (by decide +kernel)
theorem dX0_copyFrom_221 : decode cX0_copyFrom 221 = .ok (.aload_n 1, 1) := dq_g12.1
theorem dX0_copyFrom_222 : decode cX0_copyFrom 222 = .ok (.getfield 69, 3) := dq_g12.2.1
theorem dX0_copyFrom_225 : decode cX0_copyFrom 225 = .ok (.putfield 69, 3) := dq_g12.2.2.1
theorem dX0_copyFrom_228 : decode cX0_copyFrom 228 = .ok (.aload_n 0, 1) := dq_g12.2.2.2.1
theorem dX0_copyFrom_229 : decode cX0_copyFrom 229 = .ok (.aload_n 1, 1) := dq_g12.2.2.2.2.1
theorem dX0_copyFrom_230 : decode cX0_copyFrom 230 = .ok (.getfield 72, 3) := dq_g12.2.2.2.2.2.1
theorem dX0_copyFrom_233 : decode cX0_copyFrom 233 = .ok (.putfield 72, 3) := dq_g12.2.2.2.2.2.2.1
theorem dX0_copyFrom_236 : decode cX0_copyFrom 236 = .ok (.aload_n 1, 1) := dq_g12.2.2.2.2.2.2.2.1
theorem dX0_copyFrom_237 : decode cX0_copyFrom 237 = .ok (.getfield 47, 3) := dq_g12.2.2.2.2.2.2.2.2.1
theorem dX0_copyFrom_240 : decode cX0_copyFrom 240 = .ok (.iconst 0, 1) := dq_g12.2.2.2.2.2.2.2.2.2.1
theorem dX0_copyFrom_241 : decode cX0_copyFrom 241 = .ok (.aload_n 0, 1) := dq_g12.2.2.2.2.2.2.2.2.2.2.1
theorem dX0_copyFrom_242 : decode cX0_copyFrom 242 = .ok (.getfield 47, 3) := dq_g12.2.2.2.2.2.2.2.2.2.2.2.1
theorem dX0_copyFrom_245 : decode cX0_copyFrom 245 = .ok (.iconst 0, 1) := dq_g12.2.2.2.2.2.2.2.2.2.2.2.2.1
theorem dX0_copyFrom_246 : decode cX0_copyFrom 246 = .ok (.iconst 2, 1) := dq_g12.2.2.2.2.2.2.2.2.2.2.2.2.2.1
theorem dX0_copyFrom_247 : decode cX0_copyFrom 247 = .ok (.invokestatic 75, 3) := dq_g12.2.2.2.2.2.2.2.2.2.2.2.2.2.2.1
theorem dX0_copyFrom_250 : decode cX0_copyFrom 250 = .ok (.return_, 1) := dq_g12.2.2.2.2.2.2.2.2.2.2.2.2.2.2.2.1
theorem dq_g13 : decode cX1_init 0 = .ok (.aload_n 0, 1) ∧ decode cX1_init 1 = .ok (.invokespecial 3, 3) ∧ decode cX1_init 4 = .ok (.aload_n 0, 1) ∧ decode cX1_init 5 = .ok (.sipush 240, 3) ∧ decode cX1_init 10 = .ok (.putfield 11, 3) ∧ decode cX1_init 13 = .ok (.aload_n 0, 1) ∧ decode cX1_init 14 = .ok (.sipush 240, 3) ∧ decode cX1_init 19 = .ok (.putfield 15, 3) ∧ decode cX1_init 22 = .ok (.aload_n 0, 1) ∧ decode cX1_init 23 = .ok (.iconst 5, 1) ∧ decode cX1_init 26 = .ok (.putfield 18, 3) ∧ decode cX1_init 29 = .ok (.aload_n 0, 1) ∧ decode cX1_init 30 = .ok (.sipush 1024, 3) ∧ decode cX1_init 35 = .ok (.putfield 21, 3) ∧ decode cX1_init 38 = .ok (.aload_n 0, 1) ∧ decode cX1_init 39 = .ok (.bipush 16, 2) ∧ decode cX1_init 43 = .ok (.putfield 24, 3) ∧ decode cX1_init 46 = .ok (.aload_n 0, 1) ∧ decode cX1_init 47 = .ok (.new 27, 3) ∧ decode cX1_init 50 = .ok (.dup, 1) ∧ decode cX1_init 51 = .ok (.invokespecial 29, 3) ∧ decode cX1_init 54 = .ok (.putfield 30, 3) ∧ decode cX1_init 57 = .ok (.return_, 1) ∧ True := dqC_ok (c := cX1_init) [(0, 1, some (.aload_n 0)), (1, 3, some (.invokespecial 3)), (4, 1, some (.aload_n 0)), (5, 3, some (.sipush 240)), (8, 2, none), (10, 3, some (.putfield 11)), (13, 1, some (.aload_n 0)), (14, 3, some (.sipush 240)), (17, 2, none), (19, 3, some (.putfield 15)), (22, 1, some (.aload_n 0)), (23, 1, some (.iconst 5)), (24, 2, none), (26, 3, some (.putfield 18)), (29, 1, some (.aload_n 0)), (30, 3, some (.sipush 1024)), (33, 2, none), (35, 3, some (.putfield 21)), (38, 1, some (.aload_n 0)), (39, 2, some (.bipush 16)), (41, 2, none), (43, 3, some (.putfield 24)), (46, 1, some (.aload_n 0)), (47, 3, some (.new 27)), (50, 1, some (.dup)), (51, 3, some (.invokespecial 29)), (54, 3, some (.putfield 30)), (57, 1, some (.return_))] _ 0 rfl (by decide +kernel)
theorem dX1_init_0 : decode cX1_init 0 = .ok (.aload_n 0, 1) := dq_g13.1
theorem dX1_init_1 : decode cX1_init 1 = .ok (.invokespecial 3, 3) := dq_g13.2.1
theorem dX1_init_4 : decode cX1_init 4 = .ok (.aload_n 0, 1) := dq_g13.2.2.1
theorem dX1_init_5 : decode cX1_init 5 = .ok (.sipush 240, 3) := dq_g13.2.2.2.1
theorem dX1_init_10 : decode cX1_init 10 = .ok (.putfield 11, 3) := dq_g13.2.2.2.2.1
theorem dX1_init_13 : decode cX1_init 13 = .ok (.aload_n 0, 1) := dq_g13.2.2.2.2.2.1
theorem dX1_init_14 : decode cX1_init 14 = .ok (.sipush 240, 3) := dq_g13.2.2.2.2.2.2.1
theorem dX1_init_19 : decode cX1_init 19 = .ok (.putfield 15, 3) := dq_g13.2.2.2.2.2.2.2.1
theorem dX1_init_22 : decode cX1_init 22 = .ok (.aload_n 0, 1) := dq_g13.2.2.2.2.2.2.2.2.1
theorem dX1_init_23 : decode cX1_init 23 = .ok (.iconst 5, 1) := dq_g13.2.2.2.2.2.2.2.2.2.1
theorem dX1_init_26 : decode cX1_init 26 = .ok (.putfield 18, 3) := dq_g13.2.2.2.2.2.2.2.2.2.2.1
theorem dX1_init_29 : decode cX1_init 29 = .ok (.aload_n 0, 1) := dq_g13.2.2.2.2.2.2.2.2.2.2.2.1
theorem dX1_init_30 : decode cX1_init 30 = .ok (.sipush 1024, 3) := dq_g13.2.2.2.2.2.2.2.2.2.2.2.2.1
theorem dX1_init_35 : decode cX1_init 35 = .ok (.putfield 21, 3) := dq_g13.2.2.2.2.2.2.2.2.2.2.2.2.2.1
theorem dX1_init_38 : decode cX1_init 38 = .ok (.aload_n 0, 1) := dq_g13.2.2.2.2.2.2.2.2.2.2.2.2.2.2.1
theorem dX1_init_39 : decode cX1_init 39 = .ok (.bipush 16, 2) := dq_g13.2.2.2.2.2.2.2.2.2.2.2.2.2.2.2.1
theorem dX1_init_43 : decode cX1_init 43 = .ok (.putfield 24, 3) := dq_g13.2.2.2.2.2.2.2.2.2.2.2.2.2.2.2.2.1
theorem dX1_init_46 : decode cX1_init 46 = .ok (.aload_n 0, 1) := dq_g13.2.2.2.2.2.2.2.2.2.2.2.2.2.2.2.2.2.1
theorem dX1_init_47 : decode cX1_init 47 = .ok (.new 27, 3) := dq_g13.2.2.2.2.2.2.2.2.2.2.2.2.2.2.2.2.2.2.1
theorem dX1_init_50 : decode cX1_init 50 = .ok (.dup, 1) := dq_g13.2.2.2.2.2.2.2.2.2.2.2.2.2.2.2.2.2.2.2.1
theorem dX1_init_51 : decode cX1_init 51 = .ok (.invokespecial 29, 3) := dq_g13.2.2.2.2.2.2.2.2.2.2.2.2.2.2.2.2.2.2.2.2.1
theorem dX1_init_54 : decode cX1_init 54 = .ok (.putfield 30, 3) := dq_g13.2.2.2.2.2.2.2.2.2.2.2.2.2.2.2.2.2.2.2.2.2.1
theorem dX1_init_57 : decode cX1_init 57 = .ok (.return_, 1) := dq_g13.2.2.2.2.2.2.2.2.2.2.2.2.2.2.2.2.2.2.2.2.2.2.1
theorem dX1_init_8 : decode cX1_init 8 = .ok (.newarray .int, 2) := by decide +kernel
theorem dX1_init_17 : decode cX1_init 17 = .ok (.newarray .int, 2) := by decide +kernel
theorem dX1_init_24 : decode cX1_init 24 = .ok (.newarray .int, 2) := by decide +kernel
theorem dX1_init_33 : decode cX1_init 33 = .ok (.newarray .int, 2) := by decide +kernel
theorem dX1_init_41 : decode cX1_init 41 = .ok (.newarray .int, 2) := by decide +kernel
theorem dq_g14 : decode cX1_find 0 = .ok (.aload_n 0, 1) ∧ decode cX1_find 1 = .ok (.iconst 1, 1) ∧ decode cX1_find 2 = .ok (.iload 4, 2) ∧ decode cX1_find 4 = .ok (.iconst 4, 1) ∧ decode cX1_find 5 = .ok (.invokestatic 34, 3) ∧ decode cX1_find 8 = .ok (.invokestatic 40, 3) ∧ decode cX1_find 11 = .ok (.putfield 43, 3) ∧ decode cX1_find 14 = .ok (.iconst 0, 1) ∧ decode cX1_find 15 = .ok (.istore 6, 2) ∧ decode cX1_find 17 = .ok (.iload 6, 2) ∧ decode cX1_find 19 = .ok (.aload_n 3, 1) ∧ decode cX1_find 20 = .ok (.getfield 47, 3) ∧ decode cX1_find 23 = .ok (.if_icmp .ge 39, 3) ∧ decode cX1_find 26 = .ok (.aload_n 0, 1) ∧ decode cX1_find 27 = .ok (.aload_n 1, 1) ∧ decode cX1_find 28 = .ok (.aload_n 2, 1) ∧ decode cX1_find 29 = .ok (.aload_n 3, 1) ∧ decode cX1_find 30 = .ok (.iload 6, 2) ∧ decode cX1_find 32 = .ok (.aload_n 3, 1) ∧ decode cX1_find 33 = .ok (.getfield 52, 3) ∧ decode cX1_find 36 = .ok (.iload 6, 2) ∧ decode cX1_find 38 = .ok (.iaload, 1) ∧ decode cX1_find 39 = .ok (.aload_n 3, 1) ∧ decode cX1_find 40 = .ok (.getfield 55, 3) ∧ decode cX1_find 43 = .ok (.iload 6, 2) ∧ decode cX1_find 45 = .ok (.aaload, 1) ∧ decode cX1_find 46 = .ok (.aload_n 3, 1) ∧ decode cX1_find 47 = .ok (.getfield 59, 3) ∧ decode cX1_find 50 = .ok (.iload 6, 2) ∧ decode cX1_find 52 = .ok (.aaload, 1) ∧ True := dqC_ok (c := cX1_find) [(0, 1, some (.aload_n 0)), (1, 1, some (.iconst 1)), (2, 2, some (.iload 4)), (4, 1, some (.iconst 4)), (5, 3, some (.invokestatic 34)), (8, 3, some (.invokestatic 40)), (11, 3, some (.putfield 43)), (14, 1, some (.iconst 0)), (15, 2, some (.istore 6)), (17, 2, some (.iload 6)), (19, 1, some (.aload_n 3)), (20, 3, some (.getfield 47)), (23, 3, some (.if_icmp .ge 39)), (26, 1, some (.aload_n 0)), (27, 1, some (.aload_n 1)), (28, 1, some (.aload_n 2)), (29, 1, some (.aload_n 3)), (30, 2, some (.iload 6)), (32, 1, some (.aload_n 3)), (33, 3, some (.getfield 52)), (36, 2, some (.iload 6)), (38, 1, some (.iaload)), (39, 1, some (.aload_n 3)), (40, 3, some (.getfield 55)), (43, 2, some (.iload 6)), (45, 1, some (.aaload)), (46, 1, some (.aload_n 3)), (47, 3, some (.getfield 59)), (50, 2, some (.iload 6)), (52, 1, some (.aaload))] _ 0 rfl (by decide +kernel)
theorem dX1_find_0 : decode cX1_find 0 = .ok (.aload_n 0, 1) := dq_g14.1
theorem dX1_find_1 : decode cX1_find 1 = .ok (.iconst 1, 1) := dq_g14.2.1
theorem dX1_find_2 : decode cX1_find 2 = .ok (.iload 4, 2) := dq_g14.2.2.1
theorem dX1_find_4 : decode cX1_find 4 = .ok (.iconst 4, 1) := dq_g14.2.2.2.1
theorem dX1_find_5 : decode cX1_find 5 = .ok (.invokestatic 34, 3) := dq_g14.2.2.2.2.1
theorem dX1_find_8 : decode cX1_find 8 = .ok (.invokestatic 40, 3) := dq_g14.2.2.2.2.2.1
theorem dX1_find_11 : decode cX1_find 11 = .ok (.putfield 43, 3) := dq_g14.2.2.2.2.2.2.1
theorem dX1_find_14 : decode cX1_find 14 = .ok (.iconst 0, 1) := dq_g14.2.2.2.2.2.2.2.1
theorem dX1_find_15 : decode cX1_find 15 = .ok (.istore 6, 2) := dq_g14.2.2.2.2.2.2.2.2.1
theorem dX1_find_17 : decode cX1_find 17 = .ok (.iload 6, 2) := dq_g14.2.2.2.2.2.2.2.2.2.1
theorem dX1_find_19 : decode cX1_find 19 = .ok (.aload_n 3, 1) := dq_g14.2.2.2.2.2.2.2.2.2.2.1
theorem dX1_find_20 : decode cX1_find 20 = .ok (.getfield 47, 3) := dq_g14.2.2.2.2.2.2.2.2.2.2.2.1
theorem dX1_find_23 : decode cX1_find 23 = .ok (.if_icmp .ge 39, 3) := dq_g14.2.2.2.2.2.2.2.2.2.2.2.2.1
theorem dX1_find_26 : decode cX1_find 26 = .ok (.aload_n 0, 1) := dq_g14.2.2.2.2.2.2.2.2.2.2.2.2.2.1
theorem dX1_find_27 : decode cX1_find 27 = .ok (.aload_n 1, 1) := dq_g14.2.2.2.2.2.2.2.2.2.2.2.2.2.2.1
theorem dX1_find_28 : decode cX1_find 28 = .ok (.aload_n 2, 1) := dq_g14.2.2.2.2.2.2.2.2.2.2.2.2.2.2.2.1
theorem dX1_find_29 : decode cX1_find 29 = .ok (.aload_n 3, 1) := dq_g14.2.2.2.2.2.2.2.2.2.2.2.2.2.2.2.2.1
theorem dX1_find_30 : decode cX1_find 30 = .ok (.iload 6, 2) := dq_g14.2.2.2.2.2.2.2.2.2.2.2.2.2.2.2.2.2.1
theorem dX1_find_32 : decode cX1_find 32 = .ok (.aload_n 3, 1) := dq_g14.2.2.2.2.2.2.2.2.2.2.2.2.2.2.2.2.2.2.1
theorem dX1_find_33 : decode cX1_find 33 = .ok (.getfield 52, 3) := dq_g14.2.2.2.2.2.2.2.2.2.2.2.2.2.2.2.2.2.2.2.1
theorem dX1_find_36 : decode cX1_find 36 = .ok (.iload 6, 2) := dq_g14.2.2.2.2.2.2.2.2.2.2.2.2.2.2.2.2.2.2.2.2.1
theorem dX1_find_38 : decode cX1_find 38 = .ok (.iaload, 1) := dq_g14.2.2.2.2.2.2.2.2.2.2.2.2.2.2.2.2.2.2.2.2.2.1
theorem dX1_find_39 : decode cX1_find 39 = .ok (.aload_n 3, 1) := dq_g14.2.2.2.2.2.2.2.2.2.2.2.2.2.2.2.2.2.2.2.2.2.2.1
theorem dX1_find_40 : decode cX1_find 40 = .ok (.getfield 55, 3) := dq_g14.2.2.2.2.2.2.2.2.2.2.2.2.2.2.2.2.2.2.2.2.2.2.2.1
theorem dX1_find_43 : decode cX1_find 43 = .ok (.iload 6, 2) := dq_g14.2.2.2.2.2.2.2.2.2.2.2.2.2.2.2.2.2.2.2.2.2.2.2.2.1
theorem dX1_find_45 : decode cX1_find 45 = .ok (.aaload, 1) := dq_g14.2.2.2.2.2.2.2.2.2.2.2.2.2.2.2.2.2.2.2.2.2.2.2.2.2.1
theorem dX1_find_46 : decode cX1_find 46 = .ok (.aload_n 3, 1) := dq_g14.2.2.2.2.2.2.2.2.2.2.2.2.2.2.2.2.2.2.2.2.2.2.2.2.2.2.1
theorem dX1_find_47 : decode cX1_find 47 = .ok (.getfield 59, 3) := dq_g14.2.2.2.2.2.2.2.2.2.2.2.2.2.2.2.2.2.2.2.2.2.2.2.2.2.2.2.1
theorem dX1_find_50 : decode cX1_find 50 = .ok (.iload 6, 2) := dq_g14.2.2.2.2.2.2.2.2.2.2.2.2.2.2.2.2.2.2.2.2.2.2.2.2.2.2.2.2.1
theorem dX1_find_52 : decode cX1_find 52 = .ok (.aaload, 1) := dq_g14.2.2.2.2.2.2.2.2.2.2.2.2.2.2.2.2.2.2.2.2.2.2.2.2.2.2.2.2.2.1
theorem dq_g15 : decode cX1_find 53 = .ok (.invokevirtual 62, 3) ∧ decode cX1_find 56 = .ok (.iinc 6 1, 3) ∧ decode cX1_find 59 = .ok (.goto (-42), 3) ∧ decode cX1_find 62 = .ok (.iconst 1, 1) ∧ decode cX1_find 63 = .ok (.istore 6, 2) ∧ decode cX1_find 65 = .ok (.iconst 0, 1) ∧ decode cX1_find 66 = .ok (.istore 7, 2) ∧ decode cX1_find 68 = .ok (.iload 7, 2) ∧ decode cX1_find 70 = .ok (.aload_n 3, 1) ∧ decode cX1_find 71 = .ok (.getfield 66, 3) ∧ decode cX1_find 74 = .ok (.if_icmp .ge 18, 3) ∧ decode cX1_find 77 = .ok (.iload 6, 2) ∧ decode cX1_find 79 = .ok (.aload_n 0, 1) ∧ decode cX1_find 80 = .ok (.getfield 43, 3) ∧ decode cX1_find 83 = .ok (.imul, 1) ∧ decode cX1_find 84 = .ok (.istore 6, 2) ∧ decode cX1_find 86 = .ok (.iinc 7 1, 3) ∧ decode cX1_find 89 = .ok (.goto (-21), 3) ∧ decode cX1_find 92 = .ok (.aload_n 0, 1) ∧ decode cX1_find 93 = .ok (.iconst 0, 1) ∧ decode cX1_find 94 = .ok (.putfield 69, 3) ∧ decode cX1_find 97 = .ok (.iconst 0, 1) ∧ decode cX1_find 98 = .ok (.istore 7, 2) ∧ decode cX1_find 100 = .ok (.iload 7, 2) ∧ decode cX1_find 102 = .ok (.iload 6, 2) ∧ decode cX1_find 104 = .ok (.if_icmp .ge 54, 3) ∧ decode cX1_find 107 = .ok (.iload 7, 2) ∧ decode cX1_find 109 = .ok (.sipush 1024, 3) ∧ decode cX1_find 112 = .ok (.if_icmp .ge 46, 3) ∧ decode cX1_find 115 = .ok (.aload_n 0, 1) ∧ True := dqC_ok (c := cX1_find) [(53, 3, some (.invokevirtual 62)), (56, 3, some (.iinc 6 1)), (59, 3, some (.goto (-42))), (62, 1, some (.iconst 1)), (63, 2, some (.istore 6)), (65, 1, some (.iconst 0)), (66, 2, some (.istore 7)), (68, 2, some (.iload 7)), (70, 1, some (.aload_n 3)), (71, 3, some (.getfield 66)), (74, 3, some (.if_icmp .ge 18)), (77, 2, some (.iload 6)), (79, 1, some (.aload_n 0)), (80, 3, some (.getfield 43)), (83, 1, some (.imul)), (84, 2, some (.istore 6)), (86, 3, some (.iinc 7 1)), (89, 3, some (.goto (-21))), (92, 1, some (.aload_n 0)), (93, 1, some (.iconst 0)), (94, 3, some (.putfield 69)), (97, 1, some (.iconst 0)), (98, 2, some (.istore 7)), (100, 2, some (.iload 7)), (102, 2, some (.iload 6)), (104, 3, some (.if_icmp .ge 54)), (107, 2, some (.iload 7)), (109, 3, some (.sipush 1024)), (112, 3, some (.if_icmp .ge 46)), (115, 1, some (.aload_n 0))] _ 53 rfl (by decide +kernel)
theorem dX1_find_53 : decode cX1_find 53 = .ok (.invokevirtual 62, 3) := dq_g15.1
theorem dX1_find_56 : decode cX1_find 56 = .ok (.iinc 6 1, 3) := dq_g15.2.1
theorem dX1_find_59 : decode cX1_find 59 = .ok (.goto (-42), 3) := dq_g15.2.2.1
theorem dX1_find_62 : decode cX1_find 62 = .ok (.iconst 1, 1) := dq_g15.2.2.2.1
theorem dX1_find_63 : decode cX1_find 63 = .ok (.istore 6, 2) := dq_g15.2.2.2.2.1
theorem dX1_find_65 : decode cX1_find 65 = .ok (.iconst 0, 1) := dq_g15.2.2.2.2.2.1
theorem dX1_find_66 : decode cX1_find 66 = .ok (.istore 7, 2) := dq_g15.2.2.2.2.2.2.1
theorem dX1_find_68 : decode cX1_find 68 = .ok (.iload 7, 2) := dq_g15.2.2.2.2.2.2.2.1
theorem dX1_find_70 : decode cX1_find 70 = .ok (.aload_n 3, 1) := dq_g15.2.2.2.2.2.2.2.2.1
theorem dX1_find_71 : decode cX1_find 71 = .ok (.getfield 66, 3) := dq_g15.2.2.2.2.2.2.2.2.2.1
theorem dX1_find_74 : decode cX1_find 74 = .ok (.if_icmp .ge 18, 3) := dq_g15.2.2.2.2.2.2.2.2.2.2.1
theorem dX1_find_77 : decode cX1_find 77 = .ok (.iload 6, 2) := dq_g15.2.2.2.2.2.2.2.2.2.2.2.1
theorem dX1_find_79 : decode cX1_find 79 = .ok (.aload_n 0, 1) := dq_g15.2.2.2.2.2.2.2.2.2.2.2.2.1
theorem dX1_find_80 : decode cX1_find 80 = .ok (.getfield 43, 3) := dq_g15.2.2.2.2.2.2.2.2.2.2.2.2.2.1
theorem dX1_find_83 : decode cX1_find 83 = .ok (.imul, 1) := dq_g15.2.2.2.2.2.2.2.2.2.2.2.2.2.2.1
theorem dX1_find_84 : decode cX1_find 84 = .ok (.istore 6, 2) := dq_g15.2.2.2.2.2.2.2.2.2.2.2.2.2.2.2.1
theorem dX1_find_86 : decode cX1_find 86 = .ok (.iinc 7 1, 3) := dq_g15.2.2.2.2.2.2.2.2.2.2.2.2.2.2.2.2.1
theorem dX1_find_89 : decode cX1_find 89 = .ok (.goto (-21), 3) := dq_g15.2.2.2.2.2.2.2.2.2.2.2.2.2.2.2.2.2.1
theorem dX1_find_92 : decode cX1_find 92 = .ok (.aload_n 0, 1) := dq_g15.2.2.2.2.2.2.2.2.2.2.2.2.2.2.2.2.2.2.1
theorem dX1_find_93 : decode cX1_find 93 = .ok (.iconst 0, 1) := dq_g15.2.2.2.2.2.2.2.2.2.2.2.2.2.2.2.2.2.2.2.1
theorem dX1_find_94 : decode cX1_find 94 = .ok (.putfield 69, 3) := dq_g15.2.2.2.2.2.2.2.2.2.2.2.2.2.2.2.2.2.2.2.2.1
theorem dX1_find_97 : decode cX1_find 97 = .ok (.iconst 0, 1) := dq_g15.2.2.2.2.2.2.2.2.2.2.2.2.2.2.2.2.2.2.2.2.2.1
theorem dX1_find_98 : decode cX1_find 98 = .ok (.istore 7, 2) := dq_g15.2.2.2.2.2.2.2.2.2.2.2.2.2.2.2.2.2.2.2.2.2.2.1
theorem dX1_find_100 : decode cX1_find 100 = .ok (.iload 7, 2) := dq_g15.2.2.2.2.2.2.2.2.2.2.2.2.2.2.2.2.2.2.2.2.2.2.2.1
theorem dX1_find_102 : decode cX1_find 102 = .ok (.iload 6, 2) := dq_g15.2.2.2.2.2.2.2.2.2.2.2.2.2.2.2.2.2.2.2.2.2.2.2.2.1
theorem dX1_find_104 : decode cX1_find 104 = .ok (.if_icmp .ge 54, 3) := dq_g15.2.2.2.2.2.2.2.2.2.2.2.2.2.2.2.2.2.2.2.2.2.2.2.2.2.1
theorem dX1_find_107 : decode cX1_find 107 = .ok (.iload 7, 2) := dq_g15.2.2.2.2.2.2.2.2.2.2.2.2.2.2.2.2.2.2.2.2.2.2.2.2.2.2.1
theorem dX1_find_109 : decode cX1_find 109 = .ok (.sipush 1024, 3) := dq_g15.2.2.2.2.2.2.2.2.2.2.2.2.2.2.2.2.2.2.2.2.2.2.2.2.2.2.2.1
theorem dX1_find_112 : decode cX1_find 112 = .ok (.if_icmp .ge 46, 3) := dq_g15.2.2.2.2.2.2.2.2.2.2.2.2.2.2.2.2.2.2.2.2.2.2.2.2.2.2.2.2.1
theorem dX1_find_115 : decode cX1_find 115 = .ok (.aload_n 0, 1) := dq_g15.2.2.2.2.2.2.2.2.2.2.2.2.2.2.2.2.2.2.2.2.2.2.2.2.2.2.2.2.2.1
theorem dq_g16 : decode cX1_find 116 = .ok (.iload 7, 2) ∧ decode cX1_find 118 = .ok (.invokevirtual 72, 3) ∧ decode cX1_find 121 = .ok (.aload_n 0, 1) ∧ decode cX1_find 122 = .ok (.aload_n 3, 1) ∧ decode cX1_find 123 = .ok (.iload 5, 2) ∧ decode cX1_find 125 = .ok (.invokevirtual 76, 3) ∧ decode cX1_find 128 = .ok (.ifCond .eq 24, 3) ∧ decode cX1_find 131 = .ok (.aload_n 0, 1) ∧ decode cX1_find 132 = .ok (.getfield 21, 3) ∧ decode cX1_find 135 = .ok (.aload_n 0, 1) ∧ decode cX1_find 136 = .ok (.getfield 69, 3) ∧ decode cX1_find 139 = .ok (.iload 7, 2) ∧ decode cX1_find 141 = .ok (.iastore, 1) ∧ decode cX1_find 142 = .ok (.aload_n 0, 1) ∧ decode cX1_find 143 = .ok (.dup, 1) ∧ decode cX1_find 144 = .ok (.getfield 69, 3) ∧ decode cX1_find 147 = .ok (.iconst 1, 1) ∧ decode cX1_find 148 = .ok (.iadd, 1) ∧ decode cX1_find 149 = .ok (.putfield 69, 3) ∧ decode cX1_find 152 = .ok (.iinc 7 1, 3) ∧ decode cX1_find 155 = .ok (.goto (-55), 3) ∧ decode cX1_find 158 = .ok (.aload_n 0, 1) ∧ decode cX1_find 159 = .ok (.getfield 69, 3) ∧ decode cX1_find 162 = .ok (.ireturn, 1) ∧ True := dqC_ok (c := cX1_find) [(116, 2, some (.iload 7)), (118, 3, some (.invokevirtual 72)), (121, 1, some (.aload_n 0)), (122, 1, some (.aload_n 3)), (123, 2, some (.iload 5)), (125, 3, some (.invokevirtual 76)), (128, 3, some (.ifCond .eq 24)), (131, 1, some (.aload_n 0)), (132, 3, some (.getfield 21)), (135, 1, some (.aload_n 0)), (136, 3, some (.getfield 69)), (139, 2, some (.iload 7)), (141, 1, some (.iastore)), (142, 1, some (.aload_n 0)), (143, 1, some (.dup)), (144, 3, some (.getfield 69)), (147, 1, some (.iconst 1)), (148, 1, some (.iadd)), (149, 3, some (.putfield 69)), (152, 3, some (.iinc 7 1)), (155, 3, some (.goto (-55))), (158, 1, some (.aload_n 0)), (159, 3, some (.getfield 69)), (162, 1, some (.ireturn))] _ 116 rfl (by decide +kernel)
theorem dX1_find_116 : decode cX1_find 116 = .ok (.iload 7, 2) := dq_g16.1
theorem dX1_find_118 : decode cX1_find 118 = .ok (.invokevirtual 72, 3) := dq_g16.2.1
theorem dX1_find_121 : decode cX1_find 121 = .ok (.aload_n 0, 1) := dq_g16.2.2.1
theorem dX1_find_122 : decode cX1_find 122 = .ok (.aload_n 3, 1) := dq_g16.2.2.2.1
theorem dX1_find_123 : decode cX1_find 123 = .ok (.iload 5, 2) := dq_g16.2.2.2.2.1
theorem dX1_find_125 : decode cX1_find 125 = .ok (.invokevirtual 76, 3) := dq_g16.2.2.2.2.2.1
theorem dX1_find_128 : decode cX1_find 128 = .ok (.ifCond .eq 24, 3) := dq_g16.2.2.2.2.2.2.1
theorem dX1_find_131 : decode cX1_find 131 = .ok (.aload_n 0, 1) := dq_g16.2.2.2.2.2.2.2.1
theorem dX1_find_132 : decode cX1_find 132 = .ok (.getfield 21, 3) := dq_g16.2.2.2.2.2.2.2.2.1
theorem dX1_find_135 : decode cX1_find 135 = .ok (.aload_n 0, 1) := dq_g16.2.2.2.2.2.2.2.2.2.1
theorem dX1_find_136 : decode cX1_find 136 = .ok (.getfield 69, 3) := dq_g16.2.2.2.2.2.2.2.2.2.2.1
theorem dX1_find_139 : decode cX1_find 139 = .ok (.iload 7, 2) := dq_g16.2.2.2.2.2.2.2.2.2.2.2.1
theorem dX1_find_141 : decode cX1_find 141 = .ok (.iastore, 1) := dq_g16.2.2.2.2.2.2.2.2.2.2.2.2.1
theorem dX1_find_142 : decode cX1_find 142 = .ok (.aload_n 0, 1) := dq_g16.2.2.2.2.2.2.2.2.2.2.2.2.2.1
theorem dX1_find_143 : decode cX1_find 143 = .ok (.dup, 1) := dq_g16.2.2.2.2.2.2.2.2.2.2.2.2.2.2.1
theorem dX1_find_144 : decode cX1_find 144 = .ok (.getfield 69, 3) := dq_g16.2.2.2.2.2.2.2.2.2.2.2.2.2.2.2.1
theorem dX1_find_147 : decode cX1_find 147 = .ok (.iconst 1, 1) := dq_g16.2.2.2.2.2.2.2.2.2.2.2.2.2.2.2.2.1
theorem dX1_find_148 : decode cX1_find 148 = .ok (.iadd, 1) := dq_g16.2.2.2.2.2.2.2.2.2.2.2.2.2.2.2.2.2.1
theorem dX1_find_149 : decode cX1_find 149 = .ok (.putfield 69, 3) := dq_g16.2.2.2.2.2.2.2.2.2.2.2.2.2.2.2.2.2.2.1
theorem dX1_find_152 : decode cX1_find 152 = .ok (.iinc 7 1, 3) := dq_g16.2.2.2.2.2.2.2.2.2.2.2.2.2.2.2.2.2.2.2.1
theorem dX1_find_155 : decode cX1_find 155 = .ok (.goto (-55), 3) := dq_g16.2.2.2.2.2.2.2.2.2.2.2.2.2.2.2.2.2.2.2.2.1
theorem dX1_find_158 : decode cX1_find 158 = .ok (.aload_n 0, 1) := dq_g16.2.2.2.2.2.2.2.2.2.2.2.2.2.2.2.2.2.2.2.2.2.1
theorem dX1_find_159 : decode cX1_find 159 = .ok (.getfield 69, 3) := dq_g16.2.2.2.2.2.2.2.2.2.2.2.2.2.2.2.2.2.2.2.2.2.2.1
theorem dX1_find_162 : decode cX1_find 162 = .ok (.ireturn, 1) := dq_g16.2.2.2.2.2.2.2.2.2.2.2.2.2.2.2.2.2.2.2.2.2.2.2.1
theorem dq_g17 : decode cX1_fill 0 = .ok (.iconst 0, 1) ∧ decode cX1_fill 1 = .ok (.istore 8, 2) ∧ decode cX1_fill 3 = .ok (.iload 8, 2) ∧ decode cX1_fill 5 = .ok (.aload_n 3, 1) ∧ decode cX1_fill 6 = .ok (.getfield 66, 3) ∧ decode cX1_fill 9 = .ok (.if_icmp .ge 98, 3) ∧ decode cX1_fill 12 = .ok (.iload 8, 2) ∧ decode cX1_fill 14 = .ok (.iconst 5, 1) ∧ decode cX1_fill 15 = .ok (.if_icmp .ge 92, 3) ∧ decode cX1_fill 18 = .ok (.iconst 0, 1) ∧ decode cX1_fill 19 = .ok (.istore 9, 2) ∧ decode cX1_fill 21 = .ok (.iload 9, 2) ∧ decode cX1_fill 23 = .ok (.aload_n 0, 1) ∧ decode cX1_fill 24 = .ok (.getfield 43, 3) ∧ decode cX1_fill 27 = .ok (.if_icmp .ge 74, 3) ∧ decode cX1_fill 30 = .ok (.aload_n 1, 1) ∧ decode cX1_fill 31 = .ok (.aload_n 3, 1) ∧ decode cX1_fill 32 = .ok (.iload 8, 2) ∧ decode cX1_fill 34 = .ok (.aload 6, 2) ∧ decode cX1_fill 36 = .ok (.iload 8, 2) ∧ decode cX1_fill 38 = .ok (.iaload, 1) ∧ decode cX1_fill 39 = .ok (.iload 9, 2) ∧ decode cX1_fill 41 = .ok (.iconst 1, 1) ∧ decode cX1_fill 42 = .ok (.iadd, 1) ∧ decode cX1_fill 43 = .ok (.aload 7, 2) ∧ decode cX1_fill 45 = .ok (.iload 8, 2) ∧ decode cX1_fill 47 = .ok (.iaload, 1) ∧ decode cX1_fill 48 = .ok (.invokevirtual 80, 3) ∧ decode cX1_fill 51 = .ok (.aload_n 0, 1) ∧ decode cX1_fill 52 = .ok (.getfield 11, 3) ∧ True := dqC_ok (c := cX1_fill) [(0, 1, some (.iconst 0)), (1, 2, some (.istore 8)), (3, 2, some (.iload 8)), (5, 1, some (.aload_n 3)), (6, 3, some (.getfield 66)), (9, 3, some (.if_icmp .ge 98)), (12, 2, some (.iload 8)), (14, 1, some (.iconst 5)), (15, 3, some (.if_icmp .ge 92)), (18, 1, some (.iconst 0)), (19, 2, some (.istore 9)), (21, 2, some (.iload 9)), (23, 1, some (.aload_n 0)), (24, 3, some (.getfield 43)), (27, 3, some (.if_icmp .ge 74)), (30, 1, some (.aload_n 1)), (31, 1, some (.aload_n 3)), (32, 2, some (.iload 8)), (34, 2, some (.aload 6)), (36, 2, some (.iload 8)), (38, 1, some (.iaload)), (39, 2, some (.iload 9)), (41, 1, some (.iconst 1)), (42, 1, some (.iadd)), (43, 2, some (.aload 7)), (45, 2, some (.iload 8)), (47, 1, some (.iaload)), (48, 3, some (.invokevirtual 80)), (51, 1, some (.aload_n 0)), (52, 3, some (.getfield 11))] _ 0 rfl (by decide +kernel)
theorem dX1_fill_0 : decode cX1_fill 0 = .ok (.iconst 0, 1) := dq_g17.1
theorem dX1_fill_1 : decode cX1_fill 1 = .ok (.istore 8, 2) := dq_g17.2.1
theorem dX1_fill_3 : decode cX1_fill 3 = .ok (.iload 8, 2) := dq_g17.2.2.1
theorem dX1_fill_5 : decode cX1_fill 5 = .ok (.aload_n 3, 1) := dq_g17.2.2.2.1
theorem dX1_fill_6 : decode cX1_fill 6 = .ok (.getfield 66, 3) := dq_g17.2.2.2.2.1
theorem dX1_fill_9 : decode cX1_fill 9 = .ok (.if_icmp .ge 98, 3) := dq_g17.2.2.2.2.2.1
theorem dX1_fill_12 : decode cX1_fill 12 = .ok (.iload 8, 2) := dq_g17.2.2.2.2.2.2.1
theorem dX1_fill_14 : decode cX1_fill 14 = .ok (.iconst 5, 1) := dq_g17.2.2.2.2.2.2.2.1
theorem dX1_fill_15 : decode cX1_fill 15 = .ok (.if_icmp .ge 92, 3) := dq_g17.2.2.2.2.2.2.2.2.1
theorem dX1_fill_18 : decode cX1_fill 18 = .ok (.iconst 0, 1) := dq_g17.2.2.2.2.2.2.2.2.2.1
theorem dX1_fill_19 : decode cX1_fill 19 = .ok (.istore 9, 2) := dq_g17.2.2.2.2.2.2.2.2.2.2.1
theorem dX1_fill_21 : decode cX1_fill 21 = .ok (.iload 9, 2) := dq_g17.2.2.2.2.2.2.2.2.2.2.2.1
theorem dX1_fill_23 : decode cX1_fill 23 = .ok (.aload_n 0, 1) := dq_g17.2.2.2.2.2.2.2.2.2.2.2.2.1
theorem dX1_fill_24 : decode cX1_fill 24 = .ok (.getfield 43, 3) := dq_g17.2.2.2.2.2.2.2.2.2.2.2.2.2.1
theorem dX1_fill_27 : decode cX1_fill 27 = .ok (.if_icmp .ge 74, 3) := dq_g17.2.2.2.2.2.2.2.2.2.2.2.2.2.2.1
theorem dX1_fill_30 : decode cX1_fill 30 = .ok (.aload_n 1, 1) := dq_g17.2.2.2.2.2.2.2.2.2.2.2.2.2.2.2.1
theorem dX1_fill_31 : decode cX1_fill 31 = .ok (.aload_n 3, 1) := dq_g17.2.2.2.2.2.2.2.2.2.2.2.2.2.2.2.2.1
theorem dX1_fill_32 : decode cX1_fill 32 = .ok (.iload 8, 2) := dq_g17.2.2.2.2.2.2.2.2.2.2.2.2.2.2.2.2.2.1
theorem dX1_fill_34 : decode cX1_fill 34 = .ok (.aload 6, 2) := dq_g17.2.2.2.2.2.2.2.2.2.2.2.2.2.2.2.2.2.2.1
theorem dX1_fill_36 : decode cX1_fill 36 = .ok (.iload 8, 2) := dq_g17.2.2.2.2.2.2.2.2.2.2.2.2.2.2.2.2.2.2.2.1
theorem dX1_fill_38 : decode cX1_fill 38 = .ok (.iaload, 1) := dq_g17.2.2.2.2.2.2.2.2.2.2.2.2.2.2.2.2.2.2.2.2.1
theorem dX1_fill_39 : decode cX1_fill 39 = .ok (.iload 9, 2) := dq_g17.2.2.2.2.2.2.2.2.2.2.2.2.2.2.2.2.2.2.2.2.2.1
theorem dX1_fill_41 : decode cX1_fill 41 = .ok (.iconst 1, 1) := dq_g17.2.2.2.2.2.2.2.2.2.2.2.2.2.2.2.2.2.2.2.2.2.2.1
theorem dX1_fill_42 : decode cX1_fill 42 = .ok (.iadd, 1) := dq_g17.2.2.2.2.2.2.2.2.2.2.2.2.2.2.2.2.2.2.2.2.2.2.2.1
theorem dX1_fill_43 : decode cX1_fill 43 = .ok (.aload 7, 2) := dq_g17.2.2.2.2.2.2.2.2.2.2.2.2.2.2.2.2.2.2.2.2.2.2.2.2.1
theorem dX1_fill_45 : decode cX1_fill 45 = .ok (.iload 8, 2) := dq_g17.2.2.2.2.2.2.2.2.2.2.2.2.2.2.2.2.2.2.2.2.2.2.2.2.2.1
theorem dX1_fill_47 : decode cX1_fill 47 = .ok (.iaload, 1) := dq_g17.2.2.2.2.2.2.2.2.2.2.2.2.2.2.2.2.2.2.2.2.2.2.2.2.2.2.1
theorem dX1_fill_48 : decode cX1_fill 48 = .ok (.invokevirtual 80, 3) := dq_g17.2.2.2.2.2.2.2.2.2.2.2.2.2.2.2.2.2.2.2.2.2.2.2.2.2.2.2.1
theorem dX1_fill_51 : decode cX1_fill 51 = .ok (.aload_n 0, 1) := dq_g17.2.2.2.2.2.2.2.2.2.2.2.2.2.2.2.2.2.2.2.2.2.2.2.2.2.2.2.2.1
theorem dX1_fill_52 : decode cX1_fill 52 = .ok (.getfield 11, 3) := dq_g17.2.2.2.2.2.2.2.2.2.2.2.2.2.2.2.2.2.2.2.2.2.2.2.2.2.2.2.2.2.1
theorem dq_g18 : decode cX1_fill 55 = .ok (.iload 4, 2) ∧ decode cX1_fill 57 = .ok (.iload 8, 2) ∧ decode cX1_fill 59 = .ok (.iload 9, 2) ∧ decode cX1_fill 61 = .ok (.invokestatic 86, 3) ∧ decode cX1_fill 64 = .ok (.aload_n 1, 1) ∧ decode cX1_fill 65 = .ok (.aload_n 2, 1) ∧ decode cX1_fill 66 = .ok (.iconst 0, 1) ∧ decode cX1_fill 67 = .ok (.iload 5, 2) ∧ decode cX1_fill 69 = .ok (.invokevirtual 90, 3) ∧ decode cX1_fill 72 = .ok (.iastore, 1) ∧ decode cX1_fill 73 = .ok (.aload_n 0, 1) ∧ decode cX1_fill 74 = .ok (.getfield 15, 3) ∧ decode cX1_fill 77 = .ok (.iload 4, 2) ∧ decode cX1_fill 79 = .ok (.iload 8, 2) ∧ decode cX1_fill 81 = .ok (.iload 9, 2) ∧ decode cX1_fill 83 = .ok (.invokestatic 86, 3) ∧ decode cX1_fill 86 = .ok (.aload_n 1, 1) ∧ decode cX1_fill 87 = .ok (.aload_n 2, 1) ∧ decode cX1_fill 88 = .ok (.iconst 1, 1) ∧ decode cX1_fill 89 = .ok (.iload 5, 2) ∧ decode cX1_fill 91 = .ok (.invokevirtual 90, 3) ∧ decode cX1_fill 94 = .ok (.iastore, 1) ∧ decode cX1_fill 95 = .ok (.iinc 9 1, 3) ∧ decode cX1_fill 98 = .ok (.goto (-77), 3) ∧ decode cX1_fill 101 = .ok (.iinc 8 1, 3) ∧ decode cX1_fill 104 = .ok (.goto (-101), 3) ∧ decode cX1_fill 107 = .ok (.return_, 1) ∧ True := dqC_ok (c := cX1_fill) [(55, 2, some (.iload 4)), (57, 2, some (.iload 8)), (59, 2, some (.iload 9)), (61, 3, some (.invokestatic 86)), (64, 1, some (.aload_n 1)), (65, 1, some (.aload_n 2)), (66, 1, some (.iconst 0)), (67, 2, some (.iload 5)), (69, 3, some (.invokevirtual 90)), (72, 1, some (.iastore)), (73, 1, some (.aload_n 0)), (74, 3, some (.getfield 15)), (77, 2, some (.iload 4)), (79, 2, some (.iload 8)), (81, 2, some (.iload 9)), (83, 3, some (.invokestatic 86)), (86, 1, some (.aload_n 1)), (87, 1, some (.aload_n 2)), (88, 1, some (.iconst 1)), (89, 2, some (.iload 5)), (91, 3, some (.invokevirtual 90)), (94, 1, some (.iastore)), (95, 3, some (.iinc 9 1)), (98, 3, some (.goto (-77))), (101, 3, some (.iinc 8 1)), (104, 3, some (.goto (-101))), (107, 1, some (.return_))] _ 55 rfl (by decide +kernel)
theorem dX1_fill_55 : decode cX1_fill 55 = .ok (.iload 4, 2) := dq_g18.1
theorem dX1_fill_57 : decode cX1_fill 57 = .ok (.iload 8, 2) := dq_g18.2.1
theorem dX1_fill_59 : decode cX1_fill 59 = .ok (.iload 9, 2) := dq_g18.2.2.1
theorem dX1_fill_61 : decode cX1_fill 61 = .ok (.invokestatic 86, 3) := dq_g18.2.2.2.1
theorem dX1_fill_64 : decode cX1_fill 64 = .ok (.aload_n 1, 1) := dq_g18.2.2.2.2.1
theorem dX1_fill_65 : decode cX1_fill 65 = .ok (.aload_n 2, 1) := dq_g18.2.2.2.2.2.1
theorem dX1_fill_66 : decode cX1_fill 66 = .ok (.iconst 0, 1) := dq_g18.2.2.2.2.2.2.1
theorem dX1_fill_67 : decode cX1_fill 67 = .ok (.iload 5, 2) := dq_g18.2.2.2.2.2.2.2.1
theorem dX1_fill_69 : decode cX1_fill 69 = .ok (.invokevirtual 90, 3) := dq_g18.2.2.2.2.2.2.2.2.1
theorem dX1_fill_72 : decode cX1_fill 72 = .ok (.iastore, 1) := dq_g18.2.2.2.2.2.2.2.2.2.1
theorem dX1_fill_73 : decode cX1_fill 73 = .ok (.aload_n 0, 1) := dq_g18.2.2.2.2.2.2.2.2.2.2.1
theorem dX1_fill_74 : decode cX1_fill 74 = .ok (.getfield 15, 3) := dq_g18.2.2.2.2.2.2.2.2.2.2.2.1
theorem dX1_fill_77 : decode cX1_fill 77 = .ok (.iload 4, 2) := dq_g18.2.2.2.2.2.2.2.2.2.2.2.2.1
theorem dX1_fill_79 : decode cX1_fill 79 = .ok (.iload 8, 2) := dq_g18.2.2.2.2.2.2.2.2.2.2.2.2.2.1
theorem dX1_fill_81 : decode cX1_fill 81 = .ok (.iload 9, 2) := dq_g18.2.2.2.2.2.2.2.2.2.2.2.2.2.2.1
theorem dX1_fill_83 : decode cX1_fill 83 = .ok (.invokestatic 86, 3) := dq_g18.2.2.2.2.2.2.2.2.2.2.2.2.2.2.2.1
theorem dX1_fill_86 : decode cX1_fill 86 = .ok (.aload_n 1, 1) := dq_g18.2.2.2.2.2.2.2.2.2.2.2.2.2.2.2.2.1
theorem dX1_fill_87 : decode cX1_fill 87 = .ok (.aload_n 2, 1) := dq_g18.2.2.2.2.2.2.2.2.2.2.2.2.2.2.2.2.2.1
theorem dX1_fill_88 : decode cX1_fill 88 = .ok (.iconst 1, 1) := dq_g18.2.2.2.2.2.2.2.2.2.2.2.2.2.2.2.2.2.2.1
theorem dX1_fill_89 : decode cX1_fill 89 = .ok (.iload 5, 2) := dq_g18.2.2.2.2.2.2.2.2.2.2.2.2.2.2.2.2.2.2.2.1
theorem dX1_fill_91 : decode cX1_fill 91 = .ok (.invokevirtual 90, 3) := dq_g18.2.2.2.2.2.2.2.2.2.2.2.2.2.2.2.2.2.2.2.2.1
theorem dX1_fill_94 : decode cX1_fill 94 = .ok (.iastore, 1) := dq_g18.2.2.2.2.2.2.2.2.2.2.2.2.2.2.2.2.2.2.2.2.2.1
theorem dX1_fill_95 : decode cX1_fill 95 = .ok (.iinc 9 1, 3) := dq_g18.2.2.2.2.2.2.2.2.2.2.2.2.2.2.2.2.2.2.2.2.2.2.1
theorem dX1_fill_98 : decode cX1_fill 98 = .ok (.goto (-77), 3) := dq_g18.2.2.2.2.2.2.2.2.2.2.2.2.2.2.2.2.2.2.2.2.2.2.2.1
theorem dX1_fill_101 : decode cX1_fill 101 = .ok (.iinc 8 1, 3) := dq_g18.2.2.2.2.2.2.2.2.2.2.2.2.2.2.2.2.2.2.2.2.2.2.2.2.1
theorem dX1_fill_104 : decode cX1_fill 104 = .ok (.goto (-101), 3) := dq_g18.2.2.2.2.2.2.2.2.2.2.2.2.2.2.2.2.2.2.2.2.2.2.2.2.2.1
theorem dX1_fill_107 : decode cX1_fill 107 = .ok (.return_, 1) := dq_g18.2.2.2.2.2.2.2.2.2.2.2.2.2.2.2.2.2.2.2.2.2.2.2.2.2.2.1
theorem dq_g19 : decode cX1_place 0 = .ok (.iload_n 0, 1) ∧ decode cX1_place 1 = .ok (.iconst 5, 1) ∧ decode cX1_place 2 = .ok (.imul, 1) ∧ decode cX1_place 3 = .ok (.iload_n 1, 1) ∧ decode cX1_place 4 = .ok (.iadd, 1) ∧ decode cX1_place 5 = .ok (.iconst 4, 1) ∧ decode cX1_place 6 = .ok (.imul, 1) ∧ decode cX1_place 7 = .ok (.iload_n 2, 1) ∧ decode cX1_place 8 = .ok (.iadd, 1) ∧ decode cX1_place 9 = .ok (.ireturn, 1) ∧ True := dqC_ok (c := cX1_place) [(0, 1, some (.iload_n 0)), (1, 1, some (.iconst 5)), (2, 1, some (.imul)), (3, 1, some (.iload_n 1)), (4, 1, some (.iadd)), (5, 1, some (.iconst 4)), (6, 1, some (.imul)), (7, 1, some (.iload_n 2)), (8, 1, some (.iadd)), (9, 1, some (.ireturn))] _ 0 rfl (by decide +kernel)
theorem dX1_place_0 : decode cX1_place 0 = .ok (.iload_n 0, 1) := dq_g19.1
theorem dX1_place_1 : decode cX1_place 1 = .ok (.iconst 5, 1) := dq_g19.2.1
theorem dX1_place_2 : decode cX1_place 2 = .ok (.imul, 1) := dq_g19.2.2.1
theorem dX1_place_3 : decode cX1_place 3 = .ok (.iload_n 1, 1) := dq_g19.2.2.2.1
theorem dX1_place_4 : decode cX1_place 4 = .ok (.iadd, 1) := dq_g19.2.2.2.2.1
theorem dX1_place_5 : decode cX1_place 5 = .ok (.iconst 4, 1) := dq_g19.2.2.2.2.2.1
theorem dX1_place_6 : decode cX1_place 6 = .ok (.imul, 1) := dq_g19.2.2.2.2.2.2.1
theorem dX1_place_7 : decode cX1_place 7 = .ok (.iload_n 2, 1) := dq_g19.2.2.2.2.2.2.2.1
theorem dX1_place_8 : decode cX1_place 8 = .ok (.iadd, 1) := dq_g19.2.2.2.2.2.2.2.2.1
theorem dX1_place_9 : decode cX1_place 9 = .ok (.ireturn, 1) := dq_g19.2.2.2.2.2.2.2.2.2.1
theorem dq_g20 : decode cX1_unfold 0 = .ok (.iload_n 1, 1) ∧ decode cX1_unfold 1 = .ok (.istore_n 2, 1) ∧ decode cX1_unfold 2 = .ok (.iconst 0, 1) ∧ decode cX1_unfold 3 = .ok (.istore_n 3, 1) ∧ decode cX1_unfold 4 = .ok (.iload_n 3, 1) ∧ decode cX1_unfold 5 = .ok (.iconst 5, 1) ∧ decode cX1_unfold 6 = .ok (.if_icmp .ge 35, 3) ∧ decode cX1_unfold 9 = .ok (.aload_n 0, 1) ∧ decode cX1_unfold 10 = .ok (.getfield 43, 3) ∧ decode cX1_unfold 13 = .ok (.ifCond .le 28, 3) ∧ decode cX1_unfold 16 = .ok (.aload_n 0, 1) ∧ decode cX1_unfold 17 = .ok (.getfield 18, 3) ∧ decode cX1_unfold 20 = .ok (.iload_n 3, 1) ∧ decode cX1_unfold 21 = .ok (.iload_n 2, 1) ∧ decode cX1_unfold 22 = .ok (.aload_n 0, 1) ∧ decode cX1_unfold 23 = .ok (.getfield 43, 3) ∧ decode cX1_unfold 26 = .ok (.irem, 1) ∧ decode cX1_unfold 27 = .ok (.iastore, 1) ∧ decode cX1_unfold 28 = .ok (.iload_n 2, 1) ∧ decode cX1_unfold 29 = .ok (.aload_n 0, 1) ∧ decode cX1_unfold 30 = .ok (.getfield 43, 3) ∧ decode cX1_unfold 33 = .ok (.idiv, 1) ∧ decode cX1_unfold 34 = .ok (.istore_n 2, 1) ∧ decode cX1_unfold 35 = .ok (.iinc 3 1, 3) ∧ decode cX1_unfold 38 = .ok (.goto (-34), 3) ∧ decode cX1_unfold 41 = .ok (.return_, 1) ∧ True := dqC_ok (c := cX1_unfold) [(0, 1, some (.iload_n 1)), (1, 1, some (.istore_n 2)), (2, 1, some (.iconst 0)), (3, 1, some (.istore_n 3)), (4, 1, some (.iload_n 3)), (5, 1, some (.iconst 5)), (6, 3, some (.if_icmp .ge 35)), (9, 1, some (.aload_n 0)), (10, 3, some (.getfield 43)), (13, 3, some (.ifCond .le 28)), (16, 1, some (.aload_n 0)), (17, 3, some (.getfield 18)), (20, 1, some (.iload_n 3)), (21, 1, some (.iload_n 2)), (22, 1, some (.aload_n 0)), (23, 3, some (.getfield 43)), (26, 1, some (.irem)), (27, 1, some (.iastore)), (28, 1, some (.iload_n 2)), (29, 1, some (.aload_n 0)), (30, 3, some (.getfield 43)), (33, 1, some (.idiv)), (34, 1, some (.istore_n 2)), (35, 3, some (.iinc 3 1)), (38, 3, some (.goto (-34))), (41, 1, some (.return_))] _ 0 rfl (by decide +kernel)
theorem dX1_unfold_0 : decode cX1_unfold 0 = .ok (.iload_n 1, 1) := dq_g20.1
theorem dX1_unfold_1 : decode cX1_unfold 1 = .ok (.istore_n 2, 1) := dq_g20.2.1
theorem dX1_unfold_2 : decode cX1_unfold 2 = .ok (.iconst 0, 1) := dq_g20.2.2.1
theorem dX1_unfold_3 : decode cX1_unfold 3 = .ok (.istore_n 3, 1) := dq_g20.2.2.2.1
theorem dX1_unfold_4 : decode cX1_unfold 4 = .ok (.iload_n 3, 1) := dq_g20.2.2.2.2.1
theorem dX1_unfold_5 : decode cX1_unfold 5 = .ok (.iconst 5, 1) := dq_g20.2.2.2.2.2.1
theorem dX1_unfold_6 : decode cX1_unfold 6 = .ok (.if_icmp .ge 35, 3) := dq_g20.2.2.2.2.2.2.1
theorem dX1_unfold_9 : decode cX1_unfold 9 = .ok (.aload_n 0, 1) := dq_g20.2.2.2.2.2.2.2.1
theorem dX1_unfold_10 : decode cX1_unfold 10 = .ok (.getfield 43, 3) := dq_g20.2.2.2.2.2.2.2.2.1
theorem dX1_unfold_13 : decode cX1_unfold 13 = .ok (.ifCond .le 28, 3) := dq_g20.2.2.2.2.2.2.2.2.2.1
theorem dX1_unfold_16 : decode cX1_unfold 16 = .ok (.aload_n 0, 1) := dq_g20.2.2.2.2.2.2.2.2.2.2.1
theorem dX1_unfold_17 : decode cX1_unfold 17 = .ok (.getfield 18, 3) := dq_g20.2.2.2.2.2.2.2.2.2.2.2.1
theorem dX1_unfold_20 : decode cX1_unfold 20 = .ok (.iload_n 3, 1) := dq_g20.2.2.2.2.2.2.2.2.2.2.2.2.1
theorem dX1_unfold_21 : decode cX1_unfold 21 = .ok (.iload_n 2, 1) := dq_g20.2.2.2.2.2.2.2.2.2.2.2.2.2.1
theorem dX1_unfold_22 : decode cX1_unfold 22 = .ok (.aload_n 0, 1) := dq_g20.2.2.2.2.2.2.2.2.2.2.2.2.2.2.1
theorem dX1_unfold_23 : decode cX1_unfold 23 = .ok (.getfield 43, 3) := dq_g20.2.2.2.2.2.2.2.2.2.2.2.2.2.2.2.1
theorem dX1_unfold_26 : decode cX1_unfold 26 = .ok (.irem, 1) := dq_g20.2.2.2.2.2.2.2.2.2.2.2.2.2.2.2.2.1
theorem dX1_unfold_27 : decode cX1_unfold 27 = .ok (.iastore, 1) := dq_g20.2.2.2.2.2.2.2.2.2.2.2.2.2.2.2.2.2.1
theorem dX1_unfold_28 : decode cX1_unfold 28 = .ok (.iload_n 2, 1) := dq_g20.2.2.2.2.2.2.2.2.2.2.2.2.2.2.2.2.2.2.1
theorem dX1_unfold_29 : decode cX1_unfold 29 = .ok (.aload_n 0, 1) := dq_g20.2.2.2.2.2.2.2.2.2.2.2.2.2.2.2.2.2.2.2.1
theorem dX1_unfold_30 : decode cX1_unfold 30 = .ok (.getfield 43, 3) := dq_g20.2.2.2.2.2.2.2.2.2.2.2.2.2.2.2.2.2.2.2.2.1
theorem dX1_unfold_33 : decode cX1_unfold 33 = .ok (.idiv, 1) := dq_g20.2.2.2.2.2.2.2.2.2.2.2.2.2.2.2.2.2.2.2.2.2.1
theorem dX1_unfold_34 : decode cX1_unfold 34 = .ok (.istore_n 2, 1) := dq_g20.2.2.2.2.2.2.2.2.2.2.2.2.2.2.2.2.2.2.2.2.2.2.1
theorem dX1_unfold_35 : decode cX1_unfold 35 = .ok (.iinc 3 1, 3) := dq_g20.2.2.2.2.2.2.2.2.2.2.2.2.2.2.2.2.2.2.2.2.2.2.2.1
theorem dX1_unfold_38 : decode cX1_unfold 38 = .ok (.goto (-34), 3) := dq_g20.2.2.2.2.2.2.2.2.2.2.2.2.2.2.2.2.2.2.2.2.2.2.2.2.1
theorem dX1_unfold_41 : decode cX1_unfold 41 = .ok (.return_, 1) := dq_g20.2.2.2.2.2.2.2.2.2.2.2.2.2.2.2.2.2.2.2.2.2.2.2.2.2.1
theorem dq_g21 : decode cX1_toneAt 0 = .ok (.iconst 0, 1) ∧ decode cX1_toneAt 1 = .ok (.istore_n 3, 1) ∧ decode cX1_toneAt 2 = .ok (.iconst 0, 1) ∧ decode cX1_toneAt 3 = .ok (.istore 4, 2) ∧ decode cX1_toneAt 5 = .ok (.iconst 0, 1) ∧ decode cX1_toneAt 6 = .ok (.istore 5, 2) ∧ decode cX1_toneAt 8 = .ok (.iload 5, 2) ∧ decode cX1_toneAt 10 = .ok (.aload_n 1, 1) ∧ decode cX1_toneAt 11 = .ok (.getfield 66, 3) ∧ decode cX1_toneAt 14 = .ok (.if_icmp .ge 52, 3) ∧ decode cX1_toneAt 17 = .ok (.iload 5, 2) ∧ decode cX1_toneAt 19 = .ok (.iconst 5, 1) ∧ decode cX1_toneAt 20 = .ok (.if_icmp .ge 46, 3) ∧ decode cX1_toneAt 23 = .ok (.iload_n 2, 1) ∧ decode cX1_toneAt 24 = .ok (.iload 5, 2) ∧ decode cX1_toneAt 26 = .ok (.aload_n 0, 1) ∧ decode cX1_toneAt 27 = .ok (.getfield 18, 3) ∧ decode cX1_toneAt 30 = .ok (.iload 5, 2) ∧ decode cX1_toneAt 32 = .ok (.iaload, 1) ∧ decode cX1_toneAt 33 = .ok (.invokestatic 86, 3) ∧ decode cX1_toneAt 36 = .ok (.istore 6, 2) ∧ decode cX1_toneAt 38 = .ok (.iload_n 3, 1) ∧ decode cX1_toneAt 39 = .ok (.aload_n 0, 1) ∧ decode cX1_toneAt 40 = .ok (.getfield 11, 3) ∧ decode cX1_toneAt 43 = .ok (.iload 6, 2) ∧ decode cX1_toneAt 45 = .ok (.iaload, 1) ∧ decode cX1_toneAt 46 = .ok (.iadd, 1) ∧ decode cX1_toneAt 47 = .ok (.istore_n 3, 1) ∧ decode cX1_toneAt 48 = .ok (.iload 4, 2) ∧ decode cX1_toneAt 50 = .ok (.aload_n 0, 1) ∧ True := dqC_ok (c := cX1_toneAt) [(0, 1, some (.iconst 0)), (1, 1, some (.istore_n 3)), (2, 1, some (.iconst 0)), (3, 2, some (.istore 4)), (5, 1, some (.iconst 0)), (6, 2, some (.istore 5)), (8, 2, some (.iload 5)), (10, 1, some (.aload_n 1)), (11, 3, some (.getfield 66)), (14, 3, some (.if_icmp .ge 52)), (17, 2, some (.iload 5)), (19, 1, some (.iconst 5)), (20, 3, some (.if_icmp .ge 46)), (23, 1, some (.iload_n 2)), (24, 2, some (.iload 5)), (26, 1, some (.aload_n 0)), (27, 3, some (.getfield 18)), (30, 2, some (.iload 5)), (32, 1, some (.iaload)), (33, 3, some (.invokestatic 86)), (36, 2, some (.istore 6)), (38, 1, some (.iload_n 3)), (39, 1, some (.aload_n 0)), (40, 3, some (.getfield 11)), (43, 2, some (.iload 6)), (45, 1, some (.iaload)), (46, 1, some (.iadd)), (47, 1, some (.istore_n 3)), (48, 2, some (.iload 4)), (50, 1, some (.aload_n 0))] _ 0 rfl (by decide +kernel)
theorem dX1_toneAt_0 : decode cX1_toneAt 0 = .ok (.iconst 0, 1) := dq_g21.1
theorem dX1_toneAt_1 : decode cX1_toneAt 1 = .ok (.istore_n 3, 1) := dq_g21.2.1
theorem dX1_toneAt_2 : decode cX1_toneAt 2 = .ok (.iconst 0, 1) := dq_g21.2.2.1
theorem dX1_toneAt_3 : decode cX1_toneAt 3 = .ok (.istore 4, 2) := dq_g21.2.2.2.1
theorem dX1_toneAt_5 : decode cX1_toneAt 5 = .ok (.iconst 0, 1) := dq_g21.2.2.2.2.1
theorem dX1_toneAt_6 : decode cX1_toneAt 6 = .ok (.istore 5, 2) := dq_g21.2.2.2.2.2.1
theorem dX1_toneAt_8 : decode cX1_toneAt 8 = .ok (.iload 5, 2) := dq_g21.2.2.2.2.2.2.1
theorem dX1_toneAt_10 : decode cX1_toneAt 10 = .ok (.aload_n 1, 1) := dq_g21.2.2.2.2.2.2.2.1
theorem dX1_toneAt_11 : decode cX1_toneAt 11 = .ok (.getfield 66, 3) := dq_g21.2.2.2.2.2.2.2.2.1
theorem dX1_toneAt_14 : decode cX1_toneAt 14 = .ok (.if_icmp .ge 52, 3) := dq_g21.2.2.2.2.2.2.2.2.2.1
theorem dX1_toneAt_17 : decode cX1_toneAt 17 = .ok (.iload 5, 2) := dq_g21.2.2.2.2.2.2.2.2.2.2.1
theorem dX1_toneAt_19 : decode cX1_toneAt 19 = .ok (.iconst 5, 1) := dq_g21.2.2.2.2.2.2.2.2.2.2.2.1
theorem dX1_toneAt_20 : decode cX1_toneAt 20 = .ok (.if_icmp .ge 46, 3) := dq_g21.2.2.2.2.2.2.2.2.2.2.2.2.1
theorem dX1_toneAt_23 : decode cX1_toneAt 23 = .ok (.iload_n 2, 1) := dq_g21.2.2.2.2.2.2.2.2.2.2.2.2.2.1
theorem dX1_toneAt_24 : decode cX1_toneAt 24 = .ok (.iload 5, 2) := dq_g21.2.2.2.2.2.2.2.2.2.2.2.2.2.2.1
theorem dX1_toneAt_26 : decode cX1_toneAt 26 = .ok (.aload_n 0, 1) := dq_g21.2.2.2.2.2.2.2.2.2.2.2.2.2.2.2.1
theorem dX1_toneAt_27 : decode cX1_toneAt 27 = .ok (.getfield 18, 3) := dq_g21.2.2.2.2.2.2.2.2.2.2.2.2.2.2.2.2.1
theorem dX1_toneAt_30 : decode cX1_toneAt 30 = .ok (.iload 5, 2) := dq_g21.2.2.2.2.2.2.2.2.2.2.2.2.2.2.2.2.2.1
theorem dX1_toneAt_32 : decode cX1_toneAt 32 = .ok (.iaload, 1) := dq_g21.2.2.2.2.2.2.2.2.2.2.2.2.2.2.2.2.2.2.1
theorem dX1_toneAt_33 : decode cX1_toneAt 33 = .ok (.invokestatic 86, 3) := dq_g21.2.2.2.2.2.2.2.2.2.2.2.2.2.2.2.2.2.2.2.1
theorem dX1_toneAt_36 : decode cX1_toneAt 36 = .ok (.istore 6, 2) := dq_g21.2.2.2.2.2.2.2.2.2.2.2.2.2.2.2.2.2.2.2.2.1
theorem dX1_toneAt_38 : decode cX1_toneAt 38 = .ok (.iload_n 3, 1) := dq_g21.2.2.2.2.2.2.2.2.2.2.2.2.2.2.2.2.2.2.2.2.2.1
theorem dX1_toneAt_39 : decode cX1_toneAt 39 = .ok (.aload_n 0, 1) := dq_g21.2.2.2.2.2.2.2.2.2.2.2.2.2.2.2.2.2.2.2.2.2.2.1
theorem dX1_toneAt_40 : decode cX1_toneAt 40 = .ok (.getfield 11, 3) := dq_g21.2.2.2.2.2.2.2.2.2.2.2.2.2.2.2.2.2.2.2.2.2.2.2.1
theorem dX1_toneAt_43 : decode cX1_toneAt 43 = .ok (.iload 6, 2) := dq_g21.2.2.2.2.2.2.2.2.2.2.2.2.2.2.2.2.2.2.2.2.2.2.2.2.1
theorem dX1_toneAt_45 : decode cX1_toneAt 45 = .ok (.iaload, 1) := dq_g21.2.2.2.2.2.2.2.2.2.2.2.2.2.2.2.2.2.2.2.2.2.2.2.2.2.1
theorem dX1_toneAt_46 : decode cX1_toneAt 46 = .ok (.iadd, 1) := dq_g21.2.2.2.2.2.2.2.2.2.2.2.2.2.2.2.2.2.2.2.2.2.2.2.2.2.2.1
theorem dX1_toneAt_47 : decode cX1_toneAt 47 = .ok (.istore_n 3, 1) := dq_g21.2.2.2.2.2.2.2.2.2.2.2.2.2.2.2.2.2.2.2.2.2.2.2.2.2.2.2.1
theorem dX1_toneAt_48 : decode cX1_toneAt 48 = .ok (.iload 4, 2) := dq_g21.2.2.2.2.2.2.2.2.2.2.2.2.2.2.2.2.2.2.2.2.2.2.2.2.2.2.2.2.1
theorem dX1_toneAt_50 : decode cX1_toneAt 50 = .ok (.aload_n 0, 1) := dq_g21.2.2.2.2.2.2.2.2.2.2.2.2.2.2.2.2.2.2.2.2.2.2.2.2.2.2.2.2.2.1
theorem dq_g22 : decode cX1_toneAt 51 = .ok (.getfield 15, 3) ∧ decode cX1_toneAt 54 = .ok (.iload 6, 2) ∧ decode cX1_toneAt 56 = .ok (.iaload, 1) ∧ decode cX1_toneAt 57 = .ok (.iadd, 1) ∧ decode cX1_toneAt 58 = .ok (.istore 4, 2) ∧ decode cX1_toneAt 60 = .ok (.iinc 5 1, 3) ∧ decode cX1_toneAt 63 = .ok (.goto (-55), 3) ∧ decode cX1_toneAt 66 = .ok (.iload_n 3, 1) ∧ decode cX1_toneAt 67 = .ok (.iload 4, 2) ∧ decode cX1_toneAt 69 = .ok (.invokestatic 94, 3) ∧ decode cX1_toneAt 72 = .ok (.ireturn, 1) ∧ True := dqC_ok (c := cX1_toneAt) [(51, 3, some (.getfield 15)), (54, 2, some (.iload 6)), (56, 1, some (.iaload)), (57, 1, some (.iadd)), (58, 2, some (.istore 4)), (60, 3, some (.iinc 5 1)), (63, 3, some (.goto (-55))), (66, 1, some (.iload_n 3)), (67, 2, some (.iload 4)), (69, 3, some (.invokestatic 94)), (72, 1, some (.ireturn))] _ 51 rfl (by decide +kernel)
theorem dX1_toneAt_51 : decode cX1_toneAt 51 = .ok (.getfield 15, 3) := dq_g22.1
theorem dX1_toneAt_54 : decode cX1_toneAt 54 = .ok (.iload 6, 2) := dq_g22.2.1
theorem dX1_toneAt_56 : decode cX1_toneAt 56 = .ok (.iaload, 1) := dq_g22.2.2.1
theorem dX1_toneAt_57 : decode cX1_toneAt 57 = .ok (.iadd, 1) := dq_g22.2.2.2.1
theorem dX1_toneAt_58 : decode cX1_toneAt 58 = .ok (.istore 4, 2) := dq_g22.2.2.2.2.1
theorem dX1_toneAt_60 : decode cX1_toneAt 60 = .ok (.iinc 5 1, 3) := dq_g22.2.2.2.2.2.1
theorem dX1_toneAt_63 : decode cX1_toneAt 63 = .ok (.goto (-55), 3) := dq_g22.2.2.2.2.2.2.1
theorem dX1_toneAt_66 : decode cX1_toneAt 66 = .ok (.iload_n 3, 1) := dq_g22.2.2.2.2.2.2.2.1
theorem dX1_toneAt_67 : decode cX1_toneAt 67 = .ok (.iload 4, 2) := dq_g22.2.2.2.2.2.2.2.2.1
theorem dX1_toneAt_69 : decode cX1_toneAt 69 = .ok (.invokestatic 94, 3) := dq_g22.2.2.2.2.2.2.2.2.2.1
theorem dX1_toneAt_72 : decode cX1_toneAt 72 = .ok (.ireturn, 1) := dq_g22.2.2.2.2.2.2.2.2.2.2.1
theorem dq_g23 : decode cX1_isHeard 0 = .ok (.iconst 0, 1) ∧ decode cX1_isHeard 1 = .ok (.istore_n 3, 1) ∧ decode cX1_isHeard 2 = .ok (.iload_n 3, 1) ∧ decode cX1_isHeard 3 = .ok (.aload_n 1, 1) ∧ decode cX1_isHeard 4 = .ok (.getfield 47, 3) ∧ decode cX1_isHeard 7 = .ok (.if_icmp .ge 31, 3) ∧ decode cX1_isHeard 10 = .ok (.aload_n 0, 1) ∧ decode cX1_isHeard 11 = .ok (.aload_n 1, 1) ∧ decode cX1_isHeard 12 = .ok (.iload_n 3, 1) ∧ decode cX1_isHeard 13 = .ok (.invokevirtual 97, 3) ∧ decode cX1_isHeard 16 = .ok (.aload_n 1, 1) ∧ decode cX1_isHeard 17 = .ok (.getfield 101, 3) ∧ decode cX1_isHeard 20 = .ok (.iload_n 3, 1) ∧ decode cX1_isHeard 21 = .ok (.iaload, 1) ∧ decode cX1_isHeard 22 = .ok (.isub, 1) ∧ decode cX1_isHeard 23 = .ok (.invokestatic 104, 3) ∧ decode cX1_isHeard 26 = .ok (.iload_n 2, 1) ∧ decode cX1_isHeard 27 = .ok (.if_icmp .le 5, 3) ∧ decode cX1_isHeard 30 = .ok (.iconst 0, 1) ∧ decode cX1_isHeard 31 = .ok (.ireturn, 1) ∧ decode cX1_isHeard 32 = .ok (.iinc 3 1, 3) ∧ decode cX1_isHeard 35 = .ok (.goto (-33), 3) ∧ decode cX1_isHeard 38 = .ok (.iconst 1, 1) ∧ decode cX1_isHeard 39 = .ok (.ireturn, 1) ∧ True := dqC_ok (c := cX1_isHeard) [(0, 1, some (.iconst 0)), (1, 1, some (.istore_n 3)), (2, 1, some (.iload_n 3)), (3, 1, some (.aload_n 1)), (4, 3, some (.getfield 47)), (7, 3, some (.if_icmp .ge 31)), (10, 1, some (.aload_n 0)), (11, 1, some (.aload_n 1)), (12, 1, some (.iload_n 3)), (13, 3, some (.invokevirtual 97)), (16, 1, some (.aload_n 1)), (17, 3, some (.getfield 101)), (20, 1, some (.iload_n 3)), (21, 1, some (.iaload)), (22, 1, some (.isub)), (23, 3, some (.invokestatic 104)), (26, 1, some (.iload_n 2)), (27, 3, some (.if_icmp .le 5)), (30, 1, some (.iconst 0)), (31, 1, some (.ireturn)), (32, 3, some (.iinc 3 1)), (35, 3, some (.goto (-33))), (38, 1, some (.iconst 1)), (39, 1, some (.ireturn))] _ 0 rfl (by decide +kernel)
theorem dX1_isHeard_0 : decode cX1_isHeard 0 = .ok (.iconst 0, 1) := dq_g23.1
theorem dX1_isHeard_1 : decode cX1_isHeard 1 = .ok (.istore_n 3, 1) := dq_g23.2.1
theorem dX1_isHeard_2 : decode cX1_isHeard 2 = .ok (.iload_n 3, 1) := dq_g23.2.2.1
theorem dX1_isHeard_3 : decode cX1_isHeard 3 = .ok (.aload_n 1, 1) := dq_g23.2.2.2.1
theorem dX1_isHeard_4 : decode cX1_isHeard 4 = .ok (.getfield 47, 3) := dq_g23.2.2.2.2.1
theorem dX1_isHeard_7 : decode cX1_isHeard 7 = .ok (.if_icmp .ge 31, 3) := dq_g23.2.2.2.2.2.1
theorem dX1_isHeard_10 : decode cX1_isHeard 10 = .ok (.aload_n 0, 1) := dq_g23.2.2.2.2.2.2.1
theorem dX1_isHeard_11 : decode cX1_isHeard 11 = .ok (.aload_n 1, 1) := dq_g23.2.2.2.2.2.2.2.1
theorem dX1_isHeard_12 : decode cX1_isHeard 12 = .ok (.iload_n 3, 1) := dq_g23.2.2.2.2.2.2.2.2.1
theorem dX1_isHeard_13 : decode cX1_isHeard 13 = .ok (.invokevirtual 97, 3) := dq_g23.2.2.2.2.2.2.2.2.2.1
theorem dX1_isHeard_16 : decode cX1_isHeard 16 = .ok (.aload_n 1, 1) := dq_g23.2.2.2.2.2.2.2.2.2.2.1
theorem dX1_isHeard_17 : decode cX1_isHeard 17 = .ok (.getfield 101, 3) := dq_g23.2.2.2.2.2.2.2.2.2.2.2.1
theorem dX1_isHeard_20 : decode cX1_isHeard 20 = .ok (.iload_n 3, 1) := dq_g23.2.2.2.2.2.2.2.2.2.2.2.2.1
theorem dX1_isHeard_21 : decode cX1_isHeard 21 = .ok (.iaload, 1) := dq_g23.2.2.2.2.2.2.2.2.2.2.2.2.2.1
theorem dX1_isHeard_22 : decode cX1_isHeard 22 = .ok (.isub, 1) := dq_g23.2.2.2.2.2.2.2.2.2.2.2.2.2.2.1
theorem dX1_isHeard_23 : decode cX1_isHeard 23 = .ok (.invokestatic 104, 3) := dq_g23.2.2.2.2.2.2.2.2.2.2.2.2.2.2.2.1
theorem dX1_isHeard_26 : decode cX1_isHeard 26 = .ok (.iload_n 2, 1) := dq_g23.2.2.2.2.2.2.2.2.2.2.2.2.2.2.2.2.1
theorem dX1_isHeard_27 : decode cX1_isHeard 27 = .ok (.if_icmp .le 5, 3) := dq_g23.2.2.2.2.2.2.2.2.2.2.2.2.2.2.2.2.2.1
theorem dX1_isHeard_30 : decode cX1_isHeard 30 = .ok (.iconst 0, 1) := dq_g23.2.2.2.2.2.2.2.2.2.2.2.2.2.2.2.2.2.2.1
theorem dX1_isHeard_31 : decode cX1_isHeard 31 = .ok (.ireturn, 1) := dq_g23.2.2.2.2.2.2.2.2.2.2.2.2.2.2.2.2.2.2.2.1
theorem dX1_isHeard_32 : decode cX1_isHeard 32 = .ok (.iinc 3 1, 3) := dq_g23.2.2.2.2.2.2.2.2.2.2.2.2.2.2.2.2.2.2.2.2.1
theorem dX1_isHeard_35 : decode cX1_isHeard 35 = .ok (.goto (-33), 3) := dq_g23.2.2.2.2.2.2.2.2.2.2.2.2.2.2.2.2.2.2.2.2.2.1
theorem dX1_isHeard_38 : decode cX1_isHeard 38 = .ok (.iconst 1, 1) := dq_g23.2.2.2.2.2.2.2.2.2.2.2.2.2.2.2.2.2.2.2.2.2.2.1
theorem dX1_isHeard_39 : decode cX1_isHeard 39 = .ok (.ireturn, 1) := dq_g23.2.2.2.2.2.2.2.2.2.2.2.2.2.2.2.2.2.2.2.2.2.2.2.1
theorem dq_g24 : decode cX1_sure 0 = .ok (.iconst (-1), 1) ∧ decode cX1_sure 1 = .ok (.istore_n 2, 1) ∧ decode cX1_sure 2 = .ok (.iconst 0, 1) ∧ decode cX1_sure 3 = .ok (.istore_n 3, 1) ∧ decode cX1_sure 4 = .ok (.iload_n 3, 1) ∧ decode cX1_sure 5 = .ok (.aload_n 0, 1) ∧ decode cX1_sure 6 = .ok (.getfield 69, 3) ∧ decode cX1_sure 9 = .ok (.if_icmp .ge 47, 3) ∧ decode cX1_sure 12 = .ok (.aload_n 0, 1) ∧ decode cX1_sure 13 = .ok (.aload_n 0, 1) ∧ decode cX1_sure 14 = .ok (.getfield 21, 3) ∧ decode cX1_sure 17 = .ok (.iload_n 3, 1) ∧ decode cX1_sure 18 = .ok (.iaload, 1) ∧ decode cX1_sure 19 = .ok (.invokevirtual 72, 3) ∧ decode cX1_sure 22 = .ok (.iload_n 2, 1) ∧ decode cX1_sure 23 = .ok (.iconst (-1), 1) ∧ decode cX1_sure 24 = .ok (.if_icmp .eq 17, 3) ∧ decode cX1_sure 27 = .ok (.iload_n 2, 1) ∧ decode cX1_sure 28 = .ok (.aload_n 0, 1) ∧ decode cX1_sure 29 = .ok (.getfield 18, 3) ∧ decode cX1_sure 32 = .ok (.iload_n 1, 1) ∧ decode cX1_sure 33 = .ok (.iaload, 1) ∧ decode cX1_sure 34 = .ok (.iconst 1, 1) ∧ decode cX1_sure 35 = .ok (.iadd, 1) ∧ decode cX1_sure 36 = .ok (.if_icmp .eq 5, 3) ∧ decode cX1_sure 39 = .ok (.iconst (-1), 1) ∧ decode cX1_sure 40 = .ok (.ireturn, 1) ∧ decode cX1_sure 41 = .ok (.aload_n 0, 1) ∧ decode cX1_sure 42 = .ok (.getfield 18, 3) ∧ decode cX1_sure 45 = .ok (.iload_n 1, 1) ∧ True := dqC_ok (c := cX1_sure) [(0, 1, some (.iconst (-1))), (1, 1, some (.istore_n 2)), (2, 1, some (.iconst 0)), (3, 1, some (.istore_n 3)), (4, 1, some (.iload_n 3)), (5, 1, some (.aload_n 0)), (6, 3, some (.getfield 69)), (9, 3, some (.if_icmp .ge 47)), (12, 1, some (.aload_n 0)), (13, 1, some (.aload_n 0)), (14, 3, some (.getfield 21)), (17, 1, some (.iload_n 3)), (18, 1, some (.iaload)), (19, 3, some (.invokevirtual 72)), (22, 1, some (.iload_n 2)), (23, 1, some (.iconst (-1))), (24, 3, some (.if_icmp .eq 17)), (27, 1, some (.iload_n 2)), (28, 1, some (.aload_n 0)), (29, 3, some (.getfield 18)), (32, 1, some (.iload_n 1)), (33, 1, some (.iaload)), (34, 1, some (.iconst 1)), (35, 1, some (.iadd)), (36, 3, some (.if_icmp .eq 5)), (39, 1, some (.iconst (-1))), (40, 1, some (.ireturn)), (41, 1, some (.aload_n 0)), (42, 3, some (.getfield 18)), (45, 1, some (.iload_n 1))] _ 0 rfl (by decide +kernel)
theorem dX1_sure_0 : decode cX1_sure 0 = .ok (.iconst (-1), 1) := dq_g24.1
theorem dX1_sure_1 : decode cX1_sure 1 = .ok (.istore_n 2, 1) := dq_g24.2.1
theorem dX1_sure_2 : decode cX1_sure 2 = .ok (.iconst 0, 1) := dq_g24.2.2.1
theorem dX1_sure_3 : decode cX1_sure 3 = .ok (.istore_n 3, 1) := dq_g24.2.2.2.1
theorem dX1_sure_4 : decode cX1_sure 4 = .ok (.iload_n 3, 1) := dq_g24.2.2.2.2.1
theorem dX1_sure_5 : decode cX1_sure 5 = .ok (.aload_n 0, 1) := dq_g24.2.2.2.2.2.1
theorem dX1_sure_6 : decode cX1_sure 6 = .ok (.getfield 69, 3) := dq_g24.2.2.2.2.2.2.1
theorem dX1_sure_9 : decode cX1_sure 9 = .ok (.if_icmp .ge 47, 3) := dq_g24.2.2.2.2.2.2.2.1
theorem dX1_sure_12 : decode cX1_sure 12 = .ok (.aload_n 0, 1) := dq_g24.2.2.2.2.2.2.2.2.1
theorem dX1_sure_13 : decode cX1_sure 13 = .ok (.aload_n 0, 1) := dq_g24.2.2.2.2.2.2.2.2.2.1
theorem dX1_sure_14 : decode cX1_sure 14 = .ok (.getfield 21, 3) := dq_g24.2.2.2.2.2.2.2.2.2.2.1
theorem dX1_sure_17 : decode cX1_sure 17 = .ok (.iload_n 3, 1) := dq_g24.2.2.2.2.2.2.2.2.2.2.2.1
theorem dX1_sure_18 : decode cX1_sure 18 = .ok (.iaload, 1) := dq_g24.2.2.2.2.2.2.2.2.2.2.2.2.1
theorem dX1_sure_19 : decode cX1_sure 19 = .ok (.invokevirtual 72, 3) := dq_g24.2.2.2.2.2.2.2.2.2.2.2.2.2.1
theorem dX1_sure_22 : decode cX1_sure 22 = .ok (.iload_n 2, 1) := dq_g24.2.2.2.2.2.2.2.2.2.2.2.2.2.2.1
theorem dX1_sure_23 : decode cX1_sure 23 = .ok (.iconst (-1), 1) := dq_g24.2.2.2.2.2.2.2.2.2.2.2.2.2.2.2.1
theorem dX1_sure_24 : decode cX1_sure 24 = .ok (.if_icmp .eq 17, 3) := dq_g24.2.2.2.2.2.2.2.2.2.2.2.2.2.2.2.2.1
theorem dX1_sure_27 : decode cX1_sure 27 = .ok (.iload_n 2, 1) := dq_g24.2.2.2.2.2.2.2.2.2.2.2.2.2.2.2.2.2.1
theorem dX1_sure_28 : decode cX1_sure 28 = .ok (.aload_n 0, 1) := dq_g24.2.2.2.2.2.2.2.2.2.2.2.2.2.2.2.2.2.2.1
theorem dX1_sure_29 : decode cX1_sure 29 = .ok (.getfield 18, 3) := dq_g24.2.2.2.2.2.2.2.2.2.2.2.2.2.2.2.2.2.2.2.1
theorem dX1_sure_32 : decode cX1_sure 32 = .ok (.iload_n 1, 1) := dq_g24.2.2.2.2.2.2.2.2.2.2.2.2.2.2.2.2.2.2.2.2.1
theorem dX1_sure_33 : decode cX1_sure 33 = .ok (.iaload, 1) := dq_g24.2.2.2.2.2.2.2.2.2.2.2.2.2.2.2.2.2.2.2.2.2.1
theorem dX1_sure_34 : decode cX1_sure 34 = .ok (.iconst 1, 1) := dq_g24.2.2.2.2.2.2.2.2.2.2.2.2.2.2.2.2.2.2.2.2.2.2.1
theorem dX1_sure_35 : decode cX1_sure 35 = .ok (.iadd, 1) := dq_g24.2.2.2.2.2.2.2.2.2.2.2.2.2.2.2.2.2.2.2.2.2.2.2.1
theorem dX1_sure_36 : decode cX1_sure 36 = .ok (.if_icmp .eq 5, 3) := dq_g24.2.2.2.2.2.2.2.2.2.2.2.2.2.2.2.2.2.2.2.2.2.2.2.2.1
theorem dX1_sure_39 : decode cX1_sure 39 = .ok (.iconst (-1), 1) := dq_g24.2.2.2.2.2.2.2.2.2.2.2.2.2.2.2.2.2.2.2.2.2.2.2.2.2.1
theorem dX1_sure_40 : decode cX1_sure 40 = .ok (.ireturn, 1) := dq_g24.2.2.2.2.2.2.2.2.2.2.2.2.2.2.2.2.2.2.2.2.2.2.2.2.2.2.1
theorem dX1_sure_41 : decode cX1_sure 41 = .ok (.aload_n 0, 1) := dq_g24.2.2.2.2.2.2.2.2.2.2.2.2.2.2.2.2.2.2.2.2.2.2.2.2.2.2.2.1
theorem dX1_sure_42 : decode cX1_sure 42 = .ok (.getfield 18, 3) := dq_g24.2.2.2.2.2.2.2.2.2.2.2.2.2.2.2.2.2.2.2.2.2.2.2.2.2.2.2.2.1
theorem dX1_sure_45 : decode cX1_sure 45 = .ok (.iload_n 1, 1) := dq_g24.2.2.2.2.2.2.2.2.2.2.2.2.2.2.2.2.2.2.2.2.2.2.2.2.2.2.2.2.2.1
theorem dq_g25 : decode cX1_sure 46 = .ok (.iaload, 1) ∧ decode cX1_sure 47 = .ok (.iconst 1, 1) ∧ decode cX1_sure 48 = .ok (.iadd, 1) ∧ decode cX1_sure 49 = .ok (.istore_n 2, 1) ∧ decode cX1_sure 50 = .ok (.iinc 3 1, 3) ∧ decode cX1_sure 53 = .ok (.goto (-49), 3) ∧ decode cX1_sure 56 = .ok (.iload_n 2, 1) ∧ decode cX1_sure 57 = .ok (.ireturn, 1) ∧ True := dqC_ok (c := cX1_sure) [(46, 1, some (.iaload)), (47, 1, some (.iconst 1)), (48, 1, some (.iadd)), (49, 1, some (.istore_n 2)), (50, 3, some (.iinc 3 1)), (53, 3, some (.goto (-49))), (56, 1, some (.iload_n 2)), (57, 1, some (.ireturn))] _ 46 rfl (by decide +kernel)
theorem dX1_sure_46 : decode cX1_sure 46 = .ok (.iaload, 1) := dq_g25.1
theorem dX1_sure_47 : decode cX1_sure 47 = .ok (.iconst 1, 1) := dq_g25.2.1
theorem dX1_sure_48 : decode cX1_sure 48 = .ok (.iadd, 1) := dq_g25.2.2.1
theorem dX1_sure_49 : decode cX1_sure 49 = .ok (.istore_n 2, 1) := dq_g25.2.2.2.1
theorem dX1_sure_50 : decode cX1_sure 50 = .ok (.iinc 3 1, 3) := dq_g25.2.2.2.2.1
theorem dX1_sure_53 : decode cX1_sure 53 = .ok (.goto (-49), 3) := dq_g25.2.2.2.2.2.1
theorem dX1_sure_56 : decode cX1_sure 56 = .ok (.iload_n 2, 1) := dq_g25.2.2.2.2.2.2.1
theorem dX1_sure_57 : decode cX1_sure 57 = .ok (.ireturn, 1) := dq_g25.2.2.2.2.2.2.2.1
theorem dq_g26 : decode cX1_nextPass 0 = .ok (.iconst (-1), 1) ∧ decode cX1_nextPass 1 = .ok (.istore 4, 2) ∧ decode cX1_nextPass 3 = .ok (.iconst 0, 1) ∧ decode cX1_nextPass 4 = .ok (.istore 5, 2) ∧ decode cX1_nextPass 6 = .ok (.iconst 0, 1) ∧ decode cX1_nextPass 7 = .ok (.istore 6, 2) ∧ decode cX1_nextPass 9 = .ok (.iload 6, 2) ∧ decode cX1_nextPass 11 = .ok (.aload_n 3, 1) ∧ decode cX1_nextPass 12 = .ok (.getfield 66, 3) ∧ decode cX1_nextPass 15 = .ok (.if_icmp .ge 46, 3) ∧ decode cX1_nextPass 18 = .ok (.aload_n 3, 1) ∧ decode cX1_nextPass 19 = .ok (.getfield 108, 3) ∧ decode cX1_nextPass 22 = .ok (.iload 6, 2) ∧ decode cX1_nextPass 24 = .ok (.iaload, 1) ∧ decode cX1_nextPass 25 = .ok (.iconst 1, 1) ∧ decode cX1_nextPass 26 = .ok (.if_icmp .le 29, 3) ∧ decode cX1_nextPass 29 = .ok (.aload_n 0, 1) ∧ decode cX1_nextPass 30 = .ok (.aload_n 1, 1) ∧ decode cX1_nextPass 31 = .ok (.aload_n 2, 1) ∧ decode cX1_nextPass 32 = .ok (.aload_n 3, 1) ∧ decode cX1_nextPass 33 = .ok (.iload 6, 2) ∧ decode cX1_nextPass 35 = .ok (.invokevirtual 111, 3) ∧ decode cX1_nextPass 38 = .ok (.istore 7, 2) ∧ decode cX1_nextPass 40 = .ok (.iload 7, 2) ∧ decode cX1_nextPass 42 = .ok (.iload 5, 2) ∧ decode cX1_nextPass 44 = .ok (.if_icmp .le 11, 3) ∧ decode cX1_nextPass 47 = .ok (.iload 7, 2) ∧ decode cX1_nextPass 49 = .ok (.istore 5, 2) ∧ decode cX1_nextPass 51 = .ok (.iload 6, 2) ∧ decode cX1_nextPass 53 = .ok (.istore 4, 2) ∧ True := dqC_ok (c := cX1_nextPass) [(0, 1, some (.iconst (-1))), (1, 2, some (.istore 4)), (3, 1, some (.iconst 0)), (4, 2, some (.istore 5)), (6, 1, some (.iconst 0)), (7, 2, some (.istore 6)), (9, 2, some (.iload 6)), (11, 1, some (.aload_n 3)), (12, 3, some (.getfield 66)), (15, 3, some (.if_icmp .ge 46)), (18, 1, some (.aload_n 3)), (19, 3, some (.getfield 108)), (22, 2, some (.iload 6)), (24, 1, some (.iaload)), (25, 1, some (.iconst 1)), (26, 3, some (.if_icmp .le 29)), (29, 1, some (.aload_n 0)), (30, 1, some (.aload_n 1)), (31, 1, some (.aload_n 2)), (32, 1, some (.aload_n 3)), (33, 2, some (.iload 6)), (35, 3, some (.invokevirtual 111)), (38, 2, some (.istore 7)), (40, 2, some (.iload 7)), (42, 2, some (.iload 5)), (44, 3, some (.if_icmp .le 11)), (47, 2, some (.iload 7)), (49, 2, some (.istore 5)), (51, 2, some (.iload 6)), (53, 2, some (.istore 4))] _ 0 rfl (by decide +kernel)
theorem dX1_nextPass_0 : decode cX1_nextPass 0 = .ok (.iconst (-1), 1) := dq_g26.1
theorem dX1_nextPass_1 : decode cX1_nextPass 1 = .ok (.istore 4, 2) := dq_g26.2.1
theorem dX1_nextPass_3 : decode cX1_nextPass 3 = .ok (.iconst 0, 1) := dq_g26.2.2.1
theorem dX1_nextPass_4 : decode cX1_nextPass 4 = .ok (.istore 5, 2) := dq_g26.2.2.2.1
theorem dX1_nextPass_6 : decode cX1_nextPass 6 = .ok (.iconst 0, 1) := dq_g26.2.2.2.2.1
theorem dX1_nextPass_7 : decode cX1_nextPass 7 = .ok (.istore 6, 2) := dq_g26.2.2.2.2.2.1
theorem dX1_nextPass_9 : decode cX1_nextPass 9 = .ok (.iload 6, 2) := dq_g26.2.2.2.2.2.2.1
theorem dX1_nextPass_11 : decode cX1_nextPass 11 = .ok (.aload_n 3, 1) := dq_g26.2.2.2.2.2.2.2.1
theorem dX1_nextPass_12 : decode cX1_nextPass 12 = .ok (.getfield 66, 3) := dq_g26.2.2.2.2.2.2.2.2.1
theorem dX1_nextPass_15 : decode cX1_nextPass 15 = .ok (.if_icmp .ge 46, 3) := dq_g26.2.2.2.2.2.2.2.2.2.1
theorem dX1_nextPass_18 : decode cX1_nextPass 18 = .ok (.aload_n 3, 1) := dq_g26.2.2.2.2.2.2.2.2.2.2.1
theorem dX1_nextPass_19 : decode cX1_nextPass 19 = .ok (.getfield 108, 3) := dq_g26.2.2.2.2.2.2.2.2.2.2.2.1
theorem dX1_nextPass_22 : decode cX1_nextPass 22 = .ok (.iload 6, 2) := dq_g26.2.2.2.2.2.2.2.2.2.2.2.2.1
theorem dX1_nextPass_24 : decode cX1_nextPass 24 = .ok (.iaload, 1) := dq_g26.2.2.2.2.2.2.2.2.2.2.2.2.2.1
theorem dX1_nextPass_25 : decode cX1_nextPass 25 = .ok (.iconst 1, 1) := dq_g26.2.2.2.2.2.2.2.2.2.2.2.2.2.2.1
theorem dX1_nextPass_26 : decode cX1_nextPass 26 = .ok (.if_icmp .le 29, 3) := dq_g26.2.2.2.2.2.2.2.2.2.2.2.2.2.2.2.1
theorem dX1_nextPass_29 : decode cX1_nextPass 29 = .ok (.aload_n 0, 1) := dq_g26.2.2.2.2.2.2.2.2.2.2.2.2.2.2.2.2.1
theorem dX1_nextPass_30 : decode cX1_nextPass 30 = .ok (.aload_n 1, 1) := dq_g26.2.2.2.2.2.2.2.2.2.2.2.2.2.2.2.2.2.1
theorem dX1_nextPass_31 : decode cX1_nextPass 31 = .ok (.aload_n 2, 1) := dq_g26.2.2.2.2.2.2.2.2.2.2.2.2.2.2.2.2.2.2.1
theorem dX1_nextPass_32 : decode cX1_nextPass 32 = .ok (.aload_n 3, 1) := dq_g26.2.2.2.2.2.2.2.2.2.2.2.2.2.2.2.2.2.2.2.1
theorem dX1_nextPass_33 : decode cX1_nextPass 33 = .ok (.iload 6, 2) := dq_g26.2.2.2.2.2.2.2.2.2.2.2.2.2.2.2.2.2.2.2.2.1
theorem dX1_nextPass_35 : decode cX1_nextPass 35 = .ok (.invokevirtual 111, 3) := dq_g26.2.2.2.2.2.2.2.2.2.2.2.2.2.2.2.2.2.2.2.2.2.1
theorem dX1_nextPass_38 : decode cX1_nextPass 38 = .ok (.istore 7, 2) := dq_g26.2.2.2.2.2.2.2.2.2.2.2.2.2.2.2.2.2.2.2.2.2.2.1
theorem dX1_nextPass_40 : decode cX1_nextPass 40 = .ok (.iload 7, 2) := dq_g26.2.2.2.2.2.2.2.2.2.2.2.2.2.2.2.2.2.2.2.2.2.2.2.1
theorem dX1_nextPass_42 : decode cX1_nextPass 42 = .ok (.iload 5, 2) := dq_g26.2.2.2.2.2.2.2.2.2.2.2.2.2.2.2.2.2.2.2.2.2.2.2.2.1
theorem dX1_nextPass_44 : decode cX1_nextPass 44 = .ok (.if_icmp .le 11, 3) := dq_g26.2.2.2.2.2.2.2.2.2.2.2.2.2.2.2.2.2.2.2.2.2.2.2.2.2.1
theorem dX1_nextPass_47 : decode cX1_nextPass 47 = .ok (.iload 7, 2) := dq_g26.2.2.2.2.2.2.2.2.2.2.2.2.2.2.2.2.2.2.2.2.2.2.2.2.2.2.1
theorem dX1_nextPass_49 : decode cX1_nextPass 49 = .ok (.istore 5, 2) := dq_g26.2.2.2.2.2.2.2.2.2.2.2.2.2.2.2.2.2.2.2.2.2.2.2.2.2.2.2.1
theorem dX1_nextPass_51 : decode cX1_nextPass 51 = .ok (.iload 6, 2) := dq_g26.2.2.2.2.2.2.2.2.2.2.2.2.2.2.2.2.2.2.2.2.2.2.2.2.2.2.2.2.1
theorem dX1_nextPass_53 : decode cX1_nextPass 53 = .ok (.istore 4, 2) := dq_g26.2.2.2.2.2.2.2.2.2.2.2.2.2.2.2.2.2.2.2.2.2.2.2.2.2.2.2.2.2.1
theorem dq_g27 : decode cX1_nextPass 55 = .ok (.iinc 6 1, 3) ∧ decode cX1_nextPass 58 = .ok (.goto (-49), 3) ∧ decode cX1_nextPass 61 = .ok (.iload 4, 2) ∧ decode cX1_nextPass 63 = .ok (.ireturn, 1) ∧ True := dqC_ok (c := cX1_nextPass) [(55, 3, some (.iinc 6 1)), (58, 3, some (.goto (-49))), (61, 2, some (.iload 4)), (63, 1, some (.ireturn))] _ 55 rfl (by decide +kernel)
theorem dX1_nextPass_55 : decode cX1_nextPass 55 = .ok (.iinc 6 1, 3) := dq_g27.1
theorem dX1_nextPass_58 : decode cX1_nextPass 58 = .ok (.goto (-49), 3) := dq_g27.2.1
theorem dX1_nextPass_61 : decode cX1_nextPass 61 = .ok (.iload 4, 2) := dq_g27.2.2.1
theorem dX1_nextPass_63 : decode cX1_nextPass 63 = .ok (.ireturn, 1) := dq_g27.2.2.2.1
theorem dq_g28 : decode cX1_countUnlike 0 = .ok (.aload_n 3, 1) ∧ decode cX1_countUnlike 1 = .ok (.aload_n 0, 1) ∧ decode cX1_countUnlike 2 = .ok (.getfield 24, 3) ∧ decode cX1_countUnlike 5 = .ok (.iload 4, 2) ∧ decode cX1_countUnlike 7 = .ok (.invokevirtual 115, 3) ∧ decode cX1_countUnlike 10 = .ok (.aload_n 0, 1) ∧ decode cX1_countUnlike 11 = .ok (.aload_n 1, 1) ∧ decode cX1_countUnlike 12 = .ok (.aload_n 2, 1) ∧ decode cX1_countUnlike 13 = .ok (.aload_n 3, 1) ∧ decode cX1_countUnlike 14 = .ok (.iconst 0, 1) ∧ decode cX1_countUnlike 15 = .ok (.iconst 0, 1) ∧ decode cX1_countUnlike 16 = .ok (.aload_n 0, 1) ∧ decode cX1_countUnlike 17 = .ok (.getfield 24, 3) ∧ decode cX1_countUnlike 20 = .ok (.aload_n 3, 1) ∧ decode cX1_countUnlike 21 = .ok (.getfield 119, 3) ∧ decode cX1_countUnlike 24 = .ok (.invokevirtual 62, 3) ∧ decode cX1_countUnlike 27 = .ok (.aload_n 0, 1) ∧ decode cX1_countUnlike 28 = .ok (.getfield 30, 3) ∧ decode cX1_countUnlike 31 = .ok (.invokevirtual 122, 3) ∧ decode cX1_countUnlike 34 = .ok (.iconst 0, 1) ∧ decode cX1_countUnlike 35 = .ok (.istore 5, 2) ∧ decode cX1_countUnlike 37 = .ok (.iload 5, 2) ∧ decode cX1_countUnlike 39 = .ok (.aload_n 0, 1) ∧ decode cX1_countUnlike 40 = .ok (.getfield 69, 3) ∧ decode cX1_countUnlike 43 = .ok (.if_icmp .ge 34, 3) ∧ decode cX1_countUnlike 46 = .ok (.aload_n 0, 1) ∧ decode cX1_countUnlike 47 = .ok (.aload_n 0, 1) ∧ decode cX1_countUnlike 48 = .ok (.getfield 21, 3) ∧ decode cX1_countUnlike 51 = .ok (.iload 5, 2) ∧ decode cX1_countUnlike 53 = .ok (.iaload, 1) ∧ True := dqC_ok (c := cX1_countUnlike) [(0, 1, some (.aload_n 3)), (1, 1, some (.aload_n 0)), (2, 3, some (.getfield 24)), (5, 2, some (.iload 4)), (7, 3, some (.invokevirtual 115)), (10, 1, some (.aload_n 0)), (11, 1, some (.aload_n 1)), (12, 1, some (.aload_n 2)), (13, 1, some (.aload_n 3)), (14, 1, some (.iconst 0)), (15, 1, some (.iconst 0)), (16, 1, some (.aload_n 0)), (17, 3, some (.getfield 24)), (20, 1, some (.aload_n 3)), (21, 3, some (.getfield 119)), (24, 3, some (.invokevirtual 62)), (27, 1, some (.aload_n 0)), (28, 3, some (.getfield 30)), (31, 3, some (.invokevirtual 122)), (34, 1, some (.iconst 0)), (35, 2, some (.istore 5)), (37, 2, some (.iload 5)), (39, 1, some (.aload_n 0)), (40, 3, some (.getfield 69)), (43, 3, some (.if_icmp .ge 34)), (46, 1, some (.aload_n 0)), (47, 1, some (.aload_n 0)), (48, 3, some (.getfield 21)), (51, 2, some (.iload 5)), (53, 1, some (.iaload))] _ 0 rfl (by decide +kernel)
theorem dX1_countUnlike_0 : decode cX1_countUnlike 0 = .ok (.aload_n 3, 1) := dq_g28.1
theorem dX1_countUnlike_1 : decode cX1_countUnlike 1 = .ok (.aload_n 0, 1) := dq_g28.2.1
theorem dX1_countUnlike_2 : decode cX1_countUnlike 2 = .ok (.getfield 24, 3) := dq_g28.2.2.1
theorem dX1_countUnlike_5 : decode cX1_countUnlike 5 = .ok (.iload 4, 2) := dq_g28.2.2.2.1
theorem dX1_countUnlike_7 : decode cX1_countUnlike 7 = .ok (.invokevirtual 115, 3) := dq_g28.2.2.2.2.1
theorem dX1_countUnlike_10 : decode cX1_countUnlike 10 = .ok (.aload_n 0, 1) := dq_g28.2.2.2.2.2.1
theorem dX1_countUnlike_11 : decode cX1_countUnlike 11 = .ok (.aload_n 1, 1) := dq_g28.2.2.2.2.2.2.1
theorem dX1_countUnlike_12 : decode cX1_countUnlike 12 = .ok (.aload_n 2, 1) := dq_g28.2.2.2.2.2.2.2.1
theorem dX1_countUnlike_13 : decode cX1_countUnlike 13 = .ok (.aload_n 3, 1) := dq_g28.2.2.2.2.2.2.2.2.1
theorem dX1_countUnlike_14 : decode cX1_countUnlike 14 = .ok (.iconst 0, 1) := dq_g28.2.2.2.2.2.2.2.2.2.1
theorem dX1_countUnlike_15 : decode cX1_countUnlike 15 = .ok (.iconst 0, 1) := dq_g28.2.2.2.2.2.2.2.2.2.2.1
theorem dX1_countUnlike_16 : decode cX1_countUnlike 16 = .ok (.aload_n 0, 1) := dq_g28.2.2.2.2.2.2.2.2.2.2.2.1
theorem dX1_countUnlike_17 : decode cX1_countUnlike 17 = .ok (.getfield 24, 3) := dq_g28.2.2.2.2.2.2.2.2.2.2.2.2.1
theorem dX1_countUnlike_20 : decode cX1_countUnlike 20 = .ok (.aload_n 3, 1) := dq_g28.2.2.2.2.2.2.2.2.2.2.2.2.2.1
theorem dX1_countUnlike_21 : decode cX1_countUnlike 21 = .ok (.getfield 119, 3) := dq_g28.2.2.2.2.2.2.2.2.2.2.2.2.2.2.1
theorem dX1_countUnlike_24 : decode cX1_countUnlike 24 = .ok (.invokevirtual 62, 3) := dq_g28.2.2.2.2.2.2.2.2.2.2.2.2.2.2.2.1
theorem dX1_countUnlike_27 : decode cX1_countUnlike 27 = .ok (.aload_n 0, 1) := dq_g28.2.2.2.2.2.2.2.2.2.2.2.2.2.2.2.2.1
theorem dX1_countUnlike_28 : decode cX1_countUnlike 28 = .ok (.getfield 30, 3) := dq_g28.2.2.2.2.2.2.2.2.2.2.2.2.2.2.2.2.2.1
theorem dX1_countUnlike_31 : decode cX1_countUnlike 31 = .ok (.invokevirtual 122, 3) := dq_g28.2.2.2.2.2.2.2.2.2.2.2.2.2.2.2.2.2.2.1
theorem dX1_countUnlike_34 : decode cX1_countUnlike 34 = .ok (.iconst 0, 1) := dq_g28.2.2.2.2.2.2.2.2.2.2.2.2.2.2.2.2.2.2.2.1
theorem dX1_countUnlike_35 : decode cX1_countUnlike 35 = .ok (.istore 5, 2) := dq_g28.2.2.2.2.2.2.2.2.2.2.2.2.2.2.2.2.2.2.2.2.1
theorem dX1_countUnlike_37 : decode cX1_countUnlike 37 = .ok (.iload 5, 2) := dq_g28.2.2.2.2.2.2.2.2.2.2.2.2.2.2.2.2.2.2.2.2.2.1
theorem dX1_countUnlike_39 : decode cX1_countUnlike 39 = .ok (.aload_n 0, 1) := dq_g28.2.2.2.2.2.2.2.2.2.2.2.2.2.2.2.2.2.2.2.2.2.2.1
theorem dX1_countUnlike_40 : decode cX1_countUnlike 40 = .ok (.getfield 69, 3) := dq_g28.2.2.2.2.2.2.2.2.2.2.2.2.2.2.2.2.2.2.2.2.2.2.2.1
theorem dX1_countUnlike_43 : decode cX1_countUnlike 43 = .ok (.if_icmp .ge 34, 3) := dq_g28.2.2.2.2.2.2.2.2.2.2.2.2.2.2.2.2.2.2.2.2.2.2.2.2.1
theorem dX1_countUnlike_46 : decode cX1_countUnlike 46 = .ok (.aload_n 0, 1) := dq_g28.2.2.2.2.2.2.2.2.2.2.2.2.2.2.2.2.2.2.2.2.2.2.2.2.2.1
theorem dX1_countUnlike_47 : decode cX1_countUnlike 47 = .ok (.aload_n 0, 1) := dq_g28.2.2.2.2.2.2.2.2.2.2.2.2.2.2.2.2.2.2.2.2.2.2.2.2.2.2.1
theorem dX1_countUnlike_48 : decode cX1_countUnlike 48 = .ok (.getfield 21, 3) := dq_g28.2.2.2.2.2.2.2.2.2.2.2.2.2.2.2.2.2.2.2.2.2.2.2.2.2.2.2.1
theorem dX1_countUnlike_51 : decode cX1_countUnlike 51 = .ok (.iload 5, 2) := dq_g28.2.2.2.2.2.2.2.2.2.2.2.2.2.2.2.2.2.2.2.2.2.2.2.2.2.2.2.2.1
theorem dX1_countUnlike_53 : decode cX1_countUnlike 53 = .ok (.iaload, 1) := dq_g28.2.2.2.2.2.2.2.2.2.2.2.2.2.2.2.2.2.2.2.2.2.2.2.2.2.2.2.2.2.1
theorem dq_g29 : decode cX1_countUnlike 54 = .ok (.invokevirtual 72, 3) ∧ decode cX1_countUnlike 57 = .ok (.aload_n 0, 1) ∧ decode cX1_countUnlike 58 = .ok (.getfield 30, 3) ∧ decode cX1_countUnlike 61 = .ok (.aload_n 0, 1) ∧ decode cX1_countUnlike 62 = .ok (.aload_n 3, 1) ∧ decode cX1_countUnlike 63 = .ok (.iconst 0, 1) ∧ decode cX1_countUnlike 64 = .ok (.invokevirtual 97, 3) ∧ decode cX1_countUnlike 67 = .ok (.invokevirtual 125, 3) ∧ decode cX1_countUnlike 70 = .ok (.pop, 1) ∧ decode cX1_countUnlike 71 = .ok (.iinc 5 1, 3) ∧ decode cX1_countUnlike 74 = .ok (.goto (-37), 3) ∧ decode cX1_countUnlike 77 = .ok (.aload_n 0, 1) ∧ decode cX1_countUnlike 78 = .ok (.getfield 30, 3) ∧ decode cX1_countUnlike 81 = .ok (.getfield 129, 3) ∧ decode cX1_countUnlike 84 = .ok (.ireturn, 1) ∧ True := dqC_ok (c := cX1_countUnlike) [(54, 3, some (.invokevirtual 72)), (57, 1, some (.aload_n 0)), (58, 3, some (.getfield 30)), (61, 1, some (.aload_n 0)), (62, 1, some (.aload_n 3)), (63, 1, some (.iconst 0)), (64, 3, some (.invokevirtual 97)), (67, 3, some (.invokevirtual 125)), (70, 1, some (.pop)), (71, 3, some (.iinc 5 1)), (74, 3, some (.goto (-37))), (77, 1, some (.aload_n 0)), (78, 3, some (.getfield 30)), (81, 3, some (.getfield 129)), (84, 1, some (.ireturn))] _ 54 rfl (by decide +kernel)
theorem dX1_countUnlike_54 : decode cX1_countUnlike 54 = .ok (.invokevirtual 72, 3) := dq_g29.1
theorem dX1_countUnlike_57 : decode cX1_countUnlike 57 = .ok (.aload_n 0, 1) := dq_g29.2.1
theorem dX1_countUnlike_58 : decode cX1_countUnlike 58 = .ok (.getfield 30, 3) := dq_g29.2.2.1
theorem dX1_countUnlike_61 : decode cX1_countUnlike 61 = .ok (.aload_n 0, 1) := dq_g29.2.2.2.1
theorem dX1_countUnlike_62 : decode cX1_countUnlike 62 = .ok (.aload_n 3, 1) := dq_g29.2.2.2.2.1
theorem dX1_countUnlike_63 : decode cX1_countUnlike 63 = .ok (.iconst 0, 1) := dq_g29.2.2.2.2.2.1
theorem dX1_countUnlike_64 : decode cX1_countUnlike 64 = .ok (.invokevirtual 97, 3) := dq_g29.2.2.2.2.2.2.1
theorem dX1_countUnlike_67 : decode cX1_countUnlike 67 = .ok (.invokevirtual 125, 3) := dq_g29.2.2.2.2.2.2.2.1
theorem dX1_countUnlike_70 : decode cX1_countUnlike 70 = .ok (.pop, 1) := dq_g29.2.2.2.2.2.2.2.2.1
theorem dX1_countUnlike_71 : decode cX1_countUnlike 71 = .ok (.iinc 5 1, 3) := dq_g29.2.2.2.2.2.2.2.2.2.1
theorem dX1_countUnlike_74 : decode cX1_countUnlike 74 = .ok (.goto (-37), 3) := dq_g29.2.2.2.2.2.2.2.2.2.2.1
theorem dX1_countUnlike_77 : decode cX1_countUnlike 77 = .ok (.aload_n 0, 1) := dq_g29.2.2.2.2.2.2.2.2.2.2.2.1
theorem dX1_countUnlike_78 : decode cX1_countUnlike 78 = .ok (.getfield 30, 3) := dq_g29.2.2.2.2.2.2.2.2.2.2.2.2.1
theorem dX1_countUnlike_81 : decode cX1_countUnlike 81 = .ok (.getfield 129, 3) := dq_g29.2.2.2.2.2.2.2.2.2.2.2.2.2.1
theorem dX1_countUnlike_84 : decode cX1_countUnlike 84 = .ok (.ireturn, 1) := dq_g29.2.2.2.2.2.2.2.2.2.2.2.2.2.2.1
theorem dq_g30 : decode cX2_init 0 = .ok (.aload_n 0, 1) ∧ decode cX2_init 1 = .ok (.invokespecial 1, 3) ∧ decode cX2_init 4 = .ok (.aload_n 0, 1) ∧ decode cX2_init 5 = .ok (.sipush 2048, 3) ∧ decode cX2_init 10 = .ok (.putfield 9, 3) ∧ decode cX2_init 13 = .ok (.return_, 1) ∧ True := dqC_ok (c := cX2_init) [(0, 1, some (.aload_n 0)), (1, 3, some (.invokespecial 1)), (4, 1, some (.aload_n 0)), (5, 3, some (.sipush 2048)), (8, 2, none), (10, 3, some (.putfield 9)), (13, 1, some (.return_))] _ 0 rfl (by decide +kernel)
theorem dX2_init_0 : decode cX2_init 0 = .ok (.aload_n 0, 1) := dq_g30.1
theorem dX2_init_1 : decode cX2_init 1 = .ok (.invokespecial 1, 3) := dq_g30.2.1
theorem dX2_init_4 : decode cX2_init 4 = .ok (.aload_n 0, 1) := dq_g30.2.2.1
theorem dX2_init_5 : decode cX2_init 5 = .ok (.sipush 2048, 3) := dq_g30.2.2.2.1
theorem dX2_init_10 : decode cX2_init 10 = .ok (.putfield 9, 3) := dq_g30.2.2.2.2.1
theorem dX2_init_13 : decode cX2_init 13 = .ok (.return_, 1) := dq_g30.2.2.2.2.2.1
theorem dX2_init_8 : decode cX2_init 8 = .ok (.newarray .int, 2) := by decide +kernel
theorem dq_g31 : decode cX2_clear 0 = .ok (.aload_n 0, 1) ∧ decode cX2_clear 1 = .ok (.getfield 13, 3) ∧ decode cX2_clear 4 = .ok (.ifCond .le 16, 3) ∧ decode cX2_clear 7 = .ok (.aload_n 0, 1) ∧ decode cX2_clear 8 = .ok (.getfield 9, 3) ∧ decode cX2_clear 11 = .ok (.iconst 0, 1) ∧ decode cX2_clear 12 = .ok (.invokestatic 17, 3) ∧ decode cX2_clear 15 = .ok (.aload_n 0, 1) ∧ decode cX2_clear 16 = .ok (.iconst 0, 1) ∧ decode cX2_clear 17 = .ok (.putfield 13, 3) ∧ decode cX2_clear 20 = .ok (.return_, 1) ∧ True := dqC_ok (c := cX2_clear) [(0, 1, some (.aload_n 0)), (1, 3, some (.getfield 13)), (4, 3, some (.ifCond .le 16)), (7, 1, some (.aload_n 0)), (8, 3, some (.getfield 9)), (11, 1, some (.iconst 0)), (12, 3, some (.invokestatic 17)), (15, 1, some (.aload_n 0)), (16, 1, some (.iconst 0)), (17, 3, some (.putfield 13)), (20, 1, some (.return_))] _ 0 rfl (by decide +kernel)
theorem dX2_clear_0 : decode cX2_clear 0 = .ok (.aload_n 0, 1) := dq_g31.1
theorem dX2_clear_1 : decode cX2_clear 1 = .ok (.getfield 13, 3) := dq_g31.2.1
theorem dX2_clear_4 : decode cX2_clear 4 = .ok (.ifCond .le 16, 3) := dq_g31.2.2.1
theorem dX2_clear_7 : decode cX2_clear 7 = .ok (.aload_n 0, 1) := dq_g31.2.2.2.1
theorem dX2_clear_8 : decode cX2_clear 8 = .ok (.getfield 9, 3) := dq_g31.2.2.2.2.1
theorem dX2_clear_11 : decode cX2_clear 11 = .ok (.iconst 0, 1) := dq_g31.2.2.2.2.2.1
theorem dX2_clear_12 : decode cX2_clear 12 = .ok (.invokestatic 17, 3) := dq_g31.2.2.2.2.2.2.1
theorem dX2_clear_15 : decode cX2_clear 15 = .ok (.aload_n 0, 1) := dq_g31.2.2.2.2.2.2.2.1
theorem dX2_clear_16 : decode cX2_clear 16 = .ok (.iconst 0, 1) := dq_g31.2.2.2.2.2.2.2.2.1
theorem dX2_clear_17 : decode cX2_clear 17 = .ok (.putfield 13, 3) := dq_g31.2.2.2.2.2.2.2.2.2.1
theorem dX2_clear_20 : decode cX2_clear 20 = .ok (.return_, 1) := dq_g31.2.2.2.2.2.2.2.2.2.2.1
theorem dq_g32 : decode cX2_add 0 = .ok (.iload_n 1, 1) ∧ decode cX2_add 1 = .ok (.ldc 23, 2) ∧ decode cX2_add 3 = .ok (.imul, 1) ∧ decode cX2_add 4 = .ok (.bipush 21, 2) ∧ decode cX2_add 6 = .ok (.iushr, 1) ∧ decode cX2_add 7 = .ok (.istore_n 2, 1) ∧ decode cX2_add 8 = .ok (.iconst 0, 1) ∧ decode cX2_add 9 = .ok (.istore_n 3, 1) ∧ decode cX2_add 10 = .ok (.iload_n 3, 1) ∧ decode cX2_add 11 = .ok (.sipush 2048, 3) ∧ decode cX2_add 14 = .ok (.if_icmp .ge 61, 3) ∧ decode cX2_add 17 = .ok (.aload_n 0, 1) ∧ decode cX2_add 18 = .ok (.getfield 9, 3) ∧ decode cX2_add 21 = .ok (.iload_n 2, 1) ∧ decode cX2_add 22 = .ok (.iaload, 1) ∧ decode cX2_add 23 = .ok (.iload_n 1, 1) ∧ decode cX2_add 24 = .ok (.iconst 1, 1) ∧ decode cX2_add 25 = .ok (.iadd, 1) ∧ decode cX2_add 26 = .ok (.if_icmp .ne 5, 3) ∧ decode cX2_add 29 = .ok (.iconst 0, 1) ∧ decode cX2_add 30 = .ok (.ireturn, 1) ∧ decode cX2_add 31 = .ok (.aload_n 0, 1) ∧ decode cX2_add 32 = .ok (.getfield 9, 3) ∧ decode cX2_add 35 = .ok (.iload_n 2, 1) ∧ decode cX2_add 36 = .ok (.iaload, 1) ∧ decode cX2_add 37 = .ok (.ifCond .ne 24, 3) ∧ decode cX2_add 40 = .ok (.aload_n 0, 1) ∧ decode cX2_add 41 = .ok (.getfield 9, 3) ∧ decode cX2_add 44 = .ok (.iload_n 2, 1) ∧ decode cX2_add 45 = .ok (.iload_n 1, 1) ∧ True := dqC_ok (c := cX2_add) [(0, 1, some (.iload_n 1)), (1, 2, some (.ldc 23)), (3, 1, some (.imul)), (4, 2, some (.bipush 21)), (6, 1, some (.iushr)), (7, 1, some (.istore_n 2)), (8, 1, some (.iconst 0)), (9, 1, some (.istore_n 3)), (10, 1, some (.iload_n 3)), (11, 3, some (.sipush 2048)), (14, 3, some (.if_icmp .ge 61)), (17, 1, some (.aload_n 0)), (18, 3, some (.getfield 9)), (21, 1, some (.iload_n 2)), (22, 1, some (.iaload)), (23, 1, some (.iload_n 1)), (24, 1, some (.iconst 1)), (25, 1, some (.iadd)), (26, 3, some (.if_icmp .ne 5)), (29, 1, some (.iconst 0)), (30, 1, some (.ireturn)), (31, 1, some (.aload_n 0)), (32, 3, some (.getfield 9)), (35, 1, some (.iload_n 2)), (36, 1, some (.iaload)), (37, 3, some (.ifCond .ne 24)), (40, 1, some (.aload_n 0)), (41, 3, some (.getfield 9)), (44, 1, some (.iload_n 2)), (45, 1, some (.iload_n 1))] _ 0 rfl (by decide +kernel)
theorem dX2_add_0 : decode cX2_add 0 = .ok (.iload_n 1, 1) := dq_g32.1
theorem dX2_add_1 : decode cX2_add 1 = .ok (.ldc 23, 2) := dq_g32.2.1
theorem dX2_add_3 : decode cX2_add 3 = .ok (.imul, 1) := dq_g32.2.2.1
theorem dX2_add_4 : decode cX2_add 4 = .ok (.bipush 21, 2) := dq_g32.2.2.2.1
theorem dX2_add_6 : decode cX2_add 6 = .ok (.iushr, 1) := dq_g32.2.2.2.2.1
theorem dX2_add_7 : decode cX2_add 7 = .ok (.istore_n 2, 1) := dq_g32.2.2.2.2.2.1
theorem dX2_add_8 : decode cX2_add 8 = .ok (.iconst 0, 1) := dq_g32.2.2.2.2.2.2.1
theorem dX2_add_9 : decode cX2_add 9 = .ok (.istore_n 3, 1) := dq_g32.2.2.2.2.2.2.2.1
theorem dX2_add_10 : decode cX2_add 10 = .ok (.iload_n 3, 1) := dq_g32.2.2.2.2.2.2.2.2.1
theorem dX2_add_11 : decode cX2_add 11 = .ok (.sipush 2048, 3) := dq_g32.2.2.2.2.2.2.2.2.2.1
theorem dX2_add_14 : decode cX2_add 14 = .ok (.if_icmp .ge 61, 3) := dq_g32.2.2.2.2.2.2.2.2.2.2.1
theorem dX2_add_17 : decode cX2_add 17 = .ok (.aload_n 0, 1) := dq_g32.2.2.2.2.2.2.2.2.2.2.2.1
theorem dX2_add_18 : decode cX2_add 18 = .ok (.getfield 9, 3) := dq_g32.2.2.2.2.2.2.2.2.2.2.2.2.1
theorem dX2_add_21 : decode cX2_add 21 = .ok (.iload_n 2, 1) := dq_g32.2.2.2.2.2.2.2.2.2.2.2.2.2.1
theorem dX2_add_22 : decode cX2_add 22 = .ok (.iaload, 1) := dq_g32.2.2.2.2.2.2.2.2.2.2.2.2.2.2.1
theorem dX2_add_23 : decode cX2_add 23 = .ok (.iload_n 1, 1) := dq_g32.2.2.2.2.2.2.2.2.2.2.2.2.2.2.2.1
theorem dX2_add_24 : decode cX2_add 24 = .ok (.iconst 1, 1) := dq_g32.2.2.2.2.2.2.2.2.2.2.2.2.2.2.2.2.1
theorem dX2_add_25 : decode cX2_add 25 = .ok (.iadd, 1) := dq_g32.2.2.2.2.2.2.2.2.2.2.2.2.2.2.2.2.2.1
theorem dX2_add_26 : decode cX2_add 26 = .ok (.if_icmp .ne 5, 3) := dq_g32.2.2.2.2.2.2.2.2.2.2.2.2.2.2.2.2.2.2.1
theorem dX2_add_29 : decode cX2_add 29 = .ok (.iconst 0, 1) := dq_g32.2.2.2.2.2.2.2.2.2.2.2.2.2.2.2.2.2.2.2.1
theorem dX2_add_30 : decode cX2_add 30 = .ok (.ireturn, 1) := dq_g32.2.2.2.2.2.2.2.2.2.2.2.2.2.2.2.2.2.2.2.2.1
theorem dX2_add_31 : decode cX2_add 31 = .ok (.aload_n 0, 1) := dq_g32.2.2.2.2.2.2.2.2.2.2.2.2.2.2.2.2.2.2.2.2.2.1
theorem dX2_add_32 : decode cX2_add 32 = .ok (.getfield 9, 3) := dq_g32.2.2.2.2.2.2.2.2.2.2.2.2.2.2.2.2.2.2.2.2.2.2.1
theorem dX2_add_35 : decode cX2_add 35 = .ok (.iload_n 2, 1) := dq_g32.2.2.2.2.2.2.2.2.2.2.2.2.2.2.2.2.2.2.2.2.2.2.2.1
theorem dX2_add_36 : decode cX2_add 36 = .ok (.iaload, 1) := dq_g32.2.2.2.2.2.2.2.2.2.2.2.2.2.2.2.2.2.2.2.2.2.2.2.2.1
theorem dX2_add_37 : decode cX2_add 37 = .ok (.ifCond .ne 24, 3) := dq_g32.2.2.2.2.2.2.2.2.2.2.2.2.2.2.2.2.2.2.2.2.2.2.2.2.2.1
theorem dX2_add_40 : decode cX2_add 40 = .ok (.aload_n 0, 1) := dq_g32.2.2.2.2.2.2.2.2.2.2.2.2.2.2.2.2.2.2.2.2.2.2.2.2.2.2.1
theorem dX2_add_41 : decode cX2_add 41 = .ok (.getfield 9, 3) := dq_g32.2.2.2.2.2.2.2.2.2.2.2.2.2.2.2.2.2.2.2.2.2.2.2.2.2.2.2.1
theorem dX2_add_44 : decode cX2_add 44 = .ok (.iload_n 2, 1) := dq_g32.2.2.2.2.2.2.2.2.2.2.2.2.2.2.2.2.2.2.2.2.2.2.2.2.2.2.2.2.1
theorem dX2_add_45 : decode cX2_add 45 = .ok (.iload_n 1, 1) := dq_g32.2.2.2.2.2.2.2.2.2.2.2.2.2.2.2.2.2.2.2.2.2.2.2.2.2.2.2.2.2.1
theorem dq_g33 : decode cX2_add 46 = .ok (.iconst 1, 1) ∧ decode cX2_add 47 = .ok (.iadd, 1) ∧ decode cX2_add 48 = .ok (.iastore, 1) ∧ decode cX2_add 49 = .ok (.aload_n 0, 1) ∧ decode cX2_add 50 = .ok (.dup, 1) ∧ decode cX2_add 51 = .ok (.getfield 13, 3) ∧ decode cX2_add 54 = .ok (.iconst 1, 1) ∧ decode cX2_add 55 = .ok (.iadd, 1) ∧ decode cX2_add 56 = .ok (.putfield 13, 3) ∧ decode cX2_add 59 = .ok (.iconst 1, 1) ∧ decode cX2_add 60 = .ok (.ireturn, 1) ∧ decode cX2_add 61 = .ok (.iload_n 2, 1) ∧ decode cX2_add 62 = .ok (.iconst 1, 1) ∧ decode cX2_add 63 = .ok (.iadd, 1) ∧ decode cX2_add 64 = .ok (.sipush 2048, 3) ∧ decode cX2_add 67 = .ok (.irem, 1) ∧ decode cX2_add 68 = .ok (.istore_n 2, 1) ∧ decode cX2_add 69 = .ok (.iinc 3 1, 3) ∧ decode cX2_add 72 = .ok (.goto (-62), 3) ∧ decode cX2_add 75 = .ok (.iconst 0, 1) ∧ decode cX2_add 76 = .ok (.ireturn, 1) ∧ True := dqC_ok (c := cX2_add) [(46, 1, some (.iconst 1)), (47, 1, some (.iadd)), (48, 1, some (.iastore)), (49, 1, some (.aload_n 0)), (50, 1, some (.dup)), (51, 3, some (.getfield 13)), (54, 1, some (.iconst 1)), (55, 1, some (.iadd)), (56, 3, some (.putfield 13)), (59, 1, some (.iconst 1)), (60, 1, some (.ireturn)), (61, 1, some (.iload_n 2)), (62, 1, some (.iconst 1)), (63, 1, some (.iadd)), (64, 3, some (.sipush 2048)), (67, 1, some (.irem)), (68, 1, some (.istore_n 2)), (69, 3, some (.iinc 3 1)), (72, 3, some (.goto (-62))), (75, 1, some (.iconst 0)), (76, 1, some (.ireturn))] _ 46 rfl (by decide +kernel)
theorem dX2_add_46 : decode cX2_add 46 = .ok (.iconst 1, 1) := dq_g33.1
theorem dX2_add_47 : decode cX2_add 47 = .ok (.iadd, 1) := dq_g33.2.1
theorem dX2_add_48 : decode cX2_add 48 = .ok (.iastore, 1) := dq_g33.2.2.1
theorem dX2_add_49 : decode cX2_add 49 = .ok (.aload_n 0, 1) := dq_g33.2.2.2.1
theorem dX2_add_50 : decode cX2_add 50 = .ok (.dup, 1) := dq_g33.2.2.2.2.1
theorem dX2_add_51 : decode cX2_add 51 = .ok (.getfield 13, 3) := dq_g33.2.2.2.2.2.1
theorem dX2_add_54 : decode cX2_add 54 = .ok (.iconst 1, 1) := dq_g33.2.2.2.2.2.2.1
theorem dX2_add_55 : decode cX2_add 55 = .ok (.iadd, 1) := dq_g33.2.2.2.2.2.2.2.1
theorem dX2_add_56 : decode cX2_add 56 = .ok (.putfield 13, 3) := dq_g33.2.2.2.2.2.2.2.2.1
theorem dX2_add_59 : decode cX2_add 59 = .ok (.iconst 1, 1) := dq_g33.2.2.2.2.2.2.2.2.2.1
theorem dX2_add_60 : decode cX2_add 60 = .ok (.ireturn, 1) := dq_g33.2.2.2.2.2.2.2.2.2.2.1
theorem dX2_add_61 : decode cX2_add 61 = .ok (.iload_n 2, 1) := dq_g33.2.2.2.2.2.2.2.2.2.2.2.1
theorem dX2_add_62 : decode cX2_add 62 = .ok (.iconst 1, 1) := dq_g33.2.2.2.2.2.2.2.2.2.2.2.2.1
theorem dX2_add_63 : decode cX2_add 63 = .ok (.iadd, 1) := dq_g33.2.2.2.2.2.2.2.2.2.2.2.2.2.1
theorem dX2_add_64 : decode cX2_add 64 = .ok (.sipush 2048, 3) := dq_g33.2.2.2.2.2.2.2.2.2.2.2.2.2.2.1
theorem dX2_add_67 : decode cX2_add 67 = .ok (.irem, 1) := dq_g33.2.2.2.2.2.2.2.2.2.2.2.2.2.2.2.1
theorem dX2_add_68 : decode cX2_add 68 = .ok (.istore_n 2, 1) := dq_g33.2.2.2.2.2.2.2.2.2.2.2.2.2.2.2.2.1
theorem dX2_add_69 : decode cX2_add 69 = .ok (.iinc 3 1, 3) := dq_g33.2.2.2.2.2.2.2.2.2.2.2.2.2.2.2.2.2.1
theorem dX2_add_72 : decode cX2_add 72 = .ok (.goto (-62), 3) := dq_g33.2.2.2.2.2.2.2.2.2.2.2.2.2.2.2.2.2.2.1
theorem dX2_add_75 : decode cX2_add 75 = .ok (.iconst 0, 1) := dq_g33.2.2.2.2.2.2.2.2.2.2.2.2.2.2.2.2.2.2.2.1
theorem dX2_add_76 : decode cX2_add 76 = .ok (.ireturn, 1) := dq_g33.2.2.2.2.2.2.2.2.2.2.2.2.2.2.2.2.2.2.2.2.1
theorem dq_g34 : decode cX3_init 0 = .ok (.aload_n 0, 1) ∧ decode cX3_init 1 = .ok (.invokespecial 5, 3) ∧ decode cX3_init 4 = .ok (.aload_n 0, 1) ∧ decode cX3_init 5 = .ok (.iconst 5, 1) ∧ decode cX3_init 8 = .ok (.putfield 11, 3) ∧ decode cX3_init 11 = .ok (.aload_n 0, 1) ∧ decode cX3_init 12 = .ok (.sipush 144, 3) ∧ decode cX3_init 17 = .ok (.putfield 15, 3) ∧ decode cX3_init 20 = .ok (.aload_n 0, 1) ∧ decode cX3_init 21 = .ok (.sipush 144, 3) ∧ decode cX3_init 26 = .ok (.putfield 18, 3) ∧ decode cX3_init 29 = .ok (.aload_n 0, 1) ∧ decode cX3_init 30 = .ok (.iconst 3, 1) ∧ decode cX3_init 33 = .ok (.putfield 21, 3) ∧ decode cX3_init 36 = .ok (.aload_n 0, 1) ∧ decode cX3_init 37 = .ok (.iconst 3, 1) ∧ decode cX3_init 40 = .ok (.putfield 24, 3) ∧ decode cX3_init 43 = .ok (.aload_n 0, 1) ∧ decode cX3_init 44 = .ok (.iconst 3, 1) ∧ decode cX3_init 47 = .ok (.putfield 27, 3) ∧ decode cX3_init 50 = .ok (.aload_n 0, 1) ∧ decode cX3_init 51 = .ok (.bipush 8, 2) ∧ decode cX3_init 55 = .ok (.putfield 30, 3) ∧ True := dqC_ok (c := cX3_init) [(0, 1, some (.aload_n 0)), (1, 3, some (.invokespecial 5)), (4, 1, some (.aload_n 0)), (5, 1, some (.iconst 5)), (6, 2, none), (8, 3, some (.putfield 11)), (11, 1, some (.aload_n 0)), (12, 3, some (.sipush 144)), (15, 2, none), (17, 3, some (.putfield 15)), (20, 1, some (.aload_n 0)), (21, 3, some (.sipush 144)), (24, 2, none), (26, 3, some (.putfield 18)), (29, 1, some (.aload_n 0)), (30, 1, some (.iconst 3)), (31, 2, none), (33, 3, some (.putfield 21)), (36, 1, some (.aload_n 0)), (37, 1, some (.iconst 3)), (38, 2, none), (40, 3, some (.putfield 24)), (43, 1, some (.aload_n 0)), (44, 1, some (.iconst 3)), (45, 2, none), (47, 3, some (.putfield 27)), (50, 1, some (.aload_n 0)), (51, 2, some (.bipush 8)), (53, 2, none), (55, 3, some (.putfield 30))] _ 0 rfl (by decide +kernel)
theorem dX3_init_0 : decode cX3_init 0 = .ok (.aload_n 0, 1) := dq_g34.1
theorem dX3_init_1 : decode cX3_init 1 = .ok (.invokespecial 5, 3) := dq_g34.2.1
theorem dX3_init_4 : decode cX3_init 4 = .ok (.aload_n 0, 1) := dq_g34.2.2.1
theorem dX3_init_5 : decode cX3_init 5 = .ok (.iconst 5, 1) := dq_g34.2.2.2.1
theorem dX3_init_8 : decode cX3_init 8 = .ok (.putfield 11, 3) := dq_g34.2.2.2.2.1
theorem dX3_init_11 : decode cX3_init 11 = .ok (.aload_n 0, 1) := dq_g34.2.2.2.2.2.1
theorem dX3_init_12 : decode cX3_init 12 = .ok (.sipush 144, 3) := dq_g34.2.2.2.2.2.2.1
theorem dX3_init_17 : decode cX3_init 17 = .ok (.putfield 15, 3) := dq_g34.2.2.2.2.2.2.2.1
theorem dX3_init_20 : decode cX3_init 20 = .ok (.aload_n 0, 1) := dq_g34.2.2.2.2.2.2.2.2.1
theorem dX3_init_21 : decode cX3_init 21 = .ok (.sipush 144, 3) := dq_g34.2.2.2.2.2.2.2.2.2.1
theorem dX3_init_26 : decode cX3_init 26 = .ok (.putfield 18, 3) := dq_g34.2.2.2.2.2.2.2.2.2.2.1
theorem dX3_init_29 : decode cX3_init 29 = .ok (.aload_n 0, 1) := dq_g34.2.2.2.2.2.2.2.2.2.2.2.1
theorem dX3_init_30 : decode cX3_init 30 = .ok (.iconst 3, 1) := dq_g34.2.2.2.2.2.2.2.2.2.2.2.2.1
theorem dX3_init_33 : decode cX3_init 33 = .ok (.putfield 21, 3) := dq_g34.2.2.2.2.2.2.2.2.2.2.2.2.2.1
theorem dX3_init_36 : decode cX3_init 36 = .ok (.aload_n 0, 1) := dq_g34.2.2.2.2.2.2.2.2.2.2.2.2.2.2.1
theorem dX3_init_37 : decode cX3_init 37 = .ok (.iconst 3, 1) := dq_g34.2.2.2.2.2.2.2.2.2.2.2.2.2.2.2.1
theorem dX3_init_40 : decode cX3_init 40 = .ok (.putfield 24, 3) := dq_g34.2.2.2.2.2.2.2.2.2.2.2.2.2.2.2.2.1
theorem dX3_init_43 : decode cX3_init 43 = .ok (.aload_n 0, 1) := dq_g34.2.2.2.2.2.2.2.2.2.2.2.2.2.2.2.2.2.1
theorem dX3_init_44 : decode cX3_init 44 = .ok (.iconst 3, 1) := dq_g34.2.2.2.2.2.2.2.2.2.2.2.2.2.2.2.2.2.2.1
theorem dX3_init_47 : decode cX3_init 47 = .ok (.putfield 27, 3) := dq_g34.2.2.2.2.2.2.2.2.2.2.2.2.2.2.2.2.2.2.2.1
theorem dX3_init_50 : decode cX3_init 50 = .ok (.aload_n 0, 1) := dq_g34.2.2.2.2.2.2.2.2.2.2.2.2.2.2.2.2.2.2.2.2.1
theorem dX3_init_51 : decode cX3_init 51 = .ok (.bipush 8, 2) := dq_g34.2.2.2.2.2.2.2.2.2.2.2.2.2.2.2.2.2.2.2.2.2.1
theorem dX3_init_55 : decode cX3_init 55 = .ok (.putfield 30, 3) := dq_g34.2.2.2.2.2.2.2.2.2.2.2.2.2.2.2.2.2.2.2.2.2.2.1
theorem dX3_init_6 : decode cX3_init 6 = .ok (.newarray .int, 2) := by decide +kernel
theorem dX3_init_15 : decode cX3_init 15 = .ok (.newarray .int, 2) := by decide +kernel
theorem dX3_init_24 : decode cX3_init 24 = .ok (.newarray .int, 2) := by decide +kernel
theorem dX3_init_31 : decode cX3_init 31 = .ok (.newarray .int, 2) := by decide +kernel
theorem dX3_init_38 : decode cX3_init 38 = .ok (.newarray .int, 2) := by decide +kernel
theorem dX3_init_45 : decode cX3_init 45 = .ok (.newarray .int, 2) := by decide +kernel
theorem dX3_init_53 : decode cX3_init 53 = .ok (.newarray .int, 2) := by decide +kernel
theorem dq_g35 : decode cX3_init 58 = .ok (.aload_n 0, 1) ∧ decode cX3_init 59 = .ok (.bipush 8, 2) ∧ decode cX3_init 63 = .ok (.putfield 33, 3) ∧ decode cX3_init 66 = .ok (.aload_n 0, 1) ∧ decode cX3_init 67 = .ok (.new 36, 3) ∧ decode cX3_init 70 = .ok (.dup, 1) ∧ decode cX3_init 71 = .ok (.invokespecial 38, 3) ∧ decode cX3_init 74 = .ok (.putfield 39, 3) ∧ decode cX3_init 77 = .ok (.return_, 1) ∧ True := dqC_ok (c := cX3_init) [(58, 1, some (.aload_n 0)), (59, 2, some (.bipush 8)), (61, 2, none), (63, 3, some (.putfield 33)), (66, 1, some (.aload_n 0)), (67, 3, some (.new 36)), (70, 1, some (.dup)), (71, 3, some (.invokespecial 38)), (74, 3, some (.putfield 39)), (77, 1, some (.return_))] _ 58 rfl (by decide +kernel)
theorem dX3_init_58 : decode cX3_init 58 = .ok (.aload_n 0, 1) := dq_g35.1
theorem dX3_init_59 : decode cX3_init 59 = .ok (.bipush 8, 2) := dq_g35.2.1
theorem dX3_init_63 : decode cX3_init 63 = .ok (.putfield 33, 3) := dq_g35.2.2.1
theorem dX3_init_66 : decode cX3_init 66 = .ok (.aload_n 0, 1) := dq_g35.2.2.2.1
theorem dX3_init_67 : decode cX3_init 67 = .ok (.new 36, 3) := dq_g35.2.2.2.2.1
theorem dX3_init_70 : decode cX3_init 70 = .ok (.dup, 1) := dq_g35.2.2.2.2.2.1
theorem dX3_init_71 : decode cX3_init 71 = .ok (.invokespecial 38, 3) := dq_g35.2.2.2.2.2.2.1
theorem dX3_init_74 : decode cX3_init 74 = .ok (.putfield 39, 3) := dq_g35.2.2.2.2.2.2.2.1
theorem dX3_init_77 : decode cX3_init 77 = .ok (.return_, 1) := dq_g35.2.2.2.2.2.2.2.2.1
theorem dX3_init_61 : decode cX3_init 61 = .ok (.newarray .int, 2) := by decide +kernel
theorem dq_g36 : decode cX3_prepare 0 = .ok (.aload_n 0, 1) ∧ decode cX3_prepare 1 = .ok (.aload_n 3, 1) ∧ decode cX3_prepare 2 = .ok (.getfield 43, 3) ∧ decode cX3_prepare 5 = .ok (.bipush 8, 2) ∧ decode cX3_prepare 7 = .ok (.invokestatic 49, 3) ∧ decode cX3_prepare 10 = .ok (.putfield 55, 3) ∧ decode cX3_prepare 13 = .ok (.aload_n 0, 1) ∧ decode cX3_prepare 14 = .ok (.iload 4, 2) ∧ decode cX3_prepare 16 = .ok (.putfield 56, 3) ∧ decode cX3_prepare 19 = .ok (.aload_n 0, 1) ∧ decode cX3_prepare 20 = .ok (.iconst 0, 1) ∧ decode cX3_prepare 21 = .ok (.putfield 59, 3) ∧ decode cX3_prepare 24 = .ok (.iconst 0, 1) ∧ decode cX3_prepare 25 = .ok (.istore 5, 2) ∧ decode cX3_prepare 27 = .ok (.iload 5, 2) ∧ decode cX3_prepare 29 = .ok (.iconst 3, 1) ∧ decode cX3_prepare 30 = .ok (.if_icmp .ge 39, 3) ∧ decode cX3_prepare 33 = .ok (.aload_n 0, 1) ∧ decode cX3_prepare 34 = .ok (.getfield 27, 3) ∧ decode cX3_prepare 37 = .ok (.iload 5, 2) ∧ decode cX3_prepare 39 = .ok (.aload_n 3, 1) ∧ decode cX3_prepare 40 = .ok (.getfield 62, 3) ∧ decode cX3_prepare 43 = .ok (.iload 5, 2) ∧ decode cX3_prepare 45 = .ok (.iaload, 1) ∧ decode cX3_prepare 46 = .ok (.iastore, 1) ∧ decode cX3_prepare 47 = .ok (.aload_n 0, 1) ∧ decode cX3_prepare 48 = .ok (.getfield 21, 3) ∧ decode cX3_prepare 51 = .ok (.iload 5, 2) ∧ decode cX3_prepare 53 = .ok (.iconst 0, 1) ∧ decode cX3_prepare 54 = .ok (.iastore, 1) ∧ True := dqC_ok (c := cX3_prepare) [(0, 1, some (.aload_n 0)), (1, 1, some (.aload_n 3)), (2, 3, some (.getfield 43)), (5, 2, some (.bipush 8)), (7, 3, some (.invokestatic 49)), (10, 3, some (.putfield 55)), (13, 1, some (.aload_n 0)), (14, 2, some (.iload 4)), (16, 3, some (.putfield 56)), (19, 1, some (.aload_n 0)), (20, 1, some (.iconst 0)), (21, 3, some (.putfield 59)), (24, 1, some (.iconst 0)), (25, 2, some (.istore 5)), (27, 2, some (.iload 5)), (29, 1, some (.iconst 3)), (30, 3, some (.if_icmp .ge 39)), (33, 1, some (.aload_n 0)), (34, 3, some (.getfield 27)), (37, 2, some (.iload 5)), (39, 1, some (.aload_n 3)), (40, 3, some (.getfield 62)), (43, 2, some (.iload 5)), (45, 1, some (.iaload)), (46, 1, some (.iastore)), (47, 1, some (.aload_n 0)), (48, 3, some (.getfield 21)), (51, 2, some (.iload 5)), (53, 1, some (.iconst 0)), (54, 1, some (.iastore))] _ 0 rfl (by decide +kernel)
theorem dX3_prepare_0 : decode cX3_prepare 0 = .ok (.aload_n 0, 1) := dq_g36.1
theorem dX3_prepare_1 : decode cX3_prepare 1 = .ok (.aload_n 3, 1) := dq_g36.2.1
theorem dX3_prepare_2 : decode cX3_prepare 2 = .ok (.getfield 43, 3) := dq_g36.2.2.1
theorem dX3_prepare_5 : decode cX3_prepare 5 = .ok (.bipush 8, 2) := dq_g36.2.2.2.1
theorem dX3_prepare_7 : decode cX3_prepare 7 = .ok (.invokestatic 49, 3) := dq_g36.2.2.2.2.1
theorem dX3_prepare_10 : decode cX3_prepare 10 = .ok (.putfield 55, 3) := dq_g36.2.2.2.2.2.1
theorem dX3_prepare_13 : decode cX3_prepare 13 = .ok (.aload_n 0, 1) := dq_g36.2.2.2.2.2.2.1
theorem dX3_prepare_14 : decode cX3_prepare 14 = .ok (.iload 4, 2) := dq_g36.2.2.2.2.2.2.2.1
theorem dX3_prepare_16 : decode cX3_prepare 16 = .ok (.putfield 56, 3) := dq_g36.2.2.2.2.2.2.2.2.1
theorem dX3_prepare_19 : decode cX3_prepare 19 = .ok (.aload_n 0, 1) := dq_g36.2.2.2.2.2.2.2.2.2.1
theorem dX3_prepare_20 : decode cX3_prepare 20 = .ok (.iconst 0, 1) := dq_g36.2.2.2.2.2.2.2.2.2.2.1
theorem dX3_prepare_21 : decode cX3_prepare 21 = .ok (.putfield 59, 3) := dq_g36.2.2.2.2.2.2.2.2.2.2.2.1
theorem dX3_prepare_24 : decode cX3_prepare 24 = .ok (.iconst 0, 1) := dq_g36.2.2.2.2.2.2.2.2.2.2.2.2.1
theorem dX3_prepare_25 : decode cX3_prepare 25 = .ok (.istore 5, 2) := dq_g36.2.2.2.2.2.2.2.2.2.2.2.2.2.1
theorem dX3_prepare_27 : decode cX3_prepare 27 = .ok (.iload 5, 2) := dq_g36.2.2.2.2.2.2.2.2.2.2.2.2.2.2.1
theorem dX3_prepare_29 : decode cX3_prepare 29 = .ok (.iconst 3, 1) := dq_g36.2.2.2.2.2.2.2.2.2.2.2.2.2.2.2.1
theorem dX3_prepare_30 : decode cX3_prepare 30 = .ok (.if_icmp .ge 39, 3) := dq_g36.2.2.2.2.2.2.2.2.2.2.2.2.2.2.2.2.1
theorem dX3_prepare_33 : decode cX3_prepare 33 = .ok (.aload_n 0, 1) := dq_g36.2.2.2.2.2.2.2.2.2.2.2.2.2.2.2.2.2.1
theorem dX3_prepare_34 : decode cX3_prepare 34 = .ok (.getfield 27, 3) := dq_g36.2.2.2.2.2.2.2.2.2.2.2.2.2.2.2.2.2.2.1
theorem dX3_prepare_37 : decode cX3_prepare 37 = .ok (.iload 5, 2) := dq_g36.2.2.2.2.2.2.2.2.2.2.2.2.2.2.2.2.2.2.2.1
theorem dX3_prepare_39 : decode cX3_prepare 39 = .ok (.aload_n 3, 1) := dq_g36.2.2.2.2.2.2.2.2.2.2.2.2.2.2.2.2.2.2.2.2.1
theorem dX3_prepare_40 : decode cX3_prepare 40 = .ok (.getfield 62, 3) := dq_g36.2.2.2.2.2.2.2.2.2.2.2.2.2.2.2.2.2.2.2.2.2.1
theorem dX3_prepare_43 : decode cX3_prepare 43 = .ok (.iload 5, 2) := dq_g36.2.2.2.2.2.2.2.2.2.2.2.2.2.2.2.2.2.2.2.2.2.2.1
theorem dX3_prepare_45 : decode cX3_prepare 45 = .ok (.iaload, 1) := dq_g36.2.2.2.2.2.2.2.2.2.2.2.2.2.2.2.2.2.2.2.2.2.2.2.1
theorem dX3_prepare_46 : decode cX3_prepare 46 = .ok (.iastore, 1) := dq_g36.2.2.2.2.2.2.2.2.2.2.2.2.2.2.2.2.2.2.2.2.2.2.2.2.1
theorem dX3_prepare_47 : decode cX3_prepare 47 = .ok (.aload_n 0, 1) := dq_g36.2.2.2.2.2.2.2.2.2.2.2.2.2.2.2.2.2.2.2.2.2.2.2.2.2.1
theorem dX3_prepare_48 : decode cX3_prepare 48 = .ok (.getfield 21, 3) := dq_g36.2.2.2.2.2.2.2.2.2.2.2.2.2.2.2.2.2.2.2.2.2.2.2.2.2.2.1
theorem dX3_prepare_51 : decode cX3_prepare 51 = .ok (.iload 5, 2) := dq_g36.2.2.2.2.2.2.2.2.2.2.2.2.2.2.2.2.2.2.2.2.2.2.2.2.2.2.2.1
theorem dX3_prepare_53 : decode cX3_prepare 53 = .ok (.iconst 0, 1) := dq_g36.2.2.2.2.2.2.2.2.2.2.2.2.2.2.2.2.2.2.2.2.2.2.2.2.2.2.2.2.1
theorem dX3_prepare_54 : decode cX3_prepare 54 = .ok (.iastore, 1) := dq_g36.2.2.2.2.2.2.2.2.2.2.2.2.2.2.2.2.2.2.2.2.2.2.2.2.2.2.2.2.2.1
theorem dq_g37 : decode cX3_prepare 55 = .ok (.aload_n 0, 1) ∧ decode cX3_prepare 56 = .ok (.getfield 24, 3) ∧ decode cX3_prepare 59 = .ok (.iload 5, 2) ∧ decode cX3_prepare 61 = .ok (.iconst 0, 1) ∧ decode cX3_prepare 62 = .ok (.iastore, 1) ∧ decode cX3_prepare 63 = .ok (.iinc 5 1, 3) ∧ decode cX3_prepare 66 = .ok (.goto (-39), 3) ∧ decode cX3_prepare 69 = .ok (.iconst 0, 1) ∧ decode cX3_prepare 70 = .ok (.istore 5, 2) ∧ decode cX3_prepare 72 = .ok (.iload 5, 2) ∧ decode cX3_prepare 74 = .ok (.aload_n 0, 1) ∧ decode cX3_prepare 75 = .ok (.getfield 55, 3) ∧ decode cX3_prepare 78 = .ok (.if_icmp .ge 170, 3) ∧ decode cX3_prepare 81 = .ok (.aload_n 0, 1) ∧ decode cX3_prepare 82 = .ok (.getfield 30, 3) ∧ decode cX3_prepare 85 = .ok (.iload 5, 2) ∧ decode cX3_prepare 87 = .ok (.iconst 0, 1) ∧ decode cX3_prepare 88 = .ok (.iastore, 1) ∧ decode cX3_prepare 89 = .ok (.aload_n 0, 1) ∧ decode cX3_prepare 90 = .ok (.getfield 33, 3) ∧ decode cX3_prepare 93 = .ok (.iload 5, 2) ∧ decode cX3_prepare 95 = .ok (.iconst 5, 1) ∧ decode cX3_prepare 96 = .ok (.aload_n 3, 1) ∧ decode cX3_prepare 97 = .ok (.getfield 63, 3) ∧ decode cX3_prepare 100 = .ok (.iload 5, 2) ∧ decode cX3_prepare 102 = .ok (.iaload, 1) ∧ decode cX3_prepare 103 = .ok (.iconst 1, 1) ∧ decode cX3_prepare 104 = .ok (.isub, 1) ∧ decode cX3_prepare 105 = .ok (.invokestatic 49, 3) ∧ decode cX3_prepare 108 = .ok (.iastore, 1) ∧ True := dqC_ok (c := cX3_prepare) [(55, 1, some (.aload_n 0)), (56, 3, some (.getfield 24)), (59, 2, some (.iload 5)), (61, 1, some (.iconst 0)), (62, 1, some (.iastore)), (63, 3, some (.iinc 5 1)), (66, 3, some (.goto (-39))), (69, 1, some (.iconst 0)), (70, 2, some (.istore 5)), (72, 2, some (.iload 5)), (74, 1, some (.aload_n 0)), (75, 3, some (.getfield 55)), (78, 3, some (.if_icmp .ge 170)), (81, 1, some (.aload_n 0)), (82, 3, some (.getfield 30)), (85, 2, some (.iload 5)), (87, 1, some (.iconst 0)), (88, 1, some (.iastore)), (89, 1, some (.aload_n 0)), (90, 3, some (.getfield 33)), (93, 2, some (.iload 5)), (95, 1, some (.iconst 5)), (96, 1, some (.aload_n 3)), (97, 3, some (.getfield 63)), (100, 2, some (.iload 5)), (102, 1, some (.iaload)), (103, 1, some (.iconst 1)), (104, 1, some (.isub)), (105, 3, some (.invokestatic 49)), (108, 1, some (.iastore))] _ 55 rfl (by decide +kernel)
theorem dX3_prepare_55 : decode cX3_prepare 55 = .ok (.aload_n 0, 1) := dq_g37.1
theorem dX3_prepare_56 : decode cX3_prepare 56 = .ok (.getfield 24, 3) := dq_g37.2.1
theorem dX3_prepare_59 : decode cX3_prepare 59 = .ok (.iload 5, 2) := dq_g37.2.2.1
theorem dX3_prepare_61 : decode cX3_prepare 61 = .ok (.iconst 0, 1) := dq_g37.2.2.2.1
theorem dX3_prepare_62 : decode cX3_prepare 62 = .ok (.iastore, 1) := dq_g37.2.2.2.2.1
theorem dX3_prepare_63 : decode cX3_prepare 63 = .ok (.iinc 5 1, 3) := dq_g37.2.2.2.2.2.1
theorem dX3_prepare_66 : decode cX3_prepare 66 = .ok (.goto (-39), 3) := dq_g37.2.2.2.2.2.2.1
theorem dX3_prepare_69 : decode cX3_prepare 69 = .ok (.iconst 0, 1) := dq_g37.2.2.2.2.2.2.2.1
theorem dX3_prepare_70 : decode cX3_prepare 70 = .ok (.istore 5, 2) := dq_g37.2.2.2.2.2.2.2.2.1
theorem dX3_prepare_72 : decode cX3_prepare 72 = .ok (.iload 5, 2) := dq_g37.2.2.2.2.2.2.2.2.2.1
theorem dX3_prepare_74 : decode cX3_prepare 74 = .ok (.aload_n 0, 1) := dq_g37.2.2.2.2.2.2.2.2.2.2.1
theorem dX3_prepare_75 : decode cX3_prepare 75 = .ok (.getfield 55, 3) := dq_g37.2.2.2.2.2.2.2.2.2.2.2.1
theorem dX3_prepare_78 : decode cX3_prepare 78 = .ok (.if_icmp .ge 170, 3) := dq_g37.2.2.2.2.2.2.2.2.2.2.2.2.1
theorem dX3_prepare_81 : decode cX3_prepare 81 = .ok (.aload_n 0, 1) := dq_g37.2.2.2.2.2.2.2.2.2.2.2.2.2.1
theorem dX3_prepare_82 : decode cX3_prepare 82 = .ok (.getfield 30, 3) := dq_g37.2.2.2.2.2.2.2.2.2.2.2.2.2.2.1
theorem dX3_prepare_85 : decode cX3_prepare 85 = .ok (.iload 5, 2) := dq_g37.2.2.2.2.2.2.2.2.2.2.2.2.2.2.2.1
theorem dX3_prepare_87 : decode cX3_prepare 87 = .ok (.iconst 0, 1) := dq_g37.2.2.2.2.2.2.2.2.2.2.2.2.2.2.2.2.1
theorem dX3_prepare_88 : decode cX3_prepare 88 = .ok (.iastore, 1) := dq_g37.2.2.2.2.2.2.2.2.2.2.2.2.2.2.2.2.2.1
theorem dX3_prepare_89 : decode cX3_prepare 89 = .ok (.aload_n 0, 1) := dq_g37.2.2.2.2.2.2.2.2.2.2.2.2.2.2.2.2.2.2.1
theorem dX3_prepare_90 : decode cX3_prepare 90 = .ok (.getfield 33, 3) := dq_g37.2.2.2.2.2.2.2.2.2.2.2.2.2.2.2.2.2.2.2.1
theorem dX3_prepare_93 : decode cX3_prepare 93 = .ok (.iload 5, 2) := dq_g37.2.2.2.2.2.2.2.2.2.2.2.2.2.2.2.2.2.2.2.2.1
theorem dX3_prepare_95 : decode cX3_prepare 95 = .ok (.iconst 5, 1) := dq_g37.2.2.2.2.2.2.2.2.2.2.2.2.2.2.2.2.2.2.2.2.2.1
theorem dX3_prepare_96 : decode cX3_prepare 96 = .ok (.aload_n 3, 1) := dq_g37.2.2.2.2.2.2.2.2.2.2.2.2.2.2.2.2.2.2.2.2.2.2.1
theorem dX3_prepare_97 : decode cX3_prepare 97 = .ok (.getfield 63, 3) := dq_g37.2.2.2.2.2.2.2.2.2.2.2.2.2.2.2.2.2.2.2.2.2.2.2.1
theorem dX3_prepare_100 : decode cX3_prepare 100 = .ok (.iload 5, 2) := dq_g37.2.2.2.2.2.2.2.2.2.2.2.2.2.2.2.2.2.2.2.2.2.2.2.2.1
theorem dX3_prepare_102 : decode cX3_prepare 102 = .ok (.iaload, 1) := dq_g37.2.2.2.2.2.2.2.2.2.2.2.2.2.2.2.2.2.2.2.2.2.2.2.2.2.1
theorem dX3_prepare_103 : decode cX3_prepare 103 = .ok (.iconst 1, 1) := dq_g37.2.2.2.2.2.2.2.2.2.2.2.2.2.2.2.2.2.2.2.2.2.2.2.2.2.2.1
theorem dX3_prepare_104 : decode cX3_prepare 104 = .ok (.isub, 1) := dq_g37.2.2.2.2.2.2.2.2.2.2.2.2.2.2.2.2.2.2.2.2.2.2.2.2.2.2.2.1
theorem dX3_prepare_105 : decode cX3_prepare 105 = .ok (.invokestatic 49, 3) := dq_g37.2.2.2.2.2.2.2.2.2.2.2.2.2.2.2.2.2.2.2.2.2.2.2.2.2.2.2.2.1
theorem dX3_prepare_108 : decode cX3_prepare 108 = .ok (.iastore, 1) := dq_g37.2.2.2.2.2.2.2.2.2.2.2.2.2.2.2.2.2.2.2.2.2.2.2.2.2.2.2.2.2.1
theorem dq_g38 : decode cX3_prepare 109 = .ok (.iconst 0, 1) ∧ decode cX3_prepare 110 = .ok (.istore 6, 2) ∧ decode cX3_prepare 112 = .ok (.iload 6, 2) ∧ decode cX3_prepare 114 = .ok (.aload_n 0, 1) ∧ decode cX3_prepare 115 = .ok (.getfield 33, 3) ∧ decode cX3_prepare 118 = .ok (.iload 5, 2) ∧ decode cX3_prepare 120 = .ok (.iaload, 1) ∧ decode cX3_prepare 121 = .ok (.if_icmp .gt 50, 3) ∧ decode cX3_prepare 124 = .ok (.aload_n 1, 1) ∧ decode cX3_prepare 125 = .ok (.aload_n 3, 1) ∧ decode cX3_prepare 126 = .ok (.iload 5, 2) ∧ decode cX3_prepare 128 = .ok (.aload_n 3, 1) ∧ decode cX3_prepare 129 = .ok (.getfield 63, 3) ∧ decode cX3_prepare 132 = .ok (.iload 5, 2) ∧ decode cX3_prepare 134 = .ok (.iaload, 1) ∧ decode cX3_prepare 135 = .ok (.iload 6, 2) ∧ decode cX3_prepare 137 = .ok (.isub, 1) ∧ decode cX3_prepare 138 = .ok (.aload_n 3, 1) ∧ decode cX3_prepare 139 = .ok (.getfield 66, 3) ∧ decode cX3_prepare 142 = .ok (.iload 5, 2) ∧ decode cX3_prepare 144 = .ok (.iaload, 1) ∧ decode cX3_prepare 145 = .ok (.aload_n 3, 1) ∧ decode cX3_prepare 146 = .ok (.getfield 69, 3) ∧ decode cX3_prepare 149 = .ok (.iload 5, 2) ∧ decode cX3_prepare 151 = .ok (.iaload, 1) ∧ decode cX3_prepare 152 = .ok (.invokevirtual 72, 3) ∧ decode cX3_prepare 155 = .ok (.aload_n 0, 1) ∧ decode cX3_prepare 156 = .ok (.aload_n 1, 1) ∧ decode cX3_prepare 157 = .ok (.aload_n 2, 1) ∧ decode cX3_prepare 158 = .ok (.iload 5, 2) ∧ True := dqC_ok (c := cX3_prepare) [(109, 1, some (.iconst 0)), (110, 2, some (.istore 6)), (112, 2, some (.iload 6)), (114, 1, some (.aload_n 0)), (115, 3, some (.getfield 33)), (118, 2, some (.iload 5)), (120, 1, some (.iaload)), (121, 3, some (.if_icmp .gt 50)), (124, 1, some (.aload_n 1)), (125, 1, some (.aload_n 3)), (126, 2, some (.iload 5)), (128, 1, some (.aload_n 3)), (129, 3, some (.getfield 63)), (132, 2, some (.iload 5)), (134, 1, some (.iaload)), (135, 2, some (.iload 6)), (137, 1, some (.isub)), (138, 1, some (.aload_n 3)), (139, 3, some (.getfield 66)), (142, 2, some (.iload 5)), (144, 1, some (.iaload)), (145, 1, some (.aload_n 3)), (146, 3, some (.getfield 69)), (149, 2, some (.iload 5)), (151, 1, some (.iaload)), (152, 3, some (.invokevirtual 72)), (155, 1, some (.aload_n 0)), (156, 1, some (.aload_n 1)), (157, 1, some (.aload_n 2)), (158, 2, some (.iload 5))] _ 109 rfl (by decide +kernel)
theorem dX3_prepare_109 : decode cX3_prepare 109 = .ok (.iconst 0, 1) := dq_g38.1
theorem dX3_prepare_110 : decode cX3_prepare 110 = .ok (.istore 6, 2) := dq_g38.2.1
theorem dX3_prepare_112 : decode cX3_prepare 112 = .ok (.iload 6, 2) := dq_g38.2.2.1
theorem dX3_prepare_114 : decode cX3_prepare 114 = .ok (.aload_n 0, 1) := dq_g38.2.2.2.1
theorem dX3_prepare_115 : decode cX3_prepare 115 = .ok (.getfield 33, 3) := dq_g38.2.2.2.2.1
theorem dX3_prepare_118 : decode cX3_prepare 118 = .ok (.iload 5, 2) := dq_g38.2.2.2.2.2.1
theorem dX3_prepare_120 : decode cX3_prepare 120 = .ok (.iaload, 1) := dq_g38.2.2.2.2.2.2.1
theorem dX3_prepare_121 : decode cX3_prepare 121 = .ok (.if_icmp .gt 50, 3) := dq_g38.2.2.2.2.2.2.2.1
theorem dX3_prepare_124 : decode cX3_prepare 124 = .ok (.aload_n 1, 1) := dq_g38.2.2.2.2.2.2.2.2.1
theorem dX3_prepare_125 : decode cX3_prepare 125 = .ok (.aload_n 3, 1) := dq_g38.2.2.2.2.2.2.2.2.2.1
theorem dX3_prepare_126 : decode cX3_prepare 126 = .ok (.iload 5, 2) := dq_g38.2.2.2.2.2.2.2.2.2.2.1
theorem dX3_prepare_128 : decode cX3_prepare 128 = .ok (.aload_n 3, 1) := dq_g38.2.2.2.2.2.2.2.2.2.2.2.1
theorem dX3_prepare_129 : decode cX3_prepare 129 = .ok (.getfield 63, 3) := dq_g38.2.2.2.2.2.2.2.2.2.2.2.2.1
theorem dX3_prepare_132 : decode cX3_prepare 132 = .ok (.iload 5, 2) := dq_g38.2.2.2.2.2.2.2.2.2.2.2.2.2.1
theorem dX3_prepare_134 : decode cX3_prepare 134 = .ok (.iaload, 1) := dq_g38.2.2.2.2.2.2.2.2.2.2.2.2.2.2.1
theorem dX3_prepare_135 : decode cX3_prepare 135 = .ok (.iload 6, 2) := dq_g38.2.2.2.2.2.2.2.2.2.2.2.2.2.2.2.1
theorem dX3_prepare_137 : decode cX3_prepare 137 = .ok (.isub, 1) := dq_g38.2.2.2.2.2.2.2.2.2.2.2.2.2.2.2.2.1
theorem dX3_prepare_138 : decode cX3_prepare 138 = .ok (.aload_n 3, 1) := dq_g38.2.2.2.2.2.2.2.2.2.2.2.2.2.2.2.2.2.1
theorem dX3_prepare_139 : decode cX3_prepare 139 = .ok (.getfield 66, 3) := dq_g38.2.2.2.2.2.2.2.2.2.2.2.2.2.2.2.2.2.2.1
theorem dX3_prepare_142 : decode cX3_prepare 142 = .ok (.iload 5, 2) := dq_g38.2.2.2.2.2.2.2.2.2.2.2.2.2.2.2.2.2.2.2.1
theorem dX3_prepare_144 : decode cX3_prepare 144 = .ok (.iaload, 1) := dq_g38.2.2.2.2.2.2.2.2.2.2.2.2.2.2.2.2.2.2.2.2.1
theorem dX3_prepare_145 : decode cX3_prepare 145 = .ok (.aload_n 3, 1) := dq_g38.2.2.2.2.2.2.2.2.2.2.2.2.2.2.2.2.2.2.2.2.2.1
theorem dX3_prepare_146 : decode cX3_prepare 146 = .ok (.getfield 69, 3) := dq_g38.2.2.2.2.2.2.2.2.2.2.2.2.2.2.2.2.2.2.2.2.2.2.1
theorem dX3_prepare_149 : decode cX3_prepare 149 = .ok (.iload 5, 2) := dq_g38.2.2.2.2.2.2.2.2.2.2.2.2.2.2.2.2.2.2.2.2.2.2.2.1
theorem dX3_prepare_151 : decode cX3_prepare 151 = .ok (.iaload, 1) := dq_g38.2.2.2.2.2.2.2.2.2.2.2.2.2.2.2.2.2.2.2.2.2.2.2.2.1
theorem dX3_prepare_152 : decode cX3_prepare 152 = .ok (.invokevirtual 72, 3) := dq_g38.2.2.2.2.2.2.2.2.2.2.2.2.2.2.2.2.2.2.2.2.2.2.2.2.2.1
theorem dX3_prepare_155 : decode cX3_prepare 155 = .ok (.aload_n 0, 1) := dq_g38.2.2.2.2.2.2.2.2.2.2.2.2.2.2.2.2.2.2.2.2.2.2.2.2.2.2.1
theorem dX3_prepare_156 : decode cX3_prepare 156 = .ok (.aload_n 1, 1) := dq_g38.2.2.2.2.2.2.2.2.2.2.2.2.2.2.2.2.2.2.2.2.2.2.2.2.2.2.2.1
theorem dX3_prepare_157 : decode cX3_prepare 157 = .ok (.aload_n 2, 1) := dq_g38.2.2.2.2.2.2.2.2.2.2.2.2.2.2.2.2.2.2.2.2.2.2.2.2.2.2.2.2.1
theorem dX3_prepare_158 : decode cX3_prepare 158 = .ok (.iload 5, 2) := dq_g38.2.2.2.2.2.2.2.2.2.2.2.2.2.2.2.2.2.2.2.2.2.2.2.2.2.2.2.2.2.1
theorem dq_g39 : decode cX3_prepare 160 = .ok (.iload 6, 2) ∧ decode cX3_prepare 162 = .ok (.invokevirtual 78, 3) ∧ decode cX3_prepare 165 = .ok (.iinc 6 1, 3) ∧ decode cX3_prepare 168 = .ok (.goto (-56), 3) ∧ decode cX3_prepare 171 = .ok (.iconst 0, 1) ∧ decode cX3_prepare 172 = .ok (.istore 6, 2) ∧ decode cX3_prepare 174 = .ok (.iload 6, 2) ∧ decode cX3_prepare 176 = .ok (.iconst 3, 1) ∧ decode cX3_prepare 177 = .ok (.if_icmp .ge 65, 3) ∧ decode cX3_prepare 180 = .ok (.aload_n 0, 1) ∧ decode cX3_prepare 181 = .ok (.getfield 27, 3) ∧ decode cX3_prepare 184 = .ok (.iload 6, 2) ∧ decode cX3_prepare 186 = .ok (.iaload, 1) ∧ decode cX3_prepare 187 = .ok (.ifCond .eq 49, 3) ∧ decode cX3_prepare 190 = .ok (.aload_n 0, 1) ∧ decode cX3_prepare 191 = .ok (.getfield 21, 3) ∧ decode cX3_prepare 194 = .ok (.iload 6, 2) ∧ decode cX3_prepare 196 = .ok (.dup2, 1) ∧ decode cX3_prepare 197 = .ok (.iaload, 1) ∧ decode cX3_prepare 198 = .ok (.aload_n 0, 1) ∧ decode cX3_prepare 199 = .ok (.getfield 15, 3) ∧ decode cX3_prepare 202 = .ok (.iload 6, 2) ∧ decode cX3_prepare 204 = .ok (.iload 5, 2) ∧ decode cX3_prepare 206 = .ok (.iconst 0, 1) ∧ decode cX3_prepare 207 = .ok (.invokestatic 82, 3) ∧ decode cX3_prepare 210 = .ok (.iaload, 1) ∧ decode cX3_prepare 211 = .ok (.iadd, 1) ∧ decode cX3_prepare 212 = .ok (.iastore, 1) ∧ decode cX3_prepare 213 = .ok (.aload_n 0, 1) ∧ decode cX3_prepare 214 = .ok (.getfield 24, 3) ∧ True := dqC_ok (c := cX3_prepare) [(160, 2, some (.iload 6)), (162, 3, some (.invokevirtual 78)), (165, 3, some (.iinc 6 1)), (168, 3, some (.goto (-56))), (171, 1, some (.iconst 0)), (172, 2, some (.istore 6)), (174, 2, some (.iload 6)), (176, 1, some (.iconst 3)), (177, 3, some (.if_icmp .ge 65)), (180, 1, some (.aload_n 0)), (181, 3, some (.getfield 27)), (184, 2, some (.iload 6)), (186, 1, some (.iaload)), (187, 3, some (.ifCond .eq 49)), (190, 1, some (.aload_n 0)), (191, 3, some (.getfield 21)), (194, 2, some (.iload 6)), (196, 1, some (.dup2)), (197, 1, some (.iaload)), (198, 1, some (.aload_n 0)), (199, 3, some (.getfield 15)), (202, 2, some (.iload 6)), (204, 2, some (.iload 5)), (206, 1, some (.iconst 0)), (207, 3, some (.invokestatic 82)), (210, 1, some (.iaload)), (211, 1, some (.iadd)), (212, 1, some (.iastore)), (213, 1, some (.aload_n 0)), (214, 3, some (.getfield 24))] _ 160 rfl (by decide +kernel)
theorem dX3_prepare_160 : decode cX3_prepare 160 = .ok (.iload 6, 2) := dq_g39.1
theorem dX3_prepare_162 : decode cX3_prepare 162 = .ok (.invokevirtual 78, 3) := dq_g39.2.1
theorem dX3_prepare_165 : decode cX3_prepare 165 = .ok (.iinc 6 1, 3) := dq_g39.2.2.1
theorem dX3_prepare_168 : decode cX3_prepare 168 = .ok (.goto (-56), 3) := dq_g39.2.2.2.1
theorem dX3_prepare_171 : decode cX3_prepare 171 = .ok (.iconst 0, 1) := dq_g39.2.2.2.2.1
theorem dX3_prepare_172 : decode cX3_prepare 172 = .ok (.istore 6, 2) := dq_g39.2.2.2.2.2.1
theorem dX3_prepare_174 : decode cX3_prepare 174 = .ok (.iload 6, 2) := dq_g39.2.2.2.2.2.2.1
theorem dX3_prepare_176 : decode cX3_prepare 176 = .ok (.iconst 3, 1) := dq_g39.2.2.2.2.2.2.2.1
theorem dX3_prepare_177 : decode cX3_prepare 177 = .ok (.if_icmp .ge 65, 3) := dq_g39.2.2.2.2.2.2.2.2.1
theorem dX3_prepare_180 : decode cX3_prepare 180 = .ok (.aload_n 0, 1) := dq_g39.2.2.2.2.2.2.2.2.2.1
theorem dX3_prepare_181 : decode cX3_prepare 181 = .ok (.getfield 27, 3) := dq_g39.2.2.2.2.2.2.2.2.2.2.1
theorem dX3_prepare_184 : decode cX3_prepare 184 = .ok (.iload 6, 2) := dq_g39.2.2.2.2.2.2.2.2.2.2.2.1
theorem dX3_prepare_186 : decode cX3_prepare 186 = .ok (.iaload, 1) := dq_g39.2.2.2.2.2.2.2.2.2.2.2.2.1
theorem dX3_prepare_187 : decode cX3_prepare 187 = .ok (.ifCond .eq 49, 3) := dq_g39.2.2.2.2.2.2.2.2.2.2.2.2.2.1
theorem dX3_prepare_190 : decode cX3_prepare 190 = .ok (.aload_n 0, 1) := dq_g39.2.2.2.2.2.2.2.2.2.2.2.2.2.2.1
theorem dX3_prepare_191 : decode cX3_prepare 191 = .ok (.getfield 21, 3) := dq_g39.2.2.2.2.2.2.2.2.2.2.2.2.2.2.2.1
theorem dX3_prepare_194 : decode cX3_prepare 194 = .ok (.iload 6, 2) := dq_g39.2.2.2.2.2.2.2.2.2.2.2.2.2.2.2.2.1
theorem dX3_prepare_196 : decode cX3_prepare 196 = .ok (.dup2, 1) := dq_g39.2.2.2.2.2.2.2.2.2.2.2.2.2.2.2.2.2.1
theorem dX3_prepare_197 : decode cX3_prepare 197 = .ok (.iaload, 1) := dq_g39.2.2.2.2.2.2.2.2.2.2.2.2.2.2.2.2.2.2.1
theorem dX3_prepare_198 : decode cX3_prepare 198 = .ok (.aload_n 0, 1) := dq_g39.2.2.2.2.2.2.2.2.2.2.2.2.2.2.2.2.2.2.2.1
theorem dX3_prepare_199 : decode cX3_prepare 199 = .ok (.getfield 15, 3) := dq_g39.2.2.2.2.2.2.2.2.2.2.2.2.2.2.2.2.2.2.2.2.1
theorem dX3_prepare_202 : decode cX3_prepare 202 = .ok (.iload 6, 2) := dq_g39.2.2.2.2.2.2.2.2.2.2.2.2.2.2.2.2.2.2.2.2.2.1
theorem dX3_prepare_204 : decode cX3_prepare 204 = .ok (.iload 5, 2) := dq_g39.2.2.2.2.2.2.2.2.2.2.2.2.2.2.2.2.2.2.2.2.2.2.1
theorem dX3_prepare_206 : decode cX3_prepare 206 = .ok (.iconst 0, 1) := dq_g39.2.2.2.2.2.2.2.2.2.2.2.2.2.2.2.2.2.2.2.2.2.2.2.1
theorem dX3_prepare_207 : decode cX3_prepare 207 = .ok (.invokestatic 82, 3) := dq_g39.2.2.2.2.2.2.2.2.2.2.2.2.2.2.2.2.2.2.2.2.2.2.2.2.1
theorem dX3_prepare_210 : decode cX3_prepare 210 = .ok (.iaload, 1) := dq_g39.2.2.2.2.2.2.2.2.2.2.2.2.2.2.2.2.2.2.2.2.2.2.2.2.2.1
theorem dX3_prepare_211 : decode cX3_prepare 211 = .ok (.iadd, 1) := dq_g39.2.2.2.2.2.2.2.2.2.2.2.2.2.2.2.2.2.2.2.2.2.2.2.2.2.2.1
theorem dX3_prepare_212 : decode cX3_prepare 212 = .ok (.iastore, 1) := dq_g39.2.2.2.2.2.2.2.2.2.2.2.2.2.2.2.2.2.2.2.2.2.2.2.2.2.2.2.1
theorem dX3_prepare_213 : decode cX3_prepare 213 = .ok (.aload_n 0, 1) := dq_g39.2.2.2.2.2.2.2.2.2.2.2.2.2.2.2.2.2.2.2.2.2.2.2.2.2.2.2.2.1
theorem dX3_prepare_214 : decode cX3_prepare 214 = .ok (.getfield 24, 3) := dq_g39.2.2.2.2.2.2.2.2.2.2.2.2.2.2.2.2.2.2.2.2.2.2.2.2.2.2.2.2.2.1
theorem dq_g40 : decode cX3_prepare 217 = .ok (.iload 6, 2) ∧ decode cX3_prepare 219 = .ok (.dup2, 1) ∧ decode cX3_prepare 220 = .ok (.iaload, 1) ∧ decode cX3_prepare 221 = .ok (.aload_n 0, 1) ∧ decode cX3_prepare 222 = .ok (.getfield 18, 3) ∧ decode cX3_prepare 225 = .ok (.iload 6, 2) ∧ decode cX3_prepare 227 = .ok (.iload 5, 2) ∧ decode cX3_prepare 229 = .ok (.iconst 0, 1) ∧ decode cX3_prepare 230 = .ok (.invokestatic 82, 3) ∧ decode cX3_prepare 233 = .ok (.iaload, 1) ∧ decode cX3_prepare 234 = .ok (.iadd, 1) ∧ decode cX3_prepare 235 = .ok (.iastore, 1) ∧ decode cX3_prepare 236 = .ok (.iinc 6 1, 3) ∧ decode cX3_prepare 239 = .ok (.goto (-65), 3) ∧ decode cX3_prepare 242 = .ok (.iinc 5 1, 3) ∧ decode cX3_prepare 245 = .ok (.goto (-173), 3) ∧ decode cX3_prepare 248 = .ok (.return_, 1) ∧ True := dqC_ok (c := cX3_prepare) [(217, 2, some (.iload 6)), (219, 1, some (.dup2)), (220, 1, some (.iaload)), (221, 1, some (.aload_n 0)), (222, 3, some (.getfield 18)), (225, 2, some (.iload 6)), (227, 2, some (.iload 5)), (229, 1, some (.iconst 0)), (230, 3, some (.invokestatic 82)), (233, 1, some (.iaload)), (234, 1, some (.iadd)), (235, 1, some (.iastore)), (236, 3, some (.iinc 6 1)), (239, 3, some (.goto (-65))), (242, 3, some (.iinc 5 1)), (245, 3, some (.goto (-173))), (248, 1, some (.return_))] _ 217 rfl (by decide +kernel)
theorem dX3_prepare_217 : decode cX3_prepare 217 = .ok (.iload 6, 2) := dq_g40.1
theorem dX3_prepare_219 : decode cX3_prepare 219 = .ok (.dup2, 1) := dq_g40.2.1
theorem dX3_prepare_220 : decode cX3_prepare 220 = .ok (.iaload, 1) := dq_g40.2.2.1
theorem dX3_prepare_221 : decode cX3_prepare 221 = .ok (.aload_n 0, 1) := dq_g40.2.2.2.1
theorem dX3_prepare_222 : decode cX3_prepare 222 = .ok (.getfield 18, 3) := dq_g40.2.2.2.2.1
theorem dX3_prepare_225 : decode cX3_prepare 225 = .ok (.iload 6, 2) := dq_g40.2.2.2.2.2.1
theorem dX3_prepare_227 : decode cX3_prepare 227 = .ok (.iload 5, 2) := dq_g40.2.2.2.2.2.2.1
theorem dX3_prepare_229 : decode cX3_prepare 229 = .ok (.iconst 0, 1) := dq_g40.2.2.2.2.2.2.2.1
theorem dX3_prepare_230 : decode cX3_prepare 230 = .ok (.invokestatic 82, 3) := dq_g40.2.2.2.2.2.2.2.2.1
theorem dX3_prepare_233 : decode cX3_prepare 233 = .ok (.iaload, 1) := dq_g40.2.2.2.2.2.2.2.2.2.1
theorem dX3_prepare_234 : decode cX3_prepare 234 = .ok (.iadd, 1) := dq_g40.2.2.2.2.2.2.2.2.2.2.1
theorem dX3_prepare_235 : decode cX3_prepare 235 = .ok (.iastore, 1) := dq_g40.2.2.2.2.2.2.2.2.2.2.2.1
theorem dX3_prepare_236 : decode cX3_prepare 236 = .ok (.iinc 6 1, 3) := dq_g40.2.2.2.2.2.2.2.2.2.2.2.2.1
theorem dX3_prepare_239 : decode cX3_prepare 239 = .ok (.goto (-65), 3) := dq_g40.2.2.2.2.2.2.2.2.2.2.2.2.2.1
theorem dX3_prepare_242 : decode cX3_prepare 242 = .ok (.iinc 5 1, 3) := dq_g40.2.2.2.2.2.2.2.2.2.2.2.2.2.2.1
theorem dX3_prepare_245 : decode cX3_prepare 245 = .ok (.goto (-173), 3) := dq_g40.2.2.2.2.2.2.2.2.2.2.2.2.2.2.2.1
theorem dX3_prepare_248 : decode cX3_prepare 248 = .ok (.return_, 1) := dq_g40.2.2.2.2.2.2.2.2.2.2.2.2.2.2.2.2.1
theorem dq_g41 : decode cX3_fill 0 = .ok (.iconst 0, 1) ∧ decode cX3_fill 1 = .ok (.istore 5, 2) ∧ decode cX3_fill 3 = .ok (.iload 5, 2) ∧ decode cX3_fill 5 = .ok (.iconst 3, 1) ∧ decode cX3_fill 6 = .ok (.if_icmp .ge 61, 3) ∧ decode cX3_fill 9 = .ok (.aload_n 0, 1) ∧ decode cX3_fill 10 = .ok (.getfield 27, 3) ∧ decode cX3_fill 13 = .ok (.iload 5, 2) ∧ decode cX3_fill 15 = .ok (.iaload, 1) ∧ decode cX3_fill 16 = .ok (.ifCond .eq 45, 3) ∧ decode cX3_fill 19 = .ok (.aload_n 0, 1) ∧ decode cX3_fill 20 = .ok (.getfield 15, 3) ∧ decode cX3_fill 23 = .ok (.iload 5, 2) ∧ decode cX3_fill 25 = .ok (.iload_n 3, 1) ∧ decode cX3_fill 26 = .ok (.iload 4, 2) ∧ decode cX3_fill 28 = .ok (.invokestatic 82, 3) ∧ decode cX3_fill 31 = .ok (.aload_n 1, 1) ∧ decode cX3_fill 32 = .ok (.aload_n 2, 1) ∧ decode cX3_fill 33 = .ok (.iconst 0, 1) ∧ decode cX3_fill 34 = .ok (.iload 5, 2) ∧ decode cX3_fill 36 = .ok (.invokevirtual 86, 3) ∧ decode cX3_fill 39 = .ok (.iastore, 1) ∧ decode cX3_fill 40 = .ok (.aload_n 0, 1) ∧ decode cX3_fill 41 = .ok (.getfield 18, 3) ∧ decode cX3_fill 44 = .ok (.iload 5, 2) ∧ decode cX3_fill 46 = .ok (.iload_n 3, 1) ∧ decode cX3_fill 47 = .ok (.iload 4, 2) ∧ decode cX3_fill 49 = .ok (.invokestatic 82, 3) ∧ decode cX3_fill 52 = .ok (.aload_n 1, 1) ∧ decode cX3_fill 53 = .ok (.aload_n 2, 1) ∧ True := dqC_ok (c := cX3_fill) [(0, 1, some (.iconst 0)), (1, 2, some (.istore 5)), (3, 2, some (.iload 5)), (5, 1, some (.iconst 3)), (6, 3, some (.if_icmp .ge 61)), (9, 1, some (.aload_n 0)), (10, 3, some (.getfield 27)), (13, 2, some (.iload 5)), (15, 1, some (.iaload)), (16, 3, some (.ifCond .eq 45)), (19, 1, some (.aload_n 0)), (20, 3, some (.getfield 15)), (23, 2, some (.iload 5)), (25, 1, some (.iload_n 3)), (26, 2, some (.iload 4)), (28, 3, some (.invokestatic 82)), (31, 1, some (.aload_n 1)), (32, 1, some (.aload_n 2)), (33, 1, some (.iconst 0)), (34, 2, some (.iload 5)), (36, 3, some (.invokevirtual 86)), (39, 1, some (.iastore)), (40, 1, some (.aload_n 0)), (41, 3, some (.getfield 18)), (44, 2, some (.iload 5)), (46, 1, some (.iload_n 3)), (47, 2, some (.iload 4)), (49, 3, some (.invokestatic 82)), (52, 1, some (.aload_n 1)), (53, 1, some (.aload_n 2))] _ 0 rfl (by decide +kernel)
theorem dX3_fill_0 : decode cX3_fill 0 = .ok (.iconst 0, 1) := dq_g41.1
theorem dX3_fill_1 : decode cX3_fill 1 = .ok (.istore 5, 2) := dq_g41.2.1
theorem dX3_fill_3 : decode cX3_fill 3 = .ok (.iload 5, 2) := dq_g41.2.2.1
theorem dX3_fill_5 : decode cX3_fill 5 = .ok (.iconst 3, 1) := dq_g41.2.2.2.1
theorem dX3_fill_6 : decode cX3_fill 6 = .ok (.if_icmp .ge 61, 3) := dq_g41.2.2.2.2.1
theorem dX3_fill_9 : decode cX3_fill 9 = .ok (.aload_n 0, 1) := dq_g41.2.2.2.2.2.1
theorem dX3_fill_10 : decode cX3_fill 10 = .ok (.getfield 27, 3) := dq_g41.2.2.2.2.2.2.1
theorem dX3_fill_13 : decode cX3_fill 13 = .ok (.iload 5, 2) := dq_g41.2.2.2.2.2.2.2.1
theorem dX3_fill_15 : decode cX3_fill 15 = .ok (.iaload, 1) := dq_g41.2.2.2.2.2.2.2.2.1
theorem dX3_fill_16 : decode cX3_fill 16 = .ok (.ifCond .eq 45, 3) := dq_g41.2.2.2.2.2.2.2.2.2.1
theorem dX3_fill_19 : decode cX3_fill 19 = .ok (.aload_n 0, 1) := dq_g41.2.2.2.2.2.2.2.2.2.2.1
theorem dX3_fill_20 : decode cX3_fill 20 = .ok (.getfield 15, 3) := dq_g41.2.2.2.2.2.2.2.2.2.2.2.1
theorem dX3_fill_23 : decode cX3_fill 23 = .ok (.iload 5, 2) := dq_g41.2.2.2.2.2.2.2.2.2.2.2.2.1
theorem dX3_fill_25 : decode cX3_fill 25 = .ok (.iload_n 3, 1) := dq_g41.2.2.2.2.2.2.2.2.2.2.2.2.2.1
theorem dX3_fill_26 : decode cX3_fill 26 = .ok (.iload 4, 2) := dq_g41.2.2.2.2.2.2.2.2.2.2.2.2.2.2.1
theorem dX3_fill_28 : decode cX3_fill 28 = .ok (.invokestatic 82, 3) := dq_g41.2.2.2.2.2.2.2.2.2.2.2.2.2.2.2.1
theorem dX3_fill_31 : decode cX3_fill 31 = .ok (.aload_n 1, 1) := dq_g41.2.2.2.2.2.2.2.2.2.2.2.2.2.2.2.2.1
theorem dX3_fill_32 : decode cX3_fill 32 = .ok (.aload_n 2, 1) := dq_g41.2.2.2.2.2.2.2.2.2.2.2.2.2.2.2.2.2.1
theorem dX3_fill_33 : decode cX3_fill 33 = .ok (.iconst 0, 1) := dq_g41.2.2.2.2.2.2.2.2.2.2.2.2.2.2.2.2.2.2.1
theorem dX3_fill_34 : decode cX3_fill 34 = .ok (.iload 5, 2) := dq_g41.2.2.2.2.2.2.2.2.2.2.2.2.2.2.2.2.2.2.2.1
theorem dX3_fill_36 : decode cX3_fill 36 = .ok (.invokevirtual 86, 3) := dq_g41.2.2.2.2.2.2.2.2.2.2.2.2.2.2.2.2.2.2.2.2.1
theorem dX3_fill_39 : decode cX3_fill 39 = .ok (.iastore, 1) := dq_g41.2.2.2.2.2.2.2.2.2.2.2.2.2.2.2.2.2.2.2.2.2.1
theorem dX3_fill_40 : decode cX3_fill 40 = .ok (.aload_n 0, 1) := dq_g41.2.2.2.2.2.2.2.2.2.2.2.2.2.2.2.2.2.2.2.2.2.2.1
theorem dX3_fill_41 : decode cX3_fill 41 = .ok (.getfield 18, 3) := dq_g41.2.2.2.2.2.2.2.2.2.2.2.2.2.2.2.2.2.2.2.2.2.2.2.1
theorem dX3_fill_44 : decode cX3_fill 44 = .ok (.iload 5, 2) := dq_g41.2.2.2.2.2.2.2.2.2.2.2.2.2.2.2.2.2.2.2.2.2.2.2.2.1
theorem dX3_fill_46 : decode cX3_fill 46 = .ok (.iload_n 3, 1) := dq_g41.2.2.2.2.2.2.2.2.2.2.2.2.2.2.2.2.2.2.2.2.2.2.2.2.2.1
theorem dX3_fill_47 : decode cX3_fill 47 = .ok (.iload 4, 2) := dq_g41.2.2.2.2.2.2.2.2.2.2.2.2.2.2.2.2.2.2.2.2.2.2.2.2.2.2.1
theorem dX3_fill_49 : decode cX3_fill 49 = .ok (.invokestatic 82, 3) := dq_g41.2.2.2.2.2.2.2.2.2.2.2.2.2.2.2.2.2.2.2.2.2.2.2.2.2.2.2.1
theorem dX3_fill_52 : decode cX3_fill 52 = .ok (.aload_n 1, 1) := dq_g41.2.2.2.2.2.2.2.2.2.2.2.2.2.2.2.2.2.2.2.2.2.2.2.2.2.2.2.2.1
theorem dX3_fill_53 : decode cX3_fill 53 = .ok (.aload_n 2, 1) := dq_g41.2.2.2.2.2.2.2.2.2.2.2.2.2.2.2.2.2.2.2.2.2.2.2.2.2.2.2.2.2.1
theorem dq_g42 : decode cX3_fill 54 = .ok (.iconst 1, 1) ∧ decode cX3_fill 55 = .ok (.iload 5, 2) ∧ decode cX3_fill 57 = .ok (.invokevirtual 86, 3) ∧ decode cX3_fill 60 = .ok (.iastore, 1) ∧ decode cX3_fill 61 = .ok (.iinc 5 1, 3) ∧ decode cX3_fill 64 = .ok (.goto (-61), 3) ∧ decode cX3_fill 67 = .ok (.return_, 1) ∧ True := dqC_ok (c := cX3_fill) [(54, 1, some (.iconst 1)), (55, 2, some (.iload 5)), (57, 3, some (.invokevirtual 86)), (60, 1, some (.iastore)), (61, 3, some (.iinc 5 1)), (64, 3, some (.goto (-61))), (67, 1, some (.return_))] _ 54 rfl (by decide +kernel)
theorem dX3_fill_54 : decode cX3_fill 54 = .ok (.iconst 1, 1) := dq_g42.1
theorem dX3_fill_55 : decode cX3_fill 55 = .ok (.iload 5, 2) := dq_g42.2.1
theorem dX3_fill_57 : decode cX3_fill 57 = .ok (.invokevirtual 86, 3) := dq_g42.2.2.1
theorem dX3_fill_60 : decode cX3_fill 60 = .ok (.iastore, 1) := dq_g42.2.2.2.1
theorem dX3_fill_61 : decode cX3_fill 61 = .ok (.iinc 5 1, 3) := dq_g42.2.2.2.2.1
theorem dX3_fill_64 : decode cX3_fill 64 = .ok (.goto (-61), 3) := dq_g42.2.2.2.2.2.1
theorem dX3_fill_67 : decode cX3_fill 67 = .ok (.return_, 1) := dq_g42.2.2.2.2.2.2.1
theorem dq_g43 : decode cX3_place 0 = .ok (.iload_n 0, 1) ∧ decode cX3_place 1 = .ok (.bipush 8, 2) ∧ decode cX3_place 3 = .ok (.imul, 1) ∧ decode cX3_place 4 = .ok (.iload_n 1, 1) ∧ decode cX3_place 5 = .ok (.iadd, 1) ∧ decode cX3_place 6 = .ok (.bipush 6, 2) ∧ decode cX3_place 8 = .ok (.imul, 1) ∧ decode cX3_place 9 = .ok (.iload_n 2, 1) ∧ decode cX3_place 10 = .ok (.iadd, 1) ∧ decode cX3_place 11 = .ok (.ireturn, 1) ∧ True := dqC_ok (c := cX3_place) [(0, 1, some (.iload_n 0)), (1, 2, some (.bipush 8)), (3, 1, some (.imul)), (4, 1, some (.iload_n 1)), (5, 1, some (.iadd)), (6, 2, some (.bipush 6)), (8, 1, some (.imul)), (9, 1, some (.iload_n 2)), (10, 1, some (.iadd)), (11, 1, some (.ireturn))] _ 0 rfl (by decide +kernel)
theorem dX3_place_0 : decode cX3_place 0 = .ok (.iload_n 0, 1) := dq_g43.1
theorem dX3_place_1 : decode cX3_place 1 = .ok (.bipush 8, 2) := dq_g43.2.1
theorem dX3_place_3 : decode cX3_place 3 = .ok (.imul, 1) := dq_g43.2.2.1
theorem dX3_place_4 : decode cX3_place 4 = .ok (.iload_n 1, 1) := dq_g43.2.2.2.1
theorem dX3_place_5 : decode cX3_place 5 = .ok (.iadd, 1) := dq_g43.2.2.2.2.1
theorem dX3_place_6 : decode cX3_place 6 = .ok (.bipush 6, 2) := dq_g43.2.2.2.2.2.1
theorem dX3_place_8 : decode cX3_place 8 = .ok (.imul, 1) := dq_g43.2.2.2.2.2.2.1
theorem dX3_place_9 : decode cX3_place 9 = .ok (.iload_n 2, 1) := dq_g43.2.2.2.2.2.2.2.1
theorem dX3_place_10 : decode cX3_place 10 = .ok (.iadd, 1) := dq_g43.2.2.2.2.2.2.2.2.1
theorem dX3_place_11 : decode cX3_place 11 = .ok (.ireturn, 1) := dq_g43.2.2.2.2.2.2.2.2.2.1
theorem dq_g44 : decode cX3_find 0 = .ok (.aload_n 0, 1) ∧ decode cX3_find 1 = .ok (.invokevirtual 90, 3) ∧ decode cX3_find 4 = .ok (.ifCond .eq 5, 3) ∧ decode cX3_find 7 = .ok (.iconst 0, 1) ∧ decode cX3_find 8 = .ok (.ireturn, 1) ∧ decode cX3_find 9 = .ok (.iconst 1, 1) ∧ decode cX3_find 10 = .ok (.istore_n 1, 1) ∧ decode cX3_find 11 = .ok (.iload_n 1, 1) ∧ decode cX3_find 12 = .ok (.iconst 5, 1) ∧ decode cX3_find 13 = .ok (.if_icmp .gt 27, 3) ∧ decode cX3_find 16 = .ok (.aload_n 0, 1) ∧ decode cX3_find 17 = .ok (.getfield 39, 3) ∧ decode cX3_find 20 = .ok (.invokevirtual 94, 3) ∧ decode cX3_find 23 = .ok (.aload_n 0, 1) ∧ decode cX3_find 24 = .ok (.iconst 0, 1) ∧ decode cX3_find 25 = .ok (.iload_n 1, 1) ∧ decode cX3_find 26 = .ok (.invokevirtual 97, 3) ∧ decode cX3_find 29 = .ok (.ifCond .eq 5, 3) ∧ decode cX3_find 32 = .ok (.iload_n 1, 1) ∧ decode cX3_find 33 = .ok (.ireturn, 1) ∧ decode cX3_find 34 = .ok (.iinc 1 1, 3) ∧ decode cX3_find 37 = .ok (.goto (-26), 3) ∧ decode cX3_find 40 = .ok (.iconst (-1), 1) ∧ decode cX3_find 41 = .ok (.ireturn, 1) ∧ True := dqC_ok (c := cX3_find) [(0, 1, some (.aload_n 0)), (1, 3, some (.invokevirtual 90)), (4, 3, some (.ifCond .eq 5)), (7, 1, some (.iconst 0)), (8, 1, some (.ireturn)), (9, 1, some (.iconst 1)), (10, 1, some (.istore_n 1)), (11, 1, some (.iload_n 1)), (12, 1, some (.iconst 5)), (13, 3, some (.if_icmp .gt 27)), (16, 1, some (.aload_n 0)), (17, 3, some (.getfield 39)), (20, 3, some (.invokevirtual 94)), (23, 1, some (.aload_n 0)), (24, 1, some (.iconst 0)), (25, 1, some (.iload_n 1)), (26, 3, some (.invokevirtual 97)), (29, 3, some (.ifCond .eq 5)), (32, 1, some (.iload_n 1)), (33, 1, some (.ireturn)), (34, 3, some (.iinc 1 1)), (37, 3, some (.goto (-26))), (40, 1, some (.iconst (-1))), (41, 1, some (.ireturn))] _ 0 rfl (by decide +kernel)
theorem dX3_find_0 : decode cX3_find 0 = .ok (.aload_n 0, 1) := dq_g44.1
theorem dX3_find_1 : decode cX3_find 1 = .ok (.invokevirtual 90, 3) := dq_g44.2.1
theorem dX3_find_4 : decode cX3_find 4 = .ok (.ifCond .eq 5, 3) := dq_g44.2.2.1
theorem dX3_find_7 : decode cX3_find 7 = .ok (.iconst 0, 1) := dq_g44.2.2.2.1
theorem dX3_find_8 : decode cX3_find 8 = .ok (.ireturn, 1) := dq_g44.2.2.2.2.1
theorem dX3_find_9 : decode cX3_find 9 = .ok (.iconst 1, 1) := dq_g44.2.2.2.2.2.1
theorem dX3_find_10 : decode cX3_find 10 = .ok (.istore_n 1, 1) := dq_g44.2.2.2.2.2.2.1
theorem dX3_find_11 : decode cX3_find 11 = .ok (.iload_n 1, 1) := dq_g44.2.2.2.2.2.2.2.1
theorem dX3_find_12 : decode cX3_find 12 = .ok (.iconst 5, 1) := dq_g44.2.2.2.2.2.2.2.2.1
theorem dX3_find_13 : decode cX3_find 13 = .ok (.if_icmp .gt 27, 3) := dq_g44.2.2.2.2.2.2.2.2.2.1
theorem dX3_find_16 : decode cX3_find 16 = .ok (.aload_n 0, 1) := dq_g44.2.2.2.2.2.2.2.2.2.2.1
theorem dX3_find_17 : decode cX3_find 17 = .ok (.getfield 39, 3) := dq_g44.2.2.2.2.2.2.2.2.2.2.2.1
theorem dX3_find_20 : decode cX3_find 20 = .ok (.invokevirtual 94, 3) := dq_g44.2.2.2.2.2.2.2.2.2.2.2.2.1
theorem dX3_find_23 : decode cX3_find 23 = .ok (.aload_n 0, 1) := dq_g44.2.2.2.2.2.2.2.2.2.2.2.2.2.1
theorem dX3_find_24 : decode cX3_find 24 = .ok (.iconst 0, 1) := dq_g44.2.2.2.2.2.2.2.2.2.2.2.2.2.2.1
theorem dX3_find_25 : decode cX3_find 25 = .ok (.iload_n 1, 1) := dq_g44.2.2.2.2.2.2.2.2.2.2.2.2.2.2.2.1
theorem dX3_find_26 : decode cX3_find 26 = .ok (.invokevirtual 97, 3) := dq_g44.2.2.2.2.2.2.2.2.2.2.2.2.2.2.2.2.1
theorem dX3_find_29 : decode cX3_find 29 = .ok (.ifCond .eq 5, 3) := dq_g44.2.2.2.2.2.2.2.2.2.2.2.2.2.2.2.2.2.1
theorem dX3_find_32 : decode cX3_find 32 = .ok (.iload_n 1, 1) := dq_g44.2.2.2.2.2.2.2.2.2.2.2.2.2.2.2.2.2.2.1
theorem dX3_find_33 : decode cX3_find 33 = .ok (.ireturn, 1) := dq_g44.2.2.2.2.2.2.2.2.2.2.2.2.2.2.2.2.2.2.2.1
theorem dX3_find_34 : decode cX3_find 34 = .ok (.iinc 1 1, 3) := dq_g44.2.2.2.2.2.2.2.2.2.2.2.2.2.2.2.2.2.2.2.2.1
theorem dX3_find_37 : decode cX3_find 37 = .ok (.goto (-26), 3) := dq_g44.2.2.2.2.2.2.2.2.2.2.2.2.2.2.2.2.2.2.2.2.2.1
theorem dX3_find_40 : decode cX3_find 40 = .ok (.iconst (-1), 1) := dq_g44.2.2.2.2.2.2.2.2.2.2.2.2.2.2.2.2.2.2.2.2.2.2.1
theorem dX3_find_41 : decode cX3_find 41 = .ok (.ireturn, 1) := dq_g44.2.2.2.2.2.2.2.2.2.2.2.2.2.2.2.2.2.2.2.2.2.2.2.1
theorem dq_g45 : decode cX3_goOn 0 = .ok (.iload_n 1, 1) ∧ decode cX3_goOn 1 = .ok (.iload_n 2, 1) ∧ decode cX3_goOn 2 = .ok (.if_icmp .ge 8, 3) ∧ decode cX3_goOn 5 = .ok (.iload_n 1, 1) ∧ decode cX3_goOn 6 = .ok (.iconst 5, 1) ∧ decode cX3_goOn 7 = .ok (.if_icmp .lt 5, 3) ∧ decode cX3_goOn 10 = .ok (.iconst 0, 1) ∧ decode cX3_goOn 11 = .ok (.ireturn, 1) ∧ decode cX3_goOn 12 = .ok (.iload_n 1, 1) ∧ decode cX3_goOn 13 = .ok (.iconst 1, 1) ∧ decode cX3_goOn 14 = .ok (.iadd, 1) ∧ decode cX3_goOn 15 = .ok (.iload_n 2, 1) ∧ decode cX3_goOn 16 = .ok (.if_icmp .ne 7, 3) ∧ decode cX3_goOn 19 = .ok (.iconst 1, 1) ∧ decode cX3_goOn 20 = .ok (.goto 4, 3) ∧ decode cX3_goOn 23 = .ok (.iconst 0, 1) ∧ decode cX3_goOn 24 = .ok (.istore_n 3, 1) ∧ decode cX3_goOn 25 = .ok (.iconst 0, 1) ∧ decode cX3_goOn 26 = .ok (.istore 4, 2) ∧ decode cX3_goOn 28 = .ok (.iload 4, 2) ∧ decode cX3_goOn 30 = .ok (.aload_n 0, 1) ∧ decode cX3_goOn 31 = .ok (.getfield 55, 3) ∧ decode cX3_goOn 34 = .ok (.if_icmp .ge 61, 3) ∧ decode cX3_goOn 37 = .ok (.aload_n 0, 1) ∧ decode cX3_goOn 38 = .ok (.getfield 30, 3) ∧ decode cX3_goOn 41 = .ok (.iload 4, 2) ∧ decode cX3_goOn 43 = .ok (.iaload, 1) ∧ decode cX3_goOn 44 = .ok (.aload_n 0, 1) ∧ decode cX3_goOn 45 = .ok (.getfield 33, 3) ∧ decode cX3_goOn 48 = .ok (.iload 4, 2) ∧ True := dqC_ok (c := cX3_goOn) [(0, 1, some (.iload_n 1)), (1, 1, some (.iload_n 2)), (2, 3, some (.if_icmp .ge 8)), (5, 1, some (.iload_n 1)), (6, 1, some (.iconst 5)), (7, 3, some (.if_icmp .lt 5)), (10, 1, some (.iconst 0)), (11, 1, some (.ireturn)), (12, 1, some (.iload_n 1)), (13, 1, some (.iconst 1)), (14, 1, some (.iadd)), (15, 1, some (.iload_n 2)), (16, 3, some (.if_icmp .ne 7)), (19, 1, some (.iconst 1)), (20, 3, some (.goto 4)), (23, 1, some (.iconst 0)), (24, 1, some (.istore_n 3)), (25, 1, some (.iconst 0)), (26, 2, some (.istore 4)), (28, 2, some (.iload 4)), (30, 1, some (.aload_n 0)), (31, 3, some (.getfield 55)), (34, 3, some (.if_icmp .ge 61)), (37, 1, some (.aload_n 0)), (38, 3, some (.getfield 30)), (41, 2, some (.iload 4)), (43, 1, some (.iaload)), (44, 1, some (.aload_n 0)), (45, 3, some (.getfield 33)), (48, 2, some (.iload 4))] _ 0 rfl (by decide +kernel)
theorem dX3_goOn_0 : decode cX3_goOn 0 = .ok (.iload_n 1, 1) := dq_g45.1
theorem dX3_goOn_1 : decode cX3_goOn 1 = .ok (.iload_n 2, 1) := dq_g45.2.1
theorem dX3_goOn_2 : decode cX3_goOn 2 = .ok (.if_icmp .ge 8, 3) := dq_g45.2.2.1
theorem dX3_goOn_5 : decode cX3_goOn 5 = .ok (.iload_n 1, 1) := dq_g45.2.2.2.1
theorem dX3_goOn_6 : decode cX3_goOn 6 = .ok (.iconst 5, 1) := dq_g45.2.2.2.2.1
theorem dX3_goOn_7 : decode cX3_goOn 7 = .ok (.if_icmp .lt 5, 3) := dq_g45.2.2.2.2.2.1
theorem dX3_goOn_10 : decode cX3_goOn 10 = .ok (.iconst 0, 1) := dq_g45.2.2.2.2.2.2.1
theorem dX3_goOn_11 : decode cX3_goOn 11 = .ok (.ireturn, 1) := dq_g45.2.2.2.2.2.2.2.1
theorem dX3_goOn_12 : decode cX3_goOn 12 = .ok (.iload_n 1, 1) := dq_g45.2.2.2.2.2.2.2.2.1
theorem dX3_goOn_13 : decode cX3_goOn 13 = .ok (.iconst 1, 1) := dq_g45.2.2.2.2.2.2.2.2.2.1
theorem dX3_goOn_14 : decode cX3_goOn 14 = .ok (.iadd, 1) := dq_g45.2.2.2.2.2.2.2.2.2.2.1
theorem dX3_goOn_15 : decode cX3_goOn 15 = .ok (.iload_n 2, 1) := dq_g45.2.2.2.2.2.2.2.2.2.2.2.1
theorem dX3_goOn_16 : decode cX3_goOn 16 = .ok (.if_icmp .ne 7, 3) := dq_g45.2.2.2.2.2.2.2.2.2.2.2.2.1
theorem dX3_goOn_19 : decode cX3_goOn 19 = .ok (.iconst 1, 1) := dq_g45.2.2.2.2.2.2.2.2.2.2.2.2.2.1
theorem dX3_goOn_20 : decode cX3_goOn 20 = .ok (.goto 4, 3) := dq_g45.2.2.2.2.2.2.2.2.2.2.2.2.2.2.1
theorem dX3_goOn_23 : decode cX3_goOn 23 = .ok (.iconst 0, 1) := dq_g45.2.2.2.2.2.2.2.2.2.2.2.2.2.2.2.1
theorem dX3_goOn_24 : decode cX3_goOn 24 = .ok (.istore_n 3, 1) := dq_g45.2.2.2.2.2.2.2.2.2.2.2.2.2.2.2.2.1
theorem dX3_goOn_25 : decode cX3_goOn 25 = .ok (.iconst 0, 1) := dq_g45.2.2.2.2.2.2.2.2.2.2.2.2.2.2.2.2.2.1
theorem dX3_goOn_26 : decode cX3_goOn 26 = .ok (.istore 4, 2) := dq_g45.2.2.2.2.2.2.2.2.2.2.2.2.2.2.2.2.2.2.1
theorem dX3_goOn_28 : decode cX3_goOn 28 = .ok (.iload 4, 2) := dq_g45.2.2.2.2.2.2.2.2.2.2.2.2.2.2.2.2.2.2.2.1
theorem dX3_goOn_30 : decode cX3_goOn 30 = .ok (.aload_n 0, 1) := dq_g45.2.2.2.2.2.2.2.2.2.2.2.2.2.2.2.2.2.2.2.2.1
theorem dX3_goOn_31 : decode cX3_goOn 31 = .ok (.getfield 55, 3) := dq_g45.2.2.2.2.2.2.2.2.2.2.2.2.2.2.2.2.2.2.2.2.2.1
theorem dX3_goOn_34 : decode cX3_goOn 34 = .ok (.if_icmp .ge 61, 3) := dq_g45.2.2.2.2.2.2.2.2.2.2.2.2.2.2.2.2.2.2.2.2.2.2.1
theorem dX3_goOn_37 : decode cX3_goOn 37 = .ok (.aload_n 0, 1) := dq_g45.2.2.2.2.2.2.2.2.2.2.2.2.2.2.2.2.2.2.2.2.2.2.2.1
theorem dX3_goOn_38 : decode cX3_goOn 38 = .ok (.getfield 30, 3) := dq_g45.2.2.2.2.2.2.2.2.2.2.2.2.2.2.2.2.2.2.2.2.2.2.2.2.1
theorem dX3_goOn_41 : decode cX3_goOn 41 = .ok (.iload 4, 2) := dq_g45.2.2.2.2.2.2.2.2.2.2.2.2.2.2.2.2.2.2.2.2.2.2.2.2.2.1
theorem dX3_goOn_43 : decode cX3_goOn 43 = .ok (.iaload, 1) := dq_g45.2.2.2.2.2.2.2.2.2.2.2.2.2.2.2.2.2.2.2.2.2.2.2.2.2.2.1
theorem dX3_goOn_44 : decode cX3_goOn 44 = .ok (.aload_n 0, 1) := dq_g45.2.2.2.2.2.2.2.2.2.2.2.2.2.2.2.2.2.2.2.2.2.2.2.2.2.2.2.1
theorem dX3_goOn_45 : decode cX3_goOn 45 = .ok (.getfield 33, 3) := dq_g45.2.2.2.2.2.2.2.2.2.2.2.2.2.2.2.2.2.2.2.2.2.2.2.2.2.2.2.2.1
theorem dX3_goOn_48 : decode cX3_goOn 48 = .ok (.iload 4, 2) := dq_g45.2.2.2.2.2.2.2.2.2.2.2.2.2.2.2.2.2.2.2.2.2.2.2.2.2.2.2.2.2.1
theorem dq_g46 : decode cX3_goOn 50 = .ok (.iaload, 1) ∧ decode cX3_goOn 51 = .ok (.if_icmp .ge 38, 3) ∧ decode cX3_goOn 54 = .ok (.aload_n 0, 1) ∧ decode cX3_goOn 55 = .ok (.iload 4, 2) ∧ decode cX3_goOn 57 = .ok (.iload_n 3, 1) ∧ decode cX3_goOn 58 = .ok (.invokevirtual 101, 3) ∧ decode cX3_goOn 61 = .ok (.ifCond .eq 28, 3) ∧ decode cX3_goOn 64 = .ok (.aload_n 0, 1) ∧ decode cX3_goOn 65 = .ok (.getfield 11, 3) ∧ decode cX3_goOn 68 = .ok (.iload_n 1, 1) ∧ decode cX3_goOn 69 = .ok (.iload 4, 2) ∧ decode cX3_goOn 71 = .ok (.iastore, 1) ∧ decode cX3_goOn 72 = .ok (.iload_n 3, 1) ∧ decode cX3_goOn 73 = .ok (.ifCond .ne 14, 3) ∧ decode cX3_goOn 76 = .ok (.aload_n 0, 1) ∧ decode cX3_goOn 77 = .ok (.iload 4, 2) ∧ decode cX3_goOn 79 = .ok (.iload_n 1, 1) ∧ decode cX3_goOn 80 = .ok (.iload_n 2, 1) ∧ decode cX3_goOn 81 = .ok (.invokevirtual 105, 3) ∧ decode cX3_goOn 84 = .ok (.ifCond .eq 5, 3) ∧ decode cX3_goOn 87 = .ok (.iconst 1, 1) ∧ decode cX3_goOn 88 = .ok (.ireturn, 1) ∧ decode cX3_goOn 89 = .ok (.iinc 4 1, 3) ∧ decode cX3_goOn 92 = .ok (.goto (-64), 3) ∧ decode cX3_goOn 95 = .ok (.iconst 0, 1) ∧ decode cX3_goOn 96 = .ok (.ireturn, 1) ∧ True := dqC_ok (c := cX3_goOn) [(50, 1, some (.iaload)), (51, 3, some (.if_icmp .ge 38)), (54, 1, some (.aload_n 0)), (55, 2, some (.iload 4)), (57, 1, some (.iload_n 3)), (58, 3, some (.invokevirtual 101)), (61, 3, some (.ifCond .eq 28)), (64, 1, some (.aload_n 0)), (65, 3, some (.getfield 11)), (68, 1, some (.iload_n 1)), (69, 2, some (.iload 4)), (71, 1, some (.iastore)), (72, 1, some (.iload_n 3)), (73, 3, some (.ifCond .ne 14)), (76, 1, some (.aload_n 0)), (77, 2, some (.iload 4)), (79, 1, some (.iload_n 1)), (80, 1, some (.iload_n 2)), (81, 3, some (.invokevirtual 105)), (84, 3, some (.ifCond .eq 5)), (87, 1, some (.iconst 1)), (88, 1, some (.ireturn)), (89, 3, some (.iinc 4 1)), (92, 3, some (.goto (-64))), (95, 1, some (.iconst 0)), (96, 1, some (.ireturn))] _ 50 rfl (by decide +kernel)
theorem dX3_goOn_50 : decode cX3_goOn 50 = .ok (.iaload, 1) := dq_g46.1
theorem dX3_goOn_51 : decode cX3_goOn 51 = .ok (.if_icmp .ge 38, 3) := dq_g46.2.1
theorem dX3_goOn_54 : decode cX3_goOn 54 = .ok (.aload_n 0, 1) := dq_g46.2.2.1
theorem dX3_goOn_55 : decode cX3_goOn 55 = .ok (.iload 4, 2) := dq_g46.2.2.2.1
theorem dX3_goOn_57 : decode cX3_goOn 57 = .ok (.iload_n 3, 1) := dq_g46.2.2.2.2.1
theorem dX3_goOn_58 : decode cX3_goOn 58 = .ok (.invokevirtual 101, 3) := dq_g46.2.2.2.2.2.1
theorem dX3_goOn_61 : decode cX3_goOn 61 = .ok (.ifCond .eq 28, 3) := dq_g46.2.2.2.2.2.2.1
theorem dX3_goOn_64 : decode cX3_goOn 64 = .ok (.aload_n 0, 1) := dq_g46.2.2.2.2.2.2.2.1
theorem dX3_goOn_65 : decode cX3_goOn 65 = .ok (.getfield 11, 3) := dq_g46.2.2.2.2.2.2.2.2.1
theorem dX3_goOn_68 : decode cX3_goOn 68 = .ok (.iload_n 1, 1) := dq_g46.2.2.2.2.2.2.2.2.2.1
theorem dX3_goOn_69 : decode cX3_goOn 69 = .ok (.iload 4, 2) := dq_g46.2.2.2.2.2.2.2.2.2.2.1
theorem dX3_goOn_71 : decode cX3_goOn 71 = .ok (.iastore, 1) := dq_g46.2.2.2.2.2.2.2.2.2.2.2.1
theorem dX3_goOn_72 : decode cX3_goOn 72 = .ok (.iload_n 3, 1) := dq_g46.2.2.2.2.2.2.2.2.2.2.2.2.1
theorem dX3_goOn_73 : decode cX3_goOn 73 = .ok (.ifCond .ne 14, 3) := dq_g46.2.2.2.2.2.2.2.2.2.2.2.2.2.1
theorem dX3_goOn_76 : decode cX3_goOn 76 = .ok (.aload_n 0, 1) := dq_g46.2.2.2.2.2.2.2.2.2.2.2.2.2.2.1
theorem dX3_goOn_77 : decode cX3_goOn 77 = .ok (.iload 4, 2) := dq_g46.2.2.2.2.2.2.2.2.2.2.2.2.2.2.2.1
theorem dX3_goOn_79 : decode cX3_goOn 79 = .ok (.iload_n 1, 1) := dq_g46.2.2.2.2.2.2.2.2.2.2.2.2.2.2.2.2.1
theorem dX3_goOn_80 : decode cX3_goOn 80 = .ok (.iload_n 2, 1) := dq_g46.2.2.2.2.2.2.2.2.2.2.2.2.2.2.2.2.2.1
theorem dX3_goOn_81 : decode cX3_goOn 81 = .ok (.invokevirtual 105, 3) := dq_g46.2.2.2.2.2.2.2.2.2.2.2.2.2.2.2.2.2.2.1
theorem dX3_goOn_84 : decode cX3_goOn 84 = .ok (.ifCond .eq 5, 3) := dq_g46.2.2.2.2.2.2.2.2.2.2.2.2.2.2.2.2.2.2.2.1
theorem dX3_goOn_87 : decode cX3_goOn 87 = .ok (.iconst 1, 1) := dq_g46.2.2.2.2.2.2.2.2.2.2.2.2.2.2.2.2.2.2.2.2.1
theorem dX3_goOn_88 : decode cX3_goOn 88 = .ok (.ireturn, 1) := dq_g46.2.2.2.2.2.2.2.2.2.2.2.2.2.2.2.2.2.2.2.2.2.1
theorem dX3_goOn_89 : decode cX3_goOn 89 = .ok (.iinc 4 1, 3) := dq_g46.2.2.2.2.2.2.2.2.2.2.2.2.2.2.2.2.2.2.2.2.2.2.1
theorem dX3_goOn_92 : decode cX3_goOn 92 = .ok (.goto (-64), 3) := dq_g46.2.2.2.2.2.2.2.2.2.2.2.2.2.2.2.2.2.2.2.2.2.2.2.1
theorem dX3_goOn_95 : decode cX3_goOn 95 = .ok (.iconst 0, 1) := dq_g46.2.2.2.2.2.2.2.2.2.2.2.2.2.2.2.2.2.2.2.2.2.2.2.2.1
theorem dX3_goOn_96 : decode cX3_goOn 96 = .ok (.ireturn, 1) := dq_g46.2.2.2.2.2.2.2.2.2.2.2.2.2.2.2.2.2.2.2.2.2.2.2.2.2.1
theorem dq_g47 : decode cX3_isReached 0 = .ok (.aload_n 0, 1) ∧ decode cX3_isReached 1 = .ok (.iload_n 1, 1) ∧ decode cX3_isReached 2 = .ok (.iconst 1, 1) ∧ decode cX3_isReached 3 = .ok (.invokevirtual 109, 3) ∧ decode cX3_isReached 6 = .ok (.aload_n 0, 1) ∧ decode cX3_isReached 7 = .ok (.getfield 39, 3) ∧ decode cX3_isReached 10 = .ok (.aload_n 0, 1) ∧ decode cX3_isReached 11 = .ok (.getfield 59, 3) ∧ decode cX3_isReached 14 = .ok (.invokevirtual 113, 3) ∧ decode cX3_isReached 17 = .ok (.ifCond .eq 18, 3) ∧ decode cX3_isReached 20 = .ok (.aload_n 0, 1) ∧ decode cX3_isReached 21 = .ok (.iload_n 2, 1) ∧ decode cX3_isReached 22 = .ok (.iconst 1, 1) ∧ decode cX3_isReached 23 = .ok (.iadd, 1) ∧ decode cX3_isReached 24 = .ok (.iload_n 3, 1) ∧ decode cX3_isReached 25 = .ok (.invokevirtual 97, 3) ∧ decode cX3_isReached 28 = .ok (.ifCond .eq 7, 3) ∧ decode cX3_isReached 31 = .ok (.iconst 1, 1) ∧ decode cX3_isReached 32 = .ok (.goto 4, 3) ∧ decode cX3_isReached 35 = .ok (.iconst 0, 1) ∧ decode cX3_isReached 36 = .ok (.istore 4, 2) ∧ decode cX3_isReached 38 = .ok (.aload_n 0, 1) ∧ decode cX3_isReached 39 = .ok (.iload_n 1, 1) ∧ decode cX3_isReached 40 = .ok (.iconst (-1), 1) ∧ decode cX3_isReached 41 = .ok (.invokevirtual 109, 3) ∧ decode cX3_isReached 44 = .ok (.iload 4, 2) ∧ decode cX3_isReached 46 = .ok (.ireturn, 1) ∧ True := dqC_ok (c := cX3_isReached) [(0, 1, some (.aload_n 0)), (1, 1, some (.iload_n 1)), (2, 1, some (.iconst 1)), (3, 3, some (.invokevirtual 109)), (6, 1, some (.aload_n 0)), (7, 3, some (.getfield 39)), (10, 1, some (.aload_n 0)), (11, 3, some (.getfield 59)), (14, 3, some (.invokevirtual 113)), (17, 3, some (.ifCond .eq 18)), (20, 1, some (.aload_n 0)), (21, 1, some (.iload_n 2)), (22, 1, some (.iconst 1)), (23, 1, some (.iadd)), (24, 1, some (.iload_n 3)), (25, 3, some (.invokevirtual 97)), (28, 3, some (.ifCond .eq 7)), (31, 1, some (.iconst 1)), (32, 3, some (.goto 4)), (35, 1, some (.iconst 0)), (36, 2, some (.istore 4)), (38, 1, some (.aload_n 0)), (39, 1, some (.iload_n 1)), (40, 1, some (.iconst (-1))), (41, 3, some (.invokevirtual 109)), (44, 2, some (.iload 4)), (46, 1, some (.ireturn))] _ 0 rfl (by decide +kernel)
theorem dX3_isReached_0 : decode cX3_isReached 0 = .ok (.aload_n 0, 1) := dq_g47.1
theorem dX3_isReached_1 : decode cX3_isReached 1 = .ok (.iload_n 1, 1) := dq_g47.2.1
theorem dX3_isReached_2 : decode cX3_isReached 2 = .ok (.iconst 1, 1) := dq_g47.2.2.1
theorem dX3_isReached_3 : decode cX3_isReached 3 = .ok (.invokevirtual 109, 3) := dq_g47.2.2.2.1
theorem dX3_isReached_6 : decode cX3_isReached 6 = .ok (.aload_n 0, 1) := dq_g47.2.2.2.2.1
theorem dX3_isReached_7 : decode cX3_isReached 7 = .ok (.getfield 39, 3) := dq_g47.2.2.2.2.2.1
theorem dX3_isReached_10 : decode cX3_isReached 10 = .ok (.aload_n 0, 1) := dq_g47.2.2.2.2.2.2.1
theorem dX3_isReached_11 : decode cX3_isReached 11 = .ok (.getfield 59, 3) := dq_g47.2.2.2.2.2.2.2.1
theorem dX3_isReached_14 : decode cX3_isReached 14 = .ok (.invokevirtual 113, 3) := dq_g47.2.2.2.2.2.2.2.2.1
theorem dX3_isReached_17 : decode cX3_isReached 17 = .ok (.ifCond .eq 18, 3) := dq_g47.2.2.2.2.2.2.2.2.2.1
theorem dX3_isReached_20 : decode cX3_isReached 20 = .ok (.aload_n 0, 1) := dq_g47.2.2.2.2.2.2.2.2.2.2.1
theorem dX3_isReached_21 : decode cX3_isReached 21 = .ok (.iload_n 2, 1) := dq_g47.2.2.2.2.2.2.2.2.2.2.2.1
theorem dX3_isReached_22 : decode cX3_isReached 22 = .ok (.iconst 1, 1) := dq_g47.2.2.2.2.2.2.2.2.2.2.2.2.1
theorem dX3_isReached_23 : decode cX3_isReached 23 = .ok (.iadd, 1) := dq_g47.2.2.2.2.2.2.2.2.2.2.2.2.2.1
theorem dX3_isReached_24 : decode cX3_isReached 24 = .ok (.iload_n 3, 1) := dq_g47.2.2.2.2.2.2.2.2.2.2.2.2.2.2.1
theorem dX3_isReached_25 : decode cX3_isReached 25 = .ok (.invokevirtual 97, 3) := dq_g47.2.2.2.2.2.2.2.2.2.2.2.2.2.2.2.1
theorem dX3_isReached_28 : decode cX3_isReached 28 = .ok (.ifCond .eq 7, 3) := dq_g47.2.2.2.2.2.2.2.2.2.2.2.2.2.2.2.2.1
theorem dX3_isReached_31 : decode cX3_isReached 31 = .ok (.iconst 1, 1) := dq_g47.2.2.2.2.2.2.2.2.2.2.2.2.2.2.2.2.2.1
theorem dX3_isReached_32 : decode cX3_isReached 32 = .ok (.goto 4, 3) := dq_g47.2.2.2.2.2.2.2.2.2.2.2.2.2.2.2.2.2.2.1
theorem dX3_isReached_35 : decode cX3_isReached 35 = .ok (.iconst 0, 1) := dq_g47.2.2.2.2.2.2.2.2.2.2.2.2.2.2.2.2.2.2.2.1
theorem dX3_isReached_36 : decode cX3_isReached 36 = .ok (.istore 4, 2) := dq_g47.2.2.2.2.2.2.2.2.2.2.2.2.2.2.2.2.2.2.2.2.1
theorem dX3_isReached_38 : decode cX3_isReached 38 = .ok (.aload_n 0, 1) := dq_g47.2.2.2.2.2.2.2.2.2.2.2.2.2.2.2.2.2.2.2.2.2.1
theorem dX3_isReached_39 : decode cX3_isReached 39 = .ok (.iload_n 1, 1) := dq_g47.2.2.2.2.2.2.2.2.2.2.2.2.2.2.2.2.2.2.2.2.2.2.1
theorem dX3_isReached_40 : decode cX3_isReached 40 = .ok (.iconst (-1), 1) := dq_g47.2.2.2.2.2.2.2.2.2.2.2.2.2.2.2.2.2.2.2.2.2.2.2.1
theorem dX3_isReached_41 : decode cX3_isReached 41 = .ok (.invokevirtual 109, 3) := dq_g47.2.2.2.2.2.2.2.2.2.2.2.2.2.2.2.2.2.2.2.2.2.2.2.2.1
theorem dX3_isReached_44 : decode cX3_isReached 44 = .ok (.iload 4, 2) := dq_g47.2.2.2.2.2.2.2.2.2.2.2.2.2.2.2.2.2.2.2.2.2.2.2.2.2.1
theorem dX3_isReached_46 : decode cX3_isReached 46 = .ok (.ireturn, 1) := dq_g47.2.2.2.2.2.2.2.2.2.2.2.2.2.2.2.2.2.2.2.2.2.2.2.2.2.2.1
theorem dq_g48 : decode cX3_move 0 = .ok (.aload_n 0, 1) ∧ decode cX3_move 1 = .ok (.getfield 30, 3) ∧ decode cX3_move 4 = .ok (.iload_n 1, 1) ∧ decode cX3_move 5 = .ok (.iaload, 1) ∧ decode cX3_move 6 = .ok (.istore_n 3, 1) ∧ decode cX3_move 7 = .ok (.aload_n 0, 1) ∧ decode cX3_move 8 = .ok (.getfield 30, 3) ∧ decode cX3_move 11 = .ok (.iload_n 1, 1) ∧ decode cX3_move 12 = .ok (.dup2, 1) ∧ decode cX3_move 13 = .ok (.iaload, 1) ∧ decode cX3_move 14 = .ok (.iload_n 2, 1) ∧ decode cX3_move 15 = .ok (.iadd, 1) ∧ decode cX3_move 16 = .ok (.iastore, 1) ∧ decode cX3_move 17 = .ok (.aload_n 0, 1) ∧ decode cX3_move 18 = .ok (.dup, 1) ∧ decode cX3_move 19 = .ok (.getfield 59, 3) ∧ decode cX3_move 22 = .ok (.iload_n 2, 1) ∧ decode cX3_move 23 = .ok (.iconst 3, 1) ∧ decode cX3_move 24 = .ok (.iload_n 1, 1) ∧ decode cX3_move 25 = .ok (.imul, 1) ∧ decode cX3_move 26 = .ok (.ishl, 1) ∧ decode cX3_move 27 = .ok (.iadd, 1) ∧ decode cX3_move 28 = .ok (.putfield 59, 3) ∧ decode cX3_move 31 = .ok (.iconst 0, 1) ∧ decode cX3_move 32 = .ok (.istore 4, 2) ∧ decode cX3_move 34 = .ok (.iload 4, 2) ∧ decode cX3_move 36 = .ok (.iconst 3, 1) ∧ decode cX3_move 37 = .ok (.if_icmp .ge 82, 3) ∧ decode cX3_move 40 = .ok (.aload_n 0, 1) ∧ decode cX3_move 41 = .ok (.getfield 27, 3) ∧ True := dqC_ok (c := cX3_move) [(0, 1, some (.aload_n 0)), (1, 3, some (.getfield 30)), (4, 1, some (.iload_n 1)), (5, 1, some (.iaload)), (6, 1, some (.istore_n 3)), (7, 1, some (.aload_n 0)), (8, 3, some (.getfield 30)), (11, 1, some (.iload_n 1)), (12, 1, some (.dup2)), (13, 1, some (.iaload)), (14, 1, some (.iload_n 2)), (15, 1, some (.iadd)), (16, 1, some (.iastore)), (17, 1, some (.aload_n 0)), (18, 1, some (.dup)), (19, 3, some (.getfield 59)), (22, 1, some (.iload_n 2)), (23, 1, some (.iconst 3)), (24, 1, some (.iload_n 1)), (25, 1, some (.imul)), (26, 1, some (.ishl)), (27, 1, some (.iadd)), (28, 3, some (.putfield 59)), (31, 1, some (.iconst 0)), (32, 2, some (.istore 4)), (34, 2, some (.iload 4)), (36, 1, some (.iconst 3)), (37, 3, some (.if_icmp .ge 82)), (40, 1, some (.aload_n 0)), (41, 3, some (.getfield 27))] _ 0 rfl (by decide +kernel)
theorem dX3_move_0 : decode cX3_move 0 = .ok (.aload_n 0, 1) := dq_g48.1
theorem dX3_move_1 : decode cX3_move 1 = .ok (.getfield 30, 3) := dq_g48.2.1
theorem dX3_move_4 : decode cX3_move 4 = .ok (.iload_n 1, 1) := dq_g48.2.2.1
theorem dX3_move_5 : decode cX3_move 5 = .ok (.iaload, 1) := dq_g48.2.2.2.1
theorem dX3_move_6 : decode cX3_move 6 = .ok (.istore_n 3, 1) := dq_g48.2.2.2.2.1
theorem dX3_move_7 : decode cX3_move 7 = .ok (.aload_n 0, 1) := dq_g48.2.2.2.2.2.1
theorem dX3_move_8 : decode cX3_move 8 = .ok (.getfield 30, 3) := dq_g48.2.2.2.2.2.2.1
theorem dX3_move_11 : decode cX3_move 11 = .ok (.iload_n 1, 1) := dq_g48.2.2.2.2.2.2.2.1
theorem dX3_move_12 : decode cX3_move 12 = .ok (.dup2, 1) := dq_g48.2.2.2.2.2.2.2.2.1
theorem dX3_move_13 : decode cX3_move 13 = .ok (.iaload, 1) := dq_g48.2.2.2.2.2.2.2.2.2.1
theorem dX3_move_14 : decode cX3_move 14 = .ok (.iload_n 2, 1) := dq_g48.2.2.2.2.2.2.2.2.2.2.1
theorem dX3_move_15 : decode cX3_move 15 = .ok (.iadd, 1) := dq_g48.2.2.2.2.2.2.2.2.2.2.2.1
theorem dX3_move_16 : decode cX3_move 16 = .ok (.iastore, 1) := dq_g48.2.2.2.2.2.2.2.2.2.2.2.2.1
theorem dX3_move_17 : decode cX3_move 17 = .ok (.aload_n 0, 1) := dq_g48.2.2.2.2.2.2.2.2.2.2.2.2.2.1
theorem dX3_move_18 : decode cX3_move 18 = .ok (.dup, 1) := dq_g48.2.2.2.2.2.2.2.2.2.2.2.2.2.2.1
theorem dX3_move_19 : decode cX3_move 19 = .ok (.getfield 59, 3) := dq_g48.2.2.2.2.2.2.2.2.2.2.2.2.2.2.2.1
theorem dX3_move_22 : decode cX3_move 22 = .ok (.iload_n 2, 1) := dq_g48.2.2.2.2.2.2.2.2.2.2.2.2.2.2.2.2.1
theorem dX3_move_23 : decode cX3_move 23 = .ok (.iconst 3, 1) := dq_g48.2.2.2.2.2.2.2.2.2.2.2.2.2.2.2.2.2.1
theorem dX3_move_24 : decode cX3_move 24 = .ok (.iload_n 1, 1) := dq_g48.2.2.2.2.2.2.2.2.2.2.2.2.2.2.2.2.2.2.1
theorem dX3_move_25 : decode cX3_move 25 = .ok (.imul, 1) := dq_g48.2.2.2.2.2.2.2.2.2.2.2.2.2.2.2.2.2.2.2.1
theorem dX3_move_26 : decode cX3_move 26 = .ok (.ishl, 1) := dq_g48.2.2.2.2.2.2.2.2.2.2.2.2.2.2.2.2.2.2.2.2.1
theorem dX3_move_27 : decode cX3_move 27 = .ok (.iadd, 1) := dq_g48.2.2.2.2.2.2.2.2.2.2.2.2.2.2.2.2.2.2.2.2.2.1
theorem dX3_move_28 : decode cX3_move 28 = .ok (.putfield 59, 3) := dq_g48.2.2.2.2.2.2.2.2.2.2.2.2.2.2.2.2.2.2.2.2.2.2.1
theorem dX3_move_31 : decode cX3_move 31 = .ok (.iconst 0, 1) := dq_g48.2.2.2.2.2.2.2.2.2.2.2.2.2.2.2.2.2.2.2.2.2.2.2.1
theorem dX3_move_32 : decode cX3_move 32 = .ok (.istore 4, 2) := dq_g48.2.2.2.2.2.2.2.2.2.2.2.2.2.2.2.2.2.2.2.2.2.2.2.2.1
theorem dX3_move_34 : decode cX3_move 34 = .ok (.iload 4, 2) := dq_g48.2.2.2.2.2.2.2.2.2.2.2.2.2.2.2.2.2.2.2.2.2.2.2.2.2.1
theorem dX3_move_36 : decode cX3_move 36 = .ok (.iconst 3, 1) := dq_g48.2.2.2.2.2.2.2.2.2.2.2.2.2.2.2.2.2.2.2.2.2.2.2.2.2.2.1
theorem dX3_move_37 : decode cX3_move 37 = .ok (.if_icmp .ge 82, 3) := dq_g48.2.2.2.2.2.2.2.2.2.2.2.2.2.2.2.2.2.2.2.2.2.2.2.2.2.2.2.1
theorem dX3_move_40 : decode cX3_move 40 = .ok (.aload_n 0, 1) := dq_g48.2.2.2.2.2.2.2.2.2.2.2.2.2.2.2.2.2.2.2.2.2.2.2.2.2.2.2.2.1
theorem dX3_move_41 : decode cX3_move 41 = .ok (.getfield 27, 3) := dq_g48.2.2.2.2.2.2.2.2.2.2.2.2.2.2.2.2.2.2.2.2.2.2.2.2.2.2.2.2.2.1
theorem dq_g49 : decode cX3_move 44 = .ok (.iload 4, 2) ∧ decode cX3_move 46 = .ok (.iaload, 1) ∧ decode cX3_move 47 = .ok (.ifCond .eq 66, 3) ∧ decode cX3_move 50 = .ok (.iload 4, 2) ∧ decode cX3_move 52 = .ok (.iload_n 1, 1) ∧ decode cX3_move 53 = .ok (.iload_n 3, 1) ∧ decode cX3_move 54 = .ok (.invokestatic 82, 3) ∧ decode cX3_move 57 = .ok (.istore 5, 2) ∧ decode cX3_move 59 = .ok (.aload_n 0, 1) ∧ decode cX3_move 60 = .ok (.getfield 21, 3) ∧ decode cX3_move 63 = .ok (.iload 4, 2) ∧ decode cX3_move 65 = .ok (.dup2, 1) ∧ decode cX3_move 66 = .ok (.iaload, 1) ∧ decode cX3_move 67 = .ok (.aload_n 0, 1) ∧ decode cX3_move 68 = .ok (.getfield 15, 3) ∧ decode cX3_move 71 = .ok (.iload 5, 2) ∧ decode cX3_move 73 = .ok (.iload_n 2, 1) ∧ decode cX3_move 74 = .ok (.iadd, 1) ∧ decode cX3_move 75 = .ok (.iaload, 1) ∧ decode cX3_move 76 = .ok (.aload_n 0, 1) ∧ decode cX3_move 77 = .ok (.getfield 15, 3) ∧ decode cX3_move 80 = .ok (.iload 5, 2) ∧ decode cX3_move 82 = .ok (.iaload, 1) ∧ decode cX3_move 83 = .ok (.isub, 1) ∧ decode cX3_move 84 = .ok (.iadd, 1) ∧ decode cX3_move 85 = .ok (.iastore, 1) ∧ decode cX3_move 86 = .ok (.aload_n 0, 1) ∧ decode cX3_move 87 = .ok (.getfield 24, 3) ∧ decode cX3_move 90 = .ok (.iload 4, 2) ∧ decode cX3_move 92 = .ok (.dup2, 1) ∧ True := dqC_ok (c := cX3_move) [(44, 2, some (.iload 4)), (46, 1, some (.iaload)), (47, 3, some (.ifCond .eq 66)), (50, 2, some (.iload 4)), (52, 1, some (.iload_n 1)), (53, 1, some (.iload_n 3)), (54, 3, some (.invokestatic 82)), (57, 2, some (.istore 5)), (59, 1, some (.aload_n 0)), (60, 3, some (.getfield 21)), (63, 2, some (.iload 4)), (65, 1, some (.dup2)), (66, 1, some (.iaload)), (67, 1, some (.aload_n 0)), (68, 3, some (.getfield 15)), (71, 2, some (.iload 5)), (73, 1, some (.iload_n 2)), (74, 1, some (.iadd)), (75, 1, some (.iaload)), (76, 1, some (.aload_n 0)), (77, 3, some (.getfield 15)), (80, 2, some (.iload 5)), (82, 1, some (.iaload)), (83, 1, some (.isub)), (84, 1, some (.iadd)), (85, 1, some (.iastore)), (86, 1, some (.aload_n 0)), (87, 3, some (.getfield 24)), (90, 2, some (.iload 4)), (92, 1, some (.dup2))] _ 44 rfl (by decide +kernel)
theorem dX3_move_44 : decode cX3_move 44 = .ok (.iload 4, 2) := dq_g49.1
theorem dX3_move_46 : decode cX3_move 46 = .ok (.iaload, 1) := dq_g49.2.1
theorem dX3_move_47 : decode cX3_move 47 = .ok (.ifCond .eq 66, 3) := dq_g49.2.2.1
theorem dX3_move_50 : decode cX3_move 50 = .ok (.iload 4, 2) := dq_g49.2.2.2.1
theorem dX3_move_52 : decode cX3_move 52 = .ok (.iload_n 1, 1) := dq_g49.2.2.2.2.1
theorem dX3_move_53 : decode cX3_move 53 = .ok (.iload_n 3, 1) := dq_g49.2.2.2.2.2.1
theorem dX3_move_54 : decode cX3_move 54 = .ok (.invokestatic 82, 3) := dq_g49.2.2.2.2.2.2.1
theorem dX3_move_57 : decode cX3_move 57 = .ok (.istore 5, 2) := dq_g49.2.2.2.2.2.2.2.1
theorem dX3_move_59 : decode cX3_move 59 = .ok (.aload_n 0, 1) := dq_g49.2.2.2.2.2.2.2.2.1
theorem dX3_move_60 : decode cX3_move 60 = .ok (.getfield 21, 3) := dq_g49.2.2.2.2.2.2.2.2.2.1
theorem dX3_move_63 : decode cX3_move 63 = .ok (.iload 4, 2) := dq_g49.2.2.2.2.2.2.2.2.2.2.1
theorem dX3_move_65 : decode cX3_move 65 = .ok (.dup2, 1) := dq_g49.2.2.2.2.2.2.2.2.2.2.2.1
theorem dX3_move_66 : decode cX3_move 66 = .ok (.iaload, 1) := dq_g49.2.2.2.2.2.2.2.2.2.2.2.2.1
theorem dX3_move_67 : decode cX3_move 67 = .ok (.aload_n 0, 1) := dq_g49.2.2.2.2.2.2.2.2.2.2.2.2.2.1
theorem dX3_move_68 : decode cX3_move 68 = .ok (.getfield 15, 3) := dq_g49.2.2.2.2.2.2.2.2.2.2.2.2.2.2.1
theorem dX3_move_71 : decode cX3_move 71 = .ok (.iload 5, 2) := dq_g49.2.2.2.2.2.2.2.2.2.2.2.2.2.2.2.1
theorem dX3_move_73 : decode cX3_move 73 = .ok (.iload_n 2, 1) := dq_g49.2.2.2.2.2.2.2.2.2.2.2.2.2.2.2.2.1
theorem dX3_move_74 : decode cX3_move 74 = .ok (.iadd, 1) := dq_g49.2.2.2.2.2.2.2.2.2.2.2.2.2.2.2.2.2.1
theorem dX3_move_75 : decode cX3_move 75 = .ok (.iaload, 1) := dq_g49.2.2.2.2.2.2.2.2.2.2.2.2.2.2.2.2.2.2.1
theorem dX3_move_76 : decode cX3_move 76 = .ok (.aload_n 0, 1) := dq_g49.2.2.2.2.2.2.2.2.2.2.2.2.2.2.2.2.2.2.2.1
theorem dX3_move_77 : decode cX3_move 77 = .ok (.getfield 15, 3) := dq_g49.2.2.2.2.2.2.2.2.2.2.2.2.2.2.2.2.2.2.2.2.1
theorem dX3_move_80 : decode cX3_move 80 = .ok (.iload 5, 2) := dq_g49.2.2.2.2.2.2.2.2.2.2.2.2.2.2.2.2.2.2.2.2.2.1
theorem dX3_move_82 : decode cX3_move 82 = .ok (.iaload, 1) := dq_g49.2.2.2.2.2.2.2.2.2.2.2.2.2.2.2.2.2.2.2.2.2.2.1
theorem dX3_move_83 : decode cX3_move 83 = .ok (.isub, 1) := dq_g49.2.2.2.2.2.2.2.2.2.2.2.2.2.2.2.2.2.2.2.2.2.2.2.1
theorem dX3_move_84 : decode cX3_move 84 = .ok (.iadd, 1) := dq_g49.2.2.2.2.2.2.2.2.2.2.2.2.2.2.2.2.2.2.2.2.2.2.2.2.1
theorem dX3_move_85 : decode cX3_move 85 = .ok (.iastore, 1) := dq_g49.2.2.2.2.2.2.2.2.2.2.2.2.2.2.2.2.2.2.2.2.2.2.2.2.2.1
theorem dX3_move_86 : decode cX3_move 86 = .ok (.aload_n 0, 1) := dq_g49.2.2.2.2.2.2.2.2.2.2.2.2.2.2.2.2.2.2.2.2.2.2.2.2.2.2.1
theorem dX3_move_87 : decode cX3_move 87 = .ok (.getfield 24, 3) := dq_g49.2.2.2.2.2.2.2.2.2.2.2.2.2.2.2.2.2.2.2.2.2.2.2.2.2.2.2.1
theorem dX3_move_90 : decode cX3_move 90 = .ok (.iload 4, 2) := dq_g49.2.2.2.2.2.2.2.2.2.2.2.2.2.2.2.2.2.2.2.2.2.2.2.2.2.2.2.2.1
theorem dX3_move_92 : decode cX3_move 92 = .ok (.dup2, 1) := dq_g49.2.2.2.2.2.2.2.2.2.2.2.2.2.2.2.2.2.2.2.2.2.2.2.2.2.2.2.2.2.1
theorem dq_g50 : decode cX3_move 93 = .ok (.iaload, 1) ∧ decode cX3_move 94 = .ok (.aload_n 0, 1) ∧ decode cX3_move 95 = .ok (.getfield 18, 3) ∧ decode cX3_move 98 = .ok (.iload 5, 2) ∧ decode cX3_move 100 = .ok (.iload_n 2, 1) ∧ decode cX3_move 101 = .ok (.iadd, 1) ∧ decode cX3_move 102 = .ok (.iaload, 1) ∧ decode cX3_move 103 = .ok (.aload_n 0, 1) ∧ decode cX3_move 104 = .ok (.getfield 18, 3) ∧ decode cX3_move 107 = .ok (.iload 5, 2) ∧ decode cX3_move 109 = .ok (.iaload, 1) ∧ decode cX3_move 110 = .ok (.isub, 1) ∧ decode cX3_move 111 = .ok (.iadd, 1) ∧ decode cX3_move 112 = .ok (.iastore, 1) ∧ decode cX3_move 113 = .ok (.iinc 4 1, 3) ∧ decode cX3_move 116 = .ok (.goto (-82), 3) ∧ decode cX3_move 119 = .ok (.return_, 1) ∧ True := dqC_ok (c := cX3_move) [(93, 1, some (.iaload)), (94, 1, some (.aload_n 0)), (95, 3, some (.getfield 18)), (98, 2, some (.iload 5)), (100, 1, some (.iload_n 2)), (101, 1, some (.iadd)), (102, 1, some (.iaload)), (103, 1, some (.aload_n 0)), (104, 3, some (.getfield 18)), (107, 2, some (.iload 5)), (109, 1, some (.iaload)), (110, 1, some (.isub)), (111, 1, some (.iadd)), (112, 1, some (.iastore)), (113, 3, some (.iinc 4 1)), (116, 3, some (.goto (-82))), (119, 1, some (.return_))] _ 93 rfl (by decide +kernel)
theorem dX3_move_93 : decode cX3_move 93 = .ok (.iaload, 1) := dq_g50.1
theorem dX3_move_94 : decode cX3_move 94 = .ok (.aload_n 0, 1) := dq_g50.2.1
theorem dX3_move_95 : decode cX3_move 95 = .ok (.getfield 18, 3) := dq_g50.2.2.1
theorem dX3_move_98 : decode cX3_move 98 = .ok (.iload 5, 2) := dq_g50.2.2.2.1
theorem dX3_move_100 : decode cX3_move 100 = .ok (.iload_n 2, 1) := dq_g50.2.2.2.2.1
theorem dX3_move_101 : decode cX3_move 101 = .ok (.iadd, 1) := dq_g50.2.2.2.2.2.1
theorem dX3_move_102 : decode cX3_move 102 = .ok (.iaload, 1) := dq_g50.2.2.2.2.2.2.1
theorem dX3_move_103 : decode cX3_move 103 = .ok (.aload_n 0, 1) := dq_g50.2.2.2.2.2.2.2.1
theorem dX3_move_104 : decode cX3_move 104 = .ok (.getfield 18, 3) := dq_g50.2.2.2.2.2.2.2.2.1
theorem dX3_move_107 : decode cX3_move 107 = .ok (.iload 5, 2) := dq_g50.2.2.2.2.2.2.2.2.2.1
theorem dX3_move_109 : decode cX3_move 109 = .ok (.iaload, 1) := dq_g50.2.2.2.2.2.2.2.2.2.2.1
theorem dX3_move_110 : decode cX3_move 110 = .ok (.isub, 1) := dq_g50.2.2.2.2.2.2.2.2.2.2.2.1
theorem dX3_move_111 : decode cX3_move 111 = .ok (.iadd, 1) := dq_g50.2.2.2.2.2.2.2.2.2.2.2.2.1
theorem dX3_move_112 : decode cX3_move 112 = .ok (.iastore, 1) := dq_g50.2.2.2.2.2.2.2.2.2.2.2.2.2.1
theorem dX3_move_113 : decode cX3_move 113 = .ok (.iinc 4 1, 3) := dq_g50.2.2.2.2.2.2.2.2.2.2.2.2.2.2.1
theorem dX3_move_116 : decode cX3_move 116 = .ok (.goto (-82), 3) := dq_g50.2.2.2.2.2.2.2.2.2.2.2.2.2.2.2.1
theorem dX3_move_119 : decode cX3_move 119 = .ok (.return_, 1) := dq_g50.2.2.2.2.2.2.2.2.2.2.2.2.2.2.2.2.1
theorem dq_g51 : decode cX3_isTrueNow 0 = .ok (.iconst 0, 1) ∧ decode cX3_isTrueNow 1 = .ok (.istore_n 1, 1) ∧ decode cX3_isTrueNow 2 = .ok (.iload_n 1, 1) ∧ decode cX3_isTrueNow 3 = .ok (.iconst 3, 1) ∧ decode cX3_isTrueNow 4 = .ok (.if_icmp .ge 41, 3) ∧ decode cX3_isTrueNow 7 = .ok (.aload_n 0, 1) ∧ decode cX3_isTrueNow 8 = .ok (.getfield 27, 3) ∧ decode cX3_isTrueNow 11 = .ok (.iload_n 1, 1) ∧ decode cX3_isTrueNow 12 = .ok (.iaload, 1) ∧ decode cX3_isTrueNow 13 = .ok (.ifCond .eq 26, 3) ∧ decode cX3_isTrueNow 16 = .ok (.aload_n 0, 1) ∧ decode cX3_isTrueNow 17 = .ok (.iload_n 1, 1) ∧ decode cX3_isTrueNow 18 = .ok (.aload_n 0, 1) ∧ decode cX3_isTrueNow 19 = .ok (.getfield 21, 3) ∧ decode cX3_isTrueNow 22 = .ok (.iload_n 1, 1) ∧ decode cX3_isTrueNow 23 = .ok (.iaload, 1) ∧ decode cX3_isTrueNow 24 = .ok (.aload_n 0, 1) ∧ decode cX3_isTrueNow 25 = .ok (.getfield 24, 3) ∧ decode cX3_isTrueNow 28 = .ok (.iload_n 1, 1) ∧ decode cX3_isTrueNow 29 = .ok (.iaload, 1) ∧ decode cX3_isTrueNow 30 = .ok (.iconst 1, 1) ∧ decode cX3_isTrueNow 31 = .ok (.invokevirtual 117, 3) ∧ decode cX3_isTrueNow 34 = .ok (.ifCond .ne 5, 3) ∧ decode cX3_isTrueNow 37 = .ok (.iconst 0, 1) ∧ decode cX3_isTrueNow 38 = .ok (.ireturn, 1) ∧ decode cX3_isTrueNow 39 = .ok (.iinc 1 1, 3) ∧ decode cX3_isTrueNow 42 = .ok (.goto (-40), 3) ∧ decode cX3_isTrueNow 45 = .ok (.iconst 1, 1) ∧ decode cX3_isTrueNow 46 = .ok (.ireturn, 1) ∧ True := dqC_ok (c := cX3_isTrueNow) [(0, 1, some (.iconst 0)), (1, 1, some (.istore_n 1)), (2, 1, some (.iload_n 1)), (3, 1, some (.iconst 3)), (4, 3, some (.if_icmp .ge 41)), (7, 1, some (.aload_n 0)), (8, 3, some (.getfield 27)), (11, 1, some (.iload_n 1)), (12, 1, some (.iaload)), (13, 3, some (.ifCond .eq 26)), (16, 1, some (.aload_n 0)), (17, 1, some (.iload_n 1)), (18, 1, some (.aload_n 0)), (19, 3, some (.getfield 21)), (22, 1, some (.iload_n 1)), (23, 1, some (.iaload)), (24, 1, some (.aload_n 0)), (25, 3, some (.getfield 24)), (28, 1, some (.iload_n 1)), (29, 1, some (.iaload)), (30, 1, some (.iconst 1)), (31, 3, some (.invokevirtual 117)), (34, 3, some (.ifCond .ne 5)), (37, 1, some (.iconst 0)), (38, 1, some (.ireturn)), (39, 3, some (.iinc 1 1)), (42, 3, some (.goto (-40))), (45, 1, some (.iconst 1)), (46, 1, some (.ireturn))] _ 0 rfl (by decide +kernel)
theorem dX3_isTrueNow_0 : decode cX3_isTrueNow 0 = .ok (.iconst 0, 1) := dq_g51.1
theorem dX3_isTrueNow_1 : decode cX3_isTrueNow 1 = .ok (.istore_n 1, 1) := dq_g51.2.1
theorem dX3_isTrueNow_2 : decode cX3_isTrueNow 2 = .ok (.iload_n 1, 1) := dq_g51.2.2.1
theorem dX3_isTrueNow_3 : decode cX3_isTrueNow 3 = .ok (.iconst 3, 1) := dq_g51.2.2.2.1
theorem dX3_isTrueNow_4 : decode cX3_isTrueNow 4 = .ok (.if_icmp .ge 41, 3) := dq_g51.2.2.2.2.1
theorem dX3_isTrueNow_7 : decode cX3_isTrueNow 7 = .ok (.aload_n 0, 1) := dq_g51.2.2.2.2.2.1
theorem dX3_isTrueNow_8 : decode cX3_isTrueNow 8 = .ok (.getfield 27, 3) := dq_g51.2.2.2.2.2.2.1
theorem dX3_isTrueNow_11 : decode cX3_isTrueNow 11 = .ok (.iload_n 1, 1) := dq_g51.2.2.2.2.2.2.2.1
theorem dX3_isTrueNow_12 : decode cX3_isTrueNow 12 = .ok (.iaload, 1) := dq_g51.2.2.2.2.2.2.2.2.1
theorem dX3_isTrueNow_13 : decode cX3_isTrueNow 13 = .ok (.ifCond .eq 26, 3) := dq_g51.2.2.2.2.2.2.2.2.2.1
theorem dX3_isTrueNow_16 : decode cX3_isTrueNow 16 = .ok (.aload_n 0, 1) := dq_g51.2.2.2.2.2.2.2.2.2.2.1
theorem dX3_isTrueNow_17 : decode cX3_isTrueNow 17 = .ok (.iload_n 1, 1) := dq_g51.2.2.2.2.2.2.2.2.2.2.2.1
theorem dX3_isTrueNow_18 : decode cX3_isTrueNow 18 = .ok (.aload_n 0, 1) := dq_g51.2.2.2.2.2.2.2.2.2.2.2.2.1
theorem dX3_isTrueNow_19 : decode cX3_isTrueNow 19 = .ok (.getfield 21, 3) := dq_g51.2.2.2.2.2.2.2.2.2.2.2.2.2.1
theorem dX3_isTrueNow_22 : decode cX3_isTrueNow 22 = .ok (.iload_n 1, 1) := dq_g51.2.2.2.2.2.2.2.2.2.2.2.2.2.2.1
theorem dX3_isTrueNow_23 : decode cX3_isTrueNow 23 = .ok (.iaload, 1) := dq_g51.2.2.2.2.2.2.2.2.2.2.2.2.2.2.2.1
theorem dX3_isTrueNow_24 : decode cX3_isTrueNow 24 = .ok (.aload_n 0, 1) := dq_g51.2.2.2.2.2.2.2.2.2.2.2.2.2.2.2.2.1
theorem dX3_isTrueNow_25 : decode cX3_isTrueNow 25 = .ok (.getfield 24, 3) := dq_g51.2.2.2.2.2.2.2.2.2.2.2.2.2.2.2.2.2.1
theorem dX3_isTrueNow_28 : decode cX3_isTrueNow 28 = .ok (.iload_n 1, 1) := dq_g51.2.2.2.2.2.2.2.2.2.2.2.2.2.2.2.2.2.2.1
theorem dX3_isTrueNow_29 : decode cX3_isTrueNow 29 = .ok (.iaload, 1) := dq_g51.2.2.2.2.2.2.2.2.2.2.2.2.2.2.2.2.2.2.2.1
theorem dX3_isTrueNow_30 : decode cX3_isTrueNow 30 = .ok (.iconst 1, 1) := dq_g51.2.2.2.2.2.2.2.2.2.2.2.2.2.2.2.2.2.2.2.2.1
theorem dX3_isTrueNow_31 : decode cX3_isTrueNow 31 = .ok (.invokevirtual 117, 3) := dq_g51.2.2.2.2.2.2.2.2.2.2.2.2.2.2.2.2.2.2.2.2.2.1
theorem dX3_isTrueNow_34 : decode cX3_isTrueNow 34 = .ok (.ifCond .ne 5, 3) := dq_g51.2.2.2.2.2.2.2.2.2.2.2.2.2.2.2.2.2.2.2.2.2.2.1
theorem dX3_isTrueNow_37 : decode cX3_isTrueNow 37 = .ok (.iconst 0, 1) := dq_g51.2.2.2.2.2.2.2.2.2.2.2.2.2.2.2.2.2.2.2.2.2.2.2.1
theorem dX3_isTrueNow_38 : decode cX3_isTrueNow 38 = .ok (.ireturn, 1) := dq_g51.2.2.2.2.2.2.2.2.2.2.2.2.2.2.2.2.2.2.2.2.2.2.2.2.1
theorem dX3_isTrueNow_39 : decode cX3_isTrueNow 39 = .ok (.iinc 1 1, 3) := dq_g51.2.2.2.2.2.2.2.2.2.2.2.2.2.2.2.2.2.2.2.2.2.2.2.2.2.1
theorem dX3_isTrueNow_42 : decode cX3_isTrueNow 42 = .ok (.goto (-40), 3) := dq_g51.2.2.2.2.2.2.2.2.2.2.2.2.2.2.2.2.2.2.2.2.2.2.2.2.2.2.1
theorem dX3_isTrueNow_45 : decode cX3_isTrueNow 45 = .ok (.iconst 1, 1) := dq_g51.2.2.2.2.2.2.2.2.2.2.2.2.2.2.2.2.2.2.2.2.2.2.2.2.2.2.2.1
theorem dX3_isTrueNow_46 : decode cX3_isTrueNow 46 = .ok (.ireturn, 1) := dq_g51.2.2.2.2.2.2.2.2.2.2.2.2.2.2.2.2.2.2.2.2.2.2.2.2.2.2.2.2.1
theorem dq_g52 : decode cX3_isNearBehind 0 = .ok (.iconst 0, 1) ∧ decode cX3_isNearBehind 1 = .ok (.istore_n 3, 1) ∧ decode cX3_isNearBehind 2 = .ok (.iload_n 3, 1) ∧ decode cX3_isNearBehind 3 = .ok (.iconst 3, 1) ∧ decode cX3_isNearBehind 4 = .ok (.if_icmp .ge 98, 3) ∧ decode cX3_isNearBehind 7 = .ok (.aload_n 0, 1) ∧ decode cX3_isNearBehind 8 = .ok (.getfield 27, 3) ∧ decode cX3_isNearBehind 11 = .ok (.iload_n 3, 1) ∧ decode cX3_isNearBehind 12 = .ok (.iaload, 1) ∧ decode cX3_isNearBehind 13 = .ok (.ifCond .eq 83, 3) ∧ decode cX3_isNearBehind 16 = .ok (.iload_n 3, 1) ∧ decode cX3_isNearBehind 17 = .ok (.iload_n 1, 1) ∧ decode cX3_isNearBehind 18 = .ok (.aload_n 0, 1) ∧ decode cX3_isNearBehind 19 = .ok (.getfield 30, 3) ∧ decode cX3_isNearBehind 22 = .ok (.iload_n 1, 1) ∧ decode cX3_isNearBehind 23 = .ok (.iaload, 1) ∧ decode cX3_isNearBehind 24 = .ok (.invokestatic 82, 3) ∧ decode cX3_isNearBehind 27 = .ok (.istore 4, 2) ∧ decode cX3_isNearBehind 29 = .ok (.aload_n 0, 1) ∧ decode cX3_isNearBehind 30 = .ok (.getfield 21, 3) ∧ decode cX3_isNearBehind 33 = .ok (.iload_n 3, 1) ∧ decode cX3_isNearBehind 34 = .ok (.iaload, 1) ∧ decode cX3_isNearBehind 35 = .ok (.aload_n 0, 1) ∧ decode cX3_isNearBehind 36 = .ok (.getfield 15, 3) ∧ decode cX3_isNearBehind 39 = .ok (.iload 4, 2) ∧ decode cX3_isNearBehind 41 = .ok (.iconst 1, 1) ∧ decode cX3_isNearBehind 42 = .ok (.iadd, 1) ∧ decode cX3_isNearBehind 43 = .ok (.iaload, 1) ∧ decode cX3_isNearBehind 44 = .ok (.iadd, 1) ∧ decode cX3_isNearBehind 45 = .ok (.aload_n 0, 1) ∧ True := dqC_ok (c := cX3_isNearBehind) [(0, 1, some (.iconst 0)), (1, 1, some (.istore_n 3)), (2, 1, some (.iload_n 3)), (3, 1, some (.iconst 3)), (4, 3, some (.if_icmp .ge 98)), (7, 1, some (.aload_n 0)), (8, 3, some (.getfield 27)), (11, 1, some (.iload_n 3)), (12, 1, some (.iaload)), (13, 3, some (.ifCond .eq 83)), (16, 1, some (.iload_n 3)), (17, 1, some (.iload_n 1)), (18, 1, some (.aload_n 0)), (19, 3, some (.getfield 30)), (22, 1, some (.iload_n 1)), (23, 1, some (.iaload)), (24, 3, some (.invokestatic 82)), (27, 2, some (.istore 4)), (29, 1, some (.aload_n 0)), (30, 3, some (.getfield 21)), (33, 1, some (.iload_n 3)), (34, 1, some (.iaload)), (35, 1, some (.aload_n 0)), (36, 3, some (.getfield 15)), (39, 2, some (.iload 4)), (41, 1, some (.iconst 1)), (42, 1, some (.iadd)), (43, 1, some (.iaload)), (44, 1, some (.iadd)), (45, 1, some (.aload_n 0))] _ 0 rfl (by decide +kernel)
theorem dX3_isNearBehind_0 : decode cX3_isNearBehind 0 = .ok (.iconst 0, 1) := dq_g52.1
theorem dX3_isNearBehind_1 : decode cX3_isNearBehind 1 = .ok (.istore_n 3, 1) := dq_g52.2.1
theorem dX3_isNearBehind_2 : decode cX3_isNearBehind 2 = .ok (.iload_n 3, 1) := dq_g52.2.2.1
theorem dX3_isNearBehind_3 : decode cX3_isNearBehind 3 = .ok (.iconst 3, 1) := dq_g52.2.2.2.1
theorem dX3_isNearBehind_4 : decode cX3_isNearBehind 4 = .ok (.if_icmp .ge 98, 3) := dq_g52.2.2.2.2.1
theorem dX3_isNearBehind_7 : decode cX3_isNearBehind 7 = .ok (.aload_n 0, 1) := dq_g52.2.2.2.2.2.1
theorem dX3_isNearBehind_8 : decode cX3_isNearBehind 8 = .ok (.getfield 27, 3) := dq_g52.2.2.2.2.2.2.1
theorem dX3_isNearBehind_11 : decode cX3_isNearBehind 11 = .ok (.iload_n 3, 1) := dq_g52.2.2.2.2.2.2.2.1
theorem dX3_isNearBehind_12 : decode cX3_isNearBehind 12 = .ok (.iaload, 1) := dq_g52.2.2.2.2.2.2.2.2.1
theorem dX3_isNearBehind_13 : decode cX3_isNearBehind 13 = .ok (.ifCond .eq 83, 3) := dq_g52.2.2.2.2.2.2.2.2.2.1
theorem dX3_isNearBehind_16 : decode cX3_isNearBehind 16 = .ok (.iload_n 3, 1) := dq_g52.2.2.2.2.2.2.2.2.2.2.1
theorem dX3_isNearBehind_17 : decode cX3_isNearBehind 17 = .ok (.iload_n 1, 1) := dq_g52.2.2.2.2.2.2.2.2.2.2.2.1
theorem dX3_isNearBehind_18 : decode cX3_isNearBehind 18 = .ok (.aload_n 0, 1) := dq_g52.2.2.2.2.2.2.2.2.2.2.2.2.1
theorem dX3_isNearBehind_19 : decode cX3_isNearBehind 19 = .ok (.getfield 30, 3) := dq_g52.2.2.2.2.2.2.2.2.2.2.2.2.2.1
theorem dX3_isNearBehind_22 : decode cX3_isNearBehind 22 = .ok (.iload_n 1, 1) := dq_g52.2.2.2.2.2.2.2.2.2.2.2.2.2.2.1
theorem dX3_isNearBehind_23 : decode cX3_isNearBehind 23 = .ok (.iaload, 1) := dq_g52.2.2.2.2.2.2.2.2.2.2.2.2.2.2.2.1
theorem dX3_isNearBehind_24 : decode cX3_isNearBehind 24 = .ok (.invokestatic 82, 3) := dq_g52.2.2.2.2.2.2.2.2.2.2.2.2.2.2.2.2.1
theorem dX3_isNearBehind_27 : decode cX3_isNearBehind 27 = .ok (.istore 4, 2) := dq_g52.2.2.2.2.2.2.2.2.2.2.2.2.2.2.2.2.2.1
theorem dX3_isNearBehind_29 : decode cX3_isNearBehind 29 = .ok (.aload_n 0, 1) := dq_g52.2.2.2.2.2.2.2.2.2.2.2.2.2.2.2.2.2.2.1
theorem dX3_isNearBehind_30 : decode cX3_isNearBehind 30 = .ok (.getfield 21, 3) := dq_g52.2.2.2.2.2.2.2.2.2.2.2.2.2.2.2.2.2.2.2.1
theorem dX3_isNearBehind_33 : decode cX3_isNearBehind 33 = .ok (.iload_n 3, 1) := dq_g52.2.2.2.2.2.2.2.2.2.2.2.2.2.2.2.2.2.2.2.2.1
theorem dX3_isNearBehind_34 : decode cX3_isNearBehind 34 = .ok (.iaload, 1) := dq_g52.2.2.2.2.2.2.2.2.2.2.2.2.2.2.2.2.2.2.2.2.2.1
theorem dX3_isNearBehind_35 : decode cX3_isNearBehind 35 = .ok (.aload_n 0, 1) := dq_g52.2.2.2.2.2.2.2.2.2.2.2.2.2.2.2.2.2.2.2.2.2.2.1
theorem dX3_isNearBehind_36 : decode cX3_isNearBehind 36 = .ok (.getfield 15, 3) := dq_g52.2.2.2.2.2.2.2.2.2.2.2.2.2.2.2.2.2.2.2.2.2.2.2.1
theorem dX3_isNearBehind_39 : decode cX3_isNearBehind 39 = .ok (.iload 4, 2) := dq_g52.2.2.2.2.2.2.2.2.2.2.2.2.2.2.2.2.2.2.2.2.2.2.2.2.1
theorem dX3_isNearBehind_41 : decode cX3_isNearBehind 41 = .ok (.iconst 1, 1) := dq_g52.2.2.2.2.2.2.2.2.2.2.2.2.2.2.2.2.2.2.2.2.2.2.2.2.2.1
theorem dX3_isNearBehind_42 : decode cX3_isNearBehind 42 = .ok (.iadd, 1) := dq_g52.2.2.2.2.2.2.2.2.2.2.2.2.2.2.2.2.2.2.2.2.2.2.2.2.2.2.1
theorem dX3_isNearBehind_43 : decode cX3_isNearBehind 43 = .ok (.iaload, 1) := dq_g52.2.2.2.2.2.2.2.2.2.2.2.2.2.2.2.2.2.2.2.2.2.2.2.2.2.2.2.1
theorem dX3_isNearBehind_44 : decode cX3_isNearBehind 44 = .ok (.iadd, 1) := dq_g52.2.2.2.2.2.2.2.2.2.2.2.2.2.2.2.2.2.2.2.2.2.2.2.2.2.2.2.2.1
theorem dX3_isNearBehind_45 : decode cX3_isNearBehind 45 = .ok (.aload_n 0, 1) := dq_g52.2.2.2.2.2.2.2.2.2.2.2.2.2.2.2.2.2.2.2.2.2.2.2.2.2.2.2.2.2.1
theorem dq_g53 : decode cX3_isNearBehind 46 = .ok (.getfield 15, 3) ∧ decode cX3_isNearBehind 49 = .ok (.iload 4, 2) ∧ decode cX3_isNearBehind 51 = .ok (.iaload, 1) ∧ decode cX3_isNearBehind 52 = .ok (.isub, 1) ∧ decode cX3_isNearBehind 53 = .ok (.istore 5, 2) ∧ decode cX3_isNearBehind 55 = .ok (.aload_n 0, 1) ∧ decode cX3_isNearBehind 56 = .ok (.getfield 24, 3) ∧ decode cX3_isNearBehind 59 = .ok (.iload_n 3, 1) ∧ decode cX3_isNearBehind 60 = .ok (.iaload, 1) ∧ decode cX3_isNearBehind 61 = .ok (.aload_n 0, 1) ∧ decode cX3_isNearBehind 62 = .ok (.getfield 18, 3) ∧ decode cX3_isNearBehind 65 = .ok (.iload 4, 2) ∧ decode cX3_isNearBehind 67 = .ok (.iconst 1, 1) ∧ decode cX3_isNearBehind 68 = .ok (.iadd, 1) ∧ decode cX3_isNearBehind 69 = .ok (.iaload, 1) ∧ decode cX3_isNearBehind 70 = .ok (.iadd, 1) ∧ decode cX3_isNearBehind 71 = .ok (.aload_n 0, 1) ∧ decode cX3_isNearBehind 72 = .ok (.getfield 18, 3) ∧ decode cX3_isNearBehind 75 = .ok (.iload 4, 2) ∧ decode cX3_isNearBehind 77 = .ok (.iaload, 1) ∧ decode cX3_isNearBehind 78 = .ok (.isub, 1) ∧ decode cX3_isNearBehind 79 = .ok (.istore 6, 2) ∧ decode cX3_isNearBehind 81 = .ok (.aload_n 0, 1) ∧ decode cX3_isNearBehind 82 = .ok (.iload_n 3, 1) ∧ decode cX3_isNearBehind 83 = .ok (.iload 5, 2) ∧ decode cX3_isNearBehind 85 = .ok (.iload 6, 2) ∧ decode cX3_isNearBehind 87 = .ok (.iload_n 2, 1) ∧ decode cX3_isNearBehind 88 = .ok (.invokevirtual 117, 3) ∧ decode cX3_isNearBehind 91 = .ok (.ifCond .ne 5, 3) ∧ decode cX3_isNearBehind 94 = .ok (.iconst 0, 1) ∧ True := dqC_ok (c := cX3_isNearBehind) [(46, 3, some (.getfield 15)), (49, 2, some (.iload 4)), (51, 1, some (.iaload)), (52, 1, some (.isub)), (53, 2, some (.istore 5)), (55, 1, some (.aload_n 0)), (56, 3, some (.getfield 24)), (59, 1, some (.iload_n 3)), (60, 1, some (.iaload)), (61, 1, some (.aload_n 0)), (62, 3, some (.getfield 18)), (65, 2, some (.iload 4)), (67, 1, some (.iconst 1)), (68, 1, some (.iadd)), (69, 1, some (.iaload)), (70, 1, some (.iadd)), (71, 1, some (.aload_n 0)), (72, 3, some (.getfield 18)), (75, 2, some (.iload 4)), (77, 1, some (.iaload)), (78, 1, some (.isub)), (79, 2, some (.istore 6)), (81, 1, some (.aload_n 0)), (82, 1, some (.iload_n 3)), (83, 2, some (.iload 5)), (85, 2, some (.iload 6)), (87, 1, some (.iload_n 2)), (88, 3, some (.invokevirtual 117)), (91, 3, some (.ifCond .ne 5)), (94, 1, some (.iconst 0))] _ 46 rfl (by decide +kernel)
theorem dX3_isNearBehind_46 : decode cX3_isNearBehind 46 = .ok (.getfield 15, 3) := dq_g53.1
theorem dX3_isNearBehind_49 : decode cX3_isNearBehind 49 = .ok (.iload 4, 2) := dq_g53.2.1
theorem dX3_isNearBehind_51 : decode cX3_isNearBehind 51 = .ok (.iaload, 1) := dq_g53.2.2.1
theorem dX3_isNearBehind_52 : decode cX3_isNearBehind 52 = .ok (.isub, 1) := dq_g53.2.2.2.1
theorem dX3_isNearBehind_53 : decode cX3_isNearBehind 53 = .ok (.istore 5, 2) := dq_g53.2.2.2.2.1
theorem dX3_isNearBehind_55 : decode cX3_isNearBehind 55 = .ok (.aload_n 0, 1) := dq_g53.2.2.2.2.2.1
theorem dX3_isNearBehind_56 : decode cX3_isNearBehind 56 = .ok (.getfield 24, 3) := dq_g53.2.2.2.2.2.2.1
theorem dX3_isNearBehind_59 : decode cX3_isNearBehind 59 = .ok (.iload_n 3, 1) := dq_g53.2.2.2.2.2.2.2.1
theorem dX3_isNearBehind_60 : decode cX3_isNearBehind 60 = .ok (.iaload, 1) := dq_g53.2.2.2.2.2.2.2.2.1
theorem dX3_isNearBehind_61 : decode cX3_isNearBehind 61 = .ok (.aload_n 0, 1) := dq_g53.2.2.2.2.2.2.2.2.2.1
theorem dX3_isNearBehind_62 : decode cX3_isNearBehind 62 = .ok (.getfield 18, 3) := dq_g53.2.2.2.2.2.2.2.2.2.2.1
theorem dX3_isNearBehind_65 : decode cX3_isNearBehind 65 = .ok (.iload 4, 2) := dq_g53.2.2.2.2.2.2.2.2.2.2.2.1
theorem dX3_isNearBehind_67 : decode cX3_isNearBehind 67 = .ok (.iconst 1, 1) := dq_g53.2.2.2.2.2.2.2.2.2.2.2.2.1
theorem dX3_isNearBehind_68 : decode cX3_isNearBehind 68 = .ok (.iadd, 1) := dq_g53.2.2.2.2.2.2.2.2.2.2.2.2.2.1
theorem dX3_isNearBehind_69 : decode cX3_isNearBehind 69 = .ok (.iaload, 1) := dq_g53.2.2.2.2.2.2.2.2.2.2.2.2.2.2.1
theorem dX3_isNearBehind_70 : decode cX3_isNearBehind 70 = .ok (.iadd, 1) := dq_g53.2.2.2.2.2.2.2.2.2.2.2.2.2.2.2.1
theorem dX3_isNearBehind_71 : decode cX3_isNearBehind 71 = .ok (.aload_n 0, 1) := dq_g53.2.2.2.2.2.2.2.2.2.2.2.2.2.2.2.2.1
theorem dX3_isNearBehind_72 : decode cX3_isNearBehind 72 = .ok (.getfield 18, 3) := dq_g53.2.2.2.2.2.2.2.2.2.2.2.2.2.2.2.2.2.1
theorem dX3_isNearBehind_75 : decode cX3_isNearBehind 75 = .ok (.iload 4, 2) := dq_g53.2.2.2.2.2.2.2.2.2.2.2.2.2.2.2.2.2.2.1
theorem dX3_isNearBehind_77 : decode cX3_isNearBehind 77 = .ok (.iaload, 1) := dq_g53.2.2.2.2.2.2.2.2.2.2.2.2.2.2.2.2.2.2.2.1
theorem dX3_isNearBehind_78 : decode cX3_isNearBehind 78 = .ok (.isub, 1) := dq_g53.2.2.2.2.2.2.2.2.2.2.2.2.2.2.2.2.2.2.2.2.1
theorem dX3_isNearBehind_79 : decode cX3_isNearBehind 79 = .ok (.istore 6, 2) := dq_g53.2.2.2.2.2.2.2.2.2.2.2.2.2.2.2.2.2.2.2.2.2.1
theorem dX3_isNearBehind_81 : decode cX3_isNearBehind 81 = .ok (.aload_n 0, 1) := dq_g53.2.2.2.2.2.2.2.2.2.2.2.2.2.2.2.2.2.2.2.2.2.2.1
theorem dX3_isNearBehind_82 : decode cX3_isNearBehind 82 = .ok (.iload_n 3, 1) := dq_g53.2.2.2.2.2.2.2.2.2.2.2.2.2.2.2.2.2.2.2.2.2.2.2.1
theorem dX3_isNearBehind_83 : decode cX3_isNearBehind 83 = .ok (.iload 5, 2) := dq_g53.2.2.2.2.2.2.2.2.2.2.2.2.2.2.2.2.2.2.2.2.2.2.2.2.1
theorem dX3_isNearBehind_85 : decode cX3_isNearBehind 85 = .ok (.iload 6, 2) := dq_g53.2.2.2.2.2.2.2.2.2.2.2.2.2.2.2.2.2.2.2.2.2.2.2.2.2.1
theorem dX3_isNearBehind_87 : decode cX3_isNearBehind 87 = .ok (.iload_n 2, 1) := dq_g53.2.2.2.2.2.2.2.2.2.2.2.2.2.2.2.2.2.2.2.2.2.2.2.2.2.2.1
theorem dX3_isNearBehind_88 : decode cX3_isNearBehind 88 = .ok (.invokevirtual 117, 3) := dq_g53.2.2.2.2.2.2.2.2.2.2.2.2.2.2.2.2.2.2.2.2.2.2.2.2.2.2.2.1
theorem dX3_isNearBehind_91 : decode cX3_isNearBehind 91 = .ok (.ifCond .ne 5, 3) := dq_g53.2.2.2.2.2.2.2.2.2.2.2.2.2.2.2.2.2.2.2.2.2.2.2.2.2.2.2.2.1
theorem dX3_isNearBehind_94 : decode cX3_isNearBehind 94 = .ok (.iconst 0, 1) := dq_g53.2.2.2.2.2.2.2.2.2.2.2.2.2.2.2.2.2.2.2.2.2.2.2.2.2.2.2.2.2.1
theorem dq_g54 : decode cX3_isNearBehind 95 = .ok (.ireturn, 1) ∧ decode cX3_isNearBehind 96 = .ok (.iinc 3 1, 3) ∧ decode cX3_isNearBehind 99 = .ok (.goto (-97), 3) ∧ decode cX3_isNearBehind 102 = .ok (.iconst 1, 1) ∧ decode cX3_isNearBehind 103 = .ok (.ireturn, 1) ∧ True := dqC_ok (c := cX3_isNearBehind) [(95, 1, some (.ireturn)), (96, 3, some (.iinc 3 1)), (99, 3, some (.goto (-97))), (102, 1, some (.iconst 1)), (103, 1, some (.ireturn))] _ 95 rfl (by decide +kernel)
theorem dX3_isNearBehind_95 : decode cX3_isNearBehind 95 = .ok (.ireturn, 1) := dq_g54.1
theorem dX3_isNearBehind_96 : decode cX3_isNearBehind 96 = .ok (.iinc 3 1, 3) := dq_g54.2.1
theorem dX3_isNearBehind_99 : decode cX3_isNearBehind 99 = .ok (.goto (-97), 3) := dq_g54.2.2.1
theorem dX3_isNearBehind_102 : decode cX3_isNearBehind 102 = .ok (.iconst 1, 1) := dq_g54.2.2.2.1
theorem dX3_isNearBehind_103 : decode cX3_isNearBehind 103 = .ok (.ireturn, 1) := dq_g54.2.2.2.2.1
theorem dq_g55 : decode cX3_isNear 0 = .ok (.iload_n 2, 1) ∧ decode cX3_isNear 1 = .ok (.iload_n 3, 1) ∧ decode cX3_isNear 2 = .ok (.invokestatic 121, 3) ∧ decode cX3_isNear 5 = .ok (.aload_n 0, 1) ∧ decode cX3_isNear 6 = .ok (.getfield 27, 3) ∧ decode cX3_isNear 9 = .ok (.iload_n 1, 1) ∧ decode cX3_isNear 10 = .ok (.iaload, 1) ∧ decode cX3_isNear 11 = .ok (.isub, 1) ∧ decode cX3_isNear 12 = .ok (.istore 5, 2) ∧ decode cX3_isNear 14 = .ok (.iload 5, 2) ∧ decode cX3_isNear 16 = .ok (.aload_n 0, 1) ∧ decode cX3_isNear 17 = .ok (.getfield 56, 3) ∧ decode cX3_isNear 20 = .ok (.ineg, 1) ∧ decode cX3_isNear 21 = .ok (.if_icmp .lt 21, 3) ∧ decode cX3_isNear 24 = .ok (.iload 4, 2) ∧ decode cX3_isNear 26 = .ok (.ifCond .eq 12, 3) ∧ decode cX3_isNear 29 = .ok (.iload 5, 2) ∧ decode cX3_isNear 31 = .ok (.aload_n 0, 1) ∧ decode cX3_isNear 32 = .ok (.getfield 56, 3) ∧ decode cX3_isNear 35 = .ok (.if_icmp .gt 7, 3) ∧ decode cX3_isNear 38 = .ok (.iconst 1, 1) ∧ decode cX3_isNear 39 = .ok (.goto 4, 3) ∧ decode cX3_isNear 42 = .ok (.iconst 0, 1) ∧ decode cX3_isNear 43 = .ok (.ireturn, 1) ∧ True := dqC_ok (c := cX3_isNear) [(0, 1, some (.iload_n 2)), (1, 1, some (.iload_n 3)), (2, 3, some (.invokestatic 121)), (5, 1, some (.aload_n 0)), (6, 3, some (.getfield 27)), (9, 1, some (.iload_n 1)), (10, 1, some (.iaload)), (11, 1, some (.isub)), (12, 2, some (.istore 5)), (14, 2, some (.iload 5)), (16, 1, some (.aload_n 0)), (17, 3, some (.getfield 56)), (20, 1, some (.ineg)), (21, 3, some (.if_icmp .lt 21)), (24, 2, some (.iload 4)), (26, 3, some (.ifCond .eq 12)), (29, 2, some (.iload 5)), (31, 1, some (.aload_n 0)), (32, 3, some (.getfield 56)), (35, 3, some (.if_icmp .gt 7)), (38, 1, some (.iconst 1)), (39, 3, some (.goto 4)), (42, 1, some (.iconst 0)), (43, 1, some (.ireturn))] _ 0 rfl (by decide +kernel)
theorem dX3_isNear_0 : decode cX3_isNear 0 = .ok (.iload_n 2, 1) := dq_g55.1
theorem dX3_isNear_1 : decode cX3_isNear 1 = .ok (.iload_n 3, 1) := dq_g55.2.1
theorem dX3_isNear_2 : decode cX3_isNear 2 = .ok (.invokestatic 121, 3) := dq_g55.2.2.1
theorem dX3_isNear_5 : decode cX3_isNear 5 = .ok (.aload_n 0, 1) := dq_g55.2.2.2.1
theorem dX3_isNear_6 : decode cX3_isNear 6 = .ok (.getfield 27, 3) := dq_g55.2.2.2.2.1
theorem dX3_isNear_9 : decode cX3_isNear 9 = .ok (.iload_n 1, 1) := dq_g55.2.2.2.2.2.1
theorem dX3_isNear_10 : decode cX3_isNear 10 = .ok (.iaload, 1) := dq_g55.2.2.2.2.2.2.1
theorem dX3_isNear_11 : decode cX3_isNear 11 = .ok (.isub, 1) := dq_g55.2.2.2.2.2.2.2.1
theorem dX3_isNear_12 : decode cX3_isNear 12 = .ok (.istore 5, 2) := dq_g55.2.2.2.2.2.2.2.2.1
theorem dX3_isNear_14 : decode cX3_isNear 14 = .ok (.iload 5, 2) := dq_g55.2.2.2.2.2.2.2.2.2.1
theorem dX3_isNear_16 : decode cX3_isNear 16 = .ok (.aload_n 0, 1) := dq_g55.2.2.2.2.2.2.2.2.2.2.1
theorem dX3_isNear_17 : decode cX3_isNear 17 = .ok (.getfield 56, 3) := dq_g55.2.2.2.2.2.2.2.2.2.2.2.1
theorem dX3_isNear_20 : decode cX3_isNear 20 = .ok (.ineg, 1) := dq_g55.2.2.2.2.2.2.2.2.2.2.2.2.1
theorem dX3_isNear_21 : decode cX3_isNear 21 = .ok (.if_icmp .lt 21, 3) := dq_g55.2.2.2.2.2.2.2.2.2.2.2.2.2.1
theorem dX3_isNear_24 : decode cX3_isNear 24 = .ok (.iload 4, 2) := dq_g55.2.2.2.2.2.2.2.2.2.2.2.2.2.2.1
theorem dX3_isNear_26 : decode cX3_isNear 26 = .ok (.ifCond .eq 12, 3) := dq_g55.2.2.2.2.2.2.2.2.2.2.2.2.2.2.2.1
theorem dX3_isNear_29 : decode cX3_isNear 29 = .ok (.iload 5, 2) := dq_g55.2.2.2.2.2.2.2.2.2.2.2.2.2.2.2.2.1
theorem dX3_isNear_31 : decode cX3_isNear 31 = .ok (.aload_n 0, 1) := dq_g55.2.2.2.2.2.2.2.2.2.2.2.2.2.2.2.2.2.1
theorem dX3_isNear_32 : decode cX3_isNear 32 = .ok (.getfield 56, 3) := dq_g55.2.2.2.2.2.2.2.2.2.2.2.2.2.2.2.2.2.2.1
theorem dX3_isNear_35 : decode cX3_isNear 35 = .ok (.if_icmp .gt 7, 3) := dq_g55.2.2.2.2.2.2.2.2.2.2.2.2.2.2.2.2.2.2.2.1
theorem dX3_isNear_38 : decode cX3_isNear 38 = .ok (.iconst 1, 1) := dq_g55.2.2.2.2.2.2.2.2.2.2.2.2.2.2.2.2.2.2.2.2.1
theorem dX3_isNear_39 : decode cX3_isNear 39 = .ok (.goto 4, 3) := dq_g55.2.2.2.2.2.2.2.2.2.2.2.2.2.2.2.2.2.2.2.2.2.1
theorem dX3_isNear_42 : decode cX3_isNear 42 = .ok (.iconst 0, 1) := dq_g55.2.2.2.2.2.2.2.2.2.2.2.2.2.2.2.2.2.2.2.2.2.2.1
theorem dX3_isNear_43 : decode cX3_isNear 43 = .ok (.ireturn, 1) := dq_g55.2.2.2.2.2.2.2.2.2.2.2.2.2.2.2.2.2.2.2.2.2.2.2.1
theorem dq_g56 : decode cX4_init 0 = .ok (.aload_n 0, 1) ∧ decode cX4_init 1 = .ok (.invokespecial 3, 3) ∧ decode cX4_init 4 = .ok (.aload_n 0, 1) ∧ decode cX4_init 5 = .ok (.new 9, 3) ∧ decode cX4_init 8 = .ok (.dup, 1) ∧ decode cX4_init 9 = .ok (.invokespecial 11, 3) ∧ decode cX4_init 12 = .ok (.putfield 12, 3) ∧ decode cX4_init 15 = .ok (.aload_n 0, 1) ∧ decode cX4_init 16 = .ok (.sipush 501, 3) ∧ decode cX4_init 21 = .ok (.putfield 18, 3) ∧ decode cX4_init 24 = .ok (.aload_n 0, 1) ∧ decode cX4_init 25 = .ok (.sipush 501, 3) ∧ decode cX4_init 30 = .ok (.putfield 22, 3) ∧ decode cX4_init 33 = .ok (.aload_n 0, 1) ∧ decode cX4_init 34 = .ok (.sipush 501, 3) ∧ decode cX4_init 39 = .ok (.putfield 25, 3) ∧ decode cX4_init 42 = .ok (.return_, 1) ∧ True := dqC_ok (c := cX4_init) [(0, 1, some (.aload_n 0)), (1, 3, some (.invokespecial 3)), (4, 1, some (.aload_n 0)), (5, 3, some (.new 9)), (8, 1, some (.dup)), (9, 3, some (.invokespecial 11)), (12, 3, some (.putfield 12)), (15, 1, some (.aload_n 0)), (16, 3, some (.sipush 501)), (19, 2, none), (21, 3, some (.putfield 18)), (24, 1, some (.aload_n 0)), (25, 3, some (.sipush 501)), (28, 2, none), (30, 3, some (.putfield 22)), (33, 1, some (.aload_n 0)), (34, 3, some (.sipush 501)), (37, 2, none), (39, 3, some (.putfield 25)), (42, 1, some (.return_))] _ 0 rfl (by decide +kernel)
theorem dX4_init_0 : decode cX4_init 0 = .ok (.aload_n 0, 1) := dq_g56.1
theorem dX4_init_1 : decode cX4_init 1 = .ok (.invokespecial 3, 3) := dq_g56.2.1
theorem dX4_init_4 : decode cX4_init 4 = .ok (.aload_n 0, 1) := dq_g56.2.2.1
theorem dX4_init_5 : decode cX4_init 5 = .ok (.new 9, 3) := dq_g56.2.2.2.1
theorem dX4_init_8 : decode cX4_init 8 = .ok (.dup, 1) := dq_g56.2.2.2.2.1
theorem dX4_init_9 : decode cX4_init 9 = .ok (.invokespecial 11, 3) := dq_g56.2.2.2.2.2.1
theorem dX4_init_12 : decode cX4_init 12 = .ok (.putfield 12, 3) := dq_g56.2.2.2.2.2.2.1
theorem dX4_init_15 : decode cX4_init 15 = .ok (.aload_n 0, 1) := dq_g56.2.2.2.2.2.2.2.1
theorem dX4_init_16 : decode cX4_init 16 = .ok (.sipush 501, 3) := dq_g56.2.2.2.2.2.2.2.2.1
theorem dX4_init_21 : decode cX4_init 21 = .ok (.putfield 18, 3) := dq_g56.2.2.2.2.2.2.2.2.2.1
theorem dX4_init_24 : decode cX4_init 24 = .ok (.aload_n 0, 1) := dq_g56.2.2.2.2.2.2.2.2.2.2.1
theorem dX4_init_25 : decode cX4_init 25 = .ok (.sipush 501, 3) := dq_g56.2.2.2.2.2.2.2.2.2.2.2.1
theorem dX4_init_30 : decode cX4_init 30 = .ok (.putfield 22, 3) := dq_g56.2.2.2.2.2.2.2.2.2.2.2.2.1
theorem dX4_init_33 : decode cX4_init 33 = .ok (.aload_n 0, 1) := dq_g56.2.2.2.2.2.2.2.2.2.2.2.2.2.1
theorem dX4_init_34 : decode cX4_init 34 = .ok (.sipush 501, 3) := dq_g56.2.2.2.2.2.2.2.2.2.2.2.2.2.2.1
theorem dX4_init_39 : decode cX4_init 39 = .ok (.putfield 25, 3) := dq_g56.2.2.2.2.2.2.2.2.2.2.2.2.2.2.2.1
theorem dX4_init_42 : decode cX4_init 42 = .ok (.return_, 1) := dq_g56.2.2.2.2.2.2.2.2.2.2.2.2.2.2.2.2.1
theorem dX4_init_19 : decode cX4_init 19 = .ok (.newarray .int, 2) := by decide +kernel
theorem dX4_init_28 : decode cX4_init 28 = .ok (.newarray .int, 2) := by decide +kernel
theorem dX4_init_37 : decode cX4_init 37 = .ok (.newarray .int, 2) := by decide +kernel
theorem dq_g57 : decode cX4_start 0 = .ok (.aload_n 0, 1) ∧ decode cX4_start 1 = .ok (.iload_n 3, 1) ∧ decode cX4_start 2 = .ok (.putfield 28, 3) ∧ decode cX4_start 5 = .ok (.aload_n 0, 1) ∧ decode cX4_start 6 = .ok (.iconst 0, 1) ∧ decode cX4_start 7 = .ok (.putfield 32, 3) ∧ decode cX4_start 10 = .ok (.aload_n 0, 1) ∧ decode cX4_start 11 = .ok (.iconst (-1), 1) ∧ decode cX4_start 12 = .ok (.putfield 36, 3) ∧ decode cX4_start 15 = .ok (.aload_n 0, 1) ∧ decode cX4_start 16 = .ok (.getfield 12, 3) ∧ decode cX4_start 19 = .ok (.invokevirtual 39, 3) ∧ decode cX4_start 22 = .ok (.aload_n 0, 1) ∧ decode cX4_start 23 = .ok (.iconst 0, 1) ∧ decode cX4_start 24 = .ok (.putfield 42, 3) ∧ decode cX4_start 27 = .ok (.aload_n 0, 1) ∧ decode cX4_start 28 = .ok (.iconst 0, 1) ∧ decode cX4_start 29 = .ok (.putfield 45, 3) ∧ decode cX4_start 32 = .ok (.iconst 0, 1) ∧ decode cX4_start 33 = .ok (.istore 4, 2) ∧ decode cX4_start 35 = .ok (.iload 4, 2) ∧ decode cX4_start 37 = .ok (.iload_n 2, 1) ∧ decode cX4_start 38 = .ok (.if_icmp .ge 166, 3) ∧ decode cX4_start 41 = .ok (.iload 4, 2) ∧ decode cX4_start 43 = .ok (.istore 5, 2) ∧ decode cX4_start 45 = .ok (.aload_n 1, 1) ∧ decode cX4_start 46 = .ok (.iload 4, 2) ∧ decode cX4_start 48 = .ok (.iaload, 1) ∧ decode cX4_start 49 = .ok (.istore 6, 2) ∧ decode cX4_start 51 = .ok (.iinc 4 1, 3) ∧ True := dqC_ok (c := cX4_start) [(0, 1, some (.aload_n 0)), (1, 1, some (.iload_n 3)), (2, 3, some (.putfield 28)), (5, 1, some (.aload_n 0)), (6, 1, some (.iconst 0)), (7, 3, some (.putfield 32)), (10, 1, some (.aload_n 0)), (11, 1, some (.iconst (-1))), (12, 3, some (.putfield 36)), (15, 1, some (.aload_n 0)), (16, 3, some (.getfield 12)), (19, 3, some (.invokevirtual 39)), (22, 1, some (.aload_n 0)), (23, 1, some (.iconst 0)), (24, 3, some (.putfield 42)), (27, 1, some (.aload_n 0)), (28, 1, some (.iconst 0)), (29, 3, some (.putfield 45)), (32, 1, some (.iconst 0)), (33, 2, some (.istore 4)), (35, 2, some (.iload 4)), (37, 1, some (.iload_n 2)), (38, 3, some (.if_icmp .ge 166)), (41, 2, some (.iload 4)), (43, 2, some (.istore 5)), (45, 1, some (.aload_n 1)), (46, 2, some (.iload 4)), (48, 1, some (.iaload)), (49, 2, some (.istore 6)), (51, 3, some (.iinc 4 1))] _ 0 rfl (by decide +kernel)
theorem dX4_start_0 : decode cX4_start 0 = .ok (.aload_n 0, 1) := dq_g57.1
theorem dX4_start_1 : decode cX4_start 1 = .ok (.iload_n 3, 1) := dq_g57.2.1
theorem dX4_start_2 : decode cX4_start 2 = .ok (.putfield 28, 3) := dq_g57.2.2.1
theorem dX4_start_5 : decode cX4_start 5 = .ok (.aload_n 0, 1) := dq_g57.2.2.2.1
theorem dX4_start_6 : decode cX4_start 6 = .ok (.iconst 0, 1) := dq_g57.2.2.2.2.1
theorem dX4_start_7 : decode cX4_start 7 = .ok (.putfield 32, 3) := dq_g57.2.2.2.2.2.1
theorem dX4_start_10 : decode cX4_start 10 = .ok (.aload_n 0, 1) := dq_g57.2.2.2.2.2.2.1
theorem dX4_start_11 : decode cX4_start 11 = .ok (.iconst (-1), 1) := dq_g57.2.2.2.2.2.2.2.1
theorem dX4_start_12 : decode cX4_start 12 = .ok (.putfield 36, 3) := dq_g57.2.2.2.2.2.2.2.2.1
theorem dX4_start_15 : decode cX4_start 15 = .ok (.aload_n 0, 1) := dq_g57.2.2.2.2.2.2.2.2.2.1
theorem dX4_start_16 : decode cX4_start 16 = .ok (.getfield 12, 3) := dq_g57.2.2.2.2.2.2.2.2.2.2.1
theorem dX4_start_19 : decode cX4_start 19 = .ok (.invokevirtual 39, 3) := dq_g57.2.2.2.2.2.2.2.2.2.2.2.1
theorem dX4_start_22 : decode cX4_start 22 = .ok (.aload_n 0, 1) := dq_g57.2.2.2.2.2.2.2.2.2.2.2.2.1
theorem dX4_start_23 : decode cX4_start 23 = .ok (.iconst 0, 1) := dq_g57.2.2.2.2.2.2.2.2.2.2.2.2.2.1
theorem dX4_start_24 : decode cX4_start 24 = .ok (.putfield 42, 3) := dq_g57.2.2.2.2.2.2.2.2.2.2.2.2.2.2.1
theorem dX4_start_27 : decode cX4_start 27 = .ok (.aload_n 0, 1) := dq_g57.2.2.2.2.2.2.2.2.2.2.2.2.2.2.2.1
theorem dX4_start_28 : decode cX4_start 28 = .ok (.iconst 0, 1) := dq_g57.2.2.2.2.2.2.2.2.2.2.2.2.2.2.2.2.1
theorem dX4_start_29 : decode cX4_start 29 = .ok (.putfield 45, 3) := dq_g57.2.2.2.2.2.2.2.2.2.2.2.2.2.2.2.2.2.1
theorem dX4_start_32 : decode cX4_start 32 = .ok (.iconst 0, 1) := dq_g57.2.2.2.2.2.2.2.2.2.2.2.2.2.2.2.2.2.2.1
theorem dX4_start_33 : decode cX4_start 33 = .ok (.istore 4, 2) := dq_g57.2.2.2.2.2.2.2.2.2.2.2.2.2.2.2.2.2.2.2.1
theorem dX4_start_35 : decode cX4_start 35 = .ok (.iload 4, 2) := dq_g57.2.2.2.2.2.2.2.2.2.2.2.2.2.2.2.2.2.2.2.2.1
theorem dX4_start_37 : decode cX4_start 37 = .ok (.iload_n 2, 1) := dq_g57.2.2.2.2.2.2.2.2.2.2.2.2.2.2.2.2.2.2.2.2.2.1
theorem dX4_start_38 : decode cX4_start 38 = .ok (.if_icmp .ge 166, 3) := dq_g57.2.2.2.2.2.2.2.2.2.2.2.2.2.2.2.2.2.2.2.2.2.2.1
theorem dX4_start_41 : decode cX4_start 41 = .ok (.iload 4, 2) := dq_g57.2.2.2.2.2.2.2.2.2.2.2.2.2.2.2.2.2.2.2.2.2.2.2.1
theorem dX4_start_43 : decode cX4_start 43 = .ok (.istore 5, 2) := dq_g57.2.2.2.2.2.2.2.2.2.2.2.2.2.2.2.2.2.2.2.2.2.2.2.2.1
theorem dX4_start_45 : decode cX4_start 45 = .ok (.aload_n 1, 1) := dq_g57.2.2.2.2.2.2.2.2.2.2.2.2.2.2.2.2.2.2.2.2.2.2.2.2.2.1
theorem dX4_start_46 : decode cX4_start 46 = .ok (.iload 4, 2) := dq_g57.2.2.2.2.2.2.2.2.2.2.2.2.2.2.2.2.2.2.2.2.2.2.2.2.2.2.1
theorem dX4_start_48 : decode cX4_start 48 = .ok (.iaload, 1) := dq_g57.2.2.2.2.2.2.2.2.2.2.2.2.2.2.2.2.2.2.2.2.2.2.2.2.2.2.2.1
theorem dX4_start_49 : decode cX4_start 49 = .ok (.istore 6, 2) := dq_g57.2.2.2.2.2.2.2.2.2.2.2.2.2.2.2.2.2.2.2.2.2.2.2.2.2.2.2.2.1
theorem dX4_start_51 : decode cX4_start 51 = .ok (.iinc 4 1, 3) := dq_g57.2.2.2.2.2.2.2.2.2.2.2.2.2.2.2.2.2.2.2.2.2.2.2.2.2.2.2.2.2.1
theorem dq_g58 : decode cX4_start 54 = .ok (.iload 6, 2) ∧ decode cX4_start 56 = .ok (.invokestatic 48, 3) ∧ decode cX4_start 59 = .ok (.ifCond .eq 43, 3) ∧ decode cX4_start 62 = .ok (.iload 4, 2) ∧ decode cX4_start 64 = .ok (.iload_n 2, 1) ∧ decode cX4_start 65 = .ok (.if_icmp .ge 19, 3) ∧ decode cX4_start 68 = .ok (.aload_n 1, 1) ∧ decode cX4_start 69 = .ok (.iload 4, 2) ∧ decode cX4_start 71 = .ok (.iaload, 1) ∧ decode cX4_start 72 = .ok (.invokestatic 48, 3) ∧ decode cX4_start 75 = .ok (.ifCond .eq 9, 3) ∧ decode cX4_start 78 = .ok (.iinc 4 1, 3) ∧ decode cX4_start 81 = .ok (.goto (-19), 3) ∧ decode cX4_start 84 = .ok (.aload_n 0, 1) ∧ decode cX4_start 85 = .ok (.aload_n 1, 1) ∧ decode cX4_start 86 = .ok (.iload 5, 2) ∧ decode cX4_start 88 = .ok (.iload 4, 2) ∧ decode cX4_start 90 = .ok (.invokestatic 52, 3) ∧ decode cX4_start 93 = .ok (.iconst 0, 1) ∧ decode cX4_start 94 = .ok (.iload 5, 2) ∧ decode cX4_start 96 = .ok (.invokevirtual 56, 3) ∧ decode cX4_start 99 = .ok (.goto 102, 3) ∧ decode cX4_start 102 = .ok (.iload 6, 2) ∧ decode cX4_start 104 = .ok (.invokestatic 60, 3) ∧ decode cX4_start 107 = .ok (.ifCond .eq 58, 3) ∧ decode cX4_start 110 = .ok (.iload 4, 2) ∧ decode cX4_start 112 = .ok (.iload_n 2, 1) ∧ decode cX4_start 113 = .ok (.if_icmp .ge 19, 3) ∧ decode cX4_start 116 = .ok (.aload_n 1, 1) ∧ decode cX4_start 117 = .ok (.iload 4, 2) ∧ True := dqC_ok (c := cX4_start) [(54, 2, some (.iload 6)), (56, 3, some (.invokestatic 48)), (59, 3, some (.ifCond .eq 43)), (62, 2, some (.iload 4)), (64, 1, some (.iload_n 2)), (65, 3, some (.if_icmp .ge 19)), (68, 1, some (.aload_n 1)), (69, 2, some (.iload 4)), (71, 1, some (.iaload)), (72, 3, some (.invokestatic 48)), (75, 3, some (.ifCond .eq 9)), (78, 3, some (.iinc 4 1)), (81, 3, some (.goto (-19))), (84, 1, some (.aload_n 0)), (85, 1, some (.aload_n 1)), (86, 2, some (.iload 5)), (88, 2, some (.iload 4)), (90, 3, some (.invokestatic 52)), (93, 1, some (.iconst 0)), (94, 2, some (.iload 5)), (96, 3, some (.invokevirtual 56)), (99, 3, some (.goto 102)), (102, 2, some (.iload 6)), (104, 3, some (.invokestatic 60)), (107, 3, some (.ifCond .eq 58)), (110, 2, some (.iload 4)), (112, 1, some (.iload_n 2)), (113, 3, some (.if_icmp .ge 19)), (116, 1, some (.aload_n 1)), (117, 2, some (.iload 4))] _ 54 rfl (by decide +kernel)
theorem dX4_start_54 : decode cX4_start 54 = .ok (.iload 6, 2) := dq_g58.1
theorem dX4_start_56 : decode cX4_start 56 = .ok (.invokestatic 48, 3) := dq_g58.2.1
theorem dX4_start_59 : decode cX4_start 59 = .ok (.ifCond .eq 43, 3) := dq_g58.2.2.1
theorem dX4_start_62 : decode cX4_start 62 = .ok (.iload 4, 2) := dq_g58.2.2.2.1
theorem dX4_start_64 : decode cX4_start 64 = .ok (.iload_n 2, 1) := dq_g58.2.2.2.2.1
theorem dX4_start_65 : decode cX4_start 65 = .ok (.if_icmp .ge 19, 3) := dq_g58.2.2.2.2.2.1
theorem dX4_start_68 : decode cX4_start 68 = .ok (.aload_n 1, 1) := dq_g58.2.2.2.2.2.2.1
theorem dX4_start_69 : decode cX4_start 69 = .ok (.iload 4, 2) := dq_g58.2.2.2.2.2.2.2.1
theorem dX4_start_71 : decode cX4_start 71 = .ok (.iaload, 1) := dq_g58.2.2.2.2.2.2.2.2.1
theorem dX4_start_72 : decode cX4_start 72 = .ok (.invokestatic 48, 3) := dq_g58.2.2.2.2.2.2.2.2.2.1
theorem dX4_start_75 : decode cX4_start 75 = .ok (.ifCond .eq 9, 3) := dq_g58.2.2.2.2.2.2.2.2.2.2.1
theorem dX4_start_78 : decode cX4_start 78 = .ok (.iinc 4 1, 3) := dq_g58.2.2.2.2.2.2.2.2.2.2.2.1
theorem dX4_start_81 : decode cX4_start 81 = .ok (.goto (-19), 3) := dq_g58.2.2.2.2.2.2.2.2.2.2.2.2.1
theorem dX4_start_84 : decode cX4_start 84 = .ok (.aload_n 0, 1) := dq_g58.2.2.2.2.2.2.2.2.2.2.2.2.2.1
theorem dX4_start_85 : decode cX4_start 85 = .ok (.aload_n 1, 1) := dq_g58.2.2.2.2.2.2.2.2.2.2.2.2.2.2.1
theorem dX4_start_86 : decode cX4_start 86 = .ok (.iload 5, 2) := dq_g58.2.2.2.2.2.2.2.2.2.2.2.2.2.2.2.1
theorem dX4_start_88 : decode cX4_start 88 = .ok (.iload 4, 2) := dq_g58.2.2.2.2.2.2.2.2.2.2.2.2.2.2.2.2.1
theorem dX4_start_90 : decode cX4_start 90 = .ok (.invokestatic 52, 3) := dq_g58.2.2.2.2.2.2.2.2.2.2.2.2.2.2.2.2.2.1
theorem dX4_start_93 : decode cX4_start 93 = .ok (.iconst 0, 1) := dq_g58.2.2.2.2.2.2.2.2.2.2.2.2.2.2.2.2.2.2.1
theorem dX4_start_94 : decode cX4_start 94 = .ok (.iload 5, 2) := dq_g58.2.2.2.2.2.2.2.2.2.2.2.2.2.2.2.2.2.2.2.1
theorem dX4_start_96 : decode cX4_start 96 = .ok (.invokevirtual 56, 3) := dq_g58.2.2.2.2.2.2.2.2.2.2.2.2.2.2.2.2.2.2.2.2.1
theorem dX4_start_99 : decode cX4_start 99 = .ok (.goto 102, 3) := dq_g58.2.2.2.2.2.2.2.2.2.2.2.2.2.2.2.2.2.2.2.2.2.1
theorem dX4_start_102 : decode cX4_start 102 = .ok (.iload 6, 2) := dq_g58.2.2.2.2.2.2.2.2.2.2.2.2.2.2.2.2.2.2.2.2.2.2.1
theorem dX4_start_104 : decode cX4_start 104 = .ok (.invokestatic 60, 3) := dq_g58.2.2.2.2.2.2.2.2.2.2.2.2.2.2.2.2.2.2.2.2.2.2.2.1
theorem dX4_start_107 : decode cX4_start 107 = .ok (.ifCond .eq 58, 3) := dq_g58.2.2.2.2.2.2.2.2.2.2.2.2.2.2.2.2.2.2.2.2.2.2.2.2.1
theorem dX4_start_110 : decode cX4_start 110 = .ok (.iload 4, 2) := dq_g58.2.2.2.2.2.2.2.2.2.2.2.2.2.2.2.2.2.2.2.2.2.2.2.2.2.1
theorem dX4_start_112 : decode cX4_start 112 = .ok (.iload_n 2, 1) := dq_g58.2.2.2.2.2.2.2.2.2.2.2.2.2.2.2.2.2.2.2.2.2.2.2.2.2.2.1
theorem dX4_start_113 : decode cX4_start 113 = .ok (.if_icmp .ge 19, 3) := dq_g58.2.2.2.2.2.2.2.2.2.2.2.2.2.2.2.2.2.2.2.2.2.2.2.2.2.2.2.1
theorem dX4_start_116 : decode cX4_start 116 = .ok (.aload_n 1, 1) := dq_g58.2.2.2.2.2.2.2.2.2.2.2.2.2.2.2.2.2.2.2.2.2.2.2.2.2.2.2.2.1
theorem dX4_start_117 : decode cX4_start 117 = .ok (.iload 4, 2) := dq_g58.2.2.2.2.2.2.2.2.2.2.2.2.2.2.2.2.2.2.2.2.2.2.2.2.2.2.2.2.2.1
theorem dq_g59 : decode cX4_start 119 = .ok (.iaload, 1) ∧ decode cX4_start 120 = .ok (.invokestatic 60, 3) ∧ decode cX4_start 123 = .ok (.ifCond .eq 9, 3) ∧ decode cX4_start 126 = .ok (.iinc 4 1, 3) ∧ decode cX4_start 129 = .ok (.goto (-19), 3) ∧ decode cX4_start 132 = .ok (.aload_n 0, 1) ∧ decode cX4_start 133 = .ok (.iload 4, 2) ∧ decode cX4_start 135 = .ok (.iload 5, 2) ∧ decode cX4_start 137 = .ok (.isub, 1) ∧ decode cX4_start 138 = .ok (.iconst 5, 1) ∧ decode cX4_start 139 = .ok (.if_icmp .gt 8, 3) ∧ decode cX4_start 142 = .ok (.bipush 24, 2) ∧ decode cX4_start 144 = .ok (.goto 5, 3) ∧ decode cX4_start 147 = .ok (.bipush 25, 2) ∧ decode cX4_start 149 = .ok (.aload_n 1, 1) ∧ decode cX4_start 150 = .ok (.iload 5, 2) ∧ decode cX4_start 152 = .ok (.iload 4, 2) ∧ decode cX4_start 154 = .ok (.invokestatic 63, 3) ∧ decode cX4_start 157 = .ok (.iload 5, 2) ∧ decode cX4_start 159 = .ok (.invokevirtual 56, 3) ∧ decode cX4_start 162 = .ok (.goto 39, 3) ∧ decode cX4_start 165 = .ok (.iload 6, 2) ∧ decode cX4_start 167 = .ok (.bipush 32, 2) ∧ decode cX4_start 169 = .ok (.if_icmp .eq 32, 3) ∧ decode cX4_start 172 = .ok (.iload 6, 2) ∧ decode cX4_start 174 = .ok (.bipush 10, 2) ∧ decode cX4_start 176 = .ok (.if_icmp .eq 25, 3) ∧ decode cX4_start 179 = .ok (.aload_n 0, 1) ∧ decode cX4_start 180 = .ok (.iload 6, 2) ∧ decode cX4_start 182 = .ok (.invokestatic 66, 3) ∧ True := dqC_ok (c := cX4_start) [(119, 1, some (.iaload)), (120, 3, some (.invokestatic 60)), (123, 3, some (.ifCond .eq 9)), (126, 3, some (.iinc 4 1)), (129, 3, some (.goto (-19))), (132, 1, some (.aload_n 0)), (133, 2, some (.iload 4)), (135, 2, some (.iload 5)), (137, 1, some (.isub)), (138, 1, some (.iconst 5)), (139, 3, some (.if_icmp .gt 8)), (142, 2, some (.bipush 24)), (144, 3, some (.goto 5)), (147, 2, some (.bipush 25)), (149, 1, some (.aload_n 1)), (150, 2, some (.iload 5)), (152, 2, some (.iload 4)), (154, 3, some (.invokestatic 63)), (157, 2, some (.iload 5)), (159, 3, some (.invokevirtual 56)), (162, 3, some (.goto 39)), (165, 2, some (.iload 6)), (167, 2, some (.bipush 32)), (169, 3, some (.if_icmp .eq 32)), (172, 2, some (.iload 6)), (174, 2, some (.bipush 10)), (176, 3, some (.if_icmp .eq 25)), (179, 1, some (.aload_n 0)), (180, 2, some (.iload 6)), (182, 3, some (.invokestatic 66))] _ 119 rfl (by decide +kernel)
theorem dX4_start_119 : decode cX4_start 119 = .ok (.iaload, 1) := dq_g59.1
theorem dX4_start_120 : decode cX4_start 120 = .ok (.invokestatic 60, 3) := dq_g59.2.1
theorem dX4_start_123 : decode cX4_start 123 = .ok (.ifCond .eq 9, 3) := dq_g59.2.2.1
theorem dX4_start_126 : decode cX4_start 126 = .ok (.iinc 4 1, 3) := dq_g59.2.2.2.1
theorem dX4_start_129 : decode cX4_start 129 = .ok (.goto (-19), 3) := dq_g59.2.2.2.2.1
theorem dX4_start_132 : decode cX4_start 132 = .ok (.aload_n 0, 1) := dq_g59.2.2.2.2.2.1
theorem dX4_start_133 : decode cX4_start 133 = .ok (.iload 4, 2) := dq_g59.2.2.2.2.2.2.1
theorem dX4_start_135 : decode cX4_start 135 = .ok (.iload 5, 2) := dq_g59.2.2.2.2.2.2.2.1
theorem dX4_start_137 : decode cX4_start 137 = .ok (.isub, 1) := dq_g59.2.2.2.2.2.2.2.2.1
theorem dX4_start_138 : decode cX4_start 138 = .ok (.iconst 5, 1) := dq_g59.2.2.2.2.2.2.2.2.2.1
theorem dX4_start_139 : decode cX4_start 139 = .ok (.if_icmp .gt 8, 3) := dq_g59.2.2.2.2.2.2.2.2.2.2.1
theorem dX4_start_142 : decode cX4_start 142 = .ok (.bipush 24, 2) := dq_g59.2.2.2.2.2.2.2.2.2.2.2.1
theorem dX4_start_144 : decode cX4_start 144 = .ok (.goto 5, 3) := dq_g59.2.2.2.2.2.2.2.2.2.2.2.2.1
theorem dX4_start_147 : decode cX4_start 147 = .ok (.bipush 25, 2) := dq_g59.2.2.2.2.2.2.2.2.2.2.2.2.2.1
theorem dX4_start_149 : decode cX4_start 149 = .ok (.aload_n 1, 1) := dq_g59.2.2.2.2.2.2.2.2.2.2.2.2.2.2.1
theorem dX4_start_150 : decode cX4_start 150 = .ok (.iload 5, 2) := dq_g59.2.2.2.2.2.2.2.2.2.2.2.2.2.2.2.1
theorem dX4_start_152 : decode cX4_start 152 = .ok (.iload 4, 2) := dq_g59.2.2.2.2.2.2.2.2.2.2.2.2.2.2.2.2.1
theorem dX4_start_154 : decode cX4_start 154 = .ok (.invokestatic 63, 3) := dq_g59.2.2.2.2.2.2.2.2.2.2.2.2.2.2.2.2.2.1
theorem dX4_start_157 : decode cX4_start 157 = .ok (.iload 5, 2) := dq_g59.2.2.2.2.2.2.2.2.2.2.2.2.2.2.2.2.2.2.1
theorem dX4_start_159 : decode cX4_start 159 = .ok (.invokevirtual 56, 3) := dq_g59.2.2.2.2.2.2.2.2.2.2.2.2.2.2.2.2.2.2.2.1
theorem dX4_start_162 : decode cX4_start 162 = .ok (.goto 39, 3) := dq_g59.2.2.2.2.2.2.2.2.2.2.2.2.2.2.2.2.2.2.2.2.1
theorem dX4_start_165 : decode cX4_start 165 = .ok (.iload 6, 2) := dq_g59.2.2.2.2.2.2.2.2.2.2.2.2.2.2.2.2.2.2.2.2.2.1
theorem dX4_start_167 : decode cX4_start 167 = .ok (.bipush 32, 2) := dq_g59.2.2.2.2.2.2.2.2.2.2.2.2.2.2.2.2.2.2.2.2.2.2.1
theorem dX4_start_169 : decode cX4_start 169 = .ok (.if_icmp .eq 32, 3) := dq_g59.2.2.2.2.2.2.2.2.2.2.2.2.2.2.2.2.2.2.2.2.2.2.2.1
theorem dX4_start_172 : decode cX4_start 172 = .ok (.iload 6, 2) := dq_g59.2.2.2.2.2.2.2.2.2.2.2.2.2.2.2.2.2.2.2.2.2.2.2.2.1
theorem dX4_start_174 : decode cX4_start 174 = .ok (.bipush 10, 2) := dq_g59.2.2.2.2.2.2.2.2.2.2.2.2.2.2.2.2.2.2.2.2.2.2.2.2.2.1
theorem dX4_start_176 : decode cX4_start 176 = .ok (.if_icmp .eq 25, 3) := dq_g59.2.2.2.2.2.2.2.2.2.2.2.2.2.2.2.2.2.2.2.2.2.2.2.2.2.2.1
theorem dX4_start_179 : decode cX4_start 179 = .ok (.aload_n 0, 1) := dq_g59.2.2.2.2.2.2.2.2.2.2.2.2.2.2.2.2.2.2.2.2.2.2.2.2.2.2.2.1
theorem dX4_start_180 : decode cX4_start 180 = .ok (.iload 6, 2) := dq_g59.2.2.2.2.2.2.2.2.2.2.2.2.2.2.2.2.2.2.2.2.2.2.2.2.2.2.2.2.1
theorem dX4_start_182 : decode cX4_start 182 = .ok (.invokestatic 66, 3) := dq_g59.2.2.2.2.2.2.2.2.2.2.2.2.2.2.2.2.2.2.2.2.2.2.2.2.2.2.2.2.2.1
theorem dq_g60 : decode cX4_start 185 = .ok (.ifCond .eq 8, 3) ∧ decode cX4_start 188 = .ok (.iload 6, 2) ∧ decode cX4_start 190 = .ok (.goto 5, 3) ∧ decode cX4_start 193 = .ok (.bipush 25, 2) ∧ decode cX4_start 195 = .ok (.iconst 0, 1) ∧ decode cX4_start 196 = .ok (.iload 5, 2) ∧ decode cX4_start 198 = .ok (.invokevirtual 56, 3) ∧ decode cX4_start 201 = .ok (.goto (-166), 3) ∧ decode cX4_start 204 = .ok (.aload_n 0, 1) ∧ decode cX4_start 205 = .ok (.bipush 26, 2) ∧ decode cX4_start 207 = .ok (.iconst 0, 1) ∧ decode cX4_start 208 = .ok (.iload_n 2, 1) ∧ decode cX4_start 209 = .ok (.invokevirtual 56, 3) ∧ decode cX4_start 212 = .ok (.return_, 1) ∧ True := dqC_ok (c := cX4_start) [(185, 3, some (.ifCond .eq 8)), (188, 2, some (.iload 6)), (190, 3, some (.goto 5)), (193, 2, some (.bipush 25)), (195, 1, some (.iconst 0)), (196, 2, some (.iload 5)), (198, 3, some (.invokevirtual 56)), (201, 3, some (.goto (-166))), (204, 1, some (.aload_n 0)), (205, 2, some (.bipush 26)), (207, 1, some (.iconst 0)), (208, 1, some (.iload_n 2)), (209, 3, some (.invokevirtual 56)), (212, 1, some (.return_))] _ 185 rfl (by decide +kernel)
theorem dX4_start_185 : decode cX4_start 185 = .ok (.ifCond .eq 8, 3) := dq_g60.1
theorem dX4_start_188 : decode cX4_start 188 = .ok (.iload 6, 2) := dq_g60.2.1
theorem dX4_start_190 : decode cX4_start 190 = .ok (.goto 5, 3) := dq_g60.2.2.1
theorem dX4_start_193 : decode cX4_start 193 = .ok (.bipush 25, 2) := dq_g60.2.2.2.1
theorem dX4_start_195 : decode cX4_start 195 = .ok (.iconst 0, 1) := dq_g60.2.2.2.2.1
theorem dX4_start_196 : decode cX4_start 196 = .ok (.iload 5, 2) := dq_g60.2.2.2.2.2.1
theorem dX4_start_198 : decode cX4_start 198 = .ok (.invokevirtual 56, 3) := dq_g60.2.2.2.2.2.2.1
theorem dX4_start_201 : decode cX4_start 201 = .ok (.goto (-166), 3) := dq_g60.2.2.2.2.2.2.2.1
theorem dX4_start_204 : decode cX4_start 204 = .ok (.aload_n 0, 1) := dq_g60.2.2.2.2.2.2.2.2.1
theorem dX4_start_205 : decode cX4_start 205 = .ok (.bipush 26, 2) := dq_g60.2.2.2.2.2.2.2.2.2.1
theorem dX4_start_207 : decode cX4_start 207 = .ok (.iconst 0, 1) := dq_g60.2.2.2.2.2.2.2.2.2.2.1
theorem dX4_start_208 : decode cX4_start 208 = .ok (.iload_n 2, 1) := dq_g60.2.2.2.2.2.2.2.2.2.2.2.1
theorem dX4_start_209 : decode cX4_start 209 = .ok (.invokevirtual 56, 3) := dq_g60.2.2.2.2.2.2.2.2.2.2.2.2.1
theorem dX4_start_212 : decode cX4_start 212 = .ok (.return_, 1) := dq_g60.2.2.2.2.2.2.2.2.2.2.2.2.2.1
theorem dq_g61 : decode cX4_addToken 0 = .ok (.aload_n 0, 1) ∧ decode cX4_addToken 1 = .ok (.getfield 45, 3) ∧ decode cX4_addToken 4 = .ok (.sipush 500, 3) ∧ decode cX4_addToken 7 = .ok (.if_icmp .gt 43, 3) ∧ decode cX4_addToken 10 = .ok (.aload_n 0, 1) ∧ decode cX4_addToken 11 = .ok (.getfield 18, 3) ∧ decode cX4_addToken 14 = .ok (.aload_n 0, 1) ∧ decode cX4_addToken 15 = .ok (.getfield 45, 3) ∧ decode cX4_addToken 18 = .ok (.iload_n 1, 1) ∧ decode cX4_addToken 19 = .ok (.iastore, 1) ∧ decode cX4_addToken 20 = .ok (.aload_n 0, 1) ∧ decode cX4_addToken 21 = .ok (.getfield 22, 3) ∧ decode cX4_addToken 24 = .ok (.aload_n 0, 1) ∧ decode cX4_addToken 25 = .ok (.getfield 45, 3) ∧ decode cX4_addToken 28 = .ok (.iload_n 2, 1) ∧ decode cX4_addToken 29 = .ok (.iastore, 1) ∧ decode cX4_addToken 30 = .ok (.aload_n 0, 1) ∧ decode cX4_addToken 31 = .ok (.getfield 25, 3) ∧ decode cX4_addToken 34 = .ok (.aload_n 0, 1) ∧ decode cX4_addToken 35 = .ok (.getfield 45, 3) ∧ decode cX4_addToken 38 = .ok (.iload_n 3, 1) ∧ decode cX4_addToken 39 = .ok (.iastore, 1) ∧ decode cX4_addToken 40 = .ok (.aload_n 0, 1) ∧ decode cX4_addToken 41 = .ok (.dup, 1) ∧ decode cX4_addToken 42 = .ok (.getfield 45, 3) ∧ decode cX4_addToken 45 = .ok (.iconst 1, 1) ∧ decode cX4_addToken 46 = .ok (.iadd, 1) ∧ decode cX4_addToken 47 = .ok (.putfield 45, 3) ∧ decode cX4_addToken 50 = .ok (.return_, 1) ∧ True := dqC_ok (c := cX4_addToken) [(0, 1, some (.aload_n 0)), (1, 3, some (.getfield 45)), (4, 3, some (.sipush 500)), (7, 3, some (.if_icmp .gt 43)), (10, 1, some (.aload_n 0)), (11, 3, some (.getfield 18)), (14, 1, some (.aload_n 0)), (15, 3, some (.getfield 45)), (18, 1, some (.iload_n 1)), (19, 1, some (.iastore)), (20, 1, some (.aload_n 0)), (21, 3, some (.getfield 22)), (24, 1, some (.aload_n 0)), (25, 3, some (.getfield 45)), (28, 1, some (.iload_n 2)), (29, 1, some (.iastore)), (30, 1, some (.aload_n 0)), (31, 3, some (.getfield 25)), (34, 1, some (.aload_n 0)), (35, 3, some (.getfield 45)), (38, 1, some (.iload_n 3)), (39, 1, some (.iastore)), (40, 1, some (.aload_n 0)), (41, 1, some (.dup)), (42, 3, some (.getfield 45)), (45, 1, some (.iconst 1)), (46, 1, some (.iadd)), (47, 3, some (.putfield 45)), (50, 1, some (.return_))] _ 0 rfl (by decide +kernel)
theorem dX4_addToken_0 : decode cX4_addToken 0 = .ok (.aload_n 0, 1) := dq_g61.1
theorem dX4_addToken_1 : decode cX4_addToken 1 = .ok (.getfield 45, 3) := dq_g61.2.1
theorem dX4_addToken_4 : decode cX4_addToken 4 = .ok (.sipush 500, 3) := dq_g61.2.2.1
theorem dX4_addToken_7 : decode cX4_addToken 7 = .ok (.if_icmp .gt 43, 3) := dq_g61.2.2.2.1
theorem dX4_addToken_10 : decode cX4_addToken 10 = .ok (.aload_n 0, 1) := dq_g61.2.2.2.2.1
theorem dX4_addToken_11 : decode cX4_addToken 11 = .ok (.getfield 18, 3) := dq_g61.2.2.2.2.2.1
theorem dX4_addToken_14 : decode cX4_addToken 14 = .ok (.aload_n 0, 1) := dq_g61.2.2.2.2.2.2.1
theorem dX4_addToken_15 : decode cX4_addToken 15 = .ok (.getfield 45, 3) := dq_g61.2.2.2.2.2.2.2.1
theorem dX4_addToken_18 : decode cX4_addToken 18 = .ok (.iload_n 1, 1) := dq_g61.2.2.2.2.2.2.2.2.1
theorem dX4_addToken_19 : decode cX4_addToken 19 = .ok (.iastore, 1) := dq_g61.2.2.2.2.2.2.2.2.2.1
theorem dX4_addToken_20 : decode cX4_addToken 20 = .ok (.aload_n 0, 1) := dq_g61.2.2.2.2.2.2.2.2.2.2.1
theorem dX4_addToken_21 : decode cX4_addToken 21 = .ok (.getfield 22, 3) := dq_g61.2.2.2.2.2.2.2.2.2.2.2.1
theorem dX4_addToken_24 : decode cX4_addToken 24 = .ok (.aload_n 0, 1) := dq_g61.2.2.2.2.2.2.2.2.2.2.2.2.1
theorem dX4_addToken_25 : decode cX4_addToken 25 = .ok (.getfield 45, 3) := dq_g61.2.2.2.2.2.2.2.2.2.2.2.2.2.1
theorem dX4_addToken_28 : decode cX4_addToken 28 = .ok (.iload_n 2, 1) := dq_g61.2.2.2.2.2.2.2.2.2.2.2.2.2.2.1
theorem dX4_addToken_29 : decode cX4_addToken 29 = .ok (.iastore, 1) := dq_g61.2.2.2.2.2.2.2.2.2.2.2.2.2.2.2.1
theorem dX4_addToken_30 : decode cX4_addToken 30 = .ok (.aload_n 0, 1) := dq_g61.2.2.2.2.2.2.2.2.2.2.2.2.2.2.2.2.1
theorem dX4_addToken_31 : decode cX4_addToken 31 = .ok (.getfield 25, 3) := dq_g61.2.2.2.2.2.2.2.2.2.2.2.2.2.2.2.2.2.1
theorem dX4_addToken_34 : decode cX4_addToken 34 = .ok (.aload_n 0, 1) := dq_g61.2.2.2.2.2.2.2.2.2.2.2.2.2.2.2.2.2.2.1
theorem dX4_addToken_35 : decode cX4_addToken 35 = .ok (.getfield 45, 3) := dq_g61.2.2.2.2.2.2.2.2.2.2.2.2.2.2.2.2.2.2.2.1
theorem dX4_addToken_38 : decode cX4_addToken 38 = .ok (.iload_n 3, 1) := dq_g61.2.2.2.2.2.2.2.2.2.2.2.2.2.2.2.2.2.2.2.2.1
theorem dX4_addToken_39 : decode cX4_addToken 39 = .ok (.iastore, 1) := dq_g61.2.2.2.2.2.2.2.2.2.2.2.2.2.2.2.2.2.2.2.2.2.1
theorem dX4_addToken_40 : decode cX4_addToken 40 = .ok (.aload_n 0, 1) := dq_g61.2.2.2.2.2.2.2.2.2.2.2.2.2.2.2.2.2.2.2.2.2.2.1
theorem dX4_addToken_41 : decode cX4_addToken 41 = .ok (.dup, 1) := dq_g61.2.2.2.2.2.2.2.2.2.2.2.2.2.2.2.2.2.2.2.2.2.2.2.1
theorem dX4_addToken_42 : decode cX4_addToken 42 = .ok (.getfield 45, 3) := dq_g61.2.2.2.2.2.2.2.2.2.2.2.2.2.2.2.2.2.2.2.2.2.2.2.2.1
theorem dX4_addToken_45 : decode cX4_addToken 45 = .ok (.iconst 1, 1) := dq_g61.2.2.2.2.2.2.2.2.2.2.2.2.2.2.2.2.2.2.2.2.2.2.2.2.2.1
theorem dX4_addToken_46 : decode cX4_addToken 46 = .ok (.iadd, 1) := dq_g61.2.2.2.2.2.2.2.2.2.2.2.2.2.2.2.2.2.2.2.2.2.2.2.2.2.2.1
theorem dX4_addToken_47 : decode cX4_addToken 47 = .ok (.putfield 45, 3) := dq_g61.2.2.2.2.2.2.2.2.2.2.2.2.2.2.2.2.2.2.2.2.2.2.2.2.2.2.2.1
theorem dX4_addToken_50 : decode cX4_addToken 50 = .ok (.return_, 1) := dq_g61.2.2.2.2.2.2.2.2.2.2.2.2.2.2.2.2.2.2.2.2.2.2.2.2.2.2.2.2.1
theorem dq_g62 : decode cX4_isLetter 0 = .ok (.iload_n 0, 1) ∧ decode cX4_isLetter 1 = .ok (.bipush 97, 2) ∧ decode cX4_isLetter 3 = .ok (.if_icmp .lt 9, 3) ∧ decode cX4_isLetter 6 = .ok (.iload_n 0, 1) ∧ decode cX4_isLetter 7 = .ok (.bipush 122, 2) ∧ decode cX4_isLetter 9 = .ok (.if_icmp .le 15, 3) ∧ decode cX4_isLetter 12 = .ok (.iload_n 0, 1) ∧ decode cX4_isLetter 13 = .ok (.bipush 65, 2) ∧ decode cX4_isLetter 15 = .ok (.if_icmp .lt 13, 3) ∧ decode cX4_isLetter 18 = .ok (.iload_n 0, 1) ∧ decode cX4_isLetter 19 = .ok (.bipush 90, 2) ∧ decode cX4_isLetter 21 = .ok (.if_icmp .gt 7, 3) ∧ decode cX4_isLetter 24 = .ok (.iconst 1, 1) ∧ decode cX4_isLetter 25 = .ok (.goto 4, 3) ∧ decode cX4_isLetter 28 = .ok (.iconst 0, 1) ∧ decode cX4_isLetter 29 = .ok (.ireturn, 1) ∧ True := dqC_ok (c := cX4_isLetter) [(0, 1, some (.iload_n 0)), (1, 2, some (.bipush 97)), (3, 3, some (.if_icmp .lt 9)), (6, 1, some (.iload_n 0)), (7, 2, some (.bipush 122)), (9, 3, some (.if_icmp .le 15)), (12, 1, some (.iload_n 0)), (13, 2, some (.bipush 65)), (15, 3, some (.if_icmp .lt 13)), (18, 1, some (.iload_n 0)), (19, 2, some (.bipush 90)), (21, 3, some (.if_icmp .gt 7)), (24, 1, some (.iconst 1)), (25, 3, some (.goto 4)), (28, 1, some (.iconst 0)), (29, 1, some (.ireturn))] _ 0 rfl (by decide +kernel)
theorem dX4_isLetter_0 : decode cX4_isLetter 0 = .ok (.iload_n 0, 1) := dq_g62.1
theorem dX4_isLetter_1 : decode cX4_isLetter 1 = .ok (.bipush 97, 2) := dq_g62.2.1
theorem dX4_isLetter_3 : decode cX4_isLetter 3 = .ok (.if_icmp .lt 9, 3) := dq_g62.2.2.1
theorem dX4_isLetter_6 : decode cX4_isLetter 6 = .ok (.iload_n 0, 1) := dq_g62.2.2.2.1
theorem dX4_isLetter_7 : decode cX4_isLetter 7 = .ok (.bipush 122, 2) := dq_g62.2.2.2.2.1
theorem dX4_isLetter_9 : decode cX4_isLetter 9 = .ok (.if_icmp .le 15, 3) := dq_g62.2.2.2.2.2.1
theorem dX4_isLetter_12 : decode cX4_isLetter 12 = .ok (.iload_n 0, 1) := dq_g62.2.2.2.2.2.2.1
theorem dX4_isLetter_13 : decode cX4_isLetter 13 = .ok (.bipush 65, 2) := dq_g62.2.2.2.2.2.2.2.1
theorem dX4_isLetter_15 : decode cX4_isLetter 15 = .ok (.if_icmp .lt 13, 3) := dq_g62.2.2.2.2.2.2.2.2.1
theorem dX4_isLetter_18 : decode cX4_isLetter 18 = .ok (.iload_n 0, 1) := dq_g62.2.2.2.2.2.2.2.2.2.1
theorem dX4_isLetter_19 : decode cX4_isLetter 19 = .ok (.bipush 90, 2) := dq_g62.2.2.2.2.2.2.2.2.2.2.1
theorem dX4_isLetter_21 : decode cX4_isLetter 21 = .ok (.if_icmp .gt 7, 3) := dq_g62.2.2.2.2.2.2.2.2.2.2.2.1
theorem dX4_isLetter_24 : decode cX4_isLetter 24 = .ok (.iconst 1, 1) := dq_g62.2.2.2.2.2.2.2.2.2.2.2.2.1
theorem dX4_isLetter_25 : decode cX4_isLetter 25 = .ok (.goto 4, 3) := dq_g62.2.2.2.2.2.2.2.2.2.2.2.2.2.1
theorem dX4_isLetter_28 : decode cX4_isLetter 28 = .ok (.iconst 0, 1) := dq_g62.2.2.2.2.2.2.2.2.2.2.2.2.2.2.1
theorem dX4_isLetter_29 : decode cX4_isLetter 29 = .ok (.ireturn, 1) := dq_g62.2.2.2.2.2.2.2.2.2.2.2.2.2.2.2.1
theorem dq_g63 : decode cX4_isDigit 0 = .ok (.iload_n 0, 1) ∧ decode cX4_isDigit 1 = .ok (.bipush 48, 2) ∧ decode cX4_isDigit 3 = .ok (.if_icmp .lt 13, 3) ∧ decode cX4_isDigit 6 = .ok (.iload_n 0, 1) ∧ decode cX4_isDigit 7 = .ok (.bipush 57, 2) ∧ decode cX4_isDigit 9 = .ok (.if_icmp .gt 7, 3) ∧ decode cX4_isDigit 12 = .ok (.iconst 1, 1) ∧ decode cX4_isDigit 13 = .ok (.goto 4, 3) ∧ decode cX4_isDigit 16 = .ok (.iconst 0, 1) ∧ decode cX4_isDigit 17 = .ok (.ireturn, 1) ∧ True := dqC_ok (c := cX4_isDigit) [(0, 1, some (.iload_n 0)), (1, 2, some (.bipush 48)), (3, 3, some (.if_icmp .lt 13)), (6, 1, some (.iload_n 0)), (7, 2, some (.bipush 57)), (9, 3, some (.if_icmp .gt 7)), (12, 1, some (.iconst 1)), (13, 3, some (.goto 4)), (16, 1, some (.iconst 0)), (17, 1, some (.ireturn))] _ 0 rfl (by decide +kernel)
theorem dX4_isDigit_0 : decode cX4_isDigit 0 = .ok (.iload_n 0, 1) := dq_g63.1
theorem dX4_isDigit_1 : decode cX4_isDigit 1 = .ok (.bipush 48, 2) := dq_g63.2.1
theorem dX4_isDigit_3 : decode cX4_isDigit 3 = .ok (.if_icmp .lt 13, 3) := dq_g63.2.2.1
theorem dX4_isDigit_6 : decode cX4_isDigit 6 = .ok (.iload_n 0, 1) := dq_g63.2.2.2.1
theorem dX4_isDigit_7 : decode cX4_isDigit 7 = .ok (.bipush 57, 2) := dq_g63.2.2.2.2.1
theorem dX4_isDigit_9 : decode cX4_isDigit 9 = .ok (.if_icmp .gt 7, 3) := dq_g63.2.2.2.2.2.1
theorem dX4_isDigit_12 : decode cX4_isDigit 12 = .ok (.iconst 1, 1) := dq_g63.2.2.2.2.2.2.1
theorem dX4_isDigit_13 : decode cX4_isDigit 13 = .ok (.goto 4, 3) := dq_g63.2.2.2.2.2.2.2.1
theorem dX4_isDigit_16 : decode cX4_isDigit 16 = .ok (.iconst 0, 1) := dq_g63.2.2.2.2.2.2.2.2.1
theorem dX4_isDigit_17 : decode cX4_isDigit 17 = .ok (.ireturn, 1) := dq_g63.2.2.2.2.2.2.2.2.2.1
theorem dq_g64 : decode cX4_isSign 0 = .ok (.iload_n 0, 1) ∧ decode cX4_isSign 1 = .ok (.bipush 40, 2) ∧ decode cX4_isSign 3 = .ok (.if_icmp .lt 9, 3) ∧ decode cX4_isSign 6 = .ok (.iload_n 0, 1) ∧ decode cX4_isSign 7 = .ok (.bipush 43, 2) ∧ decode cX4_isSign 9 = .ok (.if_icmp .le 27, 3) ∧ decode cX4_isSign 12 = .ok (.iload_n 0, 1) ∧ decode cX4_isSign 13 = .ok (.bipush 45, 2) ∧ decode cX4_isSign 15 = .ok (.if_icmp .eq 21, 3) ∧ decode cX4_isSign 18 = .ok (.iload_n 0, 1) ∧ decode cX4_isSign 19 = .ok (.bipush 47, 2) ∧ decode cX4_isSign 21 = .ok (.if_icmp .eq 15, 3) ∧ decode cX4_isSign 24 = .ok (.iload_n 0, 1) ∧ decode cX4_isSign 25 = .ok (.bipush 59, 2) ∧ decode cX4_isSign 27 = .ok (.if_icmp .lt 13, 3) ∧ decode cX4_isSign 30 = .ok (.iload_n 0, 1) ∧ decode cX4_isSign 31 = .ok (.bipush 62, 2) ∧ decode cX4_isSign 33 = .ok (.if_icmp .gt 7, 3) ∧ decode cX4_isSign 36 = .ok (.iconst 1, 1) ∧ decode cX4_isSign 37 = .ok (.goto 4, 3) ∧ decode cX4_isSign 40 = .ok (.iconst 0, 1) ∧ decode cX4_isSign 41 = .ok (.ireturn, 1) ∧ True := dqC_ok (c := cX4_isSign) [(0, 1, some (.iload_n 0)), (1, 2, some (.bipush 40)), (3, 3, some (.if_icmp .lt 9)), (6, 1, some (.iload_n 0)), (7, 2, some (.bipush 43)), (9, 3, some (.if_icmp .le 27)), (12, 1, some (.iload_n 0)), (13, 2, some (.bipush 45)), (15, 3, some (.if_icmp .eq 21)), (18, 1, some (.iload_n 0)), (19, 2, some (.bipush 47)), (21, 3, some (.if_icmp .eq 15)), (24, 1, some (.iload_n 0)), (25, 2, some (.bipush 59)), (27, 3, some (.if_icmp .lt 13)), (30, 1, some (.iload_n 0)), (31, 2, some (.bipush 62)), (33, 3, some (.if_icmp .gt 7)), (36, 1, some (.iconst 1)), (37, 3, some (.goto 4)), (40, 1, some (.iconst 0)), (41, 1, some (.ireturn))] _ 0 rfl (by decide +kernel)
theorem dX4_isSign_0 : decode cX4_isSign 0 = .ok (.iload_n 0, 1) := dq_g64.1
theorem dX4_isSign_1 : decode cX4_isSign 1 = .ok (.bipush 40, 2) := dq_g64.2.1
theorem dX4_isSign_3 : decode cX4_isSign 3 = .ok (.if_icmp .lt 9, 3) := dq_g64.2.2.1
theorem dX4_isSign_6 : decode cX4_isSign 6 = .ok (.iload_n 0, 1) := dq_g64.2.2.2.1
theorem dX4_isSign_7 : decode cX4_isSign 7 = .ok (.bipush 43, 2) := dq_g64.2.2.2.2.1
theorem dX4_isSign_9 : decode cX4_isSign 9 = .ok (.if_icmp .le 27, 3) := dq_g64.2.2.2.2.2.1
theorem dX4_isSign_12 : decode cX4_isSign 12 = .ok (.iload_n 0, 1) := dq_g64.2.2.2.2.2.2.1
theorem dX4_isSign_13 : decode cX4_isSign 13 = .ok (.bipush 45, 2) := dq_g64.2.2.2.2.2.2.2.1
theorem dX4_isSign_15 : decode cX4_isSign 15 = .ok (.if_icmp .eq 21, 3) := dq_g64.2.2.2.2.2.2.2.2.1
theorem dX4_isSign_18 : decode cX4_isSign 18 = .ok (.iload_n 0, 1) := dq_g64.2.2.2.2.2.2.2.2.2.1
theorem dX4_isSign_19 : decode cX4_isSign 19 = .ok (.bipush 47, 2) := dq_g64.2.2.2.2.2.2.2.2.2.2.1
theorem dX4_isSign_21 : decode cX4_isSign 21 = .ok (.if_icmp .eq 15, 3) := dq_g64.2.2.2.2.2.2.2.2.2.2.2.1
theorem dX4_isSign_24 : decode cX4_isSign 24 = .ok (.iload_n 0, 1) := dq_g64.2.2.2.2.2.2.2.2.2.2.2.2.1
theorem dX4_isSign_25 : decode cX4_isSign 25 = .ok (.bipush 59, 2) := dq_g64.2.2.2.2.2.2.2.2.2.2.2.2.2.1
theorem dX4_isSign_27 : decode cX4_isSign 27 = .ok (.if_icmp .lt 13, 3) := dq_g64.2.2.2.2.2.2.2.2.2.2.2.2.2.2.1
theorem dX4_isSign_30 : decode cX4_isSign 30 = .ok (.iload_n 0, 1) := dq_g64.2.2.2.2.2.2.2.2.2.2.2.2.2.2.2.1
theorem dX4_isSign_31 : decode cX4_isSign 31 = .ok (.bipush 62, 2) := dq_g64.2.2.2.2.2.2.2.2.2.2.2.2.2.2.2.2.1
theorem dX4_isSign_33 : decode cX4_isSign 33 = .ok (.if_icmp .gt 7, 3) := dq_g64.2.2.2.2.2.2.2.2.2.2.2.2.2.2.2.2.2.1
theorem dX4_isSign_36 : decode cX4_isSign 36 = .ok (.iconst 1, 1) := dq_g64.2.2.2.2.2.2.2.2.2.2.2.2.2.2.2.2.2.2.1
theorem dX4_isSign_37 : decode cX4_isSign 37 = .ok (.goto 4, 3) := dq_g64.2.2.2.2.2.2.2.2.2.2.2.2.2.2.2.2.2.2.2.1
theorem dX4_isSign_40 : decode cX4_isSign 40 = .ok (.iconst 0, 1) := dq_g64.2.2.2.2.2.2.2.2.2.2.2.2.2.2.2.2.2.2.2.2.1
theorem dX4_isSign_41 : decode cX4_isSign 41 = .ok (.ireturn, 1) := dq_g64.2.2.2.2.2.2.2.2.2.2.2.2.2.2.2.2.2.2.2.2.2.1
theorem dq_g65 : decode cX4_wordAt 0 = .ok (.iload_n 2, 1) ∧ decode cX4_wordAt 1 = .ok (.iload_n 1, 1) ∧ decode cX4_wordAt 2 = .ok (.isub, 1) ∧ decode cX4_wordAt 3 = .ok (.bipush 6, 2) ∧ decode cX4_wordAt 5 = .ok (.if_icmp .gt 29, 3) ∧ decode cX4_wordAt 8 = .ok (.iconst 0, 1) ∧ decode cX4_wordAt 9 = .ok (.istore_n 3, 1) ∧ decode cX4_wordAt 10 = .ok (.iload_n 3, 1) ∧ decode cX4_wordAt 11 = .ok (.bipush 24, 2) ∧ decode cX4_wordAt 13 = .ok (.if_icmp .ge 21, 3) ∧ decode cX4_wordAt 16 = .ok (.aload_n 0, 1) ∧ decode cX4_wordAt 17 = .ok (.iload_n 1, 1) ∧ decode cX4_wordAt 18 = .ok (.iload_n 2, 1) ∧ decode cX4_wordAt 19 = .ok (.iload_n 3, 1) ∧ decode cX4_wordAt 20 = .ok (.invokestatic 69, 3) ∧ decode cX4_wordAt 23 = .ok (.ifCond .eq 5, 3) ∧ decode cX4_wordAt 26 = .ok (.iload_n 3, 1) ∧ decode cX4_wordAt 27 = .ok (.ireturn, 1) ∧ decode cX4_wordAt 28 = .ok (.iinc 3 1, 3) ∧ decode cX4_wordAt 31 = .ok (.goto (-21), 3) ∧ decode cX4_wordAt 34 = .ok (.bipush 25, 2) ∧ decode cX4_wordAt 36 = .ok (.ireturn, 1) ∧ True := dqC_ok (c := cX4_wordAt) [(0, 1, some (.iload_n 2)), (1, 1, some (.iload_n 1)), (2, 1, some (.isub)), (3, 2, some (.bipush 6)), (5, 3, some (.if_icmp .gt 29)), (8, 1, some (.iconst 0)), (9, 1, some (.istore_n 3)), (10, 1, some (.iload_n 3)), (11, 2, some (.bipush 24)), (13, 3, some (.if_icmp .ge 21)), (16, 1, some (.aload_n 0)), (17, 1, some (.iload_n 1)), (18, 1, some (.iload_n 2)), (19, 1, some (.iload_n 3)), (20, 3, some (.invokestatic 69)), (23, 3, some (.ifCond .eq 5)), (26, 1, some (.iload_n 3)), (27, 1, some (.ireturn)), (28, 3, some (.iinc 3 1)), (31, 3, some (.goto (-21))), (34, 2, some (.bipush 25)), (36, 1, some (.ireturn))] _ 0 rfl (by decide +kernel)
theorem dX4_wordAt_0 : decode cX4_wordAt 0 = .ok (.iload_n 2, 1) := dq_g65.1
theorem dX4_wordAt_1 : decode cX4_wordAt 1 = .ok (.iload_n 1, 1) := dq_g65.2.1
theorem dX4_wordAt_2 : decode cX4_wordAt 2 = .ok (.isub, 1) := dq_g65.2.2.1
theorem dX4_wordAt_3 : decode cX4_wordAt 3 = .ok (.bipush 6, 2) := dq_g65.2.2.2.1
theorem dX4_wordAt_5 : decode cX4_wordAt 5 = .ok (.if_icmp .gt 29, 3) := dq_g65.2.2.2.2.1
theorem dX4_wordAt_8 : decode cX4_wordAt 8 = .ok (.iconst 0, 1) := dq_g65.2.2.2.2.2.1
theorem dX4_wordAt_9 : decode cX4_wordAt 9 = .ok (.istore_n 3, 1) := dq_g65.2.2.2.2.2.2.1
theorem dX4_wordAt_10 : decode cX4_wordAt 10 = .ok (.iload_n 3, 1) := dq_g65.2.2.2.2.2.2.2.1
theorem dX4_wordAt_11 : decode cX4_wordAt 11 = .ok (.bipush 24, 2) := dq_g65.2.2.2.2.2.2.2.2.1
theorem dX4_wordAt_13 : decode cX4_wordAt 13 = .ok (.if_icmp .ge 21, 3) := dq_g65.2.2.2.2.2.2.2.2.2.1
theorem dX4_wordAt_16 : decode cX4_wordAt 16 = .ok (.aload_n 0, 1) := dq_g65.2.2.2.2.2.2.2.2.2.2.1
theorem dX4_wordAt_17 : decode cX4_wordAt 17 = .ok (.iload_n 1, 1) := dq_g65.2.2.2.2.2.2.2.2.2.2.2.1
theorem dX4_wordAt_18 : decode cX4_wordAt 18 = .ok (.iload_n 2, 1) := dq_g65.2.2.2.2.2.2.2.2.2.2.2.2.1
theorem dX4_wordAt_19 : decode cX4_wordAt 19 = .ok (.iload_n 3, 1) := dq_g65.2.2.2.2.2.2.2.2.2.2.2.2.2.1
theorem dX4_wordAt_20 : decode cX4_wordAt 20 = .ok (.invokestatic 69, 3) := dq_g65.2.2.2.2.2.2.2.2.2.2.2.2.2.2.1
theorem dX4_wordAt_23 : decode cX4_wordAt 23 = .ok (.ifCond .eq 5, 3) := dq_g65.2.2.2.2.2.2.2.2.2.2.2.2.2.2.2.1
theorem dX4_wordAt_26 : decode cX4_wordAt 26 = .ok (.iload_n 3, 1) := dq_g65.2.2.2.2.2.2.2.2.2.2.2.2.2.2.2.2.1
theorem dX4_wordAt_27 : decode cX4_wordAt 27 = .ok (.ireturn, 1) := dq_g65.2.2.2.2.2.2.2.2.2.2.2.2.2.2.2.2.2.1
theorem dX4_wordAt_28 : decode cX4_wordAt 28 = .ok (.iinc 3 1, 3) := dq_g65.2.2.2.2.2.2.2.2.2.2.2.2.2.2.2.2.2.2.1
theorem dX4_wordAt_31 : decode cX4_wordAt 31 = .ok (.goto (-21), 3) := dq_g65.2.2.2.2.2.2.2.2.2.2.2.2.2.2.2.2.2.2.2.1
theorem dX4_wordAt_34 : decode cX4_wordAt 34 = .ok (.bipush 25, 2) := dq_g65.2.2.2.2.2.2.2.2.2.2.2.2.2.2.2.2.2.2.2.2.1
theorem dX4_wordAt_36 : decode cX4_wordAt 36 = .ok (.ireturn, 1) := dq_g65.2.2.2.2.2.2.2.2.2.2.2.2.2.2.2.2.2.2.2.2.2.1
theorem dq_g66 : decode cX4_isWord 0 = .ok (.iconst 0, 1) ∧ decode cX4_isWord 1 = .ok (.istore 4, 2) ∧ decode cX4_isWord 3 = .ok (.iload 4, 2) ∧ decode cX4_isWord 5 = .ok (.bipush 6, 2) ∧ decode cX4_isWord 7 = .ok (.if_icmp .ge 49, 3) ∧ decode cX4_isWord 10 = .ok (.iload_n 1, 1) ∧ decode cX4_isWord 11 = .ok (.iload 4, 2) ∧ decode cX4_isWord 13 = .ok (.iadd, 1) ∧ decode cX4_isWord 14 = .ok (.iload_n 2, 1) ∧ decode cX4_isWord 15 = .ok (.if_icmp .ge 12, 3) ∧ decode cX4_isWord 18 = .ok (.aload_n 0, 1) ∧ decode cX4_isWord 19 = .ok (.iload_n 1, 1) ∧ decode cX4_isWord 20 = .ok (.iload 4, 2) ∧ decode cX4_isWord 22 = .ok (.iadd, 1) ∧ decode cX4_isWord 23 = .ok (.iaload, 1) ∧ decode cX4_isWord 24 = .ok (.goto 5, 3) ∧ decode cX4_isWord 27 = .ok (.bipush 32, 2) ∧ decode cX4_isWord 29 = .ok (.istore 5, 2) ∧ decode cX4_isWord 31 = .ok (.ldc 73, 2) ∧ decode cX4_isWord 33 = .ok (.iload_n 3, 1) ∧ decode cX4_isWord 34 = .ok (.bipush 6, 2) ∧ decode cX4_isWord 36 = .ok (.imul, 1) ∧ decode cX4_isWord 37 = .ok (.iload 4, 2) ∧ decode cX4_isWord 39 = .ok (.iadd, 1) ∧ decode cX4_isWord 40 = .ok (.invokevirtual 75, 3) ∧ decode cX4_isWord 43 = .ok (.iload 5, 2) ∧ decode cX4_isWord 45 = .ok (.if_icmp .eq 5, 3) ∧ decode cX4_isWord 48 = .ok (.iconst 0, 1) ∧ decode cX4_isWord 49 = .ok (.ireturn, 1) ∧ decode cX4_isWord 50 = .ok (.iinc 4 1, 3) ∧ True := dqC_ok (c := cX4_isWord) [(0, 1, some (.iconst 0)), (1, 2, some (.istore 4)), (3, 2, some (.iload 4)), (5, 2, some (.bipush 6)), (7, 3, some (.if_icmp .ge 49)), (10, 1, some (.iload_n 1)), (11, 2, some (.iload 4)), (13, 1, some (.iadd)), (14, 1, some (.iload_n 2)), (15, 3, some (.if_icmp .ge 12)), (18, 1, some (.aload_n 0)), (19, 1, some (.iload_n 1)), (20, 2, some (.iload 4)), (22, 1, some (.iadd)), (23, 1, some (.iaload)), (24, 3, some (.goto 5)), (27, 2, some (.bipush 32)), (29, 2, some (.istore 5)), (31, 2, some (.ldc 73)), (33, 1, some (.iload_n 3)), (34, 2, some (.bipush 6)), (36, 1, some (.imul)), (37, 2, some (.iload 4)), (39, 1, some (.iadd)), (40, 3, some (.invokevirtual 75)), (43, 2, some (.iload 5)), (45, 3, some (.if_icmp .eq 5)), (48, 1, some (.iconst 0)), (49, 1, some (.ireturn)), (50, 3, some (.iinc 4 1))] _ 0 rfl (by decide +kernel)
theorem dX4_isWord_0 : decode cX4_isWord 0 = .ok (.iconst 0, 1) := dq_g66.1
theorem dX4_isWord_1 : decode cX4_isWord 1 = .ok (.istore 4, 2) := dq_g66.2.1
theorem dX4_isWord_3 : decode cX4_isWord 3 = .ok (.iload 4, 2) := dq_g66.2.2.1
theorem dX4_isWord_5 : decode cX4_isWord 5 = .ok (.bipush 6, 2) := dq_g66.2.2.2.1
theorem dX4_isWord_7 : decode cX4_isWord 7 = .ok (.if_icmp .ge 49, 3) := dq_g66.2.2.2.2.1
theorem dX4_isWord_10 : decode cX4_isWord 10 = .ok (.iload_n 1, 1) := dq_g66.2.2.2.2.2.1
theorem dX4_isWord_11 : decode cX4_isWord 11 = .ok (.iload 4, 2) := dq_g66.2.2.2.2.2.2.1
theorem dX4_isWord_13 : decode cX4_isWord 13 = .ok (.iadd, 1) := dq_g66.2.2.2.2.2.2.2.1
theorem dX4_isWord_14 : decode cX4_isWord 14 = .ok (.iload_n 2, 1) := dq_g66.2.2.2.2.2.2.2.2.1
theorem dX4_isWord_15 : decode cX4_isWord 15 = .ok (.if_icmp .ge 12, 3) := dq_g66.2.2.2.2.2.2.2.2.2.1
theorem dX4_isWord_18 : decode cX4_isWord 18 = .ok (.aload_n 0, 1) := dq_g66.2.2.2.2.2.2.2.2.2.2.1
theorem dX4_isWord_19 : decode cX4_isWord 19 = .ok (.iload_n 1, 1) := dq_g66.2.2.2.2.2.2.2.2.2.2.2.1
theorem dX4_isWord_20 : decode cX4_isWord 20 = .ok (.iload 4, 2) := dq_g66.2.2.2.2.2.2.2.2.2.2.2.2.1
theorem dX4_isWord_22 : decode cX4_isWord 22 = .ok (.iadd, 1) := dq_g66.2.2.2.2.2.2.2.2.2.2.2.2.2.1
theorem dX4_isWord_23 : decode cX4_isWord 23 = .ok (.iaload, 1) := dq_g66.2.2.2.2.2.2.2.2.2.2.2.2.2.2.1
theorem dX4_isWord_24 : decode cX4_isWord 24 = .ok (.goto 5, 3) := dq_g66.2.2.2.2.2.2.2.2.2.2.2.2.2.2.2.1
theorem dX4_isWord_27 : decode cX4_isWord 27 = .ok (.bipush 32, 2) := dq_g66.2.2.2.2.2.2.2.2.2.2.2.2.2.2.2.2.1
theorem dX4_isWord_29 : decode cX4_isWord 29 = .ok (.istore 5, 2) := dq_g66.2.2.2.2.2.2.2.2.2.2.2.2.2.2.2.2.2.1
theorem dX4_isWord_31 : decode cX4_isWord 31 = .ok (.ldc 73, 2) := dq_g66.2.2.2.2.2.2.2.2.2.2.2.2.2.2.2.2.2.2.1
theorem dX4_isWord_33 : decode cX4_isWord 33 = .ok (.iload_n 3, 1) := dq_g66.2.2.2.2.2.2.2.2.2.2.2.2.2.2.2.2.2.2.2.1
theorem dX4_isWord_34 : decode cX4_isWord 34 = .ok (.bipush 6, 2) := dq_g66.2.2.2.2.2.2.2.2.2.2.2.2.2.2.2.2.2.2.2.2.1
theorem dX4_isWord_36 : decode cX4_isWord 36 = .ok (.imul, 1) := dq_g66.2.2.2.2.2.2.2.2.2.2.2.2.2.2.2.2.2.2.2.2.2.1
theorem dX4_isWord_37 : decode cX4_isWord 37 = .ok (.iload 4, 2) := dq_g66.2.2.2.2.2.2.2.2.2.2.2.2.2.2.2.2.2.2.2.2.2.2.1
theorem dX4_isWord_39 : decode cX4_isWord 39 = .ok (.iadd, 1) := dq_g66.2.2.2.2.2.2.2.2.2.2.2.2.2.2.2.2.2.2.2.2.2.2.2.1
theorem dX4_isWord_40 : decode cX4_isWord 40 = .ok (.invokevirtual 75, 3) := dq_g66.2.2.2.2.2.2.2.2.2.2.2.2.2.2.2.2.2.2.2.2.2.2.2.2.1
theorem dX4_isWord_43 : decode cX4_isWord 43 = .ok (.iload 5, 2) := dq_g66.2.2.2.2.2.2.2.2.2.2.2.2.2.2.2.2.2.2.2.2.2.2.2.2.2.1
theorem dX4_isWord_45 : decode cX4_isWord 45 = .ok (.if_icmp .eq 5, 3) := dq_g66.2.2.2.2.2.2.2.2.2.2.2.2.2.2.2.2.2.2.2.2.2.2.2.2.2.2.1
theorem dX4_isWord_48 : decode cX4_isWord 48 = .ok (.iconst 0, 1) := dq_g66.2.2.2.2.2.2.2.2.2.2.2.2.2.2.2.2.2.2.2.2.2.2.2.2.2.2.2.1
theorem dX4_isWord_49 : decode cX4_isWord 49 = .ok (.ireturn, 1) := dq_g66.2.2.2.2.2.2.2.2.2.2.2.2.2.2.2.2.2.2.2.2.2.2.2.2.2.2.2.2.1
theorem dX4_isWord_50 : decode cX4_isWord 50 = .ok (.iinc 4 1, 3) := dq_g66.2.2.2.2.2.2.2.2.2.2.2.2.2.2.2.2.2.2.2.2.2.2.2.2.2.2.2.2.2.1
theorem dq_g67 : decode cX4_isWord 53 = .ok (.goto (-50), 3) ∧ decode cX4_isWord 56 = .ok (.iconst 1, 1) ∧ decode cX4_isWord 57 = .ok (.ireturn, 1) ∧ True := dqC_ok (c := cX4_isWord) [(53, 3, some (.goto (-50))), (56, 1, some (.iconst 1)), (57, 1, some (.ireturn))] _ 53 rfl (by decide +kernel)
theorem dX4_isWord_53 : decode cX4_isWord 53 = .ok (.goto (-50), 3) := dq_g67.1
theorem dX4_isWord_56 : decode cX4_isWord 56 = .ok (.iconst 1, 1) := dq_g67.2.1
theorem dX4_isWord_57 : decode cX4_isWord 57 = .ok (.ireturn, 1) := dq_g67.2.2.1
theorem dq_g68 : decode cX4_numberAt 0 = .ok (.iconst 0, 1) ∧ decode cX4_numberAt 1 = .ok (.istore_n 3, 1) ∧ decode cX4_numberAt 2 = .ok (.iload_n 1, 1) ∧ decode cX4_numberAt 3 = .ok (.istore 4, 2) ∧ decode cX4_numberAt 5 = .ok (.iload 4, 2) ∧ decode cX4_numberAt 7 = .ok (.iload_n 2, 1) ∧ decode cX4_numberAt 8 = .ok (.if_icmp .ge 30, 3) ∧ decode cX4_numberAt 11 = .ok (.iload 4, 2) ∧ decode cX4_numberAt 13 = .ok (.iload_n 1, 1) ∧ decode cX4_numberAt 14 = .ok (.iconst 5, 1) ∧ decode cX4_numberAt 15 = .ok (.iadd, 1) ∧ decode cX4_numberAt 16 = .ok (.if_icmp .ge 22, 3) ∧ decode cX4_numberAt 19 = .ok (.iload_n 3, 1) ∧ decode cX4_numberAt 20 = .ok (.bipush 10, 2) ∧ decode cX4_numberAt 22 = .ok (.imul, 1) ∧ decode cX4_numberAt 23 = .ok (.aload_n 0, 1) ∧ decode cX4_numberAt 24 = .ok (.iload 4, 2) ∧ decode cX4_numberAt 26 = .ok (.iaload, 1) ∧ decode cX4_numberAt 27 = .ok (.iadd, 1) ∧ decode cX4_numberAt 28 = .ok (.bipush 48, 2) ∧ decode cX4_numberAt 30 = .ok (.isub, 1) ∧ decode cX4_numberAt 31 = .ok (.istore_n 3, 1) ∧ decode cX4_numberAt 32 = .ok (.iinc 4 1, 3) ∧ decode cX4_numberAt 35 = .ok (.goto (-30), 3) ∧ decode cX4_numberAt 38 = .ok (.iload_n 3, 1) ∧ decode cX4_numberAt 39 = .ok (.ireturn, 1) ∧ True := dqC_ok (c := cX4_numberAt) [(0, 1, some (.iconst 0)), (1, 1, some (.istore_n 3)), (2, 1, some (.iload_n 1)), (3, 2, some (.istore 4)), (5, 2, some (.iload 4)), (7, 1, some (.iload_n 2)), (8, 3, some (.if_icmp .ge 30)), (11, 2, some (.iload 4)), (13, 1, some (.iload_n 1)), (14, 1, some (.iconst 5)), (15, 1, some (.iadd)), (16, 3, some (.if_icmp .ge 22)), (19, 1, some (.iload_n 3)), (20, 2, some (.bipush 10)), (22, 1, some (.imul)), (23, 1, some (.aload_n 0)), (24, 2, some (.iload 4)), (26, 1, some (.iaload)), (27, 1, some (.iadd)), (28, 2, some (.bipush 48)), (30, 1, some (.isub)), (31, 1, some (.istore_n 3)), (32, 3, some (.iinc 4 1)), (35, 3, some (.goto (-30))), (38, 1, some (.iload_n 3)), (39, 1, some (.ireturn))] _ 0 rfl (by decide +kernel)
theorem dX4_numberAt_0 : decode cX4_numberAt 0 = .ok (.iconst 0, 1) := dq_g68.1
theorem dX4_numberAt_1 : decode cX4_numberAt 1 = .ok (.istore_n 3, 1) := dq_g68.2.1
theorem dX4_numberAt_2 : decode cX4_numberAt 2 = .ok (.iload_n 1, 1) := dq_g68.2.2.1
theorem dX4_numberAt_3 : decode cX4_numberAt 3 = .ok (.istore 4, 2) := dq_g68.2.2.2.1
theorem dX4_numberAt_5 : decode cX4_numberAt 5 = .ok (.iload 4, 2) := dq_g68.2.2.2.2.1
theorem dX4_numberAt_7 : decode cX4_numberAt 7 = .ok (.iload_n 2, 1) := dq_g68.2.2.2.2.2.1
theorem dX4_numberAt_8 : decode cX4_numberAt 8 = .ok (.if_icmp .ge 30, 3) := dq_g68.2.2.2.2.2.2.1
theorem dX4_numberAt_11 : decode cX4_numberAt 11 = .ok (.iload 4, 2) := dq_g68.2.2.2.2.2.2.2.1
theorem dX4_numberAt_13 : decode cX4_numberAt 13 = .ok (.iload_n 1, 1) := dq_g68.2.2.2.2.2.2.2.2.1
theorem dX4_numberAt_14 : decode cX4_numberAt 14 = .ok (.iconst 5, 1) := dq_g68.2.2.2.2.2.2.2.2.2.1
theorem dX4_numberAt_15 : decode cX4_numberAt 15 = .ok (.iadd, 1) := dq_g68.2.2.2.2.2.2.2.2.2.2.1
theorem dX4_numberAt_16 : decode cX4_numberAt 16 = .ok (.if_icmp .ge 22, 3) := dq_g68.2.2.2.2.2.2.2.2.2.2.2.1
theorem dX4_numberAt_19 : decode cX4_numberAt 19 = .ok (.iload_n 3, 1) := dq_g68.2.2.2.2.2.2.2.2.2.2.2.2.1
theorem dX4_numberAt_20 : decode cX4_numberAt 20 = .ok (.bipush 10, 2) := dq_g68.2.2.2.2.2.2.2.2.2.2.2.2.2.1
theorem dX4_numberAt_22 : decode cX4_numberAt 22 = .ok (.imul, 1) := dq_g68.2.2.2.2.2.2.2.2.2.2.2.2.2.2.1
theorem dX4_numberAt_23 : decode cX4_numberAt 23 = .ok (.aload_n 0, 1) := dq_g68.2.2.2.2.2.2.2.2.2.2.2.2.2.2.2.1
theorem dX4_numberAt_24 : decode cX4_numberAt 24 = .ok (.iload 4, 2) := dq_g68.2.2.2.2.2.2.2.2.2.2.2.2.2.2.2.2.1
theorem dX4_numberAt_26 : decode cX4_numberAt 26 = .ok (.iaload, 1) := dq_g68.2.2.2.2.2.2.2.2.2.2.2.2.2.2.2.2.2.1
theorem dX4_numberAt_27 : decode cX4_numberAt 27 = .ok (.iadd, 1) := dq_g68.2.2.2.2.2.2.2.2.2.2.2.2.2.2.2.2.2.2.1
theorem dX4_numberAt_28 : decode cX4_numberAt 28 = .ok (.bipush 48, 2) := dq_g68.2.2.2.2.2.2.2.2.2.2.2.2.2.2.2.2.2.2.2.1
theorem dX4_numberAt_30 : decode cX4_numberAt 30 = .ok (.isub, 1) := dq_g68.2.2.2.2.2.2.2.2.2.2.2.2.2.2.2.2.2.2.2.2.1
theorem dX4_numberAt_31 : decode cX4_numberAt 31 = .ok (.istore_n 3, 1) := dq_g68.2.2.2.2.2.2.2.2.2.2.2.2.2.2.2.2.2.2.2.2.2.1
theorem dX4_numberAt_32 : decode cX4_numberAt 32 = .ok (.iinc 4 1, 3) := dq_g68.2.2.2.2.2.2.2.2.2.2.2.2.2.2.2.2.2.2.2.2.2.2.1
theorem dX4_numberAt_35 : decode cX4_numberAt 35 = .ok (.goto (-30), 3) := dq_g68.2.2.2.2.2.2.2.2.2.2.2.2.2.2.2.2.2.2.2.2.2.2.2.1
theorem dX4_numberAt_38 : decode cX4_numberAt 38 = .ok (.iload_n 3, 1) := dq_g68.2.2.2.2.2.2.2.2.2.2.2.2.2.2.2.2.2.2.2.2.2.2.2.2.1
theorem dX4_numberAt_39 : decode cX4_numberAt 39 = .ok (.ireturn, 1) := dq_g68.2.2.2.2.2.2.2.2.2.2.2.2.2.2.2.2.2.2.2.2.2.2.2.2.2.1
theorem dq_g69 : decode cX4_refuse 0 = .ok (.aload_n 0, 1) ∧ decode cX4_refuse 1 = .ok (.iload_n 1, 1) ∧ decode cX4_refuse 2 = .ok (.putfield 32, 3) ∧ decode cX4_refuse 5 = .ok (.aload_n 0, 1) ∧ decode cX4_refuse 6 = .ok (.aload_n 0, 1) ∧ decode cX4_refuse 7 = .ok (.getfield 25, 3) ∧ decode cX4_refuse 10 = .ok (.aload_n 0, 1) ∧ decode cX4_refuse 11 = .ok (.getfield 42, 3) ∧ decode cX4_refuse 14 = .ok (.iaload, 1) ∧ decode cX4_refuse 15 = .ok (.putfield 36, 3) ∧ decode cX4_refuse 18 = .ok (.iconst 0, 1) ∧ decode cX4_refuse 19 = .ok (.ireturn, 1) ∧ True := dqC_ok (c := cX4_refuse) [(0, 1, some (.aload_n 0)), (1, 1, some (.iload_n 1)), (2, 3, some (.putfield 32)), (5, 1, some (.aload_n 0)), (6, 1, some (.aload_n 0)), (7, 3, some (.getfield 25)), (10, 1, some (.aload_n 0)), (11, 3, some (.getfield 42)), (14, 1, some (.iaload)), (15, 3, some (.putfield 36)), (18, 1, some (.iconst 0)), (19, 1, some (.ireturn))] _ 0 rfl (by decide +kernel)
theorem dX4_refuse_0 : decode cX4_refuse 0 = .ok (.aload_n 0, 1) := dq_g69.1
theorem dX4_refuse_1 : decode cX4_refuse 1 = .ok (.iload_n 1, 1) := dq_g69.2.1
theorem dX4_refuse_2 : decode cX4_refuse 2 = .ok (.putfield 32, 3) := dq_g69.2.2.1
theorem dX4_refuse_5 : decode cX4_refuse 5 = .ok (.aload_n 0, 1) := dq_g69.2.2.2.1
theorem dX4_refuse_6 : decode cX4_refuse 6 = .ok (.aload_n 0, 1) := dq_g69.2.2.2.2.1
theorem dX4_refuse_7 : decode cX4_refuse 7 = .ok (.getfield 25, 3) := dq_g69.2.2.2.2.2.1
theorem dX4_refuse_10 : decode cX4_refuse 10 = .ok (.aload_n 0, 1) := dq_g69.2.2.2.2.2.2.1
theorem dX4_refuse_11 : decode cX4_refuse 11 = .ok (.getfield 42, 3) := dq_g69.2.2.2.2.2.2.2.1
theorem dX4_refuse_14 : decode cX4_refuse 14 = .ok (.iaload, 1) := dq_g69.2.2.2.2.2.2.2.2.1
theorem dX4_refuse_15 : decode cX4_refuse 15 = .ok (.putfield 36, 3) := dq_g69.2.2.2.2.2.2.2.2.2.1
theorem dX4_refuse_18 : decode cX4_refuse 18 = .ok (.iconst 0, 1) := dq_g69.2.2.2.2.2.2.2.2.2.2.1
theorem dX4_refuse_19 : decode cX4_refuse 19 = .ok (.ireturn, 1) := dq_g69.2.2.2.2.2.2.2.2.2.2.2.1
theorem dq_g70 : decode cX4_line 0 = .ok (.aload_n 0, 1) ∧ decode cX4_line 1 = .ok (.getfield 18, 3) ∧ decode cX4_line 4 = .ok (.aload_n 0, 1) ∧ decode cX4_line 5 = .ok (.getfield 42, 3) ∧ decode cX4_line 8 = .ok (.iaload, 1) ∧ decode cX4_line 9 = .ok (.istore_n 1, 1) ∧ decode cX4_line 10 = .ok (.aload_n 0, 1) ∧ decode cX4_line 11 = .ok (.getfield 28, 3) ∧ decode cX4_line 14 = .ok (.ifCond .eq 11, 3) ∧ decode cX4_line 17 = .ok (.iload_n 1, 1) ∧ decode cX4_line 18 = .ok (.iconst 3, 1) ∧ decode cX4_line 19 = .ok (.if_icmp .le 23, 3) ∧ decode cX4_line 22 = .ok (.goto 14, 3) ∧ decode cX4_line 25 = .ok (.iload_n 1, 1) ∧ decode cX4_line 26 = .ok (.iconst 4, 1) ∧ decode cX4_line 27 = .ok (.if_icmp .lt 9, 3) ∧ decode cX4_line 30 = .ok (.iload_n 1, 1) ∧ decode cX4_line 31 = .ok (.bipush 6, 2) ∧ decode cX4_line 33 = .ok (.if_icmp .le 9, 3) ∧ decode cX4_line 36 = .ok (.aload_n 0, 1) ∧ decode cX4_line 37 = .ok (.iconst 1, 1) ∧ decode cX4_line 38 = .ok (.invokevirtual 81, 3) ∧ decode cX4_line 41 = .ok (.ireturn, 1) ∧ decode cX4_line 42 = .ok (.aload_n 0, 1) ∧ decode cX4_line 43 = .ok (.getfield 12, 3) ∧ decode cX4_line 46 = .ok (.getfield 84, 3) ∧ decode cX4_line 49 = .ok (.istore_n 2, 1) ∧ decode cX4_line 50 = .ok (.iload_n 2, 1) ∧ decode cX4_line 51 = .ok (.bipush 16, 2) ∧ decode cX4_line 53 = .ok (.if_icmp .lt 9, 3) ∧ True := dqC_ok (c := cX4_line) [(0, 1, some (.aload_n 0)), (1, 3, some (.getfield 18)), (4, 1, some (.aload_n 0)), (5, 3, some (.getfield 42)), (8, 1, some (.iaload)), (9, 1, some (.istore_n 1)), (10, 1, some (.aload_n 0)), (11, 3, some (.getfield 28)), (14, 3, some (.ifCond .eq 11)), (17, 1, some (.iload_n 1)), (18, 1, some (.iconst 3)), (19, 3, some (.if_icmp .le 23)), (22, 3, some (.goto 14)), (25, 1, some (.iload_n 1)), (26, 1, some (.iconst 4)), (27, 3, some (.if_icmp .lt 9)), (30, 1, some (.iload_n 1)), (31, 2, some (.bipush 6)), (33, 3, some (.if_icmp .le 9)), (36, 1, some (.aload_n 0)), (37, 1, some (.iconst 1)), (38, 3, some (.invokevirtual 81)), (41, 1, some (.ireturn)), (42, 1, some (.aload_n 0)), (43, 3, some (.getfield 12)), (46, 3, some (.getfield 84)), (49, 1, some (.istore_n 2)), (50, 1, some (.iload_n 2)), (51, 2, some (.bipush 16)), (53, 3, some (.if_icmp .lt 9))] _ 0 rfl (by decide +kernel)
theorem dX4_line_0 : decode cX4_line 0 = .ok (.aload_n 0, 1) := dq_g70.1
theorem dX4_line_1 : decode cX4_line 1 = .ok (.getfield 18, 3) := dq_g70.2.1
theorem dX4_line_4 : decode cX4_line 4 = .ok (.aload_n 0, 1) := dq_g70.2.2.1
theorem dX4_line_5 : decode cX4_line 5 = .ok (.getfield 42, 3) := dq_g70.2.2.2.1
theorem dX4_line_8 : decode cX4_line 8 = .ok (.iaload, 1) := dq_g70.2.2.2.2.1
theorem dX4_line_9 : decode cX4_line 9 = .ok (.istore_n 1, 1) := dq_g70.2.2.2.2.2.1
theorem dX4_line_10 : decode cX4_line 10 = .ok (.aload_n 0, 1) := dq_g70.2.2.2.2.2.2.1
theorem dX4_line_11 : decode cX4_line 11 = .ok (.getfield 28, 3) := dq_g70.2.2.2.2.2.2.2.1
theorem dX4_line_14 : decode cX4_line 14 = .ok (.ifCond .eq 11, 3) := dq_g70.2.2.2.2.2.2.2.2.1
theorem dX4_line_17 : decode cX4_line 17 = .ok (.iload_n 1, 1) := dq_g70.2.2.2.2.2.2.2.2.2.1
theorem dX4_line_18 : decode cX4_line 18 = .ok (.iconst 3, 1) := dq_g70.2.2.2.2.2.2.2.2.2.2.1
theorem dX4_line_19 : decode cX4_line 19 = .ok (.if_icmp .le 23, 3) := dq_g70.2.2.2.2.2.2.2.2.2.2.2.1
theorem dX4_line_22 : decode cX4_line 22 = .ok (.goto 14, 3) := dq_g70.2.2.2.2.2.2.2.2.2.2.2.2.1
theorem dX4_line_25 : decode cX4_line 25 = .ok (.iload_n 1, 1) := dq_g70.2.2.2.2.2.2.2.2.2.2.2.2.2.1
theorem dX4_line_26 : decode cX4_line 26 = .ok (.iconst 4, 1) := dq_g70.2.2.2.2.2.2.2.2.2.2.2.2.2.2.1
theorem dX4_line_27 : decode cX4_line 27 = .ok (.if_icmp .lt 9, 3) := dq_g70.2.2.2.2.2.2.2.2.2.2.2.2.2.2.2.1
theorem dX4_line_30 : decode cX4_line 30 = .ok (.iload_n 1, 1) := dq_g70.2.2.2.2.2.2.2.2.2.2.2.2.2.2.2.2.1
theorem dX4_line_31 : decode cX4_line 31 = .ok (.bipush 6, 2) := dq_g70.2.2.2.2.2.2.2.2.2.2.2.2.2.2.2.2.2.1
theorem dX4_line_33 : decode cX4_line 33 = .ok (.if_icmp .le 9, 3) := dq_g70.2.2.2.2.2.2.2.2.2.2.2.2.2.2.2.2.2.2.1
theorem dX4_line_36 : decode cX4_line 36 = .ok (.aload_n 0, 1) := dq_g70.2.2.2.2.2.2.2.2.2.2.2.2.2.2.2.2.2.2.2.1
theorem dX4_line_37 : decode cX4_line 37 = .ok (.iconst 1, 1) := dq_g70.2.2.2.2.2.2.2.2.2.2.2.2.2.2.2.2.2.2.2.2.1
theorem dX4_line_38 : decode cX4_line 38 = .ok (.invokevirtual 81, 3) := dq_g70.2.2.2.2.2.2.2.2.2.2.2.2.2.2.2.2.2.2.2.2.2.1
theorem dX4_line_41 : decode cX4_line 41 = .ok (.ireturn, 1) := dq_g70.2.2.2.2.2.2.2.2.2.2.2.2.2.2.2.2.2.2.2.2.2.2.1
theorem dX4_line_42 : decode cX4_line 42 = .ok (.aload_n 0, 1) := dq_g70.2.2.2.2.2.2.2.2.2.2.2.2.2.2.2.2.2.2.2.2.2.2.2.1
theorem dX4_line_43 : decode cX4_line 43 = .ok (.getfield 12, 3) := dq_g70.2.2.2.2.2.2.2.2.2.2.2.2.2.2.2.2.2.2.2.2.2.2.2.2.1
theorem dX4_line_46 : decode cX4_line 46 = .ok (.getfield 84, 3) := dq_g70.2.2.2.2.2.2.2.2.2.2.2.2.2.2.2.2.2.2.2.2.2.2.2.2.2.1
theorem dX4_line_49 : decode cX4_line 49 = .ok (.istore_n 2, 1) := dq_g70.2.2.2.2.2.2.2.2.2.2.2.2.2.2.2.2.2.2.2.2.2.2.2.2.2.2.1
theorem dX4_line_50 : decode cX4_line 50 = .ok (.iload_n 2, 1) := dq_g70.2.2.2.2.2.2.2.2.2.2.2.2.2.2.2.2.2.2.2.2.2.2.2.2.2.2.2.1
theorem dX4_line_51 : decode cX4_line 51 = .ok (.bipush 16, 2) := dq_g70.2.2.2.2.2.2.2.2.2.2.2.2.2.2.2.2.2.2.2.2.2.2.2.2.2.2.2.2.1
theorem dX4_line_53 : decode cX4_line 53 = .ok (.if_icmp .lt 9, 3) := dq_g70.2.2.2.2.2.2.2.2.2.2.2.2.2.2.2.2.2.2.2.2.2.2.2.2.2.2.2.2.2.1
theorem dq_g71 : decode cX4_line 56 = .ok (.aload_n 0, 1) ∧ decode cX4_line 57 = .ok (.iconst 3, 1) ∧ decode cX4_line 58 = .ok (.invokevirtual 81, 3) ∧ decode cX4_line 61 = .ok (.ireturn, 1) ∧ decode cX4_line 62 = .ok (.aload_n 0, 1) ∧ decode cX4_line 63 = .ok (.dup, 1) ∧ decode cX4_line 64 = .ok (.getfield 42, 3) ∧ decode cX4_line 67 = .ok (.iconst 1, 1) ∧ decode cX4_line 68 = .ok (.iadd, 1) ∧ decode cX4_line 69 = .ok (.putfield 42, 3) ∧ decode cX4_line 72 = .ok (.aload_n 0, 1) ∧ decode cX4_line 73 = .ok (.getfield 12, 3) ∧ decode cX4_line 76 = .ok (.getfield 87, 3) ∧ decode cX4_line 79 = .ok (.iload_n 2, 1) ∧ decode cX4_line 80 = .ok (.iload_n 1, 1) ∧ decode cX4_line 81 = .ok (.iastore, 1) ∧ decode cX4_line 82 = .ok (.aload_n 0, 1) ∧ decode cX4_line 83 = .ok (.getfield 12, 3) ∧ decode cX4_line 86 = .ok (.getfield 90, 3) ∧ decode cX4_line 89 = .ok (.iload_n 2, 1) ∧ decode cX4_line 90 = .ok (.iconst 0, 1) ∧ decode cX4_line 91 = .ok (.iastore, 1) ∧ decode cX4_line 92 = .ok (.aload_n 0, 1) ∧ decode cX4_line 93 = .ok (.getfield 12, 3) ∧ decode cX4_line 96 = .ok (.getfield 93, 3) ∧ decode cX4_line 99 = .ok (.iload_n 2, 1) ∧ decode cX4_line 100 = .ok (.aload_n 0, 1) ∧ decode cX4_line 101 = .ok (.getfield 12, 3) ∧ decode cX4_line 104 = .ok (.getfield 96, 3) ∧ decode cX4_line 107 = .ok (.iastore, 1) ∧ True := dqC_ok (c := cX4_line) [(56, 1, some (.aload_n 0)), (57, 1, some (.iconst 3)), (58, 3, some (.invokevirtual 81)), (61, 1, some (.ireturn)), (62, 1, some (.aload_n 0)), (63, 1, some (.dup)), (64, 3, some (.getfield 42)), (67, 1, some (.iconst 1)), (68, 1, some (.iadd)), (69, 3, some (.putfield 42)), (72, 1, some (.aload_n 0)), (73, 3, some (.getfield 12)), (76, 3, some (.getfield 87)), (79, 1, some (.iload_n 2)), (80, 1, some (.iload_n 1)), (81, 1, some (.iastore)), (82, 1, some (.aload_n 0)), (83, 3, some (.getfield 12)), (86, 3, some (.getfield 90)), (89, 1, some (.iload_n 2)), (90, 1, some (.iconst 0)), (91, 1, some (.iastore)), (92, 1, some (.aload_n 0)), (93, 3, some (.getfield 12)), (96, 3, some (.getfield 93)), (99, 1, some (.iload_n 2)), (100, 1, some (.aload_n 0)), (101, 3, some (.getfield 12)), (104, 3, some (.getfield 96)), (107, 1, some (.iastore))] _ 56 rfl (by decide +kernel)
theorem dX4_line_56 : decode cX4_line 56 = .ok (.aload_n 0, 1) := dq_g71.1
theorem dX4_line_57 : decode cX4_line 57 = .ok (.iconst 3, 1) := dq_g71.2.1
theorem dX4_line_58 : decode cX4_line 58 = .ok (.invokevirtual 81, 3) := dq_g71.2.2.1
theorem dX4_line_61 : decode cX4_line 61 = .ok (.ireturn, 1) := dq_g71.2.2.2.1
theorem dX4_line_62 : decode cX4_line 62 = .ok (.aload_n 0, 1) := dq_g71.2.2.2.2.1
theorem dX4_line_63 : decode cX4_line 63 = .ok (.dup, 1) := dq_g71.2.2.2.2.2.1
theorem dX4_line_64 : decode cX4_line 64 = .ok (.getfield 42, 3) := dq_g71.2.2.2.2.2.2.1
theorem dX4_line_67 : decode cX4_line 67 = .ok (.iconst 1, 1) := dq_g71.2.2.2.2.2.2.2.1
theorem dX4_line_68 : decode cX4_line 68 = .ok (.iadd, 1) := dq_g71.2.2.2.2.2.2.2.2.1
theorem dX4_line_69 : decode cX4_line 69 = .ok (.putfield 42, 3) := dq_g71.2.2.2.2.2.2.2.2.2.1
theorem dX4_line_72 : decode cX4_line 72 = .ok (.aload_n 0, 1) := dq_g71.2.2.2.2.2.2.2.2.2.2.1
theorem dX4_line_73 : decode cX4_line 73 = .ok (.getfield 12, 3) := dq_g71.2.2.2.2.2.2.2.2.2.2.2.1
theorem dX4_line_76 : decode cX4_line 76 = .ok (.getfield 87, 3) := dq_g71.2.2.2.2.2.2.2.2.2.2.2.2.1
theorem dX4_line_79 : decode cX4_line 79 = .ok (.iload_n 2, 1) := dq_g71.2.2.2.2.2.2.2.2.2.2.2.2.2.1
theorem dX4_line_80 : decode cX4_line 80 = .ok (.iload_n 1, 1) := dq_g71.2.2.2.2.2.2.2.2.2.2.2.2.2.2.1
theorem dX4_line_81 : decode cX4_line 81 = .ok (.iastore, 1) := dq_g71.2.2.2.2.2.2.2.2.2.2.2.2.2.2.2.1
theorem dX4_line_82 : decode cX4_line 82 = .ok (.aload_n 0, 1) := dq_g71.2.2.2.2.2.2.2.2.2.2.2.2.2.2.2.2.1
theorem dX4_line_83 : decode cX4_line 83 = .ok (.getfield 12, 3) := dq_g71.2.2.2.2.2.2.2.2.2.2.2.2.2.2.2.2.2.1
theorem dX4_line_86 : decode cX4_line 86 = .ok (.getfield 90, 3) := dq_g71.2.2.2.2.2.2.2.2.2.2.2.2.2.2.2.2.2.2.1
theorem dX4_line_89 : decode cX4_line 89 = .ok (.iload_n 2, 1) := dq_g71.2.2.2.2.2.2.2.2.2.2.2.2.2.2.2.2.2.2.2.1
theorem dX4_line_90 : decode cX4_line 90 = .ok (.iconst 0, 1) := dq_g71.2.2.2.2.2.2.2.2.2.2.2.2.2.2.2.2.2.2.2.2.1
theorem dX4_line_91 : decode cX4_line 91 = .ok (.iastore, 1) := dq_g71.2.2.2.2.2.2.2.2.2.2.2.2.2.2.2.2.2.2.2.2.2.1
theorem dX4_line_92 : decode cX4_line 92 = .ok (.aload_n 0, 1) := dq_g71.2.2.2.2.2.2.2.2.2.2.2.2.2.2.2.2.2.2.2.2.2.2.1
theorem dX4_line_93 : decode cX4_line 93 = .ok (.getfield 12, 3) := dq_g71.2.2.2.2.2.2.2.2.2.2.2.2.2.2.2.2.2.2.2.2.2.2.2.1
theorem dX4_line_96 : decode cX4_line 96 = .ok (.getfield 93, 3) := dq_g71.2.2.2.2.2.2.2.2.2.2.2.2.2.2.2.2.2.2.2.2.2.2.2.2.1
theorem dX4_line_99 : decode cX4_line 99 = .ok (.iload_n 2, 1) := dq_g71.2.2.2.2.2.2.2.2.2.2.2.2.2.2.2.2.2.2.2.2.2.2.2.2.2.1
theorem dX4_line_100 : decode cX4_line 100 = .ok (.aload_n 0, 1) := dq_g71.2.2.2.2.2.2.2.2.2.2.2.2.2.2.2.2.2.2.2.2.2.2.2.2.2.2.1
theorem dX4_line_101 : decode cX4_line 101 = .ok (.getfield 12, 3) := dq_g71.2.2.2.2.2.2.2.2.2.2.2.2.2.2.2.2.2.2.2.2.2.2.2.2.2.2.2.1
theorem dX4_line_104 : decode cX4_line 104 = .ok (.getfield 96, 3) := dq_g71.2.2.2.2.2.2.2.2.2.2.2.2.2.2.2.2.2.2.2.2.2.2.2.2.2.2.2.2.1
theorem dX4_line_107 : decode cX4_line 107 = .ok (.iastore, 1) := dq_g71.2.2.2.2.2.2.2.2.2.2.2.2.2.2.2.2.2.2.2.2.2.2.2.2.2.2.2.2.2.1
theorem dq_g72 : decode cX4_line 108 = .ok (.aload_n 0, 1) ∧ decode cX4_line 109 = .ok (.getfield 28, 3) ∧ decode cX4_line 112 = .ok (.ifCond .eq 22, 3) ∧ decode cX4_line 115 = .ok (.aload_n 0, 1) ∧ decode cX4_line 116 = .ok (.iload_n 2, 1) ∧ decode cX4_line 117 = .ok (.iload_n 1, 1) ∧ decode cX4_line 118 = .ok (.invokevirtual 99, 3) ∧ decode cX4_line 121 = .ok (.ifCond .eq 22, 3) ∧ decode cX4_line 124 = .ok (.aload_n 0, 1) ∧ decode cX4_line 125 = .ok (.invokevirtual 103, 3) ∧ decode cX4_line 128 = .ok (.ifCond .eq 15, 3) ∧ decode cX4_line 131 = .ok (.goto 14, 3) ∧ decode cX4_line 134 = .ok (.aload_n 0, 1) ∧ decode cX4_line 135 = .ok (.iload_n 2, 1) ∧ decode cX4_line 136 = .ok (.iload_n 1, 1) ∧ decode cX4_line 137 = .ok (.invokevirtual 107, 3) ∧ decode cX4_line 140 = .ok (.ifCond .ne 5, 3) ∧ decode cX4_line 143 = .ok (.iconst 0, 1) ∧ decode cX4_line 144 = .ok (.ireturn, 1) ∧ decode cX4_line 145 = .ok (.aload_n 0, 1) ∧ decode cX4_line 146 = .ok (.getfield 12, 3) ∧ decode cX4_line 149 = .ok (.getfield 110, 3) ∧ decode cX4_line 152 = .ok (.iload_n 2, 1) ∧ decode cX4_line 153 = .ok (.aload_n 0, 1) ∧ decode cX4_line 154 = .ok (.getfield 12, 3) ∧ decode cX4_line 157 = .ok (.getfield 96, 3) ∧ decode cX4_line 160 = .ok (.iastore, 1) ∧ decode cX4_line 161 = .ok (.aload_n 0, 1) ∧ decode cX4_line 162 = .ok (.getfield 18, 3) ∧ decode cX4_line 165 = .ok (.aload_n 0, 1) ∧ True := dqC_ok (c := cX4_line) [(108, 1, some (.aload_n 0)), (109, 3, some (.getfield 28)), (112, 3, some (.ifCond .eq 22)), (115, 1, some (.aload_n 0)), (116, 1, some (.iload_n 2)), (117, 1, some (.iload_n 1)), (118, 3, some (.invokevirtual 99)), (121, 3, some (.ifCond .eq 22)), (124, 1, some (.aload_n 0)), (125, 3, some (.invokevirtual 103)), (128, 3, some (.ifCond .eq 15)), (131, 3, some (.goto 14)), (134, 1, some (.aload_n 0)), (135, 1, some (.iload_n 2)), (136, 1, some (.iload_n 1)), (137, 3, some (.invokevirtual 107)), (140, 3, some (.ifCond .ne 5)), (143, 1, some (.iconst 0)), (144, 1, some (.ireturn)), (145, 1, some (.aload_n 0)), (146, 3, some (.getfield 12)), (149, 3, some (.getfield 110)), (152, 1, some (.iload_n 2)), (153, 1, some (.aload_n 0)), (154, 3, some (.getfield 12)), (157, 3, some (.getfield 96)), (160, 1, some (.iastore)), (161, 1, some (.aload_n 0)), (162, 3, some (.getfield 18)), (165, 1, some (.aload_n 0))] _ 108 rfl (by decide +kernel)
theorem dX4_line_108 : decode cX4_line 108 = .ok (.aload_n 0, 1) := dq_g72.1
theorem dX4_line_109 : decode cX4_line 109 = .ok (.getfield 28, 3) := dq_g72.2.1
theorem dX4_line_112 : decode cX4_line 112 = .ok (.ifCond .eq 22, 3) := dq_g72.2.2.1
theorem dX4_line_115 : decode cX4_line 115 = .ok (.aload_n 0, 1) := dq_g72.2.2.2.1
theorem dX4_line_116 : decode cX4_line 116 = .ok (.iload_n 2, 1) := dq_g72.2.2.2.2.1
theorem dX4_line_117 : decode cX4_line 117 = .ok (.iload_n 1, 1) := dq_g72.2.2.2.2.2.1
theorem dX4_line_118 : decode cX4_line 118 = .ok (.invokevirtual 99, 3) := dq_g72.2.2.2.2.2.2.1
theorem dX4_line_121 : decode cX4_line 121 = .ok (.ifCond .eq 22, 3) := dq_g72.2.2.2.2.2.2.2.1
theorem dX4_line_124 : decode cX4_line 124 = .ok (.aload_n 0, 1) := dq_g72.2.2.2.2.2.2.2.2.1
theorem dX4_line_125 : decode cX4_line 125 = .ok (.invokevirtual 103, 3) := dq_g72.2.2.2.2.2.2.2.2.2.1
theorem dX4_line_128 : decode cX4_line 128 = .ok (.ifCond .eq 15, 3) := dq_g72.2.2.2.2.2.2.2.2.2.2.1
theorem dX4_line_131 : decode cX4_line 131 = .ok (.goto 14, 3) := dq_g72.2.2.2.2.2.2.2.2.2.2.2.1
theorem dX4_line_134 : decode cX4_line 134 = .ok (.aload_n 0, 1) := dq_g72.2.2.2.2.2.2.2.2.2.2.2.2.1
theorem dX4_line_135 : decode cX4_line 135 = .ok (.iload_n 2, 1) := dq_g72.2.2.2.2.2.2.2.2.2.2.2.2.2.1
theorem dX4_line_136 : decode cX4_line 136 = .ok (.iload_n 1, 1) := dq_g72.2.2.2.2.2.2.2.2.2.2.2.2.2.2.1
theorem dX4_line_137 : decode cX4_line 137 = .ok (.invokevirtual 107, 3) := dq_g72.2.2.2.2.2.2.2.2.2.2.2.2.2.2.2.1
theorem dX4_line_140 : decode cX4_line 140 = .ok (.ifCond .ne 5, 3) := dq_g72.2.2.2.2.2.2.2.2.2.2.2.2.2.2.2.2.1
theorem dX4_line_143 : decode cX4_line 143 = .ok (.iconst 0, 1) := dq_g72.2.2.2.2.2.2.2.2.2.2.2.2.2.2.2.2.2.1
theorem dX4_line_144 : decode cX4_line 144 = .ok (.ireturn, 1) := dq_g72.2.2.2.2.2.2.2.2.2.2.2.2.2.2.2.2.2.2.1
theorem dX4_line_145 : decode cX4_line 145 = .ok (.aload_n 0, 1) := dq_g72.2.2.2.2.2.2.2.2.2.2.2.2.2.2.2.2.2.2.2.1
theorem dX4_line_146 : decode cX4_line 146 = .ok (.getfield 12, 3) := dq_g72.2.2.2.2.2.2.2.2.2.2.2.2.2.2.2.2.2.2.2.2.1
theorem dX4_line_149 : decode cX4_line 149 = .ok (.getfield 110, 3) := dq_g72.2.2.2.2.2.2.2.2.2.2.2.2.2.2.2.2.2.2.2.2.2.1
theorem dX4_line_152 : decode cX4_line 152 = .ok (.iload_n 2, 1) := dq_g72.2.2.2.2.2.2.2.2.2.2.2.2.2.2.2.2.2.2.2.2.2.2.1
theorem dX4_line_153 : decode cX4_line 153 = .ok (.aload_n 0, 1) := dq_g72.2.2.2.2.2.2.2.2.2.2.2.2.2.2.2.2.2.2.2.2.2.2.2.1
theorem dX4_line_154 : decode cX4_line 154 = .ok (.getfield 12, 3) := dq_g72.2.2.2.2.2.2.2.2.2.2.2.2.2.2.2.2.2.2.2.2.2.2.2.2.1
theorem dX4_line_157 : decode cX4_line 157 = .ok (.getfield 96, 3) := dq_g72.2.2.2.2.2.2.2.2.2.2.2.2.2.2.2.2.2.2.2.2.2.2.2.2.2.1
theorem dX4_line_160 : decode cX4_line 160 = .ok (.iastore, 1) := dq_g72.2.2.2.2.2.2.2.2.2.2.2.2.2.2.2.2.2.2.2.2.2.2.2.2.2.2.1
theorem dX4_line_161 : decode cX4_line 161 = .ok (.aload_n 0, 1) := dq_g72.2.2.2.2.2.2.2.2.2.2.2.2.2.2.2.2.2.2.2.2.2.2.2.2.2.2.2.1
theorem dX4_line_162 : decode cX4_line 162 = .ok (.getfield 18, 3) := dq_g72.2.2.2.2.2.2.2.2.2.2.2.2.2.2.2.2.2.2.2.2.2.2.2.2.2.2.2.2.1
theorem dX4_line_165 : decode cX4_line 165 = .ok (.aload_n 0, 1) := dq_g72.2.2.2.2.2.2.2.2.2.2.2.2.2.2.2.2.2.2.2.2.2.2.2.2.2.2.2.2.2.1
theorem dq_g73 : decode cX4_line 166 = .ok (.getfield 42, 3) ∧ decode cX4_line 169 = .ok (.iaload, 1) ∧ decode cX4_line 170 = .ok (.bipush 7, 2) ∧ decode cX4_line 172 = .ok (.if_icmp .ne 23, 3) ∧ decode cX4_line 175 = .ok (.aload_n 0, 1) ∧ decode cX4_line 176 = .ok (.dup, 1) ∧ decode cX4_line 177 = .ok (.getfield 42, 3) ∧ decode cX4_line 180 = .ok (.iconst 1, 1) ∧ decode cX4_line 181 = .ok (.iadd, 1) ∧ decode cX4_line 182 = .ok (.putfield 42, 3) ∧ decode cX4_line 185 = .ok (.aload_n 0, 1) ∧ decode cX4_line 186 = .ok (.iconst 0, 1) ∧ decode cX4_line 187 = .ok (.invokevirtual 113, 3) ∧ decode cX4_line 190 = .ok (.ifCond .ne 5, 3) ∧ decode cX4_line 193 = .ok (.iconst 0, 1) ∧ decode cX4_line 194 = .ok (.ireturn, 1) ∧ decode cX4_line 195 = .ok (.aload_n 0, 1) ∧ decode cX4_line 196 = .ok (.getfield 12, 3) ∧ decode cX4_line 199 = .ok (.getfield 116, 3) ∧ decode cX4_line 202 = .ok (.iload_n 2, 1) ∧ decode cX4_line 203 = .ok (.aload_n 0, 1) ∧ decode cX4_line 204 = .ok (.getfield 12, 3) ∧ decode cX4_line 207 = .ok (.getfield 96, 3) ∧ decode cX4_line 210 = .ok (.iastore, 1) ∧ decode cX4_line 211 = .ok (.aload_n 0, 1) ∧ decode cX4_line 212 = .ok (.getfield 18, 3) ∧ decode cX4_line 215 = .ok (.aload_n 0, 1) ∧ decode cX4_line 216 = .ok (.getfield 42, 3) ∧ decode cX4_line 219 = .ok (.iaload, 1) ∧ decode cX4_line 220 = .ok (.bipush 59, 2) ∧ True := dqC_ok (c := cX4_line) [(166, 3, some (.getfield 42)), (169, 1, some (.iaload)), (170, 2, some (.bipush 7)), (172, 3, some (.if_icmp .ne 23)), (175, 1, some (.aload_n 0)), (176, 1, some (.dup)), (177, 3, some (.getfield 42)), (180, 1, some (.iconst 1)), (181, 1, some (.iadd)), (182, 3, some (.putfield 42)), (185, 1, some (.aload_n 0)), (186, 1, some (.iconst 0)), (187, 3, some (.invokevirtual 113)), (190, 3, some (.ifCond .ne 5)), (193, 1, some (.iconst 0)), (194, 1, some (.ireturn)), (195, 1, some (.aload_n 0)), (196, 3, some (.getfield 12)), (199, 3, some (.getfield 116)), (202, 1, some (.iload_n 2)), (203, 1, some (.aload_n 0)), (204, 3, some (.getfield 12)), (207, 3, some (.getfield 96)), (210, 1, some (.iastore)), (211, 1, some (.aload_n 0)), (212, 3, some (.getfield 18)), (215, 1, some (.aload_n 0)), (216, 3, some (.getfield 42)), (219, 1, some (.iaload)), (220, 2, some (.bipush 59))] _ 166 rfl (by decide +kernel)
theorem dX4_line_166 : decode cX4_line 166 = .ok (.getfield 42, 3) := dq_g73.1
theorem dX4_line_169 : decode cX4_line 169 = .ok (.iaload, 1) := dq_g73.2.1
theorem dX4_line_170 : decode cX4_line 170 = .ok (.bipush 7, 2) := dq_g73.2.2.1
theorem dX4_line_172 : decode cX4_line 172 = .ok (.if_icmp .ne 23, 3) := dq_g73.2.2.2.1
theorem dX4_line_175 : decode cX4_line 175 = .ok (.aload_n 0, 1) := dq_g73.2.2.2.2.1
theorem dX4_line_176 : decode cX4_line 176 = .ok (.dup, 1) := dq_g73.2.2.2.2.2.1
theorem dX4_line_177 : decode cX4_line 177 = .ok (.getfield 42, 3) := dq_g73.2.2.2.2.2.2.1
theorem dX4_line_180 : decode cX4_line 180 = .ok (.iconst 1, 1) := dq_g73.2.2.2.2.2.2.2.1
theorem dX4_line_181 : decode cX4_line 181 = .ok (.iadd, 1) := dq_g73.2.2.2.2.2.2.2.2.1
theorem dX4_line_182 : decode cX4_line 182 = .ok (.putfield 42, 3) := dq_g73.2.2.2.2.2.2.2.2.2.1
theorem dX4_line_185 : decode cX4_line 185 = .ok (.aload_n 0, 1) := dq_g73.2.2.2.2.2.2.2.2.2.2.1
theorem dX4_line_186 : decode cX4_line 186 = .ok (.iconst 0, 1) := dq_g73.2.2.2.2.2.2.2.2.2.2.2.1
theorem dX4_line_187 : decode cX4_line 187 = .ok (.invokevirtual 113, 3) := dq_g73.2.2.2.2.2.2.2.2.2.2.2.2.1
theorem dX4_line_190 : decode cX4_line 190 = .ok (.ifCond .ne 5, 3) := dq_g73.2.2.2.2.2.2.2.2.2.2.2.2.2.1
theorem dX4_line_193 : decode cX4_line 193 = .ok (.iconst 0, 1) := dq_g73.2.2.2.2.2.2.2.2.2.2.2.2.2.2.1
theorem dX4_line_194 : decode cX4_line 194 = .ok (.ireturn, 1) := dq_g73.2.2.2.2.2.2.2.2.2.2.2.2.2.2.2.1
theorem dX4_line_195 : decode cX4_line 195 = .ok (.aload_n 0, 1) := dq_g73.2.2.2.2.2.2.2.2.2.2.2.2.2.2.2.2.1
theorem dX4_line_196 : decode cX4_line 196 = .ok (.getfield 12, 3) := dq_g73.2.2.2.2.2.2.2.2.2.2.2.2.2.2.2.2.2.1
theorem dX4_line_199 : decode cX4_line 199 = .ok (.getfield 116, 3) := dq_g73.2.2.2.2.2.2.2.2.2.2.2.2.2.2.2.2.2.2.1
theorem dX4_line_202 : decode cX4_line 202 = .ok (.iload_n 2, 1) := dq_g73.2.2.2.2.2.2.2.2.2.2.2.2.2.2.2.2.2.2.2.1
theorem dX4_line_203 : decode cX4_line 203 = .ok (.aload_n 0, 1) := dq_g73.2.2.2.2.2.2.2.2.2.2.2.2.2.2.2.2.2.2.2.2.1
theorem dX4_line_204 : decode cX4_line 204 = .ok (.getfield 12, 3) := dq_g73.2.2.2.2.2.2.2.2.2.2.2.2.2.2.2.2.2.2.2.2.2.1
theorem dX4_line_207 : decode cX4_line 207 = .ok (.getfield 96, 3) := dq_g73.2.2.2.2.2.2.2.2.2.2.2.2.2.2.2.2.2.2.2.2.2.2.1
theorem dX4_line_210 : decode cX4_line 210 = .ok (.iastore, 1) := dq_g73.2.2.2.2.2.2.2.2.2.2.2.2.2.2.2.2.2.2.2.2.2.2.2.1
theorem dX4_line_211 : decode cX4_line 211 = .ok (.aload_n 0, 1) := dq_g73.2.2.2.2.2.2.2.2.2.2.2.2.2.2.2.2.2.2.2.2.2.2.2.2.1
theorem dX4_line_212 : decode cX4_line 212 = .ok (.getfield 18, 3) := dq_g73.2.2.2.2.2.2.2.2.2.2.2.2.2.2.2.2.2.2.2.2.2.2.2.2.2.1
theorem dX4_line_215 : decode cX4_line 215 = .ok (.aload_n 0, 1) := dq_g73.2.2.2.2.2.2.2.2.2.2.2.2.2.2.2.2.2.2.2.2.2.2.2.2.2.2.1
theorem dX4_line_216 : decode cX4_line 216 = .ok (.getfield 42, 3) := dq_g73.2.2.2.2.2.2.2.2.2.2.2.2.2.2.2.2.2.2.2.2.2.2.2.2.2.2.2.1
theorem dX4_line_219 : decode cX4_line 219 = .ok (.iaload, 1) := dq_g73.2.2.2.2.2.2.2.2.2.2.2.2.2.2.2.2.2.2.2.2.2.2.2.2.2.2.2.2.1
theorem dX4_line_220 : decode cX4_line 220 = .ok (.bipush 59, 2) := dq_g73.2.2.2.2.2.2.2.2.2.2.2.2.2.2.2.2.2.2.2.2.2.2.2.2.2.2.2.2.2.1
theorem dq_g74 : decode cX4_line 222 = .ok (.if_icmp .eq 9, 3) ∧ decode cX4_line 225 = .ok (.aload_n 0, 1) ∧ decode cX4_line 226 = .ok (.iconst 1, 1) ∧ decode cX4_line 227 = .ok (.invokevirtual 81, 3) ∧ decode cX4_line 230 = .ok (.ireturn, 1) ∧ decode cX4_line 231 = .ok (.aload_n 0, 1) ∧ decode cX4_line 232 = .ok (.dup, 1) ∧ decode cX4_line 233 = .ok (.getfield 42, 3) ∧ decode cX4_line 236 = .ok (.iconst 1, 1) ∧ decode cX4_line 237 = .ok (.iadd, 1) ∧ decode cX4_line 238 = .ok (.putfield 42, 3) ∧ decode cX4_line 241 = .ok (.aload_n 0, 1) ∧ decode cX4_line 242 = .ok (.getfield 12, 3) ∧ decode cX4_line 245 = .ok (.dup, 1) ∧ decode cX4_line 246 = .ok (.getfield 84, 3) ∧ decode cX4_line 249 = .ok (.iconst 1, 1) ∧ decode cX4_line 250 = .ok (.iadd, 1) ∧ decode cX4_line 251 = .ok (.putfield 84, 3) ∧ decode cX4_line 254 = .ok (.iconst 1, 1) ∧ decode cX4_line 255 = .ok (.ireturn, 1) ∧ True := dqC_ok (c := cX4_line) [(222, 3, some (.if_icmp .eq 9)), (225, 1, some (.aload_n 0)), (226, 1, some (.iconst 1)), (227, 3, some (.invokevirtual 81)), (230, 1, some (.ireturn)), (231, 1, some (.aload_n 0)), (232, 1, some (.dup)), (233, 3, some (.getfield 42)), (236, 1, some (.iconst 1)), (237, 1, some (.iadd)), (238, 3, some (.putfield 42)), (241, 1, some (.aload_n 0)), (242, 3, some (.getfield 12)), (245, 1, some (.dup)), (246, 3, some (.getfield 84)), (249, 1, some (.iconst 1)), (250, 1, some (.iadd)), (251, 3, some (.putfield 84)), (254, 1, some (.iconst 1)), (255, 1, some (.ireturn))] _ 222 rfl (by decide +kernel)
theorem dX4_line_222 : decode cX4_line 222 = .ok (.if_icmp .eq 9, 3) := dq_g74.1
theorem dX4_line_225 : decode cX4_line 225 = .ok (.aload_n 0, 1) := dq_g74.2.1
theorem dX4_line_226 : decode cX4_line 226 = .ok (.iconst 1, 1) := dq_g74.2.2.1
theorem dX4_line_227 : decode cX4_line 227 = .ok (.invokevirtual 81, 3) := dq_g74.2.2.2.1
theorem dX4_line_230 : decode cX4_line 230 = .ok (.ireturn, 1) := dq_g74.2.2.2.2.1
theorem dX4_line_231 : decode cX4_line 231 = .ok (.aload_n 0, 1) := dq_g74.2.2.2.2.2.1
theorem dX4_line_232 : decode cX4_line 232 = .ok (.dup, 1) := dq_g74.2.2.2.2.2.2.1
theorem dX4_line_233 : decode cX4_line 233 = .ok (.getfield 42, 3) := dq_g74.2.2.2.2.2.2.2.1
theorem dX4_line_236 : decode cX4_line 236 = .ok (.iconst 1, 1) := dq_g74.2.2.2.2.2.2.2.2.1
theorem dX4_line_237 : decode cX4_line 237 = .ok (.iadd, 1) := dq_g74.2.2.2.2.2.2.2.2.2.1
theorem dX4_line_238 : decode cX4_line 238 = .ok (.putfield 42, 3) := dq_g74.2.2.2.2.2.2.2.2.2.2.1
theorem dX4_line_241 : decode cX4_line 241 = .ok (.aload_n 0, 1) := dq_g74.2.2.2.2.2.2.2.2.2.2.2.1
theorem dX4_line_242 : decode cX4_line 242 = .ok (.getfield 12, 3) := dq_g74.2.2.2.2.2.2.2.2.2.2.2.2.1
theorem dX4_line_245 : decode cX4_line 245 = .ok (.dup, 1) := dq_g74.2.2.2.2.2.2.2.2.2.2.2.2.2.1
theorem dX4_line_246 : decode cX4_line 246 = .ok (.getfield 84, 3) := dq_g74.2.2.2.2.2.2.2.2.2.2.2.2.2.2.1
theorem dX4_line_249 : decode cX4_line 249 = .ok (.iconst 1, 1) := dq_g74.2.2.2.2.2.2.2.2.2.2.2.2.2.2.2.1
theorem dX4_line_250 : decode cX4_line 250 = .ok (.iadd, 1) := dq_g74.2.2.2.2.2.2.2.2.2.2.2.2.2.2.2.2.1
theorem dX4_line_251 : decode cX4_line 251 = .ok (.putfield 84, 3) := dq_g74.2.2.2.2.2.2.2.2.2.2.2.2.2.2.2.2.2.1
theorem dX4_line_254 : decode cX4_line 254 = .ok (.iconst 1, 1) := dq_g74.2.2.2.2.2.2.2.2.2.2.2.2.2.2.2.2.2.2.1
theorem dX4_line_255 : decode cX4_line 255 = .ok (.ireturn, 1) := dq_g74.2.2.2.2.2.2.2.2.2.2.2.2.2.2.2.2.2.2.2.1
theorem dq_g75 : decode cX4_lawHead 0 = .ok (.iload_n 2, 1) ∧ decode cX4_lawHead 1 = .ok (.iconst 3, 1) ∧ decode cX4_lawHead 2 = .ok (.if_icmp .ne 5, 3) ∧ decode cX4_lawHead 5 = .ok (.iconst 1, 1) ∧ decode cX4_lawHead 6 = .ok (.ireturn, 1) ∧ decode cX4_lawHead 7 = .ok (.aload_n 0, 1) ∧ decode cX4_lawHead 8 = .ok (.iconst 0, 1) ∧ decode cX4_lawHead 9 = .ok (.iconst 2, 1) ∧ decode cX4_lawHead 10 = .ok (.invokevirtual 119, 3) ∧ decode cX4_lawHead 13 = .ok (.ifCond .ne 5, 3) ∧ decode cX4_lawHead 16 = .ok (.iconst 0, 1) ∧ decode cX4_lawHead 17 = .ok (.ireturn, 1) ∧ decode cX4_lawHead 18 = .ok (.aload_n 0, 1) ∧ decode cX4_lawHead 19 = .ok (.getfield 12, 3) ∧ decode cX4_lawHead 22 = .ok (.getfield 90, 3) ∧ decode cX4_lawHead 25 = .ok (.iload_n 1, 1) ∧ decode cX4_lawHead 26 = .ok (.aload_n 0, 1) ∧ decode cX4_lawHead 27 = .ok (.getfield 22, 3) ∧ decode cX4_lawHead 30 = .ok (.aload_n 0, 1) ∧ decode cX4_lawHead 31 = .ok (.getfield 42, 3) ∧ decode cX4_lawHead 34 = .ok (.iconst 1, 1) ∧ decode cX4_lawHead 35 = .ok (.isub, 1) ∧ decode cX4_lawHead 36 = .ok (.iaload, 1) ∧ decode cX4_lawHead 37 = .ok (.iastore, 1) ∧ decode cX4_lawHead 38 = .ok (.iconst 1, 1) ∧ decode cX4_lawHead 39 = .ok (.ireturn, 1) ∧ True := dqC_ok (c := cX4_lawHead) [(0, 1, some (.iload_n 2)), (1, 1, some (.iconst 3)), (2, 3, some (.if_icmp .ne 5)), (5, 1, some (.iconst 1)), (6, 1, some (.ireturn)), (7, 1, some (.aload_n 0)), (8, 1, some (.iconst 0)), (9, 1, some (.iconst 2)), (10, 3, some (.invokevirtual 119)), (13, 3, some (.ifCond .ne 5)), (16, 1, some (.iconst 0)), (17, 1, some (.ireturn)), (18, 1, some (.aload_n 0)), (19, 3, some (.getfield 12)), (22, 3, some (.getfield 90)), (25, 1, some (.iload_n 1)), (26, 1, some (.aload_n 0)), (27, 3, some (.getfield 22)), (30, 1, some (.aload_n 0)), (31, 3, some (.getfield 42)), (34, 1, some (.iconst 1)), (35, 1, some (.isub)), (36, 1, some (.iaload)), (37, 1, some (.iastore)), (38, 1, some (.iconst 1)), (39, 1, some (.ireturn))] _ 0 rfl (by decide +kernel)
theorem dX4_lawHead_0 : decode cX4_lawHead 0 = .ok (.iload_n 2, 1) := dq_g75.1
theorem dX4_lawHead_1 : decode cX4_lawHead 1 = .ok (.iconst 3, 1) := dq_g75.2.1
theorem dX4_lawHead_2 : decode cX4_lawHead 2 = .ok (.if_icmp .ne 5, 3) := dq_g75.2.2.1
theorem dX4_lawHead_5 : decode cX4_lawHead 5 = .ok (.iconst 1, 1) := dq_g75.2.2.2.1
theorem dX4_lawHead_6 : decode cX4_lawHead 6 = .ok (.ireturn, 1) := dq_g75.2.2.2.2.1
theorem dX4_lawHead_7 : decode cX4_lawHead 7 = .ok (.aload_n 0, 1) := dq_g75.2.2.2.2.2.1
theorem dX4_lawHead_8 : decode cX4_lawHead 8 = .ok (.iconst 0, 1) := dq_g75.2.2.2.2.2.2.1
theorem dX4_lawHead_9 : decode cX4_lawHead 9 = .ok (.iconst 2, 1) := dq_g75.2.2.2.2.2.2.2.1
theorem dX4_lawHead_10 : decode cX4_lawHead 10 = .ok (.invokevirtual 119, 3) := dq_g75.2.2.2.2.2.2.2.2.1
theorem dX4_lawHead_13 : decode cX4_lawHead 13 = .ok (.ifCond .ne 5, 3) := dq_g75.2.2.2.2.2.2.2.2.2.1
theorem dX4_lawHead_16 : decode cX4_lawHead 16 = .ok (.iconst 0, 1) := dq_g75.2.2.2.2.2.2.2.2.2.2.1
theorem dX4_lawHead_17 : decode cX4_lawHead 17 = .ok (.ireturn, 1) := dq_g75.2.2.2.2.2.2.2.2.2.2.2.1
theorem dX4_lawHead_18 : decode cX4_lawHead 18 = .ok (.aload_n 0, 1) := dq_g75.2.2.2.2.2.2.2.2.2.2.2.2.1
theorem dX4_lawHead_19 : decode cX4_lawHead 19 = .ok (.getfield 12, 3) := dq_g75.2.2.2.2.2.2.2.2.2.2.2.2.2.1
theorem dX4_lawHead_22 : decode cX4_lawHead 22 = .ok (.getfield 90, 3) := dq_g75.2.2.2.2.2.2.2.2.2.2.2.2.2.2.1
theorem dX4_lawHead_25 : decode cX4_lawHead 25 = .ok (.iload_n 1, 1) := dq_g75.2.2.2.2.2.2.2.2.2.2.2.2.2.2.2.1
theorem dX4_lawHead_26 : decode cX4_lawHead 26 = .ok (.aload_n 0, 1) := dq_g75.2.2.2.2.2.2.2.2.2.2.2.2.2.2.2.2.1
theorem dX4_lawHead_27 : decode cX4_lawHead 27 = .ok (.getfield 22, 3) := dq_g75.2.2.2.2.2.2.2.2.2.2.2.2.2.2.2.2.2.1
theorem dX4_lawHead_30 : decode cX4_lawHead 30 = .ok (.aload_n 0, 1) := dq_g75.2.2.2.2.2.2.2.2.2.2.2.2.2.2.2.2.2.2.1
theorem dX4_lawHead_31 : decode cX4_lawHead 31 = .ok (.getfield 42, 3) := dq_g75.2.2.2.2.2.2.2.2.2.2.2.2.2.2.2.2.2.2.2.1
theorem dX4_lawHead_34 : decode cX4_lawHead 34 = .ok (.iconst 1, 1) := dq_g75.2.2.2.2.2.2.2.2.2.2.2.2.2.2.2.2.2.2.2.2.1
theorem dX4_lawHead_35 : decode cX4_lawHead 35 = .ok (.isub, 1) := dq_g75.2.2.2.2.2.2.2.2.2.2.2.2.2.2.2.2.2.2.2.2.2.1
theorem dX4_lawHead_36 : decode cX4_lawHead 36 = .ok (.iaload, 1) := dq_g75.2.2.2.2.2.2.2.2.2.2.2.2.2.2.2.2.2.2.2.2.2.2.1
theorem dX4_lawHead_37 : decode cX4_lawHead 37 = .ok (.iastore, 1) := dq_g75.2.2.2.2.2.2.2.2.2.2.2.2.2.2.2.2.2.2.2.2.2.2.2.1
theorem dX4_lawHead_38 : decode cX4_lawHead 38 = .ok (.iconst 1, 1) := dq_g75.2.2.2.2.2.2.2.2.2.2.2.2.2.2.2.2.2.2.2.2.2.2.2.2.1
theorem dX4_lawHead_39 : decode cX4_lawHead 39 = .ok (.ireturn, 1) := dq_g75.2.2.2.2.2.2.2.2.2.2.2.2.2.2.2.2.2.2.2.2.2.2.2.2.2.1
theorem dq_g76 : decode cX4_jobHead 0 = .ok (.aload_n 0, 1) ∧ decode cX4_jobHead 1 = .ok (.iconst 0, 1) ∧ decode cX4_jobHead 2 = .ok (.bipush 15, 2) ∧ decode cX4_jobHead 4 = .ok (.invokevirtual 119, 3) ∧ decode cX4_jobHead 7 = .ok (.ifCond .ne 5, 3) ∧ decode cX4_jobHead 10 = .ok (.iconst 0, 1) ∧ decode cX4_jobHead 11 = .ok (.ireturn, 1) ∧ decode cX4_jobHead 12 = .ok (.aload_n 0, 1) ∧ decode cX4_jobHead 13 = .ok (.getfield 12, 3) ∧ decode cX4_jobHead 16 = .ok (.getfield 90, 3) ∧ decode cX4_jobHead 19 = .ok (.iload_n 1, 1) ∧ decode cX4_jobHead 20 = .ok (.aload_n 0, 1) ∧ decode cX4_jobHead 21 = .ok (.getfield 22, 3) ∧ decode cX4_jobHead 24 = .ok (.aload_n 0, 1) ∧ decode cX4_jobHead 25 = .ok (.getfield 42, 3) ∧ decode cX4_jobHead 28 = .ok (.iconst 1, 1) ∧ decode cX4_jobHead 29 = .ok (.isub, 1) ∧ decode cX4_jobHead 30 = .ok (.iaload, 1) ∧ decode cX4_jobHead 31 = .ok (.iastore, 1) ∧ decode cX4_jobHead 32 = .ok (.iload_n 2, 1) ∧ decode cX4_jobHead 33 = .ok (.iconst 5, 1) ∧ decode cX4_jobHead 34 = .ok (.if_icmp .ne 35, 3) ∧ decode cX4_jobHead 37 = .ok (.aload_n 0, 1) ∧ decode cX4_jobHead 38 = .ok (.iconst 0, 1) ∧ decode cX4_jobHead 39 = .ok (.bipush 15, 2) ∧ decode cX4_jobHead 41 = .ok (.invokevirtual 119, 3) ∧ decode cX4_jobHead 44 = .ok (.ifCond .ne 5, 3) ∧ decode cX4_jobHead 47 = .ok (.iconst 0, 1) ∧ decode cX4_jobHead 48 = .ok (.ireturn, 1) ∧ decode cX4_jobHead 49 = .ok (.aload_n 0, 1) ∧ True := dqC_ok (c := cX4_jobHead) [(0, 1, some (.aload_n 0)), (1, 1, some (.iconst 0)), (2, 2, some (.bipush 15)), (4, 3, some (.invokevirtual 119)), (7, 3, some (.ifCond .ne 5)), (10, 1, some (.iconst 0)), (11, 1, some (.ireturn)), (12, 1, some (.aload_n 0)), (13, 3, some (.getfield 12)), (16, 3, some (.getfield 90)), (19, 1, some (.iload_n 1)), (20, 1, some (.aload_n 0)), (21, 3, some (.getfield 22)), (24, 1, some (.aload_n 0)), (25, 3, some (.getfield 42)), (28, 1, some (.iconst 1)), (29, 1, some (.isub)), (30, 1, some (.iaload)), (31, 1, some (.iastore)), (32, 1, some (.iload_n 2)), (33, 1, some (.iconst 5)), (34, 3, some (.if_icmp .ne 35)), (37, 1, some (.aload_n 0)), (38, 1, some (.iconst 0)), (39, 2, some (.bipush 15)), (41, 3, some (.invokevirtual 119)), (44, 3, some (.ifCond .ne 5)), (47, 1, some (.iconst 0)), (48, 1, some (.ireturn)), (49, 1, some (.aload_n 0))] _ 0 rfl (by decide +kernel)
theorem dX4_jobHead_0 : decode cX4_jobHead 0 = .ok (.aload_n 0, 1) := dq_g76.1
theorem dX4_jobHead_1 : decode cX4_jobHead 1 = .ok (.iconst 0, 1) := dq_g76.2.1
theorem dX4_jobHead_2 : decode cX4_jobHead 2 = .ok (.bipush 15, 2) := dq_g76.2.2.1
theorem dX4_jobHead_4 : decode cX4_jobHead 4 = .ok (.invokevirtual 119, 3) := dq_g76.2.2.2.1
theorem dX4_jobHead_7 : decode cX4_jobHead 7 = .ok (.ifCond .ne 5, 3) := dq_g76.2.2.2.2.1
theorem dX4_jobHead_10 : decode cX4_jobHead 10 = .ok (.iconst 0, 1) := dq_g76.2.2.2.2.2.1
theorem dX4_jobHead_11 : decode cX4_jobHead 11 = .ok (.ireturn, 1) := dq_g76.2.2.2.2.2.2.1
theorem dX4_jobHead_12 : decode cX4_jobHead 12 = .ok (.aload_n 0, 1) := dq_g76.2.2.2.2.2.2.2.1
theorem dX4_jobHead_13 : decode cX4_jobHead 13 = .ok (.getfield 12, 3) := dq_g76.2.2.2.2.2.2.2.2.1
theorem dX4_jobHead_16 : decode cX4_jobHead 16 = .ok (.getfield 90, 3) := dq_g76.2.2.2.2.2.2.2.2.2.1
theorem dX4_jobHead_19 : decode cX4_jobHead 19 = .ok (.iload_n 1, 1) := dq_g76.2.2.2.2.2.2.2.2.2.2.1
theorem dX4_jobHead_20 : decode cX4_jobHead 20 = .ok (.aload_n 0, 1) := dq_g76.2.2.2.2.2.2.2.2.2.2.2.1
theorem dX4_jobHead_21 : decode cX4_jobHead 21 = .ok (.getfield 22, 3) := dq_g76.2.2.2.2.2.2.2.2.2.2.2.2.1
theorem dX4_jobHead_24 : decode cX4_jobHead 24 = .ok (.aload_n 0, 1) := dq_g76.2.2.2.2.2.2.2.2.2.2.2.2.2.1
theorem dX4_jobHead_25 : decode cX4_jobHead 25 = .ok (.getfield 42, 3) := dq_g76.2.2.2.2.2.2.2.2.2.2.2.2.2.2.1
theorem dX4_jobHead_28 : decode cX4_jobHead 28 = .ok (.iconst 1, 1) := dq_g76.2.2.2.2.2.2.2.2.2.2.2.2.2.2.2.1
theorem dX4_jobHead_29 : decode cX4_jobHead 29 = .ok (.isub, 1) := dq_g76.2.2.2.2.2.2.2.2.2.2.2.2.2.2.2.2.1
theorem dX4_jobHead_30 : decode cX4_jobHead 30 = .ok (.iaload, 1) := dq_g76.2.2.2.2.2.2.2.2.2.2.2.2.2.2.2.2.2.1
theorem dX4_jobHead_31 : decode cX4_jobHead 31 = .ok (.iastore, 1) := dq_g76.2.2.2.2.2.2.2.2.2.2.2.2.2.2.2.2.2.2.1
theorem dX4_jobHead_32 : decode cX4_jobHead 32 = .ok (.iload_n 2, 1) := dq_g76.2.2.2.2.2.2.2.2.2.2.2.2.2.2.2.2.2.2.2.1
theorem dX4_jobHead_33 : decode cX4_jobHead 33 = .ok (.iconst 5, 1) := dq_g76.2.2.2.2.2.2.2.2.2.2.2.2.2.2.2.2.2.2.2.2.1
theorem dX4_jobHead_34 : decode cX4_jobHead 34 = .ok (.if_icmp .ne 35, 3) := dq_g76.2.2.2.2.2.2.2.2.2.2.2.2.2.2.2.2.2.2.2.2.2.1
theorem dX4_jobHead_37 : decode cX4_jobHead 37 = .ok (.aload_n 0, 1) := dq_g76.2.2.2.2.2.2.2.2.2.2.2.2.2.2.2.2.2.2.2.2.2.2.1
theorem dX4_jobHead_38 : decode cX4_jobHead 38 = .ok (.iconst 0, 1) := dq_g76.2.2.2.2.2.2.2.2.2.2.2.2.2.2.2.2.2.2.2.2.2.2.2.1
theorem dX4_jobHead_39 : decode cX4_jobHead 39 = .ok (.bipush 15, 2) := dq_g76.2.2.2.2.2.2.2.2.2.2.2.2.2.2.2.2.2.2.2.2.2.2.2.2.1
theorem dX4_jobHead_41 : decode cX4_jobHead 41 = .ok (.invokevirtual 119, 3) := dq_g76.2.2.2.2.2.2.2.2.2.2.2.2.2.2.2.2.2.2.2.2.2.2.2.2.2.1
theorem dX4_jobHead_44 : decode cX4_jobHead 44 = .ok (.ifCond .ne 5, 3) := dq_g76.2.2.2.2.2.2.2.2.2.2.2.2.2.2.2.2.2.2.2.2.2.2.2.2.2.2.1
theorem dX4_jobHead_47 : decode cX4_jobHead 47 = .ok (.iconst 0, 1) := dq_g76.2.2.2.2.2.2.2.2.2.2.2.2.2.2.2.2.2.2.2.2.2.2.2.2.2.2.2.1
theorem dX4_jobHead_48 : decode cX4_jobHead 48 = .ok (.ireturn, 1) := dq_g76.2.2.2.2.2.2.2.2.2.2.2.2.2.2.2.2.2.2.2.2.2.2.2.2.2.2.2.2.1
theorem dX4_jobHead_49 : decode cX4_jobHead 49 = .ok (.aload_n 0, 1) := dq_g76.2.2.2.2.2.2.2.2.2.2.2.2.2.2.2.2.2.2.2.2.2.2.2.2.2.2.2.2.2.1
theorem dq_g77 : decode cX4_jobHead 50 = .ok (.getfield 12, 3) ∧ decode cX4_jobHead 53 = .ok (.getfield 122, 3) ∧ decode cX4_jobHead 56 = .ok (.iload_n 1, 1) ∧ decode cX4_jobHead 57 = .ok (.aload_n 0, 1) ∧ decode cX4_jobHead 58 = .ok (.getfield 22, 3) ∧ decode cX4_jobHead 61 = .ok (.aload_n 0, 1) ∧ decode cX4_jobHead 62 = .ok (.getfield 42, 3) ∧ decode cX4_jobHead 65 = .ok (.iconst 1, 1) ∧ decode cX4_jobHead 66 = .ok (.isub, 1) ∧ decode cX4_jobHead 67 = .ok (.iaload, 1) ∧ decode cX4_jobHead 68 = .ok (.iastore, 1) ∧ decode cX4_jobHead 69 = .ok (.iload_n 2, 1) ∧ decode cX4_jobHead 70 = .ok (.bipush 6, 2) ∧ decode cX4_jobHead 72 = .ok (.if_icmp .ne 16, 3) ∧ decode cX4_jobHead 75 = .ok (.aload_n 0, 1) ∧ decode cX4_jobHead 76 = .ok (.iconst 0, 1) ∧ decode cX4_jobHead 77 = .ok (.bipush 99, 2) ∧ decode cX4_jobHead 79 = .ok (.invokevirtual 119, 3) ∧ decode cX4_jobHead 82 = .ok (.ifCond .eq 16, 3) ∧ decode cX4_jobHead 85 = .ok (.goto 15, 3) ∧ decode cX4_jobHead 88 = .ok (.aload_n 0, 1) ∧ decode cX4_jobHead 89 = .ok (.iconst 1, 1) ∧ decode cX4_jobHead 90 = .ok (.bipush 9, 2) ∧ decode cX4_jobHead 92 = .ok (.invokevirtual 119, 3) ∧ decode cX4_jobHead 95 = .ok (.ifCond .ne 5, 3) ∧ decode cX4_jobHead 98 = .ok (.iconst 0, 1) ∧ decode cX4_jobHead 99 = .ok (.ireturn, 1) ∧ decode cX4_jobHead 100 = .ok (.aload_n 0, 1) ∧ decode cX4_jobHead 101 = .ok (.getfield 12, 3) ∧ decode cX4_jobHead 104 = .ok (.getfield 125, 3) ∧ True := dqC_ok (c := cX4_jobHead) [(50, 3, some (.getfield 12)), (53, 3, some (.getfield 122)), (56, 1, some (.iload_n 1)), (57, 1, some (.aload_n 0)), (58, 3, some (.getfield 22)), (61, 1, some (.aload_n 0)), (62, 3, some (.getfield 42)), (65, 1, some (.iconst 1)), (66, 1, some (.isub)), (67, 1, some (.iaload)), (68, 1, some (.iastore)), (69, 1, some (.iload_n 2)), (70, 2, some (.bipush 6)), (72, 3, some (.if_icmp .ne 16)), (75, 1, some (.aload_n 0)), (76, 1, some (.iconst 0)), (77, 2, some (.bipush 99)), (79, 3, some (.invokevirtual 119)), (82, 3, some (.ifCond .eq 16)), (85, 3, some (.goto 15)), (88, 1, some (.aload_n 0)), (89, 1, some (.iconst 1)), (90, 2, some (.bipush 9)), (92, 3, some (.invokevirtual 119)), (95, 3, some (.ifCond .ne 5)), (98, 1, some (.iconst 0)), (99, 1, some (.ireturn)), (100, 1, some (.aload_n 0)), (101, 3, some (.getfield 12)), (104, 3, some (.getfield 125))] _ 50 rfl (by decide +kernel)
theorem dX4_jobHead_50 : decode cX4_jobHead 50 = .ok (.getfield 12, 3) := dq_g77.1
theorem dX4_jobHead_53 : decode cX4_jobHead 53 = .ok (.getfield 122, 3) := dq_g77.2.1
theorem dX4_jobHead_56 : decode cX4_jobHead 56 = .ok (.iload_n 1, 1) := dq_g77.2.2.1
theorem dX4_jobHead_57 : decode cX4_jobHead 57 = .ok (.aload_n 0, 1) := dq_g77.2.2.2.1
theorem dX4_jobHead_58 : decode cX4_jobHead 58 = .ok (.getfield 22, 3) := dq_g77.2.2.2.2.1
theorem dX4_jobHead_61 : decode cX4_jobHead 61 = .ok (.aload_n 0, 1) := dq_g77.2.2.2.2.2.1
theorem dX4_jobHead_62 : decode cX4_jobHead 62 = .ok (.getfield 42, 3) := dq_g77.2.2.2.2.2.2.1
theorem dX4_jobHead_65 : decode cX4_jobHead 65 = .ok (.iconst 1, 1) := dq_g77.2.2.2.2.2.2.2.1
theorem dX4_jobHead_66 : decode cX4_jobHead 66 = .ok (.isub, 1) := dq_g77.2.2.2.2.2.2.2.2.1
theorem dX4_jobHead_67 : decode cX4_jobHead 67 = .ok (.iaload, 1) := dq_g77.2.2.2.2.2.2.2.2.2.1
theorem dX4_jobHead_68 : decode cX4_jobHead 68 = .ok (.iastore, 1) := dq_g77.2.2.2.2.2.2.2.2.2.2.1
theorem dX4_jobHead_69 : decode cX4_jobHead 69 = .ok (.iload_n 2, 1) := dq_g77.2.2.2.2.2.2.2.2.2.2.2.1
theorem dX4_jobHead_70 : decode cX4_jobHead 70 = .ok (.bipush 6, 2) := dq_g77.2.2.2.2.2.2.2.2.2.2.2.2.1
theorem dX4_jobHead_72 : decode cX4_jobHead 72 = .ok (.if_icmp .ne 16, 3) := dq_g77.2.2.2.2.2.2.2.2.2.2.2.2.2.1
theorem dX4_jobHead_75 : decode cX4_jobHead 75 = .ok (.aload_n 0, 1) := dq_g77.2.2.2.2.2.2.2.2.2.2.2.2.2.2.1
theorem dX4_jobHead_76 : decode cX4_jobHead 76 = .ok (.iconst 0, 1) := dq_g77.2.2.2.2.2.2.2.2.2.2.2.2.2.2.2.1
theorem dX4_jobHead_77 : decode cX4_jobHead 77 = .ok (.bipush 99, 2) := dq_g77.2.2.2.2.2.2.2.2.2.2.2.2.2.2.2.2.1
theorem dX4_jobHead_79 : decode cX4_jobHead 79 = .ok (.invokevirtual 119, 3) := dq_g77.2.2.2.2.2.2.2.2.2.2.2.2.2.2.2.2.2.1
theorem dX4_jobHead_82 : decode cX4_jobHead 82 = .ok (.ifCond .eq 16, 3) := dq_g77.2.2.2.2.2.2.2.2.2.2.2.2.2.2.2.2.2.2.1
theorem dX4_jobHead_85 : decode cX4_jobHead 85 = .ok (.goto 15, 3) := dq_g77.2.2.2.2.2.2.2.2.2.2.2.2.2.2.2.2.2.2.2.1
theorem dX4_jobHead_88 : decode cX4_jobHead 88 = .ok (.aload_n 0, 1) := dq_g77.2.2.2.2.2.2.2.2.2.2.2.2.2.2.2.2.2.2.2.2.1
theorem dX4_jobHead_89 : decode cX4_jobHead 89 = .ok (.iconst 1, 1) := dq_g77.2.2.2.2.2.2.2.2.2.2.2.2.2.2.2.2.2.2.2.2.2.1
theorem dX4_jobHead_90 : decode cX4_jobHead 90 = .ok (.bipush 9, 2) := dq_g77.2.2.2.2.2.2.2.2.2.2.2.2.2.2.2.2.2.2.2.2.2.2.1
theorem dX4_jobHead_92 : decode cX4_jobHead 92 = .ok (.invokevirtual 119, 3) := dq_g77.2.2.2.2.2.2.2.2.2.2.2.2.2.2.2.2.2.2.2.2.2.2.2.1
theorem dX4_jobHead_95 : decode cX4_jobHead 95 = .ok (.ifCond .ne 5, 3) := dq_g77.2.2.2.2.2.2.2.2.2.2.2.2.2.2.2.2.2.2.2.2.2.2.2.2.1
theorem dX4_jobHead_98 : decode cX4_jobHead 98 = .ok (.iconst 0, 1) := dq_g77.2.2.2.2.2.2.2.2.2.2.2.2.2.2.2.2.2.2.2.2.2.2.2.2.2.1
theorem dX4_jobHead_99 : decode cX4_jobHead 99 = .ok (.ireturn, 1) := dq_g77.2.2.2.2.2.2.2.2.2.2.2.2.2.2.2.2.2.2.2.2.2.2.2.2.2.2.1
theorem dX4_jobHead_100 : decode cX4_jobHead 100 = .ok (.aload_n 0, 1) := dq_g77.2.2.2.2.2.2.2.2.2.2.2.2.2.2.2.2.2.2.2.2.2.2.2.2.2.2.2.1
theorem dX4_jobHead_101 : decode cX4_jobHead 101 = .ok (.getfield 12, 3) := dq_g77.2.2.2.2.2.2.2.2.2.2.2.2.2.2.2.2.2.2.2.2.2.2.2.2.2.2.2.2.1
theorem dX4_jobHead_104 : decode cX4_jobHead 104 = .ok (.getfield 125, 3) := dq_g77.2.2.2.2.2.2.2.2.2.2.2.2.2.2.2.2.2.2.2.2.2.2.2.2.2.2.2.2.2.1
theorem dq_g78 : decode cX4_jobHead 107 = .ok (.iload_n 1, 1) ∧ decode cX4_jobHead 108 = .ok (.aload_n 0, 1) ∧ decode cX4_jobHead 109 = .ok (.getfield 22, 3) ∧ decode cX4_jobHead 112 = .ok (.aload_n 0, 1) ∧ decode cX4_jobHead 113 = .ok (.getfield 42, 3) ∧ decode cX4_jobHead 116 = .ok (.iconst 1, 1) ∧ decode cX4_jobHead 117 = .ok (.isub, 1) ∧ decode cX4_jobHead 118 = .ok (.iaload, 1) ∧ decode cX4_jobHead 119 = .ok (.iastore, 1) ∧ decode cX4_jobHead 120 = .ok (.iconst 1, 1) ∧ decode cX4_jobHead 121 = .ok (.ireturn, 1) ∧ True := dqC_ok (c := cX4_jobHead) [(107, 1, some (.iload_n 1)), (108, 1, some (.aload_n 0)), (109, 3, some (.getfield 22)), (112, 1, some (.aload_n 0)), (113, 3, some (.getfield 42)), (116, 1, some (.iconst 1)), (117, 1, some (.isub)), (118, 1, some (.iaload)), (119, 1, some (.iastore)), (120, 1, some (.iconst 1)), (121, 1, some (.ireturn))] _ 107 rfl (by decide +kernel)
theorem dX4_jobHead_107 : decode cX4_jobHead 107 = .ok (.iload_n 1, 1) := dq_g78.1
theorem dX4_jobHead_108 : decode cX4_jobHead 108 = .ok (.aload_n 0, 1) := dq_g78.2.1
theorem dX4_jobHead_109 : decode cX4_jobHead 109 = .ok (.getfield 22, 3) := dq_g78.2.2.1
theorem dX4_jobHead_112 : decode cX4_jobHead 112 = .ok (.aload_n 0, 1) := dq_g78.2.2.2.1
theorem dX4_jobHead_113 : decode cX4_jobHead 113 = .ok (.getfield 42, 3) := dq_g78.2.2.2.2.1
theorem dX4_jobHead_116 : decode cX4_jobHead 116 = .ok (.iconst 1, 1) := dq_g78.2.2.2.2.2.1
theorem dX4_jobHead_117 : decode cX4_jobHead 117 = .ok (.isub, 1) := dq_g78.2.2.2.2.2.2.1
theorem dX4_jobHead_118 : decode cX4_jobHead 118 = .ok (.iaload, 1) := dq_g78.2.2.2.2.2.2.2.1
theorem dX4_jobHead_119 : decode cX4_jobHead 119 = .ok (.iastore, 1) := dq_g78.2.2.2.2.2.2.2.2.1
theorem dX4_jobHead_120 : decode cX4_jobHead 120 = .ok (.iconst 1, 1) := dq_g78.2.2.2.2.2.2.2.2.2.1
theorem dX4_jobHead_121 : decode cX4_jobHead 121 = .ok (.ireturn, 1) := dq_g78.2.2.2.2.2.2.2.2.2.2.1
theorem dq_g79 : decode cX4_number 0 = .ok (.aload_n 0, 1) ∧ decode cX4_number 1 = .ok (.getfield 18, 3) ∧ decode cX4_number 4 = .ok (.aload_n 0, 1) ∧ decode cX4_number 5 = .ok (.getfield 42, 3) ∧ decode cX4_number 8 = .ok (.iaload, 1) ∧ decode cX4_number 9 = .ok (.bipush 24, 2) ∧ decode cX4_number 11 = .ok (.if_icmp .eq 9, 3) ∧ decode cX4_number 14 = .ok (.aload_n 0, 1) ∧ decode cX4_number 15 = .ok (.iconst 1, 1) ∧ decode cX4_number 16 = .ok (.invokevirtual 81, 3) ∧ decode cX4_number 19 = .ok (.ireturn, 1) ∧ decode cX4_number 20 = .ok (.aload_n 0, 1) ∧ decode cX4_number 21 = .ok (.getfield 22, 3) ∧ decode cX4_number 24 = .ok (.aload_n 0, 1) ∧ decode cX4_number 25 = .ok (.getfield 42, 3) ∧ decode cX4_number 28 = .ok (.iaload, 1) ∧ decode cX4_number 29 = .ok (.iload_n 1, 1) ∧ decode cX4_number 30 = .ok (.if_icmp .lt 16, 3) ∧ decode cX4_number 33 = .ok (.aload_n 0, 1) ∧ decode cX4_number 34 = .ok (.getfield 22, 3) ∧ decode cX4_number 37 = .ok (.aload_n 0, 1) ∧ decode cX4_number 38 = .ok (.getfield 42, 3) ∧ decode cX4_number 41 = .ok (.iaload, 1) ∧ decode cX4_number 42 = .ok (.iload_n 2, 1) ∧ decode cX4_number 43 = .ok (.if_icmp .le 9, 3) ∧ decode cX4_number 46 = .ok (.aload_n 0, 1) ∧ decode cX4_number 47 = .ok (.iconst 2, 1) ∧ decode cX4_number 48 = .ok (.invokevirtual 81, 3) ∧ decode cX4_number 51 = .ok (.ireturn, 1) ∧ decode cX4_number 52 = .ok (.aload_n 0, 1) ∧ True := dqC_ok (c := cX4_number) [(0, 1, some (.aload_n 0)), (1, 3, some (.getfield 18)), (4, 1, some (.aload_n 0)), (5, 3, some (.getfield 42)), (8, 1, some (.iaload)), (9, 2, some (.bipush 24)), (11, 3, some (.if_icmp .eq 9)), (14, 1, some (.aload_n 0)), (15, 1, some (.iconst 1)), (16, 3, some (.invokevirtual 81)), (19, 1, some (.ireturn)), (20, 1, some (.aload_n 0)), (21, 3, some (.getfield 22)), (24, 1, some (.aload_n 0)), (25, 3, some (.getfield 42)), (28, 1, some (.iaload)), (29, 1, some (.iload_n 1)), (30, 3, some (.if_icmp .lt 16)), (33, 1, some (.aload_n 0)), (34, 3, some (.getfield 22)), (37, 1, some (.aload_n 0)), (38, 3, some (.getfield 42)), (41, 1, some (.iaload)), (42, 1, some (.iload_n 2)), (43, 3, some (.if_icmp .le 9)), (46, 1, some (.aload_n 0)), (47, 1, some (.iconst 2)), (48, 3, some (.invokevirtual 81)), (51, 1, some (.ireturn)), (52, 1, some (.aload_n 0))] _ 0 rfl (by decide +kernel)
theorem dX4_number_0 : decode cX4_number 0 = .ok (.aload_n 0, 1) := dq_g79.1
theorem dX4_number_1 : decode cX4_number 1 = .ok (.getfield 18, 3) := dq_g79.2.1
theorem dX4_number_4 : decode cX4_number 4 = .ok (.aload_n 0, 1) := dq_g79.2.2.1
theorem dX4_number_5 : decode cX4_number 5 = .ok (.getfield 42, 3) := dq_g79.2.2.2.1
theorem dX4_number_8 : decode cX4_number 8 = .ok (.iaload, 1) := dq_g79.2.2.2.2.1
theorem dX4_number_9 : decode cX4_number 9 = .ok (.bipush 24, 2) := dq_g79.2.2.2.2.2.1
theorem dX4_number_11 : decode cX4_number 11 = .ok (.if_icmp .eq 9, 3) := dq_g79.2.2.2.2.2.2.1
theorem dX4_number_14 : decode cX4_number 14 = .ok (.aload_n 0, 1) := dq_g79.2.2.2.2.2.2.2.1
theorem dX4_number_15 : decode cX4_number 15 = .ok (.iconst 1, 1) := dq_g79.2.2.2.2.2.2.2.2.1
theorem dX4_number_16 : decode cX4_number 16 = .ok (.invokevirtual 81, 3) := dq_g79.2.2.2.2.2.2.2.2.2.1
theorem dX4_number_19 : decode cX4_number 19 = .ok (.ireturn, 1) := dq_g79.2.2.2.2.2.2.2.2.2.2.1
theorem dX4_number_20 : decode cX4_number 20 = .ok (.aload_n 0, 1) := dq_g79.2.2.2.2.2.2.2.2.2.2.2.1
theorem dX4_number_21 : decode cX4_number 21 = .ok (.getfield 22, 3) := dq_g79.2.2.2.2.2.2.2.2.2.2.2.2.1
theorem dX4_number_24 : decode cX4_number 24 = .ok (.aload_n 0, 1) := dq_g79.2.2.2.2.2.2.2.2.2.2.2.2.2.1
theorem dX4_number_25 : decode cX4_number 25 = .ok (.getfield 42, 3) := dq_g79.2.2.2.2.2.2.2.2.2.2.2.2.2.2.1
theorem dX4_number_28 : decode cX4_number 28 = .ok (.iaload, 1) := dq_g79.2.2.2.2.2.2.2.2.2.2.2.2.2.2.2.1
theorem dX4_number_29 : decode cX4_number 29 = .ok (.iload_n 1, 1) := dq_g79.2.2.2.2.2.2.2.2.2.2.2.2.2.2.2.2.1
theorem dX4_number_30 : decode cX4_number 30 = .ok (.if_icmp .lt 16, 3) := dq_g79.2.2.2.2.2.2.2.2.2.2.2.2.2.2.2.2.2.1
theorem dX4_number_33 : decode cX4_number 33 = .ok (.aload_n 0, 1) := dq_g79.2.2.2.2.2.2.2.2.2.2.2.2.2.2.2.2.2.2.1
theorem dX4_number_34 : decode cX4_number 34 = .ok (.getfield 22, 3) := dq_g79.2.2.2.2.2.2.2.2.2.2.2.2.2.2.2.2.2.2.2.1
theorem dX4_number_37 : decode cX4_number 37 = .ok (.aload_n 0, 1) := dq_g79.2.2.2.2.2.2.2.2.2.2.2.2.2.2.2.2.2.2.2.2.1
theorem dX4_number_38 : decode cX4_number 38 = .ok (.getfield 42, 3) := dq_g79.2.2.2.2.2.2.2.2.2.2.2.2.2.2.2.2.2.2.2.2.2.1
theorem dX4_number_41 : decode cX4_number 41 = .ok (.iaload, 1) := dq_g79.2.2.2.2.2.2.2.2.2.2.2.2.2.2.2.2.2.2.2.2.2.2.1
theorem dX4_number_42 : decode cX4_number 42 = .ok (.iload_n 2, 1) := dq_g79.2.2.2.2.2.2.2.2.2.2.2.2.2.2.2.2.2.2.2.2.2.2.2.1
theorem dX4_number_43 : decode cX4_number 43 = .ok (.if_icmp .le 9, 3) := dq_g79.2.2.2.2.2.2.2.2.2.2.2.2.2.2.2.2.2.2.2.2.2.2.2.2.1
theorem dX4_number_46 : decode cX4_number 46 = .ok (.aload_n 0, 1) := dq_g79.2.2.2.2.2.2.2.2.2.2.2.2.2.2.2.2.2.2.2.2.2.2.2.2.2.1
theorem dX4_number_47 : decode cX4_number 47 = .ok (.iconst 2, 1) := dq_g79.2.2.2.2.2.2.2.2.2.2.2.2.2.2.2.2.2.2.2.2.2.2.2.2.2.2.1
theorem dX4_number_48 : decode cX4_number 48 = .ok (.invokevirtual 81, 3) := dq_g79.2.2.2.2.2.2.2.2.2.2.2.2.2.2.2.2.2.2.2.2.2.2.2.2.2.2.2.1
theorem dX4_number_51 : decode cX4_number 51 = .ok (.ireturn, 1) := dq_g79.2.2.2.2.2.2.2.2.2.2.2.2.2.2.2.2.2.2.2.2.2.2.2.2.2.2.2.2.1
theorem dX4_number_52 : decode cX4_number 52 = .ok (.aload_n 0, 1) := dq_g79.2.2.2.2.2.2.2.2.2.2.2.2.2.2.2.2.2.2.2.2.2.2.2.2.2.2.2.2.2.1
theorem dq_g80 : decode cX4_number 53 = .ok (.dup, 1) ∧ decode cX4_number 54 = .ok (.getfield 42, 3) ∧ decode cX4_number 57 = .ok (.iconst 1, 1) ∧ decode cX4_number 58 = .ok (.iadd, 1) ∧ decode cX4_number 59 = .ok (.putfield 42, 3) ∧ decode cX4_number 62 = .ok (.iconst 1, 1) ∧ decode cX4_number 63 = .ok (.ireturn, 1) ∧ True := dqC_ok (c := cX4_number) [(53, 1, some (.dup)), (54, 3, some (.getfield 42)), (57, 1, some (.iconst 1)), (58, 1, some (.iadd)), (59, 3, some (.putfield 42)), (62, 1, some (.iconst 1)), (63, 1, some (.ireturn))] _ 53 rfl (by decide +kernel)
theorem dX4_number_53 : decode cX4_number 53 = .ok (.dup, 1) := dq_g80.1
theorem dX4_number_54 : decode cX4_number 54 = .ok (.getfield 42, 3) := dq_g80.2.1
theorem dX4_number_57 : decode cX4_number 57 = .ok (.iconst 1, 1) := dq_g80.2.2.1
theorem dX4_number_58 : decode cX4_number 58 = .ok (.iadd, 1) := dq_g80.2.2.2.1
theorem dX4_number_59 : decode cX4_number 59 = .ok (.putfield 42, 3) := dq_g80.2.2.2.2.1
theorem dX4_number_62 : decode cX4_number 62 = .ok (.iconst 1, 1) := dq_g80.2.2.2.2.2.1
theorem dX4_number_63 : decode cX4_number 63 = .ok (.ireturn, 1) := dq_g80.2.2.2.2.2.2.1
theorem dq_g81 : decode cX4_either 0 = .ok (.aload_n 0, 1) ∧ decode cX4_either 1 = .ok (.iload_n 1, 1) ∧ decode cX4_either 2 = .ok (.invokevirtual 128, 3) ∧ decode cX4_either 5 = .ok (.ifCond .ne 5, 3) ∧ decode cX4_either 8 = .ok (.iconst 0, 1) ∧ decode cX4_either 9 = .ok (.ireturn, 1) ∧ decode cX4_either 10 = .ok (.iconst 0, 1) ∧ decode cX4_either 11 = .ok (.istore_n 2, 1) ∧ decode cX4_either 12 = .ok (.iload_n 2, 1) ∧ decode cX4_either 13 = .ok (.sipush 500, 3) ∧ decode cX4_either 16 = .ok (.if_icmp .ge 53, 3) ∧ decode cX4_either 19 = .ok (.aload_n 0, 1) ∧ decode cX4_either 20 = .ok (.getfield 18, 3) ∧ decode cX4_either 23 = .ok (.aload_n 0, 1) ∧ decode cX4_either 24 = .ok (.getfield 42, 3) ∧ decode cX4_either 27 = .ok (.iaload, 1) ∧ decode cX4_either 28 = .ok (.bipush 8, 2) ∧ decode cX4_either 30 = .ok (.if_icmp .ne 39, 3) ∧ decode cX4_either 33 = .ok (.aload_n 0, 1) ∧ decode cX4_either 34 = .ok (.dup, 1) ∧ decode cX4_either 35 = .ok (.getfield 42, 3) ∧ decode cX4_either 38 = .ok (.iconst 1, 1) ∧ decode cX4_either 39 = .ok (.iadd, 1) ∧ decode cX4_either 40 = .ok (.putfield 42, 3) ∧ decode cX4_either 43 = .ok (.aload_n 0, 1) ∧ decode cX4_either 44 = .ok (.iload_n 1, 1) ∧ decode cX4_either 45 = .ok (.invokevirtual 128, 3) ∧ decode cX4_either 48 = .ok (.ifCond .ne 5, 3) ∧ decode cX4_either 51 = .ok (.iconst 0, 1) ∧ decode cX4_either 52 = .ok (.ireturn, 1) ∧ True := dqC_ok (c := cX4_either) [(0, 1, some (.aload_n 0)), (1, 1, some (.iload_n 1)), (2, 3, some (.invokevirtual 128)), (5, 3, some (.ifCond .ne 5)), (8, 1, some (.iconst 0)), (9, 1, some (.ireturn)), (10, 1, some (.iconst 0)), (11, 1, some (.istore_n 2)), (12, 1, some (.iload_n 2)), (13, 3, some (.sipush 500)), (16, 3, some (.if_icmp .ge 53)), (19, 1, some (.aload_n 0)), (20, 3, some (.getfield 18)), (23, 1, some (.aload_n 0)), (24, 3, some (.getfield 42)), (27, 1, some (.iaload)), (28, 2, some (.bipush 8)), (30, 3, some (.if_icmp .ne 39)), (33, 1, some (.aload_n 0)), (34, 1, some (.dup)), (35, 3, some (.getfield 42)), (38, 1, some (.iconst 1)), (39, 1, some (.iadd)), (40, 3, some (.putfield 42)), (43, 1, some (.aload_n 0)), (44, 1, some (.iload_n 1)), (45, 3, some (.invokevirtual 128)), (48, 3, some (.ifCond .ne 5)), (51, 1, some (.iconst 0)), (52, 1, some (.ireturn))] _ 0 rfl (by decide +kernel)
theorem dX4_either_0 : decode cX4_either 0 = .ok (.aload_n 0, 1) := dq_g81.1
theorem dX4_either_1 : decode cX4_either 1 = .ok (.iload_n 1, 1) := dq_g81.2.1
theorem dX4_either_2 : decode cX4_either 2 = .ok (.invokevirtual 128, 3) := dq_g81.2.2.1
theorem dX4_either_5 : decode cX4_either 5 = .ok (.ifCond .ne 5, 3) := dq_g81.2.2.2.1
theorem dX4_either_8 : decode cX4_either 8 = .ok (.iconst 0, 1) := dq_g81.2.2.2.2.1
theorem dX4_either_9 : decode cX4_either 9 = .ok (.ireturn, 1) := dq_g81.2.2.2.2.2.1
theorem dX4_either_10 : decode cX4_either 10 = .ok (.iconst 0, 1) := dq_g81.2.2.2.2.2.2.1
theorem dX4_either_11 : decode cX4_either 11 = .ok (.istore_n 2, 1) := dq_g81.2.2.2.2.2.2.2.1
theorem dX4_either_12 : decode cX4_either 12 = .ok (.iload_n 2, 1) := dq_g81.2.2.2.2.2.2.2.2.1
theorem dX4_either_13 : decode cX4_either 13 = .ok (.sipush 500, 3) := dq_g81.2.2.2.2.2.2.2.2.2.1
theorem dX4_either_16 : decode cX4_either 16 = .ok (.if_icmp .ge 53, 3) := dq_g81.2.2.2.2.2.2.2.2.2.2.1
theorem dX4_either_19 : decode cX4_either 19 = .ok (.aload_n 0, 1) := dq_g81.2.2.2.2.2.2.2.2.2.2.2.1
theorem dX4_either_20 : decode cX4_either 20 = .ok (.getfield 18, 3) := dq_g81.2.2.2.2.2.2.2.2.2.2.2.2.1
theorem dX4_either_23 : decode cX4_either 23 = .ok (.aload_n 0, 1) := dq_g81.2.2.2.2.2.2.2.2.2.2.2.2.2.1
theorem dX4_either_24 : decode cX4_either 24 = .ok (.getfield 42, 3) := dq_g81.2.2.2.2.2.2.2.2.2.2.2.2.2.2.1
theorem dX4_either_27 : decode cX4_either 27 = .ok (.iaload, 1) := dq_g81.2.2.2.2.2.2.2.2.2.2.2.2.2.2.2.1
theorem dX4_either_28 : decode cX4_either 28 = .ok (.bipush 8, 2) := dq_g81.2.2.2.2.2.2.2.2.2.2.2.2.2.2.2.2.1
theorem dX4_either_30 : decode cX4_either 30 = .ok (.if_icmp .ne 39, 3) := dq_g81.2.2.2.2.2.2.2.2.2.2.2.2.2.2.2.2.2.1
theorem dX4_either_33 : decode cX4_either 33 = .ok (.aload_n 0, 1) := dq_g81.2.2.2.2.2.2.2.2.2.2.2.2.2.2.2.2.2.2.1
theorem dX4_either_34 : decode cX4_either 34 = .ok (.dup, 1) := dq_g81.2.2.2.2.2.2.2.2.2.2.2.2.2.2.2.2.2.2.2.1
theorem dX4_either_35 : decode cX4_either 35 = .ok (.getfield 42, 3) := dq_g81.2.2.2.2.2.2.2.2.2.2.2.2.2.2.2.2.2.2.2.2.1
theorem dX4_either_38 : decode cX4_either 38 = .ok (.iconst 1, 1) := dq_g81.2.2.2.2.2.2.2.2.2.2.2.2.2.2.2.2.2.2.2.2.2.1
theorem dX4_either_39 : decode cX4_either 39 = .ok (.iadd, 1) := dq_g81.2.2.2.2.2.2.2.2.2.2.2.2.2.2.2.2.2.2.2.2.2.2.1
theorem dX4_either_40 : decode cX4_either 40 = .ok (.putfield 42, 3) := dq_g81.2.2.2.2.2.2.2.2.2.2.2.2.2.2.2.2.2.2.2.2.2.2.2.1
theorem dX4_either_43 : decode cX4_either 43 = .ok (.aload_n 0, 1) := dq_g81.2.2.2.2.2.2.2.2.2.2.2.2.2.2.2.2.2.2.2.2.2.2.2.2.1
theorem dX4_either_44 : decode cX4_either 44 = .ok (.iload_n 1, 1) := dq_g81.2.2.2.2.2.2.2.2.2.2.2.2.2.2.2.2.2.2.2.2.2.2.2.2.2.1
theorem dX4_either_45 : decode cX4_either 45 = .ok (.invokevirtual 128, 3) := dq_g81.2.2.2.2.2.2.2.2.2.2.2.2.2.2.2.2.2.2.2.2.2.2.2.2.2.2.1
theorem dX4_either_48 : decode cX4_either 48 = .ok (.ifCond .ne 5, 3) := dq_g81.2.2.2.2.2.2.2.2.2.2.2.2.2.2.2.2.2.2.2.2.2.2.2.2.2.2.2.1
theorem dX4_either_51 : decode cX4_either 51 = .ok (.iconst 0, 1) := dq_g81.2.2.2.2.2.2.2.2.2.2.2.2.2.2.2.2.2.2.2.2.2.2.2.2.2.2.2.2.1
theorem dX4_either_52 : decode cX4_either 52 = .ok (.ireturn, 1) := dq_g81.2.2.2.2.2.2.2.2.2.2.2.2.2.2.2.2.2.2.2.2.2.2.2.2.2.2.2.2.2.1
theorem dq_g82 : decode cX4_either 53 = .ok (.aload_n 0, 1) ∧ decode cX4_either 54 = .ok (.getfield 12, 3) ∧ decode cX4_either 57 = .ok (.bipush 8, 2) ∧ decode cX4_either 59 = .ok (.iconst 0, 1) ∧ decode cX4_either 60 = .ok (.invokevirtual 131, 3) ∧ decode cX4_either 63 = .ok (.iinc 2 1, 3) ∧ decode cX4_either 66 = .ok (.goto (-54), 3) ∧ decode cX4_either 69 = .ok (.iconst 1, 1) ∧ decode cX4_either 70 = .ok (.ireturn, 1) ∧ True := dqC_ok (c := cX4_either) [(53, 1, some (.aload_n 0)), (54, 3, some (.getfield 12)), (57, 2, some (.bipush 8)), (59, 1, some (.iconst 0)), (60, 3, some (.invokevirtual 131)), (63, 3, some (.iinc 2 1)), (66, 3, some (.goto (-54))), (69, 1, some (.iconst 1)), (70, 1, some (.ireturn))] _ 53 rfl (by decide +kernel)
theorem dX4_either_53 : decode cX4_either 53 = .ok (.aload_n 0, 1) := dq_g82.1
theorem dX4_either_54 : decode cX4_either 54 = .ok (.getfield 12, 3) := dq_g82.2.1
theorem dX4_either_57 : decode cX4_either 57 = .ok (.bipush 8, 2) := dq_g82.2.2.1
theorem dX4_either_59 : decode cX4_either 59 = .ok (.iconst 0, 1) := dq_g82.2.2.2.1
theorem dX4_either_60 : decode cX4_either 60 = .ok (.invokevirtual 131, 3) := dq_g82.2.2.2.2.1
theorem dX4_either_63 : decode cX4_either 63 = .ok (.iinc 2 1, 3) := dq_g82.2.2.2.2.2.1
theorem dX4_either_66 : decode cX4_either 66 = .ok (.goto (-54), 3) := dq_g82.2.2.2.2.2.2.1
theorem dX4_either_69 : decode cX4_either 69 = .ok (.iconst 1, 1) := dq_g82.2.2.2.2.2.2.2.1
theorem dX4_either_70 : decode cX4_either 70 = .ok (.ireturn, 1) := dq_g82.2.2.2.2.2.2.2.2.1
theorem dq_g83 : decode cX4_both 0 = .ok (.aload_n 0, 1) ∧ decode cX4_both 1 = .ok (.iload_n 1, 1) ∧ decode cX4_both 2 = .ok (.invokevirtual 135, 3) ∧ decode cX4_both 5 = .ok (.ifCond .ne 5, 3) ∧ decode cX4_both 8 = .ok (.iconst 0, 1) ∧ decode cX4_both 9 = .ok (.ireturn, 1) ∧ decode cX4_both 10 = .ok (.iconst 0, 1) ∧ decode cX4_both 11 = .ok (.istore_n 2, 1) ∧ decode cX4_both 12 = .ok (.iload_n 2, 1) ∧ decode cX4_both 13 = .ok (.sipush 500, 3) ∧ decode cX4_both 16 = .ok (.if_icmp .ge 53, 3) ∧ decode cX4_both 19 = .ok (.aload_n 0, 1) ∧ decode cX4_both 20 = .ok (.getfield 18, 3) ∧ decode cX4_both 23 = .ok (.aload_n 0, 1) ∧ decode cX4_both 24 = .ok (.getfield 42, 3) ∧ decode cX4_both 27 = .ok (.iaload, 1) ∧ decode cX4_both 28 = .ok (.bipush 9, 2) ∧ decode cX4_both 30 = .ok (.if_icmp .ne 39, 3) ∧ decode cX4_both 33 = .ok (.aload_n 0, 1) ∧ decode cX4_both 34 = .ok (.dup, 1) ∧ decode cX4_both 35 = .ok (.getfield 42, 3) ∧ decode cX4_both 38 = .ok (.iconst 1, 1) ∧ decode cX4_both 39 = .ok (.iadd, 1) ∧ decode cX4_both 40 = .ok (.putfield 42, 3) ∧ decode cX4_both 43 = .ok (.aload_n 0, 1) ∧ decode cX4_both 44 = .ok (.iload_n 1, 1) ∧ decode cX4_both 45 = .ok (.invokevirtual 135, 3) ∧ decode cX4_both 48 = .ok (.ifCond .ne 5, 3) ∧ decode cX4_both 51 = .ok (.iconst 0, 1) ∧ decode cX4_both 52 = .ok (.ireturn, 1) ∧ True := dqC_ok (c := cX4_both) [(0, 1, some (.aload_n 0)), (1, 1, some (.iload_n 1)), (2, 3, some (.invokevirtual 135)), (5, 3, some (.ifCond .ne 5)), (8, 1, some (.iconst 0)), (9, 1, some (.ireturn)), (10, 1, some (.iconst 0)), (11, 1, some (.istore_n 2)), (12, 1, some (.iload_n 2)), (13, 3, some (.sipush 500)), (16, 3, some (.if_icmp .ge 53)), (19, 1, some (.aload_n 0)), (20, 3, some (.getfield 18)), (23, 1, some (.aload_n 0)), (24, 3, some (.getfield 42)), (27, 1, some (.iaload)), (28, 2, some (.bipush 9)), (30, 3, some (.if_icmp .ne 39)), (33, 1, some (.aload_n 0)), (34, 1, some (.dup)), (35, 3, some (.getfield 42)), (38, 1, some (.iconst 1)), (39, 1, some (.iadd)), (40, 3, some (.putfield 42)), (43, 1, some (.aload_n 0)), (44, 1, some (.iload_n 1)), (45, 3, some (.invokevirtual 135)), (48, 3, some (.ifCond .ne 5)), (51, 1, some (.iconst 0)), (52, 1, some (.ireturn))] _ 0 rfl (by decide +kernel)
theorem dX4_both_0 : decode cX4_both 0 = .ok (.aload_n 0, 1) := dq_g83.1
theorem dX4_both_1 : decode cX4_both 1 = .ok (.iload_n 1, 1) := dq_g83.2.1
theorem dX4_both_2 : decode cX4_both 2 = .ok (.invokevirtual 135, 3) := dq_g83.2.2.1
theorem dX4_both_5 : decode cX4_both 5 = .ok (.ifCond .ne 5, 3) := dq_g83.2.2.2.1
theorem dX4_both_8 : decode cX4_both 8 = .ok (.iconst 0, 1) := dq_g83.2.2.2.2.1
theorem dX4_both_9 : decode cX4_both 9 = .ok (.ireturn, 1) := dq_g83.2.2.2.2.2.1
theorem dX4_both_10 : decode cX4_both 10 = .ok (.iconst 0, 1) := dq_g83.2.2.2.2.2.2.1
theorem dX4_both_11 : decode cX4_both 11 = .ok (.istore_n 2, 1) := dq_g83.2.2.2.2.2.2.2.1
theorem dX4_both_12 : decode cX4_both 12 = .ok (.iload_n 2, 1) := dq_g83.2.2.2.2.2.2.2.2.1
theorem dX4_both_13 : decode cX4_both 13 = .ok (.sipush 500, 3) := dq_g83.2.2.2.2.2.2.2.2.2.1
theorem dX4_both_16 : decode cX4_both 16 = .ok (.if_icmp .ge 53, 3) := dq_g83.2.2.2.2.2.2.2.2.2.2.1
theorem dX4_both_19 : decode cX4_both 19 = .ok (.aload_n 0, 1) := dq_g83.2.2.2.2.2.2.2.2.2.2.2.1
theorem dX4_both_20 : decode cX4_both 20 = .ok (.getfield 18, 3) := dq_g83.2.2.2.2.2.2.2.2.2.2.2.2.1
theorem dX4_both_23 : decode cX4_both 23 = .ok (.aload_n 0, 1) := dq_g83.2.2.2.2.2.2.2.2.2.2.2.2.2.1
theorem dX4_both_24 : decode cX4_both 24 = .ok (.getfield 42, 3) := dq_g83.2.2.2.2.2.2.2.2.2.2.2.2.2.2.1
theorem dX4_both_27 : decode cX4_both 27 = .ok (.iaload, 1) := dq_g83.2.2.2.2.2.2.2.2.2.2.2.2.2.2.2.1
theorem dX4_both_28 : decode cX4_both 28 = .ok (.bipush 9, 2) := dq_g83.2.2.2.2.2.2.2.2.2.2.2.2.2.2.2.2.1
theorem dX4_both_30 : decode cX4_both 30 = .ok (.if_icmp .ne 39, 3) := dq_g83.2.2.2.2.2.2.2.2.2.2.2.2.2.2.2.2.2.1
theorem dX4_both_33 : decode cX4_both 33 = .ok (.aload_n 0, 1) := dq_g83.2.2.2.2.2.2.2.2.2.2.2.2.2.2.2.2.2.2.1
theorem dX4_both_34 : decode cX4_both 34 = .ok (.dup, 1) := dq_g83.2.2.2.2.2.2.2.2.2.2.2.2.2.2.2.2.2.2.2.1
theorem dX4_both_35 : decode cX4_both 35 = .ok (.getfield 42, 3) := dq_g83.2.2.2.2.2.2.2.2.2.2.2.2.2.2.2.2.2.2.2.2.1
theorem dX4_both_38 : decode cX4_both 38 = .ok (.iconst 1, 1) := dq_g83.2.2.2.2.2.2.2.2.2.2.2.2.2.2.2.2.2.2.2.2.2.1
theorem dX4_both_39 : decode cX4_both 39 = .ok (.iadd, 1) := dq_g83.2.2.2.2.2.2.2.2.2.2.2.2.2.2.2.2.2.2.2.2.2.2.1
theorem dX4_both_40 : decode cX4_both 40 = .ok (.putfield 42, 3) := dq_g83.2.2.2.2.2.2.2.2.2.2.2.2.2.2.2.2.2.2.2.2.2.2.2.1
theorem dX4_both_43 : decode cX4_both 43 = .ok (.aload_n 0, 1) := dq_g83.2.2.2.2.2.2.2.2.2.2.2.2.2.2.2.2.2.2.2.2.2.2.2.2.1
theorem dX4_both_44 : decode cX4_both 44 = .ok (.iload_n 1, 1) := dq_g83.2.2.2.2.2.2.2.2.2.2.2.2.2.2.2.2.2.2.2.2.2.2.2.2.2.1
theorem dX4_both_45 : decode cX4_both 45 = .ok (.invokevirtual 135, 3) := dq_g83.2.2.2.2.2.2.2.2.2.2.2.2.2.2.2.2.2.2.2.2.2.2.2.2.2.2.1
theorem dX4_both_48 : decode cX4_both 48 = .ok (.ifCond .ne 5, 3) := dq_g83.2.2.2.2.2.2.2.2.2.2.2.2.2.2.2.2.2.2.2.2.2.2.2.2.2.2.2.1
theorem dX4_both_51 : decode cX4_both 51 = .ok (.iconst 0, 1) := dq_g83.2.2.2.2.2.2.2.2.2.2.2.2.2.2.2.2.2.2.2.2.2.2.2.2.2.2.2.2.1
theorem dX4_both_52 : decode cX4_both 52 = .ok (.ireturn, 1) := dq_g83.2.2.2.2.2.2.2.2.2.2.2.2.2.2.2.2.2.2.2.2.2.2.2.2.2.2.2.2.2.1
