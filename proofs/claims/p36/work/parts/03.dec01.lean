theorem dq_g84 : decode cX4_both 53 = .ok (.aload_n 0, 1) ∧ decode cX4_both 54 = .ok (.getfield 12, 3) ∧ decode cX4_both 57 = .ok (.bipush 9, 2) ∧ decode cX4_both 59 = .ok (.iconst 0, 1) ∧ decode cX4_both 60 = .ok (.invokevirtual 131, 3) ∧ decode cX4_both 63 = .ok (.iinc 2 1, 3) ∧ decode cX4_both 66 = .ok (.goto (-54), 3) ∧ decode cX4_both 69 = .ok (.iconst 1, 1) ∧ decode cX4_both 70 = .ok (.ireturn, 1) ∧ True := dqC_ok (c := cX4_both) [(53, 1, some (.aload_n 0)), (54, 3, some (.getfield 12)), (57, 2, some (.bipush 9)), (59, 1, some (.iconst 0)), (60, 3, some (.invokevirtual 131)), (63, 3, some (.iinc 2 1)), (66, 3, some (.goto (-54))), (69, 1, some (.iconst 1)), (70, 1, some (.ireturn))] _ 53 rfl (by decide +kernel)
theorem dX4_both_53 : decode cX4_both 53 = .ok (.aload_n 0, 1) := dq_g84.1
theorem dX4_both_54 : decode cX4_both 54 = .ok (.getfield 12, 3) := dq_g84.2.1
theorem dX4_both_57 : decode cX4_both 57 = .ok (.bipush 9, 2) := dq_g84.2.2.1
theorem dX4_both_59 : decode cX4_both 59 = .ok (.iconst 0, 1) := dq_g84.2.2.2.1
theorem dX4_both_60 : decode cX4_both 60 = .ok (.invokevirtual 131, 3) := dq_g84.2.2.2.2.1
theorem dX4_both_63 : decode cX4_both 63 = .ok (.iinc 2 1, 3) := dq_g84.2.2.2.2.2.1
theorem dX4_both_66 : decode cX4_both 66 = .ok (.goto (-54), 3) := dq_g84.2.2.2.2.2.2.1
theorem dX4_both_69 : decode cX4_both 69 = .ok (.iconst 1, 1) := dq_g84.2.2.2.2.2.2.2.1
theorem dX4_both_70 : decode cX4_both 70 = .ok (.ireturn, 1) := dq_g84.2.2.2.2.2.2.2.2.1
theorem dq_g85 : decode cX4_part 0 = .ok (.aload_n 0, 1) ∧ decode cX4_part 1 = .ok (.getfield 18, 3) ∧ decode cX4_part 4 = .ok (.aload_n 0, 1) ∧ decode cX4_part 5 = .ok (.getfield 42, 3) ∧ decode cX4_part 8 = .ok (.iaload, 1) ∧ decode cX4_part 9 = .ok (.istore_n 2, 1) ∧ decode cX4_part 10 = .ok (.iload_n 2, 1) ∧ decode cX4_part 11 = .ok (.bipush 10, 2) ∧ decode cX4_part 13 = .ok (.if_icmp .eq 9, 3) ∧ decode cX4_part 16 = .ok (.iload_n 2, 1) ∧ decode cX4_part 17 = .ok (.bipush 40, 2) ∧ decode cX4_part 19 = .ok (.if_icmp .ne 26, 3) ∧ decode cX4_part 22 = .ok (.iload_n 1, 1) ∧ decode cX4_part 23 = .ok (.bipush 8, 2) ∧ decode cX4_part 25 = .ok (.if_icmp .ge 14, 3) ∧ decode cX4_part 28 = .ok (.aload_n 0, 1) ∧ decode cX4_part 29 = .ok (.iload_n 2, 1) ∧ decode cX4_part 30 = .ok (.iload_n 1, 1) ∧ decode cX4_part 31 = .ok (.iconst 1, 1) ∧ decode cX4_part 32 = .ok (.iadd, 1) ∧ decode cX4_part 33 = .ok (.invokevirtual 138, 3) ∧ decode cX4_part 36 = .ok (.goto 8, 3) ∧ decode cX4_part 39 = .ok (.aload_n 0, 1) ∧ decode cX4_part 40 = .ok (.iconst 3, 1) ∧ decode cX4_part 41 = .ok (.invokevirtual 81, 3) ∧ decode cX4_part 44 = .ok (.ireturn, 1) ∧ decode cX4_part 45 = .ok (.aload_n 0, 1) ∧ decode cX4_part 46 = .ok (.invokevirtual 103, 3) ∧ decode cX4_part 49 = .ok (.ifCond .ne 5, 3) ∧ decode cX4_part 52 = .ok (.iconst 0, 1) ∧ True := dqC_ok (c := cX4_part) [(0, 1, some (.aload_n 0)), (1, 3, some (.getfield 18)), (4, 1, some (.aload_n 0)), (5, 3, some (.getfield 42)), (8, 1, some (.iaload)), (9, 1, some (.istore_n 2)), (10, 1, some (.iload_n 2)), (11, 2, some (.bipush 10)), (13, 3, some (.if_icmp .eq 9)), (16, 1, some (.iload_n 2)), (17, 2, some (.bipush 40)), (19, 3, some (.if_icmp .ne 26)), (22, 1, some (.iload_n 1)), (23, 2, some (.bipush 8)), (25, 3, some (.if_icmp .ge 14)), (28, 1, some (.aload_n 0)), (29, 1, some (.iload_n 2)), (30, 1, some (.iload_n 1)), (31, 1, some (.iconst 1)), (32, 1, some (.iadd)), (33, 3, some (.invokevirtual 138)), (36, 3, some (.goto 8)), (39, 1, some (.aload_n 0)), (40, 1, some (.iconst 3)), (41, 3, some (.invokevirtual 81)), (44, 1, some (.ireturn)), (45, 1, some (.aload_n 0)), (46, 3, some (.invokevirtual 103)), (49, 3, some (.ifCond .ne 5)), (52, 1, some (.iconst 0))] _ 0 rfl (by decide +kernel)
theorem dX4_part_0 : decode cX4_part 0 = .ok (.aload_n 0, 1) := dq_g85.1
theorem dX4_part_1 : decode cX4_part 1 = .ok (.getfield 18, 3) := dq_g85.2.1
theorem dX4_part_4 : decode cX4_part 4 = .ok (.aload_n 0, 1) := dq_g85.2.2.1
theorem dX4_part_5 : decode cX4_part 5 = .ok (.getfield 42, 3) := dq_g85.2.2.2.1
theorem dX4_part_8 : decode cX4_part 8 = .ok (.iaload, 1) := dq_g85.2.2.2.2.1
theorem dX4_part_9 : decode cX4_part 9 = .ok (.istore_n 2, 1) := dq_g85.2.2.2.2.2.1
theorem dX4_part_10 : decode cX4_part 10 = .ok (.iload_n 2, 1) := dq_g85.2.2.2.2.2.2.1
theorem dX4_part_11 : decode cX4_part 11 = .ok (.bipush 10, 2) := dq_g85.2.2.2.2.2.2.2.1
theorem dX4_part_13 : decode cX4_part 13 = .ok (.if_icmp .eq 9, 3) := dq_g85.2.2.2.2.2.2.2.2.1
theorem dX4_part_16 : decode cX4_part 16 = .ok (.iload_n 2, 1) := dq_g85.2.2.2.2.2.2.2.2.2.1
theorem dX4_part_17 : decode cX4_part 17 = .ok (.bipush 40, 2) := dq_g85.2.2.2.2.2.2.2.2.2.2.1
theorem dX4_part_19 : decode cX4_part 19 = .ok (.if_icmp .ne 26, 3) := dq_g85.2.2.2.2.2.2.2.2.2.2.2.1
theorem dX4_part_22 : decode cX4_part 22 = .ok (.iload_n 1, 1) := dq_g85.2.2.2.2.2.2.2.2.2.2.2.2.1
theorem dX4_part_23 : decode cX4_part 23 = .ok (.bipush 8, 2) := dq_g85.2.2.2.2.2.2.2.2.2.2.2.2.2.1
theorem dX4_part_25 : decode cX4_part 25 = .ok (.if_icmp .ge 14, 3) := dq_g85.2.2.2.2.2.2.2.2.2.2.2.2.2.2.1
theorem dX4_part_28 : decode cX4_part 28 = .ok (.aload_n 0, 1) := dq_g85.2.2.2.2.2.2.2.2.2.2.2.2.2.2.2.1
theorem dX4_part_29 : decode cX4_part 29 = .ok (.iload_n 2, 1) := dq_g85.2.2.2.2.2.2.2.2.2.2.2.2.2.2.2.2.1
theorem dX4_part_30 : decode cX4_part 30 = .ok (.iload_n 1, 1) := dq_g85.2.2.2.2.2.2.2.2.2.2.2.2.2.2.2.2.2.1
theorem dX4_part_31 : decode cX4_part 31 = .ok (.iconst 1, 1) := dq_g85.2.2.2.2.2.2.2.2.2.2.2.2.2.2.2.2.2.2.1
theorem dX4_part_32 : decode cX4_part 32 = .ok (.iadd, 1) := dq_g85.2.2.2.2.2.2.2.2.2.2.2.2.2.2.2.2.2.2.2.1
theorem dX4_part_33 : decode cX4_part 33 = .ok (.invokevirtual 138, 3) := dq_g85.2.2.2.2.2.2.2.2.2.2.2.2.2.2.2.2.2.2.2.2.1
theorem dX4_part_36 : decode cX4_part 36 = .ok (.goto 8, 3) := dq_g85.2.2.2.2.2.2.2.2.2.2.2.2.2.2.2.2.2.2.2.2.2.1
theorem dX4_part_39 : decode cX4_part 39 = .ok (.aload_n 0, 1) := dq_g85.2.2.2.2.2.2.2.2.2.2.2.2.2.2.2.2.2.2.2.2.2.2.1
theorem dX4_part_40 : decode cX4_part 40 = .ok (.iconst 3, 1) := dq_g85.2.2.2.2.2.2.2.2.2.2.2.2.2.2.2.2.2.2.2.2.2.2.2.1
theorem dX4_part_41 : decode cX4_part 41 = .ok (.invokevirtual 81, 3) := dq_g85.2.2.2.2.2.2.2.2.2.2.2.2.2.2.2.2.2.2.2.2.2.2.2.2.1
theorem dX4_part_44 : decode cX4_part 44 = .ok (.ireturn, 1) := dq_g85.2.2.2.2.2.2.2.2.2.2.2.2.2.2.2.2.2.2.2.2.2.2.2.2.2.1
theorem dX4_part_45 : decode cX4_part 45 = .ok (.aload_n 0, 1) := dq_g85.2.2.2.2.2.2.2.2.2.2.2.2.2.2.2.2.2.2.2.2.2.2.2.2.2.2.1
theorem dX4_part_46 : decode cX4_part 46 = .ok (.invokevirtual 103, 3) := dq_g85.2.2.2.2.2.2.2.2.2.2.2.2.2.2.2.2.2.2.2.2.2.2.2.2.2.2.2.1
theorem dX4_part_49 : decode cX4_part 49 = .ok (.ifCond .ne 5, 3) := dq_g85.2.2.2.2.2.2.2.2.2.2.2.2.2.2.2.2.2.2.2.2.2.2.2.2.2.2.2.2.1
theorem dX4_part_52 : decode cX4_part 52 = .ok (.iconst 0, 1) := dq_g85.2.2.2.2.2.2.2.2.2.2.2.2.2.2.2.2.2.2.2.2.2.2.2.2.2.2.2.2.2.1
theorem dq_g86 : decode cX4_part 53 = .ok (.ireturn, 1) ∧ decode cX4_part 54 = .ok (.aload_n 0, 1) ∧ decode cX4_part 55 = .ok (.getfield 18, 3) ∧ decode cX4_part 58 = .ok (.aload_n 0, 1) ∧ decode cX4_part 59 = .ok (.getfield 42, 3) ∧ decode cX4_part 62 = .ok (.iaload, 1) ∧ decode cX4_part 63 = .ok (.istore_n 3, 1) ∧ decode cX4_part 64 = .ok (.iload_n 3, 1) ∧ decode cX4_part 65 = .ok (.bipush 60, 2) ∧ decode cX4_part 67 = .ok (.if_icmp .eq 21, 3) ∧ decode cX4_part 70 = .ok (.iload_n 3, 1) ∧ decode cX4_part 71 = .ok (.bipush 61, 2) ∧ decode cX4_part 73 = .ok (.if_icmp .eq 15, 3) ∧ decode cX4_part 76 = .ok (.iload_n 3, 1) ∧ decode cX4_part 77 = .ok (.bipush 62, 2) ∧ decode cX4_part 79 = .ok (.if_icmp .eq 9, 3) ∧ decode cX4_part 82 = .ok (.aload_n 0, 1) ∧ decode cX4_part 83 = .ok (.iconst 1, 1) ∧ decode cX4_part 84 = .ok (.invokevirtual 81, 3) ∧ decode cX4_part 87 = .ok (.ireturn, 1) ∧ decode cX4_part 88 = .ok (.aload_n 0, 1) ∧ decode cX4_part 89 = .ok (.dup, 1) ∧ decode cX4_part 90 = .ok (.getfield 42, 3) ∧ decode cX4_part 93 = .ok (.iconst 1, 1) ∧ decode cX4_part 94 = .ok (.iadd, 1) ∧ decode cX4_part 95 = .ok (.putfield 42, 3) ∧ decode cX4_part 98 = .ok (.aload_n 0, 1) ∧ decode cX4_part 99 = .ok (.invokevirtual 103, 3) ∧ decode cX4_part 102 = .ok (.ifCond .ne 5, 3) ∧ decode cX4_part 105 = .ok (.iconst 0, 1) ∧ True := dqC_ok (c := cX4_part) [(53, 1, some (.ireturn)), (54, 1, some (.aload_n 0)), (55, 3, some (.getfield 18)), (58, 1, some (.aload_n 0)), (59, 3, some (.getfield 42)), (62, 1, some (.iaload)), (63, 1, some (.istore_n 3)), (64, 1, some (.iload_n 3)), (65, 2, some (.bipush 60)), (67, 3, some (.if_icmp .eq 21)), (70, 1, some (.iload_n 3)), (71, 2, some (.bipush 61)), (73, 3, some (.if_icmp .eq 15)), (76, 1, some (.iload_n 3)), (77, 2, some (.bipush 62)), (79, 3, some (.if_icmp .eq 9)), (82, 1, some (.aload_n 0)), (83, 1, some (.iconst 1)), (84, 3, some (.invokevirtual 81)), (87, 1, some (.ireturn)), (88, 1, some (.aload_n 0)), (89, 1, some (.dup)), (90, 3, some (.getfield 42)), (93, 1, some (.iconst 1)), (94, 1, some (.iadd)), (95, 3, some (.putfield 42)), (98, 1, some (.aload_n 0)), (99, 3, some (.invokevirtual 103)), (102, 3, some (.ifCond .ne 5)), (105, 1, some (.iconst 0))] _ 53 rfl (by decide +kernel)
theorem dX4_part_53 : decode cX4_part 53 = .ok (.ireturn, 1) := dq_g86.1
theorem dX4_part_54 : decode cX4_part 54 = .ok (.aload_n 0, 1) := dq_g86.2.1
theorem dX4_part_55 : decode cX4_part 55 = .ok (.getfield 18, 3) := dq_g86.2.2.1
theorem dX4_part_58 : decode cX4_part 58 = .ok (.aload_n 0, 1) := dq_g86.2.2.2.1
theorem dX4_part_59 : decode cX4_part 59 = .ok (.getfield 42, 3) := dq_g86.2.2.2.2.1
theorem dX4_part_62 : decode cX4_part 62 = .ok (.iaload, 1) := dq_g86.2.2.2.2.2.1
theorem dX4_part_63 : decode cX4_part 63 = .ok (.istore_n 3, 1) := dq_g86.2.2.2.2.2.2.1
theorem dX4_part_64 : decode cX4_part 64 = .ok (.iload_n 3, 1) := dq_g86.2.2.2.2.2.2.2.1
theorem dX4_part_65 : decode cX4_part 65 = .ok (.bipush 60, 2) := dq_g86.2.2.2.2.2.2.2.2.1
theorem dX4_part_67 : decode cX4_part 67 = .ok (.if_icmp .eq 21, 3) := dq_g86.2.2.2.2.2.2.2.2.2.1
theorem dX4_part_70 : decode cX4_part 70 = .ok (.iload_n 3, 1) := dq_g86.2.2.2.2.2.2.2.2.2.2.1
theorem dX4_part_71 : decode cX4_part 71 = .ok (.bipush 61, 2) := dq_g86.2.2.2.2.2.2.2.2.2.2.2.1
theorem dX4_part_73 : decode cX4_part 73 = .ok (.if_icmp .eq 15, 3) := dq_g86.2.2.2.2.2.2.2.2.2.2.2.2.1
theorem dX4_part_76 : decode cX4_part 76 = .ok (.iload_n 3, 1) := dq_g86.2.2.2.2.2.2.2.2.2.2.2.2.2.1
theorem dX4_part_77 : decode cX4_part 77 = .ok (.bipush 62, 2) := dq_g86.2.2.2.2.2.2.2.2.2.2.2.2.2.2.1
theorem dX4_part_79 : decode cX4_part 79 = .ok (.if_icmp .eq 9, 3) := dq_g86.2.2.2.2.2.2.2.2.2.2.2.2.2.2.2.1
theorem dX4_part_82 : decode cX4_part 82 = .ok (.aload_n 0, 1) := dq_g86.2.2.2.2.2.2.2.2.2.2.2.2.2.2.2.2.1
theorem dX4_part_83 : decode cX4_part 83 = .ok (.iconst 1, 1) := dq_g86.2.2.2.2.2.2.2.2.2.2.2.2.2.2.2.2.2.1
theorem dX4_part_84 : decode cX4_part 84 = .ok (.invokevirtual 81, 3) := dq_g86.2.2.2.2.2.2.2.2.2.2.2.2.2.2.2.2.2.2.1
theorem dX4_part_87 : decode cX4_part 87 = .ok (.ireturn, 1) := dq_g86.2.2.2.2.2.2.2.2.2.2.2.2.2.2.2.2.2.2.2.1
theorem dX4_part_88 : decode cX4_part 88 = .ok (.aload_n 0, 1) := dq_g86.2.2.2.2.2.2.2.2.2.2.2.2.2.2.2.2.2.2.2.2.1
theorem dX4_part_89 : decode cX4_part 89 = .ok (.dup, 1) := dq_g86.2.2.2.2.2.2.2.2.2.2.2.2.2.2.2.2.2.2.2.2.2.1
theorem dX4_part_90 : decode cX4_part 90 = .ok (.getfield 42, 3) := dq_g86.2.2.2.2.2.2.2.2.2.2.2.2.2.2.2.2.2.2.2.2.2.2.1
theorem dX4_part_93 : decode cX4_part 93 = .ok (.iconst 1, 1) := dq_g86.2.2.2.2.2.2.2.2.2.2.2.2.2.2.2.2.2.2.2.2.2.2.2.1
theorem dX4_part_94 : decode cX4_part 94 = .ok (.iadd, 1) := dq_g86.2.2.2.2.2.2.2.2.2.2.2.2.2.2.2.2.2.2.2.2.2.2.2.2.1
theorem dX4_part_95 : decode cX4_part 95 = .ok (.putfield 42, 3) := dq_g86.2.2.2.2.2.2.2.2.2.2.2.2.2.2.2.2.2.2.2.2.2.2.2.2.2.1
theorem dX4_part_98 : decode cX4_part 98 = .ok (.aload_n 0, 1) := dq_g86.2.2.2.2.2.2.2.2.2.2.2.2.2.2.2.2.2.2.2.2.2.2.2.2.2.2.1
theorem dX4_part_99 : decode cX4_part 99 = .ok (.invokevirtual 103, 3) := dq_g86.2.2.2.2.2.2.2.2.2.2.2.2.2.2.2.2.2.2.2.2.2.2.2.2.2.2.2.1
theorem dX4_part_102 : decode cX4_part 102 = .ok (.ifCond .ne 5, 3) := dq_g86.2.2.2.2.2.2.2.2.2.2.2.2.2.2.2.2.2.2.2.2.2.2.2.2.2.2.2.2.1
theorem dX4_part_105 : decode cX4_part 105 = .ok (.iconst 0, 1) := dq_g86.2.2.2.2.2.2.2.2.2.2.2.2.2.2.2.2.2.2.2.2.2.2.2.2.2.2.2.2.2.1
theorem dq_g87 : decode cX4_part 106 = .ok (.ireturn, 1) ∧ decode cX4_part 107 = .ok (.aload_n 0, 1) ∧ decode cX4_part 108 = .ok (.getfield 12, 3) ∧ decode cX4_part 111 = .ok (.iload_n 3, 1) ∧ decode cX4_part 112 = .ok (.iconst 0, 1) ∧ decode cX4_part 113 = .ok (.invokevirtual 131, 3) ∧ decode cX4_part 116 = .ok (.iconst 1, 1) ∧ decode cX4_part 117 = .ok (.ireturn, 1) ∧ True := dqC_ok (c := cX4_part) [(106, 1, some (.ireturn)), (107, 1, some (.aload_n 0)), (108, 3, some (.getfield 12)), (111, 1, some (.iload_n 3)), (112, 1, some (.iconst 0)), (113, 3, some (.invokevirtual 131)), (116, 1, some (.iconst 1)), (117, 1, some (.ireturn))] _ 106 rfl (by decide +kernel)
theorem dX4_part_106 : decode cX4_part 106 = .ok (.ireturn, 1) := dq_g87.1
theorem dX4_part_107 : decode cX4_part 107 = .ok (.aload_n 0, 1) := dq_g87.2.1
theorem dX4_part_108 : decode cX4_part 108 = .ok (.getfield 12, 3) := dq_g87.2.2.1
theorem dX4_part_111 : decode cX4_part 111 = .ok (.iload_n 3, 1) := dq_g87.2.2.2.1
theorem dX4_part_112 : decode cX4_part 112 = .ok (.iconst 0, 1) := dq_g87.2.2.2.2.1
theorem dX4_part_113 : decode cX4_part 113 = .ok (.invokevirtual 131, 3) := dq_g87.2.2.2.2.2.1
theorem dX4_part_116 : decode cX4_part 116 = .ok (.iconst 1, 1) := dq_g87.2.2.2.2.2.2.1
theorem dX4_part_117 : decode cX4_part 117 = .ok (.ireturn, 1) := dq_g87.2.2.2.2.2.2.2.1
theorem dq_g88 : decode cX4_opened 0 = .ok (.aload_n 0, 1) ∧ decode cX4_opened 1 = .ok (.dup, 1) ∧ decode cX4_opened 2 = .ok (.getfield 42, 3) ∧ decode cX4_opened 5 = .ok (.iconst 1, 1) ∧ decode cX4_opened 6 = .ok (.iadd, 1) ∧ decode cX4_opened 7 = .ok (.putfield 42, 3) ∧ decode cX4_opened 10 = .ok (.iload_n 1, 1) ∧ decode cX4_opened 11 = .ok (.bipush 10, 2) ∧ decode cX4_opened 13 = .ok (.if_icmp .ne 25, 3) ∧ decode cX4_opened 16 = .ok (.aload_n 0, 1) ∧ decode cX4_opened 17 = .ok (.iload_n 2, 1) ∧ decode cX4_opened 18 = .ok (.invokevirtual 135, 3) ∧ decode cX4_opened 21 = .ok (.ifCond .ne 5, 3) ∧ decode cX4_opened 24 = .ok (.iconst 0, 1) ∧ decode cX4_opened 25 = .ok (.ireturn, 1) ∧ decode cX4_opened 26 = .ok (.aload_n 0, 1) ∧ decode cX4_opened 27 = .ok (.getfield 12, 3) ∧ decode cX4_opened 30 = .ok (.bipush 10, 2) ∧ decode cX4_opened 32 = .ok (.iconst 0, 1) ∧ decode cX4_opened 33 = .ok (.invokevirtual 131, 3) ∧ decode cX4_opened 36 = .ok (.iconst 1, 1) ∧ decode cX4_opened 37 = .ok (.ireturn, 1) ∧ decode cX4_opened 38 = .ok (.aload_n 0, 1) ∧ decode cX4_opened 39 = .ok (.iload_n 2, 1) ∧ decode cX4_opened 40 = .ok (.invokevirtual 113, 3) ∧ decode cX4_opened 43 = .ok (.ifCond .ne 5, 3) ∧ decode cX4_opened 46 = .ok (.iconst 0, 1) ∧ decode cX4_opened 47 = .ok (.ireturn, 1) ∧ decode cX4_opened 48 = .ok (.aload_n 0, 1) ∧ decode cX4_opened 49 = .ok (.getfield 18, 3) ∧ True := dqC_ok (c := cX4_opened) [(0, 1, some (.aload_n 0)), (1, 1, some (.dup)), (2, 3, some (.getfield 42)), (5, 1, some (.iconst 1)), (6, 1, some (.iadd)), (7, 3, some (.putfield 42)), (10, 1, some (.iload_n 1)), (11, 2, some (.bipush 10)), (13, 3, some (.if_icmp .ne 25)), (16, 1, some (.aload_n 0)), (17, 1, some (.iload_n 2)), (18, 3, some (.invokevirtual 135)), (21, 3, some (.ifCond .ne 5)), (24, 1, some (.iconst 0)), (25, 1, some (.ireturn)), (26, 1, some (.aload_n 0)), (27, 3, some (.getfield 12)), (30, 2, some (.bipush 10)), (32, 1, some (.iconst 0)), (33, 3, some (.invokevirtual 131)), (36, 1, some (.iconst 1)), (37, 1, some (.ireturn)), (38, 1, some (.aload_n 0)), (39, 1, some (.iload_n 2)), (40, 3, some (.invokevirtual 113)), (43, 3, some (.ifCond .ne 5)), (46, 1, some (.iconst 0)), (47, 1, some (.ireturn)), (48, 1, some (.aload_n 0)), (49, 3, some (.getfield 18))] _ 0 rfl (by decide +kernel)
theorem dX4_opened_0 : decode cX4_opened 0 = .ok (.aload_n 0, 1) := dq_g88.1
theorem dX4_opened_1 : decode cX4_opened 1 = .ok (.dup, 1) := dq_g88.2.1
theorem dX4_opened_2 : decode cX4_opened 2 = .ok (.getfield 42, 3) := dq_g88.2.2.1
theorem dX4_opened_5 : decode cX4_opened 5 = .ok (.iconst 1, 1) := dq_g88.2.2.2.1
theorem dX4_opened_6 : decode cX4_opened 6 = .ok (.iadd, 1) := dq_g88.2.2.2.2.1
theorem dX4_opened_7 : decode cX4_opened 7 = .ok (.putfield 42, 3) := dq_g88.2.2.2.2.2.1
theorem dX4_opened_10 : decode cX4_opened 10 = .ok (.iload_n 1, 1) := dq_g88.2.2.2.2.2.2.1
theorem dX4_opened_11 : decode cX4_opened 11 = .ok (.bipush 10, 2) := dq_g88.2.2.2.2.2.2.2.1
theorem dX4_opened_13 : decode cX4_opened 13 = .ok (.if_icmp .ne 25, 3) := dq_g88.2.2.2.2.2.2.2.2.1
theorem dX4_opened_16 : decode cX4_opened 16 = .ok (.aload_n 0, 1) := dq_g88.2.2.2.2.2.2.2.2.2.1
theorem dX4_opened_17 : decode cX4_opened 17 = .ok (.iload_n 2, 1) := dq_g88.2.2.2.2.2.2.2.2.2.2.1
theorem dX4_opened_18 : decode cX4_opened 18 = .ok (.invokevirtual 135, 3) := dq_g88.2.2.2.2.2.2.2.2.2.2.2.1
theorem dX4_opened_21 : decode cX4_opened 21 = .ok (.ifCond .ne 5, 3) := dq_g88.2.2.2.2.2.2.2.2.2.2.2.2.1
theorem dX4_opened_24 : decode cX4_opened 24 = .ok (.iconst 0, 1) := dq_g88.2.2.2.2.2.2.2.2.2.2.2.2.2.1
theorem dX4_opened_25 : decode cX4_opened 25 = .ok (.ireturn, 1) := dq_g88.2.2.2.2.2.2.2.2.2.2.2.2.2.2.1
theorem dX4_opened_26 : decode cX4_opened 26 = .ok (.aload_n 0, 1) := dq_g88.2.2.2.2.2.2.2.2.2.2.2.2.2.2.2.1
theorem dX4_opened_27 : decode cX4_opened 27 = .ok (.getfield 12, 3) := dq_g88.2.2.2.2.2.2.2.2.2.2.2.2.2.2.2.2.1
theorem dX4_opened_30 : decode cX4_opened 30 = .ok (.bipush 10, 2) := dq_g88.2.2.2.2.2.2.2.2.2.2.2.2.2.2.2.2.2.1
theorem dX4_opened_32 : decode cX4_opened 32 = .ok (.iconst 0, 1) := dq_g88.2.2.2.2.2.2.2.2.2.2.2.2.2.2.2.2.2.2.1
theorem dX4_opened_33 : decode cX4_opened 33 = .ok (.invokevirtual 131, 3) := dq_g88.2.2.2.2.2.2.2.2.2.2.2.2.2.2.2.2.2.2.2.1
theorem dX4_opened_36 : decode cX4_opened 36 = .ok (.iconst 1, 1) := dq_g88.2.2.2.2.2.2.2.2.2.2.2.2.2.2.2.2.2.2.2.2.1
theorem dX4_opened_37 : decode cX4_opened 37 = .ok (.ireturn, 1) := dq_g88.2.2.2.2.2.2.2.2.2.2.2.2.2.2.2.2.2.2.2.2.2.1
theorem dX4_opened_38 : decode cX4_opened 38 = .ok (.aload_n 0, 1) := dq_g88.2.2.2.2.2.2.2.2.2.2.2.2.2.2.2.2.2.2.2.2.2.2.1
theorem dX4_opened_39 : decode cX4_opened 39 = .ok (.iload_n 2, 1) := dq_g88.2.2.2.2.2.2.2.2.2.2.2.2.2.2.2.2.2.2.2.2.2.2.2.1
theorem dX4_opened_40 : decode cX4_opened 40 = .ok (.invokevirtual 113, 3) := dq_g88.2.2.2.2.2.2.2.2.2.2.2.2.2.2.2.2.2.2.2.2.2.2.2.2.1
theorem dX4_opened_43 : decode cX4_opened 43 = .ok (.ifCond .ne 5, 3) := dq_g88.2.2.2.2.2.2.2.2.2.2.2.2.2.2.2.2.2.2.2.2.2.2.2.2.2.1
theorem dX4_opened_46 : decode cX4_opened 46 = .ok (.iconst 0, 1) := dq_g88.2.2.2.2.2.2.2.2.2.2.2.2.2.2.2.2.2.2.2.2.2.2.2.2.2.2.1
theorem dX4_opened_47 : decode cX4_opened 47 = .ok (.ireturn, 1) := dq_g88.2.2.2.2.2.2.2.2.2.2.2.2.2.2.2.2.2.2.2.2.2.2.2.2.2.2.2.1
theorem dX4_opened_48 : decode cX4_opened 48 = .ok (.aload_n 0, 1) := dq_g88.2.2.2.2.2.2.2.2.2.2.2.2.2.2.2.2.2.2.2.2.2.2.2.2.2.2.2.2.1
theorem dX4_opened_49 : decode cX4_opened 49 = .ok (.getfield 18, 3) := dq_g88.2.2.2.2.2.2.2.2.2.2.2.2.2.2.2.2.2.2.2.2.2.2.2.2.2.2.2.2.2.1
theorem dq_g89 : decode cX4_opened 52 = .ok (.aload_n 0, 1) ∧ decode cX4_opened 53 = .ok (.getfield 42, 3) ∧ decode cX4_opened 56 = .ok (.iaload, 1) ∧ decode cX4_opened 57 = .ok (.bipush 41, 2) ∧ decode cX4_opened 59 = .ok (.if_icmp .eq 9, 3) ∧ decode cX4_opened 62 = .ok (.aload_n 0, 1) ∧ decode cX4_opened 63 = .ok (.iconst 1, 1) ∧ decode cX4_opened 64 = .ok (.invokevirtual 81, 3) ∧ decode cX4_opened 67 = .ok (.ireturn, 1) ∧ decode cX4_opened 68 = .ok (.aload_n 0, 1) ∧ decode cX4_opened 69 = .ok (.dup, 1) ∧ decode cX4_opened 70 = .ok (.getfield 42, 3) ∧ decode cX4_opened 73 = .ok (.iconst 1, 1) ∧ decode cX4_opened 74 = .ok (.iadd, 1) ∧ decode cX4_opened 75 = .ok (.putfield 42, 3) ∧ decode cX4_opened 78 = .ok (.iconst 1, 1) ∧ decode cX4_opened 79 = .ok (.ireturn, 1) ∧ True := dqC_ok (c := cX4_opened) [(52, 1, some (.aload_n 0)), (53, 3, some (.getfield 42)), (56, 1, some (.iaload)), (57, 2, some (.bipush 41)), (59, 3, some (.if_icmp .eq 9)), (62, 1, some (.aload_n 0)), (63, 1, some (.iconst 1)), (64, 3, some (.invokevirtual 81)), (67, 1, some (.ireturn)), (68, 1, some (.aload_n 0)), (69, 1, some (.dup)), (70, 3, some (.getfield 42)), (73, 1, some (.iconst 1)), (74, 1, some (.iadd)), (75, 3, some (.putfield 42)), (78, 1, some (.iconst 1)), (79, 1, some (.ireturn))] _ 52 rfl (by decide +kernel)
theorem dX4_opened_52 : decode cX4_opened 52 = .ok (.aload_n 0, 1) := dq_g89.1
theorem dX4_opened_53 : decode cX4_opened 53 = .ok (.getfield 42, 3) := dq_g89.2.1
theorem dX4_opened_56 : decode cX4_opened 56 = .ok (.iaload, 1) := dq_g89.2.2.1
theorem dX4_opened_57 : decode cX4_opened 57 = .ok (.bipush 41, 2) := dq_g89.2.2.2.1
theorem dX4_opened_59 : decode cX4_opened 59 = .ok (.if_icmp .eq 9, 3) := dq_g89.2.2.2.2.1
theorem dX4_opened_62 : decode cX4_opened 62 = .ok (.aload_n 0, 1) := dq_g89.2.2.2.2.2.1
theorem dX4_opened_63 : decode cX4_opened 63 = .ok (.iconst 1, 1) := dq_g89.2.2.2.2.2.2.1
theorem dX4_opened_64 : decode cX4_opened 64 = .ok (.invokevirtual 81, 3) := dq_g89.2.2.2.2.2.2.2.1
theorem dX4_opened_67 : decode cX4_opened 67 = .ok (.ireturn, 1) := dq_g89.2.2.2.2.2.2.2.2.1
theorem dX4_opened_68 : decode cX4_opened 68 = .ok (.aload_n 0, 1) := dq_g89.2.2.2.2.2.2.2.2.2.1
theorem dX4_opened_69 : decode cX4_opened 69 = .ok (.dup, 1) := dq_g89.2.2.2.2.2.2.2.2.2.2.1
theorem dX4_opened_70 : decode cX4_opened 70 = .ok (.getfield 42, 3) := dq_g89.2.2.2.2.2.2.2.2.2.2.2.1
theorem dX4_opened_73 : decode cX4_opened 73 = .ok (.iconst 1, 1) := dq_g89.2.2.2.2.2.2.2.2.2.2.2.2.1
theorem dX4_opened_74 : decode cX4_opened 74 = .ok (.iadd, 1) := dq_g89.2.2.2.2.2.2.2.2.2.2.2.2.2.1
theorem dX4_opened_75 : decode cX4_opened 75 = .ok (.putfield 42, 3) := dq_g89.2.2.2.2.2.2.2.2.2.2.2.2.2.2.1
theorem dX4_opened_78 : decode cX4_opened 78 = .ok (.iconst 1, 1) := dq_g89.2.2.2.2.2.2.2.2.2.2.2.2.2.2.2.1
theorem dX4_opened_79 : decode cX4_opened 79 = .ok (.ireturn, 1) := dq_g89.2.2.2.2.2.2.2.2.2.2.2.2.2.2.2.2.1
theorem dq_g90 : decode cX4_sum 0 = .ok (.iconst 0, 1) ∧ decode cX4_sum 1 = .ok (.istore_n 1, 1) ∧ decode cX4_sum 2 = .ok (.iconst 0, 1) ∧ decode cX4_sum 3 = .ok (.istore_n 2, 1) ∧ decode cX4_sum 4 = .ok (.iload_n 2, 1) ∧ decode cX4_sum 5 = .ok (.sipush 500, 3) ∧ decode cX4_sum 8 = .ok (.if_icmp .ge 65, 3) ∧ decode cX4_sum 11 = .ok (.aload_n 0, 1) ∧ decode cX4_sum 12 = .ok (.invokevirtual 141, 3) ∧ decode cX4_sum 15 = .ok (.ifCond .ne 5, 3) ∧ decode cX4_sum 18 = .ok (.iconst 0, 1) ∧ decode cX4_sum 19 = .ok (.ireturn, 1) ∧ decode cX4_sum 20 = .ok (.iload_n 1, 1) ∧ decode cX4_sum 21 = .ok (.ifCond .eq 12, 3) ∧ decode cX4_sum 24 = .ok (.aload_n 0, 1) ∧ decode cX4_sum 25 = .ok (.getfield 12, 3) ∧ decode cX4_sum 28 = .ok (.iload_n 1, 1) ∧ decode cX4_sum 29 = .ok (.iconst 0, 1) ∧ decode cX4_sum 30 = .ok (.invokevirtual 131, 3) ∧ decode cX4_sum 33 = .ok (.aload_n 0, 1) ∧ decode cX4_sum 34 = .ok (.getfield 18, 3) ∧ decode cX4_sum 37 = .ok (.aload_n 0, 1) ∧ decode cX4_sum 38 = .ok (.getfield 42, 3) ∧ decode cX4_sum 41 = .ok (.iaload, 1) ∧ decode cX4_sum 42 = .ok (.istore_n 1, 1) ∧ decode cX4_sum 43 = .ok (.iload_n 1, 1) ∧ decode cX4_sum 44 = .ok (.bipush 43, 2) ∧ decode cX4_sum 46 = .ok (.if_icmp .eq 11, 3) ∧ decode cX4_sum 49 = .ok (.iload_n 1, 1) ∧ decode cX4_sum 50 = .ok (.bipush 45, 2) ∧ True := dqC_ok (c := cX4_sum) [(0, 1, some (.iconst 0)), (1, 1, some (.istore_n 1)), (2, 1, some (.iconst 0)), (3, 1, some (.istore_n 2)), (4, 1, some (.iload_n 2)), (5, 3, some (.sipush 500)), (8, 3, some (.if_icmp .ge 65)), (11, 1, some (.aload_n 0)), (12, 3, some (.invokevirtual 141)), (15, 3, some (.ifCond .ne 5)), (18, 1, some (.iconst 0)), (19, 1, some (.ireturn)), (20, 1, some (.iload_n 1)), (21, 3, some (.ifCond .eq 12)), (24, 1, some (.aload_n 0)), (25, 3, some (.getfield 12)), (28, 1, some (.iload_n 1)), (29, 1, some (.iconst 0)), (30, 3, some (.invokevirtual 131)), (33, 1, some (.aload_n 0)), (34, 3, some (.getfield 18)), (37, 1, some (.aload_n 0)), (38, 3, some (.getfield 42)), (41, 1, some (.iaload)), (42, 1, some (.istore_n 1)), (43, 1, some (.iload_n 1)), (44, 2, some (.bipush 43)), (46, 3, some (.if_icmp .eq 11)), (49, 1, some (.iload_n 1)), (50, 2, some (.bipush 45))] _ 0 rfl (by decide +kernel)
theorem dX4_sum_0 : decode cX4_sum 0 = .ok (.iconst 0, 1) := dq_g90.1
theorem dX4_sum_1 : decode cX4_sum 1 = .ok (.istore_n 1, 1) := dq_g90.2.1
theorem dX4_sum_2 : decode cX4_sum 2 = .ok (.iconst 0, 1) := dq_g90.2.2.1
theorem dX4_sum_3 : decode cX4_sum 3 = .ok (.istore_n 2, 1) := dq_g90.2.2.2.1
theorem dX4_sum_4 : decode cX4_sum 4 = .ok (.iload_n 2, 1) := dq_g90.2.2.2.2.1
theorem dX4_sum_5 : decode cX4_sum 5 = .ok (.sipush 500, 3) := dq_g90.2.2.2.2.2.1
theorem dX4_sum_8 : decode cX4_sum 8 = .ok (.if_icmp .ge 65, 3) := dq_g90.2.2.2.2.2.2.1
theorem dX4_sum_11 : decode cX4_sum 11 = .ok (.aload_n 0, 1) := dq_g90.2.2.2.2.2.2.2.1
theorem dX4_sum_12 : decode cX4_sum 12 = .ok (.invokevirtual 141, 3) := dq_g90.2.2.2.2.2.2.2.2.1
theorem dX4_sum_15 : decode cX4_sum 15 = .ok (.ifCond .ne 5, 3) := dq_g90.2.2.2.2.2.2.2.2.2.1
theorem dX4_sum_18 : decode cX4_sum 18 = .ok (.iconst 0, 1) := dq_g90.2.2.2.2.2.2.2.2.2.2.1
theorem dX4_sum_19 : decode cX4_sum 19 = .ok (.ireturn, 1) := dq_g90.2.2.2.2.2.2.2.2.2.2.2.1
theorem dX4_sum_20 : decode cX4_sum 20 = .ok (.iload_n 1, 1) := dq_g90.2.2.2.2.2.2.2.2.2.2.2.2.1
theorem dX4_sum_21 : decode cX4_sum 21 = .ok (.ifCond .eq 12, 3) := dq_g90.2.2.2.2.2.2.2.2.2.2.2.2.2.1
theorem dX4_sum_24 : decode cX4_sum 24 = .ok (.aload_n 0, 1) := dq_g90.2.2.2.2.2.2.2.2.2.2.2.2.2.2.1
theorem dX4_sum_25 : decode cX4_sum 25 = .ok (.getfield 12, 3) := dq_g90.2.2.2.2.2.2.2.2.2.2.2.2.2.2.2.1
theorem dX4_sum_28 : decode cX4_sum 28 = .ok (.iload_n 1, 1) := dq_g90.2.2.2.2.2.2.2.2.2.2.2.2.2.2.2.2.1
theorem dX4_sum_29 : decode cX4_sum 29 = .ok (.iconst 0, 1) := dq_g90.2.2.2.2.2.2.2.2.2.2.2.2.2.2.2.2.2.1
theorem dX4_sum_30 : decode cX4_sum 30 = .ok (.invokevirtual 131, 3) := dq_g90.2.2.2.2.2.2.2.2.2.2.2.2.2.2.2.2.2.2.1
theorem dX4_sum_33 : decode cX4_sum 33 = .ok (.aload_n 0, 1) := dq_g90.2.2.2.2.2.2.2.2.2.2.2.2.2.2.2.2.2.2.2.1
theorem dX4_sum_34 : decode cX4_sum 34 = .ok (.getfield 18, 3) := dq_g90.2.2.2.2.2.2.2.2.2.2.2.2.2.2.2.2.2.2.2.2.1
theorem dX4_sum_37 : decode cX4_sum 37 = .ok (.aload_n 0, 1) := dq_g90.2.2.2.2.2.2.2.2.2.2.2.2.2.2.2.2.2.2.2.2.2.1
theorem dX4_sum_38 : decode cX4_sum 38 = .ok (.getfield 42, 3) := dq_g90.2.2.2.2.2.2.2.2.2.2.2.2.2.2.2.2.2.2.2.2.2.2.1
theorem dX4_sum_41 : decode cX4_sum 41 = .ok (.iaload, 1) := dq_g90.2.2.2.2.2.2.2.2.2.2.2.2.2.2.2.2.2.2.2.2.2.2.2.1
theorem dX4_sum_42 : decode cX4_sum 42 = .ok (.istore_n 1, 1) := dq_g90.2.2.2.2.2.2.2.2.2.2.2.2.2.2.2.2.2.2.2.2.2.2.2.2.1
theorem dX4_sum_43 : decode cX4_sum 43 = .ok (.iload_n 1, 1) := dq_g90.2.2.2.2.2.2.2.2.2.2.2.2.2.2.2.2.2.2.2.2.2.2.2.2.2.1
theorem dX4_sum_44 : decode cX4_sum 44 = .ok (.bipush 43, 2) := dq_g90.2.2.2.2.2.2.2.2.2.2.2.2.2.2.2.2.2.2.2.2.2.2.2.2.2.2.1
theorem dX4_sum_46 : decode cX4_sum 46 = .ok (.if_icmp .eq 11, 3) := dq_g90.2.2.2.2.2.2.2.2.2.2.2.2.2.2.2.2.2.2.2.2.2.2.2.2.2.2.2.1
theorem dX4_sum_49 : decode cX4_sum 49 = .ok (.iload_n 1, 1) := dq_g90.2.2.2.2.2.2.2.2.2.2.2.2.2.2.2.2.2.2.2.2.2.2.2.2.2.2.2.2.1
theorem dX4_sum_50 : decode cX4_sum 50 = .ok (.bipush 45, 2) := dq_g90.2.2.2.2.2.2.2.2.2.2.2.2.2.2.2.2.2.2.2.2.2.2.2.2.2.2.2.2.2.1
theorem dq_g91 : decode cX4_sum 52 = .ok (.if_icmp .eq 5, 3) ∧ decode cX4_sum 55 = .ok (.iconst 1, 1) ∧ decode cX4_sum 56 = .ok (.ireturn, 1) ∧ decode cX4_sum 57 = .ok (.aload_n 0, 1) ∧ decode cX4_sum 58 = .ok (.dup, 1) ∧ decode cX4_sum 59 = .ok (.getfield 42, 3) ∧ decode cX4_sum 62 = .ok (.iconst 1, 1) ∧ decode cX4_sum 63 = .ok (.iadd, 1) ∧ decode cX4_sum 64 = .ok (.putfield 42, 3) ∧ decode cX4_sum 67 = .ok (.iinc 2 1, 3) ∧ decode cX4_sum 70 = .ok (.goto (-66), 3) ∧ decode cX4_sum 73 = .ok (.iconst 1, 1) ∧ decode cX4_sum 74 = .ok (.ireturn, 1) ∧ True := dqC_ok (c := cX4_sum) [(52, 3, some (.if_icmp .eq 5)), (55, 1, some (.iconst 1)), (56, 1, some (.ireturn)), (57, 1, some (.aload_n 0)), (58, 1, some (.dup)), (59, 3, some (.getfield 42)), (62, 1, some (.iconst 1)), (63, 1, some (.iadd)), (64, 3, some (.putfield 42)), (67, 3, some (.iinc 2 1)), (70, 3, some (.goto (-66))), (73, 1, some (.iconst 1)), (74, 1, some (.ireturn))] _ 52 rfl (by decide +kernel)
theorem dX4_sum_52 : decode cX4_sum 52 = .ok (.if_icmp .eq 5, 3) := dq_g91.1
theorem dX4_sum_55 : decode cX4_sum 55 = .ok (.iconst 1, 1) := dq_g91.2.1
theorem dX4_sum_56 : decode cX4_sum 56 = .ok (.ireturn, 1) := dq_g91.2.2.1
theorem dX4_sum_57 : decode cX4_sum 57 = .ok (.aload_n 0, 1) := dq_g91.2.2.2.1
theorem dX4_sum_58 : decode cX4_sum 58 = .ok (.dup, 1) := dq_g91.2.2.2.2.1
theorem dX4_sum_59 : decode cX4_sum 59 = .ok (.getfield 42, 3) := dq_g91.2.2.2.2.2.1
theorem dX4_sum_62 : decode cX4_sum 62 = .ok (.iconst 1, 1) := dq_g91.2.2.2.2.2.2.1
theorem dX4_sum_63 : decode cX4_sum 63 = .ok (.iadd, 1) := dq_g91.2.2.2.2.2.2.2.1
theorem dX4_sum_64 : decode cX4_sum 64 = .ok (.putfield 42, 3) := dq_g91.2.2.2.2.2.2.2.2.1
theorem dX4_sum_67 : decode cX4_sum 67 = .ok (.iinc 2 1, 3) := dq_g91.2.2.2.2.2.2.2.2.2.1
theorem dX4_sum_70 : decode cX4_sum 70 = .ok (.goto (-66), 3) := dq_g91.2.2.2.2.2.2.2.2.2.2.1
theorem dX4_sum_73 : decode cX4_sum 73 = .ok (.iconst 1, 1) := dq_g91.2.2.2.2.2.2.2.2.2.2.2.1
theorem dX4_sum_74 : decode cX4_sum 74 = .ok (.ireturn, 1) := dq_g91.2.2.2.2.2.2.2.2.2.2.2.2.1
theorem dq_g92 : decode cX4_term 0 = .ok (.iconst 0, 1) ∧ decode cX4_term 1 = .ok (.istore_n 1, 1) ∧ decode cX4_term 2 = .ok (.iconst 0, 1) ∧ decode cX4_term 3 = .ok (.istore_n 2, 1) ∧ decode cX4_term 4 = .ok (.iload_n 2, 1) ∧ decode cX4_term 5 = .ok (.sipush 500, 3) ∧ decode cX4_term 8 = .ok (.if_icmp .ge 161, 3) ∧ decode cX4_term 11 = .ok (.aload_n 0, 1) ∧ decode cX4_term 12 = .ok (.getfield 18, 3) ∧ decode cX4_term 15 = .ok (.aload_n 0, 1) ∧ decode cX4_term 16 = .ok (.getfield 42, 3) ∧ decode cX4_term 19 = .ok (.iaload, 1) ∧ decode cX4_term 20 = .ok (.istore_n 3, 1) ∧ decode cX4_term 21 = .ok (.aload_n 0, 1) ∧ decode cX4_term 22 = .ok (.getfield 22, 3) ∧ decode cX4_term 25 = .ok (.aload_n 0, 1) ∧ decode cX4_term 26 = .ok (.getfield 42, 3) ∧ decode cX4_term 29 = .ok (.iaload, 1) ∧ decode cX4_term 30 = .ok (.istore 4, 2) ∧ decode cX4_term 32 = .ok (.iload_n 3, 1) ∧ decode cX4_term 33 = .ok (.bipush 24, 2) ∧ decode cX4_term 35 = .ok (.if_icmp .eq 23, 3) ∧ decode cX4_term 38 = .ok (.iload_n 1, 1) ∧ decode cX4_term 39 = .ok (.bipush 47, 2) ∧ decode cX4_term 41 = .ok (.if_icmp .eq 11, 3) ∧ decode cX4_term 44 = .ok (.aload_n 0, 1) ∧ decode cX4_term 45 = .ok (.iload_n 3, 1) ∧ decode cX4_term 46 = .ok (.invokevirtual 144, 3) ∧ decode cX4_term 49 = .ok (.ifCond .ne 9, 3) ∧ decode cX4_term 52 = .ok (.aload_n 0, 1) ∧ True := dqC_ok (c := cX4_term) [(0, 1, some (.iconst 0)), (1, 1, some (.istore_n 1)), (2, 1, some (.iconst 0)), (3, 1, some (.istore_n 2)), (4, 1, some (.iload_n 2)), (5, 3, some (.sipush 500)), (8, 3, some (.if_icmp .ge 161)), (11, 1, some (.aload_n 0)), (12, 3, some (.getfield 18)), (15, 1, some (.aload_n 0)), (16, 3, some (.getfield 42)), (19, 1, some (.iaload)), (20, 1, some (.istore_n 3)), (21, 1, some (.aload_n 0)), (22, 3, some (.getfield 22)), (25, 1, some (.aload_n 0)), (26, 3, some (.getfield 42)), (29, 1, some (.iaload)), (30, 2, some (.istore 4)), (32, 1, some (.iload_n 3)), (33, 2, some (.bipush 24)), (35, 3, some (.if_icmp .eq 23)), (38, 1, some (.iload_n 1)), (39, 2, some (.bipush 47)), (41, 3, some (.if_icmp .eq 11)), (44, 1, some (.aload_n 0)), (45, 1, some (.iload_n 3)), (46, 3, some (.invokevirtual 144)), (49, 3, some (.ifCond .ne 9)), (52, 1, some (.aload_n 0))] _ 0 rfl (by decide +kernel)
theorem dX4_term_0 : decode cX4_term 0 = .ok (.iconst 0, 1) := dq_g92.1
theorem dX4_term_1 : decode cX4_term 1 = .ok (.istore_n 1, 1) := dq_g92.2.1
theorem dX4_term_2 : decode cX4_term 2 = .ok (.iconst 0, 1) := dq_g92.2.2.1
theorem dX4_term_3 : decode cX4_term 3 = .ok (.istore_n 2, 1) := dq_g92.2.2.2.1
theorem dX4_term_4 : decode cX4_term 4 = .ok (.iload_n 2, 1) := dq_g92.2.2.2.2.1
theorem dX4_term_5 : decode cX4_term 5 = .ok (.sipush 500, 3) := dq_g92.2.2.2.2.2.1
theorem dX4_term_8 : decode cX4_term 8 = .ok (.if_icmp .ge 161, 3) := dq_g92.2.2.2.2.2.2.1
theorem dX4_term_11 : decode cX4_term 11 = .ok (.aload_n 0, 1) := dq_g92.2.2.2.2.2.2.2.1
theorem dX4_term_12 : decode cX4_term 12 = .ok (.getfield 18, 3) := dq_g92.2.2.2.2.2.2.2.2.1
theorem dX4_term_15 : decode cX4_term 15 = .ok (.aload_n 0, 1) := dq_g92.2.2.2.2.2.2.2.2.2.1
theorem dX4_term_16 : decode cX4_term 16 = .ok (.getfield 42, 3) := dq_g92.2.2.2.2.2.2.2.2.2.2.1
theorem dX4_term_19 : decode cX4_term 19 = .ok (.iaload, 1) := dq_g92.2.2.2.2.2.2.2.2.2.2.2.1
theorem dX4_term_20 : decode cX4_term 20 = .ok (.istore_n 3, 1) := dq_g92.2.2.2.2.2.2.2.2.2.2.2.2.1
theorem dX4_term_21 : decode cX4_term 21 = .ok (.aload_n 0, 1) := dq_g92.2.2.2.2.2.2.2.2.2.2.2.2.2.1
theorem dX4_term_22 : decode cX4_term 22 = .ok (.getfield 22, 3) := dq_g92.2.2.2.2.2.2.2.2.2.2.2.2.2.2.1
theorem dX4_term_25 : decode cX4_term 25 = .ok (.aload_n 0, 1) := dq_g92.2.2.2.2.2.2.2.2.2.2.2.2.2.2.2.1
theorem dX4_term_26 : decode cX4_term 26 = .ok (.getfield 42, 3) := dq_g92.2.2.2.2.2.2.2.2.2.2.2.2.2.2.2.2.1
theorem dX4_term_29 : decode cX4_term 29 = .ok (.iaload, 1) := dq_g92.2.2.2.2.2.2.2.2.2.2.2.2.2.2.2.2.2.1
theorem dX4_term_30 : decode cX4_term 30 = .ok (.istore 4, 2) := dq_g92.2.2.2.2.2.2.2.2.2.2.2.2.2.2.2.2.2.2.1
theorem dX4_term_32 : decode cX4_term 32 = .ok (.iload_n 3, 1) := dq_g92.2.2.2.2.2.2.2.2.2.2.2.2.2.2.2.2.2.2.2.1
theorem dX4_term_33 : decode cX4_term 33 = .ok (.bipush 24, 2) := dq_g92.2.2.2.2.2.2.2.2.2.2.2.2.2.2.2.2.2.2.2.2.1
theorem dX4_term_35 : decode cX4_term 35 = .ok (.if_icmp .eq 23, 3) := dq_g92.2.2.2.2.2.2.2.2.2.2.2.2.2.2.2.2.2.2.2.2.2.1
theorem dX4_term_38 : decode cX4_term 38 = .ok (.iload_n 1, 1) := dq_g92.2.2.2.2.2.2.2.2.2.2.2.2.2.2.2.2.2.2.2.2.2.2.1
theorem dX4_term_39 : decode cX4_term 39 = .ok (.bipush 47, 2) := dq_g92.2.2.2.2.2.2.2.2.2.2.2.2.2.2.2.2.2.2.2.2.2.2.2.1
theorem dX4_term_41 : decode cX4_term 41 = .ok (.if_icmp .eq 11, 3) := dq_g92.2.2.2.2.2.2.2.2.2.2.2.2.2.2.2.2.2.2.2.2.2.2.2.2.1
theorem dX4_term_44 : decode cX4_term 44 = .ok (.aload_n 0, 1) := dq_g92.2.2.2.2.2.2.2.2.2.2.2.2.2.2.2.2.2.2.2.2.2.2.2.2.2.1
theorem dX4_term_45 : decode cX4_term 45 = .ok (.iload_n 3, 1) := dq_g92.2.2.2.2.2.2.2.2.2.2.2.2.2.2.2.2.2.2.2.2.2.2.2.2.2.2.1
theorem dX4_term_46 : decode cX4_term 46 = .ok (.invokevirtual 144, 3) := dq_g92.2.2.2.2.2.2.2.2.2.2.2.2.2.2.2.2.2.2.2.2.2.2.2.2.2.2.2.1
theorem dX4_term_49 : decode cX4_term 49 = .ok (.ifCond .ne 9, 3) := dq_g92.2.2.2.2.2.2.2.2.2.2.2.2.2.2.2.2.2.2.2.2.2.2.2.2.2.2.2.2.1
theorem dX4_term_52 : decode cX4_term 52 = .ok (.aload_n 0, 1) := dq_g92.2.2.2.2.2.2.2.2.2.2.2.2.2.2.2.2.2.2.2.2.2.2.2.2.2.2.2.2.2.1
theorem dq_g93 : decode cX4_term 53 = .ok (.iconst 1, 1) ∧ decode cX4_term 54 = .ok (.invokevirtual 81, 3) ∧ decode cX4_term 57 = .ok (.ireturn, 1) ∧ decode cX4_term 58 = .ok (.iload_n 1, 1) ∧ decode cX4_term 59 = .ok (.bipush 47, 2) ∧ decode cX4_term 61 = .ok (.if_icmp .ne 14, 3) ∧ decode cX4_term 64 = .ok (.iload 4, 2) ∧ decode cX4_term 66 = .ok (.ifCond .ne 9, 3) ∧ decode cX4_term 69 = .ok (.aload_n 0, 1) ∧ decode cX4_term 70 = .ok (.iconst 2, 1) ∧ decode cX4_term 71 = .ok (.invokevirtual 81, 3) ∧ decode cX4_term 74 = .ok (.ireturn, 1) ∧ decode cX4_term 75 = .ok (.iload_n 1, 1) ∧ decode cX4_term 76 = .ok (.bipush 47, 2) ∧ decode cX4_term 78 = .ok (.if_icmp .ne 16, 3) ∧ decode cX4_term 81 = .ok (.aload_n 0, 1) ∧ decode cX4_term 82 = .ok (.getfield 12, 3) ∧ decode cX4_term 85 = .ok (.iload_n 1, 1) ∧ decode cX4_term 86 = .ok (.iload 4, 2) ∧ decode cX4_term 88 = .ok (.invokevirtual 131, 3) ∧ decode cX4_term 91 = .ok (.goto 13, 3) ∧ decode cX4_term 94 = .ok (.aload_n 0, 1) ∧ decode cX4_term 95 = .ok (.getfield 12, 3) ∧ decode cX4_term 98 = .ok (.iload_n 3, 1) ∧ decode cX4_term 99 = .ok (.iload 4, 2) ∧ decode cX4_term 101 = .ok (.invokevirtual 131, 3) ∧ decode cX4_term 104 = .ok (.iload_n 1, 1) ∧ decode cX4_term 105 = .ok (.bipush 42, 2) ∧ decode cX4_term 107 = .ok (.if_icmp .ne 12, 3) ∧ decode cX4_term 110 = .ok (.aload_n 0, 1) ∧ True := dqC_ok (c := cX4_term) [(53, 1, some (.iconst 1)), (54, 3, some (.invokevirtual 81)), (57, 1, some (.ireturn)), (58, 1, some (.iload_n 1)), (59, 2, some (.bipush 47)), (61, 3, some (.if_icmp .ne 14)), (64, 2, some (.iload 4)), (66, 3, some (.ifCond .ne 9)), (69, 1, some (.aload_n 0)), (70, 1, some (.iconst 2)), (71, 3, some (.invokevirtual 81)), (74, 1, some (.ireturn)), (75, 1, some (.iload_n 1)), (76, 2, some (.bipush 47)), (78, 3, some (.if_icmp .ne 16)), (81, 1, some (.aload_n 0)), (82, 3, some (.getfield 12)), (85, 1, some (.iload_n 1)), (86, 2, some (.iload 4)), (88, 3, some (.invokevirtual 131)), (91, 3, some (.goto 13)), (94, 1, some (.aload_n 0)), (95, 3, some (.getfield 12)), (98, 1, some (.iload_n 3)), (99, 2, some (.iload 4)), (101, 3, some (.invokevirtual 131)), (104, 1, some (.iload_n 1)), (105, 2, some (.bipush 42)), (107, 3, some (.if_icmp .ne 12)), (110, 1, some (.aload_n 0))] _ 53 rfl (by decide +kernel)
theorem dX4_term_53 : decode cX4_term 53 = .ok (.iconst 1, 1) := dq_g93.1
theorem dX4_term_54 : decode cX4_term 54 = .ok (.invokevirtual 81, 3) := dq_g93.2.1
theorem dX4_term_57 : decode cX4_term 57 = .ok (.ireturn, 1) := dq_g93.2.2.1
theorem dX4_term_58 : decode cX4_term 58 = .ok (.iload_n 1, 1) := dq_g93.2.2.2.1
theorem dX4_term_59 : decode cX4_term 59 = .ok (.bipush 47, 2) := dq_g93.2.2.2.2.1
theorem dX4_term_61 : decode cX4_term 61 = .ok (.if_icmp .ne 14, 3) := dq_g93.2.2.2.2.2.1
theorem dX4_term_64 : decode cX4_term 64 = .ok (.iload 4, 2) := dq_g93.2.2.2.2.2.2.1
theorem dX4_term_66 : decode cX4_term 66 = .ok (.ifCond .ne 9, 3) := dq_g93.2.2.2.2.2.2.2.1
theorem dX4_term_69 : decode cX4_term 69 = .ok (.aload_n 0, 1) := dq_g93.2.2.2.2.2.2.2.2.1
theorem dX4_term_70 : decode cX4_term 70 = .ok (.iconst 2, 1) := dq_g93.2.2.2.2.2.2.2.2.2.1
theorem dX4_term_71 : decode cX4_term 71 = .ok (.invokevirtual 81, 3) := dq_g93.2.2.2.2.2.2.2.2.2.2.1
theorem dX4_term_74 : decode cX4_term 74 = .ok (.ireturn, 1) := dq_g93.2.2.2.2.2.2.2.2.2.2.2.1
theorem dX4_term_75 : decode cX4_term 75 = .ok (.iload_n 1, 1) := dq_g93.2.2.2.2.2.2.2.2.2.2.2.2.1
theorem dX4_term_76 : decode cX4_term 76 = .ok (.bipush 47, 2) := dq_g93.2.2.2.2.2.2.2.2.2.2.2.2.2.1
theorem dX4_term_78 : decode cX4_term 78 = .ok (.if_icmp .ne 16, 3) := dq_g93.2.2.2.2.2.2.2.2.2.2.2.2.2.2.1
theorem dX4_term_81 : decode cX4_term 81 = .ok (.aload_n 0, 1) := dq_g93.2.2.2.2.2.2.2.2.2.2.2.2.2.2.2.1
theorem dX4_term_82 : decode cX4_term 82 = .ok (.getfield 12, 3) := dq_g93.2.2.2.2.2.2.2.2.2.2.2.2.2.2.2.2.1
theorem dX4_term_85 : decode cX4_term 85 = .ok (.iload_n 1, 1) := dq_g93.2.2.2.2.2.2.2.2.2.2.2.2.2.2.2.2.2.1
theorem dX4_term_86 : decode cX4_term 86 = .ok (.iload 4, 2) := dq_g93.2.2.2.2.2.2.2.2.2.2.2.2.2.2.2.2.2.2.1
theorem dX4_term_88 : decode cX4_term 88 = .ok (.invokevirtual 131, 3) := dq_g93.2.2.2.2.2.2.2.2.2.2.2.2.2.2.2.2.2.2.2.1
theorem dX4_term_91 : decode cX4_term 91 = .ok (.goto 13, 3) := dq_g93.2.2.2.2.2.2.2.2.2.2.2.2.2.2.2.2.2.2.2.2.1
theorem dX4_term_94 : decode cX4_term 94 = .ok (.aload_n 0, 1) := dq_g93.2.2.2.2.2.2.2.2.2.2.2.2.2.2.2.2.2.2.2.2.2.1
theorem dX4_term_95 : decode cX4_term 95 = .ok (.getfield 12, 3) := dq_g93.2.2.2.2.2.2.2.2.2.2.2.2.2.2.2.2.2.2.2.2.2.2.1
theorem dX4_term_98 : decode cX4_term 98 = .ok (.iload_n 3, 1) := dq_g93.2.2.2.2.2.2.2.2.2.2.2.2.2.2.2.2.2.2.2.2.2.2.2.1
theorem dX4_term_99 : decode cX4_term 99 = .ok (.iload 4, 2) := dq_g93.2.2.2.2.2.2.2.2.2.2.2.2.2.2.2.2.2.2.2.2.2.2.2.2.1
theorem dX4_term_101 : decode cX4_term 101 = .ok (.invokevirtual 131, 3) := dq_g93.2.2.2.2.2.2.2.2.2.2.2.2.2.2.2.2.2.2.2.2.2.2.2.2.2.1
theorem dX4_term_104 : decode cX4_term 104 = .ok (.iload_n 1, 1) := dq_g93.2.2.2.2.2.2.2.2.2.2.2.2.2.2.2.2.2.2.2.2.2.2.2.2.2.2.1
theorem dX4_term_105 : decode cX4_term 105 = .ok (.bipush 42, 2) := dq_g93.2.2.2.2.2.2.2.2.2.2.2.2.2.2.2.2.2.2.2.2.2.2.2.2.2.2.2.1
theorem dX4_term_107 : decode cX4_term 107 = .ok (.if_icmp .ne 12, 3) := dq_g93.2.2.2.2.2.2.2.2.2.2.2.2.2.2.2.2.2.2.2.2.2.2.2.2.2.2.2.2.1
theorem dX4_term_110 : decode cX4_term 110 = .ok (.aload_n 0, 1) := dq_g93.2.2.2.2.2.2.2.2.2.2.2.2.2.2.2.2.2.2.2.2.2.2.2.2.2.2.2.2.2.1
theorem dq_g94 : decode cX4_term 111 = .ok (.getfield 12, 3) ∧ decode cX4_term 114 = .ok (.iload_n 1, 1) ∧ decode cX4_term 115 = .ok (.iconst 0, 1) ∧ decode cX4_term 116 = .ok (.invokevirtual 131, 3) ∧ decode cX4_term 119 = .ok (.aload_n 0, 1) ∧ decode cX4_term 120 = .ok (.dup, 1) ∧ decode cX4_term 121 = .ok (.getfield 42, 3) ∧ decode cX4_term 124 = .ok (.iconst 1, 1) ∧ decode cX4_term 125 = .ok (.iadd, 1) ∧ decode cX4_term 126 = .ok (.putfield 42, 3) ∧ decode cX4_term 129 = .ok (.aload_n 0, 1) ∧ decode cX4_term 130 = .ok (.getfield 18, 3) ∧ decode cX4_term 133 = .ok (.aload_n 0, 1) ∧ decode cX4_term 134 = .ok (.getfield 42, 3) ∧ decode cX4_term 137 = .ok (.iaload, 1) ∧ decode cX4_term 138 = .ok (.istore_n 1, 1) ∧ decode cX4_term 139 = .ok (.iload_n 1, 1) ∧ decode cX4_term 140 = .ok (.bipush 42, 2) ∧ decode cX4_term 142 = .ok (.if_icmp .eq 11, 3) ∧ decode cX4_term 145 = .ok (.iload_n 1, 1) ∧ decode cX4_term 146 = .ok (.bipush 47, 2) ∧ decode cX4_term 148 = .ok (.if_icmp .eq 5, 3) ∧ decode cX4_term 151 = .ok (.iconst 1, 1) ∧ decode cX4_term 152 = .ok (.ireturn, 1) ∧ decode cX4_term 153 = .ok (.aload_n 0, 1) ∧ decode cX4_term 154 = .ok (.dup, 1) ∧ decode cX4_term 155 = .ok (.getfield 42, 3) ∧ decode cX4_term 158 = .ok (.iconst 1, 1) ∧ decode cX4_term 159 = .ok (.iadd, 1) ∧ decode cX4_term 160 = .ok (.putfield 42, 3) ∧ True := dqC_ok (c := cX4_term) [(111, 3, some (.getfield 12)), (114, 1, some (.iload_n 1)), (115, 1, some (.iconst 0)), (116, 3, some (.invokevirtual 131)), (119, 1, some (.aload_n 0)), (120, 1, some (.dup)), (121, 3, some (.getfield 42)), (124, 1, some (.iconst 1)), (125, 1, some (.iadd)), (126, 3, some (.putfield 42)), (129, 1, some (.aload_n 0)), (130, 3, some (.getfield 18)), (133, 1, some (.aload_n 0)), (134, 3, some (.getfield 42)), (137, 1, some (.iaload)), (138, 1, some (.istore_n 1)), (139, 1, some (.iload_n 1)), (140, 2, some (.bipush 42)), (142, 3, some (.if_icmp .eq 11)), (145, 1, some (.iload_n 1)), (146, 2, some (.bipush 47)), (148, 3, some (.if_icmp .eq 5)), (151, 1, some (.iconst 1)), (152, 1, some (.ireturn)), (153, 1, some (.aload_n 0)), (154, 1, some (.dup)), (155, 3, some (.getfield 42)), (158, 1, some (.iconst 1)), (159, 1, some (.iadd)), (160, 3, some (.putfield 42))] _ 111 rfl (by decide +kernel)
theorem dX4_term_111 : decode cX4_term 111 = .ok (.getfield 12, 3) := dq_g94.1
theorem dX4_term_114 : decode cX4_term 114 = .ok (.iload_n 1, 1) := dq_g94.2.1
theorem dX4_term_115 : decode cX4_term 115 = .ok (.iconst 0, 1) := dq_g94.2.2.1
theorem dX4_term_116 : decode cX4_term 116 = .ok (.invokevirtual 131, 3) := dq_g94.2.2.2.1
theorem dX4_term_119 : decode cX4_term 119 = .ok (.aload_n 0, 1) := dq_g94.2.2.2.2.1
theorem dX4_term_120 : decode cX4_term 120 = .ok (.dup, 1) := dq_g94.2.2.2.2.2.1
theorem dX4_term_121 : decode cX4_term 121 = .ok (.getfield 42, 3) := dq_g94.2.2.2.2.2.2.1
theorem dX4_term_124 : decode cX4_term 124 = .ok (.iconst 1, 1) := dq_g94.2.2.2.2.2.2.2.1
theorem dX4_term_125 : decode cX4_term 125 = .ok (.iadd, 1) := dq_g94.2.2.2.2.2.2.2.2.1
theorem dX4_term_126 : decode cX4_term 126 = .ok (.putfield 42, 3) := dq_g94.2.2.2.2.2.2.2.2.2.1
theorem dX4_term_129 : decode cX4_term 129 = .ok (.aload_n 0, 1) := dq_g94.2.2.2.2.2.2.2.2.2.2.1
theorem dX4_term_130 : decode cX4_term 130 = .ok (.getfield 18, 3) := dq_g94.2.2.2.2.2.2.2.2.2.2.2.1
theorem dX4_term_133 : decode cX4_term 133 = .ok (.aload_n 0, 1) := dq_g94.2.2.2.2.2.2.2.2.2.2.2.2.1
theorem dX4_term_134 : decode cX4_term 134 = .ok (.getfield 42, 3) := dq_g94.2.2.2.2.2.2.2.2.2.2.2.2.2.1
theorem dX4_term_137 : decode cX4_term 137 = .ok (.iaload, 1) := dq_g94.2.2.2.2.2.2.2.2.2.2.2.2.2.2.1
theorem dX4_term_138 : decode cX4_term 138 = .ok (.istore_n 1, 1) := dq_g94.2.2.2.2.2.2.2.2.2.2.2.2.2.2.2.1
theorem dX4_term_139 : decode cX4_term 139 = .ok (.iload_n 1, 1) := dq_g94.2.2.2.2.2.2.2.2.2.2.2.2.2.2.2.2.1
theorem dX4_term_140 : decode cX4_term 140 = .ok (.bipush 42, 2) := dq_g94.2.2.2.2.2.2.2.2.2.2.2.2.2.2.2.2.2.1
theorem dX4_term_142 : decode cX4_term 142 = .ok (.if_icmp .eq 11, 3) := dq_g94.2.2.2.2.2.2.2.2.2.2.2.2.2.2.2.2.2.2.1
theorem dX4_term_145 : decode cX4_term 145 = .ok (.iload_n 1, 1) := dq_g94.2.2.2.2.2.2.2.2.2.2.2.2.2.2.2.2.2.2.2.1
theorem dX4_term_146 : decode cX4_term 146 = .ok (.bipush 47, 2) := dq_g94.2.2.2.2.2.2.2.2.2.2.2.2.2.2.2.2.2.2.2.2.1
theorem dX4_term_148 : decode cX4_term 148 = .ok (.if_icmp .eq 5, 3) := dq_g94.2.2.2.2.2.2.2.2.2.2.2.2.2.2.2.2.2.2.2.2.2.1
theorem dX4_term_151 : decode cX4_term 151 = .ok (.iconst 1, 1) := dq_g94.2.2.2.2.2.2.2.2.2.2.2.2.2.2.2.2.2.2.2.2.2.2.1
theorem dX4_term_152 : decode cX4_term 152 = .ok (.ireturn, 1) := dq_g94.2.2.2.2.2.2.2.2.2.2.2.2.2.2.2.2.2.2.2.2.2.2.2.1
theorem dX4_term_153 : decode cX4_term 153 = .ok (.aload_n 0, 1) := dq_g94.2.2.2.2.2.2.2.2.2.2.2.2.2.2.2.2.2.2.2.2.2.2.2.2.1
theorem dX4_term_154 : decode cX4_term 154 = .ok (.dup, 1) := dq_g94.2.2.2.2.2.2.2.2.2.2.2.2.2.2.2.2.2.2.2.2.2.2.2.2.2.1
theorem dX4_term_155 : decode cX4_term 155 = .ok (.getfield 42, 3) := dq_g94.2.2.2.2.2.2.2.2.2.2.2.2.2.2.2.2.2.2.2.2.2.2.2.2.2.2.1
theorem dX4_term_158 : decode cX4_term 158 = .ok (.iconst 1, 1) := dq_g94.2.2.2.2.2.2.2.2.2.2.2.2.2.2.2.2.2.2.2.2.2.2.2.2.2.2.2.1
theorem dX4_term_159 : decode cX4_term 159 = .ok (.iadd, 1) := dq_g94.2.2.2.2.2.2.2.2.2.2.2.2.2.2.2.2.2.2.2.2.2.2.2.2.2.2.2.2.1
theorem dX4_term_160 : decode cX4_term 160 = .ok (.putfield 42, 3) := dq_g94.2.2.2.2.2.2.2.2.2.2.2.2.2.2.2.2.2.2.2.2.2.2.2.2.2.2.2.2.2.1
theorem dq_g95 : decode cX4_term 163 = .ok (.iinc 2 1, 3) ∧ decode cX4_term 166 = .ok (.goto (-162), 3) ∧ decode cX4_term 169 = .ok (.iconst 1, 1) ∧ decode cX4_term 170 = .ok (.ireturn, 1) ∧ True := dqC_ok (c := cX4_term) [(163, 3, some (.iinc 2 1)), (166, 3, some (.goto (-162))), (169, 1, some (.iconst 1)), (170, 1, some (.ireturn))] _ 163 rfl (by decide +kernel)
theorem dX4_term_163 : decode cX4_term 163 = .ok (.iinc 2 1, 3) := dq_g95.1
theorem dX4_term_166 : decode cX4_term 166 = .ok (.goto (-162), 3) := dq_g95.2.1
theorem dX4_term_169 : decode cX4_term 169 = .ok (.iconst 1, 1) := dq_g95.2.2.1
theorem dX4_term_170 : decode cX4_term 170 = .ok (.ireturn, 1) := dq_g95.2.2.2.1
theorem dq_g96 : decode cX4_isUnit 0 = .ok (.aload_n 0, 1) ∧ decode cX4_isUnit 1 = .ok (.getfield 28, 3) ∧ decode cX4_isUnit 4 = .ok (.ifCond .eq 29, 3) ∧ decode cX4_isUnit 7 = .ok (.iload_n 1, 1) ∧ decode cX4_isUnit 8 = .ok (.bipush 6, 2) ∧ decode cX4_isUnit 10 = .ok (.if_icmp .eq 15, 3) ∧ decode cX4_isUnit 13 = .ok (.iload_n 1, 1) ∧ decode cX4_isUnit 14 = .ok (.bipush 11, 2) ∧ decode cX4_isUnit 16 = .ok (.if_icmp .lt 13, 3) ∧ decode cX4_isUnit 19 = .ok (.iload_n 1, 1) ∧ decode cX4_isUnit 20 = .ok (.bipush 19, 2) ∧ decode cX4_isUnit 22 = .ok (.if_icmp .gt 7, 3) ∧ decode cX4_isUnit 25 = .ok (.iconst 1, 1) ∧ decode cX4_isUnit 26 = .ok (.goto 24, 3) ∧ decode cX4_isUnit 29 = .ok (.iconst 0, 1) ∧ decode cX4_isUnit 30 = .ok (.goto 20, 3) ∧ decode cX4_isUnit 33 = .ok (.iload_n 1, 1) ∧ decode cX4_isUnit 34 = .ok (.bipush 20, 2) ∧ decode cX4_isUnit 36 = .ok (.if_icmp .lt 13, 3) ∧ decode cX4_isUnit 39 = .ok (.iload_n 1, 1) ∧ decode cX4_isUnit 40 = .ok (.bipush 23, 2) ∧ decode cX4_isUnit 42 = .ok (.if_icmp .gt 7, 3) ∧ decode cX4_isUnit 45 = .ok (.iconst 1, 1) ∧ decode cX4_isUnit 46 = .ok (.goto 4, 3) ∧ decode cX4_isUnit 49 = .ok (.iconst 0, 1) ∧ decode cX4_isUnit 50 = .ok (.ireturn, 1) ∧ True := dqC_ok (c := cX4_isUnit) [(0, 1, some (.aload_n 0)), (1, 3, some (.getfield 28)), (4, 3, some (.ifCond .eq 29)), (7, 1, some (.iload_n 1)), (8, 2, some (.bipush 6)), (10, 3, some (.if_icmp .eq 15)), (13, 1, some (.iload_n 1)), (14, 2, some (.bipush 11)), (16, 3, some (.if_icmp .lt 13)), (19, 1, some (.iload_n 1)), (20, 2, some (.bipush 19)), (22, 3, some (.if_icmp .gt 7)), (25, 1, some (.iconst 1)), (26, 3, some (.goto 24)), (29, 1, some (.iconst 0)), (30, 3, some (.goto 20)), (33, 1, some (.iload_n 1)), (34, 2, some (.bipush 20)), (36, 3, some (.if_icmp .lt 13)), (39, 1, some (.iload_n 1)), (40, 2, some (.bipush 23)), (42, 3, some (.if_icmp .gt 7)), (45, 1, some (.iconst 1)), (46, 3, some (.goto 4)), (49, 1, some (.iconst 0)), (50, 1, some (.ireturn))] _ 0 rfl (by decide +kernel)
theorem dX4_isUnit_0 : decode cX4_isUnit 0 = .ok (.aload_n 0, 1) := dq_g96.1
theorem dX4_isUnit_1 : decode cX4_isUnit 1 = .ok (.getfield 28, 3) := dq_g96.2.1
theorem dX4_isUnit_4 : decode cX4_isUnit 4 = .ok (.ifCond .eq 29, 3) := dq_g96.2.2.1
theorem dX4_isUnit_7 : decode cX4_isUnit 7 = .ok (.iload_n 1, 1) := dq_g96.2.2.2.1
theorem dX4_isUnit_8 : decode cX4_isUnit 8 = .ok (.bipush 6, 2) := dq_g96.2.2.2.2.1
theorem dX4_isUnit_10 : decode cX4_isUnit 10 = .ok (.if_icmp .eq 15, 3) := dq_g96.2.2.2.2.2.1
theorem dX4_isUnit_13 : decode cX4_isUnit 13 = .ok (.iload_n 1, 1) := dq_g96.2.2.2.2.2.2.1
theorem dX4_isUnit_14 : decode cX4_isUnit 14 = .ok (.bipush 11, 2) := dq_g96.2.2.2.2.2.2.2.1
theorem dX4_isUnit_16 : decode cX4_isUnit 16 = .ok (.if_icmp .lt 13, 3) := dq_g96.2.2.2.2.2.2.2.2.1
theorem dX4_isUnit_19 : decode cX4_isUnit 19 = .ok (.iload_n 1, 1) := dq_g96.2.2.2.2.2.2.2.2.2.1
theorem dX4_isUnit_20 : decode cX4_isUnit 20 = .ok (.bipush 19, 2) := dq_g96.2.2.2.2.2.2.2.2.2.2.1
theorem dX4_isUnit_22 : decode cX4_isUnit 22 = .ok (.if_icmp .gt 7, 3) := dq_g96.2.2.2.2.2.2.2.2.2.2.2.1
theorem dX4_isUnit_25 : decode cX4_isUnit 25 = .ok (.iconst 1, 1) := dq_g96.2.2.2.2.2.2.2.2.2.2.2.2.1
theorem dX4_isUnit_26 : decode cX4_isUnit 26 = .ok (.goto 24, 3) := dq_g96.2.2.2.2.2.2.2.2.2.2.2.2.2.1
theorem dX4_isUnit_29 : decode cX4_isUnit 29 = .ok (.iconst 0, 1) := dq_g96.2.2.2.2.2.2.2.2.2.2.2.2.2.2.1
theorem dX4_isUnit_30 : decode cX4_isUnit 30 = .ok (.goto 20, 3) := dq_g96.2.2.2.2.2.2.2.2.2.2.2.2.2.2.2.1
theorem dX4_isUnit_33 : decode cX4_isUnit 33 = .ok (.iload_n 1, 1) := dq_g96.2.2.2.2.2.2.2.2.2.2.2.2.2.2.2.2.1
theorem dX4_isUnit_34 : decode cX4_isUnit 34 = .ok (.bipush 20, 2) := dq_g96.2.2.2.2.2.2.2.2.2.2.2.2.2.2.2.2.2.1
theorem dX4_isUnit_36 : decode cX4_isUnit 36 = .ok (.if_icmp .lt 13, 3) := dq_g96.2.2.2.2.2.2.2.2.2.2.2.2.2.2.2.2.2.2.1
theorem dX4_isUnit_39 : decode cX4_isUnit 39 = .ok (.iload_n 1, 1) := dq_g96.2.2.2.2.2.2.2.2.2.2.2.2.2.2.2.2.2.2.2.1
theorem dX4_isUnit_40 : decode cX4_isUnit 40 = .ok (.bipush 23, 2) := dq_g96.2.2.2.2.2.2.2.2.2.2.2.2.2.2.2.2.2.2.2.2.1
theorem dX4_isUnit_42 : decode cX4_isUnit 42 = .ok (.if_icmp .gt 7, 3) := dq_g96.2.2.2.2.2.2.2.2.2.2.2.2.2.2.2.2.2.2.2.2.2.1
theorem dX4_isUnit_45 : decode cX4_isUnit 45 = .ok (.iconst 1, 1) := dq_g96.2.2.2.2.2.2.2.2.2.2.2.2.2.2.2.2.2.2.2.2.2.2.1
theorem dX4_isUnit_46 : decode cX4_isUnit 46 = .ok (.goto 4, 3) := dq_g96.2.2.2.2.2.2.2.2.2.2.2.2.2.2.2.2.2.2.2.2.2.2.2.1
theorem dX4_isUnit_49 : decode cX4_isUnit 49 = .ok (.iconst 0, 1) := dq_g96.2.2.2.2.2.2.2.2.2.2.2.2.2.2.2.2.2.2.2.2.2.2.2.2.1
theorem dX4_isUnit_50 : decode cX4_isUnit 50 = .ok (.ireturn, 1) := dq_g96.2.2.2.2.2.2.2.2.2.2.2.2.2.2.2.2.2.2.2.2.2.2.2.2.2.1
theorem dq_g97 : decode cX5_init 0 = .ok (.aload_n 0, 1) ∧ decode cX5_init 1 = .ok (.invokespecial 3, 3) ∧ decode cX5_init 4 = .ok (.aload_n 0, 1) ∧ decode cX5_init 5 = .ok (.bipush 8, 2) ∧ decode cX5_init 9 = .ok (.putfield 9, 3) ∧ decode cX5_init 12 = .ok (.aload_n 0, 1) ∧ decode cX5_init 13 = .ok (.bipush 8, 2) ∧ decode cX5_init 17 = .ok (.putfield 15, 3) ∧ decode cX5_init 20 = .ok (.aload_n 0, 1) ∧ decode cX5_init 21 = .ok (.sipush 256, 3) ∧ decode cX5_init 26 = .ok (.putfield 18, 3) ∧ decode cX5_init 29 = .ok (.return_, 1) ∧ True := dqC_ok (c := cX5_init) [(0, 1, some (.aload_n 0)), (1, 3, some (.invokespecial 3)), (4, 1, some (.aload_n 0)), (5, 2, some (.bipush 8)), (7, 2, none), (9, 3, some (.putfield 9)), (12, 1, some (.aload_n 0)), (13, 2, some (.bipush 8)), (15, 2, none), (17, 3, some (.putfield 15)), (20, 1, some (.aload_n 0)), (21, 3, some (.sipush 256)), (24, 2, none), (26, 3, some (.putfield 18)), (29, 1, some (.return_))] _ 0 rfl (by decide +kernel)
theorem dX5_init_0 : decode cX5_init 0 = .ok (.aload_n 0, 1) := dq_g97.1
theorem dX5_init_1 : decode cX5_init 1 = .ok (.invokespecial 3, 3) := dq_g97.2.1
theorem dX5_init_4 : decode cX5_init 4 = .ok (.aload_n 0, 1) := dq_g97.2.2.1
theorem dX5_init_5 : decode cX5_init 5 = .ok (.bipush 8, 2) := dq_g97.2.2.2.1
theorem dX5_init_9 : decode cX5_init 9 = .ok (.putfield 9, 3) := dq_g97.2.2.2.2.1
theorem dX5_init_12 : decode cX5_init 12 = .ok (.aload_n 0, 1) := dq_g97.2.2.2.2.2.1
theorem dX5_init_13 : decode cX5_init 13 = .ok (.bipush 8, 2) := dq_g97.2.2.2.2.2.2.1
theorem dX5_init_17 : decode cX5_init 17 = .ok (.putfield 15, 3) := dq_g97.2.2.2.2.2.2.2.1
theorem dX5_init_20 : decode cX5_init 20 = .ok (.aload_n 0, 1) := dq_g97.2.2.2.2.2.2.2.2.1
theorem dX5_init_21 : decode cX5_init 21 = .ok (.sipush 256, 3) := dq_g97.2.2.2.2.2.2.2.2.2.1
theorem dX5_init_26 : decode cX5_init 26 = .ok (.putfield 18, 3) := dq_g97.2.2.2.2.2.2.2.2.2.2.1
theorem dX5_init_29 : decode cX5_init 29 = .ok (.return_, 1) := dq_g97.2.2.2.2.2.2.2.2.2.2.2.1
theorem dX5_init_7 : decode cX5_init 7 = .ok (.newarray .int, 2) := by decide +kernel
theorem dX5_init_15 : decode cX5_init 15 = .ok (.newarray .int, 2) := by decide +kernel
theorem dX5_init_24 : decode cX5_init 24 = .ok (.newarray .int, 2) := by decide +kernel
theorem dq_g98 : decode cX5_find 0 = .ok (.aload_n 0, 1) ∧ decode cX5_find 1 = .ok (.getfield 18, 3) ∧ decode cX5_find 4 = .ok (.iconst 0, 1) ∧ decode cX5_find 5 = .ok (.invokestatic 21, 3) ∧ decode cX5_find 8 = .ok (.aload_n 0, 1) ∧ decode cX5_find 9 = .ok (.iconst (-1), 1) ∧ decode cX5_find 10 = .ok (.putfield 27, 3) ∧ decode cX5_find 13 = .ok (.aload_n 0, 1) ∧ decode cX5_find 14 = .ok (.iload_n 2, 1) ∧ decode cX5_find 15 = .ok (.putfield 31, 3) ∧ decode cX5_find 18 = .ok (.aload_n 0, 1) ∧ decode cX5_find 19 = .ok (.aload_n 1, 1) ∧ decode cX5_find 20 = .ok (.iconst 0, 1) ∧ decode cX5_find 21 = .ok (.iconst 0, 1) ∧ decode cX5_find 22 = .ok (.iconst 0, 1) ∧ decode cX5_find 23 = .ok (.invokevirtual 34, 3) ∧ decode cX5_find 26 = .ok (.aload_n 0, 1) ∧ decode cX5_find 27 = .ok (.getfield 27, 3) ∧ decode cX5_find 30 = .ok (.ireturn, 1) ∧ True := dqC_ok (c := cX5_find) [(0, 1, some (.aload_n 0)), (1, 3, some (.getfield 18)), (4, 1, some (.iconst 0)), (5, 3, some (.invokestatic 21)), (8, 1, some (.aload_n 0)), (9, 1, some (.iconst (-1))), (10, 3, some (.putfield 27)), (13, 1, some (.aload_n 0)), (14, 1, some (.iload_n 2)), (15, 3, some (.putfield 31)), (18, 1, some (.aload_n 0)), (19, 1, some (.aload_n 1)), (20, 1, some (.iconst 0)), (21, 1, some (.iconst 0)), (22, 1, some (.iconst 0)), (23, 3, some (.invokevirtual 34)), (26, 1, some (.aload_n 0)), (27, 3, some (.getfield 27)), (30, 1, some (.ireturn))] _ 0 rfl (by decide +kernel)
theorem dX5_find_0 : decode cX5_find 0 = .ok (.aload_n 0, 1) := dq_g98.1
theorem dX5_find_1 : decode cX5_find 1 = .ok (.getfield 18, 3) := dq_g98.2.1
theorem dX5_find_4 : decode cX5_find 4 = .ok (.iconst 0, 1) := dq_g98.2.2.1
theorem dX5_find_5 : decode cX5_find 5 = .ok (.invokestatic 21, 3) := dq_g98.2.2.2.1
theorem dX5_find_8 : decode cX5_find 8 = .ok (.aload_n 0, 1) := dq_g98.2.2.2.2.1
theorem dX5_find_9 : decode cX5_find 9 = .ok (.iconst (-1), 1) := dq_g98.2.2.2.2.2.1
theorem dX5_find_10 : decode cX5_find 10 = .ok (.putfield 27, 3) := dq_g98.2.2.2.2.2.2.1
theorem dX5_find_13 : decode cX5_find 13 = .ok (.aload_n 0, 1) := dq_g98.2.2.2.2.2.2.2.1
theorem dX5_find_14 : decode cX5_find 14 = .ok (.iload_n 2, 1) := dq_g98.2.2.2.2.2.2.2.2.1
theorem dX5_find_15 : decode cX5_find 15 = .ok (.putfield 31, 3) := dq_g98.2.2.2.2.2.2.2.2.2.1
theorem dX5_find_18 : decode cX5_find 18 = .ok (.aload_n 0, 1) := dq_g98.2.2.2.2.2.2.2.2.2.2.1
theorem dX5_find_19 : decode cX5_find 19 = .ok (.aload_n 1, 1) := dq_g98.2.2.2.2.2.2.2.2.2.2.2.1
theorem dX5_find_20 : decode cX5_find 20 = .ok (.iconst 0, 1) := dq_g98.2.2.2.2.2.2.2.2.2.2.2.2.1
theorem dX5_find_21 : decode cX5_find 21 = .ok (.iconst 0, 1) := dq_g98.2.2.2.2.2.2.2.2.2.2.2.2.2.1
theorem dX5_find_22 : decode cX5_find 22 = .ok (.iconst 0, 1) := dq_g98.2.2.2.2.2.2.2.2.2.2.2.2.2.2.1
theorem dX5_find_23 : decode cX5_find 23 = .ok (.invokevirtual 34, 3) := dq_g98.2.2.2.2.2.2.2.2.2.2.2.2.2.2.2.1
theorem dX5_find_26 : decode cX5_find 26 = .ok (.aload_n 0, 1) := dq_g98.2.2.2.2.2.2.2.2.2.2.2.2.2.2.2.2.1
theorem dX5_find_27 : decode cX5_find 27 = .ok (.getfield 27, 3) := dq_g98.2.2.2.2.2.2.2.2.2.2.2.2.2.2.2.2.2.1
theorem dX5_find_30 : decode cX5_find 30 = .ok (.ireturn, 1) := dq_g98.2.2.2.2.2.2.2.2.2.2.2.2.2.2.2.2.2.2.1
theorem dq_g99 : decode cX5_goOn 0 = .ok (.iload_n 2, 1) ∧ decode cX5_goOn 1 = .ok (.aload_n 1, 1) ∧ decode cX5_goOn 2 = .ok (.getfield 38, 3) ∧ decode cX5_goOn 5 = .ok (.if_icmp .ge 9, 3) ∧ decode cX5_goOn 8 = .ok (.iload_n 2, 1) ∧ decode cX5_goOn 9 = .ok (.bipush 8, 2) ∧ decode cX5_goOn 11 = .ok (.if_icmp .lt 42, 3) ∧ decode cX5_goOn 14 = .ok (.aload_n 0, 1) ∧ decode cX5_goOn 15 = .ok (.getfield 27, 3) ∧ decode cX5_goOn 18 = .ok (.iconst (-1), 1) ∧ decode cX5_goOn 19 = .ok (.if_icmp .eq 12, 3) ∧ decode cX5_goOn 22 = .ok (.iload 4, 2) ∧ decode cX5_goOn 24 = .ok (.aload_n 0, 1) ∧ decode cX5_goOn 25 = .ok (.getfield 27, 3) ∧ decode cX5_goOn 28 = .ok (.if_icmp .ge 24, 3) ∧ decode cX5_goOn 31 = .ok (.aload_n 0, 1) ∧ decode cX5_goOn 32 = .ok (.iload 4, 2) ∧ decode cX5_goOn 34 = .ok (.putfield 27, 3) ∧ decode cX5_goOn 37 = .ok (.aload_n 0, 1) ∧ decode cX5_goOn 38 = .ok (.getfield 15, 3) ∧ decode cX5_goOn 41 = .ok (.iconst 0, 1) ∧ decode cX5_goOn 42 = .ok (.aload_n 0, 1) ∧ decode cX5_goOn 43 = .ok (.getfield 9, 3) ∧ decode cX5_goOn 46 = .ok (.iconst 0, 1) ∧ decode cX5_goOn 47 = .ok (.bipush 8, 2) ∧ decode cX5_goOn 49 = .ok (.invokestatic 43, 3) ∧ decode cX5_goOn 52 = .ok (.return_, 1) ∧ decode cX5_goOn 53 = .ok (.iconst 0, 1) ∧ decode cX5_goOn 54 = .ok (.istore 5, 2) ∧ decode cX5_goOn 56 = .ok (.iload 5, 2) ∧ True := dqC_ok (c := cX5_goOn) [(0, 1, some (.iload_n 2)), (1, 1, some (.aload_n 1)), (2, 3, some (.getfield 38)), (5, 3, some (.if_icmp .ge 9)), (8, 1, some (.iload_n 2)), (9, 2, some (.bipush 8)), (11, 3, some (.if_icmp .lt 42)), (14, 1, some (.aload_n 0)), (15, 3, some (.getfield 27)), (18, 1, some (.iconst (-1))), (19, 3, some (.if_icmp .eq 12)), (22, 2, some (.iload 4)), (24, 1, some (.aload_n 0)), (25, 3, some (.getfield 27)), (28, 3, some (.if_icmp .ge 24)), (31, 1, some (.aload_n 0)), (32, 2, some (.iload 4)), (34, 3, some (.putfield 27)), (37, 1, some (.aload_n 0)), (38, 3, some (.getfield 15)), (41, 1, some (.iconst 0)), (42, 1, some (.aload_n 0)), (43, 3, some (.getfield 9)), (46, 1, some (.iconst 0)), (47, 2, some (.bipush 8)), (49, 3, some (.invokestatic 43)), (52, 1, some (.return_)), (53, 1, some (.iconst 0)), (54, 2, some (.istore 5)), (56, 2, some (.iload 5))] _ 0 rfl (by decide +kernel)
theorem dX5_goOn_0 : decode cX5_goOn 0 = .ok (.iload_n 2, 1) := dq_g99.1
theorem dX5_goOn_1 : decode cX5_goOn 1 = .ok (.aload_n 1, 1) := dq_g99.2.1
theorem dX5_goOn_2 : decode cX5_goOn 2 = .ok (.getfield 38, 3) := dq_g99.2.2.1
theorem dX5_goOn_5 : decode cX5_goOn 5 = .ok (.if_icmp .ge 9, 3) := dq_g99.2.2.2.1
theorem dX5_goOn_8 : decode cX5_goOn 8 = .ok (.iload_n 2, 1) := dq_g99.2.2.2.2.1
theorem dX5_goOn_9 : decode cX5_goOn 9 = .ok (.bipush 8, 2) := dq_g99.2.2.2.2.2.1
theorem dX5_goOn_11 : decode cX5_goOn 11 = .ok (.if_icmp .lt 42, 3) := dq_g99.2.2.2.2.2.2.1
theorem dX5_goOn_14 : decode cX5_goOn 14 = .ok (.aload_n 0, 1) := dq_g99.2.2.2.2.2.2.2.1
theorem dX5_goOn_15 : decode cX5_goOn 15 = .ok (.getfield 27, 3) := dq_g99.2.2.2.2.2.2.2.2.1
theorem dX5_goOn_18 : decode cX5_goOn 18 = .ok (.iconst (-1), 1) := dq_g99.2.2.2.2.2.2.2.2.2.1
theorem dX5_goOn_19 : decode cX5_goOn 19 = .ok (.if_icmp .eq 12, 3) := dq_g99.2.2.2.2.2.2.2.2.2.2.1
theorem dX5_goOn_22 : decode cX5_goOn 22 = .ok (.iload 4, 2) := dq_g99.2.2.2.2.2.2.2.2.2.2.2.1
theorem dX5_goOn_24 : decode cX5_goOn 24 = .ok (.aload_n 0, 1) := dq_g99.2.2.2.2.2.2.2.2.2.2.2.2.1
theorem dX5_goOn_25 : decode cX5_goOn 25 = .ok (.getfield 27, 3) := dq_g99.2.2.2.2.2.2.2.2.2.2.2.2.2.1
theorem dX5_goOn_28 : decode cX5_goOn 28 = .ok (.if_icmp .ge 24, 3) := dq_g99.2.2.2.2.2.2.2.2.2.2.2.2.2.2.1
theorem dX5_goOn_31 : decode cX5_goOn 31 = .ok (.aload_n 0, 1) := dq_g99.2.2.2.2.2.2.2.2.2.2.2.2.2.2.2.1
theorem dX5_goOn_32 : decode cX5_goOn 32 = .ok (.iload 4, 2) := dq_g99.2.2.2.2.2.2.2.2.2.2.2.2.2.2.2.2.1
theorem dX5_goOn_34 : decode cX5_goOn 34 = .ok (.putfield 27, 3) := dq_g99.2.2.2.2.2.2.2.2.2.2.2.2.2.2.2.2.2.1
theorem dX5_goOn_37 : decode cX5_goOn 37 = .ok (.aload_n 0, 1) := dq_g99.2.2.2.2.2.2.2.2.2.2.2.2.2.2.2.2.2.2.1
theorem dX5_goOn_38 : decode cX5_goOn 38 = .ok (.getfield 15, 3) := dq_g99.2.2.2.2.2.2.2.2.2.2.2.2.2.2.2.2.2.2.2.1
theorem dX5_goOn_41 : decode cX5_goOn 41 = .ok (.iconst 0, 1) := dq_g99.2.2.2.2.2.2.2.2.2.2.2.2.2.2.2.2.2.2.2.2.1
theorem dX5_goOn_42 : decode cX5_goOn 42 = .ok (.aload_n 0, 1) := dq_g99.2.2.2.2.2.2.2.2.2.2.2.2.2.2.2.2.2.2.2.2.2.1
theorem dX5_goOn_43 : decode cX5_goOn 43 = .ok (.getfield 9, 3) := dq_g99.2.2.2.2.2.2.2.2.2.2.2.2.2.2.2.2.2.2.2.2.2.2.1
theorem dX5_goOn_46 : decode cX5_goOn 46 = .ok (.iconst 0, 1) := dq_g99.2.2.2.2.2.2.2.2.2.2.2.2.2.2.2.2.2.2.2.2.2.2.2.1
theorem dX5_goOn_47 : decode cX5_goOn 47 = .ok (.bipush 8, 2) := dq_g99.2.2.2.2.2.2.2.2.2.2.2.2.2.2.2.2.2.2.2.2.2.2.2.2.1
theorem dX5_goOn_49 : decode cX5_goOn 49 = .ok (.invokestatic 43, 3) := dq_g99.2.2.2.2.2.2.2.2.2.2.2.2.2.2.2.2.2.2.2.2.2.2.2.2.2.1
theorem dX5_goOn_52 : decode cX5_goOn 52 = .ok (.return_, 1) := dq_g99.2.2.2.2.2.2.2.2.2.2.2.2.2.2.2.2.2.2.2.2.2.2.2.2.2.2.1
theorem dX5_goOn_53 : decode cX5_goOn 53 = .ok (.iconst 0, 1) := dq_g99.2.2.2.2.2.2.2.2.2.2.2.2.2.2.2.2.2.2.2.2.2.2.2.2.2.2.2.1
theorem dX5_goOn_54 : decode cX5_goOn 54 = .ok (.istore 5, 2) := dq_g99.2.2.2.2.2.2.2.2.2.2.2.2.2.2.2.2.2.2.2.2.2.2.2.2.2.2.2.2.1
theorem dX5_goOn_56 : decode cX5_goOn 56 = .ok (.iload 5, 2) := dq_g99.2.2.2.2.2.2.2.2.2.2.2.2.2.2.2.2.2.2.2.2.2.2.2.2.2.2.2.2.2.1
theorem dq_g100 : decode cX5_goOn 58 = .ok (.aload_n 1, 1) ∧ decode cX5_goOn 59 = .ok (.getfield 49, 3) ∧ decode cX5_goOn 62 = .ok (.if_icmp .ge 96, 3) ∧ decode cX5_goOn 65 = .ok (.aload_n 1, 1) ∧ decode cX5_goOn 66 = .ok (.getfield 52, 3) ∧ decode cX5_goOn 69 = .ok (.iload 5, 2) ∧ decode cX5_goOn 71 = .ok (.iaload, 1) ∧ decode cX5_goOn 72 = .ok (.aload_n 1, 1) ∧ decode cX5_goOn 73 = .ok (.getfield 55, 3) ∧ decode cX5_goOn 76 = .ok (.iload_n 2, 1) ∧ decode cX5_goOn 77 = .ok (.iaload, 1) ∧ decode cX5_goOn 78 = .ok (.isub, 1) ∧ decode cX5_goOn 79 = .ok (.istore 6, 2) ∧ decode cX5_goOn 81 = .ok (.iload_n 3, 1) ∧ decode cX5_goOn 82 = .ok (.iconst 1, 1) ∧ decode cX5_goOn 83 = .ok (.iload 5, 2) ∧ decode cX5_goOn 85 = .ok (.ishl, 1) ∧ decode cX5_goOn 86 = .ok (.ior, 1) ∧ decode cX5_goOn 87 = .ok (.istore 7, 2) ∧ decode cX5_goOn 89 = .ok (.iload 7, 2) ∧ decode cX5_goOn 91 = .ok (.iload_n 3, 1) ∧ decode cX5_goOn 92 = .ok (.if_icmp .eq 60, 3) ∧ decode cX5_goOn 95 = .ok (.iload 6, 2) ∧ decode cX5_goOn 97 = .ok (.ifCond .lt 55, 3) ∧ decode cX5_goOn 100 = .ok (.aload_n 0, 1) ∧ decode cX5_goOn 101 = .ok (.getfield 18, 3) ∧ decode cX5_goOn 104 = .ok (.iload 7, 2) ∧ decode cX5_goOn 106 = .ok (.iaload, 1) ∧ decode cX5_goOn 107 = .ok (.ifCond .ne 45, 3) ∧ decode cX5_goOn 110 = .ok (.aload_n 0, 1) ∧ True := dqC_ok (c := cX5_goOn) [(58, 1, some (.aload_n 1)), (59, 3, some (.getfield 49)), (62, 3, some (.if_icmp .ge 96)), (65, 1, some (.aload_n 1)), (66, 3, some (.getfield 52)), (69, 2, some (.iload 5)), (71, 1, some (.iaload)), (72, 1, some (.aload_n 1)), (73, 3, some (.getfield 55)), (76, 1, some (.iload_n 2)), (77, 1, some (.iaload)), (78, 1, some (.isub)), (79, 2, some (.istore 6)), (81, 1, some (.iload_n 3)), (82, 1, some (.iconst 1)), (83, 2, some (.iload 5)), (85, 1, some (.ishl)), (86, 1, some (.ior)), (87, 2, some (.istore 7)), (89, 2, some (.iload 7)), (91, 1, some (.iload_n 3)), (92, 3, some (.if_icmp .eq 60)), (95, 2, some (.iload 6)), (97, 3, some (.ifCond .lt 55)), (100, 1, some (.aload_n 0)), (101, 3, some (.getfield 18)), (104, 2, some (.iload 7)), (106, 1, some (.iaload)), (107, 3, some (.ifCond .ne 45)), (110, 1, some (.aload_n 0))] _ 58 rfl (by decide +kernel)
theorem dX5_goOn_58 : decode cX5_goOn 58 = .ok (.aload_n 1, 1) := dq_g100.1
theorem dX5_goOn_59 : decode cX5_goOn 59 = .ok (.getfield 49, 3) := dq_g100.2.1
theorem dX5_goOn_62 : decode cX5_goOn 62 = .ok (.if_icmp .ge 96, 3) := dq_g100.2.2.1
theorem dX5_goOn_65 : decode cX5_goOn 65 = .ok (.aload_n 1, 1) := dq_g100.2.2.2.1
theorem dX5_goOn_66 : decode cX5_goOn 66 = .ok (.getfield 52, 3) := dq_g100.2.2.2.2.1
theorem dX5_goOn_69 : decode cX5_goOn 69 = .ok (.iload 5, 2) := dq_g100.2.2.2.2.2.1
theorem dX5_goOn_71 : decode cX5_goOn 71 = .ok (.iaload, 1) := dq_g100.2.2.2.2.2.2.1
theorem dX5_goOn_72 : decode cX5_goOn 72 = .ok (.aload_n 1, 1) := dq_g100.2.2.2.2.2.2.2.1
theorem dX5_goOn_73 : decode cX5_goOn 73 = .ok (.getfield 55, 3) := dq_g100.2.2.2.2.2.2.2.2.1
theorem dX5_goOn_76 : decode cX5_goOn 76 = .ok (.iload_n 2, 1) := dq_g100.2.2.2.2.2.2.2.2.2.1
theorem dX5_goOn_77 : decode cX5_goOn 77 = .ok (.iaload, 1) := dq_g100.2.2.2.2.2.2.2.2.2.2.1
theorem dX5_goOn_78 : decode cX5_goOn 78 = .ok (.isub, 1) := dq_g100.2.2.2.2.2.2.2.2.2.2.2.1
theorem dX5_goOn_79 : decode cX5_goOn 79 = .ok (.istore 6, 2) := dq_g100.2.2.2.2.2.2.2.2.2.2.2.2.1
theorem dX5_goOn_81 : decode cX5_goOn 81 = .ok (.iload_n 3, 1) := dq_g100.2.2.2.2.2.2.2.2.2.2.2.2.2.1
theorem dX5_goOn_82 : decode cX5_goOn 82 = .ok (.iconst 1, 1) := dq_g100.2.2.2.2.2.2.2.2.2.2.2.2.2.2.1
theorem dX5_goOn_83 : decode cX5_goOn 83 = .ok (.iload 5, 2) := dq_g100.2.2.2.2.2.2.2.2.2.2.2.2.2.2.2.1
theorem dX5_goOn_85 : decode cX5_goOn 85 = .ok (.ishl, 1) := dq_g100.2.2.2.2.2.2.2.2.2.2.2.2.2.2.2.2.1
theorem dX5_goOn_86 : decode cX5_goOn 86 = .ok (.ior, 1) := dq_g100.2.2.2.2.2.2.2.2.2.2.2.2.2.2.2.2.2.1
theorem dX5_goOn_87 : decode cX5_goOn 87 = .ok (.istore 7, 2) := dq_g100.2.2.2.2.2.2.2.2.2.2.2.2.2.2.2.2.2.2.1
theorem dX5_goOn_89 : decode cX5_goOn 89 = .ok (.iload 7, 2) := dq_g100.2.2.2.2.2.2.2.2.2.2.2.2.2.2.2.2.2.2.2.1
theorem dX5_goOn_91 : decode cX5_goOn 91 = .ok (.iload_n 3, 1) := dq_g100.2.2.2.2.2.2.2.2.2.2.2.2.2.2.2.2.2.2.2.2.1
theorem dX5_goOn_92 : decode cX5_goOn 92 = .ok (.if_icmp .eq 60, 3) := dq_g100.2.2.2.2.2.2.2.2.2.2.2.2.2.2.2.2.2.2.2.2.2.1
theorem dX5_goOn_95 : decode cX5_goOn 95 = .ok (.iload 6, 2) := dq_g100.2.2.2.2.2.2.2.2.2.2.2.2.2.2.2.2.2.2.2.2.2.2.1
theorem dX5_goOn_97 : decode cX5_goOn 97 = .ok (.ifCond .lt 55, 3) := dq_g100.2.2.2.2.2.2.2.2.2.2.2.2.2.2.2.2.2.2.2.2.2.2.2.1
theorem dX5_goOn_100 : decode cX5_goOn 100 = .ok (.aload_n 0, 1) := dq_g100.2.2.2.2.2.2.2.2.2.2.2.2.2.2.2.2.2.2.2.2.2.2.2.2.1
theorem dX5_goOn_101 : decode cX5_goOn 101 = .ok (.getfield 18, 3) := dq_g100.2.2.2.2.2.2.2.2.2.2.2.2.2.2.2.2.2.2.2.2.2.2.2.2.2.1
theorem dX5_goOn_104 : decode cX5_goOn 104 = .ok (.iload 7, 2) := dq_g100.2.2.2.2.2.2.2.2.2.2.2.2.2.2.2.2.2.2.2.2.2.2.2.2.2.2.1
theorem dX5_goOn_106 : decode cX5_goOn 106 = .ok (.iaload, 1) := dq_g100.2.2.2.2.2.2.2.2.2.2.2.2.2.2.2.2.2.2.2.2.2.2.2.2.2.2.2.1
theorem dX5_goOn_107 : decode cX5_goOn 107 = .ok (.ifCond .ne 45, 3) := dq_g100.2.2.2.2.2.2.2.2.2.2.2.2.2.2.2.2.2.2.2.2.2.2.2.2.2.2.2.2.1
theorem dX5_goOn_110 : decode cX5_goOn 110 = .ok (.aload_n 0, 1) := dq_g100.2.2.2.2.2.2.2.2.2.2.2.2.2.2.2.2.2.2.2.2.2.2.2.2.2.2.2.2.2.1
theorem dq_g101 : decode cX5_goOn 111 = .ok (.aload_n 1, 1) ∧ decode cX5_goOn 112 = .ok (.iload_n 3, 1) ∧ decode cX5_goOn 113 = .ok (.iload 5, 2) ∧ decode cX5_goOn 115 = .ok (.invokevirtual 58, 3) ∧ decode cX5_goOn 118 = .ok (.ifCond .eq 34, 3) ∧ decode cX5_goOn 121 = .ok (.aload_n 0, 1) ∧ decode cX5_goOn 122 = .ok (.getfield 18, 3) ∧ decode cX5_goOn 125 = .ok (.iload 7, 2) ∧ decode cX5_goOn 127 = .ok (.iconst 1, 1) ∧ decode cX5_goOn 128 = .ok (.iastore, 1) ∧ decode cX5_goOn 129 = .ok (.aload_n 0, 1) ∧ decode cX5_goOn 130 = .ok (.getfield 15, 3) ∧ decode cX5_goOn 133 = .ok (.iload_n 2, 1) ∧ decode cX5_goOn 134 = .ok (.iload 5, 2) ∧ decode cX5_goOn 136 = .ok (.iastore, 1) ∧ decode cX5_goOn 137 = .ok (.aload_n 0, 1) ∧ decode cX5_goOn 138 = .ok (.aload_n 1, 1) ∧ decode cX5_goOn 139 = .ok (.iload_n 2, 1) ∧ decode cX5_goOn 140 = .ok (.iconst 1, 1) ∧ decode cX5_goOn 141 = .ok (.iadd, 1) ∧ decode cX5_goOn 142 = .ok (.iload 7, 2) ∧ decode cX5_goOn 144 = .ok (.iload 4, 2) ∧ decode cX5_goOn 146 = .ok (.iload 6, 2) ∧ decode cX5_goOn 148 = .ok (.iadd, 1) ∧ decode cX5_goOn 149 = .ok (.invokevirtual 34, 3) ∧ decode cX5_goOn 152 = .ok (.iinc 5 1, 3) ∧ decode cX5_goOn 155 = .ok (.goto (-99), 3) ∧ decode cX5_goOn 158 = .ok (.return_, 1) ∧ True := dqC_ok (c := cX5_goOn) [(111, 1, some (.aload_n 1)), (112, 1, some (.iload_n 3)), (113, 2, some (.iload 5)), (115, 3, some (.invokevirtual 58)), (118, 3, some (.ifCond .eq 34)), (121, 1, some (.aload_n 0)), (122, 3, some (.getfield 18)), (125, 2, some (.iload 7)), (127, 1, some (.iconst 1)), (128, 1, some (.iastore)), (129, 1, some (.aload_n 0)), (130, 3, some (.getfield 15)), (133, 1, some (.iload_n 2)), (134, 2, some (.iload 5)), (136, 1, some (.iastore)), (137, 1, some (.aload_n 0)), (138, 1, some (.aload_n 1)), (139, 1, some (.iload_n 2)), (140, 1, some (.iconst 1)), (141, 1, some (.iadd)), (142, 2, some (.iload 7)), (144, 2, some (.iload 4)), (146, 2, some (.iload 6)), (148, 1, some (.iadd)), (149, 3, some (.invokevirtual 34)), (152, 3, some (.iinc 5 1)), (155, 3, some (.goto (-99))), (158, 1, some (.return_))] _ 111 rfl (by decide +kernel)
theorem dX5_goOn_111 : decode cX5_goOn 111 = .ok (.aload_n 1, 1) := dq_g101.1
theorem dX5_goOn_112 : decode cX5_goOn 112 = .ok (.iload_n 3, 1) := dq_g101.2.1
theorem dX5_goOn_113 : decode cX5_goOn 113 = .ok (.iload 5, 2) := dq_g101.2.2.1
theorem dX5_goOn_115 : decode cX5_goOn 115 = .ok (.invokevirtual 58, 3) := dq_g101.2.2.2.1
theorem dX5_goOn_118 : decode cX5_goOn 118 = .ok (.ifCond .eq 34, 3) := dq_g101.2.2.2.2.1
theorem dX5_goOn_121 : decode cX5_goOn 121 = .ok (.aload_n 0, 1) := dq_g101.2.2.2.2.2.1
theorem dX5_goOn_122 : decode cX5_goOn 122 = .ok (.getfield 18, 3) := dq_g101.2.2.2.2.2.2.1
theorem dX5_goOn_125 : decode cX5_goOn 125 = .ok (.iload 7, 2) := dq_g101.2.2.2.2.2.2.2.1
theorem dX5_goOn_127 : decode cX5_goOn 127 = .ok (.iconst 1, 1) := dq_g101.2.2.2.2.2.2.2.2.1
theorem dX5_goOn_128 : decode cX5_goOn 128 = .ok (.iastore, 1) := dq_g101.2.2.2.2.2.2.2.2.2.1
theorem dX5_goOn_129 : decode cX5_goOn 129 = .ok (.aload_n 0, 1) := dq_g101.2.2.2.2.2.2.2.2.2.2.1
theorem dX5_goOn_130 : decode cX5_goOn 130 = .ok (.getfield 15, 3) := dq_g101.2.2.2.2.2.2.2.2.2.2.2.1
theorem dX5_goOn_133 : decode cX5_goOn 133 = .ok (.iload_n 2, 1) := dq_g101.2.2.2.2.2.2.2.2.2.2.2.2.1
theorem dX5_goOn_134 : decode cX5_goOn 134 = .ok (.iload 5, 2) := dq_g101.2.2.2.2.2.2.2.2.2.2.2.2.2.1
theorem dX5_goOn_136 : decode cX5_goOn 136 = .ok (.iastore, 1) := dq_g101.2.2.2.2.2.2.2.2.2.2.2.2.2.2.1
theorem dX5_goOn_137 : decode cX5_goOn 137 = .ok (.aload_n 0, 1) := dq_g101.2.2.2.2.2.2.2.2.2.2.2.2.2.2.2.1
theorem dX5_goOn_138 : decode cX5_goOn 138 = .ok (.aload_n 1, 1) := dq_g101.2.2.2.2.2.2.2.2.2.2.2.2.2.2.2.2.1
theorem dX5_goOn_139 : decode cX5_goOn 139 = .ok (.iload_n 2, 1) := dq_g101.2.2.2.2.2.2.2.2.2.2.2.2.2.2.2.2.2.1
theorem dX5_goOn_140 : decode cX5_goOn 140 = .ok (.iconst 1, 1) := dq_g101.2.2.2.2.2.2.2.2.2.2.2.2.2.2.2.2.2.2.1
theorem dX5_goOn_141 : decode cX5_goOn 141 = .ok (.iadd, 1) := dq_g101.2.2.2.2.2.2.2.2.2.2.2.2.2.2.2.2.2.2.2.1
theorem dX5_goOn_142 : decode cX5_goOn 142 = .ok (.iload 7, 2) := dq_g101.2.2.2.2.2.2.2.2.2.2.2.2.2.2.2.2.2.2.2.2.1
theorem dX5_goOn_144 : decode cX5_goOn 144 = .ok (.iload 4, 2) := dq_g101.2.2.2.2.2.2.2.2.2.2.2.2.2.2.2.2.2.2.2.2.2.1
theorem dX5_goOn_146 : decode cX5_goOn 146 = .ok (.iload 6, 2) := dq_g101.2.2.2.2.2.2.2.2.2.2.2.2.2.2.2.2.2.2.2.2.2.2.1
theorem dX5_goOn_148 : decode cX5_goOn 148 = .ok (.iadd, 1) := dq_g101.2.2.2.2.2.2.2.2.2.2.2.2.2.2.2.2.2.2.2.2.2.2.2.1
theorem dX5_goOn_149 : decode cX5_goOn 149 = .ok (.invokevirtual 34, 3) := dq_g101.2.2.2.2.2.2.2.2.2.2.2.2.2.2.2.2.2.2.2.2.2.2.2.2.1
theorem dX5_goOn_152 : decode cX5_goOn 152 = .ok (.iinc 5 1, 3) := dq_g101.2.2.2.2.2.2.2.2.2.2.2.2.2.2.2.2.2.2.2.2.2.2.2.2.2.1
theorem dX5_goOn_155 : decode cX5_goOn 155 = .ok (.goto (-99), 3) := dq_g101.2.2.2.2.2.2.2.2.2.2.2.2.2.2.2.2.2.2.2.2.2.2.2.2.2.2.1
theorem dX5_goOn_158 : decode cX5_goOn 158 = .ok (.return_, 1) := dq_g101.2.2.2.2.2.2.2.2.2.2.2.2.2.2.2.2.2.2.2.2.2.2.2.2.2.2.2.1
theorem dq_g102 : decode cX5_ringsTogether 0 = .ok (.iconst 0, 1) ∧ decode cX5_ringsTogether 1 = .ok (.istore 4, 2) ∧ decode cX5_ringsTogether 3 = .ok (.iload 4, 2) ∧ decode cX5_ringsTogether 5 = .ok (.aload_n 1, 1) ∧ decode cX5_ringsTogether 6 = .ok (.getfield 49, 3) ∧ decode cX5_ringsTogether 9 = .ok (.if_icmp .ge 45, 3) ∧ decode cX5_ringsTogether 12 = .ok (.iload_n 2, 1) ∧ decode cX5_ringsTogether 13 = .ok (.iload 4, 2) ∧ decode cX5_ringsTogether 15 = .ok (.ishr, 1) ∧ decode cX5_ringsTogether 16 = .ok (.iconst 1, 1) ∧ decode cX5_ringsTogether 17 = .ok (.iand, 1) ∧ decode cX5_ringsTogether 18 = .ok (.iconst 1, 1) ∧ decode cX5_ringsTogether 19 = .ok (.if_icmp .ne 29, 3) ∧ decode cX5_ringsTogether 22 = .ok (.aload_n 1, 1) ∧ decode cX5_ringsTogether 23 = .ok (.getfield 62, 3) ∧ decode cX5_ringsTogether 26 = .ok (.iload 4, 2) ∧ decode cX5_ringsTogether 28 = .ok (.iaload, 1) ∧ decode cX5_ringsTogether 29 = .ok (.aload_n 1, 1) ∧ decode cX5_ringsTogether 30 = .ok (.getfield 62, 3) ∧ decode cX5_ringsTogether 33 = .ok (.iload_n 3, 1) ∧ decode cX5_ringsTogether 34 = .ok (.iaload, 1) ∧ decode cX5_ringsTogether 35 = .ok (.isub, 1) ∧ decode cX5_ringsTogether 36 = .ok (.invokestatic 65, 3) ∧ decode cX5_ringsTogether 39 = .ok (.aload_n 0, 1) ∧ decode cX5_ringsTogether 40 = .ok (.getfield 31, 3) ∧ decode cX5_ringsTogether 43 = .ok (.if_icmp .le 5, 3) ∧ decode cX5_ringsTogether 46 = .ok (.iconst 0, 1) ∧ decode cX5_ringsTogether 47 = .ok (.ireturn, 1) ∧ decode cX5_ringsTogether 48 = .ok (.iinc 4 1, 3) ∧ decode cX5_ringsTogether 51 = .ok (.goto (-48), 3) ∧ True := dqC_ok (c := cX5_ringsTogether) [(0, 1, some (.iconst 0)), (1, 2, some (.istore 4)), (3, 2, some (.iload 4)), (5, 1, some (.aload_n 1)), (6, 3, some (.getfield 49)), (9, 3, some (.if_icmp .ge 45)), (12, 1, some (.iload_n 2)), (13, 2, some (.iload 4)), (15, 1, some (.ishr)), (16, 1, some (.iconst 1)), (17, 1, some (.iand)), (18, 1, some (.iconst 1)), (19, 3, some (.if_icmp .ne 29)), (22, 1, some (.aload_n 1)), (23, 3, some (.getfield 62)), (26, 2, some (.iload 4)), (28, 1, some (.iaload)), (29, 1, some (.aload_n 1)), (30, 3, some (.getfield 62)), (33, 1, some (.iload_n 3)), (34, 1, some (.iaload)), (35, 1, some (.isub)), (36, 3, some (.invokestatic 65)), (39, 1, some (.aload_n 0)), (40, 3, some (.getfield 31)), (43, 3, some (.if_icmp .le 5)), (46, 1, some (.iconst 0)), (47, 1, some (.ireturn)), (48, 3, some (.iinc 4 1)), (51, 3, some (.goto (-48)))] _ 0 rfl (by decide +kernel)
theorem dX5_ringsTogether_0 : decode cX5_ringsTogether 0 = .ok (.iconst 0, 1) := dq_g102.1
theorem dX5_ringsTogether_1 : decode cX5_ringsTogether 1 = .ok (.istore 4, 2) := dq_g102.2.1
theorem dX5_ringsTogether_3 : decode cX5_ringsTogether 3 = .ok (.iload 4, 2) := dq_g102.2.2.1
theorem dX5_ringsTogether_5 : decode cX5_ringsTogether 5 = .ok (.aload_n 1, 1) := dq_g102.2.2.2.1
theorem dX5_ringsTogether_6 : decode cX5_ringsTogether 6 = .ok (.getfield 49, 3) := dq_g102.2.2.2.2.1
theorem dX5_ringsTogether_9 : decode cX5_ringsTogether 9 = .ok (.if_icmp .ge 45, 3) := dq_g102.2.2.2.2.2.1
theorem dX5_ringsTogether_12 : decode cX5_ringsTogether 12 = .ok (.iload_n 2, 1) := dq_g102.2.2.2.2.2.2.1
theorem dX5_ringsTogether_13 : decode cX5_ringsTogether 13 = .ok (.iload 4, 2) := dq_g102.2.2.2.2.2.2.2.1
theorem dX5_ringsTogether_15 : decode cX5_ringsTogether 15 = .ok (.ishr, 1) := dq_g102.2.2.2.2.2.2.2.2.1
theorem dX5_ringsTogether_16 : decode cX5_ringsTogether 16 = .ok (.iconst 1, 1) := dq_g102.2.2.2.2.2.2.2.2.2.1
theorem dX5_ringsTogether_17 : decode cX5_ringsTogether 17 = .ok (.iand, 1) := dq_g102.2.2.2.2.2.2.2.2.2.2.1
theorem dX5_ringsTogether_18 : decode cX5_ringsTogether 18 = .ok (.iconst 1, 1) := dq_g102.2.2.2.2.2.2.2.2.2.2.2.1
theorem dX5_ringsTogether_19 : decode cX5_ringsTogether 19 = .ok (.if_icmp .ne 29, 3) := dq_g102.2.2.2.2.2.2.2.2.2.2.2.2.1
theorem dX5_ringsTogether_22 : decode cX5_ringsTogether 22 = .ok (.aload_n 1, 1) := dq_g102.2.2.2.2.2.2.2.2.2.2.2.2.2.1
theorem dX5_ringsTogether_23 : decode cX5_ringsTogether 23 = .ok (.getfield 62, 3) := dq_g102.2.2.2.2.2.2.2.2.2.2.2.2.2.2.1
theorem dX5_ringsTogether_26 : decode cX5_ringsTogether 26 = .ok (.iload 4, 2) := dq_g102.2.2.2.2.2.2.2.2.2.2.2.2.2.2.2.1
theorem dX5_ringsTogether_28 : decode cX5_ringsTogether 28 = .ok (.iaload, 1) := dq_g102.2.2.2.2.2.2.2.2.2.2.2.2.2.2.2.2.1
theorem dX5_ringsTogether_29 : decode cX5_ringsTogether 29 = .ok (.aload_n 1, 1) := dq_g102.2.2.2.2.2.2.2.2.2.2.2.2.2.2.2.2.2.1
theorem dX5_ringsTogether_30 : decode cX5_ringsTogether 30 = .ok (.getfield 62, 3) := dq_g102.2.2.2.2.2.2.2.2.2.2.2.2.2.2.2.2.2.2.1
theorem dX5_ringsTogether_33 : decode cX5_ringsTogether 33 = .ok (.iload_n 3, 1) := dq_g102.2.2.2.2.2.2.2.2.2.2.2.2.2.2.2.2.2.2.2.1
theorem dX5_ringsTogether_34 : decode cX5_ringsTogether 34 = .ok (.iaload, 1) := dq_g102.2.2.2.2.2.2.2.2.2.2.2.2.2.2.2.2.2.2.2.2.1
theorem dX5_ringsTogether_35 : decode cX5_ringsTogether 35 = .ok (.isub, 1) := dq_g102.2.2.2.2.2.2.2.2.2.2.2.2.2.2.2.2.2.2.2.2.2.1
theorem dX5_ringsTogether_36 : decode cX5_ringsTogether 36 = .ok (.invokestatic 65, 3) := dq_g102.2.2.2.2.2.2.2.2.2.2.2.2.2.2.2.2.2.2.2.2.2.2.1
theorem dX5_ringsTogether_39 : decode cX5_ringsTogether 39 = .ok (.aload_n 0, 1) := dq_g102.2.2.2.2.2.2.2.2.2.2.2.2.2.2.2.2.2.2.2.2.2.2.2.1
theorem dX5_ringsTogether_40 : decode cX5_ringsTogether 40 = .ok (.getfield 31, 3) := dq_g102.2.2.2.2.2.2.2.2.2.2.2.2.2.2.2.2.2.2.2.2.2.2.2.2.1
theorem dX5_ringsTogether_43 : decode cX5_ringsTogether 43 = .ok (.if_icmp .le 5, 3) := dq_g102.2.2.2.2.2.2.2.2.2.2.2.2.2.2.2.2.2.2.2.2.2.2.2.2.2.1
theorem dX5_ringsTogether_46 : decode cX5_ringsTogether 46 = .ok (.iconst 0, 1) := dq_g102.2.2.2.2.2.2.2.2.2.2.2.2.2.2.2.2.2.2.2.2.2.2.2.2.2.2.1
theorem dX5_ringsTogether_47 : decode cX5_ringsTogether 47 = .ok (.ireturn, 1) := dq_g102.2.2.2.2.2.2.2.2.2.2.2.2.2.2.2.2.2.2.2.2.2.2.2.2.2.2.2.1
theorem dX5_ringsTogether_48 : decode cX5_ringsTogether 48 = .ok (.iinc 4 1, 3) := dq_g102.2.2.2.2.2.2.2.2.2.2.2.2.2.2.2.2.2.2.2.2.2.2.2.2.2.2.2.2.1
theorem dX5_ringsTogether_51 : decode cX5_ringsTogether 51 = .ok (.goto (-48), 3) := dq_g102.2.2.2.2.2.2.2.2.2.2.2.2.2.2.2.2.2.2.2.2.2.2.2.2.2.2.2.2.2.1
theorem dq_g103 : decode cX5_ringsTogether 54 = .ok (.iconst 1, 1) ∧ decode cX5_ringsTogether 55 = .ok (.ireturn, 1) ∧ True := dqC_ok (c := cX5_ringsTogether) [(54, 1, some (.iconst 1)), (55, 1, some (.ireturn))] _ 54 rfl (by decide +kernel)
theorem dX5_ringsTogether_54 : decode cX5_ringsTogether 54 = .ok (.iconst 1, 1) := dq_g103.1
theorem dX5_ringsTogether_55 : decode cX5_ringsTogether 55 = .ok (.ireturn, 1) := dq_g103.2.1
theorem dq_g104 : decode cX6_init 0 = .ok (.aload_n 0, 1) ∧ decode cX6_init 1 = .ok (.invokespecial 3, 3) ∧ decode cX6_init 4 = .ok (.aload_n 0, 1) ∧ decode cX6_init 5 = .ok (.bipush 24, 2) ∧ decode cX6_init 9 = .ok (.putfield 9, 3) ∧ decode cX6_init 12 = .ok (.aload_n 0, 1) ∧ decode cX6_init 13 = .ok (.bipush 40, 2) ∧ decode cX6_init 17 = .ok (.putfield 15, 3) ∧ decode cX6_init 20 = .ok (.return_, 1) ∧ True := dqC_ok (c := cX6_init) [(0, 1, some (.aload_n 0)), (1, 3, some (.invokespecial 3)), (4, 1, some (.aload_n 0)), (5, 2, some (.bipush 24)), (7, 2, none), (9, 3, some (.putfield 9)), (12, 1, some (.aload_n 0)), (13, 2, some (.bipush 40)), (15, 2, none), (17, 3, some (.putfield 15)), (20, 1, some (.return_))] _ 0 rfl (by decide +kernel)
theorem dX6_init_0 : decode cX6_init 0 = .ok (.aload_n 0, 1) := dq_g104.1
theorem dX6_init_1 : decode cX6_init 1 = .ok (.invokespecial 3, 3) := dq_g104.2.1
theorem dX6_init_4 : decode cX6_init 4 = .ok (.aload_n 0, 1) := dq_g104.2.2.1
theorem dX6_init_5 : decode cX6_init 5 = .ok (.bipush 24, 2) := dq_g104.2.2.2.1
theorem dX6_init_9 : decode cX6_init 9 = .ok (.putfield 9, 3) := dq_g104.2.2.2.2.1
theorem dX6_init_12 : decode cX6_init 12 = .ok (.aload_n 0, 1) := dq_g104.2.2.2.2.2.1
theorem dX6_init_13 : decode cX6_init 13 = .ok (.bipush 40, 2) := dq_g104.2.2.2.2.2.2.1
theorem dX6_init_17 : decode cX6_init 17 = .ok (.putfield 15, 3) := dq_g104.2.2.2.2.2.2.2.1
theorem dX6_init_20 : decode cX6_init 20 = .ok (.return_, 1) := dq_g104.2.2.2.2.2.2.2.2.1
theorem dX6_init_7 : decode cX6_init 7 = .ok (.newarray .int, 2) := by decide +kernel
theorem dX6_init_15 : decode cX6_init 15 = .ok (.newarray .int, 2) := by decide +kernel
theorem dq_g105 : decode cX6_seeSlice 0 = .ok (.aload_n 0, 1) ∧ decode cX6_seeSlice 1 = .ok (.getfield 9, 3) ∧ decode cX6_seeSlice 4 = .ok (.bipush 11, 2) ∧ decode cX6_seeSlice 6 = .ok (.iload_n 2, 1) ∧ decode cX6_seeSlice 7 = .ok (.iastore, 1) ∧ decode cX6_seeSlice 8 = .ok (.aload_n 0, 1) ∧ decode cX6_seeSlice 9 = .ok (.getfield 9, 3) ∧ decode cX6_seeSlice 12 = .ok (.bipush 12, 2) ∧ decode cX6_seeSlice 14 = .ok (.aload_n 1, 1) ∧ decode cX6_seeSlice 15 = .ok (.getfield 18, 3) ∧ decode cX6_seeSlice 18 = .ok (.iastore, 1) ∧ decode cX6_seeSlice 19 = .ok (.aload_n 0, 1) ∧ decode cX6_seeSlice 20 = .ok (.getfield 9, 3) ∧ decode cX6_seeSlice 23 = .ok (.bipush 13, 2) ∧ decode cX6_seeSlice 25 = .ok (.iconst 2, 1) ∧ decode cX6_seeSlice 26 = .ok (.iload_n 2, 1) ∧ decode cX6_seeSlice 27 = .ok (.imul, 1) ∧ decode cX6_seeSlice 28 = .ok (.iconst 1, 1) ∧ decode cX6_seeSlice 29 = .ok (.iadd, 1) ∧ decode cX6_seeSlice 30 = .ok (.aload_n 1, 1) ∧ decode cX6_seeSlice 31 = .ok (.getfield 18, 3) ∧ decode cX6_seeSlice 34 = .ok (.isub, 1) ∧ decode cX6_seeSlice 35 = .ok (.invokestatic 24, 3) ∧ decode cX6_seeSlice 38 = .ok (.iastore, 1) ∧ decode cX6_seeSlice 39 = .ok (.aload_n 0, 1) ∧ decode cX6_seeSlice 40 = .ok (.getfield 9, 3) ∧ decode cX6_seeSlice 43 = .ok (.bipush 14, 2) ∧ decode cX6_seeSlice 45 = .ok (.iload_n 2, 1) ∧ decode cX6_seeSlice 46 = .ok (.aload_n 1, 1) ∧ decode cX6_seeSlice 47 = .ok (.getfield 18, 3) ∧ True := dqC_ok (c := cX6_seeSlice) [(0, 1, some (.aload_n 0)), (1, 3, some (.getfield 9)), (4, 2, some (.bipush 11)), (6, 1, some (.iload_n 2)), (7, 1, some (.iastore)), (8, 1, some (.aload_n 0)), (9, 3, some (.getfield 9)), (12, 2, some (.bipush 12)), (14, 1, some (.aload_n 1)), (15, 3, some (.getfield 18)), (18, 1, some (.iastore)), (19, 1, some (.aload_n 0)), (20, 3, some (.getfield 9)), (23, 2, some (.bipush 13)), (25, 1, some (.iconst 2)), (26, 1, some (.iload_n 2)), (27, 1, some (.imul)), (28, 1, some (.iconst 1)), (29, 1, some (.iadd)), (30, 1, some (.aload_n 1)), (31, 3, some (.getfield 18)), (34, 1, some (.isub)), (35, 3, some (.invokestatic 24)), (38, 1, some (.iastore)), (39, 1, some (.aload_n 0)), (40, 3, some (.getfield 9)), (43, 2, some (.bipush 14)), (45, 1, some (.iload_n 2)), (46, 1, some (.aload_n 1)), (47, 3, some (.getfield 18))] _ 0 rfl (by decide +kernel)
theorem dX6_seeSlice_0 : decode cX6_seeSlice 0 = .ok (.aload_n 0, 1) := dq_g105.1
theorem dX6_seeSlice_1 : decode cX6_seeSlice 1 = .ok (.getfield 9, 3) := dq_g105.2.1
theorem dX6_seeSlice_4 : decode cX6_seeSlice 4 = .ok (.bipush 11, 2) := dq_g105.2.2.1
theorem dX6_seeSlice_6 : decode cX6_seeSlice 6 = .ok (.iload_n 2, 1) := dq_g105.2.2.2.1
theorem dX6_seeSlice_7 : decode cX6_seeSlice 7 = .ok (.iastore, 1) := dq_g105.2.2.2.2.1
theorem dX6_seeSlice_8 : decode cX6_seeSlice 8 = .ok (.aload_n 0, 1) := dq_g105.2.2.2.2.2.1
theorem dX6_seeSlice_9 : decode cX6_seeSlice 9 = .ok (.getfield 9, 3) := dq_g105.2.2.2.2.2.2.1
theorem dX6_seeSlice_12 : decode cX6_seeSlice 12 = .ok (.bipush 12, 2) := dq_g105.2.2.2.2.2.2.2.1
theorem dX6_seeSlice_14 : decode cX6_seeSlice 14 = .ok (.aload_n 1, 1) := dq_g105.2.2.2.2.2.2.2.2.1
theorem dX6_seeSlice_15 : decode cX6_seeSlice 15 = .ok (.getfield 18, 3) := dq_g105.2.2.2.2.2.2.2.2.2.1
theorem dX6_seeSlice_18 : decode cX6_seeSlice 18 = .ok (.iastore, 1) := dq_g105.2.2.2.2.2.2.2.2.2.2.1
theorem dX6_seeSlice_19 : decode cX6_seeSlice 19 = .ok (.aload_n 0, 1) := dq_g105.2.2.2.2.2.2.2.2.2.2.2.1
theorem dX6_seeSlice_20 : decode cX6_seeSlice 20 = .ok (.getfield 9, 3) := dq_g105.2.2.2.2.2.2.2.2.2.2.2.2.1
theorem dX6_seeSlice_23 : decode cX6_seeSlice 23 = .ok (.bipush 13, 2) := dq_g105.2.2.2.2.2.2.2.2.2.2.2.2.2.1
theorem dX6_seeSlice_25 : decode cX6_seeSlice 25 = .ok (.iconst 2, 1) := dq_g105.2.2.2.2.2.2.2.2.2.2.2.2.2.2.1
theorem dX6_seeSlice_26 : decode cX6_seeSlice 26 = .ok (.iload_n 2, 1) := dq_g105.2.2.2.2.2.2.2.2.2.2.2.2.2.2.2.1
theorem dX6_seeSlice_27 : decode cX6_seeSlice 27 = .ok (.imul, 1) := dq_g105.2.2.2.2.2.2.2.2.2.2.2.2.2.2.2.2.1
theorem dX6_seeSlice_28 : decode cX6_seeSlice 28 = .ok (.iconst 1, 1) := dq_g105.2.2.2.2.2.2.2.2.2.2.2.2.2.2.2.2.2.1
theorem dX6_seeSlice_29 : decode cX6_seeSlice 29 = .ok (.iadd, 1) := dq_g105.2.2.2.2.2.2.2.2.2.2.2.2.2.2.2.2.2.2.1
theorem dX6_seeSlice_30 : decode cX6_seeSlice 30 = .ok (.aload_n 1, 1) := dq_g105.2.2.2.2.2.2.2.2.2.2.2.2.2.2.2.2.2.2.2.1
theorem dX6_seeSlice_31 : decode cX6_seeSlice 31 = .ok (.getfield 18, 3) := dq_g105.2.2.2.2.2.2.2.2.2.2.2.2.2.2.2.2.2.2.2.2.1
theorem dX6_seeSlice_34 : decode cX6_seeSlice 34 = .ok (.isub, 1) := dq_g105.2.2.2.2.2.2.2.2.2.2.2.2.2.2.2.2.2.2.2.2.2.1
theorem dX6_seeSlice_35 : decode cX6_seeSlice 35 = .ok (.invokestatic 24, 3) := dq_g105.2.2.2.2.2.2.2.2.2.2.2.2.2.2.2.2.2.2.2.2.2.2.1
theorem dX6_seeSlice_38 : decode cX6_seeSlice 38 = .ok (.iastore, 1) := dq_g105.2.2.2.2.2.2.2.2.2.2.2.2.2.2.2.2.2.2.2.2.2.2.2.1
theorem dX6_seeSlice_39 : decode cX6_seeSlice 39 = .ok (.aload_n 0, 1) := dq_g105.2.2.2.2.2.2.2.2.2.2.2.2.2.2.2.2.2.2.2.2.2.2.2.2.1
theorem dX6_seeSlice_40 : decode cX6_seeSlice 40 = .ok (.getfield 9, 3) := dq_g105.2.2.2.2.2.2.2.2.2.2.2.2.2.2.2.2.2.2.2.2.2.2.2.2.2.1
theorem dX6_seeSlice_43 : decode cX6_seeSlice 43 = .ok (.bipush 14, 2) := dq_g105.2.2.2.2.2.2.2.2.2.2.2.2.2.2.2.2.2.2.2.2.2.2.2.2.2.2.1
theorem dX6_seeSlice_45 : decode cX6_seeSlice 45 = .ok (.iload_n 2, 1) := dq_g105.2.2.2.2.2.2.2.2.2.2.2.2.2.2.2.2.2.2.2.2.2.2.2.2.2.2.2.1
theorem dX6_seeSlice_46 : decode cX6_seeSlice 46 = .ok (.aload_n 1, 1) := dq_g105.2.2.2.2.2.2.2.2.2.2.2.2.2.2.2.2.2.2.2.2.2.2.2.2.2.2.2.2.1
theorem dX6_seeSlice_47 : decode cX6_seeSlice 47 = .ok (.getfield 18, 3) := dq_g105.2.2.2.2.2.2.2.2.2.2.2.2.2.2.2.2.2.2.2.2.2.2.2.2.2.2.2.2.2.1
theorem dq_g106 : decode cX6_seeSlice 50 = .ok (.iconst 1, 1) ∧ decode cX6_seeSlice 51 = .ok (.isub, 1) ∧ decode cX6_seeSlice 52 = .ok (.iload_n 2, 1) ∧ decode cX6_seeSlice 53 = .ok (.isub, 1) ∧ decode cX6_seeSlice 54 = .ok (.invokestatic 30, 3) ∧ decode cX6_seeSlice 57 = .ok (.iastore, 1) ∧ decode cX6_seeSlice 58 = .ok (.aload_n 0, 1) ∧ decode cX6_seeSlice 59 = .ok (.getfield 9, 3) ∧ decode cX6_seeSlice 62 = .ok (.bipush 15, 2) ∧ decode cX6_seeSlice 64 = .ok (.iload_n 3, 1) ∧ decode cX6_seeSlice 65 = .ok (.iastore, 1) ∧ decode cX6_seeSlice 66 = .ok (.aload_n 0, 1) ∧ decode cX6_seeSlice 67 = .ok (.getfield 9, 3) ∧ decode cX6_seeSlice 70 = .ok (.bipush 16, 2) ∧ decode cX6_seeSlice 72 = .ok (.iload 4, 2) ∧ decode cX6_seeSlice 74 = .ok (.iastore, 1) ∧ decode cX6_seeSlice 75 = .ok (.aload_n 0, 1) ∧ decode cX6_seeSlice 76 = .ok (.getfield 9, 3) ∧ decode cX6_seeSlice 79 = .ok (.bipush 17, 2) ∧ decode cX6_seeSlice 81 = .ok (.aload_n 1, 1) ∧ decode cX6_seeSlice 82 = .ok (.getfield 34, 3) ∧ decode cX6_seeSlice 85 = .ok (.iload_n 2, 1) ∧ decode cX6_seeSlice 86 = .ok (.iaload, 1) ∧ decode cX6_seeSlice 87 = .ok (.iastore, 1) ∧ decode cX6_seeSlice 88 = .ok (.aload_n 0, 1) ∧ decode cX6_seeSlice 89 = .ok (.getfield 9, 3) ∧ decode cX6_seeSlice 92 = .ok (.bipush 6, 2) ∧ decode cX6_seeSlice 94 = .ok (.iload 5, 2) ∧ decode cX6_seeSlice 96 = .ok (.iastore, 1) ∧ decode cX6_seeSlice 97 = .ok (.aload_n 0, 1) ∧ True := dqC_ok (c := cX6_seeSlice) [(50, 1, some (.iconst 1)), (51, 1, some (.isub)), (52, 1, some (.iload_n 2)), (53, 1, some (.isub)), (54, 3, some (.invokestatic 30)), (57, 1, some (.iastore)), (58, 1, some (.aload_n 0)), (59, 3, some (.getfield 9)), (62, 2, some (.bipush 15)), (64, 1, some (.iload_n 3)), (65, 1, some (.iastore)), (66, 1, some (.aload_n 0)), (67, 3, some (.getfield 9)), (70, 2, some (.bipush 16)), (72, 2, some (.iload 4)), (74, 1, some (.iastore)), (75, 1, some (.aload_n 0)), (76, 3, some (.getfield 9)), (79, 2, some (.bipush 17)), (81, 1, some (.aload_n 1)), (82, 3, some (.getfield 34)), (85, 1, some (.iload_n 2)), (86, 1, some (.iaload)), (87, 1, some (.iastore)), (88, 1, some (.aload_n 0)), (89, 3, some (.getfield 9)), (92, 2, some (.bipush 6)), (94, 2, some (.iload 5)), (96, 1, some (.iastore)), (97, 1, some (.aload_n 0))] _ 50 rfl (by decide +kernel)
theorem dX6_seeSlice_50 : decode cX6_seeSlice 50 = .ok (.iconst 1, 1) := dq_g106.1
theorem dX6_seeSlice_51 : decode cX6_seeSlice 51 = .ok (.isub, 1) := dq_g106.2.1
theorem dX6_seeSlice_52 : decode cX6_seeSlice 52 = .ok (.iload_n 2, 1) := dq_g106.2.2.1
theorem dX6_seeSlice_53 : decode cX6_seeSlice 53 = .ok (.isub, 1) := dq_g106.2.2.2.1
theorem dX6_seeSlice_54 : decode cX6_seeSlice 54 = .ok (.invokestatic 30, 3) := dq_g106.2.2.2.2.1
theorem dX6_seeSlice_57 : decode cX6_seeSlice 57 = .ok (.iastore, 1) := dq_g106.2.2.2.2.2.1
theorem dX6_seeSlice_58 : decode cX6_seeSlice 58 = .ok (.aload_n 0, 1) := dq_g106.2.2.2.2.2.2.1
theorem dX6_seeSlice_59 : decode cX6_seeSlice 59 = .ok (.getfield 9, 3) := dq_g106.2.2.2.2.2.2.2.1
theorem dX6_seeSlice_62 : decode cX6_seeSlice 62 = .ok (.bipush 15, 2) := dq_g106.2.2.2.2.2.2.2.2.1
theorem dX6_seeSlice_64 : decode cX6_seeSlice 64 = .ok (.iload_n 3, 1) := dq_g106.2.2.2.2.2.2.2.2.2.1
theorem dX6_seeSlice_65 : decode cX6_seeSlice 65 = .ok (.iastore, 1) := dq_g106.2.2.2.2.2.2.2.2.2.2.1
theorem dX6_seeSlice_66 : decode cX6_seeSlice 66 = .ok (.aload_n 0, 1) := dq_g106.2.2.2.2.2.2.2.2.2.2.2.1
theorem dX6_seeSlice_67 : decode cX6_seeSlice 67 = .ok (.getfield 9, 3) := dq_g106.2.2.2.2.2.2.2.2.2.2.2.2.1
theorem dX6_seeSlice_70 : decode cX6_seeSlice 70 = .ok (.bipush 16, 2) := dq_g106.2.2.2.2.2.2.2.2.2.2.2.2.2.1
theorem dX6_seeSlice_72 : decode cX6_seeSlice 72 = .ok (.iload 4, 2) := dq_g106.2.2.2.2.2.2.2.2.2.2.2.2.2.2.1
theorem dX6_seeSlice_74 : decode cX6_seeSlice 74 = .ok (.iastore, 1) := dq_g106.2.2.2.2.2.2.2.2.2.2.2.2.2.2.2.1
theorem dX6_seeSlice_75 : decode cX6_seeSlice 75 = .ok (.aload_n 0, 1) := dq_g106.2.2.2.2.2.2.2.2.2.2.2.2.2.2.2.2.1
theorem dX6_seeSlice_76 : decode cX6_seeSlice 76 = .ok (.getfield 9, 3) := dq_g106.2.2.2.2.2.2.2.2.2.2.2.2.2.2.2.2.2.1
theorem dX6_seeSlice_79 : decode cX6_seeSlice 79 = .ok (.bipush 17, 2) := dq_g106.2.2.2.2.2.2.2.2.2.2.2.2.2.2.2.2.2.2.1
theorem dX6_seeSlice_81 : decode cX6_seeSlice 81 = .ok (.aload_n 1, 1) := dq_g106.2.2.2.2.2.2.2.2.2.2.2.2.2.2.2.2.2.2.2.1
theorem dX6_seeSlice_82 : decode cX6_seeSlice 82 = .ok (.getfield 34, 3) := dq_g106.2.2.2.2.2.2.2.2.2.2.2.2.2.2.2.2.2.2.2.2.1
theorem dX6_seeSlice_85 : decode cX6_seeSlice 85 = .ok (.iload_n 2, 1) := dq_g106.2.2.2.2.2.2.2.2.2.2.2.2.2.2.2.2.2.2.2.2.2.1
theorem dX6_seeSlice_86 : decode cX6_seeSlice 86 = .ok (.iaload, 1) := dq_g106.2.2.2.2.2.2.2.2.2.2.2.2.2.2.2.2.2.2.2.2.2.2.1
theorem dX6_seeSlice_87 : decode cX6_seeSlice 87 = .ok (.iastore, 1) := dq_g106.2.2.2.2.2.2.2.2.2.2.2.2.2.2.2.2.2.2.2.2.2.2.2.1
theorem dX6_seeSlice_88 : decode cX6_seeSlice 88 = .ok (.aload_n 0, 1) := dq_g106.2.2.2.2.2.2.2.2.2.2.2.2.2.2.2.2.2.2.2.2.2.2.2.2.1
theorem dX6_seeSlice_89 : decode cX6_seeSlice 89 = .ok (.getfield 9, 3) := dq_g106.2.2.2.2.2.2.2.2.2.2.2.2.2.2.2.2.2.2.2.2.2.2.2.2.2.1
theorem dX6_seeSlice_92 : decode cX6_seeSlice 92 = .ok (.bipush 6, 2) := dq_g106.2.2.2.2.2.2.2.2.2.2.2.2.2.2.2.2.2.2.2.2.2.2.2.2.2.2.1
theorem dX6_seeSlice_94 : decode cX6_seeSlice 94 = .ok (.iload 5, 2) := dq_g106.2.2.2.2.2.2.2.2.2.2.2.2.2.2.2.2.2.2.2.2.2.2.2.2.2.2.2.1
theorem dX6_seeSlice_96 : decode cX6_seeSlice 96 = .ok (.iastore, 1) := dq_g106.2.2.2.2.2.2.2.2.2.2.2.2.2.2.2.2.2.2.2.2.2.2.2.2.2.2.2.2.1
theorem dX6_seeSlice_97 : decode cX6_seeSlice 97 = .ok (.aload_n 0, 1) := dq_g106.2.2.2.2.2.2.2.2.2.2.2.2.2.2.2.2.2.2.2.2.2.2.2.2.2.2.2.2.2.1
theorem dq_g107 : decode cX6_seeSlice 98 = .ok (.getfield 9, 3) ∧ decode cX6_seeSlice 101 = .ok (.bipush 18, 2) ∧ decode cX6_seeSlice 103 = .ok (.iconst 0, 1) ∧ decode cX6_seeSlice 104 = .ok (.iastore, 1) ∧ decode cX6_seeSlice 105 = .ok (.aload_n 0, 1) ∧ decode cX6_seeSlice 106 = .ok (.getfield 9, 3) ∧ decode cX6_seeSlice 109 = .ok (.bipush 19, 2) ∧ decode cX6_seeSlice 111 = .ok (.iconst 0, 1) ∧ decode cX6_seeSlice 112 = .ok (.iastore, 1) ∧ decode cX6_seeSlice 113 = .ok (.return_, 1) ∧ True := dqC_ok (c := cX6_seeSlice) [(98, 3, some (.getfield 9)), (101, 2, some (.bipush 18)), (103, 1, some (.iconst 0)), (104, 1, some (.iastore)), (105, 1, some (.aload_n 0)), (106, 3, some (.getfield 9)), (109, 2, some (.bipush 19)), (111, 1, some (.iconst 0)), (112, 1, some (.iastore)), (113, 1, some (.return_))] _ 98 rfl (by decide +kernel)
theorem dX6_seeSlice_98 : decode cX6_seeSlice 98 = .ok (.getfield 9, 3) := dq_g107.1
theorem dX6_seeSlice_101 : decode cX6_seeSlice 101 = .ok (.bipush 18, 2) := dq_g107.2.1
theorem dX6_seeSlice_103 : decode cX6_seeSlice 103 = .ok (.iconst 0, 1) := dq_g107.2.2.1
theorem dX6_seeSlice_104 : decode cX6_seeSlice 104 = .ok (.iastore, 1) := dq_g107.2.2.2.1
theorem dX6_seeSlice_105 : decode cX6_seeSlice 105 = .ok (.aload_n 0, 1) := dq_g107.2.2.2.2.1
theorem dX6_seeSlice_106 : decode cX6_seeSlice 106 = .ok (.getfield 9, 3) := dq_g107.2.2.2.2.2.1
theorem dX6_seeSlice_109 : decode cX6_seeSlice 109 = .ok (.bipush 19, 2) := dq_g107.2.2.2.2.2.2.1
theorem dX6_seeSlice_111 : decode cX6_seeSlice 111 = .ok (.iconst 0, 1) := dq_g107.2.2.2.2.2.2.2.1
theorem dX6_seeSlice_112 : decode cX6_seeSlice 112 = .ok (.iastore, 1) := dq_g107.2.2.2.2.2.2.2.2.1
theorem dX6_seeSlice_113 : decode cX6_seeSlice 113 = .ok (.return_, 1) := dq_g107.2.2.2.2.2.2.2.2.2.1
theorem dq_g108 : decode cX6_seeAir 0 = .ok (.aload_n 0, 1) ∧ decode cX6_seeAir 1 = .ok (.getfield 9, 3) ∧ decode cX6_seeAir 4 = .ok (.iconst 0, 1) ∧ decode cX6_seeAir 5 = .ok (.invokestatic 37, 3) ∧ decode cX6_seeAir 8 = .ok (.aload_n 0, 1) ∧ decode cX6_seeAir 9 = .ok (.getfield 9, 3) ∧ decode cX6_seeAir 12 = .ok (.bipush 18, 2) ∧ decode cX6_seeAir 14 = .ok (.iload_n 1, 1) ∧ decode cX6_seeAir 15 = .ok (.iastore, 1) ∧ decode cX6_seeAir 16 = .ok (.aload_n 0, 1) ∧ decode cX6_seeAir 17 = .ok (.getfield 9, 3) ∧ decode cX6_seeAir 20 = .ok (.bipush 19, 2) ∧ decode cX6_seeAir 22 = .ok (.iload_n 2, 1) ∧ decode cX6_seeAir 23 = .ok (.iastore, 1) ∧ decode cX6_seeAir 24 = .ok (.return_, 1) ∧ True := dqC_ok (c := cX6_seeAir) [(0, 1, some (.aload_n 0)), (1, 3, some (.getfield 9)), (4, 1, some (.iconst 0)), (5, 3, some (.invokestatic 37)), (8, 1, some (.aload_n 0)), (9, 3, some (.getfield 9)), (12, 2, some (.bipush 18)), (14, 1, some (.iload_n 1)), (15, 1, some (.iastore)), (16, 1, some (.aload_n 0)), (17, 3, some (.getfield 9)), (20, 2, some (.bipush 19)), (22, 1, some (.iload_n 2)), (23, 1, some (.iastore)), (24, 1, some (.return_))] _ 0 rfl (by decide +kernel)
theorem dX6_seeAir_0 : decode cX6_seeAir 0 = .ok (.aload_n 0, 1) := dq_g108.1
theorem dX6_seeAir_1 : decode cX6_seeAir 1 = .ok (.getfield 9, 3) := dq_g108.2.1
theorem dX6_seeAir_4 : decode cX6_seeAir 4 = .ok (.iconst 0, 1) := dq_g108.2.2.1
theorem dX6_seeAir_5 : decode cX6_seeAir 5 = .ok (.invokestatic 37, 3) := dq_g108.2.2.2.1
theorem dX6_seeAir_8 : decode cX6_seeAir 8 = .ok (.aload_n 0, 1) := dq_g108.2.2.2.2.1
theorem dX6_seeAir_9 : decode cX6_seeAir 9 = .ok (.getfield 9, 3) := dq_g108.2.2.2.2.2.1
theorem dX6_seeAir_12 : decode cX6_seeAir 12 = .ok (.bipush 18, 2) := dq_g108.2.2.2.2.2.2.1
theorem dX6_seeAir_14 : decode cX6_seeAir 14 = .ok (.iload_n 1, 1) := dq_g108.2.2.2.2.2.2.2.1
theorem dX6_seeAir_15 : decode cX6_seeAir 15 = .ok (.iastore, 1) := dq_g108.2.2.2.2.2.2.2.2.1
theorem dX6_seeAir_16 : decode cX6_seeAir 16 = .ok (.aload_n 0, 1) := dq_g108.2.2.2.2.2.2.2.2.2.1
theorem dX6_seeAir_17 : decode cX6_seeAir 17 = .ok (.getfield 9, 3) := dq_g108.2.2.2.2.2.2.2.2.2.2.1
theorem dX6_seeAir_20 : decode cX6_seeAir 20 = .ok (.bipush 19, 2) := dq_g108.2.2.2.2.2.2.2.2.2.2.2.1
theorem dX6_seeAir_22 : decode cX6_seeAir 22 = .ok (.iload_n 2, 1) := dq_g108.2.2.2.2.2.2.2.2.2.2.2.2.1
theorem dX6_seeAir_23 : decode cX6_seeAir 23 = .ok (.iastore, 1) := dq_g108.2.2.2.2.2.2.2.2.2.2.2.2.2.1
theorem dX6_seeAir_24 : decode cX6_seeAir 24 = .ok (.return_, 1) := dq_g108.2.2.2.2.2.2.2.2.2.2.2.2.2.2.1
theorem dq_g109 : decode cX6_seeBar 0 = .ok (.aload_n 0, 1) ∧ decode cX6_seeBar 1 = .ok (.getfield 9, 3) ∧ decode cX6_seeBar 4 = .ok (.bipush 20, 2) ∧ decode cX6_seeBar 6 = .ok (.iload_n 1, 1) ∧ decode cX6_seeBar 7 = .ok (.iastore, 1) ∧ decode cX6_seeBar 8 = .ok (.aload_n 0, 1) ∧ decode cX6_seeBar 9 = .ok (.getfield 9, 3) ∧ decode cX6_seeBar 12 = .ok (.bipush 21, 2) ∧ decode cX6_seeBar 14 = .ok (.iload_n 2, 1) ∧ decode cX6_seeBar 15 = .ok (.iastore, 1) ∧ decode cX6_seeBar 16 = .ok (.aload_n 0, 1) ∧ decode cX6_seeBar 17 = .ok (.getfield 9, 3) ∧ decode cX6_seeBar 20 = .ok (.bipush 22, 2) ∧ decode cX6_seeBar 22 = .ok (.iload_n 3, 1) ∧ decode cX6_seeBar 23 = .ok (.iastore, 1) ∧ decode cX6_seeBar 24 = .ok (.aload_n 0, 1) ∧ decode cX6_seeBar 25 = .ok (.getfield 9, 3) ∧ decode cX6_seeBar 28 = .ok (.bipush 23, 2) ∧ decode cX6_seeBar 30 = .ok (.iload 4, 2) ∧ decode cX6_seeBar 32 = .ok (.iastore, 1) ∧ decode cX6_seeBar 33 = .ok (.return_, 1) ∧ True := dqC_ok (c := cX6_seeBar) [(0, 1, some (.aload_n 0)), (1, 3, some (.getfield 9)), (4, 2, some (.bipush 20)), (6, 1, some (.iload_n 1)), (7, 1, some (.iastore)), (8, 1, some (.aload_n 0)), (9, 3, some (.getfield 9)), (12, 2, some (.bipush 21)), (14, 1, some (.iload_n 2)), (15, 1, some (.iastore)), (16, 1, some (.aload_n 0)), (17, 3, some (.getfield 9)), (20, 2, some (.bipush 22)), (22, 1, some (.iload_n 3)), (23, 1, some (.iastore)), (24, 1, some (.aload_n 0)), (25, 3, some (.getfield 9)), (28, 2, some (.bipush 23)), (30, 2, some (.iload 4)), (32, 1, some (.iastore)), (33, 1, some (.return_))] _ 0 rfl (by decide +kernel)
theorem dX6_seeBar_0 : decode cX6_seeBar 0 = .ok (.aload_n 0, 1) := dq_g109.1
theorem dX6_seeBar_1 : decode cX6_seeBar 1 = .ok (.getfield 9, 3) := dq_g109.2.1
theorem dX6_seeBar_4 : decode cX6_seeBar 4 = .ok (.bipush 20, 2) := dq_g109.2.2.1
theorem dX6_seeBar_6 : decode cX6_seeBar 6 = .ok (.iload_n 1, 1) := dq_g109.2.2.2.1
theorem dX6_seeBar_7 : decode cX6_seeBar 7 = .ok (.iastore, 1) := dq_g109.2.2.2.2.1
theorem dX6_seeBar_8 : decode cX6_seeBar 8 = .ok (.aload_n 0, 1) := dq_g109.2.2.2.2.2.1
theorem dX6_seeBar_9 : decode cX6_seeBar 9 = .ok (.getfield 9, 3) := dq_g109.2.2.2.2.2.2.1
theorem dX6_seeBar_12 : decode cX6_seeBar 12 = .ok (.bipush 21, 2) := dq_g109.2.2.2.2.2.2.2.1
theorem dX6_seeBar_14 : decode cX6_seeBar 14 = .ok (.iload_n 2, 1) := dq_g109.2.2.2.2.2.2.2.2.1
theorem dX6_seeBar_15 : decode cX6_seeBar 15 = .ok (.iastore, 1) := dq_g109.2.2.2.2.2.2.2.2.2.1
theorem dX6_seeBar_16 : decode cX6_seeBar 16 = .ok (.aload_n 0, 1) := dq_g109.2.2.2.2.2.2.2.2.2.2.1
theorem dX6_seeBar_17 : decode cX6_seeBar 17 = .ok (.getfield 9, 3) := dq_g109.2.2.2.2.2.2.2.2.2.2.2.1
theorem dX6_seeBar_20 : decode cX6_seeBar 20 = .ok (.bipush 22, 2) := dq_g109.2.2.2.2.2.2.2.2.2.2.2.2.1
theorem dX6_seeBar_22 : decode cX6_seeBar 22 = .ok (.iload_n 3, 1) := dq_g109.2.2.2.2.2.2.2.2.2.2.2.2.2.1
theorem dX6_seeBar_23 : decode cX6_seeBar 23 = .ok (.iastore, 1) := dq_g109.2.2.2.2.2.2.2.2.2.2.2.2.2.2.1
theorem dX6_seeBar_24 : decode cX6_seeBar 24 = .ok (.aload_n 0, 1) := dq_g109.2.2.2.2.2.2.2.2.2.2.2.2.2.2.2.1
theorem dX6_seeBar_25 : decode cX6_seeBar 25 = .ok (.getfield 9, 3) := dq_g109.2.2.2.2.2.2.2.2.2.2.2.2.2.2.2.2.1
theorem dX6_seeBar_28 : decode cX6_seeBar 28 = .ok (.bipush 23, 2) := dq_g109.2.2.2.2.2.2.2.2.2.2.2.2.2.2.2.2.2.1
theorem dX6_seeBar_30 : decode cX6_seeBar 30 = .ok (.iload 4, 2) := dq_g109.2.2.2.2.2.2.2.2.2.2.2.2.2.2.2.2.2.2.1
theorem dX6_seeBar_32 : decode cX6_seeBar 32 = .ok (.iastore, 1) := dq_g109.2.2.2.2.2.2.2.2.2.2.2.2.2.2.2.2.2.2.2.1
theorem dX6_seeBar_33 : decode cX6_seeBar 33 = .ok (.return_, 1) := dq_g109.2.2.2.2.2.2.2.2.2.2.2.2.2.2.2.2.2.2.2.2.1
theorem dq_g110 : decode cX6_told 0 = .ok (.iconst 0, 1) ∧ decode cX6_told 1 = .ok (.istore 4, 2) ∧ decode cX6_told 3 = .ok (.iload 4, 2) ∧ decode cX6_told 5 = .ok (.aload_n 1, 1) ∧ decode cX6_told 6 = .ok (.getfield 43, 3) ∧ decode cX6_told 9 = .ok (.if_icmp .ge 117, 3) ∧ decode cX6_told 12 = .ok (.aload_n 1, 1) ∧ decode cX6_told 13 = .ok (.getfield 48, 3) ∧ decode cX6_told 16 = .ok (.iload 4, 2) ∧ decode cX6_told 18 = .ok (.iaload, 1) ∧ decode cX6_told 19 = .ok (.iload_n 2, 1) ∧ decode cX6_told 20 = .ok (.if_icmp .ne 100, 3) ∧ decode cX6_told 23 = .ok (.aload_n 1, 1) ∧ decode cX6_told 24 = .ok (.getfield 51, 3) ∧ decode cX6_told 27 = .ok (.iload 4, 2) ∧ decode cX6_told 29 = .ok (.iaload, 1) ∧ decode cX6_told 30 = .ok (.iload_n 3, 1) ∧ decode cX6_told 31 = .ok (.if_icmp .ne 89, 3) ∧ decode cX6_told 34 = .ok (.aload_n 1, 1) ∧ decode cX6_told 35 = .ok (.iload 4, 2) ∧ decode cX6_told 37 = .ok (.invokevirtual 54, 3) ∧ decode cX6_told 40 = .ok (.ifCond .eq 25, 3) ∧ decode cX6_told 43 = .ok (.aload_n 0, 1) ∧ decode cX6_told 44 = .ok (.aload_n 1, 1) ∧ decode cX6_told 45 = .ok (.aload_n 1, 1) ∧ decode cX6_told 46 = .ok (.getfield 58, 3) ∧ decode cX6_told 49 = .ok (.iload 4, 2) ∧ decode cX6_told 51 = .ok (.iaload, 1) ∧ decode cX6_told 52 = .ok (.aload_n 1, 1) ∧ decode cX6_told 53 = .ok (.getfield 61, 3) ∧ True := dqC_ok (c := cX6_told) [(0, 1, some (.iconst 0)), (1, 2, some (.istore 4)), (3, 2, some (.iload 4)), (5, 1, some (.aload_n 1)), (6, 3, some (.getfield 43)), (9, 3, some (.if_icmp .ge 117)), (12, 1, some (.aload_n 1)), (13, 3, some (.getfield 48)), (16, 2, some (.iload 4)), (18, 1, some (.iaload)), (19, 1, some (.iload_n 2)), (20, 3, some (.if_icmp .ne 100)), (23, 1, some (.aload_n 1)), (24, 3, some (.getfield 51)), (27, 2, some (.iload 4)), (29, 1, some (.iaload)), (30, 1, some (.iload_n 3)), (31, 3, some (.if_icmp .ne 89)), (34, 1, some (.aload_n 1)), (35, 2, some (.iload 4)), (37, 3, some (.invokevirtual 54)), (40, 3, some (.ifCond .eq 25)), (43, 1, some (.aload_n 0)), (44, 1, some (.aload_n 1)), (45, 1, some (.aload_n 1)), (46, 3, some (.getfield 58)), (49, 2, some (.iload 4)), (51, 1, some (.iaload)), (52, 1, some (.aload_n 1)), (53, 3, some (.getfield 61))] _ 0 rfl (by decide +kernel)
theorem dX6_told_0 : decode cX6_told 0 = .ok (.iconst 0, 1) := dq_g110.1
theorem dX6_told_1 : decode cX6_told 1 = .ok (.istore 4, 2) := dq_g110.2.1
theorem dX6_told_3 : decode cX6_told 3 = .ok (.iload 4, 2) := dq_g110.2.2.1
theorem dX6_told_5 : decode cX6_told 5 = .ok (.aload_n 1, 1) := dq_g110.2.2.2.1
theorem dX6_told_6 : decode cX6_told 6 = .ok (.getfield 43, 3) := dq_g110.2.2.2.2.1
theorem dX6_told_9 : decode cX6_told 9 = .ok (.if_icmp .ge 117, 3) := dq_g110.2.2.2.2.2.1
theorem dX6_told_12 : decode cX6_told 12 = .ok (.aload_n 1, 1) := dq_g110.2.2.2.2.2.2.1
theorem dX6_told_13 : decode cX6_told 13 = .ok (.getfield 48, 3) := dq_g110.2.2.2.2.2.2.2.1
theorem dX6_told_16 : decode cX6_told 16 = .ok (.iload 4, 2) := dq_g110.2.2.2.2.2.2.2.2.1
theorem dX6_told_18 : decode cX6_told 18 = .ok (.iaload, 1) := dq_g110.2.2.2.2.2.2.2.2.2.1
theorem dX6_told_19 : decode cX6_told 19 = .ok (.iload_n 2, 1) := dq_g110.2.2.2.2.2.2.2.2.2.2.1
theorem dX6_told_20 : decode cX6_told 20 = .ok (.if_icmp .ne 100, 3) := dq_g110.2.2.2.2.2.2.2.2.2.2.2.1
theorem dX6_told_23 : decode cX6_told 23 = .ok (.aload_n 1, 1) := dq_g110.2.2.2.2.2.2.2.2.2.2.2.2.1
theorem dX6_told_24 : decode cX6_told 24 = .ok (.getfield 51, 3) := dq_g110.2.2.2.2.2.2.2.2.2.2.2.2.2.1
theorem dX6_told_27 : decode cX6_told 27 = .ok (.iload 4, 2) := dq_g110.2.2.2.2.2.2.2.2.2.2.2.2.2.2.1
theorem dX6_told_29 : decode cX6_told 29 = .ok (.iaload, 1) := dq_g110.2.2.2.2.2.2.2.2.2.2.2.2.2.2.2.1
theorem dX6_told_30 : decode cX6_told 30 = .ok (.iload_n 3, 1) := dq_g110.2.2.2.2.2.2.2.2.2.2.2.2.2.2.2.2.1
theorem dX6_told_31 : decode cX6_told 31 = .ok (.if_icmp .ne 89, 3) := dq_g110.2.2.2.2.2.2.2.2.2.2.2.2.2.2.2.2.2.1
theorem dX6_told_34 : decode cX6_told 34 = .ok (.aload_n 1, 1) := dq_g110.2.2.2.2.2.2.2.2.2.2.2.2.2.2.2.2.2.2.1
theorem dX6_told_35 : decode cX6_told 35 = .ok (.iload 4, 2) := dq_g110.2.2.2.2.2.2.2.2.2.2.2.2.2.2.2.2.2.2.2.1
theorem dX6_told_37 : decode cX6_told 37 = .ok (.invokevirtual 54, 3) := dq_g110.2.2.2.2.2.2.2.2.2.2.2.2.2.2.2.2.2.2.2.2.1
theorem dX6_told_40 : decode cX6_told 40 = .ok (.ifCond .eq 25, 3) := dq_g110.2.2.2.2.2.2.2.2.2.2.2.2.2.2.2.2.2.2.2.2.2.1
theorem dX6_told_43 : decode cX6_told 43 = .ok (.aload_n 0, 1) := dq_g110.2.2.2.2.2.2.2.2.2.2.2.2.2.2.2.2.2.2.2.2.2.2.1
theorem dX6_told_44 : decode cX6_told 44 = .ok (.aload_n 1, 1) := dq_g110.2.2.2.2.2.2.2.2.2.2.2.2.2.2.2.2.2.2.2.2.2.2.2.1
theorem dX6_told_45 : decode cX6_told 45 = .ok (.aload_n 1, 1) := dq_g110.2.2.2.2.2.2.2.2.2.2.2.2.2.2.2.2.2.2.2.2.2.2.2.2.1
theorem dX6_told_46 : decode cX6_told 46 = .ok (.getfield 58, 3) := dq_g110.2.2.2.2.2.2.2.2.2.2.2.2.2.2.2.2.2.2.2.2.2.2.2.2.2.1
theorem dX6_told_49 : decode cX6_told 49 = .ok (.iload 4, 2) := dq_g110.2.2.2.2.2.2.2.2.2.2.2.2.2.2.2.2.2.2.2.2.2.2.2.2.2.2.1
theorem dX6_told_51 : decode cX6_told 51 = .ok (.iaload, 1) := dq_g110.2.2.2.2.2.2.2.2.2.2.2.2.2.2.2.2.2.2.2.2.2.2.2.2.2.2.2.1
theorem dX6_told_52 : decode cX6_told 52 = .ok (.aload_n 1, 1) := dq_g110.2.2.2.2.2.2.2.2.2.2.2.2.2.2.2.2.2.2.2.2.2.2.2.2.2.2.2.2.1
theorem dX6_told_53 : decode cX6_told 53 = .ok (.getfield 61, 3) := dq_g110.2.2.2.2.2.2.2.2.2.2.2.2.2.2.2.2.2.2.2.2.2.2.2.2.2.2.2.2.2.1
theorem dq_g111 : decode cX6_told 56 = .ok (.iload 4, 2) ∧ decode cX6_told 58 = .ok (.iaload, 1) ∧ decode cX6_told 59 = .ok (.invokevirtual 64, 3) ∧ decode cX6_told 62 = .ok (.ifCond .eq 58, 3) ∧ decode cX6_told 65 = .ok (.aload_n 0, 1) ∧ decode cX6_told 66 = .ok (.aload_n 1, 1) ∧ decode cX6_told 67 = .ok (.aload_n 1, 1) ∧ decode cX6_told 68 = .ok (.getfield 68, 3) ∧ decode cX6_told 71 = .ok (.iload 4, 2) ∧ decode cX6_told 73 = .ok (.iaload, 1) ∧ decode cX6_told 74 = .ok (.aload_n 1, 1) ∧ decode cX6_told 75 = .ok (.getfield 58, 3) ∧ decode cX6_told 78 = .ok (.iload 4, 2) ∧ decode cX6_told 80 = .ok (.iaload, 1) ∧ decode cX6_told 81 = .ok (.invokevirtual 64, 3) ∧ decode cX6_told 84 = .ok (.istore 5, 2) ∧ decode cX6_told 86 = .ok (.iload_n 2, 1) ∧ decode cX6_told 87 = .ok (.iconst 1, 1) ∧ decode cX6_told 88 = .ok (.if_icmp .gt 17, 3) ∧ decode cX6_told 91 = .ok (.iconst 0, 1) ∧ decode cX6_told 92 = .ok (.iload 5, 2) ∧ decode cX6_told 94 = .ok (.ldc 71, 2) ∧ decode cX6_told 96 = .ok (.invokestatic 30, 3) ∧ decode cX6_told 99 = .ok (.invokestatic 72, 3) ∧ decode cX6_told 102 = .ok (.goto 17, 3) ∧ decode cX6_told 105 = .ok (.sipush (-9999), 3) ∧ decode cX6_told 108 = .ok (.iload 5, 2) ∧ decode cX6_told 110 = .ok (.sipush 9999, 3) ∧ decode cX6_told 113 = .ok (.invokestatic 30, 3) ∧ decode cX6_told 116 = .ok (.invokestatic 72, 3) ∧ True := dqC_ok (c := cX6_told) [(56, 2, some (.iload 4)), (58, 1, some (.iaload)), (59, 3, some (.invokevirtual 64)), (62, 3, some (.ifCond .eq 58)), (65, 1, some (.aload_n 0)), (66, 1, some (.aload_n 1)), (67, 1, some (.aload_n 1)), (68, 3, some (.getfield 68)), (71, 2, some (.iload 4)), (73, 1, some (.iaload)), (74, 1, some (.aload_n 1)), (75, 3, some (.getfield 58)), (78, 2, some (.iload 4)), (80, 1, some (.iaload)), (81, 3, some (.invokevirtual 64)), (84, 2, some (.istore 5)), (86, 1, some (.iload_n 2)), (87, 1, some (.iconst 1)), (88, 3, some (.if_icmp .gt 17)), (91, 1, some (.iconst 0)), (92, 2, some (.iload 5)), (94, 2, some (.ldc 71)), (96, 3, some (.invokestatic 30)), (99, 3, some (.invokestatic 72)), (102, 3, some (.goto 17)), (105, 3, some (.sipush (-9999))), (108, 2, some (.iload 5)), (110, 3, some (.sipush 9999)), (113, 3, some (.invokestatic 30)), (116, 3, some (.invokestatic 72))] _ 56 rfl (by decide +kernel)
theorem dX6_told_56 : decode cX6_told 56 = .ok (.iload 4, 2) := dq_g111.1
theorem dX6_told_58 : decode cX6_told 58 = .ok (.iaload, 1) := dq_g111.2.1
theorem dX6_told_59 : decode cX6_told 59 = .ok (.invokevirtual 64, 3) := dq_g111.2.2.1
theorem dX6_told_62 : decode cX6_told 62 = .ok (.ifCond .eq 58, 3) := dq_g111.2.2.2.1
theorem dX6_told_65 : decode cX6_told 65 = .ok (.aload_n 0, 1) := dq_g111.2.2.2.2.1
theorem dX6_told_66 : decode cX6_told 66 = .ok (.aload_n 1, 1) := dq_g111.2.2.2.2.2.1
theorem dX6_told_67 : decode cX6_told 67 = .ok (.aload_n 1, 1) := dq_g111.2.2.2.2.2.2.1
theorem dX6_told_68 : decode cX6_told 68 = .ok (.getfield 68, 3) := dq_g111.2.2.2.2.2.2.2.1
theorem dX6_told_71 : decode cX6_told 71 = .ok (.iload 4, 2) := dq_g111.2.2.2.2.2.2.2.2.1
theorem dX6_told_73 : decode cX6_told 73 = .ok (.iaload, 1) := dq_g111.2.2.2.2.2.2.2.2.2.1
theorem dX6_told_74 : decode cX6_told 74 = .ok (.aload_n 1, 1) := dq_g111.2.2.2.2.2.2.2.2.2.2.1
theorem dX6_told_75 : decode cX6_told 75 = .ok (.getfield 58, 3) := dq_g111.2.2.2.2.2.2.2.2.2.2.2.1
theorem dX6_told_78 : decode cX6_told 78 = .ok (.iload 4, 2) := dq_g111.2.2.2.2.2.2.2.2.2.2.2.2.1
theorem dX6_told_80 : decode cX6_told 80 = .ok (.iaload, 1) := dq_g111.2.2.2.2.2.2.2.2.2.2.2.2.2.1
theorem dX6_told_81 : decode cX6_told 81 = .ok (.invokevirtual 64, 3) := dq_g111.2.2.2.2.2.2.2.2.2.2.2.2.2.2.1
theorem dX6_told_84 : decode cX6_told 84 = .ok (.istore 5, 2) := dq_g111.2.2.2.2.2.2.2.2.2.2.2.2.2.2.2.1
theorem dX6_told_86 : decode cX6_told 86 = .ok (.iload_n 2, 1) := dq_g111.2.2.2.2.2.2.2.2.2.2.2.2.2.2.2.2.1
theorem dX6_told_87 : decode cX6_told 87 = .ok (.iconst 1, 1) := dq_g111.2.2.2.2.2.2.2.2.2.2.2.2.2.2.2.2.2.1
theorem dX6_told_88 : decode cX6_told 88 = .ok (.if_icmp .gt 17, 3) := dq_g111.2.2.2.2.2.2.2.2.2.2.2.2.2.2.2.2.2.2.1
theorem dX6_told_91 : decode cX6_told 91 = .ok (.iconst 0, 1) := dq_g111.2.2.2.2.2.2.2.2.2.2.2.2.2.2.2.2.2.2.2.1
theorem dX6_told_92 : decode cX6_told 92 = .ok (.iload 5, 2) := dq_g111.2.2.2.2.2.2.2.2.2.2.2.2.2.2.2.2.2.2.2.2.1
theorem dX6_told_94 : decode cX6_told 94 = .ok (.ldc 71, 2) := dq_g111.2.2.2.2.2.2.2.2.2.2.2.2.2.2.2.2.2.2.2.2.2.1
theorem dX6_told_96 : decode cX6_told 96 = .ok (.invokestatic 30, 3) := dq_g111.2.2.2.2.2.2.2.2.2.2.2.2.2.2.2.2.2.2.2.2.2.2.1
theorem dX6_told_99 : decode cX6_told 99 = .ok (.invokestatic 72, 3) := dq_g111.2.2.2.2.2.2.2.2.2.2.2.2.2.2.2.2.2.2.2.2.2.2.2.1
theorem dX6_told_102 : decode cX6_told 102 = .ok (.goto 17, 3) := dq_g111.2.2.2.2.2.2.2.2.2.2.2.2.2.2.2.2.2.2.2.2.2.2.2.2.1
theorem dX6_told_105 : decode cX6_told 105 = .ok (.sipush (-9999), 3) := dq_g111.2.2.2.2.2.2.2.2.2.2.2.2.2.2.2.2.2.2.2.2.2.2.2.2.2.1
theorem dX6_told_108 : decode cX6_told 108 = .ok (.iload 5, 2) := dq_g111.2.2.2.2.2.2.2.2.2.2.2.2.2.2.2.2.2.2.2.2.2.2.2.2.2.2.1
theorem dX6_told_110 : decode cX6_told 110 = .ok (.sipush 9999, 3) := dq_g111.2.2.2.2.2.2.2.2.2.2.2.2.2.2.2.2.2.2.2.2.2.2.2.2.2.2.2.1
theorem dX6_told_113 : decode cX6_told 113 = .ok (.invokestatic 30, 3) := dq_g111.2.2.2.2.2.2.2.2.2.2.2.2.2.2.2.2.2.2.2.2.2.2.2.2.2.2.2.2.1
theorem dX6_told_116 : decode cX6_told 116 = .ok (.invokestatic 72, 3) := dq_g111.2.2.2.2.2.2.2.2.2.2.2.2.2.2.2.2.2.2.2.2.2.2.2.2.2.2.2.2.2.1
theorem dq_g112 : decode cX6_told 119 = .ok (.ireturn, 1) ∧ decode cX6_told 120 = .ok (.iinc 4 1, 3) ∧ decode cX6_told 123 = .ok (.goto (-120), 3) ∧ decode cX6_told 126 = .ok (.iconst 0, 1) ∧ decode cX6_told 127 = .ok (.ireturn, 1) ∧ True := dqC_ok (c := cX6_told) [(119, 1, some (.ireturn)), (120, 3, some (.iinc 4 1)), (123, 3, some (.goto (-120))), (126, 1, some (.iconst 0)), (127, 1, some (.ireturn))] _ 119 rfl (by decide +kernel)
theorem dX6_told_119 : decode cX6_told 119 = .ok (.ireturn, 1) := dq_g112.1
theorem dX6_told_120 : decode cX6_told 120 = .ok (.iinc 4 1, 3) := dq_g112.2.1
theorem dX6_told_123 : decode cX6_told 123 = .ok (.goto (-120), 3) := dq_g112.2.2.1
theorem dX6_told_126 : decode cX6_told 126 = .ok (.iconst 0, 1) := dq_g112.2.2.2.1
theorem dX6_told_127 : decode cX6_told 127 = .ok (.ireturn, 1) := dq_g112.2.2.2.2.1
theorem dq_g113 : decode cX6_toneOf 0 = .ok (.iconst 0, 1) ∧ decode cX6_toneOf 1 = .ok (.istore 7, 2) ∧ decode cX6_toneOf 3 = .ok (.iconst 0, 1) ∧ decode cX6_toneOf 4 = .ok (.istore 8, 2) ∧ decode cX6_toneOf 6 = .ok (.iconst 0, 1) ∧ decode cX6_toneOf 7 = .ok (.istore 9, 2) ∧ decode cX6_toneOf 9 = .ok (.iload 9, 2) ∧ decode cX6_toneOf 11 = .ok (.aload_n 3, 1) ∧ decode cX6_toneOf 12 = .ok (.getfield 18, 3) ∧ decode cX6_toneOf 15 = .ok (.if_icmp .ge 55, 3) ∧ decode cX6_toneOf 18 = .ok (.aload_n 0, 1) ∧ decode cX6_toneOf 19 = .ok (.aload_n 3, 1) ∧ decode cX6_toneOf 20 = .ok (.iload 9, 2) ∧ decode cX6_toneOf 22 = .ok (.aload 4, 2) ∧ decode cX6_toneOf 24 = .ok (.iload 9, 2) ∧ decode cX6_toneOf 26 = .ok (.iaload, 1) ∧ decode cX6_toneOf 27 = .ok (.aload 5, 2) ∧ decode cX6_toneOf 29 = .ok (.iload 9, 2) ∧ decode cX6_toneOf 31 = .ok (.iaload, 1) ∧ decode cX6_toneOf 32 = .ok (.aload 6, 2) ∧ decode cX6_toneOf 34 = .ok (.iload 9, 2) ∧ decode cX6_toneOf 36 = .ok (.iaload, 1) ∧ decode cX6_toneOf 37 = .ok (.invokevirtual 75, 3) ∧ decode cX6_toneOf 40 = .ok (.iload 7, 2) ∧ decode cX6_toneOf 42 = .ok (.aload_n 0, 1) ∧ decode cX6_toneOf 43 = .ok (.aload_n 1, 1) ∧ decode cX6_toneOf 44 = .ok (.iconst 0, 1) ∧ decode cX6_toneOf 45 = .ok (.iload_n 2, 1) ∧ decode cX6_toneOf 46 = .ok (.invokevirtual 79, 3) ∧ decode cX6_toneOf 49 = .ok (.iadd, 1) ∧ True := dqC_ok (c := cX6_toneOf) [(0, 1, some (.iconst 0)), (1, 2, some (.istore 7)), (3, 1, some (.iconst 0)), (4, 2, some (.istore 8)), (6, 1, some (.iconst 0)), (7, 2, some (.istore 9)), (9, 2, some (.iload 9)), (11, 1, some (.aload_n 3)), (12, 3, some (.getfield 18)), (15, 3, some (.if_icmp .ge 55)), (18, 1, some (.aload_n 0)), (19, 1, some (.aload_n 3)), (20, 2, some (.iload 9)), (22, 2, some (.aload 4)), (24, 2, some (.iload 9)), (26, 1, some (.iaload)), (27, 2, some (.aload 5)), (29, 2, some (.iload 9)), (31, 1, some (.iaload)), (32, 2, some (.aload 6)), (34, 2, some (.iload 9)), (36, 1, some (.iaload)), (37, 3, some (.invokevirtual 75)), (40, 2, some (.iload 7)), (42, 1, some (.aload_n 0)), (43, 1, some (.aload_n 1)), (44, 1, some (.iconst 0)), (45, 1, some (.iload_n 2)), (46, 3, some (.invokevirtual 79)), (49, 1, some (.iadd))] _ 0 rfl (by decide +kernel)
theorem dX6_toneOf_0 : decode cX6_toneOf 0 = .ok (.iconst 0, 1) := dq_g113.1
theorem dX6_toneOf_1 : decode cX6_toneOf 1 = .ok (.istore 7, 2) := dq_g113.2.1
theorem dX6_toneOf_3 : decode cX6_toneOf 3 = .ok (.iconst 0, 1) := dq_g113.2.2.1
theorem dX6_toneOf_4 : decode cX6_toneOf 4 = .ok (.istore 8, 2) := dq_g113.2.2.2.1
theorem dX6_toneOf_6 : decode cX6_toneOf 6 = .ok (.iconst 0, 1) := dq_g113.2.2.2.2.1
theorem dX6_toneOf_7 : decode cX6_toneOf 7 = .ok (.istore 9, 2) := dq_g113.2.2.2.2.2.1
theorem dX6_toneOf_9 : decode cX6_toneOf 9 = .ok (.iload 9, 2) := dq_g113.2.2.2.2.2.2.1
theorem dX6_toneOf_11 : decode cX6_toneOf 11 = .ok (.aload_n 3, 1) := dq_g113.2.2.2.2.2.2.2.1
theorem dX6_toneOf_12 : decode cX6_toneOf 12 = .ok (.getfield 18, 3) := dq_g113.2.2.2.2.2.2.2.2.1
theorem dX6_toneOf_15 : decode cX6_toneOf 15 = .ok (.if_icmp .ge 55, 3) := dq_g113.2.2.2.2.2.2.2.2.2.1
theorem dX6_toneOf_18 : decode cX6_toneOf 18 = .ok (.aload_n 0, 1) := dq_g113.2.2.2.2.2.2.2.2.2.2.1
theorem dX6_toneOf_19 : decode cX6_toneOf 19 = .ok (.aload_n 3, 1) := dq_g113.2.2.2.2.2.2.2.2.2.2.2.1
theorem dX6_toneOf_20 : decode cX6_toneOf 20 = .ok (.iload 9, 2) := dq_g113.2.2.2.2.2.2.2.2.2.2.2.2.1
theorem dX6_toneOf_22 : decode cX6_toneOf 22 = .ok (.aload 4, 2) := dq_g113.2.2.2.2.2.2.2.2.2.2.2.2.2.1
theorem dX6_toneOf_24 : decode cX6_toneOf 24 = .ok (.iload 9, 2) := dq_g113.2.2.2.2.2.2.2.2.2.2.2.2.2.2.1
theorem dX6_toneOf_26 : decode cX6_toneOf 26 = .ok (.iaload, 1) := dq_g113.2.2.2.2.2.2.2.2.2.2.2.2.2.2.2.1
theorem dX6_toneOf_27 : decode cX6_toneOf 27 = .ok (.aload 5, 2) := dq_g113.2.2.2.2.2.2.2.2.2.2.2.2.2.2.2.2.1
theorem dX6_toneOf_29 : decode cX6_toneOf 29 = .ok (.iload 9, 2) := dq_g113.2.2.2.2.2.2.2.2.2.2.2.2.2.2.2.2.2.1
theorem dX6_toneOf_31 : decode cX6_toneOf 31 = .ok (.iaload, 1) := dq_g113.2.2.2.2.2.2.2.2.2.2.2.2.2.2.2.2.2.2.1
theorem dX6_toneOf_32 : decode cX6_toneOf 32 = .ok (.aload 6, 2) := dq_g113.2.2.2.2.2.2.2.2.2.2.2.2.2.2.2.2.2.2.2.1
theorem dX6_toneOf_34 : decode cX6_toneOf 34 = .ok (.iload 9, 2) := dq_g113.2.2.2.2.2.2.2.2.2.2.2.2.2.2.2.2.2.2.2.2.1
theorem dX6_toneOf_36 : decode cX6_toneOf 36 = .ok (.iaload, 1) := dq_g113.2.2.2.2.2.2.2.2.2.2.2.2.2.2.2.2.2.2.2.2.2.1
theorem dX6_toneOf_37 : decode cX6_toneOf 37 = .ok (.invokevirtual 75, 3) := dq_g113.2.2.2.2.2.2.2.2.2.2.2.2.2.2.2.2.2.2.2.2.2.2.1
theorem dX6_toneOf_40 : decode cX6_toneOf 40 = .ok (.iload 7, 2) := dq_g113.2.2.2.2.2.2.2.2.2.2.2.2.2.2.2.2.2.2.2.2.2.2.2.1
theorem dX6_toneOf_42 : decode cX6_toneOf 42 = .ok (.aload_n 0, 1) := dq_g113.2.2.2.2.2.2.2.2.2.2.2.2.2.2.2.2.2.2.2.2.2.2.2.2.1
theorem dX6_toneOf_43 : decode cX6_toneOf 43 = .ok (.aload_n 1, 1) := dq_g113.2.2.2.2.2.2.2.2.2.2.2.2.2.2.2.2.2.2.2.2.2.2.2.2.2.1
theorem dX6_toneOf_44 : decode cX6_toneOf 44 = .ok (.iconst 0, 1) := dq_g113.2.2.2.2.2.2.2.2.2.2.2.2.2.2.2.2.2.2.2.2.2.2.2.2.2.2.1
theorem dX6_toneOf_45 : decode cX6_toneOf 45 = .ok (.iload_n 2, 1) := dq_g113.2.2.2.2.2.2.2.2.2.2.2.2.2.2.2.2.2.2.2.2.2.2.2.2.2.2.2.1
theorem dX6_toneOf_46 : decode cX6_toneOf 46 = .ok (.invokevirtual 79, 3) := dq_g113.2.2.2.2.2.2.2.2.2.2.2.2.2.2.2.2.2.2.2.2.2.2.2.2.2.2.2.2.1
theorem dX6_toneOf_49 : decode cX6_toneOf 49 = .ok (.iadd, 1) := dq_g113.2.2.2.2.2.2.2.2.2.2.2.2.2.2.2.2.2.2.2.2.2.2.2.2.2.2.2.2.2.1
theorem dq_g114 : decode cX6_toneOf 50 = .ok (.istore 7, 2) ∧ decode cX6_toneOf 52 = .ok (.iload 8, 2) ∧ decode cX6_toneOf 54 = .ok (.aload_n 0, 1) ∧ decode cX6_toneOf 55 = .ok (.aload_n 1, 1) ∧ decode cX6_toneOf 56 = .ok (.iconst 1, 1) ∧ decode cX6_toneOf 57 = .ok (.iload_n 2, 1) ∧ decode cX6_toneOf 58 = .ok (.invokevirtual 79, 3) ∧ decode cX6_toneOf 61 = .ok (.iadd, 1) ∧ decode cX6_toneOf 62 = .ok (.istore 8, 2) ∧ decode cX6_toneOf 64 = .ok (.iinc 9 1, 3) ∧ decode cX6_toneOf 67 = .ok (.goto (-58), 3) ∧ decode cX6_toneOf 70 = .ok (.iload 7, 2) ∧ decode cX6_toneOf 72 = .ok (.iload 8, 2) ∧ decode cX6_toneOf 74 = .ok (.invokestatic 82, 3) ∧ decode cX6_toneOf 77 = .ok (.ireturn, 1) ∧ True := dqC_ok (c := cX6_toneOf) [(50, 2, some (.istore 7)), (52, 2, some (.iload 8)), (54, 1, some (.aload_n 0)), (55, 1, some (.aload_n 1)), (56, 1, some (.iconst 1)), (57, 1, some (.iload_n 2)), (58, 3, some (.invokevirtual 79)), (61, 1, some (.iadd)), (62, 2, some (.istore 8)), (64, 3, some (.iinc 9 1)), (67, 3, some (.goto (-58))), (70, 2, some (.iload 7)), (72, 2, some (.iload 8)), (74, 3, some (.invokestatic 82)), (77, 1, some (.ireturn))] _ 50 rfl (by decide +kernel)
theorem dX6_toneOf_50 : decode cX6_toneOf 50 = .ok (.istore 7, 2) := dq_g114.1
theorem dX6_toneOf_52 : decode cX6_toneOf 52 = .ok (.iload 8, 2) := dq_g114.2.1
theorem dX6_toneOf_54 : decode cX6_toneOf 54 = .ok (.aload_n 0, 1) := dq_g114.2.2.1
theorem dX6_toneOf_55 : decode cX6_toneOf 55 = .ok (.aload_n 1, 1) := dq_g114.2.2.2.1
theorem dX6_toneOf_56 : decode cX6_toneOf 56 = .ok (.iconst 1, 1) := dq_g114.2.2.2.2.1
theorem dX6_toneOf_57 : decode cX6_toneOf 57 = .ok (.iload_n 2, 1) := dq_g114.2.2.2.2.2.1
theorem dX6_toneOf_58 : decode cX6_toneOf 58 = .ok (.invokevirtual 79, 3) := dq_g114.2.2.2.2.2.2.1
theorem dX6_toneOf_61 : decode cX6_toneOf 61 = .ok (.iadd, 1) := dq_g114.2.2.2.2.2.2.2.1
theorem dX6_toneOf_62 : decode cX6_toneOf 62 = .ok (.istore 8, 2) := dq_g114.2.2.2.2.2.2.2.2.1
theorem dX6_toneOf_64 : decode cX6_toneOf 64 = .ok (.iinc 9 1, 3) := dq_g114.2.2.2.2.2.2.2.2.2.1
theorem dX6_toneOf_67 : decode cX6_toneOf 67 = .ok (.goto (-58), 3) := dq_g114.2.2.2.2.2.2.2.2.2.2.1
theorem dX6_toneOf_70 : decode cX6_toneOf 70 = .ok (.iload 7, 2) := dq_g114.2.2.2.2.2.2.2.2.2.2.2.1
theorem dX6_toneOf_72 : decode cX6_toneOf 72 = .ok (.iload 8, 2) := dq_g114.2.2.2.2.2.2.2.2.2.2.2.2.1
theorem dX6_toneOf_74 : decode cX6_toneOf 74 = .ok (.invokestatic 82, 3) := dq_g114.2.2.2.2.2.2.2.2.2.2.2.2.2.1
theorem dX6_toneOf_77 : decode cX6_toneOf 77 = .ok (.ireturn, 1) := dq_g114.2.2.2.2.2.2.2.2.2.2.2.2.2.2.1
theorem dq_g115 : decode cX6_sumOf 0 = .ok (.iconst 0, 1) ∧ decode cX6_sumOf 1 = .ok (.istore 6, 2) ∧ decode cX6_sumOf 3 = .ok (.iconst 0, 1) ∧ decode cX6_sumOf 4 = .ok (.istore 7, 2) ∧ decode cX6_sumOf 6 = .ok (.iload 7, 2) ∧ decode cX6_sumOf 8 = .ok (.aload 4, 2) ∧ decode cX6_sumOf 10 = .ok (.getfield 18, 3) ∧ decode cX6_sumOf 13 = .ok (.if_icmp .ge 60, 3) ∧ decode cX6_sumOf 16 = .ok (.iload 7, 2) ∧ decode cX6_sumOf 18 = .ok (.iload 5, 2) ∧ decode cX6_sumOf 20 = .ok (.if_icmp .eq 47, 3) ∧ decode cX6_sumOf 23 = .ok (.aload_n 0, 1) ∧ decode cX6_sumOf 24 = .ok (.aload 4, 2) ∧ decode cX6_sumOf 26 = .ok (.iload 7, 2) ∧ decode cX6_sumOf 28 = .ok (.aload 4, 2) ∧ decode cX6_sumOf 30 = .ok (.getfield 85, 3) ∧ decode cX6_sumOf 33 = .ok (.iload 7, 2) ∧ decode cX6_sumOf 35 = .ok (.iaload, 1) ∧ decode cX6_sumOf 36 = .ok (.aload 4, 2) ∧ decode cX6_sumOf 38 = .ok (.getfield 88, 3) ∧ decode cX6_sumOf 41 = .ok (.iload 7, 2) ∧ decode cX6_sumOf 43 = .ok (.iaload, 1) ∧ decode cX6_sumOf 44 = .ok (.aload 4, 2) ∧ decode cX6_sumOf 46 = .ok (.getfield 91, 3) ∧ decode cX6_sumOf 49 = .ok (.iload 7, 2) ∧ decode cX6_sumOf 51 = .ok (.iaload, 1) ∧ decode cX6_sumOf 52 = .ok (.invokevirtual 75, 3) ∧ decode cX6_sumOf 55 = .ok (.iload 6, 2) ∧ decode cX6_sumOf 57 = .ok (.aload_n 0, 1) ∧ decode cX6_sumOf 58 = .ok (.aload_n 1, 1) ∧ True := dqC_ok (c := cX6_sumOf) [(0, 1, some (.iconst 0)), (1, 2, some (.istore 6)), (3, 1, some (.iconst 0)), (4, 2, some (.istore 7)), (6, 2, some (.iload 7)), (8, 2, some (.aload 4)), (10, 3, some (.getfield 18)), (13, 3, some (.if_icmp .ge 60)), (16, 2, some (.iload 7)), (18, 2, some (.iload 5)), (20, 3, some (.if_icmp .eq 47)), (23, 1, some (.aload_n 0)), (24, 2, some (.aload 4)), (26, 2, some (.iload 7)), (28, 2, some (.aload 4)), (30, 3, some (.getfield 85)), (33, 2, some (.iload 7)), (35, 1, some (.iaload)), (36, 2, some (.aload 4)), (38, 3, some (.getfield 88)), (41, 2, some (.iload 7)), (43, 1, some (.iaload)), (44, 2, some (.aload 4)), (46, 3, some (.getfield 91)), (49, 2, some (.iload 7)), (51, 1, some (.iaload)), (52, 3, some (.invokevirtual 75)), (55, 2, some (.iload 6)), (57, 1, some (.aload_n 0)), (58, 1, some (.aload_n 1))] _ 0 rfl (by decide +kernel)
theorem dX6_sumOf_0 : decode cX6_sumOf 0 = .ok (.iconst 0, 1) := dq_g115.1
theorem dX6_sumOf_1 : decode cX6_sumOf 1 = .ok (.istore 6, 2) := dq_g115.2.1
theorem dX6_sumOf_3 : decode cX6_sumOf 3 = .ok (.iconst 0, 1) := dq_g115.2.2.1
theorem dX6_sumOf_4 : decode cX6_sumOf 4 = .ok (.istore 7, 2) := dq_g115.2.2.2.1
theorem dX6_sumOf_6 : decode cX6_sumOf 6 = .ok (.iload 7, 2) := dq_g115.2.2.2.2.1
theorem dX6_sumOf_8 : decode cX6_sumOf 8 = .ok (.aload 4, 2) := dq_g115.2.2.2.2.2.1
theorem dX6_sumOf_10 : decode cX6_sumOf 10 = .ok (.getfield 18, 3) := dq_g115.2.2.2.2.2.2.1
theorem dX6_sumOf_13 : decode cX6_sumOf 13 = .ok (.if_icmp .ge 60, 3) := dq_g115.2.2.2.2.2.2.2.1
theorem dX6_sumOf_16 : decode cX6_sumOf 16 = .ok (.iload 7, 2) := dq_g115.2.2.2.2.2.2.2.2.1
theorem dX6_sumOf_18 : decode cX6_sumOf 18 = .ok (.iload 5, 2) := dq_g115.2.2.2.2.2.2.2.2.2.1
theorem dX6_sumOf_20 : decode cX6_sumOf 20 = .ok (.if_icmp .eq 47, 3) := dq_g115.2.2.2.2.2.2.2.2.2.2.1
theorem dX6_sumOf_23 : decode cX6_sumOf 23 = .ok (.aload_n 0, 1) := dq_g115.2.2.2.2.2.2.2.2.2.2.2.1
theorem dX6_sumOf_24 : decode cX6_sumOf 24 = .ok (.aload 4, 2) := dq_g115.2.2.2.2.2.2.2.2.2.2.2.2.1
theorem dX6_sumOf_26 : decode cX6_sumOf 26 = .ok (.iload 7, 2) := dq_g115.2.2.2.2.2.2.2.2.2.2.2.2.2.1
theorem dX6_sumOf_28 : decode cX6_sumOf 28 = .ok (.aload 4, 2) := dq_g115.2.2.2.2.2.2.2.2.2.2.2.2.2.2.1
theorem dX6_sumOf_30 : decode cX6_sumOf 30 = .ok (.getfield 85, 3) := dq_g115.2.2.2.2.2.2.2.2.2.2.2.2.2.2.2.1
theorem dX6_sumOf_33 : decode cX6_sumOf 33 = .ok (.iload 7, 2) := dq_g115.2.2.2.2.2.2.2.2.2.2.2.2.2.2.2.2.1
theorem dX6_sumOf_35 : decode cX6_sumOf 35 = .ok (.iaload, 1) := dq_g115.2.2.2.2.2.2.2.2.2.2.2.2.2.2.2.2.2.1
theorem dX6_sumOf_36 : decode cX6_sumOf 36 = .ok (.aload 4, 2) := dq_g115.2.2.2.2.2.2.2.2.2.2.2.2.2.2.2.2.2.2.1
theorem dX6_sumOf_38 : decode cX6_sumOf 38 = .ok (.getfield 88, 3) := dq_g115.2.2.2.2.2.2.2.2.2.2.2.2.2.2.2.2.2.2.2.1
theorem dX6_sumOf_41 : decode cX6_sumOf 41 = .ok (.iload 7, 2) := dq_g115.2.2.2.2.2.2.2.2.2.2.2.2.2.2.2.2.2.2.2.2.1
theorem dX6_sumOf_43 : decode cX6_sumOf 43 = .ok (.iaload, 1) := dq_g115.2.2.2.2.2.2.2.2.2.2.2.2.2.2.2.2.2.2.2.2.2.1
theorem dX6_sumOf_44 : decode cX6_sumOf 44 = .ok (.aload 4, 2) := dq_g115.2.2.2.2.2.2.2.2.2.2.2.2.2.2.2.2.2.2.2.2.2.2.1
theorem dX6_sumOf_46 : decode cX6_sumOf 46 = .ok (.getfield 91, 3) := dq_g115.2.2.2.2.2.2.2.2.2.2.2.2.2.2.2.2.2.2.2.2.2.2.2.1
theorem dX6_sumOf_49 : decode cX6_sumOf 49 = .ok (.iload 7, 2) := dq_g115.2.2.2.2.2.2.2.2.2.2.2.2.2.2.2.2.2.2.2.2.2.2.2.2.1
theorem dX6_sumOf_51 : decode cX6_sumOf 51 = .ok (.iaload, 1) := dq_g115.2.2.2.2.2.2.2.2.2.2.2.2.2.2.2.2.2.2.2.2.2.2.2.2.2.1
theorem dX6_sumOf_52 : decode cX6_sumOf 52 = .ok (.invokevirtual 75, 3) := dq_g115.2.2.2.2.2.2.2.2.2.2.2.2.2.2.2.2.2.2.2.2.2.2.2.2.2.2.1
theorem dX6_sumOf_55 : decode cX6_sumOf 55 = .ok (.iload 6, 2) := dq_g115.2.2.2.2.2.2.2.2.2.2.2.2.2.2.2.2.2.2.2.2.2.2.2.2.2.2.2.1
theorem dX6_sumOf_57 : decode cX6_sumOf 57 = .ok (.aload_n 0, 1) := dq_g115.2.2.2.2.2.2.2.2.2.2.2.2.2.2.2.2.2.2.2.2.2.2.2.2.2.2.2.2.1
theorem dX6_sumOf_58 : decode cX6_sumOf 58 = .ok (.aload_n 1, 1) := dq_g115.2.2.2.2.2.2.2.2.2.2.2.2.2.2.2.2.2.2.2.2.2.2.2.2.2.2.2.2.2.1
theorem dq_g116 : decode cX6_sumOf 59 = .ok (.iload_n 2, 1) ∧ decode cX6_sumOf 60 = .ok (.iload_n 3, 1) ∧ decode cX6_sumOf 61 = .ok (.invokevirtual 79, 3) ∧ decode cX6_sumOf 64 = .ok (.iadd, 1) ∧ decode cX6_sumOf 65 = .ok (.istore 6, 2) ∧ decode cX6_sumOf 67 = .ok (.iinc 7 1, 3) ∧ decode cX6_sumOf 70 = .ok (.goto (-64), 3) ∧ decode cX6_sumOf 73 = .ok (.iload 6, 2) ∧ decode cX6_sumOf 75 = .ok (.ireturn, 1) ∧ True := dqC_ok (c := cX6_sumOf) [(59, 1, some (.iload_n 2)), (60, 1, some (.iload_n 3)), (61, 3, some (.invokevirtual 79)), (64, 1, some (.iadd)), (65, 2, some (.istore 6)), (67, 3, some (.iinc 7 1)), (70, 3, some (.goto (-64))), (73, 2, some (.iload 6)), (75, 1, some (.ireturn))] _ 59 rfl (by decide +kernel)
theorem dX6_sumOf_59 : decode cX6_sumOf 59 = .ok (.iload_n 2, 1) := dq_g116.1
theorem dX6_sumOf_60 : decode cX6_sumOf 60 = .ok (.iload_n 3, 1) := dq_g116.2.1
theorem dX6_sumOf_61 : decode cX6_sumOf 61 = .ok (.invokevirtual 79, 3) := dq_g116.2.2.1
theorem dX6_sumOf_64 : decode cX6_sumOf 64 = .ok (.iadd, 1) := dq_g116.2.2.2.1
theorem dX6_sumOf_65 : decode cX6_sumOf 65 = .ok (.istore 6, 2) := dq_g116.2.2.2.2.1
theorem dX6_sumOf_67 : decode cX6_sumOf 67 = .ok (.iinc 7 1, 3) := dq_g116.2.2.2.2.2.1
theorem dX6_sumOf_70 : decode cX6_sumOf 70 = .ok (.goto (-64), 3) := dq_g116.2.2.2.2.2.2.1
theorem dX6_sumOf_73 : decode cX6_sumOf 73 = .ok (.iload 6, 2) := dq_g116.2.2.2.2.2.2.2.1
theorem dX6_sumOf_75 : decode cX6_sumOf 75 = .ok (.ireturn, 1) := dq_g116.2.2.2.2.2.2.2.2.1
theorem dq_g117 : decode cX6_value 0 = .ok (.iconst 0, 1) ∧ decode cX6_value 1 = .ok (.istore 4, 2) ∧ decode cX6_value 3 = .ok (.aload_n 0, 1) ∧ decode cX6_value 4 = .ok (.getfield 15, 3) ∧ decode cX6_value 7 = .ok (.iconst 0, 1) ∧ decode cX6_value 8 = .ok (.iconst 0, 1) ∧ decode cX6_value 9 = .ok (.iastore, 1) ∧ decode cX6_value 10 = .ok (.iload_n 2, 1) ∧ decode cX6_value 11 = .ok (.istore 5, 2) ∧ decode cX6_value 13 = .ok (.iload 5, 2) ∧ decode cX6_value 15 = .ok (.iload_n 3, 1) ∧ decode cX6_value 16 = .ok (.if_icmp .ge 230, 3) ∧ decode cX6_value 19 = .ok (.iload 5, 2) ∧ decode cX6_value 21 = .ok (.sipush 500, 3) ∧ decode cX6_value 24 = .ok (.if_icmp .ge 222, 3) ∧ decode cX6_value 27 = .ok (.aload_n 1, 1) ∧ decode cX6_value 28 = .ok (.getfield 94, 3) ∧ decode cX6_value 31 = .ok (.iload 5, 2) ∧ decode cX6_value 33 = .ok (.iaload, 1) ∧ decode cX6_value 34 = .ok (.ldc 97, 2) ∧ decode cX6_value 36 = .ok (.idiv, 1) ∧ decode cX6_value 37 = .ok (.istore 6, 2) ∧ decode cX6_value 39 = .ok (.aload_n 1, 1) ∧ decode cX6_value 40 = .ok (.getfield 94, 3) ∧ decode cX6_value 43 = .ok (.iload 5, 2) ∧ decode cX6_value 45 = .ok (.iaload, 1) ∧ decode cX6_value 46 = .ok (.ldc 97, 2) ∧ decode cX6_value 48 = .ok (.irem, 1) ∧ decode cX6_value 49 = .ok (.istore 7, 2) ∧ decode cX6_value 51 = .ok (.iload 6, 2) ∧ True := dqC_ok (c := cX6_value) [(0, 1, some (.iconst 0)), (1, 2, some (.istore 4)), (3, 1, some (.aload_n 0)), (4, 3, some (.getfield 15)), (7, 1, some (.iconst 0)), (8, 1, some (.iconst 0)), (9, 1, some (.iastore)), (10, 1, some (.iload_n 2)), (11, 2, some (.istore 5)), (13, 2, some (.iload 5)), (15, 1, some (.iload_n 3)), (16, 3, some (.if_icmp .ge 230)), (19, 2, some (.iload 5)), (21, 3, some (.sipush 500)), (24, 3, some (.if_icmp .ge 222)), (27, 1, some (.aload_n 1)), (28, 3, some (.getfield 94)), (31, 2, some (.iload 5)), (33, 1, some (.iaload)), (34, 2, some (.ldc 97)), (36, 1, some (.idiv)), (37, 2, some (.istore 6)), (39, 1, some (.aload_n 1)), (40, 3, some (.getfield 94)), (43, 2, some (.iload 5)), (45, 1, some (.iaload)), (46, 2, some (.ldc 97)), (48, 1, some (.irem)), (49, 2, some (.istore 7)), (51, 2, some (.iload 6))] _ 0 rfl (by decide +kernel)
theorem dX6_value_0 : decode cX6_value 0 = .ok (.iconst 0, 1) := dq_g117.1
theorem dX6_value_1 : decode cX6_value 1 = .ok (.istore 4, 2) := dq_g117.2.1
theorem dX6_value_3 : decode cX6_value 3 = .ok (.aload_n 0, 1) := dq_g117.2.2.1
theorem dX6_value_4 : decode cX6_value 4 = .ok (.getfield 15, 3) := dq_g117.2.2.2.1
theorem dX6_value_7 : decode cX6_value 7 = .ok (.iconst 0, 1) := dq_g117.2.2.2.2.1
theorem dX6_value_8 : decode cX6_value 8 = .ok (.iconst 0, 1) := dq_g117.2.2.2.2.2.1
theorem dX6_value_9 : decode cX6_value 9 = .ok (.iastore, 1) := dq_g117.2.2.2.2.2.2.1
theorem dX6_value_10 : decode cX6_value 10 = .ok (.iload_n 2, 1) := dq_g117.2.2.2.2.2.2.2.1
theorem dX6_value_11 : decode cX6_value 11 = .ok (.istore 5, 2) := dq_g117.2.2.2.2.2.2.2.2.1
theorem dX6_value_13 : decode cX6_value 13 = .ok (.iload 5, 2) := dq_g117.2.2.2.2.2.2.2.2.2.1
theorem dX6_value_15 : decode cX6_value 15 = .ok (.iload_n 3, 1) := dq_g117.2.2.2.2.2.2.2.2.2.2.1
theorem dX6_value_16 : decode cX6_value 16 = .ok (.if_icmp .ge 230, 3) := dq_g117.2.2.2.2.2.2.2.2.2.2.2.1
theorem dX6_value_19 : decode cX6_value 19 = .ok (.iload 5, 2) := dq_g117.2.2.2.2.2.2.2.2.2.2.2.2.1
theorem dX6_value_21 : decode cX6_value 21 = .ok (.sipush 500, 3) := dq_g117.2.2.2.2.2.2.2.2.2.2.2.2.2.1
theorem dX6_value_24 : decode cX6_value 24 = .ok (.if_icmp .ge 222, 3) := dq_g117.2.2.2.2.2.2.2.2.2.2.2.2.2.2.1
theorem dX6_value_27 : decode cX6_value 27 = .ok (.aload_n 1, 1) := dq_g117.2.2.2.2.2.2.2.2.2.2.2.2.2.2.2.1
theorem dX6_value_28 : decode cX6_value 28 = .ok (.getfield 94, 3) := dq_g117.2.2.2.2.2.2.2.2.2.2.2.2.2.2.2.2.1
theorem dX6_value_31 : decode cX6_value 31 = .ok (.iload 5, 2) := dq_g117.2.2.2.2.2.2.2.2.2.2.2.2.2.2.2.2.2.1
theorem dX6_value_33 : decode cX6_value 33 = .ok (.iaload, 1) := dq_g117.2.2.2.2.2.2.2.2.2.2.2.2.2.2.2.2.2.2.1
theorem dX6_value_34 : decode cX6_value 34 = .ok (.ldc 97, 2) := dq_g117.2.2.2.2.2.2.2.2.2.2.2.2.2.2.2.2.2.2.2.1
theorem dX6_value_36 : decode cX6_value 36 = .ok (.idiv, 1) := dq_g117.2.2.2.2.2.2.2.2.2.2.2.2.2.2.2.2.2.2.2.2.1
theorem dX6_value_37 : decode cX6_value 37 = .ok (.istore 6, 2) := dq_g117.2.2.2.2.2.2.2.2.2.2.2.2.2.2.2.2.2.2.2.2.2.1
theorem dX6_value_39 : decode cX6_value 39 = .ok (.aload_n 1, 1) := dq_g117.2.2.2.2.2.2.2.2.2.2.2.2.2.2.2.2.2.2.2.2.2.2.1
theorem dX6_value_40 : decode cX6_value 40 = .ok (.getfield 94, 3) := dq_g117.2.2.2.2.2.2.2.2.2.2.2.2.2.2.2.2.2.2.2.2.2.2.2.1
theorem dX6_value_43 : decode cX6_value 43 = .ok (.iload 5, 2) := dq_g117.2.2.2.2.2.2.2.2.2.2.2.2.2.2.2.2.2.2.2.2.2.2.2.2.1
theorem dX6_value_45 : decode cX6_value 45 = .ok (.iaload, 1) := dq_g117.2.2.2.2.2.2.2.2.2.2.2.2.2.2.2.2.2.2.2.2.2.2.2.2.2.1
theorem dX6_value_46 : decode cX6_value 46 = .ok (.ldc 97, 2) := dq_g117.2.2.2.2.2.2.2.2.2.2.2.2.2.2.2.2.2.2.2.2.2.2.2.2.2.2.1
theorem dX6_value_48 : decode cX6_value 48 = .ok (.irem, 1) := dq_g117.2.2.2.2.2.2.2.2.2.2.2.2.2.2.2.2.2.2.2.2.2.2.2.2.2.2.2.1
theorem dX6_value_49 : decode cX6_value 49 = .ok (.istore 7, 2) := dq_g117.2.2.2.2.2.2.2.2.2.2.2.2.2.2.2.2.2.2.2.2.2.2.2.2.2.2.2.2.1
theorem dX6_value_51 : decode cX6_value 51 = .ok (.iload 6, 2) := dq_g117.2.2.2.2.2.2.2.2.2.2.2.2.2.2.2.2.2.2.2.2.2.2.2.2.2.2.2.2.2.1
theorem dq_g118 : decode cX6_value 53 = .ok (.bipush 24, 2) ∧ decode cX6_value 55 = .ok (.if_icmp .eq 24, 3) ∧ decode cX6_value 58 = .ok (.iload 6, 2) ∧ decode cX6_value 60 = .ok (.bipush 6, 2) ∧ decode cX6_value 62 = .ok (.if_icmp .eq 17, 3) ∧ decode cX6_value 65 = .ok (.iload 6, 2) ∧ decode cX6_value 67 = .ok (.bipush 11, 2) ∧ decode cX6_value 69 = .ok (.if_icmp .lt 14, 3) ∧ decode cX6_value 72 = .ok (.iload 6, 2) ∧ decode cX6_value 74 = .ok (.bipush 23, 2) ∧ decode cX6_value 76 = .ok (.if_icmp .gt 7, 3) ∧ decode cX6_value 79 = .ok (.iconst 1, 1) ∧ decode cX6_value 80 = .ok (.goto 4, 3) ∧ decode cX6_value 83 = .ok (.iconst 0, 1) ∧ decode cX6_value 84 = .ok (.istore 8, 2) ∧ decode cX6_value 86 = .ok (.iload 8, 2) ∧ decode cX6_value 88 = .ok (.ifCond .eq 42, 3) ∧ decode cX6_value 91 = .ok (.iload 4, 2) ∧ decode cX6_value 93 = .ok (.bipush 40, 2) ∧ decode cX6_value 95 = .ok (.if_icmp .ge 35, 3) ∧ decode cX6_value 98 = .ok (.aload_n 0, 1) ∧ decode cX6_value 99 = .ok (.getfield 15, 3) ∧ decode cX6_value 102 = .ok (.iload 4, 2) ∧ decode cX6_value 104 = .ok (.iload 6, 2) ∧ decode cX6_value 106 = .ok (.bipush 24, 2) ∧ decode cX6_value 108 = .ok (.if_icmp .ne 8, 3) ∧ decode cX6_value 111 = .ok (.iload 7, 2) ∧ decode cX6_value 113 = .ok (.goto 10, 3) ∧ decode cX6_value 116 = .ok (.aload_n 0, 1) ∧ decode cX6_value 117 = .ok (.getfield 9, 3) ∧ True := dqC_ok (c := cX6_value) [(53, 2, some (.bipush 24)), (55, 3, some (.if_icmp .eq 24)), (58, 2, some (.iload 6)), (60, 2, some (.bipush 6)), (62, 3, some (.if_icmp .eq 17)), (65, 2, some (.iload 6)), (67, 2, some (.bipush 11)), (69, 3, some (.if_icmp .lt 14)), (72, 2, some (.iload 6)), (74, 2, some (.bipush 23)), (76, 3, some (.if_icmp .gt 7)), (79, 1, some (.iconst 1)), (80, 3, some (.goto 4)), (83, 1, some (.iconst 0)), (84, 2, some (.istore 8)), (86, 2, some (.iload 8)), (88, 3, some (.ifCond .eq 42)), (91, 2, some (.iload 4)), (93, 2, some (.bipush 40)), (95, 3, some (.if_icmp .ge 35)), (98, 1, some (.aload_n 0)), (99, 3, some (.getfield 15)), (102, 2, some (.iload 4)), (104, 2, some (.iload 6)), (106, 2, some (.bipush 24)), (108, 3, some (.if_icmp .ne 8)), (111, 2, some (.iload 7)), (113, 3, some (.goto 10)), (116, 1, some (.aload_n 0)), (117, 3, some (.getfield 9))] _ 53 rfl (by decide +kernel)
theorem dX6_value_53 : decode cX6_value 53 = .ok (.bipush 24, 2) := dq_g118.1
theorem dX6_value_55 : decode cX6_value 55 = .ok (.if_icmp .eq 24, 3) := dq_g118.2.1
theorem dX6_value_58 : decode cX6_value 58 = .ok (.iload 6, 2) := dq_g118.2.2.1
theorem dX6_value_60 : decode cX6_value 60 = .ok (.bipush 6, 2) := dq_g118.2.2.2.1
theorem dX6_value_62 : decode cX6_value 62 = .ok (.if_icmp .eq 17, 3) := dq_g118.2.2.2.2.1
theorem dX6_value_65 : decode cX6_value 65 = .ok (.iload 6, 2) := dq_g118.2.2.2.2.2.1
theorem dX6_value_67 : decode cX6_value 67 = .ok (.bipush 11, 2) := dq_g118.2.2.2.2.2.2.1
theorem dX6_value_69 : decode cX6_value 69 = .ok (.if_icmp .lt 14, 3) := dq_g118.2.2.2.2.2.2.2.1
theorem dX6_value_72 : decode cX6_value 72 = .ok (.iload 6, 2) := dq_g118.2.2.2.2.2.2.2.2.1
theorem dX6_value_74 : decode cX6_value 74 = .ok (.bipush 23, 2) := dq_g118.2.2.2.2.2.2.2.2.2.1
theorem dX6_value_76 : decode cX6_value 76 = .ok (.if_icmp .gt 7, 3) := dq_g118.2.2.2.2.2.2.2.2.2.2.1
theorem dX6_value_79 : decode cX6_value 79 = .ok (.iconst 1, 1) := dq_g118.2.2.2.2.2.2.2.2.2.2.2.1
theorem dX6_value_80 : decode cX6_value 80 = .ok (.goto 4, 3) := dq_g118.2.2.2.2.2.2.2.2.2.2.2.2.1
theorem dX6_value_83 : decode cX6_value 83 = .ok (.iconst 0, 1) := dq_g118.2.2.2.2.2.2.2.2.2.2.2.2.2.1
theorem dX6_value_84 : decode cX6_value 84 = .ok (.istore 8, 2) := dq_g118.2.2.2.2.2.2.2.2.2.2.2.2.2.2.1
theorem dX6_value_86 : decode cX6_value 86 = .ok (.iload 8, 2) := dq_g118.2.2.2.2.2.2.2.2.2.2.2.2.2.2.2.1
theorem dX6_value_88 : decode cX6_value 88 = .ok (.ifCond .eq 42, 3) := dq_g118.2.2.2.2.2.2.2.2.2.2.2.2.2.2.2.2.1
theorem dX6_value_91 : decode cX6_value 91 = .ok (.iload 4, 2) := dq_g118.2.2.2.2.2.2.2.2.2.2.2.2.2.2.2.2.2.1
theorem dX6_value_93 : decode cX6_value 93 = .ok (.bipush 40, 2) := dq_g118.2.2.2.2.2.2.2.2.2.2.2.2.2.2.2.2.2.2.1
theorem dX6_value_95 : decode cX6_value 95 = .ok (.if_icmp .ge 35, 3) := dq_g118.2.2.2.2.2.2.2.2.2.2.2.2.2.2.2.2.2.2.2.1
theorem dX6_value_98 : decode cX6_value 98 = .ok (.aload_n 0, 1) := dq_g118.2.2.2.2.2.2.2.2.2.2.2.2.2.2.2.2.2.2.2.2.1
theorem dX6_value_99 : decode cX6_value 99 = .ok (.getfield 15, 3) := dq_g118.2.2.2.2.2.2.2.2.2.2.2.2.2.2.2.2.2.2.2.2.2.1
theorem dX6_value_102 : decode cX6_value 102 = .ok (.iload 4, 2) := dq_g118.2.2.2.2.2.2.2.2.2.2.2.2.2.2.2.2.2.2.2.2.2.2.1
theorem dX6_value_104 : decode cX6_value 104 = .ok (.iload 6, 2) := dq_g118.2.2.2.2.2.2.2.2.2.2.2.2.2.2.2.2.2.2.2.2.2.2.2.1
theorem dX6_value_106 : decode cX6_value 106 = .ok (.bipush 24, 2) := dq_g118.2.2.2.2.2.2.2.2.2.2.2.2.2.2.2.2.2.2.2.2.2.2.2.2.1
theorem dX6_value_108 : decode cX6_value 108 = .ok (.if_icmp .ne 8, 3) := dq_g118.2.2.2.2.2.2.2.2.2.2.2.2.2.2.2.2.2.2.2.2.2.2.2.2.2.1
theorem dX6_value_111 : decode cX6_value 111 = .ok (.iload 7, 2) := dq_g118.2.2.2.2.2.2.2.2.2.2.2.2.2.2.2.2.2.2.2.2.2.2.2.2.2.2.1
theorem dX6_value_113 : decode cX6_value 113 = .ok (.goto 10, 3) := dq_g118.2.2.2.2.2.2.2.2.2.2.2.2.2.2.2.2.2.2.2.2.2.2.2.2.2.2.2.1
theorem dX6_value_116 : decode cX6_value 116 = .ok (.aload_n 0, 1) := dq_g118.2.2.2.2.2.2.2.2.2.2.2.2.2.2.2.2.2.2.2.2.2.2.2.2.2.2.2.2.1
theorem dX6_value_117 : decode cX6_value 117 = .ok (.getfield 9, 3) := dq_g118.2.2.2.2.2.2.2.2.2.2.2.2.2.2.2.2.2.2.2.2.2.2.2.2.2.2.2.2.2.1
theorem dq_g119 : decode cX6_value 120 = .ok (.iload 6, 2) ∧ decode cX6_value 122 = .ok (.iaload, 1) ∧ decode cX6_value 123 = .ok (.iastore, 1) ∧ decode cX6_value 124 = .ok (.iinc 4 1, 3) ∧ decode cX6_value 127 = .ok (.goto 113, 3) ∧ decode cX6_value 130 = .ok (.iload 6, 2) ∧ decode cX6_value 132 = .ok (.bipush 10, 2) ∧ decode cX6_value 134 = .ok (.if_icmp .ne 32, 3) ∧ decode cX6_value 137 = .ok (.iload 4, 2) ∧ decode cX6_value 139 = .ok (.iconst 1, 1) ∧ decode cX6_value 140 = .ok (.if_icmp .lt 26, 3) ∧ decode cX6_value 143 = .ok (.aload_n 0, 1) ∧ decode cX6_value 144 = .ok (.getfield 15, 3) ∧ decode cX6_value 147 = .ok (.iload 4, 2) ∧ decode cX6_value 149 = .ok (.iconst 1, 1) ∧ decode cX6_value 150 = .ok (.isub, 1) ∧ decode cX6_value 151 = .ok (.iconst 1, 1) ∧ decode cX6_value 152 = .ok (.aload_n 0, 1) ∧ decode cX6_value 153 = .ok (.getfield 15, 3) ∧ decode cX6_value 156 = .ok (.iload 4, 2) ∧ decode cX6_value 158 = .ok (.iconst 1, 1) ∧ decode cX6_value 159 = .ok (.isub, 1) ∧ decode cX6_value 160 = .ok (.iaload, 1) ∧ decode cX6_value 161 = .ok (.isub, 1) ∧ decode cX6_value 162 = .ok (.iastore, 1) ∧ decode cX6_value 163 = .ok (.goto 77, 3) ∧ decode cX6_value 166 = .ok (.iload 6, 2) ∧ decode cX6_value 168 = .ok (.bipush 47, 2) ∧ decode cX6_value 170 = .ok (.if_icmp .ne 31, 3) ∧ decode cX6_value 173 = .ok (.iload 4, 2) ∧ True := dqC_ok (c := cX6_value) [(120, 2, some (.iload 6)), (122, 1, some (.iaload)), (123, 1, some (.iastore)), (124, 3, some (.iinc 4 1)), (127, 3, some (.goto 113)), (130, 2, some (.iload 6)), (132, 2, some (.bipush 10)), (134, 3, some (.if_icmp .ne 32)), (137, 2, some (.iload 4)), (139, 1, some (.iconst 1)), (140, 3, some (.if_icmp .lt 26)), (143, 1, some (.aload_n 0)), (144, 3, some (.getfield 15)), (147, 2, some (.iload 4)), (149, 1, some (.iconst 1)), (150, 1, some (.isub)), (151, 1, some (.iconst 1)), (152, 1, some (.aload_n 0)), (153, 3, some (.getfield 15)), (156, 2, some (.iload 4)), (158, 1, some (.iconst 1)), (159, 1, some (.isub)), (160, 1, some (.iaload)), (161, 1, some (.isub)), (162, 1, some (.iastore)), (163, 3, some (.goto 77)), (166, 2, some (.iload 6)), (168, 2, some (.bipush 47)), (170, 3, some (.if_icmp .ne 31)), (173, 2, some (.iload 4))] _ 120 rfl (by decide +kernel)
theorem dX6_value_120 : decode cX6_value 120 = .ok (.iload 6, 2) := dq_g119.1
theorem dX6_value_122 : decode cX6_value 122 = .ok (.iaload, 1) := dq_g119.2.1
theorem dX6_value_123 : decode cX6_value 123 = .ok (.iastore, 1) := dq_g119.2.2.1
theorem dX6_value_124 : decode cX6_value 124 = .ok (.iinc 4 1, 3) := dq_g119.2.2.2.1
theorem dX6_value_127 : decode cX6_value 127 = .ok (.goto 113, 3) := dq_g119.2.2.2.2.1
theorem dX6_value_130 : decode cX6_value 130 = .ok (.iload 6, 2) := dq_g119.2.2.2.2.2.1
theorem dX6_value_132 : decode cX6_value 132 = .ok (.bipush 10, 2) := dq_g119.2.2.2.2.2.2.1
theorem dX6_value_134 : decode cX6_value 134 = .ok (.if_icmp .ne 32, 3) := dq_g119.2.2.2.2.2.2.2.1
theorem dX6_value_137 : decode cX6_value 137 = .ok (.iload 4, 2) := dq_g119.2.2.2.2.2.2.2.2.1
theorem dX6_value_139 : decode cX6_value 139 = .ok (.iconst 1, 1) := dq_g119.2.2.2.2.2.2.2.2.2.1
theorem dX6_value_140 : decode cX6_value 140 = .ok (.if_icmp .lt 26, 3) := dq_g119.2.2.2.2.2.2.2.2.2.2.1
theorem dX6_value_143 : decode cX6_value 143 = .ok (.aload_n 0, 1) := dq_g119.2.2.2.2.2.2.2.2.2.2.2.1
theorem dX6_value_144 : decode cX6_value 144 = .ok (.getfield 15, 3) := dq_g119.2.2.2.2.2.2.2.2.2.2.2.2.1
theorem dX6_value_147 : decode cX6_value 147 = .ok (.iload 4, 2) := dq_g119.2.2.2.2.2.2.2.2.2.2.2.2.2.1
theorem dX6_value_149 : decode cX6_value 149 = .ok (.iconst 1, 1) := dq_g119.2.2.2.2.2.2.2.2.2.2.2.2.2.2.1
theorem dX6_value_150 : decode cX6_value 150 = .ok (.isub, 1) := dq_g119.2.2.2.2.2.2.2.2.2.2.2.2.2.2.2.1
theorem dX6_value_151 : decode cX6_value 151 = .ok (.iconst 1, 1) := dq_g119.2.2.2.2.2.2.2.2.2.2.2.2.2.2.2.2.1
theorem dX6_value_152 : decode cX6_value 152 = .ok (.aload_n 0, 1) := dq_g119.2.2.2.2.2.2.2.2.2.2.2.2.2.2.2.2.2.1
theorem dX6_value_153 : decode cX6_value 153 = .ok (.getfield 15, 3) := dq_g119.2.2.2.2.2.2.2.2.2.2.2.2.2.2.2.2.2.2.1
theorem dX6_value_156 : decode cX6_value 156 = .ok (.iload 4, 2) := dq_g119.2.2.2.2.2.2.2.2.2.2.2.2.2.2.2.2.2.2.2.1
theorem dX6_value_158 : decode cX6_value 158 = .ok (.iconst 1, 1) := dq_g119.2.2.2.2.2.2.2.2.2.2.2.2.2.2.2.2.2.2.2.2.1
theorem dX6_value_159 : decode cX6_value 159 = .ok (.isub, 1) := dq_g119.2.2.2.2.2.2.2.2.2.2.2.2.2.2.2.2.2.2.2.2.2.1
theorem dX6_value_160 : decode cX6_value 160 = .ok (.iaload, 1) := dq_g119.2.2.2.2.2.2.2.2.2.2.2.2.2.2.2.2.2.2.2.2.2.2.1
theorem dX6_value_161 : decode cX6_value 161 = .ok (.isub, 1) := dq_g119.2.2.2.2.2.2.2.2.2.2.2.2.2.2.2.2.2.2.2.2.2.2.2.1
theorem dX6_value_162 : decode cX6_value 162 = .ok (.iastore, 1) := dq_g119.2.2.2.2.2.2.2.2.2.2.2.2.2.2.2.2.2.2.2.2.2.2.2.2.1
theorem dX6_value_163 : decode cX6_value 163 = .ok (.goto 77, 3) := dq_g119.2.2.2.2.2.2.2.2.2.2.2.2.2.2.2.2.2.2.2.2.2.2.2.2.2.1
theorem dX6_value_166 : decode cX6_value 166 = .ok (.iload 6, 2) := dq_g119.2.2.2.2.2.2.2.2.2.2.2.2.2.2.2.2.2.2.2.2.2.2.2.2.2.2.1
theorem dX6_value_168 : decode cX6_value 168 = .ok (.bipush 47, 2) := dq_g119.2.2.2.2.2.2.2.2.2.2.2.2.2.2.2.2.2.2.2.2.2.2.2.2.2.2.2.1
theorem dX6_value_170 : decode cX6_value 170 = .ok (.if_icmp .ne 31, 3) := dq_g119.2.2.2.2.2.2.2.2.2.2.2.2.2.2.2.2.2.2.2.2.2.2.2.2.2.2.2.2.1
theorem dX6_value_173 : decode cX6_value 173 = .ok (.iload 4, 2) := dq_g119.2.2.2.2.2.2.2.2.2.2.2.2.2.2.2.2.2.2.2.2.2.2.2.2.2.2.2.2.2.1
theorem dq_g120 : decode cX6_value 175 = .ok (.iconst 1, 1) ∧ decode cX6_value 176 = .ok (.if_icmp .lt 25, 3) ∧ decode cX6_value 179 = .ok (.iload 7, 2) ∧ decode cX6_value 181 = .ok (.ifCond .le 20, 3) ∧ decode cX6_value 184 = .ok (.aload_n 0, 1) ∧ decode cX6_value 185 = .ok (.getfield 15, 3) ∧ decode cX6_value 188 = .ok (.iload 4, 2) ∧ decode cX6_value 190 = .ok (.iconst 1, 1) ∧ decode cX6_value 191 = .ok (.isub, 1) ∧ decode cX6_value 192 = .ok (.dup2, 1) ∧ decode cX6_value 193 = .ok (.iaload, 1) ∧ decode cX6_value 194 = .ok (.iload 7, 2) ∧ decode cX6_value 196 = .ok (.idiv, 1) ∧ decode cX6_value 197 = .ok (.iastore, 1) ∧ decode cX6_value 198 = .ok (.goto 42, 3) ∧ decode cX6_value 201 = .ok (.iload 4, 2) ∧ decode cX6_value 203 = .ok (.iconst 2, 1) ∧ decode cX6_value 204 = .ok (.if_icmp .lt 36, 3) ∧ decode cX6_value 207 = .ok (.iinc 4 (-1), 3) ∧ decode cX6_value 210 = .ok (.aload_n 0, 1) ∧ decode cX6_value 211 = .ok (.getfield 15, 3) ∧ decode cX6_value 214 = .ok (.iload 4, 2) ∧ decode cX6_value 216 = .ok (.iconst 1, 1) ∧ decode cX6_value 217 = .ok (.isub, 1) ∧ decode cX6_value 218 = .ok (.iload 6, 2) ∧ decode cX6_value 220 = .ok (.aload_n 0, 1) ∧ decode cX6_value 221 = .ok (.getfield 15, 3) ∧ decode cX6_value 224 = .ok (.iload 4, 2) ∧ decode cX6_value 226 = .ok (.iconst 1, 1) ∧ decode cX6_value 227 = .ok (.isub, 1) ∧ True := dqC_ok (c := cX6_value) [(175, 1, some (.iconst 1)), (176, 3, some (.if_icmp .lt 25)), (179, 2, some (.iload 7)), (181, 3, some (.ifCond .le 20)), (184, 1, some (.aload_n 0)), (185, 3, some (.getfield 15)), (188, 2, some (.iload 4)), (190, 1, some (.iconst 1)), (191, 1, some (.isub)), (192, 1, some (.dup2)), (193, 1, some (.iaload)), (194, 2, some (.iload 7)), (196, 1, some (.idiv)), (197, 1, some (.iastore)), (198, 3, some (.goto 42)), (201, 2, some (.iload 4)), (203, 1, some (.iconst 2)), (204, 3, some (.if_icmp .lt 36)), (207, 3, some (.iinc 4 (-1))), (210, 1, some (.aload_n 0)), (211, 3, some (.getfield 15)), (214, 2, some (.iload 4)), (216, 1, some (.iconst 1)), (217, 1, some (.isub)), (218, 2, some (.iload 6)), (220, 1, some (.aload_n 0)), (221, 3, some (.getfield 15)), (224, 2, some (.iload 4)), (226, 1, some (.iconst 1)), (227, 1, some (.isub))] _ 175 rfl (by decide +kernel)
theorem dX6_value_175 : decode cX6_value 175 = .ok (.iconst 1, 1) := dq_g120.1
theorem dX6_value_176 : decode cX6_value 176 = .ok (.if_icmp .lt 25, 3) := dq_g120.2.1
theorem dX6_value_179 : decode cX6_value 179 = .ok (.iload 7, 2) := dq_g120.2.2.1
theorem dX6_value_181 : decode cX6_value 181 = .ok (.ifCond .le 20, 3) := dq_g120.2.2.2.1
theorem dX6_value_184 : decode cX6_value 184 = .ok (.aload_n 0, 1) := dq_g120.2.2.2.2.1
theorem dX6_value_185 : decode cX6_value 185 = .ok (.getfield 15, 3) := dq_g120.2.2.2.2.2.1
theorem dX6_value_188 : decode cX6_value 188 = .ok (.iload 4, 2) := dq_g120.2.2.2.2.2.2.1
theorem dX6_value_190 : decode cX6_value 190 = .ok (.iconst 1, 1) := dq_g120.2.2.2.2.2.2.2.1
theorem dX6_value_191 : decode cX6_value 191 = .ok (.isub, 1) := dq_g120.2.2.2.2.2.2.2.2.1
theorem dX6_value_192 : decode cX6_value 192 = .ok (.dup2, 1) := dq_g120.2.2.2.2.2.2.2.2.2.1
theorem dX6_value_193 : decode cX6_value 193 = .ok (.iaload, 1) := dq_g120.2.2.2.2.2.2.2.2.2.2.1
theorem dX6_value_194 : decode cX6_value 194 = .ok (.iload 7, 2) := dq_g120.2.2.2.2.2.2.2.2.2.2.2.1
theorem dX6_value_196 : decode cX6_value 196 = .ok (.idiv, 1) := dq_g120.2.2.2.2.2.2.2.2.2.2.2.2.1
theorem dX6_value_197 : decode cX6_value 197 = .ok (.iastore, 1) := dq_g120.2.2.2.2.2.2.2.2.2.2.2.2.2.1
theorem dX6_value_198 : decode cX6_value 198 = .ok (.goto 42, 3) := dq_g120.2.2.2.2.2.2.2.2.2.2.2.2.2.2.1
theorem dX6_value_201 : decode cX6_value 201 = .ok (.iload 4, 2) := dq_g120.2.2.2.2.2.2.2.2.2.2.2.2.2.2.2.1
theorem dX6_value_203 : decode cX6_value 203 = .ok (.iconst 2, 1) := dq_g120.2.2.2.2.2.2.2.2.2.2.2.2.2.2.2.2.1
theorem dX6_value_204 : decode cX6_value 204 = .ok (.if_icmp .lt 36, 3) := dq_g120.2.2.2.2.2.2.2.2.2.2.2.2.2.2.2.2.2.1
theorem dX6_value_207 : decode cX6_value 207 = .ok (.iinc 4 (-1), 3) := dq_g120.2.2.2.2.2.2.2.2.2.2.2.2.2.2.2.2.2.2.1
theorem dX6_value_210 : decode cX6_value 210 = .ok (.aload_n 0, 1) := dq_g120.2.2.2.2.2.2.2.2.2.2.2.2.2.2.2.2.2.2.2.1
theorem dX6_value_211 : decode cX6_value 211 = .ok (.getfield 15, 3) := dq_g120.2.2.2.2.2.2.2.2.2.2.2.2.2.2.2.2.2.2.2.2.1
theorem dX6_value_214 : decode cX6_value 214 = .ok (.iload 4, 2) := dq_g120.2.2.2.2.2.2.2.2.2.2.2.2.2.2.2.2.2.2.2.2.2.1
theorem dX6_value_216 : decode cX6_value 216 = .ok (.iconst 1, 1) := dq_g120.2.2.2.2.2.2.2.2.2.2.2.2.2.2.2.2.2.2.2.2.2.2.1
theorem dX6_value_217 : decode cX6_value 217 = .ok (.isub, 1) := dq_g120.2.2.2.2.2.2.2.2.2.2.2.2.2.2.2.2.2.2.2.2.2.2.2.1
theorem dX6_value_218 : decode cX6_value 218 = .ok (.iload 6, 2) := dq_g120.2.2.2.2.2.2.2.2.2.2.2.2.2.2.2.2.2.2.2.2.2.2.2.2.1
theorem dX6_value_220 : decode cX6_value 220 = .ok (.aload_n 0, 1) := dq_g120.2.2.2.2.2.2.2.2.2.2.2.2.2.2.2.2.2.2.2.2.2.2.2.2.2.1
theorem dX6_value_221 : decode cX6_value 221 = .ok (.getfield 15, 3) := dq_g120.2.2.2.2.2.2.2.2.2.2.2.2.2.2.2.2.2.2.2.2.2.2.2.2.2.2.1
theorem dX6_value_224 : decode cX6_value 224 = .ok (.iload 4, 2) := dq_g120.2.2.2.2.2.2.2.2.2.2.2.2.2.2.2.2.2.2.2.2.2.2.2.2.2.2.2.1
theorem dX6_value_226 : decode cX6_value 226 = .ok (.iconst 1, 1) := dq_g120.2.2.2.2.2.2.2.2.2.2.2.2.2.2.2.2.2.2.2.2.2.2.2.2.2.2.2.2.1
theorem dX6_value_227 : decode cX6_value 227 = .ok (.isub, 1) := dq_g120.2.2.2.2.2.2.2.2.2.2.2.2.2.2.2.2.2.2.2.2.2.2.2.2.2.2.2.2.2.1
theorem dq_g121 : decode cX6_value 228 = .ok (.iaload, 1) ∧ decode cX6_value 229 = .ok (.aload_n 0, 1) ∧ decode cX6_value 230 = .ok (.getfield 15, 3) ∧ decode cX6_value 233 = .ok (.iload 4, 2) ∧ decode cX6_value 235 = .ok (.iaload, 1) ∧ decode cX6_value 236 = .ok (.invokestatic 98, 3) ∧ decode cX6_value 239 = .ok (.iastore, 1) ∧ decode cX6_value 240 = .ok (.iinc 5 1, 3) ∧ decode cX6_value 243 = .ok (.goto (-230), 3) ∧ decode cX6_value 246 = .ok (.aload_n 0, 1) ∧ decode cX6_value 247 = .ok (.getfield 15, 3) ∧ decode cX6_value 250 = .ok (.iconst 0, 1) ∧ decode cX6_value 251 = .ok (.iaload, 1) ∧ decode cX6_value 252 = .ok (.ireturn, 1) ∧ True := dqC_ok (c := cX6_value) [(228, 1, some (.iaload)), (229, 1, some (.aload_n 0)), (230, 3, some (.getfield 15)), (233, 2, some (.iload 4)), (235, 1, some (.iaload)), (236, 3, some (.invokestatic 98)), (239, 1, some (.iastore)), (240, 3, some (.iinc 5 1)), (243, 3, some (.goto (-230))), (246, 1, some (.aload_n 0)), (247, 3, some (.getfield 15)), (250, 1, some (.iconst 0)), (251, 1, some (.iaload)), (252, 1, some (.ireturn))] _ 228 rfl (by decide +kernel)
theorem dX6_value_228 : decode cX6_value 228 = .ok (.iaload, 1) := dq_g121.1
theorem dX6_value_229 : decode cX6_value 229 = .ok (.aload_n 0, 1) := dq_g121.2.1
theorem dX6_value_230 : decode cX6_value 230 = .ok (.getfield 15, 3) := dq_g121.2.2.1
theorem dX6_value_233 : decode cX6_value 233 = .ok (.iload 4, 2) := dq_g121.2.2.2.1
theorem dX6_value_235 : decode cX6_value 235 = .ok (.iaload, 1) := dq_g121.2.2.2.2.1
theorem dX6_value_236 : decode cX6_value 236 = .ok (.invokestatic 98, 3) := dq_g121.2.2.2.2.2.1
theorem dX6_value_239 : decode cX6_value 239 = .ok (.iastore, 1) := dq_g121.2.2.2.2.2.2.1
theorem dX6_value_240 : decode cX6_value 240 = .ok (.iinc 5 1, 3) := dq_g121.2.2.2.2.2.2.2.1
theorem dX6_value_243 : decode cX6_value 243 = .ok (.goto (-230), 3) := dq_g121.2.2.2.2.2.2.2.2.1
theorem dX6_value_246 : decode cX6_value 246 = .ok (.aload_n 0, 1) := dq_g121.2.2.2.2.2.2.2.2.2.1
theorem dX6_value_247 : decode cX6_value 247 = .ok (.getfield 15, 3) := dq_g121.2.2.2.2.2.2.2.2.2.2.1
theorem dX6_value_250 : decode cX6_value 250 = .ok (.iconst 0, 1) := dq_g121.2.2.2.2.2.2.2.2.2.2.2.1
theorem dX6_value_251 : decode cX6_value 251 = .ok (.iaload, 1) := dq_g121.2.2.2.2.2.2.2.2.2.2.2.2.1
theorem dX6_value_252 : decode cX6_value 252 = .ok (.ireturn, 1) := dq_g121.2.2.2.2.2.2.2.2.2.2.2.2.2.1
theorem dq_g122 : decode cX6_joined 0 = .ok (.iload_n 0, 1) ∧ decode cX6_joined 68 = .ok (.iload_n 1, 1) ∧ decode cX6_joined 69 = .ok (.iload_n 2, 1) ∧ decode cX6_joined 70 = .ok (.iadd, 1) ∧ decode cX6_joined 71 = .ok (.ireturn, 1) ∧ decode cX6_joined 72 = .ok (.iload_n 1, 1) ∧ decode cX6_joined 73 = .ok (.iload_n 2, 1) ∧ decode cX6_joined 74 = .ok (.isub, 1) ∧ decode cX6_joined 75 = .ok (.ireturn, 1) ∧ decode cX6_joined 76 = .ok (.iload_n 1, 1) ∧ decode cX6_joined 77 = .ok (.iload_n 2, 1) ∧ decode cX6_joined 78 = .ok (.imul, 1) ∧ decode cX6_joined 79 = .ok (.ireturn, 1) ∧ decode cX6_joined 80 = .ok (.iload_n 1, 1) ∧ decode cX6_joined 81 = .ok (.iload_n 2, 1) ∧ decode cX6_joined 82 = .ok (.if_icmp .ge 7, 3) ∧ decode cX6_joined 85 = .ok (.iconst 1, 1) ∧ decode cX6_joined 86 = .ok (.goto 4, 3) ∧ decode cX6_joined 89 = .ok (.iconst 0, 1) ∧ decode cX6_joined 90 = .ok (.ireturn, 1) ∧ decode cX6_joined 91 = .ok (.iload_n 1, 1) ∧ decode cX6_joined 92 = .ok (.iload_n 2, 1) ∧ decode cX6_joined 93 = .ok (.if_icmp .ne 7, 3) ∧ decode cX6_joined 96 = .ok (.iconst 1, 1) ∧ decode cX6_joined 97 = .ok (.goto 4, 3) ∧ decode cX6_joined 100 = .ok (.iconst 0, 1) ∧ decode cX6_joined 101 = .ok (.ireturn, 1) ∧ decode cX6_joined 102 = .ok (.iload_n 1, 1) ∧ decode cX6_joined 103 = .ok (.iload_n 2, 1) ∧ True := dqC_ok (c := cX6_joined) [(0, 1, some (.iload_n 0)), (1, 67, none), (68, 1, some (.iload_n 1)), (69, 1, some (.iload_n 2)), (70, 1, some (.iadd)), (71, 1, some (.ireturn)), (72, 1, some (.iload_n 1)), (73, 1, some (.iload_n 2)), (74, 1, some (.isub)), (75, 1, some (.ireturn)), (76, 1, some (.iload_n 1)), (77, 1, some (.iload_n 2)), (78, 1, some (.imul)), (79, 1, some (.ireturn)), (80, 1, some (.iload_n 1)), (81, 1, some (.iload_n 2)), (82, 3, some (.if_icmp .ge 7)), (85, 1, some (.iconst 1)), (86, 3, some (.goto 4)), (89, 1, some (.iconst 0)), (90, 1, some (.ireturn)), (91, 1, some (.iload_n 1)), (92, 1, some (.iload_n 2)), (93, 3, some (.if_icmp .ne 7)), (96, 1, some (.iconst 1)), (97, 3, some (.goto 4)), (100, 1, some (.iconst 0)), (101, 1, some (.ireturn)), (102, 1, some (.iload_n 1)), (103, 1, some (.iload_n 2))] _ 0 rfl (by decide +kernel)
theorem dX6_joined_0 : decode cX6_joined 0 = .ok (.iload_n 0, 1) := dq_g122.1
theorem dX6_joined_68 : decode cX6_joined 68 = .ok (.iload_n 1, 1) := dq_g122.2.1
theorem dX6_joined_69 : decode cX6_joined 69 = .ok (.iload_n 2, 1) := dq_g122.2.2.1
theorem dX6_joined_70 : decode cX6_joined 70 = .ok (.iadd, 1) := dq_g122.2.2.2.1
theorem dX6_joined_71 : decode cX6_joined 71 = .ok (.ireturn, 1) := dq_g122.2.2.2.2.1
theorem dX6_joined_72 : decode cX6_joined 72 = .ok (.iload_n 1, 1) := dq_g122.2.2.2.2.2.1
theorem dX6_joined_73 : decode cX6_joined 73 = .ok (.iload_n 2, 1) := dq_g122.2.2.2.2.2.2.1
theorem dX6_joined_74 : decode cX6_joined 74 = .ok (.isub, 1) := dq_g122.2.2.2.2.2.2.2.1
theorem dX6_joined_75 : decode cX6_joined 75 = .ok (.ireturn, 1) := dq_g122.2.2.2.2.2.2.2.2.1
theorem dX6_joined_76 : decode cX6_joined 76 = .ok (.iload_n 1, 1) := dq_g122.2.2.2.2.2.2.2.2.2.1
theorem dX6_joined_77 : decode cX6_joined 77 = .ok (.iload_n 2, 1) := dq_g122.2.2.2.2.2.2.2.2.2.2.1
theorem dX6_joined_78 : decode cX6_joined 78 = .ok (.imul, 1) := dq_g122.2.2.2.2.2.2.2.2.2.2.2.1
theorem dX6_joined_79 : decode cX6_joined 79 = .ok (.ireturn, 1) := dq_g122.2.2.2.2.2.2.2.2.2.2.2.2.1
theorem dX6_joined_80 : decode cX6_joined 80 = .ok (.iload_n 1, 1) := dq_g122.2.2.2.2.2.2.2.2.2.2.2.2.2.1
theorem dX6_joined_81 : decode cX6_joined 81 = .ok (.iload_n 2, 1) := dq_g122.2.2.2.2.2.2.2.2.2.2.2.2.2.2.1
theorem dX6_joined_82 : decode cX6_joined 82 = .ok (.if_icmp .ge 7, 3) := dq_g122.2.2.2.2.2.2.2.2.2.2.2.2.2.2.2.1
theorem dX6_joined_85 : decode cX6_joined 85 = .ok (.iconst 1, 1) := dq_g122.2.2.2.2.2.2.2.2.2.2.2.2.2.2.2.2.1
theorem dX6_joined_86 : decode cX6_joined 86 = .ok (.goto 4, 3) := dq_g122.2.2.2.2.2.2.2.2.2.2.2.2.2.2.2.2.2.1
theorem dX6_joined_89 : decode cX6_joined 89 = .ok (.iconst 0, 1) := dq_g122.2.2.2.2.2.2.2.2.2.2.2.2.2.2.2.2.2.2.1
theorem dX6_joined_90 : decode cX6_joined 90 = .ok (.ireturn, 1) := dq_g122.2.2.2.2.2.2.2.2.2.2.2.2.2.2.2.2.2.2.2.1
theorem dX6_joined_91 : decode cX6_joined 91 = .ok (.iload_n 1, 1) := dq_g122.2.2.2.2.2.2.2.2.2.2.2.2.2.2.2.2.2.2.2.2.1
theorem dX6_joined_92 : decode cX6_joined 92 = .ok (.iload_n 2, 1) := dq_g122.2.2.2.2.2.2.2.2.2.2.2.2.2.2.2.2.2.2.2.2.2.1
theorem dX6_joined_93 : decode cX6_joined 93 = .ok (.if_icmp .ne 7, 3) := dq_g122.2.2.2.2.2.2.2.2.2.2.2.2.2.2.2.2.2.2.2.2.2.2.1
theorem dX6_joined_96 : decode cX6_joined 96 = .ok (.iconst 1, 1) := dq_g122.2.2.2.2.2.2.2.2.2.2.2.2.2.2.2.2.2.2.2.2.2.2.2.1
theorem dX6_joined_97 : decode cX6_joined 97 = .ok (.goto 4, 3) := dq_g122.2.2.2.2.2.2.2.2.2.2.2.2.2.2.2.2.2.2.2.2.2.2.2.2.1
theorem dX6_joined_100 : decode cX6_joined 100 = .ok (.iconst 0, 1) := dq_g122.2.2.2.2.2.2.2.2.2.2.2.2.2.2.2.2.2.2.2.2.2.2.2.2.2.1
theorem dX6_joined_101 : decode cX6_joined 101 = .ok (.ireturn, 1) := dq_g122.2.2.2.2.2.2.2.2.2.2.2.2.2.2.2.2.2.2.2.2.2.2.2.2.2.2.1
theorem dX6_joined_102 : decode cX6_joined 102 = .ok (.iload_n 1, 1) := dq_g122.2.2.2.2.2.2.2.2.2.2.2.2.2.2.2.2.2.2.2.2.2.2.2.2.2.2.2.1
theorem dX6_joined_103 : decode cX6_joined 103 = .ok (.iload_n 2, 1) := dq_g122.2.2.2.2.2.2.2.2.2.2.2.2.2.2.2.2.2.2.2.2.2.2.2.2.2.2.2.2.1
theorem dX6_joined_1 : decode cX6_joined 1 = .ok (.lookupswitch 116 #[(9, 112), (42, 75), (43, 67), (45, 71), (60, 79), (61, 90), (62, 101)], 67) := by decide +kernel
theorem dq_g123 : decode cX6_joined 104 = .ok (.if_icmp .le 7, 3) ∧ decode cX6_joined 107 = .ok (.iconst 1, 1) ∧ decode cX6_joined 108 = .ok (.goto 4, 3) ∧ decode cX6_joined 111 = .ok (.iconst 0, 1) ∧ decode cX6_joined 112 = .ok (.ireturn, 1) ∧ decode cX6_joined 113 = .ok (.iload_n 1, 1) ∧ decode cX6_joined 114 = .ok (.iload_n 2, 1) ∧ decode cX6_joined 115 = .ok (.iand, 1) ∧ decode cX6_joined 116 = .ok (.ireturn, 1) ∧ decode cX6_joined 117 = .ok (.iload_n 1, 1) ∧ decode cX6_joined 118 = .ok (.iload_n 2, 1) ∧ decode cX6_joined 119 = .ok (.ior, 1) ∧ decode cX6_joined 120 = .ok (.ireturn, 1) ∧ True := dqC_ok (c := cX6_joined) [(104, 3, some (.if_icmp .le 7)), (107, 1, some (.iconst 1)), (108, 3, some (.goto 4)), (111, 1, some (.iconst 0)), (112, 1, some (.ireturn)), (113, 1, some (.iload_n 1)), (114, 1, some (.iload_n 2)), (115, 1, some (.iand)), (116, 1, some (.ireturn)), (117, 1, some (.iload_n 1)), (118, 1, some (.iload_n 2)), (119, 1, some (.ior)), (120, 1, some (.ireturn))] _ 104 rfl (by decide +kernel)
theorem dX6_joined_104 : decode cX6_joined 104 = .ok (.if_icmp .le 7, 3) := dq_g123.1
theorem dX6_joined_107 : decode cX6_joined 107 = .ok (.iconst 1, 1) := dq_g123.2.1
theorem dX6_joined_108 : decode cX6_joined 108 = .ok (.goto 4, 3) := dq_g123.2.2.1
theorem dX6_joined_111 : decode cX6_joined 111 = .ok (.iconst 0, 1) := dq_g123.2.2.2.1
theorem dX6_joined_112 : decode cX6_joined 112 = .ok (.ireturn, 1) := dq_g123.2.2.2.2.1
theorem dX6_joined_113 : decode cX6_joined 113 = .ok (.iload_n 1, 1) := dq_g123.2.2.2.2.2.1
theorem dX6_joined_114 : decode cX6_joined 114 = .ok (.iload_n 2, 1) := dq_g123.2.2.2.2.2.2.1
theorem dX6_joined_115 : decode cX6_joined 115 = .ok (.iand, 1) := dq_g123.2.2.2.2.2.2.2.1
theorem dX6_joined_116 : decode cX6_joined 116 = .ok (.ireturn, 1) := dq_g123.2.2.2.2.2.2.2.2.1
theorem dX6_joined_117 : decode cX6_joined 117 = .ok (.iload_n 1, 1) := dq_g123.2.2.2.2.2.2.2.2.2.1
theorem dX6_joined_118 : decode cX6_joined 118 = .ok (.iload_n 2, 1) := dq_g123.2.2.2.2.2.2.2.2.2.2.1
theorem dX6_joined_119 : decode cX6_joined 119 = .ok (.ior, 1) := dq_g123.2.2.2.2.2.2.2.2.2.2.2.1
theorem dX6_joined_120 : decode cX6_joined 120 = .ok (.ireturn, 1) := dq_g123.2.2.2.2.2.2.2.2.2.2.2.2.1
theorem dq_g124 : decode cX7_init 0 = .ok (.aload_n 0, 1) ∧ decode cX7_init 1 = .ok (.invokespecial 3, 3) ∧ decode cX7_init 4 = .ok (.aload_n 0, 1) ∧ decode cX7_init 5 = .ok (.bipush 16, 2) ∧ decode cX7_init 9 = .ok (.putfield 9, 3) ∧ decode cX7_init 12 = .ok (.aload_n 0, 1) ∧ decode cX7_init 13 = .ok (.bipush 16, 2) ∧ decode cX7_init 17 = .ok (.putfield 15, 3) ∧ decode cX7_init 20 = .ok (.aload_n 0, 1) ∧ decode cX7_init 21 = .ok (.bipush 16, 2) ∧ decode cX7_init 25 = .ok (.putfield 18, 3) ∧ decode cX7_init 28 = .ok (.aload_n 0, 1) ∧ decode cX7_init 29 = .ok (.bipush 16, 2) ∧ decode cX7_init 33 = .ok (.putfield 21, 3) ∧ decode cX7_init 36 = .ok (.aload_n 0, 1) ∧ decode cX7_init 37 = .ok (.bipush 16, 2) ∧ decode cX7_init 41 = .ok (.putfield 24, 3) ∧ decode cX7_init 44 = .ok (.aload_n 0, 1) ∧ decode cX7_init 45 = .ok (.bipush 16, 2) ∧ decode cX7_init 49 = .ok (.putfield 27, 3) ∧ decode cX7_init 52 = .ok (.aload_n 0, 1) ∧ decode cX7_init 53 = .ok (.bipush 16, 2) ∧ decode cX7_init 57 = .ok (.putfield 30, 3) ∧ True := dqC_ok (c := cX7_init) [(0, 1, some (.aload_n 0)), (1, 3, some (.invokespecial 3)), (4, 1, some (.aload_n 0)), (5, 2, some (.bipush 16)), (7, 2, none), (9, 3, some (.putfield 9)), (12, 1, some (.aload_n 0)), (13, 2, some (.bipush 16)), (15, 2, none), (17, 3, some (.putfield 15)), (20, 1, some (.aload_n 0)), (21, 2, some (.bipush 16)), (23, 2, none), (25, 3, some (.putfield 18)), (28, 1, some (.aload_n 0)), (29, 2, some (.bipush 16)), (31, 2, none), (33, 3, some (.putfield 21)), (36, 1, some (.aload_n 0)), (37, 2, some (.bipush 16)), (39, 2, none), (41, 3, some (.putfield 24)), (44, 1, some (.aload_n 0)), (45, 2, some (.bipush 16)), (47, 2, none), (49, 3, some (.putfield 27)), (52, 1, some (.aload_n 0)), (53, 2, some (.bipush 16)), (55, 2, none), (57, 3, some (.putfield 30))] _ 0 rfl (by decide +kernel)
theorem dX7_init_0 : decode cX7_init 0 = .ok (.aload_n 0, 1) := dq_g124.1
theorem dX7_init_1 : decode cX7_init 1 = .ok (.invokespecial 3, 3) := dq_g124.2.1
theorem dX7_init_4 : decode cX7_init 4 = .ok (.aload_n 0, 1) := dq_g124.2.2.1
theorem dX7_init_5 : decode cX7_init 5 = .ok (.bipush 16, 2) := dq_g124.2.2.2.1
theorem dX7_init_9 : decode cX7_init 9 = .ok (.putfield 9, 3) := dq_g124.2.2.2.2.1
theorem dX7_init_12 : decode cX7_init 12 = .ok (.aload_n 0, 1) := dq_g124.2.2.2.2.2.1
theorem dX7_init_13 : decode cX7_init 13 = .ok (.bipush 16, 2) := dq_g124.2.2.2.2.2.2.1
theorem dX7_init_17 : decode cX7_init 17 = .ok (.putfield 15, 3) := dq_g124.2.2.2.2.2.2.2.1
theorem dX7_init_20 : decode cX7_init 20 = .ok (.aload_n 0, 1) := dq_g124.2.2.2.2.2.2.2.2.1
theorem dX7_init_21 : decode cX7_init 21 = .ok (.bipush 16, 2) := dq_g124.2.2.2.2.2.2.2.2.2.1
theorem dX7_init_25 : decode cX7_init 25 = .ok (.putfield 18, 3) := dq_g124.2.2.2.2.2.2.2.2.2.2.1
theorem dX7_init_28 : decode cX7_init 28 = .ok (.aload_n 0, 1) := dq_g124.2.2.2.2.2.2.2.2.2.2.2.1
theorem dX7_init_29 : decode cX7_init 29 = .ok (.bipush 16, 2) := dq_g124.2.2.2.2.2.2.2.2.2.2.2.2.1
theorem dX7_init_33 : decode cX7_init 33 = .ok (.putfield 21, 3) := dq_g124.2.2.2.2.2.2.2.2.2.2.2.2.2.1
theorem dX7_init_36 : decode cX7_init 36 = .ok (.aload_n 0, 1) := dq_g124.2.2.2.2.2.2.2.2.2.2.2.2.2.2.1
theorem dX7_init_37 : decode cX7_init 37 = .ok (.bipush 16, 2) := dq_g124.2.2.2.2.2.2.2.2.2.2.2.2.2.2.2.1
theorem dX7_init_41 : decode cX7_init 41 = .ok (.putfield 24, 3) := dq_g124.2.2.2.2.2.2.2.2.2.2.2.2.2.2.2.2.1
theorem dX7_init_44 : decode cX7_init 44 = .ok (.aload_n 0, 1) := dq_g124.2.2.2.2.2.2.2.2.2.2.2.2.2.2.2.2.2.1
theorem dX7_init_45 : decode cX7_init 45 = .ok (.bipush 16, 2) := dq_g124.2.2.2.2.2.2.2.2.2.2.2.2.2.2.2.2.2.2.1
theorem dX7_init_49 : decode cX7_init 49 = .ok (.putfield 27, 3) := dq_g124.2.2.2.2.2.2.2.2.2.2.2.2.2.2.2.2.2.2.2.1
theorem dX7_init_52 : decode cX7_init 52 = .ok (.aload_n 0, 1) := dq_g124.2.2.2.2.2.2.2.2.2.2.2.2.2.2.2.2.2.2.2.2.1
theorem dX7_init_53 : decode cX7_init 53 = .ok (.bipush 16, 2) := dq_g124.2.2.2.2.2.2.2.2.2.2.2.2.2.2.2.2.2.2.2.2.2.1
theorem dX7_init_57 : decode cX7_init 57 = .ok (.putfield 30, 3) := dq_g124.2.2.2.2.2.2.2.2.2.2.2.2.2.2.2.2.2.2.2.2.2.2.1
theorem dX7_init_7 : decode cX7_init 7 = .ok (.newarray .int, 2) := by decide +kernel
theorem dX7_init_15 : decode cX7_init 15 = .ok (.newarray .int, 2) := by decide +kernel
theorem dX7_init_23 : decode cX7_init 23 = .ok (.newarray .int, 2) := by decide +kernel
theorem dX7_init_31 : decode cX7_init 31 = .ok (.newarray .int, 2) := by decide +kernel
theorem dX7_init_39 : decode cX7_init 39 = .ok (.newarray .int, 2) := by decide +kernel
theorem dX7_init_47 : decode cX7_init 47 = .ok (.newarray .int, 2) := by decide +kernel
theorem dX7_init_55 : decode cX7_init 55 = .ok (.newarray .int, 2) := by decide +kernel
theorem dq_g125 : decode cX7_init 60 = .ok (.aload_n 0, 1) ∧ decode cX7_init 61 = .ok (.sipush 500, 3) ∧ decode cX7_init 66 = .ok (.putfield 33, 3) ∧ decode cX7_init 69 = .ok (.return_, 1) ∧ True := dqC_ok (c := cX7_init) [(60, 1, some (.aload_n 0)), (61, 3, some (.sipush 500)), (64, 2, none), (66, 3, some (.putfield 33)), (69, 1, some (.return_))] _ 60 rfl (by decide +kernel)
theorem dX7_init_60 : decode cX7_init 60 = .ok (.aload_n 0, 1) := dq_g125.1
theorem dX7_init_61 : decode cX7_init 61 = .ok (.sipush 500, 3) := dq_g125.2.1
theorem dX7_init_66 : decode cX7_init 66 = .ok (.putfield 33, 3) := dq_g125.2.2.1
theorem dX7_init_69 : decode cX7_init 69 = .ok (.return_, 1) := dq_g125.2.2.2.1
theorem dX7_init_64 : decode cX7_init 64 = .ok (.newarray .int, 2) := by decide +kernel
theorem dq_g126 : decode cX7_clear 0 = .ok (.aload_n 0, 1) ∧ decode cX7_clear 1 = .ok (.iconst 0, 1) ∧ decode cX7_clear 2 = .ok (.putfield 36, 3) ∧ decode cX7_clear 5 = .ok (.aload_n 0, 1) ∧ decode cX7_clear 6 = .ok (.iconst 0, 1) ∧ decode cX7_clear 7 = .ok (.putfield 40, 3) ∧ decode cX7_clear 10 = .ok (.return_, 1) ∧ True := dqC_ok (c := cX7_clear) [(0, 1, some (.aload_n 0)), (1, 1, some (.iconst 0)), (2, 3, some (.putfield 36)), (5, 1, some (.aload_n 0)), (6, 1, some (.iconst 0)), (7, 3, some (.putfield 40)), (10, 1, some (.return_))] _ 0 rfl (by decide +kernel)
theorem dX7_clear_0 : decode cX7_clear 0 = .ok (.aload_n 0, 1) := dq_g126.1
theorem dX7_clear_1 : decode cX7_clear 1 = .ok (.iconst 0, 1) := dq_g126.2.1
theorem dX7_clear_2 : decode cX7_clear 2 = .ok (.putfield 36, 3) := dq_g126.2.2.1
theorem dX7_clear_5 : decode cX7_clear 5 = .ok (.aload_n 0, 1) := dq_g126.2.2.2.1
theorem dX7_clear_6 : decode cX7_clear 6 = .ok (.iconst 0, 1) := dq_g126.2.2.2.2.1
theorem dX7_clear_7 : decode cX7_clear 7 = .ok (.putfield 40, 3) := dq_g126.2.2.2.2.2.1
theorem dX7_clear_10 : decode cX7_clear 10 = .ok (.return_, 1) := dq_g126.2.2.2.2.2.2.1
theorem dq_g127 : decode cX7_addStep 0 = .ok (.aload_n 0, 1) ∧ decode cX7_addStep 1 = .ok (.getfield 40, 3) ∧ decode cX7_addStep 4 = .ok (.sipush 500, 3) ∧ decode cX7_addStep 7 = .ok (.if_icmp .ge 28, 3) ∧ decode cX7_addStep 10 = .ok (.aload_n 0, 1) ∧ decode cX7_addStep 11 = .ok (.getfield 33, 3) ∧ decode cX7_addStep 14 = .ok (.aload_n 0, 1) ∧ decode cX7_addStep 15 = .ok (.getfield 40, 3) ∧ decode cX7_addStep 18 = .ok (.iload_n 1, 1) ∧ decode cX7_addStep 19 = .ok (.ldc 43, 2) ∧ decode cX7_addStep 21 = .ok (.imul, 1) ∧ decode cX7_addStep 22 = .ok (.iload_n 2, 1) ∧ decode cX7_addStep 23 = .ok (.iadd, 1) ∧ decode cX7_addStep 24 = .ok (.iastore, 1) ∧ decode cX7_addStep 25 = .ok (.aload_n 0, 1) ∧ decode cX7_addStep 26 = .ok (.dup, 1) ∧ decode cX7_addStep 27 = .ok (.getfield 40, 3) ∧ decode cX7_addStep 30 = .ok (.iconst 1, 1) ∧ decode cX7_addStep 31 = .ok (.iadd, 1) ∧ decode cX7_addStep 32 = .ok (.putfield 40, 3) ∧ decode cX7_addStep 35 = .ok (.return_, 1) ∧ True := dqC_ok (c := cX7_addStep) [(0, 1, some (.aload_n 0)), (1, 3, some (.getfield 40)), (4, 3, some (.sipush 500)), (7, 3, some (.if_icmp .ge 28)), (10, 1, some (.aload_n 0)), (11, 3, some (.getfield 33)), (14, 1, some (.aload_n 0)), (15, 3, some (.getfield 40)), (18, 1, some (.iload_n 1)), (19, 2, some (.ldc 43)), (21, 1, some (.imul)), (22, 1, some (.iload_n 2)), (23, 1, some (.iadd)), (24, 1, some (.iastore)), (25, 1, some (.aload_n 0)), (26, 1, some (.dup)), (27, 3, some (.getfield 40)), (30, 1, some (.iconst 1)), (31, 1, some (.iadd)), (32, 3, some (.putfield 40)), (35, 1, some (.return_))] _ 0 rfl (by decide +kernel)
theorem dX7_addStep_0 : decode cX7_addStep 0 = .ok (.aload_n 0, 1) := dq_g127.1
theorem dX7_addStep_1 : decode cX7_addStep 1 = .ok (.getfield 40, 3) := dq_g127.2.1
theorem dX7_addStep_4 : decode cX7_addStep 4 = .ok (.sipush 500, 3) := dq_g127.2.2.1
theorem dX7_addStep_7 : decode cX7_addStep 7 = .ok (.if_icmp .ge 28, 3) := dq_g127.2.2.2.1
theorem dX7_addStep_10 : decode cX7_addStep 10 = .ok (.aload_n 0, 1) := dq_g127.2.2.2.2.1
theorem dX7_addStep_11 : decode cX7_addStep 11 = .ok (.getfield 33, 3) := dq_g127.2.2.2.2.2.1
theorem dX7_addStep_14 : decode cX7_addStep 14 = .ok (.aload_n 0, 1) := dq_g127.2.2.2.2.2.2.1
theorem dX7_addStep_15 : decode cX7_addStep 15 = .ok (.getfield 40, 3) := dq_g127.2.2.2.2.2.2.2.1
theorem dX7_addStep_18 : decode cX7_addStep 18 = .ok (.iload_n 1, 1) := dq_g127.2.2.2.2.2.2.2.2.1
theorem dX7_addStep_19 : decode cX7_addStep 19 = .ok (.ldc 43, 2) := dq_g127.2.2.2.2.2.2.2.2.2.1
theorem dX7_addStep_21 : decode cX7_addStep 21 = .ok (.imul, 1) := dq_g127.2.2.2.2.2.2.2.2.2.2.1
theorem dX7_addStep_22 : decode cX7_addStep 22 = .ok (.iload_n 2, 1) := dq_g127.2.2.2.2.2.2.2.2.2.2.2.1
theorem dX7_addStep_23 : decode cX7_addStep 23 = .ok (.iadd, 1) := dq_g127.2.2.2.2.2.2.2.2.2.2.2.2.1
theorem dX7_addStep_24 : decode cX7_addStep 24 = .ok (.iastore, 1) := dq_g127.2.2.2.2.2.2.2.2.2.2.2.2.2.1
theorem dX7_addStep_25 : decode cX7_addStep 25 = .ok (.aload_n 0, 1) := dq_g127.2.2.2.2.2.2.2.2.2.2.2.2.2.2.1
theorem dX7_addStep_26 : decode cX7_addStep 26 = .ok (.dup, 1) := dq_g127.2.2.2.2.2.2.2.2.2.2.2.2.2.2.2.1
theorem dX7_addStep_27 : decode cX7_addStep 27 = .ok (.getfield 40, 3) := dq_g127.2.2.2.2.2.2.2.2.2.2.2.2.2.2.2.2.1
theorem dX7_addStep_30 : decode cX7_addStep 30 = .ok (.iconst 1, 1) := dq_g127.2.2.2.2.2.2.2.2.2.2.2.2.2.2.2.2.2.1
theorem dX7_addStep_31 : decode cX7_addStep 31 = .ok (.iadd, 1) := dq_g127.2.2.2.2.2.2.2.2.2.2.2.2.2.2.2.2.2.2.1
theorem dX7_addStep_32 : decode cX7_addStep 32 = .ok (.putfield 40, 3) := dq_g127.2.2.2.2.2.2.2.2.2.2.2.2.2.2.2.2.2.2.2.1
theorem dX7_addStep_35 : decode cX7_addStep 35 = .ok (.return_, 1) := dq_g127.2.2.2.2.2.2.2.2.2.2.2.2.2.2.2.2.2.2.2.2.1
theorem dq_g128 : decode cX7_hasWhen 0 = .ok (.aload_n 0, 1) ∧ decode cX7_hasWhen 1 = .ok (.getfield 27, 3) ∧ decode cX7_hasWhen 4 = .ok (.iload_n 1, 1) ∧ decode cX7_hasWhen 5 = .ok (.iaload, 1) ∧ decode cX7_hasWhen 6 = .ok (.aload_n 0, 1) ∧ decode cX7_hasWhen 7 = .ok (.getfield 30, 3) ∧ decode cX7_hasWhen 10 = .ok (.iload_n 1, 1) ∧ decode cX7_hasWhen 11 = .ok (.iaload, 1) ∧ decode cX7_hasWhen 12 = .ok (.if_icmp .ge 7, 3) ∧ decode cX7_hasWhen 15 = .ok (.iconst 1, 1) ∧ decode cX7_hasWhen 16 = .ok (.goto 4, 3) ∧ decode cX7_hasWhen 19 = .ok (.iconst 0, 1) ∧ decode cX7_hasWhen 20 = .ok (.ireturn, 1) ∧ True := dqC_ok (c := cX7_hasWhen) [(0, 1, some (.aload_n 0)), (1, 3, some (.getfield 27)), (4, 1, some (.iload_n 1)), (5, 1, some (.iaload)), (6, 1, some (.aload_n 0)), (7, 3, some (.getfield 30)), (10, 1, some (.iload_n 1)), (11, 1, some (.iaload)), (12, 3, some (.if_icmp .ge 7)), (15, 1, some (.iconst 1)), (16, 3, some (.goto 4)), (19, 1, some (.iconst 0)), (20, 1, some (.ireturn))] _ 0 rfl (by decide +kernel)
theorem dX7_hasWhen_0 : decode cX7_hasWhen 0 = .ok (.aload_n 0, 1) := dq_g128.1
theorem dX7_hasWhen_1 : decode cX7_hasWhen 1 = .ok (.getfield 27, 3) := dq_g128.2.1
theorem dX7_hasWhen_4 : decode cX7_hasWhen 4 = .ok (.iload_n 1, 1) := dq_g128.2.2.1
theorem dX7_hasWhen_5 : decode cX7_hasWhen 5 = .ok (.iaload, 1) := dq_g128.2.2.2.1
theorem dX7_hasWhen_6 : decode cX7_hasWhen 6 = .ok (.aload_n 0, 1) := dq_g128.2.2.2.2.1
theorem dX7_hasWhen_7 : decode cX7_hasWhen 7 = .ok (.getfield 30, 3) := dq_g128.2.2.2.2.2.1
theorem dX7_hasWhen_10 : decode cX7_hasWhen 10 = .ok (.iload_n 1, 1) := dq_g128.2.2.2.2.2.2.1
theorem dX7_hasWhen_11 : decode cX7_hasWhen 11 = .ok (.iaload, 1) := dq_g128.2.2.2.2.2.2.2.1
theorem dX7_hasWhen_12 : decode cX7_hasWhen 12 = .ok (.if_icmp .ge 7, 3) := dq_g128.2.2.2.2.2.2.2.2.1
theorem dX7_hasWhen_15 : decode cX7_hasWhen 15 = .ok (.iconst 1, 1) := dq_g128.2.2.2.2.2.2.2.2.2.1
theorem dX7_hasWhen_16 : decode cX7_hasWhen 16 = .ok (.goto 4, 3) := dq_g128.2.2.2.2.2.2.2.2.2.2.1
theorem dX7_hasWhen_19 : decode cX7_hasWhen 19 = .ok (.iconst 0, 1) := dq_g128.2.2.2.2.2.2.2.2.2.2.2.1
theorem dX7_hasWhen_20 : decode cX7_hasWhen 20 = .ok (.ireturn, 1) := dq_g128.2.2.2.2.2.2.2.2.2.2.2.2.1
theorem dq_g129 : decode cX7_copyFrom 0 = .ok (.aload_n 0, 1) ∧ decode cX7_copyFrom 1 = .ok (.aload_n 1, 1) ∧ decode cX7_copyFrom 2 = .ok (.getfield 36, 3) ∧ decode cX7_copyFrom 5 = .ok (.putfield 36, 3) ∧ decode cX7_copyFrom 8 = .ok (.aload_n 1, 1) ∧ decode cX7_copyFrom 9 = .ok (.getfield 9, 3) ∧ decode cX7_copyFrom 12 = .ok (.iconst 0, 1) ∧ decode cX7_copyFrom 13 = .ok (.aload_n 0, 1) ∧ decode cX7_copyFrom 14 = .ok (.getfield 9, 3) ∧ decode cX7_copyFrom 17 = .ok (.iconst 0, 1) ∧ decode cX7_copyFrom 18 = .ok (.bipush 16, 2) ∧ decode cX7_copyFrom 20 = .ok (.invokestatic 44, 3) ∧ decode cX7_copyFrom 23 = .ok (.aload_n 1, 1) ∧ decode cX7_copyFrom 24 = .ok (.getfield 15, 3) ∧ decode cX7_copyFrom 27 = .ok (.iconst 0, 1) ∧ decode cX7_copyFrom 28 = .ok (.aload_n 0, 1) ∧ decode cX7_copyFrom 29 = .ok (.getfield 15, 3) ∧ decode cX7_copyFrom 32 = .ok (.iconst 0, 1) ∧ decode cX7_copyFrom 33 = .ok (.bipush 16, 2) ∧ decode cX7_copyFrom 35 = .ok (.invokestatic 44, 3) ∧ decode cX7_copyFrom 38 = .ok (.aload_n 1, 1) ∧ decode cX7_copyFrom 39 = .ok (.getfield 18, 3) ∧ decode cX7_copyFrom 42 = .ok (.iconst 0, 1) ∧ decode cX7_copyFrom 43 = .ok (.aload_n 0, 1) ∧ decode cX7_copyFrom 44 = .ok (.getfield 18, 3) ∧ decode cX7_copyFrom 47 = .ok (.iconst 0, 1) ∧ decode cX7_copyFrom 48 = .ok (.bipush 16, 2) ∧ decode cX7_copyFrom 50 = .ok (.invokestatic 44, 3) ∧ decode cX7_copyFrom 53 = .ok (.aload_n 1, 1) ∧ decode cX7_copyFrom 54 = .ok (.getfield 21, 3) ∧ True := dqC_ok (c := cX7_copyFrom) [(0, 1, some (.aload_n 0)), (1, 1, some (.aload_n 1)), (2, 3, some (.getfield 36)), (5, 3, some (.putfield 36)), (8, 1, some (.aload_n 1)), (9, 3, some (.getfield 9)), (12, 1, some (.iconst 0)), (13, 1, some (.aload_n 0)), (14, 3, some (.getfield 9)), (17, 1, some (.iconst 0)), (18, 2, some (.bipush 16)), (20, 3, some (.invokestatic 44)), (23, 1, some (.aload_n 1)), (24, 3, some (.getfield 15)), (27, 1, some (.iconst 0)), (28, 1, some (.aload_n 0)), (29, 3, some (.getfield 15)), (32, 1, some (.iconst 0)), (33, 2, some (.bipush 16)), (35, 3, some (.invokestatic 44)), (38, 1, some (.aload_n 1)), (39, 3, some (.getfield 18)), (42, 1, some (.iconst 0)), (43, 1, some (.aload_n 0)), (44, 3, some (.getfield 18)), (47, 1, some (.iconst 0)), (48, 2, some (.bipush 16)), (50, 3, some (.invokestatic 44)), (53, 1, some (.aload_n 1)), (54, 3, some (.getfield 21))] _ 0 rfl (by decide +kernel)
theorem dX7_copyFrom_0 : decode cX7_copyFrom 0 = .ok (.aload_n 0, 1) := dq_g129.1
theorem dX7_copyFrom_1 : decode cX7_copyFrom 1 = .ok (.aload_n 1, 1) := dq_g129.2.1
theorem dX7_copyFrom_2 : decode cX7_copyFrom 2 = .ok (.getfield 36, 3) := dq_g129.2.2.1
theorem dX7_copyFrom_5 : decode cX7_copyFrom 5 = .ok (.putfield 36, 3) := dq_g129.2.2.2.1
theorem dX7_copyFrom_8 : decode cX7_copyFrom 8 = .ok (.aload_n 1, 1) := dq_g129.2.2.2.2.1
theorem dX7_copyFrom_9 : decode cX7_copyFrom 9 = .ok (.getfield 9, 3) := dq_g129.2.2.2.2.2.1
theorem dX7_copyFrom_12 : decode cX7_copyFrom 12 = .ok (.iconst 0, 1) := dq_g129.2.2.2.2.2.2.1
theorem dX7_copyFrom_13 : decode cX7_copyFrom 13 = .ok (.aload_n 0, 1) := dq_g129.2.2.2.2.2.2.2.1
theorem dX7_copyFrom_14 : decode cX7_copyFrom 14 = .ok (.getfield 9, 3) := dq_g129.2.2.2.2.2.2.2.2.1
theorem dX7_copyFrom_17 : decode cX7_copyFrom 17 = .ok (.iconst 0, 1) := dq_g129.2.2.2.2.2.2.2.2.2.1
theorem dX7_copyFrom_18 : decode cX7_copyFrom 18 = .ok (.bipush 16, 2) := dq_g129.2.2.2.2.2.2.2.2.2.2.1
theorem dX7_copyFrom_20 : decode cX7_copyFrom 20 = .ok (.invokestatic 44, 3) := dq_g129.2.2.2.2.2.2.2.2.2.2.2.1
theorem dX7_copyFrom_23 : decode cX7_copyFrom 23 = .ok (.aload_n 1, 1) := dq_g129.2.2.2.2.2.2.2.2.2.2.2.2.1
theorem dX7_copyFrom_24 : decode cX7_copyFrom 24 = .ok (.getfield 15, 3) := dq_g129.2.2.2.2.2.2.2.2.2.2.2.2.2.1
theorem dX7_copyFrom_27 : decode cX7_copyFrom 27 = .ok (.iconst 0, 1) := dq_g129.2.2.2.2.2.2.2.2.2.2.2.2.2.2.1
theorem dX7_copyFrom_28 : decode cX7_copyFrom 28 = .ok (.aload_n 0, 1) := dq_g129.2.2.2.2.2.2.2.2.2.2.2.2.2.2.2.1
theorem dX7_copyFrom_29 : decode cX7_copyFrom 29 = .ok (.getfield 15, 3) := dq_g129.2.2.2.2.2.2.2.2.2.2.2.2.2.2.2.2.1
theorem dX7_copyFrom_32 : decode cX7_copyFrom 32 = .ok (.iconst 0, 1) := dq_g129.2.2.2.2.2.2.2.2.2.2.2.2.2.2.2.2.2.1
theorem dX7_copyFrom_33 : decode cX7_copyFrom 33 = .ok (.bipush 16, 2) := dq_g129.2.2.2.2.2.2.2.2.2.2.2.2.2.2.2.2.2.2.1
theorem dX7_copyFrom_35 : decode cX7_copyFrom 35 = .ok (.invokestatic 44, 3) := dq_g129.2.2.2.2.2.2.2.2.2.2.2.2.2.2.2.2.2.2.2.1
theorem dX7_copyFrom_38 : decode cX7_copyFrom 38 = .ok (.aload_n 1, 1) := dq_g129.2.2.2.2.2.2.2.2.2.2.2.2.2.2.2.2.2.2.2.2.1
theorem dX7_copyFrom_39 : decode cX7_copyFrom 39 = .ok (.getfield 18, 3) := dq_g129.2.2.2.2.2.2.2.2.2.2.2.2.2.2.2.2.2.2.2.2.2.1
theorem dX7_copyFrom_42 : decode cX7_copyFrom 42 = .ok (.iconst 0, 1) := dq_g129.2.2.2.2.2.2.2.2.2.2.2.2.2.2.2.2.2.2.2.2.2.2.1
theorem dX7_copyFrom_43 : decode cX7_copyFrom 43 = .ok (.aload_n 0, 1) := dq_g129.2.2.2.2.2.2.2.2.2.2.2.2.2.2.2.2.2.2.2.2.2.2.2.1
theorem dX7_copyFrom_44 : decode cX7_copyFrom 44 = .ok (.getfield 18, 3) := dq_g129.2.2.2.2.2.2.2.2.2.2.2.2.2.2.2.2.2.2.2.2.2.2.2.2.1
theorem dX7_copyFrom_47 : decode cX7_copyFrom 47 = .ok (.iconst 0, 1) := dq_g129.2.2.2.2.2.2.2.2.2.2.2.2.2.2.2.2.2.2.2.2.2.2.2.2.2.1
theorem dX7_copyFrom_48 : decode cX7_copyFrom 48 = .ok (.bipush 16, 2) := dq_g129.2.2.2.2.2.2.2.2.2.2.2.2.2.2.2.2.2.2.2.2.2.2.2.2.2.2.1
theorem dX7_copyFrom_50 : decode cX7_copyFrom 50 = .ok (.invokestatic 44, 3) := dq_g129.2.2.2.2.2.2.2.2.2.2.2.2.2.2.2.2.2.2.2.2.2.2.2.2.2.2.2.1
theorem dX7_copyFrom_53 : decode cX7_copyFrom 53 = .ok (.aload_n 1, 1) := dq_g129.2.2.2.2.2.2.2.2.2.2.2.2.2.2.2.2.2.2.2.2.2.2.2.2.2.2.2.2.1
theorem dX7_copyFrom_54 : decode cX7_copyFrom 54 = .ok (.getfield 21, 3) := dq_g129.2.2.2.2.2.2.2.2.2.2.2.2.2.2.2.2.2.2.2.2.2.2.2.2.2.2.2.2.2.1
theorem dq_g130 : decode cX7_copyFrom 57 = .ok (.iconst 0, 1) ∧ decode cX7_copyFrom 58 = .ok (.aload_n 0, 1) ∧ decode cX7_copyFrom 59 = .ok (.getfield 21, 3) ∧ decode cX7_copyFrom 62 = .ok (.iconst 0, 1) ∧ decode cX7_copyFrom 63 = .ok (.bipush 16, 2) ∧ decode cX7_copyFrom 65 = .ok (.invokestatic 44, 3) ∧ decode cX7_copyFrom 68 = .ok (.aload_n 1, 1) ∧ decode cX7_copyFrom 69 = .ok (.getfield 24, 3) ∧ decode cX7_copyFrom 72 = .ok (.iconst 0, 1) ∧ decode cX7_copyFrom 73 = .ok (.aload_n 0, 1) ∧ decode cX7_copyFrom 74 = .ok (.getfield 24, 3) ∧ decode cX7_copyFrom 77 = .ok (.iconst 0, 1) ∧ decode cX7_copyFrom 78 = .ok (.bipush 16, 2) ∧ decode cX7_copyFrom 80 = .ok (.invokestatic 44, 3) ∧ decode cX7_copyFrom 83 = .ok (.aload_n 1, 1) ∧ decode cX7_copyFrom 84 = .ok (.getfield 27, 3) ∧ decode cX7_copyFrom 87 = .ok (.iconst 0, 1) ∧ decode cX7_copyFrom 88 = .ok (.aload_n 0, 1) ∧ decode cX7_copyFrom 89 = .ok (.getfield 27, 3) ∧ decode cX7_copyFrom 92 = .ok (.iconst 0, 1) ∧ decode cX7_copyFrom 93 = .ok (.bipush 16, 2) ∧ decode cX7_copyFrom 95 = .ok (.invokestatic 44, 3) ∧ decode cX7_copyFrom 98 = .ok (.aload_n 1, 1) ∧ decode cX7_copyFrom 99 = .ok (.getfield 30, 3) ∧ decode cX7_copyFrom 102 = .ok (.iconst 0, 1) ∧ decode cX7_copyFrom 103 = .ok (.aload_n 0, 1) ∧ decode cX7_copyFrom 104 = .ok (.getfield 30, 3) ∧ decode cX7_copyFrom 107 = .ok (.iconst 0, 1) ∧ decode cX7_copyFrom 108 = .ok (.bipush 16, 2) ∧ decode cX7_copyFrom 110 = .ok (.invokestatic 44, 3) ∧ True := dqC_ok (c := cX7_copyFrom) [(57, 1, some (.iconst 0)), (58, 1, some (.aload_n 0)), (59, 3, some (.getfield 21)), (62, 1, some (.iconst 0)), (63, 2, some (.bipush 16)), (65, 3, some (.invokestatic 44)), (68, 1, some (.aload_n 1)), (69, 3, some (.getfield 24)), (72, 1, some (.iconst 0)), (73, 1, some (.aload_n 0)), (74, 3, some (.getfield 24)), (77, 1, some (.iconst 0)), (78, 2, some (.bipush 16)), (80, 3, some (.invokestatic 44)), (83, 1, some (.aload_n 1)), (84, 3, some (.getfield 27)), (87, 1, some (.iconst 0)), (88, 1, some (.aload_n 0)), (89, 3, some (.getfield 27)), (92, 1, some (.iconst 0)), (93, 2, some (.bipush 16)), (95, 3, some (.invokestatic 44)), (98, 1, some (.aload_n 1)), (99, 3, some (.getfield 30)), (102, 1, some (.iconst 0)), (103, 1, some (.aload_n 0)), (104, 3, some (.getfield 30)), (107, 1, some (.iconst 0)), (108, 2, some (.bipush 16)), (110, 3, some (.invokestatic 44))] _ 57 rfl (by decide +kernel)
theorem dX7_copyFrom_57 : decode cX7_copyFrom 57 = .ok (.iconst 0, 1) := dq_g130.1
theorem dX7_copyFrom_58 : decode cX7_copyFrom 58 = .ok (.aload_n 0, 1) := dq_g130.2.1
theorem dX7_copyFrom_59 : decode cX7_copyFrom 59 = .ok (.getfield 21, 3) := dq_g130.2.2.1
theorem dX7_copyFrom_62 : decode cX7_copyFrom 62 = .ok (.iconst 0, 1) := dq_g130.2.2.2.1
theorem dX7_copyFrom_63 : decode cX7_copyFrom 63 = .ok (.bipush 16, 2) := dq_g130.2.2.2.2.1
theorem dX7_copyFrom_65 : decode cX7_copyFrom 65 = .ok (.invokestatic 44, 3) := dq_g130.2.2.2.2.2.1
theorem dX7_copyFrom_68 : decode cX7_copyFrom 68 = .ok (.aload_n 1, 1) := dq_g130.2.2.2.2.2.2.1
theorem dX7_copyFrom_69 : decode cX7_copyFrom 69 = .ok (.getfield 24, 3) := dq_g130.2.2.2.2.2.2.2.1
theorem dX7_copyFrom_72 : decode cX7_copyFrom 72 = .ok (.iconst 0, 1) := dq_g130.2.2.2.2.2.2.2.2.1
theorem dX7_copyFrom_73 : decode cX7_copyFrom 73 = .ok (.aload_n 0, 1) := dq_g130.2.2.2.2.2.2.2.2.2.1
theorem dX7_copyFrom_74 : decode cX7_copyFrom 74 = .ok (.getfield 24, 3) := dq_g130.2.2.2.2.2.2.2.2.2.2.1
theorem dX7_copyFrom_77 : decode cX7_copyFrom 77 = .ok (.iconst 0, 1) := dq_g130.2.2.2.2.2.2.2.2.2.2.2.1
theorem dX7_copyFrom_78 : decode cX7_copyFrom 78 = .ok (.bipush 16, 2) := dq_g130.2.2.2.2.2.2.2.2.2.2.2.2.1
theorem dX7_copyFrom_80 : decode cX7_copyFrom 80 = .ok (.invokestatic 44, 3) := dq_g130.2.2.2.2.2.2.2.2.2.2.2.2.2.1
theorem dX7_copyFrom_83 : decode cX7_copyFrom 83 = .ok (.aload_n 1, 1) := dq_g130.2.2.2.2.2.2.2.2.2.2.2.2.2.2.1
theorem dX7_copyFrom_84 : decode cX7_copyFrom 84 = .ok (.getfield 27, 3) := dq_g130.2.2.2.2.2.2.2.2.2.2.2.2.2.2.2.1
theorem dX7_copyFrom_87 : decode cX7_copyFrom 87 = .ok (.iconst 0, 1) := dq_g130.2.2.2.2.2.2.2.2.2.2.2.2.2.2.2.2.1
theorem dX7_copyFrom_88 : decode cX7_copyFrom 88 = .ok (.aload_n 0, 1) := dq_g130.2.2.2.2.2.2.2.2.2.2.2.2.2.2.2.2.2.1
theorem dX7_copyFrom_89 : decode cX7_copyFrom 89 = .ok (.getfield 27, 3) := dq_g130.2.2.2.2.2.2.2.2.2.2.2.2.2.2.2.2.2.2.1
theorem dX7_copyFrom_92 : decode cX7_copyFrom 92 = .ok (.iconst 0, 1) := dq_g130.2.2.2.2.2.2.2.2.2.2.2.2.2.2.2.2.2.2.2.1
theorem dX7_copyFrom_93 : decode cX7_copyFrom 93 = .ok (.bipush 16, 2) := dq_g130.2.2.2.2.2.2.2.2.2.2.2.2.2.2.2.2.2.2.2.2.1
theorem dX7_copyFrom_95 : decode cX7_copyFrom 95 = .ok (.invokestatic 44, 3) := dq_g130.2.2.2.2.2.2.2.2.2.2.2.2.2.2.2.2.2.2.2.2.2.1
theorem dX7_copyFrom_98 : decode cX7_copyFrom 98 = .ok (.aload_n 1, 1) := dq_g130.2.2.2.2.2.2.2.2.2.2.2.2.2.2.2.2.2.2.2.2.2.2.1
theorem dX7_copyFrom_99 : decode cX7_copyFrom 99 = .ok (.getfield 30, 3) := dq_g130.2.2.2.2.2.2.2.2.2.2.2.2.2.2.2.2.2.2.2.2.2.2.2.1
theorem dX7_copyFrom_102 : decode cX7_copyFrom 102 = .ok (.iconst 0, 1) := dq_g130.2.2.2.2.2.2.2.2.2.2.2.2.2.2.2.2.2.2.2.2.2.2.2.2.1
theorem dX7_copyFrom_103 : decode cX7_copyFrom 103 = .ok (.aload_n 0, 1) := dq_g130.2.2.2.2.2.2.2.2.2.2.2.2.2.2.2.2.2.2.2.2.2.2.2.2.2.1
theorem dX7_copyFrom_104 : decode cX7_copyFrom 104 = .ok (.getfield 30, 3) := dq_g130.2.2.2.2.2.2.2.2.2.2.2.2.2.2.2.2.2.2.2.2.2.2.2.2.2.2.1
theorem dX7_copyFrom_107 : decode cX7_copyFrom 107 = .ok (.iconst 0, 1) := dq_g130.2.2.2.2.2.2.2.2.2.2.2.2.2.2.2.2.2.2.2.2.2.2.2.2.2.2.2.1
theorem dX7_copyFrom_108 : decode cX7_copyFrom 108 = .ok (.bipush 16, 2) := dq_g130.2.2.2.2.2.2.2.2.2.2.2.2.2.2.2.2.2.2.2.2.2.2.2.2.2.2.2.2.1
theorem dX7_copyFrom_110 : decode cX7_copyFrom 110 = .ok (.invokestatic 44, 3) := dq_g130.2.2.2.2.2.2.2.2.2.2.2.2.2.2.2.2.2.2.2.2.2.2.2.2.2.2.2.2.2.1
theorem dq_g131 : decode cX7_copyFrom 113 = .ok (.aload_n 1, 1) ∧ decode cX7_copyFrom 114 = .ok (.getfield 33, 3) ∧ decode cX7_copyFrom 117 = .ok (.iconst 0, 1) ∧ decode cX7_copyFrom 118 = .ok (.aload_n 0, 1) ∧ decode cX7_copyFrom 119 = .ok (.getfield 33, 3) ∧ decode cX7_copyFrom 122 = .ok (.iconst 0, 1) ∧ decode cX7_copyFrom 123 = .ok (.aload_n 1, 1) ∧ decode cX7_copyFrom 124 = .ok (.getfield 40, 3) ∧ decode cX7_copyFrom 127 = .ok (.invokestatic 44, 3) ∧ decode cX7_copyFrom 130 = .ok (.aload_n 0, 1) ∧ decode cX7_copyFrom 131 = .ok (.aload_n 1, 1) ∧ decode cX7_copyFrom 132 = .ok (.getfield 40, 3) ∧ decode cX7_copyFrom 135 = .ok (.putfield 40, 3) ∧ decode cX7_copyFrom 138 = .ok (.return_, 1) ∧ True := dqC_ok (c := cX7_copyFrom) [(113, 1, some (.aload_n 1)), (114, 3, some (.getfield 33)), (117, 1, some (.iconst 0)), (118, 1, some (.aload_n 0)), (119, 3, some (.getfield 33)), (122, 1, some (.iconst 0)), (123, 1, some (.aload_n 1)), (124, 3, some (.getfield 40)), (127, 3, some (.invokestatic 44)), (130, 1, some (.aload_n 0)), (131, 1, some (.aload_n 1)), (132, 3, some (.getfield 40)), (135, 3, some (.putfield 40)), (138, 1, some (.return_))] _ 113 rfl (by decide +kernel)
theorem dX7_copyFrom_113 : decode cX7_copyFrom 113 = .ok (.aload_n 1, 1) := dq_g131.1
theorem dX7_copyFrom_114 : decode cX7_copyFrom 114 = .ok (.getfield 33, 3) := dq_g131.2.1
theorem dX7_copyFrom_117 : decode cX7_copyFrom 117 = .ok (.iconst 0, 1) := dq_g131.2.2.1
theorem dX7_copyFrom_118 : decode cX7_copyFrom 118 = .ok (.aload_n 0, 1) := dq_g131.2.2.2.1
theorem dX7_copyFrom_119 : decode cX7_copyFrom 119 = .ok (.getfield 33, 3) := dq_g131.2.2.2.2.1
theorem dX7_copyFrom_122 : decode cX7_copyFrom 122 = .ok (.iconst 0, 1) := dq_g131.2.2.2.2.2.1
theorem dX7_copyFrom_123 : decode cX7_copyFrom 123 = .ok (.aload_n 1, 1) := dq_g131.2.2.2.2.2.2.1
theorem dX7_copyFrom_124 : decode cX7_copyFrom 124 = .ok (.getfield 40, 3) := dq_g131.2.2.2.2.2.2.2.1
theorem dX7_copyFrom_127 : decode cX7_copyFrom 127 = .ok (.invokestatic 44, 3) := dq_g131.2.2.2.2.2.2.2.2.1
theorem dX7_copyFrom_130 : decode cX7_copyFrom 130 = .ok (.aload_n 0, 1) := dq_g131.2.2.2.2.2.2.2.2.2.1
theorem dX7_copyFrom_131 : decode cX7_copyFrom 131 = .ok (.aload_n 1, 1) := dq_g131.2.2.2.2.2.2.2.2.2.2.1
theorem dX7_copyFrom_132 : decode cX7_copyFrom 132 = .ok (.getfield 40, 3) := dq_g131.2.2.2.2.2.2.2.2.2.2.2.1
theorem dX7_copyFrom_135 : decode cX7_copyFrom 135 = .ok (.putfield 40, 3) := dq_g131.2.2.2.2.2.2.2.2.2.2.2.2.1
theorem dX7_copyFrom_138 : decode cX7_copyFrom 138 = .ok (.return_, 1) := dq_g131.2.2.2.2.2.2.2.2.2.2.2.2.2.1
theorem dq_g132 : decode cX8_init 0 = .ok (.aload_n 0, 1) ∧ decode cX8_init 1 = .ok (.invokespecial 3, 3) ∧ decode cX8_init 4 = .ok (.aload_n 0, 1) ∧ decode cX8_init 5 = .ok (.bipush 10, 2) ∧ decode cX8_init 7 = .ok (.anewarray 9, 3) ∧ decode cX8_init 10 = .ok (.putfield 11, 3) ∧ decode cX8_init 13 = .ok (.aload_n 0, 1) ∧ decode cX8_init 14 = .ok (.iconst 2, 1) ∧ decode cX8_init 15 = .ok (.anewarray 17, 3) ∧ decode cX8_init 18 = .ok (.putfield 19, 3) ∧ decode cX8_init 21 = .ok (.aload_n 0, 1) ∧ decode cX8_init 22 = .ok (.iconst 4, 1) ∧ decode cX8_init 23 = .ok (.anewarray 17, 3) ∧ decode cX8_init 26 = .ok (.putfield 23, 3) ∧ decode cX8_init 29 = .ok (.aload_n 0, 1) ∧ decode cX8_init 30 = .ok (.bipush 10, 2) ∧ decode cX8_init 32 = .ok (.putfield 26, 3) ∧ decode cX8_init 35 = .ok (.aload_n 0, 1) ∧ decode cX8_init 36 = .ok (.iconst (-1), 1) ∧ decode cX8_init 37 = .ok (.putfield 30, 3) ∧ decode cX8_init 40 = .ok (.aload_n 0, 1) ∧ decode cX8_init 41 = .ok (.bipush 20, 2) ∧ decode cX8_init 45 = .ok (.putfield 33, 3) ∧ decode cX8_init 48 = .ok (.aload_n 0, 1) ∧ decode cX8_init 49 = .ok (.bipush 20, 2) ∧ decode cX8_init 53 = .ok (.putfield 37, 3) ∧ decode cX8_init 56 = .ok (.aload_n 0, 1) ∧ decode cX8_init 57 = .ok (.bipush 8, 2) ∧ True := dqC_ok (c := cX8_init) [(0, 1, some (.aload_n 0)), (1, 3, some (.invokespecial 3)), (4, 1, some (.aload_n 0)), (5, 2, some (.bipush 10)), (7, 3, some (.anewarray 9)), (10, 3, some (.putfield 11)), (13, 1, some (.aload_n 0)), (14, 1, some (.iconst 2)), (15, 3, some (.anewarray 17)), (18, 3, some (.putfield 19)), (21, 1, some (.aload_n 0)), (22, 1, some (.iconst 4)), (23, 3, some (.anewarray 17)), (26, 3, some (.putfield 23)), (29, 1, some (.aload_n 0)), (30, 2, some (.bipush 10)), (32, 3, some (.putfield 26)), (35, 1, some (.aload_n 0)), (36, 1, some (.iconst (-1))), (37, 3, some (.putfield 30)), (40, 1, some (.aload_n 0)), (41, 2, some (.bipush 20)), (43, 2, none), (45, 3, some (.putfield 33)), (48, 1, some (.aload_n 0)), (49, 2, some (.bipush 20)), (51, 2, none), (53, 3, some (.putfield 37)), (56, 1, some (.aload_n 0)), (57, 2, some (.bipush 8))] _ 0 rfl (by decide +kernel)
theorem dX8_init_0 : decode cX8_init 0 = .ok (.aload_n 0, 1) := dq_g132.1
theorem dX8_init_1 : decode cX8_init 1 = .ok (.invokespecial 3, 3) := dq_g132.2.1
theorem dX8_init_4 : decode cX8_init 4 = .ok (.aload_n 0, 1) := dq_g132.2.2.1
theorem dX8_init_5 : decode cX8_init 5 = .ok (.bipush 10, 2) := dq_g132.2.2.2.1
theorem dX8_init_7 : decode cX8_init 7 = .ok (.anewarray 9, 3) := dq_g132.2.2.2.2.1
theorem dX8_init_10 : decode cX8_init 10 = .ok (.putfield 11, 3) := dq_g132.2.2.2.2.2.1
theorem dX8_init_13 : decode cX8_init 13 = .ok (.aload_n 0, 1) := dq_g132.2.2.2.2.2.2.1
theorem dX8_init_14 : decode cX8_init 14 = .ok (.iconst 2, 1) := dq_g132.2.2.2.2.2.2.2.1
theorem dX8_init_15 : decode cX8_init 15 = .ok (.anewarray 17, 3) := dq_g132.2.2.2.2.2.2.2.2.1
theorem dX8_init_18 : decode cX8_init 18 = .ok (.putfield 19, 3) := dq_g132.2.2.2.2.2.2.2.2.2.1
theorem dX8_init_21 : decode cX8_init 21 = .ok (.aload_n 0, 1) := dq_g132.2.2.2.2.2.2.2.2.2.2.1
theorem dX8_init_22 : decode cX8_init 22 = .ok (.iconst 4, 1) := dq_g132.2.2.2.2.2.2.2.2.2.2.2.1
theorem dX8_init_23 : decode cX8_init 23 = .ok (.anewarray 17, 3) := dq_g132.2.2.2.2.2.2.2.2.2.2.2.2.1
theorem dX8_init_26 : decode cX8_init 26 = .ok (.putfield 23, 3) := dq_g132.2.2.2.2.2.2.2.2.2.2.2.2.2.1
theorem dX8_init_29 : decode cX8_init 29 = .ok (.aload_n 0, 1) := dq_g132.2.2.2.2.2.2.2.2.2.2.2.2.2.2.1
theorem dX8_init_30 : decode cX8_init 30 = .ok (.bipush 10, 2) := dq_g132.2.2.2.2.2.2.2.2.2.2.2.2.2.2.2.1
theorem dX8_init_32 : decode cX8_init 32 = .ok (.putfield 26, 3) := dq_g132.2.2.2.2.2.2.2.2.2.2.2.2.2.2.2.2.1
theorem dX8_init_35 : decode cX8_init 35 = .ok (.aload_n 0, 1) := dq_g132.2.2.2.2.2.2.2.2.2.2.2.2.2.2.2.2.2.1
theorem dX8_init_36 : decode cX8_init 36 = .ok (.iconst (-1), 1) := dq_g132.2.2.2.2.2.2.2.2.2.2.2.2.2.2.2.2.2.2.1
theorem dX8_init_37 : decode cX8_init 37 = .ok (.putfield 30, 3) := dq_g132.2.2.2.2.2.2.2.2.2.2.2.2.2.2.2.2.2.2.2.1
theorem dX8_init_40 : decode cX8_init 40 = .ok (.aload_n 0, 1) := dq_g132.2.2.2.2.2.2.2.2.2.2.2.2.2.2.2.2.2.2.2.2.1
theorem dX8_init_41 : decode cX8_init 41 = .ok (.bipush 20, 2) := dq_g132.2.2.2.2.2.2.2.2.2.2.2.2.2.2.2.2.2.2.2.2.2.1
theorem dX8_init_45 : decode cX8_init 45 = .ok (.putfield 33, 3) := dq_g132.2.2.2.2.2.2.2.2.2.2.2.2.2.2.2.2.2.2.2.2.2.2.1
theorem dX8_init_48 : decode cX8_init 48 = .ok (.aload_n 0, 1) := dq_g132.2.2.2.2.2.2.2.2.2.2.2.2.2.2.2.2.2.2.2.2.2.2.2.1
theorem dX8_init_49 : decode cX8_init 49 = .ok (.bipush 20, 2) := dq_g132.2.2.2.2.2.2.2.2.2.2.2.2.2.2.2.2.2.2.2.2.2.2.2.2.1
theorem dX8_init_53 : decode cX8_init 53 = .ok (.putfield 37, 3) := dq_g132.2.2.2.2.2.2.2.2.2.2.2.2.2.2.2.2.2.2.2.2.2.2.2.2.2.1
theorem dX8_init_56 : decode cX8_init 56 = .ok (.aload_n 0, 1) := dq_g132.2.2.2.2.2.2.2.2.2.2.2.2.2.2.2.2.2.2.2.2.2.2.2.2.2.2.1
theorem dX8_init_57 : decode cX8_init 57 = .ok (.bipush 8, 2) := dq_g132.2.2.2.2.2.2.2.2.2.2.2.2.2.2.2.2.2.2.2.2.2.2.2.2.2.2.2.1
theorem dX8_init_43 : decode cX8_init 43 = .ok (.newarray .int, 2) := by decide +kernel
theorem dX8_init_51 : decode cX8_init 51 = .ok (.newarray .int, 2) := by decide +kernel
theorem dq_g133 : decode cX8_init 61 = .ok (.putfield 40, 3) ∧ decode cX8_init 64 = .ok (.aload_n 0, 1) ∧ decode cX8_init 65 = .ok (.bipush 8, 2) ∧ decode cX8_init 69 = .ok (.putfield 43, 3) ∧ decode cX8_init 72 = .ok (.aload_n 0, 1) ∧ decode cX8_init 73 = .ok (.bipush 8, 2) ∧ decode cX8_init 77 = .ok (.putfield 46, 3) ∧ decode cX8_init 80 = .ok (.aload_n 0, 1) ∧ decode cX8_init 81 = .ok (.bipush 8, 2) ∧ decode cX8_init 85 = .ok (.putfield 49, 3) ∧ decode cX8_init 88 = .ok (.iconst 0, 1) ∧ decode cX8_init 89 = .ok (.istore_n 1, 1) ∧ decode cX8_init 90 = .ok (.iload_n 1, 1) ∧ decode cX8_init 91 = .ok (.bipush 10, 2) ∧ decode cX8_init 93 = .ok (.if_icmp .ge 22, 3) ∧ decode cX8_init 96 = .ok (.aload_n 0, 1) ∧ decode cX8_init 97 = .ok (.getfield 11, 3) ∧ decode cX8_init 100 = .ok (.iload_n 1, 1) ∧ decode cX8_init 101 = .ok (.new 9, 3) ∧ decode cX8_init 104 = .ok (.dup, 1) ∧ decode cX8_init 105 = .ok (.invokespecial 52, 3) ∧ decode cX8_init 108 = .ok (.aastore, 1) ∧ decode cX8_init 109 = .ok (.iinc 1 1, 3) ∧ decode cX8_init 112 = .ok (.goto (-22), 3) ∧ decode cX8_init 115 = .ok (.iconst 0, 1) ∧ decode cX8_init 116 = .ok (.istore_n 1, 1) ∧ True := dqC_ok (c := cX8_init) [(59, 2, none), (61, 3, some (.putfield 40)), (64, 1, some (.aload_n 0)), (65, 2, some (.bipush 8)), (67, 2, none), (69, 3, some (.putfield 43)), (72, 1, some (.aload_n 0)), (73, 2, some (.bipush 8)), (75, 2, none), (77, 3, some (.putfield 46)), (80, 1, some (.aload_n 0)), (81, 2, some (.bipush 8)), (83, 2, none), (85, 3, some (.putfield 49)), (88, 1, some (.iconst 0)), (89, 1, some (.istore_n 1)), (90, 1, some (.iload_n 1)), (91, 2, some (.bipush 10)), (93, 3, some (.if_icmp .ge 22)), (96, 1, some (.aload_n 0)), (97, 3, some (.getfield 11)), (100, 1, some (.iload_n 1)), (101, 3, some (.new 9)), (104, 1, some (.dup)), (105, 3, some (.invokespecial 52)), (108, 1, some (.aastore)), (109, 3, some (.iinc 1 1)), (112, 3, some (.goto (-22))), (115, 1, some (.iconst 0)), (116, 1, some (.istore_n 1))] _ 59 rfl (by decide +kernel)
theorem dX8_init_61 : decode cX8_init 61 = .ok (.putfield 40, 3) := dq_g133.1
theorem dX8_init_64 : decode cX8_init 64 = .ok (.aload_n 0, 1) := dq_g133.2.1
theorem dX8_init_65 : decode cX8_init 65 = .ok (.bipush 8, 2) := dq_g133.2.2.1
theorem dX8_init_69 : decode cX8_init 69 = .ok (.putfield 43, 3) := dq_g133.2.2.2.1
theorem dX8_init_72 : decode cX8_init 72 = .ok (.aload_n 0, 1) := dq_g133.2.2.2.2.1
theorem dX8_init_73 : decode cX8_init 73 = .ok (.bipush 8, 2) := dq_g133.2.2.2.2.2.1
theorem dX8_init_77 : decode cX8_init 77 = .ok (.putfield 46, 3) := dq_g133.2.2.2.2.2.2.1
theorem dX8_init_80 : decode cX8_init 80 = .ok (.aload_n 0, 1) := dq_g133.2.2.2.2.2.2.2.1
theorem dX8_init_81 : decode cX8_init 81 = .ok (.bipush 8, 2) := dq_g133.2.2.2.2.2.2.2.2.1
theorem dX8_init_85 : decode cX8_init 85 = .ok (.putfield 49, 3) := dq_g133.2.2.2.2.2.2.2.2.2.1
theorem dX8_init_88 : decode cX8_init 88 = .ok (.iconst 0, 1) := dq_g133.2.2.2.2.2.2.2.2.2.2.1
theorem dX8_init_89 : decode cX8_init 89 = .ok (.istore_n 1, 1) := dq_g133.2.2.2.2.2.2.2.2.2.2.2.1
theorem dX8_init_90 : decode cX8_init 90 = .ok (.iload_n 1, 1) := dq_g133.2.2.2.2.2.2.2.2.2.2.2.2.1
theorem dX8_init_91 : decode cX8_init 91 = .ok (.bipush 10, 2) := dq_g133.2.2.2.2.2.2.2.2.2.2.2.2.2.1
theorem dX8_init_93 : decode cX8_init 93 = .ok (.if_icmp .ge 22, 3) := dq_g133.2.2.2.2.2.2.2.2.2.2.2.2.2.2.1
theorem dX8_init_96 : decode cX8_init 96 = .ok (.aload_n 0, 1) := dq_g133.2.2.2.2.2.2.2.2.2.2.2.2.2.2.2.1
theorem dX8_init_97 : decode cX8_init 97 = .ok (.getfield 11, 3) := dq_g133.2.2.2.2.2.2.2.2.2.2.2.2.2.2.2.2.1
theorem dX8_init_100 : decode cX8_init 100 = .ok (.iload_n 1, 1) := dq_g133.2.2.2.2.2.2.2.2.2.2.2.2.2.2.2.2.2.1
theorem dX8_init_101 : decode cX8_init 101 = .ok (.new 9, 3) := dq_g133.2.2.2.2.2.2.2.2.2.2.2.2.2.2.2.2.2.2.1
theorem dX8_init_104 : decode cX8_init 104 = .ok (.dup, 1) := dq_g133.2.2.2.2.2.2.2.2.2.2.2.2.2.2.2.2.2.2.2.1
theorem dX8_init_105 : decode cX8_init 105 = .ok (.invokespecial 52, 3) := dq_g133.2.2.2.2.2.2.2.2.2.2.2.2.2.2.2.2.2.2.2.2.1
theorem dX8_init_108 : decode cX8_init 108 = .ok (.aastore, 1) := dq_g133.2.2.2.2.2.2.2.2.2.2.2.2.2.2.2.2.2.2.2.2.2.1
theorem dX8_init_109 : decode cX8_init 109 = .ok (.iinc 1 1, 3) := dq_g133.2.2.2.2.2.2.2.2.2.2.2.2.2.2.2.2.2.2.2.2.2.2.1
theorem dX8_init_112 : decode cX8_init 112 = .ok (.goto (-22), 3) := dq_g133.2.2.2.2.2.2.2.2.2.2.2.2.2.2.2.2.2.2.2.2.2.2.2.1
theorem dX8_init_115 : decode cX8_init 115 = .ok (.iconst 0, 1) := dq_g133.2.2.2.2.2.2.2.2.2.2.2.2.2.2.2.2.2.2.2.2.2.2.2.2.1
theorem dX8_init_116 : decode cX8_init 116 = .ok (.istore_n 1, 1) := dq_g133.2.2.2.2.2.2.2.2.2.2.2.2.2.2.2.2.2.2.2.2.2.2.2.2.2.1
theorem dX8_init_59 : decode cX8_init 59 = .ok (.newarray .int, 2) := by decide +kernel
theorem dX8_init_67 : decode cX8_init 67 = .ok (.newarray .int, 2) := by decide +kernel
theorem dX8_init_75 : decode cX8_init 75 = .ok (.newarray .int, 2) := by decide +kernel
theorem dX8_init_83 : decode cX8_init 83 = .ok (.newarray .int, 2) := by decide +kernel
theorem dq_g134 : decode cX8_init 117 = .ok (.iload_n 1, 1) ∧ decode cX8_init 118 = .ok (.iconst 2, 1) ∧ decode cX8_init 119 = .ok (.if_icmp .ge 22, 3) ∧ decode cX8_init 122 = .ok (.aload_n 0, 1) ∧ decode cX8_init 123 = .ok (.getfield 19, 3) ∧ decode cX8_init 126 = .ok (.iload_n 1, 1) ∧ decode cX8_init 127 = .ok (.new 17, 3) ∧ decode cX8_init 130 = .ok (.dup, 1) ∧ decode cX8_init 131 = .ok (.invokespecial 53, 3) ∧ decode cX8_init 134 = .ok (.aastore, 1) ∧ decode cX8_init 135 = .ok (.iinc 1 1, 3) ∧ decode cX8_init 138 = .ok (.goto (-21), 3) ∧ decode cX8_init 141 = .ok (.iconst 0, 1) ∧ decode cX8_init 142 = .ok (.istore_n 1, 1) ∧ decode cX8_init 143 = .ok (.iload_n 1, 1) ∧ decode cX8_init 144 = .ok (.iconst 4, 1) ∧ decode cX8_init 145 = .ok (.if_icmp .ge 22, 3) ∧ decode cX8_init 148 = .ok (.aload_n 0, 1) ∧ decode cX8_init 149 = .ok (.getfield 23, 3) ∧ decode cX8_init 152 = .ok (.iload_n 1, 1) ∧ decode cX8_init 153 = .ok (.new 17, 3) ∧ decode cX8_init 156 = .ok (.dup, 1) ∧ decode cX8_init 157 = .ok (.invokespecial 53, 3) ∧ decode cX8_init 160 = .ok (.aastore, 1) ∧ decode cX8_init 161 = .ok (.iinc 1 1, 3) ∧ decode cX8_init 164 = .ok (.goto (-21), 3) ∧ decode cX8_init 167 = .ok (.return_, 1) ∧ True := dqC_ok (c := cX8_init) [(117, 1, some (.iload_n 1)), (118, 1, some (.iconst 2)), (119, 3, some (.if_icmp .ge 22)), (122, 1, some (.aload_n 0)), (123, 3, some (.getfield 19)), (126, 1, some (.iload_n 1)), (127, 3, some (.new 17)), (130, 1, some (.dup)), (131, 3, some (.invokespecial 53)), (134, 1, some (.aastore)), (135, 3, some (.iinc 1 1)), (138, 3, some (.goto (-21))), (141, 1, some (.iconst 0)), (142, 1, some (.istore_n 1)), (143, 1, some (.iload_n 1)), (144, 1, some (.iconst 4)), (145, 3, some (.if_icmp .ge 22)), (148, 1, some (.aload_n 0)), (149, 3, some (.getfield 23)), (152, 1, some (.iload_n 1)), (153, 3, some (.new 17)), (156, 1, some (.dup)), (157, 3, some (.invokespecial 53)), (160, 1, some (.aastore)), (161, 3, some (.iinc 1 1)), (164, 3, some (.goto (-21))), (167, 1, some (.return_))] _ 117 rfl (by decide +kernel)
theorem dX8_init_117 : decode cX8_init 117 = .ok (.iload_n 1, 1) := dq_g134.1
theorem dX8_init_118 : decode cX8_init 118 = .ok (.iconst 2, 1) := dq_g134.2.1
theorem dX8_init_119 : decode cX8_init 119 = .ok (.if_icmp .ge 22, 3) := dq_g134.2.2.1
theorem dX8_init_122 : decode cX8_init 122 = .ok (.aload_n 0, 1) := dq_g134.2.2.2.1
theorem dX8_init_123 : decode cX8_init 123 = .ok (.getfield 19, 3) := dq_g134.2.2.2.2.1
theorem dX8_init_126 : decode cX8_init 126 = .ok (.iload_n 1, 1) := dq_g134.2.2.2.2.2.1
theorem dX8_init_127 : decode cX8_init 127 = .ok (.new 17, 3) := dq_g134.2.2.2.2.2.2.1
theorem dX8_init_130 : decode cX8_init 130 = .ok (.dup, 1) := dq_g134.2.2.2.2.2.2.2.1
theorem dX8_init_131 : decode cX8_init 131 = .ok (.invokespecial 53, 3) := dq_g134.2.2.2.2.2.2.2.2.1
theorem dX8_init_134 : decode cX8_init 134 = .ok (.aastore, 1) := dq_g134.2.2.2.2.2.2.2.2.2.1
theorem dX8_init_135 : decode cX8_init 135 = .ok (.iinc 1 1, 3) := dq_g134.2.2.2.2.2.2.2.2.2.2.1
theorem dX8_init_138 : decode cX8_init 138 = .ok (.goto (-21), 3) := dq_g134.2.2.2.2.2.2.2.2.2.2.2.1
theorem dX8_init_141 : decode cX8_init 141 = .ok (.iconst 0, 1) := dq_g134.2.2.2.2.2.2.2.2.2.2.2.2.1
theorem dX8_init_142 : decode cX8_init 142 = .ok (.istore_n 1, 1) := dq_g134.2.2.2.2.2.2.2.2.2.2.2.2.2.1
theorem dX8_init_143 : decode cX8_init 143 = .ok (.iload_n 1, 1) := dq_g134.2.2.2.2.2.2.2.2.2.2.2.2.2.2.1
theorem dX8_init_144 : decode cX8_init 144 = .ok (.iconst 4, 1) := dq_g134.2.2.2.2.2.2.2.2.2.2.2.2.2.2.2.1
theorem dX8_init_145 : decode cX8_init 145 = .ok (.if_icmp .ge 22, 3) := dq_g134.2.2.2.2.2.2.2.2.2.2.2.2.2.2.2.2.1
theorem dX8_init_148 : decode cX8_init 148 = .ok (.aload_n 0, 1) := dq_g134.2.2.2.2.2.2.2.2.2.2.2.2.2.2.2.2.2.1
theorem dX8_init_149 : decode cX8_init 149 = .ok (.getfield 23, 3) := dq_g134.2.2.2.2.2.2.2.2.2.2.2.2.2.2.2.2.2.2.1
theorem dX8_init_152 : decode cX8_init 152 = .ok (.iload_n 1, 1) := dq_g134.2.2.2.2.2.2.2.2.2.2.2.2.2.2.2.2.2.2.2.1
theorem dX8_init_153 : decode cX8_init 153 = .ok (.new 17, 3) := dq_g134.2.2.2.2.2.2.2.2.2.2.2.2.2.2.2.2.2.2.2.2.1
theorem dX8_init_156 : decode cX8_init 156 = .ok (.dup, 1) := dq_g134.2.2.2.2.2.2.2.2.2.2.2.2.2.2.2.2.2.2.2.2.2.1
theorem dX8_init_157 : decode cX8_init 157 = .ok (.invokespecial 53, 3) := dq_g134.2.2.2.2.2.2.2.2.2.2.2.2.2.2.2.2.2.2.2.2.2.2.1
theorem dX8_init_160 : decode cX8_init 160 = .ok (.aastore, 1) := dq_g134.2.2.2.2.2.2.2.2.2.2.2.2.2.2.2.2.2.2.2.2.2.2.2.1
theorem dX8_init_161 : decode cX8_init 161 = .ok (.iinc 1 1, 3) := dq_g134.2.2.2.2.2.2.2.2.2.2.2.2.2.2.2.2.2.2.2.2.2.2.2.2.1
theorem dX8_init_164 : decode cX8_init 164 = .ok (.goto (-21), 3) := dq_g134.2.2.2.2.2.2.2.2.2.2.2.2.2.2.2.2.2.2.2.2.2.2.2.2.2.1
theorem dX8_init_167 : decode cX8_init 167 = .ok (.return_, 1) := dq_g134.2.2.2.2.2.2.2.2.2.2.2.2.2.2.2.2.2.2.2.2.2.2.2.2.2.2.1
theorem dq_g135 : decode cX8_law 0 = .ok (.aload_n 0, 1) ∧ decode cX8_law 1 = .ok (.getfield 19, 3) ∧ decode cX8_law 4 = .ok (.aload_n 0, 1) ∧ decode cX8_law 5 = .ok (.getfield 54, 3) ∧ decode cX8_law 8 = .ok (.aaload, 1) ∧ decode cX8_law 9 = .ok (.areturn, 1) ∧ True := dqC_ok (c := cX8_law) [(0, 1, some (.aload_n 0)), (1, 3, some (.getfield 19)), (4, 1, some (.aload_n 0)), (5, 3, some (.getfield 54)), (8, 1, some (.aaload)), (9, 1, some (.areturn))] _ 0 rfl (by decide +kernel)
theorem dX8_law_0 : decode cX8_law 0 = .ok (.aload_n 0, 1) := dq_g135.1
theorem dX8_law_1 : decode cX8_law 1 = .ok (.getfield 19, 3) := dq_g135.2.1
theorem dX8_law_4 : decode cX8_law 4 = .ok (.aload_n 0, 1) := dq_g135.2.2.1
theorem dX8_law_5 : decode cX8_law 5 = .ok (.getfield 54, 3) := dq_g135.2.2.2.1
theorem dX8_law_8 : decode cX8_law 8 = .ok (.aaload, 1) := dq_g135.2.2.2.2.1
theorem dX8_law_9 : decode cX8_law 9 = .ok (.areturn, 1) := dq_g135.2.2.2.2.2.1
theorem dq_g136 : decode cX8_copyFrom 0 = .ok (.iconst 0, 1) ∧ decode cX8_copyFrom 1 = .ok (.istore_n 2, 1) ∧ decode cX8_copyFrom 2 = .ok (.iload_n 2, 1) ∧ decode cX8_copyFrom 3 = .ok (.aload_n 1, 1) ∧ decode cX8_copyFrom 4 = .ok (.getfield 57, 3) ∧ decode cX8_copyFrom 7 = .ok (.if_icmp .ge 24, 3) ∧ decode cX8_copyFrom 10 = .ok (.aload_n 0, 1) ∧ decode cX8_copyFrom 11 = .ok (.getfield 11, 3) ∧ decode cX8_copyFrom 14 = .ok (.iload_n 2, 1) ∧ decode cX8_copyFrom 15 = .ok (.aaload, 1) ∧ decode cX8_copyFrom 16 = .ok (.aload_n 1, 1) ∧ decode cX8_copyFrom 17 = .ok (.getfield 11, 3) ∧ decode cX8_copyFrom 20 = .ok (.iload_n 2, 1) ∧ decode cX8_copyFrom 21 = .ok (.aaload, 1) ∧ decode cX8_copyFrom 22 = .ok (.invokevirtual 60, 3) ∧ decode cX8_copyFrom 25 = .ok (.iinc 2 1, 3) ∧ decode cX8_copyFrom 28 = .ok (.goto (-26), 3) ∧ decode cX8_copyFrom 31 = .ok (.aload_n 0, 1) ∧ decode cX8_copyFrom 32 = .ok (.aload_n 1, 1) ∧ decode cX8_copyFrom 33 = .ok (.getfield 57, 3) ∧ decode cX8_copyFrom 36 = .ok (.putfield 57, 3) ∧ decode cX8_copyFrom 39 = .ok (.iconst 0, 1) ∧ decode cX8_copyFrom 40 = .ok (.istore_n 2, 1) ∧ decode cX8_copyFrom 41 = .ok (.iload_n 2, 1) ∧ decode cX8_copyFrom 42 = .ok (.iconst 2, 1) ∧ decode cX8_copyFrom 43 = .ok (.if_icmp .ge 24, 3) ∧ decode cX8_copyFrom 46 = .ok (.aload_n 0, 1) ∧ decode cX8_copyFrom 47 = .ok (.getfield 19, 3) ∧ decode cX8_copyFrom 50 = .ok (.iload_n 2, 1) ∧ decode cX8_copyFrom 51 = .ok (.aaload, 1) ∧ True := dqC_ok (c := cX8_copyFrom) [(0, 1, some (.iconst 0)), (1, 1, some (.istore_n 2)), (2, 1, some (.iload_n 2)), (3, 1, some (.aload_n 1)), (4, 3, some (.getfield 57)), (7, 3, some (.if_icmp .ge 24)), (10, 1, some (.aload_n 0)), (11, 3, some (.getfield 11)), (14, 1, some (.iload_n 2)), (15, 1, some (.aaload)), (16, 1, some (.aload_n 1)), (17, 3, some (.getfield 11)), (20, 1, some (.iload_n 2)), (21, 1, some (.aaload)), (22, 3, some (.invokevirtual 60)), (25, 3, some (.iinc 2 1)), (28, 3, some (.goto (-26))), (31, 1, some (.aload_n 0)), (32, 1, some (.aload_n 1)), (33, 3, some (.getfield 57)), (36, 3, some (.putfield 57)), (39, 1, some (.iconst 0)), (40, 1, some (.istore_n 2)), (41, 1, some (.iload_n 2)), (42, 1, some (.iconst 2)), (43, 3, some (.if_icmp .ge 24)), (46, 1, some (.aload_n 0)), (47, 3, some (.getfield 19)), (50, 1, some (.iload_n 2)), (51, 1, some (.aaload))] _ 0 rfl (by decide +kernel)
theorem dX8_copyFrom_0 : decode cX8_copyFrom 0 = .ok (.iconst 0, 1) := dq_g136.1
theorem dX8_copyFrom_1 : decode cX8_copyFrom 1 = .ok (.istore_n 2, 1) := dq_g136.2.1
theorem dX8_copyFrom_2 : decode cX8_copyFrom 2 = .ok (.iload_n 2, 1) := dq_g136.2.2.1
theorem dX8_copyFrom_3 : decode cX8_copyFrom 3 = .ok (.aload_n 1, 1) := dq_g136.2.2.2.1
theorem dX8_copyFrom_4 : decode cX8_copyFrom 4 = .ok (.getfield 57, 3) := dq_g136.2.2.2.2.1
theorem dX8_copyFrom_7 : decode cX8_copyFrom 7 = .ok (.if_icmp .ge 24, 3) := dq_g136.2.2.2.2.2.1
theorem dX8_copyFrom_10 : decode cX8_copyFrom 10 = .ok (.aload_n 0, 1) := dq_g136.2.2.2.2.2.2.1
theorem dX8_copyFrom_11 : decode cX8_copyFrom 11 = .ok (.getfield 11, 3) := dq_g136.2.2.2.2.2.2.2.1
theorem dX8_copyFrom_14 : decode cX8_copyFrom 14 = .ok (.iload_n 2, 1) := dq_g136.2.2.2.2.2.2.2.2.1
theorem dX8_copyFrom_15 : decode cX8_copyFrom 15 = .ok (.aaload, 1) := dq_g136.2.2.2.2.2.2.2.2.2.1
theorem dX8_copyFrom_16 : decode cX8_copyFrom 16 = .ok (.aload_n 1, 1) := dq_g136.2.2.2.2.2.2.2.2.2.2.1
theorem dX8_copyFrom_17 : decode cX8_copyFrom 17 = .ok (.getfield 11, 3) := dq_g136.2.2.2.2.2.2.2.2.2.2.2.1
theorem dX8_copyFrom_20 : decode cX8_copyFrom 20 = .ok (.iload_n 2, 1) := dq_g136.2.2.2.2.2.2.2.2.2.2.2.2.1
theorem dX8_copyFrom_21 : decode cX8_copyFrom 21 = .ok (.aaload, 1) := dq_g136.2.2.2.2.2.2.2.2.2.2.2.2.2.1
theorem dX8_copyFrom_22 : decode cX8_copyFrom 22 = .ok (.invokevirtual 60, 3) := dq_g136.2.2.2.2.2.2.2.2.2.2.2.2.2.2.1
theorem dX8_copyFrom_25 : decode cX8_copyFrom 25 = .ok (.iinc 2 1, 3) := dq_g136.2.2.2.2.2.2.2.2.2.2.2.2.2.2.2.1
theorem dX8_copyFrom_28 : decode cX8_copyFrom 28 = .ok (.goto (-26), 3) := dq_g136.2.2.2.2.2.2.2.2.2.2.2.2.2.2.2.2.1
theorem dX8_copyFrom_31 : decode cX8_copyFrom 31 = .ok (.aload_n 0, 1) := dq_g136.2.2.2.2.2.2.2.2.2.2.2.2.2.2.2.2.2.1
theorem dX8_copyFrom_32 : decode cX8_copyFrom 32 = .ok (.aload_n 1, 1) := dq_g136.2.2.2.2.2.2.2.2.2.2.2.2.2.2.2.2.2.2.1
theorem dX8_copyFrom_33 : decode cX8_copyFrom 33 = .ok (.getfield 57, 3) := dq_g136.2.2.2.2.2.2.2.2.2.2.2.2.2.2.2.2.2.2.2.1
theorem dX8_copyFrom_36 : decode cX8_copyFrom 36 = .ok (.putfield 57, 3) := dq_g136.2.2.2.2.2.2.2.2.2.2.2.2.2.2.2.2.2.2.2.2.1
theorem dX8_copyFrom_39 : decode cX8_copyFrom 39 = .ok (.iconst 0, 1) := dq_g136.2.2.2.2.2.2.2.2.2.2.2.2.2.2.2.2.2.2.2.2.2.1
theorem dX8_copyFrom_40 : decode cX8_copyFrom 40 = .ok (.istore_n 2, 1) := dq_g136.2.2.2.2.2.2.2.2.2.2.2.2.2.2.2.2.2.2.2.2.2.2.1
theorem dX8_copyFrom_41 : decode cX8_copyFrom 41 = .ok (.iload_n 2, 1) := dq_g136.2.2.2.2.2.2.2.2.2.2.2.2.2.2.2.2.2.2.2.2.2.2.2.1
theorem dX8_copyFrom_42 : decode cX8_copyFrom 42 = .ok (.iconst 2, 1) := dq_g136.2.2.2.2.2.2.2.2.2.2.2.2.2.2.2.2.2.2.2.2.2.2.2.2.1
theorem dX8_copyFrom_43 : decode cX8_copyFrom 43 = .ok (.if_icmp .ge 24, 3) := dq_g136.2.2.2.2.2.2.2.2.2.2.2.2.2.2.2.2.2.2.2.2.2.2.2.2.2.1
theorem dX8_copyFrom_46 : decode cX8_copyFrom 46 = .ok (.aload_n 0, 1) := dq_g136.2.2.2.2.2.2.2.2.2.2.2.2.2.2.2.2.2.2.2.2.2.2.2.2.2.2.1
theorem dX8_copyFrom_47 : decode cX8_copyFrom 47 = .ok (.getfield 19, 3) := dq_g136.2.2.2.2.2.2.2.2.2.2.2.2.2.2.2.2.2.2.2.2.2.2.2.2.2.2.2.1
theorem dX8_copyFrom_50 : decode cX8_copyFrom 50 = .ok (.iload_n 2, 1) := dq_g136.2.2.2.2.2.2.2.2.2.2.2.2.2.2.2.2.2.2.2.2.2.2.2.2.2.2.2.2.1
theorem dX8_copyFrom_51 : decode cX8_copyFrom 51 = .ok (.aaload, 1) := dq_g136.2.2.2.2.2.2.2.2.2.2.2.2.2.2.2.2.2.2.2.2.2.2.2.2.2.2.2.2.2.1
theorem dq_g137 : decode cX8_copyFrom 52 = .ok (.aload_n 1, 1) ∧ decode cX8_copyFrom 53 = .ok (.getfield 19, 3) ∧ decode cX8_copyFrom 56 = .ok (.iload_n 2, 1) ∧ decode cX8_copyFrom 57 = .ok (.aaload, 1) ∧ decode cX8_copyFrom 58 = .ok (.invokevirtual 64, 3) ∧ decode cX8_copyFrom 61 = .ok (.iinc 2 1, 3) ∧ decode cX8_copyFrom 64 = .ok (.goto (-23), 3) ∧ decode cX8_copyFrom 67 = .ok (.iconst 0, 1) ∧ decode cX8_copyFrom 68 = .ok (.istore_n 2, 1) ∧ decode cX8_copyFrom 69 = .ok (.iload_n 2, 1) ∧ decode cX8_copyFrom 70 = .ok (.iconst 4, 1) ∧ decode cX8_copyFrom 71 = .ok (.if_icmp .ge 24, 3) ∧ decode cX8_copyFrom 74 = .ok (.aload_n 0, 1) ∧ decode cX8_copyFrom 75 = .ok (.getfield 23, 3) ∧ decode cX8_copyFrom 78 = .ok (.iload_n 2, 1) ∧ decode cX8_copyFrom 79 = .ok (.aaload, 1) ∧ decode cX8_copyFrom 80 = .ok (.aload_n 1, 1) ∧ decode cX8_copyFrom 81 = .ok (.getfield 23, 3) ∧ decode cX8_copyFrom 84 = .ok (.iload_n 2, 1) ∧ decode cX8_copyFrom 85 = .ok (.aaload, 1) ∧ decode cX8_copyFrom 86 = .ok (.invokevirtual 64, 3) ∧ decode cX8_copyFrom 89 = .ok (.iinc 2 1, 3) ∧ decode cX8_copyFrom 92 = .ok (.goto (-23), 3) ∧ decode cX8_copyFrom 95 = .ok (.aload_n 0, 1) ∧ decode cX8_copyFrom 96 = .ok (.aload_n 1, 1) ∧ decode cX8_copyFrom 97 = .ok (.getfield 54, 3) ∧ decode cX8_copyFrom 100 = .ok (.putfield 54, 3) ∧ decode cX8_copyFrom 103 = .ok (.aload_n 0, 1) ∧ decode cX8_copyFrom 104 = .ok (.aload_n 1, 1) ∧ decode cX8_copyFrom 105 = .ok (.getfield 26, 3) ∧ True := dqC_ok (c := cX8_copyFrom) [(52, 1, some (.aload_n 1)), (53, 3, some (.getfield 19)), (56, 1, some (.iload_n 2)), (57, 1, some (.aaload)), (58, 3, some (.invokevirtual 64)), (61, 3, some (.iinc 2 1)), (64, 3, some (.goto (-23))), (67, 1, some (.iconst 0)), (68, 1, some (.istore_n 2)), (69, 1, some (.iload_n 2)), (70, 1, some (.iconst 4)), (71, 3, some (.if_icmp .ge 24)), (74, 1, some (.aload_n 0)), (75, 3, some (.getfield 23)), (78, 1, some (.iload_n 2)), (79, 1, some (.aaload)), (80, 1, some (.aload_n 1)), (81, 3, some (.getfield 23)), (84, 1, some (.iload_n 2)), (85, 1, some (.aaload)), (86, 3, some (.invokevirtual 64)), (89, 3, some (.iinc 2 1)), (92, 3, some (.goto (-23))), (95, 1, some (.aload_n 0)), (96, 1, some (.aload_n 1)), (97, 3, some (.getfield 54)), (100, 3, some (.putfield 54)), (103, 1, some (.aload_n 0)), (104, 1, some (.aload_n 1)), (105, 3, some (.getfield 26))] _ 52 rfl (by decide +kernel)
theorem dX8_copyFrom_52 : decode cX8_copyFrom 52 = .ok (.aload_n 1, 1) := dq_g137.1
theorem dX8_copyFrom_53 : decode cX8_copyFrom 53 = .ok (.getfield 19, 3) := dq_g137.2.1
theorem dX8_copyFrom_56 : decode cX8_copyFrom 56 = .ok (.iload_n 2, 1) := dq_g137.2.2.1
theorem dX8_copyFrom_57 : decode cX8_copyFrom 57 = .ok (.aaload, 1) := dq_g137.2.2.2.1
theorem dX8_copyFrom_58 : decode cX8_copyFrom 58 = .ok (.invokevirtual 64, 3) := dq_g137.2.2.2.2.1
theorem dX8_copyFrom_61 : decode cX8_copyFrom 61 = .ok (.iinc 2 1, 3) := dq_g137.2.2.2.2.2.1
theorem dX8_copyFrom_64 : decode cX8_copyFrom 64 = .ok (.goto (-23), 3) := dq_g137.2.2.2.2.2.2.1
theorem dX8_copyFrom_67 : decode cX8_copyFrom 67 = .ok (.iconst 0, 1) := dq_g137.2.2.2.2.2.2.2.1
theorem dX8_copyFrom_68 : decode cX8_copyFrom 68 = .ok (.istore_n 2, 1) := dq_g137.2.2.2.2.2.2.2.2.1
theorem dX8_copyFrom_69 : decode cX8_copyFrom 69 = .ok (.iload_n 2, 1) := dq_g137.2.2.2.2.2.2.2.2.2.1
theorem dX8_copyFrom_70 : decode cX8_copyFrom 70 = .ok (.iconst 4, 1) := dq_g137.2.2.2.2.2.2.2.2.2.2.1
theorem dX8_copyFrom_71 : decode cX8_copyFrom 71 = .ok (.if_icmp .ge 24, 3) := dq_g137.2.2.2.2.2.2.2.2.2.2.2.1
theorem dX8_copyFrom_74 : decode cX8_copyFrom 74 = .ok (.aload_n 0, 1) := dq_g137.2.2.2.2.2.2.2.2.2.2.2.2.1
theorem dX8_copyFrom_75 : decode cX8_copyFrom 75 = .ok (.getfield 23, 3) := dq_g137.2.2.2.2.2.2.2.2.2.2.2.2.2.1
theorem dX8_copyFrom_78 : decode cX8_copyFrom 78 = .ok (.iload_n 2, 1) := dq_g137.2.2.2.2.2.2.2.2.2.2.2.2.2.2.1
theorem dX8_copyFrom_79 : decode cX8_copyFrom 79 = .ok (.aaload, 1) := dq_g137.2.2.2.2.2.2.2.2.2.2.2.2.2.2.2.1
theorem dX8_copyFrom_80 : decode cX8_copyFrom 80 = .ok (.aload_n 1, 1) := dq_g137.2.2.2.2.2.2.2.2.2.2.2.2.2.2.2.2.1
theorem dX8_copyFrom_81 : decode cX8_copyFrom 81 = .ok (.getfield 23, 3) := dq_g137.2.2.2.2.2.2.2.2.2.2.2.2.2.2.2.2.2.1
theorem dX8_copyFrom_84 : decode cX8_copyFrom 84 = .ok (.iload_n 2, 1) := dq_g137.2.2.2.2.2.2.2.2.2.2.2.2.2.2.2.2.2.2.1
theorem dX8_copyFrom_85 : decode cX8_copyFrom 85 = .ok (.aaload, 1) := dq_g137.2.2.2.2.2.2.2.2.2.2.2.2.2.2.2.2.2.2.2.1
theorem dX8_copyFrom_86 : decode cX8_copyFrom 86 = .ok (.invokevirtual 64, 3) := dq_g137.2.2.2.2.2.2.2.2.2.2.2.2.2.2.2.2.2.2.2.2.1
theorem dX8_copyFrom_89 : decode cX8_copyFrom 89 = .ok (.iinc 2 1, 3) := dq_g137.2.2.2.2.2.2.2.2.2.2.2.2.2.2.2.2.2.2.2.2.2.1
theorem dX8_copyFrom_92 : decode cX8_copyFrom 92 = .ok (.goto (-23), 3) := dq_g137.2.2.2.2.2.2.2.2.2.2.2.2.2.2.2.2.2.2.2.2.2.2.1
theorem dX8_copyFrom_95 : decode cX8_copyFrom 95 = .ok (.aload_n 0, 1) := dq_g137.2.2.2.2.2.2.2.2.2.2.2.2.2.2.2.2.2.2.2.2.2.2.2.1
theorem dX8_copyFrom_96 : decode cX8_copyFrom 96 = .ok (.aload_n 1, 1) := dq_g137.2.2.2.2.2.2.2.2.2.2.2.2.2.2.2.2.2.2.2.2.2.2.2.2.1
theorem dX8_copyFrom_97 : decode cX8_copyFrom 97 = .ok (.getfield 54, 3) := dq_g137.2.2.2.2.2.2.2.2.2.2.2.2.2.2.2.2.2.2.2.2.2.2.2.2.2.1
theorem dX8_copyFrom_100 : decode cX8_copyFrom 100 = .ok (.putfield 54, 3) := dq_g137.2.2.2.2.2.2.2.2.2.2.2.2.2.2.2.2.2.2.2.2.2.2.2.2.2.2.1
theorem dX8_copyFrom_103 : decode cX8_copyFrom 103 = .ok (.aload_n 0, 1) := dq_g137.2.2.2.2.2.2.2.2.2.2.2.2.2.2.2.2.2.2.2.2.2.2.2.2.2.2.2.1
theorem dX8_copyFrom_104 : decode cX8_copyFrom 104 = .ok (.aload_n 1, 1) := dq_g137.2.2.2.2.2.2.2.2.2.2.2.2.2.2.2.2.2.2.2.2.2.2.2.2.2.2.2.2.1
theorem dX8_copyFrom_105 : decode cX8_copyFrom 105 = .ok (.getfield 26, 3) := dq_g137.2.2.2.2.2.2.2.2.2.2.2.2.2.2.2.2.2.2.2.2.2.2.2.2.2.2.2.2.2.1
theorem dq_g138 : decode cX8_copyFrom 108 = .ok (.putfield 26, 3) ∧ decode cX8_copyFrom 111 = .ok (.aload_n 0, 1) ∧ decode cX8_copyFrom 112 = .ok (.aload_n 1, 1) ∧ decode cX8_copyFrom 113 = .ok (.getfield 67, 3) ∧ decode cX8_copyFrom 116 = .ok (.putfield 67, 3) ∧ decode cX8_copyFrom 119 = .ok (.aload_n 0, 1) ∧ decode cX8_copyFrom 120 = .ok (.aload_n 1, 1) ∧ decode cX8_copyFrom 121 = .ok (.getfield 30, 3) ∧ decode cX8_copyFrom 124 = .ok (.putfield 30, 3) ∧ decode cX8_copyFrom 127 = .ok (.aload_n 1, 1) ∧ decode cX8_copyFrom 128 = .ok (.getfield 33, 3) ∧ decode cX8_copyFrom 131 = .ok (.iconst 0, 1) ∧ decode cX8_copyFrom 132 = .ok (.aload_n 0, 1) ∧ decode cX8_copyFrom 133 = .ok (.getfield 33, 3) ∧ decode cX8_copyFrom 136 = .ok (.iconst 0, 1) ∧ decode cX8_copyFrom 137 = .ok (.bipush 20, 2) ∧ decode cX8_copyFrom 139 = .ok (.invokestatic 70, 3) ∧ decode cX8_copyFrom 142 = .ok (.aload_n 1, 1) ∧ decode cX8_copyFrom 143 = .ok (.getfield 37, 3) ∧ decode cX8_copyFrom 146 = .ok (.iconst 0, 1) ∧ decode cX8_copyFrom 147 = .ok (.aload_n 0, 1) ∧ decode cX8_copyFrom 148 = .ok (.getfield 37, 3) ∧ decode cX8_copyFrom 151 = .ok (.iconst 0, 1) ∧ decode cX8_copyFrom 152 = .ok (.bipush 20, 2) ∧ decode cX8_copyFrom 154 = .ok (.invokestatic 70, 3) ∧ decode cX8_copyFrom 157 = .ok (.aload_n 0, 1) ∧ decode cX8_copyFrom 158 = .ok (.aload_n 1, 1) ∧ decode cX8_copyFrom 159 = .ok (.getfield 76, 3) ∧ decode cX8_copyFrom 162 = .ok (.putfield 76, 3) ∧ decode cX8_copyFrom 165 = .ok (.aload_n 1, 1) ∧ True := dqC_ok (c := cX8_copyFrom) [(108, 3, some (.putfield 26)), (111, 1, some (.aload_n 0)), (112, 1, some (.aload_n 1)), (113, 3, some (.getfield 67)), (116, 3, some (.putfield 67)), (119, 1, some (.aload_n 0)), (120, 1, some (.aload_n 1)), (121, 3, some (.getfield 30)), (124, 3, some (.putfield 30)), (127, 1, some (.aload_n 1)), (128, 3, some (.getfield 33)), (131, 1, some (.iconst 0)), (132, 1, some (.aload_n 0)), (133, 3, some (.getfield 33)), (136, 1, some (.iconst 0)), (137, 2, some (.bipush 20)), (139, 3, some (.invokestatic 70)), (142, 1, some (.aload_n 1)), (143, 3, some (.getfield 37)), (146, 1, some (.iconst 0)), (147, 1, some (.aload_n 0)), (148, 3, some (.getfield 37)), (151, 1, some (.iconst 0)), (152, 2, some (.bipush 20)), (154, 3, some (.invokestatic 70)), (157, 1, some (.aload_n 0)), (158, 1, some (.aload_n 1)), (159, 3, some (.getfield 76)), (162, 3, some (.putfield 76)), (165, 1, some (.aload_n 1))] _ 108 rfl (by decide +kernel)
theorem dX8_copyFrom_108 : decode cX8_copyFrom 108 = .ok (.putfield 26, 3) := dq_g138.1
theorem dX8_copyFrom_111 : decode cX8_copyFrom 111 = .ok (.aload_n 0, 1) := dq_g138.2.1
theorem dX8_copyFrom_112 : decode cX8_copyFrom 112 = .ok (.aload_n 1, 1) := dq_g138.2.2.1
theorem dX8_copyFrom_113 : decode cX8_copyFrom 113 = .ok (.getfield 67, 3) := dq_g138.2.2.2.1
theorem dX8_copyFrom_116 : decode cX8_copyFrom 116 = .ok (.putfield 67, 3) := dq_g138.2.2.2.2.1
theorem dX8_copyFrom_119 : decode cX8_copyFrom 119 = .ok (.aload_n 0, 1) := dq_g138.2.2.2.2.2.1
theorem dX8_copyFrom_120 : decode cX8_copyFrom 120 = .ok (.aload_n 1, 1) := dq_g138.2.2.2.2.2.2.1
theorem dX8_copyFrom_121 : decode cX8_copyFrom 121 = .ok (.getfield 30, 3) := dq_g138.2.2.2.2.2.2.2.1
theorem dX8_copyFrom_124 : decode cX8_copyFrom 124 = .ok (.putfield 30, 3) := dq_g138.2.2.2.2.2.2.2.2.1
theorem dX8_copyFrom_127 : decode cX8_copyFrom 127 = .ok (.aload_n 1, 1) := dq_g138.2.2.2.2.2.2.2.2.2.1
theorem dX8_copyFrom_128 : decode cX8_copyFrom 128 = .ok (.getfield 33, 3) := dq_g138.2.2.2.2.2.2.2.2.2.2.1
theorem dX8_copyFrom_131 : decode cX8_copyFrom 131 = .ok (.iconst 0, 1) := dq_g138.2.2.2.2.2.2.2.2.2.2.2.1
theorem dX8_copyFrom_132 : decode cX8_copyFrom 132 = .ok (.aload_n 0, 1) := dq_g138.2.2.2.2.2.2.2.2.2.2.2.2.1
theorem dX8_copyFrom_133 : decode cX8_copyFrom 133 = .ok (.getfield 33, 3) := dq_g138.2.2.2.2.2.2.2.2.2.2.2.2.2.1
theorem dX8_copyFrom_136 : decode cX8_copyFrom 136 = .ok (.iconst 0, 1) := dq_g138.2.2.2.2.2.2.2.2.2.2.2.2.2.2.1
theorem dX8_copyFrom_137 : decode cX8_copyFrom 137 = .ok (.bipush 20, 2) := dq_g138.2.2.2.2.2.2.2.2.2.2.2.2.2.2.2.1
theorem dX8_copyFrom_139 : decode cX8_copyFrom 139 = .ok (.invokestatic 70, 3) := dq_g138.2.2.2.2.2.2.2.2.2.2.2.2.2.2.2.2.1
theorem dX8_copyFrom_142 : decode cX8_copyFrom 142 = .ok (.aload_n 1, 1) := dq_g138.2.2.2.2.2.2.2.2.2.2.2.2.2.2.2.2.2.1
theorem dX8_copyFrom_143 : decode cX8_copyFrom 143 = .ok (.getfield 37, 3) := dq_g138.2.2.2.2.2.2.2.2.2.2.2.2.2.2.2.2.2.2.1
theorem dX8_copyFrom_146 : decode cX8_copyFrom 146 = .ok (.iconst 0, 1) := dq_g138.2.2.2.2.2.2.2.2.2.2.2.2.2.2.2.2.2.2.2.1
theorem dX8_copyFrom_147 : decode cX8_copyFrom 147 = .ok (.aload_n 0, 1) := dq_g138.2.2.2.2.2.2.2.2.2.2.2.2.2.2.2.2.2.2.2.2.1
theorem dX8_copyFrom_148 : decode cX8_copyFrom 148 = .ok (.getfield 37, 3) := dq_g138.2.2.2.2.2.2.2.2.2.2.2.2.2.2.2.2.2.2.2.2.2.1
theorem dX8_copyFrom_151 : decode cX8_copyFrom 151 = .ok (.iconst 0, 1) := dq_g138.2.2.2.2.2.2.2.2.2.2.2.2.2.2.2.2.2.2.2.2.2.2.1
theorem dX8_copyFrom_152 : decode cX8_copyFrom 152 = .ok (.bipush 20, 2) := dq_g138.2.2.2.2.2.2.2.2.2.2.2.2.2.2.2.2.2.2.2.2.2.2.2.1
theorem dX8_copyFrom_154 : decode cX8_copyFrom 154 = .ok (.invokestatic 70, 3) := dq_g138.2.2.2.2.2.2.2.2.2.2.2.2.2.2.2.2.2.2.2.2.2.2.2.2.1
theorem dX8_copyFrom_157 : decode cX8_copyFrom 157 = .ok (.aload_n 0, 1) := dq_g138.2.2.2.2.2.2.2.2.2.2.2.2.2.2.2.2.2.2.2.2.2.2.2.2.2.1
theorem dX8_copyFrom_158 : decode cX8_copyFrom 158 = .ok (.aload_n 1, 1) := dq_g138.2.2.2.2.2.2.2.2.2.2.2.2.2.2.2.2.2.2.2.2.2.2.2.2.2.2.1
theorem dX8_copyFrom_159 : decode cX8_copyFrom 159 = .ok (.getfield 76, 3) := dq_g138.2.2.2.2.2.2.2.2.2.2.2.2.2.2.2.2.2.2.2.2.2.2.2.2.2.2.2.1
theorem dX8_copyFrom_162 : decode cX8_copyFrom 162 = .ok (.putfield 76, 3) := dq_g138.2.2.2.2.2.2.2.2.2.2.2.2.2.2.2.2.2.2.2.2.2.2.2.2.2.2.2.2.1
theorem dX8_copyFrom_165 : decode cX8_copyFrom 165 = .ok (.aload_n 1, 1) := dq_g138.2.2.2.2.2.2.2.2.2.2.2.2.2.2.2.2.2.2.2.2.2.2.2.2.2.2.2.2.2.1
theorem dq_g139 : decode cX8_copyFrom 166 = .ok (.getfield 40, 3) ∧ decode cX8_copyFrom 169 = .ok (.iconst 0, 1) ∧ decode cX8_copyFrom 170 = .ok (.aload_n 0, 1) ∧ decode cX8_copyFrom 171 = .ok (.getfield 40, 3) ∧ decode cX8_copyFrom 174 = .ok (.iconst 0, 1) ∧ decode cX8_copyFrom 175 = .ok (.bipush 8, 2) ∧ decode cX8_copyFrom 177 = .ok (.invokestatic 70, 3) ∧ decode cX8_copyFrom 180 = .ok (.aload_n 1, 1) ∧ decode cX8_copyFrom 181 = .ok (.getfield 43, 3) ∧ decode cX8_copyFrom 184 = .ok (.iconst 0, 1) ∧ decode cX8_copyFrom 185 = .ok (.aload_n 0, 1) ∧ decode cX8_copyFrom 186 = .ok (.getfield 43, 3) ∧ decode cX8_copyFrom 189 = .ok (.iconst 0, 1) ∧ decode cX8_copyFrom 190 = .ok (.bipush 8, 2) ∧ decode cX8_copyFrom 192 = .ok (.invokestatic 70, 3) ∧ decode cX8_copyFrom 195 = .ok (.aload_n 0, 1) ∧ decode cX8_copyFrom 196 = .ok (.aload_n 1, 1) ∧ decode cX8_copyFrom 197 = .ok (.getfield 79, 3) ∧ decode cX8_copyFrom 200 = .ok (.putfield 79, 3) ∧ decode cX8_copyFrom 203 = .ok (.aload_n 1, 1) ∧ decode cX8_copyFrom 204 = .ok (.getfield 46, 3) ∧ decode cX8_copyFrom 207 = .ok (.iconst 0, 1) ∧ decode cX8_copyFrom 208 = .ok (.aload_n 0, 1) ∧ decode cX8_copyFrom 209 = .ok (.getfield 46, 3) ∧ decode cX8_copyFrom 212 = .ok (.iconst 0, 1) ∧ decode cX8_copyFrom 213 = .ok (.bipush 8, 2) ∧ decode cX8_copyFrom 215 = .ok (.invokestatic 70, 3) ∧ decode cX8_copyFrom 218 = .ok (.aload_n 1, 1) ∧ decode cX8_copyFrom 219 = .ok (.getfield 49, 3) ∧ decode cX8_copyFrom 222 = .ok (.iconst 0, 1) ∧ True := dqC_ok (c := cX8_copyFrom) [(166, 3, some (.getfield 40)), (169, 1, some (.iconst 0)), (170, 1, some (.aload_n 0)), (171, 3, some (.getfield 40)), (174, 1, some (.iconst 0)), (175, 2, some (.bipush 8)), (177, 3, some (.invokestatic 70)), (180, 1, some (.aload_n 1)), (181, 3, some (.getfield 43)), (184, 1, some (.iconst 0)), (185, 1, some (.aload_n 0)), (186, 3, some (.getfield 43)), (189, 1, some (.iconst 0)), (190, 2, some (.bipush 8)), (192, 3, some (.invokestatic 70)), (195, 1, some (.aload_n 0)), (196, 1, some (.aload_n 1)), (197, 3, some (.getfield 79)), (200, 3, some (.putfield 79)), (203, 1, some (.aload_n 1)), (204, 3, some (.getfield 46)), (207, 1, some (.iconst 0)), (208, 1, some (.aload_n 0)), (209, 3, some (.getfield 46)), (212, 1, some (.iconst 0)), (213, 2, some (.bipush 8)), (215, 3, some (.invokestatic 70)), (218, 1, some (.aload_n 1)), (219, 3, some (.getfield 49)), (222, 1, some (.iconst 0))] _ 166 rfl (by decide +kernel)
theorem dX8_copyFrom_166 : decode cX8_copyFrom 166 = .ok (.getfield 40, 3) := dq_g139.1
theorem dX8_copyFrom_169 : decode cX8_copyFrom 169 = .ok (.iconst 0, 1) := dq_g139.2.1
theorem dX8_copyFrom_170 : decode cX8_copyFrom 170 = .ok (.aload_n 0, 1) := dq_g139.2.2.1
theorem dX8_copyFrom_171 : decode cX8_copyFrom 171 = .ok (.getfield 40, 3) := dq_g139.2.2.2.1
theorem dX8_copyFrom_174 : decode cX8_copyFrom 174 = .ok (.iconst 0, 1) := dq_g139.2.2.2.2.1
theorem dX8_copyFrom_175 : decode cX8_copyFrom 175 = .ok (.bipush 8, 2) := dq_g139.2.2.2.2.2.1
theorem dX8_copyFrom_177 : decode cX8_copyFrom 177 = .ok (.invokestatic 70, 3) := dq_g139.2.2.2.2.2.2.1
theorem dX8_copyFrom_180 : decode cX8_copyFrom 180 = .ok (.aload_n 1, 1) := dq_g139.2.2.2.2.2.2.2.1
theorem dX8_copyFrom_181 : decode cX8_copyFrom 181 = .ok (.getfield 43, 3) := dq_g139.2.2.2.2.2.2.2.2.1
theorem dX8_copyFrom_184 : decode cX8_copyFrom 184 = .ok (.iconst 0, 1) := dq_g139.2.2.2.2.2.2.2.2.2.1
theorem dX8_copyFrom_185 : decode cX8_copyFrom 185 = .ok (.aload_n 0, 1) := dq_g139.2.2.2.2.2.2.2.2.2.2.1
theorem dX8_copyFrom_186 : decode cX8_copyFrom 186 = .ok (.getfield 43, 3) := dq_g139.2.2.2.2.2.2.2.2.2.2.2.1
theorem dX8_copyFrom_189 : decode cX8_copyFrom 189 = .ok (.iconst 0, 1) := dq_g139.2.2.2.2.2.2.2.2.2.2.2.2.1
theorem dX8_copyFrom_190 : decode cX8_copyFrom 190 = .ok (.bipush 8, 2) := dq_g139.2.2.2.2.2.2.2.2.2.2.2.2.2.1
theorem dX8_copyFrom_192 : decode cX8_copyFrom 192 = .ok (.invokestatic 70, 3) := dq_g139.2.2.2.2.2.2.2.2.2.2.2.2.2.2.1
theorem dX8_copyFrom_195 : decode cX8_copyFrom 195 = .ok (.aload_n 0, 1) := dq_g139.2.2.2.2.2.2.2.2.2.2.2.2.2.2.2.1
theorem dX8_copyFrom_196 : decode cX8_copyFrom 196 = .ok (.aload_n 1, 1) := dq_g139.2.2.2.2.2.2.2.2.2.2.2.2.2.2.2.2.1
theorem dX8_copyFrom_197 : decode cX8_copyFrom 197 = .ok (.getfield 79, 3) := dq_g139.2.2.2.2.2.2.2.2.2.2.2.2.2.2.2.2.2.1
theorem dX8_copyFrom_200 : decode cX8_copyFrom 200 = .ok (.putfield 79, 3) := dq_g139.2.2.2.2.2.2.2.2.2.2.2.2.2.2.2.2.2.2.1
theorem dX8_copyFrom_203 : decode cX8_copyFrom 203 = .ok (.aload_n 1, 1) := dq_g139.2.2.2.2.2.2.2.2.2.2.2.2.2.2.2.2.2.2.2.1
theorem dX8_copyFrom_204 : decode cX8_copyFrom 204 = .ok (.getfield 46, 3) := dq_g139.2.2.2.2.2.2.2.2.2.2.2.2.2.2.2.2.2.2.2.2.1
theorem dX8_copyFrom_207 : decode cX8_copyFrom 207 = .ok (.iconst 0, 1) := dq_g139.2.2.2.2.2.2.2.2.2.2.2.2.2.2.2.2.2.2.2.2.2.1
theorem dX8_copyFrom_208 : decode cX8_copyFrom 208 = .ok (.aload_n 0, 1) := dq_g139.2.2.2.2.2.2.2.2.2.2.2.2.2.2.2.2.2.2.2.2.2.2.1
theorem dX8_copyFrom_209 : decode cX8_copyFrom 209 = .ok (.getfield 46, 3) := dq_g139.2.2.2.2.2.2.2.2.2.2.2.2.2.2.2.2.2.2.2.2.2.2.2.1
theorem dX8_copyFrom_212 : decode cX8_copyFrom 212 = .ok (.iconst 0, 1) := dq_g139.2.2.2.2.2.2.2.2.2.2.2.2.2.2.2.2.2.2.2.2.2.2.2.2.1
theorem dX8_copyFrom_213 : decode cX8_copyFrom 213 = .ok (.bipush 8, 2) := dq_g139.2.2.2.2.2.2.2.2.2.2.2.2.2.2.2.2.2.2.2.2.2.2.2.2.2.1
theorem dX8_copyFrom_215 : decode cX8_copyFrom 215 = .ok (.invokestatic 70, 3) := dq_g139.2.2.2.2.2.2.2.2.2.2.2.2.2.2.2.2.2.2.2.2.2.2.2.2.2.2.1
theorem dX8_copyFrom_218 : decode cX8_copyFrom 218 = .ok (.aload_n 1, 1) := dq_g139.2.2.2.2.2.2.2.2.2.2.2.2.2.2.2.2.2.2.2.2.2.2.2.2.2.2.2.1
theorem dX8_copyFrom_219 : decode cX8_copyFrom 219 = .ok (.getfield 49, 3) := dq_g139.2.2.2.2.2.2.2.2.2.2.2.2.2.2.2.2.2.2.2.2.2.2.2.2.2.2.2.2.1
theorem dX8_copyFrom_222 : decode cX8_copyFrom 222 = .ok (.iconst 0, 1) := dq_g139.2.2.2.2.2.2.2.2.2.2.2.2.2.2.2.2.2.2.2.2.2.2.2.2.2.2.2.2.2.1
theorem dq_g140 : decode cX8_copyFrom 223 = .ok (.aload_n 0, 1) ∧ decode cX8_copyFrom 224 = .ok (.getfield 49, 3) ∧ decode cX8_copyFrom 227 = .ok (.iconst 0, 1) ∧ decode cX8_copyFrom 228 = .ok (.bipush 8, 2) ∧ decode cX8_copyFrom 230 = .ok (.invokestatic 70, 3) ∧ decode cX8_copyFrom 233 = .ok (.aload_n 0, 1) ∧ decode cX8_copyFrom 234 = .ok (.aload_n 1, 1) ∧ decode cX8_copyFrom 235 = .ok (.getfield 82, 3) ∧ decode cX8_copyFrom 238 = .ok (.putfield 82, 3) ∧ decode cX8_copyFrom 241 = .ok (.return_, 1) ∧ True := dqC_ok (c := cX8_copyFrom) [(223, 1, some (.aload_n 0)), (224, 3, some (.getfield 49)), (227, 1, some (.iconst 0)), (228, 2, some (.bipush 8)), (230, 3, some (.invokestatic 70)), (233, 1, some (.aload_n 0)), (234, 1, some (.aload_n 1)), (235, 3, some (.getfield 82)), (238, 3, some (.putfield 82)), (241, 1, some (.return_))] _ 223 rfl (by decide +kernel)
theorem dX8_copyFrom_223 : decode cX8_copyFrom 223 = .ok (.aload_n 0, 1) := dq_g140.1
theorem dX8_copyFrom_224 : decode cX8_copyFrom 224 = .ok (.getfield 49, 3) := dq_g140.2.1
theorem dX8_copyFrom_227 : decode cX8_copyFrom 227 = .ok (.iconst 0, 1) := dq_g140.2.2.1
theorem dX8_copyFrom_228 : decode cX8_copyFrom 228 = .ok (.bipush 8, 2) := dq_g140.2.2.2.1
theorem dX8_copyFrom_230 : decode cX8_copyFrom 230 = .ok (.invokestatic 70, 3) := dq_g140.2.2.2.2.1
theorem dX8_copyFrom_233 : decode cX8_copyFrom 233 = .ok (.aload_n 0, 1) := dq_g140.2.2.2.2.2.1
theorem dX8_copyFrom_234 : decode cX8_copyFrom 234 = .ok (.aload_n 1, 1) := dq_g140.2.2.2.2.2.2.1
theorem dX8_copyFrom_235 : decode cX8_copyFrom 235 = .ok (.getfield 82, 3) := dq_g140.2.2.2.2.2.2.2.1
theorem dX8_copyFrom_238 : decode cX8_copyFrom 238 = .ok (.putfield 82, 3) := dq_g140.2.2.2.2.2.2.2.2.1
theorem dX8_copyFrom_241 : decode cX8_copyFrom 241 = .ok (.return_, 1) := dq_g140.2.2.2.2.2.2.2.2.2.1
theorem dq_g141 : decode cX9_init 0 = .ok (.aload_n 0, 1) ∧ decode cX9_init 1 = .ok (.invokespecial 3, 3) ∧ decode cX9_init 4 = .ok (.aload_n 0, 1) ∧ decode cX9_init 5 = .ok (.new 9, 3) ∧ decode cX9_init 8 = .ok (.dup, 1) ∧ decode cX9_init 9 = .ok (.invokespecial 11, 3) ∧ decode cX9_init 12 = .ok (.putfield 12, 3) ∧ decode cX9_init 15 = .ok (.aload_n 0, 1) ∧ decode cX9_init 16 = .ok (.sipush 500, 3) ∧ decode cX9_init 21 = .ok (.putfield 16, 3) ∧ decode cX9_init 24 = .ok (.aload_n 0, 1) ∧ decode cX9_init 25 = .ok (.new 20, 3) ∧ decode cX9_init 28 = .ok (.dup, 1) ∧ decode cX9_init 29 = .ok (.invokespecial 22, 3) ∧ decode cX9_init 32 = .ok (.putfield 23, 3) ∧ decode cX9_init 35 = .ok (.aload_n 0, 1) ∧ decode cX9_init 36 = .ok (.new 27, 3) ∧ decode cX9_init 39 = .ok (.dup, 1) ∧ decode cX9_init 40 = .ok (.invokespecial 29, 3) ∧ decode cX9_init 43 = .ok (.putfield 30, 3) ∧ decode cX9_init 46 = .ok (.aload_n 0, 1) ∧ decode cX9_init 47 = .ok (.new 34, 3) ∧ decode cX9_init 50 = .ok (.dup, 1) ∧ decode cX9_init 51 = .ok (.invokespecial 36, 3) ∧ decode cX9_init 54 = .ok (.putfield 37, 3) ∧ decode cX9_init 57 = .ok (.aload_n 0, 1) ∧ decode cX9_init 58 = .ok (.new 41, 3) ∧ decode cX9_init 61 = .ok (.dup, 1) ∧ decode cX9_init 62 = .ok (.invokespecial 43, 3) ∧ True := dqC_ok (c := cX9_init) [(0, 1, some (.aload_n 0)), (1, 3, some (.invokespecial 3)), (4, 1, some (.aload_n 0)), (5, 3, some (.new 9)), (8, 1, some (.dup)), (9, 3, some (.invokespecial 11)), (12, 3, some (.putfield 12)), (15, 1, some (.aload_n 0)), (16, 3, some (.sipush 500)), (19, 2, none), (21, 3, some (.putfield 16)), (24, 1, some (.aload_n 0)), (25, 3, some (.new 20)), (28, 1, some (.dup)), (29, 3, some (.invokespecial 22)), (32, 3, some (.putfield 23)), (35, 1, some (.aload_n 0)), (36, 3, some (.new 27)), (39, 1, some (.dup)), (40, 3, some (.invokespecial 29)), (43, 3, some (.putfield 30)), (46, 1, some (.aload_n 0)), (47, 3, some (.new 34)), (50, 1, some (.dup)), (51, 3, some (.invokespecial 36)), (54, 3, some (.putfield 37)), (57, 1, some (.aload_n 0)), (58, 3, some (.new 41)), (61, 1, some (.dup)), (62, 3, some (.invokespecial 43))] _ 0 rfl (by decide +kernel)
theorem dX9_init_0 : decode cX9_init 0 = .ok (.aload_n 0, 1) := dq_g141.1
theorem dX9_init_1 : decode cX9_init 1 = .ok (.invokespecial 3, 3) := dq_g141.2.1
theorem dX9_init_4 : decode cX9_init 4 = .ok (.aload_n 0, 1) := dq_g141.2.2.1
theorem dX9_init_5 : decode cX9_init 5 = .ok (.new 9, 3) := dq_g141.2.2.2.1
theorem dX9_init_8 : decode cX9_init 8 = .ok (.dup, 1) := dq_g141.2.2.2.2.1
theorem dX9_init_9 : decode cX9_init 9 = .ok (.invokespecial 11, 3) := dq_g141.2.2.2.2.2.1
theorem dX9_init_12 : decode cX9_init 12 = .ok (.putfield 12, 3) := dq_g141.2.2.2.2.2.2.1
theorem dX9_init_15 : decode cX9_init 15 = .ok (.aload_n 0, 1) := dq_g141.2.2.2.2.2.2.2.1
theorem dX9_init_16 : decode cX9_init 16 = .ok (.sipush 500, 3) := dq_g141.2.2.2.2.2.2.2.2.1
theorem dX9_init_21 : decode cX9_init 21 = .ok (.putfield 16, 3) := dq_g141.2.2.2.2.2.2.2.2.2.1
theorem dX9_init_24 : decode cX9_init 24 = .ok (.aload_n 0, 1) := dq_g141.2.2.2.2.2.2.2.2.2.2.1
theorem dX9_init_25 : decode cX9_init 25 = .ok (.new 20, 3) := dq_g141.2.2.2.2.2.2.2.2.2.2.2.1
theorem dX9_init_28 : decode cX9_init 28 = .ok (.dup, 1) := dq_g141.2.2.2.2.2.2.2.2.2.2.2.2.1
theorem dX9_init_29 : decode cX9_init 29 = .ok (.invokespecial 22, 3) := dq_g141.2.2.2.2.2.2.2.2.2.2.2.2.2.1
theorem dX9_init_32 : decode cX9_init 32 = .ok (.putfield 23, 3) := dq_g141.2.2.2.2.2.2.2.2.2.2.2.2.2.2.1
theorem dX9_init_35 : decode cX9_init 35 = .ok (.aload_n 0, 1) := dq_g141.2.2.2.2.2.2.2.2.2.2.2.2.2.2.2.1
theorem dX9_init_36 : decode cX9_init 36 = .ok (.new 27, 3) := dq_g141.2.2.2.2.2.2.2.2.2.2.2.2.2.2.2.2.1
theorem dX9_init_39 : decode cX9_init 39 = .ok (.dup, 1) := dq_g141.2.2.2.2.2.2.2.2.2.2.2.2.2.2.2.2.2.1
theorem dX9_init_40 : decode cX9_init 40 = .ok (.invokespecial 29, 3) := dq_g141.2.2.2.2.2.2.2.2.2.2.2.2.2.2.2.2.2.2.1
theorem dX9_init_43 : decode cX9_init 43 = .ok (.putfield 30, 3) := dq_g141.2.2.2.2.2.2.2.2.2.2.2.2.2.2.2.2.2.2.2.1
theorem dX9_init_46 : decode cX9_init 46 = .ok (.aload_n 0, 1) := dq_g141.2.2.2.2.2.2.2.2.2.2.2.2.2.2.2.2.2.2.2.2.1
theorem dX9_init_47 : decode cX9_init 47 = .ok (.new 34, 3) := dq_g141.2.2.2.2.2.2.2.2.2.2.2.2.2.2.2.2.2.2.2.2.2.1
theorem dX9_init_50 : decode cX9_init 50 = .ok (.dup, 1) := dq_g141.2.2.2.2.2.2.2.2.2.2.2.2.2.2.2.2.2.2.2.2.2.2.1
theorem dX9_init_51 : decode cX9_init 51 = .ok (.invokespecial 36, 3) := dq_g141.2.2.2.2.2.2.2.2.2.2.2.2.2.2.2.2.2.2.2.2.2.2.2.1
theorem dX9_init_54 : decode cX9_init 54 = .ok (.putfield 37, 3) := dq_g141.2.2.2.2.2.2.2.2.2.2.2.2.2.2.2.2.2.2.2.2.2.2.2.2.1
theorem dX9_init_57 : decode cX9_init 57 = .ok (.aload_n 0, 1) := dq_g141.2.2.2.2.2.2.2.2.2.2.2.2.2.2.2.2.2.2.2.2.2.2.2.2.2.1
theorem dX9_init_58 : decode cX9_init 58 = .ok (.new 41, 3) := dq_g141.2.2.2.2.2.2.2.2.2.2.2.2.2.2.2.2.2.2.2.2.2.2.2.2.2.2.1
theorem dX9_init_61 : decode cX9_init 61 = .ok (.dup, 1) := dq_g141.2.2.2.2.2.2.2.2.2.2.2.2.2.2.2.2.2.2.2.2.2.2.2.2.2.2.2.1
theorem dX9_init_62 : decode cX9_init 62 = .ok (.invokespecial 43, 3) := dq_g141.2.2.2.2.2.2.2.2.2.2.2.2.2.2.2.2.2.2.2.2.2.2.2.2.2.2.2.2.1
theorem dX9_init_19 : decode cX9_init 19 = .ok (.newarray .int, 2) := by decide +kernel
theorem dq_g142 : decode cX9_init 65 = .ok (.putfield 44, 3) ∧ decode cX9_init 68 = .ok (.aload_n 0, 1) ∧ decode cX9_init 69 = .ok (.new 48, 3) ∧ decode cX9_init 72 = .ok (.dup, 1) ∧ decode cX9_init 73 = .ok (.invokespecial 50, 3) ∧ decode cX9_init 76 = .ok (.putfield 51, 3) ∧ decode cX9_init 79 = .ok (.aload_n 0, 1) ∧ decode cX9_init 80 = .ok (.bipush 10, 2) ∧ decode cX9_init 84 = .ok (.putfield 55, 3) ∧ decode cX9_init 87 = .ok (.aload_n 0, 1) ∧ decode cX9_init 88 = .ok (.bipush 16, 2) ∧ decode cX9_init 92 = .ok (.putfield 58, 3) ∧ decode cX9_init 95 = .ok (.aload_n 0, 1) ∧ decode cX9_init 96 = .ok (.bipush 16, 2) ∧ decode cX9_init 100 = .ok (.putfield 61, 3) ∧ decode cX9_init 103 = .ok (.return_, 1) ∧ True := dqC_ok (c := cX9_init) [(65, 3, some (.putfield 44)), (68, 1, some (.aload_n 0)), (69, 3, some (.new 48)), (72, 1, some (.dup)), (73, 3, some (.invokespecial 50)), (76, 3, some (.putfield 51)), (79, 1, some (.aload_n 0)), (80, 2, some (.bipush 10)), (82, 2, none), (84, 3, some (.putfield 55)), (87, 1, some (.aload_n 0)), (88, 2, some (.bipush 16)), (90, 2, none), (92, 3, some (.putfield 58)), (95, 1, some (.aload_n 0)), (96, 2, some (.bipush 16)), (98, 2, none), (100, 3, some (.putfield 61)), (103, 1, some (.return_))] _ 65 rfl (by decide +kernel)
theorem dX9_init_65 : decode cX9_init 65 = .ok (.putfield 44, 3) := dq_g142.1
theorem dX9_init_68 : decode cX9_init 68 = .ok (.aload_n 0, 1) := dq_g142.2.1
theorem dX9_init_69 : decode cX9_init 69 = .ok (.new 48, 3) := dq_g142.2.2.1
theorem dX9_init_72 : decode cX9_init 72 = .ok (.dup, 1) := dq_g142.2.2.2.1
theorem dX9_init_73 : decode cX9_init 73 = .ok (.invokespecial 50, 3) := dq_g142.2.2.2.2.1
theorem dX9_init_76 : decode cX9_init 76 = .ok (.putfield 51, 3) := dq_g142.2.2.2.2.2.1
theorem dX9_init_79 : decode cX9_init 79 = .ok (.aload_n 0, 1) := dq_g142.2.2.2.2.2.2.1
theorem dX9_init_80 : decode cX9_init 80 = .ok (.bipush 10, 2) := dq_g142.2.2.2.2.2.2.2.1
theorem dX9_init_84 : decode cX9_init 84 = .ok (.putfield 55, 3) := dq_g142.2.2.2.2.2.2.2.2.1
theorem dX9_init_87 : decode cX9_init 87 = .ok (.aload_n 0, 1) := dq_g142.2.2.2.2.2.2.2.2.2.1
theorem dX9_init_88 : decode cX9_init 88 = .ok (.bipush 16, 2) := dq_g142.2.2.2.2.2.2.2.2.2.2.1
theorem dX9_init_92 : decode cX9_init 92 = .ok (.putfield 58, 3) := dq_g142.2.2.2.2.2.2.2.2.2.2.2.1
theorem dX9_init_95 : decode cX9_init 95 = .ok (.aload_n 0, 1) := dq_g142.2.2.2.2.2.2.2.2.2.2.2.2.1
theorem dX9_init_96 : decode cX9_init 96 = .ok (.bipush 16, 2) := dq_g142.2.2.2.2.2.2.2.2.2.2.2.2.2.1
theorem dX9_init_100 : decode cX9_init 100 = .ok (.putfield 61, 3) := dq_g142.2.2.2.2.2.2.2.2.2.2.2.2.2.2.1
theorem dX9_init_103 : decode cX9_init 103 = .ok (.return_, 1) := dq_g142.2.2.2.2.2.2.2.2.2.2.2.2.2.2.2.1
theorem dX9_init_82 : decode cX9_init 82 = .ok (.newarray .int, 2) := by decide +kernel
theorem dX9_init_90 : decode cX9_init 90 = .ok (.newarray .int, 2) := by decide +kernel
theorem dX9_init_98 : decode cX9_init 98 = .ok (.newarray .int, 2) := by decide +kernel
theorem dq_g143 : decode cX9_bar 0 = .ok (.iload_n 1, 1) ∧ decode cX9_bar 1 = .ok (.iconst 3, 1) ∧ decode cX9_bar 2 = .ok (.if_icmp .lt 21, 3) ∧ decode cX9_bar 5 = .ok (.iload_n 1, 1) ∧ decode cX9_bar 6 = .ok (.bipush 16, 2) ∧ decode cX9_bar 8 = .ok (.if_icmp .gt 15, 3) ∧ decode cX9_bar 11 = .ok (.aload_n 0, 1) ∧ decode cX9_bar 12 = .ok (.getfield 12, 3) ∧ decode cX9_bar 15 = .ok (.getfield 64, 3) ∧ decode cX9_bar 18 = .ok (.bipush 10, 2) ∧ decode cX9_bar 20 = .ok (.if_icmp .lt 5, 3) ∧ decode cX9_bar 23 = .ok (.iconst (-1), 1) ∧ decode cX9_bar 24 = .ok (.ireturn, 1) ∧ decode cX9_bar 25 = .ok (.aload_n 0, 1) ∧ decode cX9_bar 26 = .ok (.getfield 12, 3) ∧ decode cX9_bar 29 = .ok (.getfield 68, 3) ∧ decode cX9_bar 32 = .ok (.aload_n 0, 1) ∧ decode cX9_bar 33 = .ok (.getfield 12, 3) ∧ decode cX9_bar 36 = .ok (.getfield 64, 3) ∧ decode cX9_bar 39 = .ok (.aaload, 1) ∧ decode cX9_bar 40 = .ok (.iload_n 1, 1) ∧ decode cX9_bar 41 = .ok (.invokevirtual 72, 3) ∧ decode cX9_bar 44 = .ok (.aload_n 0, 1) ∧ decode cX9_bar 45 = .ok (.getfield 12, 3) ∧ decode cX9_bar 48 = .ok (.dup, 1) ∧ decode cX9_bar 49 = .ok (.getfield 64, 3) ∧ decode cX9_bar 52 = .ok (.iconst 1, 1) ∧ decode cX9_bar 53 = .ok (.iadd, 1) ∧ decode cX9_bar 54 = .ok (.putfield 64, 3) ∧ decode cX9_bar 57 = .ok (.aload_n 0, 1) ∧ True := dqC_ok (c := cX9_bar) [(0, 1, some (.iload_n 1)), (1, 1, some (.iconst 3)), (2, 3, some (.if_icmp .lt 21)), (5, 1, some (.iload_n 1)), (6, 2, some (.bipush 16)), (8, 3, some (.if_icmp .gt 15)), (11, 1, some (.aload_n 0)), (12, 3, some (.getfield 12)), (15, 3, some (.getfield 64)), (18, 2, some (.bipush 10)), (20, 3, some (.if_icmp .lt 5)), (23, 1, some (.iconst (-1))), (24, 1, some (.ireturn)), (25, 1, some (.aload_n 0)), (26, 3, some (.getfield 12)), (29, 3, some (.getfield 68)), (32, 1, some (.aload_n 0)), (33, 3, some (.getfield 12)), (36, 3, some (.getfield 64)), (39, 1, some (.aaload)), (40, 1, some (.iload_n 1)), (41, 3, some (.invokevirtual 72)), (44, 1, some (.aload_n 0)), (45, 3, some (.getfield 12)), (48, 1, some (.dup)), (49, 3, some (.getfield 64)), (52, 1, some (.iconst 1)), (53, 1, some (.iadd)), (54, 3, some (.putfield 64)), (57, 1, some (.aload_n 0))] _ 0 rfl (by decide +kernel)
theorem dX9_bar_0 : decode cX9_bar 0 = .ok (.iload_n 1, 1) := dq_g143.1
theorem dX9_bar_1 : decode cX9_bar 1 = .ok (.iconst 3, 1) := dq_g143.2.1
theorem dX9_bar_2 : decode cX9_bar 2 = .ok (.if_icmp .lt 21, 3) := dq_g143.2.2.1
theorem dX9_bar_5 : decode cX9_bar 5 = .ok (.iload_n 1, 1) := dq_g143.2.2.2.1
theorem dX9_bar_6 : decode cX9_bar 6 = .ok (.bipush 16, 2) := dq_g143.2.2.2.2.1
theorem dX9_bar_8 : decode cX9_bar 8 = .ok (.if_icmp .gt 15, 3) := dq_g143.2.2.2.2.2.1
theorem dX9_bar_11 : decode cX9_bar 11 = .ok (.aload_n 0, 1) := dq_g143.2.2.2.2.2.2.1
theorem dX9_bar_12 : decode cX9_bar 12 = .ok (.getfield 12, 3) := dq_g143.2.2.2.2.2.2.2.1
theorem dX9_bar_15 : decode cX9_bar 15 = .ok (.getfield 64, 3) := dq_g143.2.2.2.2.2.2.2.2.1
theorem dX9_bar_18 : decode cX9_bar 18 = .ok (.bipush 10, 2) := dq_g143.2.2.2.2.2.2.2.2.2.1
theorem dX9_bar_20 : decode cX9_bar 20 = .ok (.if_icmp .lt 5, 3) := dq_g143.2.2.2.2.2.2.2.2.2.2.1
theorem dX9_bar_23 : decode cX9_bar 23 = .ok (.iconst (-1), 1) := dq_g143.2.2.2.2.2.2.2.2.2.2.2.1
theorem dX9_bar_24 : decode cX9_bar 24 = .ok (.ireturn, 1) := dq_g143.2.2.2.2.2.2.2.2.2.2.2.2.1
theorem dX9_bar_25 : decode cX9_bar 25 = .ok (.aload_n 0, 1) := dq_g143.2.2.2.2.2.2.2.2.2.2.2.2.2.1
theorem dX9_bar_26 : decode cX9_bar 26 = .ok (.getfield 12, 3) := dq_g143.2.2.2.2.2.2.2.2.2.2.2.2.2.2.1
theorem dX9_bar_29 : decode cX9_bar 29 = .ok (.getfield 68, 3) := dq_g143.2.2.2.2.2.2.2.2.2.2.2.2.2.2.2.1
theorem dX9_bar_32 : decode cX9_bar 32 = .ok (.aload_n 0, 1) := dq_g143.2.2.2.2.2.2.2.2.2.2.2.2.2.2.2.2.1
theorem dX9_bar_33 : decode cX9_bar 33 = .ok (.getfield 12, 3) := dq_g143.2.2.2.2.2.2.2.2.2.2.2.2.2.2.2.2.2.1
theorem dX9_bar_36 : decode cX9_bar 36 = .ok (.getfield 64, 3) := dq_g143.2.2.2.2.2.2.2.2.2.2.2.2.2.2.2.2.2.2.1
theorem dX9_bar_39 : decode cX9_bar 39 = .ok (.aaload, 1) := dq_g143.2.2.2.2.2.2.2.2.2.2.2.2.2.2.2.2.2.2.2.1
theorem dX9_bar_40 : decode cX9_bar 40 = .ok (.iload_n 1, 1) := dq_g143.2.2.2.2.2.2.2.2.2.2.2.2.2.2.2.2.2.2.2.2.1
theorem dX9_bar_41 : decode cX9_bar 41 = .ok (.invokevirtual 72, 3) := dq_g143.2.2.2.2.2.2.2.2.2.2.2.2.2.2.2.2.2.2.2.2.2.1
theorem dX9_bar_44 : decode cX9_bar 44 = .ok (.aload_n 0, 1) := dq_g143.2.2.2.2.2.2.2.2.2.2.2.2.2.2.2.2.2.2.2.2.2.2.1
theorem dX9_bar_45 : decode cX9_bar 45 = .ok (.getfield 12, 3) := dq_g143.2.2.2.2.2.2.2.2.2.2.2.2.2.2.2.2.2.2.2.2.2.2.2.1
theorem dX9_bar_48 : decode cX9_bar 48 = .ok (.dup, 1) := dq_g143.2.2.2.2.2.2.2.2.2.2.2.2.2.2.2.2.2.2.2.2.2.2.2.2.1
theorem dX9_bar_49 : decode cX9_bar 49 = .ok (.getfield 64, 3) := dq_g143.2.2.2.2.2.2.2.2.2.2.2.2.2.2.2.2.2.2.2.2.2.2.2.2.2.1
theorem dX9_bar_52 : decode cX9_bar 52 = .ok (.iconst 1, 1) := dq_g143.2.2.2.2.2.2.2.2.2.2.2.2.2.2.2.2.2.2.2.2.2.2.2.2.2.2.1
theorem dX9_bar_53 : decode cX9_bar 53 = .ok (.iadd, 1) := dq_g143.2.2.2.2.2.2.2.2.2.2.2.2.2.2.2.2.2.2.2.2.2.2.2.2.2.2.2.1
theorem dX9_bar_54 : decode cX9_bar 54 = .ok (.putfield 64, 3) := dq_g143.2.2.2.2.2.2.2.2.2.2.2.2.2.2.2.2.2.2.2.2.2.2.2.2.2.2.2.2.1
theorem dX9_bar_57 : decode cX9_bar 57 = .ok (.aload_n 0, 1) := dq_g143.2.2.2.2.2.2.2.2.2.2.2.2.2.2.2.2.2.2.2.2.2.2.2.2.2.2.2.2.2.1
theorem dq_g144 : decode cX9_bar 58 = .ok (.getfield 12, 3) ∧ decode cX9_bar 61 = .ok (.getfield 64, 3) ∧ decode cX9_bar 64 = .ok (.iconst 1, 1) ∧ decode cX9_bar 65 = .ok (.isub, 1) ∧ decode cX9_bar 66 = .ok (.ireturn, 1) ∧ True := dqC_ok (c := cX9_bar) [(58, 3, some (.getfield 12)), (61, 3, some (.getfield 64)), (64, 1, some (.iconst 1)), (65, 1, some (.isub)), (66, 1, some (.ireturn))] _ 58 rfl (by decide +kernel)
theorem dX9_bar_58 : decode cX9_bar 58 = .ok (.getfield 12, 3) := dq_g144.1
theorem dX9_bar_61 : decode cX9_bar 61 = .ok (.getfield 64, 3) := dq_g144.2.1
theorem dX9_bar_64 : decode cX9_bar 64 = .ok (.iconst 1, 1) := dq_g144.2.2.1
theorem dX9_bar_65 : decode cX9_bar 65 = .ok (.isub, 1) := dq_g144.2.2.2.1
theorem dX9_bar_66 : decode cX9_bar 66 = .ok (.ireturn, 1) := dq_g144.2.2.2.2.1
theorem dq_g145 : decode cX9_slice 0 = .ok (.aload_n 0, 1) ∧ decode cX9_slice 1 = .ok (.iload_n 1, 1) ∧ decode cX9_slice 2 = .ok (.invokevirtual 78, 3) ∧ decode cX9_slice 5 = .ok (.astore 6, 2) ∧ decode cX9_slice 7 = .ok (.aload 6, 2) ∧ decode cX9_slice 9 = .ok (.ifnull 52, 3) ∧ decode cX9_slice 12 = .ok (.aload 6, 2) ∧ decode cX9_slice 14 = .ok (.iload_n 2, 1) ∧ decode cX9_slice 15 = .ok (.invokevirtual 82, 3) ∧ decode cX9_slice 18 = .ok (.ifCond .eq 43, 3) ∧ decode cX9_slice 21 = .ok (.aload 6, 2) ∧ decode cX9_slice 23 = .ok (.getfield 86, 3) ∧ decode cX9_slice 26 = .ok (.ifCond .gt 35, 3) ∧ decode cX9_slice 29 = .ok (.iload_n 3, 1) ∧ decode cX9_slice 30 = .ok (.iconst 1, 1) ∧ decode cX9_slice 31 = .ok (.bipush 99, 2) ∧ decode cX9_slice 33 = .ok (.invokestatic 89, 3) ∧ decode cX9_slice 36 = .ok (.ifCond .eq 25, 3) ∧ decode cX9_slice 39 = .ok (.iload 4, 2) ∧ decode cX9_slice 41 = .ok (.iconst 1, 1) ∧ decode cX9_slice 42 = .ok (.bipush 9, 2) ∧ decode cX9_slice 44 = .ok (.invokestatic 89, 3) ∧ decode cX9_slice 47 = .ok (.ifCond .eq 14, 3) ∧ decode cX9_slice 50 = .ok (.iload 5, 2) ∧ decode cX9_slice 52 = .ok (.iconst 1, 1) ∧ decode cX9_slice 53 = .ok (.bipush 9, 2) ∧ decode cX9_slice 55 = .ok (.invokestatic 89, 3) ∧ decode cX9_slice 58 = .ok (.ifCond .ne 5, 3) ∧ decode cX9_slice 61 = .ok (.iconst 0, 1) ∧ decode cX9_slice 62 = .ok (.ireturn, 1) ∧ True := dqC_ok (c := cX9_slice) [(0, 1, some (.aload_n 0)), (1, 1, some (.iload_n 1)), (2, 3, some (.invokevirtual 78)), (5, 2, some (.astore 6)), (7, 2, some (.aload 6)), (9, 3, some (.ifnull 52)), (12, 2, some (.aload 6)), (14, 1, some (.iload_n 2)), (15, 3, some (.invokevirtual 82)), (18, 3, some (.ifCond .eq 43)), (21, 2, some (.aload 6)), (23, 3, some (.getfield 86)), (26, 3, some (.ifCond .gt 35)), (29, 1, some (.iload_n 3)), (30, 1, some (.iconst 1)), (31, 2, some (.bipush 99)), (33, 3, some (.invokestatic 89)), (36, 3, some (.ifCond .eq 25)), (39, 2, some (.iload 4)), (41, 1, some (.iconst 1)), (42, 2, some (.bipush 9)), (44, 3, some (.invokestatic 89)), (47, 3, some (.ifCond .eq 14)), (50, 2, some (.iload 5)), (52, 1, some (.iconst 1)), (53, 2, some (.bipush 9)), (55, 3, some (.invokestatic 89)), (58, 3, some (.ifCond .ne 5)), (61, 1, some (.iconst 0)), (62, 1, some (.ireturn))] _ 0 rfl (by decide +kernel)
theorem dX9_slice_0 : decode cX9_slice 0 = .ok (.aload_n 0, 1) := dq_g145.1
theorem dX9_slice_1 : decode cX9_slice 1 = .ok (.iload_n 1, 1) := dq_g145.2.1
theorem dX9_slice_2 : decode cX9_slice 2 = .ok (.invokevirtual 78, 3) := dq_g145.2.2.1
theorem dX9_slice_5 : decode cX9_slice 5 = .ok (.astore 6, 2) := dq_g145.2.2.2.1
theorem dX9_slice_7 : decode cX9_slice 7 = .ok (.aload 6, 2) := dq_g145.2.2.2.2.1
theorem dX9_slice_9 : decode cX9_slice 9 = .ok (.ifnull 52, 3) := dq_g145.2.2.2.2.2.1
theorem dX9_slice_12 : decode cX9_slice 12 = .ok (.aload 6, 2) := dq_g145.2.2.2.2.2.2.1
theorem dX9_slice_14 : decode cX9_slice 14 = .ok (.iload_n 2, 1) := dq_g145.2.2.2.2.2.2.2.1
theorem dX9_slice_15 : decode cX9_slice 15 = .ok (.invokevirtual 82, 3) := dq_g145.2.2.2.2.2.2.2.2.1
theorem dX9_slice_18 : decode cX9_slice 18 = .ok (.ifCond .eq 43, 3) := dq_g145.2.2.2.2.2.2.2.2.2.1
theorem dX9_slice_21 : decode cX9_slice 21 = .ok (.aload 6, 2) := dq_g145.2.2.2.2.2.2.2.2.2.2.1
theorem dX9_slice_23 : decode cX9_slice 23 = .ok (.getfield 86, 3) := dq_g145.2.2.2.2.2.2.2.2.2.2.2.1
theorem dX9_slice_26 : decode cX9_slice 26 = .ok (.ifCond .gt 35, 3) := dq_g145.2.2.2.2.2.2.2.2.2.2.2.2.1
theorem dX9_slice_29 : decode cX9_slice 29 = .ok (.iload_n 3, 1) := dq_g145.2.2.2.2.2.2.2.2.2.2.2.2.2.1
theorem dX9_slice_30 : decode cX9_slice 30 = .ok (.iconst 1, 1) := dq_g145.2.2.2.2.2.2.2.2.2.2.2.2.2.2.1
theorem dX9_slice_31 : decode cX9_slice 31 = .ok (.bipush 99, 2) := dq_g145.2.2.2.2.2.2.2.2.2.2.2.2.2.2.2.1
theorem dX9_slice_33 : decode cX9_slice 33 = .ok (.invokestatic 89, 3) := dq_g145.2.2.2.2.2.2.2.2.2.2.2.2.2.2.2.2.1
theorem dX9_slice_36 : decode cX9_slice 36 = .ok (.ifCond .eq 25, 3) := dq_g145.2.2.2.2.2.2.2.2.2.2.2.2.2.2.2.2.2.1
theorem dX9_slice_39 : decode cX9_slice 39 = .ok (.iload 4, 2) := dq_g145.2.2.2.2.2.2.2.2.2.2.2.2.2.2.2.2.2.2.1
theorem dX9_slice_41 : decode cX9_slice 41 = .ok (.iconst 1, 1) := dq_g145.2.2.2.2.2.2.2.2.2.2.2.2.2.2.2.2.2.2.2.1
theorem dX9_slice_42 : decode cX9_slice 42 = .ok (.bipush 9, 2) := dq_g145.2.2.2.2.2.2.2.2.2.2.2.2.2.2.2.2.2.2.2.2.1
theorem dX9_slice_44 : decode cX9_slice 44 = .ok (.invokestatic 89, 3) := dq_g145.2.2.2.2.2.2.2.2.2.2.2.2.2.2.2.2.2.2.2.2.2.1
theorem dX9_slice_47 : decode cX9_slice 47 = .ok (.ifCond .eq 14, 3) := dq_g145.2.2.2.2.2.2.2.2.2.2.2.2.2.2.2.2.2.2.2.2.2.2.1
theorem dX9_slice_50 : decode cX9_slice 50 = .ok (.iload 5, 2) := dq_g145.2.2.2.2.2.2.2.2.2.2.2.2.2.2.2.2.2.2.2.2.2.2.2.1
theorem dX9_slice_52 : decode cX9_slice 52 = .ok (.iconst 1, 1) := dq_g145.2.2.2.2.2.2.2.2.2.2.2.2.2.2.2.2.2.2.2.2.2.2.2.2.1
theorem dX9_slice_53 : decode cX9_slice 53 = .ok (.bipush 9, 2) := dq_g145.2.2.2.2.2.2.2.2.2.2.2.2.2.2.2.2.2.2.2.2.2.2.2.2.2.1
theorem dX9_slice_55 : decode cX9_slice 55 = .ok (.invokestatic 89, 3) := dq_g145.2.2.2.2.2.2.2.2.2.2.2.2.2.2.2.2.2.2.2.2.2.2.2.2.2.2.1
theorem dX9_slice_58 : decode cX9_slice 58 = .ok (.ifCond .ne 5, 3) := dq_g145.2.2.2.2.2.2.2.2.2.2.2.2.2.2.2.2.2.2.2.2.2.2.2.2.2.2.2.1
theorem dX9_slice_61 : decode cX9_slice 61 = .ok (.iconst 0, 1) := dq_g145.2.2.2.2.2.2.2.2.2.2.2.2.2.2.2.2.2.2.2.2.2.2.2.2.2.2.2.2.1
theorem dX9_slice_62 : decode cX9_slice 62 = .ok (.ireturn, 1) := dq_g145.2.2.2.2.2.2.2.2.2.2.2.2.2.2.2.2.2.2.2.2.2.2.2.2.2.2.2.2.2.1
theorem dq_g146 : decode cX9_slice 63 = .ok (.aload 6, 2) ∧ decode cX9_slice 65 = .ok (.getfield 93, 3) ∧ decode cX9_slice 68 = .ok (.iload_n 2, 1) ∧ decode cX9_slice 69 = .ok (.iload_n 3, 1) ∧ decode cX9_slice 70 = .ok (.iastore, 1) ∧ decode cX9_slice 71 = .ok (.aload 6, 2) ∧ decode cX9_slice 73 = .ok (.getfield 96, 3) ∧ decode cX9_slice 76 = .ok (.iload_n 2, 1) ∧ decode cX9_slice 77 = .ok (.iload 4, 2) ∧ decode cX9_slice 79 = .ok (.iastore, 1) ∧ decode cX9_slice 80 = .ok (.aload 6, 2) ∧ decode cX9_slice 82 = .ok (.getfield 99, 3) ∧ decode cX9_slice 85 = .ok (.iload_n 2, 1) ∧ decode cX9_slice 86 = .ok (.iload 5, 2) ∧ decode cX9_slice 88 = .ok (.iastore, 1) ∧ decode cX9_slice 89 = .ok (.iconst 1, 1) ∧ decode cX9_slice 90 = .ok (.ireturn, 1) ∧ True := dqC_ok (c := cX9_slice) [(63, 2, some (.aload 6)), (65, 3, some (.getfield 93)), (68, 1, some (.iload_n 2)), (69, 1, some (.iload_n 3)), (70, 1, some (.iastore)), (71, 2, some (.aload 6)), (73, 3, some (.getfield 96)), (76, 1, some (.iload_n 2)), (77, 2, some (.iload 4)), (79, 1, some (.iastore)), (80, 2, some (.aload 6)), (82, 3, some (.getfield 99)), (85, 1, some (.iload_n 2)), (86, 2, some (.iload 5)), (88, 1, some (.iastore)), (89, 1, some (.iconst 1)), (90, 1, some (.ireturn))] _ 63 rfl (by decide +kernel)
theorem dX9_slice_63 : decode cX9_slice 63 = .ok (.aload 6, 2) := dq_g146.1
theorem dX9_slice_65 : decode cX9_slice 65 = .ok (.getfield 93, 3) := dq_g146.2.1
theorem dX9_slice_68 : decode cX9_slice 68 = .ok (.iload_n 2, 1) := dq_g146.2.2.1
theorem dX9_slice_69 : decode cX9_slice 69 = .ok (.iload_n 3, 1) := dq_g146.2.2.2.1
theorem dX9_slice_70 : decode cX9_slice 70 = .ok (.iastore, 1) := dq_g146.2.2.2.2.1
theorem dX9_slice_71 : decode cX9_slice 71 = .ok (.aload 6, 2) := dq_g146.2.2.2.2.2.1
theorem dX9_slice_73 : decode cX9_slice 73 = .ok (.getfield 96, 3) := dq_g146.2.2.2.2.2.2.1
theorem dX9_slice_76 : decode cX9_slice 76 = .ok (.iload_n 2, 1) := dq_g146.2.2.2.2.2.2.2.1
theorem dX9_slice_77 : decode cX9_slice 77 = .ok (.iload 4, 2) := dq_g146.2.2.2.2.2.2.2.2.1
theorem dX9_slice_79 : decode cX9_slice 79 = .ok (.iastore, 1) := dq_g146.2.2.2.2.2.2.2.2.2.1
theorem dX9_slice_80 : decode cX9_slice 80 = .ok (.aload 6, 2) := dq_g146.2.2.2.2.2.2.2.2.2.2.1
theorem dX9_slice_82 : decode cX9_slice 82 = .ok (.getfield 99, 3) := dq_g146.2.2.2.2.2.2.2.2.2.2.2.1
theorem dX9_slice_85 : decode cX9_slice 85 = .ok (.iload_n 2, 1) := dq_g146.2.2.2.2.2.2.2.2.2.2.2.2.1
theorem dX9_slice_86 : decode cX9_slice 86 = .ok (.iload 5, 2) := dq_g146.2.2.2.2.2.2.2.2.2.2.2.2.2.1
theorem dX9_slice_88 : decode cX9_slice 88 = .ok (.iastore, 1) := dq_g146.2.2.2.2.2.2.2.2.2.2.2.2.2.2.1
theorem dX9_slice_89 : decode cX9_slice 89 = .ok (.iconst 1, 1) := dq_g146.2.2.2.2.2.2.2.2.2.2.2.2.2.2.2.1
theorem dX9_slice_90 : decode cX9_slice 90 = .ok (.ireturn, 1) := dq_g146.2.2.2.2.2.2.2.2.2.2.2.2.2.2.2.2.1
theorem dq_g147 : decode cX9_wax 0 = .ok (.aload_n 0, 1) ∧ decode cX9_wax 1 = .ok (.iload_n 1, 1) ∧ decode cX9_wax 2 = .ok (.invokevirtual 78, 3) ∧ decode cX9_wax 5 = .ok (.astore 4, 2) ∧ decode cX9_wax 7 = .ok (.aload 4, 2) ∧ decode cX9_wax 9 = .ok (.ifnull 22, 3) ∧ decode cX9_wax 12 = .ok (.aload 4, 2) ∧ decode cX9_wax 14 = .ok (.iload_n 2, 1) ∧ decode cX9_wax 15 = .ok (.invokevirtual 82, 3) ∧ decode cX9_wax 18 = .ok (.ifCond .eq 13, 3) ∧ decode cX9_wax 21 = .ok (.iload_n 3, 1) ∧ decode cX9_wax 22 = .ok (.iconst 0, 1) ∧ decode cX9_wax 23 = .ok (.bipush 99, 2) ∧ decode cX9_wax 25 = .ok (.invokestatic 89, 3) ∧ decode cX9_wax 28 = .ok (.ifCond .ne 5, 3) ∧ decode cX9_wax 31 = .ok (.iconst 0, 1) ∧ decode cX9_wax 32 = .ok (.ireturn, 1) ∧ decode cX9_wax 33 = .ok (.aload 4, 2) ∧ decode cX9_wax 35 = .ok (.getfield 102, 3) ∧ decode cX9_wax 38 = .ok (.iload_n 2, 1) ∧ decode cX9_wax 39 = .ok (.iload_n 3, 1) ∧ decode cX9_wax 40 = .ok (.iastore, 1) ∧ decode cX9_wax 41 = .ok (.iconst 1, 1) ∧ decode cX9_wax 42 = .ok (.ireturn, 1) ∧ True := dqC_ok (c := cX9_wax) [(0, 1, some (.aload_n 0)), (1, 1, some (.iload_n 1)), (2, 3, some (.invokevirtual 78)), (5, 2, some (.astore 4)), (7, 2, some (.aload 4)), (9, 3, some (.ifnull 22)), (12, 2, some (.aload 4)), (14, 1, some (.iload_n 2)), (15, 3, some (.invokevirtual 82)), (18, 3, some (.ifCond .eq 13)), (21, 1, some (.iload_n 3)), (22, 1, some (.iconst 0)), (23, 2, some (.bipush 99)), (25, 3, some (.invokestatic 89)), (28, 3, some (.ifCond .ne 5)), (31, 1, some (.iconst 0)), (32, 1, some (.ireturn)), (33, 2, some (.aload 4)), (35, 3, some (.getfield 102)), (38, 1, some (.iload_n 2)), (39, 1, some (.iload_n 3)), (40, 1, some (.iastore)), (41, 1, some (.iconst 1)), (42, 1, some (.ireturn))] _ 0 rfl (by decide +kernel)
theorem dX9_wax_0 : decode cX9_wax 0 = .ok (.aload_n 0, 1) := dq_g147.1
theorem dX9_wax_1 : decode cX9_wax 1 = .ok (.iload_n 1, 1) := dq_g147.2.1
theorem dX9_wax_2 : decode cX9_wax 2 = .ok (.invokevirtual 78, 3) := dq_g147.2.2.1
theorem dX9_wax_5 : decode cX9_wax 5 = .ok (.astore 4, 2) := dq_g147.2.2.2.1
theorem dX9_wax_7 : decode cX9_wax 7 = .ok (.aload 4, 2) := dq_g147.2.2.2.2.1
theorem dX9_wax_9 : decode cX9_wax 9 = .ok (.ifnull 22, 3) := dq_g147.2.2.2.2.2.1
theorem dX9_wax_12 : decode cX9_wax 12 = .ok (.aload 4, 2) := dq_g147.2.2.2.2.2.2.1
theorem dX9_wax_14 : decode cX9_wax 14 = .ok (.iload_n 2, 1) := dq_g147.2.2.2.2.2.2.2.1
theorem dX9_wax_15 : decode cX9_wax 15 = .ok (.invokevirtual 82, 3) := dq_g147.2.2.2.2.2.2.2.2.1
theorem dX9_wax_18 : decode cX9_wax 18 = .ok (.ifCond .eq 13, 3) := dq_g147.2.2.2.2.2.2.2.2.2.1
theorem dX9_wax_21 : decode cX9_wax 21 = .ok (.iload_n 3, 1) := dq_g147.2.2.2.2.2.2.2.2.2.2.1
theorem dX9_wax_22 : decode cX9_wax 22 = .ok (.iconst 0, 1) := dq_g147.2.2.2.2.2.2.2.2.2.2.2.1
theorem dX9_wax_23 : decode cX9_wax 23 = .ok (.bipush 99, 2) := dq_g147.2.2.2.2.2.2.2.2.2.2.2.2.1
theorem dX9_wax_25 : decode cX9_wax 25 = .ok (.invokestatic 89, 3) := dq_g147.2.2.2.2.2.2.2.2.2.2.2.2.2.1
theorem dX9_wax_28 : decode cX9_wax 28 = .ok (.ifCond .ne 5, 3) := dq_g147.2.2.2.2.2.2.2.2.2.2.2.2.2.2.1
theorem dX9_wax_31 : decode cX9_wax 31 = .ok (.iconst 0, 1) := dq_g147.2.2.2.2.2.2.2.2.2.2.2.2.2.2.2.1
theorem dX9_wax_32 : decode cX9_wax 32 = .ok (.ireturn, 1) := dq_g147.2.2.2.2.2.2.2.2.2.2.2.2.2.2.2.2.1
theorem dX9_wax_33 : decode cX9_wax 33 = .ok (.aload 4, 2) := dq_g147.2.2.2.2.2.2.2.2.2.2.2.2.2.2.2.2.2.1
theorem dX9_wax_35 : decode cX9_wax 35 = .ok (.getfield 102, 3) := dq_g147.2.2.2.2.2.2.2.2.2.2.2.2.2.2.2.2.2.2.1
theorem dX9_wax_38 : decode cX9_wax 38 = .ok (.iload_n 2, 1) := dq_g147.2.2.2.2.2.2.2.2.2.2.2.2.2.2.2.2.2.2.2.1
theorem dX9_wax_39 : decode cX9_wax 39 = .ok (.iload_n 3, 1) := dq_g147.2.2.2.2.2.2.2.2.2.2.2.2.2.2.2.2.2.2.2.2.1
theorem dX9_wax_40 : decode cX9_wax 40 = .ok (.iastore, 1) := dq_g147.2.2.2.2.2.2.2.2.2.2.2.2.2.2.2.2.2.2.2.2.2.1
theorem dX9_wax_41 : decode cX9_wax 41 = .ok (.iconst 1, 1) := dq_g147.2.2.2.2.2.2.2.2.2.2.2.2.2.2.2.2.2.2.2.2.2.2.1
theorem dX9_wax_42 : decode cX9_wax 42 = .ok (.ireturn, 1) := dq_g147.2.2.2.2.2.2.2.2.2.2.2.2.2.2.2.2.2.2.2.2.2.2.2.1
theorem dq_g148 : decode cX9_of 0 = .ok (.aload_n 0, 1) ∧ decode cX9_of 1 = .ok (.iload_n 1, 1) ∧ decode cX9_of 2 = .ok (.invokevirtual 78, 3) ∧ decode cX9_of 5 = .ok (.astore 4, 2) ∧ decode cX9_of 7 = .ok (.aload 4, 2) ∧ decode cX9_of 9 = .ok (.ifnull 12, 3) ∧ decode cX9_of 12 = .ok (.aload 4, 2) ∧ decode cX9_of 14 = .ok (.iload_n 2, 1) ∧ decode cX9_of 15 = .ok (.invokevirtual 82, 3) ∧ decode cX9_of 18 = .ok (.ifCond .ne 5, 3) ∧ decode cX9_of 21 = .ok (.iconst (-1), 1) ∧ decode cX9_of 22 = .ok (.ireturn, 1) ∧ decode cX9_of 23 = .ok (.iload_n 3, 1) ∧ decode cX9_of 56 = .ok (.aload 4, 2) ∧ decode cX9_of 58 = .ok (.getfield 93, 3) ∧ decode cX9_of 61 = .ok (.iload_n 2, 1) ∧ decode cX9_of 62 = .ok (.iaload, 1) ∧ decode cX9_of 63 = .ok (.ireturn, 1) ∧ decode cX9_of 64 = .ok (.aload 4, 2) ∧ decode cX9_of 66 = .ok (.getfield 96, 3) ∧ decode cX9_of 69 = .ok (.iload_n 2, 1) ∧ decode cX9_of 70 = .ok (.iaload, 1) ∧ decode cX9_of 71 = .ok (.ireturn, 1) ∧ decode cX9_of 72 = .ok (.aload 4, 2) ∧ decode cX9_of 74 = .ok (.getfield 99, 3) ∧ decode cX9_of 77 = .ok (.iload_n 2, 1) ∧ decode cX9_of 78 = .ok (.iaload, 1) ∧ decode cX9_of 79 = .ok (.ireturn, 1) ∧ decode cX9_of 80 = .ok (.aload 4, 2) ∧ True := dqC_ok (c := cX9_of) [(0, 1, some (.aload_n 0)), (1, 1, some (.iload_n 1)), (2, 3, some (.invokevirtual 78)), (5, 2, some (.astore 4)), (7, 2, some (.aload 4)), (9, 3, some (.ifnull 12)), (12, 2, some (.aload 4)), (14, 1, some (.iload_n 2)), (15, 3, some (.invokevirtual 82)), (18, 3, some (.ifCond .ne 5)), (21, 1, some (.iconst (-1))), (22, 1, some (.ireturn)), (23, 1, some (.iload_n 3)), (24, 32, none), (56, 2, some (.aload 4)), (58, 3, some (.getfield 93)), (61, 1, some (.iload_n 2)), (62, 1, some (.iaload)), (63, 1, some (.ireturn)), (64, 2, some (.aload 4)), (66, 3, some (.getfield 96)), (69, 1, some (.iload_n 2)), (70, 1, some (.iaload)), (71, 1, some (.ireturn)), (72, 2, some (.aload 4)), (74, 3, some (.getfield 99)), (77, 1, some (.iload_n 2)), (78, 1, some (.iaload)), (79, 1, some (.ireturn)), (80, 2, some (.aload 4))] _ 0 rfl (by decide +kernel)
theorem dX9_of_0 : decode cX9_of 0 = .ok (.aload_n 0, 1) := dq_g148.1
theorem dX9_of_1 : decode cX9_of 1 = .ok (.iload_n 1, 1) := dq_g148.2.1
theorem dX9_of_2 : decode cX9_of 2 = .ok (.invokevirtual 78, 3) := dq_g148.2.2.1
theorem dX9_of_5 : decode cX9_of 5 = .ok (.astore 4, 2) := dq_g148.2.2.2.1
theorem dX9_of_7 : decode cX9_of 7 = .ok (.aload 4, 2) := dq_g148.2.2.2.2.1
theorem dX9_of_9 : decode cX9_of 9 = .ok (.ifnull 12, 3) := dq_g148.2.2.2.2.2.1
theorem dX9_of_12 : decode cX9_of 12 = .ok (.aload 4, 2) := dq_g148.2.2.2.2.2.2.1
theorem dX9_of_14 : decode cX9_of 14 = .ok (.iload_n 2, 1) := dq_g148.2.2.2.2.2.2.2.1
theorem dX9_of_15 : decode cX9_of 15 = .ok (.invokevirtual 82, 3) := dq_g148.2.2.2.2.2.2.2.2.1
theorem dX9_of_18 : decode cX9_of 18 = .ok (.ifCond .ne 5, 3) := dq_g148.2.2.2.2.2.2.2.2.2.1
theorem dX9_of_21 : decode cX9_of 21 = .ok (.iconst (-1), 1) := dq_g148.2.2.2.2.2.2.2.2.2.2.1
theorem dX9_of_22 : decode cX9_of 22 = .ok (.ireturn, 1) := dq_g148.2.2.2.2.2.2.2.2.2.2.2.1
theorem dX9_of_23 : decode cX9_of 23 = .ok (.iload_n 3, 1) := dq_g148.2.2.2.2.2.2.2.2.2.2.2.2.1
theorem dX9_of_56 : decode cX9_of 56 = .ok (.aload 4, 2) := dq_g148.2.2.2.2.2.2.2.2.2.2.2.2.2.1
theorem dX9_of_58 : decode cX9_of 58 = .ok (.getfield 93, 3) := dq_g148.2.2.2.2.2.2.2.2.2.2.2.2.2.2.1
theorem dX9_of_61 : decode cX9_of 61 = .ok (.iload_n 2, 1) := dq_g148.2.2.2.2.2.2.2.2.2.2.2.2.2.2.2.1
theorem dX9_of_62 : decode cX9_of 62 = .ok (.iaload, 1) := dq_g148.2.2.2.2.2.2.2.2.2.2.2.2.2.2.2.2.1
theorem dX9_of_63 : decode cX9_of 63 = .ok (.ireturn, 1) := dq_g148.2.2.2.2.2.2.2.2.2.2.2.2.2.2.2.2.2.1
theorem dX9_of_64 : decode cX9_of 64 = .ok (.aload 4, 2) := dq_g148.2.2.2.2.2.2.2.2.2.2.2.2.2.2.2.2.2.2.1
theorem dX9_of_66 : decode cX9_of 66 = .ok (.getfield 96, 3) := dq_g148.2.2.2.2.2.2.2.2.2.2.2.2.2.2.2.2.2.2.2.1
theorem dX9_of_69 : decode cX9_of 69 = .ok (.iload_n 2, 1) := dq_g148.2.2.2.2.2.2.2.2.2.2.2.2.2.2.2.2.2.2.2.2.1
theorem dX9_of_70 : decode cX9_of 70 = .ok (.iaload, 1) := dq_g148.2.2.2.2.2.2.2.2.2.2.2.2.2.2.2.2.2.2.2.2.2.1
theorem dX9_of_71 : decode cX9_of 71 = .ok (.ireturn, 1) := dq_g148.2.2.2.2.2.2.2.2.2.2.2.2.2.2.2.2.2.2.2.2.2.2.1
theorem dX9_of_72 : decode cX9_of 72 = .ok (.aload 4, 2) := dq_g148.2.2.2.2.2.2.2.2.2.2.2.2.2.2.2.2.2.2.2.2.2.2.2.1
theorem dX9_of_74 : decode cX9_of 74 = .ok (.getfield 99, 3) := dq_g148.2.2.2.2.2.2.2.2.2.2.2.2.2.2.2.2.2.2.2.2.2.2.2.2.1
theorem dX9_of_77 : decode cX9_of 77 = .ok (.iload_n 2, 1) := dq_g148.2.2.2.2.2.2.2.2.2.2.2.2.2.2.2.2.2.2.2.2.2.2.2.2.2.1
theorem dX9_of_78 : decode cX9_of 78 = .ok (.iaload, 1) := dq_g148.2.2.2.2.2.2.2.2.2.2.2.2.2.2.2.2.2.2.2.2.2.2.2.2.2.2.1
theorem dX9_of_79 : decode cX9_of 79 = .ok (.ireturn, 1) := dq_g148.2.2.2.2.2.2.2.2.2.2.2.2.2.2.2.2.2.2.2.2.2.2.2.2.2.2.2.1
theorem dX9_of_80 : decode cX9_of 80 = .ok (.aload 4, 2) := dq_g148.2.2.2.2.2.2.2.2.2.2.2.2.2.2.2.2.2.2.2.2.2.2.2.2.2.2.2.2.1
theorem dX9_of_24 : decode cX9_of 24 = .ok (.tableswitch 64 0 3 #[32, 40, 48, 56], 32) := by decide +kernel
theorem dq_g149 : decode cX9_of 82 = .ok (.getfield 102, 3) ∧ decode cX9_of 85 = .ok (.iload_n 2, 1) ∧ decode cX9_of 86 = .ok (.iaload, 1) ∧ decode cX9_of 87 = .ok (.ireturn, 1) ∧ decode cX9_of 88 = .ok (.iconst (-1), 1) ∧ decode cX9_of 89 = .ok (.ireturn, 1) ∧ True := dqC_ok (c := cX9_of) [(82, 3, some (.getfield 102)), (85, 1, some (.iload_n 2)), (86, 1, some (.iaload)), (87, 1, some (.ireturn)), (88, 1, some (.iconst (-1))), (89, 1, some (.ireturn))] _ 82 rfl (by decide +kernel)
theorem dX9_of_82 : decode cX9_of 82 = .ok (.getfield 102, 3) := dq_g149.1
theorem dX9_of_85 : decode cX9_of 85 = .ok (.iload_n 2, 1) := dq_g149.2.1
theorem dX9_of_86 : decode cX9_of 86 = .ok (.iaload, 1) := dq_g149.2.2.1
theorem dX9_of_87 : decode cX9_of 87 = .ok (.ireturn, 1) := dq_g149.2.2.2.1
theorem dX9_of_88 : decode cX9_of 88 = .ok (.iconst (-1), 1) := dq_g149.2.2.2.2.1
theorem dX9_of_89 : decode cX9_of 89 = .ok (.ireturn, 1) := dq_g149.2.2.2.2.2.1
theorem dq_g150 : decode cX9_feed 0 = .ok (.aload_n 0, 1) ∧ decode cX9_feed 1 = .ok (.getfield 105, 3) ∧ decode cX9_feed 4 = .ok (.bipush 20, 2) ∧ decode cX9_feed 6 = .ok (.iadd, 1) ∧ decode cX9_feed 7 = .ok (.sipush 500, 3) ∧ decode cX9_feed 10 = .ok (.if_icmp .le 5, 3) ∧ decode cX9_feed 13 = .ok (.iconst (-1), 1) ∧ decode cX9_feed 14 = .ok (.ireturn, 1) ∧ decode cX9_feed 15 = .ok (.aload_n 0, 1) ∧ decode cX9_feed 16 = .ok (.iload_n 1, 1) ∧ decode cX9_feed 17 = .ok (.invokevirtual 108, 3) ∧ decode cX9_feed 20 = .ok (.aload_n 0, 1) ∧ decode cX9_feed 21 = .ok (.iload_n 2, 1) ∧ decode cX9_feed 22 = .ok (.invokevirtual 108, 3) ∧ decode cX9_feed 25 = .ok (.aload_n 0, 1) ∧ decode cX9_feed 26 = .ok (.iload_n 3, 1) ∧ decode cX9_feed 27 = .ok (.invokevirtual 108, 3) ∧ decode cX9_feed 30 = .ok (.aload_n 0, 1) ∧ decode cX9_feed 31 = .ok (.iload 4, 2) ∧ decode cX9_feed 33 = .ok (.invokevirtual 108, 3) ∧ decode cX9_feed 36 = .ok (.aload_n 0, 1) ∧ decode cX9_feed 37 = .ok (.iload 5, 2) ∧ decode cX9_feed 39 = .ok (.invokevirtual 108, 3) ∧ decode cX9_feed 42 = .ok (.aload_n 0, 1) ∧ decode cX9_feed 43 = .ok (.getfield 105, 3) ∧ decode cX9_feed 46 = .ok (.ireturn, 1) ∧ True := dqC_ok (c := cX9_feed) [(0, 1, some (.aload_n 0)), (1, 3, some (.getfield 105)), (4, 2, some (.bipush 20)), (6, 1, some (.iadd)), (7, 3, some (.sipush 500)), (10, 3, some (.if_icmp .le 5)), (13, 1, some (.iconst (-1))), (14, 1, some (.ireturn)), (15, 1, some (.aload_n 0)), (16, 1, some (.iload_n 1)), (17, 3, some (.invokevirtual 108)), (20, 1, some (.aload_n 0)), (21, 1, some (.iload_n 2)), (22, 3, some (.invokevirtual 108)), (25, 1, some (.aload_n 0)), (26, 1, some (.iload_n 3)), (27, 3, some (.invokevirtual 108)), (30, 1, some (.aload_n 0)), (31, 2, some (.iload 4)), (33, 3, some (.invokevirtual 108)), (36, 1, some (.aload_n 0)), (37, 2, some (.iload 5)), (39, 3, some (.invokevirtual 108)), (42, 1, some (.aload_n 0)), (43, 3, some (.getfield 105)), (46, 1, some (.ireturn))] _ 0 rfl (by decide +kernel)
theorem dX9_feed_0 : decode cX9_feed 0 = .ok (.aload_n 0, 1) := dq_g150.1
theorem dX9_feed_1 : decode cX9_feed 1 = .ok (.getfield 105, 3) := dq_g150.2.1
theorem dX9_feed_4 : decode cX9_feed 4 = .ok (.bipush 20, 2) := dq_g150.2.2.1
theorem dX9_feed_6 : decode cX9_feed 6 = .ok (.iadd, 1) := dq_g150.2.2.2.1
theorem dX9_feed_7 : decode cX9_feed 7 = .ok (.sipush 500, 3) := dq_g150.2.2.2.2.1
theorem dX9_feed_10 : decode cX9_feed 10 = .ok (.if_icmp .le 5, 3) := dq_g150.2.2.2.2.2.1
theorem dX9_feed_13 : decode cX9_feed 13 = .ok (.iconst (-1), 1) := dq_g150.2.2.2.2.2.2.1
theorem dX9_feed_14 : decode cX9_feed 14 = .ok (.ireturn, 1) := dq_g150.2.2.2.2.2.2.2.1
theorem dX9_feed_15 : decode cX9_feed 15 = .ok (.aload_n 0, 1) := dq_g150.2.2.2.2.2.2.2.2.1
theorem dX9_feed_16 : decode cX9_feed 16 = .ok (.iload_n 1, 1) := dq_g150.2.2.2.2.2.2.2.2.2.1
theorem dX9_feed_17 : decode cX9_feed 17 = .ok (.invokevirtual 108, 3) := dq_g150.2.2.2.2.2.2.2.2.2.2.1
theorem dX9_feed_20 : decode cX9_feed 20 = .ok (.aload_n 0, 1) := dq_g150.2.2.2.2.2.2.2.2.2.2.2.1
theorem dX9_feed_21 : decode cX9_feed 21 = .ok (.iload_n 2, 1) := dq_g150.2.2.2.2.2.2.2.2.2.2.2.2.1
theorem dX9_feed_22 : decode cX9_feed 22 = .ok (.invokevirtual 108, 3) := dq_g150.2.2.2.2.2.2.2.2.2.2.2.2.2.1
theorem dX9_feed_25 : decode cX9_feed 25 = .ok (.aload_n 0, 1) := dq_g150.2.2.2.2.2.2.2.2.2.2.2.2.2.2.1
theorem dX9_feed_26 : decode cX9_feed 26 = .ok (.iload_n 3, 1) := dq_g150.2.2.2.2.2.2.2.2.2.2.2.2.2.2.2.1
theorem dX9_feed_27 : decode cX9_feed 27 = .ok (.invokevirtual 108, 3) := dq_g150.2.2.2.2.2.2.2.2.2.2.2.2.2.2.2.2.1
theorem dX9_feed_30 : decode cX9_feed 30 = .ok (.aload_n 0, 1) := dq_g150.2.2.2.2.2.2.2.2.2.2.2.2.2.2.2.2.2.1
theorem dX9_feed_31 : decode cX9_feed 31 = .ok (.iload 4, 2) := dq_g150.2.2.2.2.2.2.2.2.2.2.2.2.2.2.2.2.2.2.1
theorem dX9_feed_33 : decode cX9_feed 33 = .ok (.invokevirtual 108, 3) := dq_g150.2.2.2.2.2.2.2.2.2.2.2.2.2.2.2.2.2.2.2.1
theorem dX9_feed_36 : decode cX9_feed 36 = .ok (.aload_n 0, 1) := dq_g150.2.2.2.2.2.2.2.2.2.2.2.2.2.2.2.2.2.2.2.2.1
theorem dX9_feed_37 : decode cX9_feed 37 = .ok (.iload 5, 2) := dq_g150.2.2.2.2.2.2.2.2.2.2.2.2.2.2.2.2.2.2.2.2.2.1
theorem dX9_feed_39 : decode cX9_feed 39 = .ok (.invokevirtual 108, 3) := dq_g150.2.2.2.2.2.2.2.2.2.2.2.2.2.2.2.2.2.2.2.2.2.2.1
theorem dX9_feed_42 : decode cX9_feed 42 = .ok (.aload_n 0, 1) := dq_g150.2.2.2.2.2.2.2.2.2.2.2.2.2.2.2.2.2.2.2.2.2.2.2.1
theorem dX9_feed_43 : decode cX9_feed 43 = .ok (.getfield 105, 3) := dq_g150.2.2.2.2.2.2.2.2.2.2.2.2.2.2.2.2.2.2.2.2.2.2.2.2.1
theorem dX9_feed_46 : decode cX9_feed 46 = .ok (.ireturn, 1) := dq_g150.2.2.2.2.2.2.2.2.2.2.2.2.2.2.2.2.2.2.2.2.2.2.2.2.2.1
theorem dq_g151 : decode cX9_end 0 = .ok (.iload_n 1, 1) ∧ decode cX9_end 1 = .ok (.ifCond .lt 11, 3) ∧ decode cX9_end 4 = .ok (.iload_n 1, 1) ∧ decode cX9_end 5 = .ok (.aload_n 0, 1) ∧ decode cX9_end 6 = .ok (.getfield 105, 3) ∧ decode cX9_end 9 = .ok (.if_icmp .le 5, 3) ∧ decode cX9_end 12 = .ok (.iconst 0, 1) ∧ decode cX9_end 13 = .ok (.ireturn, 1) ∧ decode cX9_end 14 = .ok (.aload_n 0, 1) ∧ decode cX9_end 15 = .ok (.iload_n 1, 1) ∧ decode cX9_end 16 = .ok (.putfield 105, 3) ∧ decode cX9_end 19 = .ok (.iconst 1, 1) ∧ decode cX9_end 20 = .ok (.ireturn, 1) ∧ True := dqC_ok (c := cX9_end) [(0, 1, some (.iload_n 1)), (1, 3, some (.ifCond .lt 11)), (4, 1, some (.iload_n 1)), (5, 1, some (.aload_n 0)), (6, 3, some (.getfield 105)), (9, 3, some (.if_icmp .le 5)), (12, 1, some (.iconst 0)), (13, 1, some (.ireturn)), (14, 1, some (.aload_n 0)), (15, 1, some (.iload_n 1)), (16, 3, some (.putfield 105)), (19, 1, some (.iconst 1)), (20, 1, some (.ireturn))] _ 0 rfl (by decide +kernel)
theorem dX9_end_0 : decode cX9_end 0 = .ok (.iload_n 1, 1) := dq_g151.1
theorem dX9_end_1 : decode cX9_end 1 = .ok (.ifCond .lt 11, 3) := dq_g151.2.1
theorem dX9_end_4 : decode cX9_end 4 = .ok (.iload_n 1, 1) := dq_g151.2.2.1
theorem dX9_end_5 : decode cX9_end 5 = .ok (.aload_n 0, 1) := dq_g151.2.2.2.1
theorem dX9_end_6 : decode cX9_end 6 = .ok (.getfield 105, 3) := dq_g151.2.2.2.2.1
theorem dX9_end_9 : decode cX9_end 9 = .ok (.if_icmp .le 5, 3) := dq_g151.2.2.2.2.2.1
theorem dX9_end_12 : decode cX9_end 12 = .ok (.iconst 0, 1) := dq_g151.2.2.2.2.2.2.1
theorem dX9_end_13 : decode cX9_end 13 = .ok (.ireturn, 1) := dq_g151.2.2.2.2.2.2.2.1
theorem dX9_end_14 : decode cX9_end 14 = .ok (.aload_n 0, 1) := dq_g151.2.2.2.2.2.2.2.2.1
theorem dX9_end_15 : decode cX9_end 15 = .ok (.iload_n 1, 1) := dq_g151.2.2.2.2.2.2.2.2.2.1
theorem dX9_end_16 : decode cX9_end 16 = .ok (.putfield 105, 3) := dq_g151.2.2.2.2.2.2.2.2.2.2.1
theorem dX9_end_19 : decode cX9_end 19 = .ok (.iconst 1, 1) := dq_g151.2.2.2.2.2.2.2.2.2.2.2.1
theorem dX9_end_20 : decode cX9_end 20 = .ok (.ireturn, 1) := dq_g151.2.2.2.2.2.2.2.2.2.2.2.2.1
theorem dq_g152 : decode cX9_text 0 = .ok (.aload_n 0, 1) ∧ decode cX9_text 1 = .ok (.getfield 105, 3) ∧ decode cX9_text 4 = .ok (.istore_n 3, 1) ∧ decode cX9_text 5 = .ok (.aload_n 0, 1) ∧ decode cX9_text 6 = .ok (.iconst 0, 1) ∧ decode cX9_text 7 = .ok (.putfield 105, 3) ∧ decode cX9_text 10 = .ok (.aload_n 0, 1) ∧ decode cX9_text 11 = .ok (.getfield 12, 3) ∧ decode cX9_text 14 = .ok (.iconst 0, 1) ∧ decode cX9_text 15 = .ok (.putfield 111, 3) ∧ decode cX9_text 18 = .ok (.aload_n 0, 1) ∧ decode cX9_text 19 = .ok (.getfield 12, 3) ∧ decode cX9_text 22 = .ok (.iconst (-1), 1) ∧ decode cX9_text 23 = .ok (.putfield 114, 3) ∧ decode cX9_text 26 = .ok (.aload_n 0, 1) ∧ decode cX9_text 27 = .ok (.iload_n 1, 1) ∧ decode cX9_text 28 = .ok (.iload_n 2, 1) ∧ decode cX9_text 29 = .ok (.invokevirtual 117, 3) ∧ decode cX9_text 32 = .ok (.astore 4, 2) ∧ decode cX9_text 34 = .ok (.aload 4, 2) ∧ decode cX9_text 36 = .ok (.ifnonnull 5, 3) ∧ decode cX9_text 39 = .ok (.iconst (-1), 1) ∧ decode cX9_text 40 = .ok (.ireturn, 1) ∧ decode cX9_text 41 = .ok (.aload_n 0, 1) ∧ decode cX9_text 42 = .ok (.getfield 23, 3) ∧ decode cX9_text 45 = .ok (.aload_n 0, 1) ∧ decode cX9_text 46 = .ok (.getfield 16, 3) ∧ decode cX9_text 49 = .ok (.iload_n 3, 1) ∧ decode cX9_text 50 = .ok (.iload_n 1, 1) ∧ decode cX9_text 51 = .ok (.ifCond .ne 7, 3) ∧ True := dqC_ok (c := cX9_text) [(0, 1, some (.aload_n 0)), (1, 3, some (.getfield 105)), (4, 1, some (.istore_n 3)), (5, 1, some (.aload_n 0)), (6, 1, some (.iconst 0)), (7, 3, some (.putfield 105)), (10, 1, some (.aload_n 0)), (11, 3, some (.getfield 12)), (14, 1, some (.iconst 0)), (15, 3, some (.putfield 111)), (18, 1, some (.aload_n 0)), (19, 3, some (.getfield 12)), (22, 1, some (.iconst (-1))), (23, 3, some (.putfield 114)), (26, 1, some (.aload_n 0)), (27, 1, some (.iload_n 1)), (28, 1, some (.iload_n 2)), (29, 3, some (.invokevirtual 117)), (32, 2, some (.astore 4)), (34, 2, some (.aload 4)), (36, 3, some (.ifnonnull 5)), (39, 1, some (.iconst (-1))), (40, 1, some (.ireturn)), (41, 1, some (.aload_n 0)), (42, 3, some (.getfield 23)), (45, 1, some (.aload_n 0)), (46, 3, some (.getfield 16)), (49, 1, some (.iload_n 3)), (50, 1, some (.iload_n 1)), (51, 3, some (.ifCond .ne 7))] _ 0 rfl (by decide +kernel)
theorem dX9_text_0 : decode cX9_text 0 = .ok (.aload_n 0, 1) := dq_g152.1
theorem dX9_text_1 : decode cX9_text 1 = .ok (.getfield 105, 3) := dq_g152.2.1
theorem dX9_text_4 : decode cX9_text 4 = .ok (.istore_n 3, 1) := dq_g152.2.2.1
theorem dX9_text_5 : decode cX9_text 5 = .ok (.aload_n 0, 1) := dq_g152.2.2.2.1
theorem dX9_text_6 : decode cX9_text 6 = .ok (.iconst 0, 1) := dq_g152.2.2.2.2.1
theorem dX9_text_7 : decode cX9_text 7 = .ok (.putfield 105, 3) := dq_g152.2.2.2.2.2.1
theorem dX9_text_10 : decode cX9_text 10 = .ok (.aload_n 0, 1) := dq_g152.2.2.2.2.2.2.1
theorem dX9_text_11 : decode cX9_text 11 = .ok (.getfield 12, 3) := dq_g152.2.2.2.2.2.2.2.1
theorem dX9_text_14 : decode cX9_text 14 = .ok (.iconst 0, 1) := dq_g152.2.2.2.2.2.2.2.2.1
theorem dX9_text_15 : decode cX9_text 15 = .ok (.putfield 111, 3) := dq_g152.2.2.2.2.2.2.2.2.2.1
theorem dX9_text_18 : decode cX9_text 18 = .ok (.aload_n 0, 1) := dq_g152.2.2.2.2.2.2.2.2.2.2.1
theorem dX9_text_19 : decode cX9_text 19 = .ok (.getfield 12, 3) := dq_g152.2.2.2.2.2.2.2.2.2.2.2.1
theorem dX9_text_22 : decode cX9_text 22 = .ok (.iconst (-1), 1) := dq_g152.2.2.2.2.2.2.2.2.2.2.2.2.1
theorem dX9_text_23 : decode cX9_text 23 = .ok (.putfield 114, 3) := dq_g152.2.2.2.2.2.2.2.2.2.2.2.2.2.1
theorem dX9_text_26 : decode cX9_text 26 = .ok (.aload_n 0, 1) := dq_g152.2.2.2.2.2.2.2.2.2.2.2.2.2.2.1
theorem dX9_text_27 : decode cX9_text 27 = .ok (.iload_n 1, 1) := dq_g152.2.2.2.2.2.2.2.2.2.2.2.2.2.2.2.1
theorem dX9_text_28 : decode cX9_text 28 = .ok (.iload_n 2, 1) := dq_g152.2.2.2.2.2.2.2.2.2.2.2.2.2.2.2.2.1
theorem dX9_text_29 : decode cX9_text 29 = .ok (.invokevirtual 117, 3) := dq_g152.2.2.2.2.2.2.2.2.2.2.2.2.2.2.2.2.2.1
theorem dX9_text_32 : decode cX9_text 32 = .ok (.astore 4, 2) := dq_g152.2.2.2.2.2.2.2.2.2.2.2.2.2.2.2.2.2.2.1
theorem dX9_text_34 : decode cX9_text 34 = .ok (.aload 4, 2) := dq_g152.2.2.2.2.2.2.2.2.2.2.2.2.2.2.2.2.2.2.2.1
theorem dX9_text_36 : decode cX9_text 36 = .ok (.ifnonnull 5, 3) := dq_g152.2.2.2.2.2.2.2.2.2.2.2.2.2.2.2.2.2.2.2.2.1
theorem dX9_text_39 : decode cX9_text 39 = .ok (.iconst (-1), 1) := dq_g152.2.2.2.2.2.2.2.2.2.2.2.2.2.2.2.2.2.2.2.2.2.1
theorem dX9_text_40 : decode cX9_text 40 = .ok (.ireturn, 1) := dq_g152.2.2.2.2.2.2.2.2.2.2.2.2.2.2.2.2.2.2.2.2.2.2.1
theorem dX9_text_41 : decode cX9_text 41 = .ok (.aload_n 0, 1) := dq_g152.2.2.2.2.2.2.2.2.2.2.2.2.2.2.2.2.2.2.2.2.2.2.2.1
theorem dX9_text_42 : decode cX9_text 42 = .ok (.getfield 23, 3) := dq_g152.2.2.2.2.2.2.2.2.2.2.2.2.2.2.2.2.2.2.2.2.2.2.2.2.1
theorem dX9_text_45 : decode cX9_text 45 = .ok (.aload_n 0, 1) := dq_g152.2.2.2.2.2.2.2.2.2.2.2.2.2.2.2.2.2.2.2.2.2.2.2.2.2.1
theorem dX9_text_46 : decode cX9_text 46 = .ok (.getfield 16, 3) := dq_g152.2.2.2.2.2.2.2.2.2.2.2.2.2.2.2.2.2.2.2.2.2.2.2.2.2.2.1
theorem dX9_text_49 : decode cX9_text 49 = .ok (.iload_n 3, 1) := dq_g152.2.2.2.2.2.2.2.2.2.2.2.2.2.2.2.2.2.2.2.2.2.2.2.2.2.2.2.1
theorem dX9_text_50 : decode cX9_text 50 = .ok (.iload_n 1, 1) := dq_g152.2.2.2.2.2.2.2.2.2.2.2.2.2.2.2.2.2.2.2.2.2.2.2.2.2.2.2.2.1
theorem dX9_text_51 : decode cX9_text 51 = .ok (.ifCond .ne 7, 3) := dq_g152.2.2.2.2.2.2.2.2.2.2.2.2.2.2.2.2.2.2.2.2.2.2.2.2.2.2.2.2.2.1
theorem dq_g153 : decode cX9_text 54 = .ok (.iconst 1, 1) ∧ decode cX9_text 55 = .ok (.goto 4, 3) ∧ decode cX9_text 58 = .ok (.iconst 0, 1) ∧ decode cX9_text 59 = .ok (.invokevirtual 121, 3) ∧ decode cX9_text 62 = .ok (.iconst 0, 1) ∧ decode cX9_text 63 = .ok (.istore 5, 2) ∧ decode cX9_text 65 = .ok (.iload 5, 2) ∧ decode cX9_text 67 = .ok (.bipush 16, 2) ∧ decode cX9_text 69 = .ok (.if_icmp .gt 27, 3) ∧ decode cX9_text 72 = .ok (.aload_n 0, 1) ∧ decode cX9_text 73 = .ok (.getfield 23, 3) ∧ decode cX9_text 76 = .ok (.invokevirtual 125, 3) ∧ decode cX9_text 79 = .ok (.ifCond .eq 17, 3) ∧ decode cX9_text 82 = .ok (.aload_n 0, 1) ∧ decode cX9_text 83 = .ok (.getfield 23, 3) ∧ decode cX9_text 86 = .ok (.invokevirtual 129, 3) ∧ decode cX9_text 89 = .ok (.pop, 1) ∧ decode cX9_text 90 = .ok (.iinc 5 1, 3) ∧ decode cX9_text 93 = .ok (.goto (-28), 3) ∧ decode cX9_text 96 = .ok (.aload_n 0, 1) ∧ decode cX9_text 97 = .ok (.getfield 23, 3) ∧ decode cX9_text 100 = .ok (.getfield 132, 3) ∧ decode cX9_text 103 = .ok (.ifCond .eq 33, 3) ∧ decode cX9_text 106 = .ok (.aload_n 0, 1) ∧ decode cX9_text 107 = .ok (.getfield 12, 3) ∧ decode cX9_text 110 = .ok (.aload_n 0, 1) ∧ decode cX9_text 111 = .ok (.getfield 23, 3) ∧ decode cX9_text 114 = .ok (.getfield 132, 3) ∧ decode cX9_text 117 = .ok (.putfield 111, 3) ∧ decode cX9_text 120 = .ok (.aload_n 0, 1) ∧ True := dqC_ok (c := cX9_text) [(54, 1, some (.iconst 1)), (55, 3, some (.goto 4)), (58, 1, some (.iconst 0)), (59, 3, some (.invokevirtual 121)), (62, 1, some (.iconst 0)), (63, 2, some (.istore 5)), (65, 2, some (.iload 5)), (67, 2, some (.bipush 16)), (69, 3, some (.if_icmp .gt 27)), (72, 1, some (.aload_n 0)), (73, 3, some (.getfield 23)), (76, 3, some (.invokevirtual 125)), (79, 3, some (.ifCond .eq 17)), (82, 1, some (.aload_n 0)), (83, 3, some (.getfield 23)), (86, 3, some (.invokevirtual 129)), (89, 1, some (.pop)), (90, 3, some (.iinc 5 1)), (93, 3, some (.goto (-28))), (96, 1, some (.aload_n 0)), (97, 3, some (.getfield 23)), (100, 3, some (.getfield 132)), (103, 3, some (.ifCond .eq 33)), (106, 1, some (.aload_n 0)), (107, 3, some (.getfield 12)), (110, 1, some (.aload_n 0)), (111, 3, some (.getfield 23)), (114, 3, some (.getfield 132)), (117, 3, some (.putfield 111)), (120, 1, some (.aload_n 0))] _ 54 rfl (by decide +kernel)
theorem dX9_text_54 : decode cX9_text 54 = .ok (.iconst 1, 1) := dq_g153.1
theorem dX9_text_55 : decode cX9_text 55 = .ok (.goto 4, 3) := dq_g153.2.1
theorem dX9_text_58 : decode cX9_text 58 = .ok (.iconst 0, 1) := dq_g153.2.2.1
theorem dX9_text_59 : decode cX9_text 59 = .ok (.invokevirtual 121, 3) := dq_g153.2.2.2.1
theorem dX9_text_62 : decode cX9_text 62 = .ok (.iconst 0, 1) := dq_g153.2.2.2.2.1
theorem dX9_text_63 : decode cX9_text 63 = .ok (.istore 5, 2) := dq_g153.2.2.2.2.2.1
theorem dX9_text_65 : decode cX9_text 65 = .ok (.iload 5, 2) := dq_g153.2.2.2.2.2.2.1
theorem dX9_text_67 : decode cX9_text 67 = .ok (.bipush 16, 2) := dq_g153.2.2.2.2.2.2.2.1
theorem dX9_text_69 : decode cX9_text 69 = .ok (.if_icmp .gt 27, 3) := dq_g153.2.2.2.2.2.2.2.2.1
theorem dX9_text_72 : decode cX9_text 72 = .ok (.aload_n 0, 1) := dq_g153.2.2.2.2.2.2.2.2.2.1
theorem dX9_text_73 : decode cX9_text 73 = .ok (.getfield 23, 3) := dq_g153.2.2.2.2.2.2.2.2.2.2.1
theorem dX9_text_76 : decode cX9_text 76 = .ok (.invokevirtual 125, 3) := dq_g153.2.2.2.2.2.2.2.2.2.2.2.1
theorem dX9_text_79 : decode cX9_text 79 = .ok (.ifCond .eq 17, 3) := dq_g153.2.2.2.2.2.2.2.2.2.2.2.2.1
theorem dX9_text_82 : decode cX9_text 82 = .ok (.aload_n 0, 1) := dq_g153.2.2.2.2.2.2.2.2.2.2.2.2.2.1
theorem dX9_text_83 : decode cX9_text 83 = .ok (.getfield 23, 3) := dq_g153.2.2.2.2.2.2.2.2.2.2.2.2.2.2.1
theorem dX9_text_86 : decode cX9_text 86 = .ok (.invokevirtual 129, 3) := dq_g153.2.2.2.2.2.2.2.2.2.2.2.2.2.2.2.1
theorem dX9_text_89 : decode cX9_text 89 = .ok (.pop, 1) := dq_g153.2.2.2.2.2.2.2.2.2.2.2.2.2.2.2.2.1
theorem dX9_text_90 : decode cX9_text 90 = .ok (.iinc 5 1, 3) := dq_g153.2.2.2.2.2.2.2.2.2.2.2.2.2.2.2.2.2.1
theorem dX9_text_93 : decode cX9_text 93 = .ok (.goto (-28), 3) := dq_g153.2.2.2.2.2.2.2.2.2.2.2.2.2.2.2.2.2.2.1
theorem dX9_text_96 : decode cX9_text 96 = .ok (.aload_n 0, 1) := dq_g153.2.2.2.2.2.2.2.2.2.2.2.2.2.2.2.2.2.2.2.1
theorem dX9_text_97 : decode cX9_text 97 = .ok (.getfield 23, 3) := dq_g153.2.2.2.2.2.2.2.2.2.2.2.2.2.2.2.2.2.2.2.2.1
theorem dX9_text_100 : decode cX9_text 100 = .ok (.getfield 132, 3) := dq_g153.2.2.2.2.2.2.2.2.2.2.2.2.2.2.2.2.2.2.2.2.2.1
theorem dX9_text_103 : decode cX9_text 103 = .ok (.ifCond .eq 33, 3) := dq_g153.2.2.2.2.2.2.2.2.2.2.2.2.2.2.2.2.2.2.2.2.2.2.1
theorem dX9_text_106 : decode cX9_text 106 = .ok (.aload_n 0, 1) := dq_g153.2.2.2.2.2.2.2.2.2.2.2.2.2.2.2.2.2.2.2.2.2.2.2.1
theorem dX9_text_107 : decode cX9_text 107 = .ok (.getfield 12, 3) := dq_g153.2.2.2.2.2.2.2.2.2.2.2.2.2.2.2.2.2.2.2.2.2.2.2.2.1
theorem dX9_text_110 : decode cX9_text 110 = .ok (.aload_n 0, 1) := dq_g153.2.2.2.2.2.2.2.2.2.2.2.2.2.2.2.2.2.2.2.2.2.2.2.2.2.1
theorem dX9_text_111 : decode cX9_text 111 = .ok (.getfield 23, 3) := dq_g153.2.2.2.2.2.2.2.2.2.2.2.2.2.2.2.2.2.2.2.2.2.2.2.2.2.2.1
theorem dX9_text_114 : decode cX9_text 114 = .ok (.getfield 132, 3) := dq_g153.2.2.2.2.2.2.2.2.2.2.2.2.2.2.2.2.2.2.2.2.2.2.2.2.2.2.2.1
theorem dX9_text_117 : decode cX9_text 117 = .ok (.putfield 111, 3) := dq_g153.2.2.2.2.2.2.2.2.2.2.2.2.2.2.2.2.2.2.2.2.2.2.2.2.2.2.2.2.1
theorem dX9_text_120 : decode cX9_text 120 = .ok (.aload_n 0, 1) := dq_g153.2.2.2.2.2.2.2.2.2.2.2.2.2.2.2.2.2.2.2.2.2.2.2.2.2.2.2.2.2.1
theorem dq_g154 : decode cX9_text 121 = .ok (.getfield 12, 3) ∧ decode cX9_text 124 = .ok (.aload_n 0, 1) ∧ decode cX9_text 125 = .ok (.getfield 23, 3) ∧ decode cX9_text 128 = .ok (.getfield 133, 3) ∧ decode cX9_text 131 = .ok (.putfield 114, 3) ∧ decode cX9_text 134 = .ok (.iconst (-1), 1) ∧ decode cX9_text 135 = .ok (.ireturn, 1) ∧ decode cX9_text 136 = .ok (.aload 4, 2) ∧ decode cX9_text 138 = .ok (.aload_n 0, 1) ∧ decode cX9_text 139 = .ok (.getfield 23, 3) ∧ decode cX9_text 142 = .ok (.getfield 134, 3) ∧ decode cX9_text 145 = .ok (.invokevirtual 138, 3) ∧ decode cX9_text 148 = .ok (.aload 4, 2) ∧ decode cX9_text 150 = .ok (.getfield 144, 3) ∧ decode cX9_text 153 = .ok (.ireturn, 1) ∧ True := dqC_ok (c := cX9_text) [(121, 3, some (.getfield 12)), (124, 1, some (.aload_n 0)), (125, 3, some (.getfield 23)), (128, 3, some (.getfield 133)), (131, 3, some (.putfield 114)), (134, 1, some (.iconst (-1))), (135, 1, some (.ireturn)), (136, 2, some (.aload 4)), (138, 1, some (.aload_n 0)), (139, 3, some (.getfield 23)), (142, 3, some (.getfield 134)), (145, 3, some (.invokevirtual 138)), (148, 2, some (.aload 4)), (150, 3, some (.getfield 144)), (153, 1, some (.ireturn))] _ 121 rfl (by decide +kernel)
theorem dX9_text_121 : decode cX9_text 121 = .ok (.getfield 12, 3) := dq_g154.1
theorem dX9_text_124 : decode cX9_text 124 = .ok (.aload_n 0, 1) := dq_g154.2.1
theorem dX9_text_125 : decode cX9_text 125 = .ok (.getfield 23, 3) := dq_g154.2.2.1
theorem dX9_text_128 : decode cX9_text 128 = .ok (.getfield 133, 3) := dq_g154.2.2.2.1
theorem dX9_text_131 : decode cX9_text 131 = .ok (.putfield 114, 3) := dq_g154.2.2.2.2.1
theorem dX9_text_134 : decode cX9_text 134 = .ok (.iconst (-1), 1) := dq_g154.2.2.2.2.2.1
theorem dX9_text_135 : decode cX9_text 135 = .ok (.ireturn, 1) := dq_g154.2.2.2.2.2.2.1
theorem dX9_text_136 : decode cX9_text 136 = .ok (.aload 4, 2) := dq_g154.2.2.2.2.2.2.2.1
theorem dX9_text_138 : decode cX9_text 138 = .ok (.aload_n 0, 1) := dq_g154.2.2.2.2.2.2.2.2.1
theorem dX9_text_139 : decode cX9_text 139 = .ok (.getfield 23, 3) := dq_g154.2.2.2.2.2.2.2.2.2.1
theorem dX9_text_142 : decode cX9_text 142 = .ok (.getfield 134, 3) := dq_g154.2.2.2.2.2.2.2.2.2.2.1
theorem dX9_text_145 : decode cX9_text 145 = .ok (.invokevirtual 138, 3) := dq_g154.2.2.2.2.2.2.2.2.2.2.2.1
theorem dX9_text_148 : decode cX9_text 148 = .ok (.aload 4, 2) := dq_g154.2.2.2.2.2.2.2.2.2.2.2.2.1
theorem dX9_text_150 : decode cX9_text 150 = .ok (.getfield 144, 3) := dq_g154.2.2.2.2.2.2.2.2.2.2.2.2.2.1
theorem dX9_text_153 : decode cX9_text 153 = .ok (.ireturn, 1) := dq_g154.2.2.2.2.2.2.2.2.2.2.2.2.2.2.1
theorem dq_g155 : decode cX9_fault 0 = .ok (.iload_n 1, 1) ∧ decode cX9_fault 28 = .ok (.aload_n 0, 1) ∧ decode cX9_fault 29 = .ok (.getfield 12, 3) ∧ decode cX9_fault 32 = .ok (.getfield 111, 3) ∧ decode cX9_fault 35 = .ok (.ireturn, 1) ∧ decode cX9_fault 36 = .ok (.aload_n 0, 1) ∧ decode cX9_fault 37 = .ok (.getfield 12, 3) ∧ decode cX9_fault 40 = .ok (.getfield 114, 3) ∧ decode cX9_fault 43 = .ok (.ireturn, 1) ∧ decode cX9_fault 44 = .ok (.iconst (-1), 1) ∧ decode cX9_fault 45 = .ok (.ireturn, 1) ∧ True := dqC_ok (c := cX9_fault) [(0, 1, some (.iload_n 1)), (1, 27, none), (28, 1, some (.aload_n 0)), (29, 3, some (.getfield 12)), (32, 3, some (.getfield 111)), (35, 1, some (.ireturn)), (36, 1, some (.aload_n 0)), (37, 3, some (.getfield 12)), (40, 3, some (.getfield 114)), (43, 1, some (.ireturn)), (44, 1, some (.iconst (-1))), (45, 1, some (.ireturn))] _ 0 rfl (by decide +kernel)
theorem dX9_fault_0 : decode cX9_fault 0 = .ok (.iload_n 1, 1) := dq_g155.1
theorem dX9_fault_28 : decode cX9_fault 28 = .ok (.aload_n 0, 1) := dq_g155.2.1
theorem dX9_fault_29 : decode cX9_fault 29 = .ok (.getfield 12, 3) := dq_g155.2.2.1
theorem dX9_fault_32 : decode cX9_fault 32 = .ok (.getfield 111, 3) := dq_g155.2.2.2.1
theorem dX9_fault_35 : decode cX9_fault 35 = .ok (.ireturn, 1) := dq_g155.2.2.2.2.1
theorem dX9_fault_36 : decode cX9_fault 36 = .ok (.aload_n 0, 1) := dq_g155.2.2.2.2.2.1
theorem dX9_fault_37 : decode cX9_fault 37 = .ok (.getfield 12, 3) := dq_g155.2.2.2.2.2.2.1
theorem dX9_fault_40 : decode cX9_fault 40 = .ok (.getfield 114, 3) := dq_g155.2.2.2.2.2.2.2.1
theorem dX9_fault_43 : decode cX9_fault 43 = .ok (.ireturn, 1) := dq_g155.2.2.2.2.2.2.2.2.1
theorem dX9_fault_44 : decode cX9_fault 44 = .ok (.iconst (-1), 1) := dq_g155.2.2.2.2.2.2.2.2.2.1
theorem dX9_fault_45 : decode cX9_fault 45 = .ok (.ireturn, 1) := dq_g155.2.2.2.2.2.2.2.2.2.2.1
theorem dX9_fault_1 : decode cX9_fault 1 = .ok (.lookupswitch 43 #[(0, 27), (1, 35)], 27) := by decide +kernel
theorem dq_g156 : decode cX9_force 0 = .ok (.iload_n 1, 1) ∧ decode cX9_force 1 = .ok (.iconst 0, 1) ∧ decode cX9_force 2 = .ok (.iconst 1, 1) ∧ decode cX9_force 3 = .ok (.invokestatic 89, 3) ∧ decode cX9_force 6 = .ok (.ifCond .ne 5, 3) ∧ decode cX9_force 9 = .ok (.iconst (-1), 1) ∧ decode cX9_force 10 = .ok (.ireturn, 1) ∧ decode cX9_force 11 = .ok (.aload_n 0, 1) ∧ decode cX9_force 12 = .ok (.getfield 12, 3) ∧ decode cX9_force 15 = .ok (.getfield 147, 3) ∧ decode cX9_force 18 = .ok (.istore_n 2, 1) ∧ decode cX9_force 19 = .ok (.aload_n 0, 1) ∧ decode cX9_force 20 = .ok (.getfield 12, 3) ∧ decode cX9_force 23 = .ok (.iload_n 1, 1) ∧ decode cX9_force 24 = .ok (.putfield 147, 3) ∧ decode cX9_force 27 = .ok (.iload_n 2, 1) ∧ decode cX9_force 28 = .ok (.ireturn, 1) ∧ True := dqC_ok (c := cX9_force) [(0, 1, some (.iload_n 1)), (1, 1, some (.iconst 0)), (2, 1, some (.iconst 1)), (3, 3, some (.invokestatic 89)), (6, 3, some (.ifCond .ne 5)), (9, 1, some (.iconst (-1))), (10, 1, some (.ireturn)), (11, 1, some (.aload_n 0)), (12, 3, some (.getfield 12)), (15, 3, some (.getfield 147)), (18, 1, some (.istore_n 2)), (19, 1, some (.aload_n 0)), (20, 3, some (.getfield 12)), (23, 1, some (.iload_n 1)), (24, 3, some (.putfield 147)), (27, 1, some (.iload_n 2)), (28, 1, some (.ireturn))] _ 0 rfl (by decide +kernel)
theorem dX9_force_0 : decode cX9_force 0 = .ok (.iload_n 1, 1) := dq_g156.1
theorem dX9_force_1 : decode cX9_force 1 = .ok (.iconst 0, 1) := dq_g156.2.1
theorem dX9_force_2 : decode cX9_force 2 = .ok (.iconst 1, 1) := dq_g156.2.2.1
theorem dX9_force_3 : decode cX9_force 3 = .ok (.invokestatic 89, 3) := dq_g156.2.2.2.1
theorem dX9_force_6 : decode cX9_force 6 = .ok (.ifCond .ne 5, 3) := dq_g156.2.2.2.2.1
theorem dX9_force_9 : decode cX9_force 9 = .ok (.iconst (-1), 1) := dq_g156.2.2.2.2.2.1
theorem dX9_force_10 : decode cX9_force 10 = .ok (.ireturn, 1) := dq_g156.2.2.2.2.2.2.1
theorem dX9_force_11 : decode cX9_force 11 = .ok (.aload_n 0, 1) := dq_g156.2.2.2.2.2.2.2.1
theorem dX9_force_12 : decode cX9_force 12 = .ok (.getfield 12, 3) := dq_g156.2.2.2.2.2.2.2.2.1
theorem dX9_force_15 : decode cX9_force 15 = .ok (.getfield 147, 3) := dq_g156.2.2.2.2.2.2.2.2.2.1
theorem dX9_force_18 : decode cX9_force 18 = .ok (.istore_n 2, 1) := dq_g156.2.2.2.2.2.2.2.2.2.2.1
theorem dX9_force_19 : decode cX9_force 19 = .ok (.aload_n 0, 1) := dq_g156.2.2.2.2.2.2.2.2.2.2.2.1
theorem dX9_force_20 : decode cX9_force 20 = .ok (.getfield 12, 3) := dq_g156.2.2.2.2.2.2.2.2.2.2.2.2.1
theorem dX9_force_23 : decode cX9_force 23 = .ok (.iload_n 1, 1) := dq_g156.2.2.2.2.2.2.2.2.2.2.2.2.2.1
theorem dX9_force_24 : decode cX9_force 24 = .ok (.putfield 147, 3) := dq_g156.2.2.2.2.2.2.2.2.2.2.2.2.2.2.1
theorem dX9_force_27 : decode cX9_force 27 = .ok (.iload_n 2, 1) := dq_g156.2.2.2.2.2.2.2.2.2.2.2.2.2.2.2.1
theorem dX9_force_28 : decode cX9_force 28 = .ok (.ireturn, 1) := dq_g156.2.2.2.2.2.2.2.2.2.2.2.2.2.2.2.2.1
theorem dq_g157 : decode cX9_tells 0 = .ok (.aload_n 0, 1) ∧ decode cX9_tells 1 = .ok (.iload 4, 2) ∧ decode cX9_tells 3 = .ok (.invokevirtual 78, 3) ∧ decode cX9_tells 6 = .ok (.astore 6, 2) ∧ decode cX9_tells 8 = .ok (.aload 6, 2) ∧ decode cX9_tells 10 = .ok (.ifnull 38, 3) ∧ decode cX9_tells 13 = .ok (.aload 6, 2) ∧ decode cX9_tells 15 = .ok (.iload 5, 2) ∧ decode cX9_tells 17 = .ok (.invokevirtual 82, 3) ∧ decode cX9_tells 20 = .ok (.ifCond .eq 28, 3) ∧ decode cX9_tells 23 = .ok (.iload_n 1, 1) ∧ decode cX9_tells 24 = .ok (.iconst 0, 1) ∧ decode cX9_tells 25 = .ok (.iconst 1, 1) ∧ decode cX9_tells 26 = .ok (.invokestatic 89, 3) ∧ decode cX9_tells 29 = .ok (.ifCond .eq 19, 3) ∧ decode cX9_tells 32 = .ok (.iload_n 2, 1) ∧ decode cX9_tells 33 = .ok (.iconst 0, 1) ∧ decode cX9_tells 34 = .ok (.iconst 2, 1) ∧ decode cX9_tells 35 = .ok (.invokestatic 89, 3) ∧ decode cX9_tells 38 = .ok (.ifCond .eq 10, 3) ∧ decode cX9_tells 41 = .ok (.iload_n 3, 1) ∧ decode cX9_tells 42 = .ok (.invokestatic 150, 3) ∧ decode cX9_tells 45 = .ok (.ifCond .ne 6, 3) ∧ decode cX9_tells 48 = .ok (.ldc 153, 2) ∧ decode cX9_tells 50 = .ok (.ireturn, 1) ∧ decode cX9_tells 51 = .ok (.aload_n 0, 1) ∧ decode cX9_tells 52 = .ok (.getfield 30, 3) ∧ decode cX9_tells 55 = .ok (.aload 6, 2) ∧ decode cX9_tells 57 = .ok (.iload 5, 2) ∧ decode cX9_tells 59 = .ok (.aload 6, 2) ∧ True := dqC_ok (c := cX9_tells) [(0, 1, some (.aload_n 0)), (1, 2, some (.iload 4)), (3, 3, some (.invokevirtual 78)), (6, 2, some (.astore 6)), (8, 2, some (.aload 6)), (10, 3, some (.ifnull 38)), (13, 2, some (.aload 6)), (15, 2, some (.iload 5)), (17, 3, some (.invokevirtual 82)), (20, 3, some (.ifCond .eq 28)), (23, 1, some (.iload_n 1)), (24, 1, some (.iconst 0)), (25, 1, some (.iconst 1)), (26, 3, some (.invokestatic 89)), (29, 3, some (.ifCond .eq 19)), (32, 1, some (.iload_n 2)), (33, 1, some (.iconst 0)), (34, 1, some (.iconst 2)), (35, 3, some (.invokestatic 89)), (38, 3, some (.ifCond .eq 10)), (41, 1, some (.iload_n 3)), (42, 3, some (.invokestatic 150)), (45, 3, some (.ifCond .ne 6)), (48, 2, some (.ldc 153)), (50, 1, some (.ireturn)), (51, 1, some (.aload_n 0)), (52, 3, some (.getfield 30)), (55, 2, some (.aload 6)), (57, 2, some (.iload 5)), (59, 2, some (.aload 6))] _ 0 rfl (by decide +kernel)
theorem dX9_tells_0 : decode cX9_tells 0 = .ok (.aload_n 0, 1) := dq_g157.1
theorem dX9_tells_1 : decode cX9_tells 1 = .ok (.iload 4, 2) := dq_g157.2.1
theorem dX9_tells_3 : decode cX9_tells 3 = .ok (.invokevirtual 78, 3) := dq_g157.2.2.1
theorem dX9_tells_6 : decode cX9_tells 6 = .ok (.astore 6, 2) := dq_g157.2.2.2.1
theorem dX9_tells_8 : decode cX9_tells 8 = .ok (.aload 6, 2) := dq_g157.2.2.2.2.1
theorem dX9_tells_10 : decode cX9_tells 10 = .ok (.ifnull 38, 3) := dq_g157.2.2.2.2.2.1
theorem dX9_tells_13 : decode cX9_tells 13 = .ok (.aload 6, 2) := dq_g157.2.2.2.2.2.2.1
theorem dX9_tells_15 : decode cX9_tells 15 = .ok (.iload 5, 2) := dq_g157.2.2.2.2.2.2.2.1
theorem dX9_tells_17 : decode cX9_tells 17 = .ok (.invokevirtual 82, 3) := dq_g157.2.2.2.2.2.2.2.2.1
theorem dX9_tells_20 : decode cX9_tells 20 = .ok (.ifCond .eq 28, 3) := dq_g157.2.2.2.2.2.2.2.2.2.1
theorem dX9_tells_23 : decode cX9_tells 23 = .ok (.iload_n 1, 1) := dq_g157.2.2.2.2.2.2.2.2.2.2.1
theorem dX9_tells_24 : decode cX9_tells 24 = .ok (.iconst 0, 1) := dq_g157.2.2.2.2.2.2.2.2.2.2.2.1
theorem dX9_tells_25 : decode cX9_tells 25 = .ok (.iconst 1, 1) := dq_g157.2.2.2.2.2.2.2.2.2.2.2.2.1
theorem dX9_tells_26 : decode cX9_tells 26 = .ok (.invokestatic 89, 3) := dq_g157.2.2.2.2.2.2.2.2.2.2.2.2.2.1
theorem dX9_tells_29 : decode cX9_tells 29 = .ok (.ifCond .eq 19, 3) := dq_g157.2.2.2.2.2.2.2.2.2.2.2.2.2.2.1
theorem dX9_tells_32 : decode cX9_tells 32 = .ok (.iload_n 2, 1) := dq_g157.2.2.2.2.2.2.2.2.2.2.2.2.2.2.2.1
theorem dX9_tells_33 : decode cX9_tells 33 = .ok (.iconst 0, 1) := dq_g157.2.2.2.2.2.2.2.2.2.2.2.2.2.2.2.2.1
theorem dX9_tells_34 : decode cX9_tells 34 = .ok (.iconst 2, 1) := dq_g157.2.2.2.2.2.2.2.2.2.2.2.2.2.2.2.2.2.1
theorem dX9_tells_35 : decode cX9_tells 35 = .ok (.invokestatic 89, 3) := dq_g157.2.2.2.2.2.2.2.2.2.2.2.2.2.2.2.2.2.2.1
theorem dX9_tells_38 : decode cX9_tells 38 = .ok (.ifCond .eq 10, 3) := dq_g157.2.2.2.2.2.2.2.2.2.2.2.2.2.2.2.2.2.2.2.1
theorem dX9_tells_41 : decode cX9_tells 41 = .ok (.iload_n 3, 1) := dq_g157.2.2.2.2.2.2.2.2.2.2.2.2.2.2.2.2.2.2.2.2.1
theorem dX9_tells_42 : decode cX9_tells 42 = .ok (.invokestatic 150, 3) := dq_g157.2.2.2.2.2.2.2.2.2.2.2.2.2.2.2.2.2.2.2.2.2.1
theorem dX9_tells_45 : decode cX9_tells 45 = .ok (.ifCond .ne 6, 3) := dq_g157.2.2.2.2.2.2.2.2.2.2.2.2.2.2.2.2.2.2.2.2.2.2.1
theorem dX9_tells_48 : decode cX9_tells 48 = .ok (.ldc 153, 2) := dq_g157.2.2.2.2.2.2.2.2.2.2.2.2.2.2.2.2.2.2.2.2.2.2.2.1
theorem dX9_tells_50 : decode cX9_tells 50 = .ok (.ireturn, 1) := dq_g157.2.2.2.2.2.2.2.2.2.2.2.2.2.2.2.2.2.2.2.2.2.2.2.2.1
theorem dX9_tells_51 : decode cX9_tells 51 = .ok (.aload_n 0, 1) := dq_g157.2.2.2.2.2.2.2.2.2.2.2.2.2.2.2.2.2.2.2.2.2.2.2.2.2.1
theorem dX9_tells_52 : decode cX9_tells 52 = .ok (.getfield 30, 3) := dq_g157.2.2.2.2.2.2.2.2.2.2.2.2.2.2.2.2.2.2.2.2.2.2.2.2.2.2.1
theorem dX9_tells_55 : decode cX9_tells 55 = .ok (.aload 6, 2) := dq_g157.2.2.2.2.2.2.2.2.2.2.2.2.2.2.2.2.2.2.2.2.2.2.2.2.2.2.2.1
theorem dX9_tells_57 : decode cX9_tells 57 = .ok (.iload 5, 2) := dq_g157.2.2.2.2.2.2.2.2.2.2.2.2.2.2.2.2.2.2.2.2.2.2.2.2.2.2.2.2.1
theorem dX9_tells_59 : decode cX9_tells 59 = .ok (.aload 6, 2) := dq_g157.2.2.2.2.2.2.2.2.2.2.2.2.2.2.2.2.2.2.2.2.2.2.2.2.2.2.2.2.2.1
theorem dq_g158 : decode cX9_tells 61 = .ok (.getfield 93, 3) ∧ decode cX9_tells 64 = .ok (.iload 5, 2) ∧ decode cX9_tells 66 = .ok (.iaload, 1) ∧ decode cX9_tells 67 = .ok (.aload 6, 2) ∧ decode cX9_tells 69 = .ok (.getfield 96, 3) ∧ decode cX9_tells 72 = .ok (.iload 5, 2) ∧ decode cX9_tells 74 = .ok (.iaload, 1) ∧ decode cX9_tells 75 = .ok (.aload 6, 2) ∧ decode cX9_tells 77 = .ok (.getfield 102, 3) ∧ decode cX9_tells 80 = .ok (.iload 5, 2) ∧ decode cX9_tells 82 = .ok (.iaload, 1) ∧ decode cX9_tells 83 = .ok (.invokevirtual 154, 3) ∧ decode cX9_tells 86 = .ok (.aload_n 0, 1) ∧ decode cX9_tells 87 = .ok (.getfield 30, 3) ∧ decode cX9_tells 90 = .ok (.aload_n 0, 1) ∧ decode cX9_tells 91 = .ok (.getfield 12, 3) ∧ decode cX9_tells 94 = .ok (.getfield 158, 3) ∧ decode cX9_tells 97 = .ok (.iload_n 1, 1) ∧ decode cX9_tells 98 = .ok (.aaload, 1) ∧ decode cX9_tells 99 = .ok (.iload_n 2, 1) ∧ decode cX9_tells 100 = .ok (.iload_n 3, 1) ∧ decode cX9_tells 101 = .ok (.invokevirtual 162, 3) ∧ decode cX9_tells 104 = .ok (.ireturn, 1) ∧ True := dqC_ok (c := cX9_tells) [(61, 3, some (.getfield 93)), (64, 2, some (.iload 5)), (66, 1, some (.iaload)), (67, 2, some (.aload 6)), (69, 3, some (.getfield 96)), (72, 2, some (.iload 5)), (74, 1, some (.iaload)), (75, 2, some (.aload 6)), (77, 3, some (.getfield 102)), (80, 2, some (.iload 5)), (82, 1, some (.iaload)), (83, 3, some (.invokevirtual 154)), (86, 1, some (.aload_n 0)), (87, 3, some (.getfield 30)), (90, 1, some (.aload_n 0)), (91, 3, some (.getfield 12)), (94, 3, some (.getfield 158)), (97, 1, some (.iload_n 1)), (98, 1, some (.aaload)), (99, 1, some (.iload_n 2)), (100, 1, some (.iload_n 3)), (101, 3, some (.invokevirtual 162)), (104, 1, some (.ireturn))] _ 61 rfl (by decide +kernel)
theorem dX9_tells_61 : decode cX9_tells 61 = .ok (.getfield 93, 3) := dq_g158.1
theorem dX9_tells_64 : decode cX9_tells 64 = .ok (.iload 5, 2) := dq_g158.2.1
theorem dX9_tells_66 : decode cX9_tells 66 = .ok (.iaload, 1) := dq_g158.2.2.1
theorem dX9_tells_67 : decode cX9_tells 67 = .ok (.aload 6, 2) := dq_g158.2.2.2.1
theorem dX9_tells_69 : decode cX9_tells 69 = .ok (.getfield 96, 3) := dq_g158.2.2.2.2.1
theorem dX9_tells_72 : decode cX9_tells 72 = .ok (.iload 5, 2) := dq_g158.2.2.2.2.2.1
theorem dX9_tells_74 : decode cX9_tells 74 = .ok (.iaload, 1) := dq_g158.2.2.2.2.2.2.1
theorem dX9_tells_75 : decode cX9_tells 75 = .ok (.aload 6, 2) := dq_g158.2.2.2.2.2.2.2.1
theorem dX9_tells_77 : decode cX9_tells 77 = .ok (.getfield 102, 3) := dq_g158.2.2.2.2.2.2.2.2.1
theorem dX9_tells_80 : decode cX9_tells 80 = .ok (.iload 5, 2) := dq_g158.2.2.2.2.2.2.2.2.2.1
theorem dX9_tells_82 : decode cX9_tells 82 = .ok (.iaload, 1) := dq_g158.2.2.2.2.2.2.2.2.2.2.1
theorem dX9_tells_83 : decode cX9_tells 83 = .ok (.invokevirtual 154, 3) := dq_g158.2.2.2.2.2.2.2.2.2.2.2.1
theorem dX9_tells_86 : decode cX9_tells 86 = .ok (.aload_n 0, 1) := dq_g158.2.2.2.2.2.2.2.2.2.2.2.2.1
theorem dX9_tells_87 : decode cX9_tells 87 = .ok (.getfield 30, 3) := dq_g158.2.2.2.2.2.2.2.2.2.2.2.2.2.1
theorem dX9_tells_90 : decode cX9_tells 90 = .ok (.aload_n 0, 1) := dq_g158.2.2.2.2.2.2.2.2.2.2.2.2.2.2.1
theorem dX9_tells_91 : decode cX9_tells 91 = .ok (.getfield 12, 3) := dq_g158.2.2.2.2.2.2.2.2.2.2.2.2.2.2.2.1
theorem dX9_tells_94 : decode cX9_tells 94 = .ok (.getfield 158, 3) := dq_g158.2.2.2.2.2.2.2.2.2.2.2.2.2.2.2.2.1
theorem dX9_tells_97 : decode cX9_tells 97 = .ok (.iload_n 1, 1) := dq_g158.2.2.2.2.2.2.2.2.2.2.2.2.2.2.2.2.2.1
theorem dX9_tells_98 : decode cX9_tells 98 = .ok (.aaload, 1) := dq_g158.2.2.2.2.2.2.2.2.2.2.2.2.2.2.2.2.2.2.1
theorem dX9_tells_99 : decode cX9_tells 99 = .ok (.iload_n 2, 1) := dq_g158.2.2.2.2.2.2.2.2.2.2.2.2.2.2.2.2.2.2.2.1
theorem dX9_tells_100 : decode cX9_tells 100 = .ok (.iload_n 3, 1) := dq_g158.2.2.2.2.2.2.2.2.2.2.2.2.2.2.2.2.2.2.2.2.1
theorem dX9_tells_101 : decode cX9_tells 101 = .ok (.invokevirtual 162, 3) := dq_g158.2.2.2.2.2.2.2.2.2.2.2.2.2.2.2.2.2.2.2.2.2.1
theorem dX9_tells_104 : decode cX9_tells 104 = .ok (.ireturn, 1) := dq_g158.2.2.2.2.2.2.2.2.2.2.2.2.2.2.2.2.2.2.2.2.2.2.1
theorem dq_g159 : decode cX9_tone 0 = .ok (.aload_n 0, 1) ∧ decode cX9_tone 1 = .ok (.iload_n 1, 1) ∧ decode cX9_tone 2 = .ok (.invokevirtual 78, 3) ∧ decode cX9_tone 5 = .ok (.astore_n 3, 1) ∧ decode cX9_tone 6 = .ok (.aload_n 3, 1) ∧ decode cX9_tone 7 = .ok (.ifnull 10, 3) ∧ decode cX9_tone 10 = .ok (.iload_n 2, 1) ∧ decode cX9_tone 11 = .ok (.invokestatic 150, 3) ∧ decode cX9_tone 14 = .ok (.ifCond .ne 5, 3) ∧ decode cX9_tone 17 = .ok (.iconst (-1), 1) ∧ decode cX9_tone 18 = .ok (.ireturn, 1) ∧ decode cX9_tone 19 = .ok (.aload_n 0, 1) ∧ decode cX9_tone 20 = .ok (.aload_n 3, 1) ∧ decode cX9_tone 21 = .ok (.iload_n 2, 1) ∧ decode cX9_tone 22 = .ok (.invokevirtual 166, 3) ∧ decode cX9_tone 25 = .ok (.ireturn, 1) ∧ True := dqC_ok (c := cX9_tone) [(0, 1, some (.aload_n 0)), (1, 1, some (.iload_n 1)), (2, 3, some (.invokevirtual 78)), (5, 1, some (.astore_n 3)), (6, 1, some (.aload_n 3)), (7, 3, some (.ifnull 10)), (10, 1, some (.iload_n 2)), (11, 3, some (.invokestatic 150)), (14, 3, some (.ifCond .ne 5)), (17, 1, some (.iconst (-1))), (18, 1, some (.ireturn)), (19, 1, some (.aload_n 0)), (20, 1, some (.aload_n 3)), (21, 1, some (.iload_n 2)), (22, 3, some (.invokevirtual 166)), (25, 1, some (.ireturn))] _ 0 rfl (by decide +kernel)
theorem dX9_tone_0 : decode cX9_tone 0 = .ok (.aload_n 0, 1) := dq_g159.1
theorem dX9_tone_1 : decode cX9_tone 1 = .ok (.iload_n 1, 1) := dq_g159.2.1
theorem dX9_tone_2 : decode cX9_tone 2 = .ok (.invokevirtual 78, 3) := dq_g159.2.2.1
theorem dX9_tone_5 : decode cX9_tone 5 = .ok (.astore_n 3, 1) := dq_g159.2.2.2.1
theorem dX9_tone_6 : decode cX9_tone 6 = .ok (.aload_n 3, 1) := dq_g159.2.2.2.2.1
theorem dX9_tone_7 : decode cX9_tone 7 = .ok (.ifnull 10, 3) := dq_g159.2.2.2.2.2.1
theorem dX9_tone_10 : decode cX9_tone 10 = .ok (.iload_n 2, 1) := dq_g159.2.2.2.2.2.2.1
theorem dX9_tone_11 : decode cX9_tone 11 = .ok (.invokestatic 150, 3) := dq_g159.2.2.2.2.2.2.2.1
theorem dX9_tone_14 : decode cX9_tone 14 = .ok (.ifCond .ne 5, 3) := dq_g159.2.2.2.2.2.2.2.2.1
theorem dX9_tone_17 : decode cX9_tone 17 = .ok (.iconst (-1), 1) := dq_g159.2.2.2.2.2.2.2.2.2.1
theorem dX9_tone_18 : decode cX9_tone 18 = .ok (.ireturn, 1) := dq_g159.2.2.2.2.2.2.2.2.2.2.1
theorem dX9_tone_19 : decode cX9_tone 19 = .ok (.aload_n 0, 1) := dq_g159.2.2.2.2.2.2.2.2.2.2.2.1
theorem dX9_tone_20 : decode cX9_tone 20 = .ok (.aload_n 3, 1) := dq_g159.2.2.2.2.2.2.2.2.2.2.2.2.1
theorem dX9_tone_21 : decode cX9_tone 21 = .ok (.iload_n 2, 1) := dq_g159.2.2.2.2.2.2.2.2.2.2.2.2.2.1
theorem dX9_tone_22 : decode cX9_tone 22 = .ok (.invokevirtual 166, 3) := dq_g159.2.2.2.2.2.2.2.2.2.2.2.2.2.2.1
theorem dX9_tone_25 : decode cX9_tone 25 = .ok (.ireturn, 1) := dq_g159.2.2.2.2.2.2.2.2.2.2.2.2.2.2.2.1
theorem dq_g160 : decode cX9_shave 0 = .ok (.aload_n 0, 1) ∧ decode cX9_shave 1 = .ok (.iload_n 1, 1) ∧ decode cX9_shave 2 = .ok (.invokevirtual 78, 3) ∧ decode cX9_shave 5 = .ok (.astore 4, 2) ∧ decode cX9_shave 7 = .ok (.aload 4, 2) ∧ decode cX9_shave 9 = .ok (.ifnonnull 5, 3) ∧ decode cX9_shave 12 = .ok (.iconst (-1), 1) ∧ decode cX9_shave 13 = .ok (.ireturn, 1) ∧ decode cX9_shave 14 = .ok (.aload_n 0, 1) ∧ decode cX9_shave 15 = .ok (.aload 4, 2) ∧ decode cX9_shave 17 = .ok (.iload_n 2, 1) ∧ decode cX9_shave 18 = .ok (.iload_n 3, 1) ∧ decode cX9_shave 19 = .ok (.invokevirtual 170, 3) ∧ decode cX9_shave 22 = .ok (.ireturn, 1) ∧ True := dqC_ok (c := cX9_shave) [(0, 1, some (.aload_n 0)), (1, 1, some (.iload_n 1)), (2, 3, some (.invokevirtual 78)), (5, 2, some (.astore 4)), (7, 2, some (.aload 4)), (9, 3, some (.ifnonnull 5)), (12, 1, some (.iconst (-1))), (13, 1, some (.ireturn)), (14, 1, some (.aload_n 0)), (15, 2, some (.aload 4)), (17, 1, some (.iload_n 2)), (18, 1, some (.iload_n 3)), (19, 3, some (.invokevirtual 170)), (22, 1, some (.ireturn))] _ 0 rfl (by decide +kernel)
theorem dX9_shave_0 : decode cX9_shave 0 = .ok (.aload_n 0, 1) := dq_g160.1
theorem dX9_shave_1 : decode cX9_shave 1 = .ok (.iload_n 1, 1) := dq_g160.2.1
theorem dX9_shave_2 : decode cX9_shave 2 = .ok (.invokevirtual 78, 3) := dq_g160.2.2.1
theorem dX9_shave_5 : decode cX9_shave 5 = .ok (.astore 4, 2) := dq_g160.2.2.2.1
theorem dX9_shave_7 : decode cX9_shave 7 = .ok (.aload 4, 2) := dq_g160.2.2.2.2.1
theorem dX9_shave_9 : decode cX9_shave 9 = .ok (.ifnonnull 5, 3) := dq_g160.2.2.2.2.2.1
theorem dX9_shave_12 : decode cX9_shave 12 = .ok (.iconst (-1), 1) := dq_g160.2.2.2.2.2.2.1
theorem dX9_shave_13 : decode cX9_shave 13 = .ok (.ireturn, 1) := dq_g160.2.2.2.2.2.2.2.1
theorem dX9_shave_14 : decode cX9_shave 14 = .ok (.aload_n 0, 1) := dq_g160.2.2.2.2.2.2.2.2.1
theorem dX9_shave_15 : decode cX9_shave 15 = .ok (.aload 4, 2) := dq_g160.2.2.2.2.2.2.2.2.2.1
theorem dX9_shave_17 : decode cX9_shave 17 = .ok (.iload_n 2, 1) := dq_g160.2.2.2.2.2.2.2.2.2.2.1
theorem dX9_shave_18 : decode cX9_shave 18 = .ok (.iload_n 3, 1) := dq_g160.2.2.2.2.2.2.2.2.2.2.2.1
theorem dX9_shave_19 : decode cX9_shave 19 = .ok (.invokevirtual 170, 3) := dq_g160.2.2.2.2.2.2.2.2.2.2.2.2.1
theorem dX9_shave_22 : decode cX9_shave 22 = .ok (.ireturn, 1) := dq_g160.2.2.2.2.2.2.2.2.2.2.2.2.2.1
theorem dq_g161 : decode cX9_pass 0 = .ok (.aload_n 0, 1) ∧ decode cX9_pass 1 = .ok (.iload_n 1, 1) ∧ decode cX9_pass 2 = .ok (.invokevirtual 78, 3) ∧ decode cX9_pass 5 = .ok (.astore 4, 2) ∧ decode cX9_pass 7 = .ok (.aload 4, 2) ∧ decode cX9_pass 9 = .ok (.ifnull 16, 3) ∧ decode cX9_pass 12 = .ok (.iload_n 2, 1) ∧ decode cX9_pass 13 = .ok (.iconst 1, 1) ∧ decode cX9_pass 14 = .ok (.aload 4, 2) ∧ decode cX9_pass 16 = .ok (.getfield 86, 3) ∧ decode cX9_pass 19 = .ok (.invokestatic 89, 3) ∧ decode cX9_pass 22 = .ok (.ifCond .ne 5, 3) ∧ decode cX9_pass 25 = .ok (.iconst (-1), 1) ∧ decode cX9_pass 26 = .ok (.ireturn, 1) ∧ decode cX9_pass 27 = .ok (.iload_n 3, 1) ∧ decode cX9_pass 56 = .ok (.aload 4, 2) ∧ decode cX9_pass 58 = .ok (.getfield 174, 3) ∧ decode cX9_pass 61 = .ok (.iload_n 2, 1) ∧ decode cX9_pass 62 = .ok (.iconst 1, 1) ∧ decode cX9_pass 63 = .ok (.isub, 1) ∧ decode cX9_pass 64 = .ok (.iaload, 1) ∧ decode cX9_pass 65 = .ok (.ireturn, 1) ∧ decode cX9_pass 66 = .ok (.aload 4, 2) ∧ decode cX9_pass 68 = .ok (.getfield 177, 3) ∧ decode cX9_pass 71 = .ok (.iload_n 2, 1) ∧ decode cX9_pass 72 = .ok (.iconst 1, 1) ∧ decode cX9_pass 73 = .ok (.isub, 1) ∧ decode cX9_pass 74 = .ok (.iaload, 1) ∧ decode cX9_pass 75 = .ok (.ireturn, 1) ∧ True := dqC_ok (c := cX9_pass) [(0, 1, some (.aload_n 0)), (1, 1, some (.iload_n 1)), (2, 3, some (.invokevirtual 78)), (5, 2, some (.astore 4)), (7, 2, some (.aload 4)), (9, 3, some (.ifnull 16)), (12, 1, some (.iload_n 2)), (13, 1, some (.iconst 1)), (14, 2, some (.aload 4)), (16, 3, some (.getfield 86)), (19, 3, some (.invokestatic 89)), (22, 3, some (.ifCond .ne 5)), (25, 1, some (.iconst (-1))), (26, 1, some (.ireturn)), (27, 1, some (.iload_n 3)), (28, 28, none), (56, 2, some (.aload 4)), (58, 3, some (.getfield 174)), (61, 1, some (.iload_n 2)), (62, 1, some (.iconst 1)), (63, 1, some (.isub)), (64, 1, some (.iaload)), (65, 1, some (.ireturn)), (66, 2, some (.aload 4)), (68, 3, some (.getfield 177)), (71, 1, some (.iload_n 2)), (72, 1, some (.iconst 1)), (73, 1, some (.isub)), (74, 1, some (.iaload)), (75, 1, some (.ireturn))] _ 0 rfl (by decide +kernel)
theorem dX9_pass_0 : decode cX9_pass 0 = .ok (.aload_n 0, 1) := dq_g161.1
theorem dX9_pass_1 : decode cX9_pass 1 = .ok (.iload_n 1, 1) := dq_g161.2.1
theorem dX9_pass_2 : decode cX9_pass 2 = .ok (.invokevirtual 78, 3) := dq_g161.2.2.1
theorem dX9_pass_5 : decode cX9_pass 5 = .ok (.astore 4, 2) := dq_g161.2.2.2.1
theorem dX9_pass_7 : decode cX9_pass 7 = .ok (.aload 4, 2) := dq_g161.2.2.2.2.1
theorem dX9_pass_9 : decode cX9_pass 9 = .ok (.ifnull 16, 3) := dq_g161.2.2.2.2.2.1
theorem dX9_pass_12 : decode cX9_pass 12 = .ok (.iload_n 2, 1) := dq_g161.2.2.2.2.2.2.1
theorem dX9_pass_13 : decode cX9_pass 13 = .ok (.iconst 1, 1) := dq_g161.2.2.2.2.2.2.2.1
theorem dX9_pass_14 : decode cX9_pass 14 = .ok (.aload 4, 2) := dq_g161.2.2.2.2.2.2.2.2.1
theorem dX9_pass_16 : decode cX9_pass 16 = .ok (.getfield 86, 3) := dq_g161.2.2.2.2.2.2.2.2.2.1
theorem dX9_pass_19 : decode cX9_pass 19 = .ok (.invokestatic 89, 3) := dq_g161.2.2.2.2.2.2.2.2.2.2.1
theorem dX9_pass_22 : decode cX9_pass 22 = .ok (.ifCond .ne 5, 3) := dq_g161.2.2.2.2.2.2.2.2.2.2.2.1
theorem dX9_pass_25 : decode cX9_pass 25 = .ok (.iconst (-1), 1) := dq_g161.2.2.2.2.2.2.2.2.2.2.2.2.1
theorem dX9_pass_26 : decode cX9_pass 26 = .ok (.ireturn, 1) := dq_g161.2.2.2.2.2.2.2.2.2.2.2.2.2.1
theorem dX9_pass_27 : decode cX9_pass 27 = .ok (.iload_n 3, 1) := dq_g161.2.2.2.2.2.2.2.2.2.2.2.2.2.2.1
theorem dX9_pass_56 : decode cX9_pass 56 = .ok (.aload 4, 2) := dq_g161.2.2.2.2.2.2.2.2.2.2.2.2.2.2.2.1
theorem dX9_pass_58 : decode cX9_pass 58 = .ok (.getfield 174, 3) := dq_g161.2.2.2.2.2.2.2.2.2.2.2.2.2.2.2.2.1
theorem dX9_pass_61 : decode cX9_pass 61 = .ok (.iload_n 2, 1) := dq_g161.2.2.2.2.2.2.2.2.2.2.2.2.2.2.2.2.2.1
theorem dX9_pass_62 : decode cX9_pass 62 = .ok (.iconst 1, 1) := dq_g161.2.2.2.2.2.2.2.2.2.2.2.2.2.2.2.2.2.2.1
theorem dX9_pass_63 : decode cX9_pass 63 = .ok (.isub, 1) := dq_g161.2.2.2.2.2.2.2.2.2.2.2.2.2.2.2.2.2.2.2.1
theorem dX9_pass_64 : decode cX9_pass 64 = .ok (.iaload, 1) := dq_g161.2.2.2.2.2.2.2.2.2.2.2.2.2.2.2.2.2.2.2.2.1
theorem dX9_pass_65 : decode cX9_pass 65 = .ok (.ireturn, 1) := dq_g161.2.2.2.2.2.2.2.2.2.2.2.2.2.2.2.2.2.2.2.2.2.1
theorem dX9_pass_66 : decode cX9_pass 66 = .ok (.aload 4, 2) := dq_g161.2.2.2.2.2.2.2.2.2.2.2.2.2.2.2.2.2.2.2.2.2.2.1
theorem dX9_pass_68 : decode cX9_pass 68 = .ok (.getfield 177, 3) := dq_g161.2.2.2.2.2.2.2.2.2.2.2.2.2.2.2.2.2.2.2.2.2.2.2.1
theorem dX9_pass_71 : decode cX9_pass 71 = .ok (.iload_n 2, 1) := dq_g161.2.2.2.2.2.2.2.2.2.2.2.2.2.2.2.2.2.2.2.2.2.2.2.2.1
theorem dX9_pass_72 : decode cX9_pass 72 = .ok (.iconst 1, 1) := dq_g161.2.2.2.2.2.2.2.2.2.2.2.2.2.2.2.2.2.2.2.2.2.2.2.2.2.1
theorem dX9_pass_73 : decode cX9_pass 73 = .ok (.isub, 1) := dq_g161.2.2.2.2.2.2.2.2.2.2.2.2.2.2.2.2.2.2.2.2.2.2.2.2.2.2.1
theorem dX9_pass_74 : decode cX9_pass 74 = .ok (.iaload, 1) := dq_g161.2.2.2.2.2.2.2.2.2.2.2.2.2.2.2.2.2.2.2.2.2.2.2.2.2.2.2.1
theorem dX9_pass_75 : decode cX9_pass 75 = .ok (.ireturn, 1) := dq_g161.2.2.2.2.2.2.2.2.2.2.2.2.2.2.2.2.2.2.2.2.2.2.2.2.2.2.2.2.1
theorem dX9_pass_28 : decode cX9_pass 28 = .ok (.lookupswitch 48 #[(0, 28), (1, 38)], 28) := by decide +kernel
theorem dq_g162 : decode cX9_pass 76 = .ok (.iconst (-1), 1) ∧ decode cX9_pass 77 = .ok (.ireturn, 1) ∧ True := dqC_ok (c := cX9_pass) [(76, 1, some (.iconst (-1))), (77, 1, some (.ireturn))] _ 76 rfl (by decide +kernel)
theorem dX9_pass_76 : decode cX9_pass 76 = .ok (.iconst (-1), 1) := dq_g162.1
theorem dX9_pass_77 : decode cX9_pass 77 = .ok (.ireturn, 1) := dq_g162.2.1
theorem dq_g163 : decode cX9_goal 0 = .ok (.aload_n 0, 1) ∧ decode cX9_goal 1 = .ok (.iload_n 1, 1) ∧ decode cX9_goal 2 = .ok (.invokevirtual 78, 3) ∧ decode cX9_goal 5 = .ok (.astore 4, 2) ∧ decode cX9_goal 7 = .ok (.aload 4, 2) ∧ decode cX9_goal 9 = .ok (.ifnull 20, 3) ∧ decode cX9_goal 12 = .ok (.iload_n 2, 1) ∧ decode cX9_goal 13 = .ok (.invokestatic 150, 3) ∧ decode cX9_goal 16 = .ok (.ifCond .eq 13, 3) ∧ decode cX9_goal 19 = .ok (.iload_n 3, 1) ∧ decode cX9_goal 20 = .ok (.iconst 0, 1) ∧ decode cX9_goal 21 = .ok (.ldc 180, 2) ∧ decode cX9_goal 23 = .ok (.invokestatic 89, 3) ∧ decode cX9_goal 26 = .ok (.ifCond .ne 5, 3) ∧ decode cX9_goal 29 = .ok (.iconst 0, 1) ∧ decode cX9_goal 30 = .ok (.ireturn, 1) ∧ decode cX9_goal 31 = .ok (.aload 4, 2) ∧ decode cX9_goal 33 = .ok (.getfield 181, 3) ∧ decode cX9_goal 36 = .ok (.iload_n 2, 1) ∧ decode cX9_goal 37 = .ok (.iload_n 3, 1) ∧ decode cX9_goal 38 = .ok (.iastore, 1) ∧ decode cX9_goal 39 = .ok (.iconst 1, 1) ∧ decode cX9_goal 40 = .ok (.ireturn, 1) ∧ True := dqC_ok (c := cX9_goal) [(0, 1, some (.aload_n 0)), (1, 1, some (.iload_n 1)), (2, 3, some (.invokevirtual 78)), (5, 2, some (.astore 4)), (7, 2, some (.aload 4)), (9, 3, some (.ifnull 20)), (12, 1, some (.iload_n 2)), (13, 3, some (.invokestatic 150)), (16, 3, some (.ifCond .eq 13)), (19, 1, some (.iload_n 3)), (20, 1, some (.iconst 0)), (21, 2, some (.ldc 180)), (23, 3, some (.invokestatic 89)), (26, 3, some (.ifCond .ne 5)), (29, 1, some (.iconst 0)), (30, 1, some (.ireturn)), (31, 2, some (.aload 4)), (33, 3, some (.getfield 181)), (36, 1, some (.iload_n 2)), (37, 1, some (.iload_n 3)), (38, 1, some (.iastore)), (39, 1, some (.iconst 1)), (40, 1, some (.ireturn))] _ 0 rfl (by decide +kernel)
theorem dX9_goal_0 : decode cX9_goal 0 = .ok (.aload_n 0, 1) := dq_g163.1
theorem dX9_goal_1 : decode cX9_goal 1 = .ok (.iload_n 1, 1) := dq_g163.2.1
theorem dX9_goal_2 : decode cX9_goal 2 = .ok (.invokevirtual 78, 3) := dq_g163.2.2.1
theorem dX9_goal_5 : decode cX9_goal 5 = .ok (.astore 4, 2) := dq_g163.2.2.2.1
theorem dX9_goal_7 : decode cX9_goal 7 = .ok (.aload 4, 2) := dq_g163.2.2.2.2.1
theorem dX9_goal_9 : decode cX9_goal 9 = .ok (.ifnull 20, 3) := dq_g163.2.2.2.2.2.1
theorem dX9_goal_12 : decode cX9_goal 12 = .ok (.iload_n 2, 1) := dq_g163.2.2.2.2.2.2.1
theorem dX9_goal_13 : decode cX9_goal 13 = .ok (.invokestatic 150, 3) := dq_g163.2.2.2.2.2.2.2.1
theorem dX9_goal_16 : decode cX9_goal 16 = .ok (.ifCond .eq 13, 3) := dq_g163.2.2.2.2.2.2.2.2.1
theorem dX9_goal_19 : decode cX9_goal 19 = .ok (.iload_n 3, 1) := dq_g163.2.2.2.2.2.2.2.2.2.1
theorem dX9_goal_20 : decode cX9_goal 20 = .ok (.iconst 0, 1) := dq_g163.2.2.2.2.2.2.2.2.2.2.1
theorem dX9_goal_21 : decode cX9_goal 21 = .ok (.ldc 180, 2) := dq_g163.2.2.2.2.2.2.2.2.2.2.2.1
theorem dX9_goal_23 : decode cX9_goal 23 = .ok (.invokestatic 89, 3) := dq_g163.2.2.2.2.2.2.2.2.2.2.2.2.1
theorem dX9_goal_26 : decode cX9_goal 26 = .ok (.ifCond .ne 5, 3) := dq_g163.2.2.2.2.2.2.2.2.2.2.2.2.2.1
theorem dX9_goal_29 : decode cX9_goal 29 = .ok (.iconst 0, 1) := dq_g163.2.2.2.2.2.2.2.2.2.2.2.2.2.2.1
theorem dX9_goal_30 : decode cX9_goal 30 = .ok (.ireturn, 1) := dq_g163.2.2.2.2.2.2.2.2.2.2.2.2.2.2.2.1
theorem dX9_goal_31 : decode cX9_goal 31 = .ok (.aload 4, 2) := dq_g163.2.2.2.2.2.2.2.2.2.2.2.2.2.2.2.2.1
theorem dX9_goal_33 : decode cX9_goal 33 = .ok (.getfield 181, 3) := dq_g163.2.2.2.2.2.2.2.2.2.2.2.2.2.2.2.2.2.1
theorem dX9_goal_36 : decode cX9_goal 36 = .ok (.iload_n 2, 1) := dq_g163.2.2.2.2.2.2.2.2.2.2.2.2.2.2.2.2.2.2.1
theorem dX9_goal_37 : decode cX9_goal 37 = .ok (.iload_n 3, 1) := dq_g163.2.2.2.2.2.2.2.2.2.2.2.2.2.2.2.2.2.2.2.1
theorem dX9_goal_38 : decode cX9_goal 38 = .ok (.iastore, 1) := dq_g163.2.2.2.2.2.2.2.2.2.2.2.2.2.2.2.2.2.2.2.2.1
theorem dX9_goal_39 : decode cX9_goal 39 = .ok (.iconst 1, 1) := dq_g163.2.2.2.2.2.2.2.2.2.2.2.2.2.2.2.2.2.2.2.2.2.1
theorem dX9_goal_40 : decode cX9_goal 40 = .ok (.ireturn, 1) := dq_g163.2.2.2.2.2.2.2.2.2.2.2.2.2.2.2.2.2.2.2.2.2.2.1
theorem dq_g164 : decode cX9_slack 0 = .ok (.iload_n 1, 1) ∧ decode cX9_slack 1 = .ok (.iconst 0, 1) ∧ decode cX9_slack 2 = .ok (.sipush 9999, 3) ∧ decode cX9_slack 5 = .ok (.invokestatic 89, 3) ∧ decode cX9_slack 8 = .ok (.ifCond .ne 5, 3) ∧ decode cX9_slack 11 = .ok (.iconst 0, 1) ∧ decode cX9_slack 12 = .ok (.ireturn, 1) ∧ decode cX9_slack 13 = .ok (.aload_n 0, 1) ∧ decode cX9_slack 14 = .ok (.getfield 12, 3) ∧ decode cX9_slack 17 = .ok (.iload_n 1, 1) ∧ decode cX9_slack 18 = .ok (.putfield 184, 3) ∧ decode cX9_slack 21 = .ok (.iconst 1, 1) ∧ decode cX9_slack 22 = .ok (.ireturn, 1) ∧ True := dqC_ok (c := cX9_slack) [(0, 1, some (.iload_n 1)), (1, 1, some (.iconst 0)), (2, 3, some (.sipush 9999)), (5, 3, some (.invokestatic 89)), (8, 3, some (.ifCond .ne 5)), (11, 1, some (.iconst 0)), (12, 1, some (.ireturn)), (13, 1, some (.aload_n 0)), (14, 3, some (.getfield 12)), (17, 1, some (.iload_n 1)), (18, 3, some (.putfield 184)), (21, 1, some (.iconst 1)), (22, 1, some (.ireturn))] _ 0 rfl (by decide +kernel)
theorem dX9_slack_0 : decode cX9_slack 0 = .ok (.iload_n 1, 1) := dq_g164.1
theorem dX9_slack_1 : decode cX9_slack 1 = .ok (.iconst 0, 1) := dq_g164.2.1
theorem dX9_slack_2 : decode cX9_slack 2 = .ok (.sipush 9999, 3) := dq_g164.2.2.1
theorem dX9_slack_5 : decode cX9_slack 5 = .ok (.invokestatic 89, 3) := dq_g164.2.2.2.1
theorem dX9_slack_8 : decode cX9_slack 8 = .ok (.ifCond .ne 5, 3) := dq_g164.2.2.2.2.1
theorem dX9_slack_11 : decode cX9_slack 11 = .ok (.iconst 0, 1) := dq_g164.2.2.2.2.2.1
theorem dX9_slack_12 : decode cX9_slack 12 = .ok (.ireturn, 1) := dq_g164.2.2.2.2.2.2.1
theorem dX9_slack_13 : decode cX9_slack 13 = .ok (.aload_n 0, 1) := dq_g164.2.2.2.2.2.2.2.1
theorem dX9_slack_14 : decode cX9_slack 14 = .ok (.getfield 12, 3) := dq_g164.2.2.2.2.2.2.2.2.1
theorem dX9_slack_17 : decode cX9_slack 17 = .ok (.iload_n 1, 1) := dq_g164.2.2.2.2.2.2.2.2.2.1
theorem dX9_slack_18 : decode cX9_slack 18 = .ok (.putfield 184, 3) := dq_g164.2.2.2.2.2.2.2.2.2.2.1
theorem dX9_slack_21 : decode cX9_slack 21 = .ok (.iconst 1, 1) := dq_g164.2.2.2.2.2.2.2.2.2.2.2.1
theorem dX9_slack_22 : decode cX9_slack 22 = .ok (.ireturn, 1) := dq_g164.2.2.2.2.2.2.2.2.2.2.2.2.1
theorem dq_g165 : decode cX9_state 0 = .ok (.aload_n 0, 1) ∧ decode cX9_state 1 = .ok (.iload_n 1, 1) ∧ decode cX9_state 2 = .ok (.invokevirtual 78, 3) ∧ decode cX9_state 5 = .ok (.astore_n 3, 1) ∧ decode cX9_state 6 = .ok (.aload_n 3, 1) ∧ decode cX9_state 7 = .ok (.ifnonnull 6, 3) ∧ decode cX9_state 10 = .ok (.bipush (-2), 2) ∧ decode cX9_state 12 = .ok (.ireturn, 1) ∧ decode cX9_state 13 = .ok (.iload_n 2, 1) ∧ decode cX9_state 68 = .ok (.aload_n 3, 1) ∧ decode cX9_state 69 = .ok (.getfield 187, 3) ∧ decode cX9_state 72 = .ok (.ireturn, 1) ∧ decode cX9_state 73 = .ok (.aload_n 3, 1) ∧ decode cX9_state 74 = .ok (.getfield 86, 3) ∧ decode cX9_state 77 = .ok (.ireturn, 1) ∧ decode cX9_state 78 = .ok (.aload_n 0, 1) ∧ decode cX9_state 79 = .ok (.aload_n 3, 1) ∧ decode cX9_state 80 = .ok (.invokevirtual 190, 3) ∧ decode cX9_state 83 = .ok (.ifCond .eq 7, 3) ∧ decode cX9_state 86 = .ok (.iconst 1, 1) ∧ decode cX9_state 87 = .ok (.goto 4, 3) ∧ decode cX9_state 90 = .ok (.iconst 0, 1) ∧ decode cX9_state 91 = .ok (.ireturn, 1) ∧ decode cX9_state 92 = .ok (.aload_n 0, 1) ∧ decode cX9_state 93 = .ok (.aload_n 3, 1) ∧ decode cX9_state 94 = .ok (.invokevirtual 194, 3) ∧ decode cX9_state 97 = .ok (.ifCond .eq 7, 3) ∧ decode cX9_state 100 = .ok (.iconst 1, 1) ∧ decode cX9_state 101 = .ok (.goto 4, 3) ∧ True := dqC_ok (c := cX9_state) [(0, 1, some (.aload_n 0)), (1, 1, some (.iload_n 1)), (2, 3, some (.invokevirtual 78)), (5, 1, some (.astore_n 3)), (6, 1, some (.aload_n 3)), (7, 3, some (.ifnonnull 6)), (10, 2, some (.bipush (-2))), (12, 1, some (.ireturn)), (13, 1, some (.iload_n 2)), (14, 54, none), (68, 1, some (.aload_n 3)), (69, 3, some (.getfield 187)), (72, 1, some (.ireturn)), (73, 1, some (.aload_n 3)), (74, 3, some (.getfield 86)), (77, 1, some (.ireturn)), (78, 1, some (.aload_n 0)), (79, 1, some (.aload_n 3)), (80, 3, some (.invokevirtual 190)), (83, 3, some (.ifCond .eq 7)), (86, 1, some (.iconst 1)), (87, 3, some (.goto 4)), (90, 1, some (.iconst 0)), (91, 1, some (.ireturn)), (92, 1, some (.aload_n 0)), (93, 1, some (.aload_n 3)), (94, 3, some (.invokevirtual 194)), (97, 3, some (.ifCond .eq 7)), (100, 1, some (.iconst 1)), (101, 3, some (.goto 4))] _ 0 rfl (by decide +kernel)
theorem dX9_state_0 : decode cX9_state 0 = .ok (.aload_n 0, 1) := dq_g165.1
theorem dX9_state_1 : decode cX9_state 1 = .ok (.iload_n 1, 1) := dq_g165.2.1
theorem dX9_state_2 : decode cX9_state 2 = .ok (.invokevirtual 78, 3) := dq_g165.2.2.1
theorem dX9_state_5 : decode cX9_state 5 = .ok (.astore_n 3, 1) := dq_g165.2.2.2.1
theorem dX9_state_6 : decode cX9_state 6 = .ok (.aload_n 3, 1) := dq_g165.2.2.2.2.1
theorem dX9_state_7 : decode cX9_state 7 = .ok (.ifnonnull 6, 3) := dq_g165.2.2.2.2.2.1
theorem dX9_state_10 : decode cX9_state 10 = .ok (.bipush (-2), 2) := dq_g165.2.2.2.2.2.2.1
theorem dX9_state_12 : decode cX9_state 12 = .ok (.ireturn, 1) := dq_g165.2.2.2.2.2.2.2.1
theorem dX9_state_13 : decode cX9_state 13 = .ok (.iload_n 2, 1) := dq_g165.2.2.2.2.2.2.2.2.1
theorem dX9_state_68 : decode cX9_state 68 = .ok (.aload_n 3, 1) := dq_g165.2.2.2.2.2.2.2.2.2.1
theorem dX9_state_69 : decode cX9_state 69 = .ok (.getfield 187, 3) := dq_g165.2.2.2.2.2.2.2.2.2.2.1
theorem dX9_state_72 : decode cX9_state 72 = .ok (.ireturn, 1) := dq_g165.2.2.2.2.2.2.2.2.2.2.2.1
theorem dX9_state_73 : decode cX9_state 73 = .ok (.aload_n 3, 1) := dq_g165.2.2.2.2.2.2.2.2.2.2.2.2.1
theorem dX9_state_74 : decode cX9_state 74 = .ok (.getfield 86, 3) := dq_g165.2.2.2.2.2.2.2.2.2.2.2.2.2.1
theorem dX9_state_77 : decode cX9_state 77 = .ok (.ireturn, 1) := dq_g165.2.2.2.2.2.2.2.2.2.2.2.2.2.2.1
theorem dX9_state_78 : decode cX9_state 78 = .ok (.aload_n 0, 1) := dq_g165.2.2.2.2.2.2.2.2.2.2.2.2.2.2.2.1
theorem dX9_state_79 : decode cX9_state 79 = .ok (.aload_n 3, 1) := dq_g165.2.2.2.2.2.2.2.2.2.2.2.2.2.2.2.2.1
theorem dX9_state_80 : decode cX9_state 80 = .ok (.invokevirtual 190, 3) := dq_g165.2.2.2.2.2.2.2.2.2.2.2.2.2.2.2.2.2.1
theorem dX9_state_83 : decode cX9_state 83 = .ok (.ifCond .eq 7, 3) := dq_g165.2.2.2.2.2.2.2.2.2.2.2.2.2.2.2.2.2.2.1
theorem dX9_state_86 : decode cX9_state 86 = .ok (.iconst 1, 1) := dq_g165.2.2.2.2.2.2.2.2.2.2.2.2.2.2.2.2.2.2.2.1
theorem dX9_state_87 : decode cX9_state 87 = .ok (.goto 4, 3) := dq_g165.2.2.2.2.2.2.2.2.2.2.2.2.2.2.2.2.2.2.2.2.1
theorem dX9_state_90 : decode cX9_state 90 = .ok (.iconst 0, 1) := dq_g165.2.2.2.2.2.2.2.2.2.2.2.2.2.2.2.2.2.2.2.2.2.1
theorem dX9_state_91 : decode cX9_state 91 = .ok (.ireturn, 1) := dq_g165.2.2.2.2.2.2.2.2.2.2.2.2.2.2.2.2.2.2.2.2.2.2.1
theorem dX9_state_92 : decode cX9_state 92 = .ok (.aload_n 0, 1) := dq_g165.2.2.2.2.2.2.2.2.2.2.2.2.2.2.2.2.2.2.2.2.2.2.2.1
theorem dX9_state_93 : decode cX9_state 93 = .ok (.aload_n 3, 1) := dq_g165.2.2.2.2.2.2.2.2.2.2.2.2.2.2.2.2.2.2.2.2.2.2.2.2.1
theorem dX9_state_94 : decode cX9_state 94 = .ok (.invokevirtual 194, 3) := dq_g165.2.2.2.2.2.2.2.2.2.2.2.2.2.2.2.2.2.2.2.2.2.2.2.2.2.1
theorem dX9_state_97 : decode cX9_state 97 = .ok (.ifCond .eq 7, 3) := dq_g165.2.2.2.2.2.2.2.2.2.2.2.2.2.2.2.2.2.2.2.2.2.2.2.2.2.2.1
theorem dX9_state_100 : decode cX9_state 100 = .ok (.iconst 1, 1) := dq_g165.2.2.2.2.2.2.2.2.2.2.2.2.2.2.2.2.2.2.2.2.2.2.2.2.2.2.2.1
theorem dX9_state_101 : decode cX9_state 101 = .ok (.goto 4, 3) := dq_g165.2.2.2.2.2.2.2.2.2.2.2.2.2.2.2.2.2.2.2.2.2.2.2.2.2.2.2.2.1
theorem dX9_state_14 : decode cX9_state 14 = .ok (.tableswitch 129 0 9 #[54, 59, 64, 78, 92, 97, 104, 111, 118, 123], 54) := by decide +kernel
theorem dq_g166 : decode cX9_state 104 = .ok (.iconst 0, 1) ∧ decode cX9_state 105 = .ok (.ireturn, 1) ∧ decode cX9_state 106 = .ok (.aload_n 3, 1) ∧ decode cX9_state 107 = .ok (.getfield 197, 3) ∧ decode cX9_state 110 = .ok (.ireturn, 1) ∧ decode cX9_state 111 = .ok (.aload_n 3, 1) ∧ decode cX9_state 112 = .ok (.getfield 181, 3) ∧ decode cX9_state 115 = .ok (.iconst 0, 1) ∧ decode cX9_state 116 = .ok (.iaload, 1) ∧ decode cX9_state 117 = .ok (.ireturn, 1) ∧ decode cX9_state 118 = .ok (.aload_n 3, 1) ∧ decode cX9_state 119 = .ok (.getfield 181, 3) ∧ decode cX9_state 122 = .ok (.iconst 1, 1) ∧ decode cX9_state 123 = .ok (.iaload, 1) ∧ decode cX9_state 124 = .ok (.ireturn, 1) ∧ decode cX9_state 125 = .ok (.aload_n 3, 1) ∧ decode cX9_state 126 = .ok (.getfield 181, 3) ∧ decode cX9_state 129 = .ok (.iconst 2, 1) ∧ decode cX9_state 130 = .ok (.iaload, 1) ∧ decode cX9_state 131 = .ok (.ireturn, 1) ∧ decode cX9_state 132 = .ok (.aload_n 3, 1) ∧ decode cX9_state 133 = .ok (.getfield 200, 3) ∧ decode cX9_state 136 = .ok (.ireturn, 1) ∧ decode cX9_state 137 = .ok (.aload_n 0, 1) ∧ decode cX9_state 138 = .ok (.aload_n 3, 1) ∧ decode cX9_state 139 = .ok (.invokevirtual 203, 3) ∧ decode cX9_state 142 = .ok (.ireturn, 1) ∧ decode cX9_state 143 = .ok (.bipush (-2), 2) ∧ decode cX9_state 145 = .ok (.ireturn, 1) ∧ True := dqC_ok (c := cX9_state) [(104, 1, some (.iconst 0)), (105, 1, some (.ireturn)), (106, 1, some (.aload_n 3)), (107, 3, some (.getfield 197)), (110, 1, some (.ireturn)), (111, 1, some (.aload_n 3)), (112, 3, some (.getfield 181)), (115, 1, some (.iconst 0)), (116, 1, some (.iaload)), (117, 1, some (.ireturn)), (118, 1, some (.aload_n 3)), (119, 3, some (.getfield 181)), (122, 1, some (.iconst 1)), (123, 1, some (.iaload)), (124, 1, some (.ireturn)), (125, 1, some (.aload_n 3)), (126, 3, some (.getfield 181)), (129, 1, some (.iconst 2)), (130, 1, some (.iaload)), (131, 1, some (.ireturn)), (132, 1, some (.aload_n 3)), (133, 3, some (.getfield 200)), (136, 1, some (.ireturn)), (137, 1, some (.aload_n 0)), (138, 1, some (.aload_n 3)), (139, 3, some (.invokevirtual 203)), (142, 1, some (.ireturn)), (143, 2, some (.bipush (-2))), (145, 1, some (.ireturn))] _ 104 rfl (by decide +kernel)
theorem dX9_state_104 : decode cX9_state 104 = .ok (.iconst 0, 1) := dq_g166.1
theorem dX9_state_105 : decode cX9_state 105 = .ok (.ireturn, 1) := dq_g166.2.1
theorem dX9_state_106 : decode cX9_state 106 = .ok (.aload_n 3, 1) := dq_g166.2.2.1
theorem dX9_state_107 : decode cX9_state 107 = .ok (.getfield 197, 3) := dq_g166.2.2.2.1
theorem dX9_state_110 : decode cX9_state 110 = .ok (.ireturn, 1) := dq_g166.2.2.2.2.1
theorem dX9_state_111 : decode cX9_state 111 = .ok (.aload_n 3, 1) := dq_g166.2.2.2.2.2.1
theorem dX9_state_112 : decode cX9_state 112 = .ok (.getfield 181, 3) := dq_g166.2.2.2.2.2.2.1
theorem dX9_state_115 : decode cX9_state 115 = .ok (.iconst 0, 1) := dq_g166.2.2.2.2.2.2.2.1
theorem dX9_state_116 : decode cX9_state 116 = .ok (.iaload, 1) := dq_g166.2.2.2.2.2.2.2.2.1
theorem dX9_state_117 : decode cX9_state 117 = .ok (.ireturn, 1) := dq_g166.2.2.2.2.2.2.2.2.2.1
theorem dX9_state_118 : decode cX9_state 118 = .ok (.aload_n 3, 1) := dq_g166.2.2.2.2.2.2.2.2.2.2.1
theorem dX9_state_119 : decode cX9_state 119 = .ok (.getfield 181, 3) := dq_g166.2.2.2.2.2.2.2.2.2.2.2.1
theorem dX9_state_122 : decode cX9_state 122 = .ok (.iconst 1, 1) := dq_g166.2.2.2.2.2.2.2.2.2.2.2.2.1
theorem dX9_state_123 : decode cX9_state 123 = .ok (.iaload, 1) := dq_g166.2.2.2.2.2.2.2.2.2.2.2.2.2.1
theorem dX9_state_124 : decode cX9_state 124 = .ok (.ireturn, 1) := dq_g166.2.2.2.2.2.2.2.2.2.2.2.2.2.2.1
theorem dX9_state_125 : decode cX9_state 125 = .ok (.aload_n 3, 1) := dq_g166.2.2.2.2.2.2.2.2.2.2.2.2.2.2.2.1
theorem dX9_state_126 : decode cX9_state 126 = .ok (.getfield 181, 3) := dq_g166.2.2.2.2.2.2.2.2.2.2.2.2.2.2.2.2.1
theorem dX9_state_129 : decode cX9_state 129 = .ok (.iconst 2, 1) := dq_g166.2.2.2.2.2.2.2.2.2.2.2.2.2.2.2.2.2.1
theorem dX9_state_130 : decode cX9_state 130 = .ok (.iaload, 1) := dq_g166.2.2.2.2.2.2.2.2.2.2.2.2.2.2.2.2.2.2.1
theorem dX9_state_131 : decode cX9_state 131 = .ok (.ireturn, 1) := dq_g166.2.2.2.2.2.2.2.2.2.2.2.2.2.2.2.2.2.2.2.1
theorem dX9_state_132 : decode cX9_state 132 = .ok (.aload_n 3, 1) := dq_g166.2.2.2.2.2.2.2.2.2.2.2.2.2.2.2.2.2.2.2.2.1
theorem dX9_state_133 : decode cX9_state 133 = .ok (.getfield 200, 3) := dq_g166.2.2.2.2.2.2.2.2.2.2.2.2.2.2.2.2.2.2.2.2.2.1
theorem dX9_state_136 : decode cX9_state 136 = .ok (.ireturn, 1) := dq_g166.2.2.2.2.2.2.2.2.2.2.2.2.2.2.2.2.2.2.2.2.2.2.1
theorem dX9_state_137 : decode cX9_state 137 = .ok (.aload_n 0, 1) := dq_g166.2.2.2.2.2.2.2.2.2.2.2.2.2.2.2.2.2.2.2.2.2.2.2.1
theorem dX9_state_138 : decode cX9_state 138 = .ok (.aload_n 3, 1) := dq_g166.2.2.2.2.2.2.2.2.2.2.2.2.2.2.2.2.2.2.2.2.2.2.2.2.1
theorem dX9_state_139 : decode cX9_state 139 = .ok (.invokevirtual 203, 3) := dq_g166.2.2.2.2.2.2.2.2.2.2.2.2.2.2.2.2.2.2.2.2.2.2.2.2.2.1
theorem dX9_state_142 : decode cX9_state 142 = .ok (.ireturn, 1) := dq_g166.2.2.2.2.2.2.2.2.2.2.2.2.2.2.2.2.2.2.2.2.2.2.2.2.2.2.1
theorem dX9_state_143 : decode cX9_state 143 = .ok (.bipush (-2), 2) := dq_g166.2.2.2.2.2.2.2.2.2.2.2.2.2.2.2.2.2.2.2.2.2.2.2.2.2.2.2.1
theorem dX9_state_145 : decode cX9_state 145 = .ok (.ireturn, 1) := dq_g166.2.2.2.2.2.2.2.2.2.2.2.2.2.2.2.2.2.2.2.2.2.2.2.2.2.2.2.2.1
theorem dq_g167 : decode cX9_takes 0 = .ok (.aload_n 0, 1) ∧ decode cX9_takes 1 = .ok (.iload_n 1, 1) ∧ decode cX9_takes 2 = .ok (.invokevirtual 78, 3) ∧ decode cX9_takes 5 = .ok (.astore 4, 2) ∧ decode cX9_takes 7 = .ok (.aload 4, 2) ∧ decode cX9_takes 9 = .ok (.ifnull 30, 3) ∧ decode cX9_takes 12 = .ok (.aload 4, 2) ∧ decode cX9_takes 14 = .ok (.iload_n 2, 1) ∧ decode cX9_takes 15 = .ok (.invokevirtual 82, 3) ∧ decode cX9_takes 18 = .ok (.ifCond .eq 21, 3) ∧ decode cX9_takes 21 = .ok (.iload_n 3, 1) ∧ decode cX9_takes 22 = .ok (.invokestatic 150, 3) ∧ decode cX9_takes 25 = .ok (.ifCond .eq 14, 3) ∧ decode cX9_takes 28 = .ok (.aload 4, 2) ∧ decode cX9_takes 30 = .ok (.getfield 93, 3) ∧ decode cX9_takes 33 = .ok (.iload_n 2, 1) ∧ decode cX9_takes 34 = .ok (.iaload, 1) ∧ decode cX9_takes 35 = .ok (.iconst 1, 1) ∧ decode cX9_takes 36 = .ok (.if_icmp .gt 6, 3) ∧ decode cX9_takes 39 = .ok (.ldc 207, 2) ∧ decode cX9_takes 41 = .ok (.ireturn, 1) ∧ decode cX9_takes 42 = .ok (.aload 4, 2) ∧ decode cX9_takes 44 = .ok (.aload_n 0, 1) ∧ decode cX9_takes 45 = .ok (.getfield 61, 3) ∧ decode cX9_takes 48 = .ok (.iload_n 2, 1) ∧ decode cX9_takes 49 = .ok (.invokevirtual 208, 3) ∧ decode cX9_takes 52 = .ok (.aload_n 0, 1) ∧ decode cX9_takes 53 = .ok (.aload 4, 2) ∧ decode cX9_takes 55 = .ok (.iload_n 3, 1) ∧ decode cX9_takes 56 = .ok (.invokevirtual 166, 3) ∧ True := dqC_ok (c := cX9_takes) [(0, 1, some (.aload_n 0)), (1, 1, some (.iload_n 1)), (2, 3, some (.invokevirtual 78)), (5, 2, some (.astore 4)), (7, 2, some (.aload 4)), (9, 3, some (.ifnull 30)), (12, 2, some (.aload 4)), (14, 1, some (.iload_n 2)), (15, 3, some (.invokevirtual 82)), (18, 3, some (.ifCond .eq 21)), (21, 1, some (.iload_n 3)), (22, 3, some (.invokestatic 150)), (25, 3, some (.ifCond .eq 14)), (28, 2, some (.aload 4)), (30, 3, some (.getfield 93)), (33, 1, some (.iload_n 2)), (34, 1, some (.iaload)), (35, 1, some (.iconst 1)), (36, 3, some (.if_icmp .gt 6)), (39, 2, some (.ldc 207)), (41, 1, some (.ireturn)), (42, 2, some (.aload 4)), (44, 1, some (.aload_n 0)), (45, 3, some (.getfield 61)), (48, 1, some (.iload_n 2)), (49, 3, some (.invokevirtual 208)), (52, 1, some (.aload_n 0)), (53, 2, some (.aload 4)), (55, 1, some (.iload_n 3)), (56, 3, some (.invokevirtual 166))] _ 0 rfl (by decide +kernel)
theorem dX9_takes_0 : decode cX9_takes 0 = .ok (.aload_n 0, 1) := dq_g167.1
theorem dX9_takes_1 : decode cX9_takes 1 = .ok (.iload_n 1, 1) := dq_g167.2.1
theorem dX9_takes_2 : decode cX9_takes 2 = .ok (.invokevirtual 78, 3) := dq_g167.2.2.1
theorem dX9_takes_5 : decode cX9_takes 5 = .ok (.astore 4, 2) := dq_g167.2.2.2.1
theorem dX9_takes_7 : decode cX9_takes 7 = .ok (.aload 4, 2) := dq_g167.2.2.2.2.1
theorem dX9_takes_9 : decode cX9_takes 9 = .ok (.ifnull 30, 3) := dq_g167.2.2.2.2.2.1
theorem dX9_takes_12 : decode cX9_takes 12 = .ok (.aload 4, 2) := dq_g167.2.2.2.2.2.2.1
theorem dX9_takes_14 : decode cX9_takes 14 = .ok (.iload_n 2, 1) := dq_g167.2.2.2.2.2.2.2.1
theorem dX9_takes_15 : decode cX9_takes 15 = .ok (.invokevirtual 82, 3) := dq_g167.2.2.2.2.2.2.2.2.1
theorem dX9_takes_18 : decode cX9_takes 18 = .ok (.ifCond .eq 21, 3) := dq_g167.2.2.2.2.2.2.2.2.2.1
theorem dX9_takes_21 : decode cX9_takes 21 = .ok (.iload_n 3, 1) := dq_g167.2.2.2.2.2.2.2.2.2.2.1
theorem dX9_takes_22 : decode cX9_takes 22 = .ok (.invokestatic 150, 3) := dq_g167.2.2.2.2.2.2.2.2.2.2.2.1
theorem dX9_takes_25 : decode cX9_takes 25 = .ok (.ifCond .eq 14, 3) := dq_g167.2.2.2.2.2.2.2.2.2.2.2.2.1
theorem dX9_takes_28 : decode cX9_takes 28 = .ok (.aload 4, 2) := dq_g167.2.2.2.2.2.2.2.2.2.2.2.2.2.1
theorem dX9_takes_30 : decode cX9_takes 30 = .ok (.getfield 93, 3) := dq_g167.2.2.2.2.2.2.2.2.2.2.2.2.2.2.1
theorem dX9_takes_33 : decode cX9_takes 33 = .ok (.iload_n 2, 1) := dq_g167.2.2.2.2.2.2.2.2.2.2.2.2.2.2.2.1
theorem dX9_takes_34 : decode cX9_takes 34 = .ok (.iaload, 1) := dq_g167.2.2.2.2.2.2.2.2.2.2.2.2.2.2.2.2.1
theorem dX9_takes_35 : decode cX9_takes 35 = .ok (.iconst 1, 1) := dq_g167.2.2.2.2.2.2.2.2.2.2.2.2.2.2.2.2.2.1
theorem dX9_takes_36 : decode cX9_takes 36 = .ok (.if_icmp .gt 6, 3) := dq_g167.2.2.2.2.2.2.2.2.2.2.2.2.2.2.2.2.2.2.1
theorem dX9_takes_39 : decode cX9_takes 39 = .ok (.ldc 207, 2) := dq_g167.2.2.2.2.2.2.2.2.2.2.2.2.2.2.2.2.2.2.2.1
theorem dX9_takes_41 : decode cX9_takes 41 = .ok (.ireturn, 1) := dq_g167.2.2.2.2.2.2.2.2.2.2.2.2.2.2.2.2.2.2.2.2.1
theorem dX9_takes_42 : decode cX9_takes 42 = .ok (.aload 4, 2) := dq_g167.2.2.2.2.2.2.2.2.2.2.2.2.2.2.2.2.2.2.2.2.2.1
theorem dX9_takes_44 : decode cX9_takes 44 = .ok (.aload_n 0, 1) := dq_g167.2.2.2.2.2.2.2.2.2.2.2.2.2.2.2.2.2.2.2.2.2.2.1
theorem dX9_takes_45 : decode cX9_takes 45 = .ok (.getfield 61, 3) := dq_g167.2.2.2.2.2.2.2.2.2.2.2.2.2.2.2.2.2.2.2.2.2.2.2.1
theorem dX9_takes_48 : decode cX9_takes 48 = .ok (.iload_n 2, 1) := dq_g167.2.2.2.2.2.2.2.2.2.2.2.2.2.2.2.2.2.2.2.2.2.2.2.2.1
theorem dX9_takes_49 : decode cX9_takes 49 = .ok (.invokevirtual 208, 3) := dq_g167.2.2.2.2.2.2.2.2.2.2.2.2.2.2.2.2.2.2.2.2.2.2.2.2.2.1
theorem dX9_takes_52 : decode cX9_takes 52 = .ok (.aload_n 0, 1) := dq_g167.2.2.2.2.2.2.2.2.2.2.2.2.2.2.2.2.2.2.2.2.2.2.2.2.2.2.1
theorem dX9_takes_53 : decode cX9_takes 53 = .ok (.aload 4, 2) := dq_g167.2.2.2.2.2.2.2.2.2.2.2.2.2.2.2.2.2.2.2.2.2.2.2.2.2.2.2.1
theorem dX9_takes_55 : decode cX9_takes 55 = .ok (.iload_n 3, 1) := dq_g167.2.2.2.2.2.2.2.2.2.2.2.2.2.2.2.2.2.2.2.2.2.2.2.2.2.2.2.2.1
theorem dX9_takes_56 : decode cX9_takes 56 = .ok (.invokevirtual 166, 3) := dq_g167.2.2.2.2.2.2.2.2.2.2.2.2.2.2.2.2.2.2.2.2.2.2.2.2.2.2.2.2.2.1
theorem dq_g168 : decode cX9_takes 59 = .ok (.aload_n 0, 1) ∧ decode cX9_takes 60 = .ok (.getfield 30, 3) ∧ decode cX9_takes 63 = .ok (.aload_n 0, 1) ∧ decode cX9_takes 64 = .ok (.getfield 12, 3) ∧ decode cX9_takes 67 = .ok (.invokevirtual 212, 3) ∧ decode cX9_takes 70 = .ok (.iload_n 3, 1) ∧ decode cX9_takes 71 = .ok (.aload 4, 2) ∧ decode cX9_takes 73 = .ok (.aload_n 0, 1) ∧ decode cX9_takes 74 = .ok (.getfield 61, 3) ∧ decode cX9_takes 77 = .ok (.aload 4, 2) ∧ decode cX9_takes 79 = .ok (.getfield 96, 3) ∧ decode cX9_takes 82 = .ok (.aload 4, 2) ∧ decode cX9_takes 84 = .ok (.getfield 102, 3) ∧ decode cX9_takes 87 = .ok (.invokevirtual 216, 3) ∧ decode cX9_takes 90 = .ok (.isub, 1) ∧ decode cX9_takes 91 = .ok (.ireturn, 1) ∧ True := dqC_ok (c := cX9_takes) [(59, 1, some (.aload_n 0)), (60, 3, some (.getfield 30)), (63, 1, some (.aload_n 0)), (64, 3, some (.getfield 12)), (67, 3, some (.invokevirtual 212)), (70, 1, some (.iload_n 3)), (71, 2, some (.aload 4)), (73, 1, some (.aload_n 0)), (74, 3, some (.getfield 61)), (77, 2, some (.aload 4)), (79, 3, some (.getfield 96)), (82, 2, some (.aload 4)), (84, 3, some (.getfield 102)), (87, 3, some (.invokevirtual 216)), (90, 1, some (.isub)), (91, 1, some (.ireturn))] _ 59 rfl (by decide +kernel)
theorem dX9_takes_59 : decode cX9_takes 59 = .ok (.aload_n 0, 1) := dq_g168.1
theorem dX9_takes_60 : decode cX9_takes 60 = .ok (.getfield 30, 3) := dq_g168.2.1
theorem dX9_takes_63 : decode cX9_takes 63 = .ok (.aload_n 0, 1) := dq_g168.2.2.1
theorem dX9_takes_64 : decode cX9_takes 64 = .ok (.getfield 12, 3) := dq_g168.2.2.2.1
theorem dX9_takes_67 : decode cX9_takes 67 = .ok (.invokevirtual 212, 3) := dq_g168.2.2.2.2.1
theorem dX9_takes_70 : decode cX9_takes 70 = .ok (.iload_n 3, 1) := dq_g168.2.2.2.2.2.1
theorem dX9_takes_71 : decode cX9_takes 71 = .ok (.aload 4, 2) := dq_g168.2.2.2.2.2.2.1
theorem dX9_takes_73 : decode cX9_takes 73 = .ok (.aload_n 0, 1) := dq_g168.2.2.2.2.2.2.2.1
theorem dX9_takes_74 : decode cX9_takes 74 = .ok (.getfield 61, 3) := dq_g168.2.2.2.2.2.2.2.2.1
theorem dX9_takes_77 : decode cX9_takes 77 = .ok (.aload 4, 2) := dq_g168.2.2.2.2.2.2.2.2.2.1
theorem dX9_takes_79 : decode cX9_takes 79 = .ok (.getfield 96, 3) := dq_g168.2.2.2.2.2.2.2.2.2.2.1
theorem dX9_takes_82 : decode cX9_takes 82 = .ok (.aload 4, 2) := dq_g168.2.2.2.2.2.2.2.2.2.2.2.1
theorem dX9_takes_84 : decode cX9_takes 84 = .ok (.getfield 102, 3) := dq_g168.2.2.2.2.2.2.2.2.2.2.2.2.1
theorem dX9_takes_87 : decode cX9_takes 87 = .ok (.invokevirtual 216, 3) := dq_g168.2.2.2.2.2.2.2.2.2.2.2.2.2.1
theorem dX9_takes_90 : decode cX9_takes 90 = .ok (.isub, 1) := dq_g168.2.2.2.2.2.2.2.2.2.2.2.2.2.2.1
theorem dX9_takes_91 : decode cX9_takes 91 = .ok (.ireturn, 1) := dq_g168.2.2.2.2.2.2.2.2.2.2.2.2.2.2.2.1
theorem dq_g169 : decode cX9_job 0 = .ok (.aload_n 0, 1) ∧ decode cX9_job 1 = .ok (.iload_n 2, 1) ∧ decode cX9_job 2 = .ok (.invokevirtual 78, 3) ∧ decode cX9_job 5 = .ok (.astore_n 3, 1) ∧ decode cX9_job 6 = .ok (.aload_n 3, 1) ∧ decode cX9_job 7 = .ok (.ifnull 12, 3) ∧ decode cX9_job 10 = .ok (.iload_n 1, 1) ∧ decode cX9_job 11 = .ok (.iconst 0, 1) ∧ decode cX9_job 12 = .ok (.iconst 3, 1) ∧ decode cX9_job 13 = .ok (.invokestatic 89, 3) ∧ decode cX9_job 16 = .ok (.ifCond .ne 5, 3) ∧ decode cX9_job 19 = .ok (.iconst (-1), 1) ∧ decode cX9_job 20 = .ok (.ireturn, 1) ∧ decode cX9_job 21 = .ok (.aload_n 3, 1) ∧ decode cX9_job 22 = .ok (.getfield 86, 3) ∧ decode cX9_job 25 = .ok (.istore 4, 2) ∧ decode cX9_job 27 = .ok (.aload_n 0, 1) ∧ decode cX9_job 28 = .ok (.getfield 12, 3) ∧ decode cX9_job 31 = .ok (.getfield 220, 3) ∧ decode cX9_job 34 = .ok (.iload_n 1, 1) ∧ decode cX9_job 35 = .ok (.aaload, 1) ∧ decode cX9_job 36 = .ok (.astore 5, 2) ∧ decode cX9_job 38 = .ok (.iconst 0, 1) ∧ decode cX9_job 39 = .ok (.istore 6, 2) ∧ decode cX9_job 41 = .ok (.iload 6, 2) ∧ decode cX9_job 43 = .ok (.aload 5, 2) ∧ decode cX9_job 45 = .ok (.getfield 144, 3) ∧ decode cX9_job 48 = .ok (.if_icmp .ge 30, 3) ∧ decode cX9_job 51 = .ok (.aload_n 0, 1) ∧ decode cX9_job 52 = .ok (.aload 5, 2) ∧ True := dqC_ok (c := cX9_job) [(0, 1, some (.aload_n 0)), (1, 1, some (.iload_n 2)), (2, 3, some (.invokevirtual 78)), (5, 1, some (.astore_n 3)), (6, 1, some (.aload_n 3)), (7, 3, some (.ifnull 12)), (10, 1, some (.iload_n 1)), (11, 1, some (.iconst 0)), (12, 1, some (.iconst 3)), (13, 3, some (.invokestatic 89)), (16, 3, some (.ifCond .ne 5)), (19, 1, some (.iconst (-1))), (20, 1, some (.ireturn)), (21, 1, some (.aload_n 3)), (22, 3, some (.getfield 86)), (25, 2, some (.istore 4)), (27, 1, some (.aload_n 0)), (28, 3, some (.getfield 12)), (31, 3, some (.getfield 220)), (34, 1, some (.iload_n 1)), (35, 1, some (.aaload)), (36, 2, some (.astore 5)), (38, 1, some (.iconst 0)), (39, 2, some (.istore 6)), (41, 2, some (.iload 6)), (43, 2, some (.aload 5)), (45, 3, some (.getfield 144)), (48, 3, some (.if_icmp .ge 30)), (51, 1, some (.aload_n 0)), (52, 2, some (.aload 5))] _ 0 rfl (by decide +kernel)
theorem dX9_job_0 : decode cX9_job 0 = .ok (.aload_n 0, 1) := dq_g169.1
theorem dX9_job_1 : decode cX9_job 1 = .ok (.iload_n 2, 1) := dq_g169.2.1
theorem dX9_job_2 : decode cX9_job 2 = .ok (.invokevirtual 78, 3) := dq_g169.2.2.1
theorem dX9_job_5 : decode cX9_job 5 = .ok (.astore_n 3, 1) := dq_g169.2.2.2.1
theorem dX9_job_6 : decode cX9_job 6 = .ok (.aload_n 3, 1) := dq_g169.2.2.2.2.1
theorem dX9_job_7 : decode cX9_job 7 = .ok (.ifnull 12, 3) := dq_g169.2.2.2.2.2.1
theorem dX9_job_10 : decode cX9_job 10 = .ok (.iload_n 1, 1) := dq_g169.2.2.2.2.2.2.1
theorem dX9_job_11 : decode cX9_job 11 = .ok (.iconst 0, 1) := dq_g169.2.2.2.2.2.2.2.1
theorem dX9_job_12 : decode cX9_job 12 = .ok (.iconst 3, 1) := dq_g169.2.2.2.2.2.2.2.2.1
theorem dX9_job_13 : decode cX9_job 13 = .ok (.invokestatic 89, 3) := dq_g169.2.2.2.2.2.2.2.2.2.1
theorem dX9_job_16 : decode cX9_job 16 = .ok (.ifCond .ne 5, 3) := dq_g169.2.2.2.2.2.2.2.2.2.2.1
theorem dX9_job_19 : decode cX9_job 19 = .ok (.iconst (-1), 1) := dq_g169.2.2.2.2.2.2.2.2.2.2.2.1
theorem dX9_job_20 : decode cX9_job 20 = .ok (.ireturn, 1) := dq_g169.2.2.2.2.2.2.2.2.2.2.2.2.1
theorem dX9_job_21 : decode cX9_job 21 = .ok (.aload_n 3, 1) := dq_g169.2.2.2.2.2.2.2.2.2.2.2.2.2.1
theorem dX9_job_22 : decode cX9_job 22 = .ok (.getfield 86, 3) := dq_g169.2.2.2.2.2.2.2.2.2.2.2.2.2.2.1
theorem dX9_job_25 : decode cX9_job 25 = .ok (.istore 4, 2) := dq_g169.2.2.2.2.2.2.2.2.2.2.2.2.2.2.2.1
theorem dX9_job_27 : decode cX9_job 27 = .ok (.aload_n 0, 1) := dq_g169.2.2.2.2.2.2.2.2.2.2.2.2.2.2.2.2.1
theorem dX9_job_28 : decode cX9_job 28 = .ok (.getfield 12, 3) := dq_g169.2.2.2.2.2.2.2.2.2.2.2.2.2.2.2.2.2.1
theorem dX9_job_31 : decode cX9_job 31 = .ok (.getfield 220, 3) := dq_g169.2.2.2.2.2.2.2.2.2.2.2.2.2.2.2.2.2.2.1
theorem dX9_job_34 : decode cX9_job 34 = .ok (.iload_n 1, 1) := dq_g169.2.2.2.2.2.2.2.2.2.2.2.2.2.2.2.2.2.2.2.1
theorem dX9_job_35 : decode cX9_job 35 = .ok (.aaload, 1) := dq_g169.2.2.2.2.2.2.2.2.2.2.2.2.2.2.2.2.2.2.2.2.1
theorem dX9_job_36 : decode cX9_job 36 = .ok (.astore 5, 2) := dq_g169.2.2.2.2.2.2.2.2.2.2.2.2.2.2.2.2.2.2.2.2.2.1
theorem dX9_job_38 : decode cX9_job 38 = .ok (.iconst 0, 1) := dq_g169.2.2.2.2.2.2.2.2.2.2.2.2.2.2.2.2.2.2.2.2.2.2.1
theorem dX9_job_39 : decode cX9_job 39 = .ok (.istore 6, 2) := dq_g169.2.2.2.2.2.2.2.2.2.2.2.2.2.2.2.2.2.2.2.2.2.2.2.1
theorem dX9_job_41 : decode cX9_job 41 = .ok (.iload 6, 2) := dq_g169.2.2.2.2.2.2.2.2.2.2.2.2.2.2.2.2.2.2.2.2.2.2.2.2.1
theorem dX9_job_43 : decode cX9_job 43 = .ok (.aload 5, 2) := dq_g169.2.2.2.2.2.2.2.2.2.2.2.2.2.2.2.2.2.2.2.2.2.2.2.2.2.1
theorem dX9_job_45 : decode cX9_job 45 = .ok (.getfield 144, 3) := dq_g169.2.2.2.2.2.2.2.2.2.2.2.2.2.2.2.2.2.2.2.2.2.2.2.2.2.2.1
theorem dX9_job_48 : decode cX9_job 48 = .ok (.if_icmp .ge 30, 3) := dq_g169.2.2.2.2.2.2.2.2.2.2.2.2.2.2.2.2.2.2.2.2.2.2.2.2.2.2.2.1
theorem dX9_job_51 : decode cX9_job 51 = .ok (.aload_n 0, 1) := dq_g169.2.2.2.2.2.2.2.2.2.2.2.2.2.2.2.2.2.2.2.2.2.2.2.2.2.2.2.2.1
theorem dX9_job_52 : decode cX9_job 52 = .ok (.aload 5, 2) := dq_g169.2.2.2.2.2.2.2.2.2.2.2.2.2.2.2.2.2.2.2.2.2.2.2.2.2.2.2.2.2.1
theorem dq_g170 : decode cX9_job 54 = .ok (.iload 6, 2) ∧ decode cX9_job 56 = .ok (.aload_n 3, 1) ∧ decode cX9_job 57 = .ok (.invokevirtual 223, 3) ∧ decode cX9_job 60 = .ok (.ifCond .eq 12, 3) ∧ decode cX9_job 63 = .ok (.aload_n 0, 1) ∧ decode cX9_job 64 = .ok (.aload 5, 2) ∧ decode cX9_job 66 = .ok (.iload 6, 2) ∧ decode cX9_job 68 = .ok (.aload_n 3, 1) ∧ decode cX9_job 69 = .ok (.invokevirtual 227, 3) ∧ decode cX9_job 72 = .ok (.iinc 6 1, 3) ∧ decode cX9_job 75 = .ok (.goto (-34), 3) ∧ decode cX9_job 78 = .ok (.aload_n 3, 1) ∧ decode cX9_job 79 = .ok (.getfield 86, 3) ∧ decode cX9_job 82 = .ok (.iload 4, 2) ∧ decode cX9_job 84 = .ok (.isub, 1) ∧ decode cX9_job 85 = .ok (.ireturn, 1) ∧ True := dqC_ok (c := cX9_job) [(54, 2, some (.iload 6)), (56, 1, some (.aload_n 3)), (57, 3, some (.invokevirtual 223)), (60, 3, some (.ifCond .eq 12)), (63, 1, some (.aload_n 0)), (64, 2, some (.aload 5)), (66, 2, some (.iload 6)), (68, 1, some (.aload_n 3)), (69, 3, some (.invokevirtual 227)), (72, 3, some (.iinc 6 1)), (75, 3, some (.goto (-34))), (78, 1, some (.aload_n 3)), (79, 3, some (.getfield 86)), (82, 2, some (.iload 4)), (84, 1, some (.isub)), (85, 1, some (.ireturn))] _ 54 rfl (by decide +kernel)
theorem dX9_job_54 : decode cX9_job 54 = .ok (.iload 6, 2) := dq_g170.1
theorem dX9_job_56 : decode cX9_job 56 = .ok (.aload_n 3, 1) := dq_g170.2.1
theorem dX9_job_57 : decode cX9_job 57 = .ok (.invokevirtual 223, 3) := dq_g170.2.2.1
theorem dX9_job_60 : decode cX9_job 60 = .ok (.ifCond .eq 12, 3) := dq_g170.2.2.2.1
theorem dX9_job_63 : decode cX9_job 63 = .ok (.aload_n 0, 1) := dq_g170.2.2.2.2.1
theorem dX9_job_64 : decode cX9_job 64 = .ok (.aload 5, 2) := dq_g170.2.2.2.2.2.1
theorem dX9_job_66 : decode cX9_job 66 = .ok (.iload 6, 2) := dq_g170.2.2.2.2.2.2.1
theorem dX9_job_68 : decode cX9_job 68 = .ok (.aload_n 3, 1) := dq_g170.2.2.2.2.2.2.2.1
theorem dX9_job_69 : decode cX9_job 69 = .ok (.invokevirtual 227, 3) := dq_g170.2.2.2.2.2.2.2.2.1
theorem dX9_job_72 : decode cX9_job 72 = .ok (.iinc 6 1, 3) := dq_g170.2.2.2.2.2.2.2.2.2.1
theorem dX9_job_75 : decode cX9_job 75 = .ok (.goto (-34), 3) := dq_g170.2.2.2.2.2.2.2.2.2.2.1
theorem dX9_job_78 : decode cX9_job 78 = .ok (.aload_n 3, 1) := dq_g170.2.2.2.2.2.2.2.2.2.2.2.1
theorem dX9_job_79 : decode cX9_job 79 = .ok (.getfield 86, 3) := dq_g170.2.2.2.2.2.2.2.2.2.2.2.2.1
theorem dX9_job_82 : decode cX9_job 82 = .ok (.iload 4, 2) := dq_g170.2.2.2.2.2.2.2.2.2.2.2.2.2.1
theorem dX9_job_84 : decode cX9_job 84 = .ok (.isub, 1) := dq_g170.2.2.2.2.2.2.2.2.2.2.2.2.2.2.1
theorem dX9_job_85 : decode cX9_job 85 = .ok (.ireturn, 1) := dq_g170.2.2.2.2.2.2.2.2.2.2.2.2.2.2.2.1
theorem dq_g171 : decode cX9_fewest 0 = .ok (.aload_n 0, 1) ∧ decode cX9_fewest 1 = .ok (.iload_n 1, 1) ∧ decode cX9_fewest 2 = .ok (.invokevirtual 78, 3) ∧ decode cX9_fewest 5 = .ok (.astore_n 3, 1) ∧ decode cX9_fewest 6 = .ok (.aload_n 3, 1) ∧ decode cX9_fewest 7 = .ok (.ifnull 21, 3) ∧ decode cX9_fewest 10 = .ok (.aload_n 3, 1) ∧ decode cX9_fewest 11 = .ok (.getfield 187, 3) ∧ decode cX9_fewest 14 = .ok (.bipush 8, 2) ∧ decode cX9_fewest 16 = .ok (.if_icmp .gt 12, 3) ∧ decode cX9_fewest 19 = .ok (.iload_n 2, 1) ∧ decode cX9_fewest 20 = .ok (.iconst 0, 1) ∧ decode cX9_fewest 21 = .ok (.iconst 5, 1) ∧ decode cX9_fewest 22 = .ok (.invokestatic 89, 3) ∧ decode cX9_fewest 25 = .ok (.ifCond .ne 5, 3) ∧ decode cX9_fewest 28 = .ok (.iconst (-1), 1) ∧ decode cX9_fewest 29 = .ok (.ireturn, 1) ∧ decode cX9_fewest 30 = .ok (.aload_n 0, 1) ∧ decode cX9_fewest 31 = .ok (.getfield 37, 3) ∧ decode cX9_fewest 34 = .ok (.aload_n 0, 1) ∧ decode cX9_fewest 35 = .ok (.getfield 30, 3) ∧ decode cX9_fewest 38 = .ok (.aload_n 0, 1) ∧ decode cX9_fewest 39 = .ok (.getfield 12, 3) ∧ decode cX9_fewest 42 = .ok (.invokevirtual 212, 3) ∧ decode cX9_fewest 45 = .ok (.aload_n 3, 1) ∧ decode cX9_fewest 46 = .ok (.aload_n 0, 1) ∧ decode cX9_fewest 47 = .ok (.getfield 12, 3) ∧ decode cX9_fewest 50 = .ok (.getfield 184, 3) ∧ decode cX9_fewest 53 = .ok (.invokevirtual 231, 3) ∧ decode cX9_fewest 56 = .ok (.aload_n 0, 1) ∧ True := dqC_ok (c := cX9_fewest) [(0, 1, some (.aload_n 0)), (1, 1, some (.iload_n 1)), (2, 3, some (.invokevirtual 78)), (5, 1, some (.astore_n 3)), (6, 1, some (.aload_n 3)), (7, 3, some (.ifnull 21)), (10, 1, some (.aload_n 3)), (11, 3, some (.getfield 187)), (14, 2, some (.bipush 8)), (16, 3, some (.if_icmp .gt 12)), (19, 1, some (.iload_n 2)), (20, 1, some (.iconst 0)), (21, 1, some (.iconst 5)), (22, 3, some (.invokestatic 89)), (25, 3, some (.ifCond .ne 5)), (28, 1, some (.iconst (-1))), (29, 1, some (.ireturn)), (30, 1, some (.aload_n 0)), (31, 3, some (.getfield 37)), (34, 1, some (.aload_n 0)), (35, 3, some (.getfield 30)), (38, 1, some (.aload_n 0)), (39, 3, some (.getfield 12)), (42, 3, some (.invokevirtual 212)), (45, 1, some (.aload_n 3)), (46, 1, some (.aload_n 0)), (47, 3, some (.getfield 12)), (50, 3, some (.getfield 184)), (53, 3, some (.invokevirtual 231)), (56, 1, some (.aload_n 0))] _ 0 rfl (by decide +kernel)
theorem dX9_fewest_0 : decode cX9_fewest 0 = .ok (.aload_n 0, 1) := dq_g171.1
theorem dX9_fewest_1 : decode cX9_fewest 1 = .ok (.iload_n 1, 1) := dq_g171.2.1
theorem dX9_fewest_2 : decode cX9_fewest 2 = .ok (.invokevirtual 78, 3) := dq_g171.2.2.1
theorem dX9_fewest_5 : decode cX9_fewest 5 = .ok (.astore_n 3, 1) := dq_g171.2.2.2.1
theorem dX9_fewest_6 : decode cX9_fewest 6 = .ok (.aload_n 3, 1) := dq_g171.2.2.2.2.1
theorem dX9_fewest_7 : decode cX9_fewest 7 = .ok (.ifnull 21, 3) := dq_g171.2.2.2.2.2.1
theorem dX9_fewest_10 : decode cX9_fewest 10 = .ok (.aload_n 3, 1) := dq_g171.2.2.2.2.2.2.1
theorem dX9_fewest_11 : decode cX9_fewest 11 = .ok (.getfield 187, 3) := dq_g171.2.2.2.2.2.2.2.1
theorem dX9_fewest_14 : decode cX9_fewest 14 = .ok (.bipush 8, 2) := dq_g171.2.2.2.2.2.2.2.2.1
theorem dX9_fewest_16 : decode cX9_fewest 16 = .ok (.if_icmp .gt 12, 3) := dq_g171.2.2.2.2.2.2.2.2.2.1
theorem dX9_fewest_19 : decode cX9_fewest 19 = .ok (.iload_n 2, 1) := dq_g171.2.2.2.2.2.2.2.2.2.2.1
theorem dX9_fewest_20 : decode cX9_fewest 20 = .ok (.iconst 0, 1) := dq_g171.2.2.2.2.2.2.2.2.2.2.2.1
theorem dX9_fewest_21 : decode cX9_fewest 21 = .ok (.iconst 5, 1) := dq_g171.2.2.2.2.2.2.2.2.2.2.2.2.1
theorem dX9_fewest_22 : decode cX9_fewest 22 = .ok (.invokestatic 89, 3) := dq_g171.2.2.2.2.2.2.2.2.2.2.2.2.2.1
theorem dX9_fewest_25 : decode cX9_fewest 25 = .ok (.ifCond .ne 5, 3) := dq_g171.2.2.2.2.2.2.2.2.2.2.2.2.2.2.1
theorem dX9_fewest_28 : decode cX9_fewest 28 = .ok (.iconst (-1), 1) := dq_g171.2.2.2.2.2.2.2.2.2.2.2.2.2.2.2.1
theorem dX9_fewest_29 : decode cX9_fewest 29 = .ok (.ireturn, 1) := dq_g171.2.2.2.2.2.2.2.2.2.2.2.2.2.2.2.2.1
theorem dX9_fewest_30 : decode cX9_fewest 30 = .ok (.aload_n 0, 1) := dq_g171.2.2.2.2.2.2.2.2.2.2.2.2.2.2.2.2.2.1
theorem dX9_fewest_31 : decode cX9_fewest 31 = .ok (.getfield 37, 3) := dq_g171.2.2.2.2.2.2.2.2.2.2.2.2.2.2.2.2.2.2.1
theorem dX9_fewest_34 : decode cX9_fewest 34 = .ok (.aload_n 0, 1) := dq_g171.2.2.2.2.2.2.2.2.2.2.2.2.2.2.2.2.2.2.2.1
theorem dX9_fewest_35 : decode cX9_fewest 35 = .ok (.getfield 30, 3) := dq_g171.2.2.2.2.2.2.2.2.2.2.2.2.2.2.2.2.2.2.2.2.1
theorem dX9_fewest_38 : decode cX9_fewest 38 = .ok (.aload_n 0, 1) := dq_g171.2.2.2.2.2.2.2.2.2.2.2.2.2.2.2.2.2.2.2.2.2.1
theorem dX9_fewest_39 : decode cX9_fewest 39 = .ok (.getfield 12, 3) := dq_g171.2.2.2.2.2.2.2.2.2.2.2.2.2.2.2.2.2.2.2.2.2.2.1
theorem dX9_fewest_42 : decode cX9_fewest 42 = .ok (.invokevirtual 212, 3) := dq_g171.2.2.2.2.2.2.2.2.2.2.2.2.2.2.2.2.2.2.2.2.2.2.2.1
theorem dX9_fewest_45 : decode cX9_fewest 45 = .ok (.aload_n 3, 1) := dq_g171.2.2.2.2.2.2.2.2.2.2.2.2.2.2.2.2.2.2.2.2.2.2.2.2.1
theorem dX9_fewest_46 : decode cX9_fewest 46 = .ok (.aload_n 0, 1) := dq_g171.2.2.2.2.2.2.2.2.2.2.2.2.2.2.2.2.2.2.2.2.2.2.2.2.2.1
theorem dX9_fewest_47 : decode cX9_fewest 47 = .ok (.getfield 12, 3) := dq_g171.2.2.2.2.2.2.2.2.2.2.2.2.2.2.2.2.2.2.2.2.2.2.2.2.2.2.1
theorem dX9_fewest_50 : decode cX9_fewest 50 = .ok (.getfield 184, 3) := dq_g171.2.2.2.2.2.2.2.2.2.2.2.2.2.2.2.2.2.2.2.2.2.2.2.2.2.2.2.1
theorem dX9_fewest_53 : decode cX9_fewest 53 = .ok (.invokevirtual 231, 3) := dq_g171.2.2.2.2.2.2.2.2.2.2.2.2.2.2.2.2.2.2.2.2.2.2.2.2.2.2.2.2.1
theorem dX9_fewest_56 : decode cX9_fewest 56 = .ok (.aload_n 0, 1) := dq_g171.2.2.2.2.2.2.2.2.2.2.2.2.2.2.2.2.2.2.2.2.2.2.2.2.2.2.2.2.2.1
